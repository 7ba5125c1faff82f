def X8_odds_L47 (x2 : Int32) (x3 : Int32) (x5 : Int32) (k107 : Mem → Int64 → Option (Mem × Int32)) : Nat → Mem → Int64 → Int32 → Option (Mem × Int32)
  | 0, _, _, _ => none
  | n + 1, σ, x6, x8 => (if x5 < x8 then k107 σ x6 else (if (x8 &&& (x5 ^^^ (-1 : Int32))) = 0 then ((X8_setBy σ ((x5 &&& (x8 ^^^ (-1 : Int32))))).bind fun q6 => (X8_isOut q6.1 x2).bind fun q7 => if q7.2 = 0 then (lt_ ((x6 + (0 : Int64))) fun (v8 : Int64) => X8_odds_L47 x2 x3 x5 k107 n q7.1 v8 ((x8 + (1 : Int32)))) else ((X8_weight q7.1 x8 x5 x3).bind fun q10 => (lt_ ((x6 + q10.2)) fun (v11 : Int64) => X8_odds_L47 x2 x3 x5 k107 n q10.1 v11 ((x8 + (1 : Int32)))))) else (X8_odds_L47 x2 x3 x5 k107 n σ x6 ((x8 + (1 : Int32))))))
def X8_odds_J20 (σ : Mem) (x1 : Int32) (x2 : Int32) (x3 : Int32) (z0 : Int32) : Option (Mem × Int32) := (if 0 ≤ z0 then ((X8_laySheet σ x1).bind fun q3 => (X8_onSet q3.1).bind fun q4 => X8_odds_L47 x2 x3 q4.2 (fun (s14 : Mem) (y6_13 : Int64) => ((X8_whole s14 q4.2).bind fun q15 => (X8_part q15.1 y6_13 q15.2).bind fun q16 => some (q16.1, q16.2))) FU q4.1 (0 : Int64) (0 : Int32)) else (some (σ, z0)))
def X8_odds (σ : Mem) (a1 : Int32) (a2 : Int32) (a3 : Int32) : Option (Mem × Int32) := ((X8_in σ a3 (0 : Int32) (12 : Int32)).bind fun q1 => if q1.2 = 0 then (X8_odds_J20 q1.1 a1 a2 a3 (-1 : Int32)) else ((X8_askedBoth q1.1 a1 a2).bind fun q2 => X8_odds_J20 q2.1 a1 a2 a3 q2.2))
set_option maxRecDepth 100000 in
set_option maxHeartbeats 4000000 in
theorem t_X8_odds_L47 (X : GX) (x2 : Int32) (x3 : Int32) (x5 : Int32) (k107 : Mem → Int64 → Option (Mem × Int32)) (hk107 : ∀ (σ : Mem) (y6 : Int64), GS (KM enI X) X mX8_odds σ 107 [(0, .ref (xad X (98))), (5, .int x5), (6, .long y6)] [] (k107 σ y6)) : ∀ (n : Nat) (σ : Mem) (x6 : Int64) (x8 : Int32), GS (KM enI X) X mX8_odds σ 47 [(0, .ref (xad X (98))), (2, .int x2), (3, .int x3), (5, .int x5), (6, .long x6), (8, .int x8)] [] (X8_odds_L47 x2 x3 x5 k107 n σ x6 x8) := by
  intro n
  induction n with
  | zero => intros; exact g_none
  | succ n ih =>
    intro σ x6 x8
    rw [X8_odds_L47]
    refine g_iload 5 dX8_odds_47 rfl ?_
    refine g_iload 3 dX8_odds_49 rfl ?_
    refine g_icmp_gt 107 dX8_odds_51 rfl (fun _ => ?_) (fun _ => ?_)
    · refine g_sub [0, 3, 4] rfl ?_
      exact hk107 σ x6
    · refine g_iload 5 dX8_odds_54 rfl ?_
      refine g_iload 3 dX8_odds_56 rfl ?_
      refine g_iconst (-1 : Int32) dX8_odds_58 (by decide) ?_
      refine g_ixor dX8_odds_59 ?_
      refine g_iand dX8_odds_60 ?_
      refine g_if_ne 101 dX8_odds_61 rfl (fun _ => ?_) (fun _ => ?_)
      · refine g_iinc 5 [(8, .int ((x8 + (1 : Int32)))), (0, .ref (xad X (98))), (2, .int x2), (3, .int x3), (5, .int x5), (6, .long x6)] dX8_odds_101 rfl (v := x8 + (1 : Int32)) rfl (by decide) rfl ?_
        refine g_goto 47 dX8_odds_104 rfl ?_
        refine g_sub [1, 2, 3, 4, 5, 0] rfl ?_
        exact ih σ x6 ((x8 + (1 : Int32)))
      · refine g_aload_n 0 dX8_odds_64 rfl ?_
        refine g_iload 3 dX8_odds_65 rfl ?_
        refine g_iload 5 dX8_odds_67 rfl ?_
        refine g_iconst (-1 : Int32) dX8_odds_69 (by decide) ?_
        refine g_ixor dX8_odds_70 ?_
        refine g_iand dX8_odds_71 ?_
        refine g_callVV (c_X8_setBy σ ((x5 &&& (x8 ^^^ (-1 : Int32))))) okX8_setBy ⟨by decide, by decide⟩ ml_X8_188 sh_98 no_98 rfl rfl [.int ((x5 &&& (x8 ^^^ (-1 : Int32))))] rfl rfl rfl (Nat.le_of_ble_eq_true rfl) dX8_odds_72 (fun q6 => ?_)
        refine g_lload 4 dX8_odds_75 rfl ?_
        refine g_aload_n 0 dX8_odds_77 rfl ?_
        refine g_iload_n 1 dX8_odds_78 rfl ?_
        refine g_callVI (c_X8_isOut q6.1 x2) okX8_isOut ⟨by decide, by decide⟩ ml_X8_225 sh_98 no_98 rfl rfl [.int x2] rfl rfl rfl (Nat.le_of_ble_eq_true rfl) dX8_odds_79 (fun q7 => ?_)
        refine g_if_eq 97 dX8_odds_82 rfl (fun _ => ?_) (fun _ => ?_)
        · refine g_lconst (0 : Int64) dX8_odds_97 (by decide) ?_
          refine g_ladd dX8_odds_98 ?_
          refine g_topl (fun v8 => ?_)
          refine g_lstore [(6, .long v8), (0, .ref (xad X (98))), (2, .int x2), (3, .int x3), (5, .int x5), (8, .int x8)] dX8_odds_99 (by decide) rfl ?_
          refine g_iinc 5 [(8, .int ((x8 + (1 : Int32)))), (6, .long v8), (0, .ref (xad X (98))), (2, .int x2), (3, .int x3), (5, .int x5)] dX8_odds_101 rfl (v := x8 + (1 : Int32)) rfl (by decide) rfl ?_
          refine g_goto 47 dX8_odds_104 rfl ?_
          refine g_sub [2, 3, 4, 5, 1, 0] rfl ?_
          exact ih q7.1 v8 ((x8 + (1 : Int32)))
        · refine g_aload_n 0 dX8_odds_85 rfl ?_
          refine g_iload 5 dX8_odds_86 rfl ?_
          refine g_iload 3 dX8_odds_88 rfl ?_
          refine g_iload_n 2 dX8_odds_90 rfl ?_
          refine g_callVJ (c_X8_weight q7.1 x8 x5 x3) okX8_weight ⟨by decide, by decide⟩ ml_X8_264 sh_98 no_98 rfl rfl [.int x8, .int x5, .int x3] rfl rfl rfl (Nat.le_of_ble_eq_true rfl) dX8_odds_91 (fun q10 => ?_)
          refine g_goto 98 dX8_odds_94 rfl ?_
          refine g_ladd dX8_odds_98 ?_
          refine g_topl (fun v11 => ?_)
          refine g_lstore [(6, .long v11), (0, .ref (xad X (98))), (2, .int x2), (3, .int x3), (5, .int x5), (8, .int x8)] dX8_odds_99 (by decide) rfl ?_
          refine g_iinc 5 [(8, .int ((x8 + (1 : Int32)))), (6, .long v11), (0, .ref (xad X (98))), (2, .int x2), (3, .int x3), (5, .int x5)] dX8_odds_101 rfl (v := x8 + (1 : Int32)) rfl (by decide) rfl ?_
          refine g_goto 47 dX8_odds_104 rfl ?_
          refine g_sub [2, 3, 4, 5, 1, 0] rfl ?_
          exact ih q10.1 v11 ((x8 + (1 : Int32)))

set_option maxRecDepth 100000 in
set_option maxHeartbeats 4000000 in
theorem t_X8_odds_J20 (X : GX) (σ : Mem) (x1 : Int32) (x2 : Int32) (x3 : Int32) (z0 : Int32) : GS (KM enI X) X mX8_odds σ 20 [(0, .ref (xad X (98))), (1, .int x1), (2, .int x2), (3, .int x3)] [.int z0] (X8_odds_J20 σ x1 x2 x3 z0) := by
  unfold X8_odds_J20
  refine g_istore [(4, .int z0), (0, .ref (xad X (98))), (1, .int x1), (2, .int x2), (3, .int x3)] dX8_odds_20 (by decide) rfl ?_
  refine g_iload 0 dX8_odds_22 rfl ?_
  refine g_if_ge 30 dX8_odds_24 rfl (fun _ => ?_) (fun _ => ?_)
  · refine g_aload_n 1 dX8_odds_30 rfl ?_
    refine g_iload_n 2 dX8_odds_31 rfl ?_
    refine g_callVV (c_X8_laySheet σ x1) okX8_laySheet ⟨by decide, by decide⟩ ml_X8_204 sh_98 no_98 rfl rfl [.int x1] rfl rfl rfl (Nat.le_of_ble_eq_true rfl) dX8_odds_32 (fun q3 => ?_)
    refine g_aload_n 1 dX8_odds_35 rfl ?_
    refine g_callVI (c_X8_onSet q3.1) okX8_onSet ⟨by decide, by decide⟩ ml_X8_184 sh_98 no_98 rfl rfl [] rfl rfl rfl (Nat.le_of_ble_eq_true rfl) dX8_odds_36 (fun q4 => ?_)
    refine g_istore [(5, .int (q4.2)), (4, .int z0), (0, .ref (xad X (98))), (1, .int x1), (2, .int x2), (3, .int x3)] dX8_odds_39 (by decide) rfl ?_
    refine g_lconst (0 : Int64) dX8_odds_41 (by decide) ?_
    refine g_lstore [(6, .long ((0 : Int64))), (5, .int (q4.2)), (4, .int z0), (0, .ref (xad X (98))), (1, .int x1), (2, .int x2), (3, .int x3)] dX8_odds_42 (by decide) rfl ?_
    refine g_iconst (0 : Int32) dX8_odds_44 (by decide) ?_
    refine g_istore [(8, .int ((0 : Int32))), (6, .long ((0 : Int64))), (5, .int (q4.2)), (4, .int z0), (0, .ref (xad X (98))), (1, .int x1), (2, .int x2), (3, .int x3)] dX8_odds_45 (by decide) rfl ?_
    refine g_sub [4, 6, 7, 2, 1, 0] rfl ?_
    refine t_X8_odds_L47 X x2 x3 q4.2 _ (fun s14 y6_13 => ?_) FU q4.1 (0 : Int64) (0 : Int32)
    refine g_aload_n 0 dX8_odds_107 rfl ?_
    refine g_lload 2 dX8_odds_108 rfl ?_
    refine g_aload_n 0 dX8_odds_110 rfl ?_
    refine g_iload 1 dX8_odds_111 rfl ?_
    refine g_callVJ (c_X8_whole s14 q4.2) okX8_whole ⟨by decide, by decide⟩ ml_X8_268 sh_98 no_98 rfl rfl [.int (q4.2)] rfl rfl rfl (Nat.le_of_ble_eq_true rfl) dX8_odds_113 (fun q15 => ?_)
    refine g_callVI (c_X8_part q15.1 y6_13 q15.2) okX8_part ⟨by decide, by decide⟩ ml_X8_228 sh_98 no_98 rfl rfl [.long y6_13, .long (q15.2)] rfl rfl rfl (Nat.le_of_ble_eq_true rfl) dX8_odds_116 (fun q16 => ?_)
    exact g_iret rfl dX8_odds_119
  · refine g_iload 0 dX8_odds_27 rfl ?_
    exact g_iret rfl dX8_odds_29

set_option maxRecDepth 100000 in
set_option maxHeartbeats 4000000 in
theorem c_X8_odds (σ : Mem) (a1 : Int32) (a2 : Int32) (a3 : Int32) : CT yX8_odds mX8_odds enI (fun ad => [.ref (ad (98)), .int a1, .int a2, .int a3]) σ (X8_odds σ a1 a2 a3) := by
  refine CT.of (by decide) rfl (fun _ => Nat.le_of_ble_eq_true rfl) (fun X => ?_)
  show GS (KM enI X) X mX8_odds σ 0 [(0, .ref (xad X (98))), (1, .int a1), (2, .int a2), (3, .int a3)] [] _
  unfold X8_odds
  refine g_iload_n 3 dX8_odds_0 rfl ?_
  refine g_iconst (0 : Int32) dX8_odds_1 (by decide) ?_
  refine g_bipush (12 : Int32) dX8_odds_2 (by decide) ?_
  refine g_callSI (c_X8_in σ a3 (0 : Int32) (12 : Int32)) okX8_in ⟨by decide, by decide⟩ ml_X8_83 rfl rfl (Nat.le_of_ble_eq_true rfl) dX8_odds_4 (fun q1 => ?_)
  refine g_if_ne 14 dX8_odds_7 rfl (fun _ => ?_) (fun _ => ?_)
  · refine g_aload_n 0 dX8_odds_14 rfl ?_
    refine g_iload_n 1 dX8_odds_15 rfl ?_
    refine g_iload_n 2 dX8_odds_16 rfl ?_
    refine g_callVI (c_X8_askedBoth q1.1 a1 a2) okX8_askedBoth ⟨by decide, by decide⟩ ml_X8_259 sh_98 no_98 rfl rfl [.int a1, .int a2] rfl rfl rfl (Nat.le_of_ble_eq_true rfl) dX8_odds_17 (fun q2 => ?_)
    refine g_sub [0, 1, 2, 3] rfl ?_
    exact t_X8_odds_J20 X q2.1 a1 a2 a3 q2.2
  · refine g_iconst (-1 : Int32) dX8_odds_10 (by decide) ?_
    refine g_goto 20 dX8_odds_11 rfl ?_
    refine g_sub [0, 1, 2, 3] rfl ?_
    exact t_X8_odds_J20 X q1.1 a1 a2 a3 (-1 : Int32)

def X8_mid_L45 (x2 : Int32) (x4 : Int32) (k99 : Mem → Int64 → Option (Mem × Int32)) : Nat → Mem → Int64 → Int32 → Option (Mem × Int32)
  | 0, _, _, _ => none
  | n + 1, σ, x5, x7 => (if x4 < x7 then k99 σ x5 else (if (x7 &&& (x4 ^^^ (-1 : Int32))) = 0 then ((X8_setBy σ ((x4 &&& (x7 ^^^ (-1 : Int32))))).bind fun q6 => (X8_weight q6.1 x7 x4 x2).bind fun q7 => lt_ ((x5 + (q7.2 * (q7.1.1 818 0 0).toInt64))) fun (v8 : Int64) => X8_mid_L45 x2 x4 k99 n q7.1 v8 ((x7 + (1 : Int32)))) else (X8_mid_L45 x2 x4 k99 n σ x5 ((x7 + (1 : Int32))))))
def X8_mid_J21 (σ : Mem) (x1 : Int32) (x2 : Int32) (z0 : Int32) : Option (Mem × Int32) := (if 0 ≤ z0 then ((X8_laySheet σ x1).bind fun q3 => (X8_onSet q3.1).bind fun q4 => X8_mid_L45 x2 q4.2 (fun (s11 : Mem) (y5_10 : Int64) => ((X8_whole s11 q4.2).bind fun q12 => (X8_part q12.1 y5_10 q12.2).bind fun q13 => some (q13.1, q13.2))) FU q4.1 (0 : Int64) (0 : Int32)) else (some (σ, z0)))
def X8_mid (σ : Mem) (a1 : Int32) (a2 : Int32) : Option (Mem × Int32) := ((X8_in σ a2 (0 : Int32) (12 : Int32)).bind fun q1 => if q1.2 = 0 then (X8_mid_J21 q1.1 a1 a2 (-1 : Int32)) else ((X8_askedSigns q1.1 a1 (8 : Int32)).bind fun q2 => X8_mid_J21 q2.1 a1 a2 q2.2))
set_option maxRecDepth 100000 in
set_option maxHeartbeats 4000000 in
theorem t_X8_mid_L45 (X : GX) (x2 : Int32) (x4 : Int32) (k99 : Mem → Int64 → Option (Mem × Int32)) (hk99 : ∀ (σ : Mem) (y5 : Int64), GS (KM enI X) X mX8_mid σ 99 [(0, .ref (xad X (98))), (4, .int x4), (5, .long y5)] [] (k99 σ y5)) : ∀ (n : Nat) (σ : Mem) (x5 : Int64) (x7 : Int32), GS (KM enI X) X mX8_mid σ 45 [(0, .ref (xad X (98))), (2, .int x2), (4, .int x4), (5, .long x5), (7, .int x7)] [] (X8_mid_L45 x2 x4 k99 n σ x5 x7) := by
  intro n
  induction n with
  | zero => intros; exact g_none
  | succ n ih =>
    intro σ x5 x7
    rw [X8_mid_L45]
    refine g_iload 4 dX8_mid_45 rfl ?_
    refine g_iload 2 dX8_mid_47 rfl ?_
    refine g_icmp_gt 99 dX8_mid_49 rfl (fun _ => ?_) (fun _ => ?_)
    · refine g_sub [0, 2, 3] rfl ?_
      exact hk99 σ x5
    · refine g_iload 4 dX8_mid_52 rfl ?_
      refine g_iload 2 dX8_mid_54 rfl ?_
      refine g_iconst (-1 : Int32) dX8_mid_56 (by decide) ?_
      refine g_ixor dX8_mid_57 ?_
      refine g_iand dX8_mid_58 ?_
      refine g_if_ne 93 dX8_mid_59 rfl (fun _ => ?_) (fun _ => ?_)
      · refine g_iinc 4 [(7, .int ((x7 + (1 : Int32)))), (0, .ref (xad X (98))), (2, .int x2), (4, .int x4), (5, .long x5)] dX8_mid_93 rfl (v := x7 + (1 : Int32)) rfl (by decide) rfl ?_
        refine g_goto 45 dX8_mid_96 rfl ?_
        refine g_sub [1, 2, 3, 4, 0] rfl ?_
        exact ih σ x5 ((x7 + (1 : Int32)))
      · refine g_aload_n 0 dX8_mid_62 rfl ?_
        refine g_iload 2 dX8_mid_63 rfl ?_
        refine g_iload 4 dX8_mid_65 rfl ?_
        refine g_iconst (-1 : Int32) dX8_mid_67 (by decide) ?_
        refine g_ixor dX8_mid_68 ?_
        refine g_iand dX8_mid_69 ?_
        refine g_callVV (c_X8_setBy σ ((x4 &&& (x7 ^^^ (-1 : Int32))))) okX8_setBy ⟨by decide, by decide⟩ ml_X8_188 sh_98 no_98 rfl rfl [.int ((x4 &&& (x7 ^^^ (-1 : Int32))))] rfl rfl rfl (Nat.le_of_ble_eq_true rfl) dX8_mid_70 (fun q6 => ?_)
        refine g_lload 3 dX8_mid_73 rfl ?_
        refine g_aload_n 0 dX8_mid_75 rfl ?_
        refine g_iload 4 dX8_mid_76 rfl ?_
        refine g_iload 2 dX8_mid_78 rfl ?_
        refine g_iload_n 1 dX8_mid_80 rfl ?_
        refine g_callVJ (c_X8_weight q6.1 x7 x4 x2) okX8_weight ⟨by decide, by decide⟩ ml_X8_264 sh_98 no_98 rfl rfl [.int x7, .int x4, .int x2] rfl rfl rfl (Nat.le_of_ble_eq_true rfl) dX8_mid_81 (fun q7 => ?_)
        refine g_aload_n 0 dX8_mid_84 rfl ?_
        refine gf_X8_18 fl_X8_161 dX8_mid_85 ?_
        refine g_i2l dX8_mid_88 ?_
        refine g_lmul dX8_mid_89 ?_
        refine g_ladd dX8_mid_90 ?_
        refine g_topl (fun v8 => ?_)
        refine g_lstore [(5, .long v8), (0, .ref (xad X (98))), (2, .int x2), (4, .int x4), (7, .int x7)] dX8_mid_91 (by decide) rfl ?_
        refine g_iinc 4 [(7, .int ((x7 + (1 : Int32)))), (5, .long v8), (0, .ref (xad X (98))), (2, .int x2), (4, .int x4)] dX8_mid_93 rfl (v := x7 + (1 : Int32)) rfl (by decide) rfl ?_
        refine g_goto 45 dX8_mid_96 rfl ?_
        refine g_sub [2, 3, 4, 1, 0] rfl ?_
        exact ih q7.1 v8 ((x7 + (1 : Int32)))

set_option maxRecDepth 100000 in
set_option maxHeartbeats 4000000 in
theorem t_X8_mid_J21 (X : GX) (σ : Mem) (x1 : Int32) (x2 : Int32) (z0 : Int32) : GS (KM enI X) X mX8_mid σ 21 [(0, .ref (xad X (98))), (1, .int x1), (2, .int x2)] [.int z0] (X8_mid_J21 σ x1 x2 z0) := by
  unfold X8_mid_J21
  refine g_istore_n [(3, .int z0), (0, .ref (xad X (98))), (1, .int x1), (2, .int x2)] dX8_mid_21 (by decide) rfl ?_
  refine g_iload_n 0 dX8_mid_22 rfl ?_
  refine g_if_ge 28 dX8_mid_23 rfl (fun _ => ?_) (fun _ => ?_)
  · refine g_aload_n 1 dX8_mid_28 rfl ?_
    refine g_iload_n 2 dX8_mid_29 rfl ?_
    refine g_callVV (c_X8_laySheet σ x1) okX8_laySheet ⟨by decide, by decide⟩ ml_X8_204 sh_98 no_98 rfl rfl [.int x1] rfl rfl rfl (Nat.le_of_ble_eq_true rfl) dX8_mid_30 (fun q3 => ?_)
    refine g_aload_n 1 dX8_mid_33 rfl ?_
    refine g_callVI (c_X8_onSet q3.1) okX8_onSet ⟨by decide, by decide⟩ ml_X8_184 sh_98 no_98 rfl rfl [] rfl rfl rfl (Nat.le_of_ble_eq_true rfl) dX8_mid_34 (fun q4 => ?_)
    refine g_istore [(4, .int (q4.2)), (3, .int z0), (0, .ref (xad X (98))), (1, .int x1), (2, .int x2)] dX8_mid_37 (by decide) rfl ?_
    refine g_lconst (0 : Int64) dX8_mid_39 (by decide) ?_
    refine g_lstore [(5, .long ((0 : Int64))), (4, .int (q4.2)), (3, .int z0), (0, .ref (xad X (98))), (1, .int x1), (2, .int x2)] dX8_mid_40 (by decide) rfl ?_
    refine g_iconst (0 : Int32) dX8_mid_42 (by decide) ?_
    refine g_istore [(7, .int ((0 : Int32))), (5, .long ((0 : Int64))), (4, .int (q4.2)), (3, .int z0), (0, .ref (xad X (98))), (1, .int x1), (2, .int x2)] dX8_mid_43 (by decide) rfl ?_
    refine g_sub [4, 6, 2, 1, 0] rfl ?_
    refine t_X8_mid_L45 X x2 q4.2 _ (fun s11 y5_10 => ?_) FU q4.1 (0 : Int64) (0 : Int32)
    refine g_aload_n 0 dX8_mid_99 rfl ?_
    refine g_lload 2 dX8_mid_100 rfl ?_
    refine g_aload_n 0 dX8_mid_102 rfl ?_
    refine g_iload 1 dX8_mid_103 rfl ?_
    refine g_callVJ (c_X8_whole s11 q4.2) okX8_whole ⟨by decide, by decide⟩ ml_X8_268 sh_98 no_98 rfl rfl [.int (q4.2)] rfl rfl rfl (Nat.le_of_ble_eq_true rfl) dX8_mid_105 (fun q12 => ?_)
    refine g_callVI (c_X8_part q12.1 y5_10 q12.2) okX8_part ⟨by decide, by decide⟩ ml_X8_228 sh_98 no_98 rfl rfl [.long y5_10, .long (q12.2)] rfl rfl rfl (Nat.le_of_ble_eq_true rfl) dX8_mid_108 (fun q13 => ?_)
    exact g_iret rfl dX8_mid_111
  · refine g_iload_n 0 dX8_mid_26 rfl ?_
    exact g_iret rfl dX8_mid_27

set_option maxRecDepth 100000 in
set_option maxHeartbeats 4000000 in
theorem c_X8_mid (σ : Mem) (a1 : Int32) (a2 : Int32) : CT yX8_mid mX8_mid enI (fun ad => [.ref (ad (98)), .int a1, .int a2]) σ (X8_mid σ a1 a2) := by
  refine CT.of (by decide) rfl (fun _ => Nat.le_of_ble_eq_true rfl) (fun X => ?_)
  show GS (KM enI X) X mX8_mid σ 0 [(0, .ref (xad X (98))), (1, .int a1), (2, .int a2)] [] _
  unfold X8_mid
  refine g_iload_n 2 dX8_mid_0 rfl ?_
  refine g_iconst (0 : Int32) dX8_mid_1 (by decide) ?_
  refine g_bipush (12 : Int32) dX8_mid_2 (by decide) ?_
  refine g_callSI (c_X8_in σ a2 (0 : Int32) (12 : Int32)) okX8_in ⟨by decide, by decide⟩ ml_X8_83 rfl rfl (Nat.le_of_ble_eq_true rfl) dX8_mid_4 (fun q1 => ?_)
  refine g_if_ne 14 dX8_mid_7 rfl (fun _ => ?_) (fun _ => ?_)
  · refine g_aload_n 0 dX8_mid_14 rfl ?_
    refine g_iload_n 1 dX8_mid_15 rfl ?_
    refine g_bipush (8 : Int32) dX8_mid_16 (by decide) ?_
    refine g_callVI (c_X8_askedSigns q1.1 a1 (8 : Int32)) okX8_askedSigns ⟨by decide, by decide⟩ ml_X8_201 sh_98 no_98 rfl rfl [.int a1, .int ((8 : Int32))] rfl rfl rfl (Nat.le_of_ble_eq_true rfl) dX8_mid_18 (fun q2 => ?_)
    refine g_sub [0, 1, 2] rfl ?_
    exact t_X8_mid_J21 X q2.1 a1 a2 q2.2
  · refine g_iconst (-1 : Int32) dX8_mid_10 (by decide) ?_
    refine g_goto 21 dX8_mid_11 rfl ?_
    refine g_sub [0, 1, 2] rfl ?_
    exact t_X8_mid_J21 X q1.1 a1 a2 (-1 : Int32)

def X8_print_L60 (x3 : Int32) (k109 : Mem → Option (Mem × Int32)) : Nat → Mem → Int32 → Option (Mem × Int32)
  | 0, _, _ => none
  | n + 1, σ, x4 => (if (σ.1 818 0 0) ≤ x4 then k109 σ else (ck x4 16 <| ck ((x3 + (1 : Int32)) + x4) 680 <| ck x4 16 <| ck (((uI σ 828 0 ((x3 + (1 : Int32)) + x4).toNatClampNeg (σ.1 817 0 x4.toNatClampNeg))).1 817 0 x4.toNatClampNeg) 6 <| ck (((uI σ 828 0 ((x3 + (1 : Int32)) + x4).toNatClampNeg (σ.1 817 0 x4.toNatClampNeg))).1 817 0 x4.toNatClampNeg) 6 <| X8_print_L60 x3 k109 n ((uI ((uI σ 828 0 ((x3 + (1 : Int32)) + x4).toNatClampNeg (σ.1 817 0 x4.toNatClampNeg))) 827 0 (((uI σ 828 0 ((x3 + (1 : Int32)) + x4).toNatClampNeg (σ.1 817 0 x4.toNatClampNeg))).1 817 0 x4.toNatClampNeg).toNatClampNeg ((((uI σ 828 0 ((x3 + (1 : Int32)) + x4).toNatClampNeg (σ.1 817 0 x4.toNatClampNeg))).1 827 0 (((uI σ 828 0 ((x3 + (1 : Int32)) + x4).toNatClampNeg (σ.1 817 0 x4.toNatClampNeg))).1 817 0 x4.toNatClampNeg).toNatClampNeg) + (1 : Int32)))) ((x4 + (1 : Int32)))))
def X8_print (σ : Mem) (a1 : Int32) : Option (Mem × Int32) := ((X8_askedSigns σ a1 (8 : Int32)).bind fun q1 => if 0 ≤ q1.2 then (if (q1.1.1 826 0 0) = (40 : Int32) then (some (q1.1, (-2 : Int32))) else ((X8_laySheet q1.1 a1).bind fun q2 => (X8_onSet q2.1).bind fun q3 => (X8_setBy q3.1 q3.2).bind fun q4 => lt_ (((17 : Int32) * (q4.1.1 826 0 0))) fun (v5 : Int32) => ck v5 680 <| X8_print_L60 v5 (fun (s8 : Mem) => (some ((uI s8 826 0 0 (((s8.1 826 0 0) + (1 : Int32)))), (((uI s8 826 0 0 (((s8.1 826 0 0) + (1 : Int32))))).1 818 0 0)))) FU ((uI q4.1 828 0 v5.toNatClampNeg (q4.1.1 818 0 0))) (0 : Int32))) else (some (q1.1, q1.2)))
set_option maxRecDepth 100000 in
set_option maxHeartbeats 4000000 in
theorem t_X8_print_L60 (X : GX) (x3 : Int32) (k109 : Mem → Option (Mem × Int32)) (hk109 : ∀ (σ : Mem), GS (KM enI X) X mX8_print σ 109 [(0, .ref (xad X (98)))] [] (k109 σ)) : ∀ (n : Nat) (σ : Mem) (x4 : Int32), GS (KM enI X) X mX8_print σ 60 [(0, .ref (xad X (98))), (3, .int x3), (4, .int x4)] [] (X8_print_L60 x3 k109 n σ x4) := by
  intro n
  induction n with
  | zero => intros; exact g_none
  | succ n ih =>
    intro σ x4
    rw [X8_print_L60]
    refine g_iload 2 dX8_print_60 rfl ?_
    refine g_aload_n 0 dX8_print_62 rfl ?_
    refine gf_X8_18 fl_X8_161 dX8_print_63 ?_
    refine g_icmp_ge 109 dX8_print_66 rfl (fun _ => ?_) (fun _ => ?_)
    · refine g_sub [0] rfl ?_
      exact hk109 σ
    · refine g_aload_n 0 dX8_print_69 rfl ?_
      refine gf_X8_28 fl_X8_67 dX8_print_70 ?_
      refine g_iload_n 1 dX8_print_73 rfl ?_
      refine g_iconst (1 : Int32) dX8_print_74 (by decide) ?_
      refine g_iadd dX8_print_75 ?_
      refine g_iload 2 dX8_print_76 rfl ?_
      refine g_iadd dX8_print_78 ?_
      refine g_aload_n 0 dX8_print_79 rfl ?_
      refine gf_X8_17 fl_X8_41 dX8_print_80 ?_
      refine g_iload 2 dX8_print_83 rfl ?_
      refine g_iald sh_108 no_108 dX8_print_85 (fun _ => ?_)
      refine g_iast sh_116 no_116 dX8_print_86 (fun _ => ?_)
      refine g_aload_n 0 dX8_print_87 rfl ?_
      refine gf_X8_27 fl_X8_64 dX8_print_88 ?_
      refine g_aload_n 0 dX8_print_91 rfl ?_
      refine gf_X8_17 fl_X8_41 dX8_print_92 ?_
      refine g_iload 2 dX8_print_95 rfl ?_
      refine g_iald sh_108 no_108 dX8_print_97 (fun _ => ?_)
      refine g_dup2 dX8_print_98 rfl rfl ?_
      refine g_iald sh_115 no_115 dX8_print_99 (fun _ => ?_)
      refine g_iconst (1 : Int32) dX8_print_100 (by decide) ?_
      refine g_iadd dX8_print_101 ?_
      refine g_iast sh_115 no_115 dX8_print_102 (fun _ => ?_)
      refine g_iinc 2 [(4, .int ((x4 + (1 : Int32)))), (0, .ref (xad X (98))), (3, .int x3)] dX8_print_103 rfl (v := x4 + (1 : Int32)) rfl (by decide) rfl ?_
      refine g_goto 60 dX8_print_106 rfl ?_
      refine g_sub [1, 2, 0] rfl ?_
      exact ih ((uI ((uI σ 828 0 ((x3 + (1 : Int32)) + x4).toNatClampNeg (σ.1 817 0 x4.toNatClampNeg))) 827 0 (((uI σ 828 0 ((x3 + (1 : Int32)) + x4).toNatClampNeg (σ.1 817 0 x4.toNatClampNeg))).1 817 0 x4.toNatClampNeg).toNatClampNeg ((((uI σ 828 0 ((x3 + (1 : Int32)) + x4).toNatClampNeg (σ.1 817 0 x4.toNatClampNeg))).1 827 0 (((uI σ 828 0 ((x3 + (1 : Int32)) + x4).toNatClampNeg (σ.1 817 0 x4.toNatClampNeg))).1 817 0 x4.toNatClampNeg).toNatClampNeg) + (1 : Int32)))) ((x4 + (1 : Int32)))

set_option maxRecDepth 100000 in
set_option maxHeartbeats 4000000 in
theorem c_X8_print (σ : Mem) (a1 : Int32) : CT yX8_print mX8_print enI (fun ad => [.ref (ad (98)), .int a1]) σ (X8_print σ a1) := by
  refine CT.of (by decide) rfl (fun _ => Nat.le_of_ble_eq_true rfl) (fun X => ?_)
  show GS (KM enI X) X mX8_print σ 0 [(0, .ref (xad X (98))), (1, .int a1)] [] _
  unfold X8_print
  refine g_aload_n 0 dX8_print_0 rfl ?_
  refine g_iload_n 1 dX8_print_1 rfl ?_
  refine g_bipush (8 : Int32) dX8_print_2 (by decide) ?_
  refine g_callVI (c_X8_askedSigns σ a1 (8 : Int32)) okX8_askedSigns ⟨by decide, by decide⟩ ml_X8_201 sh_98 no_98 rfl rfl [.int a1, .int ((8 : Int32))] rfl rfl rfl (Nat.le_of_ble_eq_true rfl) dX8_print_4 (fun q1 => ?_)
  refine g_istore_n [(2, .int (q1.2)), (0, .ref (xad X (98))), (1, .int a1)] dX8_print_7 (by decide) rfl ?_
  refine g_iload_n 0 dX8_print_8 rfl ?_
  refine g_if_ge 14 dX8_print_9 rfl (fun _ => ?_) (fun _ => ?_)
  · refine g_aload_n 1 dX8_print_14 rfl ?_
    refine gf_X8_26 fl_X8_142 dX8_print_15 ?_
    refine g_bipush (40 : Int32) dX8_print_18 (by decide) ?_
    refine g_icmp_ne 26 dX8_print_20 rfl (fun _ => ?_) (fun _ => ?_)
    · refine g_aload_n 1 dX8_print_26 rfl ?_
      refine g_iload_n 2 dX8_print_27 rfl ?_
      refine g_callVV (c_X8_laySheet q1.1 a1) okX8_laySheet ⟨by decide, by decide⟩ ml_X8_204 sh_98 no_98 rfl rfl [.int a1] rfl rfl rfl (Nat.le_of_ble_eq_true rfl) dX8_print_28 (fun q2 => ?_)
      refine g_aload_n 1 dX8_print_31 rfl ?_
      refine g_aload_n 1 dX8_print_32 rfl ?_
      refine g_callVI (c_X8_onSet q2.1) okX8_onSet ⟨by decide, by decide⟩ ml_X8_184 sh_98 no_98 rfl rfl [] rfl rfl rfl (Nat.le_of_ble_eq_true rfl) dX8_print_33 (fun q3 => ?_)
      refine g_callVV (c_X8_setBy q3.1 q3.2) okX8_setBy ⟨by decide, by decide⟩ ml_X8_188 sh_98 no_98 rfl rfl [.int (q3.2)] rfl rfl rfl (Nat.le_of_ble_eq_true rfl) dX8_print_36 (fun q4 => ?_)
      refine g_bipush (17 : Int32) dX8_print_39 (by decide) ?_
      refine g_aload_n 1 dX8_print_41 rfl ?_
      refine gf_X8_26 fl_X8_142 dX8_print_42 ?_
      refine g_imul dX8_print_45 ?_
      refine g_topi (fun v5 => ?_)
      refine g_istore_n [(3, .int v5), (2, .int (q1.2)), (0, .ref (xad X (98))), (1, .int a1)] dX8_print_46 (by decide) rfl ?_
      refine g_aload_n 2 dX8_print_47 rfl ?_
      refine gf_X8_28 fl_X8_67 dX8_print_48 ?_
      refine g_iload_n 0 dX8_print_51 rfl ?_
      refine g_aload_n 2 dX8_print_52 rfl ?_
      refine gf_X8_18 fl_X8_161 dX8_print_53 ?_
      refine g_iast sh_116 no_116 dX8_print_56 (fun _ => ?_)
      refine g_iconst (0 : Int32) dX8_print_57 (by decide) ?_
      refine g_istore [(4, .int ((0 : Int32))), (3, .int v5), (2, .int (q1.2)), (0, .ref (xad X (98))), (1, .int a1)] dX8_print_58 (by decide) rfl ?_
      refine g_sub [3, 1, 0] rfl ?_
      refine t_X8_print_L60 X v5 _ (fun s8 => ?_) FU ((uI q4.1 828 0 v5.toNatClampNeg (q4.1.1 818 0 0))) (0 : Int32)
      refine g_aload_n 0 dX8_print_109 rfl ?_
      refine g_dup dX8_print_110 rfl ?_
      refine gf_X8_26 fl_X8_142 dX8_print_111 ?_
      refine g_iconst (1 : Int32) dX8_print_114 (by decide) ?_
      refine g_iadd dX8_print_115 ?_
      refine pf_X8_26 fl_X8_142 dX8_print_116 ?_
      refine g_aload_n 0 dX8_print_119 rfl ?_
      refine gf_X8_18 fl_X8_161 dX8_print_120 ?_
      exact g_iret rfl dX8_print_123
    · refine g_bipush (-2 : Int32) dX8_print_23 (by decide) ?_
      exact g_iret rfl dX8_print_25
  · refine g_iload_n 0 dX8_print_12 rfl ?_
    exact g_iret rfl dX8_print_13

def X8_ink (σ : Mem) (a1 : Int32) : Option (Mem × Int32) := ((X8_isSign σ a1).bind fun q1 => if q1.2 = 0 then (some (q1.1, (-1 : Int32))) else (ck a1 6 <| (some (q1.1, (q1.1.1 827 0 a1.toNatClampNeg)))))
set_option maxRecDepth 100000 in
set_option maxHeartbeats 4000000 in
theorem c_X8_ink (σ : Mem) (a1 : Int32) : CT yX8_ink mX8_ink enI (fun ad => [.ref (ad (98)), .int a1]) σ (X8_ink σ a1) := by
  refine CT.of (by decide) rfl (fun _ => Nat.le_of_ble_eq_true rfl) (fun X => ?_)
  show GS (KM enI X) X mX8_ink σ 0 [(0, .ref (xad X (98))), (1, .int a1)] [] _
  unfold X8_ink
  refine g_iload_n 1 dX8_ink_0 rfl ?_
  refine g_callSI (c_X8_isSign σ a1) okX8_isSign ⟨by decide, by decide⟩ ml_X8_174 rfl rfl (Nat.le_of_ble_eq_true rfl) dX8_ink_1 (fun q1 => ?_)
  refine g_if_eq 16 dX8_ink_4 rfl (fun _ => ?_) (fun _ => ?_)
  · refine g_iconst (-1 : Int32) dX8_ink_16 (by decide) ?_
    exact g_iret rfl dX8_ink_17
  · refine g_aload_n 0 dX8_ink_7 rfl ?_
    refine gf_X8_27 fl_X8_64 dX8_ink_8 ?_
    refine g_iload_n 1 dX8_ink_11 rfl ?_
    refine g_iald sh_115 no_115 dX8_ink_12 (fun _ => ?_)
    refine g_goto 17 dX8_ink_13 rfl ?_
    exact g_iret rfl dX8_ink_17

def X8_undo_L40 (x1 : Int32) (x2 : Int32) (x3 : Int32) (x4 : Int32) (k79 : Mem → Option (Mem × Int32)) : Nat → Mem → Int32 → Option (Mem × Int32)
  | 0, _, _ => none
  | n + 1, σ, x5 => (ck x4 680 <| if (σ.1 828 0 x4.toNatClampNeg) ≤ x5 then k79 σ else (ck ((x4 + (1 : Int32)) + x5) 680 <| ck (σ.1 828 0 ((x4 + (1 : Int32)) + x5).toNatClampNeg) 6 <| ck (σ.1 828 0 ((x4 + (1 : Int32)) + x5).toNatClampNeg) 6 <| X8_undo_L40 x1 x2 x3 x4 k79 n ((uI σ 827 0 (σ.1 828 0 ((x4 + (1 : Int32)) + x5).toNatClampNeg).toNatClampNeg ((σ.1 827 0 (σ.1 828 0 ((x4 + (1 : Int32)) + x5).toNatClampNeg).toNatClampNeg) - (1 : Int32)))) ((x5 + (1 : Int32)))))
def X8_undo_L23 (x1 : Int32) (x2 : Int32) (k85 : Mem → Option (Mem × Int32)) : Nat → Mem → Int32 → Option (Mem × Int32)
  | 0, _, _ => none
  | n + 1, σ, x3 => (if (σ.1 826 0 0) ≤ x3 then k85 σ else (lt_ (((17 : Int32) * x3)) fun (v3 : Int32) => X8_undo_L40 x1 x2 x3 v3 (fun (s6 : Mem) => (X8_undo_L23 x1 x2 k85 n s6 ((x3 + (1 : Int32))))) FU σ (0 : Int32)))
def X8_undo (σ : Mem) (a1 : Int32) : Option (Mem × Int32) := ((X8_in σ a1 (0 : Int32) ((σ.1 826 0 0))).bind fun q1 => if q1.2 = 0 then (some (q1.1, (-1 : Int32))) else (lt_ (((q1.1.1 826 0 0) - a1)) fun (v2 : Int32) => X8_undo_L23 a1 v2 (fun (s9 : Mem) => (some ((uI s9 826 0 0 a1), v2))) FU q1.1 a1))
set_option maxRecDepth 100000 in
set_option maxHeartbeats 4000000 in
theorem t_X8_undo_L40 (X : GX) (x1 : Int32) (x2 : Int32) (x3 : Int32) (x4 : Int32) (k79 : Mem → Option (Mem × Int32)) (hk79 : ∀ (σ : Mem), GS (KM enI X) X mX8_undo σ 79 [(0, .ref (xad X (98))), (1, .int x1), (2, .int x2), (3, .int x3)] [] (k79 σ)) : ∀ (n : Nat) (σ : Mem) (x5 : Int32), GS (KM enI X) X mX8_undo σ 40 [(0, .ref (xad X (98))), (1, .int x1), (2, .int x2), (3, .int x3), (4, .int x4), (5, .int x5)] [] (X8_undo_L40 x1 x2 x3 x4 k79 n σ x5) := by
  intro n
  induction n with
  | zero => intros; exact g_none
  | succ n ih =>
    intro σ x5
    rw [X8_undo_L40]
    refine g_iload 5 dX8_undo_40 rfl ?_
    refine g_aload_n 0 dX8_undo_42 rfl ?_
    refine gf_X8_28 fl_X8_67 dX8_undo_43 ?_
    refine g_iload 4 dX8_undo_46 rfl ?_
    refine g_iald sh_116 no_116 dX8_undo_48 (fun _ => ?_)
    refine g_icmp_ge 79 dX8_undo_49 rfl (fun _ => ?_) (fun _ => ?_)
    · refine g_sub [0, 1, 2, 3] rfl ?_
      exact hk79 σ
    · refine g_aload_n 0 dX8_undo_52 rfl ?_
      refine gf_X8_27 fl_X8_64 dX8_undo_53 ?_
      refine g_aload_n 0 dX8_undo_56 rfl ?_
      refine gf_X8_28 fl_X8_67 dX8_undo_57 ?_
      refine g_iload 4 dX8_undo_60 rfl ?_
      refine g_iconst (1 : Int32) dX8_undo_62 (by decide) ?_
      refine g_iadd dX8_undo_63 ?_
      refine g_iload 5 dX8_undo_64 rfl ?_
      refine g_iadd dX8_undo_66 ?_
      refine g_iald sh_116 no_116 dX8_undo_67 (fun _ => ?_)
      refine g_dup2 dX8_undo_68 rfl rfl ?_
      refine g_iald sh_115 no_115 dX8_undo_69 (fun _ => ?_)
      refine g_iconst (1 : Int32) dX8_undo_70 (by decide) ?_
      refine g_isub dX8_undo_71 ?_
      refine g_iast sh_115 no_115 dX8_undo_72 (fun _ => ?_)
      refine g_iinc 5 [(5, .int ((x5 + (1 : Int32)))), (0, .ref (xad X (98))), (1, .int x1), (2, .int x2), (3, .int x3), (4, .int x4)] dX8_undo_73 rfl (v := x5 + (1 : Int32)) rfl (by decide) rfl ?_
      refine g_goto 40 dX8_undo_76 rfl ?_
      refine g_sub [1, 2, 3, 4, 5, 0] rfl ?_
      exact ih ((uI σ 827 0 (σ.1 828 0 ((x4 + (1 : Int32)) + x5).toNatClampNeg).toNatClampNeg ((σ.1 827 0 (σ.1 828 0 ((x4 + (1 : Int32)) + x5).toNatClampNeg).toNatClampNeg) - (1 : Int32)))) ((x5 + (1 : Int32)))

set_option maxRecDepth 100000 in
set_option maxHeartbeats 4000000 in
theorem t_X8_undo_L23 (X : GX) (x1 : Int32) (x2 : Int32) (k85 : Mem → Option (Mem × Int32)) (hk85 : ∀ (σ : Mem), GS (KM enI X) X mX8_undo σ 85 [(0, .ref (xad X (98))), (1, .int x1), (2, .int x2)] [] (k85 σ)) : ∀ (n : Nat) (σ : Mem) (x3 : Int32), GS (KM enI X) X mX8_undo σ 23 [(0, .ref (xad X (98))), (1, .int x1), (2, .int x2), (3, .int x3)] [] (X8_undo_L23 x1 x2 k85 n σ x3) := by
  intro n
  induction n with
  | zero => intros; exact g_none
  | succ n ih =>
    intro σ x3
    rw [X8_undo_L23]
    refine g_iload_n 3 dX8_undo_23 rfl ?_
    refine g_aload_n 0 dX8_undo_24 rfl ?_
    refine gf_X8_26 fl_X8_142 dX8_undo_25 ?_
    refine g_icmp_ge 85 dX8_undo_28 rfl (fun _ => ?_) (fun _ => ?_)
    · refine g_sub [0, 1, 2] rfl ?_
      exact hk85 σ
    · refine g_bipush (17 : Int32) dX8_undo_31 (by decide) ?_
      refine g_iload_n 3 dX8_undo_33 rfl ?_
      refine g_imul dX8_undo_34 ?_
      refine g_topi (fun v3 => ?_)
      refine g_istore [(4, .int v3), (0, .ref (xad X (98))), (1, .int x1), (2, .int x2), (3, .int x3)] dX8_undo_35 (by decide) rfl ?_
      refine g_iconst (0 : Int32) dX8_undo_37 (by decide) ?_
      refine g_istore [(5, .int ((0 : Int32))), (4, .int v3), (0, .ref (xad X (98))), (1, .int x1), (2, .int x2), (3, .int x3)] dX8_undo_38 (by decide) rfl ?_
      refine g_sub [2, 3, 4, 5, 1, 0] rfl ?_
      refine t_X8_undo_L40 X x1 x2 x3 v3 _ (fun s6 => ?_) FU σ (0 : Int32)
      refine g_iinc 3 [(3, .int ((x3 + (1 : Int32)))), (0, .ref (xad X (98))), (1, .int x1), (2, .int x2)] dX8_undo_79 rfl (v := x3 + (1 : Int32)) rfl (by decide) rfl ?_
      refine g_goto 23 dX8_undo_82 rfl ?_
      refine g_sub [1, 2, 3, 0] rfl ?_
      exact ih s6 ((x3 + (1 : Int32)))

set_option maxRecDepth 100000 in
set_option maxHeartbeats 4000000 in
theorem c_X8_undo (σ : Mem) (a1 : Int32) : CT yX8_undo mX8_undo enI (fun ad => [.ref (ad (98)), .int a1]) σ (X8_undo σ a1) := by
  refine CT.of (by decide) rfl (fun _ => Nat.le_of_ble_eq_true rfl) (fun X => ?_)
  show GS (KM enI X) X mX8_undo σ 0 [(0, .ref (xad X (98))), (1, .int a1)] [] _
  unfold X8_undo
  refine g_iload_n 1 dX8_undo_0 rfl ?_
  refine g_iconst (0 : Int32) dX8_undo_1 (by decide) ?_
  refine g_aload_n 0 dX8_undo_2 rfl ?_
  refine gf_X8_26 fl_X8_142 dX8_undo_3 ?_
  refine g_callSI (c_X8_in σ a1 (0 : Int32) ((σ.1 826 0 0))) okX8_in ⟨by decide, by decide⟩ ml_X8_83 rfl rfl (Nat.le_of_ble_eq_true rfl) dX8_undo_6 (fun q1 => ?_)
  refine g_if_ne 14 dX8_undo_9 rfl (fun _ => ?_) (fun _ => ?_)
  · refine g_aload_n 0 dX8_undo_14 rfl ?_
    refine gf_X8_26 fl_X8_142 dX8_undo_15 ?_
    refine g_iload_n 1 dX8_undo_18 rfl ?_
    refine g_isub dX8_undo_19 ?_
    refine g_topi (fun v2 => ?_)
    refine g_istore_n [(2, .int v2), (0, .ref (xad X (98))), (1, .int a1)] dX8_undo_20 (by decide) rfl ?_
    refine g_iload_n 2 dX8_undo_21 rfl ?_
    refine g_istore_n [(3, .int a1), (2, .int v2), (0, .ref (xad X (98))), (1, .int a1)] dX8_undo_22 (by decide) rfl ?_
    refine g_sub [2, 3, 1, 0] rfl ?_
    refine t_X8_undo_L23 X a1 v2 _ (fun s9 => ?_) FU q1.1 a1
    refine g_aload_n 0 dX8_undo_85 rfl ?_
    refine g_iload_n 1 dX8_undo_86 rfl ?_
    refine pf_X8_26 fl_X8_142 dX8_undo_87 ?_
    refine g_iload_n 2 dX8_undo_90 rfl ?_
    exact g_iret rfl dX8_undo_91
  · refine g_iconst (-1 : Int32) dX8_undo_12 (by decide) ?_
    exact g_iret rfl dX8_undo_13

def X8_drawer_L43 (x2 : Int32) (x3 : Int32) (k78 : Mem → Option (Mem × Int32)) : Nat → Mem → Int32 → Option (Mem × Int32)
  | 0, _, _ => none
  | n + 1, σ, x4 => (ck x3 680 <| if (σ.1 828 0 x3.toNatClampNeg) ≤ x4 then k78 σ else (ck ((x3 + (1 : Int32)) + x4) 680 <| (X8_setRow σ x2 x4 ((σ.1 828 0 ((x3 + (1 : Int32)) + x4).toNatClampNeg))).bind fun q5 => X8_drawer_L43 x2 x3 k78 n q5.1 ((x4 + (1 : Int32)))))
def X8_drawer (σ : Mem) (a1 : Int32) (a2 : Int32) : Option (Mem × Int32) := ((X8_in σ a1 (0 : Int32) (((σ.1 826 0 0) - (1 : Int32)))).bind fun q1 => if q1.2 = 0 then (some (q1.1, (-1 : Int32))) else ((X8_isRow q1.1 a2).bind fun q2 => if q2.2 = 0 then (some (q2.1, (-1 : Int32))) else (lt_ (((17 : Int32) * a1)) fun (v3 : Int32) => ck v3 680 <| (X8_row q2.1 a2 ((q2.1.1 828 0 v3.toNatClampNeg))).bind fun q4 => X8_drawer_L43 a2 v3 (fun (s8 : Mem) => (ck v3 680 <| some (s8, (s8.1 828 0 v3.toNatClampNeg)))) FU q4.1 (0 : Int32))))
set_option maxRecDepth 100000 in
set_option maxHeartbeats 4000000 in
theorem t_X8_drawer_L43 (X : GX) (x2 : Int32) (x3 : Int32) (k78 : Mem → Option (Mem × Int32)) (hk78 : ∀ (σ : Mem), GS (KM enI X) X mX8_drawer σ 78 [(0, .ref (xad X (98))), (3, .int x3)] [] (k78 σ)) : ∀ (n : Nat) (σ : Mem) (x4 : Int32), GS (KM enI X) X mX8_drawer σ 43 [(0, .ref (xad X (98))), (2, .int x2), (3, .int x3), (4, .int x4)] [] (X8_drawer_L43 x2 x3 k78 n σ x4) := by
  intro n
  induction n with
  | zero => intros; exact g_none
  | succ n ih =>
    intro σ x4
    rw [X8_drawer_L43]
    refine g_iload 3 dX8_drawer_43 rfl ?_
    refine g_aload_n 0 dX8_drawer_45 rfl ?_
    refine gf_X8_28 fl_X8_67 dX8_drawer_46 ?_
    refine g_iload_n 2 dX8_drawer_49 rfl ?_
    refine g_iald sh_116 no_116 dX8_drawer_50 (fun _ => ?_)
    refine g_icmp_ge 78 dX8_drawer_51 rfl (fun _ => ?_) (fun _ => ?_)
    · refine g_sub [0, 2] rfl ?_
      exact hk78 σ
    · refine g_aload_n 0 dX8_drawer_54 rfl ?_
      refine g_iload_n 1 dX8_drawer_55 rfl ?_
      refine g_iload 3 dX8_drawer_56 rfl ?_
      refine g_aload_n 0 dX8_drawer_58 rfl ?_
      refine gf_X8_28 fl_X8_67 dX8_drawer_59 ?_
      refine g_iload_n 2 dX8_drawer_62 rfl ?_
      refine g_iconst (1 : Int32) dX8_drawer_63 (by decide) ?_
      refine g_iadd dX8_drawer_64 ?_
      refine g_iload 3 dX8_drawer_65 rfl ?_
      refine g_iadd dX8_drawer_67 ?_
      refine g_iald sh_116 no_116 dX8_drawer_68 (fun _ => ?_)
      refine g_callVV (c_X8_setRow σ x2 x4 ((σ.1 828 0 ((x3 + (1 : Int32)) + x4).toNatClampNeg))) okX8_setRow ⟨by decide, by decide⟩ ml_X8_98 sh_98 no_98 rfl rfl [.int x2, .int x4, .int ((σ.1 828 0 ((x3 + (1 : Int32)) + x4).toNatClampNeg))] rfl rfl rfl (Nat.le_of_ble_eq_true rfl) dX8_drawer_69 (fun q5 => ?_)
      refine g_iinc 3 [(4, .int ((x4 + (1 : Int32)))), (0, .ref (xad X (98))), (2, .int x2), (3, .int x3)] dX8_drawer_72 rfl (v := x4 + (1 : Int32)) rfl (by decide) rfl ?_
      refine g_goto 43 dX8_drawer_75 rfl ?_
      refine g_sub [1, 2, 3, 0] rfl ?_
      exact ih q5.1 ((x4 + (1 : Int32)))

set_option maxRecDepth 100000 in
set_option maxHeartbeats 4000000 in
theorem c_X8_drawer (σ : Mem) (a1 : Int32) (a2 : Int32) : CT yX8_drawer mX8_drawer enI (fun ad => [.ref (ad (98)), .int a1, .int a2]) σ (X8_drawer σ a1 a2) := by
  refine CT.of (by decide) rfl (fun _ => Nat.le_of_ble_eq_true rfl) (fun X => ?_)
  show GS (KM enI X) X mX8_drawer σ 0 [(0, .ref (xad X (98))), (1, .int a1), (2, .int a2)] [] _
  unfold X8_drawer
  refine g_iload_n 1 dX8_drawer_0 rfl ?_
  refine g_iconst (0 : Int32) dX8_drawer_1 (by decide) ?_
  refine g_aload_n 0 dX8_drawer_2 rfl ?_
  refine gf_X8_26 fl_X8_142 dX8_drawer_3 ?_
  refine g_iconst (1 : Int32) dX8_drawer_6 (by decide) ?_
  refine g_isub dX8_drawer_7 ?_
  refine g_callSI (c_X8_in σ a1 (0 : Int32) (((σ.1 826 0 0) - (1 : Int32)))) okX8_in ⟨by decide, by decide⟩ ml_X8_83 rfl rfl (Nat.le_of_ble_eq_true rfl) dX8_drawer_8 (fun q1 => ?_)
  refine g_if_eq 21 dX8_drawer_11 rfl (fun _ => ?_) (fun _ => ?_)
  · refine g_iconst (-1 : Int32) dX8_drawer_21 (by decide) ?_
    exact g_iret rfl dX8_drawer_22
  · refine g_iload_n 2 dX8_drawer_14 rfl ?_
    refine g_callSI (c_X8_isRow q1.1 a2) okX8_isRow ⟨by decide, by decide⟩ ml_X8_87 rfl rfl (Nat.le_of_ble_eq_true rfl) dX8_drawer_15 (fun q2 => ?_)
    refine g_if_ne 23 dX8_drawer_18 rfl (fun _ => ?_) (fun _ => ?_)
    · refine g_bipush (17 : Int32) dX8_drawer_23 (by decide) ?_
      refine g_iload_n 1 dX8_drawer_25 rfl ?_
      refine g_imul dX8_drawer_26 ?_
      refine g_topi (fun v3 => ?_)
      refine g_istore_n [(3, .int v3), (0, .ref (xad X (98))), (1, .int a1), (2, .int a2)] dX8_drawer_27 (by decide) rfl ?_
      refine g_aload_n 1 dX8_drawer_28 rfl ?_
      refine g_iload_n 3 dX8_drawer_29 rfl ?_
      refine g_aload_n 1 dX8_drawer_30 rfl ?_
      refine gf_X8_28 fl_X8_67 dX8_drawer_31 ?_
      refine g_iload_n 0 dX8_drawer_34 rfl ?_
      refine g_iald sh_116 no_116 dX8_drawer_35 (fun _ => ?_)
      refine g_callVI (c_X8_row q2.1 a2 ((q2.1.1 828 0 v3.toNatClampNeg))) okX8_row ⟨by decide, by decide⟩ ml_X8_171 sh_98 no_98 rfl rfl [.int a2, .int ((q2.1.1 828 0 v3.toNatClampNeg))] rfl rfl rfl (Nat.le_of_ble_eq_true rfl) dX8_drawer_36 (fun q4 => ?_)
      refine g_pop dX8_drawer_39 rfl ?_
      refine g_iconst (0 : Int32) dX8_drawer_40 (by decide) ?_
      refine g_istore [(4, .int ((0 : Int32))), (3, .int v3), (0, .ref (xad X (98))), (1, .int a1), (2, .int a2)] dX8_drawer_41 (by decide) rfl ?_
      refine g_sub [2, 4, 1, 0] rfl ?_
      refine t_X8_drawer_L43 X a2 v3 _ (fun s8 => ?_) FU q4.1 (0 : Int32)
      refine g_aload_n 0 dX8_drawer_78 rfl ?_
      refine gf_X8_28 fl_X8_67 dX8_drawer_79 ?_
      refine g_iload_n 1 dX8_drawer_82 rfl ?_
      refine g_iald sh_116 no_116 dX8_drawer_83 (fun _ => ?_)
      exact g_iret rfl dX8_drawer_84
    · refine g_iconst (-1 : Int32) dX8_drawer_21 (by decide) ?_
      exact g_iret rfl dX8_drawer_22

