def X7_weight_L14 (x0 : Int32) (x1 : Int32) (x2 : Int32) (k60 : Mem → Int64 → Option (Mem × Int64)) : Nat → Mem → Int64 → Int32 → Option (Mem × Int64)
  | 0, _, _, _ => none
  | n + 1, σ, x3, x5 => (if (8 : Int32) ≤ x5 then k60 σ x3 else (if ((x0 >>> (x5 &&& 31)) &&& (1 : Int32)) = (1 : Int32) then (if ((x1 >>> (x5 &&& 31)) &&& (1 : Int32)) = (1 : Int32) then ((lt_ ((x3 * x2.toInt64)) fun (v4 : Int64) => X7_weight_L14 x0 x1 x2 k60 n σ v4 ((x5 + (1 : Int32))))) else (lt_ ((x3 * ((12 : Int32) - x2).toInt64)) fun (v2 : Int64) => X7_weight_L14 x0 x1 x2 k60 n σ v2 ((x5 + (1 : Int32))))) else (X7_weight_L14 x0 x1 x2 k60 n σ x3 ((x5 + (1 : Int32))))))
def X7_weight (σ : Mem) (a0 : Int32) (a1 : Int32) (a2 : Int32) : Option (Mem × Int64) := (if (a1 &&& a0) = a1 then (X7_weight_L14 a0 a1 a2 (fun (s7 : Mem) (y3_6 : Int64) => (some (s7, y3_6))) FU σ (1 : Int64) (0 : Int32)) else (some (σ, (0 : Int64))))
set_option maxRecDepth 100000 in
set_option maxHeartbeats 4000000 in
theorem t_X7_weight_L14 (X : GX) (x0 : Int32) (x1 : Int32) (x2 : Int32) (k60 : Mem → Int64 → Option (Mem × Int64)) (hk60 : ∀ (σ : Mem) (y3 : Int64), GS (KM enJ X) X mX7_weight σ 60 [(3, .long y3)] [] (k60 σ y3)) : ∀ (n : Nat) (σ : Mem) (x3 : Int64) (x5 : Int32), GS (KM enJ X) X mX7_weight σ 14 [(0, .int x0), (1, .int x1), (2, .int x2), (3, .long x3), (5, .int x5)] [] (X7_weight_L14 x0 x1 x2 k60 n σ x3 x5) := by
  intro n
  induction n with
  | zero => intros; exact g_none
  | succ n ih =>
    intro σ x3 x5
    rw [X7_weight_L14]
    refine g_iload 4 dX7_weight_14 rfl ?_
    refine g_bipush (8 : Int32) dX7_weight_16 (by decide) ?_
    refine g_icmp_ge 60 dX7_weight_18 rfl (fun _ => ?_) (fun _ => ?_)
    · refine g_sub [3] rfl ?_
      exact hk60 σ x3
    · refine g_iload_n 0 dX7_weight_21 rfl ?_
      refine g_iload 4 dX7_weight_22 rfl ?_
      refine g_ishr dX7_weight_24 ?_
      refine g_iconst (1 : Int32) dX7_weight_25 (by decide) ?_
      refine g_iand dX7_weight_26 ?_
      refine g_iconst (1 : Int32) dX7_weight_27 (by decide) ?_
      refine g_icmp_ne 54 dX7_weight_28 rfl (fun _ => ?_) (fun _ => ?_)
      · refine g_iinc 4 [(5, .int ((x5 + (1 : Int32)))), (0, .int x0), (1, .int x1), (2, .int x2), (3, .long x3)] dX7_weight_54 rfl (v := x5 + (1 : Int32)) rfl (by decide) rfl ?_
        refine g_goto 14 dX7_weight_57 rfl ?_
        refine g_sub [1, 2, 3, 4, 0] rfl ?_
        exact ih σ x3 ((x5 + (1 : Int32)))
      · refine g_lload_n 3 dX7_weight_31 rfl ?_
        refine g_iload_n 1 dX7_weight_32 rfl ?_
        refine g_iload 4 dX7_weight_33 rfl ?_
        refine g_ishr dX7_weight_35 ?_
        refine g_iconst (1 : Int32) dX7_weight_36 (by decide) ?_
        refine g_iand dX7_weight_37 ?_
        refine g_iconst (1 : Int32) dX7_weight_38 (by decide) ?_
        refine g_icmp_ne 47 dX7_weight_39 rfl (fun _ => ?_) (fun _ => ?_)
        · refine g_bipush (12 : Int32) dX7_weight_47 (by decide) ?_
          refine g_iload_n 2 dX7_weight_49 rfl ?_
          refine g_isub dX7_weight_50 ?_
          refine g_i2l dX7_weight_51 ?_
          refine g_lmul dX7_weight_52 ?_
          refine g_topl (fun v2 => ?_)
          refine g_lstore_n [(3, .long v2), (0, .int x0), (1, .int x1), (2, .int x2), (5, .int x5)] dX7_weight_53 (by decide) rfl ?_
          refine g_iinc 4 [(5, .int ((x5 + (1 : Int32)))), (3, .long v2), (0, .int x0), (1, .int x1), (2, .int x2)] dX7_weight_54 rfl (v := x5 + (1 : Int32)) rfl (by decide) rfl ?_
          refine g_goto 14 dX7_weight_57 rfl ?_
          refine g_sub [2, 3, 4, 1, 0] rfl ?_
          exact ih σ v2 ((x5 + (1 : Int32)))
        · refine g_iload_n 2 dX7_weight_42 rfl ?_
          refine g_i2l dX7_weight_43 ?_
          refine g_goto 52 dX7_weight_44 rfl ?_
          refine g_lmul dX7_weight_52 ?_
          refine g_topl (fun v4 => ?_)
          refine g_lstore_n [(3, .long v4), (0, .int x0), (1, .int x1), (2, .int x2), (5, .int x5)] dX7_weight_53 (by decide) rfl ?_
          refine g_iinc 4 [(5, .int ((x5 + (1 : Int32)))), (3, .long v4), (0, .int x0), (1, .int x1), (2, .int x2)] dX7_weight_54 rfl (v := x5 + (1 : Int32)) rfl (by decide) rfl ?_
          refine g_goto 14 dX7_weight_57 rfl ?_
          refine g_sub [2, 3, 4, 1, 0] rfl ?_
          exact ih σ v4 ((x5 + (1 : Int32)))

set_option maxRecDepth 100000 in
set_option maxHeartbeats 4000000 in
theorem c_X7_weight (σ : Mem) (a0 : Int32) (a1 : Int32) (a2 : Int32) : CT yX7_weight mX7_weight enJ (fun ad => [.int a0, .int a1, .int a2]) σ (X7_weight σ a0 a1 a2) := by
  refine CT.of (by decide) rfl (fun _ => Nat.le_of_ble_eq_true rfl) (fun X => ?_)
  show GS (KM enJ X) X mX7_weight σ 0 [(0, .int a0), (1, .int a1), (2, .int a2)] [] _
  unfold X7_weight
  refine g_iload_n 1 dX7_weight_0 rfl ?_
  refine g_iload_n 0 dX7_weight_1 rfl ?_
  refine g_iand dX7_weight_2 ?_
  refine g_iload_n 1 dX7_weight_3 rfl ?_
  refine g_icmp_eq 9 dX7_weight_4 rfl (fun _ => ?_) (fun _ => ?_)
  · refine g_lconst (1 : Int64) dX7_weight_9 (by decide) ?_
    refine g_lstore_n [(3, .long ((1 : Int64))), (0, .int a0), (1, .int a1), (2, .int a2)] dX7_weight_10 (by decide) rfl ?_
    refine g_iconst (0 : Int32) dX7_weight_11 (by decide) ?_
    refine g_istore [(5, .int ((0 : Int32))), (3, .long ((1 : Int64))), (0, .int a0), (1, .int a1), (2, .int a2)] dX7_weight_12 (by decide) rfl ?_
    refine g_sub [2, 3, 4, 1, 0] rfl ?_
    refine t_X7_weight_L14 X a0 a1 a2 _ (fun s7 y3_6 => ?_) FU σ (1 : Int64) (0 : Int32)
    refine g_lload_n 0 dX7_weight_60 rfl ?_
    exact g_lret rfl dX7_weight_61
  · refine g_lconst (0 : Int64) dX7_weight_7 (by decide) ?_
    exact g_lret rfl dX7_weight_8

def X7_odds_L99 (x3 : Int32) (x6 : Int32) (x7 : Int64) (k162 : Mem → Int64 → Int64 → Option (Mem × Int32)) : Nat → Mem → Int64 → Int64 → Int32 → Option (Mem × Int32)
  | 0, _, _, _, _ => none
  | n + 1, σ, x9, x11, x13 => (if (256 : Int32) ≤ x13 then k162 σ x9 x11 else ((X7_weight σ x6 x13 x3).bind fun q12 => lt_ ((x11 + q12.2)) fun (v13 : Int64) => if (lg_cmp q12.2 (0 : Int64)) ≤ 0 then (X7_odds_L99 x3 x6 x7 k162 n q12.1 x9 v13 ((x13 + (1 : Int32)))) else ((X5_outBy q12.1 ((x6 - x13))).bind fun q15 => if (lg_cmp q15.2 x7) = 0 then (lt_ ((x9 + q12.2)) fun (v17 : Int64) => X7_odds_L99 x3 x6 x7 k162 n q15.1 v17 v13 ((x13 + (1 : Int32)))) else (X7_odds_L99 x3 x6 x7 k162 n q15.1 x9 v13 ((x13 + (1 : Int32)))))))
def X7_odds (σ : Mem) (a1 : Int32) (a2 : Int32) (a3 : Int32) : Option (Mem × Int32) := ((X7_rowOf σ a1).bind fun q1 => spl q1.2 11 ((X7_rowOf q1.1 a2).bind fun q3 => spl q3.2 11 ((some (q3.1, (-1 : Int32)))) (fun r4 => ((some (q3.1, (-1 : Int32)))))) (fun r2 => ((X7_rowOf q1.1 a2).bind fun q5 => spl q5.2 11 (((some (q5.1, (-1 : Int32))))) (fun r6 => (((if a3 < 0 then (some (q5.1, (-1 : Int32))) else (if a3 ≤ (12 : Int32) then ((X7_refuses q5.1 r2 (8 : Int32)).bind fun q7 => if q7.2 = 0 then ((X7_refuses q7.1 r6 (16 : Int32)).bind fun q8 => if q8.2 = 0 then ((X2_onSet q8.1 0).bind fun q9 => (X4_pack q9.1 r6).bind fun q10 => (X5_lie q10.1 r2 0).bind fun q11 => X7_odds_L99 a3 q9.2 q10.2 (fun (s20 : Mem) (y9_19 : Int64) (y11_19 : Int64) => ((X7_tell s20 y9_19 y11_19).bind fun q21 => some (q21.1, (1 : Int32)))) FU q11.1 (0 : Int64) (0 : Int64) (0 : Int32)) else (some (q8.1, (-3 : Int32)))) else (some (q7.1, (-3 : Int32)))) else (some (q5.1, (-1 : Int32)))))))))))
set_option maxRecDepth 100000 in
set_option maxHeartbeats 4000000 in
theorem t_X7_odds_L99 (X : GX) (x3 : Int32) (x6 : Int32) (x7 : Int64) (k162 : Mem → Int64 → Int64 → Option (Mem × Int32)) (hk162 : ∀ (σ : Mem) (y9 : Int64) (y11 : Int64), GS (KM enI X) X mX7_odds σ 162 [(0, .ref (xad X (0))), (9, .long y9), (11, .long y11)] [] (k162 σ y9 y11)) : ∀ (n : Nat) (σ : Mem) (x9 : Int64) (x11 : Int64) (x13 : Int32), GS (KM enI X) X mX7_odds σ 99 [(0, .ref (xad X (0))), (3, .int x3), (6, .int x6), (7, .long x7), (9, .long x9), (11, .long x11), (13, .int x13)] [] (X7_odds_L99 x3 x6 x7 k162 n σ x9 x11 x13) := by
  intro n
  induction n with
  | zero => intros; exact g_none
  | succ n ih =>
    intro σ x9 x11 x13
    rw [X7_odds_L99]
    refine g_iload 6 dX7_odds_99 rfl ?_
    refine g_sipush (256 : Int32) dX7_odds_101 (by decide) ?_
    refine g_icmp_ge 162 dX7_odds_104 rfl (fun _ => ?_) (fun _ => ?_)
    · refine g_sub [0, 4, 5] rfl ?_
      exact hk162 σ x9 x11
    · refine g_iload 2 dX7_odds_107 rfl ?_
      refine g_iload 6 dX7_odds_109 rfl ?_
      refine g_iload_n 1 dX7_odds_111 rfl ?_
      refine g_callSJ (c_X7_weight σ x6 x13 x3) okX7_weight ⟨by decide, by decide⟩ ml_X7_299 rfl rfl (Nat.le_of_ble_eq_true rfl) dX7_odds_112 (fun q12 => ?_)
      refine g_lstore [(14, .long (q12.2)), (0, .ref (xad X (0))), (3, .int x3), (6, .int x6), (7, .long x7), (9, .long x9), (11, .long x11), (13, .int x13)] dX7_odds_115 (by decide) rfl ?_
      refine g_lload 6 dX7_odds_117 rfl ?_
      refine g_lload 0 dX7_odds_119 rfl ?_
      refine g_ladd dX7_odds_121 ?_
      refine g_topl (fun v13 => ?_)
      refine g_lstore [(11, .long v13), (14, .long (q12.2)), (0, .ref (xad X (0))), (3, .int x3), (6, .int x6), (7, .long x7), (9, .long x9), (13, .int x13)] dX7_odds_122 (by decide) rfl ?_
      refine g_lload 1 dX7_odds_124 rfl ?_
      refine g_lconst (0 : Int64) dX7_odds_126 (by decide) ?_
      refine g_lcmp dX7_odds_127 ?_
      refine g_if_le 156 dX7_odds_128 rfl (fun _ => ?_) (fun _ => ?_)
      · refine g_iinc 7 [(13, .int ((x13 + (1 : Int32)))), (11, .long v13), (14, .long (q12.2)), (0, .ref (xad X (0))), (3, .int x3), (6, .int x6), (7, .long x7), (9, .long x9)] dX7_odds_156 rfl (v := x13 + (1 : Int32)) rfl (by decide) rfl ?_
        refine g_goto 99 dX7_odds_159 rfl ?_
        refine g_sub [3, 4, 5, 6, 7, 1, 0] rfl ?_
        exact ih q12.1 x9 v13 ((x13 + (1 : Int32)))
      · refine g_aload_n 2 dX7_odds_131 rfl ?_
        refine gf_X7_8 fl_X7_60 dX7_odds_132 ?_
        refine g_iload 4 dX7_odds_135 rfl ?_
        refine g_iload 7 dX7_odds_137 rfl ?_
        refine g_isub dX7_odds_139 ?_
        refine g_callVJ (c_X5_outBy q12.1 ((x6 - x13))) okX5_outBy ⟨by decide, by decide⟩ ml_X7_288 sh_93 no_93 rfl rfl [.int ((x6 - x13))] rfl rfl rfl (Nat.le_of_ble_eq_true rfl) dX7_odds_140 (fun q15 => ?_)
        refine g_lload 5 dX7_odds_143 rfl ?_
        refine g_lcmp dX7_odds_145 ?_
        refine g_if_ne 156 dX7_odds_146 rfl (fun _ => ?_) (fun _ => ?_)
        · refine g_iinc 7 [(13, .int ((x13 + (1 : Int32)))), (11, .long v13), (14, .long (q12.2)), (0, .ref (xad X (0))), (3, .int x3), (6, .int x6), (7, .long x7), (9, .long x9)] dX7_odds_156 rfl (v := x13 + (1 : Int32)) rfl (by decide) rfl ?_
          refine g_goto 99 dX7_odds_159 rfl ?_
          refine g_sub [3, 4, 5, 6, 7, 1, 0] rfl ?_
          exact ih q15.1 x9 v13 ((x13 + (1 : Int32)))
        · refine g_lload 6 dX7_odds_149 rfl ?_
          refine g_lload 1 dX7_odds_151 rfl ?_
          refine g_ladd dX7_odds_153 ?_
          refine g_topl (fun v17 => ?_)
          refine g_lstore [(9, .long v17), (11, .long v13), (14, .long (q12.2)), (0, .ref (xad X (0))), (3, .int x3), (6, .int x6), (7, .long x7), (13, .int x13)] dX7_odds_154 (by decide) rfl ?_
          refine g_iinc 7 [(13, .int ((x13 + (1 : Int32)))), (9, .long v17), (11, .long v13), (14, .long (q12.2)), (0, .ref (xad X (0))), (3, .int x3), (6, .int x6), (7, .long x7)] dX7_odds_156 rfl (v := x13 + (1 : Int32)) rfl (by decide) rfl ?_
          refine g_goto 99 dX7_odds_159 rfl ?_
          refine g_sub [4, 5, 6, 7, 1, 2, 0] rfl ?_
          exact ih q15.1 v17 v13 ((x13 + (1 : Int32)))

set_option maxRecDepth 100000 in
set_option maxHeartbeats 4000000 in
theorem c_X7_odds (σ : Mem) (a1 : Int32) (a2 : Int32) (a3 : Int32) : CT yX7_odds mX7_odds enI (fun ad => [.ref (ad (0)), .int a1, .int a2, .int a3]) σ (X7_odds σ a1 a2 a3) := by
  refine CT.of (by decide) rfl (fun _ => Nat.le_of_ble_eq_true rfl) (fun X => ?_)
  show GS (KM enI X) X mX7_odds σ 0 [(0, .ref (xad X (0))), (1, .int a1), (2, .int a2), (3, .int a3)] [] _
  unfold X7_odds
  refine g_aload_n 0 dX7_odds_0 rfl ?_
  refine g_iload_n 1 dX7_odds_1 rfl ?_
  refine g_callVG (c_X7_rowOf σ a1) okX7_rowOf ⟨by decide, by decide⟩ ml_X7_93 sh_0 no_0 rfl rfl [.int a1] rfl rfl rfl (Nat.le_of_ble_eq_true rfl) dX7_odds_2 (fun q1 => ?_)
  refine g_spl ?_ (fun r2 hr2 => ?_)
  · refine g_astoreN [(4, .null), (0, .ref (xad X (0))), (1, .int a1), (2, .int a2), (3, .int a3)] dX7_odds_5 (by decide) rfl ?_
    refine g_aload_n 1 dX7_odds_7 rfl ?_
    refine g_iload_n 3 dX7_odds_8 rfl ?_
    refine g_callVG (c_X7_rowOf q1.1 a2) okX7_rowOf ⟨by decide, by decide⟩ ml_X7_93 sh_0 no_0 rfl rfl [.int a2] rfl rfl rfl (Nat.le_of_ble_eq_true rfl) dX7_odds_9 (fun q3 => ?_)
    refine g_spl ?_ (fun r4 hr4 => ?_)
    · refine g_astoreN [(5, .null), (4, .null), (0, .ref (xad X (0))), (1, .int a1), (2, .int a2), (3, .int a3)] dX7_odds_12 (by decide) rfl ?_
      refine g_aloadN 1 dX7_odds_14 rfl ?_
      refine g_ifnullN 34 dX7_odds_16 rfl ?_
      refine g_iconst (-1 : Int32) dX7_odds_34 (by decide) ?_
      exact g_iret rfl dX7_odds_35
    · refine g_astore [(5, .ref (xad X (4 + 2 * r4))), (4, .null), (0, .ref (xad X (0))), (1, .int a1), (2, .int a2), (3, .int a3)] dX7_odds_12 (by decide) rfl ?_
      refine g_aloadN 1 dX7_odds_14 rfl ?_
      refine g_ifnullN 34 dX7_odds_16 rfl ?_
      refine g_iconst (-1 : Int32) dX7_odds_34 (by decide) ?_
      exact g_iret rfl dX7_odds_35
  · refine g_astore [(4, .ref (xad X (4 + 2 * r2))), (0, .ref (xad X (0))), (1, .int a1), (2, .int a2), (3, .int a3)] dX7_odds_5 (by decide) rfl ?_
    refine g_aload_n 1 dX7_odds_7 rfl ?_
    refine g_iload_n 3 dX7_odds_8 rfl ?_
    refine g_callVG (c_X7_rowOf q1.1 a2) okX7_rowOf ⟨by decide, by decide⟩ ml_X7_93 sh_0 no_0 rfl rfl [.int a2] rfl rfl rfl (Nat.le_of_ble_eq_true rfl) dX7_odds_9 (fun q5 => ?_)
    refine g_spl ?_ (fun r6 hr6 => ?_)
    · refine g_astoreN [(5, .null), (4, .ref (xad X (4 + 2 * r2))), (0, .ref (xad X (0))), (1, .int a1), (2, .int a2), (3, .int a3)] dX7_odds_12 (by decide) rfl ?_
      refine g_aload 1 dX7_odds_14 rfl ?_
      refine g_ifnull dX7_odds_16 ?_
      refine g_aloadN 0 dX7_odds_19 rfl ?_
      refine g_ifnullN 34 dX7_odds_21 rfl ?_
      refine g_iconst (-1 : Int32) dX7_odds_34 (by decide) ?_
      exact g_iret rfl dX7_odds_35
    · refine g_astore [(5, .ref (xad X (4 + 2 * r6))), (4, .ref (xad X (4 + 2 * r2))), (0, .ref (xad X (0))), (1, .int a1), (2, .int a2), (3, .int a3)] dX7_odds_12 (by decide) rfl ?_
      refine g_aload 1 dX7_odds_14 rfl ?_
      refine g_ifnull dX7_odds_16 ?_
      refine g_aload 0 dX7_odds_19 rfl ?_
      refine g_ifnull dX7_odds_21 ?_
      refine g_iload_n 5 dX7_odds_24 rfl ?_
      refine g_if_lt 34 dX7_odds_25 rfl (fun _ => ?_) (fun _ => ?_)
      · refine g_iconst (-1 : Int32) dX7_odds_34 (by decide) ?_
        exact g_iret rfl dX7_odds_35
      · refine g_iload_n 5 dX7_odds_28 rfl ?_
        refine g_bipush (12 : Int32) dX7_odds_29 (by decide) ?_
        refine g_icmp_le 36 dX7_odds_31 rfl (fun _ => ?_) (fun _ => ?_)
        · refine g_aload_n 2 dX7_odds_36 rfl ?_
          refine g_aload 1 dX7_odds_37 rfl ?_
          refine g_bipush (8 : Int32) dX7_odds_39 (by decide) ?_
          refine g_callVI (c_X7_refuses q5.1 r2 (8 : Int32)) okX7_refuses ⟨by decide, by decide⟩ ml_X7_202 sh_0 no_0 rfl rfl [.ref (xad X (4 + 2 * r2)), .int ((8 : Int32))] rfl rfl rfl (Nat.le_of_ble_eq_true rfl) dX7_odds_41 (fun q7 => ?_)
          refine g_if_ne 58 dX7_odds_44 rfl (fun _ => ?_) (fun _ => ?_)
          · refine g_bipush (-3 : Int32) dX7_odds_58 (by decide) ?_
            exact g_iret rfl dX7_odds_60
          · refine g_aload_n 2 dX7_odds_47 rfl ?_
            refine g_aload 0 dX7_odds_48 rfl ?_
            refine g_bipush (16 : Int32) dX7_odds_50 (by decide) ?_
            refine g_callVI (c_X7_refuses q7.1 r6 (16 : Int32)) okX7_refuses ⟨by decide, by decide⟩ ml_X7_202 sh_0 no_0 rfl rfl [.ref (xad X (4 + 2 * r6)), .int ((16 : Int32))] rfl rfl rfl (Nat.le_of_ble_eq_true rfl) dX7_odds_52 (fun q8 => ?_)
            refine g_if_eq 61 dX7_odds_55 rfl (fun _ => ?_) (fun _ => ?_)
            · refine g_aload_n 2 dX7_odds_61 rfl ?_
              refine gf_X7_3 fl_X7_28 dX7_odds_62 ?_
              refine g_callVI (c_X2_onSet q8.1 0) okX2_onSet ⟨by decide, by decide⟩ ml_X7_176 (sh_X2 (by decide)) (no_X2 (by decide)) rfl rfl [] rfl rfl rfl (Nat.le_of_ble_eq_true rfl) dX7_odds_65 (fun q9 => ?_)
              refine g_istore [(6, .int (q9.2)), (5, .ref (xad X (4 + 2 * r6))), (4, .ref (xad X (4 + 2 * r2))), (0, .ref (xad X (0))), (1, .int a1), (2, .int a2), (3, .int a3)] dX7_odds_68 (by decide) rfl ?_
              refine g_aload 1 dX7_odds_70 rfl ?_
              refine g_callVJ (c_X4_pack q9.1 r6) okX4_pack ⟨by decide, by decide⟩ ml_X7_223 (sh_X4 hr6) (no_X4 hr6) rfl rfl [] rfl rfl rfl (Nat.le_of_ble_eq_true rfl) dX7_odds_72 (fun q10 => ?_)
              refine g_lstore [(7, .long (q10.2)), (6, .int (q9.2)), (5, .ref (xad X (4 + 2 * r6))), (4, .ref (xad X (4 + 2 * r2))), (0, .ref (xad X (0))), (1, .int a1), (2, .int a2), (3, .int a3)] dX7_odds_75 (by decide) rfl ?_
              refine g_lconst (0 : Int64) dX7_odds_77 (by decide) ?_
              refine g_lstore [(9, .long ((0 : Int64))), (7, .long (q10.2)), (6, .int (q9.2)), (5, .ref (xad X (4 + 2 * r6))), (4, .ref (xad X (4 + 2 * r2))), (0, .ref (xad X (0))), (1, .int a1), (2, .int a2), (3, .int a3)] dX7_odds_78 (by decide) rfl ?_
              refine g_lconst (0 : Int64) dX7_odds_80 (by decide) ?_
              refine g_lstore [(11, .long ((0 : Int64))), (9, .long ((0 : Int64))), (7, .long (q10.2)), (6, .int (q9.2)), (5, .ref (xad X (4 + 2 * r6))), (4, .ref (xad X (4 + 2 * r2))), (0, .ref (xad X (0))), (1, .int a1), (2, .int a2), (3, .int a3)] dX7_odds_81 (by decide) rfl ?_
              refine g_aload_n 6 dX7_odds_83 rfl ?_
              refine gf_X7_8 fl_X7_60 dX7_odds_84 ?_
              refine g_aload 5 dX7_odds_87 rfl ?_
              refine g_aload_n 6 dX7_odds_89 rfl ?_
              refine gf_X7_3 fl_X7_28 dX7_odds_90 ?_
              refine g_callVV (c_X5_lie q10.1 r2 0) okX5_lie ⟨by decide, by decide⟩ ml_X7_284 sh_93 no_93 rfl rfl [.ref (xad X (4 + 2 * r2)), .ref (xad X (69 + 4 * 0))] rfl rfl rfl (Nat.le_of_ble_eq_true rfl) dX7_odds_93 (fun q11 => ?_)
              refine g_iconst (0 : Int32) dX7_odds_96 (by decide) ?_
              refine g_istore [(13, .int ((0 : Int32))), (11, .long ((0 : Int64))), (9, .long ((0 : Int64))), (7, .long (q10.2)), (6, .int (q9.2)), (5, .ref (xad X (4 + 2 * r6))), (4, .ref (xad X (4 + 2 * r2))), (0, .ref (xad X (0))), (1, .int a1), (2, .int a2), (3, .int a3)] dX7_odds_97 (by decide) rfl ?_
              refine g_sub [7, 10, 4, 3, 2, 1, 0] rfl ?_
              refine t_X7_odds_L99 X a3 q9.2 q10.2 _ (fun s20 y9_19 y11_19 => ?_) FU q11.1 (0 : Int64) (0 : Int64) (0 : Int32)
              refine g_aload_n 0 dX7_odds_162 rfl ?_
              refine g_lload 1 dX7_odds_163 rfl ?_
              refine g_lload 2 dX7_odds_165 rfl ?_
              refine g_callVV (c_X7_tell s20 y9_19 y11_19) okX7_tell ⟨by decide, by decide⟩ ml_X7_242 sh_0 no_0 rfl rfl [.long y9_19, .long y11_19] rfl rfl rfl (Nat.le_of_ble_eq_true rfl) dX7_odds_167 (fun q21 => ?_)
              refine g_iconst (1 : Int32) dX7_odds_170 (by decide) ?_
              exact g_iret rfl dX7_odds_171
            · refine g_bipush (-3 : Int32) dX7_odds_58 (by decide) ?_
              exact g_iret rfl dX7_odds_60
        · refine g_iconst (-1 : Int32) dX7_odds_34 (by decide) ?_
          exact g_iret rfl dX7_odds_35

def X7_mid_L65 (x2 : Int32) (x4 : Int32) (k127 : Mem → Int64 → Int64 → Option (Mem × Int32)) : Nat → Mem → Int64 → Int64 → Int32 → Option (Mem × Int32)
  | 0, _, _, _, _ => none
  | n + 1, σ, x5, x7, x9 => (if (256 : Int32) ≤ x9 then k127 σ x5 x7 else ((X7_weight σ x4 x9 x2).bind fun q6 => lt_ ((x7 + q6.2)) fun (v7 : Int64) => if (lg_cmp q6.2 (0 : Int64)) ≤ 0 then (X7_mid_L65 x2 x4 k127 n q6.1 x5 v7 ((x9 + (1 : Int32)))) else ((X5_outBy q6.1 ((x4 - x9))).bind fun q9 => (X7_signsIn q9.1 q9.2).bind fun q10 => lt_ ((x5 + (q6.2 * q10.2.toInt64))) fun (v11 : Int64) => X7_mid_L65 x2 x4 k127 n q10.1 v11 v7 ((x9 + (1 : Int32))))))
def X7_mid (σ : Mem) (a1 : Int32) (a2 : Int32) : Option (Mem × Int32) := ((X7_rowOf σ a1).bind fun q1 => spl q1.2 11 ((some (q1.1, (-1 : Int32)))) (fun r2 => ((if a2 < 0 then (some (q1.1, (-1 : Int32))) else (if a2 ≤ (12 : Int32) then ((X7_refuses q1.1 r2 (8 : Int32)).bind fun q3 => if q3.2 = 0 then ((X2_onSet q3.1 0).bind fun q4 => (X5_lie q4.1 r2 0).bind fun q5 => X7_mid_L65 a2 q4.2 (fun (s14 : Mem) (y5_13 : Int64) (y7_13 : Int64) => ((X7_tell s14 y5_13 y7_13).bind fun q15 => some (q15.1, (1 : Int32)))) FU q5.1 (0 : Int64) (0 : Int64) (0 : Int32)) else (some (q3.1, (-3 : Int32)))) else (some (q1.1, (-1 : Int32))))))))
set_option maxRecDepth 100000 in
set_option maxHeartbeats 4000000 in
theorem t_X7_mid_L65 (X : GX) (x2 : Int32) (x4 : Int32) (k127 : Mem → Int64 → Int64 → Option (Mem × Int32)) (hk127 : ∀ (σ : Mem) (y5 : Int64) (y7 : Int64), GS (KM enI X) X mX7_mid σ 127 [(0, .ref (xad X (0))), (5, .long y5), (7, .long y7)] [] (k127 σ y5 y7)) : ∀ (n : Nat) (σ : Mem) (x5 : Int64) (x7 : Int64) (x9 : Int32), GS (KM enI X) X mX7_mid σ 65 [(0, .ref (xad X (0))), (2, .int x2), (4, .int x4), (5, .long x5), (7, .long x7), (9, .int x9)] [] (X7_mid_L65 x2 x4 k127 n σ x5 x7 x9) := by
  intro n
  induction n with
  | zero => intros; exact g_none
  | succ n ih =>
    intro σ x5 x7 x9
    rw [X7_mid_L65]
    refine g_iload 5 dX7_mid_65 rfl ?_
    refine g_sipush (256 : Int32) dX7_mid_67 (by decide) ?_
    refine g_icmp_ge 127 dX7_mid_70 rfl (fun _ => ?_) (fun _ => ?_)
    · refine g_sub [0, 3, 4] rfl ?_
      exact hk127 σ x5 x7
    · refine g_iload 2 dX7_mid_73 rfl ?_
      refine g_iload 5 dX7_mid_75 rfl ?_
      refine g_iload_n 1 dX7_mid_77 rfl ?_
      refine g_callSJ (c_X7_weight σ x4 x9 x2) okX7_weight ⟨by decide, by decide⟩ ml_X7_299 rfl rfl (Nat.le_of_ble_eq_true rfl) dX7_mid_78 (fun q6 => ?_)
      refine g_lstore [(10, .long (q6.2)), (0, .ref (xad X (0))), (2, .int x2), (4, .int x4), (5, .long x5), (7, .long x7), (9, .int x9)] dX7_mid_81 (by decide) rfl ?_
      refine g_lload 5 dX7_mid_83 rfl ?_
      refine g_lload 0 dX7_mid_85 rfl ?_
      refine g_ladd dX7_mid_87 ?_
      refine g_topl (fun v7 => ?_)
      refine g_lstore [(7, .long v7), (10, .long (q6.2)), (0, .ref (xad X (0))), (2, .int x2), (4, .int x4), (5, .long x5), (9, .int x9)] dX7_mid_88 (by decide) rfl ?_
      refine g_lload 1 dX7_mid_90 rfl ?_
      refine g_lconst (0 : Int64) dX7_mid_92 (by decide) ?_
      refine g_lcmp dX7_mid_93 ?_
      refine g_if_le 121 dX7_mid_94 rfl (fun _ => ?_) (fun _ => ?_)
      · refine g_iinc 6 [(9, .int ((x9 + (1 : Int32)))), (7, .long v7), (10, .long (q6.2)), (0, .ref (xad X (0))), (2, .int x2), (4, .int x4), (5, .long x5)] dX7_mid_121 rfl (v := x9 + (1 : Int32)) rfl (by decide) rfl ?_
        refine g_goto 65 dX7_mid_124 rfl ?_
        refine g_sub [3, 4, 5, 6, 1, 0] rfl ?_
        exact ih q6.1 x5 v7 ((x9 + (1 : Int32)))
      · refine g_lload 5 dX7_mid_97 rfl ?_
        refine g_lload 1 dX7_mid_99 rfl ?_
        refine g_aload_n 2 dX7_mid_101 rfl ?_
        refine gf_X7_8 fl_X7_60 dX7_mid_102 ?_
        refine g_iload 4 dX7_mid_105 rfl ?_
        refine g_iload 6 dX7_mid_107 rfl ?_
        refine g_isub dX7_mid_109 ?_
        refine g_callVJ (c_X5_outBy q6.1 ((x4 - x9))) okX5_outBy ⟨by decide, by decide⟩ ml_X7_288 sh_93 no_93 rfl rfl [.int ((x4 - x9))] rfl rfl rfl (Nat.le_of_ble_eq_true rfl) dX7_mid_110 (fun q9 => ?_)
        refine g_callSI (c_X7_signsIn q9.1 q9.2) okX7_signsIn ⟨by decide, by decide⟩ ml_X7_303 rfl rfl (Nat.le_of_ble_eq_true rfl) dX7_mid_113 (fun q10 => ?_)
        refine g_i2l dX7_mid_116 ?_
        refine g_lmul dX7_mid_117 ?_
        refine g_ladd dX7_mid_118 ?_
        refine g_topl (fun v11 => ?_)
        refine g_lstore [(5, .long v11), (7, .long v7), (10, .long (q6.2)), (0, .ref (xad X (0))), (2, .int x2), (4, .int x4), (9, .int x9)] dX7_mid_119 (by decide) rfl ?_
        refine g_iinc 6 [(9, .int ((x9 + (1 : Int32)))), (5, .long v11), (7, .long v7), (10, .long (q6.2)), (0, .ref (xad X (0))), (2, .int x2), (4, .int x4)] dX7_mid_121 rfl (v := x9 + (1 : Int32)) rfl (by decide) rfl ?_
        refine g_goto 65 dX7_mid_124 rfl ?_
        refine g_sub [4, 5, 6, 1, 2, 0] rfl ?_
        exact ih q10.1 v11 v7 ((x9 + (1 : Int32)))

set_option maxRecDepth 100000 in
set_option maxHeartbeats 4000000 in
theorem c_X7_mid (σ : Mem) (a1 : Int32) (a2 : Int32) : CT yX7_mid mX7_mid enI (fun ad => [.ref (ad (0)), .int a1, .int a2]) σ (X7_mid σ a1 a2) := by
  refine CT.of (by decide) rfl (fun _ => Nat.le_of_ble_eq_true rfl) (fun X => ?_)
  show GS (KM enI X) X mX7_mid σ 0 [(0, .ref (xad X (0))), (1, .int a1), (2, .int a2)] [] _
  unfold X7_mid
  refine g_aload_n 0 dX7_mid_0 rfl ?_
  refine g_iload_n 1 dX7_mid_1 rfl ?_
  refine g_callVG (c_X7_rowOf σ a1) okX7_rowOf ⟨by decide, by decide⟩ ml_X7_93 sh_0 no_0 rfl rfl [.int a1] rfl rfl rfl (Nat.le_of_ble_eq_true rfl) dX7_mid_2 (fun q1 => ?_)
  refine g_spl ?_ (fun r2 hr2 => ?_)
  · refine g_astore_nN [(3, .null), (0, .ref (xad X (0))), (1, .int a1), (2, .int a2)] dX7_mid_5 (by decide) rfl ?_
    refine g_aload_nN 0 dX7_mid_6 rfl ?_
    refine g_ifnullN 20 dX7_mid_7 rfl ?_
    refine g_iconst (-1 : Int32) dX7_mid_20 (by decide) ?_
    exact g_iret rfl dX7_mid_21
  · refine g_astore_n [(3, .ref (xad X (4 + 2 * r2))), (0, .ref (xad X (0))), (1, .int a1), (2, .int a2)] dX7_mid_5 (by decide) rfl ?_
    refine g_aload_n 0 dX7_mid_6 rfl ?_
    refine g_ifnull dX7_mid_7 ?_
    refine g_iload_n 3 dX7_mid_10 rfl ?_
    refine g_if_lt 20 dX7_mid_11 rfl (fun _ => ?_) (fun _ => ?_)
    · refine g_iconst (-1 : Int32) dX7_mid_20 (by decide) ?_
      exact g_iret rfl dX7_mid_21
    · refine g_iload_n 3 dX7_mid_14 rfl ?_
      refine g_bipush (12 : Int32) dX7_mid_15 (by decide) ?_
      refine g_icmp_le 22 dX7_mid_17 rfl (fun _ => ?_) (fun _ => ?_)
      · refine g_aload_n 1 dX7_mid_22 rfl ?_
        refine g_aload_n 0 dX7_mid_23 rfl ?_
        refine g_bipush (8 : Int32) dX7_mid_24 (by decide) ?_
        refine g_callVI (c_X7_refuses q1.1 r2 (8 : Int32)) okX7_refuses ⟨by decide, by decide⟩ ml_X7_202 sh_0 no_0 rfl rfl [.ref (xad X (4 + 2 * r2)), .int ((8 : Int32))] rfl rfl rfl (Nat.le_of_ble_eq_true rfl) dX7_mid_26 (fun q3 => ?_)
        refine g_if_eq 35 dX7_mid_29 rfl (fun _ => ?_) (fun _ => ?_)
        · refine g_aload_n 1 dX7_mid_35 rfl ?_
          refine gf_X7_3 fl_X7_28 dX7_mid_36 ?_
          refine g_callVI (c_X2_onSet q3.1 0) okX2_onSet ⟨by decide, by decide⟩ ml_X7_176 (sh_X2 (by decide)) (no_X2 (by decide)) rfl rfl [] rfl rfl rfl (Nat.le_of_ble_eq_true rfl) dX7_mid_39 (fun q4 => ?_)
          refine g_istore [(4, .int (q4.2)), (3, .ref (xad X (4 + 2 * r2))), (0, .ref (xad X (0))), (1, .int a1), (2, .int a2)] dX7_mid_42 (by decide) rfl ?_
          refine g_lconst (0 : Int64) dX7_mid_44 (by decide) ?_
          refine g_lstore [(5, .long ((0 : Int64))), (4, .int (q4.2)), (3, .ref (xad X (4 + 2 * r2))), (0, .ref (xad X (0))), (1, .int a1), (2, .int a2)] dX7_mid_45 (by decide) rfl ?_
          refine g_lconst (0 : Int64) dX7_mid_47 (by decide) ?_
          refine g_lstore [(7, .long ((0 : Int64))), (5, .long ((0 : Int64))), (4, .int (q4.2)), (3, .ref (xad X (4 + 2 * r2))), (0, .ref (xad X (0))), (1, .int a1), (2, .int a2)] dX7_mid_48 (by decide) rfl ?_
          refine g_aload_n 4 dX7_mid_50 rfl ?_
          refine gf_X7_8 fl_X7_60 dX7_mid_51 ?_
          refine g_aload_n 3 dX7_mid_54 rfl ?_
          refine g_aload_n 4 dX7_mid_55 rfl ?_
          refine gf_X7_3 fl_X7_28 dX7_mid_56 ?_
          refine g_callVV (c_X5_lie q4.1 r2 0) okX5_lie ⟨by decide, by decide⟩ ml_X7_284 sh_93 no_93 rfl rfl [.ref (xad X (4 + 2 * r2)), .ref (xad X (69 + 4 * 0))] rfl rfl rfl (Nat.le_of_ble_eq_true rfl) dX7_mid_59 (fun q5 => ?_)
          refine g_iconst (0 : Int32) dX7_mid_62 (by decide) ?_
          refine g_istore [(9, .int ((0 : Int32))), (7, .long ((0 : Int64))), (5, .long ((0 : Int64))), (4, .int (q4.2)), (3, .ref (xad X (4 + 2 * r2))), (0, .ref (xad X (0))), (1, .int a1), (2, .int a2)] dX7_mid_63 (by decide) rfl ?_
          refine g_sub [5, 7, 3, 2, 1, 0] rfl ?_
          refine t_X7_mid_L65 X a2 q4.2 _ (fun s14 y5_13 y7_13 => ?_) FU q5.1 (0 : Int64) (0 : Int64) (0 : Int32)
          refine g_aload_n 0 dX7_mid_127 rfl ?_
          refine g_lload 1 dX7_mid_128 rfl ?_
          refine g_lload 2 dX7_mid_130 rfl ?_
          refine g_callVV (c_X7_tell s14 y5_13 y7_13) okX7_tell ⟨by decide, by decide⟩ ml_X7_242 sh_0 no_0 rfl rfl [.long y5_13, .long y7_13] rfl rfl rfl (Nat.le_of_ble_eq_true rfl) dX7_mid_132 (fun q15 => ?_)
          refine g_iconst (1 : Int32) dX7_mid_135 (by decide) ?_
          exact g_iret rfl dX7_mid_136
        · refine g_bipush (-3 : Int32) dX7_mid_32 (by decide) ?_
          exact g_iret rfl dX7_mid_34
      · refine g_iconst (-1 : Int32) dX7_mid_20 (by decide) ?_
        exact g_iret rfl dX7_mid_21

def X7_print (σ : Mem) (a1 : Int32) : Option (Mem × Int32) := ((X7_rowOf σ a1).bind fun q1 => spl q1.2 11 ((some (q1.1, (-1 : Int32)))) (fun r2 => (((X7_refuses q1.1 r2 (8 : Int32)).bind fun q3 => if q3.2 = 0 then (if (q3.1.1 204 0 0) < (40 : Int32) then ((X2_onSet q3.1 0).bind fun q4 => (X2_outOf q4.1 0 r2 q4.2).bind fun q5 => (X4_unpack q5.1 10 q5.2).bind fun q6 => (X2_addDeed q6.1 0 10).bind fun q7 => some (q7.1, (q7.1.1 401 10 0))) else (some (q3.1, (-2 : Int32)))) else (some (q3.1, (-3 : Int32)))))))
set_option maxRecDepth 100000 in
set_option maxHeartbeats 4000000 in
theorem c_X7_print (σ : Mem) (a1 : Int32) : CT yX7_print mX7_print enI (fun ad => [.ref (ad (0)), .int a1]) σ (X7_print σ a1) := by
  refine CT.of (by decide) rfl (fun _ => Nat.le_of_ble_eq_true rfl) (fun X => ?_)
  show GS (KM enI X) X mX7_print σ 0 [(0, .ref (xad X (0))), (1, .int a1)] [] _
  unfold X7_print
  refine g_aload_n 0 dX7_print_0 rfl ?_
  refine g_iload_n 1 dX7_print_1 rfl ?_
  refine g_callVG (c_X7_rowOf σ a1) okX7_rowOf ⟨by decide, by decide⟩ ml_X7_93 sh_0 no_0 rfl rfl [.int a1] rfl rfl rfl (Nat.le_of_ble_eq_true rfl) dX7_print_2 (fun q1 => ?_)
  refine g_spl ?_ (fun r2 hr2 => ?_)
  · refine g_astore_nN [(2, .null), (0, .ref (xad X (0))), (1, .int a1)] dX7_print_5 (by decide) rfl ?_
    refine g_aload_nN 0 dX7_print_6 rfl ?_
    refine g_ifnonnullN dX7_print_7 ?_
    refine g_iconst (-1 : Int32) dX7_print_10 (by decide) ?_
    exact g_iret rfl dX7_print_11
  · refine g_astore_n [(2, .ref (xad X (4 + 2 * r2))), (0, .ref (xad X (0))), (1, .int a1)] dX7_print_5 (by decide) rfl ?_
    refine g_aload_n 0 dX7_print_6 rfl ?_
    refine g_ifnonnull 12 dX7_print_7 rfl ?_
    refine g_aload_n 1 dX7_print_12 rfl ?_
    refine g_aload_n 0 dX7_print_13 rfl ?_
    refine g_bipush (8 : Int32) dX7_print_14 (by decide) ?_
    refine g_callVI (c_X7_refuses q1.1 r2 (8 : Int32)) okX7_refuses ⟨by decide, by decide⟩ ml_X7_202 sh_0 no_0 rfl rfl [.ref (xad X (4 + 2 * r2)), .int ((8 : Int32))] rfl rfl rfl (Nat.le_of_ble_eq_true rfl) dX7_print_16 (fun q3 => ?_)
    refine g_if_eq 25 dX7_print_19 rfl (fun _ => ?_) (fun _ => ?_)
    · refine g_aload_n 1 dX7_print_25 rfl ?_
      refine gf_X7_3 fl_X7_28 dX7_print_26 ?_
      refine gf_X2_4 (by decide) fl_X7_307 dX7_print_29 ?_
      refine g_bipush (40 : Int32) dX7_print_32 (by decide) ?_
      refine g_icmp_lt 40 dX7_print_34 rfl (fun _ => ?_) (fun _ => ?_)
      · refine g_aload_n 1 dX7_print_40 rfl ?_
        refine gf_X7_7 fl_X7_53 dX7_print_41 ?_
        refine g_aload_n 1 dX7_print_44 rfl ?_
        refine gf_X7_3 fl_X7_28 dX7_print_45 ?_
        refine g_aload_n 0 dX7_print_48 rfl ?_
        refine g_aload_n 1 dX7_print_49 rfl ?_
        refine gf_X7_3 fl_X7_28 dX7_print_50 ?_
        refine g_callVI (c_X2_onSet q3.1 0) okX2_onSet ⟨by decide, by decide⟩ ml_X7_176 (sh_X2 (by decide)) (no_X2 (by decide)) rfl rfl [] rfl rfl rfl (Nat.le_of_ble_eq_true rfl) dX7_print_53 (fun q4 => ?_)
        refine g_callVJ (c_X2_outOf q4.1 0 r2 q4.2) okX2_outOf ⟨by decide, by decide⟩ ml_X7_206 (sh_X2 (by decide)) (no_X2 (by decide)) rfl rfl [.ref (xad X (4 + 2 * r2)), .int (q4.2)] rfl rfl rfl (Nat.le_of_ble_eq_true rfl) dX7_print_56 (fun q5 => ?_)
        refine g_callVV (c_X4_unpack q5.1 10 q5.2) okX4_unpack ⟨by decide, by decide⟩ ml_X7_210 (sh_X4 (by decide)) (no_X4 (by decide)) rfl rfl [.long (q5.2)] rfl rfl rfl (Nat.le_of_ble_eq_true rfl) dX7_print_59 (fun q6 => ?_)
        refine g_aload_n 1 dX7_print_62 rfl ?_
        refine gf_X7_3 fl_X7_28 dX7_print_63 ?_
        refine g_aload_n 1 dX7_print_66 rfl ?_
        refine gf_X7_7 fl_X7_53 dX7_print_67 ?_
        refine g_callVV (c_X2_addDeed q6.1 0 10) okX2_addDeed ⟨by decide, by decide⟩ ml_X7_310 (sh_X2 (by decide)) (no_X2 (by decide)) rfl rfl [.ref (xad X (4 + 2 * 10))] rfl rfl rfl (Nat.le_of_ble_eq_true rfl) dX7_print_70 (fun q7 => ?_)
        refine g_aload_n 1 dX7_print_73 rfl ?_
        refine gf_X7_7 fl_X7_53 dX7_print_74 ?_
        refine gf_X4_1 (by decide) fl_X7_135 dX7_print_77 ?_
        exact g_iret rfl dX7_print_80
      · refine g_bipush (-2 : Int32) dX7_print_37 (by decide) ?_
        exact g_iret rfl dX7_print_39
    · refine g_bipush (-3 : Int32) dX7_print_22 (by decide) ?_
      exact g_iret rfl dX7_print_24

def X7_ink (σ : Mem) (a1 : Int32) : Option (Mem × Int32) := (if a1 < 0 then (some (σ, (-1 : Int32))) else (if a1 < (6 : Int32) then ((X2_inksOf σ 0 a1).bind fun q1 => some (q1.1, q1.2)) else (some (σ, (-1 : Int32)))))
set_option maxRecDepth 100000 in
set_option maxHeartbeats 4000000 in
theorem c_X7_ink (σ : Mem) (a1 : Int32) : CT yX7_ink mX7_ink enI (fun ad => [.ref (ad (0)), .int a1]) σ (X7_ink σ a1) := by
  refine CT.of (by decide) rfl (fun _ => Nat.le_of_ble_eq_true rfl) (fun X => ?_)
  show GS (KM enI X) X mX7_ink σ 0 [(0, .ref (xad X (0))), (1, .int a1)] [] _
  unfold X7_ink
  refine g_iload_n 1 dX7_ink_0 rfl ?_
  refine g_if_lt 10 dX7_ink_1 rfl (fun _ => ?_) (fun _ => ?_)
  · refine g_iconst (-1 : Int32) dX7_ink_10 (by decide) ?_
    exact g_iret rfl dX7_ink_11
  · refine g_iload_n 1 dX7_ink_4 rfl ?_
    refine g_bipush (6 : Int32) dX7_ink_5 (by decide) ?_
    refine g_icmp_lt 12 dX7_ink_7 rfl (fun _ => ?_) (fun _ => ?_)
    · refine g_aload_n 0 dX7_ink_12 rfl ?_
      refine gf_X7_3 fl_X7_28 dX7_ink_13 ?_
      refine g_iload_n 1 dX7_ink_16 rfl ?_
      refine g_callVI (c_X2_inksOf σ 0 a1) okX2_inksOf ⟨by decide, by decide⟩ ml_X7_167 (sh_X2 (by decide)) (no_X2 (by decide)) rfl rfl [.int a1] rfl rfl rfl (Nat.le_of_ble_eq_true rfl) dX7_ink_17 (fun q1 => ?_)
      exact g_iret rfl dX7_ink_20
    · refine g_iconst (-1 : Int32) dX7_ink_10 (by decide) ?_
      exact g_iret rfl dX7_ink_11

def X7_undo_L29 (x2 : Int32) (k51 : Mem → Option (Mem × Int32)) : Nat → Mem → Int32 → Option (Mem × Int32)
  | 0, _, _ => none
  | n + 1, σ, x3 => (if x2 ≤ x3 then k51 σ else ((X2_dropDeed σ 0 10).bind fun q2 => X7_undo_L29 x2 k51 n q2.1 ((x3 + (1 : Int32)))))
def X7_undo (σ : Mem) (a1 : Int32) : Option (Mem × Int32) := (if a1 < 0 then (some (σ, (-1 : Int32))) else (if a1 ≤ (σ.1 204 0 0) then (lt_ (((σ.1 204 0 0) - a1)) fun (v1 : Int32) => X7_undo_L29 v1 (fun (s5 : Mem) => (some (s5, v1))) FU σ (0 : Int32)) else (some (σ, (-1 : Int32)))))
set_option maxRecDepth 100000 in
set_option maxHeartbeats 4000000 in
theorem t_X7_undo_L29 (X : GX) (x2 : Int32) (k51 : Mem → Option (Mem × Int32)) (hk51 : ∀ (σ : Mem), GS (KM enI X) X mX7_undo σ 51 [(2, .int x2)] [] (k51 σ)) : ∀ (n : Nat) (σ : Mem) (x3 : Int32), GS (KM enI X) X mX7_undo σ 29 [(0, .ref (xad X (0))), (2, .int x2), (3, .int x3)] [] (X7_undo_L29 x2 k51 n σ x3) := by
  intro n
  induction n with
  | zero => intros; exact g_none
  | succ n ih =>
    intro σ x3
    rw [X7_undo_L29]
    refine g_iload_n 2 dX7_undo_29 rfl ?_
    refine g_iload_n 1 dX7_undo_30 rfl ?_
    refine g_icmp_ge 51 dX7_undo_31 rfl (fun _ => ?_) (fun _ => ?_)
    · refine g_sub [1] rfl ?_
      exact hk51 σ
    · refine g_aload_n 0 dX7_undo_34 rfl ?_
      refine gf_X7_3 fl_X7_28 dX7_undo_35 ?_
      refine g_aload_n 0 dX7_undo_38 rfl ?_
      refine gf_X7_7 fl_X7_53 dX7_undo_39 ?_
      refine g_callVV (c_X2_dropDeed σ 0 10) okX2_dropDeed ⟨by decide, by decide⟩ ml_X7_314 (sh_X2 (by decide)) (no_X2 (by decide)) rfl rfl [.ref (xad X (4 + 2 * 10))] rfl rfl rfl (Nat.le_of_ble_eq_true rfl) dX7_undo_42 (fun q2 => ?_)
      refine g_iinc 2 [(3, .int ((x3 + (1 : Int32)))), (0, .ref (xad X (0))), (2, .int x2)] dX7_undo_45 rfl (v := x3 + (1 : Int32)) rfl (by decide) rfl ?_
      refine g_goto 29 dX7_undo_48 rfl ?_
      refine g_sub [1, 2, 0] rfl ?_
      exact ih q2.1 ((x3 + (1 : Int32)))

set_option maxRecDepth 100000 in
set_option maxHeartbeats 4000000 in
theorem c_X7_undo (σ : Mem) (a1 : Int32) : CT yX7_undo mX7_undo enI (fun ad => [.ref (ad (0)), .int a1]) σ (X7_undo σ a1) := by
  refine CT.of (by decide) rfl (fun _ => Nat.le_of_ble_eq_true rfl) (fun X => ?_)
  show GS (KM enI X) X mX7_undo σ 0 [(0, .ref (xad X (0))), (1, .int a1)] [] _
  unfold X7_undo
  refine g_iload_n 1 dX7_undo_0 rfl ?_
  refine g_if_lt 15 dX7_undo_1 rfl (fun _ => ?_) (fun _ => ?_)
  · refine g_iconst (-1 : Int32) dX7_undo_15 (by decide) ?_
    exact g_iret rfl dX7_undo_16
  · refine g_iload_n 1 dX7_undo_4 rfl ?_
    refine g_aload_n 0 dX7_undo_5 rfl ?_
    refine gf_X7_3 fl_X7_28 dX7_undo_6 ?_
    refine gf_X2_4 (by decide) fl_X7_307 dX7_undo_9 ?_
    refine g_icmp_le 17 dX7_undo_12 rfl (fun _ => ?_) (fun _ => ?_)
    · refine g_aload_n 0 dX7_undo_17 rfl ?_
      refine gf_X7_3 fl_X7_28 dX7_undo_18 ?_
      refine gf_X2_4 (by decide) fl_X7_307 dX7_undo_21 ?_
      refine g_iload_n 1 dX7_undo_24 rfl ?_
      refine g_isub dX7_undo_25 ?_
      refine g_topi (fun v1 => ?_)
      refine g_istore_n [(2, .int v1), (0, .ref (xad X (0))), (1, .int a1)] dX7_undo_26 (by decide) rfl ?_
      refine g_iconst (0 : Int32) dX7_undo_27 (by decide) ?_
      refine g_istore_n [(3, .int ((0 : Int32))), (2, .int v1), (0, .ref (xad X (0))), (1, .int a1)] dX7_undo_28 (by decide) rfl ?_
      refine g_sub [2, 1, 0] rfl ?_
      refine t_X7_undo_L29 X v1 _ (fun s5 => ?_) FU σ (0 : Int32)
      refine g_iload_n 0 dX7_undo_51 rfl ?_
      exact g_iret rfl dX7_undo_52
    · refine g_iconst (-1 : Int32) dX7_undo_15 (by decide) ?_
      exact g_iret rfl dX7_undo_16

def X7_drawer (σ : Mem) (a1 : Int32) (a2 : Int32) : Option (Mem × Int32) := ((X7_rowOf σ a2).bind fun q1 => spl q1.2 11 ((some (q1.1, (-1 : Int32)))) (fun r2 => ((if a1 < 0 then (some (q1.1, (-1 : Int32))) else (if a1 < (q1.1.1 204 0 0) then ((X2_deed q1.1 0 a1).bind fun q3 => (X4_unpack q3.1 r2 q3.2).bind fun q4 => some (q4.1, (q4.1.1 401 r2 0))) else (some (q1.1, (-1 : Int32))))))))
set_option maxRecDepth 100000 in
set_option maxHeartbeats 4000000 in
theorem c_X7_drawer (σ : Mem) (a1 : Int32) (a2 : Int32) : CT yX7_drawer mX7_drawer enI (fun ad => [.ref (ad (0)), .int a1, .int a2]) σ (X7_drawer σ a1 a2) := by
  refine CT.of (by decide) rfl (fun _ => Nat.le_of_ble_eq_true rfl) (fun X => ?_)
  show GS (KM enI X) X mX7_drawer σ 0 [(0, .ref (xad X (0))), (1, .int a1), (2, .int a2)] [] _
  unfold X7_drawer
  refine g_aload_n 0 dX7_drawer_0 rfl ?_
  refine g_iload_n 2 dX7_drawer_1 rfl ?_
  refine g_callVG (c_X7_rowOf σ a2) okX7_rowOf ⟨by decide, by decide⟩ ml_X7_93 sh_0 no_0 rfl rfl [.int a2] rfl rfl rfl (Nat.le_of_ble_eq_true rfl) dX7_drawer_2 (fun q1 => ?_)
  refine g_spl ?_ (fun r2 hr2 => ?_)
  · refine g_astore_nN [(3, .null), (0, .ref (xad X (0))), (1, .int a1), (2, .int a2)] dX7_drawer_5 (by decide) rfl ?_
    refine g_aload_nN 0 dX7_drawer_6 rfl ?_
    refine g_ifnullN 25 dX7_drawer_7 rfl ?_
    refine g_iconst (-1 : Int32) dX7_drawer_25 (by decide) ?_
    exact g_iret rfl dX7_drawer_26
  · refine g_astore_n [(3, .ref (xad X (4 + 2 * r2))), (0, .ref (xad X (0))), (1, .int a1), (2, .int a2)] dX7_drawer_5 (by decide) rfl ?_
    refine g_aload_n 0 dX7_drawer_6 rfl ?_
    refine g_ifnull dX7_drawer_7 ?_
    refine g_iload_n 2 dX7_drawer_10 rfl ?_
    refine g_if_lt 25 dX7_drawer_11 rfl (fun _ => ?_) (fun _ => ?_)
    · refine g_iconst (-1 : Int32) dX7_drawer_25 (by decide) ?_
      exact g_iret rfl dX7_drawer_26
    · refine g_iload_n 2 dX7_drawer_14 rfl ?_
      refine g_aload_n 1 dX7_drawer_15 rfl ?_
      refine gf_X7_3 fl_X7_28 dX7_drawer_16 ?_
      refine gf_X2_4 (by decide) fl_X7_307 dX7_drawer_19 ?_
      refine g_icmp_lt 27 dX7_drawer_22 rfl (fun _ => ?_) (fun _ => ?_)
      · refine g_aload_n 0 dX7_drawer_27 rfl ?_
        refine g_aload_n 1 dX7_drawer_28 rfl ?_
        refine gf_X7_3 fl_X7_28 dX7_drawer_29 ?_
        refine g_iload_n 2 dX7_drawer_32 rfl ?_
        refine g_callVJ (c_X2_deed q1.1 0 a1) okX2_deed ⟨by decide, by decide⟩ ml_X7_317 (sh_X2 (by decide)) (no_X2 (by decide)) rfl rfl [.int a1] rfl rfl rfl (Nat.le_of_ble_eq_true rfl) dX7_drawer_33 (fun q3 => ?_)
        refine g_callVV (c_X4_unpack q3.1 r2 q3.2) okX4_unpack ⟨by decide, by decide⟩ ml_X7_210 (sh_X4 hr2) (no_X4 hr2) rfl rfl [.long (q3.2)] rfl rfl rfl (Nat.le_of_ble_eq_true rfl) dX7_drawer_36 (fun q4 => ?_)
        refine g_aload_n 0 dX7_drawer_39 rfl ?_
        refine gf_X4_1 hr2 fl_X7_135 dX7_drawer_40 ?_
        exact g_iret rfl dX7_drawer_43
      · refine g_iconst (-1 : Int32) dX7_drawer_25 (by decide) ?_
        exact g_iret rfl dX7_drawer_26

def X7_lotAfter (σ : Mem) (a0 : Int64) : Option (Mem × Int64) := (if (2147483647 : Int64) = 0 then none else some (σ, ((a0 * (48271 : Int64)) - (a0 * (48271 : Int64)) / (2147483647 : Int64) * (2147483647 : Int64))))
set_option maxRecDepth 100000 in
set_option maxHeartbeats 4000000 in
theorem c_X7_lotAfter (σ : Mem) (a0 : Int64) : CT yX7_lotAfter mX7_lotAfter enJ (fun ad => [.long a0]) σ (X7_lotAfter σ a0) := by
  refine CT.of (by decide) rfl (fun _ => Nat.le_of_ble_eq_true rfl) (fun X => ?_)
  show GS (KM enJ X) X mX7_lotAfter σ 0 [(0, .long a0)] [] _
  unfold X7_lotAfter
  refine g_lload_n 0 dX7_lotAfter_0 rfl ?_
  refine g_ldc2 (48271 : Int64) dX7_lotAfter_1 kl_X7_372 ?_
  refine g_lmul dX7_lotAfter_4 ?_
  refine g_ldc2 (2147483647 : Int64) dX7_lotAfter_5 kl_X7_374 ?_
  refine g_lrem dX7_lotAfter_8 (fun _ => ?_)
  exact g_lret rfl dX7_lotAfter_9

