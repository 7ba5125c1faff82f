def X8_silence_J67 (σ : Mem) (x2 : Int32) (x4 : Int32) (x5 : Int32) (x6 : Int32) (kb : Mem → Int32 → Int32 → Option (Mem × Int32)) (k101 : Mem → Int32 → Option (Mem × Int32)) : Option (Mem × Int32) := ((X8_setBy σ ((x4 &&& (x6 ^^^ (-1 : Int32))))).bind fun q5 => (X8_isOut q5.1 x2).bind fun q6 => if q6.2 = 0 then (kb q6.1 x5 ((x6 + (-1 : Int32)))) else ((kb q6.1 x6 ((x6 + (-1 : Int32))))))
def X8_silence_L32 (x2 : Int32) (x4 : Int32) (k101 : Mem → Int32 → Option (Mem × Int32)) : Nat → Mem → Int32 → Int32 → Option (Mem × Int32)
  | 0, _, _, _ => none
  | n + 1, σ, x5, x6 => (if x6 < 0 then k101 σ x5 else (if (x6 &&& (x4 ^^^ (-1 : Int32))) = 0 then (if x5 = (-9 : Int32) then X8_silence_J67 σ x2 x4 x5 x6 (X8_silence_L32 x2 x4 k101 n) k101 else ((X8_sizeOf σ x6).bind fun q9 => (X8_sizeOf q9.1 x5).bind fun q10 => if q10.2 < q9.2 then (X8_silence_L32 x2 x4 k101 n q10.1 x5 ((x6 + (-1 : Int32)))) else X8_silence_J67 q10.1 x2 x4 x5 x6 (X8_silence_L32 x2 x4 k101 n) k101)) else (X8_silence_L32 x2 x4 k101 n σ x5 ((x6 + (-1 : Int32))))))
def X8_silence (σ : Mem) (a1 : Int32) (a2 : Int32) : Option (Mem × Int32) := ((X8_askedBoth σ a1 a2).bind fun q1 => if 0 ≤ q1.2 then ((X8_laySheet q1.1 a1).bind fun q2 => (X8_onSet q2.1).bind fun q3 => X8_silence_L32 a2 q3.2 (fun (s13 : Mem) (y5_12 : Int32) => (if y5_12 = (-9 : Int32) then ((some (s13, (-9 : Int32)))) else ((X8_sizeOf s13 y5_12).bind fun q14 => (X8_ask q14.1 y5_12 q14.2).bind fun q15 => some (q15.1, q15.2)))) FU q3.1 (-9 : Int32) q3.2) else (some (q1.1, q1.2)))
set_option maxRecDepth 100000 in
set_option maxHeartbeats 4000000 in
theorem t_X8_silence_J67 (X : GX) (σ : Mem) (x2 : Int32) (x4 : Int32) (x5 : Int32) (x6 : Int32) (kb : Mem → Int32 → Int32 → Option (Mem × Int32)) (k101 : Mem → Int32 → Option (Mem × Int32)) (hkb : ∀ (σ : Mem) (y5 : Int32) (y6 : Int32), GS (KM enI X) X mX8_silence σ 32 [(0, .ref (xad X (98))), (2, .int x2), (4, .int x4), (5, .int y5), (6, .int y6)] [] (kb σ y5 y6)) (hk101 : ∀ (σ : Mem) (y5 : Int32), GS (KM enI X) X mX8_silence σ 101 [(0, .ref (xad X (98))), (5, .int y5)] [] (k101 σ y5)) : GS (KM enI X) X mX8_silence σ 67 [(0, .ref (xad X (98))), (2, .int x2), (4, .int x4), (5, .int x5), (6, .int x6)] [] (X8_silence_J67 σ x2 x4 x5 x6 kb k101) := by
  unfold X8_silence_J67
  refine g_aload_n 0 dX8_silence_67 rfl ?_
  refine g_iload 2 dX8_silence_68 rfl ?_
  refine g_iload 4 dX8_silence_70 rfl ?_
  refine g_iconst (-1 : Int32) dX8_silence_72 (by decide) ?_
  refine g_ixor dX8_silence_73 ?_
  refine g_iand dX8_silence_74 ?_
  refine g_callVV (c_X8_setBy σ ((x4 &&& (x6 ^^^ (-1 : Int32))))) okX8_setBy ⟨by decide, by decide⟩ ml_X8_188 sh_98 no_98 rfl rfl [.int ((x4 &&& (x6 ^^^ (-1 : Int32))))] rfl rfl rfl (Nat.le_of_ble_eq_true rfl) dX8_silence_75 (fun q5 => ?_)
  refine g_aload_n 0 dX8_silence_78 rfl ?_
  refine g_iload_n 1 dX8_silence_79 rfl ?_
  refine g_callVI (c_X8_isOut q5.1 x2) okX8_isOut ⟨by decide, by decide⟩ ml_X8_225 sh_98 no_98 rfl rfl [.int x2] rfl rfl rfl (Nat.le_of_ble_eq_true rfl) dX8_silence_80 (fun q6 => ?_)
  refine g_if_eq 91 dX8_silence_83 rfl (fun _ => ?_) (fun _ => ?_)
  · refine g_iload 3 dX8_silence_91 rfl ?_
    refine g_istore [(5, .int x5), (0, .ref (xad X (98))), (2, .int x2), (4, .int x4), (6, .int x6)] dX8_silence_93 (by decide) rfl ?_
    refine g_iinc 4 [(6, .int ((x6 + (-1 : Int32)))), (5, .int x5), (0, .ref (xad X (98))), (2, .int x2), (4, .int x4)] dX8_silence_95 rfl (v := x6 + (-1 : Int32)) rfl (by decide) rfl ?_
    refine g_goto 32 dX8_silence_98 rfl ?_
    refine g_sub [2, 3, 4, 1, 0] rfl ?_
    exact hkb q6.1 x5 ((x6 + (-1 : Int32)))
  · refine g_iload 4 dX8_silence_86 rfl ?_
    refine g_goto 93 dX8_silence_88 rfl ?_
    refine g_istore [(5, .int x6), (0, .ref (xad X (98))), (2, .int x2), (4, .int x4), (6, .int x6)] dX8_silence_93 (by decide) rfl ?_
    refine g_iinc 4 [(6, .int ((x6 + (-1 : Int32)))), (5, .int x6), (0, .ref (xad X (98))), (2, .int x2), (4, .int x4)] dX8_silence_95 rfl (v := x6 + (-1 : Int32)) rfl (by decide) rfl ?_
    refine g_goto 32 dX8_silence_98 rfl ?_
    refine g_sub [2, 3, 4, 1, 0] rfl ?_
    exact hkb q6.1 x6 ((x6 + (-1 : Int32)))

set_option maxRecDepth 100000 in
set_option maxHeartbeats 4000000 in
theorem t_X8_silence_L32 (X : GX) (x2 : Int32) (x4 : Int32) (k101 : Mem → Int32 → Option (Mem × Int32)) (hk101 : ∀ (σ : Mem) (y5 : Int32), GS (KM enI X) X mX8_silence σ 101 [(0, .ref (xad X (98))), (5, .int y5)] [] (k101 σ y5)) : ∀ (n : Nat) (σ : Mem) (x5 : Int32) (x6 : Int32), GS (KM enI X) X mX8_silence σ 32 [(0, .ref (xad X (98))), (2, .int x2), (4, .int x4), (5, .int x5), (6, .int x6)] [] (X8_silence_L32 x2 x4 k101 n σ x5 x6) := by
  intro n
  induction n with
  | zero => intros; exact g_none
  | succ n ih =>
    intro σ x5 x6
    rw [X8_silence_L32]
    refine g_iload 4 dX8_silence_32 rfl ?_
    refine g_if_lt 101 dX8_silence_34 rfl (fun _ => ?_) (fun _ => ?_)
    · refine g_sub [0, 3] rfl ?_
      exact hk101 σ x5
    · refine g_iload 4 dX8_silence_37 rfl ?_
      refine g_iload 2 dX8_silence_39 rfl ?_
      refine g_iconst (-1 : Int32) dX8_silence_41 (by decide) ?_
      refine g_ixor dX8_silence_42 ?_
      refine g_iand dX8_silence_43 ?_
      refine g_if_ne 95 dX8_silence_44 rfl (fun _ => ?_) (fun _ => ?_)
      · refine g_iinc 4 [(6, .int ((x6 + (-1 : Int32)))), (0, .ref (xad X (98))), (2, .int x2), (4, .int x4), (5, .int x5)] dX8_silence_95 rfl (v := x6 + (-1 : Int32)) rfl (by decide) rfl ?_
        refine g_goto 32 dX8_silence_98 rfl ?_
        refine g_sub [1, 2, 3, 4, 0] rfl ?_
        exact ih σ x5 ((x6 + (-1 : Int32)))
      · refine g_iload 3 dX8_silence_47 rfl ?_
        refine g_bipush (-9 : Int32) dX8_silence_49 (by decide) ?_
        refine g_icmp_eq 67 dX8_silence_51 rfl (fun _ => ?_) (fun _ => ?_)
        · refine g_sub [0, 1, 2, 3, 4] rfl ?_
          exact t_X8_silence_J67 X σ x2 x4 x5 x6 _ _ (fun σ y5 y6 => ih σ y5 y6) hk101
        · refine g_iload 4 dX8_silence_54 rfl ?_
          refine g_callSI (c_X8_sizeOf σ x6) okX8_sizeOf ⟨by decide, by decide⟩ ml_X8_256 rfl rfl (Nat.le_of_ble_eq_true rfl) dX8_silence_56 (fun q9 => ?_)
          refine g_iload 3 dX8_silence_59 rfl ?_
          refine g_callSI (c_X8_sizeOf q9.1 x5) okX8_sizeOf ⟨by decide, by decide⟩ ml_X8_256 rfl rfl (Nat.le_of_ble_eq_true rfl) dX8_silence_61 (fun q10 => ?_)
          refine g_icmp_gt 95 dX8_silence_64 rfl (fun _ => ?_) (fun _ => ?_)
          · refine g_iinc 4 [(6, .int ((x6 + (-1 : Int32)))), (0, .ref (xad X (98))), (2, .int x2), (4, .int x4), (5, .int x5)] dX8_silence_95 rfl (v := x6 + (-1 : Int32)) rfl (by decide) rfl ?_
            refine g_goto 32 dX8_silence_98 rfl ?_
            refine g_sub [1, 2, 3, 4, 0] rfl ?_
            exact ih q10.1 x5 ((x6 + (-1 : Int32)))
          · refine g_sub [0, 1, 2, 3, 4] rfl ?_
            exact t_X8_silence_J67 X q10.1 x2 x4 x5 x6 _ _ (fun σ y5 y6 => ih σ y5 y6) hk101

set_option maxRecDepth 100000 in
set_option maxHeartbeats 4000000 in
theorem c_X8_silence (σ : Mem) (a1 : Int32) (a2 : Int32) : CT yX8_silence mX8_silence enI (fun ad => [.ref (ad (98)), .int a1, .int a2]) σ (X8_silence σ a1 a2) := by
  refine CT.of (by decide) rfl (fun _ => Nat.le_of_ble_eq_true rfl) (fun X => ?_)
  show GS (KM enI X) X mX8_silence σ 0 [(0, .ref (xad X (98))), (1, .int a1), (2, .int a2)] [] _
  unfold X8_silence
  refine g_aload_n 0 dX8_silence_0 rfl ?_
  refine g_iload_n 1 dX8_silence_1 rfl ?_
  refine g_iload_n 2 dX8_silence_2 rfl ?_
  refine g_callVI (c_X8_askedBoth σ a1 a2) okX8_askedBoth ⟨by decide, by decide⟩ ml_X8_259 sh_98 no_98 rfl rfl [.int a1, .int a2] rfl rfl rfl (Nat.le_of_ble_eq_true rfl) dX8_silence_3 (fun q1 => ?_)
  refine g_istore_n [(3, .int (q1.2)), (0, .ref (xad X (98))), (1, .int a1), (2, .int a2)] dX8_silence_6 (by decide) rfl ?_
  refine g_iload_n 0 dX8_silence_7 rfl ?_
  refine g_if_ge 13 dX8_silence_8 rfl (fun _ => ?_) (fun _ => ?_)
  · refine g_aload_n 1 dX8_silence_13 rfl ?_
    refine g_iload_n 2 dX8_silence_14 rfl ?_
    refine g_callVV (c_X8_laySheet q1.1 a1) okX8_laySheet ⟨by decide, by decide⟩ ml_X8_204 sh_98 no_98 rfl rfl [.int a1] rfl rfl rfl (Nat.le_of_ble_eq_true rfl) dX8_silence_15 (fun q2 => ?_)
    refine g_aload_n 1 dX8_silence_18 rfl ?_
    refine g_callVI (c_X8_onSet q2.1) okX8_onSet ⟨by decide, by decide⟩ ml_X8_184 sh_98 no_98 rfl rfl [] rfl rfl rfl (Nat.le_of_ble_eq_true rfl) dX8_silence_19 (fun q3 => ?_)
    refine g_istore [(4, .int (q3.2)), (3, .int (q1.2)), (0, .ref (xad X (98))), (1, .int a1), (2, .int a2)] dX8_silence_22 (by decide) rfl ?_
    refine g_bipush (-9 : Int32) dX8_silence_24 (by decide) ?_
    refine g_istore [(5, .int ((-9 : Int32))), (4, .int (q3.2)), (3, .int (q1.2)), (0, .ref (xad X (98))), (1, .int a1), (2, .int a2)] dX8_silence_26 (by decide) rfl ?_
    refine g_iload 1 dX8_silence_28 rfl ?_
    refine g_istore [(6, .int (q3.2)), (5, .int ((-9 : Int32))), (4, .int (q3.2)), (3, .int (q1.2)), (0, .ref (xad X (98))), (1, .int a1), (2, .int a2)] dX8_silence_30 (by decide) rfl ?_
    refine g_sub [4, 6, 2, 1, 0] rfl ?_
    refine t_X8_silence_L32 X a2 q3.2 _ (fun s13 y5_12 => ?_) FU q3.1 (-9 : Int32) q3.2
    refine g_iload 1 dX8_silence_101 rfl ?_
    refine g_bipush (-9 : Int32) dX8_silence_103 (by decide) ?_
    refine g_icmp_ne 113 dX8_silence_105 rfl (fun _ => ?_) (fun _ => ?_)
    · refine g_aload_n 0 dX8_silence_113 rfl ?_
      refine g_iload 1 dX8_silence_114 rfl ?_
      refine g_iload 1 dX8_silence_116 rfl ?_
      refine g_callSI (c_X8_sizeOf s13 y5_12) okX8_sizeOf ⟨by decide, by decide⟩ ml_X8_256 rfl rfl (Nat.le_of_ble_eq_true rfl) dX8_silence_118 (fun q14 => ?_)
      refine g_callVI (c_X8_ask q14.1 y5_12 q14.2) okX8_ask ⟨by decide, by decide⟩ ml_X8_109 sh_98 no_98 rfl rfl [.int y5_12, .int (q14.2)] rfl rfl rfl (Nat.le_of_ble_eq_true rfl) dX8_silence_121 (fun q15 => ?_)
      exact g_iret rfl dX8_silence_124
    · refine g_bipush (-9 : Int32) dX8_silence_108 (by decide) ?_
      refine g_goto 124 dX8_silence_110 rfl ?_
      exact g_iret rfl dX8_silence_124
  · refine g_iload_n 0 dX8_silence_11 rfl ?_
    exact g_iret rfl dX8_silence_12

def X8_which_J65 (σ : Mem) (x2 : Int32) (x5 : Int32) (x6 : Int32) (x7 : Int32) (z0 : Int32) (z1 : Int32) (kb : Mem → Int32 → Int32 → Int32 → Option (Mem × Int32)) (k88 : Mem → Int32 → Int32 → Option (Mem × Int32)) : Option (Mem × Int32) := (lt_ ((z1 + z0)) fun (v6 : Int32) => if x7 = 0 then (kb σ v6 x5 ((x6 + (-1 : Int32)))) else ((kb σ v6 x6 ((x6 + (-1 : Int32))))))
def X8_which_L35 (x2 : Int32) (k88 : Mem → Int32 → Int32 → Option (Mem × Int32)) : Nat → Mem → Int32 → Int32 → Int32 → Option (Mem × Int32)
  | 0, _, _, _, _ => none
  | n + 1, σ, x4, x5, x6 => (if x6 < 0 then k88 σ x4 x5 else ((X8_setBy σ x6).bind fun q4 => (X8_isOut q4.1 x2).bind fun q5 => if q5.2 = 0 then (X8_which_J65 q5.1 x2 x5 x6 q5.2 (0 : Int32) x4 (X8_which_L35 x2 k88 n) k88) else (X8_which_J65 q5.1 x2 x5 x6 q5.2 (1 : Int32) x4 (X8_which_L35 x2 k88 n) k88)))
def X8_which (σ : Mem) (a1 : Int32) (a2 : Int32) : Option (Mem × Int32) := ((X8_askedBoth σ a1 a2).bind fun q1 => if 0 ≤ q1.2 then ((X8_laySheet q1.1 a1).bind fun q2 => lt_ ((((1 : Int32) <<< ((q2.1.1 810 0 0) &&& 31)) - (1 : Int32))) fun (v3 : Int32) => X8_which_L35 a2 (fun (s10 : Mem) (y4_9 : Int32) (y5_9 : Int32) => ((X8_ask s10 y5_9 y4_9).bind fun q11 => some (q11.1, q11.2))) FU q2.1 (0 : Int32) (-9 : Int32) v3) else (some (q1.1, q1.2)))
set_option maxRecDepth 100000 in
set_option maxHeartbeats 4000000 in
theorem t_X8_which_J65 (X : GX) (σ : Mem) (x2 : Int32) (x5 : Int32) (x6 : Int32) (x7 : Int32) (z0 : Int32) (z1 : Int32) (kb : Mem → Int32 → Int32 → Int32 → Option (Mem × Int32)) (k88 : Mem → Int32 → Int32 → Option (Mem × Int32)) (hkb : ∀ (σ : Mem) (y4 : Int32) (y5 : Int32) (y6 : Int32), GS (KM enI X) X mX8_which σ 35 [(0, .ref (xad X (98))), (2, .int x2), (4, .int y4), (5, .int y5), (6, .int y6)] [] (kb σ y4 y5 y6)) (hk88 : ∀ (σ : Mem) (y4 : Int32) (y5 : Int32), GS (KM enI X) X mX8_which σ 88 [(0, .ref (xad X (98))), (4, .int y4), (5, .int y5)] [] (k88 σ y4 y5)) : GS (KM enI X) X mX8_which σ 65 [(0, .ref (xad X (98))), (2, .int x2), (5, .int x5), (6, .int x6), (7, .int x7)] [.int z0, .int z1] (X8_which_J65 σ x2 x5 x6 x7 z0 z1 kb k88) := by
  unfold X8_which_J65
  refine g_iadd dX8_which_65 ?_
  refine g_topi (fun v6 => ?_)
  refine g_istore [(4, .int v6), (0, .ref (xad X (98))), (2, .int x2), (5, .int x5), (6, .int x6), (7, .int x7)] dX8_which_66 (by decide) rfl ?_
  refine g_iload 5 dX8_which_68 rfl ?_
  refine g_if_eq 78 dX8_which_70 rfl (fun _ => ?_) (fun _ => ?_)
  · refine g_iload 3 dX8_which_78 rfl ?_
    refine g_istore [(5, .int x5), (4, .int v6), (0, .ref (xad X (98))), (2, .int x2), (6, .int x6), (7, .int x7)] dX8_which_80 (by decide) rfl ?_
    refine g_iinc 4 [(6, .int ((x6 + (-1 : Int32)))), (5, .int x5), (4, .int v6), (0, .ref (xad X (98))), (2, .int x2), (7, .int x7)] dX8_which_82 rfl (v := x6 + (-1 : Int32)) rfl (by decide) rfl ?_
    refine g_goto 35 dX8_which_85 rfl ?_
    refine g_sub [3, 4, 2, 1, 0] rfl ?_
    exact hkb σ v6 x5 ((x6 + (-1 : Int32)))
  · refine g_iload 4 dX8_which_73 rfl ?_
    refine g_goto 80 dX8_which_75 rfl ?_
    refine g_istore [(5, .int x6), (4, .int v6), (0, .ref (xad X (98))), (2, .int x2), (6, .int x6), (7, .int x7)] dX8_which_80 (by decide) rfl ?_
    refine g_iinc 4 [(6, .int ((x6 + (-1 : Int32)))), (5, .int x6), (4, .int v6), (0, .ref (xad X (98))), (2, .int x2), (7, .int x7)] dX8_which_82 rfl (v := x6 + (-1 : Int32)) rfl (by decide) rfl ?_
    refine g_goto 35 dX8_which_85 rfl ?_
    refine g_sub [3, 4, 2, 1, 0] rfl ?_
    exact hkb σ v6 x6 ((x6 + (-1 : Int32)))

set_option maxRecDepth 100000 in
set_option maxHeartbeats 4000000 in
theorem t_X8_which_L35 (X : GX) (x2 : Int32) (k88 : Mem → Int32 → Int32 → Option (Mem × Int32)) (hk88 : ∀ (σ : Mem) (y4 : Int32) (y5 : Int32), GS (KM enI X) X mX8_which σ 88 [(0, .ref (xad X (98))), (4, .int y4), (5, .int y5)] [] (k88 σ y4 y5)) : ∀ (n : Nat) (σ : Mem) (x4 : Int32) (x5 : Int32) (x6 : Int32), GS (KM enI X) X mX8_which σ 35 [(0, .ref (xad X (98))), (2, .int x2), (4, .int x4), (5, .int x5), (6, .int x6)] [] (X8_which_L35 x2 k88 n σ x4 x5 x6) := by
  intro n
  induction n with
  | zero => intros; exact g_none
  | succ n ih =>
    intro σ x4 x5 x6
    rw [X8_which_L35]
    refine g_iload 4 dX8_which_35 rfl ?_
    refine g_if_lt 88 dX8_which_37 rfl (fun _ => ?_) (fun _ => ?_)
    · refine g_sub [0, 2, 3] rfl ?_
      exact hk88 σ x4 x5
    · refine g_aload_n 0 dX8_which_40 rfl ?_
      refine g_iload 4 dX8_which_41 rfl ?_
      refine g_callVV (c_X8_setBy σ x6) okX8_setBy ⟨by decide, by decide⟩ ml_X8_188 sh_98 no_98 rfl rfl [.int x6] rfl rfl rfl (Nat.le_of_ble_eq_true rfl) dX8_which_43 (fun q4 => ?_)
      refine g_aload_n 0 dX8_which_46 rfl ?_
      refine g_iload_n 1 dX8_which_47 rfl ?_
      refine g_callVI (c_X8_isOut q4.1 x2) okX8_isOut ⟨by decide, by decide⟩ ml_X8_225 sh_98 no_98 rfl rfl [.int x2] rfl rfl rfl (Nat.le_of_ble_eq_true rfl) dX8_which_48 (fun q5 => ?_)
      refine g_istore [(7, .int (q5.2)), (0, .ref (xad X (98))), (2, .int x2), (4, .int x4), (5, .int x5), (6, .int x6)] dX8_which_51 (by decide) rfl ?_
      refine g_iload 3 dX8_which_53 rfl ?_
      refine g_iload 0 dX8_which_55 rfl ?_
      refine g_if_eq 64 dX8_which_57 rfl (fun _ => ?_) (fun _ => ?_)
      · refine g_iconst (0 : Int32) dX8_which_64 (by decide) ?_
        refine g_sub [1, 2, 4, 5, 0] rfl ?_
        exact t_X8_which_J65 X q5.1 x2 x5 x6 q5.2 (0 : Int32) x4 _ _ (fun σ y4 y5 y6 => ih σ y4 y5 y6) hk88
      · refine g_iconst (1 : Int32) dX8_which_60 (by decide) ?_
        refine g_goto 65 dX8_which_61 rfl ?_
        refine g_sub [1, 2, 4, 5, 0] rfl ?_
        exact t_X8_which_J65 X q5.1 x2 x5 x6 q5.2 (1 : Int32) x4 _ _ (fun σ y4 y5 y6 => ih σ y4 y5 y6) hk88

set_option maxRecDepth 100000 in
set_option maxHeartbeats 4000000 in
theorem c_X8_which (σ : Mem) (a1 : Int32) (a2 : Int32) : CT yX8_which mX8_which enI (fun ad => [.ref (ad (98)), .int a1, .int a2]) σ (X8_which σ a1 a2) := by
  refine CT.of (by decide) rfl (fun _ => Nat.le_of_ble_eq_true rfl) (fun X => ?_)
  show GS (KM enI X) X mX8_which σ 0 [(0, .ref (xad X (98))), (1, .int a1), (2, .int a2)] [] _
  unfold X8_which
  refine g_aload_n 0 dX8_which_0 rfl ?_
  refine g_iload_n 1 dX8_which_1 rfl ?_
  refine g_iload_n 2 dX8_which_2 rfl ?_
  refine g_callVI (c_X8_askedBoth σ a1 a2) okX8_askedBoth ⟨by decide, by decide⟩ ml_X8_259 sh_98 no_98 rfl rfl [.int a1, .int a2] rfl rfl rfl (Nat.le_of_ble_eq_true rfl) dX8_which_3 (fun q1 => ?_)
  refine g_istore_n [(3, .int (q1.2)), (0, .ref (xad X (98))), (1, .int a1), (2, .int a2)] dX8_which_6 (by decide) rfl ?_
  refine g_iload_n 0 dX8_which_7 rfl ?_
  refine g_if_ge 13 dX8_which_8 rfl (fun _ => ?_) (fun _ => ?_)
  · refine g_aload_n 1 dX8_which_13 rfl ?_
    refine g_iload_n 2 dX8_which_14 rfl ?_
    refine g_callVV (c_X8_laySheet q1.1 a1) okX8_laySheet ⟨by decide, by decide⟩ ml_X8_204 sh_98 no_98 rfl rfl [.int a1] rfl rfl rfl (Nat.le_of_ble_eq_true rfl) dX8_which_15 (fun q2 => ?_)
    refine g_iconst (0 : Int32) dX8_which_18 (by decide) ?_
    refine g_istore [(4, .int ((0 : Int32))), (3, .int (q1.2)), (0, .ref (xad X (98))), (1, .int a1), (2, .int a2)] dX8_which_19 (by decide) rfl ?_
    refine g_bipush (-9 : Int32) dX8_which_21 (by decide) ?_
    refine g_istore [(5, .int ((-9 : Int32))), (4, .int ((0 : Int32))), (3, .int (q1.2)), (0, .ref (xad X (98))), (1, .int a1), (2, .int a2)] dX8_which_23 (by decide) rfl ?_
    refine g_iconst (1 : Int32) dX8_which_25 (by decide) ?_
    refine g_aload_n 3 dX8_which_26 rfl ?_
    refine gf_X8_10 fl_X8_139 dX8_which_27 ?_
    refine g_ishl dX8_which_30 ?_
    refine g_iconst (1 : Int32) dX8_which_31 (by decide) ?_
    refine g_isub dX8_which_32 ?_
    refine g_topi (fun v3 => ?_)
    refine g_istore [(6, .int v3), (5, .int ((-9 : Int32))), (4, .int ((0 : Int32))), (3, .int (q1.2)), (0, .ref (xad X (98))), (1, .int a1), (2, .int a2)] dX8_which_33 (by decide) rfl ?_
    refine g_sub [4, 6, 2, 1, 0] rfl ?_
    refine t_X8_which_L35 X a2 _ (fun s10 y4_9 y5_9 => ?_) FU q2.1 (0 : Int32) (-9 : Int32) v3
    refine g_aload_n 0 dX8_which_88 rfl ?_
    refine g_iload 2 dX8_which_89 rfl ?_
    refine g_iload 1 dX8_which_91 rfl ?_
    refine g_callVI (c_X8_ask s10 y5_9 y4_9) okX8_ask ⟨by decide, by decide⟩ ml_X8_109 sh_98 no_98 rfl rfl [.int y5_9, .int y4_9] rfl rfl rfl (Nat.le_of_ble_eq_true rfl) dX8_which_93 (fun q11 => ?_)
    exact g_iret rfl dX8_which_96
  · refine g_iload_n 0 dX8_which_11 rfl ?_
    exact g_iret rfl dX8_which_12

def X8_kinds_L117 (x3 : Int32) (x5 : Int32) (x6 : Int32) (x7 : Int32) (x8 : Int32) (k167 : Mem → Int32 → Option (Mem × Int32)) : Nat → Mem → Int32 → Int32 → Option (Mem × Int32)
  | 0, _, _, _ => none
  | n + 1, σ, x9, x10 => (if (5 : Int32) < x10 then k167 σ x9 else (ck x5 40 <| (X8_onSet ((uI σ 811 0 x5.toNatClampNeg x10))).bind fun q8 => (X8_setBy q8.1 q8.2).bind fun q9 => (X8_isOut q9.1 x3).bind fun q10 => if q10.2 = 0 then (lt_ ((x9 ||| (0 : Int32))) fun (v11 : Int32) => X8_kinds_L117 x3 x5 x6 x7 x8 k167 n q10.1 v11 ((x10 + (1 : Int32)))) else ((lt_ ((x9 ||| ((1 : Int32) <<< (x10 &&& 31)))) fun (v13 : Int32) => X8_kinds_L117 x3 x5 x6 x7 x8 k167 n q10.1 v13 ((x10 + (1 : Int32)))))))
def X8_kinds_J88 (σ : Mem) (x3 : Int32) (x5 : Int32) (x6 : Int32) (x7 : Int32) (x8 : Int32) (z0 : Int32) (z1 : Int32) : Option (Mem × Int32) := (ck z1 40 <| if x8 = (-9 : Int32) then ((ck (x5 + (3 : Int32)) 40 <| X8_kinds_L117 x3 x5 x6 x7 x8 (fun (s18 : Mem) (y9_17 : Int32) => (ck x5 40 <| ck (x5 + (2 : Int32)) 40 <| ck (x5 + (3 : Int32)) 40 <| some ((uI ((uI ((uI s18 811 0 x5.toNatClampNeg x6)) 811 0 (x5 + (2 : Int32)).toNatClampNeg x7)) 811 0 (x5 + (3 : Int32)).toNatClampNeg x8), y9_17))) FU ((uI ((uI σ 811 0 z1.toNatClampNeg z0)) 811 0 (x5 + (3 : Int32)).toNatClampNeg (0 : Int32))) (0 : Int32) (0 : Int32))) else (ck (x5 + (3 : Int32)) 40 <| X8_kinds_L117 x3 x5 x6 x7 x8 (fun (s16 : Mem) (y9_15 : Int32) => (ck x5 40 <| ck (x5 + (2 : Int32)) 40 <| ck (x5 + (3 : Int32)) 40 <| some ((uI ((uI ((uI s16 811 0 x5.toNatClampNeg x6)) 811 0 (x5 + (2 : Int32)).toNatClampNeg x7)) 811 0 (x5 + (3 : Int32)).toNatClampNeg x8), y9_15))) FU ((uI ((uI σ 811 0 z1.toNatClampNeg z0)) 811 0 (x5 + (3 : Int32)).toNatClampNeg x8)) (0 : Int32) (0 : Int32)))
def X8_kinds (σ : Mem) (a1 : Int32) (a2 : Int32) (a3 : Int32) : Option (Mem × Int32) := ((X8_isLaw σ a1).bind fun q1 => if q1.2 = 0 then (some (q1.1, (-1 : Int32))) else ((X8_askedBoth q1.1 a2 a3).bind fun q2 => if 0 ≤ q2.2 then ((X8_laySheet q2.1 a2).bind fun q3 => lt_ (((5 : Int32) * a1)) fun (v4 : Int32) => ck v4 40 <| lt_ ((q3.1.1 811 0 v4.toNatClampNeg)) fun (v5 : Int32) => ck (v4 + (2 : Int32)) 40 <| lt_ ((q3.1.1 811 0 (v4 + (2 : Int32)).toNatClampNeg)) fun (v6 : Int32) => ck (v4 + (3 : Int32)) 40 <| lt_ ((q3.1.1 811 0 (v4 + (3 : Int32)).toNatClampNeg)) fun (v7 : Int32) => if v6 = (-9 : Int32) then (X8_kinds_J88 q3.1 a3 v4 v5 v6 v7 (0 : Int32) ((v4 + (2 : Int32)))) else (X8_kinds_J88 q3.1 a3 v4 v5 v6 v7 v6 ((v4 + (2 : Int32))))) else (some (q2.1, q2.2))))
set_option maxRecDepth 100000 in
set_option maxHeartbeats 4000000 in
theorem t_X8_kinds_L117 (X : GX) (x3 : Int32) (x5 : Int32) (x6 : Int32) (x7 : Int32) (x8 : Int32) (k167 : Mem → Int32 → Option (Mem × Int32)) (hk167 : ∀ (σ : Mem) (y9 : Int32), GS (KM enI X) X mX8_kinds σ 167 [(0, .ref (xad X (98))), (5, .int x5), (6, .int x6), (7, .int x7), (8, .int x8), (9, .int y9)] [] (k167 σ y9)) : ∀ (n : Nat) (σ : Mem) (x9 : Int32) (x10 : Int32), GS (KM enI X) X mX8_kinds σ 117 [(0, .ref (xad X (98))), (3, .int x3), (5, .int x5), (6, .int x6), (7, .int x7), (8, .int x8), (9, .int x9), (10, .int x10)] [] (X8_kinds_L117 x3 x5 x6 x7 x8 k167 n σ x9 x10) := by
  intro n
  induction n with
  | zero => intros; exact g_none
  | succ n ih =>
    intro σ x9 x10
    rw [X8_kinds_L117]
    refine g_iload 7 dX8_kinds_117 rfl ?_
    refine g_iconst (5 : Int32) dX8_kinds_119 (by decide) ?_
    refine g_icmp_gt 167 dX8_kinds_120 rfl (fun _ => ?_) (fun _ => ?_)
    · refine g_sub [0, 2, 3, 4, 5, 6] rfl ?_
      exact hk167 σ x9
    · refine g_aload_n 0 dX8_kinds_123 rfl ?_
      refine gf_X8_11 fl_X8_32 dX8_kinds_124 ?_
      refine g_iload 2 dX8_kinds_127 rfl ?_
      refine g_iload 7 dX8_kinds_129 rfl ?_
      refine g_iast sh_105 no_105 dX8_kinds_131 (fun _ => ?_)
      refine g_aload_n 0 dX8_kinds_132 rfl ?_
      refine g_aload_n 0 dX8_kinds_133 rfl ?_
      refine g_callVI (c_X8_onSet ((uI σ 811 0 x5.toNatClampNeg x10))) okX8_onSet ⟨by decide, by decide⟩ ml_X8_184 sh_98 no_98 rfl rfl [] rfl rfl rfl (Nat.le_of_ble_eq_true rfl) dX8_kinds_134 (fun q8 => ?_)
      refine g_callVV (c_X8_setBy q8.1 q8.2) okX8_setBy ⟨by decide, by decide⟩ ml_X8_188 sh_98 no_98 rfl rfl [.int (q8.2)] rfl rfl rfl (Nat.le_of_ble_eq_true rfl) dX8_kinds_137 (fun q9 => ?_)
      refine g_iload 6 dX8_kinds_140 rfl ?_
      refine g_aload_n 0 dX8_kinds_142 rfl ?_
      refine g_iload_n 1 dX8_kinds_143 rfl ?_
      refine g_callVI (c_X8_isOut q9.1 x3) okX8_isOut ⟨by decide, by decide⟩ ml_X8_225 sh_98 no_98 rfl rfl [.int x3] rfl rfl rfl (Nat.le_of_ble_eq_true rfl) dX8_kinds_144 (fun q10 => ?_)
      refine g_if_eq 157 dX8_kinds_147 rfl (fun _ => ?_) (fun _ => ?_)
      · refine g_iconst (0 : Int32) dX8_kinds_157 (by decide) ?_
        refine g_ior dX8_kinds_158 ?_
        refine g_topi (fun v11 => ?_)
        refine g_istore [(9, .int v11), (0, .ref (xad X (98))), (3, .int x3), (5, .int x5), (6, .int x6), (7, .int x7), (8, .int x8), (10, .int x10)] dX8_kinds_159 (by decide) rfl ?_
        refine g_iinc 7 [(10, .int ((x10 + (1 : Int32)))), (9, .int v11), (0, .ref (xad X (98))), (3, .int x3), (5, .int x5), (6, .int x6), (7, .int x7), (8, .int x8)] dX8_kinds_161 rfl (v := x10 + (1 : Int32)) rfl (by decide) rfl ?_
        refine g_goto 117 dX8_kinds_164 rfl ?_
        refine g_sub [2, 3, 4, 5, 6, 7, 1, 0] rfl ?_
        exact ih q10.1 v11 ((x10 + (1 : Int32)))
      · refine g_iconst (1 : Int32) dX8_kinds_150 (by decide) ?_
        refine g_iload 7 dX8_kinds_151 rfl ?_
        refine g_ishl dX8_kinds_153 ?_
        refine g_goto 158 dX8_kinds_154 rfl ?_
        refine g_ior dX8_kinds_158 ?_
        refine g_topi (fun v13 => ?_)
        refine g_istore [(9, .int v13), (0, .ref (xad X (98))), (3, .int x3), (5, .int x5), (6, .int x6), (7, .int x7), (8, .int x8), (10, .int x10)] dX8_kinds_159 (by decide) rfl ?_
        refine g_iinc 7 [(10, .int ((x10 + (1 : Int32)))), (9, .int v13), (0, .ref (xad X (98))), (3, .int x3), (5, .int x5), (6, .int x6), (7, .int x7), (8, .int x8)] dX8_kinds_161 rfl (v := x10 + (1 : Int32)) rfl (by decide) rfl ?_
        refine g_goto 117 dX8_kinds_164 rfl ?_
        refine g_sub [2, 3, 4, 5, 6, 7, 1, 0] rfl ?_
        exact ih q10.1 v13 ((x10 + (1 : Int32)))

set_option maxRecDepth 100000 in
set_option maxHeartbeats 4000000 in
theorem t_X8_kinds_J88 (X : GX) (σ : Mem) (x3 : Int32) (x5 : Int32) (x6 : Int32) (x7 : Int32) (x8 : Int32) (z0 : Int32) (z1 : Int32) : GS (KM enI X) X mX8_kinds σ 88 [(0, .ref (xad X (98))), (3, .int x3), (5, .int x5), (6, .int x6), (7, .int x7), (8, .int x8)] [.int z0, .int z1, .ref (xad X (105))] (X8_kinds_J88 σ x3 x5 x6 x7 x8 z0 z1) := by
  unfold X8_kinds_J88
  refine g_iast sh_105 no_105 dX8_kinds_88 (fun _ => ?_)
  refine g_aload_n 0 dX8_kinds_89 rfl ?_
  refine gf_X8_11 fl_X8_32 dX8_kinds_90 ?_
  refine g_iload 2 dX8_kinds_93 rfl ?_
  refine g_iconst (3 : Int32) dX8_kinds_95 (by decide) ?_
  refine g_iadd dX8_kinds_96 ?_
  refine g_iload 5 dX8_kinds_97 rfl ?_
  refine g_bipush (-9 : Int32) dX8_kinds_99 (by decide) ?_
  refine g_icmp_ne 108 dX8_kinds_101 rfl (fun _ => ?_) (fun _ => ?_)
  · refine g_iload 5 dX8_kinds_108 rfl ?_
    refine g_iast sh_105 no_105 dX8_kinds_110 (fun _ => ?_)
    refine g_iconst (0 : Int32) dX8_kinds_111 (by decide) ?_
    refine g_istore [(9, .int ((0 : Int32))), (0, .ref (xad X (98))), (3, .int x3), (5, .int x5), (6, .int x6), (7, .int x7), (8, .int x8)] dX8_kinds_112 (by decide) rfl ?_
    refine g_iconst (0 : Int32) dX8_kinds_114 (by decide) ?_
    refine g_istore [(10, .int ((0 : Int32))), (9, .int ((0 : Int32))), (0, .ref (xad X (98))), (3, .int x3), (5, .int x5), (6, .int x6), (7, .int x7), (8, .int x8)] dX8_kinds_115 (by decide) rfl ?_
    refine g_sub [2, 3, 4, 5, 6, 7, 1, 0] rfl ?_
    refine t_X8_kinds_L117 X x3 x5 x6 x7 x8 _ (fun s16 y9_15 => ?_) FU ((uI ((uI σ 811 0 z1.toNatClampNeg z0)) 811 0 (x5 + (3 : Int32)).toNatClampNeg x8)) (0 : Int32) (0 : Int32)
    refine g_aload_n 0 dX8_kinds_167 rfl ?_
    refine gf_X8_11 fl_X8_32 dX8_kinds_168 ?_
    refine g_iload 1 dX8_kinds_171 rfl ?_
    refine g_iload 2 dX8_kinds_173 rfl ?_
    refine g_iast sh_105 no_105 dX8_kinds_175 (fun _ => ?_)
    refine g_aload_n 0 dX8_kinds_176 rfl ?_
    refine gf_X8_11 fl_X8_32 dX8_kinds_177 ?_
    refine g_iload 1 dX8_kinds_180 rfl ?_
    refine g_iconst (2 : Int32) dX8_kinds_182 (by decide) ?_
    refine g_iadd dX8_kinds_183 ?_
    refine g_iload 3 dX8_kinds_184 rfl ?_
    refine g_iast sh_105 no_105 dX8_kinds_186 (fun _ => ?_)
    refine g_aload_n 0 dX8_kinds_187 rfl ?_
    refine gf_X8_11 fl_X8_32 dX8_kinds_188 ?_
    refine g_iload 1 dX8_kinds_191 rfl ?_
    refine g_iconst (3 : Int32) dX8_kinds_193 (by decide) ?_
    refine g_iadd dX8_kinds_194 ?_
    refine g_iload 4 dX8_kinds_195 rfl ?_
    refine g_iast sh_105 no_105 dX8_kinds_197 (fun _ => ?_)
    refine g_iload 5 dX8_kinds_198 rfl ?_
    exact g_iret rfl dX8_kinds_200
  · refine g_iconst (0 : Int32) dX8_kinds_104 (by decide) ?_
    refine g_goto 110 dX8_kinds_105 rfl ?_
    refine g_iast sh_105 no_105 dX8_kinds_110 (fun _ => ?_)
    refine g_iconst (0 : Int32) dX8_kinds_111 (by decide) ?_
    refine g_istore [(9, .int ((0 : Int32))), (0, .ref (xad X (98))), (3, .int x3), (5, .int x5), (6, .int x6), (7, .int x7), (8, .int x8)] dX8_kinds_112 (by decide) rfl ?_
    refine g_iconst (0 : Int32) dX8_kinds_114 (by decide) ?_
    refine g_istore [(10, .int ((0 : Int32))), (9, .int ((0 : Int32))), (0, .ref (xad X (98))), (3, .int x3), (5, .int x5), (6, .int x6), (7, .int x7), (8, .int x8)] dX8_kinds_115 (by decide) rfl ?_
    refine g_sub [2, 3, 4, 5, 6, 7, 1, 0] rfl ?_
    refine t_X8_kinds_L117 X x3 x5 x6 x7 x8 _ (fun s18 y9_17 => ?_) FU ((uI ((uI σ 811 0 z1.toNatClampNeg z0)) 811 0 (x5 + (3 : Int32)).toNatClampNeg (0 : Int32))) (0 : Int32) (0 : Int32)
    refine g_aload_n 0 dX8_kinds_167 rfl ?_
    refine gf_X8_11 fl_X8_32 dX8_kinds_168 ?_
    refine g_iload 1 dX8_kinds_171 rfl ?_
    refine g_iload 2 dX8_kinds_173 rfl ?_
    refine g_iast sh_105 no_105 dX8_kinds_175 (fun _ => ?_)
    refine g_aload_n 0 dX8_kinds_176 rfl ?_
    refine gf_X8_11 fl_X8_32 dX8_kinds_177 ?_
    refine g_iload 1 dX8_kinds_180 rfl ?_
    refine g_iconst (2 : Int32) dX8_kinds_182 (by decide) ?_
    refine g_iadd dX8_kinds_183 ?_
    refine g_iload 3 dX8_kinds_184 rfl ?_
    refine g_iast sh_105 no_105 dX8_kinds_186 (fun _ => ?_)
    refine g_aload_n 0 dX8_kinds_187 rfl ?_
    refine gf_X8_11 fl_X8_32 dX8_kinds_188 ?_
    refine g_iload 1 dX8_kinds_191 rfl ?_
    refine g_iconst (3 : Int32) dX8_kinds_193 (by decide) ?_
    refine g_iadd dX8_kinds_194 ?_
    refine g_iload 4 dX8_kinds_195 rfl ?_
    refine g_iast sh_105 no_105 dX8_kinds_197 (fun _ => ?_)
    refine g_iload 5 dX8_kinds_198 rfl ?_
    exact g_iret rfl dX8_kinds_200

set_option maxRecDepth 100000 in
set_option maxHeartbeats 4000000 in
theorem c_X8_kinds (σ : Mem) (a1 : Int32) (a2 : Int32) (a3 : Int32) : CT yX8_kinds mX8_kinds enI (fun ad => [.ref (ad (98)), .int a1, .int a2, .int a3]) σ (X8_kinds σ a1 a2 a3) := by
  refine CT.of (by decide) rfl (fun _ => Nat.le_of_ble_eq_true rfl) (fun X => ?_)
  show GS (KM enI X) X mX8_kinds σ 0 [(0, .ref (xad X (98))), (1, .int a1), (2, .int a2), (3, .int a3)] [] _
  unfold X8_kinds
  refine g_aload_n 0 dX8_kinds_0 rfl ?_
  refine g_iload_n 1 dX8_kinds_1 rfl ?_
  refine g_callVI (c_X8_isLaw σ a1) okX8_isLaw ⟨by decide, by decide⟩ ml_X8_145 sh_98 no_98 rfl rfl [.int a1] rfl rfl rfl (Nat.le_of_ble_eq_true rfl) dX8_kinds_2 (fun q1 => ?_)
  refine g_if_ne 10 dX8_kinds_5 rfl (fun _ => ?_) (fun _ => ?_)
  · refine g_aload_n 0 dX8_kinds_10 rfl ?_
    refine g_iload_n 2 dX8_kinds_11 rfl ?_
    refine g_iload_n 3 dX8_kinds_12 rfl ?_
    refine g_callVI (c_X8_askedBoth q1.1 a2 a3) okX8_askedBoth ⟨by decide, by decide⟩ ml_X8_259 sh_98 no_98 rfl rfl [.int a2, .int a3] rfl rfl rfl (Nat.le_of_ble_eq_true rfl) dX8_kinds_13 (fun q2 => ?_)
    refine g_istore [(4, .int (q2.2)), (0, .ref (xad X (98))), (1, .int a1), (2, .int a2), (3, .int a3)] dX8_kinds_16 (by decide) rfl ?_
    refine g_iload 0 dX8_kinds_18 rfl ?_
    refine g_if_ge 26 dX8_kinds_20 rfl (fun _ => ?_) (fun _ => ?_)
    · refine g_aload_n 1 dX8_kinds_26 rfl ?_
      refine g_iload_n 3 dX8_kinds_27 rfl ?_
      refine g_callVV (c_X8_laySheet q2.1 a2) okX8_laySheet ⟨by decide, by decide⟩ ml_X8_204 sh_98 no_98 rfl rfl [.int a2] rfl rfl rfl (Nat.le_of_ble_eq_true rfl) dX8_kinds_28 (fun q3 => ?_)
      refine g_iconst (5 : Int32) dX8_kinds_31 (by decide) ?_
      refine g_iload_n 2 dX8_kinds_32 rfl ?_
      refine g_imul dX8_kinds_33 ?_
      refine g_topi (fun v4 => ?_)
      refine g_istore [(5, .int v4), (4, .int (q2.2)), (0, .ref (xad X (98))), (1, .int a1), (2, .int a2), (3, .int a3)] dX8_kinds_34 (by decide) rfl ?_
      refine g_aload_n 2 dX8_kinds_36 rfl ?_
      refine gf_X8_11 fl_X8_32 dX8_kinds_37 ?_
      refine g_iload 0 dX8_kinds_40 rfl ?_
      refine g_iald sh_105 no_105 dX8_kinds_42 (fun _ => ?_)
      refine g_topi (fun v5 => ?_)
      refine g_istore [(6, .int v5), (5, .int v4), (4, .int (q2.2)), (0, .ref (xad X (98))), (1, .int a1), (2, .int a2), (3, .int a3)] dX8_kinds_43 (by decide) rfl ?_
      refine g_aload_n 3 dX8_kinds_45 rfl ?_
      refine gf_X8_11 fl_X8_32 dX8_kinds_46 ?_
      refine g_iload 1 dX8_kinds_49 rfl ?_
      refine g_iconst (2 : Int32) dX8_kinds_51 (by decide) ?_
      refine g_iadd dX8_kinds_52 ?_
      refine g_iald sh_105 no_105 dX8_kinds_53 (fun _ => ?_)
      refine g_topi (fun v6 => ?_)
      refine g_istore [(7, .int v6), (6, .int v5), (5, .int v4), (4, .int (q2.2)), (0, .ref (xad X (98))), (1, .int a1), (2, .int a2), (3, .int a3)] dX8_kinds_54 (by decide) rfl ?_
      refine g_aload_n 4 dX8_kinds_56 rfl ?_
      refine gf_X8_11 fl_X8_32 dX8_kinds_57 ?_
      refine g_iload 2 dX8_kinds_60 rfl ?_
      refine g_iconst (3 : Int32) dX8_kinds_62 (by decide) ?_
      refine g_iadd dX8_kinds_63 ?_
      refine g_iald sh_105 no_105 dX8_kinds_64 (fun _ => ?_)
      refine g_topi (fun v7 => ?_)
      refine g_istore [(8, .int v7), (7, .int v6), (6, .int v5), (5, .int v4), (4, .int (q2.2)), (0, .ref (xad X (98))), (1, .int a1), (2, .int a2), (3, .int a3)] dX8_kinds_65 (by decide) rfl ?_
      refine g_aload_n 5 dX8_kinds_67 rfl ?_
      refine gf_X8_11 fl_X8_32 dX8_kinds_68 ?_
      refine g_iload 3 dX8_kinds_71 rfl ?_
      refine g_iconst (2 : Int32) dX8_kinds_73 (by decide) ?_
      refine g_iadd dX8_kinds_74 ?_
      refine g_iload 1 dX8_kinds_75 rfl ?_
      refine g_bipush (-9 : Int32) dX8_kinds_77 (by decide) ?_
      refine g_icmp_ne 86 dX8_kinds_79 rfl (fun _ => ?_) (fun _ => ?_)
      · refine g_iload 1 dX8_kinds_86 rfl ?_
        refine g_sub [5, 8, 3, 2, 1, 0] rfl ?_
        exact t_X8_kinds_J88 X q3.1 a3 v4 v5 v6 v7 v6 ((v4 + (2 : Int32)))
      · refine g_iconst (0 : Int32) dX8_kinds_82 (by decide) ?_
        refine g_goto 88 dX8_kinds_83 rfl ?_
        refine g_sub [5, 8, 3, 2, 1, 0] rfl ?_
        exact t_X8_kinds_J88 X q3.1 a3 v4 v5 v6 v7 (0 : Int32) ((v4 + (2 : Int32)))
    · refine g_iload 0 dX8_kinds_23 rfl ?_
      exact g_iret rfl dX8_kinds_25
  · refine g_iconst (-1 : Int32) dX8_kinds_8 (by decide) ?_
    exact g_iret rfl dX8_kinds_9

def X8_weight_L6 (x1 : Int32) (x2 : Int32) (x3 : Int32) (k59 : Mem → Int64 → Option (Mem × Int64)) : Nat → Mem → Int64 → Int32 → Option (Mem × Int64)
  | 0, _, _, _ => none
  | n + 1, σ, x4, x6 => (if (σ.1 810 0 0) ≤ x6 then k59 σ x4 else ((X8_has σ x2 x6).bind fun q1 => if q1.2 = 0 then ((lt_ ((x4 * (1 : Int64))) fun (v7 : Int64) => X8_weight_L6 x1 x2 x3 k59 n q1.1 v7 ((x6 + (1 : Int32))))) else ((X8_has q1.1 x1 x6).bind fun q2 => if q2.2 = 0 then (lt_ ((x4 * ((12 : Int64) - x3.toInt64))) fun (v3 : Int64) => X8_weight_L6 x1 x2 x3 k59 n q2.1 v3 ((x6 + (1 : Int32)))) else ((lt_ ((x4 * x3.toInt64)) fun (v5 : Int64) => X8_weight_L6 x1 x2 x3 k59 n q2.1 v5 ((x6 + (1 : Int32))))))))
def X8_weight (σ : Mem) (a1 : Int32) (a2 : Int32) (a3 : Int32) : Option (Mem × Int64) := (X8_weight_L6 a1 a2 a3 (fun (s10 : Mem) (y4_9 : Int64) => (some (s10, y4_9))) FU σ (1 : Int64) (0 : Int32))
set_option maxRecDepth 100000 in
set_option maxHeartbeats 4000000 in
theorem t_X8_weight_L6 (X : GX) (x1 : Int32) (x2 : Int32) (x3 : Int32) (k59 : Mem → Int64 → Option (Mem × Int64)) (hk59 : ∀ (σ : Mem) (y4 : Int64), GS (KM enJ X) X mX8_weight σ 59 [(4, .long y4)] [] (k59 σ y4)) : ∀ (n : Nat) (σ : Mem) (x4 : Int64) (x6 : Int32), GS (KM enJ X) X mX8_weight σ 6 [(0, .ref (xad X (98))), (1, .int x1), (2, .int x2), (3, .int x3), (4, .long x4), (6, .int x6)] [] (X8_weight_L6 x1 x2 x3 k59 n σ x4 x6) := by
  intro n
  induction n with
  | zero => intros; exact g_none
  | succ n ih =>
    intro σ x4 x6
    rw [X8_weight_L6]
    refine g_iload 5 dX8_weight_6 rfl ?_
    refine g_aload_n 0 dX8_weight_8 rfl ?_
    refine gf_X8_10 fl_X8_139 dX8_weight_9 ?_
    refine g_icmp_ge 59 dX8_weight_12 rfl (fun _ => ?_) (fun _ => ?_)
    · refine g_sub [4] rfl ?_
      exact hk59 σ x4
    · refine g_lload 4 dX8_weight_15 rfl ?_
      refine g_iload_n 2 dX8_weight_17 rfl ?_
      refine g_iload 5 dX8_weight_18 rfl ?_
      refine g_callSI (c_X8_has σ x2 x6) okX8_has ⟨by decide, by decide⟩ ml_X8_154 rfl rfl (Nat.le_of_ble_eq_true rfl) dX8_weight_20 (fun q1 => ?_)
      refine g_if_ne 30 dX8_weight_23 rfl (fun _ => ?_) (fun _ => ?_)
      · refine g_iload_n 1 dX8_weight_30 rfl ?_
        refine g_iload 5 dX8_weight_31 rfl ?_
        refine g_callSI (c_X8_has q1.1 x1 x6) okX8_has ⟨by decide, by decide⟩ ml_X8_154 rfl rfl (Nat.le_of_ble_eq_true rfl) dX8_weight_33 (fun q2 => ?_)
        refine g_if_eq 44 dX8_weight_36 rfl (fun _ => ?_) (fun _ => ?_)
        · refine g_ldc2 (12 : Int64) dX8_weight_44 kl_X8_262 ?_
          refine g_iload_n 3 dX8_weight_47 rfl ?_
          refine g_i2l dX8_weight_48 ?_
          refine g_lsub dX8_weight_49 ?_
          refine g_lmul dX8_weight_50 ?_
          refine g_topl (fun v3 => ?_)
          refine g_lstore [(4, .long v3), (0, .ref (xad X (98))), (1, .int x1), (2, .int x2), (3, .int x3), (6, .int x6)] dX8_weight_51 (by decide) rfl ?_
          refine g_iinc 5 [(6, .int ((x6 + (1 : Int32)))), (4, .long v3), (0, .ref (xad X (98))), (1, .int x1), (2, .int x2), (3, .int x3)] dX8_weight_53 rfl (v := x6 + (1 : Int32)) rfl (by decide) rfl ?_
          refine g_goto 6 dX8_weight_56 rfl ?_
          refine g_sub [2, 3, 4, 5, 1, 0] rfl ?_
          exact ih q2.1 v3 ((x6 + (1 : Int32)))
        · refine g_iload_n 3 dX8_weight_39 rfl ?_
          refine g_i2l dX8_weight_40 ?_
          refine g_goto 50 dX8_weight_41 rfl ?_
          refine g_lmul dX8_weight_50 ?_
          refine g_topl (fun v5 => ?_)
          refine g_lstore [(4, .long v5), (0, .ref (xad X (98))), (1, .int x1), (2, .int x2), (3, .int x3), (6, .int x6)] dX8_weight_51 (by decide) rfl ?_
          refine g_iinc 5 [(6, .int ((x6 + (1 : Int32)))), (4, .long v5), (0, .ref (xad X (98))), (1, .int x1), (2, .int x2), (3, .int x3)] dX8_weight_53 rfl (v := x6 + (1 : Int32)) rfl (by decide) rfl ?_
          refine g_goto 6 dX8_weight_56 rfl ?_
          refine g_sub [2, 3, 4, 5, 1, 0] rfl ?_
          exact ih q2.1 v5 ((x6 + (1 : Int32)))
      · refine g_lconst (1 : Int64) dX8_weight_26 (by decide) ?_
        refine g_goto 50 dX8_weight_27 rfl ?_
        refine g_lmul dX8_weight_50 ?_
        refine g_topl (fun v7 => ?_)
        refine g_lstore [(4, .long v7), (0, .ref (xad X (98))), (1, .int x1), (2, .int x2), (3, .int x3), (6, .int x6)] dX8_weight_51 (by decide) rfl ?_
        refine g_iinc 5 [(6, .int ((x6 + (1 : Int32)))), (4, .long v7), (0, .ref (xad X (98))), (1, .int x1), (2, .int x2), (3, .int x3)] dX8_weight_53 rfl (v := x6 + (1 : Int32)) rfl (by decide) rfl ?_
        refine g_goto 6 dX8_weight_56 rfl ?_
        refine g_sub [2, 3, 4, 5, 1, 0] rfl ?_
        exact ih q1.1 v7 ((x6 + (1 : Int32)))

set_option maxRecDepth 100000 in
set_option maxHeartbeats 4000000 in
theorem c_X8_weight (σ : Mem) (a1 : Int32) (a2 : Int32) (a3 : Int32) : CT yX8_weight mX8_weight enJ (fun ad => [.ref (ad (98)), .int a1, .int a2, .int a3]) σ (X8_weight σ a1 a2 a3) := by
  refine CT.of (by decide) rfl (fun _ => Nat.le_of_ble_eq_true rfl) (fun X => ?_)
  show GS (KM enJ X) X mX8_weight σ 0 [(0, .ref (xad X (98))), (1, .int a1), (2, .int a2), (3, .int a3)] [] _
  unfold X8_weight
  refine g_lconst (1 : Int64) dX8_weight_0 (by decide) ?_
  refine g_lstore [(4, .long ((1 : Int64))), (0, .ref (xad X (98))), (1, .int a1), (2, .int a2), (3, .int a3)] dX8_weight_1 (by decide) rfl ?_
  refine g_iconst (0 : Int32) dX8_weight_3 (by decide) ?_
  refine g_istore [(6, .int ((0 : Int32))), (4, .long ((1 : Int64))), (0, .ref (xad X (98))), (1, .int a1), (2, .int a2), (3, .int a3)] dX8_weight_4 (by decide) rfl ?_
  refine g_sub [2, 3, 4, 5, 1, 0] rfl ?_
  refine t_X8_weight_L6 X a1 a2 a3 _ (fun s10 y4_9 => ?_) FU σ (1 : Int64) (0 : Int32)
  refine g_lload 0 dX8_weight_59 rfl ?_
  exact g_lret rfl dX8_weight_61

def X8_whole_L5 (x1 : Int32) (k26 : Mem → Int64 → Option (Mem × Int64)) : Nat → Mem → Int64 → Int32 → Option (Mem × Int64)
  | 0, _, _, _ => none
  | n + 1, σ, x2, x4 => ((X8_sizeOf σ x1).bind fun q1 => if q1.2 ≤ x4 then k26 q1.1 x2 else (lt_ ((x2 * (12 : Int64))) fun (v2 : Int64) => X8_whole_L5 x1 k26 n q1.1 v2 ((x4 + (1 : Int32)))))
def X8_whole (σ : Mem) (a1 : Int32) : Option (Mem × Int64) := (X8_whole_L5 a1 (fun (s5 : Mem) (y2_4 : Int64) => (some (s5, y2_4))) FU σ (1 : Int64) (0 : Int32))
set_option maxRecDepth 100000 in
set_option maxHeartbeats 4000000 in
theorem t_X8_whole_L5 (X : GX) (x1 : Int32) (k26 : Mem → Int64 → Option (Mem × Int64)) (hk26 : ∀ (σ : Mem) (y2 : Int64), GS (KM enJ X) X mX8_whole σ 26 [(2, .long y2)] [] (k26 σ y2)) : ∀ (n : Nat) (σ : Mem) (x2 : Int64) (x4 : Int32), GS (KM enJ X) X mX8_whole σ 5 [(1, .int x1), (2, .long x2), (4, .int x4)] [] (X8_whole_L5 x1 k26 n σ x2 x4) := by
  intro n
  induction n with
  | zero => intros; exact g_none
  | succ n ih =>
    intro σ x2 x4
    rw [X8_whole_L5]
    refine g_iload 2 dX8_whole_5 rfl ?_
    refine g_iload_n 0 dX8_whole_7 rfl ?_
    refine g_callSI (c_X8_sizeOf σ x1) okX8_sizeOf ⟨by decide, by decide⟩ ml_X8_256 rfl rfl (Nat.le_of_ble_eq_true rfl) dX8_whole_8 (fun q1 => ?_)
    refine g_icmp_ge 26 dX8_whole_11 rfl (fun _ => ?_) (fun _ => ?_)
    · refine g_sub [1] rfl ?_
      exact hk26 q1.1 x2
    · refine g_lload_n 1 dX8_whole_14 rfl ?_
      refine g_ldc2 (12 : Int64) dX8_whole_15 kl_X8_262 ?_
      refine g_lmul dX8_whole_18 ?_
      refine g_topl (fun v2 => ?_)
      refine g_lstore_n [(2, .long v2), (1, .int x1), (4, .int x4)] dX8_whole_19 (by decide) rfl ?_
      refine g_iinc 2 [(4, .int ((x4 + (1 : Int32)))), (2, .long v2), (1, .int x1)] dX8_whole_20 rfl (v := x4 + (1 : Int32)) rfl (by decide) rfl ?_
      refine g_goto 5 dX8_whole_23 rfl ?_
      refine g_sub [2, 1, 0] rfl ?_
      exact ih q1.1 v2 ((x4 + (1 : Int32)))

set_option maxRecDepth 100000 in
set_option maxHeartbeats 4000000 in
theorem c_X8_whole (σ : Mem) (a1 : Int32) : CT yX8_whole mX8_whole enJ (fun ad => [.ref (ad (98)), .int a1]) σ (X8_whole σ a1) := by
  refine CT.of (by decide) rfl (fun _ => Nat.le_of_ble_eq_true rfl) (fun X => ?_)
  show GS (KM enJ X) X mX8_whole σ 0 [(0, .ref (xad X (98))), (1, .int a1)] [] _
  unfold X8_whole
  refine g_lconst (1 : Int64) dX8_whole_0 (by decide) ?_
  refine g_lstore_n [(2, .long ((1 : Int64))), (0, .ref (xad X (98))), (1, .int a1)] dX8_whole_1 (by decide) rfl ?_
  refine g_iconst (0 : Int32) dX8_whole_2 (by decide) ?_
  refine g_istore [(4, .int ((0 : Int32))), (2, .long ((1 : Int64))), (0, .ref (xad X (98))), (1, .int a1)] dX8_whole_3 (by decide) rfl ?_
  refine g_sub [3, 1, 0] rfl ?_
  refine t_X8_whole_L5 X a1 _ (fun s5 y2_4 => ?_) FU σ (1 : Int64) (0 : Int32)
  refine g_lload_n 0 dX8_whole_26 rfl ?_
  exact g_lret rfl dX8_whole_27

