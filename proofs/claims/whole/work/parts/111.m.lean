def X7_silence_L87 (x5 : Int32) (x6 : Int64) (k150 : Mem → Int32 → Int32 → Option (Mem × Int32)) : Nat → Mem → Int32 → Int32 → Int32 → Option (Mem × Int32)
  | 0, _, _, _, _ => none
  | n + 1, σ, x8, x9, x10 => (if (256 : Int32) ≤ x10 then k150 σ x8 x9 else (if (x10 &&& x5) = x10 then ((J6_bitCount_0f7a4 σ x10).bind fun q13 => if x8 ≤ q13.2 then (X7_silence_L87 x5 x6 k150 n q13.1 x8 x9 ((x10 + (1 : Int32)))) else ((X5_outBy q13.1 ((x5 - x10))).bind fun q15 => if (lg_cmp q15.2 x6) = 0 then ((J6_bitCount_0f7a4 q15.1 x10).bind fun q17 => X7_silence_L87 x5 x6 k150 n q17.1 q17.2 x10 ((x10 + (1 : Int32)))) else (X7_silence_L87 x5 x6 k150 n q15.1 x8 x9 ((x10 + (1 : Int32)))))) else (X7_silence_L87 x5 x6 k150 n σ x8 x9 ((x10 + (1 : Int32))))))
def X7_silence (σ : Mem) (a1 : Int32) (a2 : Int32) : Option (Mem × Int32) := ((X7_rowOf σ a1).bind fun q1 => spl q1.2 11 ((X7_rowOf q1.1 a2).bind fun q3 => spl q3.2 11 ((some (q3.1, (-1 : Int32)))) (fun r4 => ((some (q3.1, (-1 : Int32)))))) (fun r2 => ((X7_rowOf q1.1 a2).bind fun q5 => spl q5.2 11 (((some (q5.1, (-1 : Int32))))) (fun r6 => ((((X7_refuses q5.1 r2 (8 : Int32)).bind fun q7 => if q7.2 = 0 then ((X7_refuses q7.1 r6 (16 : Int32)).bind fun q8 => if q8.2 = 0 then ((X2_onSet q8.1 0).bind fun q9 => (X4_pack q9.1 r6).bind fun q10 => (X5_lie q10.1 r2 0).bind fun q11 => X7_silence_L87 q9.2 q10.2 (fun (s20 : Mem) (y8_19 : Int32) (y9_19 : Int32) => (if y9_19 = (-9 : Int32) then (some (s20, (-9 : Int32))) else (some ((uI s20 713 0 0 y9_19), y8_19)))) FU q11.1 (9 : Int32) (-9 : Int32) (0 : Int32)) else (some (q8.1, (-3 : Int32)))) else (some (q7.1, (-3 : Int32))))))))))
set_option maxRecDepth 100000 in
set_option maxHeartbeats 4000000 in
theorem t_X7_silence_L87 (X : GX) (x5 : Int32) (x6 : Int64) (k150 : Mem → Int32 → Int32 → Option (Mem × Int32)) (hk150 : ∀ (σ : Mem) (y8 : Int32) (y9 : Int32), GS (KM enI X) X mX7_silence σ 150 [(0, .ref (xad X (0))), (8, .int y8), (9, .int y9)] [] (k150 σ y8 y9)) : ∀ (n : Nat) (σ : Mem) (x8 : Int32) (x9 : Int32) (x10 : Int32), GS (KM enI X) X mX7_silence σ 87 [(0, .ref (xad X (0))), (5, .int x5), (6, .long x6), (8, .int x8), (9, .int x9), (10, .int x10)] [] (X7_silence_L87 x5 x6 k150 n σ x8 x9 x10) := by
  intro n
  induction n with
  | zero => intros; exact g_none
  | succ n ih =>
    intro σ x8 x9 x10
    rw [X7_silence_L87]
    refine g_iload 5 dX7_silence_87 rfl ?_
    refine g_sipush (256 : Int32) dX7_silence_89 (by decide) ?_
    refine g_icmp_ge 150 dX7_silence_92 rfl (fun _ => ?_) (fun _ => ?_)
    · refine g_sub [0, 3, 4] rfl ?_
      exact hk150 σ x8 x9
    · refine g_iload 5 dX7_silence_95 rfl ?_
      refine g_iload 1 dX7_silence_97 rfl ?_
      refine g_iand dX7_silence_99 ?_
      refine g_iload 5 dX7_silence_100 rfl ?_
      refine g_icmp_ne 144 dX7_silence_102 rfl (fun _ => ?_) (fun _ => ?_)
      · refine g_iinc 5 [(10, .int ((x10 + (1 : Int32)))), (0, .ref (xad X (0))), (5, .int x5), (6, .long x6), (8, .int x8), (9, .int x9)] dX7_silence_144 rfl (v := x10 + (1 : Int32)) rfl (by decide) rfl ?_
        refine g_goto 87 dX7_silence_147 rfl ?_
        refine g_sub [1, 2, 3, 4, 5, 0] rfl ?_
        exact ih σ x8 x9 ((x10 + (1 : Int32)))
      · refine g_iload 5 dX7_silence_105 rfl ?_
        refine g_callSI (c_J6_bitCount_0f7a4 σ x10) okJ6_bitCount_0f7a4 ⟨by decide, by decide⟩ ml_X7_276 rfl rfl (Nat.le_of_ble_eq_true rfl) dX7_silence_107 (fun q13 => ?_)
        refine g_iload 3 dX7_silence_110 rfl ?_
        refine g_icmp_ge 144 dX7_silence_112 rfl (fun _ => ?_) (fun _ => ?_)
        · refine g_iinc 5 [(10, .int ((x10 + (1 : Int32)))), (0, .ref (xad X (0))), (5, .int x5), (6, .long x6), (8, .int x8), (9, .int x9)] dX7_silence_144 rfl (v := x10 + (1 : Int32)) rfl (by decide) rfl ?_
          refine g_goto 87 dX7_silence_147 rfl ?_
          refine g_sub [1, 2, 3, 4, 5, 0] rfl ?_
          exact ih q13.1 x8 x9 ((x10 + (1 : Int32)))
        · refine g_aload_n 0 dX7_silence_115 rfl ?_
          refine gf_X7_8 fl_X7_60 dX7_silence_116 ?_
          refine g_iload 1 dX7_silence_119 rfl ?_
          refine g_iload 5 dX7_silence_121 rfl ?_
          refine g_isub dX7_silence_123 ?_
          refine g_callVJ (c_X5_outBy q13.1 ((x5 - x10))) okX5_outBy ⟨by decide, by decide⟩ ml_X7_288 sh_93 no_93 rfl rfl [.int ((x5 - x10))] rfl rfl rfl (Nat.le_of_ble_eq_true rfl) dX7_silence_124 (fun q15 => ?_)
          refine g_lload 2 dX7_silence_127 rfl ?_
          refine g_lcmp dX7_silence_129 ?_
          refine g_if_ne 144 dX7_silence_130 rfl (fun _ => ?_) (fun _ => ?_)
          · refine g_iinc 5 [(10, .int ((x10 + (1 : Int32)))), (0, .ref (xad X (0))), (5, .int x5), (6, .long x6), (8, .int x8), (9, .int x9)] dX7_silence_144 rfl (v := x10 + (1 : Int32)) rfl (by decide) rfl ?_
            refine g_goto 87 dX7_silence_147 rfl ?_
            refine g_sub [1, 2, 3, 4, 5, 0] rfl ?_
            exact ih q15.1 x8 x9 ((x10 + (1 : Int32)))
          · refine g_iload 5 dX7_silence_133 rfl ?_
            refine g_callSI (c_J6_bitCount_0f7a4 q15.1 x10) okJ6_bitCount_0f7a4 ⟨by decide, by decide⟩ ml_X7_276 rfl rfl (Nat.le_of_ble_eq_true rfl) dX7_silence_135 (fun q17 => ?_)
            refine g_istore [(8, .int (q17.2)), (0, .ref (xad X (0))), (5, .int x5), (6, .long x6), (9, .int x9), (10, .int x10)] dX7_silence_138 (by decide) rfl ?_
            refine g_iload 5 dX7_silence_140 rfl ?_
            refine g_istore [(9, .int x10), (8, .int (q17.2)), (0, .ref (xad X (0))), (5, .int x5), (6, .long x6), (10, .int x10)] dX7_silence_142 (by decide) rfl ?_
            refine g_iinc 5 [(10, .int ((x10 + (1 : Int32)))), (9, .int x10), (8, .int (q17.2)), (0, .ref (xad X (0))), (5, .int x5), (6, .long x6)] dX7_silence_144 rfl (v := x10 + (1 : Int32)) rfl (by decide) rfl ?_
            refine g_goto 87 dX7_silence_147 rfl ?_
            refine g_sub [3, 4, 5, 2, 1, 0] rfl ?_
            exact ih q17.1 q17.2 x10 ((x10 + (1 : Int32)))

set_option maxRecDepth 100000 in
set_option maxHeartbeats 4000000 in
theorem c_X7_silence (σ : Mem) (a1 : Int32) (a2 : Int32) : CT yX7_silence mX7_silence enI (fun ad => [.ref (ad (0)), .int a1, .int a2]) σ (X7_silence σ a1 a2) := by
  refine CT.of (by decide) rfl (fun _ => Nat.le_of_ble_eq_true rfl) (fun X => ?_)
  show GS (KM enI X) X mX7_silence σ 0 [(0, .ref (xad X (0))), (1, .int a1), (2, .int a2)] [] _
  unfold X7_silence
  refine g_aload_n 0 dX7_silence_0 rfl ?_
  refine g_iload_n 1 dX7_silence_1 rfl ?_
  refine g_callVG (c_X7_rowOf σ a1) okX7_rowOf ⟨by decide, by decide⟩ ml_X7_93 sh_0 no_0 rfl rfl [.int a1] rfl rfl rfl (Nat.le_of_ble_eq_true rfl) dX7_silence_2 (fun q1 => ?_)
  refine g_spl ?_ (fun r2 hr2 => ?_)
  · refine g_astore_nN [(3, .null), (0, .ref (xad X (0))), (1, .int a1), (2, .int a2)] dX7_silence_5 (by decide) rfl ?_
    refine g_aload_n 1 dX7_silence_6 rfl ?_
    refine g_iload_n 3 dX7_silence_7 rfl ?_
    refine g_callVG (c_X7_rowOf q1.1 a2) okX7_rowOf ⟨by decide, by decide⟩ ml_X7_93 sh_0 no_0 rfl rfl [.int a2] rfl rfl rfl (Nat.le_of_ble_eq_true rfl) dX7_silence_8 (fun q3 => ?_)
    refine g_spl ?_ (fun r4 hr4 => ?_)
    · refine g_astoreN [(4, .null), (3, .null), (0, .ref (xad X (0))), (1, .int a1), (2, .int a2)] dX7_silence_11 (by decide) rfl ?_
      refine g_aload_nN 1 dX7_silence_13 rfl ?_
      refine g_ifnullN 22 dX7_silence_14 rfl ?_
      refine g_iconst (-1 : Int32) dX7_silence_22 (by decide) ?_
      exact g_iret rfl dX7_silence_23
    · refine g_astore [(4, .ref (xad X (4 + 2 * r4))), (3, .null), (0, .ref (xad X (0))), (1, .int a1), (2, .int a2)] dX7_silence_11 (by decide) rfl ?_
      refine g_aload_nN 1 dX7_silence_13 rfl ?_
      refine g_ifnullN 22 dX7_silence_14 rfl ?_
      refine g_iconst (-1 : Int32) dX7_silence_22 (by decide) ?_
      exact g_iret rfl dX7_silence_23
  · refine g_astore_n [(3, .ref (xad X (4 + 2 * r2))), (0, .ref (xad X (0))), (1, .int a1), (2, .int a2)] dX7_silence_5 (by decide) rfl ?_
    refine g_aload_n 1 dX7_silence_6 rfl ?_
    refine g_iload_n 3 dX7_silence_7 rfl ?_
    refine g_callVG (c_X7_rowOf q1.1 a2) okX7_rowOf ⟨by decide, by decide⟩ ml_X7_93 sh_0 no_0 rfl rfl [.int a2] rfl rfl rfl (Nat.le_of_ble_eq_true rfl) dX7_silence_8 (fun q5 => ?_)
    refine g_spl ?_ (fun r6 hr6 => ?_)
    · refine g_astoreN [(4, .null), (3, .ref (xad X (4 + 2 * r2))), (0, .ref (xad X (0))), (1, .int a1), (2, .int a2)] dX7_silence_11 (by decide) rfl ?_
      refine g_aload_n 1 dX7_silence_13 rfl ?_
      refine g_ifnull dX7_silence_14 ?_
      refine g_aloadN 0 dX7_silence_17 rfl ?_
      refine g_ifnonnullN dX7_silence_19 ?_
      refine g_iconst (-1 : Int32) dX7_silence_22 (by decide) ?_
      exact g_iret rfl dX7_silence_23
    · refine g_astore [(4, .ref (xad X (4 + 2 * r6))), (3, .ref (xad X (4 + 2 * r2))), (0, .ref (xad X (0))), (1, .int a1), (2, .int a2)] dX7_silence_11 (by decide) rfl ?_
      refine g_aload_n 1 dX7_silence_13 rfl ?_
      refine g_ifnull dX7_silence_14 ?_
      refine g_aload 0 dX7_silence_17 rfl ?_
      refine g_ifnonnull 24 dX7_silence_19 rfl ?_
      refine g_aload_n 2 dX7_silence_24 rfl ?_
      refine g_aload_n 1 dX7_silence_25 rfl ?_
      refine g_bipush (8 : Int32) dX7_silence_26 (by decide) ?_
      refine g_callVI (c_X7_refuses q5.1 r2 (8 : Int32)) okX7_refuses ⟨by decide, by decide⟩ ml_X7_202 sh_0 no_0 rfl rfl [.ref (xad X (4 + 2 * r2)), .int ((8 : Int32))] rfl rfl rfl (Nat.le_of_ble_eq_true rfl) dX7_silence_28 (fun q7 => ?_)
      refine g_if_ne 45 dX7_silence_31 rfl (fun _ => ?_) (fun _ => ?_)
      · refine g_bipush (-3 : Int32) dX7_silence_45 (by decide) ?_
        exact g_iret rfl dX7_silence_47
      · refine g_aload_n 2 dX7_silence_34 rfl ?_
        refine g_aload 0 dX7_silence_35 rfl ?_
        refine g_bipush (16 : Int32) dX7_silence_37 (by decide) ?_
        refine g_callVI (c_X7_refuses q7.1 r6 (16 : Int32)) okX7_refuses ⟨by decide, by decide⟩ ml_X7_202 sh_0 no_0 rfl rfl [.ref (xad X (4 + 2 * r6)), .int ((16 : Int32))] rfl rfl rfl (Nat.le_of_ble_eq_true rfl) dX7_silence_39 (fun q8 => ?_)
        refine g_if_eq 48 dX7_silence_42 rfl (fun _ => ?_) (fun _ => ?_)
        · refine g_aload_n 2 dX7_silence_48 rfl ?_
          refine gf_X7_3 fl_X7_28 dX7_silence_49 ?_
          refine g_callVI (c_X2_onSet q8.1 0) okX2_onSet ⟨by decide, by decide⟩ ml_X7_176 (sh_X2 (by decide)) (no_X2 (by decide)) rfl rfl [] rfl rfl rfl (Nat.le_of_ble_eq_true rfl) dX7_silence_52 (fun q9 => ?_)
          refine g_istore [(5, .int (q9.2)), (4, .ref (xad X (4 + 2 * r6))), (3, .ref (xad X (4 + 2 * r2))), (0, .ref (xad X (0))), (1, .int a1), (2, .int a2)] dX7_silence_55 (by decide) rfl ?_
          refine g_aload 1 dX7_silence_57 rfl ?_
          refine g_callVJ (c_X4_pack q9.1 r6) okX4_pack ⟨by decide, by decide⟩ ml_X7_223 (sh_X4 hr6) (no_X4 hr6) rfl rfl [] rfl rfl rfl (Nat.le_of_ble_eq_true rfl) dX7_silence_59 (fun q10 => ?_)
          refine g_lstore [(6, .long (q10.2)), (5, .int (q9.2)), (4, .ref (xad X (4 + 2 * r6))), (3, .ref (xad X (4 + 2 * r2))), (0, .ref (xad X (0))), (1, .int a1), (2, .int a2)] dX7_silence_62 (by decide) rfl ?_
          refine g_bipush (9 : Int32) dX7_silence_64 (by decide) ?_
          refine g_istore [(8, .int ((9 : Int32))), (6, .long (q10.2)), (5, .int (q9.2)), (4, .ref (xad X (4 + 2 * r6))), (3, .ref (xad X (4 + 2 * r2))), (0, .ref (xad X (0))), (1, .int a1), (2, .int a2)] dX7_silence_66 (by decide) rfl ?_
          refine g_bipush (-9 : Int32) dX7_silence_68 (by decide) ?_
          refine g_istore [(9, .int ((-9 : Int32))), (8, .int ((9 : Int32))), (6, .long (q10.2)), (5, .int (q9.2)), (4, .ref (xad X (4 + 2 * r6))), (3, .ref (xad X (4 + 2 * r2))), (0, .ref (xad X (0))), (1, .int a1), (2, .int a2)] dX7_silence_70 (by decide) rfl ?_
          refine g_aload_n 6 dX7_silence_72 rfl ?_
          refine gf_X7_8 fl_X7_60 dX7_silence_73 ?_
          refine g_aload_n 5 dX7_silence_76 rfl ?_
          refine g_aload_n 6 dX7_silence_77 rfl ?_
          refine gf_X7_3 fl_X7_28 dX7_silence_78 ?_
          refine g_callVV (c_X5_lie q10.1 r2 0) okX5_lie ⟨by decide, by decide⟩ ml_X7_284 sh_93 no_93 rfl rfl [.ref (xad X (4 + 2 * r2)), .ref (xad X (69 + 4 * 0))] rfl rfl rfl (Nat.le_of_ble_eq_true rfl) dX7_silence_81 (fun q11 => ?_)
          refine g_iconst (0 : Int32) dX7_silence_84 (by decide) ?_
          refine g_istore [(10, .int ((0 : Int32))), (9, .int ((-9 : Int32))), (8, .int ((9 : Int32))), (6, .long (q10.2)), (5, .int (q9.2)), (4, .ref (xad X (4 + 2 * r6))), (3, .ref (xad X (4 + 2 * r2))), (0, .ref (xad X (0))), (1, .int a1), (2, .int a2)] dX7_silence_85 (by decide) rfl ?_
          refine g_sub [7, 4, 3, 2, 1, 0] rfl ?_
          refine t_X7_silence_L87 X q9.2 q10.2 _ (fun s20 y8_19 y9_19 => ?_) FU q11.1 (9 : Int32) (-9 : Int32) (0 : Int32)
          refine g_iload 2 dX7_silence_150 rfl ?_
          refine g_bipush (-9 : Int32) dX7_silence_152 (by decide) ?_
          refine g_icmp_ne 160 dX7_silence_154 rfl (fun _ => ?_) (fun _ => ?_)
          · refine g_aload_n 0 dX7_silence_160 rfl ?_
            refine g_iload 2 dX7_silence_161 rfl ?_
            refine pf_X7_13 fl_X7_83 dX7_silence_163 ?_
            refine g_iload 1 dX7_silence_166 rfl ?_
            exact g_iret rfl dX7_silence_168
          · refine g_bipush (-9 : Int32) dX7_silence_157 (by decide) ?_
            exact g_iret rfl dX7_silence_159
        · refine g_bipush (-3 : Int32) dX7_silence_45 (by decide) ?_
          exact g_iret rfl dX7_silence_47

def X7_which_L77 (x5 : Int64) (k129 : Mem → Int32 → Int32 → Option (Mem × Int32)) : Nat → Mem → Int32 → Int32 → Int32 → Option (Mem × Int32)
  | 0, _, _, _, _ => none
  | n + 1, σ, x7, x8, x9 => (if ((1 : Int32) <<< ((σ.1 203 0 0) &&& 31)) ≤ x9 then k129 σ x7 x8 else ((X5_outBy σ x9).bind fun q11 => if (lg_cmp q11.2 x5) = 0 then (if x7 = 0 then ((X7_which_L77 x5 k129 n q11.1 ((x7 + (1 : Int32))) x9 ((x9 + (1 : Int32))))) else (X7_which_L77 x5 k129 n q11.1 ((x7 + (1 : Int32))) x8 ((x9 + (1 : Int32))))) else (X7_which_L77 x5 k129 n q11.1 x7 x8 ((x9 + (1 : Int32))))))
def X7_which (σ : Mem) (a1 : Int32) (a2 : Int32) : Option (Mem × Int32) := ((X7_rowOf σ a1).bind fun q1 => spl q1.2 11 ((X7_rowOf q1.1 a2).bind fun q3 => spl q3.2 11 ((some (q3.1, (-1 : Int32)))) (fun r4 => ((some (q3.1, (-1 : Int32)))))) (fun r2 => ((X7_rowOf q1.1 a2).bind fun q5 => spl q5.2 11 (((some (q5.1, (-1 : Int32))))) (fun r6 => ((((X7_refuses q5.1 r2 (8 : Int32)).bind fun q7 => if q7.2 = 0 then ((X7_refuses q7.1 r6 (16 : Int32)).bind fun q8 => if q8.2 = 0 then ((X4_pack q8.1 r6).bind fun q9 => (X5_lie q9.1 r2 0).bind fun q10 => X7_which_L77 q9.2 (fun (s18 : Mem) (y7_17 : Int32) (y8_17 : Int32) => (some ((uI s18 713 0 0 y8_17), y7_17))) FU q10.1 (0 : Int32) (-9 : Int32) (0 : Int32)) else (some (q8.1, (-3 : Int32)))) else (some (q7.1, (-3 : Int32))))))))))
set_option maxRecDepth 100000 in
set_option maxHeartbeats 4000000 in
theorem t_X7_which_L77 (X : GX) (x5 : Int64) (k129 : Mem → Int32 → Int32 → Option (Mem × Int32)) (hk129 : ∀ (σ : Mem) (y7 : Int32) (y8 : Int32), GS (KM enI X) X mX7_which σ 129 [(0, .ref (xad X (0))), (7, .int y7), (8, .int y8)] [] (k129 σ y7 y8)) : ∀ (n : Nat) (σ : Mem) (x7 : Int32) (x8 : Int32) (x9 : Int32), GS (KM enI X) X mX7_which σ 77 [(0, .ref (xad X (0))), (5, .long x5), (7, .int x7), (8, .int x8), (9, .int x9)] [] (X7_which_L77 x5 k129 n σ x7 x8 x9) := by
  intro n
  induction n with
  | zero => intros; exact g_none
  | succ n ih =>
    intro σ x7 x8 x9
    rw [X7_which_L77]
    refine g_iload 4 dX7_which_77 rfl ?_
    refine g_iconst (1 : Int32) dX7_which_79 (by decide) ?_
    refine g_aload_n 0 dX7_which_80 rfl ?_
    refine gf_X7_3 fl_X7_28 dX7_which_81 ?_
    refine gf_X2_3 (by decide) fl_X7_153 dX7_which_84 ?_
    refine g_ishl dX7_which_87 ?_
    refine g_icmp_ge 129 dX7_which_88 rfl (fun _ => ?_) (fun _ => ?_)
    · refine g_sub [0, 2, 3] rfl ?_
      exact hk129 σ x7 x8
    · refine g_aload_n 0 dX7_which_91 rfl ?_
      refine gf_X7_8 fl_X7_60 dX7_which_92 ?_
      refine g_iload 4 dX7_which_95 rfl ?_
      refine g_callVJ (c_X5_outBy σ x9) okX5_outBy ⟨by decide, by decide⟩ ml_X7_288 sh_93 no_93 rfl rfl [.int x9] rfl rfl rfl (Nat.le_of_ble_eq_true rfl) dX7_which_97 (fun q11 => ?_)
      refine g_lload 1 dX7_which_100 rfl ?_
      refine g_lcmp dX7_which_102 ?_
      refine g_if_ne 123 dX7_which_103 rfl (fun _ => ?_) (fun _ => ?_)
      · refine g_iinc 4 [(9, .int ((x9 + (1 : Int32)))), (0, .ref (xad X (0))), (5, .long x5), (7, .int x7), (8, .int x8)] dX7_which_123 rfl (v := x9 + (1 : Int32)) rfl (by decide) rfl ?_
        refine g_goto 77 dX7_which_126 rfl ?_
        refine g_sub [1, 2, 3, 4, 0] rfl ?_
        exact ih q11.1 x7 x8 ((x9 + (1 : Int32)))
      · refine g_iload 2 dX7_which_106 rfl ?_
        refine g_if_ne 116 dX7_which_108 rfl (fun _ => ?_) (fun _ => ?_)
        · refine g_iload 3 dX7_which_116 rfl ?_
          refine g_istore [(8, .int x8), (0, .ref (xad X (0))), (5, .long x5), (7, .int x7), (9, .int x9)] dX7_which_118 (by decide) rfl ?_
          refine g_iinc 3 [(7, .int ((x7 + (1 : Int32)))), (8, .int x8), (0, .ref (xad X (0))), (5, .long x5), (9, .int x9)] dX7_which_120 rfl (v := x7 + (1 : Int32)) rfl (by decide) rfl ?_
          refine g_iinc 4 [(9, .int ((x9 + (1 : Int32)))), (7, .int ((x7 + (1 : Int32)))), (8, .int x8), (0, .ref (xad X (0))), (5, .long x5)] dX7_which_123 rfl (v := x9 + (1 : Int32)) rfl (by decide) rfl ?_
          refine g_goto 77 dX7_which_126 rfl ?_
          refine g_sub [3, 4, 1, 2, 0] rfl ?_
          exact ih q11.1 ((x7 + (1 : Int32))) x8 ((x9 + (1 : Int32)))
        · refine g_iload 4 dX7_which_111 rfl ?_
          refine g_goto 118 dX7_which_113 rfl ?_
          refine g_istore [(8, .int x9), (0, .ref (xad X (0))), (5, .long x5), (7, .int x7), (9, .int x9)] dX7_which_118 (by decide) rfl ?_
          refine g_iinc 3 [(7, .int ((x7 + (1 : Int32)))), (8, .int x9), (0, .ref (xad X (0))), (5, .long x5), (9, .int x9)] dX7_which_120 rfl (v := x7 + (1 : Int32)) rfl (by decide) rfl ?_
          refine g_iinc 4 [(9, .int ((x9 + (1 : Int32)))), (7, .int ((x7 + (1 : Int32)))), (8, .int x9), (0, .ref (xad X (0))), (5, .long x5)] dX7_which_123 rfl (v := x9 + (1 : Int32)) rfl (by decide) rfl ?_
          refine g_goto 77 dX7_which_126 rfl ?_
          refine g_sub [3, 4, 1, 2, 0] rfl ?_
          exact ih q11.1 ((x7 + (1 : Int32))) x9 ((x9 + (1 : Int32)))

set_option maxRecDepth 100000 in
set_option maxHeartbeats 4000000 in
theorem c_X7_which (σ : Mem) (a1 : Int32) (a2 : Int32) : CT yX7_which mX7_which enI (fun ad => [.ref (ad (0)), .int a1, .int a2]) σ (X7_which σ a1 a2) := by
  refine CT.of (by decide) rfl (fun _ => Nat.le_of_ble_eq_true rfl) (fun X => ?_)
  show GS (KM enI X) X mX7_which σ 0 [(0, .ref (xad X (0))), (1, .int a1), (2, .int a2)] [] _
  unfold X7_which
  refine g_aload_n 0 dX7_which_0 rfl ?_
  refine g_iload_n 1 dX7_which_1 rfl ?_
  refine g_callVG (c_X7_rowOf σ a1) okX7_rowOf ⟨by decide, by decide⟩ ml_X7_93 sh_0 no_0 rfl rfl [.int a1] rfl rfl rfl (Nat.le_of_ble_eq_true rfl) dX7_which_2 (fun q1 => ?_)
  refine g_spl ?_ (fun r2 hr2 => ?_)
  · refine g_astore_nN [(3, .null), (0, .ref (xad X (0))), (1, .int a1), (2, .int a2)] dX7_which_5 (by decide) rfl ?_
    refine g_aload_n 1 dX7_which_6 rfl ?_
    refine g_iload_n 3 dX7_which_7 rfl ?_
    refine g_callVG (c_X7_rowOf q1.1 a2) okX7_rowOf ⟨by decide, by decide⟩ ml_X7_93 sh_0 no_0 rfl rfl [.int a2] rfl rfl rfl (Nat.le_of_ble_eq_true rfl) dX7_which_8 (fun q3 => ?_)
    refine g_spl ?_ (fun r4 hr4 => ?_)
    · refine g_astoreN [(4, .null), (3, .null), (0, .ref (xad X (0))), (1, .int a1), (2, .int a2)] dX7_which_11 (by decide) rfl ?_
      refine g_aload_nN 1 dX7_which_13 rfl ?_
      refine g_ifnullN 22 dX7_which_14 rfl ?_
      refine g_iconst (-1 : Int32) dX7_which_22 (by decide) ?_
      exact g_iret rfl dX7_which_23
    · refine g_astore [(4, .ref (xad X (4 + 2 * r4))), (3, .null), (0, .ref (xad X (0))), (1, .int a1), (2, .int a2)] dX7_which_11 (by decide) rfl ?_
      refine g_aload_nN 1 dX7_which_13 rfl ?_
      refine g_ifnullN 22 dX7_which_14 rfl ?_
      refine g_iconst (-1 : Int32) dX7_which_22 (by decide) ?_
      exact g_iret rfl dX7_which_23
  · refine g_astore_n [(3, .ref (xad X (4 + 2 * r2))), (0, .ref (xad X (0))), (1, .int a1), (2, .int a2)] dX7_which_5 (by decide) rfl ?_
    refine g_aload_n 1 dX7_which_6 rfl ?_
    refine g_iload_n 3 dX7_which_7 rfl ?_
    refine g_callVG (c_X7_rowOf q1.1 a2) okX7_rowOf ⟨by decide, by decide⟩ ml_X7_93 sh_0 no_0 rfl rfl [.int a2] rfl rfl rfl (Nat.le_of_ble_eq_true rfl) dX7_which_8 (fun q5 => ?_)
    refine g_spl ?_ (fun r6 hr6 => ?_)
    · refine g_astoreN [(4, .null), (3, .ref (xad X (4 + 2 * r2))), (0, .ref (xad X (0))), (1, .int a1), (2, .int a2)] dX7_which_11 (by decide) rfl ?_
      refine g_aload_n 1 dX7_which_13 rfl ?_
      refine g_ifnull dX7_which_14 ?_
      refine g_aloadN 0 dX7_which_17 rfl ?_
      refine g_ifnonnullN dX7_which_19 ?_
      refine g_iconst (-1 : Int32) dX7_which_22 (by decide) ?_
      exact g_iret rfl dX7_which_23
    · refine g_astore [(4, .ref (xad X (4 + 2 * r6))), (3, .ref (xad X (4 + 2 * r2))), (0, .ref (xad X (0))), (1, .int a1), (2, .int a2)] dX7_which_11 (by decide) rfl ?_
      refine g_aload_n 1 dX7_which_13 rfl ?_
      refine g_ifnull dX7_which_14 ?_
      refine g_aload 0 dX7_which_17 rfl ?_
      refine g_ifnonnull 24 dX7_which_19 rfl ?_
      refine g_aload_n 2 dX7_which_24 rfl ?_
      refine g_aload_n 1 dX7_which_25 rfl ?_
      refine g_bipush (8 : Int32) dX7_which_26 (by decide) ?_
      refine g_callVI (c_X7_refuses q5.1 r2 (8 : Int32)) okX7_refuses ⟨by decide, by decide⟩ ml_X7_202 sh_0 no_0 rfl rfl [.ref (xad X (4 + 2 * r2)), .int ((8 : Int32))] rfl rfl rfl (Nat.le_of_ble_eq_true rfl) dX7_which_28 (fun q7 => ?_)
      refine g_if_ne 45 dX7_which_31 rfl (fun _ => ?_) (fun _ => ?_)
      · refine g_bipush (-3 : Int32) dX7_which_45 (by decide) ?_
        exact g_iret rfl dX7_which_47
      · refine g_aload_n 2 dX7_which_34 rfl ?_
        refine g_aload 0 dX7_which_35 rfl ?_
        refine g_bipush (16 : Int32) dX7_which_37 (by decide) ?_
        refine g_callVI (c_X7_refuses q7.1 r6 (16 : Int32)) okX7_refuses ⟨by decide, by decide⟩ ml_X7_202 sh_0 no_0 rfl rfl [.ref (xad X (4 + 2 * r6)), .int ((16 : Int32))] rfl rfl rfl (Nat.le_of_ble_eq_true rfl) dX7_which_39 (fun q8 => ?_)
        refine g_if_eq 48 dX7_which_42 rfl (fun _ => ?_) (fun _ => ?_)
        · refine g_aload 0 dX7_which_48 rfl ?_
          refine g_callVJ (c_X4_pack q8.1 r6) okX4_pack ⟨by decide, by decide⟩ ml_X7_223 (sh_X4 hr6) (no_X4 hr6) rfl rfl [] rfl rfl rfl (Nat.le_of_ble_eq_true rfl) dX7_which_50 (fun q9 => ?_)
          refine g_lstore [(5, .long (q9.2)), (4, .ref (xad X (4 + 2 * r6))), (3, .ref (xad X (4 + 2 * r2))), (0, .ref (xad X (0))), (1, .int a1), (2, .int a2)] dX7_which_53 (by decide) rfl ?_
          refine g_iconst (0 : Int32) dX7_which_55 (by decide) ?_
          refine g_istore [(7, .int ((0 : Int32))), (5, .long (q9.2)), (4, .ref (xad X (4 + 2 * r6))), (3, .ref (xad X (4 + 2 * r2))), (0, .ref (xad X (0))), (1, .int a1), (2, .int a2)] dX7_which_56 (by decide) rfl ?_
          refine g_bipush (-9 : Int32) dX7_which_58 (by decide) ?_
          refine g_istore [(8, .int ((-9 : Int32))), (7, .int ((0 : Int32))), (5, .long (q9.2)), (4, .ref (xad X (4 + 2 * r6))), (3, .ref (xad X (4 + 2 * r2))), (0, .ref (xad X (0))), (1, .int a1), (2, .int a2)] dX7_which_60 (by decide) rfl ?_
          refine g_aload_n 5 dX7_which_62 rfl ?_
          refine gf_X7_8 fl_X7_60 dX7_which_63 ?_
          refine g_aload_n 4 dX7_which_66 rfl ?_
          refine g_aload_n 5 dX7_which_67 rfl ?_
          refine gf_X7_3 fl_X7_28 dX7_which_68 ?_
          refine g_callVV (c_X5_lie q9.1 r2 0) okX5_lie ⟨by decide, by decide⟩ ml_X7_284 sh_93 no_93 rfl rfl [.ref (xad X (4 + 2 * r2)), .ref (xad X (69 + 4 * 0))] rfl rfl rfl (Nat.le_of_ble_eq_true rfl) dX7_which_71 (fun q10 => ?_)
          refine g_iconst (0 : Int32) dX7_which_74 (by decide) ?_
          refine g_istore [(9, .int ((0 : Int32))), (8, .int ((-9 : Int32))), (7, .int ((0 : Int32))), (5, .long (q9.2)), (4, .ref (xad X (4 + 2 * r6))), (3, .ref (xad X (4 + 2 * r2))), (0, .ref (xad X (0))), (1, .int a1), (2, .int a2)] dX7_which_75 (by decide) rfl ?_
          refine g_sub [6, 3, 2, 1, 0] rfl ?_
          refine t_X7_which_L77 X q9.2 _ (fun s18 y7_17 y8_17 => ?_) FU q10.1 (0 : Int32) (-9 : Int32) (0 : Int32)
          refine g_aload_n 0 dX7_which_129 rfl ?_
          refine g_iload 2 dX7_which_130 rfl ?_
          refine pf_X7_13 fl_X7_83 dX7_which_132 ?_
          refine g_iload 1 dX7_which_135 rfl ?_
          exact g_iret rfl dX7_which_137
        · refine g_bipush (-3 : Int32) dX7_which_45 (by decide) ?_
          exact g_iret rfl dX7_which_47

def X7_kinds_L97 (x4 : Nat) (x6 : Nat) (x7 : Int32) (x8 : Int64) (k172 : Mem → Int32 → Option (Mem × Int32)) : Nat → Mem → Int32 → Int32 → Option (Mem × Int32)
  | 0, _, _, _ => none
  | n + 1, σ, x10, x11 => (if (6 : Int32) ≤ x11 then k172 σ x10 else ((X1_become σ x6 x11 ((σ.1 101 40 0)) ((if (σ.1 102 40 0) < (0 : Int32) then (0 : Int32) else (σ.1 102 40 0))) ((if (σ.1 103 40 0) < (0 : Int32) then (0 : Int32) else (σ.1 103 40 0)))).bind fun q20 => (X2_outOf q20.1 0 x4 x7).bind fun q21 => if (lg_cmp q21.2 x8) = 0 then (lt_ ((x10 ||| ((1 : Int32) <<< (x11 &&& 31)))) fun (v23 : Int32) => X7_kinds_L97 x4 x6 x7 x8 k172 n q21.1 v23 ((x11 + (1 : Int32)))) else (X7_kinds_L97 x4 x6 x7 x8 k172 n q21.1 x10 ((x11 + (1 : Int32))))))
def X7_kinds (σ : Mem) (a1 : Int32) (a2 : Int32) (a3 : Int32) : Option (Mem × Int32) := ((X7_rowOf σ a2).bind fun q1 => spl q1.2 11 ((X7_rowOf q1.1 a3).bind fun q3 => spl q3.2 11 ((X2_numbered q3.1 0 a1).bind fun q5 => spl q5.2 41 ((some (q5.1, (-1 : Int32)))) (fun r6 => (((some (q5.1, (-1 : Int32))))))) (fun r4 => ((X2_numbered q3.1 0 a1).bind fun q7 => spl q7.2 41 ((some (q7.1, (-1 : Int32)))) (fun r8 => (((some (q7.1, (-1 : Int32))))))))) (fun r2 => ((X7_rowOf q1.1 a3).bind fun q9 => spl q9.2 11 ((X2_numbered q9.1 0 a1).bind fun q11 => spl q11.2 41 ((some (q11.1, (-1 : Int32)))) (fun r12 => ((((some (q11.1, (-1 : Int32)))))))) (fun r10 => ((X2_numbered q9.1 0 a1).bind fun q13 => spl q13.2 41 ((some (q13.1, (-1 : Int32)))) (fun r14 => (((((X7_refuses q13.1 r2 (8 : Int32)).bind fun q15 => if q15.2 = 0 then ((X7_refuses q15.1 r10 (16 : Int32)).bind fun q16 => if q16.2 = 0 then ((X2_onSet q16.1 0).bind fun q17 => (X4_pack q17.1 r10).bind fun q18 => (X1_take q18.1 40 r14).bind fun q19 => X7_kinds_L97 r2 r14 q17.2 q18.2 (fun (s26 : Mem) (y10_25 : Int32) => ((X1_take s26 r14 40).bind fun q27 => some (q27.1, y10_25))) FU q19.1 (0 : Int32) (0 : Int32)) else (some (q16.1, (-3 : Int32)))) else (some (q15.1, (-3 : Int32)))))))))))))
set_option maxRecDepth 100000 in
set_option maxHeartbeats 4000000 in
theorem t_X7_kinds_L97 (X : GX) (x4 : Nat) (x6 : Nat) (x7 : Int32) (x8 : Int64) (hx4 : x4 < 11) (hx6 : x6 < 41) (k172 : Mem → Int32 → Option (Mem × Int32)) (hk172 : ∀ (σ : Mem) (y10 : Int32), GS (KM enI X) X mX7_kinds σ 172 [(0, .ref (xad X (0))), (6, .ref (xad X (28 + x6))), (10, .int y10)] [] (k172 σ y10)) : ∀ (n : Nat) (σ : Mem) (x10 : Int32) (x11 : Int32), GS (KM enI X) X mX7_kinds σ 97 [(0, .ref (xad X (0))), (4, .ref (xad X (4 + 2 * x4))), (6, .ref (xad X (28 + x6))), (7, .int x7), (8, .long x8), (10, .int x10), (11, .int x11)] [] (X7_kinds_L97 x4 x6 x7 x8 k172 n σ x10 x11) := by
  intro n
  induction n with
  | zero => intros; exact g_none
  | succ n ih =>
    intro σ x10 x11
    rw [X7_kinds_L97]
    refine g_iload 6 dX7_kinds_97 rfl ?_
    refine g_bipush (6 : Int32) dX7_kinds_99 (by decide) ?_
    refine g_icmp_ge 172 dX7_kinds_101 rfl (fun _ => ?_) (fun _ => ?_)
    · refine g_sub [0, 2, 5] rfl ?_
      exact hk172 σ x10
    · refine g_aload 2 dX7_kinds_104 rfl ?_
      refine g_iload 6 dX7_kinds_106 rfl ?_
      refine g_aload_n 0 dX7_kinds_108 rfl ?_
      refine gf_X7_9 fl_X7_67 dX7_kinds_109 ?_
      refine gf_X1_1 (by decide) fl_X7_164 dX7_kinds_112 ?_
      refine g_aload_n 0 dX7_kinds_115 rfl ?_
      refine gf_X7_9 fl_X7_67 dX7_kinds_116 ?_
      refine gf_X1_2 (by decide) fl_X7_184 dX7_kinds_119 ?_
      refine g_iconst (0 : Int32) dX7_kinds_122 (by decide) ?_
      refine g_mmax jl_X7_217 jm_max_s jm_i jm_max_c (by decide) (Nat.le_of_ble_eq_true rfl) dX7_kinds_123 ?_
      refine g_aload_n 0 dX7_kinds_126 rfl ?_
      refine gf_X7_9 fl_X7_67 dX7_kinds_127 ?_
      refine gf_X1_3 (by decide) fl_X7_173 dX7_kinds_130 ?_
      refine g_iconst (0 : Int32) dX7_kinds_133 (by decide) ?_
      refine g_mmax jl_X7_217 jm_max_s jm_i jm_max_c (by decide) (Nat.le_of_ble_eq_true rfl) dX7_kinds_134 ?_
      refine g_callVV (c_X1_become σ x6 x11 ((σ.1 101 40 0)) ((if (σ.1 102 40 0) < (0 : Int32) then (0 : Int32) else (σ.1 102 40 0))) ((if (σ.1 103 40 0) < (0 : Int32) then (0 : Int32) else (σ.1 103 40 0)))) okX1_become ⟨by decide, by decide⟩ ml_X7_295 (sh_X1 hx6) (no_X1 hx6) rfl rfl [.int x11, .int ((σ.1 101 40 0)), .int ((if (σ.1 102 40 0) < (0 : Int32) then (0 : Int32) else (σ.1 102 40 0))), .int ((if (σ.1 103 40 0) < (0 : Int32) then (0 : Int32) else (σ.1 103 40 0)))] rfl rfl rfl (Nat.le_of_ble_eq_true rfl) dX7_kinds_137 (fun q20 => ?_)
      refine g_aload_n 0 dX7_kinds_140 rfl ?_
      refine gf_X7_3 fl_X7_28 dX7_kinds_141 ?_
      refine g_aload 1 dX7_kinds_144 rfl ?_
      refine g_iload 3 dX7_kinds_146 rfl ?_
      refine g_callVJ (c_X2_outOf q20.1 0 x4 x7) okX2_outOf ⟨by decide, by decide⟩ ml_X7_206 (sh_X2 (by decide)) (no_X2 (by decide)) rfl rfl [.ref (xad X (4 + 2 * x4)), .int x7] rfl rfl rfl (Nat.le_of_ble_eq_true rfl) dX7_kinds_148 (fun q21 => ?_)
      refine g_lload 4 dX7_kinds_151 rfl ?_
      refine g_lcmp dX7_kinds_153 ?_
      refine g_if_ne 166 dX7_kinds_154 rfl (fun _ => ?_) (fun _ => ?_)
      · refine g_iinc 6 [(11, .int ((x11 + (1 : Int32)))), (0, .ref (xad X (0))), (4, .ref (xad X (4 + 2 * x4))), (6, .ref (xad X (28 + x6))), (7, .int x7), (8, .long x8), (10, .int x10)] dX7_kinds_166 rfl (v := x11 + (1 : Int32)) rfl (by decide) rfl ?_
        refine g_goto 97 dX7_kinds_169 rfl ?_
        refine g_sub [1, 2, 3, 4, 5, 6, 0] rfl ?_
        exact ih q21.1 x10 ((x11 + (1 : Int32)))
      · refine g_iload 5 dX7_kinds_157 rfl ?_
        refine g_iconst (1 : Int32) dX7_kinds_159 (by decide) ?_
        refine g_iload 6 dX7_kinds_160 rfl ?_
        refine g_ishl dX7_kinds_162 ?_
        refine g_ior dX7_kinds_163 ?_
        refine g_topi (fun v23 => ?_)
        refine g_istore [(10, .int v23), (0, .ref (xad X (0))), (4, .ref (xad X (4 + 2 * x4))), (6, .ref (xad X (28 + x6))), (7, .int x7), (8, .long x8), (11, .int x11)] dX7_kinds_164 (by decide) rfl ?_
        refine g_iinc 6 [(11, .int ((x11 + (1 : Int32)))), (10, .int v23), (0, .ref (xad X (0))), (4, .ref (xad X (4 + 2 * x4))), (6, .ref (xad X (28 + x6))), (7, .int x7), (8, .long x8)] dX7_kinds_166 rfl (v := x11 + (1 : Int32)) rfl (by decide) rfl ?_
        refine g_goto 97 dX7_kinds_169 rfl ?_
        refine g_sub [2, 3, 4, 5, 6, 1, 0] rfl ?_
        exact ih q21.1 v23 ((x11 + (1 : Int32)))

set_option maxRecDepth 100000 in
set_option maxHeartbeats 4000000 in
theorem c_X7_kinds (σ : Mem) (a1 : Int32) (a2 : Int32) (a3 : Int32) : CT yX7_kinds mX7_kinds enI (fun ad => [.ref (ad (0)), .int a1, .int a2, .int a3]) σ (X7_kinds σ a1 a2 a3) := by
  refine CT.of (by decide) rfl (fun _ => Nat.le_of_ble_eq_true rfl) (fun X => ?_)
  show GS (KM enI X) X mX7_kinds σ 0 [(0, .ref (xad X (0))), (1, .int a1), (2, .int a2), (3, .int a3)] [] _
  unfold X7_kinds
  refine g_aload_n 0 dX7_kinds_0 rfl ?_
  refine g_iload_n 2 dX7_kinds_1 rfl ?_
  refine g_callVG (c_X7_rowOf σ a2) okX7_rowOf ⟨by decide, by decide⟩ ml_X7_93 sh_0 no_0 rfl rfl [.int a2] rfl rfl rfl (Nat.le_of_ble_eq_true rfl) dX7_kinds_2 (fun q1 => ?_)
  refine g_spl ?_ (fun r2 hr2 => ?_)
  · refine g_astoreN [(4, .null), (0, .ref (xad X (0))), (1, .int a1), (2, .int a2), (3, .int a3)] dX7_kinds_5 (by decide) rfl ?_
    refine g_aload_n 1 dX7_kinds_7 rfl ?_
    refine g_iload_n 4 dX7_kinds_8 rfl ?_
    refine g_callVG (c_X7_rowOf q1.1 a3) okX7_rowOf ⟨by decide, by decide⟩ ml_X7_93 sh_0 no_0 rfl rfl [.int a3] rfl rfl rfl (Nat.le_of_ble_eq_true rfl) dX7_kinds_9 (fun q3 => ?_)
    refine g_spl ?_ (fun r4 hr4 => ?_)
    · refine g_astoreN [(5, .null), (4, .null), (0, .ref (xad X (0))), (1, .int a1), (2, .int a2), (3, .int a3)] dX7_kinds_12 (by decide) rfl ?_
      refine g_aload_n 2 dX7_kinds_14 rfl ?_
      refine gf_X7_3 fl_X7_28 dX7_kinds_15 ?_
      refine g_iload_n 3 dX7_kinds_18 rfl ?_
      refine g_callVG (c_X2_numbered q3.1 0 a1) okX2_numbered ⟨by decide, by decide⟩ ml_X7_154 (sh_X2 (by decide)) (no_X2 (by decide)) rfl rfl [.int a1] rfl rfl rfl (Nat.le_of_ble_eq_true rfl) dX7_kinds_19 (fun q5 => ?_)
      refine g_spl ?_ (fun r6 hr6 => ?_)
      · refine g_astoreN [(6, .null), (5, .null), (4, .null), (0, .ref (xad X (0))), (1, .int a1), (2, .int a2), (3, .int a3)] dX7_kinds_22 (by decide) rfl ?_
        refine g_aloadN 0 dX7_kinds_24 rfl ?_
        refine g_ifnullN 39 dX7_kinds_26 rfl ?_
        refine g_iconst (-1 : Int32) dX7_kinds_39 (by decide) ?_
        exact g_iret rfl dX7_kinds_40
      · refine g_astore [(6, .ref (xad X (28 + r6))), (5, .null), (4, .null), (0, .ref (xad X (0))), (1, .int a1), (2, .int a2), (3, .int a3)] dX7_kinds_22 (by decide) rfl ?_
        refine g_aload 0 dX7_kinds_24 rfl ?_
        refine g_ifnull dX7_kinds_26 ?_
        refine g_aloadN 2 dX7_kinds_29 rfl ?_
        refine g_ifnullN 39 dX7_kinds_31 rfl ?_
        refine g_iconst (-1 : Int32) dX7_kinds_39 (by decide) ?_
        exact g_iret rfl dX7_kinds_40
    · refine g_astore [(5, .ref (xad X (4 + 2 * r4))), (4, .null), (0, .ref (xad X (0))), (1, .int a1), (2, .int a2), (3, .int a3)] dX7_kinds_12 (by decide) rfl ?_
      refine g_aload_n 2 dX7_kinds_14 rfl ?_
      refine gf_X7_3 fl_X7_28 dX7_kinds_15 ?_
      refine g_iload_n 3 dX7_kinds_18 rfl ?_
      refine g_callVG (c_X2_numbered q3.1 0 a1) okX2_numbered ⟨by decide, by decide⟩ ml_X7_154 (sh_X2 (by decide)) (no_X2 (by decide)) rfl rfl [.int a1] rfl rfl rfl (Nat.le_of_ble_eq_true rfl) dX7_kinds_19 (fun q7 => ?_)
      refine g_spl ?_ (fun r8 hr8 => ?_)
      · refine g_astoreN [(6, .null), (5, .ref (xad X (4 + 2 * r4))), (4, .null), (0, .ref (xad X (0))), (1, .int a1), (2, .int a2), (3, .int a3)] dX7_kinds_22 (by decide) rfl ?_
        refine g_aloadN 0 dX7_kinds_24 rfl ?_
        refine g_ifnullN 39 dX7_kinds_26 rfl ?_
        refine g_iconst (-1 : Int32) dX7_kinds_39 (by decide) ?_
        exact g_iret rfl dX7_kinds_40
      · refine g_astore [(6, .ref (xad X (28 + r8))), (5, .ref (xad X (4 + 2 * r4))), (4, .null), (0, .ref (xad X (0))), (1, .int a1), (2, .int a2), (3, .int a3)] dX7_kinds_22 (by decide) rfl ?_
        refine g_aload 0 dX7_kinds_24 rfl ?_
        refine g_ifnull dX7_kinds_26 ?_
        refine g_aloadN 2 dX7_kinds_29 rfl ?_
        refine g_ifnullN 39 dX7_kinds_31 rfl ?_
        refine g_iconst (-1 : Int32) dX7_kinds_39 (by decide) ?_
        exact g_iret rfl dX7_kinds_40
  · refine g_astore [(4, .ref (xad X (4 + 2 * r2))), (0, .ref (xad X (0))), (1, .int a1), (2, .int a2), (3, .int a3)] dX7_kinds_5 (by decide) rfl ?_
    refine g_aload_n 1 dX7_kinds_7 rfl ?_
    refine g_iload_n 4 dX7_kinds_8 rfl ?_
    refine g_callVG (c_X7_rowOf q1.1 a3) okX7_rowOf ⟨by decide, by decide⟩ ml_X7_93 sh_0 no_0 rfl rfl [.int a3] rfl rfl rfl (Nat.le_of_ble_eq_true rfl) dX7_kinds_9 (fun q9 => ?_)
    refine g_spl ?_ (fun r10 hr10 => ?_)
    · refine g_astoreN [(5, .null), (4, .ref (xad X (4 + 2 * r2))), (0, .ref (xad X (0))), (1, .int a1), (2, .int a2), (3, .int a3)] dX7_kinds_12 (by decide) rfl ?_
      refine g_aload_n 2 dX7_kinds_14 rfl ?_
      refine gf_X7_3 fl_X7_28 dX7_kinds_15 ?_
      refine g_iload_n 3 dX7_kinds_18 rfl ?_
      refine g_callVG (c_X2_numbered q9.1 0 a1) okX2_numbered ⟨by decide, by decide⟩ ml_X7_154 (sh_X2 (by decide)) (no_X2 (by decide)) rfl rfl [.int a1] rfl rfl rfl (Nat.le_of_ble_eq_true rfl) dX7_kinds_19 (fun q11 => ?_)
      refine g_spl ?_ (fun r12 hr12 => ?_)
      · refine g_astoreN [(6, .null), (5, .null), (4, .ref (xad X (4 + 2 * r2))), (0, .ref (xad X (0))), (1, .int a1), (2, .int a2), (3, .int a3)] dX7_kinds_22 (by decide) rfl ?_
        refine g_aloadN 0 dX7_kinds_24 rfl ?_
        refine g_ifnullN 39 dX7_kinds_26 rfl ?_
        refine g_iconst (-1 : Int32) dX7_kinds_39 (by decide) ?_
        exact g_iret rfl dX7_kinds_40
      · refine g_astore [(6, .ref (xad X (28 + r12))), (5, .null), (4, .ref (xad X (4 + 2 * r2))), (0, .ref (xad X (0))), (1, .int a1), (2, .int a2), (3, .int a3)] dX7_kinds_22 (by decide) rfl ?_
        refine g_aload 0 dX7_kinds_24 rfl ?_
        refine g_ifnull dX7_kinds_26 ?_
        refine g_aload 2 dX7_kinds_29 rfl ?_
        refine g_ifnull dX7_kinds_31 ?_
        refine g_aloadN 1 dX7_kinds_34 rfl ?_
        refine g_ifnonnullN dX7_kinds_36 ?_
        refine g_iconst (-1 : Int32) dX7_kinds_39 (by decide) ?_
        exact g_iret rfl dX7_kinds_40
    · refine g_astore [(5, .ref (xad X (4 + 2 * r10))), (4, .ref (xad X (4 + 2 * r2))), (0, .ref (xad X (0))), (1, .int a1), (2, .int a2), (3, .int a3)] dX7_kinds_12 (by decide) rfl ?_
      refine g_aload_n 2 dX7_kinds_14 rfl ?_
      refine gf_X7_3 fl_X7_28 dX7_kinds_15 ?_
      refine g_iload_n 3 dX7_kinds_18 rfl ?_
      refine g_callVG (c_X2_numbered q9.1 0 a1) okX2_numbered ⟨by decide, by decide⟩ ml_X7_154 (sh_X2 (by decide)) (no_X2 (by decide)) rfl rfl [.int a1] rfl rfl rfl (Nat.le_of_ble_eq_true rfl) dX7_kinds_19 (fun q13 => ?_)
      refine g_spl ?_ (fun r14 hr14 => ?_)
      · refine g_astoreN [(6, .null), (5, .ref (xad X (4 + 2 * r10))), (4, .ref (xad X (4 + 2 * r2))), (0, .ref (xad X (0))), (1, .int a1), (2, .int a2), (3, .int a3)] dX7_kinds_22 (by decide) rfl ?_
        refine g_aloadN 0 dX7_kinds_24 rfl ?_
        refine g_ifnullN 39 dX7_kinds_26 rfl ?_
        refine g_iconst (-1 : Int32) dX7_kinds_39 (by decide) ?_
        exact g_iret rfl dX7_kinds_40
      · refine g_astore [(6, .ref (xad X (28 + r14))), (5, .ref (xad X (4 + 2 * r10))), (4, .ref (xad X (4 + 2 * r2))), (0, .ref (xad X (0))), (1, .int a1), (2, .int a2), (3, .int a3)] dX7_kinds_22 (by decide) rfl ?_
        refine g_aload 0 dX7_kinds_24 rfl ?_
        refine g_ifnull dX7_kinds_26 ?_
        refine g_aload 2 dX7_kinds_29 rfl ?_
        refine g_ifnull dX7_kinds_31 ?_
        refine g_aload 1 dX7_kinds_34 rfl ?_
        refine g_ifnonnull 41 dX7_kinds_36 rfl ?_
        refine g_aload_n 3 dX7_kinds_41 rfl ?_
        refine g_aload 2 dX7_kinds_42 rfl ?_
        refine g_bipush (8 : Int32) dX7_kinds_44 (by decide) ?_
        refine g_callVI (c_X7_refuses q13.1 r2 (8 : Int32)) okX7_refuses ⟨by decide, by decide⟩ ml_X7_202 sh_0 no_0 rfl rfl [.ref (xad X (4 + 2 * r2)), .int ((8 : Int32))] rfl rfl rfl (Nat.le_of_ble_eq_true rfl) dX7_kinds_46 (fun q15 => ?_)
        refine g_if_ne 63 dX7_kinds_49 rfl (fun _ => ?_) (fun _ => ?_)
        · refine g_bipush (-3 : Int32) dX7_kinds_63 (by decide) ?_
          exact g_iret rfl dX7_kinds_65
        · refine g_aload_n 3 dX7_kinds_52 rfl ?_
          refine g_aload 1 dX7_kinds_53 rfl ?_
          refine g_bipush (16 : Int32) dX7_kinds_55 (by decide) ?_
          refine g_callVI (c_X7_refuses q15.1 r10 (16 : Int32)) okX7_refuses ⟨by decide, by decide⟩ ml_X7_202 sh_0 no_0 rfl rfl [.ref (xad X (4 + 2 * r10)), .int ((16 : Int32))] rfl rfl rfl (Nat.le_of_ble_eq_true rfl) dX7_kinds_57 (fun q16 => ?_)
          refine g_if_eq 66 dX7_kinds_60 rfl (fun _ => ?_) (fun _ => ?_)
          · refine g_aload_n 3 dX7_kinds_66 rfl ?_
            refine gf_X7_3 fl_X7_28 dX7_kinds_67 ?_
            refine g_callVI (c_X2_onSet q16.1 0) okX2_onSet ⟨by decide, by decide⟩ ml_X7_176 (sh_X2 (by decide)) (no_X2 (by decide)) rfl rfl [] rfl rfl rfl (Nat.le_of_ble_eq_true rfl) dX7_kinds_70 (fun q17 => ?_)
            refine g_istore [(7, .int (q17.2)), (6, .ref (xad X (28 + r14))), (5, .ref (xad X (4 + 2 * r10))), (4, .ref (xad X (4 + 2 * r2))), (0, .ref (xad X (0))), (1, .int a1), (2, .int a2), (3, .int a3)] dX7_kinds_73 (by decide) rfl ?_
            refine g_aload 2 dX7_kinds_75 rfl ?_
            refine g_callVJ (c_X4_pack q17.1 r10) okX4_pack ⟨by decide, by decide⟩ ml_X7_223 (sh_X4 hr10) (no_X4 hr10) rfl rfl [] rfl rfl rfl (Nat.le_of_ble_eq_true rfl) dX7_kinds_77 (fun q18 => ?_)
            refine g_lstore [(8, .long (q18.2)), (7, .int (q17.2)), (6, .ref (xad X (28 + r14))), (5, .ref (xad X (4 + 2 * r10))), (4, .ref (xad X (4 + 2 * r2))), (0, .ref (xad X (0))), (1, .int a1), (2, .int a2), (3, .int a3)] dX7_kinds_80 (by decide) rfl ?_
            refine g_iconst (0 : Int32) dX7_kinds_82 (by decide) ?_
            refine g_istore [(10, .int ((0 : Int32))), (8, .long (q18.2)), (7, .int (q17.2)), (6, .ref (xad X (28 + r14))), (5, .ref (xad X (4 + 2 * r10))), (4, .ref (xad X (4 + 2 * r2))), (0, .ref (xad X (0))), (1, .int a1), (2, .int a2), (3, .int a3)] dX7_kinds_83 (by decide) rfl ?_
            refine g_aload_n 6 dX7_kinds_85 rfl ?_
            refine gf_X7_9 fl_X7_67 dX7_kinds_86 ?_
            refine g_aload 3 dX7_kinds_89 rfl ?_
            refine g_callVV (c_X1_take q18.1 40 r14) okX1_take ⟨by decide, by decide⟩ ml_X7_291 (sh_X1 (by decide)) (no_X1 (by decide)) rfl rfl [.ref (xad X (28 + r14))] rfl rfl rfl (Nat.le_of_ble_eq_true rfl) dX7_kinds_91 (fun q19 => ?_)
            refine g_iconst (0 : Int32) dX7_kinds_94 (by decide) ?_
            refine g_istore [(11, .int ((0 : Int32))), (10, .int ((0 : Int32))), (8, .long (q18.2)), (7, .int (q17.2)), (6, .ref (xad X (28 + r14))), (5, .ref (xad X (4 + 2 * r10))), (4, .ref (xad X (4 + 2 * r2))), (0, .ref (xad X (0))), (1, .int a1), (2, .int a2), (3, .int a3)] dX7_kinds_95 (by decide) rfl ?_
            refine g_sub [7, 6, 4, 3, 2, 1, 0] rfl ?_
            refine t_X7_kinds_L97 X r2 r14 q17.2 q18.2 hr2 hr14 _ (fun s26 y10_25 => ?_) FU q19.1 (0 : Int32) (0 : Int32)
            refine g_aload 1 dX7_kinds_172 rfl ?_
            refine g_aload_n 0 dX7_kinds_174 rfl ?_
            refine gf_X7_9 fl_X7_67 dX7_kinds_175 ?_
            refine g_callVV (c_X1_take s26 r14 40) okX1_take ⟨by decide, by decide⟩ ml_X7_291 (sh_X1 hr14) (no_X1 hr14) rfl rfl [.ref (xad X (28 + 40))] rfl rfl rfl (Nat.le_of_ble_eq_true rfl) dX7_kinds_178 (fun q27 => ?_)
            refine g_iload 2 dX7_kinds_181 rfl ?_
            exact g_iret rfl dX7_kinds_183
          · refine g_bipush (-3 : Int32) dX7_kinds_63 (by decide) ?_
            exact g_iret rfl dX7_kinds_65

