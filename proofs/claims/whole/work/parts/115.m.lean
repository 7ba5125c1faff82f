def X8_copy_L104 (x1 : Int32) (x2 : Int32) (x3 : Int32) (x4 : Int32) (x5 : Int32) (k133 : Mem → Option (Mem × Int32)) : Nat → Mem → Int32 → Option (Mem × Int32)
  | 0, _, _ => none
  | n + 1, σ, x6 => (if x5 ≤ x6 then k133 σ else ((X8_rowAt σ x1 ((x2 + x6))).bind fun q7 => ck x6 40 <| X8_copy_L104 x1 x2 x3 x4 x5 k133 n ((uI q7.1 807 0 x6.toNatClampNeg q7.2)) ((x6 + (1 : Int32)))))
def X8_copy_L136 (x3 : Int32) (x4 : Int32) (x5 : Int32) (k166 : Mem → Option (Mem × Int32)) : Nat → Mem → Int32 → Option (Mem × Int32)
  | 0, _, _ => none
  | n + 1, σ, x6 => (if x5 ≤ x6 then k166 σ else (ck x6 40 <| (X8_setRow σ x3 ((x4 + x6)) ((σ.1 807 0 x6.toNatClampNeg))).bind fun q11 => X8_copy_L136 x3 x4 x5 k166 n q11.1 ((x6 + (1 : Int32)))))
def X8_copy (σ : Mem) (a1 : Int32) (a2 : Int32) (a3 : Int32) (a4 : Int32) (a5 : Int32) : Option (Mem × Int32) := ((X8_isRow σ a1).bind fun q1 => if q1.2 = 0 then (some (q1.1, (-1 : Int32))) else ((X8_isRow q1.1 a3).bind fun q2 => if q2.2 = 0 then (some (q2.1, (-1 : Int32))) else (if 0 ≤ a5 then (ck a1 6 <| if (q2.1.1 805 0 a1.toNatClampNeg) < 0 then ((X8_meet q2.1 (1 : Int32)).bind fun q3 => some (q3.1, q3.2)) else (ck a3 6 <| if 0 ≤ (q2.1.1 805 0 a3.toNatClampNeg) then (if a2 < 0 then ((X8_meet q2.1 (2 : Int32)).bind fun q4 => some (q4.1, q4.2)) else (if a4 < 0 then ((X8_meet q2.1 (2 : Int32)).bind fun q5 => some (q5.1, q5.2)) else (ck a1 6 <| if 0 < (lg_cmp (a2.toInt64 + a5.toInt64) (q2.1.1 805 0 a1.toNatClampNeg).toInt64) then ((X8_meet q2.1 (2 : Int32)).bind fun q6 => some (q6.1, q6.2)) else (ck a3 6 <| if (lg_cmp (a4.toInt64 + a5.toInt64) (q2.1.1 805 0 a3.toNatClampNeg).toInt64) ≤ 0 then (X8_copy_L104 a1 a2 a3 a4 a5 (fun (s10 : Mem) => (X8_copy_L136 a3 a4 a5 (fun (s14 : Mem) => (some (s14, (1 : Int32)))) FU s10 (0 : Int32))) FU q2.1 (0 : Int32)) else ((X8_meet q2.1 (2 : Int32)).bind fun q15 => some (q15.1, q15.2)))))) else ((X8_meet q2.1 (1 : Int32)).bind fun q16 => some (q16.1, q16.2)))) else ((X8_meet q2.1 (5 : Int32)).bind fun q17 => some (q17.1, q17.2)))))
set_option maxRecDepth 100000 in
set_option maxHeartbeats 4000000 in
theorem t_X8_copy_L104 (X : GX) (x1 : Int32) (x2 : Int32) (x3 : Int32) (x4 : Int32) (x5 : Int32) (k133 : Mem → Option (Mem × Int32)) (hk133 : ∀ (σ : Mem), GS (KM enI X) X mX8_copy σ 133 [(0, .ref (xad X (98))), (3, .int x3), (4, .int x4), (5, .int x5)] [] (k133 σ)) : ∀ (n : Nat) (σ : Mem) (x6 : Int32), GS (KM enI X) X mX8_copy σ 104 [(0, .ref (xad X (98))), (1, .int x1), (2, .int x2), (3, .int x3), (4, .int x4), (5, .int x5), (6, .int x6)] [] (X8_copy_L104 x1 x2 x3 x4 x5 k133 n σ x6) := by
  intro n
  induction n with
  | zero => intros; exact g_none
  | succ n ih =>
    intro σ x6
    rw [X8_copy_L104]
    refine g_iload 6 dX8_copy_104 rfl ?_
    refine g_iload 5 dX8_copy_106 rfl ?_
    refine g_icmp_ge 133 dX8_copy_108 rfl (fun _ => ?_) (fun _ => ?_)
    · refine g_sub [0, 3, 4, 5] rfl ?_
      exact hk133 σ
    · refine g_aload_n 0 dX8_copy_111 rfl ?_
      refine gf_X8_7 fl_X8_23 dX8_copy_112 ?_
      refine g_iload 6 dX8_copy_115 rfl ?_
      refine g_aload_n 0 dX8_copy_117 rfl ?_
      refine g_iload_n 1 dX8_copy_118 rfl ?_
      refine g_iload_n 2 dX8_copy_119 rfl ?_
      refine g_iload 6 dX8_copy_120 rfl ?_
      refine g_iadd dX8_copy_122 ?_
      refine g_callVI (c_X8_rowAt σ x1 ((x2 + x6))) okX8_rowAt ⟨by decide, by decide⟩ ml_X8_105 sh_98 no_98 rfl rfl [.int x1, .int ((x2 + x6))] rfl rfl rfl (Nat.le_of_ble_eq_true rfl) dX8_copy_123 (fun q7 => ?_)
      refine g_iast sh_102 no_102 dX8_copy_126 (fun _ => ?_)
      refine g_iinc 6 [(6, .int ((x6 + (1 : Int32)))), (0, .ref (xad X (98))), (1, .int x1), (2, .int x2), (3, .int x3), (4, .int x4), (5, .int x5)] dX8_copy_127 rfl (v := x6 + (1 : Int32)) rfl (by decide) rfl ?_
      refine g_goto 104 dX8_copy_130 rfl ?_
      refine g_sub [1, 2, 3, 4, 5, 6, 0] rfl ?_
      exact ih ((uI q7.1 807 0 x6.toNatClampNeg q7.2)) ((x6 + (1 : Int32)))

set_option maxRecDepth 100000 in
set_option maxHeartbeats 4000000 in
theorem t_X8_copy_L136 (X : GX) (x3 : Int32) (x4 : Int32) (x5 : Int32) (k166 : Mem → Option (Mem × Int32)) (hk166 : ∀ (σ : Mem), GS (KM enI X) X mX8_copy σ 166 [] [] (k166 σ)) : ∀ (n : Nat) (σ : Mem) (x6 : Int32), GS (KM enI X) X mX8_copy σ 136 [(0, .ref (xad X (98))), (3, .int x3), (4, .int x4), (5, .int x5), (6, .int x6)] [] (X8_copy_L136 x3 x4 x5 k166 n σ x6) := by
  intro n
  induction n with
  | zero => intros; exact g_none
  | succ n ih =>
    intro σ x6
    rw [X8_copy_L136]
    refine g_iload 4 dX8_copy_136 rfl ?_
    refine g_iload 3 dX8_copy_138 rfl ?_
    refine g_icmp_ge 166 dX8_copy_140 rfl (fun _ => ?_) (fun _ => ?_)
    · refine g_sub [] rfl ?_
      exact hk166 σ
    · refine g_aload_n 0 dX8_copy_143 rfl ?_
      refine g_iload_n 1 dX8_copy_144 rfl ?_
      refine g_iload 2 dX8_copy_145 rfl ?_
      refine g_iload 4 dX8_copy_147 rfl ?_
      refine g_iadd dX8_copy_149 ?_
      refine g_aload_n 0 dX8_copy_150 rfl ?_
      refine gf_X8_7 fl_X8_23 dX8_copy_151 ?_
      refine g_iload 4 dX8_copy_154 rfl ?_
      refine g_iald sh_102 no_102 dX8_copy_156 (fun _ => ?_)
      refine g_callVV (c_X8_setRow σ x3 ((x4 + x6)) ((σ.1 807 0 x6.toNatClampNeg))) okX8_setRow ⟨by decide, by decide⟩ ml_X8_98 sh_98 no_98 rfl rfl [.int x3, .int ((x4 + x6)), .int ((σ.1 807 0 x6.toNatClampNeg))] rfl rfl rfl (Nat.le_of_ble_eq_true rfl) dX8_copy_157 (fun q11 => ?_)
      refine g_iinc 4 [(6, .int ((x6 + (1 : Int32)))), (0, .ref (xad X (98))), (3, .int x3), (4, .int x4), (5, .int x5)] dX8_copy_160 rfl (v := x6 + (1 : Int32)) rfl (by decide) rfl ?_
      refine g_goto 136 dX8_copy_163 rfl ?_
      refine g_sub [1, 2, 3, 4, 0] rfl ?_
      exact ih q11.1 ((x6 + (1 : Int32)))

set_option maxRecDepth 100000 in
set_option maxHeartbeats 4000000 in
theorem c_X8_copy (σ : Mem) (a1 : Int32) (a2 : Int32) (a3 : Int32) (a4 : Int32) (a5 : Int32) : CT yX8_copy mX8_copy enI (fun ad => [.ref (ad (98)), .int a1, .int a2, .int a3, .int a4, .int a5]) σ (X8_copy σ a1 a2 a3 a4 a5) := by
  refine CT.of (by decide) rfl (fun _ => Nat.le_of_ble_eq_true rfl) (fun X => ?_)
  show GS (KM enI X) X mX8_copy σ 0 [(0, .ref (xad X (98))), (1, .int a1), (2, .int a2), (3, .int a3), (4, .int a4), (5, .int a5)] [] _
  unfold X8_copy
  refine g_iload_n 1 dX8_copy_0 rfl ?_
  refine g_callSI (c_X8_isRow σ a1) okX8_isRow ⟨by decide, by decide⟩ ml_X8_87 rfl rfl (Nat.le_of_ble_eq_true rfl) dX8_copy_1 (fun q1 => ?_)
  refine g_if_eq 14 dX8_copy_4 rfl (fun _ => ?_) (fun _ => ?_)
  · refine g_iconst (-1 : Int32) dX8_copy_14 (by decide) ?_
    exact g_iret rfl dX8_copy_15
  · refine g_iload_n 3 dX8_copy_7 rfl ?_
    refine g_callSI (c_X8_isRow q1.1 a3) okX8_isRow ⟨by decide, by decide⟩ ml_X8_87 rfl rfl (Nat.le_of_ble_eq_true rfl) dX8_copy_8 (fun q2 => ?_)
    refine g_if_ne 16 dX8_copy_11 rfl (fun _ => ?_) (fun _ => ?_)
    · refine g_iload 5 dX8_copy_16 rfl ?_
      refine g_if_ge 27 dX8_copy_18 rfl (fun _ => ?_) (fun _ => ?_)
      · refine g_aload_n 0 dX8_copy_27 rfl ?_
        refine gf_X8_5 fl_X8_17 dX8_copy_28 ?_
        refine g_iload_n 1 dX8_copy_31 rfl ?_
        refine g_iald sh_100 no_100 dX8_copy_32 (fun _ => ?_)
        refine g_if_lt 45 dX8_copy_33 rfl (fun _ => ?_) (fun _ => ?_)
        · refine g_aload_n 0 dX8_copy_45 rfl ?_
          refine g_iconst (1 : Int32) dX8_copy_46 (by decide) ?_
          refine g_callVI (c_X8_meet q2.1 (1 : Int32)) okX8_meet ⟨by decide, by decide⟩ ml_X8_91 sh_98 no_98 rfl rfl [.int ((1 : Int32))] rfl rfl rfl (Nat.le_of_ble_eq_true rfl) dX8_copy_47 (fun q3 => ?_)
          exact g_iret rfl dX8_copy_50
        · refine g_aload_n 0 dX8_copy_36 rfl ?_
          refine gf_X8_5 fl_X8_17 dX8_copy_37 ?_
          refine g_iload_n 3 dX8_copy_40 rfl ?_
          refine g_iald sh_100 no_100 dX8_copy_41 (fun _ => ?_)
          refine g_if_ge 51 dX8_copy_42 rfl (fun _ => ?_) (fun _ => ?_)
          · refine g_iload_n 2 dX8_copy_51 rfl ?_
            refine g_if_lt 95 dX8_copy_52 rfl (fun _ => ?_) (fun _ => ?_)
            · refine g_aload_n 0 dX8_copy_95 rfl ?_
              refine g_iconst (2 : Int32) dX8_copy_96 (by decide) ?_
              refine g_callVI (c_X8_meet q2.1 (2 : Int32)) okX8_meet ⟨by decide, by decide⟩ ml_X8_91 sh_98 no_98 rfl rfl [.int ((2 : Int32))] rfl rfl rfl (Nat.le_of_ble_eq_true rfl) dX8_copy_97 (fun q4 => ?_)
              exact g_iret rfl dX8_copy_100
            · refine g_iload 4 dX8_copy_55 rfl ?_
              refine g_if_lt 95 dX8_copy_57 rfl (fun _ => ?_) (fun _ => ?_)
              · refine g_aload_n 0 dX8_copy_95 rfl ?_
                refine g_iconst (2 : Int32) dX8_copy_96 (by decide) ?_
                refine g_callVI (c_X8_meet q2.1 (2 : Int32)) okX8_meet ⟨by decide, by decide⟩ ml_X8_91 sh_98 no_98 rfl rfl [.int ((2 : Int32))] rfl rfl rfl (Nat.le_of_ble_eq_true rfl) dX8_copy_97 (fun q5 => ?_)
                exact g_iret rfl dX8_copy_100
              · refine g_iload_n 2 dX8_copy_60 rfl ?_
                refine g_i2l dX8_copy_61 ?_
                refine g_iload 5 dX8_copy_62 rfl ?_
                refine g_i2l dX8_copy_64 ?_
                refine g_ladd dX8_copy_65 ?_
                refine g_aload_n 0 dX8_copy_66 rfl ?_
                refine gf_X8_5 fl_X8_17 dX8_copy_67 ?_
                refine g_iload_n 1 dX8_copy_70 rfl ?_
                refine g_iald sh_100 no_100 dX8_copy_71 (fun _ => ?_)
                refine g_i2l dX8_copy_72 ?_
                refine g_lcmp dX8_copy_73 ?_
                refine g_if_gt 95 dX8_copy_74 rfl (fun _ => ?_) (fun _ => ?_)
                · refine g_aload_n 0 dX8_copy_95 rfl ?_
                  refine g_iconst (2 : Int32) dX8_copy_96 (by decide) ?_
                  refine g_callVI (c_X8_meet q2.1 (2 : Int32)) okX8_meet ⟨by decide, by decide⟩ ml_X8_91 sh_98 no_98 rfl rfl [.int ((2 : Int32))] rfl rfl rfl (Nat.le_of_ble_eq_true rfl) dX8_copy_97 (fun q6 => ?_)
                  exact g_iret rfl dX8_copy_100
                · refine g_iload 4 dX8_copy_77 rfl ?_
                  refine g_i2l dX8_copy_79 ?_
                  refine g_iload 5 dX8_copy_80 rfl ?_
                  refine g_i2l dX8_copy_82 ?_
                  refine g_ladd dX8_copy_83 ?_
                  refine g_aload_n 0 dX8_copy_84 rfl ?_
                  refine gf_X8_5 fl_X8_17 dX8_copy_85 ?_
                  refine g_iload_n 3 dX8_copy_88 rfl ?_
                  refine g_iald sh_100 no_100 dX8_copy_89 (fun _ => ?_)
                  refine g_i2l dX8_copy_90 ?_
                  refine g_lcmp dX8_copy_91 ?_
                  refine g_if_le 101 dX8_copy_92 rfl (fun _ => ?_) (fun _ => ?_)
                  · refine g_iconst (0 : Int32) dX8_copy_101 (by decide) ?_
                    refine g_istore [(6, .int ((0 : Int32))), (0, .ref (xad X (98))), (1, .int a1), (2, .int a2), (3, .int a3), (4, .int a4), (5, .int a5)] dX8_copy_102 (by decide) rfl ?_
                    refine g_sub [1, 2, 3, 4, 5, 6, 0] rfl ?_
                    refine t_X8_copy_L104 X a1 a2 a3 a4 a5 _ (fun s10 => ?_) FU q2.1 (0 : Int32)
                    refine g_iconst (0 : Int32) dX8_copy_133 (by decide) ?_
                    refine g_istore [(6, .int ((0 : Int32))), (0, .ref (xad X (98))), (3, .int a3), (4, .int a4), (5, .int a5)] dX8_copy_134 (by decide) rfl ?_
                    refine g_sub [1, 2, 3, 4, 0] rfl ?_
                    refine t_X8_copy_L136 X a3 a4 a5 _ (fun s14 => ?_) FU s10 (0 : Int32)
                    refine g_iconst (1 : Int32) dX8_copy_166 (by decide) ?_
                    exact g_iret rfl dX8_copy_167
                  · refine g_aload_n 0 dX8_copy_95 rfl ?_
                    refine g_iconst (2 : Int32) dX8_copy_96 (by decide) ?_
                    refine g_callVI (c_X8_meet q2.1 (2 : Int32)) okX8_meet ⟨by decide, by decide⟩ ml_X8_91 sh_98 no_98 rfl rfl [.int ((2 : Int32))] rfl rfl rfl (Nat.le_of_ble_eq_true rfl) dX8_copy_97 (fun q15 => ?_)
                    exact g_iret rfl dX8_copy_100
          · refine g_aload_n 0 dX8_copy_45 rfl ?_
            refine g_iconst (1 : Int32) dX8_copy_46 (by decide) ?_
            refine g_callVI (c_X8_meet q2.1 (1 : Int32)) okX8_meet ⟨by decide, by decide⟩ ml_X8_91 sh_98 no_98 rfl rfl [.int ((1 : Int32))] rfl rfl rfl (Nat.le_of_ble_eq_true rfl) dX8_copy_47 (fun q16 => ?_)
            exact g_iret rfl dX8_copy_50
      · refine g_aload_n 0 dX8_copy_21 rfl ?_
        refine g_iconst (5 : Int32) dX8_copy_22 (by decide) ?_
        refine g_callVI (c_X8_meet q2.1 (5 : Int32)) okX8_meet ⟨by decide, by decide⟩ ml_X8_91 sh_98 no_98 rfl rfl [.int ((5 : Int32))] rfl rfl rfl (Nat.le_of_ble_eq_true rfl) dX8_copy_23 (fun q17 => ?_)
        exact g_iret rfl dX8_copy_26
    · refine g_iconst (-1 : Int32) dX8_copy_14 (by decide) ?_
      exact g_iret rfl dX8_copy_15

def X8_mean_L17 (x1 : Int32) (k45 : Mem → Int64 → Option (Mem × Int32)) : Nat → Mem → Int64 → Int32 → Option (Mem × Int32)
  | 0, _, _, _ => none
  | n + 1, σ, x3, x5 => (ck x1 6 <| if (σ.1 805 0 x1.toNatClampNeg) ≤ x5 then k45 σ x3 else ((X8_rowAt σ x1 x5).bind fun q2 => lt_ ((x3 + q2.2.toInt64)) fun (v3 : Int64) => X8_mean_L17 x1 k45 n q2.1 v3 ((x5 + (1 : Int32)))))
def X8_mean (σ : Mem) (a1 : Int32) : Option (Mem × Int32) := ((X8_askedRow σ a1).bind fun q1 => if 0 ≤ q1.2 then (X8_mean_L17 a1 (fun (s6 : Mem) (y3_5 : Int64) => (ck a1 6 <| if (s6.1 805 0 a1.toNatClampNeg) = 0 then ((X8_meet s6 (4 : Int32)).bind fun q8 => (some (q8.1, q8.2))) else (ck a1 6 <| if (s6.1 805 0 a1.toNatClampNeg).toInt64 = 0 then none else (X8_ask s6 ((y3_5 / (s6.1 805 0 a1.toNatClampNeg).toInt64).toInt32) (1 : Int32)).bind fun q7 => some (q7.1, q7.2)))) FU q1.1 (0 : Int64) (0 : Int32)) else (some (q1.1, q1.2)))
set_option maxRecDepth 100000 in
set_option maxHeartbeats 4000000 in
theorem t_X8_mean_L17 (X : GX) (x1 : Int32) (k45 : Mem → Int64 → Option (Mem × Int32)) (hk45 : ∀ (σ : Mem) (y3 : Int64), GS (KM enI X) X mX8_mean σ 45 [(0, .ref (xad X (98))), (1, .int x1), (3, .long y3)] [] (k45 σ y3)) : ∀ (n : Nat) (σ : Mem) (x3 : Int64) (x5 : Int32), GS (KM enI X) X mX8_mean σ 17 [(0, .ref (xad X (98))), (1, .int x1), (3, .long x3), (5, .int x5)] [] (X8_mean_L17 x1 k45 n σ x3 x5) := by
  intro n
  induction n with
  | zero => intros; exact g_none
  | succ n ih =>
    intro σ x3 x5
    rw [X8_mean_L17]
    refine g_iload 3 dX8_mean_17 rfl ?_
    refine g_aload_n 0 dX8_mean_19 rfl ?_
    refine gf_X8_5 fl_X8_17 dX8_mean_20 ?_
    refine g_iload_n 1 dX8_mean_23 rfl ?_
    refine g_iald sh_100 no_100 dX8_mean_24 (fun _ => ?_)
    refine g_icmp_ge 45 dX8_mean_25 rfl (fun _ => ?_) (fun _ => ?_)
    · refine g_sub [0, 1, 2] rfl ?_
      exact hk45 σ x3
    · refine g_lload_n 2 dX8_mean_28 rfl ?_
      refine g_aload_n 0 dX8_mean_29 rfl ?_
      refine g_iload_n 1 dX8_mean_30 rfl ?_
      refine g_iload 3 dX8_mean_31 rfl ?_
      refine g_callVI (c_X8_rowAt σ x1 x5) okX8_rowAt ⟨by decide, by decide⟩ ml_X8_105 sh_98 no_98 rfl rfl [.int x1, .int x5] rfl rfl rfl (Nat.le_of_ble_eq_true rfl) dX8_mean_33 (fun q2 => ?_)
      refine g_i2l dX8_mean_36 ?_
      refine g_ladd dX8_mean_37 ?_
      refine g_topl (fun v3 => ?_)
      refine g_lstore_n [(3, .long v3), (0, .ref (xad X (98))), (1, .int x1), (5, .int x5)] dX8_mean_38 (by decide) rfl ?_
      refine g_iinc 3 [(5, .int ((x5 + (1 : Int32)))), (3, .long v3), (0, .ref (xad X (98))), (1, .int x1)] dX8_mean_39 rfl (v := x5 + (1 : Int32)) rfl (by decide) rfl ?_
      refine g_goto 17 dX8_mean_42 rfl ?_
      refine g_sub [2, 3, 1, 0] rfl ?_
      exact ih q2.1 v3 ((x5 + (1 : Int32)))

set_option maxRecDepth 100000 in
set_option maxHeartbeats 4000000 in
theorem c_X8_mean (σ : Mem) (a1 : Int32) : CT yX8_mean mX8_mean enI (fun ad => [.ref (ad (98)), .int a1]) σ (X8_mean σ a1) := by
  refine CT.of (by decide) rfl (fun _ => Nat.le_of_ble_eq_true rfl) (fun X => ?_)
  show GS (KM enI X) X mX8_mean σ 0 [(0, .ref (xad X (98))), (1, .int a1)] [] _
  unfold X8_mean
  refine g_aload_n 0 dX8_mean_0 rfl ?_
  refine g_iload_n 1 dX8_mean_1 rfl ?_
  refine g_callVI (c_X8_askedRow σ a1) okX8_askedRow ⟨by decide, by decide⟩ ml_X8_102 sh_98 no_98 rfl rfl [.int a1] rfl rfl rfl (Nat.le_of_ble_eq_true rfl) dX8_mean_2 (fun q1 => ?_)
  refine g_istore_n [(2, .int (q1.2)), (0, .ref (xad X (98))), (1, .int a1)] dX8_mean_5 (by decide) rfl ?_
  refine g_iload_n 0 dX8_mean_6 rfl ?_
  refine g_if_ge 12 dX8_mean_7 rfl (fun _ => ?_) (fun _ => ?_)
  · refine g_lconst (0 : Int64) dX8_mean_12 (by decide) ?_
    refine g_lstore_n [(3, .long ((0 : Int64))), (2, .int (q1.2)), (0, .ref (xad X (98))), (1, .int a1)] dX8_mean_13 (by decide) rfl ?_
    refine g_iconst (0 : Int32) dX8_mean_14 (by decide) ?_
    refine g_istore [(5, .int ((0 : Int32))), (3, .long ((0 : Int64))), (2, .int (q1.2)), (0, .ref (xad X (98))), (1, .int a1)] dX8_mean_15 (by decide) rfl ?_
    refine g_sub [3, 4, 1, 0] rfl ?_
    refine t_X8_mean_L17 X a1 _ (fun s6 y3_5 => ?_) FU q1.1 (0 : Int64) (0 : Int32)
    refine g_aload_n 0 dX8_mean_45 rfl ?_
    refine gf_X8_5 fl_X8_17 dX8_mean_46 ?_
    refine g_iload_n 1 dX8_mean_49 rfl ?_
    refine g_iald sh_100 no_100 dX8_mean_50 (fun _ => ?_)
    refine g_if_ne 62 dX8_mean_51 rfl (fun _ => ?_) (fun _ => ?_)
    · refine g_aload_n 0 dX8_mean_62 rfl ?_
      refine g_lload_n 2 dX8_mean_63 rfl ?_
      refine g_aload_n 0 dX8_mean_64 rfl ?_
      refine gf_X8_5 fl_X8_17 dX8_mean_65 ?_
      refine g_iload_n 1 dX8_mean_68 rfl ?_
      refine g_iald sh_100 no_100 dX8_mean_69 (fun _ => ?_)
      refine g_i2l dX8_mean_70 ?_
      refine g_ldiv dX8_mean_71 (fun _ => ?_)
      refine g_l2i dX8_mean_72 ?_
      refine g_iconst (1 : Int32) dX8_mean_73 (by decide) ?_
      refine g_callVI (c_X8_ask s6 ((y3_5 / (s6.1 805 0 a1.toNatClampNeg).toInt64).toInt32) (1 : Int32)) okX8_ask ⟨by decide, by decide⟩ ml_X8_109 sh_98 no_98 rfl rfl [.int ((y3_5 / (s6.1 805 0 a1.toNatClampNeg).toInt64).toInt32), .int ((1 : Int32))] rfl rfl rfl (Nat.le_of_ble_eq_true rfl) dX8_mean_74 (fun q7 => ?_)
      exact g_iret rfl dX8_mean_77
    · refine g_aload_n 0 dX8_mean_54 rfl ?_
      refine g_iconst (4 : Int32) dX8_mean_55 (by decide) ?_
      refine g_callVI (c_X8_meet s6 (4 : Int32)) okX8_meet ⟨by decide, by decide⟩ ml_X8_91 sh_98 no_98 rfl rfl [.int ((4 : Int32))] rfl rfl rfl (Nat.le_of_ble_eq_true rfl) dX8_mean_56 (fun q8 => ?_)
      refine g_goto 77 dX8_mean_59 rfl ?_
      exact g_iret rfl dX8_mean_77
  · refine g_iload_n 0 dX8_mean_10 rfl ?_
    exact g_iret rfl dX8_mean_11

def X8_text_L34 (x1 : Int32) (x2 : Int32) (k59 : Mem → Option (Mem × Int32)) : Nat → Mem → Int32 → Option (Mem × Int32)
  | 0, _, _ => none
  | n + 1, σ, x3 => (if (60 : Int32) ≤ x3 then k59 σ else (ck (((60 : Int32) * x1) + x3) 240 <| X8_text_L34 x1 x2 k59 n ((uI σ 809 0 (((60 : Int32) * x1) + x3).toNatClampNeg (32 : Int32))) ((x3 + (1 : Int32)))))
def X8_text (σ : Mem) (a1 : Int32) (a2 : Int32) : Option (Mem × Int32) := ((X8_isText σ a1).bind fun q1 => if q1.2 = 0 then (some (q1.1, (-1 : Int32))) else (if a2 ≤ (60 : Int32) then (if 0 ≤ a2 then (ck a1 4 <| X8_text_L34 a1 a2 (fun (s4 : Mem) => (some (s4, a2))) FU ((uI q1.1 808 0 a1.toNatClampNeg a2)) (0 : Int32)) else ((X8_meet q1.1 (5 : Int32)).bind fun q5 => some (q5.1, q5.2))) else (some (q1.1, (-1 : Int32)))))
set_option maxRecDepth 100000 in
set_option maxHeartbeats 4000000 in
theorem t_X8_text_L34 (X : GX) (x1 : Int32) (x2 : Int32) (k59 : Mem → Option (Mem × Int32)) (hk59 : ∀ (σ : Mem), GS (KM enI X) X mX8_text σ 59 [(2, .int x2)] [] (k59 σ)) : ∀ (n : Nat) (σ : Mem) (x3 : Int32), GS (KM enI X) X mX8_text σ 34 [(0, .ref (xad X (98))), (1, .int x1), (2, .int x2), (3, .int x3)] [] (X8_text_L34 x1 x2 k59 n σ x3) := by
  intro n
  induction n with
  | zero => intros; exact g_none
  | succ n ih =>
    intro σ x3
    rw [X8_text_L34]
    refine g_iload_n 3 dX8_text_34 rfl ?_
    refine g_bipush (60 : Int32) dX8_text_35 (by decide) ?_
    refine g_icmp_ge 59 dX8_text_37 rfl (fun _ => ?_) (fun _ => ?_)
    · refine g_sub [2] rfl ?_
      exact hk59 σ
    · refine g_aload_n 0 dX8_text_40 rfl ?_
      refine gf_X8_9 fl_X8_29 dX8_text_41 ?_
      refine g_bipush (60 : Int32) dX8_text_44 (by decide) ?_
      refine g_iload_n 1 dX8_text_46 rfl ?_
      refine g_imul dX8_text_47 ?_
      refine g_iload_n 3 dX8_text_48 rfl ?_
      refine g_iadd dX8_text_49 ?_
      refine g_bipush (32 : Int32) dX8_text_50 (by decide) ?_
      refine g_iast sh_104 no_104 dX8_text_52 (fun _ => ?_)
      refine g_iinc 3 [(3, .int ((x3 + (1 : Int32)))), (0, .ref (xad X (98))), (1, .int x1), (2, .int x2)] dX8_text_53 rfl (v := x3 + (1 : Int32)) rfl (by decide) rfl ?_
      refine g_goto 34 dX8_text_56 rfl ?_
      refine g_sub [1, 2, 3, 0] rfl ?_
      exact ih ((uI σ 809 0 (((60 : Int32) * x1) + x3).toNatClampNeg (32 : Int32))) ((x3 + (1 : Int32)))

set_option maxRecDepth 100000 in
set_option maxHeartbeats 4000000 in
theorem c_X8_text (σ : Mem) (a1 : Int32) (a2 : Int32) : CT yX8_text mX8_text enI (fun ad => [.ref (ad (98)), .int a1, .int a2]) σ (X8_text σ a1 a2) := by
  refine CT.of (by decide) rfl (fun _ => Nat.le_of_ble_eq_true rfl) (fun X => ?_)
  show GS (KM enI X) X mX8_text σ 0 [(0, .ref (xad X (98))), (1, .int a1), (2, .int a2)] [] _
  unfold X8_text
  refine g_iload_n 1 dX8_text_0 rfl ?_
  refine g_callSI (c_X8_isText σ a1) okX8_isText ⟨by decide, by decide⟩ ml_X8_95 rfl rfl (Nat.le_of_ble_eq_true rfl) dX8_text_1 (fun q1 => ?_)
  refine g_if_eq 13 dX8_text_4 rfl (fun _ => ?_) (fun _ => ?_)
  · refine g_iconst (-1 : Int32) dX8_text_13 (by decide) ?_
    exact g_iret rfl dX8_text_14
  · refine g_iload_n 2 dX8_text_7 rfl ?_
    refine g_bipush (60 : Int32) dX8_text_8 (by decide) ?_
    refine g_icmp_le 15 dX8_text_10 rfl (fun _ => ?_) (fun _ => ?_)
    · refine g_iload_n 2 dX8_text_15 rfl ?_
      refine g_if_ge 25 dX8_text_16 rfl (fun _ => ?_) (fun _ => ?_)
      · refine g_aload_n 0 dX8_text_25 rfl ?_
        refine gf_X8_8 fl_X8_26 dX8_text_26 ?_
        refine g_iload_n 1 dX8_text_29 rfl ?_
        refine g_iload_n 2 dX8_text_30 rfl ?_
        refine g_iast sh_103 no_103 dX8_text_31 (fun _ => ?_)
        refine g_iconst (0 : Int32) dX8_text_32 (by decide) ?_
        refine g_istore_n [(3, .int ((0 : Int32))), (0, .ref (xad X (98))), (1, .int a1), (2, .int a2)] dX8_text_33 (by decide) rfl ?_
        refine g_sub [1, 2, 3, 0] rfl ?_
        refine t_X8_text_L34 X a1 a2 _ (fun s4 => ?_) FU ((uI q1.1 808 0 a1.toNatClampNeg a2)) (0 : Int32)
        refine g_iload_n 0 dX8_text_59 rfl ?_
        exact g_iret rfl dX8_text_60
      · refine g_aload_n 0 dX8_text_19 rfl ?_
        refine g_iconst (5 : Int32) dX8_text_20 (by decide) ?_
        refine g_callVI (c_X8_meet q1.1 (5 : Int32)) okX8_meet ⟨by decide, by decide⟩ ml_X8_91 sh_98 no_98 rfl rfl [.int ((5 : Int32))] rfl rfl rfl (Nat.le_of_ble_eq_true rfl) dX8_text_21 (fun q5 => ?_)
        exact g_iret rfl dX8_text_24
    · refine g_iconst (-1 : Int32) dX8_text_13 (by decide) ?_
      exact g_iret rfl dX8_text_14

def X8_put (σ : Mem) (a1 : Int32) (a2 : Int32) (a3 : Int32) : Option (Mem × Int32) := ((X8_askedText σ a1).bind fun q1 => if 0 ≤ q1.2 then (ck a1 4 <| (X8_in q1.1 a2 (0 : Int32) (((q1.1.1 808 0 a1.toNatClampNeg) - (1 : Int32)))).bind fun q2 => if q2.2 = 0 then ((X8_meet q2.1 (2 : Int32)).bind fun q4 => some (q4.1, q4.2)) else (ck (((60 : Int32) * a1) + a2) 240 <| lt_ ((q2.1.1 809 0 (((60 : Int32) * a1) + a2).toNatClampNeg)) fun (v3 : Int32) => ck (((60 : Int32) * a1) + a2) 240 <| some ((uI q2.1 809 0 (((60 : Int32) * a1) + a2).toNatClampNeg a3.toInt8.toInt32), (v3 + (1000 : Int32))))) else (some (q1.1, q1.2)))
set_option maxRecDepth 100000 in
set_option maxHeartbeats 4000000 in
theorem c_X8_put (σ : Mem) (a1 : Int32) (a2 : Int32) (a3 : Int32) : CT yX8_put mX8_put enI (fun ad => [.ref (ad (98)), .int a1, .int a2, .int a3]) σ (X8_put σ a1 a2 a3) := by
  refine CT.of (by decide) rfl (fun _ => Nat.le_of_ble_eq_true rfl) (fun X => ?_)
  show GS (KM enI X) X mX8_put σ 0 [(0, .ref (xad X (98))), (1, .int a1), (2, .int a2), (3, .int a3)] [] _
  unfold X8_put
  refine g_aload_n 0 dX8_put_0 rfl ?_
  refine g_iload_n 1 dX8_put_1 rfl ?_
  refine g_callVI (c_X8_askedText σ a1) okX8_askedText ⟨by decide, by decide⟩ ml_X8_115 sh_98 no_98 rfl rfl [.int a1] rfl rfl rfl (Nat.le_of_ble_eq_true rfl) dX8_put_2 (fun q1 => ?_)
  refine g_istore [(4, .int (q1.2)), (0, .ref (xad X (98))), (1, .int a1), (2, .int a2), (3, .int a3)] dX8_put_5 (by decide) rfl ?_
  refine g_iload 0 dX8_put_7 rfl ?_
  refine g_if_ge 15 dX8_put_9 rfl (fun _ => ?_) (fun _ => ?_)
  · refine g_iload_n 3 dX8_put_15 rfl ?_
    refine g_iconst (0 : Int32) dX8_put_16 (by decide) ?_
    refine g_aload_n 1 dX8_put_17 rfl ?_
    refine gf_X8_8 fl_X8_26 dX8_put_18 ?_
    refine g_iload_n 2 dX8_put_21 rfl ?_
    refine g_iald sh_103 no_103 dX8_put_22 (fun _ => ?_)
    refine g_iconst (1 : Int32) dX8_put_23 (by decide) ?_
    refine g_isub dX8_put_24 ?_
    refine g_callSI (c_X8_in q1.1 a2 (0 : Int32) (((q1.1.1 808 0 a1.toNatClampNeg) - (1 : Int32)))) okX8_in ⟨by decide, by decide⟩ ml_X8_83 rfl rfl (Nat.le_of_ble_eq_true rfl) dX8_put_25 (fun q2 => ?_)
    refine g_if_ne 37 dX8_put_28 rfl (fun _ => ?_) (fun _ => ?_)
    · refine g_aload_n 1 dX8_put_37 rfl ?_
      refine gf_X8_9 fl_X8_29 dX8_put_38 ?_
      refine g_bipush (60 : Int32) dX8_put_41 (by decide) ?_
      refine g_iload_n 2 dX8_put_43 rfl ?_
      refine g_imul dX8_put_44 ?_
      refine g_iload_n 3 dX8_put_45 rfl ?_
      refine g_iadd dX8_put_46 ?_
      refine g_iald sh_104 no_104 dX8_put_47 (fun _ => ?_)
      refine g_topi (fun v3 => ?_)
      refine g_istore [(5, .int v3), (4, .int (q1.2)), (0, .ref (xad X (98))), (1, .int a1), (2, .int a2), (3, .int a3)] dX8_put_48 (by decide) rfl ?_
      refine g_aload_n 2 dX8_put_50 rfl ?_
      refine gf_X8_9 fl_X8_29 dX8_put_51 ?_
      refine g_bipush (60 : Int32) dX8_put_54 (by decide) ?_
      refine g_iload_n 3 dX8_put_56 rfl ?_
      refine g_imul dX8_put_57 ?_
      refine g_iload_n 4 dX8_put_58 rfl ?_
      refine g_iadd dX8_put_59 ?_
      refine g_iload_n 5 dX8_put_60 rfl ?_
      refine g_i2b dX8_put_61 ?_
      refine g_iast sh_104 no_104 dX8_put_62 (fun _ => ?_)
      refine g_iload 0 dX8_put_63 rfl ?_
      refine g_sipush (1000 : Int32) dX8_put_65 (by decide) ?_
      refine g_iadd dX8_put_68 ?_
      exact g_iret rfl dX8_put_69
    · refine g_aload_n 1 dX8_put_31 rfl ?_
      refine g_iconst (2 : Int32) dX8_put_32 (by decide) ?_
      refine g_callVI (c_X8_meet q2.1 (2 : Int32)) okX8_meet ⟨by decide, by decide⟩ ml_X8_91 sh_98 no_98 rfl rfl [.int ((2 : Int32))] rfl rfl rfl (Nat.le_of_ble_eq_true rfl) dX8_put_33 (fun q4 => ?_)
      exact g_iret rfl dX8_put_36
  · refine g_iload 0 dX8_put_12 rfl ?_
    exact g_iret rfl dX8_put_14

def X8_here (σ : Mem) (a1 : Int32) : Option (Mem × Int32) := (ck a1 4 <| if (σ.1 808 0 a1.toNatClampNeg) ≤ (σ.1 812 0 0) then (some (σ, (-9 : Int32))) else (ck (((60 : Int32) * a1) + (σ.1 812 0 0)) 240 <| (some (σ, (σ.1 809 0 (((60 : Int32) * a1) + (σ.1 812 0 0)).toNatClampNeg)))))
set_option maxRecDepth 100000 in
set_option maxHeartbeats 4000000 in
theorem c_X8_here (σ : Mem) (a1 : Int32) : CT yX8_here mX8_here enI (fun ad => [.ref (ad (98)), .int a1]) σ (X8_here σ a1) := by
  refine CT.of (by decide) rfl (fun _ => Nat.le_of_ble_eq_true rfl) (fun X => ?_)
  show GS (KM enI X) X mX8_here σ 0 [(0, .ref (xad X (98))), (1, .int a1)] [] _
  unfold X8_here
  refine g_aload_n 0 dX8_here_0 rfl ?_
  refine gf_X8_12 fl_X8_118 dX8_here_1 ?_
  refine g_aload_n 0 dX8_here_4 rfl ?_
  refine gf_X8_8 fl_X8_26 dX8_here_5 ?_
  refine g_iload_n 1 dX8_here_8 rfl ?_
  refine g_iald sh_103 no_103 dX8_here_9 (fun _ => ?_)
  refine g_icmp_ge 30 dX8_here_10 rfl (fun _ => ?_) (fun _ => ?_)
  · refine g_bipush (-9 : Int32) dX8_here_30 (by decide) ?_
    exact g_iret rfl dX8_here_32
  · refine g_aload_n 0 dX8_here_13 rfl ?_
    refine gf_X8_9 fl_X8_29 dX8_here_14 ?_
    refine g_bipush (60 : Int32) dX8_here_17 (by decide) ?_
    refine g_iload_n 1 dX8_here_19 rfl ?_
    refine g_imul dX8_here_20 ?_
    refine g_aload_n 0 dX8_here_21 rfl ?_
    refine gf_X8_12 fl_X8_118 dX8_here_22 ?_
    refine g_iadd dX8_here_25 ?_
    refine g_iald sh_104 no_104 dX8_here_26 (fun _ => ?_)
    refine g_goto 32 dX8_here_27 rfl ?_
    exact g_iret rfl dX8_here_32

def X8_kindBy (σ : Mem) (a0 : Int32) : Option (Mem × Int32) := (if a0 = (108 : Int32) then ((some (σ, (0 : Int32)))) else (if a0 = (98 : Int32) then ((some (σ, (1 : Int32)))) else (if a0 = (100 : Int32) then ((some (σ, (2 : Int32)))) else (if a0 = (115 : Int32) then ((some (σ, (3 : Int32)))) else (if a0 = (117 : Int32) then ((some (σ, (4 : Int32)))) else (if a0 = (105 : Int32) then ((some (σ, (5 : Int32)))) else (some (σ, (-9 : Int32)))))))))
set_option maxRecDepth 100000 in
set_option maxHeartbeats 4000000 in
theorem c_X8_kindBy (σ : Mem) (a0 : Int32) : CT yX8_kindBy mX8_kindBy enI (fun ad => [.int a0]) σ (X8_kindBy σ a0) := by
  refine CT.of (by decide) rfl (fun _ => Nat.le_of_ble_eq_true rfl) (fun X => ?_)
  show GS (KM enI X) X mX8_kindBy σ 0 [(0, .int a0)] [] _
  unfold X8_kindBy
  refine g_iload_n 0 dX8_kindBy_0 rfl ?_
  refine g_bipush (108 : Int32) dX8_kindBy_1 (by decide) ?_
  refine g_icmp_ne 10 dX8_kindBy_3 rfl (fun _ => ?_) (fun _ => ?_)
  · refine g_iload_n 0 dX8_kindBy_10 rfl ?_
    refine g_bipush (98 : Int32) dX8_kindBy_11 (by decide) ?_
    refine g_icmp_ne 20 dX8_kindBy_13 rfl (fun _ => ?_) (fun _ => ?_)
    · refine g_iload_n 0 dX8_kindBy_20 rfl ?_
      refine g_bipush (100 : Int32) dX8_kindBy_21 (by decide) ?_
      refine g_icmp_ne 30 dX8_kindBy_23 rfl (fun _ => ?_) (fun _ => ?_)
      · refine g_iload_n 0 dX8_kindBy_30 rfl ?_
        refine g_bipush (115 : Int32) dX8_kindBy_31 (by decide) ?_
        refine g_icmp_ne 40 dX8_kindBy_33 rfl (fun _ => ?_) (fun _ => ?_)
        · refine g_iload_n 0 dX8_kindBy_40 rfl ?_
          refine g_bipush (117 : Int32) dX8_kindBy_41 (by decide) ?_
          refine g_icmp_ne 50 dX8_kindBy_43 rfl (fun _ => ?_) (fun _ => ?_)
          · refine g_iload_n 0 dX8_kindBy_50 rfl ?_
            refine g_bipush (105 : Int32) dX8_kindBy_51 (by decide) ?_
            refine g_icmp_ne 60 dX8_kindBy_53 rfl (fun _ => ?_) (fun _ => ?_)
            · refine g_bipush (-9 : Int32) dX8_kindBy_60 (by decide) ?_
              exact g_iret rfl dX8_kindBy_62
            · refine g_iconst (5 : Int32) dX8_kindBy_56 (by decide) ?_
              refine g_goto 62 dX8_kindBy_57 rfl ?_
              exact g_iret rfl dX8_kindBy_62
          · refine g_iconst (4 : Int32) dX8_kindBy_46 (by decide) ?_
            refine g_goto 62 dX8_kindBy_47 rfl ?_
            exact g_iret rfl dX8_kindBy_62
        · refine g_iconst (3 : Int32) dX8_kindBy_36 (by decide) ?_
          refine g_goto 62 dX8_kindBy_37 rfl ?_
          exact g_iret rfl dX8_kindBy_62
      · refine g_iconst (2 : Int32) dX8_kindBy_26 (by decide) ?_
        refine g_goto 62 dX8_kindBy_27 rfl ?_
        exact g_iret rfl dX8_kindBy_62
    · refine g_iconst (1 : Int32) dX8_kindBy_16 (by decide) ?_
      refine g_goto 62 dX8_kindBy_17 rfl ?_
      exact g_iret rfl dX8_kindBy_62
  · refine g_iconst (0 : Int32) dX8_kindBy_6 (by decide) ?_
    refine g_goto 62 dX8_kindBy_7 rfl ?_
    exact g_iret rfl dX8_kindBy_62

def X8_hasZ (σ : Mem) (a0 : Int32) : Option (Mem × Int32) := (if a0 = (3 : Int32) then ((if (1 : Int32) = 0 ∨ (1 : Int32) = 1 then some (σ, (1 : Int32)) else none)) else (if a0 = (4 : Int32) then ((if (1 : Int32) = 0 ∨ (1 : Int32) = 1 then some (σ, (1 : Int32)) else none)) else (if (0 : Int32) = 0 ∨ (0 : Int32) = 1 then some (σ, (0 : Int32)) else none)))
set_option maxRecDepth 100000 in
set_option maxHeartbeats 4000000 in
theorem c_X8_hasZ (σ : Mem) (a0 : Int32) : CT yX8_hasZ mX8_hasZ enI (fun ad => [.int a0]) σ (X8_hasZ σ a0) := by
  refine CT.of (by decide) rfl (fun _ => Nat.le_of_ble_eq_true rfl) (fun X => ?_)
  show GS (KM enI X) X mX8_hasZ σ 0 [(0, .int a0)] [] _
  unfold X8_hasZ
  refine g_iload_n 0 dX8_hasZ_0 rfl ?_
  refine g_iconst (3 : Int32) dX8_hasZ_1 (by decide) ?_
  refine g_icmp_eq 10 dX8_hasZ_2 rfl (fun _ => ?_) (fun _ => ?_)
  · refine g_iconst (1 : Int32) dX8_hasZ_10 (by decide) ?_
    refine g_goto 15 dX8_hasZ_11 rfl ?_
    exact g_zret rfl dX8_hasZ_15
  · refine g_iload_n 0 dX8_hasZ_5 rfl ?_
    refine g_iconst (4 : Int32) dX8_hasZ_6 (by decide) ?_
    refine g_icmp_ne 14 dX8_hasZ_7 rfl (fun _ => ?_) (fun _ => ?_)
    · refine g_iconst (0 : Int32) dX8_hasZ_14 (by decide) ?_
      exact g_zret rfl dX8_hasZ_15
    · refine g_iconst (1 : Int32) dX8_hasZ_10 (by decide) ?_
      refine g_goto 15 dX8_hasZ_11 rfl ?_
      exact g_zret rfl dX8_hasZ_15

