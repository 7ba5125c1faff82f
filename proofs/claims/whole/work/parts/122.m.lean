def X8_believed_L72 (x2 : Int32) (x3 : Int32) (x5 : Int32) (k101 : Mem → Option (Mem × Int32)) : Nat → Mem → Int32 → Option (Mem × Int32)
  | 0, _, _ => none
  | n + 1, σ, x6 => (if (σ.1 816 0 0) ≤ x6 then k101 σ else (ck x6 8 <| ck x6 16 <| X8_believed_L72 x2 x3 x5 k101 n ((uI σ 822 0 x6.toNatClampNeg (σ.1 815 0 x6.toNatClampNeg))) ((x6 + (1 : Int32)))))
def X8_believed_L45 (x2 : Int32) (x3 : Int32) (k107 : Mem → Option (Mem × Int32)) : Nat → Mem → Int32 → Option (Mem × Int32)
  | 0, _, _ => none
  | n + 1, σ, x5 => (if x2 ≤ x5 then k107 σ else ((X8_findsFirst σ).bind fun q3 => if q3.2 = 0 then (some (q3.1, (-9 : Int32))) else (X8_believed_L72 x2 x3 x5 (fun (s6 : Mem) => (X8_believed_L45 x2 x3 k107 n s6 ((x5 + (1 : Int32))))) FU ((uI q3.1 823 0 0 ((q3.1.1 816 0 0)))) (0 : Int32))))
def X8_believed_L120 (x3 : Int32) (k149 : Mem → Option (Mem × Int32)) : Nat → Mem → Int32 → Option (Mem × Int32)
  | 0, _, _ => none
  | n + 1, σ, x5 => (if (σ.1 823 0 0) ≤ x5 then k149 σ else (ck x5 16 <| (X8_setRow σ x3 x5 ((σ.1 822 0 x5.toNatClampNeg))).bind fun q11 => X8_believed_L120 x3 k149 n q11.1 ((x5 + (1 : Int32)))))
def X8_believed (σ : Mem) (a1 : Int32) (a2 : Int32) (a3 : Int32) : Option (Mem × Int32) := ((X8_in σ a2 (0 : Int32) (3 : Int32)).bind fun q1 => if q1.2 = 0 then ((if 0 ≤ (-1 : Int32) then ((X8_layGoal q1.1 a1).bind fun q2 => X8_believed_L45 a2 a3 (fun (s9 : Mem) => ((X8_row s9 a3 ((s9.1 823 0 0))).bind fun q10 => X8_believed_L120 a3 (fun (s14 : Mem) => (some (s14, (s14.1 823 0 0)))) FU q10.1 (0 : Int32))) FU q2.1 (0 : Int32)) else (some (q1.1, (-1 : Int32))))) else ((X8_isRow q1.1 a3).bind fun q15 => if q15.2 = 0 then ((if 0 ≤ (-1 : Int32) then ((X8_layGoal q15.1 a1).bind fun q23 => X8_believed_L45 a2 a3 (fun (s25 : Mem) => ((X8_row s25 a3 ((s25.1 823 0 0))).bind fun q26 => X8_believed_L120 a3 (fun (s28 : Mem) => (some (s28, (s28.1 823 0 0)))) FU q26.1 (0 : Int32))) FU q23.1 (0 : Int32)) else (some (q15.1, (-1 : Int32))))) else ((X8_askedSigns q15.1 a1 (16 : Int32)).bind fun q16 => if 0 ≤ q16.2 then ((X8_layGoal q16.1 a1).bind fun q17 => X8_believed_L45 a2 a3 (fun (s19 : Mem) => ((X8_row s19 a3 ((s19.1 823 0 0))).bind fun q20 => X8_believed_L120 a3 (fun (s22 : Mem) => (some (s22, (s22.1 823 0 0)))) FU q20.1 (0 : Int32))) FU q17.1 (0 : Int32)) else (some (q16.1, q16.2)))))
set_option maxRecDepth 100000 in
set_option maxHeartbeats 4000000 in
theorem t_X8_believed_L72 (X : GX) (x2 : Int32) (x3 : Int32) (x5 : Int32) (k101 : Mem → Option (Mem × Int32)) (hk101 : ∀ (σ : Mem), GS (KM enI X) X mX8_believed σ 101 [(0, .ref (xad X (98))), (2, .int x2), (3, .int x3), (5, .int x5)] [] (k101 σ)) : ∀ (n : Nat) (σ : Mem) (x6 : Int32), GS (KM enI X) X mX8_believed σ 72 [(0, .ref (xad X (98))), (2, .int x2), (3, .int x3), (5, .int x5), (6, .int x6)] [] (X8_believed_L72 x2 x3 x5 k101 n σ x6) := by
  intro n
  induction n with
  | zero => intros; exact g_none
  | succ n ih =>
    intro σ x6
    rw [X8_believed_L72]
    refine g_iload 4 dX8_believed_72 rfl ?_
    refine g_aload_n 0 dX8_believed_74 rfl ?_
    refine gf_X8_16 fl_X8_151 dX8_believed_75 ?_
    refine g_icmp_ge 101 dX8_believed_78 rfl (fun _ => ?_) (fun _ => ?_)
    · refine g_sub [0, 1, 2, 3] rfl ?_
      exact hk101 σ
    · refine g_aload_n 0 dX8_believed_81 rfl ?_
      refine gf_X8_22 fl_X8_53 dX8_believed_82 ?_
      refine g_iload 4 dX8_believed_85 rfl ?_
      refine g_aload_n 0 dX8_believed_87 rfl ?_
      refine gf_X8_15 fl_X8_38 dX8_believed_88 ?_
      refine g_iload 4 dX8_believed_91 rfl ?_
      refine g_iald sh_107 no_107 dX8_believed_93 (fun _ => ?_)
      refine g_iast sh_112 no_112 dX8_believed_94 (fun _ => ?_)
      refine g_iinc 4 [(6, .int ((x6 + (1 : Int32)))), (0, .ref (xad X (98))), (2, .int x2), (3, .int x3), (5, .int x5)] dX8_believed_95 rfl (v := x6 + (1 : Int32)) rfl (by decide) rfl ?_
      refine g_goto 72 dX8_believed_98 rfl ?_
      refine g_sub [1, 2, 3, 4, 0] rfl ?_
      exact ih ((uI σ 822 0 x6.toNatClampNeg (σ.1 815 0 x6.toNatClampNeg))) ((x6 + (1 : Int32)))

set_option maxRecDepth 100000 in
set_option maxHeartbeats 4000000 in
theorem t_X8_believed_L45 (X : GX) (x2 : Int32) (x3 : Int32) (k107 : Mem → Option (Mem × Int32)) (hk107 : ∀ (σ : Mem), GS (KM enI X) X mX8_believed σ 107 [(0, .ref (xad X (98))), (3, .int x3)] [] (k107 σ)) : ∀ (n : Nat) (σ : Mem) (x5 : Int32), GS (KM enI X) X mX8_believed σ 45 [(0, .ref (xad X (98))), (2, .int x2), (3, .int x3), (5, .int x5)] [] (X8_believed_L45 x2 x3 k107 n σ x5) := by
  intro n
  induction n with
  | zero => intros; exact g_none
  | succ n ih =>
    intro σ x5
    rw [X8_believed_L45]
    refine g_iload 3 dX8_believed_45 rfl ?_
    refine g_iload_n 1 dX8_believed_47 rfl ?_
    refine g_icmp_ge 107 dX8_believed_48 rfl (fun _ => ?_) (fun _ => ?_)
    · refine g_sub [0, 2] rfl ?_
      exact hk107 σ
    · refine g_aload_n 0 dX8_believed_51 rfl ?_
      refine g_callVI (c_X8_findsFirst σ) okX8_findsFirst ⟨by decide, by decide⟩ ml_X8_241 sh_98 no_98 rfl rfl [] rfl rfl rfl (Nat.le_of_ble_eq_true rfl) dX8_believed_52 (fun q3 => ?_)
      refine g_if_ne 61 dX8_believed_55 rfl (fun _ => ?_) (fun _ => ?_)
      · refine g_aload_n 0 dX8_believed_61 rfl ?_
        refine g_aload_n 0 dX8_believed_62 rfl ?_
        refine gf_X8_16 fl_X8_151 dX8_believed_63 ?_
        refine pf_X8_23 fl_X8_232 dX8_believed_66 ?_
        refine g_iconst (0 : Int32) dX8_believed_69 (by decide) ?_
        refine g_istore [(6, .int ((0 : Int32))), (0, .ref (xad X (98))), (2, .int x2), (3, .int x3), (5, .int x5)] dX8_believed_70 (by decide) rfl ?_
        refine g_sub [1, 2, 3, 4, 0] rfl ?_
        refine t_X8_believed_L72 X x2 x3 x5 _ (fun s6 => ?_) FU ((uI q3.1 823 0 0 ((q3.1.1 816 0 0)))) (0 : Int32)
        refine g_iinc 3 [(5, .int ((x5 + (1 : Int32)))), (0, .ref (xad X (98))), (2, .int x2), (3, .int x3)] dX8_believed_101 rfl (v := x5 + (1 : Int32)) rfl (by decide) rfl ?_
        refine g_goto 45 dX8_believed_104 rfl ?_
        refine g_sub [1, 2, 3, 0] rfl ?_
        exact ih s6 ((x5 + (1 : Int32)))
      · refine g_bipush (-9 : Int32) dX8_believed_58 (by decide) ?_
        exact g_iret rfl dX8_believed_60

set_option maxRecDepth 100000 in
set_option maxHeartbeats 4000000 in
theorem t_X8_believed_L120 (X : GX) (x3 : Int32) (k149 : Mem → Option (Mem × Int32)) (hk149 : ∀ (σ : Mem), GS (KM enI X) X mX8_believed σ 149 [(0, .ref (xad X (98)))] [] (k149 σ)) : ∀ (n : Nat) (σ : Mem) (x5 : Int32), GS (KM enI X) X mX8_believed σ 120 [(0, .ref (xad X (98))), (3, .int x3), (5, .int x5)] [] (X8_believed_L120 x3 k149 n σ x5) := by
  intro n
  induction n with
  | zero => intros; exact g_none
  | succ n ih =>
    intro σ x5
    rw [X8_believed_L120]
    refine g_iload 2 dX8_believed_120 rfl ?_
    refine g_aload_n 0 dX8_believed_122 rfl ?_
    refine gf_X8_23 fl_X8_232 dX8_believed_123 ?_
    refine g_icmp_ge 149 dX8_believed_126 rfl (fun _ => ?_) (fun _ => ?_)
    · refine g_sub [0] rfl ?_
      exact hk149 σ
    · refine g_aload_n 0 dX8_believed_129 rfl ?_
      refine g_iload_n 1 dX8_believed_130 rfl ?_
      refine g_iload 2 dX8_believed_131 rfl ?_
      refine g_aload_n 0 dX8_believed_133 rfl ?_
      refine gf_X8_22 fl_X8_53 dX8_believed_134 ?_
      refine g_iload 2 dX8_believed_137 rfl ?_
      refine g_iald sh_112 no_112 dX8_believed_139 (fun _ => ?_)
      refine g_callVV (c_X8_setRow σ x3 x5 ((σ.1 822 0 x5.toNatClampNeg))) okX8_setRow ⟨by decide, by decide⟩ ml_X8_98 sh_98 no_98 rfl rfl [.int x3, .int x5, .int ((σ.1 822 0 x5.toNatClampNeg))] rfl rfl rfl (Nat.le_of_ble_eq_true rfl) dX8_believed_140 (fun q11 => ?_)
      refine g_iinc 2 [(5, .int ((x5 + (1 : Int32)))), (0, .ref (xad X (98))), (3, .int x3)] dX8_believed_143 rfl (v := x5 + (1 : Int32)) rfl (by decide) rfl ?_
      refine g_goto 120 dX8_believed_146 rfl ?_
      refine g_sub [1, 2, 0] rfl ?_
      exact ih q11.1 ((x5 + (1 : Int32)))

set_option maxRecDepth 100000 in
set_option maxHeartbeats 4000000 in
theorem c_X8_believed (σ : Mem) (a1 : Int32) (a2 : Int32) (a3 : Int32) : CT yX8_believed mX8_believed enI (fun ad => [.ref (ad (98)), .int a1, .int a2, .int a3]) σ (X8_believed σ a1 a2 a3) := by
  refine CT.of (by decide) rfl (fun _ => Nat.le_of_ble_eq_true rfl) (fun X => ?_)
  show GS (KM enI X) X mX8_believed σ 0 [(0, .ref (xad X (98))), (1, .int a1), (2, .int a2), (3, .int a3)] [] _
  unfold X8_believed
  refine g_iload_n 2 dX8_believed_0 rfl ?_
  refine g_iconst (0 : Int32) dX8_believed_1 (by decide) ?_
  refine g_iconst (3 : Int32) dX8_believed_2 (by decide) ?_
  refine g_callSI (c_X8_in σ a2 (0 : Int32) (3 : Int32)) okX8_in ⟨by decide, by decide⟩ ml_X8_83 rfl rfl (Nat.le_of_ble_eq_true rfl) dX8_believed_3 (fun q1 => ?_)
  refine g_if_eq 16 dX8_believed_6 rfl (fun _ => ?_) (fun _ => ?_)
  · refine g_iconst (-1 : Int32) dX8_believed_16 (by decide) ?_
    refine g_goto 27 dX8_believed_17 rfl ?_
    refine g_istore [(4, .int ((-1 : Int32))), (0, .ref (xad X (98))), (1, .int a1), (2, .int a2), (3, .int a3)] dX8_believed_27 (by decide) rfl ?_
    refine g_iload 0 dX8_believed_29 rfl ?_
    refine g_if_ge 37 dX8_believed_31 rfl (fun _ => ?_) (fun _ => ?_)
    · refine g_aload_n 1 dX8_believed_37 rfl ?_
      refine g_iload_n 2 dX8_believed_38 rfl ?_
      refine g_callVV (c_X8_layGoal q1.1 a1) okX8_layGoal ⟨by decide, by decide⟩ ml_X8_238 sh_98 no_98 rfl rfl [.int a1] rfl rfl rfl (Nat.le_of_ble_eq_true rfl) dX8_believed_39 (fun q2 => ?_)
      refine g_iconst (0 : Int32) dX8_believed_42 (by decide) ?_
      refine g_istore [(5, .int ((0 : Int32))), (4, .int ((-1 : Int32))), (0, .ref (xad X (98))), (1, .int a1), (2, .int a2), (3, .int a3)] dX8_believed_43 (by decide) rfl ?_
      refine g_sub [2, 4, 5, 0] rfl ?_
      refine t_X8_believed_L45 X a2 a3 _ (fun s9 => ?_) FU q2.1 (0 : Int32)
      refine g_aload_n 0 dX8_believed_107 rfl ?_
      refine g_iload_n 1 dX8_believed_108 rfl ?_
      refine g_aload_n 0 dX8_believed_109 rfl ?_
      refine gf_X8_23 fl_X8_232 dX8_believed_110 ?_
      refine g_callVI (c_X8_row s9 a3 ((s9.1 823 0 0))) okX8_row ⟨by decide, by decide⟩ ml_X8_171 sh_98 no_98 rfl rfl [.int a3, .int ((s9.1 823 0 0))] rfl rfl rfl (Nat.le_of_ble_eq_true rfl) dX8_believed_113 (fun q10 => ?_)
      refine g_pop dX8_believed_116 rfl ?_
      refine g_iconst (0 : Int32) dX8_believed_117 (by decide) ?_
      refine g_istore [(5, .int ((0 : Int32))), (0, .ref (xad X (98))), (3, .int a3)] dX8_believed_118 (by decide) rfl ?_
      refine g_sub [1, 2, 0] rfl ?_
      refine t_X8_believed_L120 X a3 _ (fun s14 => ?_) FU q10.1 (0 : Int32)
      refine g_aload_n 0 dX8_believed_149 rfl ?_
      refine gf_X8_23 fl_X8_232 dX8_believed_150 ?_
      exact g_iret rfl dX8_believed_153
    · refine g_iload 0 dX8_believed_34 rfl ?_
      exact g_iret rfl dX8_believed_36
  · refine g_iload_n 3 dX8_believed_9 rfl ?_
    refine g_callSI (c_X8_isRow q1.1 a3) okX8_isRow ⟨by decide, by decide⟩ ml_X8_87 rfl rfl (Nat.le_of_ble_eq_true rfl) dX8_believed_10 (fun q15 => ?_)
    refine g_if_ne 20 dX8_believed_13 rfl (fun _ => ?_) (fun _ => ?_)
    · refine g_aload_n 0 dX8_believed_20 rfl ?_
      refine g_iload_n 1 dX8_believed_21 rfl ?_
      refine g_bipush (16 : Int32) dX8_believed_22 (by decide) ?_
      refine g_callVI (c_X8_askedSigns q15.1 a1 (16 : Int32)) okX8_askedSigns ⟨by decide, by decide⟩ ml_X8_201 sh_98 no_98 rfl rfl [.int a1, .int ((16 : Int32))] rfl rfl rfl (Nat.le_of_ble_eq_true rfl) dX8_believed_24 (fun q16 => ?_)
      refine g_istore [(4, .int (q16.2)), (0, .ref (xad X (98))), (1, .int a1), (2, .int a2), (3, .int a3)] dX8_believed_27 (by decide) rfl ?_
      refine g_iload 0 dX8_believed_29 rfl ?_
      refine g_if_ge 37 dX8_believed_31 rfl (fun _ => ?_) (fun _ => ?_)
      · refine g_aload_n 1 dX8_believed_37 rfl ?_
        refine g_iload_n 2 dX8_believed_38 rfl ?_
        refine g_callVV (c_X8_layGoal q16.1 a1) okX8_layGoal ⟨by decide, by decide⟩ ml_X8_238 sh_98 no_98 rfl rfl [.int a1] rfl rfl rfl (Nat.le_of_ble_eq_true rfl) dX8_believed_39 (fun q17 => ?_)
        refine g_iconst (0 : Int32) dX8_believed_42 (by decide) ?_
        refine g_istore [(5, .int ((0 : Int32))), (4, .int (q16.2)), (0, .ref (xad X (98))), (1, .int a1), (2, .int a2), (3, .int a3)] dX8_believed_43 (by decide) rfl ?_
        refine g_sub [2, 4, 5, 0] rfl ?_
        refine t_X8_believed_L45 X a2 a3 _ (fun s19 => ?_) FU q17.1 (0 : Int32)
        refine g_aload_n 0 dX8_believed_107 rfl ?_
        refine g_iload_n 1 dX8_believed_108 rfl ?_
        refine g_aload_n 0 dX8_believed_109 rfl ?_
        refine gf_X8_23 fl_X8_232 dX8_believed_110 ?_
        refine g_callVI (c_X8_row s19 a3 ((s19.1 823 0 0))) okX8_row ⟨by decide, by decide⟩ ml_X8_171 sh_98 no_98 rfl rfl [.int a3, .int ((s19.1 823 0 0))] rfl rfl rfl (Nat.le_of_ble_eq_true rfl) dX8_believed_113 (fun q20 => ?_)
        refine g_pop dX8_believed_116 rfl ?_
        refine g_iconst (0 : Int32) dX8_believed_117 (by decide) ?_
        refine g_istore [(5, .int ((0 : Int32))), (0, .ref (xad X (98))), (3, .int a3)] dX8_believed_118 (by decide) rfl ?_
        refine g_sub [1, 2, 0] rfl ?_
        refine t_X8_believed_L120 X a3 _ (fun s22 => ?_) FU q20.1 (0 : Int32)
        refine g_aload_n 0 dX8_believed_149 rfl ?_
        refine gf_X8_23 fl_X8_232 dX8_believed_150 ?_
        exact g_iret rfl dX8_believed_153
      · refine g_iload 0 dX8_believed_34 rfl ?_
        exact g_iret rfl dX8_believed_36
    · refine g_iconst (-1 : Int32) dX8_believed_16 (by decide) ?_
      refine g_goto 27 dX8_believed_17 rfl ?_
      refine g_istore [(4, .int ((-1 : Int32))), (0, .ref (xad X (98))), (1, .int a1), (2, .int a2), (3, .int a3)] dX8_believed_27 (by decide) rfl ?_
      refine g_iload 0 dX8_believed_29 rfl ?_
      refine g_if_ge 37 dX8_believed_31 rfl (fun _ => ?_) (fun _ => ?_)
      · refine g_aload_n 1 dX8_believed_37 rfl ?_
        refine g_iload_n 2 dX8_believed_38 rfl ?_
        refine g_callVV (c_X8_layGoal q15.1 a1) okX8_layGoal ⟨by decide, by decide⟩ ml_X8_238 sh_98 no_98 rfl rfl [.int a1] rfl rfl rfl (Nat.le_of_ble_eq_true rfl) dX8_believed_39 (fun q23 => ?_)
        refine g_iconst (0 : Int32) dX8_believed_42 (by decide) ?_
        refine g_istore [(5, .int ((0 : Int32))), (4, .int ((-1 : Int32))), (0, .ref (xad X (98))), (1, .int a1), (2, .int a2), (3, .int a3)] dX8_believed_43 (by decide) rfl ?_
        refine g_sub [2, 4, 5, 0] rfl ?_
        refine t_X8_believed_L45 X a2 a3 _ (fun s25 => ?_) FU q23.1 (0 : Int32)
        refine g_aload_n 0 dX8_believed_107 rfl ?_
        refine g_iload_n 1 dX8_believed_108 rfl ?_
        refine g_aload_n 0 dX8_believed_109 rfl ?_
        refine gf_X8_23 fl_X8_232 dX8_believed_110 ?_
        refine g_callVI (c_X8_row s25 a3 ((s25.1 823 0 0))) okX8_row ⟨by decide, by decide⟩ ml_X8_171 sh_98 no_98 rfl rfl [.int a3, .int ((s25.1 823 0 0))] rfl rfl rfl (Nat.le_of_ble_eq_true rfl) dX8_believed_113 (fun q26 => ?_)
        refine g_pop dX8_believed_116 rfl ?_
        refine g_iconst (0 : Int32) dX8_believed_117 (by decide) ?_
        refine g_istore [(5, .int ((0 : Int32))), (0, .ref (xad X (98))), (3, .int a3)] dX8_believed_118 (by decide) rfl ?_
        refine g_sub [1, 2, 0] rfl ?_
        refine t_X8_believed_L120 X a3 _ (fun s28 => ?_) FU q26.1 (0 : Int32)
        refine g_aload_n 0 dX8_believed_149 rfl ?_
        refine gf_X8_23 fl_X8_232 dX8_believed_150 ?_
        exact g_iret rfl dX8_believed_153
      · refine g_iload 0 dX8_believed_34 rfl ?_
        exact g_iret rfl dX8_believed_36

def X8_forbid_L16 (x1 : Int32) (k35 : Mem → Option (Mem × Int32)) : Nat → Mem → Int32 → Option (Mem × Int32)
  | 0, _, _ => none
  | n + 1, σ, x3 => (if (64 : Int32) ≤ x3 then k35 σ else (if (0 : Int32) = 0 ∨ (0 : Int32) = 1 then ck x3 64 <| X8_forbid_L16 x1 k35 n ((uI σ 825 0 x3.toNatClampNeg (0 : Int32))) ((x3 + (1 : Int32))) else none))
def X8_forbid_L81 (x1 : Int32) (x3 : Int32) (x4 : Int32) (x5 : Int32) (k108 : Mem → Int32 → Option (Mem × Int32)) : Nat → Mem → Int32 → Int32 → Option (Mem × Int32)
  | 0, _, _, _ => none
  | n + 1, σ, x6, x7 => (if x4 ≤ x7 then k108 σ x6 else (ck x7 8 <| lt_ ((x6 ||| ((1 : Int32) <<< ((σ.1 815 0 x7.toNatClampNeg) &&& 31)))) fun (v9 : Int32) => X8_forbid_L81 x1 x3 x4 x5 k108 n σ v9 ((x7 + (1 : Int32)))))
def X8_forbid_L52 (x1 : Int32) (x3 : Int32) (x4 : Int32) (k144 : Mem → Option (Mem × Int32)) : Nat → Mem → Int32 → Option (Mem × Int32)
  | 0, _, _ => none
  | n + 1, σ, x5 => ((X8_sheetsOf σ x4).bind fun q6 => if q6.2 ≤ x5 then k144 q6.1 else ((X8_layNumber q6.1 x4 x5).bind fun q7 => (X8_setBy q7.1 x3).bind fun q8 => X8_forbid_L81 x1 x3 x4 x5 (fun (s12 : Mem) (y6_11 : Int32) => (ck y6_11 64 <| if (s12.1 825 0 y6_11.toNatClampNeg) = 0 then ((X8_isOut s12 x1).bind fun q14 => if q14.2 = 0 then (if (0 : Int32) = 0 ∨ (0 : Int32) = 1 then ck y6_11 64 <| X8_forbid_L52 x1 x3 x4 k144 n ((uI q14.1 825 0 y6_11.toNatClampNeg (0 : Int32))) ((x5 + (1 : Int32))) else none) else ((if (1 : Int32) = 0 ∨ (1 : Int32) = 1 then ck y6_11 64 <| X8_forbid_L52 x1 x3 x4 k144 n ((uI q14.1 825 0 y6_11.toNatClampNeg (1 : Int32))) ((x5 + (1 : Int32))) else none))) else ((if (1 : Int32) = 0 ∨ (1 : Int32) = 1 then ck y6_11 64 <| X8_forbid_L52 x1 x3 x4 k144 n ((uI s12 825 0 y6_11.toNatClampNeg (1 : Int32))) ((x5 + (1 : Int32))) else none)))) FU q8.1 (0 : Int32) (0 : Int32)))
def X8_forbid_L43 (x1 : Int32) (x3 : Int32) (k150 : Mem → Option (Mem × Int32)) : Nat → Mem → Int32 → Option (Mem × Int32)
  | 0, _, _ => none
  | n + 1, σ, x4 => (if (5 : Int32) ≤ x4 then k150 σ else (X8_forbid_L52 x1 x3 x4 (fun (s18 : Mem) => (X8_forbid_L43 x1 x3 k150 n s18 ((x4 + (1 : Int32))))) FU σ (0 : Int32)))
def X8_forbid_L169 (x4 : Int32) (x5 : Int32) (k212 : Mem → Int32 → Option (Mem × Int32)) : Nat → Mem → Int32 → Int32 → Option (Mem × Int32)
  | 0, _, _, _ => none
  | n + 1, σ, x6, x7 => (if (64 : Int32) ≤ x7 then k212 σ x6 else (if x6 = 0 then (X8_forbid_L169 x4 x5 k212 n σ (0 : Int32) ((x7 + (1 : Int32)))) else (ck x7 64 <| if (σ.1 825 0 x7.toNatClampNeg) = 0 then ((X8_forbid_L169 x4 x5 k212 n σ (1 : Int32) ((x7 + (1 : Int32))))) else (if (x7 &&& x5) = 0 then (X8_forbid_L169 x4 x5 k212 n σ (0 : Int32) ((x7 + (1 : Int32)))) else ((X8_forbid_L169 x4 x5 k212 n σ (1 : Int32) ((x7 + (1 : Int32)))))))))
def X8_forbid_L158 (k252 : Mem → Int32 → Option (Mem × Int32)) : Nat → Mem → Int32 → Int32 → Option (Mem × Int32)
  | 0, _, _, _ => none
  | n + 1, σ, x4, x5 => (if x5 < 0 then k252 σ x4 else (X8_forbid_L169 x4 x5 (fun (s27 : Mem) (y6_26 : Int32) => (if y6_26 = 0 then (X8_forbid_L158 k252 n s27 x4 ((x5 + (-1 : Int32)))) else (if x4 = (-9 : Int32) then ((X8_forbid_L158 k252 n s27 x5 ((x5 + (-1 : Int32))))) else ((X8_sizeOf s27 x5).bind fun q30 => (X8_sizeOf q30.1 x4).bind fun q31 => if q31.2 < q30.2 then (X8_forbid_L158 k252 n q31.1 x4 ((x5 + (-1 : Int32)))) else ((X8_forbid_L158 k252 n q31.1 x5 ((x5 + (-1 : Int32))))))))) FU σ (1 : Int32) (0 : Int32)))
def X8_forbid (σ : Mem) (a1 : Int32) : Option (Mem × Int32) := ((X8_askedSigns σ a1 (16 : Int32)).bind fun q1 => if 0 ≤ q1.2 then (X8_forbid_L16 a1 (fun (s4 : Mem) => ((X8_onSet s4).bind fun q5 => X8_forbid_L43 a1 q5.2 (fun (s21 : Mem) => (X8_forbid_L158 (fun (s35 : Mem) (y4_34 : Int32) => (if y4_34 = (-9 : Int32) then ((some (s35, (-9 : Int32)))) else ((X8_sizeOf s35 y4_34).bind fun q36 => (X8_ask q36.1 y4_34 q36.2).bind fun q37 => some (q37.1, q37.2)))) FU s21 (-9 : Int32) (63 : Int32))) FU q5.1 (0 : Int32))) FU q1.1 (0 : Int32)) else (some (q1.1, q1.2)))
set_option maxRecDepth 100000 in
set_option maxHeartbeats 4000000 in
theorem t_X8_forbid_L16 (X : GX) (x1 : Int32) (k35 : Mem → Option (Mem × Int32)) (hk35 : ∀ (σ : Mem), GS (KM enI X) X mX8_forbid σ 35 [(0, .ref (xad X (98))), (1, .int x1)] [] (k35 σ)) : ∀ (n : Nat) (σ : Mem) (x3 : Int32), GS (KM enI X) X mX8_forbid σ 16 [(0, .ref (xad X (98))), (1, .int x1), (3, .int x3)] [] (X8_forbid_L16 x1 k35 n σ x3) := by
  intro n
  induction n with
  | zero => intros; exact g_none
  | succ n ih =>
    intro σ x3
    rw [X8_forbid_L16]
    refine g_iload_n 2 dX8_forbid_16 rfl ?_
    refine g_bipush (64 : Int32) dX8_forbid_17 (by decide) ?_
    refine g_icmp_ge 35 dX8_forbid_19 rfl (fun _ => ?_) (fun _ => ?_)
    · refine g_sub [0, 1] rfl ?_
      exact hk35 σ
    · refine g_aload_n 0 dX8_forbid_22 rfl ?_
      refine gf_X8_25 fl_X8_60 dX8_forbid_23 ?_
      refine g_iload_n 2 dX8_forbid_26 rfl ?_
      refine g_iconst (0 : Int32) dX8_forbid_27 (by decide) ?_
      refine g_zast sh_114 no_114 dX8_forbid_28 (fun _ => ?_)
      refine g_iinc 2 [(3, .int ((x3 + (1 : Int32)))), (0, .ref (xad X (98))), (1, .int x1)] dX8_forbid_29 rfl (v := x3 + (1 : Int32)) rfl (by decide) rfl ?_
      refine g_goto 16 dX8_forbid_32 rfl ?_
      refine g_sub [1, 2, 0] rfl ?_
      exact ih ((uI σ 825 0 x3.toNatClampNeg (0 : Int32))) ((x3 + (1 : Int32)))

set_option maxRecDepth 100000 in
set_option maxHeartbeats 4000000 in
theorem t_X8_forbid_L81 (X : GX) (x1 : Int32) (x3 : Int32) (x4 : Int32) (x5 : Int32) (k108 : Mem → Int32 → Option (Mem × Int32)) (hk108 : ∀ (σ : Mem) (y6 : Int32), GS (KM enI X) X mX8_forbid σ 108 [(0, .ref (xad X (98))), (1, .int x1), (3, .int x3), (4, .int x4), (5, .int x5), (6, .int y6)] [] (k108 σ y6)) : ∀ (n : Nat) (σ : Mem) (x6 : Int32) (x7 : Int32), GS (KM enI X) X mX8_forbid σ 81 [(0, .ref (xad X (98))), (1, .int x1), (3, .int x3), (4, .int x4), (5, .int x5), (6, .int x6), (7, .int x7)] [] (X8_forbid_L81 x1 x3 x4 x5 k108 n σ x6 x7) := by
  intro n
  induction n with
  | zero => intros; exact g_none
  | succ n ih =>
    intro σ x6 x7
    rw [X8_forbid_L81]
    refine g_iload 6 dX8_forbid_81 rfl ?_
    refine g_iload 3 dX8_forbid_83 rfl ?_
    refine g_icmp_ge 108 dX8_forbid_85 rfl (fun _ => ?_) (fun _ => ?_)
    · refine g_sub [0, 1, 2, 3, 4, 5] rfl ?_
      exact hk108 σ x6
    · refine g_iload 5 dX8_forbid_88 rfl ?_
      refine g_iconst (1 : Int32) dX8_forbid_90 (by decide) ?_
      refine g_aload_n 0 dX8_forbid_91 rfl ?_
      refine gf_X8_15 fl_X8_38 dX8_forbid_92 ?_
      refine g_iload 6 dX8_forbid_95 rfl ?_
      refine g_iald sh_107 no_107 dX8_forbid_97 (fun _ => ?_)
      refine g_ishl dX8_forbid_98 ?_
      refine g_ior dX8_forbid_99 ?_
      refine g_topi (fun v9 => ?_)
      refine g_istore [(6, .int v9), (0, .ref (xad X (98))), (1, .int x1), (3, .int x3), (4, .int x4), (5, .int x5), (7, .int x7)] dX8_forbid_100 (by decide) rfl ?_
      refine g_iinc 6 [(7, .int ((x7 + (1 : Int32)))), (6, .int v9), (0, .ref (xad X (98))), (1, .int x1), (3, .int x3), (4, .int x4), (5, .int x5)] dX8_forbid_102 rfl (v := x7 + (1 : Int32)) rfl (by decide) rfl ?_
      refine g_goto 81 dX8_forbid_105 rfl ?_
      refine g_sub [2, 3, 4, 5, 6, 1, 0] rfl ?_
      exact ih σ v9 ((x7 + (1 : Int32)))

set_option maxRecDepth 100000 in
set_option maxHeartbeats 4000000 in
theorem t_X8_forbid_L52 (X : GX) (x1 : Int32) (x3 : Int32) (x4 : Int32) (k144 : Mem → Option (Mem × Int32)) (hk144 : ∀ (σ : Mem), GS (KM enI X) X mX8_forbid σ 144 [(0, .ref (xad X (98))), (1, .int x1), (3, .int x3), (4, .int x4)] [] (k144 σ)) : ∀ (n : Nat) (σ : Mem) (x5 : Int32), GS (KM enI X) X mX8_forbid σ 52 [(0, .ref (xad X (98))), (1, .int x1), (3, .int x3), (4, .int x4), (5, .int x5)] [] (X8_forbid_L52 x1 x3 x4 k144 n σ x5) := by
  intro n
  induction n with
  | zero => intros; exact g_none
  | succ n ih =>
    intro σ x5
    rw [X8_forbid_L52]
    refine g_iload 4 dX8_forbid_52 rfl ?_
    refine g_iload 3 dX8_forbid_54 rfl ?_
    refine g_callSI (c_X8_sheetsOf σ x4) okX8_sheetsOf ⟨by decide, by decide⟩ ml_X8_219 rfl rfl (Nat.le_of_ble_eq_true rfl) dX8_forbid_56 (fun q6 => ?_)
    refine g_icmp_ge 144 dX8_forbid_59 rfl (fun _ => ?_) (fun _ => ?_)
    · refine g_sub [0, 1, 2, 3] rfl ?_
      exact hk144 q6.1
    · refine g_aload_n 0 dX8_forbid_62 rfl ?_
      refine g_iload 3 dX8_forbid_63 rfl ?_
      refine g_iload 4 dX8_forbid_65 rfl ?_
      refine g_callVV (c_X8_layNumber q6.1 x4 x5) okX8_layNumber ⟨by decide, by decide⟩ ml_X8_222 sh_98 no_98 rfl rfl [.int x4, .int x5] rfl rfl rfl (Nat.le_of_ble_eq_true rfl) dX8_forbid_67 (fun q7 => ?_)
      refine g_aload_n 0 dX8_forbid_70 rfl ?_
      refine g_iload_n 2 dX8_forbid_71 rfl ?_
      refine g_callVV (c_X8_setBy q7.1 x3) okX8_setBy ⟨by decide, by decide⟩ ml_X8_188 sh_98 no_98 rfl rfl [.int x3] rfl rfl rfl (Nat.le_of_ble_eq_true rfl) dX8_forbid_72 (fun q8 => ?_)
      refine g_iconst (0 : Int32) dX8_forbid_75 (by decide) ?_
      refine g_istore [(6, .int ((0 : Int32))), (0, .ref (xad X (98))), (1, .int x1), (3, .int x3), (4, .int x4), (5, .int x5)] dX8_forbid_76 (by decide) rfl ?_
      refine g_iconst (0 : Int32) dX8_forbid_78 (by decide) ?_
      refine g_istore [(7, .int ((0 : Int32))), (6, .int ((0 : Int32))), (0, .ref (xad X (98))), (1, .int x1), (3, .int x3), (4, .int x4), (5, .int x5)] dX8_forbid_79 (by decide) rfl ?_
      refine g_sub [2, 3, 4, 5, 6, 1, 0] rfl ?_
      refine t_X8_forbid_L81 X x1 x3 x4 x5 _ (fun s12 y6_11 => ?_) FU q8.1 (0 : Int32) (0 : Int32)
      refine g_aload_n 0 dX8_forbid_108 rfl ?_
      refine gf_X8_25 fl_X8_60 dX8_forbid_109 ?_
      refine g_iload 5 dX8_forbid_112 rfl ?_
      refine g_aload_n 0 dX8_forbid_114 rfl ?_
      refine gf_X8_25 fl_X8_60 dX8_forbid_115 ?_
      refine g_iload 5 dX8_forbid_118 rfl ?_
      refine g_zald sh_114 no_114 dX8_forbid_120 (fun _ => ?_)
      refine g_if_ne 132 dX8_forbid_121 rfl (fun _ => ?_) (fun _ => ?_)
      · refine g_iconst (1 : Int32) dX8_forbid_132 (by decide) ?_
        refine g_goto 137 dX8_forbid_133 rfl ?_
        refine g_zast sh_114 no_114 dX8_forbid_137 (fun _ => ?_)
        refine g_iinc 4 [(5, .int ((x5 + (1 : Int32)))), (0, .ref (xad X (98))), (1, .int x1), (3, .int x3), (4, .int x4), (6, .int y6_11)] dX8_forbid_138 rfl (v := x5 + (1 : Int32)) rfl (by decide) rfl ?_
        refine g_goto 52 dX8_forbid_141 rfl ?_
        refine g_sub [1, 2, 3, 4, 0] rfl ?_
        exact ih ((uI s12 825 0 y6_11.toNatClampNeg (1 : Int32))) ((x5 + (1 : Int32)))
      · refine g_aload_n 0 dX8_forbid_124 rfl ?_
        refine g_iload_n 1 dX8_forbid_125 rfl ?_
        refine g_callVI (c_X8_isOut s12 x1) okX8_isOut ⟨by decide, by decide⟩ ml_X8_225 sh_98 no_98 rfl rfl [.int x1] rfl rfl rfl (Nat.le_of_ble_eq_true rfl) dX8_forbid_126 (fun q14 => ?_)
        refine g_if_eq 136 dX8_forbid_129 rfl (fun _ => ?_) (fun _ => ?_)
        · refine g_iconst (0 : Int32) dX8_forbid_136 (by decide) ?_
          refine g_zast sh_114 no_114 dX8_forbid_137 (fun _ => ?_)
          refine g_iinc 4 [(5, .int ((x5 + (1 : Int32)))), (0, .ref (xad X (98))), (1, .int x1), (3, .int x3), (4, .int x4), (6, .int y6_11)] dX8_forbid_138 rfl (v := x5 + (1 : Int32)) rfl (by decide) rfl ?_
          refine g_goto 52 dX8_forbid_141 rfl ?_
          refine g_sub [1, 2, 3, 4, 0] rfl ?_
          exact ih ((uI q14.1 825 0 y6_11.toNatClampNeg (0 : Int32))) ((x5 + (1 : Int32)))
        · refine g_iconst (1 : Int32) dX8_forbid_132 (by decide) ?_
          refine g_goto 137 dX8_forbid_133 rfl ?_
          refine g_zast sh_114 no_114 dX8_forbid_137 (fun _ => ?_)
          refine g_iinc 4 [(5, .int ((x5 + (1 : Int32)))), (0, .ref (xad X (98))), (1, .int x1), (3, .int x3), (4, .int x4), (6, .int y6_11)] dX8_forbid_138 rfl (v := x5 + (1 : Int32)) rfl (by decide) rfl ?_
          refine g_goto 52 dX8_forbid_141 rfl ?_
          refine g_sub [1, 2, 3, 4, 0] rfl ?_
          exact ih ((uI q14.1 825 0 y6_11.toNatClampNeg (1 : Int32))) ((x5 + (1 : Int32)))

set_option maxRecDepth 100000 in
set_option maxHeartbeats 4000000 in
theorem t_X8_forbid_L43 (X : GX) (x1 : Int32) (x3 : Int32) (k150 : Mem → Option (Mem × Int32)) (hk150 : ∀ (σ : Mem), GS (KM enI X) X mX8_forbid σ 150 [(0, .ref (xad X (98)))] [] (k150 σ)) : ∀ (n : Nat) (σ : Mem) (x4 : Int32), GS (KM enI X) X mX8_forbid σ 43 [(0, .ref (xad X (98))), (1, .int x1), (3, .int x3), (4, .int x4)] [] (X8_forbid_L43 x1 x3 k150 n σ x4) := by
  intro n
  induction n with
  | zero => intros; exact g_none
  | succ n ih =>
    intro σ x4
    rw [X8_forbid_L43]
    refine g_iload 3 dX8_forbid_43 rfl ?_
    refine g_iconst (5 : Int32) dX8_forbid_45 (by decide) ?_
    refine g_icmp_ge 150 dX8_forbid_46 rfl (fun _ => ?_) (fun _ => ?_)
    · refine g_sub [0] rfl ?_
      exact hk150 σ
    · refine g_iconst (0 : Int32) dX8_forbid_49 (by decide) ?_
      refine g_istore [(5, .int ((0 : Int32))), (0, .ref (xad X (98))), (1, .int x1), (3, .int x3), (4, .int x4)] dX8_forbid_50 (by decide) rfl ?_
      refine g_sub [1, 2, 3, 4, 0] rfl ?_
      refine t_X8_forbid_L52 X x1 x3 x4 _ (fun s18 => ?_) FU σ (0 : Int32)
      refine g_iinc 3 [(4, .int ((x4 + (1 : Int32)))), (0, .ref (xad X (98))), (1, .int x1), (3, .int x3)] dX8_forbid_144 rfl (v := x4 + (1 : Int32)) rfl (by decide) rfl ?_
      refine g_goto 43 dX8_forbid_147 rfl ?_
      refine g_sub [1, 2, 3, 0] rfl ?_
      exact ih s18 ((x4 + (1 : Int32)))

set_option maxRecDepth 100000 in
set_option maxHeartbeats 4000000 in
theorem t_X8_forbid_L169 (X : GX) (x4 : Int32) (x5 : Int32) (k212 : Mem → Int32 → Option (Mem × Int32)) (hk212 : ∀ (σ : Mem) (y6 : Int32), GS (KM enI X) X mX8_forbid σ 212 [(0, .ref (xad X (98))), (4, .int x4), (5, .int x5), (6, .int y6)] [] (k212 σ y6)) : ∀ (n : Nat) (σ : Mem) (x6 : Int32) (x7 : Int32), GS (KM enI X) X mX8_forbid σ 169 [(0, .ref (xad X (98))), (4, .int x4), (5, .int x5), (6, .int x6), (7, .int x7)] [] (X8_forbid_L169 x4 x5 k212 n σ x6 x7) := by
  intro n
  induction n with
  | zero => intros; exact g_none
  | succ n ih =>
    intro σ x6 x7
    rw [X8_forbid_L169]
    refine g_iload 4 dX8_forbid_169 rfl ?_
    refine g_bipush (64 : Int32) dX8_forbid_171 (by decide) ?_
    refine g_icmp_ge 212 dX8_forbid_173 rfl (fun _ => ?_) (fun _ => ?_)
    · refine g_sub [0, 1, 2, 3] rfl ?_
      exact hk212 σ x6
    · refine g_iload 3 dX8_forbid_176 rfl ?_
      refine g_if_eq 203 dX8_forbid_178 rfl (fun _ => ?_) (fun _ => ?_)
      · refine g_iconst (0 : Int32) dX8_forbid_203 (by decide) ?_
        refine g_istore [(6, .int ((0 : Int32))), (0, .ref (xad X (98))), (4, .int x4), (5, .int x5), (7, .int x7)] dX8_forbid_204 (by decide) rfl ?_
        refine g_iinc 4 [(7, .int ((x7 + (1 : Int32)))), (6, .int ((0 : Int32))), (0, .ref (xad X (98))), (4, .int x4), (5, .int x5)] dX8_forbid_206 rfl (v := x7 + (1 : Int32)) rfl (by decide) rfl ?_
        refine g_goto 169 dX8_forbid_209 rfl ?_
        refine g_sub [2, 3, 4, 1, 0] rfl ?_
        exact ih σ (0 : Int32) ((x7 + (1 : Int32)))
      · refine g_aload_n 0 dX8_forbid_181 rfl ?_
        refine gf_X8_25 fl_X8_60 dX8_forbid_182 ?_
        refine g_iload 4 dX8_forbid_185 rfl ?_
        refine g_zald sh_114 no_114 dX8_forbid_187 (fun _ => ?_)
        refine g_if_eq 199 dX8_forbid_188 rfl (fun _ => ?_) (fun _ => ?_)
        · refine g_iconst (1 : Int32) dX8_forbid_199 (by decide) ?_
          refine g_goto 204 dX8_forbid_200 rfl ?_
          refine g_istore [(6, .int ((1 : Int32))), (0, .ref (xad X (98))), (4, .int x4), (5, .int x5), (7, .int x7)] dX8_forbid_204 (by decide) rfl ?_
          refine g_iinc 4 [(7, .int ((x7 + (1 : Int32)))), (6, .int ((1 : Int32))), (0, .ref (xad X (98))), (4, .int x4), (5, .int x5)] dX8_forbid_206 rfl (v := x7 + (1 : Int32)) rfl (by decide) rfl ?_
          refine g_goto 169 dX8_forbid_209 rfl ?_
          refine g_sub [2, 3, 4, 1, 0] rfl ?_
          exact ih σ (1 : Int32) ((x7 + (1 : Int32)))
        · refine g_iload 4 dX8_forbid_191 rfl ?_
          refine g_iload 2 dX8_forbid_193 rfl ?_
          refine g_iand dX8_forbid_195 ?_
          refine g_if_eq 203 dX8_forbid_196 rfl (fun _ => ?_) (fun _ => ?_)
          · refine g_iconst (0 : Int32) dX8_forbid_203 (by decide) ?_
            refine g_istore [(6, .int ((0 : Int32))), (0, .ref (xad X (98))), (4, .int x4), (5, .int x5), (7, .int x7)] dX8_forbid_204 (by decide) rfl ?_
            refine g_iinc 4 [(7, .int ((x7 + (1 : Int32)))), (6, .int ((0 : Int32))), (0, .ref (xad X (98))), (4, .int x4), (5, .int x5)] dX8_forbid_206 rfl (v := x7 + (1 : Int32)) rfl (by decide) rfl ?_
            refine g_goto 169 dX8_forbid_209 rfl ?_
            refine g_sub [2, 3, 4, 1, 0] rfl ?_
            exact ih σ (0 : Int32) ((x7 + (1 : Int32)))
          · refine g_iconst (1 : Int32) dX8_forbid_199 (by decide) ?_
            refine g_goto 204 dX8_forbid_200 rfl ?_
            refine g_istore [(6, .int ((1 : Int32))), (0, .ref (xad X (98))), (4, .int x4), (5, .int x5), (7, .int x7)] dX8_forbid_204 (by decide) rfl ?_
            refine g_iinc 4 [(7, .int ((x7 + (1 : Int32)))), (6, .int ((1 : Int32))), (0, .ref (xad X (98))), (4, .int x4), (5, .int x5)] dX8_forbid_206 rfl (v := x7 + (1 : Int32)) rfl (by decide) rfl ?_
            refine g_goto 169 dX8_forbid_209 rfl ?_
            refine g_sub [2, 3, 4, 1, 0] rfl ?_
            exact ih σ (1 : Int32) ((x7 + (1 : Int32)))

set_option maxRecDepth 100000 in
set_option maxHeartbeats 4000000 in
theorem t_X8_forbid_L158 (X : GX) (k252 : Mem → Int32 → Option (Mem × Int32)) (hk252 : ∀ (σ : Mem) (y4 : Int32), GS (KM enI X) X mX8_forbid σ 252 [(0, .ref (xad X (98))), (4, .int y4)] [] (k252 σ y4)) : ∀ (n : Nat) (σ : Mem) (x4 : Int32) (x5 : Int32), GS (KM enI X) X mX8_forbid σ 158 [(0, .ref (xad X (98))), (4, .int x4), (5, .int x5)] [] (X8_forbid_L158 k252 n σ x4 x5) := by
  intro n
  induction n with
  | zero => intros; exact g_none
  | succ n ih =>
    intro σ x4 x5
    rw [X8_forbid_L158]
    refine g_iload 2 dX8_forbid_158 rfl ?_
    refine g_if_lt 252 dX8_forbid_160 rfl (fun _ => ?_) (fun _ => ?_)
    · refine g_sub [0, 1] rfl ?_
      exact hk252 σ x4
    · refine g_iconst (1 : Int32) dX8_forbid_163 (by decide) ?_
      refine g_istore [(6, .int ((1 : Int32))), (0, .ref (xad X (98))), (4, .int x4), (5, .int x5)] dX8_forbid_164 (by decide) rfl ?_
      refine g_iconst (0 : Int32) dX8_forbid_166 (by decide) ?_
      refine g_istore [(7, .int ((0 : Int32))), (6, .int ((1 : Int32))), (0, .ref (xad X (98))), (4, .int x4), (5, .int x5)] dX8_forbid_167 (by decide) rfl ?_
      refine g_sub [2, 3, 4, 1, 0] rfl ?_
      refine t_X8_forbid_L169 X x4 x5 _ (fun s27 y6_26 => ?_) FU σ (1 : Int32) (0 : Int32)
      refine g_iload 3 dX8_forbid_212 rfl ?_
      refine g_if_eq 242 dX8_forbid_214 rfl (fun _ => ?_) (fun _ => ?_)
      · refine g_iload 1 dX8_forbid_242 rfl ?_
        refine g_istore [(4, .int x4), (0, .ref (xad X (98))), (5, .int x5), (6, .int y6_26)] dX8_forbid_244 (by decide) rfl ?_
        refine g_iinc 2 [(5, .int ((x5 + (-1 : Int32)))), (4, .int x4), (0, .ref (xad X (98))), (6, .int y6_26)] dX8_forbid_246 rfl (v := x5 + (-1 : Int32)) rfl (by decide) rfl ?_
        refine g_goto 158 dX8_forbid_249 rfl ?_
        refine g_sub [2, 1, 0] rfl ?_
        exact ih s27 x4 ((x5 + (-1 : Int32)))
      · refine g_iload 1 dX8_forbid_217 rfl ?_
        refine g_bipush (-9 : Int32) dX8_forbid_219 (by decide) ?_
        refine g_icmp_eq 237 dX8_forbid_221 rfl (fun _ => ?_) (fun _ => ?_)
        · refine g_iload 2 dX8_forbid_237 rfl ?_
          refine g_goto 244 dX8_forbid_239 rfl ?_
          refine g_istore [(4, .int x5), (0, .ref (xad X (98))), (5, .int x5), (6, .int y6_26)] dX8_forbid_244 (by decide) rfl ?_
          refine g_iinc 2 [(5, .int ((x5 + (-1 : Int32)))), (4, .int x5), (0, .ref (xad X (98))), (6, .int y6_26)] dX8_forbid_246 rfl (v := x5 + (-1 : Int32)) rfl (by decide) rfl ?_
          refine g_goto 158 dX8_forbid_249 rfl ?_
          refine g_sub [2, 1, 0] rfl ?_
          exact ih s27 x5 ((x5 + (-1 : Int32)))
        · refine g_iload 2 dX8_forbid_224 rfl ?_
          refine g_callSI (c_X8_sizeOf s27 x5) okX8_sizeOf ⟨by decide, by decide⟩ ml_X8_256 rfl rfl (Nat.le_of_ble_eq_true rfl) dX8_forbid_226 (fun q30 => ?_)
          refine g_iload 1 dX8_forbid_229 rfl ?_
          refine g_callSI (c_X8_sizeOf q30.1 x4) okX8_sizeOf ⟨by decide, by decide⟩ ml_X8_256 rfl rfl (Nat.le_of_ble_eq_true rfl) dX8_forbid_231 (fun q31 => ?_)
          refine g_icmp_gt 242 dX8_forbid_234 rfl (fun _ => ?_) (fun _ => ?_)
          · refine g_iload 1 dX8_forbid_242 rfl ?_
            refine g_istore [(4, .int x4), (0, .ref (xad X (98))), (5, .int x5), (6, .int y6_26)] dX8_forbid_244 (by decide) rfl ?_
            refine g_iinc 2 [(5, .int ((x5 + (-1 : Int32)))), (4, .int x4), (0, .ref (xad X (98))), (6, .int y6_26)] dX8_forbid_246 rfl (v := x5 + (-1 : Int32)) rfl (by decide) rfl ?_
            refine g_goto 158 dX8_forbid_249 rfl ?_
            refine g_sub [2, 1, 0] rfl ?_
            exact ih q31.1 x4 ((x5 + (-1 : Int32)))
          · refine g_iload 2 dX8_forbid_237 rfl ?_
            refine g_goto 244 dX8_forbid_239 rfl ?_
            refine g_istore [(4, .int x5), (0, .ref (xad X (98))), (5, .int x5), (6, .int y6_26)] dX8_forbid_244 (by decide) rfl ?_
            refine g_iinc 2 [(5, .int ((x5 + (-1 : Int32)))), (4, .int x5), (0, .ref (xad X (98))), (6, .int y6_26)] dX8_forbid_246 rfl (v := x5 + (-1 : Int32)) rfl (by decide) rfl ?_
            refine g_goto 158 dX8_forbid_249 rfl ?_
            refine g_sub [2, 1, 0] rfl ?_
            exact ih q31.1 x5 ((x5 + (-1 : Int32)))

set_option maxRecDepth 100000 in
set_option maxHeartbeats 4000000 in
theorem c_X8_forbid (σ : Mem) (a1 : Int32) : CT yX8_forbid mX8_forbid enI (fun ad => [.ref (ad (98)), .int a1]) σ (X8_forbid σ a1) := by
  refine CT.of (by decide) rfl (fun _ => Nat.le_of_ble_eq_true rfl) (fun X => ?_)
  show GS (KM enI X) X mX8_forbid σ 0 [(0, .ref (xad X (98))), (1, .int a1)] [] _
  unfold X8_forbid
  refine g_aload_n 0 dX8_forbid_0 rfl ?_
  refine g_iload_n 1 dX8_forbid_1 rfl ?_
  refine g_bipush (16 : Int32) dX8_forbid_2 (by decide) ?_
  refine g_callVI (c_X8_askedSigns σ a1 (16 : Int32)) okX8_askedSigns ⟨by decide, by decide⟩ ml_X8_201 sh_98 no_98 rfl rfl [.int a1, .int ((16 : Int32))] rfl rfl rfl (Nat.le_of_ble_eq_true rfl) dX8_forbid_4 (fun q1 => ?_)
  refine g_istore_n [(2, .int (q1.2)), (0, .ref (xad X (98))), (1, .int a1)] dX8_forbid_7 (by decide) rfl ?_
  refine g_iload_n 0 dX8_forbid_8 rfl ?_
  refine g_if_ge 14 dX8_forbid_9 rfl (fun _ => ?_) (fun _ => ?_)
  · refine g_iconst (0 : Int32) dX8_forbid_14 (by decide) ?_
    refine g_istore_n [(3, .int ((0 : Int32))), (2, .int (q1.2)), (0, .ref (xad X (98))), (1, .int a1)] dX8_forbid_15 (by decide) rfl ?_
    refine g_sub [2, 3, 0] rfl ?_
    refine t_X8_forbid_L16 X a1 _ (fun s4 => ?_) FU q1.1 (0 : Int32)
    refine g_aload_n 0 dX8_forbid_35 rfl ?_
    refine g_callVI (c_X8_onSet s4) okX8_onSet ⟨by decide, by decide⟩ ml_X8_184 sh_98 no_98 rfl rfl [] rfl rfl rfl (Nat.le_of_ble_eq_true rfl) dX8_forbid_36 (fun q5 => ?_)
    refine g_istore_n [(3, .int (q5.2)), (0, .ref (xad X (98))), (1, .int a1)] dX8_forbid_39 (by decide) rfl ?_
    refine g_iconst (0 : Int32) dX8_forbid_40 (by decide) ?_
    refine g_istore [(4, .int ((0 : Int32))), (3, .int (q5.2)), (0, .ref (xad X (98))), (1, .int a1)] dX8_forbid_41 (by decide) rfl ?_
    refine g_sub [2, 3, 1, 0] rfl ?_
    refine t_X8_forbid_L43 X a1 q5.2 _ (fun s21 => ?_) FU q5.1 (0 : Int32)
    refine g_bipush (-9 : Int32) dX8_forbid_150 (by decide) ?_
    refine g_istore [(4, .int ((-9 : Int32))), (0, .ref (xad X (98)))] dX8_forbid_152 (by decide) rfl ?_
    refine g_bipush (63 : Int32) dX8_forbid_154 (by decide) ?_
    refine g_istore [(5, .int ((63 : Int32))), (4, .int ((-9 : Int32))), (0, .ref (xad X (98)))] dX8_forbid_156 (by decide) rfl ?_
    refine g_sub [2, 1, 0] rfl ?_
    refine t_X8_forbid_L158 X _ (fun s35 y4_34 => ?_) FU s21 (-9 : Int32) (63 : Int32)
    refine g_iload 1 dX8_forbid_252 rfl ?_
    refine g_bipush (-9 : Int32) dX8_forbid_254 (by decide) ?_
    refine g_icmp_ne 264 dX8_forbid_256 rfl (fun _ => ?_) (fun _ => ?_)
    · refine g_aload_n 0 dX8_forbid_264 rfl ?_
      refine g_iload 1 dX8_forbid_265 rfl ?_
      refine g_iload 1 dX8_forbid_267 rfl ?_
      refine g_callSI (c_X8_sizeOf s35 y4_34) okX8_sizeOf ⟨by decide, by decide⟩ ml_X8_256 rfl rfl (Nat.le_of_ble_eq_true rfl) dX8_forbid_269 (fun q36 => ?_)
      refine g_callVI (c_X8_ask q36.1 y4_34 q36.2) okX8_ask ⟨by decide, by decide⟩ ml_X8_109 sh_98 no_98 rfl rfl [.int y4_34, .int (q36.2)] rfl rfl rfl (Nat.le_of_ble_eq_true rfl) dX8_forbid_272 (fun q37 => ?_)
      exact g_iret rfl dX8_forbid_275
    · refine g_bipush (-9 : Int32) dX8_forbid_259 (by decide) ?_
      refine g_goto 275 dX8_forbid_261 rfl ?_
      exact g_iret rfl dX8_forbid_275
  · refine g_iload_n 0 dX8_forbid_12 rfl ?_
    exact g_iret rfl dX8_forbid_13

def X8_askedBoth (σ : Mem) (a1 : Int32) (a2 : Int32) : Option (Mem × Int32) := ((X8_isRow σ a1).bind fun q1 => if q1.2 = 0 then (some (q1.1, (-1 : Int32))) else ((X8_isRow q1.1 a2).bind fun q2 => if q2.2 = 0 then (some (q2.1, (-1 : Int32))) else ((X8_askedSigns q2.1 a1 (8 : Int32)).bind fun q3 => if 0 ≤ q3.2 then ((X8_askedSigns q3.1 a2 (16 : Int32)).bind fun q4 => some (q4.1, q4.2)) else ((some (q3.1, q3.2))))))
set_option maxRecDepth 100000 in
set_option maxHeartbeats 4000000 in
theorem c_X8_askedBoth (σ : Mem) (a1 : Int32) (a2 : Int32) : CT yX8_askedBoth mX8_askedBoth enI (fun ad => [.ref (ad (98)), .int a1, .int a2]) σ (X8_askedBoth σ a1 a2) := by
  refine CT.of (by decide) rfl (fun _ => Nat.le_of_ble_eq_true rfl) (fun X => ?_)
  show GS (KM enI X) X mX8_askedBoth σ 0 [(0, .ref (xad X (98))), (1, .int a1), (2, .int a2)] [] _
  unfold X8_askedBoth
  refine g_iload_n 1 dX8_askedBoth_0 rfl ?_
  refine g_callSI (c_X8_isRow σ a1) okX8_isRow ⟨by decide, by decide⟩ ml_X8_87 rfl rfl (Nat.le_of_ble_eq_true rfl) dX8_askedBoth_1 (fun q1 => ?_)
  refine g_if_eq 14 dX8_askedBoth_4 rfl (fun _ => ?_) (fun _ => ?_)
  · refine g_iconst (-1 : Int32) dX8_askedBoth_14 (by decide) ?_
    exact g_iret rfl dX8_askedBoth_15
  · refine g_iload_n 2 dX8_askedBoth_7 rfl ?_
    refine g_callSI (c_X8_isRow q1.1 a2) okX8_isRow ⟨by decide, by decide⟩ ml_X8_87 rfl rfl (Nat.le_of_ble_eq_true rfl) dX8_askedBoth_8 (fun q2 => ?_)
    refine g_if_ne 16 dX8_askedBoth_11 rfl (fun _ => ?_) (fun _ => ?_)
    · refine g_aload_n 0 dX8_askedBoth_16 rfl ?_
      refine g_iload_n 1 dX8_askedBoth_17 rfl ?_
      refine g_bipush (8 : Int32) dX8_askedBoth_18 (by decide) ?_
      refine g_callVI (c_X8_askedSigns q2.1 a1 (8 : Int32)) okX8_askedSigns ⟨by decide, by decide⟩ ml_X8_201 sh_98 no_98 rfl rfl [.int a1, .int ((8 : Int32))] rfl rfl rfl (Nat.le_of_ble_eq_true rfl) dX8_askedBoth_20 (fun q3 => ?_)
      refine g_istore_n [(3, .int (q3.2)), (0, .ref (xad X (98))), (1, .int a1), (2, .int a2)] dX8_askedBoth_23 (by decide) rfl ?_
      refine g_iload_n 0 dX8_askedBoth_24 rfl ?_
      refine g_if_ge 32 dX8_askedBoth_25 rfl (fun _ => ?_) (fun _ => ?_)
      · refine g_aload_n 1 dX8_askedBoth_32 rfl ?_
        refine g_iload_n 3 dX8_askedBoth_33 rfl ?_
        refine g_bipush (16 : Int32) dX8_askedBoth_34 (by decide) ?_
        refine g_callVI (c_X8_askedSigns q3.1 a2 (16 : Int32)) okX8_askedSigns ⟨by decide, by decide⟩ ml_X8_201 sh_98 no_98 rfl rfl [.int a2, .int ((16 : Int32))] rfl rfl rfl (Nat.le_of_ble_eq_true rfl) dX8_askedBoth_36 (fun q4 => ?_)
        exact g_iret rfl dX8_askedBoth_39
      · refine g_iload_n 0 dX8_askedBoth_28 rfl ?_
        refine g_goto 39 dX8_askedBoth_29 rfl ?_
        exact g_iret rfl dX8_askedBoth_39
    · refine g_iconst (-1 : Int32) dX8_askedBoth_14 (by decide) ?_
      exact g_iret rfl dX8_askedBoth_15

