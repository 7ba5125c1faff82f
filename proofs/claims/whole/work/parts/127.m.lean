def X8_digest_L9 (k30 : Mem → Option (Mem × Int64)) : Nat → Mem → Int32 → Option (Mem × Int64)
  | 0, _, _ => none
  | n + 1, σ, x1 => (if (8 : Int32) < x1 then k30 σ else ((X8_tells σ x1).bind fun q1 => (X8_mix q1.1 q1.2).bind fun q2 => X8_digest_L9 k30 n q2.1 ((x1 + (1 : Int32)))))
def X8_digest_L67 (x1 : Int32) (k93 : Mem → Option (Mem × Int64)) : Nat → Mem → Int32 → Option (Mem × Int64)
  | 0, _, _ => none
  | n + 1, σ, x2 => (ck x1 6 <| if (σ.1 805 0 x1.toNatClampNeg) ≤ x2 then k93 σ else ((X8_rowAt σ x1 x2).bind fun q8 => (X8_mix q8.1 q8.2).bind fun q9 => X8_digest_L67 x1 k93 n q9.1 ((x2 + (1 : Int32)))))
def X8_digest_L36 (k99 : Mem → Option (Mem × Int64)) : Nat → Mem → Int32 → Option (Mem × Int64)
  | 0, _, _ => none
  | n + 1, σ, x1 => (if (6 : Int32) ≤ x1 then k99 σ else (ck x1 6 <| if 0 ≤ (σ.1 805 0 x1.toNatClampNeg) then (ck x1 6 <| (X8_mix σ ((σ.1 805 0 x1.toNatClampNeg))).bind fun q7 => X8_digest_L67 x1 (fun (s12 : Mem) => (X8_digest_L36 k99 n s12 ((x1 + (1 : Int32))))) FU q7.1 (0 : Int32)) else (((X8_mix σ (-1 : Int32)).bind fun q14 => X8_digest_L67 x1 (fun (s16 : Mem) => (X8_digest_L36 k99 n s16 ((x1 + (1 : Int32))))) FU q14.1 (0 : Int32)))))
def X8_digest_L131 (x1 : Int32) (k162 : Mem → Option (Mem × Int64)) : Nat → Mem → Int32 → Option (Mem × Int64)
  | 0, _, _ => none
  | n + 1, σ, x2 => (ck x1 4 <| if (σ.1 808 0 x1.toNatClampNeg) ≤ x2 then k162 σ else (ck (((60 : Int32) * x1) + x2) 240 <| (X8_mix σ ((σ.1 809 0 (((60 : Int32) * x1) + x2).toNatClampNeg))).bind fun q21 => X8_digest_L131 x1 k162 n q21.1 ((x2 + (1 : Int32)))))
def X8_digest_L101 (k168 : Mem → Option (Mem × Int64)) : Nat → Mem → Int32 → Option (Mem × Int64)
  | 0, _, _ => none
  | n + 1, σ, x1 => (if (4 : Int32) ≤ x1 then k168 σ else (ck x1 4 <| if 0 ≤ (σ.1 808 0 x1.toNatClampNeg) then (ck x1 4 <| (X8_mix σ ((σ.1 808 0 x1.toNatClampNeg))).bind fun q20 => X8_digest_L131 x1 (fun (s24 : Mem) => (X8_digest_L101 k168 n s24 ((x1 + (1 : Int32))))) FU q20.1 (0 : Int32)) else (((X8_mix σ (-1 : Int32)).bind fun q26 => X8_digest_L131 x1 (fun (s28 : Mem) => (X8_digest_L101 k168 n s28 ((x1 + (1 : Int32))))) FU q26.1 (0 : Int32)))))
def X8_digest (σ : Mem) : Option (Mem × Int64) := (X8_digest_L9 (fun (s5 : Mem) => ((X8_mixPress s5).bind fun q6 => X8_digest_L36 (fun (s19 : Mem) => (X8_digest_L101 (fun (s31 : Mem) => (some (s31, (s31.2.1 830 0 0)))) FU s19 (0 : Int32))) FU q6.1 (0 : Int32))) FU ((uJ σ 830 0 0 (17 : Int64))) (0 : Int32))
set_option maxRecDepth 100000 in
set_option maxHeartbeats 4000000 in
theorem t_X8_digest_L9 (X : GX) (k30 : Mem → Option (Mem × Int64)) (hk30 : ∀ (σ : Mem), GS (KM enJ X) X mX8_digest σ 30 [(0, .ref (xad X (98)))] [] (k30 σ)) : ∀ (n : Nat) (σ : Mem) (x1 : Int32), GS (KM enJ X) X mX8_digest σ 9 [(0, .ref (xad X (98))), (1, .int x1)] [] (X8_digest_L9 k30 n σ x1) := by
  intro n
  induction n with
  | zero => intros; exact g_none
  | succ n ih =>
    intro σ x1
    rw [X8_digest_L9]
    refine g_iload_n 1 dX8_digest_9 rfl ?_
    refine g_bipush (8 : Int32) dX8_digest_10 (by decide) ?_
    refine g_icmp_gt 30 dX8_digest_12 rfl (fun _ => ?_) (fun _ => ?_)
    · refine g_sub [0] rfl ?_
      exact hk30 σ
    · refine g_aload_n 0 dX8_digest_15 rfl ?_
      refine g_aload_n 0 dX8_digest_16 rfl ?_
      refine g_iload_n 1 dX8_digest_17 rfl ?_
      refine g_callVI (c_X8_tells σ x1) okX8_tells ⟨by decide, by decide⟩ ml_X8_283 sh_98 no_98 rfl rfl [.int x1] rfl rfl rfl (Nat.le_of_ble_eq_true rfl) dX8_digest_18 (fun q1 => ?_)
      refine g_callVV (c_X8_mix q1.1 q1.2) okX8_mix ⟨by decide, by decide⟩ ml_X8_291 sh_98 no_98 rfl rfl [.int (q1.2)] rfl rfl rfl (Nat.le_of_ble_eq_true rfl) dX8_digest_21 (fun q2 => ?_)
      refine g_iinc 1 [(1, .int ((x1 + (1 : Int32)))), (0, .ref (xad X (98)))] dX8_digest_24 rfl (v := x1 + (1 : Int32)) rfl (by decide) rfl ?_
      refine g_goto 9 dX8_digest_27 rfl ?_
      refine g_sub [1, 0] rfl ?_
      exact ih q2.1 ((x1 + (1 : Int32)))

set_option maxRecDepth 100000 in
set_option maxHeartbeats 4000000 in
theorem t_X8_digest_L67 (X : GX) (x1 : Int32) (k93 : Mem → Option (Mem × Int64)) (hk93 : ∀ (σ : Mem), GS (KM enJ X) X mX8_digest σ 93 [(0, .ref (xad X (98))), (1, .int x1)] [] (k93 σ)) : ∀ (n : Nat) (σ : Mem) (x2 : Int32), GS (KM enJ X) X mX8_digest σ 67 [(0, .ref (xad X (98))), (1, .int x1), (2, .int x2)] [] (X8_digest_L67 x1 k93 n σ x2) := by
  intro n
  induction n with
  | zero => intros; exact g_none
  | succ n ih =>
    intro σ x2
    rw [X8_digest_L67]
    refine g_iload_n 2 dX8_digest_67 rfl ?_
    refine g_aload_n 0 dX8_digest_68 rfl ?_
    refine gf_X8_5 fl_X8_17 dX8_digest_69 ?_
    refine g_iload_n 1 dX8_digest_72 rfl ?_
    refine g_iald sh_100 no_100 dX8_digest_73 (fun _ => ?_)
    refine g_icmp_ge 93 dX8_digest_74 rfl (fun _ => ?_) (fun _ => ?_)
    · refine g_sub [0, 1] rfl ?_
      exact hk93 σ
    · refine g_aload_n 0 dX8_digest_77 rfl ?_
      refine g_aload_n 0 dX8_digest_78 rfl ?_
      refine g_iload_n 1 dX8_digest_79 rfl ?_
      refine g_iload_n 2 dX8_digest_80 rfl ?_
      refine g_callVI (c_X8_rowAt σ x1 x2) okX8_rowAt ⟨by decide, by decide⟩ ml_X8_105 sh_98 no_98 rfl rfl [.int x1, .int x2] rfl rfl rfl (Nat.le_of_ble_eq_true rfl) dX8_digest_81 (fun q8 => ?_)
      refine g_callVV (c_X8_mix q8.1 q8.2) okX8_mix ⟨by decide, by decide⟩ ml_X8_291 sh_98 no_98 rfl rfl [.int (q8.2)] rfl rfl rfl (Nat.le_of_ble_eq_true rfl) dX8_digest_84 (fun q9 => ?_)
      refine g_iinc 2 [(2, .int ((x2 + (1 : Int32)))), (0, .ref (xad X (98))), (1, .int x1)] dX8_digest_87 rfl (v := x2 + (1 : Int32)) rfl (by decide) rfl ?_
      refine g_goto 67 dX8_digest_90 rfl ?_
      refine g_sub [1, 2, 0] rfl ?_
      exact ih q9.1 ((x2 + (1 : Int32)))

set_option maxRecDepth 100000 in
set_option maxHeartbeats 4000000 in
theorem t_X8_digest_L36 (X : GX) (k99 : Mem → Option (Mem × Int64)) (hk99 : ∀ (σ : Mem), GS (KM enJ X) X mX8_digest σ 99 [(0, .ref (xad X (98)))] [] (k99 σ)) : ∀ (n : Nat) (σ : Mem) (x1 : Int32), GS (KM enJ X) X mX8_digest σ 36 [(0, .ref (xad X (98))), (1, .int x1)] [] (X8_digest_L36 k99 n σ x1) := by
  intro n
  induction n with
  | zero => intros; exact g_none
  | succ n ih =>
    intro σ x1
    rw [X8_digest_L36]
    refine g_iload_n 1 dX8_digest_36 rfl ?_
    refine g_bipush (6 : Int32) dX8_digest_37 (by decide) ?_
    refine g_icmp_ge 99 dX8_digest_39 rfl (fun _ => ?_) (fun _ => ?_)
    · refine g_sub [0] rfl ?_
      exact hk99 σ
    · refine g_aload_n 0 dX8_digest_42 rfl ?_
      refine g_aload_n 0 dX8_digest_43 rfl ?_
      refine gf_X8_5 fl_X8_17 dX8_digest_44 ?_
      refine g_iload_n 1 dX8_digest_47 rfl ?_
      refine g_iald sh_100 no_100 dX8_digest_48 (fun _ => ?_)
      refine g_if_ge 56 dX8_digest_49 rfl (fun _ => ?_) (fun _ => ?_)
      · refine g_aload_n 0 dX8_digest_56 rfl ?_
        refine gf_X8_5 fl_X8_17 dX8_digest_57 ?_
        refine g_iload_n 1 dX8_digest_60 rfl ?_
        refine g_iald sh_100 no_100 dX8_digest_61 (fun _ => ?_)
        refine g_callVV (c_X8_mix σ ((σ.1 805 0 x1.toNatClampNeg))) okX8_mix ⟨by decide, by decide⟩ ml_X8_291 sh_98 no_98 rfl rfl [.int ((σ.1 805 0 x1.toNatClampNeg))] rfl rfl rfl (Nat.le_of_ble_eq_true rfl) dX8_digest_62 (fun q7 => ?_)
        refine g_iconst (0 : Int32) dX8_digest_65 (by decide) ?_
        refine g_istore_n [(2, .int ((0 : Int32))), (0, .ref (xad X (98))), (1, .int x1)] dX8_digest_66 (by decide) rfl ?_
        refine g_sub [1, 2, 0] rfl ?_
        refine t_X8_digest_L67 X x1 _ (fun s12 => ?_) FU q7.1 (0 : Int32)
        refine g_iinc 1 [(1, .int ((x1 + (1 : Int32)))), (0, .ref (xad X (98)))] dX8_digest_93 rfl (v := x1 + (1 : Int32)) rfl (by decide) rfl ?_
        refine g_goto 36 dX8_digest_96 rfl ?_
        refine g_sub [1, 0] rfl ?_
        exact ih s12 ((x1 + (1 : Int32)))
      · refine g_iconst (-1 : Int32) dX8_digest_52 (by decide) ?_
        refine g_goto 62 dX8_digest_53 rfl ?_
        refine g_callVV (c_X8_mix σ (-1 : Int32)) okX8_mix ⟨by decide, by decide⟩ ml_X8_291 sh_98 no_98 rfl rfl [.int ((-1 : Int32))] rfl rfl rfl (Nat.le_of_ble_eq_true rfl) dX8_digest_62 (fun q14 => ?_)
        refine g_iconst (0 : Int32) dX8_digest_65 (by decide) ?_
        refine g_istore_n [(2, .int ((0 : Int32))), (0, .ref (xad X (98))), (1, .int x1)] dX8_digest_66 (by decide) rfl ?_
        refine g_sub [1, 2, 0] rfl ?_
        refine t_X8_digest_L67 X x1 _ (fun s16 => ?_) FU q14.1 (0 : Int32)
        refine g_iinc 1 [(1, .int ((x1 + (1 : Int32)))), (0, .ref (xad X (98)))] dX8_digest_93 rfl (v := x1 + (1 : Int32)) rfl (by decide) rfl ?_
        refine g_goto 36 dX8_digest_96 rfl ?_
        refine g_sub [1, 0] rfl ?_
        exact ih s16 ((x1 + (1 : Int32)))

set_option maxRecDepth 100000 in
set_option maxHeartbeats 4000000 in
theorem t_X8_digest_L131 (X : GX) (x1 : Int32) (k162 : Mem → Option (Mem × Int64)) (hk162 : ∀ (σ : Mem), GS (KM enJ X) X mX8_digest σ 162 [(0, .ref (xad X (98))), (1, .int x1)] [] (k162 σ)) : ∀ (n : Nat) (σ : Mem) (x2 : Int32), GS (KM enJ X) X mX8_digest σ 131 [(0, .ref (xad X (98))), (1, .int x1), (2, .int x2)] [] (X8_digest_L131 x1 k162 n σ x2) := by
  intro n
  induction n with
  | zero => intros; exact g_none
  | succ n ih =>
    intro σ x2
    rw [X8_digest_L131]
    refine g_iload_n 2 dX8_digest_131 rfl ?_
    refine g_aload_n 0 dX8_digest_132 rfl ?_
    refine gf_X8_8 fl_X8_26 dX8_digest_133 ?_
    refine g_iload_n 1 dX8_digest_136 rfl ?_
    refine g_iald sh_103 no_103 dX8_digest_137 (fun _ => ?_)
    refine g_icmp_ge 162 dX8_digest_138 rfl (fun _ => ?_) (fun _ => ?_)
    · refine g_sub [0, 1] rfl ?_
      exact hk162 σ
    · refine g_aload_n 0 dX8_digest_141 rfl ?_
      refine g_aload_n 0 dX8_digest_142 rfl ?_
      refine gf_X8_9 fl_X8_29 dX8_digest_143 ?_
      refine g_bipush (60 : Int32) dX8_digest_146 (by decide) ?_
      refine g_iload_n 1 dX8_digest_148 rfl ?_
      refine g_imul dX8_digest_149 ?_
      refine g_iload_n 2 dX8_digest_150 rfl ?_
      refine g_iadd dX8_digest_151 ?_
      refine g_iald sh_104 no_104 dX8_digest_152 (fun _ => ?_)
      refine g_callVV (c_X8_mix σ ((σ.1 809 0 (((60 : Int32) * x1) + x2).toNatClampNeg))) okX8_mix ⟨by decide, by decide⟩ ml_X8_291 sh_98 no_98 rfl rfl [.int ((σ.1 809 0 (((60 : Int32) * x1) + x2).toNatClampNeg))] rfl rfl rfl (Nat.le_of_ble_eq_true rfl) dX8_digest_153 (fun q21 => ?_)
      refine g_iinc 2 [(2, .int ((x2 + (1 : Int32)))), (0, .ref (xad X (98))), (1, .int x1)] dX8_digest_156 rfl (v := x2 + (1 : Int32)) rfl (by decide) rfl ?_
      refine g_goto 131 dX8_digest_159 rfl ?_
      refine g_sub [1, 2, 0] rfl ?_
      exact ih q21.1 ((x2 + (1 : Int32)))

set_option maxRecDepth 100000 in
set_option maxHeartbeats 4000000 in
theorem t_X8_digest_L101 (X : GX) (k168 : Mem → Option (Mem × Int64)) (hk168 : ∀ (σ : Mem), GS (KM enJ X) X mX8_digest σ 168 [(0, .ref (xad X (98)))] [] (k168 σ)) : ∀ (n : Nat) (σ : Mem) (x1 : Int32), GS (KM enJ X) X mX8_digest σ 101 [(0, .ref (xad X (98))), (1, .int x1)] [] (X8_digest_L101 k168 n σ x1) := by
  intro n
  induction n with
  | zero => intros; exact g_none
  | succ n ih =>
    intro σ x1
    rw [X8_digest_L101]
    refine g_iload_n 1 dX8_digest_101 rfl ?_
    refine g_iconst (4 : Int32) dX8_digest_102 (by decide) ?_
    refine g_icmp_ge 168 dX8_digest_103 rfl (fun _ => ?_) (fun _ => ?_)
    · refine g_sub [0] rfl ?_
      exact hk168 σ
    · refine g_aload_n 0 dX8_digest_106 rfl ?_
      refine g_aload_n 0 dX8_digest_107 rfl ?_
      refine gf_X8_8 fl_X8_26 dX8_digest_108 ?_
      refine g_iload_n 1 dX8_digest_111 rfl ?_
      refine g_iald sh_103 no_103 dX8_digest_112 (fun _ => ?_)
      refine g_if_ge 120 dX8_digest_113 rfl (fun _ => ?_) (fun _ => ?_)
      · refine g_aload_n 0 dX8_digest_120 rfl ?_
        refine gf_X8_8 fl_X8_26 dX8_digest_121 ?_
        refine g_iload_n 1 dX8_digest_124 rfl ?_
        refine g_iald sh_103 no_103 dX8_digest_125 (fun _ => ?_)
        refine g_callVV (c_X8_mix σ ((σ.1 808 0 x1.toNatClampNeg))) okX8_mix ⟨by decide, by decide⟩ ml_X8_291 sh_98 no_98 rfl rfl [.int ((σ.1 808 0 x1.toNatClampNeg))] rfl rfl rfl (Nat.le_of_ble_eq_true rfl) dX8_digest_126 (fun q20 => ?_)
        refine g_iconst (0 : Int32) dX8_digest_129 (by decide) ?_
        refine g_istore_n [(2, .int ((0 : Int32))), (0, .ref (xad X (98))), (1, .int x1)] dX8_digest_130 (by decide) rfl ?_
        refine g_sub [1, 2, 0] rfl ?_
        refine t_X8_digest_L131 X x1 _ (fun s24 => ?_) FU q20.1 (0 : Int32)
        refine g_iinc 1 [(1, .int ((x1 + (1 : Int32)))), (0, .ref (xad X (98)))] dX8_digest_162 rfl (v := x1 + (1 : Int32)) rfl (by decide) rfl ?_
        refine g_goto 101 dX8_digest_165 rfl ?_
        refine g_sub [1, 0] rfl ?_
        exact ih s24 ((x1 + (1 : Int32)))
      · refine g_iconst (-1 : Int32) dX8_digest_116 (by decide) ?_
        refine g_goto 126 dX8_digest_117 rfl ?_
        refine g_callVV (c_X8_mix σ (-1 : Int32)) okX8_mix ⟨by decide, by decide⟩ ml_X8_291 sh_98 no_98 rfl rfl [.int ((-1 : Int32))] rfl rfl rfl (Nat.le_of_ble_eq_true rfl) dX8_digest_126 (fun q26 => ?_)
        refine g_iconst (0 : Int32) dX8_digest_129 (by decide) ?_
        refine g_istore_n [(2, .int ((0 : Int32))), (0, .ref (xad X (98))), (1, .int x1)] dX8_digest_130 (by decide) rfl ?_
        refine g_sub [1, 2, 0] rfl ?_
        refine t_X8_digest_L131 X x1 _ (fun s28 => ?_) FU q26.1 (0 : Int32)
        refine g_iinc 1 [(1, .int ((x1 + (1 : Int32)))), (0, .ref (xad X (98)))] dX8_digest_162 rfl (v := x1 + (1 : Int32)) rfl (by decide) rfl ?_
        refine g_goto 101 dX8_digest_165 rfl ?_
        refine g_sub [1, 0] rfl ?_
        exact ih s28 ((x1 + (1 : Int32)))

set_option maxRecDepth 100000 in
set_option maxHeartbeats 4000000 in
theorem c_X8_digest (σ : Mem) : CT yX8_digest mX8_digest enJ (fun ad => [.ref (ad (98))]) σ (X8_digest σ) := by
  refine CT.of (by decide) rfl (fun _ => Nat.le_of_ble_eq_true rfl) (fun X => ?_)
  show GS (KM enJ X) X mX8_digest σ 0 [(0, .ref (xad X (98)))] [] _
  unfold X8_digest
  refine g_aload_n 0 dX8_digest_0 rfl ?_
  refine g_ldc2 (17 : Int64) dX8_digest_1 kl_X8_294 ?_
  refine pf_X8_30 fl_X8_288 dX8_digest_4 ?_
  refine g_iconst (0 : Int32) dX8_digest_7 (by decide) ?_
  refine g_istore_n [(1, .int ((0 : Int32))), (0, .ref (xad X (98)))] dX8_digest_8 (by decide) rfl ?_
  refine g_sub [1, 0] rfl ?_
  refine t_X8_digest_L9 X _ (fun s5 => ?_) FU ((uJ σ 830 0 0 (17 : Int64))) (0 : Int32)
  refine g_aload_n 0 dX8_digest_30 rfl ?_
  refine g_callVV (c_X8_mixPress s5) okX8_mixPress ⟨by decide, by decide⟩ ml_X8_296 sh_98 no_98 rfl rfl [] rfl rfl rfl (Nat.le_of_ble_eq_true rfl) dX8_digest_31 (fun q6 => ?_)
  refine g_iconst (0 : Int32) dX8_digest_34 (by decide) ?_
  refine g_istore_n [(1, .int ((0 : Int32))), (0, .ref (xad X (98)))] dX8_digest_35 (by decide) rfl ?_
  refine g_sub [1, 0] rfl ?_
  refine t_X8_digest_L36 X _ (fun s19 => ?_) FU q6.1 (0 : Int32)
  refine g_iconst (0 : Int32) dX8_digest_99 (by decide) ?_
  refine g_istore_n [(1, .int ((0 : Int32))), (0, .ref (xad X (98)))] dX8_digest_100 (by decide) rfl ?_
  refine g_sub [1, 0] rfl ?_
  refine t_X8_digest_L101 X _ (fun s31 => ?_) FU s19 (0 : Int32)
  refine g_aload_n 0 dX8_digest_168 rfl ?_
  refine gf_X8_30 fl_X8_288 dX8_digest_169 ?_
  exact g_lret rfl dX8_digest_172

