def X7_digest_L6 (k31 : Mem → Int64 → Option (Mem × Int64)) : Nat → Mem → Int64 → Int32 → Option (Mem × Int64)
  | 0, _, _, _ => none
  | n + 1, σ, x1, x3 => (if (8 : Int32) < x3 then k31 σ x1 else ((X7_count σ x3).bind fun q1 => lt_ ((((31 : Int64) * x1) + q1.2.toInt64)) fun (v2 : Int64) => X7_digest_L6 k31 n q1.1 v2 ((x3 + (1 : Int32)))))
def X7_digest_L46 (k94 : Mem → Int64 → Option (Mem × Int64)) : Nat → Mem → Int64 → Int32 → Option (Mem × Int64)
  | 0, _, _, _ => none
  | n + 1, σ, x1, x3 => (if (3 : Int32) ≤ x3 then k94 σ x1 else (ck x3 3 <| if (1 + x3.toNatClampNeg) < 4 then (X2_isKept σ ((1 + x3.toNatClampNeg))).bind fun q8 => if q8.2 = 0 then (lt_ ((((31 : Int64) * x1) + (-1 : Int32).toInt64)) fun (v9 : Int64) => X7_digest_L46 k94 n q8.1 v9 ((x3 + (1 : Int32)))) else (ck x3 3 <| if (1 + x3.toNatClampNeg) < 4 then (lt_ ((((31 : Int64) * x1) + (q8.1.1 204 (1 + x3.toNatClampNeg) 0).toInt64)) fun (v12 : Int64) => X7_digest_L46 k94 n q8.1 v12 ((x3 + (1 : Int32)))) else none) else none))
def X7_digest_L96 (k122 : Mem → Int64 → Option (Mem × Int64)) : Nat → Mem → Int64 → Int32 → Option (Mem × Int64)
  | 0, _, _, _ => none
  | n + 1, σ, x1, x3 => (if (6 : Int32) ≤ x3 then k122 σ x1 else (ck x3 6 <| if (0 + x3.toNatClampNeg) < 11 then (X4_digested σ ((0 + x3.toNatClampNeg)) x1).bind fun q17 => X7_digest_L96 k122 n q17.1 q17.2 ((x3 + (1 : Int32))) else none))
def X7_digest_L124 (k150 : Mem → Int64 → Option (Mem × Int64)) : Nat → Mem → Int64 → Int32 → Option (Mem × Int64)
  | 0, _, _, _ => none
  | n + 1, σ, x1, x3 => (if (4 : Int32) ≤ x3 then k150 σ x1 else (ck x3 4 <| if (6 + x3.toNatClampNeg) < 11 then (X4_digested σ ((6 + x3.toNatClampNeg)) x1).bind fun q22 => X7_digest_L124 k150 n q22.1 q22.2 ((x3 + (1 : Int32))) else none))
def X7_digest (σ : Mem) : Option (Mem × Int64) := (X7_digest_L6 (fun (s5 : Mem) (y1_4 : Int64) => ((X2_digested s5 0 y1_4 10).bind fun q6 => X7_digest_L46 (fun (s15 : Mem) (y1_14 : Int64) => (X7_digest_L96 (fun (s20 : Mem) (y1_19 : Int64) => (X7_digest_L124 (fun (s25 : Mem) (y1_24 : Int64) => (some (s25, y1_24))) FU s20 y1_19 (0 : Int32))) FU s15 y1_14 (0 : Int32))) FU q6.1 q6.2 (0 : Int32))) FU σ (17 : Int64) (0 : Int32))
set_option maxRecDepth 100000 in
set_option maxHeartbeats 4000000 in
theorem t_X7_digest_L6 (X : GX) (k31 : Mem → Int64 → Option (Mem × Int64)) (hk31 : ∀ (σ : Mem) (y1 : Int64), GS (KM enJ X) X mX7_digest σ 31 [(0, .ref (xad X (0))), (1, .long y1)] [] (k31 σ y1)) : ∀ (n : Nat) (σ : Mem) (x1 : Int64) (x3 : Int32), GS (KM enJ X) X mX7_digest σ 6 [(0, .ref (xad X (0))), (1, .long x1), (3, .int x3)] [] (X7_digest_L6 k31 n σ x1 x3) := by
  intro n
  induction n with
  | zero => intros; exact g_none
  | succ n ih =>
    intro σ x1 x3
    rw [X7_digest_L6]
    refine g_iload_n 2 dX7_digest_6 rfl ?_
    refine g_bipush (8 : Int32) dX7_digest_7 (by decide) ?_
    refine g_icmp_gt 31 dX7_digest_9 rfl (fun _ => ?_) (fun _ => ?_)
    · refine g_sub [0, 1] rfl ?_
      exact hk31 σ x1
    · refine g_ldc2 (31 : Int64) dX7_digest_12 kl_X7_353 ?_
      refine g_lload_n 1 dX7_digest_15 rfl ?_
      refine g_lmul dX7_digest_16 ?_
      refine g_aload_n 0 dX7_digest_17 rfl ?_
      refine g_iload_n 2 dX7_digest_18 rfl ?_
      refine g_callVI (c_X7_count σ x3) okX7_count ⟨by decide, by decide⟩ ml_X7_355 sh_0 no_0 rfl rfl [.int x3] rfl rfl rfl (Nat.le_of_ble_eq_true rfl) dX7_digest_19 (fun q1 => ?_)
      refine g_i2l dX7_digest_22 ?_
      refine g_ladd dX7_digest_23 ?_
      refine g_topl (fun v2 => ?_)
      refine g_lstore_n [(1, .long v2), (0, .ref (xad X (0))), (3, .int x3)] dX7_digest_24 (by decide) rfl ?_
      refine g_iinc 2 [(3, .int ((x3 + (1 : Int32)))), (1, .long v2), (0, .ref (xad X (0)))] dX7_digest_25 rfl (v := x3 + (1 : Int32)) rfl (by decide) rfl ?_
      refine g_goto 6 dX7_digest_28 rfl ?_
      refine g_sub [2, 1, 0] rfl ?_
      exact ih q1.1 v2 ((x3 + (1 : Int32)))

set_option maxRecDepth 100000 in
set_option maxHeartbeats 4000000 in
theorem t_X7_digest_L46 (X : GX) (k94 : Mem → Int64 → Option (Mem × Int64)) (hk94 : ∀ (σ : Mem) (y1 : Int64), GS (KM enJ X) X mX7_digest σ 94 [(0, .ref (xad X (0))), (1, .long y1)] [] (k94 σ y1)) : ∀ (n : Nat) (σ : Mem) (x1 : Int64) (x3 : Int32), GS (KM enJ X) X mX7_digest σ 46 [(0, .ref (xad X (0))), (1, .long x1), (3, .int x3)] [] (X7_digest_L46 k94 n σ x1 x3) := by
  intro n
  induction n with
  | zero => intros; exact g_none
  | succ n ih =>
    intro σ x1 x3
    rw [X7_digest_L46]
    refine g_iload_n 2 dX7_digest_46 rfl ?_
    refine g_aload_n 0 dX7_digest_47 rfl ?_
    refine gf_X7_4 fl_X7_32 dX7_digest_48 ?_
    refine g_alen (v := (3 : Int32)) sh_3 no_3 (by decide) rfl dX7_digest_51 ?_
    refine g_icmp_ge 94 dX7_digest_52 rfl (fun _ => ?_) (fun _ => ?_)
    · refine g_sub [0, 1] rfl ?_
      exact hk94 σ x1
    · refine g_ldc2 (31 : Int64) dX7_digest_55 kl_X7_353 ?_
      refine g_lload_n 1 dX7_digest_58 rfl ?_
      refine g_lmul dX7_digest_59 ?_
      refine g_aload_n 0 dX7_digest_60 rfl ?_
      refine gf_X7_4 fl_X7_32 dX7_digest_61 ?_
      refine g_iload_n 2 dX7_digest_64 rfl ?_
      refine g_ald5 sh_3 no_3 dX7_digest_65 (fun _ => ?_)
      refine g_guard (fun h7 => ?_)
      refine g_callVI (c_X2_isKept σ ((1 + x3.toNatClampNeg))) okX2_isKept ⟨by decide, by decide⟩ ml_X7_335 (sh_X2 h7) (no_X2 h7) rfl rfl [] rfl rfl rfl (Nat.le_of_ble_eq_true rfl) dX7_digest_66 (fun q8 => ?_)
      refine g_if_eq 84 dX7_digest_69 rfl (fun _ => ?_) (fun _ => ?_)
      · refine g_iconst (-1 : Int32) dX7_digest_84 (by decide) ?_
        refine g_i2l dX7_digest_85 ?_
        refine g_ladd dX7_digest_86 ?_
        refine g_topl (fun v9 => ?_)
        refine g_lstore_n [(1, .long v9), (0, .ref (xad X (0))), (3, .int x3)] dX7_digest_87 (by decide) rfl ?_
        refine g_iinc 2 [(3, .int ((x3 + (1 : Int32)))), (1, .long v9), (0, .ref (xad X (0)))] dX7_digest_88 rfl (v := x3 + (1 : Int32)) rfl (by decide) rfl ?_
        refine g_goto 46 dX7_digest_91 rfl ?_
        refine g_sub [2, 1, 0] rfl ?_
        exact ih q8.1 v9 ((x3 + (1 : Int32)))
      · refine g_aload_n 0 dX7_digest_72 rfl ?_
        refine gf_X7_4 fl_X7_32 dX7_digest_73 ?_
        refine g_iload_n 2 dX7_digest_76 rfl ?_
        refine g_ald5 sh_3 no_3 dX7_digest_77 (fun _ => ?_)
        refine g_guard (fun h11 => ?_)
        refine gf_X2_4 h11 fl_X7_307 dX7_digest_78 ?_
        refine g_goto 85 dX7_digest_81 rfl ?_
        refine g_i2l dX7_digest_85 ?_
        refine g_ladd dX7_digest_86 ?_
        refine g_topl (fun v12 => ?_)
        refine g_lstore_n [(1, .long v12), (0, .ref (xad X (0))), (3, .int x3)] dX7_digest_87 (by decide) rfl ?_
        refine g_iinc 2 [(3, .int ((x3 + (1 : Int32)))), (1, .long v12), (0, .ref (xad X (0)))] dX7_digest_88 rfl (v := x3 + (1 : Int32)) rfl (by decide) rfl ?_
        refine g_goto 46 dX7_digest_91 rfl ?_
        refine g_sub [2, 1, 0] rfl ?_
        exact ih q8.1 v12 ((x3 + (1 : Int32)))

set_option maxRecDepth 100000 in
set_option maxHeartbeats 4000000 in
theorem t_X7_digest_L96 (X : GX) (k122 : Mem → Int64 → Option (Mem × Int64)) (hk122 : ∀ (σ : Mem) (y1 : Int64), GS (KM enJ X) X mX7_digest σ 122 [(0, .ref (xad X (0))), (1, .long y1)] [] (k122 σ y1)) : ∀ (n : Nat) (σ : Mem) (x1 : Int64) (x3 : Int32), GS (KM enJ X) X mX7_digest σ 96 [(0, .ref (xad X (0))), (1, .long x1), (3, .int x3)] [] (X7_digest_L96 k122 n σ x1 x3) := by
  intro n
  induction n with
  | zero => intros; exact g_none
  | succ n ih =>
    intro σ x1 x3
    rw [X7_digest_L96]
    refine g_iload_n 2 dX7_digest_96 rfl ?_
    refine g_aload_n 0 dX7_digest_97 rfl ?_
    refine gf_X7_0 fl_X7_11 dX7_digest_98 ?_
    refine g_alen (v := (6 : Int32)) sh_1 no_1 (by decide) rfl dX7_digest_101 ?_
    refine g_icmp_ge 122 dX7_digest_102 rfl (fun _ => ?_) (fun _ => ?_)
    · refine g_sub [0, 1] rfl ?_
      exact hk122 σ x1
    · refine g_aload_n 0 dX7_digest_105 rfl ?_
      refine gf_X7_0 fl_X7_11 dX7_digest_106 ?_
      refine g_iload_n 2 dX7_digest_109 rfl ?_
      refine g_ald3 sh_1 no_1 dX7_digest_110 (fun _ => ?_)
      refine g_guard (fun h16 => ?_)
      refine g_lload_n 1 dX7_digest_111 rfl ?_
      refine g_callVJ (c_X4_digested σ ((0 + x3.toNatClampNeg)) x1) okX4_digested ⟨by decide, by decide⟩ ml_X7_362 (sh_X4 h16) (no_X4 h16) rfl rfl [.long x1] rfl rfl rfl (Nat.le_of_ble_eq_true rfl) dX7_digest_112 (fun q17 => ?_)
      refine g_lstore_n [(1, .long (q17.2)), (0, .ref (xad X (0))), (3, .int x3)] dX7_digest_115 (by decide) rfl ?_
      refine g_iinc 2 [(3, .int ((x3 + (1 : Int32)))), (1, .long (q17.2)), (0, .ref (xad X (0)))] dX7_digest_116 rfl (v := x3 + (1 : Int32)) rfl (by decide) rfl ?_
      refine g_goto 96 dX7_digest_119 rfl ?_
      refine g_sub [2, 1, 0] rfl ?_
      exact ih q17.1 q17.2 ((x3 + (1 : Int32)))

set_option maxRecDepth 100000 in
set_option maxHeartbeats 4000000 in
theorem t_X7_digest_L124 (X : GX) (k150 : Mem → Int64 → Option (Mem × Int64)) (hk150 : ∀ (σ : Mem) (y1 : Int64), GS (KM enJ X) X mX7_digest σ 150 [(1, .long y1)] [] (k150 σ y1)) : ∀ (n : Nat) (σ : Mem) (x1 : Int64) (x3 : Int32), GS (KM enJ X) X mX7_digest σ 124 [(0, .ref (xad X (0))), (1, .long x1), (3, .int x3)] [] (X7_digest_L124 k150 n σ x1 x3) := by
  intro n
  induction n with
  | zero => intros; exact g_none
  | succ n ih =>
    intro σ x1 x3
    rw [X7_digest_L124]
    refine g_iload_n 2 dX7_digest_124 rfl ?_
    refine g_aload_n 0 dX7_digest_125 rfl ?_
    refine gf_X7_1 fl_X7_15 dX7_digest_126 ?_
    refine g_alen (v := (4 : Int32)) sh_2 no_2 (by decide) rfl dX7_digest_129 ?_
    refine g_icmp_ge 150 dX7_digest_130 rfl (fun _ => ?_) (fun _ => ?_)
    · refine g_sub [1] rfl ?_
      exact hk150 σ x1
    · refine g_aload_n 0 dX7_digest_133 rfl ?_
      refine gf_X7_1 fl_X7_15 dX7_digest_134 ?_
      refine g_iload_n 2 dX7_digest_137 rfl ?_
      refine g_ald3 sh_2 no_2 dX7_digest_138 (fun _ => ?_)
      refine g_guard (fun h21 => ?_)
      refine g_lload_n 1 dX7_digest_139 rfl ?_
      refine g_callVJ (c_X4_digested σ ((6 + x3.toNatClampNeg)) x1) okX4_digested ⟨by decide, by decide⟩ ml_X7_362 (sh_X4 h21) (no_X4 h21) rfl rfl [.long x1] rfl rfl rfl (Nat.le_of_ble_eq_true rfl) dX7_digest_140 (fun q22 => ?_)
      refine g_lstore_n [(1, .long (q22.2)), (0, .ref (xad X (0))), (3, .int x3)] dX7_digest_143 (by decide) rfl ?_
      refine g_iinc 2 [(3, .int ((x3 + (1 : Int32)))), (1, .long (q22.2)), (0, .ref (xad X (0)))] dX7_digest_144 rfl (v := x3 + (1 : Int32)) rfl (by decide) rfl ?_
      refine g_goto 124 dX7_digest_147 rfl ?_
      refine g_sub [2, 1, 0] rfl ?_
      exact ih q22.1 q22.2 ((x3 + (1 : Int32)))

set_option maxRecDepth 100000 in
set_option maxHeartbeats 4000000 in
theorem c_X7_digest (σ : Mem) : CT yX7_digest mX7_digest enJ (fun ad => [.ref (ad (0))]) σ (X7_digest σ) := by
  refine CT.of (by decide) rfl (fun _ => Nat.le_of_ble_eq_true rfl) (fun X => ?_)
  show GS (KM enJ X) X mX7_digest σ 0 [(0, .ref (xad X (0)))] [] _
  unfold X7_digest
  refine g_ldc2 (17 : Int64) dX7_digest_0 kl_X7_351 ?_
  refine g_lstore_n [(1, .long ((17 : Int64))), (0, .ref (xad X (0)))] dX7_digest_3 (by decide) rfl ?_
  refine g_iconst (0 : Int32) dX7_digest_4 (by decide) ?_
  refine g_istore_n [(3, .int ((0 : Int32))), (1, .long ((17 : Int64))), (0, .ref (xad X (0)))] dX7_digest_5 (by decide) rfl ?_
  refine g_sub [2, 1, 0] rfl ?_
  refine t_X7_digest_L6 X _ (fun s5 y1_4 => ?_) FU σ (17 : Int64) (0 : Int32)
  refine g_aload_n 0 dX7_digest_31 rfl ?_
  refine gf_X7_3 fl_X7_28 dX7_digest_32 ?_
  refine g_lload_n 1 dX7_digest_35 rfl ?_
  refine g_aload_n 0 dX7_digest_36 rfl ?_
  refine gf_X7_7 fl_X7_53 dX7_digest_37 ?_
  refine g_callVJ (c_X2_digested s5 0 y1_4 10) okX2_digested ⟨by decide, by decide⟩ ml_X7_358 (sh_X2 (by decide)) (no_X2 (by decide)) rfl rfl [.long y1_4, .ref (xad X (4 + 2 * 10))] rfl rfl rfl (Nat.le_of_ble_eq_true rfl) dX7_digest_40 (fun q6 => ?_)
  refine g_lstore_n [(1, .long (q6.2)), (0, .ref (xad X (0)))] dX7_digest_43 (by decide) rfl ?_
  refine g_iconst (0 : Int32) dX7_digest_44 (by decide) ?_
  refine g_istore_n [(3, .int ((0 : Int32))), (1, .long (q6.2)), (0, .ref (xad X (0)))] dX7_digest_45 (by decide) rfl ?_
  refine g_sub [2, 1, 0] rfl ?_
  refine t_X7_digest_L46 X _ (fun s15 y1_14 => ?_) FU q6.1 q6.2 (0 : Int32)
  refine g_iconst (0 : Int32) dX7_digest_94 (by decide) ?_
  refine g_istore_n [(3, .int ((0 : Int32))), (0, .ref (xad X (0))), (1, .long y1_14)] dX7_digest_95 (by decide) rfl ?_
  refine g_sub [1, 2, 0] rfl ?_
  refine t_X7_digest_L96 X _ (fun s20 y1_19 => ?_) FU s15 y1_14 (0 : Int32)
  refine g_iconst (0 : Int32) dX7_digest_122 (by decide) ?_
  refine g_istore_n [(3, .int ((0 : Int32))), (0, .ref (xad X (0))), (1, .long y1_19)] dX7_digest_123 (by decide) rfl ?_
  refine g_sub [1, 2, 0] rfl ?_
  refine t_X7_digest_L124 X _ (fun s25 y1_24 => ?_) FU s20 y1_19 (0 : Int32)
  refine g_lload_n 0 dX7_digest_150 rfl ?_
  exact g_lret rfl dX7_digest_151

def X8_in (σ : Mem) (a0 : Int32) (a1 : Int32) (a2 : Int32) : Option (Mem × Int32) := (if a0 < a1 then (if (0 : Int32) = 0 ∨ (0 : Int32) = 1 then some (σ, (0 : Int32)) else none) else (if a2 < a0 then (if (0 : Int32) = 0 ∨ (0 : Int32) = 1 then some (σ, (0 : Int32)) else none) else ((if (1 : Int32) = 0 ∨ (1 : Int32) = 1 then some (σ, (1 : Int32)) else none))))
set_option maxRecDepth 100000 in
set_option maxHeartbeats 4000000 in
theorem c_X8_in (σ : Mem) (a0 : Int32) (a1 : Int32) (a2 : Int32) : CT yX8_in mX8_in enI (fun ad => [.int a0, .int a1, .int a2]) σ (X8_in σ a0 a1 a2) := by
  refine CT.of (by decide) rfl (fun _ => Nat.le_of_ble_eq_true rfl) (fun X => ?_)
  show GS (KM enI X) X mX8_in σ 0 [(0, .int a0), (1, .int a1), (2, .int a2)] [] _
  unfold X8_in
  refine g_iload_n 0 dX8_in_0 rfl ?_
  refine g_iload_n 1 dX8_in_1 rfl ?_
  refine g_icmp_lt 14 dX8_in_2 rfl (fun _ => ?_) (fun _ => ?_)
  · refine g_iconst (0 : Int32) dX8_in_14 (by decide) ?_
    exact g_zret rfl dX8_in_15
  · refine g_iload_n 0 dX8_in_5 rfl ?_
    refine g_iload_n 2 dX8_in_6 rfl ?_
    refine g_icmp_gt 14 dX8_in_7 rfl (fun _ => ?_) (fun _ => ?_)
    · refine g_iconst (0 : Int32) dX8_in_14 (by decide) ?_
      exact g_zret rfl dX8_in_15
    · refine g_iconst (1 : Int32) dX8_in_10 (by decide) ?_
      refine g_goto 15 dX8_in_11 rfl ?_
      exact g_zret rfl dX8_in_15

def X8_meet (σ : Mem) (a1 : Int32) : Option (Mem × Int32) := (ck a1 6 <| ck a1 6 <| some ((uI ((uI σ 800 0 0 a1)) 801 0 a1.toNatClampNeg ((((uI σ 800 0 0 a1)).1 801 0 a1.toNatClampNeg) + (1 : Int32))), (-3 : Int32)))
set_option maxRecDepth 100000 in
set_option maxHeartbeats 4000000 in
theorem c_X8_meet (σ : Mem) (a1 : Int32) : CT yX8_meet mX8_meet enI (fun ad => [.ref (ad (98)), .int a1]) σ (X8_meet σ a1) := by
  refine CT.of (by decide) rfl (fun _ => Nat.le_of_ble_eq_true rfl) (fun X => ?_)
  show GS (KM enI X) X mX8_meet σ 0 [(0, .ref (xad X (98))), (1, .int a1)] [] _
  unfold X8_meet
  refine g_aload_n 0 dX8_meet_0 rfl ?_
  refine g_iload_n 1 dX8_meet_1 rfl ?_
  refine pf_X8_0 fl_X8_73 dX8_meet_2 ?_
  refine g_aload_n 0 dX8_meet_5 rfl ?_
  refine gf_X8_1 fl_X8_7 dX8_meet_6 ?_
  refine g_iload_n 1 dX8_meet_9 rfl ?_
  refine g_dup2 dX8_meet_10 rfl rfl ?_
  refine g_iald sh_99 no_99 dX8_meet_11 (fun _ => ?_)
  refine g_iconst (1 : Int32) dX8_meet_12 (by decide) ?_
  refine g_iadd dX8_meet_13 ?_
  refine g_iast sh_99 no_99 dX8_meet_14 (fun _ => ?_)
  refine g_bipush (-3 : Int32) dX8_meet_15 (by decide) ?_
  exact g_iret rfl dX8_meet_17

def X8_ask (σ : Mem) (a1 : Int32) (a2 : Int32) : Option (Mem × Int32) := (some ((uI σ 802 0 0 a1), a2))
set_option maxRecDepth 100000 in
set_option maxHeartbeats 4000000 in
theorem c_X8_ask (σ : Mem) (a1 : Int32) (a2 : Int32) : CT yX8_ask mX8_ask enI (fun ad => [.ref (ad (98)), .int a1, .int a2]) σ (X8_ask σ a1 a2) := by
  refine CT.of (by decide) rfl (fun _ => Nat.le_of_ble_eq_true rfl) (fun X => ?_)
  show GS (KM enI X) X mX8_ask σ 0 [(0, .ref (xad X (98))), (1, .int a1), (2, .int a2)] [] _
  unfold X8_ask
  refine g_aload_n 0 dX8_ask_0 rfl ?_
  refine g_iload_n 1 dX8_ask_1 rfl ?_
  refine pf_X8_2 fl_X8_77 dX8_ask_2 ?_
  refine g_iload_n 2 dX8_ask_5 rfl ?_
  exact g_iret rfl dX8_ask_6

def X8_has (σ : Mem) (a0 : Int32) (a1 : Int32) : Option (Mem × Int32) := (if ((a0 >>> (a1 &&& 31)) &&& (1 : Int32)) = (1 : Int32) then ((if (1 : Int32) = 0 ∨ (1 : Int32) = 1 then some (σ, (1 : Int32)) else none)) else (if (0 : Int32) = 0 ∨ (0 : Int32) = 1 then some (σ, (0 : Int32)) else none))
set_option maxRecDepth 100000 in
set_option maxHeartbeats 4000000 in
theorem c_X8_has (σ : Mem) (a0 : Int32) (a1 : Int32) : CT yX8_has mX8_has enI (fun ad => [.int a0, .int a1]) σ (X8_has σ a0 a1) := by
  refine CT.of (by decide) rfl (fun _ => Nat.le_of_ble_eq_true rfl) (fun X => ?_)
  show GS (KM enI X) X mX8_has σ 0 [(0, .int a0), (1, .int a1)] [] _
  unfold X8_has
  refine g_iload_n 0 dX8_has_0 rfl ?_
  refine g_iload_n 1 dX8_has_1 rfl ?_
  refine g_ishr dX8_has_2 ?_
  refine g_iconst (1 : Int32) dX8_has_3 (by decide) ?_
  refine g_iand dX8_has_4 ?_
  refine g_iconst (1 : Int32) dX8_has_5 (by decide) ?_
  refine g_icmp_ne 13 dX8_has_6 rfl (fun _ => ?_) (fun _ => ?_)
  · refine g_iconst (0 : Int32) dX8_has_13 (by decide) ?_
    exact g_zret rfl dX8_has_14
  · refine g_iconst (1 : Int32) dX8_has_9 (by decide) ?_
    refine g_goto 14 dX8_has_10 rfl ?_
    exact g_zret rfl dX8_has_14

def X8_sizeOf_L4 (x0 : Int32) (k24 : Mem → Int32 → Option (Mem × Int32)) : Nat → Mem → Int32 → Int32 → Option (Mem × Int32)
  | 0, _, _, _ => none
  | n + 1, σ, x1, x2 => (if (8 : Int32) ≤ x2 then k24 σ x1 else (lt_ ((x1 + ((x0 >>> (x2 &&& 31)) &&& (1 : Int32)))) fun (v1 : Int32) => X8_sizeOf_L4 x0 k24 n σ v1 ((x2 + (1 : Int32)))))
def X8_sizeOf (σ : Mem) (a0 : Int32) : Option (Mem × Int32) := (X8_sizeOf_L4 a0 (fun (s4 : Mem) (y1_3 : Int32) => (some (s4, y1_3))) FU σ (0 : Int32) (0 : Int32))
set_option maxRecDepth 100000 in
set_option maxHeartbeats 4000000 in
theorem t_X8_sizeOf_L4 (X : GX) (x0 : Int32) (k24 : Mem → Int32 → Option (Mem × Int32)) (hk24 : ∀ (σ : Mem) (y1 : Int32), GS (KM enI X) X mX8_sizeOf σ 24 [(1, .int y1)] [] (k24 σ y1)) : ∀ (n : Nat) (σ : Mem) (x1 : Int32) (x2 : Int32), GS (KM enI X) X mX8_sizeOf σ 4 [(0, .int x0), (1, .int x1), (2, .int x2)] [] (X8_sizeOf_L4 x0 k24 n σ x1 x2) := by
  intro n
  induction n with
  | zero => intros; exact g_none
  | succ n ih =>
    intro σ x1 x2
    rw [X8_sizeOf_L4]
    refine g_iload_n 2 dX8_sizeOf_4 rfl ?_
    refine g_bipush (8 : Int32) dX8_sizeOf_5 (by decide) ?_
    refine g_icmp_ge 24 dX8_sizeOf_7 rfl (fun _ => ?_) (fun _ => ?_)
    · refine g_sub [1] rfl ?_
      exact hk24 σ x1
    · refine g_iload_n 1 dX8_sizeOf_10 rfl ?_
      refine g_iload_n 0 dX8_sizeOf_11 rfl ?_
      refine g_iload_n 2 dX8_sizeOf_12 rfl ?_
      refine g_ishr dX8_sizeOf_13 ?_
      refine g_iconst (1 : Int32) dX8_sizeOf_14 (by decide) ?_
      refine g_iand dX8_sizeOf_15 ?_
      refine g_iadd dX8_sizeOf_16 ?_
      refine g_topi (fun v1 => ?_)
      refine g_istore_n [(1, .int v1), (0, .int x0), (2, .int x2)] dX8_sizeOf_17 (by decide) rfl ?_
      refine g_iinc 2 [(2, .int ((x2 + (1 : Int32)))), (1, .int v1), (0, .int x0)] dX8_sizeOf_18 rfl (v := x2 + (1 : Int32)) rfl (by decide) rfl ?_
      refine g_goto 4 dX8_sizeOf_21 rfl ?_
      refine g_sub [2, 1, 0] rfl ?_
      exact ih σ v1 ((x2 + (1 : Int32)))

set_option maxRecDepth 100000 in
set_option maxHeartbeats 4000000 in
theorem c_X8_sizeOf (σ : Mem) (a0 : Int32) : CT yX8_sizeOf mX8_sizeOf enI (fun ad => [.int a0]) σ (X8_sizeOf σ a0) := by
  refine CT.of (by decide) rfl (fun _ => Nat.le_of_ble_eq_true rfl) (fun X => ?_)
  show GS (KM enI X) X mX8_sizeOf σ 0 [(0, .int a0)] [] _
  unfold X8_sizeOf
  refine g_iconst (0 : Int32) dX8_sizeOf_0 (by decide) ?_
  refine g_istore_n [(1, .int ((0 : Int32))), (0, .int a0)] dX8_sizeOf_1 (by decide) rfl ?_
  refine g_iconst (0 : Int32) dX8_sizeOf_2 (by decide) ?_
  refine g_istore_n [(2, .int ((0 : Int32))), (1, .int ((0 : Int32))), (0, .int a0)] dX8_sizeOf_3 (by decide) rfl ?_
  refine g_sub [2, 1, 0] rfl ?_
  refine t_X8_sizeOf_L4 X a0 _ (fun s4 y1_3 => ?_) FU σ (0 : Int32) (0 : Int32)
  refine g_iload_n 0 dX8_sizeOf_24 rfl ?_
  exact g_iret rfl dX8_sizeOf_25

def X8_part_L6 (x1 : Int64) (x3 : Int64) (k31 : Mem → Int64 → Option (Mem × Int32)) : Nat → Mem → Int64 → Int64 → Option (Mem × Int32)
  | 0, _, _, _ => none
  | n + 1, σ, x5, x7 => (if (lg_cmp x7 (0 : Int64)) = 0 then k31 σ x5 else (if x7 = 0 then none else lt_ ((x5 - x5 / x7 * x7)) fun (v1 : Int64) => X8_part_L6 x1 x3 k31 n σ x7 v1))
def X8_part (σ : Mem) (a1 : Int64) (a3 : Int64) : Option (Mem × Int32) := (X8_part_L6 a1 a3 (fun (s3 : Mem) (y5_2 : Int64) => (if y5_2 = 0 then none else if y5_2 = 0 then none else some ((uJ ((uJ s3 803 0 0 ((a1 / y5_2)))) 804 0 0 ((a3 / y5_2))), (1 : Int32)))) FU σ a1 a3)
set_option maxRecDepth 100000 in
set_option maxHeartbeats 4000000 in
theorem t_X8_part_L6 (X : GX) (x1 : Int64) (x3 : Int64) (k31 : Mem → Int64 → Option (Mem × Int32)) (hk31 : ∀ (σ : Mem) (y5 : Int64), GS (KM enI X) X mX8_part σ 31 [(0, .ref (xad X (98))), (1, .long x1), (3, .long x3), (5, .long y5)] [] (k31 σ y5)) : ∀ (n : Nat) (σ : Mem) (x5 : Int64) (x7 : Int64), GS (KM enI X) X mX8_part σ 6 [(0, .ref (xad X (98))), (1, .long x1), (3, .long x3), (5, .long x5), (7, .long x7)] [] (X8_part_L6 x1 x3 k31 n σ x5 x7) := by
  intro n
  induction n with
  | zero => intros; exact g_none
  | succ n ih =>
    intro σ x5 x7
    rw [X8_part_L6]
    refine g_lload 4 dX8_part_6 rfl ?_
    refine g_lconst (0 : Int64) dX8_part_8 (by decide) ?_
    refine g_lcmp dX8_part_9 ?_
    refine g_if_eq 31 dX8_part_10 rfl (fun _ => ?_) (fun _ => ?_)
    · refine g_sub [0, 1, 2, 3] rfl ?_
      exact hk31 σ x5
    · refine g_lload 3 dX8_part_13 rfl ?_
      refine g_lload 4 dX8_part_15 rfl ?_
      refine g_lrem dX8_part_17 (fun _ => ?_)
      refine g_topl (fun v1 => ?_)
      refine g_lstore [(9, .long v1), (0, .ref (xad X (98))), (1, .long x1), (3, .long x3), (5, .long x5), (7, .long x7)] dX8_part_18 (by decide) rfl ?_
      refine g_lload 5 dX8_part_20 rfl ?_
      refine g_lstore [(5, .long x7), (9, .long v1), (0, .ref (xad X (98))), (1, .long x1), (3, .long x3), (7, .long x7)] dX8_part_22 (by decide) rfl ?_
      refine g_lload 1 dX8_part_24 rfl ?_
      refine g_lstore [(7, .long v1), (5, .long x7), (9, .long v1), (0, .ref (xad X (98))), (1, .long x1), (3, .long x3)] dX8_part_26 (by decide) rfl ?_
      refine g_goto 6 dX8_part_28 rfl ?_
      refine g_sub [3, 4, 5, 1, 0] rfl ?_
      exact ih σ x7 v1

set_option maxRecDepth 100000 in
set_option maxHeartbeats 4000000 in
theorem c_X8_part (σ : Mem) (a1 : Int64) (a3 : Int64) : CT yX8_part mX8_part enI (fun ad => [.ref (ad (98)), .long a1, .long a3]) σ (X8_part σ a1 a3) := by
  refine CT.of (by decide) rfl (fun _ => Nat.le_of_ble_eq_true rfl) (fun X => ?_)
  show GS (KM enI X) X mX8_part σ 0 [(0, .ref (xad X (98))), (1, .long a1), (3, .long a3)] [] _
  unfold X8_part
  refine g_lload_n 1 dX8_part_0 rfl ?_
  refine g_lstore [(5, .long a1), (0, .ref (xad X (98))), (1, .long a1), (3, .long a3)] dX8_part_1 (by decide) rfl ?_
  refine g_lload_n 3 dX8_part_3 rfl ?_
  refine g_lstore [(7, .long a3), (5, .long a1), (0, .ref (xad X (98))), (1, .long a1), (3, .long a3)] dX8_part_4 (by decide) rfl ?_
  refine g_sub [2, 3, 4, 1, 0] rfl ?_
  refine t_X8_part_L6 X a1 a3 _ (fun s3 y5_2 => ?_) FU σ a1 a3
  refine g_aload_n 0 dX8_part_31 rfl ?_
  refine g_lload_n 1 dX8_part_32 rfl ?_
  refine g_lload 3 dX8_part_33 rfl ?_
  refine g_ldiv dX8_part_35 (fun _ => ?_)
  refine pf_X8_3 fl_X8_80 dX8_part_36 ?_
  refine g_aload_n 0 dX8_part_39 rfl ?_
  refine g_lload_n 2 dX8_part_40 rfl ?_
  refine g_lload 3 dX8_part_41 rfl ?_
  refine g_ldiv dX8_part_43 (fun _ => ?_)
  refine pf_X8_4 fl_X8_13 dX8_part_44 ?_
  refine g_iconst (1 : Int32) dX8_part_47 (by decide) ?_
  exact g_iret rfl dX8_part_48

def X8_isRow (σ : Mem) (a0 : Int32) : Option (Mem × Int32) := ((X8_in σ a0 (0 : Int32) (5 : Int32)).bind fun q1 => if q1.2 = 0 ∨ q1.2 = 1 then some (q1.1, q1.2) else none)
set_option maxRecDepth 100000 in
set_option maxHeartbeats 4000000 in
theorem c_X8_isRow (σ : Mem) (a0 : Int32) : CT yX8_isRow mX8_isRow enI (fun ad => [.int a0]) σ (X8_isRow σ a0) := by
  refine CT.of (by decide) rfl (fun _ => Nat.le_of_ble_eq_true rfl) (fun X => ?_)
  show GS (KM enI X) X mX8_isRow σ 0 [(0, .int a0)] [] _
  unfold X8_isRow
  refine g_iload_n 0 dX8_isRow_0 rfl ?_
  refine g_iconst (0 : Int32) dX8_isRow_1 (by decide) ?_
  refine g_iconst (5 : Int32) dX8_isRow_2 (by decide) ?_
  refine g_callSI (c_X8_in σ a0 (0 : Int32) (5 : Int32)) okX8_in ⟨by decide, by decide⟩ ml_X8_83 rfl rfl (Nat.le_of_ble_eq_true rfl) dX8_isRow_3 (fun q1 => ?_)
  exact g_zret rfl dX8_isRow_6

def X8_isText (σ : Mem) (a0 : Int32) : Option (Mem × Int32) := ((X8_in σ a0 (0 : Int32) (3 : Int32)).bind fun q1 => if q1.2 = 0 ∨ q1.2 = 1 then some (q1.1, q1.2) else none)
set_option maxRecDepth 100000 in
set_option maxHeartbeats 4000000 in
theorem c_X8_isText (σ : Mem) (a0 : Int32) : CT yX8_isText mX8_isText enI (fun ad => [.int a0]) σ (X8_isText σ a0) := by
  refine CT.of (by decide) rfl (fun _ => Nat.le_of_ble_eq_true rfl) (fun X => ?_)
  show GS (KM enI X) X mX8_isText σ 0 [(0, .int a0)] [] _
  unfold X8_isText
  refine g_iload_n 0 dX8_isText_0 rfl ?_
  refine g_iconst (0 : Int32) dX8_isText_1 (by decide) ?_
  refine g_iconst (3 : Int32) dX8_isText_2 (by decide) ?_
  refine g_callSI (c_X8_in σ a0 (0 : Int32) (3 : Int32)) okX8_in ⟨by decide, by decide⟩ ml_X8_83 rfl rfl (Nat.le_of_ble_eq_true rfl) dX8_isText_3 (fun q1 => ?_)
  exact g_zret rfl dX8_isText_6

def X8_askedRow (σ : Mem) (a1 : Int32) : Option (Mem × Int32) := ((X8_isRow σ a1).bind fun q1 => if q1.2 = 0 then ((some (q1.1, (-1 : Int32)))) else (ck a1 6 <| if 0 ≤ (q1.1.1 805 0 a1.toNatClampNeg) then (some (q1.1, (0 : Int32))) else ((X8_meet q1.1 (1 : Int32)).bind fun q2 => (some (q2.1, q2.2)))))
set_option maxRecDepth 100000 in
set_option maxHeartbeats 4000000 in
theorem c_X8_askedRow (σ : Mem) (a1 : Int32) : CT yX8_askedRow mX8_askedRow enI (fun ad => [.ref (ad (98)), .int a1]) σ (X8_askedRow σ a1) := by
  refine CT.of (by decide) rfl (fun _ => Nat.le_of_ble_eq_true rfl) (fun X => ?_)
  show GS (KM enI X) X mX8_askedRow σ 0 [(0, .ref (xad X (98))), (1, .int a1)] [] _
  unfold X8_askedRow
  refine g_iload_n 1 dX8_askedRow_0 rfl ?_
  refine g_callSI (c_X8_isRow σ a1) okX8_isRow ⟨by decide, by decide⟩ ml_X8_87 rfl rfl (Nat.le_of_ble_eq_true rfl) dX8_askedRow_1 (fun q1 => ?_)
  refine g_if_ne 11 dX8_askedRow_4 rfl (fun _ => ?_) (fun _ => ?_)
  · refine g_aload_n 0 dX8_askedRow_11 rfl ?_
    refine gf_X8_5 fl_X8_17 dX8_askedRow_12 ?_
    refine g_iload_n 1 dX8_askedRow_15 rfl ?_
    refine g_iald sh_100 no_100 dX8_askedRow_16 (fun _ => ?_)
    refine g_if_ge 28 dX8_askedRow_17 rfl (fun _ => ?_) (fun _ => ?_)
    · refine g_iconst (0 : Int32) dX8_askedRow_28 (by decide) ?_
      exact g_iret rfl dX8_askedRow_29
    · refine g_aload_n 0 dX8_askedRow_20 rfl ?_
      refine g_iconst (1 : Int32) dX8_askedRow_21 (by decide) ?_
      refine g_callVI (c_X8_meet q1.1 (1 : Int32)) okX8_meet ⟨by decide, by decide⟩ ml_X8_91 sh_98 no_98 rfl rfl [.int ((1 : Int32))] rfl rfl rfl (Nat.le_of_ble_eq_true rfl) dX8_askedRow_22 (fun q2 => ?_)
      refine g_goto 29 dX8_askedRow_25 rfl ?_
      exact g_iret rfl dX8_askedRow_29
  · refine g_iconst (-1 : Int32) dX8_askedRow_7 (by decide) ?_
    refine g_goto 29 dX8_askedRow_8 rfl ?_
    exact g_iret rfl dX8_askedRow_29

def X8_askedText (σ : Mem) (a1 : Int32) : Option (Mem × Int32) := ((X8_isText σ a1).bind fun q1 => if q1.2 = 0 then ((some (q1.1, (-1 : Int32)))) else (ck a1 4 <| if 0 ≤ (q1.1.1 808 0 a1.toNatClampNeg) then (some (q1.1, (0 : Int32))) else ((X8_meet q1.1 (1 : Int32)).bind fun q2 => (some (q2.1, q2.2)))))
set_option maxRecDepth 100000 in
set_option maxHeartbeats 4000000 in
theorem c_X8_askedText (σ : Mem) (a1 : Int32) : CT yX8_askedText mX8_askedText enI (fun ad => [.ref (ad (98)), .int a1]) σ (X8_askedText σ a1) := by
  refine CT.of (by decide) rfl (fun _ => Nat.le_of_ble_eq_true rfl) (fun X => ?_)
  show GS (KM enI X) X mX8_askedText σ 0 [(0, .ref (xad X (98))), (1, .int a1)] [] _
  unfold X8_askedText
  refine g_iload_n 1 dX8_askedText_0 rfl ?_
  refine g_callSI (c_X8_isText σ a1) okX8_isText ⟨by decide, by decide⟩ ml_X8_95 rfl rfl (Nat.le_of_ble_eq_true rfl) dX8_askedText_1 (fun q1 => ?_)
  refine g_if_ne 11 dX8_askedText_4 rfl (fun _ => ?_) (fun _ => ?_)
  · refine g_aload_n 0 dX8_askedText_11 rfl ?_
    refine gf_X8_8 fl_X8_26 dX8_askedText_12 ?_
    refine g_iload_n 1 dX8_askedText_15 rfl ?_
    refine g_iald sh_103 no_103 dX8_askedText_16 (fun _ => ?_)
    refine g_if_ge 28 dX8_askedText_17 rfl (fun _ => ?_) (fun _ => ?_)
    · refine g_iconst (0 : Int32) dX8_askedText_28 (by decide) ?_
      exact g_iret rfl dX8_askedText_29
    · refine g_aload_n 0 dX8_askedText_20 rfl ?_
      refine g_iconst (1 : Int32) dX8_askedText_21 (by decide) ?_
      refine g_callVI (c_X8_meet q1.1 (1 : Int32)) okX8_meet ⟨by decide, by decide⟩ ml_X8_91 sh_98 no_98 rfl rfl [.int ((1 : Int32))] rfl rfl rfl (Nat.le_of_ble_eq_true rfl) dX8_askedText_22 (fun q2 => ?_)
      refine g_goto 29 dX8_askedText_25 rfl ?_
      exact g_iret rfl dX8_askedText_29
  · refine g_iconst (-1 : Int32) dX8_askedText_7 (by decide) ?_
    refine g_goto 29 dX8_askedText_8 rfl ?_
    exact g_iret rfl dX8_askedText_29

def X8_rowAt (σ : Mem) (a1 : Int32) (a2 : Int32) : Option (Mem × Int32) := (ck (((40 : Int32) * a1) + a2) 240 <| some (σ, (σ.1 806 0 (((40 : Int32) * a1) + a2).toNatClampNeg)))
set_option maxRecDepth 100000 in
set_option maxHeartbeats 4000000 in
theorem c_X8_rowAt (σ : Mem) (a1 : Int32) (a2 : Int32) : CT yX8_rowAt mX8_rowAt enI (fun ad => [.ref (ad (98)), .int a1, .int a2]) σ (X8_rowAt σ a1 a2) := by
  refine CT.of (by decide) rfl (fun _ => Nat.le_of_ble_eq_true rfl) (fun X => ?_)
  show GS (KM enI X) X mX8_rowAt σ 0 [(0, .ref (xad X (98))), (1, .int a1), (2, .int a2)] [] _
  unfold X8_rowAt
  refine g_aload_n 0 dX8_rowAt_0 rfl ?_
  refine gf_X8_6 fl_X8_20 dX8_rowAt_1 ?_
  refine g_bipush (40 : Int32) dX8_rowAt_4 (by decide) ?_
  refine g_iload_n 1 dX8_rowAt_6 rfl ?_
  refine g_imul dX8_rowAt_7 ?_
  refine g_iload_n 2 dX8_rowAt_8 rfl ?_
  refine g_iadd dX8_rowAt_9 ?_
  refine g_iald sh_101 no_101 dX8_rowAt_10 (fun _ => ?_)
  exact g_iret rfl dX8_rowAt_11

def X8_setRow (σ : Mem) (a1 : Int32) (a2 : Int32) (a3 : Int32) : Option (Mem × Unit) := (ck (((40 : Int32) * a1) + a2) 240 <| some ((uI σ 806 0 (((40 : Int32) * a1) + a2).toNatClampNeg a3), ()))
set_option maxRecDepth 100000 in
set_option maxHeartbeats 4000000 in
theorem c_X8_setRow (σ : Mem) (a1 : Int32) (a2 : Int32) (a3 : Int32) : CT yX8_setRow mX8_setRow enV (fun ad => [.ref (ad (98)), .int a1, .int a2, .int a3]) σ (X8_setRow σ a1 a2 a3) := by
  refine CT.of (by decide) rfl (fun _ => Nat.le_of_ble_eq_true rfl) (fun X => ?_)
  show GS (KM enV X) X mX8_setRow σ 0 [(0, .ref (xad X (98))), (1, .int a1), (2, .int a2), (3, .int a3)] [] _
  unfold X8_setRow
  refine g_aload_n 0 dX8_setRow_0 rfl ?_
  refine gf_X8_6 fl_X8_20 dX8_setRow_1 ?_
  refine g_bipush (40 : Int32) dX8_setRow_4 (by decide) ?_
  refine g_iload_n 1 dX8_setRow_6 rfl ?_
  refine g_imul dX8_setRow_7 ?_
  refine g_iload_n 2 dX8_setRow_8 rfl ?_
  refine g_iadd dX8_setRow_9 ?_
  refine g_iload_n 3 dX8_setRow_10 rfl ?_
  refine g_iast sh_101 no_101 dX8_setRow_11 (fun _ => ?_)
  exact g_vret rfl dX8_setRow_12

def X8_row_L34 (x1 : Int32) (x2 : Int32) (k53 : Mem → Option (Mem × Int32)) : Nat → Mem → Int32 → Option (Mem × Int32)
  | 0, _, _ => none
  | n + 1, σ, x3 => (if (40 : Int32) ≤ x3 then k53 σ else ((X8_setRow σ x1 x3 (0 : Int32)).bind fun q2 => X8_row_L34 x1 x2 k53 n q2.1 ((x3 + (1 : Int32)))))
def X8_row (σ : Mem) (a1 : Int32) (a2 : Int32) : Option (Mem × Int32) := ((X8_isRow σ a1).bind fun q1 => if q1.2 = 0 then (some (q1.1, (-1 : Int32))) else (if a2 ≤ (40 : Int32) then (if 0 ≤ a2 then (ck a1 6 <| X8_row_L34 a1 a2 (fun (s5 : Mem) => (some (s5, a2))) FU ((uI q1.1 805 0 a1.toNatClampNeg a2)) (0 : Int32)) else ((X8_meet q1.1 (5 : Int32)).bind fun q6 => some (q6.1, q6.2))) else (some (q1.1, (-1 : Int32)))))
set_option maxRecDepth 100000 in
set_option maxHeartbeats 4000000 in
theorem t_X8_row_L34 (X : GX) (x1 : Int32) (x2 : Int32) (k53 : Mem → Option (Mem × Int32)) (hk53 : ∀ (σ : Mem), GS (KM enI X) X mX8_row σ 53 [(2, .int x2)] [] (k53 σ)) : ∀ (n : Nat) (σ : Mem) (x3 : Int32), GS (KM enI X) X mX8_row σ 34 [(0, .ref (xad X (98))), (1, .int x1), (2, .int x2), (3, .int x3)] [] (X8_row_L34 x1 x2 k53 n σ x3) := by
  intro n
  induction n with
  | zero => intros; exact g_none
  | succ n ih =>
    intro σ x3
    rw [X8_row_L34]
    refine g_iload_n 3 dX8_row_34 rfl ?_
    refine g_bipush (40 : Int32) dX8_row_35 (by decide) ?_
    refine g_icmp_ge 53 dX8_row_37 rfl (fun _ => ?_) (fun _ => ?_)
    · refine g_sub [2] rfl ?_
      exact hk53 σ
    · refine g_aload_n 0 dX8_row_40 rfl ?_
      refine g_iload_n 1 dX8_row_41 rfl ?_
      refine g_iload_n 3 dX8_row_42 rfl ?_
      refine g_iconst (0 : Int32) dX8_row_43 (by decide) ?_
      refine g_callVV (c_X8_setRow σ x1 x3 (0 : Int32)) okX8_setRow ⟨by decide, by decide⟩ ml_X8_98 sh_98 no_98 rfl rfl [.int x1, .int x3, .int ((0 : Int32))] rfl rfl rfl (Nat.le_of_ble_eq_true rfl) dX8_row_44 (fun q2 => ?_)
      refine g_iinc 3 [(3, .int ((x3 + (1 : Int32)))), (0, .ref (xad X (98))), (1, .int x1), (2, .int x2)] dX8_row_47 rfl (v := x3 + (1 : Int32)) rfl (by decide) rfl ?_
      refine g_goto 34 dX8_row_50 rfl ?_
      refine g_sub [1, 2, 3, 0] rfl ?_
      exact ih q2.1 ((x3 + (1 : Int32)))

set_option maxRecDepth 100000 in
set_option maxHeartbeats 4000000 in
theorem c_X8_row (σ : Mem) (a1 : Int32) (a2 : Int32) : CT yX8_row mX8_row enI (fun ad => [.ref (ad (98)), .int a1, .int a2]) σ (X8_row σ a1 a2) := by
  refine CT.of (by decide) rfl (fun _ => Nat.le_of_ble_eq_true rfl) (fun X => ?_)
  show GS (KM enI X) X mX8_row σ 0 [(0, .ref (xad X (98))), (1, .int a1), (2, .int a2)] [] _
  unfold X8_row
  refine g_iload_n 1 dX8_row_0 rfl ?_
  refine g_callSI (c_X8_isRow σ a1) okX8_isRow ⟨by decide, by decide⟩ ml_X8_87 rfl rfl (Nat.le_of_ble_eq_true rfl) dX8_row_1 (fun q1 => ?_)
  refine g_if_eq 13 dX8_row_4 rfl (fun _ => ?_) (fun _ => ?_)
  · refine g_iconst (-1 : Int32) dX8_row_13 (by decide) ?_
    exact g_iret rfl dX8_row_14
  · refine g_iload_n 2 dX8_row_7 rfl ?_
    refine g_bipush (40 : Int32) dX8_row_8 (by decide) ?_
    refine g_icmp_le 15 dX8_row_10 rfl (fun _ => ?_) (fun _ => ?_)
    · refine g_iload_n 2 dX8_row_15 rfl ?_
      refine g_if_ge 25 dX8_row_16 rfl (fun _ => ?_) (fun _ => ?_)
      · refine g_aload_n 0 dX8_row_25 rfl ?_
        refine gf_X8_5 fl_X8_17 dX8_row_26 ?_
        refine g_iload_n 1 dX8_row_29 rfl ?_
        refine g_iload_n 2 dX8_row_30 rfl ?_
        refine g_iast sh_100 no_100 dX8_row_31 (fun _ => ?_)
        refine g_iconst (0 : Int32) dX8_row_32 (by decide) ?_
        refine g_istore_n [(3, .int ((0 : Int32))), (0, .ref (xad X (98))), (1, .int a1), (2, .int a2)] dX8_row_33 (by decide) rfl ?_
        refine g_sub [1, 2, 3, 0] rfl ?_
        refine t_X8_row_L34 X a1 a2 _ (fun s5 => ?_) FU ((uI q1.1 805 0 a1.toNatClampNeg a2)) (0 : Int32)
        refine g_iload_n 0 dX8_row_53 rfl ?_
        exact g_iret rfl dX8_row_54
      · refine g_aload_n 0 dX8_row_19 rfl ?_
        refine g_iconst (5 : Int32) dX8_row_20 (by decide) ?_
        refine g_callVI (c_X8_meet q1.1 (5 : Int32)) okX8_meet ⟨by decide, by decide⟩ ml_X8_91 sh_98 no_98 rfl rfl [.int ((5 : Int32))] rfl rfl rfl (Nat.le_of_ble_eq_true rfl) dX8_row_21 (fun q6 => ?_)
        exact g_iret rfl dX8_row_24
    · refine g_iconst (-1 : Int32) dX8_row_13 (by decide) ?_
      exact g_iret rfl dX8_row_14

def X8_at (σ : Mem) (a1 : Int32) (a2 : Int32) : Option (Mem × Int32) := ((X8_askedRow σ a1).bind fun q1 => if 0 ≤ q1.2 then (ck a1 6 <| (X8_in q1.1 a2 (0 : Int32) (((q1.1.1 805 0 a1.toNatClampNeg) - (1 : Int32)))).bind fun q2 => if q2.2 = 0 then ((X8_meet q2.1 (2 : Int32)).bind fun q3 => some (q3.1, q3.2)) else ((X8_rowAt q2.1 a1 a2).bind fun q4 => (X8_ask q4.1 q4.2 (1 : Int32)).bind fun q5 => (some (q5.1, q5.2)))) else (some (q1.1, q1.2)))
set_option maxRecDepth 100000 in
set_option maxHeartbeats 4000000 in
theorem c_X8_at (σ : Mem) (a1 : Int32) (a2 : Int32) : CT yX8_at mX8_at enI (fun ad => [.ref (ad (98)), .int a1, .int a2]) σ (X8_at σ a1 a2) := by
  refine CT.of (by decide) rfl (fun _ => Nat.le_of_ble_eq_true rfl) (fun X => ?_)
  show GS (KM enI X) X mX8_at σ 0 [(0, .ref (xad X (98))), (1, .int a1), (2, .int a2)] [] _
  unfold X8_at
  refine g_aload_n 0 dX8_at_0 rfl ?_
  refine g_iload_n 1 dX8_at_1 rfl ?_
  refine g_callVI (c_X8_askedRow σ a1) okX8_askedRow ⟨by decide, by decide⟩ ml_X8_102 sh_98 no_98 rfl rfl [.int a1] rfl rfl rfl (Nat.le_of_ble_eq_true rfl) dX8_at_2 (fun q1 => ?_)
  refine g_istore_n [(3, .int (q1.2)), (0, .ref (xad X (98))), (1, .int a1), (2, .int a2)] dX8_at_5 (by decide) rfl ?_
  refine g_iload_n 0 dX8_at_6 rfl ?_
  refine g_if_ge 12 dX8_at_7 rfl (fun _ => ?_) (fun _ => ?_)
  · refine g_iload_n 3 dX8_at_12 rfl ?_
    refine g_iconst (0 : Int32) dX8_at_13 (by decide) ?_
    refine g_aload_n 1 dX8_at_14 rfl ?_
    refine gf_X8_5 fl_X8_17 dX8_at_15 ?_
    refine g_iload_n 2 dX8_at_18 rfl ?_
    refine g_iald sh_100 no_100 dX8_at_19 (fun _ => ?_)
    refine g_iconst (1 : Int32) dX8_at_20 (by decide) ?_
    refine g_isub dX8_at_21 ?_
    refine g_callSI (c_X8_in q1.1 a2 (0 : Int32) (((q1.1.1 805 0 a1.toNatClampNeg) - (1 : Int32)))) okX8_in ⟨by decide, by decide⟩ ml_X8_83 rfl rfl (Nat.le_of_ble_eq_true rfl) dX8_at_22 (fun q2 => ?_)
    refine g_if_eq 42 dX8_at_25 rfl (fun _ => ?_) (fun _ => ?_)
    · refine g_aload_n 1 dX8_at_42 rfl ?_
      refine g_iconst (2 : Int32) dX8_at_43 (by decide) ?_
      refine g_callVI (c_X8_meet q2.1 (2 : Int32)) okX8_meet ⟨by decide, by decide⟩ ml_X8_91 sh_98 no_98 rfl rfl [.int ((2 : Int32))] rfl rfl rfl (Nat.le_of_ble_eq_true rfl) dX8_at_44 (fun q3 => ?_)
      exact g_iret rfl dX8_at_47
    · refine g_aload_n 1 dX8_at_28 rfl ?_
      refine g_aload_n 1 dX8_at_29 rfl ?_
      refine g_iload_n 2 dX8_at_30 rfl ?_
      refine g_iload_n 3 dX8_at_31 rfl ?_
      refine g_callVI (c_X8_rowAt q2.1 a1 a2) okX8_rowAt ⟨by decide, by decide⟩ ml_X8_105 sh_98 no_98 rfl rfl [.int a1, .int a2] rfl rfl rfl (Nat.le_of_ble_eq_true rfl) dX8_at_32 (fun q4 => ?_)
      refine g_iconst (1 : Int32) dX8_at_35 (by decide) ?_
      refine g_callVI (c_X8_ask q4.1 q4.2 (1 : Int32)) okX8_ask ⟨by decide, by decide⟩ ml_X8_109 sh_98 no_98 rfl rfl [.int (q4.2), .int ((1 : Int32))] rfl rfl rfl (Nat.le_of_ble_eq_true rfl) dX8_at_36 (fun q5 => ?_)
      refine g_goto 47 dX8_at_39 rfl ?_
      exact g_iret rfl dX8_at_47
  · refine g_iload_n 0 dX8_at_10 rfl ?_
    exact g_iret rfl dX8_at_11

def X8_lay (σ : Mem) (a1 : Int32) (a2 : Int32) (a3 : Int32) : Option (Mem × Int32) := ((X8_at σ a1 a2).bind fun q1 => if 0 ≤ q1.2 then ((X8_setRow q1.1 a1 a2 a3).bind fun q2 => some (q2.1, (1 : Int32))) else (some (q1.1, q1.2)))
set_option maxRecDepth 100000 in
set_option maxHeartbeats 4000000 in
theorem c_X8_lay (σ : Mem) (a1 : Int32) (a2 : Int32) (a3 : Int32) : CT yX8_lay mX8_lay enI (fun ad => [.ref (ad (98)), .int a1, .int a2, .int a3]) σ (X8_lay σ a1 a2 a3) := by
  refine CT.of (by decide) rfl (fun _ => Nat.le_of_ble_eq_true rfl) (fun X => ?_)
  show GS (KM enI X) X mX8_lay σ 0 [(0, .ref (xad X (98))), (1, .int a1), (2, .int a2), (3, .int a3)] [] _
  unfold X8_lay
  refine g_aload_n 0 dX8_lay_0 rfl ?_
  refine g_iload_n 1 dX8_lay_1 rfl ?_
  refine g_iload_n 2 dX8_lay_2 rfl ?_
  refine g_callVI (c_X8_at σ a1 a2) okX8_at ⟨by decide, by decide⟩ ml_X8_112 sh_98 no_98 rfl rfl [.int a1, .int a2] rfl rfl rfl (Nat.le_of_ble_eq_true rfl) dX8_lay_3 (fun q1 => ?_)
  refine g_istore [(4, .int (q1.2)), (0, .ref (xad X (98))), (1, .int a1), (2, .int a2), (3, .int a3)] dX8_lay_6 (by decide) rfl ?_
  refine g_iload 0 dX8_lay_8 rfl ?_
  refine g_if_ge 16 dX8_lay_10 rfl (fun _ => ?_) (fun _ => ?_)
  · refine g_aload_n 1 dX8_lay_16 rfl ?_
    refine g_iload_n 2 dX8_lay_17 rfl ?_
    refine g_iload_n 3 dX8_lay_18 rfl ?_
    refine g_iload_n 4 dX8_lay_19 rfl ?_
    refine g_callVV (c_X8_setRow q1.1 a1 a2 a3) okX8_setRow ⟨by decide, by decide⟩ ml_X8_98 sh_98 no_98 rfl rfl [.int a1, .int a2, .int a3] rfl rfl rfl (Nat.le_of_ble_eq_true rfl) dX8_lay_20 (fun q2 => ?_)
    refine g_iconst (1 : Int32) dX8_lay_23 (by decide) ?_
    exact g_iret rfl dX8_lay_24
  · refine g_iload 0 dX8_lay_13 rfl ?_
    exact g_iret rfl dX8_lay_15

def X8_tear (σ : Mem) (a1 : Int32) : Option (Mem × Int32) := ((X8_askedRow σ a1).bind fun q1 => if 0 ≤ q1.2 then (ck a1 6 <| some ((uI q1.1 805 0 a1.toNatClampNeg (-9 : Int32)), (1 : Int32))) else (some (q1.1, q1.2)))
set_option maxRecDepth 100000 in
set_option maxHeartbeats 4000000 in
theorem c_X8_tear (σ : Mem) (a1 : Int32) : CT yX8_tear mX8_tear enI (fun ad => [.ref (ad (98)), .int a1]) σ (X8_tear σ a1) := by
  refine CT.of (by decide) rfl (fun _ => Nat.le_of_ble_eq_true rfl) (fun X => ?_)
  show GS (KM enI X) X mX8_tear σ 0 [(0, .ref (xad X (98))), (1, .int a1)] [] _
  unfold X8_tear
  refine g_aload_n 0 dX8_tear_0 rfl ?_
  refine g_iload_n 1 dX8_tear_1 rfl ?_
  refine g_callVI (c_X8_askedRow σ a1) okX8_askedRow ⟨by decide, by decide⟩ ml_X8_102 sh_98 no_98 rfl rfl [.int a1] rfl rfl rfl (Nat.le_of_ble_eq_true rfl) dX8_tear_2 (fun q1 => ?_)
  refine g_istore_n [(2, .int (q1.2)), (0, .ref (xad X (98))), (1, .int a1)] dX8_tear_5 (by decide) rfl ?_
  refine g_iload_n 0 dX8_tear_6 rfl ?_
  refine g_if_ge 12 dX8_tear_7 rfl (fun _ => ?_) (fun _ => ?_)
  · refine g_aload_n 1 dX8_tear_12 rfl ?_
    refine gf_X8_5 fl_X8_17 dX8_tear_13 ?_
    refine g_iload_n 2 dX8_tear_16 rfl ?_
    refine g_bipush (-9 : Int32) dX8_tear_17 (by decide) ?_
    refine g_iast sh_100 no_100 dX8_tear_19 (fun _ => ?_)
    refine g_iconst (1 : Int32) dX8_tear_20 (by decide) ?_
    exact g_iret rfl dX8_tear_21
  · refine g_iload_n 0 dX8_tear_10 rfl ?_
    exact g_iret rfl dX8_tear_11

