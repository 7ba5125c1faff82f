def X4_digested_L15 (x0 : Nat) (k44 : Mem → Int64 → Option (Mem × Int64)) : Nat → Mem → Int64 → Int32 → Option (Mem × Int64)
  | 0, _, _, _ => none
  | n + 1, σ, x3, x5 => (if (σ.1 401 x0 0) ≤ x5 then k44 σ x3 else ((X4_cell σ x0 x5).bind fun q2 => lt_ ((((31 : Int64) * x3) + q2.2.toInt64)) fun (v3 : Int64) => X4_digested_L15 x0 k44 n q2.1 v3 ((x5 + (1 : Int32)))))
def X4_digested (σ : Mem) (a0 : Nat) (a1 : Int64) : Option (Mem × Int64) := if a0 < 11 then (lt_ ((((31 : Int64) * a1) + (σ.1 401 a0 0).toInt64)) fun (v1 : Int64) => X4_digested_L15 a0 (fun (s6 : Mem) (y3_5 : Int64) => (some (s6, y3_5))) FU σ v1 (0 : Int32)) else none
set_option maxRecDepth 100000 in
set_option maxHeartbeats 4000000 in
theorem t_X4_digested_L15 (X : GX) (x0 : Nat) (hx0 : x0 < 11) (k44 : Mem → Int64 → Option (Mem × Int64)) (hk44 : ∀ (σ : Mem) (y3 : Int64), GS (KM enJ X) X mX4_digested σ 44 [(3, .long y3)] [] (k44 σ y3)) : ∀ (n : Nat) (σ : Mem) (x3 : Int64) (x5 : Int32), GS (KM enJ X) X mX4_digested σ 15 [(0, .ref (xad X (4 + 2 * x0))), (3, .long x3), (5, .int x5)] [] (X4_digested_L15 x0 k44 n σ x3 x5) := by
  intro n
  induction n with
  | zero => intros; exact g_none
  | succ n ih =>
    intro σ x3 x5
    rw [X4_digested_L15]
    refine g_iload 2 dX4_digested_15 rfl ?_
    refine g_aload_n 0 dX4_digested_17 rfl ?_
    refine gf_X4_1 hx0 fl_X4_9 dX4_digested_18 ?_
    refine g_icmp_ge 44 dX4_digested_21 rfl (fun _ => ?_) (fun _ => ?_)
    · refine g_sub [1] rfl ?_
      exact hk44 σ x3
    · refine g_ldc2 (31 : Int64) dX4_digested_24 kl_X4_60 ?_
      refine g_lload_n 1 dX4_digested_27 rfl ?_
      refine g_lmul dX4_digested_28 ?_
      refine g_aload_n 0 dX4_digested_29 rfl ?_
      refine g_iload 2 dX4_digested_30 rfl ?_
      refine g_callVI (c_X4_cell σ x0 x5) okX4_cell ⟨by decide, by decide⟩ ml_X4_42 (sh_X4 hx0) (no_X4 hx0) rfl rfl [.int x5] rfl rfl rfl (Nat.le_of_ble_eq_true rfl) dX4_digested_32 (fun q2 => ?_)
      refine g_i2l dX4_digested_35 ?_
      refine g_ladd dX4_digested_36 ?_
      refine g_topl (fun v3 => ?_)
      refine g_lstore_n [(3, .long v3), (0, .ref (xad X (4 + 2 * x0))), (5, .int x5)] dX4_digested_37 (by decide) rfl ?_
      refine g_iinc 2 [(5, .int ((x5 + (1 : Int32)))), (3, .long v3), (0, .ref (xad X (4 + 2 * x0)))] dX4_digested_38 rfl (v := x5 + (1 : Int32)) rfl (by decide) rfl ?_
      refine g_goto 15 dX4_digested_41 rfl ?_
      refine g_sub [2, 1, 0] rfl ?_
      exact ih q2.1 v3 ((x5 + (1 : Int32)))

set_option maxRecDepth 100000 in
set_option maxHeartbeats 4000000 in
theorem c_X4_digested (σ : Mem) (a0 : Nat) (a1 : Int64) : CT yX4_digested mX4_digested enJ (fun ad => [.ref (ad (4 + 2 * a0)), .long a1]) σ (X4_digested σ a0 a1) := by
  refine CT.of (by decide) rfl (fun _ => Nat.le_of_ble_eq_true rfl) (fun X => ?_)
  show GS (KM enJ X) X mX4_digested σ 0 [(0, .ref (xad X (4 + 2 * a0))), (1, .long a1)] [] _
  unfold X4_digested
  refine g_guard (fun ha0 => ?_)
  refine g_ldc2 (31 : Int64) dX4_digested_0 kl_X4_60 ?_
  refine g_lload_n 1 dX4_digested_3 rfl ?_
  refine g_lmul dX4_digested_4 ?_
  refine g_aload_n 0 dX4_digested_5 rfl ?_
  refine gf_X4_1 ha0 fl_X4_9 dX4_digested_6 ?_
  refine g_i2l dX4_digested_9 ?_
  refine g_ladd dX4_digested_10 ?_
  refine g_topl (fun v1 => ?_)
  refine g_lstore_n [(3, .long v1), (0, .ref (xad X (4 + 2 * a0))), (1, .long a1)] dX4_digested_11 (by decide) rfl ?_
  refine g_iconst (0 : Int32) dX4_digested_12 (by decide) ?_
  refine g_istore [(5, .int ((0 : Int32))), (3, .long v1), (0, .ref (xad X (4 + 2 * a0))), (1, .long a1)] dX4_digested_13 (by decide) rfl ?_
  refine g_sub [2, 1, 0] rfl ?_
  refine t_X4_digested_L15 X a0 ha0 _ (fun s6 y3_5 => ?_) FU σ v1 (0 : Int32)
  refine g_lload_n 0 dX4_digested_44 rfl ?_
  exact g_lret rfl dX4_digested_45

def X2_digested_L18 (x0 : Nat) (x3 : Nat) (x6 : Int32) (k52 : Mem → Int64 → Option (Mem × Int64)) : Nat → Mem → Int64 → Int32 → Option (Mem × Int64)
  | 0, _, _, _ => none
  | n + 1, σ, x4, x7 => (if (4 : Int32) < x7 then k52 σ x4 else (ck x6 8 <| spl (σ.2.2 200 x0 x6.toNatClampNeg) 41 none (fun r1 => ((X1_tell σ r1 x7).bind fun q2 => lt_ ((((31 : Int64) * x4) + q2.2.toInt64)) fun (v3 : Int64) => X2_digested_L18 x0 x3 x6 k52 n q2.1 v3 ((x7 + (1 : Int32)))))))
def X2_digested_L6 (x0 : Nat) (x3 : Nat) (k58 : Mem → Int64 → Option (Mem × Int64)) : Nat → Mem → Int64 → Int32 → Option (Mem × Int64)
  | 0, _, _, _ => none
  | n + 1, σ, x4, x6 => (if (σ.1 203 x0 0) ≤ x6 then k58 σ x4 else (X2_digested_L18 x0 x3 x6 (fun (s6 : Mem) (y4_5 : Int64) => (X2_digested_L6 x0 x3 k58 n s6 y4_5 ((x6 + (1 : Int32))))) FU σ x4 (0 : Int32)))
def X2_digested_L61 (x0 : Nat) (x3 : Nat) (k94 : Mem → Int64 → Option (Mem × Int64)) : Nat → Mem → Int64 → Int32 → Option (Mem × Int64)
  | 0, _, _, _ => none
  | n + 1, σ, x4, x6 => (if (6 : Int32) ≤ x6 then k94 σ x4 else (ck x6 6 <| lt_ ((((31 : Int64) * x4) + (σ.1 202 x0 x6.toNatClampNeg).toInt64)) fun (v10 : Int64) => X2_digested_L61 x0 x3 k94 n σ v10 ((x6 + (1 : Int32)))))
def X2_digested_L97 (x0 : Nat) (x3 : Nat) (k130 : Mem → Int64 → Option (Mem × Int64)) : Nat → Mem → Int64 → Int32 → Option (Mem × Int64)
  | 0, _, _, _ => none
  | n + 1, σ, x4, x6 => (if (σ.1 204 x0 0) ≤ x6 then k130 σ x4 else ((X2_deed σ x0 x6).bind fun q14 => (X4_unpack q14.1 x3 q14.2).bind fun q15 => (X4_digested q15.1 x3 x4).bind fun q16 => X2_digested_L97 x0 x3 k130 n q16.1 q16.2 ((x6 + (1 : Int32)))))
def X2_digested (σ : Mem) (a0 : Nat) (a1 : Int64) (a3 : Nat) : Option (Mem × Int64) := if a0 < 4 then (if a3 < 11 then (X2_digested_L6 a0 a3 (fun (s9 : Mem) (y4_8 : Int64) => (X2_digested_L61 a0 a3 (fun (s13 : Mem) (y4_12 : Int64) => (X2_digested_L97 a0 a3 (fun (s19 : Mem) (y4_18 : Int64) => (some (s19, y4_18))) FU s13 y4_12 (0 : Int32))) FU s9 y4_8 (0 : Int32))) FU σ a1 (0 : Int32)) else none) else none
set_option maxRecDepth 100000 in
set_option maxHeartbeats 4000000 in
theorem t_X2_digested_L18 (X : GX) (x0 : Nat) (x3 : Nat) (x6 : Int32) (hx0 : x0 < 4) (hx3 : x3 < 11) (k52 : Mem → Int64 → Option (Mem × Int64)) (hk52 : ∀ (σ : Mem) (y4 : Int64), GS (KM enJ X) X mX2_digested σ 52 [(0, .ref (xad X (69 + 4 * x0))), (3, .ref (xad X (4 + 2 * x3))), (4, .long y4), (6, .int x6)] [] (k52 σ y4)) : ∀ (n : Nat) (σ : Mem) (x4 : Int64) (x7 : Int32), GS (KM enJ X) X mX2_digested σ 18 [(0, .ref (xad X (69 + 4 * x0))), (3, .ref (xad X (4 + 2 * x3))), (4, .long x4), (6, .int x6), (7, .int x7)] [] (X2_digested_L18 x0 x3 x6 k52 n σ x4 x7) := by
  intro n
  induction n with
  | zero => intros; exact g_none
  | succ n ih =>
    intro σ x4 x7
    rw [X2_digested_L18]
    refine g_iload 4 dX2_digested_18 rfl ?_
    refine g_iconst (4 : Int32) dX2_digested_20 (by decide) ?_
    refine g_icmp_gt 52 dX2_digested_21 rfl (fun _ => ?_) (fun _ => ?_)
    · refine g_sub [0, 1, 2, 3] rfl ?_
      exact hk52 σ x4
    · refine g_ldc2 (31 : Int64) dX2_digested_24 kl_X2_122 ?_
      refine g_lload 2 dX2_digested_27 rfl ?_
      refine g_lmul dX2_digested_29 ?_
      refine g_aload_n 0 dX2_digested_30 rfl ?_
      refine gf_X2_0 hx0 fl_X2_11 dX2_digested_31 ?_
      refine g_iload 3 dX2_digested_34 rfl ?_
      refine g_ald4 (sh_plaws hx0) (no_plaws hx0) dX2_digested_36 (fun _ => ?_)
      refine g_spl ?_ (fun r1 hr1 => ?_)
      · refine g_iload 4 dX2_digested_37 rfl ?_
        exact g_none
      · refine g_iload 4 dX2_digested_37 rfl ?_
        refine g_callVI (c_X1_tell σ r1 x7) okX1_tell ⟨by decide, by decide⟩ ml_X2_124 (sh_X1 hr1) (no_X1 hr1) rfl rfl [.int x7] rfl rfl rfl (Nat.le_of_ble_eq_true rfl) dX2_digested_39 (fun q2 => ?_)
        refine g_i2l dX2_digested_42 ?_
        refine g_ladd dX2_digested_43 ?_
        refine g_topl (fun v3 => ?_)
        refine g_lstore [(4, .long v3), (0, .ref (xad X (69 + 4 * x0))), (3, .ref (xad X (4 + 2 * x3))), (6, .int x6), (7, .int x7)] dX2_digested_44 (by decide) rfl ?_
        refine g_iinc 4 [(7, .int ((x7 + (1 : Int32)))), (4, .long v3), (0, .ref (xad X (69 + 4 * x0))), (3, .ref (xad X (4 + 2 * x3))), (6, .int x6)] dX2_digested_46 rfl (v := x7 + (1 : Int32)) rfl (by decide) rfl ?_
        refine g_goto 18 dX2_digested_49 rfl ?_
        refine g_sub [2, 3, 1, 4, 0] rfl ?_
        exact ih q2.1 v3 ((x7 + (1 : Int32)))

set_option maxRecDepth 100000 in
set_option maxHeartbeats 4000000 in
theorem t_X2_digested_L6 (X : GX) (x0 : Nat) (x3 : Nat) (hx0 : x0 < 4) (hx3 : x3 < 11) (k58 : Mem → Int64 → Option (Mem × Int64)) (hk58 : ∀ (σ : Mem) (y4 : Int64), GS (KM enJ X) X mX2_digested σ 58 [(0, .ref (xad X (69 + 4 * x0))), (3, .ref (xad X (4 + 2 * x3))), (4, .long y4)] [] (k58 σ y4)) : ∀ (n : Nat) (σ : Mem) (x4 : Int64) (x6 : Int32), GS (KM enJ X) X mX2_digested σ 6 [(0, .ref (xad X (69 + 4 * x0))), (3, .ref (xad X (4 + 2 * x3))), (4, .long x4), (6, .int x6)] [] (X2_digested_L6 x0 x3 k58 n σ x4 x6) := by
  intro n
  induction n with
  | zero => intros; exact g_none
  | succ n ih =>
    intro σ x4 x6
    rw [X2_digested_L6]
    refine g_iload 3 dX2_digested_6 rfl ?_
    refine g_aload_n 0 dX2_digested_8 rfl ?_
    refine gf_X2_3 hx0 fl_X2_25 dX2_digested_9 ?_
    refine g_icmp_ge 58 dX2_digested_12 rfl (fun _ => ?_) (fun _ => ?_)
    · refine g_sub [0, 1, 2] rfl ?_
      exact hk58 σ x4
    · refine g_iconst (0 : Int32) dX2_digested_15 (by decide) ?_
      refine g_istore [(7, .int ((0 : Int32))), (0, .ref (xad X (69 + 4 * x0))), (3, .ref (xad X (4 + 2 * x3))), (4, .long x4), (6, .int x6)] dX2_digested_16 (by decide) rfl ?_
      refine g_sub [1, 2, 3, 4, 0] rfl ?_
      refine t_X2_digested_L18 X x0 x3 x6 hx0 hx3 _ (fun s6 y4_5 => ?_) FU σ x4 (0 : Int32)
      refine g_iinc 3 [(6, .int ((x6 + (1 : Int32)))), (0, .ref (xad X (69 + 4 * x0))), (3, .ref (xad X (4 + 2 * x3))), (4, .long y4_5)] dX2_digested_52 rfl (v := x6 + (1 : Int32)) rfl (by decide) rfl ?_
      refine g_goto 6 dX2_digested_55 rfl ?_
      refine g_sub [1, 2, 3, 0] rfl ?_
      exact ih s6 y4_5 ((x6 + (1 : Int32)))

set_option maxRecDepth 100000 in
set_option maxHeartbeats 4000000 in
theorem t_X2_digested_L61 (X : GX) (x0 : Nat) (x3 : Nat) (hx0 : x0 < 4) (hx3 : x3 < 11) (k94 : Mem → Int64 → Option (Mem × Int64)) (hk94 : ∀ (σ : Mem) (y4 : Int64), GS (KM enJ X) X mX2_digested σ 94 [(0, .ref (xad X (69 + 4 * x0))), (3, .ref (xad X (4 + 2 * x3))), (4, .long y4)] [] (k94 σ y4)) : ∀ (n : Nat) (σ : Mem) (x4 : Int64) (x6 : Int32), GS (KM enJ X) X mX2_digested σ 61 [(0, .ref (xad X (69 + 4 * x0))), (3, .ref (xad X (4 + 2 * x3))), (4, .long x4), (6, .int x6)] [] (X2_digested_L61 x0 x3 k94 n σ x4 x6) := by
  intro n
  induction n with
  | zero => intros; exact g_none
  | succ n ih =>
    intro σ x4 x6
    rw [X2_digested_L61]
    refine g_iload 3 dX2_digested_61 rfl ?_
    refine g_aload_n 0 dX2_digested_63 rfl ?_
    refine gf_X2_2 hx0 fl_X2_21 dX2_digested_64 ?_
    refine g_alen (v := (6 : Int32)) (sh_pinks hx0) (no_pinks hx0) (by decide) rfl dX2_digested_67 ?_
    refine g_icmp_ge 94 dX2_digested_68 rfl (fun _ => ?_) (fun _ => ?_)
    · refine g_sub [0, 1, 2] rfl ?_
      exact hk94 σ x4
    · refine g_ldc2 (31 : Int64) dX2_digested_71 kl_X2_122 ?_
      refine g_lload 2 dX2_digested_74 rfl ?_
      refine g_lmul dX2_digested_76 ?_
      refine g_aload_n 0 dX2_digested_77 rfl ?_
      refine gf_X2_2 hx0 fl_X2_21 dX2_digested_78 ?_
      refine g_iload 3 dX2_digested_81 rfl ?_
      refine g_iald (sh_pinks hx0) (no_pinks hx0) dX2_digested_83 (fun _ => ?_)
      refine g_i2l dX2_digested_84 ?_
      refine g_ladd dX2_digested_85 ?_
      refine g_topl (fun v10 => ?_)
      refine g_lstore [(4, .long v10), (0, .ref (xad X (69 + 4 * x0))), (3, .ref (xad X (4 + 2 * x3))), (6, .int x6)] dX2_digested_86 (by decide) rfl ?_
      refine g_iinc 3 [(6, .int ((x6 + (1 : Int32)))), (4, .long v10), (0, .ref (xad X (69 + 4 * x0))), (3, .ref (xad X (4 + 2 * x3)))] dX2_digested_88 rfl (v := x6 + (1 : Int32)) rfl (by decide) rfl ?_
      refine g_goto 61 dX2_digested_91 rfl ?_
      refine g_sub [2, 3, 1, 0] rfl ?_
      exact ih σ v10 ((x6 + (1 : Int32)))

set_option maxRecDepth 100000 in
set_option maxHeartbeats 4000000 in
theorem t_X2_digested_L97 (X : GX) (x0 : Nat) (x3 : Nat) (hx0 : x0 < 4) (hx3 : x3 < 11) (k130 : Mem → Int64 → Option (Mem × Int64)) (hk130 : ∀ (σ : Mem) (y4 : Int64), GS (KM enJ X) X mX2_digested σ 130 [(4, .long y4)] [] (k130 σ y4)) : ∀ (n : Nat) (σ : Mem) (x4 : Int64) (x6 : Int32), GS (KM enJ X) X mX2_digested σ 97 [(0, .ref (xad X (69 + 4 * x0))), (3, .ref (xad X (4 + 2 * x3))), (4, .long x4), (6, .int x6)] [] (X2_digested_L97 x0 x3 k130 n σ x4 x6) := by
  intro n
  induction n with
  | zero => intros; exact g_none
  | succ n ih =>
    intro σ x4 x6
    rw [X2_digested_L97]
    refine g_iload 3 dX2_digested_97 rfl ?_
    refine g_aload_n 0 dX2_digested_99 rfl ?_
    refine gf_X2_4 hx0 fl_X2_29 dX2_digested_100 ?_
    refine g_icmp_ge 130 dX2_digested_103 rfl (fun _ => ?_) (fun _ => ?_)
    · refine g_sub [2] rfl ?_
      exact hk130 σ x4
    · refine g_aload_n 1 dX2_digested_106 rfl ?_
      refine g_aload_n 0 dX2_digested_107 rfl ?_
      refine g_iload 3 dX2_digested_108 rfl ?_
      refine g_callVJ (c_X2_deed σ x0 x6) okX2_deed ⟨by decide, by decide⟩ ml_X2_114 (sh_X2 hx0) (no_X2 hx0) rfl rfl [.int x6] rfl rfl rfl (Nat.le_of_ble_eq_true rfl) dX2_digested_110 (fun q14 => ?_)
      refine g_callVV (c_X4_unpack q14.1 x3 q14.2) okX4_unpack ⟨by decide, by decide⟩ ml_X2_118 (sh_X4 hx3) (no_X4 hx3) rfl rfl [.long (q14.2)] rfl rfl rfl (Nat.le_of_ble_eq_true rfl) dX2_digested_113 (fun q15 => ?_)
      refine g_aload_n 1 dX2_digested_116 rfl ?_
      refine g_lload 2 dX2_digested_117 rfl ?_
      refine g_callVJ (c_X4_digested q15.1 x3 x4) okX4_digested ⟨by decide, by decide⟩ ml_X2_127 (sh_X4 hx3) (no_X4 hx3) rfl rfl [.long x4] rfl rfl rfl (Nat.le_of_ble_eq_true rfl) dX2_digested_119 (fun q16 => ?_)
      refine g_lstore [(4, .long (q16.2)), (0, .ref (xad X (69 + 4 * x0))), (3, .ref (xad X (4 + 2 * x3))), (6, .int x6)] dX2_digested_122 (by decide) rfl ?_
      refine g_iinc 3 [(6, .int ((x6 + (1 : Int32)))), (4, .long (q16.2)), (0, .ref (xad X (69 + 4 * x0))), (3, .ref (xad X (4 + 2 * x3)))] dX2_digested_124 rfl (v := x6 + (1 : Int32)) rfl (by decide) rfl ?_
      refine g_goto 97 dX2_digested_127 rfl ?_
      refine g_sub [2, 3, 1, 0] rfl ?_
      exact ih q16.1 q16.2 ((x6 + (1 : Int32)))

set_option maxRecDepth 100000 in
set_option maxHeartbeats 4000000 in
theorem c_X2_digested (σ : Mem) (a0 : Nat) (a1 : Int64) (a3 : Nat) : CT yX2_digested mX2_digested enJ (fun ad => [.ref (ad (69 + 4 * a0)), .long a1, .ref (ad (4 + 2 * a3))]) σ (X2_digested σ a0 a1 a3) := by
  refine CT.of (by decide) rfl (fun _ => Nat.le_of_ble_eq_true rfl) (fun X => ?_)
  show GS (KM enJ X) X mX2_digested σ 0 [(0, .ref (xad X (69 + 4 * a0))), (1, .long a1), (3, .ref (xad X (4 + 2 * a3)))] [] _
  unfold X2_digested
  refine g_guard (fun ha0 => ?_)
  refine g_guard (fun ha3 => ?_)
  refine g_lload_n 1 dX2_digested_0 rfl ?_
  refine g_lstore [(4, .long a1), (0, .ref (xad X (69 + 4 * a0))), (1, .long a1), (3, .ref (xad X (4 + 2 * a3)))] dX2_digested_1 (by decide) rfl ?_
  refine g_iconst (0 : Int32) dX2_digested_3 (by decide) ?_
  refine g_istore [(6, .int ((0 : Int32))), (4, .long a1), (0, .ref (xad X (69 + 4 * a0))), (1, .long a1), (3, .ref (xad X (4 + 2 * a3)))] dX2_digested_4 (by decide) rfl ?_
  refine g_sub [2, 4, 1, 0] rfl ?_
  refine t_X2_digested_L6 X a0 a3 ha0 ha3 _ (fun s9 y4_8 => ?_) FU σ a1 (0 : Int32)
  refine g_iconst (0 : Int32) dX2_digested_58 (by decide) ?_
  refine g_istore [(6, .int ((0 : Int32))), (0, .ref (xad X (69 + 4 * a0))), (3, .ref (xad X (4 + 2 * a3))), (4, .long y4_8)] dX2_digested_59 (by decide) rfl ?_
  refine g_sub [1, 2, 3, 0] rfl ?_
  refine t_X2_digested_L61 X a0 a3 ha0 ha3 _ (fun s13 y4_12 => ?_) FU s9 y4_8 (0 : Int32)
  refine g_iconst (0 : Int32) dX2_digested_94 (by decide) ?_
  refine g_istore [(6, .int ((0 : Int32))), (0, .ref (xad X (69 + 4 * a0))), (3, .ref (xad X (4 + 2 * a3))), (4, .long y4_12)] dX2_digested_95 (by decide) rfl ?_
  refine g_sub [1, 2, 3, 0] rfl ?_
  refine t_X2_digested_L97 X a0 a3 ha0 ha3 _ (fun s19 y4_18 => ?_) FU s13 y4_12 (0 : Int32)
  refine g_lload 0 dX2_digested_130 rfl ?_
  exact g_lret rfl dX2_digested_132

def X3_kindOf_L2 (x0 : Int32) (k27 : Mem → Option (Mem × Int32)) : Nat → Mem → Int32 → Option (Mem × Int32)
  | 0, _, _ => none
  | n + 1, σ, x1 => (if (6 : Int32) ≤ x1 then k27 σ else (ck x1 6 <| if (LTV x1.toNatClampNeg) = x0 then (some (σ, x1)) else (X3_kindOf_L2 x0 k27 n σ ((x1 + (1 : Int32))))))
def X3_kindOf (σ : Mem) (a0 : Int32) : Option (Mem × Int32) := (X3_kindOf_L2 a0 (fun (s3 : Mem) => (some (s3, (-9 : Int32)))) FU σ (0 : Int32))
set_option maxRecDepth 100000 in
set_option maxHeartbeats 4000000 in
theorem t_X3_kindOf_L2 (X : GX) (x0 : Int32) (k27 : Mem → Option (Mem × Int32)) (hk27 : ∀ (σ : Mem), GS (KM enI X) X mX3_kindOf σ 27 [] [] (k27 σ)) : ∀ (n : Nat) (σ : Mem) (x1 : Int32), GS (KM enI X) X mX3_kindOf σ 2 [(0, .int x0), (1, .int x1)] [] (X3_kindOf_L2 x0 k27 n σ x1) := by
  intro n
  induction n with
  | zero => intros; exact g_none
  | succ n ih =>
    intro σ x1
    rw [X3_kindOf_L2]
    refine g_iload_n 1 dX3_kindOf_2 rfl ?_
    refine g_gets1 fl_X3_43 dX3_kindOf_3 ?_
    refine g_tlen1 dX3_kindOf_6 ?_
    refine g_icmp_ge 27 dX3_kindOf_7 rfl (fun _ => ?_) (fun _ => ?_)
    · refine g_sub [] rfl ?_
      exact hk27 σ
    · refine g_gets1 fl_X3_43 dX3_kindOf_10 ?_
      refine g_iload_n 1 dX3_kindOf_13 rfl ?_
      refine g_tald1 dX3_kindOf_14 (fun _ => ?_)
      refine g_iload_n 0 dX3_kindOf_15 rfl ?_
      refine g_icmp_ne 21 dX3_kindOf_16 rfl (fun _ => ?_) (fun _ => ?_)
      · refine g_iinc 1 [(1, .int ((x1 + (1 : Int32)))), (0, .int x0)] dX3_kindOf_21 rfl (v := x1 + (1 : Int32)) rfl (by decide) rfl ?_
        refine g_goto 2 dX3_kindOf_24 rfl ?_
        refine g_sub [1, 0] rfl ?_
        exact ih σ ((x1 + (1 : Int32)))
      · refine g_iload_n 1 dX3_kindOf_19 rfl ?_
        exact g_iret rfl dX3_kindOf_20

set_option maxRecDepth 100000 in
set_option maxHeartbeats 4000000 in
theorem c_X3_kindOf (σ : Mem) (a0 : Int32) : CT yX3_kindOf mX3_kindOf enI (fun ad => [.int a0]) σ (X3_kindOf σ a0) := by
  refine CT.of (by decide) rfl (fun _ => Nat.le_of_ble_eq_true rfl) (fun X => ?_)
  show GS (KM enI X) X mX3_kindOf σ 0 [(0, .int a0)] [] _
  unfold X3_kindOf
  refine g_iconst (0 : Int32) dX3_kindOf_0 (by decide) ?_
  refine g_istore_n [(1, .int ((0 : Int32))), (0, .int a0)] dX3_kindOf_1 (by decide) rfl ?_
  refine g_sub [1, 0] rfl ?_
  refine t_X3_kindOf_L2 X a0 _ (fun s3 => ?_) FU σ (0 : Int32)
  refine g_bipush (-9 : Int32) dX3_kindOf_27 (by decide) ?_
  exact g_iret rfl dX3_kindOf_29

def X3_signsOf (σ : Mem) (a0 : Int32) : Option (Mem × Int32) := (if a0 = (1 : Int32) then (some (σ, (1 : Int32))) else (if a0 = (3 : Int32) then ((some (σ, (3 : Int32)))) else (if a0 = (4 : Int32) then ((some (σ, (3 : Int32)))) else (some (σ, (2 : Int32))))))
set_option maxRecDepth 100000 in
set_option maxHeartbeats 4000000 in
theorem c_X3_signsOf (σ : Mem) (a0 : Int32) : CT yX3_signsOf mX3_signsOf enI (fun ad => [.int a0]) σ (X3_signsOf σ a0) := by
  refine CT.of (by decide) rfl (fun _ => Nat.le_of_ble_eq_true rfl) (fun X => ?_)
  show GS (KM enI X) X mX3_signsOf σ 0 [(0, .int a0)] [] _
  unfold X3_signsOf
  refine g_iload_n 0 dX3_signsOf_0 rfl ?_
  refine g_iconst (1 : Int32) dX3_signsOf_1 (by decide) ?_
  refine g_icmp_ne 7 dX3_signsOf_2 rfl (fun _ => ?_) (fun _ => ?_)
  · refine g_iload_n 0 dX3_signsOf_7 rfl ?_
    refine g_iconst (3 : Int32) dX3_signsOf_8 (by decide) ?_
    refine g_icmp_eq 17 dX3_signsOf_9 rfl (fun _ => ?_) (fun _ => ?_)
    · refine g_iconst (3 : Int32) dX3_signsOf_17 (by decide) ?_
      refine g_goto 22 dX3_signsOf_18 rfl ?_
      exact g_iret rfl dX3_signsOf_22
    · refine g_iload_n 0 dX3_signsOf_12 rfl ?_
      refine g_iconst (4 : Int32) dX3_signsOf_13 (by decide) ?_
      refine g_icmp_ne 21 dX3_signsOf_14 rfl (fun _ => ?_) (fun _ => ?_)
      · refine g_iconst (2 : Int32) dX3_signsOf_21 (by decide) ?_
        exact g_iret rfl dX3_signsOf_22
      · refine g_iconst (3 : Int32) dX3_signsOf_17 (by decide) ?_
        refine g_goto 22 dX3_signsOf_18 rfl ?_
        exact g_iret rfl dX3_signsOf_22
  · refine g_iconst (1 : Int32) dX3_signsOf_5 (by decide) ?_
    exact g_iret rfl dX3_signsOf_6

def X3_signAt (σ : Mem) (a0 : Nat) (a1 : Int32) : Option (Mem × Int32) := if a0 < 11 then ((X4_cell σ a0 a1).bind fun q1 => lt_ ((q1.2 - (65 : Int32))) fun (v2 : Int32) => if v2 < 0 then (some (q1.1, (-9 : Int32))) else (if (6 : Int32) ≤ v2 then (some (q1.1, (-9 : Int32))) else ((some (q1.1, v2))))) else none
set_option maxRecDepth 100000 in
set_option maxHeartbeats 4000000 in
theorem c_X3_signAt (σ : Mem) (a0 : Nat) (a1 : Int32) : CT yX3_signAt mX3_signAt enI (fun ad => [.ref (ad (4 + 2 * a0)), .int a1]) σ (X3_signAt σ a0 a1) := by
  refine CT.of (by decide) rfl (fun _ => Nat.le_of_ble_eq_true rfl) (fun X => ?_)
  show GS (KM enI X) X mX3_signAt σ 0 [(0, .ref (xad X (4 + 2 * a0))), (1, .int a1)] [] _
  unfold X3_signAt
  refine g_guard (fun ha0 => ?_)
  refine g_aload_n 0 dX3_signAt_0 rfl ?_
  refine g_iload_n 1 dX3_signAt_1 rfl ?_
  refine g_callVI (c_X4_cell σ a0 a1) okX4_cell ⟨by decide, by decide⟩ ml_X3_25 (sh_X4 ha0) (no_X4 ha0) rfl rfl [.int a1] rfl rfl rfl (Nat.le_of_ble_eq_true rfl) dX3_signAt_2 (fun q1 => ?_)
  refine g_bipush (65 : Int32) dX3_signAt_5 (by decide) ?_
  refine g_isub dX3_signAt_7 ?_
  refine g_topi (fun v2 => ?_)
  refine g_istore_n [(2, .int v2), (0, .ref (xad X (4 + 2 * a0))), (1, .int a1)] dX3_signAt_8 (by decide) rfl ?_
  refine g_iload_n 0 dX3_signAt_9 rfl ?_
  refine g_if_lt 23 dX3_signAt_10 rfl (fun _ => ?_) (fun _ => ?_)
  · refine g_bipush (-9 : Int32) dX3_signAt_23 (by decide) ?_
    exact g_iret rfl dX3_signAt_25
  · refine g_iload_n 0 dX3_signAt_13 rfl ?_
    refine g_bipush (6 : Int32) dX3_signAt_14 (by decide) ?_
    refine g_icmp_ge 23 dX3_signAt_16 rfl (fun _ => ?_) (fun _ => ?_)
    · refine g_bipush (-9 : Int32) dX3_signAt_23 (by decide) ?_
      exact g_iret rfl dX3_signAt_25
    · refine g_iload_n 0 dX3_signAt_19 rfl ?_
      refine g_goto 25 dX3_signAt_20 rfl ?_
      exact g_iret rfl dX3_signAt_25

def X3_read_L66 (x1 : Nat) (x2 : Int32) (x3 : Int32) (x4 : Int32) (k97 : Mem → Option (Mem × Int32)) : Nat → Mem → Int32 → Option (Mem × Int32)
  | 0, _, _ => none
  | n + 1, σ, x5 => (if x4 < x5 then k97 σ else ((X3_signAt σ x1 ((x2 + x5))).bind fun q5 => if q5.2 = (-9 : Int32) then (some (q5.1, (x2 + x5))) else (X3_read_L66 x1 x2 x3 x4 k97 n q5.1 ((x5 + (1 : Int32))))))
def X3_read_J132 (σ : Mem) (x1 : Nat) (x2 : Int32) (x4 : Int32) (z0 : Int32) (z1 : Int32) (z2 : Int32) (z3 : Nat) (kb : Mem → Int32 → Option (Mem × Int32)) (k174 : Mem → Option (Mem × Int32)) : Option (Mem × Int32) := (if x4 ≤ (2 : Int32) then ((X1_become σ z3 z2 z1 z0 (-9 : Int32)).bind fun q11 => lt_ ((x2 + x4)) fun (v12 : Int32) => kb ((uI q11.1 301 0 0 (((q11.1.1 301 0 0) + (1 : Int32))))) ((v12 + (1 : Int32)))) else ((X3_signAt σ x1 ((x2 + (3 : Int32)))).bind fun q14 => ((X1_become q14.1 z3 z2 z1 z0 q14.2).bind fun q15 => lt_ ((x2 + x4)) fun (v16 : Int32) => kb ((uI q15.1 301 0 0 (((q15.1.1 301 0 0) + (1 : Int32))))) ((v16 + (1 : Int32))))))
def X3_read_L7 (x1 : Nat) (k174 : Mem → Option (Mem × Int32)) : Nat → Mem → Int32 → Option (Mem × Int32)
  | 0, _, _ => none
  | n + 1, σ, x2 => (if (σ.1 401 x1 0) ≤ x2 then k174 σ else ((X4_cell σ x1 x2).bind fun q1 => if q1.2 = (32 : Int32) then ((X3_read_L7 x1 k174 n q1.1 ((x2 + (1 : Int32))))) else ((X4_cell q1.1 x1 x2).bind fun q2 => (X3_kindOf q2.1 q2.2).bind fun q3 => if q3.2 = (-9 : Int32) then (some (q3.1, x2)) else (if (q3.1.1 301 0 0) < (8 : Int32) then ((X3_signsOf q3.1 q3.2).bind fun q4 => X3_read_L66 x1 x2 q3.2 q4.2 (fun (s8 : Mem) => (ck (s8.1 301 0 0) 8 <| if (32 + (s8.1 301 0 0).toNatClampNeg) < 41 then (X3_signAt s8 x1 ((x2 + (1 : Int32)))).bind fun q10 => if q4.2 ≤ (1 : Int32) then (X3_read_J132 q10.1 x1 x2 q4.2 (-9 : Int32) q10.2 q3.2 ((32 + (s8.1 301 0 0).toNatClampNeg)) (X3_read_L7 x1 k174 n) k174) else ((X3_signAt q10.1 x1 ((x2 + (2 : Int32)))).bind fun q18 => X3_read_J132 q18.1 x1 x2 q4.2 q18.2 q10.2 q3.2 ((32 + (s8.1 301 0 0).toNatClampNeg)) (X3_read_L7 x1 k174 n) k174) else none)) FU q4.1 (1 : Int32)) else (some (q3.1, x2))))))
def X3_read (σ : Mem) (a1 : Nat) : Option (Mem × Int32) := if a1 < 11 then (X3_read_L7 a1 (fun (s21 : Mem) => (some (s21, (-9 : Int32)))) FU ((uI σ 301 0 0 (0 : Int32))) (0 : Int32)) else none
set_option maxRecDepth 100000 in
set_option maxHeartbeats 4000000 in
theorem t_X3_read_L66 (X : GX) (x1 : Nat) (x2 : Int32) (x3 : Int32) (x4 : Int32) (hx1 : x1 < 11) (k97 : Mem → Option (Mem × Int32)) (hk97 : ∀ (σ : Mem), GS (KM enI X) X mX3_read σ 97 [(0, .ref (xad X (26))), (1, .ref (xad X (4 + 2 * x1))), (2, .int x2), (3, .int x3), (4, .int x4)] [] (k97 σ)) : ∀ (n : Nat) (σ : Mem) (x5 : Int32), GS (KM enI X) X mX3_read σ 66 [(0, .ref (xad X (26))), (1, .ref (xad X (4 + 2 * x1))), (2, .int x2), (3, .int x3), (4, .int x4), (5, .int x5)] [] (X3_read_L66 x1 x2 x3 x4 k97 n σ x5) := by
  intro n
  induction n with
  | zero => intros; exact g_none
  | succ n ih =>
    intro σ x5
    rw [X3_read_L66]
    refine g_iload 5 dX3_read_66 rfl ?_
    refine g_iload 4 dX3_read_68 rfl ?_
    refine g_icmp_gt 97 dX3_read_70 rfl (fun _ => ?_) (fun _ => ?_)
    · refine g_sub [0, 1, 2, 3, 4] rfl ?_
      exact hk97 σ
    · refine g_aload_n 1 dX3_read_73 rfl ?_
      refine g_iload_n 2 dX3_read_74 rfl ?_
      refine g_iload 5 dX3_read_75 rfl ?_
      refine g_iadd dX3_read_77 ?_
      refine g_callSI (c_X3_signAt σ x1 ((x2 + x5))) okX3_signAt ⟨by decide, by decide⟩ ml_X3_35 rfl rfl (Nat.le_of_ble_eq_true rfl) dX3_read_78 (fun q5 => ?_)
      refine g_bipush (-9 : Int32) dX3_read_81 (by decide) ?_
      refine g_icmp_ne 91 dX3_read_83 rfl (fun _ => ?_) (fun _ => ?_)
      · refine g_iinc 5 [(5, .int ((x5 + (1 : Int32)))), (0, .ref (xad X (26))), (1, .ref (xad X (4 + 2 * x1))), (2, .int x2), (3, .int x3), (4, .int x4)] dX3_read_91 rfl (v := x5 + (1 : Int32)) rfl (by decide) rfl ?_
        refine g_goto 66 dX3_read_94 rfl ?_
        refine g_sub [1, 2, 3, 4, 5, 0] rfl ?_
        exact ih q5.1 ((x5 + (1 : Int32)))
      · refine g_iload_n 2 dX3_read_86 rfl ?_
        refine g_iload 5 dX3_read_87 rfl ?_
        refine g_iadd dX3_read_89 ?_
        exact g_iret rfl dX3_read_90

set_option maxRecDepth 100000 in
set_option maxHeartbeats 4000000 in
theorem t_X3_read_J132 (X : GX) (σ : Mem) (x1 : Nat) (x2 : Int32) (x4 : Int32) (z0 : Int32) (z1 : Int32) (z2 : Int32) (z3 : Nat) (hx1 : x1 < 11) (hz3 : z3 < 41) (kb : Mem → Int32 → Option (Mem × Int32)) (k174 : Mem → Option (Mem × Int32)) (hkb : ∀ (σ : Mem) (y2 : Int32), GS (KM enI X) X mX3_read σ 7 [(0, .ref (xad X (26))), (1, .ref (xad X (4 + 2 * x1))), (2, .int y2)] [] (kb σ y2)) (hk174 : ∀ (σ : Mem), GS (KM enI X) X mX3_read σ 174 [] [] (k174 σ)) : GS (KM enI X) X mX3_read σ 132 [(0, .ref (xad X (26))), (1, .ref (xad X (4 + 2 * x1))), (2, .int x2), (4, .int x4)] [.int z0, .int z1, .int z2, .ref (xad X (28 + z3))] (X3_read_J132 σ x1 x2 x4 z0 z1 z2 z3 kb k174) := by
  unfold X3_read_J132
  refine g_iload 3 dX3_read_132 rfl ?_
  refine g_iconst (2 : Int32) dX3_read_134 (by decide) ?_
  refine g_icmp_le 148 dX3_read_135 rfl (fun _ => ?_) (fun _ => ?_)
  · refine g_bipush (-9 : Int32) dX3_read_148 (by decide) ?_
    refine g_callVV (c_X1_become σ z3 z2 z1 z0 (-9 : Int32)) okX1_become ⟨by decide, by decide⟩ ml_X3_39 (sh_X1 hz3) (no_X1 hz3) rfl rfl [.int z2, .int z1, .int z0, .int ((-9 : Int32))] rfl rfl rfl (Nat.le_of_ble_eq_true rfl) dX3_read_150 (fun q11 => ?_)
    refine g_aload_n 0 dX3_read_153 rfl ?_
    refine g_dup dX3_read_154 rfl ?_
    refine gf_X3_1 fl_X3_17 dX3_read_155 ?_
    refine g_iconst (1 : Int32) dX3_read_158 (by decide) ?_
    refine g_iadd dX3_read_159 ?_
    refine pf_X3_1 fl_X3_17 dX3_read_160 ?_
    refine g_iload_n 2 dX3_read_163 rfl ?_
    refine g_iload 3 dX3_read_164 rfl ?_
    refine g_iadd dX3_read_166 ?_
    refine g_topi (fun v12 => ?_)
    refine g_istore_n [(2, .int v12), (0, .ref (xad X (26))), (1, .ref (xad X (4 + 2 * x1))), (4, .int x4)] dX3_read_167 (by decide) rfl ?_
    refine g_iinc 0 [(2, .int ((v12 + (1 : Int32)))), (0, .ref (xad X (26))), (1, .ref (xad X (4 + 2 * x1))), (4, .int x4)] dX3_read_168 rfl (v := v12 + (1 : Int32)) rfl (by decide) rfl ?_
    refine g_goto 7 dX3_read_171 rfl ?_
    refine g_sub [1, 2, 0] rfl ?_
    exact hkb ((uI q11.1 301 0 0 (((q11.1.1 301 0 0) + (1 : Int32))))) ((v12 + (1 : Int32)))
  · refine g_aload_n 1 dX3_read_138 rfl ?_
    refine g_iload_n 2 dX3_read_139 rfl ?_
    refine g_iconst (3 : Int32) dX3_read_140 (by decide) ?_
    refine g_iadd dX3_read_141 ?_
    refine g_callSI (c_X3_signAt σ x1 ((x2 + (3 : Int32)))) okX3_signAt ⟨by decide, by decide⟩ ml_X3_35 rfl rfl (Nat.le_of_ble_eq_true rfl) dX3_read_142 (fun q14 => ?_)
    refine g_goto 150 dX3_read_145 rfl ?_
    refine g_callVV (c_X1_become q14.1 z3 z2 z1 z0 q14.2) okX1_become ⟨by decide, by decide⟩ ml_X3_39 (sh_X1 hz3) (no_X1 hz3) rfl rfl [.int z2, .int z1, .int z0, .int (q14.2)] rfl rfl rfl (Nat.le_of_ble_eq_true rfl) dX3_read_150 (fun q15 => ?_)
    refine g_aload_n 0 dX3_read_153 rfl ?_
    refine g_dup dX3_read_154 rfl ?_
    refine gf_X3_1 fl_X3_17 dX3_read_155 ?_
    refine g_iconst (1 : Int32) dX3_read_158 (by decide) ?_
    refine g_iadd dX3_read_159 ?_
    refine pf_X3_1 fl_X3_17 dX3_read_160 ?_
    refine g_iload_n 2 dX3_read_163 rfl ?_
    refine g_iload 3 dX3_read_164 rfl ?_
    refine g_iadd dX3_read_166 ?_
    refine g_topi (fun v16 => ?_)
    refine g_istore_n [(2, .int v16), (0, .ref (xad X (26))), (1, .ref (xad X (4 + 2 * x1))), (4, .int x4)] dX3_read_167 (by decide) rfl ?_
    refine g_iinc 0 [(2, .int ((v16 + (1 : Int32)))), (0, .ref (xad X (26))), (1, .ref (xad X (4 + 2 * x1))), (4, .int x4)] dX3_read_168 rfl (v := v16 + (1 : Int32)) rfl (by decide) rfl ?_
    refine g_goto 7 dX3_read_171 rfl ?_
    refine g_sub [1, 2, 0] rfl ?_
    exact hkb ((uI q15.1 301 0 0 (((q15.1.1 301 0 0) + (1 : Int32))))) ((v16 + (1 : Int32)))

set_option maxRecDepth 100000 in
set_option maxHeartbeats 4000000 in
theorem t_X3_read_L7 (X : GX) (x1 : Nat) (hx1 : x1 < 11) (k174 : Mem → Option (Mem × Int32)) (hk174 : ∀ (σ : Mem), GS (KM enI X) X mX3_read σ 174 [] [] (k174 σ)) : ∀ (n : Nat) (σ : Mem) (x2 : Int32), GS (KM enI X) X mX3_read σ 7 [(0, .ref (xad X (26))), (1, .ref (xad X (4 + 2 * x1))), (2, .int x2)] [] (X3_read_L7 x1 k174 n σ x2) := by
  intro n
  induction n with
  | zero => intros; exact g_none
  | succ n ih =>
    intro σ x2
    rw [X3_read_L7]
    refine g_iload_n 2 dX3_read_7 rfl ?_
    refine g_aload_n 1 dX3_read_8 rfl ?_
    refine gf_X4_1 hx1 fl_X3_22 dX3_read_9 ?_
    refine g_icmp_ge 174 dX3_read_12 rfl (fun _ => ?_) (fun _ => ?_)
    · refine g_sub [] rfl ?_
      exact hk174 σ
    · refine g_aload_n 1 dX3_read_15 rfl ?_
      refine g_iload_n 2 dX3_read_16 rfl ?_
      refine g_callVI (c_X4_cell σ x1 x2) okX4_cell ⟨by decide, by decide⟩ ml_X3_25 (sh_X4 hx1) (no_X4 hx1) rfl rfl [.int x2] rfl rfl rfl (Nat.le_of_ble_eq_true rfl) dX3_read_17 (fun q1 => ?_)
      refine g_bipush (32 : Int32) dX3_read_20 (by decide) ?_
      refine g_icmp_ne 28 dX3_read_22 rfl (fun _ => ?_) (fun _ => ?_)
      · refine g_aload_n 1 dX3_read_28 rfl ?_
        refine g_iload_n 2 dX3_read_29 rfl ?_
        refine g_callVI (c_X4_cell q1.1 x1 x2) okX4_cell ⟨by decide, by decide⟩ ml_X3_25 (sh_X4 hx1) (no_X4 hx1) rfl rfl [.int x2] rfl rfl rfl (Nat.le_of_ble_eq_true rfl) dX3_read_30 (fun q2 => ?_)
        refine g_callSI (c_X3_kindOf q2.1 q2.2) okX3_kindOf ⟨by decide, by decide⟩ ml_X3_29 rfl rfl (Nat.le_of_ble_eq_true rfl) dX3_read_33 (fun q3 => ?_)
        refine g_istore_n [(3, .int (q3.2)), (0, .ref (xad X (26))), (1, .ref (xad X (4 + 2 * x1))), (2, .int x2)] dX3_read_36 (by decide) rfl ?_
        refine g_iload_n 0 dX3_read_37 rfl ?_
        refine g_bipush (-9 : Int32) dX3_read_38 (by decide) ?_
        refine g_icmp_eq 55 dX3_read_40 rfl (fun _ => ?_) (fun _ => ?_)
        · refine g_iload_n 3 dX3_read_55 rfl ?_
          exact g_iret rfl dX3_read_56
        · refine g_aload_n 1 dX3_read_43 rfl ?_
          refine gf_X3_1 fl_X3_17 dX3_read_44 ?_
          refine g_aload_n 1 dX3_read_47 rfl ?_
          refine gf_X3_0 fl_X3_11 dX3_read_48 ?_
          refine g_alen (v := (8 : Int32)) sh_27 no_27 (by decide) rfl dX3_read_51 ?_
          refine g_icmp_lt 57 dX3_read_52 rfl (fun _ => ?_) (fun _ => ?_)
          · refine g_iload_n 0 dX3_read_57 rfl ?_
            refine g_callSI (c_X3_signsOf q3.1 q3.2) okX3_signsOf ⟨by decide, by decide⟩ ml_X3_32 rfl rfl (Nat.le_of_ble_eq_true rfl) dX3_read_58 (fun q4 => ?_)
            refine g_istore [(4, .int (q4.2)), (3, .int (q3.2)), (0, .ref (xad X (26))), (1, .ref (xad X (4 + 2 * x1))), (2, .int x2)] dX3_read_61 (by decide) rfl ?_
            refine g_iconst (1 : Int32) dX3_read_63 (by decide) ?_
            refine g_istore [(5, .int ((1 : Int32))), (4, .int (q4.2)), (3, .int (q3.2)), (0, .ref (xad X (26))), (1, .ref (xad X (4 + 2 * x1))), (2, .int x2)] dX3_read_64 (by decide) rfl ?_
            refine g_sub [3, 4, 5, 2, 1, 0] rfl ?_
            refine t_X3_read_L66 X x1 x2 q3.2 q4.2 hx1 _ (fun s8 => ?_) FU q4.1 (1 : Int32)
            refine g_aload_n 0 dX3_read_97 rfl ?_
            refine gf_X3_0 fl_X3_11 dX3_read_98 ?_
            refine g_aload_n 0 dX3_read_101 rfl ?_
            refine gf_X3_1 fl_X3_17 dX3_read_102 ?_
            refine g_ald6 sh_27 no_27 dX3_read_105 (fun _ => ?_)
            refine g_guard (fun h9 => ?_)
            refine g_iload_n 3 dX3_read_106 rfl ?_
            refine g_aload_n 1 dX3_read_107 rfl ?_
            refine g_iload_n 2 dX3_read_108 rfl ?_
            refine g_iconst (1 : Int32) dX3_read_109 (by decide) ?_
            refine g_iadd dX3_read_110 ?_
            refine g_callSI (c_X3_signAt s8 x1 ((x2 + (1 : Int32)))) okX3_signAt ⟨by decide, by decide⟩ ml_X3_35 rfl rfl (Nat.le_of_ble_eq_true rfl) dX3_read_111 (fun q10 => ?_)
            refine g_iload 4 dX3_read_114 rfl ?_
            refine g_iconst (1 : Int32) dX3_read_116 (by decide) ?_
            refine g_icmp_le 130 dX3_read_117 rfl (fun _ => ?_) (fun _ => ?_)
            · refine g_bipush (-9 : Int32) dX3_read_130 (by decide) ?_
              refine g_sub [0, 1, 2, 4] rfl ?_
              exact t_X3_read_J132 X q10.1 x1 x2 q4.2 (-9 : Int32) q10.2 q3.2 ((32 + (s8.1 301 0 0).toNatClampNeg)) hx1 h9 _ _ (fun σ y2 => ih σ y2) hk174
            · refine g_aload_n 1 dX3_read_120 rfl ?_
              refine g_iload_n 2 dX3_read_121 rfl ?_
              refine g_iconst (2 : Int32) dX3_read_122 (by decide) ?_
              refine g_iadd dX3_read_123 ?_
              refine g_callSI (c_X3_signAt q10.1 x1 ((x2 + (2 : Int32)))) okX3_signAt ⟨by decide, by decide⟩ ml_X3_35 rfl rfl (Nat.le_of_ble_eq_true rfl) dX3_read_124 (fun q18 => ?_)
              refine g_goto 132 dX3_read_127 rfl ?_
              refine g_sub [0, 1, 2, 4] rfl ?_
              exact t_X3_read_J132 X q18.1 x1 x2 q4.2 q18.2 q10.2 q3.2 ((32 + (s8.1 301 0 0).toNatClampNeg)) hx1 h9 _ _ (fun σ y2 => ih σ y2) hk174
          · refine g_iload_n 3 dX3_read_55 rfl ?_
            exact g_iret rfl dX3_read_56
      · refine g_goto 168 dX3_read_25 rfl ?_
        refine g_iinc 2 [(2, .int ((x2 + (1 : Int32)))), (0, .ref (xad X (26))), (1, .ref (xad X (4 + 2 * x1)))] dX3_read_168 rfl (v := x2 + (1 : Int32)) rfl (by decide) rfl ?_
        refine g_goto 7 dX3_read_171 rfl ?_
        refine g_sub [1, 2, 0] rfl ?_
        exact ih q1.1 ((x2 + (1 : Int32)))

set_option maxRecDepth 100000 in
set_option maxHeartbeats 4000000 in
theorem c_X3_read (σ : Mem) (a1 : Nat) : CT yX3_read mX3_read enI (fun ad => [.ref (ad (26)), .ref (ad (4 + 2 * a1))]) σ (X3_read σ a1) := by
  refine CT.of (by decide) rfl (fun _ => Nat.le_of_ble_eq_true rfl) (fun X => ?_)
  show GS (KM enI X) X mX3_read σ 0 [(0, .ref (xad X (26))), (1, .ref (xad X (4 + 2 * a1)))] [] _
  unfold X3_read
  refine g_guard (fun ha1 => ?_)
  refine g_aload_n 0 dX3_read_0 rfl ?_
  refine g_iconst (0 : Int32) dX3_read_1 (by decide) ?_
  refine pf_X3_1 fl_X3_17 dX3_read_2 ?_
  refine g_iconst (0 : Int32) dX3_read_5 (by decide) ?_
  refine g_istore_n [(2, .int ((0 : Int32))), (0, .ref (xad X (26))), (1, .ref (xad X (4 + 2 * a1)))] dX3_read_6 (by decide) rfl ?_
  refine g_sub [1, 2, 0] rfl ?_
  refine t_X3_read_L7 X a1 ha1 _ (fun s21 => ?_) FU ((uI σ 301 0 0 (0 : Int32))) (0 : Int32)
  refine g_bipush (-9 : Int32) dX3_read_174 (by decide) ?_
  exact g_iret rfl dX3_read_176

def X4_isThere (σ : Mem) (a0 : Nat) : Option (Mem × Int32) := if a0 < 11 then (if (σ.1 401 a0 0) < 0 then (if (0 : Int32) = 0 ∨ (0 : Int32) = 1 then some (σ, (0 : Int32)) else none) else ((if (1 : Int32) = 0 ∨ (1 : Int32) = 1 then some (σ, (1 : Int32)) else none))) else none
set_option maxRecDepth 100000 in
set_option maxHeartbeats 4000000 in
theorem c_X4_isThere (σ : Mem) (a0 : Nat) : CT yX4_isThere mX4_isThere enI (fun ad => [.ref (ad (4 + 2 * a0))]) σ (X4_isThere σ a0) := by
  refine CT.of (by decide) rfl (fun _ => Nat.le_of_ble_eq_true rfl) (fun X => ?_)
  show GS (KM enI X) X mX4_isThere σ 0 [(0, .ref (xad X (4 + 2 * a0)))] [] _
  unfold X4_isThere
  refine g_guard (fun ha0 => ?_)
  refine g_aload_n 0 dX4_isThere_0 rfl ?_
  refine gf_X4_1 ha0 fl_X4_9 dX4_isThere_1 ?_
  refine g_if_lt 11 dX4_isThere_4 rfl (fun _ => ?_) (fun _ => ?_)
  · refine g_iconst (0 : Int32) dX4_isThere_11 (by decide) ?_
    exact g_zret rfl dX4_isThere_12
  · refine g_iconst (1 : Int32) dX4_isThere_7 (by decide) ?_
    refine g_goto 12 dX4_isThere_8 rfl ?_
    exact g_zret rfl dX4_isThere_12

def X4_hasPlaces (σ : Mem) (a0 : Nat) (a1 : Int32) (a2 : Int32) : Option (Mem × Int32) := if a0 < 11 then (if a1 < 0 then (if (0 : Int32) = 0 ∨ (0 : Int32) = 1 then some (σ, (0 : Int32)) else none) else (if a2 < 0 then (if (0 : Int32) = 0 ∨ (0 : Int32) = 1 then some (σ, (0 : Int32)) else none) else (if (σ.1 401 a0 0) < a2 then (if (0 : Int32) = 0 ∨ (0 : Int32) = 1 then some (σ, (0 : Int32)) else none) else (if ((σ.1 401 a0 0) - a2) < a1 then (if (0 : Int32) = 0 ∨ (0 : Int32) = 1 then some (σ, (0 : Int32)) else none) else ((if (1 : Int32) = 0 ∨ (1 : Int32) = 1 then some (σ, (1 : Int32)) else none)))))) else none
set_option maxRecDepth 100000 in
set_option maxHeartbeats 4000000 in
theorem c_X4_hasPlaces (σ : Mem) (a0 : Nat) (a1 : Int32) (a2 : Int32) : CT yX4_hasPlaces mX4_hasPlaces enI (fun ad => [.ref (ad (4 + 2 * a0)), .int a1, .int a2]) σ (X4_hasPlaces σ a0 a1 a2) := by
  refine CT.of (by decide) rfl (fun _ => Nat.le_of_ble_eq_true rfl) (fun X => ?_)
  show GS (KM enI X) X mX4_hasPlaces σ 0 [(0, .ref (xad X (4 + 2 * a0))), (1, .int a1), (2, .int a2)] [] _
  unfold X4_hasPlaces
  refine g_guard (fun ha0 => ?_)
  refine g_iload_n 1 dX4_hasPlaces_0 rfl ?_
  refine g_if_lt 30 dX4_hasPlaces_1 rfl (fun _ => ?_) (fun _ => ?_)
  · refine g_iconst (0 : Int32) dX4_hasPlaces_30 (by decide) ?_
    exact g_zret rfl dX4_hasPlaces_31
  · refine g_iload_n 2 dX4_hasPlaces_4 rfl ?_
    refine g_if_lt 30 dX4_hasPlaces_5 rfl (fun _ => ?_) (fun _ => ?_)
    · refine g_iconst (0 : Int32) dX4_hasPlaces_30 (by decide) ?_
      exact g_zret rfl dX4_hasPlaces_31
    · refine g_iload_n 2 dX4_hasPlaces_8 rfl ?_
      refine g_aload_n 0 dX4_hasPlaces_9 rfl ?_
      refine gf_X4_1 ha0 fl_X4_9 dX4_hasPlaces_10 ?_
      refine g_icmp_gt 30 dX4_hasPlaces_13 rfl (fun _ => ?_) (fun _ => ?_)
      · refine g_iconst (0 : Int32) dX4_hasPlaces_30 (by decide) ?_
        exact g_zret rfl dX4_hasPlaces_31
      · refine g_iload_n 1 dX4_hasPlaces_16 rfl ?_
        refine g_aload_n 0 dX4_hasPlaces_17 rfl ?_
        refine gf_X4_1 ha0 fl_X4_9 dX4_hasPlaces_18 ?_
        refine g_iload_n 2 dX4_hasPlaces_21 rfl ?_
        refine g_isub dX4_hasPlaces_22 ?_
        refine g_icmp_gt 30 dX4_hasPlaces_23 rfl (fun _ => ?_) (fun _ => ?_)
        · refine g_iconst (0 : Int32) dX4_hasPlaces_30 (by decide) ?_
          exact g_zret rfl dX4_hasPlaces_31
        · refine g_iconst (1 : Int32) dX4_hasPlaces_26 (by decide) ?_
          refine g_goto 31 dX4_hasPlaces_27 rfl ?_
          exact g_zret rfl dX4_hasPlaces_31

def X4_change (σ : Mem) (a0 : Nat) (a1 : Int32) (a2 : Int32) : Option (Mem × Unit) := if a0 < 11 then ((X4_hasPlace σ a0 a1).bind fun q1 => if q1.2 = 0 then (some (q1.1, ())) else (ck a1 (rl a0) <| some ((uI q1.1 400 a0 a1.toNatClampNeg a2), ()))) else none
set_option maxRecDepth 100000 in
set_option maxHeartbeats 4000000 in
theorem c_X4_change (σ : Mem) (a0 : Nat) (a1 : Int32) (a2 : Int32) : CT yX4_change mX4_change enV (fun ad => [.ref (ad (4 + 2 * a0)), .int a1, .int a2]) σ (X4_change σ a0 a1 a2) := by
  refine CT.of (by decide) rfl (fun _ => Nat.le_of_ble_eq_true rfl) (fun X => ?_)
  show GS (KM enV X) X mX4_change σ 0 [(0, .ref (xad X (4 + 2 * a0))), (1, .int a1), (2, .int a2)] [] _
  unfold X4_change
  refine g_guard (fun ha0 => ?_)
  refine g_aload_n 0 dX4_change_0 rfl ?_
  refine g_iload_n 1 dX4_change_1 rfl ?_
  refine g_callVI (c_X4_hasPlace σ a0 a1) okX4_hasPlace ⟨by decide, by decide⟩ ml_X4_25 (sh_X4 ha0) (no_X4 ha0) rfl rfl [.int a1] rfl rfl rfl (Nat.le_of_ble_eq_true rfl) dX4_change_2 (fun q1 => ?_)
  refine g_if_eq 15 dX4_change_5 rfl (fun _ => ?_) (fun _ => ?_)
  · exact g_vret rfl dX4_change_15
  · refine g_aload_n 0 dX4_change_8 rfl ?_
    refine gf_X4_0 ha0 fl_X4_21 dX4_change_9 ?_
    refine g_iload_n 1 dX4_change_12 rfl ?_
    refine g_iload_n 2 dX4_change_13 rfl ?_
    refine g_iast (sh_cells ha0) (no_cells ha0) dX4_change_14 (fun _ => ?_)
    exact g_vret rfl dX4_change_15

def X4_leave (σ : Mem) (a0 : Nat) : Option (Mem × Unit) := if a0 < 11 then (some ((uI σ 401 a0 0 (-1 : Int32)), ())) else none
set_option maxRecDepth 100000 in
set_option maxHeartbeats 4000000 in
theorem c_X4_leave (σ : Mem) (a0 : Nat) : CT yX4_leave mX4_leave enV (fun ad => [.ref (ad (4 + 2 * a0))]) σ (X4_leave σ a0) := by
  refine CT.of (by decide) rfl (fun _ => Nat.le_of_ble_eq_true rfl) (fun X => ?_)
  show GS (KM enV X) X mX4_leave σ 0 [(0, .ref (xad X (4 + 2 * a0)))] [] _
  unfold X4_leave
  refine g_guard (fun ha0 => ?_)
  refine g_aload_n 0 dX4_leave_0 rfl ?_
  refine g_iconst (-1 : Int32) dX4_leave_1 (by decide) ?_
  refine pf_X4_1 ha0 fl_X4_9 dX4_leave_2 ?_
  exact g_vret rfl dX4_leave_5

