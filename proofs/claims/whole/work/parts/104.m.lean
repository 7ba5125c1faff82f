def X4_addSheet_L5 (x0 : Nat) (x1 : Int32) (x2 : Int32) (k28 : Mem → Int32 → Option (Mem × Unit)) : Nat → Mem → Int32 → Int32 → Option (Mem × Unit)
  | 0, _, _, _ => none
  | n + 1, σ, x3, x4 => (if x2 ≤ x4 then k28 σ x3 else (if (4 : Int32) ≤ x4 then k28 σ x3 else (lt_ ((x3 * (6 : Int32))) fun (v1 : Int32) => X4_addSheet_L5 x0 x1 x2 k28 n σ v1 ((x4 + (1 : Int32))))))
def X4_addSheet_L31 (x0 : Nat) (x1 : Int32) (x2 : Int32) (k62 : Mem → Option (Mem × Unit)) : Nat → Mem → Int32 → Int32 → Option (Mem × Unit)
  | 0, _, _, _ => none
  | n + 1, σ, x3, x4 => (if x2 ≤ x4 then k62 σ else (if x3 ≤ 0 then k62 σ else (if x3 = 0 then none else if (6 : Int32) = 0 then none else (X4_add σ x0 (((x1 / x3) - (x1 / x3) / (6 : Int32) * (6 : Int32)))).bind fun q5 => if (6 : Int32) = 0 then none else lt_ ((x3 / (6 : Int32))) fun (v6 : Int32) => X4_addSheet_L31 x0 x1 x2 k62 n q5.1 v6 ((x4 + (1 : Int32))))))
def X4_addSheet (σ : Mem) (a0 : Nat) (a1 : Int32) (a2 : Int32) : Option (Mem × Unit) := if a0 < 11 then (X4_addSheet_L5 a0 a1 a2 (fun (s4 : Mem) (y3_3 : Int32) => (X4_addSheet_L31 a0 a1 a2 (fun (s9 : Mem) => (some (s9, ()))) FU s4 y3_3 (0 : Int32))) FU σ (1 : Int32) (1 : Int32)) else none
set_option maxRecDepth 100000 in
set_option maxHeartbeats 4000000 in
theorem t_X4_addSheet_L5 (X : GX) (x0 : Nat) (x1 : Int32) (x2 : Int32) (hx0 : x0 < 11) (k28 : Mem → Int32 → Option (Mem × Unit)) (hk28 : ∀ (σ : Mem) (y3 : Int32), GS (KM enV X) X mX4_addSheet σ 28 [(0, .ref (xad X (4 + 2 * x0))), (1, .int x1), (2, .int x2), (3, .int y3)] [] (k28 σ y3)) : ∀ (n : Nat) (σ : Mem) (x3 : Int32) (x4 : Int32), GS (KM enV X) X mX4_addSheet σ 5 [(0, .ref (xad X (4 + 2 * x0))), (1, .int x1), (2, .int x2), (3, .int x3), (4, .int x4)] [] (X4_addSheet_L5 x0 x1 x2 k28 n σ x3 x4) := by
  intro n
  induction n with
  | zero => intros; exact g_none
  | succ n ih =>
    intro σ x3 x4
    rw [X4_addSheet_L5]
    refine g_iload 4 dX4_addSheet_5 rfl ?_
    refine g_iload_n 2 dX4_addSheet_7 rfl ?_
    refine g_icmp_ge 28 dX4_addSheet_8 rfl (fun _ => ?_) (fun _ => ?_)
    · refine g_sub [0, 1, 2, 3] rfl ?_
      exact hk28 σ x3
    · refine g_iload 4 dX4_addSheet_11 rfl ?_
      refine g_iconst (4 : Int32) dX4_addSheet_13 (by decide) ?_
      refine g_icmp_ge 28 dX4_addSheet_14 rfl (fun _ => ?_) (fun _ => ?_)
      · refine g_sub [0, 1, 2, 3] rfl ?_
        exact hk28 σ x3
      · refine g_iload_n 3 dX4_addSheet_17 rfl ?_
        refine g_bipush (6 : Int32) dX4_addSheet_18 (by decide) ?_
        refine g_imul dX4_addSheet_20 ?_
        refine g_topi (fun v1 => ?_)
        refine g_istore_n [(3, .int v1), (0, .ref (xad X (4 + 2 * x0))), (1, .int x1), (2, .int x2), (4, .int x4)] dX4_addSheet_21 (by decide) rfl ?_
        refine g_iinc 4 [(4, .int ((x4 + (1 : Int32)))), (3, .int v1), (0, .ref (xad X (4 + 2 * x0))), (1, .int x1), (2, .int x2)] dX4_addSheet_22 rfl (v := x4 + (1 : Int32)) rfl (by decide) rfl ?_
        refine g_goto 5 dX4_addSheet_25 rfl ?_
        refine g_sub [2, 3, 4, 1, 0] rfl ?_
        exact ih σ v1 ((x4 + (1 : Int32)))

set_option maxRecDepth 100000 in
set_option maxHeartbeats 4000000 in
theorem t_X4_addSheet_L31 (X : GX) (x0 : Nat) (x1 : Int32) (x2 : Int32) (hx0 : x0 < 11) (k62 : Mem → Option (Mem × Unit)) (hk62 : ∀ (σ : Mem), GS (KM enV X) X mX4_addSheet σ 62 [] [] (k62 σ)) : ∀ (n : Nat) (σ : Mem) (x3 : Int32) (x4 : Int32), GS (KM enV X) X mX4_addSheet σ 31 [(0, .ref (xad X (4 + 2 * x0))), (1, .int x1), (2, .int x2), (3, .int x3), (4, .int x4)] [] (X4_addSheet_L31 x0 x1 x2 k62 n σ x3 x4) := by
  intro n
  induction n with
  | zero => intros; exact g_none
  | succ n ih =>
    intro σ x3 x4
    rw [X4_addSheet_L31]
    refine g_iload 4 dX4_addSheet_31 rfl ?_
    refine g_iload_n 2 dX4_addSheet_33 rfl ?_
    refine g_icmp_ge 62 dX4_addSheet_34 rfl (fun _ => ?_) (fun _ => ?_)
    · refine g_sub [] rfl ?_
      exact hk62 σ
    · refine g_iload_n 3 dX4_addSheet_37 rfl ?_
      refine g_if_le 62 dX4_addSheet_38 rfl (fun _ => ?_) (fun _ => ?_)
      · refine g_sub [] rfl ?_
        exact hk62 σ
      · refine g_aload_n 0 dX4_addSheet_41 rfl ?_
        refine g_iload_n 1 dX4_addSheet_42 rfl ?_
        refine g_iload_n 3 dX4_addSheet_43 rfl ?_
        refine g_idiv dX4_addSheet_44 (fun _ => ?_)
        refine g_bipush (6 : Int32) dX4_addSheet_45 (by decide) ?_
        refine g_irem dX4_addSheet_47 (fun _ => ?_)
        refine g_callVV (c_X4_add σ x0 (((x1 / x3) - (x1 / x3) / (6 : Int32) * (6 : Int32)))) okX4_add ⟨by decide, by decide⟩ ml_X4_38 (sh_X4 hx0) (no_X4 hx0) rfl rfl [.int (((x1 / x3) - (x1 / x3) / (6 : Int32) * (6 : Int32)))] rfl rfl rfl (Nat.le_of_ble_eq_true rfl) dX4_addSheet_48 (fun q5 => ?_)
        refine g_iload_n 3 dX4_addSheet_51 rfl ?_
        refine g_bipush (6 : Int32) dX4_addSheet_52 (by decide) ?_
        refine g_idiv dX4_addSheet_54 (fun _ => ?_)
        refine g_topi (fun v6 => ?_)
        refine g_istore_n [(3, .int v6), (0, .ref (xad X (4 + 2 * x0))), (1, .int x1), (2, .int x2), (4, .int x4)] dX4_addSheet_55 (by decide) rfl ?_
        refine g_iinc 4 [(4, .int ((x4 + (1 : Int32)))), (3, .int v6), (0, .ref (xad X (4 + 2 * x0))), (1, .int x1), (2, .int x2)] dX4_addSheet_56 rfl (v := x4 + (1 : Int32)) rfl (by decide) rfl ?_
        refine g_goto 31 dX4_addSheet_59 rfl ?_
        refine g_sub [2, 3, 4, 1, 0] rfl ?_
        exact ih q5.1 v6 ((x4 + (1 : Int32)))

set_option maxRecDepth 100000 in
set_option maxHeartbeats 4000000 in
theorem c_X4_addSheet (σ : Mem) (a0 : Nat) (a1 : Int32) (a2 : Int32) : CT yX4_addSheet mX4_addSheet enV (fun ad => [.ref (ad (4 + 2 * a0)), .int a1, .int a2]) σ (X4_addSheet σ a0 a1 a2) := by
  refine CT.of (by decide) rfl (fun _ => Nat.le_of_ble_eq_true rfl) (fun X => ?_)
  show GS (KM enV X) X mX4_addSheet σ 0 [(0, .ref (xad X (4 + 2 * a0))), (1, .int a1), (2, .int a2)] [] _
  unfold X4_addSheet
  refine g_guard (fun ha0 => ?_)
  refine g_iconst (1 : Int32) dX4_addSheet_0 (by decide) ?_
  refine g_istore_n [(3, .int ((1 : Int32))), (0, .ref (xad X (4 + 2 * a0))), (1, .int a1), (2, .int a2)] dX4_addSheet_1 (by decide) rfl ?_
  refine g_iconst (1 : Int32) dX4_addSheet_2 (by decide) ?_
  refine g_istore [(4, .int ((1 : Int32))), (3, .int ((1 : Int32))), (0, .ref (xad X (4 + 2 * a0))), (1, .int a1), (2, .int a2)] dX4_addSheet_3 (by decide) rfl ?_
  refine g_sub [2, 3, 4, 1, 0] rfl ?_
  refine t_X4_addSheet_L5 X a0 a1 a2 ha0 _ (fun s4 y3_3 => ?_) FU σ (1 : Int32) (1 : Int32)
  refine g_iconst (0 : Int32) dX4_addSheet_28 (by decide) ?_
  refine g_istore [(4, .int ((0 : Int32))), (0, .ref (xad X (4 + 2 * a0))), (1, .int a1), (2, .int a2), (3, .int y3_3)] dX4_addSheet_29 (by decide) rfl ?_
  refine g_sub [1, 2, 3, 4, 0] rfl ?_
  refine t_X4_addSheet_L31 X a0 a1 a2 ha0 _ (fun s9 => ?_) FU s4 y3_3 (0 : Int32)
  exact g_vret rfl dX4_addSheet_62

def X4_sum_L4 (x0 : Nat) (k27 : Mem → Int64 → Option (Mem × Int64)) : Nat → Mem → Int64 → Int32 → Option (Mem × Int64)
  | 0, _, _, _ => none
  | n + 1, σ, x1, x3 => (if (σ.1 401 x0 0) ≤ x3 then k27 σ x1 else ((X4_cell σ x0 x3).bind fun q1 => lt_ ((x1 + q1.2.toInt64)) fun (v2 : Int64) => X4_sum_L4 x0 k27 n q1.1 v2 ((x3 + (1 : Int32)))))
def X4_sum (σ : Mem) (a0 : Nat) : Option (Mem × Int64) := if a0 < 11 then (X4_sum_L4 a0 (fun (s5 : Mem) (y1_4 : Int64) => (some (s5, y1_4))) FU σ (0 : Int64) (0 : Int32)) else none
set_option maxRecDepth 100000 in
set_option maxHeartbeats 4000000 in
theorem t_X4_sum_L4 (X : GX) (x0 : Nat) (hx0 : x0 < 11) (k27 : Mem → Int64 → Option (Mem × Int64)) (hk27 : ∀ (σ : Mem) (y1 : Int64), GS (KM enJ X) X mX4_sum σ 27 [(1, .long y1)] [] (k27 σ y1)) : ∀ (n : Nat) (σ : Mem) (x1 : Int64) (x3 : Int32), GS (KM enJ X) X mX4_sum σ 4 [(0, .ref (xad X (4 + 2 * x0))), (1, .long x1), (3, .int x3)] [] (X4_sum_L4 x0 k27 n σ x1 x3) := by
  intro n
  induction n with
  | zero => intros; exact g_none
  | succ n ih =>
    intro σ x1 x3
    rw [X4_sum_L4]
    refine g_iload_n 2 dX4_sum_4 rfl ?_
    refine g_aload_n 0 dX4_sum_5 rfl ?_
    refine gf_X4_1 hx0 fl_X4_9 dX4_sum_6 ?_
    refine g_icmp_ge 27 dX4_sum_9 rfl (fun _ => ?_) (fun _ => ?_)
    · refine g_sub [1] rfl ?_
      exact hk27 σ x1
    · refine g_lload_n 1 dX4_sum_12 rfl ?_
      refine g_aload_n 0 dX4_sum_13 rfl ?_
      refine g_iload_n 2 dX4_sum_14 rfl ?_
      refine g_callVI (c_X4_cell σ x0 x3) okX4_cell ⟨by decide, by decide⟩ ml_X4_42 (sh_X4 hx0) (no_X4 hx0) rfl rfl [.int x3] rfl rfl rfl (Nat.le_of_ble_eq_true rfl) dX4_sum_15 (fun q1 => ?_)
      refine g_i2l dX4_sum_18 ?_
      refine g_ladd dX4_sum_19 ?_
      refine g_topl (fun v2 => ?_)
      refine g_lstore_n [(1, .long v2), (0, .ref (xad X (4 + 2 * x0))), (3, .int x3)] dX4_sum_20 (by decide) rfl ?_
      refine g_iinc 2 [(3, .int ((x3 + (1 : Int32)))), (1, .long v2), (0, .ref (xad X (4 + 2 * x0)))] dX4_sum_21 rfl (v := x3 + (1 : Int32)) rfl (by decide) rfl ?_
      refine g_goto 4 dX4_sum_24 rfl ?_
      refine g_sub [2, 1, 0] rfl ?_
      exact ih q1.1 v2 ((x3 + (1 : Int32)))

set_option maxRecDepth 100000 in
set_option maxHeartbeats 4000000 in
theorem c_X4_sum (σ : Mem) (a0 : Nat) : CT yX4_sum mX4_sum enJ (fun ad => [.ref (ad (4 + 2 * a0))]) σ (X4_sum σ a0) := by
  refine CT.of (by decide) rfl (fun _ => Nat.le_of_ble_eq_true rfl) (fun X => ?_)
  show GS (KM enJ X) X mX4_sum σ 0 [(0, .ref (xad X (4 + 2 * a0)))] [] _
  unfold X4_sum
  refine g_guard (fun ha0 => ?_)
  refine g_lconst (0 : Int64) dX4_sum_0 (by decide) ?_
  refine g_lstore_n [(1, .long ((0 : Int64))), (0, .ref (xad X (4 + 2 * a0)))] dX4_sum_1 (by decide) rfl ?_
  refine g_iconst (0 : Int32) dX4_sum_2 (by decide) ?_
  refine g_istore_n [(3, .int ((0 : Int32))), (1, .long ((0 : Int64))), (0, .ref (xad X (4 + 2 * a0)))] dX4_sum_3 (by decide) rfl ?_
  refine g_sub [2, 1, 0] rfl ?_
  refine t_X4_sum_L4 X a0 ha0 _ (fun s5 y1_4 => ?_) FU σ (0 : Int64) (0 : Int32)
  refine g_lload_n 0 dX4_sum_27 rfl ?_
  exact g_lret rfl dX4_sum_28

def X4_holdsSigns_L2 (x0 : Nat) (k36 : Mem → Option (Mem × Int32)) : Nat → Mem → Int32 → Option (Mem × Int32)
  | 0, _, _ => none
  | n + 1, σ, x1 => (if (σ.1 401 x0 0) ≤ x1 then k36 σ else ((X4_cell σ x0 x1).bind fun q1 => if q1.2 < 0 then (if (0 : Int32) = 0 ∨ (0 : Int32) = 1 then some (q1.1, (0 : Int32)) else none) else ((X4_cell q1.1 x0 x1).bind fun q2 => if q2.2 < (6 : Int32) then (X4_holdsSigns_L2 x0 k36 n q2.1 ((x1 + (1 : Int32)))) else (if (0 : Int32) = 0 ∨ (0 : Int32) = 1 then some (q2.1, (0 : Int32)) else none))))
def X4_holdsSigns (σ : Mem) (a0 : Nat) : Option (Mem × Int32) := if a0 < 11 then (X4_holdsSigns_L2 a0 (fun (s5 : Mem) => (if (1 : Int32) = 0 ∨ (1 : Int32) = 1 then some (s5, (1 : Int32)) else none)) FU σ (0 : Int32)) else none
set_option maxRecDepth 100000 in
set_option maxHeartbeats 4000000 in
theorem t_X4_holdsSigns_L2 (X : GX) (x0 : Nat) (hx0 : x0 < 11) (k36 : Mem → Option (Mem × Int32)) (hk36 : ∀ (σ : Mem), GS (KM enI X) X mX4_holdsSigns σ 36 [] [] (k36 σ)) : ∀ (n : Nat) (σ : Mem) (x1 : Int32), GS (KM enI X) X mX4_holdsSigns σ 2 [(0, .ref (xad X (4 + 2 * x0))), (1, .int x1)] [] (X4_holdsSigns_L2 x0 k36 n σ x1) := by
  intro n
  induction n with
  | zero => intros; exact g_none
  | succ n ih =>
    intro σ x1
    rw [X4_holdsSigns_L2]
    refine g_iload_n 1 dX4_holdsSigns_2 rfl ?_
    refine g_aload_n 0 dX4_holdsSigns_3 rfl ?_
    refine gf_X4_1 hx0 fl_X4_9 dX4_holdsSigns_4 ?_
    refine g_icmp_ge 36 dX4_holdsSigns_7 rfl (fun _ => ?_) (fun _ => ?_)
    · refine g_sub [] rfl ?_
      exact hk36 σ
    · refine g_aload_n 0 dX4_holdsSigns_10 rfl ?_
      refine g_iload_n 1 dX4_holdsSigns_11 rfl ?_
      refine g_callVI (c_X4_cell σ x0 x1) okX4_cell ⟨by decide, by decide⟩ ml_X4_42 (sh_X4 hx0) (no_X4 hx0) rfl rfl [.int x1] rfl rfl rfl (Nat.le_of_ble_eq_true rfl) dX4_holdsSigns_12 (fun q1 => ?_)
      refine g_if_lt 28 dX4_holdsSigns_15 rfl (fun _ => ?_) (fun _ => ?_)
      · refine g_iconst (0 : Int32) dX4_holdsSigns_28 (by decide) ?_
        exact g_zret rfl dX4_holdsSigns_29
      · refine g_aload_n 0 dX4_holdsSigns_18 rfl ?_
        refine g_iload_n 1 dX4_holdsSigns_19 rfl ?_
        refine g_callVI (c_X4_cell q1.1 x0 x1) okX4_cell ⟨by decide, by decide⟩ ml_X4_42 (sh_X4 hx0) (no_X4 hx0) rfl rfl [.int x1] rfl rfl rfl (Nat.le_of_ble_eq_true rfl) dX4_holdsSigns_20 (fun q2 => ?_)
        refine g_bipush (6 : Int32) dX4_holdsSigns_23 (by decide) ?_
        refine g_icmp_lt 30 dX4_holdsSigns_25 rfl (fun _ => ?_) (fun _ => ?_)
        · refine g_iinc 1 [(1, .int ((x1 + (1 : Int32)))), (0, .ref (xad X (4 + 2 * x0)))] dX4_holdsSigns_30 rfl (v := x1 + (1 : Int32)) rfl (by decide) rfl ?_
          refine g_goto 2 dX4_holdsSigns_33 rfl ?_
          refine g_sub [1, 0] rfl ?_
          exact ih q2.1 ((x1 + (1 : Int32)))
        · refine g_iconst (0 : Int32) dX4_holdsSigns_28 (by decide) ?_
          exact g_zret rfl dX4_holdsSigns_29

set_option maxRecDepth 100000 in
set_option maxHeartbeats 4000000 in
theorem c_X4_holdsSigns (σ : Mem) (a0 : Nat) : CT yX4_holdsSigns mX4_holdsSigns enI (fun ad => [.ref (ad (4 + 2 * a0))]) σ (X4_holdsSigns σ a0) := by
  refine CT.of (by decide) rfl (fun _ => Nat.le_of_ble_eq_true rfl) (fun X => ?_)
  show GS (KM enI X) X mX4_holdsSigns σ 0 [(0, .ref (xad X (4 + 2 * a0)))] [] _
  unfold X4_holdsSigns
  refine g_guard (fun ha0 => ?_)
  refine g_iconst (0 : Int32) dX4_holdsSigns_0 (by decide) ?_
  refine g_istore_n [(1, .int ((0 : Int32))), (0, .ref (xad X (4 + 2 * a0)))] dX4_holdsSigns_1 (by decide) rfl ?_
  refine g_sub [1, 0] rfl ?_
  refine t_X4_holdsSigns_L2 X a0 ha0 _ (fun s5 => ?_) FU σ (0 : Int32)
  refine g_iconst (1 : Int32) dX4_holdsSigns_36 (by decide) ?_
  exact g_zret rfl dX4_holdsSigns_37

def X5_lie_L23 (x1 : Nat) (x2 : Nat) (k68 : Mem → Option (Mem × Unit)) : Nat → Mem → Int32 → Option (Mem × Unit)
  | 0, _, _ => none
  | n + 1, σ, x3 => (if (σ.1 502 0 0) ≤ x3 then k68 σ else ((X4_cell σ x1 x3).bind fun q1 => ck x3 8 <| (X4_cell ((uI q1.1 500 0 x3.toNatClampNeg q1.2)) x1 x3).bind fun q2 => (X4_behind q2.1 x1 x3).bind fun q3 => (X2_holding q3.1 x2 q2.2 q3.2).bind fun q4 => ck x3 8 <| X5_lie_L23 x1 x2 k68 n ((uI q4.1 501 0 x3.toNatClampNeg q4.2)) ((x3 + (1 : Int32)))))
def X5_lie (σ : Mem) (a1 : Nat) (a2 : Nat) : Option (Mem × Unit) := if a1 < 11 then (if a2 < 4 then (X5_lie_L23 a1 a2 (fun (s7 : Mem) => (some (s7, ()))) FU ((uI ((uR σ 503 0 0 (some a2))) 502 0 0 ((if (8 : Int32) < (((uR σ 503 0 0 (some a2))).1 401 a1 0) then (8 : Int32) else (((uR σ 503 0 0 (some a2))).1 401 a1 0))))) (0 : Int32)) else none) else none
set_option maxRecDepth 100000 in
set_option maxHeartbeats 4000000 in
theorem t_X5_lie_L23 (X : GX) (x1 : Nat) (x2 : Nat) (hx1 : x1 < 11) (hx2 : x2 < 4) (k68 : Mem → Option (Mem × Unit)) (hk68 : ∀ (σ : Mem), GS (KM enV X) X mX5_lie σ 68 [] [] (k68 σ)) : ∀ (n : Nat) (σ : Mem) (x3 : Int32), GS (KM enV X) X mX5_lie σ 23 [(0, .ref (xad X (93))), (1, .ref (xad X (4 + 2 * x1))), (2, .ref (xad X (69 + 4 * x2))), (3, .int x3)] [] (X5_lie_L23 x1 x2 k68 n σ x3) := by
  intro n
  induction n with
  | zero => intros; exact g_none
  | succ n ih =>
    intro σ x3
    rw [X5_lie_L23]
    refine g_iload_n 3 dX5_lie_23 rfl ?_
    refine g_aload_n 0 dX5_lie_24 rfl ?_
    refine gf_X5_2 fl_X5_18 dX5_lie_25 ?_
    refine g_icmp_ge 68 dX5_lie_28 rfl (fun _ => ?_) (fun _ => ?_)
    · refine g_sub [] rfl ?_
      exact hk68 σ
    · refine g_aload_n 0 dX5_lie_31 rfl ?_
      refine gf_X5_0 fl_X5_9 dX5_lie_32 ?_
      refine g_iload_n 3 dX5_lie_35 rfl ?_
      refine g_aload_n 1 dX5_lie_36 rfl ?_
      refine g_iload_n 3 dX5_lie_37 rfl ?_
      refine g_callVI (c_X4_cell σ x1 x3) okX4_cell ⟨by decide, by decide⟩ ml_X5_35 (sh_X4 hx1) (no_X4 hx1) rfl rfl [.int x3] rfl rfl rfl (Nat.le_of_ble_eq_true rfl) dX5_lie_38 (fun q1 => ?_)
      refine g_iast sh_94 no_94 dX5_lie_41 (fun _ => ?_)
      refine g_aload_n 0 dX5_lie_42 rfl ?_
      refine gf_X5_1 fl_X5_15 dX5_lie_43 ?_
      refine g_iload_n 3 dX5_lie_46 rfl ?_
      refine g_aload_n 2 dX5_lie_47 rfl ?_
      refine g_aload_n 1 dX5_lie_48 rfl ?_
      refine g_iload_n 3 dX5_lie_49 rfl ?_
      refine g_callVI (c_X4_cell ((uI q1.1 500 0 x3.toNatClampNeg q1.2)) x1 x3) okX4_cell ⟨by decide, by decide⟩ ml_X5_35 (sh_X4 hx1) (no_X4 hx1) rfl rfl [.int x3] rfl rfl rfl (Nat.le_of_ble_eq_true rfl) dX5_lie_50 (fun q2 => ?_)
      refine g_aload_n 1 dX5_lie_53 rfl ?_
      refine g_iload_n 3 dX5_lie_54 rfl ?_
      refine g_callVI (c_X4_behind q2.1 x1 x3) okX4_behind ⟨by decide, by decide⟩ ml_X5_39 (sh_X4 hx1) (no_X4 hx1) rfl rfl [.int x3] rfl rfl rfl (Nat.le_of_ble_eq_true rfl) dX5_lie_55 (fun q3 => ?_)
      refine g_callVI (c_X2_holding q3.1 x2 q2.2 q3.2) okX2_holding ⟨by decide, by decide⟩ ml_X5_42 (sh_X2 hx2) (no_X2 hx2) rfl rfl [.int (q2.2), .int (q3.2)] rfl rfl rfl (Nat.le_of_ble_eq_true rfl) dX5_lie_58 (fun q4 => ?_)
      refine g_iast sh_95 no_95 dX5_lie_61 (fun _ => ?_)
      refine g_iinc 3 [(3, .int ((x3 + (1 : Int32)))), (0, .ref (xad X (93))), (1, .ref (xad X (4 + 2 * x1))), (2, .ref (xad X (69 + 4 * x2)))] dX5_lie_62 rfl (v := x3 + (1 : Int32)) rfl (by decide) rfl ?_
      refine g_goto 23 dX5_lie_65 rfl ?_
      refine g_sub [1, 2, 3, 0] rfl ?_
      exact ih ((uI q4.1 501 0 x3.toNatClampNeg q4.2)) ((x3 + (1 : Int32)))

set_option maxRecDepth 100000 in
set_option maxHeartbeats 4000000 in
theorem c_X5_lie (σ : Mem) (a1 : Nat) (a2 : Nat) : CT yX5_lie mX5_lie enV (fun ad => [.ref (ad (93)), .ref (ad (4 + 2 * a1)), .ref (ad (69 + 4 * a2))]) σ (X5_lie σ a1 a2) := by
  refine CT.of (by decide) rfl (fun _ => Nat.le_of_ble_eq_true rfl) (fun X => ?_)
  show GS (KM enV X) X mX5_lie σ 0 [(0, .ref (xad X (93))), (1, .ref (xad X (4 + 2 * a1))), (2, .ref (xad X (69 + 4 * a2)))] [] _
  unfold X5_lie
  refine g_guard (fun ha1 => ?_)
  refine g_guard (fun ha2 => ?_)
  refine g_aload_n 0 dX5_lie_0 rfl ?_
  refine g_aload_n 2 dX5_lie_1 rfl ?_
  refine pf_X5_3 fl_X5_22 dX5_lie_2 ?_
  refine g_aload_n 0 dX5_lie_5 rfl ?_
  refine g_aload_n 1 dX5_lie_6 rfl ?_
  refine gf_X4_1 ha1 fl_X5_26 dX5_lie_7 ?_
  refine g_aload_n 0 dX5_lie_10 rfl ?_
  refine gf_X5_0 fl_X5_9 dX5_lie_11 ?_
  refine g_alen (v := (8 : Int32)) sh_94 no_94 (by decide) rfl dX5_lie_14 ?_
  refine g_mmin jl_X5_29 jm_min_s jm_i jm_min_c (by decide) (Nat.le_of_ble_eq_true rfl) dX5_lie_15 ?_
  refine pf_X5_2 fl_X5_18 dX5_lie_18 ?_
  refine g_iconst (0 : Int32) dX5_lie_21 (by decide) ?_
  refine g_istore_n [(3, .int ((0 : Int32))), (0, .ref (xad X (93))), (1, .ref (xad X (4 + 2 * a1))), (2, .ref (xad X (69 + 4 * a2)))] dX5_lie_22 (by decide) rfl ?_
  refine g_sub [1, 2, 3, 0] rfl ?_
  refine t_X5_lie_L23 X a1 a2 ha1 ha2 _ (fun s7 => ?_) FU ((uI ((uR σ 503 0 0 (some a2))) 502 0 0 ((if (8 : Int32) < (((uR σ 503 0 0 (some a2))).1 401 a1 0) then (8 : Int32) else (((uR σ 503 0 0 (some a2))).1 401 a1 0))))) (0 : Int32)
  exact g_vret rfl dX5_lie_68

def J6_bitCount_0f7a4 (σ : Mem) (a0 : Int32) : Option (Mem × Int32) := (lt_ ((a0 - (((a0.toUInt32 >>> ((1 : Int32).toUInt32 &&& Int32.toUInt32 31)).toInt32) &&& (1431655765 : Int32)))) fun (v1 : Int32) => lt_ (((v1 &&& (858993459 : Int32)) + (((v1.toUInt32 >>> ((2 : Int32).toUInt32 &&& Int32.toUInt32 31)).toInt32) &&& (858993459 : Int32)))) fun (v2 : Int32) => lt_ (((v2 + ((v2.toUInt32 >>> ((4 : Int32).toUInt32 &&& Int32.toUInt32 31)).toInt32)) &&& (252645135 : Int32))) fun (v3 : Int32) => lt_ ((v3 + ((v3.toUInt32 >>> ((8 : Int32).toUInt32 &&& Int32.toUInt32 31)).toInt32))) fun (v4 : Int32) => lt_ ((v4 + ((v4.toUInt32 >>> ((16 : Int32).toUInt32 &&& Int32.toUInt32 31)).toInt32))) fun (v5 : Int32) => some (σ, (v5 &&& (63 : Int32))))
set_option maxRecDepth 100000 in
set_option maxHeartbeats 4000000 in
theorem c_J6_bitCount_0f7a4 (σ : Mem) (a0 : Int32) : CT yJ6_bitCount_0f7a4 mJ6_bitCount_0f7a4 enI (fun ad => [.int a0]) σ (J6_bitCount_0f7a4 σ a0) := by
  refine CT.of (by decide) rfl (fun _ => Nat.le_of_ble_eq_true rfl) (fun X => ?_)
  show GS (KM enI X) X mJ6_bitCount_0f7a4 σ 0 [(0, .int a0)] [] _
  unfold J6_bitCount_0f7a4
  refine g_iload_n 0 dJ6_bitCount_0f7a4_0 rfl ?_
  refine g_iload_n 0 dJ6_bitCount_0f7a4_1 rfl ?_
  refine g_iconst (1 : Int32) dJ6_bitCount_0f7a4_2 (by decide) ?_
  refine g_iushr dJ6_bitCount_0f7a4_3 ?_
  refine g_ldcw (1431655765 : Int32) dJ6_bitCount_0f7a4_4 kc_J6_265 ?_
  refine g_iand dJ6_bitCount_0f7a4_7 ?_
  refine g_isub dJ6_bitCount_0f7a4_8 ?_
  refine g_topi (fun v1 => ?_)
  refine g_istore_n [(0, .int v1)] dJ6_bitCount_0f7a4_9 (by decide) rfl ?_
  refine g_iload_n 0 dJ6_bitCount_0f7a4_10 rfl ?_
  refine g_ldcw (858993459 : Int32) dJ6_bitCount_0f7a4_11 kc_J6_266 ?_
  refine g_iand dJ6_bitCount_0f7a4_14 ?_
  refine g_iload_n 0 dJ6_bitCount_0f7a4_15 rfl ?_
  refine g_iconst (2 : Int32) dJ6_bitCount_0f7a4_16 (by decide) ?_
  refine g_iushr dJ6_bitCount_0f7a4_17 ?_
  refine g_ldcw (858993459 : Int32) dJ6_bitCount_0f7a4_18 kc_J6_266 ?_
  refine g_iand dJ6_bitCount_0f7a4_21 ?_
  refine g_iadd dJ6_bitCount_0f7a4_22 ?_
  refine g_topi (fun v2 => ?_)
  refine g_istore_n [(0, .int v2)] dJ6_bitCount_0f7a4_23 (by decide) rfl ?_
  refine g_iload_n 0 dJ6_bitCount_0f7a4_24 rfl ?_
  refine g_iload_n 0 dJ6_bitCount_0f7a4_25 rfl ?_
  refine g_iconst (4 : Int32) dJ6_bitCount_0f7a4_26 (by decide) ?_
  refine g_iushr dJ6_bitCount_0f7a4_27 ?_
  refine g_iadd dJ6_bitCount_0f7a4_28 ?_
  refine g_ldcw (252645135 : Int32) dJ6_bitCount_0f7a4_29 kc_J6_267 ?_
  refine g_iand dJ6_bitCount_0f7a4_32 ?_
  refine g_topi (fun v3 => ?_)
  refine g_istore_n [(0, .int v3)] dJ6_bitCount_0f7a4_33 (by decide) rfl ?_
  refine g_iload_n 0 dJ6_bitCount_0f7a4_34 rfl ?_
  refine g_iload_n 0 dJ6_bitCount_0f7a4_35 rfl ?_
  refine g_bipush (8 : Int32) dJ6_bitCount_0f7a4_36 (by decide) ?_
  refine g_iushr dJ6_bitCount_0f7a4_38 ?_
  refine g_iadd dJ6_bitCount_0f7a4_39 ?_
  refine g_topi (fun v4 => ?_)
  refine g_istore_n [(0, .int v4)] dJ6_bitCount_0f7a4_40 (by decide) rfl ?_
  refine g_iload_n 0 dJ6_bitCount_0f7a4_41 rfl ?_
  refine g_iload_n 0 dJ6_bitCount_0f7a4_42 rfl ?_
  refine g_bipush (16 : Int32) dJ6_bitCount_0f7a4_43 (by decide) ?_
  refine g_iushr dJ6_bitCount_0f7a4_45 ?_
  refine g_iadd dJ6_bitCount_0f7a4_46 ?_
  refine g_topi (fun v5 => ?_)
  refine g_istore_n [(0, .int v5)] dJ6_bitCount_0f7a4_47 (by decide) rfl ?_
  refine g_iload_n 0 dJ6_bitCount_0f7a4_48 rfl ?_
  refine g_bipush (63 : Int32) dJ6_bitCount_0f7a4_49 (by decide) ?_
  refine g_iand dJ6_bitCount_0f7a4_51 ?_
  exact g_iret rfl dJ6_bitCount_0f7a4_52

def X5_outBy_L5 (x1 : Int32) (k84 : Mem → Int64 → Option (Mem × Int64)) : Nat → Mem → Int64 → Int32 → Option (Mem × Int64)
  | 0, _, _, _ => none
  | n + 1, σ, x2, x4 => (if (σ.1 502 0 0) ≤ x4 then k84 σ x2 else (spl (σ.2.2 503 0 0) 4 (k84 σ x2) (fun r1 => ((ck x4 8 <| lt_ (((σ.1 501 0 x4.toNatClampNeg) &&& x1)) fun (v2 : Int32) => spl (σ.2.2 503 0 0) 4 ((J6_bitCount_0f7a4 σ (((v2 &&& (-v2)) - (1 : Int32)))).bind fun q4 => none) (fun r3 => ((J6_bitCount_0f7a4 σ (((v2 &&& (-v2)) - (1 : Int32)))).bind fun q5 => (X2_numbered q5.1 r3 q5.2).bind fun q6 => spl q6.2 41 ((ck x4 8 <| (X7_packed q6.1 x2 ((q6.1.1 500 0 x4.toNatClampNeg))).bind fun q8 => (X5_outBy_L5 x1 k84 n q8.1 q8.2 ((x4 + (1 : Int32)))))) (fun r7 => (((X1_after q6.1 r7 x2).bind fun q10 => X5_outBy_L5 x1 k84 n q10.1 q10.2 ((x4 + (1 : Int32)))))))))))))
def X5_outBy (σ : Mem) (a1 : Int32) : Option (Mem × Int64) := (X5_outBy_L5 a1 (fun (s13 : Mem) (y2_12 : Int64) => (some (s13, y2_12))) FU σ (0 : Int64) (0 : Int32))
set_option maxRecDepth 100000 in
set_option maxHeartbeats 4000000 in
theorem t_X5_outBy_L5 (X : GX) (x1 : Int32) (k84 : Mem → Int64 → Option (Mem × Int64)) (hk84 : ∀ (σ : Mem) (y2 : Int64), GS (KM enJ X) X mX5_outBy σ 84 [(2, .long y2)] [] (k84 σ y2)) : ∀ (n : Nat) (σ : Mem) (x2 : Int64) (x4 : Int32), GS (KM enJ X) X mX5_outBy σ 5 [(0, .ref (xad X (93))), (1, .int x1), (2, .long x2), (4, .int x4)] [] (X5_outBy_L5 x1 k84 n σ x2 x4) := by
  intro n
  induction n with
  | zero => intros; exact g_none
  | succ n ih =>
    intro σ x2 x4
    rw [X5_outBy_L5]
    refine g_iload 3 dX5_outBy_5 rfl ?_
    refine g_aload_n 0 dX5_outBy_7 rfl ?_
    refine gf_X5_2 fl_X5_18 dX5_outBy_8 ?_
    refine g_icmp_ge 84 dX5_outBy_11 rfl (fun _ => ?_) (fun _ => ?_)
    · refine g_sub [2] rfl ?_
      exact hk84 σ x2
    · refine g_aload_n 0 dX5_outBy_14 rfl ?_
      refine gf_X5_3 fl_X5_22 dX5_outBy_15 ?_
      refine g_spl ?_ (fun r1 hr1 => ?_)
      · refine g_ifnullN 84 dX5_outBy_18 rfl ?_
        refine g_sub [2] rfl ?_
        exact hk84 σ x2
      · refine g_ifnull dX5_outBy_18 ?_
        refine g_aload_n 0 dX5_outBy_21 rfl ?_
        refine gf_X5_1 fl_X5_15 dX5_outBy_22 ?_
        refine g_iload 3 dX5_outBy_25 rfl ?_
        refine g_iald sh_95 no_95 dX5_outBy_27 (fun _ => ?_)
        refine g_iload_n 1 dX5_outBy_28 rfl ?_
        refine g_iand dX5_outBy_29 ?_
        refine g_topi (fun v2 => ?_)
        refine g_istore [(5, .int v2), (0, .ref (xad X (93))), (1, .int x1), (2, .long x2), (4, .int x4)] dX5_outBy_30 (by decide) rfl ?_
        refine g_aload_n 1 dX5_outBy_32 rfl ?_
        refine gf_X5_3 fl_X5_22 dX5_outBy_33 ?_
        refine g_spl ?_ (fun r3 hr3 => ?_)
        · refine g_iload 0 dX5_outBy_36 rfl ?_
          refine g_iload 0 dX5_outBy_38 rfl ?_
          refine g_ineg dX5_outBy_40 ?_
          refine g_iand dX5_outBy_41 ?_
          refine g_iconst (1 : Int32) dX5_outBy_42 (by decide) ?_
          refine g_isub dX5_outBy_43 ?_
          refine g_callSI (c_J6_bitCount_0f7a4 σ (((v2 &&& (-v2)) - (1 : Int32)))) okJ6_bitCount_0f7a4 ⟨by decide, by decide⟩ ml_X5_46 rfl rfl (Nat.le_of_ble_eq_true rfl) dX5_outBy_44 (fun q4 => ?_)
          exact g_none
        · refine g_iload 0 dX5_outBy_36 rfl ?_
          refine g_iload 0 dX5_outBy_38 rfl ?_
          refine g_ineg dX5_outBy_40 ?_
          refine g_iand dX5_outBy_41 ?_
          refine g_iconst (1 : Int32) dX5_outBy_42 (by decide) ?_
          refine g_isub dX5_outBy_43 ?_
          refine g_callSI (c_J6_bitCount_0f7a4 σ (((v2 &&& (-v2)) - (1 : Int32)))) okJ6_bitCount_0f7a4 ⟨by decide, by decide⟩ ml_X5_46 rfl rfl (Nat.le_of_ble_eq_true rfl) dX5_outBy_44 (fun q5 => ?_)
          refine g_callVG (c_X2_numbered q5.1 r3 q5.2) okX2_numbered ⟨by decide, by decide⟩ ml_X5_51 (sh_X2 hr3) (no_X2 hr3) rfl rfl [.int (q5.2)] rfl rfl rfl (Nat.le_of_ble_eq_true rfl) dX5_outBy_47 (fun q6 => ?_)
          refine g_spl ?_ (fun r7 hr7 => ?_)
          · refine g_astoreN [(6, .null), (5, .int v2), (0, .ref (xad X (93))), (1, .int x1), (2, .long x2), (4, .int x4)] dX5_outBy_50 (by decide) rfl ?_
            refine g_aloadN 0 dX5_outBy_52 rfl ?_
            refine g_ifnonnullN dX5_outBy_54 ?_
            refine g_lload_n 4 dX5_outBy_57 rfl ?_
            refine g_aload_n 2 dX5_outBy_58 rfl ?_
            refine gf_X5_0 fl_X5_9 dX5_outBy_59 ?_
            refine g_iload 5 dX5_outBy_62 rfl ?_
            refine g_iald sh_94 no_94 dX5_outBy_64 (fun _ => ?_)
            refine g_callSJ (c_X7_packed q6.1 x2 ((q6.1.1 500 0 x4.toNatClampNeg))) okX7_packed ⟨by decide, by decide⟩ ml_X5_55 rfl rfl (Nat.le_of_ble_eq_true rfl) dX5_outBy_65 (fun q8 => ?_)
            refine g_goto 77 dX5_outBy_68 rfl ?_
            refine g_lstore_n [(2, .long (q8.2)), (6, .null), (5, .int v2), (0, .ref (xad X (93))), (1, .int x1), (4, .int x4)] dX5_outBy_77 (by decide) rfl ?_
            refine g_iinc 5 [(4, .int ((x4 + (1 : Int32)))), (2, .long (q8.2)), (6, .null), (5, .int v2), (0, .ref (xad X (93))), (1, .int x1)] dX5_outBy_78 rfl (v := x4 + (1 : Int32)) rfl (by decide) rfl ?_
            refine g_goto 5 dX5_outBy_81 rfl ?_
            refine g_sub [4, 5, 1, 0] rfl ?_
            exact ih q8.1 q8.2 ((x4 + (1 : Int32)))
          · refine g_astore [(6, .ref (xad X (28 + r7))), (5, .int v2), (0, .ref (xad X (93))), (1, .int x1), (2, .long x2), (4, .int x4)] dX5_outBy_50 (by decide) rfl ?_
            refine g_aload 0 dX5_outBy_52 rfl ?_
            refine g_ifnonnull 71 dX5_outBy_54 rfl ?_
            refine g_aload 0 dX5_outBy_71 rfl ?_
            refine g_lload_n 4 dX5_outBy_73 rfl ?_
            refine g_callVJ (c_X1_after q6.1 r7 x2) okX1_after ⟨by decide, by decide⟩ ml_X5_59 (sh_X1 hr7) (no_X1 hr7) rfl rfl [.long x2] rfl rfl rfl (Nat.le_of_ble_eq_true rfl) dX5_outBy_74 (fun q10 => ?_)
            refine g_lstore_n [(2, .long (q10.2)), (6, .ref (xad X (28 + r7))), (5, .int v2), (0, .ref (xad X (93))), (1, .int x1), (4, .int x4)] dX5_outBy_77 (by decide) rfl ?_
            refine g_iinc 5 [(4, .int ((x4 + (1 : Int32)))), (2, .long (q10.2)), (6, .ref (xad X (28 + r7))), (5, .int v2), (0, .ref (xad X (93))), (1, .int x1)] dX5_outBy_78 rfl (v := x4 + (1 : Int32)) rfl (by decide) rfl ?_
            refine g_goto 5 dX5_outBy_81 rfl ?_
            refine g_sub [4, 5, 1, 0] rfl ?_
            exact ih q10.1 q10.2 ((x4 + (1 : Int32)))

set_option maxRecDepth 100000 in
set_option maxHeartbeats 4000000 in
theorem c_X5_outBy (σ : Mem) (a1 : Int32) : CT yX5_outBy mX5_outBy enJ (fun ad => [.ref (ad (93)), .int a1]) σ (X5_outBy σ a1) := by
  refine CT.of (by decide) rfl (fun _ => Nat.le_of_ble_eq_true rfl) (fun X => ?_)
  show GS (KM enJ X) X mX5_outBy σ 0 [(0, .ref (xad X (93))), (1, .int a1)] [] _
  unfold X5_outBy
  refine g_lconst (0 : Int64) dX5_outBy_0 (by decide) ?_
  refine g_lstore_n [(2, .long ((0 : Int64))), (0, .ref (xad X (93))), (1, .int a1)] dX5_outBy_1 (by decide) rfl ?_
  refine g_iconst (0 : Int32) dX5_outBy_2 (by decide) ?_
  refine g_istore [(4, .int ((0 : Int32))), (2, .long ((0 : Int64))), (0, .ref (xad X (93))), (1, .int a1)] dX5_outBy_3 (by decide) rfl ?_
  refine g_sub [2, 3, 1, 0] rfl ?_
  refine t_X5_outBy_L5 X a1 _ (fun s13 y2_12 => ?_) FU σ (0 : Int64) (0 : Int32)
  refine g_lload_n 0 dX5_outBy_84 rfl ?_
  exact g_lret rfl dX5_outBy_85

def X6_know_L16 (x1 : Nat) (x2 : Int32) (x3 : Int32) (k70 : Mem → Option (Mem × Unit)) : Nat → Mem → Int32 → Option (Mem × Unit)
  | 0, _, _ => none
  | n + 1, σ, x4 => (if (6 : Int32) < x4 then k70 σ else ((X6_pieceOf σ x3 x4).bind fun q2 => (X2_outOfSign q2.1 x1 x3 x4 x2 (0 : Int64)).bind fun q3 => ck q2.2 42 <| ck q2.2 42 <| (X7_signsIn ((uJ q3.1 600 0 q2.2.toNatClampNeg q3.2)) ((((uJ q3.1 600 0 q2.2.toNatClampNeg q3.2)).2.1 600 0 q2.2.toNatClampNeg))).bind fun q4 => ck q2.2 42 <| X6_know_L16 x1 x2 x3 k70 n ((uI q4.1 601 0 q2.2.toNatClampNeg q4.2)) ((x4 + (1 : Int32)))))
def X6_know_L7 (x1 : Nat) (x2 : Int32) (k76 : Mem → Option (Mem × Unit)) : Nat → Mem → Int32 → Option (Mem × Unit)
  | 0, _, _ => none
  | n + 1, σ, x3 => (if (6 : Int32) ≤ x3 then k76 σ else (X6_know_L16 x1 x2 x3 (fun (s7 : Mem) => (X6_know_L7 x1 x2 k76 n s7 ((x3 + (1 : Int32))))) FU σ (0 : Int32)))
def X6_know (σ : Mem) (a1 : Nat) : Option (Mem × Unit) := if a1 < 4 then ((X2_onSet σ a1).bind fun q1 => X6_know_L7 a1 q1.2 (fun (s10 : Mem) => (some (s10, ()))) FU q1.1 (0 : Int32)) else none
set_option maxRecDepth 100000 in
set_option maxHeartbeats 4000000 in
theorem t_X6_know_L16 (X : GX) (x1 : Nat) (x2 : Int32) (x3 : Int32) (hx1 : x1 < 4) (k70 : Mem → Option (Mem × Unit)) (hk70 : ∀ (σ : Mem), GS (KM enV X) X mX6_know σ 70 [(0, .ref (xad X (85))), (1, .ref (xad X (69 + 4 * x1))), (2, .int x2), (3, .int x3)] [] (k70 σ)) : ∀ (n : Nat) (σ : Mem) (x4 : Int32), GS (KM enV X) X mX6_know σ 16 [(0, .ref (xad X (85))), (1, .ref (xad X (69 + 4 * x1))), (2, .int x2), (3, .int x3), (4, .int x4)] [] (X6_know_L16 x1 x2 x3 k70 n σ x4) := by
  intro n
  induction n with
  | zero => intros; exact g_none
  | succ n ih =>
    intro σ x4
    rw [X6_know_L16]
    refine g_iload 4 dX6_know_16 rfl ?_
    refine g_bipush (6 : Int32) dX6_know_18 (by decide) ?_
    refine g_icmp_gt 70 dX6_know_20 rfl (fun _ => ?_) (fun _ => ?_)
    · refine g_sub [0, 1, 2, 3] rfl ?_
      exact hk70 σ
    · refine g_iload_n 3 dX6_know_23 rfl ?_
      refine g_iload 4 dX6_know_24 rfl ?_
      refine g_callSI (c_X6_pieceOf σ x3 x4) okX6_pieceOf ⟨by decide, by decide⟩ ml_X6_39 rfl rfl (Nat.le_of_ble_eq_true rfl) dX6_know_26 (fun q2 => ?_)
      refine g_istore [(5, .int (q2.2)), (0, .ref (xad X (85))), (1, .ref (xad X (69 + 4 * x1))), (2, .int x2), (3, .int x3), (4, .int x4)] dX6_know_29 (by decide) rfl ?_
      refine g_aload_n 1 dX6_know_31 rfl ?_
      refine gf_X6_0 fl_X6_9 dX6_know_32 ?_
      refine g_iload 0 dX6_know_35 rfl ?_
      refine g_aload_n 2 dX6_know_37 rfl ?_
      refine g_iload_n 4 dX6_know_38 rfl ?_
      refine g_iload 5 dX6_know_39 rfl ?_
      refine g_iload_n 3 dX6_know_41 rfl ?_
      refine g_lconst (0 : Int64) dX6_know_42 (by decide) ?_
      refine g_callVJ (c_X2_outOfSign q2.1 x1 x3 x4 x2 (0 : Int64)) okX2_outOfSign ⟨by decide, by decide⟩ ml_X6_43 (sh_X2 hx1) (no_X2 hx1) rfl rfl [.int x3, .int x4, .int x2, .long ((0 : Int64))] rfl rfl rfl (Nat.le_of_ble_eq_true rfl) dX6_know_43 (fun q3 => ?_)
      refine g_last sh_86 no_86 dX6_know_46 (fun _ => ?_)
      refine g_aload_n 1 dX6_know_47 rfl ?_
      refine gf_X6_1 fl_X6_15 dX6_know_48 ?_
      refine g_iload 0 dX6_know_51 rfl ?_
      refine g_aload_n 1 dX6_know_53 rfl ?_
      refine gf_X6_0 fl_X6_9 dX6_know_54 ?_
      refine g_iload 0 dX6_know_57 rfl ?_
      refine g_lald sh_86 no_86 dX6_know_59 (fun _ => ?_)
      refine g_callSI (c_X7_signsIn ((uJ q3.1 600 0 q2.2.toNatClampNeg q3.2)) ((((uJ q3.1 600 0 q2.2.toNatClampNeg q3.2)).2.1 600 0 q2.2.toNatClampNeg))) okX7_signsIn ⟨by decide, by decide⟩ ml_X6_47 rfl rfl (Nat.le_of_ble_eq_true rfl) dX6_know_60 (fun q4 => ?_)
      refine g_iast sh_87 no_87 dX6_know_63 (fun _ => ?_)
      refine g_iinc 5 [(4, .int ((x4 + (1 : Int32)))), (5, .int (q2.2)), (0, .ref (xad X (85))), (1, .ref (xad X (69 + 4 * x1))), (2, .int x2), (3, .int x3)] dX6_know_64 rfl (v := x4 + (1 : Int32)) rfl (by decide) rfl ?_
      refine g_goto 16 dX6_know_67 rfl ?_
      refine g_sub [2, 3, 4, 5, 0] rfl ?_
      exact ih ((uI q4.1 601 0 q2.2.toNatClampNeg q4.2)) ((x4 + (1 : Int32)))

set_option maxRecDepth 100000 in
set_option maxHeartbeats 4000000 in
theorem t_X6_know_L7 (X : GX) (x1 : Nat) (x2 : Int32) (hx1 : x1 < 4) (k76 : Mem → Option (Mem × Unit)) (hk76 : ∀ (σ : Mem), GS (KM enV X) X mX6_know σ 76 [] [] (k76 σ)) : ∀ (n : Nat) (σ : Mem) (x3 : Int32), GS (KM enV X) X mX6_know σ 7 [(0, .ref (xad X (85))), (1, .ref (xad X (69 + 4 * x1))), (2, .int x2), (3, .int x3)] [] (X6_know_L7 x1 x2 k76 n σ x3) := by
  intro n
  induction n with
  | zero => intros; exact g_none
  | succ n ih =>
    intro σ x3
    rw [X6_know_L7]
    refine g_iload_n 3 dX6_know_7 rfl ?_
    refine g_bipush (6 : Int32) dX6_know_8 (by decide) ?_
    refine g_icmp_ge 76 dX6_know_10 rfl (fun _ => ?_) (fun _ => ?_)
    · refine g_sub [] rfl ?_
      exact hk76 σ
    · refine g_iconst (0 : Int32) dX6_know_13 (by decide) ?_
      refine g_istore [(4, .int ((0 : Int32))), (0, .ref (xad X (85))), (1, .ref (xad X (69 + 4 * x1))), (2, .int x2), (3, .int x3)] dX6_know_14 (by decide) rfl ?_
      refine g_sub [1, 2, 3, 4, 0] rfl ?_
      refine t_X6_know_L16 X x1 x2 x3 hx1 _ (fun s7 => ?_) FU σ (0 : Int32)
      refine g_iinc 3 [(3, .int ((x3 + (1 : Int32)))), (0, .ref (xad X (85))), (1, .ref (xad X (69 + 4 * x1))), (2, .int x2)] dX6_know_70 rfl (v := x3 + (1 : Int32)) rfl (by decide) rfl ?_
      refine g_goto 7 dX6_know_73 rfl ?_
      refine g_sub [1, 2, 3, 0] rfl ?_
      exact ih s7 ((x3 + (1 : Int32)))

set_option maxRecDepth 100000 in
set_option maxHeartbeats 4000000 in
theorem c_X6_know (σ : Mem) (a1 : Nat) : CT yX6_know mX6_know enV (fun ad => [.ref (ad (85)), .ref (ad (69 + 4 * a1))]) σ (X6_know σ a1) := by
  refine CT.of (by decide) rfl (fun _ => Nat.le_of_ble_eq_true rfl) (fun X => ?_)
  show GS (KM enV X) X mX6_know σ 0 [(0, .ref (xad X (85))), (1, .ref (xad X (69 + 4 * a1)))] [] _
  unfold X6_know
  refine g_guard (fun ha1 => ?_)
  refine g_aload_n 1 dX6_know_0 rfl ?_
  refine g_callVI (c_X2_onSet σ a1) okX2_onSet ⟨by decide, by decide⟩ ml_X6_33 (sh_X2 ha1) (no_X2 ha1) rfl rfl [] rfl rfl rfl (Nat.le_of_ble_eq_true rfl) dX6_know_1 (fun q1 => ?_)
  refine g_istore_n [(2, .int (q1.2)), (0, .ref (xad X (85))), (1, .ref (xad X (69 + 4 * a1)))] dX6_know_4 (by decide) rfl ?_
  refine g_iconst (0 : Int32) dX6_know_5 (by decide) ?_
  refine g_istore_n [(3, .int ((0 : Int32))), (2, .int (q1.2)), (0, .ref (xad X (85))), (1, .ref (xad X (69 + 4 * a1)))] dX6_know_6 (by decide) rfl ?_
  refine g_sub [2, 3, 1, 0] rfl ?_
  refine t_X6_know_L7 X a1 q1.2 ha1 _ (fun s10 => ?_) FU q1.1 (0 : Int32)
  exact g_vret rfl dX6_know_76

def X6_wayOf (σ : Mem) (a0 : Int32) (a1 : Int32) (a2 : Int32) : Option (Mem × Int32) := (lt_ (((((a0 * (6 : Int32)) + a1) * (17 : Int32)) + a2)) fun (v1 : Int32) => if v1 < 0 then (some (σ, (0 : Int32))) else (if (714 : Int32) ≤ v1 then (some (σ, (0 : Int32))) else ((some (σ, v1)))))
set_option maxRecDepth 100000 in
set_option maxHeartbeats 4000000 in
theorem c_X6_wayOf (σ : Mem) (a0 : Int32) (a1 : Int32) (a2 : Int32) : CT yX6_wayOf mX6_wayOf enI (fun ad => [.int a0, .int a1, .int a2]) σ (X6_wayOf σ a0 a1 a2) := by
  refine CT.of (by decide) rfl (fun _ => Nat.le_of_ble_eq_true rfl) (fun X => ?_)
  show GS (KM enI X) X mX6_wayOf σ 0 [(0, .int a0), (1, .int a1), (2, .int a2)] [] _
  unfold X6_wayOf
  refine g_iload_n 0 dX6_wayOf_0 rfl ?_
  refine g_bipush (6 : Int32) dX6_wayOf_1 (by decide) ?_
  refine g_imul dX6_wayOf_3 ?_
  refine g_iload_n 1 dX6_wayOf_4 rfl ?_
  refine g_iadd dX6_wayOf_5 ?_
  refine g_bipush (17 : Int32) dX6_wayOf_6 (by decide) ?_
  refine g_imul dX6_wayOf_8 ?_
  refine g_iload_n 2 dX6_wayOf_9 rfl ?_
  refine g_iadd dX6_wayOf_10 ?_
  refine g_topi (fun v1 => ?_)
  refine g_istore_n [(3, .int v1), (0, .int a0), (1, .int a1), (2, .int a2)] dX6_wayOf_11 (by decide) rfl ?_
  refine g_iload_n 0 dX6_wayOf_12 rfl ?_
  refine g_if_lt 27 dX6_wayOf_13 rfl (fun _ => ?_) (fun _ => ?_)
  · refine g_iconst (0 : Int32) dX6_wayOf_27 (by decide) ?_
    exact g_iret rfl dX6_wayOf_28
  · refine g_iload_n 0 dX6_wayOf_16 rfl ?_
    refine g_sipush (714 : Int32) dX6_wayOf_17 (by decide) ?_
    refine g_icmp_ge 27 dX6_wayOf_20 rfl (fun _ => ?_) (fun _ => ?_)
    · refine g_iconst (0 : Int32) dX6_wayOf_27 (by decide) ?_
      exact g_iret rfl dX6_wayOf_28
    · refine g_iload_n 0 dX6_wayOf_23 rfl ?_
      refine g_goto 28 dX6_wayOf_24 rfl ?_
      exact g_iret rfl dX6_wayOf_28

def X6_placeAfter (σ : Mem) (a1 : Int32) (a2 : Int32) (a3 : Int32) : Option (Mem × Int32) := ((X6_pieceOf σ a1 a2).bind fun q1 => ck q1.2 42 <| lt_ ((a3 + (q1.1.1 601 0 q1.2.toNatClampNeg))) fun (v2 : Int32) => if v2 ≤ (q1.1.1 605 0 0) then (ck q1.2 42 <| lt_ ((((q1.1.2.1 604 0 0) >>> (((3 : Int32) * ((q1.1.1 605 0 0) - v2)).toInt64 &&& 63)) &&& (((1 : Int64) <<< (((3 : Int32) * (q1.1.1 601 0 q1.2.toNatClampNeg)).toInt64 &&& 63)) - (1 : Int64)))) fun (v3 : Int64) => ck q1.2 42 <| if (lg_cmp v3 (q1.1.2.1 600 0 q1.2.toNatClampNeg)) = 0 then ((some (q1.1, v2))) else (some (q1.1, (-9 : Int32)))) else (some (q1.1, (-9 : Int32))))
set_option maxRecDepth 100000 in
set_option maxHeartbeats 4000000 in
theorem c_X6_placeAfter (σ : Mem) (a1 : Int32) (a2 : Int32) (a3 : Int32) : CT yX6_placeAfter mX6_placeAfter enI (fun ad => [.ref (ad (85)), .int a1, .int a2, .int a3]) σ (X6_placeAfter σ a1 a2 a3) := by
  refine CT.of (by decide) rfl (fun _ => Nat.le_of_ble_eq_true rfl) (fun X => ?_)
  show GS (KM enI X) X mX6_placeAfter σ 0 [(0, .ref (xad X (85))), (1, .int a1), (2, .int a2), (3, .int a3)] [] _
  unfold X6_placeAfter
  refine g_iload_n 1 dX6_placeAfter_0 rfl ?_
  refine g_iload_n 2 dX6_placeAfter_1 rfl ?_
  refine g_callSI (c_X6_pieceOf σ a1 a2) okX6_pieceOf ⟨by decide, by decide⟩ ml_X6_39 rfl rfl (Nat.le_of_ble_eq_true rfl) dX6_placeAfter_2 (fun q1 => ?_)
  refine g_istore [(4, .int (q1.2)), (0, .ref (xad X (85))), (1, .int a1), (2, .int a2), (3, .int a3)] dX6_placeAfter_5 (by decide) rfl ?_
  refine g_iload_n 4 dX6_placeAfter_7 rfl ?_
  refine g_aload_n 1 dX6_placeAfter_8 rfl ?_
  refine gf_X6_1 fl_X6_15 dX6_placeAfter_9 ?_
  refine g_iload 0 dX6_placeAfter_12 rfl ?_
  refine g_iald sh_87 no_87 dX6_placeAfter_14 (fun _ => ?_)
  refine g_iadd dX6_placeAfter_15 ?_
  refine g_topi (fun v2 => ?_)
  refine g_istore [(5, .int v2), (4, .int (q1.2)), (0, .ref (xad X (85))), (1, .int a1), (2, .int a2), (3, .int a3)] dX6_placeAfter_16 (by decide) rfl ?_
  refine g_iload 0 dX6_placeAfter_18 rfl ?_
  refine g_aload_n 2 dX6_placeAfter_20 rfl ?_
  refine gf_X6_5 fl_X6_29 dX6_placeAfter_21 ?_
  refine g_icmp_le 30 dX6_placeAfter_24 rfl (fun _ => ?_) (fun _ => ?_)
  · refine g_aload_n 2 dX6_placeAfter_30 rfl ?_
    refine gf_X6_4 fl_X6_25 dX6_placeAfter_31 ?_
    refine g_iconst (3 : Int32) dX6_placeAfter_34 (by decide) ?_
    refine g_aload_n 2 dX6_placeAfter_35 rfl ?_
    refine gf_X6_5 fl_X6_29 dX6_placeAfter_36 ?_
    refine g_iload 0 dX6_placeAfter_39 rfl ?_
    refine g_isub dX6_placeAfter_41 ?_
    refine g_imul dX6_placeAfter_42 ?_
    refine g_lshr dX6_placeAfter_43 ?_
    refine g_lconst (1 : Int64) dX6_placeAfter_44 (by decide) ?_
    refine g_iconst (3 : Int32) dX6_placeAfter_45 (by decide) ?_
    refine g_aload_n 2 dX6_placeAfter_46 rfl ?_
    refine gf_X6_1 fl_X6_15 dX6_placeAfter_47 ?_
    refine g_iload 1 dX6_placeAfter_50 rfl ?_
    refine g_iald sh_87 no_87 dX6_placeAfter_52 (fun _ => ?_)
    refine g_imul dX6_placeAfter_53 ?_
    refine g_lshl dX6_placeAfter_54 ?_
    refine g_lconst (1 : Int64) dX6_placeAfter_55 (by decide) ?_
    refine g_lsub dX6_placeAfter_56 ?_
    refine g_land dX6_placeAfter_57 ?_
    refine g_topl (fun v3 => ?_)
    refine g_lstore [(6, .long v3), (5, .int v2), (4, .int (q1.2)), (0, .ref (xad X (85))), (1, .int a1), (2, .int a2), (3, .int a3)] dX6_placeAfter_58 (by decide) rfl ?_
    refine g_lload 0 dX6_placeAfter_60 rfl ?_
    refine g_aload_n 3 dX6_placeAfter_62 rfl ?_
    refine gf_X6_0 fl_X6_9 dX6_placeAfter_63 ?_
    refine g_iload 2 dX6_placeAfter_66 rfl ?_
    refine g_lald sh_86 no_86 dX6_placeAfter_68 (fun _ => ?_)
    refine g_lcmp dX6_placeAfter_69 ?_
    refine g_if_ne 78 dX6_placeAfter_70 rfl (fun _ => ?_) (fun _ => ?_)
    · refine g_bipush (-9 : Int32) dX6_placeAfter_78 (by decide) ?_
      exact g_iret rfl dX6_placeAfter_80
    · refine g_iload 1 dX6_placeAfter_73 rfl ?_
      refine g_goto 80 dX6_placeAfter_75 rfl ?_
      exact g_iret rfl dX6_placeAfter_80
  · refine g_bipush (-9 : Int32) dX6_placeAfter_27 (by decide) ?_
    exact g_iret rfl dX6_placeAfter_29

