def X2_outOfSign (σ : Mem) (a0 : Nat) (a1 : Int32) (a2 : Int32) (a3 : Int32) (a4 : Int64) : Option (Mem × Int64) := if a0 < 4 then ((X2_chosen σ a0 a1 a2 a3).bind fun q1 => (X2_numbered q1.1 a0 q1.2).bind fun q2 => spl q2.2 41 (((X7_packed q2.1 a4 a1).bind fun q4 => (some (q4.1, q4.2)))) (fun r3 => (((X1_after q2.1 r3 a4).bind fun q5 => some (q5.1, q5.2))))) else none
set_option maxRecDepth 100000 in
set_option maxHeartbeats 4000000 in
theorem c_X2_outOfSign (σ : Mem) (a0 : Nat) (a1 : Int32) (a2 : Int32) (a3 : Int32) (a4 : Int64) : CT yX2_outOfSign mX2_outOfSign enJ (fun ad => [.ref (ad (69 + 4 * a0)), .int a1, .int a2, .int a3, .long a4]) σ (X2_outOfSign σ a0 a1 a2 a3 a4) := by
  refine CT.of (by decide) rfl (fun _ => Nat.le_of_ble_eq_true rfl) (fun X => ?_)
  show GS (KM enJ X) X mX2_outOfSign σ 0 [(0, .ref (xad X (69 + 4 * a0))), (1, .int a1), (2, .int a2), (3, .int a3), (4, .long a4)] [] _
  unfold X2_outOfSign
  refine g_guard (fun ha0 => ?_)
  refine g_aload_n 0 dX2_outOfSign_0 rfl ?_
  refine g_aload_n 0 dX2_outOfSign_1 rfl ?_
  refine g_iload_n 1 dX2_outOfSign_2 rfl ?_
  refine g_iload_n 2 dX2_outOfSign_3 rfl ?_
  refine g_iload_n 3 dX2_outOfSign_4 rfl ?_
  refine g_callVI (c_X2_chosen σ a0 a1 a2 a3) okX2_chosen ⟨by decide, by decide⟩ ml_X2_80 (sh_X2 ha0) (no_X2 ha0) rfl rfl [.int a1, .int a2, .int a3] rfl rfl rfl (Nat.le_of_ble_eq_true rfl) dX2_outOfSign_5 (fun q1 => ?_)
  refine g_callVG (c_X2_numbered q1.1 a0 q1.2) okX2_numbered ⟨by decide, by decide⟩ ml_X2_61 (sh_X2 ha0) (no_X2 ha0) rfl rfl [.int (q1.2)] rfl rfl rfl (Nat.le_of_ble_eq_true rfl) dX2_outOfSign_8 (fun q2 => ?_)
  refine g_spl ?_ (fun r3 hr3 => ?_)
  · refine g_astoreN [(6, .null), (0, .ref (xad X (69 + 4 * a0))), (1, .int a1), (2, .int a2), (3, .int a3), (4, .long a4)] dX2_outOfSign_11 (by decide) rfl ?_
    refine g_aloadN 0 dX2_outOfSign_13 rfl ?_
    refine g_ifnonnullN dX2_outOfSign_15 ?_
    refine g_lload 5 dX2_outOfSign_18 rfl ?_
    refine g_iload_n 2 dX2_outOfSign_20 rfl ?_
    refine g_callSJ (c_X7_packed q2.1 a4 a1) okX7_packed ⟨by decide, by decide⟩ ml_X2_84 rfl rfl (Nat.le_of_ble_eq_true rfl) dX2_outOfSign_21 (fun q4 => ?_)
    refine g_goto 34 dX2_outOfSign_24 rfl ?_
    exact g_lret rfl dX2_outOfSign_34
  · refine g_astore [(6, .ref (xad X (28 + r3))), (0, .ref (xad X (69 + 4 * a0))), (1, .int a1), (2, .int a2), (3, .int a3), (4, .long a4)] dX2_outOfSign_11 (by decide) rfl ?_
    refine g_aload 0 dX2_outOfSign_13 rfl ?_
    refine g_ifnonnull 27 dX2_outOfSign_15 rfl ?_
    refine g_aload 0 dX2_outOfSign_27 rfl ?_
    refine g_lload 5 dX2_outOfSign_29 rfl ?_
    refine g_callVJ (c_X1_after q2.1 r3 a4) okX1_after ⟨by decide, by decide⟩ ml_X2_88 (sh_X1 hr3) (no_X1 hr3) rfl rfl [.long a4] rfl rfl rfl (Nat.le_of_ble_eq_true rfl) dX2_outOfSign_31 (fun q5 => ?_)
    exact g_lret rfl dX2_outOfSign_34

def X4_hasPlace (σ : Mem) (a0 : Nat) (a1 : Int32) : Option (Mem × Int32) := if a0 < 11 then (if a1 < 0 then (if (0 : Int32) = 0 ∨ (0 : Int32) = 1 then some (σ, (0 : Int32)) else none) else (if (σ.1 401 a0 0) ≤ a1 then (if (0 : Int32) = 0 ∨ (0 : Int32) = 1 then some (σ, (0 : Int32)) else none) else (if (Int32.ofNat (rl a0)) ≤ a1 then (if (0 : Int32) = 0 ∨ (0 : Int32) = 1 then some (σ, (0 : Int32)) else none) else ((if (1 : Int32) = 0 ∨ (1 : Int32) = 1 then some (σ, (1 : Int32)) else none))))) else none
set_option maxRecDepth 100000 in
set_option maxHeartbeats 4000000 in
theorem c_X4_hasPlace (σ : Mem) (a0 : Nat) (a1 : Int32) : CT yX4_hasPlace mX4_hasPlace enI (fun ad => [.ref (ad (4 + 2 * a0)), .int a1]) σ (X4_hasPlace σ a0 a1) := by
  refine CT.of (by decide) rfl (fun _ => Nat.le_of_ble_eq_true rfl) (fun X => ?_)
  show GS (KM enI X) X mX4_hasPlace σ 0 [(0, .ref (xad X (4 + 2 * a0))), (1, .int a1)] [] _
  unfold X4_hasPlace
  refine g_guard (fun ha0 => ?_)
  refine g_iload_n 1 dX4_hasPlace_0 rfl ?_
  refine g_if_lt 25 dX4_hasPlace_1 rfl (fun _ => ?_) (fun _ => ?_)
  · refine g_iconst (0 : Int32) dX4_hasPlace_25 (by decide) ?_
    exact g_zret rfl dX4_hasPlace_26
  · refine g_iload_n 1 dX4_hasPlace_4 rfl ?_
    refine g_aload_n 0 dX4_hasPlace_5 rfl ?_
    refine gf_X4_1 ha0 fl_X4_9 dX4_hasPlace_6 ?_
    refine g_icmp_ge 25 dX4_hasPlace_9 rfl (fun _ => ?_) (fun _ => ?_)
    · refine g_iconst (0 : Int32) dX4_hasPlace_25 (by decide) ?_
      exact g_zret rfl dX4_hasPlace_26
    · refine g_iload_n 1 dX4_hasPlace_12 rfl ?_
      refine g_aload_n 0 dX4_hasPlace_13 rfl ?_
      refine gf_X4_0 ha0 fl_X4_21 dX4_hasPlace_14 ?_
      refine g_alen (v := (Int32.ofNat (rl a0))) (sh_cells ha0) (no_cells ha0) (by decide) rfl dX4_hasPlace_17 ?_
      refine g_icmp_ge 25 dX4_hasPlace_18 rfl (fun _ => ?_) (fun _ => ?_)
      · refine g_iconst (0 : Int32) dX4_hasPlace_25 (by decide) ?_
        exact g_zret rfl dX4_hasPlace_26
      · refine g_iconst (1 : Int32) dX4_hasPlace_21 (by decide) ?_
        refine g_goto 26 dX4_hasPlace_22 rfl ?_
        exact g_zret rfl dX4_hasPlace_26

def X4_cell (σ : Mem) (a0 : Nat) (a1 : Int32) : Option (Mem × Int32) := if a0 < 11 then ((X4_hasPlace σ a0 a1).bind fun q1 => if q1.2 = 0 then (some (q1.1, (-9 : Int32))) else (ck a1 (rl a0) <| (some (q1.1, (q1.1.1 400 a0 a1.toNatClampNeg))))) else none
set_option maxRecDepth 100000 in
set_option maxHeartbeats 4000000 in
theorem c_X4_cell (σ : Mem) (a0 : Nat) (a1 : Int32) : CT yX4_cell mX4_cell enI (fun ad => [.ref (ad (4 + 2 * a0)), .int a1]) σ (X4_cell σ a0 a1) := by
  refine CT.of (by decide) rfl (fun _ => Nat.le_of_ble_eq_true rfl) (fun X => ?_)
  show GS (KM enI X) X mX4_cell σ 0 [(0, .ref (xad X (4 + 2 * a0))), (1, .int a1)] [] _
  unfold X4_cell
  refine g_guard (fun ha0 => ?_)
  refine g_aload_n 0 dX4_cell_0 rfl ?_
  refine g_iload_n 1 dX4_cell_1 rfl ?_
  refine g_callVI (c_X4_hasPlace σ a0 a1) okX4_hasPlace ⟨by decide, by decide⟩ ml_X4_25 (sh_X4 ha0) (no_X4 ha0) rfl rfl [.int a1] rfl rfl rfl (Nat.le_of_ble_eq_true rfl) dX4_cell_2 (fun q1 => ?_)
  refine g_if_eq 17 dX4_cell_5 rfl (fun _ => ?_) (fun _ => ?_)
  · refine g_bipush (-9 : Int32) dX4_cell_17 (by decide) ?_
    exact g_iret rfl dX4_cell_19
  · refine g_aload_n 0 dX4_cell_8 rfl ?_
    refine gf_X4_0 ha0 fl_X4_21 dX4_cell_9 ?_
    refine g_iload_n 1 dX4_cell_12 rfl ?_
    refine g_iald (sh_cells ha0) (no_cells ha0) dX4_cell_13 (fun _ => ?_)
    refine g_goto 19 dX4_cell_14 rfl ?_
    exact g_iret rfl dX4_cell_19

def X4_behind (σ : Mem) (a0 : Nat) (a1 : Int32) : Option (Mem × Int32) := if a0 < 11 then ((X4_hasPlace σ a0 ((a1 + (1 : Int32)))).bind fun q1 => if q1.2 = 0 then (some (q1.1, (6 : Int32))) else (ck (a1 + (1 : Int32)) (rl a0) <| (some (q1.1, (q1.1.1 400 a0 (a1 + (1 : Int32)).toNatClampNeg))))) else none
set_option maxRecDepth 100000 in
set_option maxHeartbeats 4000000 in
theorem c_X4_behind (σ : Mem) (a0 : Nat) (a1 : Int32) : CT yX4_behind mX4_behind enI (fun ad => [.ref (ad (4 + 2 * a0)), .int a1]) σ (X4_behind σ a0 a1) := by
  refine CT.of (by decide) rfl (fun _ => Nat.le_of_ble_eq_true rfl) (fun X => ?_)
  show GS (KM enI X) X mX4_behind σ 0 [(0, .ref (xad X (4 + 2 * a0))), (1, .int a1)] [] _
  unfold X4_behind
  refine g_guard (fun ha0 => ?_)
  refine g_aload_n 0 dX4_behind_0 rfl ?_
  refine g_iload_n 1 dX4_behind_1 rfl ?_
  refine g_iconst (1 : Int32) dX4_behind_2 (by decide) ?_
  refine g_iadd dX4_behind_3 ?_
  refine g_callVI (c_X4_hasPlace σ a0 ((a1 + (1 : Int32)))) okX4_hasPlace ⟨by decide, by decide⟩ ml_X4_25 (sh_X4 ha0) (no_X4 ha0) rfl rfl [.int ((a1 + (1 : Int32)))] rfl rfl rfl (Nat.le_of_ble_eq_true rfl) dX4_behind_4 (fun q1 => ?_)
  refine g_if_eq 21 dX4_behind_7 rfl (fun _ => ?_) (fun _ => ?_)
  · refine g_bipush (6 : Int32) dX4_behind_21 (by decide) ?_
    exact g_iret rfl dX4_behind_23
  · refine g_aload_n 0 dX4_behind_10 rfl ?_
    refine gf_X4_0 ha0 fl_X4_21 dX4_behind_11 ?_
    refine g_iload_n 1 dX4_behind_14 rfl ?_
    refine g_iconst (1 : Int32) dX4_behind_15 (by decide) ?_
    refine g_iadd dX4_behind_16 ?_
    refine g_iald (sh_cells ha0) (no_cells ha0) dX4_behind_17 (fun _ => ?_)
    refine g_goto 23 dX4_behind_18 rfl ?_
    exact g_iret rfl dX4_behind_23

def X2_outOf_L5 (x0 : Nat) (x1 : Nat) (x2 : Int32) (k46 : Mem → Int64 → Option (Mem × Int64)) : Nat → Mem → Int64 → Int32 → Option (Mem × Int64)
  | 0, _, _, _ => none
  | n + 1, σ, x3, x5 => (if (σ.1 401 x1 0) ≤ x5 then k46 σ x3 else (if (8 : Int32) ≤ x5 then k46 σ x3 else ((X4_cell σ x1 x5).bind fun q1 => (X4_behind q1.1 x1 x5).bind fun q2 => (X2_outOfSign q2.1 x0 q1.2 q2.2 x2 x3).bind fun q3 => X2_outOf_L5 x0 x1 x2 k46 n q3.1 q3.2 ((x5 + (1 : Int32))))))
def X2_outOf (σ : Mem) (a0 : Nat) (a1 : Nat) (a2 : Int32) : Option (Mem × Int64) := if a0 < 4 then (if a1 < 11 then (X2_outOf_L5 a0 a1 a2 (fun (s6 : Mem) (y3_5 : Int64) => (some (s6, y3_5))) FU σ (0 : Int64) (0 : Int32)) else none) else none
set_option maxRecDepth 100000 in
set_option maxHeartbeats 4000000 in
theorem t_X2_outOf_L5 (X : GX) (x0 : Nat) (x1 : Nat) (x2 : Int32) (hx0 : x0 < 4) (hx1 : x1 < 11) (k46 : Mem → Int64 → Option (Mem × Int64)) (hk46 : ∀ (σ : Mem) (y3 : Int64), GS (KM enJ X) X mX2_outOf σ 46 [(3, .long y3)] [] (k46 σ y3)) : ∀ (n : Nat) (σ : Mem) (x3 : Int64) (x5 : Int32), GS (KM enJ X) X mX2_outOf σ 5 [(0, .ref (xad X (69 + 4 * x0))), (1, .ref (xad X (4 + 2 * x1))), (2, .int x2), (3, .long x3), (5, .int x5)] [] (X2_outOf_L5 x0 x1 x2 k46 n σ x3 x5) := by
  intro n
  induction n with
  | zero => intros; exact g_none
  | succ n ih =>
    intro σ x3 x5
    rw [X2_outOf_L5]
    refine g_iload 4 dX2_outOf_5 rfl ?_
    refine g_aload_n 1 dX2_outOf_7 rfl ?_
    refine gf_X4_1 hx1 fl_X2_92 dX2_outOf_8 ?_
    refine g_icmp_ge 46 dX2_outOf_11 rfl (fun _ => ?_) (fun _ => ?_)
    · refine g_sub [3] rfl ?_
      exact hk46 σ x3
    · refine g_iload 4 dX2_outOf_14 rfl ?_
      refine g_bipush (8 : Int32) dX2_outOf_16 (by decide) ?_
      refine g_icmp_ge 46 dX2_outOf_18 rfl (fun _ => ?_) (fun _ => ?_)
      · refine g_sub [3] rfl ?_
        exact hk46 σ x3
      · refine g_aload_n 0 dX2_outOf_21 rfl ?_
        refine g_aload_n 1 dX2_outOf_22 rfl ?_
        refine g_iload 4 dX2_outOf_23 rfl ?_
        refine g_callVI (c_X4_cell σ x1 x5) okX4_cell ⟨by decide, by decide⟩ ml_X2_95 (sh_X4 hx1) (no_X4 hx1) rfl rfl [.int x5] rfl rfl rfl (Nat.le_of_ble_eq_true rfl) dX2_outOf_25 (fun q1 => ?_)
        refine g_aload_n 1 dX2_outOf_28 rfl ?_
        refine g_iload 4 dX2_outOf_29 rfl ?_
        refine g_callVI (c_X4_behind q1.1 x1 x5) okX4_behind ⟨by decide, by decide⟩ ml_X2_99 (sh_X4 hx1) (no_X4 hx1) rfl rfl [.int x5] rfl rfl rfl (Nat.le_of_ble_eq_true rfl) dX2_outOf_31 (fun q2 => ?_)
        refine g_iload_n 2 dX2_outOf_34 rfl ?_
        refine g_lload_n 3 dX2_outOf_35 rfl ?_
        refine g_callVJ (c_X2_outOfSign q2.1 x0 q1.2 q2.2 x2 x3) okX2_outOfSign ⟨by decide, by decide⟩ ml_X2_102 (sh_X2 hx0) (no_X2 hx0) rfl rfl [.int (q1.2), .int (q2.2), .int x2, .long x3] rfl rfl rfl (Nat.le_of_ble_eq_true rfl) dX2_outOf_36 (fun q3 => ?_)
        refine g_lstore_n [(3, .long (q3.2)), (0, .ref (xad X (69 + 4 * x0))), (1, .ref (xad X (4 + 2 * x1))), (2, .int x2), (5, .int x5)] dX2_outOf_39 (by decide) rfl ?_
        refine g_iinc 4 [(5, .int ((x5 + (1 : Int32)))), (3, .long (q3.2)), (0, .ref (xad X (69 + 4 * x0))), (1, .ref (xad X (4 + 2 * x1))), (2, .int x2)] dX2_outOf_40 rfl (v := x5 + (1 : Int32)) rfl (by decide) rfl ?_
        refine g_goto 5 dX2_outOf_43 rfl ?_
        refine g_sub [2, 3, 4, 1, 0] rfl ?_
        exact ih q3.1 q3.2 ((x5 + (1 : Int32)))

set_option maxRecDepth 100000 in
set_option maxHeartbeats 4000000 in
theorem c_X2_outOf (σ : Mem) (a0 : Nat) (a1 : Nat) (a2 : Int32) : CT yX2_outOf mX2_outOf enJ (fun ad => [.ref (ad (69 + 4 * a0)), .ref (ad (4 + 2 * a1)), .int a2]) σ (X2_outOf σ a0 a1 a2) := by
  refine CT.of (by decide) rfl (fun _ => Nat.le_of_ble_eq_true rfl) (fun X => ?_)
  show GS (KM enJ X) X mX2_outOf σ 0 [(0, .ref (xad X (69 + 4 * a0))), (1, .ref (xad X (4 + 2 * a1))), (2, .int a2)] [] _
  unfold X2_outOf
  refine g_guard (fun ha0 => ?_)
  refine g_guard (fun ha1 => ?_)
  refine g_lconst (0 : Int64) dX2_outOf_0 (by decide) ?_
  refine g_lstore_n [(3, .long ((0 : Int64))), (0, .ref (xad X (69 + 4 * a0))), (1, .ref (xad X (4 + 2 * a1))), (2, .int a2)] dX2_outOf_1 (by decide) rfl ?_
  refine g_iconst (0 : Int32) dX2_outOf_2 (by decide) ?_
  refine g_istore [(5, .int ((0 : Int32))), (3, .long ((0 : Int64))), (0, .ref (xad X (69 + 4 * a0))), (1, .ref (xad X (4 + 2 * a1))), (2, .int a2)] dX2_outOf_3 (by decide) rfl ?_
  refine g_sub [2, 3, 4, 1, 0] rfl ?_
  refine t_X2_outOf_L5 X a0 a1 a2 ha0 ha1 _ (fun s6 y3_5 => ?_) FU σ (0 : Int64) (0 : Int32)
  refine g_lload_n 0 dX2_outOf_46 rfl ?_
  exact g_lret rfl dX2_outOf_47

def X2_inksOf (σ : Mem) (a0 : Nat) (a1 : Int32) : Option (Mem × Int32) := if a0 < 4 then (if a1 < 0 then (some (σ, (0 : Int32))) else (if (6 : Int32) ≤ a1 then (some (σ, (0 : Int32))) else (ck a1 6 <| (some (σ, (σ.1 202 a0 a1.toNatClampNeg)))))) else none
set_option maxRecDepth 100000 in
set_option maxHeartbeats 4000000 in
theorem c_X2_inksOf (σ : Mem) (a0 : Nat) (a1 : Int32) : CT yX2_inksOf mX2_inksOf enI (fun ad => [.ref (ad (69 + 4 * a0)), .int a1]) σ (X2_inksOf σ a0 a1) := by
  refine CT.of (by decide) rfl (fun _ => Nat.le_of_ble_eq_true rfl) (fun X => ?_)
  show GS (KM enI X) X mX2_inksOf σ 0 [(0, .ref (xad X (69 + 4 * a0))), (1, .int a1)] [] _
  unfold X2_inksOf
  refine g_guard (fun ha0 => ?_)
  refine g_iload_n 1 dX2_inksOf_0 rfl ?_
  refine g_if_lt 22 dX2_inksOf_1 rfl (fun _ => ?_) (fun _ => ?_)
  · refine g_iconst (0 : Int32) dX2_inksOf_22 (by decide) ?_
    exact g_iret rfl dX2_inksOf_23
  · refine g_iload_n 1 dX2_inksOf_4 rfl ?_
    refine g_aload_n 0 dX2_inksOf_5 rfl ?_
    refine gf_X2_2 ha0 fl_X2_21 dX2_inksOf_6 ?_
    refine g_alen (v := (6 : Int32)) (sh_pinks ha0) (no_pinks ha0) (by decide) rfl dX2_inksOf_9 ?_
    refine g_icmp_ge 22 dX2_inksOf_10 rfl (fun _ => ?_) (fun _ => ?_)
    · refine g_iconst (0 : Int32) dX2_inksOf_22 (by decide) ?_
      exact g_iret rfl dX2_inksOf_23
    · refine g_aload_n 0 dX2_inksOf_13 rfl ?_
      refine gf_X2_2 ha0 fl_X2_21 dX2_inksOf_14 ?_
      refine g_iload_n 1 dX2_inksOf_17 rfl ?_
      refine g_iald (sh_pinks ha0) (no_pinks ha0) dX2_inksOf_18 (fun _ => ?_)
      refine g_goto 23 dX2_inksOf_19 rfl ?_
      exact g_iret rfl dX2_inksOf_23

def X2_inksInAll_L4 (x0 : Nat) (k28 : Mem → Int32 → Option (Mem × Int32)) : Nat → Mem → Int32 → Int32 → Option (Mem × Int32)
  | 0, _, _, _ => none
  | n + 1, σ, x1, x2 => (if (6 : Int32) ≤ x2 then k28 σ x1 else (ck x2 6 <| lt_ ((x1 + (σ.1 202 x0 x2.toNatClampNeg))) fun (v1 : Int32) => X2_inksInAll_L4 x0 k28 n σ v1 ((x2 + (1 : Int32)))))
def X2_inksInAll (σ : Mem) (a0 : Nat) : Option (Mem × Int32) := if a0 < 4 then (X2_inksInAll_L4 a0 (fun (s4 : Mem) (y1_3 : Int32) => (some (s4, y1_3))) FU σ (0 : Int32) (0 : Int32)) else none
set_option maxRecDepth 100000 in
set_option maxHeartbeats 4000000 in
theorem t_X2_inksInAll_L4 (X : GX) (x0 : Nat) (hx0 : x0 < 4) (k28 : Mem → Int32 → Option (Mem × Int32)) (hk28 : ∀ (σ : Mem) (y1 : Int32), GS (KM enI X) X mX2_inksInAll σ 28 [(1, .int y1)] [] (k28 σ y1)) : ∀ (n : Nat) (σ : Mem) (x1 : Int32) (x2 : Int32), GS (KM enI X) X mX2_inksInAll σ 4 [(0, .ref (xad X (69 + 4 * x0))), (1, .int x1), (2, .int x2)] [] (X2_inksInAll_L4 x0 k28 n σ x1 x2) := by
  intro n
  induction n with
  | zero => intros; exact g_none
  | succ n ih =>
    intro σ x1 x2
    rw [X2_inksInAll_L4]
    refine g_iload_n 2 dX2_inksInAll_4 rfl ?_
    refine g_aload_n 0 dX2_inksInAll_5 rfl ?_
    refine gf_X2_2 hx0 fl_X2_21 dX2_inksInAll_6 ?_
    refine g_alen (v := (6 : Int32)) (sh_pinks hx0) (no_pinks hx0) (by decide) rfl dX2_inksInAll_9 ?_
    refine g_icmp_ge 28 dX2_inksInAll_10 rfl (fun _ => ?_) (fun _ => ?_)
    · refine g_sub [1] rfl ?_
      exact hk28 σ x1
    · refine g_iload_n 1 dX2_inksInAll_13 rfl ?_
      refine g_aload_n 0 dX2_inksInAll_14 rfl ?_
      refine gf_X2_2 hx0 fl_X2_21 dX2_inksInAll_15 ?_
      refine g_iload_n 2 dX2_inksInAll_18 rfl ?_
      refine g_iald (sh_pinks hx0) (no_pinks hx0) dX2_inksInAll_19 (fun _ => ?_)
      refine g_iadd dX2_inksInAll_20 ?_
      refine g_topi (fun v1 => ?_)
      refine g_istore_n [(1, .int v1), (0, .ref (xad X (69 + 4 * x0))), (2, .int x2)] dX2_inksInAll_21 (by decide) rfl ?_
      refine g_iinc 2 [(2, .int ((x2 + (1 : Int32)))), (1, .int v1), (0, .ref (xad X (69 + 4 * x0)))] dX2_inksInAll_22 rfl (v := x2 + (1 : Int32)) rfl (by decide) rfl ?_
      refine g_goto 4 dX2_inksInAll_25 rfl ?_
      refine g_sub [2, 1, 0] rfl ?_
      exact ih σ v1 ((x2 + (1 : Int32)))

set_option maxRecDepth 100000 in
set_option maxHeartbeats 4000000 in
theorem c_X2_inksInAll (σ : Mem) (a0 : Nat) : CT yX2_inksInAll mX2_inksInAll enI (fun ad => [.ref (ad (69 + 4 * a0))]) σ (X2_inksInAll σ a0) := by
  refine CT.of (by decide) rfl (fun _ => Nat.le_of_ble_eq_true rfl) (fun X => ?_)
  show GS (KM enI X) X mX2_inksInAll σ 0 [(0, .ref (xad X (69 + 4 * a0)))] [] _
  unfold X2_inksInAll
  refine g_guard (fun ha0 => ?_)
  refine g_iconst (0 : Int32) dX2_inksInAll_0 (by decide) ?_
  refine g_istore_n [(1, .int ((0 : Int32))), (0, .ref (xad X (69 + 4 * a0)))] dX2_inksInAll_1 (by decide) rfl ?_
  refine g_iconst (0 : Int32) dX2_inksInAll_2 (by decide) ?_
  refine g_istore_n [(2, .int ((0 : Int32))), (1, .int ((0 : Int32))), (0, .ref (xad X (69 + 4 * a0)))] dX2_inksInAll_3 (by decide) rfl ?_
  refine g_sub [2, 1, 0] rfl ?_
  refine t_X2_inksInAll_L4 X a0 ha0 _ (fun s4 y1_3 => ?_) FU σ (0 : Int32) (0 : Int32)
  refine g_iload_n 0 dX2_inksInAll_28 rfl ?_
  exact g_iret rfl dX2_inksInAll_29

def X2_deed (σ : Mem) (a0 : Nat) (a1 : Int32) : Option (Mem × Int64) := if a0 < 4 then (if a1 < 0 then (some (σ, (0 : Int64))) else (if (σ.1 204 a0 0) ≤ a1 then (some (σ, (0 : Int64))) else (if (40 : Int32) ≤ a1 then (some (σ, (0 : Int64))) else (ck a1 40 <| (some (σ, (σ.2.1 201 a0 a1.toNatClampNeg))))))) else none
set_option maxRecDepth 100000 in
set_option maxHeartbeats 4000000 in
theorem c_X2_deed (σ : Mem) (a0 : Nat) (a1 : Int32) : CT yX2_deed mX2_deed enJ (fun ad => [.ref (ad (69 + 4 * a0)), .int a1]) σ (X2_deed σ a0 a1) := by
  refine CT.of (by decide) rfl (fun _ => Nat.le_of_ble_eq_true rfl) (fun X => ?_)
  show GS (KM enJ X) X mX2_deed σ 0 [(0, .ref (xad X (69 + 4 * a0))), (1, .int a1)] [] _
  unfold X2_deed
  refine g_guard (fun ha0 => ?_)
  refine g_iload_n 1 dX2_deed_0 rfl ?_
  refine g_if_lt 30 dX2_deed_1 rfl (fun _ => ?_) (fun _ => ?_)
  · refine g_lconst (0 : Int64) dX2_deed_30 (by decide) ?_
    exact g_lret rfl dX2_deed_31
  · refine g_iload_n 1 dX2_deed_4 rfl ?_
    refine g_aload_n 0 dX2_deed_5 rfl ?_
    refine gf_X2_4 ha0 fl_X2_29 dX2_deed_6 ?_
    refine g_icmp_ge 30 dX2_deed_9 rfl (fun _ => ?_) (fun _ => ?_)
    · refine g_lconst (0 : Int64) dX2_deed_30 (by decide) ?_
      exact g_lret rfl dX2_deed_31
    · refine g_iload_n 1 dX2_deed_12 rfl ?_
      refine g_aload_n 0 dX2_deed_13 rfl ?_
      refine gf_X2_1 ha0 fl_X2_17 dX2_deed_14 ?_
      refine g_alen (v := (40 : Int32)) (sh_pdeeds ha0) (no_pdeeds ha0) (by decide) rfl dX2_deed_17 ?_
      refine g_icmp_ge 30 dX2_deed_18 rfl (fun _ => ?_) (fun _ => ?_)
      · refine g_lconst (0 : Int64) dX2_deed_30 (by decide) ?_
        exact g_lret rfl dX2_deed_31
      · refine g_aload_n 0 dX2_deed_21 rfl ?_
        refine gf_X2_1 ha0 fl_X2_17 dX2_deed_22 ?_
        refine g_iload_n 1 dX2_deed_25 rfl ?_
        refine g_lald (sh_pdeeds ha0) (no_pdeeds ha0) dX2_deed_26 (fun _ => ?_)
        refine g_goto 31 dX2_deed_27 rfl ?_
        exact g_lret rfl dX2_deed_31

def X4_pack_L4 (x0 : Nat) (k34 : Mem → Int64 → Option (Mem × Int64)) : Nat → Mem → Int64 → Int32 → Option (Mem × Int64)
  | 0, _, _, _ => none
  | n + 1, σ, x1, x3 => (if (σ.1 401 x0 0) ≤ x3 then k34 σ x1 else (if (16 : Int32) ≤ x3 then k34 σ x1 else ((X4_cell σ x0 x3).bind fun q1 => (X7_packed q1.1 x1 q1.2).bind fun q2 => X4_pack_L4 x0 k34 n q2.1 q2.2 ((x3 + (1 : Int32))))))
def X4_pack (σ : Mem) (a0 : Nat) : Option (Mem × Int64) := if a0 < 11 then (X4_pack_L4 a0 (fun (s5 : Mem) (y1_4 : Int64) => (some (s5, y1_4))) FU σ (0 : Int64) (0 : Int32)) else none
set_option maxRecDepth 100000 in
set_option maxHeartbeats 4000000 in
theorem t_X4_pack_L4 (X : GX) (x0 : Nat) (hx0 : x0 < 11) (k34 : Mem → Int64 → Option (Mem × Int64)) (hk34 : ∀ (σ : Mem) (y1 : Int64), GS (KM enJ X) X mX4_pack σ 34 [(1, .long y1)] [] (k34 σ y1)) : ∀ (n : Nat) (σ : Mem) (x1 : Int64) (x3 : Int32), GS (KM enJ X) X mX4_pack σ 4 [(0, .ref (xad X (4 + 2 * x0))), (1, .long x1), (3, .int x3)] [] (X4_pack_L4 x0 k34 n σ x1 x3) := by
  intro n
  induction n with
  | zero => intros; exact g_none
  | succ n ih =>
    intro σ x1 x3
    rw [X4_pack_L4]
    refine g_iload_n 2 dX4_pack_4 rfl ?_
    refine g_aload_n 0 dX4_pack_5 rfl ?_
    refine gf_X4_1 hx0 fl_X4_9 dX4_pack_6 ?_
    refine g_icmp_ge 34 dX4_pack_9 rfl (fun _ => ?_) (fun _ => ?_)
    · refine g_sub [1] rfl ?_
      exact hk34 σ x1
    · refine g_iload_n 2 dX4_pack_12 rfl ?_
      refine g_bipush (16 : Int32) dX4_pack_13 (by decide) ?_
      refine g_icmp_ge 34 dX4_pack_15 rfl (fun _ => ?_) (fun _ => ?_)
      · refine g_sub [1] rfl ?_
        exact hk34 σ x1
      · refine g_lload_n 1 dX4_pack_18 rfl ?_
        refine g_aload_n 0 dX4_pack_19 rfl ?_
        refine g_iload_n 2 dX4_pack_20 rfl ?_
        refine g_callVI (c_X4_cell σ x0 x3) okX4_cell ⟨by decide, by decide⟩ ml_X4_42 (sh_X4 hx0) (no_X4 hx0) rfl rfl [.int x3] rfl rfl rfl (Nat.le_of_ble_eq_true rfl) dX4_pack_21 (fun q1 => ?_)
        refine g_callSJ (c_X7_packed q1.1 x1 q1.2) okX7_packed ⟨by decide, by decide⟩ ml_X4_46 rfl rfl (Nat.le_of_ble_eq_true rfl) dX4_pack_24 (fun q2 => ?_)
        refine g_lstore_n [(1, .long (q2.2)), (0, .ref (xad X (4 + 2 * x0))), (3, .int x3)] dX4_pack_27 (by decide) rfl ?_
        refine g_iinc 2 [(3, .int ((x3 + (1 : Int32)))), (1, .long (q2.2)), (0, .ref (xad X (4 + 2 * x0)))] dX4_pack_28 rfl (v := x3 + (1 : Int32)) rfl (by decide) rfl ?_
        refine g_goto 4 dX4_pack_31 rfl ?_
        refine g_sub [2, 1, 0] rfl ?_
        exact ih q2.1 q2.2 ((x3 + (1 : Int32)))

set_option maxRecDepth 100000 in
set_option maxHeartbeats 4000000 in
theorem c_X4_pack (σ : Mem) (a0 : Nat) : CT yX4_pack mX4_pack enJ (fun ad => [.ref (ad (4 + 2 * a0))]) σ (X4_pack σ a0) := by
  refine CT.of (by decide) rfl (fun _ => Nat.le_of_ble_eq_true rfl) (fun X => ?_)
  show GS (KM enJ X) X mX4_pack σ 0 [(0, .ref (xad X (4 + 2 * a0)))] [] _
  unfold X4_pack
  refine g_guard (fun ha0 => ?_)
  refine g_lconst (0 : Int64) dX4_pack_0 (by decide) ?_
  refine g_lstore_n [(1, .long ((0 : Int64))), (0, .ref (xad X (4 + 2 * a0)))] dX4_pack_1 (by decide) rfl ?_
  refine g_iconst (0 : Int32) dX4_pack_2 (by decide) ?_
  refine g_istore_n [(3, .int ((0 : Int32))), (1, .long ((0 : Int64))), (0, .ref (xad X (4 + 2 * a0)))] dX4_pack_3 (by decide) rfl ?_
  refine g_sub [2, 1, 0] rfl ?_
  refine t_X4_pack_L4 X a0 ha0 _ (fun s5 y1_4 => ?_) FU σ (0 : Int64) (0 : Int32)
  refine g_lload_n 0 dX4_pack_34 rfl ?_
  exact g_lret rfl dX4_pack_35

def X2_takeInk_L2 (x0 : Nat) (x1 : Nat) (x2 : Int32) (k49 : Mem → Option (Mem × Unit)) : Nat → Mem → Int32 → Option (Mem × Unit)
  | 0, _, _ => none
  | n + 1, σ, x3 => (if (σ.1 401 x1 0) ≤ x3 then k49 σ else ((X4_cell σ x1 x3).bind fun q1 => if q1.2 < 0 then (X2_takeInk_L2 x0 x1 x2 k49 n q1.1 ((x3 + (1 : Int32)))) else (if (6 : Int32) ≤ q1.2 then (X2_takeInk_L2 x0 x1 x2 k49 n q1.1 ((x3 + (1 : Int32)))) else (ck q1.2 6 <| ck q1.2 6 <| X2_takeInk_L2 x0 x1 x2 k49 n ((uI q1.1 202 x0 q1.2.toNatClampNeg ((q1.1.1 202 x0 q1.2.toNatClampNeg) + x2))) ((x3 + (1 : Int32)))))))
def X2_takeInk (σ : Mem) (a0 : Nat) (a1 : Nat) (a2 : Int32) : Option (Mem × Unit) := if a0 < 4 then (if a1 < 11 then (X2_takeInk_L2 a0 a1 a2 (fun (s6 : Mem) => (some (s6, ()))) FU σ (0 : Int32)) else none) else none
set_option maxRecDepth 100000 in
set_option maxHeartbeats 4000000 in
theorem t_X2_takeInk_L2 (X : GX) (x0 : Nat) (x1 : Nat) (x2 : Int32) (hx0 : x0 < 4) (hx1 : x1 < 11) (k49 : Mem → Option (Mem × Unit)) (hk49 : ∀ (σ : Mem), GS (KM enV X) X mX2_takeInk σ 49 [] [] (k49 σ)) : ∀ (n : Nat) (σ : Mem) (x3 : Int32), GS (KM enV X) X mX2_takeInk σ 2 [(0, .ref (xad X (69 + 4 * x0))), (1, .ref (xad X (4 + 2 * x1))), (2, .int x2), (3, .int x3)] [] (X2_takeInk_L2 x0 x1 x2 k49 n σ x3) := by
  intro n
  induction n with
  | zero => intros; exact g_none
  | succ n ih =>
    intro σ x3
    rw [X2_takeInk_L2]
    refine g_iload_n 3 dX2_takeInk_2 rfl ?_
    refine g_aload_n 1 dX2_takeInk_3 rfl ?_
    refine gf_X4_1 hx1 fl_X2_92 dX2_takeInk_4 ?_
    refine g_icmp_ge 49 dX2_takeInk_7 rfl (fun _ => ?_) (fun _ => ?_)
    · refine g_sub [] rfl ?_
      exact hk49 σ
    · refine g_aload_n 1 dX2_takeInk_10 rfl ?_
      refine g_iload_n 3 dX2_takeInk_11 rfl ?_
      refine g_callVI (c_X4_cell σ x1 x3) okX4_cell ⟨by decide, by decide⟩ ml_X2_95 (sh_X4 hx1) (no_X4 hx1) rfl rfl [.int x3] rfl rfl rfl (Nat.le_of_ble_eq_true rfl) dX2_takeInk_12 (fun q1 => ?_)
      refine g_istore [(4, .int (q1.2)), (0, .ref (xad X (69 + 4 * x0))), (1, .ref (xad X (4 + 2 * x1))), (2, .int x2), (3, .int x3)] dX2_takeInk_15 (by decide) rfl ?_
      refine g_iload 0 dX2_takeInk_17 rfl ?_
      refine g_if_lt 43 dX2_takeInk_19 rfl (fun _ => ?_) (fun _ => ?_)
      · refine g_iinc 4 [(3, .int ((x3 + (1 : Int32)))), (4, .int (q1.2)), (0, .ref (xad X (69 + 4 * x0))), (1, .ref (xad X (4 + 2 * x1))), (2, .int x2)] dX2_takeInk_43 rfl (v := x3 + (1 : Int32)) rfl (by decide) rfl ?_
        refine g_goto 2 dX2_takeInk_46 rfl ?_
        refine g_sub [2, 3, 4, 0] rfl ?_
        exact ih q1.1 ((x3 + (1 : Int32)))
      · refine g_iload 0 dX2_takeInk_22 rfl ?_
        refine g_aload_n 1 dX2_takeInk_24 rfl ?_
        refine gf_X2_2 hx0 fl_X2_21 dX2_takeInk_25 ?_
        refine g_alen (v := (6 : Int32)) (sh_pinks hx0) (no_pinks hx0) (by decide) rfl dX2_takeInk_28 ?_
        refine g_icmp_ge 43 dX2_takeInk_29 rfl (fun _ => ?_) (fun _ => ?_)
        · refine g_iinc 4 [(3, .int ((x3 + (1 : Int32)))), (4, .int (q1.2)), (0, .ref (xad X (69 + 4 * x0))), (1, .ref (xad X (4 + 2 * x1))), (2, .int x2)] dX2_takeInk_43 rfl (v := x3 + (1 : Int32)) rfl (by decide) rfl ?_
          refine g_goto 2 dX2_takeInk_46 rfl ?_
          refine g_sub [2, 3, 4, 0] rfl ?_
          exact ih q1.1 ((x3 + (1 : Int32)))
        · refine g_aload_n 1 dX2_takeInk_32 rfl ?_
          refine gf_X2_2 hx0 fl_X2_21 dX2_takeInk_33 ?_
          refine g_iload 0 dX2_takeInk_36 rfl ?_
          refine g_dup2 dX2_takeInk_38 rfl rfl ?_
          refine g_iald (sh_pinks hx0) (no_pinks hx0) dX2_takeInk_39 (fun _ => ?_)
          refine g_iload_n 3 dX2_takeInk_40 rfl ?_
          refine g_iadd dX2_takeInk_41 ?_
          refine g_iast (sh_pinks hx0) (no_pinks hx0) dX2_takeInk_42 (fun _ => ?_)
          refine g_iinc 4 [(3, .int ((x3 + (1 : Int32)))), (4, .int (q1.2)), (0, .ref (xad X (69 + 4 * x0))), (1, .ref (xad X (4 + 2 * x1))), (2, .int x2)] dX2_takeInk_43 rfl (v := x3 + (1 : Int32)) rfl (by decide) rfl ?_
          refine g_goto 2 dX2_takeInk_46 rfl ?_
          refine g_sub [2, 3, 4, 0] rfl ?_
          exact ih ((uI q1.1 202 x0 q1.2.toNatClampNeg ((q1.1.1 202 x0 q1.2.toNatClampNeg) + x2))) ((x3 + (1 : Int32)))

set_option maxRecDepth 100000 in
set_option maxHeartbeats 4000000 in
theorem c_X2_takeInk (σ : Mem) (a0 : Nat) (a1 : Nat) (a2 : Int32) : CT yX2_takeInk mX2_takeInk enV (fun ad => [.ref (ad (69 + 4 * a0)), .ref (ad (4 + 2 * a1)), .int a2]) σ (X2_takeInk σ a0 a1 a2) := by
  refine CT.of (by decide) rfl (fun _ => Nat.le_of_ble_eq_true rfl) (fun X => ?_)
  show GS (KM enV X) X mX2_takeInk σ 0 [(0, .ref (xad X (69 + 4 * a0))), (1, .ref (xad X (4 + 2 * a1))), (2, .int a2)] [] _
  unfold X2_takeInk
  refine g_guard (fun ha0 => ?_)
  refine g_guard (fun ha1 => ?_)
  refine g_iconst (0 : Int32) dX2_takeInk_0 (by decide) ?_
  refine g_istore_n [(3, .int ((0 : Int32))), (0, .ref (xad X (69 + 4 * a0))), (1, .ref (xad X (4 + 2 * a1))), (2, .int a2)] dX2_takeInk_1 (by decide) rfl ?_
  refine g_sub [1, 2, 3, 0] rfl ?_
  refine t_X2_takeInk_L2 X a0 a1 a2 ha0 ha1 _ (fun s6 => ?_) FU σ (0 : Int32)
  exact g_vret rfl dX2_takeInk_49

def X2_addDeed (σ : Mem) (a0 : Nat) (a1 : Nat) : Option (Mem × Unit) := if a0 < 4 then (if a1 < 11 then (if (40 : Int32) ≤ (σ.1 204 a0 0) then (some (σ, ())) else ((X4_pack σ a1).bind fun q1 => ck (σ.1 204 a0 0) 40 <| (X2_takeInk ((uI ((uJ q1.1 201 a0 (σ.1 204 a0 0).toNatClampNeg q1.2)) 204 a0 0 (((((uJ q1.1 201 a0 (σ.1 204 a0 0).toNatClampNeg q1.2)).1 204 a0 0) + (1 : Int32))))) a0 a1 (1 : Int32)).bind fun q2 => some (q2.1, ()))) else none) else none
set_option maxRecDepth 100000 in
set_option maxHeartbeats 4000000 in
theorem c_X2_addDeed (σ : Mem) (a0 : Nat) (a1 : Nat) : CT yX2_addDeed mX2_addDeed enV (fun ad => [.ref (ad (69 + 4 * a0)), .ref (ad (4 + 2 * a1))]) σ (X2_addDeed σ a0 a1) := by
  refine CT.of (by decide) rfl (fun _ => Nat.le_of_ble_eq_true rfl) (fun X => ?_)
  show GS (KM enV X) X mX2_addDeed σ 0 [(0, .ref (xad X (69 + 4 * a0))), (1, .ref (xad X (4 + 2 * a1)))] [] _
  unfold X2_addDeed
  refine g_guard (fun ha0 => ?_)
  refine g_guard (fun ha1 => ?_)
  refine g_aload_n 0 dX2_addDeed_0 rfl ?_
  refine gf_X2_4 ha0 fl_X2_29 dX2_addDeed_1 ?_
  refine g_aload_n 0 dX2_addDeed_4 rfl ?_
  refine gf_X2_1 ha0 fl_X2_17 dX2_addDeed_5 ?_
  refine g_alen (v := (40 : Int32)) (sh_pdeeds ha0) (no_pdeeds ha0) (by decide) rfl dX2_addDeed_8 ?_
  refine g_icmp_ge 41 dX2_addDeed_9 rfl (fun _ => ?_) (fun _ => ?_)
  · exact g_vret rfl dX2_addDeed_41
  · refine g_aload_n 0 dX2_addDeed_12 rfl ?_
    refine gf_X2_1 ha0 fl_X2_17 dX2_addDeed_13 ?_
    refine g_aload_n 0 dX2_addDeed_16 rfl ?_
    refine gf_X2_4 ha0 fl_X2_29 dX2_addDeed_17 ?_
    refine g_aload_n 1 dX2_addDeed_20 rfl ?_
    refine g_callVJ (c_X4_pack σ a1) okX4_pack ⟨by decide, by decide⟩ ml_X2_106 (sh_X4 ha1) (no_X4 ha1) rfl rfl [] rfl rfl rfl (Nat.le_of_ble_eq_true rfl) dX2_addDeed_21 (fun q1 => ?_)
    refine g_last (sh_pdeeds ha0) (no_pdeeds ha0) dX2_addDeed_24 (fun _ => ?_)
    refine g_aload_n 0 dX2_addDeed_25 rfl ?_
    refine g_dup dX2_addDeed_26 rfl ?_
    refine gf_X2_4 ha0 fl_X2_29 dX2_addDeed_27 ?_
    refine g_iconst (1 : Int32) dX2_addDeed_30 (by decide) ?_
    refine g_iadd dX2_addDeed_31 ?_
    refine pf_X2_4 ha0 fl_X2_29 dX2_addDeed_32 ?_
    refine g_aload_n 0 dX2_addDeed_35 rfl ?_
    refine g_aload_n 1 dX2_addDeed_36 rfl ?_
    refine g_iconst (1 : Int32) dX2_addDeed_37 (by decide) ?_
    refine g_callVV (c_X2_takeInk ((uI ((uJ q1.1 201 a0 (σ.1 204 a0 0).toNatClampNeg q1.2)) 204 a0 0 (((((uJ q1.1 201 a0 (σ.1 204 a0 0).toNatClampNeg q1.2)).1 204 a0 0) + (1 : Int32))))) a0 a1 (1 : Int32)) okX2_takeInk ⟨by decide, by decide⟩ ml_X2_110 (sh_X2 ha0) (no_X2 ha0) rfl rfl [.ref (xad X (4 + 2 * a1)), .int ((1 : Int32))] rfl rfl rfl (Nat.le_of_ble_eq_true rfl) dX2_addDeed_38 (fun q2 => ?_)
    exact g_vret rfl dX2_addDeed_41

def X7_signsIn_L4 (k26 : Mem → Int32 → Option (Mem × Int32)) : Nat → Mem → Int32 → Int64 → Option (Mem × Int32)
  | 0, _, _, _ => none
  | n + 1, σ, x2, x3 => (if (lg_cmp x3 (0 : Int64)) = 0 then k26 σ x2 else (if (16 : Int32) ≤ x2 then k26 σ x2 else (lt_ ((x3 >>> ((3 : Int32).toInt64 &&& 63))) fun (v2 : Int64) => X7_signsIn_L4 k26 n σ ((x2 + (1 : Int32))) v2)))
def X7_signsIn (σ : Mem) (a0 : Int64) : Option (Mem × Int32) := (X7_signsIn_L4 (fun (s4 : Mem) (y2_3 : Int32) => (some (s4, y2_3))) FU σ (0 : Int32) a0)
set_option maxRecDepth 100000 in
set_option maxHeartbeats 4000000 in
theorem t_X7_signsIn_L4 (X : GX) (k26 : Mem → Int32 → Option (Mem × Int32)) (hk26 : ∀ (σ : Mem) (y2 : Int32), GS (KM enI X) X mX7_signsIn σ 26 [(2, .int y2)] [] (k26 σ y2)) : ∀ (n : Nat) (σ : Mem) (x2 : Int32) (x3 : Int64), GS (KM enI X) X mX7_signsIn σ 4 [(2, .int x2), (3, .long x3)] [] (X7_signsIn_L4 k26 n σ x2 x3) := by
  intro n
  induction n with
  | zero => intros; exact g_none
  | succ n ih =>
    intro σ x2 x3
    rw [X7_signsIn_L4]
    refine g_lload_n 1 dX7_signsIn_4 rfl ?_
    refine g_lconst (0 : Int64) dX7_signsIn_5 (by decide) ?_
    refine g_lcmp dX7_signsIn_6 ?_
    refine g_if_eq 26 dX7_signsIn_7 rfl (fun _ => ?_) (fun _ => ?_)
    · refine g_sub [0] rfl ?_
      exact hk26 σ x2
    · refine g_iload_n 0 dX7_signsIn_10 rfl ?_
      refine g_bipush (16 : Int32) dX7_signsIn_11 (by decide) ?_
      refine g_icmp_ge 26 dX7_signsIn_13 rfl (fun _ => ?_) (fun _ => ?_)
      · refine g_sub [0] rfl ?_
        exact hk26 σ x2
      · refine g_iinc 0 [(2, .int ((x2 + (1 : Int32)))), (3, .long x3)] dX7_signsIn_16 rfl (v := x2 + (1 : Int32)) rfl (by decide) rfl ?_
        refine g_lload_n 1 dX7_signsIn_19 rfl ?_
        refine g_iconst (3 : Int32) dX7_signsIn_20 (by decide) ?_
        refine g_lshr dX7_signsIn_21 ?_
        refine g_topl (fun v2 => ?_)
        refine g_lstore_n [(3, .long v2), (2, .int ((x2 + (1 : Int32))))] dX7_signsIn_22 (by decide) rfl ?_
        refine g_goto 4 dX7_signsIn_23 rfl ?_
        refine g_sub [1, 0] rfl ?_
        exact ih σ ((x2 + (1 : Int32))) v2

set_option maxRecDepth 100000 in
set_option maxHeartbeats 4000000 in
theorem c_X7_signsIn (σ : Mem) (a0 : Int64) : CT yX7_signsIn mX7_signsIn enI (fun ad => [.long a0]) σ (X7_signsIn σ a0) := by
  refine CT.of (by decide) rfl (fun _ => Nat.le_of_ble_eq_true rfl) (fun X => ?_)
  show GS (KM enI X) X mX7_signsIn σ 0 [(0, .long a0)] [] _
  unfold X7_signsIn
  refine g_iconst (0 : Int32) dX7_signsIn_0 (by decide) ?_
  refine g_istore_n [(2, .int ((0 : Int32))), (0, .long a0)] dX7_signsIn_1 (by decide) rfl ?_
  refine g_lload_n 1 dX7_signsIn_2 rfl ?_
  refine g_lstore_n [(3, .long a0), (2, .int ((0 : Int32))), (0, .long a0)] dX7_signsIn_3 (by decide) rfl ?_
  refine g_sub [1, 0] rfl ?_
  refine t_X7_signsIn_L4 X _ (fun s4 y2_3 => ?_) FU σ (0 : Int32) a0
  refine g_iload_n 0 dX7_signsIn_26 rfl ?_
  exact g_iret rfl dX7_signsIn_27

def X4_renew (σ : Mem) (a0 : Nat) (a1 : Int32) (a2 : Int32) : Option (Mem × Unit) := if a0 < 11 then ((J7_fill_53178 ((uI σ 401 a0 0 ((if (Int32.ofNat (rl a0)) < (if a1 < (0 : Int32) then (0 : Int32) else a1) then (Int32.ofNat (rl a0)) else (if a1 < (0 : Int32) then (0 : Int32) else a1))))) (5 + 2 * a0) a2).bind fun q1 => some (q1.1, ())) else none
set_option maxRecDepth 100000 in
set_option maxHeartbeats 4000000 in
theorem c_X4_renew (σ : Mem) (a0 : Nat) (a1 : Int32) (a2 : Int32) : CT yX4_renew mX4_renew enV (fun ad => [.ref (ad (4 + 2 * a0)), .int a1, .int a2]) σ (X4_renew σ a0 a1 a2) := by
  refine CT.of (by decide) rfl (fun _ => Nat.le_of_ble_eq_true rfl) (fun X => ?_)
  show GS (KM enV X) X mX4_renew σ 0 [(0, .ref (xad X (4 + 2 * a0))), (1, .int a1), (2, .int a2)] [] _
  unfold X4_renew
  refine g_guard (fun ha0 => ?_)
  refine g_aload_n 0 dX4_renew_0 rfl ?_
  refine g_iload_n 1 dX4_renew_1 rfl ?_
  refine g_iconst (0 : Int32) dX4_renew_2 (by decide) ?_
  refine g_mmax jl_X4_15 jm_max_s jm_i jm_max_c (by decide) (Nat.le_of_ble_eq_true rfl) dX4_renew_3 ?_
  refine g_aload_n 0 dX4_renew_6 rfl ?_
  refine gf_X4_0 ha0 fl_X4_21 dX4_renew_7 ?_
  refine g_alen (v := (Int32.ofNat (rl a0))) (sh_cells ha0) (no_cells ha0) (by decide) rfl dX4_renew_10 ?_
  refine g_mmin jl_X4_29 jm_min_s jm_i jm_min_c (by decide) (Nat.le_of_ble_eq_true rfl) dX4_renew_11 ?_
  refine pf_X4_1 ha0 fl_X4_9 dX4_renew_14 ?_
  refine g_aload_n 0 dX4_renew_17 rfl ?_
  refine gf_X4_0 ha0 fl_X4_21 dX4_renew_18 ?_
  refine g_iload_n 2 dX4_renew_21 rfl ?_
  refine g_callSV (c_J7_fill_53178 ((uI σ 401 a0 0 ((if (Int32.ofNat (rl a0)) < (if a1 < (0 : Int32) then (0 : Int32) else a1) then (Int32.ofNat (rl a0)) else (if a1 < (0 : Int32) then (0 : Int32) else a1))))) (5 + 2 * a0) a2) okJ7_fill_53178 ⟨by decide, by decide⟩ ml_X4_32 rfl rfl (Nat.le_of_ble_eq_true rfl) dX4_renew_22 (fun q1 => ?_)
  exact g_vret rfl dX4_renew_25

def X4_add (σ : Mem) (a0 : Nat) (a1 : Int32) : Option (Mem × Unit) := if a0 < 11 then (if (σ.1 401 a0 0) < 0 then (some (σ, ())) else (if (Int32.ofNat (rl a0)) ≤ (σ.1 401 a0 0) then (some (σ, ())) else (ck (σ.1 401 a0 0) (rl a0) <| some ((uI ((uI σ 400 a0 (σ.1 401 a0 0).toNatClampNeg a1)) 401 a0 0 (((((uI σ 400 a0 (σ.1 401 a0 0).toNatClampNeg a1)).1 401 a0 0) + (1 : Int32)))), ())))) else none
set_option maxRecDepth 100000 in
set_option maxHeartbeats 4000000 in
theorem c_X4_add (σ : Mem) (a0 : Nat) (a1 : Int32) : CT yX4_add mX4_add enV (fun ad => [.ref (ad (4 + 2 * a0)), .int a1]) σ (X4_add σ a0 a1) := by
  refine CT.of (by decide) rfl (fun _ => Nat.le_of_ble_eq_true rfl) (fun X => ?_)
  show GS (KM enV X) X mX4_add σ 0 [(0, .ref (xad X (4 + 2 * a0))), (1, .int a1)] [] _
  unfold X4_add
  refine g_guard (fun ha0 => ?_)
  refine g_aload_n 0 dX4_add_0 rfl ?_
  refine gf_X4_1 ha0 fl_X4_9 dX4_add_1 ?_
  refine g_if_lt 39 dX4_add_4 rfl (fun _ => ?_) (fun _ => ?_)
  · exact g_vret rfl dX4_add_39
  · refine g_aload_n 0 dX4_add_7 rfl ?_
    refine gf_X4_1 ha0 fl_X4_9 dX4_add_8 ?_
    refine g_aload_n 0 dX4_add_11 rfl ?_
    refine gf_X4_0 ha0 fl_X4_21 dX4_add_12 ?_
    refine g_alen (v := (Int32.ofNat (rl a0))) (sh_cells ha0) (no_cells ha0) (by decide) rfl dX4_add_15 ?_
    refine g_icmp_ge 39 dX4_add_16 rfl (fun _ => ?_) (fun _ => ?_)
    · exact g_vret rfl dX4_add_39
    · refine g_aload_n 0 dX4_add_19 rfl ?_
      refine gf_X4_0 ha0 fl_X4_21 dX4_add_20 ?_
      refine g_aload_n 0 dX4_add_23 rfl ?_
      refine gf_X4_1 ha0 fl_X4_9 dX4_add_24 ?_
      refine g_iload_n 1 dX4_add_27 rfl ?_
      refine g_iast (sh_cells ha0) (no_cells ha0) dX4_add_28 (fun _ => ?_)
      refine g_aload_n 0 dX4_add_29 rfl ?_
      refine g_dup dX4_add_30 rfl ?_
      refine gf_X4_1 ha0 fl_X4_9 dX4_add_31 ?_
      refine g_iconst (1 : Int32) dX4_add_34 (by decide) ?_
      refine g_iadd dX4_add_35 ?_
      refine pf_X4_1 ha0 fl_X4_9 dX4_add_36 ?_
      exact g_vret rfl dX4_add_39

def X4_unpack_L16 (x0 : Nat) (x1 : Int64) (k44 : Mem → Option (Mem × Unit)) : Nat → Mem → Int32 → Option (Mem × Unit)
  | 0, _, _ => none
  | n + 1, σ, x4 => (if x4 < 0 then k44 σ else ((X4_add σ x0 ((((x1 >>> (((3 : Int32) * x4).toInt64 &&& 63)) &&& (7 : Int64)).toInt32 - (1 : Int32)))).bind fun q4 => X4_unpack_L16 x0 x1 k44 n q4.1 ((x4 + (-1 : Int32)))))
def X4_unpack (σ : Mem) (a0 : Nat) (a1 : Int64) : Option (Mem × Unit) := if a0 < 11 then ((X7_signsIn σ a1).bind fun q1 => (X4_renew q1.1 a0 (0 : Int32) (0 : Int32)).bind fun q2 => lt_ ((q1.2 - (1 : Int32))) fun (v3 : Int32) => X4_unpack_L16 a0 a1 (fun (s7 : Mem) => (some (s7, ()))) FU q2.1 v3) else none
set_option maxRecDepth 100000 in
set_option maxHeartbeats 4000000 in
theorem t_X4_unpack_L16 (X : GX) (x0 : Nat) (x1 : Int64) (hx0 : x0 < 11) (k44 : Mem → Option (Mem × Unit)) (hk44 : ∀ (σ : Mem), GS (KM enV X) X mX4_unpack σ 44 [] [] (k44 σ)) : ∀ (n : Nat) (σ : Mem) (x4 : Int32), GS (KM enV X) X mX4_unpack σ 16 [(0, .ref (xad X (4 + 2 * x0))), (1, .long x1), (4, .int x4)] [] (X4_unpack_L16 x0 x1 k44 n σ x4) := by
  intro n
  induction n with
  | zero => intros; exact g_none
  | succ n ih =>
    intro σ x4
    rw [X4_unpack_L16]
    refine g_iload 2 dX4_unpack_16 rfl ?_
    refine g_if_lt 44 dX4_unpack_18 rfl (fun _ => ?_) (fun _ => ?_)
    · refine g_sub [] rfl ?_
      exact hk44 σ
    · refine g_aload_n 0 dX4_unpack_21 rfl ?_
      refine g_lload_n 1 dX4_unpack_22 rfl ?_
      refine g_iconst (3 : Int32) dX4_unpack_23 (by decide) ?_
      refine g_iload 2 dX4_unpack_24 rfl ?_
      refine g_imul dX4_unpack_26 ?_
      refine g_lshr dX4_unpack_27 ?_
      refine g_ldc2 (7 : Int64) dX4_unpack_28 kl_X4_58 ?_
      refine g_land dX4_unpack_31 ?_
      refine g_l2i dX4_unpack_32 ?_
      refine g_iconst (1 : Int32) dX4_unpack_33 (by decide) ?_
      refine g_isub dX4_unpack_34 ?_
      refine g_callVV (c_X4_add σ x0 ((((x1 >>> (((3 : Int32) * x4).toInt64 &&& 63)) &&& (7 : Int64)).toInt32 - (1 : Int32)))) okX4_add ⟨by decide, by decide⟩ ml_X4_38 (sh_X4 hx0) (no_X4 hx0) rfl rfl [.int ((((x1 >>> (((3 : Int32) * x4).toInt64 &&& 63)) &&& (7 : Int64)).toInt32 - (1 : Int32)))] rfl rfl rfl (Nat.le_of_ble_eq_true rfl) dX4_unpack_35 (fun q4 => ?_)
      refine g_iinc 2 [(4, .int ((x4 + (-1 : Int32)))), (0, .ref (xad X (4 + 2 * x0))), (1, .long x1)] dX4_unpack_38 rfl (v := x4 + (-1 : Int32)) rfl (by decide) rfl ?_
      refine g_goto 16 dX4_unpack_41 rfl ?_
      refine g_sub [1, 2, 0] rfl ?_
      exact ih q4.1 ((x4 + (-1 : Int32)))

set_option maxRecDepth 100000 in
set_option maxHeartbeats 4000000 in
theorem c_X4_unpack (σ : Mem) (a0 : Nat) (a1 : Int64) : CT yX4_unpack mX4_unpack enV (fun ad => [.ref (ad (4 + 2 * a0)), .long a1]) σ (X4_unpack σ a0 a1) := by
  refine CT.of (by decide) rfl (fun _ => Nat.le_of_ble_eq_true rfl) (fun X => ?_)
  show GS (KM enV X) X mX4_unpack σ 0 [(0, .ref (xad X (4 + 2 * a0))), (1, .long a1)] [] _
  unfold X4_unpack
  refine g_guard (fun ha0 => ?_)
  refine g_lload_n 1 dX4_unpack_0 rfl ?_
  refine g_callSI (c_X7_signsIn σ a1) okX7_signsIn ⟨by decide, by decide⟩ ml_X4_50 rfl rfl (Nat.le_of_ble_eq_true rfl) dX4_unpack_1 (fun q1 => ?_)
  refine g_istore_n [(3, .int (q1.2)), (0, .ref (xad X (4 + 2 * a0))), (1, .long a1)] dX4_unpack_4 (by decide) rfl ?_
  refine g_aload_n 1 dX4_unpack_5 rfl ?_
  refine g_iconst (0 : Int32) dX4_unpack_6 (by decide) ?_
  refine g_iconst (0 : Int32) dX4_unpack_7 (by decide) ?_
  refine g_callVV (c_X4_renew q1.1 a0 (0 : Int32) (0 : Int32)) okX4_renew ⟨by decide, by decide⟩ ml_X4_54 (sh_X4 ha0) (no_X4 ha0) rfl rfl [.int ((0 : Int32)), .int ((0 : Int32))] rfl rfl rfl (Nat.le_of_ble_eq_true rfl) dX4_unpack_8 (fun q2 => ?_)
  refine g_iload_n 0 dX4_unpack_11 rfl ?_
  refine g_iconst (1 : Int32) dX4_unpack_12 (by decide) ?_
  refine g_isub dX4_unpack_13 ?_
  refine g_topi (fun v3 => ?_)
  refine g_istore [(4, .int v3), (3, .int (q1.2)), (0, .ref (xad X (4 + 2 * a0))), (1, .long a1)] dX4_unpack_14 (by decide) rfl ?_
  refine g_sub [2, 3, 0] rfl ?_
  refine t_X4_unpack_L16 X a0 a1 ha0 _ (fun s7 => ?_) FU q2.1 v3
  exact g_vret rfl dX4_unpack_44

def X2_dropDeed (σ : Mem) (a0 : Nat) (a1 : Nat) : Option (Mem × Unit) := if a0 < 4 then (if a1 < 11 then (if (σ.1 204 a0 0) ≤ 0 then (some (σ, ())) else ((X2_deed σ a0 (((σ.1 204 a0 0) - (1 : Int32)))).bind fun q1 => (X4_unpack q1.1 a1 q1.2).bind fun q2 => (X2_takeInk q2.1 a0 a1 (-1 : Int32)).bind fun q3 => some ((uI q3.1 204 a0 0 (((q3.1.1 204 a0 0) - (1 : Int32)))), ()))) else none) else none
set_option maxRecDepth 100000 in
set_option maxHeartbeats 4000000 in
theorem c_X2_dropDeed (σ : Mem) (a0 : Nat) (a1 : Nat) : CT yX2_dropDeed mX2_dropDeed enV (fun ad => [.ref (ad (69 + 4 * a0)), .ref (ad (4 + 2 * a1))]) σ (X2_dropDeed σ a0 a1) := by
  refine CT.of (by decide) rfl (fun _ => Nat.le_of_ble_eq_true rfl) (fun X => ?_)
  show GS (KM enV X) X mX2_dropDeed σ 0 [(0, .ref (xad X (69 + 4 * a0))), (1, .ref (xad X (4 + 2 * a1)))] [] _
  unfold X2_dropDeed
  refine g_guard (fun ha0 => ?_)
  refine g_guard (fun ha1 => ?_)
  refine g_aload_n 0 dX2_dropDeed_0 rfl ?_
  refine gf_X2_4 ha0 fl_X2_29 dX2_dropDeed_1 ?_
  refine g_if_le 37 dX2_dropDeed_4 rfl (fun _ => ?_) (fun _ => ?_)
  · exact g_vret rfl dX2_dropDeed_37
  · refine g_aload_n 1 dX2_dropDeed_7 rfl ?_
    refine g_aload_n 0 dX2_dropDeed_8 rfl ?_
    refine g_aload_n 0 dX2_dropDeed_9 rfl ?_
    refine gf_X2_4 ha0 fl_X2_29 dX2_dropDeed_10 ?_
    refine g_iconst (1 : Int32) dX2_dropDeed_13 (by decide) ?_
    refine g_isub dX2_dropDeed_14 ?_
    refine g_callVJ (c_X2_deed σ a0 (((σ.1 204 a0 0) - (1 : Int32)))) okX2_deed ⟨by decide, by decide⟩ ml_X2_114 (sh_X2 ha0) (no_X2 ha0) rfl rfl [.int (((σ.1 204 a0 0) - (1 : Int32)))] rfl rfl rfl (Nat.le_of_ble_eq_true rfl) dX2_dropDeed_15 (fun q1 => ?_)
    refine g_callVV (c_X4_unpack q1.1 a1 q1.2) okX4_unpack ⟨by decide, by decide⟩ ml_X2_118 (sh_X4 ha1) (no_X4 ha1) rfl rfl [.long (q1.2)] rfl rfl rfl (Nat.le_of_ble_eq_true rfl) dX2_dropDeed_18 (fun q2 => ?_)
    refine g_aload_n 0 dX2_dropDeed_21 rfl ?_
    refine g_aload_n 1 dX2_dropDeed_22 rfl ?_
    refine g_iconst (-1 : Int32) dX2_dropDeed_23 (by decide) ?_
    refine g_callVV (c_X2_takeInk q2.1 a0 a1 (-1 : Int32)) okX2_takeInk ⟨by decide, by decide⟩ ml_X2_110 (sh_X2 ha0) (no_X2 ha0) rfl rfl [.ref (xad X (4 + 2 * a1)), .int ((-1 : Int32))] rfl rfl rfl (Nat.le_of_ble_eq_true rfl) dX2_dropDeed_24 (fun q3 => ?_)
    refine g_aload_n 0 dX2_dropDeed_27 rfl ?_
    refine g_dup dX2_dropDeed_28 rfl ?_
    refine gf_X2_4 ha0 fl_X2_29 dX2_dropDeed_29 ?_
    refine g_iconst (1 : Int32) dX2_dropDeed_32 (by decide) ?_
    refine g_isub dX2_dropDeed_33 ?_
    refine pf_X2_4 ha0 fl_X2_29 dX2_dropDeed_34 ?_
    exact g_vret rfl dX2_dropDeed_37

