def X6_earliestOf_J48 (σ : Mem) (x2 : Int64) (x4 : Int32) (x5 : Int32) (x6 : Int32) (x7 : Int32) (z0 : Int32) (kb : Mem → Int64 → Int32 → Int32 → Int32 → Option (Mem × Int64)) (k100 : Mem → Int64 → Int32 → Int32 → Option (Mem × Int64)) : Option (Mem × Int64) := (if z0 = (-9 : Int32) then (kb σ x2 x4 x5 ((x7 + (1 : Int32)))) else ((X6_wayOf σ x6 x7 z0).bind fun q3 => ck q3.2 714 <| if (lg_cmp (q3.1.2.1 602 0 q3.2.toNatClampNeg) (0 : Int64)) ≤ 0 then (kb q3.1 x2 x4 x5 ((x7 + (1 : Int32)))) else ((X7_packed q3.1 x2 x7).bind fun q5 => k100 q5.1 q5.2 x7 z0)))
def X6_earliestOf_L20 (x6 : Int32) (k100 : Mem → Int64 → Int32 → Int32 → Option (Mem × Int64)) : Nat → Mem → Int64 → Int32 → Int32 → Int32 → Option (Mem × Int64)
  | 0, _, _, _, _, _ => none
  | n + 1, σ, x2, x4, x5, x7 => (if (6 : Int32) ≤ x7 then k100 σ x2 x4 x5 else (if x4 = (-9 : Int32) then (X6_earliestOf_J48 σ x2 x4 x5 x6 x7 (0 : Int32) (X6_earliestOf_L20 x6 k100 n) k100) else ((X6_placeAfter σ x4 x7 x5).bind fun q1 => X6_earliestOf_J48 q1.1 x2 x4 x5 x6 x7 q1.2 (X6_earliestOf_L20 x6 k100 n) k100)))
def X6_earliestOf_L12 (k106 : Mem → Int64 → Option (Mem × Int64)) : Nat → Mem → Int64 → Int32 → Int32 → Int32 → Option (Mem × Int64)
  | 0, _, _, _, _, _ => none
  | n + 1, σ, x2, x4, x5, x6 => (if x6 ≤ 0 then k106 σ x2 else (X6_earliestOf_L20 x6 (fun (s7 : Mem) (y2_6 : Int64) (y4_6 : Int32) (y5_6 : Int32) => (X6_earliestOf_L12 k106 n s7 y2_6 y4_6 y5_6 ((x6 + (-1 : Int32))))) FU σ x2 x4 x5 (0 : Int32)))
def X6_earliestOf (σ : Mem) (a1 : Int32) : Option (Mem × Int64) := (X6_earliestOf_L12 (fun (s10 : Mem) (y2_9 : Int64) => (some (s10, y2_9))) FU σ (0 : Int64) (-9 : Int32) (0 : Int32) a1)
set_option maxRecDepth 100000 in
set_option maxHeartbeats 4000000 in
theorem t_X6_earliestOf_J48 (X : GX) (σ : Mem) (x2 : Int64) (x4 : Int32) (x5 : Int32) (x6 : Int32) (x7 : Int32) (z0 : Int32) (kb : Mem → Int64 → Int32 → Int32 → Int32 → Option (Mem × Int64)) (k100 : Mem → Int64 → Int32 → Int32 → Option (Mem × Int64)) (hkb : ∀ (σ : Mem) (y2 : Int64) (y4 : Int32) (y5 : Int32) (y7 : Int32), GS (KM enJ X) X mX6_earliestOf σ 20 [(0, .ref (xad X (85))), (2, .long y2), (4, .int y4), (5, .int y5), (6, .int x6), (7, .int y7)] [] (kb σ y2 y4 y5 y7)) (hk100 : ∀ (σ : Mem) (y2 : Int64) (y4 : Int32) (y5 : Int32), GS (KM enJ X) X mX6_earliestOf σ 100 [(0, .ref (xad X (85))), (2, .long y2), (4, .int y4), (5, .int y5), (6, .int x6)] [] (k100 σ y2 y4 y5)) : GS (KM enJ X) X mX6_earliestOf σ 48 [(0, .ref (xad X (85))), (2, .long x2), (4, .int x4), (5, .int x5), (6, .int x6), (7, .int x7)] [.int z0] (X6_earliestOf_J48 σ x2 x4 x5 x6 x7 z0 kb k100) := by
  unfold X6_earliestOf_J48
  refine g_istore [(8, .int z0), (0, .ref (xad X (85))), (2, .long x2), (4, .int x4), (5, .int x5), (6, .int x6), (7, .int x7)] dX6_earliestOf_48 (by decide) rfl ?_
  refine g_iload 0 dX6_earliestOf_50 rfl ?_
  refine g_bipush (-9 : Int32) dX6_earliestOf_52 (by decide) ?_
  refine g_icmp_eq 94 dX6_earliestOf_54 rfl (fun _ => ?_) (fun _ => ?_)
  · refine g_iinc 6 [(7, .int ((x7 + (1 : Int32)))), (8, .int z0), (0, .ref (xad X (85))), (2, .long x2), (4, .int x4), (5, .int x5), (6, .int x6)] dX6_earliestOf_94 rfl (v := x7 + (1 : Int32)) rfl (by decide) rfl ?_
    refine g_goto 20 dX6_earliestOf_97 rfl ?_
    refine g_sub [2, 3, 4, 5, 6, 0] rfl ?_
    exact hkb σ x2 x4 x5 ((x7 + (1 : Int32)))
  · refine g_aload_n 1 dX6_earliestOf_57 rfl ?_
    refine gf_X6_2 fl_X6_19 dX6_earliestOf_58 ?_
    refine g_iload 5 dX6_earliestOf_61 rfl ?_
    refine g_iload 6 dX6_earliestOf_63 rfl ?_
    refine g_iload 0 dX6_earliestOf_65 rfl ?_
    refine g_callSI (c_X6_wayOf σ x6 x7 z0) okX6_wayOf ⟨by decide, by decide⟩ ml_X6_51 rfl rfl (Nat.le_of_ble_eq_true rfl) dX6_earliestOf_67 (fun q3 => ?_)
    refine g_lald sh_88 no_88 dX6_earliestOf_70 (fun _ => ?_)
    refine g_lconst (0 : Int64) dX6_earliestOf_71 (by decide) ?_
    refine g_lcmp dX6_earliestOf_72 ?_
    refine g_if_le 94 dX6_earliestOf_73 rfl (fun _ => ?_) (fun _ => ?_)
    · refine g_iinc 6 [(7, .int ((x7 + (1 : Int32)))), (8, .int z0), (0, .ref (xad X (85))), (2, .long x2), (4, .int x4), (5, .int x5), (6, .int x6)] dX6_earliestOf_94 rfl (v := x7 + (1 : Int32)) rfl (by decide) rfl ?_
      refine g_goto 20 dX6_earliestOf_97 rfl ?_
      refine g_sub [2, 3, 4, 5, 6, 0] rfl ?_
      exact hkb q3.1 x2 x4 x5 ((x7 + (1 : Int32)))
    · refine g_lload_n 2 dX6_earliestOf_76 rfl ?_
      refine g_iload 6 dX6_earliestOf_77 rfl ?_
      refine g_callSJ (c_X7_packed q3.1 x2 x7) okX7_packed ⟨by decide, by decide⟩ ml_X6_86 rfl rfl (Nat.le_of_ble_eq_true rfl) dX6_earliestOf_79 (fun q5 => ?_)
      refine g_lstore_n [(2, .long (q5.2)), (8, .int z0), (0, .ref (xad X (85))), (4, .int x4), (5, .int x5), (6, .int x6), (7, .int x7)] dX6_earliestOf_82 (by decide) rfl ?_
      refine g_iload 6 dX6_earliestOf_83 rfl ?_
      refine g_istore [(4, .int x7), (2, .long (q5.2)), (8, .int z0), (0, .ref (xad X (85))), (5, .int x5), (6, .int x6), (7, .int x7)] dX6_earliestOf_85 (by decide) rfl ?_
      refine g_iload 2 dX6_earliestOf_87 rfl ?_
      refine g_istore [(5, .int z0), (4, .int x7), (2, .long (q5.2)), (8, .int z0), (0, .ref (xad X (85))), (6, .int x6), (7, .int x7)] dX6_earliestOf_89 (by decide) rfl ?_
      refine g_goto 100 dX6_earliestOf_91 rfl ?_
      refine g_sub [4, 2, 1, 0, 5] rfl ?_
      exact hk100 q5.1 q5.2 x7 z0

set_option maxRecDepth 100000 in
set_option maxHeartbeats 4000000 in
theorem t_X6_earliestOf_L20 (X : GX) (x6 : Int32) (k100 : Mem → Int64 → Int32 → Int32 → Option (Mem × Int64)) (hk100 : ∀ (σ : Mem) (y2 : Int64) (y4 : Int32) (y5 : Int32), GS (KM enJ X) X mX6_earliestOf σ 100 [(0, .ref (xad X (85))), (2, .long y2), (4, .int y4), (5, .int y5), (6, .int x6)] [] (k100 σ y2 y4 y5)) : ∀ (n : Nat) (σ : Mem) (x2 : Int64) (x4 : Int32) (x5 : Int32) (x7 : Int32), GS (KM enJ X) X mX6_earliestOf σ 20 [(0, .ref (xad X (85))), (2, .long x2), (4, .int x4), (5, .int x5), (6, .int x6), (7, .int x7)] [] (X6_earliestOf_L20 x6 k100 n σ x2 x4 x5 x7) := by
  intro n
  induction n with
  | zero => intros; exact g_none
  | succ n ih =>
    intro σ x2 x4 x5 x7
    rw [X6_earliestOf_L20]
    refine g_iload 5 dX6_earliestOf_20 rfl ?_
    refine g_bipush (6 : Int32) dX6_earliestOf_22 (by decide) ?_
    refine g_icmp_ge 100 dX6_earliestOf_24 rfl (fun _ => ?_) (fun _ => ?_)
    · refine g_sub [0, 1, 2, 3, 4] rfl ?_
      exact hk100 σ x2 x4 x5
    · refine g_iload 2 dX6_earliestOf_27 rfl ?_
      refine g_bipush (-9 : Int32) dX6_earliestOf_29 (by decide) ?_
      refine g_icmp_ne 38 dX6_earliestOf_31 rfl (fun _ => ?_) (fun _ => ?_)
      · refine g_aload_n 0 dX6_earliestOf_38 rfl ?_
        refine g_iload 2 dX6_earliestOf_39 rfl ?_
        refine g_iload 5 dX6_earliestOf_41 rfl ?_
        refine g_iload 3 dX6_earliestOf_43 rfl ?_
        refine g_callVI (c_X6_placeAfter σ x4 x7 x5) okX6_placeAfter ⟨by decide, by decide⟩ ml_X6_59 sh_85 no_85 rfl rfl [.int x4, .int x7, .int x5] rfl rfl rfl (Nat.le_of_ble_eq_true rfl) dX6_earliestOf_45 (fun q1 => ?_)
        refine g_sub [0, 1, 2, 3, 4, 5] rfl ?_
        exact t_X6_earliestOf_J48 X q1.1 x2 x4 x5 x6 x7 q1.2 _ _ (fun σ y2 y4 y5 y7 => ih σ y2 y4 y5 y7) hk100
      · refine g_iconst (0 : Int32) dX6_earliestOf_34 (by decide) ?_
        refine g_goto 48 dX6_earliestOf_35 rfl ?_
        refine g_sub [0, 1, 2, 3, 4, 5] rfl ?_
        exact t_X6_earliestOf_J48 X σ x2 x4 x5 x6 x7 (0 : Int32) _ _ (fun σ y2 y4 y5 y7 => ih σ y2 y4 y5 y7) hk100

set_option maxRecDepth 100000 in
set_option maxHeartbeats 4000000 in
theorem t_X6_earliestOf_L12 (X : GX) (k106 : Mem → Int64 → Option (Mem × Int64)) (hk106 : ∀ (σ : Mem) (y2 : Int64), GS (KM enJ X) X mX6_earliestOf σ 106 [(2, .long y2)] [] (k106 σ y2)) : ∀ (n : Nat) (σ : Mem) (x2 : Int64) (x4 : Int32) (x5 : Int32) (x6 : Int32), GS (KM enJ X) X mX6_earliestOf σ 12 [(0, .ref (xad X (85))), (2, .long x2), (4, .int x4), (5, .int x5), (6, .int x6)] [] (X6_earliestOf_L12 k106 n σ x2 x4 x5 x6) := by
  intro n
  induction n with
  | zero => intros; exact g_none
  | succ n ih =>
    intro σ x2 x4 x5 x6
    rw [X6_earliestOf_L12]
    refine g_iload 4 dX6_earliestOf_12 rfl ?_
    refine g_if_le 106 dX6_earliestOf_14 rfl (fun _ => ?_) (fun _ => ?_)
    · refine g_sub [1] rfl ?_
      exact hk106 σ x2
    · refine g_iconst (0 : Int32) dX6_earliestOf_17 (by decide) ?_
      refine g_istore [(7, .int ((0 : Int32))), (0, .ref (xad X (85))), (2, .long x2), (4, .int x4), (5, .int x5), (6, .int x6)] dX6_earliestOf_18 (by decide) rfl ?_
      refine g_sub [1, 2, 3, 4, 5, 0] rfl ?_
      refine t_X6_earliestOf_L20 X x6 _ (fun s7 y2_6 y4_6 y5_6 => ?_) FU σ x2 x4 x5 (0 : Int32)
      refine g_iinc 4 [(6, .int ((x6 + (-1 : Int32)))), (0, .ref (xad X (85))), (2, .long y2_6), (4, .int y4_6), (5, .int y5_6)] dX6_earliestOf_100 rfl (v := x6 + (-1 : Int32)) rfl (by decide) rfl ?_
      refine g_goto 12 dX6_earliestOf_103 rfl ?_
      refine g_sub [1, 2, 3, 4, 0] rfl ?_
      exact ih s7 y2_6 y4_6 y5_6 ((x6 + (-1 : Int32)))

set_option maxRecDepth 100000 in
set_option maxHeartbeats 4000000 in
theorem c_X6_earliestOf (σ : Mem) (a1 : Int32) : CT yX6_earliestOf mX6_earliestOf enJ (fun ad => [.ref (ad (85)), .int a1]) σ (X6_earliestOf σ a1) := by
  refine CT.of (by decide) rfl (fun _ => Nat.le_of_ble_eq_true rfl) (fun X => ?_)
  show GS (KM enJ X) X mX6_earliestOf σ 0 [(0, .ref (xad X (85))), (1, .int a1)] [] _
  unfold X6_earliestOf
  refine g_lconst (0 : Int64) dX6_earliestOf_0 (by decide) ?_
  refine g_lstore_n [(2, .long ((0 : Int64))), (0, .ref (xad X (85))), (1, .int a1)] dX6_earliestOf_1 (by decide) rfl ?_
  refine g_bipush (-9 : Int32) dX6_earliestOf_2 (by decide) ?_
  refine g_istore [(4, .int ((-9 : Int32))), (2, .long ((0 : Int64))), (0, .ref (xad X (85))), (1, .int a1)] dX6_earliestOf_4 (by decide) rfl ?_
  refine g_iconst (0 : Int32) dX6_earliestOf_6 (by decide) ?_
  refine g_istore [(5, .int ((0 : Int32))), (4, .int ((-9 : Int32))), (2, .long ((0 : Int64))), (0, .ref (xad X (85))), (1, .int a1)] dX6_earliestOf_7 (by decide) rfl ?_
  refine g_iload_n 4 dX6_earliestOf_9 rfl ?_
  refine g_istore [(6, .int a1), (5, .int ((0 : Int32))), (4, .int ((-9 : Int32))), (2, .long ((0 : Int64))), (0, .ref (xad X (85))), (1, .int a1)] dX6_earliestOf_10 (by decide) rfl ?_
  refine g_sub [4, 3, 2, 1, 0] rfl ?_
  refine t_X6_earliestOf_L12 X _ (fun s10 y2_9 => ?_) FU σ (0 : Int64) (-9 : Int32) (0 : Int32) a1
  refine g_lload_n 0 dX6_earliestOf_106 rfl ?_
  exact g_lret rfl dX6_earliestOf_107

def X6_earliest_L9 (k37 : Mem → Option (Mem × Int64)) : Nat → Mem → Int32 → Option (Mem × Int64)
  | 0, _, _ => none
  | n + 1, σ, x3 => (if (6 : Int32) < x3 then k37 σ else ((X6_many σ x3).bind fun q2 => if (lg_cmp q2.2 (0 : Int64)) ≤ 0 then (X6_earliest_L9 k37 n q2.1 ((x3 + (1 : Int32)))) else ((X6_earliestOf q2.1 x3).bind fun q4 => some (q4.1, q4.2))))
def X6_earliest (σ : Mem) (a1 : Int64) : Option (Mem × Int64) := ((X6_aim σ a1 (6 : Int32)).bind fun q1 => X6_earliest_L9 (fun (s6 : Mem) => (some (s6, (-9 : Int64)))) FU q1.1 (0 : Int32))
set_option maxRecDepth 100000 in
set_option maxHeartbeats 4000000 in
theorem t_X6_earliest_L9 (X : GX) (k37 : Mem → Option (Mem × Int64)) (hk37 : ∀ (σ : Mem), GS (KM enJ X) X mX6_earliest σ 37 [] [] (k37 σ)) : ∀ (n : Nat) (σ : Mem) (x3 : Int32), GS (KM enJ X) X mX6_earliest σ 9 [(0, .ref (xad X (85))), (3, .int x3)] [] (X6_earliest_L9 k37 n σ x3) := by
  intro n
  induction n with
  | zero => intros; exact g_none
  | succ n ih =>
    intro σ x3
    rw [X6_earliest_L9]
    refine g_iload_n 1 dX6_earliest_9 rfl ?_
    refine g_bipush (6 : Int32) dX6_earliest_10 (by decide) ?_
    refine g_icmp_gt 37 dX6_earliest_12 rfl (fun _ => ?_) (fun _ => ?_)
    · refine g_sub [] rfl ?_
      exact hk37 σ
    · refine g_aload_n 0 dX6_earliest_15 rfl ?_
      refine g_iload_n 1 dX6_earliest_16 rfl ?_
      refine g_callVJ (c_X6_many σ x3) okX6_many ⟨by decide, by decide⟩ ml_X6_77 sh_85 no_85 rfl rfl [.int x3] rfl rfl rfl (Nat.le_of_ble_eq_true rfl) dX6_earliest_17 (fun q2 => ?_)
      refine g_lconst (0 : Int64) dX6_earliest_20 (by decide) ?_
      refine g_lcmp dX6_earliest_21 ?_
      refine g_if_le 31 dX6_earliest_22 rfl (fun _ => ?_) (fun _ => ?_)
      · refine g_iinc 1 [(3, .int ((x3 + (1 : Int32)))), (0, .ref (xad X (85)))] dX6_earliest_31 rfl (v := x3 + (1 : Int32)) rfl (by decide) rfl ?_
        refine g_goto 9 dX6_earliest_34 rfl ?_
        refine g_sub [1, 0] rfl ?_
        exact ih q2.1 ((x3 + (1 : Int32)))
      · refine g_aload_n 0 dX6_earliest_25 rfl ?_
        refine g_iload_n 1 dX6_earliest_26 rfl ?_
        refine g_callVJ (c_X6_earliestOf q2.1 x3) okX6_earliestOf ⟨by decide, by decide⟩ ml_X6_81 sh_85 no_85 rfl rfl [.int x3] rfl rfl rfl (Nat.le_of_ble_eq_true rfl) dX6_earliest_27 (fun q4 => ?_)
        exact g_lret rfl dX6_earliest_30

set_option maxRecDepth 100000 in
set_option maxHeartbeats 4000000 in
theorem c_X6_earliest (σ : Mem) (a1 : Int64) : CT yX6_earliest mX6_earliest enJ (fun ad => [.ref (ad (85)), .long a1]) σ (X6_earliest σ a1) := by
  refine CT.of (by decide) rfl (fun _ => Nat.le_of_ble_eq_true rfl) (fun X => ?_)
  show GS (KM enJ X) X mX6_earliest σ 0 [(0, .ref (xad X (85))), (1, .long a1)] [] _
  unfold X6_earliest
  refine g_aload_n 0 dX6_earliest_0 rfl ?_
  refine g_lload_n 1 dX6_earliest_1 rfl ?_
  refine g_bipush (6 : Int32) dX6_earliest_2 (by decide) ?_
  refine g_callVV (c_X6_aim σ a1 (6 : Int32)) okX6_aim ⟨by decide, by decide⟩ ml_X6_74 sh_85 no_85 rfl rfl [.long a1, .int ((6 : Int32))] rfl rfl rfl (Nat.le_of_ble_eq_true rfl) dX6_earliest_4 (fun q1 => ?_)
  refine g_iconst (0 : Int32) dX6_earliest_7 (by decide) ?_
  refine g_istore_n [(3, .int ((0 : Int32))), (0, .ref (xad X (85))), (1, .long a1)] dX6_earliest_8 (by decide) rfl ?_
  refine g_sub [1, 0] rfl ?_
  refine t_X6_earliest_L9 X _ (fun s6 => ?_) FU q1.1 (0 : Int32)
  refine g_ldc2 (-9 : Int64) dX6_earliest_37 kl_X6_84 ?_
  exact g_lret rfl dX6_earliest_40

def X6_endOf (σ : Mem) (a0 : Int32) (a1 : Int32) : Option (Mem × Int32) := (lt_ (((a0 * (6 : Int32)) + a1)) fun (v1 : Int32) => if v1 < 0 then (some (σ, (0 : Int32))) else (if (42 : Int32) ≤ v1 then (some (σ, (0 : Int32))) else ((some (σ, v1)))))
set_option maxRecDepth 100000 in
set_option maxHeartbeats 4000000 in
theorem c_X6_endOf (σ : Mem) (a0 : Int32) (a1 : Int32) : CT yX6_endOf mX6_endOf enI (fun ad => [.int a0, .int a1]) σ (X6_endOf σ a0 a1) := by
  refine CT.of (by decide) rfl (fun _ => Nat.le_of_ble_eq_true rfl) (fun X => ?_)
  show GS (KM enI X) X mX6_endOf σ 0 [(0, .int a0), (1, .int a1)] [] _
  unfold X6_endOf
  refine g_iload_n 0 dX6_endOf_0 rfl ?_
  refine g_bipush (6 : Int32) dX6_endOf_1 (by decide) ?_
  refine g_imul dX6_endOf_3 ?_
  refine g_iload_n 1 dX6_endOf_4 rfl ?_
  refine g_iadd dX6_endOf_5 ?_
  refine g_topi (fun v1 => ?_)
  refine g_istore_n [(2, .int v1), (0, .int a0), (1, .int a1)] dX6_endOf_6 (by decide) rfl ?_
  refine g_iload_n 0 dX6_endOf_7 rfl ?_
  refine g_if_lt 21 dX6_endOf_8 rfl (fun _ => ?_) (fun _ => ?_)
  · refine g_iconst (0 : Int32) dX6_endOf_21 (by decide) ?_
    exact g_iret rfl dX6_endOf_22
  · refine g_iload_n 0 dX6_endOf_11 rfl ?_
    refine g_bipush (42 : Int32) dX6_endOf_12 (by decide) ?_
    refine g_icmp_ge 21 dX6_endOf_14 rfl (fun _ => ?_) (fun _ => ?_)
    · refine g_iconst (0 : Int32) dX6_endOf_21 (by decide) ?_
      exact g_iret rfl dX6_endOf_22
    · refine g_iload_n 0 dX6_endOf_17 rfl ?_
      refine g_goto 22 dX6_endOf_18 rfl ?_
      exact g_iret rfl dX6_endOf_22

def X6_isWithout (σ : Mem) (a1 : Int32) (a2 : Int32) (a3 : Int32) : Option (Mem × Int32) := ((X6_pieceOf σ a2 a3).bind fun q1 => ck q1.2 42 <| lt_ ((q1.1.2.1 600 0 q1.2.toNatClampNeg)) fun (v2 : Int64) => if (((a1 <<< ((1 : Int32) &&& 31)) >>> ((v2 &&& (7 : Int64)).toInt32 &&& 31)) &&& (1 : Int32)) = 0 then (if (((a1 <<< ((1 : Int32) &&& 31)) >>> (((v2 >>> ((3 : Int32).toInt64 &&& 63)) &&& (7 : Int64)).toInt32 &&& 31)) &&& (1 : Int32)) = 0 then ((if (1 : Int32) = 0 ∨ (1 : Int32) = 1 then some (q1.1, (1 : Int32)) else none)) else (if (0 : Int32) = 0 ∨ (0 : Int32) = 1 then some (q1.1, (0 : Int32)) else none)) else (if (0 : Int32) = 0 ∨ (0 : Int32) = 1 then some (q1.1, (0 : Int32)) else none))
set_option maxRecDepth 100000 in
set_option maxHeartbeats 4000000 in
theorem c_X6_isWithout (σ : Mem) (a1 : Int32) (a2 : Int32) (a3 : Int32) : CT yX6_isWithout mX6_isWithout enI (fun ad => [.ref (ad (85)), .int a1, .int a2, .int a3]) σ (X6_isWithout σ a1 a2 a3) := by
  refine CT.of (by decide) rfl (fun _ => Nat.le_of_ble_eq_true rfl) (fun X => ?_)
  show GS (KM enI X) X mX6_isWithout σ 0 [(0, .ref (xad X (85))), (1, .int a1), (2, .int a2), (3, .int a3)] [] _
  unfold X6_isWithout
  refine g_aload_n 0 dX6_isWithout_0 rfl ?_
  refine gf_X6_0 fl_X6_9 dX6_isWithout_1 ?_
  refine g_iload_n 2 dX6_isWithout_4 rfl ?_
  refine g_iload_n 3 dX6_isWithout_5 rfl ?_
  refine g_callSI (c_X6_pieceOf σ a2 a3) okX6_pieceOf ⟨by decide, by decide⟩ ml_X6_39 rfl rfl (Nat.le_of_ble_eq_true rfl) dX6_isWithout_6 (fun q1 => ?_)
  refine g_lald sh_86 no_86 dX6_isWithout_9 (fun _ => ?_)
  refine g_topl (fun v2 => ?_)
  refine g_lstore [(4, .long v2), (0, .ref (xad X (85))), (1, .int a1), (2, .int a2), (3, .int a3)] dX6_isWithout_10 (by decide) rfl ?_
  refine g_iload_n 2 dX6_isWithout_12 rfl ?_
  refine g_iconst (1 : Int32) dX6_isWithout_13 (by decide) ?_
  refine g_ishl dX6_isWithout_14 ?_
  refine g_lload 0 dX6_isWithout_15 rfl ?_
  refine g_ldc2 (7 : Int64) dX6_isWithout_17 kl_X6_100 ?_
  refine g_land dX6_isWithout_20 ?_
  refine g_l2i dX6_isWithout_21 ?_
  refine g_ishr dX6_isWithout_22 ?_
  refine g_iconst (1 : Int32) dX6_isWithout_23 (by decide) ?_
  refine g_iand dX6_isWithout_24 ?_
  refine g_if_ne 50 dX6_isWithout_25 rfl (fun _ => ?_) (fun _ => ?_)
  · refine g_iconst (0 : Int32) dX6_isWithout_50 (by decide) ?_
    exact g_zret rfl dX6_isWithout_51
  · refine g_iload_n 2 dX6_isWithout_28 rfl ?_
    refine g_iconst (1 : Int32) dX6_isWithout_29 (by decide) ?_
    refine g_ishl dX6_isWithout_30 ?_
    refine g_lload 0 dX6_isWithout_31 rfl ?_
    refine g_iconst (3 : Int32) dX6_isWithout_33 (by decide) ?_
    refine g_lshr dX6_isWithout_34 ?_
    refine g_ldc2 (7 : Int64) dX6_isWithout_35 kl_X6_100 ?_
    refine g_land dX6_isWithout_38 ?_
    refine g_l2i dX6_isWithout_39 ?_
    refine g_ishr dX6_isWithout_40 ?_
    refine g_iconst (1 : Int32) dX6_isWithout_41 (by decide) ?_
    refine g_iand dX6_isWithout_42 ?_
    refine g_if_ne 50 dX6_isWithout_43 rfl (fun _ => ?_) (fun _ => ?_)
    · refine g_iconst (0 : Int32) dX6_isWithout_50 (by decide) ?_
      exact g_zret rfl dX6_isWithout_51
    · refine g_iconst (1 : Int32) dX6_isWithout_46 (by decide) ?_
      refine g_goto 51 dX6_isWithout_47 rfl ?_
      exact g_zret rfl dX6_isWithout_51

def X6_endsWithout_L28 (x1 : Int32) (x2 : Int32) (x3 : Int32) (k74 : Mem → Int32 → Option (Mem × Int32)) : Nat → Mem → Int32 → Int32 → Option (Mem × Int32)
  | 0, _, _, _ => none
  | n + 1, σ, x4, x5 => (if (6 : Int32) ≤ x5 then k74 σ x4 else ((X6_isWithout σ x1 x3 x5).bind fun q1 => if q1.2 = 0 then (lt_ ((x4 + (0 : Int32))) fun (v2 : Int32) => X6_endsWithout_L28 x1 x2 x3 k74 n q1.1 v2 ((x5 + (1 : Int32)))) else ((X6_endOf q1.1 ((x2 - (1 : Int32))) x5).bind fun q4 => ck q4.2 42 <| (lt_ ((x4 + (q4.1.1 603 0 q4.2.toNatClampNeg))) fun (v5 : Int32) => X6_endsWithout_L28 x1 x2 x3 k74 n q4.1 v5 ((x5 + (1 : Int32)))))))
def X6_endsWithout (σ : Mem) (a1 : Int32) (a2 : Int32) (a3 : Int32) : Option (Mem × Int32) := (if a2 = (1 : Int32) then ((X6_isWithout σ a1 a3 (6 : Int32)).bind fun q9 => if q9.2 = 0 then (some (q9.1, (0 : Int32))) else ((some (q9.1, (1 : Int32))))) else (X6_endsWithout_L28 a1 a2 a3 (fun (s8 : Mem) (y4_7 : Int32) => (some (s8, y4_7))) FU σ (0 : Int32) (0 : Int32)))
set_option maxRecDepth 100000 in
set_option maxHeartbeats 4000000 in
theorem t_X6_endsWithout_L28 (X : GX) (x1 : Int32) (x2 : Int32) (x3 : Int32) (k74 : Mem → Int32 → Option (Mem × Int32)) (hk74 : ∀ (σ : Mem) (y4 : Int32), GS (KM enI X) X mX6_endsWithout σ 74 [(4, .int y4)] [] (k74 σ y4)) : ∀ (n : Nat) (σ : Mem) (x4 : Int32) (x5 : Int32), GS (KM enI X) X mX6_endsWithout σ 28 [(0, .ref (xad X (85))), (1, .int x1), (2, .int x2), (3, .int x3), (4, .int x4), (5, .int x5)] [] (X6_endsWithout_L28 x1 x2 x3 k74 n σ x4 x5) := by
  intro n
  induction n with
  | zero => intros; exact g_none
  | succ n ih =>
    intro σ x4 x5
    rw [X6_endsWithout_L28]
    refine g_iload 5 dX6_endsWithout_28 rfl ?_
    refine g_bipush (6 : Int32) dX6_endsWithout_30 (by decide) ?_
    refine g_icmp_ge 74 dX6_endsWithout_32 rfl (fun _ => ?_) (fun _ => ?_)
    · refine g_sub [4] rfl ?_
      exact hk74 σ x4
    · refine g_iload 4 dX6_endsWithout_35 rfl ?_
      refine g_aload_n 0 dX6_endsWithout_37 rfl ?_
      refine g_iload_n 1 dX6_endsWithout_38 rfl ?_
      refine g_iload_n 3 dX6_endsWithout_39 rfl ?_
      refine g_iload 5 dX6_endsWithout_40 rfl ?_
      refine g_callVI (c_X6_isWithout σ x1 x3 x5) okX6_isWithout ⟨by decide, by decide⟩ ml_X6_96 sh_85 no_85 rfl rfl [.int x1, .int x3, .int x5] rfl rfl rfl (Nat.le_of_ble_eq_true rfl) dX6_endsWithout_42 (fun q1 => ?_)
      refine g_if_eq 64 dX6_endsWithout_45 rfl (fun _ => ?_) (fun _ => ?_)
      · refine g_iconst (0 : Int32) dX6_endsWithout_64 (by decide) ?_
        refine g_iadd dX6_endsWithout_65 ?_
        refine g_topi (fun v2 => ?_)
        refine g_istore [(4, .int v2), (0, .ref (xad X (85))), (1, .int x1), (2, .int x2), (3, .int x3), (5, .int x5)] dX6_endsWithout_66 (by decide) rfl ?_
        refine g_iinc 5 [(5, .int ((x5 + (1 : Int32)))), (4, .int v2), (0, .ref (xad X (85))), (1, .int x1), (2, .int x2), (3, .int x3)] dX6_endsWithout_68 rfl (v := x5 + (1 : Int32)) rfl (by decide) rfl ?_
        refine g_goto 28 dX6_endsWithout_71 rfl ?_
        refine g_sub [2, 3, 4, 5, 1, 0] rfl ?_
        exact ih q1.1 v2 ((x5 + (1 : Int32)))
      · refine g_aload_n 0 dX6_endsWithout_48 rfl ?_
        refine gf_X6_3 fl_X6_22 dX6_endsWithout_49 ?_
        refine g_iload_n 2 dX6_endsWithout_52 rfl ?_
        refine g_iconst (1 : Int32) dX6_endsWithout_53 (by decide) ?_
        refine g_isub dX6_endsWithout_54 ?_
        refine g_iload 5 dX6_endsWithout_55 rfl ?_
        refine g_callSI (c_X6_endOf q1.1 ((x2 - (1 : Int32))) x5) okX6_endOf ⟨by decide, by decide⟩ ml_X6_90 rfl rfl (Nat.le_of_ble_eq_true rfl) dX6_endsWithout_57 (fun q4 => ?_)
        refine g_iald sh_89 no_89 dX6_endsWithout_60 (fun _ => ?_)
        refine g_goto 65 dX6_endsWithout_61 rfl ?_
        refine g_iadd dX6_endsWithout_65 ?_
        refine g_topi (fun v5 => ?_)
        refine g_istore [(4, .int v5), (0, .ref (xad X (85))), (1, .int x1), (2, .int x2), (3, .int x3), (5, .int x5)] dX6_endsWithout_66 (by decide) rfl ?_
        refine g_iinc 5 [(5, .int ((x5 + (1 : Int32)))), (4, .int v5), (0, .ref (xad X (85))), (1, .int x1), (2, .int x2), (3, .int x3)] dX6_endsWithout_68 rfl (v := x5 + (1 : Int32)) rfl (by decide) rfl ?_
        refine g_goto 28 dX6_endsWithout_71 rfl ?_
        refine g_sub [2, 3, 4, 5, 1, 0] rfl ?_
        exact ih q4.1 v5 ((x5 + (1 : Int32)))

set_option maxRecDepth 100000 in
set_option maxHeartbeats 4000000 in
theorem c_X6_endsWithout (σ : Mem) (a1 : Int32) (a2 : Int32) (a3 : Int32) : CT yX6_endsWithout mX6_endsWithout enI (fun ad => [.ref (ad (85)), .int a1, .int a2, .int a3]) σ (X6_endsWithout σ a1 a2 a3) := by
  refine CT.of (by decide) rfl (fun _ => Nat.le_of_ble_eq_true rfl) (fun X => ?_)
  show GS (KM enI X) X mX6_endsWithout σ 0 [(0, .ref (xad X (85))), (1, .int a1), (2, .int a2), (3, .int a3)] [] _
  unfold X6_endsWithout
  refine g_iload_n 2 dX6_endsWithout_0 rfl ?_
  refine g_iconst (1 : Int32) dX6_endsWithout_1 (by decide) ?_
  refine g_icmp_ne 22 dX6_endsWithout_2 rfl (fun _ => ?_) (fun _ => ?_)
  · refine g_iconst (0 : Int32) dX6_endsWithout_22 (by decide) ?_
    refine g_istore [(4, .int ((0 : Int32))), (0, .ref (xad X (85))), (1, .int a1), (2, .int a2), (3, .int a3)] dX6_endsWithout_23 (by decide) rfl ?_
    refine g_iconst (0 : Int32) dX6_endsWithout_25 (by decide) ?_
    refine g_istore [(5, .int ((0 : Int32))), (4, .int ((0 : Int32))), (0, .ref (xad X (85))), (1, .int a1), (2, .int a2), (3, .int a3)] dX6_endsWithout_26 (by decide) rfl ?_
    refine g_sub [2, 3, 4, 5, 1, 0] rfl ?_
    refine t_X6_endsWithout_L28 X a1 a2 a3 _ (fun s8 y4_7 => ?_) FU σ (0 : Int32) (0 : Int32)
    refine g_iload 0 dX6_endsWithout_74 rfl ?_
    exact g_iret rfl dX6_endsWithout_76
  · refine g_aload_n 0 dX6_endsWithout_5 rfl ?_
    refine g_iload_n 1 dX6_endsWithout_6 rfl ?_
    refine g_iload_n 3 dX6_endsWithout_7 rfl ?_
    refine g_bipush (6 : Int32) dX6_endsWithout_8 (by decide) ?_
    refine g_callVI (c_X6_isWithout σ a1 a3 (6 : Int32)) okX6_isWithout ⟨by decide, by decide⟩ ml_X6_96 sh_85 no_85 rfl rfl [.int a1, .int a3, .int ((6 : Int32))] rfl rfl rfl (Nat.le_of_ble_eq_true rfl) dX6_endsWithout_10 (fun q9 => ?_)
    refine g_if_eq 20 dX6_endsWithout_13 rfl (fun _ => ?_) (fun _ => ?_)
    · refine g_iconst (0 : Int32) dX6_endsWithout_20 (by decide) ?_
      exact g_iret rfl dX6_endsWithout_21
    · refine g_iconst (1 : Int32) dX6_endsWithout_16 (by decide) ?_
      refine g_goto 21 dX6_endsWithout_17 rfl ?_
      exact g_iret rfl dX6_endsWithout_21

def X6_manyWithout_L29 (x1 : Int32) (x2 : Int32) (x4 : Int32) (k78 : Mem → Int32 → Option (Mem × Int32)) : Nat → Mem → Int32 → Int32 → Option (Mem × Int32)
  | 0, _, _, _ => none
  | n + 1, σ, x3, x5 => (if (6 : Int32) ≤ x5 then k78 σ x3 else ((X6_endOf σ x4 x5).bind fun q1 => (X6_endsWithout q1.1 x1 x4 x5).bind fun q2 => ck q1.2 42 <| (X6_endOf ((uI q2.1 603 0 q1.2.toNatClampNeg q2.2)) x4 x5).bind fun q3 => ck q3.2 42 <| lt_ ((x3 + (q3.1.1 603 0 q3.2.toNatClampNeg))) fun (v4 : Int32) => X6_manyWithout_L29 x1 x2 x4 k78 n q3.1 v4 ((x5 + (1 : Int32)))))
def X6_manyWithout_L11 (x1 : Int32) (x2 : Int32) (k84 : Mem → Int32 → Option (Mem × Int32)) : Nat → Mem → Int32 → Int32 → Option (Mem × Int32)
  | 0, _, _, _ => none
  | n + 1, σ, x3, x4 => (if x2 < x4 then k84 σ x3 else (if (6 : Int32) < x4 then k84 σ x3 else (X6_manyWithout_L29 x1 x2 x4 (fun (s7 : Mem) (y3_6 : Int32) => (X6_manyWithout_L11 x1 x2 k84 n s7 y3_6 ((x4 + (1 : Int32))))) FU σ (0 : Int32) (0 : Int32))))
def X6_manyWithout (σ : Mem) (a1 : Int32) (a2 : Int32) : Option (Mem × Int32) := (if a2 = 0 then (some (σ, (1 : Int32))) else (X6_manyWithout_L11 a1 a2 (fun (s10 : Mem) (y3_9 : Int32) => (some (s10, y3_9))) FU σ (0 : Int32) (1 : Int32)))
set_option maxRecDepth 100000 in
set_option maxHeartbeats 4000000 in
theorem t_X6_manyWithout_L29 (X : GX) (x1 : Int32) (x2 : Int32) (x4 : Int32) (k78 : Mem → Int32 → Option (Mem × Int32)) (hk78 : ∀ (σ : Mem) (y3 : Int32), GS (KM enI X) X mX6_manyWithout σ 78 [(0, .ref (xad X (85))), (1, .int x1), (2, .int x2), (3, .int y3), (4, .int x4)] [] (k78 σ y3)) : ∀ (n : Nat) (σ : Mem) (x3 : Int32) (x5 : Int32), GS (KM enI X) X mX6_manyWithout σ 29 [(0, .ref (xad X (85))), (1, .int x1), (2, .int x2), (3, .int x3), (4, .int x4), (5, .int x5)] [] (X6_manyWithout_L29 x1 x2 x4 k78 n σ x3 x5) := by
  intro n
  induction n with
  | zero => intros; exact g_none
  | succ n ih =>
    intro σ x3 x5
    rw [X6_manyWithout_L29]
    refine g_iload 5 dX6_manyWithout_29 rfl ?_
    refine g_bipush (6 : Int32) dX6_manyWithout_31 (by decide) ?_
    refine g_icmp_ge 78 dX6_manyWithout_33 rfl (fun _ => ?_) (fun _ => ?_)
    · refine g_sub [0, 1, 2, 3, 4] rfl ?_
      exact hk78 σ x3
    · refine g_aload_n 0 dX6_manyWithout_36 rfl ?_
      refine gf_X6_3 fl_X6_22 dX6_manyWithout_37 ?_
      refine g_iload 4 dX6_manyWithout_40 rfl ?_
      refine g_iload 5 dX6_manyWithout_42 rfl ?_
      refine g_callSI (c_X6_endOf σ x4 x5) okX6_endOf ⟨by decide, by decide⟩ ml_X6_90 rfl rfl (Nat.le_of_ble_eq_true rfl) dX6_manyWithout_44 (fun q1 => ?_)
      refine g_aload_n 0 dX6_manyWithout_47 rfl ?_
      refine g_iload_n 1 dX6_manyWithout_48 rfl ?_
      refine g_iload 4 dX6_manyWithout_49 rfl ?_
      refine g_iload 5 dX6_manyWithout_51 rfl ?_
      refine g_callVI (c_X6_endsWithout q1.1 x1 x4 x5) okX6_endsWithout ⟨by decide, by decide⟩ ml_X6_93 sh_85 no_85 rfl rfl [.int x1, .int x4, .int x5] rfl rfl rfl (Nat.le_of_ble_eq_true rfl) dX6_manyWithout_53 (fun q2 => ?_)
      refine g_iast sh_89 no_89 dX6_manyWithout_56 (fun _ => ?_)
      refine g_iload_n 3 dX6_manyWithout_57 rfl ?_
      refine g_aload_n 0 dX6_manyWithout_58 rfl ?_
      refine gf_X6_3 fl_X6_22 dX6_manyWithout_59 ?_
      refine g_iload 4 dX6_manyWithout_62 rfl ?_
      refine g_iload 5 dX6_manyWithout_64 rfl ?_
      refine g_callSI (c_X6_endOf ((uI q2.1 603 0 q1.2.toNatClampNeg q2.2)) x4 x5) okX6_endOf ⟨by decide, by decide⟩ ml_X6_90 rfl rfl (Nat.le_of_ble_eq_true rfl) dX6_manyWithout_66 (fun q3 => ?_)
      refine g_iald sh_89 no_89 dX6_manyWithout_69 (fun _ => ?_)
      refine g_iadd dX6_manyWithout_70 ?_
      refine g_topi (fun v4 => ?_)
      refine g_istore_n [(3, .int v4), (0, .ref (xad X (85))), (1, .int x1), (2, .int x2), (4, .int x4), (5, .int x5)] dX6_manyWithout_71 (by decide) rfl ?_
      refine g_iinc 5 [(5, .int ((x5 + (1 : Int32)))), (3, .int v4), (0, .ref (xad X (85))), (1, .int x1), (2, .int x2), (4, .int x4)] dX6_manyWithout_72 rfl (v := x5 + (1 : Int32)) rfl (by decide) rfl ?_
      refine g_goto 29 dX6_manyWithout_75 rfl ?_
      refine g_sub [2, 3, 4, 1, 5, 0] rfl ?_
      exact ih q3.1 v4 ((x5 + (1 : Int32)))

set_option maxRecDepth 100000 in
set_option maxHeartbeats 4000000 in
theorem t_X6_manyWithout_L11 (X : GX) (x1 : Int32) (x2 : Int32) (k84 : Mem → Int32 → Option (Mem × Int32)) (hk84 : ∀ (σ : Mem) (y3 : Int32), GS (KM enI X) X mX6_manyWithout σ 84 [(3, .int y3)] [] (k84 σ y3)) : ∀ (n : Nat) (σ : Mem) (x3 : Int32) (x4 : Int32), GS (KM enI X) X mX6_manyWithout σ 11 [(0, .ref (xad X (85))), (1, .int x1), (2, .int x2), (3, .int x3), (4, .int x4)] [] (X6_manyWithout_L11 x1 x2 k84 n σ x3 x4) := by
  intro n
  induction n with
  | zero => intros; exact g_none
  | succ n ih =>
    intro σ x3 x4
    rw [X6_manyWithout_L11]
    refine g_iload 4 dX6_manyWithout_11 rfl ?_
    refine g_iload_n 2 dX6_manyWithout_13 rfl ?_
    refine g_icmp_gt 84 dX6_manyWithout_14 rfl (fun _ => ?_) (fun _ => ?_)
    · refine g_sub [3] rfl ?_
      exact hk84 σ x3
    · refine g_iload 4 dX6_manyWithout_17 rfl ?_
      refine g_bipush (6 : Int32) dX6_manyWithout_19 (by decide) ?_
      refine g_icmp_gt 84 dX6_manyWithout_21 rfl (fun _ => ?_) (fun _ => ?_)
      · refine g_sub [3] rfl ?_
        exact hk84 σ x3
      · refine g_iconst (0 : Int32) dX6_manyWithout_24 (by decide) ?_
        refine g_istore_n [(3, .int ((0 : Int32))), (0, .ref (xad X (85))), (1, .int x1), (2, .int x2), (4, .int x4)] dX6_manyWithout_25 (by decide) rfl ?_
        refine g_iconst (0 : Int32) dX6_manyWithout_26 (by decide) ?_
        refine g_istore [(5, .int ((0 : Int32))), (3, .int ((0 : Int32))), (0, .ref (xad X (85))), (1, .int x1), (2, .int x2), (4, .int x4)] dX6_manyWithout_27 (by decide) rfl ?_
        refine g_sub [2, 3, 4, 1, 5, 0] rfl ?_
        refine t_X6_manyWithout_L29 X x1 x2 x4 _ (fun s7 y3_6 => ?_) FU σ (0 : Int32) (0 : Int32)
        refine g_iinc 4 [(4, .int ((x4 + (1 : Int32)))), (0, .ref (xad X (85))), (1, .int x1), (2, .int x2), (3, .int y3_6)] dX6_manyWithout_78 rfl (v := x4 + (1 : Int32)) rfl (by decide) rfl ?_
        refine g_goto 11 dX6_manyWithout_81 rfl ?_
        refine g_sub [1, 2, 3, 4, 0] rfl ?_
        exact ih s7 y3_6 ((x4 + (1 : Int32)))

set_option maxRecDepth 100000 in
set_option maxHeartbeats 4000000 in
theorem c_X6_manyWithout (σ : Mem) (a1 : Int32) (a2 : Int32) : CT yX6_manyWithout mX6_manyWithout enI (fun ad => [.ref (ad (85)), .int a1, .int a2]) σ (X6_manyWithout σ a1 a2) := by
  refine CT.of (by decide) rfl (fun _ => Nat.le_of_ble_eq_true rfl) (fun X => ?_)
  show GS (KM enI X) X mX6_manyWithout σ 0 [(0, .ref (xad X (85))), (1, .int a1), (2, .int a2)] [] _
  unfold X6_manyWithout
  refine g_iload_n 2 dX6_manyWithout_0 rfl ?_
  refine g_if_ne 6 dX6_manyWithout_1 rfl (fun _ => ?_) (fun _ => ?_)
  · refine g_iconst (0 : Int32) dX6_manyWithout_6 (by decide) ?_
    refine g_istore_n [(3, .int ((0 : Int32))), (0, .ref (xad X (85))), (1, .int a1), (2, .int a2)] dX6_manyWithout_7 (by decide) rfl ?_
    refine g_iconst (1 : Int32) dX6_manyWithout_8 (by decide) ?_
    refine g_istore [(4, .int ((1 : Int32))), (3, .int ((0 : Int32))), (0, .ref (xad X (85))), (1, .int a1), (2, .int a2)] dX6_manyWithout_9 (by decide) rfl ?_
    refine g_sub [2, 3, 4, 1, 0] rfl ?_
    refine t_X6_manyWithout_L11 X a1 a2 _ (fun s10 y3_9 => ?_) FU σ (0 : Int32) (1 : Int32)
    refine g_iload_n 0 dX6_manyWithout_84 rfl ?_
    exact g_iret rfl dX6_manyWithout_85
  · refine g_iconst (1 : Int32) dX6_manyWithout_4 (by decide) ?_
    exact g_iret rfl dX6_manyWithout_5

def X7_rowOf (σ : Mem) (a1 : Int32) : Option (Mem × (Option Nat)) := (if a1 < 0 then (some (σ, none)) else (if (6 : Int32) ≤ a1 then (some (σ, none)) else (ck a1 6 <| if (0 + a1.toNatClampNeg) < 11 then (some (σ, some (0 + a1.toNatClampNeg))) else none)))
set_option maxRecDepth 100000 in
set_option maxHeartbeats 4000000 in
theorem c_X7_rowOf (σ : Mem) (a1 : Int32) : CT yX7_rowOf mX7_rowOf (enG (fun x => 4 + 2 * x)) (fun ad => [.ref (ad (0)), .int a1]) σ (X7_rowOf σ a1) := by
  refine CT.of (by decide) rfl (fun _ => Nat.le_of_ble_eq_true rfl) (fun X => ?_)
  show GS (KM (enG (fun x => 4 + 2 * x)) X) X mX7_rowOf σ 0 [(0, .ref (xad X (0))), (1, .int a1)] [] _
  unfold X7_rowOf
  refine g_iload_n 1 dX7_rowOf_0 rfl ?_
  refine g_if_lt 22 dX7_rowOf_1 rfl (fun _ => ?_) (fun _ => ?_)
  · refine g_null dX7_rowOf_22 ?_
    exact g_aretGN rfl dX7_rowOf_23
  · refine g_iload_n 1 dX7_rowOf_4 rfl ?_
    refine g_aload_n 0 dX7_rowOf_5 rfl ?_
    refine gf_X7_0 fl_X7_11 dX7_rowOf_6 ?_
    refine g_alen (v := (6 : Int32)) sh_1 no_1 (by decide) rfl dX7_rowOf_9 ?_
    refine g_icmp_ge 22 dX7_rowOf_10 rfl (fun _ => ?_) (fun _ => ?_)
    · refine g_null dX7_rowOf_22 ?_
      exact g_aretGN rfl dX7_rowOf_23
    · refine g_aload_n 0 dX7_rowOf_13 rfl ?_
      refine gf_X7_0 fl_X7_11 dX7_rowOf_14 ?_
      refine g_iload_n 1 dX7_rowOf_17 rfl ?_
      refine g_ald3 sh_1 no_1 dX7_rowOf_18 (fun _ => ?_)
      refine g_guard (fun h1 => ?_)
      refine g_goto 23 dX7_rowOf_19 rfl ?_
      exact g_aretG (g := fun x => 4 + 2 * x) rfl dX7_rowOf_23

def X7_answer (σ : Mem) (a1 : Int32) : Option (Mem × Int32) := (if a1 < (1 : Int32) then (some (σ, (-3 : Int32))) else (if (6 : Int32) ≤ a1 then (some (σ, (-3 : Int32))) else (ck a1 6 <| ck a1 6 <| some ((uI ((uI σ 711 0 a1.toNatClampNeg ((σ.1 711 0 a1.toNatClampNeg) + (1 : Int32)))) 712 0 0 a1), (-3 : Int32)))))
set_option maxRecDepth 100000 in
set_option maxHeartbeats 4000000 in
theorem c_X7_answer (σ : Mem) (a1 : Int32) : CT yX7_answer mX7_answer enI (fun ad => [.ref (ad (0)), .int a1]) σ (X7_answer σ a1) := by
  refine CT.of (by decide) rfl (fun _ => Nat.le_of_ble_eq_true rfl) (fun X => ?_)
  show GS (KM enI X) X mX7_answer σ 0 [(0, .ref (xad X (0))), (1, .int a1)] [] _
  unfold X7_answer
  refine g_iload_n 1 dX7_answer_0 rfl ?_
  refine g_iconst (1 : Int32) dX7_answer_1 (by decide) ?_
  refine g_icmp_lt 29 dX7_answer_2 rfl (fun _ => ?_) (fun _ => ?_)
  · refine g_bipush (-3 : Int32) dX7_answer_29 (by decide) ?_
    exact g_iret rfl dX7_answer_31
  · refine g_iload_n 1 dX7_answer_5 rfl ?_
    refine g_aload_n 0 dX7_answer_6 rfl ?_
    refine gf_X7_11 fl_X7_75 dX7_answer_7 ?_
    refine g_alen (v := (6 : Int32)) sh_97 no_97 (by decide) rfl dX7_answer_10 ?_
    refine g_icmp_ge 29 dX7_answer_11 rfl (fun _ => ?_) (fun _ => ?_)
    · refine g_bipush (-3 : Int32) dX7_answer_29 (by decide) ?_
      exact g_iret rfl dX7_answer_31
    · refine g_aload_n 0 dX7_answer_14 rfl ?_
      refine gf_X7_11 fl_X7_75 dX7_answer_15 ?_
      refine g_iload_n 1 dX7_answer_18 rfl ?_
      refine g_dup2 dX7_answer_19 rfl rfl ?_
      refine g_iald sh_97 no_97 dX7_answer_20 (fun _ => ?_)
      refine g_iconst (1 : Int32) dX7_answer_21 (by decide) ?_
      refine g_iadd dX7_answer_22 ?_
      refine g_iast sh_97 no_97 dX7_answer_23 (fun _ => ?_)
      refine g_aload_n 0 dX7_answer_24 rfl ?_
      refine g_iload_n 1 dX7_answer_25 rfl ?_
      refine pf_X7_12 fl_X7_79 dX7_answer_26 ?_
      refine g_bipush (-3 : Int32) dX7_answer_29 (by decide) ?_
      exact g_iret rfl dX7_answer_31

def X7_row (σ : Mem) (a1 : Int32) (a2 : Int32) : Option (Mem × Int32) := ((X7_rowOf σ a1).bind fun q1 => spl q1.2 11 ((some (q1.1, (-1 : Int32)))) (fun r2 => ((if a2 ≤ (40 : Int32) then (if 0 ≤ a2 then ((X4_renew q1.1 r2 a2 (0 : Int32)).bind fun q3 => some (q3.1, a2)) else ((X7_answer q1.1 (5 : Int32)).bind fun q4 => some (q4.1, q4.2))) else (some (q1.1, (-1 : Int32)))))))
set_option maxRecDepth 100000 in
set_option maxHeartbeats 4000000 in
theorem c_X7_row (σ : Mem) (a1 : Int32) (a2 : Int32) : CT yX7_row mX7_row enI (fun ad => [.ref (ad (0)), .int a1, .int a2]) σ (X7_row σ a1 a2) := by
  refine CT.of (by decide) rfl (fun _ => Nat.le_of_ble_eq_true rfl) (fun X => ?_)
  show GS (KM enI X) X mX7_row σ 0 [(0, .ref (xad X (0))), (1, .int a1), (2, .int a2)] [] _
  unfold X7_row
  refine g_aload_n 0 dX7_row_0 rfl ?_
  refine g_iload_n 1 dX7_row_1 rfl ?_
  refine g_callVG (c_X7_rowOf σ a1) okX7_rowOf ⟨by decide, by decide⟩ ml_X7_93 sh_0 no_0 rfl rfl [.int a1] rfl rfl rfl (Nat.le_of_ble_eq_true rfl) dX7_row_2 (fun q1 => ?_)
  refine g_spl ?_ (fun r2 hr2 => ?_)
  · refine g_astore_nN [(3, .null), (0, .ref (xad X (0))), (1, .int a1), (2, .int a2)] dX7_row_5 (by decide) rfl ?_
    refine g_aload_nN 0 dX7_row_6 rfl ?_
    refine g_ifnullN 16 dX7_row_7 rfl ?_
    refine g_iconst (-1 : Int32) dX7_row_16 (by decide) ?_
    exact g_iret rfl dX7_row_17
  · refine g_astore_n [(3, .ref (xad X (4 + 2 * r2))), (0, .ref (xad X (0))), (1, .int a1), (2, .int a2)] dX7_row_5 (by decide) rfl ?_
    refine g_aload_n 0 dX7_row_6 rfl ?_
    refine g_ifnull dX7_row_7 ?_
    refine g_iload_n 3 dX7_row_10 rfl ?_
    refine g_bipush (40 : Int32) dX7_row_11 (by decide) ?_
    refine g_icmp_le 18 dX7_row_13 rfl (fun _ => ?_) (fun _ => ?_)
    · refine g_iload_n 3 dX7_row_18 rfl ?_
      refine g_if_ge 28 dX7_row_19 rfl (fun _ => ?_) (fun _ => ?_)
      · refine g_aload_n 0 dX7_row_28 rfl ?_
        refine g_iload_n 3 dX7_row_29 rfl ?_
        refine g_iconst (0 : Int32) dX7_row_30 (by decide) ?_
        refine g_callVV (c_X4_renew q1.1 r2 a2 (0 : Int32)) okX4_renew ⟨by decide, by decide⟩ ml_X7_101 (sh_X4 hr2) (no_X4 hr2) rfl rfl [.int a2, .int ((0 : Int32))] rfl rfl rfl (Nat.le_of_ble_eq_true rfl) dX7_row_31 (fun q3 => ?_)
        refine g_iload_n 3 dX7_row_34 rfl ?_
        exact g_iret rfl dX7_row_35
      · refine g_aload_n 1 dX7_row_22 rfl ?_
        refine g_iconst (5 : Int32) dX7_row_23 (by decide) ?_
        refine g_callVI (c_X7_answer q1.1 (5 : Int32)) okX7_answer ⟨by decide, by decide⟩ ml_X7_97 sh_0 no_0 rfl rfl [.int ((5 : Int32))] rfl rfl rfl (Nat.le_of_ble_eq_true rfl) dX7_row_24 (fun q4 => ?_)
        exact g_iret rfl dX7_row_27
    · refine g_iconst (-1 : Int32) dX7_row_16 (by decide) ?_
      exact g_iret rfl dX7_row_17

def X7_lay (σ : Mem) (a1 : Int32) (a2 : Int32) (a3 : Int32) : Option (Mem × Int32) := ((X7_rowOf σ a1).bind fun q1 => spl q1.2 11 ((some (q1.1, (-1 : Int32)))) (fun r2 => (((X4_isThere q1.1 r2).bind fun q3 => if q3.2 = 0 then ((X7_answer q3.1 (1 : Int32)).bind fun q8 => some (q8.1, q8.2)) else ((X4_hasPlace q3.1 r2 a2).bind fun q4 => if q4.2 = 0 then ((X7_answer q4.1 (2 : Int32)).bind fun q7 => some (q7.1, q7.2)) else ((X4_cell q4.1 r2 a2).bind fun q5 => (X4_change ((uI q5.1 713 0 0 q5.2)) r2 a2 a3).bind fun q6 => some (q6.1, (1 : Int32))))))))
set_option maxRecDepth 100000 in
set_option maxHeartbeats 4000000 in
theorem c_X7_lay (σ : Mem) (a1 : Int32) (a2 : Int32) (a3 : Int32) : CT yX7_lay mX7_lay enI (fun ad => [.ref (ad (0)), .int a1, .int a2, .int a3]) σ (X7_lay σ a1 a2 a3) := by
  refine CT.of (by decide) rfl (fun _ => Nat.le_of_ble_eq_true rfl) (fun X => ?_)
  show GS (KM enI X) X mX7_lay σ 0 [(0, .ref (xad X (0))), (1, .int a1), (2, .int a2), (3, .int a3)] [] _
  unfold X7_lay
  refine g_aload_n 0 dX7_lay_0 rfl ?_
  refine g_iload_n 1 dX7_lay_1 rfl ?_
  refine g_callVG (c_X7_rowOf σ a1) okX7_rowOf ⟨by decide, by decide⟩ ml_X7_93 sh_0 no_0 rfl rfl [.int a1] rfl rfl rfl (Nat.le_of_ble_eq_true rfl) dX7_lay_2 (fun q1 => ?_)
  refine g_spl ?_ (fun r2 hr2 => ?_)
  · refine g_astoreN [(4, .null), (0, .ref (xad X (0))), (1, .int a1), (2, .int a2), (3, .int a3)] dX7_lay_5 (by decide) rfl ?_
    refine g_aloadN 0 dX7_lay_7 rfl ?_
    refine g_ifnonnullN dX7_lay_9 ?_
    refine g_iconst (-1 : Int32) dX7_lay_12 (by decide) ?_
    exact g_iret rfl dX7_lay_13
  · refine g_astore [(4, .ref (xad X (4 + 2 * r2))), (0, .ref (xad X (0))), (1, .int a1), (2, .int a2), (3, .int a3)] dX7_lay_5 (by decide) rfl ?_
    refine g_aload 0 dX7_lay_7 rfl ?_
    refine g_ifnonnull 14 dX7_lay_9 rfl ?_
    refine g_aload 0 dX7_lay_14 rfl ?_
    refine g_callVI (c_X4_isThere q1.1 r2) okX4_isThere ⟨by decide, by decide⟩ ml_X7_105 (sh_X4 hr2) (no_X4 hr2) rfl rfl [] rfl rfl rfl (Nat.le_of_ble_eq_true rfl) dX7_lay_16 (fun q3 => ?_)
    refine g_if_ne 28 dX7_lay_19 rfl (fun _ => ?_) (fun _ => ?_)
    · refine g_aload 0 dX7_lay_28 rfl ?_
      refine g_iload_n 3 dX7_lay_30 rfl ?_
      refine g_callVI (c_X4_hasPlace q3.1 r2 a2) okX4_hasPlace ⟨by decide, by decide⟩ ml_X7_109 (sh_X4 hr2) (no_X4 hr2) rfl rfl [.int a2] rfl rfl rfl (Nat.le_of_ble_eq_true rfl) dX7_lay_31 (fun q4 => ?_)
      refine g_if_ne 43 dX7_lay_34 rfl (fun _ => ?_) (fun _ => ?_)
      · refine g_aload_n 1 dX7_lay_43 rfl ?_
        refine g_aload 0 dX7_lay_44 rfl ?_
        refine g_iload_n 3 dX7_lay_46 rfl ?_
        refine g_callVI (c_X4_cell q4.1 r2 a2) okX4_cell ⟨by decide, by decide⟩ ml_X7_113 (sh_X4 hr2) (no_X4 hr2) rfl rfl [.int a2] rfl rfl rfl (Nat.le_of_ble_eq_true rfl) dX7_lay_47 (fun q5 => ?_)
        refine pf_X7_13 fl_X7_83 dX7_lay_50 ?_
        refine g_aload 0 dX7_lay_53 rfl ?_
        refine g_iload_n 3 dX7_lay_55 rfl ?_
        refine g_iload_n 4 dX7_lay_56 rfl ?_
        refine g_callVV (c_X4_change ((uI q5.1 713 0 0 q5.2)) r2 a2 a3) okX4_change ⟨by decide, by decide⟩ ml_X7_116 (sh_X4 hr2) (no_X4 hr2) rfl rfl [.int a2, .int a3] rfl rfl rfl (Nat.le_of_ble_eq_true rfl) dX7_lay_57 (fun q6 => ?_)
        refine g_iconst (1 : Int32) dX7_lay_60 (by decide) ?_
        exact g_iret rfl dX7_lay_61
      · refine g_aload_n 1 dX7_lay_37 rfl ?_
        refine g_iconst (2 : Int32) dX7_lay_38 (by decide) ?_
        refine g_callVI (c_X7_answer q4.1 (2 : Int32)) okX7_answer ⟨by decide, by decide⟩ ml_X7_97 sh_0 no_0 rfl rfl [.int ((2 : Int32))] rfl rfl rfl (Nat.le_of_ble_eq_true rfl) dX7_lay_39 (fun q7 => ?_)
        exact g_iret rfl dX7_lay_42
    · refine g_aload_n 1 dX7_lay_22 rfl ?_
      refine g_iconst (1 : Int32) dX7_lay_23 (by decide) ?_
      refine g_callVI (c_X7_answer q3.1 (1 : Int32)) okX7_answer ⟨by decide, by decide⟩ ml_X7_97 sh_0 no_0 rfl rfl [.int ((1 : Int32))] rfl rfl rfl (Nat.le_of_ble_eq_true rfl) dX7_lay_24 (fun q8 => ?_)
      exact g_iret rfl dX7_lay_27

