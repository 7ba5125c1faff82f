def X6_waysFrom_L32 (x1 : Int32) (x2 : Int32) (x3 : Int32) (k86 : Mem → Int64 → Option (Mem × Int64)) : Nat → Mem → Int64 → Int32 → Option (Mem × Int64)
  | 0, _, _, _ => none
  | n + 1, σ, x4, x6 => (if (6 : Int32) ≤ x6 then k86 σ x4 else ((X6_placeAfter σ x2 x6 x3).bind fun q1 => if q1.2 = (-9 : Int32) then ((lt_ ((x4 + (0 : Int64))) fun (v5 : Int64) => X6_waysFrom_L32 x1 x2 x3 k86 n q1.1 v5 ((x6 + (1 : Int32))))) else ((X6_wayOf q1.1 ((x1 - (1 : Int32))) x6 q1.2).bind fun q2 => ck q2.2 714 <| lt_ ((x4 + (q2.1.2.1 602 0 q2.2.toNatClampNeg))) fun (v3 : Int64) => X6_waysFrom_L32 x1 x2 x3 k86 n q2.1 v3 ((x6 + (1 : Int32))))))
def X6_waysFrom (σ : Mem) (a1 : Int32) (a2 : Int32) (a3 : Int32) : Option (Mem × Int64) := (if a1 = (1 : Int32) then ((X6_placeAfter σ a2 (6 : Int32) a3).bind fun q9 => if q9.2 = (q9.1.1 605 0 0) then ((some (q9.1, (1 : Int64)))) else (some (q9.1, (0 : Int64)))) else (X6_waysFrom_L32 a1 a2 a3 (fun (s8 : Mem) (y4_7 : Int64) => (some (s8, y4_7))) FU σ (0 : Int64) (0 : Int32)))
set_option maxRecDepth 100000 in
set_option maxHeartbeats 4000000 in
theorem t_X6_waysFrom_L32 (X : GX) (x1 : Int32) (x2 : Int32) (x3 : Int32) (k86 : Mem → Int64 → Option (Mem × Int64)) (hk86 : ∀ (σ : Mem) (y4 : Int64), GS (KM enJ X) X mX6_waysFrom σ 86 [(4, .long y4)] [] (k86 σ y4)) : ∀ (n : Nat) (σ : Mem) (x4 : Int64) (x6 : Int32), GS (KM enJ X) X mX6_waysFrom σ 32 [(0, .ref (xad X (85))), (1, .int x1), (2, .int x2), (3, .int x3), (4, .long x4), (6, .int x6)] [] (X6_waysFrom_L32 x1 x2 x3 k86 n σ x4 x6) := by
  intro n
  induction n with
  | zero => intros; exact g_none
  | succ n ih =>
    intro σ x4 x6
    rw [X6_waysFrom_L32]
    refine g_iload 5 dX6_waysFrom_32 rfl ?_
    refine g_bipush (6 : Int32) dX6_waysFrom_34 (by decide) ?_
    refine g_icmp_ge 86 dX6_waysFrom_36 rfl (fun _ => ?_) (fun _ => ?_)
    · refine g_sub [4] rfl ?_
      exact hk86 σ x4
    · refine g_aload_n 0 dX6_waysFrom_39 rfl ?_
      refine g_iload_n 2 dX6_waysFrom_40 rfl ?_
      refine g_iload 5 dX6_waysFrom_41 rfl ?_
      refine g_iload_n 3 dX6_waysFrom_43 rfl ?_
      refine g_callVI (c_X6_placeAfter σ x2 x6 x3) okX6_placeAfter ⟨by decide, by decide⟩ ml_X6_59 sh_85 no_85 rfl rfl [.int x2, .int x6, .int x3] rfl rfl rfl (Nat.le_of_ble_eq_true rfl) dX6_waysFrom_44 (fun q1 => ?_)
      refine g_istore [(7, .int (q1.2)), (0, .ref (xad X (85))), (1, .int x1), (2, .int x2), (3, .int x3), (4, .long x4), (6, .int x6)] dX6_waysFrom_47 (by decide) rfl ?_
      refine g_lload 5 dX6_waysFrom_49 rfl ?_
      refine g_iload 0 dX6_waysFrom_51 rfl ?_
      refine g_bipush (-9 : Int32) dX6_waysFrom_53 (by decide) ?_
      refine g_icmp_ne 62 dX6_waysFrom_55 rfl (fun _ => ?_) (fun _ => ?_)
      · refine g_aload_n 1 dX6_waysFrom_62 rfl ?_
        refine gf_X6_2 fl_X6_19 dX6_waysFrom_63 ?_
        refine g_iload_n 2 dX6_waysFrom_66 rfl ?_
        refine g_iconst (1 : Int32) dX6_waysFrom_67 (by decide) ?_
        refine g_isub dX6_waysFrom_68 ?_
        refine g_iload 6 dX6_waysFrom_69 rfl ?_
        refine g_iload 0 dX6_waysFrom_71 rfl ?_
        refine g_callSI (c_X6_wayOf q1.1 ((x1 - (1 : Int32))) x6 q1.2) okX6_wayOf ⟨by decide, by decide⟩ ml_X6_51 rfl rfl (Nat.le_of_ble_eq_true rfl) dX6_waysFrom_73 (fun q2 => ?_)
        refine g_lald sh_88 no_88 dX6_waysFrom_76 (fun _ => ?_)
        refine g_ladd dX6_waysFrom_77 ?_
        refine g_topl (fun v3 => ?_)
        refine g_lstore [(4, .long v3), (7, .int (q1.2)), (0, .ref (xad X (85))), (1, .int x1), (2, .int x2), (3, .int x3), (6, .int x6)] dX6_waysFrom_78 (by decide) rfl ?_
        refine g_iinc 6 [(6, .int ((x6 + (1 : Int32)))), (4, .long v3), (7, .int (q1.2)), (0, .ref (xad X (85))), (1, .int x1), (2, .int x2), (3, .int x3)] dX6_waysFrom_80 rfl (v := x6 + (1 : Int32)) rfl (by decide) rfl ?_
        refine g_goto 32 dX6_waysFrom_83 rfl ?_
        refine g_sub [3, 4, 5, 6, 1, 0] rfl ?_
        exact ih q2.1 v3 ((x6 + (1 : Int32)))
      · refine g_lconst (0 : Int64) dX6_waysFrom_58 (by decide) ?_
        refine g_goto 77 dX6_waysFrom_59 rfl ?_
        refine g_ladd dX6_waysFrom_77 ?_
        refine g_topl (fun v5 => ?_)
        refine g_lstore [(4, .long v5), (7, .int (q1.2)), (0, .ref (xad X (85))), (1, .int x1), (2, .int x2), (3, .int x3), (6, .int x6)] dX6_waysFrom_78 (by decide) rfl ?_
        refine g_iinc 6 [(6, .int ((x6 + (1 : Int32)))), (4, .long v5), (7, .int (q1.2)), (0, .ref (xad X (85))), (1, .int x1), (2, .int x2), (3, .int x3)] dX6_waysFrom_80 rfl (v := x6 + (1 : Int32)) rfl (by decide) rfl ?_
        refine g_goto 32 dX6_waysFrom_83 rfl ?_
        refine g_sub [3, 4, 5, 6, 1, 0] rfl ?_
        exact ih q1.1 v5 ((x6 + (1 : Int32)))

set_option maxRecDepth 100000 in
set_option maxHeartbeats 4000000 in
theorem c_X6_waysFrom (σ : Mem) (a1 : Int32) (a2 : Int32) (a3 : Int32) : CT yX6_waysFrom mX6_waysFrom enJ (fun ad => [.ref (ad (85)), .int a1, .int a2, .int a3]) σ (X6_waysFrom σ a1 a2 a3) := by
  refine CT.of (by decide) rfl (fun _ => Nat.le_of_ble_eq_true rfl) (fun X => ?_)
  show GS (KM enJ X) X mX6_waysFrom σ 0 [(0, .ref (xad X (85))), (1, .int a1), (2, .int a2), (3, .int a3)] [] _
  unfold X6_waysFrom
  refine g_iload_n 1 dX6_waysFrom_0 rfl ?_
  refine g_iconst (1 : Int32) dX6_waysFrom_1 (by decide) ?_
  refine g_icmp_ne 26 dX6_waysFrom_2 rfl (fun _ => ?_) (fun _ => ?_)
  · refine g_lconst (0 : Int64) dX6_waysFrom_26 (by decide) ?_
    refine g_lstore [(4, .long ((0 : Int64))), (0, .ref (xad X (85))), (1, .int a1), (2, .int a2), (3, .int a3)] dX6_waysFrom_27 (by decide) rfl ?_
    refine g_iconst (0 : Int32) dX6_waysFrom_29 (by decide) ?_
    refine g_istore [(6, .int ((0 : Int32))), (4, .long ((0 : Int64))), (0, .ref (xad X (85))), (1, .int a1), (2, .int a2), (3, .int a3)] dX6_waysFrom_30 (by decide) rfl ?_
    refine g_sub [2, 3, 4, 5, 1, 0] rfl ?_
    refine t_X6_waysFrom_L32 X a1 a2 a3 _ (fun s8 y4_7 => ?_) FU σ (0 : Int64) (0 : Int32)
    refine g_lload 0 dX6_waysFrom_86 rfl ?_
    exact g_lret rfl dX6_waysFrom_88
  · refine g_aload_n 0 dX6_waysFrom_5 rfl ?_
    refine g_iload_n 2 dX6_waysFrom_6 rfl ?_
    refine g_bipush (6 : Int32) dX6_waysFrom_7 (by decide) ?_
    refine g_iload_n 3 dX6_waysFrom_9 rfl ?_
    refine g_callVI (c_X6_placeAfter σ a2 (6 : Int32) a3) okX6_placeAfter ⟨by decide, by decide⟩ ml_X6_59 sh_85 no_85 rfl rfl [.int a2, .int ((6 : Int32)), .int a3] rfl rfl rfl (Nat.le_of_ble_eq_true rfl) dX6_waysFrom_10 (fun q9 => ?_)
    refine g_aload_n 0 dX6_waysFrom_13 rfl ?_
    refine gf_X6_5 fl_X6_29 dX6_waysFrom_14 ?_
    refine g_icmp_ne 24 dX6_waysFrom_17 rfl (fun _ => ?_) (fun _ => ?_)
    · refine g_lconst (0 : Int64) dX6_waysFrom_24 (by decide) ?_
      exact g_lret rfl dX6_waysFrom_25
    · refine g_lconst (1 : Int64) dX6_waysFrom_20 (by decide) ?_
      refine g_goto 25 dX6_waysFrom_21 rfl ?_
      exact g_lret rfl dX6_waysFrom_25

def X6_aim_L42 (x3 : Int32) (x4 : Int32) (x5 : Int32) (k81 : Mem → Option (Mem × Unit)) : Nat → Mem → Int32 → Option (Mem × Unit)
  | 0, _, _ => none
  | n + 1, σ, x6 => (if (σ.1 605 0 0) < x6 then k81 σ else ((X6_wayOf σ x4 x5 x6).bind fun q2 => (X6_waysFrom q2.1 x4 x5 x6).bind fun q3 => ck q2.2 714 <| X6_aim_L42 x3 x4 x5 k81 n ((uJ q3.1 602 0 q2.2.toNatClampNeg q3.2)) ((x6 + (1 : Int32)))))
def X6_aim_L32 (x3 : Int32) (x4 : Int32) (k87 : Mem → Option (Mem × Unit)) : Nat → Mem → Int32 → Option (Mem × Unit)
  | 0, _, _ => none
  | n + 1, σ, x5 => (if (6 : Int32) ≤ x5 then k87 σ else (X6_aim_L42 x3 x4 x5 (fun (s6 : Mem) => (X6_aim_L32 x3 x4 k87 n s6 ((x5 + (1 : Int32))))) FU σ (0 : Int32)))
def X6_aim_L16 (x3 : Int32) (k93 : Mem → Option (Mem × Unit)) : Nat → Mem → Int32 → Option (Mem × Unit)
  | 0, _, _ => none
  | n + 1, σ, x4 => (if x3 < x4 then k93 σ else (if (6 : Int32) < x4 then k93 σ else (X6_aim_L32 x3 x4 (fun (s9 : Mem) => (X6_aim_L16 x3 k93 n s9 ((x4 + (1 : Int32))))) FU σ (0 : Int32))))
def X6_aim (σ : Mem) (a1 : Int64) (a3 : Int32) : Option (Mem × Unit) := ((X7_signsIn ((uJ σ 604 0 0 a1)) a1).bind fun q1 => X6_aim_L16 a3 (fun (s12 : Mem) => (some (s12, ()))) FU ((uI q1.1 605 0 0 q1.2)) (1 : Int32))
set_option maxRecDepth 100000 in
set_option maxHeartbeats 4000000 in
theorem t_X6_aim_L42 (X : GX) (x3 : Int32) (x4 : Int32) (x5 : Int32) (k81 : Mem → Option (Mem × Unit)) (hk81 : ∀ (σ : Mem), GS (KM enV X) X mX6_aim σ 81 [(0, .ref (xad X (85))), (3, .int x3), (4, .int x4), (5, .int x5)] [] (k81 σ)) : ∀ (n : Nat) (σ : Mem) (x6 : Int32), GS (KM enV X) X mX6_aim σ 42 [(0, .ref (xad X (85))), (3, .int x3), (4, .int x4), (5, .int x5), (6, .int x6)] [] (X6_aim_L42 x3 x4 x5 k81 n σ x6) := by
  intro n
  induction n with
  | zero => intros; exact g_none
  | succ n ih =>
    intro σ x6
    rw [X6_aim_L42]
    refine g_iload 4 dX6_aim_42 rfl ?_
    refine g_aload_n 0 dX6_aim_44 rfl ?_
    refine gf_X6_5 fl_X6_29 dX6_aim_45 ?_
    refine g_icmp_gt 81 dX6_aim_48 rfl (fun _ => ?_) (fun _ => ?_)
    · refine g_sub [0, 1, 2, 3] rfl ?_
      exact hk81 σ
    · refine g_aload_n 0 dX6_aim_51 rfl ?_
      refine gf_X6_2 fl_X6_19 dX6_aim_52 ?_
      refine g_iload 2 dX6_aim_55 rfl ?_
      refine g_iload 3 dX6_aim_57 rfl ?_
      refine g_iload 4 dX6_aim_59 rfl ?_
      refine g_callSI (c_X6_wayOf σ x4 x5 x6) okX6_wayOf ⟨by decide, by decide⟩ ml_X6_51 rfl rfl (Nat.le_of_ble_eq_true rfl) dX6_aim_61 (fun q2 => ?_)
      refine g_aload_n 0 dX6_aim_64 rfl ?_
      refine g_iload 2 dX6_aim_65 rfl ?_
      refine g_iload 3 dX6_aim_67 rfl ?_
      refine g_iload 4 dX6_aim_69 rfl ?_
      refine g_callVJ (c_X6_waysFrom q2.1 x4 x5 x6) okX6_waysFrom ⟨by decide, by decide⟩ ml_X6_55 sh_85 no_85 rfl rfl [.int x4, .int x5, .int x6] rfl rfl rfl (Nat.le_of_ble_eq_true rfl) dX6_aim_71 (fun q3 => ?_)
      refine g_last sh_88 no_88 dX6_aim_74 (fun _ => ?_)
      refine g_iinc 4 [(6, .int ((x6 + (1 : Int32)))), (0, .ref (xad X (85))), (3, .int x3), (4, .int x4), (5, .int x5)] dX6_aim_75 rfl (v := x6 + (1 : Int32)) rfl (by decide) rfl ?_
      refine g_goto 42 dX6_aim_78 rfl ?_
      refine g_sub [1, 2, 3, 4, 0] rfl ?_
      exact ih ((uJ q3.1 602 0 q2.2.toNatClampNeg q3.2)) ((x6 + (1 : Int32)))

set_option maxRecDepth 100000 in
set_option maxHeartbeats 4000000 in
theorem t_X6_aim_L32 (X : GX) (x3 : Int32) (x4 : Int32) (k87 : Mem → Option (Mem × Unit)) (hk87 : ∀ (σ : Mem), GS (KM enV X) X mX6_aim σ 87 [(0, .ref (xad X (85))), (3, .int x3), (4, .int x4)] [] (k87 σ)) : ∀ (n : Nat) (σ : Mem) (x5 : Int32), GS (KM enV X) X mX6_aim σ 32 [(0, .ref (xad X (85))), (3, .int x3), (4, .int x4), (5, .int x5)] [] (X6_aim_L32 x3 x4 k87 n σ x5) := by
  intro n
  induction n with
  | zero => intros; exact g_none
  | succ n ih =>
    intro σ x5
    rw [X6_aim_L32]
    refine g_iload 3 dX6_aim_32 rfl ?_
    refine g_bipush (6 : Int32) dX6_aim_34 (by decide) ?_
    refine g_icmp_ge 87 dX6_aim_36 rfl (fun _ => ?_) (fun _ => ?_)
    · refine g_sub [0, 1, 2] rfl ?_
      exact hk87 σ
    · refine g_iconst (0 : Int32) dX6_aim_39 (by decide) ?_
      refine g_istore [(6, .int ((0 : Int32))), (0, .ref (xad X (85))), (3, .int x3), (4, .int x4), (5, .int x5)] dX6_aim_40 (by decide) rfl ?_
      refine g_sub [1, 2, 3, 4, 0] rfl ?_
      refine t_X6_aim_L42 X x3 x4 x5 _ (fun s6 => ?_) FU σ (0 : Int32)
      refine g_iinc 3 [(5, .int ((x5 + (1 : Int32)))), (0, .ref (xad X (85))), (3, .int x3), (4, .int x4)] dX6_aim_81 rfl (v := x5 + (1 : Int32)) rfl (by decide) rfl ?_
      refine g_goto 32 dX6_aim_84 rfl ?_
      refine g_sub [1, 2, 3, 0] rfl ?_
      exact ih s6 ((x5 + (1 : Int32)))

set_option maxRecDepth 100000 in
set_option maxHeartbeats 4000000 in
theorem t_X6_aim_L16 (X : GX) (x3 : Int32) (k93 : Mem → Option (Mem × Unit)) (hk93 : ∀ (σ : Mem), GS (KM enV X) X mX6_aim σ 93 [] [] (k93 σ)) : ∀ (n : Nat) (σ : Mem) (x4 : Int32), GS (KM enV X) X mX6_aim σ 16 [(0, .ref (xad X (85))), (3, .int x3), (4, .int x4)] [] (X6_aim_L16 x3 k93 n σ x4) := by
  intro n
  induction n with
  | zero => intros; exact g_none
  | succ n ih =>
    intro σ x4
    rw [X6_aim_L16]
    refine g_iload 2 dX6_aim_16 rfl ?_
    refine g_iload_n 1 dX6_aim_18 rfl ?_
    refine g_icmp_gt 93 dX6_aim_19 rfl (fun _ => ?_) (fun _ => ?_)
    · refine g_sub [] rfl ?_
      exact hk93 σ
    · refine g_iload 2 dX6_aim_22 rfl ?_
      refine g_bipush (6 : Int32) dX6_aim_24 (by decide) ?_
      refine g_icmp_gt 93 dX6_aim_26 rfl (fun _ => ?_) (fun _ => ?_)
      · refine g_sub [] rfl ?_
        exact hk93 σ
      · refine g_iconst (0 : Int32) dX6_aim_29 (by decide) ?_
        refine g_istore [(5, .int ((0 : Int32))), (0, .ref (xad X (85))), (3, .int x3), (4, .int x4)] dX6_aim_30 (by decide) rfl ?_
        refine g_sub [1, 2, 3, 0] rfl ?_
        refine t_X6_aim_L32 X x3 x4 _ (fun s9 => ?_) FU σ (0 : Int32)
        refine g_iinc 2 [(4, .int ((x4 + (1 : Int32)))), (0, .ref (xad X (85))), (3, .int x3)] dX6_aim_87 rfl (v := x4 + (1 : Int32)) rfl (by decide) rfl ?_
        refine g_goto 16 dX6_aim_90 rfl ?_
        refine g_sub [1, 2, 0] rfl ?_
        exact ih s9 ((x4 + (1 : Int32)))

set_option maxRecDepth 100000 in
set_option maxHeartbeats 4000000 in
theorem c_X6_aim (σ : Mem) (a1 : Int64) (a3 : Int32) : CT yX6_aim mX6_aim enV (fun ad => [.ref (ad (85)), .long a1, .int a3]) σ (X6_aim σ a1 a3) := by
  refine CT.of (by decide) rfl (fun _ => Nat.le_of_ble_eq_true rfl) (fun X => ?_)
  show GS (KM enV X) X mX6_aim σ 0 [(0, .ref (xad X (85))), (1, .long a1), (3, .int a3)] [] _
  unfold X6_aim
  refine g_aload_n 0 dX6_aim_0 rfl ?_
  refine g_lload_n 1 dX6_aim_1 rfl ?_
  refine pf_X6_4 fl_X6_25 dX6_aim_2 ?_
  refine g_aload_n 0 dX6_aim_5 rfl ?_
  refine g_lload_n 1 dX6_aim_6 rfl ?_
  refine g_callSI (c_X7_signsIn ((uJ σ 604 0 0 a1)) a1) okX7_signsIn ⟨by decide, by decide⟩ ml_X6_47 rfl rfl (Nat.le_of_ble_eq_true rfl) dX6_aim_7 (fun q1 => ?_)
  refine pf_X6_5 fl_X6_29 dX6_aim_10 ?_
  refine g_iconst (1 : Int32) dX6_aim_13 (by decide) ?_
  refine g_istore [(4, .int ((1 : Int32))), (0, .ref (xad X (85))), (1, .long a1), (3, .int a3)] dX6_aim_14 (by decide) rfl ?_
  refine g_sub [1, 3, 0] rfl ?_
  refine t_X6_aim_L16 X a3 _ (fun s12 => ?_) FU ((uI q1.1 605 0 0 q1.2)) (1 : Int32)
  exact g_vret rfl dX6_aim_93

def X6_many_L22 (x1 : Int32) (k50 : Mem → Int64 → Option (Mem × Int64)) : Nat → Mem → Int64 → Int32 → Option (Mem × Int64)
  | 0, _, _, _ => none
  | n + 1, σ, x2, x4 => (if (6 : Int32) ≤ x4 then k50 σ x2 else ((X6_wayOf σ x1 x4 (0 : Int32)).bind fun q1 => ck q1.2 714 <| lt_ ((x2 + (q1.1.2.1 602 0 q1.2.toNatClampNeg))) fun (v2 : Int64) => X6_many_L22 x1 k50 n q1.1 v2 ((x4 + (1 : Int32)))))
def X6_many (σ : Mem) (a1 : Int32) : Option (Mem × Int64) := (if a1 = 0 then (if (σ.1 605 0 0) = 0 then ((some (σ, (1 : Int64)))) else (some (σ, (0 : Int64)))) else (X6_many_L22 a1 (fun (s5 : Mem) (y2_4 : Int64) => (some (s5, y2_4))) FU σ (0 : Int64) (0 : Int32)))
set_option maxRecDepth 100000 in
set_option maxHeartbeats 4000000 in
theorem t_X6_many_L22 (X : GX) (x1 : Int32) (k50 : Mem → Int64 → Option (Mem × Int64)) (hk50 : ∀ (σ : Mem) (y2 : Int64), GS (KM enJ X) X mX6_many σ 50 [(2, .long y2)] [] (k50 σ y2)) : ∀ (n : Nat) (σ : Mem) (x2 : Int64) (x4 : Int32), GS (KM enJ X) X mX6_many σ 22 [(0, .ref (xad X (85))), (1, .int x1), (2, .long x2), (4, .int x4)] [] (X6_many_L22 x1 k50 n σ x2 x4) := by
  intro n
  induction n with
  | zero => intros; exact g_none
  | succ n ih =>
    intro σ x2 x4
    rw [X6_many_L22]
    refine g_iload 3 dX6_many_22 rfl ?_
    refine g_bipush (6 : Int32) dX6_many_24 (by decide) ?_
    refine g_icmp_ge 50 dX6_many_26 rfl (fun _ => ?_) (fun _ => ?_)
    · refine g_sub [2] rfl ?_
      exact hk50 σ x2
    · refine g_lload_n 2 dX6_many_29 rfl ?_
      refine g_aload_n 0 dX6_many_30 rfl ?_
      refine gf_X6_2 fl_X6_19 dX6_many_31 ?_
      refine g_iload_n 1 dX6_many_34 rfl ?_
      refine g_iload 3 dX6_many_35 rfl ?_
      refine g_iconst (0 : Int32) dX6_many_37 (by decide) ?_
      refine g_callSI (c_X6_wayOf σ x1 x4 (0 : Int32)) okX6_wayOf ⟨by decide, by decide⟩ ml_X6_51 rfl rfl (Nat.le_of_ble_eq_true rfl) dX6_many_38 (fun q1 => ?_)
      refine g_lald sh_88 no_88 dX6_many_41 (fun _ => ?_)
      refine g_ladd dX6_many_42 ?_
      refine g_topl (fun v2 => ?_)
      refine g_lstore_n [(2, .long v2), (0, .ref (xad X (85))), (1, .int x1), (4, .int x4)] dX6_many_43 (by decide) rfl ?_
      refine g_iinc 3 [(4, .int ((x4 + (1 : Int32)))), (2, .long v2), (0, .ref (xad X (85))), (1, .int x1)] dX6_many_44 rfl (v := x4 + (1 : Int32)) rfl (by decide) rfl ?_
      refine g_goto 22 dX6_many_47 rfl ?_
      refine g_sub [2, 3, 1, 0] rfl ?_
      exact ih q1.1 v2 ((x4 + (1 : Int32)))

set_option maxRecDepth 100000 in
set_option maxHeartbeats 4000000 in
theorem c_X6_many (σ : Mem) (a1 : Int32) : CT yX6_many mX6_many enJ (fun ad => [.ref (ad (85)), .int a1]) σ (X6_many σ a1) := by
  refine CT.of (by decide) rfl (fun _ => Nat.le_of_ble_eq_true rfl) (fun X => ?_)
  show GS (KM enJ X) X mX6_many σ 0 [(0, .ref (xad X (85))), (1, .int a1)] [] _
  unfold X6_many
  refine g_iload_n 1 dX6_many_0 rfl ?_
  refine g_if_ne 17 dX6_many_1 rfl (fun _ => ?_) (fun _ => ?_)
  · refine g_lconst (0 : Int64) dX6_many_17 (by decide) ?_
    refine g_lstore_n [(2, .long ((0 : Int64))), (0, .ref (xad X (85))), (1, .int a1)] dX6_many_18 (by decide) rfl ?_
    refine g_iconst (0 : Int32) dX6_many_19 (by decide) ?_
    refine g_istore [(4, .int ((0 : Int32))), (2, .long ((0 : Int64))), (0, .ref (xad X (85))), (1, .int a1)] dX6_many_20 (by decide) rfl ?_
    refine g_sub [2, 3, 1, 0] rfl ?_
    refine t_X6_many_L22 X a1 _ (fun s5 y2_4 => ?_) FU σ (0 : Int64) (0 : Int32)
    refine g_lload_n 0 dX6_many_50 rfl ?_
    exact g_lret rfl dX6_many_51
  · refine g_aload_n 0 dX6_many_4 rfl ?_
    refine gf_X6_5 fl_X6_29 dX6_many_5 ?_
    refine g_if_ne 15 dX6_many_8 rfl (fun _ => ?_) (fun _ => ?_)
    · refine g_lconst (0 : Int64) dX6_many_15 (by decide) ?_
      exact g_lret rfl dX6_many_16
    · refine g_lconst (1 : Int64) dX6_many_11 (by decide) ?_
      refine g_goto 16 dX6_many_12 rfl ?_
      exact g_lret rfl dX6_many_16

def X6_withSign (σ : Mem) (a0 : Int64) (a2 : Int32) (a3 : Int64) : Option (Mem × Int64) := (some (σ, ((a0 &&& a3) ||| ((a0 &&& (a3 ^^^ (-1 : Int64))) <<< (((1 : Int32) <<< (a2 &&& 31)).toInt64 &&& 63)))))
set_option maxRecDepth 100000 in
set_option maxHeartbeats 4000000 in
theorem c_X6_withSign (σ : Mem) (a0 : Int64) (a2 : Int32) (a3 : Int64) : CT yX6_withSign mX6_withSign enJ (fun ad => [.long a0, .int a2, .long a3]) σ (X6_withSign σ a0 a2 a3) := by
  refine CT.of (by decide) rfl (fun _ => Nat.le_of_ble_eq_true rfl) (fun X => ?_)
  show GS (KM enJ X) X mX6_withSign σ 0 [(0, .long a0), (2, .int a2), (3, .long a3)] [] _
  unfold X6_withSign
  refine g_lload_n 0 dX6_withSign_0 rfl ?_
  refine g_lload_n 2 dX6_withSign_1 rfl ?_
  refine g_land dX6_withSign_2 ?_
  refine g_lload_n 0 dX6_withSign_3 rfl ?_
  refine g_lload_n 2 dX6_withSign_4 rfl ?_
  refine g_ldc2 (-1 : Int64) dX6_withSign_5 kl_X6_72 ?_
  refine g_lxor dX6_withSign_8 ?_
  refine g_land dX6_withSign_9 ?_
  refine g_iconst (1 : Int32) dX6_withSign_10 (by decide) ?_
  refine g_iload_n 1 dX6_withSign_11 rfl ?_
  refine g_ishl dX6_withSign_12 ?_
  refine g_lshl dX6_withSign_13 ?_
  refine g_lor dX6_withSign_14 ?_
  exact g_lret rfl dX6_withSign_15

def X6_usedFrom_L30 (x1 : Int32) (x2 : Int32) (x3 : Int32) (k89 : Mem → Int64 → Option (Mem × Int64)) : Nat → Mem → Int64 → Int32 → Option (Mem × Int64)
  | 0, _, _, _ => none
  | n + 1, σ, x4, x6 => (if (6 : Int32) ≤ x6 then k89 σ x4 else (if x1 ≤ (1 : Int32) then k89 σ x4 else ((X6_placeAfter σ x2 x6 x3).bind fun q1 => if q1.2 = (-9 : Int32) then ((lt_ ((x4 ||| (0 : Int64))) fun (v5 : Int64) => X6_usedFrom_L30 x1 x2 x3 k89 n q1.1 v5 ((x6 + (1 : Int32))))) else ((X6_wayOf q1.1 ((x1 - (1 : Int32))) x6 q1.2).bind fun q2 => ck q2.2 714 <| lt_ ((x4 ||| (q2.1.2.1 602 0 q2.2.toNatClampNeg))) fun (v3 : Int64) => X6_usedFrom_L30 x1 x2 x3 k89 n q2.1 v3 ((x6 + (1 : Int32)))))))
def X6_usedFrom (σ : Mem) (a1 : Int32) (a2 : Int32) (a3 : Int32) : Option (Mem × Int64) := (if a1 = (1 : Int32) then ((X6_placeAfter σ a2 (6 : Int32) a3).bind fun q10 => if q10.2 = (q10.1.1 605 0 0) then ((X6_usedFrom_L30 a1 a2 a3 (fun (s15 : Mem) (y4_14 : Int64) => (if (6 : Int32) ≤ a2 then (some (s15, y4_14)) else (ck a2 6 <| (X6_withSign s15 y4_14 a2 ((HVV a2.toNatClampNeg))).bind fun q16 => (some (q16.1, q16.2))))) FU q10.1 (1 : Int64) (0 : Int32))) else (X6_usedFrom_L30 a1 a2 a3 (fun (s12 : Mem) (y4_11 : Int64) => (if (6 : Int32) ≤ a2 then (some (s12, y4_11)) else (ck a2 6 <| (X6_withSign s12 y4_11 a2 ((HVV a2.toNatClampNeg))).bind fun q13 => (some (q13.1, q13.2))))) FU q10.1 (0 : Int64) (0 : Int32))) else (X6_usedFrom_L30 a1 a2 a3 (fun (s8 : Mem) (y4_7 : Int64) => (if (6 : Int32) ≤ a2 then (some (s8, y4_7)) else (ck a2 6 <| (X6_withSign s8 y4_7 a2 ((HVV a2.toNatClampNeg))).bind fun q9 => (some (q9.1, q9.2))))) FU σ (0 : Int64) (0 : Int32)))
set_option maxRecDepth 100000 in
set_option maxHeartbeats 4000000 in
theorem t_X6_usedFrom_L30 (X : GX) (x1 : Int32) (x2 : Int32) (x3 : Int32) (k89 : Mem → Int64 → Option (Mem × Int64)) (hk89 : ∀ (σ : Mem) (y4 : Int64), GS (KM enJ X) X mX6_usedFrom σ 89 [(2, .int x2), (4, .long y4)] [] (k89 σ y4)) : ∀ (n : Nat) (σ : Mem) (x4 : Int64) (x6 : Int32), GS (KM enJ X) X mX6_usedFrom σ 30 [(0, .ref (xad X (85))), (1, .int x1), (2, .int x2), (3, .int x3), (4, .long x4), (6, .int x6)] [] (X6_usedFrom_L30 x1 x2 x3 k89 n σ x4 x6) := by
  intro n
  induction n with
  | zero => intros; exact g_none
  | succ n ih =>
    intro σ x4 x6
    rw [X6_usedFrom_L30]
    refine g_iload 5 dX6_usedFrom_30 rfl ?_
    refine g_bipush (6 : Int32) dX6_usedFrom_32 (by decide) ?_
    refine g_icmp_ge 89 dX6_usedFrom_34 rfl (fun _ => ?_) (fun _ => ?_)
    · refine g_sub [2, 4] rfl ?_
      exact hk89 σ x4
    · refine g_iload_n 1 dX6_usedFrom_37 rfl ?_
      refine g_iconst (1 : Int32) dX6_usedFrom_38 (by decide) ?_
      refine g_icmp_le 89 dX6_usedFrom_39 rfl (fun _ => ?_) (fun _ => ?_)
      · refine g_sub [2, 4] rfl ?_
        exact hk89 σ x4
      · refine g_aload_n 0 dX6_usedFrom_42 rfl ?_
        refine g_iload_n 2 dX6_usedFrom_43 rfl ?_
        refine g_iload 5 dX6_usedFrom_44 rfl ?_
        refine g_iload_n 3 dX6_usedFrom_46 rfl ?_
        refine g_callVI (c_X6_placeAfter σ x2 x6 x3) okX6_placeAfter ⟨by decide, by decide⟩ ml_X6_59 sh_85 no_85 rfl rfl [.int x2, .int x6, .int x3] rfl rfl rfl (Nat.le_of_ble_eq_true rfl) dX6_usedFrom_47 (fun q1 => ?_)
        refine g_istore [(7, .int (q1.2)), (0, .ref (xad X (85))), (1, .int x1), (2, .int x2), (3, .int x3), (4, .long x4), (6, .int x6)] dX6_usedFrom_50 (by decide) rfl ?_
        refine g_lload 5 dX6_usedFrom_52 rfl ?_
        refine g_iload 0 dX6_usedFrom_54 rfl ?_
        refine g_bipush (-9 : Int32) dX6_usedFrom_56 (by decide) ?_
        refine g_icmp_ne 65 dX6_usedFrom_58 rfl (fun _ => ?_) (fun _ => ?_)
        · refine g_aload_n 1 dX6_usedFrom_65 rfl ?_
          refine gf_X6_2 fl_X6_19 dX6_usedFrom_66 ?_
          refine g_iload_n 2 dX6_usedFrom_69 rfl ?_
          refine g_iconst (1 : Int32) dX6_usedFrom_70 (by decide) ?_
          refine g_isub dX6_usedFrom_71 ?_
          refine g_iload 6 dX6_usedFrom_72 rfl ?_
          refine g_iload 0 dX6_usedFrom_74 rfl ?_
          refine g_callSI (c_X6_wayOf q1.1 ((x1 - (1 : Int32))) x6 q1.2) okX6_wayOf ⟨by decide, by decide⟩ ml_X6_51 rfl rfl (Nat.le_of_ble_eq_true rfl) dX6_usedFrom_76 (fun q2 => ?_)
          refine g_lald sh_88 no_88 dX6_usedFrom_79 (fun _ => ?_)
          refine g_lor dX6_usedFrom_80 ?_
          refine g_topl (fun v3 => ?_)
          refine g_lstore [(4, .long v3), (7, .int (q1.2)), (0, .ref (xad X (85))), (1, .int x1), (2, .int x2), (3, .int x3), (6, .int x6)] dX6_usedFrom_81 (by decide) rfl ?_
          refine g_iinc 6 [(6, .int ((x6 + (1 : Int32)))), (4, .long v3), (7, .int (q1.2)), (0, .ref (xad X (85))), (1, .int x1), (2, .int x2), (3, .int x3)] dX6_usedFrom_83 rfl (v := x6 + (1 : Int32)) rfl (by decide) rfl ?_
          refine g_goto 30 dX6_usedFrom_86 rfl ?_
          refine g_sub [3, 4, 5, 6, 1, 0] rfl ?_
          exact ih q2.1 v3 ((x6 + (1 : Int32)))
        · refine g_lconst (0 : Int64) dX6_usedFrom_61 (by decide) ?_
          refine g_goto 80 dX6_usedFrom_62 rfl ?_
          refine g_lor dX6_usedFrom_80 ?_
          refine g_topl (fun v5 => ?_)
          refine g_lstore [(4, .long v5), (7, .int (q1.2)), (0, .ref (xad X (85))), (1, .int x1), (2, .int x2), (3, .int x3), (6, .int x6)] dX6_usedFrom_81 (by decide) rfl ?_
          refine g_iinc 6 [(6, .int ((x6 + (1 : Int32)))), (4, .long v5), (7, .int (q1.2)), (0, .ref (xad X (85))), (1, .int x1), (2, .int x2), (3, .int x3)] dX6_usedFrom_83 rfl (v := x6 + (1 : Int32)) rfl (by decide) rfl ?_
          refine g_goto 30 dX6_usedFrom_86 rfl ?_
          refine g_sub [3, 4, 5, 6, 1, 0] rfl ?_
          exact ih q1.1 v5 ((x6 + (1 : Int32)))

set_option maxRecDepth 100000 in
set_option maxHeartbeats 4000000 in
theorem c_X6_usedFrom (σ : Mem) (a1 : Int32) (a2 : Int32) (a3 : Int32) : CT yX6_usedFrom mX6_usedFrom enJ (fun ad => [.ref (ad (85)), .int a1, .int a2, .int a3]) σ (X6_usedFrom σ a1 a2 a3) := by
  refine CT.of (by decide) rfl (fun _ => Nat.le_of_ble_eq_true rfl) (fun X => ?_)
  show GS (KM enJ X) X mX6_usedFrom σ 0 [(0, .ref (xad X (85))), (1, .int a1), (2, .int a2), (3, .int a3)] [] _
  unfold X6_usedFrom
  refine g_iload_n 1 dX6_usedFrom_0 rfl ?_
  refine g_iconst (1 : Int32) dX6_usedFrom_1 (by decide) ?_
  refine g_icmp_ne 24 dX6_usedFrom_2 rfl (fun _ => ?_) (fun _ => ?_)
  · refine g_lconst (0 : Int64) dX6_usedFrom_24 (by decide) ?_
    refine g_lstore [(4, .long ((0 : Int64))), (0, .ref (xad X (85))), (1, .int a1), (2, .int a2), (3, .int a3)] dX6_usedFrom_25 (by decide) rfl ?_
    refine g_iconst (0 : Int32) dX6_usedFrom_27 (by decide) ?_
    refine g_istore [(6, .int ((0 : Int32))), (4, .long ((0 : Int64))), (0, .ref (xad X (85))), (1, .int a1), (2, .int a2), (3, .int a3)] dX6_usedFrom_28 (by decide) rfl ?_
    refine g_sub [2, 3, 4, 5, 1, 0] rfl ?_
    refine t_X6_usedFrom_L30 X a1 a2 a3 _ (fun s8 y4_7 => ?_) FU σ (0 : Int64) (0 : Int32)
    refine g_iload_n 0 dX6_usedFrom_89 rfl ?_
    refine g_gets2 fl_X6_65 dX6_usedFrom_90 ?_
    refine g_tlen2 dX6_usedFrom_93 ?_
    refine g_icmp_ge 111 dX6_usedFrom_94 rfl (fun _ => ?_) (fun _ => ?_)
    · refine g_lload 1 dX6_usedFrom_111 rfl ?_
      exact g_lret rfl dX6_usedFrom_113
    · refine g_lload 1 dX6_usedFrom_97 rfl ?_
      refine g_iload_n 0 dX6_usedFrom_99 rfl ?_
      refine g_gets2 fl_X6_65 dX6_usedFrom_100 ?_
      refine g_iload_n 0 dX6_usedFrom_103 rfl ?_
      refine g_tald2 dX6_usedFrom_104 (fun _ => ?_)
      refine g_callSJ (c_X6_withSign s8 y4_7 a2 ((HVV a2.toNatClampNeg))) okX6_withSign ⟨by decide, by decide⟩ ml_X6_68 rfl rfl (Nat.le_of_ble_eq_true rfl) dX6_usedFrom_105 (fun q9 => ?_)
      refine g_goto 113 dX6_usedFrom_108 rfl ?_
      exact g_lret rfl dX6_usedFrom_113
  · refine g_aload_n 0 dX6_usedFrom_5 rfl ?_
    refine g_iload_n 2 dX6_usedFrom_6 rfl ?_
    refine g_bipush (6 : Int32) dX6_usedFrom_7 (by decide) ?_
    refine g_iload_n 3 dX6_usedFrom_9 rfl ?_
    refine g_callVI (c_X6_placeAfter σ a2 (6 : Int32) a3) okX6_placeAfter ⟨by decide, by decide⟩ ml_X6_59 sh_85 no_85 rfl rfl [.int a2, .int ((6 : Int32)), .int a3] rfl rfl rfl (Nat.le_of_ble_eq_true rfl) dX6_usedFrom_10 (fun q10 => ?_)
    refine g_aload_n 0 dX6_usedFrom_13 rfl ?_
    refine gf_X6_5 fl_X6_29 dX6_usedFrom_14 ?_
    refine g_icmp_ne 24 dX6_usedFrom_17 rfl (fun _ => ?_) (fun _ => ?_)
    · refine g_lconst (0 : Int64) dX6_usedFrom_24 (by decide) ?_
      refine g_lstore [(4, .long ((0 : Int64))), (0, .ref (xad X (85))), (1, .int a1), (2, .int a2), (3, .int a3)] dX6_usedFrom_25 (by decide) rfl ?_
      refine g_iconst (0 : Int32) dX6_usedFrom_27 (by decide) ?_
      refine g_istore [(6, .int ((0 : Int32))), (4, .long ((0 : Int64))), (0, .ref (xad X (85))), (1, .int a1), (2, .int a2), (3, .int a3)] dX6_usedFrom_28 (by decide) rfl ?_
      refine g_sub [2, 3, 4, 5, 1, 0] rfl ?_
      refine t_X6_usedFrom_L30 X a1 a2 a3 _ (fun s12 y4_11 => ?_) FU q10.1 (0 : Int64) (0 : Int32)
      refine g_iload_n 0 dX6_usedFrom_89 rfl ?_
      refine g_gets2 fl_X6_65 dX6_usedFrom_90 ?_
      refine g_tlen2 dX6_usedFrom_93 ?_
      refine g_icmp_ge 111 dX6_usedFrom_94 rfl (fun _ => ?_) (fun _ => ?_)
      · refine g_lload 1 dX6_usedFrom_111 rfl ?_
        exact g_lret rfl dX6_usedFrom_113
      · refine g_lload 1 dX6_usedFrom_97 rfl ?_
        refine g_iload_n 0 dX6_usedFrom_99 rfl ?_
        refine g_gets2 fl_X6_65 dX6_usedFrom_100 ?_
        refine g_iload_n 0 dX6_usedFrom_103 rfl ?_
        refine g_tald2 dX6_usedFrom_104 (fun _ => ?_)
        refine g_callSJ (c_X6_withSign s12 y4_11 a2 ((HVV a2.toNatClampNeg))) okX6_withSign ⟨by decide, by decide⟩ ml_X6_68 rfl rfl (Nat.le_of_ble_eq_true rfl) dX6_usedFrom_105 (fun q13 => ?_)
        refine g_goto 113 dX6_usedFrom_108 rfl ?_
        exact g_lret rfl dX6_usedFrom_113
    · refine g_lconst (1 : Int64) dX6_usedFrom_20 (by decide) ?_
      refine g_goto 25 dX6_usedFrom_21 rfl ?_
      refine g_lstore [(4, .long ((1 : Int64))), (0, .ref (xad X (85))), (1, .int a1), (2, .int a2), (3, .int a3)] dX6_usedFrom_25 (by decide) rfl ?_
      refine g_iconst (0 : Int32) dX6_usedFrom_27 (by decide) ?_
      refine g_istore [(6, .int ((0 : Int32))), (4, .long ((1 : Int64))), (0, .ref (xad X (85))), (1, .int a1), (2, .int a2), (3, .int a3)] dX6_usedFrom_28 (by decide) rfl ?_
      refine g_sub [2, 3, 4, 5, 1, 0] rfl ?_
      refine t_X6_usedFrom_L30 X a1 a2 a3 _ (fun s15 y4_14 => ?_) FU q10.1 (1 : Int64) (0 : Int32)
      refine g_iload_n 0 dX6_usedFrom_89 rfl ?_
      refine g_gets2 fl_X6_65 dX6_usedFrom_90 ?_
      refine g_tlen2 dX6_usedFrom_93 ?_
      refine g_icmp_ge 111 dX6_usedFrom_94 rfl (fun _ => ?_) (fun _ => ?_)
      · refine g_lload 1 dX6_usedFrom_111 rfl ?_
        exact g_lret rfl dX6_usedFrom_113
      · refine g_lload 1 dX6_usedFrom_97 rfl ?_
        refine g_iload_n 0 dX6_usedFrom_99 rfl ?_
        refine g_gets2 fl_X6_65 dX6_usedFrom_100 ?_
        refine g_iload_n 0 dX6_usedFrom_103 rfl ?_
        refine g_tald2 dX6_usedFrom_104 (fun _ => ?_)
        refine g_callSJ (c_X6_withSign s15 y4_14 a2 ((HVV a2.toNatClampNeg))) okX6_withSign ⟨by decide, by decide⟩ ml_X6_68 rfl rfl (Nat.le_of_ble_eq_true rfl) dX6_usedFrom_105 (fun q16 => ?_)
        refine g_goto 113 dX6_usedFrom_108 rfl ?_
        exact g_lret rfl dX6_usedFrom_113

def X6_usedFor_L48 (x3 : Int64) (x5 : Int32) (x6 : Int32) (k87 : Mem → Option (Mem × Int64)) : Nat → Mem → Int32 → Option (Mem × Int64)
  | 0, _, _ => none
  | n + 1, σ, x7 => (if (σ.1 605 0 0) < x7 then k87 σ else ((X6_wayOf σ x5 x6 x7).bind fun q2 => (X6_usedFrom q2.1 x5 x6 x7).bind fun q3 => ck q2.2 714 <| X6_usedFor_L48 x3 x5 x6 k87 n ((uJ q3.1 602 0 q2.2.toNatClampNeg q3.2)) ((x7 + (1 : Int32)))))
def X6_usedFor_L38 (x5 : Int32) (k109 : Mem → Int64 → Option (Mem × Int64)) : Nat → Mem → Int64 → Int32 → Option (Mem × Int64)
  | 0, _, _, _ => none
  | n + 1, σ, x3, x6 => (if (6 : Int32) ≤ x6 then k109 σ x3 else (X6_usedFor_L48 x3 x5 x6 (fun (s6 : Mem) => ((X6_wayOf s6 x5 x6 (0 : Int32)).bind fun q7 => ck q7.2 714 <| lt_ ((x3 ||| (q7.1.2.1 602 0 q7.2.toNatClampNeg))) fun (v8 : Int64) => X6_usedFor_L38 x5 k109 n q7.1 v8 ((x6 + (1 : Int32))))) FU σ (0 : Int32)))
def X6_usedFor_L29 (k115 : Mem → Int64 → Option (Mem × Int64)) : Nat → Mem → Int64 → Int32 → Option (Mem × Int64)
  | 0, _, _, _ => none
  | n + 1, σ, x3, x5 => (if (4 : Int32) < x5 then k115 σ x3 else (X6_usedFor_L38 x5 (fun (s11 : Mem) (y3_10 : Int64) => (X6_usedFor_L29 k115 n s11 y3_10 ((x5 + (1 : Int32))))) FU σ x3 (0 : Int32)))
def X6_usedFor (σ : Mem) (a1 : Int64) : Option (Mem × Int64) := ((X7_signsIn ((uJ σ 604 0 0 a1)) a1).bind fun q1 => if (((uI q1.1 605 0 0 q1.2)).1 605 0 0) = 0 then ((X6_usedFor_L29 (fun (s16 : Mem) (y3_15 : Int64) => (some (s16, y3_15))) FU ((uI q1.1 605 0 0 q1.2)) (1 : Int64) (1 : Int32))) else (X6_usedFor_L29 (fun (s14 : Mem) (y3_13 : Int64) => (some (s14, y3_13))) FU ((uI q1.1 605 0 0 q1.2)) (0 : Int64) (1 : Int32)))
set_option maxRecDepth 100000 in
set_option maxHeartbeats 4000000 in
theorem t_X6_usedFor_L48 (X : GX) (x3 : Int64) (x5 : Int32) (x6 : Int32) (k87 : Mem → Option (Mem × Int64)) (hk87 : ∀ (σ : Mem), GS (KM enJ X) X mX6_usedFor σ 87 [(0, .ref (xad X (85))), (3, .long x3), (5, .int x5), (6, .int x6)] [] (k87 σ)) : ∀ (n : Nat) (σ : Mem) (x7 : Int32), GS (KM enJ X) X mX6_usedFor σ 48 [(0, .ref (xad X (85))), (3, .long x3), (5, .int x5), (6, .int x6), (7, .int x7)] [] (X6_usedFor_L48 x3 x5 x6 k87 n σ x7) := by
  intro n
  induction n with
  | zero => intros; exact g_none
  | succ n ih =>
    intro σ x7
    rw [X6_usedFor_L48]
    refine g_iload 4 dX6_usedFor_48 rfl ?_
    refine g_aload_n 0 dX6_usedFor_50 rfl ?_
    refine gf_X6_5 fl_X6_29 dX6_usedFor_51 ?_
    refine g_icmp_gt 87 dX6_usedFor_54 rfl (fun _ => ?_) (fun _ => ?_)
    · refine g_sub [0, 1, 2, 3] rfl ?_
      exact hk87 σ
    · refine g_aload_n 0 dX6_usedFor_57 rfl ?_
      refine gf_X6_2 fl_X6_19 dX6_usedFor_58 ?_
      refine g_iload 2 dX6_usedFor_61 rfl ?_
      refine g_iload 3 dX6_usedFor_63 rfl ?_
      refine g_iload 4 dX6_usedFor_65 rfl ?_
      refine g_callSI (c_X6_wayOf σ x5 x6 x7) okX6_wayOf ⟨by decide, by decide⟩ ml_X6_51 rfl rfl (Nat.le_of_ble_eq_true rfl) dX6_usedFor_67 (fun q2 => ?_)
      refine g_aload_n 0 dX6_usedFor_70 rfl ?_
      refine g_iload 2 dX6_usedFor_71 rfl ?_
      refine g_iload 3 dX6_usedFor_73 rfl ?_
      refine g_iload 4 dX6_usedFor_75 rfl ?_
      refine g_callVJ (c_X6_usedFrom q2.1 x5 x6 x7) okX6_usedFrom ⟨by decide, by decide⟩ ml_X6_62 sh_85 no_85 rfl rfl [.int x5, .int x6, .int x7] rfl rfl rfl (Nat.le_of_ble_eq_true rfl) dX6_usedFor_77 (fun q3 => ?_)
      refine g_last sh_88 no_88 dX6_usedFor_80 (fun _ => ?_)
      refine g_iinc 4 [(7, .int ((x7 + (1 : Int32)))), (0, .ref (xad X (85))), (3, .long x3), (5, .int x5), (6, .int x6)] dX6_usedFor_81 rfl (v := x7 + (1 : Int32)) rfl (by decide) rfl ?_
      refine g_goto 48 dX6_usedFor_84 rfl ?_
      refine g_sub [1, 2, 3, 4, 0] rfl ?_
      exact ih ((uJ q3.1 602 0 q2.2.toNatClampNeg q3.2)) ((x7 + (1 : Int32)))

set_option maxRecDepth 100000 in
set_option maxHeartbeats 4000000 in
theorem t_X6_usedFor_L38 (X : GX) (x5 : Int32) (k109 : Mem → Int64 → Option (Mem × Int64)) (hk109 : ∀ (σ : Mem) (y3 : Int64), GS (KM enJ X) X mX6_usedFor σ 109 [(0, .ref (xad X (85))), (3, .long y3), (5, .int x5)] [] (k109 σ y3)) : ∀ (n : Nat) (σ : Mem) (x3 : Int64) (x6 : Int32), GS (KM enJ X) X mX6_usedFor σ 38 [(0, .ref (xad X (85))), (3, .long x3), (5, .int x5), (6, .int x6)] [] (X6_usedFor_L38 x5 k109 n σ x3 x6) := by
  intro n
  induction n with
  | zero => intros; exact g_none
  | succ n ih =>
    intro σ x3 x6
    rw [X6_usedFor_L38]
    refine g_iload 3 dX6_usedFor_38 rfl ?_
    refine g_bipush (6 : Int32) dX6_usedFor_40 (by decide) ?_
    refine g_icmp_ge 109 dX6_usedFor_42 rfl (fun _ => ?_) (fun _ => ?_)
    · refine g_sub [0, 1, 2] rfl ?_
      exact hk109 σ x3
    · refine g_iconst (0 : Int32) dX6_usedFor_45 (by decide) ?_
      refine g_istore [(7, .int ((0 : Int32))), (0, .ref (xad X (85))), (3, .long x3), (5, .int x5), (6, .int x6)] dX6_usedFor_46 (by decide) rfl ?_
      refine g_sub [1, 2, 3, 4, 0] rfl ?_
      refine t_X6_usedFor_L48 X x3 x5 x6 _ (fun s6 => ?_) FU σ (0 : Int32)
      refine g_lload_n 1 dX6_usedFor_87 rfl ?_
      refine g_aload_n 0 dX6_usedFor_88 rfl ?_
      refine gf_X6_2 fl_X6_19 dX6_usedFor_89 ?_
      refine g_iload 2 dX6_usedFor_92 rfl ?_
      refine g_iload 3 dX6_usedFor_94 rfl ?_
      refine g_iconst (0 : Int32) dX6_usedFor_96 (by decide) ?_
      refine g_callSI (c_X6_wayOf s6 x5 x6 (0 : Int32)) okX6_wayOf ⟨by decide, by decide⟩ ml_X6_51 rfl rfl (Nat.le_of_ble_eq_true rfl) dX6_usedFor_97 (fun q7 => ?_)
      refine g_lald sh_88 no_88 dX6_usedFor_100 (fun _ => ?_)
      refine g_lor dX6_usedFor_101 ?_
      refine g_topl (fun v8 => ?_)
      refine g_lstore_n [(3, .long v8), (0, .ref (xad X (85))), (5, .int x5), (6, .int x6)] dX6_usedFor_102 (by decide) rfl ?_
      refine g_iinc 3 [(6, .int ((x6 + (1 : Int32)))), (3, .long v8), (0, .ref (xad X (85))), (5, .int x5)] dX6_usedFor_103 rfl (v := x6 + (1 : Int32)) rfl (by decide) rfl ?_
      refine g_goto 38 dX6_usedFor_106 rfl ?_
      refine g_sub [2, 1, 3, 0] rfl ?_
      exact ih q7.1 v8 ((x6 + (1 : Int32)))

set_option maxRecDepth 100000 in
set_option maxHeartbeats 4000000 in
theorem t_X6_usedFor_L29 (X : GX) (k115 : Mem → Int64 → Option (Mem × Int64)) (hk115 : ∀ (σ : Mem) (y3 : Int64), GS (KM enJ X) X mX6_usedFor σ 115 [(3, .long y3)] [] (k115 σ y3)) : ∀ (n : Nat) (σ : Mem) (x3 : Int64) (x5 : Int32), GS (KM enJ X) X mX6_usedFor σ 29 [(0, .ref (xad X (85))), (3, .long x3), (5, .int x5)] [] (X6_usedFor_L29 k115 n σ x3 x5) := by
  intro n
  induction n with
  | zero => intros; exact g_none
  | succ n ih =>
    intro σ x3 x5
    rw [X6_usedFor_L29]
    refine g_iload 2 dX6_usedFor_29 rfl ?_
    refine g_iconst (4 : Int32) dX6_usedFor_31 (by decide) ?_
    refine g_icmp_gt 115 dX6_usedFor_32 rfl (fun _ => ?_) (fun _ => ?_)
    · refine g_sub [1] rfl ?_
      exact hk115 σ x3
    · refine g_iconst (0 : Int32) dX6_usedFor_35 (by decide) ?_
      refine g_istore [(6, .int ((0 : Int32))), (0, .ref (xad X (85))), (3, .long x3), (5, .int x5)] dX6_usedFor_36 (by decide) rfl ?_
      refine g_sub [1, 2, 3, 0] rfl ?_
      refine t_X6_usedFor_L38 X x5 _ (fun s11 y3_10 => ?_) FU σ x3 (0 : Int32)
      refine g_iinc 2 [(5, .int ((x5 + (1 : Int32)))), (0, .ref (xad X (85))), (3, .long y3_10)] dX6_usedFor_109 rfl (v := x5 + (1 : Int32)) rfl (by decide) rfl ?_
      refine g_goto 29 dX6_usedFor_112 rfl ?_
      refine g_sub [1, 2, 0] rfl ?_
      exact ih s11 y3_10 ((x5 + (1 : Int32)))

set_option maxRecDepth 100000 in
set_option maxHeartbeats 4000000 in
theorem c_X6_usedFor (σ : Mem) (a1 : Int64) : CT yX6_usedFor mX6_usedFor enJ (fun ad => [.ref (ad (85)), .long a1]) σ (X6_usedFor σ a1) := by
  refine CT.of (by decide) rfl (fun _ => Nat.le_of_ble_eq_true rfl) (fun X => ?_)
  show GS (KM enJ X) X mX6_usedFor σ 0 [(0, .ref (xad X (85))), (1, .long a1)] [] _
  unfold X6_usedFor
  refine g_aload_n 0 dX6_usedFor_0 rfl ?_
  refine g_lload_n 1 dX6_usedFor_1 rfl ?_
  refine pf_X6_4 fl_X6_25 dX6_usedFor_2 ?_
  refine g_aload_n 0 dX6_usedFor_5 rfl ?_
  refine g_lload_n 1 dX6_usedFor_6 rfl ?_
  refine g_callSI (c_X7_signsIn ((uJ σ 604 0 0 a1)) a1) okX7_signsIn ⟨by decide, by decide⟩ ml_X6_47 rfl rfl (Nat.le_of_ble_eq_true rfl) dX6_usedFor_7 (fun q1 => ?_)
  refine pf_X6_5 fl_X6_29 dX6_usedFor_10 ?_
  refine g_aload_n 0 dX6_usedFor_13 rfl ?_
  refine gf_X6_5 fl_X6_29 dX6_usedFor_14 ?_
  refine g_if_ne 24 dX6_usedFor_17 rfl (fun _ => ?_) (fun _ => ?_)
  · refine g_lconst (0 : Int64) dX6_usedFor_24 (by decide) ?_
    refine g_lstore_n [(3, .long ((0 : Int64))), (0, .ref (xad X (85))), (1, .long a1)] dX6_usedFor_25 (by decide) rfl ?_
    refine g_iconst (1 : Int32) dX6_usedFor_26 (by decide) ?_
    refine g_istore [(5, .int ((1 : Int32))), (3, .long ((0 : Int64))), (0, .ref (xad X (85))), (1, .long a1)] dX6_usedFor_27 (by decide) rfl ?_
    refine g_sub [2, 1, 0] rfl ?_
    refine t_X6_usedFor_L29 X _ (fun s14 y3_13 => ?_) FU ((uI q1.1 605 0 0 q1.2)) (0 : Int64) (1 : Int32)
    refine g_lload_n 0 dX6_usedFor_115 rfl ?_
    exact g_lret rfl dX6_usedFor_116
  · refine g_lconst (1 : Int64) dX6_usedFor_20 (by decide) ?_
    refine g_goto 25 dX6_usedFor_21 rfl ?_
    refine g_lstore_n [(3, .long ((1 : Int64))), (0, .ref (xad X (85))), (1, .long a1)] dX6_usedFor_25 (by decide) rfl ?_
    refine g_iconst (1 : Int32) dX6_usedFor_26 (by decide) ?_
    refine g_istore [(5, .int ((1 : Int32))), (3, .long ((1 : Int64))), (0, .ref (xad X (85))), (1, .long a1)] dX6_usedFor_27 (by decide) rfl ?_
    refine g_sub [2, 1, 0] rfl ?_
    refine t_X6_usedFor_L29 X _ (fun s16 y3_15 => ?_) FU ((uI q1.1 605 0 0 q1.2)) (1 : Int64) (1 : Int32)
    refine g_lload_n 0 dX6_usedFor_115 rfl ?_
    exact g_lret rfl dX6_usedFor_116

