def X7_lots_L77 (x1 : Int32) (x3 : Int32) (x4 : Int32) (x7 : Int32) (x8 : Int32) (k115 : Mem → Int64 → Option (Mem × Int32)) : Nat → Mem → Int64 → Int32 → Option (Mem × Int32)
  | 0, _, _, _ => none
  | n + 1, σ, x5, x9 => (if x8 ≤ x9 then k115 σ x5 else ((X7_lotAfter σ x5).bind fun q6 => if (16 : Int64) = 0 then none else if (6 : Int64) = 0 then none else (X4_add q6.1 10 (((q6.2 / (16 : Int64)) - (q6.2 / (16 : Int64)) / (6 : Int64) * (6 : Int64)).toInt32)).bind fun q7 => X7_lots_L77 x1 x3 x4 x7 x8 k115 n q7.1 q6.2 ((x9 + (1 : Int32)))))
def X7_lots_L43 (x1 : Int32) (x3 : Int32) (k147 : Mem → Int32 → Option (Mem × Int32)) : Nat → Mem → Int32 → Int64 → Int32 → Option (Mem × Int32)
  | 0, _, _, _, _ => none
  | n + 1, σ, x4, x5, x7 => (if x1 ≤ x7 then k147 σ x4 else ((X7_lotAfter σ x5).bind fun q3 => if (9 : Int64) = 0 then none else lt_ ((q3.2 - q3.2 / (9 : Int64) * (9 : Int64)).toInt32) fun (v4 : Int32) => (X4_renew q3.1 10 (0 : Int32) (0 : Int32)).bind fun q5 => X7_lots_L77 x1 x3 x4 x7 v4 (fun (s10 : Mem) (y5_9 : Int64) => ((X2_outOf s10 0 10 x3).bind fun q11 => (X4_pack q11.1 10).bind fun q12 => if (lg_cmp q11.2 q12.2) = 0 then (X7_lots_L43 x1 x3 k147 n q12.1 ((x4 + (1 : Int32))) y5_9 ((x7 + (1 : Int32)))) else (X7_lots_L43 x1 x3 k147 n q12.1 x4 y5_9 ((x7 + (1 : Int32)))))) FU q5.1 q3.2 (0 : Int32)))
def X7_lots (σ : Mem) (a1 : Int32) (a2 : Int32) : Option (Mem × Int32) := (if a1 < (1 : Int32) then (some (σ, (-1 : Int32))) else (if (20 : Int32) < a1 then (some (σ, (-1 : Int32))) else (if a2 < (1 : Int32) then (some (σ, (-1 : Int32))) else (if a2 ≤ (2147483646 : Int32) then ((X2_onSet σ 0).bind fun q1 => lt_ (a2.toInt64) fun (v2 : Int64) => X7_lots_L43 a1 q1.2 (fun (s17 : Mem) (y4_16 : Int32) => (some (s17, y4_16))) FU q1.1 (0 : Int32) v2 (0 : Int32)) else (some (σ, (-1 : Int32)))))))
set_option maxRecDepth 100000 in
set_option maxHeartbeats 4000000 in
theorem t_X7_lots_L77 (X : GX) (x1 : Int32) (x3 : Int32) (x4 : Int32) (x7 : Int32) (x8 : Int32) (k115 : Mem → Int64 → Option (Mem × Int32)) (hk115 : ∀ (σ : Mem) (y5 : Int64), GS (KM enI X) X mX7_lots σ 115 [(0, .ref (xad X (0))), (1, .int x1), (3, .int x3), (4, .int x4), (5, .long y5), (7, .int x7)] [] (k115 σ y5)) : ∀ (n : Nat) (σ : Mem) (x5 : Int64) (x9 : Int32), GS (KM enI X) X mX7_lots σ 77 [(0, .ref (xad X (0))), (1, .int x1), (3, .int x3), (4, .int x4), (5, .long x5), (7, .int x7), (8, .int x8), (9, .int x9)] [] (X7_lots_L77 x1 x3 x4 x7 x8 k115 n σ x5 x9) := by
  intro n
  induction n with
  | zero => intros; exact g_none
  | succ n ih =>
    intro σ x5 x9
    rw [X7_lots_L77]
    refine g_iload 7 dX7_lots_77 rfl ?_
    refine g_iload 6 dX7_lots_79 rfl ?_
    refine g_icmp_ge 115 dX7_lots_81 rfl (fun _ => ?_) (fun _ => ?_)
    · refine g_sub [0, 1, 2, 3, 4, 5] rfl ?_
      exact hk115 σ x5
    · refine g_lload 4 dX7_lots_84 rfl ?_
      refine g_callSJ (c_X7_lotAfter σ x5) okX7_lotAfter ⟨by decide, by decide⟩ ml_X7_321 rfl rfl (Nat.le_of_ble_eq_true rfl) dX7_lots_86 (fun q6 => ?_)
      refine g_lstore [(5, .long (q6.2)), (0, .ref (xad X (0))), (1, .int x1), (3, .int x3), (4, .int x4), (7, .int x7), (8, .int x8), (9, .int x9)] dX7_lots_89 (by decide) rfl ?_
      refine g_aload_n 1 dX7_lots_91 rfl ?_
      refine gf_X7_7 fl_X7_53 dX7_lots_92 ?_
      refine g_lload 0 dX7_lots_95 rfl ?_
      refine g_ldc2 (16 : Int64) dX7_lots_97 kl_X7_326 ?_
      refine g_ldiv dX7_lots_100 (fun _ => ?_)
      refine g_ldc2 (6 : Int64) dX7_lots_101 kl_X7_328 ?_
      refine g_lrem dX7_lots_104 (fun _ => ?_)
      refine g_l2i dX7_lots_105 ?_
      refine g_callVV (c_X4_add q6.1 10 (((q6.2 / (16 : Int64)) - (q6.2 / (16 : Int64)) / (6 : Int64) * (6 : Int64)).toInt32)) okX4_add ⟨by decide, by decide⟩ ml_X7_330 (sh_X4 (by decide)) (no_X4 (by decide)) rfl rfl [.int (((q6.2 / (16 : Int64)) - (q6.2 / (16 : Int64)) / (6 : Int64) * (6 : Int64)).toInt32)] rfl rfl rfl (Nat.le_of_ble_eq_true rfl) dX7_lots_106 (fun q7 => ?_)
      refine g_iinc 7 [(9, .int ((x9 + (1 : Int32)))), (5, .long (q6.2)), (0, .ref (xad X (0))), (1, .int x1), (3, .int x3), (4, .int x4), (7, .int x7), (8, .int x8)] dX7_lots_109 rfl (v := x9 + (1 : Int32)) rfl (by decide) rfl ?_
      refine g_goto 77 dX7_lots_112 rfl ?_
      refine g_sub [2, 3, 4, 5, 1, 6, 7, 0] rfl ?_
      exact ih q7.1 q6.2 ((x9 + (1 : Int32)))

set_option maxRecDepth 100000 in
set_option maxHeartbeats 4000000 in
theorem t_X7_lots_L43 (X : GX) (x1 : Int32) (x3 : Int32) (k147 : Mem → Int32 → Option (Mem × Int32)) (hk147 : ∀ (σ : Mem) (y4 : Int32), GS (KM enI X) X mX7_lots σ 147 [(4, .int y4)] [] (k147 σ y4)) : ∀ (n : Nat) (σ : Mem) (x4 : Int32) (x5 : Int64) (x7 : Int32), GS (KM enI X) X mX7_lots σ 43 [(0, .ref (xad X (0))), (1, .int x1), (3, .int x3), (4, .int x4), (5, .long x5), (7, .int x7)] [] (X7_lots_L43 x1 x3 k147 n σ x4 x5 x7) := by
  intro n
  induction n with
  | zero => intros; exact g_none
  | succ n ih =>
    intro σ x4 x5 x7
    rw [X7_lots_L43]
    refine g_iload 5 dX7_lots_43 rfl ?_
    refine g_iload_n 1 dX7_lots_45 rfl ?_
    refine g_icmp_ge 147 dX7_lots_46 rfl (fun _ => ?_) (fun _ => ?_)
    · refine g_sub [3] rfl ?_
      exact hk147 σ x4
    · refine g_lload 4 dX7_lots_49 rfl ?_
      refine g_callSJ (c_X7_lotAfter σ x5) okX7_lotAfter ⟨by decide, by decide⟩ ml_X7_321 rfl rfl (Nat.le_of_ble_eq_true rfl) dX7_lots_51 (fun q3 => ?_)
      refine g_lstore [(5, .long (q3.2)), (0, .ref (xad X (0))), (1, .int x1), (3, .int x3), (4, .int x4), (7, .int x7)] dX7_lots_54 (by decide) rfl ?_
      refine g_lload 0 dX7_lots_56 rfl ?_
      refine g_ldc2 (9 : Int64) dX7_lots_58 kl_X7_324 ?_
      refine g_lrem dX7_lots_61 (fun _ => ?_)
      refine g_l2i dX7_lots_62 ?_
      refine g_topi (fun v4 => ?_)
      refine g_istore [(8, .int v4), (5, .long (q3.2)), (0, .ref (xad X (0))), (1, .int x1), (3, .int x3), (4, .int x4), (7, .int x7)] dX7_lots_63 (by decide) rfl ?_
      refine g_aload_n 2 dX7_lots_65 rfl ?_
      refine gf_X7_7 fl_X7_53 dX7_lots_66 ?_
      refine g_iconst (0 : Int32) dX7_lots_69 (by decide) ?_
      refine g_iconst (0 : Int32) dX7_lots_70 (by decide) ?_
      refine g_callVV (c_X4_renew q3.1 10 (0 : Int32) (0 : Int32)) okX4_renew ⟨by decide, by decide⟩ ml_X7_101 (sh_X4 (by decide)) (no_X4 (by decide)) rfl rfl [.int ((0 : Int32)), .int ((0 : Int32))] rfl rfl rfl (Nat.le_of_ble_eq_true rfl) dX7_lots_71 (fun q5 => ?_)
      refine g_iconst (0 : Int32) dX7_lots_74 (by decide) ?_
      refine g_istore [(9, .int ((0 : Int32))), (8, .int v4), (5, .long (q3.2)), (0, .ref (xad X (0))), (1, .int x1), (3, .int x3), (4, .int x4), (7, .int x7)] dX7_lots_75 (by decide) rfl ?_
      refine g_sub [3, 4, 5, 6, 2, 7, 1, 0] rfl ?_
      refine t_X7_lots_L77 X x1 x3 x4 x7 v4 _ (fun s10 y5_9 => ?_) FU q5.1 q3.2 (0 : Int32)
      refine g_aload_n 0 dX7_lots_115 rfl ?_
      refine gf_X7_3 fl_X7_28 dX7_lots_116 ?_
      refine g_aload_n 0 dX7_lots_119 rfl ?_
      refine gf_X7_7 fl_X7_53 dX7_lots_120 ?_
      refine g_iload_n 2 dX7_lots_123 rfl ?_
      refine g_callVJ (c_X2_outOf s10 0 10 x3) okX2_outOf ⟨by decide, by decide⟩ ml_X7_206 (sh_X2 (by decide)) (no_X2 (by decide)) rfl rfl [.ref (xad X (4 + 2 * 10)), .int x3] rfl rfl rfl (Nat.le_of_ble_eq_true rfl) dX7_lots_124 (fun q11 => ?_)
      refine g_aload_n 0 dX7_lots_127 rfl ?_
      refine gf_X7_7 fl_X7_53 dX7_lots_128 ?_
      refine g_callVJ (c_X4_pack q11.1 10) okX4_pack ⟨by decide, by decide⟩ ml_X7_223 (sh_X4 (by decide)) (no_X4 (by decide)) rfl rfl [] rfl rfl rfl (Nat.le_of_ble_eq_true rfl) dX7_lots_131 (fun q12 => ?_)
      refine g_lcmp dX7_lots_134 ?_
      refine g_if_ne 141 dX7_lots_135 rfl (fun _ => ?_) (fun _ => ?_)
      · refine g_iinc 5 [(7, .int ((x7 + (1 : Int32)))), (0, .ref (xad X (0))), (1, .int x1), (3, .int x3), (4, .int x4), (5, .long y5_9)] dX7_lots_141 rfl (v := x7 + (1 : Int32)) rfl (by decide) rfl ?_
        refine g_goto 43 dX7_lots_144 rfl ?_
        refine g_sub [1, 2, 3, 4, 5, 0] rfl ?_
        exact ih q12.1 x4 y5_9 ((x7 + (1 : Int32)))
      · refine g_iinc 3 [(4, .int ((x4 + (1 : Int32)))), (0, .ref (xad X (0))), (1, .int x1), (3, .int x3), (5, .long y5_9), (7, .int x7)] dX7_lots_138 rfl (v := x4 + (1 : Int32)) rfl (by decide) rfl ?_
        refine g_iinc 5 [(7, .int ((x7 + (1 : Int32)))), (4, .int ((x4 + (1 : Int32)))), (0, .ref (xad X (0))), (1, .int x1), (3, .int x3), (5, .long y5_9)] dX7_lots_141 rfl (v := x7 + (1 : Int32)) rfl (by decide) rfl ?_
        refine g_goto 43 dX7_lots_144 rfl ?_
        refine g_sub [2, 3, 4, 1, 5, 0] rfl ?_
        exact ih q12.1 ((x4 + (1 : Int32))) y5_9 ((x7 + (1 : Int32)))

set_option maxRecDepth 100000 in
set_option maxHeartbeats 4000000 in
theorem c_X7_lots (σ : Mem) (a1 : Int32) (a2 : Int32) : CT yX7_lots mX7_lots enI (fun ad => [.ref (ad (0)), .int a1, .int a2]) σ (X7_lots σ a1 a2) := by
  refine CT.of (by decide) rfl (fun _ => Nat.le_of_ble_eq_true rfl) (fun X => ?_)
  show GS (KM enI X) X mX7_lots σ 0 [(0, .ref (xad X (0))), (1, .int a1), (2, .int a2)] [] _
  unfold X7_lots
  refine g_iload_n 1 dX7_lots_0 rfl ?_
  refine g_iconst (1 : Int32) dX7_lots_1 (by decide) ?_
  refine g_icmp_lt 23 dX7_lots_2 rfl (fun _ => ?_) (fun _ => ?_)
  · refine g_iconst (-1 : Int32) dX7_lots_23 (by decide) ?_
    exact g_iret rfl dX7_lots_24
  · refine g_iload_n 1 dX7_lots_5 rfl ?_
    refine g_bipush (20 : Int32) dX7_lots_6 (by decide) ?_
    refine g_icmp_gt 23 dX7_lots_8 rfl (fun _ => ?_) (fun _ => ?_)
    · refine g_iconst (-1 : Int32) dX7_lots_23 (by decide) ?_
      exact g_iret rfl dX7_lots_24
    · refine g_iload_n 2 dX7_lots_11 rfl ?_
      refine g_iconst (1 : Int32) dX7_lots_12 (by decide) ?_
      refine g_icmp_lt 23 dX7_lots_13 rfl (fun _ => ?_) (fun _ => ?_)
      · refine g_iconst (-1 : Int32) dX7_lots_23 (by decide) ?_
        exact g_iret rfl dX7_lots_24
      · refine g_iload_n 2 dX7_lots_16 rfl ?_
        refine g_ldcw (2147483646 : Int32) dX7_lots_17 kc_X7_320 ?_
        refine g_icmp_le 25 dX7_lots_20 rfl (fun _ => ?_) (fun _ => ?_)
        · refine g_aload_n 0 dX7_lots_25 rfl ?_
          refine gf_X7_3 fl_X7_28 dX7_lots_26 ?_
          refine g_callVI (c_X2_onSet σ 0) okX2_onSet ⟨by decide, by decide⟩ ml_X7_176 (sh_X2 (by decide)) (no_X2 (by decide)) rfl rfl [] rfl rfl rfl (Nat.le_of_ble_eq_true rfl) dX7_lots_29 (fun q1 => ?_)
          refine g_istore_n [(3, .int (q1.2)), (0, .ref (xad X (0))), (1, .int a1), (2, .int a2)] dX7_lots_32 (by decide) rfl ?_
          refine g_iconst (0 : Int32) dX7_lots_33 (by decide) ?_
          refine g_istore [(4, .int ((0 : Int32))), (3, .int (q1.2)), (0, .ref (xad X (0))), (1, .int a1), (2, .int a2)] dX7_lots_34 (by decide) rfl ?_
          refine g_iload_n 4 dX7_lots_36 rfl ?_
          refine g_i2l dX7_lots_37 ?_
          refine g_topl (fun v2 => ?_)
          refine g_lstore [(5, .long v2), (4, .int ((0 : Int32))), (3, .int (q1.2)), (0, .ref (xad X (0))), (1, .int a1), (2, .int a2)] dX7_lots_38 (by decide) rfl ?_
          refine g_iconst (0 : Int32) dX7_lots_40 (by decide) ?_
          refine g_istore [(7, .int ((0 : Int32))), (5, .long v2), (4, .int ((0 : Int32))), (3, .int (q1.2)), (0, .ref (xad X (0))), (1, .int a1), (2, .int a2)] dX7_lots_41 (by decide) rfl ?_
          refine g_sub [4, 5, 3, 2, 1, 0] rfl ?_
          refine t_X7_lots_L43 X a1 q1.2 _ (fun s17 y4_16 => ?_) FU q1.1 (0 : Int32) v2 (0 : Int32)
          refine g_iload 0 dX7_lots_147 rfl ?_
          exact g_iret rfl dX7_lots_149
        · refine g_iconst (-1 : Int32) dX7_lots_23 (by decide) ?_
          exact g_iret rfl dX7_lots_24

def X7_keep (σ : Mem) (a1 : Int32) : Option (Mem × Int32) := (if a1 < 0 then (some (σ, (-1 : Int32))) else (if a1 < (3 : Int32) then (if (σ.1 203 0 0) = 0 then (some (σ, (-4 : Int32))) else (ck a1 3 <| if (1 + a1.toNatClampNeg) < 4 then (X2_take σ ((1 + a1.toNatClampNeg)) 0).bind fun q2 => some (q2.1, (q2.1.1 204 0 0)) else none)) else (some (σ, (-1 : Int32)))))
set_option maxRecDepth 100000 in
set_option maxHeartbeats 4000000 in
theorem c_X7_keep (σ : Mem) (a1 : Int32) : CT yX7_keep mX7_keep enI (fun ad => [.ref (ad (0)), .int a1]) σ (X7_keep σ a1) := by
  refine CT.of (by decide) rfl (fun _ => Nat.le_of_ble_eq_true rfl) (fun X => ?_)
  show GS (KM enI X) X mX7_keep σ 0 [(0, .ref (xad X (0))), (1, .int a1)] [] _
  unfold X7_keep
  refine g_iload_n 1 dX7_keep_0 rfl ?_
  refine g_if_lt 13 dX7_keep_1 rfl (fun _ => ?_) (fun _ => ?_)
  · refine g_iconst (-1 : Int32) dX7_keep_13 (by decide) ?_
    exact g_iret rfl dX7_keep_14
  · refine g_iload_n 1 dX7_keep_4 rfl ?_
    refine g_aload_n 0 dX7_keep_5 rfl ?_
    refine gf_X7_4 fl_X7_32 dX7_keep_6 ?_
    refine g_alen (v := (3 : Int32)) sh_3 no_3 (by decide) rfl dX7_keep_9 ?_
    refine g_icmp_lt 15 dX7_keep_10 rfl (fun _ => ?_) (fun _ => ?_)
    · refine g_aload_n 0 dX7_keep_15 rfl ?_
      refine gf_X7_3 fl_X7_28 dX7_keep_16 ?_
      refine gf_X2_3 (by decide) fl_X7_153 dX7_keep_19 ?_
      refine g_if_ne 28 dX7_keep_22 rfl (fun _ => ?_) (fun _ => ?_)
      · refine g_aload_n 0 dX7_keep_28 rfl ?_
        refine gf_X7_4 fl_X7_32 dX7_keep_29 ?_
        refine g_iload_n 1 dX7_keep_32 rfl ?_
        refine g_ald5 sh_3 no_3 dX7_keep_33 (fun _ => ?_)
        refine g_guard (fun h1 => ?_)
        refine g_aload_n 0 dX7_keep_34 rfl ?_
        refine gf_X7_3 fl_X7_28 dX7_keep_35 ?_
        refine g_callVV (c_X2_take σ ((1 + a1.toNatClampNeg)) 0) okX2_take ⟨by decide, by decide⟩ ml_X7_333 (sh_X2 h1) (no_X2 h1) rfl rfl [.ref (xad X (69 + 4 * 0))] rfl rfl rfl (Nat.le_of_ble_eq_true rfl) dX7_keep_38 (fun q2 => ?_)
        refine g_aload_n 0 dX7_keep_41 rfl ?_
        refine gf_X7_3 fl_X7_28 dX7_keep_42 ?_
        refine gf_X2_4 (by decide) fl_X7_307 dX7_keep_45 ?_
        exact g_iret rfl dX7_keep_48
      · refine g_bipush (-4 : Int32) dX7_keep_25 (by decide) ?_
        exact g_iret rfl dX7_keep_27
    · refine g_iconst (-1 : Int32) dX7_keep_13 (by decide) ?_
      exact g_iret rfl dX7_keep_14

def X7_on (σ : Mem) (a1 : Int32) : Option (Mem × Int32) := (if a1 < 0 then (some (σ, (-1 : Int32))) else (if a1 < (3 : Int32) then (ck a1 3 <| if (1 + a1.toNatClampNeg) < 4 then (X2_isKept σ ((1 + a1.toNatClampNeg))).bind fun q2 => if q2.2 = 0 then ((X7_answer q2.1 (1 : Int32)).bind fun q5 => some (q5.1, q5.2)) else (ck a1 3 <| if (1 + a1.toNatClampNeg) < 4 then (X2_take q2.1 0 ((1 + a1.toNatClampNeg))).bind fun q4 => some (q4.1, (q4.1.1 204 0 0)) else none) else none) else (some (σ, (-1 : Int32)))))
set_option maxRecDepth 100000 in
set_option maxHeartbeats 4000000 in
theorem c_X7_on (σ : Mem) (a1 : Int32) : CT yX7_on mX7_on enI (fun ad => [.ref (ad (0)), .int a1]) σ (X7_on σ a1) := by
  refine CT.of (by decide) rfl (fun _ => Nat.le_of_ble_eq_true rfl) (fun X => ?_)
  show GS (KM enI X) X mX7_on σ 0 [(0, .ref (xad X (0))), (1, .int a1)] [] _
  unfold X7_on
  refine g_iload_n 1 dX7_on_0 rfl ?_
  refine g_if_lt 13 dX7_on_1 rfl (fun _ => ?_) (fun _ => ?_)
  · refine g_iconst (-1 : Int32) dX7_on_13 (by decide) ?_
    exact g_iret rfl dX7_on_14
  · refine g_iload_n 1 dX7_on_4 rfl ?_
    refine g_aload_n 0 dX7_on_5 rfl ?_
    refine gf_X7_4 fl_X7_32 dX7_on_6 ?_
    refine g_alen (v := (3 : Int32)) sh_3 no_3 (by decide) rfl dX7_on_9 ?_
    refine g_icmp_lt 15 dX7_on_10 rfl (fun _ => ?_) (fun _ => ?_)
    · refine g_aload_n 0 dX7_on_15 rfl ?_
      refine gf_X7_4 fl_X7_32 dX7_on_16 ?_
      refine g_iload_n 1 dX7_on_19 rfl ?_
      refine g_ald5 sh_3 no_3 dX7_on_20 (fun _ => ?_)
      refine g_guard (fun h1 => ?_)
      refine g_callVI (c_X2_isKept σ ((1 + a1.toNatClampNeg))) okX2_isKept ⟨by decide, by decide⟩ ml_X7_335 (sh_X2 h1) (no_X2 h1) rfl rfl [] rfl rfl rfl (Nat.le_of_ble_eq_true rfl) dX7_on_21 (fun q2 => ?_)
      refine g_if_ne 33 dX7_on_24 rfl (fun _ => ?_) (fun _ => ?_)
      · refine g_aload_n 0 dX7_on_33 rfl ?_
        refine gf_X7_3 fl_X7_28 dX7_on_34 ?_
        refine g_aload_n 0 dX7_on_37 rfl ?_
        refine gf_X7_4 fl_X7_32 dX7_on_38 ?_
        refine g_iload_n 1 dX7_on_41 rfl ?_
        refine g_ald5 sh_3 no_3 dX7_on_42 (fun _ => ?_)
        refine g_guard (fun h3 => ?_)
        refine g_callVV (c_X2_take q2.1 0 ((1 + a1.toNatClampNeg))) okX2_take ⟨by decide, by decide⟩ ml_X7_333 (sh_X2 (by decide)) (no_X2 (by decide)) rfl rfl [.ref (xad X (69 + 4 * (1 + a1.toNatClampNeg)))] rfl rfl rfl (Nat.le_of_ble_eq_true rfl) dX7_on_43 (fun q4 => ?_)
        refine g_aload_n 0 dX7_on_46 rfl ?_
        refine gf_X7_3 fl_X7_28 dX7_on_47 ?_
        refine gf_X2_4 (by decide) fl_X7_307 dX7_on_50 ?_
        exact g_iret rfl dX7_on_53
      · refine g_aload_n 0 dX7_on_27 rfl ?_
        refine g_iconst (1 : Int32) dX7_on_28 (by decide) ?_
        refine g_callVI (c_X7_answer q2.1 (1 : Int32)) okX7_answer ⟨by decide, by decide⟩ ml_X7_97 sh_0 no_0 rfl rfl [.int ((1 : Int32))] rfl rfl rfl (Nat.le_of_ble_eq_true rfl) dX7_on_29 (fun q5 => ?_)
        exact g_iret rfl dX7_on_32
    · refine g_iconst (-1 : Int32) dX7_on_13 (by decide) ?_
      exact g_iret rfl dX7_on_14

def X7_asked (σ : Mem) : Option (Mem × Int32) := (some (σ, (σ.1 713 0 0)))
set_option maxRecDepth 100000 in
set_option maxHeartbeats 4000000 in
theorem c_X7_asked (σ : Mem) : CT yX7_asked mX7_asked enI (fun ad => [.ref (ad (0))]) σ (X7_asked σ) := by
  refine CT.of (by decide) rfl (fun _ => Nat.le_of_ble_eq_true rfl) (fun X => ?_)
  show GS (KM enI X) X mX7_asked σ 0 [(0, .ref (xad X (0)))] [] _
  unfold X7_asked
  refine g_aload_n 0 dX7_asked_0 rfl ?_
  refine gf_X7_13 fl_X7_83 dX7_asked_1 ?_
  exact g_iret rfl dX7_asked_4

def X7_upper (σ : Mem) : Option (Mem × Int64) := (some (σ, (σ.2.1 714 0 0)))
set_option maxRecDepth 100000 in
set_option maxHeartbeats 4000000 in
theorem c_X7_upper (σ : Mem) : CT yX7_upper mX7_upper enJ (fun ad => [.ref (ad (0))]) σ (X7_upper σ) := by
  refine CT.of (by decide) rfl (fun _ => Nat.le_of_ble_eq_true rfl) (fun X => ?_)
  show GS (KM enJ X) X mX7_upper σ 0 [(0, .ref (xad X (0)))] [] _
  unfold X7_upper
  refine g_aload_n 0 dX7_upper_0 rfl ?_
  refine gf_X7_14 fl_X7_86 dX7_upper_1 ?_
  exact g_lret rfl dX7_upper_4

def X7_lower (σ : Mem) : Option (Mem × Int64) := (some (σ, (σ.2.1 715 0 0)))
set_option maxRecDepth 100000 in
set_option maxHeartbeats 4000000 in
theorem c_X7_lower (σ : Mem) : CT yX7_lower mX7_lower enJ (fun ad => [.ref (ad (0))]) σ (X7_lower σ) := by
  refine CT.of (by decide) rfl (fun _ => Nat.le_of_ble_eq_true rfl) (fun X => ?_)
  show GS (KM enJ X) X mX7_lower σ 0 [(0, .ref (xad X (0)))] [] _
  unfold X7_lower
  refine g_aload_n 0 dX7_lower_0 rfl ?_
  refine gf_X7_15 fl_X7_90 dX7_lower_1 ?_
  exact g_lret rfl dX7_lower_4

def X7_manyThere_L4 (x0 : Nat) (k33 : Mem → Int32 → Option (Mem × Int32)) : Nat → Mem → Int32 → Int32 → Option (Mem × Int32)
  | 0, _, _, _ => none
  | n + 1, σ, x1, x2 => (if (Int32.ofNat (ral x0)) ≤ x2 then k33 σ x1 else (ck x2 (ral x0) <| if ((6 * x0) + x2.toNatClampNeg) < 11 then (X4_isThere σ (((6 * x0) + x2.toNatClampNeg))).bind fun q2 => if q2.2 = 0 then (lt_ ((x1 + (0 : Int32))) fun (v3 : Int32) => X7_manyThere_L4 x0 k33 n q2.1 v3 ((x2 + (1 : Int32)))) else ((lt_ ((x1 + (1 : Int32))) fun (v5 : Int32) => X7_manyThere_L4 x0 k33 n q2.1 v5 ((x2 + (1 : Int32))))) else none))
def X7_manyThere (σ : Mem) (a0 : Nat) : Option (Mem × Int32) := if a0 < 2 then (X7_manyThere_L4 a0 (fun (s8 : Mem) (y1_7 : Int32) => (some (s8, y1_7))) FU σ (0 : Int32) (0 : Int32)) else none
set_option maxRecDepth 100000 in
set_option maxHeartbeats 4000000 in
theorem t_X7_manyThere_L4 (X : GX) (x0 : Nat) (hx0 : x0 < 2) (k33 : Mem → Int32 → Option (Mem × Int32)) (hk33 : ∀ (σ : Mem) (y1 : Int32), GS (KM enI X) X mX7_manyThere σ 33 [(1, .int y1)] [] (k33 σ y1)) : ∀ (n : Nat) (σ : Mem) (x1 : Int32) (x2 : Int32), GS (KM enI X) X mX7_manyThere σ 4 [(0, .ref (xad X ((1 + x0)))), (1, .int x1), (2, .int x2)] [] (X7_manyThere_L4 x0 k33 n σ x1 x2) := by
  intro n
  induction n with
  | zero => intros; exact g_none
  | succ n ih =>
    intro σ x1 x2
    rw [X7_manyThere_L4]
    refine g_iload_n 2 dX7_manyThere_4 rfl ?_
    refine g_aload_n 0 dX7_manyThere_5 rfl ?_
    refine g_alen (v := (Int32.ofNat (ral x0))) (sh_rarr hx0) (no_rarr hx0) (by decide) rfl dX7_manyThere_6 ?_
    refine g_icmp_ge 33 dX7_manyThere_7 rfl (fun _ => ?_) (fun _ => ?_)
    · refine g_sub [1] rfl ?_
      exact hk33 σ x1
    · refine g_iload_n 1 dX7_manyThere_10 rfl ?_
      refine g_aload_n 0 dX7_manyThere_11 rfl ?_
      refine g_iload_n 2 dX7_manyThere_12 rfl ?_
      refine g_ald3 (sh_rarr hx0) (no_rarr hx0) dX7_manyThere_13 (fun _ => ?_)
      refine g_guard (fun h1 => ?_)
      refine g_callVI (c_X4_isThere σ (((6 * x0) + x2.toNatClampNeg))) okX4_isThere ⟨by decide, by decide⟩ ml_X7_105 (sh_X4 h1) (no_X4 h1) rfl rfl [] rfl rfl rfl (Nat.le_of_ble_eq_true rfl) dX7_manyThere_14 (fun q2 => ?_)
      refine g_if_eq 24 dX7_manyThere_17 rfl (fun _ => ?_) (fun _ => ?_)
      · refine g_iconst (0 : Int32) dX7_manyThere_24 (by decide) ?_
        refine g_iadd dX7_manyThere_25 ?_
        refine g_topi (fun v3 => ?_)
        refine g_istore_n [(1, .int v3), (0, .ref (xad X ((1 + x0)))), (2, .int x2)] dX7_manyThere_26 (by decide) rfl ?_
        refine g_iinc 2 [(2, .int ((x2 + (1 : Int32)))), (1, .int v3), (0, .ref (xad X ((1 + x0))))] dX7_manyThere_27 rfl (v := x2 + (1 : Int32)) rfl (by decide) rfl ?_
        refine g_goto 4 dX7_manyThere_30 rfl ?_
        refine g_sub [2, 1, 0] rfl ?_
        exact ih q2.1 v3 ((x2 + (1 : Int32)))
      · refine g_iconst (1 : Int32) dX7_manyThere_20 (by decide) ?_
        refine g_goto 25 dX7_manyThere_21 rfl ?_
        refine g_iadd dX7_manyThere_25 ?_
        refine g_topi (fun v5 => ?_)
        refine g_istore_n [(1, .int v5), (0, .ref (xad X ((1 + x0)))), (2, .int x2)] dX7_manyThere_26 (by decide) rfl ?_
        refine g_iinc 2 [(2, .int ((x2 + (1 : Int32)))), (1, .int v5), (0, .ref (xad X ((1 + x0))))] dX7_manyThere_27 rfl (v := x2 + (1 : Int32)) rfl (by decide) rfl ?_
        refine g_goto 4 dX7_manyThere_30 rfl ?_
        refine g_sub [2, 1, 0] rfl ?_
        exact ih q2.1 v5 ((x2 + (1 : Int32)))

set_option maxRecDepth 100000 in
set_option maxHeartbeats 4000000 in
theorem c_X7_manyThere (σ : Mem) (a0 : Nat) : CT yX7_manyThere mX7_manyThere enI (fun ad => [.ref (ad ((1 + a0)))]) σ (X7_manyThere σ a0) := by
  refine CT.of (by decide) rfl (fun _ => Nat.le_of_ble_eq_true rfl) (fun X => ?_)
  show GS (KM enI X) X mX7_manyThere σ 0 [(0, .ref (xad X ((1 + a0))))] [] _
  unfold X7_manyThere
  refine g_guard (fun ha0 => ?_)
  refine g_iconst (0 : Int32) dX7_manyThere_0 (by decide) ?_
  refine g_istore_n [(1, .int ((0 : Int32))), (0, .ref (xad X ((1 + a0))))] dX7_manyThere_1 (by decide) rfl ?_
  refine g_iconst (0 : Int32) dX7_manyThere_2 (by decide) ?_
  refine g_istore_n [(2, .int ((0 : Int32))), (1, .int ((0 : Int32))), (0, .ref (xad X ((1 + a0))))] dX7_manyThere_3 (by decide) rfl ?_
  refine g_sub [2, 1, 0] rfl ?_
  refine t_X7_manyThere_L4 X a0 ha0 _ (fun s8 y1_7 => ?_) FU σ (0 : Int32) (0 : Int32)
  refine g_iload_n 0 dX7_manyThere_33 rfl ?_
  exact g_iret rfl dX7_manyThere_34

def X7_pressesKept_L4 (k39 : Mem → Int32 → Option (Mem × Int32)) : Nat → Mem → Int32 → Int32 → Option (Mem × Int32)
  | 0, _, _, _ => none
  | n + 1, σ, x1, x2 => (if (3 : Int32) ≤ x2 then k39 σ x1 else (ck x2 3 <| if (1 + x2.toNatClampNeg) < 4 then (X2_isKept σ ((1 + x2.toNatClampNeg))).bind fun q2 => if q2.2 = 0 then (lt_ ((x1 + (0 : Int32))) fun (v3 : Int32) => X7_pressesKept_L4 k39 n q2.1 v3 ((x2 + (1 : Int32)))) else ((lt_ ((x1 + (1 : Int32))) fun (v5 : Int32) => X7_pressesKept_L4 k39 n q2.1 v5 ((x2 + (1 : Int32))))) else none))
def X7_pressesKept (σ : Mem) : Option (Mem × Int32) := (X7_pressesKept_L4 (fun (s8 : Mem) (y1_7 : Int32) => (some (s8, y1_7))) FU σ (0 : Int32) (0 : Int32))
set_option maxRecDepth 100000 in
set_option maxHeartbeats 4000000 in
theorem t_X7_pressesKept_L4 (X : GX) (k39 : Mem → Int32 → Option (Mem × Int32)) (hk39 : ∀ (σ : Mem) (y1 : Int32), GS (KM enI X) X mX7_pressesKept σ 39 [(1, .int y1)] [] (k39 σ y1)) : ∀ (n : Nat) (σ : Mem) (x1 : Int32) (x2 : Int32), GS (KM enI X) X mX7_pressesKept σ 4 [(0, .ref (xad X (0))), (1, .int x1), (2, .int x2)] [] (X7_pressesKept_L4 k39 n σ x1 x2) := by
  intro n
  induction n with
  | zero => intros; exact g_none
  | succ n ih =>
    intro σ x1 x2
    rw [X7_pressesKept_L4]
    refine g_iload_n 2 dX7_pressesKept_4 rfl ?_
    refine g_aload_n 0 dX7_pressesKept_5 rfl ?_
    refine gf_X7_4 fl_X7_32 dX7_pressesKept_6 ?_
    refine g_alen (v := (3 : Int32)) sh_3 no_3 (by decide) rfl dX7_pressesKept_9 ?_
    refine g_icmp_ge 39 dX7_pressesKept_10 rfl (fun _ => ?_) (fun _ => ?_)
    · refine g_sub [1] rfl ?_
      exact hk39 σ x1
    · refine g_iload_n 1 dX7_pressesKept_13 rfl ?_
      refine g_aload_n 0 dX7_pressesKept_14 rfl ?_
      refine gf_X7_4 fl_X7_32 dX7_pressesKept_15 ?_
      refine g_iload_n 2 dX7_pressesKept_18 rfl ?_
      refine g_ald5 sh_3 no_3 dX7_pressesKept_19 (fun _ => ?_)
      refine g_guard (fun h1 => ?_)
      refine g_callVI (c_X2_isKept σ ((1 + x2.toNatClampNeg))) okX2_isKept ⟨by decide, by decide⟩ ml_X7_335 (sh_X2 h1) (no_X2 h1) rfl rfl [] rfl rfl rfl (Nat.le_of_ble_eq_true rfl) dX7_pressesKept_20 (fun q2 => ?_)
      refine g_if_eq 30 dX7_pressesKept_23 rfl (fun _ => ?_) (fun _ => ?_)
      · refine g_iconst (0 : Int32) dX7_pressesKept_30 (by decide) ?_
        refine g_iadd dX7_pressesKept_31 ?_
        refine g_topi (fun v3 => ?_)
        refine g_istore_n [(1, .int v3), (0, .ref (xad X (0))), (2, .int x2)] dX7_pressesKept_32 (by decide) rfl ?_
        refine g_iinc 2 [(2, .int ((x2 + (1 : Int32)))), (1, .int v3), (0, .ref (xad X (0)))] dX7_pressesKept_33 rfl (v := x2 + (1 : Int32)) rfl (by decide) rfl ?_
        refine g_goto 4 dX7_pressesKept_36 rfl ?_
        refine g_sub [2, 1, 0] rfl ?_
        exact ih q2.1 v3 ((x2 + (1 : Int32)))
      · refine g_iconst (1 : Int32) dX7_pressesKept_26 (by decide) ?_
        refine g_goto 31 dX7_pressesKept_27 rfl ?_
        refine g_iadd dX7_pressesKept_31 ?_
        refine g_topi (fun v5 => ?_)
        refine g_istore_n [(1, .int v5), (0, .ref (xad X (0))), (2, .int x2)] dX7_pressesKept_32 (by decide) rfl ?_
        refine g_iinc 2 [(2, .int ((x2 + (1 : Int32)))), (1, .int v5), (0, .ref (xad X (0)))] dX7_pressesKept_33 rfl (v := x2 + (1 : Int32)) rfl (by decide) rfl ?_
        refine g_goto 4 dX7_pressesKept_36 rfl ?_
        refine g_sub [2, 1, 0] rfl ?_
        exact ih q2.1 v5 ((x2 + (1 : Int32)))

set_option maxRecDepth 100000 in
set_option maxHeartbeats 4000000 in
theorem c_X7_pressesKept (σ : Mem) : CT yX7_pressesKept mX7_pressesKept enI (fun ad => [.ref (ad (0))]) σ (X7_pressesKept σ) := by
  refine CT.of (by decide) rfl (fun _ => Nat.le_of_ble_eq_true rfl) (fun X => ?_)
  show GS (KM enI X) X mX7_pressesKept σ 0 [(0, .ref (xad X (0)))] [] _
  unfold X7_pressesKept
  refine g_iconst (0 : Int32) dX7_pressesKept_0 (by decide) ?_
  refine g_istore_n [(1, .int ((0 : Int32))), (0, .ref (xad X (0)))] dX7_pressesKept_1 (by decide) rfl ?_
  refine g_iconst (0 : Int32) dX7_pressesKept_2 (by decide) ?_
  refine g_istore_n [(2, .int ((0 : Int32))), (1, .int ((0 : Int32))), (0, .ref (xad X (0)))] dX7_pressesKept_3 (by decide) rfl ?_
  refine g_sub [2, 1, 0] rfl ?_
  refine t_X7_pressesKept_L4 X _ (fun s8 y1_7 => ?_) FU σ (0 : Int32) (0 : Int32)
  refine g_iload_n 0 dX7_pressesKept_39 rfl ?_
  exact g_iret rfl dX7_pressesKept_40

def X7_count (σ : Mem) (a1 : Int32) : Option (Mem × Int32) := (if a1 = (0 : Int32) then (some (σ, (σ.1 203 0 0))) else if a1 = (1 : Int32) then ((X2_onSet σ 0).bind fun q2 => (J6_bitCount_0f7a4 q2.1 q2.2).bind fun q3 => some (q3.1, q3.2)) else if a1 = (2 : Int32) then (some (σ, (σ.1 204 0 0))) else if a1 = (3 : Int32) then ((X2_inksInAll σ 0).bind fun q6 => some (q6.1, q6.2)) else if a1 = (4 : Int32) then ((X2_lawsOfKind σ 0 (2 : Int32)).bind fun q8 => some (q8.1, q8.2)) else if a1 = (5 : Int32) then ((X2_lawsOfKind σ 0 (3 : Int32)).bind fun q10 => some (q10.1, q10.2)) else if a1 = (6 : Int32) then ((X7_manyThere σ 0).bind fun q12 => some (q12.1, q12.2)) else if a1 = (7 : Int32) then ((X7_manyThere σ 1).bind fun q14 => some (q14.1, q14.2)) else if a1 = (8 : Int32) then ((X7_pressesKept σ).bind fun q16 => some (q16.1, q16.2)) else (some (σ, (-1 : Int32))))
set_option maxRecDepth 100000 in
set_option maxHeartbeats 4000000 in
theorem c_X7_count (σ : Mem) (a1 : Int32) : CT yX7_count mX7_count enI (fun ad => [.ref (ad (0)), .int a1]) σ (X7_count σ a1) := by
  refine CT.of (by decide) rfl (fun _ => Nat.le_of_ble_eq_true rfl) (fun X => ?_)
  show GS (KM enI X) X mX7_count σ 0 [(0, .ref (xad X (0))), (1, .int a1)] [] _
  unfold X7_count
  refine g_iload_n 1 dX7_count_0 rfl ?_
  refine g_eqc (0 : Int32) ?_ (fun e1 => ?_)
  · refine g_tableIn 52 dX7_count_1 (by decide) (by decide) rfl rfl ?_
    refine g_aload_n 0 dX7_count_52 rfl ?_
    refine gf_X7_3 fl_X7_28 dX7_count_53 ?_
    refine gf_X2_3 (by decide) fl_X7_153 dX7_count_56 ?_
    exact g_iret rfl dX7_count_59
  · refine g_eqc (1 : Int32) ?_ (fun e4 => ?_)
    · refine g_tableIn 60 dX7_count_1 (by decide) (by decide) rfl rfl ?_
      refine g_aload_n 0 dX7_count_60 rfl ?_
      refine gf_X7_3 fl_X7_28 dX7_count_61 ?_
      refine g_callVI (c_X2_onSet σ 0) okX2_onSet ⟨by decide, by decide⟩ ml_X7_176 (sh_X2 (by decide)) (no_X2 (by decide)) rfl rfl [] rfl rfl rfl (Nat.le_of_ble_eq_true rfl) dX7_count_64 (fun q2 => ?_)
      refine g_callSI (c_J6_bitCount_0f7a4 q2.1 q2.2) okJ6_bitCount_0f7a4 ⟨by decide, by decide⟩ ml_X7_276 rfl rfl (Nat.le_of_ble_eq_true rfl) dX7_count_67 (fun q3 => ?_)
      exact g_iret rfl dX7_count_70
    · refine g_eqc (2 : Int32) ?_ (fun e5 => ?_)
      · refine g_tableIn 71 dX7_count_1 (by decide) (by decide) rfl rfl ?_
        refine g_aload_n 0 dX7_count_71 rfl ?_
        refine gf_X7_3 fl_X7_28 dX7_count_72 ?_
        refine gf_X2_4 (by decide) fl_X7_307 dX7_count_75 ?_
        exact g_iret rfl dX7_count_78
      · refine g_eqc (3 : Int32) ?_ (fun e7 => ?_)
        · refine g_tableIn 79 dX7_count_1 (by decide) (by decide) rfl rfl ?_
          refine g_aload_n 0 dX7_count_79 rfl ?_
          refine gf_X7_3 fl_X7_28 dX7_count_80 ?_
          refine g_callVI (c_X2_inksInAll σ 0) okX2_inksInAll ⟨by decide, by decide⟩ ml_X7_338 (sh_X2 (by decide)) (no_X2 (by decide)) rfl rfl [] rfl rfl rfl (Nat.le_of_ble_eq_true rfl) dX7_count_83 (fun q6 => ?_)
          exact g_iret rfl dX7_count_86
        · refine g_eqc (4 : Int32) ?_ (fun e9 => ?_)
          · refine g_tableIn 87 dX7_count_1 (by decide) (by decide) rfl rfl ?_
            refine g_aload_n 0 dX7_count_87 rfl ?_
            refine gf_X7_3 fl_X7_28 dX7_count_88 ?_
            refine g_iconst (2 : Int32) dX7_count_91 (by decide) ?_
            refine g_callVI (c_X2_lawsOfKind σ 0 (2 : Int32)) okX2_lawsOfKind ⟨by decide, by decide⟩ ml_X7_341 (sh_X2 (by decide)) (no_X2 (by decide)) rfl rfl [.int ((2 : Int32))] rfl rfl rfl (Nat.le_of_ble_eq_true rfl) dX7_count_92 (fun q8 => ?_)
            exact g_iret rfl dX7_count_95
          · refine g_eqc (5 : Int32) ?_ (fun e11 => ?_)
            · refine g_tableIn 96 dX7_count_1 (by decide) (by decide) rfl rfl ?_
              refine g_aload_n 0 dX7_count_96 rfl ?_
              refine gf_X7_3 fl_X7_28 dX7_count_97 ?_
              refine g_iconst (3 : Int32) dX7_count_100 (by decide) ?_
              refine g_callVI (c_X2_lawsOfKind σ 0 (3 : Int32)) okX2_lawsOfKind ⟨by decide, by decide⟩ ml_X7_341 (sh_X2 (by decide)) (no_X2 (by decide)) rfl rfl [.int ((3 : Int32))] rfl rfl rfl (Nat.le_of_ble_eq_true rfl) dX7_count_101 (fun q10 => ?_)
              exact g_iret rfl dX7_count_104
            · refine g_eqc (6 : Int32) ?_ (fun e13 => ?_)
              · refine g_tableIn 105 dX7_count_1 (by decide) (by decide) rfl rfl ?_
                refine g_aload_n 0 dX7_count_105 rfl ?_
                refine gf_X7_0 fl_X7_11 dX7_count_106 ?_
                refine g_callSI (c_X7_manyThere σ 0) okX7_manyThere ⟨by decide, by decide⟩ ml_X7_344 rfl rfl (Nat.le_of_ble_eq_true rfl) dX7_count_109 (fun q12 => ?_)
                exact g_iret rfl dX7_count_112
              · refine g_eqc (7 : Int32) ?_ (fun e15 => ?_)
                · refine g_tableIn 113 dX7_count_1 (by decide) (by decide) rfl rfl ?_
                  refine g_aload_n 0 dX7_count_113 rfl ?_
                  refine gf_X7_1 fl_X7_15 dX7_count_114 ?_
                  refine g_callSI (c_X7_manyThere σ 1) okX7_manyThere ⟨by decide, by decide⟩ ml_X7_344 rfl rfl (Nat.le_of_ble_eq_true rfl) dX7_count_117 (fun q14 => ?_)
                  exact g_iret rfl dX7_count_120
                · refine g_eqc (8 : Int32) ?_ (fun e17 => ?_)
                  · refine g_tableIn 121 dX7_count_1 (by decide) (by decide) rfl rfl ?_
                    refine g_aload_n 0 dX7_count_121 rfl ?_
                    refine g_callVI (c_X7_pressesKept σ) okX7_pressesKept ⟨by decide, by decide⟩ ml_X7_348 sh_0 no_0 rfl rfl [] rfl rfl rfl (Nat.le_of_ble_eq_true rfl) dX7_count_122 (fun q16 => ?_)
                    exact g_iret rfl dX7_count_125
                  · refine g_tableOut 126 dX7_count_1 (by have := lv_neT e1 (a := 0) (by decide); have := lv_neT e4 (a := 1) (by decide); have := lv_neT e5 (a := 2) (by decide); have := lv_neT e7 (a := 3) (by decide); have := lv_neT e9 (a := 4) (by decide); have := lv_neT e11 (a := 5) (by decide); have := lv_neT e13 (a := 6) (by decide); have := lv_neT e15 (a := 7) (by decide); have := lv_neT e17 (a := 8) (by decide); omega) rfl ?_
                    refine g_iconst (-1 : Int32) dX7_count_126 (by decide) ?_
                    exact g_iret rfl dX7_count_127

def X7_finding (σ : Mem) : Option (Mem × Int32) := (some (σ, (σ.1 712 0 0)))
set_option maxRecDepth 100000 in
set_option maxHeartbeats 4000000 in
theorem c_X7_finding (σ : Mem) : CT yX7_finding mX7_finding enI (fun ad => [.ref (ad (0))]) σ (X7_finding σ) := by
  refine CT.of (by decide) rfl (fun _ => Nat.le_of_ble_eq_true rfl) (fun X => ?_)
  show GS (KM enI X) X mX7_finding σ 0 [(0, .ref (xad X (0)))] [] _
  unfold X7_finding
  refine g_aload_n 0 dX7_finding_0 rfl ?_
  refine gf_X7_12 fl_X7_79 dX7_finding_1 ?_
  exact g_iret rfl dX7_finding_4

def X7_findings (σ : Mem) (a1 : Int32) : Option (Mem × Int32) := (if a1 < (1 : Int32) then (some (σ, (-1 : Int32))) else (if a1 ≤ (5 : Int32) then (ck a1 6 <| some (σ, (σ.1 711 0 a1.toNatClampNeg))) else (some (σ, (-1 : Int32)))))
set_option maxRecDepth 100000 in
set_option maxHeartbeats 4000000 in
theorem c_X7_findings (σ : Mem) (a1 : Int32) : CT yX7_findings mX7_findings enI (fun ad => [.ref (ad (0)), .int a1]) σ (X7_findings σ a1) := by
  refine CT.of (by decide) rfl (fun _ => Nat.le_of_ble_eq_true rfl) (fun X => ?_)
  show GS (KM enI X) X mX7_findings σ 0 [(0, .ref (xad X (0))), (1, .int a1)] [] _
  unfold X7_findings
  refine g_iload_n 1 dX7_findings_0 rfl ?_
  refine g_iconst (1 : Int32) dX7_findings_1 (by decide) ?_
  refine g_icmp_lt 10 dX7_findings_2 rfl (fun _ => ?_) (fun _ => ?_)
  · refine g_iconst (-1 : Int32) dX7_findings_10 (by decide) ?_
    exact g_iret rfl dX7_findings_11
  · refine g_iload_n 1 dX7_findings_5 rfl ?_
    refine g_iconst (5 : Int32) dX7_findings_6 (by decide) ?_
    refine g_icmp_le 12 dX7_findings_7 rfl (fun _ => ?_) (fun _ => ?_)
    · refine g_aload_n 0 dX7_findings_12 rfl ?_
      refine gf_X7_11 fl_X7_75 dX7_findings_13 ?_
      refine g_iload_n 1 dX7_findings_16 rfl ?_
      refine g_iald sh_97 no_97 dX7_findings_17 (fun _ => ?_)
      exact g_iret rfl dX7_findings_18
    · refine g_iconst (-1 : Int32) dX7_findings_10 (by decide) ?_
      exact g_iret rfl dX7_findings_11

