def X8_holds_J45 (σ : Mem) (x1 : Int32) (x2 : Int32) (x3 : Int32) (z0 : Int32) : Option (Mem × Int32) := ((X8_hasZ σ x3).bind fun q2 => if q2.2 = 0 then ((if (1 : Int32) = 0 ∨ (1 : Int32) = 1 then some (q2.1, (1 : Int32)) else none)) else (if z0 = 0 then (ck (x2 + (1 : Int32)) 8 <| ck (((5 : Int32) * x1) + (3 : Int32)) 40 <| if (q2.1.1 815 0 (x2 + (1 : Int32)).toNatClampNeg) = (q2.1.1 811 0 (((5 : Int32) * x1) + (3 : Int32)).toNatClampNeg) then ((if (1 : Int32) = 0 ∨ (1 : Int32) = 1 then some (q2.1, (1 : Int32)) else none)) else (if (0 : Int32) = 0 ∨ (0 : Int32) = 1 then some (q2.1, (0 : Int32)) else none)) else (if x3 = (4 : Int32) then (((if (1 : Int32) = 0 ∨ (1 : Int32) = 1 then some (q2.1, (1 : Int32)) else none))) else (if (0 : Int32) = 0 ∨ (0 : Int32) = 1 then some (q2.1, (0 : Int32)) else none))))
def X8_holds (σ : Mem) (a1 : Int32) (a2 : Int32) : Option (Mem × Int32) := (ck ((5 : Int32) * a1) 40 <| lt_ ((σ.1 811 0 ((5 : Int32) * a1).toNatClampNeg)) fun (v1 : Int32) => ck a2 8 <| ck (((5 : Int32) * a1) + (1 : Int32)) 40 <| if (σ.1 815 0 a2.toNatClampNeg) = (σ.1 811 0 (((5 : Int32) * a1) + (1 : Int32)).toNatClampNeg) then (if a2 = ((σ.1 816 0 0) - (1 : Int32)) then (X8_holds_J45 σ a1 a2 v1 (1 : Int32)) else (X8_holds_J45 σ a1 a2 v1 (0 : Int32))) else (if (0 : Int32) = 0 ∨ (0 : Int32) = 1 then some (σ, (0 : Int32)) else none))
set_option maxRecDepth 100000 in
set_option maxHeartbeats 4000000 in
theorem t_X8_holds_J45 (X : GX) (σ : Mem) (x1 : Int32) (x2 : Int32) (x3 : Int32) (z0 : Int32) : GS (KM enI X) X mX8_holds σ 45 [(0, .ref (xad X (98))), (1, .int x1), (2, .int x2), (3, .int x3)] [.int z0] (X8_holds_J45 σ x1 x2 x3 z0) := by
  unfold X8_holds_J45
  refine g_istore [(4, .int z0), (0, .ref (xad X (98))), (1, .int x1), (2, .int x2), (3, .int x3)] dX8_holds_45 (by decide) rfl ?_
  refine g_iload_n 4 dX8_holds_47 rfl ?_
  refine g_callSI (c_X8_hasZ σ x3) okX8_hasZ ⟨by decide, by decide⟩ ml_X8_130 rfl rfl (Nat.le_of_ble_eq_true rfl) dX8_holds_48 (fun q2 => ?_)
  refine g_if_eq 88 dX8_holds_51 rfl (fun _ => ?_) (fun _ => ?_)
  · refine g_iconst (1 : Int32) dX8_holds_88 (by decide) ?_
    refine g_goto 93 dX8_holds_89 rfl ?_
    exact g_zret rfl dX8_holds_93
  · refine g_iload 0 dX8_holds_54 rfl ?_
    refine g_if_eq 67 dX8_holds_56 rfl (fun _ => ?_) (fun _ => ?_)
    · refine g_aload_n 1 dX8_holds_67 rfl ?_
      refine gf_X8_15 fl_X8_38 dX8_holds_68 ?_
      refine g_iload_n 3 dX8_holds_71 rfl ?_
      refine g_iconst (1 : Int32) dX8_holds_72 (by decide) ?_
      refine g_iadd dX8_holds_73 ?_
      refine g_iald sh_107 no_107 dX8_holds_74 (fun _ => ?_)
      refine g_aload_n 1 dX8_holds_75 rfl ?_
      refine gf_X8_11 fl_X8_32 dX8_holds_76 ?_
      refine g_iconst (5 : Int32) dX8_holds_79 (by decide) ?_
      refine g_iload_n 2 dX8_holds_80 rfl ?_
      refine g_imul dX8_holds_81 ?_
      refine g_iconst (3 : Int32) dX8_holds_82 (by decide) ?_
      refine g_iadd dX8_holds_83 ?_
      refine g_iald sh_105 no_105 dX8_holds_84 (fun _ => ?_)
      refine g_icmp_ne 92 dX8_holds_85 rfl (fun _ => ?_) (fun _ => ?_)
      · refine g_iconst (0 : Int32) dX8_holds_92 (by decide) ?_
        exact g_zret rfl dX8_holds_93
      · refine g_iconst (1 : Int32) dX8_holds_88 (by decide) ?_
        refine g_goto 93 dX8_holds_89 rfl ?_
        exact g_zret rfl dX8_holds_93
    · refine g_iload_n 4 dX8_holds_59 rfl ?_
      refine g_iconst (4 : Int32) dX8_holds_60 (by decide) ?_
      refine g_icmp_ne 92 dX8_holds_61 rfl (fun _ => ?_) (fun _ => ?_)
      · refine g_iconst (0 : Int32) dX8_holds_92 (by decide) ?_
        exact g_zret rfl dX8_holds_93
      · refine g_goto 88 dX8_holds_64 rfl ?_
        refine g_iconst (1 : Int32) dX8_holds_88 (by decide) ?_
        refine g_goto 93 dX8_holds_89 rfl ?_
        exact g_zret rfl dX8_holds_93

set_option maxRecDepth 100000 in
set_option maxHeartbeats 4000000 in
theorem c_X8_holds (σ : Mem) (a1 : Int32) (a2 : Int32) : CT yX8_holds mX8_holds enI (fun ad => [.ref (ad (98)), .int a1, .int a2]) σ (X8_holds σ a1 a2) := by
  refine CT.of (by decide) rfl (fun _ => Nat.le_of_ble_eq_true rfl) (fun X => ?_)
  show GS (KM enI X) X mX8_holds σ 0 [(0, .ref (xad X (98))), (1, .int a1), (2, .int a2)] [] _
  unfold X8_holds
  refine g_aload_n 0 dX8_holds_0 rfl ?_
  refine gf_X8_11 fl_X8_32 dX8_holds_1 ?_
  refine g_iconst (5 : Int32) dX8_holds_4 (by decide) ?_
  refine g_iload_n 1 dX8_holds_5 rfl ?_
  refine g_imul dX8_holds_6 ?_
  refine g_iald sh_105 no_105 dX8_holds_7 (fun _ => ?_)
  refine g_topi (fun v1 => ?_)
  refine g_istore_n [(3, .int v1), (0, .ref (xad X (98))), (1, .int a1), (2, .int a2)] dX8_holds_8 (by decide) rfl ?_
  refine g_aload_n 1 dX8_holds_9 rfl ?_
  refine gf_X8_15 fl_X8_38 dX8_holds_10 ?_
  refine g_iload_n 3 dX8_holds_13 rfl ?_
  refine g_iald sh_107 no_107 dX8_holds_14 (fun _ => ?_)
  refine g_aload_n 1 dX8_holds_15 rfl ?_
  refine gf_X8_11 fl_X8_32 dX8_holds_16 ?_
  refine g_iconst (5 : Int32) dX8_holds_19 (by decide) ?_
  refine g_iload_n 2 dX8_holds_20 rfl ?_
  refine g_imul dX8_holds_21 ?_
  refine g_iconst (1 : Int32) dX8_holds_22 (by decide) ?_
  refine g_iadd dX8_holds_23 ?_
  refine g_iald sh_105 no_105 dX8_holds_24 (fun _ => ?_)
  refine g_icmp_eq 30 dX8_holds_25 rfl (fun _ => ?_) (fun _ => ?_)
  · refine g_iload_n 3 dX8_holds_30 rfl ?_
    refine g_aload_n 1 dX8_holds_31 rfl ?_
    refine gf_X8_16 fl_X8_151 dX8_holds_32 ?_
    refine g_iconst (1 : Int32) dX8_holds_35 (by decide) ?_
    refine g_isub dX8_holds_36 ?_
    refine g_icmp_ne 44 dX8_holds_37 rfl (fun _ => ?_) (fun _ => ?_)
    · refine g_iconst (0 : Int32) dX8_holds_44 (by decide) ?_
      refine g_sub [1, 2, 3, 0] rfl ?_
      exact t_X8_holds_J45 X σ a1 a2 v1 (0 : Int32)
    · refine g_iconst (1 : Int32) dX8_holds_40 (by decide) ?_
      refine g_goto 45 dX8_holds_41 rfl ?_
      refine g_sub [1, 2, 3, 0] rfl ?_
      exact t_X8_holds_J45 X σ a1 a2 v1 (1 : Int32)
  · refine g_iconst (0 : Int32) dX8_holds_28 (by decide) ?_
    exact g_zret rfl dX8_holds_29

def X8_lawAt_L2 (x1 : Int32) (x2 : Int32) (k35 : Mem → Option (Mem × Int32)) : Nat → Mem → Int32 → Option (Mem × Int32)
  | 0, _, _ => none
  | n + 1, σ, x3 => (if (σ.1 810 0 0) ≤ x3 then k35 σ else ((X8_has σ x2 x3).bind fun q1 => if q1.2 = 0 then (X8_lawAt_L2 x1 x2 k35 n q1.1 ((x3 + (1 : Int32)))) else ((X8_holds q1.1 x3 x1).bind fun q3 => if q3.2 = 0 then (X8_lawAt_L2 x1 x2 k35 n q3.1 ((x3 + (1 : Int32)))) else (some (q3.1, x3)))))
def X8_lawAt (σ : Mem) (a1 : Int32) (a2 : Int32) : Option (Mem × Int32) := (X8_lawAt_L2 a1 a2 (fun (s6 : Mem) => (some (s6, (-9 : Int32)))) FU σ (0 : Int32))
set_option maxRecDepth 100000 in
set_option maxHeartbeats 4000000 in
theorem t_X8_lawAt_L2 (X : GX) (x1 : Int32) (x2 : Int32) (k35 : Mem → Option (Mem × Int32)) (hk35 : ∀ (σ : Mem), GS (KM enI X) X mX8_lawAt σ 35 [] [] (k35 σ)) : ∀ (n : Nat) (σ : Mem) (x3 : Int32), GS (KM enI X) X mX8_lawAt σ 2 [(0, .ref (xad X (98))), (1, .int x1), (2, .int x2), (3, .int x3)] [] (X8_lawAt_L2 x1 x2 k35 n σ x3) := by
  intro n
  induction n with
  | zero => intros; exact g_none
  | succ n ih =>
    intro σ x3
    rw [X8_lawAt_L2]
    refine g_iload_n 3 dX8_lawAt_2 rfl ?_
    refine g_aload_n 0 dX8_lawAt_3 rfl ?_
    refine gf_X8_10 fl_X8_139 dX8_lawAt_4 ?_
    refine g_icmp_ge 35 dX8_lawAt_7 rfl (fun _ => ?_) (fun _ => ?_)
    · refine g_sub [] rfl ?_
      exact hk35 σ
    · refine g_iload_n 2 dX8_lawAt_10 rfl ?_
      refine g_iload_n 3 dX8_lawAt_11 rfl ?_
      refine g_callSI (c_X8_has σ x2 x3) okX8_has ⟨by decide, by decide⟩ ml_X8_154 rfl rfl (Nat.le_of_ble_eq_true rfl) dX8_lawAt_12 (fun q1 => ?_)
      refine g_if_eq 29 dX8_lawAt_15 rfl (fun _ => ?_) (fun _ => ?_)
      · refine g_iinc 3 [(3, .int ((x3 + (1 : Int32)))), (0, .ref (xad X (98))), (1, .int x1), (2, .int x2)] dX8_lawAt_29 rfl (v := x3 + (1 : Int32)) rfl (by decide) rfl ?_
        refine g_goto 2 dX8_lawAt_32 rfl ?_
        refine g_sub [1, 2, 3, 0] rfl ?_
        exact ih q1.1 ((x3 + (1 : Int32)))
      · refine g_aload_n 0 dX8_lawAt_18 rfl ?_
        refine g_iload_n 3 dX8_lawAt_19 rfl ?_
        refine g_iload_n 1 dX8_lawAt_20 rfl ?_
        refine g_callVI (c_X8_holds q1.1 x3 x1) okX8_holds ⟨by decide, by decide⟩ ml_X8_158 sh_98 no_98 rfl rfl [.int x3, .int x1] rfl rfl rfl (Nat.le_of_ble_eq_true rfl) dX8_lawAt_21 (fun q3 => ?_)
        refine g_if_eq 29 dX8_lawAt_24 rfl (fun _ => ?_) (fun _ => ?_)
        · refine g_iinc 3 [(3, .int ((x3 + (1 : Int32)))), (0, .ref (xad X (98))), (1, .int x1), (2, .int x2)] dX8_lawAt_29 rfl (v := x3 + (1 : Int32)) rfl (by decide) rfl ?_
          refine g_goto 2 dX8_lawAt_32 rfl ?_
          refine g_sub [1, 2, 3, 0] rfl ?_
          exact ih q3.1 ((x3 + (1 : Int32)))
        · refine g_iload_n 3 dX8_lawAt_27 rfl ?_
          exact g_iret rfl dX8_lawAt_28

set_option maxRecDepth 100000 in
set_option maxHeartbeats 4000000 in
theorem c_X8_lawAt (σ : Mem) (a1 : Int32) (a2 : Int32) : CT yX8_lawAt mX8_lawAt enI (fun ad => [.ref (ad (98)), .int a1, .int a2]) σ (X8_lawAt σ a1 a2) := by
  refine CT.of (by decide) rfl (fun _ => Nat.le_of_ble_eq_true rfl) (fun X => ?_)
  show GS (KM enI X) X mX8_lawAt σ 0 [(0, .ref (xad X (98))), (1, .int a1), (2, .int a2)] [] _
  unfold X8_lawAt
  refine g_iconst (0 : Int32) dX8_lawAt_0 (by decide) ?_
  refine g_istore_n [(3, .int ((0 : Int32))), (0, .ref (xad X (98))), (1, .int a1), (2, .int a2)] dX8_lawAt_1 (by decide) rfl ?_
  refine g_sub [1, 2, 3, 0] rfl ?_
  refine t_X8_lawAt_L2 X a1 a2 _ (fun s6 => ?_) FU σ (0 : Int32)
  refine g_bipush (-9 : Int32) dX8_lawAt_35 (by decide) ?_
  exact g_iret rfl dX8_lawAt_37

def X8_comes (σ : Mem) (a1 : Int32) : Option (Mem × Unit) := (ck (σ.1 818 0 0) 16 <| some ((uI ((uI σ 817 0 (σ.1 818 0 0).toNatClampNeg a1)) 818 0 0 (((((uI σ 817 0 (σ.1 818 0 0).toNatClampNeg a1)).1 818 0 0) + (1 : Int32)))), ()))
set_option maxRecDepth 100000 in
set_option maxHeartbeats 4000000 in
theorem c_X8_comes (σ : Mem) (a1 : Int32) : CT yX8_comes mX8_comes enV (fun ad => [.ref (ad (98)), .int a1]) σ (X8_comes σ a1) := by
  refine CT.of (by decide) rfl (fun _ => Nat.le_of_ble_eq_true rfl) (fun X => ?_)
  show GS (KM enV X) X mX8_comes σ 0 [(0, .ref (xad X (98))), (1, .int a1)] [] _
  unfold X8_comes
  refine g_aload_n 0 dX8_comes_0 rfl ?_
  refine gf_X8_17 fl_X8_41 dX8_comes_1 ?_
  refine g_aload_n 0 dX8_comes_4 rfl ?_
  refine gf_X8_18 fl_X8_161 dX8_comes_5 ?_
  refine g_iload_n 1 dX8_comes_8 rfl ?_
  refine g_iast sh_108 no_108 dX8_comes_9 (fun _ => ?_)
  refine g_aload_n 0 dX8_comes_10 rfl ?_
  refine g_dup dX8_comes_11 rfl ?_
  refine gf_X8_18 fl_X8_161 dX8_comes_12 ?_
  refine g_iconst (1 : Int32) dX8_comes_15 (by decide) ?_
  refine g_iadd dX8_comes_16 ?_
  refine pf_X8_18 fl_X8_161 dX8_comes_17 ?_
  exact g_vret rfl dX8_comes_20

def X8_setBy_J93 (σ : Mem) (x1 : Int32) (x2 : Int32) (x4 : Int32) (kb : Mem → Int32 → Option (Mem × Unit)) (k115 : Mem → Option (Mem × Unit)) : Option (Mem × Unit) := (if x4 = (5 : Int32) then (ck x2 8 <| (X8_comes σ ((σ.1 815 0 x2.toNatClampNeg))).bind fun q4 => kb q4.1 ((x2 + (1 : Int32)))) else (kb σ ((x2 + (1 : Int32)))))
def X8_setBy_J66 (σ : Mem) (x1 : Int32) (x2 : Int32) (x3 : Int32) (x4 : Int32) (kb : Mem → Int32 → Option (Mem × Unit)) (k115 : Mem → Option (Mem × Unit)) : Option (Mem × Unit) := (if x4 = (-9 : Int32) then X8_setBy_J93 σ x1 x2 x4 (kb) k115 else (if x4 = (1 : Int32) then X8_setBy_J93 σ x1 x2 x4 (kb) k115 else (ck (((5 : Int32) * x3) + (2 : Int32)) 40 <| (X8_comes σ ((σ.1 811 0 (((5 : Int32) * x3) + (2 : Int32)).toNatClampNeg))).bind fun q6 => X8_setBy_J93 q6.1 x1 x2 x4 (kb) k115)))
def X8_setBy_J41 (σ : Mem) (x1 : Int32) (x2 : Int32) (x3 : Int32) (z0 : Int32) (kb : Mem → Int32 → Option (Mem × Unit)) (k115 : Mem → Option (Mem × Unit)) : Option (Mem × Unit) := (if z0 = (-9 : Int32) then (ck x2 8 <| (X8_comes σ ((σ.1 815 0 x2.toNatClampNeg))).bind fun q2 => X8_setBy_J66 q2.1 x1 x2 x3 z0 (kb) k115) else (if z0 = (2 : Int32) then (ck x2 8 <| (X8_comes σ ((σ.1 815 0 x2.toNatClampNeg))).bind fun q7 => X8_setBy_J66 q7.1 x1 x2 x3 z0 (kb) k115) else X8_setBy_J66 σ x1 x2 x3 z0 (kb) k115))
def X8_setBy_L7 (x1 : Int32) (k115 : Mem → Option (Mem × Unit)) : Nat → Mem → Int32 → Option (Mem × Unit)
  | 0, _, _ => none
  | n + 1, σ, x2 => (if (σ.1 816 0 0) ≤ x2 then k115 σ else ((X8_lawAt σ x2 x1).bind fun q1 => if q1.2 = (-9 : Int32) then (X8_setBy_J41 q1.1 x1 x2 q1.2 (-9 : Int32) (X8_setBy_L7 x1 k115 n) k115) else (ck ((5 : Int32) * q1.2) 40 <| X8_setBy_J41 q1.1 x1 x2 q1.2 ((q1.1.1 811 0 ((5 : Int32) * q1.2).toNatClampNeg)) (X8_setBy_L7 x1 k115 n) k115)))
def X8_setBy (σ : Mem) (a1 : Int32) : Option (Mem × Unit) := (X8_setBy_L7 a1 (fun (s9 : Mem) => (some (s9, ()))) FU ((uI σ 818 0 0 (0 : Int32))) (0 : Int32))
set_option maxRecDepth 100000 in
set_option maxHeartbeats 4000000 in
theorem t_X8_setBy_J93 (X : GX) (σ : Mem) (x1 : Int32) (x2 : Int32) (x4 : Int32) (kb : Mem → Int32 → Option (Mem × Unit)) (k115 : Mem → Option (Mem × Unit)) (hkb : ∀ (σ : Mem) (y2 : Int32), GS (KM enV X) X mX8_setBy σ 7 [(0, .ref (xad X (98))), (1, .int x1), (2, .int y2)] [] (kb σ y2)) (hk115 : ∀ (σ : Mem), GS (KM enV X) X mX8_setBy σ 115 [] [] (k115 σ)) : GS (KM enV X) X mX8_setBy σ 93 [(0, .ref (xad X (98))), (1, .int x1), (2, .int x2), (4, .int x4)] [] (X8_setBy_J93 σ x1 x2 x4 kb k115) := by
  unfold X8_setBy_J93
  refine g_iload 3 dX8_setBy_93 rfl ?_
  refine g_iconst (5 : Int32) dX8_setBy_95 (by decide) ?_
  refine g_icmp_ne 109 dX8_setBy_96 rfl (fun _ => ?_) (fun _ => ?_)
  · refine g_iinc 2 [(2, .int ((x2 + (1 : Int32)))), (0, .ref (xad X (98))), (1, .int x1), (4, .int x4)] dX8_setBy_109 rfl (v := x2 + (1 : Int32)) rfl (by decide) rfl ?_
    refine g_goto 7 dX8_setBy_112 rfl ?_
    refine g_sub [1, 2, 0] rfl ?_
    exact hkb σ ((x2 + (1 : Int32)))
  · refine g_aload_n 0 dX8_setBy_99 rfl ?_
    refine g_aload_n 0 dX8_setBy_100 rfl ?_
    refine gf_X8_15 fl_X8_38 dX8_setBy_101 ?_
    refine g_iload_n 2 dX8_setBy_104 rfl ?_
    refine g_iald sh_107 no_107 dX8_setBy_105 (fun _ => ?_)
    refine g_callVV (c_X8_comes σ ((σ.1 815 0 x2.toNatClampNeg))) okX8_comes ⟨by decide, by decide⟩ ml_X8_167 sh_98 no_98 rfl rfl [.int ((σ.1 815 0 x2.toNatClampNeg))] rfl rfl rfl (Nat.le_of_ble_eq_true rfl) dX8_setBy_106 (fun q4 => ?_)
    refine g_iinc 2 [(2, .int ((x2 + (1 : Int32)))), (0, .ref (xad X (98))), (1, .int x1), (4, .int x4)] dX8_setBy_109 rfl (v := x2 + (1 : Int32)) rfl (by decide) rfl ?_
    refine g_goto 7 dX8_setBy_112 rfl ?_
    refine g_sub [1, 2, 0] rfl ?_
    exact hkb q4.1 ((x2 + (1 : Int32)))

set_option maxRecDepth 100000 in
set_option maxHeartbeats 4000000 in
theorem t_X8_setBy_J66 (X : GX) (σ : Mem) (x1 : Int32) (x2 : Int32) (x3 : Int32) (x4 : Int32) (kb : Mem → Int32 → Option (Mem × Unit)) (k115 : Mem → Option (Mem × Unit)) (hkb : ∀ (σ : Mem) (y2 : Int32), GS (KM enV X) X mX8_setBy σ 7 [(0, .ref (xad X (98))), (1, .int x1), (2, .int y2)] [] (kb σ y2)) (hk115 : ∀ (σ : Mem), GS (KM enV X) X mX8_setBy σ 115 [] [] (k115 σ)) : GS (KM enV X) X mX8_setBy σ 66 [(0, .ref (xad X (98))), (1, .int x1), (2, .int x2), (3, .int x3), (4, .int x4)] [] (X8_setBy_J66 σ x1 x2 x3 x4 kb k115) := by
  unfold X8_setBy_J66
  refine g_iload 4 dX8_setBy_66 rfl ?_
  refine g_bipush (-9 : Int32) dX8_setBy_68 (by decide) ?_
  refine g_icmp_eq 93 dX8_setBy_70 rfl (fun _ => ?_) (fun _ => ?_)
  · refine g_sub [0, 1, 2, 4] rfl ?_
    exact t_X8_setBy_J93 X σ x1 x2 x4 _ _ (fun σ y2 => hkb σ y2) hk115
  · refine g_iload 4 dX8_setBy_73 rfl ?_
    refine g_iconst (1 : Int32) dX8_setBy_75 (by decide) ?_
    refine g_icmp_eq 93 dX8_setBy_76 rfl (fun _ => ?_) (fun _ => ?_)
    · refine g_sub [0, 1, 2, 4] rfl ?_
      exact t_X8_setBy_J93 X σ x1 x2 x4 _ _ (fun σ y2 => hkb σ y2) hk115
    · refine g_aload_n 0 dX8_setBy_79 rfl ?_
      refine g_aload_n 0 dX8_setBy_80 rfl ?_
      refine gf_X8_11 fl_X8_32 dX8_setBy_81 ?_
      refine g_iconst (5 : Int32) dX8_setBy_84 (by decide) ?_
      refine g_iload_n 3 dX8_setBy_85 rfl ?_
      refine g_imul dX8_setBy_86 ?_
      refine g_iconst (2 : Int32) dX8_setBy_87 (by decide) ?_
      refine g_iadd dX8_setBy_88 ?_
      refine g_iald sh_105 no_105 dX8_setBy_89 (fun _ => ?_)
      refine g_callVV (c_X8_comes σ ((σ.1 811 0 (((5 : Int32) * x3) + (2 : Int32)).toNatClampNeg))) okX8_comes ⟨by decide, by decide⟩ ml_X8_167 sh_98 no_98 rfl rfl [.int ((σ.1 811 0 (((5 : Int32) * x3) + (2 : Int32)).toNatClampNeg))] rfl rfl rfl (Nat.le_of_ble_eq_true rfl) dX8_setBy_90 (fun q6 => ?_)
      refine g_sub [0, 1, 2, 4] rfl ?_
      exact t_X8_setBy_J93 X q6.1 x1 x2 x4 _ _ (fun σ y2 => hkb σ y2) hk115

set_option maxRecDepth 100000 in
set_option maxHeartbeats 4000000 in
theorem t_X8_setBy_J41 (X : GX) (σ : Mem) (x1 : Int32) (x2 : Int32) (x3 : Int32) (z0 : Int32) (kb : Mem → Int32 → Option (Mem × Unit)) (k115 : Mem → Option (Mem × Unit)) (hkb : ∀ (σ : Mem) (y2 : Int32), GS (KM enV X) X mX8_setBy σ 7 [(0, .ref (xad X (98))), (1, .int x1), (2, .int y2)] [] (kb σ y2)) (hk115 : ∀ (σ : Mem), GS (KM enV X) X mX8_setBy σ 115 [] [] (k115 σ)) : GS (KM enV X) X mX8_setBy σ 41 [(0, .ref (xad X (98))), (1, .int x1), (2, .int x2), (3, .int x3)] [.int z0] (X8_setBy_J41 σ x1 x2 x3 z0 kb k115) := by
  unfold X8_setBy_J41
  refine g_istore [(4, .int z0), (0, .ref (xad X (98))), (1, .int x1), (2, .int x2), (3, .int x3)] dX8_setBy_41 (by decide) rfl ?_
  refine g_iload 0 dX8_setBy_43 rfl ?_
  refine g_bipush (-9 : Int32) dX8_setBy_45 (by decide) ?_
  refine g_icmp_eq 56 dX8_setBy_47 rfl (fun _ => ?_) (fun _ => ?_)
  · refine g_aload_n 1 dX8_setBy_56 rfl ?_
    refine g_aload_n 1 dX8_setBy_57 rfl ?_
    refine gf_X8_15 fl_X8_38 dX8_setBy_58 ?_
    refine g_iload_n 3 dX8_setBy_61 rfl ?_
    refine g_iald sh_107 no_107 dX8_setBy_62 (fun _ => ?_)
    refine g_callVV (c_X8_comes σ ((σ.1 815 0 x2.toNatClampNeg))) okX8_comes ⟨by decide, by decide⟩ ml_X8_167 sh_98 no_98 rfl rfl [.int ((σ.1 815 0 x2.toNatClampNeg))] rfl rfl rfl (Nat.le_of_ble_eq_true rfl) dX8_setBy_63 (fun q2 => ?_)
    refine g_sub [1, 2, 3, 4, 0] rfl ?_
    exact t_X8_setBy_J66 X q2.1 x1 x2 x3 z0 _ _ (fun σ y2 => hkb σ y2) hk115
  · refine g_iload 0 dX8_setBy_50 rfl ?_
    refine g_iconst (2 : Int32) dX8_setBy_52 (by decide) ?_
    refine g_icmp_ne 66 dX8_setBy_53 rfl (fun _ => ?_) (fun _ => ?_)
    · refine g_sub [1, 2, 3, 4, 0] rfl ?_
      exact t_X8_setBy_J66 X σ x1 x2 x3 z0 _ _ (fun σ y2 => hkb σ y2) hk115
    · refine g_aload_n 1 dX8_setBy_56 rfl ?_
      refine g_aload_n 1 dX8_setBy_57 rfl ?_
      refine gf_X8_15 fl_X8_38 dX8_setBy_58 ?_
      refine g_iload_n 3 dX8_setBy_61 rfl ?_
      refine g_iald sh_107 no_107 dX8_setBy_62 (fun _ => ?_)
      refine g_callVV (c_X8_comes σ ((σ.1 815 0 x2.toNatClampNeg))) okX8_comes ⟨by decide, by decide⟩ ml_X8_167 sh_98 no_98 rfl rfl [.int ((σ.1 815 0 x2.toNatClampNeg))] rfl rfl rfl (Nat.le_of_ble_eq_true rfl) dX8_setBy_63 (fun q7 => ?_)
      refine g_sub [1, 2, 3, 4, 0] rfl ?_
      exact t_X8_setBy_J66 X q7.1 x1 x2 x3 z0 _ _ (fun σ y2 => hkb σ y2) hk115

set_option maxRecDepth 100000 in
set_option maxHeartbeats 4000000 in
theorem t_X8_setBy_L7 (X : GX) (x1 : Int32) (k115 : Mem → Option (Mem × Unit)) (hk115 : ∀ (σ : Mem), GS (KM enV X) X mX8_setBy σ 115 [] [] (k115 σ)) : ∀ (n : Nat) (σ : Mem) (x2 : Int32), GS (KM enV X) X mX8_setBy σ 7 [(0, .ref (xad X (98))), (1, .int x1), (2, .int x2)] [] (X8_setBy_L7 x1 k115 n σ x2) := by
  intro n
  induction n with
  | zero => intros; exact g_none
  | succ n ih =>
    intro σ x2
    rw [X8_setBy_L7]
    refine g_iload_n 2 dX8_setBy_7 rfl ?_
    refine g_aload_n 0 dX8_setBy_8 rfl ?_
    refine gf_X8_16 fl_X8_151 dX8_setBy_9 ?_
    refine g_icmp_ge 115 dX8_setBy_12 rfl (fun _ => ?_) (fun _ => ?_)
    · refine g_sub [] rfl ?_
      exact hk115 σ
    · refine g_aload_n 0 dX8_setBy_15 rfl ?_
      refine g_iload_n 2 dX8_setBy_16 rfl ?_
      refine g_iload_n 1 dX8_setBy_17 rfl ?_
      refine g_callVI (c_X8_lawAt σ x2 x1) okX8_lawAt ⟨by decide, by decide⟩ ml_X8_164 sh_98 no_98 rfl rfl [.int x2, .int x1] rfl rfl rfl (Nat.le_of_ble_eq_true rfl) dX8_setBy_18 (fun q1 => ?_)
      refine g_istore_n [(3, .int (q1.2)), (0, .ref (xad X (98))), (1, .int x1), (2, .int x2)] dX8_setBy_21 (by decide) rfl ?_
      refine g_iload_n 0 dX8_setBy_22 rfl ?_
      refine g_bipush (-9 : Int32) dX8_setBy_23 (by decide) ?_
      refine g_icmp_ne 33 dX8_setBy_25 rfl (fun _ => ?_) (fun _ => ?_)
      · refine g_aload_n 1 dX8_setBy_33 rfl ?_
        refine gf_X8_11 fl_X8_32 dX8_setBy_34 ?_
        refine g_iconst (5 : Int32) dX8_setBy_37 (by decide) ?_
        refine g_iload_n 0 dX8_setBy_38 rfl ?_
        refine g_imul dX8_setBy_39 ?_
        refine g_iald sh_105 no_105 dX8_setBy_40 (fun _ => ?_)
        refine g_sub [1, 2, 3, 0] rfl ?_
        exact t_X8_setBy_J41 X q1.1 x1 x2 q1.2 ((q1.1.1 811 0 ((5 : Int32) * q1.2).toNatClampNeg)) _ _ (fun σ y2 => ih σ y2) hk115
      · refine g_bipush (-9 : Int32) dX8_setBy_28 (by decide) ?_
        refine g_goto 41 dX8_setBy_30 rfl ?_
        refine g_sub [1, 2, 3, 0] rfl ?_
        exact t_X8_setBy_J41 X q1.1 x1 x2 q1.2 (-9 : Int32) _ _ (fun σ y2 => ih σ y2) hk115

set_option maxRecDepth 100000 in
set_option maxHeartbeats 4000000 in
theorem c_X8_setBy (σ : Mem) (a1 : Int32) : CT yX8_setBy mX8_setBy enV (fun ad => [.ref (ad (98)), .int a1]) σ (X8_setBy σ a1) := by
  refine CT.of (by decide) rfl (fun _ => Nat.le_of_ble_eq_true rfl) (fun X => ?_)
  show GS (KM enV X) X mX8_setBy σ 0 [(0, .ref (xad X (98))), (1, .int a1)] [] _
  unfold X8_setBy
  refine g_aload_n 0 dX8_setBy_0 rfl ?_
  refine g_iconst (0 : Int32) dX8_setBy_1 (by decide) ?_
  refine pf_X8_18 fl_X8_161 dX8_setBy_2 ?_
  refine g_iconst (0 : Int32) dX8_setBy_5 (by decide) ?_
  refine g_istore_n [(2, .int ((0 : Int32))), (0, .ref (xad X (98))), (1, .int a1)] dX8_setBy_6 (by decide) rfl ?_
  refine g_sub [1, 2, 0] rfl ?_
  refine t_X8_setBy_L7 X a1 _ (fun s9 => ?_) FU ((uI σ 818 0 0 (0 : Int32))) (0 : Int32)
  exact g_vret rfl dX8_setBy_115

def X8_laySheet_L12 (x1 : Int32) (k38 : Mem → Option (Mem × Unit)) : Nat → Mem → Int32 → Option (Mem × Unit)
  | 0, _, _ => none
  | n + 1, σ, x2 => (if (σ.1 816 0 0) ≤ x2 then k38 σ else ((X8_rowAt σ x1 x2).bind fun q1 => ck x2 8 <| X8_laySheet_L12 x1 k38 n ((uI q1.1 815 0 x2.toNatClampNeg q1.2)) ((x2 + (1 : Int32)))))
def X8_laySheet (σ : Mem) (a1 : Int32) : Option (Mem × Unit) := (ck a1 6 <| X8_laySheet_L12 a1 (fun (s4 : Mem) => (some (s4, ()))) FU ((uI σ 816 0 0 ((σ.1 805 0 a1.toNatClampNeg)))) (0 : Int32))
set_option maxRecDepth 100000 in
set_option maxHeartbeats 4000000 in
theorem t_X8_laySheet_L12 (X : GX) (x1 : Int32) (k38 : Mem → Option (Mem × Unit)) (hk38 : ∀ (σ : Mem), GS (KM enV X) X mX8_laySheet σ 38 [] [] (k38 σ)) : ∀ (n : Nat) (σ : Mem) (x2 : Int32), GS (KM enV X) X mX8_laySheet σ 12 [(0, .ref (xad X (98))), (1, .int x1), (2, .int x2)] [] (X8_laySheet_L12 x1 k38 n σ x2) := by
  intro n
  induction n with
  | zero => intros; exact g_none
  | succ n ih =>
    intro σ x2
    rw [X8_laySheet_L12]
    refine g_iload_n 2 dX8_laySheet_12 rfl ?_
    refine g_aload_n 0 dX8_laySheet_13 rfl ?_
    refine gf_X8_16 fl_X8_151 dX8_laySheet_14 ?_
    refine g_icmp_ge 38 dX8_laySheet_17 rfl (fun _ => ?_) (fun _ => ?_)
    · refine g_sub [] rfl ?_
      exact hk38 σ
    · refine g_aload_n 0 dX8_laySheet_20 rfl ?_
      refine gf_X8_15 fl_X8_38 dX8_laySheet_21 ?_
      refine g_iload_n 2 dX8_laySheet_24 rfl ?_
      refine g_aload_n 0 dX8_laySheet_25 rfl ?_
      refine g_iload_n 1 dX8_laySheet_26 rfl ?_
      refine g_iload_n 2 dX8_laySheet_27 rfl ?_
      refine g_callVI (c_X8_rowAt σ x1 x2) okX8_rowAt ⟨by decide, by decide⟩ ml_X8_105 sh_98 no_98 rfl rfl [.int x1, .int x2] rfl rfl rfl (Nat.le_of_ble_eq_true rfl) dX8_laySheet_28 (fun q1 => ?_)
      refine g_iast sh_107 no_107 dX8_laySheet_31 (fun _ => ?_)
      refine g_iinc 2 [(2, .int ((x2 + (1 : Int32)))), (0, .ref (xad X (98))), (1, .int x1)] dX8_laySheet_32 rfl (v := x2 + (1 : Int32)) rfl (by decide) rfl ?_
      refine g_goto 12 dX8_laySheet_35 rfl ?_
      refine g_sub [1, 2, 0] rfl ?_
      exact ih ((uI q1.1 815 0 x2.toNatClampNeg q1.2)) ((x2 + (1 : Int32)))

set_option maxRecDepth 100000 in
set_option maxHeartbeats 4000000 in
theorem c_X8_laySheet (σ : Mem) (a1 : Int32) : CT yX8_laySheet mX8_laySheet enV (fun ad => [.ref (ad (98)), .int a1]) σ (X8_laySheet σ a1) := by
  refine CT.of (by decide) rfl (fun _ => Nat.le_of_ble_eq_true rfl) (fun X => ?_)
  show GS (KM enV X) X mX8_laySheet σ 0 [(0, .ref (xad X (98))), (1, .int a1)] [] _
  unfold X8_laySheet
  refine g_aload_n 0 dX8_laySheet_0 rfl ?_
  refine g_aload_n 0 dX8_laySheet_1 rfl ?_
  refine gf_X8_5 fl_X8_17 dX8_laySheet_2 ?_
  refine g_iload_n 1 dX8_laySheet_5 rfl ?_
  refine g_iald sh_100 no_100 dX8_laySheet_6 (fun _ => ?_)
  refine pf_X8_16 fl_X8_151 dX8_laySheet_7 ?_
  refine g_iconst (0 : Int32) dX8_laySheet_10 (by decide) ?_
  refine g_istore_n [(2, .int ((0 : Int32))), (0, .ref (xad X (98))), (1, .int a1)] dX8_laySheet_11 (by decide) rfl ?_
  refine g_sub [1, 2, 0] rfl ?_
  refine t_X8_laySheet_L12 X a1 _ (fun s4 => ?_) FU ((uI σ 816 0 0 ((σ.1 805 0 a1.toNatClampNeg)))) (0 : Int32)
  exact g_vret rfl dX8_laySheet_38

def X8_outToSheet_L10 (k36 : Mem → Option (Mem × Unit)) : Nat → Mem → Int32 → Option (Mem × Unit)
  | 0, _, _ => none
  | n + 1, σ, x1 => (if (σ.1 818 0 0) ≤ x1 then k36 σ else (ck x1 16 <| ck x1 8 <| X8_outToSheet_L10 k36 n ((uI σ 815 0 x1.toNatClampNeg (σ.1 817 0 x1.toNatClampNeg))) ((x1 + (1 : Int32)))))
def X8_outToSheet (σ : Mem) : Option (Mem × Unit) := (X8_outToSheet_L10 (fun (s3 : Mem) => (some (s3, ()))) FU ((uI σ 816 0 0 ((σ.1 818 0 0)))) (0 : Int32))
set_option maxRecDepth 100000 in
set_option maxHeartbeats 4000000 in
theorem t_X8_outToSheet_L10 (X : GX) (k36 : Mem → Option (Mem × Unit)) (hk36 : ∀ (σ : Mem), GS (KM enV X) X mX8_outToSheet σ 36 [] [] (k36 σ)) : ∀ (n : Nat) (σ : Mem) (x1 : Int32), GS (KM enV X) X mX8_outToSheet σ 10 [(0, .ref (xad X (98))), (1, .int x1)] [] (X8_outToSheet_L10 k36 n σ x1) := by
  intro n
  induction n with
  | zero => intros; exact g_none
  | succ n ih =>
    intro σ x1
    rw [X8_outToSheet_L10]
    refine g_iload_n 1 dX8_outToSheet_10 rfl ?_
    refine g_aload_n 0 dX8_outToSheet_11 rfl ?_
    refine gf_X8_18 fl_X8_161 dX8_outToSheet_12 ?_
    refine g_icmp_ge 36 dX8_outToSheet_15 rfl (fun _ => ?_) (fun _ => ?_)
    · refine g_sub [] rfl ?_
      exact hk36 σ
    · refine g_aload_n 0 dX8_outToSheet_18 rfl ?_
      refine gf_X8_15 fl_X8_38 dX8_outToSheet_19 ?_
      refine g_iload_n 1 dX8_outToSheet_22 rfl ?_
      refine g_aload_n 0 dX8_outToSheet_23 rfl ?_
      refine gf_X8_17 fl_X8_41 dX8_outToSheet_24 ?_
      refine g_iload_n 1 dX8_outToSheet_27 rfl ?_
      refine g_iald sh_108 no_108 dX8_outToSheet_28 (fun _ => ?_)
      refine g_iast sh_107 no_107 dX8_outToSheet_29 (fun _ => ?_)
      refine g_iinc 1 [(1, .int ((x1 + (1 : Int32)))), (0, .ref (xad X (98)))] dX8_outToSheet_30 rfl (v := x1 + (1 : Int32)) rfl (by decide) rfl ?_
      refine g_goto 10 dX8_outToSheet_33 rfl ?_
      refine g_sub [1, 0] rfl ?_
      exact ih ((uI σ 815 0 x1.toNatClampNeg (σ.1 817 0 x1.toNatClampNeg))) ((x1 + (1 : Int32)))

set_option maxRecDepth 100000 in
set_option maxHeartbeats 4000000 in
theorem c_X8_outToSheet (σ : Mem) : CT yX8_outToSheet mX8_outToSheet enV (fun ad => [.ref (ad (98))]) σ (X8_outToSheet σ) := by
  refine CT.of (by decide) rfl (fun _ => Nat.le_of_ble_eq_true rfl) (fun X => ?_)
  show GS (KM enV X) X mX8_outToSheet σ 0 [(0, .ref (xad X (98)))] [] _
  unfold X8_outToSheet
  refine g_aload_n 0 dX8_outToSheet_0 rfl ?_
  refine g_aload_n 0 dX8_outToSheet_1 rfl ?_
  refine gf_X8_18 fl_X8_161 dX8_outToSheet_2 ?_
  refine pf_X8_16 fl_X8_151 dX8_outToSheet_5 ?_
  refine g_iconst (0 : Int32) dX8_outToSheet_8 (by decide) ?_
  refine g_istore_n [(1, .int ((0 : Int32))), (0, .ref (xad X (98)))] dX8_outToSheet_9 (by decide) rfl ?_
  refine g_sub [1, 0] rfl ?_
  refine t_X8_outToSheet_L10 X _ (fun s3 => ?_) FU ((uI σ 816 0 0 ((σ.1 818 0 0)))) (0 : Int32)
  exact g_vret rfl dX8_outToSheet_36

def X8_sheetToRow_L12 (x1 : Int32) (k38 : Mem → Option (Mem × Int32)) : Nat → Mem → Int32 → Option (Mem × Int32)
  | 0, _, _ => none
  | n + 1, σ, x2 => (if (σ.1 816 0 0) ≤ x2 then k38 σ else (ck x2 8 <| (X8_setRow σ x1 x2 ((σ.1 815 0 x2.toNatClampNeg))).bind fun q2 => X8_sheetToRow_L12 x1 k38 n q2.1 ((x2 + (1 : Int32)))))
def X8_sheetToRow (σ : Mem) (a1 : Int32) : Option (Mem × Int32) := ((X8_row σ a1 ((σ.1 816 0 0))).bind fun q1 => X8_sheetToRow_L12 a1 (fun (s5 : Mem) => (some (s5, (s5.1 816 0 0)))) FU q1.1 (0 : Int32))
set_option maxRecDepth 100000 in
set_option maxHeartbeats 4000000 in
theorem t_X8_sheetToRow_L12 (X : GX) (x1 : Int32) (k38 : Mem → Option (Mem × Int32)) (hk38 : ∀ (σ : Mem), GS (KM enI X) X mX8_sheetToRow σ 38 [(0, .ref (xad X (98)))] [] (k38 σ)) : ∀ (n : Nat) (σ : Mem) (x2 : Int32), GS (KM enI X) X mX8_sheetToRow σ 12 [(0, .ref (xad X (98))), (1, .int x1), (2, .int x2)] [] (X8_sheetToRow_L12 x1 k38 n σ x2) := by
  intro n
  induction n with
  | zero => intros; exact g_none
  | succ n ih =>
    intro σ x2
    rw [X8_sheetToRow_L12]
    refine g_iload_n 2 dX8_sheetToRow_12 rfl ?_
    refine g_aload_n 0 dX8_sheetToRow_13 rfl ?_
    refine gf_X8_16 fl_X8_151 dX8_sheetToRow_14 ?_
    refine g_icmp_ge 38 dX8_sheetToRow_17 rfl (fun _ => ?_) (fun _ => ?_)
    · refine g_sub [0] rfl ?_
      exact hk38 σ
    · refine g_aload_n 0 dX8_sheetToRow_20 rfl ?_
      refine g_iload_n 1 dX8_sheetToRow_21 rfl ?_
      refine g_iload_n 2 dX8_sheetToRow_22 rfl ?_
      refine g_aload_n 0 dX8_sheetToRow_23 rfl ?_
      refine gf_X8_15 fl_X8_38 dX8_sheetToRow_24 ?_
      refine g_iload_n 2 dX8_sheetToRow_27 rfl ?_
      refine g_iald sh_107 no_107 dX8_sheetToRow_28 (fun _ => ?_)
      refine g_callVV (c_X8_setRow σ x1 x2 ((σ.1 815 0 x2.toNatClampNeg))) okX8_setRow ⟨by decide, by decide⟩ ml_X8_98 sh_98 no_98 rfl rfl [.int x1, .int x2, .int ((σ.1 815 0 x2.toNatClampNeg))] rfl rfl rfl (Nat.le_of_ble_eq_true rfl) dX8_sheetToRow_29 (fun q2 => ?_)
      refine g_iinc 2 [(2, .int ((x2 + (1 : Int32)))), (0, .ref (xad X (98))), (1, .int x1)] dX8_sheetToRow_32 rfl (v := x2 + (1 : Int32)) rfl (by decide) rfl ?_
      refine g_goto 12 dX8_sheetToRow_35 rfl ?_
      refine g_sub [1, 2, 0] rfl ?_
      exact ih q2.1 ((x2 + (1 : Int32)))

set_option maxRecDepth 100000 in
set_option maxHeartbeats 4000000 in
theorem c_X8_sheetToRow (σ : Mem) (a1 : Int32) : CT yX8_sheetToRow mX8_sheetToRow enI (fun ad => [.ref (ad (98)), .int a1]) σ (X8_sheetToRow σ a1) := by
  refine CT.of (by decide) rfl (fun _ => Nat.le_of_ble_eq_true rfl) (fun X => ?_)
  show GS (KM enI X) X mX8_sheetToRow σ 0 [(0, .ref (xad X (98))), (1, .int a1)] [] _
  unfold X8_sheetToRow
  refine g_aload_n 0 dX8_sheetToRow_0 rfl ?_
  refine g_iload_n 1 dX8_sheetToRow_1 rfl ?_
  refine g_aload_n 0 dX8_sheetToRow_2 rfl ?_
  refine gf_X8_16 fl_X8_151 dX8_sheetToRow_3 ?_
  refine g_callVI (c_X8_row σ a1 ((σ.1 816 0 0))) okX8_row ⟨by decide, by decide⟩ ml_X8_171 sh_98 no_98 rfl rfl [.int a1, .int ((σ.1 816 0 0))] rfl rfl rfl (Nat.le_of_ble_eq_true rfl) dX8_sheetToRow_6 (fun q1 => ?_)
  refine g_pop dX8_sheetToRow_9 rfl ?_
  refine g_iconst (0 : Int32) dX8_sheetToRow_10 (by decide) ?_
  refine g_istore_n [(2, .int ((0 : Int32))), (0, .ref (xad X (98))), (1, .int a1)] dX8_sheetToRow_11 (by decide) rfl ?_
  refine g_sub [1, 2, 0] rfl ?_
  refine t_X8_sheetToRow_L12 X a1 _ (fun s5 => ?_) FU q1.1 (0 : Int32)
  refine g_aload_n 0 dX8_sheetToRow_38 rfl ?_
  refine gf_X8_16 fl_X8_151 dX8_sheetToRow_39 ?_
  exact g_iret rfl dX8_sheetToRow_42

def X8_outToRow_L12 (x1 : Int32) (k38 : Mem → Option (Mem × Int32)) : Nat → Mem → Int32 → Option (Mem × Int32)
  | 0, _, _ => none
  | n + 1, σ, x2 => (if (σ.1 818 0 0) ≤ x2 then k38 σ else (ck x2 16 <| (X8_setRow σ x1 x2 ((σ.1 817 0 x2.toNatClampNeg))).bind fun q2 => X8_outToRow_L12 x1 k38 n q2.1 ((x2 + (1 : Int32)))))
def X8_outToRow (σ : Mem) (a1 : Int32) : Option (Mem × Int32) := ((X8_row σ a1 ((σ.1 818 0 0))).bind fun q1 => X8_outToRow_L12 a1 (fun (s5 : Mem) => (some (s5, (s5.1 818 0 0)))) FU q1.1 (0 : Int32))
set_option maxRecDepth 100000 in
set_option maxHeartbeats 4000000 in
theorem t_X8_outToRow_L12 (X : GX) (x1 : Int32) (k38 : Mem → Option (Mem × Int32)) (hk38 : ∀ (σ : Mem), GS (KM enI X) X mX8_outToRow σ 38 [(0, .ref (xad X (98)))] [] (k38 σ)) : ∀ (n : Nat) (σ : Mem) (x2 : Int32), GS (KM enI X) X mX8_outToRow σ 12 [(0, .ref (xad X (98))), (1, .int x1), (2, .int x2)] [] (X8_outToRow_L12 x1 k38 n σ x2) := by
  intro n
  induction n with
  | zero => intros; exact g_none
  | succ n ih =>
    intro σ x2
    rw [X8_outToRow_L12]
    refine g_iload_n 2 dX8_outToRow_12 rfl ?_
    refine g_aload_n 0 dX8_outToRow_13 rfl ?_
    refine gf_X8_18 fl_X8_161 dX8_outToRow_14 ?_
    refine g_icmp_ge 38 dX8_outToRow_17 rfl (fun _ => ?_) (fun _ => ?_)
    · refine g_sub [0] rfl ?_
      exact hk38 σ
    · refine g_aload_n 0 dX8_outToRow_20 rfl ?_
      refine g_iload_n 1 dX8_outToRow_21 rfl ?_
      refine g_iload_n 2 dX8_outToRow_22 rfl ?_
      refine g_aload_n 0 dX8_outToRow_23 rfl ?_
      refine gf_X8_17 fl_X8_41 dX8_outToRow_24 ?_
      refine g_iload_n 2 dX8_outToRow_27 rfl ?_
      refine g_iald sh_108 no_108 dX8_outToRow_28 (fun _ => ?_)
      refine g_callVV (c_X8_setRow σ x1 x2 ((σ.1 817 0 x2.toNatClampNeg))) okX8_setRow ⟨by decide, by decide⟩ ml_X8_98 sh_98 no_98 rfl rfl [.int x1, .int x2, .int ((σ.1 817 0 x2.toNatClampNeg))] rfl rfl rfl (Nat.le_of_ble_eq_true rfl) dX8_outToRow_29 (fun q2 => ?_)
      refine g_iinc 2 [(2, .int ((x2 + (1 : Int32)))), (0, .ref (xad X (98))), (1, .int x1)] dX8_outToRow_32 rfl (v := x2 + (1 : Int32)) rfl (by decide) rfl ?_
      refine g_goto 12 dX8_outToRow_35 rfl ?_
      refine g_sub [1, 2, 0] rfl ?_
      exact ih q2.1 ((x2 + (1 : Int32)))

set_option maxRecDepth 100000 in
set_option maxHeartbeats 4000000 in
theorem c_X8_outToRow (σ : Mem) (a1 : Int32) : CT yX8_outToRow mX8_outToRow enI (fun ad => [.ref (ad (98)), .int a1]) σ (X8_outToRow σ a1) := by
  refine CT.of (by decide) rfl (fun _ => Nat.le_of_ble_eq_true rfl) (fun X => ?_)
  show GS (KM enI X) X mX8_outToRow σ 0 [(0, .ref (xad X (98))), (1, .int a1)] [] _
  unfold X8_outToRow
  refine g_aload_n 0 dX8_outToRow_0 rfl ?_
  refine g_iload_n 1 dX8_outToRow_1 rfl ?_
  refine g_aload_n 0 dX8_outToRow_2 rfl ?_
  refine gf_X8_18 fl_X8_161 dX8_outToRow_3 ?_
  refine g_callVI (c_X8_row σ a1 ((σ.1 818 0 0))) okX8_row ⟨by decide, by decide⟩ ml_X8_171 sh_98 no_98 rfl rfl [.int a1, .int ((σ.1 818 0 0))] rfl rfl rfl (Nat.le_of_ble_eq_true rfl) dX8_outToRow_6 (fun q1 => ?_)
  refine g_pop dX8_outToRow_9 rfl ?_
  refine g_iconst (0 : Int32) dX8_outToRow_10 (by decide) ?_
  refine g_istore_n [(2, .int ((0 : Int32))), (0, .ref (xad X (98))), (1, .int a1)] dX8_outToRow_11 (by decide) rfl ?_
  refine g_sub [1, 2, 0] rfl ?_
  refine t_X8_outToRow_L12 X a1 _ (fun s5 => ?_) FU q1.1 (0 : Int32)
  refine g_aload_n 0 dX8_outToRow_38 rfl ?_
  refine gf_X8_18 fl_X8_161 dX8_outToRow_39 ?_
  exact g_iret rfl dX8_outToRow_42

def X8_askedSigns_L31 (x1 : Int32) (k67 : Mem → Option (Mem × Int32)) : Nat → Mem → Int32 → Option (Mem × Int32)
  | 0, _, _ => none
  | n + 1, σ, x4 => (ck x1 6 <| if (σ.1 805 0 x1.toNatClampNeg) ≤ x4 then k67 σ else ((X8_rowAt σ x1 x4).bind fun q2 => (X8_isSign q2.1 q2.2).bind fun q3 => if q3.2 = 0 then ((X8_meet q3.1 (3 : Int32)).bind fun q5 => some (q5.1, q5.2)) else (X8_askedSigns_L31 x1 k67 n q3.1 ((x4 + (1 : Int32))))))
def X8_askedSigns (σ : Mem) (a1 : Int32) (a2 : Int32) : Option (Mem × Int32) := ((X8_askedRow σ a1).bind fun q1 => if 0 ≤ q1.2 then (ck a1 6 <| if (q1.1.1 805 0 a1.toNatClampNeg) ≤ a2 then (X8_askedSigns_L31 a1 (fun (s7 : Mem) => (some (s7, (0 : Int32)))) FU q1.1 (0 : Int32)) else ((X8_meet q1.1 (5 : Int32)).bind fun q8 => some (q8.1, q8.2))) else (some (q1.1, q1.2)))
set_option maxRecDepth 100000 in
set_option maxHeartbeats 4000000 in
theorem t_X8_askedSigns_L31 (X : GX) (x1 : Int32) (k67 : Mem → Option (Mem × Int32)) (hk67 : ∀ (σ : Mem), GS (KM enI X) X mX8_askedSigns σ 67 [] [] (k67 σ)) : ∀ (n : Nat) (σ : Mem) (x4 : Int32), GS (KM enI X) X mX8_askedSigns σ 31 [(0, .ref (xad X (98))), (1, .int x1), (4, .int x4)] [] (X8_askedSigns_L31 x1 k67 n σ x4) := by
  intro n
  induction n with
  | zero => intros; exact g_none
  | succ n ih =>
    intro σ x4
    rw [X8_askedSigns_L31]
    refine g_iload 2 dX8_askedSigns_31 rfl ?_
    refine g_aload_n 0 dX8_askedSigns_33 rfl ?_
    refine gf_X8_5 fl_X8_17 dX8_askedSigns_34 ?_
    refine g_iload_n 1 dX8_askedSigns_37 rfl ?_
    refine g_iald sh_100 no_100 dX8_askedSigns_38 (fun _ => ?_)
    refine g_icmp_ge 67 dX8_askedSigns_39 rfl (fun _ => ?_) (fun _ => ?_)
    · refine g_sub [] rfl ?_
      exact hk67 σ
    · refine g_aload_n 0 dX8_askedSigns_42 rfl ?_
      refine g_iload_n 1 dX8_askedSigns_43 rfl ?_
      refine g_iload 2 dX8_askedSigns_44 rfl ?_
      refine g_callVI (c_X8_rowAt σ x1 x4) okX8_rowAt ⟨by decide, by decide⟩ ml_X8_105 sh_98 no_98 rfl rfl [.int x1, .int x4] rfl rfl rfl (Nat.le_of_ble_eq_true rfl) dX8_askedSigns_46 (fun q2 => ?_)
      refine g_callSI (c_X8_isSign q2.1 q2.2) okX8_isSign ⟨by decide, by decide⟩ ml_X8_174 rfl rfl (Nat.le_of_ble_eq_true rfl) dX8_askedSigns_49 (fun q3 => ?_)
      refine g_if_ne 61 dX8_askedSigns_52 rfl (fun _ => ?_) (fun _ => ?_)
      · refine g_iinc 2 [(4, .int ((x4 + (1 : Int32)))), (0, .ref (xad X (98))), (1, .int x1)] dX8_askedSigns_61 rfl (v := x4 + (1 : Int32)) rfl (by decide) rfl ?_
        refine g_goto 31 dX8_askedSigns_64 rfl ?_
        refine g_sub [1, 2, 0] rfl ?_
        exact ih q3.1 ((x4 + (1 : Int32)))
      · refine g_aload_n 0 dX8_askedSigns_55 rfl ?_
        refine g_iconst (3 : Int32) dX8_askedSigns_56 (by decide) ?_
        refine g_callVI (c_X8_meet q3.1 (3 : Int32)) okX8_meet ⟨by decide, by decide⟩ ml_X8_91 sh_98 no_98 rfl rfl [.int ((3 : Int32))] rfl rfl rfl (Nat.le_of_ble_eq_true rfl) dX8_askedSigns_57 (fun q5 => ?_)
        exact g_iret rfl dX8_askedSigns_60

set_option maxRecDepth 100000 in
set_option maxHeartbeats 4000000 in
theorem c_X8_askedSigns (σ : Mem) (a1 : Int32) (a2 : Int32) : CT yX8_askedSigns mX8_askedSigns enI (fun ad => [.ref (ad (98)), .int a1, .int a2]) σ (X8_askedSigns σ a1 a2) := by
  refine CT.of (by decide) rfl (fun _ => Nat.le_of_ble_eq_true rfl) (fun X => ?_)
  show GS (KM enI X) X mX8_askedSigns σ 0 [(0, .ref (xad X (98))), (1, .int a1), (2, .int a2)] [] _
  unfold X8_askedSigns
  refine g_aload_n 0 dX8_askedSigns_0 rfl ?_
  refine g_iload_n 1 dX8_askedSigns_1 rfl ?_
  refine g_callVI (c_X8_askedRow σ a1) okX8_askedRow ⟨by decide, by decide⟩ ml_X8_102 sh_98 no_98 rfl rfl [.int a1] rfl rfl rfl (Nat.le_of_ble_eq_true rfl) dX8_askedSigns_2 (fun q1 => ?_)
  refine g_istore_n [(3, .int (q1.2)), (0, .ref (xad X (98))), (1, .int a1), (2, .int a2)] dX8_askedSigns_5 (by decide) rfl ?_
  refine g_iload_n 0 dX8_askedSigns_6 rfl ?_
  refine g_if_ge 12 dX8_askedSigns_7 rfl (fun _ => ?_) (fun _ => ?_)
  · refine g_aload_n 1 dX8_askedSigns_12 rfl ?_
    refine gf_X8_5 fl_X8_17 dX8_askedSigns_13 ?_
    refine g_iload_n 2 dX8_askedSigns_16 rfl ?_
    refine g_iald sh_100 no_100 dX8_askedSigns_17 (fun _ => ?_)
    refine g_iload_n 3 dX8_askedSigns_18 rfl ?_
    refine g_icmp_le 28 dX8_askedSigns_19 rfl (fun _ => ?_) (fun _ => ?_)
    · refine g_iconst (0 : Int32) dX8_askedSigns_28 (by decide) ?_
      refine g_istore [(4, .int ((0 : Int32))), (3, .int (q1.2)), (0, .ref (xad X (98))), (1, .int a1), (2, .int a2)] dX8_askedSigns_29 (by decide) rfl ?_
      refine g_sub [2, 3, 0] rfl ?_
      refine t_X8_askedSigns_L31 X a1 _ (fun s7 => ?_) FU q1.1 (0 : Int32)
      refine g_iconst (0 : Int32) dX8_askedSigns_67 (by decide) ?_
      exact g_iret rfl dX8_askedSigns_68
    · refine g_aload_n 1 dX8_askedSigns_22 rfl ?_
      refine g_iconst (5 : Int32) dX8_askedSigns_23 (by decide) ?_
      refine g_callVI (c_X8_meet q1.1 (5 : Int32)) okX8_meet ⟨by decide, by decide⟩ ml_X8_91 sh_98 no_98 rfl rfl [.int ((5 : Int32))] rfl rfl rfl (Nat.le_of_ble_eq_true rfl) dX8_askedSigns_24 (fun q8 => ?_)
      exact g_iret rfl dX8_askedSigns_27
  · refine g_iload_n 0 dX8_askedSigns_10 rfl ?_
    exact g_iret rfl dX8_askedSigns_11

