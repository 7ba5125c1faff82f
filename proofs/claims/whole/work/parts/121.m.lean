def X8_smallest_J18 (σ : Mem) (x1 : Int32) (x2 : Int32) (z0 : Int32) : Option (Mem × Int32) := (if 0 ≤ z0 then ((X8_layGoal σ x1).bind fun q3 => (X8_findsFirst q3.1).bind fun q4 => if q4.2 = 0 then (some (q4.1, (-9 : Int32))) else ((X8_sheetToRow q4.1 x2).bind fun q5 => (some (q5.1, q5.2)))) else (some (σ, z0)))
def X8_smallest (σ : Mem) (a1 : Int32) (a2 : Int32) : Option (Mem × Int32) := ((X8_isRow σ a2).bind fun q1 => if q1.2 = 0 then (X8_smallest_J18 q1.1 a1 a2 (-1 : Int32)) else ((X8_askedSigns q1.1 a1 (16 : Int32)).bind fun q2 => X8_smallest_J18 q2.1 a1 a2 q2.2))
set_option maxRecDepth 100000 in
set_option maxHeartbeats 4000000 in
theorem t_X8_smallest_J18 (X : GX) (σ : Mem) (x1 : Int32) (x2 : Int32) (z0 : Int32) : GS (KM enI X) X mX8_smallest σ 18 [(0, .ref (xad X (98))), (1, .int x1), (2, .int x2)] [.int z0] (X8_smallest_J18 σ x1 x2 z0) := by
  unfold X8_smallest_J18
  refine g_istore_n [(3, .int z0), (0, .ref (xad X (98))), (1, .int x1), (2, .int x2)] dX8_smallest_18 (by decide) rfl ?_
  refine g_iload_n 0 dX8_smallest_19 rfl ?_
  refine g_if_ge 25 dX8_smallest_20 rfl (fun _ => ?_) (fun _ => ?_)
  · refine g_aload_n 1 dX8_smallest_25 rfl ?_
    refine g_iload_n 2 dX8_smallest_26 rfl ?_
    refine g_callVV (c_X8_layGoal σ x1) okX8_layGoal ⟨by decide, by decide⟩ ml_X8_238 sh_98 no_98 rfl rfl [.int x1] rfl rfl rfl (Nat.le_of_ble_eq_true rfl) dX8_smallest_27 (fun q3 => ?_)
    refine g_aload_n 1 dX8_smallest_30 rfl ?_
    refine g_callVI (c_X8_findsFirst q3.1) okX8_findsFirst ⟨by decide, by decide⟩ ml_X8_241 sh_98 no_98 rfl rfl [] rfl rfl rfl (Nat.le_of_ble_eq_true rfl) dX8_smallest_31 (fun q4 => ?_)
    refine g_if_eq 45 dX8_smallest_34 rfl (fun _ => ?_) (fun _ => ?_)
    · refine g_bipush (-9 : Int32) dX8_smallest_45 (by decide) ?_
      exact g_iret rfl dX8_smallest_47
    · refine g_aload_n 1 dX8_smallest_37 rfl ?_
      refine g_iload_n 3 dX8_smallest_38 rfl ?_
      refine g_callVI (c_X8_sheetToRow q4.1 x2) okX8_sheetToRow ⟨by decide, by decide⟩ ml_X8_210 sh_98 no_98 rfl rfl [.int x2] rfl rfl rfl (Nat.le_of_ble_eq_true rfl) dX8_smallest_39 (fun q5 => ?_)
      refine g_goto 47 dX8_smallest_42 rfl ?_
      exact g_iret rfl dX8_smallest_47
  · refine g_iload_n 0 dX8_smallest_23 rfl ?_
    exact g_iret rfl dX8_smallest_24

set_option maxRecDepth 100000 in
set_option maxHeartbeats 4000000 in
theorem c_X8_smallest (σ : Mem) (a1 : Int32) (a2 : Int32) : CT yX8_smallest mX8_smallest enI (fun ad => [.ref (ad (98)), .int a1, .int a2]) σ (X8_smallest σ a1 a2) := by
  refine CT.of (by decide) rfl (fun _ => Nat.le_of_ble_eq_true rfl) (fun X => ?_)
  show GS (KM enI X) X mX8_smallest σ 0 [(0, .ref (xad X (98))), (1, .int a1), (2, .int a2)] [] _
  unfold X8_smallest
  refine g_iload_n 2 dX8_smallest_0 rfl ?_
  refine g_callSI (c_X8_isRow σ a2) okX8_isRow ⟨by decide, by decide⟩ ml_X8_87 rfl rfl (Nat.le_of_ble_eq_true rfl) dX8_smallest_1 (fun q1 => ?_)
  refine g_if_ne 11 dX8_smallest_4 rfl (fun _ => ?_) (fun _ => ?_)
  · refine g_aload_n 0 dX8_smallest_11 rfl ?_
    refine g_iload_n 1 dX8_smallest_12 rfl ?_
    refine g_bipush (16 : Int32) dX8_smallest_13 (by decide) ?_
    refine g_callVI (c_X8_askedSigns q1.1 a1 (16 : Int32)) okX8_askedSigns ⟨by decide, by decide⟩ ml_X8_201 sh_98 no_98 rfl rfl [.int a1, .int ((16 : Int32))] rfl rfl rfl (Nat.le_of_ble_eq_true rfl) dX8_smallest_15 (fun q2 => ?_)
    refine g_sub [0, 1, 2] rfl ?_
    exact t_X8_smallest_J18 X q2.1 a1 a2 q2.2
  · refine g_iconst (-1 : Int32) dX8_smallest_7 (by decide) ?_
    refine g_goto 18 dX8_smallest_8 rfl ?_
    refine g_sub [0, 1, 2] rfl ?_
    exact t_X8_smallest_J18 X q1.1 a1 a2 (-1 : Int32)

def X8_codeOf_L4 (k32 : Mem → Int64 → Option (Mem × Int64)) : Nat → Mem → Int64 → Int32 → Option (Mem × Int64)
  | 0, _, _, _ => none
  | n + 1, σ, x1, x3 => (if (σ.1 818 0 0) ≤ x3 then k32 σ x1 else (ck x3 16 <| lt_ ((((8 : Int64) * x1) + (σ.1 817 0 x3.toNatClampNeg).toInt64)) fun (v1 : Int64) => X8_codeOf_L4 k32 n σ v1 ((x3 + (1 : Int32)))))
def X8_codeOf (σ : Mem) : Option (Mem × Int64) := (X8_codeOf_L4 (fun (s4 : Mem) (y1_3 : Int64) => (some (s4, y1_3))) FU σ (1 : Int64) (0 : Int32))
set_option maxRecDepth 100000 in
set_option maxHeartbeats 4000000 in
theorem t_X8_codeOf_L4 (X : GX) (k32 : Mem → Int64 → Option (Mem × Int64)) (hk32 : ∀ (σ : Mem) (y1 : Int64), GS (KM enJ X) X mX8_codeOf σ 32 [(1, .long y1)] [] (k32 σ y1)) : ∀ (n : Nat) (σ : Mem) (x1 : Int64) (x3 : Int32), GS (KM enJ X) X mX8_codeOf σ 4 [(0, .ref (xad X (98))), (1, .long x1), (3, .int x3)] [] (X8_codeOf_L4 k32 n σ x1 x3) := by
  intro n
  induction n with
  | zero => intros; exact g_none
  | succ n ih =>
    intro σ x1 x3
    rw [X8_codeOf_L4]
    refine g_iload_n 2 dX8_codeOf_4 rfl ?_
    refine g_aload_n 0 dX8_codeOf_5 rfl ?_
    refine gf_X8_18 fl_X8_161 dX8_codeOf_6 ?_
    refine g_icmp_ge 32 dX8_codeOf_9 rfl (fun _ => ?_) (fun _ => ?_)
    · refine g_sub [1] rfl ?_
      exact hk32 σ x1
    · refine g_ldc2 (8 : Int64) dX8_codeOf_12 kl_X8_244 ?_
      refine g_lload_n 1 dX8_codeOf_15 rfl ?_
      refine g_lmul dX8_codeOf_16 ?_
      refine g_aload_n 0 dX8_codeOf_17 rfl ?_
      refine gf_X8_17 fl_X8_41 dX8_codeOf_18 ?_
      refine g_iload_n 2 dX8_codeOf_21 rfl ?_
      refine g_iald sh_108 no_108 dX8_codeOf_22 (fun _ => ?_)
      refine g_i2l dX8_codeOf_23 ?_
      refine g_ladd dX8_codeOf_24 ?_
      refine g_topl (fun v1 => ?_)
      refine g_lstore_n [(1, .long v1), (0, .ref (xad X (98))), (3, .int x3)] dX8_codeOf_25 (by decide) rfl ?_
      refine g_iinc 2 [(3, .int ((x3 + (1 : Int32)))), (1, .long v1), (0, .ref (xad X (98)))] dX8_codeOf_26 rfl (v := x3 + (1 : Int32)) rfl (by decide) rfl ?_
      refine g_goto 4 dX8_codeOf_29 rfl ?_
      refine g_sub [2, 1, 0] rfl ?_
      exact ih σ v1 ((x3 + (1 : Int32)))

set_option maxRecDepth 100000 in
set_option maxHeartbeats 4000000 in
theorem c_X8_codeOf (σ : Mem) : CT yX8_codeOf mX8_codeOf enJ (fun ad => [.ref (ad (98))]) σ (X8_codeOf σ) := by
  refine CT.of (by decide) rfl (fun _ => Nat.le_of_ble_eq_true rfl) (fun X => ?_)
  show GS (KM enJ X) X mX8_codeOf σ 0 [(0, .ref (xad X (98)))] [] _
  unfold X8_codeOf
  refine g_lconst (1 : Int64) dX8_codeOf_0 (by decide) ?_
  refine g_lstore_n [(1, .long ((1 : Int64))), (0, .ref (xad X (98)))] dX8_codeOf_1 (by decide) rfl ?_
  refine g_iconst (0 : Int32) dX8_codeOf_2 (by decide) ?_
  refine g_istore_n [(3, .int ((0 : Int32))), (1, .long ((1 : Int64))), (0, .ref (xad X (98)))] dX8_codeOf_3 (by decide) rfl ?_
  refine g_sub [2, 1, 0] rfl ?_
  refine t_X8_codeOf_L4 X _ (fun s4 y1_3 => ?_) FU σ (1 : Int64) (0 : Int32)
  refine g_lload_n 0 dX8_codeOf_32 rfl ?_
  exact g_lret rfl dX8_codeOf_33

def X8_layCodes_L7 (x1 : Int32) (x2 : Int32) (k42 : Mem → Option (Mem × Unit)) : Nat → Mem → Int32 → Option (Mem × Unit)
  | 0, _, _ => none
  | n + 1, σ, x3 => ((X8_sheetsOf σ x1).bind fun q2 => if q2.2 ≤ x3 then k42 q2.1 else ((X8_layNumber q2.1 x1 x3).bind fun q3 => (X8_setBy q3.1 x2).bind fun q4 => (X8_codeOf q4.1).bind fun q5 => ck x3 1296 <| X8_layCodes_L7 x1 x2 k42 n ((uJ q5.1 824 0 x3.toNatClampNeg q5.2)) ((x3 + (1 : Int32)))))
def X8_layCodes (σ : Mem) (a1 : Int32) : Option (Mem × Unit) := ((X8_onSet σ).bind fun q1 => X8_layCodes_L7 a1 q1.2 (fun (s8 : Mem) => (some (s8, ()))) FU q1.1 (0 : Int32))
set_option maxRecDepth 100000 in
set_option maxHeartbeats 4000000 in
theorem t_X8_layCodes_L7 (X : GX) (x1 : Int32) (x2 : Int32) (k42 : Mem → Option (Mem × Unit)) (hk42 : ∀ (σ : Mem), GS (KM enV X) X mX8_layCodes σ 42 [] [] (k42 σ)) : ∀ (n : Nat) (σ : Mem) (x3 : Int32), GS (KM enV X) X mX8_layCodes σ 7 [(0, .ref (xad X (98))), (1, .int x1), (2, .int x2), (3, .int x3)] [] (X8_layCodes_L7 x1 x2 k42 n σ x3) := by
  intro n
  induction n with
  | zero => intros; exact g_none
  | succ n ih =>
    intro σ x3
    rw [X8_layCodes_L7]
    refine g_iload_n 3 dX8_layCodes_7 rfl ?_
    refine g_iload_n 1 dX8_layCodes_8 rfl ?_
    refine g_callSI (c_X8_sheetsOf σ x1) okX8_sheetsOf ⟨by decide, by decide⟩ ml_X8_219 rfl rfl (Nat.le_of_ble_eq_true rfl) dX8_layCodes_9 (fun q2 => ?_)
    refine g_icmp_ge 42 dX8_layCodes_12 rfl (fun _ => ?_) (fun _ => ?_)
    · refine g_sub [] rfl ?_
      exact hk42 q2.1
    · refine g_aload_n 0 dX8_layCodes_15 rfl ?_
      refine g_iload_n 1 dX8_layCodes_16 rfl ?_
      refine g_iload_n 3 dX8_layCodes_17 rfl ?_
      refine g_callVV (c_X8_layNumber q2.1 x1 x3) okX8_layNumber ⟨by decide, by decide⟩ ml_X8_222 sh_98 no_98 rfl rfl [.int x1, .int x3] rfl rfl rfl (Nat.le_of_ble_eq_true rfl) dX8_layCodes_18 (fun q3 => ?_)
      refine g_aload_n 0 dX8_layCodes_21 rfl ?_
      refine g_iload_n 2 dX8_layCodes_22 rfl ?_
      refine g_callVV (c_X8_setBy q3.1 x2) okX8_setBy ⟨by decide, by decide⟩ ml_X8_188 sh_98 no_98 rfl rfl [.int x2] rfl rfl rfl (Nat.le_of_ble_eq_true rfl) dX8_layCodes_23 (fun q4 => ?_)
      refine g_aload_n 0 dX8_layCodes_26 rfl ?_
      refine gf_X8_24 fl_X8_56 dX8_layCodes_27 ?_
      refine g_iload_n 3 dX8_layCodes_30 rfl ?_
      refine g_aload_n 0 dX8_layCodes_31 rfl ?_
      refine g_callVJ (c_X8_codeOf q4.1) okX8_codeOf ⟨by decide, by decide⟩ ml_X8_246 sh_98 no_98 rfl rfl [] rfl rfl rfl (Nat.le_of_ble_eq_true rfl) dX8_layCodes_32 (fun q5 => ?_)
      refine g_last sh_113 no_113 dX8_layCodes_35 (fun _ => ?_)
      refine g_iinc 3 [(3, .int ((x3 + (1 : Int32)))), (0, .ref (xad X (98))), (1, .int x1), (2, .int x2)] dX8_layCodes_36 rfl (v := x3 + (1 : Int32)) rfl (by decide) rfl ?_
      refine g_goto 7 dX8_layCodes_39 rfl ?_
      refine g_sub [1, 2, 3, 0] rfl ?_
      exact ih ((uJ q5.1 824 0 x3.toNatClampNeg q5.2)) ((x3 + (1 : Int32)))

set_option maxRecDepth 100000 in
set_option maxHeartbeats 4000000 in
theorem c_X8_layCodes (σ : Mem) (a1 : Int32) : CT yX8_layCodes mX8_layCodes enV (fun ad => [.ref (ad (98)), .int a1]) σ (X8_layCodes σ a1) := by
  refine CT.of (by decide) rfl (fun _ => Nat.le_of_ble_eq_true rfl) (fun X => ?_)
  show GS (KM enV X) X mX8_layCodes σ 0 [(0, .ref (xad X (98))), (1, .int a1)] [] _
  unfold X8_layCodes
  refine g_aload_n 0 dX8_layCodes_0 rfl ?_
  refine g_callVI (c_X8_onSet σ) okX8_onSet ⟨by decide, by decide⟩ ml_X8_184 sh_98 no_98 rfl rfl [] rfl rfl rfl (Nat.le_of_ble_eq_true rfl) dX8_layCodes_1 (fun q1 => ?_)
  refine g_istore_n [(2, .int (q1.2)), (0, .ref (xad X (98))), (1, .int a1)] dX8_layCodes_4 (by decide) rfl ?_
  refine g_iconst (0 : Int32) dX8_layCodes_5 (by decide) ?_
  refine g_istore_n [(3, .int ((0 : Int32))), (2, .int (q1.2)), (0, .ref (xad X (98))), (1, .int a1)] dX8_layCodes_6 (by decide) rfl ?_
  refine g_sub [2, 3, 1, 0] rfl ?_
  refine t_X8_layCodes_L7 X a1 q1.2 _ (fun s8 => ?_) FU q1.1 (0 : Int32)
  exact g_vret rfl dX8_layCodes_42

def X8_twinOf_L4 (x1 : Int32) (x2 : Int32) (k33 : Mem → Option (Mem × Int32)) : Nat → Mem → Int32 → Option (Mem × Int32)
  | 0, _, _ => none
  | n + 1, σ, x3 => (if x2 ≤ x3 then k33 σ else (ck x3 1296 <| ck x1 1296 <| if (lg_cmp (σ.2.1 824 0 x3.toNatClampNeg) (σ.2.1 824 0 x1.toNatClampNeg)) = 0 then (some (σ, x3)) else (X8_twinOf_L4 x1 x2 k33 n σ ((x3 + (1 : Int32))))))
def X8_twinOf (σ : Mem) (a1 : Int32) (a2 : Int32) : Option (Mem × Int32) := (lt_ ((a1 + (1 : Int32))) fun (v1 : Int32) => X8_twinOf_L4 a1 a2 (fun (s4 : Mem) => (some (s4, (-9 : Int32)))) FU σ v1)
set_option maxRecDepth 100000 in
set_option maxHeartbeats 4000000 in
theorem t_X8_twinOf_L4 (X : GX) (x1 : Int32) (x2 : Int32) (k33 : Mem → Option (Mem × Int32)) (hk33 : ∀ (σ : Mem), GS (KM enI X) X mX8_twinOf σ 33 [] [] (k33 σ)) : ∀ (n : Nat) (σ : Mem) (x3 : Int32), GS (KM enI X) X mX8_twinOf σ 4 [(0, .ref (xad X (98))), (1, .int x1), (2, .int x2), (3, .int x3)] [] (X8_twinOf_L4 x1 x2 k33 n σ x3) := by
  intro n
  induction n with
  | zero => intros; exact g_none
  | succ n ih =>
    intro σ x3
    rw [X8_twinOf_L4]
    refine g_iload_n 3 dX8_twinOf_4 rfl ?_
    refine g_iload_n 2 dX8_twinOf_5 rfl ?_
    refine g_icmp_ge 33 dX8_twinOf_6 rfl (fun _ => ?_) (fun _ => ?_)
    · refine g_sub [] rfl ?_
      exact hk33 σ
    · refine g_aload_n 0 dX8_twinOf_9 rfl ?_
      refine gf_X8_24 fl_X8_56 dX8_twinOf_10 ?_
      refine g_iload_n 3 dX8_twinOf_13 rfl ?_
      refine g_lald sh_113 no_113 dX8_twinOf_14 (fun _ => ?_)
      refine g_aload_n 0 dX8_twinOf_15 rfl ?_
      refine gf_X8_24 fl_X8_56 dX8_twinOf_16 ?_
      refine g_iload_n 1 dX8_twinOf_19 rfl ?_
      refine g_lald sh_113 no_113 dX8_twinOf_20 (fun _ => ?_)
      refine g_lcmp dX8_twinOf_21 ?_
      refine g_if_ne 27 dX8_twinOf_22 rfl (fun _ => ?_) (fun _ => ?_)
      · refine g_iinc 3 [(3, .int ((x3 + (1 : Int32)))), (0, .ref (xad X (98))), (1, .int x1), (2, .int x2)] dX8_twinOf_27 rfl (v := x3 + (1 : Int32)) rfl (by decide) rfl ?_
        refine g_goto 4 dX8_twinOf_30 rfl ?_
        refine g_sub [1, 2, 3, 0] rfl ?_
        exact ih σ ((x3 + (1 : Int32)))
      · refine g_iload_n 3 dX8_twinOf_25 rfl ?_
        exact g_iret rfl dX8_twinOf_26

set_option maxRecDepth 100000 in
set_option maxHeartbeats 4000000 in
theorem c_X8_twinOf (σ : Mem) (a1 : Int32) (a2 : Int32) : CT yX8_twinOf mX8_twinOf enI (fun ad => [.ref (ad (98)), .int a1, .int a2]) σ (X8_twinOf σ a1 a2) := by
  refine CT.of (by decide) rfl (fun _ => Nat.le_of_ble_eq_true rfl) (fun X => ?_)
  show GS (KM enI X) X mX8_twinOf σ 0 [(0, .ref (xad X (98))), (1, .int a1), (2, .int a2)] [] _
  unfold X8_twinOf
  refine g_iload_n 1 dX8_twinOf_0 rfl ?_
  refine g_iconst (1 : Int32) dX8_twinOf_1 (by decide) ?_
  refine g_iadd dX8_twinOf_2 ?_
  refine g_topi (fun v1 => ?_)
  refine g_istore_n [(3, .int v1), (0, .ref (xad X (98))), (1, .int a1), (2, .int a2)] dX8_twinOf_3 (by decide) rfl ?_
  refine g_sub [1, 2, 3, 0] rfl ?_
  refine t_X8_twinOf_L4 X a1 a2 _ (fun s4 => ?_) FU σ v1
  refine g_bipush (-9 : Int32) dX8_twinOf_33 (by decide) ?_
  exact g_iret rfl dX8_twinOf_35

def X8_outs_L26 (x2 : Int32) (k58 : Mem → Int32 → Option (Mem × Int32)) : Nat → Mem → Int32 → Int32 → Option (Mem × Int32)
  | 0, _, _, _ => none
  | n + 1, σ, x3, x4 => (if x2 ≤ x4 then k58 σ x3 else ((X8_twinOf σ x4 x2).bind fun q4 => if q4.2 = (-9 : Int32) then ((lt_ ((x3 + (1 : Int32))) fun (v7 : Int32) => X8_outs_L26 x2 k58 n q4.1 v7 ((x4 + (1 : Int32))))) else (lt_ ((x3 + (0 : Int32))) fun (v5 : Int32) => X8_outs_L26 x2 k58 n q4.1 v5 ((x4 + (1 : Int32))))))
def X8_outs (σ : Mem) (a1 : Int32) : Option (Mem × Int32) := ((X8_in σ a1 (0 : Int32) (4 : Int32)).bind fun q1 => if q1.2 = 0 then (some (q1.1, (-1 : Int32))) else ((X8_layCodes q1.1 a1).bind fun q2 => (X8_sheetsOf q2.1 a1).bind fun q3 => X8_outs_L26 q3.2 (fun (s10 : Mem) (y3_9 : Int32) => (some (s10, y3_9))) FU q3.1 (0 : Int32) (0 : Int32)))
set_option maxRecDepth 100000 in
set_option maxHeartbeats 4000000 in
theorem t_X8_outs_L26 (X : GX) (x2 : Int32) (k58 : Mem → Int32 → Option (Mem × Int32)) (hk58 : ∀ (σ : Mem) (y3 : Int32), GS (KM enI X) X mX8_outs σ 58 [(3, .int y3)] [] (k58 σ y3)) : ∀ (n : Nat) (σ : Mem) (x3 : Int32) (x4 : Int32), GS (KM enI X) X mX8_outs σ 26 [(0, .ref (xad X (98))), (2, .int x2), (3, .int x3), (4, .int x4)] [] (X8_outs_L26 x2 k58 n σ x3 x4) := by
  intro n
  induction n with
  | zero => intros; exact g_none
  | succ n ih =>
    intro σ x3 x4
    rw [X8_outs_L26]
    refine g_iload 3 dX8_outs_26 rfl ?_
    refine g_iload_n 1 dX8_outs_28 rfl ?_
    refine g_icmp_ge 58 dX8_outs_29 rfl (fun _ => ?_) (fun _ => ?_)
    · refine g_sub [2] rfl ?_
      exact hk58 σ x3
    · refine g_iload_n 2 dX8_outs_32 rfl ?_
      refine g_aload_n 0 dX8_outs_33 rfl ?_
      refine g_iload 3 dX8_outs_34 rfl ?_
      refine g_iload_n 1 dX8_outs_36 rfl ?_
      refine g_callVI (c_X8_twinOf σ x4 x2) okX8_twinOf ⟨by decide, by decide⟩ ml_X8_253 sh_98 no_98 rfl rfl [.int x4, .int x2] rfl rfl rfl (Nat.le_of_ble_eq_true rfl) dX8_outs_37 (fun q4 => ?_)
      refine g_bipush (-9 : Int32) dX8_outs_40 (by decide) ?_
      refine g_icmp_ne 49 dX8_outs_42 rfl (fun _ => ?_) (fun _ => ?_)
      · refine g_iconst (0 : Int32) dX8_outs_49 (by decide) ?_
        refine g_iadd dX8_outs_50 ?_
        refine g_topi (fun v5 => ?_)
        refine g_istore_n [(3, .int v5), (0, .ref (xad X (98))), (2, .int x2), (4, .int x4)] dX8_outs_51 (by decide) rfl ?_
        refine g_iinc 3 [(4, .int ((x4 + (1 : Int32)))), (3, .int v5), (0, .ref (xad X (98))), (2, .int x2)] dX8_outs_52 rfl (v := x4 + (1 : Int32)) rfl (by decide) rfl ?_
        refine g_goto 26 dX8_outs_55 rfl ?_
        refine g_sub [2, 3, 1, 0] rfl ?_
        exact ih q4.1 v5 ((x4 + (1 : Int32)))
      · refine g_iconst (1 : Int32) dX8_outs_45 (by decide) ?_
        refine g_goto 50 dX8_outs_46 rfl ?_
        refine g_iadd dX8_outs_50 ?_
        refine g_topi (fun v7 => ?_)
        refine g_istore_n [(3, .int v7), (0, .ref (xad X (98))), (2, .int x2), (4, .int x4)] dX8_outs_51 (by decide) rfl ?_
        refine g_iinc 3 [(4, .int ((x4 + (1 : Int32)))), (3, .int v7), (0, .ref (xad X (98))), (2, .int x2)] dX8_outs_52 rfl (v := x4 + (1 : Int32)) rfl (by decide) rfl ?_
        refine g_goto 26 dX8_outs_55 rfl ?_
        refine g_sub [2, 3, 1, 0] rfl ?_
        exact ih q4.1 v7 ((x4 + (1 : Int32)))

set_option maxRecDepth 100000 in
set_option maxHeartbeats 4000000 in
theorem c_X8_outs (σ : Mem) (a1 : Int32) : CT yX8_outs mX8_outs enI (fun ad => [.ref (ad (98)), .int a1]) σ (X8_outs σ a1) := by
  refine CT.of (by decide) rfl (fun _ => Nat.le_of_ble_eq_true rfl) (fun X => ?_)
  show GS (KM enI X) X mX8_outs σ 0 [(0, .ref (xad X (98))), (1, .int a1)] [] _
  unfold X8_outs
  refine g_iload_n 1 dX8_outs_0 rfl ?_
  refine g_iconst (0 : Int32) dX8_outs_1 (by decide) ?_
  refine g_iconst (4 : Int32) dX8_outs_2 (by decide) ?_
  refine g_callSI (c_X8_in σ a1 (0 : Int32) (4 : Int32)) okX8_in ⟨by decide, by decide⟩ ml_X8_83 rfl rfl (Nat.le_of_ble_eq_true rfl) dX8_outs_3 (fun q1 => ?_)
  refine g_if_ne 11 dX8_outs_6 rfl (fun _ => ?_) (fun _ => ?_)
  · refine g_aload_n 0 dX8_outs_11 rfl ?_
    refine g_iload_n 1 dX8_outs_12 rfl ?_
    refine g_callVV (c_X8_layCodes q1.1 a1) okX8_layCodes ⟨by decide, by decide⟩ ml_X8_250 sh_98 no_98 rfl rfl [.int a1] rfl rfl rfl (Nat.le_of_ble_eq_true rfl) dX8_outs_13 (fun q2 => ?_)
    refine g_iload_n 1 dX8_outs_16 rfl ?_
    refine g_callSI (c_X8_sheetsOf q2.1 a1) okX8_sheetsOf ⟨by decide, by decide⟩ ml_X8_219 rfl rfl (Nat.le_of_ble_eq_true rfl) dX8_outs_17 (fun q3 => ?_)
    refine g_istore_n [(2, .int (q3.2)), (0, .ref (xad X (98))), (1, .int a1)] dX8_outs_20 (by decide) rfl ?_
    refine g_iconst (0 : Int32) dX8_outs_21 (by decide) ?_
    refine g_istore_n [(3, .int ((0 : Int32))), (2, .int (q3.2)), (0, .ref (xad X (98))), (1, .int a1)] dX8_outs_22 (by decide) rfl ?_
    refine g_iconst (0 : Int32) dX8_outs_23 (by decide) ?_
    refine g_istore [(4, .int ((0 : Int32))), (3, .int ((0 : Int32))), (2, .int (q3.2)), (0, .ref (xad X (98))), (1, .int a1)] dX8_outs_24 (by decide) rfl ?_
    refine g_sub [3, 2, 1, 0] rfl ?_
    refine t_X8_outs_L26 X q3.2 _ (fun s10 y3_9 => ?_) FU q3.1 (0 : Int32) (0 : Int32)
    refine g_iload_n 0 dX8_outs_58 rfl ?_
    exact g_iret rfl dX8_outs_59
  · refine g_iconst (-1 : Int32) dX8_outs_9 (by decide) ?_
    exact g_iret rfl dX8_outs_10

def X8_twins_L65 (x1 : Int32) (x2 : Int32) (x4 : Int32) (x5 : Int32) (k113 : Mem → Option (Mem × Int32)) : Nat → Mem → Int32 → Option (Mem × Int32)
  | 0, _, _ => none
  | n + 1, σ, x6 => (if ((2 : Int32) * x1) ≤ x6 then k113 σ else (if x1 ≤ x6 then ((X8_layNumber σ x1 x5).bind fun q8 => if x1 = 0 then none else ck (x6 - x6 / x1 * x1) 8 <| (X8_setRow q8.1 x2 x6 ((q8.1.1 815 0 (x6 - x6 / x1 * x1).toNatClampNeg))).bind fun q9 => X8_twins_L65 x1 x2 x4 x5 k113 n q9.1 ((x6 + (1 : Int32)))) else (((X8_layNumber σ x1 x4).bind fun q11 => if x1 = 0 then none else ck (x6 - x6 / x1 * x1) 8 <| (X8_setRow q11.1 x2 x6 ((q11.1.1 815 0 (x6 - x6 / x1 * x1).toNatClampNeg))).bind fun q12 => X8_twins_L65 x1 x2 x4 x5 k113 n q12.1 ((x6 + (1 : Int32)))))))
def X8_twins_L31 (x1 : Int32) (x2 : Int32) (x3 : Int32) (k121 : Mem → Option (Mem × Int32)) : Nat → Mem → Int32 → Option (Mem × Int32)
  | 0, _, _ => none
  | n + 1, σ, x4 => (if x3 ≤ x4 then k121 σ else ((X8_twinOf σ x4 x3).bind fun q5 => if q5.2 = (-9 : Int32) then (X8_twins_L31 x1 x2 x3 k121 n q5.1 ((x4 + (1 : Int32)))) else ((X8_row q5.1 x2 (((2 : Int32) * x1))).bind fun q7 => X8_twins_L65 x1 x2 x4 q5.2 (fun (s15 : Mem) => (some (s15, (1 : Int32)))) FU q7.1 (0 : Int32))))
def X8_twins (σ : Mem) (a1 : Int32) (a2 : Int32) : Option (Mem × Int32) := ((X8_in σ a1 (0 : Int32) (4 : Int32)).bind fun q1 => if q1.2 = 0 then (some (q1.1, (-1 : Int32))) else ((X8_isRow q1.1 a2).bind fun q2 => if q2.2 = 0 then (some (q2.1, (-1 : Int32))) else ((X8_layCodes q2.1 a1).bind fun q3 => (X8_sheetsOf q3.1 a1).bind fun q4 => X8_twins_L31 a1 a2 q4.2 (fun (s17 : Mem) => (some (s17, (-9 : Int32)))) FU q4.1 (0 : Int32))))
set_option maxRecDepth 100000 in
set_option maxHeartbeats 4000000 in
theorem t_X8_twins_L65 (X : GX) (x1 : Int32) (x2 : Int32) (x4 : Int32) (x5 : Int32) (k113 : Mem → Option (Mem × Int32)) (hk113 : ∀ (σ : Mem), GS (KM enI X) X mX8_twins σ 113 [] [] (k113 σ)) : ∀ (n : Nat) (σ : Mem) (x6 : Int32), GS (KM enI X) X mX8_twins σ 65 [(0, .ref (xad X (98))), (1, .int x1), (2, .int x2), (4, .int x4), (5, .int x5), (6, .int x6)] [] (X8_twins_L65 x1 x2 x4 x5 k113 n σ x6) := by
  intro n
  induction n with
  | zero => intros; exact g_none
  | succ n ih =>
    intro σ x6
    rw [X8_twins_L65]
    refine g_iload 5 dX8_twins_65 rfl ?_
    refine g_iconst (2 : Int32) dX8_twins_67 (by decide) ?_
    refine g_iload_n 1 dX8_twins_68 rfl ?_
    refine g_imul dX8_twins_69 ?_
    refine g_icmp_ge 113 dX8_twins_70 rfl (fun _ => ?_) (fun _ => ?_)
    · refine g_sub [] rfl ?_
      exact hk113 σ
    · refine g_aload_n 0 dX8_twins_73 rfl ?_
      refine g_iload_n 1 dX8_twins_74 rfl ?_
      refine g_iload 5 dX8_twins_75 rfl ?_
      refine g_iload_n 1 dX8_twins_77 rfl ?_
      refine g_icmp_ge 86 dX8_twins_78 rfl (fun _ => ?_) (fun _ => ?_)
      · refine g_iload 4 dX8_twins_86 rfl ?_
        refine g_callVV (c_X8_layNumber σ x1 x5) okX8_layNumber ⟨by decide, by decide⟩ ml_X8_222 sh_98 no_98 rfl rfl [.int x1, .int x5] rfl rfl rfl (Nat.le_of_ble_eq_true rfl) dX8_twins_88 (fun q8 => ?_)
        refine g_aload_n 0 dX8_twins_91 rfl ?_
        refine g_iload_n 2 dX8_twins_92 rfl ?_
        refine g_iload 5 dX8_twins_93 rfl ?_
        refine g_aload_n 0 dX8_twins_95 rfl ?_
        refine gf_X8_15 fl_X8_38 dX8_twins_96 ?_
        refine g_iload 5 dX8_twins_99 rfl ?_
        refine g_iload_n 1 dX8_twins_101 rfl ?_
        refine g_irem dX8_twins_102 (fun _ => ?_)
        refine g_iald sh_107 no_107 dX8_twins_103 (fun _ => ?_)
        refine g_callVV (c_X8_setRow q8.1 x2 x6 ((q8.1.1 815 0 (x6 - x6 / x1 * x1).toNatClampNeg))) okX8_setRow ⟨by decide, by decide⟩ ml_X8_98 sh_98 no_98 rfl rfl [.int x2, .int x6, .int ((q8.1.1 815 0 (x6 - x6 / x1 * x1).toNatClampNeg))] rfl rfl rfl (Nat.le_of_ble_eq_true rfl) dX8_twins_104 (fun q9 => ?_)
        refine g_iinc 5 [(6, .int ((x6 + (1 : Int32)))), (0, .ref (xad X (98))), (1, .int x1), (2, .int x2), (4, .int x4), (5, .int x5)] dX8_twins_107 rfl (v := x6 + (1 : Int32)) rfl (by decide) rfl ?_
        refine g_goto 65 dX8_twins_110 rfl ?_
        refine g_sub [1, 2, 3, 4, 5, 0] rfl ?_
        exact ih q9.1 ((x6 + (1 : Int32)))
      · refine g_iload 3 dX8_twins_81 rfl ?_
        refine g_goto 88 dX8_twins_83 rfl ?_
        refine g_callVV (c_X8_layNumber σ x1 x4) okX8_layNumber ⟨by decide, by decide⟩ ml_X8_222 sh_98 no_98 rfl rfl [.int x1, .int x4] rfl rfl rfl (Nat.le_of_ble_eq_true rfl) dX8_twins_88 (fun q11 => ?_)
        refine g_aload_n 0 dX8_twins_91 rfl ?_
        refine g_iload_n 2 dX8_twins_92 rfl ?_
        refine g_iload 5 dX8_twins_93 rfl ?_
        refine g_aload_n 0 dX8_twins_95 rfl ?_
        refine gf_X8_15 fl_X8_38 dX8_twins_96 ?_
        refine g_iload 5 dX8_twins_99 rfl ?_
        refine g_iload_n 1 dX8_twins_101 rfl ?_
        refine g_irem dX8_twins_102 (fun _ => ?_)
        refine g_iald sh_107 no_107 dX8_twins_103 (fun _ => ?_)
        refine g_callVV (c_X8_setRow q11.1 x2 x6 ((q11.1.1 815 0 (x6 - x6 / x1 * x1).toNatClampNeg))) okX8_setRow ⟨by decide, by decide⟩ ml_X8_98 sh_98 no_98 rfl rfl [.int x2, .int x6, .int ((q11.1.1 815 0 (x6 - x6 / x1 * x1).toNatClampNeg))] rfl rfl rfl (Nat.le_of_ble_eq_true rfl) dX8_twins_104 (fun q12 => ?_)
        refine g_iinc 5 [(6, .int ((x6 + (1 : Int32)))), (0, .ref (xad X (98))), (1, .int x1), (2, .int x2), (4, .int x4), (5, .int x5)] dX8_twins_107 rfl (v := x6 + (1 : Int32)) rfl (by decide) rfl ?_
        refine g_goto 65 dX8_twins_110 rfl ?_
        refine g_sub [1, 2, 3, 4, 5, 0] rfl ?_
        exact ih q12.1 ((x6 + (1 : Int32)))

set_option maxRecDepth 100000 in
set_option maxHeartbeats 4000000 in
theorem t_X8_twins_L31 (X : GX) (x1 : Int32) (x2 : Int32) (x3 : Int32) (k121 : Mem → Option (Mem × Int32)) (hk121 : ∀ (σ : Mem), GS (KM enI X) X mX8_twins σ 121 [] [] (k121 σ)) : ∀ (n : Nat) (σ : Mem) (x4 : Int32), GS (KM enI X) X mX8_twins σ 31 [(0, .ref (xad X (98))), (1, .int x1), (2, .int x2), (3, .int x3), (4, .int x4)] [] (X8_twins_L31 x1 x2 x3 k121 n σ x4) := by
  intro n
  induction n with
  | zero => intros; exact g_none
  | succ n ih =>
    intro σ x4
    rw [X8_twins_L31]
    refine g_iload 4 dX8_twins_31 rfl ?_
    refine g_iload_n 3 dX8_twins_33 rfl ?_
    refine g_icmp_ge 121 dX8_twins_34 rfl (fun _ => ?_) (fun _ => ?_)
    · refine g_sub [] rfl ?_
      exact hk121 σ
    · refine g_aload_n 0 dX8_twins_37 rfl ?_
      refine g_iload 4 dX8_twins_38 rfl ?_
      refine g_iload_n 3 dX8_twins_40 rfl ?_
      refine g_callVI (c_X8_twinOf σ x4 x3) okX8_twinOf ⟨by decide, by decide⟩ ml_X8_253 sh_98 no_98 rfl rfl [.int x4, .int x3] rfl rfl rfl (Nat.le_of_ble_eq_true rfl) dX8_twins_41 (fun q5 => ?_)
      refine g_istore [(5, .int (q5.2)), (0, .ref (xad X (98))), (1, .int x1), (2, .int x2), (3, .int x3), (4, .int x4)] dX8_twins_44 (by decide) rfl ?_
      refine g_iload 0 dX8_twins_46 rfl ?_
      refine g_bipush (-9 : Int32) dX8_twins_48 (by decide) ?_
      refine g_icmp_eq 115 dX8_twins_50 rfl (fun _ => ?_) (fun _ => ?_)
      · refine g_iinc 5 [(4, .int ((x4 + (1 : Int32)))), (5, .int (q5.2)), (0, .ref (xad X (98))), (1, .int x1), (2, .int x2), (3, .int x3)] dX8_twins_115 rfl (v := x4 + (1 : Int32)) rfl (by decide) rfl ?_
        refine g_goto 31 dX8_twins_118 rfl ?_
        refine g_sub [2, 3, 4, 5, 0] rfl ?_
        exact ih q5.1 ((x4 + (1 : Int32)))
      · refine g_aload_n 1 dX8_twins_53 rfl ?_
        refine g_iload_n 3 dX8_twins_54 rfl ?_
        refine g_iconst (2 : Int32) dX8_twins_55 (by decide) ?_
        refine g_iload_n 2 dX8_twins_56 rfl ?_
        refine g_imul dX8_twins_57 ?_
        refine g_callVI (c_X8_row q5.1 x2 (((2 : Int32) * x1))) okX8_row ⟨by decide, by decide⟩ ml_X8_171 sh_98 no_98 rfl rfl [.int x2, .int (((2 : Int32) * x1))] rfl rfl rfl (Nat.le_of_ble_eq_true rfl) dX8_twins_58 (fun q7 => ?_)
        refine g_pop dX8_twins_61 rfl ?_
        refine g_iconst (0 : Int32) dX8_twins_62 (by decide) ?_
        refine g_istore [(6, .int ((0 : Int32))), (5, .int (q5.2)), (0, .ref (xad X (98))), (1, .int x1), (2, .int x2), (3, .int x3), (4, .int x4)] dX8_twins_63 (by decide) rfl ?_
        refine g_sub [2, 3, 4, 6, 1, 0] rfl ?_
        refine t_X8_twins_L65 X x1 x2 x4 q5.2 _ (fun s15 => ?_) FU q7.1 (0 : Int32)
        refine g_iconst (1 : Int32) dX8_twins_113 (by decide) ?_
        exact g_iret rfl dX8_twins_114

set_option maxRecDepth 100000 in
set_option maxHeartbeats 4000000 in
theorem c_X8_twins (σ : Mem) (a1 : Int32) (a2 : Int32) : CT yX8_twins mX8_twins enI (fun ad => [.ref (ad (98)), .int a1, .int a2]) σ (X8_twins σ a1 a2) := by
  refine CT.of (by decide) rfl (fun _ => Nat.le_of_ble_eq_true rfl) (fun X => ?_)
  show GS (KM enI X) X mX8_twins σ 0 [(0, .ref (xad X (98))), (1, .int a1), (2, .int a2)] [] _
  unfold X8_twins
  refine g_iload_n 1 dX8_twins_0 rfl ?_
  refine g_iconst (0 : Int32) dX8_twins_1 (by decide) ?_
  refine g_iconst (4 : Int32) dX8_twins_2 (by decide) ?_
  refine g_callSI (c_X8_in σ a1 (0 : Int32) (4 : Int32)) okX8_in ⟨by decide, by decide⟩ ml_X8_83 rfl rfl (Nat.le_of_ble_eq_true rfl) dX8_twins_3 (fun q1 => ?_)
  refine g_if_eq 16 dX8_twins_6 rfl (fun _ => ?_) (fun _ => ?_)
  · refine g_iconst (-1 : Int32) dX8_twins_16 (by decide) ?_
    exact g_iret rfl dX8_twins_17
  · refine g_iload_n 2 dX8_twins_9 rfl ?_
    refine g_callSI (c_X8_isRow q1.1 a2) okX8_isRow ⟨by decide, by decide⟩ ml_X8_87 rfl rfl (Nat.le_of_ble_eq_true rfl) dX8_twins_10 (fun q2 => ?_)
    refine g_if_ne 18 dX8_twins_13 rfl (fun _ => ?_) (fun _ => ?_)
    · refine g_aload_n 0 dX8_twins_18 rfl ?_
      refine g_iload_n 1 dX8_twins_19 rfl ?_
      refine g_callVV (c_X8_layCodes q2.1 a1) okX8_layCodes ⟨by decide, by decide⟩ ml_X8_250 sh_98 no_98 rfl rfl [.int a1] rfl rfl rfl (Nat.le_of_ble_eq_true rfl) dX8_twins_20 (fun q3 => ?_)
      refine g_iload_n 1 dX8_twins_23 rfl ?_
      refine g_callSI (c_X8_sheetsOf q3.1 a1) okX8_sheetsOf ⟨by decide, by decide⟩ ml_X8_219 rfl rfl (Nat.le_of_ble_eq_true rfl) dX8_twins_24 (fun q4 => ?_)
      refine g_istore_n [(3, .int (q4.2)), (0, .ref (xad X (98))), (1, .int a1), (2, .int a2)] dX8_twins_27 (by decide) rfl ?_
      refine g_iconst (0 : Int32) dX8_twins_28 (by decide) ?_
      refine g_istore [(4, .int ((0 : Int32))), (3, .int (q4.2)), (0, .ref (xad X (98))), (1, .int a1), (2, .int a2)] dX8_twins_29 (by decide) rfl ?_
      refine g_sub [2, 3, 4, 1, 0] rfl ?_
      refine t_X8_twins_L31 X a1 a2 q4.2 _ (fun s17 => ?_) FU q4.1 (0 : Int32)
      refine g_bipush (-9 : Int32) dX8_twins_121 (by decide) ?_
      exact g_iret rfl dX8_twins_123
    · refine g_iconst (-1 : Int32) dX8_twins_16 (by decide) ?_
      exact g_iret rfl dX8_twins_17

def X8_harmless_L60 (x1 : Int32) (x2 : Int32) (x3 : Int32) (x4 : Int32) (x5 : Int32) (k101 : Mem → Int32 → Option (Mem × Int32)) : Nat → Mem → Int32 → Int32 → Option (Mem × Int32)
  | 0, _, _, _ => none
  | n + 1, σ, x6, x7 => (if (σ.1 818 0 0) ≤ x7 then k101 σ x6 else (if x6 = 0 then (X8_harmless_L60 x1 x2 x3 x4 x5 k101 n σ (0 : Int32) ((x7 + (1 : Int32)))) else (ck x7 16 <| (X8_has σ x1 ((σ.1 817 0 x7.toNatClampNeg))).bind fun q8 => if q8.2 = 0 then ((X8_harmless_L60 x1 x2 x3 x4 x5 k101 n q8.1 (1 : Int32) ((x7 + (1 : Int32))))) else (X8_harmless_L60 x1 x2 x3 x4 x5 k101 n q8.1 (0 : Int32) ((x7 + (1 : Int32)))))))
def X8_harmless_L33 (x1 : Int32) (x2 : Int32) (x3 : Int32) (k122 : Mem → Int32 → Option (Mem × Int32)) : Nat → Mem → Int32 → Int32 → Option (Mem × Int32)
  | 0, _, _, _ => none
  | n + 1, σ, x4, x5 => ((X8_sheetsOf σ x2).bind fun q4 => if q4.2 ≤ x5 then k122 q4.1 x4 else ((X8_layNumber q4.1 x2 x5).bind fun q5 => (X8_setBy q5.1 x3).bind fun q6 => X8_harmless_L60 x1 x2 x3 x4 x5 (fun (s12 : Mem) (y6_11 : Int32) => (if y6_11 = 0 then (lt_ ((x4 + (0 : Int32))) fun (v13 : Int32) => X8_harmless_L33 x1 x2 x3 k122 n s12 v13 ((x5 + (1 : Int32)))) else ((lt_ ((x4 + (1 : Int32))) fun (v15 : Int32) => X8_harmless_L33 x1 x2 x3 k122 n s12 v15 ((x5 + (1 : Int32))))))) FU q6.1 (1 : Int32) (0 : Int32)))
def X8_harmless (σ : Mem) (a1 : Int32) (a2 : Int32) : Option (Mem × Int32) := ((X8_in σ a1 (0 : Int32) (63 : Int32)).bind fun q1 => if q1.2 = 0 then (some (q1.1, (-1 : Int32))) else ((X8_in q1.1 a2 (0 : Int32) (6 : Int32)).bind fun q2 => if q2.2 = 0 then (some (q2.1, (-1 : Int32))) else ((X8_onSet q2.1).bind fun q3 => X8_harmless_L33 a1 a2 q3.2 (fun (s18 : Mem) (y4_17 : Int32) => ((X8_part s18 (y4_17.toInt64) (1 : Int64)).bind fun q19 => some (q19.1, q19.2))) FU q3.1 (0 : Int32) (0 : Int32))))
set_option maxRecDepth 100000 in
set_option maxHeartbeats 4000000 in
theorem t_X8_harmless_L60 (X : GX) (x1 : Int32) (x2 : Int32) (x3 : Int32) (x4 : Int32) (x5 : Int32) (k101 : Mem → Int32 → Option (Mem × Int32)) (hk101 : ∀ (σ : Mem) (y6 : Int32), GS (KM enI X) X mX8_harmless σ 101 [(0, .ref (xad X (98))), (1, .int x1), (2, .int x2), (3, .int x3), (4, .int x4), (5, .int x5), (6, .int y6)] [] (k101 σ y6)) : ∀ (n : Nat) (σ : Mem) (x6 : Int32) (x7 : Int32), GS (KM enI X) X mX8_harmless σ 60 [(0, .ref (xad X (98))), (1, .int x1), (2, .int x2), (3, .int x3), (4, .int x4), (5, .int x5), (6, .int x6), (7, .int x7)] [] (X8_harmless_L60 x1 x2 x3 x4 x5 k101 n σ x6 x7) := by
  intro n
  induction n with
  | zero => intros; exact g_none
  | succ n ih =>
    intro σ x6 x7
    rw [X8_harmless_L60]
    refine g_iload 7 dX8_harmless_60 rfl ?_
    refine g_aload_n 0 dX8_harmless_62 rfl ?_
    refine gf_X8_18 fl_X8_161 dX8_harmless_63 ?_
    refine g_icmp_ge 101 dX8_harmless_66 rfl (fun _ => ?_) (fun _ => ?_)
    · refine g_sub [0, 1, 2, 3, 4, 5, 6] rfl ?_
      exact hk101 σ x6
    · refine g_iload 6 dX8_harmless_69 rfl ?_
      refine g_if_eq 92 dX8_harmless_71 rfl (fun _ => ?_) (fun _ => ?_)
      · refine g_iconst (0 : Int32) dX8_harmless_92 (by decide) ?_
        refine g_istore [(6, .int ((0 : Int32))), (0, .ref (xad X (98))), (1, .int x1), (2, .int x2), (3, .int x3), (4, .int x4), (5, .int x5), (7, .int x7)] dX8_harmless_93 (by decide) rfl ?_
        refine g_iinc 7 [(7, .int ((x7 + (1 : Int32)))), (6, .int ((0 : Int32))), (0, .ref (xad X (98))), (1, .int x1), (2, .int x2), (3, .int x3), (4, .int x4), (5, .int x5)] dX8_harmless_95 rfl (v := x7 + (1 : Int32)) rfl (by decide) rfl ?_
        refine g_goto 60 dX8_harmless_98 rfl ?_
        refine g_sub [2, 3, 4, 5, 6, 7, 1, 0] rfl ?_
        exact ih σ (0 : Int32) ((x7 + (1 : Int32)))
      · refine g_iload_n 1 dX8_harmless_74 rfl ?_
        refine g_aload_n 0 dX8_harmless_75 rfl ?_
        refine gf_X8_17 fl_X8_41 dX8_harmless_76 ?_
        refine g_iload 7 dX8_harmless_79 rfl ?_
        refine g_iald sh_108 no_108 dX8_harmless_81 (fun _ => ?_)
        refine g_callSI (c_X8_has σ x1 ((σ.1 817 0 x7.toNatClampNeg))) okX8_has ⟨by decide, by decide⟩ ml_X8_154 rfl rfl (Nat.le_of_ble_eq_true rfl) dX8_harmless_82 (fun q8 => ?_)
        refine g_if_ne 92 dX8_harmless_85 rfl (fun _ => ?_) (fun _ => ?_)
        · refine g_iconst (0 : Int32) dX8_harmless_92 (by decide) ?_
          refine g_istore [(6, .int ((0 : Int32))), (0, .ref (xad X (98))), (1, .int x1), (2, .int x2), (3, .int x3), (4, .int x4), (5, .int x5), (7, .int x7)] dX8_harmless_93 (by decide) rfl ?_
          refine g_iinc 7 [(7, .int ((x7 + (1 : Int32)))), (6, .int ((0 : Int32))), (0, .ref (xad X (98))), (1, .int x1), (2, .int x2), (3, .int x3), (4, .int x4), (5, .int x5)] dX8_harmless_95 rfl (v := x7 + (1 : Int32)) rfl (by decide) rfl ?_
          refine g_goto 60 dX8_harmless_98 rfl ?_
          refine g_sub [2, 3, 4, 5, 6, 7, 1, 0] rfl ?_
          exact ih q8.1 (0 : Int32) ((x7 + (1 : Int32)))
        · refine g_iconst (1 : Int32) dX8_harmless_88 (by decide) ?_
          refine g_goto 93 dX8_harmless_89 rfl ?_
          refine g_istore [(6, .int ((1 : Int32))), (0, .ref (xad X (98))), (1, .int x1), (2, .int x2), (3, .int x3), (4, .int x4), (5, .int x5), (7, .int x7)] dX8_harmless_93 (by decide) rfl ?_
          refine g_iinc 7 [(7, .int ((x7 + (1 : Int32)))), (6, .int ((1 : Int32))), (0, .ref (xad X (98))), (1, .int x1), (2, .int x2), (3, .int x3), (4, .int x4), (5, .int x5)] dX8_harmless_95 rfl (v := x7 + (1 : Int32)) rfl (by decide) rfl ?_
          refine g_goto 60 dX8_harmless_98 rfl ?_
          refine g_sub [2, 3, 4, 5, 6, 7, 1, 0] rfl ?_
          exact ih q8.1 (1 : Int32) ((x7 + (1 : Int32)))

set_option maxRecDepth 100000 in
set_option maxHeartbeats 4000000 in
theorem t_X8_harmless_L33 (X : GX) (x1 : Int32) (x2 : Int32) (x3 : Int32) (k122 : Mem → Int32 → Option (Mem × Int32)) (hk122 : ∀ (σ : Mem) (y4 : Int32), GS (KM enI X) X mX8_harmless σ 122 [(0, .ref (xad X (98))), (4, .int y4)] [] (k122 σ y4)) : ∀ (n : Nat) (σ : Mem) (x4 : Int32) (x5 : Int32), GS (KM enI X) X mX8_harmless σ 33 [(0, .ref (xad X (98))), (1, .int x1), (2, .int x2), (3, .int x3), (4, .int x4), (5, .int x5)] [] (X8_harmless_L33 x1 x2 x3 k122 n σ x4 x5) := by
  intro n
  induction n with
  | zero => intros; exact g_none
  | succ n ih =>
    intro σ x4 x5
    rw [X8_harmless_L33]
    refine g_iload 5 dX8_harmless_33 rfl ?_
    refine g_iload_n 2 dX8_harmless_35 rfl ?_
    refine g_callSI (c_X8_sheetsOf σ x2) okX8_sheetsOf ⟨by decide, by decide⟩ ml_X8_219 rfl rfl (Nat.le_of_ble_eq_true rfl) dX8_harmless_36 (fun q4 => ?_)
    refine g_icmp_ge 122 dX8_harmless_39 rfl (fun _ => ?_) (fun _ => ?_)
    · refine g_sub [0, 4] rfl ?_
      exact hk122 q4.1 x4
    · refine g_aload_n 0 dX8_harmless_42 rfl ?_
      refine g_iload_n 2 dX8_harmless_43 rfl ?_
      refine g_iload 5 dX8_harmless_44 rfl ?_
      refine g_callVV (c_X8_layNumber q4.1 x2 x5) okX8_layNumber ⟨by decide, by decide⟩ ml_X8_222 sh_98 no_98 rfl rfl [.int x2, .int x5] rfl rfl rfl (Nat.le_of_ble_eq_true rfl) dX8_harmless_46 (fun q5 => ?_)
      refine g_aload_n 0 dX8_harmless_49 rfl ?_
      refine g_iload_n 3 dX8_harmless_50 rfl ?_
      refine g_callVV (c_X8_setBy q5.1 x3) okX8_setBy ⟨by decide, by decide⟩ ml_X8_188 sh_98 no_98 rfl rfl [.int x3] rfl rfl rfl (Nat.le_of_ble_eq_true rfl) dX8_harmless_51 (fun q6 => ?_)
      refine g_iconst (1 : Int32) dX8_harmless_54 (by decide) ?_
      refine g_istore [(6, .int ((1 : Int32))), (0, .ref (xad X (98))), (1, .int x1), (2, .int x2), (3, .int x3), (4, .int x4), (5, .int x5)] dX8_harmless_55 (by decide) rfl ?_
      refine g_iconst (0 : Int32) dX8_harmless_57 (by decide) ?_
      refine g_istore [(7, .int ((0 : Int32))), (6, .int ((1 : Int32))), (0, .ref (xad X (98))), (1, .int x1), (2, .int x2), (3, .int x3), (4, .int x4), (5, .int x5)] dX8_harmless_58 (by decide) rfl ?_
      refine g_sub [2, 3, 4, 5, 6, 7, 1, 0] rfl ?_
      refine t_X8_harmless_L60 X x1 x2 x3 x4 x5 _ (fun s12 y6_11 => ?_) FU q6.1 (1 : Int32) (0 : Int32)
      refine g_iload 4 dX8_harmless_101 rfl ?_
      refine g_iload 6 dX8_harmless_103 rfl ?_
      refine g_if_eq 112 dX8_harmless_105 rfl (fun _ => ?_) (fun _ => ?_)
      · refine g_iconst (0 : Int32) dX8_harmless_112 (by decide) ?_
        refine g_iadd dX8_harmless_113 ?_
        refine g_topi (fun v13 => ?_)
        refine g_istore [(4, .int v13), (0, .ref (xad X (98))), (1, .int x1), (2, .int x2), (3, .int x3), (5, .int x5), (6, .int y6_11)] dX8_harmless_114 (by decide) rfl ?_
        refine g_iinc 5 [(5, .int ((x5 + (1 : Int32)))), (4, .int v13), (0, .ref (xad X (98))), (1, .int x1), (2, .int x2), (3, .int x3), (6, .int y6_11)] dX8_harmless_116 rfl (v := x5 + (1 : Int32)) rfl (by decide) rfl ?_
        refine g_goto 33 dX8_harmless_119 rfl ?_
        refine g_sub [2, 3, 4, 5, 1, 0] rfl ?_
        exact ih s12 v13 ((x5 + (1 : Int32)))
      · refine g_iconst (1 : Int32) dX8_harmless_108 (by decide) ?_
        refine g_goto 113 dX8_harmless_109 rfl ?_
        refine g_iadd dX8_harmless_113 ?_
        refine g_topi (fun v15 => ?_)
        refine g_istore [(4, .int v15), (0, .ref (xad X (98))), (1, .int x1), (2, .int x2), (3, .int x3), (5, .int x5), (6, .int y6_11)] dX8_harmless_114 (by decide) rfl ?_
        refine g_iinc 5 [(5, .int ((x5 + (1 : Int32)))), (4, .int v15), (0, .ref (xad X (98))), (1, .int x1), (2, .int x2), (3, .int x3), (6, .int y6_11)] dX8_harmless_116 rfl (v := x5 + (1 : Int32)) rfl (by decide) rfl ?_
        refine g_goto 33 dX8_harmless_119 rfl ?_
        refine g_sub [2, 3, 4, 5, 1, 0] rfl ?_
        exact ih s12 v15 ((x5 + (1 : Int32)))

set_option maxRecDepth 100000 in
set_option maxHeartbeats 4000000 in
theorem c_X8_harmless (σ : Mem) (a1 : Int32) (a2 : Int32) : CT yX8_harmless mX8_harmless enI (fun ad => [.ref (ad (98)), .int a1, .int a2]) σ (X8_harmless σ a1 a2) := by
  refine CT.of (by decide) rfl (fun _ => Nat.le_of_ble_eq_true rfl) (fun X => ?_)
  show GS (KM enI X) X mX8_harmless σ 0 [(0, .ref (xad X (98))), (1, .int a1), (2, .int a2)] [] _
  unfold X8_harmless
  refine g_iload_n 1 dX8_harmless_0 rfl ?_
  refine g_iconst (0 : Int32) dX8_harmless_1 (by decide) ?_
  refine g_bipush (63 : Int32) dX8_harmless_2 (by decide) ?_
  refine g_callSI (c_X8_in σ a1 (0 : Int32) (63 : Int32)) okX8_in ⟨by decide, by decide⟩ ml_X8_83 rfl rfl (Nat.le_of_ble_eq_true rfl) dX8_harmless_4 (fun q1 => ?_)
  refine g_if_eq 20 dX8_harmless_7 rfl (fun _ => ?_) (fun _ => ?_)
  · refine g_iconst (-1 : Int32) dX8_harmless_20 (by decide) ?_
    exact g_iret rfl dX8_harmless_21
  · refine g_iload_n 2 dX8_harmless_10 rfl ?_
    refine g_iconst (0 : Int32) dX8_harmless_11 (by decide) ?_
    refine g_bipush (6 : Int32) dX8_harmless_12 (by decide) ?_
    refine g_callSI (c_X8_in q1.1 a2 (0 : Int32) (6 : Int32)) okX8_in ⟨by decide, by decide⟩ ml_X8_83 rfl rfl (Nat.le_of_ble_eq_true rfl) dX8_harmless_14 (fun q2 => ?_)
    refine g_if_ne 22 dX8_harmless_17 rfl (fun _ => ?_) (fun _ => ?_)
    · refine g_aload_n 0 dX8_harmless_22 rfl ?_
      refine g_callVI (c_X8_onSet q2.1) okX8_onSet ⟨by decide, by decide⟩ ml_X8_184 sh_98 no_98 rfl rfl [] rfl rfl rfl (Nat.le_of_ble_eq_true rfl) dX8_harmless_23 (fun q3 => ?_)
      refine g_istore_n [(3, .int (q3.2)), (0, .ref (xad X (98))), (1, .int a1), (2, .int a2)] dX8_harmless_26 (by decide) rfl ?_
      refine g_iconst (0 : Int32) dX8_harmless_27 (by decide) ?_
      refine g_istore [(4, .int ((0 : Int32))), (3, .int (q3.2)), (0, .ref (xad X (98))), (1, .int a1), (2, .int a2)] dX8_harmless_28 (by decide) rfl ?_
      refine g_iconst (0 : Int32) dX8_harmless_30 (by decide) ?_
      refine g_istore [(5, .int ((0 : Int32))), (4, .int ((0 : Int32))), (3, .int (q3.2)), (0, .ref (xad X (98))), (1, .int a1), (2, .int a2)] dX8_harmless_31 (by decide) rfl ?_
      refine g_sub [3, 4, 5, 2, 1, 0] rfl ?_
      refine t_X8_harmless_L33 X a1 a2 q3.2 _ (fun s18 y4_17 => ?_) FU q3.1 (0 : Int32) (0 : Int32)
      refine g_aload_n 0 dX8_harmless_122 rfl ?_
      refine g_iload 1 dX8_harmless_123 rfl ?_
      refine g_i2l dX8_harmless_125 ?_
      refine g_lconst (1 : Int64) dX8_harmless_126 (by decide) ?_
      refine g_callVI (c_X8_part s18 (y4_17.toInt64) (1 : Int64)) okX8_part ⟨by decide, by decide⟩ ml_X8_228 sh_98 no_98 rfl rfl [.long (y4_17.toInt64), .long ((1 : Int64))] rfl rfl rfl (Nat.le_of_ble_eq_true rfl) dX8_harmless_127 (fun q19 => ?_)
      exact g_iret rfl dX8_harmless_130
    · refine g_iconst (-1 : Int32) dX8_harmless_20 (by decide) ?_
      exact g_iret rfl dX8_harmless_21

