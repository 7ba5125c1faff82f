def X8_set_J18 (σ : Mem) (x1 : Int32) (x2 : Int32) (z0 : Int32) : Option (Mem × Int32) := (if 0 ≤ z0 then ((X8_laySheet σ x1).bind fun q3 => (X8_onSet q3.1).bind fun q4 => (X8_setBy q4.1 q4.2).bind fun q5 => (X8_outToRow q5.1 x2).bind fun q6 => some (q6.1, q6.2)) else (some (σ, z0)))
def X8_set (σ : Mem) (a1 : Int32) (a2 : Int32) : Option (Mem × Int32) := ((X8_isRow σ a2).bind fun q1 => if q1.2 = 0 then (X8_set_J18 q1.1 a1 a2 (-1 : Int32)) else ((X8_askedSigns q1.1 a1 (8 : Int32)).bind fun q2 => X8_set_J18 q2.1 a1 a2 q2.2))
set_option maxRecDepth 100000 in
set_option maxHeartbeats 4000000 in
theorem t_X8_set_J18 (X : GX) (σ : Mem) (x1 : Int32) (x2 : Int32) (z0 : Int32) : GS (KM enI X) X mX8_set σ 18 [(0, .ref (xad X (98))), (1, .int x1), (2, .int x2)] [.int z0] (X8_set_J18 σ x1 x2 z0) := by
  unfold X8_set_J18
  refine g_istore_n [(3, .int z0), (0, .ref (xad X (98))), (1, .int x1), (2, .int x2)] dX8_set_18 (by decide) rfl ?_
  refine g_iload_n 0 dX8_set_19 rfl ?_
  refine g_if_ge 25 dX8_set_20 rfl (fun _ => ?_) (fun _ => ?_)
  · refine g_aload_n 1 dX8_set_25 rfl ?_
    refine g_iload_n 2 dX8_set_26 rfl ?_
    refine g_callVV (c_X8_laySheet σ x1) okX8_laySheet ⟨by decide, by decide⟩ ml_X8_204 sh_98 no_98 rfl rfl [.int x1] rfl rfl rfl (Nat.le_of_ble_eq_true rfl) dX8_set_27 (fun q3 => ?_)
    refine g_aload_n 1 dX8_set_30 rfl ?_
    refine g_aload_n 1 dX8_set_31 rfl ?_
    refine g_callVI (c_X8_onSet q3.1) okX8_onSet ⟨by decide, by decide⟩ ml_X8_184 sh_98 no_98 rfl rfl [] rfl rfl rfl (Nat.le_of_ble_eq_true rfl) dX8_set_32 (fun q4 => ?_)
    refine g_callVV (c_X8_setBy q4.1 q4.2) okX8_setBy ⟨by decide, by decide⟩ ml_X8_188 sh_98 no_98 rfl rfl [.int (q4.2)] rfl rfl rfl (Nat.le_of_ble_eq_true rfl) dX8_set_35 (fun q5 => ?_)
    refine g_aload_n 1 dX8_set_38 rfl ?_
    refine g_iload_n 3 dX8_set_39 rfl ?_
    refine g_callVI (c_X8_outToRow q5.1 x2) okX8_outToRow ⟨by decide, by decide⟩ ml_X8_207 sh_98 no_98 rfl rfl [.int x2] rfl rfl rfl (Nat.le_of_ble_eq_true rfl) dX8_set_40 (fun q6 => ?_)
    exact g_iret rfl dX8_set_43
  · refine g_iload_n 0 dX8_set_23 rfl ?_
    exact g_iret rfl dX8_set_24

set_option maxRecDepth 100000 in
set_option maxHeartbeats 4000000 in
theorem c_X8_set (σ : Mem) (a1 : Int32) (a2 : Int32) : CT yX8_set mX8_set enI (fun ad => [.ref (ad (98)), .int a1, .int a2]) σ (X8_set σ a1 a2) := by
  refine CT.of (by decide) rfl (fun _ => Nat.le_of_ble_eq_true rfl) (fun X => ?_)
  show GS (KM enI X) X mX8_set σ 0 [(0, .ref (xad X (98))), (1, .int a1), (2, .int a2)] [] _
  unfold X8_set
  refine g_iload_n 2 dX8_set_0 rfl ?_
  refine g_callSI (c_X8_isRow σ a2) okX8_isRow ⟨by decide, by decide⟩ ml_X8_87 rfl rfl (Nat.le_of_ble_eq_true rfl) dX8_set_1 (fun q1 => ?_)
  refine g_if_ne 11 dX8_set_4 rfl (fun _ => ?_) (fun _ => ?_)
  · refine g_aload_n 0 dX8_set_11 rfl ?_
    refine g_iload_n 1 dX8_set_12 rfl ?_
    refine g_bipush (8 : Int32) dX8_set_13 (by decide) ?_
    refine g_callVI (c_X8_askedSigns q1.1 a1 (8 : Int32)) okX8_askedSigns ⟨by decide, by decide⟩ ml_X8_201 sh_98 no_98 rfl rfl [.int a1, .int ((8 : Int32))] rfl rfl rfl (Nat.le_of_ble_eq_true rfl) dX8_set_15 (fun q2 => ?_)
    refine g_sub [0, 1, 2] rfl ?_
    exact t_X8_set_J18 X q2.1 a1 a2 q2.2
  · refine g_iconst (-1 : Int32) dX8_set_7 (by decide) ?_
    refine g_goto 18 dX8_set_8 rfl ?_
    refine g_sub [0, 1, 2] rfl ?_
    exact t_X8_set_J18 X q1.1 a1 a2 (-1 : Int32)

def X8_by_J15 (σ : Mem) (x1 : Int32) (x2 : Int32) (z0 : Int32) : Option (Mem × Int32) := (if 0 ≤ z0 then (ck x1 6 <| if x2 < (σ.1 805 0 x1.toNatClampNeg) then ((X8_laySheet σ x1).bind fun q2 => (X8_onSet q2.1).bind fun q3 => (X8_lawAt q3.1 x2 q3.2).bind fun q4 => some (q4.1, q4.2)) else ((X8_meet σ (2 : Int32)).bind fun q5 => some (q5.1, q5.2))) else (some (σ, z0)))
def X8_by (σ : Mem) (a1 : Int32) (a2 : Int32) : Option (Mem × Int32) := (if 0 ≤ a2 then ((X8_askedSigns σ a1 (8 : Int32)).bind fun q1 => X8_by_J15 q1.1 a1 a2 q1.2) else (X8_by_J15 σ a1 a2 (-1 : Int32)))
set_option maxRecDepth 100000 in
set_option maxHeartbeats 4000000 in
theorem t_X8_by_J15 (X : GX) (σ : Mem) (x1 : Int32) (x2 : Int32) (z0 : Int32) : GS (KM enI X) X mX8_by σ 15 [(0, .ref (xad X (98))), (1, .int x1), (2, .int x2)] [.int z0] (X8_by_J15 σ x1 x2 z0) := by
  unfold X8_by_J15
  refine g_istore_n [(3, .int z0), (0, .ref (xad X (98))), (1, .int x1), (2, .int x2)] dX8_by_15 (by decide) rfl ?_
  refine g_iload_n 0 dX8_by_16 rfl ?_
  refine g_if_ge 22 dX8_by_17 rfl (fun _ => ?_) (fun _ => ?_)
  · refine g_iload_n 3 dX8_by_22 rfl ?_
    refine g_aload_n 1 dX8_by_23 rfl ?_
    refine gf_X8_5 fl_X8_17 dX8_by_24 ?_
    refine g_iload_n 2 dX8_by_27 rfl ?_
    refine g_iald sh_100 no_100 dX8_by_28 (fun _ => ?_)
    refine g_icmp_lt 38 dX8_by_29 rfl (fun _ => ?_) (fun _ => ?_)
    · refine g_aload_n 1 dX8_by_38 rfl ?_
      refine g_iload_n 2 dX8_by_39 rfl ?_
      refine g_callVV (c_X8_laySheet σ x1) okX8_laySheet ⟨by decide, by decide⟩ ml_X8_204 sh_98 no_98 rfl rfl [.int x1] rfl rfl rfl (Nat.le_of_ble_eq_true rfl) dX8_by_40 (fun q2 => ?_)
      refine g_aload_n 1 dX8_by_43 rfl ?_
      refine g_iload_n 3 dX8_by_44 rfl ?_
      refine g_aload_n 1 dX8_by_45 rfl ?_
      refine g_callVI (c_X8_onSet q2.1) okX8_onSet ⟨by decide, by decide⟩ ml_X8_184 sh_98 no_98 rfl rfl [] rfl rfl rfl (Nat.le_of_ble_eq_true rfl) dX8_by_46 (fun q3 => ?_)
      refine g_callVI (c_X8_lawAt q3.1 x2 q3.2) okX8_lawAt ⟨by decide, by decide⟩ ml_X8_164 sh_98 no_98 rfl rfl [.int x2, .int (q3.2)] rfl rfl rfl (Nat.le_of_ble_eq_true rfl) dX8_by_49 (fun q4 => ?_)
      exact g_iret rfl dX8_by_52
    · refine g_aload_n 1 dX8_by_32 rfl ?_
      refine g_iconst (2 : Int32) dX8_by_33 (by decide) ?_
      refine g_callVI (c_X8_meet σ (2 : Int32)) okX8_meet ⟨by decide, by decide⟩ ml_X8_91 sh_98 no_98 rfl rfl [.int ((2 : Int32))] rfl rfl rfl (Nat.le_of_ble_eq_true rfl) dX8_by_34 (fun q5 => ?_)
      exact g_iret rfl dX8_by_37
  · refine g_iload_n 0 dX8_by_20 rfl ?_
    exact g_iret rfl dX8_by_21

set_option maxRecDepth 100000 in
set_option maxHeartbeats 4000000 in
theorem c_X8_by (σ : Mem) (a1 : Int32) (a2 : Int32) : CT yX8_by mX8_by enI (fun ad => [.ref (ad (98)), .int a1, .int a2]) σ (X8_by σ a1 a2) := by
  refine CT.of (by decide) rfl (fun _ => Nat.le_of_ble_eq_true rfl) (fun X => ?_)
  show GS (KM enI X) X mX8_by σ 0 [(0, .ref (xad X (98))), (1, .int a1), (2, .int a2)] [] _
  unfold X8_by
  refine g_iload_n 2 dX8_by_0 rfl ?_
  refine g_if_ge 8 dX8_by_1 rfl (fun _ => ?_) (fun _ => ?_)
  · refine g_aload_n 0 dX8_by_8 rfl ?_
    refine g_iload_n 1 dX8_by_9 rfl ?_
    refine g_bipush (8 : Int32) dX8_by_10 (by decide) ?_
    refine g_callVI (c_X8_askedSigns σ a1 (8 : Int32)) okX8_askedSigns ⟨by decide, by decide⟩ ml_X8_201 sh_98 no_98 rfl rfl [.int a1, .int ((8 : Int32))] rfl rfl rfl (Nat.le_of_ble_eq_true rfl) dX8_by_12 (fun q1 => ?_)
    refine g_sub [0, 1, 2] rfl ?_
    exact t_X8_by_J15 X q1.1 a1 a2 q1.2
  · refine g_iconst (-1 : Int32) dX8_by_4 (by decide) ?_
    refine g_goto 15 dX8_by_5 rfl ?_
    refine g_sub [0, 1, 2] rfl ?_
    exact t_X8_by_J15 X σ a1 a2 (-1 : Int32)

def X8_first_L39 (k76 : Mem → Int32 → Option (Mem × Int32)) : Nat → Mem → Int32 → Option (Mem × Int32)
  | 0, _, _ => none
  | n + 1, σ, x3 => (if (σ.1 818 0 0) ≤ x3 then k76 σ x3 else (if (σ.1 816 0 0) ≤ x3 then k76 σ x3 else (ck x3 16 <| ck x3 8 <| if (σ.1 817 0 x3.toNatClampNeg) = (σ.1 815 0 x3.toNatClampNeg) then (X8_first_L39 k76 n σ ((x3 + (1 : Int32)))) else k76 σ x3)))
def X8_first (σ : Mem) (a1 : Int32) : Option (Mem × Int32) := ((X8_askedSigns σ a1 (8 : Int32)).bind fun q1 => if 0 ≤ q1.2 then ((X8_laySheet q1.1 a1).bind fun q2 => (X8_onSet q2.1).bind fun q3 => (X8_setBy q3.1 q3.2).bind fun q4 => (X8_isAsWritten q4.1).bind fun q5 => if q5.2 = 0 then (X8_first_L39 (fun (s8 : Mem) (y3_7 : Int32) => (some (s8, y3_7))) FU q5.1 (0 : Int32)) else (some (q5.1, (-9 : Int32)))) else (some (q1.1, q1.2)))
set_option maxRecDepth 100000 in
set_option maxHeartbeats 4000000 in
theorem t_X8_first_L39 (X : GX) (k76 : Mem → Int32 → Option (Mem × Int32)) (hk76 : ∀ (σ : Mem) (y3 : Int32), GS (KM enI X) X mX8_first σ 76 [(3, .int y3)] [] (k76 σ y3)) : ∀ (n : Nat) (σ : Mem) (x3 : Int32), GS (KM enI X) X mX8_first σ 39 [(0, .ref (xad X (98))), (3, .int x3)] [] (X8_first_L39 k76 n σ x3) := by
  intro n
  induction n with
  | zero => intros; exact g_none
  | succ n ih =>
    intro σ x3
    rw [X8_first_L39]
    refine g_iload_n 1 dX8_first_39 rfl ?_
    refine g_aload_n 0 dX8_first_40 rfl ?_
    refine gf_X8_18 fl_X8_161 dX8_first_41 ?_
    refine g_icmp_ge 76 dX8_first_44 rfl (fun _ => ?_) (fun _ => ?_)
    · refine g_sub [1] rfl ?_
      exact hk76 σ x3
    · refine g_iload_n 1 dX8_first_47 rfl ?_
      refine g_aload_n 0 dX8_first_48 rfl ?_
      refine gf_X8_16 fl_X8_151 dX8_first_49 ?_
      refine g_icmp_ge 76 dX8_first_52 rfl (fun _ => ?_) (fun _ => ?_)
      · refine g_sub [1] rfl ?_
        exact hk76 σ x3
      · refine g_aload_n 0 dX8_first_55 rfl ?_
        refine gf_X8_17 fl_X8_41 dX8_first_56 ?_
        refine g_iload_n 1 dX8_first_59 rfl ?_
        refine g_iald sh_108 no_108 dX8_first_60 (fun _ => ?_)
        refine g_aload_n 0 dX8_first_61 rfl ?_
        refine gf_X8_15 fl_X8_38 dX8_first_62 ?_
        refine g_iload_n 1 dX8_first_65 rfl ?_
        refine g_iald sh_107 no_107 dX8_first_66 (fun _ => ?_)
        refine g_icmp_ne 76 dX8_first_67 rfl (fun _ => ?_) (fun _ => ?_)
        · refine g_sub [1] rfl ?_
          exact hk76 σ x3
        · refine g_iinc 1 [(3, .int ((x3 + (1 : Int32)))), (0, .ref (xad X (98)))] dX8_first_70 rfl (v := x3 + (1 : Int32)) rfl (by decide) rfl ?_
          refine g_goto 39 dX8_first_73 rfl ?_
          refine g_sub [1, 0] rfl ?_
          exact ih σ ((x3 + (1 : Int32)))

set_option maxRecDepth 100000 in
set_option maxHeartbeats 4000000 in
theorem c_X8_first (σ : Mem) (a1 : Int32) : CT yX8_first mX8_first enI (fun ad => [.ref (ad (98)), .int a1]) σ (X8_first σ a1) := by
  refine CT.of (by decide) rfl (fun _ => Nat.le_of_ble_eq_true rfl) (fun X => ?_)
  show GS (KM enI X) X mX8_first σ 0 [(0, .ref (xad X (98))), (1, .int a1)] [] _
  unfold X8_first
  refine g_aload_n 0 dX8_first_0 rfl ?_
  refine g_iload_n 1 dX8_first_1 rfl ?_
  refine g_bipush (8 : Int32) dX8_first_2 (by decide) ?_
  refine g_callVI (c_X8_askedSigns σ a1 (8 : Int32)) okX8_askedSigns ⟨by decide, by decide⟩ ml_X8_201 sh_98 no_98 rfl rfl [.int a1, .int ((8 : Int32))] rfl rfl rfl (Nat.le_of_ble_eq_true rfl) dX8_first_4 (fun q1 => ?_)
  refine g_istore_n [(2, .int (q1.2)), (0, .ref (xad X (98))), (1, .int a1)] dX8_first_7 (by decide) rfl ?_
  refine g_iload_n 0 dX8_first_8 rfl ?_
  refine g_if_ge 14 dX8_first_9 rfl (fun _ => ?_) (fun _ => ?_)
  · refine g_aload_n 1 dX8_first_14 rfl ?_
    refine g_iload_n 2 dX8_first_15 rfl ?_
    refine g_callVV (c_X8_laySheet q1.1 a1) okX8_laySheet ⟨by decide, by decide⟩ ml_X8_204 sh_98 no_98 rfl rfl [.int a1] rfl rfl rfl (Nat.le_of_ble_eq_true rfl) dX8_first_16 (fun q2 => ?_)
    refine g_aload_n 1 dX8_first_19 rfl ?_
    refine g_aload_n 1 dX8_first_20 rfl ?_
    refine g_callVI (c_X8_onSet q2.1) okX8_onSet ⟨by decide, by decide⟩ ml_X8_184 sh_98 no_98 rfl rfl [] rfl rfl rfl (Nat.le_of_ble_eq_true rfl) dX8_first_21 (fun q3 => ?_)
    refine g_callVV (c_X8_setBy q3.1 q3.2) okX8_setBy ⟨by decide, by decide⟩ ml_X8_188 sh_98 no_98 rfl rfl [.int (q3.2)] rfl rfl rfl (Nat.le_of_ble_eq_true rfl) dX8_first_24 (fun q4 => ?_)
    refine g_aload_n 1 dX8_first_27 rfl ?_
    refine g_callVI (c_X8_isAsWritten q4.1) okX8_isAsWritten ⟨by decide, by decide⟩ ml_X8_191 sh_98 no_98 rfl rfl [] rfl rfl rfl (Nat.le_of_ble_eq_true rfl) dX8_first_28 (fun q5 => ?_)
    refine g_if_eq 37 dX8_first_31 rfl (fun _ => ?_) (fun _ => ?_)
    · refine g_iconst (0 : Int32) dX8_first_37 (by decide) ?_
      refine g_istore_n [(3, .int ((0 : Int32))), (2, .int (q1.2)), (0, .ref (xad X (98))), (1, .int a1)] dX8_first_38 (by decide) rfl ?_
      refine g_sub [2, 0] rfl ?_
      refine t_X8_first_L39 X _ (fun s8 y3_7 => ?_) FU q5.1 (0 : Int32)
      refine g_iload_n 0 dX8_first_76 rfl ?_
      exact g_iret rfl dX8_first_77
    · refine g_bipush (-9 : Int32) dX8_first_34 (by decide) ?_
      exact g_iret rfl dX8_first_36
  · refine g_iload_n 0 dX8_first_12 rfl ?_
    exact g_iret rfl dX8_first_13

def X8_again_L64 (x2 : Int32) (x3 : Int32) (k100 : Mem → Option (Mem × Int32)) : Nat → Mem → Int32 → Option (Mem × Int32)
  | 0, _, _ => none
  | n + 1, σ, x5 => (if x2 ≤ x5 then k100 σ else (if (σ.1 818 0 0) ≤ (8 : Int32) then ((X8_outToSheet σ).bind fun q5 => (X8_onSet q5.1).bind fun q6 => (X8_setBy q6.1 q6.2).bind fun q7 => X8_again_L64 x2 x3 k100 n q7.1 ((x5 + (1 : Int32)))) else (some (σ, (-6 : Int32)))))
def X8_again_J28 (σ : Mem) (x1 : Int32) (x2 : Int32) (x3 : Int32) (z0 : Int32) : Option (Mem × Int32) := (if 0 ≤ z0 then ((X8_laySheet σ x1).bind fun q2 => if x2 = 0 then ((X8_sheetToRow q2.1 x3).bind fun q12 => some (q12.1, q12.2)) else ((X8_onSet q2.1).bind fun q3 => (X8_setBy q3.1 q3.2).bind fun q4 => X8_again_L64 x2 x3 (fun (s10 : Mem) => ((X8_outToRow s10 x3).bind fun q11 => some (q11.1, q11.2))) FU q4.1 (1 : Int32))) else (some (σ, z0)))
def X8_again (σ : Mem) (a1 : Int32) (a2 : Int32) (a3 : Int32) : Option (Mem × Int32) := ((X8_in σ a2 (0 : Int32) (9 : Int32)).bind fun q1 => if q1.2 = 0 then (X8_again_J28 q1.1 a1 a2 a3 (-1 : Int32)) else ((X8_isRow q1.1 a3).bind fun q13 => if q13.2 = 0 then (X8_again_J28 q13.1 a1 a2 a3 (-1 : Int32)) else ((X8_askedSigns q13.1 a1 (8 : Int32)).bind fun q14 => X8_again_J28 q14.1 a1 a2 a3 q14.2)))
set_option maxRecDepth 100000 in
set_option maxHeartbeats 4000000 in
theorem t_X8_again_L64 (X : GX) (x2 : Int32) (x3 : Int32) (k100 : Mem → Option (Mem × Int32)) (hk100 : ∀ (σ : Mem), GS (KM enI X) X mX8_again σ 100 [(0, .ref (xad X (98))), (3, .int x3)] [] (k100 σ)) : ∀ (n : Nat) (σ : Mem) (x5 : Int32), GS (KM enI X) X mX8_again σ 64 [(0, .ref (xad X (98))), (2, .int x2), (3, .int x3), (5, .int x5)] [] (X8_again_L64 x2 x3 k100 n σ x5) := by
  intro n
  induction n with
  | zero => intros; exact g_none
  | succ n ih =>
    intro σ x5
    rw [X8_again_L64]
    refine g_iload 3 dX8_again_64 rfl ?_
    refine g_iload_n 1 dX8_again_66 rfl ?_
    refine g_icmp_ge 100 dX8_again_67 rfl (fun _ => ?_) (fun _ => ?_)
    · refine g_sub [0, 2] rfl ?_
      exact hk100 σ
    · refine g_aload_n 0 dX8_again_70 rfl ?_
      refine gf_X8_18 fl_X8_161 dX8_again_71 ?_
      refine g_bipush (8 : Int32) dX8_again_74 (by decide) ?_
      refine g_icmp_le 82 dX8_again_76 rfl (fun _ => ?_) (fun _ => ?_)
      · refine g_aload_n 0 dX8_again_82 rfl ?_
        refine g_callVV (c_X8_outToSheet σ) okX8_outToSheet ⟨by decide, by decide⟩ ml_X8_213 sh_98 no_98 rfl rfl [] rfl rfl rfl (Nat.le_of_ble_eq_true rfl) dX8_again_83 (fun q5 => ?_)
        refine g_aload_n 0 dX8_again_86 rfl ?_
        refine g_aload_n 0 dX8_again_87 rfl ?_
        refine g_callVI (c_X8_onSet q5.1) okX8_onSet ⟨by decide, by decide⟩ ml_X8_184 sh_98 no_98 rfl rfl [] rfl rfl rfl (Nat.le_of_ble_eq_true rfl) dX8_again_88 (fun q6 => ?_)
        refine g_callVV (c_X8_setBy q6.1 q6.2) okX8_setBy ⟨by decide, by decide⟩ ml_X8_188 sh_98 no_98 rfl rfl [.int (q6.2)] rfl rfl rfl (Nat.le_of_ble_eq_true rfl) dX8_again_91 (fun q7 => ?_)
        refine g_iinc 3 [(5, .int ((x5 + (1 : Int32)))), (0, .ref (xad X (98))), (2, .int x2), (3, .int x3)] dX8_again_94 rfl (v := x5 + (1 : Int32)) rfl (by decide) rfl ?_
        refine g_goto 64 dX8_again_97 rfl ?_
        refine g_sub [1, 2, 3, 0] rfl ?_
        exact ih q7.1 ((x5 + (1 : Int32)))
      · refine g_bipush (-6 : Int32) dX8_again_79 (by decide) ?_
        exact g_iret rfl dX8_again_81

set_option maxRecDepth 100000 in
set_option maxHeartbeats 4000000 in
theorem t_X8_again_J28 (X : GX) (σ : Mem) (x1 : Int32) (x2 : Int32) (x3 : Int32) (z0 : Int32) : GS (KM enI X) X mX8_again σ 28 [(0, .ref (xad X (98))), (1, .int x1), (2, .int x2), (3, .int x3)] [.int z0] (X8_again_J28 σ x1 x2 x3 z0) := by
  unfold X8_again_J28
  refine g_istore [(4, .int z0), (0, .ref (xad X (98))), (1, .int x1), (2, .int x2), (3, .int x3)] dX8_again_28 (by decide) rfl ?_
  refine g_iload 0 dX8_again_30 rfl ?_
  refine g_if_ge 38 dX8_again_32 rfl (fun _ => ?_) (fun _ => ?_)
  · refine g_aload_n 1 dX8_again_38 rfl ?_
    refine g_iload_n 2 dX8_again_39 rfl ?_
    refine g_callVV (c_X8_laySheet σ x1) okX8_laySheet ⟨by decide, by decide⟩ ml_X8_204 sh_98 no_98 rfl rfl [.int x1] rfl rfl rfl (Nat.le_of_ble_eq_true rfl) dX8_again_40 (fun q2 => ?_)
    refine g_iload_n 3 dX8_again_43 rfl ?_
    refine g_if_ne 53 dX8_again_44 rfl (fun _ => ?_) (fun _ => ?_)
    · refine g_aload_n 1 dX8_again_53 rfl ?_
      refine g_aload_n 1 dX8_again_54 rfl ?_
      refine g_callVI (c_X8_onSet q2.1) okX8_onSet ⟨by decide, by decide⟩ ml_X8_184 sh_98 no_98 rfl rfl [] rfl rfl rfl (Nat.le_of_ble_eq_true rfl) dX8_again_55 (fun q3 => ?_)
      refine g_callVV (c_X8_setBy q3.1 q3.2) okX8_setBy ⟨by decide, by decide⟩ ml_X8_188 sh_98 no_98 rfl rfl [.int (q3.2)] rfl rfl rfl (Nat.le_of_ble_eq_true rfl) dX8_again_58 (fun q4 => ?_)
      refine g_iconst (1 : Int32) dX8_again_61 (by decide) ?_
      refine g_istore [(5, .int ((1 : Int32))), (4, .int z0), (0, .ref (xad X (98))), (1, .int x1), (2, .int x2), (3, .int x3)] dX8_again_62 (by decide) rfl ?_
      refine g_sub [2, 4, 5, 0] rfl ?_
      refine t_X8_again_L64 X x2 x3 _ (fun s10 => ?_) FU q4.1 (1 : Int32)
      refine g_aload_n 0 dX8_again_100 rfl ?_
      refine g_iload_n 1 dX8_again_101 rfl ?_
      refine g_callVI (c_X8_outToRow s10 x3) okX8_outToRow ⟨by decide, by decide⟩ ml_X8_207 sh_98 no_98 rfl rfl [.int x3] rfl rfl rfl (Nat.le_of_ble_eq_true rfl) dX8_again_102 (fun q11 => ?_)
      exact g_iret rfl dX8_again_105
    · refine g_aload_n 1 dX8_again_47 rfl ?_
      refine g_iload_n 4 dX8_again_48 rfl ?_
      refine g_callVI (c_X8_sheetToRow q2.1 x3) okX8_sheetToRow ⟨by decide, by decide⟩ ml_X8_210 sh_98 no_98 rfl rfl [.int x3] rfl rfl rfl (Nat.le_of_ble_eq_true rfl) dX8_again_49 (fun q12 => ?_)
      exact g_iret rfl dX8_again_52
  · refine g_iload 0 dX8_again_35 rfl ?_
    exact g_iret rfl dX8_again_37

set_option maxRecDepth 100000 in
set_option maxHeartbeats 4000000 in
theorem c_X8_again (σ : Mem) (a1 : Int32) (a2 : Int32) (a3 : Int32) : CT yX8_again mX8_again enI (fun ad => [.ref (ad (98)), .int a1, .int a2, .int a3]) σ (X8_again σ a1 a2 a3) := by
  refine CT.of (by decide) rfl (fun _ => Nat.le_of_ble_eq_true rfl) (fun X => ?_)
  show GS (KM enI X) X mX8_again σ 0 [(0, .ref (xad X (98))), (1, .int a1), (2, .int a2), (3, .int a3)] [] _
  unfold X8_again
  refine g_iload_n 2 dX8_again_0 rfl ?_
  refine g_iconst (0 : Int32) dX8_again_1 (by decide) ?_
  refine g_bipush (9 : Int32) dX8_again_2 (by decide) ?_
  refine g_callSI (c_X8_in σ a2 (0 : Int32) (9 : Int32)) okX8_in ⟨by decide, by decide⟩ ml_X8_83 rfl rfl (Nat.le_of_ble_eq_true rfl) dX8_again_4 (fun q1 => ?_)
  refine g_if_eq 17 dX8_again_7 rfl (fun _ => ?_) (fun _ => ?_)
  · refine g_iconst (-1 : Int32) dX8_again_17 (by decide) ?_
    refine g_goto 28 dX8_again_18 rfl ?_
    refine g_sub [0, 1, 2, 3] rfl ?_
    exact t_X8_again_J28 X q1.1 a1 a2 a3 (-1 : Int32)
  · refine g_iload_n 3 dX8_again_10 rfl ?_
    refine g_callSI (c_X8_isRow q1.1 a3) okX8_isRow ⟨by decide, by decide⟩ ml_X8_87 rfl rfl (Nat.le_of_ble_eq_true rfl) dX8_again_11 (fun q13 => ?_)
    refine g_if_ne 21 dX8_again_14 rfl (fun _ => ?_) (fun _ => ?_)
    · refine g_aload_n 0 dX8_again_21 rfl ?_
      refine g_iload_n 1 dX8_again_22 rfl ?_
      refine g_bipush (8 : Int32) dX8_again_23 (by decide) ?_
      refine g_callVI (c_X8_askedSigns q13.1 a1 (8 : Int32)) okX8_askedSigns ⟨by decide, by decide⟩ ml_X8_201 sh_98 no_98 rfl rfl [.int a1, .int ((8 : Int32))] rfl rfl rfl (Nat.le_of_ble_eq_true rfl) dX8_again_25 (fun q14 => ?_)
      refine g_sub [0, 1, 2, 3] rfl ?_
      exact t_X8_again_J28 X q14.1 a1 a2 a3 q14.2
    · refine g_iconst (-1 : Int32) dX8_again_17 (by decide) ?_
      refine g_goto 28 dX8_again_18 rfl ?_
      refine g_sub [0, 1, 2, 3] rfl ?_
      exact t_X8_again_J28 X q13.1 a1 a2 a3 (-1 : Int32)

def X8_isAsCame_L21 (x1 : Int32) (k65 : Mem → Int32 → Option (Mem × Int32)) : Nat → Mem → Int32 → Int32 → Option (Mem × Int32)
  | 0, _, _, _ => none
  | n + 1, σ, x2, x3 => (if (σ.1 816 0 0) ≤ x3 then k65 σ x2 else (if x2 = 0 then k65 σ x2 else (ck (((8 : Int32) * x1) + x3) 488 <| ck x3 8 <| if (σ.1 820 0 (((8 : Int32) * x1) + x3).toNatClampNeg) = (σ.1 815 0 x3.toNatClampNeg) then ((X8_isAsCame_L21 x1 k65 n σ (1 : Int32) ((x3 + (1 : Int32))))) else (X8_isAsCame_L21 x1 k65 n σ (0 : Int32) ((x3 + (1 : Int32)))))))
def X8_isAsCame (σ : Mem) (a1 : Int32) : Option (Mem × Int32) := (ck a1 61 <| if (σ.1 819 0 a1.toNatClampNeg) = (σ.1 816 0 0) then ((X8_isAsCame_L21 a1 (fun (s6 : Mem) (y2_5 : Int32) => (if y2_5 = 0 ∨ y2_5 = 1 then some (s6, y2_5) else none)) FU σ (1 : Int32) (0 : Int32))) else (X8_isAsCame_L21 a1 (fun (s4 : Mem) (y2_3 : Int32) => (if y2_3 = 0 ∨ y2_3 = 1 then some (s4, y2_3) else none)) FU σ (0 : Int32) (0 : Int32)))
set_option maxRecDepth 100000 in
set_option maxHeartbeats 4000000 in
theorem t_X8_isAsCame_L21 (X : GX) (x1 : Int32) (k65 : Mem → Int32 → Option (Mem × Int32)) (hk65 : ∀ (σ : Mem) (y2 : Int32), GS (KM enI X) X mX8_isAsCame σ 65 [(2, .int y2)] [] (k65 σ y2)) : ∀ (n : Nat) (σ : Mem) (x2 : Int32) (x3 : Int32), GS (KM enI X) X mX8_isAsCame σ 21 [(0, .ref (xad X (98))), (1, .int x1), (2, .int x2), (3, .int x3)] [] (X8_isAsCame_L21 x1 k65 n σ x2 x3) := by
  intro n
  induction n with
  | zero => intros; exact g_none
  | succ n ih =>
    intro σ x2 x3
    rw [X8_isAsCame_L21]
    refine g_iload_n 3 dX8_isAsCame_21 rfl ?_
    refine g_aload_n 0 dX8_isAsCame_22 rfl ?_
    refine gf_X8_16 fl_X8_151 dX8_isAsCame_23 ?_
    refine g_icmp_ge 65 dX8_isAsCame_26 rfl (fun _ => ?_) (fun _ => ?_)
    · refine g_sub [2] rfl ?_
      exact hk65 σ x2
    · refine g_iload_n 2 dX8_isAsCame_29 rfl ?_
      refine g_if_eq 65 dX8_isAsCame_30 rfl (fun _ => ?_) (fun _ => ?_)
      · refine g_sub [2] rfl ?_
        exact hk65 σ x2
      · refine g_aload_n 0 dX8_isAsCame_33 rfl ?_
        refine gf_X8_20 fl_X8_47 dX8_isAsCame_34 ?_
        refine g_bipush (8 : Int32) dX8_isAsCame_37 (by decide) ?_
        refine g_iload_n 1 dX8_isAsCame_39 rfl ?_
        refine g_imul dX8_isAsCame_40 ?_
        refine g_iload_n 3 dX8_isAsCame_41 rfl ?_
        refine g_iadd dX8_isAsCame_42 ?_
        refine g_iald sh_110 no_110 dX8_isAsCame_43 (fun _ => ?_)
        refine g_aload_n 0 dX8_isAsCame_44 rfl ?_
        refine gf_X8_15 fl_X8_38 dX8_isAsCame_45 ?_
        refine g_iload_n 3 dX8_isAsCame_48 rfl ?_
        refine g_iald sh_107 no_107 dX8_isAsCame_49 (fun _ => ?_)
        refine g_icmp_ne 57 dX8_isAsCame_50 rfl (fun _ => ?_) (fun _ => ?_)
        · refine g_iconst (0 : Int32) dX8_isAsCame_57 (by decide) ?_
          refine g_istore_n [(2, .int ((0 : Int32))), (0, .ref (xad X (98))), (1, .int x1), (3, .int x3)] dX8_isAsCame_58 (by decide) rfl ?_
          refine g_iinc 3 [(3, .int ((x3 + (1 : Int32)))), (2, .int ((0 : Int32))), (0, .ref (xad X (98))), (1, .int x1)] dX8_isAsCame_59 rfl (v := x3 + (1 : Int32)) rfl (by decide) rfl ?_
          refine g_goto 21 dX8_isAsCame_62 rfl ?_
          refine g_sub [2, 3, 1, 0] rfl ?_
          exact ih σ (0 : Int32) ((x3 + (1 : Int32)))
        · refine g_iconst (1 : Int32) dX8_isAsCame_53 (by decide) ?_
          refine g_goto 58 dX8_isAsCame_54 rfl ?_
          refine g_istore_n [(2, .int ((1 : Int32))), (0, .ref (xad X (98))), (1, .int x1), (3, .int x3)] dX8_isAsCame_58 (by decide) rfl ?_
          refine g_iinc 3 [(3, .int ((x3 + (1 : Int32)))), (2, .int ((1 : Int32))), (0, .ref (xad X (98))), (1, .int x1)] dX8_isAsCame_59 rfl (v := x3 + (1 : Int32)) rfl (by decide) rfl ?_
          refine g_goto 21 dX8_isAsCame_62 rfl ?_
          refine g_sub [2, 3, 1, 0] rfl ?_
          exact ih σ (1 : Int32) ((x3 + (1 : Int32)))

set_option maxRecDepth 100000 in
set_option maxHeartbeats 4000000 in
theorem c_X8_isAsCame (σ : Mem) (a1 : Int32) : CT yX8_isAsCame mX8_isAsCame enI (fun ad => [.ref (ad (98)), .int a1]) σ (X8_isAsCame σ a1) := by
  refine CT.of (by decide) rfl (fun _ => Nat.le_of_ble_eq_true rfl) (fun X => ?_)
  show GS (KM enI X) X mX8_isAsCame σ 0 [(0, .ref (xad X (98))), (1, .int a1)] [] _
  unfold X8_isAsCame
  refine g_aload_n 0 dX8_isAsCame_0 rfl ?_
  refine gf_X8_19 fl_X8_44 dX8_isAsCame_1 ?_
  refine g_iload_n 1 dX8_isAsCame_4 rfl ?_
  refine g_iald sh_109 no_109 dX8_isAsCame_5 (fun _ => ?_)
  refine g_aload_n 0 dX8_isAsCame_6 rfl ?_
  refine gf_X8_16 fl_X8_151 dX8_isAsCame_7 ?_
  refine g_icmp_ne 17 dX8_isAsCame_10 rfl (fun _ => ?_) (fun _ => ?_)
  · refine g_iconst (0 : Int32) dX8_isAsCame_17 (by decide) ?_
    refine g_istore_n [(2, .int ((0 : Int32))), (0, .ref (xad X (98))), (1, .int a1)] dX8_isAsCame_18 (by decide) rfl ?_
    refine g_iconst (0 : Int32) dX8_isAsCame_19 (by decide) ?_
    refine g_istore_n [(3, .int ((0 : Int32))), (2, .int ((0 : Int32))), (0, .ref (xad X (98))), (1, .int a1)] dX8_isAsCame_20 (by decide) rfl ?_
    refine g_sub [2, 3, 1, 0] rfl ?_
    refine t_X8_isAsCame_L21 X a1 _ (fun s4 y2_3 => ?_) FU σ (0 : Int32) (0 : Int32)
    refine g_iload_n 0 dX8_isAsCame_65 rfl ?_
    exact g_zret rfl dX8_isAsCame_66
  · refine g_iconst (1 : Int32) dX8_isAsCame_13 (by decide) ?_
    refine g_goto 18 dX8_isAsCame_14 rfl ?_
    refine g_istore_n [(2, .int ((1 : Int32))), (0, .ref (xad X (98))), (1, .int a1)] dX8_isAsCame_18 (by decide) rfl ?_
    refine g_iconst (0 : Int32) dX8_isAsCame_19 (by decide) ?_
    refine g_istore_n [(3, .int ((0 : Int32))), (2, .int ((1 : Int32))), (0, .ref (xad X (98))), (1, .int a1)] dX8_isAsCame_20 (by decide) rfl ?_
    refine g_sub [2, 3, 1, 0] rfl ?_
    refine t_X8_isAsCame_L21 X a1 _ (fun s6 y2_5 => ?_) FU σ (1 : Int32) (0 : Int32)
    refine g_iload_n 0 dX8_isAsCame_65 rfl ?_
    exact g_zret rfl dX8_isAsCame_66

def X8_rests_L30 (x3 : Int32) (k62 : Mem → Option (Mem × Int32)) : Nat → Mem → Int32 → Option (Mem × Int32)
  | 0, _, _ => none
  | n + 1, σ, x4 => (if x3 ≤ x4 then k62 σ else ((X8_isAsCame σ x4).bind fun q3 => if q3.2 = 0 then (X8_rests_L30 x3 k62 n q3.1 ((x4 + (1 : Int32)))) else ((X8_ask q3.1 ((x3 - x4)) x4).bind fun q5 => some (q5.1, q5.2))))
def X8_rests_L75 (x3 : Int32) (k109 : Mem → Option (Mem × Int32)) : Nat → Mem → Int32 → Option (Mem × Int32)
  | 0, _, _ => none
  | n + 1, σ, x4 => (if (σ.1 816 0 0) ≤ x4 then k109 σ else (ck x4 8 <| ck (((8 : Int32) * x3) + x4) 488 <| X8_rests_L75 x3 k109 n ((uI σ 820 0 (((8 : Int32) * x3) + x4).toNatClampNeg (σ.1 815 0 x4.toNatClampNeg))) ((x4 + (1 : Int32)))))
def X8_rests_L21 (k139 : Mem → Option (Mem × Int32)) : Nat → Mem → Int32 → Option (Mem × Int32)
  | 0, _, _ => none
  | n + 1, σ, x3 => (if (60 : Int32) < x3 then k139 σ else (X8_rests_L30 x3 (fun (s7 : Mem) => (ck x3 61 <| X8_rests_L75 x3 (fun (s10 : Mem) => ((X8_onSet s10).bind fun q11 => (X8_setBy q11.1 q11.2).bind fun q12 => if (q12.1.1 818 0 0) ≤ (8 : Int32) then ((X8_outToSheet q12.1).bind fun q13 => X8_rests_L21 k139 n q13.1 ((x3 + (1 : Int32)))) else (some (q12.1, (-6 : Int32))))) FU ((uI s7 819 0 x3.toNatClampNeg (s7.1 816 0 0))) (0 : Int32))) FU σ (0 : Int32)))
def X8_rests (σ : Mem) (a1 : Int32) : Option (Mem × Int32) := ((X8_askedSigns σ a1 (8 : Int32)).bind fun q1 => if 0 ≤ q1.2 then ((X8_laySheet q1.1 a1).bind fun q2 => X8_rests_L21 (fun (s16 : Mem) => (some (s16, (-6 : Int32)))) FU q2.1 (0 : Int32)) else (some (q1.1, q1.2)))
set_option maxRecDepth 100000 in
set_option maxHeartbeats 4000000 in
theorem t_X8_rests_L30 (X : GX) (x3 : Int32) (k62 : Mem → Option (Mem × Int32)) (hk62 : ∀ (σ : Mem), GS (KM enI X) X mX8_rests σ 62 [(0, .ref (xad X (98))), (3, .int x3)] [] (k62 σ)) : ∀ (n : Nat) (σ : Mem) (x4 : Int32), GS (KM enI X) X mX8_rests σ 30 [(0, .ref (xad X (98))), (3, .int x3), (4, .int x4)] [] (X8_rests_L30 x3 k62 n σ x4) := by
  intro n
  induction n with
  | zero => intros; exact g_none
  | succ n ih =>
    intro σ x4
    rw [X8_rests_L30]
    refine g_iload 2 dX8_rests_30 rfl ?_
    refine g_iload_n 1 dX8_rests_32 rfl ?_
    refine g_icmp_ge 62 dX8_rests_33 rfl (fun _ => ?_) (fun _ => ?_)
    · refine g_sub [0, 1] rfl ?_
      exact hk62 σ
    · refine g_aload_n 0 dX8_rests_36 rfl ?_
      refine g_iload 2 dX8_rests_37 rfl ?_
      refine g_callVI (c_X8_isAsCame σ x4) okX8_isAsCame ⟨by decide, by decide⟩ ml_X8_216 sh_98 no_98 rfl rfl [.int x4] rfl rfl rfl (Nat.le_of_ble_eq_true rfl) dX8_rests_39 (fun q3 => ?_)
      refine g_if_eq 56 dX8_rests_42 rfl (fun _ => ?_) (fun _ => ?_)
      · refine g_iinc 2 [(4, .int ((x4 + (1 : Int32)))), (0, .ref (xad X (98))), (3, .int x3)] dX8_rests_56 rfl (v := x4 + (1 : Int32)) rfl (by decide) rfl ?_
        refine g_goto 30 dX8_rests_59 rfl ?_
        refine g_sub [1, 2, 0] rfl ?_
        exact ih q3.1 ((x4 + (1 : Int32)))
      · refine g_aload_n 0 dX8_rests_45 rfl ?_
        refine g_iload_n 1 dX8_rests_46 rfl ?_
        refine g_iload 2 dX8_rests_47 rfl ?_
        refine g_isub dX8_rests_49 ?_
        refine g_iload 2 dX8_rests_50 rfl ?_
        refine g_callVI (c_X8_ask q3.1 ((x3 - x4)) x4) okX8_ask ⟨by decide, by decide⟩ ml_X8_109 sh_98 no_98 rfl rfl [.int ((x3 - x4)), .int x4] rfl rfl rfl (Nat.le_of_ble_eq_true rfl) dX8_rests_52 (fun q5 => ?_)
        exact g_iret rfl dX8_rests_55

set_option maxRecDepth 100000 in
set_option maxHeartbeats 4000000 in
theorem t_X8_rests_L75 (X : GX) (x3 : Int32) (k109 : Mem → Option (Mem × Int32)) (hk109 : ∀ (σ : Mem), GS (KM enI X) X mX8_rests σ 109 [(0, .ref (xad X (98))), (3, .int x3)] [] (k109 σ)) : ∀ (n : Nat) (σ : Mem) (x4 : Int32), GS (KM enI X) X mX8_rests σ 75 [(0, .ref (xad X (98))), (3, .int x3), (4, .int x4)] [] (X8_rests_L75 x3 k109 n σ x4) := by
  intro n
  induction n with
  | zero => intros; exact g_none
  | succ n ih =>
    intro σ x4
    rw [X8_rests_L75]
    refine g_iload 2 dX8_rests_75 rfl ?_
    refine g_aload_n 0 dX8_rests_77 rfl ?_
    refine gf_X8_16 fl_X8_151 dX8_rests_78 ?_
    refine g_icmp_ge 109 dX8_rests_81 rfl (fun _ => ?_) (fun _ => ?_)
    · refine g_sub [0, 1] rfl ?_
      exact hk109 σ
    · refine g_aload_n 0 dX8_rests_84 rfl ?_
      refine gf_X8_20 fl_X8_47 dX8_rests_85 ?_
      refine g_bipush (8 : Int32) dX8_rests_88 (by decide) ?_
      refine g_iload_n 1 dX8_rests_90 rfl ?_
      refine g_imul dX8_rests_91 ?_
      refine g_iload 2 dX8_rests_92 rfl ?_
      refine g_iadd dX8_rests_94 ?_
      refine g_aload_n 0 dX8_rests_95 rfl ?_
      refine gf_X8_15 fl_X8_38 dX8_rests_96 ?_
      refine g_iload 2 dX8_rests_99 rfl ?_
      refine g_iald sh_107 no_107 dX8_rests_101 (fun _ => ?_)
      refine g_iast sh_110 no_110 dX8_rests_102 (fun _ => ?_)
      refine g_iinc 2 [(4, .int ((x4 + (1 : Int32)))), (0, .ref (xad X (98))), (3, .int x3)] dX8_rests_103 rfl (v := x4 + (1 : Int32)) rfl (by decide) rfl ?_
      refine g_goto 75 dX8_rests_106 rfl ?_
      refine g_sub [1, 2, 0] rfl ?_
      exact ih ((uI σ 820 0 (((8 : Int32) * x3) + x4).toNatClampNeg (σ.1 815 0 x4.toNatClampNeg))) ((x4 + (1 : Int32)))

set_option maxRecDepth 100000 in
set_option maxHeartbeats 4000000 in
theorem t_X8_rests_L21 (X : GX) (k139 : Mem → Option (Mem × Int32)) (hk139 : ∀ (σ : Mem), GS (KM enI X) X mX8_rests σ 139 [] [] (k139 σ)) : ∀ (n : Nat) (σ : Mem) (x3 : Int32), GS (KM enI X) X mX8_rests σ 21 [(0, .ref (xad X (98))), (3, .int x3)] [] (X8_rests_L21 k139 n σ x3) := by
  intro n
  induction n with
  | zero => intros; exact g_none
  | succ n ih =>
    intro σ x3
    rw [X8_rests_L21]
    refine g_iload_n 1 dX8_rests_21 rfl ?_
    refine g_bipush (60 : Int32) dX8_rests_22 (by decide) ?_
    refine g_icmp_gt 139 dX8_rests_24 rfl (fun _ => ?_) (fun _ => ?_)
    · refine g_sub [] rfl ?_
      exact hk139 σ
    · refine g_iconst (0 : Int32) dX8_rests_27 (by decide) ?_
      refine g_istore [(4, .int ((0 : Int32))), (0, .ref (xad X (98))), (3, .int x3)] dX8_rests_28 (by decide) rfl ?_
      refine g_sub [1, 2, 0] rfl ?_
      refine t_X8_rests_L30 X x3 _ (fun s7 => ?_) FU σ (0 : Int32)
      refine g_aload_n 0 dX8_rests_62 rfl ?_
      refine gf_X8_19 fl_X8_44 dX8_rests_63 ?_
      refine g_iload_n 1 dX8_rests_66 rfl ?_
      refine g_aload_n 0 dX8_rests_67 rfl ?_
      refine gf_X8_16 fl_X8_151 dX8_rests_68 ?_
      refine g_iast sh_109 no_109 dX8_rests_71 (fun _ => ?_)
      refine g_iconst (0 : Int32) dX8_rests_72 (by decide) ?_
      refine g_istore [(4, .int ((0 : Int32))), (0, .ref (xad X (98))), (3, .int x3)] dX8_rests_73 (by decide) rfl ?_
      refine g_sub [1, 2, 0] rfl ?_
      refine t_X8_rests_L75 X x3 _ (fun s10 => ?_) FU ((uI s7 819 0 x3.toNatClampNeg (s7.1 816 0 0))) (0 : Int32)
      refine g_aload_n 0 dX8_rests_109 rfl ?_
      refine g_aload_n 0 dX8_rests_110 rfl ?_
      refine g_callVI (c_X8_onSet s10) okX8_onSet ⟨by decide, by decide⟩ ml_X8_184 sh_98 no_98 rfl rfl [] rfl rfl rfl (Nat.le_of_ble_eq_true rfl) dX8_rests_111 (fun q11 => ?_)
      refine g_callVV (c_X8_setBy q11.1 q11.2) okX8_setBy ⟨by decide, by decide⟩ ml_X8_188 sh_98 no_98 rfl rfl [.int (q11.2)] rfl rfl rfl (Nat.le_of_ble_eq_true rfl) dX8_rests_114 (fun q12 => ?_)
      refine g_aload_n 0 dX8_rests_117 rfl ?_
      refine gf_X8_18 fl_X8_161 dX8_rests_118 ?_
      refine g_bipush (8 : Int32) dX8_rests_121 (by decide) ?_
      refine g_icmp_le 129 dX8_rests_123 rfl (fun _ => ?_) (fun _ => ?_)
      · refine g_aload_n 0 dX8_rests_129 rfl ?_
        refine g_callVV (c_X8_outToSheet q12.1) okX8_outToSheet ⟨by decide, by decide⟩ ml_X8_213 sh_98 no_98 rfl rfl [] rfl rfl rfl (Nat.le_of_ble_eq_true rfl) dX8_rests_130 (fun q13 => ?_)
        refine g_iinc 1 [(3, .int ((x3 + (1 : Int32)))), (0, .ref (xad X (98)))] dX8_rests_133 rfl (v := x3 + (1 : Int32)) rfl (by decide) rfl ?_
        refine g_goto 21 dX8_rests_136 rfl ?_
        refine g_sub [1, 0] rfl ?_
        exact ih q13.1 ((x3 + (1 : Int32)))
      · refine g_bipush (-6 : Int32) dX8_rests_126 (by decide) ?_
        exact g_iret rfl dX8_rests_128

set_option maxRecDepth 100000 in
set_option maxHeartbeats 4000000 in
theorem c_X8_rests (σ : Mem) (a1 : Int32) : CT yX8_rests mX8_rests enI (fun ad => [.ref (ad (98)), .int a1]) σ (X8_rests σ a1) := by
  refine CT.of (by decide) rfl (fun _ => Nat.le_of_ble_eq_true rfl) (fun X => ?_)
  show GS (KM enI X) X mX8_rests σ 0 [(0, .ref (xad X (98))), (1, .int a1)] [] _
  unfold X8_rests
  refine g_aload_n 0 dX8_rests_0 rfl ?_
  refine g_iload_n 1 dX8_rests_1 rfl ?_
  refine g_bipush (8 : Int32) dX8_rests_2 (by decide) ?_
  refine g_callVI (c_X8_askedSigns σ a1 (8 : Int32)) okX8_askedSigns ⟨by decide, by decide⟩ ml_X8_201 sh_98 no_98 rfl rfl [.int a1, .int ((8 : Int32))] rfl rfl rfl (Nat.le_of_ble_eq_true rfl) dX8_rests_4 (fun q1 => ?_)
  refine g_istore_n [(2, .int (q1.2)), (0, .ref (xad X (98))), (1, .int a1)] dX8_rests_7 (by decide) rfl ?_
  refine g_iload_n 0 dX8_rests_8 rfl ?_
  refine g_if_ge 14 dX8_rests_9 rfl (fun _ => ?_) (fun _ => ?_)
  · refine g_aload_n 1 dX8_rests_14 rfl ?_
    refine g_iload_n 2 dX8_rests_15 rfl ?_
    refine g_callVV (c_X8_laySheet q1.1 a1) okX8_laySheet ⟨by decide, by decide⟩ ml_X8_204 sh_98 no_98 rfl rfl [.int a1] rfl rfl rfl (Nat.le_of_ble_eq_true rfl) dX8_rests_16 (fun q2 => ?_)
    refine g_iconst (0 : Int32) dX8_rests_19 (by decide) ?_
    refine g_istore_n [(3, .int ((0 : Int32))), (2, .int (q1.2)), (0, .ref (xad X (98))), (1, .int a1)] dX8_rests_20 (by decide) rfl ?_
    refine g_sub [2, 0] rfl ?_
    refine t_X8_rests_L21 X _ (fun s16 => ?_) FU q2.1 (0 : Int32)
    refine g_bipush (-6 : Int32) dX8_rests_139 (by decide) ?_
    exact g_iret rfl dX8_rests_141
  · refine g_iload_n 0 dX8_rests_12 rfl ?_
    exact g_iret rfl dX8_rests_13

