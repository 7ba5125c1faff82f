def X8_same_L68 (x2 : Int32) (x4 : Int32) (k95 : Mem → Option (Mem × Int32)) : Nat → Mem → Int32 → Option (Mem × Int32)
  | 0, _, _ => none
  | n + 1, σ, x5 => (if x4 ≤ x5 then k95 σ else (ck x5 16 <| ck x5 16 <| X8_same_L68 x2 x4 k95 n ((uI σ 821 0 x5.toNatClampNeg (σ.1 817 0 x5.toNatClampNeg))) ((x5 + (1 : Int32)))))
def X8_same_L127 (x4 : Int32) (k169 : Mem → Int32 → Option (Mem × Int32)) : Nat → Mem → Int32 → Int32 → Option (Mem × Int32)
  | 0, _, _, _ => none
  | n + 1, σ, x5, x6 => (if x4 ≤ x6 then k169 σ x5 else (if x5 = 0 then k169 σ x5 else (ck x6 16 <| ck x6 16 <| if (σ.1 821 0 x6.toNatClampNeg) = (σ.1 817 0 x6.toNatClampNeg) then ((X8_same_L127 x4 k169 n σ (1 : Int32) ((x6 + (1 : Int32))))) else (X8_same_L127 x4 k169 n σ (0 : Int32) ((x6 + (1 : Int32)))))))
def X8_same_J39 (σ : Mem) (x1 : Int32) (x2 : Int32) (z0 : Int32) : Option (Mem × Int32) := (if 0 ≤ z0 then ((X8_laySheet σ x1).bind fun q5 => (X8_onSet q5.1).bind fun q6 => (X8_setBy q6.1 q6.2).bind fun q7 => lt_ ((q7.1.1 818 0 0)) fun (v8 : Int32) => X8_same_L68 x2 v8 (fun (s11 : Mem) => ((X8_laySheet s11 x2).bind fun q12 => (X8_onSet q12.1).bind fun q13 => (X8_setBy q13.1 q13.2).bind fun q14 => if v8 = (q14.1.1 818 0 0) then ((X8_same_L127 v8 (fun (s20 : Mem) (y5_19 : Int32) => (if y5_19 = 0 then (some (s20, (0 : Int32))) else ((some (s20, (1 : Int32)))))) FU q14.1 (1 : Int32) (0 : Int32))) else (X8_same_L127 v8 (fun (s18 : Mem) (y5_17 : Int32) => (if y5_17 = 0 then (some (s18, (0 : Int32))) else ((some (s18, (1 : Int32)))))) FU q14.1 (0 : Int32) (0 : Int32)))) FU q7.1 (0 : Int32)) else (some (σ, z0)))
def X8_same (σ : Mem) (a1 : Int32) (a2 : Int32) : Option (Mem × Int32) := ((X8_isRow σ a1).bind fun q1 => if q1.2 = 0 then (some (q1.1, (-1 : Int32))) else ((X8_isRow q1.1 a2).bind fun q2 => if q2.2 = 0 then (some (q2.1, (-1 : Int32))) else ((X8_askedSigns q2.1 a1 (8 : Int32)).bind fun q3 => if 0 ≤ q3.2 then ((X8_askedSigns q3.1 a2 (8 : Int32)).bind fun q4 => X8_same_J39 q4.1 a1 a2 q4.2) else X8_same_J39 q3.1 a1 a2 q3.2)))
set_option maxRecDepth 100000 in
set_option maxHeartbeats 4000000 in
theorem t_X8_same_L68 (X : GX) (x2 : Int32) (x4 : Int32) (k95 : Mem → Option (Mem × Int32)) (hk95 : ∀ (σ : Mem), GS (KM enI X) X mX8_same σ 95 [(0, .ref (xad X (98))), (2, .int x2), (4, .int x4)] [] (k95 σ)) : ∀ (n : Nat) (σ : Mem) (x5 : Int32), GS (KM enI X) X mX8_same σ 68 [(0, .ref (xad X (98))), (2, .int x2), (4, .int x4), (5, .int x5)] [] (X8_same_L68 x2 x4 k95 n σ x5) := by
  intro n
  induction n with
  | zero => intros; exact g_none
  | succ n ih =>
    intro σ x5
    rw [X8_same_L68]
    refine g_iload 3 dX8_same_68 rfl ?_
    refine g_iload 2 dX8_same_70 rfl ?_
    refine g_icmp_ge 95 dX8_same_72 rfl (fun _ => ?_) (fun _ => ?_)
    · refine g_sub [0, 1, 2] rfl ?_
      exact hk95 σ
    · refine g_aload_n 0 dX8_same_75 rfl ?_
      refine gf_X8_21 fl_X8_50 dX8_same_76 ?_
      refine g_iload 3 dX8_same_79 rfl ?_
      refine g_aload_n 0 dX8_same_81 rfl ?_
      refine gf_X8_17 fl_X8_41 dX8_same_82 ?_
      refine g_iload 3 dX8_same_85 rfl ?_
      refine g_iald sh_108 no_108 dX8_same_87 (fun _ => ?_)
      refine g_iast sh_111 no_111 dX8_same_88 (fun _ => ?_)
      refine g_iinc 3 [(5, .int ((x5 + (1 : Int32)))), (0, .ref (xad X (98))), (2, .int x2), (4, .int x4)] dX8_same_89 rfl (v := x5 + (1 : Int32)) rfl (by decide) rfl ?_
      refine g_goto 68 dX8_same_92 rfl ?_
      refine g_sub [1, 2, 3, 0] rfl ?_
      exact ih ((uI σ 821 0 x5.toNatClampNeg (σ.1 817 0 x5.toNatClampNeg))) ((x5 + (1 : Int32)))

set_option maxRecDepth 100000 in
set_option maxHeartbeats 4000000 in
theorem t_X8_same_L127 (X : GX) (x4 : Int32) (k169 : Mem → Int32 → Option (Mem × Int32)) (hk169 : ∀ (σ : Mem) (y5 : Int32), GS (KM enI X) X mX8_same σ 169 [(5, .int y5)] [] (k169 σ y5)) : ∀ (n : Nat) (σ : Mem) (x5 : Int32) (x6 : Int32), GS (KM enI X) X mX8_same σ 127 [(0, .ref (xad X (98))), (4, .int x4), (5, .int x5), (6, .int x6)] [] (X8_same_L127 x4 k169 n σ x5 x6) := by
  intro n
  induction n with
  | zero => intros; exact g_none
  | succ n ih =>
    intro σ x5 x6
    rw [X8_same_L127]
    refine g_iload 3 dX8_same_127 rfl ?_
    refine g_iload 1 dX8_same_129 rfl ?_
    refine g_icmp_ge 169 dX8_same_131 rfl (fun _ => ?_) (fun _ => ?_)
    · refine g_sub [2] rfl ?_
      exact hk169 σ x5
    · refine g_iload 2 dX8_same_134 rfl ?_
      refine g_if_eq 169 dX8_same_136 rfl (fun _ => ?_) (fun _ => ?_)
      · refine g_sub [2] rfl ?_
        exact hk169 σ x5
      · refine g_aload_n 0 dX8_same_139 rfl ?_
        refine gf_X8_21 fl_X8_50 dX8_same_140 ?_
        refine g_iload 3 dX8_same_143 rfl ?_
        refine g_iald sh_111 no_111 dX8_same_145 (fun _ => ?_)
        refine g_aload_n 0 dX8_same_146 rfl ?_
        refine gf_X8_17 fl_X8_41 dX8_same_147 ?_
        refine g_iload 3 dX8_same_150 rfl ?_
        refine g_iald sh_108 no_108 dX8_same_152 (fun _ => ?_)
        refine g_icmp_ne 160 dX8_same_153 rfl (fun _ => ?_) (fun _ => ?_)
        · refine g_iconst (0 : Int32) dX8_same_160 (by decide) ?_
          refine g_istore [(5, .int ((0 : Int32))), (0, .ref (xad X (98))), (4, .int x4), (6, .int x6)] dX8_same_161 (by decide) rfl ?_
          refine g_iinc 3 [(6, .int ((x6 + (1 : Int32)))), (5, .int ((0 : Int32))), (0, .ref (xad X (98))), (4, .int x4)] dX8_same_163 rfl (v := x6 + (1 : Int32)) rfl (by decide) rfl ?_
          refine g_goto 127 dX8_same_166 rfl ?_
          refine g_sub [2, 3, 1, 0] rfl ?_
          exact ih σ (0 : Int32) ((x6 + (1 : Int32)))
        · refine g_iconst (1 : Int32) dX8_same_156 (by decide) ?_
          refine g_goto 161 dX8_same_157 rfl ?_
          refine g_istore [(5, .int ((1 : Int32))), (0, .ref (xad X (98))), (4, .int x4), (6, .int x6)] dX8_same_161 (by decide) rfl ?_
          refine g_iinc 3 [(6, .int ((x6 + (1 : Int32)))), (5, .int ((1 : Int32))), (0, .ref (xad X (98))), (4, .int x4)] dX8_same_163 rfl (v := x6 + (1 : Int32)) rfl (by decide) rfl ?_
          refine g_goto 127 dX8_same_166 rfl ?_
          refine g_sub [2, 3, 1, 0] rfl ?_
          exact ih σ (1 : Int32) ((x6 + (1 : Int32)))

set_option maxRecDepth 100000 in
set_option maxHeartbeats 4000000 in
theorem t_X8_same_J39 (X : GX) (σ : Mem) (x1 : Int32) (x2 : Int32) (z0 : Int32) : GS (KM enI X) X mX8_same σ 39 [(0, .ref (xad X (98))), (1, .int x1), (2, .int x2)] [.int z0] (X8_same_J39 σ x1 x2 z0) := by
  unfold X8_same_J39
  refine g_istore_n [(3, .int z0), (0, .ref (xad X (98))), (1, .int x1), (2, .int x2)] dX8_same_39 (by decide) rfl ?_
  refine g_iload_n 0 dX8_same_40 rfl ?_
  refine g_if_ge 46 dX8_same_41 rfl (fun _ => ?_) (fun _ => ?_)
  · refine g_aload_n 1 dX8_same_46 rfl ?_
    refine g_iload_n 2 dX8_same_47 rfl ?_
    refine g_callVV (c_X8_laySheet σ x1) okX8_laySheet ⟨by decide, by decide⟩ ml_X8_204 sh_98 no_98 rfl rfl [.int x1] rfl rfl rfl (Nat.le_of_ble_eq_true rfl) dX8_same_48 (fun q5 => ?_)
    refine g_aload_n 1 dX8_same_51 rfl ?_
    refine g_aload_n 1 dX8_same_52 rfl ?_
    refine g_callVI (c_X8_onSet q5.1) okX8_onSet ⟨by decide, by decide⟩ ml_X8_184 sh_98 no_98 rfl rfl [] rfl rfl rfl (Nat.le_of_ble_eq_true rfl) dX8_same_53 (fun q6 => ?_)
    refine g_callVV (c_X8_setBy q6.1 q6.2) okX8_setBy ⟨by decide, by decide⟩ ml_X8_188 sh_98 no_98 rfl rfl [.int (q6.2)] rfl rfl rfl (Nat.le_of_ble_eq_true rfl) dX8_same_56 (fun q7 => ?_)
    refine g_aload_n 1 dX8_same_59 rfl ?_
    refine gf_X8_18 fl_X8_161 dX8_same_60 ?_
    refine g_topi (fun v8 => ?_)
    refine g_istore [(4, .int v8), (3, .int z0), (0, .ref (xad X (98))), (1, .int x1), (2, .int x2)] dX8_same_63 (by decide) rfl ?_
    refine g_iconst (0 : Int32) dX8_same_65 (by decide) ?_
    refine g_istore [(5, .int ((0 : Int32))), (4, .int v8), (3, .int z0), (0, .ref (xad X (98))), (1, .int x1), (2, .int x2)] dX8_same_66 (by decide) rfl ?_
    refine g_sub [3, 5, 1, 0] rfl ?_
    refine t_X8_same_L68 X x2 v8 _ (fun s11 => ?_) FU q7.1 (0 : Int32)
    refine g_aload_n 0 dX8_same_95 rfl ?_
    refine g_iload_n 1 dX8_same_96 rfl ?_
    refine g_callVV (c_X8_laySheet s11 x2) okX8_laySheet ⟨by decide, by decide⟩ ml_X8_204 sh_98 no_98 rfl rfl [.int x2] rfl rfl rfl (Nat.le_of_ble_eq_true rfl) dX8_same_97 (fun q12 => ?_)
    refine g_aload_n 0 dX8_same_100 rfl ?_
    refine g_aload_n 0 dX8_same_101 rfl ?_
    refine g_callVI (c_X8_onSet q12.1) okX8_onSet ⟨by decide, by decide⟩ ml_X8_184 sh_98 no_98 rfl rfl [] rfl rfl rfl (Nat.le_of_ble_eq_true rfl) dX8_same_102 (fun q13 => ?_)
    refine g_callVV (c_X8_setBy q13.1 q13.2) okX8_setBy ⟨by decide, by decide⟩ ml_X8_188 sh_98 no_98 rfl rfl [.int (q13.2)] rfl rfl rfl (Nat.le_of_ble_eq_true rfl) dX8_same_105 (fun q14 => ?_)
    refine g_iload 2 dX8_same_108 rfl ?_
    refine g_aload_n 0 dX8_same_110 rfl ?_
    refine gf_X8_18 fl_X8_161 dX8_same_111 ?_
    refine g_icmp_ne 121 dX8_same_114 rfl (fun _ => ?_) (fun _ => ?_)
    · refine g_iconst (0 : Int32) dX8_same_121 (by decide) ?_
      refine g_istore [(5, .int ((0 : Int32))), (0, .ref (xad X (98))), (2, .int x2), (4, .int v8)] dX8_same_122 (by decide) rfl ?_
      refine g_iconst (0 : Int32) dX8_same_124 (by decide) ?_
      refine g_istore [(6, .int ((0 : Int32))), (5, .int ((0 : Int32))), (0, .ref (xad X (98))), (2, .int x2), (4, .int v8)] dX8_same_125 (by decide) rfl ?_
      refine g_sub [2, 4, 1, 0] rfl ?_
      refine t_X8_same_L127 X v8 _ (fun s18 y5_17 => ?_) FU q14.1 (0 : Int32) (0 : Int32)
      refine g_iload 0 dX8_same_169 rfl ?_
      refine g_if_eq 178 dX8_same_171 rfl (fun _ => ?_) (fun _ => ?_)
      · refine g_iconst (0 : Int32) dX8_same_178 (by decide) ?_
        exact g_iret rfl dX8_same_179
      · refine g_iconst (1 : Int32) dX8_same_174 (by decide) ?_
        refine g_goto 179 dX8_same_175 rfl ?_
        exact g_iret rfl dX8_same_179
    · refine g_iconst (1 : Int32) dX8_same_117 (by decide) ?_
      refine g_goto 122 dX8_same_118 rfl ?_
      refine g_istore [(5, .int ((1 : Int32))), (0, .ref (xad X (98))), (2, .int x2), (4, .int v8)] dX8_same_122 (by decide) rfl ?_
      refine g_iconst (0 : Int32) dX8_same_124 (by decide) ?_
      refine g_istore [(6, .int ((0 : Int32))), (5, .int ((1 : Int32))), (0, .ref (xad X (98))), (2, .int x2), (4, .int v8)] dX8_same_125 (by decide) rfl ?_
      refine g_sub [2, 4, 1, 0] rfl ?_
      refine t_X8_same_L127 X v8 _ (fun s20 y5_19 => ?_) FU q14.1 (1 : Int32) (0 : Int32)
      refine g_iload 0 dX8_same_169 rfl ?_
      refine g_if_eq 178 dX8_same_171 rfl (fun _ => ?_) (fun _ => ?_)
      · refine g_iconst (0 : Int32) dX8_same_178 (by decide) ?_
        exact g_iret rfl dX8_same_179
      · refine g_iconst (1 : Int32) dX8_same_174 (by decide) ?_
        refine g_goto 179 dX8_same_175 rfl ?_
        exact g_iret rfl dX8_same_179
  · refine g_iload_n 0 dX8_same_44 rfl ?_
    exact g_iret rfl dX8_same_45

set_option maxRecDepth 100000 in
set_option maxHeartbeats 4000000 in
theorem c_X8_same (σ : Mem) (a1 : Int32) (a2 : Int32) : CT yX8_same mX8_same enI (fun ad => [.ref (ad (98)), .int a1, .int a2]) σ (X8_same σ a1 a2) := by
  refine CT.of (by decide) rfl (fun _ => Nat.le_of_ble_eq_true rfl) (fun X => ?_)
  show GS (KM enI X) X mX8_same σ 0 [(0, .ref (xad X (98))), (1, .int a1), (2, .int a2)] [] _
  unfold X8_same
  refine g_iload_n 1 dX8_same_0 rfl ?_
  refine g_callSI (c_X8_isRow σ a1) okX8_isRow ⟨by decide, by decide⟩ ml_X8_87 rfl rfl (Nat.le_of_ble_eq_true rfl) dX8_same_1 (fun q1 => ?_)
  refine g_if_eq 14 dX8_same_4 rfl (fun _ => ?_) (fun _ => ?_)
  · refine g_iconst (-1 : Int32) dX8_same_14 (by decide) ?_
    exact g_iret rfl dX8_same_15
  · refine g_iload_n 2 dX8_same_7 rfl ?_
    refine g_callSI (c_X8_isRow q1.1 a2) okX8_isRow ⟨by decide, by decide⟩ ml_X8_87 rfl rfl (Nat.le_of_ble_eq_true rfl) dX8_same_8 (fun q2 => ?_)
    refine g_if_ne 16 dX8_same_11 rfl (fun _ => ?_) (fun _ => ?_)
    · refine g_aload_n 0 dX8_same_16 rfl ?_
      refine g_iload_n 1 dX8_same_17 rfl ?_
      refine g_bipush (8 : Int32) dX8_same_18 (by decide) ?_
      refine g_callVI (c_X8_askedSigns q2.1 a1 (8 : Int32)) okX8_askedSigns ⟨by decide, by decide⟩ ml_X8_201 sh_98 no_98 rfl rfl [.int a1, .int ((8 : Int32))] rfl rfl rfl (Nat.le_of_ble_eq_true rfl) dX8_same_20 (fun q3 => ?_)
      refine g_istore_n [(3, .int (q3.2)), (0, .ref (xad X (98))), (1, .int a1), (2, .int a2)] dX8_same_23 (by decide) rfl ?_
      refine g_iload_n 0 dX8_same_24 rfl ?_
      refine g_if_ge 32 dX8_same_25 rfl (fun _ => ?_) (fun _ => ?_)
      · refine g_aload_n 1 dX8_same_32 rfl ?_
        refine g_iload_n 3 dX8_same_33 rfl ?_
        refine g_bipush (8 : Int32) dX8_same_34 (by decide) ?_
        refine g_callVI (c_X8_askedSigns q3.1 a2 (8 : Int32)) okX8_askedSigns ⟨by decide, by decide⟩ ml_X8_201 sh_98 no_98 rfl rfl [.int a2, .int ((8 : Int32))] rfl rfl rfl (Nat.le_of_ble_eq_true rfl) dX8_same_36 (fun q4 => ?_)
        refine g_sub [1, 2, 3] rfl ?_
        exact t_X8_same_J39 X q4.1 a1 a2 q4.2
      · refine g_iload_n 0 dX8_same_28 rfl ?_
        refine g_goto 39 dX8_same_29 rfl ?_
        refine g_sub [1, 2, 3] rfl ?_
        exact t_X8_same_J39 X q3.1 a1 a2 q3.2
    · refine g_iconst (-1 : Int32) dX8_same_14 (by decide) ?_
      exact g_iret rfl dX8_same_15

def X8_sheetsOf_L4 (x0 : Int32) (k20 : Mem → Int32 → Option (Mem × Int32)) : Nat → Mem → Int32 → Int32 → Option (Mem × Int32)
  | 0, _, _, _ => none
  | n + 1, σ, x1, x2 => (if x0 ≤ x2 then k20 σ x1 else (lt_ ((x1 * (6 : Int32))) fun (v1 : Int32) => X8_sheetsOf_L4 x0 k20 n σ v1 ((x2 + (1 : Int32)))))
def X8_sheetsOf (σ : Mem) (a0 : Int32) : Option (Mem × Int32) := (X8_sheetsOf_L4 a0 (fun (s4 : Mem) (y1_3 : Int32) => (some (s4, y1_3))) FU σ (1 : Int32) (0 : Int32))
set_option maxRecDepth 100000 in
set_option maxHeartbeats 4000000 in
theorem t_X8_sheetsOf_L4 (X : GX) (x0 : Int32) (k20 : Mem → Int32 → Option (Mem × Int32)) (hk20 : ∀ (σ : Mem) (y1 : Int32), GS (KM enI X) X mX8_sheetsOf σ 20 [(1, .int y1)] [] (k20 σ y1)) : ∀ (n : Nat) (σ : Mem) (x1 : Int32) (x2 : Int32), GS (KM enI X) X mX8_sheetsOf σ 4 [(0, .int x0), (1, .int x1), (2, .int x2)] [] (X8_sheetsOf_L4 x0 k20 n σ x1 x2) := by
  intro n
  induction n with
  | zero => intros; exact g_none
  | succ n ih =>
    intro σ x1 x2
    rw [X8_sheetsOf_L4]
    refine g_iload_n 2 dX8_sheetsOf_4 rfl ?_
    refine g_iload_n 0 dX8_sheetsOf_5 rfl ?_
    refine g_icmp_ge 20 dX8_sheetsOf_6 rfl (fun _ => ?_) (fun _ => ?_)
    · refine g_sub [1] rfl ?_
      exact hk20 σ x1
    · refine g_iload_n 1 dX8_sheetsOf_9 rfl ?_
      refine g_bipush (6 : Int32) dX8_sheetsOf_10 (by decide) ?_
      refine g_imul dX8_sheetsOf_12 ?_
      refine g_topi (fun v1 => ?_)
      refine g_istore_n [(1, .int v1), (0, .int x0), (2, .int x2)] dX8_sheetsOf_13 (by decide) rfl ?_
      refine g_iinc 2 [(2, .int ((x2 + (1 : Int32)))), (1, .int v1), (0, .int x0)] dX8_sheetsOf_14 rfl (v := x2 + (1 : Int32)) rfl (by decide) rfl ?_
      refine g_goto 4 dX8_sheetsOf_17 rfl ?_
      refine g_sub [2, 1, 0] rfl ?_
      exact ih σ v1 ((x2 + (1 : Int32)))

set_option maxRecDepth 100000 in
set_option maxHeartbeats 4000000 in
theorem c_X8_sheetsOf (σ : Mem) (a0 : Int32) : CT yX8_sheetsOf mX8_sheetsOf enI (fun ad => [.int a0]) σ (X8_sheetsOf σ a0) := by
  refine CT.of (by decide) rfl (fun _ => Nat.le_of_ble_eq_true rfl) (fun X => ?_)
  show GS (KM enI X) X mX8_sheetsOf σ 0 [(0, .int a0)] [] _
  unfold X8_sheetsOf
  refine g_iconst (1 : Int32) dX8_sheetsOf_0 (by decide) ?_
  refine g_istore_n [(1, .int ((1 : Int32))), (0, .int a0)] dX8_sheetsOf_1 (by decide) rfl ?_
  refine g_iconst (0 : Int32) dX8_sheetsOf_2 (by decide) ?_
  refine g_istore_n [(2, .int ((0 : Int32))), (1, .int ((1 : Int32))), (0, .int a0)] dX8_sheetsOf_3 (by decide) rfl ?_
  refine g_sub [2, 1, 0] rfl ?_
  refine t_X8_sheetsOf_L4 X a0 _ (fun s4 y1_3 => ?_) FU σ (1 : Int32) (0 : Int32)
  refine g_iload_n 0 dX8_sheetsOf_20 rfl ?_
  exact g_iret rfl dX8_sheetsOf_21

def X8_layNumber_L12 (k39 : Mem → Option (Mem × Unit)) : Nat → Mem → Int32 → Int32 → Option (Mem × Unit)
  | 0, _, _, _ => none
  | n + 1, σ, x3, x4 => (if x4 < 0 then k39 σ else (if (6 : Int32) = 0 then none else ck x4 8 <| if (6 : Int32) = 0 then none else lt_ ((x3 / (6 : Int32))) fun (v2 : Int32) => X8_layNumber_L12 k39 n ((uI σ 815 0 x4.toNatClampNeg (x3 - x3 / (6 : Int32) * (6 : Int32)))) v2 ((x4 + (-1 : Int32)))))
def X8_layNumber (σ : Mem) (a1 : Int32) (a2 : Int32) : Option (Mem × Unit) := (lt_ ((a1 - (1 : Int32))) fun (v1 : Int32) => X8_layNumber_L12 (fun (s5 : Mem) => (some (s5, ()))) FU ((uI σ 816 0 0 a1)) a2 v1)
set_option maxRecDepth 100000 in
set_option maxHeartbeats 4000000 in
theorem t_X8_layNumber_L12 (X : GX) (k39 : Mem → Option (Mem × Unit)) (hk39 : ∀ (σ : Mem), GS (KM enV X) X mX8_layNumber σ 39 [] [] (k39 σ)) : ∀ (n : Nat) (σ : Mem) (x3 : Int32) (x4 : Int32), GS (KM enV X) X mX8_layNumber σ 12 [(0, .ref (xad X (98))), (3, .int x3), (4, .int x4)] [] (X8_layNumber_L12 k39 n σ x3 x4) := by
  intro n
  induction n with
  | zero => intros; exact g_none
  | succ n ih =>
    intro σ x3 x4
    rw [X8_layNumber_L12]
    refine g_iload 2 dX8_layNumber_12 rfl ?_
    refine g_if_lt 39 dX8_layNumber_14 rfl (fun _ => ?_) (fun _ => ?_)
    · refine g_sub [] rfl ?_
      exact hk39 σ
    · refine g_aload_n 0 dX8_layNumber_17 rfl ?_
      refine gf_X8_15 fl_X8_38 dX8_layNumber_18 ?_
      refine g_iload 2 dX8_layNumber_21 rfl ?_
      refine g_iload_n 1 dX8_layNumber_23 rfl ?_
      refine g_bipush (6 : Int32) dX8_layNumber_24 (by decide) ?_
      refine g_irem dX8_layNumber_26 (fun _ => ?_)
      refine g_iast sh_107 no_107 dX8_layNumber_27 (fun _ => ?_)
      refine g_iload_n 1 dX8_layNumber_28 rfl ?_
      refine g_bipush (6 : Int32) dX8_layNumber_29 (by decide) ?_
      refine g_idiv dX8_layNumber_31 (fun _ => ?_)
      refine g_topi (fun v2 => ?_)
      refine g_istore_n [(3, .int v2), (0, .ref (xad X (98))), (4, .int x4)] dX8_layNumber_32 (by decide) rfl ?_
      refine g_iinc 2 [(4, .int ((x4 + (-1 : Int32)))), (3, .int v2), (0, .ref (xad X (98)))] dX8_layNumber_33 rfl (v := x4 + (-1 : Int32)) rfl (by decide) rfl ?_
      refine g_goto 12 dX8_layNumber_36 rfl ?_
      refine g_sub [2, 1, 0] rfl ?_
      exact ih ((uI σ 815 0 x4.toNatClampNeg (x3 - x3 / (6 : Int32) * (6 : Int32)))) v2 ((x4 + (-1 : Int32)))

set_option maxRecDepth 100000 in
set_option maxHeartbeats 4000000 in
theorem c_X8_layNumber (σ : Mem) (a1 : Int32) (a2 : Int32) : CT yX8_layNumber mX8_layNumber enV (fun ad => [.ref (ad (98)), .int a1, .int a2]) σ (X8_layNumber σ a1 a2) := by
  refine CT.of (by decide) rfl (fun _ => Nat.le_of_ble_eq_true rfl) (fun X => ?_)
  show GS (KM enV X) X mX8_layNumber σ 0 [(0, .ref (xad X (98))), (1, .int a1), (2, .int a2)] [] _
  unfold X8_layNumber
  refine g_iload_n 2 dX8_layNumber_0 rfl ?_
  refine g_istore_n [(3, .int a2), (0, .ref (xad X (98))), (1, .int a1), (2, .int a2)] dX8_layNumber_1 (by decide) rfl ?_
  refine g_aload_n 1 dX8_layNumber_2 rfl ?_
  refine g_iload_n 2 dX8_layNumber_3 rfl ?_
  refine pf_X8_16 fl_X8_151 dX8_layNumber_4 ?_
  refine g_iload_n 2 dX8_layNumber_7 rfl ?_
  refine g_iconst (1 : Int32) dX8_layNumber_8 (by decide) ?_
  refine g_isub dX8_layNumber_9 ?_
  refine g_topi (fun v1 => ?_)
  refine g_istore [(4, .int v1), (3, .int a2), (0, .ref (xad X (98))), (1, .int a1), (2, .int a2)] dX8_layNumber_10 (by decide) rfl ?_
  refine g_sub [2, 1, 0] rfl ?_
  refine t_X8_layNumber_L12 X _ (fun s5 => ?_) FU ((uI σ 816 0 0 a1)) a2 v1
  exact g_vret rfl dX8_layNumber_39

def X8_meant_L40 (x1 : Int32) (x2 : Int32) (x4 : Int32) (k86 : Mem → Int32 → Option (Mem × Int32)) : Nat → Mem → Int32 → Int32 → Option (Mem × Int32)
  | 0, _, _, _ => none
  | n + 1, σ, x5, x6 => ((X8_sheetsOf σ x2).bind fun q4 => if q4.2 ≤ x6 then k86 q4.1 x5 else ((X8_layNumber q4.1 x2 x6).bind fun q5 => (X8_setBy q5.1 x4).bind fun q6 => (X8_isOut q6.1 x1).bind fun q7 => if q7.2 = 0 then (lt_ ((x5 + (0 : Int32))) fun (v8 : Int32) => X8_meant_L40 x1 x2 x4 k86 n q7.1 v8 ((x6 + (1 : Int32)))) else ((lt_ ((x5 + (1 : Int32))) fun (v10 : Int32) => X8_meant_L40 x1 x2 x4 k86 n q7.1 v10 ((x6 + (1 : Int32)))))))
def X8_meant (σ : Mem) (a1 : Int32) (a2 : Int32) : Option (Mem × Int32) := ((X8_in σ a2 (0 : Int32) (6 : Int32)).bind fun q1 => if q1.2 = 0 then ((if 0 ≤ (-1 : Int32) then ((X8_onSet q1.1).bind fun q15 => X8_meant_L40 a1 a2 q15.2 (fun (s17 : Mem) (y5_16 : Int32) => ((X8_part s17 (y5_16.toInt64) (1 : Int64)).bind fun q18 => some (q18.1, q18.2))) FU q15.1 (0 : Int32) (0 : Int32)) else (some (q1.1, (-1 : Int32))))) else ((X8_askedSigns q1.1 a1 (16 : Int32)).bind fun q2 => if 0 ≤ q2.2 then ((X8_onSet q2.1).bind fun q3 => X8_meant_L40 a1 a2 q3.2 (fun (s13 : Mem) (y5_12 : Int32) => ((X8_part s13 (y5_12.toInt64) (1 : Int64)).bind fun q14 => some (q14.1, q14.2))) FU q3.1 (0 : Int32) (0 : Int32)) else (some (q2.1, q2.2))))
set_option maxRecDepth 100000 in
set_option maxHeartbeats 4000000 in
theorem t_X8_meant_L40 (X : GX) (x1 : Int32) (x2 : Int32) (x4 : Int32) (k86 : Mem → Int32 → Option (Mem × Int32)) (hk86 : ∀ (σ : Mem) (y5 : Int32), GS (KM enI X) X mX8_meant σ 86 [(0, .ref (xad X (98))), (5, .int y5)] [] (k86 σ y5)) : ∀ (n : Nat) (σ : Mem) (x5 : Int32) (x6 : Int32), GS (KM enI X) X mX8_meant σ 40 [(0, .ref (xad X (98))), (1, .int x1), (2, .int x2), (4, .int x4), (5, .int x5), (6, .int x6)] [] (X8_meant_L40 x1 x2 x4 k86 n σ x5 x6) := by
  intro n
  induction n with
  | zero => intros; exact g_none
  | succ n ih =>
    intro σ x5 x6
    rw [X8_meant_L40]
    refine g_iload 5 dX8_meant_40 rfl ?_
    refine g_iload_n 2 dX8_meant_42 rfl ?_
    refine g_callSI (c_X8_sheetsOf σ x2) okX8_sheetsOf ⟨by decide, by decide⟩ ml_X8_219 rfl rfl (Nat.le_of_ble_eq_true rfl) dX8_meant_43 (fun q4 => ?_)
    refine g_icmp_ge 86 dX8_meant_46 rfl (fun _ => ?_) (fun _ => ?_)
    · refine g_sub [0, 4] rfl ?_
      exact hk86 q4.1 x5
    · refine g_aload_n 0 dX8_meant_49 rfl ?_
      refine g_iload_n 2 dX8_meant_50 rfl ?_
      refine g_iload 5 dX8_meant_51 rfl ?_
      refine g_callVV (c_X8_layNumber q4.1 x2 x6) okX8_layNumber ⟨by decide, by decide⟩ ml_X8_222 sh_98 no_98 rfl rfl [.int x2, .int x6] rfl rfl rfl (Nat.le_of_ble_eq_true rfl) dX8_meant_53 (fun q5 => ?_)
      refine g_aload_n 0 dX8_meant_56 rfl ?_
      refine g_iload 3 dX8_meant_57 rfl ?_
      refine g_callVV (c_X8_setBy q5.1 x4) okX8_setBy ⟨by decide, by decide⟩ ml_X8_188 sh_98 no_98 rfl rfl [.int x4] rfl rfl rfl (Nat.le_of_ble_eq_true rfl) dX8_meant_59 (fun q6 => ?_)
      refine g_iload 4 dX8_meant_62 rfl ?_
      refine g_aload_n 0 dX8_meant_64 rfl ?_
      refine g_iload_n 1 dX8_meant_65 rfl ?_
      refine g_callVI (c_X8_isOut q6.1 x1) okX8_isOut ⟨by decide, by decide⟩ ml_X8_225 sh_98 no_98 rfl rfl [.int x1] rfl rfl rfl (Nat.le_of_ble_eq_true rfl) dX8_meant_66 (fun q7 => ?_)
      refine g_if_eq 76 dX8_meant_69 rfl (fun _ => ?_) (fun _ => ?_)
      · refine g_iconst (0 : Int32) dX8_meant_76 (by decide) ?_
        refine g_iadd dX8_meant_77 ?_
        refine g_topi (fun v8 => ?_)
        refine g_istore [(5, .int v8), (0, .ref (xad X (98))), (1, .int x1), (2, .int x2), (4, .int x4), (6, .int x6)] dX8_meant_78 (by decide) rfl ?_
        refine g_iinc 5 [(6, .int ((x6 + (1 : Int32)))), (5, .int v8), (0, .ref (xad X (98))), (1, .int x1), (2, .int x2), (4, .int x4)] dX8_meant_80 rfl (v := x6 + (1 : Int32)) rfl (by decide) rfl ?_
        refine g_goto 40 dX8_meant_83 rfl ?_
        refine g_sub [2, 3, 4, 5, 1, 0] rfl ?_
        exact ih q7.1 v8 ((x6 + (1 : Int32)))
      · refine g_iconst (1 : Int32) dX8_meant_72 (by decide) ?_
        refine g_goto 77 dX8_meant_73 rfl ?_
        refine g_iadd dX8_meant_77 ?_
        refine g_topi (fun v10 => ?_)
        refine g_istore [(5, .int v10), (0, .ref (xad X (98))), (1, .int x1), (2, .int x2), (4, .int x4), (6, .int x6)] dX8_meant_78 (by decide) rfl ?_
        refine g_iinc 5 [(6, .int ((x6 + (1 : Int32)))), (5, .int v10), (0, .ref (xad X (98))), (1, .int x1), (2, .int x2), (4, .int x4)] dX8_meant_80 rfl (v := x6 + (1 : Int32)) rfl (by decide) rfl ?_
        refine g_goto 40 dX8_meant_83 rfl ?_
        refine g_sub [2, 3, 4, 5, 1, 0] rfl ?_
        exact ih q7.1 v10 ((x6 + (1 : Int32)))

set_option maxRecDepth 100000 in
set_option maxHeartbeats 4000000 in
theorem c_X8_meant (σ : Mem) (a1 : Int32) (a2 : Int32) : CT yX8_meant mX8_meant enI (fun ad => [.ref (ad (98)), .int a1, .int a2]) σ (X8_meant σ a1 a2) := by
  refine CT.of (by decide) rfl (fun _ => Nat.le_of_ble_eq_true rfl) (fun X => ?_)
  show GS (KM enI X) X mX8_meant σ 0 [(0, .ref (xad X (98))), (1, .int a1), (2, .int a2)] [] _
  unfold X8_meant
  refine g_iload_n 2 dX8_meant_0 rfl ?_
  refine g_iconst (0 : Int32) dX8_meant_1 (by decide) ?_
  refine g_bipush (6 : Int32) dX8_meant_2 (by decide) ?_
  refine g_callSI (c_X8_in σ a2 (0 : Int32) (6 : Int32)) okX8_in ⟨by decide, by decide⟩ ml_X8_83 rfl rfl (Nat.le_of_ble_eq_true rfl) dX8_meant_4 (fun q1 => ?_)
  refine g_if_ne 14 dX8_meant_7 rfl (fun _ => ?_) (fun _ => ?_)
  · refine g_aload_n 0 dX8_meant_14 rfl ?_
    refine g_iload_n 1 dX8_meant_15 rfl ?_
    refine g_bipush (16 : Int32) dX8_meant_16 (by decide) ?_
    refine g_callVI (c_X8_askedSigns q1.1 a1 (16 : Int32)) okX8_askedSigns ⟨by decide, by decide⟩ ml_X8_201 sh_98 no_98 rfl rfl [.int a1, .int ((16 : Int32))] rfl rfl rfl (Nat.le_of_ble_eq_true rfl) dX8_meant_18 (fun q2 => ?_)
    refine g_istore_n [(3, .int (q2.2)), (0, .ref (xad X (98))), (1, .int a1), (2, .int a2)] dX8_meant_21 (by decide) rfl ?_
    refine g_iload_n 0 dX8_meant_22 rfl ?_
    refine g_if_ge 28 dX8_meant_23 rfl (fun _ => ?_) (fun _ => ?_)
    · refine g_aload_n 1 dX8_meant_28 rfl ?_
      refine g_callVI (c_X8_onSet q2.1) okX8_onSet ⟨by decide, by decide⟩ ml_X8_184 sh_98 no_98 rfl rfl [] rfl rfl rfl (Nat.le_of_ble_eq_true rfl) dX8_meant_29 (fun q3 => ?_)
      refine g_istore [(4, .int (q3.2)), (3, .int (q2.2)), (0, .ref (xad X (98))), (1, .int a1), (2, .int a2)] dX8_meant_32 (by decide) rfl ?_
      refine g_iconst (0 : Int32) dX8_meant_34 (by decide) ?_
      refine g_istore [(5, .int ((0 : Int32))), (4, .int (q3.2)), (3, .int (q2.2)), (0, .ref (xad X (98))), (1, .int a1), (2, .int a2)] dX8_meant_35 (by decide) rfl ?_
      refine g_iconst (0 : Int32) dX8_meant_37 (by decide) ?_
      refine g_istore [(6, .int ((0 : Int32))), (5, .int ((0 : Int32))), (4, .int (q3.2)), (3, .int (q2.2)), (0, .ref (xad X (98))), (1, .int a1), (2, .int a2)] dX8_meant_38 (by decide) rfl ?_
      refine g_sub [4, 5, 6, 2, 1, 0] rfl ?_
      refine t_X8_meant_L40 X a1 a2 q3.2 _ (fun s13 y5_12 => ?_) FU q3.1 (0 : Int32) (0 : Int32)
      refine g_aload_n 0 dX8_meant_86 rfl ?_
      refine g_iload 1 dX8_meant_87 rfl ?_
      refine g_i2l dX8_meant_89 ?_
      refine g_lconst (1 : Int64) dX8_meant_90 (by decide) ?_
      refine g_callVI (c_X8_part s13 (y5_12.toInt64) (1 : Int64)) okX8_part ⟨by decide, by decide⟩ ml_X8_228 sh_98 no_98 rfl rfl [.long (y5_12.toInt64), .long ((1 : Int64))] rfl rfl rfl (Nat.le_of_ble_eq_true rfl) dX8_meant_91 (fun q14 => ?_)
      exact g_iret rfl dX8_meant_94
    · refine g_iload_n 0 dX8_meant_26 rfl ?_
      exact g_iret rfl dX8_meant_27
  · refine g_iconst (-1 : Int32) dX8_meant_10 (by decide) ?_
    refine g_goto 21 dX8_meant_11 rfl ?_
    refine g_istore_n [(3, .int ((-1 : Int32))), (0, .ref (xad X (98))), (1, .int a1), (2, .int a2)] dX8_meant_21 (by decide) rfl ?_
    refine g_iload_n 0 dX8_meant_22 rfl ?_
    refine g_if_ge 28 dX8_meant_23 rfl (fun _ => ?_) (fun _ => ?_)
    · refine g_aload_n 1 dX8_meant_28 rfl ?_
      refine g_callVI (c_X8_onSet q1.1) okX8_onSet ⟨by decide, by decide⟩ ml_X8_184 sh_98 no_98 rfl rfl [] rfl rfl rfl (Nat.le_of_ble_eq_true rfl) dX8_meant_29 (fun q15 => ?_)
      refine g_istore [(4, .int (q15.2)), (3, .int ((-1 : Int32))), (0, .ref (xad X (98))), (1, .int a1), (2, .int a2)] dX8_meant_32 (by decide) rfl ?_
      refine g_iconst (0 : Int32) dX8_meant_34 (by decide) ?_
      refine g_istore [(5, .int ((0 : Int32))), (4, .int (q15.2)), (3, .int ((-1 : Int32))), (0, .ref (xad X (98))), (1, .int a1), (2, .int a2)] dX8_meant_35 (by decide) rfl ?_
      refine g_iconst (0 : Int32) dX8_meant_37 (by decide) ?_
      refine g_istore [(6, .int ((0 : Int32))), (5, .int ((0 : Int32))), (4, .int (q15.2)), (3, .int ((-1 : Int32))), (0, .ref (xad X (98))), (1, .int a1), (2, .int a2)] dX8_meant_38 (by decide) rfl ?_
      refine g_sub [4, 5, 6, 2, 1, 0] rfl ?_
      refine t_X8_meant_L40 X a1 a2 q15.2 _ (fun s17 y5_16 => ?_) FU q15.1 (0 : Int32) (0 : Int32)
      refine g_aload_n 0 dX8_meant_86 rfl ?_
      refine g_iload 1 dX8_meant_87 rfl ?_
      refine g_i2l dX8_meant_89 ?_
      refine g_lconst (1 : Int64) dX8_meant_90 (by decide) ?_
      refine g_callVI (c_X8_part s17 (y5_16.toInt64) (1 : Int64)) okX8_part ⟨by decide, by decide⟩ ml_X8_228 sh_98 no_98 rfl rfl [.long (y5_16.toInt64), .long ((1 : Int64))] rfl rfl rfl (Nat.le_of_ble_eq_true rfl) dX8_meant_91 (fun q18 => ?_)
      exact g_iret rfl dX8_meant_94
    · refine g_iload_n 0 dX8_meant_26 rfl ?_
      exact g_iret rfl dX8_meant_27

def X8_isGoal_L19 (k58 : Mem → Int32 → Option (Mem × Int32)) : Nat → Mem → Int32 → Int32 → Option (Mem × Int32)
  | 0, _, _, _ => none
  | n + 1, σ, x1, x2 => (if (σ.1 818 0 0) ≤ x2 then k58 σ x1 else (if x1 = 0 then k58 σ x1 else (ck x2 16 <| ck x2 16 <| if (σ.1 817 0 x2.toNatClampNeg) = (σ.1 822 0 x2.toNatClampNeg) then ((X8_isGoal_L19 k58 n σ (1 : Int32) ((x2 + (1 : Int32))))) else (X8_isGoal_L19 k58 n σ (0 : Int32) ((x2 + (1 : Int32)))))))
def X8_isGoal (σ : Mem) : Option (Mem × Int32) := (if (σ.1 818 0 0) = (σ.1 823 0 0) then ((X8_isGoal_L19 (fun (s6 : Mem) (y1_5 : Int32) => (if y1_5 = 0 ∨ y1_5 = 1 then some (s6, y1_5) else none)) FU σ (1 : Int32) (0 : Int32))) else (X8_isGoal_L19 (fun (s4 : Mem) (y1_3 : Int32) => (if y1_3 = 0 ∨ y1_3 = 1 then some (s4, y1_3) else none)) FU σ (0 : Int32) (0 : Int32)))
set_option maxRecDepth 100000 in
set_option maxHeartbeats 4000000 in
theorem t_X8_isGoal_L19 (X : GX) (k58 : Mem → Int32 → Option (Mem × Int32)) (hk58 : ∀ (σ : Mem) (y1 : Int32), GS (KM enI X) X mX8_isGoal σ 58 [(1, .int y1)] [] (k58 σ y1)) : ∀ (n : Nat) (σ : Mem) (x1 : Int32) (x2 : Int32), GS (KM enI X) X mX8_isGoal σ 19 [(0, .ref (xad X (98))), (1, .int x1), (2, .int x2)] [] (X8_isGoal_L19 k58 n σ x1 x2) := by
  intro n
  induction n with
  | zero => intros; exact g_none
  | succ n ih =>
    intro σ x1 x2
    rw [X8_isGoal_L19]
    refine g_iload_n 2 dX8_isGoal_19 rfl ?_
    refine g_aload_n 0 dX8_isGoal_20 rfl ?_
    refine gf_X8_18 fl_X8_161 dX8_isGoal_21 ?_
    refine g_icmp_ge 58 dX8_isGoal_24 rfl (fun _ => ?_) (fun _ => ?_)
    · refine g_sub [1] rfl ?_
      exact hk58 σ x1
    · refine g_iload_n 1 dX8_isGoal_27 rfl ?_
      refine g_if_eq 58 dX8_isGoal_28 rfl (fun _ => ?_) (fun _ => ?_)
      · refine g_sub [1] rfl ?_
        exact hk58 σ x1
      · refine g_aload_n 0 dX8_isGoal_31 rfl ?_
        refine gf_X8_17 fl_X8_41 dX8_isGoal_32 ?_
        refine g_iload_n 2 dX8_isGoal_35 rfl ?_
        refine g_iald sh_108 no_108 dX8_isGoal_36 (fun _ => ?_)
        refine g_aload_n 0 dX8_isGoal_37 rfl ?_
        refine gf_X8_22 fl_X8_53 dX8_isGoal_38 ?_
        refine g_iload_n 2 dX8_isGoal_41 rfl ?_
        refine g_iald sh_112 no_112 dX8_isGoal_42 (fun _ => ?_)
        refine g_icmp_ne 50 dX8_isGoal_43 rfl (fun _ => ?_) (fun _ => ?_)
        · refine g_iconst (0 : Int32) dX8_isGoal_50 (by decide) ?_
          refine g_istore_n [(1, .int ((0 : Int32))), (0, .ref (xad X (98))), (2, .int x2)] dX8_isGoal_51 (by decide) rfl ?_
          refine g_iinc 2 [(2, .int ((x2 + (1 : Int32)))), (1, .int ((0 : Int32))), (0, .ref (xad X (98)))] dX8_isGoal_52 rfl (v := x2 + (1 : Int32)) rfl (by decide) rfl ?_
          refine g_goto 19 dX8_isGoal_55 rfl ?_
          refine g_sub [2, 1, 0] rfl ?_
          exact ih σ (0 : Int32) ((x2 + (1 : Int32)))
        · refine g_iconst (1 : Int32) dX8_isGoal_46 (by decide) ?_
          refine g_goto 51 dX8_isGoal_47 rfl ?_
          refine g_istore_n [(1, .int ((1 : Int32))), (0, .ref (xad X (98))), (2, .int x2)] dX8_isGoal_51 (by decide) rfl ?_
          refine g_iinc 2 [(2, .int ((x2 + (1 : Int32)))), (1, .int ((1 : Int32))), (0, .ref (xad X (98)))] dX8_isGoal_52 rfl (v := x2 + (1 : Int32)) rfl (by decide) rfl ?_
          refine g_goto 19 dX8_isGoal_55 rfl ?_
          refine g_sub [2, 1, 0] rfl ?_
          exact ih σ (1 : Int32) ((x2 + (1 : Int32)))

set_option maxRecDepth 100000 in
set_option maxHeartbeats 4000000 in
theorem c_X8_isGoal (σ : Mem) : CT yX8_isGoal mX8_isGoal enI (fun ad => [.ref (ad (98))]) σ (X8_isGoal σ) := by
  refine CT.of (by decide) rfl (fun _ => Nat.le_of_ble_eq_true rfl) (fun X => ?_)
  show GS (KM enI X) X mX8_isGoal σ 0 [(0, .ref (xad X (98)))] [] _
  unfold X8_isGoal
  refine g_aload_n 0 dX8_isGoal_0 rfl ?_
  refine gf_X8_18 fl_X8_161 dX8_isGoal_1 ?_
  refine g_aload_n 0 dX8_isGoal_4 rfl ?_
  refine gf_X8_23 fl_X8_232 dX8_isGoal_5 ?_
  refine g_icmp_ne 15 dX8_isGoal_8 rfl (fun _ => ?_) (fun _ => ?_)
  · refine g_iconst (0 : Int32) dX8_isGoal_15 (by decide) ?_
    refine g_istore_n [(1, .int ((0 : Int32))), (0, .ref (xad X (98)))] dX8_isGoal_16 (by decide) rfl ?_
    refine g_iconst (0 : Int32) dX8_isGoal_17 (by decide) ?_
    refine g_istore_n [(2, .int ((0 : Int32))), (1, .int ((0 : Int32))), (0, .ref (xad X (98)))] dX8_isGoal_18 (by decide) rfl ?_
    refine g_sub [2, 1, 0] rfl ?_
    refine t_X8_isGoal_L19 X _ (fun s4 y1_3 => ?_) FU σ (0 : Int32) (0 : Int32)
    refine g_iload_n 0 dX8_isGoal_58 rfl ?_
    exact g_zret rfl dX8_isGoal_59
  · refine g_iconst (1 : Int32) dX8_isGoal_11 (by decide) ?_
    refine g_goto 16 dX8_isGoal_12 rfl ?_
    refine g_istore_n [(1, .int ((1 : Int32))), (0, .ref (xad X (98)))] dX8_isGoal_16 (by decide) rfl ?_
    refine g_iconst (0 : Int32) dX8_isGoal_17 (by decide) ?_
    refine g_istore_n [(2, .int ((0 : Int32))), (1, .int ((1 : Int32))), (0, .ref (xad X (98)))] dX8_isGoal_18 (by decide) rfl ?_
    refine g_sub [2, 1, 0] rfl ?_
    refine t_X8_isGoal_L19 X _ (fun s6 y1_5 => ?_) FU σ (1 : Int32) (0 : Int32)
    refine g_iload_n 0 dX8_isGoal_58 rfl ?_
    exact g_zret rfl dX8_isGoal_59

def X8_layGoal_L12 (x1 : Int32) (k38 : Mem → Option (Mem × Unit)) : Nat → Mem → Int32 → Option (Mem × Unit)
  | 0, _, _ => none
  | n + 1, σ, x2 => (if (σ.1 823 0 0) ≤ x2 then k38 σ else ((X8_rowAt σ x1 x2).bind fun q1 => ck x2 16 <| X8_layGoal_L12 x1 k38 n ((uI q1.1 822 0 x2.toNatClampNeg q1.2)) ((x2 + (1 : Int32)))))
def X8_layGoal (σ : Mem) (a1 : Int32) : Option (Mem × Unit) := (ck a1 6 <| X8_layGoal_L12 a1 (fun (s4 : Mem) => (some (s4, ()))) FU ((uI σ 823 0 0 ((σ.1 805 0 a1.toNatClampNeg)))) (0 : Int32))
set_option maxRecDepth 100000 in
set_option maxHeartbeats 4000000 in
theorem t_X8_layGoal_L12 (X : GX) (x1 : Int32) (k38 : Mem → Option (Mem × Unit)) (hk38 : ∀ (σ : Mem), GS (KM enV X) X mX8_layGoal σ 38 [] [] (k38 σ)) : ∀ (n : Nat) (σ : Mem) (x2 : Int32), GS (KM enV X) X mX8_layGoal σ 12 [(0, .ref (xad X (98))), (1, .int x1), (2, .int x2)] [] (X8_layGoal_L12 x1 k38 n σ x2) := by
  intro n
  induction n with
  | zero => intros; exact g_none
  | succ n ih =>
    intro σ x2
    rw [X8_layGoal_L12]
    refine g_iload_n 2 dX8_layGoal_12 rfl ?_
    refine g_aload_n 0 dX8_layGoal_13 rfl ?_
    refine gf_X8_23 fl_X8_232 dX8_layGoal_14 ?_
    refine g_icmp_ge 38 dX8_layGoal_17 rfl (fun _ => ?_) (fun _ => ?_)
    · refine g_sub [] rfl ?_
      exact hk38 σ
    · refine g_aload_n 0 dX8_layGoal_20 rfl ?_
      refine gf_X8_22 fl_X8_53 dX8_layGoal_21 ?_
      refine g_iload_n 2 dX8_layGoal_24 rfl ?_
      refine g_aload_n 0 dX8_layGoal_25 rfl ?_
      refine g_iload_n 1 dX8_layGoal_26 rfl ?_
      refine g_iload_n 2 dX8_layGoal_27 rfl ?_
      refine g_callVI (c_X8_rowAt σ x1 x2) okX8_rowAt ⟨by decide, by decide⟩ ml_X8_105 sh_98 no_98 rfl rfl [.int x1, .int x2] rfl rfl rfl (Nat.le_of_ble_eq_true rfl) dX8_layGoal_28 (fun q1 => ?_)
      refine g_iast sh_112 no_112 dX8_layGoal_31 (fun _ => ?_)
      refine g_iinc 2 [(2, .int ((x2 + (1 : Int32)))), (0, .ref (xad X (98))), (1, .int x1)] dX8_layGoal_32 rfl (v := x2 + (1 : Int32)) rfl (by decide) rfl ?_
      refine g_goto 12 dX8_layGoal_35 rfl ?_
      refine g_sub [1, 2, 0] rfl ?_
      exact ih ((uI q1.1 822 0 x2.toNatClampNeg q1.2)) ((x2 + (1 : Int32)))

set_option maxRecDepth 100000 in
set_option maxHeartbeats 4000000 in
theorem c_X8_layGoal (σ : Mem) (a1 : Int32) : CT yX8_layGoal mX8_layGoal enV (fun ad => [.ref (ad (98)), .int a1]) σ (X8_layGoal σ a1) := by
  refine CT.of (by decide) rfl (fun _ => Nat.le_of_ble_eq_true rfl) (fun X => ?_)
  show GS (KM enV X) X mX8_layGoal σ 0 [(0, .ref (xad X (98))), (1, .int a1)] [] _
  unfold X8_layGoal
  refine g_aload_n 0 dX8_layGoal_0 rfl ?_
  refine g_aload_n 0 dX8_layGoal_1 rfl ?_
  refine gf_X8_5 fl_X8_17 dX8_layGoal_2 ?_
  refine g_iload_n 1 dX8_layGoal_5 rfl ?_
  refine g_iald sh_100 no_100 dX8_layGoal_6 (fun _ => ?_)
  refine pf_X8_23 fl_X8_232 dX8_layGoal_7 ?_
  refine g_iconst (0 : Int32) dX8_layGoal_10 (by decide) ?_
  refine g_istore_n [(2, .int ((0 : Int32))), (0, .ref (xad X (98))), (1, .int a1)] dX8_layGoal_11 (by decide) rfl ?_
  refine g_sub [1, 2, 0] rfl ?_
  refine t_X8_layGoal_L12 X a1 _ (fun s4 => ?_) FU ((uI σ 823 0 0 ((σ.1 805 0 a1.toNatClampNeg)))) (0 : Int32)
  exact g_vret rfl dX8_layGoal_38

def X8_findsFirst_L15 (x1 : Int32) (x2 : Int32) (k49 : Mem → Option (Mem × Int32)) : Nat → Mem → Int32 → Option (Mem × Int32)
  | 0, _, _ => none
  | n + 1, σ, x3 => ((X8_sheetsOf σ x2).bind fun q2 => if q2.2 ≤ x3 then k49 q2.1 else ((X8_layNumber q2.1 x2 x3).bind fun q3 => (X8_setBy q3.1 x1).bind fun q4 => (X8_isGoal q4.1).bind fun q5 => if q5.2 = 0 then (X8_findsFirst_L15 x1 x2 k49 n q5.1 ((x3 + (1 : Int32)))) else (if (1 : Int32) = 0 ∨ (1 : Int32) = 1 then some (q5.1, (1 : Int32)) else none)))
def X8_findsFirst_L7 (x1 : Int32) (k55 : Mem → Option (Mem × Int32)) : Nat → Mem → Int32 → Option (Mem × Int32)
  | 0, _, _ => none
  | n + 1, σ, x2 => (if (6 : Int32) < x2 then k55 σ else (X8_findsFirst_L15 x1 x2 (fun (s8 : Mem) => (X8_findsFirst_L7 x1 k55 n s8 ((x2 + (1 : Int32))))) FU σ (0 : Int32)))
def X8_findsFirst (σ : Mem) : Option (Mem × Int32) := ((X8_onSet σ).bind fun q1 => X8_findsFirst_L7 q1.2 (fun (s11 : Mem) => (if (0 : Int32) = 0 ∨ (0 : Int32) = 1 then some (s11, (0 : Int32)) else none)) FU q1.1 (0 : Int32))
set_option maxRecDepth 100000 in
set_option maxHeartbeats 4000000 in
theorem t_X8_findsFirst_L15 (X : GX) (x1 : Int32) (x2 : Int32) (k49 : Mem → Option (Mem × Int32)) (hk49 : ∀ (σ : Mem), GS (KM enI X) X mX8_findsFirst σ 49 [(0, .ref (xad X (98))), (1, .int x1), (2, .int x2)] [] (k49 σ)) : ∀ (n : Nat) (σ : Mem) (x3 : Int32), GS (KM enI X) X mX8_findsFirst σ 15 [(0, .ref (xad X (98))), (1, .int x1), (2, .int x2), (3, .int x3)] [] (X8_findsFirst_L15 x1 x2 k49 n σ x3) := by
  intro n
  induction n with
  | zero => intros; exact g_none
  | succ n ih =>
    intro σ x3
    rw [X8_findsFirst_L15]
    refine g_iload_n 3 dX8_findsFirst_15 rfl ?_
    refine g_iload_n 2 dX8_findsFirst_16 rfl ?_
    refine g_callSI (c_X8_sheetsOf σ x2) okX8_sheetsOf ⟨by decide, by decide⟩ ml_X8_219 rfl rfl (Nat.le_of_ble_eq_true rfl) dX8_findsFirst_17 (fun q2 => ?_)
    refine g_icmp_ge 49 dX8_findsFirst_20 rfl (fun _ => ?_) (fun _ => ?_)
    · refine g_sub [0, 1, 2] rfl ?_
      exact hk49 q2.1
    · refine g_aload_n 0 dX8_findsFirst_23 rfl ?_
      refine g_iload_n 2 dX8_findsFirst_24 rfl ?_
      refine g_iload_n 3 dX8_findsFirst_25 rfl ?_
      refine g_callVV (c_X8_layNumber q2.1 x2 x3) okX8_layNumber ⟨by decide, by decide⟩ ml_X8_222 sh_98 no_98 rfl rfl [.int x2, .int x3] rfl rfl rfl (Nat.le_of_ble_eq_true rfl) dX8_findsFirst_26 (fun q3 => ?_)
      refine g_aload_n 0 dX8_findsFirst_29 rfl ?_
      refine g_iload_n 1 dX8_findsFirst_30 rfl ?_
      refine g_callVV (c_X8_setBy q3.1 x1) okX8_setBy ⟨by decide, by decide⟩ ml_X8_188 sh_98 no_98 rfl rfl [.int x1] rfl rfl rfl (Nat.le_of_ble_eq_true rfl) dX8_findsFirst_31 (fun q4 => ?_)
      refine g_aload_n 0 dX8_findsFirst_34 rfl ?_
      refine g_callVI (c_X8_isGoal q4.1) okX8_isGoal ⟨by decide, by decide⟩ ml_X8_235 sh_98 no_98 rfl rfl [] rfl rfl rfl (Nat.le_of_ble_eq_true rfl) dX8_findsFirst_35 (fun q5 => ?_)
      refine g_if_eq 43 dX8_findsFirst_38 rfl (fun _ => ?_) (fun _ => ?_)
      · refine g_iinc 3 [(3, .int ((x3 + (1 : Int32)))), (0, .ref (xad X (98))), (1, .int x1), (2, .int x2)] dX8_findsFirst_43 rfl (v := x3 + (1 : Int32)) rfl (by decide) rfl ?_
        refine g_goto 15 dX8_findsFirst_46 rfl ?_
        refine g_sub [1, 2, 3, 0] rfl ?_
        exact ih q5.1 ((x3 + (1 : Int32)))
      · refine g_iconst (1 : Int32) dX8_findsFirst_41 (by decide) ?_
        exact g_zret rfl dX8_findsFirst_42

set_option maxRecDepth 100000 in
set_option maxHeartbeats 4000000 in
theorem t_X8_findsFirst_L7 (X : GX) (x1 : Int32) (k55 : Mem → Option (Mem × Int32)) (hk55 : ∀ (σ : Mem), GS (KM enI X) X mX8_findsFirst σ 55 [] [] (k55 σ)) : ∀ (n : Nat) (σ : Mem) (x2 : Int32), GS (KM enI X) X mX8_findsFirst σ 7 [(0, .ref (xad X (98))), (1, .int x1), (2, .int x2)] [] (X8_findsFirst_L7 x1 k55 n σ x2) := by
  intro n
  induction n with
  | zero => intros; exact g_none
  | succ n ih =>
    intro σ x2
    rw [X8_findsFirst_L7]
    refine g_iload_n 2 dX8_findsFirst_7 rfl ?_
    refine g_bipush (6 : Int32) dX8_findsFirst_8 (by decide) ?_
    refine g_icmp_gt 55 dX8_findsFirst_10 rfl (fun _ => ?_) (fun _ => ?_)
    · refine g_sub [] rfl ?_
      exact hk55 σ
    · refine g_iconst (0 : Int32) dX8_findsFirst_13 (by decide) ?_
      refine g_istore_n [(3, .int ((0 : Int32))), (0, .ref (xad X (98))), (1, .int x1), (2, .int x2)] dX8_findsFirst_14 (by decide) rfl ?_
      refine g_sub [1, 2, 3, 0] rfl ?_
      refine t_X8_findsFirst_L15 X x1 x2 _ (fun s8 => ?_) FU σ (0 : Int32)
      refine g_iinc 2 [(2, .int ((x2 + (1 : Int32)))), (0, .ref (xad X (98))), (1, .int x1)] dX8_findsFirst_49 rfl (v := x2 + (1 : Int32)) rfl (by decide) rfl ?_
      refine g_goto 7 dX8_findsFirst_52 rfl ?_
      refine g_sub [1, 2, 0] rfl ?_
      exact ih s8 ((x2 + (1 : Int32)))

set_option maxRecDepth 100000 in
set_option maxHeartbeats 4000000 in
theorem c_X8_findsFirst (σ : Mem) : CT yX8_findsFirst mX8_findsFirst enI (fun ad => [.ref (ad (98))]) σ (X8_findsFirst σ) := by
  refine CT.of (by decide) rfl (fun _ => Nat.le_of_ble_eq_true rfl) (fun X => ?_)
  show GS (KM enI X) X mX8_findsFirst σ 0 [(0, .ref (xad X (98)))] [] _
  unfold X8_findsFirst
  refine g_aload_n 0 dX8_findsFirst_0 rfl ?_
  refine g_callVI (c_X8_onSet σ) okX8_onSet ⟨by decide, by decide⟩ ml_X8_184 sh_98 no_98 rfl rfl [] rfl rfl rfl (Nat.le_of_ble_eq_true rfl) dX8_findsFirst_1 (fun q1 => ?_)
  refine g_istore_n [(1, .int (q1.2)), (0, .ref (xad X (98)))] dX8_findsFirst_4 (by decide) rfl ?_
  refine g_iconst (0 : Int32) dX8_findsFirst_5 (by decide) ?_
  refine g_istore_n [(2, .int ((0 : Int32))), (1, .int (q1.2)), (0, .ref (xad X (98)))] dX8_findsFirst_6 (by decide) rfl ?_
  refine g_sub [2, 1, 0] rfl ?_
  refine t_X8_findsFirst_L7 X q1.2 _ (fun s11 => ?_) FU q1.1 (0 : Int32)
  refine g_iconst (0 : Int32) dX8_findsFirst_55 (by decide) ?_
  exact g_zret rfl dX8_findsFirst_56

