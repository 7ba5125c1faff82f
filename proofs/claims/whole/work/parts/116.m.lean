def X8_readsLaw_J145 (σ : Mem) (x1 : Int32) (x2 : Int32) (x3 : Int32) (x4 : Int32) (x5 : Int32) (z0 : Int32) (z1 : Int32) (kb : Mem → Int32 → Option (Mem × Int32)) (k171 : Mem → Option (Mem × Int32)) : Option (Mem × Int32) := (ck z1 40 <| if x5 = 0 then (kb ((uI ((uI σ 814 0 z1.toNatClampNeg z0)) 812 0 0 (((((uI σ 814 0 z1.toNatClampNeg z0)).1 812 0 0) + (0 : Int32))))) ((x4 + (1 : Int32)))) else ((kb ((uI ((uI σ 814 0 z1.toNatClampNeg z0)) 812 0 0 (((((uI σ 814 0 z1.toNatClampNeg z0)).1 812 0 0) + (1 : Int32))))) ((x4 + (1 : Int32))))))
def X8_readsLaw_J119 (σ : Mem) (x1 : Int32) (x2 : Int32) (x3 : Int32) (x4 : Int32) (x5 : Int32) (kb : Mem → Int32 → Option (Mem × Int32)) (k171 : Mem → Option (Mem × Int32)) : Option (Mem × Int32) := (if x5 = 0 then (X8_readsLaw_J145 σ x1 x2 x3 x4 x5 (-9 : Int32) ((x3 + x4)) (kb) k171) else ((X8_here σ x1).bind fun q6 => X8_readsLaw_J145 q6.1 x1 x2 x3 x4 x5 ((q6.2 - (65 : Int32))) ((x3 + x4)) (kb) k171))
def X8_readsLaw_J94 (σ : Mem) (x1 : Int32) (x2 : Int32) (x3 : Int32) (x4 : Int32) (z0 : Int32) (kb : Mem → Int32 → Option (Mem × Int32)) (k171 : Mem → Option (Mem × Int32)) : Option (Mem × Int32) := (if z0 = 0 then X8_readsLaw_J119 σ x1 x2 x3 x4 z0 (kb) k171 else ((X8_here σ x1).bind fun q7 => (X8_in q7.1 ((q7.2 - (65 : Int32))) (0 : Int32) (5 : Int32)).bind fun q8 => if q8.2 = 0 then (if (0 : Int32) = 0 ∨ (0 : Int32) = 1 then some (q8.1, (0 : Int32)) else none) else X8_readsLaw_J119 q8.1 x1 x2 x3 x4 z0 (kb) k171))
def X8_readsLaw_L53 (x1 : Int32) (x2 : Int32) (x3 : Int32) (k171 : Mem → Option (Mem × Int32)) : Nat → Mem → Int32 → Option (Mem × Int32)
  | 0, _, _ => none
  | n + 1, σ, x4 => (if (4 : Int32) ≤ x4 then k171 σ else (if x4 = (1 : Int32) then (X8_readsLaw_J94 σ x1 x2 x3 x4 (1 : Int32) (X8_readsLaw_L53 x1 x2 x3 k171 n) k171) else (if x4 = (2 : Int32) then (if x2 = (1 : Int32) then (if x4 = (3 : Int32) then ((X8_hasZ σ x2).bind fun q10 => if q10.2 = 0 then (X8_readsLaw_J94 q10.1 x1 x2 x3 x4 (0 : Int32) (X8_readsLaw_L53 x1 x2 x3 k171 n) k171) else (X8_readsLaw_J94 q10.1 x1 x2 x3 x4 (1 : Int32) (X8_readsLaw_L53 x1 x2 x3 k171 n) k171)) else (X8_readsLaw_J94 σ x1 x2 x3 x4 (0 : Int32) (X8_readsLaw_L53 x1 x2 x3 k171 n) k171)) else (X8_readsLaw_J94 σ x1 x2 x3 x4 (1 : Int32) (X8_readsLaw_L53 x1 x2 x3 k171 n) k171)) else (if x4 = (3 : Int32) then ((X8_hasZ σ x2).bind fun q9 => if q9.2 = 0 then (X8_readsLaw_J94 q9.1 x1 x2 x3 x4 (0 : Int32) (X8_readsLaw_L53 x1 x2 x3 k171 n) k171) else (X8_readsLaw_J94 q9.1 x1 x2 x3 x4 (1 : Int32) (X8_readsLaw_L53 x1 x2 x3 k171 n) k171)) else (X8_readsLaw_J94 σ x1 x2 x3 x4 (0 : Int32) (X8_readsLaw_L53 x1 x2 x3 k171 n) k171)))))
def X8_readsLaw (σ : Mem) (a1 : Int32) : Option (Mem × Int32) := ((X8_here σ a1).bind fun q1 => (X8_kindBy q1.1 q1.2).bind fun q2 => if q2.2 = (-9 : Int32) then (if (0 : Int32) = 0 ∨ (0 : Int32) = 1 then some (q2.1, (0 : Int32)) else none) else (if (q2.1.1 813 0 0) = (8 : Int32) then (if (0 : Int32) = 0 ∨ (0 : Int32) = 1 then some (q2.1, (0 : Int32)) else none) else (lt_ (((5 : Int32) * (((uI q2.1 812 0 0 (((q2.1.1 812 0 0) + (1 : Int32))))).1 813 0 0))) fun (v3 : Int32) => ck v3 40 <| X8_readsLaw_L53 a1 q2.2 v3 (fun (s12 : Mem) => (if (1 : Int32) = 0 ∨ (1 : Int32) = 1 then some ((uI s12 813 0 0 (((s12.1 813 0 0) + (1 : Int32)))), (1 : Int32)) else none)) FU ((uI ((uI q2.1 812 0 0 (((q2.1.1 812 0 0) + (1 : Int32))))) 814 0 v3.toNatClampNeg q2.2)) (1 : Int32))))
set_option maxRecDepth 100000 in
set_option maxHeartbeats 4000000 in
theorem t_X8_readsLaw_J145 (X : GX) (σ : Mem) (x1 : Int32) (x2 : Int32) (x3 : Int32) (x4 : Int32) (x5 : Int32) (z0 : Int32) (z1 : Int32) (kb : Mem → Int32 → Option (Mem × Int32)) (k171 : Mem → Option (Mem × Int32)) (hkb : ∀ (σ : Mem) (y4 : Int32), GS (KM enI X) X mX8_readsLaw σ 53 [(0, .ref (xad X (98))), (1, .int x1), (2, .int x2), (3, .int x3), (4, .int y4)] [] (kb σ y4)) (hk171 : ∀ (σ : Mem), GS (KM enI X) X mX8_readsLaw σ 171 [(0, .ref (xad X (98)))] [] (k171 σ)) : GS (KM enI X) X mX8_readsLaw σ 145 [(0, .ref (xad X (98))), (1, .int x1), (2, .int x2), (3, .int x3), (4, .int x4), (5, .int x5)] [.int z0, .int z1, .ref (xad X (106))] (X8_readsLaw_J145 σ x1 x2 x3 x4 x5 z0 z1 kb k171) := by
  unfold X8_readsLaw_J145
  refine g_iast sh_106 no_106 dX8_readsLaw_145 (fun _ => ?_)
  refine g_aload_n 0 dX8_readsLaw_146 rfl ?_
  refine g_dup dX8_readsLaw_147 rfl ?_
  refine gf_X8_12 fl_X8_118 dX8_readsLaw_148 ?_
  refine g_iload 5 dX8_readsLaw_151 rfl ?_
  refine g_if_eq 160 dX8_readsLaw_153 rfl (fun _ => ?_) (fun _ => ?_)
  · refine g_iconst (0 : Int32) dX8_readsLaw_160 (by decide) ?_
    refine g_iadd dX8_readsLaw_161 ?_
    refine pf_X8_12 fl_X8_118 dX8_readsLaw_162 ?_
    refine g_iinc 4 [(4, .int ((x4 + (1 : Int32)))), (0, .ref (xad X (98))), (1, .int x1), (2, .int x2), (3, .int x3), (5, .int x5)] dX8_readsLaw_165 rfl (v := x4 + (1 : Int32)) rfl (by decide) rfl ?_
    refine g_goto 53 dX8_readsLaw_168 rfl ?_
    refine g_sub [1, 2, 3, 4, 0] rfl ?_
    exact hkb ((uI ((uI σ 814 0 z1.toNatClampNeg z0)) 812 0 0 (((((uI σ 814 0 z1.toNatClampNeg z0)).1 812 0 0) + (0 : Int32))))) ((x4 + (1 : Int32)))
  · refine g_iconst (1 : Int32) dX8_readsLaw_156 (by decide) ?_
    refine g_goto 161 dX8_readsLaw_157 rfl ?_
    refine g_iadd dX8_readsLaw_161 ?_
    refine pf_X8_12 fl_X8_118 dX8_readsLaw_162 ?_
    refine g_iinc 4 [(4, .int ((x4 + (1 : Int32)))), (0, .ref (xad X (98))), (1, .int x1), (2, .int x2), (3, .int x3), (5, .int x5)] dX8_readsLaw_165 rfl (v := x4 + (1 : Int32)) rfl (by decide) rfl ?_
    refine g_goto 53 dX8_readsLaw_168 rfl ?_
    refine g_sub [1, 2, 3, 4, 0] rfl ?_
    exact hkb ((uI ((uI σ 814 0 z1.toNatClampNeg z0)) 812 0 0 (((((uI σ 814 0 z1.toNatClampNeg z0)).1 812 0 0) + (1 : Int32))))) ((x4 + (1 : Int32)))

set_option maxRecDepth 100000 in
set_option maxHeartbeats 4000000 in
theorem t_X8_readsLaw_J119 (X : GX) (σ : Mem) (x1 : Int32) (x2 : Int32) (x3 : Int32) (x4 : Int32) (x5 : Int32) (kb : Mem → Int32 → Option (Mem × Int32)) (k171 : Mem → Option (Mem × Int32)) (hkb : ∀ (σ : Mem) (y4 : Int32), GS (KM enI X) X mX8_readsLaw σ 53 [(0, .ref (xad X (98))), (1, .int x1), (2, .int x2), (3, .int x3), (4, .int y4)] [] (kb σ y4)) (hk171 : ∀ (σ : Mem), GS (KM enI X) X mX8_readsLaw σ 171 [(0, .ref (xad X (98)))] [] (k171 σ)) : GS (KM enI X) X mX8_readsLaw σ 119 [(0, .ref (xad X (98))), (1, .int x1), (2, .int x2), (3, .int x3), (4, .int x4), (5, .int x5)] [] (X8_readsLaw_J119 σ x1 x2 x3 x4 x5 kb k171) := by
  unfold X8_readsLaw_J119
  refine g_aload_n 0 dX8_readsLaw_119 rfl ?_
  refine gf_X8_14 fl_X8_35 dX8_readsLaw_120 ?_
  refine g_iload_n 3 dX8_readsLaw_123 rfl ?_
  refine g_iload 4 dX8_readsLaw_124 rfl ?_
  refine g_iadd dX8_readsLaw_126 ?_
  refine g_iload 5 dX8_readsLaw_127 rfl ?_
  refine g_if_eq 143 dX8_readsLaw_129 rfl (fun _ => ?_) (fun _ => ?_)
  · refine g_bipush (-9 : Int32) dX8_readsLaw_143 (by decide) ?_
    refine g_sub [0, 1, 2, 3, 4, 5] rfl ?_
    exact t_X8_readsLaw_J145 X σ x1 x2 x3 x4 x5 (-9 : Int32) ((x3 + x4)) _ _ (fun σ y4 => hkb σ y4) hk171
  · refine g_aload_n 0 dX8_readsLaw_132 rfl ?_
    refine g_iload_n 1 dX8_readsLaw_133 rfl ?_
    refine g_callVI (c_X8_here σ x1) okX8_here ⟨by decide, by decide⟩ ml_X8_121 sh_98 no_98 rfl rfl [.int x1] rfl rfl rfl (Nat.le_of_ble_eq_true rfl) dX8_readsLaw_134 (fun q6 => ?_)
    refine g_bipush (65 : Int32) dX8_readsLaw_137 (by decide) ?_
    refine g_isub dX8_readsLaw_139 ?_
    refine g_goto 145 dX8_readsLaw_140 rfl ?_
    refine g_sub [0, 1, 2, 3, 4, 5] rfl ?_
    exact t_X8_readsLaw_J145 X q6.1 x1 x2 x3 x4 x5 ((q6.2 - (65 : Int32))) ((x3 + x4)) _ _ (fun σ y4 => hkb σ y4) hk171

set_option maxRecDepth 100000 in
set_option maxHeartbeats 4000000 in
theorem t_X8_readsLaw_J94 (X : GX) (σ : Mem) (x1 : Int32) (x2 : Int32) (x3 : Int32) (x4 : Int32) (z0 : Int32) (kb : Mem → Int32 → Option (Mem × Int32)) (k171 : Mem → Option (Mem × Int32)) (hkb : ∀ (σ : Mem) (y4 : Int32), GS (KM enI X) X mX8_readsLaw σ 53 [(0, .ref (xad X (98))), (1, .int x1), (2, .int x2), (3, .int x3), (4, .int y4)] [] (kb σ y4)) (hk171 : ∀ (σ : Mem), GS (KM enI X) X mX8_readsLaw σ 171 [(0, .ref (xad X (98)))] [] (k171 σ)) : GS (KM enI X) X mX8_readsLaw σ 94 [(0, .ref (xad X (98))), (1, .int x1), (2, .int x2), (3, .int x3), (4, .int x4)] [.int z0] (X8_readsLaw_J94 σ x1 x2 x3 x4 z0 kb k171) := by
  unfold X8_readsLaw_J94
  refine g_istore [(5, .int z0), (0, .ref (xad X (98))), (1, .int x1), (2, .int x2), (3, .int x3), (4, .int x4)] dX8_readsLaw_94 (by decide) rfl ?_
  refine g_iload 0 dX8_readsLaw_96 rfl ?_
  refine g_if_eq 119 dX8_readsLaw_98 rfl (fun _ => ?_) (fun _ => ?_)
  · refine g_sub [1, 2, 3, 4, 5, 0] rfl ?_
    exact t_X8_readsLaw_J119 X σ x1 x2 x3 x4 z0 _ _ (fun σ y4 => hkb σ y4) hk171
  · refine g_aload_n 1 dX8_readsLaw_101 rfl ?_
    refine g_iload_n 2 dX8_readsLaw_102 rfl ?_
    refine g_callVI (c_X8_here σ x1) okX8_here ⟨by decide, by decide⟩ ml_X8_121 sh_98 no_98 rfl rfl [.int x1] rfl rfl rfl (Nat.le_of_ble_eq_true rfl) dX8_readsLaw_103 (fun q7 => ?_)
    refine g_bipush (65 : Int32) dX8_readsLaw_106 (by decide) ?_
    refine g_isub dX8_readsLaw_108 ?_
    refine g_iconst (0 : Int32) dX8_readsLaw_109 (by decide) ?_
    refine g_iconst (5 : Int32) dX8_readsLaw_110 (by decide) ?_
    refine g_callSI (c_X8_in q7.1 ((q7.2 - (65 : Int32))) (0 : Int32) (5 : Int32)) okX8_in ⟨by decide, by decide⟩ ml_X8_83 rfl rfl (Nat.le_of_ble_eq_true rfl) dX8_readsLaw_111 (fun q8 => ?_)
    refine g_if_ne 119 dX8_readsLaw_114 rfl (fun _ => ?_) (fun _ => ?_)
    · refine g_sub [1, 2, 3, 4, 5, 0] rfl ?_
      exact t_X8_readsLaw_J119 X q8.1 x1 x2 x3 x4 z0 _ _ (fun σ y4 => hkb σ y4) hk171
    · refine g_iconst (0 : Int32) dX8_readsLaw_117 (by decide) ?_
      exact g_zret rfl dX8_readsLaw_118

set_option maxRecDepth 100000 in
set_option maxHeartbeats 4000000 in
theorem t_X8_readsLaw_L53 (X : GX) (x1 : Int32) (x2 : Int32) (x3 : Int32) (k171 : Mem → Option (Mem × Int32)) (hk171 : ∀ (σ : Mem), GS (KM enI X) X mX8_readsLaw σ 171 [(0, .ref (xad X (98)))] [] (k171 σ)) : ∀ (n : Nat) (σ : Mem) (x4 : Int32), GS (KM enI X) X mX8_readsLaw σ 53 [(0, .ref (xad X (98))), (1, .int x1), (2, .int x2), (3, .int x3), (4, .int x4)] [] (X8_readsLaw_L53 x1 x2 x3 k171 n σ x4) := by
  intro n
  induction n with
  | zero => intros; exact g_none
  | succ n ih =>
    intro σ x4
    rw [X8_readsLaw_L53]
    refine g_iload 4 dX8_readsLaw_53 rfl ?_
    refine g_iconst (4 : Int32) dX8_readsLaw_55 (by decide) ?_
    refine g_icmp_ge 171 dX8_readsLaw_56 rfl (fun _ => ?_) (fun _ => ?_)
    · refine g_sub [0] rfl ?_
      exact hk171 σ
    · refine g_iload 4 dX8_readsLaw_59 rfl ?_
      refine g_iconst (1 : Int32) dX8_readsLaw_61 (by decide) ?_
      refine g_icmp_eq 89 dX8_readsLaw_62 rfl (fun _ => ?_) (fun _ => ?_)
      · refine g_iconst (1 : Int32) dX8_readsLaw_89 (by decide) ?_
        refine g_goto 94 dX8_readsLaw_90 rfl ?_
        refine g_sub [0, 1, 2, 3, 4] rfl ?_
        exact t_X8_readsLaw_J94 X σ x1 x2 x3 x4 (1 : Int32) _ _ (fun σ y4 => ih σ y4) hk171
      · refine g_iload 4 dX8_readsLaw_65 rfl ?_
        refine g_iconst (2 : Int32) dX8_readsLaw_67 (by decide) ?_
        refine g_icmp_ne 76 dX8_readsLaw_68 rfl (fun _ => ?_) (fun _ => ?_)
        · refine g_iload 4 dX8_readsLaw_76 rfl ?_
          refine g_iconst (3 : Int32) dX8_readsLaw_78 (by decide) ?_
          refine g_icmp_ne 93 dX8_readsLaw_79 rfl (fun _ => ?_) (fun _ => ?_)
          · refine g_iconst (0 : Int32) dX8_readsLaw_93 (by decide) ?_
            refine g_sub [0, 1, 2, 3, 4] rfl ?_
            exact t_X8_readsLaw_J94 X σ x1 x2 x3 x4 (0 : Int32) _ _ (fun σ y4 => ih σ y4) hk171
          · refine g_iload_n 2 dX8_readsLaw_82 rfl ?_
            refine g_callSI (c_X8_hasZ σ x2) okX8_hasZ ⟨by decide, by decide⟩ ml_X8_130 rfl rfl (Nat.le_of_ble_eq_true rfl) dX8_readsLaw_83 (fun q9 => ?_)
            refine g_if_eq 93 dX8_readsLaw_86 rfl (fun _ => ?_) (fun _ => ?_)
            · refine g_iconst (0 : Int32) dX8_readsLaw_93 (by decide) ?_
              refine g_sub [0, 1, 2, 3, 4] rfl ?_
              exact t_X8_readsLaw_J94 X q9.1 x1 x2 x3 x4 (0 : Int32) _ _ (fun σ y4 => ih σ y4) hk171
            · refine g_iconst (1 : Int32) dX8_readsLaw_89 (by decide) ?_
              refine g_goto 94 dX8_readsLaw_90 rfl ?_
              refine g_sub [0, 1, 2, 3, 4] rfl ?_
              exact t_X8_readsLaw_J94 X q9.1 x1 x2 x3 x4 (1 : Int32) _ _ (fun σ y4 => ih σ y4) hk171
        · refine g_iload_n 2 dX8_readsLaw_71 rfl ?_
          refine g_iconst (1 : Int32) dX8_readsLaw_72 (by decide) ?_
          refine g_icmp_ne 89 dX8_readsLaw_73 rfl (fun _ => ?_) (fun _ => ?_)
          · refine g_iconst (1 : Int32) dX8_readsLaw_89 (by decide) ?_
            refine g_goto 94 dX8_readsLaw_90 rfl ?_
            refine g_sub [0, 1, 2, 3, 4] rfl ?_
            exact t_X8_readsLaw_J94 X σ x1 x2 x3 x4 (1 : Int32) _ _ (fun σ y4 => ih σ y4) hk171
          · refine g_iload 4 dX8_readsLaw_76 rfl ?_
            refine g_iconst (3 : Int32) dX8_readsLaw_78 (by decide) ?_
            refine g_icmp_ne 93 dX8_readsLaw_79 rfl (fun _ => ?_) (fun _ => ?_)
            · refine g_iconst (0 : Int32) dX8_readsLaw_93 (by decide) ?_
              refine g_sub [0, 1, 2, 3, 4] rfl ?_
              exact t_X8_readsLaw_J94 X σ x1 x2 x3 x4 (0 : Int32) _ _ (fun σ y4 => ih σ y4) hk171
            · refine g_iload_n 2 dX8_readsLaw_82 rfl ?_
              refine g_callSI (c_X8_hasZ σ x2) okX8_hasZ ⟨by decide, by decide⟩ ml_X8_130 rfl rfl (Nat.le_of_ble_eq_true rfl) dX8_readsLaw_83 (fun q10 => ?_)
              refine g_if_eq 93 dX8_readsLaw_86 rfl (fun _ => ?_) (fun _ => ?_)
              · refine g_iconst (0 : Int32) dX8_readsLaw_93 (by decide) ?_
                refine g_sub [0, 1, 2, 3, 4] rfl ?_
                exact t_X8_readsLaw_J94 X q10.1 x1 x2 x3 x4 (0 : Int32) _ _ (fun σ y4 => ih σ y4) hk171
              · refine g_iconst (1 : Int32) dX8_readsLaw_89 (by decide) ?_
                refine g_goto 94 dX8_readsLaw_90 rfl ?_
                refine g_sub [0, 1, 2, 3, 4] rfl ?_
                exact t_X8_readsLaw_J94 X q10.1 x1 x2 x3 x4 (1 : Int32) _ _ (fun σ y4 => ih σ y4) hk171

set_option maxRecDepth 100000 in
set_option maxHeartbeats 4000000 in
theorem c_X8_readsLaw (σ : Mem) (a1 : Int32) : CT yX8_readsLaw mX8_readsLaw enI (fun ad => [.ref (ad (98)), .int a1]) σ (X8_readsLaw σ a1) := by
  refine CT.of (by decide) rfl (fun _ => Nat.le_of_ble_eq_true rfl) (fun X => ?_)
  show GS (KM enI X) X mX8_readsLaw σ 0 [(0, .ref (xad X (98))), (1, .int a1)] [] _
  unfold X8_readsLaw
  refine g_aload_n 0 dX8_readsLaw_0 rfl ?_
  refine g_iload_n 1 dX8_readsLaw_1 rfl ?_
  refine g_callVI (c_X8_here σ a1) okX8_here ⟨by decide, by decide⟩ ml_X8_121 sh_98 no_98 rfl rfl [.int a1] rfl rfl rfl (Nat.le_of_ble_eq_true rfl) dX8_readsLaw_2 (fun q1 => ?_)
  refine g_callSI (c_X8_kindBy q1.1 q1.2) okX8_kindBy ⟨by decide, by decide⟩ ml_X8_124 rfl rfl (Nat.le_of_ble_eq_true rfl) dX8_readsLaw_5 (fun q2 => ?_)
  refine g_istore_n [(2, .int (q2.2)), (0, .ref (xad X (98))), (1, .int a1)] dX8_readsLaw_8 (by decide) rfl ?_
  refine g_iload_n 0 dX8_readsLaw_9 rfl ?_
  refine g_bipush (-9 : Int32) dX8_readsLaw_10 (by decide) ?_
  refine g_icmp_eq 24 dX8_readsLaw_12 rfl (fun _ => ?_) (fun _ => ?_)
  · refine g_iconst (0 : Int32) dX8_readsLaw_24 (by decide) ?_
    exact g_zret rfl dX8_readsLaw_25
  · refine g_aload_n 1 dX8_readsLaw_15 rfl ?_
    refine gf_X8_13 fl_X8_127 dX8_readsLaw_16 ?_
    refine g_bipush (8 : Int32) dX8_readsLaw_19 (by decide) ?_
    refine g_icmp_ne 26 dX8_readsLaw_21 rfl (fun _ => ?_) (fun _ => ?_)
    · refine g_aload_n 1 dX8_readsLaw_26 rfl ?_
      refine g_dup dX8_readsLaw_27 rfl ?_
      refine gf_X8_12 fl_X8_118 dX8_readsLaw_28 ?_
      refine g_iconst (1 : Int32) dX8_readsLaw_31 (by decide) ?_
      refine g_iadd dX8_readsLaw_32 ?_
      refine pf_X8_12 fl_X8_118 dX8_readsLaw_33 ?_
      refine g_iconst (5 : Int32) dX8_readsLaw_36 (by decide) ?_
      refine g_aload_n 1 dX8_readsLaw_37 rfl ?_
      refine gf_X8_13 fl_X8_127 dX8_readsLaw_38 ?_
      refine g_imul dX8_readsLaw_41 ?_
      refine g_topi (fun v3 => ?_)
      refine g_istore_n [(3, .int v3), (2, .int (q2.2)), (0, .ref (xad X (98))), (1, .int a1)] dX8_readsLaw_42 (by decide) rfl ?_
      refine g_aload_n 2 dX8_readsLaw_43 rfl ?_
      refine gf_X8_14 fl_X8_35 dX8_readsLaw_44 ?_
      refine g_iload_n 0 dX8_readsLaw_47 rfl ?_
      refine g_iload_n 1 dX8_readsLaw_48 rfl ?_
      refine g_iast sh_106 no_106 dX8_readsLaw_49 (fun _ => ?_)
      refine g_iconst (1 : Int32) dX8_readsLaw_50 (by decide) ?_
      refine g_istore [(4, .int ((1 : Int32))), (3, .int v3), (2, .int (q2.2)), (0, .ref (xad X (98))), (1, .int a1)] dX8_readsLaw_51 (by decide) rfl ?_
      refine g_sub [3, 4, 2, 1, 0] rfl ?_
      refine t_X8_readsLaw_L53 X a1 q2.2 v3 _ (fun s12 => ?_) FU ((uI ((uI q2.1 812 0 0 (((q2.1.1 812 0 0) + (1 : Int32))))) 814 0 v3.toNatClampNeg q2.2)) (1 : Int32)
      refine g_aload_n 0 dX8_readsLaw_171 rfl ?_
      refine g_dup dX8_readsLaw_172 rfl ?_
      refine gf_X8_13 fl_X8_127 dX8_readsLaw_173 ?_
      refine g_iconst (1 : Int32) dX8_readsLaw_176 (by decide) ?_
      refine g_iadd dX8_readsLaw_177 ?_
      refine pf_X8_13 fl_X8_127 dX8_readsLaw_178 ?_
      refine g_iconst (1 : Int32) dX8_readsLaw_181 (by decide) ?_
      exact g_zret rfl dX8_readsLaw_182
    · refine g_iconst (0 : Int32) dX8_readsLaw_24 (by decide) ?_
      exact g_zret rfl dX8_readsLaw_25

def X8_goesOn_L10 (x1 : Int32) (k54 : Mem → Option (Mem × Int32)) (k59 : Mem → Option (Mem × Int32)) : Nat → Mem → Option (Mem × Int32)
  | 0, _ => none
  | n + 1, σ => (ck x1 4 <| if (σ.1 808 0 x1.toNatClampNeg) ≤ (σ.1 812 0 0) then k59 σ else ((X8_here σ x1).bind fun q1 => if q1.2 = (32 : Int32) then (X8_goesOn_L10 x1 k54 k59 n ((uI q1.1 812 0 0 (((q1.1.1 812 0 0) + (1 : Int32)))))) else ((X8_readsLaw q1.1 x1).bind fun q2 => if q2.2 = 0 then k54 q2.1 else X8_goesOn_L10 x1 k54 k59 n q2.1)))
def X8_goesOn (σ : Mem) (a1 : Int32) : Option (Mem × Int32) := (X8_goesOn_L10 a1 (fun (s4 : Mem) => (some (s4, (s4.1 812 0 0)))) (fun (s6 : Mem) => (some (s6, (-9 : Int32)))) FU ((uI ((uI σ 812 0 0 (0 : Int32))) 813 0 0 (0 : Int32))))
set_option maxRecDepth 100000 in
set_option maxHeartbeats 4000000 in
theorem t_X8_goesOn_L10 (X : GX) (x1 : Int32) (k54 : Mem → Option (Mem × Int32)) (k59 : Mem → Option (Mem × Int32)) (hk54 : ∀ (σ : Mem), GS (KM enI X) X mX8_goesOn σ 54 [(0, .ref (xad X (98)))] [] (k54 σ)) (hk59 : ∀ (σ : Mem), GS (KM enI X) X mX8_goesOn σ 59 [] [] (k59 σ)) : ∀ (n : Nat) (σ : Mem), GS (KM enI X) X mX8_goesOn σ 10 [(0, .ref (xad X (98))), (1, .int x1)] [] (X8_goesOn_L10 x1 k54 k59 n σ) := by
  intro n
  induction n with
  | zero => intros; exact g_none
  | succ n ih =>
    intro σ
    rw [X8_goesOn_L10]
    refine g_aload_n 0 dX8_goesOn_10 rfl ?_
    refine gf_X8_12 fl_X8_118 dX8_goesOn_11 ?_
    refine g_aload_n 0 dX8_goesOn_14 rfl ?_
    refine gf_X8_8 fl_X8_26 dX8_goesOn_15 ?_
    refine g_iload_n 1 dX8_goesOn_18 rfl ?_
    refine g_iald sh_103 no_103 dX8_goesOn_19 (fun _ => ?_)
    refine g_icmp_ge 59 dX8_goesOn_20 rfl (fun _ => ?_) (fun _ => ?_)
    · refine g_sub [] rfl ?_
      exact hk59 σ
    · refine g_aload_n 0 dX8_goesOn_23 rfl ?_
      refine g_iload_n 1 dX8_goesOn_24 rfl ?_
      refine g_callVI (c_X8_here σ x1) okX8_here ⟨by decide, by decide⟩ ml_X8_121 sh_98 no_98 rfl rfl [.int x1] rfl rfl rfl (Nat.le_of_ble_eq_true rfl) dX8_goesOn_25 (fun q1 => ?_)
      refine g_bipush (32 : Int32) dX8_goesOn_28 (by decide) ?_
      refine g_icmp_ne 46 dX8_goesOn_30 rfl (fun _ => ?_) (fun _ => ?_)
      · refine g_aload_n 0 dX8_goesOn_46 rfl ?_
        refine g_iload_n 1 dX8_goesOn_47 rfl ?_
        refine g_callVI (c_X8_readsLaw q1.1 x1) okX8_readsLaw ⟨by decide, by decide⟩ ml_X8_133 sh_98 no_98 rfl rfl [.int x1] rfl rfl rfl (Nat.le_of_ble_eq_true rfl) dX8_goesOn_48 (fun q2 => ?_)
        refine g_if_ne 10 dX8_goesOn_51 rfl (fun _ => ?_) (fun _ => ?_)
        · refine g_sub [0, 1] rfl ?_
          exact ih q2.1
        · refine g_sub [0] rfl ?_
          exact hk54 q2.1
      · refine g_aload_n 0 dX8_goesOn_33 rfl ?_
        refine g_dup dX8_goesOn_34 rfl ?_
        refine gf_X8_12 fl_X8_118 dX8_goesOn_35 ?_
        refine g_iconst (1 : Int32) dX8_goesOn_38 (by decide) ?_
        refine g_iadd dX8_goesOn_39 ?_
        refine pf_X8_12 fl_X8_118 dX8_goesOn_40 ?_
        refine g_goto 10 dX8_goesOn_43 rfl ?_
        refine g_sub [0, 1] rfl ?_
        exact ih ((uI q1.1 812 0 0 (((q1.1.1 812 0 0) + (1 : Int32)))))

set_option maxRecDepth 100000 in
set_option maxHeartbeats 4000000 in
theorem c_X8_goesOn (σ : Mem) (a1 : Int32) : CT yX8_goesOn mX8_goesOn enI (fun ad => [.ref (ad (98)), .int a1]) σ (X8_goesOn σ a1) := by
  refine CT.of (by decide) rfl (fun _ => Nat.le_of_ble_eq_true rfl) (fun X => ?_)
  show GS (KM enI X) X mX8_goesOn σ 0 [(0, .ref (xad X (98))), (1, .int a1)] [] _
  unfold X8_goesOn
  refine g_aload_n 0 dX8_goesOn_0 rfl ?_
  refine g_iconst (0 : Int32) dX8_goesOn_1 (by decide) ?_
  refine pf_X8_12 fl_X8_118 dX8_goesOn_2 ?_
  refine g_aload_n 0 dX8_goesOn_5 rfl ?_
  refine g_iconst (0 : Int32) dX8_goesOn_6 (by decide) ?_
  refine pf_X8_13 fl_X8_127 dX8_goesOn_7 ?_
  refine g_sub [0, 1] rfl ?_
  refine t_X8_goesOn_L10 X a1 _ _ (fun s4 => ?_) (fun s6 => ?_) FU ((uI ((uI σ 812 0 0 (0 : Int32))) 813 0 0 (0 : Int32)))
  · refine g_aload_n 0 dX8_goesOn_54 rfl ?_
    refine gf_X8_12 fl_X8_118 dX8_goesOn_55 ?_
    exact g_iret rfl dX8_goesOn_58
  · refine g_bipush (-9 : Int32) dX8_goesOn_59 (by decide) ?_
    exact g_iret rfl dX8_goesOn_61

def X8_fault (σ : Mem) (a1 : Int32) : Option (Mem × Int32) := ((X8_askedText σ a1).bind fun q1 => if 0 ≤ q1.2 then ((X8_goesOn q1.1 a1).bind fun q2 => some (q2.1, q2.2)) else ((some (q1.1, q1.2))))
set_option maxRecDepth 100000 in
set_option maxHeartbeats 4000000 in
theorem c_X8_fault (σ : Mem) (a1 : Int32) : CT yX8_fault mX8_fault enI (fun ad => [.ref (ad (98)), .int a1]) σ (X8_fault σ a1) := by
  refine CT.of (by decide) rfl (fun _ => Nat.le_of_ble_eq_true rfl) (fun X => ?_)
  show GS (KM enI X) X mX8_fault σ 0 [(0, .ref (xad X (98))), (1, .int a1)] [] _
  unfold X8_fault
  refine g_aload_n 0 dX8_fault_0 rfl ?_
  refine g_iload_n 1 dX8_fault_1 rfl ?_
  refine g_callVI (c_X8_askedText σ a1) okX8_askedText ⟨by decide, by decide⟩ ml_X8_115 sh_98 no_98 rfl rfl [.int a1] rfl rfl rfl (Nat.le_of_ble_eq_true rfl) dX8_fault_2 (fun q1 => ?_)
  refine g_istore_n [(2, .int (q1.2)), (0, .ref (xad X (98))), (1, .int a1)] dX8_fault_5 (by decide) rfl ?_
  refine g_iload_n 0 dX8_fault_6 rfl ?_
  refine g_if_ge 14 dX8_fault_7 rfl (fun _ => ?_) (fun _ => ?_)
  · refine g_aload_n 1 dX8_fault_14 rfl ?_
    refine g_iload_n 2 dX8_fault_15 rfl ?_
    refine g_callVI (c_X8_goesOn q1.1 a1) okX8_goesOn ⟨by decide, by decide⟩ ml_X8_136 sh_98 no_98 rfl rfl [.int a1] rfl rfl rfl (Nat.le_of_ble_eq_true rfl) dX8_fault_16 (fun q2 => ?_)
    exact g_iret rfl dX8_fault_19
  · refine g_iload_n 0 dX8_fault_10 rfl ?_
    refine g_goto 19 dX8_fault_11 rfl ?_
    exact g_iret rfl dX8_fault_19

def X8_press_L35 (k74 : Mem → Option (Mem × Int32)) : Nat → Mem → Int32 → Option (Mem × Int32)
  | 0, _, _ => none
  | n + 1, σ, x3 => (if ((5 : Int32) * (σ.1 810 0 0)) ≤ x3 then k74 σ else (if (5 : Int32) = 0 then none else if (x3 - x3 / (5 : Int32) * (5 : Int32)) = (4 : Int32) then ((ck x3 40 <| X8_press_L35 k74 n ((uI σ 811 0 x3.toNatClampNeg (0 : Int32))) ((x3 + (1 : Int32))))) else (ck x3 40 <| ck x3 40 <| X8_press_L35 k74 n ((uI σ 811 0 x3.toNatClampNeg (σ.1 814 0 x3.toNatClampNeg))) ((x3 + (1 : Int32))))))
def X8_press_L81 (k100 : Mem → Option (Mem × Int32)) : Nat → Mem → Int32 → Option (Mem × Int32)
  | 0, _, _ => none
  | n + 1, σ, x3 => (if (6 : Int32) ≤ x3 then k100 σ else (ck x3 6 <| X8_press_L81 k100 n ((uI σ 827 0 x3.toNatClampNeg (0 : Int32))) ((x3 + (1 : Int32)))))
def X8_press_L102 (k125 : Mem → Option (Mem × Int32)) : Nat → Mem → Int32 → Option (Mem × Int32)
  | 0, _, _ => none
  | n + 1, σ, x3 => (if (3 : Int32) ≤ x3 then k125 σ else (ck ((727 : Int32) * x3) 2181 <| X8_press_L102 k125 n ((uI σ 829 0 ((727 : Int32) * x3).toNatClampNeg (-9 : Int32))) ((x3 + (1 : Int32)))))
def X8_press (σ : Mem) (a1 : Int32) : Option (Mem × Int32) := ((X8_askedText σ a1).bind fun q1 => if 0 ≤ q1.2 then ((X8_goesOn q1.1 a1).bind fun q2 => if q2.2 = (-9 : Int32) then (X8_press_L35 (fun (s6 : Mem) => (X8_press_L81 (fun (s9 : Mem) => (X8_press_L102 (fun (s12 : Mem) => (some (s12, (s12.1 810 0 0)))) FU s9 (0 : Int32))) FU ((uI s6 826 0 0 (0 : Int32))) (0 : Int32))) FU ((uI q2.1 810 0 0 ((q2.1.1 813 0 0)))) (0 : Int32)) else (some (q2.1, (-4 : Int32)))) else (some (q1.1, q1.2)))
set_option maxRecDepth 100000 in
set_option maxHeartbeats 4000000 in
theorem t_X8_press_L35 (X : GX) (k74 : Mem → Option (Mem × Int32)) (hk74 : ∀ (σ : Mem), GS (KM enI X) X mX8_press σ 74 [(0, .ref (xad X (98)))] [] (k74 σ)) : ∀ (n : Nat) (σ : Mem) (x3 : Int32), GS (KM enI X) X mX8_press σ 35 [(0, .ref (xad X (98))), (3, .int x3)] [] (X8_press_L35 k74 n σ x3) := by
  intro n
  induction n with
  | zero => intros; exact g_none
  | succ n ih =>
    intro σ x3
    rw [X8_press_L35]
    refine g_iload_n 1 dX8_press_35 rfl ?_
    refine g_iconst (5 : Int32) dX8_press_36 (by decide) ?_
    refine g_aload_n 0 dX8_press_37 rfl ?_
    refine gf_X8_10 fl_X8_139 dX8_press_38 ?_
    refine g_imul dX8_press_41 ?_
    refine g_icmp_ge 74 dX8_press_42 rfl (fun _ => ?_) (fun _ => ?_)
    · refine g_sub [0] rfl ?_
      exact hk74 σ
    · refine g_aload_n 0 dX8_press_45 rfl ?_
      refine gf_X8_11 fl_X8_32 dX8_press_46 ?_
      refine g_iload_n 1 dX8_press_49 rfl ?_
      refine g_iload_n 1 dX8_press_50 rfl ?_
      refine g_iconst (5 : Int32) dX8_press_51 (by decide) ?_
      refine g_irem dX8_press_52 (fun _ => ?_)
      refine g_iconst (4 : Int32) dX8_press_53 (by decide) ?_
      refine g_icmp_ne 61 dX8_press_54 rfl (fun _ => ?_) (fun _ => ?_)
      · refine g_aload_n 0 dX8_press_61 rfl ?_
        refine gf_X8_14 fl_X8_35 dX8_press_62 ?_
        refine g_iload_n 1 dX8_press_65 rfl ?_
        refine g_iald sh_106 no_106 dX8_press_66 (fun _ => ?_)
        refine g_iast sh_105 no_105 dX8_press_67 (fun _ => ?_)
        refine g_iinc 1 [(3, .int ((x3 + (1 : Int32)))), (0, .ref (xad X (98)))] dX8_press_68 rfl (v := x3 + (1 : Int32)) rfl (by decide) rfl ?_
        refine g_goto 35 dX8_press_71 rfl ?_
        refine g_sub [1, 0] rfl ?_
        exact ih ((uI σ 811 0 x3.toNatClampNeg (σ.1 814 0 x3.toNatClampNeg))) ((x3 + (1 : Int32)))
      · refine g_iconst (0 : Int32) dX8_press_57 (by decide) ?_
        refine g_goto 67 dX8_press_58 rfl ?_
        refine g_iast sh_105 no_105 dX8_press_67 (fun _ => ?_)
        refine g_iinc 1 [(3, .int ((x3 + (1 : Int32)))), (0, .ref (xad X (98)))] dX8_press_68 rfl (v := x3 + (1 : Int32)) rfl (by decide) rfl ?_
        refine g_goto 35 dX8_press_71 rfl ?_
        refine g_sub [1, 0] rfl ?_
        exact ih ((uI σ 811 0 x3.toNatClampNeg (0 : Int32))) ((x3 + (1 : Int32)))

set_option maxRecDepth 100000 in
set_option maxHeartbeats 4000000 in
theorem t_X8_press_L81 (X : GX) (k100 : Mem → Option (Mem × Int32)) (hk100 : ∀ (σ : Mem), GS (KM enI X) X mX8_press σ 100 [(0, .ref (xad X (98)))] [] (k100 σ)) : ∀ (n : Nat) (σ : Mem) (x3 : Int32), GS (KM enI X) X mX8_press σ 81 [(0, .ref (xad X (98))), (3, .int x3)] [] (X8_press_L81 k100 n σ x3) := by
  intro n
  induction n with
  | zero => intros; exact g_none
  | succ n ih =>
    intro σ x3
    rw [X8_press_L81]
    refine g_iload_n 1 dX8_press_81 rfl ?_
    refine g_bipush (6 : Int32) dX8_press_82 (by decide) ?_
    refine g_icmp_ge 100 dX8_press_84 rfl (fun _ => ?_) (fun _ => ?_)
    · refine g_sub [0] rfl ?_
      exact hk100 σ
    · refine g_aload_n 0 dX8_press_87 rfl ?_
      refine gf_X8_27 fl_X8_64 dX8_press_88 ?_
      refine g_iload_n 1 dX8_press_91 rfl ?_
      refine g_iconst (0 : Int32) dX8_press_92 (by decide) ?_
      refine g_iast sh_115 no_115 dX8_press_93 (fun _ => ?_)
      refine g_iinc 1 [(3, .int ((x3 + (1 : Int32)))), (0, .ref (xad X (98)))] dX8_press_94 rfl (v := x3 + (1 : Int32)) rfl (by decide) rfl ?_
      refine g_goto 81 dX8_press_97 rfl ?_
      refine g_sub [1, 0] rfl ?_
      exact ih ((uI σ 827 0 x3.toNatClampNeg (0 : Int32))) ((x3 + (1 : Int32)))

set_option maxRecDepth 100000 in
set_option maxHeartbeats 4000000 in
theorem t_X8_press_L102 (X : GX) (k125 : Mem → Option (Mem × Int32)) (hk125 : ∀ (σ : Mem), GS (KM enI X) X mX8_press σ 125 [(0, .ref (xad X (98)))] [] (k125 σ)) : ∀ (n : Nat) (σ : Mem) (x3 : Int32), GS (KM enI X) X mX8_press σ 102 [(0, .ref (xad X (98))), (3, .int x3)] [] (X8_press_L102 k125 n σ x3) := by
  intro n
  induction n with
  | zero => intros; exact g_none
  | succ n ih =>
    intro σ x3
    rw [X8_press_L102]
    refine g_iload_n 1 dX8_press_102 rfl ?_
    refine g_iconst (3 : Int32) dX8_press_103 (by decide) ?_
    refine g_icmp_ge 125 dX8_press_104 rfl (fun _ => ?_) (fun _ => ?_)
    · refine g_sub [0] rfl ?_
      exact hk125 σ
    · refine g_aload_n 0 dX8_press_107 rfl ?_
      refine gf_X8_29 fl_X8_70 dX8_press_108 ?_
      refine g_sipush (727 : Int32) dX8_press_111 (by decide) ?_
      refine g_iload_n 1 dX8_press_114 rfl ?_
      refine g_imul dX8_press_115 ?_
      refine g_bipush (-9 : Int32) dX8_press_116 (by decide) ?_
      refine g_iast sh_117 no_117 dX8_press_118 (fun _ => ?_)
      refine g_iinc 1 [(3, .int ((x3 + (1 : Int32)))), (0, .ref (xad X (98)))] dX8_press_119 rfl (v := x3 + (1 : Int32)) rfl (by decide) rfl ?_
      refine g_goto 102 dX8_press_122 rfl ?_
      refine g_sub [1, 0] rfl ?_
      exact ih ((uI σ 829 0 ((727 : Int32) * x3).toNatClampNeg (-9 : Int32))) ((x3 + (1 : Int32)))

set_option maxRecDepth 100000 in
set_option maxHeartbeats 4000000 in
theorem c_X8_press (σ : Mem) (a1 : Int32) : CT yX8_press mX8_press enI (fun ad => [.ref (ad (98)), .int a1]) σ (X8_press σ a1) := by
  refine CT.of (by decide) rfl (fun _ => Nat.le_of_ble_eq_true rfl) (fun X => ?_)
  show GS (KM enI X) X mX8_press σ 0 [(0, .ref (xad X (98))), (1, .int a1)] [] _
  unfold X8_press
  refine g_aload_n 0 dX8_press_0 rfl ?_
  refine g_iload_n 1 dX8_press_1 rfl ?_
  refine g_callVI (c_X8_askedText σ a1) okX8_askedText ⟨by decide, by decide⟩ ml_X8_115 sh_98 no_98 rfl rfl [.int a1] rfl rfl rfl (Nat.le_of_ble_eq_true rfl) dX8_press_2 (fun q1 => ?_)
  refine g_istore_n [(2, .int (q1.2)), (0, .ref (xad X (98))), (1, .int a1)] dX8_press_5 (by decide) rfl ?_
  refine g_iload_n 0 dX8_press_6 rfl ?_
  refine g_if_ge 12 dX8_press_7 rfl (fun _ => ?_) (fun _ => ?_)
  · refine g_aload_n 1 dX8_press_12 rfl ?_
    refine g_iload_n 2 dX8_press_13 rfl ?_
    refine g_callVI (c_X8_goesOn q1.1 a1) okX8_goesOn ⟨by decide, by decide⟩ ml_X8_136 sh_98 no_98 rfl rfl [.int a1] rfl rfl rfl (Nat.le_of_ble_eq_true rfl) dX8_press_14 (fun q2 => ?_)
    refine g_bipush (-9 : Int32) dX8_press_17 (by decide) ?_
    refine g_icmp_eq 25 dX8_press_19 rfl (fun _ => ?_) (fun _ => ?_)
    · refine g_aload_n 1 dX8_press_25 rfl ?_
      refine g_aload_n 1 dX8_press_26 rfl ?_
      refine gf_X8_13 fl_X8_127 dX8_press_27 ?_
      refine pf_X8_10 fl_X8_139 dX8_press_30 ?_
      refine g_iconst (0 : Int32) dX8_press_33 (by decide) ?_
      refine g_istore_n [(3, .int ((0 : Int32))), (2, .int (q1.2)), (0, .ref (xad X (98))), (1, .int a1)] dX8_press_34 (by decide) rfl ?_
      refine g_sub [2, 0] rfl ?_
      refine t_X8_press_L35 X _ (fun s6 => ?_) FU ((uI q2.1 810 0 0 ((q2.1.1 813 0 0)))) (0 : Int32)
      refine g_aload_n 0 dX8_press_74 rfl ?_
      refine g_iconst (0 : Int32) dX8_press_75 (by decide) ?_
      refine pf_X8_26 fl_X8_142 dX8_press_76 ?_
      refine g_iconst (0 : Int32) dX8_press_79 (by decide) ?_
      refine g_istore_n [(3, .int ((0 : Int32))), (0, .ref (xad X (98)))] dX8_press_80 (by decide) rfl ?_
      refine g_sub [1, 0] rfl ?_
      refine t_X8_press_L81 X _ (fun s9 => ?_) FU ((uI s6 826 0 0 (0 : Int32))) (0 : Int32)
      refine g_iconst (0 : Int32) dX8_press_100 (by decide) ?_
      refine g_istore_n [(3, .int ((0 : Int32))), (0, .ref (xad X (98)))] dX8_press_101 (by decide) rfl ?_
      refine g_sub [1, 0] rfl ?_
      refine t_X8_press_L102 X _ (fun s12 => ?_) FU s9 (0 : Int32)
      refine g_aload_n 0 dX8_press_125 rfl ?_
      refine gf_X8_10 fl_X8_139 dX8_press_126 ?_
      exact g_iret rfl dX8_press_129
    · refine g_bipush (-4 : Int32) dX8_press_22 (by decide) ?_
      exact g_iret rfl dX8_press_24
  · refine g_iload_n 0 dX8_press_10 rfl ?_
    exact g_iret rfl dX8_press_11

def X8_isLaw (σ : Mem) (a1 : Int32) : Option (Mem × Int32) := ((X8_in σ a1 (0 : Int32) (((σ.1 810 0 0) - (1 : Int32)))).bind fun q1 => if q1.2 = 0 ∨ q1.2 = 1 then some (q1.1, q1.2) else none)
set_option maxRecDepth 100000 in
set_option maxHeartbeats 4000000 in
theorem c_X8_isLaw (σ : Mem) (a1 : Int32) : CT yX8_isLaw mX8_isLaw enI (fun ad => [.ref (ad (98)), .int a1]) σ (X8_isLaw σ a1) := by
  refine CT.of (by decide) rfl (fun _ => Nat.le_of_ble_eq_true rfl) (fun X => ?_)
  show GS (KM enI X) X mX8_isLaw σ 0 [(0, .ref (xad X (98))), (1, .int a1)] [] _
  unfold X8_isLaw
  refine g_iload_n 1 dX8_isLaw_0 rfl ?_
  refine g_iconst (0 : Int32) dX8_isLaw_1 (by decide) ?_
  refine g_aload_n 0 dX8_isLaw_2 rfl ?_
  refine gf_X8_10 fl_X8_139 dX8_isLaw_3 ?_
  refine g_iconst (1 : Int32) dX8_isLaw_6 (by decide) ?_
  refine g_isub dX8_isLaw_7 ?_
  refine g_callSI (c_X8_in σ a1 (0 : Int32) (((σ.1 810 0 0) - (1 : Int32)))) okX8_in ⟨by decide, by decide⟩ ml_X8_83 rfl rfl (Nat.le_of_ble_eq_true rfl) dX8_isLaw_8 (fun q1 => ?_)
  exact g_zret rfl dX8_isLaw_11

def X8_isSign (σ : Mem) (a0 : Int32) : Option (Mem × Int32) := ((X8_in σ a0 (0 : Int32) (5 : Int32)).bind fun q1 => if q1.2 = 0 ∨ q1.2 = 1 then some (q1.1, q1.2) else none)
set_option maxRecDepth 100000 in
set_option maxHeartbeats 4000000 in
theorem c_X8_isSign (σ : Mem) (a0 : Int32) : CT yX8_isSign mX8_isSign enI (fun ad => [.int a0]) σ (X8_isSign σ a0) := by
  refine CT.of (by decide) rfl (fun _ => Nat.le_of_ble_eq_true rfl) (fun X => ?_)
  show GS (KM enI X) X mX8_isSign σ 0 [(0, .int a0)] [] _
  unfold X8_isSign
  refine g_iload_n 0 dX8_isSign_0 rfl ?_
  refine g_iconst (0 : Int32) dX8_isSign_1 (by decide) ?_
  refine g_iconst (5 : Int32) dX8_isSign_2 (by decide) ?_
  refine g_callSI (c_X8_in σ a0 (0 : Int32) (5 : Int32)) okX8_in ⟨by decide, by decide⟩ ml_X8_83 rfl rfl (Nat.le_of_ble_eq_true rfl) dX8_isSign_3 (fun q1 => ?_)
  exact g_zret rfl dX8_isSign_6

def X8_lawOf (σ : Mem) (a1 : Int32) (a2 : Int32) : Option (Mem × Int32) := (if a2 = (4 : Int32) then (ck (((5 : Int32) * a1) + (4 : Int32)) 40 <| (some (σ, ((1 : Int32) - (σ.1 811 0 (((5 : Int32) * a1) + (4 : Int32)).toNatClampNeg))))) else (ck (((5 : Int32) * a1) + a2) 40 <| some (σ, (σ.1 811 0 (((5 : Int32) * a1) + a2).toNatClampNeg))))
set_option maxRecDepth 100000 in
set_option maxHeartbeats 4000000 in
theorem c_X8_lawOf (σ : Mem) (a1 : Int32) (a2 : Int32) : CT yX8_lawOf mX8_lawOf enI (fun ad => [.ref (ad (98)), .int a1, .int a2]) σ (X8_lawOf σ a1 a2) := by
  refine CT.of (by decide) rfl (fun _ => Nat.le_of_ble_eq_true rfl) (fun X => ?_)
  show GS (KM enI X) X mX8_lawOf σ 0 [(0, .ref (xad X (98))), (1, .int a1), (2, .int a2)] [] _
  unfold X8_lawOf
  refine g_iload_n 2 dX8_lawOf_0 rfl ?_
  refine g_iconst (4 : Int32) dX8_lawOf_1 (by decide) ?_
  refine g_icmp_ne 20 dX8_lawOf_2 rfl (fun _ => ?_) (fun _ => ?_)
  · refine g_aload_n 0 dX8_lawOf_20 rfl ?_
    refine gf_X8_11 fl_X8_32 dX8_lawOf_21 ?_
    refine g_iconst (5 : Int32) dX8_lawOf_24 (by decide) ?_
    refine g_iload_n 1 dX8_lawOf_25 rfl ?_
    refine g_imul dX8_lawOf_26 ?_
    refine g_iload_n 2 dX8_lawOf_27 rfl ?_
    refine g_iadd dX8_lawOf_28 ?_
    refine g_iald sh_105 no_105 dX8_lawOf_29 (fun _ => ?_)
    exact g_iret rfl dX8_lawOf_30
  · refine g_iconst (1 : Int32) dX8_lawOf_5 (by decide) ?_
    refine g_aload_n 0 dX8_lawOf_6 rfl ?_
    refine gf_X8_11 fl_X8_32 dX8_lawOf_7 ?_
    refine g_iconst (5 : Int32) dX8_lawOf_10 (by decide) ?_
    refine g_iload_n 1 dX8_lawOf_11 rfl ?_
    refine g_imul dX8_lawOf_12 ?_
    refine g_iconst (4 : Int32) dX8_lawOf_13 (by decide) ?_
    refine g_iadd dX8_lawOf_14 ?_
    refine g_iald sh_105 no_105 dX8_lawOf_15 (fun _ => ?_)
    refine g_isub dX8_lawOf_16 ?_
    refine g_goto 30 dX8_lawOf_17 rfl ?_
    exact g_iret rfl dX8_lawOf_30

def X8_law (σ : Mem) (a1 : Int32) (a2 : Int32) : Option (Mem × Int32) := ((X8_isLaw σ a1).bind fun q1 => if q1.2 = 0 then (some (q1.1, (-1 : Int32))) else ((X8_in q1.1 a2 (0 : Int32) (4 : Int32)).bind fun q2 => if q2.2 = 0 then (some (q2.1, (-1 : Int32))) else ((X8_lawOf q2.1 a1 a2).bind fun q3 => (X8_ask q3.1 q3.2 (1 : Int32)).bind fun q4 => (some (q4.1, q4.2)))))
set_option maxRecDepth 100000 in
set_option maxHeartbeats 4000000 in
theorem c_X8_law (σ : Mem) (a1 : Int32) (a2 : Int32) : CT yX8_law mX8_law enI (fun ad => [.ref (ad (98)), .int a1, .int a2]) σ (X8_law σ a1 a2) := by
  refine CT.of (by decide) rfl (fun _ => Nat.le_of_ble_eq_true rfl) (fun X => ?_)
  show GS (KM enI X) X mX8_law σ 0 [(0, .ref (xad X (98))), (1, .int a1), (2, .int a2)] [] _
  unfold X8_law
  refine g_aload_n 0 dX8_law_0 rfl ?_
  refine g_iload_n 1 dX8_law_1 rfl ?_
  refine g_callVI (c_X8_isLaw σ a1) okX8_isLaw ⟨by decide, by decide⟩ ml_X8_145 sh_98 no_98 rfl rfl [.int a1] rfl rfl rfl (Nat.le_of_ble_eq_true rfl) dX8_law_2 (fun q1 => ?_)
  refine g_if_eq 31 dX8_law_5 rfl (fun _ => ?_) (fun _ => ?_)
  · refine g_iconst (-1 : Int32) dX8_law_31 (by decide) ?_
    exact g_iret rfl dX8_law_32
  · refine g_iload_n 2 dX8_law_8 rfl ?_
    refine g_iconst (0 : Int32) dX8_law_9 (by decide) ?_
    refine g_iconst (4 : Int32) dX8_law_10 (by decide) ?_
    refine g_callSI (c_X8_in q1.1 a2 (0 : Int32) (4 : Int32)) okX8_in ⟨by decide, by decide⟩ ml_X8_83 rfl rfl (Nat.le_of_ble_eq_true rfl) dX8_law_11 (fun q2 => ?_)
    refine g_if_eq 31 dX8_law_14 rfl (fun _ => ?_) (fun _ => ?_)
    · refine g_iconst (-1 : Int32) dX8_law_31 (by decide) ?_
      exact g_iret rfl dX8_law_32
    · refine g_aload_n 0 dX8_law_17 rfl ?_
      refine g_aload_n 0 dX8_law_18 rfl ?_
      refine g_iload_n 1 dX8_law_19 rfl ?_
      refine g_iload_n 2 dX8_law_20 rfl ?_
      refine g_callVI (c_X8_lawOf q2.1 a1 a2) okX8_lawOf ⟨by decide, by decide⟩ ml_X8_148 sh_98 no_98 rfl rfl [.int a1, .int a2] rfl rfl rfl (Nat.le_of_ble_eq_true rfl) dX8_law_21 (fun q3 => ?_)
      refine g_iconst (1 : Int32) dX8_law_24 (by decide) ?_
      refine g_callVI (c_X8_ask q3.1 q3.2 (1 : Int32)) okX8_ask ⟨by decide, by decide⟩ ml_X8_109 sh_98 no_98 rfl rfl [.int (q3.2), .int ((1 : Int32))] rfl rfl rfl (Nat.le_of_ble_eq_true rfl) dX8_law_25 (fun q4 => ?_)
      refine g_goto 32 dX8_law_28 rfl ?_
      exact g_iret rfl dX8_law_32

def X8_onSet_L4 (k41 : Mem → Int32 → Option (Mem × Int32)) : Nat → Mem → Int32 → Int32 → Option (Mem × Int32)
  | 0, _, _, _ => none
  | n + 1, σ, x1, x2 => (if (σ.1 810 0 0) ≤ x2 then k41 σ x1 else (ck (((5 : Int32) * x2) + (4 : Int32)) 40 <| if (σ.1 811 0 (((5 : Int32) * x2) + (4 : Int32)).toNatClampNeg) = 0 then ((lt_ ((x1 ||| ((1 : Int32) <<< (x2 &&& 31)))) fun (v3 : Int32) => X8_onSet_L4 k41 n σ v3 ((x2 + (1 : Int32))))) else (lt_ ((x1 ||| (0 : Int32))) fun (v1 : Int32) => X8_onSet_L4 k41 n σ v1 ((x2 + (1 : Int32))))))
def X8_onSet (σ : Mem) : Option (Mem × Int32) := (X8_onSet_L4 (fun (s6 : Mem) (y1_5 : Int32) => (some (s6, y1_5))) FU σ (0 : Int32) (0 : Int32))
set_option maxRecDepth 100000 in
set_option maxHeartbeats 4000000 in
theorem t_X8_onSet_L4 (X : GX) (k41 : Mem → Int32 → Option (Mem × Int32)) (hk41 : ∀ (σ : Mem) (y1 : Int32), GS (KM enI X) X mX8_onSet σ 41 [(1, .int y1)] [] (k41 σ y1)) : ∀ (n : Nat) (σ : Mem) (x1 : Int32) (x2 : Int32), GS (KM enI X) X mX8_onSet σ 4 [(0, .ref (xad X (98))), (1, .int x1), (2, .int x2)] [] (X8_onSet_L4 k41 n σ x1 x2) := by
  intro n
  induction n with
  | zero => intros; exact g_none
  | succ n ih =>
    intro σ x1 x2
    rw [X8_onSet_L4]
    refine g_iload_n 2 dX8_onSet_4 rfl ?_
    refine g_aload_n 0 dX8_onSet_5 rfl ?_
    refine gf_X8_10 fl_X8_139 dX8_onSet_6 ?_
    refine g_icmp_ge 41 dX8_onSet_9 rfl (fun _ => ?_) (fun _ => ?_)
    · refine g_sub [1] rfl ?_
      exact hk41 σ x1
    · refine g_iload_n 1 dX8_onSet_12 rfl ?_
      refine g_aload_n 0 dX8_onSet_13 rfl ?_
      refine gf_X8_11 fl_X8_32 dX8_onSet_14 ?_
      refine g_iconst (5 : Int32) dX8_onSet_17 (by decide) ?_
      refine g_iload_n 2 dX8_onSet_18 rfl ?_
      refine g_imul dX8_onSet_19 ?_
      refine g_iconst (4 : Int32) dX8_onSet_20 (by decide) ?_
      refine g_iadd dX8_onSet_21 ?_
      refine g_iald sh_105 no_105 dX8_onSet_22 (fun _ => ?_)
      refine g_if_ne 32 dX8_onSet_23 rfl (fun _ => ?_) (fun _ => ?_)
      · refine g_iconst (0 : Int32) dX8_onSet_32 (by decide) ?_
        refine g_ior dX8_onSet_33 ?_
        refine g_topi (fun v1 => ?_)
        refine g_istore_n [(1, .int v1), (0, .ref (xad X (98))), (2, .int x2)] dX8_onSet_34 (by decide) rfl ?_
        refine g_iinc 2 [(2, .int ((x2 + (1 : Int32)))), (1, .int v1), (0, .ref (xad X (98)))] dX8_onSet_35 rfl (v := x2 + (1 : Int32)) rfl (by decide) rfl ?_
        refine g_goto 4 dX8_onSet_38 rfl ?_
        refine g_sub [2, 1, 0] rfl ?_
        exact ih σ v1 ((x2 + (1 : Int32)))
      · refine g_iconst (1 : Int32) dX8_onSet_26 (by decide) ?_
        refine g_iload_n 2 dX8_onSet_27 rfl ?_
        refine g_ishl dX8_onSet_28 ?_
        refine g_goto 33 dX8_onSet_29 rfl ?_
        refine g_ior dX8_onSet_33 ?_
        refine g_topi (fun v3 => ?_)
        refine g_istore_n [(1, .int v3), (0, .ref (xad X (98))), (2, .int x2)] dX8_onSet_34 (by decide) rfl ?_
        refine g_iinc 2 [(2, .int ((x2 + (1 : Int32)))), (1, .int v3), (0, .ref (xad X (98)))] dX8_onSet_35 rfl (v := x2 + (1 : Int32)) rfl (by decide) rfl ?_
        refine g_goto 4 dX8_onSet_38 rfl ?_
        refine g_sub [2, 1, 0] rfl ?_
        exact ih σ v3 ((x2 + (1 : Int32)))

set_option maxRecDepth 100000 in
set_option maxHeartbeats 4000000 in
theorem c_X8_onSet (σ : Mem) : CT yX8_onSet mX8_onSet enI (fun ad => [.ref (ad (98))]) σ (X8_onSet σ) := by
  refine CT.of (by decide) rfl (fun _ => Nat.le_of_ble_eq_true rfl) (fun X => ?_)
  show GS (KM enI X) X mX8_onSet σ 0 [(0, .ref (xad X (98)))] [] _
  unfold X8_onSet
  refine g_iconst (0 : Int32) dX8_onSet_0 (by decide) ?_
  refine g_istore_n [(1, .int ((0 : Int32))), (0, .ref (xad X (98)))] dX8_onSet_1 (by decide) rfl ?_
  refine g_iconst (0 : Int32) dX8_onSet_2 (by decide) ?_
  refine g_istore_n [(2, .int ((0 : Int32))), (1, .int ((0 : Int32))), (0, .ref (xad X (98)))] dX8_onSet_3 (by decide) rfl ?_
  refine g_sub [2, 1, 0] rfl ?_
  refine t_X8_onSet_L4 X _ (fun s6 y1_5 => ?_) FU σ (0 : Int32) (0 : Int32)
  refine g_iload_n 0 dX8_onSet_41 rfl ?_
  exact g_iret rfl dX8_onSet_42

