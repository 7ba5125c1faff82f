def X8_tells_J151 (σ : Mem) (x1 : Int32) (x3 : Int32) (x4 : Int32) (z0 : Int32) (kb : Mem → Int32 → Int32 → Int32 → Option (Mem × Int32)) (k192 : Mem → Int32 → Int32 → Option (Mem × Int32)) : Option (Mem × Int32) := (if x1 = (8 : Int32) then (if (3 : Int32) ≤ x4 then (lt_ ((z0 + (0 : Int32))) fun (v6 : Int32) => kb σ v6 x3 ((x4 + (1 : Int32)))) else (ck ((727 : Int32) * x4) 2181 <| if (σ.1 829 0 ((727 : Int32) * x4).toNatClampNeg) = (-9 : Int32) then (lt_ ((z0 + (0 : Int32))) fun (v8 : Int32) => kb σ v8 x3 ((x4 + (1 : Int32)))) else ((lt_ ((z0 + (1 : Int32))) fun (v10 : Int32) => kb σ v10 x3 ((x4 + (1 : Int32))))))) else (lt_ ((z0 + (0 : Int32))) fun (v4 : Int32) => kb σ v4 x3 ((x4 + (1 : Int32)))))
def X8_tells_J129 (σ : Mem) (x1 : Int32) (x3 : Int32) (x4 : Int32) (z0 : Int32) (kb : Mem → Int32 → Int32 → Int32 → Option (Mem × Int32)) (k192 : Mem → Int32 → Int32 → Option (Mem × Int32)) : Option (Mem × Int32) := (if x1 = (7 : Int32) then (if (4 : Int32) ≤ x4 then X8_tells_J151 σ x1 x3 x4 z0 (kb) k192 else (ck x4 4 <| if 0 ≤ (σ.1 808 0 x4.toNatClampNeg) then ((lt_ ((z0 + (1 : Int32))) fun (v12 : Int32) => kb σ v12 x3 ((x4 + (1 : Int32))))) else X8_tells_J151 σ x1 x3 x4 z0 (kb) k192)) else X8_tells_J151 σ x1 x3 x4 z0 (kb) k192)
def X8_tells_J98 (σ : Mem) (x1 : Int32) (x2 : Int32) (x3 : Int32) (x4 : Int32) (z0 : Int32) (kb : Mem → Int32 → Int32 → Int32 → Option (Mem × Int32)) (k192 : Mem → Int32 → Int32 → Option (Mem × Int32)) : Option (Mem × Int32) := (if z0 = 0 then (if x1 = (6 : Int32) then (if (6 : Int32) ≤ x4 then X8_tells_J129 σ x1 x3 x4 x2 (kb) k192 else (ck x4 6 <| if 0 ≤ (σ.1 805 0 x4.toNatClampNeg) then ((lt_ ((x2 + (1 : Int32))) fun (v14 : Int32) => kb σ v14 x3 ((x4 + (1 : Int32))))) else X8_tells_J129 σ x1 x3 x4 x2 (kb) k192)) else X8_tells_J129 σ x1 x3 x4 x2 (kb) k192) else ((lt_ ((x2 + (1 : Int32))) fun (v2 : Int32) => kb σ v2 x3 ((x4 + (1 : Int32))))))
def X8_tells_J78 (σ : Mem) (x1 : Int32) (x2 : Int32) (x3 : Int32) (x4 : Int32) (kb : Mem → Int32 → Int32 → Int32 → Option (Mem × Int32)) (k192 : Mem → Int32 → Int32 → Option (Mem × Int32)) : Option (Mem × Int32) := (if x1 = (5 : Int32) then ((X8_isA σ x4 (3 : Int32)).bind fun q16 => if q16.2 = 0 then (X8_tells_J98 q16.1 x1 x2 x3 x4 (0 : Int32) (kb) k192) else (X8_tells_J98 q16.1 x1 x2 x3 x4 (1 : Int32) (kb) k192)) else (X8_tells_J98 σ x1 x2 x3 x4 (0 : Int32) (kb) k192))
def X8_tells_J33 (σ : Mem) (x1 : Int32) (x2 : Int32) (x4 : Int32) (z0 : Int32) (z1 : Int32) (kb : Mem → Int32 → Int32 → Int32 → Option (Mem × Int32)) (k192 : Mem → Int32 → Int32 → Option (Mem × Int32)) : Option (Mem × Int32) := (lt_ ((z1 + z0)) fun (v1 : Int32) => if (σ.1 810 0 0) ≤ x4 then (X8_tells_J98 σ x1 x2 v1 x4 (0 : Int32) (kb) k192) else (if x1 = (1 : Int32) then (ck (((5 : Int32) * x4) + (4 : Int32)) 40 <| if (σ.1 811 0 (((5 : Int32) * x4) + (4 : Int32)).toNatClampNeg) = 0 then (X8_tells_J98 σ x1 x2 v1 x4 (1 : Int32) (kb) k192) else (if x1 = (4 : Int32) then ((X8_isA σ x4 (2 : Int32)).bind fun q18 => if q18.2 = 0 then X8_tells_J78 q18.1 x1 x2 v1 x4 (kb) k192 else (X8_tells_J98 q18.1 x1 x2 v1 x4 (1 : Int32) (kb) k192)) else X8_tells_J78 σ x1 x2 v1 x4 (kb) k192)) else (if x1 = (4 : Int32) then ((X8_isA σ x4 (2 : Int32)).bind fun q17 => if q17.2 = 0 then X8_tells_J78 q17.1 x1 x2 v1 x4 (kb) k192 else (X8_tells_J98 q17.1 x1 x2 v1 x4 (1 : Int32) (kb) k192)) else X8_tells_J78 σ x1 x2 v1 x4 (kb) k192)))
def X8_tells_L7 (x1 : Int32) (k192 : Mem → Int32 → Int32 → Option (Mem × Int32)) : Nat → Mem → Int32 → Int32 → Int32 → Option (Mem × Int32)
  | 0, _, _, _, _ => none
  | n + 1, σ, x2, x3, x4 => (if (8 : Int32) ≤ x4 then k192 σ x2 x3 else (if (6 : Int32) ≤ x4 then (X8_tells_J33 σ x1 x2 x4 (0 : Int32) x3 (X8_tells_L7 x1 k192 n) k192) else (ck x4 6 <| X8_tells_J33 σ x1 x2 x4 ((σ.1 827 0 x4.toNatClampNeg)) x3 (X8_tells_L7 x1 k192 n) k192)))
def X8_tells (σ : Mem) (a1 : Int32) : Option (Mem × Int32) := (X8_tells_L7 a1 (fun (s20 : Mem) (y2_19 : Int32) (y3_19 : Int32) => (if a1 = 0 then ((some (s20, (s20.1 810 0 0)))) else (if a1 = (2 : Int32) then ((some (s20, (s20.1 826 0 0)))) else (if a1 = (3 : Int32) then ((some (s20, y3_19))) else (some (s20, y2_19)))))) FU σ (0 : Int32) (0 : Int32) (0 : Int32))
set_option maxRecDepth 100000 in
set_option maxHeartbeats 4000000 in
theorem t_X8_tells_J151 (X : GX) (σ : Mem) (x1 : Int32) (x3 : Int32) (x4 : Int32) (z0 : Int32) (kb : Mem → Int32 → Int32 → Int32 → Option (Mem × Int32)) (k192 : Mem → Int32 → Int32 → Option (Mem × Int32)) (hkb : ∀ (σ : Mem) (y2 : Int32) (y3 : Int32) (y4 : Int32), GS (KM enI X) X mX8_tells σ 7 [(0, .ref (xad X (98))), (1, .int x1), (2, .int y2), (3, .int y3), (4, .int y4)] [] (kb σ y2 y3 y4)) (hk192 : ∀ (σ : Mem) (y2 : Int32) (y3 : Int32), GS (KM enI X) X mX8_tells σ 192 [(0, .ref (xad X (98))), (1, .int x1), (2, .int y2), (3, .int y3)] [] (k192 σ y2 y3)) : GS (KM enI X) X mX8_tells σ 151 [(0, .ref (xad X (98))), (1, .int x1), (3, .int x3), (4, .int x4)] [.int z0] (X8_tells_J151 σ x1 x3 x4 z0 kb k192) := by
  unfold X8_tells_J151
  refine g_iload_n 1 dX8_tells_151 rfl ?_
  refine g_bipush (8 : Int32) dX8_tells_152 (by decide) ?_
  refine g_icmp_ne 183 dX8_tells_154 rfl (fun _ => ?_) (fun _ => ?_)
  · refine g_iconst (0 : Int32) dX8_tells_183 (by decide) ?_
    refine g_iadd dX8_tells_184 ?_
    refine g_topi (fun v4 => ?_)
    refine g_istore_n [(2, .int v4), (0, .ref (xad X (98))), (1, .int x1), (3, .int x3), (4, .int x4)] dX8_tells_185 (by decide) rfl ?_
    refine g_iinc 4 [(4, .int ((x4 + (1 : Int32)))), (2, .int v4), (0, .ref (xad X (98))), (1, .int x1), (3, .int x3)] dX8_tells_186 rfl (v := x4 + (1 : Int32)) rfl (by decide) rfl ?_
    refine g_goto 7 dX8_tells_189 rfl ?_
    refine g_sub [2, 3, 1, 4, 0] rfl ?_
    exact hkb σ v4 x3 ((x4 + (1 : Int32)))
  · refine g_iload 3 dX8_tells_157 rfl ?_
    refine g_iconst (3 : Int32) dX8_tells_159 (by decide) ?_
    refine g_icmp_ge 183 dX8_tells_160 rfl (fun _ => ?_) (fun _ => ?_)
    · refine g_iconst (0 : Int32) dX8_tells_183 (by decide) ?_
      refine g_iadd dX8_tells_184 ?_
      refine g_topi (fun v6 => ?_)
      refine g_istore_n [(2, .int v6), (0, .ref (xad X (98))), (1, .int x1), (3, .int x3), (4, .int x4)] dX8_tells_185 (by decide) rfl ?_
      refine g_iinc 4 [(4, .int ((x4 + (1 : Int32)))), (2, .int v6), (0, .ref (xad X (98))), (1, .int x1), (3, .int x3)] dX8_tells_186 rfl (v := x4 + (1 : Int32)) rfl (by decide) rfl ?_
      refine g_goto 7 dX8_tells_189 rfl ?_
      refine g_sub [2, 3, 1, 4, 0] rfl ?_
      exact hkb σ v6 x3 ((x4 + (1 : Int32)))
    · refine g_aload_n 0 dX8_tells_163 rfl ?_
      refine gf_X8_29 fl_X8_70 dX8_tells_164 ?_
      refine g_sipush (727 : Int32) dX8_tells_167 (by decide) ?_
      refine g_iload 3 dX8_tells_170 rfl ?_
      refine g_imul dX8_tells_172 ?_
      refine g_iald sh_117 no_117 dX8_tells_173 (fun _ => ?_)
      refine g_bipush (-9 : Int32) dX8_tells_174 (by decide) ?_
      refine g_icmp_eq 183 dX8_tells_176 rfl (fun _ => ?_) (fun _ => ?_)
      · refine g_iconst (0 : Int32) dX8_tells_183 (by decide) ?_
        refine g_iadd dX8_tells_184 ?_
        refine g_topi (fun v8 => ?_)
        refine g_istore_n [(2, .int v8), (0, .ref (xad X (98))), (1, .int x1), (3, .int x3), (4, .int x4)] dX8_tells_185 (by decide) rfl ?_
        refine g_iinc 4 [(4, .int ((x4 + (1 : Int32)))), (2, .int v8), (0, .ref (xad X (98))), (1, .int x1), (3, .int x3)] dX8_tells_186 rfl (v := x4 + (1 : Int32)) rfl (by decide) rfl ?_
        refine g_goto 7 dX8_tells_189 rfl ?_
        refine g_sub [2, 3, 1, 4, 0] rfl ?_
        exact hkb σ v8 x3 ((x4 + (1 : Int32)))
      · refine g_iconst (1 : Int32) dX8_tells_179 (by decide) ?_
        refine g_goto 184 dX8_tells_180 rfl ?_
        refine g_iadd dX8_tells_184 ?_
        refine g_topi (fun v10 => ?_)
        refine g_istore_n [(2, .int v10), (0, .ref (xad X (98))), (1, .int x1), (3, .int x3), (4, .int x4)] dX8_tells_185 (by decide) rfl ?_
        refine g_iinc 4 [(4, .int ((x4 + (1 : Int32)))), (2, .int v10), (0, .ref (xad X (98))), (1, .int x1), (3, .int x3)] dX8_tells_186 rfl (v := x4 + (1 : Int32)) rfl (by decide) rfl ?_
        refine g_goto 7 dX8_tells_189 rfl ?_
        refine g_sub [2, 3, 1, 4, 0] rfl ?_
        exact hkb σ v10 x3 ((x4 + (1 : Int32)))

set_option maxRecDepth 100000 in
set_option maxHeartbeats 4000000 in
theorem t_X8_tells_J129 (X : GX) (σ : Mem) (x1 : Int32) (x3 : Int32) (x4 : Int32) (z0 : Int32) (kb : Mem → Int32 → Int32 → Int32 → Option (Mem × Int32)) (k192 : Mem → Int32 → Int32 → Option (Mem × Int32)) (hkb : ∀ (σ : Mem) (y2 : Int32) (y3 : Int32) (y4 : Int32), GS (KM enI X) X mX8_tells σ 7 [(0, .ref (xad X (98))), (1, .int x1), (2, .int y2), (3, .int y3), (4, .int y4)] [] (kb σ y2 y3 y4)) (hk192 : ∀ (σ : Mem) (y2 : Int32) (y3 : Int32), GS (KM enI X) X mX8_tells σ 192 [(0, .ref (xad X (98))), (1, .int x1), (2, .int y2), (3, .int y3)] [] (k192 σ y2 y3)) : GS (KM enI X) X mX8_tells σ 129 [(0, .ref (xad X (98))), (1, .int x1), (3, .int x3), (4, .int x4)] [.int z0] (X8_tells_J129 σ x1 x3 x4 z0 kb k192) := by
  unfold X8_tells_J129
  refine g_iload_n 1 dX8_tells_129 rfl ?_
  refine g_bipush (7 : Int32) dX8_tells_130 (by decide) ?_
  refine g_icmp_ne 151 dX8_tells_132 rfl (fun _ => ?_) (fun _ => ?_)
  · refine g_sub [0, 1, 2, 3] rfl ?_
    exact t_X8_tells_J151 X σ x1 x3 x4 z0 _ _ (fun σ y2 y3 y4 => hkb σ y2 y3 y4) hk192
  · refine g_iload 3 dX8_tells_135 rfl ?_
    refine g_iconst (4 : Int32) dX8_tells_137 (by decide) ?_
    refine g_icmp_ge 151 dX8_tells_138 rfl (fun _ => ?_) (fun _ => ?_)
    · refine g_sub [0, 1, 2, 3] rfl ?_
      exact t_X8_tells_J151 X σ x1 x3 x4 z0 _ _ (fun σ y2 y3 y4 => hkb σ y2 y3 y4) hk192
    · refine g_aload_n 0 dX8_tells_141 rfl ?_
      refine gf_X8_8 fl_X8_26 dX8_tells_142 ?_
      refine g_iload 3 dX8_tells_145 rfl ?_
      refine g_iald sh_103 no_103 dX8_tells_147 (fun _ => ?_)
      refine g_if_ge 179 dX8_tells_148 rfl (fun _ => ?_) (fun _ => ?_)
      · refine g_iconst (1 : Int32) dX8_tells_179 (by decide) ?_
        refine g_goto 184 dX8_tells_180 rfl ?_
        refine g_iadd dX8_tells_184 ?_
        refine g_topi (fun v12 => ?_)
        refine g_istore_n [(2, .int v12), (0, .ref (xad X (98))), (1, .int x1), (3, .int x3), (4, .int x4)] dX8_tells_185 (by decide) rfl ?_
        refine g_iinc 4 [(4, .int ((x4 + (1 : Int32)))), (2, .int v12), (0, .ref (xad X (98))), (1, .int x1), (3, .int x3)] dX8_tells_186 rfl (v := x4 + (1 : Int32)) rfl (by decide) rfl ?_
        refine g_goto 7 dX8_tells_189 rfl ?_
        refine g_sub [2, 3, 1, 4, 0] rfl ?_
        exact hkb σ v12 x3 ((x4 + (1 : Int32)))
      · refine g_sub [0, 1, 2, 3] rfl ?_
        exact t_X8_tells_J151 X σ x1 x3 x4 z0 _ _ (fun σ y2 y3 y4 => hkb σ y2 y3 y4) hk192

set_option maxRecDepth 100000 in
set_option maxHeartbeats 4000000 in
theorem t_X8_tells_J98 (X : GX) (σ : Mem) (x1 : Int32) (x2 : Int32) (x3 : Int32) (x4 : Int32) (z0 : Int32) (kb : Mem → Int32 → Int32 → Int32 → Option (Mem × Int32)) (k192 : Mem → Int32 → Int32 → Option (Mem × Int32)) (hkb : ∀ (σ : Mem) (y2 : Int32) (y3 : Int32) (y4 : Int32), GS (KM enI X) X mX8_tells σ 7 [(0, .ref (xad X (98))), (1, .int x1), (2, .int y2), (3, .int y3), (4, .int y4)] [] (kb σ y2 y3 y4)) (hk192 : ∀ (σ : Mem) (y2 : Int32) (y3 : Int32), GS (KM enI X) X mX8_tells σ 192 [(0, .ref (xad X (98))), (1, .int x1), (2, .int y2), (3, .int y3)] [] (k192 σ y2 y3)) : GS (KM enI X) X mX8_tells σ 98 [(0, .ref (xad X (98))), (1, .int x1), (2, .int x2), (3, .int x3), (4, .int x4)] [.int z0] (X8_tells_J98 σ x1 x2 x3 x4 z0 kb k192) := by
  unfold X8_tells_J98
  refine g_istore [(5, .int z0), (0, .ref (xad X (98))), (1, .int x1), (2, .int x2), (3, .int x3), (4, .int x4)] dX8_tells_98 (by decide) rfl ?_
  refine g_iload_n 3 dX8_tells_100 rfl ?_
  refine g_iload 0 dX8_tells_101 rfl ?_
  refine g_if_ne 179 dX8_tells_103 rfl (fun _ => ?_) (fun _ => ?_)
  · refine g_iconst (1 : Int32) dX8_tells_179 (by decide) ?_
    refine g_goto 184 dX8_tells_180 rfl ?_
    refine g_iadd dX8_tells_184 ?_
    refine g_topi (fun v2 => ?_)
    refine g_istore_n [(2, .int v2), (5, .int z0), (0, .ref (xad X (98))), (1, .int x1), (3, .int x3), (4, .int x4)] dX8_tells_185 (by decide) rfl ?_
    refine g_iinc 5 [(4, .int ((x4 + (1 : Int32)))), (2, .int v2), (5, .int z0), (0, .ref (xad X (98))), (1, .int x1), (3, .int x3)] dX8_tells_186 rfl (v := x4 + (1 : Int32)) rfl (by decide) rfl ?_
    refine g_goto 7 dX8_tells_189 rfl ?_
    refine g_sub [3, 4, 1, 5, 0] rfl ?_
    exact hkb σ v2 x3 ((x4 + (1 : Int32)))
  · refine g_iload_n 2 dX8_tells_106 rfl ?_
    refine g_bipush (6 : Int32) dX8_tells_107 (by decide) ?_
    refine g_icmp_ne 129 dX8_tells_109 rfl (fun _ => ?_) (fun _ => ?_)
    · refine g_sub [1, 2, 4, 5] rfl ?_
      exact t_X8_tells_J129 X σ x1 x3 x4 x2 _ _ (fun σ y2 y3 y4 => hkb σ y2 y3 y4) hk192
    · refine g_iload 5 dX8_tells_112 rfl ?_
      refine g_bipush (6 : Int32) dX8_tells_114 (by decide) ?_
      refine g_icmp_ge 129 dX8_tells_116 rfl (fun _ => ?_) (fun _ => ?_)
      · refine g_sub [1, 2, 4, 5] rfl ?_
        exact t_X8_tells_J129 X σ x1 x3 x4 x2 _ _ (fun σ y2 y3 y4 => hkb σ y2 y3 y4) hk192
      · refine g_aload_n 1 dX8_tells_119 rfl ?_
        refine gf_X8_5 fl_X8_17 dX8_tells_120 ?_
        refine g_iload 5 dX8_tells_123 rfl ?_
        refine g_iald sh_100 no_100 dX8_tells_125 (fun _ => ?_)
        refine g_if_ge 179 dX8_tells_126 rfl (fun _ => ?_) (fun _ => ?_)
        · refine g_iconst (1 : Int32) dX8_tells_179 (by decide) ?_
          refine g_goto 184 dX8_tells_180 rfl ?_
          refine g_iadd dX8_tells_184 ?_
          refine g_topi (fun v14 => ?_)
          refine g_istore_n [(2, .int v14), (5, .int z0), (0, .ref (xad X (98))), (1, .int x1), (3, .int x3), (4, .int x4)] dX8_tells_185 (by decide) rfl ?_
          refine g_iinc 5 [(4, .int ((x4 + (1 : Int32)))), (2, .int v14), (5, .int z0), (0, .ref (xad X (98))), (1, .int x1), (3, .int x3)] dX8_tells_186 rfl (v := x4 + (1 : Int32)) rfl (by decide) rfl ?_
          refine g_goto 7 dX8_tells_189 rfl ?_
          refine g_sub [3, 4, 1, 5, 0] rfl ?_
          exact hkb σ v14 x3 ((x4 + (1 : Int32)))
        · refine g_sub [1, 2, 4, 5] rfl ?_
          exact t_X8_tells_J129 X σ x1 x3 x4 x2 _ _ (fun σ y2 y3 y4 => hkb σ y2 y3 y4) hk192

set_option maxRecDepth 100000 in
set_option maxHeartbeats 4000000 in
theorem t_X8_tells_J78 (X : GX) (σ : Mem) (x1 : Int32) (x2 : Int32) (x3 : Int32) (x4 : Int32) (kb : Mem → Int32 → Int32 → Int32 → Option (Mem × Int32)) (k192 : Mem → Int32 → Int32 → Option (Mem × Int32)) (hkb : ∀ (σ : Mem) (y2 : Int32) (y3 : Int32) (y4 : Int32), GS (KM enI X) X mX8_tells σ 7 [(0, .ref (xad X (98))), (1, .int x1), (2, .int y2), (3, .int y3), (4, .int y4)] [] (kb σ y2 y3 y4)) (hk192 : ∀ (σ : Mem) (y2 : Int32) (y3 : Int32), GS (KM enI X) X mX8_tells σ 192 [(0, .ref (xad X (98))), (1, .int x1), (2, .int y2), (3, .int y3)] [] (k192 σ y2 y3)) : GS (KM enI X) X mX8_tells σ 78 [(0, .ref (xad X (98))), (1, .int x1), (2, .int x2), (3, .int x3), (4, .int x4)] [] (X8_tells_J78 σ x1 x2 x3 x4 kb k192) := by
  unfold X8_tells_J78
  refine g_iload_n 1 dX8_tells_78 rfl ?_
  refine g_iconst (5 : Int32) dX8_tells_79 (by decide) ?_
  refine g_icmp_ne 97 dX8_tells_80 rfl (fun _ => ?_) (fun _ => ?_)
  · refine g_iconst (0 : Int32) dX8_tells_97 (by decide) ?_
    refine g_sub [0, 1, 2, 3, 4] rfl ?_
    exact t_X8_tells_J98 X σ x1 x2 x3 x4 (0 : Int32) _ _ (fun σ y2 y3 y4 => hkb σ y2 y3 y4) hk192
  · refine g_aload_n 0 dX8_tells_83 rfl ?_
    refine g_iload 4 dX8_tells_84 rfl ?_
    refine g_iconst (3 : Int32) dX8_tells_86 (by decide) ?_
    refine g_callVI (c_X8_isA σ x4 (3 : Int32)) okX8_isA ⟨by decide, by decide⟩ ml_X8_195 sh_98 no_98 rfl rfl [.int x4, .int ((3 : Int32))] rfl rfl rfl (Nat.le_of_ble_eq_true rfl) dX8_tells_87 (fun q16 => ?_)
    refine g_if_eq 97 dX8_tells_90 rfl (fun _ => ?_) (fun _ => ?_)
    · refine g_iconst (0 : Int32) dX8_tells_97 (by decide) ?_
      refine g_sub [0, 1, 2, 3, 4] rfl ?_
      exact t_X8_tells_J98 X q16.1 x1 x2 x3 x4 (0 : Int32) _ _ (fun σ y2 y3 y4 => hkb σ y2 y3 y4) hk192
    · refine g_iconst (1 : Int32) dX8_tells_93 (by decide) ?_
      refine g_goto 98 dX8_tells_94 rfl ?_
      refine g_sub [0, 1, 2, 3, 4] rfl ?_
      exact t_X8_tells_J98 X q16.1 x1 x2 x3 x4 (1 : Int32) _ _ (fun σ y2 y3 y4 => hkb σ y2 y3 y4) hk192

set_option maxRecDepth 100000 in
set_option maxHeartbeats 4000000 in
theorem t_X8_tells_J33 (X : GX) (σ : Mem) (x1 : Int32) (x2 : Int32) (x4 : Int32) (z0 : Int32) (z1 : Int32) (kb : Mem → Int32 → Int32 → Int32 → Option (Mem × Int32)) (k192 : Mem → Int32 → Int32 → Option (Mem × Int32)) (hkb : ∀ (σ : Mem) (y2 : Int32) (y3 : Int32) (y4 : Int32), GS (KM enI X) X mX8_tells σ 7 [(0, .ref (xad X (98))), (1, .int x1), (2, .int y2), (3, .int y3), (4, .int y4)] [] (kb σ y2 y3 y4)) (hk192 : ∀ (σ : Mem) (y2 : Int32) (y3 : Int32), GS (KM enI X) X mX8_tells σ 192 [(0, .ref (xad X (98))), (1, .int x1), (2, .int y2), (3, .int y3)] [] (k192 σ y2 y3)) : GS (KM enI X) X mX8_tells σ 33 [(0, .ref (xad X (98))), (1, .int x1), (2, .int x2), (4, .int x4)] [.int z0, .int z1] (X8_tells_J33 σ x1 x2 x4 z0 z1 kb k192) := by
  unfold X8_tells_J33
  refine g_iadd dX8_tells_33 ?_
  refine g_topi (fun v1 => ?_)
  refine g_istore_n [(3, .int v1), (0, .ref (xad X (98))), (1, .int x1), (2, .int x2), (4, .int x4)] dX8_tells_34 (by decide) rfl ?_
  refine g_iload 4 dX8_tells_35 rfl ?_
  refine g_aload_n 1 dX8_tells_37 rfl ?_
  refine gf_X8_10 fl_X8_139 dX8_tells_38 ?_
  refine g_icmp_ge 97 dX8_tells_41 rfl (fun _ => ?_) (fun _ => ?_)
  · refine g_iconst (0 : Int32) dX8_tells_97 (by decide) ?_
    refine g_sub [1, 2, 3, 0, 4] rfl ?_
    exact t_X8_tells_J98 X σ x1 x2 v1 x4 (0 : Int32) _ _ (fun σ y2 y3 y4 => hkb σ y2 y3 y4) hk192
  · refine g_iload_n 2 dX8_tells_44 rfl ?_
    refine g_iconst (1 : Int32) dX8_tells_45 (by decide) ?_
    refine g_icmp_ne 63 dX8_tells_46 rfl (fun _ => ?_) (fun _ => ?_)
    · refine g_iload_n 2 dX8_tells_63 rfl ?_
      refine g_iconst (4 : Int32) dX8_tells_64 (by decide) ?_
      refine g_icmp_ne 78 dX8_tells_65 rfl (fun _ => ?_) (fun _ => ?_)
      · refine g_sub [1, 2, 3, 0, 4] rfl ?_
        exact t_X8_tells_J78 X σ x1 x2 v1 x4 _ _ (fun σ y2 y3 y4 => hkb σ y2 y3 y4) hk192
      · refine g_aload_n 1 dX8_tells_68 rfl ?_
        refine g_iload 4 dX8_tells_69 rfl ?_
        refine g_iconst (2 : Int32) dX8_tells_71 (by decide) ?_
        refine g_callVI (c_X8_isA σ x4 (2 : Int32)) okX8_isA ⟨by decide, by decide⟩ ml_X8_195 sh_98 no_98 rfl rfl [.int x4, .int ((2 : Int32))] rfl rfl rfl (Nat.le_of_ble_eq_true rfl) dX8_tells_72 (fun q17 => ?_)
        refine g_if_ne 93 dX8_tells_75 rfl (fun _ => ?_) (fun _ => ?_)
        · refine g_iconst (1 : Int32) dX8_tells_93 (by decide) ?_
          refine g_goto 98 dX8_tells_94 rfl ?_
          refine g_sub [1, 2, 3, 0, 4] rfl ?_
          exact t_X8_tells_J98 X q17.1 x1 x2 v1 x4 (1 : Int32) _ _ (fun σ y2 y3 y4 => hkb σ y2 y3 y4) hk192
        · refine g_sub [1, 2, 3, 0, 4] rfl ?_
          exact t_X8_tells_J78 X q17.1 x1 x2 v1 x4 _ _ (fun σ y2 y3 y4 => hkb σ y2 y3 y4) hk192
    · refine g_aload_n 1 dX8_tells_49 rfl ?_
      refine gf_X8_11 fl_X8_32 dX8_tells_50 ?_
      refine g_iconst (5 : Int32) dX8_tells_53 (by decide) ?_
      refine g_iload 4 dX8_tells_54 rfl ?_
      refine g_imul dX8_tells_56 ?_
      refine g_iconst (4 : Int32) dX8_tells_57 (by decide) ?_
      refine g_iadd dX8_tells_58 ?_
      refine g_iald sh_105 no_105 dX8_tells_59 (fun _ => ?_)
      refine g_if_eq 93 dX8_tells_60 rfl (fun _ => ?_) (fun _ => ?_)
      · refine g_iconst (1 : Int32) dX8_tells_93 (by decide) ?_
        refine g_goto 98 dX8_tells_94 rfl ?_
        refine g_sub [1, 2, 3, 0, 4] rfl ?_
        exact t_X8_tells_J98 X σ x1 x2 v1 x4 (1 : Int32) _ _ (fun σ y2 y3 y4 => hkb σ y2 y3 y4) hk192
      · refine g_iload_n 2 dX8_tells_63 rfl ?_
        refine g_iconst (4 : Int32) dX8_tells_64 (by decide) ?_
        refine g_icmp_ne 78 dX8_tells_65 rfl (fun _ => ?_) (fun _ => ?_)
        · refine g_sub [1, 2, 3, 0, 4] rfl ?_
          exact t_X8_tells_J78 X σ x1 x2 v1 x4 _ _ (fun σ y2 y3 y4 => hkb σ y2 y3 y4) hk192
        · refine g_aload_n 1 dX8_tells_68 rfl ?_
          refine g_iload 4 dX8_tells_69 rfl ?_
          refine g_iconst (2 : Int32) dX8_tells_71 (by decide) ?_
          refine g_callVI (c_X8_isA σ x4 (2 : Int32)) okX8_isA ⟨by decide, by decide⟩ ml_X8_195 sh_98 no_98 rfl rfl [.int x4, .int ((2 : Int32))] rfl rfl rfl (Nat.le_of_ble_eq_true rfl) dX8_tells_72 (fun q18 => ?_)
          refine g_if_ne 93 dX8_tells_75 rfl (fun _ => ?_) (fun _ => ?_)
          · refine g_iconst (1 : Int32) dX8_tells_93 (by decide) ?_
            refine g_goto 98 dX8_tells_94 rfl ?_
            refine g_sub [1, 2, 3, 0, 4] rfl ?_
            exact t_X8_tells_J98 X q18.1 x1 x2 v1 x4 (1 : Int32) _ _ (fun σ y2 y3 y4 => hkb σ y2 y3 y4) hk192
          · refine g_sub [1, 2, 3, 0, 4] rfl ?_
            exact t_X8_tells_J78 X q18.1 x1 x2 v1 x4 _ _ (fun σ y2 y3 y4 => hkb σ y2 y3 y4) hk192

set_option maxRecDepth 100000 in
set_option maxHeartbeats 4000000 in
theorem t_X8_tells_L7 (X : GX) (x1 : Int32) (k192 : Mem → Int32 → Int32 → Option (Mem × Int32)) (hk192 : ∀ (σ : Mem) (y2 : Int32) (y3 : Int32), GS (KM enI X) X mX8_tells σ 192 [(0, .ref (xad X (98))), (1, .int x1), (2, .int y2), (3, .int y3)] [] (k192 σ y2 y3)) : ∀ (n : Nat) (σ : Mem) (x2 : Int32) (x3 : Int32) (x4 : Int32), GS (KM enI X) X mX8_tells σ 7 [(0, .ref (xad X (98))), (1, .int x1), (2, .int x2), (3, .int x3), (4, .int x4)] [] (X8_tells_L7 x1 k192 n σ x2 x3 x4) := by
  intro n
  induction n with
  | zero => intros; exact g_none
  | succ n ih =>
    intro σ x2 x3 x4
    rw [X8_tells_L7]
    refine g_iload 4 dX8_tells_7 rfl ?_
    refine g_bipush (8 : Int32) dX8_tells_9 (by decide) ?_
    refine g_icmp_ge 192 dX8_tells_11 rfl (fun _ => ?_) (fun _ => ?_)
    · refine g_sub [0, 1, 2, 3] rfl ?_
      exact hk192 σ x2 x3
    · refine g_iload_n 3 dX8_tells_14 rfl ?_
      refine g_iload 4 dX8_tells_15 rfl ?_
      refine g_bipush (6 : Int32) dX8_tells_17 (by decide) ?_
      refine g_icmp_ge 32 dX8_tells_19 rfl (fun _ => ?_) (fun _ => ?_)
      · refine g_iconst (0 : Int32) dX8_tells_32 (by decide) ?_
        refine g_sub [0, 1, 2, 4] rfl ?_
        exact t_X8_tells_J33 X σ x1 x2 x4 (0 : Int32) x3 _ _ (fun σ y2 y3 y4 => ih σ y2 y3 y4) hk192
      · refine g_aload_n 0 dX8_tells_22 rfl ?_
        refine gf_X8_27 fl_X8_64 dX8_tells_23 ?_
        refine g_iload 4 dX8_tells_26 rfl ?_
        refine g_iald sh_115 no_115 dX8_tells_28 (fun _ => ?_)
        refine g_goto 33 dX8_tells_29 rfl ?_
        refine g_sub [0, 1, 2, 4] rfl ?_
        exact t_X8_tells_J33 X σ x1 x2 x4 ((σ.1 827 0 x4.toNatClampNeg)) x3 _ _ (fun σ y2 y3 y4 => ih σ y2 y3 y4) hk192

set_option maxRecDepth 100000 in
set_option maxHeartbeats 4000000 in
theorem c_X8_tells (σ : Mem) (a1 : Int32) : CT yX8_tells mX8_tells enI (fun ad => [.ref (ad (98)), .int a1]) σ (X8_tells σ a1) := by
  refine CT.of (by decide) rfl (fun _ => Nat.le_of_ble_eq_true rfl) (fun X => ?_)
  show GS (KM enI X) X mX8_tells σ 0 [(0, .ref (xad X (98))), (1, .int a1)] [] _
  unfold X8_tells
  refine g_iconst (0 : Int32) dX8_tells_0 (by decide) ?_
  refine g_istore_n [(2, .int ((0 : Int32))), (0, .ref (xad X (98))), (1, .int a1)] dX8_tells_1 (by decide) rfl ?_
  refine g_iconst (0 : Int32) dX8_tells_2 (by decide) ?_
  refine g_istore_n [(3, .int ((0 : Int32))), (2, .int ((0 : Int32))), (0, .ref (xad X (98))), (1, .int a1)] dX8_tells_3 (by decide) rfl ?_
  refine g_iconst (0 : Int32) dX8_tells_4 (by decide) ?_
  refine g_istore [(4, .int ((0 : Int32))), (3, .int ((0 : Int32))), (2, .int ((0 : Int32))), (0, .ref (xad X (98))), (1, .int a1)] dX8_tells_5 (by decide) rfl ?_
  refine g_sub [3, 4, 2, 1, 0] rfl ?_
  refine t_X8_tells_L7 X a1 _ (fun s20 y2_19 y3_19 => ?_) FU σ (0 : Int32) (0 : Int32) (0 : Int32)
  refine g_iload_n 1 dX8_tells_192 rfl ?_
  refine g_if_ne 203 dX8_tells_193 rfl (fun _ => ?_) (fun _ => ?_)
  · refine g_iload_n 1 dX8_tells_203 rfl ?_
    refine g_iconst (2 : Int32) dX8_tells_204 (by decide) ?_
    refine g_icmp_ne 215 dX8_tells_205 rfl (fun _ => ?_) (fun _ => ?_)
    · refine g_iload_n 1 dX8_tells_215 rfl ?_
      refine g_iconst (3 : Int32) dX8_tells_216 (by decide) ?_
      refine g_icmp_ne 224 dX8_tells_217 rfl (fun _ => ?_) (fun _ => ?_)
      · refine g_iload_n 2 dX8_tells_224 rfl ?_
        exact g_iret rfl dX8_tells_225
      · refine g_iload_n 3 dX8_tells_220 rfl ?_
        refine g_goto 225 dX8_tells_221 rfl ?_
        exact g_iret rfl dX8_tells_225
    · refine g_aload_n 0 dX8_tells_208 rfl ?_
      refine gf_X8_26 fl_X8_142 dX8_tells_209 ?_
      refine g_goto 225 dX8_tells_212 rfl ?_
      exact g_iret rfl dX8_tells_225
  · refine g_aload_n 0 dX8_tells_196 rfl ?_
    refine gf_X8_10 fl_X8_139 dX8_tells_197 ?_
    refine g_goto 225 dX8_tells_200 rfl ?_
    exact g_iret rfl dX8_tells_225

def X8_count (σ : Mem) (a1 : Int32) : Option (Mem × Int32) := ((X8_in σ a1 (0 : Int32) (8 : Int32)).bind fun q1 => if q1.2 = 0 then (some (q1.1, (-1 : Int32))) else ((X8_tells q1.1 a1).bind fun q2 => (some (q2.1, q2.2))))
set_option maxRecDepth 100000 in
set_option maxHeartbeats 4000000 in
theorem c_X8_count (σ : Mem) (a1 : Int32) : CT yX8_count mX8_count enI (fun ad => [.ref (ad (98)), .int a1]) σ (X8_count σ a1) := by
  refine CT.of (by decide) rfl (fun _ => Nat.le_of_ble_eq_true rfl) (fun X => ?_)
  show GS (KM enI X) X mX8_count σ 0 [(0, .ref (xad X (98))), (1, .int a1)] [] _
  unfold X8_count
  refine g_iload_n 1 dX8_count_0 rfl ?_
  refine g_iconst (0 : Int32) dX8_count_1 (by decide) ?_
  refine g_bipush (8 : Int32) dX8_count_2 (by decide) ?_
  refine g_callSI (c_X8_in σ a1 (0 : Int32) (8 : Int32)) okX8_in ⟨by decide, by decide⟩ ml_X8_83 rfl rfl (Nat.le_of_ble_eq_true rfl) dX8_count_4 (fun q1 => ?_)
  refine g_if_eq 18 dX8_count_7 rfl (fun _ => ?_) (fun _ => ?_)
  · refine g_iconst (-1 : Int32) dX8_count_18 (by decide) ?_
    exact g_iret rfl dX8_count_19
  · refine g_aload_n 0 dX8_count_10 rfl ?_
    refine g_iload_n 1 dX8_count_11 rfl ?_
    refine g_callVI (c_X8_tells q1.1 a1) okX8_tells ⟨by decide, by decide⟩ ml_X8_283 sh_98 no_98 rfl rfl [.int a1] rfl rfl rfl (Nat.le_of_ble_eq_true rfl) dX8_count_12 (fun q2 => ?_)
    refine g_goto 19 dX8_count_15 rfl ?_
    exact g_iret rfl dX8_count_19

def X8_finding (σ : Mem) : Option (Mem × Int32) := (some (σ, (σ.1 800 0 0)))
set_option maxRecDepth 100000 in
set_option maxHeartbeats 4000000 in
theorem c_X8_finding (σ : Mem) : CT yX8_finding mX8_finding enI (fun ad => [.ref (ad (98))]) σ (X8_finding σ) := by
  refine CT.of (by decide) rfl (fun _ => Nat.le_of_ble_eq_true rfl) (fun X => ?_)
  show GS (KM enI X) X mX8_finding σ 0 [(0, .ref (xad X (98)))] [] _
  unfold X8_finding
  refine g_aload_n 0 dX8_finding_0 rfl ?_
  refine gf_X8_0 fl_X8_73 dX8_finding_1 ?_
  exact g_iret rfl dX8_finding_4

def X8_findings (σ : Mem) (a1 : Int32) : Option (Mem × Int32) := ((X8_in σ a1 (1 : Int32) (5 : Int32)).bind fun q1 => if q1.2 = 0 then (some (q1.1, (-1 : Int32))) else (ck a1 6 <| (some (q1.1, (q1.1.1 801 0 a1.toNatClampNeg)))))
set_option maxRecDepth 100000 in
set_option maxHeartbeats 4000000 in
theorem c_X8_findings (σ : Mem) (a1 : Int32) : CT yX8_findings mX8_findings enI (fun ad => [.ref (ad (98)), .int a1]) σ (X8_findings σ a1) := by
  refine CT.of (by decide) rfl (fun _ => Nat.le_of_ble_eq_true rfl) (fun X => ?_)
  show GS (KM enI X) X mX8_findings σ 0 [(0, .ref (xad X (98))), (1, .int a1)] [] _
  unfold X8_findings
  refine g_iload_n 1 dX8_findings_0 rfl ?_
  refine g_iconst (1 : Int32) dX8_findings_1 (by decide) ?_
  refine g_iconst (5 : Int32) dX8_findings_2 (by decide) ?_
  refine g_callSI (c_X8_in σ a1 (1 : Int32) (5 : Int32)) okX8_in ⟨by decide, by decide⟩ ml_X8_83 rfl rfl (Nat.le_of_ble_eq_true rfl) dX8_findings_3 (fun q1 => ?_)
  refine g_if_eq 18 dX8_findings_6 rfl (fun _ => ?_) (fun _ => ?_)
  · refine g_iconst (-1 : Int32) dX8_findings_18 (by decide) ?_
    exact g_iret rfl dX8_findings_19
  · refine g_aload_n 0 dX8_findings_9 rfl ?_
    refine gf_X8_1 fl_X8_7 dX8_findings_10 ?_
    refine g_iload_n 1 dX8_findings_13 rfl ?_
    refine g_iald sh_99 no_99 dX8_findings_14 (fun _ => ?_)
    refine g_goto 19 dX8_findings_15 rfl ?_
    exact g_iret rfl dX8_findings_19

def X8_mix (σ : Mem) (a1 : Int32) : Option (Mem × Unit) := (some ((uJ σ 830 0 0 ((((31 : Int64) * (σ.2.1 830 0 0)) + a1.toInt64))), ()))
set_option maxRecDepth 100000 in
set_option maxHeartbeats 4000000 in
theorem c_X8_mix (σ : Mem) (a1 : Int32) : CT yX8_mix mX8_mix enV (fun ad => [.ref (ad (98)), .int a1]) σ (X8_mix σ a1) := by
  refine CT.of (by decide) rfl (fun _ => Nat.le_of_ble_eq_true rfl) (fun X => ?_)
  show GS (KM enV X) X mX8_mix σ 0 [(0, .ref (xad X (98))), (1, .int a1)] [] _
  unfold X8_mix
  refine g_aload_n 0 dX8_mix_0 rfl ?_
  refine g_ldc2 (31 : Int64) dX8_mix_1 kl_X8_286 ?_
  refine g_aload_n 0 dX8_mix_4 rfl ?_
  refine gf_X8_30 fl_X8_288 dX8_mix_5 ?_
  refine g_lmul dX8_mix_8 ?_
  refine g_iload_n 1 dX8_mix_9 rfl ?_
  refine g_i2l dX8_mix_10 ?_
  refine g_ladd dX8_mix_11 ?_
  refine pf_X8_30 fl_X8_288 dX8_mix_12 ?_
  exact g_vret rfl dX8_mix_15

def X8_mixPress_L12 (x1 : Int32) (k33 : Mem → Option (Mem × Unit)) : Nat → Mem → Int32 → Option (Mem × Unit)
  | 0, _, _ => none
  | n + 1, σ, x2 => (if (4 : Int32) < x2 then k33 σ else ((X8_lawOf σ x1 x2).bind fun q1 => (X8_mix q1.1 q1.2).bind fun q2 => X8_mixPress_L12 x1 k33 n q2.1 ((x2 + (1 : Int32)))))
def X8_mixPress_L2 (k39 : Mem → Option (Mem × Unit)) : Nat → Mem → Int32 → Option (Mem × Unit)
  | 0, _, _ => none
  | n + 1, σ, x1 => (if (σ.1 810 0 0) ≤ x1 then k39 σ else (X8_mixPress_L12 x1 (fun (s5 : Mem) => (X8_mixPress_L2 k39 n s5 ((x1 + (1 : Int32))))) FU σ (0 : Int32)))
def X8_mixPress_L41 (k63 : Mem → Option (Mem × Unit)) : Nat → Mem → Int32 → Option (Mem × Unit)
  | 0, _, _ => none
  | n + 1, σ, x1 => (if (6 : Int32) ≤ x1 then k63 σ else (ck x1 6 <| (X8_mix σ ((σ.1 827 0 x1.toNatClampNeg))).bind fun q9 => X8_mixPress_L41 k63 n q9.1 ((x1 + (1 : Int32)))))
def X8_mixPress_L75 (x1 : Int32) (k109 : Mem → Option (Mem × Unit)) : Nat → Mem → Int32 → Option (Mem × Unit)
  | 0, _, _ => none
  | n + 1, σ, x2 => (ck ((17 : Int32) * x1) 680 <| if (σ.1 828 0 ((17 : Int32) * x1).toNatClampNeg) < x2 then k109 σ else (ck (((17 : Int32) * x1) + x2) 680 <| (X8_mix σ ((σ.1 828 0 (((17 : Int32) * x1) + x2).toNatClampNeg))).bind fun q13 => X8_mixPress_L75 x1 k109 n q13.1 ((x2 + (1 : Int32)))))
def X8_mixPress_L65 (k115 : Mem → Option (Mem × Unit)) : Nat → Mem → Int32 → Option (Mem × Unit)
  | 0, _, _ => none
  | n + 1, σ, x1 => (if (σ.1 826 0 0) ≤ x1 then k115 σ else (X8_mixPress_L75 x1 (fun (s16 : Mem) => (X8_mixPress_L65 k115 n s16 ((x1 + (1 : Int32))))) FU σ (0 : Int32)))
def X8_mixPress_L117 (k161 : Mem → Option (Mem × Unit)) : Nat → Mem → Int32 → Option (Mem × Unit)
  | 0, _, _ => none
  | n + 1, σ, x1 => (if (3 : Int32) ≤ x1 then k161 σ else (ck ((727 : Int32) * x1) 2181 <| if (σ.1 829 0 ((727 : Int32) * x1).toNatClampNeg) = (-9 : Int32) then (((X8_mix σ (-1 : Int32)).bind fun q22 => X8_mixPress_L117 k161 n q22.1 ((x1 + (1 : Int32))))) else (ck ((727 : Int32) * x1) 2181 <| (X8_mix σ ((σ.1 829 0 ((727 : Int32) * x1).toNatClampNeg))).bind fun q20 => X8_mixPress_L117 k161 n q20.1 ((x1 + (1 : Int32))))))
def X8_mixPress (σ : Mem) : Option (Mem × Unit) := (X8_mixPress_L2 (fun (s8 : Mem) => (X8_mixPress_L41 (fun (s12 : Mem) => (X8_mixPress_L65 (fun (s19 : Mem) => (X8_mixPress_L117 (fun (s25 : Mem) => (some (s25, ()))) FU s19 (0 : Int32))) FU s12 (0 : Int32))) FU s8 (0 : Int32))) FU σ (0 : Int32))
set_option maxRecDepth 100000 in
set_option maxHeartbeats 4000000 in
theorem t_X8_mixPress_L12 (X : GX) (x1 : Int32) (k33 : Mem → Option (Mem × Unit)) (hk33 : ∀ (σ : Mem), GS (KM enV X) X mX8_mixPress σ 33 [(0, .ref (xad X (98))), (1, .int x1)] [] (k33 σ)) : ∀ (n : Nat) (σ : Mem) (x2 : Int32), GS (KM enV X) X mX8_mixPress σ 12 [(0, .ref (xad X (98))), (1, .int x1), (2, .int x2)] [] (X8_mixPress_L12 x1 k33 n σ x2) := by
  intro n
  induction n with
  | zero => intros; exact g_none
  | succ n ih =>
    intro σ x2
    rw [X8_mixPress_L12]
    refine g_iload_n 2 dX8_mixPress_12 rfl ?_
    refine g_iconst (4 : Int32) dX8_mixPress_13 (by decide) ?_
    refine g_icmp_gt 33 dX8_mixPress_14 rfl (fun _ => ?_) (fun _ => ?_)
    · refine g_sub [0, 1] rfl ?_
      exact hk33 σ
    · refine g_aload_n 0 dX8_mixPress_17 rfl ?_
      refine g_aload_n 0 dX8_mixPress_18 rfl ?_
      refine g_iload_n 1 dX8_mixPress_19 rfl ?_
      refine g_iload_n 2 dX8_mixPress_20 rfl ?_
      refine g_callVI (c_X8_lawOf σ x1 x2) okX8_lawOf ⟨by decide, by decide⟩ ml_X8_148 sh_98 no_98 rfl rfl [.int x1, .int x2] rfl rfl rfl (Nat.le_of_ble_eq_true rfl) dX8_mixPress_21 (fun q1 => ?_)
      refine g_callVV (c_X8_mix q1.1 q1.2) okX8_mix ⟨by decide, by decide⟩ ml_X8_291 sh_98 no_98 rfl rfl [.int (q1.2)] rfl rfl rfl (Nat.le_of_ble_eq_true rfl) dX8_mixPress_24 (fun q2 => ?_)
      refine g_iinc 2 [(2, .int ((x2 + (1 : Int32)))), (0, .ref (xad X (98))), (1, .int x1)] dX8_mixPress_27 rfl (v := x2 + (1 : Int32)) rfl (by decide) rfl ?_
      refine g_goto 12 dX8_mixPress_30 rfl ?_
      refine g_sub [1, 2, 0] rfl ?_
      exact ih q2.1 ((x2 + (1 : Int32)))

set_option maxRecDepth 100000 in
set_option maxHeartbeats 4000000 in
theorem t_X8_mixPress_L2 (X : GX) (k39 : Mem → Option (Mem × Unit)) (hk39 : ∀ (σ : Mem), GS (KM enV X) X mX8_mixPress σ 39 [(0, .ref (xad X (98)))] [] (k39 σ)) : ∀ (n : Nat) (σ : Mem) (x1 : Int32), GS (KM enV X) X mX8_mixPress σ 2 [(0, .ref (xad X (98))), (1, .int x1)] [] (X8_mixPress_L2 k39 n σ x1) := by
  intro n
  induction n with
  | zero => intros; exact g_none
  | succ n ih =>
    intro σ x1
    rw [X8_mixPress_L2]
    refine g_iload_n 1 dX8_mixPress_2 rfl ?_
    refine g_aload_n 0 dX8_mixPress_3 rfl ?_
    refine gf_X8_10 fl_X8_139 dX8_mixPress_4 ?_
    refine g_icmp_ge 39 dX8_mixPress_7 rfl (fun _ => ?_) (fun _ => ?_)
    · refine g_sub [0] rfl ?_
      exact hk39 σ
    · refine g_iconst (0 : Int32) dX8_mixPress_10 (by decide) ?_
      refine g_istore_n [(2, .int ((0 : Int32))), (0, .ref (xad X (98))), (1, .int x1)] dX8_mixPress_11 (by decide) rfl ?_
      refine g_sub [1, 2, 0] rfl ?_
      refine t_X8_mixPress_L12 X x1 _ (fun s5 => ?_) FU σ (0 : Int32)
      refine g_iinc 1 [(1, .int ((x1 + (1 : Int32)))), (0, .ref (xad X (98)))] dX8_mixPress_33 rfl (v := x1 + (1 : Int32)) rfl (by decide) rfl ?_
      refine g_goto 2 dX8_mixPress_36 rfl ?_
      refine g_sub [1, 0] rfl ?_
      exact ih s5 ((x1 + (1 : Int32)))

set_option maxRecDepth 100000 in
set_option maxHeartbeats 4000000 in
theorem t_X8_mixPress_L41 (X : GX) (k63 : Mem → Option (Mem × Unit)) (hk63 : ∀ (σ : Mem), GS (KM enV X) X mX8_mixPress σ 63 [(0, .ref (xad X (98)))] [] (k63 σ)) : ∀ (n : Nat) (σ : Mem) (x1 : Int32), GS (KM enV X) X mX8_mixPress σ 41 [(0, .ref (xad X (98))), (1, .int x1)] [] (X8_mixPress_L41 k63 n σ x1) := by
  intro n
  induction n with
  | zero => intros; exact g_none
  | succ n ih =>
    intro σ x1
    rw [X8_mixPress_L41]
    refine g_iload_n 1 dX8_mixPress_41 rfl ?_
    refine g_bipush (6 : Int32) dX8_mixPress_42 (by decide) ?_
    refine g_icmp_ge 63 dX8_mixPress_44 rfl (fun _ => ?_) (fun _ => ?_)
    · refine g_sub [0] rfl ?_
      exact hk63 σ
    · refine g_aload_n 0 dX8_mixPress_47 rfl ?_
      refine g_aload_n 0 dX8_mixPress_48 rfl ?_
      refine gf_X8_27 fl_X8_64 dX8_mixPress_49 ?_
      refine g_iload_n 1 dX8_mixPress_52 rfl ?_
      refine g_iald sh_115 no_115 dX8_mixPress_53 (fun _ => ?_)
      refine g_callVV (c_X8_mix σ ((σ.1 827 0 x1.toNatClampNeg))) okX8_mix ⟨by decide, by decide⟩ ml_X8_291 sh_98 no_98 rfl rfl [.int ((σ.1 827 0 x1.toNatClampNeg))] rfl rfl rfl (Nat.le_of_ble_eq_true rfl) dX8_mixPress_54 (fun q9 => ?_)
      refine g_iinc 1 [(1, .int ((x1 + (1 : Int32)))), (0, .ref (xad X (98)))] dX8_mixPress_57 rfl (v := x1 + (1 : Int32)) rfl (by decide) rfl ?_
      refine g_goto 41 dX8_mixPress_60 rfl ?_
      refine g_sub [1, 0] rfl ?_
      exact ih q9.1 ((x1 + (1 : Int32)))

set_option maxRecDepth 100000 in
set_option maxHeartbeats 4000000 in
theorem t_X8_mixPress_L75 (X : GX) (x1 : Int32) (k109 : Mem → Option (Mem × Unit)) (hk109 : ∀ (σ : Mem), GS (KM enV X) X mX8_mixPress σ 109 [(0, .ref (xad X (98))), (1, .int x1)] [] (k109 σ)) : ∀ (n : Nat) (σ : Mem) (x2 : Int32), GS (KM enV X) X mX8_mixPress σ 75 [(0, .ref (xad X (98))), (1, .int x1), (2, .int x2)] [] (X8_mixPress_L75 x1 k109 n σ x2) := by
  intro n
  induction n with
  | zero => intros; exact g_none
  | succ n ih =>
    intro σ x2
    rw [X8_mixPress_L75]
    refine g_iload_n 2 dX8_mixPress_75 rfl ?_
    refine g_aload_n 0 dX8_mixPress_76 rfl ?_
    refine gf_X8_28 fl_X8_67 dX8_mixPress_77 ?_
    refine g_bipush (17 : Int32) dX8_mixPress_80 (by decide) ?_
    refine g_iload_n 1 dX8_mixPress_82 rfl ?_
    refine g_imul dX8_mixPress_83 ?_
    refine g_iald sh_116 no_116 dX8_mixPress_84 (fun _ => ?_)
    refine g_icmp_gt 109 dX8_mixPress_85 rfl (fun _ => ?_) (fun _ => ?_)
    · refine g_sub [0, 1] rfl ?_
      exact hk109 σ
    · refine g_aload_n 0 dX8_mixPress_88 rfl ?_
      refine g_aload_n 0 dX8_mixPress_89 rfl ?_
      refine gf_X8_28 fl_X8_67 dX8_mixPress_90 ?_
      refine g_bipush (17 : Int32) dX8_mixPress_93 (by decide) ?_
      refine g_iload_n 1 dX8_mixPress_95 rfl ?_
      refine g_imul dX8_mixPress_96 ?_
      refine g_iload_n 2 dX8_mixPress_97 rfl ?_
      refine g_iadd dX8_mixPress_98 ?_
      refine g_iald sh_116 no_116 dX8_mixPress_99 (fun _ => ?_)
      refine g_callVV (c_X8_mix σ ((σ.1 828 0 (((17 : Int32) * x1) + x2).toNatClampNeg))) okX8_mix ⟨by decide, by decide⟩ ml_X8_291 sh_98 no_98 rfl rfl [.int ((σ.1 828 0 (((17 : Int32) * x1) + x2).toNatClampNeg))] rfl rfl rfl (Nat.le_of_ble_eq_true rfl) dX8_mixPress_100 (fun q13 => ?_)
      refine g_iinc 2 [(2, .int ((x2 + (1 : Int32)))), (0, .ref (xad X (98))), (1, .int x1)] dX8_mixPress_103 rfl (v := x2 + (1 : Int32)) rfl (by decide) rfl ?_
      refine g_goto 75 dX8_mixPress_106 rfl ?_
      refine g_sub [1, 2, 0] rfl ?_
      exact ih q13.1 ((x2 + (1 : Int32)))

set_option maxRecDepth 100000 in
set_option maxHeartbeats 4000000 in
theorem t_X8_mixPress_L65 (X : GX) (k115 : Mem → Option (Mem × Unit)) (hk115 : ∀ (σ : Mem), GS (KM enV X) X mX8_mixPress σ 115 [(0, .ref (xad X (98)))] [] (k115 σ)) : ∀ (n : Nat) (σ : Mem) (x1 : Int32), GS (KM enV X) X mX8_mixPress σ 65 [(0, .ref (xad X (98))), (1, .int x1)] [] (X8_mixPress_L65 k115 n σ x1) := by
  intro n
  induction n with
  | zero => intros; exact g_none
  | succ n ih =>
    intro σ x1
    rw [X8_mixPress_L65]
    refine g_iload_n 1 dX8_mixPress_65 rfl ?_
    refine g_aload_n 0 dX8_mixPress_66 rfl ?_
    refine gf_X8_26 fl_X8_142 dX8_mixPress_67 ?_
    refine g_icmp_ge 115 dX8_mixPress_70 rfl (fun _ => ?_) (fun _ => ?_)
    · refine g_sub [0] rfl ?_
      exact hk115 σ
    · refine g_iconst (0 : Int32) dX8_mixPress_73 (by decide) ?_
      refine g_istore_n [(2, .int ((0 : Int32))), (0, .ref (xad X (98))), (1, .int x1)] dX8_mixPress_74 (by decide) rfl ?_
      refine g_sub [1, 2, 0] rfl ?_
      refine t_X8_mixPress_L75 X x1 _ (fun s16 => ?_) FU σ (0 : Int32)
      refine g_iinc 1 [(1, .int ((x1 + (1 : Int32)))), (0, .ref (xad X (98)))] dX8_mixPress_109 rfl (v := x1 + (1 : Int32)) rfl (by decide) rfl ?_
      refine g_goto 65 dX8_mixPress_112 rfl ?_
      refine g_sub [1, 0] rfl ?_
      exact ih s16 ((x1 + (1 : Int32)))

set_option maxRecDepth 100000 in
set_option maxHeartbeats 4000000 in
theorem t_X8_mixPress_L117 (X : GX) (k161 : Mem → Option (Mem × Unit)) (hk161 : ∀ (σ : Mem), GS (KM enV X) X mX8_mixPress σ 161 [] [] (k161 σ)) : ∀ (n : Nat) (σ : Mem) (x1 : Int32), GS (KM enV X) X mX8_mixPress σ 117 [(0, .ref (xad X (98))), (1, .int x1)] [] (X8_mixPress_L117 k161 n σ x1) := by
  intro n
  induction n with
  | zero => intros; exact g_none
  | succ n ih =>
    intro σ x1
    rw [X8_mixPress_L117]
    refine g_iload_n 1 dX8_mixPress_117 rfl ?_
    refine g_iconst (3 : Int32) dX8_mixPress_118 (by decide) ?_
    refine g_icmp_ge 161 dX8_mixPress_119 rfl (fun _ => ?_) (fun _ => ?_)
    · refine g_sub [] rfl ?_
      exact hk161 σ
    · refine g_aload_n 0 dX8_mixPress_122 rfl ?_
      refine g_aload_n 0 dX8_mixPress_123 rfl ?_
      refine gf_X8_29 fl_X8_70 dX8_mixPress_124 ?_
      refine g_sipush (727 : Int32) dX8_mixPress_127 (by decide) ?_
      refine g_iload_n 1 dX8_mixPress_130 rfl ?_
      refine g_imul dX8_mixPress_131 ?_
      refine g_iald sh_117 no_117 dX8_mixPress_132 (fun _ => ?_)
      refine g_bipush (-9 : Int32) dX8_mixPress_133 (by decide) ?_
      refine g_icmp_ne 142 dX8_mixPress_135 rfl (fun _ => ?_) (fun _ => ?_)
      · refine g_aload_n 0 dX8_mixPress_142 rfl ?_
        refine gf_X8_29 fl_X8_70 dX8_mixPress_143 ?_
        refine g_sipush (727 : Int32) dX8_mixPress_146 (by decide) ?_
        refine g_iload_n 1 dX8_mixPress_149 rfl ?_
        refine g_imul dX8_mixPress_150 ?_
        refine g_iald sh_117 no_117 dX8_mixPress_151 (fun _ => ?_)
        refine g_callVV (c_X8_mix σ ((σ.1 829 0 ((727 : Int32) * x1).toNatClampNeg))) okX8_mix ⟨by decide, by decide⟩ ml_X8_291 sh_98 no_98 rfl rfl [.int ((σ.1 829 0 ((727 : Int32) * x1).toNatClampNeg))] rfl rfl rfl (Nat.le_of_ble_eq_true rfl) dX8_mixPress_152 (fun q20 => ?_)
        refine g_iinc 1 [(1, .int ((x1 + (1 : Int32)))), (0, .ref (xad X (98)))] dX8_mixPress_155 rfl (v := x1 + (1 : Int32)) rfl (by decide) rfl ?_
        refine g_goto 117 dX8_mixPress_158 rfl ?_
        refine g_sub [1, 0] rfl ?_
        exact ih q20.1 ((x1 + (1 : Int32)))
      · refine g_iconst (-1 : Int32) dX8_mixPress_138 (by decide) ?_
        refine g_goto 152 dX8_mixPress_139 rfl ?_
        refine g_callVV (c_X8_mix σ (-1 : Int32)) okX8_mix ⟨by decide, by decide⟩ ml_X8_291 sh_98 no_98 rfl rfl [.int ((-1 : Int32))] rfl rfl rfl (Nat.le_of_ble_eq_true rfl) dX8_mixPress_152 (fun q22 => ?_)
        refine g_iinc 1 [(1, .int ((x1 + (1 : Int32)))), (0, .ref (xad X (98)))] dX8_mixPress_155 rfl (v := x1 + (1 : Int32)) rfl (by decide) rfl ?_
        refine g_goto 117 dX8_mixPress_158 rfl ?_
        refine g_sub [1, 0] rfl ?_
        exact ih q22.1 ((x1 + (1 : Int32)))

set_option maxRecDepth 100000 in
set_option maxHeartbeats 4000000 in
theorem c_X8_mixPress (σ : Mem) : CT yX8_mixPress mX8_mixPress enV (fun ad => [.ref (ad (98))]) σ (X8_mixPress σ) := by
  refine CT.of (by decide) rfl (fun _ => Nat.le_of_ble_eq_true rfl) (fun X => ?_)
  show GS (KM enV X) X mX8_mixPress σ 0 [(0, .ref (xad X (98)))] [] _
  unfold X8_mixPress
  refine g_iconst (0 : Int32) dX8_mixPress_0 (by decide) ?_
  refine g_istore_n [(1, .int ((0 : Int32))), (0, .ref (xad X (98)))] dX8_mixPress_1 (by decide) rfl ?_
  refine g_sub [1, 0] rfl ?_
  refine t_X8_mixPress_L2 X _ (fun s8 => ?_) FU σ (0 : Int32)
  refine g_iconst (0 : Int32) dX8_mixPress_39 (by decide) ?_
  refine g_istore_n [(1, .int ((0 : Int32))), (0, .ref (xad X (98)))] dX8_mixPress_40 (by decide) rfl ?_
  refine g_sub [1, 0] rfl ?_
  refine t_X8_mixPress_L41 X _ (fun s12 => ?_) FU s8 (0 : Int32)
  refine g_iconst (0 : Int32) dX8_mixPress_63 (by decide) ?_
  refine g_istore_n [(1, .int ((0 : Int32))), (0, .ref (xad X (98)))] dX8_mixPress_64 (by decide) rfl ?_
  refine g_sub [1, 0] rfl ?_
  refine t_X8_mixPress_L65 X _ (fun s19 => ?_) FU s12 (0 : Int32)
  refine g_iconst (0 : Int32) dX8_mixPress_115 (by decide) ?_
  refine g_istore_n [(1, .int ((0 : Int32))), (0, .ref (xad X (98)))] dX8_mixPress_116 (by decide) rfl ?_
  refine g_sub [1, 0] rfl ?_
  refine t_X8_mixPress_L117 X _ (fun s25 => ?_) FU s19 (0 : Int32)
  exact g_vret rfl dX8_mixPress_161

