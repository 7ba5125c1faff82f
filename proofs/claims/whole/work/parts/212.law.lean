def LAWF (L : Nat) (xs : Nat → Int32) (σ : Mem) : Option (Mem × Unit) := L_law_L18 L xs (fun (s187 : Mem) => (some (s187, ()))) FU σ (0 : Int32)
set_option maxRecDepth 100000 in
set_option maxHeartbeats 4000000 in
theorem t_LAWF (X : GX) (hAD : hADp X) (b L : Nat) (xs : Nat → Int32) (hSC : SC X b L xs) (σ : Mem) : GS (lawK X) X mL_law σ 18 [(3, .int 0), (2, .ref (xad X 98)), (1, .ref (xad X 0)), (0, .ref b)] [] (LAWF L xs σ) := by
  refine g_sub [3, 2, 1, 0] (lv' := [(0, .ref b), (1, .ref (xad X (0))), (2, .ref (xad X (98))), (3, .int ((0 : Int32)))]) rfl ?_
  unfold LAWF
  refine g_sub [0, 1, 2, 3] rfl ?_
  refine t_L_law_L18 X hAD L xs b hSC _ (fun s187 => ?_) FU σ (0 : Int32)
  refine g_iconst (1 : Int32) dL_law_1599 (by decide) ?_
  exact g_lawret hAD dL_law_1600
