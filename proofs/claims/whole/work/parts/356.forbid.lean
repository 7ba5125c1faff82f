/-! forbid -/
def swF (x : Nat) : Nat → Nat → Nat → Nat
  | 0, _, B => B
  | c + 1, s, B => swF x c (s + 1) (if x.testBit s = true then B &&& (Hc s ^^^ 18446744073709551615) else B &&& 18446744073709551615)
theorem swF_lt {x : Nat} : ∀ c s B, B < 2 ^ 64 → swF x c s B < 2 ^ 64 := by
  intro c
  induction c with
  | zero => intro s B h; exact h
  | succ c ih =>
    intro s B h
    rw [swF]
    refine ih _ _ ?_
    split
    · exact Nat.lt_of_le_of_lt Nat.and_le_left h
    · exact Nat.lt_of_le_of_lt Nat.and_le_left h
theorem M64_bit : ∀ w, w < 64 → (18446744073709551615 : Nat).testBit w = true := by decide +kernel
theorem swF_bit {x w : Nat} (hw : w < 64) : ∀ c s B, s + c ≤ 6 → ((swF x c s B).testBit w = true ↔ B.testBit w = true ∧ ∀ j, s ≤ j → j < s + c → x.testBit j = true → w.testBit j = false) := by
  intro c
  induction c with
  | zero => intro s B _; exact ⟨fun h => ⟨h, fun j h1 h2 => by omega⟩, fun h => h.1⟩
  | succ c ih =>
    intro s B hs
    have hb := (Hc_bit s (by omega) w hw).2.1
    rw [swF, ih _ _ (by omega)]
    by_cases q : x.testBit s = true
    · rw [if_pos q, Nat.testBit_and, hb]
      constructor
      · rintro ⟨h1, h2⟩
        simp only [Bool.and_eq_true, Bool.not_eq_true'] at h1
        refine ⟨h1.1, fun j j1 j2 j3 => ?_⟩
        by_cases e : j = s
        · subst e; exact h1.2
        · exact h2 j (by omega) (by omega) j3
      · rintro ⟨h1, h2⟩
        refine ⟨?_, fun j j1 j2 j3 => h2 j (by omega) (by omega) j3⟩
        rw [h1, h2 s (by omega) (by omega) q]
        rfl
    · rw [if_neg q, Nat.testBit_and, M64_bit w hw, Bool.and_true]
      constructor
      · rintro ⟨h1, h2⟩
        refine ⟨h1, fun j j1 j2 j3 => ?_⟩
        by_cases e : j = s
        · subst e; exact absurd j3 q
        · exact h2 j (by omega) (by omega) j3
      · rintro ⟨h1, h2⟩
        exact ⟨h1, fun j j1 j2 j3 => h2 j (by omega) (by omega) j3⟩
theorem tb6 {w j : Nat} (hw : w < 64) (hj : w.testBit j = true) : j < 6 := by
  by_cases q : j < 6
  · exact q
  · have : w.testBit j = false := Nat.testBit_lt_two_pow (Nat.lt_of_lt_of_le hw (Nat.pow_le_pow_right (n := 2) (by decide) (by omega : 6 ≤ j)))
    rw [this] at hj
    cases hj
theorem and0 {w x : Nat} (hw : w < 64) : w &&& x = 0 ↔ ∀ j, j < 6 → x.testBit j = true → w.testBit j = false := by
  constructor
  · intro h j _ h2
    have : (w &&& x).testBit j = false := by rw [h, Nat.zero_testBit]
    rw [Nat.testBit_and, h2, Bool.and_true] at this
    exact this
  · intro h
    apply Nat.eq_of_testBit_eq
    intro j
    rw [Nat.testBit_and, Nat.zero_testBit]
    cases h1 : w.testBit j with
    | false => rfl
    | true =>
      have h6 := tb6 hw h1
      cases h2 : x.testBit j with
      | false => rfl
      | true => rw [h j h6 h2] at h1; cases h1
theorem sw_bit {x w : Nat} (hw : w < 64) : (swF x 6 0 18446744073709551615).testBit w = true ↔ w &&& x = 0 := by
  rw [swF_bit hw 6 0 _ (by decide), and0 hw, M64_bit w hw]
  constructor
  · rintro ⟨-, h⟩ j hj h2
    exact h j (by omega) (by omega) h2
  · intro h
    exact ⟨rfl, fun j _ hj h2 => h j (by omega) h2⟩
theorem X7_setsWithout_L {σ : Mem} {x : Nat} {kk : Mem → Int64 → Option (Mem × Int64)} (hx : x < 64) : ∀ (c s f B : Nat), c < f → s + c = 6 → B < 2 ^ 64 → X7_setsWithout_L6 (nI x) kk f σ (lN B) (nI s) = kk σ (lN (swF x c s B)) := by
  intro c
  induction c with
  | zero =>
    intro s f B hf he hB
    obtain ⟨g, rfl⟩ : ∃ g, f = g + 1 := ⟨f - 1, by omega⟩
    rw [X7_setsWithout_L6, if_pos (by rw [nle_l (by omega) (by decide)]; omega)]
    rfl
  | succ c ih =>
    intro s f B hf he hB
    obtain ⟨g, rfl⟩ : ∃ g, f = g + 1 := ⟨f - 1, by omega⟩
    have hH := Hc_lt s (by omega)
    rw [X7_setsWithout_L6, if_neg (by rw [nle_l (by omega) (by decide)]; omega), swF]
    by_cases q : x.testBit s = true
    · rw [if_pos ((bit7_1 (by omega) (by omega)).mpr q), if_pos q, ck_n (by omega) (by decide), lt_eq, ncl (by omega), HVV_n s (by omega), m1_lN, lN_xor2, wb_and hB (Nat.xor_lt_two_pow (n := 64) hH (by decide)), nadd_r]
      exact ih (s + 1) g _ (by omega) (by omega) (Nat.lt_of_le_of_lt Nat.and_le_left hB)
    · rw [if_neg (fun w => q ((bit7_1 (by omega) (by omega)).mp w)), if_neg q, lt_eq, m1_lN, wb_and hB (by decide), nadd_r]
      exact ih (s + 1) g _ (by omega) (by omega) (Nat.lt_of_le_of_lt Nat.and_le_left hB)
theorem X7_setsWithout_n {σ : Mem} {x : Nat} (hx : x < 64) : X7_setsWithout σ (nI x) = some (σ, lN (swF x 6 0 18446744073709551615)) := by
  unfold X7_setsWithout
  have := X7_setsWithout_L (σ := σ) (kk := fun s y => some (s, y)) hx 6 0 FU 18446744073709551615 (fu_gt (by decide)) (by decide) (by decide)
  rw [nI_0, ← m1_lN] at this
  exact this
def PF (pc : Nat → Nat → List Nat) (o : List Nat) (x : Nat) : Prop := ∀ w, w < 64 → Uw pc o w → ¬ w &&& x = 0
theorem used_and {pc : Nat → Nat → List Nat} {o : List Nat} {x U : Nat} (hU : U < 2 ^ 64) (hb : ∀ w, w < 64 → (U.testBit w = true ↔ Uw pc o w)) : lg_cmp (lN U &&& lN (swF x 6 0 18446744073709551615)) 0 = 0 ↔ PF pc o x := by
  have hS := swF_lt (x := x) 6 0 18446744073709551615 (by decide)
  rw [lg_cmp_eq, wb_and hU hS, lz64, lN_e2 (Nat.lt_of_le_of_lt Nat.and_le_left hU) (by decide)]
  constructor
  · intro h w hw hu ha
    have : (U &&& swF x 6 0 18446744073709551615).testBit w = false := by rw [h, Nat.zero_testBit]
    rw [Nat.testBit_and, (hb w hw).mpr hu, (sw_bit hw).mpr ha] at this
    cases this
  · intro h
    apply Nat.eq_of_testBit_eq
    intro w
    rw [Nat.testBit_and, Nat.zero_testBit]
    by_cases hw : w < 64
    · cases h1 : U.testBit w with
      | false => rfl
      | true =>
        cases h2 : (swF x 6 0 18446744073709551615).testBit w with
        | false => rfl
        | true => exact absurd ((sw_bit hw).mp h2) (h w hw ((hb w hw).mp h1))
    · have : U.testBit w = false := Nat.testBit_lt_two_pow (Nat.lt_of_lt_of_le hU (Nat.pow_le_pow_right (n := 2) (by decide) (by omega : 64 ≤ w)))
      rw [this, Bool.false_and]
theorem pop_le6 : ∀ v, v < 64 → pop v ≤ 6 := by decide +kernel
theorem X7_forbid_L {σ : Mem} {pc : Nat → Nat → List Nat} {o : List Nat} {U : Nat} {kk : Mem → Int32 → Int32 → Option (Mem × Int32)} (hU : U < 2 ^ 64) (hbt : ∀ w, w < 64 → (U.testBit w = true ↔ Uw pc o w)) : ∀ (c i f : Nat) (b : Option Nat), c < f → i + c = 64 → Best (fun h => h < i ∧ PF pc o h) b → ∃ b', Best (fun h => h < 64 ∧ PF pc o h) b' ∧ X7_forbid_L59 (lN U) kk f σ (nI (fwO b 7)) (chI b) (nI i) = kk σ (nI (fwO b' 7)) (chI b') := by
  intro c
  induction c with
  | zero =>
    intro i f b hf he hb
    obtain ⟨g, rfl⟩ : ∃ g, f = g + 1 := ⟨f - 1, by omega⟩
    have : i = 64 := by omega
    subst this
    refine ⟨b, hb, ?_⟩
    rw [X7_forbid_L59, if_pos (by rw [nle_l (by omega) (by decide)]; decide)]
  | succ c ih =>
    intro i f b hf he hb
    obtain ⟨g, rfl⟩ : ∃ g, f = g + 1 := ⟨f - 1, by omega⟩
    have hp := pop_le6 i (by omega)
    have hfw : fwO b 7 ≤ 7 := by
      cases b with
      | none => exact Nat.le_refl _
      | some x =>
        have : x < i := hb.1.1
        have : pop x ≤ 6 := pop_le6 x (by omega)
        show pop x ≤ 7
        omega
    obtain ⟨u1, u2⟩ := Best.up (w := 7) hb (by omega)
    have no : ¬ (PF pc o i ∧ pop i < fwO b 7) → X7_forbid_L59 (lN U) kk (g + 1) σ (nI (fwO b 7)) (chI b) (nI i) = X7_forbid_L59 (lN U) kk g σ (nI (fwO b 7)) (chI b) (nI (i + 1)) → ∃ b', Best (fun h => h < 64 ∧ PF pc o h) b' ∧ X7_forbid_L59 (lN U) kk (g + 1) σ (nI (fwO b 7)) (chI b) (nI i) = kk σ (nI (fwO b' 7)) (chI b') := by
      intro q1 q2
      obtain ⟨b', c1, c2⟩ := ih (i + 1) g b (by omega) (by omega) (u2 q1)
      exact ⟨b', c1, q2.trans c2⟩
    by_cases q2 : pop i < fwO b 7
    · by_cases q3 : PF pc o i
      · obtain ⟨b', c1, c2⟩ := ih (i + 1) g (some i) (by omega) (by omega) (u1 ⟨q3, q2⟩)
        refine ⟨b', c1, ?_⟩
        rw [X7_forbid_L59, if_neg (by rw [nle_l (by omega) (by decide)]; omega), bc_eq, Option.bind_some]
        dsimp only
        rw [pop_bc i (by omega), if_neg (by rw [nle (by omega) (by omega)]; omega), X7_setsWithout_n (by omega), Option.bind_some]
        dsimp only
        rw [if_pos ((used_and hU hbt).mpr q3), bc_eq, Option.bind_some]
        dsimp only
        rw [pop_bc i (by omega), nadd_r]
        exact c2
      · refine no (fun w => q3 w.1) ?_
        rw [X7_forbid_L59, if_neg (by rw [nle_l (by omega) (by decide)]; omega), bc_eq, Option.bind_some]
        dsimp only
        rw [pop_bc i (by omega), if_neg (by rw [nle (by omega) (by omega)]; omega), X7_setsWithout_n (by omega), Option.bind_some]
        dsimp only
        rw [if_neg (fun w => q3 ((used_and hU hbt).mp w)), nadd_r]
    · refine no (fun w => q2 w.2) ?_
      rw [X7_forbid_L59, if_neg (by rw [nle_l (by omega) (by decide)]; omega), bc_eq, Option.bind_some]
      dsimp only
      rw [pop_bc i (by omega), if_pos (by rw [nle (by omega) (by omega)]; omega), nadd_r]
/-! the model's -/
theorem X8_fb16_L {x1 : Int32} {kk : Mem → Option (Mem × Int32)} : ∀ (m i : Nat) (σ : Mem), 64 - i < m → i ≤ 64 → X8_forbid_L16 x1 kk m σ (nI i) = kk (fz σ 825 i 64 0) := by
  intro m
  induction m with
  | zero => intro i σ h; omega
  | succ m ih =>
    intro i σ h1 h2
    rw [X8_forbid_L16]
    by_cases e : i = 64
    · subst e
      rw [if_pos (by rw [nle_l (by decide) (by decide)]; decide), fz_nil]
    · rw [if_neg (by rw [nle_l (by omega) (by decide)]; omega), b0, ck_n (by omega) (by decide), ncl (by omega), nadd_r, ih (i + 1) _ (by omega) (by omega)]
      congr 1
      exact fz_step (by omega)
theorem X8_fb81_L {σ : Mem} {x1 x3 x5 : Int32} {s : List Nat} {kk : Mem → Int32 → Option (Mem × Int32)} (hS : Sh8 σ s) : ∀ (rest pre : List Nat) (f : Nat), s = pre ++ rest → rest.length < f → X8_forbid_L81 x1 x3 (nI s.length) x5 kk f σ (nI (msk pre)) (nI pre.length) = kk σ (nI (msk s)) := by
  obtain ⟨s1, s2, s3, s4⟩ := hS
  intro rest
  induction rest with
  | nil =>
    intro pre f hs hf
    obtain ⟨g, rfl⟩ : ∃ g, f = g + 1 := ⟨f - 1, by omega⟩
    have : s = pre := by simpa using hs
    subst this
    rw [X8_forbid_L81, if_pos (by rw [nle (by omega) (by omega)]; omega)]
  | cons a t ih =>
    intro pre f hs hf
    obtain ⟨g, rfl⟩ : ∃ g, f = g + 1 := ⟨f - 1, by omega⟩
    have hl : s.length = pre.length + (t.length + 1) := by rw [hs]; simp
    have ha : a < 6 := s3 a (by rw [hs]; simp)
    have e1 : σ.1 815 0 pre.length = nI a := by
      have := s4 pre.length (by omega)
      rw [hs, getD_app] at this
      exact this
    rw [X8_forbid_L81, if_neg (by rw [nle (by omega) (by omega)]; omega), ck_n (by omega) (by decide), lt_eq, ncl (by omega), e1, one_shl (by omega), or_nI, nadd_r, ← msk_snoc]
    have := ih (pre ++ [a]) g (by rw [hs]; simp) (by simp at hf; omega)
    simpa using this
def WR (σ : Mem) (Q : Nat → Prop) : Prop := ∀ w, w < 64 → (σ.1 825 0 w = 0 ∧ ¬ Q w) ∨ (σ.1 825 0 w = 1 ∧ Q w)
theorem WR.fr {P : Nat → Nat → Prop} {σ τ : Mem} {Q : Nat → Prop} (h : WR σ Q) (f : Fr P σ τ) (h1 : ¬ P 825 0) : WR τ Q := fun w hw => by rw [f.i h1]; exact h w hw
theorem WR.cg {σ : Mem} {Q R : Nat → Prop} (h : WR σ Q) (e : ∀ w, w < 64 → (R w ↔ Q w)) : WR σ R := fun w hw => by rw [e w hw]; exact h w hw
theorem X8_fb52_L {r n m nn : Nat} {T : Nat → Nat → Int32} {o : List Nat} {kk : Mem → Option (Mem × Int32)} (hT : TV T nn) (hm : m < 2147483648) (hr : r < 6) (hn : n ≤ 4) (ho : Sg o) : ∀ (c i f : Nat) (Q : Nat → Prop) (σ : Mem), c < f → i + c = 6 ^ n → ML8 σ nn T → Rw8 σ r o → WR σ Q → ∃ τ, X8_forbid_L52 (nI r) (nI m) (nI n) kk f σ (nI i) = kk τ ∧ Fr S8 σ τ ∧ WR τ (fun w => Q w ∨ ∃ N, i ≤ N ∧ N < 6 ^ n ∧ msk (sh n N) = w ∧ outS T nn m (sh n N) = o) := by
  have h6 := p6 (show n ≤ 6 by omega)
  intro c
  induction c with
  | zero =>
    intro i f Q σ hf he hM hR hW
    obtain ⟨g, rfl⟩ : ∃ g, f = g + 1 := ⟨f - 1, by omega⟩
    refine ⟨σ, ?_, Fr.rf, hW.cg fun w _ => ⟨fun h => ?_, fun h => Or.inl h⟩⟩
    · rw [X8_forbid_L52, X8_sheetsOf_n (by omega), Option.bind_some]
      dsimp only
      rw [if_pos (by rw [nle (by omega) (by omega)]; omega)]
    · rcases h with h | ⟨N, h1, h2, -⟩
      · exact h
      · omega
  | succ c ih =>
    intro i f Q σ hf he hM hR hW
    obtain ⟨g, rfl⟩ : ∃ g, f = g + 1 := ⟨f - 1, by omega⟩
    obtain ⟨σ1, u1, u2, u3⟩ := X8_layNumber_n (σ := σ) (n := n) (N := i) (by omega) (by omega)
    have u2' : Fr S8 σ σ1 := u2.mono fun _ _ => s8_56
    obtain ⟨σ2, v1, v2, v3⟩ := X8_setBy_n (m := m) (hM.s8 u2') hT hm u3
    have f2 : Fr S8 σ σ2 := u2'.tr (v2.mono fun _ _ => s8_78)
    have v4 := X8_isOut_n hr v3 (hR.s8 f2) ho
    have hw := msk_lt _ (sh_sg n i)
    have W2 : WR σ2 Q := (hW.fr u2 (by decide)).fr v2 (by unfold P78; omega)
    have go : ∀ x : Int32, ((x = 1 ∧ (Q (msk (sh n i)) ∨ outS T nn m (sh n i) = o)) ∨ (x = 0 ∧ ¬ (Q (msk (sh n i)) ∨ outS T nn m (sh n i) = o))) → ∃ τ, X8_forbid_L52 (nI r) (nI m) (nI n) kk g (uI σ2 825 0 (msk (sh n i)) x) (nI i + 1) = kk τ ∧ Fr S8 σ τ ∧ WR τ (fun w => Q w ∨ ∃ N, i ≤ N ∧ N < 6 ^ n ∧ msk (sh n N) = w ∧ outS T nn m (sh n N) = o) := by
      intro x hx
      have fu : Fr S8 σ2 (uI σ2 825 0 (msk (sh n i)) x) := Fr.uI (by simp [S8])
      have f3 := f2.tr fu
      have W3 : WR (uI σ2 825 0 (msk (sh n i)) x) (fun w => Q w ∨ (w = msk (sh n i) ∧ outS T nn m (sh n i) = o)) := by
        intro w hw2
        by_cases e : w = msk (sh n i)
        · subst e
          have : (uI σ2 825 0 (msk (sh n i)) x).1 825 0 (msk (sh n i)) = x := by simp [uI_1]
          rw [this]
          rcases hx with ⟨h1, h2⟩ | ⟨h1, h2⟩
          · exact Or.inr ⟨h1, h2.imp id (fun q => ⟨rfl, q⟩)⟩
          · exact Or.inl ⟨h1, fun q => h2 (q.imp id (fun q => q.2))⟩
        · have : (uI σ2 825 0 (msk (sh n i)) x).1 825 0 w = σ2.1 825 0 w := by simp [uI_1, e]
          rw [this]
          rcases W2 w hw2 with ⟨h1, h2⟩ | ⟨h1, h2⟩
          · exact Or.inl ⟨h1, fun q => by
              rcases q with q | q
              · exact h2 q
              · exact e q.1⟩
          · exact Or.inr ⟨h1, Or.inl h2⟩
      obtain ⟨τ, t1, t2, t3⟩ := ih (i + 1) g _ _ (by omega) (by omega) (hM.s8 f3) (hR.s8 f3) W3
      refine ⟨τ, ?_, f3.tr t2, t3.cg fun w _ => ⟨?_, ?_⟩⟩
      · rw [nadd_r]; exact t1
      · rintro (h | ⟨N, h1, h2, h3, h4⟩)
        · exact Or.inl (Or.inl h)
        · by_cases e : N = i
          · subst e; exact Or.inl (Or.inr ⟨h3.symm, h4⟩)
          · exact Or.inr ⟨N, by omega, h2, h3, h4⟩
      · rintro ((h | ⟨h1, h2⟩) | ⟨N, h1, h2, h3, h4⟩)
        · exact Or.inl h
        · exact Or.inr ⟨i, by omega, by omega, h1.symm, h2⟩
        · exact Or.inr ⟨N, by omega, h2, h3, h4⟩
    have L := X8_fb81_L (x1 := nI r) (x3 := nI m) (x5 := nI i) (kk := fun (s12 : Mem) (y6_11 : Int32) => (ck y6_11 64 <| if (s12.1 825 0 y6_11.toNatClampNeg) = 0 then ((X8_isOut s12 (nI r)).bind fun q14 => if q14.2 = 0 then (if (0 : Int32) = 0 ∨ (0 : Int32) = 1 then ck y6_11 64 <| X8_forbid_L52 (nI r) (nI m) (nI n) kk g ((uI q14.1 825 0 y6_11.toNatClampNeg (0 : Int32))) ((nI i + (1 : Int32))) else none) else ((if (1 : Int32) = 0 ∨ (1 : Int32) = 1 then ck y6_11 64 <| X8_forbid_L52 (nI r) (nI m) (nI n) kk g ((uI q14.1 825 0 y6_11.toNatClampNeg (1 : Int32))) ((nI i + (1 : Int32))) else none))) else ((if (1 : Int32) = 0 ∨ (1 : Int32) = 1 then ck y6_11 64 <| X8_forbid_L52 (nI r) (nI m) (nI n) kk g ((uI s12 825 0 y6_11.toNatClampNeg (1 : Int32))) ((nI i + (1 : Int32))) else none)))) (u3.s8p v2) (sh n i) [] FU rfl (fu_gt (by rw [sh_len]; omega))
    rw [sh_len] at L
    rw [X8_forbid_L52, X8_sheetsOf_n (by omega), Option.bind_some]
    dsimp only
    rw [if_neg (by rw [nle (by omega) (by omega)]; omega), u1, Option.bind_some]
    dsimp only
    rw [v1, Option.bind_some]
    dsimp only
    have L2 : X8_forbid_L81 (nI r) (nI m) (nI n) (nI i) (fun (s12 : Mem) (y6_11 : Int32) => (ck y6_11 64 <| if (s12.1 825 0 y6_11.toNatClampNeg) = 0 then ((X8_isOut s12 (nI r)).bind fun q14 => if q14.2 = 0 then (if (0 : Int32) = 0 ∨ (0 : Int32) = 1 then ck y6_11 64 <| X8_forbid_L52 (nI r) (nI m) (nI n) kk g ((uI q14.1 825 0 y6_11.toNatClampNeg (0 : Int32))) ((nI i + (1 : Int32))) else none) else ((if (1 : Int32) = 0 ∨ (1 : Int32) = 1 then ck y6_11 64 <| X8_forbid_L52 (nI r) (nI m) (nI n) kk g ((uI q14.1 825 0 y6_11.toNatClampNeg (1 : Int32))) ((nI i + (1 : Int32))) else none))) else ((if (1 : Int32) = 0 ∨ (1 : Int32) = 1 then ck y6_11 64 <| X8_forbid_L52 (nI r) (nI m) (nI n) kk g ((uI s12 825 0 y6_11.toNatClampNeg (1 : Int32))) ((nI i + (1 : Int32))) else none)))) FU σ2 0 0 = _ := L
    rw [L2, ck_n hw (by decide), ncl (by omega)]
    rcases W2 (msk (sh n i)) hw with ⟨h1, h2⟩ | ⟨h1, h2⟩
    · rw [h1, if_pos rfl, v4, Option.bind_some]
      dsimp only
      by_cases q : outS T nn m (sh n i) = o
      · rw [decide_eq_true q, bI_t, if_neg one_ne0, b1, ck_n hw (by decide)]
        exact go 1 (Or.inl ⟨rfl, Or.inr q⟩)
      · rw [decide_eq_false q, bI_f, if_pos rfl, b0, ck_n hw (by decide)]
        exact go 0 (Or.inr ⟨rfl, fun w => by rcases w with w | w; exact h2 w; exact q w⟩)
    · rw [h1, if_neg one_ne0, b1, ck_n hw (by decide)]
      exact go 1 (Or.inl ⟨rfl, Or.inl h2⟩)
theorem X8_fb43_L {r m nn : Nat} {T : Nat → Nat → Int32} {o : List Nat} {kk : Mem → Option (Mem × Int32)} (hT : TV T nn) (hm : m < 2147483648) (hr : r < 6) (ho : Sg o) : ∀ (c n f : Nat) (Q : Nat → Prop) (σ : Mem), c < f → n + c = 5 → ML8 σ nn T → Rw8 σ r o → WR σ Q → ∃ τ, X8_forbid_L43 (nI r) (nI m) kk f σ (nI n) = kk τ ∧ Fr S8 σ τ ∧ WR τ (fun w => Q w ∨ ∃ k, n ≤ k ∧ k < 5 ∧ ∃ N, N < 6 ^ k ∧ msk (sh k N) = w ∧ outS T nn m (sh k N) = o) := by
  intro c
  induction c with
  | zero =>
    intro n f Q σ hf he hM hR hW
    obtain ⟨g, rfl⟩ : ∃ g, f = g + 1 := ⟨f - 1, by omega⟩
    refine ⟨σ, ?_, Fr.rf, hW.cg fun w _ => ⟨fun h => ?_, fun h => Or.inl h⟩⟩
    · rw [X8_forbid_L43, if_pos (by rw [nle_l (by omega) (by decide)]; omega)]
    · rcases h with h | ⟨N, h1, h2, -⟩
      · exact h
      · omega
  | succ c ih =>
    intro n f Q σ hf he hM hR hW
    obtain ⟨g, rfl⟩ : ∃ g, f = g + 1 := ⟨f - 1, by omega⟩
    have h6 := p6 (show n ≤ 6 by omega)
    obtain ⟨σ1, u1, u2, u3⟩ := X8_fb52_L (n := n) (m := m) (o := o) (kk := fun (s18 : Mem) => (X8_forbid_L43 (nI r) (nI m) kk g s18 ((nI n + (1 : Int32))))) hT hm hr (by omega) ho (6 ^ n) 0 FU Q σ (fu_gt (by omega)) (by omega) hM hR hW
    obtain ⟨τ, t1, t2, t3⟩ := ih (n + 1) g _ σ1 (by omega) (by omega) (hM.s8 u2) (hR.s8 u2) u3
    refine ⟨τ, ?_, u2.tr t2, t3.cg fun w _ => ⟨?_, ?_⟩⟩
    · rw [nI_0, nadd_r] at u1
      rw [X8_forbid_L43, if_neg (by rw [nle_l (by omega) (by decide)]; omega), nadd_r]
      exact u1.trans t1
    · rintro (h | ⟨k, h1, h2, N, h3, h4, h5⟩)
      · exact Or.inl (Or.inl h)
      · by_cases e : k = n
        · subst e; exact Or.inl (Or.inr ⟨N, by omega, h3, h4, h5⟩)
        · exact Or.inr ⟨k, by omega, h2, N, h3, h4, h5⟩
    · rintro ((h | ⟨N, -, h3, h4, h5⟩) | ⟨k, h1, h2, h3⟩)
      · exact Or.inl h
      · exact Or.inr ⟨n, by omega, by omega, N, h3, h4, h5⟩
      · exact Or.inr ⟨k, by omega, h2, h3⟩
theorem X8_fb169_0 {σ : Mem} {x4 x5 : Int32} {kk : Mem → Int32 → Option (Mem × Int32)} : ∀ (c i f : Nat), c < f → i + c = 64 → X8_forbid_L169 x4 x5 kk f σ 0 (nI i) = kk σ 0 := by
  intro c
  induction c with
  | zero =>
    intro i f hf he
    obtain ⟨g, rfl⟩ : ∃ g, f = g + 1 := ⟨f - 1, by omega⟩
    rw [X8_forbid_L169, if_pos (by rw [nle_l (by omega) (by decide)]; omega)]
  | succ c ih =>
    intro i f hf he
    obtain ⟨g, rfl⟩ : ∃ g, f = g + 1 := ⟨f - 1, by omega⟩
    rw [X8_forbid_L169, if_neg (by rw [nle_l (by omega) (by decide)]; omega), if_pos rfl, nadd_r]
    exact ih (i + 1) g (by omega) (by omega)
theorem X8_fb169_L {σ : Mem} {Q : Nat → Prop} {x4 : Int32} {x : Nat} {kk : Mem → Int32 → Option (Mem × Int32)} (hW : WR σ Q) (hx : x < 64) : ∀ (c i f : Nat), c < f → i + c = 64 → ∃ v : Int32, X8_forbid_L169 x4 (nI x) kk f σ 1 (nI i) = kk σ v ∧ ((v = 1 ∧ ∀ w, i ≤ w → w < 64 → Q w → ¬ w &&& x = 0) ∨ (v = 0 ∧ ¬ ∀ w, i ≤ w → w < 64 → Q w → ¬ w &&& x = 0)) := by
  intro c
  induction c with
  | zero =>
    intro i f hf he
    obtain ⟨g, rfl⟩ : ∃ g, f = g + 1 := ⟨f - 1, by omega⟩
    refine ⟨1, ?_, Or.inl ⟨rfl, fun w h1 h2 => by omega⟩⟩
    rw [X8_forbid_L169, if_pos (by rw [nle_l (by omega) (by decide)]; omega)]
  | succ c ih =>
    intro i f hf he
    obtain ⟨g, rfl⟩ : ∃ g, f = g + 1 := ⟨f - 1, by omega⟩
    obtain ⟨v, v1, v2⟩ := ih (i + 1) g (by omega) (by omega)
    have yes : ¬ (Q i ∧ i &&& x = 0) → X8_forbid_L169 x4 (nI x) kk (g + 1) σ 1 (nI i) = X8_forbid_L169 x4 (nI x) kk g σ 1 (nI (i + 1)) → ∃ v : Int32, X8_forbid_L169 x4 (nI x) kk (g + 1) σ 1 (nI i) = kk σ v ∧ ((v = 1 ∧ ∀ w, i ≤ w → w < 64 → Q w → ¬ w &&& x = 0) ∨ (v = 0 ∧ ¬ ∀ w, i ≤ w → w < 64 → Q w → ¬ w &&& x = 0)) := by
      intro hq he2
      refine ⟨v, he2.trans v1, ?_⟩
      rcases v2 with ⟨h1, h2⟩ | ⟨h1, h2⟩
      · refine Or.inl ⟨h1, fun w w1 w2 w3 w4 => ?_⟩
        by_cases e : w = i
        · subst e; exact hq ⟨w3, w4⟩
        · exact h2 w (by omega) w2 w3 w4
      · exact Or.inr ⟨h1, fun h => h2 (fun w w1 w2 => h w (by omega) w2)⟩
    rcases hW i (by omega) with ⟨h1, h2⟩ | ⟨h1, h2⟩
    · refine yes (fun w => h2 w.1) ?_
      rw [X8_forbid_L169, if_neg (by rw [nle_l (by omega) (by decide)]; omega), if_neg one_ne0, ck_n (by omega) (by decide), ncl (by omega), h1, if_pos rfl, nadd_r]
    · have hle : i &&& x ≤ i := Nat.and_le_left
      by_cases q : i &&& x = 0
      · refine ⟨0, ?_, Or.inr ⟨rfl, fun h => h i (by omega) (by omega) h2 q⟩⟩
        rw [X8_forbid_L169, if_neg (by rw [nle_l (by omega) (by decide)]; omega), if_neg one_ne0, ck_n (by omega) (by decide), ncl (by omega), h1, if_neg one_ne0, and_nI', if_pos (by rw [q]; rfl), nadd_r]
        exact X8_fb169_0 c (i + 1) g (by omega) (by omega)
      · refine yes (fun w => q w.2) ?_
        rw [X8_forbid_L169, if_neg (by rw [nle_l (by omega) (by decide)]; omega), if_neg one_ne0, ck_n (by omega) (by decide), ncl (by omega), h1, if_neg one_ne0, and_nI', if_neg (nI_ne0 (by omega) (by omega)), nadd_r]
theorem X8_fb158_L {σ : Mem} {Q P : Nat → Prop} {kk : Mem → Int32 → Option (Mem × Int32)} (hW : WR σ Q) (hP : ∀ x, P x ↔ ∀ w, w < 64 → Q w → ¬ w &&& x = 0) : ∀ (j f : Nat) (b : Option Nat), j < f → j ≤ 64 → Best (fun h => j ≤ h ∧ h ≤ 63 ∧ P h) b → ∃ b', Best (fun h => 0 ≤ h ∧ h ≤ 63 ∧ P h) b' ∧ X8_forbid_L158 kk f σ (chI b) (nI j - 1) = kk σ (chI b') := by
  intro j
  induction j with
  | zero =>
    intro f b hf hj hb
    obtain ⟨g, rfl⟩ : ∃ g, f = g + 1 := ⟨f - 1, by omega⟩
    refine ⟨b, hb, ?_⟩
    rw [X8_forbid_L158, if_pos i32_m1]
  | succ i ih =>
    intro f b hf hj hb
    obtain ⟨g, rfl⟩ : ∃ g, f = g + 1 := ⟨f - 1, by omega⟩
    have e0 : nI (i + 1) - 1 = nI i := by rw [nsub_r (by show 1 ≤ i + 1; omega)]; rfl
    have hbx : ∀ x, b = some x → x < 64 := by
      intro x e
      subst e
      have := hb.1.2.1
      omega
    obtain ⟨u1, u2⟩ := Best.dn (show i ≤ 63 by omega) hb
    have keep : ∀ b1 : Option Nat, Best (fun h => i ≤ h ∧ h ≤ 63 ∧ P h) b1 → ∃ b', Best (fun h => 0 ≤ h ∧ h ≤ 63 ∧ P h) b' ∧ X8_forbid_L158 kk g σ (chI b1) (nI i + -1) = kk σ (chI b') := by
      intro b1 hb1
      obtain ⟨b', c1, c2⟩ := ih g b1 (by omega) (by omega) hb1
      exact ⟨b', c1, by rw [sub_neg1]; exact c2⟩
    obtain ⟨v, v1, v2⟩ := X8_fb169_L (x4 := chI b) (x := i) (kk := fun (s27 : Mem) (y6_26 : Int32) => (if y6_26 = 0 then (X8_forbid_L158 kk g s27 (chI b) ((nI i + (-1 : Int32)))) else (if chI b = (-9 : Int32) then ((X8_forbid_L158 kk g s27 (nI i) ((nI i + (-1 : Int32))))) else ((X8_sizeOf s27 (nI i)).bind fun q30 => (X8_sizeOf q30.1 (chI b)).bind fun q31 => if q31.2 < q30.2 then (X8_forbid_L158 kk g q31.1 (chI b) ((nI i + (-1 : Int32)))) else ((X8_forbid_L158 kk g q31.1 (nI i) ((nI i + (-1 : Int32))))))))) hW (show i < 64 by omega) 64 0 FU (fu_gt (by decide)) (by decide)
    rw [nI_0] at v1
    rw [e0, X8_forbid_L158, if_neg (nnlt0 (by omega)), v1]
    rcases v2 with ⟨h1, h2⟩ | ⟨h1, h2⟩
    · have hPi : P i := (hP i).mpr (fun w hw => h2 w (by omega) hw)
      subst h1
      rw [if_neg one_ne0]
      cases hbb : b with
      | none =>
        rw [if_pos (show chI none = -9 from rfl)]
        exact keep (some i) (u1 ⟨hPi, fun x w => by rw [hbb] at w; cases w⟩)
      | some x =>
        have hx := hbx x hbb
        have p1 := pop_le6 x hx
        have p2 := pop_le6 i (by omega)
        rw [show chI (some x) = nI x from rfl, if_neg (nne_neg (by omega) (by decide)), X8_sizeOf_n (by omega), Option.bind_some]
        dsimp only
        rw [X8_sizeOf_n (by omega), Option.bind_some]
        dsimp only
        by_cases q2 : pop x < pop i
        · rw [if_pos (by rw [nlt (by omega) (by omega)]; exact q2)]
          have := keep b (u2 (fun w => by have := w.2 x hbb; omega))
          rw [hbb] at this
          exact this
        · rw [if_neg (by rw [nlt (by omega) (by omega)]; exact q2)]
          exact keep (some i) (u1 ⟨hPi, fun y w => by rw [hbb] at w; cases w; omega⟩)
    · have hPi : ¬ P i := fun w => h2 (fun z _ z2 => (hP i).mp w z z2)
      subst h1
      rw [if_pos rfl]
      exact keep b (u2 (fun w => hPi w.1))
theorem op_forbid {σ : Mem} (h : Rel σ) (a : Int32) : Both (fun σ => X7_forbid σ a) (fun σ => X8_forbid σ a) σ := by
  have n01 : ¬ (0 : Int32) ≤ -1 := by decide
  have s8 : ∀ {τ υ : Mem} {v : Int32}, X8_askedSigns τ a (nI 16) = some (υ, v) → X8_forbid τ a = if 0 ≤ v then (X8_forbid_L16 a (fun (s4 : Mem) => ((X8_onSet s4).bind fun q5 => X8_forbid_L43 a q5.2 (fun (s21 : Mem) => (X8_forbid_L158 (fun (s35 : Mem) (y4_34 : Int32) => (if y4_34 = (-9 : Int32) then ((some (s35, (-9 : Int32)))) else ((X8_sizeOf s35 y4_34).bind fun q36 => (X8_ask q36.1 y4_34 q36.2).bind fun q37 => some (q37.1, q37.2)))) FU s21 (-9 : Int32) (63 : Int32))) FU q5.1 (0 : Int32))) FU υ (0 : Int32)) else some (υ, v) := by
    intro τ υ v e
    unfold X8_forbid
    rw [show (16 : Int32) = nI 16 from rfl, e, Option.bind_some]
  rcases isR a with ⟨a7, a8⟩ | ⟨r, hr, rfl⟩
  · refine Both.mk' (σ1 := σ) (σ2 := σ) (r := -1) ?_ ?_ h
    · simp only [X7_forbid, a7, Option.bind_some, spl_none]
    · show X8_forbid _ _ = _
      rw [s8 (X8_askedSigns_no (a8 σ)), if_neg n01]
  rcases asRow h hr (most := 16) (by decide) with ⟨f, f1, f2, e7, e8⟩ | ⟨o, hl, sg, hS, hR, e7, e8⟩
  · refine Both.mk' (σ1 := ans7 σ f) (σ2 := met8 (ans7 σ f) f) (r := -3) ?_ ?_ (Rel_fnd h f f1 f2)
    · simp only [X7_forbid, X7_rowOf_n hr, Option.bind_some]
      rw [spl_some (by omega), show (16 : Int32) = nI 16 from rfl, e7]
      rfl
    · show X8_forbid _ _ = _
      rw [s8 (e8 _ (fun j => ans7_i (by decide) (by decide)) (fun j => ans7_i (by decide) (by decide))), if_neg (by decide)]
  obtain ⟨n, T, hP, hM, hT, hn⟩ := h.laws
  have on := onM_256 (T := T) hn
  have hpc := pcS_PcOK (m := onM T n) hT
  obtain ⟨σ1, u1, u2, u3⟩ := X6_know_n hT hP
  have hS1 : RowS σ1 r o := hS.fr u2 (by unfold P60; omega) (by unfold P60; omega)
  obtain ⟨σ2, v1, v2⟩ := X6_usedFor_n hpc u3 sg hl
  have uS : Fr Scr σ σ2 := (u2.mono fun c k q => Or.inl (by rcases q with rfl | rfl <;> decide)).tr (v2.mono fun c k q => Or.inl (by rcases q with rfl | rfl | rfl <;> decide))
  have u8 : ∀ c, 800 ≤ c → ∀ j, σ2.1 c 0 j = σ.1 c 0 j := fun c hc j => by rw [v2.i (by unfold P624; omega), u2.i (by unfold P60; omega)]
  obtain ⟨b', c1, c2⟩ := X7_forbid_L (σ := σ2) (pc := pcS T n (onM T n)) (o := o) (kk := fun (s14 : Mem) (y5_13 : Int32) (y6_13 : Int32) => (if y6_13 = (-9 : Int32) then (some (s14, (-9 : Int32))) else (some ((uI s14 713 0 0 y6_13), y5_13)))) (usA_lt 4 0 _ (by split <;> decide)) (fun w hw => used_bit hw) 64 0 FU none (fu_gt (by decide)) (by decide) (fun x w => by omega)
  have hb' : ∀ x, b' = some x → x < 64 := by
    intro x e
    subst e
    exact c1.1.1
  have st7 : X7_forbid σ (nI r) = if chI b' = -9 then some (σ2, -9) else some (uI σ2 713 0 0 (chI b'), nI (fwO b' 7)) := by
    simp only [X7_forbid, X7_rowOf_n hr, Option.bind_some]
    rw [spl_some (by omega), show (16 : Int32) = nI 16 from rfl, e7, Option.bind_some]
    show (if (0 : Int32) = 0 then _ else _) = _
    rw [if_pos rfl, u1, Option.bind_some]
    dsimp only
    rw [X4_pack_n (by omega) hS1 hl, Option.bind_some]
    dsimp only
    rw [v1, Option.bind_some]
    rw [nI_0] at c2
    exact c2
  have st8 : ∀ τ : Mem, (∀ c, 800 ≤ c → c ≠ 802 → ∀ j, τ.1 c 0 j = σ.1 c 0 j) → ∃ υ, Fr S8 τ υ ∧ X8_forbid τ (nI r) = if chI b' = -9 then some (υ, -9) else some (uI υ 802 0 0 (chI b'), nI (fwO b' 7)) := by
    intro τ ht
    have fz0 : Fr S8 τ (fz τ 825 0 64 0) := fz_fr (by simp [S8])
    have tM : ML8 (fz τ 825 0 64 0) n T := ⟨by rw [fz0.i (by simp [S8]), ht 810 (by omega) (by decide)]; exact hM.1, hM.2.1, fun k hk f hf => by rw [fz0.i (by simp [S8]), ht 811 (by omega) (by decide)]; exact hM.2.2 k hk f hf⟩
    have tO : Rw8 (fz τ 825 0 64 0) r o := ⟨by rw [fz0.i (by simp [S8]), ht 805 (by omega) (by decide)]; exact hR.1, hR.2.1, hR.2.2.cg fun j _ => by rw [fz0.i (by simp [S8]), ht 806 (by omega) (by decide)]⟩
    have W0 : WR (fz τ 825 0 64 0) (fun _ => False) := fun w hw => Or.inl ⟨by simp [fz, aI_1, hw], fun q => q⟩
    obtain ⟨τ1, g1, g2, g3⟩ := X8_fb43_L (m := onM T n) (o := o) (kk := fun (s21 : Mem) => (X8_forbid_L158 (fun (s35 : Mem) (y4_34 : Int32) => (if y4_34 = (-9 : Int32) then ((some (s35, (-9 : Int32)))) else ((X8_sizeOf s35 y4_34).bind fun q36 => (X8_ask q36.1 y4_34 q36.2).bind fun q37 => some (q37.1, q37.2)))) FU s21 (-9 : Int32) (63 : Int32))) hT (by omega) hr sg 5 0 FU _ (fz τ 825 0 64 0) (fu_gt (by decide)) (by decide) tM tO W0
    have W1 : WR τ1 (Uw (pcS T n (onM T n)) o) := g3.cg fun w _ => by
      constructor
      · rintro ⟨k, h1, N, h2, h3, h4⟩
        exact Or.inr ⟨k, by omega, h1, N, h2, h3, by rw [outS_ou]; exact h4⟩
      · rintro (h | ⟨k, -, h1, N, h2, h3, h4⟩)
        · exact h.elim
        · exact ⟨k, h1, N, h2, h3, by rw [← outS_ou]; exact h4⟩
    obtain ⟨b2, k1, k2⟩ := X8_fb158_L (P := PF (pcS T n (onM T n)) o) (kk := fun (s35 : Mem) (y4_34 : Int32) => (if y4_34 = (-9 : Int32) then ((some (s35, (-9 : Int32)))) else ((X8_sizeOf s35 y4_34).bind fun q36 => (X8_ask q36.1 y4_34 q36.2).bind fun q37 => some (q37.1, q37.2)))) W1 (fun x => Iff.rfl) 64 FU none (fu_gt (by decide)) (by decide) (fun x w => by omega)
    have eb : b2 = b' := by
      refine Best.uq k1 (c1.cg fun x => ⟨fun w => ⟨by omega, w.2.2⟩, fun w => ⟨by omega, by omega, w.2⟩⟩)
    subst eb
    refine ⟨τ1, fz0.tr g2, ?_⟩
    have z := X8_fb16_L (x1 := nI r) (kk := fun (s4 : Mem) => ((X8_onSet s4).bind fun q5 => X8_forbid_L43 (nI r) q5.2 (fun (s21 : Mem) => (X8_forbid_L158 (fun (s35 : Mem) (y4_34 : Int32) => (if y4_34 = (-9 : Int32) then ((some (s35, (-9 : Int32)))) else ((X8_sizeOf s35 y4_34).bind fun q36 => (X8_ask q36.1 y4_34 q36.2).bind fun q37 => some (q37.1, q37.2)))) FU s21 (-9 : Int32) (63 : Int32))) FU q5.1 (0 : Int32))) FU 0 τ (fu_gt (by decide)) (by decide)
    rw [nI_0] at z g1
    rw [s8 (e8 τ (fun j => ht 805 (by omega) (by decide) j) (fun j => ht 806 (by omega) (by decide) j)), if_pos (by decide)]
    refine z.trans ?_
    rw [X8_onSet_n tM, Option.bind_some]
    refine g1.trans ?_
    refine Eq.trans k2 ?_
    by_cases w : chI b2 = -9
    · rw [if_pos w, if_pos w]
    · rw [if_neg w, if_neg w]
      cases b2 with
      | none => exact absurd rfl w
      | some x =>
        have hx := hb' x rfl
        show ((X8_sizeOf τ1 (nI x)).bind _) = _
        rw [X8_sizeOf_n (by omega), Option.bind_some]
        rfl
  by_cases w : chI b' = -9
  · obtain ⟨υ, v1, v2⟩ := st8 σ2 (fun c hc _ j => u8 c hc j)
    rw [if_pos w] at st7 v2
    exact Both.mk' st7 v2 (Rel_scr h (uS.tr (v1.mono fun _ _ q => q.scr)))
  · obtain ⟨υ, v1, v2⟩ := st8 (uI σ2 713 0 0 (chI b')) (fun c hc _ j => by
      have : ¬ c = 713 := by omega
      simp only [uI_1, this, false_and, if_false]
      exact u8 c hc j)
    rw [if_neg w] at st7 v2
    have fa : Fr (fun c k => Scr c k ∨ c = 713 ∨ c = 802) σ σ2 := uS.mono fun _ _ => Or.inl
    have fb : Fr (fun c k => Scr c k ∨ c = 713 ∨ c = 802) σ2 (uI σ2 713 0 0 (chI b')) := Fr.uI (Or.inr (Or.inl rfl))
    have fc : Fr (fun c k => Scr c k ∨ c = 713 ∨ c = 802) (uI σ2 713 0 0 (chI b')) υ := v1.mono fun _ _ q => Or.inl q.scr
    have fd : Fr (fun c k => Scr c k ∨ c = 713 ∨ c = 802) υ (uI υ 802 0 0 (chI b')) := Fr.uI (Or.inr (Or.inr rfl))
    refine Both.mk' st7 v2 (Rel_T h (((fa.tr fb).tr fc).tr fd) ?_)
    have e1 : (uI υ 802 0 0 (chI b')).1 713 0 0 = υ.1 713 0 0 := by simp [uI_1]
    rw [e1, v1.i (by simp [S8])]
    simp [uI_1]
