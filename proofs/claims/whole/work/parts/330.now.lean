/-! the press that is at work, changed -/
def PN (c k : Nat) : Prop := (100 ≤ c ∧ c ≤ 104 ∧ k < 8) ∨ (200 ≤ c ∧ c ≤ 204 ∧ k = 0) ∨ (c = 811 ∨ c = 826 ∨ c = 827 ∨ c = 828) ∨ Scr c k
theorem PN_no {c k : Nat} (h1 : ¬ (100 ≤ c ∧ c ≤ 104 ∧ k < 8)) (h2 : ¬ (200 ≤ c ∧ c ≤ 204 ∧ k = 0)) (h3 : ¬ (c = 811 ∨ c = 826 ∨ c = 827 ∨ c = 828)) (h4 : ¬ Scr c k) : ¬ PN c k := by
  rintro (h | h | h | h)
  · exact h1 h
  · exact h2 h
  · exact h3 h
  · exact h4 h
theorem Rel_now {σ τ : Mem} (h : Rel σ) (f : Fr PN σ τ) (hr : (∀ k, k < 8 → ∃ x, τ.2.2 200 0 k = some x ∧ x < 8) ∧ ∀ k l, k < 8 → l < 8 → τ.2.2 200 0 k = τ.2.2 200 0 l → k = l) (hh : ∀ x, x < 8 → τ.1 104 x 0 = 0 ∨ τ.1 104 x 0 = 1)
    (hp : ∀ n, n ≤ 8 → σ.1 810 0 0 = nI n → PR σ 0 n (fun i => σ.1 811 0 i) (fun i => σ.1 828 0 i) (fun i => σ.1 827 0 i) (σ.1 826 0 0) → PR τ 0 n (fun i => τ.1 811 0 i) (fun i => τ.1 828 0 i) (fun i => τ.1 827 0 i) (τ.1 826 0 0)) : Rel τ := by
  obtain ⟨a, b, c, d⟩ := h
  obtain ⟨r, hu, n, n8, e1, e2, e3⟩ := d
  refine ⟨a.fr f ?_, fun r hr => (b r hr).fr f ?_ ?_ ?_ ?_, fun t ht => (c t ht).fr f ?_ ?_ ?_ ?_, ?_⟩
  · intro c hc
    simp only [List.mem_cons, List.not_mem_nil, or_false] at hc
    rcases hc with rfl | rfl | rfl | rfl | rfl | rfl | rfl | rfl | rfl | rfl <;> simp [PN, Scr]
  · simp [PN, Scr]; omega
  · simp [PN, Scr]; omega
  · simp [PN, Scr]
  · simp [PN, Scr]
  · simp [PN, Scr]; omega
  · simp [PN, Scr]; omega
  · simp [PN, Scr]
  · simp [PN, Scr]
  have nr : ∀ p, p < 4 → p ≠ 0 → ¬ PN 200 p := by intro p h1 h2; simp [PN, Scr]; omega
  refine ⟨fun p hp => ?_, ⟨fun x hx => ?_, fun x h1 h2 => ?_⟩, n, n8, by rw [f.i (by simp [PN, Scr])]; exact e1, hp n n8 e1 e2, fun k hk => ?_⟩
  · by_cases q : p = 0
    · subst q
      refine ⟨fun k hk => ?_, hr.2⟩
      obtain ⟨x, x1, x2⟩ := hr.1 k hk
      exact ⟨x, x1, by omega, by omega⟩
    · refine ⟨fun k hk => ?_, fun k l hk hl e => ?_⟩
      · rw [f.r (nr p hp q)]; exact (r p hp).1 k hk
      · rw [f.r (nr p hp q), f.r (nr p hp q)] at e; exact (r p hp).2 k l hk hl e
  · by_cases q : x < 8
    · exact hh x q
    · rw [f.i (by simp [PN, Scr]; omega)]; exact hu.1 x hx
  · rw [f.i (by simp [PN, Scr]; omega)]; exact hu.2 x h1 h2
  · have e9 : ∀ i, τ.1 829 0 i = σ.1 829 0 i := fun i => f.i (by simp [PN, Scr]) i
    unfold KeptOK
    simp only [e9]
    rw [f.i (by simp [PN, Scr])]
    rcases e3 k hk with q | ⟨q0, q⟩
    · exact Or.inl q
    · exact Or.inr ⟨q0, q.fr f (fun c q1 q2 => by simp [PN, Scr]; omega) (fun c x q1 q2 q3 q4 => by simp [PN, Scr]; omega)⟩
/-- a law's number -/
theorem X8_isLaw_n {σ : Mem} {n k : Nat} (h : σ.1 810 0 0 = nI n) (hn : n ≤ 8) (hk : k < 2147483648) : X8_isLaw σ (nI k) = some (σ, if k < n then 1 else 0) := by
  unfold X8_isLaw
  rw [X8_in_eq, h, in_n hk (by omega)]
  dsimp only [Option.bind_some]
  by_cases q : k < n
  · rw [if_pos q, b1]
  · rw [if_neg q, b0]
theorem X8_isLaw_neg {σ : Mem} {a : Int32} (h : a < 0) : X8_isLaw σ a = some (σ, 0) := by
  unfold X8_isLaw
  rw [in_bad (Or.inl h)]
  rfl
theorem isL {n : Nat} (hn : n ≤ 8) (a : Int32) : ((∀ (σ : Mem) (T : Nat → Nat → Int32), PL σ 0 n T → X2_numbered σ 0 a = some (σ, none)) ∧ ∀ σ : Mem, σ.1 810 0 0 = nI n → X8_isLaw σ a = some (σ, 0)) ∨ ∃ k, k < n ∧ a = nI k := by
  rcases ix3 a n with ha | ⟨k, h1, h2, rfl⟩ | ⟨k, hk, -, rfl⟩
  · exact Or.inl ⟨fun σ T _ => X2_numbered_neg (by decide) ha, fun σ _ => X8_isLaw_neg ha⟩
  · exact Or.inl ⟨fun σ T hP => X2_numbered_big (by decide) hP h1 h2, fun σ h => by rw [X8_isLaw_n h hn h2, if_neg (by omega)]⟩
  · exact Or.inr ⟨k, hk, rfl⟩
theorem X8_isLaw_k {σ : Mem} {n k : Nat} (h : σ.1 810 0 0 = nI n) (hn : n ≤ 8) (hk : k < n) : X8_isLaw σ (nI k) = some (σ, 1) := by
  rw [X8_isLaw_n h hn (by omega), if_pos hk]
/-- the press, all of it -/
theorem Rel.press {σ : Mem} (h : Rel σ) : ∃ n, n ≤ 8 ∧ σ.1 810 0 0 = nI n ∧ PR σ 0 n (fun i => σ.1 811 0 i) (fun i => σ.1 828 0 i) (fun i => σ.1 827 0 i) (σ.1 826 0 0) ∧ PL σ 0 n (fun k f => σ.1 811 0 (5 * k + f)) ∧ ML8 σ n (fun k f => σ.1 811 0 (5 * k + f)) ∧ TV (fun k f => σ.1 811 0 (5 * k + f)) n := by
  obtain ⟨-, -, n, hn, h1, h2, -⟩ := h.2.2.2
  exact ⟨n, hn, h1, h2, h2.pl (by decide) hn, ⟨h1, hn, fun k _ f _ => rfl⟩, LawV_TV (LM := fun i => σ.1 811 0 i) h2.2.2.2.2⟩
/-! law -/
theorem X1_tell_n {σ : Mem} {x g : Nat} (hx : x < 41) (hg : g < 5) : X1_tell σ x (nI g) = some (σ, if g < 4 then σ.1 (100 + g) x 0 else if σ.1 104 x 0 = 0 then 1 else 0) := by
  unfold X1_tell
  rw [if_pos hx]
  match g, hg with
  | 0, _ => rfl
  | 1, _ => rfl
  | 2, _ => rfl
  | 3, _ => rfl
  | 4, _ =>
    rw [if_neg (show ¬ nI 4 = (0 : Int32) by decide), if_neg (show ¬ nI 4 = (1 : Int32) by decide), if_neg (show ¬ nI 4 = (2 : Int32) by decide), if_neg (show ¬ nI 4 = (3 : Int32) by decide), if_neg (show ¬ 4 < 4 by decide)]
    by_cases q : σ.1 104 x 0 = 0
    · rw [if_pos q, if_pos q]
    · rw [if_neg q, if_neg q]
  | g + 5, h => omega
theorem X8_lawOf_n {σ : Mem} {k g : Nat} (hk : k < 8) (hg : g < 5) (h4 : σ.1 811 0 (5 * k + 4) = 0 ∨ σ.1 811 0 (5 * k + 4) = 1) : X8_lawOf σ (nI k) (nI g) = some (σ, if g < 4 then σ.1 811 0 (5 * k + g) else if σ.1 811 0 (5 * k + 4) = 0 then 1 else 0) := by
  unfold X8_lawOf
  rw [nmul_l, nadd_r, nadd]
  show (if nI g = (4 : Int32) then ck (nI (5 * k + 4)) 40 (some (σ, (1 : Int32) - σ.1 811 0 (nI (5 * k + 4)).toNatClampNeg)) else ck (nI (5 * k + g)) 40 (some (σ, σ.1 811 0 (nI (5 * k + g)).toNatClampNeg))) = _
  rw [ncl (show 5 * k + 4 < 2147483648 by omega), ncl (show 5 * k + g < 2147483648 by omega), ck_n (by omega) (by decide), ck_n (by omega) (by decide)]
  by_cases q : g = 4
  · subst q
    rw [if_pos (show nI 4 = (4 : Int32) from rfl), if_neg (by decide)]
    rcases h4 with h4 | h4
    · rw [h4]; rfl
    · rw [h4]; rfl
  · rw [if_neg (by rw [neq_r (by omega) (by decide)]; exact q), if_pos (by omega)]
theorem op_law {σ : Mem} (h : Rel σ) (a b : Int32) : Both (fun σ => X7_law σ a b) (fun σ => X8_law σ a b) σ := by
  obtain ⟨n, hn, h1, h2, hP, hM, hT⟩ := h.press
  rcases isL hn a with ⟨a7, a8⟩ | ⟨k, hk, rfl⟩
  · refine Both.mk' (σ1 := σ) (σ2 := σ) (r := -1) ?_ ?_ h
    · simp only [X7_law, a7 σ _ hP, Option.bind_some, spl_none]
    · show X8_law _ _ _ = _
      unfold X8_law
      rw [a8 σ h1]
      rfl
  obtain ⟨x, x1, x2, x3⟩ := hP.2.2 k hk
  rcases to_n b 4 (by decide) with hb | ⟨g, hg, rfl, hb1, hb2⟩
  · refine Both.mk' (σ1 := σ) (σ2 := σ) (r := -1) ?_ ?_ h
    · simp only [X7_law, X2_numbered_n (by decide) hP hk x1 x2, Option.bind_some]
      rw [spl_some x2]
      rcases hb with hb | hb
      · rw [if_pos hb]
      · by_cases q : b < 0
        · rw [if_pos q]
        · rw [if_neg q, if_neg (show ¬ b ≤ 4 from hb)]
    · show X8_law _ _ _ = _
      unfold X8_law
      rw [X8_isLaw_k h1 hn hk]
      dsimp only [Option.bind_some]
      rw [if_neg one_ne0, in_bad (by rcases hb with hb | hb; exact Or.inl hb; exact Or.inr (i32_nle2.mp hb))]
      rfl
  · obtain ⟨kd, xx, -, -, -, -, -, -, h4⟩ := hT k hk
    have e4 : σ.1 104 x 0 = σ.1 811 0 (5 * k + 4) := x3 4 (by decide)
    have ev : (if g < 4 then σ.1 (100 + g) x 0 else if σ.1 104 x 0 = 0 then (1 : Int32) else 0) = if g < 4 then σ.1 811 0 (5 * k + g) else if σ.1 811 0 (5 * k + 4) = 0 then 1 else 0 := by
      rw [e4]
      by_cases q : g < 4
      · rw [if_pos q, if_pos q]; exact x3 g (by omega)
      · rw [if_neg q, if_neg q]
    refine Both.mk' (σ1 := uI σ 713 0 0 (if g < 4 then σ.1 811 0 (5 * k + g) else if σ.1 811 0 (5 * k + 4) = 0 then 1 else 0)) (σ2 := tol σ (if g < 4 then σ.1 811 0 (5 * k + g) else if σ.1 811 0 (5 * k + 4) = 0 then 1 else 0)) (r := 1) ?_ ?_ (Rel_tol h _)
    · simp only [X7_law, X2_numbered_n (by decide) hP hk x1 x2, Option.bind_some]
      rw [spl_some x2, if_neg hb1, if_pos (show nI g ≤ (4 : Int32) from hb2), X1_tell_n x2 (by omega), ev]
      rfl
    · show X8_law _ _ _ = _
      unfold X8_law
      rw [X8_isLaw_k (n := n) (by simpa [uI_1] using h1) hn hk]
      dsimp only [Option.bind_some]
      rw [if_neg one_ne0, in_ok hb1 (by rw [i32_nlt]; exact hb2)]
      dsimp only [Option.bind_some]
      rw [if_neg one_ne0, X8_lawOf_n (by omega) (by omega) (by simpa [uI_1] using h4)]
      simp [uI_1, X8_ask, tol]
/-! ink, findings -/
theorem op_ink {σ : Mem} (h : Rel σ) (a : Int32) : Both (fun σ => X7_ink σ a) (fun σ => X8_ink σ a) σ := by
  obtain ⟨n, hn, h1, h2, hP, hM, hT⟩ := h.press
  rcases ix3 a 6 with ha | ⟨k, k1, k2, rfl⟩ | ⟨s, hs, hs2, rfl⟩
  · refine Both.mk' (σ1 := σ) (σ2 := σ) (r := -1) ?_ ?_ h
    · show X7_ink _ _ = _
      unfold X7_ink
      rw [if_pos ha]
    · show X8_ink _ _ = _
      unfold X8_ink
      rw [X8_isSign_eq, if_pos ha]
      rfl
  · refine Both.mk' (σ1 := σ) (σ2 := σ) (r := -1) ?_ ?_ h
    · show X7_ink _ _ = _
      unfold X7_ink
      rw [if_neg (nnlt0 k2), if_neg (by rw [nlt_r k2 (by decide)]; omega)]
    · show X8_ink _ _ = _
      unfold X8_ink
      rw [X8_isSign_eq, if_neg (nnlt0 k2), if_neg (by rw [nlt_r k2 (by decide)]; omega)]
      rfl
  · refine Both.mk' (σ1 := σ) (σ2 := σ) (r := σ.1 827 0 s) ?_ ?_ h
    · show X7_ink _ _ = _
      unfold X7_ink X2_inksOf
      rw [if_neg (nnlt0 hs2), if_pos (by rw [nlt_r hs2 (by decide)]; exact hs), if_pos (by decide), if_neg (nnlt0 hs2), if_neg (by rw [nle_l hs2 (by decide)]; omega), ck_n hs (by decide), ncl hs2, h2.2.2.1 s hs]
      rfl
    · show X8_ink _ _ = _
      unfold X8_ink
      rw [X8_isSign_eq, if_neg (nnlt0 hs2), if_pos (by rw [nlt_r hs2 (by decide)]; exact hs)]
      dsimp only [Option.bind_some]
      rw [if_neg one_ne0, ck_n hs (by decide), ncl hs2]
theorem op_findings {σ : Mem} (h : Rel σ) (a : Int32) : Both (fun σ => X7_findings σ a) (fun σ => X8_findings σ a) σ := by
  by_cases q1 : a < 1
  · refine Both.mk' (σ1 := σ) (σ2 := σ) (r := -1) ?_ ?_ h
    · show X7_findings _ _ = _
      unfold X7_findings
      rw [if_pos q1]
    · show X8_findings _ _ = _
      unfold X8_findings
      rw [in_bad (Or.inl q1)]
      rfl
  by_cases q2 : a ≤ 5
  · rcases ix3 a 6 with ha | ⟨k, k1, k2, rfl⟩ | ⟨s, hs, hs2, rfl⟩
    · exact absurd (show a < 1 from i32_lt_nI (a := 1) ha (by decide)) q1
    · rw [nle_r k2 (by decide)] at q2
      exact absurd q2 (by show ¬ k ≤ 5; omega)
    · rw [nlt_r hs2 (by decide)] at q1
      have q1 : ¬ s < 1 := q1
      refine Both.mk' (σ1 := σ) (σ2 := σ) (r := σ.1 801 0 s) ?_ ?_ h
      · show X7_findings _ _ = _
        unfold X7_findings
        rw [if_neg (by rw [nlt_r hs2 (by decide)]; exact q1), if_pos q2, ck_n hs (by decide), ncl hs2, h.1.2.2.2.2 s (by omega) hs]
      · show X8_findings _ _ = _
        unfold X8_findings
        rw [in_ok (by rw [nlt_r hs2 (by decide)]; exact q1) (by rw [i32_nlt]; exact q2)]
        dsimp only [Option.bind_some]
        rw [if_neg one_ne0, ck_n hs (by decide), ncl hs2]
  · refine Both.mk' (σ1 := σ) (σ2 := σ) (r := -1) ?_ ?_ h
    · show X7_findings _ _ = _
      unfold X7_findings
      rw [if_neg q1, if_neg q2]
    · show X8_findings _ _ = _
      unfold X8_findings
      rw [in_bad (Or.inr (i32_nle2.mp q2))]
      rfl
/-! hush -/
theorem LawV.cg {L M : Nat → Int32} {k j : Nat} (h : LawV L k) (e : ∀ f, f < 5 → M (5 * j + f) = L (5 * k + f)) : LawV M j := by
  obtain ⟨kd, x, h1, h2, h3, h4, h5, h6, h7⟩ := h
  have e0 : M (5 * j) = L (5 * k) := e 0 (by decide)
  exact ⟨kd, x, h1, h2, by rw [e0]; exact h3, by rw [e 1 (by decide)]; exact h4, by rw [e 2 (by decide)]; exact h5, by rw [e 3 (by decide)]; exact h6, by rw [e 4 (by decide)]; exact h7⟩
theorem X7_hush_n {σ : Mem} {n k x : Nat} {T : Nat → Nat → Int32} {b : Int32} (hP : PL σ 0 n T) (hk : k < n) (x1 : σ.2.2 200 0 k = some x) (x2 : x < 41) (hb : b = 0 ∨ b = 1) (h4 : σ.1 104 x 0 = 0 ∨ σ.1 104 x 0 = 1) : X7_hush σ (nI k) b = some (uI σ 104 x 0 b, σ.1 104 x 0) := by
  simp only [X7_hush, X2_numbered_n (by decide) hP hk x1 x2, Option.bind_some]
  rw [spl_some x2]
  rcases hb with rfl | rfl <;> rcases h4 with h4 | h4 <;> rw [h4] <;> rfl
theorem op_hush {σ : Mem} (h : Rel σ) (a b : Int32) : Both (fun σ => X7_hush σ a b) (fun σ => X8_hush σ a b) σ := by
  obtain ⟨n, hn, h1, h2, hP, hM, hT⟩ := h.press
  rcases isL hn a with ⟨a7, a8⟩ | ⟨k, hk, rfl⟩
  · refine Both.mk' (σ1 := σ) (σ2 := σ) (r := -1) ?_ ?_ h
    · simp only [X7_hush, a7 σ _ hP, Option.bind_some, spl_none]
    · show X8_hush _ _ _ = _
      unfold X8_hush
      rw [a8 σ h1]
      rfl
  obtain ⟨x, x1, x0, x2, x3⟩ := h2.2.2.2.1 k hk
  rcases to_n b 1 (by decide) with hb | ⟨g, hg, hbb, hb1, hb2⟩
  · refine Both.mk' (σ1 := σ) (σ2 := σ) (r := -1) ?_ ?_ h
    · simp only [X7_hush, X2_numbered_n (by decide) hP hk x1 (show x < 41 by omega), Option.bind_some]
      rw [spl_some (by omega)]
      rcases hb with hb | hb
      · rw [if_pos hb]
      · by_cases q : b < 0
        · rw [if_pos q]
        · rw [if_neg q, if_neg (show ¬ b ≤ 1 from hb)]
    · show X8_hush _ _ _ = _
      unfold X8_hush
      rw [X8_isLaw_k h1 hn hk]
      dsimp only [Option.bind_some]
      rw [if_neg one_ne0, in_bad (by rcases hb with hb | hb; exact Or.inl hb; exact Or.inr (i32_nle2.mp hb))]
      rfl
  · have hb01 : b = 0 ∨ b = 1 := by
      have : g = 0 ∨ g = 1 := by omega
      rcases this with rfl | rfl
      · exact Or.inl hbb
      · exact Or.inr hbb
    have h4 := h.2.2.2.2.1.1 x (by omega)
    have e4 : σ.1 104 x 0 = σ.1 811 0 (5 * k + 4) := x3 4 (by decide)
    refine Both.mk' (σ1 := uI σ 104 x 0 b) (σ2 := uI (uI σ 104 x 0 b) 811 0 (5 * k + 4) b) (r := σ.1 104 x 0) (X7_hush_n hP hk x1 (by omega) hb01 h4) ?_ ?_
    · show X8_hush _ _ _ = _
      unfold X8_hush
      rw [X8_isLaw_k (n := n) (by simpa [uI_1] using h1) hn hk]
      dsimp only [Option.bind_some]
      rw [if_neg one_ne0, in_ok hb1 (by rw [i32_nlt]; exact hb2)]
      dsimp only [Option.bind_some]
      rw [if_neg one_ne0, nmul_l, nadd_r]
      show ck (nI (5 * k + 4)) 40 _ = _
      rw [ck_n (by omega) (by decide), lt_eq]
      show ck (nI (5 * k + 4)) 40 (some (uI (uI σ 104 x 0 b) 811 0 (nI (5 * k + 4)).toNatClampNeg b, (uI σ 104 x 0 b).1 811 0 (nI (5 * k + 4)).toNatClampNeg)) = _
      rw [ck_n (by omega) (by decide), ncl (by omega), uI_1, if_neg (by rintro ⟨q, -⟩; cases q), e4]
    · have hr := h.2.2.2.1 0 (by decide)
      refine Rel_now h ((Fr.uI (Or.inl ⟨by omega, by omega, by omega⟩)).tr (Fr.uI (Or.inr (Or.inr (Or.inl (Or.inl rfl)))))) ⟨fun j hj => ?_, hr.2⟩ (fun y hy => ?_) (fun m m8 m1 m2 => ?_)
      · obtain ⟨y, y1, y2, y3⟩ := hr.1 j hj
        exact ⟨y, y1, by omega⟩
      · by_cases q : y = x
        · subst q; simp [uI_1, hb01]
        · simp only [uI_1]
          simp [q]
          exact h.2.2.2.2.1.1 y (by omega)
      · obtain ⟨p1, ⟨d, p2, p3, p4, p5⟩, p6, p7, p8⟩ := m2
        have em : m = n := by rw [h1] at m1; exact ((neq (by omega) (by omega)).mp m1).symm
        subst em
        have tb : ∀ i f, i < m → f < 5 → (uI (uI σ 104 x 0 b) 811 0 (5 * k + 4) b).1 811 0 (5 * i + f) = if i = k ∧ f = 4 then b else σ.1 811 0 (5 * i + f) := by
          intro i f hi hf
          by_cases q : i = k ∧ f = 4
          · rw [if_pos q]
            obtain ⟨rfl, rfl⟩ := q
            simp [uI_1]
          · rw [if_neg q]
            have : ¬ 5 * i + f = 5 * k + 4 := by omega
            simp [uI_1, this]
        refine ⟨by simpa [uI_1] using p1, ⟨d, p2, by simpa [uI_1] using p3, by simpa [uI_1] using p4, fun e he => ?_⟩, fun s hs => by simpa [uI_1] using p6 s hs, fun i hi => ?_, fun i hi => ?_⟩
        · have := p5 e he
          simpa [uI_1, uI_2] using this
        · obtain ⟨y, y1, y2, y3, y4⟩ := p7 i hi
          refine ⟨y, y1, y2, y3, fun f hf => ?_⟩
          dsimp only
          rw [tb i f hi hf]
          dsimp only at y4
          by_cases q : i = k
          · subst q
            have : y = x := by rw [y1] at x1; exact Option.some.inj x1
            subst this
            by_cases q2 : f = 4
            · subst q2; simp [uI_1]
            · rw [if_neg (by rintro ⟨-, w⟩; exact q2 w), ← y4 f hf]
              have : ¬ 100 + f = 104 := by omega
              simp [uI_1, this]
          · have : ¬ y = x := fun w => q (hr.2 i k (by omega) (by omega) (by rw [y1, x1, w]))
            rw [if_neg (by rintro ⟨w, -⟩; exact q w), ← y4 f hf]
            simp [uI_1, this]
        · by_cases q : i = k
          · subst q
            obtain ⟨kd, xx, g1, g2, g3, g4, g5, g6, g7⟩ := p8 i hi
            have t0 := tb i 0 hi (by decide)
            have t1 := tb i 1 hi (by decide)
            have t2 := tb i 2 hi (by decide)
            have t3 := tb i 3 hi (by decide)
            have t4 := tb i 4 hi (by decide)
            rw [if_neg (by rintro ⟨-, w⟩; cases w)] at t0 t1 t2 t3
            rw [if_pos ⟨rfl, rfl⟩] at t4
            have t0 : (uI (uI σ 104 x 0 b) 811 0 (5 * i + 4) b).1 811 0 (5 * i) = σ.1 811 0 (5 * i) := t0
            refine ⟨kd, xx, g1, g2, ?_, ?_, ?_, ?_, ?_⟩
            · exact t0.trans g3
            · exact t1.trans g4
            · dsimp only; rw [t2]; exact g5
            · dsimp only; rw [t3]; exact g6
            · dsimp only; rw [t4]; exact hb01
          · exact (p8 i hi).cg (fun f hf => by rw [tb i f hi hf, if_neg (by rintro ⟨w, -⟩; exact q w)])
