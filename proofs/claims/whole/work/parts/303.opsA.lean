theorem le_neg {x : Int32} (h : x < 0) : ¬ (0 : Int32) ≤ x := fun q => by
  rw [Int32.le_iff_toInt_le] at q
  rw [Int32.lt_iff_toInt_lt] at h
  omega
theorem ans7_i {σ : Mem} {f c k j : Nat} (h : c ≠ 711) (h2 : c ≠ 712) : (ans7 σ f).1 c k j = σ.1 c k j := by simp [ans7, uI_1, h, h2]
theorem X8_askedRow_neg {σ : Mem} {a : Int32} (h : a < 0) : X8_askedRow σ a = some (σ, -1) := by
  unfold X8_askedRow
  rw [X8_isRow_neg h]
  rfl
theorem X8_askedRow_big {σ : Mem} {a : Nat} (h : 6 ≤ a) (h2 : a < 2147483648) : X8_askedRow σ (nI a) = some (σ, -1) := by
  unfold X8_askedRow
  rw [X8_isRow_n h2, if_neg (by omega)]
  rfl
theorem X8_askedRow_no {σ : Mem} {a : Nat} (h : a < 6) (hs : σ.1 805 0 a = -9) : X8_askedRow σ (nI a) = some (met8 σ 1, -3) := by
  unfold X8_askedRow
  rw [X8_isRow_n (by omega), if_pos h]
  simp only [Option.bind_some]
  rw [if_neg one_ne0, ck_n h (by decide), ncl (by omega), hs, if_neg (by decide), nl, X8_meet_n (by decide)]
  rfl
theorem X8_askedRow_n {σ : Mem} {a n : Nat} (h : a < 6) (hs : σ.1 805 0 a = nI n) (hn : n ≤ 40) : X8_askedRow σ (nI a) = some (σ, 0) := by
  unfold X8_askedRow
  rw [X8_isRow_n (by omega), if_pos h]
  simp only [Option.bind_some]
  rw [if_neg one_ne0, ck_n h (by decide), ncl (by omega), hs, if_pos (nI_pos' (by omega))]
theorem X8_askedText_neg {σ : Mem} {a : Int32} (h : a < 0) : X8_askedText σ a = some (σ, -1) := by
  unfold X8_askedText
  rw [X8_isText_neg h]
  rfl
theorem X8_askedText_big {σ : Mem} {a : Nat} (h : 4 ≤ a) (h2 : a < 2147483648) : X8_askedText σ (nI a) = some (σ, -1) := by
  unfold X8_askedText
  rw [X8_isText_n h2, if_neg (by omega)]
  rfl
theorem X8_askedText_no {σ : Mem} {a : Nat} (h : a < 4) (hs : σ.1 808 0 a = -9) : X8_askedText σ (nI a) = some (met8 σ 1, -3) := by
  unfold X8_askedText
  rw [X8_isText_n (by omega), if_pos h]
  simp only [Option.bind_some]
  rw [if_neg one_ne0, ck_n h (by decide), ncl (by omega), hs, if_neg (by decide), nl, X8_meet_n (by decide)]
  rfl
theorem X8_askedText_n {σ : Mem} {a n : Nat} (h : a < 4) (hs : σ.1 808 0 a = nI n) (hn : n ≤ 60) : X8_askedText σ (nI a) = some (σ, 0) := by
  unfold X8_askedText
  rw [X8_isText_n (by omega), if_pos h]
  simp only [Option.bind_some]
  rw [if_neg one_ne0, ck_n h (by decide), ncl (by omega), hs, if_pos (nI_pos' (by omega))]
/-! the plain questions -/
theorem op_asked {σ : Mem} (h : Rel σ) : Both X7_asked X8_asked σ := Both.mk' (r := σ.1 713 0 0) (σ1 := σ) (σ2 := σ) rfl (by show some (σ, σ.1 802 0 0) = _; rw [h.1.1]) h
theorem op_upper {σ : Mem} (h : Rel σ) : Both X7_upper X8_upper σ := Both.mk' (r := σ.2.1 714 0 0) (σ1 := σ) (σ2 := σ) rfl (by show some (σ, σ.2.1 803 0 0) = _; rw [h.1.2.1]) h
theorem op_lower {σ : Mem} (h : Rel σ) : Both X7_lower X8_lower σ := Both.mk' (r := σ.2.1 715 0 0) (σ1 := σ) (σ2 := σ) rfl (by show some (σ, σ.2.1 804 0 0) = _; rw [h.1.2.2.1]) h
theorem op_finding {σ : Mem} (h : Rel σ) : Both X7_finding X8_finding σ := Both.mk' (r := σ.1 712 0 0) (σ1 := σ) (σ2 := σ) rfl (by show some (σ, σ.1 800 0 0) = _; rw [h.1.2.2.2.1]) h
/-- the memory of a place told -/
def tol (σ : Mem) (v : Int32) : Mem := uI (uI σ 713 0 0 v) 802 0 0 v
theorem Rel_tol {σ : Mem} (h : Rel σ) (v : Int32) : Rel (tol σ v) := by
  obtain ⟨a, b, c, d⟩ := h
  have f : Fr ScA σ (tol σ v) := (Fr.uI (Or.inr (by decide))).tr (Fr.uI (Or.inr (by decide)))
  refine ⟨?_, RB_scr f b c d⟩
  obtain ⟨a1, a2, a3, a4, a5⟩ := a
  refine ⟨by simp [tol, uI_1], by simpa [tol, uI_2] using a2, by simpa [tol, uI_2] using a3, by simpa [tol, uI_1] using a4, fun g g1 g2 => by simpa [tol, uI_1] using a5 g g1 g2⟩
theorem in_n {i n : Nat} (hi : i < 2147483648) (hn : n < 2147483648) : (if nI i < (0 : Int32) then (0 : Int32) else if nI n - 1 < nI i then 0 else 1) = if i < n then 1 else 0 := by
  rw [if_neg (nnlt0 hi)]
  cases n with
  | zero =>
    have h1 : ¬ i < 0 := by omega
    rw [if_neg h1, if_pos (show nI 0 - 1 < nI i from i32_lt_nI (by decide) hi)]
  | succ n =>
    rw [nsub_r (by show 1 ≤ n + 1; omega)]
    show (if nI n < nI i then (0 : Int32) else 1) = _
    by_cases h : i < n + 1
    · rw [if_pos h, if_neg (by rw [nlt (by omega) hi]; omega)]
    · rw [if_neg h, if_pos (by rw [nlt (by omega) hi]; omega)]
theorem X8_at_bad {σ τ : Mem} {a b v : Int32} (h : X8_askedRow σ a = some (τ, v)) (hv : v < 0) : X8_at σ a b = some (τ, v) := by
  unfold X8_at
  rw [h]
  simp only [Option.bind_some]
  rw [if_neg (le_neg hv)]
theorem X8_at_bey {σ : Mem} {a n : Nat} {b : Int32} (h : a < 6) (hs : σ.1 805 0 a = nI n) (hn : n ≤ 40) (hb : b < 0 ∨ ∃ i, n ≤ i ∧ i < 2147483648 ∧ b = nI i) : X8_at σ (nI a) b = some (met8 σ 2, -3) := by
  unfold X8_at
  rw [X8_askedRow_n h hs hn]
  simp only [Option.bind_some]
  rw [if_pos (by decide), ck_n h (by decide), ncl (by omega), hs, X8_in_eq]
  have e : (if b < (0 : Int32) then (0 : Int32) else if nI n - 1 < b then 0 else 1) = 0 := by
    rcases hb with hb | ⟨i, h1, h2, rfl⟩
    · rw [if_pos hb]
    · rw [in_n h2 (by omega), if_neg (by omega)]
  rw [e]
  simp only [Option.bind_some]
  rw [if_pos trivial, nl, X8_meet_n (by decide)]
  rfl
theorem X8_at_n {σ : Mem} {a n i : Nat} (h : a < 6) (hs : σ.1 805 0 a = nI n) (hn : n ≤ 40) (hi : i < n) : X8_at σ (nI a) (nI i) = some (uI σ 802 0 0 (σ.1 806 0 (40 * a + i)), 1) := by
  unfold X8_at
  rw [X8_askedRow_n h hs hn]
  simp only [Option.bind_some]
  rw [if_pos (by decide), ck_n h (by decide), ncl (by omega), hs, X8_in_eq, in_n (by omega) (by omega), if_pos hi]
  simp only [Option.bind_some]
  rw [if_neg one_ne0, X8_rowAt_n (by omega)]
  rfl
theorem op_at {σ : Mem} (h : Rel σ) (a b : Int32) : Both (fun σ => X7_at σ a b) (fun σ => X8_at σ a b) σ := by
  rcases ix3 a 6 with ha | ⟨k, h1, h2, rfl⟩ | ⟨r, hr, -, rfl⟩
  · refine Both.mk' (σ1 := σ) (σ2 := σ) (r := -1) ?_ (X8_at_bad (X8_askedRow_neg ha) (by decide)) h
    simp only [X7_at, X7_rowOf_neg ha, Option.bind_some, spl_none]
  · refine Both.mk' (σ1 := σ) (σ2 := σ) (r := -1) ?_ (X8_at_bad (X8_askedRow_big h1 h2) (by decide)) h
    simp only [X7_at, X7_rowOf_big h1 h2, Option.bind_some, spl_none]
  · have hrl : rl r = 40 := by unfold rl; rw [if_pos hr]
    rcases h.2.1 r hr with ⟨s1, s2⟩ | ⟨n, hn, s1, s2, sc⟩
    · refine Both.mk' (σ1 := ans7 σ 1) (σ2 := met8 (ans7 σ 1) 1) (r := -3) ?_ (X8_at_bad (X8_askedRow_no hr (by rw [ans7_i (by decide) (by decide)]; exact s2)) (by decide)) (Rel_fnd h 1 (by decide) (by decide))
      simp only [X7_at, X7_rowOf_n hr, Option.bind_some]
      rw [spl_some (by omega), X4_isThere_no (by omega) s1]
      simp only [Option.bind_some]
      rw [if_pos trivial, nl, X7_answer_n (by decide) (by decide)]
      rfl
    · by_cases hb : b < 0 ∨ ∃ i, n ≤ i ∧ i < 2147483648 ∧ b = nI i
      · refine Both.mk' (σ1 := ans7 σ 2) (σ2 := met8 (ans7 σ 2) 2) (r := -3) ?_ (X8_at_bey hr (by rw [ans7_i (by decide) (by decide)]; exact s2) hn hb) (Rel_fnd h 2 (by decide) (by decide))
        have hp : X4_hasPlace σ r b = some (σ, 0) := by
          rcases hb with hb | ⟨i, h1, h2, rfl⟩
          · exact X4_hasPlace_neg (by omega) hb
          · exact X4_hasPlace_out (by omega) s1 (by omega) h1 h2
        simp only [X7_at, X7_rowOf_n hr, Option.bind_some]
        rw [spl_some (by omega), X4_isThere_n (by omega) s1 (by omega)]
        simp only [Option.bind_some]
        rw [if_neg one_ne0, hp]
        simp only [Option.bind_some]
        rw [if_pos trivial, nl, X7_answer_n (by decide) (by decide)]
        rfl
      · obtain ⟨i, hi, rfl⟩ : ∃ i, i < n ∧ b = nI i := by
          rcases ix3 b n with q | q | ⟨i, q1, q2, q3⟩
          · exact absurd (Or.inl q) hb
          · exact absurd (Or.inr q) hb
          · exact ⟨i, q1, q3⟩
        refine Both.mk' (σ1 := uI σ 713 0 0 (σ.1 400 r i)) (σ2 := tol σ (σ.1 400 r i)) (r := 1) ?_ ?_ (Rel_tol h _)
        · simp only [X7_at, X7_rowOf_n hr, Option.bind_some]
          rw [spl_some (by omega), X4_isThere_n (by omega) s1 (by omega)]
          simp only [Option.bind_some]
          rw [if_neg one_ne0, X4_hasPlace_in (by omega) s1 (by omega) hi]
          simp only [Option.bind_some]
          rw [if_neg one_ne0, X4_cell_in (by omega) s1 (by omega) hi]
          rfl
        · show X8_at _ _ _ = _
          rw [X8_at_n hr (by rw [uI_1, if_neg (by rintro ⟨q, -⟩; cases q)]; exact s2) hn hi, uI_1, if_neg (by rintro ⟨q, -⟩; cases q), ← sc i hi]
          rfl
/-! lay -/
theorem Rel_lay {σ : Mem} (h : Rel σ) {r n i : Nat} (hr : r < 6) (s1 : σ.1 401 r 0 = nI n) (s2 : σ.1 805 0 r = nI n) (hn : n ≤ 40) (hi : i < n) (v : Int32) : Rel (uI (uI σ 400 r i v) 806 0 (40 * r + i) v) := by
  obtain ⟨a, b, c, d⟩ := h
  have f : Fr (fun c k => (c = 400 ∧ k = r) ∨ c = 806) σ (uI (uI σ 400 r i v) 806 0 (40 * r + i) v) := (Fr.uI (Or.inl ⟨rfl, rfl⟩)).tr (Fr.uI (Or.inr rfl))
  have hA : ∀ c, c ∈ [713, 802, 714, 803, 715, 804, 712, 800, 711, 801] → ¬ ((c = 400 ∧ (0 : Nat) = r) ∨ c = 806) := by
    intro c hc
    simp only [List.mem_cons, List.not_mem_nil, or_false] at hc
    omega
  refine ⟨a.fr f hA, fun r2 hr2 => ?_, fun t ht => (c t ht).fr f (by omega) (by omega) (by omega) (by omega), d.fr f (by omega) (by omega) (by omega) (by omega) (by omega) (by omega) (by omega) (by omega) (by omega)⟩
  by_cases e : r2 = r
  · subst e
    rcases b r2 hr with ⟨q, -⟩ | ⟨m, m1, m2, m3, m4⟩
    · rw [q] at s1; exact absurd s1.symm (nne_neg (by omega) (by decide))
    · have em : m = n := by rw [m2] at s1; exact (neq (by omega) (by omega)).mp s1
      subst em
      refine Or.inr ⟨m, m1, by simpa [uI_1] using m2, by simpa [uI_1] using m3, fun j hj => ?_⟩
      by_cases ej : j = i
      · subst ej; simp [uI_1]
      · simp [uI_1, ej, m4 j hj]
  · rcases b r2 hr2 with ⟨q1, q2⟩ | ⟨m, m1, m2, m3, m4⟩
    · exact Or.inl ⟨by simpa [uI_1] using q1, by simpa [uI_1] using q2⟩
    · refine Or.inr ⟨m, m1, by simpa [uI_1] using m2, by simpa [uI_1] using m3, fun j hj => ?_⟩
      have : ¬ 40 * r2 + j = 40 * r + i := by omega
      simp [uI_1, e, this, m4 j hj]
theorem X8_lay_bad {σ τ : Mem} {a b c v : Int32} (h : X8_at σ a b = some (τ, v)) (hv : v < 0) : X8_lay σ a b c = some (τ, v) := by
  unfold X8_lay
  rw [h]
  simp only [Option.bind_some]
  rw [if_neg (le_neg hv)]
theorem X8_lay_n {σ : Mem} {a n i : Nat} {c : Int32} (h : a < 6) (hs : σ.1 805 0 a = nI n) (hn : n ≤ 40) (hi : i < n) : X8_lay σ (nI a) (nI i) c = some (uI (uI σ 802 0 0 (σ.1 806 0 (40 * a + i))) 806 0 (40 * a + i) c, 1) := by
  unfold X8_lay
  rw [X8_at_n h hs hn hi]
  simp only [Option.bind_some]
  rw [if_pos (by decide), X8_setRow_n (by omega)]
  rfl
theorem op_lay {σ : Mem} (h : Rel σ) (a b c : Int32) : Both (fun σ => X7_lay σ a b c) (fun σ => X8_lay σ a b c) σ := by
  rcases ix3 a 6 with ha | ⟨k, h1, h2, rfl⟩ | ⟨r, hr, -, rfl⟩
  · refine Both.mk' (σ1 := σ) (σ2 := σ) (r := -1) ?_ (X8_lay_bad (X8_at_bad (X8_askedRow_neg ha) (by decide)) (by decide)) h
    simp only [X7_lay, X7_rowOf_neg ha, Option.bind_some, spl_none]
  · refine Both.mk' (σ1 := σ) (σ2 := σ) (r := -1) ?_ (X8_lay_bad (X8_at_bad (X8_askedRow_big h1 h2) (by decide)) (by decide)) h
    simp only [X7_lay, X7_rowOf_big h1 h2, Option.bind_some, spl_none]
  · have hrl : rl r = 40 := by unfold rl; rw [if_pos hr]
    rcases h.2.1 r hr with ⟨s1, s2⟩ | ⟨n, hn, s1, s2, sc⟩
    · refine Both.mk' (σ1 := ans7 σ 1) (σ2 := met8 (ans7 σ 1) 1) (r := -3) ?_ (X8_lay_bad (X8_at_bad (X8_askedRow_no hr (by rw [ans7_i (by decide) (by decide)]; exact s2)) (by decide)) (by decide)) (Rel_fnd h 1 (by decide) (by decide))
      simp only [X7_lay, X7_rowOf_n hr, Option.bind_some]
      rw [spl_some (by omega), X4_isThere_no (by omega) s1]
      simp only [Option.bind_some]
      rw [if_pos trivial, nl, X7_answer_n (by decide) (by decide)]
      rfl
    · by_cases hb : b < 0 ∨ ∃ i, n ≤ i ∧ i < 2147483648 ∧ b = nI i
      · refine Both.mk' (σ1 := ans7 σ 2) (σ2 := met8 (ans7 σ 2) 2) (r := -3) ?_ (X8_lay_bad (X8_at_bey hr (by rw [ans7_i (by decide) (by decide)]; exact s2) hn hb) (by decide)) (Rel_fnd h 2 (by decide) (by decide))
        have hp : X4_hasPlace σ r b = some (σ, 0) := by
          rcases hb with hb | ⟨i, h1, h2, rfl⟩
          · exact X4_hasPlace_neg (by omega) hb
          · exact X4_hasPlace_out (by omega) s1 (by omega) h1 h2
        simp only [X7_lay, X7_rowOf_n hr, Option.bind_some]
        rw [spl_some (by omega), X4_isThere_n (by omega) s1 (by omega)]
        simp only [Option.bind_some]
        rw [if_neg one_ne0, hp]
        simp only [Option.bind_some]
        rw [if_pos trivial, nl, X7_answer_n (by decide) (by decide)]
        rfl
      · obtain ⟨i, hi, rfl⟩ : ∃ i, i < n ∧ b = nI i := by
          rcases ix3 b n with q | q | ⟨i, q1, q2, q3⟩
          · exact absurd (Or.inl q) hb
          · exact absurd (Or.inr q) hb
          · exact ⟨i, q1, q3⟩
        have h' := Rel_lay (Rel_tol h (σ.1 400 r i)) hr (n := n) (i := i) (by simpa [tol, uI_1] using s1) (by simpa [tol, uI_1] using s2) hn hi c
        refine Both.mk' (σ1 := uI (uI σ 713 0 0 (σ.1 400 r i)) 400 r i c) (σ2 := uI (uI (uI (uI σ 713 0 0 (σ.1 400 r i)) 400 r i c) 802 0 0 (σ.1 400 r i)) 806 0 (40 * r + i) c) (r := 1) ?_ ?_ ?_
        · simp only [X7_lay, X7_rowOf_n hr, Option.bind_some]
          rw [spl_some (by omega), X4_isThere_n (by omega) s1 (by omega)]
          simp only [Option.bind_some]
          rw [if_neg one_ne0, X4_hasPlace_in (by omega) s1 (by omega) hi]
          simp only [Option.bind_some]
          rw [if_neg one_ne0, X4_cell_in (by omega) s1 (by omega) hi]
          simp only [Option.bind_some]
          rw [X4_change_in (n := n) (by omega) (by simpa [uI_1] using s1) (by omega) hi]
          rfl
        · show X8_lay _ _ _ _ = _
          rw [X8_lay_n hr (n := n) (by simpa [uI_1] using s2) hn hi]
          simp only [uI_1]
          rw [if_neg (by rintro ⟨q, -⟩; cases q), if_neg (by rintro ⟨q, -⟩; cases q), ← sc i hi]
        · have e : uI (uI (uI (uI σ 713 0 0 (σ.1 400 r i)) 400 r i c) 802 0 0 (σ.1 400 r i)) 806 0 (40 * r + i) c = uI (uI (tol σ (σ.1 400 r i)) 400 r i c) 806 0 (40 * r + i) c := by
            congr 1
            refine Prod.ext ?_ rfl
            funext c' k' j'
            simp only [uI_1, tol]
            by_cases q1 : c' = 802
            · subst q1; simp
            · simp [q1]
          rw [e]
          exact h'
