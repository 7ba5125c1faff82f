/-- a loop over numbers, from i on, m times -/
def fo {α : Type} (f : Nat → α → α) : Nat → Nat → α → α
  | 0, _, a => a
  | m + 1, i, a => fo f m (i + 1) (f i a)
theorem fo_congr {α : Type} {f g : Nat → α → α} : ∀ (m i : Nat) (a : α), (∀ j, i ≤ j → j < i + m → f j = g j) → fo f m i a = fo g m i a := by
  intro m
  induction m with
  | zero => intros; rfl
  | succ m ih =>
    intro i a h
    rw [fo, fo, h i (by omega) (by omega)]
    exact ih (i + 1) _ (fun j h1 h2 => h j (by omega) (by omega))
/-- places lo .. hi - 1 of a model's row are v -/
def fz (σ : Mem) (c lo hi : Nat) (v : Int32) : Mem := aI σ c 0 (fun j => if lo ≤ j ∧ j < hi then v else σ.1 c 0 j)
theorem fz_nil {σ : Mem} {c lo : Nat} {v : Int32} : fz σ c lo lo v = σ := aI_id (fun j => if_neg (by omega))
theorem fz_step {σ : Mem} {c lo hi : Nat} {v : Int32} (h : lo < hi) : fz (uI σ c 0 lo v) c (lo + 1) hi v = fz σ c lo hi v := by
  unfold fz
  refine aI_uI (fun j => ?_)
  by_cases e : j = lo
  · subst e
    rw [if_neg (by omega), if_pos (by omega), uI_1, if_pos ⟨rfl, rfl, rfl⟩]
  · have e2 : (uI σ c 0 lo v).1 c 0 j = σ.1 c 0 j := by simp [uI_1, e]
    rw [e2]
    by_cases q : lo + 1 ≤ j ∧ j < hi
    · have q2 : lo ≤ j ∧ j < hi := by omega
      rw [if_pos q, if_pos q2]
    · have q2 : ¬ (lo ≤ j ∧ j < hi) := by omega
      rw [if_neg q, if_neg q2]
theorem fz_fr {P : Nat → Nat → Prop} {σ : Mem} {c lo hi : Nat} {v : Int32} (h : P c 0) : Fr P σ (fz σ c lo hi v) := Fr.aI h
/-- a row is another one -/
theorem Rel_row {σ τ : Mem} {r : Nat} (h : Rel σ) (hr : r < 6) (f : Fr (fun c k => ((c = 400 ∨ c = 401) ∧ k = r) ∨ c = 805 ∨ c = 806 ∨ Scr c k) σ τ) (h5 : ∀ r2, r2 < 6 → r2 ≠ r → τ.1 805 0 r2 = σ.1 805 0 r2) (h6 : ∀ r2, r2 < 6 → r2 ≠ r → ∀ j, j < 40 → τ.1 806 0 (40 * r2 + j) = σ.1 806 0 (40 * r2 + j)) (hn : RowOK τ r) : Rel τ := by
  obtain ⟨a, b, c, d⟩ := h
  refine ⟨a.fr f ?_, fun r2 hr2 => ?_, fun t ht => (c t ht).fr f ?_ ?_ ?_ ?_, d.fr f ?_ ?_ ?_ ?_ ?_ ?_ ?_ ?_ ?_⟩
  · intro c hc
    simp only [List.mem_cons, List.not_mem_nil, or_false] at hc
    rcases hc with rfl | rfl | rfl | rfl | rfl | rfl | rfl | rfl | rfl | rfl <;> simp [Scr]
  · by_cases e : r2 = r
    · subst e; exact hn
    · have g1 : ¬ (((401 = 400 ∨ 401 = 401) ∧ r2 = r) ∨ 401 = 805 ∨ 401 = 806 ∨ Scr 401 r2) := by simp [Scr, e]; omega
      have g2 : ¬ (((400 = 400 ∨ 400 = 401) ∧ r2 = r) ∨ 400 = 805 ∨ 400 = 806 ∨ Scr 400 r2) := by simp [Scr, e]; omega
      rcases b r2 hr2 with ⟨q1, q2⟩ | ⟨m, m1, m2, m3, m4⟩
      · exact Or.inl ⟨by rw [f.i g1]; exact q1, by rw [h5 r2 hr2 e]; exact q2⟩
      · exact Or.inr ⟨m, m1, by rw [f.i g1]; exact m2, by rw [h5 r2 hr2 e]; exact m3, fun j hj => by rw [f.i g2, h6 r2 hr2 e j (by omega)]; exact m4 j hj⟩
  all_goals (simp [Scr]; try omega)
/-- a text is another one -/
theorem Rel_text {σ τ : Mem} {t : Nat} (h : Rel σ) (ht : t < 4) (f : Fr (fun c k => ((c = 400 ∨ c = 401) ∧ k = 6 + t) ∨ c = 808 ∨ c = 809 ∨ Scr c k) σ τ) (h5 : ∀ r2, r2 < 4 → r2 ≠ t → τ.1 808 0 r2 = σ.1 808 0 r2) (h6 : ∀ r2, r2 < 4 → r2 ≠ t → ∀ j, j < 60 → τ.1 809 0 (60 * r2 + j) = σ.1 809 0 (60 * r2 + j)) (hn : TextOK τ t) : Rel τ := by
  obtain ⟨a, b, c, d⟩ := h
  refine ⟨a.fr f ?_, fun r hr => (b r hr).fr f ?_ ?_ ?_ ?_, fun t2 ht2 => ?_, d.fr f ?_ ?_ ?_ ?_ ?_ ?_ ?_ ?_ ?_⟩
  · intro c hc
    simp only [List.mem_cons, List.not_mem_nil, or_false] at hc
    rcases hc with rfl | rfl | rfl | rfl | rfl | rfl | rfl | rfl | rfl | rfl <;> simp [Scr]
  · simp [Scr]; omega
  · simp [Scr]; omega
  · simp [Scr]
  · simp [Scr]
  · by_cases e : t2 = t
    · subst e; exact hn
    · have g1 : ¬ (((401 = 400 ∨ 401 = 401) ∧ 6 + t2 = 6 + t) ∨ 401 = 808 ∨ 401 = 809 ∨ Scr 401 (6 + t2)) := by simp [Scr]; omega
      have g2 : ¬ (((400 = 400 ∨ 400 = 401) ∧ 6 + t2 = 6 + t) ∨ 400 = 808 ∨ 400 = 809 ∨ Scr 400 (6 + t2)) := by simp [Scr]; omega
      rcases c t2 ht2 with ⟨q1, q2⟩ | ⟨m, m1, m2, m3, m4⟩
      · exact Or.inl ⟨by rw [f.i g1]; exact q1, by rw [h5 t2 ht2 e]; exact q2⟩
      · exact Or.inr ⟨m, m1, by rw [f.i g1]; exact m2, by rw [h5 t2 ht2 e]; exact m3, fun j hj => by rw [f.i g2, h6 t2 ht2 e j (by omega)]; exact m4 j hj⟩
  all_goals (simp [Scr]; try omega)
/-! tear -/
theorem op_tear {σ : Mem} (h : Rel σ) (a : Int32) : Both (fun σ => X7_tear σ a) (fun σ => X8_tear σ a) σ := by
  have bad : ∀ {σ τ : Mem} {v : Int32}, X8_askedRow σ a = some (τ, v) → v < 0 → X8_tear σ a = some (τ, v) := by
    intro σ τ v h1 hv
    unfold X8_tear
    rw [h1]
    simp only [Option.bind_some]
    rw [if_neg (le_neg hv)]
  rcases ix3 a 6 with ha | ⟨k, h1, h2, rfl⟩ | ⟨r, hr, -, rfl⟩
  · refine Both.mk' (σ1 := σ) (σ2 := σ) (r := -1) ?_ (bad (X8_askedRow_neg ha) (by decide)) h
    simp only [X7_tear, X7_rowOf_neg ha, Option.bind_some, spl_none]
  · refine Both.mk' (σ1 := σ) (σ2 := σ) (r := -1) ?_ (bad (X8_askedRow_big h1 h2) (by decide)) h
    simp only [X7_tear, X7_rowOf_big h1 h2, Option.bind_some, spl_none]
  · rcases h.2.1 r hr with ⟨s1, s2⟩ | ⟨n, hn, s1, s2, sc⟩
    · refine Both.mk' (σ1 := ans7 σ 1) (σ2 := met8 (ans7 σ 1) 1) (r := -3) ?_ (bad (X8_askedRow_no hr (by rw [ans7_i (by decide) (by decide)]; exact s2)) (by decide)) (Rel_fnd h 1 (by decide) (by decide))
      simp only [X7_tear, X7_rowOf_n hr, Option.bind_some]
      rw [spl_some (by omega), X4_isThere_no (by omega) s1]
      simp only [Option.bind_some]
      rw [if_pos trivial, nl, X7_answer_n (by decide) (by decide)]
      rfl
    · refine Both.mk' (σ1 := uI σ 401 r 0 (-1)) (σ2 := uI (uI σ 401 r 0 (-1)) 805 0 r (-9)) (r := 1) ?_ ?_ ?_
      · simp only [X7_tear, X7_rowOf_n hr, Option.bind_some]
        rw [spl_some (by omega), X4_isThere_n (by omega) s1 (by omega)]
        simp only [Option.bind_some]
        rw [if_neg one_ne0, X4_leave_eq (by omega)]
        rfl
      · show X8_tear _ _ = _
        unfold X8_tear
        rw [X8_askedRow_n hr (n := n) (by simpa [uI_1] using s2) hn]
        simp only [Option.bind_some]
        rw [if_pos (by decide), ck_n hr (by decide), ncl (by omega)]
      · refine Rel_row h hr ((Fr.uI (Or.inl ⟨Or.inr rfl, rfl⟩)).tr (Fr.uI (Or.inr (Or.inl rfl)))) (fun r2 _ e => by simp [uI_1, e]) (fun r2 _ _ j _ => by simp [uI_1]) (Or.inl ⟨by simp [uI_1], by simp [uI_1]⟩)
/-! row -/
theorem X8_row_L {x2 : Int32} {k : Mem → Option (Mem × Int32)} {r : Nat} (hr : r < 6) : ∀ (m i : Nat) (σ : Mem), 40 - i < m → i ≤ 40 → X8_row_L34 (nI r) x2 k m σ (nI i) = k (fz σ 806 (40 * r + i) (40 * r + 40) 0) := by
  intro m
  induction m with
  | zero => intro i σ h; omega
  | succ m ih =>
    intro i σ h1 h2
    rw [X8_row_L34]
    by_cases e : i = 40
    · subst e
      rw [if_pos (by rw [nle_l (by decide) (by decide)]; decide), fz_nil]
    · rw [if_neg (by rw [nle_l (by omega) (by decide)]; omega), X8_setRow_n (by omega)]
      simp only [Option.bind_some]
      rw [nadd_r, ih (i + 1) _ (by omega) (by omega)]
      congr 1
      exact fz_step (by omega)
theorem X8_row_n {σ : Mem} {r n : Nat} (hr : r < 6) (hn : n ≤ 40) : X8_row σ (nI r) (nI n) = some (fz (uI σ 805 0 r (nI n)) 806 (40 * r) (40 * r + 40) 0, nI n) := by
  unfold X8_row
  rw [X8_isRow_n (by omega), if_pos hr]
  simp only [Option.bind_some]
  rw [if_neg one_ne0, if_pos (by rw [nle_r (by omega) (by decide)]; exact hn), if_pos (nI_pos' (by omega)), ck_n hr (by decide), ncl (by omega)]
  exact X8_row_L hr FU 0 _ (fu_gt (by decide)) (by omega)
theorem Rel_rown {σ : Mem} (h : Rel σ) {r n : Nat} (hr : r < 6) (hn : n ≤ 40) : Rel (fz (uI (rnw σ r n 0) 805 0 r (nI n)) 806 (40 * r) (40 * r + 40) 0) := by
  have hrl : rl r = 40 := by unfold rl; rw [if_pos hr]
  refine Rel_row h hr (((Fr.uI (Or.inl ⟨Or.inr rfl, rfl⟩)).tr (Fr.aI (Or.inl ⟨Or.inl rfl, rfl⟩))).tr ((Fr.uI (Or.inr (Or.inl rfl))).tr (fz_fr (Or.inr (Or.inr (Or.inl rfl)))))) (fun r2 _ e => ?_) (fun r2 _ e j hj => ?_) (Or.inr ⟨n, hn, ?_, ?_, fun j hj => ?_⟩)
  · simp [fz, aI_1, uI_1, rnw, e]
  · have : ¬ (40 * r ≤ 40 * r2 + j ∧ 40 * r2 + j < 40 * r + 40) := by omega
    simp only [fz, aI_1, uI_1, rnw]
    simp [this]
  · simp [fz, aI_1, uI_1, rnw]
  · simp [fz, aI_1, uI_1, rnw]
  · have h1 : j < rl r := by omega
    have h2 : 40 * r ≤ 40 * r + j ∧ 40 * r + j < 40 * r + 40 := by omega
    simp [fz, aI_1, uI_1, rnw, h1]
    omega
theorem op_row {σ : Mem} (h : Rel σ) (a b : Int32) : Both (fun σ => X7_row σ a b) (fun σ => X8_row σ a b) σ := by
  have bad : ∀ {σ : Mem}, X8_isRow σ a = some (σ, 0) → X8_row σ a b = some (σ, -1) := by
    intro σ h1
    unfold X8_row
    rw [h1]
    rfl
  rcases ix3 a 6 with ha | ⟨k, h1, h2, rfl⟩ | ⟨r, hr, -, rfl⟩
  · refine Both.mk' (σ1 := σ) (σ2 := σ) (r := -1) ?_ (bad (X8_isRow_neg ha)) h
    simp only [X7_row, X7_rowOf_neg ha, Option.bind_some, spl_none]
  · refine Both.mk' (σ1 := σ) (σ2 := σ) (r := -1) ?_ (bad (by rw [X8_isRow_n h2, if_neg (by omega)])) h
    simp only [X7_row, X7_rowOf_big h1 h2, Option.bind_some, spl_none]
  · have hrl : rl r = 40 := by unfold rl; rw [if_pos hr]
    by_cases hb : b ≤ 40
    · rcases ix3 b 41 with q | ⟨k, q1, q2, rfl⟩ | ⟨n, hn, -, rfl⟩
      · refine Both.mk' (σ1 := ans7 σ 5) (σ2 := met8 (ans7 σ 5) 5) (r := -3) ?_ ?_ (Rel_fnd h 5 (by decide) (by decide))
        · simp only [X7_row, X7_rowOf_n hr, Option.bind_some]
          rw [spl_some (by omega), if_pos hb, if_neg (le_neg q), nl, X7_answer_n (by decide) (by decide)]
          rfl
        · show X8_row _ _ _ = _
          unfold X8_row
          rw [X8_isRow_n (by omega), if_pos hr]
          simp only [Option.bind_some]
          rw [if_neg one_ne0, if_pos hb, if_neg (le_neg q), nl, X8_meet_n (by decide)]
          rfl
      · rw [nle_r q2 (by decide)] at hb
        exact absurd hb (by show ¬ k ≤ 40; omega)
      · refine Both.mk' (σ1 := rnw σ r n 0) (r := nI n) ?_ (X8_row_n hr (by omega)) (Rel_rown h hr (by omega))
        simp only [X7_row, X7_rowOf_n hr, Option.bind_some]
        rw [spl_some (by omega), if_pos hb, if_pos (nI_pos' (by omega)), X4_renew_n (by omega) (by omega)]
        rfl
    · refine Both.mk' (σ1 := σ) (σ2 := σ) (r := -1) ?_ ?_ h
      · simp only [X7_row, X7_rowOf_n hr, Option.bind_some]
        rw [spl_some (by omega), if_neg hb]
      · show X8_row _ _ _ = _
        unfold X8_row
        rw [X8_isRow_n (by omega), if_pos hr]
        simp only [Option.bind_some]
        rw [if_neg one_ne0, if_neg hb]
