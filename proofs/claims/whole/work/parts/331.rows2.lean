/-! swap -/
theorem X8_swap_L {k l : Nat} {kk : Mem → Option (Mem × Int32)} (hk : k < 8) (hl : l < 8) : ∀ (c i f : Nat) (σ : Mem), c < f → i + c = 5 → ∃ τ, X8_swap_L20 (nI k) (nI l) kk f σ (nI i) = kk τ ∧ Fr (fun c _ => c = 811) σ τ ∧ (∀ g, i ≤ g → g < 5 → τ.1 811 0 (5 * k + g) = σ.1 811 0 (5 * l + g) ∧ τ.1 811 0 (5 * l + g) = σ.1 811 0 (5 * k + g)) ∧ ∀ j, ¬ (∃ g, i ≤ g ∧ g < 5 ∧ (j = 5 * k + g ∨ j = 5 * l + g)) → τ.1 811 0 j = σ.1 811 0 j := by
  intro c
  induction c with
  | zero =>
    intro i f σ hf he
    obtain ⟨g, rfl⟩ : ∃ g, f = g + 1 := ⟨f - 1, by omega⟩
    refine ⟨σ, ?_, Fr.rf, fun g h1 h2 => by omega, fun _ _ => rfl⟩
    rw [X8_swap_L20, if_pos (by rw [nle_l (by omega) (by decide)]; omega)]
  | succ c ih =>
    intro i f σ hf he
    obtain ⟨g, rfl⟩ : ∃ g, f = g + 1 := ⟨f - 1, by omega⟩
    obtain ⟨τ, t1, t2, t3, t4⟩ := ih (i + 1) g (uI (uI σ 811 0 (5 * k + i) (σ.1 811 0 (5 * l + i))) 811 0 (5 * l + i) (σ.1 811 0 (5 * k + i))) (by omega) (by omega)
    refine ⟨τ, ?_, ((Fr.uI (P := fun c _ => c = 811) rfl).tr (Fr.uI rfl)).tr t2, fun g h1 h2 => ?_, fun j hj => ?_⟩
    · rw [X8_swap_L20, if_neg (by rw [nle_l (by omega) (by decide)]; omega), nmul_l, nadd, nmul_l, nadd]
      show ck (nI (5 * k + i)) 40 (lt_ (σ.1 811 0 (nI (5 * k + i)).toNatClampNeg) fun v3 => ck (nI (5 * l + i)) 40 (ck (nI (5 * k + i)) 40 (ck (nI (5 * l + i)) 40 (X8_swap_L20 (nI k) (nI l) kk g (uI (uI σ 811 0 (nI (5 * k + i)).toNatClampNeg (σ.1 811 0 (nI (5 * l + i)).toNatClampNeg)) 811 0 (nI (5 * l + i)).toNatClampNeg v3) (nI i + 1))))) = _
      rw [ck_n (by omega) (by decide), lt_eq, ck_n (by omega) (by decide), ck_n (by omega) (by decide), ck_n (by omega) (by decide), ncl (by omega), ncl (by omega), nadd_r]
      exact t1
    · by_cases q : g = i
      · subst q
        have n1 : ¬ ∃ g', g + 1 ≤ g' ∧ g' < 5 ∧ (5 * k + g = 5 * k + g' ∨ 5 * k + g = 5 * l + g') := by
          rintro ⟨g', w1, w2, w3 | w3⟩ <;> omega
        have n2 : ¬ ∃ g', g + 1 ≤ g' ∧ g' < 5 ∧ (5 * l + g = 5 * k + g' ∨ 5 * l + g = 5 * l + g') := by
          rintro ⟨g', w1, w2, w3 | w3⟩ <;> omega
        rw [t4 _ n1, t4 _ n2]
        by_cases e : k = l
        · subst e; simp [uI_1]
        · have e1 : ¬ 5 * k + g = 5 * l + g := by omega
          simp [uI_1, e]
          intro w
          omega
      · obtain ⟨w1, w2⟩ := t3 g (by omega) h2
        have e1 : ¬ 5 * l + g = 5 * k + i := by omega
        have e2 : ¬ 5 * l + g = 5 * l + i := by omega
        have e3 : ¬ 5 * k + g = 5 * k + i := by omega
        have e4 : ¬ 5 * k + g = 5 * l + i := by omega
        rw [w1, w2]
        simp only [uI_1]
        rw [if_neg (by rintro ⟨-, -, w⟩; exact e2 w), if_neg (by rintro ⟨-, -, w⟩; exact e1 w), if_neg (by rintro ⟨-, -, w⟩; exact e4 w), if_neg (by rintro ⟨-, -, w⟩; exact e3 w)]
        exact ⟨rfl, rfl⟩
    · rw [t4 j (by rintro ⟨g', w1, w2, w3⟩; exact hj ⟨g', by omega, w2, w3⟩)]
      have e1 : ¬ j = 5 * k + i := fun w => hj ⟨i, by omega, by omega, Or.inl w⟩
      have e2 : ¬ j = 5 * l + i := fun w => hj ⟨i, by omega, by omega, Or.inr w⟩
      simp [uI_1, e1, e2]
def swp (k l i : Nat) : Nat := if i = k then l else if i = l then k else i
theorem swp_lt {k l i n : Nat} (hk : k < n) (hl : l < n) (hi : i < n) : swp k l i < n := by unfold swp; split <;> (try split) <;> omega
theorem swp_inj {k l i j : Nat} (h : swp k l i = swp k l j) : i = j := by
  unfold swp at h
  split at h <;> split at h <;> (try split at h) <;> (try split at h) <;> omega
theorem X8_swap_e {σ : Mem} {n k l : Nat} (h1 : σ.1 810 0 0 = nI n) (hn : n ≤ 8) (hk : k < n) (hl : l < n) : X8_swap σ (nI k) (nI l) = X8_swap_L20 (nI k) (nI l) (fun s6 => some (s6, (1 : Int32))) FU σ (nI 0) := by
  unfold X8_swap
  rw [X8_isLaw_k h1 hn hk, Option.bind_some]
  show (if (1 : Int32) = 0 then _ else _) = _
  rw [if_neg one_ne0]
  show (X8_isLaw σ (nI l)).bind _ = _
  rw [X8_isLaw_k h1 hn hl, Option.bind_some]
  show (if (1 : Int32) = 0 then _ else _) = _
  rw [if_neg one_ne0, nI_0]
theorem op_swap {σ : Mem} (h : Rel σ) (a b : Int32) : Both (fun σ => X7_swap σ a b) (fun σ => X8_swap σ a b) σ := by
  obtain ⟨n, hn, h1, h2, hP, hM, hT⟩ := h.press
  rcases isL hn a with ⟨a7, a8⟩ | ⟨k, hk, rfl⟩
  · refine Both.mk' (σ1 := σ) (σ2 := σ) (r := -1) ?_ ?_ h
    · simp only [X7_swap, a7 σ _ hP, Option.bind_some, spl_none]
    · show X8_swap _ _ _ = _
      unfold X8_swap
      rw [a8 σ h1]
      rfl
  obtain ⟨x, x1, x0, x2, x3⟩ := h2.2.2.2.1 k hk
  have x2' : x < 41 := by omega
  rcases isL hn b with ⟨a7, a8⟩ | ⟨l, hl, rfl⟩
  · refine Both.mk' (σ1 := σ) (σ2 := σ) (r := -1) ?_ ?_ h
    · simp only [X7_swap, X2_numbered_n (by decide) hP hk x1 x2', Option.bind_some]
      rw [spl_some x2', a7 σ _ hP]
      rfl
    · show X8_swap _ _ _ = _
      unfold X8_swap
      rw [X8_isLaw_k h1 hn hk]
      dsimp only [Option.bind_some]
      rw [if_neg one_ne0, a8 σ h1]
      rfl
  obtain ⟨y, y1, y0, y2, y3⟩ := h2.2.2.2.1 l hl
  have y2' : y < 41 := by omega
  obtain ⟨τ, t1, t2, t3, t4⟩ := X8_swap_L (kk := fun s6 => some (s6, (1 : Int32))) (show k < 8 by omega) (show l < 8 by omega) 5 0 FU (uR (uR σ 200 0 k (some y)) 200 0 l (some x)) (by decide) (by decide)
  refine Both.mk' (σ1 := uR (uR σ 200 0 k (some y)) 200 0 l (some x)) (σ2 := τ) (r := 1) ?_ ?_ ?_
  · simp only [X7_swap, X2_numbered_n (by decide) hP hk x1 x2', Option.bind_some]
    rw [spl_some x2', X2_numbered_n (by decide) hP hl y1 y2']
    dsimp only [Option.bind_some]
    rw [spl_some y2']
    unfold X2_exchange
    rw [if_pos (by decide), X2_numbered_n (by decide) hP hk x1 x2']
    dsimp only [Option.bind_some]
    rw [spl_some x2', X2_numbered_n (by decide) hP hl y1 y2']
    dsimp only [Option.bind_some]
    rw [spl_some y2', ck_n (by omega) (by decide), ncl (by omega), x1, spl_some x2', ck_n (by omega) (by decide), ncl (by omega), y1, spl_some y2', ck_n (by omega) (by decide), ck_n (by omega) (by decide)]
    rfl
  · exact (X8_swap_e (n := n) (by simpa [uR_1] using h1) hn hk hl).trans t1
  · have hr := h.2.2.2.1 0 (by decide)
    have tb : ∀ i f, i < 8 → f < 5 → τ.1 811 0 (5 * i + f) = σ.1 811 0 (5 * swp k l i + f) := by
      intro i f hi hf
      unfold swp
      by_cases q : i = k
      · subst q
        rw [if_pos rfl, (t3 f (by omega) hf).1]
        rfl
      · rw [if_neg q]
        by_cases q2 : i = l
        · subst q2
          rw [if_pos rfl, (t3 f (by omega) hf).2]
          rfl
        · rw [if_neg q2, t4 _ (by rintro ⟨g, w1, w2, w3 | w3⟩ <;> omega)]
          rfl
    have rb : ∀ i, i < 8 → τ.2.2 200 0 i = σ.2.2 200 0 (swp k l i) := by
      intro i hi
      rw [t2.r (by decide)]
      simp only [uR_3]
      unfold swp
      by_cases q2 : i = l
      · subst q2
        by_cases q : i = k
        · subst q; simp [x1]
        · simp [q, x1]
      · by_cases q : i = k
        · subst q; simp [q2, y1]
        · simp [q, q2]
    have f : Fr PN σ τ := ((Fr.uR (Or.inr (Or.inl ⟨by decide, by decide, rfl⟩))).tr (Fr.uR (Or.inr (Or.inl ⟨by decide, by decide, rfl⟩)))).tr (t2.mono fun c k q => Or.inr (Or.inr (Or.inl (Or.inl q))))
    refine Rel_now h f ⟨fun j hj => ?_, fun i j hi hj e => ?_⟩ (fun y hy => ?_) (fun m m8 m1 m2 => ?_)
    · obtain ⟨y, y1, y2, y3⟩ := hr.1 (swp k l j) (swp_lt (by omega) (by omega) hj)
      exact ⟨y, by rw [rb j hj]; exact y1, by omega⟩
    · rw [rb i hi, rb j hj] at e
      exact swp_inj (hr.2 _ _ (swp_lt (by omega) (by omega) hi) (swp_lt (by omega) (by omega) hj) e)
    · rw [t2.i (by decide)]
      exact h.2.2.2.2.1.1 y (by omega)
    · obtain ⟨p1, ⟨d, p2, p3, p4, p5⟩, p6, p7, p8⟩ := m2
      have em : m = n := by rw [h1] at m1; exact ((neq (by omega) (by omega)).mp m1).symm
      subst em
      refine ⟨by rw [t2.i (by decide)]; exact p1, ⟨d, p2, by rw [t2.i (by decide)]; exact p3, by rw [t2.i (by decide)]; exact p4, fun e he => ?_⟩, fun s hs => by show τ.1 202 0 s = τ.1 827 0 s; rw [t2.i (by decide), t2.i (by decide)]; exact p6 s hs, fun i hi => ?_, fun i hi => ?_⟩
      · have e1 : τ.2.1 201 0 e = σ.2.1 201 0 e := by rw [t2.j (by decide)]; rfl
        have e2 : ∀ j, τ.1 828 0 j = σ.1 828 0 j := fun j => by rw [t2.i (by decide)]; rfl
        simp only [e1, e2]
        exact p5 e he
      · obtain ⟨z, z1, z2, z3, z4⟩ := p7 (swp k l i) (swp_lt hk hl hi)
        refine ⟨z, by rw [rb i (by omega)]; exact z1, z2, z3, fun f hf => ?_⟩
        show τ.1 (100 + f) z 0 = τ.1 811 0 (5 * i + f)
        have z5 : σ.1 (100 + f) z 0 = σ.1 811 0 (5 * swp k l i + f) := z4 f hf
        rw [tb i f (by omega) hf, ← z5, t2.i (by omega)]
        rfl
      · exact (p8 (swp k l i) (swp_lt hk hl hi)).cg (fun f hf => tb i f (by omega) hf)
/-! mean -/
def smF (g : Nat → Int32) : Nat → Nat → Int64 → Int64
  | 0, _, a => a
  | c + 1, i, a => smF g c (i + 1) (a + (g i).toInt64)
theorem smF_cg {g h : Nat → Int32} : ∀ (c i : Nat) (a : Int64), (∀ j, i ≤ j → j < i + c → g j = h j) → smF g c i a = smF h c i a := by
  intro c
  induction c with
  | zero => intros; rfl
  | succ c ih =>
    intro i a e
    rw [smF, smF, e i (by omega) (by omega), ih (i + 1) _ (fun j h1 h2 => e j (by omega) (by omega))]
theorem X4_sum_L {σ : Mem} {r n : Nat} {kk : Mem → Int64 → Option (Mem × Int64)} (hr : r < 11) (hs : σ.1 401 r 0 = nI n) (hn : n ≤ rl r) : ∀ (c i f : Nat) (a : Int64), c < f → i + c = n → X4_sum_L4 r kk f σ a (nI i) = kk σ (smF (fun j => σ.1 400 r j) c i a) := by
  have h60 := rl_le r
  intro c
  induction c with
  | zero =>
    intro i f a hf he
    obtain ⟨g, rfl⟩ : ∃ g, f = g + 1 := ⟨f - 1, by omega⟩
    rw [X4_sum_L4, hs, if_pos (by rw [nle (by omega) (by omega)]; omega)]
    rfl
  | succ c ih =>
    intro i f a hf he
    obtain ⟨g, rfl⟩ : ∃ g, f = g + 1 := ⟨f - 1, by omega⟩
    rw [X4_sum_L4, hs, if_neg (by rw [nle (by omega) (by omega)]; omega), X4_cell_in hr hs hn (by omega)]
    dsimp only [Option.bind_some]
    rw [lt_eq, nadd_r, ih (i + 1) g _ (by omega) (by omega)]
    rfl
theorem X8_mean_L {σ : Mem} {r n : Nat} {kk : Mem → Int64 → Option (Mem × Int32)} (hr : r < 6) (hs : σ.1 805 0 r = nI n) (hn : n ≤ 40) : ∀ (c i f : Nat) (a : Int64), c < f → i + c = n → X8_mean_L17 (nI r) kk f σ a (nI i) = kk σ (smF (fun j => σ.1 806 0 (40 * r + j)) c i a) := by
  intro c
  induction c with
  | zero =>
    intro i f a hf he
    obtain ⟨g, rfl⟩ : ∃ g, f = g + 1 := ⟨f - 1, by omega⟩
    rw [X8_mean_L17, ck_n hr (by decide), ncl (by omega), hs, if_pos (by rw [nle (by omega) (by omega)]; omega)]
    rfl
  | succ c ih =>
    intro i f a hf he
    obtain ⟨g, rfl⟩ : ∃ g, f = g + 1 := ⟨f - 1, by omega⟩
    rw [X8_mean_L17, ck_n hr (by decide), ncl (by omega), hs, if_neg (by rw [nle (by omega) (by omega)]; omega), X8_rowAt_n (by omega)]
    dsimp only [Option.bind_some]
    rw [lt_eq, nadd_r, ih (i + 1) g _ (by omega) (by omega)]
    rfl
theorem op_mean {σ : Mem} (h : Rel σ) (a : Int32) : Both (fun σ => X7_mean σ a) (fun σ => X8_mean σ a) σ := by
  have bad : ∀ {σ τ : Mem} {v : Int32}, X8_askedRow σ a = some (τ, v) → v < 0 → X8_mean σ a = some (τ, v) := by
    intro σ τ v h1 hv
    unfold X8_mean
    rw [h1]
    dsimp only [Option.bind_some]
    rw [if_neg (le_neg hv)]
  rcases ix3 a 6 with ha | ⟨k, h1, h2, rfl⟩ | ⟨r, hr, -, rfl⟩
  · refine Both.mk' (σ1 := σ) (σ2 := σ) (r := -1) ?_ (bad (X8_askedRow_neg ha) (by decide)) h
    simp only [X7_mean, X7_rowOf_neg ha, Option.bind_some, spl_none]
  · refine Both.mk' (σ1 := σ) (σ2 := σ) (r := -1) ?_ (bad (X8_askedRow_big h1 h2) (by decide)) h
    simp only [X7_mean, X7_rowOf_big h1 h2, Option.bind_some, spl_none]
  · have hrl : rl r = 40 := by unfold rl; rw [if_pos hr]
    rcases h.2.1 r hr with ⟨s1, s2⟩ | ⟨n, hn, s1, s2, sc⟩
    · refine Both.mk' (σ1 := ans7 σ 1) (σ2 := met8 (ans7 σ 1) 1) (r := -3) ?_ (bad (X8_askedRow_no hr (by rw [ans7_i (by decide) (by decide)]; exact s2)) (by decide)) (Rel_fnd h 1 (by decide) (by decide))
      simp only [X7_mean, X7_rowOf_n hr, Option.bind_some]
      rw [spl_some (by omega), X4_isThere_no (by omega) s1]
      simp only [Option.bind_some]
      rw [if_pos trivial, an1]
      rfl
    · have n64 : (nI n).toInt64 = lN n := nI_l (by omega)
      by_cases q : n = 0
      · subst q
        refine Both.mk' (σ1 := ans7 σ 4) (σ2 := met8 (ans7 σ 4) 4) (r := -3) ?_ ?_ (Rel_fnd h 4 (by decide) (by decide))
        · simp only [X7_mean, X7_rowOf_n hr, Option.bind_some]
          rw [spl_some (by omega), X4_isThere_n (by omega) s1 (by omega)]
          simp only [Option.bind_some]
          rw [if_neg one_ne0, s1, if_pos (show nI 0 = 0 from rfl), an4]
          rfl
        · show X8_mean _ _ = _
          have s2' : (ans7 σ 4).1 805 0 r = nI 0 := by rw [ans7_i (by decide) (by decide)]; exact s2
          unfold X8_mean
          rw [X8_askedRow_n hr s2' (by decide)]
          dsimp only [Option.bind_some]
          rw [if_pos (by decide)]
          refine (X8_mean_L hr s2' (by decide) 0 0 FU 0 (by decide) (by decide)).trans ?_
          rw [ck_n hr (by decide), ncl (by omega), s2', if_pos (show nI 0 = 0 from rfl), me4]
          rfl
      · have hsum : smF (fun j => σ.1 400 r j) n 0 0 = smF (fun j => σ.1 806 0 (40 * r + j)) n 0 0 := smF_cg n 0 0 (fun j _ hj => sc j (by omega))
        have nz : ¬ nI n = (0 : Int32) := by rw [show (0 : Int32) = nI 0 from rfl, neq (by omega) (by decide)]; exact q
        have nzl : ¬ lN n = (0 : Int64) := by rw [show (0 : Int64) = lN 0 from rfl, lN_e2 (by omega) (by decide)]; exact q
        refine Both.mk' (σ1 := uI σ 713 0 0 ((smF (fun j => σ.1 400 r j) n 0 0 / lN n).toInt32)) (σ2 := tol σ ((smF (fun j => σ.1 400 r j) n 0 0 / lN n).toInt32)) (r := 1) ?_ ?_ (Rel_tol h _)
        · simp only [X7_mean, X7_rowOf_n hr, Option.bind_some]
          rw [spl_some (by omega), X4_isThere_n (by omega) s1 (by omega)]
          simp only [Option.bind_some]
          rw [if_neg one_ne0, s1, if_neg nz]
          have : X4_sum σ r = some (σ, smF (fun j => σ.1 400 r j) n 0 0) := by
            unfold X4_sum
            rw [if_pos (by omega)]
            exact X4_sum_L (kk := fun s v => some (s, v)) (by omega) s1 (by omega) n 0 FU 0 (fu_gt (by omega)) (by omega)
          rw [this]
          dsimp only [Option.bind_some]
          rw [s1, n64, if_neg nzl]
        · show X8_mean _ _ = _
          have s2' : (uI σ 713 0 0 ((smF (fun j => σ.1 400 r j) n 0 0 / lN n).toInt32)).1 805 0 r = nI n := by simpa [uI_1] using s2
          unfold X8_mean
          rw [X8_askedRow_n hr s2' hn]
          dsimp only [Option.bind_some]
          rw [if_pos (by decide)]
          refine (X8_mean_L hr s2' hn n 0 FU 0 (fu_gt (by omega)) (by omega)).trans ?_
          rw [ck_n hr (by decide), ncl (by omega), s2', if_neg nz, ck_n hr (by decide), n64, if_neg nzl]
          have e6 : smF (fun j => (uI σ 713 0 0 ((smF (fun j => σ.1 400 r j) n 0 0 / lN n).toInt32)).1 806 0 (40 * r + j)) n 0 0 = smF (fun j => σ.1 400 r j) n 0 0 := by
            rw [hsum]
            exact smF_cg n 0 0 (fun j _ _ => by simp [uI_1])
          rw [e6]
          rfl
/-! text, put -/
theorem X8_text_L {x2 : Int32} {k : Mem → Option (Mem × Int32)} {t : Nat} (ht : t < 4) : ∀ (m i : Nat) (σ : Mem), 60 - i < m → i ≤ 60 → X8_text_L34 (nI t) x2 k m σ (nI i) = k (fz σ 809 (60 * t + i) (60 * t + 60) 32) := by
  intro m
  induction m with
  | zero => intro i σ h; omega
  | succ m ih =>
    intro i σ h1 h2
    rw [X8_text_L34]
    by_cases e : i = 60
    · subst e
      rw [if_pos (by rw [nle_l (by decide) (by decide)]; decide), fz_nil]
    · rw [if_neg (by rw [nle_l (by omega) (by decide)]; omega), nmul_l, nadd]
      show ck (nI (60 * t + i)) 240 (X8_text_L34 (nI t) x2 k m (uI σ 809 0 (nI (60 * t + i)).toNatClampNeg 32) (nI i + 1)) = _
      rw [ck_n (by omega) (by decide), ncl (by omega), nadd_r, ih (i + 1) _ (by omega) (by omega)]
      congr 1
      exact fz_step (by omega)
theorem X8_text_n {σ : Mem} {t n : Nat} (ht : t < 4) (hn : n ≤ 60) : X8_text σ (nI t) (nI n) = some (fz (uI σ 808 0 t (nI n)) 809 (60 * t) (60 * t + 60) 32, nI n) := by
  unfold X8_text
  rw [X8_isText_n (by omega), if_pos ht]
  dsimp only [Option.bind_some]
  rw [if_neg one_ne0, if_pos (by rw [nle_r (by omega) (by decide)]; exact hn), if_pos (nI_pos' (by omega)), ck_n ht (by decide), ncl (by omega)]
  exact X8_text_L ht FU 0 _ (fu_gt (by decide)) (by omega)
theorem rl_t {t : Nat} (h : t < 4) : rl (6 + t) = 60 := by unfold rl; rw [if_neg (by omega), if_pos (by omega)]
theorem op_text {σ : Mem} (h : Rel σ) (a b : Int32) : Both (fun σ => X7_text σ a b) (fun σ => X8_text σ a b) σ := by
  have bad : ∀ {σ : Mem}, X8_isText σ a = some (σ, 0) → X8_text σ a b = some (σ, -1) := by
    intro σ h1
    unfold X8_text
    rw [h1]
    rfl
  rcases ix3 a 4 with ha | ⟨k, h1, h2, rfl⟩ | ⟨t, ht, -, rfl⟩
  · refine Both.mk' (σ1 := σ) (σ2 := σ) (r := -1) ?_ (bad (X8_isText_neg ha)) h
    simp only [X7_text, X7_textOf_neg ha, Option.bind_some, spl_none]
  · refine Both.mk' (σ1 := σ) (σ2 := σ) (r := -1) ?_ (bad (by rw [X8_isText_n h2, if_neg (by omega)])) h
    simp only [X7_text, X7_textOf_big h1 h2, Option.bind_some, spl_none]
  · have hrl := rl_t ht
    by_cases hb : b ≤ 60
    · rcases ix3 b 61 with q | ⟨k, q1, q2, rfl⟩ | ⟨n, hn, -, rfl⟩
      · refine Both.mk' (σ1 := ans7 σ 5) (σ2 := met8 (ans7 σ 5) 5) (r := -3) ?_ ?_ (Rel_fnd h 5 (by decide) (by decide))
        · simp only [X7_text, X7_textOf_n ht, Option.bind_some]
          rw [spl_some (by omega), if_pos hb, if_neg (le_neg q), an5]
          rfl
        · show X8_text _ _ _ = _
          unfold X8_text
          rw [X8_isText_n (by omega), if_pos ht]
          dsimp only [Option.bind_some]
          rw [if_neg one_ne0, if_pos hb, if_neg (le_neg q), me5]
          rfl
      · rw [nle_r q2 (by decide)] at hb
        exact absurd hb (by show ¬ k ≤ 60; omega)
      · refine Both.mk' (σ1 := rnw σ (6 + t) n 32) (r := nI n) ?_ (X8_text_n ht (by omega)) ?_
        · simp only [X7_text, X7_textOf_n ht, Option.bind_some]
          rw [spl_some (by omega), if_pos hb, if_pos (nI_pos' (by omega)), X4_renew_n (by omega) (by omega)]
          rfl
        · refine Rel_text h ht (((Fr.uI (Or.inl ⟨Or.inr rfl, rfl⟩)).tr (Fr.aI (Or.inl ⟨Or.inl rfl, rfl⟩))).tr ((Fr.uI (Or.inr (Or.inl rfl))).tr (fz_fr (Or.inr (Or.inr (Or.inl rfl)))))) (fun r2 _ e => ?_) (fun r2 _ e j hj => ?_) (Or.inr ⟨n, by omega, ?_, ?_, fun j hj => ?_⟩)
          · simp [fz, aI_1, uI_1, rnw, e]
          · have : ¬ (60 * t ≤ 60 * r2 + j ∧ 60 * r2 + j < 60 * t + 60) := by omega
            simp only [fz, aI_1, uI_1, rnw]
            simp [this]
          · simp [fz, aI_1, uI_1, rnw]
          · simp [fz, aI_1, uI_1, rnw]
          · have h1 : j < rl (6 + t) := by omega
            have h2 : 60 * t ≤ 60 * t + j ∧ 60 * t + j < 60 * t + 60 := by omega
            simp [fz, aI_1, uI_1, rnw, h1]
            omega
    · refine Both.mk' (σ1 := σ) (σ2 := σ) (r := -1) ?_ ?_ h
      · simp only [X7_text, X7_textOf_n ht, Option.bind_some]
        rw [spl_some (by omega), if_neg hb]
      · show X8_text _ _ _ = _
        unfold X8_text
        rw [X8_isText_n (by omega), if_pos ht]
        dsimp only [Option.bind_some]
        rw [if_neg one_ne0, if_neg hb]
theorem op_put {σ : Mem} (h : Rel σ) (a b c : Int32) : Both (fun σ => X7_put σ a b c) (fun σ => X8_put σ a b c) σ := by
  have bad : ∀ {σ τ : Mem} {v : Int32}, X8_askedText σ a = some (τ, v) → v < 0 → X8_put σ a b c = some (τ, v) := by
    intro σ τ v h1 hv
    unfold X8_put
    rw [h1]
    dsimp only [Option.bind_some]
    rw [if_neg (le_neg hv)]
  rcases ix3 a 4 with ha | ⟨k, h1, h2, rfl⟩ | ⟨t, ht, -, rfl⟩
  · refine Both.mk' (σ1 := σ) (σ2 := σ) (r := -1) ?_ (bad (X8_askedText_neg ha) (by decide)) h
    simp only [X7_put, X7_textOf_neg ha, Option.bind_some, spl_none]
  · refine Both.mk' (σ1 := σ) (σ2 := σ) (r := -1) ?_ (bad (X8_askedText_big h1 h2) (by decide)) h
    simp only [X7_put, X7_textOf_big h1 h2, Option.bind_some, spl_none]
  · have hrl := rl_t ht
    rcases h.2.2.1 t ht with ⟨s1, s2⟩ | ⟨n, hn, s1, s2, sc⟩
    · refine Both.mk' (σ1 := ans7 σ 1) (σ2 := met8 (ans7 σ 1) 1) (r := -3) ?_ (bad (X8_askedText_no ht (by rw [ans7_i (by decide) (by decide)]; exact s2)) (by decide)) (Rel_fnd h 1 (by decide) (by decide))
      simp only [X7_put, X7_textOf_n ht, Option.bind_some]
      rw [spl_some (by omega), X4_isThere_no (by omega) s1]
      dsimp only [Option.bind_some]
      rw [if_pos rfl, an1]
      rfl
    · by_cases hb : b < 0 ∨ ∃ i, n ≤ i ∧ i < 2147483648 ∧ b = nI i
      · refine Both.mk' (σ1 := ans7 σ 2) (σ2 := met8 (ans7 σ 2) 2) (r := -3) ?_ ?_ (Rel_fnd h 2 (by decide) (by decide))
        · have hp : X4_hasPlace σ (6 + t) b = some (σ, 0) := by
            rcases hb with hb | ⟨i, h1, h2, rfl⟩
            · exact X4_hasPlace_neg (by omega) hb
            · exact X4_hasPlace_out (by omega) s1 (by omega) h1 h2
          simp only [X7_put, X7_textOf_n ht, Option.bind_some]
          rw [spl_some (by omega), X4_isThere_n (by omega) s1 (by omega)]
          dsimp only [Option.bind_some]
          rw [if_neg one_ne0, hp]
          dsimp only [Option.bind_some]
          rw [if_pos rfl, an2]
          rfl
        · show X8_put _ _ _ _ = _
          have s2' : (ans7 σ 2).1 808 0 t = nI n := by rw [ans7_i (by decide) (by decide)]; exact s2
          unfold X8_put
          rw [X8_askedText_n ht s2' hn]
          dsimp only [Option.bind_some]
          rw [if_pos (by decide), ck_n ht (by decide), ncl (by omega), s2', X8_in_eq]
          have e : (if b < (0 : Int32) then (0 : Int32) else if nI n - 1 < b then 0 else 1) = 0 := by
            rcases hb with hb | ⟨i, h1, h2, rfl⟩
            · rw [if_pos hb]
            · rw [in_n h2 (by omega), if_neg (by omega)]
          rw [e]
          dsimp only [Option.bind_some]
          rw [if_pos rfl, me2]
          rfl
      · obtain ⟨i, hi, rfl⟩ : ∃ i, i < n ∧ b = nI i := by
          rcases ix3 b n with q | q | ⟨i, q1, q2, q3⟩
          · exact absurd (Or.inl q) hb
          · exact absurd (Or.inr q) hb
          · exact ⟨i, q1, q3⟩
        refine Both.mk' (σ1 := uI σ 400 (6 + t) i c.toInt8.toInt32) (σ2 := uI (uI σ 400 (6 + t) i c.toInt8.toInt32) 809 0 (60 * t + i) c.toInt8.toInt32) (r := σ.1 400 (6 + t) i + 1000) ?_ ?_ ?_
        · simp only [X7_put, X7_textOf_n ht, Option.bind_some]
          rw [spl_some (by omega), X4_isThere_n (by omega) s1 (by omega)]
          dsimp only [Option.bind_some]
          rw [if_neg one_ne0, X4_hasPlace_in (by omega) s1 (by omega) hi]
          dsimp only [Option.bind_some]
          rw [if_neg one_ne0, X4_cell_in (by omega) s1 (by omega) hi]
          dsimp only [Option.bind_some]
          rw [X4_change_in (n := n) (by omega) s1 (by omega) hi]
          rfl
        · show X8_put _ _ _ _ = _
          have s2' : (uI σ 400 (6 + t) i c.toInt8.toInt32).1 808 0 t = nI n := by simpa [uI_1] using s2
          unfold X8_put
          rw [X8_askedText_n ht s2' hn]
          dsimp only [Option.bind_some]
          rw [if_pos (by decide), ck_n ht (by decide), ncl (by omega), s2', X8_in_eq, in_n (by omega) (by omega), if_pos hi]
          dsimp only [Option.bind_some]
          rw [if_neg one_ne0, nmul_l, nadd]
          show ck (nI (60 * t + i)) 240 (lt_ ((uI σ 400 (6 + t) i c.toInt8.toInt32).1 809 0 (nI (60 * t + i)).toNatClampNeg) fun v3 => ck (nI (60 * t + i)) 240 (some (uI (uI σ 400 (6 + t) i c.toInt8.toInt32) 809 0 (nI (60 * t + i)).toNatClampNeg c.toInt8.toInt32, v3 + 1000))) = _
          rw [ck_n (by omega) (by decide), lt_eq, ck_n (by omega) (by decide), ncl (by omega), uI_1, if_neg (by rintro ⟨q, -⟩; cases q), sc i hi]
        · refine Rel_text h ht ((Fr.uI (Or.inl ⟨Or.inl rfl, rfl⟩)).tr (Fr.uI (Or.inr (Or.inr (Or.inl rfl))))) (fun r2 _ e => by simp [uI_1]) (fun r2 _ e j hj => ?_) (Or.inr ⟨n, hn, by simpa [uI_1] using s1, by simpa [uI_1] using s2, fun j hj => ?_⟩)
          · have : ¬ 60 * r2 + j = 60 * t + i := by omega
            simp [uI_1, this]
          · by_cases e : j = i
            · subst e; simp [uI_1]
            · simp [uI_1, e, sc j hj]
/-! copy -/
theorem X8_copy1_L {r i0 N : Nat} {x3 x4 : Int32} {kk : Mem → Option (Mem × Int32)} (hr : r < 6) (hN : i0 + N ≤ 40) : ∀ (c i f : Nat) (σ : Mem), c < f → i + c = N → ∃ τ, X8_copy_L104 (nI r) (nI i0) x3 x4 (nI N) kk f σ (nI i) = kk τ ∧ Fr (fun c _ => c = 807) σ τ ∧ ∀ j, j < N → τ.1 807 0 j = if j < i then σ.1 807 0 j else σ.1 806 0 (40 * r + (i0 + j)) := by
  intro c
  induction c with
  | zero =>
    intro i f σ hf he
    obtain ⟨g, rfl⟩ : ∃ g, f = g + 1 := ⟨f - 1, by omega⟩
    refine ⟨σ, ?_, Fr.rf, fun j hj => by rw [if_pos (by omega)]⟩
    rw [X8_copy_L104, if_pos (by rw [nle (by omega) (by omega)]; omega)]
  | succ c ih =>
    intro i f σ hf he
    obtain ⟨g, rfl⟩ : ∃ g, f = g + 1 := ⟨f - 1, by omega⟩
    obtain ⟨τ, t1, t2, t3⟩ := ih (i + 1) g (uI σ 807 0 i (σ.1 806 0 (40 * r + (i0 + i)))) (by omega) (by omega)
    refine ⟨τ, ?_, (Fr.uI (P := fun c _ => c = 807) rfl).tr t2, fun j hj => ?_⟩
    · rw [X8_copy_L104, if_neg (by rw [nle (by omega) (by omega)]; omega), nadd, X8_rowAt_n (by omega)]
      dsimp only [Option.bind_some]
      rw [ck_n (by omega) (by decide), ncl (by omega), nadd_r]
      exact t1
    · rw [t3 j hj]
      by_cases q : j = i
      · subst q
        rw [if_pos (by omega), if_neg (by omega)]
        simp [uI_1]
      · by_cases q2 : j < i
        · rw [if_pos (by omega), if_pos q2]
          simp [uI_1, q]
        · rw [if_neg (by omega), if_neg q2]
          simp [uI_1]
theorem X8_copy2_L {r i0 N : Nat} {kk : Mem → Option (Mem × Int32)} (hr : r < 6) (hN : i0 + N ≤ 40) : ∀ (c i f : Nat) (σ : Mem), c < f → i + c = N → ∃ τ, X8_copy_L136 (nI r) (nI i0) (nI N) kk f σ (nI i) = kk τ ∧ Fr (fun c _ => c = 806) σ τ ∧ ∀ j, τ.1 806 0 j = if 40 * r + i0 + i ≤ j ∧ j < 40 * r + i0 + N then σ.1 807 0 (j - (40 * r + i0)) else σ.1 806 0 j := by
  intro c
  induction c with
  | zero =>
    intro i f σ hf he
    obtain ⟨g, rfl⟩ : ∃ g, f = g + 1 := ⟨f - 1, by omega⟩
    refine ⟨σ, ?_, Fr.rf, fun j => by rw [if_neg (by omega)]⟩
    rw [X8_copy_L136, if_pos (by rw [nle (by omega) (by omega)]; omega)]
  | succ c ih =>
    intro i f σ hf he
    obtain ⟨g, rfl⟩ : ∃ g, f = g + 1 := ⟨f - 1, by omega⟩
    obtain ⟨τ, t1, t2, t3⟩ := ih (i + 1) g (uI σ 806 0 (40 * r + (i0 + i)) (σ.1 807 0 i)) (by omega) (by omega)
    refine ⟨τ, ?_, (Fr.uI (P := fun c _ => c = 806) rfl).tr t2, fun j => ?_⟩
    · rw [X8_copy_L136, if_neg (by rw [nle (by omega) (by omega)]; omega), ck_n (by omega) (by decide), nadd, X8_setRow_n (by omega)]
      dsimp only [Option.bind_some]
      rw [ncl (by omega), nadd_r]
      exact t1
    · rw [t3 j]
      by_cases q : j = 40 * r + (i0 + i)
      · subst q
        rw [if_neg (by omega), if_pos (by omega), show 40 * r + (i0 + i) - (40 * r + i0) = i by omega]
        simp [uI_1]
      · by_cases q2 : 40 * r + i0 + (i + 1) ≤ j ∧ j < 40 * r + i0 + N
        · rw [if_pos q2, if_pos (by omega)]
          simp [uI_1]
        · rw [if_neg q2, if_neg (by omega)]
          simp [uI_1, q]
/-- whether so many places are there -/
theorem hpl (i : Int32) {N m : Nat} (hN : N < 2147483648) (hm : m ≤ 40) : ((i < 0 ∨ ∃ k : Nat, k < 2147483648 ∧ i = nI k ∧ m < k + N) ∨ ∃ k : Nat, i = nI k ∧ k + N ≤ m) := by
  rcases i32_cases i with h | ⟨k, h1, h2⟩
  · exact Or.inl (Or.inl h)
  · by_cases q : k + N ≤ m
    · exact Or.inr ⟨k, h2, q⟩
    · exact Or.inl (Or.inr ⟨k, h1, h2, by omega⟩)
theorem X4_hasPlaces_no {σ : Mem} {r N m : Nat} {i : Int32} (hr : r < 11) (hs : σ.1 401 r 0 = nI m) (hm : m ≤ 40) (hN : N < 2147483648) (h : i < 0 ∨ ∃ k : Nat, k < 2147483648 ∧ i = nI k ∧ m < k + N) : X4_hasPlaces σ r i (nI N) = some (σ, 0) := by
  unfold X4_hasPlaces
  rw [if_pos hr]
  rcases h with h | ⟨k, k1, rfl, k3⟩
  · rw [if_pos h, b0]
  · rw [if_neg (nnlt0 k1), if_neg (nnlt0 hN), hs]
    by_cases q : m < N
    · rw [if_pos (by rw [nlt (by omega) hN]; exact q), b0]
    · rw [if_neg (by rw [nlt (by omega) hN]; exact q), nsub (by omega), if_pos (by rw [nlt (by omega) k1]; omega), b0]
theorem X4_hasPlaces_ok {σ : Mem} {r N m k : Nat} (hr : r < 11) (hs : σ.1 401 r 0 = nI m) (hm : m ≤ 40) (h : k + N ≤ m) : X4_hasPlaces σ r (nI k) (nI N) = some (σ, 1) := by
  unfold X4_hasPlaces
  rw [if_pos hr, if_neg (nnlt0 (by omega)), if_neg (nnlt0 (by omega)), hs, if_neg (by rw [nlt (by omega) (by omega)]; omega), nsub (by omega), if_neg (by rw [nlt (by omega) (by omega)]; omega), b1]
theorem op_copy {σ : Mem} (h : Rel σ) (a b c d e : Int32) : Both (fun σ => X7_copy σ a b c d e) (fun σ => X8_copy σ a b c d e) σ := by
  rcases isR a with ⟨a7, a8⟩ | ⟨r, hr, rfl⟩
  · refine Both.mk' (σ1 := σ) (σ2 := σ) (r := -1) ?_ ?_ h
    · simp only [X7_copy, a7, Option.bind_some, spl_none]
      rcases isR c with ⟨b7, b8⟩ | ⟨t, ht, rfl⟩
      · simp only [b7, Option.bind_some, spl_none]
      · simp only [X7_rowOf_n ht, Option.bind_some]
        rw [spl_some (by omega)]
    · show X8_copy _ _ _ _ _ _ = _
      unfold X8_copy
      rw [a8]
      rfl
  rcases isR c with ⟨b7, b8⟩ | ⟨t, ht, rfl⟩
  · refine Both.mk' (σ1 := σ) (σ2 := σ) (r := -1) ?_ ?_ h
    · simp only [X7_copy, X7_rowOf_n hr, Option.bind_some]
      rw [spl_some (by omega)]
      simp only [b7, Option.bind_some, spl_none]
    · show X8_copy _ _ _ _ _ _ = _
      unfold X8_copy
      rw [X8_isRow_r hr]
      dsimp only [Option.bind_some]
      rw [if_neg one_ne0, b8]
      rfl
  have st7 : ∀ o : Mem → Nat → Nat → Option (Mem × Int32), True := fun _ => trivial
  rcases i32_cases e with he | ⟨N, hN, rfl⟩
  · refine Both.mk' (σ1 := ans7 σ 5) (σ2 := met8 (ans7 σ 5) 5) (r := -3) ?_ ?_ (Rel_fnd h 5 (by decide) (by decide))
    · simp only [X7_copy, X7_rowOf_n hr, X7_rowOf_n ht, Option.bind_some]
      rw [spl_some (by omega), spl_some (by omega), if_neg (le_neg he), an5]
      rfl
    · show X8_copy _ _ _ _ _ _ = _
      unfold X8_copy
      rw [X8_isRow_r hr]
      dsimp only [Option.bind_some]
      rw [if_neg one_ne0, X8_isRow_r ht]
      dsimp only [Option.bind_some]
      rw [if_neg one_ne0, if_neg (le_neg he), me5]
      rfl
  have hrl : rl r = 40 := by unfold rl; rw [if_pos hr]
  have htl : rl t = 40 := by unfold rl; rw [if_pos ht]
  have e7 : ∀ {σ : Mem}, X7_copy σ (nI r) b (nI t) d (nI N) = ((X4_isThere σ r).bind fun q7 => if q7.2 = 0 then ((X7_answer q7.1 (1 : Int32)).bind fun q8 => some (q8.1, q8.2)) else ((X4_isThere q7.1 t).bind fun q9 => if q9.2 = 0 then ((X7_answer q9.1 (1 : Int32)).bind fun q15 => some (q15.1, q15.2)) else ((X4_hasPlaces q9.1 r b (nI N)).bind fun q10 => if q10.2 = 0 then ((X7_answer q10.1 (2 : Int32)).bind fun q11 => some (q11.1, q11.2)) else ((X4_hasPlaces q10.1 t d (nI N)).bind fun q12 => if q12.2 = 0 then ((X7_answer q12.1 (2 : Int32)).bind fun q14 => some (q14.1, q14.2)) else (cpI q12.1 400 r (rl r) b 400 t (rl t) d (nI N) fun (s13 : Mem) => some (s13, (1 : Int32))))))) := by
    intro σ
    simp only [X7_copy, X7_rowOf_n hr, X7_rowOf_n ht, Option.bind_some]
    rw [spl_some (by omega), spl_some (by omega), if_pos (nI_pos' hN)]
  have e8 : ∀ {σ : Mem}, X8_copy σ (nI r) b (nI t) d (nI N) = (if (σ.1 805 0 r) < 0 then ((X8_meet σ (1 : Int32)).bind fun q3 => some (q3.1, q3.2)) else (if 0 ≤ (σ.1 805 0 t) then (if b < 0 then ((X8_meet σ (2 : Int32)).bind fun q4 => some (q4.1, q4.2)) else (if d < 0 then ((X8_meet σ (2 : Int32)).bind fun q5 => some (q5.1, q5.2)) else (if 0 < (lg_cmp (b.toInt64 + (nI N).toInt64) (σ.1 805 0 r).toInt64) then ((X8_meet σ (2 : Int32)).bind fun q6 => some (q6.1, q6.2)) else (if (lg_cmp (d.toInt64 + (nI N).toInt64) (σ.1 805 0 t).toInt64) ≤ 0 then (X8_copy_L104 (nI r) b (nI t) d (nI N) (fun (s10 : Mem) => (X8_copy_L136 (nI t) d (nI N) (fun (s14 : Mem) => (some (s14, (1 : Int32)))) FU s10 (0 : Int32))) FU σ (0 : Int32)) else ((X8_meet σ (2 : Int32)).bind fun q15 => some (q15.1, q15.2)))))) else ((X8_meet σ (1 : Int32)).bind fun q16 => some (q16.1, q16.2)))) := by
    intro σ
    unfold X8_copy
    rw [X8_isRow_r hr]
    dsimp only [Option.bind_some]
    rw [if_neg one_ne0, X8_isRow_r ht]
    dsimp only [Option.bind_some]
    rw [if_neg one_ne0, if_pos (nI_pos' hN), ck_n hr (by decide), ck_n ht (by decide), ck_n hr (by decide), ck_n ht (by decide), ncl (by omega), ncl (by omega)]
  have no : ∀ (f : Nat), 1 ≤ f → f < 6 → X7_copy σ (nI r) b (nI t) d (nI N) = some (ans7 σ f, -3) → X8_copy (ans7 σ f) (nI r) b (nI t) d (nI N) = some (met8 (ans7 σ f) f, -3) → Both (fun σ => X7_copy σ (nI r) b (nI t) d (nI N)) (fun σ => X8_copy σ (nI r) b (nI t) d (nI N)) σ := fun f f1 f2 g1 g2 => Both.mk' g1 g2 (Rel_fnd h f f1 f2)
  have neg9 : ((-9 : Int32) < 0) := by decide
  rcases h.2.1 r hr with ⟨s1, s2⟩ | ⟨m, hm, s1, s2, sc⟩
  · refine no 1 (by decide) (by decide) ?_ ?_
    · rw [e7, X4_isThere_no (by omega) s1]
      dsimp only [Option.bind_some]
      rw [if_pos rfl, an1]
      rfl
    · rw [e8, ans7_i (by decide) (by decide), s2, if_pos neg9, me1]
      rfl
  rcases h.2.1 t ht with ⟨u1, u2⟩ | ⟨l, hl, u1, u2, uc⟩
  · refine no 1 (by decide) (by decide) ?_ ?_
    · rw [e7, X4_isThere_n (by omega) s1 (by omega)]
      dsimp only [Option.bind_some]
      rw [if_neg one_ne0, X4_isThere_no (by omega) u1]
      dsimp only [Option.bind_some]
      rw [if_pos rfl, an1]
      rfl
    · rw [e8, ans7_i (by decide) (by decide), s2, if_neg (nnlt0 (by omega)), ans7_i (by decide) (by decide), u2, if_neg (by decide), me1]
      rfl
  have t7 : X7_copy σ (nI r) b (nI t) d (nI N) = ((X4_hasPlaces σ r b (nI N)).bind fun q10 => if q10.2 = 0 then ((X7_answer q10.1 (2 : Int32)).bind fun q11 => some (q11.1, q11.2)) else ((X4_hasPlaces q10.1 t d (nI N)).bind fun q12 => if q12.2 = 0 then ((X7_answer q12.1 (2 : Int32)).bind fun q14 => some (q14.1, q14.2)) else (cpI q12.1 400 r (rl r) b 400 t (rl t) d (nI N) fun (s13 : Mem) => some (s13, (1 : Int32))))) := by
    rw [e7, X4_isThere_n (by omega) s1 (by omega)]
    dsimp only [Option.bind_some]
    rw [if_neg one_ne0, X4_isThere_n (by omega) u1 (by omega)]
    dsimp only [Option.bind_some]
    rw [if_neg one_ne0]
  have cmp : ∀ k m, k < 2147483648 → m ≤ 40 → ((0 < lg_cmp ((nI k).toInt64 + (nI N).toInt64) (nI m).toInt64) ↔ m < k + N) := by
    intro k m hk hm
    rw [lg_cmp_gt, nI_l hk, nI_l hN, nI_l (by omega), lN_add, pk_lLT (by omega) (by omega)]
  have cmp2 : ∀ k m, k < 2147483648 → m ≤ 40 → ((lg_cmp ((nI k).toInt64 + (nI N).toInt64) (nI m).toInt64 ≤ 0) ↔ k + N ≤ m) := by
    intro k m hk hm
    rw [lg_cmp_le, nI_l hk, nI_l hN, nI_l (by omega), lN_add, pk_lLE (by omega) (by omega)]
  rcases hpl b hN hm with hb | ⟨i, rfl, hi⟩
  · refine no 2 (by decide) (by decide) ?_ ?_
    · rw [t7, X4_hasPlaces_no (by omega) s1 hm hN hb]
      dsimp only [Option.bind_some]
      rw [if_pos rfl, an2]
      rfl
    · rw [e8, ans7_i (by decide) (by decide), s2, if_neg (nnlt0 (by omega)), ans7_i (by decide) (by decide), u2, if_pos (nI_pos' (by omega))]
      rcases hb with hb | ⟨k, k1, rfl, k3⟩
      · rw [if_pos hb, me2]
        rfl
      · rw [if_neg (nnlt0 k1)]
        by_cases q : d < 0
        · rw [if_pos q, me2]
          rfl
        · rw [if_neg q, if_pos ((cmp k m k1 hm).mpr k3), me2]
          rfl
  rcases hpl d hN hl with hb | ⟨j, rfl, hj⟩
  · refine no 2 (by decide) (by decide) ?_ ?_
    · rw [t7, X4_hasPlaces_ok (by omega) s1 hm hi]
      dsimp only [Option.bind_some]
      rw [if_neg one_ne0, X4_hasPlaces_no (by omega) u1 hl hN hb]
      dsimp only [Option.bind_some]
      rw [if_pos rfl, an2]
      rfl
    · rw [e8, ans7_i (by decide) (by decide), s2, if_neg (nnlt0 (by omega)), ans7_i (by decide) (by decide), u2, if_pos (nI_pos' (by omega)), if_neg (nnlt0 (by omega))]
      rcases hb with hb | ⟨k, k1, rfl, k3⟩
      · rw [if_pos hb, me2]
        rfl
      · rw [if_neg (nnlt0 k1), if_neg (by rw [cmp i m (by omega) hm]; omega), if_neg (by rw [cmp2 k l k1 hl]; omega), me2]
        rfl
  obtain ⟨τ1, w1, w2, w3⟩ := X8_copy1_L (x3 := nI t) (x4 := nI j) (kk := fun (s10 : Mem) => (X8_copy_L136 (nI t) (nI j) (nI N) (fun (s14 : Mem) => (some (s14, (1 : Int32)))) FU s10 (0 : Int32))) hr (show i + N ≤ 40 by omega) N 0 FU (aI σ 400 t (va_cpy (σ.1 400 r) (σ.1 400 t) i j N)) (fu_gt (by omega)) (by omega)
  obtain ⟨τ2, v1, v2, v3⟩ := X8_copy2_L (kk := fun (s14 : Mem) => (some (s14, (1 : Int32)))) ht (show j + N ≤ 40 by omega) N 0 FU τ1 (fu_gt (by omega)) (by omega)
  refine Both.mk' (σ1 := aI σ 400 t (va_cpy (σ.1 400 r) (σ.1 400 t) i j N)) (σ2 := τ2) (r := 1) ?_ ?_ ?_
  · show X7_copy _ _ _ _ _ _ = _
    rw [t7, X4_hasPlaces_ok (by omega) s1 hm hi]
    dsimp only [Option.bind_some]
    rw [if_neg one_ne0, X4_hasPlaces_ok (by omega) u1 hl hj]
    dsimp only [Option.bind_some]
    rw [if_neg one_ne0, cpI, ncl (by omega), ncl (by omega), ncl (by omega), if_pos ⟨nnlt0 (by omega), nnlt0 (by omega), nnlt0 (by omega), by omega, by omega⟩]
  · show X8_copy _ _ _ _ _ _ = _
    have g1 : (aI σ 400 t (va_cpy (σ.1 400 r) (σ.1 400 t) i j N)).1 805 0 r = nI m := by simpa [aI_1] using s2
    have g2 : (aI σ 400 t (va_cpy (σ.1 400 r) (σ.1 400 t) i j N)).1 805 0 t = nI l := by simpa [aI_1] using u2
    rw [e8, g1, if_neg (nnlt0 (by omega)), g2, if_pos (nI_pos' (by omega)), if_neg (nnlt0 (by omega)), if_neg (nnlt0 (by omega)), if_neg (by rw [cmp i m (by omega) hm]; omega), if_pos (by rw [cmp2 j l (by omega) hl]; omega)]
    exact w1.trans v1
  · have f : Fr (fun c k => ((c = 400 ∨ c = 401) ∧ k = t) ∨ c = 805 ∨ c = 806 ∨ Scr c k) σ τ2 := ((Fr.aI (Or.inl ⟨Or.inl rfl, rfl⟩)).tr (w2.mono fun c k q => Or.inr (Or.inr (Or.inr (Or.inl (by rw [q]; decide)))))).tr (v2.mono fun c k q => Or.inr (Or.inr (Or.inl q)))
    have x806 : ∀ y, τ1.1 806 0 y = σ.1 806 0 y := fun y => by rw [w2.i (by decide)]; simp [aI_1]
    refine Rel_row h ht f (fun r2 _ e => ?_) (fun r2 _ e y hy => ?_) (Or.inr ⟨l, hl, ?_, ?_, fun y hy => ?_⟩)
    · rw [v2.i (by decide), w2.i (by decide)]; simp [aI_1]
    · rw [v3, if_neg (by omega), x806]
    · rw [v2.i (by decide), w2.i (by decide)]; simpa [aI_1] using u1
    · rw [v2.i (by decide), w2.i (by decide)]; simpa [aI_1] using u2
    · rw [v2.i (by decide), w2.i (by decide), v3, x806]
      simp only [aI_1, if_true, and_self]
      by_cases q : j ≤ y ∧ y < j + N
      · rw [pk_cpy_in q.1 q.2, if_pos (by omega), w3 _ (by omega), if_neg (by omega), sc _ (by omega)]
        simp only [aI_1]
        rw [if_neg (by rintro ⟨w, -⟩; cases w)]
        rw [show 40 * t + y - (40 * t + j) = y - j by omega]
      · rw [pk_cpy_out (by omega), if_neg (by omega)]
        exact uc y hy
