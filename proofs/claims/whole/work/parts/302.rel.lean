/-- a list of signs as one number -/
def pkN (l : List Nat) : Nat := l.foldl (fun a v => 8 * a + (v + 1)) 0
def RowOK (σ : Mem) (r : Nat) : Prop := (σ.1 401 r 0 = -1 ∧ σ.1 805 0 r = -9) ∨ ∃ n, n ≤ 40 ∧ σ.1 401 r 0 = nI n ∧ σ.1 805 0 r = nI n ∧ ∀ j, j < n → σ.1 400 r j = σ.1 806 0 (40 * r + j)
def TextOK (σ : Mem) (t : Nat) : Prop := (σ.1 401 (6 + t) 0 = -1 ∧ σ.1 808 0 t = -9) ∨ ∃ n, n ≤ 60 ∧ σ.1 401 (6 + t) 0 = nI n ∧ σ.1 808 0 t = nI n ∧ ∀ j, j < n → σ.1 400 (6 + t) j = σ.1 809 0 (60 * t + j)
def DeedOK (J : Int64) (dr : Nat → Int32) : Prop := ∃ l : List Nat, l.length ≤ 16 ∧ (∀ v ∈ l, v < 6) ∧ J = lN (pkN l) ∧ dr 0 = nI l.length ∧ ∀ j, j < l.length → dr (1 + j) = nI (l.getD j 0)
/-- a law of the model's table is one -/
def LawV (LM : Nat → Int32) (k : Nat) : Prop := ∃ kd x : Nat, kd < 6 ∧ x < 6 ∧ LM (5 * k) = nI kd ∧ LM (5 * k + 1) = nI x ∧ ((kd = 1 ∧ LM (5 * k + 2) = -9) ∨ (kd ≠ 1 ∧ ∃ y, y < 6 ∧ LM (5 * k + 2) = nI y)) ∧ (((kd = 3 ∨ kd = 4) ∧ ∃ z, z < 6 ∧ LM (5 * k + 3) = nI z) ∨ (¬ (kd = 3 ∨ kd = 4) ∧ LM (5 * k + 3) = -9)) ∧ (LM (5 * k + 4) = 0 ∨ LM (5 * k + 4) = 1)
/-- press p of the class, against the model's numbers -/
def PR (σ : Mem) (p n : Nat) (LM DM IM : Nat → Int32) (dm : Int32) : Prop :=
  σ.1 203 p 0 = nI n ∧ (∃ d, d ≤ 40 ∧ σ.1 204 p 0 = nI d ∧ dm = nI d ∧ ∀ e, e < d → DeedOK (σ.2.1 201 p e) (fun j => DM (17 * e + j))) ∧ (∀ s, s < 6 → σ.1 202 p s = IM s) ∧
  (∀ k, k < n → ∃ x, σ.2.2 200 p k = some x ∧ 8 * p ≤ x ∧ x < 8 * p + 8 ∧ ∀ f, f < 5 → σ.1 (100 + f) x 0 = LM (5 * k + f)) ∧ ∀ k, k < n → LawV LM k
def RefOK (σ : Mem) : Prop := ∀ p, p < 4 → (∀ k, k < 8 → ∃ x, σ.2.2 200 p k = some x ∧ 8 * p ≤ x ∧ x < 8 * p + 8) ∧ ∀ k l, k < 8 → l < 8 → σ.2.2 200 p k = σ.2.2 200 p l → k = l
def HushOK (σ : Mem) : Prop := (∀ x, x < 32 → σ.1 104 x 0 = 0 ∨ σ.1 104 x 0 = 1) ∧ ∀ x, 32 ≤ x → x < 40 → σ.1 104 x 0 = 0
def KeptOK (σ : Mem) (n k : Nat) : Prop := (σ.1 203 (k + 1) 0 = 0 ∧ σ.1 829 0 (727 * k) = -9) ∨ (0 < n ∧ PR σ (k + 1) n (fun i => σ.1 829 0 (727 * k + 1 + i)) (fun i => σ.1 829 0 (727 * k + 47 + i)) (fun i => σ.1 829 0 (727 * k + 41 + i)) (σ.1 829 0 (727 * k)))
def RP (σ : Mem) : Prop := RefOK σ ∧ HushOK σ ∧ ∃ n, n ≤ 8 ∧ σ.1 810 0 0 = nI n ∧ PR σ 0 n (fun i => σ.1 811 0 i) (fun i => σ.1 828 0 i) (fun i => σ.1 827 0 i) (σ.1 826 0 0) ∧ ∀ k, k < 3 → KeptOK σ n k
def RA (σ : Mem) : Prop := σ.1 713 0 0 = σ.1 802 0 0 ∧ σ.2.1 714 0 0 = σ.2.1 803 0 0 ∧ σ.2.1 715 0 0 = σ.2.1 804 0 0 ∧ σ.1 712 0 0 = σ.1 800 0 0 ∧ ∀ f, 1 ≤ f → f < 6 → σ.1 711 0 f = σ.1 801 0 f
def RR (σ : Mem) : Prop := ∀ r, r < 6 → RowOK σ r
def RT (σ : Mem) : Prop := ∀ t, t < 4 → TextOK σ t
def Rel (σ : Mem) : Prop := RA σ ∧ RR σ ∧ RT σ ∧ RP σ
/-! frames -/
theorem RowOK.fr {P : Nat → Nat → Prop} {σ τ : Mem} {r : Nat} (h : RowOK σ r) (f : Fr P σ τ) (h1 : ¬ P 401 r) (h2 : ¬ P 400 r) (h3 : ¬ P 805 0) (h4 : ¬ P 806 0) : RowOK τ r := by
  rcases h with ⟨a, b⟩ | ⟨n, a, b, c, d⟩
  · exact Or.inl ⟨by rw [f.i h1]; exact a, by rw [f.i h3]; exact b⟩
  · exact Or.inr ⟨n, a, by rw [f.i h1]; exact b, by rw [f.i h3]; exact c, fun j hj => by rw [f.i h2, f.i h4]; exact d j hj⟩
theorem TextOK.fr {P : Nat → Nat → Prop} {σ τ : Mem} {t : Nat} (h : TextOK σ t) (f : Fr P σ τ) (h1 : ¬ P 401 (6 + t)) (h2 : ¬ P 400 (6 + t)) (h3 : ¬ P 808 0) (h4 : ¬ P 809 0) : TextOK τ t := by
  rcases h with ⟨a, b⟩ | ⟨n, a, b, c, d⟩
  · exact Or.inl ⟨by rw [f.i h1]; exact a, by rw [f.i h3]; exact b⟩
  · exact Or.inr ⟨n, a, by rw [f.i h1]; exact b, by rw [f.i h3]; exact c, fun j hj => by rw [f.i h2, f.i h4]; exact d j hj⟩
theorem PR.fr {P : Nat → Nat → Prop} {σ τ : Mem} {p n : Nat} {LM DM IM : Nat → Int32} {dm : Int32} (h : PR σ p n LM DM IM dm) (f : Fr P σ τ) (h1 : ∀ c, 200 ≤ c → c ≤ 204 → ¬ P c p) (h2 : ∀ c x, 100 ≤ c → c ≤ 104 → 8 * p ≤ x → x < 8 * p + 8 → ¬ P c x) : PR τ p n LM DM IM dm := by
  obtain ⟨a, ⟨d, b1, b2, b3, b4⟩, c, e, g⟩ := h
  refine ⟨by rw [f.i (h1 203 (by omega) (by omega))]; exact a, ⟨d, b1, by rw [f.i (h1 204 (by omega) (by omega))]; exact b2, b3, fun i hi => by rw [f.j (h1 201 (by omega) (by omega))]; exact b4 i hi⟩, fun s hs => by rw [f.i (h1 202 (by omega) (by omega))]; exact c s hs, fun k hk => ?_, g⟩
  obtain ⟨x, x1, x2, x3, x4⟩ := e k hk
  exact ⟨x, by rw [f.r (h1 200 (by omega) (by omega))]; exact x1, x2, x3, fun i hi => by rw [f.i (h2 (100 + i) x (by omega) (by omega) x2 x3)]; exact x4 i hi⟩
theorem RP.fr {P : Nat → Nat → Prop} {σ τ : Mem} (h : RP σ) (f : Fr P σ τ) (h1 : ∀ c p, 200 ≤ c → c ≤ 204 → ¬ P c p) (h2 : ∀ c x, 100 ≤ c → c ≤ 104 → x < 32 → ¬ P c x) (h3 : ∀ x, x < 40 → ¬ P 104 x) (h4 : ¬ P 810 0) (h5 : ¬ P 811 0) (h6 : ¬ P 826 0) (h7 : ¬ P 827 0) (h8 : ¬ P 828 0) (h9 : ¬ P 829 0) : RP τ := by
  obtain ⟨a, b, n, c1, c2, c3, c4⟩ := h
  have e5 : ∀ i, τ.1 811 0 i = σ.1 811 0 i := fun i => f.i h5 i
  have e6 : τ.1 826 0 0 = σ.1 826 0 0 := f.i h6 0
  have e7 : ∀ i, τ.1 827 0 i = σ.1 827 0 i := fun i => f.i h7 i
  have e8 : ∀ i, τ.1 828 0 i = σ.1 828 0 i := fun i => f.i h8 i
  have e9 : ∀ i, τ.1 829 0 i = σ.1 829 0 i := fun i => f.i h9 i
  refine ⟨fun p hp => ⟨fun k hk => ?_, fun k l hk hl e => ?_⟩, ⟨fun x hx => ?_, fun x hx hx2 => ?_⟩, n, c1, by rw [f.i h4]; exact c2, ?_, fun k hk => ?_⟩
  · rw [f.r (h1 200 p (by omega) (by omega))]; exact (a p hp).1 k hk
  · rw [f.r (h1 200 p (by omega) (by omega)), f.r (h1 200 p (by omega) (by omega))] at e; exact (a p hp).2 k l hk hl e
  · rw [f.i (h3 x (by omega))]; exact b.1 x hx
  · rw [f.i (h3 x (by omega))]; exact b.2 x hx hx2
  · simp only [e5, e6, e7, e8]
    exact c3.fr f (fun c q1 q2 => h1 c 0 q1 q2) (fun c x q1 q2 q3 q4 => h2 c x q1 q2 (by omega))
  · unfold KeptOK
    simp only [e9]
    rw [f.i (h1 203 (k + 1) (by omega) (by omega))]
    rcases c4 k hk with q | ⟨q0, q⟩
    · exact Or.inl q
    · exact Or.inr ⟨q0, q.fr f (fun c q1 q2 => h1 c (k + 1) q1 q2) (fun c x q1 q2 q3 q4 => h2 c x q1 q2 (by omega))⟩
theorem RA.fr {P : Nat → Nat → Prop} {σ τ : Mem} (h : RA σ) (f : Fr P σ τ) (h1 : ∀ c, c ∈ [713, 802, 714, 803, 715, 804, 712, 800, 711, 801] → ¬ P c 0) : RA τ := by
  obtain ⟨a, b, c, d, e⟩ := h
  refine ⟨?_, ?_, ?_, ?_, fun g g1 g2 => ?_⟩
  · rw [f.i (h1 713 (by decide)), f.i (h1 802 (by decide))]; exact a
  · rw [f.j (h1 714 (by decide)), f.j (h1 803 (by decide))]; exact b
  · rw [f.j (h1 715 (by decide)), f.j (h1 804 (by decide))]; exact c
  · rw [f.i (h1 712 (by decide)), f.i (h1 800 (by decide))]; exact d
  · rw [f.i (h1 711 (by decide)), f.i (h1 801 (by decide))]; exact e g g1 g2
/-- what no call shows: the class's, the model's -/
def Scr (c k : Nat) : Prop := c ∈ [0, 1, 2, 3, 4, 301, 500, 501, 502, 503, 600, 601, 602, 603, 604, 605, 710, 807, 812, 813, 814, 815, 816, 817, 818, 819, 820, 821, 822, 823, 824, 825, 830] ∨ ((c = 400 ∨ c = 401) ∧ k = 10) ∨ (100 ≤ c ∧ c ≤ 103 ∧ 32 ≤ k) ∨ (c = 104 ∧ 40 ≤ k)
/-- the answers' cells: may change too -/
def ScA (c k : Nat) : Prop := Scr c k ∨ c ∈ [713, 802, 714, 803, 715, 804, 712, 800, 711, 801]
theorem scA {c k : Nat} (h : Scr c k) : ScA c k := Or.inl h
theorem RB_scr {σ τ : Mem} (f : Fr ScA σ τ) (hR : RR σ) (hT : RT σ) (hP : RP σ) : RR τ ∧ RT τ ∧ RP τ := by
  refine ⟨fun r hr => (hR r hr).fr f ?_ ?_ ?_ ?_, fun t ht => (hT t ht).fr f ?_ ?_ ?_ ?_, hP.fr f ?_ ?_ ?_ ?_ ?_ ?_ ?_ ?_ ?_⟩ <;> simp [ScA, Scr] <;> omega
theorem Rel_scr {σ τ : Mem} (h : Rel σ) (f : Fr Scr σ τ) : Rel τ := by
  obtain ⟨a, b, c, d⟩ := h
  refine ⟨a.fr f ?_, RB_scr (f.mono fun _ _ => scA) b c d⟩
  intro c hc
  simp only [List.mem_cons, List.not_mem_nil, or_false] at hc
  rcases hc with rfl | rfl | rfl | rfl | rfl | rfl | rfl | rfl | rfl | rfl <;> simp [Scr]
theorem Fr_ans {σ : Mem} {f : Nat} : Fr ScA σ (ans7 σ f) := (Fr.uI (Or.inr (by decide))).tr (Fr.uI (Or.inr (by decide)))
theorem Fr_met {σ : Mem} {f : Nat} : Fr ScA σ (met8 σ f) := (Fr.uI (Or.inr (by decide))).tr (Fr.uI (Or.inr (by decide)))
/-- a finding is answered by both -/
theorem Rel_fnd {σ : Mem} (h : Rel σ) (f : Nat) (h1 : 1 ≤ f) (h2 : f < 6) : Rel (met8 (ans7 σ f) f) := by
  obtain ⟨a, b, c, d⟩ := h
  refine ⟨?_, RB_scr (Fr_ans.tr Fr_met) b c d⟩
  obtain ⟨a1, a2, a3, a4, a5⟩ := a
  refine ⟨?_, ?_, ?_, ?_, fun g g1 g2 => ?_⟩
  · simpa [met8, ans7, uI_1] using a1
  · simpa [met8, ans7, uI_2] using a2
  · simpa [met8, ans7, uI_2] using a3
  · simp [met8, ans7, uI_1]
  · by_cases e : g = f
    · subst e
      simp [met8, ans7, uI_1, a5 g g1 g2]
    · simp [met8, ans7, uI_1, a5 g g1 g2, e]
/-- what two calls of the same name do -/
def Both {α : Type} (f7 f8 : Mem → Option (Mem × α)) (σ : Mem) : Prop := ∃ q1 q2, f7 σ = some q1 ∧ f8 q1.1 = some q2 ∧ q1.2 = q2.2 ∧ Rel q2.1
theorem Both.mk' {α : Type} {f7 f8 : Mem → Option (Mem × α)} {σ σ1 σ2 : Mem} {r : α} (h1 : f7 σ = some (σ1, r)) (h2 : f8 σ1 = some (σ2, r)) (h3 : Rel σ2) : Both f7 f8 σ := ⟨(σ1, r), (σ2, r), h1, h2, rfl, h3⟩
