/-! what comes out, in numbers: T k f is field f of law k, n laws, those of the bits m are on; END is 6 -/
def hold (T : Nat → Nat → Int32) (k sg nx : Nat) : Bool := decide (T k 1 = nI sg) && (!(decide (T k 0 = 3) || decide (T k 0 = 4)) || decide (T k 3 = nI nx) || (decide (T k 0 = 4) && decide (nx = 6)))
def chsF (T : Nat → Nat → Int32) (m sg nx : Nat) : Nat → Nat → Option Nat
  | 0, _ => none
  | c + 1, k => if (m.testBit k && hold T k sg nx) = true then some k else chsF T m sg nx c (k + 1)
def chs (T : Nat → Nat → Int32) (n m sg nx : Nat) : Option Nat := chsF T m sg nx n 0
def pcL (T : Nat → Nat → Int32) (k sg : Nat) : List Nat := if T k 0 = 1 then [] else if T k 0 = 2 then [sg, (T k 2).toNatClampNeg] else if T k 0 = 5 then [(T k 2).toNatClampNeg, sg] else [(T k 2).toNatClampNeg]
def pcS (T : Nat → Nat → Int32) (n m sg nx : Nat) : List Nat := match chs T n m sg nx with
  | none => [sg]
  | some k => pcL T k sg
def nxt (s : List Nat) (i : Nat) : Nat := s.getD (i + 1) 6
/-- what comes out of the signs from the first on -/
def outS (T : Nat → Nat → Int32) (n m : Nat) : List Nat → List Nat
  | [] => []
  | a :: t => pcS T n m a (t.headD 6) ++ outS T n m t
/-- a table of laws that are laws -/
def TV (T : Nat → Nat → Int32) (n : Nat) : Prop := ∀ k, k < n → ∃ kd x : Nat, kd < 6 ∧ x < 6 ∧ T k 0 = nI kd ∧ T k 1 = nI x ∧ ((kd = 1 ∧ True) ∨ (kd ≠ 1 ∧ ∃ y, y < 6 ∧ T k 2 = nI y)) ∧ (((kd = 3 ∨ kd = 4) ∧ ∃ z, z < 6 ∧ T k 3 = nI z) ∨ (¬ (kd = 3 ∨ kd = 4) ∧ True)) ∧ (T k 4 = 0 ∨ T k 4 = 1)
theorem LawV_TV {LM : Nat → Int32} {n : Nat} (h : ∀ k, k < n → LawV LM k) : TV (fun k f => LM (5 * k + f)) n := fun k hk => by
  obtain ⟨kd, x, h1, h2, h3, h4, h5, h6, h7⟩ := h k hk
  exact ⟨kd, x, h1, h2, h3, h4, h5.imp (fun q => ⟨q.1, trivial⟩) id, h6.imp id (fun q => ⟨q.1, trivial⟩), h7⟩
theorem chsF_lt {T : Nat → Nat → Int32} {m sg nx : Nat} : ∀ (c k j : Nat), chsF T m sg nx c k = some j → k ≤ j ∧ j < k + c := by
  intro c
  induction c with
  | zero => intro k j h; cases h
  | succ c ih =>
    intro k j h
    rw [chsF] at h
    by_cases q : (m.testBit k && hold T k sg nx) = true
    · rw [if_pos q] at h; cases h; omega
    · rw [if_neg q] at h
      have := ih (k + 1) j h
      omega
theorem chs_lt {T : Nat → Nat → Int32} {n m sg nx j : Nat} (h : chs T n m sg nx = some j) : j < n := by
  have := chsF_lt n 0 j h
  omega
theorem pcL_ok {T : Nat → Nat → Int32} {n k sg : Nat} (hT : TV T n) (hk : k < n) (hs : sg < 6) : (pcL T k sg).length ≤ 2 ∧ ∀ v ∈ pcL T k sg, v < 6 := by
  obtain ⟨kd, x, h1, h2, h3, h4, h5, -⟩ := hT k hk
  have e : ∀ y, y < 6 → (nI y).toNatClampNeg = y := fun y hy => ncl (by omega)
  unfold pcL
  rw [h3]
  rcases h5 with ⟨rfl, h5⟩ | ⟨hne, y, hy, h5⟩
  · rw [if_pos (show nI 1 = (1 : Int32) from rfl)]
    exact ⟨by simp, by simp⟩
  · rw [if_neg (by rw [neq_r (by omega) (by decide)]; exact hne), h5, e y hy]
    split
    · exact ⟨by simp, by simp; omega⟩
    · split
      · exact ⟨by simp, by simp; omega⟩
      · exact ⟨by simp, by simp; omega⟩
theorem pcS_ok {T : Nat → Nat → Int32} {n m sg nx : Nat} (hT : TV T n) (hs : sg < 6) : (pcS T n m sg nx).length ≤ 2 ∧ ∀ v ∈ pcS T n m sg nx, v < 6 := by
  unfold pcS
  split
  · exact ⟨by simp, by simp; omega⟩
  · rename_i k hk
    exact pcL_ok hT (chs_lt hk) hs
theorem outS_ok {T : Nat → Nat → Int32} {n m : Nat} (hT : TV T n) : ∀ s : List Nat, (∀ v ∈ s, v < 6) → (outS T n m s).length ≤ 2 * s.length ∧ ∀ v ∈ outS T n m s, v < 6 := by
  intro s
  induction s with
  | nil => intro _; exact ⟨by simp [outS], by simp [outS]⟩
  | cons a t ih =>
    intro h
    obtain ⟨i1, i2⟩ := ih (fun v hv => h v (List.mem_cons_of_mem _ hv))
    obtain ⟨p1, p2⟩ := pcS_ok (m := m) (nx := t.headD 6) hT (h a List.mem_cons_self)
    rw [outS]
    refine ⟨by simp only [List.length_append, List.length_cons]; omega, fun v hv => ?_⟩
    rcases List.mem_append.mp hv with q | q
    · exact p2 v q
    · exact i2 v q
/-! packing -/
theorem pkN_app (l r : List Nat) : pkN (l ++ r) = r.foldl (fun a v => 8 * a + (v + 1)) (pkN l) := by simp [pkN, List.foldl_append]
theorem pkN_snoc (l : List Nat) (v : Nat) : pkN (l ++ [v]) = 8 * pkN l + (v + 1) := by simp [pkN, List.foldl_append]
theorem pk_fold_lt : ∀ (l : List Nat) (a k : Nat), (∀ v ∈ l, v < 6) → a < 8 ^ k → l.foldl (fun a v => 8 * a + (v + 1)) a < 8 ^ (k + l.length) := by
  intro l
  induction l with
  | nil => intro a k _ h; simpa using h
  | cons v t ih =>
    intro a k h ha
    have hv : v < 6 := h v List.mem_cons_self
    have := ih (8 * a + (v + 1)) (k + 1) (fun w hw => h w (List.mem_cons_of_mem _ hw)) (by rw [Nat.pow_succ]; omega)
    rw [List.foldl_cons, List.length_cons]
    rw [show k + (t.length + 1) = k + 1 + t.length by omega]
    exact this
theorem pkN_lt {l : List Nat} (h : ∀ v ∈ l, v < 6) : pkN l < 8 ^ l.length := by
  have := pk_fold_lt l 0 0 h (by decide)
  simpa [pkN] using this
theorem pkN_lt48 {l : List Nat} (h : ∀ v ∈ l, v < 6) (hl : l.length ≤ 16) : pkN l < 281474976710656 := by
  have h1 := pkN_lt h
  have h2 : 8 ^ l.length ≤ 8 ^ 16 := Nat.pow_le_pow_right (by decide) hl
  have h3 : (8 : Nat) ^ 16 = 281474976710656 := by decide
  omega
