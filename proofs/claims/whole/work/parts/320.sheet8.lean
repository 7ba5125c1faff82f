/-! lists in places -/
def Cel (g : Nat → Int32) (l : List Nat) : Prop := ∀ j, j < l.length → g j = nI (l.getD j 0)
def Sg (l : List Nat) : Prop := ∀ v ∈ l, v < 6
theorem Cel.cg {g h : Nat → Int32} {l : List Nat} (c : Cel g l) (e : ∀ j, j < l.length → h j = g j) : Cel h l := fun j hj => (e j hj).trans (c j hj)
theorem getD_sn_lt {l : List Nat} {v j d : Nat} (h : j < l.length) : (l ++ [v]).getD j d = l.getD j d := by
  simp [List.getD_eq_getElem?_getD, List.getElem?_append_left h]
theorem getD_sn_eq {l : List Nat} {v d : Nat} : (l ++ [v]).getD l.length d = v := by
  simp [List.getD_eq_getElem?_getD]
theorem Cel.sn {g : Nat → Int32} {l : List Nat} {v : Nat} (c : Cel g l) (e : g l.length = nI v) : Cel g (l ++ [v]) := fun j hj => by
  simp at hj
  by_cases q : j = l.length
  · subst q; rw [e, getD_sn_eq]
  · rw [c j (by omega), getD_sn_lt (by omega)]
theorem Sg.sn {l : List Nat} {v : Nat} (h : Sg l) (hv : v < 6) : Sg (l ++ [v]) := fun w hw => by
  rcases List.mem_append.mp hw with q | q
  · exact h w q
  · simp at q; omega
theorem Sg.app {l r : List Nat} (h : Sg l) (hv : Sg r) : Sg (l ++ r) := fun w hw => by
  rcases List.mem_append.mp hw with q | q
  · exact h w q
  · exact hv w q
theorem Sg.at {l : List Nat} {j d : Nat} (h : Sg l) (hj : j < l.length) : l.getD j d < 6 := by
  rw [List.getD_eq_getElem?_getD, List.getElem?_eq_getElem hj]
  exact h _ (List.getElem_mem hj)
def Sh8 (σ : Mem) (s : List Nat) : Prop := σ.1 816 0 0 = nI s.length ∧ s.length ≤ 8 ∧ Sg s ∧ Cel (fun j => σ.1 815 0 j) s
def Ou8 (σ : Mem) (o : List Nat) : Prop := σ.1 818 0 0 = nI o.length ∧ o.length ≤ 16 ∧ Sg o ∧ Cel (fun j => σ.1 817 0 j) o
def Rw8 (σ : Mem) (r : Nat) (s : List Nat) : Prop := σ.1 805 0 r = nI s.length ∧ s.length ≤ 40 ∧ Cel (fun j => σ.1 806 0 (40 * r + j)) s
theorem Sh8.fr {P : Nat → Nat → Prop} {σ τ : Mem} {s : List Nat} (h : Sh8 σ s) (f : Fr P σ τ) (h1 : ¬ P 815 0) (h2 : ¬ P 816 0) : Sh8 τ s := ⟨by rw [f.i h2]; exact h.1, h.2.1, h.2.2.1, h.2.2.2.cg fun j _ => f.i h1 j⟩
theorem Ou8.fr {P : Nat → Nat → Prop} {σ τ : Mem} {s : List Nat} (h : Ou8 σ s) (f : Fr P σ τ) (h1 : ¬ P 817 0) (h2 : ¬ P 818 0) : Ou8 τ s := ⟨by rw [f.i h2]; exact h.1, h.2.1, h.2.2.1, h.2.2.2.cg fun j _ => f.i h1 j⟩
theorem Rw8.fr {P : Nat → Nat → Prop} {σ τ : Mem} {r : Nat} {s : List Nat} (h : Rw8 σ r s) (f : Fr P σ τ) (h1 : ¬ P 805 0) (h2 : ¬ P 806 0) : Rw8 τ r s := ⟨by rw [f.i h1]; exact h.1, h.2.1, h.2.2.cg fun j _ => f.i h2 (40 * r + j)⟩
theorem ML8.fr {P : Nat → Nat → Prop} {σ τ : Mem} {n : Nat} {T : Nat → Nat → Int32} (h : ML8 σ n T) (f : Fr P σ τ) (h1 : ¬ P 810 0) (h2 : ¬ P 811 0) : ML8 τ n T := ⟨by rw [f.i h1]; exact h.1, h.2.1, fun k hk g hg => by rw [f.i h2]; exact h.2.2 k hk g hg⟩
theorem X8_hasZ_n {σ : Mem} {kd : Nat} (h : kd < 6) : X8_hasZ σ (nI kd) = some (σ, if kd = 3 ∨ kd = 4 then 1 else 0) := by
  unfold X8_hasZ
  match kd, h with
  | 0, _ | 1, _ | 2, _ | 3, _ | 4, _ | 5, _ => rfl
  | n + 6, h => omega
theorem hold_eq {T : Nat → Nat → Int32} {k sg nx kd : Nat} (h : T k 0 = nI kd) (hk : kd < 6) : hold T k sg nx = (decide (T k 1 = nI sg) && (!(decide (kd = 3) || decide (kd = 4)) || decide (T k 3 = nI nx) || (decide (kd = 4) && decide (nx = 6)))) := by
  unfold hold
  rw [h]
  have d3 : (nI kd = (3 : Int32)) ↔ kd = 3 := neq_r (by omega) (by decide)
  have d4 : (nI kd = (4 : Int32)) ↔ kd = 4 := neq_r (by omega) (by decide)
  simp [d3, d4]
theorem X8_holds_n {σ : Mem} {n k i : Nat} {T : Nat → Nat → Int32} {s : List Nat} (hM : ML8 σ n T) (hT : TV T n) (hk : k < n) (hS : Sh8 σ s) (hi : i < s.length) : X8_holds σ (nI k) (nI i) = some (σ, if hold T k (s.getD i 0) (s.getD (i + 1) 6) = true then 1 else 0) := by
  obtain ⟨m1, m2, m3⟩ := hM
  obtain ⟨s1, s2, s3, s4⟩ := hS
  obtain ⟨kd, xx, h1, h2, h3, h4, -, h6, -⟩ := hT k hk
  have e0 : σ.1 811 0 (5 * k) = nI kd := by rw [← h3]; exact m3 k hk 0 (by decide)
  have e1 : σ.1 811 0 (5 * k + 1) = T k 1 := m3 k hk 1 (by decide)
  have e3 : σ.1 811 0 (5 * k + 3) = T k 3 := m3 k hk 3 (by decide)
  have c0 : σ.1 815 0 i = nI (s.getD i 0) := s4 i hi
  unfold X8_holds lt_
  rw [nmul_l]
  show ck (nI (5 * k)) 40 _ = _
  rw [ck_n (by omega) (by decide)]
  dsimp only []
  rw [ck_n (by omega) (by decide), nadd_r]
  show ck (nI (5 * k + 1)) 40 _ = _
  rw [ck_n (by omega) (by decide)]
  rw [ncl (show i < 2147483648 by omega)]
  show (if σ.1 815 0 i = σ.1 811 0 (nI (5 * k + 1)).toNatClampNeg then _ else _) = _
  rw [ncl (show 5 * k + 1 < 2147483648 by omega), ncl (show 5 * k < 2147483648 by omega), e0, e1, c0, hold_eq h3 h1]
  by_cases q : nI (s.getD i 0) = T k 1
  · rw [if_pos q, s1]
    have J : ∀ z : Int32, X8_holds_J45 σ (nI k) (nI i) (nI kd) z = if kd = 3 ∨ kd = 4 then (if z = 0 then (if i + 1 < 8 then (if σ.1 815 0 (i + 1) = T k 3 then some (σ, 1) else some (σ, 0)) else none) else (if kd = 4 then some (σ, 1) else some (σ, 0))) else some (σ, 1) := by
      intro z
      unfold X8_holds_J45
      rw [X8_hasZ_n h1]
      dsimp only [Option.bind_some]
      by_cases g : kd = 3 ∨ kd = 4
      · rw [if_pos g, if_pos g, if_neg one_ne0]
        by_cases g2 : z = 0
        · rw [if_pos g2, if_pos g2, nadd_r, nmul_l, nadd_r]
          show ck (nI (i + 1)) 8 (ck (nI (5 * k + 3)) 40 _) = _
          by_cases g3 : i + 1 < 8
          · rw [if_pos g3, ck_n g3 (by decide), ck_n (by omega) (by decide)]
            show (if σ.1 815 0 (nI (i + 1)).toNatClampNeg = σ.1 811 0 (nI (5 * k + 3)).toNatClampNeg then _ else _) = _
            rw [ncl (show i + 1 < 2147483648 by omega), ncl (show 5 * k + 3 < 2147483648 by omega), e3, b1, b0]
          · rw [if_neg g3, ck, if_pos]
            right
            rw [ncl (show i + 1 < 2147483648 by omega)]
            omega
        · rw [if_neg g2, if_neg g2, b1, b0]
          by_cases g3 : kd = 4
          · rw [if_pos g3, if_pos (by rw [neq_r (by omega) (by decide)]; exact g3)]
          · rw [if_neg g3, if_neg (by rw [neq_r (by omega) (by decide)]; exact g3)]
      · rw [if_neg g, if_neg g, if_pos rfl, b1]
    rw [nsub_r (show 1 ≤ s.length by omega)]
    by_cases last : i + 1 = s.length
    · rw [if_pos (by rw [neq (by omega) (by show s.length - 1 < _; omega)]; show i = s.length - 1; omega), J]
      have nx : s.getD (i + 1) 6 = 6 := by rw [List.getD_eq_getElem?_getD, List.getElem?_eq_none (by omega)]; rfl
      rw [nx]
      rcases h6 with ⟨g, z, hz, e⟩ | ⟨g, e⟩
      · rw [if_pos g, if_neg one_ne0, e]
        have d : ¬ nI z = nI 6 := by rw [neq (by omega) (by decide)]; omega
        by_cases g4 : kd = 4
        · rw [if_pos g4, if_pos (by simp [q.symm, g4])]
        · have g3 : kd = 3 := by omega
          rw [if_neg g4, if_neg (by simp [d, g3])]
      · rw [if_neg g, if_pos (by simp [q.symm]; omega)]
    · rw [if_neg (by rw [neq (by omega) (by show s.length - 1 < _; omega)]; show ¬ i = s.length - 1; omega), J]
      have hi2 : i + 1 < s.length := by omega
      have nx : s.getD (i + 1) 6 = s.getD (i + 1) 0 := by simp [List.getD_eq_getElem?_getD, List.getElem?_eq_getElem hi2]
      have n6 := Sg.at (d := 0) s3 hi2
      have c1 : σ.1 815 0 (i + 1) = nI (s.getD (i + 1) 0) := s4 (i + 1) hi2
      rw [nx]
      have d6 : ¬ s.getD (i + 1) 0 = 6 := by omega
      by_cases g : kd = 3 ∨ kd = 4
      · rw [if_pos g, if_pos rfl, if_pos (by omega), c1]
        by_cases g5 : nI (s.getD (i + 1) 0) = T k 3
        · rw [if_pos g5, if_pos (by rw [q.symm, g5.symm]; simp)]
        · have g6 : ¬ T k 3 = nI (s.getD (i + 1) 0) := fun w => g5 w.symm
          have g7 : (!(decide (kd = 3) || decide (kd = 4))) = false := by
            rcases g with g | g <;> simp [g]
          rw [if_neg g5, if_neg (by rw [g7]; simp only [g6, d6]; simp)]
      · have g7 : (!(decide (kd = 3) || decide (kd = 4))) = true := by simp; omega
        rw [if_neg g, if_pos (by rw [g7, q.symm]; simp)]
  · have q2 : ¬ T k 1 = nI (s.getD i 0) := fun w => q w.symm
    rw [if_neg q, b0, if_neg (by simp only [q2]; simp)]
theorem X8_has_n {σ : Mem} {m k : Nat} (hm : m < 2147483648) (hk : k < 31) : X8_has σ (nI m) (nI k) = some (σ, if m.testBit k = true then 1 else 0) := by
  unfold X8_has
  by_cases h : m.testBit k = true
  · rw [if_pos ((bit7_1 hm hk).mpr h), if_pos h, b1]
  · rw [if_neg (fun q => h ((bit7_1 hm hk).mp q)), if_neg h, b0]
theorem X8_lawAt_L {σ : Mem} {n m i : Nat} {T : Nat → Nat → Int32} {s : List Nat} {kk : Mem → Option (Mem × Int32)} (hM : ML8 σ n T) (hT : TV T n) (hm : m < 2147483648) (hS : Sh8 σ s) (hi : i < s.length) : ∀ (c j f : Nat), c < f → j + c = n → X8_lawAt_L2 (nI i) (nI m) kk f σ (nI j) = match chsF T m (s.getD i 0) (s.getD (i + 1) 6) c j with | none => kk σ | some k => some (σ, nI k) := by
  intro c
  have h8 := hM.2.1
  induction c with
  | zero =>
    intro j f hf he
    obtain ⟨g, rfl⟩ : ∃ g, f = g + 1 := ⟨f - 1, by omega⟩
    rw [X8_lawAt_L2, hM.1, if_pos (by rw [nle (by omega) (by omega)]; omega)]
    rfl
  | succ c ih =>
    intro j f hf he
    obtain ⟨g, rfl⟩ : ∃ g, f = g + 1 := ⟨f - 1, by omega⟩
    rw [X8_lawAt_L2, hM.1, if_neg (by rw [nle (by omega) (by omega)]; omega), chsF, X8_has_n hm (by omega)]
    dsimp only [Option.bind_some]
    by_cases e : m.testBit j = true
    · rw [if_pos e, if_neg one_ne0, X8_holds_n hM hT (by omega) hS hi]
      dsimp only [Option.bind_some]
      by_cases e2 : hold T j (s.getD i 0) (s.getD (i + 1) 6) = true
      · rw [if_pos e2, if_neg one_ne0, if_pos (by rw [e, e2]; rfl)]
      · rw [if_neg e2, if_pos rfl, if_neg (by rw [e]; simpa using e2), nadd_r]
        exact ih (j + 1) g (by omega) (by omega)
    · rw [if_neg e, if_pos rfl, if_neg (by simp at e; simp [e]), nadd_r]
      exact ih (j + 1) g (by omega) (by omega)
theorem X8_lawAt_n {σ : Mem} {n m i : Nat} {T : Nat → Nat → Int32} {s : List Nat} (hM : ML8 σ n T) (hT : TV T n) (hm : m < 2147483648) (hS : Sh8 σ s) (hi : i < s.length) : X8_lawAt σ (nI i) (nI m) = some (σ, chI (chs T n m (s.getD i 0) (s.getD (i + 1) 6))) := by
  have h8 := hM.2.1
  unfold X8_lawAt
  have := X8_lawAt_L (kk := fun s => some (s, -9)) hM hT hm hS hi n 0 FU (fu_gt (by omega)) (by omega)
  rw [show (0 : Int32) = nI 0 from rfl, this]
  unfold chs
  cases chsF T m (s.getD i 0) (s.getD (i + 1) 6) n 0 <;> rfl
