theorem s_l : ∀ n, n < 32 → ((nI n &&& 31).toBitVec.smod 32).toNat = n := by decide +kernel
theorem bit7 {m k : Nat} (hm : m < 2147483648) (hk : k < 31) : ((nI m >>> (nI k &&& 31)) &&& (1 : Int32)) = nI (m / 2 ^ k % 2) := by
  rw [pk_shrN hm (nI k &&& 31) k (s_l k (by omega)), pk_andN (by have := Nat.div_le_self m (2 ^ k); omega) 1 rfl]
theorem tb_div (m k : Nat) : m.testBit k = decide (m / 2 ^ k % 2 = 1) := by
  rw [Nat.testBit_eq_decide_div_mod_eq]
theorem bit7_1 {m k : Nat} (hm : m < 2147483648) (hk : k < 31) : ((nI m >>> (nI k &&& 31)) &&& (1 : Int32)) = 1 ↔ m.testBit k = true := by
  rw [bit7 hm hk, tb_div, decide_eq_true_iff]
  have : m / 2 ^ k % 2 < 2 := Nat.mod_lt _ (by decide)
  rw [neq_r (by omega) (by decide)]
/-- press p of the class has these laws -/
def PL (σ : Mem) (p n : Nat) (T : Nat → Nat → Int32) : Prop := σ.1 203 p 0 = nI n ∧ n ≤ 8 ∧ ∀ k, k < n → ∃ x, σ.2.2 200 p k = some x ∧ x < 41 ∧ ∀ f, f < 5 → σ.1 (100 + f) x 0 = T k f
theorem PR.pl {σ : Mem} {p n : Nat} {LM DM IM : Nat → Int32} {dm : Int32} (h : PR σ p n LM DM IM dm) (hp : p < 4) (hn : n ≤ 8) : PL σ p n (fun k f => LM (5 * k + f)) := ⟨h.1, hn, fun k hk => by
  obtain ⟨x, h1, h2, h3, h4⟩ := h.2.2.2.1 k hk
  exact ⟨x, h1, by omega, h4⟩⟩
theorem X1_isOf3 {σ : Mem} {x kd : Nat} (hx : x < 41) (h : σ.1 100 x 0 = nI kd) (hk : kd < 6) : X1_isOf σ x 3 = some (σ, if kd = 3 ∨ kd = 4 then 1 else 0) := by
  unfold X1_isOf
  rw [if_pos hx, h]
  match kd, hk with
  | 0, _ | 1, _ | 2, _ | 3, _ | 4, _ | 5, _ => rfl
  | n + 6, hk => omega
theorem X1_holds_n {σ : Mem} {x k sg nx n : Nat} {T : Nat → Nat → Int32} (hx : x < 41) (hf : ∀ f, f < 5 → σ.1 (100 + f) x 0 = T k f) (hT : TV T n) (hk : k < n) (hn : nx < 7) : X1_holds σ x (nI sg) (nI nx) = some (σ, if hold T k sg nx = true then 1 else 0) := by
  obtain ⟨kd, xx, h1, h2, h3, h4, -⟩ := hT k hk
  have f0 := hf 0 (by decide)
  have f1 : σ.1 101 x 0 = T k 1 := hf 1 (by decide)
  have f3 : σ.1 103 x 0 = T k 3 := hf 3 (by decide)
  have f0 : σ.1 100 x 0 = nI kd := by rw [← h3]; exact f0
  unfold X1_holds
  rw [if_pos hx, f1]
  by_cases e1 : nI sg = T k 1
  · rw [if_pos e1, X1_isOf3 hx f0 h1]
    dsimp only [Option.bind_some]
    have hh : hold T k sg nx = (!(decide (kd = 3) || decide (kd = 4)) || decide (T k 3 = nI nx) || (decide (kd = 4) && decide (nx = 6))) := by
      unfold hold
      rw [h3, e1.symm]
      have d3 : (nI kd = (3 : Int32)) ↔ kd = 3 := neq_r (by omega) (by decide)
      have d4 : (nI kd = (4 : Int32)) ↔ kd = 4 := neq_r (by omega) (by decide)
      simp [d3, d4]
    rw [hh]
    by_cases e2 : kd = 3 ∨ kd = 4
    · rw [if_pos e2, if_neg one_ne0, f3, f0]
      by_cases e3 : nI nx = T k 3
      · rw [if_pos e3, b1, if_pos (by simp [e3])]
      · rw [if_neg e3]
        have e3' : ¬ T k 3 = nI nx := fun q => e3 q.symm
        by_cases e4 : kd = 4
        · subst e4
          rw [if_pos (show nI 4 = (4 : Int32) from rfl)]
          by_cases e5 : nx = 6
          · subst e5
            rw [if_pos (show nI 6 = (6 : Int32) from rfl), b1, if_pos (by simp)]
          · rw [if_neg (by rw [neq_r (by omega) (by decide)]; exact e5), b0, if_neg (by simp [e3', e5])]
        · have e5 : kd = 3 := by omega
          subst e5
          rw [if_neg (show ¬ nI 3 = (4 : Int32) by decide), b0, if_neg (by simp [e3'])]
    · rw [if_neg e2, if_pos rfl, b1, if_pos (by simp; omega)]
  · rw [if_neg e1, b0, if_neg]
    have e1' : ¬ T k 1 = nI sg := fun q => e1 q.symm
    simp [hold, e1']
theorem X7_packed_n {σ : Mem} {A v : Nat} (hA : A < 2 ^ 60) (hv : v < 6) : X7_packed σ (lN A) (nI v) = some (σ, lN (8 * A + (v + 1))) := by
  unfold X7_packed
  rw [packN hA hv]
def fld (l : List Nat) (A : Nat) : Nat := l.foldl (fun a v => 8 * a + (v + 1)) A
theorem X1_after_n {σ : Mem} {x k sg n A : Nat} {T : Nat → Nat → Int32} (hx : x < 41) (hf : ∀ f, f < 5 → σ.1 (100 + f) x 0 = T k f) (hT : TV T n) (hk : k < n) (hs : T k 1 = nI sg) (hsg : sg < 6) (hA : A < 2 ^ 54) : X1_after σ x (lN A) = some (σ, lN (fld (pcL T k sg) A)) := by
  obtain ⟨kd, xx, h1, h2, h3, h4, h5, -⟩ := hT k hk
  have f0 : σ.1 100 x 0 = nI kd := by rw [← h3]; exact hf 0 (by decide)
  have f1 : σ.1 101 x 0 = T k 1 := hf 1 (by decide)
  have f2 : σ.1 102 x 0 = T k 2 := hf 2 (by decide)
  unfold X1_after
  rw [if_pos hx, f0, f1, f2, hs]
  unfold pcL
  rw [h3]
  rcases h5 with ⟨rfl, h5⟩ | ⟨hne, y, hy, h5⟩
  · rfl
  · rw [h5]
    rw [ncl (show y < 2147483648 by omega)]
    match kd, h1, hne with
    | 0, _, _ =>
      show (X7_packed σ (lN A) (nI y)).bind _ = _
      rw [X7_packed_n (by omega) hy]; rfl
    | 1, _, hne => exact absurd rfl hne
    | 2, _, _ =>
      rw [if_neg (show ¬ nI 2 = (1 : Int32) by decide), if_pos (show nI 2 = (2 : Int32) from rfl), X7_packed_n (by omega) hsg]
      dsimp only [Option.bind_some]
      rw [f2, h5, X7_packed_n (by omega) hy]; rfl
    | 3, _, _ =>
      show (X7_packed σ (lN A) (nI y)).bind _ = _
      rw [X7_packed_n (by omega) hy]; rfl
    | 4, _, _ =>
      show (X7_packed σ (lN A) (nI y)).bind _ = _
      rw [X7_packed_n (by omega) hy]; rfl
    | 5, _, _ =>
      rw [if_neg (show ¬ nI 5 = (1 : Int32) by decide), if_neg (show ¬ nI 5 = (2 : Int32) by decide), if_neg (show ¬ nI 5 = (3 : Int32) by decide), if_neg (show ¬ nI 5 = (4 : Int32) by decide), if_pos (show nI 5 = (5 : Int32) from rfl), X7_packed_n (by omega) hy]
      dsimp only [Option.bind_some]
      rw [f1, hs, X7_packed_n (by omega) hsg]; rfl
    | n + 6, h, _ => omega
/-- the law by which a sign is set -/
def chI (o : Option Nat) : Int32 := match o with
  | none => -9
  | some k => nI k
theorem X2_chosen_L {σ : Mem} {p n m sg nx : Nat} {T : Nat → Nat → Int32} {kk : Mem → Option (Mem × Int32)} (hP : PL σ p n T) (hT : TV T n) (hm : m < 2147483648) (hn : nx < 7) : ∀ (c i f : Nat), c < f → i + c = n → X2_chosen_L3 p (nI sg) (nI nx) (nI m) kk f σ (nI i) = match chsF T m sg nx c i with | none => kk σ | some k => some (σ, nI k) := by
  intro c
  induction c with
  | zero =>
    intro i f hf he
    obtain ⟨g, rfl⟩ : ∃ g, f = g + 1 := ⟨f - 1, by omega⟩
    rw [X2_chosen_L3, hP.1, if_pos (by have := hP.2.1; rw [nle (by omega) (by omega)]; omega)]
    rfl
  | succ c ih =>
    intro i f hf he
    obtain ⟨g, rfl⟩ : ∃ g, f = g + 1 := ⟨f - 1, by omega⟩
    have h8 := hP.2.1
    obtain ⟨x, x1, x2, x3⟩ := hP.2.2 i (by omega)
    rw [X2_chosen_L3, hP.1, if_neg (by rw [nle (by omega) (by omega)]; omega), chsF]
    by_cases e : m.testBit i = true
    · rw [if_pos ((bit7_1 hm (by omega)).mpr e), ck_n (by omega) (by decide), ncl (by omega), x1, spl_some x2, X1_holds_n x2 x3 hT (by omega) hn]
      dsimp only [Option.bind_some]
      by_cases e2 : hold T i sg nx = true
      · rw [if_pos e2, if_neg one_ne0, if_pos (by rw [e, e2]; rfl)]
      · rw [if_neg e2, if_pos rfl, if_neg (by rw [e]; simpa using e2), nadd_r]
        exact ih (i + 1) g (by omega) (by omega)
    · rw [if_neg (fun q => e ((bit7_1 hm (by omega)).mp q)), if_neg (by simp at e; simp [e]), nadd_r]
      exact ih (i + 1) g (by omega) (by omega)
theorem X2_chosen_n {σ : Mem} {p n m sg nx : Nat} {T : Nat → Nat → Int32} (hp : p < 4) (hP : PL σ p n T) (hT : TV T n) (hm : m < 2147483648) (hn : nx < 7) : X2_chosen σ p (nI sg) (nI nx) (nI m) = some (σ, chI (chs T n m sg nx)) := by
  unfold X2_chosen
  have h8 := hP.2.1
  rw [if_pos hp]
  have := X2_chosen_L (sg := sg) (kk := fun s => some (s, -9)) hP hT hm hn n 0 FU (fu_gt (by omega)) (by omega)
  rw [show (0 : Int32) = nI 0 from rfl, this]
  unfold chs
  cases chsF T m sg nx n 0 <;> rfl
theorem X2_numbered_neg {σ : Mem} {p : Nat} {i : Int32} (hp : p < 4) (h : i < 0) : X2_numbered σ p i = some (σ, none) := by
  unfold X2_numbered
  rw [if_pos hp, if_pos h]
theorem X2_numbered_n {σ : Mem} {p n k x : Nat} {T : Nat → Nat → Int32} (hp : p < 4) (hP : PL σ p n T) (hk : k < n) (hx : σ.2.2 200 p k = some x) (hx2 : x < 41) : X2_numbered σ p (nI k) = some (σ, some x) := by
  have h8 := hP.2.1
  unfold X2_numbered
  rw [if_pos hp, if_neg (nnlt0 (by omega)), hP.1, if_neg (by rw [nle (by omega) (by omega)]; omega), if_neg (by rw [nle_l (by omega) (by decide)]; omega), ck_n (by omega) (by decide), ncl (by omega), hx, spl_some hx2]
theorem X2_numbered_big {σ : Mem} {p n k : Nat} {T : Nat → Nat → Int32} (hp : p < 4) (hP : PL σ p n T) (hk : n ≤ k) (hk2 : k < 2147483648) : X2_numbered σ p (nI k) = some (σ, none) := by
  have h8 := hP.2.1
  unfold X2_numbered
  rw [if_pos hp, if_neg (nnlt0 (by omega)), hP.1, if_pos (by rw [nle (by omega) (by omega)]; omega)]
theorem fld_lt {l : List Nat} {A k : Nat} (h : ∀ v ∈ l, v < 6) (hA : A < 8 ^ k) : fld l A < 8 ^ (k + l.length) := pk_fold_lt l A k h hA
theorem X2_outOfSign_n {σ : Mem} {p n m sg nx A : Nat} {T : Nat → Nat → Int32} (hp : p < 4) (hP : PL σ p n T) (hT : TV T n) (hm : m < 2147483648) (hs : sg < 6) (hn : nx < 7) (hA : A < 2 ^ 54) : X2_outOfSign σ p (nI sg) (nI nx) (nI m) (lN A) = some (σ, lN (fld (pcS T n m sg nx) A)) := by
  unfold X2_outOfSign
  rw [if_pos hp, X2_chosen_n hp hP hT hm hn]
  dsimp only [Option.bind_some]
  unfold pcS
  cases hc : chs T n m sg nx with
  | none =>
    rw [show chI none = -9 from rfl, X2_numbered_neg hp (by decide)]
    dsimp only [Option.bind_some]
    rw [spl_none, X7_packed_n (by omega) hs]
    rfl
  | some k =>
    have hk := chs_lt hc
    obtain ⟨x, x1, x2, x3⟩ := hP.2.2 k hk
    rw [show chI (some k) = nI k from rfl, X2_numbered_n hp hP hk x1 x2]
    dsimp only [Option.bind_some]
    have hh : T k 1 = nI sg := by
      have : ∀ c i, chsF T m sg nx c i = some k → hold T k sg nx = true := by
        intro c
        induction c with
        | zero => intro i h; cases h
        | succ c ih =>
          intro i h
          rw [chsF] at h
          by_cases q : (m.testBit i && hold T i sg nx) = true
          · rw [if_pos q] at h; cases h
            simp only [Bool.and_eq_true] at q
            exact q.2
          · rw [if_neg q] at h; exact ih (i + 1) h
      have h1 := this n 0 hc
      unfold hold at h1
      simp only [Bool.and_eq_true, decide_eq_true_eq] at h1
      exact h1.1
    rw [spl_some x2, X1_after_n x2 x3 hT hk hh hs hA]
    rfl
