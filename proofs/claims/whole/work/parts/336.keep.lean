/-! a law takes another's fields -/
theorem X1_take_n {σ : Mem} {a b : Nat} (ha : a < 41) (hb : b < 41) (h : σ.1 104 b 0 = 0 ∨ σ.1 104 b 0 = 1) : ∃ τ, X1_take σ a b = some (τ, ()) ∧ Fr (fun c k => 100 ≤ c ∧ c ≤ 104 ∧ k = a) σ τ ∧ ∀ f, f < 5 → τ.1 (100 + f) a 0 = σ.1 (100 + f) b 0 := by
  refine ⟨uI (uI (uI (uI (uI σ 100 a 0 (σ.1 100 b 0)) 101 a 0 (σ.1 101 b 0)) 102 a 0 (σ.1 102 b 0)) 103 a 0 (σ.1 103 b 0)) 104 a 0 (σ.1 104 b 0), ?_, ((((Fr.uI (by omega)).tr (Fr.uI (by omega))).tr (Fr.uI (by omega))).tr (Fr.uI (by omega))).tr (Fr.uI (by omega)), fun f hf => ?_⟩
  · have e : (uI (uI (uI (uI σ 100 a 0 (σ.1 100 b 0)) 101 a 0 (σ.1 101 b 0)) 102 a 0 (σ.1 102 b 0)) 103 a 0 (σ.1 103 b 0)).1 104 b 0 = σ.1 104 b 0 := by simp [uI_1]
    unfold X1_take X1_become
    rw [if_pos ha, if_pos hb, if_pos ha, Option.bind_some]
    dsimp only
    rw [e, if_pos h]
  · match f, hf with
    | 0, _ => simp [uI_1]
    | 1, _ => simp [uI_1]
    | 2, _ => simp [uI_1]
    | 3, _ => simp [uI_1]
    | 4, _ => simp [uI_1]
    | f + 5, h => omega
def Refs (σ : Mem) (p : Nat) : Prop := (∀ k, k < 8 → ∃ x, σ.2.2 200 p k = some x ∧ 8 * p ≤ x ∧ x < 8 * p + 8) ∧ ∀ k l, k < 8 → l < 8 → σ.2.2 200 p k = σ.2.2 200 p l → k = l
def Plw (p c k : Nat) : Prop := 100 ≤ c ∧ c ≤ 104 ∧ 8 * p ≤ k ∧ k < 8 * p + 8
theorem inj_onto : ∀ (n : Nat) (f : Nat → Nat), (∀ k, k < n → f k < n) → (∀ k l, k < n → l < n → f k = f l → k = l) → ∀ x, x < n → ∃ k, k < n ∧ f k = x := by
  intro n
  induction n with
  | zero => intro f _ _ x hx; omega
  | succ n ih =>
    intro f hf hi x hx
    by_cases hl : f n = x
    · exact ⟨n, by omega, hl⟩
    · have := ih (fun k => if f k = n then f n else f k) (fun k hk => by
        split
        · rename_i e
          have h1 := hf n (by omega)
          have h2 : f n ≠ n := fun w => by have := hi k n (by omega) (by omega) (by rw [e, w]); omega
          omega
        · have := hf k (by omega); omega) (fun k l hk hl' e => by
        split at e <;> split at e
        · exact hi k l (by omega) (by omega) (by omega)
        · have := hi n l (by omega) (by omega) e; omega
        · have := hi k n (by omega) (by omega) e; omega
        · exact hi k l (by omega) (by omega) e)
      by_cases hx2 : x < n
      · obtain ⟨k, k1, k2⟩ := this x hx2
        split at k2
        · exact absurd k2 hl
        · exact ⟨k, by omega, k2⟩
      · have ex : x = n := by omega
        subst ex
        have hfn := hf x (by omega)
        obtain ⟨k, k1, k2⟩ := this (f x) (by omega)
        split at k2
        · rename_i e; exact ⟨k, by omega, e⟩
        · have := hi k x (by omega) (by omega) k2; omega
theorem perm8 (f : Nat → Nat) (hf : ∀ k, k < 8 → f k < 8) (hi : ∀ k l, k < 8 → l < 8 → f k = f l → k = l) : ∀ x, x < 8 → ∃ k, k < 8 ∧ f k = x := inj_onto 8 f hf hi
/-- every law of a press has a number -/
theorem refs_onto {σ : Mem} {p x : Nat} (h : Refs σ p) (h1 : 8 * p ≤ x) (h2 : x < 8 * p + 8) : ∃ k, k < 8 ∧ σ.2.2 200 p k = some x := by
  have g : ∀ k, k < 8 → (σ.2.2 200 p k).getD 0 < 8 * p + 8 ∧ 8 * p ≤ (σ.2.2 200 p k).getD 0 ∧ σ.2.2 200 p k = some ((σ.2.2 200 p k).getD 0) := by
    intro k hk
    obtain ⟨y, y1, y2, y3⟩ := h.1 k hk
    rw [y1]
    exact ⟨y3, y2, rfl⟩
  have inj : ∀ k l, k < 8 → l < 8 → (σ.2.2 200 p k).getD 0 = (σ.2.2 200 p l).getD 0 → k = l := by
    intro k l hk hl e
    refine h.2 k l hk hl ?_
    rw [(g k hk).2.2, (g l hl).2.2, e]
  have key : ∃ k, k < 8 ∧ (σ.2.2 200 p k).getD 0 = x := by
    have pig := perm8 (fun k => (σ.2.2 200 p k).getD 0 - 8 * p) (fun k hk => by have := g k hk; omega) (fun k l hk hl e => inj k l hk hl (by have := g k hk; have := g l hl; omega)) (x - 8 * p) (by omega)
    obtain ⟨k, k1, k2⟩ := pig
    exact ⟨k, k1, by have := g k k1; omega⟩
  obtain ⟨k, k1, k2⟩ := key
  exact ⟨k, k1, by rw [(g k k1).2.2, k2]⟩
theorem Refs.fr {P : Nat → Nat → Prop} {σ τ : Mem} {p : Nat} (h : Refs σ p) (f : Fr P σ τ) (n : ¬ P 200 p) : Refs τ p := ⟨fun k hk => by rw [f.r n]; exact h.1 k hk, fun k l hk hl e => by rw [f.r n, f.r n] at e; exact h.2 k l hk hl e⟩
theorem X2_take_L {p q : Nat} {kk : Mem → Option (Mem × Unit)} (hp : p < 4) (hq : q < 4) (hpq : p ≠ q) : ∀ (c i f : Nat) (σ : Mem), c < f → i + c = 8 → Refs σ p → Refs σ q → (∀ x, 8 * q ≤ x → x < 8 * q + 8 → σ.1 104 x 0 = 0 ∨ σ.1 104 x 0 = 1) → ∃ τ, X2_take_L2 p q kk f σ (nI i) = kk τ ∧ Fr (Plw p) σ τ ∧ (∀ k x y, i ≤ k → k < 8 → σ.2.2 200 p k = some x → σ.2.2 200 q k = some y → ∀ f, f < 5 → τ.1 (100 + f) x 0 = σ.1 (100 + f) y 0) ∧ ∀ k x, k < i → σ.2.2 200 p k = some x → ∀ f, f < 5 → τ.1 (100 + f) x 0 = σ.1 (100 + f) x 0 := by
  intro c
  induction c with
  | zero =>
    intro i f σ hf he hP hQ hH
    obtain ⟨g, rfl⟩ : ∃ g, f = g + 1 := ⟨f - 1, by omega⟩
    refine ⟨σ, ?_, Fr.rf, fun k x y h1 h2 => by omega, fun k x _ _ f _ => rfl⟩
    rw [X2_take_L2, if_pos (by rw [nle_l (by omega) (by decide)]; omega)]
  | succ c ih =>
    intro i f σ hf he hP hQ hH
    obtain ⟨g, rfl⟩ : ∃ g, f = g + 1 := ⟨f - 1, by omega⟩
    obtain ⟨x, x1, x2, x3⟩ := hP.1 i (by omega)
    obtain ⟨y, y1, y2, y3⟩ := hQ.1 i (by omega)
    obtain ⟨σ1, u1, u2, u3⟩ := X1_take_n (σ := σ) (a := x) (b := y) (by omega) (by omega) (hH y y2 y3)
    have u2' : Fr (Plw p) σ σ1 := u2.mono fun c k w => ⟨w.1, w.2.1, by omega, by omega⟩
    have nr : ∀ r, ¬ Plw p 200 r := by intro r; unfold Plw; omega
    have nq : ∀ c z, 8 * q ≤ z → z < 8 * q + 8 → ¬ Plw p c z := by intro c z h1 h2; unfold Plw; omega
    obtain ⟨τ, t1, t2, t3, t4⟩ := ih (i + 1) g σ1 (by omega) (by omega) (hP.fr u2' (nr p)) (hQ.fr u2' (nr q)) (fun z z1 z2 => by rw [u2'.i (nq 104 z z1 z2)]; exact hH z z1 z2)
    refine ⟨τ, ?_, u2'.tr t2, fun k a b h1 h2 ha hb f hf => ?_, fun k a h1 ha f hf => ?_⟩
    · rw [X2_take_L2, if_neg (by rw [nle_l (by omega) (by decide)]; omega), ck_n (by omega) (by decide), ncl (by omega), x1, spl_some (by omega), ck_n (by omega) (by decide), y1, spl_some (by omega), u1, Option.bind_some, nadd_r]
      exact t1
    · by_cases w : k = i
      · subst w
        rw [x1] at ha; cases ha
        rw [y1] at hb; cases hb
        rw [t4 k x (by omega) (by rw [u2'.r (nr p)]; exact x1) f hf]
        exact u3 f hf
      · obtain ⟨b', b1, b2, b3⟩ := hQ.1 k h2
        rw [hb] at b1; cases b1
        rw [t3 k a b (by omega) h2 (by rw [u2'.r (nr p)]; exact ha) (by rw [u2'.r (nr q)]; exact hb) f hf, u2'.i (nq (100 + f) b b2 b3)]
    · rw [t4 k a (by omega) (by rw [u2'.r (nr p)]; exact ha) f hf]
      have : a ≠ x := by
        rintro rfl
        have := hP.2 k i (by omega) (by omega) (by rw [ha, x1])
        omega
      rw [u2.i (by rintro ⟨-, -, w⟩; exact this w)]
def Pprs (p c k : Nat) : Prop := Plw p c k ∨ (201 ≤ c ∧ c ≤ 204 ∧ k = p)
/-- a press takes another's: what was told of that one holds of this one -/
theorem X2_take_n {σ : Mem} {p q n : Nat} {LM DM IM : Nat → Int32} {dm : Int32} (hp : p < 4) (hq : q < 4) (hpq : p ≠ q) (hn : n ≤ 8) (hP : Refs σ p) (hQ : Refs σ q) (hH : ∀ x, 8 * q ≤ x → x < 8 * q + 8 → σ.1 104 x 0 = 0 ∨ σ.1 104 x 0 = 1) (h : PR σ q n LM DM IM dm) : ∃ τ, X2_take σ p q = some (τ, ()) ∧ Fr (Pprs p) σ τ ∧ PR τ p n LM DM IM dm ∧ (∀ x, 8 * p ≤ x → x < 8 * p + 8 → τ.1 104 x 0 = 0 ∨ τ.1 104 x 0 = 1) := by
  obtain ⟨τ1, t1, t2, t3, -⟩ := X2_take_L (kk := fun (s7 : Mem) => (cpJ s7 201 q 40 (0 : Int32) 201 p 40 (0 : Int32) (40 : Int32) fun (s8 : Mem) => cpI s8 202 q 6 (0 : Int32) 202 p 6 (0 : Int32) (6 : Int32) fun (s9 : Mem) => some ((uI ((uI s9 203 p 0 ((s9.1 203 q 0)))) 204 p 0 ((((uI s9 203 p 0 ((s9.1 203 q 0)))).1 204 q 0))), ()))) hp hq hpq 8 0 FU σ (by decide) (by decide) hP hQ hH
  obtain ⟨τ2, e2⟩ : ∃ τ2, τ2 = aJ τ1 201 p (va_cpy (τ1.2.1 201 q) (τ1.2.1 201 p) 0 0 40) := ⟨_, rfl⟩
  obtain ⟨τ3, e3⟩ : ∃ τ3, τ3 = aI τ2 202 p (va_cpy (τ2.1 202 q) (τ2.1 202 p) 0 0 6) := ⟨_, rfl⟩
  obtain ⟨τ4, e4⟩ : ∃ τ4, τ4 = uI (uI τ3 203 p 0 (τ3.1 203 q 0)) 204 p 0 ((uI τ3 203 p 0 (τ3.1 203 q 0)).1 204 q 0) := ⟨_, rfl⟩
  have f2 : Fr (Pprs p) τ1 τ2 := by rw [e2]; exact Fr.aJ (Or.inr ⟨by decide, by decide, rfl⟩)
  have f3 : Fr (Pprs p) τ2 τ3 := by rw [e3]; exact Fr.aI (Or.inr ⟨by decide, by decide, rfl⟩)
  have f4 : Fr (Pprs p) τ3 τ4 := by rw [e4]; exact (Fr.uI (Or.inr ⟨by decide, by decide, rfl⟩)).tr (Fr.uI (Or.inr ⟨by decide, by decide, rfl⟩))
  have f14 : Fr (Pprs p) τ1 τ4 := (f2.tr f3).tr f4
  have f04 : Fr (Pprs p) σ τ4 := (t2.mono fun _ _ => Or.inl).tr f14
  have nq : ∀ c, 200 ≤ c → ¬ Pprs p c q := by intro c h1; unfold Pprs Plw; omega
  have nr : ∀ k, ¬ Pprs p 200 k := by intro k; unfold Pprs Plw; omega
  have low : ∀ f x, f < 5 → τ4.1 (100 + f) x 0 = τ1.1 (100 + f) x 0 := by
    intro f x hf
    have n1 : ¬ 100 + f = 204 := by omega
    have n2 : ¬ 100 + f = 203 := by omega
    have n3 : ¬ 100 + f = 202 := by omega
    rw [e4, e3, e2]
    simp [uI_1, aI_1, aJ_1, n1, n2, n3]
  have qj : ∀ j, τ1.2.1 201 q j = σ.2.1 201 q j := fun j => t2.j (by unfold Plw; omega) j
  have q2 : ∀ j, τ2.1 202 q j = σ.1 202 q j := fun j => by
    rw [f2.i (nq 202 (by omega)), t2.i (by unfold Plw; omega)]
  have hqp : ¬ q = p := fun w => hpq w.symm
  refine ⟨τ4, ?_, f04, ?_, fun x x1 x2 => ?_⟩
  · unfold X2_take
    rw [if_pos hp, if_pos hq]
    rw [nI_0] at t1
    refine t1.trans ?_
    have z0 : (0 : Int32).toNatClampNeg = 0 := rfl
    have z40 : (40 : Int32).toNatClampNeg = 40 := rfl
    have z6 : (6 : Int32).toNatClampNeg = 6 := rfl
    rw [cpJ, z0, z40, if_pos ⟨by decide, by decide, by decide, by decide, by decide⟩, ← e2, cpI, z0, z6, if_pos ⟨by decide, by decide, by decide, by decide, by decide⟩, ← e3, ← e4]
  · obtain ⟨h1, ⟨d, d1, d2, d3, d4⟩, h3, h4, h5⟩ := h
    have x3 : τ3.1 203 q 0 = nI n := by
      rw [f3.i (nq 203 (by omega)), f2.i (nq 203 (by omega)), t2.i (by unfold Plw; omega)]; exact h1
    have x4 : τ3.1 204 q 0 = nI d := by
      rw [f3.i (nq 204 (by omega)), f2.i (nq 204 (by omega)), t2.i (by unfold Plw; omega)]; exact d2
    refine ⟨?_, ⟨d, d1, ?_, d3, fun e he => ?_⟩, fun s hs => ?_, fun k hk => ?_, h5⟩
    · rw [e4]; simp [uI_1, x3]
    · rw [e4]; simp [uI_1, x4]
    · have : τ4.2.1 201 p e = σ.2.1 201 q e := by
        rw [e4, e3]
        show τ2.2.1 201 p e = _
        rw [e2, aJ_2, if_pos ⟨rfl, rfl⟩, pk_cpy_in (by omega) (by omega), ← qj, show 0 + (e - 0) = e by omega]
      rw [this]
      exact d4 e he
    · have : τ4.1 202 p s = σ.1 202 q s := by
        have w : τ4.1 202 p s = τ3.1 202 p s := by rw [e4]; simp [uI_1]
        rw [w, e3, aI_1, if_pos ⟨rfl, rfl⟩, pk_cpy_in (by omega) (by omega), ← q2, show 0 + (s - 0) = s by omega]
      rw [this]
      exact h3 s hs
    · obtain ⟨x, x1, x2, x3'⟩ := hP.1 k (by omega)
      obtain ⟨y, y1, y2, y3, y4⟩ := h4 k hk
      refine ⟨x, by rw [f04.r (nr p)]; exact x1, x2, x3', fun f hf => ?_⟩
      rw [low f x hf, t3 k x y (by omega) (by omega) x1 y1 f hf]
      exact y4 f hf
  · obtain ⟨k, k1, k2⟩ : ∃ k, k < 8 ∧ σ.2.2 200 p k = some x := by
      exact refs_onto hP x1 x2
    obtain ⟨y, y1, y2, y3⟩ := hQ.1 k k1
    rw [low 4 x (by decide), t3 k x y (by omega) k1 k2 y1 4 (by decide)]
    exact hH y y2 y3
theorem X8_keep39_L {B : Nat} {kk : Mem → Option (Mem × Int32)} (hB : B ≤ 1454) : ∀ (c i f : Nat) (σ : Mem), c < f → i + c = 40 → ∃ τ, X8_keep_L39 (nI B) kk f σ (nI i) = kk τ ∧ Fr (fun c _ => c = 829) σ τ ∧ ∀ y, τ.1 829 0 y = if B + 1 + i ≤ y ∧ y < B + 1 + 40 then σ.1 811 0 (y - (B + 1)) else σ.1 829 0 y := by
  intro c
  induction c with
  | zero =>
    intro i f σ hf he
    obtain ⟨g, rfl⟩ : ∃ g, f = g + 1 := ⟨f - 1, by omega⟩
    refine ⟨σ, ?_, Fr.rf, fun y => by rw [if_neg (by omega)]⟩
    rw [X8_keep_L39, if_pos (by rw [nle_l (by omega) (by decide)]; omega)]
  | succ c ih =>
    intro i f σ hf he
    obtain ⟨g, rfl⟩ : ∃ g, f = g + 1 := ⟨f - 1, by omega⟩
    have fr : Fr (fun c _ => c = 829) σ (uI σ 829 0 (B + 1 + i) (σ.1 811 0 i)) := Fr.uI rfl
    obtain ⟨τ, t1, t2, t3⟩ := ih (i + 1) g (uI σ 829 0 (B + 1 + i) (σ.1 811 0 i)) (by omega) (by omega)
    refine ⟨τ, ?_, fr.tr t2, fun y => ?_⟩
    · have ix : nI B + 1 + nI i = nI (B + 1 + i) := by rw [nadd_r, nadd]
      rw [X8_keep_L39, if_neg (by rw [nle_l (by omega) (by decide)]; omega), ck_n (by omega) (by decide), ix, ck_n (by omega) (by decide), ncl (by omega), ncl (by omega), nadd_r]
      exact t1
    · rw [t3 y]
      by_cases q : y = B + 1 + i
      · subst q
        rw [if_neg (by omega), if_pos (by omega), show B + 1 + i - (B + 1) = i by omega]
        simp [uI_1]
      · by_cases q2 : B + 1 + (i + 1) ≤ y ∧ y < B + 1 + 40
        · rw [if_pos q2, if_pos (by omega)]
          simp [uI_1]
        · rw [if_neg q2, if_neg (by omega)]
          simp [uI_1, q]
theorem X8_keep69_L {B : Nat} {kk : Mem → Option (Mem × Int32)} (hB : B ≤ 1454) : ∀ (c i f : Nat) (σ : Mem), c < f → i + c = 6 → ∃ τ, X8_keep_L69 (nI B) kk f σ (nI i) = kk τ ∧ Fr (fun c _ => c = 829) σ τ ∧ ∀ y, τ.1 829 0 y = if B + 41 + i ≤ y ∧ y < B + 41 + 6 then σ.1 827 0 (y - (B + 41)) else σ.1 829 0 y := by
  intro c
  induction c with
  | zero =>
    intro i f σ hf he
    obtain ⟨g, rfl⟩ : ∃ g, f = g + 1 := ⟨f - 1, by omega⟩
    refine ⟨σ, ?_, Fr.rf, fun y => by rw [if_neg (by omega)]⟩
    rw [X8_keep_L69, if_pos (by rw [nle_l (by omega) (by decide)]; omega)]
  | succ c ih =>
    intro i f σ hf he
    obtain ⟨g, rfl⟩ : ∃ g, f = g + 1 := ⟨f - 1, by omega⟩
    have fr : Fr (fun c _ => c = 829) σ (uI σ 829 0 (B + 41 + i) (σ.1 827 0 i)) := Fr.uI rfl
    obtain ⟨τ, t1, t2, t3⟩ := ih (i + 1) g (uI σ 829 0 (B + 41 + i) (σ.1 827 0 i)) (by omega) (by omega)
    refine ⟨τ, ?_, fr.tr t2, fun y => ?_⟩
    · have ix : nI B + 41 + nI i = nI (B + 41 + i) := by rw [nadd_r, nadd]
      rw [X8_keep_L69, if_neg (by rw [nle_l (by omega) (by decide)]; omega), ck_n (by omega) (by decide), ix, ck_n (by omega) (by decide), ncl (by omega), ncl (by omega), nadd_r]
      exact t1
    · rw [t3 y]
      by_cases q : y = B + 41 + i
      · subst q
        rw [if_neg (by omega), if_pos (by omega), show B + 41 + i - (B + 41) = i by omega]
        simp [uI_1]
      · by_cases q2 : B + 41 + (i + 1) ≤ y ∧ y < B + 41 + 6
        · rw [if_pos q2, if_pos (by omega)]
          simp [uI_1]
        · rw [if_neg q2, if_neg (by omega)]
          simp [uI_1, q]
theorem X8_keep100_L {B : Nat} {kk : Mem → Option (Mem × Int32)} (hB : B ≤ 1454) : ∀ (c i f : Nat) (σ : Mem), c < f → i + c = 680 → ∃ τ, X8_keep_L100 (nI B) kk f σ (nI i) = kk τ ∧ Fr (fun c _ => c = 829) σ τ ∧ ∀ y, τ.1 829 0 y = if B + 47 + i ≤ y ∧ y < B + 47 + 680 then σ.1 828 0 (y - (B + 47)) else σ.1 829 0 y := by
  intro c
  induction c with
  | zero =>
    intro i f σ hf he
    obtain ⟨g, rfl⟩ : ∃ g, f = g + 1 := ⟨f - 1, by omega⟩
    refine ⟨σ, ?_, Fr.rf, fun y => by rw [if_neg (by omega)]⟩
    rw [X8_keep_L100, if_pos (by rw [nle_l (by omega) (by decide)]; omega)]
  | succ c ih =>
    intro i f σ hf he
    obtain ⟨g, rfl⟩ : ∃ g, f = g + 1 := ⟨f - 1, by omega⟩
    have fr : Fr (fun c _ => c = 829) σ (uI σ 829 0 (B + 47 + i) (σ.1 828 0 i)) := Fr.uI rfl
    obtain ⟨τ, t1, t2, t3⟩ := ih (i + 1) g (uI σ 829 0 (B + 47 + i) (σ.1 828 0 i)) (by omega) (by omega)
    refine ⟨τ, ?_, fr.tr t2, fun y => ?_⟩
    · have ix : nI B + 47 + nI i = nI (B + 47 + i) := by rw [nadd_r, nadd]
      rw [X8_keep_L100, if_neg (by rw [nle_l (by omega) (by decide)]; omega), ck_n (by omega) (by decide), ix, ck_n (by omega) (by decide), ncl (by omega), ncl (by omega), nadd_r]
      exact t1
    · rw [t3 y]
      by_cases q : y = B + 47 + i
      · subst q
        rw [if_neg (by omega), if_pos (by omega), show B + 47 + i - (B + 47) = i by omega]
        simp [uI_1]
      · by_cases q2 : B + 47 + (i + 1) ≤ y ∧ y < B + 47 + 680
        · rw [if_pos q2, if_pos (by omega)]
          simp [uI_1]
        · rw [if_neg q2, if_neg (by omega)]
          simp [uI_1, q]
theorem X8_on46_L {B : Nat} {kk : Mem → Option (Mem × Int32)} (hB : B ≤ 1454) : ∀ (c i f : Nat) (σ : Mem), c < f → i + c = 40 → ∃ τ, X8_on_L46 (nI B) kk f σ (nI i) = kk τ ∧ Fr (fun c _ => c = 811) σ τ ∧ ∀ y, τ.1 811 0 y = if i ≤ y ∧ y < 40 then σ.1 829 0 (B + 1 + y) else σ.1 811 0 y := by
  intro c
  induction c with
  | zero =>
    intro i f σ hf he
    obtain ⟨g, rfl⟩ : ∃ g, f = g + 1 := ⟨f - 1, by omega⟩
    refine ⟨σ, ?_, Fr.rf, fun y => by rw [if_neg (by omega)]⟩
    rw [X8_on_L46, if_pos (by rw [nle_l (by omega) (by decide)]; omega)]
  | succ c ih =>
    intro i f σ hf he
    obtain ⟨g, rfl⟩ : ∃ g, f = g + 1 := ⟨f - 1, by omega⟩
    have fr : Fr (fun c _ => c = 811) σ (uI σ 811 0 i (σ.1 829 0 (B + 1 + i))) := Fr.uI rfl
    obtain ⟨τ, t1, t2, t3⟩ := ih (i + 1) g (uI σ 811 0 i (σ.1 829 0 (B + 1 + i))) (by omega) (by omega)
    refine ⟨τ, ?_, fr.tr t2, fun y => ?_⟩
    · have ix : nI B + 1 + nI i = nI (B + 1 + i) := by rw [nadd_r, nadd]
      rw [X8_on_L46, if_neg (by rw [nle_l (by omega) (by decide)]; omega), ix, ck_n (by omega) (by decide), ck_n (by omega) (by decide), ncl (by omega), ncl (by omega), nadd_r]
      exact t1
    · rw [t3 y]
      by_cases q : y = i
      · subst q
        rw [if_neg (by omega), if_pos (by omega)]
        simp [uI_1]
      · by_cases q2 : i + 1 ≤ y ∧ y < 40
        · rw [if_pos q2, if_pos (by omega)]
          simp [uI_1]
        · rw [if_neg q2, if_neg (by omega)]
          simp [uI_1, q]
theorem X8_on76_L {B : Nat} {kk : Mem → Option (Mem × Int32)} (hB : B ≤ 1454) : ∀ (c i f : Nat) (σ : Mem), c < f → i + c = 6 → ∃ τ, X8_on_L76 (nI B) kk f σ (nI i) = kk τ ∧ Fr (fun c _ => c = 827) σ τ ∧ ∀ y, τ.1 827 0 y = if i ≤ y ∧ y < 6 then σ.1 829 0 (B + 41 + y) else σ.1 827 0 y := by
  intro c
  induction c with
  | zero =>
    intro i f σ hf he
    obtain ⟨g, rfl⟩ : ∃ g, f = g + 1 := ⟨f - 1, by omega⟩
    refine ⟨σ, ?_, Fr.rf, fun y => by rw [if_neg (by omega)]⟩
    rw [X8_on_L76, if_pos (by rw [nle_l (by omega) (by decide)]; omega)]
  | succ c ih =>
    intro i f σ hf he
    obtain ⟨g, rfl⟩ : ∃ g, f = g + 1 := ⟨f - 1, by omega⟩
    have fr : Fr (fun c _ => c = 827) σ (uI σ 827 0 i (σ.1 829 0 (B + 41 + i))) := Fr.uI rfl
    obtain ⟨τ, t1, t2, t3⟩ := ih (i + 1) g (uI σ 827 0 i (σ.1 829 0 (B + 41 + i))) (by omega) (by omega)
    refine ⟨τ, ?_, fr.tr t2, fun y => ?_⟩
    · have ix : nI B + 41 + nI i = nI (B + 41 + i) := by rw [nadd_r, nadd]
      rw [X8_on_L76, if_neg (by rw [nle_l (by omega) (by decide)]; omega), ix, ck_n (by omega) (by decide), ck_n (by omega) (by decide), ncl (by omega), ncl (by omega), nadd_r]
      exact t1
    · rw [t3 y]
      by_cases q : y = i
      · subst q
        rw [if_neg (by omega), if_pos (by omega)]
        simp [uI_1]
      · by_cases q2 : i + 1 ≤ y ∧ y < 6
        · rw [if_pos q2, if_pos (by omega)]
          simp [uI_1]
        · rw [if_neg q2, if_neg (by omega)]
          simp [uI_1, q]
theorem X8_on107_L {B : Nat} {kk : Mem → Option (Mem × Int32)} (hB : B ≤ 1454) : ∀ (c i f : Nat) (σ : Mem), c < f → i + c = 680 → ∃ τ, X8_on_L107 (nI B) kk f σ (nI i) = kk τ ∧ Fr (fun c _ => c = 828) σ τ ∧ ∀ y, τ.1 828 0 y = if i ≤ y ∧ y < 680 then σ.1 829 0 (B + 47 + y) else σ.1 828 0 y := by
  intro c
  induction c with
  | zero =>
    intro i f σ hf he
    obtain ⟨g, rfl⟩ : ∃ g, f = g + 1 := ⟨f - 1, by omega⟩
    refine ⟨σ, ?_, Fr.rf, fun y => by rw [if_neg (by omega)]⟩
    rw [X8_on_L107, if_pos (by rw [nle_l (by omega) (by decide)]; omega)]
  | succ c ih =>
    intro i f σ hf he
    obtain ⟨g, rfl⟩ : ∃ g, f = g + 1 := ⟨f - 1, by omega⟩
    have fr : Fr (fun c _ => c = 828) σ (uI σ 828 0 i (σ.1 829 0 (B + 47 + i))) := Fr.uI rfl
    obtain ⟨τ, t1, t2, t3⟩ := ih (i + 1) g (uI σ 828 0 i (σ.1 829 0 (B + 47 + i))) (by omega) (by omega)
    refine ⟨τ, ?_, fr.tr t2, fun y => ?_⟩
    · have ix : nI B + 47 + nI i = nI (B + 47 + i) := by rw [nadd_r, nadd]
      rw [X8_on_L107, if_neg (by rw [nle_l (by omega) (by decide)]; omega), ix, ck_n (by omega) (by decide), ck_n (by omega) (by decide), ncl (by omega), ncl (by omega), nadd_r]
      exact t1
    · rw [t3 y]
      by_cases q : y = i
      · subst q
        rw [if_neg (by omega), if_pos (by omega)]
        simp [uI_1]
      · by_cases q2 : i + 1 ≤ y ∧ y < 680
        · rw [if_pos q2, if_pos (by omega)]
          simp [uI_1]
        · rw [if_neg q2, if_neg (by omega)]
          simp [uI_1, q]
theorem PR.cg {σ : Mem} {p n : Nat} {L D I L' D' I' : Nat → Int32} {dm dm' : Int32} (hn : n ≤ 8) (h : PR σ p n L D I dm) (hL : ∀ i, i < 40 → L' i = L i) (hD : ∀ i, i < 680 → D' i = D i) (hI : ∀ i, i < 6 → I' i = I i) (hd : dm' = dm) : PR σ p n L' D' I' dm' := by
  subst hd
  obtain ⟨h1, ⟨d, d1, d2, d3, d4⟩, h3, h4, h5⟩ := h
  refine ⟨h1, ⟨d, d1, d2, d3, fun e he => (d4 e he).cg (fun j hj => hD _ (by omega))⟩, fun s hs => by rw [h3 s hs, hI s hs], fun k hk => ?_, fun k hk => (h5 k hk).cg (fun f hf => hL _ (by omega))⟩
  obtain ⟨x, x1, x2, x3, x4⟩ := h4 k hk
  exact ⟨x, x1, x2, x3, fun f hf => by rw [x4 f hf, hL _ (by omega)]⟩
theorem Rel.refs {σ : Mem} (h : Rel σ) {p : Nat} (hp : p < 4) : Refs σ p := h.2.2.2.1 p hp
theorem op_keep {σ : Mem} (h : Rel σ) (a : Int32) : Both (fun σ => X7_keep σ a) (fun σ => X8_keep σ a) σ := by
  obtain ⟨n, hn, h1, h2, hP, hM, hT⟩ := h.press
  rcases to_n a 2 (by decide) with hb | ⟨k, hk, rfl, hb1, hb2⟩
  · refine Both.mk' (σ1 := σ) (σ2 := σ) (r := -1) ?_ ?_ h
    · show X7_keep _ _ = _
      unfold X7_keep
      rcases hb with hb | hb
      · rw [if_pos hb]
      · by_cases q : a < 0
        · rw [if_pos q]
        · rw [if_neg q, if_neg (fun w => hb (by
            rw [Int32.lt_iff_toInt_lt] at w
            rw [Int32.le_iff_toInt_le]
            have : (3 : Int32).toInt = 3 := rfl
            have : (nI 2).toInt = 2 := rfl
            omega))]
    · show X8_keep _ _ = _
      unfold X8_keep
      rw [in_bad (by rcases hb with hb | hb; exact Or.inl hb; exact Or.inr (i32_nle2.mp hb))]
      rfl
  have in1 : ∀ σ : Mem, X8_in σ (nI k) 0 2 = some (σ, 1) := fun σ => in_ok hb1 (by rw [i32_nlt]; exact hb2)
  by_cases n0 : n = 0
  · subst n0
    refine Both.mk' (σ1 := σ) (σ2 := σ) (r := -4) ?_ ?_ h
    · show X7_keep _ _ = _
      unfold X7_keep
      rw [if_neg hb1, if_pos (by rw [nlt_r (by omega) (by decide)]; show k < 3; omega), hP.1, if_pos (show nI 0 = 0 from rfl)]
    · show X8_keep _ _ = _
      unfold X8_keep
      rw [in1, Option.bind_some]
      show (if (1 : Int32) = 0 then _ else _) = _
      rw [if_neg one_ne0, h1, if_pos (show nI 0 = 0 from rfl)]
  have nz : ¬ nI n = (0 : Int32) := nI_ne0 (by omega) (by omega)
  obtain ⟨σ1, u1, u2, u3, u4⟩ := X2_take_n (p := 1 + k) (q := 0) (by omega) (by decide) (by omega) hn (h.refs (by omega)) (h.refs (by decide)) (fun x x1 x2 => h.2.2.2.2.1.1 x (by omega)) h2
  have q8 : ∀ c, 205 ≤ c → ¬ Pprs (1 + k) c 0 := by intro c hc; unfold Pprs Plw; omega
  have q0 : ∀ c, 200 ≤ c → ¬ Pprs (1 + k) c 0 := by intro c hc; unfold Pprs Plw; omega
  obtain ⟨d, d1, d2, d3, d4⟩ := h2.2.1
  have g6 : ∀ c j, 205 ≤ c → σ1.1 c 0 j = σ.1 c 0 j := fun c j hc => u2.i (q8 c hc) j
  have f0 : Fr (fun c _ => c = 829) σ1 (uI σ1 829 0 (727 * k) (nI d)) := Fr.uI rfl
  obtain ⟨τ1, v1, v2, v3⟩ := X8_keep39_L (B := 727 * k) (kk := fun (s5 : Mem) => (X8_keep_L69 (nI (727 * k)) (fun (s8 : Mem) => (X8_keep_L100 (nI (727 * k)) (fun (s11 : Mem) => (some (s11, (s11.1 826 0 0)))) FU s8 (nI 0))) FU s5 (nI 0))) (by omega) 40 0 FU (uI σ1 829 0 (727 * k) (nI d)) (by decide) (by decide)
  obtain ⟨τ2, w1, w2, w3⟩ := X8_keep69_L (B := 727 * k) (kk := fun (s8 : Mem) => (X8_keep_L100 (nI (727 * k)) (fun (s11 : Mem) => (some (s11, (s11.1 826 0 0)))) FU s8 (nI 0))) (by omega) 6 0 FU τ1 (by decide) (by decide)
  obtain ⟨τ3, z1, z2, z3⟩ := X8_keep100_L (B := 727 * k) (kk := fun (s11 : Mem) => (some (s11, (s11.1 826 0 0)))) (by omega) 680 0 FU τ2 (by decide) (by decide)
  have fE : Fr (fun c _ => c = 829) σ1 τ3 := ((f0.tr v2).tr w2).tr z2
  have fT : Fr (fun c k' => Pprs (1 + k) c k' ∨ c = 829) σ τ3 := (u2.mono fun _ _ => Or.inl).tr (fE.mono fun _ _ => Or.inr)
  have m1 : ∀ c j, 205 ≤ c → c ≠ 829 → τ1.1 c 0 j = σ.1 c 0 j := fun c j h3 h4 => by rw [v2.i h4, f0.i h4, g6 c j h3]
  have m2 : ∀ c j, 205 ≤ c → c ≠ 829 → τ2.1 c 0 j = σ.1 c 0 j := fun c j h3 h4 => by rw [w2.i h4, m1 c j h3 h4]
  have m0 : ∀ c j, 205 ≤ c → c ≠ 829 → (uI σ1 829 0 (727 * k) (nI d)).1 c 0 j = σ.1 c 0 j := fun c j h3 h4 => by rw [f0.i h4, g6 c j h3]
  have o0 : ∀ y, (uI σ1 829 0 (727 * k) (nI d)).1 829 0 y = if y = 727 * k then nI d else σ.1 829 0 y := fun y => by
    simp only [uI_1]
    rw [g6 829 y (by decide)]
    simp
  have blk : ∀ y, τ3.1 829 0 y = if 727 * k + 47 ≤ y ∧ y < 727 * k + 47 + 680 then σ.1 828 0 (y - (727 * k + 47)) else if 727 * k + 41 ≤ y ∧ y < 727 * k + 41 + 6 then σ.1 827 0 (y - (727 * k + 41)) else if 727 * k + 1 ≤ y ∧ y < 727 * k + 1 + 40 then σ.1 811 0 (y - (727 * k + 1)) else if y = 727 * k then nI d else σ.1 829 0 y := fun y => by
    rw [z3, w3, v3, o0, m2 828 _ (by decide) (by decide), m1 827 _ (by decide) (by decide), m0 811 _ (by decide) (by decide)]
  refine Both.mk' (σ1 := σ1) (σ2 := τ3) (r := nI d) ?_ ?_ ?_
  · show X7_keep _ _ = _
    unfold X7_keep
    rw [if_neg hb1, if_pos (by rw [nlt_r (by omega) (by decide)]; show k < 3; omega), hP.1, if_neg nz, ck_n (by omega) (by decide), ncl (by omega), if_pos (by omega), u1, Option.bind_some]
    show some (σ1, σ1.1 204 0 0) = _
    rw [u2.i (q0 204 (by omega)), d2]
  · show X8_keep _ _ = _
    unfold X8_keep
    rw [in1, Option.bind_some]
    show (if (1 : Int32) = 0 then _ else _) = _
    rw [if_neg one_ne0]
    show (if σ1.1 810 0 0 = 0 then _ else _) = _
    rw [g6 810 0 (by decide), h1, if_neg nz, lt_eq, nmul_l]
    show ck (nI (727 * k)) 2181 (X8_keep_L39 (nI (727 * k)) _ FU (uI σ1 829 0 (nI (727 * k)).toNatClampNeg (σ1.1 826 0 0)) 0) = _
    rw [ck_n (by omega) (by decide), ncl (by omega), g6 826 0 (by decide), d3, ← nI_0]
    have e : τ3.1 826 0 0 = nI d := by rw [z2.i (by decide), m2 826 0 (by decide) (by decide)]; exact d3
    rw [e] at z1
    exact (v1.trans w1).trans z1
  · obtain ⟨rA, rR, rT, rP⟩ := h
    obtain ⟨pr, ph, m, m8, pm1, pm2, pm3⟩ := rP
    have em : m = n := by rw [h1] at pm1; exact ((neq (by omega) (by omega)).mp pm1).symm
    subst em
    have nP : ∀ c k', c < 100 ∨ (104 < c ∧ c ≤ 200) ∨ 204 < c → c ≠ 829 → ¬ (Pprs (1 + k) c k' ∨ c = 829) := by intro c k' h3 h4; unfold Pprs Plw; omega
    refine ⟨rA.fr fT ?_, fun r hr => (rR r hr).fr fT (nP _ _ (by omega) (by decide)) (nP _ _ (by omega) (by decide)) (nP _ _ (by omega) (by decide)) (nP _ _ (by omega) (by decide)), fun t ht => (rT t ht).fr fT (nP _ _ (by omega) (by decide)) (nP _ _ (by omega) (by decide)) (nP _ _ (by omega) (by decide)) (nP _ _ (by omega) (by decide)), ?_⟩
    · intro c hc
      refine nP c 0 ?_ ?_
      · simp only [List.mem_cons, List.not_mem_nil, or_false] at hc; omega
      · simp only [List.mem_cons, List.not_mem_nil, or_false] at hc; omega
    · refine ⟨fun p hp => ?_, ⟨fun x hx => ?_, fun x h3 h4 => ?_⟩, m, m8, by rw [fT.i (nP _ _ (by omega) (by decide))]; exact pm1, ?_, fun k' hk' => ?_⟩
      · refine ⟨fun j hj => ?_, fun j l hj hl e => ?_⟩
        · rw [fT.r (nP _ _ (by omega) (by decide))]; exact (pr p hp).1 j hj
        · rw [fT.r (nP _ _ (by omega) (by decide)), fT.r (nP _ _ (by omega) (by decide))] at e; exact (pr p hp).2 j l hj hl e
      · by_cases q : 8 * (1 + k) ≤ x ∧ x < 8 * (1 + k) + 8
        · rw [fE.i (by decide)]; exact u4 x q.1 q.2
        · rw [fT.i (by unfold Pprs Plw; omega)]; exact ph.1 x hx
      · rw [fT.i (by unfold Pprs Plw; omega)]; exact ph.2 x h3 h4
      · refine (pm2.fr fT (fun c q1 q2 => by unfold Pprs Plw; omega) (fun c x q1 q2 q3 q4 => by unfold Pprs Plw; omega)).cg m8 ?_ ?_ ?_ ?_
        · intro i _; exact fT.i (nP _ _ (by omega) (by decide)) i
        · intro i _; exact fT.i (nP _ _ (by omega) (by decide)) i
        · intro i _; exact fT.i (nP _ _ (by omega) (by decide)) i
        · exact fT.i (nP _ _ (by omega) (by decide)) 0
      · by_cases q : k' = k
        · subst q
          refine Or.inr ⟨by omega, ?_⟩
          rw [Nat.add_comm k' 1]
          refine (u3.fr fE (fun c q1 q2 => by omega) (fun c x q1 q2 q3 q4 => by omega)).cg m8 ?_ ?_ ?_ ?_
          · intro i hi
            rw [blk, if_neg (by omega), if_neg (by omega), if_pos (by omega), show 727 * k' + 1 + i - (727 * k' + 1) = i by omega]
          · intro i hi
            rw [blk, if_pos (by omega), show 727 * k' + 47 + i - (727 * k' + 47) = i by omega]
          · intro i hi
            rw [blk, if_neg (by omega), if_pos (by omega), show 727 * k' + 41 + i - (727 * k' + 41) = i by omega]
          · rw [blk, if_neg (by omega), if_neg (by omega), if_neg (by omega), if_pos rfl, d3]
        · have e9 : ∀ i, i < 727 → τ3.1 829 0 (727 * k' + i) = σ.1 829 0 (727 * k' + i) := fun i hi => by
            rw [blk, if_neg (by omega), if_neg (by omega), if_neg (by omega), if_neg (by omega)]
          have e90 : τ3.1 829 0 (727 * k') = σ.1 829 0 (727 * k') := e9 0 (by decide)
          rcases pm3 k' hk' with ⟨w4, w5⟩ | ⟨w4, w5⟩
          · exact Or.inl ⟨by rw [fT.i (by unfold Pprs Plw; omega)]; exact w4, by rw [e90]; exact w5⟩
          · refine Or.inr ⟨w4, (w5.fr fT (fun c q1 q2 => by unfold Pprs Plw; omega) (fun c x q1 q2 q3 q4 => by unfold Pprs Plw; omega)).cg m8 ?_ ?_ ?_ e90⟩
            · intro i hi
              rw [Nat.add_assoc]
              exact e9 (1 + i) (by omega)
            · intro i hi
              rw [Nat.add_assoc]
              exact e9 (47 + i) (by omega)
            · intro i hi
              rw [Nat.add_assoc]
              exact e9 (41 + i) (by omega)
theorem op_on {σ : Mem} (h : Rel σ) (a : Int32) : Both (fun σ => X7_on σ a) (fun σ => X8_on σ a) σ := by
  obtain ⟨n, hn, h1, h2, hP, hM, hT⟩ := h.press
  rcases to_n a 2 (by decide) with hb | ⟨k, hk, rfl, hb1, hb2⟩
  · refine Both.mk' (σ1 := σ) (σ2 := σ) (r := -1) ?_ ?_ h
    · show X7_on _ _ = _
      unfold X7_on
      rcases hb with hb | hb
      · rw [if_pos hb]
      · by_cases q : a < 0
        · rw [if_pos q]
        · rw [if_neg q, if_neg (fun w => hb (by
            rw [Int32.lt_iff_toInt_lt] at w
            rw [Int32.le_iff_toInt_le]
            have : (3 : Int32).toInt = 3 := rfl
            have : (nI 2).toInt = 2 := rfl
            omega))]
    · show X8_on _ _ = _
      unfold X8_on
      rw [in_bad (by rcases hb with hb | hb; exact Or.inl hb; exact Or.inr (i32_nle2.mp hb))]
      rfl
  have in1 : ∀ σ : Mem, X8_in σ (nI k) 0 2 = some (σ, 1) := fun σ => in_ok hb1 (by rw [i32_nlt]; exact hb2)
  have s7 : X7_on σ (nI k) = if bI (decide (0 < σ.1 203 (1 + k) 0)) = 0 then some (ans7 σ 1, -3) else (X2_take σ 0 (1 + k)).bind fun q4 => some (q4.1, (q4.1.1 204 0 0)) := by
    unfold X7_on
    rw [if_neg hb1, if_pos (by rw [nlt_r (by omega) (by decide)]; show k < 3; omega), ck_n (by omega) (by decide), ncl (by omega), if_pos (by omega), isKept_b (by omega), Option.bind_some, an1, ck_n (by omega) (by decide), if_pos (show 1 + k < 4 by omega)]
    rfl
  have s8 : ∀ σ : Mem, X8_on σ (nI k) = if σ.1 829 0 (727 * k) = -9 then some (met8 σ 1, -3) else X8_on_L46 (nI (727 * k)) (fun (s5 : Mem) => (X8_on_L76 (nI (727 * k)) (fun (s8 : Mem) => (X8_on_L107 (nI (727 * k)) (fun (s11 : Mem) => (some (s11, (s11.1 826 0 0)))) FU s8 (nI 0))) FU s5 (nI 0))) FU (uI σ 826 0 0 (σ.1 829 0 (727 * k))) (nI 0) := by
    intro σ
    unfold X8_on
    rw [in1, Option.bind_some]
    show (if (1 : Int32) = 0 then _ else _) = _
    rw [if_neg one_ne0, lt_eq, nmul_l]
    show ck (nI (727 * k)) 2181 (if σ.1 829 0 (nI (727 * k)).toNatClampNeg = -9 then _ else ck (nI (727 * k)) 2181 (X8_on_L46 (nI (727 * k)) _ FU (uI σ 826 0 0 (σ.1 829 0 (nI (727 * k)).toNatClampNeg)) 0)) = _
    rw [ck_n (by omega) (by decide), ck_n (by omega) (by decide), ncl (by omega), me1, nI_0]
    rfl
  have kb := kept_b hn (h.kept h1 hn (show k < 3 by omega))
  rcases h.kept h1 hn (show k < 3 by omega) with ⟨k1, k2⟩ | ⟨k1, k2⟩
  · refine Both.mk' (σ1 := ans7 σ 1) (σ2 := met8 (ans7 σ 1) 1) (r := -3) ?_ ?_ (Rel_fnd h 1 (by decide) (by decide))
    · show X7_on _ _ = _
      rw [s7, kb, k2, if_pos (by decide)]
    · show X8_on _ _ = _
      rw [s8, ans7_i (by decide) (by decide), k2, if_pos rfl]
  · rw [Nat.add_comm k 1] at k2
    obtain ⟨d, d1, d2, d3, d4⟩ := k2.2.1
    have n9 : ¬ σ.1 829 0 (727 * k) = -9 := by rw [d3]; exact nne_neg (by omega) (by decide)
    obtain ⟨σ1, u1, u2, u3, u4⟩ := X2_take_n (p := 0) (q := 1 + k) (by decide) (by omega) (by omega) hn (h.refs (by decide)) (h.refs (by omega)) (fun x x1 x2 => h.2.2.2.2.1.1 x (by omega)) k2
    have q8 : ∀ c, 205 ≤ c → ¬ Pprs 0 c 0 := by intro c hc; unfold Pprs Plw; omega
    have g6 : ∀ c j, 205 ≤ c → σ1.1 c 0 j = σ.1 c 0 j := fun c j hc => u2.i (q8 c hc) j
    have f0 : Fr (fun c _ => c = 826) σ1 (uI σ1 826 0 0 (nI d)) := Fr.uI rfl
    obtain ⟨τ1, v1, v2, v3⟩ := X8_on46_L (B := 727 * k) (kk := fun (s5 : Mem) => (X8_on_L76 (nI (727 * k)) (fun (s8 : Mem) => (X8_on_L107 (nI (727 * k)) (fun (s11 : Mem) => (some (s11, (s11.1 826 0 0)))) FU s8 (nI 0))) FU s5 (nI 0))) (by omega) 40 0 FU (uI σ1 826 0 0 (nI d)) (by decide) (by decide)
    obtain ⟨τ2, w1, w2, w3⟩ := X8_on76_L (B := 727 * k) (kk := fun (s8 : Mem) => (X8_on_L107 (nI (727 * k)) (fun (s11 : Mem) => (some (s11, (s11.1 826 0 0)))) FU s8 (nI 0))) (by omega) 6 0 FU τ1 (by decide) (by decide)
    obtain ⟨τ3, z1, z2, z3⟩ := X8_on107_L (B := 727 * k) (kk := fun (s11 : Mem) => (some (s11, (s11.1 826 0 0)))) (by omega) 680 0 FU τ2 (by decide) (by decide)
    have fE : Fr (fun c _ => c = 826 ∨ c = 811 ∨ c = 827 ∨ c = 828) σ1 τ3 := (((f0.mono fun _ _ q => Or.inl q).tr (v2.mono fun _ _ q => Or.inr (Or.inl q))).tr (w2.mono fun _ _ q => Or.inr (Or.inr (Or.inl q)))).tr (z2.mono fun _ _ q => Or.inr (Or.inr (Or.inr q)))
    have m9 : ∀ j, τ2.1 829 0 j = σ.1 829 0 j := fun j => by rw [w2.i (by decide), v2.i (by decide), f0.i (by decide), g6 829 j (by decide)]
    have m9' : ∀ j, τ1.1 829 0 j = σ.1 829 0 j := fun j => by rw [v2.i (by decide), f0.i (by decide), g6 829 j (by decide)]
    have m9'' : ∀ j, (uI σ1 826 0 0 (nI d)).1 829 0 j = σ.1 829 0 j := fun j => by rw [f0.i (by decide), g6 829 j (by decide)]
    have e6 : τ3.1 826 0 0 = nI d := by rw [z2.i (by decide), w2.i (by decide), v2.i (by decide)]; simp [uI_1]
    have e811 : ∀ i, i < 40 → τ3.1 811 0 i = σ.1 829 0 (727 * k + 1 + i) := fun i hi => by rw [z2.i (by decide), w2.i (by decide), v3, if_pos (by omega), m9'']
    have e827 : ∀ i, i < 6 → τ3.1 827 0 i = σ.1 829 0 (727 * k + 41 + i) := fun i hi => by rw [z2.i (by decide), w3, if_pos (by omega), m9']
    have e828 : ∀ i, i < 680 → τ3.1 828 0 i = σ.1 829 0 (727 * k + 47 + i) := fun i hi => by rw [z3, if_pos (by omega), m9]
    refine Both.mk' (σ1 := σ1) (σ2 := τ3) (r := nI d) ?_ ?_ ?_
    · show X7_on _ _ = _
      rw [s7, kb, decide_eq_true n9, bI_t, if_neg one_ne0, u1, Option.bind_some]
      obtain ⟨d', -, c2, c3, -⟩ := u3.2.1
      show some (σ1, σ1.1 204 0 0) = _
      rw [c2, ← c3, d3]
    · show X8_on _ _ = _
      rw [s8, g6 829 _ (by decide), if_neg n9, d3]
      rw [e6] at z1
      exact (v1.trans w1).trans z1
    · have fT : Fr PN σ τ3 := (u2.mono fun c k q => by
        unfold Pprs Plw at q
        unfold PN
        omega).tr (fE.mono fun c k q => Or.inr (Or.inr (Or.inl (by omega))))
      have hr := h.refs (p := 0) (by decide)
      refine Rel_now h fT ⟨fun j hj => ?_, fun i j hi hj e => ?_⟩ (fun y hy => ?_) (fun m m8 m1 m2 => ?_)
      · obtain ⟨y, y1, y2, y3⟩ := hr.1 j hj
        exact ⟨y, by rw [fE.r (by decide), u2.r (by unfold Pprs Plw; omega)]; exact y1, by omega⟩
      · rw [fE.r (by decide), fE.r (by decide), u2.r (by unfold Pprs Plw; omega), u2.r (by unfold Pprs Plw; omega)] at e
        exact hr.2 i j hi hj e
      · rw [fE.i (by decide)]
        exact u4 y (by omega) (by omega)
      · have em : m = n := by rw [h1] at m1; exact ((neq (by omega) (by omega)).mp m1).symm
        subst em
        refine (u3.fr fE (fun c q1 q2 => by omega) (fun c x q1 q2 q3 q4 => by omega)).cg m8 (fun i hi => e811 i hi) (fun i hi => e828 i hi) (fun i hi => e827 i hi) (by rw [e6, d3])
