/-! alike ones -/
def eF (ky : Nat → List Nat) (k : Nat) : Option Nat := fsF (fun j => decide (ky j = ky k)) k 0
def lF (ky : Nat → List Nat) (N k : Nat) : Option Nat := fsF (fun j => decide (ky j = ky k)) (N - (k + 1)) (k + 1)
theorem fsF_none {P : Nat → Bool} {c i : Nat} : fsF P c i = none ↔ ∀ j, i ≤ j → j < i + c → P j = false := by
  rw [fsF_cn]
  constructor
  · intro h j h1 h2
    have key : ∀ c i, cn P c i = 0 → ∀ j, i ≤ j → j < i + c → P j = false := by
      intro c
      induction c with
      | zero => intro i _ j h1 h2; omega
      | succ c ih =>
        intro i h j h1 h2
        rw [cn] at h
        by_cases e : j = i
        · subst e
          cases q : P j with
          | false => rfl
          | true => rw [q, if_pos rfl] at h; omega
        · exact ih (i + 1) (by omega) j (by omega) (by omega)
    exact key c i h j h1 h2
  · exact cn_no c i
theorem fsF_min {P : Nat → Bool} : ∀ c i x, fsF P c i = some x → ∀ j, i ≤ j → j < x → P j = false := by
  intro c
  induction c with
  | zero => intro i x h; cases h
  | succ c ih =>
    intro i x h j h1 h2
    rw [fsF] at h
    by_cases q : P i = true
    · rw [if_pos q] at h; cases h; omega
    · rw [if_neg q] at h
      by_cases e : j = i
      · subst e; simpa using q
      · exact ih (i + 1) x h j (by omega) h2
theorem eF_none {ky : Nat → List Nat} {k : Nat} : eF ky k = none ↔ ∀ j, j < k → ky j ≠ ky k := by
  unfold eF
  rw [fsF_none]
  constructor
  · intro h j hj
    have := h j (by omega) (by omega)
    simpa using this
  · intro h j _ hj
    exact decide_eq_false (h j (by omega))
theorem eF_some {ky : Nat → List Nat} {k e : Nat} (h : eF ky k = some e) : e < k ∧ ky e = ky k ∧ ∀ j, j < e → ky j ≠ ky k := by
  obtain ⟨-, h2, h3⟩ := fsF_lt _ _ _ h
  refine ⟨by omega, by simpa using h3, fun j hj => ?_⟩
  have := fsF_min _ _ _ h j (by omega) hj
  simpa using this
theorem lF_none {ky : Nat → List Nat} {N k : Nat} : lF ky N k = none ↔ ∀ j, k < j → j < N → ky j ≠ ky k := by
  unfold lF
  rw [fsF_none]
  constructor
  · intro h j h1 h2
    have := h j (by omega) (by omega)
    simpa using this
  · intro h j h1 h2
    exact decide_eq_false (h j (by omega) (by omega))
theorem lF_some {ky : Nat → List Nat} {N k e : Nat} (h : lF ky N k = some e) : k < e ∧ e < N ∧ ky e = ky k ∧ ∀ j, k < j → j < e → ky j ≠ ky k := by
  obtain ⟨h1, h2, h3⟩ := fsF_lt _ _ _ h
  refine ⟨by omega, by omega, by simpa using h3, fun j hj hj2 => ?_⟩
  have := fsF_min _ _ _ h j (by omega) hj2
  simpa using this
theorem last_ex {ky : Nat → List Nat} {v : List Nat} : ∀ N, (∃ e, e < N ∧ ky e = v) → ∃ k, k < N ∧ ky k = v ∧ ∀ j, k < j → j < N → ky j ≠ v := by
  intro N
  induction N with
  | zero => rintro ⟨e, h, -⟩; omega
  | succ N ih =>
    rintro ⟨e, h1, h2⟩
    by_cases q : ky N = v
    · exact ⟨N, by omega, q, fun j a b => by omega⟩
    · have : e ≠ N := fun w => q (by rw [← w]; exact h2)
      obtain ⟨k, k1, k2, k3⟩ := ih ⟨e, by omega, h2⟩
      refine ⟨k, by omega, k2, fun j a b => ?_⟩
      by_cases e2 : j = N
      · rw [e2]; exact q
      · exact k3 j a (by omega)
def Dn (ky : Nat → List Nat) (N : Nat) : Nat := cn (fun k => (eF ky k).isNone) N 0
def En (ky : Nat → List Nat) (N : Nat) : Nat := cn (fun k => (lF ky N k).isNone) N 0
theorem cn_succ {p : Nat → Bool} {N : Nat} : cn p (N + 1) 0 = cn p N 0 + (if p N = true then 1 else 0) := by
  rw [cn_add N 1 0]
  simp [cn]
theorem DE {ky : Nat → List Nat} : ∀ N, Dn ky N = En ky N := by
  intro N
  induction N with
  | zero => rfl
  | succ N ih =>
    unfold Dn En at ih ⊢
    rw [cn_succ, cn_succ, ih]
    have hN : (lF ky (N + 1) N).isNone = true := by
      rw [Option.isNone_iff_eq_none, lF_none]
      intro j a b
      omega
    rw [hN, if_pos rfl]
    cases he : eF ky N with
    | none =>
      rw [if_pos (show (none : Option Nat).isNone = true from rfl)]
      congr 1
      refine cn_cg N 0 (fun k _ hk => ?_)
      have hne := eF_none.mp he k (by omega)
      rw [Bool.eq_iff_iff, Option.isNone_iff_eq_none, Option.isNone_iff_eq_none, lF_none, lF_none]
      constructor
      · intro h j a b
        by_cases e : j = N
        · rw [e]; exact fun w => hne w.symm
        · exact h j a (by omega)
      · intro h j a b
        exact h j a (by omega)
    | some e =>
      obtain ⟨e1, e2, -⟩ := eF_some he
      rw [if_neg (show ¬ (some e : Option Nat).isNone = true from fun h => by (cases h)), Nat.add_zero]
      obtain ⟨k0, a1, a2, a3⟩ := last_ex (ky := ky) (v := ky N) N ⟨e, e1, e2⟩
      have hp : (lF ky N k0).isNone = true := by
        rw [Option.isNone_iff_eq_none, lF_none]
        intro j b1 b2
        rw [a2]
        exact a3 j b1 b2
      have hb := cn_but (p := fun k => (lF ky N k).isNone) (k := k0) hp N 0
      rw [if_pos (by omega)] at hb
      rw [hb]
      congr 1
      refine cn_cg N 0 (fun k _ hk => ?_)
      rw [Bool.eq_iff_iff, Bool.and_eq_true, Option.isNone_iff_eq_none, Option.isNone_iff_eq_none, lF_none, lF_none, decide_eq_true_eq]
      constructor
      · rintro ⟨h1, h2⟩ j b1 b2
        by_cases e : j = N
        · subst e
          intro w
          have h3 : ¬ k < k0 := fun q => h2 k0 q a1 (by rw [a2, w])
          have h4 : ¬ k0 < k := fun q => a3 k q (by omega) w.symm
          omega
        · exact h2 j b1 (by omega)
      · intro h
        refine ⟨?_, fun j b1 b2 => h j b1 (by omega)⟩
        rintro rfl
        exact h N (by omega) (by omega) a2.symm
/-! the first two -/
def TWo (ky : Nat → List Nat) (N : Nat) (b : Option (Nat × Nat)) : Prop := match b with
  | none => ∀ j, j < N → ∀ i, i < j → ky i ≠ ky j
  | some (a, b) => a < b ∧ b < N ∧ ky a = ky b ∧ (∀ j, a < j → j < b → ky j ≠ ky a) ∧ ∀ j, j < N → ∀ i, i < j → ky i = ky j → a ≤ i
theorem TWo.st {ky : Nat → List Nat} {N : Nat} {b : Option (Nat × Nat)} (h : TWo ky N b) : TWo ky (N + 1) (match eF ky N with | none => b | some e => match b with | none => some (e, N) | some (a, c) => if a ≤ e then some (a, c) else some (e, N)) := by
  cases he : eF ky N with
  | none =>
    have hn := eF_none.mp he
    cases b with
    | none =>
      intro j hj i hi
      by_cases e : j = N
      · subst e; exact hn i hi
      · exact h j (by omega) i hi
    | some p =>
      obtain ⟨a, c⟩ := p
      obtain ⟨h1, h2, h3, h4, h5⟩ := h
      refine ⟨h1, by omega, h3, h4, fun j hj i hi w => ?_⟩
      by_cases e : j = N
      · subst e; exact absurd w (hn i hi)
      · exact h5 j (by omega) i hi w
  | some e =>
    obtain ⟨e1, e2, e3⟩ := eF_some he
    have eN : ∀ i, i < N → ky i = ky N → e ≤ i := fun i hi w => by
      by_cases q : i < e
      · exact absurd w (e3 i q)
      · omega
    cases b with
    | none =>
      refine ⟨e1, by omega, e2, fun j a1 a2 w => ?_, fun j hj i hi w => ?_⟩
      · exact h j (by omega) e a1 w.symm
      · by_cases q : j = N
        · subst q; exact eN i hi w
        · exact absurd w (h j (by omega) i hi)
    | some p =>
      obtain ⟨a, c⟩ := p
      obtain ⟨h1, h2, h3, h4, h5⟩ := h
      dsimp only
      by_cases q : a ≤ e
      · rw [if_pos q]
        refine ⟨h1, by omega, h3, h4, fun j hj i hi w => ?_⟩
        by_cases q2 : j = N
        · subst q2; have := eN i hi w; omega
        · exact h5 j (by omega) i hi w
      · rw [if_neg q]
        refine ⟨e1, by omega, e2, fun j a1 a2 w => ?_, fun j hj i hi w => ?_⟩
        · have := h5 j (by omega) e a1 w.symm
          omega
        · by_cases q2 : j = N
          · subst q2; exact eN i hi w
          · have := h5 j (by omega) i hi w
            omega
/-- the model's first two -/
theorem TWo.fs {ky : Nat → List Nat} {N : Nat} {b : Option (Nat × Nat)} (h : TWo ky N b) : match b with | none => fsF (fun k => (lF ky N k).isSome) N 0 = none | some (a, c) => fsF (fun k => (lF ky N k).isSome) N 0 = some a ∧ lF ky N a = some c := by
  cases b with
  | none =>
    dsimp only
    rw [fsF_none]
    intro j _ hj
    have : lF ky N j = none := lF_none.mpr (fun i a b w => h i b j a w.symm)
    rw [this]
    rfl
  | some p =>
    obtain ⟨a, c⟩ := p
    obtain ⟨h1, h2, h3, h4, h5⟩ := h
    have e1 : lF ky N a = some c := by
      cases hl : lF ky N a with
      | none => exact absurd h3.symm (lF_none.mp hl c h1 h2)
      | some x =>
        obtain ⟨x1, x2, x3, x4⟩ := lF_some hl
        have : x = c := by
          have a1 : ¬ x < c := fun q => h4 x x1 q x3
          have a2 : ¬ c < x := fun q => x4 c h1 q h3.symm
          omega
        rw [this]
    dsimp only
    refine ⟨?_, e1⟩
    cases hf : fsF (fun k => (lF ky N k).isSome) N 0 with
    | none =>
      have := fsF_none.mp hf a (by omega) (by omega)
      rw [e1] at this
      cases this
    | some k =>
      obtain ⟨k1, k2, k3⟩ := fsF_lt _ _ _ hf
      have m := fsF_min _ _ _ hf
      cases hl : lF ky N k with
      | none => rw [hl] at k3; cases k3
      | some x =>
        obtain ⟨x1, x2, x3, x4⟩ := lF_some hl
        have a1 := h5 x x2 k x1 x3.symm
        have a2 : ¬ a < k := fun q => by
          have := m a (by omega) q
          rw [e1] at this
          cases this
        congr 1
        omega
/-! the table -/
theorem pig {n m : Nat} (f : Nat → Nat) (hf : ∀ k, k < n → f k < m) (hi : ∀ k l, k < n → l < n → f k = f l → k = l) : n ≤ m := by
  by_cases q : n ≤ m
  · exact q
  · obtain ⟨k, k1, k2⟩ := inj_onto n f (fun k hk => by have := hf k hk; omega) hi (n - 1) (by omega)
    have := hf k k1
    omega
def ps (h d : Nat) : Nat := (h + 1 + d) % 2048
theorem ps_lt {h d : Nat} : ps h d < 2048 := Nat.mod_lt _ (by decide)
theorem ps_inj {h d e : Nat} (hd : d < 2048) (he : e < 2048) (w : ps h d = ps h e) : d = e := by
  unfold ps at w
  omega
theorem ps_onto {h y : Nat} (hh : h < 2048) (hy : y < 2048) : ∃ d, d < 2048 ∧ ps h d = y := by
  unfold ps
  by_cases q : h + 1 ≤ y
  · exact ⟨y - (h + 1), by omega, by omega⟩
  · exact ⟨y + 2048 - (h + 1), by omega, by omega⟩
def TI (ky : Nat → List Nat) (hs : List Nat → Nat) (tb : Nat → Nat) (N : Nat) : Prop := (∀ y, y < 2048 → tb y ≠ 0 → tb y ≤ N ∧ eF ky (tb y - 1) = none) ∧ (∀ y z, y < 2048 → z < 2048 → tb y ≠ 0 → tb y = tb z → y = z) ∧ ∀ k, k < N → eF ky k = none → ∃ d, d < 2048 ∧ tb (ps (hs (ky k)) d) = k + 1 ∧ ∀ e, e < d → tb (ps (hs (ky k)) e) ≠ 0
theorem TI.empty {ky : Nat → List Nat} {hs : List Nat → Nat} {tb : Nat → Nat} {N : Nat} (h : TI ky hs tb N) (hN : N ≤ 1296) (hh : ∀ l, hs l < 2048) (l : List Nat) : ∃ d, d < 2048 ∧ tb (ps (hs l) d) = 0 ∧ ∀ e, e < d → tb (ps (hs l) e) ≠ 0 := by
  obtain ⟨h1, h2, -⟩ := h
  have ex : ∃ y, y < 2048 ∧ tb y = 0 := by
    by_cases q : ∃ y, y < 2048 ∧ tb y = 0
    · exact q
    · exfalso
      have nz : ∀ y, y < 2048 → tb y ≠ 0 := fun y hy w => q ⟨y, hy, w⟩
      have := pig (n := 2048) (m := 1296) (fun y => tb y - 1) (fun y hy => by have := (h1 y hy (nz y hy)).1; have := nz y hy; omega) (fun y z hy hz w => h2 y z hy hz (nz y hy) (by have := nz y hy; have := nz z hz; omega))
      omega
  obtain ⟨y, y1, y2⟩ := ex
  obtain ⟨d0, d1, d2⟩ := ps_onto (hh l) y1
  have hz : tb (ps (hs l) d0) = 0 := by rw [d2]; exact y2
  cases hf : fsF (fun d => decide (tb (ps (hs l) d) = 0)) 2048 0 with
  | none =>
    have := fsF_none.mp hf d0 (by omega) (by omega)
    rw [decide_eq_false_iff_not] at this
    exact absurd hz this
  | some d =>
    obtain ⟨-, a2, a3⟩ := fsF_lt _ _ _ hf
    refine ⟨d, by omega, by simpa using a3, fun e he => ?_⟩
    have := fsF_min _ _ _ hf e (by omega) he
    simpa using this
theorem TI.ins {ky : Nat → List Nat} {hs : List Nat → Nat} {tb : Nat → Nat} {N d : Nat} (h : TI ky hs tb N) (he : eF ky N = none) (hd : d < 2048) (hz : tb (ps (hs (ky N)) d) = 0) (hp : ∀ e, e < d → tb (ps (hs (ky N)) e) ≠ 0) : TI ky hs (fun y => if y = ps (hs (ky N)) d then N + 1 else tb y) (N + 1) := by
  obtain ⟨h1, h2, h3⟩ := h
  refine ⟨fun y hy w => ?_, fun y z hy hz2 w e => ?_, fun k hk ek => ?_⟩
  · dsimp only at w ⊢
    by_cases q : y = ps (hs (ky N)) d
    · rw [if_pos q]
      exact ⟨Nat.le_refl _, he⟩
    · rw [if_neg q] at w ⊢
      obtain ⟨a, b⟩ := h1 y hy w
      exact ⟨by omega, b⟩
  · dsimp only at w e
    by_cases q : y = ps (hs (ky N)) d
    · by_cases q2 : z = ps (hs (ky N)) d
      · rw [q, q2]
      · rw [if_pos q, if_neg q2] at e
        have := (h1 z hz2 (by omega)).1
        omega
    · rw [if_neg q] at w e
      by_cases q2 : z = ps (hs (ky N)) d
      · rw [if_pos q2] at e
        have := (h1 y hy w).1
        omega
      · rw [if_neg q2] at e
        exact h2 y z hy hz2 w e
  · by_cases q : k = N
    · subst q
      refine ⟨d, hd, if_pos rfl, fun e he2 => ?_⟩
      have : ps (hs (ky k)) e ≠ ps (hs (ky k)) d := fun w => by have := ps_inj (by omega) hd w; omega
      dsimp only
      rw [if_neg this]
      exact hp e he2
    · obtain ⟨d', a1, a2, a3⟩ := h3 k (by omega) ek
      have nz : ∀ y, tb y ≠ 0 → y ≠ ps (hs (ky N)) d := fun y w e => w (by rw [e]; exact hz)
      refine ⟨d', a1, ?_, fun e he2 => ?_⟩
      · dsimp only
        rw [if_neg (nz _ (by omega))]
        exact a2
      · dsimp only
        rw [if_neg (nz _ (a3 e he2))]
        exact a3 e he2
theorem TI.same {ky : Nat → List Nat} {hs : List Nat → Nat} {tb : Nat → Nat} {N e : Nat} (h : TI ky hs tb N) (he : eF ky N = some e) : TI ky hs tb (N + 1) := by
  obtain ⟨h1, h2, h3⟩ := h
  refine ⟨fun y hy w => ⟨by have := (h1 y hy w).1; omega, (h1 y hy w).2⟩, h2, fun k hk ek => ?_⟩
  by_cases q : k = N
  · subst q; rw [he] at ek; cases ek
  · exact h3 k (by omega) ek
/-- the class's search -/
def hsK (l : List Nat) : Nat := ((lN (pkN l)).toInt32 * (-1640531535 : Int32)).toBitVec.toNat / 2 ^ 21
theorem hsK_lt (l : List Nat) : hsK l < 2048 := by
  have := ((lN (pkN l)).toInt32 * (-1640531535 : Int32)).toBitVec.isLt
  unfold hsK
  omega
theorem hsK_n (l : List Nat) : (((lN (pkN l)).toInt32 * (-1640531535 : Int32)).toUInt32 >>> ((21 : Int32).toUInt32 &&& Int32.toUInt32 31)).toInt32 = nI (hsK l) := by
  apply Int32.toBitVec_inj.mp
  apply BitVec.eq_of_toNat_eq
  rw [pk_ushr _ 21 21 (by decide)]
  have := hsK_lt l
  show _ = (BitVec.ofNat 32 (hsK l)).toNat
  rw [BitVec.toNat_ofNat, Nat.mod_eq_of_lt (by omega)]
  rfl
def TBs (σ : Mem) (tb : Nat → Nat) : Prop := ∀ y, y < 2048 → σ.1 1 0 y = nI (tb y)
theorem X0_like_L {σ : Mem} {ky : Nat → List Nat} {tb : Nat → Nat} {N : Nat} {kk : Mem → Option (Mem × Int32)} (hI : TI ky hsK tb N) (hN : N < 1296) (hTB : TBs σ tb) (hO : ∀ k, k ≤ N → σ.2.1 0 0 k = lN (pkN (ky k))) (hk : ∀ k, k ≤ N → Sg (ky k) ∧ (ky k).length ≤ 16) : ∀ (c i f : Nat), c < f → i + c = 2048 → (∀ d, d < i → tb (ps (hsK (ky N)) d) ≠ 0 ∧ ky (tb (ps (hsK (ky N)) d) - 1) ≠ ky N) → ∃ τ tb', X0_earliestLike_L31 (nI N) kk f σ (nI ((hsK (ky N) + i) % 2048)) (nI i) = some (τ, match eF ky N with | some e => nI e | none => nI N) ∧ Fr (fun c _ => c = 1) σ τ ∧ TBs τ tb' ∧ TI ky hsK tb' (N + 1) := by
  intro c
  induction c with
  | zero =>
    intro i f hf he hd
    exfalso
    obtain ⟨d, d1, d2, -⟩ := hI.empty (by omega) hsK_lt (ky N)
    exact (hd d (by omega)).1 d2
  | succ c ih =>
    intro i f hf he hd
    obtain ⟨g, rfl⟩ : ∃ g, f = g + 1 := ⟨f - 1, by omega⟩
    have hm : (hsK (ky N) + i) % 2048 < 2048 := Nat.mod_lt _ (by decide)
    have e1 : ((nI ((hsK (ky N) + i) % 2048) + (1 : Int32)) &&& ((2048 : Int32) - (1 : Int32))) = nI (ps (hsK (ky N)) i) := by
      have q1 : ((hsK (ky N) + i) % 2048 + 1) % 2 ^ 11 = ps (hsK (ky N)) i := by unfold ps; omega
      rw [nadd_r, show ((2048 : Int32) - (1 : Int32)) = 2047 by decide]
      have := pk_andN (n := (hsK (ky N) + i) % 2048 + 1) (by omega) (m := 2047) 11 (by decide)
      rw [q1] at this
      exact this
    have hp := ps_lt (h := hsK (ky N)) (d := i)
    rw [X0_earliestLike_L31, if_neg (by rw [nle_l (by omega) (by decide)]; omega), lt_eq, e1, ck_n hp (by decide), lt_eq, ncl (by omega), hTB _ hp]
    by_cases q : tb (ps (hsK (ky N)) i) = 0
    · -- a free one
      have hfirst : eF ky N = none := by
        cases hE : eF ky N with
        | none => rfl
        | some e =>
          exfalso
          obtain ⟨a1, a2, a3⟩ := eF_some hE
          have ef : eF ky e = none := eF_none.mpr (fun j hj w => a3 j hj (by rw [w, a2]))
          obtain ⟨d, d1, d2, d3⟩ := hI.2.2 e a1 ef
          rw [a2] at d2 d3
          by_cases c1 : d < i
          · have := (hd d c1).2
            rw [d2, Nat.add_sub_cancel] at this
            exact this a2
          · by_cases c2 : d = i
            · subst c2; omega
            · exact d3 i (by omega) q
      have neg : nI (tb (ps (hsK (ky N)) i)) - 1 < 0 := by rw [q]; decide
      rw [if_pos neg, ck_n hp (by decide), hfirst, nadd_r]
      refine ⟨_, fun y => if y = ps (hsK (ky N)) i then N + 1 else tb y, rfl, Fr.uI rfl, fun y hy => ?_, hI.ins hfirst (by omega) q (fun e he2 => (hd e he2).1)⟩
      dsimp only
      by_cases q2 : y = ps (hsK (ky N)) i
      · rw [if_pos q2, q2]; simp [uI_1]
      · rw [if_neg q2, ← hTB y hy]; simp [uI_1, q2]
    · obtain ⟨b1', b2'⟩ := hI.1 _ hp q
      have hs1 : nI (tb (ps (hsK (ky N)) i)) - 1 = nI (tb (ps (hsK (ky N)) i) - 1) := nsub_r (by show 1 ≤ _; omega)
      rw [hs1, if_neg (nnlt0 (by omega)), if_pos (by rw [nlt_r (by omega) (by decide)]; show tb (ps (hsK (ky N)) i) - 1 < 1296; omega), ck_n (by omega) (by decide), ck_n hN (by decide), ncl (by omega), ncl (by omega), hO _ (by omega), hO N (Nat.le_refl _)]
      have hkey := pk_eq2 (s := ky (tb (ps (hsK (ky N)) i) - 1)) (t := ky N) (hk _ (by omega)).1 (hk N (Nat.le_refl _)).1 (hk _ (by omega)).2 (hk N (Nat.le_refl _)).2
      by_cases q2 : ky (tb (ps (hsK (ky N)) i) - 1) = ky N
      · have hE : eF ky N = some (tb (ps (hsK (ky N)) i) - 1) := by
          cases hE : eF ky N with
          | none => exact absurd q2 (eF_none.mp hE _ (by omega))
          | some e =>
            obtain ⟨a1, a2, a3⟩ := eF_some hE
            have f1 := eF_none.mp b2'
            have c1 : ¬ e < tb (ps (hsK (ky N)) i) - 1 := fun w => f1 e w (by rw [a2, q2])
            have c2 : ¬ tb (ps (hsK (ky N)) i) - 1 < e := fun w => a3 _ w q2
            congr 1
            omega
        rw [if_pos (hkey.mpr q2), hE]
        exact ⟨σ, tb, rfl, Fr.rf, hTB, hI.same hE⟩
      · rw [if_neg (fun w => q2 (hkey.mp w)), nadd_r]
        have e2 : ps (hsK (ky N)) i = (hsK (ky N) + (i + 1)) % 2048 := by unfold ps; congr 1; omega
        rw [e2]
        refine ih (i + 1) g (by omega) (by omega) (fun d hd2 => ?_)
        by_cases q3 : d = i
        · subst q3; exact ⟨q, q2⟩
        · exact hd d (by omega)
theorem X0_earliestLike_n {σ : Mem} {ky : Nat → List Nat} {tb : Nat → Nat} {N : Nat} (hI : TI ky hsK tb N) (hN : N < 1296) (hTB : TBs σ tb) (hO : ∀ k, k ≤ N → σ.2.1 0 0 k = lN (pkN (ky k))) (hk : ∀ k, k ≤ N → Sg (ky k) ∧ (ky k).length ≤ 16) : ∃ τ tb', X0_earliestLike σ (nI N) = some (τ, match eF ky N with | some e => nI e | none => nI N) ∧ Fr (fun c _ => c = 1) σ τ ∧ TBs τ tb' ∧ TI ky hsK tb' (N + 1) := by
  obtain ⟨τ, tb', t1, t2⟩ := X0_like_L (kk := fun s6 => some (s6, nI N)) hI hN hTB hO hk 2048 0 FU (fu_gt (by decide)) (by decide) (fun d hd => by omega)
  refine ⟨τ, tb', ?_, t2⟩
  have hh := hsK_lt (ky N)
  unfold X0_earliestLike
  rw [if_neg (nnlt0 (by omega)), if_pos (by rw [nlt_r (by omega) (by decide)]; exact hN), ck_n hN (by decide), lt_eq, ncl (by omega), hO N (Nat.le_refl _), hsK_n]
  rw [Nat.add_zero, Nat.mod_eq_of_lt hh, nI_0] at t1
  exact t1
