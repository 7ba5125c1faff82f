/-! sheets by their numbers -/
def sh : Nat → Nat → List Nat
  | 0, _ => []
  | k + 1, N => sh k (N / 6) ++ [N % 6]
theorem sh_len : ∀ k N, (sh k N).length = k := by
  intro k
  induction k with
  | zero => intro N; rfl
  | succ k ih => intro N; rw [sh, List.length_append, ih]; rfl
theorem sh_sg : ∀ k N, Sg (sh k N) := by
  intro k
  induction k with
  | zero => intro N v hv; cases hv
  | succ k ih =>
    intro N
    rw [sh]
    exact Sg.sn (ih _) (Nat.mod_lt _ (by decide))
theorem sh_cons : ∀ k b M, b < 6 → M < 6 ^ k → sh (k + 1) (b * 6 ^ k + M) = b :: sh k M := by
  intro k
  induction k with
  | zero =>
    intro b M hb hM
    have : M = 0 := by simpa using hM
    subst this
    simp [sh]
    omega
  | succ k ih =>
    intro b M hb hM
    rw [Nat.pow_succ] at hM
    rw [sh, show (b * 6 ^ (k + 1) + M) / 6 = b * 6 ^ k + M / 6 by rw [Nat.pow_succ, ← Nat.mul_assoc]; omega, show (b * 6 ^ (k + 1) + M) % 6 = M % 6 by rw [Nat.pow_succ, ← Nat.mul_assoc]; omega, ih b (M / 6) hb (by omega), sh]
    rfl
theorem cn_sh {P : Nat → Bool} {d : Nat} : ∀ c i, cn P c (d + i) = cn (fun M => P (d + M)) c i := by
  intro c
  induction c with
  | zero => intro i; rfl
  | succ c ih => intro i; rw [cn, cn, Nat.add_assoc, ih]
theorem cn_blk {P : Nat → Bool} {K : Nat} : ∀ c b, cn P (c * K) (b * K) = sm (fun b => cn (fun M => P (b * K + M)) K 0) c b := by
  intro c
  induction c with
  | zero => intro b; rw [Nat.zero_mul]; rfl
  | succ c ih =>
    intro b
    have h := cn_sh (P := P) (d := b * K) K 0
    rw [Nat.add_zero] at h
    rw [Nat.succ_mul, Nat.add_comm, cn_add, h, show b * K + K = (b + 1) * K by rw [Nat.succ_mul], ih, sm]
theorem sm_le_c {g : Nat → Nat} {k : Nat} : ∀ c i, (∀ j, i ≤ j → j < i + c → g j ≤ k) → sm g c i ≤ c * k := by
  intro c
  induction c with
  | zero => intro i _; simp [sm]
  | succ c ih =>
    intro i h
    rw [sm, Nat.succ_mul]
    have := h i (by omega) (by omega)
    have := ih (i + 1) (fun j h1 h2 => h j (by omega) (by omega))
    omega
/-! what comes out, piece by piece -/
def ou (pc : Nat → Nat → List Nat) : List Nat → List Nat
  | [] => []
  | a :: t => pc a (t.headD 6) ++ ou pc t
theorem outS_ou {T : Nat → Nat → Int32} {n m : Nat} : ∀ s, outS T n m s = ou (pcS T n m) s := by
  intro s
  induction s with
  | nil => rfl
  | cons a t ih => rw [outS, ou, ih]
def PcOK (pc : Nat → Nat → List Nat) : Prop := ∀ a b, a < 6 → b < 7 → (pc a b).length ≤ 2 ∧ Sg (pc a b)
theorem pcS_PcOK {T : Nat → Nat → Int32} {n m : Nat} (hT : TV T n) : PcOK (pcS T n m) := fun a b ha _ => pcS_ok hT ha
def pa (pc : Nat → Nat → List Nat) (o : List Nat) (a b p : Nat) : Option Nat := if p + (pc a b).length ≤ o.length ∧ (o.drop p).take (pc a b).length = pc a b then some (p + (pc a b).length) else none
theorem app_drop {l r o : List Nat} {p : Nat} (hp : p ≤ o.length) : l ++ r = o.drop p ↔ (p + l.length ≤ o.length ∧ (o.drop p).take l.length = l) ∧ r = o.drop (p + l.length) := by
  constructor
  · intro h
    have hl : l.length + r.length = o.length - p := by
      rw [← List.length_append, h, List.length_drop]
    refine ⟨⟨by omega, ?_⟩, ?_⟩
    · rw [← h, List.take_left]
    · rw [← List.drop_drop, ← h, List.drop_left]
  · rintro ⟨⟨-, h2⟩, h3⟩
    rw [h3, ← List.drop_drop]
    calc l ++ List.drop l.length (List.drop p o) = List.take l.length (List.drop p o) ++ List.drop l.length (List.drop p o) := by rw [h2]
      _ = o.drop p := List.take_append_drop _ _
theorem pa_le {pc : Nat → Nat → List Nat} {o : List Nat} {a b p q : Nat} (h : pa pc o a b p = some q) : q ≤ o.length := by
  unfold pa at h
  split at h
  · rename_i w
    cases h
    exact w.1
  · cases h
theorem ou_two {pc : Nat → Nat → List Nat} {o t : List Nat} {a b p : Nat} (hp : p ≤ o.length) : ou pc (a :: b :: t) = o.drop p ↔ ∃ q, pa pc o a b p = some q ∧ ou pc (b :: t) = o.drop q := by
  rw [ou]
  show pc a b ++ ou pc (b :: t) = o.drop p ↔ _
  rw [app_drop hp]
  unfold pa
  constructor
  · rintro ⟨h1, h2⟩
    exact ⟨_, if_pos h1, h2⟩
  · rintro ⟨q, h1, h2⟩
    by_cases w : p + (pc a b).length ≤ o.length ∧ (o.drop p).take (pc a b).length = pc a b
    · rw [if_pos w] at h1
      cases h1
      exact ⟨w, h2⟩
    · rw [if_neg w] at h1
      cases h1
theorem ou_one {pc : Nat → Nat → List Nat} {o : List Nat} {a p : Nat} (hp : p ≤ o.length) : ou pc [a] = o.drop p ↔ pa pc o a 6 p = some o.length := by
  rw [ou]
  show pc a 6 ++ [] = o.drop p ↔ _
  rw [app_drop hp]
  unfold pa
  constructor
  · rintro ⟨h1, h2⟩
    rw [if_pos h1]
    have : (o.drop (p + (pc a 6).length)).length = 0 := by rw [← h2]; rfl
    rw [List.length_drop] at this
    congr 1
    omega
  · intro h
    by_cases w : p + (pc a 6).length ≤ o.length ∧ (o.drop p).take (pc a 6).length = pc a 6
    · rw [if_pos w] at h
      refine ⟨w, ?_⟩
      have := Option.some.inj h
      rw [this, List.drop_length]
    · rw [if_neg w] at h
      cases h
/-- how many ends of so many signs, of such a first one, come out as the aim from a place on -/
def wy (pc : Nat → Nat → List Nat) (o : List Nat) : Nat → Nat → Nat → Nat
  | 0, _, _ => 0
  | 1, a, p => if pa pc o a 6 p = some o.length then 1 else 0
  | k + 2, a, p => sm (fun b => match pa pc o a b p with
    | none => 0
    | some q => wy pc o (k + 1) b q) 6 0
theorem wy_cn {pc : Nat → Nat → List Nat} {o : List Nat} : ∀ k a p, a < 6 → p ≤ o.length → cn (fun N => decide (ou pc (a :: sh k N) = o.drop p)) (6 ^ k) 0 = wy pc o (k + 1) a p := by
  intro k
  induction k with
  | zero =>
    intro a p ha hp
    show (if decide (ou pc [a] = o.drop p) = true then 1 else 0) + 0 = wy pc o 1 a p
    rw [wy]
    by_cases q : pa pc o a 6 p = some o.length
    · rw [if_pos q, if_pos (decide_eq_true ((ou_one hp).mpr q))]
    · rw [if_neg q, if_neg (by rw [decide_eq_true_eq, ou_one hp]; exact q)]
  | succ k ih =>
    intro a p ha hp
    have e := cn_blk (P := fun N => decide (ou pc (a :: sh (k + 1) N) = o.drop p)) (K := 6 ^ k) 6 0
    rw [Nat.zero_mul] at e
    rw [Nat.pow_succ, Nat.mul_comm, e, wy]
    refine sm_cg 6 0 (fun b _ hb => ?_)
    have hb6 : b < 6 := by omega
    have e2 : cn (fun M => decide (ou pc (a :: sh (k + 1) (b * 6 ^ k + M)) = o.drop p)) (6 ^ k) 0 = cn (fun M => decide (∃ q, pa pc o a b p = some q ∧ ou pc (b :: sh k M) = o.drop q)) (6 ^ k) 0 := by
      refine cn_cg _ _ (fun M _ hM => ?_)
      rw [sh_cons k b M hb6 (by omega)]
      exact decide_eq_decide.mpr (ou_two hp)
    rw [e2]
    cases hq : pa pc o a b p with
    | none =>
      rw [cn_no _ _ (fun M _ _ => decide_eq_false (by rintro ⟨q, h1, -⟩; cases h1))]
    | some q =>
      show _ = wy pc o (k + 1) b q
      rw [← ih b q hb6 (pa_le hq)]
      refine cn_cg _ _ (fun M _ _ => decide_eq_decide.mpr ⟨?_, fun h => ⟨q, rfl, h⟩⟩)
      rintro ⟨q', h1, h2⟩
      cases h1
      exact h2
/-- how many sheets of n signs come out so -/
def wyA (pc : Nat → Nat → List Nat) (o : List Nat) (n : Nat) : Nat := match n with
  | 0 => if o.length = 0 then 1 else 0
  | k + 1 => sm (fun a => wy pc o (k + 1) a 0) 6 0
theorem wyA_cn {pc : Nat → Nat → List Nat} {o : List Nat} : ∀ n, cn (fun N => decide (ou pc (sh n N) = o)) (6 ^ n) 0 = wyA pc o n := by
  intro n
  cases n with
  | zero =>
    show (if decide ([] = o) = true then 1 else 0) + 0 = if o.length = 0 then 1 else 0
    cases o with
    | nil => rfl
    | cons a t => simp
  | succ k =>
    have e := cn_blk (P := fun N => decide (ou pc (sh (k + 1) N) = o)) (K := 6 ^ k) 6 0
    rw [Nat.zero_mul] at e
    rw [Nat.pow_succ, Nat.mul_comm, e, wyA]
    refine sm_cg 6 0 (fun b _ hb => ?_)
    have hb6 : b < 6 := by omega
    rw [← wy_cn k b 0 hb6 (Nat.zero_le _)]
    refine cn_cg _ _ (fun M _ hM => ?_)
    rw [sh_cons k b M hb6 (by omega), List.drop_zero]
theorem wy_le {pc : Nat → Nat → List Nat} {o : List Nat} {k a p : Nat} (ha : a < 6) (hp : p ≤ o.length) : wy pc o (k + 1) a p ≤ 6 ^ k := by
  rw [← wy_cn k a p ha hp]
  exact cn_le _ _
/-! the model's -/
theorem X8_sheetsOf_L {σ : Mem} {n : Nat} {kk : Mem → Int32 → Option (Mem × Int32)} (hn : n ≤ 8) : ∀ (c i f : Nat), c < f → i + c = n → X8_sheetsOf_L4 (nI n) kk f σ (nI (6 ^ i)) (nI i) = kk σ (nI (6 ^ n)) := by
  intro c
  induction c with
  | zero =>
    intro i f hf he
    obtain ⟨g, rfl⟩ : ∃ g, f = g + 1 := ⟨f - 1, by omega⟩
    have : i = n := by omega
    subst this
    rw [X8_sheetsOf_L4, if_pos (by rw [nle (by omega) (by omega)]; omega)]
  | succ c ih =>
    intro i f hf he
    obtain ⟨g, rfl⟩ : ∃ g, f = g + 1 := ⟨f - 1, by omega⟩
    rw [X8_sheetsOf_L4, if_neg (by rw [nle (by omega) (by omega)]; omega), lt_eq, nmul_r, nadd_r]
    exact ih (i + 1) g (by omega) (by omega)
theorem X8_sheetsOf_n {σ : Mem} {n : Nat} (hn : n ≤ 8) : X8_sheetsOf σ (nI n) = some (σ, nI (6 ^ n)) := by
  unfold X8_sheetsOf
  have := X8_sheetsOf_L (σ := σ) (kk := fun s y => some (s, y)) hn n 0 FU (fu_gt (by omega)) (by omega)
  rw [nI_0] at this
  exact this
theorem X8_layNumber_L {kk : Mem → Option (Mem × Unit)} : ∀ (j f N : Nat) (σ : Mem), j < f → j ≤ 8 → N < 2147483648 → ∃ τ, X8_layNumber_L12 kk f σ (nI N) (nI j - 1) = kk τ ∧ Fr (fun c _ => c = 815) σ τ ∧ Cel (fun i => τ.1 815 0 i) (sh j N) ∧ ∀ i, j ≤ i → τ.1 815 0 i = σ.1 815 0 i := by
  intro j
  induction j with
  | zero =>
    intro f N σ hf hj hN
    obtain ⟨g, rfl⟩ : ∃ g, f = g + 1 := ⟨f - 1, by omega⟩
    refine ⟨σ, ?_, Fr.rf, fun i hi => by simp [sh] at hi, fun _ _ => rfl⟩
    rw [X8_layNumber_L12, if_pos i32_m1]
  | succ j ih =>
    intro f N σ hf hj hN
    obtain ⟨g, rfl⟩ : ∃ g, f = g + 1 := ⟨f - 1, by omega⟩
    have e0 : nI (j + 1) - 1 = nI j := by rw [nsub_r (by show 1 ≤ j + 1; omega)]; rfl
    have fr : Fr (fun c _ => c = 815) σ (uI σ 815 0 j (nI (N % 6))) := Fr.uI rfl
    obtain ⟨τ, t1, t2, t3, t4⟩ := ih g (N / 6) (uI σ 815 0 j (nI (N % 6))) (by omega) (by omega) (by omega)
    refine ⟨τ, ?_, fr.tr t2, ?_, fun i hi => ?_⟩
    · have d6 : nI N / (6 : Int32) = nI (N / 6) := pk_div hN (d := 6) (by decide) (by decide)
      have r6 : nI N - nI N / (6 : Int32) * (6 : Int32) = nI (N % 6) := pk_rem hN (d := 6) (by decide) (by decide)
      rw [e0, X8_layNumber_L12, if_neg (nnlt0 (by omega)), if_neg (show ¬ (6 : Int32) = 0 by decide), ck_n (by omega) (by decide), if_neg (show ¬ (6 : Int32) = 0 by decide), lt_eq, r6, d6, ncl (by omega), sub_neg1]
      exact t1
    · rw [sh]
      refine Cel.sn t3 ?_
      rw [sh_len]
      show τ.1 815 0 j = _
      rw [t4 j (Nat.le_refl _)]
      simp [uI_1]
    · rw [t4 i (by omega)]
      have : ¬ i = j := by omega
      simp [uI_1, this]
theorem X8_layNumber_n {σ : Mem} {n N : Nat} (hn : n ≤ 8) (hN : N < 2147483648) : ∃ τ, X8_layNumber σ (nI n) (nI N) = some (τ, ()) ∧ Fr (fun c _ => c = 815 ∨ c = 816) σ τ ∧ Sh8 τ (sh n N) := by
  have fr : Fr (fun c _ => c = 815 ∨ c = 816) σ (uI σ 816 0 0 (nI n)) := Fr.uI (Or.inr rfl)
  obtain ⟨τ, t1, t2, t3, t4⟩ := X8_layNumber_L (kk := fun s => some (s, ())) n FU N (uI σ 816 0 0 (nI n)) (fu_gt (by omega)) hn hN
  refine ⟨τ, ?_, fr.tr (t2.mono fun _ _ => Or.inl), by rw [t2.i (by decide), sh_len]; simp [uI_1], by rw [sh_len]; exact hn, sh_sg n N, t3⟩
  unfold X8_layNumber
  rw [lt_eq]
  exact t1
theorem p6 {n : Nat} (h : n ≤ 6) : 6 ^ n ≤ 46656 := by
  have : 6 ^ n ≤ 6 ^ 6 := Nat.pow_le_pow_right (by decide) h
  have e : (6 : Nat) ^ 6 = 46656 := by decide
  omega
theorem X8_meant_L {r n m nn : Nat} {T : Nat → Nat → Int32} {o : List Nat} {kk : Mem → Int32 → Option (Mem × Int32)} (hT : TV T nn) (hm : m < 2147483648) (hr : r < 6) (hn : n ≤ 6) (ho : Sg o) : ∀ (c i f a : Nat) (σ : Mem), c < f → i + c = 6 ^ n → ML8 σ nn T → Rw8 σ r o → ∃ τ, X8_meant_L40 (nI r) (nI n) (nI m) kk f σ (nI a) (nI i) = kk τ (nI (a + cn (fun N => decide (outS T nn m (sh n N) = o)) c i)) ∧ Fr S8 σ τ := by
  have h6 := p6 hn
  intro c
  induction c with
  | zero =>
    intro i f a σ hf he hM hR
    obtain ⟨g, rfl⟩ : ∃ g, f = g + 1 := ⟨f - 1, by omega⟩
    refine ⟨σ, ?_, Fr.rf⟩
    rw [X8_meant_L40, X8_sheetsOf_n (by omega), Option.bind_some]
    dsimp only
    rw [if_pos (by rw [nle (by omega) (by omega)]; omega)]
    rfl
  | succ c ih =>
    intro i f a σ hf he hM hR
    obtain ⟨g, rfl⟩ : ∃ g, f = g + 1 := ⟨f - 1, by omega⟩
    obtain ⟨σ1, u1, u2, u3⟩ := X8_layNumber_n (σ := σ) (n := n) (N := i) (by omega) (by omega)
    have u2' : Fr S8 σ σ1 := u2.mono fun _ _ => s8_56
    obtain ⟨σ2, v1, v2, v3⟩ := X8_setBy_n (m := m) (hM.s8 u2') hT hm u3
    have f2 : Fr S8 σ σ2 := u2'.tr (v2.mono fun _ _ => s8_78)
    have v4 := X8_isOut_n hr v3 (hR.s8 f2) ho
    obtain ⟨τ, t1, t2⟩ := ih (i + 1) g (a + if decide (outS T nn m (sh n i) = o) = true then 1 else 0) σ2 (by omega) (by omega) (hM.s8 f2) (hR.s8 f2)
    refine ⟨τ, ?_, f2.tr t2⟩
    rw [X8_meant_L40, X8_sheetsOf_n (by omega), Option.bind_some]
    dsimp only
    rw [if_neg (by rw [nle (by omega) (by omega)]; omega), u1, Option.bind_some]
    dsimp only
    rw [v1, Option.bind_some]
    dsimp only
    rw [v4, Option.bind_some]
    dsimp only
    rw [cn, ← Nat.add_assoc]
    cases hd : decide (outS T nn m (sh n i) = o) with
    | true =>
      rw [hd] at t1
      rw [bI_t, if_neg one_ne0, lt_eq, nadd_r, nadd_r]
      exact t1
    | false =>
      rw [hd] at t1
      rw [bI_f, if_pos rfl, lt_eq, nadd_r, nadd_r]
      exact t1
