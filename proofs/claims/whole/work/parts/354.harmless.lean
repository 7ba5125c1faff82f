/-! harmless -/
def fre (st : Nat) (l : List Nat) : Bool := l.all (fun v => !st.testBit v)
theorem fre_app {st : Nat} {l r : List Nat} : fre st (l ++ r) = (fre st l && fre st r) := by
  unfold fre
  rw [List.all_append]
def eW (pc : Nat → Nat → List Nat) (st : Nat) : Nat → Nat → Nat
  | 0, _ => 0
  | 1, a => if fre st (pc a 6) = true then 1 else 0
  | k + 2, a => sm (fun b => if fre st (pc a b) = true then eW pc st (k + 1) b else 0) 6 0
theorem eW_cn {pc : Nat → Nat → List Nat} {st : Nat} : ∀ k a, a < 6 → cn (fun N => fre st (ou pc (a :: sh k N))) (6 ^ k) 0 = eW pc st (k + 1) a := by
  intro k
  induction k with
  | zero =>
    intro a ha
    show (if fre st (ou pc [a]) = true then 1 else 0) + 0 = eW pc st 1 a
    rw [eW, show ou pc [a] = pc a 6 ++ [] from rfl, List.append_nil, Nat.add_zero]
  | succ k ih =>
    intro a ha
    have e := cn_blk (P := fun N => fre st (ou pc (a :: sh (k + 1) N))) (K := 6 ^ k) 6 0
    rw [Nat.zero_mul] at e
    rw [Nat.pow_succ, Nat.mul_comm, e, eW]
    refine sm_cg 6 0 (fun b _ hb => ?_)
    have hb6 : b < 6 := by omega
    have e2 : cn (fun M => fre st (ou pc (a :: sh (k + 1) (b * 6 ^ k + M)))) (6 ^ k) 0 = cn (fun M => fre st (pc a b) && fre st (ou pc (b :: sh k M))) (6 ^ k) 0 := by
      refine cn_cg _ _ (fun M _ hM => ?_)
      rw [sh_cons k b M hb6 (by omega), ou, fre_app]
      rfl
    rw [e2]
    cases hq : fre st (pc a b) with
    | false =>
      rw [if_neg (by decide)]
      exact cn_no _ _ (fun M _ _ => rfl)
    | true =>
      rw [if_pos rfl, ← ih b hb6]
      refine cn_cg _ _ (fun M _ _ => by rw [Bool.true_and])
def eWA (pc : Nat → Nat → List Nat) (st n : Nat) : Nat := match n with
  | 0 => 1
  | k + 1 => sm (fun a => eW pc st (k + 1) a) 6 0
theorem eWA_cn {pc : Nat → Nat → List Nat} {st : Nat} : ∀ n, cn (fun N => fre st (ou pc (sh n N))) (6 ^ n) 0 = eWA pc st n := by
  intro n
  cases n with
  | zero => rfl
  | succ k =>
    have e := cn_blk (P := fun N => fre st (ou pc (sh (k + 1) N))) (K := 6 ^ k) 6 0
    rw [Nat.zero_mul] at e
    rw [Nat.pow_succ, Nat.mul_comm, e, eWA]
    refine sm_cg 6 0 (fun b _ hb => ?_)
    have hb6 : b < 6 := by omega
    rw [← eW_cn k b hb6]
    refine cn_cg _ _ (fun M _ hM => ?_)
    rw [sh_cons k b M hb6 (by omega)]
theorem eWA_le {pc : Nat → Nat → List Nat} {st n : Nat} (hn : n ≤ 6) : eWA pc st n ≤ 46656 := by
  rw [← eWA_cn]
  have := p6 hn
  have := cn_le (p := fun N => fre st (ou pc (sh n N))) (6 ^ n) 0
  omega
theorem tb2 {st v : Nat} : 2 * st / 2 ^ (v + 1) % 2 = if st.testBit v = true then 1 else 0 := by
  rw [Nat.pow_succ, Nat.mul_comm (2 ^ v) 2, Nat.mul_div_mul_left _ _ (by decide), tb_div]
  have : st / 2 ^ v % 2 < 2 := Nat.mod_lt _ (by decide)
  by_cases q : st / 2 ^ v % 2 = 1
  · simp [q]
  · simp [q]; omega
theorem X6_isWithout_n {σ : Mem} {pc : Nat → Nat → List Nat} {st a b : Nat} (hpc : PcOK pc) (hK : KNw σ pc) (hst : st < 64) (ha : a < 6) (hb : b < 7) : X6_isWithout σ (nI st) (nI a) (nI b) = some (σ, bI (fre st (pc a b))) := by
  obtain ⟨k1, k2⟩ := hK a b ha hb
  obtain ⟨l1, l2⟩ := hpc a b ha hb
  have q1 := pkN_lt48 l2 (by omega)
  have es : nI st <<< ((1 : Int32) &&& 31) = nI (2 * st) := by
    have := pk_shlN (n := st) ((1 : Int32) &&& 31) 1 (by decide) (by omega)
    rw [this]
    congr 1
    omega
  have e7 : ∀ x : Nat, x < 281474976710656 → (lN x &&& (7 : Int64)).toInt32 = nI (x % 8) := fun x hx => by
    rw [show (7 : Int64) = lN (2 ^ 3 - 1) from rfl, wb_mask (by omega) (by decide), l32 (by omega)]
  have dv : pkN (pc a b) / 8 ≤ pkN (pc a b) := Nat.div_le_self _ _
  have g : ∀ x : Nat, x < 8 → (((nI (2 * st)) >>> (nI x &&& 31)) &&& (1 : Int32)) = nI (2 * st / 2 ^ x % 2) := fun x hx => bit7 (by omega) (by omega)
  unfold X6_isWithout
  rw [X6_pieceOf_n ha hb, Option.bind_some]
  dsimp only
  rw [ck_n (by omega) (by decide), lt_eq, ncl (by omega), k1, es, shr3 (by omega), e7 _ (by omega), e7 _ (by omega), g _ (Nat.mod_lt _ (by decide)), g _ (Nat.mod_lt _ (by decide)), b1, b0]
  have z0 : 2 * st / 2 ^ 0 % 2 = 0 := by rw [Nat.pow_zero, Nat.div_one]; omega
  have fin : ∀ x y : Nat, x < 2 → y < 2 → (if nI x = 0 then (if nI y = 0 then some (σ, (1 : Int32)) else some (σ, 0)) else some (σ, 0)) = some (σ, bI (decide (x = 0) && decide (y = 0))) := by
    intro x y hx hy
    match x, hx, y, hy with
    | 0, _, 0, _ => rfl
    | 0, _, 1, _ => rfl
    | 1, _, 0, _ => rfl
    | 1, _, 1, _ => rfl
    | x + 2, h, _, _ => omega
    | _, _, y + 2, h => omega
  rw [fin _ _ (Nat.mod_lt _ (by decide)) (Nat.mod_lt _ (by decide))]
  congr 3
  match hl : pc a b, l1, l2 with
  | [], _, _ =>
    show (decide (2 * st / 2 ^ (0 % 8) % 2 = 0) && decide (2 * st / 2 ^ (0 / 8 % 8) % 2 = 0)) = true
    rw [Nat.zero_mod, z0]
    rfl
  | [v], _, l2 =>
    have hv : v < 6 := l2 v (by simp)
    have e1 : pkN [v] = v + 1 := by simp [pkN]
    rw [e1, show (v + 1) % 8 = v + 1 by omega, show (v + 1) / 8 % 8 = 0 by omega, z0, tb2]
    unfold fre
    cases h1 : st.testBit v <;> simp [h1]
  | [u, v], _, l2 =>
    have hu : u < 6 := l2 u (by simp)
    have hv : v < 6 := l2 v (by simp)
    have e1 : pkN [u, v] = 8 * (u + 1) + (v + 1) := by simp [pkN]
    rw [e1, show (8 * (u + 1) + (v + 1)) % 8 = v + 1 by omega, show (8 * (u + 1) + (v + 1)) / 8 % 8 = u + 1 by omega, tb2, tb2]
    unfold fre
    cases h1 : st.testBit v <;> cases h2 : st.testBit u <;> simp [h1, h2]
  | u :: v :: w :: t, l1, _ => simp at l1
theorem X6_endOf_n {σ : Mem} {s a : Nat} (hs : s ≤ 6) (ha : a < 6) : X6_endOf σ (nI s) (nI a) = some (σ, nI (s * 6 + a)) := by
  unfold X6_endOf
  rw [lt_eq, nmul_r, nadd]
  show (if nI (s * 6 + a) < 0 then _ else _) = _
  rw [if_neg (nnlt0 (by omega)), if_neg (by rw [nle_l (by omega) (by decide)]; omega)]
def EWa (σ : Mem) (pc : Nat → Nat → List Nat) (st s : Nat) : Prop := ∀ s' a, 1 ≤ s' → s' ≤ s → a < 6 → σ.1 603 0 (s' * 6 + a) = nI (eW pc st s' a)
theorem X6_ends28_L {σ : Mem} {pc : Nat → Nat → List Nat} {st a s : Nat} {kk : Mem → Int32 → Option (Mem × Int32)} (hpc : PcOK pc) (hK : KNw σ pc) (hst : st < 64) (ha : a < 6) (hs : s + 2 ≤ 6) (hW : EWa σ pc st (s + 1)) : ∀ (c b f A : Nat), c < f → b + c = 6 → X6_endsWithout_L28 (nI st) (nI (s + 2)) (nI a) kk f σ (nI A) (nI b) = kk σ (nI (A + sm (fun b => if fre st (pc a b) = true then eW pc st (s + 1) b else 0) c b)) := by
  intro c
  induction c with
  | zero =>
    intro b f A hf he
    obtain ⟨g, rfl⟩ : ∃ g, f = g + 1 := ⟨f - 1, by omega⟩
    rw [X6_endsWithout_L28, if_pos (by rw [nle_l (by omega) (by decide)]; omega)]
    rfl
  | succ c ih =>
    intro b f A hf he
    obtain ⟨g, rfl⟩ : ∃ g, f = g + 1 := ⟨f - 1, by omega⟩
    rw [X6_endsWithout_L28, if_neg (by rw [nle_l (by omega) (by decide)]; omega), X6_isWithout_n hpc hK hst ha (by omega), Option.bind_some, sm]
    dsimp only
    cases hq : fre st (pc a b) with
    | false =>
      rw [bI_f, if_pos rfl, lt_eq, nadd_r, nadd_r, ih (b + 1) g _ (by omega) (by omega)]
      simp
    | true =>
      rw [bI_t, if_neg one_ne0, nsub_r (by show 1 ≤ s + 2; omega)]
      show ((X6_endOf σ (nI (s + 1)) (nI b)).bind _) = _
      rw [X6_endOf_n (by omega) (by omega), Option.bind_some]
      dsimp only
      rw [ck_n (by omega) (by decide), lt_eq, ncl (by omega), hW (s + 1) b (by omega) (by omega) (by omega), nadd, nadd_r, ih (b + 1) g _ (by omega) (by omega), if_pos rfl, Nat.add_assoc]
theorem X6_endsWithout_n {σ : Mem} {pc : Nat → Nat → List Nat} {st a s : Nat} (hpc : PcOK pc) (hK : KNw σ pc) (hst : st < 64) (ha : a < 6) (hs : s + 1 ≤ 6) (hW : EWa σ pc st s) : X6_endsWithout σ (nI st) (nI (s + 1)) (nI a) = some (σ, nI (eW pc st (s + 1) a)) := by
  unfold X6_endsWithout
  cases s with
  | zero =>
    rw [if_pos (show nI (0 + 1) = 1 from rfl), show (6 : Int32) = nI 6 from rfl, X6_isWithout_n hpc hK hst ha (by omega), Option.bind_some]
    dsimp only
    rw [eW]
    cases fre st (pc a 6) <;> rfl
  | succ s =>
    rw [if_neg (by rw [neq_r (by omega) (by decide)]; show ¬ s + 1 + 1 = 1; omega)]
    have L := X6_ends28_L (kk := fun s8 y => some (s8, y)) hpc hK hst ha (s := s) (by omega) hW 6 0 FU 0 (fu_gt (by decide)) (by decide)
    rw [nI_0, Nat.zero_add] at L
    rw [eW]
    exact L
def P603 (c _k : Nat) : Prop := c = 603
theorem X6_mw29_L {pc : Nat → Nat → List Nat} {st s : Nat} {x2 : Int32} {kk : Mem → Int32 → Option (Mem × Int32)} (hpc : PcOK pc) (hst : st < 64) (hs : s + 1 ≤ 6) : ∀ (c a f A : Nat) (σ : Mem), c < f → a + c = 6 → KNw σ pc → EWa σ pc st s → (∀ x, x < a → σ.1 603 0 ((s + 1) * 6 + x) = nI (eW pc st (s + 1) x)) → ∃ τ, X6_manyWithout_L29 (nI st) x2 (nI (s + 1)) kk f σ (nI A) (nI a) = kk τ (nI (A + sm (fun a => eW pc st (s + 1) a) c a)) ∧ Fr P603 σ τ ∧ EWa τ pc st (s + 1) := by
  intro c
  induction c with
  | zero =>
    intro a f A σ hf he hK hW hD
    obtain ⟨g, rfl⟩ : ∃ g, f = g + 1 := ⟨f - 1, by omega⟩
    refine ⟨σ, ?_, Fr.rf, fun s' x h1 h2 h3 => ?_⟩
    · rw [X6_manyWithout_L29, if_pos (by rw [nle_l (by omega) (by decide)]; omega)]
      rfl
    · by_cases w : s' = s + 1
      · subst w; exact hD x (by omega)
      · exact hW s' x h1 (by omega) h3
  | succ c ih =>
    intro a f A σ hf he hK hW hD
    obtain ⟨g, rfl⟩ : ∃ g, f = g + 1 := ⟨f - 1, by omega⟩
    obtain ⟨σ1, e1⟩ : ∃ σ1, σ1 = uI σ 603 0 ((s + 1) * 6 + a) (nI (eW pc st (s + 1) a)) := ⟨_, rfl⟩
    have f1 : Fr P603 σ σ1 := by rw [e1]; exact Fr.uI rfl
    have c0 : ∀ y, σ1.1 603 0 y = if y = (s + 1) * 6 + a then nI (eW pc st (s + 1) a) else σ.1 603 0 y := fun y => by rw [e1]; simp [uI_1]
    obtain ⟨τ, t1, t2, t3⟩ := ih (a + 1) g (A + eW pc st (s + 1) a) σ1 (by omega) (by omega) (hK.fr f1 (by unfold P603; omega) (by unfold P603; omega)) (fun s' x h1 h2 h3 => by rw [c0, if_neg (by omega)]; exact hW s' x h1 h2 h3) (fun x hx => by
      rw [c0]
      by_cases w : x = a
      · subst w; rw [if_pos rfl]
      · rw [if_neg (by omega)]; exact hD x (by omega))
    refine ⟨τ, ?_, f1.tr t2, t3⟩
    rw [X6_manyWithout_L29, if_neg (by rw [nle_l (by omega) (by decide)]; omega), X6_endOf_n (by omega) (by omega), Option.bind_some]
    dsimp only
    rw [X6_endsWithout_n hpc hK hst (by omega) hs hW, Option.bind_some]
    dsimp only
    rw [ck_n (by omega) (by decide), ncl (by omega), ← e1, X6_endOf_n (by omega) (by omega), Option.bind_some]
    dsimp only
    rw [ck_n (by omega) (by decide), lt_eq, ncl (by omega), c0, if_pos rfl, nadd, nadd_r, sm, ← Nat.add_assoc]
    exact t1
theorem X6_mw11_L {pc : Nat → Nat → List Nat} {st N : Nat} {kk : Mem → Int32 → Option (Mem × Int32)} (hpc : PcOK pc) (hst : st < 64) (hN : N ≤ 6) : ∀ (c s f : Nat) (A : Int32) (σ : Mem), c < f → s + c = N → KNw σ pc → EWa σ pc st s → (1 ≤ s → A = nI (eWA pc st s)) → 1 ≤ N → ∃ τ, X6_manyWithout_L11 (nI st) (nI N) kk f σ A (nI (s + 1)) = kk τ (nI (eWA pc st N)) ∧ Fr P603 σ τ := by
  intro c
  induction c with
  | zero =>
    intro s f A σ hf he hK hW hA hN1
    obtain ⟨g, rfl⟩ : ∃ g, f = g + 1 := ⟨f - 1, by omega⟩
    have : s = N := by omega
    subst this
    refine ⟨σ, ?_, Fr.rf⟩
    rw [X6_manyWithout_L11, if_pos (by rw [nlt (by omega) (by omega)]; omega), hA hN1]
  | succ c ih =>
    intro s f A σ hf he hK hW hA hN1
    obtain ⟨g, rfl⟩ : ∃ g, f = g + 1 := ⟨f - 1, by omega⟩
    obtain ⟨σ1, u1, u2, u3⟩ := X6_mw29_L (x2 := nI N) (s := s) (kk := fun (s7 : Mem) (y3_6 : Int32) => (X6_manyWithout_L11 (nI st) (nI N) kk g s7 y3_6 ((nI (s + 1) + (1 : Int32))))) hpc hst (by omega) 6 0 FU 0 σ (fu_gt (by decide)) (by decide) hK hW (fun x hx => by omega)
    obtain ⟨τ, t1, t2⟩ := ih (s + 1) g (nI (eWA pc st (s + 1))) σ1 (by omega) (by omega) (hK.fr u2 (by unfold P603; omega) (by unfold P603; omega)) u3 (fun _ => rfl) hN1
    refine ⟨τ, ?_, u2.tr t2⟩
    rw [nI_0, Nat.zero_add, nadd_r] at u1
    rw [X6_manyWithout_L11, if_neg (by rw [nlt (by omega) (by omega)]; omega), if_neg (by rw [nlt_l (by omega) (by decide)]; omega), nadd_r]
    exact u1.trans t1
theorem X6_manyWithout_n {σ : Mem} {pc : Nat → Nat → List Nat} {st N : Nat} (hpc : PcOK pc) (hK : KNw σ pc) (hst : st < 64) (hN : N ≤ 6) : ∃ τ, X6_manyWithout σ (nI st) (nI N) = some (τ, nI (eWA pc st N)) ∧ Fr P603 σ τ := by
  unfold X6_manyWithout
  cases N with
  | zero => exact ⟨σ, by rw [if_pos (show nI 0 = 0 from rfl)]; rfl, Fr.rf⟩
  | succ k =>
    obtain ⟨τ, t1, t2⟩ := X6_mw11_L (kk := fun s10 y => some (s10, y)) hpc hst hN (k + 1) 0 FU 0 σ (fu_gt (by omega)) (by omega) hK (fun s' a h1 h2 => by omega) (fun h => by omega) (by omega)
    refine ⟨τ, ?_, t2⟩
    rw [if_neg (nI_ne0 (by omega) (by omega))]
    exact t1
/-! the model's -/
theorem X8_harm60_0 {x1 x2 x3 x4 x5 : Int32} {N : Nat} {kk : Mem → Int32 → Option (Mem × Int32)} {σ : Mem} (hN : N ≤ 16) (h1 : σ.1 818 0 0 = nI N) : ∀ (c i f : Nat), c < f → i + c = N → X8_harmless_L60 x1 x2 x3 x4 x5 kk f σ 0 (nI i) = kk σ 0 := by
  intro c
  induction c with
  | zero =>
    intro i f hf he
    obtain ⟨g, rfl⟩ : ∃ g, f = g + 1 := ⟨f - 1, by omega⟩
    rw [X8_harmless_L60, h1, if_pos (by rw [nle (by omega) (by omega)]; omega)]
  | succ c ih =>
    intro i f hf he
    obtain ⟨g, rfl⟩ : ∃ g, f = g + 1 := ⟨f - 1, by omega⟩
    rw [X8_harmless_L60, h1, if_neg (by rw [nle (by omega) (by omega)]; omega), if_pos rfl, nadd_r]
    exact ih (i + 1) g (by omega) (by omega)
theorem X8_harm60_L {x2 x3 x4 x5 : Int32} {st : Nat} {o : List Nat} {kk : Mem → Int32 → Option (Mem × Int32)} {σ : Mem} (hst : st < 64) (hO : Ou8 σ o) : ∀ (rest pre : List Nat) (f : Nat), o = pre ++ rest → rest.length < f → X8_harmless_L60 (nI st) x2 x3 x4 x5 kk f σ 1 (nI pre.length) = kk σ (bI (fre st rest)) := by
  obtain ⟨o1, o2, o3, o4⟩ := hO
  intro rest
  induction rest with
  | nil =>
    intro pre f hs hf
    obtain ⟨g, rfl⟩ : ∃ g, f = g + 1 := ⟨f - 1, by omega⟩
    have hl : o.length = pre.length := by rw [hs]; simp
    rw [X8_harmless_L60, o1, if_pos (by rw [nle (by omega) (by omega)]; omega)]
    rfl
  | cons a t ih =>
    intro pre f hs hf
    obtain ⟨g, rfl⟩ : ∃ g, f = g + 1 := ⟨f - 1, by omega⟩
    have hl : o.length = pre.length + (t.length + 1) := by rw [hs]; simp
    have ha : a < 6 := o3 a (by rw [hs]; simp)
    have e1 : σ.1 817 0 pre.length = nI a := by
      have := o4 pre.length (by omega)
      rw [hs, getD_app] at this
      exact this
    rw [X8_harmless_L60, o1, if_neg (by rw [nle (by omega) (by omega)]; omega), if_neg one_ne0, ck_n (by omega) (by decide), ncl (by omega), e1, X8_has_n (by omega) (by omega), Option.bind_some]
    dsimp only
    have ef : fre st (a :: t) = (!st.testBit a && fre st t) := by simp [fre]
    rw [ef]
    cases hb : st.testBit a with
    | true =>
      rw [if_pos rfl, if_neg one_ne0, nadd_r]
      exact X8_harm60_0 o2 o1 t.length (pre.length + 1) g (by simp at hf; omega) (by omega)
    | false =>
      show (if (0 : Int32) = 0 then _ else _) = _
      rw [if_pos rfl, nadd_r]
      have := ih (pre ++ [a]) g (by rw [hs]; simp) (by simp at hf; omega)
      simpa using this
theorem X8_harm33_L {st n m nn : Nat} {T : Nat → Nat → Int32} {kk : Mem → Int32 → Option (Mem × Int32)} (hT : TV T nn) (hm : m < 2147483648) (hst : st < 64) (hn : n ≤ 6) : ∀ (c i f a : Nat) (σ : Mem), c < f → i + c = 6 ^ n → ML8 σ nn T → ∃ τ, X8_harmless_L33 (nI st) (nI n) (nI m) kk f σ (nI a) (nI i) = kk τ (nI (a + cn (fun N => fre st (outS T nn m (sh n N))) c i)) ∧ Fr S8 σ τ := by
  have h6 := p6 hn
  intro c
  induction c with
  | zero =>
    intro i f a σ hf he hM
    obtain ⟨g, rfl⟩ : ∃ g, f = g + 1 := ⟨f - 1, by omega⟩
    refine ⟨σ, ?_, Fr.rf⟩
    rw [X8_harmless_L33, X8_sheetsOf_n (by omega), Option.bind_some]
    dsimp only
    rw [if_pos (by rw [nle (by omega) (by omega)]; omega)]
    rfl
  | succ c ih =>
    intro i f a σ hf he hM
    obtain ⟨g, rfl⟩ : ∃ g, f = g + 1 := ⟨f - 1, by omega⟩
    obtain ⟨σ1, u1, u2, u3⟩ := X8_layNumber_n (σ := σ) (n := n) (N := i) (by omega) (by omega)
    have u2' : Fr S8 σ σ1 := u2.mono fun _ _ => s8_56
    obtain ⟨σ2, v1, v2, v3⟩ := X8_setBy_n (m := m) (hM.s8 u2') hT hm u3
    have f2 : Fr S8 σ σ2 := u2'.tr (v2.mono fun _ _ => s8_78)
    have h16 := v3.2.1
    have L := X8_harm60_L (x2 := nI n) (x3 := nI m) (x4 := nI a) (x5 := nI i) (kk := fun (s12 : Mem) (y6_11 : Int32) => (if y6_11 = 0 then (lt_ ((nI a + (0 : Int32))) fun (v13 : Int32) => X8_harmless_L33 (nI st) (nI n) (nI m) kk g s12 v13 ((nI i + (1 : Int32)))) else ((lt_ ((nI a + (1 : Int32))) fun (v15 : Int32) => X8_harmless_L33 (nI st) (nI n) (nI m) kk g s12 v15 ((nI i + (1 : Int32))))))) hst v3 (outS T nn m (sh n i)) [] FU rfl (fu_gt (by omega))
    obtain ⟨τ, t1, t2⟩ := ih (i + 1) g (a + if fre st (outS T nn m (sh n i)) = true then 1 else 0) σ2 (by omega) (by omega) (hM.s8 f2)
    refine ⟨τ, ?_, f2.tr t2⟩
    rw [X8_harmless_L33, X8_sheetsOf_n (by omega), Option.bind_some]
    dsimp only
    rw [if_neg (by rw [nle (by omega) (by omega)]; omega), u1, Option.bind_some]
    dsimp only
    rw [v1, Option.bind_some]
    refine Eq.trans L ?_
    rw [cn, ← Nat.add_assoc]
    cases hd : fre st (outS T nn m (sh n i)) with
    | true =>
      rw [hd] at t1
      rw [bI_t, if_neg one_ne0, lt_eq, nadd_r, nadd_r]
      exact t1
    | false =>
      rw [hd] at t1
      rw [bI_f, if_pos rfl, lt_eq, nadd_r, nadd_r]
      exact t1
theorem op_harmless {σ : Mem} (h : Rel σ) (a c : Int32) : Both (fun σ => X7_harmless σ a c) (fun σ => X8_harmless σ a c) σ := by
  rcases to_n a 63 (by decide) with ha | ⟨st, hst, rfl, ha1, ha2⟩
  · refine Both.mk' (σ1 := σ) (σ2 := σ) (r := -1) ?_ ?_ h
    · show X7_harmless _ _ _ = _
      unfold X7_harmless
      by_cases q : a < 0
      · rw [if_pos q]
      · rw [if_neg q, if_pos (show (64 : Int32) ≤ a by
          rcases ha with ha | ha
          · exact absurd ha q
          · rw [Int32.le_iff_toInt_le] at ha ⊢
            have e1 : (64 : Int32).toInt = 64 := rfl
            have e2 : (nI 63).toInt = 63 := rfl
            omega)]
    · show X8_harmless _ _ _ = _
      unfold X8_harmless
      rw [in_bad (show a < 0 ∨ (63 : Int32) < a by rcases ha with ha | ha; exact Or.inl ha; exact Or.inr (i32_nle2.mp ha))]
      rfl
  have a64 : ¬ (64 : Int32) ≤ nI st := by rw [nle_l (by omega) (by decide)]; show ¬ 64 ≤ st; omega
  have ina : ∀ σ : Mem, X8_in σ (nI st) 0 63 = some (σ, 1) := fun σ => in_ok ha1 (by rw [i32_nlt]; exact ha2)
  rcases to_n c 6 (by decide) with hc | ⟨N, hN, rfl, hc1, hc2⟩
  · refine Both.mk' (σ1 := σ) (σ2 := σ) (r := -1) ?_ ?_ h
    · show X7_harmless _ _ _ = _
      unfold X7_harmless
      rw [if_neg ha1, if_neg a64]
      rcases hc with hc | hc
      · rw [if_pos hc]
      · by_cases q : c < 0
        · rw [if_pos q]
        · rw [if_neg q, if_neg (show ¬ c ≤ 6 from hc)]
    · show X8_harmless _ _ _ = _
      unfold X8_harmless
      rw [ina, Option.bind_some]
      show (if (1 : Int32) = 0 then _ else _) = _
      rw [if_neg one_ne0, in_bad (show c < 0 ∨ (6 : Int32) < c by rcases hc with hc | hc; exact Or.inl hc; exact Or.inr (i32_nle2.mp hc))]
      rfl
  have hin : ∀ σ : Mem, X8_in σ (nI N) 0 6 = some (σ, 1) := fun σ => in_ok hc1 (by rw [i32_nlt]; exact hc2)
  obtain ⟨n, T, hP, hM, hT, hn⟩ := h.laws
  have on := onM_256 (T := T) hn
  have hpc := pcS_PcOK (m := onM T n) hT
  obtain ⟨σ1, u1, u2, u3⟩ := X6_know_n hT hP
  obtain ⟨σ2, v1, v2⟩ := X6_manyWithout_n hpc u3 (show st < 64 by omega) hN
  have hA := eWA_le (pc := pcS T n (onM T n)) (st := st) hN
  have v7 := X7_tell_n (σ := σ2) (A := eWA (pcS T n (onM T n)) st N) (B := 1) (by omega) (by decide) (by decide)
  have q8 : ∀ c, 800 ≤ c → ∀ j, (tel7 σ2 (eWA (pcS T n (onM T n)) st N) 1).1 c 0 j = σ.1 c 0 j := fun c hc j => by
    show σ2.1 c 0 j = _
    rw [v2.i (by unfold P603; omega), u2.i (by unfold P60; omega)]
  have tM : ML8 (tel7 σ2 (eWA (pcS T n (onM T n)) st N) 1) n T := ⟨by rw [q8 810 (by omega)]; exact hM.1, hM.2.1, fun k hk f hf => by rw [q8 811 (by omega)]; exact hM.2.2 k hk f hf⟩
  obtain ⟨τ, t1, t2⟩ := X8_harm33_L (m := onM T n) (kk := fun (s18 : Mem) (y4_17 : Int32) => ((X8_part s18 (y4_17.toInt64) (1 : Int64)).bind fun q19 => some (q19.1, q19.2))) hT (by omega) (show st < 64 by omega) hN (6 ^ N) 0 FU 0 _ (fu_gt (by have := p6 hN; omega)) (by omega) tM
  have ec : cn (fun M => fre st (outS T n (onM T n) (sh N M))) (6 ^ N) 0 = eWA (pcS T n (onM T n)) st N := by
    rw [← eWA_cn]
    refine cn_cg _ _ (fun M _ _ => ?_)
    rw [outS_ou]
  rw [Nat.zero_add, ec, nI_l (by omega), show (1 : Int64) = lN 1 from rfl, X8_part_n (by omega) (by decide) (by decide), Option.bind_some, nI_0] at t1
  refine Both.mk' (σ1 := tel7 σ2 (eWA (pcS T n (onM T n)) st N) 1) (σ2 := prt8 τ (eWA (pcS T n (onM T n)) st N) 1) (r := 1) ?_ ?_ ?_
  · show X7_harmless _ _ _ = _
    unfold X7_harmless
    rw [if_neg ha1, if_neg a64, if_neg hc1, if_pos (show nI N ≤ 6 from hc2), u1, Option.bind_some]
    dsimp only
    rw [v1, Option.bind_some]
    dsimp only
    rw [nI_l (by omega), show (1 : Int64) = lN 1 from rfl, v7]
    rfl
  · show X8_harmless _ _ _ = _
    unfold X8_harmless
    rw [ina, Option.bind_some]
    show (if (1 : Int32) = 0 then _ else _) = _
    rw [if_neg one_ne0, hin, Option.bind_some]
    show (if (1 : Int32) = 0 then _ else _) = _
    rw [if_neg one_ne0]
    show (X8_onSet (tel7 σ2 (eWA (pcS T n (onM T n)) st N) 1)).bind _ = _
    rw [X8_onSet_n tM, Option.bind_some]
    exact t1
  · refine Rel_prt h ((u2.mono fun c k q => Or.inl ?_).tr (v2.mono fun c k q => Or.inl ?_)) (t2.mono fun _ _ q => q.scr)
    · rcases q with rfl | rfl <;> decide
    · rw [show c = 603 from q]; decide
