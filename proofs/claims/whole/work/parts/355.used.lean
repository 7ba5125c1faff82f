/-! sets of signs -/
def Hc (a : Nat) : Nat := [12297829382473034410, 14757395258967641292, 17361641481138401520, 18374966859414961920, 18446462603027742720, 18446744069414584320].getD a 0
theorem HVV_n : ∀ a, a < 6 → HVV a = lN (Hc a) := by decide
theorem Hc_lt : ∀ a, a < 6 → Hc a < 18446744073709551616 := by decide
theorem Hc_bit : ∀ a, a < 6 → ∀ w, w < 64 → (Hc a).testBit w = w.testBit a ∧ (Hc a ^^^ 18446744073709551615).testBit w = !w.testBit a ∧ (decide (2 ^ a ≤ w) && !(w - 2 ^ a).testBit a) = w.testBit a ∧ (w ||| 2 ^ a) < 64 ∧ (w ||| 2 ^ a).testBit a = true ∧ (w = w ||| 2 ^ a ∨ w = (w ||| 2 ^ a) - 2 ^ a) ∧ (w.testBit a = true → w ||| 2 ^ a = w ∧ (w - 2 ^ a) ||| 2 ^ a = w) := by decide +kernel
theorem m1_lN : (-1 : Int64) = lN 18446744073709551615 := by decide
def adS (a B : Nat) : Nat := (B &&& Hc a) ||| ((B &&& (Hc a ^^^ 18446744073709551615)) * 2 ^ (2 ^ a) % 2 ^ 64)
theorem adS_lt {a B : Nat} (hB : B < 2 ^ 64) : adS a B < 2 ^ 64 := Nat.or_lt_two_pow (Nat.lt_of_le_of_lt Nat.and_le_left hB) (Nat.mod_lt _ (by decide))
theorem adS_bit {a B w : Nat} (ha : a < 6) (hw : w < 64) : (adS a B).testBit w = (w.testBit a && (B.testBit w || B.testBit (w - 2 ^ a))) := by
  obtain ⟨h1, h2, h3, -⟩ := Hc_bit a ha w hw
  have h4 := (Hc_bit a ha (w - 2 ^ a) (Nat.lt_of_le_of_lt (Nat.sub_le _ _) hw)).2.1
  unfold adS
  rw [Nat.testBit_or, Nat.testBit_and, h1, Nat.testBit_mod_two_pow, ← Nat.shiftLeft_eq, Nat.testBit_shiftLeft, Nat.testBit_and, h4, decide_eq_true hw, Bool.true_and]
  rw [← h3]
  cases B.testBit w <;> cases B.testBit (w - 2 ^ a) <;> cases (w - 2 ^ a).testBit a <;> cases decide (2 ^ a ≤ w) <;> cases hd : decide (w ≥ 2 ^ a) <;> simp_all
theorem adS_ex {a B w : Nat} (ha : a < 6) (hw : w < 64) : (adS a B).testBit w = true ↔ ∃ v, v < 64 ∧ B.testBit v = true ∧ v ||| 2 ^ a = w := by
  rw [adS_bit ha hw]
  constructor
  · intro h
    simp only [Bool.and_eq_true, Bool.or_eq_true] at h
    obtain ⟨h1, h2⟩ := h
    obtain ⟨g1, g2⟩ := (Hc_bit a ha w hw).2.2.2.2.2.2 h1
    rcases h2 with h2 | h2
    · exact ⟨w, hw, h2, g1⟩
    · exact ⟨w - 2 ^ a, Nat.lt_of_le_of_lt (Nat.sub_le _ _) hw, h2, g2⟩
  · rintro ⟨v, hv, h1, rfl⟩
    obtain ⟨-, -, -, -, g1, g2, -⟩ := Hc_bit a ha v hv
    rw [g1, Bool.true_and]
    rcases g2 with g2 | g2
    · rw [← g2, h1, Bool.true_or]
    · rw [← g2, h1, Bool.or_true]
theorem lN_xor2 (a b : Nat) : lN a ^^^ lN b = lN (a ^^^ b) := Int64.toBitVec_inj.mp (BitVec.eq_of_toNat_eq (by
  show (BitVec.ofNat 64 a ^^^ BitVec.ofNat 64 b).toNat = (BitVec.ofNat 64 (a ^^^ b)).toNat
  rw [BitVec.toNat_xor, BitVec.toNat_ofNat, BitVec.toNat_ofNat, BitVec.toNat_ofNat, Nat.xor_mod_two_pow]))
theorem X6_withSign_n {σ : Mem} {a B : Nat} (ha : a < 6) (hB : B < 2 ^ 64) : X6_withSign σ (lN B) (nI a) (HVV a) = some (σ, lN (adS a B)) := by
  have p2 : 2 ^ a < 64 := by
    have : 2 ^ a < 2 ^ 6 := Nat.pow_lt_pow_right (by decide) ha
    exact this
  have hH := Hc_lt a ha
  unfold X6_withSign adS
  rw [HVV_n a ha, m1_lN, lN_xor2, one_shl (by omega), wb_and hB hH, wb_and hB (Nat.xor_lt_two_pow (n := 64) hH (by decide)), wb_shl _ p2, wb_mod ((B &&& (Hc a ^^^ 18446744073709551615)) * 2 ^ 2 ^ a), wb_or (Nat.lt_of_le_of_lt Nat.and_le_left hB) (Nat.mod_lt _ (by decide))]
/-! in which signs sheets are written -/
def msk : List Nat → Nat
  | [] => 0
  | a :: t => msk t ||| 2 ^ a
theorem msk_snoc : ∀ (l : List Nat) (v : Nat), msk (l ++ [v]) = msk l ||| 2 ^ v := by
  intro l
  induction l with
  | nil => intro v; simp [msk]
  | cons a t ih =>
    intro v
    show msk (t ++ [v]) ||| 2 ^ a = (msk t ||| 2 ^ a) ||| 2 ^ v
    rw [ih, Nat.or_assoc, Nat.or_comm (2 ^ v), ← Nat.or_assoc]
theorem msk_lt : ∀ (l : List Nat), Sg l → msk l < 64 := by
  intro l
  induction l with
  | nil => intro _; decide
  | cons a t ih =>
    intro h
    have h1 : a < 6 := h a List.mem_cons_self
    have h2 := ih (fun v hv => h v (List.mem_cons_of_mem _ hv))
    exact (Hc_bit a h1 (msk t) h2).2.2.2.1
def orF (g : Nat → Nat) : Nat → Nat → Nat
  | 0, _ => 0
  | c + 1, i => g i ||| orF g c (i + 1)
theorem orF_bit {g : Nat → Nat} {w : Nat} : ∀ c i, (orF g c i).testBit w = true ↔ ∃ j, i ≤ j ∧ j < i + c ∧ (g j).testBit w = true := by
  intro c
  induction c with
  | zero =>
    intro i
    rw [orF, Nat.zero_testBit]
    exact ⟨fun h => by (cases h), fun ⟨j, h1, h2, _⟩ => by omega⟩
  | succ c ih =>
    intro i
    rw [orF, Nat.testBit_or, Bool.or_eq_true, ih]
    constructor
    · rintro (h | ⟨j, h1, h2, h3⟩)
      · exact ⟨i, by omega, by omega, h⟩
      · exact ⟨j, by omega, by omega, h3⟩
    · rintro ⟨j, h1, h2, h3⟩
      by_cases e : j = i
      · subst e; exact Or.inl h3
      · exact Or.inr ⟨j, by omega, by omega, h3⟩
theorem orF_lt {g : Nat → Nat} : ∀ c i, (∀ j, i ≤ j → j < i + c → g j < 2 ^ 64) → orF g c i < 2 ^ 64 := by
  intro c
  induction c with
  | zero => intro i _; exact Nat.two_pow_pos 64
  | succ c ih =>
    intro i h
    rw [orF]
    exact Nat.or_lt_two_pow (h i (by omega) (by omega)) (ih (i + 1) (fun j h1 h2 => h j (by omega) (by omega)))
def us (pc : Nat → Nat → List Nat) (o : List Nat) : Nat → Nat → Nat → Nat
  | 0, _, _ => 0
  | 1, a, p => adS a (if pa pc o a 6 p = some o.length then 1 else 0)
  | k + 2, a, p => adS a (orF (fun b => match pa pc o a b p with
    | none => 0
    | some q => us pc o (k + 1) b q) 6 0)
theorem us_lt {pc : Nat → Nat → List Nat} {o : List Nat} : ∀ k a p, us pc o k a p < 2 ^ 64 := by
  intro k
  match k with
  | 0 => intro a p; exact Nat.two_pow_pos 64
  | 1 =>
    intro a p
    rw [us]
    exact adS_lt (by split <;> decide)
  | k + 2 =>
    intro a p
    have ih := us_lt (pc := pc) (o := o) (k + 1)
    rw [us]
    refine adS_lt (orF_lt 6 0 (fun b _ _ => ?_))
    cases pa pc o a b p with
    | none => exact Nat.two_pow_pos 64
    | some q => exact ih b q
theorem us_bit {pc : Nat → Nat → List Nat} {o : List Nat} : ∀ k a p w, a < 6 → p ≤ o.length → w < 64 → ((us pc o (k + 1) a p).testBit w = true ↔ ∃ N, N < 6 ^ k ∧ ou pc (a :: sh k N) = o.drop p ∧ msk (a :: sh k N) = w) := by
  intro k
  induction k with
  | zero =>
    intro a p w ha hp hw
    rw [us, adS_ex ha hw]
    constructor
    · rintro ⟨v, hv, h1, h2⟩
      by_cases q : pa pc o a 6 p = some o.length
      · rw [if_pos q] at h1
        have : v = 0 := by
          rw [Nat.testBit_one_eq_true_iff_self_eq_zero] at h1
          exact h1
        subst this
        exact ⟨0, by decide, (ou_one hp).mpr q, h2⟩
      · rw [if_neg q, Nat.zero_testBit] at h1
        cases h1
    · rintro ⟨N, -, h1, h2⟩
      refine ⟨0, by decide, ?_, h2⟩
      rw [if_pos ((ou_one hp).mp h1)]
      rfl
  | succ k ih =>
    intro a p w ha hp hw
    rw [us, adS_ex ha hw]
    constructor
    · rintro ⟨v, hv, h1, h2⟩
      rw [orF_bit] at h1
      obtain ⟨b, -, hb, h3⟩ := h1
      have hb6 : b < 6 := by omega
      cases hq : pa pc o a b p with
      | none =>
        rw [hq] at h3
        dsimp only at h3
        rw [Nat.zero_testBit] at h3
        cases h3
      | some q =>
        rw [hq] at h3
        obtain ⟨N, n1, n2, n3⟩ := (ih b q v hb6 (pa_le hq) hv).mp h3
        refine ⟨b * 6 ^ k + N, ?_, ?_, ?_⟩
        · rw [Nat.pow_succ]
          have : b * 6 ^ k ≤ 5 * 6 ^ k := Nat.mul_le_mul_right _ (by omega)
          omega
        · rw [sh_cons k b N hb6 n1]
          exact (ou_two hp).mpr ⟨q, hq, n2⟩
        · rw [sh_cons k b N hb6 n1]
          show msk (b :: sh k N) ||| 2 ^ a = w
          rw [n3, h2]
    · rintro ⟨N, n1, n2, n3⟩
      have hb6 : N / 6 ^ k < 6 := by
        rw [Nat.pow_succ] at n1
        exact Nat.div_lt_of_lt_mul n1
      have hM : N % 6 ^ k < 6 ^ k := Nat.mod_lt _ (Nat.pow_pos (by decide))
      have eN : N = N / 6 ^ k * 6 ^ k + N % 6 ^ k := by rw [Nat.mul_comm]; exact (Nat.div_add_mod N (6 ^ k)).symm
      generalize N / 6 ^ k = b at hb6 eN
      generalize N % 6 ^ k = M at hM eN
      subst eN
      rw [sh_cons k b M hb6 hM] at n2 n3
      obtain ⟨q, hq, n4⟩ := (ou_two hp).mp n2
      have sgB : Sg (b :: sh k M) := by
        have := sh_sg (k + 1) (b * 6 ^ k + M)
        rw [sh_cons k b M hb6 hM] at this
        exact this
      refine ⟨msk (b :: sh k M), msk_lt _ sgB, ?_, n3⟩
      rw [orF_bit]
      refine ⟨b, by omega, by omega, ?_⟩
      rw [hq]
      exact (ih b q _ hb6 (pa_le hq) (msk_lt _ sgB)).mpr ⟨M, hM, n4, rfl⟩
/-! the class's -/
def USa (σ : Mem) (pc : Nat → Nat → List Nat) (o : List Nat) (s : Nat) : Prop := ∀ s' a p, 1 ≤ s' → s' ≤ s → a < 6 → p ≤ o.length → σ.2.1 602 0 ((s' * 6 + a) * 17 + p) = lN (us pc o s' a p)
theorem X6_used30_1 {σ : Mem} {a p : Int32} {kk : Mem → Int64 → Option (Mem × Int64)} {v : Int64} : X6_usedFrom_L30 (nI 1) a p kk FU σ v 0 = kk σ v := by
  rw [show FU = 99999 + 1 from rfl, X6_usedFrom_L30, if_neg (by decide), if_pos (by decide)]
theorem X6_used30_L {σ : Mem} {pc : Nat → Nat → List Nat} {o : List Nat} {a p s : Nat} {kk : Mem → Int64 → Option (Mem × Int64)} (hpc : PcOK pc) (hK : KNw σ pc) (hA : AM σ o) (ha : a < 6) (hp : p ≤ o.length) (hs : s + 2 ≤ 6) (hW : USa σ pc o (s + 1)) : ∀ (c b f B : Nat), c < f → b + c = 6 → B < 2 ^ 64 → X6_usedFrom_L30 (nI (s + 2)) (nI a) (nI p) kk f σ (lN B) (nI b) = kk σ (lN (B ||| orF (fun b => match pa pc o a b p with | none => 0 | some q => us pc o (s + 1) b q) c b)) := by
  have h16 := hA.2.2.1
  intro c
  induction c with
  | zero =>
    intro b f B hf he hB
    obtain ⟨g, rfl⟩ : ∃ g, f = g + 1 := ⟨f - 1, by omega⟩
    rw [X6_usedFrom_L30, if_pos (by rw [nle_l (by omega) (by decide)]; omega), orF, Nat.or_zero]
  | succ c ih =>
    intro b f B hf he hB
    obtain ⟨g, rfl⟩ : ∃ g, f = g + 1 := ⟨f - 1, by omega⟩
    rw [X6_usedFrom_L30, if_neg (by rw [nle_l (by omega) (by decide)]; omega), if_neg (by rw [nle_r (by omega) (by decide)]; show ¬ s + 2 ≤ 1; omega), X6_placeAfter_n hpc hK hA ha (by omega) hp, Option.bind_some, orF]
    dsimp only
    cases hq : pa pc o a b p with
    | none =>
      rw [show chI none = -9 from rfl, if_pos rfl, lt_eq, lz64, wb_or hB (by decide), Nat.or_zero, nadd_r, ih (b + 1) g _ (by omega) (by omega) hB, Nat.zero_or]
    | some q =>
      have hq2 := pa_le hq
      have hu := us_lt (pc := pc) (o := o) (s + 1) b q
      rw [show chI (some q) = nI q from rfl, if_neg (nne_neg (by omega) (by decide)), nsub_r (by show 1 ≤ s + 2; omega)]
      show ((X6_wayOf σ (nI (s + 1)) (nI b) (nI q)).bind _) = _
      rw [X6_wayOf_n (by omega) (by omega) (by omega), Option.bind_some]
      dsimp only
      rw [ck_n (by omega) (by decide), lt_eq, ncl (by omega), hW (s + 1) b q (by omega) (by omega) (by omega) hq2, wb_or hB hu, nadd_r, ih (b + 1) g _ (by omega) (by omega) (Nat.or_lt_two_pow hB hu), Nat.or_assoc]
theorem X6_usedFrom_n {σ : Mem} {pc : Nat → Nat → List Nat} {o : List Nat} {a p s : Nat} (hpc : PcOK pc) (hK : KNw σ pc) (hA : AM σ o) (ha : a < 6) (hp : p ≤ o.length) (hs : s + 1 ≤ 6) (hW : USa σ pc o s) : X6_usedFrom σ (nI (s + 1)) (nI a) (nI p) = some (σ, lN (us pc o (s + 1) a p)) := by
  have h16 := hA.2.2.1
  have a6 : ¬ (6 : Int32) ≤ nI a := by rw [nle_l (by omega) (by decide)]; show ¬ 6 ≤ a; omega
  have fin : ∀ B : Nat, B < 2 ^ 64 → (if (6 : Int32) ≤ nI a then (some (σ, lN B)) else (ck (nI a) 6 <| (X6_withSign σ (lN B) (nI a) ((HVV (nI a).toNatClampNeg))).bind fun q9 => (some (q9.1, q9.2)))) = some (σ, lN (adS a B)) := by
    intro B hB
    rw [if_neg a6, ck_n ha (by decide), ncl (by omega), X6_withSign_n ha hB]
    rfl
  unfold X6_usedFrom
  cases s with
  | zero =>
    rw [if_pos (show nI (0 + 1) = 1 from rfl), show (6 : Int32) = nI 6 from rfl, X6_placeAfter_n hpc hK hA ha (by omega) hp, Option.bind_some]
    dsimp only
    rw [hA.2.1, us, show nI (0 + 1) = nI 1 from rfl, X6_used30_1, X6_used30_1]
    have e : (chI (pa pc o a 6 p) = nI o.length) ↔ pa pc o a 6 p = some o.length := chI_eq (by omega) (fun j hj => by have := pa_le hj; omega)
    by_cases q : pa pc o a 6 p = some o.length
    · rw [if_pos (e.mpr q), if_pos q]
      exact fin 1 (by decide)
    · rw [if_neg (fun w => q (e.mp w)), if_neg q]
      exact fin 0 (by decide)
  | succ s =>
    rw [if_neg (by rw [neq_r (by omega) (by decide)]; show ¬ s + 1 + 1 = 1; omega)]
    have L := X6_used30_L (kk := fun (s8 : Mem) (y4_7 : Int64) => (if (6 : Int32) ≤ nI a then (some (s8, y4_7)) else (ck (nI a) 6 <| (X6_withSign s8 y4_7 (nI a) ((HVV (nI a).toNatClampNeg))).bind fun q9 => (some (q9.1, q9.2))))) hpc hK hA ha hp (s := s) (by omega) hW 6 0 FU 0 (fu_gt (by decide)) (by decide) (by decide)
    rw [nI_0, Nat.zero_or, ← lz64] at L
    rw [us]
    refine Eq.trans L ?_
    refine fin _ (orF_lt 6 0 (fun b _ _ => ?_))
    cases pa pc o a b p with
    | none => exact Nat.two_pow_pos 64
    | some q => exact us_lt _ _ _
theorem X6_uf48_L {pc : Nat → Nat → List Nat} {o : List Nat} {a s : Nat} {x3 : Int64} {kk : Mem → Option (Mem × Int64)} (hpc : PcOK pc) (ha : a < 6) (hs : s + 1 ≤ 6) : ∀ (c p f : Nat) (σ : Mem), c < f → p + c = o.length + 1 → KNw σ pc → AM σ o → USa σ pc o s → ∃ τ, X6_usedFor_L48 x3 (nI (s + 1)) (nI a) kk f σ (nI p) = kk τ ∧ Fr P602 σ τ ∧ (∀ y, p ≤ y → y ≤ o.length → τ.2.1 602 0 (((s + 1) * 6 + a) * 17 + y) = lN (us pc o (s + 1) a y)) ∧ ∀ y, y < ((s + 1) * 6 + a) * 17 + p → τ.2.1 602 0 y = σ.2.1 602 0 y := by
  intro c
  induction c with
  | zero =>
    intro p f σ hf he hK hA hW
    obtain ⟨g, rfl⟩ : ∃ g, f = g + 1 := ⟨f - 1, by omega⟩
    have h16 := hA.2.2.1
    refine ⟨σ, ?_, Fr.rf, fun y h1 h2 => by omega, fun y _ => rfl⟩
    rw [X6_usedFor_L48, hA.2.1, if_pos (by rw [nlt (by omega) (by omega)]; omega)]
  | succ c ih =>
    intro p f σ hf he hK hA hW
    obtain ⟨g, rfl⟩ : ∃ g, f = g + 1 := ⟨f - 1, by omega⟩
    have h16 := hA.2.2.1
    obtain ⟨σ1, e1⟩ : ∃ σ1, σ1 = uJ σ 602 0 (((s + 1) * 6 + a) * 17 + p) (lN (us pc o (s + 1) a p)) := ⟨_, rfl⟩
    have f1 : Fr P602 σ σ1 := by rw [e1]; exact Fr.uJ rfl
    have c0 : ∀ y, σ1.2.1 602 0 y = if y = ((s + 1) * 6 + a) * 17 + p then lN (us pc o (s + 1) a p) else σ.2.1 602 0 y := fun y => by rw [e1]; simp [uJ_2]
    obtain ⟨τ, t1, t2, t3, t4⟩ := ih (p + 1) g σ1 (by omega) (by omega) (hK.fr f1 (by unfold P602; omega) (by unfold P602; omega)) (hA.fr f1 (by unfold P602; omega) (by unfold P602; omega)) (fun s' a' p' h1 h2 h3 h4 => by rw [c0, if_neg (by omega)]; exact hW s' a' p' h1 h2 h3 h4)
    refine ⟨τ, ?_, f1.tr t2, fun y h1 h2 => ?_, fun y hy => ?_⟩
    · rw [X6_usedFor_L48, hA.2.1, if_neg (by rw [nlt (by omega) (by omega)]; omega), X6_wayOf_n (by omega) ha (by omega), Option.bind_some]
      dsimp only
      rw [X6_usedFrom_n hpc hK hA ha (by omega) hs hW, Option.bind_some]
      dsimp only
      rw [ck_n (by omega) (by decide), ncl (by omega), ← e1, nadd_r]
      exact t1
    · by_cases w : y = p
      · subst w
        rw [t4 _ (by omega), c0, if_pos rfl]
      · exact t3 y (by omega) h2
    · rw [t4 y (by omega), c0, if_neg (by omega)]
theorem X6_uf38_L {pc : Nat → Nat → List Nat} {o : List Nat} {s : Nat} {kk : Mem → Int64 → Option (Mem × Int64)} (hpc : PcOK pc) (hs : s + 1 ≤ 6) : ∀ (c a f B : Nat) (σ : Mem), c < f → a + c = 6 → B < 2 ^ 64 → KNw σ pc → AM σ o → USa σ pc o s → (∀ x y, x < a → y ≤ o.length → σ.2.1 602 0 (((s + 1) * 6 + x) * 17 + y) = lN (us pc o (s + 1) x y)) → ∃ τ, X6_usedFor_L38 (nI (s + 1)) kk f σ (lN B) (nI a) = kk τ (lN (B ||| orF (fun a => us pc o (s + 1) a 0) c a)) ∧ Fr P602 σ τ ∧ USa τ pc o (s + 1) := by
  intro c
  induction c with
  | zero =>
    intro a f B σ hf he hB hK hA hW hD
    obtain ⟨g, rfl⟩ : ∃ g, f = g + 1 := ⟨f - 1, by omega⟩
    refine ⟨σ, ?_, Fr.rf, fun s' x y h1 h2 h3 h4 => ?_⟩
    · rw [X6_usedFor_L38, if_pos (by rw [nle_l (by omega) (by decide)]; omega), orF, Nat.or_zero]
    · by_cases w : s' = s + 1
      · subst w; exact hD x y (by omega) h4
      · exact hW s' x y h1 (by omega) h3 h4
  | succ c ih =>
    intro a f B σ hf he hB hK hA hW hD
    obtain ⟨g, rfl⟩ : ∃ g, f = g + 1 := ⟨f - 1, by omega⟩
    have h16 := hA.2.2.1
    have hu := us_lt (pc := pc) (o := o) (s + 1) a 0
    obtain ⟨σ1, u1, u2, u3, u4⟩ := X6_uf48_L (x3 := lN B) (a := a) (kk := fun (s6 : Mem) => ((X6_wayOf s6 (nI (s + 1)) (nI a) (0 : Int32)).bind fun q7 => ck q7.2 714 <| lt_ ((lN B ||| (q7.1.2.1 602 0 q7.2.toNatClampNeg))) fun (v8 : Int64) => X6_usedFor_L38 (nI (s + 1)) kk g q7.1 v8 ((nI a + (1 : Int32))))) hpc (by omega) hs (o.length + 1) 0 FU σ (fu_gt (by omega)) (by omega) hK hA hW
    obtain ⟨τ, t1, t2, t3⟩ := ih (a + 1) g (B ||| us pc o (s + 1) a 0) σ1 (by omega) (by omega) (Nat.or_lt_two_pow hB hu) (hK.fr u2 (by unfold P602; omega) (by unfold P602; omega)) (hA.fr u2 (by unfold P602; omega) (by unfold P602; omega)) (fun s' a' p' h1 h2 h3 h4 => by rw [u4 _ (by omega)]; exact hW s' a' p' h1 h2 h3 h4) (fun x y hx hy => by
      by_cases w : x = a
      · subst w; exact u3 y (by omega) hy
      · rw [u4 _ (by omega)]; exact hD x y (by omega) hy)
    refine ⟨τ, ?_, u2.tr t2, t3⟩
    have h0 := u3 0 (by omega) (Nat.zero_le _)
    rw [Nat.add_zero] at h0
    rw [nI_0] at u1
    rw [X6_usedFor_L38, if_neg (by rw [nle_l (by omega) (by decide)]; omega)]
    refine Eq.trans u1 ?_
    rw [show (0 : Int32) = nI 0 from rfl, X6_wayOf_n (by omega) (by omega) (by omega), Option.bind_some, Nat.add_zero]
    dsimp only
    rw [ck_n (by omega) (by decide), lt_eq, ncl (by omega), h0, wb_or hB hu, nadd_r, orF, ← Nat.or_assoc]
    exact t1
def usA (pc : Nat → Nat → List Nat) (o : List Nat) : Nat → Nat → Nat → Nat
  | 0, _, B => B
  | c + 1, s, B => usA pc o c (s + 1) (B ||| orF (fun a => us pc o (s + 1) a 0) 6 0)
theorem X6_uf29_L {pc : Nat → Nat → List Nat} {o : List Nat} {kk : Mem → Int64 → Option (Mem × Int64)} (hpc : PcOK pc) : ∀ (c s f B : Nat) (σ : Mem), c < f → s + c = 4 → B < 2 ^ 64 → KNw σ pc → AM σ o → USa σ pc o s → ∃ τ, X6_usedFor_L29 kk f σ (lN B) (nI (s + 1)) = kk τ (lN (usA pc o c s B)) ∧ Fr P602 σ τ := by
  intro c
  induction c with
  | zero =>
    intro s f B σ hf he hB hK hA hW
    obtain ⟨g, rfl⟩ : ∃ g, f = g + 1 := ⟨f - 1, by omega⟩
    refine ⟨σ, ?_, Fr.rf⟩
    rw [X6_usedFor_L29, if_pos (by rw [nlt_l (by omega) (by decide)]; omega)]
    rfl
  | succ c ih =>
    intro s f B σ hf he hB hK hA hW
    obtain ⟨g, rfl⟩ : ∃ g, f = g + 1 := ⟨f - 1, by omega⟩
    obtain ⟨σ1, u1, u2, u3⟩ := X6_uf38_L (s := s) (kk := fun (s11 : Mem) (y3_10 : Int64) => (X6_usedFor_L29 kk g s11 y3_10 ((nI (s + 1) + (1 : Int32))))) hpc (by omega) 6 0 FU B σ (fu_gt (by decide)) (by decide) hB hK hA hW (fun x y h => by omega)
    obtain ⟨τ, t1, t2⟩ := ih (s + 1) g (B ||| orF (fun a => us pc o (s + 1) a 0) 6 0) σ1 (by omega) (by omega) (Nat.or_lt_two_pow hB (orF_lt 6 0 (fun j _ _ => us_lt _ _ _))) (hK.fr u2 (by unfold P602; omega) (by unfold P602; omega)) (hA.fr u2 (by unfold P602; omega) (by unfold P602; omega)) u3
    refine ⟨τ, ?_, u2.tr t2⟩
    rw [nI_0, nadd_r] at u1
    rw [X6_usedFor_L29, if_neg (by rw [nlt_l (by omega) (by decide)]; omega), nadd_r]
    exact u1.trans t1
theorem X6_usedFor_n {σ : Mem} {pc : Nat → Nat → List Nat} {o : List Nat} (hpc : PcOK pc) (hK : KNw σ pc) (ho : Sg o) (h16 : o.length ≤ 16) : ∃ τ, X6_usedFor σ (lN (pkN o)) = some (τ, lN (usA pc o 4 0 (if o.length = 0 then 1 else 0))) ∧ Fr P624 σ τ := by
  obtain ⟨σ1, e1⟩ : ∃ σ1, σ1 = uI (uJ σ 604 0 0 (lN (pkN o))) 605 0 0 (nI o.length) := ⟨_, rfl⟩
  have f1 : Fr P624 σ σ1 := by rw [e1]; exact (Fr.uJ (Or.inr (Or.inl rfl))).tr (Fr.uI (Or.inr (Or.inr rfl)))
  have hA : AM σ1 o := ⟨by rw [e1]; simp [uI_2, uJ_2], by rw [e1]; simp [uI_1], h16, ho⟩
  have hK1 : KNw σ1 pc := hK.fr f1 (by unfold P624; omega) (by unfold P624; omega)
  obtain ⟨τ, t1, t2⟩ := X6_uf29_L (kk := fun s12 y => some (s12, y)) hpc 4 0 FU (if o.length = 0 then 1 else 0) σ1 (fu_gt (by decide)) (by decide) (by split <;> decide) hK1 hA (fun s' a p h1 h2 => by omega)
  refine ⟨τ, ?_, f1.tr (t2.mono fun _ _ => Or.inl)⟩
  unfold X6_usedFor
  rw [X7_signsIn_n ho h16, Option.bind_some, ← e1, hA.2.1]
  by_cases q : o.length = 0
  · rw [if_pos q] at t1
    rw [if_pos (by rw [q]; rfl), if_pos q]
    exact t1
  · rw [if_neg q] at t1
    rw [if_neg (nI_ne0 (by omega) (by omega)), if_neg q]
    exact t1
/-- sheets of up to 4 signs are written in just these and come out so -/
def Uw (pc : Nat → Nat → List Nat) (o : List Nat) (w : Nat) : Prop := ∃ n, n < 5 ∧ ∃ N, N < 6 ^ n ∧ msk (sh n N) = w ∧ ou pc (sh n N) = o
theorem usA_bit {pc : Nat → Nat → List Nat} {o : List Nat} {w : Nat} (hw : w < 64) : ∀ c s B, ((usA pc o c s B).testBit w = true ↔ B.testBit w = true ∨ ∃ k, s ≤ k ∧ k < s + c ∧ ∃ N, N < 6 ^ (k + 1) ∧ msk (sh (k + 1) N) = w ∧ ou pc (sh (k + 1) N) = o) := by
  intro c
  induction c with
  | zero =>
    intro s B
    exact ⟨fun h => Or.inl h, fun h => by
      rcases h with h | ⟨k, h1, h2, -⟩
      · exact h
      · omega⟩
  | succ c ih =>
    intro s B
    rw [usA, ih, Nat.testBit_or, Bool.or_eq_true, orF_bit]
    have key : (∃ j, 0 ≤ j ∧ j < 0 + 6 ∧ (us pc o (s + 1) j 0).testBit w = true) ↔ ∃ N, N < 6 ^ (s + 1) ∧ msk (sh (s + 1) N) = w ∧ ou pc (sh (s + 1) N) = o := by
      constructor
      · rintro ⟨b, -, hb, h3⟩
        have hb6 : b < 6 := by omega
        obtain ⟨N, n1, n2, n3⟩ := (us_bit s b 0 w hb6 (Nat.zero_le _) hw).mp h3
        refine ⟨b * 6 ^ s + N, ?_, ?_, ?_⟩
        · rw [Nat.pow_succ]
          have : b * 6 ^ s ≤ 5 * 6 ^ s := Nat.mul_le_mul_right _ (by omega)
          omega
        · rw [sh_cons s b N hb6 n1]; exact n3
        · rw [sh_cons s b N hb6 n1]; exact n2
      · rintro ⟨N, n1, n2, n3⟩
        have hb6 : N / 6 ^ s < 6 := by
          rw [Nat.pow_succ] at n1
          exact Nat.div_lt_of_lt_mul n1
        have hM : N % 6 ^ s < 6 ^ s := Nat.mod_lt _ (Nat.pow_pos (by decide))
        have eN : N = N / 6 ^ s * 6 ^ s + N % 6 ^ s := by rw [Nat.mul_comm]; exact (Nat.div_add_mod N (6 ^ s)).symm
        generalize N / 6 ^ s = b at hb6 eN
        generalize N % 6 ^ s = M at hM eN
        subst eN
        rw [sh_cons s b M hb6 hM] at n2 n3
        exact ⟨b, by omega, by omega, (us_bit s b 0 w hb6 (Nat.zero_le _) hw).mpr ⟨M, hM, n3, n2⟩⟩
    rw [key]
    constructor
    · rintro ((h | h) | ⟨k, h1, h2, h3⟩)
      · exact Or.inl h
      · exact Or.inr ⟨s, by omega, by omega, h⟩
      · exact Or.inr ⟨k, by omega, by omega, h3⟩
    · rintro (h | ⟨k, h1, h2, h3⟩)
      · exact Or.inl (Or.inl h)
      · by_cases e : k = s
        · subst e; exact Or.inl (Or.inr h3)
        · exact Or.inr ⟨k, by omega, by omega, h3⟩
theorem used_bit {pc : Nat → Nat → List Nat} {o : List Nat} {w : Nat} (hw : w < 64) : (usA pc o 4 0 (if o.length = 0 then 1 else 0)).testBit w = true ↔ Uw pc o w := by
  rw [usA_bit hw]
  constructor
  · rintro (h | ⟨k, -, h2, N, n1, n2, n3⟩)
    · by_cases q : o.length = 0
      · rw [if_pos q] at h
        have : w = 0 := by
          rw [Nat.testBit_one_eq_true_iff_self_eq_zero] at h
          exact h
        subst this
        exact ⟨0, by decide, 0, by decide, rfl, (List.eq_nil_of_length_eq_zero q).symm⟩
      · rw [if_neg q, Nat.zero_testBit] at h
        cases h
    · exact ⟨k + 1, by omega, N, n1, n2, n3⟩
  · rintro ⟨n, h1, N, n1, n2, n3⟩
    cases n with
    | zero =>
      left
      have eo : o = [] := n3.symm
      rw [if_pos (by rw [eo]; rfl)]
      have : w = 0 := n2.symm
      rw [this]
      rfl
    | succ k => exact Or.inr ⟨k, by omega, by omega, N, n1, n2, n3⟩
theorem usA_lt {pc : Nat → Nat → List Nat} {o : List Nat} : ∀ c s B, B < 2 ^ 64 → usA pc o c s B < 2 ^ 64 := by
  intro c
  induction c with
  | zero => intro s B h; exact h
  | succ c ih => intro s B h; exact ih _ _ (Nat.or_lt_two_pow h (orF_lt 6 0 (fun j _ _ => us_lt _ _ _)))
