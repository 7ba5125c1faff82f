/-! numbers: Int32 by nI, literals too -/
theorem nl (n : Nat) : (OfNat.ofNat n : Int32) = nI (OfNat.ofNat n : Nat) := rfl
theorem nL (n : Nat) : (OfNat.ofNat n : Int64) = lN (OfNat.ofNat n : Nat) := rfl
theorem nlt {a b : Nat} (ha : a < 2147483648) (hb : b < 2147483648) : (nI a < nI b) ↔ a < b := nI_ltI ha hb
theorem nle {a b : Nat} (ha : a < 2147483648) (hb : b < 2147483648) : (nI a ≤ nI b) ↔ a ≤ b := nI_leI ha hb
theorem neq {a b : Nat} (ha : a < 2147483648) (hb : b < 2147483648) : (nI a = nI b) ↔ a = b := nI_eq ha hb
theorem nlt_r {a n : Nat} (ha : a < 2147483648) (hn : n < 2147483648) : (nI a < (OfNat.ofNat n : Int32)) ↔ a < (OfNat.ofNat n : Nat) := nI_ltI ha hn
theorem nle_r {a n : Nat} (ha : a < 2147483648) (hn : n < 2147483648) : (nI a ≤ (OfNat.ofNat n : Int32)) ↔ a ≤ (OfNat.ofNat n : Nat) := nI_leI ha hn
theorem neq_r {a n : Nat} (ha : a < 2147483648) (hn : n < 2147483648) : (nI a = (OfNat.ofNat n : Int32)) ↔ a = (OfNat.ofNat n : Nat) := nI_eq ha hn
theorem nlt_l {a n : Nat} (ha : a < 2147483648) (hn : n < 2147483648) : ((OfNat.ofNat n : Int32) < nI a) ↔ (OfNat.ofNat n : Nat) < a := nI_ltI hn ha
theorem nle_l {a n : Nat} (ha : a < 2147483648) (hn : n < 2147483648) : ((OfNat.ofNat n : Int32) ≤ nI a) ↔ (OfNat.ofNat n : Nat) ≤ a := nI_leI hn ha
theorem neq_l {a n : Nat} (ha : a < 2147483648) (hn : n < 2147483648) : ((OfNat.ofNat n : Int32) = nI a) ↔ (OfNat.ofNat n : Nat) = a := nI_eq hn ha
theorem nadd (a b : Nat) : nI a + nI b = nI (a + b) := nI_add a b
theorem nadd_r (a n : Nat) : nI a + (OfNat.ofNat n : Int32) = nI (a + (OfNat.ofNat n : Nat)) := nI_add a n
theorem nadd_l (a n : Nat) : (OfNat.ofNat n : Int32) + nI a = nI ((OfNat.ofNat n : Nat) + a) := nI_add n a
theorem nmul (a b : Nat) : nI a * nI b = nI (a * b) := pk_mul a b
theorem nmul_r (a n : Nat) : nI a * (OfNat.ofNat n : Int32) = nI (a * (OfNat.ofNat n : Nat)) := pk_mul a n
theorem nmul_l (a n : Nat) : (OfNat.ofNat n : Int32) * nI a = nI ((OfNat.ofNat n : Nat) * a) := pk_mul n a
theorem nsub {a b : Nat} (h : b ≤ a) : nI a - nI b = nI (a - b) := pk_sub h
theorem nsub_r {a n : Nat} (h : (OfNat.ofNat n : Nat) ≤ a) : nI a - (OfNat.ofNat n : Int32) = nI (a - (OfNat.ofNat n : Nat)) := pk_sub h
theorem nsub_l {a n : Nat} (h : a ≤ (OfNat.ofNat n : Nat)) : (OfNat.ofNat n : Int32) - nI a = nI ((OfNat.ofNat n : Nat) - a) := pk_sub h
theorem ncl {a : Nat} (h : a < 2147483648) : (nI a).toNatClampNeg = a := nI_clamp h
theorem nnlt0 {a : Nat} (h : a < 2147483648) : ¬ nI a < 0 := nI_pos h
theorem ntoInt {a : Nat} (h : a < 2147483648) : (nI a).toInt = (a : Int) := nI_toInt h
/-- a number below 0 is none of these -/
theorem nne_neg {a : Nat} {x : Int32} (h : a < 2147483648) (hx : x < 0) : nI a ≠ x := fun e => nI_pos h (e ▸ hx)
theorem ck_n {α : Type} {a n : Nat} {o : Option α} (h : a < n) (hn : n < 2147483648) : ck (nI a) n o = o := by
  rw [ck, if_neg]
  rw [ncl (by omega)]
  intro q
  rcases q with q | q
  · exact nI_pos (by omega) q
  · omega
theorem i32_cases (x : Int32) : x < 0 ∨ ∃ n : Nat, n < 2147483648 ∧ x = nI n := by
  by_cases h : x < 0
  · exact Or.inl h
  · obtain ⟨j, h1, h2⟩ := nI_of h
    exact Or.inr ⟨j, h1, h2⟩
theorem i32_le0 {x : Int32} (h : x < 0) : x ≤ 0 := Int32.le_of_lt h
theorem i32_lt_nI {x : Int32} {a : Nat} (h : x < 0) (ha : a < 2147483648) : x < nI a := by
  rw [Int32.lt_iff_toInt_lt] at h ⊢
  rw [nI_toInt ha]
  have : (0 : Int32).toInt = 0 := rfl
  omega
theorem i32_nle {x : Int32} {a : Nat} (h : x < 0) (ha : a < 2147483648) : ¬ nI a ≤ x := fun q => by
  have := i32_lt_nI h ha
  rw [Int32.le_iff_toInt_le] at q
  rw [Int32.lt_iff_toInt_lt] at this
  omega
/-! memory -/
theorem uI_1 (σ : Mem) (c k j : Nat) (v : Int32) (c' k' j' : Nat) : (uI σ c k j v).1 c' k' j' = if c' = c ∧ k' = k ∧ j' = j then v else σ.1 c' k' j' := rfl
theorem uI_2 (σ : Mem) (c k j : Nat) (v : Int32) : (uI σ c k j v).2 = σ.2 := rfl
theorem uJ_1 (σ : Mem) (c k j : Nat) (v : Int64) : (uJ σ c k j v).1 = σ.1 := rfl
theorem uJ_2 (σ : Mem) (c k j : Nat) (v : Int64) (c' k' j' : Nat) : (uJ σ c k j v).2.1 c' k' j' = if c' = c ∧ k' = k ∧ j' = j then v else σ.2.1 c' k' j' := rfl
theorem uJ_3 (σ : Mem) (c k j : Nat) (v : Int64) : (uJ σ c k j v).2.2 = σ.2.2 := rfl
theorem uR_1 (σ : Mem) (c k j : Nat) (v : Option Nat) : (uR σ c k j v).1 = σ.1 := rfl
theorem uR_2 (σ : Mem) (c k j : Nat) (v : Option Nat) : (uR σ c k j v).2.1 = σ.2.1 := rfl
theorem uR_3 (σ : Mem) (c k j : Nat) (v : Option Nat) (c' k' j' : Nat) : (uR σ c k j v).2.2 c' k' j' = if c' = c ∧ k' = k ∧ j' = j then v else σ.2.2 c' k' j' := rfl
theorem aI_1 (σ : Mem) (c k : Nat) (f : Nat → Int32) (c' k' j' : Nat) : (aI σ c k f).1 c' k' j' = if c' = c ∧ k' = k then f j' else σ.1 c' k' j' := rfl
theorem aI_2 (σ : Mem) (c k : Nat) (f : Nat → Int32) : (aI σ c k f).2 = σ.2 := rfl
theorem aJ_1 (σ : Mem) (c k : Nat) (f : Nat → Int64) : (aJ σ c k f).1 = σ.1 := rfl
theorem aJ_2 (σ : Mem) (c k : Nat) (f : Nat → Int64) (c' k' j' : Nat) : (aJ σ c k f).2.1 c' k' j' = if c' = c ∧ k' = k then f j' else σ.2.1 c' k' j' := rfl
theorem aJ_3 (σ : Mem) (c k : Nat) (f : Nat → Int64) : (aJ σ c k f).2.2 = σ.2.2 := rfl
/-- nothing has changed but where P says -/
def Fr (P : Nat → Nat → Prop) (σ τ : Mem) : Prop := ∀ c k, ¬ P c k → τ.1 c k = σ.1 c k ∧ τ.2.1 c k = σ.2.1 c k ∧ τ.2.2 c k = σ.2.2 c k
theorem Fr.rf {P : Nat → Nat → Prop} {σ : Mem} : Fr P σ σ := fun _ _ _ => ⟨rfl, rfl, rfl⟩
theorem Fr.tr {P : Nat → Nat → Prop} {σ τ υ : Mem} (h1 : Fr P σ τ) (h2 : Fr P τ υ) : Fr P σ υ := fun c k h => ⟨(h2 c k h).1.trans (h1 c k h).1, (h2 c k h).2.1.trans (h1 c k h).2.1, (h2 c k h).2.2.trans (h1 c k h).2.2⟩
theorem Fr.mono {P Q : Nat → Nat → Prop} {σ τ : Mem} (h : Fr P σ τ) (hm : ∀ c k, P c k → Q c k) : Fr Q σ τ := fun c k hn => h c k (fun q => hn (hm c k q))
theorem Fr.uI {P : Nat → Nat → Prop} {σ : Mem} {c k j : Nat} {v : Int32} (h : P c k) : Fr P σ (uI σ c k j v) := fun c' k' hn => ⟨by
  funext j'
  rw [uI_1, if_neg]
  rintro ⟨rfl, rfl, -⟩
  exact hn h, rfl, rfl⟩
theorem Fr.uJ {P : Nat → Nat → Prop} {σ : Mem} {c k j : Nat} {v : Int64} (h : P c k) : Fr P σ (uJ σ c k j v) := fun c' k' hn => ⟨rfl, by
  funext j'
  rw [uJ_2, if_neg]
  rintro ⟨rfl, rfl, -⟩
  exact hn h, rfl⟩
theorem Fr.uR {P : Nat → Nat → Prop} {σ : Mem} {c k j : Nat} {v : Option Nat} (h : P c k) : Fr P σ (uR σ c k j v) := fun c' k' hn => ⟨rfl, rfl, by
  funext j'
  rw [uR_3, if_neg]
  rintro ⟨rfl, rfl, -⟩
  exact hn h⟩
theorem Fr.aI {P : Nat → Nat → Prop} {σ : Mem} {c k : Nat} {f : Nat → Int32} (h : P c k) : Fr P σ (aI σ c k f) := fun c' k' hn => ⟨by
  funext j'
  rw [aI_1, if_neg]
  rintro ⟨rfl, rfl⟩
  exact hn h, rfl, rfl⟩
theorem Fr.aJ {P : Nat → Nat → Prop} {σ : Mem} {c k : Nat} {f : Nat → Int64} (h : P c k) : Fr P σ (aJ σ c k f) := fun c' k' hn => ⟨rfl, by
  funext j'
  rw [aJ_2, if_neg]
  rintro ⟨rfl, rfl⟩
  exact hn h, rfl⟩
theorem Fr.i {P : Nat → Nat → Prop} {σ τ : Mem} (h : Fr P σ τ) {c k : Nat} (hn : ¬ P c k) (j : Nat) : τ.1 c k j = σ.1 c k j := by rw [(h c k hn).1]
theorem Fr.j {P : Nat → Nat → Prop} {σ τ : Mem} (h : Fr P σ τ) {c k : Nat} (hn : ¬ P c k) (j : Nat) : τ.2.1 c k j = σ.2.1 c k j := by rw [(h c k hn).2.1]
theorem Fr.r {P : Nat → Nat → Prop} {σ τ : Mem} (h : Fr P σ τ) {c k : Nat} (hn : ¬ P c k) (j : Nat) : τ.2.2 c k j = σ.2.2 c k j := by rw [(h c k hn).2.2]
theorem fu_gt {n : Nat} (h : n < 100000) : n < FU := h
