/-! weights -/
def vF (on f p j : Nat) : Nat := if on.testBit j = true then (if f.testBit j = true then p else 12 - p) else (if f.testBit j = true then 0 else 1)
def vP (on f p : Nat) : Nat → Nat
  | 0 => 1
  | k + 1 => vP on f p k * vF on f p k
def sm (g : Nat → Nat) : Nat → Nat → Nat
  | 0, _ => 0
  | c + 1, i => g i + sm g c (i + 1)
theorem sm_add {g : Nat → Nat} : ∀ c d i, sm g (c + d) i = sm g c i + sm g d (i + c) := by
  intro c
  induction c with
  | zero => intro d i; simp [sm]
  | succ c ih =>
    intro d i
    rw [show c + 1 + d = (c + d) + 1 by omega, sm, sm, ih, show i + 1 + c = i + (c + 1) by omega, Nat.add_assoc]
theorem sm_cg {g h : Nat → Nat} : ∀ c i, (∀ j, i ≤ j → j < i + c → g j = h j) → sm g c i = sm h c i := by
  intro c
  induction c with
  | zero => intros; rfl
  | succ c ih =>
    intro i e
    rw [sm, sm, e i (by omega) (by omega), ih (i + 1) (fun j h1 h2 => e j (by omega) (by omega))]
theorem sm_sh {g h : Nat → Nat} {d : Nat} : ∀ c i, (∀ j, i ≤ j → j < i + c → g (d + j) = h j) → sm g c (d + i) = sm h c i := by
  intro c
  induction c with
  | zero => intros; rfl
  | succ c ih =>
    intro i e
    rw [sm, sm, e i (by omega) (by omega), Nat.add_assoc, ih (i + 1) (fun j h1 h2 => e j (by omega) (by omega))]
theorem sm_mul {g : Nat → Nat} {k : Nat} : ∀ c i, sm (fun j => g j * k) c i = sm g c i * k := by
  intro c
  induction c with
  | zero => intro i; simp [sm]
  | succ c ih => intro i; rw [sm, sm, ih, Nat.add_mul]
theorem sm_le {g h : Nat → Nat} : ∀ c i, (∀ j, i ≤ j → j < i + c → g j ≤ h j) → sm g c i ≤ sm h c i := by
  intro c
  induction c with
  | zero => intros; exact Nat.le_refl _
  | succ c ih =>
    intro i e
    rw [sm, sm]
    exact Nat.add_le_add (e i (by omega) (by omega)) (ih (i + 1) (fun j h1 h2 => e j (by omega) (by omega)))
theorem sm_no {g : Nat → Nat} : ∀ c i, (∀ j, i ≤ j → j < i + c → g j = 0) → sm g c i = 0 := by
  intro c
  induction c with
  | zero => intros; rfl
  | succ c ih =>
    intro i e
    rw [sm, e i (by omega) (by omega), ih (i + 1) (fun j h1 h2 => e j (by omega) (by omega))]
theorem vP_cg {on f g p : Nat} : ∀ k, (∀ j, j < k → f.testBit j = g.testBit j) → vP on f p k = vP on g p k := by
  intro k
  induction k with
  | zero => intros; rfl
  | succ k ih =>
    intro e
    rw [vP, vP, ih (fun j hj => e j (by omega)), vF, vF, e k (by omega)]
theorem tb_lt {f k : Nat} (h : f < 2 ^ k) : f.testBit k = false := Nat.testBit_lt_two_pow h
theorem vP_sum {on p : Nat} (hp : p ≤ 12) : ∀ k, sm (fun f => vP on f p k) (2 ^ k) 0 = 12 ^ cn (fun j => on.testBit j) k 0 := by
  intro k
  induction k with
  | zero => rfl
  | succ k ih =>
    have h1 : sm (fun f => vP on f p (k + 1)) (2 ^ k) 0 = sm (fun f => vP on f p k) (2 ^ k) 0 * (if on.testBit k = true then 12 - p else 1) := by
      rw [← sm_mul]
      refine sm_cg _ _ (fun j _ hj => ?_)
      rw [vP, vF, tb_lt (show j < 2 ^ k by omega)]
      simp
    have h2 : sm (fun f => vP on f p (k + 1)) (2 ^ k) (0 + 2 ^ k) = sm (fun f => vP on f p k) (2 ^ k) 0 * (if on.testBit k = true then p else 0) := by
      rw [← sm_mul, Nat.zero_add]
      refine sm_sh (d := 2 ^ k) _ 0 (fun j _ hj => ?_)
      rw [vP, vF, Nat.testBit_two_pow_add_eq, tb_lt (show j < 2 ^ k by omega), vP_cg k (fun i hi => Nat.testBit_two_pow_add_gt hi j)]
      simp
    rw [Nat.pow_succ, Nat.mul_two, sm_add, h1, h2, ← Nat.mul_add, ih, cn_add k 1 0]
    have h3 : cn (fun j => on.testBit j) 1 (0 + k) = if on.testBit k = true then 1 else 0 := by
      simp [cn]
    rw [h3, Nat.pow_add]
    congr 1
    by_cases q : on.testBit k = true
    · rw [if_pos q, if_pos q, if_pos q]; omega
    · rw [if_neg q, if_neg q, if_neg q]
theorem sub_bits {f on : Nat} (h : f &&& on = f) (j : Nat) (hj : f.testBit j = true) : on.testBit j = true := by
  rw [← h, Nat.testBit_and] at hj
  simp at hj
  exact hj.2
theorem vP_sub {on f p : Nat} (h : ¬ f &&& on = f) (hf : f < 256) : vP on f p 8 = 0 := by
  have key : ∀ k, vP on f p k ≠ 0 → ∀ j, j < k → f.testBit j = true → on.testBit j = true := by
    intro k
    induction k with
    | zero => intro _ j hj; omega
    | succ k ih =>
      intro hne j hj hb
      rw [vP] at hne
      by_cases e : j = k
      · subst e
        by_cases q : on.testBit j = true
        · exact q
        · exact absurd (by rw [vF, if_neg q, if_pos hb, Nat.mul_zero]) hne
      · exact ih (fun w => hne (by rw [w, Nat.zero_mul])) j (by omega) hb
  by_cases q : vP on f p 8 = 0
  · exact q
  · exfalso
    apply h
    apply Nat.eq_of_testBit_eq
    intro j
    rw [Nat.testBit_and]
    by_cases hj : j < 8
    · cases hb : f.testBit j with
      | false => rfl
      | true => rw [key 8 q j hj hb]; rfl
    · have : f.testBit j = false := Nat.testBit_lt_two_pow (Nat.lt_of_lt_of_le hf (Nat.pow_le_pow_right (n := 2) (by decide) (by omega : 8 ≤ j)))
      rw [this]
      rfl
theorem vP_0 {on f p : Nat} (hf : f < 256) (h : vP on f p 8 ≠ 0) : f &&& on = f := by
  by_cases q : f &&& on = f
  · exact q
  · exact absurd (vP_sub q hf) h
/-- a set's weight, in the order of both loops -/
theorem X7_weight_L {σ : Mem} {on fl p : Nat} {kk : Mem → Int64 → Option (Mem × Int64)} (hon : on < 256) (hf : fl < 256) (hp : p ≤ 12) (hs : fl &&& on = fl) : ∀ (c i f : Nat), c < f → i + c = 8 → X7_weight_L14 (nI on) (nI fl) (nI p) kk f σ (lN (vP on fl p i)) (nI i) = kk σ (lN (vP on fl p 8)) := by
  intro c
  induction c with
  | zero =>
    intro i f hf he
    obtain ⟨g, rfl⟩ : ∃ g, f = g + 1 := ⟨f - 1, by omega⟩
    have : i = 8 := by omega
    subst this
    rw [X7_weight_L14, if_pos (by rw [nle_l (by omega) (by decide)]; decide)]
  | succ c ih =>
    intro i f hf he
    obtain ⟨g, rfl⟩ : ∃ g, f = g + 1 := ⟨f - 1, by omega⟩
    have := ih (i + 1) g (by omega) (by omega)
    rw [vP, vF] at this
    rw [X7_weight_L14, if_neg (by rw [nle_l (by omega) (by decide)]; omega)]
    by_cases q : on.testBit i = true
    · rw [if_pos q] at this
      rw [if_pos ((bit7_1 (by omega) (by omega)).mpr q)]
      by_cases q2 : fl.testBit i = true
      · rw [if_pos q2] at this
        rw [if_pos ((bit7_1 (by omega) (by omega)).mpr q2), lt_eq, nI_l (by omega), lN_mul, nadd_r]
        exact this
      · rw [if_neg q2] at this
        rw [if_neg (fun w => q2 ((bit7_1 (by omega) (by omega)).mp w)), lt_eq, nsub_l hp, nI_l (by show 12 - p < _; omega), lN_mul, nadd_r]
        exact this
    · have q2 : ¬ fl.testBit i = true := fun w => q (sub_bits hs i w)
      rw [if_neg q, if_neg q2, Nat.mul_one] at this
      rw [if_neg (fun w => q ((bit7_1 (by omega) (by omega)).mp w)), nadd_r]
      exact this
theorem X7_weight_n {σ : Mem} {on fl p : Nat} (hon : on < 256) (hf : fl < 256) (hp : p ≤ 12) : X7_weight σ (nI on) (nI fl) (nI p) = some (σ, lN (vP on fl p 8)) := by
  unfold X7_weight
  by_cases q : fl &&& on = fl
  · rw [if_pos ((ss_eq hon hf).mpr q)]
    have := X7_weight_L (σ := σ) (kk := fun s v => some (s, v)) hon hf hp q 8 0 FU (fu_gt (by decide)) (by decide)
    rw [nI_0] at this
    exact this
  · rw [if_neg (fun w => q ((ss_eq hon hf).mp w)), vP_sub q hf, lz64]
theorem vP_n {on fl p n : Nat} (hn : on < 2 ^ n) (hs : fl &&& on = fl) : ∀ k, n ≤ k → vP on fl p k = vP on fl p n := by
  intro k
  induction k with
  | zero => intro h; have : n = 0 := by omega
            subst this; rfl
  | succ k ih =>
    intro h
    by_cases e : n = k + 1
    · rw [e]
    · rw [vP, ih (by omega), vF]
      have q : on.testBit k = false := Nat.testBit_lt_two_pow (Nat.lt_of_lt_of_le hn (Nat.pow_le_pow_right (n := 2) (by decide) (by omega)))
      have q2 : ¬ fl.testBit k = true := fun w => by rw [sub_bits hs k w] at q; cases q
      rw [q, if_neg (by decide), if_neg q2, Nat.mul_one]
theorem X8_weight_L {σ : Mem} {on fl p n : Nat} {kk : Mem → Int64 → Option (Mem × Int64)} (h1 : σ.1 810 0 0 = nI n) (hn : n ≤ 8) (hon : on < 256) (hf : fl < 256) (hp : p ≤ 12) (hs : fl &&& on = fl) : ∀ (c i f : Nat), c < f → i + c = n → X8_weight_L6 (nI fl) (nI on) (nI p) kk f σ (lN (vP on fl p i)) (nI i) = kk σ (lN (vP on fl p n)) := by
  intro c
  induction c with
  | zero =>
    intro i f hf he
    obtain ⟨g, rfl⟩ : ∃ g, f = g + 1 := ⟨f - 1, by omega⟩
    have : i = n := by omega
    subst this
    rw [X8_weight_L6, h1, if_pos (by rw [nle (by omega) (by omega)]; omega)]
  | succ c ih =>
    intro i f hf he
    obtain ⟨g, rfl⟩ : ∃ g, f = g + 1 := ⟨f - 1, by omega⟩
    have := ih (i + 1) g (by omega) (by omega)
    rw [vP, vF] at this
    rw [X8_weight_L6, h1, if_neg (by rw [nle (by omega) (by omega)]; omega), X8_has_n (by omega) (by omega), Option.bind_some]
    dsimp only
    by_cases q : on.testBit i = true
    · rw [if_pos q] at this
      rw [if_pos q, if_neg one_ne0, X8_has_n (by omega) (by omega), Option.bind_some]
      dsimp only
      by_cases q2 : fl.testBit i = true
      · rw [if_pos q2] at this
        rw [if_pos q2, if_neg one_ne0, lt_eq, nI_l (by omega), lN_mul, nadd_r]
        exact this
      · rw [if_neg q2] at this
        rw [if_neg q2, if_pos rfl, lt_eq, nI_l (by omega), show (12 : Int64) = lN 12 from rfl, lN_sub hp, lN_mul, nadd_r]
        exact this
    · have q2 : ¬ fl.testBit i = true := fun w => q (sub_bits hs i w)
      rw [if_neg q, if_neg q2] at this
      rw [if_neg q, if_pos rfl, lt_eq, show (1 : Int64) = lN 1 from rfl, lN_mul, nadd_r]
      exact this
theorem X8_weight_n {σ : Mem} {on fl p n : Nat} (h1 : σ.1 810 0 0 = nI n) (hn : n ≤ 8) (hn2 : on < 2 ^ n) (hon : on < 256) (hf : fl < 256) (hp : p ≤ 12) (hs : fl &&& on = fl) : X8_weight σ (nI fl) (nI on) (nI p) = some (σ, lN (vP on fl p 8)) := by
  unfold X8_weight
  have := X8_weight_L (kk := fun s v => some (s, v)) h1 hn hon hf hp hs n 0 FU (fu_gt (by omega)) (by omega)
  rw [nI_0] at this
  rw [vP_n hn2 hs 8 hn]
  exact this
theorem X8_whole_L {σ : Mem} {on : Nat} {kk : Mem → Int64 → Option (Mem × Int64)} (hon : on < 256) : ∀ (c i f : Nat), c < f → i + c = pop on → X8_whole_L5 (nI on) kk f σ (lN (12 ^ i)) (nI i) = kk σ (lN (12 ^ pop on)) := by
  have hp := pop_le on hon
  intro c
  induction c with
  | zero =>
    intro i f hf he
    obtain ⟨g, rfl⟩ : ∃ g, f = g + 1 := ⟨f - 1, by omega⟩
    have : i = pop on := by omega
    subst this
    rw [X8_whole_L5, X8_sizeOf_n (by omega), Option.bind_some]
    dsimp only
    rw [if_pos (by rw [nle (by omega) (by omega)]; omega)]
  | succ c ih =>
    intro i f hf he
    obtain ⟨g, rfl⟩ : ∃ g, f = g + 1 := ⟨f - 1, by omega⟩
    rw [X8_whole_L5, X8_sizeOf_n (by omega), Option.bind_some]
    dsimp only
    rw [if_neg (by rw [nle (by omega) (by omega)]; omega), lt_eq, show (12 : Int64) = lN 12 from rfl, lN_mul, ← Nat.pow_succ, nadd_r]
    exact ih (i + 1) g (by omega) (by omega)
theorem X8_whole_n {σ : Mem} {on : Nat} (hon : on < 256) : X8_whole σ (nI on) = some (σ, lN (12 ^ pop on)) := by
  have hp := pop_le on hon
  unfold X8_whole
  have := X8_whole_L (σ := σ) (kk := fun s v => some (s, v)) hon (pop on) 0 FU (fu_gt (by omega)) (by omega)
  rw [nI_0] at this
  exact this
theorem w_all {on p : Nat} (hon : on < 256) (hp : p ≤ 12) : sm (fun f => vP on f p 8) 256 0 = 12 ^ pop on := by
  have := vP_sum (on := on) hp 8
  rw [show (2 : Nat) ^ 8 = 256 from rfl] at this
  rw [this, pop, popF_cn]
theorem w_pw {on : Nat} (hon : on < 256) : 0 < 12 ^ pop on ∧ 12 ^ pop on ≤ 429981696 := by
  have hp := pop_le on hon
  have h1 : 12 ^ pop on ≤ 12 ^ 8 := Nat.pow_le_pow_right (by decide) hp
  have h2 : (12 : Nat) ^ 8 = 429981696 := by decide
  have h3 : 0 < 12 ^ pop on := Nat.pow_pos (by decide)
  omega
/-! odds -/
def odF (T : Nat → Nat → Int32) (n on p : Nat) (s o : List Nat) (f : Nat) : Nat := if outS T n (on - f) s = o then vP on f p 8 else 0
def mdF (T : Nat → Nat → Int32) (n on p : Nat) (s : List Nat) (f : Nat) : Nat := vP on f p 8 * (outS T n (on - f) s).length
theorem X7_odds_L {σ : Mem} {n on p : Nat} {T : Nat → Nat → Int32} {s o : List Nat} {kk : Mem → Int64 → Int64 → Option (Mem × Int32)} (hP : PL σ 0 n T) (hT : TV T n) (hTr : Tr σ n T s) (hon : on < 256) (hp : p ≤ 12) (ho : Sg o) (h16 : o.length ≤ 16) (hw : ∀ f, f < 256 → vP on f p 8 < 2 ^ 62) : ∀ (c i f A B : Nat), c < f → i + c = 256 → X7_odds_L99 (nI p) (nI on) (lN (pkN o)) kk f σ (lN A) (lN B) (nI i) = kk σ (lN (A + sm (odF T n on p s o) c i)) (lN (B + sm (fun f => vP on f p 8) c i)) := by
  intro c
  induction c with
  | zero =>
    intro i f A B hf he
    obtain ⟨g, rfl⟩ : ∃ g, f = g + 1 := ⟨f - 1, by omega⟩
    rw [X7_odds_L99, if_pos (by rw [nle_l (by omega) (by decide)]; omega)]
    rfl
  | succ c ih =>
    intro i f A B hf he
    obtain ⟨g, rfl⟩ : ∃ g, f = g + 1 := ⟨f - 1, by omega⟩
    have hwi := hw i (by omega)
    rw [X7_odds_L99, if_neg (by rw [nle_l (by omega) (by decide)]; omega), X7_weight_n hon (by omega) hp, Option.bind_some]
    dsimp only
    rw [lt_eq, lN_add, sm, sm, odF]
    by_cases q : vP on i p 8 = 0
    · rw [q, if_pos (by rw [lg_cmp_le, lz64, pk_lLE (by decide) (by decide)]; exact Nat.le_refl _), nadd_r, ih (i + 1) g _ _ (by omega) (by omega)]
      simp
    · have hs := vP_0 (show i < 256 by omega) q
      rw [if_neg (by rw [lg_cmp_le, lz64, pk_lLE (by omega) (by decide)]; omega), nsub (ss_le hon (by omega) hs), X5_outBy_n hP hT (by omega) hTr, Option.bind_some]
      dsimp only
      by_cases q3 : outS T n (on - i) s = o
      · rw [if_pos ((pk_eqo hT hTr.2.2.1 hTr.2.1 ho h16).mpr q3), lt_eq, lN_add, nadd_r, ih (i + 1) g _ _ (by omega) (by omega), if_pos q3, Nat.add_assoc, Nat.add_assoc]
      · rw [if_neg (fun w => q3 ((pk_eqo hT hTr.2.2.1 hTr.2.1 ho h16).mp w)), nadd_r, ih (i + 1) g _ _ (by omega) (by omega), if_neg q3, Nat.zero_add, Nat.add_assoc]
theorem X7_mid_L {σ : Mem} {n on p : Nat} {T : Nat → Nat → Int32} {s : List Nat} {kk : Mem → Int64 → Int64 → Option (Mem × Int32)} (hP : PL σ 0 n T) (hT : TV T n) (hTr : Tr σ n T s) (hon : on < 256) (hp : p ≤ 12) (hw : ∀ f, f < 256 → vP on f p 8 < 2 ^ 62) : ∀ (c i f A B : Nat), c < f → i + c = 256 → X7_mid_L65 (nI p) (nI on) kk f σ (lN A) (lN B) (nI i) = kk σ (lN (A + sm (mdF T n on p s) c i)) (lN (B + sm (fun f => vP on f p 8) c i)) := by
  intro c
  induction c with
  | zero =>
    intro i f A B hf he
    obtain ⟨g, rfl⟩ : ∃ g, f = g + 1 := ⟨f - 1, by omega⟩
    rw [X7_mid_L65, if_pos (by rw [nle_l (by omega) (by decide)]; omega)]
    rfl
  | succ c ih =>
    intro i f A B hf he
    obtain ⟨g, rfl⟩ : ∃ g, f = g + 1 := ⟨f - 1, by omega⟩
    have hwi := hw i (by omega)
    have hl8 := hTr.2.1
    obtain ⟨l1, l2⟩ := outS_len (m := on - i) hT hTr.2.2.1
    rw [X7_mid_L65, if_neg (by rw [nle_l (by omega) (by decide)]; omega), X7_weight_n hon (by omega) hp, Option.bind_some]
    dsimp only
    rw [lt_eq, lN_add, sm, sm, mdF]
    by_cases q : vP on i p 8 = 0
    · rw [q, if_pos (by rw [lg_cmp_le, lz64, pk_lLE (by decide) (by decide)]; exact Nat.le_refl _), nadd_r, ih (i + 1) g _ _ (by omega) (by omega)]
      simp
    · have hs := vP_0 (show i < 256 by omega) q
      rw [if_neg (by rw [lg_cmp_le, lz64, pk_lLE (by omega) (by decide)]; omega), nsub (ss_le hon (by omega) hs), X5_outBy_n hP hT (by omega) hTr, Option.bind_some]
      dsimp only
      rw [X7_signsIn_n l2 (by omega), Option.bind_some]
      dsimp only
      rw [lt_eq, nI_l (by omega), lN_mul, lN_add, nadd_r, ih (i + 1) g _ _ (by omega) (by omega), Nat.add_assoc, Nat.add_assoc]
theorem X8_odds_L {n on p q : Nat} {T : Nat → Nat → Int32} {s o : List Nat} {kk : Mem → Int64 → Option (Mem × Int32)} (hT : TV T n) (hon : on < 256) (hn2 : on < 2 ^ n) (hp : p ≤ 12) (hq : q < 6) (ho : Sg o) : ∀ (c i f A : Nat) (σ : Mem), c < f → i + c = on + 1 → ML8 σ n T → Sh8 σ s → Rw8 σ q o → ∃ τ, Fr P78 σ τ ∧ X8_odds_L47 (nI q) (nI p) (nI on) kk f σ (lN A) (nI i) = kk τ (lN (A + sm (odF T n on p s o) c i)) := by
  intro c
  induction c with
  | zero =>
    intro i f A σ hf he hM hS hR
    obtain ⟨g, rfl⟩ : ∃ g, f = g + 1 := ⟨f - 1, by omega⟩
    refine ⟨σ, Fr.rf, ?_⟩
    rw [X8_odds_L47, if_pos (by rw [nlt (by omega) (by omega)]; omega)]
    rfl
  | succ c ih =>
    intro i f A σ hf he hM hS hR
    obtain ⟨g, rfl⟩ : ∃ g, f = g + 1 := ⟨f - 1, by omega⟩
    by_cases q1 : i &&& on = i
    · obtain ⟨τ, t1, t2, t3⟩ := X8_setBy_n (m := on - i) hM hT (by omega) hS
      have t4 := X8_isOut_n hq t3 (hR.p8 t2) ho
      have tM := hM.p8 t2
      obtain ⟨υ, u1, u2⟩ := ih (i + 1) g (A + odF T n on p s o i) τ (by omega) (by omega) tM (hS.s8p t2) (hR.p8 t2)
      refine ⟨υ, t2.tr u1, ?_⟩
      rw [X8_odds_L47, if_neg (by rw [nlt (by omega) (by omega)]; omega), if_pos ((ss_not hon (by omega)).mpr q1), ss_sub hon (by omega) q1, t1, Option.bind_some]
      dsimp only
      rw [t4, Option.bind_some]
      dsimp only
      rw [sm, ← Nat.add_assoc]
      by_cases q3 : outS T n (on - i) s = o
      · rw [decide_eq_true q3, bI_t, if_neg one_ne0, X8_weight_n tM.1 tM.2.1 hn2 hon (by omega) hp q1, Option.bind_some]
        dsimp only
        rw [lt_eq, lN_add, nadd_r]
        rw [odF, if_pos q3] at u2 ⊢
        exact u2
      · rw [decide_eq_false q3, bI_f, if_pos rfl, lt_eq, lz64, lN_add, nadd_r]
        rw [odF, if_neg q3] at u2 ⊢
        exact u2
    · obtain ⟨υ, u1, u2⟩ := ih (i + 1) g A σ (by omega) (by omega) hM hS hR
      refine ⟨υ, u1, ?_⟩
      rw [X8_odds_L47, if_neg (by rw [nlt (by omega) (by omega)]; omega), if_neg (fun w => q1 ((ss_not hon (by omega)).mp w)), nadd_r, u2, sm, odF, vP_sub q1 (by omega)]
      simp
theorem X8_mid_L {n on p : Nat} {T : Nat → Nat → Int32} {s : List Nat} {kk : Mem → Int64 → Option (Mem × Int32)} (hT : TV T n) (hon : on < 256) (hn2 : on < 2 ^ n) (hp : p ≤ 12) : ∀ (c i f A : Nat) (σ : Mem), c < f → i + c = on + 1 → ML8 σ n T → Sh8 σ s → ∃ τ, Fr P78 σ τ ∧ X8_mid_L45 (nI p) (nI on) kk f σ (lN A) (nI i) = kk τ (lN (A + sm (mdF T n on p s) c i)) := by
  intro c
  induction c with
  | zero =>
    intro i f A σ hf he hM hS
    obtain ⟨g, rfl⟩ : ∃ g, f = g + 1 := ⟨f - 1, by omega⟩
    refine ⟨σ, Fr.rf, ?_⟩
    rw [X8_mid_L45, if_pos (by rw [nlt (by omega) (by omega)]; omega)]
    rfl
  | succ c ih =>
    intro i f A σ hf he hM hS
    obtain ⟨g, rfl⟩ : ∃ g, f = g + 1 := ⟨f - 1, by omega⟩
    by_cases q1 : i &&& on = i
    · obtain ⟨τ, t1, t2, t3⟩ := X8_setBy_n (m := on - i) hM hT (by omega) hS
      have tM := hM.p8 t2
      have h16 := t3.2.1
      obtain ⟨υ, u1, u2⟩ := ih (i + 1) g (A + mdF T n on p s i) τ (by omega) (by omega) tM (hS.s8p t2)
      refine ⟨υ, t2.tr u1, ?_⟩
      rw [X8_mid_L45, if_neg (by rw [nlt (by omega) (by omega)]; omega), if_pos ((ss_not hon (by omega)).mpr q1), ss_sub hon (by omega) q1, t1, Option.bind_some]
      dsimp only
      rw [X8_weight_n tM.1 tM.2.1 hn2 hon (by omega) hp q1, Option.bind_some]
      dsimp only
      rw [lt_eq, t3.1, nI_l (by omega), lN_mul, lN_add, nadd_r, sm, ← Nat.add_assoc]
      exact u2
    · obtain ⟨υ, u1, u2⟩ := ih (i + 1) g A σ (by omega) (by omega) hM hS
      refine ⟨υ, u1, ?_⟩
      rw [X8_mid_L45, if_neg (by rw [nlt (by omega) (by omega)]; omega), if_neg (fun w => q1 ((ss_not hon (by omega)).mp w)), nadd_r, u2, sm, mdF, vP_sub q1 (by omega)]
      simp
theorem sm_on {g : Nat → Nat} {on : Nat} (hon : on < 256) (h : ∀ f, f < 256 → ¬ f &&& on = f → g f = 0) : sm g (on + 1) 0 = sm g 256 0 := by
  have e := sm_add (g := g) (on + 1) (255 - on) 0
  rw [show on + 1 + (255 - on) = 256 by omega] at e
  have z := sm_no (g := g) (255 - on) (0 + (on + 1)) (fun j h1 h2 => h j (by omega) (fun w => by have := ss_le hon (by omega) w; omega))
  omega
theorem w_lt {on p f : Nat} (hon : on < 256) (hp : p ≤ 12) (hf : f < 256) : vP on f p 8 < 2 ^ 62 := by
  have h1 := w_all hon hp
  have h2 := (w_pw hon).2
  have h3 : vP on f p 8 ≤ sm (fun f => vP on f p 8) 256 0 := by
    have e := sm_add (g := fun f => vP on f p 8) f (256 - f) 0
    rw [show f + (256 - f) = 256 by omega] at e
    obtain ⟨d, hd⟩ : ∃ d, 256 - f = d + 1 := ⟨255 - f, by omega⟩
    rw [e, hd, sm, Nat.zero_add]
    omega
  omega
theorem onM_n {T : Nat → Nat → Int32} {n : Nat} : onM T n < 2 ^ n := by
  have := onM_lt T n 0 0 (by decide)
  rw [Nat.zero_add] at this
  exact this
theorem op_odds {σ : Mem} (h : Rel σ) (a b c : Int32) : Both (fun σ => X7_odds σ a b c) (fun σ => X8_odds σ a b c) σ := by
  have bad8 : ∀ {σ τ : Mem} {v : Int32}, X8_askedBoth σ a b = some (τ, v) → v < 0 → X8_in σ c 0 12 = some (σ, 1) → X8_odds σ a b c = some (τ, v) := by
    intro σ τ v h1 hv h2
    unfold X8_odds
    rw [h2, Option.bind_some]
    show (if (1 : Int32) = 0 then _ else _) = _
    rw [if_neg one_ne0, h1, Option.bind_some]
    unfold X8_odds_J20
    rw [if_neg (le_neg hv)]
  rcases to_n c 12 (by decide) with hc | ⟨p, hp, rfl, hc1, hc2⟩
  · refine Both.mk' (σ1 := σ) (σ2 := σ) (r := -1) ?_ ?_ h
    · rcases isR a with ⟨a7, a8⟩ | ⟨r, hr, rfl⟩
      · simp only [X7_odds, a7, Option.bind_some, spl_none]
        rcases isR b with ⟨b7, b8⟩ | ⟨q, hq, rfl⟩
        · simp only [b7, Option.bind_some, spl_none]
        · simp only [X7_rowOf_n hq, Option.bind_some]
          rw [spl_some (by omega)]
      · simp only [X7_odds, X7_rowOf_n hr, Option.bind_some]
        rw [spl_some (by omega)]
        rcases isR b with ⟨b7, b8⟩ | ⟨q, hq, rfl⟩
        · simp only [b7, Option.bind_some, spl_none]
        · simp only [X7_rowOf_n hq, Option.bind_some]
          rw [spl_some (by omega)]
          rcases hc with hc | hc
          · rw [if_pos hc]
          · by_cases q : c < 0
            · rw [if_pos q]
            · rw [if_neg q, if_neg (show ¬ c ≤ 12 from hc)]
    · show X8_odds _ _ _ _ = _
      unfold X8_odds
      rw [in_bad (by rcases hc with hc | hc; exact Or.inl hc; exact Or.inr (i32_nle2.mp hc))]
      rfl
  have hin : ∀ σ : Mem, X8_in σ (nI p) 0 12 = some (σ, 1) := fun σ => in_ok hc1 (by rw [i32_nlt]; exact hc2)
  rcases isR a with ⟨a7, a8⟩ | ⟨r, hr, rfl⟩
  · refine Both.mk' (σ1 := σ) (σ2 := σ) (r := -1) ?_ (bad8 (askBoth_a (a8 σ)) (by decide) (hin σ)) h
    simp only [X7_odds, a7, Option.bind_some, spl_none]
    rcases isR b with ⟨b7, b8⟩ | ⟨q, hq, rfl⟩
    · simp only [b7, Option.bind_some, spl_none]
    · simp only [X7_rowOf_n hq, Option.bind_some]
      rw [spl_some (by omega)]
  rcases isR b with ⟨b7, b8⟩ | ⟨q, hq, rfl⟩
  · refine Both.mk' (σ1 := σ) (σ2 := σ) (r := -1) ?_ (bad8 (askBoth_b hr (b8 σ)) (by decide) (hin σ)) h
    simp only [X7_odds, X7_rowOf_n hr, b7, Option.bind_some, spl_none]
    rw [spl_some (by omega)]
  rcases askBoth_bad h hr hq with ⟨f, f1, f2, e7, e8⟩ | ⟨s, o, hl, sg, hS, hR, ol, og, oS, oR, e7, d7, e8⟩
  · refine Both.mk' (σ1 := ans7 σ f) (σ2 := met8 (ans7 σ f) f) (r := -3) ?_ (bad8 e8 (by decide) (hin _)) (Rel_fnd h f f1 f2)
    simp only [X7_odds, X7_rowOf_n hr, X7_rowOf_n hq, Option.bind_some]
    rw [spl_some (by omega), spl_some (by omega), if_neg hc1, if_pos (show nI p ≤ 12 from hc2)]
    rcases e7 with e7 | ⟨e7, d7⟩
    · rw [e7]
      rfl
    · rw [e7, Option.bind_some]
      show (if (0 : Int32) = 0 then _ else _) = _
      rw [if_pos rfl, d7]
      rfl
  obtain ⟨n, T, hP, hM, hT, hn⟩ := h.laws
  have on := onM_256 (T := T) hn
  obtain ⟨σ1, u1, u2, u3⟩ := X5_lie_n (σ := σ) (r := r) (by omega) hl hT hP hS
  have uP : PL σ1 0 n T := hP.p50 u2
  have u8 : ∀ c, 800 ≤ c → ∀ j, σ1.1 c 0 j = σ.1 c 0 j := fun c hc j => u2.i (by unfold P50; omega) j
  have uS : Fr Scr σ σ1 := u2.mono fun c k w => Or.inl (by rcases w with rfl | rfl | rfl | rfl <;> decide)
  have hA : sm (odF T n (onM T n) p s o) 256 0 < 2 ^ 63 := by
    have h1 : sm (odF T n (onM T n) p s o) 256 0 ≤ sm (fun f => vP (onM T n) f p 8 * 16) 256 0 := sm_le 256 0 (fun j _ _ => by
      rw [odF]
      split <;> omega)
    rw [sm_mul, w_all on hp] at h1
    have := (w_pw on).2
    omega
  have hz : sm (odF T n (onM T n) p s o) (onM T n + 1) 0 = sm (odF T n (onM T n) p s o) 256 0 := sm_on on (fun f f1 f2 => by
    rw [odF, vP_sub f2 f1]
    simp)
  have c2 := X7_odds_L (on := onM T n) (p := p) (kk := fun (s20 : Mem) (y9_19 : Int64) (y11_19 : Int64) => ((X7_tell s20 y9_19 y11_19).bind fun q21 => some (q21.1, (1 : Int32)))) uP hT u3 on hp og ol (fun f hf => w_lt on hp hf) 256 0 FU 0 0 (fu_gt (by decide)) (by decide)
  rw [Nat.zero_add, Nat.zero_add, w_all on hp, X7_tell_n hA (w_pw on).1 (by have := (w_pw on).2; omega), Option.bind_some, nI_0, ← lz64] at c2
  obtain ⟨τ0, e0⟩ : ∃ τ0, τ0 = tel7 σ1 (sm (odF T n (onM T n) p s o) 256 0) (12 ^ pop (onM T n)) := ⟨_, rfl⟩
  rw [← e0] at c2
  have ht : ∀ c, 800 ≤ c → ∀ j, τ0.1 c 0 j = σ.1 c 0 j := fun c hc j => by
    rw [e0]
    exact u8 c hc j
  have tM : ML8 τ0 n T := ⟨by rw [ht 810 (by omega)]; exact hM.1, hM.2.1, fun k hk f hf => by rw [ht 811 (by omega)]; exact hM.2.2 k hk f hf⟩
  have tR : Rw8 τ0 r s := ⟨by rw [ht 805 (by omega)]; exact hR.1, hR.2.1, hR.2.2.cg fun j _ => ht 806 (by omega) _⟩
  have tO : Rw8 τ0 q o := ⟨by rw [ht 805 (by omega)]; exact oR.1, oR.2.1, oR.2.2.cg fun j _ => ht 806 (by omega) _⟩
  obtain ⟨τ1, a1, a2, a3⟩ := X8_laySheet_n hr hl tR sg
  have m1 : ML8 τ1 n T := tM.fr a2 (by decide) (by decide)
  obtain ⟨υ, g1, g3⟩ := X8_odds_L (on := onM T n) (p := p) (kk := fun (s14 : Mem) (y6_13 : Int64) => ((X8_whole s14 (nI (onM T n))).bind fun q15 => (X8_part q15.1 y6_13 q15.2).bind fun q16 => some (q16.1, q16.2))) hT on onM_n hp hq og (onM T n + 1) 0 FU 0 τ1 (fu_gt (by omega)) (by omega) m1 a3 (tO.fr a2 (by decide) (by decide))
  rw [Nat.zero_add, hz, X8_whole_n on, Option.bind_some] at g3
  dsimp only at g3
  rw [X8_part_n hA (w_pw on).1 (by have := (w_pw on).2; omega), Option.bind_some, nI_0, ← lz64] at g3
  refine Both.mk' (σ1 := τ0) (σ2 := prt8 υ (sm (odF T n (onM T n) p s o) 256 0) (12 ^ pop (onM T n))) (r := 1) ?_ ?_ ?_
  · simp only [X7_odds, X7_rowOf_n hr, X7_rowOf_n hq, Option.bind_some]
    rw [spl_some (by omega), spl_some (by omega), if_neg hc1, if_pos (show nI p ≤ 12 from hc2), e7, Option.bind_some]
    show (if (0 : Int32) = 0 then _ else _) = _
    rw [if_pos rfl, d7, Option.bind_some]
    show (if (0 : Int32) = 0 then _ else _) = _
    rw [if_pos rfl, X2_onSet_n (by decide) hP, Option.bind_some]
    dsimp only
    rw [X4_pack_n (by omega) oS ol, Option.bind_some]
    dsimp only
    rw [u1, Option.bind_some]
    exact c2
  · show X8_odds _ _ _ _ = _
    unfold X8_odds
    rw [hin, Option.bind_some]
    show (if (1 : Int32) = 0 then _ else _) = _
    rw [if_neg one_ne0]
    show (X8_askedBoth τ0 (nI r) (nI q)).bind _ = _
    rw [e8 τ0 (fun j => ht 805 (by omega) j) (fun j => ht 806 (by omega) j), Option.bind_some]
    unfold X8_odds_J20
    show (if 0 ≤ (0 : Int32) then _ else _) = _
    rw [if_pos (by decide)]
    show (X8_laySheet τ0 (nI r)).bind _ = _
    rw [a1, Option.bind_some]
    dsimp only
    rw [X8_onSet_n m1, Option.bind_some]
    exact g3
  · refine Rel_prt h uS ?_
    rw [← e0]
    exact ((a2.mono fun _ _ => s8_56).tr (g1.mono fun _ _ => s8_78)).mono fun _ _ q => q.scr
/-! mid -/
theorem op_mid {σ : Mem} (h : Rel σ) (a c : Int32) : Both (fun σ => X7_mid σ a c) (fun σ => X8_mid σ a c) σ := by
  have bad8 : ∀ {σ τ : Mem} {v : Int32}, X8_askedSigns σ a 8 = some (τ, v) → v < 0 → X8_in σ c 0 12 = some (σ, 1) → X8_mid σ a c = some (τ, v) := by
    intro σ τ v h1 hv h2
    unfold X8_mid
    rw [h2, Option.bind_some]
    show (if (1 : Int32) = 0 then _ else _) = _
    rw [if_neg one_ne0, h1, Option.bind_some]
    unfold X8_mid_J21
    rw [if_neg (le_neg hv)]
  rcases to_n c 12 (by decide) with hc | ⟨p, hp, rfl, hc1, hc2⟩
  · refine Both.mk' (σ1 := σ) (σ2 := σ) (r := -1) ?_ ?_ h
    · rcases isR a with ⟨a7, a8⟩ | ⟨r, hr, rfl⟩
      · simp only [X7_mid, a7, Option.bind_some, spl_none]
      · simp only [X7_mid, X7_rowOf_n hr, Option.bind_some]
        rw [spl_some (by omega)]
        rcases hc with hc | hc
        · rw [if_pos hc]
        · by_cases q : c < 0
          · rw [if_pos q]
          · rw [if_neg q, if_neg (show ¬ c ≤ 12 from hc)]
    · show X8_mid _ _ _ = _
      unfold X8_mid
      rw [in_bad (by rcases hc with hc | hc; exact Or.inl hc; exact Or.inr (i32_nle2.mp hc))]
      rfl
  have hin : ∀ σ : Mem, X8_in σ (nI p) 0 12 = some (σ, 1) := fun σ => in_ok hc1 (by rw [i32_nlt]; exact hc2)
  rcases isR a with ⟨a7, a8⟩ | ⟨r, hr, rfl⟩
  · refine Both.mk' (σ1 := σ) (σ2 := σ) (r := -1) ?_ (bad8 (X8_askedSigns_no (a8 σ)) (by decide) (hin σ)) h
    simp only [X7_mid, a7, Option.bind_some, spl_none]
  rcases asRow h hr (most := 8) (by decide) with ⟨f, f1, f2, e7, e8⟩ | ⟨s, hl, sg, hS, hR, e7, e8⟩
  · refine Both.mk' (σ1 := ans7 σ f) (σ2 := met8 (ans7 σ f) f) (r := -3) ?_ (bad8 (e8 _ (fun j => ans7_i (by decide) (by decide)) (fun j => ans7_i (by decide) (by decide))) (by decide) (hin _)) (Rel_fnd h f f1 f2)
    simp only [X7_mid, X7_rowOf_n hr, Option.bind_some]
    rw [spl_some (by omega), if_neg hc1, if_pos (show nI p ≤ 12 from hc2), show (8 : Int32) = nI 8 from rfl, e7]
    rfl
  obtain ⟨n, T, hP, hM, hT, hn⟩ := h.laws
  have on := onM_256 (T := T) hn
  obtain ⟨σ1, u1, u2, u3⟩ := X5_lie_n (σ := σ) (r := r) (by omega) hl hT hP hS
  have uP : PL σ1 0 n T := hP.p50 u2
  have u8 : ∀ c, 800 ≤ c → ∀ j, σ1.1 c 0 j = σ.1 c 0 j := fun c hc j => u2.i (by unfold P50; omega) j
  have uS : Fr Scr σ σ1 := u2.mono fun c k w => Or.inl (by rcases w with rfl | rfl | rfl | rfl <;> decide)
  have hA : sm (mdF T n (onM T n) p s) 256 0 < 2 ^ 63 := by
    have h1 : sm (mdF T n (onM T n) p s) 256 0 ≤ sm (fun f => vP (onM T n) f p 8 * 16) 256 0 := sm_le 256 0 (fun j _ _ => by
      rw [mdF]
      have := (outS_len (m := onM T n - j) hT sg).1
      exact Nat.mul_le_mul_left _ (by omega))
    rw [sm_mul, w_all on hp] at h1
    have := (w_pw on).2
    omega
  have hz : sm (mdF T n (onM T n) p s) (onM T n + 1) 0 = sm (mdF T n (onM T n) p s) 256 0 := sm_on on (fun f f1 f2 => by
    rw [mdF, vP_sub f2 f1]
    simp)
  have c2 := X7_mid_L (on := onM T n) (p := p) (kk := fun (s14 : Mem) (y5_13 : Int64) (y7_13 : Int64) => ((X7_tell s14 y5_13 y7_13).bind fun q15 => some (q15.1, (1 : Int32)))) uP hT u3 on hp (fun f hf => w_lt on hp hf) 256 0 FU 0 0 (fu_gt (by decide)) (by decide)
  rw [Nat.zero_add, Nat.zero_add, w_all on hp, X7_tell_n hA (w_pw on).1 (by have := (w_pw on).2; omega), Option.bind_some, nI_0, ← lz64] at c2
  obtain ⟨τ0, e0⟩ : ∃ τ0, τ0 = tel7 σ1 (sm (mdF T n (onM T n) p s) 256 0) (12 ^ pop (onM T n)) := ⟨_, rfl⟩
  rw [← e0] at c2
  have ht : ∀ c, 800 ≤ c → ∀ j, τ0.1 c 0 j = σ.1 c 0 j := fun c hc j => by
    rw [e0]
    exact u8 c hc j
  have tM : ML8 τ0 n T := ⟨by rw [ht 810 (by omega)]; exact hM.1, hM.2.1, fun k hk f hf => by rw [ht 811 (by omega)]; exact hM.2.2 k hk f hf⟩
  have tR : Rw8 τ0 r s := ⟨by rw [ht 805 (by omega)]; exact hR.1, hR.2.1, hR.2.2.cg fun j _ => ht 806 (by omega) _⟩
  obtain ⟨τ1, a1, a2, a3⟩ := X8_laySheet_n hr hl tR sg
  have m1 : ML8 τ1 n T := tM.fr a2 (by decide) (by decide)
  obtain ⟨υ, g1, g3⟩ := X8_mid_L (on := onM T n) (p := p) (kk := fun (s11 : Mem) (y5_10 : Int64) => ((X8_whole s11 (nI (onM T n))).bind fun q12 => (X8_part q12.1 y5_10 q12.2).bind fun q13 => some (q13.1, q13.2))) hT on onM_n hp (onM T n + 1) 0 FU 0 τ1 (fu_gt (by omega)) (by omega) m1 a3
  rw [Nat.zero_add, hz, X8_whole_n on, Option.bind_some] at g3
  dsimp only at g3
  rw [X8_part_n hA (w_pw on).1 (by have := (w_pw on).2; omega), Option.bind_some, nI_0, ← lz64] at g3
  refine Both.mk' (σ1 := τ0) (σ2 := prt8 υ (sm (mdF T n (onM T n) p s) 256 0) (12 ^ pop (onM T n))) (r := 1) ?_ ?_ ?_
  · simp only [X7_mid, X7_rowOf_n hr, Option.bind_some]
    rw [spl_some (by omega), if_neg hc1, if_pos (show nI p ≤ 12 from hc2), show (8 : Int32) = nI 8 from rfl, e7, Option.bind_some]
    show (if (0 : Int32) = 0 then _ else _) = _
    rw [if_pos rfl, X2_onSet_n (by decide) hP, Option.bind_some]
    dsimp only
    rw [u1, Option.bind_some]
    exact c2
  · show X8_mid _ _ _ = _
    unfold X8_mid
    rw [hin, Option.bind_some]
    show (if (1 : Int32) = 0 then _ else _) = _
    rw [if_neg one_ne0, show (8 : Int32) = nI 8 from rfl]
    show (X8_askedSigns τ0 (nI r) (nI 8)).bind _ = _
    rw [e8 τ0 (fun j => ht 805 (by omega) j) (fun j => ht 806 (by omega) j), Option.bind_some]
    unfold X8_mid_J21
    show (if 0 ≤ (0 : Int32) then _ else _) = _
    rw [if_pos (by decide)]
    show (X8_laySheet τ0 (nI r)).bind _ = _
    rw [a1, Option.bind_some]
    dsimp only
    rw [X8_onSet_n m1, Option.bind_some]
    exact g3
  · refine Rel_prt h uS ?_
    rw [← e0]
    exact ((a2.mono fun _ _ => s8_56).tr (g1.mono fun _ _ => s8_78)).mono fun _ _ q => q.scr
