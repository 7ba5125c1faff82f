/-! answers' cells: told, the upper and the lower number -/
theorem Rel_SA {σ τ : Mem} (h : Rel σ) (f : Fr ScA σ τ) (hA : RA τ) : Rel τ := ⟨hA, RB_scr f h.2.1 h.2.2.1 h.2.2.2⟩
theorem Rel_T {σ τ : Mem} (h : Rel σ) (f : Fr (fun c k => Scr c k ∨ c = 713 ∨ c = 802) σ τ) (e : τ.1 713 0 0 = τ.1 802 0 0) : Rel τ := by
  refine Rel_SA h (f.mono fun c k q => ?_) ?_
  · rcases q with q | q | q
    · exact Or.inl q
    · exact Or.inr (by rw [q]; decide)
    · exact Or.inr (by rw [q]; decide)
  · obtain ⟨-, a2, a3, a4, a5⟩ := h.1
    have n : ∀ c, c = 714 ∨ c = 803 ∨ c = 715 ∨ c = 804 ∨ c = 712 ∨ c = 800 ∨ c = 711 ∨ c = 801 → ¬ (Scr c 0 ∨ c = 713 ∨ c = 802) := by
      rintro c (rfl | rfl | rfl | rfl | rfl | rfl | rfl | rfl) <;> simp [Scr]
    refine ⟨e, ?_, ?_, ?_, fun g g1 g2 => ?_⟩
    · rw [f.j (n _ (by omega)), f.j (n _ (by omega))]; exact a2
    · rw [f.j (n _ (by omega)), f.j (n _ (by omega))]; exact a3
    · rw [f.i (n _ (by omega)), f.i (n _ (by omega))]; exact a4
    · rw [f.i (n _ (by omega)), f.i (n _ (by omega))]; exact a5 g g1 g2
theorem Rel_J {σ τ : Mem} (h : Rel σ) (f : Fr (fun c k => Scr c k ∨ c = 714 ∨ c = 715 ∨ c = 803 ∨ c = 804) σ τ) (e1 : τ.2.1 714 0 0 = τ.2.1 803 0 0) (e2 : τ.2.1 715 0 0 = τ.2.1 804 0 0) : Rel τ := by
  refine Rel_SA h (f.mono fun c k q => ?_) ?_
  · rcases q with q | q | q | q | q
    · exact Or.inl q
    · exact Or.inr (by rw [q]; decide)
    · exact Or.inr (by rw [q]; decide)
    · exact Or.inr (by rw [q]; decide)
    · exact Or.inr (by rw [q]; decide)
  · obtain ⟨a1, -, -, a4, a5⟩ := h.1
    have n : ∀ c, c = 713 ∨ c = 802 ∨ c = 712 ∨ c = 800 ∨ c = 711 ∨ c = 801 → ¬ (Scr c 0 ∨ c = 714 ∨ c = 715 ∨ c = 803 ∨ c = 804) := by
      rintro c (rfl | rfl | rfl | rfl | rfl | rfl) <;> simp [Scr]
    refine ⟨?_, e1, e2, ?_, fun g g1 g2 => ?_⟩
    · rw [f.i (n _ (by omega)), f.i (n _ (by omega))]; exact a1
    · rw [f.i (n _ (by omega)), f.i (n _ (by omega))]; exact a4
    · rw [f.i (n _ (by omega)), f.i (n _ (by omega))]; exact a5 g g1 g2
/-! lowest terms -/
theorem gcd_st {a b : Nat} : Nat.gcd a b = Nat.gcd b (a % b) := by
  rw [Nat.gcd_comm a b, Nat.gcd_rec b a, Nat.gcd_comm]
theorem mod_half {b r : Nat} (hr : 0 < r) (h : r < b) : 2 * (b % r) < b := by
  by_cases q : 2 * r ≤ b
  · have := Nat.mod_lt b hr; omega
  · have e : b % r = b - r := by
      rw [Nat.mod_eq_sub_mod (by omega), Nat.mod_eq_of_lt (by omega)]
    omega
theorem lz_ne {b : Nat} (h : 0 < b) (hb : b < 2 ^ 63) : ¬ lg_cmp (lN b) 0 = 0 := by
  rw [lg_cmp_eq, lz64, lN_e2 (by omega) (by decide)]
  omega
theorem lz_ne2 {b : Nat} (h : 0 < b) (hb : b < 2 ^ 63) : ¬ lN b = 0 := by
  rw [lz64, lN_e2 (by omega) (by decide)]
  omega
theorem lz_eq : lg_cmp (lN 0) 0 = 0 := by
  rw [lg_cmp_eq, lz64]
theorem X7_tell_L {σ : Mem} {x1 x3 : Int64} {kk : Mem → Int64 → Option (Mem × Unit)} : ∀ (k a b i f : Nat), b < 2 ^ k → a < 2 ^ 63 → b < 2 ^ 63 → i + 2 * k + 1 ≤ 200 → 2 * k + 1 < f → X7_tell_L9 x1 x3 kk f σ (lN a) (lN b) (nI i) = kk σ (lN (Nat.gcd a b)) := by
  have ex : ∀ (a i f : Nat), i < 200 → 0 < f → X7_tell_L9 x1 x3 kk f σ (lN a) (lN 0) (nI i) = kk σ (lN a) := by
    intro a i f hi hf
    obtain ⟨g, rfl⟩ : ∃ g, f = g + 1 := ⟨f - 1, by omega⟩
    rw [X7_tell_L9, if_neg (by rw [nle_l (by omega) (by decide)]; omega), if_pos lz_eq]
  have st : ∀ (a b i f : Nat), i < 200 → 0 < b → a < 2 ^ 63 → b < 2 ^ 63 → X7_tell_L9 x1 x3 kk (f + 1) σ (lN a) (lN b) (nI i) = X7_tell_L9 x1 x3 kk f σ (lN b) (lN (a % b)) (nI (i + 1)) := by
    intro a b i f hi h0 ha hb
    rw [X7_tell_L9, if_neg (by rw [nle_l (by omega) (by decide)]; omega), if_neg (lz_ne h0 hb), if_neg (lz_ne2 h0 hb), lt_eq, pk_lRem ha h0 hb, nadd_r]
  intro k
  induction k with
  | zero =>
    intro a b i f hk ha hb hi hf
    have : b = 0 := by omega
    subst this
    rw [ex a i f (by omega) (by omega), Nat.gcd_zero_right]
  | succ k ih =>
    intro a b i f hk ha hb hi hf
    by_cases h0 : b = 0
    · subst h0
      rw [ex a i f (by omega) (by omega), Nat.gcd_zero_right]
    · obtain ⟨g, rfl⟩ : ∃ g, f = g + 1 + 1 := ⟨f - 2, by omega⟩
      have hm := Nat.mod_lt a (show b > 0 by omega)
      rw [st a b i (g + 1) (by omega) (by omega) ha hb, gcd_st]
      by_cases hr : a % b = 0
      · rw [hr, ex b (i + 1) (g + 1) (by omega) (by omega), Nat.gcd_zero_right]
      · rw [st b (a % b) (i + 1) g (by omega) (by omega) hb (by omega), gcd_st]
        have hh := mod_half (show 0 < a % b by omega) hm
        have hm2 := Nat.mod_lt b (show a % b > 0 by omega)
        rw [Nat.pow_succ] at hk
        exact ih (a % b) (b % (a % b)) (i + 1 + 1) g (by omega) (by omega) (by omega) (by omega) (by omega)
theorem X8_part_L {σ : Mem} {x1 x3 : Int64} {kk : Mem → Int64 → Option (Mem × Int32)} : ∀ (k a b f : Nat), b < 2 ^ k → a < 2 ^ 63 → b < 2 ^ 63 → 2 * k + 1 < f → X8_part_L6 x1 x3 kk f σ (lN a) (lN b) = kk σ (lN (Nat.gcd a b)) := by
  have ex : ∀ (a f : Nat), 0 < f → X8_part_L6 x1 x3 kk f σ (lN a) (lN 0) = kk σ (lN a) := by
    intro a f hf
    obtain ⟨g, rfl⟩ : ∃ g, f = g + 1 := ⟨f - 1, by omega⟩
    rw [X8_part_L6, if_pos lz_eq]
  have st : ∀ (a b f : Nat), 0 < b → a < 2 ^ 63 → b < 2 ^ 63 → X8_part_L6 x1 x3 kk (f + 1) σ (lN a) (lN b) = X8_part_L6 x1 x3 kk f σ (lN b) (lN (a % b)) := by
    intro a b f h0 ha hb
    rw [X8_part_L6, if_neg (lz_ne h0 hb), if_neg (lz_ne2 h0 hb), lt_eq, pk_lRem ha h0 hb]
  intro k
  induction k with
  | zero =>
    intro a b f hk ha hb hf
    have : b = 0 := by omega
    subst this
    rw [ex a f (by omega), Nat.gcd_zero_right]
  | succ k ih =>
    intro a b f hk ha hb hf
    by_cases h0 : b = 0
    · subst h0
      rw [ex a f (by omega), Nat.gcd_zero_right]
    · obtain ⟨g, rfl⟩ : ∃ g, f = g + 1 + 1 := ⟨f - 2, by omega⟩
      have hm := Nat.mod_lt a (show b > 0 by omega)
      rw [st a b (g + 1) (by omega) ha hb, gcd_st]
      by_cases hr : a % b = 0
      · rw [hr, ex b (g + 1) (by omega), Nat.gcd_zero_right]
      · rw [st b (a % b) g (by omega) hb (by omega), gcd_st]
        have hh := mod_half (show 0 < a % b by omega) hm
        have hm2 := Nat.mod_lt b (show a % b > 0 by omega)
        rw [Nat.pow_succ] at hk
        exact ih (a % b) (b % (a % b)) g (by omega) (by omega) (by omega) (by omega)
def tel7 (σ : Mem) (A B : Nat) : Mem := uJ (uJ σ 714 0 0 (lN (A / Nat.gcd A B))) 715 0 0 (lN (B / Nat.gcd A B))
def prt8 (σ : Mem) (A B : Nat) : Mem := uJ (uJ σ 803 0 0 (lN (A / Nat.gcd A B))) 804 0 0 (lN (B / Nat.gcd A B))
theorem gcd_b {A B : Nat} (h : 0 < B) : 0 < Nat.gcd A B ∧ Nat.gcd A B ≤ B := ⟨Nat.gcd_pos_of_pos_right A h, Nat.gcd_le_right A h⟩
theorem X7_tell_n {σ : Mem} {A B : Nat} (hA : A < 2 ^ 63) (h0 : 0 < B) (hB : B < 2 ^ 63) : X7_tell σ (lN A) (lN B) = some (tel7 σ A B, ()) := by
  obtain ⟨g1, g2⟩ := gcd_b (A := A) h0
  have L := X7_tell_L (σ := σ) (x1 := lN A) (x3 := lN B) (kk := fun s4 y => X7_tell_J45 s4 (lN A) (lN B) y) 63 A B 0 FU hB hA hB (by decide) (fu_gt (by decide))
  rw [nI_0] at L
  unfold X7_tell
  refine L.trans ?_
  unfold X7_tell_J45
  rw [if_neg (by rw [lg_cmp_le, lz64, pk_lLE (by omega) (by decide)]; omega), if_neg (lz_ne2 g1 (by omega)), if_neg (lz_ne2 g1 (by omega)), pk_lDiv hA g1 (by omega), pk_lDiv hB g1 (by omega)]
  rfl
theorem X8_part_n {σ : Mem} {A B : Nat} (hA : A < 2 ^ 63) (h0 : 0 < B) (hB : B < 2 ^ 63) : X8_part σ (lN A) (lN B) = some (prt8 σ A B, 1) := by
  obtain ⟨g1, g2⟩ := gcd_b (A := A) h0
  unfold X8_part
  refine (X8_part_L 63 A B FU hB hA hB (fu_gt (by decide))).trans ?_
  rw [if_neg (lz_ne2 g1 (by omega)), if_neg (lz_ne2 g1 (by omega)), pk_lDiv hA g1 (by omega), pk_lDiv hB g1 (by omega)]
  rfl
/-- both tell a part -/
theorem Rel_prt {σ σ1 σ2 : Mem} {A B : Nat} (h : Rel σ) (f1 : Fr Scr σ σ1) (f2 : Fr Scr (tel7 σ1 A B) σ2) : Rel (prt8 σ2 A B) := by
  have fa : Fr (fun c k => Scr c k ∨ c = 714 ∨ c = 715 ∨ c = 803 ∨ c = 804) σ1 (tel7 σ1 A B) := (Fr.uJ (Or.inr (Or.inl rfl))).tr (Fr.uJ (Or.inr (Or.inr (Or.inl rfl))))
  have fb : Fr (fun c k => Scr c k ∨ c = 714 ∨ c = 715 ∨ c = 803 ∨ c = 804) σ2 (prt8 σ2 A B) := (Fr.uJ (Or.inr (Or.inr (Or.inr (Or.inl rfl))))).tr (Fr.uJ (Or.inr (Or.inr (Or.inr (Or.inr rfl)))))
  refine Rel_J h ((((f1.mono fun _ _ => Or.inl).tr fa).tr (f2.mono fun _ _ => Or.inl)).tr fb) ?_ ?_
  · have e : (prt8 σ2 A B).2.1 714 0 0 = σ2.2.1 714 0 0 := by simp [prt8, uJ_2]
    rw [e, f2.j (by simp [Scr])]
    simp [prt8, tel7, uJ_2]
  · have e : (prt8 σ2 A B).2.1 715 0 0 = σ2.2.1 715 0 0 := by simp [prt8, uJ_2]
    rw [e, f2.j (by simp [Scr])]
    simp [prt8, tel7, uJ_2]
/-! sets of laws -/
theorem and_nI' (a b : Nat) : nI a &&& nI b = nI (a &&& b) := Int32.toBitVec_inj.mp (BitVec.eq_of_toNat_eq (by
  show (BitVec.ofNat 32 a &&& BitVec.ofNat 32 b).toNat = (BitVec.ofNat 32 (a &&& b)).toNat
  rw [BitVec.toNat_and, BitVec.toNat_ofNat, BitVec.toNat_ofNat, BitVec.toNat_ofNat, Nat.and_mod_two_pow]))
theorem xor_nI (a b : Nat) : nI a ^^^ nI b = nI (a ^^^ b) := Int32.toBitVec_inj.mp (BitVec.eq_of_toNat_eq (by
  show (BitVec.ofNat 32 a ^^^ BitVec.ofNat 32 b).toNat = (BitVec.ofNat 32 (a ^^^ b)).toNat
  rw [BitVec.toNat_xor, BitVec.toNat_ofNat, BitVec.toNat_ofNat, BitVec.toNat_ofNat, Nat.xor_mod_two_pow]))
theorem m1_nI : (-1 : Int32) = nI 4294967295 := by decide
theorem ss_dec : ∀ on, on < 256 → ∀ h, h < 256 → ((h &&& (on ^^^ 4294967295) = 0 ↔ h &&& on = h) ∧ (h &&& on = h → h ≤ on ∧ on &&& (h ^^^ 4294967295) = on - h)) := by decide +kernel
theorem ss_not {on h : Nat} (h1 : on < 256) (h2 : h < 256) : (nI h &&& (nI on ^^^ (-1 : Int32))) = 0 ↔ h &&& on = h := by
  rw [m1_nI, xor_nI, and_nI', ← (ss_dec on h1 h h2).1]
  have : h &&& (on ^^^ 4294967295) ≤ h := Nat.and_le_left
  rw [show (0 : Int32) = nI 0 from rfl, neq (by omega) (by decide)]
theorem ss_sub {on h : Nat} (h1 : on < 256) (h2 : h < 256) (hs : h &&& on = h) : nI on &&& (nI h ^^^ (-1 : Int32)) = nI (on - h) := by
  rw [m1_nI, xor_nI, and_nI', ((ss_dec on h1 h h2).2 hs).2]
theorem ss_le {on h : Nat} (h1 : on < 256) (h2 : h < 256) (hs : h &&& on = h) : h ≤ on := ((ss_dec on h1 h h2).2 hs).1
theorem ss_eq {on h : Nat} (h1 : on < 256) (h2 : h < 256) : (nI h &&& nI on) = nI h ↔ h &&& on = h := by
  rw [and_nI']
  have : h &&& on ≤ h := Nat.and_le_left
  rw [neq (by omega) (by omega)]
/-- the fewest, the least of these -/
def Best (Q : Nat → Prop) (b : Option Nat) : Prop := match b with
  | none => ∀ h, ¬ Q h
  | some x => Q x ∧ ∀ h, Q h → pop x < pop h ∨ (pop x = pop h ∧ x ≤ h)
theorem Best.cg {Q R : Nat → Prop} {b : Option Nat} (h : Best Q b) (e : ∀ x, R x ↔ Q x) : Best R b := by
  cases b with
  | none => exact fun x q => h x ((e x).mp q)
  | some x => exact ⟨(e x).mpr h.1, fun y q => h.2 y ((e y).mp q)⟩
theorem Best.uq {Q : Nat → Prop} {a b : Option Nat} (h1 : Best Q a) (h2 : Best Q b) : a = b := by
  cases a with
  | none => cases b with
    | none => rfl
    | some y => exact absurd h2.1 (h1 y)
  | some x => cases b with
    | none => exact absurd h1.1 (h2 x)
    | some y =>
      have a1 := h1.2 y h2.1
      have a2 := h2.2 x h1.1
      have : x = y := by omega
      rw [this]
def fwO (b : Option Nat) (w : Nat) : Nat := match b with
  | none => w
  | some x => pop x
/-- going up: only fewer ones are better -/
theorem Best.up {P : Nat → Prop} {i w : Nat} {b : Option Nat} (h : Best (fun h => h < i ∧ P h) b) (hw : pop i < w) : (P i ∧ pop i < fwO b w → Best (fun h => h < i + 1 ∧ P h) (some i)) ∧ (¬ (P i ∧ pop i < fwO b w) → Best (fun h => h < i + 1 ∧ P h) b) := by
  constructor
  · rintro ⟨h1, h2⟩
    refine ⟨⟨by omega, h1⟩, fun y ⟨y1, y2⟩ => ?_⟩
    by_cases e : y = i
    · subst e; exact Or.inr ⟨rfl, Nat.le_refl _⟩
    · cases b with
      | none => exact absurd ⟨by omega, y2⟩ (h y)
      | some x =>
        have h3 : pop i < pop x := h2
        have := h.2 y ⟨by omega, y2⟩
        omega
  · intro hn
    cases b with
    | none =>
      intro y ⟨y1, y2⟩
      by_cases e : y = i
      · subst e; exact hn ⟨y2, hw⟩
      · exact h y ⟨by omega, y2⟩
    | some x =>
      refine ⟨⟨by have := h.1.1; omega, h.1.2⟩, fun y ⟨y1, y2⟩ => ?_⟩
      by_cases e : y = i
      · subst e
        have h3 : ¬ pop y < pop x := fun q => hn ⟨y2, q⟩
        have := h.1.1
        omega
      · exact h.2 y ⟨by omega, y2⟩
/-- going down: as few ones are better too -/
theorem Best.dn {P : Nat → Prop} {i N : Nat} {b : Option Nat} (hi : i ≤ N) (h : Best (fun h => i + 1 ≤ h ∧ h ≤ N ∧ P h) b) : (P i ∧ (∀ x, b = some x → pop i ≤ pop x) → Best (fun h => i ≤ h ∧ h ≤ N ∧ P h) (some i)) ∧ (¬ (P i ∧ (∀ x, b = some x → pop i ≤ pop x)) → Best (fun h => i ≤ h ∧ h ≤ N ∧ P h) b) := by
  constructor
  · rintro ⟨h1, h2⟩
    refine ⟨⟨by omega, hi, h1⟩, fun y ⟨y1, y2, y3⟩ => ?_⟩
    by_cases e : y = i
    · subst e; exact Or.inr ⟨rfl, Nat.le_refl _⟩
    · cases b with
      | none => exact absurd ⟨by omega, y2, y3⟩ (h y)
      | some x =>
        have h3 := h2 x rfl
        have := h.2 y ⟨by omega, y2, y3⟩
        omega
  · intro hn
    cases b with
    | none =>
      intro y ⟨y1, y2, y3⟩
      by_cases e : y = i
      · subst e; exact hn ⟨y3, fun x q => by cases q⟩
      · exact h y ⟨by omega, y2, y3⟩
    | some x =>
      refine ⟨⟨by have := h.1.1; omega, h.1.2⟩, fun y ⟨y1, y2, y3⟩ => ?_⟩
      by_cases e : y = i
      · subst e
        have h3 : ¬ pop y ≤ pop x := fun q => hn ⟨y3, fun z w => by cases w; exact q⟩
        omega
      · exact h.2 y ⟨by omega, y2, y3⟩
theorem chI_none {b : Option Nat} (hb : ∀ x, b = some x → x < 2147483648) : chI b = -9 ↔ b = none := by
  cases b with
  | none => exact ⟨fun _ => rfl, fun _ => rfl⟩
  | some x => exact ⟨fun w => absurd w (nne_neg (hb x rfl) (by decide)), fun w => by cases w⟩
/-! silence -/
def slP (T : Nat → Nat → Int32) (n on : Nat) (s o : List Nat) (h : Nat) : Prop := h &&& on = h ∧ outS T n (on - h) s = o
theorem pk_eqo {T : Nat → Nat → Int32} {n m : Nat} {s o : List Nat} (hT : TV T n) (hs : Sg s) (h8 : s.length ≤ 8) (ho : Sg o) (h16 : o.length ≤ 16) : lg_cmp (lN (pkN (outS T n m s))) (lN (pkN o)) = 0 ↔ outS T n m s = o := by
  obtain ⟨l1, l2⟩ := outS_len (m := m) hT hs
  exact pk_eq2 l2 ho (by omega) h16
theorem X7_silence_L {σ : Mem} {n on : Nat} {T : Nat → Nat → Int32} {s o : List Nat} {kk : Mem → Int32 → Int32 → Option (Mem × Int32)} (hP : PL σ 0 n T) (hT : TV T n) (hTr : Tr σ n T s) (hon : on < 256) (ho : Sg o) (h16 : o.length ≤ 16) : ∀ (c i f : Nat) (b : Option Nat), c < f → i + c = 256 → Best (fun h => h < i ∧ slP T n on s o h) b → ∃ b', Best (fun h => h < 256 ∧ slP T n on s o h) b' ∧ X7_silence_L87 (nI on) (lN (pkN o)) kk f σ (nI (fwO b 9)) (chI b) (nI i) = kk σ (nI (fwO b' 9)) (chI b') := by
  intro c
  induction c with
  | zero =>
    intro i f b hf he hb
    obtain ⟨g, rfl⟩ : ∃ g, f = g + 1 := ⟨f - 1, by omega⟩
    have : i = 256 := by omega
    subst this
    refine ⟨b, hb, ?_⟩
    rw [X7_silence_L87, if_pos (by rw [nle_l (by omega) (by decide)]; decide)]
  | succ c ih =>
    intro i f b hf he hb
    obtain ⟨g, rfl⟩ : ∃ g, f = g + 1 := ⟨f - 1, by omega⟩
    have hp := pop_le i (by omega)
    have hfw : fwO b 9 ≤ 9 := by
      cases b with
      | none => exact Nat.le_refl _
      | some x =>
        have : x < i := hb.1.1
        have : pop x ≤ 8 := pop_le x (by omega)
        show pop x ≤ 9
        omega
    obtain ⟨u1, u2⟩ := Best.up (w := 9) hb (by omega)
    have no : ¬ (slP T n on s o i ∧ pop i < fwO b 9) → X7_silence_L87 (nI on) (lN (pkN o)) kk (g + 1) σ (nI (fwO b 9)) (chI b) (nI i) = X7_silence_L87 (nI on) (lN (pkN o)) kk g σ (nI (fwO b 9)) (chI b) (nI (i + 1)) → ∃ b', Best (fun h => h < 256 ∧ slP T n on s o h) b' ∧ X7_silence_L87 (nI on) (lN (pkN o)) kk (g + 1) σ (nI (fwO b 9)) (chI b) (nI i) = kk σ (nI (fwO b' 9)) (chI b') := by
      intro q1 q2
      obtain ⟨b', c1, c2⟩ := ih (i + 1) g b (by omega) (by omega) (u2 q1)
      exact ⟨b', c1, q2.trans c2⟩
    by_cases q : i &&& on = i
    · by_cases q2 : pop i < fwO b 9
      · have hsub : nI on - nI i = nI (on - i) := nsub (ss_le hon (by omega) q)
        by_cases q3 : outS T n (on - i) s = o
        · obtain ⟨b', c1, c2⟩ := ih (i + 1) g (some i) (by omega) (by omega) (u1 ⟨⟨q, q3⟩, q2⟩)
          refine ⟨b', c1, ?_⟩
          rw [X7_silence_L87, if_neg (by rw [nle_l (by omega) (by decide)]; omega), if_pos ((ss_eq hon (by omega)).mpr q), bc_eq, Option.bind_some]
          dsimp only
          rw [pop_bc i (by omega), if_neg (by rw [nle (by omega) (by omega)]; omega), hsub, X5_outBy_n hP hT (by omega) hTr, Option.bind_some]
          dsimp only
          rw [if_pos ((pk_eqo hT hTr.2.2.1 hTr.2.1 ho h16).mpr q3), bc_eq, Option.bind_some]
          dsimp only
          rw [pop_bc i (by omega), nadd_r]
          exact c2
        · refine no (fun w => q3 w.1.2) ?_
          rw [X7_silence_L87, if_neg (by rw [nle_l (by omega) (by decide)]; omega), if_pos ((ss_eq hon (by omega)).mpr q), bc_eq, Option.bind_some]
          dsimp only
          rw [pop_bc i (by omega), if_neg (by rw [nle (by omega) (by omega)]; omega), hsub, X5_outBy_n hP hT (by omega) hTr, Option.bind_some]
          dsimp only
          rw [if_neg (fun w => q3 ((pk_eqo hT hTr.2.2.1 hTr.2.1 ho h16).mp w)), nadd_r]
      · refine no (fun w => q2 w.2) ?_
        rw [X7_silence_L87, if_neg (by rw [nle_l (by omega) (by decide)]; omega), if_pos ((ss_eq hon (by omega)).mpr q), bc_eq, Option.bind_some]
        dsimp only
        rw [pop_bc i (by omega), if_pos (by rw [nle (by omega) (by omega)]; omega), nadd_r]
    · refine no (fun w => q w.1.1) ?_
      rw [X7_silence_L87, if_neg (by rw [nle_l (by omega) (by decide)]; omega), if_neg (fun w => q ((ss_eq hon (by omega)).mp w)), nadd_r]
theorem Sh8.s8p {σ τ : Mem} {s : List Nat} (h : Sh8 σ s) (f : Fr P78 σ τ) : Sh8 τ s := h.fr f (by simp [P78]) (by simp [P78])
theorem ML8.p8 {σ τ : Mem} {n : Nat} {T : Nat → Nat → Int32} (h : ML8 σ n T) (f : Fr P78 σ τ) : ML8 τ n T := h.fr f (by simp [P78]) (by simp [P78])
theorem Rw8.p8 {σ τ : Mem} {r : Nat} {s : List Nat} (h : Rw8 σ r s) (f : Fr P78 σ τ) : Rw8 τ r s := h.fr f (by simp [P78]) (by simp [P78])
theorem X8_silence_L {n on q : Nat} {T : Nat → Nat → Int32} {s o : List Nat} {kk : Mem → Int32 → Option (Mem × Int32)} (hT : TV T n) (hon : on < 256) (hq : q < 6) (ho : Sg o) : ∀ (j f : Nat) (σ : Mem) (b : Option Nat), j < f → j ≤ on + 1 → ML8 σ n T → Sh8 σ s → Rw8 σ q o → Best (fun h => j ≤ h ∧ h ≤ on ∧ slP T n on s o h) b → ∃ τ b', Fr P78 σ τ ∧ Best (fun h => 0 ≤ h ∧ h ≤ on ∧ slP T n on s o h) b' ∧ X8_silence_L32 (nI q) (nI on) kk f σ (chI b) (nI j - 1) = kk τ (chI b') := by
  intro j
  induction j with
  | zero =>
    intro f σ b hf hj hM hS hR hb
    obtain ⟨g, rfl⟩ : ∃ g, f = g + 1 := ⟨f - 1, by omega⟩
    refine ⟨σ, b, Fr.rf, hb, ?_⟩
    rw [X8_silence_L32, if_pos i32_m1]
  | succ i ih =>
    intro f σ b hf hj hM hS hR hb
    obtain ⟨g, rfl⟩ : ∃ g, f = g + 1 := ⟨f - 1, by omega⟩
    have e0 : nI (i + 1) - 1 = nI i := by rw [nsub_r (by show 1 ≤ i + 1; omega)]; rfl
    have hbx : ∀ x, b = some x → x < 256 := by
      intro x e
      subst e
      have := hb.1.2.1
      omega
    obtain ⟨u1, u2⟩ := Best.dn (show i ≤ on by omega) hb
    rw [e0]
    have keep : ∀ (τ : Mem) (b1 : Option Nat), Fr P78 σ τ → Best (fun h => i ≤ h ∧ h ≤ on ∧ slP T n on s o h) b1 → ∃ υ b', Fr P78 σ υ ∧ Best (fun h => 0 ≤ h ∧ h ≤ on ∧ slP T n on s o h) b' ∧ X8_silence_L32 (nI q) (nI on) kk g τ (chI b1) (nI i + -1) = kk υ (chI b') := by
      intro τ b1 f1 hb1
      obtain ⟨υ, b', c1, c2, c3⟩ := ih g τ b1 (by omega) (by omega) (hM.p8 f1) (hS.s8p f1) (hR.p8 f1) hb1
      refine ⟨υ, b', f1.tr c1, c2, ?_⟩
      rw [sub_neg1]
      exact c3
    by_cases q1 : i &&& on = i
    · have tst : (∀ x, b = some x → pop i ≤ pop x) → ∃ υ b', Fr P78 σ υ ∧ Best (fun h => 0 ≤ h ∧ h ≤ on ∧ slP T n on s o h) b' ∧ X8_silence_J67 σ (nI q) (nI on) (chI b) (nI i) (X8_silence_L32 (nI q) (nI on) kk g) kk = kk υ (chI b') := by
        intro hle
        obtain ⟨τ, t1, t2, t3⟩ := X8_setBy_n (m := on - i) hM hT (by omega) hS
        have t4 := X8_isOut_n hq t3 (hR.p8 t2) ho
        have f1 : Fr P78 σ τ := t2
        unfold X8_silence_J67
        rw [ss_sub hon (by omega) q1, t1, Option.bind_some]
        dsimp only
        rw [t4, Option.bind_some]
        dsimp only
        by_cases q3 : outS T n (on - i) s = o
        · rw [decide_eq_true q3, bI_t, if_neg one_ne0]
          obtain ⟨υ, b', c1, c2, c3⟩ := keep τ (some i) f1 (u1 ⟨⟨q1, q3⟩, hle⟩)
          exact ⟨υ, b', c1, c2, c3⟩
        · rw [decide_eq_false q3, bI_f, if_pos rfl]
          obtain ⟨υ, b', c1, c2, c3⟩ := keep τ b f1 (u2 (fun w => q3 w.1.2))
          exact ⟨υ, b', c1, c2, c3⟩
      rw [X8_silence_L32, if_neg (nnlt0 (by omega)), if_pos ((ss_not hon (by omega)).mpr q1)]
      cases hbb : b with
      | none =>
        rw [hbb] at tst
        rw [if_pos (show chI none = -9 from rfl)]
        exact tst (fun x w => by cases w)
      | some x =>
        have hx := hbx x hbb
        have p1 := pop_le x hx
        have p2 := pop_le i (by omega)
        rw [hbb] at tst
        rw [show chI (some x) = nI x from rfl] at tst ⊢
        rw [if_neg (nne_neg (by omega) (by decide)), X8_sizeOf_n (by omega), Option.bind_some]
        dsimp only
        rw [X8_sizeOf_n (by omega), Option.bind_some]
        dsimp only
        by_cases q2 : pop x < pop i
        · rw [if_pos (by rw [nlt (by omega) (by omega)]; exact q2)]
          have := keep σ b Fr.rf (u2 (fun w => by have := w.2 x hbb; omega))
          rw [hbb] at this
          exact this
        · rw [if_neg (by rw [nlt (by omega) (by omega)]; exact q2)]
          exact tst (fun y w => by cases w; omega)
    · rw [X8_silence_L32, if_neg (nnlt0 (by omega)), if_neg (fun w => q1 ((ss_not hon (by omega)).mp w))]
      exact keep σ b Fr.rf (u2 (fun w => q1 w.1.1))
