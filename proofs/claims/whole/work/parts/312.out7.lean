/-- a row of the class that holds these signs -/
def RowS (σ : Mem) (r : Nat) (s : List Nat) : Prop := σ.1 401 r 0 = nI s.length ∧ s.length ≤ rl r ∧ (∀ v ∈ s, v < 6) ∧ ∀ j, j < s.length → σ.1 400 r j = nI (s.getD j 0)
theorem getD_app {pre : List Nat} {a : Nat} {t : List Nat} : (pre ++ a :: t).getD pre.length 0 = a := by simp [List.getD_eq_getElem?_getD]
theorem getD_app1 {pre : List Nat} {a b : Nat} {t : List Nat} : (pre ++ a :: b :: t).getD (pre.length + 1) 0 = b := by
  simp [List.getD_eq_getElem?_getD, List.getElem?_append_right]
theorem X2_outOf_L {σ : Mem} {p n m r : Nat} {T : Nat → Nat → Int32} {s : List Nat} {kk : Mem → Int64 → Option (Mem × Int64)} (hp : p < 4) (hr : r < 11) (hP : PL σ p n T) (hT : TV T n) (hm : m < 2147483648) (hS : RowS σ r s) (h8 : s.length ≤ 8) : ∀ (rest pre : List Nat) (f A : Nat), s = pre ++ rest → rest.length < f → A < 8 ^ (2 * pre.length) → X2_outOf_L5 p r (nI m) kk f σ (lN A) (nI pre.length) = kk σ (lN (fld (outS T n m rest) A)) := by
  obtain ⟨s1, s2, s3, s4⟩ := hS
  have h60 := rl_le r
  intro rest
  induction rest with
  | nil =>
    intro pre f A hs hf hA
    obtain ⟨g, rfl⟩ : ∃ g, f = g + 1 := ⟨f - 1, by omega⟩
    have hl : s.length = pre.length := by rw [hs]; simp
    rw [X2_outOf_L5, s1, if_pos (by rw [nle (by omega) (by omega)]; omega)]
    rfl
  | cons a t ih =>
    intro pre f A hs hf hA
    obtain ⟨g, rfl⟩ : ∃ g, f = g + 1 := ⟨f - 1, by omega⟩
    have hl : s.length = pre.length + (t.length + 1) := by rw [hs]; simp
    have ha : a < 6 := s3 a (by rw [hs]; simp)
    have e1 : σ.1 400 r pre.length = nI a := by rw [s4 pre.length (by omega), hs, getD_app]
    have e2 : X4_behind σ r (nI pre.length) = some (σ, nI (t.headD 6)) := by
      cases t with
      | nil => exact X4_behind_out hr s1 (by omega) (by simp at hl; omega) (by omega)
      | cons b u =>
        rw [X4_behind_in hr s1 s2 (by simp at hl; omega), s4 (pre.length + 1) (by simp at hl; omega), hs, getD_app1]
        rfl
    have hb : t.headD 6 < 7 := by
      cases t with
      | nil => decide
      | cons b u =>
        have : b < 6 := s3 b (by rw [hs]; simp)
        simp; omega
    have hA2 : A < 2 ^ 54 := by
      have q1 : 8 ^ (2 * pre.length) ≤ 8 ^ 16 := Nat.pow_le_pow_right (by decide) (by omega)
      have q2 : (8 : Nat) ^ 16 < 2 ^ 54 := by decide
      omega
    rw [X2_outOf_L5, s1, if_neg (by rw [nle (by omega) (by omega)]; omega), if_neg (by rw [nle_l (by omega) (by decide)]; omega), X4_cell_in hr s1 s2 (by omega)]
    dsimp only [Option.bind_some]
    rw [e2]
    dsimp only [Option.bind_some]
    rw [e1, X2_outOfSign_n hp hP hT hm ha hb hA2]
    dsimp only [Option.bind_some]
    have hlen := pcS_ok (m := m) (nx := t.headD 6) hT ha
    have := ih (pre ++ [a]) g (fld (pcS T n m a (t.headD 6)) A) (by rw [hs]; simp) (by simp at hf; omega) (by
      have q := fld_lt (k := 2 * pre.length) hlen.2 hA
      refine Nat.lt_of_lt_of_le q (Nat.pow_le_pow_right (by decide) ?_)
      rw [List.length_append]
      show _ ≤ 2 * (pre.length + 1)
      have := hlen.1
      omega)
    rw [List.length_append] at this
    rw [nadd_r]
    show X2_outOf_L5 p r (nI m) kk g σ _ (nI (pre.length + 1)) = _
    rw [show pre.length + [a].length = pre.length + 1 from rfl] at this
    rw [this, outS]
    unfold fld
    rw [List.foldl_append]
theorem X2_outOf_n {σ : Mem} {p n m r : Nat} {T : Nat → Nat → Int32} {s : List Nat} (hp : p < 4) (hr : r < 11) (hP : PL σ p n T) (hT : TV T n) (hm : m < 2147483648) (hS : RowS σ r s) (h8 : s.length ≤ 8) : X2_outOf σ p r (nI m) = some (σ, lN (pkN (outS T n m s))) := by
  unfold X2_outOf
  rw [if_pos hp, if_pos hr]
  have := X2_outOf_L (kk := fun s v => some (s, v)) hp hr hP hT hm hS h8 s [] FU 0 rfl (fu_gt (by omega)) (by decide)
  exact this
/-! which laws are on -/
theorem or_nI (a b : Nat) : nI a ||| nI b = nI (a ||| b) := Int32.toBitVec_inj.mp (BitVec.eq_of_toNat_eq (by
  show (BitVec.ofNat 32 a ||| BitVec.ofNat 32 b).toNat = (BitVec.ofNat 32 (a ||| b)).toNat
  rw [BitVec.toNat_or, BitVec.toNat_ofNat, BitVec.toNat_ofNat, BitVec.toNat_ofNat, Nat.or_mod_two_pow]))
theorem one_shl {k : Nat} (hk : k < 31) : (1 : Int32) <<< (nI k &&& 31) = nI (2 ^ k) := by
  have h : 1 * 2 ^ k < 2 ^ 32 := by
    have : 2 ^ k < 2 ^ 32 := Nat.pow_lt_pow_right (by decide) (by omega)
    omega
  have := pk_shlN (n := 1) (nI k &&& 31) k (s_l k (by omega)) h
  rw [Nat.one_mul] at this
  exact this
def onF (T : Nat → Nat → Int32) (k a : Nat) : Nat := if T k 4 = 0 then a ||| 2 ^ k else a
def onM (T : Nat → Nat → Int32) (n : Nat) : Nat := fo (onF T) n 0 0
theorem X2_onSet_L {σ : Mem} {p n : Nat} {T : Nat → Nat → Int32} {kk : Mem → Int32 → Option (Mem × Int32)} (hP : PL σ p n T) : ∀ (c i f a : Nat), c < f → i + c = n → X2_onSet_L4 p kk f σ (nI a) (nI i) = kk σ (nI (fo (onF T) c i a)) := by
  intro c
  have h8 := hP.2.1
  induction c with
  | zero =>
    intro i f a hf he
    obtain ⟨g, rfl⟩ : ∃ g, f = g + 1 := ⟨f - 1, by omega⟩
    rw [X2_onSet_L4, hP.1, if_pos (by rw [nle (by omega) (by omega)]; omega)]
    rfl
  | succ c ih =>
    intro i f a hf he
    obtain ⟨g, rfl⟩ : ∃ g, f = g + 1 := ⟨f - 1, by omega⟩
    obtain ⟨x, x1, x2, x3⟩ := hP.2.2 i (by omega)
    have x4 : σ.1 104 x 0 = T i 4 := x3 4 (by decide)
    rw [X2_onSet_L4, hP.1, if_neg (by rw [nle (by omega) (by omega)]; omega), ck_n (by omega) (by decide), ncl (by omega), x1, spl_some x2, x4, fo]
    unfold onF lt_
    by_cases e : T i 4 = 0
    · rw [if_pos e, if_pos e, one_shl (by omega), or_nI, nadd_r]
      exact ih (i + 1) g _ (by omega) (by omega)
    · rw [if_neg e, if_neg e, show (0 : Int32) = nI 0 from rfl, or_nI, Nat.or_zero, nadd_r]
      exact ih (i + 1) g _ (by omega) (by omega)
theorem X2_onSet_n {σ : Mem} {p n : Nat} {T : Nat → Nat → Int32} (hp : p < 4) (hP : PL σ p n T) : X2_onSet σ p = some (σ, nI (onM T n)) := by
  have h8 := hP.2.1
  unfold X2_onSet
  rw [if_pos hp]
  exact X2_onSet_L (kk := fun s v => some (s, v)) hP n 0 FU 0 (fu_gt (by omega)) (by omega)
theorem onM_lt (T : Nat → Nat → Int32) : ∀ (c i a : Nat), a < 2 ^ i → fo (onF T) c i a < 2 ^ (i + c) := by
  intro c
  induction c with
  | zero => intro i a h; exact h
  | succ c ih =>
    intro i a h
    rw [fo, show i + (c + 1) = i + 1 + c by omega]
    refine ih (i + 1) _ ?_
    have h2 : 2 ^ i < 2 ^ (i + 1) := Nat.pow_lt_pow_right (by decide) (by omega)
    unfold onF
    split
    · exact Nat.or_lt_two_pow (by omega) h2
    · omega
theorem onM_256 {T : Nat → Nat → Int32} {n : Nat} (h : n ≤ 8) : onM T n < 256 := by
  have h1 := onM_lt T n 0 0 (by decide)
  have h2 : 2 ^ (0 + n) ≤ 2 ^ 8 := Nat.pow_le_pow_right (by decide) (by omega)
  have h3 : (2 : Nat) ^ 8 = 256 := by decide
  unfold onM
  omega
/-- the model's laws -/
def ML8 (σ : Mem) (n : Nat) (T : Nat → Nat → Int32) : Prop := σ.1 810 0 0 = nI n ∧ n ≤ 8 ∧ ∀ k, k < n → ∀ f, f < 5 → σ.1 811 0 (5 * k + f) = T k f
theorem X8_onSet_L {σ : Mem} {n : Nat} {T : Nat → Nat → Int32} {kk : Mem → Int32 → Option (Mem × Int32)} (hP : ML8 σ n T) : ∀ (c i f a : Nat), c < f → i + c = n → X8_onSet_L4 kk f σ (nI a) (nI i) = kk σ (nI (fo (onF T) c i a)) := by
  intro c
  have h8 := hP.2.1
  induction c with
  | zero =>
    intro i f a hf he
    obtain ⟨g, rfl⟩ : ∃ g, f = g + 1 := ⟨f - 1, by omega⟩
    rw [X8_onSet_L4, hP.1, if_pos (by rw [nle (by omega) (by omega)]; omega)]
    rfl
  | succ c ih =>
    intro i f a hf he
    obtain ⟨g, rfl⟩ : ∃ g, f = g + 1 := ⟨f - 1, by omega⟩
    have x4 := hP.2.2 i (by omega) 4 (by decide)
    rw [X8_onSet_L4, hP.1, if_neg (by rw [nle (by omega) (by omega)]; omega), nmul_l, nadd_r]
    show ck (nI (5 * i + 4)) 40 _ = _
    rw [ck_n (by omega) (by decide), ncl (show 5 * i + 4 < 2147483648 by omega), x4, fo]
    unfold onF lt_
    by_cases e : T i 4 = 0
    · rw [if_pos e, if_pos e, one_shl (by omega), or_nI, nadd_r]
      exact ih (i + 1) g _ (by omega) (by omega)
    · rw [if_neg e, if_neg e, show (0 : Int32) = nI 0 from rfl, or_nI, Nat.or_zero, nadd_r]
      exact ih (i + 1) g _ (by omega) (by omega)
theorem X8_onSet_n {σ : Mem} {n : Nat} {T : Nat → Nat → Int32} (hP : ML8 σ n T) : X8_onSet σ = some (σ, nI (onM T n)) := by
  have h8 := hP.2.1
  unfold X8_onSet
  exact X8_onSet_L (kk := fun s v => some (s, v)) hP n 0 FU 0 (fu_gt (by omega)) (by omega)
