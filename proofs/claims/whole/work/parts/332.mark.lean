theorem lz64 : (0 : Int64) = lN 0 := rfl
/-! kinds -/
def isOfB (q kd : Nat) : Bool := decide (q = 0) || decide (q = kd) || (decide (q = 3) && decide (kd = 4)) || (decide (q = 2) && decide (kd = 5))
theorem X1_isOf_n {σ : Mem} {x kd q : Nat} (hx : x < 41) (h : σ.1 100 x 0 = nI kd) (hk : kd < 6) (hq : q < 6) : X1_isOf σ x (nI q) = some (σ, bI (isOfB q kd)) := by
  unfold X1_isOf
  rw [if_pos hx, h]
  match q, hq, kd, hk with
  | 0, _, 0, _ | 0, _, 1, _ | 0, _, 2, _ | 0, _, 3, _ | 0, _, 4, _ | 0, _, 5, _ => rfl
  | 1, _, 0, _ | 1, _, 1, _ | 1, _, 2, _ | 1, _, 3, _ | 1, _, 4, _ | 1, _, 5, _ => rfl
  | 2, _, 0, _ | 2, _, 1, _ | 2, _, 2, _ | 2, _, 3, _ | 2, _, 4, _ | 2, _, 5, _ => rfl
  | 3, _, 0, _ | 3, _, 1, _ | 3, _, 2, _ | 3, _, 3, _ | 3, _, 4, _ | 3, _, 5, _ => rfl
  | 4, _, 0, _ | 4, _, 1, _ | 4, _, 2, _ | 4, _, 3, _ | 4, _, 4, _ | 4, _, 5, _ => rfl
  | 5, _, 0, _ | 5, _, 1, _ | 5, _, 2, _ | 5, _, 3, _ | 5, _, 4, _ | 5, _, 5, _ => rfl
  | q + 6, hq, _, _ => omega
  | _, _, kd + 6, hk => omega
theorem X8_isA_n {σ : Mem} {k kd q : Nat} (hk8 : k < 8) (h : σ.1 811 0 (5 * k) = nI kd) (hk : kd < 6) (hq0 : 0 < q) (hq : q < 6) : X8_isA σ (nI k) (nI q) = some (σ, bI (isOfB q kd)) := by
  unfold X8_isA
  rw [nmul_l]
  show ck (nI (5 * k)) 40 (lt_ (σ.1 811 0 (nI (5 * k)).toNatClampNeg) _) = _
  rw [ck_n (by omega) (by decide), lt_eq, ncl (by omega), h]
  match q, hq0, hq, kd, hk with
  | 0, h0, _, _, _ => omega
  | 1, _, _, 0, _ | 1, _, _, 1, _ | 1, _, _, 2, _ | 1, _, _, 3, _ | 1, _, _, 4, _ | 1, _, _, 5, _ => rfl
  | 2, _, _, 0, _ | 2, _, _, 1, _ | 2, _, _, 2, _ | 2, _, _, 3, _ | 2, _, _, 4, _ | 2, _, _, 5, _ => rfl
  | 3, _, _, 0, _ | 3, _, _, 1, _ | 3, _, _, 2, _ | 3, _, _, 3, _ | 3, _, _, 4, _ | 3, _, _, 5, _ => rfl
  | 4, _, _, 0, _ | 4, _, _, 1, _ | 4, _, _, 2, _ | 4, _, _, 3, _ | 4, _, _, 4, _ | 4, _, _, 5, _ => rfl
  | 5, _, _, 0, _ | 5, _, _, 1, _ | 5, _, _, 2, _ | 5, _, _, 3, _ | 5, _, _, 4, _ | 5, _, _, 5, _ => rfl
  | q + 6, _, hq, _, _ => omega
  | _, _, _, kd + 6, hk => omega
/-! counting -/
def cn (p : Nat → Bool) : Nat → Nat → Nat
  | 0, _ => 0
  | c + 1, i => (if p i = true then 1 else 0) + cn p c (i + 1)
theorem cn_le {p : Nat → Bool} : ∀ c i, cn p c i ≤ c := by
  intro c
  induction c with
  | zero => intro i; exact Nat.le_refl _
  | succ c ih => intro i; rw [cn]; have := ih (i + 1); split <;> omega
theorem cn_cg {p q : Nat → Bool} : ∀ c i, (∀ j, i ≤ j → j < i + c → p j = q j) → cn p c i = cn q c i := by
  intro c
  induction c with
  | zero => intros; rfl
  | succ c ih =>
    intro i h
    rw [cn, cn, h i (by omega) (by omega), ih (i + 1) (fun j h1 h2 => h j (by omega) (by omega))]
theorem cn_no {p : Nat → Bool} : ∀ c i, (∀ j, i ≤ j → j < i + c → p j = false) → cn p c i = 0 := by
  intro c
  induction c with
  | zero => intros; rfl
  | succ c ih =>
    intro i h
    rw [cn, h i (by omega) (by omega), ih (i + 1) (fun j h1 h2 => h j (by omega) (by omega))]
    rfl
theorem cn_add {p : Nat → Bool} : ∀ c d i, cn p (c + d) i = cn p c i + cn p d (i + c) := by
  intro c
  induction c with
  | zero => intro d i; simp [cn]
  | succ c ih =>
    intro d i
    rw [show c + 1 + d = (c + d) + 1 by omega, cn, cn, ih, show i + 1 + c = i + (c + 1) by omega, Nat.add_assoc]
theorem cn_but {p : Nat → Bool} {k : Nat} (hk : p k = true) : ∀ c i, cn p c i = cn (fun j => decide (j ≠ k) && p j) c i + (if i ≤ k ∧ k < i + c then 1 else 0) := by
  intro c
  induction c with
  | zero => intro i; rw [cn, cn, if_neg (by omega)]
  | succ c ih =>
    intro i
    rw [cn, cn, ih (i + 1)]
    by_cases q : i = k
    · subst q
      rw [if_pos hk, if_neg (show ¬ (i + 1 ≤ i ∧ i < i + 1 + c) by omega), if_pos (show i ≤ i ∧ i < i + (c + 1) by omega), if_neg (by simp)]
      omega
    · have b : (decide (i ≠ k) && p i) = p i := by simp [q]
      have e : (i + 1 ≤ k ∧ k < i + 1 + c) ↔ (i ≤ k ∧ k < i + (c + 1)) := by omega
      rw [b]
      simp only [e]
      omega
theorem X2_lawsOf_L {σ : Mem} {p n : Nat} {T : Nat → Nat → Int32} {v : Int32} {kk : Mem → Int32 → Option (Mem × Int32)} (hP : PL σ p n T) : ∀ (c i f a : Nat), c < f → i + c = n → X2_lawsOf_L4 p v kk f σ (nI a) (nI i) = kk σ (nI (a + cn (fun j => decide (T j 1 = v)) c i)) := by
  intro c
  have h8 := hP.2.1
  induction c with
  | zero =>
    intro i f a hf he
    obtain ⟨g, rfl⟩ : ∃ g, f = g + 1 := ⟨f - 1, by omega⟩
    rw [X2_lawsOf_L4, hP.1, if_pos (by rw [nle (by omega) (by omega)]; omega)]
    rfl
  | succ c ih =>
    intro i f a hf he
    obtain ⟨g, rfl⟩ : ∃ g, f = g + 1 := ⟨f - 1, by omega⟩
    obtain ⟨x, x1, x2, x3⟩ := hP.2.2 i (by omega)
    have x4 : σ.1 101 x 0 = T i 1 := x3 1 (by decide)
    rw [X2_lawsOf_L4, hP.1, if_neg (by rw [nle (by omega) (by omega)]; omega), ck_n (by omega) (by decide), ncl (by omega), x1, spl_some x2, x4, cn]
    by_cases e : T i 1 = v
    · rw [if_pos e, lt_eq, nadd_r, nadd_r, ih (i + 1) g _ (by omega) (by omega)]
      simp [e, Nat.add_assoc]
    · rw [if_neg e, lt_eq, nadd_r, nadd_r, ih (i + 1) g _ (by omega) (by omega)]
      simp [e]
theorem X8_othersOf_L {σ : Mem} {n k : Nat} {T : Nat → Nat → Int32} {kk : Mem → Int32 → Option (Mem × Int32)} (hM : ML8 σ n T) (hk : k < n) : ∀ (c i f a : Nat), c < f → i + c = n → X8_othersOf_L4 (nI k) kk f σ (nI a) (nI i) = kk σ (nI (a + cn (fun j => decide (j ≠ k) && decide (T j 1 = T k 1)) c i)) := by
  intro c
  have h8 := hM.2.1
  induction c with
  | zero =>
    intro i f a hf he
    obtain ⟨g, rfl⟩ : ∃ g, f = g + 1 := ⟨f - 1, by omega⟩
    rw [X8_othersOf_L4, hM.1, if_pos (by rw [nle (by omega) (by omega)]; omega)]
    rfl
  | succ c ih =>
    intro i f a hf he
    obtain ⟨g, rfl⟩ : ∃ g, f = g + 1 := ⟨f - 1, by omega⟩
    rw [X8_othersOf_L4, hM.1, if_neg (by rw [nle (by omega) (by omega)]; omega), cn]
    by_cases q : i = k
    · rw [if_pos (by rw [q]), lt_eq, nadd_r, nadd_r, ih (i + 1) g _ (by omega) (by omega)]
      simp [q]
    · rw [if_neg (by rw [neq (by omega) (by omega)]; exact q), nmul_l, nadd_r, nmul_l, nadd_r]
      show ck (nI (5 * i + 1)) 40 (ck (nI (5 * k + 1)) 40 (if σ.1 811 0 (nI (5 * i + 1)).toNatClampNeg = σ.1 811 0 (nI (5 * k + 1)).toNatClampNeg then _ else _)) = _
      rw [ck_n (by omega) (by decide), ck_n (by omega) (by decide), ncl (by omega), ncl (by omega), hM.2.2 i (by omega) 1 (by decide), hM.2.2 k hk 1 (by decide)]
      by_cases e : T i 1 = T k 1
      · rw [if_pos e, lt_eq, nadd_r, nadd_r, ih (i + 1) g _ (by omega) (by omega)]
        simp [e, q, Nat.add_assoc]
      · rw [if_neg e, lt_eq, nadd_r, nadd_r, ih (i + 1) g _ (by omega) (by omega)]
        simp [e]
theorem X2_lawsOf_n {σ : Mem} {p n : Nat} {T : Nat → Nat → Int32} {v : Int32} (hp : p < 4) (hP : PL σ p n T) : X2_lawsOf σ p v = some (σ, nI (cn (fun j => decide (T j 1 = v)) n 0)) := by
  have h8 := hP.2.1
  have L := X2_lawsOf_L (v := v) (kk := fun s7 y => some (s7, y)) hP n 0 FU 0 (fu_gt (by omega)) (by omega)
  rw [nI_0, Nat.zero_add] at L
  unfold X2_lawsOf
  rw [if_pos hp]
  exact L
theorem X8_othersOf_n {σ : Mem} {n k : Nat} {T : Nat → Nat → Int32} (hM : ML8 σ n T) (hk : k < n) : X8_othersOf σ (nI k) = some (σ, nI (cn (fun j => decide (j ≠ k) && decide (T j 1 = T k 1)) n 0)) := by
  have h8 := hM.2.1
  have L := X8_othersOf_L (kk := fun s7 y => some (s7, y)) hM hk n 0 FU 0 (fu_gt (by omega)) (by omega)
  rw [nI_0, Nat.zero_add] at L
  unfold X8_othersOf
  exact L
theorem X8_lay1 {σ : Mem} {v : Nat} (hv : v < 6) : ∃ τ, X8_lay_ σ (nI v) (-9) = some (τ, ()) ∧ Fr S8 σ τ ∧ Sh8 τ [v] := by
  refine ⟨uI (uI (uI σ 816 0 0 1) 815 0 0 (nI v)) 815 0 1 (-9), ?_, ((Fr.uI (by simp [S8])).tr (Fr.uI (by simp [S8]))).tr (Fr.uI (by simp [S8])), ?_⟩
  · unfold X8_lay_
    rw [if_pos rfl, show (0 : Int32) = nI 0 from rfl, ck_n (by decide) (by decide), show (1 : Int32) = nI 1 from rfl, ck_n (by decide) (by decide)]
    rfl
  · refine ⟨by simp [uI_1]; rfl, by simp, fun w hw => by simp at hw; omega, fun j hj => ?_⟩
    simp at hj
    subst hj
    simp [uI_1]
theorem X8_lay2 {σ : Mem} {v w : Nat} (hv : v < 6) (hw : w < 6) : ∃ τ, X8_lay_ σ (nI v) (nI w) = some (τ, ()) ∧ Fr S8 σ τ ∧ Sh8 τ [v, w] := by
  refine ⟨uI (uI (uI σ 816 0 0 2) 815 0 0 (nI v)) 815 0 1 (nI w), ?_, ((Fr.uI (by simp [S8])).tr (Fr.uI (by simp [S8]))).tr (Fr.uI (by simp [S8])), ?_⟩
  · unfold X8_lay_
    rw [if_neg (nne_neg (by omega) (by decide)), show (0 : Int32) = nI 0 from rfl, ck_n (by decide) (by decide), show (1 : Int32) = nI 1 from rfl, ck_n (by decide) (by decide)]
    rfl
  · refine ⟨by simp [uI_1]; rfl, by simp, fun y hy => by simp at hy; omega, fun j hj => ?_⟩
    simp at hj
    match j, hj with
    | 0, _ => simp [uI_1]
    | 1, _ => simp [uI_1]
    | j + 2, h => omega
theorem fld0 (l : List Nat) : fld l 0 = pkN l := rfl
theorem chI_eq {o : Option Nat} {k : Nat} (hk : k < 2147483648) (ho : ∀ j, o = some j → j < 2147483648) : (chI o = nI k) ↔ o = some k := by
  cases o with
  | none => exact ⟨fun h => absurd h.symm (nne_neg hk (by decide)), fun h => by cases h⟩
  | some j =>
    show nI j = nI k ↔ _
    rw [neq (ho j rfl) hk]
    exact ⟨fun h => by rw [h], fun h => Option.some.inj h⟩
theorem op_mark {σ : Mem} (h : Rel σ) (a b : Int32) : Both (fun σ => X7_mark σ a b) (fun σ => X8_mark σ a b) σ := by
  obtain ⟨n, hn, h1, h2, hP, hM, hT⟩ := h.press
  rcases isL hn a with ⟨a7, a8⟩ | ⟨k, hk, rfl⟩
  · refine Both.mk' (σ1 := σ) (σ2 := σ) (r := -1) ?_ ?_ h
    · simp only [X7_mark, a7 σ _ hP, Option.bind_some, spl_none]
    · show X8_mark _ _ _ = _
      unfold X8_mark
      rw [a8 σ h1]
      rfl
  obtain ⟨x, x1, x2, x3⟩ := hP.2.2 k hk
  have e7 : X7_mark σ (nI k) b = if b ≤ 0 then some (σ, -1) else if b < 6 then ((X1_isOf σ x b).bind fun q3 => if q3.2 = 0 then ((X7_answer q3.1 (3 : Int32)).bind fun q17 => some (q17.1, q17.2)) else (if b = (1 : Int32) then ((X2_inksOf q3.1 0 ((q3.1.1 101 x 0))).bind fun q4 => some (q4.1, q4.2)) else if b = (2 : Int32) then ((X2_lawsOf q3.1 0 ((q3.1.1 101 x 0))).bind fun q6 => some (q6.1, (q6.2 - (1 : Int32)))) else if b = (3 : Int32) then ((X2_onSet q3.1 0).bind fun q8 => (X2_chosen q8.1 0 ((q3.1.1 101 x 0)) ((q3.1.1 103 x 0)) q8.2).bind fun q9 => if q9.2 = nI k then ((some (q9.1, (1 : Int32)))) else (some (q9.1, (0 : Int32)))) else if b = (4 : Int32) then ((X2_onSet q3.1 0).bind fun q11 => (X2_chosen q11.1 0 ((q3.1.1 101 x 0)) (6 : Int32) q11.2).bind fun q12 => if q12.2 = nI k then ((some (q12.1, (1 : Int32)))) else (some (q12.1, (0 : Int32)))) else ((X2_onSet q3.1 0).bind fun q14 => (X2_outOfSign q14.1 0 ((q3.1.1 102 x 0)) (6 : Int32) q14.2 (0 : Int64)).bind fun q15 => (X7_packed q15.1 (0 : Int64) ((q15.1.1 102 x 0))).bind fun q16 => if (lg_cmp q15.2 q16.2) = 0 then ((some (q16.1, (1 : Int32)))) else (some (q16.1, (0 : Int32)))))) else some (σ, -1) := by
    simp only [X7_mark, X2_numbered_n (by decide) hP hk x1 x2, Option.bind_some]
    rw [spl_some x2]
  by_cases hb0 : b ≤ 0
  · refine Both.mk' (σ1 := σ) (σ2 := σ) (r := -1) ?_ ?_ h
    · show X7_mark _ _ _ = _
      rw [e7, if_pos hb0]
    · show X8_mark _ _ _ = _
      unfold X8_mark
      rw [X8_isLaw_k h1 hn hk]
      dsimp only [Option.bind_some]
      rw [if_neg one_ne0, in_bad (Or.inl (by
        rw [Int32.le_iff_toInt_le] at hb0
        rw [Int32.lt_iff_toInt_lt]
        have : (0 : Int32).toInt = 0 := rfl
        have : (1 : Int32).toInt = 1 := rfl
        omega))]
      rfl
  by_cases hb6 : b < 6
  case neg =>
    refine Both.mk' (σ1 := σ) (σ2 := σ) (r := -1) ?_ ?_ h
    · show X7_mark _ _ _ = _
      rw [e7, if_neg hb0, if_neg hb6]
    · show X8_mark _ _ _ = _
      unfold X8_mark
      rw [X8_isLaw_k h1 hn hk]
      dsimp only [Option.bind_some]
      rw [if_neg one_ne0, in_bad (Or.inr (by
        rw [Int32.lt_iff_toInt_lt] at hb6 ⊢
        have : (6 : Int32).toInt = 6 := rfl
        have : (5 : Int32).toInt = 5 := rfl
        omega))]
      rfl
  obtain ⟨q, hq0, hq6, rfl⟩ : ∃ q, 0 < q ∧ q < 6 ∧ b = nI q := by
    rcases ix3 b 6 with w | ⟨j, j1, j2, rfl⟩ | ⟨j, j1, j2, rfl⟩
    · exact absurd (i32_le0 w) hb0
    · exact absurd hb6 (by rw [nlt_r j2 (by decide)]; omega)
    · refine ⟨j, ?_, j1, rfl⟩
      have : ¬ j ≤ 0 := fun w => hb0 (by rw [nle_r j2 (by decide)]; exact w)
      omega
  obtain ⟨kd, xx, k1, k2, k3, k4, k5, k6, k7⟩ := hT k hk
  have f0 : σ.1 100 x 0 = nI kd := by rw [← k3]; exact x3 0 (by decide)
  have f1 : σ.1 101 x 0 = nI xx := by rw [← k4]; exact x3 1 (by decide)
  have m0 : σ.1 811 0 (5 * k) = nI kd := k3
  have m1 : σ.1 811 0 (5 * k + 1) = nI xx := k4
  have on := onM_256 (T := fun k f => σ.1 811 0 (5 * k + f)) hn
  have e8 : ∀ τ : Mem, (∀ j, τ.1 810 0 j = σ.1 810 0 j) → (∀ j, τ.1 811 0 j = σ.1 811 0 j) → X8_mark τ (nI k) (nI q) = if bI (isOfB q kd) = 0 then some (met8 τ 3, -3) else ((X8_marked τ (nI k) (nI q)).bind fun q5 => some (q5.1, q5.2)) := by
    intro τ t0 t1
    unfold X8_mark
    rw [X8_isLaw_k (n := n) (by rw [t0]; exact h1) hn hk]
    dsimp only [Option.bind_some]
    rw [if_neg one_ne0, in_ok (by rw [nlt_r (by omega) (by decide)]; omega) (by rw [nlt_l (by omega) (by decide)]; omega)]
    dsimp only [Option.bind_some]
    rw [if_neg one_ne0, X8_isA_n (by omega) (by rw [t1]; exact m0) k1 hq0 hq6]
    dsimp only [Option.bind_some]
    rw [me3]
    rfl
  rw [if_neg hb0, if_pos hb6, X1_isOf_n x2 f0 k1 hq6] at e7
  dsimp only [Option.bind_some] at e7
  cases hof : isOfB q kd with
  | false =>
    rw [hof, bI_f, if_pos rfl, an3] at e7
    refine Both.mk' (σ1 := ans7 σ 3) (σ2 := met8 (ans7 σ 3) 3) (r := -3) e7 ?_ (Rel_fnd h 3 (by decide) (by decide))
    show X8_mark _ _ _ = _
    rw [e8 _ (fun j => ans7_i (by decide) (by decide)) (fun j => ans7_i (by decide) (by decide)), hof]
    rfl
  | true =>
    rw [hof, bI_t, if_neg one_ne0] at e7
    have e8' : X8_mark σ (nI k) (nI q) = ((X8_marked σ (nI k) (nI q)).bind fun q5 => some (q5.1, q5.2)) := by
      rw [e8 σ (fun _ => rfl) (fun _ => rfl), hof, bI_t, if_neg one_ne0]
    have a5 : (5 : Int32) * nI k = nI (5 * k) := nmul_l k 5
    have a1 : nI (5 * k) + (1 : Int32) = nI (5 * k + 1) := nadd_r _ 1
    have a2 : nI (5 * k) + (2 : Int32) = nI (5 * k + 2) := nadd_r _ 2
    have a3 : nI (5 * k) + (3 : Int32) = nI (5 * k + 3) := nadd_r _ 3
    have c1 : (nI (5 * k + 1)).toNatClampNeg = 5 * k + 1 := ncl (by omega)
    have c2 : (nI (5 * k + 2)).toNatClampNeg = 5 * k + 2 := ncl (by omega)
    have c3 : (nI (5 * k + 3)).toNatClampNeg = 5 * k + 3 := ncl (by omega)
    have hchs : ∀ sg nx j, chs (fun k f => σ.1 811 0 (5 * k + f)) n (onM (fun k f => σ.1 811 0 (5 * k + f)) n) sg nx = some j → j < 2147483648 := fun sg nx j e => by
      have := chs_lt e
      omega
    match q, hq0, hq6 with
    | 0, w, _ => omega
    | 1, _, _ =>
      refine Both.mk' (σ1 := σ) (σ2 := σ) (r := σ.1 827 0 xx) ?_ ?_ h
      · show X7_mark _ _ _ = _
        rw [e7, if_pos (show nI 1 = (1 : Int32) from rfl), f1]
        unfold X2_inksOf
        rw [if_pos (by decide), if_neg (nnlt0 (by omega)), if_neg (by rw [nle_l (by omega) (by decide)]; omega), ck_n k2 (by decide), ncl (by omega), h2.2.2.1 xx k2]
        rfl
      · show X8_mark _ _ _ = _
        rw [e8']
        unfold X8_marked
        rw [lt_eq, if_pos (show nI 1 = (1 : Int32) from rfl), a5, a1, c1, m1, ck_n (by omega) (by decide), ck_n k2 (by decide), ncl (by omega)]
        rfl
    | 2, _, _ =>
      have cb := cn_but (p := fun j => decide (σ.1 811 0 (5 * j + 1) = nI xx)) (k := k) (by simp [m1]) n 0
      rw [if_pos (by omega)] at cb
      have cl := cn_le (p := fun j => decide (j ≠ k) && decide (σ.1 811 0 (5 * j + 1) = nI xx)) n 0
      refine Both.mk' (σ1 := σ) (σ2 := σ) (r := nI (cn (fun j => decide (j ≠ k) && decide (σ.1 811 0 (5 * j + 1) = nI xx)) n 0)) ?_ ?_ h
      · show X7_mark _ _ _ = _
        rw [e7, if_neg (show ¬ nI 2 = (1 : Int32) by decide), if_pos (show nI 2 = (2 : Int32) from rfl), f1]
        rw [X2_lawsOf_n (by decide) hP, Option.bind_some]
        dsimp only
        rw [cb, nsub_r (by show 1 ≤ _; omega)]
        rfl
      · show X8_mark _ _ _ = _
        rw [e8']
        unfold X8_marked
        rw [lt_eq, if_neg (show ¬ nI 2 = (1 : Int32) by decide), if_pos (show nI 2 = (2 : Int32) from rfl)]
        rw [X8_othersOf_n hM hk]
        rw [m1]
        rfl
    | 3, _, _ =>
      have hkd : kd = 3 ∨ kd = 4 := by
        unfold isOfB at hof
        simp at hof
        omega
      obtain ⟨z, hz, zz⟩ : ∃ z, z < 6 ∧ σ.1 811 0 (5 * k + 3) = nI z := by
        rcases k6 with ⟨-, z, z1, z2⟩ | ⟨w, -⟩
        · exact ⟨z, z1, z2⟩
        · exact absurd hkd w
      have f3 : σ.1 103 x 0 = nI z := (x3 3 (by decide)).trans zz
      obtain ⟨τ, t1, t2, t3⟩ := X8_lay2 (σ := σ) k2 hz
      have tM := hM.s8 t2
      have tl := X8_lawAt_n (m := onM (fun k f => σ.1 811 0 (5 * k + f)) n) tM hT (by omega) t3 (i := 0) (by simp)
      refine Both.mk' (σ1 := σ) (σ2 := τ) (r := if chs (fun k f => σ.1 811 0 (5 * k + f)) n (onM (fun k f => σ.1 811 0 (5 * k + f)) n) xx z = some k then 1 else 0) ?_ ?_ (Rel_scr h (t2.mono fun _ _ q => q.scr))
      · show X7_mark _ _ _ = _
        rw [e7, if_neg (show ¬ nI 3 = (1 : Int32) by decide), if_neg (show ¬ nI 3 = (2 : Int32) by decide), if_pos (show nI 3 = (3 : Int32) from rfl), f1, f3, X2_onSet_n (by decide) hP]
        dsimp only [Option.bind_some]
        rw [X2_chosen_n (by decide) hP hT (by omega) (by omega)]
        dsimp only [Option.bind_some]
        by_cases w : chs (fun k f => σ.1 811 0 (5 * k + f)) n (onM (fun k f => σ.1 811 0 (5 * k + f)) n) xx z = some k
        · rw [if_pos ((chI_eq (by omega) (hchs xx z)).mpr w), if_pos w]
        · rw [if_neg (fun v => w ((chI_eq (by omega) (hchs xx z)).mp v)), if_neg w]
      · show X8_mark _ _ _ = _
        rw [e8']
        unfold X8_marked
        rw [lt_eq, if_neg (show ¬ nI 3 = (1 : Int32) by decide), if_neg (show ¬ nI 3 = (2 : Int32) by decide), if_pos (show nI 3 = (3 : Int32) from rfl), a5, a1, a3, c1, c3, m1, zz, ck_n (by omega) (by decide), ck_n (by omega) (by decide), t1]
        dsimp only [Option.bind_some]
        rw [X8_onSet_n tM]
        dsimp only [Option.bind_some]
        rw [show (0 : Int32) = nI 0 from rfl, tl]
        dsimp only [Option.bind_some]
        show Option.bind (if chI (chs _ n _ xx z) = nI k then _ else _) _ = _
        by_cases w : chs (fun k f => σ.1 811 0 (5 * k + f)) n (onM (fun k f => σ.1 811 0 (5 * k + f)) n) xx z = some k
        · rw [if_pos ((chI_eq (by omega) (hchs xx z)).mpr w), if_pos w]
          rfl
        · rw [if_neg (fun v => w ((chI_eq (by omega) (hchs xx z)).mp v)), if_neg w]
          rfl
    | 4, _, _ =>
      obtain ⟨τ, t1, t2, t3⟩ := X8_lay1 (σ := σ) k2
      have tM := hM.s8 t2
      have tl := X8_lawAt_n (m := onM (fun k f => σ.1 811 0 (5 * k + f)) n) tM hT (by omega) t3 (i := 0) (by simp)
      refine Both.mk' (σ1 := σ) (σ2 := τ) (r := if chs (fun k f => σ.1 811 0 (5 * k + f)) n (onM (fun k f => σ.1 811 0 (5 * k + f)) n) xx 6 = some k then 1 else 0) ?_ ?_ (Rel_scr h (t2.mono fun _ _ q => q.scr))
      · show X7_mark _ _ _ = _
        rw [e7, if_neg (show ¬ nI 4 = (1 : Int32) by decide), if_neg (show ¬ nI 4 = (2 : Int32) by decide), if_neg (show ¬ nI 4 = (3 : Int32) by decide), if_pos (show nI 4 = (4 : Int32) from rfl), f1, X2_onSet_n (by decide) hP]
        dsimp only [Option.bind_some]
        rw [show (6 : Int32) = nI 6 from rfl, X2_chosen_n (by decide) hP hT (by omega) (by omega)]
        dsimp only [Option.bind_some]
        by_cases w : chs (fun k f => σ.1 811 0 (5 * k + f)) n (onM (fun k f => σ.1 811 0 (5 * k + f)) n) xx 6 = some k
        · rw [if_pos ((chI_eq (by omega) (hchs xx 6)).mpr w), if_pos w]
        · rw [if_neg (fun v => w ((chI_eq (by omega) (hchs xx 6)).mp v)), if_neg w]
      · show X8_mark _ _ _ = _
        rw [e8']
        unfold X8_marked
        rw [lt_eq, if_neg (show ¬ nI 4 = (1 : Int32) by decide), if_neg (show ¬ nI 4 = (2 : Int32) by decide), if_neg (show ¬ nI 4 = (3 : Int32) by decide), if_pos (show nI 4 = (4 : Int32) from rfl), a5, a1, c1, m1, ck_n (by omega) (by decide), t1]
        dsimp only [Option.bind_some]
        rw [X8_onSet_n tM]
        dsimp only [Option.bind_some]
        rw [show (0 : Int32) = nI 0 from rfl, tl]
        dsimp only [Option.bind_some]
        show Option.bind (if chI (chs _ n _ xx 6) = nI k then _ else _) _ = _
        by_cases w : chs (fun k f => σ.1 811 0 (5 * k + f)) n (onM (fun k f => σ.1 811 0 (5 * k + f)) n) xx 6 = some k
        · rw [if_pos ((chI_eq (by omega) (hchs xx 6)).mpr w), if_pos w]
          rfl
        · rw [if_neg (fun v => w ((chI_eq (by omega) (hchs xx 6)).mp v)), if_neg w]
          rfl
    | 5, _, _ =>
      have hkd : kd = 5 := by
        unfold isOfB at hof
        simp at hof
        omega
      obtain ⟨y, hy, yy⟩ : ∃ y, y < 6 ∧ σ.1 811 0 (5 * k + 2) = nI y := by
        rcases k5 with ⟨w, -⟩ | ⟨-, y, y1, y2⟩
        · omega
        · exact ⟨y, y1, y2⟩
      have f2 : σ.1 102 x 0 = nI y := (x3 2 (by decide)).trans yy
      obtain ⟨τ, t1, t2, t3⟩ := X8_lay1 (σ := σ) hy
      have tM := hM.s8 t2
      obtain ⟨υ, u1, u2, u3⟩ := X8_setBy_n (m := onM (fun k f => σ.1 811 0 (5 * k + f)) n) tM hT (by omega) t3
      have u4 := X8_isAsWritten_n u3 (t3.fr u2 (by simp [P78]) (by simp [P78]))
      have po := pcS_ok (m := onM (fun k f => σ.1 811 0 (5 * k + f)) n) (nx := 6) hT hy
      have es : outS (fun k f => σ.1 811 0 (5 * k + f)) n (onM (fun k f => σ.1 811 0 (5 * k + f)) n) [y] = pcS (fun k f => σ.1 811 0 (5 * k + f)) n (onM (fun k f => σ.1 811 0 (5 * k + f)) n) y 6 := by
        simp [outS]
      rw [es] at u4
      have pe := pk_eq2 (s := pcS (fun k f => σ.1 811 0 (5 * k + f)) n (onM (fun k f => σ.1 811 0 (5 * k + f)) n) y 6) (t := [y]) po.2 (by intro w hw; simp at hw; omega) (by omega) (by simp)
      refine Both.mk' (σ1 := σ) (σ2 := υ) (r := bI (decide (pcS (fun k f => σ.1 811 0 (5 * k + f)) n (onM (fun k f => σ.1 811 0 (5 * k + f)) n) y 6 = [y]))) ?_ ?_ (Rel_scr h ((t2.tr (u2.mono fun _ _ => s8_78)).mono fun _ _ q => q.scr))
      · show X7_mark _ _ _ = _
        rw [e7, if_neg (show ¬ nI 5 = (1 : Int32) by decide), if_neg (show ¬ nI 5 = (2 : Int32) by decide), if_neg (show ¬ nI 5 = (3 : Int32) by decide), if_neg (show ¬ nI 5 = (4 : Int32) by decide), f2, X2_onSet_n (by decide) hP]
        dsimp only [Option.bind_some]
        rw [show (6 : Int32) = nI 6 from rfl, lz64, X2_outOfSign_n (by decide) hP hT (by omega) hy (by omega) (by omega), Option.bind_some, f2, X7_packed_n (by omega) hy, Option.bind_some]
        dsimp only
        rw [fld0, show 8 * 0 + (y + 1) = pkN [y] from rfl]
        by_cases w : pcS (fun k f => σ.1 811 0 (5 * k + f)) n (onM (fun k f => σ.1 811 0 (5 * k + f)) n) y 6 = [y]
        · rw [if_pos (pe.mpr w), decide_eq_true w]
          rfl
        · rw [if_neg (fun v => w (pe.mp v)), decide_eq_false w]
          rfl
      · show X8_mark _ _ _ = _
        rw [e8']
        unfold X8_marked
        rw [lt_eq, if_neg (show ¬ nI 5 = (1 : Int32) by decide), if_neg (show ¬ nI 5 = (2 : Int32) by decide), if_neg (show ¬ nI 5 = (3 : Int32) by decide), if_neg (show ¬ nI 5 = (4 : Int32) by decide), a5, a2, c2, yy, ck_n (by omega) (by decide), t1]
        dsimp only [Option.bind_some]
        rw [X8_onSet_n tM]
        dsimp only [Option.bind_some]
        rw [u1]
        dsimp only [Option.bind_some]
        rw [u4, Option.bind_some]
        cases decide (pcS (fun k f => σ.1 811 0 (5 * k + f)) n (onM (fun k f => σ.1 811 0 (5 * k + f)) n) y 6 = [y]) <;> rfl
    | q + 6, _, w => omega
