/-! two that come out alike -/
theorem sh_top : ∀ k N, sh (k + 1) N = (N / 6 ^ k % 6) :: sh k N := by
  intro k
  induction k with
  | zero => intro N; simp [sh]
  | succ k ih =>
    intro N
    rw [sh, ih, Nat.div_div_eq_div_mul, show 6 * 6 ^ k = 6 ^ (k + 1) by rw [Nat.pow_succ, Nat.mul_comm]]
    rfl
theorem as5_L {σ : Mem} {r n : Nat} {x1 : Int32} {kk : Mem → Int32 → Option (Mem × Unit)} (hn : n ≤ 4) : ∀ (c i f : Nat), c < f → i + 1 + c = n → X4_addSheet_L5 r x1 (nI n) kk f σ (nI (6 ^ i)) (nI (i + 1)) = kk σ (nI (6 ^ (n - 1))) := by
  intro c
  induction c with
  | zero =>
    intro i f hf he
    obtain ⟨g, rfl⟩ : ∃ g, f = g + 1 := ⟨f - 1, by omega⟩
    have : i = n - 1 := by omega
    rw [X4_addSheet_L5, if_pos (by rw [nle (by omega) (by omega)]; omega), this]
  | succ c ih =>
    intro i f hf he
    obtain ⟨g, rfl⟩ : ∃ g, f = g + 1 := ⟨f - 1, by omega⟩
    rw [X4_addSheet_L5, if_neg (by rw [nle (by omega) (by omega)]; omega), if_neg (by rw [nle_l (by omega) (by decide)]; show ¬ 4 ≤ i + 1; omega), lt_eq, nmul_r, nadd_r]
    exact ih (i + 1) g (by omega) (by omega)
theorem as31_L {r n N : Nat} {kk : Mem → Option (Mem × Unit)} (hr : r < 6) (hn : n ≤ 4) (hN : N < 2147483648) : ∀ (c j f : Nat) (σ : Mem) (l : List Nat) (x3 : Int32), c < f → j + c = n → (1 ≤ c → x3 = nI (6 ^ (c - 1))) → RowS σ r l → l.length + c ≤ 40 → ∃ τ, X4_addSheet_L31 r (nI N) (nI n) kk f σ x3 (nI j) = kk τ ∧ Fr (Prow r) σ τ ∧ RowS τ r (l ++ sh c N) := by
  have hrl : rl r = 40 := by unfold rl; rw [if_pos hr]
  intro c
  induction c with
  | zero =>
    intro j f σ l x3 hf he hx hS hl
    obtain ⟨g, rfl⟩ : ∃ g, f = g + 1 := ⟨f - 1, by omega⟩
    refine ⟨σ, ?_, Fr.rf, by rw [sh, List.append_nil]; exact hS⟩
    rw [X4_addSheet_L31, if_pos (by rw [nle (by omega) (by omega)]; omega)]
  | succ c ih =>
    intro j f σ l x3 hf he hx hS hl
    obtain ⟨g, rfl⟩ : ∃ g, f = g + 1 := ⟨f - 1, by omega⟩
    have h4 := p4 (n := c) (by omega)
    have hp : 0 < 6 ^ c := Nat.pow_pos (by decide)
    have hx' : x3 = nI (6 ^ c) := hx (by omega)
    subst hx'
    have hd : N / 6 ^ c < 2147483648 := Nat.lt_of_le_of_lt (Nat.div_le_self _ _) hN
    have hm : N / 6 ^ c % 6 < 6 := Nat.mod_lt _ (by decide)
    have d1 : nI N / nI (6 ^ c) = nI (N / 6 ^ c) := pk_div hN hp (by omega)
    have r6 : nI (N / 6 ^ c) - nI (N / 6 ^ c) / (6 : Int32) * (6 : Int32) = nI (N / 6 ^ c % 6) := pk_rem hd (d := 6) (by decide) (by decide)
    have d6 : nI (6 ^ c) / (6 : Int32) = nI (6 ^ c / 6) := pk_div (by omega) (d := 6) (by decide) (by decide)
    have f1 : Fr (Prow r) σ (uI (uI σ 400 r l.length (nI (N / 6 ^ c % 6))) 401 r 0 (nI (l.length + 1))) := (Fr.uI ⟨Or.inl rfl, rfl⟩).tr (Fr.uI ⟨Or.inr rfl, rfl⟩)
    have s1 := hS.sn hm (by omega)
    obtain ⟨τ, t1, t2, t3⟩ := ih (j + 1) g _ (l ++ [N / 6 ^ c % 6]) (nI (6 ^ c / 6)) (by omega) (by omega) (fun hc => by
      obtain ⟨d, rfl⟩ : ∃ d, c = d + 1 := ⟨c - 1, by omega⟩
      rw [Nat.pow_succ, Nat.mul_div_cancel _ (by decide)]
      rfl) s1 (by rw [List.length_append]; show l.length + 1 + c ≤ 40; omega)
    refine ⟨τ, ?_, f1.tr t2, ?_⟩
    · rw [X4_addSheet_L31, if_neg (by rw [nle (by omega) (by omega)]; omega), if_neg (show ¬ nI (6 ^ c) ≤ 0 by rw [nle_r (by omega) (by decide)]; show ¬ 6 ^ c ≤ 0; omega), if_neg (show ¬ nI (6 ^ c) = 0 by rw [neq_r (by omega) (by decide)]; show ¬ 6 ^ c = 0; omega), if_neg (show ¬ (6 : Int32) = 0 by decide), d1, r6, X4_add_n (by omega) hS.1 (by omega), Option.bind_some]
      dsimp only
      rw [if_neg (show ¬ (6 : Int32) = 0 by decide), lt_eq, d6, nadd_r]
      exact t1
    · rw [sh_top]
      rw [List.append_assoc] at t3
      exact t3
theorem X4_addSheet_n {σ : Mem} {r n N : Nat} {l : List Nat} (hr : r < 6) (hn : n ≤ 4) (h1 : 1 ≤ n) (hN : N < 2147483648) (hS : RowS σ r l) (hl : l.length + n ≤ 40) : ∃ τ, X4_addSheet σ r (nI N) (nI n) = some (τ, ()) ∧ Fr (Prow r) σ τ ∧ RowS τ r (l ++ sh n N) := by
  obtain ⟨τ, t1, t2, t3⟩ := as31_L (kk := fun (s9 : Mem) => (some (s9, ()))) hr hn hN n 0 FU σ l (nI (6 ^ (n - 1))) (fu_gt (by omega)) (by omega) (fun _ => rfl) hS hl
  refine ⟨τ, ?_, t2, t3⟩
  have g := as5_L (σ := σ) (r := r) (x1 := nI N) (kk := fun (s4 : Mem) (y3_3 : Int32) => (X4_addSheet_L31 r (nI N) (nI n) (fun (s9 : Mem) => (some (s9, ()))) FU s4 y3_3 (0 : Int32))) hn (n - 1) 0 FU (fu_gt (by omega)) (by omega)
  rw [nI_0] at t1
  unfold X4_addSheet
  rw [if_pos (by omega)]
  exact g.trans t1
/-! the model's -/
def P856 (c _k : Nat) : Prop := c = 806 ∨ c = 815 ∨ c = 816
theorem tw65_L {r n a b : Nat} {kk : Mem → Option (Mem × Int32)} (hr : r < 6) (hn : n ≤ 4) (h1 : 1 ≤ n) (ha : a < 1296) (hb : b < 1296) : ∀ (c i f : Nat) (σ : Mem), c < f → i + c = 2 * n → (∀ j, j < i → σ.1 806 0 (40 * r + j) = nI ((sh n a ++ sh n b).getD j 0)) → ∃ τ, X8_twins_L65 (nI n) (nI r) (nI a) (nI b) kk f σ (nI i) = kk τ ∧ Fr P856 σ τ ∧ (∀ x, ¬ (40 * r ≤ x ∧ x < 40 * r + 40) → τ.1 806 0 x = σ.1 806 0 x) ∧ ∀ j, j < 2 * n → τ.1 806 0 (40 * r + j) = nI ((sh n a ++ sh n b).getD j 0) := by
  intro c
  induction c with
  | zero =>
    intro i f σ hf he hC
    obtain ⟨g, rfl⟩ : ∃ g, f = g + 1 := ⟨f - 1, by omega⟩
    refine ⟨σ, ?_, Fr.rf, fun _ _ => rfl, fun j hj => hC j (by omega)⟩
    rw [X8_twins_L65, nmul_l, if_pos (by rw [nle (by show 2 * n < _; omega) (by omega)]; show 2 * n ≤ i; omega)]
  | succ c ih =>
    intro i f σ hf he hC
    obtain ⟨g, rfl⟩ : ∃ g, f = g + 1 := ⟨f - 1, by omega⟩
    have step : ∀ N, N < 1296 → (sh n N).getD (i % n) 0 = (sh n a ++ sh n b).getD i 0 → ∃ σ1 τ, X8_layNumber σ (nI n) (nI N) = some (σ1, ()) ∧ σ1.1 815 0 (i % n) = nI ((sh n a ++ sh n b).getD i 0) ∧ X8_twins_L65 (nI n) (nI r) (nI a) (nI b) kk g (uI σ1 806 0 (40 * r + i) (nI ((sh n a ++ sh n b).getD i 0))) (nI (i + 1)) = kk τ ∧ Fr P856 σ τ ∧ (∀ x, ¬ (40 * r ≤ x ∧ x < 40 * r + 40) → τ.1 806 0 x = σ.1 806 0 x) ∧ ∀ j, j < 2 * n → τ.1 806 0 (40 * r + j) = nI ((sh n a ++ sh n b).getD j 0) := by
      intro N hN hg
      obtain ⟨σ1, u1, u2, u3⟩ := X8_layNumber_n (σ := σ) (n := n) (N := N) (by omega) (by omega)
      obtain ⟨τ, t1, t2, t3, t4⟩ := ih (i + 1) g (uI σ1 806 0 (40 * r + i) (nI ((sh n a ++ sh n b).getD i 0))) (by omega) (by omega) (fun j hj => by
        by_cases e : j = i
        · subst e; simp [uI_1]
        · simp only [uI_1]
          rw [if_neg (by rintro ⟨-, -, q⟩; omega), u2.i (by omega)]
          exact hC j (by omega))
      have hm : i % n < n := Nat.mod_lt _ (by omega)
      have f1 : Fr P856 σ (uI σ1 806 0 (40 * r + i) (nI ((sh n a ++ sh n b).getD i 0))) := (u2.mono fun c k q => Or.inr q).tr (Fr.uI (Or.inl rfl))
      refine ⟨σ1, τ, u1, ?_, t1, f1.tr t2, fun x hx => ?_, t4⟩
      · have := u3.2.2.2 (i % n) (by rw [sh_len]; exact hm)
        rw [hg] at this
        exact this
      · rw [t3 x hx]
        simp only [uI_1]
        rw [if_neg (by rintro ⟨-, -, q⟩; omega), u2.i (by omega)]
    have hn0 : ¬ nI n = 0 := by rw [neq_r (by omega) (by decide)]; show ¬ n = 0; omega
    have rm : nI i - nI i / nI n * nI n = nI (i % n) := pk_rem (by omega) (by omega) (by omega)
    have hm : i % n < n := Nat.mod_lt _ (by omega)
    by_cases q : n ≤ i
    · obtain ⟨σ1, τ, s1, s2, s3, s4⟩ := step b hb (by
        rw [List.getD_eq_getElem?_getD, List.getD_eq_getElem?_getD, List.getElem?_append_right (by rw [sh_len]; exact q), sh_len, Nat.mod_eq_sub_mod q, Nat.mod_eq_of_lt (by omega)])
      refine ⟨τ, ?_, s4⟩
      rw [X8_twins_L65, nmul_l, if_neg (by rw [nle (by show 2 * n < _; omega) (by omega)]; show ¬ 2 * n ≤ i; omega), if_pos (by rw [nle (by omega) (by omega)]; exact q), s1, Option.bind_some]
      dsimp only
      rw [if_neg hn0, rm, ck_n (by omega) (by decide), ncl (by omega), s2, X8_setRow_n (by omega), Option.bind_some]
      dsimp only
      rw [nadd_r]
      exact s3
    · obtain ⟨σ1, τ, s1, s2, s3, s4⟩ := step a ha (by
        rw [List.getD_eq_getElem?_getD, List.getD_eq_getElem?_getD, List.getElem?_append_left (by rw [sh_len]; omega), Nat.mod_eq_of_lt (by omega)])
      refine ⟨τ, ?_, s4⟩
      rw [X8_twins_L65, nmul_l, if_neg (by rw [nle (by show 2 * n < _; omega) (by omega)]; show ¬ 2 * n ≤ i; omega), if_neg (by rw [nle (by omega) (by omega)]; exact q), s1, Option.bind_some]
      dsimp only
      rw [if_neg hn0, rm, ck_n (by omega) (by decide), ncl (by omega), s2, X8_setRow_n (by omega), Option.bind_some]
      dsimp only
      rw [nadd_r]
      exact s3
theorem tw31_L {σ : Mem} {ky : Nat → List Nat} {K n r : Nat} {kk : Mem → Option (Mem × Int32)} (hC : CDs σ ky K) (hy : KYs ky) (hK : K ≤ 1296) : ∀ (c i f : Nat), c < f → i + c = K → X8_twins_L31 (nI n) (nI r) (nI K) kk f σ (nI i) = match fsF (fun k => (lF ky K k).isSome) c i with
  | none => kk σ
  | some a => (X8_row σ (nI r) ((2 : Int32) * nI n)).bind fun q7 => X8_twins_L65 (nI n) (nI r) (nI a) (chI (lF ky K a)) (fun (s15 : Mem) => (some (s15, (1 : Int32)))) FU q7.1 (0 : Int32) := by
  intro c
  induction c with
  | zero =>
    intro i f hf he
    obtain ⟨g, rfl⟩ : ∃ g, f = g + 1 := ⟨f - 1, by omega⟩
    rw [X8_twins_L31, if_pos (by rw [nle (by omega) (by omega)]; omega)]
    rfl
  | succ c ih =>
    intro i f hf he
    obtain ⟨g, rfl⟩ : ∃ g, f = g + 1 := ⟨f - 1, by omega⟩
    rw [X8_twins_L31, if_neg (by rw [nle (by omega) (by omega)]; omega), X8_twinOf_n hC hy hK (by omega), Option.bind_some]
    dsimp only
    rw [fsF]
    cases hl : lF ky K i with
    | none =>
      rw [if_pos (show chI none = -9 from rfl), if_neg (show ¬ (none : Option Nat).isSome = true from fun h => by (cases h)), nadd_r]
      exact ih (i + 1) g (by omega) (by omega)
    | some x =>
      have := lF_lt hl
      rw [if_neg (show ¬ chI (some x) = -9 from nne_neg (by omega) (by decide)), if_pos (show (some x : Option Nat).isSome = true from rfl)]
      dsimp only
      rw [hl]
theorem op_twins {σ : Mem} (h : Rel σ) (a c : Int32) : Both (fun σ => X7_twins σ a c) (fun σ => X8_twins σ a c) σ := by
  rcases to_n a 4 (by decide) with hc | ⟨N, hN, rfl, hc1, hc2⟩
  · refine Both.mk' (σ1 := σ) (σ2 := σ) (r := -1) ?_ ?_ h
    · rcases isR c with ⟨a7, a8⟩ | ⟨r, hr, rfl⟩
      · simp only [X7_twins, a7, Option.bind_some, spl_none]
      · simp only [X7_twins, X7_rowOf_n hr, Option.bind_some]
        rw [spl_some (by omega)]
        rcases hc with hc | hc
        · rw [if_pos hc]
        · by_cases q : a < 0
          · rw [if_pos q]
          · rw [if_neg q, if_neg (show ¬ a ≤ 4 from hc)]
    · show X8_twins _ _ _ = _
      unfold X8_twins
      rw [in_bad (by rcases hc with hc | hc; exact Or.inl hc; exact Or.inr (i32_nle2.mp hc)), Option.bind_some]
      show (if (0 : Int32) = 0 then _ else _) = _
      rw [if_pos rfl]
  have hin : ∀ σ : Mem, X8_in σ (nI N) 0 4 = some (σ, 1) := fun σ => in_ok hc1 (by rw [i32_nlt]; exact hc2)
  rcases isR c with ⟨a7, a8⟩ | ⟨r, hr, rfl⟩
  · refine Both.mk' (σ1 := σ) (σ2 := σ) (r := -1) ?_ ?_ h
    · simp only [X7_twins, a7, Option.bind_some, spl_none]
    · show X8_twins _ _ _ = _
      unfold X8_twins
      rw [hin, Option.bind_some]
      show (if (1 : Int32) = 0 then _ else _) = _
      rw [if_neg one_ne0]
      show (X8_isRow σ c).bind _ = _
      rw [a8, Option.bind_some]
      show (if (0 : Int32) = 0 then _ else _) = _
      rw [if_pos rfl]
  have h4 := p4 hN
  obtain ⟨n, T, hP, hM, hT, hn⟩ := h.laws
  have hpc := pcS_PcOK (m := onM T n) hT
  obtain ⟨σ1, u1, u2, u3⟩ := X6_know_n hT hP
  obtain ⟨σ2, b, v1, v2, v3⟩ := X0_gather_n hpc hN u3
  have uS : Fr Scr σ σ2 := (u2.mono fun c k q => Or.inl (by rcases q with rfl | rfl <;> decide)).tr (v2.mono fun c k q => Or.inl (by rcases q with rfl | rfl | rfl | rfl | rfl <;> decide))
  have u8 : ∀ c, 800 ≤ c → ∀ j, σ2.1 c 0 j = σ.1 c 0 j := fun c hc j => by rw [v2.i (by unfold P04; omega), u2.i (by unfold P60; omega)]
  have ek : (fun k => outS T n (onM T n) (sh N k)) = fun k => ou (pcS T n (onM T n)) (sh N k) := funext fun k => outS_ou _
  have w5 := v3.2.2.2.2.1
  have w6 := v3.2.2.2.2.2.1
  have w7 := v3.2.2.2.2.2.2.fs
  have w8 := v3.2.2.2.2.2.2
  have st7 : X7_twins σ (nI N) (nI r) = if (σ2.1 3 0 0) = (-9 : Int32) then (some (σ2, (-9 : Int32))) else ((X4_renew σ2 r (0 : Int32) (0 : Int32)).bind fun q5 => (X4_addSheet q5.1 r ((q5.1.1 3 0 0)) (nI N)).bind fun q6 => (X4_addSheet q6.1 r ((q6.1.1 4 0 0)) (nI N)).bind fun q7 => some (q7.1, (1 : Int32))) := by
    simp only [X7_twins, X7_rowOf_n hr, Option.bind_some]
    rw [spl_some (by omega), if_neg hc1, if_pos (show nI N ≤ 4 from hc2), u1, Option.bind_some]
    dsimp only
    rw [v1, Option.bind_some]
  have st8 : ∀ τ : Mem, (∀ c, 800 ≤ c → ∀ j, τ.1 c 0 j = σ.1 c 0 j) → ∃ υ, Fr S8 τ υ ∧ CDs υ (fun k => ou (pcS T n (onM T n)) (sh N k)) (6 ^ N) ∧ X8_twins τ (nI N) (nI r) = X8_twins_L31 (nI N) (nI r) (nI (6 ^ N)) (fun (s17 : Mem) => (some (s17, (-9 : Int32)))) FU υ (nI 0) := by
    intro τ ht
    have tM : ML8 τ n T := ⟨by rw [ht 810 (by omega)]; exact hM.1, hM.2.1, fun k hk f hf => by rw [ht 811 (by omega)]; exact hM.2.2 k hk f hf⟩
    obtain ⟨υ, t1, t2, t3⟩ := X8_layCodes_n hT tM hN
    refine ⟨υ, t2, by rw [← ek]; exact t3, ?_⟩
    unfold X8_twins
    rw [hin, Option.bind_some]
    show (if (1 : Int32) = 0 then _ else _) = _
    rw [if_neg one_ne0]
    show (X8_isRow τ (nI r)).bind _ = _
    rw [X8_isRow_r hr, Option.bind_some]
    show (if (1 : Int32) = 0 then _ else _) = _
    rw [if_neg one_ne0]
    show (X8_layCodes τ (nI N)).bind _ = _
    rw [t1, Option.bind_some]
    dsimp only
    rw [X8_sheetsOf_n (by omega), Option.bind_some]
    rfl
  have hy : KYs (fun k => ou (pcS T n (onM T n)) (sh N k)) := by rw [← ek]; exact kys hT hN
  cases b with
  | none =>
    dsimp only at w7
    obtain ⟨υ, t1, t2, t3⟩ := st8 σ2 u8
    have t4 := tw31_L (n := N) (r := r) (kk := fun (s17 : Mem) => (some (s17, (-9 : Int32)))) t2 hy h4 (6 ^ N) 0 FU (fu_gt (by omega)) (by omega)
    rw [w7] at t4
    rw [w5, if_pos (show tA none = -9 from rfl)] at st7
    exact Both.mk' st7 (t3.trans t4) (Rel_scr h (uS.tr (t1.mono fun _ _ q => q.scr)))
  | some p =>
    obtain ⟨x, y⟩ := p
    dsimp only at w7
    obtain ⟨w71, w72⟩ := w7
    obtain ⟨z1, z2, -⟩ := w8
    have hN1 : 1 ≤ N := by
      by_cases q : N = 0
      · subst q
        have : (6 : Nat) ^ 0 = 1 := rfl
        omega
      · omega
    have h10 : ¬ r = 10 := by omega
    have hrl : rl r = 40 := by unfold rl; rw [if_pos hr]
    have f3 : Fr (Prow r) σ2 (rnw σ2 r 0 0) := (Fr.uI ⟨Or.inr rfl, rfl⟩).tr (Fr.aI ⟨Or.inl rfl, rfl⟩)
    have S0 : RowS (rnw σ2 r 0 0) r [] := ⟨by simp [rnw, aI_1, uI_1], Nat.zero_le _, fun v hv => by (cases hv), fun j hj => by (cases hj)⟩
    obtain ⟨σ4, g1, g2, g3⟩ := X4_addSheet_n (N := x) hr hN hN1 (by omega) S0 (by rw [List.length_nil]; omega)
    rw [List.nil_append] at g3
    obtain ⟨σ5, k1, k2, k3⟩ := X4_addSheet_n (N := y) hr hN hN1 (by omega) g3 (by rw [sh_len]; omega)
    have fp : Fr (Prow r) σ2 σ5 := (f3.tr g2).tr k2
    have c3 : (rnw σ2 r 0 0).1 3 0 0 = nI x := by rw [f3.i (by unfold Prow; omega), w5]; rfl
    have c4 : σ4.1 4 0 0 = nI y := by rw [g2.i (by unfold Prow; omega), f3.i (by unfold Prow; omega), w6]; rfl
    have s7 : X7_twins σ (nI N) (nI r) = some (σ5, 1) := by
      rw [st7, w5, if_neg (show ¬ tA (some (x, y)) = -9 from nne_neg (by omega) (by decide)), show (0 : Int32) = nI 0 from rfl, X4_renew_n (by omega) (by omega), Option.bind_some]
      show (X4_addSheet (rnw σ2 r 0 0) r ((rnw σ2 r 0 0).1 3 0 0) (nI N)).bind _ = _
      rw [c3, g1, Option.bind_some]
      dsimp only
      rw [c4, k1, Option.bind_some]
    obtain ⟨υ, t1, t2, t3⟩ := st8 σ5 (fun c hc j => by rw [fp.i (by unfold Prow; omega)]; exact u8 c hc j)
    have t4 := tw31_L (n := N) (r := r) (kk := fun (s17 : Mem) => (some (s17, (-9 : Int32)))) t2 hy h4 (6 ^ N) 0 FU (fu_gt (by omega)) (by omega)
    rw [w71] at t4
    dsimp only at t4
    have f8 : Fr (fun c _ => c = 805 ∨ c = 806) υ (fz (uI υ 805 0 r (nI (2 * N))) 806 (40 * r) (40 * r + 40) 0) := (Fr.uI (Or.inl rfl)).tr (fz_fr (Or.inr rfl))
    rw [w72, nmul_l] at t4
    rw [X8_row_n (σ := υ) hr (show 2 * N ≤ 40 by omega), Option.bind_some] at t4
    obtain ⟨ω, m1, m2, m3, m4⟩ := tw65_L (a := x) (b := y) (kk := fun (s15 : Mem) => (some (s15, (1 : Int32)))) hr hN hN1 (by omega) (by omega) (2 * N) 0 FU (fz (uI υ 805 0 r (nI (2 * N))) 806 (40 * r) (40 * r + 40) 0) (fu_gt (by omega)) (by omega) (fun j hj => by omega)
    rw [nI_0] at m1
    have s8 : X8_twins σ5 (nI N) (nI r) = some (ω, 1) := t3.trans (t4.trans m1)
    refine Both.mk' s7 s8 ?_
    have q1 : Fr (fun c k => ((c = 400 ∨ c = 401) ∧ k = r) ∨ c = 805 ∨ c = 806 ∨ Scr c k) σ σ2 := uS.mono fun c k q => Or.inr (Or.inr (Or.inr q))
    have q2 : Fr (fun c k => ((c = 400 ∨ c = 401) ∧ k = r) ∨ c = 805 ∨ c = 806 ∨ Scr c k) σ2 σ5 := fp.mono fun c k q => Or.inl q
    have q3 : Fr (fun c k => ((c = 400 ∨ c = 401) ∧ k = r) ∨ c = 805 ∨ c = 806 ∨ Scr c k) σ5 υ := t1.mono fun c k q => Or.inr (Or.inr (Or.inr q.scr))
    have q4 : Fr (fun c k => ((c = 400 ∨ c = 401) ∧ k = r) ∨ c = 805 ∨ c = 806 ∨ Scr c k) υ (fz (uI υ 805 0 r (nI (2 * N))) 806 (40 * r) (40 * r + 40) 0) := f8.mono fun c k q => by rcases q with q | q; exact Or.inr (Or.inl q); exact Or.inr (Or.inr (Or.inl q))
    have q5 : Fr (fun c k => ((c = 400 ∨ c = 401) ∧ k = r) ∨ c = 805 ∨ c = 806 ∨ Scr c k) (fz (uI υ 805 0 r (nI (2 * N))) 806 (40 * r) (40 * r + 40) 0) ω := m2.mono fun c k q => by
      rcases q with q | q | q
      · exact Or.inr (Or.inr (Or.inl q))
      · exact Or.inr (Or.inr (Or.inr (S8.scr (s8_56 (Or.inl q)))))
      · exact Or.inr (Or.inr (Or.inr (S8.scr (s8_56 (Or.inr q)))))
    have uu : ∀ c, c = 805 ∨ c = 806 → ∀ j, υ.1 c 0 j = σ.1 c 0 j := fun c hc j => by
      have hs : ¬ S8 c 0 := by unfold S8; simp; omega
      rw [t1.i hs, fp.i (by unfold Prow; omega), u8 c (by omega)]
    refine Rel_row h hr ((((q1.tr q2).tr q3).tr q4).tr q5) (fun r2 h2 e => ?_) (fun r2 h2 e j hj => ?_) (Or.inr ⟨2 * N, by omega, ?_, ?_, fun j hj => ?_⟩)
    · rw [m2.i (by unfold P856; omega), ← uu 805 (Or.inl rfl)]
      simp [fz, aI_1, uI_1, e]
    · rw [m3 _ (by omega), ← uu 806 (Or.inr rfl)]
      have : ¬ (40 * r ≤ 40 * r2 + j ∧ 40 * r2 + j < 40 * r + 40) := by omega
      simp only [fz, aI_1, uI_1]
      simp [this]
    · have hs : ¬ S8 401 r := by unfold S8; simp
      rw [m2.i (by unfold P856; omega), f8.i (by omega), t1.i hs, k3.1, List.length_append, sh_len, sh_len]
      congr 1
      omega
    · rw [m2.i (by unfold P856; omega)]
      simp [fz, aI_1, uI_1]
    · have hs : ¬ S8 400 r := by unfold S8; simp
      rw [m2.i (by unfold P856; omega), f8.i (by omega), t1.i hs, m4 j hj]
      exact k3.2.2.2 j (by rw [List.length_append, sh_len, sh_len]; omega)
