/-! lots -/
def lotN (L : Nat) : Nat := L * 48271 % 2147483647
def lotS : Nat → Nat → List Nat × Nat
  | 0, L => ([], L)
  | c + 1, L => (lotN L / 16 % 6 :: (lotS c (lotN L)).1, (lotS c (lotN L)).2)
theorem lotN_lt (L : Nat) : lotN L < 2147483647 := Nat.mod_lt _ (by decide)
theorem lotS_ok : ∀ (c L : Nat), L < 2147483648 → (lotS c L).2 < 2147483648 ∧ (lotS c L).1.length = c ∧ Sg (lotS c L).1 := by
  intro c
  induction c with
  | zero => intro L h; exact ⟨h, rfl, by intro v hv; cases hv⟩
  | succ c ih =>
    intro L h
    have := lotN_lt L
    obtain ⟨h1, h2, h3⟩ := ih (lotN L) (by omega)
    refine ⟨h1, by simp [lotS, h2], fun v hv => ?_⟩
    simp only [lotS, List.mem_cons] at hv
    rcases hv with rfl | hv
    · exact Nat.mod_lt _ (by decide)
    · exact h3 v hv
theorem lot7 {L : Nat} (h : L < 2147483648) : lN L * (48271 : Int64) - lN L * (48271 : Int64) / (2147483647 : Int64) * (2147483647 : Int64) = lN (lotN L) := by
  rw [show (48271 : Int64) = lN 48271 from rfl, show (2147483647 : Int64) = lN 2147483647 from rfl, lN_mul, pk_lRem (by omega) (by decide) (by decide)]
  rfl
theorem lot8 {L : Nat} (h : L < 2147483648) : (48271 : Int64) * lN L - (48271 : Int64) * lN L / (2147483647 : Int64) * (2147483647 : Int64) = lN (lotN L) := by
  rw [show (48271 : Int64) = lN 48271 from rfl, show (2147483647 : Int64) = lN 2147483647 from rfl, lN_mul, pk_lRem (by omega) (by decide) (by decide), Nat.mul_comm]
  rfl
theorem lot6 {L : Nat} (h : L < 2147483648) : (lN L / (16 : Int64) - lN L / (16 : Int64) / (6 : Int64) * (6 : Int64)).toInt32 = nI (L / 16 % 6) := by
  rw [show (16 : Int64) = lN 16 from rfl, show (6 : Int64) = lN 6 from rfl, pk_lDiv (by omega) (by decide) (by decide), pk_lRem (by omega) (by decide) (by decide), l32 (by omega)]
theorem lot9 {L : Nat} (h : L < 2147483648) : (lN L - lN L / (9 : Int64) * (9 : Int64)).toInt32 = nI (L % 9) := by
  rw [show (9 : Int64) = lN 9 from rfl, pk_lRem (by omega) (by decide) (by decide), l32 (by omega)]
theorem n16 : ¬ (16 : Int64) = 0 := by decide
theorem n6 : ¬ (6 : Int64) = 0 := by decide
theorem n9 : ¬ (9 : Int64) = 0 := by decide
theorem nbig : ¬ (2147483647 : Int64) = 0 := by decide
theorem X7_lotAfter_n {σ : Mem} {L : Nat} (h : L < 2147483648) : X7_lotAfter σ (lN L) = some (σ, lN (lotN L)) := by
  unfold X7_lotAfter
  rw [if_neg nbig, lot7 h]
theorem RowS.sn {σ : Mem} {r a : Nat} {l : List Nat} (h : RowS σ r l) (ha : a < 6) (hl : l.length < rl r) : RowS (uI (uI σ 400 r l.length (nI a)) 401 r 0 (nI (l.length + 1))) r (l ++ [a]) := by
  obtain ⟨s1, s2, s3, s4⟩ := h
  refine ⟨by simp [uI_1], by simp; omega, Sg.sn s3 ha, fun j hj => ?_⟩
  simp at hj
  by_cases e : j = l.length
  · subst e; rw [getD_sn_eq]; simp [uI_1]
  · rw [getD_sn_lt (by omega), ← s4 j (by omega)]
    simp [uI_1, e]
theorem X7_lots1_L {m : Nat} {x1 x3 x4 x7 : Int32} {kk : Mem → Int64 → Option (Mem × Int32)} (hm : m ≤ 8) : ∀ (c i f L : Nat) (σ : Mem) (pre : List Nat), c < f → i + c = m → L < 2147483648 → pre.length = i → RowS σ 10 pre → ∃ τ, X7_lots_L77 x1 x3 x4 x7 (nI m) kk f σ (lN L) (nI i) = kk τ (lN (lotS c L).2) ∧ Fr (Prow 10) σ τ ∧ RowS τ 10 (pre ++ (lotS c L).1) := by
  have hrl : rl 10 = 16 := rfl
  intro c
  induction c with
  | zero =>
    intro i f L σ pre hf he hL hp hS
    obtain ⟨g, rfl⟩ : ∃ g, f = g + 1 := ⟨f - 1, by omega⟩
    refine ⟨σ, ?_, Fr.rf, by simpa [lotS] using hS⟩
    rw [X7_lots_L77, if_pos (by rw [nle (by omega) (by omega)]; omega)]
    rfl
  | succ c ih =>
    intro i f L σ pre hf he hL hp hS
    obtain ⟨g, rfl⟩ : ∃ g, f = g + 1 := ⟨f - 1, by omega⟩
    have hl := lotN_lt L
    have ha : lotN L / 16 % 6 < 6 := Nat.mod_lt _ (by decide)
    obtain ⟨τ, t1, t2, t3⟩ := ih (i + 1) g (lotN L) _ (pre ++ [lotN L / 16 % 6]) (by omega) (by omega) (by omega) (by simp; omega) (hS.sn ha (by omega))
    refine ⟨τ, ?_, ((Fr.uI ⟨Or.inl rfl, rfl⟩).tr (Fr.uI ⟨Or.inr rfl, rfl⟩)).tr t2, by simpa [lotS] using t3⟩
    rw [X7_lots_L77, if_neg (by rw [nle (by omega) (by omega)]; omega), X7_lotAfter_n hL, Option.bind_some, if_neg n16, if_neg n6]
    dsimp only
    rw [lot6 (by omega), X4_add_n (by decide) hS.1 (by omega), Option.bind_some, nadd_r]
    exact t1
theorem X8_lots1_L {m : Nat} {x1 x5 x6 : Int32} {kk : Mem → Int64 → Option (Mem × Int32)} (hm : m ≤ 8) : ∀ (c i f L : Nat) (σ : Mem) (pre : List Nat), c < f → i + c = m → L < 2147483648 → pre.length = i → σ.1 816 0 0 = nI m → Cel (fun j => σ.1 815 0 j) pre → ∃ τ, X8_lots_L61 x1 x5 x6 kk f σ (lN L) (nI i) = kk τ (lN (lotS c L).2) ∧ Fr (fun c _ => c = 815) σ τ ∧ Cel (fun j => τ.1 815 0 j) (pre ++ (lotS c L).1) := by
  intro c
  induction c with
  | zero =>
    intro i f L σ pre hf he hL hp h1 hC
    obtain ⟨g, rfl⟩ : ∃ g, f = g + 1 := ⟨f - 1, by omega⟩
    refine ⟨σ, ?_, Fr.rf, by simpa [lotS] using hC⟩
    rw [X8_lots_L61, h1, if_pos (by rw [nle (by omega) (by omega)]; omega)]
    rfl
  | succ c ih =>
    intro i f L σ pre hf he hL hp h1 hC
    obtain ⟨g, rfl⟩ : ∃ g, f = g + 1 := ⟨f - 1, by omega⟩
    have hl := lotN_lt L
    have fr : Fr (fun c _ => c = 815) σ (uI σ 815 0 i (nI (lotN L / 16 % 6))) := Fr.uI rfl
    obtain ⟨τ, t1, t2, t3⟩ := ih (i + 1) g (lotN L) (uI σ 815 0 i (nI (lotN L / 16 % 6))) (pre ++ [lotN L / 16 % 6]) (by omega) (by omega) (by omega) (by simp; omega) (by rw [fr.i (by decide)]; exact h1) ((hC.cg fun j hj => by
      have : ¬ j = i := by omega
      simp [uI_1, this]).sn (by simp [uI_1, hp]))
    refine ⟨τ, ?_, fr.tr t2, by simpa [lotS] using t3⟩
    rw [X8_lots_L61, h1, if_neg (by rw [nle (by omega) (by omega)]; omega), if_neg nbig, lt_eq, lot8 hL, if_neg n16, if_neg n6, ck_n (by omega) (by decide), ncl (by omega), lot6 (by omega), nadd_r]
    exact t1
def ltC (T : Nat → Nat → Int32) (n on : Nat) : Nat → Nat → Nat → Nat
  | 0, _, a => a
  | c + 1, L, a => ltC T n on c (lotS (lotN L % 9) (lotN L)).2 (a + if outS T n on (lotS (lotN L % 9) (lotN L)).1 = (lotS (lotN L % 9) (lotN L)).1 then 1 else 0)
theorem X7_lots2_L {n on N : Nat} {T : Nat → Nat → Int32} {kk : Mem → Int32 → Option (Mem × Int32)} (hT : TV T n) (hon : on < 256) (hN : N ≤ 20) : ∀ (c i f L a : Nat) (σ : Mem), c < f → i + c = N → L < 2147483648 → PL σ 0 n T → ∃ τ, X7_lots_L43 (nI N) (nI on) kk f σ (nI a) (lN L) (nI i) = kk τ (nI (ltC T n on c L a)) ∧ Fr (Prow 10) σ τ := by
  have hrl : rl 10 = 16 := rfl
  intro c
  induction c with
  | zero =>
    intro i f L a σ hf he hL hP
    obtain ⟨g, rfl⟩ : ∃ g, f = g + 1 := ⟨f - 1, by omega⟩
    refine ⟨σ, ?_, Fr.rf⟩
    rw [X7_lots_L43, if_pos (by rw [nle (by omega) (by omega)]; omega)]
    rfl
  | succ c ih =>
    intro i f L a σ hf he hL hP
    obtain ⟨g, rfl⟩ : ∃ g, f = g + 1 := ⟨f - 1, by omega⟩
    have hl := lotN_lt L
    have hm9 : lotN L % 9 < 9 := Nat.mod_lt _ (by decide)
    obtain ⟨k1, k2, k3⟩ := lotS_ok (lotN L % 9) (lotN L) (by omega)
    have f0 : Fr (Prow 10) σ (rnw σ 10 0 0) := (Fr.uI ⟨Or.inr rfl, rfl⟩).tr (Fr.aI ⟨Or.inl rfl, rfl⟩)
    obtain ⟨σ1, u1, u2, u3⟩ := X7_lots1_L (x1 := nI N) (x3 := nI on) (x4 := nI a) (x7 := nI i) (kk := fun (s10 : Mem) (y5_9 : Int64) => ((X2_outOf s10 0 10 (nI on)).bind fun q11 => (X4_pack q11.1 10).bind fun q12 => if (lg_cmp q11.2 q12.2) = 0 then (X7_lots_L43 (nI N) (nI on) kk g q12.1 ((nI a + (1 : Int32))) y5_9 ((nI i + (1 : Int32)))) else (X7_lots_L43 (nI N) (nI on) kk g q12.1 (nI a) y5_9 ((nI i + (1 : Int32)))))) (show lotN L % 9 ≤ 8 by omega) (lotN L % 9) 0 FU (lotN L) (rnw σ 10 0 0) [] (fu_gt (by omega)) (by omega) (by omega) rfl ⟨by simp [rnw, aI_1, uI_1], by simp, by simp [Sg], fun j hj => by simp at hj⟩
    rw [List.nil_append] at u3
    have f1 := f0.tr u2
    have hP1 : PL σ1 0 n T := hP.row f1
    obtain ⟨τ, t1, t2⟩ := ih (i + 1) g (lotS (lotN L % 9) (lotN L)).2 (a + if outS T n on (lotS (lotN L % 9) (lotN L)).1 = (lotS (lotN L % 9) (lotN L)).1 then 1 else 0) σ1 (by omega) (by omega) k1 hP1
    refine ⟨τ, ?_, f1.tr t2⟩
    rw [X7_lots_L43, if_neg (by rw [nle (by omega) (by omega)]; omega), X7_lotAfter_n hL, Option.bind_some, if_neg n9, lt_eq]
    dsimp only
    rw [lot9 (by omega), show (0 : Int32) = nI 0 from rfl, X4_renew_n (by decide) (by omega), Option.bind_some]
    refine u1.trans ?_
    rw [X2_outOf_n (by decide) (by decide) hP1 hT (by omega) u3 (by omega), Option.bind_some]
    dsimp only
    rw [X4_pack_n (by decide) u3 (by omega), Option.bind_some]
    dsimp only
    rw [ltC]
    by_cases q : outS T n on (lotS (lotN L % 9) (lotN L)).1 = (lotS (lotN L % 9) (lotN L)).1
    · rw [if_pos ((pk_eqo hT k3 (by omega) k3 (by omega)).mpr q), nadd_r, nadd_r]
      rw [if_pos q] at t1 ⊢
      exact t1
    · rw [if_neg (fun w => q ((pk_eqo hT k3 (by omega) k3 (by omega)).mp w)), nadd_r]
      rw [if_neg q] at t1 ⊢
      exact t1
theorem X8_lots2_L {n N : Nat} {T : Nat → Nat → Int32} {kk : Mem → Int32 → Option (Mem × Int32)} (hT : TV T n) (hn : n ≤ 8) (hN : N ≤ 20) : ∀ (c i f L a : Nat) (σ : Mem), c < f → i + c = N → L < 2147483648 → ML8 σ n T → ∃ τ, X8_lots_L32 (nI N) kk f σ (lN L) (nI a) (nI i) = kk τ (nI (ltC T n (onM T n) c L a)) ∧ Fr S8 σ τ := by
  have hon := onM_256 (T := T) hn
  intro c
  induction c with
  | zero =>
    intro i f L a σ hf he hL hM
    obtain ⟨g, rfl⟩ : ∃ g, f = g + 1 := ⟨f - 1, by omega⟩
    refine ⟨σ, ?_, Fr.rf⟩
    rw [X8_lots_L32, if_pos (by rw [nle (by omega) (by omega)]; omega)]
    rfl
  | succ c ih =>
    intro i f L a σ hf he hL hM
    obtain ⟨g, rfl⟩ : ∃ g, f = g + 1 := ⟨f - 1, by omega⟩
    have hl := lotN_lt L
    have hm9 : lotN L % 9 < 9 := Nat.mod_lt _ (by decide)
    obtain ⟨k1, k2, k3⟩ := lotS_ok (lotN L % 9) (lotN L) (by omega)
    have f0 : Fr S8 σ (uI σ 816 0 0 (nI (lotN L % 9))) := Fr.uI (by simp [S8])
    obtain ⟨σ1, u1, u2, u3⟩ := X8_lots1_L (x1 := nI N) (x5 := nI a) (x6 := nI i) (kk := fun (s8 : Mem) (y3_7 : Int64) => ((X8_onSet s8).bind fun q9 => (X8_setBy q9.1 q9.2).bind fun q10 => (X8_isAsWritten q10.1).bind fun q11 => if q11.2 = 0 then (lt_ ((nI a + (0 : Int32))) fun (v12 : Int32) => X8_lots_L32 (nI N) kk g q11.1 y3_7 v12 ((nI i + (1 : Int32)))) else ((lt_ ((nI a + (1 : Int32))) fun (v14 : Int32) => X8_lots_L32 (nI N) kk g q11.1 y3_7 v14 ((nI i + (1 : Int32))))))) (show lotN L % 9 ≤ 8 by omega) (lotN L % 9) 0 FU (lotN L) (uI σ 816 0 0 (nI (lotN L % 9))) [] (fu_gt (by omega)) (by omega) (by omega) rfl (by simp [uI_1]) (fun j hj => by simp at hj)
    rw [List.nil_append] at u3
    have f1 : Fr S8 σ σ1 := f0.tr (u2.mono fun c k q => by rw [q]; simp [S8])
    have m1 := hM.s8 f1
    have s1 : Sh8 σ1 (lotS (lotN L % 9) (lotN L)).1 := ⟨by rw [u2.i (by decide), k2]; simp [uI_1], by omega, k3, u3⟩
    obtain ⟨σ2, v1, v2, v3⟩ := X8_setBy_n (m := onM T n) m1 hT (by omega) s1
    have v4 := X8_isAsWritten_n v3 (s1.s8p v2)
    obtain ⟨τ, t1, t2⟩ := ih (i + 1) g (lotS (lotN L % 9) (lotN L)).2 (a + if outS T n (onM T n) (lotS (lotN L % 9) (lotN L)).1 = (lotS (lotN L % 9) (lotN L)).1 then 1 else 0) σ2 (by omega) (by omega) k1 (m1.p8 v2)
    refine ⟨τ, ?_, (f1.tr (v2.mono fun _ _ => s8_78)).tr t2⟩
    rw [X8_lots_L32, if_neg (by rw [nle (by omega) (by omega)]; omega), if_neg nbig, lt_eq, lot8 hL, if_neg n9, lot9 (by omega)]
    rw [nI_0] at u1
    refine u1.trans ?_
    rw [X8_onSet_n m1, Option.bind_some]
    dsimp only
    rw [v1, Option.bind_some]
    dsimp only
    rw [v4, Option.bind_some]
    dsimp only
    rw [ltC]
    by_cases q : outS T n (onM T n) (lotS (lotN L % 9) (lotN L)).1 = (lotS (lotN L % 9) (lotN L)).1
    · rw [decide_eq_true q, bI_t, if_neg one_ne0, lt_eq, nadd_r, nadd_r]
      rw [if_pos q] at t1 ⊢
      exact t1
    · rw [decide_eq_false q, bI_f, if_pos rfl, lt_eq, nadd_r, nadd_r]
      rw [if_neg q] at t1 ⊢
      exact t1
theorem op_lots {σ : Mem} (h : Rel σ) (a b : Int32) : Both (fun σ => X7_lots σ a b) (fun σ => X8_lots σ a b) σ := by
  have cut : ∀ (x : Int32) (hi : Nat), hi < 2147483648 → (x < 1 ∨ nI hi < x) ∨ ∃ N, 1 ≤ N ∧ N ≤ hi ∧ x = nI N := by
    intro x hi hh
    rcases i32_cases x with q | ⟨k, q1, rfl⟩
    · exact Or.inl (Or.inl (i32_lt_nI (a := 1) q (by decide)))
    · by_cases w : k < 1
      · exact Or.inl (Or.inl (by rw [nlt_r q1 (by decide)]; exact w))
      · by_cases w2 : hi < k
        · exact Or.inl (Or.inr (by rw [nlt hh q1]; exact w2))
        · exact Or.inr ⟨k, by omega, by omega, rfl⟩
  rcases cut a 20 (by decide) with ha | ⟨N, n1, n2, rfl⟩
  · refine Both.mk' (σ1 := σ) (σ2 := σ) (r := -1) ?_ ?_ h
    · show X7_lots _ _ _ = _
      unfold X7_lots
      by_cases q : a < 1
      · rw [if_pos q]
      · rw [if_neg q, if_pos (show (20 : Int32) < a by rcases ha with ha | ha; exact absurd ha q; exact ha)]
    · show X8_lots _ _ _ = _
      unfold X8_lots
      rw [in_bad (show a < 1 ∨ (20 : Int32) < a from ha)]
      rfl
  have a1 : ¬ nI N < (1 : Int32) := by rw [nlt_r (by omega) (by decide)]; show ¬ N < 1; omega
  have a2 : ¬ (20 : Int32) < nI N := by rw [nlt_l (by omega) (by decide)]; show ¬ 20 < N; omega
  rcases cut b 2147483646 (by decide) with hb | ⟨L, l1, l2, rfl⟩
  · refine Both.mk' (σ1 := σ) (σ2 := σ) (r := -1) ?_ ?_ h
    · show X7_lots _ _ _ = _
      unfold X7_lots
      rw [if_neg a1, if_neg a2]
      by_cases q : b < 1
      · rw [if_pos q]
      · rw [if_neg q, if_neg (show ¬ b ≤ (2147483646 : Int32) by rw [i32_nle2]; rcases hb with hb | hb; exact absurd hb q; exact hb)]
    · show X8_lots _ _ _ = _
      unfold X8_lots
      rw [in_ok a1 a2, Option.bind_some]
      show (if (1 : Int32) = 0 then _ else _) = _
      rw [if_neg one_ne0, in_bad (show b < 1 ∨ (2147483646 : Int32) < b from hb)]
      rfl
  have b1' : ¬ nI L < (1 : Int32) := by rw [nlt_r (by omega) (by decide)]; show ¬ L < 1; omega
  have b2' : ¬ (2147483646 : Int32) < nI L := by rw [nlt_l (by omega) (by decide)]; show ¬ 2147483646 < L; omega
  obtain ⟨n, T, hP, hM, hT, hn⟩ := h.laws
  have on := onM_256 (T := T) hn
  obtain ⟨σ1, u1, u2⟩ := X7_lots2_L (kk := fun (s17 : Mem) (y4_16 : Int32) => (some (s17, y4_16))) hT on n2 N 0 FU L 0 σ (fu_gt (by omega)) (by omega) (by omega) hP
  obtain ⟨σ2, v1, v2⟩ := X8_lots2_L (kk := fun (s17 : Mem) (y5_16 : Int32) => (some (s17, y5_16))) hT hn n2 N 0 FU L 0 σ1 (fu_gt (by omega)) (by omega) (by omega) (hM.fr u2 (by simp [Prow]) (by simp [Prow]))
  rw [nI_0] at u1 v1
  refine Both.mk' (σ1 := σ1) (σ2 := σ2) (r := nI (ltC T n (onM T n) N L 0)) ?_ ?_ (Rel_scr h ((u2.mono fun c k q => Or.inr (Or.inl q)).tr (v2.mono fun _ _ q => q.scr)))
  · show X7_lots _ _ _ = _
    unfold X7_lots
    rw [if_neg a1, if_neg a2, if_neg b1', if_pos (by rw [← i32_nlt]; exact b2'), X2_onSet_n (by decide) hP, Option.bind_some, lt_eq, nI_l (by omega)]
    exact u1
  · show X8_lots _ _ _ = _
    unfold X8_lots
    rw [in_ok a1 a2, Option.bind_some]
    show (if (1 : Int32) = 0 then _ else _) = _
    rw [if_neg one_ne0, in_ok b1' b2', Option.bind_some]
    show (if (1 : Int32) = 0 then _ else _) = _
    rw [if_neg one_ne0, lt_eq, nI_l (by omega)]
    exact v1
