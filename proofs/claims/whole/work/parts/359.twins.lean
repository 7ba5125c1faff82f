/-! the model's codes -/
def cd (l : List Nat) : Nat := l.foldl (fun a v => 8 * a + v) 1
theorem cd_snoc (l : List Nat) (v : Nat) : cd (l ++ [v]) = 8 * cd l + v := by simp [cd, List.foldl_append]
theorem cd_pos : ∀ n (l : List Nat), l.length = n → 1 ≤ cd l ∧ (Sg l → cd l < 2 * 8 ^ l.length) := by
  intro n
  induction n with
  | zero =>
    intro l hl
    have : l = [] := List.eq_nil_of_length_eq_zero hl
    subst this
    exact ⟨Nat.le_refl _, fun _ => by decide⟩
  | succ n ih =>
    intro l hl
    rcases list_snoc l with rfl | ⟨m, v, rfl⟩
    · simp at hl
    · obtain ⟨i1, i2⟩ := ih m (by simpa using hl)
      rw [cd_snoc, List.length_append]
      refine ⟨by omega, fun hs => ?_⟩
      have hv : v < 6 := hs v (by simp)
      have := i2 (fun w hw => hs w (List.mem_append_left _ hw))
      rw [show m.length + [v].length = m.length + 1 from rfl, Nat.pow_succ]
      omega
theorem cd_inj : ∀ (n : Nat) (s t : List Nat), s.length = n → Sg s → Sg t → cd s = cd t → s = t := by
  intro n
  induction n with
  | zero =>
    intro s t hn hs ht e
    have : s = [] := List.eq_nil_of_length_eq_zero hn
    subst this
    rcases list_snoc t with rfl | ⟨l, v, rfl⟩
    · rfl
    · rw [cd_snoc] at e
      have := (cd_pos _ l rfl).1
      have e1 : cd [] = 1 := rfl
      omega
  | succ n ih =>
    intro s t hn hs ht e
    rcases list_snoc s with rfl | ⟨l, v, rfl⟩
    · simp at hn
    · rcases list_snoc t with rfl | ⟨l2, v2, rfl⟩
      · rw [cd_snoc] at e
        have := (cd_pos _ l rfl).1
        have e1 : cd [] = 1 := rfl
        omega
      · rw [cd_snoc, cd_snoc] at e
        have hv : v < 6 := hs v (by simp)
        have hv2 : v2 < 6 := ht v2 (by simp)
        have e1 : v = v2 := by omega
        have e2 : cd l = cd l2 := by omega
        have := ih l l2 (by simpa using hn) (fun w hw => hs w (List.mem_append_left _ hw)) (fun w hw => ht w (List.mem_append_left _ hw)) e2
        rw [this, e1]
theorem cd_lt {l : List Nat} (h : Sg l) (hl : l.length ≤ 16) : cd l < 2 ^ 50 := by
  have h1 := (cd_pos _ l rfl).2 h
  have h2 : 8 ^ l.length ≤ 8 ^ 16 := Nat.pow_le_pow_right (by decide) hl
  have h3 : 2 * (8 : Nat) ^ 16 < 2 ^ 50 := by decide
  omega
theorem cd_eq2 {s t : List Nat} (hs : Sg s) (ht : Sg t) (h1 : s.length ≤ 16) (h2 : t.length ≤ 16) : lg_cmp (lN (cd s)) (lN (cd t)) = 0 ↔ s = t := by
  have q1 := cd_lt hs h1
  have q2 := cd_lt ht h2
  rw [lg_cmp_eq, lN_e2 (by omega) (by omega)]
  exact ⟨cd_inj _ s t rfl hs ht, fun e => by rw [e]⟩
theorem X8_codeOf_L {σ : Mem} {o : List Nat} {kk : Mem → Int64 → Option (Mem × Int64)} (hO : Ou8 σ o) : ∀ (t pre : List Nat) (f : Nat), o = pre ++ t → t.length < f → X8_codeOf_L4 kk f σ (lN (cd pre)) (nI pre.length) = kk σ (lN (cd o)) := by
  obtain ⟨o1, o2, o3, o4⟩ := hO
  intro t
  induction t with
  | nil =>
    intro pre f he hf
    obtain ⟨g, rfl⟩ : ∃ g, f = g + 1 := ⟨f - 1, by omega⟩
    rw [List.append_nil] at he
    subst he
    rw [X8_codeOf_L4, o1, if_pos (by rw [nle (by omega) (by omega)]; omega)]
  | cons a t ih =>
    intro pre f he hf
    obtain ⟨g, rfl⟩ : ∃ g, f = g + 1 := ⟨f - 1, by omega⟩
    have hl : o.length = pre.length + (t.length + 1) := by rw [he]; simp
    have ha : a < 6 := o3 a (by rw [he]; simp)
    have e1 : σ.1 817 0 pre.length = nI a := by
      have := o4 pre.length (by omega)
      rw [he, getD_app] at this
      exact this
    have := ih (pre ++ [a]) g (by rw [he]; simp) (by rw [List.length_cons] at hf; omega)
    rw [cd_snoc, List.length_append] at this
    rw [X8_codeOf_L4, o1, if_neg (by rw [nle (by omega) (by omega)]; omega), ck_n (by omega) (by decide), lt_eq, ncl (by omega), e1, nI_l (by omega), show (8 : Int64) = lN 8 from rfl, lN_mul, lN_add, nadd_r]
    exact this
theorem X8_codeOf_n {σ : Mem} {o : List Nat} (hO : Ou8 σ o) : X8_codeOf σ = some (σ, lN (cd o)) := by
  have := X8_codeOf_L (kk := fun s4 y => some (s4, y)) hO o [] FU rfl (fu_gt (by have := hO.2.1; omega))
  exact this
theorem X8_lc_L {n m nn : Nat} {T : Nat → Nat → Int32} {kk : Mem → Option (Mem × Unit)} (hT : TV T nn) (hm : m < 2147483648) (hn : n ≤ 4) : ∀ (c i f : Nat) (σ : Mem), c < f → i + c = 6 ^ n → ML8 σ nn T → (∀ k, k < i → σ.2.1 824 0 k = lN (cd (outS T nn m (sh n k)))) → ∃ τ, X8_layCodes_L7 (nI n) (nI m) kk f σ (nI i) = kk τ ∧ Fr S8 σ τ ∧ ∀ k, k < 6 ^ n → τ.2.1 824 0 k = lN (cd (outS T nn m (sh n k))) := by
  have h4 := p4 hn
  intro c
  induction c with
  | zero =>
    intro i f σ hf he hM hC
    obtain ⟨g, rfl⟩ : ∃ g, f = g + 1 := ⟨f - 1, by omega⟩
    refine ⟨σ, ?_, Fr.rf, fun k hk => hC k (by omega)⟩
    rw [X8_layCodes_L7, X8_sheetsOf_n (by omega), Option.bind_some]
    dsimp only
    rw [if_pos (by rw [nle (by omega) (by omega)]; omega)]
  | succ c ih =>
    intro i f σ hf he hM hC
    obtain ⟨g, rfl⟩ : ∃ g, f = g + 1 := ⟨f - 1, by omega⟩
    obtain ⟨σ1, u1, u2, u3⟩ := X8_layNumber_n (σ := σ) (n := n) (N := i) (by omega) (by omega)
    have u2' : Fr S8 σ σ1 := u2.mono fun _ _ => s8_56
    obtain ⟨σ2, v1, v2, v3⟩ := X8_setBy_n (m := m) (hM.s8 u2') hT hm u3
    have f2 : Fr S8 σ σ2 := u2'.tr (v2.mono fun _ _ => s8_78)
    have f3 : Fr (fun c _ => c = 824) σ2 (uJ σ2 824 0 i (lN (cd (outS T nn m (sh n i))))) := Fr.uJ rfl
    have f3' : Fr S8 σ2 (uJ σ2 824 0 i (lN (cd (outS T nn m (sh n i))))) := Fr.uJ (by simp [S8])
    have j2 : ∀ k, σ2.2.1 824 0 k = σ.2.1 824 0 k := fun k => by rw [v2.j (by unfold P78; omega), u2.j (by omega)]
    obtain ⟨τ, t1, t2, t3⟩ := ih (i + 1) g _ (by omega) (by omega) (hM.s8 (f2.tr f3')) (fun k hk => by
      by_cases e : k = i
      · subst e; simp [uJ_2]
      · rw [← hC k (by omega), ← j2 k]; simp [uJ_2, e])
    refine ⟨τ, ?_, (f2.tr f3').tr t2, t3⟩
    rw [X8_layCodes_L7, X8_sheetsOf_n (by omega), Option.bind_some]
    dsimp only
    rw [if_neg (by rw [nle (by omega) (by omega)]; omega), u1, Option.bind_some]
    dsimp only
    rw [v1, Option.bind_some]
    dsimp only
    rw [X8_codeOf_n v3, Option.bind_some]
    dsimp only
    rw [ck_n (by omega) (by decide), ncl (by omega), nadd_r]
    exact t1
theorem X8_layCodes_n {σ : Mem} {n nn : Nat} {T : Nat → Nat → Int32} (hT : TV T nn) (hM : ML8 σ nn T) (hn : n ≤ 4) : ∃ τ, X8_layCodes σ (nI n) = some (τ, ()) ∧ Fr S8 σ τ ∧ ∀ k, k < 6 ^ n → τ.2.1 824 0 k = lN (cd (outS T nn (onM T nn) (sh n k))) := by
  have h4 := p4 hn
  have on := onM_256 (T := T) hM.2.1
  obtain ⟨τ, t1, t2, t3⟩ := X8_lc_L (m := onM T nn) (kk := fun (s8 : Mem) => (some (s8, ()))) hT (by omega) hn (6 ^ n) 0 FU σ (fu_gt (by omega)) (by omega) hM (fun k hk => by omega)
  refine ⟨τ, ?_, t2, t3⟩
  rw [nI_0] at t1
  unfold X8_layCodes
  rw [X8_onSet_n hM, Option.bind_some]
  exact t1
/-- the codes lie there -/
def CDs (σ : Mem) (ky : Nat → List Nat) (K : Nat) : Prop := ∀ k, k < K → σ.2.1 824 0 k = lN (cd (ky k))
def KYs (ky : Nat → List Nat) : Prop := ∀ k, Sg (ky k) ∧ (ky k).length ≤ 16
theorem X8_tw_L {σ : Mem} {ky : Nat → List Nat} {K k : Nat} (hC : CDs σ ky K) (hy : KYs ky) (hK : K ≤ 1296) (hk : k < K) : ∀ (c i f : Nat), c < f → i + c = K → X8_twinOf_L4 (nI k) (nI K) (fun (s4 : Mem) => (some (s4, (-9 : Int32)))) f σ (nI i) = some (σ, chI (fsF (fun j => decide (ky j = ky k)) c i)) := by
  intro c
  induction c with
  | zero =>
    intro i f hf he
    obtain ⟨g, rfl⟩ : ∃ g, f = g + 1 := ⟨f - 1, by omega⟩
    rw [X8_twinOf_L4, if_pos (by rw [nle (by omega) (by omega)]; omega)]
    rfl
  | succ c ih =>
    intro i f hf he
    obtain ⟨g, rfl⟩ : ∃ g, f = g + 1 := ⟨f - 1, by omega⟩
    have hq := cd_eq2 (hy i).1 (hy k).1 (hy i).2 (hy k).2
    rw [X8_twinOf_L4, if_neg (by rw [nle (by omega) (by omega)]; omega), ck_n (by omega) (by decide), ck_n (by omega) (by decide), ncl (by omega), ncl (by omega), hC i (by omega), hC k hk, fsF]
    by_cases q : ky i = ky k
    · rw [if_pos (hq.mpr q), if_pos (decide_eq_true q)]
      rfl
    · rw [if_neg (fun w => q (hq.mp w)), if_neg (by rw [decide_eq_true_eq]; exact q), nadd_r]
      exact ih (i + 1) g (by omega) (by omega)
theorem X8_twinOf_n {σ : Mem} {ky : Nat → List Nat} {K k : Nat} (hC : CDs σ ky K) (hy : KYs ky) (hK : K ≤ 1296) (hk : k < K) : X8_twinOf σ (nI k) (nI K) = some (σ, chI (lF ky K k)) := by
  unfold X8_twinOf
  rw [lt_eq, nadd_r]
  exact X8_tw_L hC hy hK hk (K - (k + 1)) (k + 1) FU (fu_gt (by omega)) (by omega)
theorem lF_lt {ky : Nat → List Nat} {K k x : Nat} (h : lF ky K k = some x) : x < K := (lF_some h).2.1
theorem X8_outs_L {σ : Mem} {ky : Nat → List Nat} {K : Nat} {kk : Mem → Int32 → Option (Mem × Int32)} (hC : CDs σ ky K) (hy : KYs ky) (hK : K ≤ 1296) : ∀ (c i f A : Nat), c < f → i + c = K → X8_outs_L26 (nI K) kk f σ (nI A) (nI i) = kk σ (nI (A + cn (fun k => (lF ky K k).isNone) c i)) := by
  intro c
  induction c with
  | zero =>
    intro i f A hf he
    obtain ⟨g, rfl⟩ : ∃ g, f = g + 1 := ⟨f - 1, by omega⟩
    rw [X8_outs_L26, if_pos (by rw [nle (by omega) (by omega)]; omega)]
    rfl
  | succ c ih =>
    intro i f A hf he
    obtain ⟨g, rfl⟩ : ∃ g, f = g + 1 := ⟨f - 1, by omega⟩
    rw [X8_outs_L26, if_neg (by rw [nle (by omega) (by omega)]; omega), X8_twinOf_n hC hy hK (by omega), Option.bind_some]
    dsimp only
    rw [cn, ← Nat.add_assoc]
    cases hl : lF ky K i with
    | none =>
      rw [if_pos (show chI none = -9 from rfl), lt_eq, nadd_r, nadd_r]
      exact ih (i + 1) g (A + 1) (by omega) (by omega)
    | some x =>
      have := lF_lt hl
      rw [if_neg (show ¬ chI (some x) = -9 from nne_neg (by omega) (by decide)), lt_eq, nadd_r, nadd_r]
      exact ih (i + 1) g (A + 0) (by omega) (by omega)
theorem kys {T : Nat → Nat → Int32} {n m N : Nat} (hT : TV T n) (hN : N ≤ 4) : KYs (fun k => outS T n m (sh N k)) := fun k => by
  obtain ⟨a, b⟩ := outS_len (m := m) hT (sh_sg N k)
  rw [sh_len] at a
  exact ⟨b, by show (outS T n m (sh N k)).length ≤ 16; omega⟩
theorem op_outs {σ : Mem} (h : Rel σ) (a : Int32) : Both (fun σ => X7_outs σ a) (fun σ => X8_outs σ a) σ := by
  rcases to_n a 4 (by decide) with hc | ⟨N, hN, rfl, hc1, hc2⟩
  · refine Both.mk' (σ1 := σ) (σ2 := σ) (r := -1) ?_ ?_ h
    · show X7_outs _ _ = _
      unfold X7_outs
      rcases hc with hc | hc
      · rw [if_pos hc]
      · by_cases q : a < 0
        · rw [if_pos q]
        · rw [if_neg q, if_neg (show ¬ a ≤ 4 from hc)]
    · show X8_outs _ _ = _
      unfold X8_outs
      rw [in_bad (by rcases hc with hc | hc; exact Or.inl hc; exact Or.inr (i32_nle2.mp hc)), Option.bind_some]
      show (if (0 : Int32) = 0 then _ else _) = _
      rw [if_pos rfl]
  have h4 := p4 hN
  obtain ⟨n, T, hP, hM, hT, hn⟩ := h.laws
  have hpc := pcS_PcOK (m := onM T n) hT
  obtain ⟨σ1, u1, u2, u3⟩ := X6_know_n hT hP
  obtain ⟨σ2, b, v1, v2, v3⟩ := X0_gather_n hpc hN u3
  have uS : Fr Scr σ σ2 := (u2.mono fun c k q => Or.inl (by rcases q with rfl | rfl <;> decide)).tr (v2.mono fun c k q => Or.inl (by rcases q with rfl | rfl | rfl | rfl | rfl <;> decide))
  have u8 : ∀ c, 800 ≤ c → ∀ j, σ2.1 c 0 j = σ.1 c 0 j := fun c hc j => by rw [v2.i (by unfold P04; omega), u2.i (by unfold P60; omega)]
  have tM : ML8 σ2 n T := ⟨by rw [u8 810 (by omega)]; exact hM.1, hM.2.1, fun k hk f hf => by rw [u8 811 (by omega)]; exact hM.2.2 k hk f hf⟩
  obtain ⟨τ, t1, t2, t3⟩ := X8_layCodes_n hT tM hN
  have t4 := X8_outs_L (kk := fun (s10 : Mem) (y3_9 : Int32) => (some (s10, y3_9))) (ky := fun k => outS T n (onM T n) (sh N k)) t3 (kys hT hN) h4 (6 ^ N) 0 FU 0 (fu_gt (by omega)) (by omega)
  have ek : (fun k => outS T n (onM T n) (sh N k)) = fun k => ou (pcS T n (onM T n)) (sh N k) := funext fun k => outS_ou _
  have eD := DE (ky := fun k => ou (pcS T n (onM T n)) (sh N k)) (6 ^ N)
  refine Both.mk' (σ1 := σ2) (σ2 := τ) (r := nI (Dn (fun k => ou (pcS T n (onM T n)) (sh N k)) (6 ^ N))) ?_ ?_ (Rel_scr h (uS.tr (t2.mono fun _ _ q => q.scr)))
  · show X7_outs _ _ = _
    unfold X7_outs
    rw [if_neg hc1, if_pos (show nI N ≤ 4 from hc2), u1, Option.bind_some]
    dsimp only
    rw [v1, Option.bind_some]
    dsimp only
    rw [v3.2.2.2.1]
  · show X8_outs _ _ = _
    unfold X8_outs
    rw [in_ok hc1 (show ¬ (4 : Int32) < nI N by rw [i32_nlt]; exact hc2), Option.bind_some]
    show (if (1 : Int32) = 0 then _ else _) = _
    rw [if_neg one_ne0]
    show (X8_layCodes σ2 (nI N)).bind _ = _
    rw [t1, Option.bind_some]
    dsimp only
    rw [X8_sheetsOf_n (by omega), Option.bind_some]
    dsimp only
    rw [nI_0, Nat.zero_add, ek] at t4
    rw [eD]
    exact t4
