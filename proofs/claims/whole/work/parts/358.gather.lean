/-! the class gathers -/
theorem ou_ok {pc : Nat → Nat → List Nat} (hpc : PcOK pc) : ∀ t, Sg t → (ou pc t).length ≤ 2 * t.length ∧ Sg (ou pc t) ∧ t.headD 6 < 7 := by
  intro t
  induction t with
  | nil => intro _; exact ⟨Nat.le_refl _, fun v hv => by (cases hv), by decide⟩
  | cons a t ih =>
    intro h
    obtain ⟨i1, i2, i3⟩ := ih (fun v hv => h v (List.mem_cons_of_mem _ hv))
    have ha : a < 6 := h a (by simp)
    obtain ⟨p1, p2⟩ := hpc a (t.headD 6) ha i3
    refine ⟨?_, p2.app i2, by show a < 7; omega⟩
    rw [ou, List.length_append, List.length_cons]
    omega
theorem or_pk {p t : List Nat} (hp : Sg p) (ht : Sg t) (h : (p ++ t).length ≤ 16) : lN (pkN t) ||| (lN (pkN p) <<< ((nI (3 * t.length)).toInt64 &&& 63)) = lN (pkN (p ++ t)) := by
  rw [List.length_append] at h
  have h1 := pkN_lt48 (hp.app ht) (by rw [List.length_append]; omega)
  have h2 := pkN_split p t
  have h3 : pkN t < 2 ^ (3 * t.length) := by
    have := pkN_lt ht
    rw [show (8 : Nat) = 2 ^ 3 from rfl, ← Nat.pow_mul] at this
    exact this
  have e8 : 8 ^ t.length = 2 ^ (3 * t.length) := by rw [show (8 : Nat) = 2 ^ 3 from rfl, ← Nat.pow_mul]
  rw [e8] at h2
  rw [wb_shl _ (by omega), wb_or (by omega) (by omega), Nat.or_comm, h2, ← Nat.shiftLeft_eq, ← Nat.shiftLeft_add_eq_or_of_lt h3]
theorem X6_ofn_L {σ : Mem} {pc : Nat → Nat → List Nat} {n : Nat} {kk : Mem → Int64 → Option (Mem × Int64)} (hpc : PcOK pc) (hK : KNw σ pc) (hn : n ≤ 8) : ∀ (c f N : Nat) (t : List Nat), c < f → t.length + c = n → N < 2147483648 → Sg t → X6_outOfNumbered_L15 (nI n) kk f σ (lN (pkN (ou pc t))) (nI (3 * (ou pc t).length)) (nI (t.headD 6)) (nI N) (nI t.length) = kk σ (lN (pkN (ou pc (sh c N ++ t)))) := by
  intro c
  induction c with
  | zero =>
    intro f N t hf he hN hs
    obtain ⟨g, rfl⟩ : ∃ g, f = g + 1 := ⟨f - 1, by omega⟩
    rw [X6_outOfNumbered_L15, if_pos (by rw [nle (by omega) (by omega)]; omega)]
    rfl
  | succ c ih =>
    intro f N t hf he hN hs
    obtain ⟨g, rfl⟩ : ∃ g, f = g + 1 := ⟨f - 1, by omega⟩
    obtain ⟨o1, o2, o3⟩ := ou_ok hpc t hs
    have ha : N % 6 < 6 := Nat.mod_lt _ (by decide)
    have hs2 : Sg (N % 6 :: t) := fun v hv => by
      rcases List.mem_cons.mp hv with rfl | hv
      · exact ha
      · exact hs v hv
    obtain ⟨q1, q2, q3⟩ := ou_ok hpc (N % 6 :: t) hs2
    have d6 : nI N / (6 : Int32) = nI (N / 6) := pk_div hN (d := 6) (by decide) (by decide)
    have r6 : nI N - nI N / (6 : Int32) * (6 : Int32) = nI (N % 6) := pk_rem hN (d := 6) (by decide) (by decide)
    obtain ⟨k1, k2⟩ := hK (N % 6) (t.headD 6) ha o3
    have hi : N % 6 * 7 + t.headD 6 < 42 := by omega
    have ec : ou pc (N % 6 :: t) = pc (N % 6) (t.headD 6) ++ ou pc t := rfl
    have hl : (pc (N % 6) (t.headD 6) ++ ou pc t).length ≤ 16 := by rw [← ec]; rw [List.length_cons] at q1; omega
    have := ih g (N / 6) (N % 6 :: t) (by omega) (by rw [List.length_cons]; omega) (by omega) hs2
    rw [X6_outOfNumbered_L15, if_neg (by rw [nle (by omega) (by omega)]; omega), if_neg (show ¬ (6 : Int32) = 0 by decide), lt_eq, r6, X6_pieceOf_n ha o3, Option.bind_some]
    dsimp only
    rw [ck_n hi (by decide), lt_eq, ck_n hi (by decide), lt_eq, if_neg (show ¬ (6 : Int32) = 0 by decide), lt_eq, d6, ncl (by omega), k1, k2, or_pk (hpc _ _ ha o3).2 o2 hl, nmul_l, nadd, nadd_r, ← ec]
    have e3 : 3 * (ou pc t).length + 3 * (pc (N % 6) (t.headD 6)).length = 3 * (ou pc (N % 6 :: t)).length := by rw [ec, List.length_append]; omega
    rw [e3]
    rw [sh, List.append_assoc]
    exact this
theorem X6_ofn_n {σ : Mem} {pc : Nat → Nat → List Nat} {n N : Nat} (hpc : PcOK pc) (hK : KNw σ pc) (hn : n ≤ 8) (hN : N < 2147483648) : X6_outOfNumbered σ (nI N) (nI n) = some (σ, lN (pkN (ou pc (sh n N)))) := by
  have := X6_ofn_L (kk := fun s8 y => some (s8, y)) hpc hK hn n FU N [] (fu_gt (by omega)) (by simp) hN (fun v hv => by (cases hv))
  rw [List.append_nil] at this
  exact this
def P04 (c _k : Nat) : Prop := c = 0 ∨ c = 1 ∨ c = 2 ∨ c = 3 ∨ c = 4
def tA (b : Option (Nat × Nat)) : Int32 := match b with
  | none => -9
  | some (a, _) => nI a
def tB (b : Option (Nat × Nat)) : Int32 := match b with
  | none => -9
  | some (_, c) => nI c
theorem g30_L {σ : Mem} {n : Nat} {kk : Mem → Int32 → Option (Mem × Unit)} (hn : n ≤ 4) : ∀ (c i f : Nat), c < f → i + c = n → X0_gather_L30 (nI n) kk f σ (nI (6 ^ i)) (nI i) = kk σ (nI (6 ^ n)) := by
  intro c
  induction c with
  | zero =>
    intro i f hf he
    obtain ⟨g, rfl⟩ : ∃ g, f = g + 1 := ⟨f - 1, by omega⟩
    have : i = n := by omega
    subst this
    rw [X0_gather_L30, if_pos (by rw [nle (by omega) (by omega)]; omega)]
  | succ c ih =>
    intro i f hf he
    obtain ⟨g, rfl⟩ : ∃ g, f = g + 1 := ⟨f - 1, by omega⟩
    rw [X0_gather_L30, if_neg (by rw [nle (by omega) (by omega)]; omega), if_neg (by rw [nle_l (by omega) (by decide)]; show ¬ 4 ≤ i; omega), lt_eq, nmul_r, nadd_r]
    exact ih (i + 1) g (by omega) (by omega)
theorem p4 {n : Nat} (h : n ≤ 4) : 6 ^ n ≤ 1296 := by
  have : 6 ^ n ≤ 6 ^ 4 := Nat.pow_le_pow_right (by decide) h
  have e : (6 : Nat) ^ 4 = 1296 := by decide
  omega
/-- what the class keeps of the sheets so far -/
def GI (σ : Mem) (pc : Nat → Nat → List Nat) (n i : Nat) (b : Option (Nat × Nat)) : Prop := KNw σ pc ∧ (∃ tb, TBs σ tb ∧ TI (fun k => ou pc (sh n k)) hsK tb i) ∧ (∀ k, k < i → σ.2.1 0 0 k = lN (pkN (ou pc (sh n k)))) ∧ σ.1 2 0 0 = nI (Dn (fun k => ou pc (sh n k)) i) ∧ σ.1 3 0 0 = tA b ∧ σ.1 4 0 0 = tB b ∧ TWo (fun k => ou pc (sh n k)) i b
theorem Dn_s {ky : Nat → List Nat} {i : Nat} : Dn ky (i + 1) = Dn ky i + (if (eF ky i).isNone = true then 1 else 0) := cn_succ
theorem Dn_le {ky : Nat → List Nat} {i : Nat} : Dn ky i ≤ i := cn_le _ _
theorem g56_L {pc : Nat → Nat → List Nat} {n : Nat} {kk : Mem → Option (Mem × Unit)} (hpc : PcOK pc) (hn : n ≤ 4) : ∀ (c i f : Nat) (σ : Mem) (b : Option (Nat × Nat)), c < f → i + c = 6 ^ n → GI σ pc n i b → ∃ τ b', X0_gather_L56 (nI n) (nI (6 ^ n)) kk f σ (nI i) = kk τ ∧ Fr P04 σ τ ∧ GI τ pc n (6 ^ n) b' := by
  have h4 := p4 hn
  intro c
  induction c with
  | zero =>
    intro i f σ b hf he hG
    obtain ⟨g, rfl⟩ : ∃ g, f = g + 1 := ⟨f - 1, by omega⟩
    have : i = 6 ^ n := by omega
    rw [this] at hG
    refine ⟨σ, b, ?_, Fr.rf, hG⟩
    rw [X0_gather_L56, if_pos (by rw [nle (by omega) (by omega)]; omega)]
  | succ c ih =>
    intro i f σ b hf he hG
    obtain ⟨g, rfl⟩ : ∃ g, f = g + 1 := ⟨f - 1, by omega⟩
    obtain ⟨gk, ⟨tb, gt1, gt2⟩, go, g2, g3, g4, gw⟩ := hG
    have hk : ∀ k, k ≤ i → Sg (ou pc (sh n k)) ∧ (ou pc (sh n k)).length ≤ 16 := fun k _ => by
      obtain ⟨a1, a2, -⟩ := ou_ok hpc (sh n k) (sh_sg n k)
      rw [sh_len] at a1
      exact ⟨a2, by omega⟩
    have f1 : Fr (fun c _ => c = 0) σ (uJ σ 0 0 i (lN (pkN (ou pc (sh n i))))) := Fr.uJ rfl
    have o1 : ∀ k, k ≤ i → (uJ σ 0 0 i (lN (pkN (ou pc (sh n i))))).2.1 0 0 k = lN (pkN (ou pc (sh n k))) := fun k hk2 => by
      by_cases e : k = i
      · subst e; simp [uJ_2]
      · rw [← go k (by omega)]; simp [uJ_2, e]
    obtain ⟨σ2, tb', t1, t2, t3, t4⟩ := X0_earliestLike_n (σ := uJ σ 0 0 i (lN (pkN (ou pc (sh n i))))) (ky := fun k => ou pc (sh n k)) gt2 (show i < 1296 by omega) (fun y hy => gt1 y hy) o1 hk
    have f2 : Fr P04 σ σ2 := (f1.mono fun c k q => Or.inl q).tr (t2.mono fun c k q => Or.inr (Or.inl q))
    have k2 : KNw σ2 pc := gk.fr f2 (by unfold P04; omega) (by unfold P04; omega)
    have o2 : ∀ k, k ≤ i → σ2.2.1 0 0 k = lN (pkN (ou pc (sh n k))) := fun k hk2 => by rw [t2.j (by decide)]; exact o1 k hk2
    have c2 : ∀ c, c = 2 ∨ c = 3 ∨ c = 4 → σ2.1 c 0 0 = σ.1 c 0 0 := fun c hc => by rw [t2.i (by omega), f1.i (by omega)]
    have hst := gw.st
    have Ds := Dn_s (ky := fun k => ou pc (sh n k)) (i := i)
    rw [X0_gather_L56, if_neg (by rw [nle (by omega) (by omega)]; omega), if_neg (by rw [nle_l (by omega) (by decide)]; show ¬ 1296 ≤ i; omega), X6_ofn_n hpc gk (by omega) (by omega), Option.bind_some]
    dsimp only
    rw [ck_n (by omega) (by decide), ncl (by omega), t1, Option.bind_some]
    dsimp only
    have put : ∀ (x y : Nat), ∃ σ3, σ3 = uI (uI σ2 3 0 0 (nI x)) 4 0 0 (nI y) ∧ Fr (fun c _ => c = 3 ∨ c = 4) σ2 σ3 ∧ σ3.1 3 0 0 = nI x ∧ σ3.1 4 0 0 = nI y := fun x y => ⟨_, rfl, (Fr.uI (Or.inl rfl)).tr (Fr.uI (Or.inr rfl)), by simp [uI_1], by simp [uI_1]⟩
    cases hE : eF (fun k => ou pc (sh n k)) i with
    | none =>
      rw [hE] at hst Ds
      dsimp only at hst
      rw [if_pos (show (none : Option Nat).isNone = true from rfl)] at Ds
      dsimp only
      rw [if_pos rfl, c2 2 (Or.inl rfl), g2, nadd_r, nadd_r]
      have f3 : Fr (fun c _ => c = 2) σ2 (uI σ2 2 0 0 (nI (Dn (fun k => ou pc (sh n k)) i + 1))) := Fr.uI rfl
      obtain ⟨τ, b', v1, v2, v3⟩ := ih (i + 1) g _ b (by omega) (by omega) ⟨k2.fr f3 (by decide) (by decide), ⟨tb', fun y hy => by rw [f3.i (by decide)]; exact t3 y hy, t4⟩, fun k hk2 => by rw [f3.j (by decide)]; exact o2 k (by omega), by rw [Ds]; simp [uI_1], by rw [f3.i (by decide), c2 3 (Or.inr (Or.inl rfl)), g3], by rw [f3.i (by decide), c2 4 (Or.inr (Or.inr rfl)), g4], hst⟩
      exact ⟨τ, b', v1, (f2.tr (f3.mono fun c k q => Or.inr (Or.inr (Or.inl q)))).tr v2, v3⟩
    | some e =>
      obtain ⟨e1, -, -⟩ := eF_some hE
      rw [hE] at hst Ds
      dsimp only at hst
      rw [if_neg (show ¬ (some e : Option Nat).isNone = true from fun h => by (cases h))] at Ds
      replace Ds : Dn (fun k => ou pc (sh n k)) (i + 1) = Dn (fun k => ou pc (sh n k)) i := Ds
      dsimp only
      rw [if_neg (by rw [neq (by omega) (by omega)]; omega), c2 3 (Or.inr (Or.inl rfl)), g3]
      obtain ⟨σ3, s1, s2, s3, s4⟩ := put e i
      have f3 : Fr P04 σ2 σ3 := s2.mono fun c k q => by rcases q with q | q; exact Or.inr (Or.inr (Or.inr (Or.inl q))); exact Or.inr (Or.inr (Or.inr (Or.inr q)))
      have wr : ∀ {b2}, b2 = some (e, i) → TWo (fun k => ou pc (sh n k)) (i + 1) b2 → ∃ τ b', X0_gather_L56 (nI n) (nI (6 ^ n)) kk g (uI (uI σ2 3 0 0 (nI e)) 4 0 0 (nI i)) (nI i + 1) = kk τ ∧ Fr P04 σ τ ∧ GI τ pc n (6 ^ n) b' := by
        intro b2 hb hw
        rw [← s1, nadd_r]
        subst hb
        obtain ⟨τ, b', v1, v2, v3⟩ := ih (i + 1) g σ3 (some (e, i)) (by omega) (by omega) ⟨k2.fr s2 (by decide) (by decide), ⟨tb', fun y hy => by rw [s2.i (by decide)]; exact t3 y hy, t4⟩, fun k hk2 => by rw [s2.j (by decide)]; exact o2 k (by omega), by rw [s2.i (by decide), c2 2 (Or.inl rfl), g2, Ds], s3, s4, hw⟩
        exact ⟨τ, b', v1, (f2.tr f3).tr v2, v3⟩
      cases b with
      | none =>
        rw [if_pos (show tA none = -9 from rfl)]
        exact wr rfl hst
      | some p =>
        obtain ⟨a, d⟩ := p
        have ha : a < i := by
          obtain ⟨q1, q2, -⟩ := gw
          omega
        dsimp only at hst
        show ∃ τ b', (if nI a = -9 then _ else if nI a ≤ nI e then _ else _) = _ ∧ _
        rw [if_neg (nne_neg (by omega) (by decide))]
        by_cases q : a ≤ e
        · rw [if_pos q] at hst
          rw [if_pos (by rw [nle (by omega) (by omega)]; exact q), nadd_r]
          obtain ⟨τ, b', v1, v2, v3⟩ := ih (i + 1) g σ2 (some (a, d)) (by omega) (by omega) ⟨k2, ⟨tb', t3, t4⟩, fun k hk2 => o2 k (by omega), by rw [c2 2 (Or.inl rfl), g2, Ds], by rw [c2 3 (Or.inr (Or.inl rfl)), g3], by rw [c2 4 (Or.inr (Or.inr rfl)), g4], hst⟩
          exact ⟨τ, b', v1, f2.tr v2, v3⟩
        · rw [if_neg q] at hst
          rw [if_neg (by rw [nle (by omega) (by omega)]; exact q)]
          exact wr rfl hst
theorem TI0 {ky : Nat → List Nat} {hs : List Nat → Nat} : TI ky hs (fun _ => 0) 0 := ⟨fun _ _ h => absurd rfl h, fun _ _ _ _ h => absurd rfl h, fun k hk => by omega⟩
theorem X0_gather_n {σ : Mem} {pc : Nat → Nat → List Nat} {n : Nat} (hpc : PcOK pc) (hn : n ≤ 4) (hK : KNw σ pc) : ∃ τ b, X0_gather σ (nI n) = some (τ, ()) ∧ Fr P04 σ τ ∧ GI τ pc n (6 ^ n) b := by
  have h4 := p4 hn
  obtain ⟨σ1, e1⟩ : ∃ σ1, σ1 = aI σ 1 0 (fun j => if j < 2048 then 0 else σ.1 1 0 j) := ⟨_, rfl⟩
  obtain ⟨σ2, e2⟩ : ∃ σ2, σ2 = uI (uI (uI σ1 2 0 0 0) 3 0 0 (-9)) 4 0 0 (-9) := ⟨_, rfl⟩
  have f1 : Fr P04 σ σ1 := by rw [e1]; exact Fr.aI (Or.inr (Or.inl rfl))
  have f2 : Fr (fun c _ => c = 2 ∨ c = 3 ∨ c = 4) σ1 σ2 := by rw [e2]; exact ((Fr.uI (Or.inl rfl)).tr (Fr.uI (Or.inr (Or.inl rfl)))).tr (Fr.uI (Or.inr (Or.inr rfl)))
  have f2' : Fr P04 σ1 σ2 := f2.mono fun c k q => by unfold P04; omega
  obtain ⟨τ, b, t1, t2, t3⟩ := g56_L (kk := fun (s13 : Mem) => (some (s13, ()))) hpc hn (6 ^ n) 0 FU σ2 none (fu_gt (by omega)) (by omega) ⟨hK.fr (f1.tr f2') (by unfold P04; omega) (by unfold P04; omega), ⟨fun _ => 0, fun y hy => by
      rw [f2.i (by decide), e1]
      simp [aI_1, hy]
      rfl, TI0⟩, fun k hk => by omega, by rw [e2]; simp [uI_1]; rfl, by rw [e2]; simp [uI_1]; rfl, by rw [e2]; simp [uI_1]; rfl, fun j hj => by omega⟩
  refine ⟨τ, b, ?_, (f1.tr f2').tr t2, t3⟩
  have g := g30_L (σ := σ2) (n := n) (kk := fun (s5 : Mem) (y3_4 : Int32) => (X0_gather_L56 (nI n) y3_4 (fun (s13 : Mem) => (some (s13, ()))) FU s5 (0 : Int32))) hn n 0 FU (fu_gt (by omega)) (by omega)
  rw [nI_0] at g t1
  unfold X0_gather J7_fill_53178
  rw [sh_92]
  show (Option.bind (if 92 < NO ∧ 2048 < 2147483648 then some (aI σ 1 0 (fun j => if j < 2048 then 0 else σ.1 1 0 j), ()) else none) fun q1 => X0_gather_L30 (nI n) (fun (s5 : Mem) (y3_4 : Int32) => (X0_gather_L56 (nI n) y3_4 (fun (s13 : Mem) => (some (s13, ()))) FU s5 (0 : Int32))) FU ((uI ((uI ((uI q1.1 2 0 0 (0 : Int32))) 3 0 0 (-9 : Int32))) 4 0 0 (-9 : Int32))) (1 : Int32) (0 : Int32)) = _
  rw [if_pos ⟨no_92, by decide⟩, Option.bind_some, ← e1, ← e2]
  exact g.trans t1
