/-! the goal -/
def Go8 (σ : Mem) (o : List Nat) : Prop := σ.1 823 0 0 = nI o.length ∧ o.length ≤ 16 ∧ Sg o ∧ Cel (fun j => σ.1 822 0 j) o
theorem Go8.fr {P : Nat → Nat → Prop} {σ τ : Mem} {s : List Nat} (h : Go8 σ s) (f : Fr P σ τ) (h1 : ¬ P 822 0) (h2 : ¬ P 823 0) : Go8 τ s := ⟨by rw [f.i h2]; exact h.1, h.2.1, h.2.2.1, h.2.2.2.cg fun j _ => f.i h1 j⟩
theorem X8_isGoal_L {σ : Mem} {N : Nat} {kk : Mem → Int32 → Option (Mem × Int32)} (hN : N ≤ 16) (h1 : σ.1 818 0 0 = nI N) : ∀ (c i f : Nat), c < f → i + c = N → X8_isGoal_L19 kk f σ 1 (nI i) = kk σ (bI (eqF (fun j => σ.1 817 0 j) (fun j => σ.1 822 0 j) c i)) := by
  intro c
  induction c with
  | zero =>
    intro i f hf he
    obtain ⟨g, rfl⟩ : ∃ g, f = g + 1 := ⟨f - 1, by omega⟩
    rw [X8_isGoal_L19, h1, if_pos (by rw [nle (by omega) (by omega)]; omega)]
    rfl
  | succ c ih =>
    intro i f hf he
    obtain ⟨g, rfl⟩ : ∃ g, f = g + 1 := ⟨f - 1, by omega⟩
    rw [X8_isGoal_L19, h1, if_neg (by rw [nle (by omega) (by omega)]; omega), if_neg one_ne0, ck_n (by omega) (by decide), ck_n (by omega) (by decide), ncl (by omega), eqF]
    by_cases e : σ.1 817 0 i = σ.1 822 0 i
    · rw [if_pos e, if_pos e, nadd_r]
      exact ih (i + 1) g (by omega) (by omega)
    · rw [if_neg e, if_neg e, bI_f]
      obtain ⟨g, rfl⟩ : ∃ g', g = g' + 1 := ⟨g - 1, by omega⟩
      rw [X8_isGoal_L19]
      split
      · rfl
      · rw [if_pos rfl]
theorem X8_isGoal_n {σ : Mem} {o s : List Nat} (hO : Ou8 σ o) (hS : Go8 σ s) : X8_isGoal σ = some (σ, bI (decide (o = s))) := by
  obtain ⟨o1, o2, o3, o4⟩ := hO
  obtain ⟨s1, s2, s3, s4⟩ := hS
  unfold X8_isGoal
  rw [o1, s1]
  by_cases e : o.length = s.length
  · rw [if_pos (by rw [e])]
    rw [show (0 : Int32) = nI 0 from rfl, X8_isGoal_L o2 o1 o.length 0 FU (fu_gt (by omega)) (by omega)]
    show (if bI _ = 0 ∨ bI _ = 1 then _ else _) = _
    rw [bI_ok, eqF_cel o4 s4 o3 s3 e]
  · have ne : ¬ o = s := fun q => e (by rw [q])
    rw [if_neg (by rw [neq (by omega) (by omega)]; exact e)]
    rw [show FU = 99999 + 1 from rfl, X8_isGoal_L19]
    have : bI (decide (o = s)) = 0 := by simp [ne, bI]
    rw [this]
    split
    · rfl
    · rw [if_pos rfl]; rfl
theorem X8_layGoal_L {r : Nat} {s : List Nat} {kk : Mem → Option (Mem × Unit)} (hr : r < 6) (h8 : s.length ≤ 16) : ∀ (c i f : Nat) (σ : Mem), c < f → i + c = s.length → σ.1 823 0 0 = nI s.length → Rw8 σ r s → (∀ j, j < i → σ.1 822 0 j = nI (s.getD j 0)) → ∃ τ, X8_layGoal_L12 (nI r) kk f σ (nI i) = kk τ ∧ Fr (fun c _ => c = 822) σ τ ∧ Cel (fun j => τ.1 822 0 j) s := by
  intro c
  induction c with
  | zero =>
    intro i f σ hf he h1 hR hC
    obtain ⟨g, rfl⟩ : ∃ g, f = g + 1 := ⟨f - 1, by omega⟩
    refine ⟨σ, ?_, Fr.rf, fun j hj => hC j (by omega)⟩
    rw [X8_layGoal_L12, h1, if_pos (by rw [nle (by omega) (by omega)]; omega)]
  | succ c ih =>
    intro i f σ hf he h1 hR hC
    obtain ⟨g, rfl⟩ : ∃ g, f = g + 1 := ⟨f - 1, by omega⟩
    have fr : Fr (fun c _ => c = 822) σ (uI σ 822 0 i (nI (s.getD i 0))) := Fr.uI rfl
    obtain ⟨τ, t1, t2, t3⟩ := ih (i + 1) g (uI σ 822 0 i (nI (s.getD i 0))) (by omega) (by omega) (by rw [fr.i (by decide)]; exact h1) (hR.fr fr (by decide) (by decide)) (fun j hj => by
      by_cases e : j = i
      · subst e; simp [uI_1]
      · simp only [uI_1]
        rw [if_neg (by rintro ⟨-, -, q⟩; exact e q)]
        exact hC j (by omega))
    refine ⟨τ, ?_, fr.tr t2, t3⟩
    have cc : σ.1 806 0 (40 * r + i) = nI (s.getD i 0) := hR.2.2 i (by omega)
    rw [X8_layGoal_L12, h1, if_neg (by rw [nle (by omega) (by omega)]; omega), X8_rowAt_n (by omega)]
    dsimp only [Option.bind_some]
    rw [ck_n (by omega) (by decide), ncl (by omega), cc, nadd_r]
    exact t1
theorem X8_layGoal_n {σ : Mem} {r : Nat} {s : List Nat} (hr : r < 6) (h8 : s.length ≤ 16) (hR : Rw8 σ r s) (hs : Sg s) : ∃ τ, X8_layGoal σ (nI r) = some (τ, ()) ∧ Fr (fun c _ => c = 822 ∨ c = 823) σ τ ∧ Go8 τ s := by
  have fr : Fr (fun c _ => c = 822 ∨ c = 823) σ (uI σ 823 0 0 (nI s.length)) := Fr.uI (Or.inr rfl)
  obtain ⟨τ, t1, t2, t3⟩ := X8_layGoal_L (kk := fun s => some (s, ())) hr h8 s.length 0 FU (uI σ 823 0 0 (nI s.length)) (fu_gt (by omega)) (by omega) (by simp [uI_1]) (hR.fr fr (by decide) (by decide)) (fun j hj => by omega)
  refine ⟨τ, ?_, fr.tr (t2.mono fun _ _ => Or.inl), by rw [t2.i (by decide)]; simp [uI_1], h8, hs, t3⟩
  unfold X8_layGoal
  rw [ck_n hr (by decide), ncl (by omega), hR.1]
  exact t1
def P4s (c _k : Nat) : Prop := c = 815 ∨ c = 816 ∨ c = 817 ∨ c = 818
theorem P4s.s8 {c k : Nat} (h : P4s c k) : S8 c k := by rcases h with rfl | rfl | rfl | rfl <;> simp [S8]
theorem ML8.p4 {σ τ : Mem} {n : Nat} {T : Nat → Nat → Int32} (h : ML8 σ n T) (f : Fr P4s σ τ) : ML8 τ n T := h.fr f (by unfold P4s; omega) (by unfold P4s; omega)
theorem Go8.p4 {σ τ : Mem} {s : List Nat} (h : Go8 σ s) (f : Fr P4s σ τ) : Go8 τ s := h.fr f (by unfold P4s; omega) (by unfold P4s; omega)
theorem X8_ff15_L {n m nn : Nat} {T : Nat → Nat → Int32} {o : List Nat} {kk : Mem → Option (Mem × Int32)} (hT : TV T nn) (hm : m < 2147483648) (hn : n ≤ 6) : ∀ (c i f : Nat) (σ : Mem), c < f → i + c = 6 ^ n → ML8 σ nn T → Go8 σ o → ∃ τ, X8_findsFirst_L15 (nI m) (nI n) kk f σ (nI i) = (match fsF (fun N => decide (outS T nn m (sh n N) = o)) c i with | some _ => some (τ, 1) | none => kk τ) ∧ Fr P4s σ τ ∧ ∀ N, fsF (fun N => decide (outS T nn m (sh n N) = o)) c i = some N → Sh8 τ (sh n N) := by
  have h6 := p6 hn
  intro c
  induction c with
  | zero =>
    intro i f σ hf he hM hG
    obtain ⟨g, rfl⟩ : ∃ g, f = g + 1 := ⟨f - 1, by omega⟩
    refine ⟨σ, ?_, Fr.rf, fun N w => by cases w⟩
    rw [X8_findsFirst_L15, X8_sheetsOf_n (by omega), Option.bind_some]
    dsimp only
    rw [if_pos (by rw [nle (by omega) (by omega)]; omega)]
    rfl
  | succ c ih =>
    intro i f σ hf he hM hG
    obtain ⟨g, rfl⟩ : ∃ g, f = g + 1 := ⟨f - 1, by omega⟩
    obtain ⟨σ1, u1, u2, u3⟩ := X8_layNumber_n (σ := σ) (n := n) (N := i) (by omega) (by omega)
    have u2' : Fr P4s σ σ1 := u2.mono fun c _ q => by unfold P4s; omega
    obtain ⟨σ2, v1, v2, v3⟩ := X8_setBy_n (m := m) (hM.p4 u2') hT hm u3
    have f2 : Fr P4s σ σ2 := u2'.tr (v2.mono fun c _ q => by unfold P78 at q; unfold P4s; omega)
    have v4 := X8_isGoal_n v3 (hG.p4 f2)
    rw [X8_findsFirst_L15, X8_sheetsOf_n (by omega), Option.bind_some, fsF]
    dsimp only
    rw [if_neg (by rw [nle (by omega) (by omega)]; omega), u1, Option.bind_some]
    dsimp only
    rw [v1, Option.bind_some]
    dsimp only
    rw [v4, Option.bind_some]
    dsimp only
    cases hd : decide (outS T nn m (sh n i) = o) with
    | true =>
      rw [bI_t, if_neg one_ne0, if_pos rfl, b1]
      exact ⟨σ2, rfl, f2, fun N w => by cases w; exact u3.s8p v2⟩
    | false =>
      obtain ⟨τ, t1, t2, t3⟩ := ih (i + 1) g σ2 (by omega) (by omega) (hM.p4 f2) (hG.p4 f2)
      refine ⟨τ, ?_, f2.tr t2, ?_⟩
      · rw [bI_f, if_pos rfl, if_neg (by decide), nadd_r]
        exact t1
      · rw [if_neg (by decide)]
        exact t3
theorem X8_ff7_L {m nn : Nat} {T : Nat → Nat → Int32} {o : List Nat} (hT : TV T nn) (hm : m < 2147483648) : ∀ (c n f : Nat) (σ : Mem), c < f → n + c = 7 → ML8 σ nn T → Go8 σ o → ∃ τ, X8_findsFirst_L7 (nI m) (fun (s11 : Mem) => (if (0 : Int32) = 0 ∨ (0 : Int32) = 1 then some (s11, (0 : Int32)) else none)) f σ (nI n) = some (τ, match eaS (pcS T nn m) o c n with | some _ => 1 | none => 0) ∧ Fr P4s σ τ ∧ ∀ s, eaS (pcS T nn m) o c n = some s → Sh8 τ s := by
  intro c
  induction c with
  | zero =>
    intro n f σ hf he hM hG
    obtain ⟨g, rfl⟩ : ∃ g, f = g + 1 := ⟨f - 1, by omega⟩
    refine ⟨σ, ?_, Fr.rf, fun N w => by cases w⟩
    rw [X8_findsFirst_L7, if_pos (by rw [nlt_l (by omega) (by decide)]; omega), b0]
    rfl
  | succ c ih =>
    intro n f σ hf he hM hG
    obtain ⟨g, rfl⟩ : ∃ g, f = g + 1 := ⟨f - 1, by omega⟩
    have h6 := p6 (show n ≤ 6 by omega)
    obtain ⟨σ1, u1, u2, u3⟩ := X8_ff15_L (n := n) (m := m) (o := o) (kk := fun (s8 : Mem) => (X8_findsFirst_L7 (nI m) (fun (s11 : Mem) => (if (0 : Int32) = 0 ∨ (0 : Int32) = 1 then some (s11, (0 : Int32)) else none)) g s8 ((nI n + (1 : Int32))))) hT hm (by omega) (6 ^ n) 0 FU σ (fu_gt (by omega)) (by omega) hM hG
    have e : fsF (fun N => decide (outS T nn m (sh n N) = o)) (6 ^ n) 0 = fsF (fun N => decide (ou (pcS T nn m) (sh n N) = o)) (6 ^ n) 0 := fsF_cg _ _ (fun N _ _ => by rw [outS_ou])
    rw [e] at u1 u3
    rw [nI_0] at u1
    rw [X8_findsFirst_L7, if_neg (by rw [nlt_l (by omega) (by decide)]; omega), eaS]
    cases hN : fsF (fun N => decide (ou (pcS T nn m) (sh n N) = o)) (6 ^ n) 0 with
    | some N =>
      rw [hN] at u1
      exact ⟨σ1, u1, u2, fun s w => by cases w; exact u3 N hN⟩
    | none =>
      rw [hN] at u1
      obtain ⟨τ, t1, t2, t3⟩ := ih (n + 1) g σ1 (by omega) (by omega) (hM.p4 u2) (hG.p4 u2)
      refine ⟨τ, ?_, u2.tr t2, t3⟩
      rw [nadd_r] at u1 ⊢
      exact u1.trans t1
theorem X8_findsFirst_n {σ : Mem} {nn : Nat} {T : Nat → Nat → Int32} {o : List Nat} (hT : TV T nn) (hM : ML8 σ nn T) (hG : Go8 σ o) : ∃ τ, X8_findsFirst σ = some (τ, match eaS (pcS T nn (onM T nn)) o 7 0 with | some _ => 1 | none => 0) ∧ Fr P4s σ τ ∧ ∀ s, eaS (pcS T nn (onM T nn)) o 7 0 = some s → Sh8 τ s := by
  have on := onM_256 (T := T) hM.2.1
  obtain ⟨τ, t1, t2, t3⟩ := X8_ff7_L (m := onM T nn) hT (by omega) 7 0 FU σ (fu_gt (by decide)) (by decide) hM hG
  refine ⟨τ, ?_, t2, t3⟩
  unfold X8_findsFirst
  rw [nI_0] at t1
  rw [X8_onSet_n hM, Option.bind_some]
  exact t1
theorem X8_bel45_L {nn D : Nat} {T : Nat → Nat → Int32} {x3 : Int32} {kk : Mem → Option (Mem × Int32)} (hT : TV T nn) (hD : D ≤ 3) : ∀ (c i f : Nat) (o : List Nat) (σ : Mem), c < f → i + c = D → ML8 σ nn T → Go8 σ o → ∃ τ, X8_believed_L45 (nI D) x3 kk f σ (nI i) = (match blF (pcS T nn (onM T nn)) c o with | some _ => kk τ | none => some (τ, -9)) ∧ Fr S8 σ τ ∧ ∀ s, blF (pcS T nn (onM T nn)) c o = some s → Go8 τ s := by
  intro c
  induction c with
  | zero =>
    intro i f o σ hf he hM hG
    obtain ⟨g, rfl⟩ : ∃ g, f = g + 1 := ⟨f - 1, by omega⟩
    refine ⟨σ, ?_, Fr.rf, fun s w => by cases w; exact hG⟩
    rw [X8_believed_L45, if_pos (by rw [nle (by omega) (by omega)]; omega)]
    rfl
  | succ c ih =>
    intro i f o σ hf he hM hG
    obtain ⟨g, rfl⟩ : ∃ g, f = g + 1 := ⟨f - 1, by omega⟩
    obtain ⟨σ1, u1, u2, u3⟩ := X8_findsFirst_n hT hM hG
    have u2' : Fr S8 σ σ1 := u2.mono fun _ _ q => q.s8
    rw [X8_believed_L45, if_neg (by rw [nle (by omega) (by omega)]; omega), u1, Option.bind_some, blF]
    dsimp only
    cases hs : eaS (pcS T nn (onM T nn)) o 7 0 with
    | none =>
      dsimp only
      rw [if_pos rfl]
      exact ⟨σ1, rfl, u2', fun s w => by cases w⟩
    | some s =>
      dsimp only
      obtain ⟨s1, s2, s3, s4⟩ := u3 s hs
      have fr : Fr (fun c _ => c = 823) σ1 (uI σ1 823 0 0 (nI s.length)) := Fr.uI rfl
      obtain ⟨σ2, v1, v2, v3⟩ := X8_bel1_L (x2 := nI D) (x3 := x3) (x5 := nI i) (kk := fun (s6 : Mem) => (X8_believed_L45 (nI D) x3 kk g s6 ((nI i + (1 : Int32))))) s2 s.length 0 FU (uI σ1 823 0 0 (nI s.length)) (fu_gt (by omega)) (by omega) (by rw [fr.i (by decide)]; exact s1) (s4.cg fun j _ => fr.i (by decide) j) (fun j hj => by omega)
      have f2 : Fr S8 σ σ2 := (u2'.tr (fr.mono fun c _ q => by rw [q]; simp [S8])).tr (v2.mono fun c _ q => by rw [q]; simp [S8])
      have g2 : Go8 σ2 s := ⟨by rw [v2.i (by decide)]; simp [uI_1], by omega, s3, v3⟩
      obtain ⟨τ, t1, t2, t3⟩ := ih (i + 1) g s σ2 (by omega) (by omega) (hM.s8 f2) g2
      refine ⟨τ, ?_, f2.tr t2, t3⟩
      rw [nI_0, nadd_r] at v1
      rw [if_neg one_ne0, s1, nadd_r]
      exact v1.trans t1
/-- the class: what is believed to a depth -/
theorem bel7 {σ : Mem} (h : Rel σ) {r t D : Nat} {o : List Nat} (hr : r < 6) (ht : t < 6) (hD : D ≤ 3) {n : Nat} {T : Nat → Nat → Int32} (hP : PL σ 0 n T) (hT : TV T n) (hl : o.length ≤ 16) (sg : Sg o) (hS : RowS σ r o) (e7 : X7_refuses σ r (nI 16) = some (σ, 0)) : ∃ τ, X7_believed σ (nI r) (nI D) (nI t) = some (τ, match blF (pcS T n (onM T n)) D o with | some s => nI s.length | none => -9) ∧ (match blF (pcS T n (onM T n)) D o with | some s => Fr (fun c k => Prow t c k ∨ Scr c k) σ τ ∧ RowS τ t s ∧ s.length ≤ 16 ∧ Sg s | none => Fr Scr σ τ) := by
  have hpc := pcS_PcOK (m := onM T n) hT
  obtain ⟨σ1, u1, u2, u3⟩ := X6_know_n hT hP
  have hS1 : RowS σ1 r o := hS.fr u2 (by unfold P60; omega) (by unfold P60; omega)
  obtain ⟨σ2, v1, v2, v3⟩ := X7_believed_L (x5 := t) (kk := fun (s13 : Mem) (y6_12 : Int64) => ((X4_unpack s13 t y6_12).bind fun q14 => some (q14.1, (q14.1.1 401 t 0)))) hpc hD D 0 FU o σ1 (fu_gt (by omega)) (by omega) u3 sg hl
  have fS : Fr Scr σ σ2 := (u2.mono fun c k q => Or.inl (by rcases q with rfl | rfl <;> decide)).tr (v2.mono fun c k q => Or.inl (by rcases q with rfl | rfl | rfl <;> decide))
  rw [nI_0] at v1
  have st : X7_believed σ (nI r) (nI D) (nI t) = X7_believed_L70 (nI D) t (fun (s13 : Mem) (y6_12 : Int64) => ((X4_unpack s13 t y6_12).bind fun q14 => some (q14.1, (q14.1.1 401 t 0)))) FU σ1 (lN (pkN o)) 0 := by
    simp only [X7_believed, X7_rowOf_n hr, X7_rowOf_n ht, Option.bind_some]
    rw [spl_some (by omega), spl_some (by omega), if_neg (nnlt0 (by omega)), if_pos (by rw [nle_r (by omega) (by decide)]; exact hD), show (16 : Int32) = nI 16 from rfl, e7, Option.bind_some]
    show (if (0 : Int32) = 0 then _ else _) = _
    rw [if_pos rfl, u1, Option.bind_some]
    dsimp only
    rw [X4_pack_n (by omega) hS1 hl, Option.bind_some]
  cases hb : blF (pcS T n (onM T n)) D o with
  | none =>
    rw [hb] at v1
    exact ⟨σ2, st.trans v1, fS⟩
  | some s =>
    rw [hb] at v1
    obtain ⟨w1, w2⟩ := v3 s hb
    obtain ⟨σ3, x1, x2, x3⟩ := X4_unpack_n (σ := σ2) (r := t) (by omega) w1 w2
    refine ⟨σ3, ?_, (fS.mono fun _ _ => Or.inr).tr (x2.mono fun _ _ => Or.inl), x3, w2, w1⟩
    refine (st.trans v1).trans ?_
    dsimp only
    rw [x1, Option.bind_some]
    dsimp only
    rw [x3.1]
theorem op_believed {σ : Mem} (h : Rel σ) (a b c : Int32) : Both (fun σ => X7_believed σ a b c) (fun σ => X8_believed σ a b c) σ := by
  have n01 : ¬ (0 : Int32) ≤ -1 := by decide
  rcases to_n b 3 (by decide) with hb | ⟨D, hD, rfl, hb1, hb2⟩
  · refine Both.mk' (σ1 := σ) (σ2 := σ) (r := -1) ?_ ?_ h
    · rcases isR a with ⟨a7, a8⟩ | ⟨r, hr, rfl⟩
      · simp only [X7_believed, a7, Option.bind_some, spl_none]
        rcases isR c with ⟨c7, c8⟩ | ⟨q, hq, rfl⟩
        · simp only [c7, Option.bind_some, spl_none]
        · simp only [X7_rowOf_n hq, Option.bind_some]
          rw [spl_some (by omega)]
      · simp only [X7_believed, X7_rowOf_n hr, Option.bind_some]
        rw [spl_some (by omega)]
        rcases isR c with ⟨c7, c8⟩ | ⟨q, hq, rfl⟩
        · simp only [c7, Option.bind_some, spl_none]
        · simp only [X7_rowOf_n hq, Option.bind_some]
          rw [spl_some (by omega)]
          rcases hb with hb | hb
          · rw [if_pos hb]
          · by_cases q : b < 0
            · rw [if_pos q]
            · rw [if_neg q, if_neg (show ¬ b ≤ 3 from hb)]
    · show X8_believed _ _ _ _ = _
      unfold X8_believed
      rw [in_bad (by rcases hb with hb | hb; exact Or.inl hb; exact Or.inr (i32_nle2.mp hb)), Option.bind_some]
      show (if (0 : Int32) = 0 then _ else _) = _
      rw [if_pos rfl, if_neg n01]
  have hin : ∀ σ : Mem, X8_in σ (nI D) 0 3 = some (σ, 1) := fun σ => in_ok hb1 (by rw [i32_nlt]; exact hb2)
  rcases isR c with ⟨c7, c8⟩ | ⟨t, ht, rfl⟩
  · refine Both.mk' (σ1 := σ) (σ2 := σ) (r := -1) ?_ ?_ h
    · rcases isR a with ⟨a7, a8⟩ | ⟨r, hr, rfl⟩
      · simp only [X7_believed, a7, c7, Option.bind_some, spl_none]
      · simp only [X7_believed, X7_rowOf_n hr, c7, Option.bind_some, spl_none]
        rw [spl_some (by omega)]
    · show X8_believed _ _ _ _ = _
      unfold X8_believed
      rw [hin, Option.bind_some]
      show (if (1 : Int32) = 0 then _ else _) = _
      rw [if_neg one_ne0, c8, Option.bind_some]
      show (if (0 : Int32) = 0 then _ else _) = _
      rw [if_pos rfl, if_neg n01]
  have s8 : ∀ {τ υ : Mem} {v : Int32}, X8_askedSigns τ a (nI 16) = some (υ, v) → X8_believed τ a (nI D) (nI t) = if 0 ≤ v then ((X8_layGoal υ a).bind fun q17 => X8_believed_L45 (nI D) (nI t) (fun (s19 : Mem) => ((X8_row s19 (nI t) ((s19.1 823 0 0))).bind fun q20 => X8_believed_L120 (nI t) (fun (s22 : Mem) => (some (s22, (s22.1 823 0 0)))) FU q20.1 (0 : Int32))) FU q17.1 (0 : Int32)) else some (υ, v) := by
    intro τ υ v e
    unfold X8_believed
    rw [hin, Option.bind_some]
    show (if (1 : Int32) = 0 then _ else _) = _
    rw [if_neg one_ne0, X8_isRow_r ht, Option.bind_some]
    show (if (1 : Int32) = 0 then _ else _) = _
    rw [if_neg one_ne0, show (16 : Int32) = nI 16 from rfl]
    show (X8_askedSigns τ a (nI 16)).bind _ = _
    rw [e, Option.bind_some]
  rcases isR a with ⟨a7, a8⟩ | ⟨r, hr, rfl⟩
  · refine Both.mk' (σ1 := σ) (σ2 := σ) (r := -1) ?_ ?_ h
    · simp only [X7_believed, a7, X7_rowOf_n ht, Option.bind_some, spl_none]
      rw [spl_some (by omega)]
    · show X8_believed _ _ _ _ = _
      rw [s8 (X8_askedSigns_no (a8 σ)), if_neg n01]
  rcases asRow h hr (most := 16) (by decide) with ⟨f, f1, f2, e7, e8⟩ | ⟨o, hl, sg, hS, hR, e7, e8⟩
  · refine Both.mk' (σ1 := ans7 σ f) (σ2 := met8 (ans7 σ f) f) (r := -3) ?_ ?_ (Rel_fnd h f f1 f2)
    · simp only [X7_believed, X7_rowOf_n hr, X7_rowOf_n ht, Option.bind_some]
      rw [spl_some (by omega), spl_some (by omega), if_neg hb1, if_pos (show nI D ≤ 3 from hb2), show (16 : Int32) = nI 16 from rfl, e7]
      rfl
    · show X8_believed _ _ _ _ = _
      rw [s8 (e8 _ (fun j => ans7_i (by decide) (by decide)) (fun j => ans7_i (by decide) (by decide))), if_neg (by decide)]
  obtain ⟨n, T, hP, hM, hT, hn⟩ := h.laws
  obtain ⟨σ1, x1, x2⟩ := bel7 h hr ht hD hP hT hl sg hS e7
  have q8 : ∀ c, 800 ≤ c → c < 807 ∨ c = 810 ∨ c = 811 → ∀ j, σ1.1 c 0 j = σ.1 c 0 j := by
    intro c h1 h2 j
    have nS : ¬ Scr c 0 := by
      simp only [Scr, List.mem_cons, List.not_mem_nil, or_false]
      omega
    cases hbl : blF (pcS T n (onM T n)) D o with
    | none => rw [hbl] at x2; exact x2.i nS j
    | some s => rw [hbl] at x2; exact x2.1.i (by rintro (q | q); · unfold Prow at q; omega
                                                 · exact nS q) j
  have tM : ML8 σ1 n T := ⟨by rw [q8 810 (by omega) (by omega)]; exact hM.1, hM.2.1, fun k hk f hf => by rw [q8 811 (by omega) (by omega)]; exact hM.2.2 k hk f hf⟩
  have tR : Rw8 σ1 r o := ⟨by rw [q8 805 (by omega) (by omega)]; exact hR.1, hR.2.1, hR.2.2.cg fun j _ => q8 806 (by omega) (by omega) _⟩
  obtain ⟨τ1, g1, g2, g3⟩ := X8_layGoal_n hr hl tR sg
  have g2' : Fr S8 σ1 τ1 := g2.mono fun c _ q => by rcases q with rfl | rfl <;> simp [S8]
  obtain ⟨τ2, k1, k2, k3⟩ := X8_bel45_L (x3 := nI t) (kk := fun (s19 : Mem) => ((X8_row s19 (nI t) ((s19.1 823 0 0))).bind fun q20 => X8_believed_L120 (nI t) (fun (s22 : Mem) => (some (s22, (s22.1 823 0 0)))) FU q20.1 (0 : Int32))) hT hD D 0 FU o τ1 (fu_gt (by omega)) (by omega) (tM.s8 g2') g3
  rw [nI_0] at k1
  have st := s8 (e8 σ1 (fun j => q8 805 (by omega) (by omega) j) (fun j => q8 806 (by omega) (by omega) j))
  rw [if_pos (by decide), g1, Option.bind_some] at st
  cases hbl : blF (pcS T n (onM T n)) D o with
  | none =>
    rw [hbl] at x1 x2 k1
    exact Both.mk' x1 (st.trans k1) (Rel_scr h (x2.tr ((g2'.tr k2).mono fun _ _ q => q.scr)))
  | some s =>
    rw [hbl] at x1 x2 k1
    obtain ⟨y1, y2, y3, y4⟩ := x2
    obtain ⟨z1, z2, z3, z4⟩ := k3 s hbl
    have fr1 : Fr (fun c _ => c = 805 ∨ c = 806) τ2 (fz (uI τ2 805 0 t (nI s.length)) 806 (40 * t) (40 * t + 40) 0) := (Fr.uI (Or.inl rfl)).tr (fz_fr (Or.inr rfl))
    obtain ⟨τ3, t1, t2, t3⟩ := X8_believed_L (kk := fun (s22 : Mem) => (some (s22, (s22.1 823 0 0)))) ht z2 s.length 0 FU _ (fu_gt (by omega)) (by omega) (by rw [fr1.i (by decide)]; exact z1) (z4.cg fun j _ => fr1.i (by decide) j) (fun j hj => by omega)
    have e23 : τ3.1 823 0 0 = nI s.length := by rw [t2.1.i (by decide), fr1.i (by decide), z1]
    rw [e23, nI_0] at t1
    refine Both.mk' (σ1 := σ1) (σ2 := τ3) (r := nI s.length) x1 ?_ (Rel_rowS h ht y1 y2 (g2'.tr k2) (RwTo.mk2 ht rfl (by omega) t2 t3))
    refine (st.trans k1).trans ?_
    dsimp only
    rw [z1, X8_row_n ht (by omega), Option.bind_some]
    exact t1
theorem op_smallest {σ : Mem} (h : Rel σ) (a c : Int32) : Both (fun σ => X7_smallest σ a c) (fun σ => X8_smallest σ a c) σ := by
  have n01 : ¬ (0 : Int32) ≤ -1 := by decide
  have e71 : ∀ {τ : Mem} {v : Int32}, X7_believed σ a 1 c = some (τ, v) → X7_smallest σ a c = some (τ, v) := by
    intro τ v e
    unfold X7_smallest
    rw [e]
    rfl
  rcases isR c with ⟨c7, c8⟩ | ⟨t, ht, rfl⟩
  · refine Both.mk' (σ1 := σ) (σ2 := σ) (r := -1) (e71 ?_) ?_ h
    · rcases isR a with ⟨a7, a8⟩ | ⟨r, hr, rfl⟩
      · simp only [X7_believed, a7, c7, Option.bind_some, spl_none]
      · simp only [X7_believed, X7_rowOf_n hr, c7, Option.bind_some, spl_none]
        rw [spl_some (by omega)]
    · show X8_smallest _ _ _ = _
      unfold X8_smallest X8_smallest_J18
      rw [c8, Option.bind_some]
      show (if (0 : Int32) = 0 then _ else _) = _
      rw [if_pos rfl, if_neg n01]
  have s8 : ∀ {τ υ : Mem} {v : Int32}, X8_askedSigns τ a (nI 16) = some (υ, v) → X8_smallest τ a (nI t) = if 0 ≤ v then ((X8_layGoal υ a).bind fun q3 => (X8_findsFirst q3.1).bind fun q4 => if q4.2 = 0 then (some (q4.1, (-9 : Int32))) else ((X8_sheetToRow q4.1 (nI t)).bind fun q5 => (some (q5.1, q5.2)))) else some (υ, v) := by
    intro τ υ v e
    unfold X8_smallest X8_smallest_J18
    rw [X8_isRow_r ht, Option.bind_some]
    show (if (1 : Int32) = 0 then _ else _) = _
    rw [if_neg one_ne0, show (16 : Int32) = nI 16 from rfl]
    show (X8_askedSigns τ a (nI 16)).bind _ = _
    rw [e, Option.bind_some]
  rcases isR a with ⟨a7, a8⟩ | ⟨r, hr, rfl⟩
  · refine Both.mk' (σ1 := σ) (σ2 := σ) (r := -1) (e71 ?_) ?_ h
    · simp only [X7_believed, a7, X7_rowOf_n ht, Option.bind_some, spl_none]
      rw [spl_some (by omega)]
    · show X8_smallest _ _ _ = _
      rw [s8 (X8_askedSigns_no (a8 σ)), if_neg n01]
  rcases asRow h hr (most := 16) (by decide) with ⟨f, f1, f2, e7, e8⟩ | ⟨o, hl, sg, hS, hR, e7, e8⟩
  · refine Both.mk' (σ1 := ans7 σ f) (σ2 := met8 (ans7 σ f) f) (r := -3) (e71 ?_) ?_ (Rel_fnd h f f1 f2)
    · simp only [X7_believed, X7_rowOf_n hr, X7_rowOf_n ht, Option.bind_some]
      rw [spl_some (by omega), spl_some (by omega), if_neg (by decide), if_pos (by decide), show (16 : Int32) = nI 16 from rfl, e7]
      rfl
    · show X8_smallest _ _ _ = _
      rw [s8 (e8 _ (fun j => ans7_i (by decide) (by decide)) (fun j => ans7_i (by decide) (by decide))), if_neg (by decide)]
  obtain ⟨n, T, hP, hM, hT, hn⟩ := h.laws
  obtain ⟨σ1, x1, x2⟩ := bel7 h hr ht (D := 1) (by decide) hP hT hl sg hS e7
  have q8 : ∀ c, 800 ≤ c → c < 807 ∨ c = 810 ∨ c = 811 → ∀ j, σ1.1 c 0 j = σ.1 c 0 j := by
    intro c h1 h2 j
    have nS : ¬ Scr c 0 := by
      simp only [Scr, List.mem_cons, List.not_mem_nil, or_false]
      omega
    cases hbl : blF (pcS T n (onM T n)) 1 o with
    | none => rw [hbl] at x2; exact x2.i nS j
    | some s => rw [hbl] at x2; exact x2.1.i (by rintro (q | q); · unfold Prow at q; omega
                                                 · exact nS q) j
  have tM : ML8 σ1 n T := ⟨by rw [q8 810 (by omega) (by omega)]; exact hM.1, hM.2.1, fun k hk f hf => by rw [q8 811 (by omega) (by omega)]; exact hM.2.2 k hk f hf⟩
  have tR : Rw8 σ1 r o := ⟨by rw [q8 805 (by omega) (by omega)]; exact hR.1, hR.2.1, hR.2.2.cg fun j _ => q8 806 (by omega) (by omega) _⟩
  obtain ⟨τ1, g1, g2, g3⟩ := X8_layGoal_n hr hl tR sg
  have g2' : Fr S8 σ1 τ1 := g2.mono fun c _ q => by rcases q with rfl | rfl <;> simp [S8]
  obtain ⟨τ2, k1, k2, k3⟩ := X8_findsFirst_n hT (tM.s8 g2') g3
  have k2' : Fr S8 τ1 τ2 := k2.mono fun _ _ q => q.s8
  have st := s8 (e8 σ1 (fun j => q8 805 (by omega) (by omega) j) (fun j => q8 806 (by omega) (by omega) j))
  rw [if_pos (by decide), g1, Option.bind_some] at st
  dsimp only at st
  rw [k1, Option.bind_some] at st
  dsimp only at st
  have eb : blF (pcS T n (onM T n)) 1 o = eaS (pcS T n (onM T n)) o 7 0 := by
    rw [blF]
    cases eaS (pcS T n (onM T n)) o 7 0 <;> rfl
  rw [eb] at x1 x2
  cases hbl : eaS (pcS T n (onM T n)) o 7 0 with
  | none =>
    rw [hbl] at x1 x2 st
    rw [if_pos rfl] at st
    exact Both.mk' (e71 x1) st (Rel_scr h (x2.tr ((g2'.tr k2').mono fun _ _ q => q.scr)))
  | some s =>
    rw [hbl] at x1 x2 st
    obtain ⟨y1, y2, y3, y4⟩ := x2
    obtain ⟨τ3, t1, t2⟩ := X8_sheetToRow_n ht (k3 s hbl)
    rw [if_neg one_ne0, t1, Option.bind_some] at st
    exact Both.mk' (e71 x1) st (Rel_rowS h ht y1 y2 (g2'.tr k2') t2)
