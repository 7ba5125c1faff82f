def P78 (c k : Nat) : Prop := c = 817 ∨ c = 818
theorem X8_comes_n {σ : Mem} {o : List Nat} {v : Nat} (h : Ou8 σ o) (hl : o.length < 16) (hv : v < 6) : ∃ τ, X8_comes σ (nI v) = some (τ, ()) ∧ Fr P78 σ τ ∧ Ou8 τ (o ++ [v]) := by
  obtain ⟨h1, h2, h3, h4⟩ := h
  refine ⟨uI (uI σ 817 0 o.length (nI v)) 818 0 0 (nI (o.length + 1)), ?_, (Fr.uI (Or.inl rfl)).tr (Fr.uI (Or.inr rfl)), ?_⟩
  · unfold X8_comes
    rw [h1, ck_n hl (by decide), ncl (by omega)]
    simp only [uI_1]
    rw [if_neg (by rintro ⟨q, -⟩; cases q), h1, nadd_r]
  · refine ⟨by simp [uI_1], by simp; omega, h3.sn hv, (h4.cg fun j hj => ?_).sn ?_⟩
    · have : ¬ j = o.length := by omega
      simp [uI_1, this]
    · simp [uI_1]
theorem outS_app1 {T : Nat → Nat → Int32} {n m a : Nat} {t : List Nat} : outS T n m (a :: t) = pcS T n m a (t.headD 6) ++ outS T n m t := rfl
theorem X8_setBy_L {n m : Nat} {T : Nat → Nat → Int32} {s : List Nat} {kk : Mem → Option (Mem × Unit)} (hT : TV T n) (hm : m < 2147483648) : ∀ (rest pre : List Nat) (f : Nat) (σ : Mem) (o : List Nat), s = pre ++ rest → rest.length < f → ML8 σ n T → Sh8 σ s → Ou8 σ o → o.length ≤ 2 * pre.length → ∃ τ, X8_setBy_L7 (nI m) kk f σ (nI pre.length) = kk τ ∧ Fr P78 σ τ ∧ Ou8 τ (o ++ outS T n m rest) := by
  intro rest
  induction rest with
  | nil =>
    intro pre f σ o hs hf hM hS hO ho
    obtain ⟨g, rfl⟩ : ∃ g, f = g + 1 := ⟨f - 1, by omega⟩
    have hl : s.length = pre.length := by rw [hs]; simp
    have h8 := hS.2.1
    refine ⟨σ, ?_, Fr.rf, by simpa [outS] using hO⟩
    rw [X8_setBy_L7, hS.1, if_pos (by rw [nle (by omega) (by omega)]; omega)]
  | cons a t ih =>
    intro pre f σ o hs hf hM hS hO ho
    obtain ⟨g, rfl⟩ : ∃ g, f = g + 1 := ⟨f - 1, by omega⟩
    have h8 := hS.2.1
    have hl : s.length = pre.length + (t.length + 1) := by rw [hs]; simp
    have ha : a < 6 := hS.2.2.1 a (by rw [hs]; simp)
    have e0 : s.getD pre.length 0 = a := by rw [hs, getD_app]
    have e1 : s.getD (pre.length + 1) 6 = t.headD 6 := by
      rw [hs]
      cases t with
      | nil => simp [List.getD_eq_getElem?_getD]
      | cons b u => simp [List.getD_eq_getElem?_getD, List.getElem?_append_right]
    have cl : σ.1 815 0 pre.length = nI a := by
      have := hS.2.2.2 pre.length (by omega)
      rw [e0] at this
      exact this
    have next : ∀ (τ : Mem) (q : List Nat), Fr P78 σ τ → Ou8 τ (o ++ q) → q.length ≤ 2 → pcS T n m a (t.headD 6) = q → ∃ υ, X8_setBy_L7 (nI m) kk g τ (nI pre.length + 1) = kk υ ∧ Fr P78 σ υ ∧ Ou8 υ (o ++ outS T n m (a :: t)) := by
      intro τ q hf1 hO1 hq hpc
      obtain ⟨υ, u1, u2, u3⟩ := ih (pre ++ [a]) g τ (o ++ q) (by rw [hs]; simp) (by simp at hf; omega) (hM.fr hf1 (by simp [P78]) (by simp [P78])) (hS.fr hf1 (by simp [P78]) (by simp [P78])) hO1 (by simp; omega)
      refine ⟨υ, ?_, hf1.tr u2, ?_⟩
      · rw [nadd_r, ← u1]
        simp
      · rw [outS_app1, hpc, ← List.append_assoc]; exact u3
    rw [X8_setBy_L7, hS.1, if_neg (by rw [nle (by omega) (by omega)]; omega), X8_lawAt_n hM hT hm hS (by omega), e0, e1]
    dsimp only [Option.bind_some]
    have com : ∀ (τ : Mem) (q : List Nat) (v : Nat), Fr P78 σ τ → Ou8 τ (o ++ q) → q.length ≤ 1 → v < 6 → ∃ υ, X8_comes τ (nI v) = some (υ, ()) ∧ Fr P78 σ υ ∧ Ou8 υ (o ++ (q ++ [v])) := by
      intro τ q v hf1 hO1 hq hv
      obtain ⟨υ, u1, u2, u3⟩ := X8_comes_n hO1 (by simp; omega) hv
      exact ⟨υ, u1, hf1.tr u2, by rw [← List.append_assoc]; exact u3⟩
    have hO0 : Ou8 σ (o ++ []) := by simpa using hO
    cases hc : chs T n m a (t.headD 6) with
    | none =>
      have hpc : pcS T n m a (t.headD 6) = [a] := by unfold pcS; rw [hc]
      obtain ⟨τ, t1, t2, t3⟩ := com σ [] a Fr.rf hO0 (by simp) ha
      rw [show chI none = -9 from rfl, if_pos rfl]
      unfold X8_setBy_J41 X8_setBy_J66 X8_setBy_J93
      rw [if_pos rfl, ck_n (by omega) (by decide), ncl (by omega), cl, t1]
      dsimp only [Option.bind_some]
      rw [if_pos rfl, if_neg (by decide)]
      exact next τ [a] t2 t3 (by simp) hpc
    | some k =>
      have hk := chs_lt hc
      have hm8 := hM.2.1
      obtain ⟨kd, x, h1, h2, h3, h4, h5, -⟩ := hT k hk
      have l0 : σ.1 811 0 (5 * k) = nI kd := by rw [← h3]; exact hM.2.2 k hk 0 (by decide)
      have l2 : ∀ τ : Mem, Fr P78 σ τ → τ.1 811 0 (5 * k + 2) = T k 2 := fun τ hf => by rw [hf.i (by simp [P78])]; exact hM.2.2 k hk 2 (by decide)
      have c2 : ∀ τ : Mem, Fr P78 σ τ → τ.1 815 0 pre.length = nI a := fun τ hf => by rw [hf.i (by simp [P78])]; exact cl
      have hpc : pcS T n m a (t.headD 6) = pcL T k a := by unfold pcS; rw [hc]
      rw [show chI (some k) = nI k from rfl, if_neg (nne_neg (by omega) (by decide)), nmul_l]
      show ∃ τ, ck (nI (5 * k)) 40 _ = _ ∧ _
      rw [ck_n (by omega) (by decide)]
      show ∃ τ, X8_setBy_J41 σ (nI m) (nI pre.length) (nI k) (σ.1 811 0 (nI (5 * k)).toNatClampNeg) _ _ = _ ∧ _
      rw [ncl (show 5 * k < 2147483648 by omega), l0]
      have k2 : (5 : Int32) * nI k + 2 = nI (5 * k + 2) := by rw [nmul_l, nadd_r]
      unfold X8_setBy_J41 X8_setBy_J66 X8_setBy_J93
      rw [k2]
      rcases h5 with ⟨rfl, h5⟩ | ⟨hne, y, hy, h5⟩
      · have : pcL T k a = [] := by unfold pcL; rw [h3]; rfl
        rw [if_neg (show ¬ nI 1 = -9 by decide), if_neg (show ¬ nI 1 = 2 by decide), if_neg (show ¬ nI 1 = -9 by decide), if_pos (show nI 1 = 1 from rfl), if_neg (show ¬ nI 1 = 5 by decide)]
        exact next σ [] Fr.rf hO0 (by simp) (by rw [hpc, this])
      · have yy : (T k 2).toNatClampNeg = y := by rw [h5]; exact ncl (by omega)
        rw [h5] at l2
        by_cases d2 : kd = 2
        · subst d2
          have : pcL T k a = [a, y] := by unfold pcL; rw [h3, yy]; rfl
          obtain ⟨τ, t1, t2, t3⟩ := com σ [] a Fr.rf hO0 (by simp) ha
          obtain ⟨υ, u1, u2, u3⟩ := com τ [a] y t2 t3 (by simp) hy
          rw [if_neg (show ¬ nI 2 = -9 by decide), if_pos (show nI 2 = 2 from rfl), ck_n (by omega) (by decide), ncl (by omega), cl, t1]
          dsimp only [Option.bind_some]
          rw [if_neg (by decide), if_neg (by decide), ck_n (by omega) (by decide), ncl (by omega), l2 τ t2, u1]
          dsimp only [Option.bind_some]
          rw [if_neg (by decide)]
          exact next υ [a, y] u2 u3 (by simp) (by rw [hpc, this])
        · have n9 : ¬ nI kd = -9 := nne_neg (by omega) (by decide)
          have n2 : ¬ nI kd = 2 := by rw [neq_r (by omega) (by decide)]; exact d2
          have n1 : ¬ nI kd = 1 := by rw [neq_r (by omega) (by decide)]; exact hne
          obtain ⟨τ, t1, t2, t3⟩ := com σ [] y Fr.rf hO0 (by simp) hy
          rw [if_neg n9, if_neg n2, if_neg n9, if_neg n1, ck_n (by omega) (by decide), ncl (by omega), l2 σ Fr.rf, t1]
          dsimp only [Option.bind_some]
          by_cases d5 : kd = 5
          · subst d5
            have : pcL T k a = [y, a] := by unfold pcL; rw [h3, yy]; rfl
            obtain ⟨υ, u1, u2, u3⟩ := com τ [y] a t2 t3 (by simp) ha
            rw [if_pos (show nI 5 = 5 from rfl), ck_n (by omega) (by decide), ncl (by omega), c2 τ t2, u1]
            dsimp only [Option.bind_some]
            exact next υ [y, a] u2 u3 (by simp) (by rw [hpc, this])
          · have n5 : ¬ nI kd = 5 := by rw [neq_r (by omega) (by decide)]; exact d5
            have : pcL T k a = [y] := by unfold pcL; rw [h3, yy, if_neg n1, if_neg n2, if_neg n5]
            rw [if_neg n5]
            exact next τ [y] t2 t3 (by simp) (by rw [hpc, this])
theorem X8_setBy_n {σ : Mem} {n m : Nat} {T : Nat → Nat → Int32} {s : List Nat} (hM : ML8 σ n T) (hT : TV T n) (hm : m < 2147483648) (hS : Sh8 σ s) : ∃ τ, X8_setBy σ (nI m) = some (τ, ()) ∧ Fr P78 σ τ ∧ Ou8 τ (outS T n m s) := by
  have f : Fr P78 σ (uI σ 818 0 0 0) := Fr.uI (Or.inr rfl)
  have h8 := hS.2.1
  obtain ⟨τ, t1, t2, t3⟩ := X8_setBy_L (kk := fun s => some (s, ())) hT hm s [] FU (uI σ 818 0 0 0) [] rfl (fu_gt (by omega)) (hM.fr f (by simp [P78]) (by simp [P78])) (hS.fr f (by simp [P78]) (by simp [P78])) ⟨by simp [uI_1]; rfl, by simp, by simp [Sg], by simp [Cel]⟩ (by simp)
  exact ⟨τ, t1, f.tr t2, by simpa using t3⟩
/-! laySheet, and the like -/
theorem X8_laySheet_L {r : Nat} {s : List Nat} {kk : Mem → Option (Mem × Unit)} (hr : r < 6) (h8 : s.length ≤ 8) : ∀ (c i f : Nat) (σ : Mem), c < f → i + c = s.length → σ.1 816 0 0 = nI s.length → Rw8 σ r s → (∀ j, j < i → σ.1 815 0 j = nI (s.getD j 0)) → ∃ τ, X8_laySheet_L12 (nI r) kk f σ (nI i) = kk τ ∧ Fr (fun c _ => c = 815) σ τ ∧ Cel (fun j => τ.1 815 0 j) s := by
  intro c
  induction c with
  | zero =>
    intro i f σ hf he h1 hR hC
    obtain ⟨g, rfl⟩ : ∃ g, f = g + 1 := ⟨f - 1, by omega⟩
    refine ⟨σ, ?_, Fr.rf, fun j hj => hC j (by omega)⟩
    rw [X8_laySheet_L12, h1, if_pos (by rw [nle (by omega) (by omega)]; omega)]
  | succ c ih =>
    intro i f σ hf he h1 hR hC
    obtain ⟨g, rfl⟩ : ∃ g, f = g + 1 := ⟨f - 1, by omega⟩
    have fr : Fr (fun c _ => c = 815) σ (uI σ 815 0 i (nI (s.getD i 0))) := Fr.uI rfl
    obtain ⟨τ, t1, t2, t3⟩ := ih (i + 1) g (uI σ 815 0 i (nI (s.getD i 0))) (by omega) (by omega) (by rw [fr.i (by decide)]; exact h1) (hR.fr fr (by decide) (by decide)) (fun j hj => by
      by_cases e : j = i
      · subst e; simp [uI_1]
      · simp only [uI_1]
        rw [if_neg (by rintro ⟨-, -, q⟩; exact e q)]
        exact hC j (by omega))
    refine ⟨τ, ?_, fr.tr t2, t3⟩
    have cc : σ.1 806 0 (40 * r + i) = nI (s.getD i 0) := hR.2.2 i (by omega)
    rw [X8_laySheet_L12, h1, if_neg (by rw [nle (by omega) (by omega)]; omega), X8_rowAt_n (by omega)]
    dsimp only [Option.bind_some]
    rw [ck_n (by omega) (by decide), ncl (by omega), cc, nadd_r]
    exact t1
theorem X8_laySheet_n {σ : Mem} {r : Nat} {s : List Nat} (hr : r < 6) (h8 : s.length ≤ 8) (hR : Rw8 σ r s) (hs : Sg s) : ∃ τ, X8_laySheet σ (nI r) = some (τ, ()) ∧ Fr (fun c _ => c = 815 ∨ c = 816) σ τ ∧ Sh8 τ s := by
  have fr : Fr (fun c _ => c = 815 ∨ c = 816) σ (uI σ 816 0 0 (nI s.length)) := Fr.uI (Or.inr rfl)
  obtain ⟨τ, t1, t2, t3⟩ := X8_laySheet_L (kk := fun s => some (s, ())) hr h8 s.length 0 FU (uI σ 816 0 0 (nI s.length)) (fu_gt (by omega)) (by omega) (by simp [uI_1]) (hR.fr fr (by decide) (by decide)) (fun j hj => by omega)
  refine ⟨τ, ?_, fr.tr (t2.mono fun _ _ => Or.inl), by rw [t2.i (by decide)]; simp [uI_1], h8, hs, t3⟩
  unfold X8_laySheet
  rw [ck_n hr (by decide), ncl (by omega), hR.1]
  exact t1
/-! comparing -/
def eqF (f g : Nat → Int32) : Nat → Nat → Bool
  | 0, _ => true
  | c + 1, i => if f i = g i then eqF f g c (i + 1) else false
theorem eqF_iff {f g : Nat → Int32} : ∀ c i, eqF f g c i = true ↔ ∀ j, i ≤ j → j < i + c → f j = g j := by
  intro c
  induction c with
  | zero => intro i; simp [eqF]; intro j h1 h2; omega
  | succ c ih =>
    intro i
    rw [eqF]
    by_cases e : f i = g i
    · rw [if_pos e, ih]
      constructor
      · intro h j h1 h2
        by_cases q : j = i
        · subst q; exact e
        · exact h j (by omega) (by omega)
      · intro h j h1 h2
        exact h j (by omega) (by omega)
    · rw [if_neg e]
      constructor
      · intro h; cases h
      · intro h; exact absurd (h i (by omega) (by omega)) e
theorem ext_getD {l r : List Nat} (h : l.length = r.length) (e : ∀ j, j < l.length → l.getD j 0 = r.getD j 0) : l = r := by
  apply List.ext_getElem h
  intro j h1 h2
  have := e j h1
  simpa [List.getD_eq_getElem?_getD, List.getElem?_eq_getElem h1, List.getElem?_eq_getElem h2] using this
theorem eqF_cel {f g : Nat → Int32} {l r : List Nat} (hf : Cel f l) (hg : Cel g r) (sl : Sg l) (sr : Sg r) (h : l.length = r.length) : eqF f g l.length 0 = decide (l = r) := by
  have key : eqF f g l.length 0 = true ↔ l = r := by
    rw [eqF_iff]
    constructor
    · intro q
      refine ext_getD h fun j hj => ?_
      have := q j (by omega) (by omega)
      rw [hf j hj, hg j (by omega)] at this
      have b1 := Sg.at (d := 0) sl hj
      have b2 := Sg.at (d := 0) sr (show j < r.length by omega)
      exact (neq (by omega) (by omega)).mp this
    · rintro rfl j _ h2
      rw [hf j (by omega), hg j (by omega)]
  by_cases e : l = r
  · rw [key.mpr e]; simp [e]
  · have : eqF f g l.length 0 = false := by
      cases q : eqF f g l.length 0 with
      | false => rfl
      | true => exact absurd (key.mp q) e
    rw [this]; simp [e]
def bI (b : Bool) : Int32 := if b = true then 1 else 0
theorem bI_t : bI true = 1 := rfl
theorem bI_f : bI false = 0 := rfl
theorem bI_ok {α : Type} (b : Bool) (x y : α) : (if bI b = 0 ∨ bI b = 1 then x else y) = x := by cases b <;> rfl
theorem X8_isOut_L {σ : Mem} {r N : Nat} {kk : Mem → Int32 → Option (Mem × Int32)} (hr : r < 6) (hN : N ≤ 16) (h1 : σ.1 818 0 0 = nI N) : ∀ (c i f : Nat), c < f → i + c = N → X8_isOut_L21 (nI r) kk f σ 1 (nI i) = kk σ (bI (eqF (fun j => σ.1 817 0 j) (fun j => σ.1 806 0 (40 * r + j)) c i)) := by
  intro c
  induction c with
  | zero =>
    intro i f hf he
    obtain ⟨g, rfl⟩ : ∃ g, f = g + 1 := ⟨f - 1, by omega⟩
    rw [X8_isOut_L21, h1, if_pos (by rw [nle (by omega) (by omega)]; omega)]
    rfl
  | succ c ih =>
    intro i f hf he
    obtain ⟨g, rfl⟩ : ∃ g, f = g + 1 := ⟨f - 1, by omega⟩
    rw [X8_isOut_L21, h1, if_neg (by rw [nle (by omega) (by omega)]; omega), if_neg one_ne0, ck_n (by omega) (by decide), X8_rowAt_n (by omega)]
    dsimp only [Option.bind_some]
    rw [ncl (by omega), eqF]
    by_cases e : σ.1 817 0 i = σ.1 806 0 (40 * r + i)
    · rw [if_pos e, if_pos e, nadd_r]
      exact ih (i + 1) g (by omega) (by omega)
    · rw [if_neg e, if_neg e, bI_f]
      obtain ⟨g, rfl⟩ : ∃ g', g = g' + 1 := ⟨g - 1, by omega⟩
      rw [X8_isOut_L21]
      split
      · rfl
      · rw [if_pos rfl]
theorem X8_isOut_n {σ : Mem} {r : Nat} {o s : List Nat} (hr : r < 6) (hO : Ou8 σ o) (hR : Rw8 σ r s) (hs : Sg s) : X8_isOut σ (nI r) = some (σ, bI (decide (o = s))) := by
  obtain ⟨o1, o2, o3, o4⟩ := hO
  unfold X8_isOut
  rw [ck_n hr (by decide), ncl (by omega), hR.1]
  have hL := hR.2.1
  by_cases e : o.length = s.length
  · rw [o1, if_pos (by rw [e])]
    rw [show (0 : Int32) = nI 0 from rfl, X8_isOut_L hr o2 o1 o.length 0 FU (fu_gt (by omega)) (by omega)]
    show (if bI _ = 0 ∨ bI _ = 1 then _ else _) = _
    rw [bI_ok, eqF_cel o4 hR.2.2 o3 hs e]
  · have ne : ¬ o = s := fun q => e (by rw [q])
    rw [o1, if_neg (by rw [neq (by omega) (by omega)]; exact e)]
    rw [show FU = 99999 + 1 from rfl, X8_isOut_L21]
    have : bI (decide (o = s)) = 0 := by simp [ne, bI]
    rw [this]
    split
    · rfl
    · rw [if_pos rfl]; rfl
theorem X8_isAsWritten_L {σ : Mem} {N : Nat} {kk : Mem → Int32 → Option (Mem × Int32)} (hN : N ≤ 8) (h1 : σ.1 818 0 0 = nI N) : ∀ (c i f : Nat), c < f → i + c = N → X8_isAsWritten_L19 kk f σ 1 (nI i) = kk σ (bI (eqF (fun j => σ.1 817 0 j) (fun j => σ.1 815 0 j) c i)) := by
  intro c
  induction c with
  | zero =>
    intro i f hf he
    obtain ⟨g, rfl⟩ : ∃ g, f = g + 1 := ⟨f - 1, by omega⟩
    rw [X8_isAsWritten_L19, h1, if_pos (by rw [nle (by omega) (by omega)]; omega)]
    rfl
  | succ c ih =>
    intro i f hf he
    obtain ⟨g, rfl⟩ : ∃ g, f = g + 1 := ⟨f - 1, by omega⟩
    rw [X8_isAsWritten_L19, h1, if_neg (by rw [nle (by omega) (by omega)]; omega), if_neg one_ne0, ck_n (by omega) (by decide), ck_n (by omega) (by decide), ncl (by omega), eqF]
    by_cases e : σ.1 817 0 i = σ.1 815 0 i
    · rw [if_pos e, if_pos e, nadd_r]
      exact ih (i + 1) g (by omega) (by omega)
    · rw [if_neg e, if_neg e, bI_f]
      obtain ⟨g, rfl⟩ : ∃ g', g = g' + 1 := ⟨g - 1, by omega⟩
      rw [X8_isAsWritten_L19]
      split
      · rfl
      · rw [if_pos rfl]
theorem X8_isAsWritten_n {σ : Mem} {o s : List Nat} (hO : Ou8 σ o) (hS : Sh8 σ s) : X8_isAsWritten σ = some (σ, bI (decide (o = s))) := by
  obtain ⟨o1, o2, o3, o4⟩ := hO
  obtain ⟨s1, s2, s3, s4⟩ := hS
  unfold X8_isAsWritten
  rw [o1, s1]
  by_cases e : o.length = s.length
  · rw [if_pos (by rw [e])]
    rw [show (0 : Int32) = nI 0 from rfl, X8_isAsWritten_L (by omega) o1 o.length 0 FU (fu_gt (by omega)) (by omega)]
    show (if bI _ = 0 ∨ bI _ = 1 then _ else _) = _
    rw [bI_ok, eqF_cel o4 s4 o3 s3 e]
  · have ne : ¬ o = s := fun q => e (by rw [q])
    rw [if_neg (by rw [neq (by omega) (by omega)]; exact e)]
    rw [show FU = 99999 + 1 from rfl, X8_isAsWritten_L19]
    have : bI (decide (o = s)) = 0 := by simp [ne, bI]
    rw [this]
    split
    · rfl
    · rw [if_pos rfl]; rfl
