/-! kinds -/
def Tk (T : Nat → Nat → Int32) (k : Nat) (as yv zv : Int32) : Nat → Nat → Int32 := fun j f => if j = k then (if f = 0 then as else if f = 2 then yv else if f = 3 then zv else T k f) else T j f
def yz (v : Int32) : Int32 := if v < 0 then 0 else v
def kdF (T : Nat → Nat → Int32) (n k on : Nat) (yv zv : Int32) (s o : List Nat) (i a : Nat) : Nat := if outS (Tk T k (nI i) yv zv) n on s = o then a ||| 2 ^ i else a
theorem onM_cg {T U : Nat → Nat → Int32} {n : Nat} (h : ∀ k, k < n → U k 4 = T k 4) : onM U n = onM T n := by
  unfold onM
  refine fo_congr n 0 0 (fun j _ hj => ?_)
  funext a
  unfold onF
  rw [h j (by omega)]
theorem Tk_4 {T : Nat → Nat → Int32} {k j : Nat} {as yv zv : Int32} : Tk T k as yv zv j 4 = T j 4 := by
  unfold Tk
  by_cases q : j = k
  · subst q; simp
  · simp [q]
theorem yz_ok {v : Int32} (h : v = -9 ∨ ∃ y, y < 6 ∧ v = nI y) : ∃ y, y < 6 ∧ yz v = nI y := by
  rcases h with rfl | ⟨y, h1, rfl⟩
  · exact ⟨0, by decide, rfl⟩
  · exact ⟨y, h1, by unfold yz; rw [if_neg (nnlt0 (by omega))]⟩
theorem TV_Tk {T : Nat → Nat → Int32} {n k i : Nat} (hT : TV T n) (hk : k < n) (hi : i < 6) (hy : ∃ y, y < 6 ∧ yz (T k 2) = nI y) (hz : ∃ y, y < 6 ∧ yz (T k 3) = nI y) : TV (Tk T k (nI i) (yz (T k 2)) (yz (T k 3))) n := by
  intro j hj
  by_cases q : j = k
  · subst q
    obtain ⟨kd, x, h1, h2, h3, h4, -, -, h7⟩ := hT j hj
    have e0 : Tk T j (nI i) (yz (T j 2)) (yz (T j 3)) j 0 = nI i := by simp [Tk]
    have e1 : Tk T j (nI i) (yz (T j 2)) (yz (T j 3)) j 1 = T j 1 := by simp [Tk]
    have e2 : Tk T j (nI i) (yz (T j 2)) (yz (T j 3)) j 2 = yz (T j 2) := by simp [Tk]
    have e3 : Tk T j (nI i) (yz (T j 2)) (yz (T j 3)) j 3 = yz (T j 3) := by simp [Tk]
    refine ⟨i, x, hi, h2, e0, by rw [e1]; exact h4, ?_, ?_, by rw [Tk_4]; exact h7⟩
    · by_cases w : i = 1
      · exact Or.inl ⟨w, trivial⟩
      · exact Or.inr ⟨w, by rw [e2]; exact hy⟩
    · by_cases w : i = 3 ∨ i = 4
      · exact Or.inl ⟨w, by rw [e3]; exact hz⟩
      · exact Or.inr ⟨w, trivial⟩
  · have e : ∀ f, Tk T k (nI i) (yz (T k 2)) (yz (T k 3)) j f = T j f := fun f => by simp [Tk, q]
    obtain ⟨kd, x, h⟩ := hT j hj
    refine ⟨kd, x, ?_⟩
    rw [e, e, e, e, e]
    exact h
def Px (x c j : Nat) : Prop := 100 ≤ c ∧ c ≤ 103 ∧ j = x
theorem X7_kinds_L {σ0 : Mem} {n k x r on : Nat} {T : Nat → Nat → Int32} {s o : List Nat} {kk : Mem → Int32 → Option (Mem × Int32)} (hP : PL σ0 0 n T) (hT : TV T n) (hk : k < n) (hx : σ0.2.2 200 0 k = some x) (hx2 : x < 8) (hinj : ∀ j, j < n → σ0.2.2 200 0 j = some x → j = k) (s1 : σ0.1 101 40 0 = T k 1) (s2 : σ0.1 102 40 0 = T k 2) (s3 : σ0.1 103 40 0 = T k 3) (hr : r < 6) (hS : RowS σ0 r s) (h8 : s.length ≤ 8) (hon : on < 256) (ho : Sg o) (h16 : o.length ≤ 16) (hy : ∃ y, y < 6 ∧ yz (T k 2) = nI y) (hz : ∃ y, y < 6 ∧ yz (T k 3) = nI y) : ∀ (c i f a : Nat) (σ : Mem), c < f → i + c = 6 → Fr (Px x) σ0 σ → ∃ τ, X7_kinds_L97 r x (nI on) (lN (pkN o)) kk f σ (nI a) (nI i) = kk τ (nI (fo (kdF T n k on (yz (T k 2)) (yz (T k 3)) s o) c i a)) ∧ Fr (Px x) σ0 τ := by
  intro c
  induction c with
  | zero =>
    intro i f a σ hf he hF
    obtain ⟨g, rfl⟩ : ∃ g, f = g + 1 := ⟨f - 1, by omega⟩
    refine ⟨σ, ?_, hF⟩
    rw [X7_kinds_L97, if_pos (by rw [nle_l (by omega) (by decide)]; omega)]
    rfl
  | succ c ih =>
    intro i f a σ hf he hF
    obtain ⟨g, rfl⟩ : ∃ g, f = g + 1 := ⟨f - 1, by omega⟩
    obtain ⟨σ1, e1⟩ : ∃ σ1, σ1 = uI (uI (uI (uI σ 100 x 0 (nI i)) 101 x 0 (T k 1)) 102 x 0 (yz (T k 2))) 103 x 0 (yz (T k 3)) := ⟨_, rfl⟩
    have f1 : Fr (Px x) σ σ1 := by
      rw [e1]
      exact (((Fr.uI ⟨by decide, by decide, rfl⟩).tr (Fr.uI ⟨by decide, by decide, rfl⟩)).tr (Fr.uI ⟨by decide, by decide, rfl⟩)).tr (Fr.uI ⟨by decide, by decide, rfl⟩)
    have f2 : Fr (Px x) σ0 σ1 := hF.tr f1
    have hb : X1_become σ x (nI i) (σ.1 101 40 0) (if σ.1 102 40 0 < 0 then 0 else σ.1 102 40 0) (if σ.1 103 40 0 < 0 then 0 else σ.1 103 40 0) = some (σ1, ()) := by
      unfold X1_become
      rw [if_pos (by omega), hF.i (by unfold Px; omega), hF.i (by unfold Px; omega), hF.i (by unfold Px; omega), s1, s2, s3, e1]
      rfl
    have hP1 : PL σ1 0 n (Tk T k (nI i) (yz (T k 2)) (yz (T k 3))) := by
      refine ⟨by rw [f2.i (by unfold Px; omega)]; exact hP.1, hP.2.1, fun j hj => ?_⟩
      obtain ⟨y, y1, y2, y3⟩ := hP.2.2 j hj
      refine ⟨y, by rw [f2.r (by unfold Px; omega)]; exact y1, y2, fun f hf => ?_⟩
      by_cases q : j = k
      · subst q
        rw [hx] at y1
        cases y1
        match f, hf with
        | 0, _ => rw [e1]; simp [uI_1, Tk]
        | 1, _ => rw [e1]; simp [uI_1, Tk]
        | 2, _ => rw [e1]; simp [uI_1, Tk]
        | 3, _ => rw [e1]; simp [uI_1, Tk]
        | 4, _ =>
          rw [f2.i (by unfold Px; omega), Tk_4]
          exact y3 4 (by decide)
        | f + 5, h => omega
      · have ny : ¬ y = x := fun w => q (hinj j hj (by rw [y1, w]))
        rw [f2.i (by unfold Px; omega)]
        simp only [Tk, q, if_false]
        exact y3 f hf
    have hT1 := TV_Tk (i := i) hT hk (by omega) hy hz
    obtain ⟨τ, t1, t2⟩ := ih (i + 1) g (kdF T n k on (yz (T k 2)) (yz (T k 3)) s o i a) σ1 (by omega) (by omega) f2
    refine ⟨τ, ?_, t2⟩
    have hS1 : RowS σ1 r s := hS.fr f2 (by unfold Px; omega) (by unfold Px; omega)
    rw [X7_kinds_L97, if_neg (by rw [nle_l (by omega) (by decide)]; omega), hb, Option.bind_some]
    dsimp only
    rw [X2_outOf_n (by decide) (by omega) hP1 hT1 (by omega) hS1 h8, Option.bind_some]
    dsimp only
    rw [fo]
    unfold kdF at t1 ⊢
    by_cases q : outS (Tk T k (nI i) (yz (T k 2)) (yz (T k 3))) n on s = o
    · rw [if_pos q] at t1 ⊢
      rw [if_pos ((pk_eqo hT1 hS.2.2.1 h8 ho h16).mpr q), lt_eq, one_shl (by omega), or_nI, nadd_r]
      exact t1
    · rw [if_neg q] at t1 ⊢
      rw [if_neg (fun w => q ((pk_eqo hT1 hS.2.2.1 h8 ho h16).mp w)), nadd_r]
      exact t1
def Pkm (c _k : Nat) : Prop := c = 811 ∨ c = 817 ∨ c = 818
theorem X8_kinds_L {σ0 : Mem} {n k q : Nat} {T : Nat → Nat → Int32} {s o : List Nat} {yv zv x6 x7 x8 : Int32} {kk : Mem → Int32 → Option (Mem × Int32)} (h1 : σ0.1 810 0 0 = nI n) (hn : n ≤ 8) (hk : k < n) (hM : ∀ j f, j < n → f < 5 → ¬ (j = k ∧ f = 0) → σ0.1 811 0 (5 * j + f) = Tk T k 0 yv zv j f) (hT : ∀ i, i < 6 → TV (Tk T k (nI i) yv zv) n) (hq : q < 6) (hS : Sh8 σ0 s) (hO : Rw8 σ0 q o) (ho : Sg o) : ∀ (c i f a : Nat) (σ : Mem), c < f → i + c = 6 → Fr Pkm σ0 σ → (∀ j, j ≠ 5 * k → σ.1 811 0 j = σ0.1 811 0 j) → ∃ τ, X8_kinds_L117 (nI q) (nI (5 * k)) x6 x7 x8 kk f σ (nI a) (nI i) = kk τ (nI (fo (kdF T n k (onM T n) yv zv s o) c i a)) ∧ Fr Pkm σ0 τ ∧ (∀ j, j ≠ 5 * k → τ.1 811 0 j = σ0.1 811 0 j) := by
  have hon := onM_256 (T := T) hn
  intro c
  induction c with
  | zero =>
    intro i f a σ hf he hF hI
    obtain ⟨g, rfl⟩ : ∃ g, f = g + 1 := ⟨f - 1, by omega⟩
    refine ⟨σ, ?_, hF, hI⟩
    rw [X8_kinds_L117, if_pos (by rw [nlt_l (by omega) (by decide)]; omega)]
    rfl
  | succ c ih =>
    intro i f a σ hf he hF hI
    obtain ⟨g, rfl⟩ : ∃ g, f = g + 1 := ⟨f - 1, by omega⟩
    have f1 : Fr Pkm σ (uI σ 811 0 (5 * k) (nI i)) := Fr.uI (Or.inl rfl)
    have i1 : ∀ j, j ≠ 5 * k → (uI σ 811 0 (5 * k) (nI i)).1 811 0 j = σ0.1 811 0 j := fun j hj => by
      simp only [uI_1]
      rw [if_neg (by rintro ⟨-, -, w⟩; exact hj w)]
      exact hI j hj
    have f2 := hF.tr f1
    have m1 : ML8 (uI σ 811 0 (5 * k) (nI i)) n (Tk T k (nI i) yv zv) := by
      refine ⟨by rw [f2.i (by unfold Pkm; omega)]; exact h1, hn, fun j hj f hf => ?_⟩
      by_cases w : j = k ∧ f = 0
      · obtain ⟨rfl, rfl⟩ := w
        simp [uI_1, Tk]
      · rw [i1 _ (by omega), hM j f hj hf w]
        unfold Tk
        by_cases w2 : j = k
        · subst w2
          have : ¬ f = 0 := fun v => w ⟨rfl, v⟩
          simp [this]
        · simp [w2]
    have s1 : Sh8 (uI σ 811 0 (5 * k) (nI i)) s := hS.fr f2 (by unfold Pkm; omega) (by unfold Pkm; omega)
    have o1 : Rw8 (uI σ 811 0 (5 * k) (nI i)) q o := hO.fr f2 (by unfold Pkm; omega) (by unfold Pkm; omega)
    have eo : onM (Tk T k (nI i) yv zv) n = onM T n := onM_cg (fun j _ => Tk_4)
    obtain ⟨τ1, t1, t2, t3⟩ := X8_setBy_n (m := onM T n) m1 (hT i (by omega)) (by omega) s1
    have t4 := X8_isOut_n hq t3 (o1.p8 t2) ho
    have f3 : Fr Pkm σ0 τ1 := f2.tr (t2.mono fun c k w => Or.inr w)
    obtain ⟨τ, u1, u2, u3⟩ := ih (i + 1) g (kdF T n k (onM T n) yv zv s o i a) τ1 (by omega) (by omega) f3 (fun j hj => by rw [t2.i (by simp [P78])]; exact i1 j hj)
    refine ⟨τ, ?_, u2, u3⟩
    have on1 := X8_onSet_n m1
    rw [eo] at on1
    rw [X8_kinds_L117, if_neg (by rw [nlt_l (by omega) (by decide)]; omega), ck_n (by omega) (by decide), ncl (by omega), on1, Option.bind_some]
    dsimp only
    rw [t1, Option.bind_some]
    dsimp only
    rw [t4, Option.bind_some]
    dsimp only
    rw [fo]
    unfold kdF at u1 ⊢
    by_cases w : outS (Tk T k (nI i) yv zv) n (onM T n) s = o
    · rw [if_pos w] at u1 ⊢
      rw [decide_eq_true w, bI_t, if_neg one_ne0, lt_eq, one_shl (by omega), or_nI, nadd_r]
      exact u1
    · rw [if_neg w] at u1 ⊢
      rw [decide_eq_false w, bI_f, if_pos rfl, lt_eq, show (0 : Int32) = nI 0 from rfl, or_nI, Nat.or_zero, nadd_r]
      exact u1
/-- a place of the model's table becomes as it was -/
theorem X8_kinds_n {σ : Mem} {n k q : Nat} {s o : List Nat} (h1 : σ.1 810 0 0 = nI n) (hn : n ≤ 8) (hk : k < n) (hv : LawV (fun i => σ.1 811 0 i) k) (hT : ∀ i, i < 6 → TV (Tk (fun k f => σ.1 811 0 (5 * k + f)) k (nI i) (yz (σ.1 811 0 (5 * k + 2))) (yz (σ.1 811 0 (5 * k + 3)))) n) (hq : q < 6) (hS : Sh8 σ s) (hO : Rw8 σ q o) (ho : Sg o) : ∃ τ, Fr Pkm σ τ ∧ (∀ j, τ.1 811 0 j = σ.1 811 0 j) ∧ (ck (nI (5 * k)) 40 <| lt_ (σ.1 811 0 (nI (5 * k)).toNatClampNeg) fun (v5 : Int32) => ck (nI (5 * k) + (2 : Int32)) 40 <| lt_ ((σ.1 811 0 (nI (5 * k) + (2 : Int32)).toNatClampNeg)) fun (v6 : Int32) => ck (nI (5 * k) + (3 : Int32)) 40 <| lt_ ((σ.1 811 0 (nI (5 * k) + (3 : Int32)).toNatClampNeg)) fun (v7 : Int32) => if v6 = (-9 : Int32) then (X8_kinds_J88 σ (nI q) (nI (5 * k)) v5 v6 v7 (0 : Int32) ((nI (5 * k) + (2 : Int32)))) else (X8_kinds_J88 σ (nI q) (nI (5 * k)) v5 v6 v7 v6 ((nI (5 * k) + (2 : Int32))))) = some (τ, nI (fo (kdF (fun k f => σ.1 811 0 (5 * k + f)) n k (onM (fun k f => σ.1 811 0 (5 * k + f)) n) (yz (σ.1 811 0 (5 * k + 2))) (yz (σ.1 811 0 (5 * k + 3))) s o) 6 0 0)) := by
  have a2 : nI (5 * k) + (2 : Int32) = nI (5 * k + 2) := nadd_r _ 2
  have a3 : nI (5 * k) + (3 : Int32) = nI (5 * k + 3) := nadd_r _ 3
  have c0 : (nI (5 * k)).toNatClampNeg = 5 * k := ncl (by omega)
  have c2 : (nI (5 * k + 2)).toNatClampNeg = 5 * k + 2 := ncl (by omega)
  have c3 : (nI (5 * k + 3)).toNatClampNeg = 5 * k + 3 := ncl (by omega)
  obtain ⟨kd, xx, -, -, -, -, v5, v6, -⟩ := hv
  have y9 : ∀ v : Int32, (v = -9 ∨ ∃ y, y < 6 ∧ v = nI y) → (if v = -9 then 0 else v) = yz v := by
    rintro v (rfl | ⟨y, h1, rfl⟩)
    · rfl
    · rw [if_neg (nne_neg (by omega) (by decide)), yz, if_neg (nnlt0 (by omega))]
  have hy : σ.1 811 0 (5 * k + 2) = -9 ∨ ∃ y, y < 6 ∧ σ.1 811 0 (5 * k + 2) = nI y := by
    rcases v5 with ⟨-, w⟩ | ⟨-, w⟩
    · exact Or.inl w
    · exact Or.inr w
  have hz : σ.1 811 0 (5 * k + 3) = -9 ∨ ∃ y, y < 6 ∧ σ.1 811 0 (5 * k + 3) = nI y := by
    rcases v6 with ⟨-, w⟩ | ⟨-, w⟩
    · exact Or.inr w
    · exact Or.inl w
  obtain ⟨σ1, e1⟩ : ∃ σ1, σ1 = uI (uI σ 811 0 (5 * k + 2) (yz (σ.1 811 0 (5 * k + 2)))) 811 0 (5 * k + 3) (yz (σ.1 811 0 (5 * k + 3))) := ⟨_, rfl⟩
  have f1 : Fr Pkm σ σ1 := by rw [e1]; exact (Fr.uI (Or.inl rfl)).tr (Fr.uI (Or.inl rfl))
  have t1 : ∀ j, σ1.1 811 0 j = if j = 5 * k + 3 then yz (σ.1 811 0 (5 * k + 3)) else if j = 5 * k + 2 then yz (σ.1 811 0 (5 * k + 2)) else σ.1 811 0 j := fun j => by
    rw [e1]
    simp [uI_1]
  obtain ⟨τ, u1, u2, u3⟩ := X8_kinds_L (σ0 := σ1) (n := n) (k := k) (q := q) (T := fun k f => σ.1 811 0 (5 * k + f)) (s := s) (o := o) (yv := yz (σ.1 811 0 (5 * k + 2))) (zv := yz (σ.1 811 0 (5 * k + 3))) (x6 := σ.1 811 0 (5 * k)) (x7 := σ.1 811 0 (5 * k + 2)) (x8 := σ.1 811 0 (5 * k + 3)) (kk := fun (s18 : Mem) (y9_17 : Int32) => (ck (nI (5 * k)) 40 <| ck (nI (5 * k + 2)) 40 <| ck (nI (5 * k + 3)) 40 <| some ((uI ((uI ((uI s18 811 0 (5 * k) (σ.1 811 0 (5 * k)))) 811 0 (5 * k + 2) (σ.1 811 0 (5 * k + 2)))) 811 0 (5 * k + 3) (σ.1 811 0 (5 * k + 3))), y9_17))) (by rw [f1.i (by unfold Pkm; omega)]; exact h1) hn hk (fun j f hj hf w => by
      rw [t1]
      unfold Tk
      by_cases w2 : j = k
      · subst w2
        have w3 : ¬ f = 0 := fun v => w ⟨rfl, v⟩
        by_cases w4 : f = 3
        · subst w4; simp
        · by_cases w5 : f = 2
          · subst w5; simp
          · have n1 : ¬ 5 * j + f = 5 * j + 3 := by omega
            have n2 : ¬ 5 * j + f = 5 * j + 2 := by omega
            rw [if_neg n1, if_neg n2, if_pos rfl, if_neg w3, if_neg w5, if_neg w4]
      · have n1 : ¬ 5 * j + f = 5 * k + 3 := by omega
        have n2 : ¬ 5 * j + f = 5 * k + 2 := by omega
        rw [if_neg n1, if_neg n2, if_neg w2]) hT hq (hS.fr f1 (by unfold Pkm; omega) (by unfold Pkm; omega)) (hO.fr f1 (by unfold Pkm; omega) (by unfold Pkm; omega)) ho 6 0 FU 0 σ1 (fu_gt (by decide)) (by decide) Fr.rf (fun _ _ => rfl)
  obtain ⟨υ, e2⟩ : ∃ υ, υ = uI (uI (uI τ 811 0 (5 * k) (σ.1 811 0 (5 * k))) 811 0 (5 * k + 2) (σ.1 811 0 (5 * k + 2))) 811 0 (5 * k + 3) (σ.1 811 0 (5 * k + 3)) := ⟨_, rfl⟩
  refine ⟨υ, ?_, fun j => ?_, ?_⟩
  · rw [e2]
    exact (f1.tr u2).tr (((Fr.uI (Or.inl rfl)).tr (Fr.uI (Or.inl rfl))).tr (Fr.uI (Or.inl rfl)))
  · rw [e2]
    simp only [uI_1]
    by_cases w3 : j = 5 * k + 3
    · simp [w3]
    · by_cases w2 : j = 5 * k + 2
      · simp [w2]
      · by_cases w0 : j = 5 * k
        · simp [w0]
        · simp [w0, w2, w3, u3 j w0, t1]
  · rw [ck_n (by omega) (by decide), lt_eq, a2, a3, ck_n (by omega) (by decide), lt_eq, ck_n (by omega) (by decide), lt_eq, c0, c2, c3]
    have J : X8_kinds_J88 σ (nI q) (nI (5 * k)) (σ.1 811 0 (5 * k)) (σ.1 811 0 (5 * k + 2)) (σ.1 811 0 (5 * k + 3)) (yz (σ.1 811 0 (5 * k + 2))) (nI (5 * k + 2)) = some (υ, nI (fo (kdF (fun k f => σ.1 811 0 (5 * k + f)) n k (onM (fun k f => σ.1 811 0 (5 * k + f)) n) (yz (σ.1 811 0 (5 * k + 2))) (yz (σ.1 811 0 (5 * k + 3))) s o) 6 0 0)) := by
      rw [ck_n (by omega) (by decide), ck_n (by omega) (by decide), ck_n (by omega) (by decide), nI_0] at u1
      unfold X8_kinds_J88
      rw [ck_n (by omega) (by decide), a2, a3, c0, c2, c3, ck_n (by omega) (by decide), e2, ← u1, e1]
      by_cases w : σ.1 811 0 (5 * k + 3) = -9
      · rw [if_pos w]
        have : yz (σ.1 811 0 (5 * k + 3)) = 0 := by rw [w]; rfl
        rw [this]
      · rw [if_neg w]
        have : yz (σ.1 811 0 (5 * k + 3)) = σ.1 811 0 (5 * k + 3) := by rw [← y9 _ hz, if_neg w]
        rw [this, ck_n (by omega) (by decide)]
    by_cases w : σ.1 811 0 (5 * k + 2) = -9
    · rw [if_pos w]
      have : yz (σ.1 811 0 (5 * k + 2)) = 0 := by rw [w]; rfl
      rw [this] at J
      rw [this]
      exact J
    · rw [if_neg w]
      have : yz (σ.1 811 0 (5 * k + 2)) = σ.1 811 0 (5 * k + 2) := by rw [← y9 _ hy, if_neg w]
      rw [this] at J
      rw [this]
      exact J
theorem op_kinds {σ : Mem} (h : Rel σ) (a b c : Int32) : Both (fun σ => X7_kinds σ a b c) (fun σ => X8_kinds σ a b c) σ := by
  obtain ⟨n, hn, h1, h2, hP, hM, hT⟩ := h.press
  rcases isL hn a with ⟨a7, a8⟩ | ⟨k, hk, rfl⟩
  · refine Both.mk' (σ1 := σ) (σ2 := σ) (r := -1) ?_ ?_ h
    · rcases isR b with ⟨b7, b8⟩ | ⟨r, hr, rfl⟩ <;> rcases isR c with ⟨c7, c8⟩ | ⟨q, hq, rfl⟩
      · simp only [X7_kinds, b7, c7, a7 σ _ hP, Option.bind_some, spl_none]
      · simp only [X7_kinds, b7, X7_rowOf_n hq, a7 σ _ hP, Option.bind_some, spl_none]
        rw [spl_some (by omega)]
      · simp only [X7_kinds, X7_rowOf_n hr, c7, a7 σ _ hP, Option.bind_some, spl_none]
        rw [spl_some (by omega)]
      · simp only [X7_kinds, X7_rowOf_n hr, X7_rowOf_n hq, a7 σ _ hP, Option.bind_some, spl_none]
        rw [spl_some (by omega), spl_some (by omega)]
    · show X8_kinds _ _ _ _ = _
      unfold X8_kinds
      rw [a8 σ h1]
      rfl
  obtain ⟨x, x1, x0, x2, x3⟩ := h2.2.2.2.1 k hk
  have x2' : x < 41 := by omega
  have bad8 : ∀ {σ τ : Mem} {v : Int32}, σ.1 810 0 0 = nI n → X8_askedBoth σ b c = some (τ, v) → v < 0 → X8_kinds σ (nI k) b c = some (τ, v) := by
    intro σ τ v h0 h1 hv
    unfold X8_kinds
    rw [X8_isLaw_k h0 hn hk, Option.bind_some]
    show (if (1 : Int32) = 0 then _ else _) = _
    rw [if_neg one_ne0, h1, Option.bind_some]
    show (if 0 ≤ v then _ else _) = _
    rw [if_neg (le_neg hv)]
  rcases isR b with ⟨b7, b8⟩ | ⟨r, hr, rfl⟩
  · refine Both.mk' (σ1 := σ) (σ2 := σ) (r := -1) ?_ (bad8 h1 (askBoth_a (b8 σ)) (by decide)) h
    rcases isR c with ⟨c7, c8⟩ | ⟨q, hq, rfl⟩
    · simp only [X7_kinds, b7, c7, X2_numbered_n (by decide) hP hk x1 x2', Option.bind_some, spl_none]
      rw [spl_some x2']
    · simp only [X7_kinds, b7, X7_rowOf_n hq, X2_numbered_n (by decide) hP hk x1 x2', Option.bind_some, spl_none]
      rw [spl_some (by omega), spl_some x2']
  rcases isR c with ⟨c7, c8⟩ | ⟨q, hq, rfl⟩
  · refine Both.mk' (σ1 := σ) (σ2 := σ) (r := -1) ?_ (bad8 h1 (askBoth_b hr (c8 σ)) (by decide)) h
    simp only [X7_kinds, X7_rowOf_n hr, c7, X2_numbered_n (by decide) hP hk x1 x2', Option.bind_some, spl_none]
    rw [spl_some (by omega), spl_some x2']
  rcases askBoth_bad h hr hq with ⟨f, f1, f2, e7, e8⟩ | ⟨s, o, hl, sg, hS, hR, ol, og, oS, oR, e7, d7, e8⟩
  · refine Both.mk' (σ1 := ans7 σ f) (σ2 := met8 (ans7 σ f) f) (r := -3) ?_ (bad8 (by rw [ans7_i (by decide) (by decide)]; exact h1) e8 (by decide)) (Rel_fnd h f f1 f2)
    simp only [X7_kinds, X7_rowOf_n hr, X7_rowOf_n hq, X2_numbered_n (by decide) hP hk x1 x2', Option.bind_some]
    rw [spl_some (by omega), spl_some (by omega), spl_some x2']
    rcases e7 with e7 | ⟨e7, d7⟩
    · rw [e7]
      rfl
    · rw [e7, Option.bind_some]
      show (if (0 : Int32) = 0 then _ else _) = _
      rw [if_pos rfl, d7]
      rfl
  have on := onM_256 (T := fun k f => σ.1 811 0 (5 * k + f)) hn
  have lv : LawV (fun i => σ.1 811 0 i) k := h2.2.2.2.2 k hk
  have hy : ∃ y, y < 6 ∧ yz (σ.1 811 0 (5 * k + 2)) = nI y := by
    obtain ⟨kd, xx, -, -, -, -, v5, -⟩ := lv
    refine yz_ok ?_
    rcases v5 with ⟨-, w⟩ | ⟨-, w⟩
    · exact Or.inl w
    · exact Or.inr w
  have hz : ∃ y, y < 6 ∧ yz (σ.1 811 0 (5 * k + 3)) = nI y := by
    obtain ⟨kd, xx, -, -, -, -, -, v6, -⟩ := lv
    refine yz_ok ?_
    rcases v6 with ⟨-, w⟩ | ⟨-, w⟩
    · exact Or.inr w
    · exact Or.inl w
  have hrf := h.refs (p := 0) (by decide)
  obtain ⟨σ1, u1, u2, u3⟩ := X1_take_n (σ := σ) (a := 40) (b := x) (by decide) x2' (h.2.2.2.2.1.1 x (by omega))
  have uP : PL σ1 0 n (fun k f => σ.1 811 0 (5 * k + f)) := by
    refine ⟨by rw [u2.i (by omega)]; exact hP.1, hn, fun j hj => ?_⟩
    obtain ⟨y, y1, y0, y2, y3⟩ := h2.2.2.2.1 j hj
    exact ⟨y, by rw [u2.r (by omega)]; exact y1, by omega, fun f hf => by rw [u2.i (by omega)]; exact y3 f hf⟩
  have inj : ∀ j, j < n → σ1.2.2 200 0 j = some x → j = k := fun j hj e => by
    rw [u2.r (by omega)] at e
    exact hrf.2 j k (by omega) (by omega) (by rw [e, x1])
  obtain ⟨σ2, v1, v2⟩ := X7_kinds_L (σ0 := σ1) (x := x) (r := r) (on := onM (fun k f => σ.1 811 0 (5 * k + f)) n) (s := s) (o := o) (kk := fun (s26 : Mem) (y10_25 : Int32) => ((X1_take s26 x 40).bind fun q27 => some (q27.1, y10_25))) uP hT hk (by rw [u2.r (by omega)]; exact x1) (by omega) inj ((u3 1 (by decide)).trans (x3 1 (by decide))) ((u3 2 (by decide)).trans (x3 2 (by decide))) ((u3 3 (by decide)).trans (x3 3 (by decide))) hr (hS.fr u2 (by omega) (by omega)) hl on og ol hy hz 6 0 FU 0 σ1 (fu_gt (by decide)) (by decide) Fr.rf
  have s40 : ∀ f, f < 5 → σ2.1 (100 + f) 40 0 = σ.1 (100 + f) x 0 := fun f hf => by
    rw [v2.i (by unfold Px; omega), u3 f hf]
  obtain ⟨σ3, w1, w2, w3⟩ := X1_take_n (σ := σ2) (a := x) (b := 40) x2' (by decide) (by
    have := s40 4 (by decide)
    rw [this]
    exact h.2.2.2.2.1.1 x (by omega))
  rw [w1, Option.bind_some, nI_0] at v1
  have fA : Fr (fun c j => 100 ≤ c ∧ c ≤ 104 ∧ (j = x ∨ j = 40)) σ σ3 := ((u2.mono fun c k q => ⟨q.1, q.2.1, Or.inr q.2.2⟩).tr (v2.mono fun c k q => ⟨q.1, by have := q.2.1; omega, Or.inl q.2.2⟩)).tr (w2.mono fun c k q => ⟨q.1, q.2.1, Or.inl q.2.2⟩)
  have xb : ∀ f, f < 5 → σ3.1 (100 + f) x 0 = σ.1 (100 + f) x 0 := fun f hf => by rw [w3 f hf, s40 f hf]
  have g8 : ∀ c j, 105 ≤ c → σ3.1 c 0 j = σ.1 c 0 j := fun c j hc => fA.i (by omega) j
  have tR : Rw8 σ3 r s := ⟨by rw [g8 805 _ (by omega)]; exact hR.1, hR.2.1, hR.2.2.cg fun j _ => g8 806 _ (by omega)⟩
  obtain ⟨τ1, a1, a2, a3⟩ := X8_laySheet_n hr hl tR sg
  have g9 : ∀ j, τ1.1 811 0 j = σ.1 811 0 j := fun j => by rw [a2.i (by decide), g8 811 j (by omega)]
  have tO : Rw8 τ1 q o := ⟨by rw [a2.i (by decide), g8 805 _ (by omega)]; exact oR.1, oR.2.1, oR.2.2.cg fun j _ => by rw [a2.i (by decide), g8 806 _ (by omega)]⟩
  have eT : (fun k f => τ1.1 811 0 (5 * k + f)) = (fun k f => σ.1 811 0 (5 * k + f)) := by
    funext k f
    exact g9 _
  have eL : (fun i => τ1.1 811 0 i) = (fun i => σ.1 811 0 i) := funext g9
  obtain ⟨τ2, b1, b2, b3⟩ := X8_kinds_n (σ := τ1) (n := n) (k := k) (q := q) (s := s) (o := o) (by rw [a2.i (by decide), g8 810 _ (by omega)]; exact h1) hn hk (by rw [eL]; exact lv) (by
    rw [eT, g9, g9]
    exact fun i hi => TV_Tk hT hk hi hy hz) hq a3 tO og
  rw [eT, g9 (5 * k + 2), g9 (5 * k + 3)] at b3
  refine Both.mk' (σ1 := σ3) (σ2 := τ2) (r := nI (fo (kdF (fun k f => σ.1 811 0 (5 * k + f)) n k (onM (fun k f => σ.1 811 0 (5 * k + f)) n) (yz (σ.1 811 0 (5 * k + 2))) (yz (σ.1 811 0 (5 * k + 3))) s o) 6 0 0)) ?_ ?_ ?_
  · simp only [X7_kinds, X7_rowOf_n hr, X7_rowOf_n hq, X2_numbered_n (by decide) hP hk x1 x2', Option.bind_some]
    rw [spl_some (by omega), spl_some (by omega), spl_some x2', e7, Option.bind_some]
    show (if (0 : Int32) = 0 then _ else _) = _
    rw [if_pos rfl, d7, Option.bind_some]
    show (if (0 : Int32) = 0 then _ else _) = _
    rw [if_pos rfl, X2_onSet_n (by decide) hP, Option.bind_some]
    dsimp only
    rw [X4_pack_n (by omega) oS ol, Option.bind_some]
    dsimp only
    rw [u1, Option.bind_some]
    exact v1
  · show X8_kinds _ _ _ _ = _
    unfold X8_kinds
    rw [X8_isLaw_k (n := n) (by rw [g8 810 _ (by omega)]; exact h1) hn hk, Option.bind_some]
    show (if (1 : Int32) = 0 then _ else _) = _
    rw [if_neg one_ne0]
    show (X8_askedBoth σ3 (nI r) (nI q)).bind _ = _
    rw [e8 σ3 (fun j => g8 805 j (by omega)) (fun j => g8 806 j (by omega)), Option.bind_some]
    show (if 0 ≤ (0 : Int32) then _ else _) = _
    rw [if_pos (by decide)]
    show (X8_laySheet σ3 (nI r)).bind _ = _
    rw [a1, Option.bind_some, lt_eq, nmul_l]
    exact b3
  · have fM : Fr (fun c _ => c = 811 ∨ c = 815 ∨ c = 816 ∨ c = 817 ∨ c = 818) σ3 τ2 := (a2.mono fun c k q => by omega).tr (b1.mono fun c k q => by unfold Pkm at q; omega)
    have fT : Fr PN σ τ2 := (fA.mono fun c k q => by
      obtain ⟨q1, q2, q3 | q3⟩ := q
      · exact Or.inl ⟨q1, q2, by omega⟩
      · refine Or.inr (Or.inr (Or.inr ?_))
        by_cases w : c = 104
        · exact Or.inr (Or.inr (Or.inr ⟨w, by omega⟩))
        · exact Or.inr (Or.inr (Or.inl ⟨q1, by omega, by omega⟩))).tr (fM.mono fun c k q => by
      rcases q with rfl | rfl | rfl | rfl | rfl
      · exact Or.inr (Or.inr (Or.inl (Or.inl rfl)))
      · exact Or.inr (Or.inr (Or.inr (Or.inl (by decide))))
      · exact Or.inr (Or.inr (Or.inr (Or.inl (by decide))))
      · exact Or.inr (Or.inr (Or.inr (Or.inl (by decide))))
      · exact Or.inr (Or.inr (Or.inr (Or.inl (by decide)))))
    have ref : ∀ j, τ2.2.2 200 0 j = σ.2.2 200 0 j := fun j => by rw [fM.r (by decide), fA.r (by omega)]
    have fld5 : ∀ f y, f < 5 → y < 8 → τ2.1 (100 + f) y 0 = σ.1 (100 + f) y 0 := fun f y hf hy => by
      rw [fM.i (by omega)]
      by_cases w : y = x
      · subst w; exact xb f hf
      · rw [fA.i (by omega)]
    have e811 : ∀ j, τ2.1 811 0 j = σ.1 811 0 j := fun j => by rw [b2, g9]
    refine Rel_now h fT ⟨fun j hj => ?_, fun i j hi hj e => ?_⟩ (fun y hy => ?_) (fun m m8 m1 m2 => ?_)
    · obtain ⟨y, y1, y2, y3⟩ := hrf.1 j hj
      exact ⟨y, by rw [ref]; exact y1, by omega⟩
    · rw [ref, ref] at e
      exact hrf.2 i j hi hj e
    · have := fld5 4 y (by decide) hy
      rw [show 100 + 4 = 104 from rfl] at this
      rw [this]
      exact h.2.2.2.2.1.1 y (by omega)
    · have m2' := m2
      obtain ⟨p1, ⟨d, p2, p3, p4, p5⟩, p6, p7, p8⟩ := m2
      obtain ⟨q1, q2⟩ := m2'.law (τ := τ2) (M := fun i => τ2.1 811 0 i) ref (fun f y hf hy => fld5 f y hf hy) e811
      have o8 : ∀ c j, c = 826 ∨ c = 827 ∨ c = 828 → τ2.1 c 0 j = σ.1 c 0 j := fun c j hc => by rw [fM.i (by omega), g8 c j (by omega)]
      have o2 : ∀ c j, 200 ≤ c → c ≤ 204 → τ2.1 c 0 j = σ.1 c 0 j := fun c j h1 h2 => by rw [fM.i (by omega), fA.i (by omega)]
      refine ⟨by rw [o2 203 _ (by omega) (by omega)]; exact p1, ⟨d, p2, by rw [o2 204 _ (by omega) (by omega)]; exact p3, by rw [o8 826 _ (by omega)]; exact p4, fun e he => ?_⟩, fun s hs => ?_, q1, q2⟩
      · rw [fM.j (by decide), fA.j (by omega)]
        exact (p5 e he).cg (fun j _ => o8 828 _ (by omega))
      · show τ2.1 202 0 s = τ2.1 827 0 s
        rw [o2 202 _ (by omega) (by omega), o8 827 _ (by omega)]
        exact p6 s hs
