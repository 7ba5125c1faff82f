/-! deeds -/
theorem X2_deed_n {σ : Mem} {p e d : Nat} (hp : p < 4) (h : σ.1 204 p 0 = nI d) (he : e < d) (hd : d ≤ 40) : X2_deed σ p (nI e) = some (σ, σ.2.1 201 p e) := by
  unfold X2_deed
  rw [if_pos hp, if_neg (nnlt0 (by omega)), h, if_neg (by rw [nle (by omega) (by omega)]; omega), if_neg (by rw [nle_l (by omega) (by decide)]; omega), ck_n (by omega) (by decide), ncl (by omega)]
def Pdd (c k : Nat) : Prop := ((c = 202 ∨ c = 204) ∧ k = 0) ∨ Prow 10 c k
theorem X2_dropDeed_n {σ : Mem} {d : Nat} {l : List Nat} (h : σ.1 204 0 0 = nI (d + 1)) (hd : d + 1 ≤ 40) (hl : σ.2.1 201 0 d = lN (pkN l)) (sg : Sg l) (h16 : l.length ≤ 16) : ∃ τ, X2_dropDeed σ 0 10 = some (τ, ()) ∧ Fr Pdd σ τ ∧ τ.1 204 0 0 = nI d ∧ ∀ s, s < 6 → τ.1 202 0 s = adN (-1) (ctL l s) (σ.1 202 0 s) := by
  obtain ⟨σ1, u1, u2, u3⟩ := X4_unpack_n (σ := σ) (r := 10) (by omega) sg h16
  obtain ⟨σ2, v1, v2, v3⟩ := X2_takeInk_n (p := 0) (e := -1) (by decide) (by omega) u3
  have g : σ2.1 204 0 0 = nI (d + 1) := by rw [v2.i (by decide), u2.i (by simp [Prow])]; exact h
  refine ⟨uI σ2 204 0 0 (nI d), ?_, ((u2.mono fun _ _ => Or.inr).tr (v2.mono fun c k q => Or.inl (by omega))).tr (Fr.uI (Or.inl (by omega))), by simp [uI_1], fun s hs => ?_⟩
  · unfold X2_dropDeed
    rw [if_pos (by decide), if_pos (by decide), h, if_neg (by rw [nle_r (by omega) (by decide)]; show ¬ d + 1 ≤ 0; omega), nsub_r (by show 1 ≤ d + 1; omega)]
    show (X2_deed σ 0 (nI d)).bind _ = _
    rw [X2_deed_n (by decide) h (by omega) hd, Option.bind_some, hl, u1, Option.bind_some, v1, Option.bind_some, g, nsub_r (by show 1 ≤ d + 1; omega)]
    rfl
  · have : (uI σ2 204 0 0 (nI d)).1 202 0 s = σ2.1 202 0 s := by simp [uI_1]
    rw [this, v3 s hs, u2.i (by simp [Prow])]
def scF (L : Nat → List Nat) (s : Nat) : Nat → Nat → Nat
  | 0, _ => 0
  | c + 1, i => ctL (L i) s + scF L s c (i + 1)
theorem scF_snoc (L : Nat → List Nat) (s : Nat) : ∀ c i, scF L s (c + 1) i = scF L s c i + ctL (L (i + c)) s := by
  intro c
  induction c with
  | zero => intro i; simp [scF]
  | succ c ih =>
    intro i
    rw [scF, ih (i + 1), scF, show i + 1 + c = i + (c + 1) by omega, Nat.add_assoc]
/-- the deeds, as lists -/
def Dds (σ : Mem) (d : Nat) (L : Nat → List Nat) : Prop := ∀ e, e < d → (L e).length ≤ 16 ∧ Sg (L e) ∧ σ.2.1 201 0 e = lN (pkN (L e)) ∧ σ.1 828 0 (17 * e) = nI (L e).length ∧ ∀ j, j < (L e).length → σ.1 828 0 (17 * e + 1 + j) = nI ((L e).getD j 0)
theorem Dds.ex {σ : Mem} {d : Nat} (h : ∀ e, e < d → DeedOK (σ.2.1 201 0 e) (fun j => σ.1 828 0 (17 * e + j))) : ∃ L, Dds σ d L := by
  refine ⟨fun e => if q : e < d then Classical.choose (h e q) else [], fun e he => ?_⟩
  simp only [dif_pos he]
  obtain ⟨h1, h2, h3, h4, h5⟩ := Classical.choose_spec (h e he)
  exact ⟨h1, h2, h3, h4, fun j hj => by rw [Nat.add_assoc]; exact h5 j hj⟩
theorem X7_undo_L {L : Nat → List Nat} {N M : Nat} {kk : Mem → Option (Mem × Int32)} (hM : M ≤ 40) : ∀ (c i f : Nat) (σ : Mem), c < f → i + c = M → N + c ≤ 40 → σ.1 204 0 0 = nI (N + c) → (∀ e, e < N + c → (L e).length ≤ 16 ∧ Sg (L e) ∧ σ.2.1 201 0 e = lN (pkN (L e))) → ∃ τ, X7_undo_L29 (nI M) kk f σ (nI i) = kk τ ∧ Fr Pdd σ τ ∧ τ.1 204 0 0 = nI N ∧ ∀ s, s < 6 → τ.1 202 0 s = adN (-1) (scF L s c N) (σ.1 202 0 s) := by
  intro c
  induction c with
  | zero =>
    intro i f σ hf he hN h1 h2
    obtain ⟨g, rfl⟩ : ∃ g, f = g + 1 := ⟨f - 1, by omega⟩
    refine ⟨σ, ?_, Fr.rf, h1, fun s _ => rfl⟩
    rw [X7_undo_L29, if_pos (by rw [nle (by omega) (by omega)]; omega)]
  | succ c ih =>
    intro i f σ hf he hN h1 h2
    obtain ⟨g, rfl⟩ : ∃ g, f = g + 1 := ⟨f - 1, by omega⟩
    obtain ⟨l1, l2, l3⟩ := h2 (N + c) (by omega)
    obtain ⟨σ1, u1, u2, u3, u4⟩ := X2_dropDeed_n (d := N + c) h1 (by omega) l3 l2 l1
    obtain ⟨τ, t1, t2, t3, t4⟩ := ih (i + 1) g σ1 (by omega) (by omega) (by omega) u3 (fun e he => by
      obtain ⟨l1, l2, l3⟩ := h2 e (by omega)
      exact ⟨l1, l2, by rw [u2.j (by simp [Pdd, Prow])]; exact l3⟩)
    refine ⟨τ, ?_, u2.tr t2, t3, fun s hs => ?_⟩
    · rw [X7_undo_L29, if_neg (by rw [nle (by omega) (by omega)]; omega), u1, Option.bind_some, nadd_r]
      exact t1
    · rw [t4 s hs, u4 s hs, ← adN_add, scF_snoc, Nat.add_comm]
theorem X8_undo1_L {e : Nat} {l : List Nat} {x1 x2 x3 : Int32} {kk : Mem → Option (Mem × Int32)} (he : e < 40) (h16 : l.length ≤ 16) (hg : Sg l) : ∀ (rest pre : List Nat) (f : Nat) (σ : Mem), l = pre ++ rest → rest.length < f → σ.1 828 0 (17 * e) = nI l.length → (∀ j, j < l.length → σ.1 828 0 (17 * e + 1 + j) = nI (l.getD j 0)) → ∃ τ, X8_undo_L40 x1 x2 x3 (nI (17 * e)) kk f σ (nI pre.length) = kk τ ∧ Fr (fun c _ => c = 827) σ τ ∧ ∀ s, s < 6 → τ.1 827 0 s = adN (-1) (ctL rest s) (σ.1 827 0 s) := by
  intro rest
  induction rest with
  | nil =>
    intro pre f σ hs hf h1 h2
    obtain ⟨g, rfl⟩ : ∃ g, f = g + 1 := ⟨f - 1, by omega⟩
    have hl : l.length = pre.length := by rw [hs]; simp
    refine ⟨σ, ?_, Fr.rf, fun s _ => rfl⟩
    rw [X8_undo_L40, ck_n (by omega) (by decide), ncl (by omega), h1, if_pos (by rw [nle (by omega) (by omega)]; omega)]
  | cons a t ih =>
    intro pre f σ hs hf h1 h2
    obtain ⟨g, rfl⟩ : ∃ g, f = g + 1 := ⟨f - 1, by omega⟩
    have hl : l.length = pre.length + (t.length + 1) := by rw [hs]; simp
    have ha : a < 6 := hg a (by rw [hs]; simp)
    have eg : l.getD pre.length 0 = a := by rw [hs, getD_app]
    have e1 : σ.1 828 0 (17 * e + 1 + pre.length) = nI a := by rw [h2 pre.length (by omega), eg]
    have ix : nI (17 * e) + 1 + nI pre.length = nI (17 * e + 1 + pre.length) := by rw [nadd_r, nadd]
    have fr : Fr (fun c _ => c = 827) σ (uI σ 827 0 a (σ.1 827 0 a - 1)) := Fr.uI rfl
    obtain ⟨τ, t1, t2, t3⟩ := ih (pre ++ [a]) g _ (by rw [hs]; simp) (by simp at hf; omega) (by rw [fr.i (by decide)]; exact h1) (fun j hj => by rw [fr.i (by decide)]; exact h2 j hj)
    refine ⟨τ, ?_, fr.tr t2, fun s hs => ?_⟩
    · rw [X8_undo_L40, ck_n (by omega) (by decide), ncl (by omega), h1, if_neg (by rw [nle (by omega) (by omega)]; omega), ix, ck_n (by omega) (by decide), ncl (by omega), e1, ck_n ha (by decide), ck_n ha (by decide), ncl (by omega), nadd_r]
      simpa using t1
    · rw [t3 s hs, ctL]
      by_cases q : a = s
      · subst q
        rw [if_pos rfl, adN, sub_neg1]
        simp [uI_1]
      · have q2 : ¬ s = a := fun w => q w.symm
        rw [if_neg q]
        simp [uI_1, q2]
theorem X8_undo2_L {L : Nat → List Nat} {D : Nat} {x1 x2 : Int32} {kk : Mem → Option (Mem × Int32)} (hD : D ≤ 40) : ∀ (c e f : Nat) (σ : Mem), c < f → e + c = D → σ.1 826 0 0 = nI D → (∀ e, e < D → (L e).length ≤ 16 ∧ Sg (L e) ∧ σ.1 828 0 (17 * e) = nI (L e).length ∧ ∀ j, j < (L e).length → σ.1 828 0 (17 * e + 1 + j) = nI ((L e).getD j 0)) → ∃ τ, X8_undo_L23 x1 x2 kk f σ (nI e) = kk τ ∧ Fr (fun c _ => c = 827) σ τ ∧ ∀ s, s < 6 → τ.1 827 0 s = adN (-1) (scF L s c e) (σ.1 827 0 s) := by
  intro c
  induction c with
  | zero =>
    intro e f σ hf he h1 h2
    obtain ⟨g, rfl⟩ : ∃ g, f = g + 1 := ⟨f - 1, by omega⟩
    refine ⟨σ, ?_, Fr.rf, fun s _ => rfl⟩
    rw [X8_undo_L23, h1, if_pos (by rw [nle (by omega) (by omega)]; omega)]
  | succ c ih =>
    intro e f σ hf he h1 h2
    obtain ⟨g, rfl⟩ : ∃ g, f = g + 1 := ⟨f - 1, by omega⟩
    obtain ⟨l1, l2, l3, l4⟩ := h2 e (by omega)
    obtain ⟨σ1, u1, u2, u3⟩ := X8_undo1_L (x1 := x1) (x2 := x2) (x3 := nI e) (kk := fun s6 => X8_undo_L23 x1 x2 kk g s6 (nI e + 1)) (show e < 40 by omega) l1 l2 (L e) [] FU σ rfl (fu_gt (by omega)) l3 l4
    obtain ⟨τ, t1, t2, t3⟩ := ih (e + 1) g σ1 (by omega) (by omega) (by rw [u2.i (by decide)]; exact h1) (fun e he => by
      obtain ⟨l1, l2, l3, l4⟩ := h2 e he
      exact ⟨l1, l2, by rw [u2.i (by decide)]; exact l3, fun j hj => by rw [u2.i (by decide)]; exact l4 j hj⟩)
    refine ⟨τ, ?_, u2.tr t2, fun s hs => ?_⟩
    · rw [X8_undo_L23, h1, if_neg (by rw [nle (by omega) (by omega)]; omega), lt_eq, nmul_l]
      rw [nadd_r] at u1
      rw [nadd_r]
      exact u1.trans t1
    · rw [t3 s hs, u3 s hs, ← adN_add]
      rfl
theorem op_undo {σ : Mem} (h : Rel σ) (a : Int32) : Both (fun σ => X7_undo σ a) (fun σ => X8_undo σ a) σ := by
  obtain ⟨n, hn, h1, h2, hP, hM, hT⟩ := h.press
  have h2' := h2
  obtain ⟨p1, ⟨d, d1, d2, d3, d4⟩, p6, -, -⟩ := h2
  rcases to_n a d (by omega) with hb | ⟨N, hN, rfl, hb1, hb2⟩
  · refine Both.mk' (σ1 := σ) (σ2 := σ) (r := -1) ?_ ?_ h
    · show X7_undo _ _ = _
      unfold X7_undo
      rw [d2]
      rcases hb with hb | hb
      · rw [if_pos hb]
      · by_cases q : a < 0
        · rw [if_pos q]
        · rw [if_neg q, if_neg hb]
    · show X8_undo _ _ = _
      unfold X8_undo
      rw [d3, in_bad (by rcases hb with hb | hb; exact Or.inl hb; exact Or.inr (i32_nle2.mp hb))]
      rfl
  obtain ⟨L, hL⟩ := Dds.ex d4
  have hd : N + (d - N) = d := by omega
  obtain ⟨σ1, u1, u2, u3, u4⟩ := X7_undo_L (L := L) (N := N) (kk := fun s5 => some (s5, nI (d - N))) (show d - N ≤ 40 by omega) (d - N) 0 FU σ (fu_gt (by omega)) (by omega) (by omega) (by rw [hd]; exact d2) (fun e he => ⟨(hL e (by omega)).1, (hL e (by omega)).2.1, (hL e (by omega)).2.2.1⟩)
  have q8 : ∀ c, 800 ≤ c → ¬ Pdd c 0 := by intro c hc; unfold Pdd Prow; omega
  obtain ⟨τ1, v1, v2, v3⟩ := X8_undo2_L (L := L) (x1 := nI N) (x2 := nI (d - N)) (kk := fun s9 => some (uI s9 826 0 0 (nI N), nI (d - N))) d1 (d - N) N FU σ1 (fu_gt (by omega)) (by omega) (by rw [u2.i (q8 826 (by omega))]; exact d3) (fun e he => by
    obtain ⟨l1, l2, l3, l4, l5⟩ := hL e he
    exact ⟨l1, l2, by rw [u2.i (q8 828 (by omega))]; exact l4, fun j hj => by rw [u2.i (q8 828 (by omega))]; exact l5 j hj⟩)
  refine Both.mk' (σ1 := σ1) (σ2 := uI τ1 826 0 0 (nI N)) (r := nI (d - N)) ?_ ?_ ?_
  · show X7_undo _ _ = _
    unfold X7_undo
    rw [if_neg hb1, d2, if_pos hb2, lt_eq, nsub hN]
    rw [nI_0] at u1
    exact u1
  · show X8_undo _ _ = _
    unfold X8_undo
    rw [u2.i (q8 826 (by omega)), d3, in_ok hb1 (by rw [i32_nlt]; exact hb2), Option.bind_some]
    show (if (1 : Int32) = 0 then _ else _) = _
    rw [if_neg one_ne0, lt_eq]
    show X8_undo_L23 (nI N) (σ1.1 826 0 0 - nI N) (fun s9 => some (uI s9 826 0 0 (nI N), σ1.1 826 0 0 - nI N)) FU σ1 (nI N) = _
    rw [u2.i (q8 826 (by omega)), d3, nsub hN]
    exact v1
  · have fE : Fr (fun c _ => c = 826 ∨ c = 827) σ1 (uI τ1 826 0 0 (nI N)) := (v2.mono fun _ _ => Or.inr).tr (Fr.uI (Or.inl rfl))
    have fT : Fr PN σ (uI τ1 826 0 0 (nI N)) := (u2.mono fun c k q => by
      rcases q with q | ⟨q1, q2⟩
      · exact Or.inr (Or.inl ⟨by omega, by omega, q.2⟩)
      · exact Or.inr (Or.inr (Or.inr (Or.inr (Or.inl ⟨q1, q2⟩))))).tr (fE.mono fun c k q => Or.inr (Or.inr (Or.inl (by omega))))
    have low : ∀ c k j, c < 200 → (uI τ1 826 0 0 (nI N)).1 c k j = σ.1 c k j := by
      intro c k j hc
      rw [fE.i (by omega), u2.i (by unfold Pdd Prow; omega)]
    have ref : ∀ p k, (uI τ1 826 0 0 (nI N)).2.2 200 p k = σ.2.2 200 p k := by
      intro p k
      rw [fE.r (by omega), u2.r (by unfold Pdd Prow; omega)]
    have hrf := h.2.2.2.1 0 (by decide)
    refine Rel_now h fT ⟨fun j hj => ?_, fun k l hk hl e => ?_⟩ (fun y hy => ?_) (fun m m8 e1 e2 => ?_)
    · obtain ⟨y, y1, y2, y3⟩ := hrf.1 j hj
      exact ⟨y, by rw [ref]; exact y1, by omega⟩
    · rw [ref, ref] at e
      exact hrf.2 k l hk hl e
    · rw [low 104 y 0 (by omega)]
      exact h.2.2.2.2.1.1 y (by omega)
    · have em : m = n := by rw [h1] at e1; exact ((neq (by omega) (by omega)).mp e1).symm
      subst em
      have t811 : ∀ j, (uI τ1 826 0 0 (nI N)).1 811 0 j = σ.1 811 0 j := fun j => by
        rw [fE.i (by omega), u2.i (q8 _ (by omega))]
      have t828 : ∀ j, (uI τ1 826 0 0 (nI N)).1 828 0 j = σ.1 828 0 j := fun j => by
        rw [fE.i (by omega), u2.i (q8 _ (by omega))]
      obtain ⟨q1, q2⟩ := h2'.law (τ := uI τ1 826 0 0 (nI N)) (M := fun i => (uI τ1 826 0 0 (nI N)).1 811 0 i) (fun k => ref 0 k) (fun f x _ _ => low (100 + f) x 0 (by omega)) t811
      refine ⟨?_, ⟨N, by omega, ?_, by simp [uI_1], fun e he => ?_⟩, fun s hs => ?_, q1, q2⟩
      · rw [fE.i (by omega), u2.i (by unfold Pdd Prow; omega)]
        exact p1
      · rw [fE.i (by omega)]
        exact u3
      · have ej : (uI τ1 826 0 0 (nI N)).2.1 201 0 e = σ.2.1 201 0 e := by
          rw [fE.j (by omega), u2.j (by unfold Pdd Prow; omega)]
        rw [ej]
        exact (d4 e (by omega)).cg (fun j _ => t828 (17 * e + j))
      · show (uI τ1 826 0 0 (nI N)).1 202 0 s = (uI τ1 826 0 0 (nI N)).1 827 0 s
        have p7 : σ.1 202 0 s = σ.1 827 0 s := p6 s hs
        have i7 : (uI τ1 826 0 0 (nI N)).1 827 0 s = τ1.1 827 0 s := by simp [uI_1]
        rw [fE.i (show ¬ (202 = 826 ∨ 202 = 827) by decide), u4 s hs, i7, v3 s hs, u2.i (q8 827 (by omega)), p7]
/-! drawer -/
theorem X8_drawer_L {r e : Nat} {o : List Nat} {kk : Mem → Option (Mem × Int32)} (hr : r < 6) (he : e < 40) (h8 : o.length ≤ 16) : ∀ (c i f : Nat) (σ : Mem), c < f → i + c = o.length → σ.1 828 0 (17 * e) = nI o.length → (∀ j, j < o.length → σ.1 828 0 (17 * e + 1 + j) = nI (o.getD j 0)) → (∀ j, j < i → σ.1 806 0 (40 * r + j) = nI (o.getD j 0)) → ∃ τ, X8_drawer_L43 (nI r) (nI (17 * e)) kk f σ (nI i) = kk τ ∧ Wr σ τ r ∧ Cel (fun j => τ.1 806 0 (40 * r + j)) o := by
  intro c
  induction c with
  | zero =>
    intro i f σ hf hc h1 hO hC
    obtain ⟨g, rfl⟩ : ∃ g, f = g + 1 := ⟨f - 1, by omega⟩
    refine ⟨σ, ?_, Wr.rf, fun j hj => hC j (by omega)⟩
    rw [X8_drawer_L43, ck_n (by omega) (by decide), ncl (by omega), h1, if_pos (by rw [nle (by omega) (by omega)]; omega)]
  | succ c ih =>
    intro i f σ hf hc h1 hO hC
    obtain ⟨g, rfl⟩ : ∃ g, f = g + 1 := ⟨f - 1, by omega⟩
    have fr : Fr (fun c _ => c = 806) σ (uI σ 806 0 (40 * r + i) (nI (o.getD i 0))) := Fr.uI rfl
    obtain ⟨τ, t1, t2, t3⟩ := ih (i + 1) g (uI σ 806 0 (40 * r + i) (nI (o.getD i 0))) (by omega) (by omega) (by rw [fr.i (by decide)]; exact h1) (fun j hj => by rw [fr.i (by decide)]; exact hO j hj) (fun j hj => by
      by_cases e : j = i
      · subst e; simp [uI_1]
      · simp only [uI_1]
        rw [if_neg (by rintro ⟨-, -, q⟩; omega)]
        exact hC j (by omega))
    refine ⟨τ, ?_, (Wr.st hr (by omega)).tr t2, t3⟩
    have ix : nI (17 * e) + 1 + nI i = nI (17 * e + 1 + i) := by rw [nadd_r, nadd]
    rw [X8_drawer_L43, ck_n (by omega) (by decide), ncl (by omega), h1, if_neg (by rw [nle (by omega) (by omega)]; omega), ix, ck_n (by omega) (by decide), ncl (by omega), hO i (by omega), X8_setRow_n (by omega)]
    dsimp only [Option.bind_some]
    rw [nadd_r]
    exact t1
theorem op_drawer {σ : Mem} (h : Rel σ) (a b : Int32) : Both (fun σ => X7_drawer σ a b) (fun σ => X8_drawer σ a b) σ := by
  obtain ⟨n, hn, h1, h2, hP, hM, hT⟩ := h.press
  obtain ⟨p1, ⟨d, d1, d2, d3, d4⟩, p6, -, -⟩ := h2
  have in_no : (a < 0 ∨ ∃ k, d ≤ k ∧ k < 2147483648 ∧ a = nI k) → ∀ σ : Mem, X8_in σ a 0 (nI d - 1) = some (σ, 0) := by
    rintro (q | ⟨k, k1, k2, rfl⟩) σ
    · exact in_bad (Or.inl q)
    · rw [X8_in_eq, in_n k2 (by omega), if_neg (by omega)]
  by_cases hb : a < 0 ∨ ∃ k, d ≤ k ∧ k < 2147483648 ∧ a = nI k
  · refine Both.mk' (σ1 := σ) (σ2 := σ) (r := -1) ?_ ?_ h
    · rcases isR b with ⟨b7, b8⟩ | ⟨r, hr, rfl⟩
      · simp only [X7_drawer, b7, Option.bind_some, spl_none]
      · simp only [X7_drawer, X7_rowOf_n hr, Option.bind_some]
        rw [spl_some (by omega), d2]
        rcases hb with q | ⟨k, k1, k2, rfl⟩
        · rw [if_pos q]
        · rw [if_neg (nnlt0 k2), if_neg (by rw [nlt k2 (by omega)]; omega)]
    · show X8_drawer _ _ _ = _
      unfold X8_drawer
      rw [d3, in_no hb]
      rfl
  obtain ⟨e, he, rfl⟩ : ∃ e, e < d ∧ a = nI e := by
    rcases ix3 a d with q | q | ⟨i, q1, q2, q3⟩
    · exact absurd (Or.inl q) hb
    · exact absurd (Or.inr q) hb
    · exact ⟨i, q1, q3⟩
  have hin : ∀ σ : Mem, X8_in σ (nI e) 0 (nI d - 1) = some (σ, 1) := fun σ => by rw [X8_in_eq, in_n (by omega) (by omega), if_pos he]
  rcases isR b with ⟨b7, b8⟩ | ⟨r, hr, rfl⟩
  · refine Both.mk' (σ1 := σ) (σ2 := σ) (r := -1) ?_ ?_ h
    · simp only [X7_drawer, b7, Option.bind_some, spl_none]
    · show X8_drawer _ _ _ = _
      unfold X8_drawer
      rw [d3, hin, Option.bind_some]
      show (if (1 : Int32) = 0 then _ else _) = _
      rw [if_neg one_ne0, b8]
      rfl
  obtain ⟨L, hL⟩ := Dds.ex d4
  obtain ⟨l1, l2, l3, l4, l5⟩ := hL e he
  obtain ⟨σ1, u1, u2, u3⟩ := X4_unpack_n (σ := σ) (r := r) (by omega) l2 l1
  have q8 : ∀ c, 800 ≤ c → ¬ Prow r c 0 := by intro c hc; unfold Prow; omega
  have f1 : Fr (fun c _ => c = 805 ∨ c = 806) σ1 (fz (uI σ1 805 0 r (nI (L e).length)) 806 (40 * r) (40 * r + 40) 0) := (Fr.uI (Or.inl rfl)).tr (fz_fr (Or.inr rfl))
  have m4 : σ1.1 828 0 (17 * e) = nI (L e).length := by rw [u2.i (q8 828 (by omega))]; exact l4
  obtain ⟨τ, t1, t2, t3⟩ := X8_drawer_L (kk := fun s8 => ck (nI (17 * e)) 680 (some (s8, s8.1 828 0 (nI (17 * e)).toNatClampNeg))) hr (show e < 40 by omega) l1 (L e).length 0 FU _ (fu_gt (by omega)) (by omega) (by rw [f1.i (by decide)]; exact m4) (fun j hj => by rw [f1.i (by decide), u2.i (q8 828 (by omega))]; exact l5 j hj) (fun j hj => by omega)
  refine Both.mk' (σ1 := σ1) (σ2 := τ) (r := nI (L e).length) ?_ ?_ (Rel_rowS h hr (u2.mono fun _ _ => Or.inl) u3 Fr.rf (RwTo.mk2 hr rfl (by omega) t2 t3))
  · simp only [X7_drawer, X7_rowOf_n hr, Option.bind_some]
    rw [spl_some (by omega), d2, if_neg (nnlt0 (by omega)), if_pos (by rw [nlt (by omega) (by omega)]; exact he), X2_deed_n (by decide) d2 he d1, Option.bind_some, l3, u1, Option.bind_some]
    show some (σ1, σ1.1 401 r 0) = _
    rw [u3.1]
  · show X8_drawer _ _ _ = _
    unfold X8_drawer
    rw [u2.i (q8 826 (by omega)), d3, hin, Option.bind_some]
    show (if (1 : Int32) = 0 then _ else _) = _
    rw [if_neg one_ne0, X8_isRow_r hr, Option.bind_some]
    show (if (1 : Int32) = 0 then _ else _) = _
    rw [if_neg one_ne0, lt_eq, nmul_l]
    show ck (nI (17 * e)) 680 ((X8_row σ1 (nI r) (σ1.1 828 0 (nI (17 * e)).toNatClampNeg)).bind fun q4 => X8_drawer_L43 (nI r) (nI (17 * e)) (fun s8 => ck (nI (17 * e)) 680 (some (s8, s8.1 828 0 (nI (17 * e)).toNatClampNeg))) FU q4.1 0) = _
    have e1 : τ.1 828 0 (17 * e) = nI (L e).length := by rw [t2.1.i (by decide), f1.i (by decide), m4]
    rw [ck_n (by omega) (by decide), ncl (by omega), e1] at t1
    rw [ck_n (by omega) (by decide), ncl (by omega), m4, X8_row_n hr (by omega), Option.bind_some, ← nI_0]
    exact t1
