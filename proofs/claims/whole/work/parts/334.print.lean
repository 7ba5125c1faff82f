/-! inks -/
def adN (e : Int32) : Nat → Int32 → Int32
  | 0, x => x
  | n + 1, x => adN e n (x + e)
theorem adN_add (e : Int32) : ∀ (a b : Nat) (x : Int32), adN e (a + b) x = adN e b (adN e a x) := by
  intro a
  induction a with
  | zero => intro b x; rw [Nat.zero_add]; rfl
  | succ a ih => intro b x; rw [show a + 1 + b = (a + b) + 1 by omega, adN, adN, ih]
def ctL : List Nat → Nat → Nat
  | [], _ => 0
  | a :: t, s => if a = s then ctL t s + 1 else ctL t s
theorem X2_takeInk_L {p r : Nat} {e : Int32} {l : List Nat} {kk : Mem → Option (Mem × Unit)} (hr : r < 11) : ∀ (rest pre : List Nat) (f : Nat) (σ : Mem), l = pre ++ rest → rest.length < f → RowS σ r l → ∃ τ, X2_takeInk_L2 p r e kk f σ (nI pre.length) = kk τ ∧ Fr (fun c k => c = 202 ∧ k = p) σ τ ∧ ∀ s, s < 6 → τ.1 202 p s = adN e (ctL rest s) (σ.1 202 p s) := by
  have h60 := rl_le r
  intro rest
  induction rest with
  | nil =>
    intro pre f σ hs hf hS
    obtain ⟨g, rfl⟩ : ∃ g, f = g + 1 := ⟨f - 1, by omega⟩
    have hl : l.length = pre.length := by rw [hs]; simp
    have := hS.2.1
    refine ⟨σ, ?_, Fr.rf, fun s _ => rfl⟩
    rw [X2_takeInk_L2, hS.1, if_pos (by rw [nle (by omega) (by omega)]; omega)]
  | cons a t ih =>
    intro pre f σ hs hf hS
    obtain ⟨g, rfl⟩ : ∃ g, f = g + 1 := ⟨f - 1, by omega⟩
    have hl : l.length = pre.length + (t.length + 1) := by rw [hs]; simp
    have := hS.2.1
    have ha : a < 6 := hS.2.2.1 a (by rw [hs]; simp)
    have e1 : σ.1 400 r pre.length = nI a := by rw [hS.2.2.2 pre.length (by omega), hs, getD_app]
    have fr : Fr (fun c k => c = 202 ∧ k = p) σ (uI σ 202 p a (σ.1 202 p a + e)) := Fr.uI ⟨rfl, rfl⟩
    obtain ⟨τ, t1, t2, t3⟩ := ih (pre ++ [a]) g (uI σ 202 p a (σ.1 202 p a + e)) (by rw [hs]; simp) (by simp at hf; omega) (hS.fr fr (by rintro ⟨w, -⟩; cases w) (by rintro ⟨w, -⟩; cases w))
    refine ⟨τ, ?_, fr.tr t2, fun s hs => ?_⟩
    · rw [X2_takeInk_L2, hS.1, if_neg (by rw [nle (by omega) (by omega)]; omega), X4_cell_in hr hS.1 hS.2.1 (by omega)]
      dsimp only [Option.bind_some]
      rw [e1, if_neg (nnlt0 (by omega)), if_neg (by rw [nle_l (by omega) (by decide)]; omega), ck_n ha (by decide), ck_n ha (by decide), ncl (by omega), nadd_r]
      simpa using t1
    · rw [t3 s hs, ctL]
      by_cases q : a = s
      · subst q
        rw [if_pos rfl, adN]
        simp [uI_1]
      · have q2 : ¬ s = a := fun w => q w.symm
        rw [if_neg q]
        simp [uI_1, q2]
theorem X2_takeInk_n {σ : Mem} {p r : Nat} {e : Int32} {l : List Nat} (hp : p < 4) (hr : r < 11) (hS : RowS σ r l) : ∃ τ, X2_takeInk σ p r e = some (τ, ()) ∧ Fr (fun c k => c = 202 ∧ k = p) σ τ ∧ ∀ s, s < 6 → τ.1 202 p s = adN e (ctL l s) (σ.1 202 p s) := by
  have h60 := rl_le r
  have := hS.2.1
  obtain ⟨τ, t1, t2, t3⟩ := X2_takeInk_L (p := p) (e := e) (kk := fun s => some (s, ())) hr l [] FU σ rfl (fu_gt (by omega)) hS
  refine ⟨τ, ?_, t2, t3⟩
  unfold X2_takeInk
  rw [if_pos hp, if_pos hr]
  exact t1
theorem X8_print_L {d : Nat} {o : List Nat} {kk : Mem → Option (Mem × Int32)} (hd : d < 40) (h16 : o.length ≤ 16) (hg : Sg o) : ∀ (rest pre : List Nat) (f : Nat) (σ : Mem), o = pre ++ rest → rest.length < f → σ.1 818 0 0 = nI o.length → Cel (fun j => σ.1 817 0 j) o → (∀ j, j < pre.length → σ.1 828 0 (17 * d + 1 + j) = nI (o.getD j 0)) → ∃ τ, X8_print_L60 (nI (17 * d)) kk f σ (nI pre.length) = kk τ ∧ Fr (fun c _ => c = 827 ∨ c = 828) σ τ ∧ (∀ j, j < o.length → τ.1 828 0 (17 * d + 1 + j) = nI (o.getD j 0)) ∧ (∀ j, ¬ (17 * d + 1 ≤ j ∧ j < 17 * d + 17) → τ.1 828 0 j = σ.1 828 0 j) ∧ ∀ s, s < 6 → τ.1 827 0 s = adN 1 (ctL rest s) (σ.1 827 0 s) := by
  intro rest
  induction rest with
  | nil =>
    intro pre f σ hs hf h1 h2 h3
    obtain ⟨g, rfl⟩ : ∃ g, f = g + 1 := ⟨f - 1, by omega⟩
    have hl : o.length = pre.length := by rw [hs]; simp
    refine ⟨σ, ?_, Fr.rf, fun j hj => h3 j (by omega), fun _ _ => rfl, fun s _ => rfl⟩
    rw [X8_print_L60, h1, if_pos (by rw [nle (by omega) (by omega)]; omega)]
  | cons a t ih =>
    intro pre f σ hs hf h1 h2 h3
    obtain ⟨g, rfl⟩ : ∃ g, f = g + 1 := ⟨f - 1, by omega⟩
    have hl : o.length = pre.length + (t.length + 1) := by rw [hs]; simp
    have ha : a < 6 := hg a (by rw [hs]; simp)
    have eg : o.getD pre.length 0 = a := by rw [hs, getD_app]
    have e1 : σ.1 817 0 pre.length = nI a := by
      have := h2 pre.length (by omega)
      rw [eg] at this
      exact this
    have e2 : (uI σ 828 0 (17 * d + 1 + pre.length) (nI a)).1 817 0 pre.length = nI a := by simp [uI_1, e1]
    have e3 : (uI σ 828 0 (17 * d + 1 + pre.length) (nI a)).1 827 0 a = σ.1 827 0 a := by simp [uI_1]
    have ix : nI (17 * d) + 1 + nI pre.length = nI (17 * d + 1 + pre.length) := by rw [nadd_r, nadd]
    have fr : Fr (fun c _ => c = 827 ∨ c = 828) σ (uI (uI σ 828 0 (17 * d + 1 + pre.length) (nI a)) 827 0 a (σ.1 827 0 a + 1)) := (Fr.uI (Or.inr rfl)).tr (Fr.uI (Or.inl rfl))
    obtain ⟨τ, t1, t2, t3, t4, t5⟩ := ih (pre ++ [a]) g _ (by rw [hs]; simp) (by simp at hf; omega) (by rw [fr.i (by decide)]; exact h1) (h2.cg fun j _ => fr.i (by decide) j) (fun j hj => by
      simp at hj
      by_cases q : j = pre.length
      · subst q
        rw [eg]
        simp [uI_1]
      · have q2 : ¬ 17 * d + 1 + j = 17 * d + 1 + pre.length := by omega
        have := h3 j (by omega)
        simp [uI_1, q, this])
    refine ⟨τ, ?_, fr.tr t2, t3, fun j hj => ?_, fun s hs => ?_⟩
    · rw [X8_print_L60, h1, if_neg (by rw [nle (by omega) (by omega)]; omega), ck_n (by omega) (by decide), ix, ck_n (by omega) (by decide), ck_n (by omega) (by decide), ncl (by omega), ncl (by omega), e1, e2, ck_n ha (by decide), ck_n ha (by decide), ncl (by omega), e3, nadd_r]
      simpa using t1
    · rw [t4 j hj]
      have q : ¬ j = 17 * d + 1 + pre.length := by omega
      simp [uI_1, q]
    · rw [t5 s hs, ctL]
      by_cases q : a = s
      · subst q
        rw [if_pos rfl, adN]
        simp [uI_1]
      · have q2 : ¬ s = a := fun w => q w.symm
        rw [if_neg q]
        simp [uI_1, q2]
theorem DeedOK.cg {J : Int64} {dr er : Nat → Int32} (h : DeedOK J dr) (e : ∀ j, j < 17 → er j = dr j) : DeedOK J er := by
  obtain ⟨l, h1, h2, h3, h4, h5⟩ := h
  exact ⟨l, h1, h2, h3, by rw [e 0 (by decide)]; exact h4, fun j hj => by rw [e (1 + j) (by omega)]; exact h5 j hj⟩
theorem PR.law {σ τ : Mem} {n : Nat} {L M D I : Nat → Int32} {dm : Int32} (h : PR σ 0 n L D I dm) (hr : ∀ k, τ.2.2 200 0 k = σ.2.2 200 0 k) (hf : ∀ f x, f < 5 → x < 8 → τ.1 (100 + f) x 0 = σ.1 (100 + f) x 0) (hM : ∀ j, M j = L j) : (∀ k, k < n → ∃ x, τ.2.2 200 0 k = some x ∧ 8 * 0 ≤ x ∧ x < 8 * 0 + 8 ∧ ∀ f, f < 5 → τ.1 (100 + f) x 0 = M (5 * k + f)) ∧ ∀ k, k < n → LawV M k := by
  have e : M = L := funext hM
  subst e
  refine ⟨fun k hk => ?_, h.2.2.2.2⟩
  obtain ⟨x, x1, x2, x3, x4⟩ := h.2.2.2.1 k hk
  exact ⟨x, by rw [hr]; exact x1, x2, x3, fun f hg => by rw [hf f x hg (by omega)]; exact x4 f hg⟩
theorem op_print {σ : Mem} (h : Rel σ) (a : Int32) : Both (fun σ => X7_print σ a) (fun σ => X8_print σ a) σ := by
  rcases isR a with ⟨a7, a8⟩ | ⟨r, hr, rfl⟩
  · refine Both.mk' (σ1 := σ) (σ2 := σ) (r := -1) ?_ ?_ h
    · simp only [X7_print, a7, Option.bind_some, spl_none]
    · show X8_print _ _ = _
      unfold X8_print
      rw [X8_askedSigns_no (a8 σ)]
      rfl
  rcases asRow h hr (most := 8) (by decide) with ⟨f, f1, f2, e7, e8⟩ | ⟨s, hl, sg, hS, hR, e7, e8⟩
  · refine Both.mk' (σ1 := ans7 σ f) (σ2 := met8 (ans7 σ f) f) (r := -3) ?_ ?_ (Rel_fnd h f f1 f2)
    · simp only [X7_print, X7_rowOf_n hr, Option.bind_some]
      rw [spl_some (by omega)]
      rw [show (8 : Int32) = nI 8 from rfl, e7]
      rfl
    · show X8_print _ _ = _
      unfold X8_print
      rw [show (8 : Int32) = nI 8 from rfl, e8 _ (fun j => ans7_i (by decide) (by decide)) (fun j => ans7_i (by decide) (by decide))]
      rfl
  obtain ⟨n, hn, h1, h2, hP, hM, hT⟩ := h.press
  have h2' := h2
  obtain ⟨p1, ⟨d, d1, d2, d3, d4⟩, p6, -, -⟩ := h2
  by_cases hd : d < 40
  case neg =>
    refine Both.mk' (σ1 := σ) (σ2 := σ) (r := -2) ?_ ?_ h
    · simp only [X7_print, X7_rowOf_n hr, Option.bind_some]
      rw [spl_some (by omega)]
      rw [show (8 : Int32) = nI 8 from rfl, e7]
      dsimp only [Option.bind_some]
      rw [if_pos rfl, d2, if_neg (by rw [nlt_r (by omega) (by decide)]; omega)]
    · show X8_print _ _ = _
      unfold X8_print
      rw [show (8 : Int32) = nI 8 from rfl, e8 _ (fun j => rfl) (fun j => rfl)]
      dsimp only [Option.bind_some]
      rw [if_pos (by decide), d3, if_pos (by rw [neq_r (by omega) (by decide)]; show d = 40; omega)]
  have on := onM_256 (T := fun k f => σ.1 811 0 (5 * k + f)) hn
  obtain ⟨l1, l2⟩ := outS_len (m := onM (fun k f => σ.1 811 0 (5 * k + f)) n) hT sg
  generalize ho : outS (fun k f => σ.1 811 0 (5 * k + f)) n (onM (fun k f => σ.1 811 0 (5 * k + f)) n) s = o at l1 l2
  obtain ⟨σ1, u1, u2, u3⟩ := X4_unpack_n (σ := σ) (r := 10) (by omega) l2 (by omega)
  have g2 : σ1.1 204 0 0 = nI d := by rw [u2.i (by simp [Prow])]; exact d2
  have fA : Fr (fun c k => (c = 201 ∨ c = 204) ∧ k = 0) σ1 (uI (uJ σ1 201 0 d (lN (pkN o))) 204 0 0 (nI (d + 1))) := (Fr.uJ ⟨Or.inl rfl, rfl⟩).tr (Fr.uI ⟨Or.inr rfl, rfl⟩)
  obtain ⟨σ2, v1, v2, v3⟩ := X2_takeInk_n (σ := uI (uJ σ1 201 0 d (lN (pkN o))) 204 0 0 (nI (d + 1))) (p := 0) (e := 1) (by decide) (by omega) (u3.fr fA (by omega) (by omega))
  have f7 : Fr (fun c k => (c = 201 ∨ c = 202 ∨ c = 204) ∧ k = 0 ∨ Prow 10 c k) σ σ2 := ((u2.mono fun _ _ => Or.inr).tr (fA.mono fun c k q => Or.inl (by omega))).tr (v2.mono fun c k q => Or.inl (by omega))
  have q56 : ∀ c, c = 805 ∨ c = 806 ∨ c = 810 ∨ c = 811 ∨ c = 826 ∨ c = 827 ∨ c = 828 → ¬ ((c = 201 ∨ c = 202 ∨ c = 204) ∧ (0 : Nat) = 0 ∨ Prow 10 c 0) := by
    intro c hc
    unfold Prow
    omega
  obtain ⟨τ1, τ2, m1, m2, m3, m4, m5, m6, m7, m8, m9, m10⟩ := lso (σ := σ2) (hM.fr f7 (q56 _ (by omega)) (q56 _ (by omega))) hT hr hl (hR.fr f7 (q56 _ (by omega)) (q56 _ (by omega))) sg
  rw [ho] at m10
  obtain ⟨o1, o2, o3, o4⟩ := m10
  have f8 : Fr S8 σ2 τ2 := m4.tr m5
  have g3 : τ2.1 826 0 0 = nI d := by rw [f8.i (by simp [S8]), f7.i (q56 _ (by omega))]; exact d3
  have fB : Fr (fun c _ => c = 828) τ2 (uI τ2 828 0 (17 * d) (nI o.length)) := Fr.uI rfl
  obtain ⟨τ3, w1, w2, w3, w4, w5⟩ := X8_print_L (kk := fun (s8 : Mem) => (some ((uI s8 826 0 0 (((s8.1 826 0 0) + (1 : Int32)))), (((uI s8 826 0 0 (((s8.1 826 0 0) + (1 : Int32))))).1 818 0 0)))) hd o2 o3 o [] FU (uI τ2 828 0 (17 * d) (nI o.length)) rfl (fu_gt (by omega)) (by rw [fB.i (by decide)]; exact o1) (o4.cg fun j _ => fB.i (by decide) j) (fun j hj => by simp at hj)
  have g4 : τ3.1 826 0 0 = nI d := by rw [w2.i (by decide), fB.i (by decide)]; exact g3
  have g5 : (uI τ3 826 0 0 (nI (d + 1))).1 818 0 0 = nI o.length := by
    simp only [uI_1]
    rw [if_neg (by rintro ⟨w, -⟩; cases w), w2.i (by decide), fB.i (by decide)]
    exact o1
  have hS2 : σ2.1 401 10 0 = nI o.length := by
    rw [v2.i (by decide), fA.i (by omega)]
    exact u3.1
  refine Both.mk' (σ1 := σ2) (σ2 := uI τ3 826 0 0 (nI (d + 1))) (r := nI o.length) ?_ ?_ ?_
  · simp only [X7_print, X7_rowOf_n hr, Option.bind_some]
    rw [spl_some (by omega)]
    rw [show (8 : Int32) = nI 8 from rfl, e7]
    dsimp only [Option.bind_some]
    rw [if_pos rfl, d2, if_pos (by rw [nlt_r (by omega) (by decide)]; exact hd), X2_onSet_n (by decide) hP]
    dsimp only [Option.bind_some]
    rw [X2_outOf_n (by decide) (by omega) hP hT (by omega) hS hl, ho]
    dsimp only [Option.bind_some]
    rw [u1]
    dsimp only [Option.bind_some]
    unfold X2_addDeed
    rw [if_pos (by decide), if_pos (by decide), g2, if_neg (by rw [nle_l (by omega) (by decide)]; omega), X4_pack_n (by decide) u3 (by omega)]
    dsimp only [Option.bind_some]
    rw [ck_n hd (by decide), ncl (by omega), uJ_1, g2, nadd_r]
    show (((X2_takeInk (uI (uJ σ1 201 0 d (lN (pkN o))) 204 0 0 (nI (d + 1))) 0 10 1).bind _).bind _) = _
    rw [v1]
    dsimp only [Option.bind_some]
    rw [hS2]
  · show X8_print _ _ = _
    unfold X8_print
    rw [show (8 : Int32) = nI 8 from rfl, e8 _ (fun j => f7.i (q56 _ (by omega)) j) (fun j => f7.i (q56 _ (by omega)) j)]
    dsimp only [Option.bind_some]
    rw [if_pos (by decide), f7.i (q56 826 (by omega)), d3, if_neg (by rw [neq_r (by omega) (by decide)]; show ¬ d = 40; omega), m1]
    dsimp only [Option.bind_some]
    rw [m2]
    dsimp only [Option.bind_some]
    rw [m3]
    dsimp only [Option.bind_some]
    rw [lt_eq, g3, nmul_l, ck_n (by show 17 * d < 680; omega) (by decide), o1]
    show X8_print_L60 (nI (17 * d)) _ FU (uI τ2 828 0 (nI (17 * d)).toNatClampNeg (nI o.length)) 0 = _
    rw [ncl (by omega)]
    refine w1.trans ?_
    rw [g4, nadd_r]
    show some (uI τ3 826 0 0 (nI (d + 1)), (uI τ3 826 0 0 (nI (d + 1))).1 818 0 0) = _
    rw [g5]
  · have fE : Fr (fun c _ => c = 826 ∨ c = 827 ∨ c = 828 ∨ S8 c 0) σ2 (uI τ3 826 0 0 (nI (d + 1))) := ((f8.mono fun c k q => Or.inr (Or.inr (Or.inr q))).tr (fB.mono fun c k q => Or.inr (Or.inr (Or.inl q)))).tr ((w2.mono fun c k q => by rcases q with q | q; exact Or.inr (Or.inl q); exact Or.inr (Or.inr (Or.inl q))).tr (Fr.uI (Or.inl rfl)))
    have fT : Fr PN σ (uI τ3 826 0 0 (nI (d + 1))) := (f7.mono fun c k q => by
      rcases q with q | ⟨q1, q2⟩
      · exact Or.inr (Or.inl ⟨by omega, by omega, q.2⟩)
      · exact Or.inr (Or.inr (Or.inr (Or.inr (Or.inl ⟨q1, q2⟩))))).tr (fE.mono fun c k q => by
      rcases q with q | q | q | q
      · exact Or.inr (Or.inr (Or.inl (Or.inr (Or.inl q))))
      · exact Or.inr (Or.inr (Or.inl (Or.inr (Or.inr (Or.inl q)))))
      · exact Or.inr (Or.inr (Or.inl (Or.inr (Or.inr (Or.inr q)))))
      · exact Or.inr (Or.inr (Or.inr (S8.scr (k := k) q))))
    have nE : ∀ c, c < 800 → ¬ (c = 826 ∨ c = 827 ∨ c = 828 ∨ S8 c 0) := by
      intro c hc
      simp only [S8, List.mem_cons, List.not_mem_nil, or_false]
      omega
    have low : ∀ c k j, c < 200 → (uI τ3 826 0 0 (nI (d + 1))).1 c k j = σ.1 c k j := by
      intro c k j hc
      rw [fE.i (nE c (by omega)), f7.i (by unfold Prow; omega)]
    have ref : ∀ p k, (uI τ3 826 0 0 (nI (d + 1))).2.2 200 p k = σ.2.2 200 p k := by
      intro p k
      rw [fE.r (nE 200 (by omega)), f7.r (by unfold Prow; omega)]
    have hrf := h.2.2.2.1 0 (by decide)
    refine Rel_now h fT ⟨fun j hj => ?_, fun k l hk hl e => ?_⟩ (fun y hy => ?_) (fun m m8 e1 e2 => ?_)
    · obtain ⟨y, y1, y2, y3⟩ := hrf.1 j hj
      exact ⟨y, by rw [ref]; exact y1, by omega⟩
    · rw [ref, ref] at e
      exact hrf.2 k l hk hl e
    · rw [low 104 y 0 (by omega)]
      exact h.2.2.2.2.1.1 y (by omega)
    · have em : m = n := by rw [h1] at e1; exact ((neq (by omega) (by omega)).mp e1).symm
      subst em
      have t811 : ∀ j, (uI τ3 826 0 0 (nI (d + 1))).1 811 0 j = σ.1 811 0 j := fun j => by
        rw [fE.i (by simp [S8]), f7.i (q56 _ (by omega))]
      obtain ⟨q1, q2⟩ := h2'.law (τ := uI τ3 826 0 0 (nI (d + 1))) (M := fun i => (uI τ3 826 0 0 (nI (d + 1))).1 811 0 i) (fun k => ref 0 k) (fun f x _ _ => low (100 + f) x 0 (by omega)) t811
      refine ⟨?_, ⟨d + 1, by omega, ?_, by simp [uI_1], fun e he => ?_⟩, fun s hs => ?_, q1, q2⟩
      · rw [fE.i (nE 203 (by omega)), f7.i (by unfold Prow; omega)]
        exact p1
      · rw [fE.i (nE 204 (by omega)), v2.i (by decide)]
        simp [uI_1]
      · have ej : (uI τ3 826 0 0 (nI (d + 1))).2.1 201 0 e = if e = d then lN (pkN o) else σ.2.1 201 0 e := by
          rw [fE.j (nE 201 (by omega)), v2.j (by decide), uI_2]
          rw [uJ_2]
          by_cases q : e = d
          · rw [if_pos ⟨rfl, rfl, q⟩, if_pos q]
          · rw [if_neg (by rintro ⟨-, -, w⟩; exact q w), if_neg q, u2.j (by simp [Prow])]
        have t828 : ∀ j, (uI τ3 826 0 0 (nI (d + 1))).1 828 0 j = τ3.1 828 0 j := fun j => by simp [uI_1]
        rw [ej]
        by_cases q : e = d
        · subst q
          rw [if_pos rfl]
          refine ⟨o, o2, o3, rfl, ?_, fun j hj => ?_⟩
          · show (uI τ3 826 0 0 (nI (e + 1))).1 828 0 (17 * e + 0) = _
            rw [t828, Nat.add_zero, w4 _ (by omega)]
            simp [uI_1]
          · show (uI τ3 826 0 0 (nI (e + 1))).1 828 0 (17 * e + (1 + j)) = _
            rw [t828, ← Nat.add_assoc]
            exact w3 j hj
        · rw [if_neg q]
          refine (d4 e (by omega)).cg (fun j hj => ?_)
          show (uI τ3 826 0 0 (nI (d + 1))).1 828 0 (17 * e + j) = _
          have q3 : ¬ 17 * e + j = 17 * d := by omega
          have z8 : τ2.1 828 0 (17 * e + j) = σ.1 828 0 (17 * e + j) := by
            rw [f8.i (by simp [S8]), f7.i (q56 _ (by omega))]
          rw [t828, w4 _ (by omega)]
          simp only [uI_1]
          rw [if_neg (by rintro ⟨-, -, w⟩; exact q3 w)]
          exact z8
      · have i7 : (uI τ3 826 0 0 (nI (d + 1))).1 827 0 s = adN 1 (ctL o s) (σ.1 827 0 s) := by
          have : (uI τ3 826 0 0 (nI (d + 1))).1 827 0 s = τ3.1 827 0 s := by simp [uI_1]
          rw [this, w5 s hs, fB.i (by decide), f8.i (by simp [S8]), f7.i (q56 _ (by omega))]
        show (uI τ3 826 0 0 (nI (d + 1))).1 202 0 s = (uI τ3 826 0 0 (nI (d + 1))).1 827 0 s
        have p7 : σ.1 202 0 s = σ.1 827 0 s := p6 s hs
        rw [i7, fE.i (nE 202 (by omega)), v3 s hs, fA.i (by omega), u2.i (by simp [Prow]), p7]
