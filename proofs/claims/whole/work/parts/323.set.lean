/-! a model's row is written -/
def Wr (σ τ : Mem) (r : Nat) : Prop := Fr (fun c _ => c = 806) σ τ ∧ ∀ x, ¬ (40 * r ≤ x ∧ x < 40 * r + 40) → τ.1 806 0 x = σ.1 806 0 x
theorem Wr.rf {σ : Mem} {r : Nat} : Wr σ σ r := ⟨Fr.rf, fun _ _ => rfl⟩
theorem Wr.tr {σ τ υ : Mem} {r : Nat} (h1 : Wr σ τ r) (h2 : Wr τ υ r) : Wr σ υ r := ⟨h1.1.tr h2.1, fun x hx => (h2.2 x hx).trans (h1.2 x hx)⟩
theorem Wr.st {σ : Mem} {r i : Nat} {v : Int32} (hr : r < 6) (hi : i < 40) : Wr σ (uI σ 806 0 (40 * r + i) v) r := ⟨Fr.uI rfl, fun x hx => by
  simp only [uI_1]
  rw [if_neg (by rintro ⟨-, -, q⟩; omega)]⟩
def RwTo (σ τ : Mem) (r : Nat) (o : List Nat) : Prop := Fr (fun c _ => c = 805 ∨ c = 806) σ τ ∧ (∀ r2, r2 < 6 → r2 ≠ r → τ.1 805 0 r2 = σ.1 805 0 r2) ∧ (∀ r2, r2 < 6 → r2 ≠ r → ∀ j, j < 40 → τ.1 806 0 (40 * r2 + j) = σ.1 806 0 (40 * r2 + j)) ∧ Rw8 τ r o
theorem RwTo.mk2 {σ τ : Mem} {r n : Nat} {o : List Nat} (hr : r < 6) (hn : n = o.length) (hl : o.length ≤ 40) (w : Wr (fz (uI σ 805 0 r (nI n)) 806 (40 * r) (40 * r + 40) 0) τ r) (c : Cel (fun j => τ.1 806 0 (40 * r + j)) o) : RwTo σ τ r o := by
  subst hn
  have f1 : Fr (fun c _ => c = 805 ∨ c = 806) σ (fz (uI σ 805 0 r (nI o.length)) 806 (40 * r) (40 * r + 40) 0) := (Fr.uI (Or.inl rfl)).tr (fz_fr (Or.inr rfl))
  refine ⟨f1.tr (w.1.mono fun _ _ => Or.inr), fun r2 h2 e => ?_, fun r2 h2 e j hj => ?_, ?_, hl, c⟩
  · rw [w.1.i (by decide)]
    simp [fz, aI_1, uI_1, e]
  · rw [w.2 _ (by omega)]
    have : ¬ (40 * r ≤ 40 * r2 + j ∧ 40 * r2 + j < 40 * r + 40) := by omega
    simp only [fz, aI_1, uI_1]
    simp [this]
  · rw [w.1.i (by decide)]
    simp [fz, aI_1, uI_1]
def S8 (c _k : Nat) : Prop := c ∈ [807, 812, 813, 814, 815, 816, 817, 818, 819, 820, 821, 822, 823, 824, 825, 830]
theorem S8.scr {c k : Nat} (h : S8 c k) : Scr c k := Or.inl (by
  unfold S8 at h
  simp only [List.mem_cons, List.not_mem_nil, or_false] at h ⊢
  omega)
theorem X8_outToRow_L {r : Nat} {o : List Nat} {kk : Mem → Option (Mem × Int32)} (hr : r < 6) (h8 : o.length ≤ 16) : ∀ (c i f : Nat) (σ : Mem), c < f → i + c = o.length → σ.1 818 0 0 = nI o.length → Cel (fun j => σ.1 817 0 j) o → (∀ j, j < i → σ.1 806 0 (40 * r + j) = nI (o.getD j 0)) → ∃ τ, X8_outToRow_L12 (nI r) kk f σ (nI i) = kk τ ∧ Wr σ τ r ∧ Cel (fun j => τ.1 806 0 (40 * r + j)) o := by
  intro c
  induction c with
  | zero =>
    intro i f σ hf he h1 hO hC
    obtain ⟨g, rfl⟩ : ∃ g, f = g + 1 := ⟨f - 1, by omega⟩
    refine ⟨σ, ?_, Wr.rf, fun j hj => hC j (by omega)⟩
    rw [X8_outToRow_L12, h1, if_pos (by rw [nle (by omega) (by omega)]; omega)]
  | succ c ih =>
    intro i f σ hf he h1 hO hC
    obtain ⟨g, rfl⟩ : ∃ g, f = g + 1 := ⟨f - 1, by omega⟩
    have fr : Fr (fun c _ => c = 806) σ (uI σ 806 0 (40 * r + i) (nI (o.getD i 0))) := Fr.uI rfl
    obtain ⟨τ, t1, t2, t3⟩ := ih (i + 1) g (uI σ 806 0 (40 * r + i) (nI (o.getD i 0))) (by omega) (by omega) (by rw [fr.i (by decide)]; exact h1) (hO.cg fun j _ => fr.i (by decide) j) (fun j hj => by
      by_cases e : j = i
      · subst e; simp [uI_1]
      · simp only [uI_1]
        rw [if_neg (by rintro ⟨-, -, q⟩; omega)]
        exact hC j (by omega))
    refine ⟨τ, ?_, (Wr.st hr (by omega)).tr t2, t3⟩
    have cc : σ.1 817 0 i = nI (o.getD i 0) := hO i (by omega)
    rw [X8_outToRow_L12, h1, if_neg (by rw [nle (by omega) (by omega)]; omega), ck_n (by omega) (by decide), ncl (by omega), cc, X8_setRow_n (by omega)]
    dsimp only [Option.bind_some]
    rw [nadd_r]
    exact t1
theorem X8_sheetToRow_L {r : Nat} {o : List Nat} {kk : Mem → Option (Mem × Int32)} (hr : r < 6) (h8 : o.length ≤ 8) : ∀ (c i f : Nat) (σ : Mem), c < f → i + c = o.length → σ.1 816 0 0 = nI o.length → Cel (fun j => σ.1 815 0 j) o → (∀ j, j < i → σ.1 806 0 (40 * r + j) = nI (o.getD j 0)) → ∃ τ, X8_sheetToRow_L12 (nI r) kk f σ (nI i) = kk τ ∧ Wr σ τ r ∧ Cel (fun j => τ.1 806 0 (40 * r + j)) o := by
  intro c
  induction c with
  | zero =>
    intro i f σ hf he h1 hO hC
    obtain ⟨g, rfl⟩ : ∃ g, f = g + 1 := ⟨f - 1, by omega⟩
    refine ⟨σ, ?_, Wr.rf, fun j hj => hC j (by omega)⟩
    rw [X8_sheetToRow_L12, h1, if_pos (by rw [nle (by omega) (by omega)]; omega)]
  | succ c ih =>
    intro i f σ hf he h1 hO hC
    obtain ⟨g, rfl⟩ : ∃ g, f = g + 1 := ⟨f - 1, by omega⟩
    have fr : Fr (fun c _ => c = 806) σ (uI σ 806 0 (40 * r + i) (nI (o.getD i 0))) := Fr.uI rfl
    obtain ⟨τ, t1, t2, t3⟩ := ih (i + 1) g (uI σ 806 0 (40 * r + i) (nI (o.getD i 0))) (by omega) (by omega) (by rw [fr.i (by decide)]; exact h1) (hO.cg fun j _ => fr.i (by decide) j) (fun j hj => by
      by_cases e : j = i
      · subst e; simp [uI_1]
      · simp only [uI_1]
        rw [if_neg (by rintro ⟨-, -, q⟩; omega)]
        exact hC j (by omega))
    refine ⟨τ, ?_, (Wr.st hr (by omega)).tr t2, t3⟩
    have cc : σ.1 815 0 i = nI (o.getD i 0) := hO i (by omega)
    rw [X8_sheetToRow_L12, h1, if_neg (by rw [nle (by omega) (by omega)]; omega), ck_n (by omega) (by decide), ncl (by omega), cc, X8_setRow_n (by omega)]
    dsimp only [Option.bind_some]
    rw [nadd_r]
    exact t1
theorem X8_believed_L {r : Nat} {o : List Nat} {kk : Mem → Option (Mem × Int32)} (hr : r < 6) (h8 : o.length ≤ 16) : ∀ (c i f : Nat) (σ : Mem), c < f → i + c = o.length → σ.1 823 0 0 = nI o.length → Cel (fun j => σ.1 822 0 j) o → (∀ j, j < i → σ.1 806 0 (40 * r + j) = nI (o.getD j 0)) → ∃ τ, X8_believed_L120 (nI r) kk f σ (nI i) = kk τ ∧ Wr σ τ r ∧ Cel (fun j => τ.1 806 0 (40 * r + j)) o := by
  intro c
  induction c with
  | zero =>
    intro i f σ hf he h1 hO hC
    obtain ⟨g, rfl⟩ : ∃ g, f = g + 1 := ⟨f - 1, by omega⟩
    refine ⟨σ, ?_, Wr.rf, fun j hj => hC j (by omega)⟩
    rw [X8_believed_L120, h1, if_pos (by rw [nle (by omega) (by omega)]; omega)]
  | succ c ih =>
    intro i f σ hf he h1 hO hC
    obtain ⟨g, rfl⟩ : ∃ g, f = g + 1 := ⟨f - 1, by omega⟩
    have fr : Fr (fun c _ => c = 806) σ (uI σ 806 0 (40 * r + i) (nI (o.getD i 0))) := Fr.uI rfl
    obtain ⟨τ, t1, t2, t3⟩ := ih (i + 1) g (uI σ 806 0 (40 * r + i) (nI (o.getD i 0))) (by omega) (by omega) (by rw [fr.i (by decide)]; exact h1) (hO.cg fun j _ => fr.i (by decide) j) (fun j hj => by
      by_cases e : j = i
      · subst e; simp [uI_1]
      · simp only [uI_1]
        rw [if_neg (by rintro ⟨-, -, q⟩; omega)]
        exact hC j (by omega))
    refine ⟨τ, ?_, (Wr.st hr (by omega)).tr t2, t3⟩
    have cc : σ.1 822 0 i = nI (o.getD i 0) := hO i (by omega)
    rw [X8_believed_L120, h1, if_neg (by rw [nle (by omega) (by omega)]; omega), ck_n (by omega) (by decide), ncl (by omega), cc, X8_setRow_n (by omega)]
    dsimp only [Option.bind_some]
    rw [nadd_r]
    exact t1
theorem X8_outToRow_n {σ : Mem} {r : Nat} {o : List Nat} (hr : r < 6) (hO : Ou8 σ o) : ∃ τ, X8_outToRow σ (nI r) = some (τ, nI o.length) ∧ RwTo σ τ r o := by
  obtain ⟨o1, o2, o3, o4⟩ := hO
  have f1 : Fr (fun c _ => c = 805 ∨ c = 806) σ (fz (uI σ 805 0 r (nI o.length)) 806 (40 * r) (40 * r + 40) 0) := (Fr.uI (Or.inl rfl)).tr (fz_fr (Or.inr rfl))
  obtain ⟨τ, t1, t2, t3⟩ := X8_outToRow_L (kk := fun s5 => some (s5, s5.1 818 0 0)) hr o2 o.length 0 FU _ (fu_gt (by omega)) (by omega) (by rw [f1.i (by decide)]; exact o1) (o4.cg fun j _ => f1.i (by decide) j) (fun j hj => by omega)
  refine ⟨τ, ?_, RwTo.mk2 hr rfl (by omega) t2 t3⟩
  have e1 : τ.1 818 0 0 = nI o.length := by rw [t2.1.i (by decide), f1.i (by decide), o1]
  rw [e1] at t1
  unfold X8_outToRow
  rw [o1, X8_row_n hr (by omega), Option.bind_some]
  exact t1
theorem X8_sheetToRow_n {σ : Mem} {r : Nat} {o : List Nat} (hr : r < 6) (hO : Sh8 σ o) : ∃ τ, X8_sheetToRow σ (nI r) = some (τ, nI o.length) ∧ RwTo σ τ r o := by
  obtain ⟨o1, o2, o3, o4⟩ := hO
  have f1 : Fr (fun c _ => c = 805 ∨ c = 806) σ (fz (uI σ 805 0 r (nI o.length)) 806 (40 * r) (40 * r + 40) 0) := (Fr.uI (Or.inl rfl)).tr (fz_fr (Or.inr rfl))
  obtain ⟨τ, t1, t2, t3⟩ := X8_sheetToRow_L (kk := fun s5 => some (s5, s5.1 816 0 0)) hr o2 o.length 0 FU _ (fu_gt (by omega)) (by omega) (by rw [f1.i (by decide)]; exact o1) (o4.cg fun j _ => f1.i (by decide) j) (fun j hj => by omega)
  refine ⟨τ, ?_, RwTo.mk2 hr rfl (by omega) t2 t3⟩
  have e1 : τ.1 816 0 0 = nI o.length := by rw [t2.1.i (by decide), f1.i (by decide), o1]
  rw [e1] at t1
  unfold X8_sheetToRow
  rw [o1, X8_row_n hr (by omega), Option.bind_some]
  exact t1
/-- both write the row -/
theorem Rel_rowS {σ σ1 σ2 σ3 : Mem} {r : Nat} {o : List Nat} (h : Rel σ) (hr : r < 6) (f1 : Fr (fun c k => Prow r c k ∨ Scr c k) σ σ1) (hS : RowS σ1 r o) (f2 : Fr S8 σ1 σ2) (w : RwTo σ2 σ3 r o) : Rel σ3 := by
  have f2' : Fr (fun c k => ((c = 400 ∨ c = 401) ∧ k = r) ∨ c = 805 ∨ c = 806 ∨ Scr c k) σ1 σ2 := f2.mono fun c k q => Or.inr (Or.inr (Or.inr q.scr))
  have f3' : Fr (fun c k => ((c = 400 ∨ c = 401) ∧ k = r) ∨ c = 805 ∨ c = 806 ∨ Scr c k) σ2 σ3 := w.1.mono fun c k q => by rcases q with q | q; exact Or.inr (Or.inl q); exact Or.inr (Or.inr (Or.inl q))
  have f1' : Fr (fun c k => ((c = 400 ∨ c = 401) ∧ k = r) ∨ c = 805 ∨ c = 806 ∨ Scr c k) σ σ1 := f1.mono fun c k q => by rcases q with q | q; exact Or.inl q; exact Or.inr (Or.inr (Or.inr q))
  have n5 : ¬ (Prow r 805 0 ∨ Scr 805 0) := by simp [Prow, Scr]
  have n6 : ¬ (Prow r 806 0 ∨ Scr 806 0) := by simp [Prow, Scr]
  refine Rel_row h hr ((f1'.tr f2').tr f3') (fun r2 h2 e => ?_) (fun r2 h2 e j hj => ?_) ?_
  · rw [w.2.1 r2 h2 e, f2.i (by simp [S8]), f1.i n5]
  · rw [w.2.2.1 r2 h2 e j hj, f2.i (by simp [S8]), f1.i n6]
  · have h10 : ¬ r = 10 := by omega
    have m4 : ∀ c, c = 400 ∨ c = 401 → ¬ S8 c r := by intro c hc; simp [S8]; omega
    refine Or.inr ⟨o.length, w.2.2.2.2.1, ?_, w.2.2.2.1, fun j hj => ?_⟩
    · rw [w.1.i (by decide), f2.i (m4 401 (Or.inr rfl))]; exact hS.1
    · rw [w.1.i (by decide), f2.i (m4 400 (Or.inl rfl)), hS.2.2.2 j hj]
      exact (w.2.2.2.2.2 j hj).symm
/-! which row, what laws -/
theorem X8_isRow_r {σ : Mem} {r : Nat} (hr : r < 6) : X8_isRow σ (nI r) = some (σ, 1) := by rw [X8_isRow_n (by omega), if_pos hr]
theorem isR (a : Int32) : ((∀ σ : Mem, X7_rowOf σ a = some (σ, none)) ∧ ∀ σ : Mem, X8_isRow σ a = some (σ, 0)) ∨ ∃ r, r < 6 ∧ a = nI r := by
  rcases ix3 a 6 with ha | ⟨k, h1, h2, rfl⟩ | ⟨r, hr, -, rfl⟩
  · exact Or.inl ⟨fun σ => X7_rowOf_neg ha, fun σ => X8_isRow_neg ha⟩
  · exact Or.inl ⟨fun σ => X7_rowOf_big h1 h2, fun σ => by rw [X8_isRow_n h2, if_neg (by omega)]⟩
  · exact Or.inr ⟨r, hr, rfl⟩
theorem X8_askedSigns_no {σ : Mem} {a b : Int32} (h : X8_isRow σ a = some (σ, 0)) : X8_askedSigns σ a b = some (σ, -1) := by
  unfold X8_askedSigns X8_askedRow
  rw [h]
  rfl
theorem Rel.laws {σ : Mem} (h : Rel σ) : ∃ n T, PL σ 0 n T ∧ ML8 σ n T ∧ TV T n ∧ n ≤ 8 := by
  obtain ⟨-, -, n, hn, h1, h2, -⟩ := h.2.2.2
  exact ⟨n, fun k f => σ.1 811 0 (5 * k + f), h2.pl (by decide) hn, ⟨h1, hn, fun k _ f _ => rfl⟩, LawV_TV (LM := fun i => σ.1 811 0 i) h2.2.2.2.2, hn⟩
theorem PL.fr {P : Nat → Nat → Prop} {σ τ : Mem} {p n : Nat} {T : Nat → Nat → Int32} (h : PL σ p n T) (f : Fr P σ τ) (h1 : ¬ P 203 p) (h2 : ¬ P 200 p) (h3 : ∀ g x, g < 5 → ¬ P (100 + g) x) : PL τ p n T := ⟨by rw [f.i h1]; exact h.1, h.2.1, fun k hk => by
  obtain ⟨x, x1, x2, x3⟩ := h.2.2 k hk
  exact ⟨x, by rw [f.r h2]; exact x1, x2, fun g hg => by rw [f.i (h3 g x hg)]; exact x3 g hg⟩⟩
theorem lso {σ : Mem} {n r : Nat} {T : Nat → Nat → Int32} {s : List Nat} (hM : ML8 σ n T) (hT : TV T n) (hr : r < 6) (h8 : s.length ≤ 8) (hR : Rw8 σ r s) (hs : Sg s) : ∃ τ1 τ2, X8_laySheet σ (nI r) = some (τ1, ()) ∧ X8_onSet τ1 = some (τ1, nI (onM T n)) ∧ X8_setBy τ1 (nI (onM T n)) = some (τ2, ()) ∧ Fr S8 σ τ1 ∧ Fr S8 τ1 τ2 ∧ Sh8 τ1 s ∧ ML8 τ1 n T ∧ Sh8 τ2 s ∧ ML8 τ2 n T ∧ Ou8 τ2 (outS T n (onM T n) s) := by
  obtain ⟨τ1, a1, a2, a3⟩ := X8_laySheet_n hr h8 hR hs
  have m1 : ML8 τ1 n T := hM.fr a2 (by decide) (by decide)
  have on := onM_256 (T := T) hM.2.1
  obtain ⟨τ2, c1, c2, c3⟩ := X8_setBy_n m1 hT (m := onM T n) (by omega) a3
  refine ⟨τ1, τ2, a1, X8_onSet_n m1, c1, a2.mono ?_, c2.mono ?_, a3, m1, a3.fr c2 (by simp [P78]) (by simp [P78]), m1.fr c2 (by simp [P78]) (by simp [P78]), c3⟩
  · intro c k q; rcases q with rfl | rfl <;> simp [S8]
  · intro c k q; rcases q with rfl | rfl <;> simp [S8]
theorem outS_len {T : Nat → Nat → Int32} {n m : Nat} {s : List Nat} (hT : TV T n) (hs : Sg s) : (outS T n m s).length ≤ 2 * s.length ∧ Sg (outS T n m s) := outS_ok hT s hs
/-! set -/
theorem op_set {σ : Mem} (h : Rel σ) (a b : Int32) : Both (fun σ => X7_set σ a b) (fun σ => X8_set σ a b) σ := by
  rcases isR a with ⟨a7, a8⟩ | ⟨r, hr, rfl⟩
  · refine Both.mk' (σ1 := σ) (σ2 := σ) (r := -1) ?_ ?_ h
    · simp only [X7_set, a7, Option.bind_some, spl_none]
      rcases isR b with ⟨b7, b8⟩ | ⟨t, ht, rfl⟩
      · simp only [b7, Option.bind_some, spl_none]
      · simp only [X7_rowOf_n ht, Option.bind_some]
        rw [spl_some (by omega)]
    · show X8_set _ _ _ = _
      unfold X8_set X8_set_J18
      rcases isR b with ⟨b7, b8⟩ | ⟨t, ht, rfl⟩
      · rw [b8]
        rfl
      · rw [X8_isRow_r ht]
        dsimp only [Option.bind_some]
        rw [if_neg one_ne0, X8_askedSigns_no (a8 σ)]
        rfl
  · rcases isR b with ⟨b7, b8⟩ | ⟨t, ht, rfl⟩
    · refine Both.mk' (σ1 := σ) (σ2 := σ) (r := -1) ?_ ?_ h
      · simp only [X7_set, X7_rowOf_n hr, b7, Option.bind_some, spl_none]
        rw [spl_some (by omega)]
      · show X8_set _ _ _ = _
        unfold X8_set X8_set_J18
        rw [b8]
        rfl
    · rcases asRow h hr (most := 8) (by decide) with ⟨f, f1, f2, e7, e8⟩ | ⟨s, hl, sg, hS, hR, e7, e8⟩
      · refine Both.mk' (σ1 := ans7 σ f) (σ2 := met8 (ans7 σ f) f) (r := -3) ?_ ?_ (Rel_fnd h f f1 f2)
        · simp only [X7_set, X7_rowOf_n hr, X7_rowOf_n ht, Option.bind_some]
          rw [spl_some (by omega), spl_some (by omega)]
          rw [show (8 : Int32) = nI 8 from rfl, e7]
          rfl
        · show X8_set _ _ _ = _
          unfold X8_set X8_set_J18
          rw [X8_isRow_r ht]
          dsimp only [Option.bind_some]
          rw [if_neg one_ne0, show (8 : Int32) = nI 8 from rfl, e8 _ (fun j => ans7_i (by decide) (by decide)) (fun j => ans7_i (by decide) (by decide))]
          rfl
      · obtain ⟨n, T, hP, hM, hT, hn⟩ := h.laws
        have on := onM_256 (T := T) hn
        obtain ⟨l1, l2⟩ := outS_len (m := onM T n) hT sg
        obtain ⟨σ1, u1, u2, u3⟩ := X4_unpack_n (σ := σ) (r := t) (by omega) l2 (by omega)
        have n5 : ¬ Prow t 805 0 := by simp [Prow]
        have n6 : ¬ Prow t 806 0 := by simp [Prow]
        obtain ⟨τ1, τ2, m1, m2, m3, m4, m5, m6, m7, m8, m9, m10⟩ := lso (σ := σ1) (hM.fr u2 (by simp [Prow]) (by simp [Prow])) hT hr hl (hR.fr u2 n5 n6) sg
        obtain ⟨τ3, w1, w2⟩ := X8_outToRow_n ht m10
        refine Both.mk' (σ1 := σ1) (σ2 := τ3) (r := nI (outS T n (onM T n) s).length) ?_ ?_ (Rel_rowS h ht (u2.mono fun _ _ => Or.inl) u3 (m4.tr m5) w2)
        · simp only [X7_set, X7_rowOf_n hr, X7_rowOf_n ht, Option.bind_some]
          rw [spl_some (by omega), spl_some (by omega)]
          rw [show (8 : Int32) = nI 8 from rfl, e7]
          dsimp only [Option.bind_some]
          rw [if_pos rfl, X2_onSet_n (by decide) hP]
          dsimp only [Option.bind_some]
          rw [X2_outOf_n (by decide) (by omega) hP hT (by omega) hS hl]
          dsimp only [Option.bind_some]
          rw [u1]
          dsimp only [Option.bind_some]
          rw [u3.1]
        · show X8_set _ _ _ = _
          unfold X8_set X8_set_J18
          rw [X8_isRow_r ht]
          dsimp only [Option.bind_some]
          rw [if_neg one_ne0, show (8 : Int32) = nI 8 from rfl, e8 _ (fun j => u2.i n5 j) (fun j => u2.i n6 j)]
          dsimp only [Option.bind_some]
          rw [if_pos (by decide), m1]
          dsimp only [Option.bind_some]
          rw [m2]
          dsimp only [Option.bind_some]
          rw [m3]
          dsimp only [Option.bind_some]
          rw [w1]
          rfl
