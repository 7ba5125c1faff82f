/-! rests -/
theorem gD_app {α : Type} {pre : List α} {a d : α} {t : List α} : (pre ++ a :: t).getD pre.length d = a := by simp [List.getD_eq_getElem?_getD]
theorem gD_lt {α : Type} {l t : List α} {j : Nat} {d : α} (h : j < l.length) : (l ++ t).getD j d = l.getD j d := by
  simp [List.getD_eq_getElem?_getD, List.getElem?_append_left h]
def idxF : List (List Nat) → List Nat → Nat → Option Nat
  | [], _, _ => none
  | a :: t, x, i => if a = x then some i else idxF t x (i + 1)
theorem idxF_lt : ∀ (l : List (List Nat)) (x : List Nat) (i d : Nat), idxF l x i = some d → d < i + l.length := by
  intro l
  induction l with
  | nil => intro x i d h; cases h
  | cons a t ih =>
    intro x i d h
    rw [idxF] at h
    by_cases e : a = x
    · rw [if_pos e] at h; cases h; simp
    · rw [if_neg e] at h
      have := ih x (i + 1) d h
      simp; omega
theorem idxF_no {x : List Nat} : ∀ (l : List (List Nat)) (i : Nat), (∀ y ∈ l, y.length ≤ 8) → 8 < x.length → idxF l x i = none := by
  intro l
  induction l with
  | nil => intros; rfl
  | cons a t ih =>
    intro i h hx
    have h1 := h a (by simp)
    rw [idxF, if_neg (by rintro rfl; omega)]
    exact ih (i + 1) (fun y hy => h y (by simp [hy])) hx
def rsF (T : Nat → Nat → Int32) (n m : Nat) : Nat → List (List Nat) → List Nat → Option (Nat × Nat)
  | 0, _, _ => none
  | c + 1, hist, x => match idxF hist x 0 with
    | some i => some (i, hist.length - i)
    | none => if x.length ≤ 8 then rsF T n m c (hist ++ [x]) (outS T n m x) else none
def HOK (hist : List (List Nat)) : Prop := ∀ x ∈ hist, Sg x ∧ x.length ≤ 8
theorem HOK.sn {hist : List (List Nat)} {x : List Nat} (h : HOK hist) (h1 : Sg x) (h2 : x.length ≤ 8) : HOK (hist ++ [x]) := fun y hy => by
  rcases List.mem_append.mp hy with q | q
  · exact h y q
  · simp at q; subst q; exact ⟨h1, h2⟩
def H7 (σ : Mem) (hist : List (List Nat)) : Prop := ∀ j, j < hist.length → σ.2.1 710 0 j = lN (pkN (hist.getD j []))
theorem X7_placeSeen_L {σ : Mem} {hist : List (List Nat)} {x : List Nat} {kk : Mem → Option (Mem × Int32)} (hH : H7 σ hist) (ho : HOK hist) (sx : Sg x) (h16 : x.length ≤ 16) (hl : hist.length ≤ 61) : ∀ (rest pre : List (List Nat)) (f : Nat), hist = pre ++ rest → rest.length < f → X7_placeSeen_L3 (lN (pkN x)) (nI hist.length) kk f σ (nI pre.length) = match idxF rest x pre.length with | none => kk σ | some d => some (σ, nI d) := by
  intro rest
  induction rest with
  | nil =>
    intro pre f he hf
    obtain ⟨g, rfl⟩ : ∃ g, f = g + 1 := ⟨f - 1, by omega⟩
    have : hist.length = pre.length := by rw [he]; simp
    rw [X7_placeSeen_L3, if_pos (by rw [nle (by omega) (by omega)]; omega)]
    rfl
  | cons a t ih =>
    intro pre f he hf
    obtain ⟨g, rfl⟩ : ∃ g, f = g + 1 := ⟨f - 1, by omega⟩
    have hlen : hist.length = pre.length + (t.length + 1) := by rw [he]; simp
    have ea : hist.getD pre.length [] = a := by rw [he, gD_app]
    have hc := hH pre.length (by omega)
    rw [ea] at hc
    obtain ⟨o1, o2⟩ := ho a (by rw [he]; simp)
    rw [X7_placeSeen_L3, if_neg (by rw [nle (by omega) (by omega)]; omega), if_neg (by rw [nle_l (by omega) (by decide)]; omega), ck_n (by omega) (by decide), ncl (by omega), hc, idxF]
    by_cases e : a = x
    · rw [if_pos ((pk_eq2 o1 sx (by omega) h16).mpr e), if_pos e]
    · rw [if_neg (fun q => e ((pk_eq2 o1 sx (by omega) h16).mp q)), if_neg e, nadd_r]
      have := ih (pre ++ [a]) g (by rw [he]; simp) (by simp at hf; omega)
      rw [List.length_append] at this
      exact this
theorem X7_placeSeen_n {σ : Mem} {hist : List (List Nat)} {x : List Nat} (hH : H7 σ hist) (ho : HOK hist) (sx : Sg x) (h16 : x.length ≤ 16) (hl : hist.length ≤ 61) : X7_placeSeen σ (lN (pkN x)) (nI hist.length) = some (σ, chI (idxF hist x 0)) := by
  unfold X7_placeSeen
  have := X7_placeSeen_L (kk := fun s3 => some (s3, (-9 : Int32))) hH ho sx h16 hl hist [] FU rfl (fu_gt (by omega))
  have h2 : X7_placeSeen_L3 (lN (pkN x)) (nI hist.length) (fun s3 => some (s3, (-9 : Int32))) FU σ (nI ([] : List (List Nat)).length) = some (σ, chI (idxF hist x 0)) := by
    rw [this]
    show (match idxF hist x 0 with | none => _ | some d => _) = _
    cases idxF hist x 0 <;> rfl
  exact h2
theorem X7_rests_L {n m : Nat} {T : Nat → Nat → Int32} (hT : TV T n) (hm : m < 2147483648) : ∀ (c f : Nat) (σ : Mem) (hist : List (List Nat)) (cur : List Nat), c < f → hist.length + c = 61 → 1 ≤ hist.length → PL σ 0 n T → RowS σ 10 cur → cur.length ≤ 8 → H7 σ hist → HOK hist → ∃ τ, X7_rests_L59 (nI m) (fun s12 => some (s12, (-6 : Int32))) f σ (nI hist.length) = (match rsF T n m c hist (outS T n m cur) with | some q => some (uI τ 713 0 0 (nI q.2), nI q.1) | none => some (τ, -6)) ∧ Fr Scr σ τ := by
  intro c
  induction c with
  | zero =>
    intro f σ hist cur hf he h1 hP hS h8 hH ho
    obtain ⟨g, rfl⟩ : ∃ g, f = g + 1 := ⟨f - 1, by omega⟩
    refine ⟨σ, ?_, Fr.rf⟩
    rw [X7_rests_L59, if_pos (by rw [nlt_l (by omega) (by decide)]; omega)]
    rfl
  | succ c ih =>
    intro f σ hist cur hf he h1 hP hS h8 hH ho
    obtain ⟨g, rfl⟩ : ∃ g, f = g + 1 := ⟨f - 1, by omega⟩
    obtain ⟨l1, l2⟩ := outS_len (m := m) hT hS.2.2.1
    rw [X7_rests_L59, if_neg (by rw [nlt_l (by omega) (by decide)]; omega), X2_outOf_n (by decide) (by decide) hP hT hm hS h8]
    dsimp only [Option.bind_some]
    rw [X7_placeSeen_n hH ho l2 (by omega) (by omega)]
    dsimp only [Option.bind_some]
    rw [rsF]
    cases q : idxF hist (outS T n m cur) 0 with
    | some i =>
      have hi := idxF_lt _ _ _ _ q
      refine ⟨σ, ?_, Fr.rf⟩
      rw [show chI (some i) = nI i from rfl, if_neg (nne_neg (by omega) (by decide)), nsub (by omega)]
    | none =>
      rw [show chI none = -9 from rfl, if_pos rfl]
      obtain ⟨σ1, u1, u2, u3⟩ := X4_unpack_n (σ := σ) (r := 10) (by omega) l2 (by omega)
      rw [u1]
      dsimp only [Option.bind_some]
      rw [u3.1]
      by_cases e : (outS T n m cur).length ≤ 8
      · rw [if_pos (by rw [nle_r (by omega) (by decide)]; exact e), if_pos e, ck_n (by omega) (by decide), ncl (by omega), nadd_r]
        have fr : Fr Scr σ1 (uJ σ1 710 0 hist.length (lN (pkN (outS T n m cur)))) := Fr.uJ (by simp [Scr])
        obtain ⟨τ, t1, t2⟩ := ih g (uJ σ1 710 0 hist.length (lN (pkN (outS T n m cur)))) (hist ++ [outS T n m cur]) (outS T n m cur) (by omega) (by simp; omega) (by simp) ((hP.row u2).fr (P := fun c k => c = 710) (Fr.uJ rfl) (by decide) (by decide) (by intro g x hg; omega)) (u3.fr (P := fun c k => c = 710) (Fr.uJ rfl) (by decide) (by decide)) e (fun j hj => by
          simp at hj
          by_cases w : j = hist.length
          · subst w; rw [gD_app]; simp [uJ_2]
          · rw [gD_lt (by omega), ← hH j (by omega)]
            simp only [uJ_2]
            rw [if_neg (by rintro ⟨-, -, y⟩; exact w y), u2.j (by simp [Prow])]) (ho.sn l2 e)
        rw [List.length_append] at t1
        exact ⟨τ, t1, ((u2.mono fun _ _ => prow_scr).tr fr).tr t2⟩
      · rw [if_neg (by rw [nle_r (by omega) (by decide)]; exact e), if_neg e]
        exact ⟨σ1, rfl, u2.mono fun _ _ => prow_scr⟩
/-! the model's -/
def H8 (σ : Mem) (hist : List (List Nat)) : Prop := ∀ j, j < hist.length → σ.1 819 0 j = nI (hist.getD j []).length ∧ ∀ k, k < (hist.getD j []).length → σ.1 820 0 (8 * j + k) = nI ((hist.getD j []).getD k 0)
theorem X8_isAsCame_L {σ : Mem} {i N : Nat} {kk : Mem → Int32 → Option (Mem × Int32)} (hi : i < 61) (hN : N ≤ 8) (h1 : σ.1 816 0 0 = nI N) : ∀ (c k f : Nat), c < f → k + c = N → X8_isAsCame_L21 (nI i) kk f σ 1 (nI k) = kk σ (bI (eqF (fun j => σ.1 820 0 (8 * i + j)) (fun j => σ.1 815 0 j) c k)) := by
  intro c
  induction c with
  | zero =>
    intro k f hf he
    obtain ⟨g, rfl⟩ : ∃ g, f = g + 1 := ⟨f - 1, by omega⟩
    rw [X8_isAsCame_L21, h1, if_pos (by rw [nle (by omega) (by omega)]; omega)]
    rfl
  | succ c ih =>
    intro k f hf he
    obtain ⟨g, rfl⟩ : ∃ g, f = g + 1 := ⟨f - 1, by omega⟩
    have e8 : (8 : Int32) * nI i + nI k = nI (8 * i + k) := by rw [nmul_l, nadd]
    rw [X8_isAsCame_L21, h1, if_neg (by rw [nle (by omega) (by omega)]; omega), if_neg one_ne0, e8, ck_n (by omega) (by decide), ck_n (by omega) (by decide), ncl (by omega), ncl (by omega), eqF]
    by_cases e : σ.1 820 0 (8 * i + k) = σ.1 815 0 k
    · rw [if_pos e, if_pos e, nadd_r]
      exact ih (k + 1) g (by omega) (by omega)
    · rw [if_neg e, if_neg e, bI_f]
      obtain ⟨g, rfl⟩ : ∃ g', g = g' + 1 := ⟨g - 1, by omega⟩
      rw [X8_isAsCame_L21]
      split
      · rfl
      · rw [if_pos rfl]
theorem X8_isAsCame_n {σ : Mem} {i : Nat} {hist : List (List Nat)} {s : List Nat} (hH : H8 σ hist) (ho : HOK hist) (hS : Sh8 σ s) (hi : i < hist.length) (h61 : hist.length ≤ 61) : X8_isAsCame σ (nI i) = some (σ, bI (decide (hist.getD i [] = s))) := by
  obtain ⟨s1, s2, s3, s4⟩ := hS
  obtain ⟨g1, g2⟩ := hH i hi
  have hm : hist.getD i [] ∈ hist := by
    rw [List.getD_eq_getElem?_getD, List.getElem?_eq_getElem hi]
    exact List.getElem_mem hi
  obtain ⟨o1, o2⟩ := ho _ hm
  unfold X8_isAsCame
  rw [ck_n (by omega) (by decide), ncl (by omega), g1, s1]
  by_cases e : (hist.getD i []).length = s.length
  · rw [if_pos (by rw [e])]
    have := X8_isAsCame_L (kk := fun s y => if y = 0 ∨ y = 1 then some (s, y) else none) (i := i) (by omega) s2 s1 s.length 0 FU (fu_gt (by omega)) (by omega)
    have h2 : X8_isAsCame_L21 (nI i) (fun s y => if y = 0 ∨ y = 1 then some (s, y) else none) FU σ 1 (nI 0) = some (σ, bI (decide (hist.getD i [] = s))) := by
      rw [this, bI_ok, ← e, eqF_cel (l := hist.getD i []) (fun j hj => g2 j hj) s4 o1 s3 e]
    exact h2
  · have ne : ¬ hist.getD i [] = s := fun q => e (by rw [q])
    rw [if_neg (by rw [neq (by omega) (by omega)]; exact e)]
    rw [show FU = 99999 + 1 from rfl, X8_isAsCame_L21]
    have : bI (decide (hist.getD i [] = s)) = 0 := by rw [decide_eq_false ne]; rfl
    rw [this]
    split
    · rfl
    · rw [if_pos rfl]; rfl
theorem X8_rests_L30_n {σ : Mem} {hist : List (List Nat)} {x : List Nat} {kk : Mem → Option (Mem × Int32)} (hH : H8 σ hist) (ho : HOK hist) (hS : Sh8 σ x) (hl : hist.length ≤ 61) : ∀ (rest pre : List (List Nat)) (f : Nat), hist = pre ++ rest → rest.length < f → X8_rests_L30 (nI hist.length) kk f σ (nI pre.length) = match idxF rest x pre.length with | none => kk σ | some d => some (uI σ 802 0 0 (nI (hist.length - d)), nI d) := by
  intro rest
  induction rest with
  | nil =>
    intro pre f he hf
    obtain ⟨g, rfl⟩ : ∃ g, f = g + 1 := ⟨f - 1, by omega⟩
    have : hist.length = pre.length := by rw [he]; simp
    rw [X8_rests_L30, if_pos (by rw [nle (by omega) (by omega)]; omega)]
    rfl
  | cons a t ih =>
    intro pre f he hf
    obtain ⟨g, rfl⟩ : ∃ g, f = g + 1 := ⟨f - 1, by omega⟩
    have hlen : hist.length = pre.length + (t.length + 1) := by rw [he]; simp
    have ea : hist.getD pre.length [] = a := by rw [he, gD_app]
    rw [X8_rests_L30, if_neg (by rw [nle (by omega) (by omega)]; omega), X8_isAsCame_n hH ho hS (by omega) hl, ea, idxF]
    dsimp only [Option.bind_some]
    by_cases e : a = x
    · rw [if_neg (by simp [e, bI]), if_pos e, nsub (by omega)]
      rfl
    · rw [if_pos (by simp [e, bI]), if_neg e, nadd_r]
      have := ih (pre ++ [a]) g (by rw [he]; simp) (by simp at hf; omega)
      rw [List.length_append] at this
      exact this
theorem X8_rests_L75_n {N : Nat} {s : List Nat} {kk : Mem → Option (Mem × Int32)} (hN : N < 61) (h8 : s.length ≤ 8) : ∀ (c i f : Nat) (σ : Mem), c < f → i + c = s.length → σ.1 816 0 0 = nI s.length → Cel (fun j => σ.1 815 0 j) s → (∀ j, j < i → σ.1 820 0 (8 * N + j) = nI (s.getD j 0)) → ∃ τ, X8_rests_L75 (nI N) kk f σ (nI i) = kk τ ∧ Fr (fun c _ => c = 820) σ τ ∧ Cel (fun j => τ.1 820 0 (8 * N + j)) s ∧ ∀ x, x < 8 * N → τ.1 820 0 x = σ.1 820 0 x := by
  intro c
  induction c with
  | zero =>
    intro i f σ hf he h1 hO hC
    obtain ⟨g, rfl⟩ : ∃ g, f = g + 1 := ⟨f - 1, by omega⟩
    refine ⟨σ, ?_, Fr.rf, fun j hj => hC j (by omega), fun _ _ => rfl⟩
    rw [X8_rests_L75, h1, if_pos (by rw [nle (by omega) (by omega)]; omega)]
  | succ c ih =>
    intro i f σ hf he h1 hO hC
    obtain ⟨g, rfl⟩ : ∃ g, f = g + 1 := ⟨f - 1, by omega⟩
    have fr : Fr (fun c _ => c = 820) σ (uI σ 820 0 (8 * N + i) (nI (s.getD i 0))) := Fr.uI rfl
    obtain ⟨τ, t1, t2, t3, t4⟩ := ih (i + 1) g (uI σ 820 0 (8 * N + i) (nI (s.getD i 0))) (by omega) (by omega) (by rw [fr.i (by decide)]; exact h1) (hO.cg fun j _ => fr.i (by decide) j) (fun j hj => by
      by_cases e : j = i
      · subst e; simp [uI_1]
      · simp only [uI_1]
        rw [if_neg (by rintro ⟨-, -, q⟩; omega)]
        exact hC j (by omega))
    refine ⟨τ, ?_, fr.tr t2, t3, fun x hx => ?_⟩
    · have cc : σ.1 815 0 i = nI (s.getD i 0) := hO i (by omega)
      have e8 : (8 : Int32) * nI N + nI i = nI (8 * N + i) := by rw [nmul_l, nadd]
      rw [X8_rests_L75, h1, if_neg (by rw [nle (by omega) (by omega)]; omega), ck_n (by omega) (by decide), e8, ck_n (by omega) (by decide), ncl (by omega), ncl (by omega), cc, nadd_r]
      exact t1
    · rw [t4 x hx]
      simp only [uI_1]
      rw [if_neg (by rintro ⟨-, -, q⟩; omega)]
theorem X8_rests_L {n : Nat} {T : Nat → Nat → Int32} (hT : TV T n) (hn : n ≤ 8) : ∀ (c f : Nat) (σ : Mem) (hist : List (List Nat)) (cur : List Nat), c < f → hist.length + c = 61 → ML8 σ n T → Sh8 σ cur → H8 σ hist → HOK hist → ∃ τ, X8_rests_L21 (fun s16 => some (s16, (-6 : Int32))) f σ (nI hist.length) = (match rsF T n (onM T n) c hist cur with | some q => some (uI τ 802 0 0 (nI q.2), nI q.1) | none => some (τ, -6)) ∧ Fr S8 σ τ := by
  have on := onM_256 (T := T) hn
  intro c
  induction c with
  | zero =>
    intro f σ hist cur hf he hM hS hH ho
    obtain ⟨g, rfl⟩ : ∃ g, f = g + 1 := ⟨f - 1, by omega⟩
    refine ⟨σ, ?_, Fr.rf⟩
    rw [X8_rests_L21, if_pos (by rw [nlt_l (by omega) (by decide)]; omega)]
    rfl
  | succ c ih =>
    intro f σ hist cur hf he hM hS hH ho
    obtain ⟨g, rfl⟩ : ∃ g, f = g + 1 := ⟨f - 1, by omega⟩
    rw [X8_rests_L21, if_neg (by rw [nlt_l (by omega) (by decide)]; omega), rsF]
    have L30 := fun kk => X8_rests_L30_n (kk := kk) hH ho hS (by omega) hist [] FU rfl (fu_gt (by omega))
    rw [show (0 : Int32) = nI ([] : List (List Nat)).length from rfl, L30]
    rw [show ([] : List (List Nat)).length = 0 from rfl]
    cases q : idxF hist cur 0 with
    | some i => exact ⟨σ, rfl, Fr.rf⟩
    | none =>
      have b8 := hS.2.1
      dsimp only []
      rw [if_pos b8, ck_n (by omega) (by decide), ncl (by omega), hS.1]
      have fr0 : Fr (fun c _ => c = 819) σ (uI σ 819 0 hist.length (nI cur.length)) := Fr.uI rfl
      have hS0 : Sh8 (uI σ 819 0 hist.length (nI cur.length)) cur := hS.fr fr0 (by decide) (by decide)
      obtain ⟨τ0, z1, z2, z3, z4⟩ := X8_rests_L75_n (N := hist.length) (kk := fun s10 => (X8_onSet s10).bind fun q11 => (X8_setBy q11.1 q11.2).bind fun q12 => if (q12.1.1 818 0 0) ≤ (8 : Int32) then ((X8_outToSheet q12.1).bind fun q13 => X8_rests_L21 (fun s16 => some (s16, (-6 : Int32))) g q13.1 ((nI hist.length + (1 : Int32)))) else (some (q12.1, (-6 : Int32)))) (by omega) b8 cur.length 0 FU _ (fu_gt (by omega)) (by omega) hS0.1 hS0.2.2.2 (fun j hj => by omega)
      refine Exists.elim (p := fun τ => ((X8_onSet τ0).bind fun q11 => (X8_setBy q11.1 q11.2).bind fun q12 => if (q12.1.1 818 0 0) ≤ (8 : Int32) then ((X8_outToSheet q12.1).bind fun q13 => X8_rests_L21 (fun s16 => some (s16, (-6 : Int32))) g q13.1 ((nI hist.length + (1 : Int32)))) else (some (q12.1, (-6 : Int32)))) = (match rsF T n (onM T n) c (hist ++ [cur]) (outS T n (onM T n) cur) with | some q => some (uI τ 802 0 0 (nI q.2), nI q.1) | none => some (τ, -6)) ∧ Fr S8 σ τ) ?_ (fun τ hτ => ⟨τ, (by
        exact z1.trans hτ.1), hτ.2⟩)
      have fr1 : Fr S8 σ τ0 := (fr0.mono (by intro c k q; simp [S8]; omega)).tr (z2.mono (by intro c k q; simp [S8]; omega))
      have m0 : ML8 τ0 n T := hM.s8 fr1
      have s0 : Sh8 τ0 cur := hS0.fr z2 (by decide) (by decide)
      obtain ⟨τ2, c1, c2, c3⟩ := X8_setBy_n m0 hT (m := onM T n) (by omega) s0
      have fr2 : Fr S8 σ τ2 := fr1.tr (c2.mono fun _ _ => s8_78)
      have b16 := c3.2.1
      rw [X8_onSet_n m0]
      dsimp only [Option.bind_some]
      rw [c1]
      dsimp only [Option.bind_some]
      rw [c3.1]
      by_cases e : (outS T n (onM T n) cur).length ≤ 8
      · rw [if_pos (by rw [nle_r (by omega) (by decide)]; exact e)]
        obtain ⟨τ3, d1, d2, d3⟩ := X8_outToSheet_n c3 e
        have fr3 : Fr S8 σ τ3 := fr2.tr (d2.mono fun _ _ => s8_56)
        have hH3 : H8 τ3 (hist ++ [cur]) := fun j hj => by
          have k20 : ∀ x, τ3.1 820 0 x = τ0.1 820 0 x := fun x => by rw [d2.i (by decide), c2.i (by simp [P78])]
          have k19 : ∀ x, τ3.1 819 0 x = (uI σ 819 0 hist.length (nI cur.length)).1 819 0 x := fun x => by rw [d2.i (by decide), c2.i (by simp [P78]), z2.i (by decide)]
          simp at hj
          by_cases w : j = hist.length
          · subst w
            rw [gD_app, k19]
            exact ⟨by simp [uI_1], fun k hk => by rw [k20]; exact z3 k hk⟩
          · obtain ⟨g1, g2⟩ := hH j (by omega)
            have hm : hist.getD j [] ∈ hist := by
              rw [List.getD_eq_getElem?_getD, List.getElem?_eq_getElem (show j < hist.length by omega)]
              exact List.getElem_mem _
            have o2 := (ho _ hm).2
            rw [gD_lt (by omega), k19]
            refine ⟨?_, fun k hk => ?_⟩
            · simp only [uI_1]
              rw [if_neg (by rintro ⟨-, -, y⟩; exact w y)]
              exact g1
            · rw [k20, z4 _ (by omega), fr0.i (by decide)]
              exact g2 k hk
        obtain ⟨τ, t1, t2⟩ := ih g τ3 (hist ++ [cur]) _ (by omega) (by simp; omega) (hM.s8 fr3) d3 hH3 (ho.sn hS.2.2.1 b8)
        refine ⟨τ, ?_, fr3.tr t2⟩
        rw [d1, Option.bind_some, nadd_r]
        rw [List.length_append] at t1
        exact t1
      · rw [if_neg (by rw [nle_r (by omega) (by decide)]; exact e)]
        refine ⟨τ2, ?_, fr2⟩
        cases c with
        | zero => rfl
        | succ c =>
          rw [rsF, idxF_no _ _ (fun y hy => ((ho.sn hS.2.2.1 b8) y hy).2) (by omega)]
          dsimp only []
          rw [if_neg e]
theorem op_rests {σ : Mem} (h : Rel σ) (a : Int32) : Both (fun σ => X7_rests σ a) (fun σ => X8_rests σ a) σ := by
  rcases isR a with ⟨a7, a8⟩ | ⟨r, hr, rfl⟩
  · refine Both.mk' (σ1 := σ) (σ2 := σ) (r := -1) ?_ ?_ h
    · simp only [X7_rests, a7, Option.bind_some, spl_none]
    · show X8_rests _ _ = _
      unfold X8_rests
      rw [X8_askedSigns_no (a8 σ)]
      rfl
  rcases asRow h hr (most := 8) (by decide) with ⟨f, f1, f2, e7, e8⟩ | ⟨s, hl, sg, hS, hR, e7, e8⟩
  · refine Both.mk' (σ1 := ans7 σ f) (σ2 := met8 (ans7 σ f) f) (r := -3) ?_ ?_ (Rel_fnd h f f1 f2)
    · simp only [X7_rests, X7_rowOf_n hr, Option.bind_some]
      rw [spl_some (by omega)]
      rw [show (8 : Int32) = nI 8 from rfl, e7]
      rfl
    · show X8_rests _ _ = _
      unfold X8_rests
      rw [show (8 : Int32) = nI 8 from rfl, e8 _ (fun j => ans7_i (by decide) (by decide)) (fun j => ans7_i (by decide) (by decide))]
      rfl
  obtain ⟨n, T, hP, hM, hT, hn⟩ := h.laws
  have on := onM_256 (T := T) hn
  have fJ : Fr (fun c _ => c = 710) σ (uJ σ 710 0 0 (lN (pkN s))) := Fr.uJ rfl
  obtain ⟨σ1, u1, u2, u3⟩ := X4_unpack_n (σ := uJ σ 710 0 0 (lN (pkN s))) (r := 10) (by omega) sg (by omega)
  have fr1 : Fr Scr σ σ1 := (fJ.mono (by intro c k q; simp [Scr]; omega)).tr (u2.mono fun _ _ => prow_scr)
  have hP1 : PL σ1 0 n T := (hP.fr fJ (by decide) (by decide) (by intro g x hg; omega)).row u2
  obtain ⟨σ2, v1, v2⟩ := X7_rests_L hT (m := onM T n) (by omega) 60 FU σ1 [s] s (by decide) (by simp) (by simp) hP1 u3 hl (fun j hj => by
    simp at hj; subst hj
    rw [u2.j (by simp [Prow])]
    simp [uJ_2]) (fun x hx => by simp at hx; subst hx; exact ⟨sg, hl⟩)
  have q7 : X7_rests σ (nI r) = X7_rests_L59 (nI (onM T n)) (fun s12 => some (s12, (-6 : Int32))) FU σ1 (nI 1) := by
    simp only [X7_rests, X7_rowOf_n hr, Option.bind_some]
    rw [spl_some (by omega), show (8 : Int32) = nI 8 from rfl, e7]
    dsimp only [Option.bind_some]
    rw [if_pos rfl, X2_onSet_n (by decide) hP]
    dsimp only [Option.bind_some]
    rw [X4_pack_n (by omega) hS (by omega)]
    dsimp only [Option.bind_some]
    have e0 : (0 : Int32).toNatClampNeg = 0 := rfl
    rw [e0, show ck (0 : Int32) 61 = ck (nI 0) 61 from rfl, ck_n (by decide) (by decide), ck_n (by decide) (by decide)]
    have e1 : (uJ σ 710 0 0 (lN (pkN s))).2.1 710 0 0 = lN (pkN s) := by simp [uJ_2]
    rw [e1, u1, Option.bind_some]
    rfl
  have key : ∀ (σ3 : Mem), Fr Scr σ2 σ3 ∨ (∃ v, σ3 = uI σ2 713 0 0 v) → ∃ τ, X8_rests σ3 (nI r) = (match rsF T n (onM T n) 61 [] s with | some q => some (uI τ 802 0 0 (nI q.2), nI q.1) | none => some (τ, -6)) ∧ Fr S8 σ3 τ := by
    intro σ3 hf
    have f3 : Fr ScA σ σ3 := by
      refine ((fr1.tr v2).mono fun _ _ => scA).tr ?_
      rcases hf with hf | ⟨v, rfl⟩
      · exact hf.mono fun _ _ => scA
      · exact Fr.uI (Or.inr (by decide))
    have i5 : ¬ ScA 805 0 := by simp [ScA, Scr]
    have i6 : ¬ ScA 806 0 := by simp [ScA, Scr]
    obtain ⟨τ1, a1, a2, a3⟩ := X8_laySheet_n hr hl (hR.fr f3 i5 i6) sg
    have a2' : Fr S8 σ3 τ1 := a2.mono fun _ _ => s8_56
    obtain ⟨τ, t1, t2⟩ := X8_rests_L hT hn 61 FU τ1 [] s (by decide) (by simp) ((hM.fr f3 (by simp [ScA, Scr]) (by simp [ScA, Scr])).s8 a2') a3 (fun j hj => by simp at hj) (fun x hx => by simp at hx)
    refine ⟨τ, ?_, a2'.tr t2⟩
    unfold X8_rests
    rw [show (8 : Int32) = nI 8 from rfl, e8 _ (fun j => f3.i i5 j) (fun j => f3.i i6 j)]
    dsimp only [Option.bind_some]
    rw [if_pos (by decide), a1, Option.bind_some]
    exact t1
  have e60 : rsF T n (onM T n) 61 [] s = rsF T n (onM T n) 60 [s] (outS T n (onM T n) s) := by
    rw [rsF]
    show (if s.length ≤ 8 then _ else _) = _
    rw [if_pos hl]
    rfl
  rw [e60] at key
  cases hq : rsF T n (onM T n) 60 [s] (outS T n (onM T n) s) with
  | none =>
    rw [hq] at v1 key
    obtain ⟨τ, k1, k2⟩ := key σ2 (Or.inl Fr.rf)
    exact Both.mk' (r := -6) (q7.trans v1) k1 (Rel_scr h ((fr1.tr v2).tr (k2.mono fun _ _ q => q.scr)))
  | some q =>
    rw [hq] at v1 key
    obtain ⟨τ, k1, k2⟩ := key (uI σ2 713 0 0 (nI q.2)) (Or.inr ⟨_, rfl⟩)
    refine Both.mk' (r := nI q.1) (q7.trans v1) k1 ?_
    have hR2 := Rel_scr h (fr1.tr v2)
    have hR3 := Rel_scr (Rel_tol hR2 (nI q.2)) (τ := uI τ 802 0 0 (nI q.2)) ?_
    · exact hR3
    · intro c k hn2
      have := k2 c k (fun w => hn2 w.scr)
      refine ⟨?_, ?_, ?_⟩
      · funext j
        simp only [uI_1, tol]
        have w := congrFun this.1 j
        simp only [uI_1] at w
        by_cases g : c = 802 ∧ k = 0 ∧ j = 0
        · rw [if_pos g, if_pos g]
        · rw [if_neg g, if_neg g]; exact w
      · exact this.2.1
      · exact this.2.2
