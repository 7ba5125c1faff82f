theorem behind_n {σ : Mem} {r i : Nat} {s : List Nat} (hr : r < 11) (hS : RowS σ r s) (hi : i < s.length) : X4_behind σ r (nI i) = some (σ, nI (s.getD (i + 1) 6)) := by
  obtain ⟨s1, s2, s3, s4⟩ := hS
  have h60 := rl_le r
  by_cases e : i + 1 < s.length
  · rw [X4_behind_in hr s1 s2 e, s4 (i + 1) e]
    simp [List.getD_eq_getElem?_getD, List.getElem?_eq_getElem e]
  · rw [X4_behind_out hr s1 (by omega) (by omega) (by omega), List.getD_eq_getElem?_getD, List.getElem?_eq_none (by omega)]
    rfl
theorem cell_n {σ : Mem} {r i : Nat} {s : List Nat} (hr : r < 11) (hS : RowS σ r s) (hi : i < s.length) : X4_cell σ r (nI i) = some (σ, nI (s.getD i 0)) := by
  rw [X4_cell_in hr hS.1 hS.2.1 hi, hS.2.2.2 i hi]
theorem nx7 {s : List Nat} (h : Sg s) (i : Nat) : s.getD (i + 1) 6 < 7 := by
  by_cases e : i + 1 < s.length
  · have := Sg.at (d := 6) h e
    omega
  · rw [List.getD_eq_getElem?_getD, List.getElem?_eq_none (by omega)]
    decide
/-! by -/
theorem op_by {σ : Mem} (h : Rel σ) (a b : Int32) : Both (fun σ => X7_by σ a b) (fun σ => X8_by σ a b) σ := by
  by_cases hb : ¬ 0 ≤ b
  · refine Both.mk' (σ1 := σ) (σ2 := σ) (r := -1) ?_ ?_ h
    · rcases isR a with ⟨a7, a8⟩ | ⟨r, hr, rfl⟩
      · simp only [X7_by, a7, Option.bind_some, spl_none]
      · simp only [X7_by, X7_rowOf_n hr, Option.bind_some]
        rw [spl_some (by omega), if_neg hb]
    · show X8_by _ _ _ = _
      unfold X8_by X8_by_J15
      rw [if_neg hb]
      rfl
  have hb : 0 ≤ b := Classical.not_not.mp hb
  obtain ⟨i, hi2, rfl⟩ : ∃ i, i < 2147483648 ∧ b = nI i := by
    rcases i32_cases b with q | q
    · exact absurd hb (le_neg q)
    · exact q
  rcases isR a with ⟨a7, a8⟩ | ⟨r, hr, rfl⟩
  · refine Both.mk' (σ1 := σ) (σ2 := σ) (r := -1) ?_ ?_ h
    · simp only [X7_by, a7, Option.bind_some, spl_none]
    · show X8_by _ _ _ = _
      unfold X8_by X8_by_J15
      rw [if_pos hb, X8_askedSigns_no (a8 σ)]
      rfl
  rcases asRow h hr (most := 8) (by decide) with ⟨f, f1, f2, e7, e8⟩ | ⟨s, hl, sg, hS, hR, e7, e8⟩
  · refine Both.mk' (σ1 := ans7 σ f) (σ2 := met8 (ans7 σ f) f) (r := -3) ?_ ?_ (Rel_fnd h f f1 f2)
    · simp only [X7_by, X7_rowOf_n hr, Option.bind_some]
      rw [spl_some (by omega), if_pos hb, show (8 : Int32) = nI 8 from rfl, e7]
      rfl
    · show X8_by _ _ _ = _
      unfold X8_by X8_by_J15
      rw [if_pos hb, show (8 : Int32) = nI 8 from rfl, e8 _ (fun j => ans7_i (by decide) (by decide)) (fun j => ans7_i (by decide) (by decide))]
      rfl
  by_cases hi : i < s.length
  · obtain ⟨n, T, hP, hM, hT, hn⟩ := h.laws
    have on := onM_256 (T := T) hn
    obtain ⟨τ1, τ2, m1, m2, m3, m4, m5, m6, m7, m8, m9, m10⟩ := lso hM hT hr hl hR sg
    refine Both.mk' (σ1 := σ) (σ2 := τ1) (r := chI (chs T n (onM T n) (s.getD i 0) (s.getD (i + 1) 6))) ?_ ?_ (Rel_scr h (m4.mono fun _ _ q => q.scr))
    · simp only [X7_by, X7_rowOf_n hr, Option.bind_some]
      rw [spl_some (by omega), if_pos hb, show (8 : Int32) = nI 8 from rfl, e7]
      dsimp only [Option.bind_some]
      rw [if_pos rfl, X4_hasPlace_in (by omega) hS.1 hS.2.1 hi]
      dsimp only [Option.bind_some]
      rw [if_neg one_ne0, cell_n (by omega) hS hi]
      dsimp only [Option.bind_some]
      rw [behind_n (by omega) hS hi]
      dsimp only [Option.bind_some]
      rw [X2_onSet_n (by decide) hP]
      dsimp only [Option.bind_some]
      rw [X2_chosen_n (by decide) hP hT (by omega) (nx7 sg i)]
      rfl
    · show X8_by _ _ _ = _
      unfold X8_by X8_by_J15
      rw [if_pos hb, show (8 : Int32) = nI 8 from rfl, e8 _ (fun j => rfl) (fun j => rfl)]
      dsimp only [Option.bind_some]
      rw [if_pos (by decide), ck_n hr (by decide), ncl (by omega), hR.1, if_pos (by rw [nlt (by omega) (by omega)]; exact hi), m1]
      dsimp only [Option.bind_some]
      rw [m2]
      dsimp only [Option.bind_some]
      rw [X8_lawAt_n m7 hT (by omega) m6 hi]
      rfl
  · refine Both.mk' (σ1 := ans7 σ 2) (σ2 := met8 (ans7 σ 2) 2) (r := -3) ?_ ?_ (Rel_fnd h 2 (by decide) (by decide))
    · simp only [X7_by, X7_rowOf_n hr, Option.bind_some]
      rw [spl_some (by omega), if_pos hb, show (8 : Int32) = nI 8 from rfl, e7]
      dsimp only [Option.bind_some]
      rw [if_pos rfl, X4_hasPlace_out (by omega) hS.1 (by omega) (by omega) hi2]
      dsimp only [Option.bind_some]
      rw [if_pos rfl, an2]
      rfl
    · show X8_by _ _ _ = _
      unfold X8_by X8_by_J15
      rw [if_pos hb, show (8 : Int32) = nI 8 from rfl, e8 _ (fun j => ans7_i (by decide) (by decide)) (fun j => ans7_i (by decide) (by decide))]
      dsimp only [Option.bind_some]
      rw [if_pos (by decide), ck_n hr (by decide), ncl (by omega), ans7_i (by decide) (by decide), hR.1, if_neg (by rw [nlt (by omega) (by omega)]; exact hi), me2]
      rfl
/-! first -/
def fd : List Nat → List Nat → Option Nat
  | [], [] => none
  | a :: s, b :: o => if a = b then (fd s o).map (· + 1) else some 0
  | _, _ => some 0
theorem fd_none : ∀ s o, fd s o = none ↔ s = o := by
  intro s
  induction s with
  | nil => intro o; cases o <;> simp [fd]
  | cons a t ih =>
    intro o
    cases o with
    | nil => simp [fd]
    | cons b u =>
      rw [fd]
      by_cases e : a = b
      · rw [if_pos e]
        simp [ih u, e]
      · rw [if_neg e]
        simp [e]
theorem fd_le : ∀ s o d, fd s o = some d → d ≤ s.length ∧ d ≤ o.length := by
  intro s
  induction s with
  | nil => intro o d h; cases o <;> simp [fd] at h; omega
  | cons a t ih =>
    intro o d h
    cases o with
    | nil => simp [fd] at h; omega
    | cons b u =>
      rw [fd] at h
      by_cases e : a = b
      · rw [if_pos e] at h
        cases q : fd t u with
        | none => rw [q] at h; cases h
        | some d2 =>
          rw [q] at h
          cases h
          have := ih u d2 q
          simp; omega
      · rw [if_neg e] at h; cases h; omega
theorem cell_o {σ : Mem} {r i : Nat} {s : List Nat} (hr : r < 11) (hS : RowS σ r s) (hi : s.length ≤ i) (h2 : i < 100) : X4_cell σ r (nI i) = some (σ, -9) := by
  have := rl_le r
  have := hS.2.1
  exact X4_cell_out hr hS.1 (by omega) hi (by omega)
theorem X7_first_L {σ : Mem} {r N : Nat} {s o : List Nat} {kk : Mem → Option (Mem × Int32)} (hr : r < 11) (hS : RowS σ r s) (hO : RowS σ 10 o) (hN : N = max s.length o.length) : ∀ (c : Nat) (rs ro pre : List Nat) (f : Nat), pre.length + c = N → c < f → s = pre ++ rs → o = pre ++ ro → X7_first_L65 r (nI N) kk f σ (nI pre.length) = match fd rs ro with | none => kk σ | some d => some (σ, nI (pre.length + d)) := by
  have b1 := hS.2.1
  have b2 := hO.2.1
  have b3 := rl_le r
  have b4 := rl_le 10
  intro c
  induction c with
  | zero =>
    intro rs ro pre f hc hf e1 e2
    obtain ⟨g, rfl⟩ : ∃ g, f = g + 1 := ⟨f - 1, by omega⟩
    have l1 : s.length = pre.length + rs.length := by rw [e1]; simp
    have l2 : o.length = pre.length + ro.length := by rw [e2]; simp
    have : rs = [] := List.eq_nil_of_length_eq_zero (by omega)
    subst this
    have : ro = [] := List.eq_nil_of_length_eq_zero (by omega)
    subst this
    rw [X7_first_L65, if_pos (by rw [nle (by omega) (by omega)]; omega)]
    rfl
  | succ c ih =>
    intro rs ro pre f hc hf e1 e2
    obtain ⟨g, rfl⟩ : ∃ g, f = g + 1 := ⟨f - 1, by omega⟩
    have l1 : s.length = pre.length + rs.length := by rw [e1]; simp
    have l2 : o.length = pre.length + ro.length := by rw [e2]; simp
    rw [X7_first_L65, if_neg (by rw [nle (by omega) (by omega)]; omega)]
    cases rs with
    | nil =>
      simp at l1
      rw [cell_o hr hS (by omega) (by omega)]
      dsimp only [Option.bind_some]
      cases ro with
      | nil => simp at l2; omega
      | cons b u =>
        rw [cell_n (by decide) hO (by simp at l2; omega)]
        dsimp only [Option.bind_some]
        have hv := Sg.at (d := 0) hO.2.2.1 (show pre.length < o.length by simp at l2; omega)
        rw [if_neg (fun q => nne_neg (by omega) (by decide) q.symm)]
        rfl
    | cons a t =>
      simp at l1
      have ea : s.getD pre.length 0 = a := by rw [e1, getD_app]
      have hva := Sg.at (d := 0) hS.2.2.1 (show pre.length < s.length by omega)
      rw [cell_n hr hS (by omega), ea]
      dsimp only [Option.bind_some]
      rw [ea] at hva
      cases ro with
      | nil =>
        simp at l2
        rw [cell_o (by decide) hO (by omega) (by omega)]
        dsimp only [Option.bind_some]
        rw [if_neg (nne_neg (by omega) (by decide))]
        rfl
      | cons b u =>
        simp at l2
        have eb : o.getD pre.length 0 = b := by rw [e2, getD_app]
        have hvb := Sg.at (d := 0) hO.2.2.1 (show pre.length < o.length by omega)
        rw [eb] at hvb
        rw [cell_n (by decide) hO (by omega), eb]
        dsimp only [Option.bind_some]
        rw [fd]
        by_cases e : a = b
        · subst e
          rw [if_pos rfl, if_pos rfl, nadd_r]
          have := ih t u (pre ++ [a]) g (by simp; omega) (by omega) (by rw [e1]; simp) (by rw [e2]; simp)
          rw [List.length_append] at this
          refine this.trans ?_
          cases fd t u with
          | none => rfl
          | some d =>
            show some (σ, nI (pre.length + 1 + d)) = some (σ, nI (pre.length + (d + 1)))
            rw [show pre.length + 1 + d = pre.length + (d + 1) by omega]
        · rw [if_neg (by rw [neq (by omega) (by omega)]; exact e), if_neg e]
          rfl
theorem X8_first_L {σ : Mem} {s o : List Nat} {kk : Mem → Int32 → Option (Mem × Int32)} (hS : Sh8 σ s) (hO : Ou8 σ o) : ∀ (d : Nat) (rs ro pre : List Nat) (f : Nat), d < f → s = pre ++ rs → o = pre ++ ro → fd rs ro = some d → X8_first_L39 kk f σ (nI pre.length) = kk σ (nI (pre.length + d)) := by
  have b1 := hS.2.1
  have b2 := hO.2.1
  intro d
  induction d with
  | zero =>
    intro rs ro pre f hf e1 e2 hd
    obtain ⟨g, rfl⟩ : ∃ g, f = g + 1 := ⟨f - 1, by omega⟩
    have l1 : s.length = pre.length + rs.length := by rw [e1]; simp
    have l2 : o.length = pre.length + ro.length := by rw [e2]; simp
    rw [X8_first_L39, hO.1, hS.1]
    cases ro with
    | nil =>
      rw [if_pos (by rw [nle (by omega) (by omega)]; simp at l2; omega)]
      rfl
    | cons b u =>
      simp at l2
      rw [if_neg (by rw [nle (by omega) (by omega)]; omega)]
      cases rs with
      | nil =>
        rw [if_pos (by rw [nle (by omega) (by omega)]; simp at l1; omega)]
        rfl
      | cons a t =>
        simp at l1
        rw [if_neg (by rw [nle (by omega) (by omega)]; omega), ck_n (by omega) (by decide), ck_n (by omega) (by decide), ncl (by omega)]
        have ea : s.getD pre.length 0 = a := by rw [e1, getD_app]
        have eb : o.getD pre.length 0 = b := by rw [e2, getD_app]
        have c1 : σ.1 815 0 pre.length = nI a := by rw [← ea]; exact hS.2.2.2 pre.length (by omega)
        have c2 : σ.1 817 0 pre.length = nI b := by rw [← eb]; exact hO.2.2.2 pre.length (by omega)
        have hva := Sg.at (d := 0) hS.2.2.1 (show pre.length < s.length by omega)
        have hvb := Sg.at (d := 0) hO.2.2.1 (show pre.length < o.length by omega)
        rw [ea] at hva
        rw [eb] at hvb
        rw [fd] at hd
        by_cases e : a = b
        · rw [if_pos e] at hd
          cases q : fd t u with
          | none => rw [q] at hd; cases hd
          | some x => rw [q] at hd; cases hd
        · rw [c1, c2, if_neg (by rw [neq (by omega) (by omega)]; exact fun q => e q.symm)]
          rfl
  | succ d ih =>
    intro rs ro pre f hf e1 e2 hd
    obtain ⟨g, rfl⟩ : ∃ g, f = g + 1 := ⟨f - 1, by omega⟩
    have l1 : s.length = pre.length + rs.length := by rw [e1]; simp
    have l2 : o.length = pre.length + ro.length := by rw [e2]; simp
    have bl := fd_le rs ro _ hd
    cases rs with
    | nil => simp at bl
    | cons a t =>
      cases ro with
      | nil => simp at bl
      | cons b u =>
        simp at l1 l2
        rw [fd] at hd
        by_cases e : a = b
        · subst e
          rw [if_pos rfl] at hd
          have ea : s.getD pre.length 0 = a := by rw [e1, getD_app]
          have eb : o.getD pre.length 0 = a := by rw [e2, getD_app]
          have c1 : σ.1 815 0 pre.length = nI a := by rw [← ea]; exact hS.2.2.2 pre.length (by omega)
          have c2 : σ.1 817 0 pre.length = nI a := by rw [← eb]; exact hO.2.2.2 pre.length (by omega)
          rw [X8_first_L39, hO.1, hS.1, if_neg (by rw [nle (by omega) (by omega)]; omega), if_neg (by rw [nle (by omega) (by omega)]; omega), ck_n (by omega) (by decide), ck_n (by omega) (by decide), ncl (by omega), c1, c2, if_pos rfl, nadd_r]
          cases q : fd t u with
          | none => rw [q] at hd; cases hd
          | some x =>
            rw [q] at hd
            have hx : x = d := by
              have : x + 1 = d + 1 := by simpa using hd
              omega
            subst hx
            have := ih t u (pre ++ [a]) g (by omega) (by rw [e1]; simp) (by rw [e2]; simp) q
            rw [List.length_append] at this
            refine this.trans ?_
            show kk σ (nI (pre.length + 1 + x)) = kk σ (nI (pre.length + (x + 1)))
            rw [show pre.length + 1 + x = pre.length + (x + 1) by omega]
        · rw [if_neg e] at hd; cases hd
theorem lt_eq {α β : Type} (e : α) (f : α → β) : lt_ e f = f e := rfl
theorem max_n {a b : Nat} (ha : a < 2147483648) (hb : b < 2147483648) : (if nI a < nI b then nI b else nI a) = nI (max a b) := by
  by_cases q : a < b
  · rw [if_pos (by rw [nlt ha hb]; exact q), Nat.max_eq_right (by omega)]
  · rw [if_neg (by rw [nlt ha hb]; exact q), Nat.max_eq_left (by omega)]
theorem prow_scr {c k : Nat} (h : Prow 10 c k) : Scr c k := Or.inr (Or.inl h)
theorem op_first {σ : Mem} (h : Rel σ) (a : Int32) : Both (fun σ => X7_first σ a) (fun σ => X8_first σ a) σ := by
  rcases isR a with ⟨a7, a8⟩ | ⟨r, hr, rfl⟩
  · refine Both.mk' (σ1 := σ) (σ2 := σ) (r := -1) ?_ ?_ h
    · simp only [X7_first, a7, Option.bind_some, spl_none]
    · show X8_first _ _ = _
      unfold X8_first
      rw [X8_askedSigns_no (a8 σ)]
      rfl
  rcases asRow h hr (most := 8) (by decide) with ⟨f, f1, f2, e7, e8⟩ | ⟨s, hl, sg, hS, hR, e7, e8⟩
  · refine Both.mk' (σ1 := ans7 σ f) (σ2 := met8 (ans7 σ f) f) (r := -3) ?_ ?_ (Rel_fnd h f f1 f2)
    · simp only [X7_first, X7_rowOf_n hr, Option.bind_some]
      rw [spl_some (by omega)]
      rw [show (8 : Int32) = nI 8 from rfl, e7]
      rfl
    · show X8_first _ _ = _
      unfold X8_first
      rw [show (8 : Int32) = nI 8 from rfl, e8 _ (fun j => ans7_i (by decide) (by decide)) (fun j => ans7_i (by decide) (by decide))]
      rfl
  obtain ⟨n, T, hP, hM, hT, hn⟩ := h.laws
  have on := onM_256 (T := T) hn
  obtain ⟨l1, l2⟩ := outS_len (m := onM T n) hT sg
  obtain ⟨σ1, u1, u2, u3⟩ := X4_unpack_n (σ := σ) (r := 10) (by omega) l2 (by omega)
  have n5 : ¬ Prow 10 805 0 := by simp [Prow]
  have n6 : ¬ Prow 10 806 0 := by simp [Prow]
  have nr : ∀ c, ¬ Prow 10 c r := by intro c; simp [Prow]; omega
  have hS1 : RowS σ1 r s := ⟨by rw [u2.i (nr _)]; exact hS.1, hS.2.1, hS.2.2.1, fun j hj => by rw [u2.i (nr _)]; exact hS.2.2.2 j hj⟩
  obtain ⟨τ1, τ2, m1, m2, m3, m4, m5, m6, m7, m8, m9, m10⟩ := lso (σ := σ1) (hM.fr u2 (by simp [Prow]) (by simp [Prow])) hT hr hl (hR.fr u2 n5 n6) sg
  have hRel : Rel τ2 := Rel_scr h ((u2.mono fun _ _ => prow_scr).tr ((m4.tr m5).mono fun _ _ q => q.scr))
  have q7 : ∀ (res : Int32), (match fd s (outS T n (onM T n) s) with | none => some (σ1, (-9 : Int32)) | some d => some (σ1, nI (0 + d))) = some (σ1, res) → X7_first σ (nI r) = some (σ1, res) := by
    intro res hres
    simp only [X7_first, X7_rowOf_n hr, Option.bind_some]
    rw [spl_some (by omega), show (8 : Int32) = nI 8 from rfl, e7]
    dsimp only [Option.bind_some]
    rw [if_pos rfl, X2_onSet_n (by decide) hP]
    dsimp only [Option.bind_some]
    rw [X2_outOf_n (by decide) (by omega) hP hT (by omega) hS hl]
    dsimp only [Option.bind_some]
    rw [u1, Option.bind_some, lt_eq]
    dsimp only []
    rw [hS1.1, u3.1, max_n (by omega) (by omega)]
    have := X7_first_L (kk := fun s12 => some (s12, (-9 : Int32))) (r := r) (by omega) hS1 u3 rfl (max s.length (outS T n (onM T n) s).length) s (outS T n (onM T n) s) [] FU (by simp) (fu_gt (by omega)) rfl rfl
    have h2 : X7_first_L65 r (nI (max s.length (outS T n (onM T n) s).length)) (fun s12 => some (s12, (-9 : Int32))) FU σ1 (nI ([] : List Nat).length) = some (σ1, res) := by rw [this]; exact hres
    exact h2
  have q8 : ∀ (res : Int32), (match fd s (outS T n (onM T n) s) with | none => some (τ2, (-9 : Int32)) | some d => some (τ2, nI (0 + d))) = some (τ2, res) → X8_first σ1 (nI r) = some (τ2, res) := by
    intro res hres
    unfold X8_first
    rw [show (8 : Int32) = nI 8 from rfl, e8 _ (fun j => u2.i n5 j) (fun j => u2.i n6 j)]
    dsimp only [Option.bind_some]
    rw [if_pos (by decide), m1]
    dsimp only [Option.bind_some]
    rw [m2]
    dsimp only [Option.bind_some]
    rw [m3]
    dsimp only [Option.bind_some]
    rw [X8_isAsWritten_n m10 m8]
    dsimp only [Option.bind_some]
    cases q : fd s (outS T n (onM T n) s) with
    | none =>
      have := (fd_none _ _).mp q
      rw [q] at hres
      rw [if_neg]
      · exact hres
      · simp [this.symm, bI]
    | some d =>
      have ne : ¬ outS T n (onM T n) s = s := fun w => by
        rw [(fd_none _ _).mpr w.symm] at q; cases q
      rw [q] at hres
      rw [if_pos (by simp [ne, bI])]
      have bl := fd_le _ _ _ q
      have := X8_first_L (kk := fun s8 y => some (s8, y)) m8 m10 d s (outS T n (onM T n) s) [] FU (fu_gt (by omega)) rfl rfl q
      have h2 : X8_first_L39 (fun s8 y => some (s8, y)) FU τ2 (nI ([] : List Nat).length) = some (τ2, res) := by rw [this]; exact hres
      exact h2
  cases q : fd s (outS T n (onM T n) s) with
  | none => exact Both.mk' (r := -9) (q7 _ (by rw [q])) (q8 _ (by rw [q])) hRel
  | some d => exact Both.mk' (r := nI (0 + d)) (q7 _ (by rw [q])) (q8 _ (by rw [q])) hRel
