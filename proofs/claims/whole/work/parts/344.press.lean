/-! fault, press -/
theorem PCl.scr {c k : Nat} (h : PCl c k) : Scr c k := by
  rcases h with ⟨rfl, rfl⟩ | ⟨h1, h2, h3, h4⟩
  · exact Or.inl (by decide)
  · exact Or.inr (Or.inr (Or.inl ⟨h1, h2, h3⟩))
theorem PMr.scr {c k : Nat} (h : PMr c k) : Scr c k := by
  rcases h with rfl | rfl | rfl <;> exact Or.inl (by decide)
theorem prs_1 {g : Nat → Int32} {m : Nat} (hm : m ≤ 60) : ∀ (c i : Nat) (l : List (Nat → Int32)), (prs g m c i l).1 = -9 ∨ ∃ j, j < 1000 ∧ (prs g m c i l).1 = nI j := by
  intro c
  induction c with
  | zero => intro i l; exact Or.inl rfl
  | succ c ih =>
    intro i l
    rw [prs]
    by_cases hi : i < m
    · rw [if_pos hi]
      by_cases hb : g i = 32
      · rw [if_pos hb]; exact ih (i + 1) l
      · rw [if_neg hb]
        cases hk : kdO (g i) with
        | none => exact Or.inr ⟨i, by omega, rfl⟩
        | some kd =>
          dsimp only
          by_cases hl : l.length < 8
          · rw [if_pos hl]
            cases hf : fltF g m i (sgn kd) 1 with
            | some j =>
              have := fltF_some (sgn kd) 1 hf
              have := (sgn_le kd).2
              exact Or.inr ⟨j, by omega, rfl⟩
            | none => exact ih _ _
          · rw [if_neg hl]; exact Or.inr ⟨i, by omega, rfl⟩
    · rw [if_neg hi]; exact Or.inl rfl
def LwOK (w : Nat → Int32) : Prop := ∃ kd x : Nat, kd < 6 ∧ x < 6 ∧ w 0 = nI kd ∧ w 1 = nI x ∧ ((kd = 1 ∧ w 2 = -9) ∨ (kd ≠ 1 ∧ ∃ y, y < 6 ∧ w 2 = nI y)) ∧ (((kd = 3 ∨ kd = 4) ∧ ∃ z, z < 6 ∧ w 3 = nI z) ∨ (¬ (kd = 3 ∨ kd = 4) ∧ w 3 = -9))
theorem lwI_ok {g : Nat → Int32} {m i kd : Nat} (k6 : kd < 6) (h : fltF g m i (sgn kd) 1 = none) : LwOK (lwI g m i kd) := by
  have nf := fltF_none (sgn kd) 1 h
  obtain ⟨n1, n3⟩ := sgn_le kd
  obtain ⟨x, x1, x2, -⟩ := sgA_in (nf 1 (by omega) (by omega))
  have l1 : lwI g m i kd 1 = sgA g m (i + 1) := rfl
  have l2 : lwI g m i kd 2 = if 1 < sgn kd then sgA g m (i + 2) else -9 := rfl
  have l3 : lwI g m i kd 3 = if 2 < sgn kd then sgA g m (i + 3) else -9 := rfl
  refine ⟨kd, x, k6, x1, rfl, by rw [l1]; exact x2, ?_, ?_⟩
  · by_cases w : kd = 1
    · refine Or.inl ⟨w, ?_⟩
      have : sgn kd = 1 := by unfold sgn; rw [if_pos w]
      rw [l2, if_neg (by omega)]
    · refine Or.inr ⟨w, ?_⟩
      have e : 1 < sgn kd := by unfold sgn; rw [if_neg w]; split <;> omega
      obtain ⟨y, y1, y2, -⟩ := sgA_in (nf 2 (by omega) (by omega))
      exact ⟨y, y1, by rw [l2, if_pos e]; exact y2⟩
  · by_cases w : kd = 3 ∨ kd = 4
    · refine Or.inl ⟨w, ?_⟩
      have e : sgn kd = 3 := by unfold sgn; rw [if_neg (by omega), if_pos w]
      obtain ⟨y, y1, y2, -⟩ := sgA_in (nf 3 (by omega) (by omega))
      exact ⟨y, y1, by rw [l3, if_pos (by omega)]; exact y2⟩
    · refine Or.inr ⟨w, ?_⟩
      have e : sgn kd ≤ 2 := by unfold sgn; split <;> (try split) <;> omega
      rw [l3, if_neg (by omega)]
theorem prs_2 {g : Nat → Int32} {m : Nat} : ∀ (c i : Nat) (l : List (Nat → Int32)), (∀ w ∈ l, LwOK w) → ∀ w ∈ (prs g m c i l).2, LwOK w := by
  intro c
  induction c with
  | zero => intro i l h; exact h
  | succ c ih =>
    intro i l h
    rw [prs]
    by_cases hi : i < m
    · rw [if_pos hi]
      by_cases hb : g i = 32
      · rw [if_pos hb]; exact ih (i + 1) l h
      · rw [if_neg hb]
        cases hk : kdO (g i) with
        | none => exact h
        | some kd =>
          dsimp only
          by_cases hl : l.length < 8
          · rw [if_pos hl]
            cases hf : fltF g m i (sgn kd) 1 with
            | some j => exact h
            | none =>
              refine ih _ _ (fun w hw => ?_)
              rcases List.mem_append.mp hw with q | q
              · exact h w q
              · simp at q
                rw [q]
                exact lwI_ok (kdO_lt hk) hf
          · rw [if_neg hl]; exact h
    · rw [if_neg hi]; exact h
/-- a text, or none such -/
theorem isT (a : Int32) : ((∀ σ : Mem, X7_textOf σ a = some (σ, none)) ∧ ∀ σ : Mem, X8_askedText σ a = some (σ, -1)) ∨ ∃ t, t < 4 ∧ a = nI t := by
  rcases ix3 a 4 with ha | ⟨k, h1, h2, rfl⟩ | ⟨t, ht, -, rfl⟩
  · exact Or.inl ⟨fun σ => X7_textOf_neg ha, fun σ => X8_askedText_neg ha⟩
  · exact Or.inl ⟨fun σ => X7_textOf_big h1 h2, fun σ => X8_askedText_big h1 h2⟩
  · exact Or.inr ⟨t, ht, rfl⟩
theorem op_fault {σ : Mem} (h : Rel σ) (a : Int32) : Both (fun σ => X7_fault σ a) (fun σ => X8_fault σ a) σ := by
  have bad : ∀ {σ τ : Mem} {v : Int32}, X8_askedText σ a = some (τ, v) → v < 0 → X8_fault σ a = some (τ, v) := by
    intro σ τ v h1 hv
    unfold X8_fault
    rw [h1, Option.bind_some]
    show (if 0 ≤ v then _ else _) = _
    rw [if_neg (le_neg hv)]
  rcases isT a with ⟨a7, a8⟩ | ⟨t, ht, rfl⟩
  · refine Both.mk' (σ1 := σ) (σ2 := σ) (r := -1) ?_ (bad (a8 σ) (by decide)) h
    simp only [X7_fault, a7, Option.bind_some, spl_none]
  have hrl := rl_t ht
  rcases h.2.2.1 t ht with ⟨s1, s2⟩ | ⟨m, hm, s1, s2, sc⟩
  · refine Both.mk' (σ1 := ans7 σ 1) (σ2 := met8 (ans7 σ 1) 1) (r := -3) ?_ (bad (X8_askedText_no ht (by rw [ans7_i (by decide) (by decide)]; exact s2)) (by decide)) (Rel_fnd h 1 (by decide) (by decide))
    simp only [X7_fault, X7_textOf_n ht, Option.bind_some]
    rw [spl_some (by omega), X4_isThere_no (by omega) s1, Option.bind_some]
    show (if (0 : Int32) = 0 then _ else _) = _
    rw [if_pos rfl, an1]
    rfl
  obtain ⟨σ1, u1, u2, u3⟩ := X3_read_n (r := 6 + t) (g := fun j => σ.1 809 0 (60 * t + j)) (by omega) hm (by omega) s1 sc
  have q8 : ∀ c k, 400 ≤ c → ¬ PCl c k := by intro c k hc; unfold PCl; omega
  obtain ⟨σ2, v1, v2, v3⟩ := X8_goesOn_n (τ := σ1) (g := fun j => σ.1 809 0 (60 * t + j)) ht ⟨by rw [u2.i (q8 _ _ (by omega))]; exact s2, hm, fun j _ => u2.i (q8 _ _ (by omega)) _⟩
  refine Both.mk' (σ1 := σ1) (σ2 := σ2) (r := (prs (fun j => σ.1 809 0 (60 * t + j)) m 61 0 []).1) ?_ ?_ (Rel_scr h ((u2.mono fun _ _ q => q.scr).tr (v2.mono fun _ _ q => q.scr)))
  · simp only [X7_fault, X7_textOf_n ht, Option.bind_some]
    rw [spl_some (by omega), X4_isThere_n (by omega) s1 (by omega), Option.bind_some]
    show (if (1 : Int32) = 0 then _ else _) = _
    rw [if_neg one_ne0]
    show (X3_read σ (6 + t)).bind _ = _
    rw [u1]
    rfl
  · show X8_fault _ _ = _
    unfold X8_fault
    rw [X8_askedText_n ht (n := m) (by rw [u2.i (q8 _ _ (by omega))]; exact s2) hm, Option.bind_some]
    show (if 0 ≤ (0 : Int32) then _ else _) = _
    rw [if_pos (by decide)]
    show (X8_goesOn σ1 (nI t)).bind _ = _
    rw [v1]
    rfl
theorem X2_begin_L {n : Nat} {kk : Mem → Option (Mem × Unit)} (hn : n ≤ 8) : ∀ (c i f : Nat) (σ : Mem), c < f → i + c = n → Refs σ 0 → σ.1 203 0 0 = nI n → (∀ j, 32 ≤ j → j < 40 → σ.1 104 j 0 = 0) → ∃ τ, X2_begin_L18 0 kk f σ (nI i) = kk τ ∧ Fr (Plw 0) σ τ ∧ (∀ k x, i ≤ k → k < n → σ.2.2 200 0 k = some x → ∀ f, f < 5 → τ.1 (100 + f) x 0 = σ.1 (100 + f) (32 + k) 0) ∧ ∀ k x, k < 8 → (k < i ∨ n ≤ k) → σ.2.2 200 0 k = some x → ∀ f, f < 5 → τ.1 (100 + f) x 0 = σ.1 (100 + f) x 0 := by
  intro c
  induction c with
  | zero =>
    intro i f σ hf he hP h1 hH
    obtain ⟨g, rfl⟩ : ∃ g, f = g + 1 := ⟨f - 1, by omega⟩
    refine ⟨σ, ?_, Fr.rf, fun k x h1 h2 => by omega, fun k x _ _ _ f _ => rfl⟩
    rw [X2_begin_L18, h1, if_pos (by rw [nle (by omega) (by omega)]; omega)]
  | succ c ih =>
    intro i f σ hf he hP h1 hH
    obtain ⟨g, rfl⟩ : ∃ g, f = g + 1 := ⟨f - 1, by omega⟩
    obtain ⟨x, x1, x2, x3⟩ := hP.1 i (by omega)
    obtain ⟨σ1, u1, u2, u3⟩ := X1_take_n (σ := σ) (a := x) (b := 32 + i) (by omega) (by omega) (Or.inl (hH (32 + i) (by omega) (by omega)))
    have u2' : Fr (Plw 0) σ σ1 := u2.mono fun c k w => ⟨w.1, w.2.1, by omega, by omega⟩
    have nr : ∀ r, ¬ Plw 0 200 r := by intro r; unfold Plw; omega
    have nq : ∀ c z, 32 ≤ z → ¬ Plw 0 c z := by intro c z h1; unfold Plw; omega
    obtain ⟨τ, t1, t2, t3, t4⟩ := ih (i + 1) g σ1 (by omega) (by omega) (hP.fr u2' (nr 0)) (by rw [u2'.i (by unfold Plw; omega)]; exact h1) (fun z z1 z2 => by rw [u2'.i (nq 104 z z1)]; exact hH z z1 z2)
    refine ⟨τ, ?_, u2'.tr t2, fun k a h1 h2 ha f hf => ?_, fun k a k8 h1 ha f hf => ?_⟩
    · rw [X2_begin_L18, h1, if_neg (by rw [nle (by omega) (by omega)]; omega), ck_n (by omega) (by decide), ncl (by omega), x1, spl_some (by omega), ck_n (by omega) (by decide), if_pos (by omega), u1, Option.bind_some, nadd_r]
      exact t1
    · by_cases w : k = i
      · subst w
        rw [x1] at ha; cases ha
        rw [t4 k x (by omega) (Or.inl (by omega)) (by rw [u2'.r (nr 0)]; exact x1) f hf]
        exact u3 f hf
      · rw [t3 k a (by omega) h2 (by rw [u2'.r (nr 0)]; exact ha) f hf, u2'.i (nq (100 + f) (32 + k) (by omega))]
    · rw [t4 k a k8 (by omega) (by rw [u2'.r (nr 0)]; exact ha) f hf]
      have : a ≠ x := by
        rintro rfl
        have := hP.2 k i (by omega) (by omega) (by rw [ha, x1])
        omega
      rw [u2.i (by rintro ⟨-, -, w⟩; exact this w)]
theorem X7_press54_L {kk : Mem → Option (Mem × Int32)} : ∀ (c i f : Nat) (σ : Mem), c < f → i + c = 3 → ∃ τ, X7_press_L54 kk f σ (nI i) = kk τ ∧ Fr (fun c k => c = 203 ∧ 1 ≤ k) σ τ ∧ ∀ k, k < 3 → τ.1 203 (1 + k) 0 = if i ≤ k then 0 else σ.1 203 (1 + k) 0 := by
  intro c
  induction c with
  | zero =>
    intro i f σ hf he
    obtain ⟨g, rfl⟩ : ∃ g, f = g + 1 := ⟨f - 1, by omega⟩
    refine ⟨σ, ?_, Fr.rf, fun k h1 => by rw [if_neg (by omega)]⟩
    rw [X7_press_L54, if_pos (by rw [nle_l (by omega) (by decide)]; omega)]
  | succ c ih =>
    intro i f σ hf he
    obtain ⟨g, rfl⟩ : ∃ g, f = g + 1 := ⟨f - 1, by omega⟩
    have fr : Fr (fun c k => c = 203 ∧ 1 ≤ k) σ (uI σ 203 (1 + i) 0 0) := Fr.uI ⟨rfl, by omega⟩
    obtain ⟨τ, t1, t2, t3⟩ := ih (i + 1) g (uI σ 203 (1 + i) 0 0) (by omega) (by omega)
    refine ⟨τ, ?_, fr.tr t2, fun k h1 => ?_⟩
    · rw [X7_press_L54, if_neg (by rw [nle_l (by omega) (by decide)]; omega), ck_n (by omega) (by decide), ncl (by omega), if_pos (by omega), nadd_r]
      exact t1
    · rw [t3 k h1]
      by_cases w : k = i
      · subst w
        rw [if_neg (by omega), if_pos (by omega)]
        simp [uI_1]
      · by_cases w2 : i + 1 ≤ k
        · rw [if_pos w2, if_pos (by omega)]
        · rw [if_neg w2, if_neg (by omega)]
          simp [uI_1, w]
theorem X8_press35_L {n : Nat} {kk : Mem → Option (Mem × Int32)} (hn : n ≤ 8) : ∀ (c i f : Nat) (σ : Mem), c < f → i + c = 5 * n → σ.1 810 0 0 = nI n → ∃ τ, X8_press_L35 kk f σ (nI i) = kk τ ∧ Fr (fun c _ => c = 811) σ τ ∧ ∀ y, τ.1 811 0 y = if i ≤ y ∧ y < 5 * n then (if y % 5 = 4 then 0 else σ.1 814 0 y) else σ.1 811 0 y := by
  intro c
  induction c with
  | zero =>
    intro i f σ hf he h1
    obtain ⟨g, rfl⟩ : ∃ g, f = g + 1 := ⟨f - 1, by omega⟩
    refine ⟨σ, ?_, Fr.rf, fun y => by rw [if_neg (by omega)]⟩
    rw [X8_press_L35, h1, nmul_l, if_pos (by show nI (5 * n) ≤ nI i; rw [nle (by omega) (by omega)]; omega)]
  | succ c ih =>
    intro i f σ hf he h1
    obtain ⟨g, rfl⟩ : ∃ g, f = g + 1 := ⟨f - 1, by omega⟩
    have fr : ∀ v, Fr (fun c _ => c = 811) σ (uI σ 811 0 i v) := fun v => Fr.uI rfl
    obtain ⟨τ, t1, t2, t3⟩ := ih (i + 1) g (uI σ 811 0 i (if i % 5 = 4 then 0 else σ.1 814 0 i)) (by omega) (by omega) (by rw [(fr _).i (by decide)]; exact h1)
    refine ⟨τ, ?_, (fr _).tr t2, fun y => ?_⟩
    · have r5 : nI i - nI i / (5 : Int32) * (5 : Int32) = nI (i % 5) := pk_rem (by omega) (d := 5) (by decide) (by decide)
      have m5 : i % 5 < 5 := Nat.mod_lt _ (by decide)
      rw [X8_press_L35, h1, nmul_l, if_neg (by show ¬ nI (5 * n) ≤ nI i; rw [nle (by omega) (by omega)]; omega), if_neg (show ¬ (5 : Int32) = 0 by decide), r5, ncl (by omega)]
      by_cases q : i % 5 = 4
      · rw [if_pos q] at t1
        rw [if_pos (by rw [neq_r (by omega) (by decide)]; exact q), ck_n (by omega) (by decide), nadd_r]
        exact t1
      · rw [if_neg q] at t1
        rw [if_neg (by rw [neq_r (by omega) (by decide)]; exact q), ck_n (by omega) (by decide), ck_n (by omega) (by decide), nadd_r]
        exact t1
    · rw [t3 y]
      by_cases w : y = i
      · subst w
        rw [if_neg (show ¬ (y + 1 ≤ y ∧ y < 5 * n) by omega), if_pos (show y ≤ y ∧ y < 5 * n by omega)]
        simp [uI_1]
      · by_cases w2 : i + 1 ≤ y ∧ y < 5 * n
        · rw [if_pos w2, if_pos (show i ≤ y ∧ y < 5 * n by omega)]
          simp [uI_1]
        · rw [if_neg w2, if_neg (show ¬ (i ≤ y ∧ y < 5 * n) by omega)]
          simp [uI_1, w]
theorem X8_press81_L {kk : Mem → Option (Mem × Int32)} : ∀ (m i : Nat) (σ : Mem), 6 - i < m → i ≤ 6 → X8_press_L81 kk m σ (nI i) = kk (fz σ 827 i 6 0) := by
  intro m
  induction m with
  | zero => intro i σ h; omega
  | succ m ih =>
    intro i σ h1 h2
    rw [X8_press_L81]
    by_cases e : i = 6
    · subst e
      rw [if_pos (by rw [nle_l (by decide) (by decide)]; decide), fz_nil]
    · rw [if_neg (by rw [nle_l (by omega) (by decide)]; omega), ck_n (by omega) (by decide), ncl (by omega), nadd_r, ih (i + 1) _ (by omega) (by omega)]
      congr 1
      exact fz_step (by omega)
theorem X8_press102_L {kk : Mem → Option (Mem × Int32)} : ∀ (c i f : Nat) (σ : Mem), c < f → i + c = 3 → ∃ τ, X8_press_L102 kk f σ (nI i) = kk τ ∧ Fr (fun c _ => c = 829) σ τ ∧ ∀ k, k < 3 → τ.1 829 0 (727 * k) = if i ≤ k then -9 else σ.1 829 0 (727 * k) := by
  intro c
  induction c with
  | zero =>
    intro i f σ hf he
    obtain ⟨g, rfl⟩ : ∃ g, f = g + 1 := ⟨f - 1, by omega⟩
    refine ⟨σ, ?_, Fr.rf, fun k h1 => by rw [if_neg (by omega)]⟩
    rw [X8_press_L102, if_pos (by rw [nle_l (by omega) (by decide)]; omega)]
  | succ c ih =>
    intro i f σ hf he
    obtain ⟨g, rfl⟩ : ∃ g, f = g + 1 := ⟨f - 1, by omega⟩
    have fr : Fr (fun c _ => c = 829) σ (uI σ 829 0 (727 * i) (-9)) := Fr.uI rfl
    obtain ⟨τ, t1, t2, t3⟩ := ih (i + 1) g (uI σ 829 0 (727 * i) (-9)) (by omega) (by omega)
    refine ⟨τ, ?_, fr.tr t2, fun k h1 => ?_⟩
    · rw [X8_press_L102, if_neg (by rw [nle_l (by omega) (by decide)]; omega), nmul_l]
      show ck (nI (727 * i)) 2181 (X8_press_L102 kk g (uI σ 829 0 (nI (727 * i)).toNatClampNeg (-9)) (nI i + 1)) = _
      rw [ck_n (by omega) (by decide), ncl (by omega), nadd_r]
      exact t1
    · rw [t3 k h1]
      by_cases w : k = i
      · subst w
        rw [if_neg (by omega), if_pos (by omega)]
        simp [uI_1]
      · by_cases w2 : i + 1 ≤ k
        · rw [if_pos w2, if_pos (by omega)]
        · have : ¬ 727 * k = 727 * i := by omega
          rw [if_neg w2, if_neg (by omega)]
          simp [uI_1]
          omega
def Pbg (c k : Nat) : Prop := Plw 0 c k ∨ ((c = 202 ∨ c = 203 ∨ c = 204) ∧ k = 0)
theorem X2_begin_n {σ : Mem} {l : List (Nat → Int32)} (hI : InvC σ l) (hP : Refs σ 0) (hH : ∀ j, 32 ≤ j → j < 40 → σ.1 104 j 0 = 0) : ∃ τ, X2_begin σ 0 = some (τ, ()) ∧ Fr Pbg σ τ ∧ τ.1 203 0 0 = nI l.length ∧ τ.1 204 0 0 = 0 ∧ (∀ s, s < 6 → τ.1 202 0 s = 0) ∧ (∀ k x, k < l.length → σ.2.2 200 0 k = some x → (∀ f, f < 4 → τ.1 (100 + f) x 0 = l.getD k zw f) ∧ τ.1 104 x 0 = 0) ∧ ∀ k x, k < 8 → l.length ≤ k → σ.2.2 200 0 k = some x → τ.1 104 x 0 = σ.1 104 x 0 := by
  obtain ⟨i1, i2, i3⟩ := hI
  have f0 : Fr Pbg σ (uI σ 203 0 0 (nI l.length)) := Fr.uI (Or.inr ⟨Or.inr (Or.inl rfl), rfl⟩)
  obtain ⟨τ1, t1, t2, t3, t4⟩ := X2_begin_L (kk := fun (s7 : Mem) => ((J7_fill_53178 ((uI s7 204 0 0 (0 : Int32))) (72 + 4 * 0) (0 : Int32)).bind fun q8 => some (q8.1, ()))) i2 l.length 0 FU (uI σ 203 0 0 (nI l.length)) (fu_gt (by omega)) (by omega) (hP.fr f0 (by unfold Pbg Plw; omega)) (by simp [uI_1]) (fun j h1 h2 => by rw [f0.i (by unfold Pbg Plw; omega)]; exact hH j h1 h2)
  have r0 : ∀ k, (uI σ 203 0 0 (nI l.length)).2.2 200 0 k = σ.2.2 200 0 k := fun k => rfl
  have v0 : ∀ f x, f < 5 → (uI σ 203 0 0 (nI l.length)).1 (100 + f) x 0 = σ.1 (100 + f) x 0 := fun f x hf => by
    have : ¬ 100 + f = 203 := by omega
    simp [uI_1, this]
  obtain ⟨τ2, e2⟩ : ∃ τ2, τ2 = aI (uI τ1 204 0 0 0) 202 0 (fun j => if j < 6 then 0 else (uI τ1 204 0 0 0).1 202 0 j) := ⟨_, rfl⟩
  have f2 : Fr Pbg τ1 τ2 := by rw [e2]; exact (Fr.uI (Or.inr ⟨Or.inr (Or.inr rfl), rfl⟩)).tr (Fr.aI (Or.inr ⟨Or.inl rfl, rfl⟩))
  have low : ∀ f x, f < 5 → τ2.1 (100 + f) x 0 = τ1.1 (100 + f) x 0 := fun f x hf => by
    have n1 : ¬ 100 + f = 204 := by omega
    have n2 : ¬ 100 + f = 202 := by omega
    rw [e2]
    simp [uI_1, aI_1, n1, n2]
  refine ⟨τ2, ?_, (f0.tr (t2.mono fun _ _ => Or.inl)).tr f2, ?_, ?_, fun s hs => ?_, fun k x hk hx => ⟨fun f hf => ?_, ?_⟩, fun k x hk hl hx => ?_⟩
  · unfold X2_begin
    rw [if_pos (by decide), i1, if_neg (by rw [nlt_l (by omega) (by decide)]; omega), ← nI_0]
    refine t1.trans ?_
    unfold J7_fill_53178
    rw [sh_pinks (by decide)]
    show (Option.bind (if 72 + 4 * 0 < NO ∧ 6 < 2147483648 then some (aI (uI τ1 204 0 0 0) 202 0 (fun j => if j < 6 then 0 else (uI τ1 204 0 0 0).1 202 0 j), ()) else none) fun q8 => some (q8.1, ())) = _
    rw [if_pos ⟨no_pinks (by decide), by decide⟩, Option.bind_some, e2]
  · rw [e2]
    simp [uI_1, aI_1]
    rw [t2.i (by unfold Plw; omega)]
    simp [uI_1]
  · rw [e2]; simp [uI_1, aI_1]
  · rw [e2]; simp [aI_1, hs]
  · rw [low f x (by omega), t3 k x (by omega) hk hx f (by omega), v0 f _ (by omega), i3 k hk f hf]
  · have := low 4 x (by decide)
    rw [show 100 + 4 = 104 from rfl] at this
    have a := t3 k x (by omega) hk hx 4 (by decide)
    rw [show 100 + 4 = 104 from rfl] at a
    have b := v0 4 (32 + k) (by decide)
    rw [show 100 + 4 = 104 from rfl] at b
    rw [this, a, b]
    exact hH (32 + k) (by omega) (by omega)
  · have := low 4 x (by decide)
    rw [show 100 + 4 = 104 from rfl] at this
    have a := t4 k x hk (Or.inr hl) hx 4 (by decide)
    rw [show 100 + 4 = 104 from rfl] at a
    have b := v0 4 x (by decide)
    rw [show 100 + 4 = 104 from rfl] at b
    rw [this, a, b]
theorem op_press {σ : Mem} (h : Rel σ) (a : Int32) : Both (fun σ => X7_press σ a) (fun σ => X8_press σ a) σ := by
  have bad : ∀ {σ τ : Mem} {v : Int32}, X8_askedText σ a = some (τ, v) → v < 0 → X8_press σ a = some (τ, v) := by
    intro σ τ v h1 hv
    unfold X8_press
    rw [h1, Option.bind_some]
    show (if 0 ≤ v then _ else _) = _
    rw [if_neg (le_neg hv)]
  rcases isT a with ⟨a7, a8⟩ | ⟨t, ht, rfl⟩
  · refine Both.mk' (σ1 := σ) (σ2 := σ) (r := -1) ?_ (bad (a8 σ) (by decide)) h
    simp only [X7_press, a7, Option.bind_some, spl_none]
  have hrl := rl_t ht
  rcases h.2.2.1 t ht with ⟨s1, s2⟩ | ⟨m, hm, s1, s2, sc⟩
  · refine Both.mk' (σ1 := ans7 σ 1) (σ2 := met8 (ans7 σ 1) 1) (r := -3) ?_ (bad (X8_askedText_no ht (by rw [ans7_i (by decide) (by decide)]; exact s2)) (by decide)) (Rel_fnd h 1 (by decide) (by decide))
    simp only [X7_press, X7_textOf_n ht, Option.bind_some]
    rw [spl_some (by omega), X4_isThere_no (by omega) s1, Option.bind_some]
    show (if (0 : Int32) = 0 then _ else _) = _
    rw [if_pos rfl, an1]
    rfl
  obtain ⟨σ1, u1, u2, u3⟩ := X3_read_n (r := 6 + t) (g := fun j => σ.1 809 0 (60 * t + j)) (by omega) hm (by omega) s1 sc
  have q8 : ∀ c k, 400 ≤ c → ¬ PCl c k := by intro c k hc; unfold PCl; omega
  have hv := prs_1 (g := fun j => σ.1 809 0 (60 * t + j)) hm 61 0 []
  have hok := prs_2 (g := fun j => σ.1 809 0 (60 * t + j)) (m := m) 61 0 [] (fun w hw => by cases hw)
  generalize hl : (prs (fun j => σ.1 809 0 (60 * t + j)) m 61 0 []) = pr at u1 u3 hv hok
  have s7 : X7_press σ (nI t) = if pr.1 = -9 then ((X2_begin σ1 0).bind fun q5 => X7_press_L54 (fun (s9 : Mem) => (some (s9, (s9.1 203 0 0)))) FU q5.1 (0 : Int32)) else some (σ1, -4) := by
    simp only [X7_press, X7_textOf_n ht, Option.bind_some]
    rw [spl_some (by omega), X4_isThere_n (by omega) s1 (by omega), Option.bind_some]
    show (if (1 : Int32) = 0 then _ else _) = _
    rw [if_neg one_ne0]
    show (X3_read σ (6 + t)).bind _ = _
    rw [u1, Option.bind_some]
  have s8 : ∀ τ : Mem, (∀ c j, 800 ≤ c → τ.1 c 0 j = σ.1 c 0 j) → ∃ υ, Fr PMr τ υ ∧ (pr.1 = -9 → ∃ i', InvM υ pr.2 i') ∧ X8_press τ (nI t) = if pr.1 = -9 then (X8_press_L35 (fun (s6 : Mem) => (X8_press_L81 (fun (s9 : Mem) => (X8_press_L102 (fun (s12 : Mem) => (some (s12, (s12.1 810 0 0)))) FU s9 (0 : Int32))) FU ((uI s6 826 0 0 (0 : Int32))) (0 : Int32))) FU ((uI υ 810 0 0 ((υ.1 813 0 0)))) (0 : Int32)) else some (υ, -4) := by
    intro τ hτ
    obtain ⟨υ, v1, v2, v3⟩ := X8_goesOn_n (τ := τ) (g := fun j => σ.1 809 0 (60 * t + j)) ht ⟨by rw [hτ 808 _ (by omega)]; exact s2, hm, fun j _ => hτ 809 _ (by omega)⟩
    rw [hl] at v1 v3
    refine ⟨υ, v2, v3, ?_⟩
    unfold X8_press
    rw [X8_askedText_n ht (n := m) (by rw [hτ 808 _ (by omega)]; exact s2) hm, Option.bind_some]
    show (if 0 ≤ (0 : Int32) then _ else _) = _
    rw [if_pos (by decide)]
    show (X8_goesOn τ (nI t)).bind _ = _
    rw [v1, Option.bind_some]
  by_cases w : pr.1 = -9
  case neg =>
    obtain ⟨υ, v1, -, v3⟩ := s8 σ1 (fun c j hc => u2.i (q8 c 0 (by omega)) j)
    rw [if_neg w] at s7 v3
    exact Both.mk' s7 v3 (Rel_scr h ((u2.mono fun _ _ q => q.scr).tr (v1.mono fun _ _ q => q.scr)))
  rw [if_pos w] at s7
  have hrf := h.refs (p := 0) (by decide)
  obtain ⟨σ2, b1, b2, b3, b4, b5, b6, b7⟩ := X2_begin_n u3 (hrf.fr u2 (by unfold PCl; omega)) (fun j h1 h2 => by rw [u2.i (by unfold PCl; omega)]; exact h.2.2.2.2.1.2 j h1 h2)
  obtain ⟨σ3, c1, c2, c3⟩ := X7_press54_L (kk := fun (s9 : Mem) => (some (s9, (s9.1 203 0 0)))) 3 0 FU σ2 (fu_gt (by decide)) (by decide)
  have n8 := u3.2.1
  have g3 : σ3.1 203 0 0 = nI pr.2.length := by rw [c2.i (by omega)]; exact b3
  have F7 : Fr (fun c k => PCl c k ∨ Pbg c k ∨ (c = 203 ∧ 1 ≤ k)) σ σ3 := ((u2.mono fun _ _ q => Or.inl q).tr (b2.mono fun _ _ q => Or.inr (Or.inl q))).tr (c2.mono fun _ _ q => Or.inr (Or.inr q))
  have nF7 : ∀ c k, 205 ≤ c → c ≠ 301 → ¬ (PCl c k ∨ Pbg c k ∨ (c = 203 ∧ 1 ≤ k)) := by intro c k h1 h2; unfold PCl Pbg Plw; omega
  obtain ⟨υ, v1, v2, v3⟩ := s8 σ3 (fun c j hc => F7.i (nF7 c 0 (by omega) (by omega)) j)
  rw [if_pos w] at v3
  obtain ⟨i', j1, j2, j3, j4⟩ := v2 w
  rw [j2] at v3
  have fr0 : Fr (fun c _ => c = 810) υ (uI υ 810 0 0 (nI pr.2.length)) := Fr.uI rfl
  obtain ⟨τ1, d1, d2, d3⟩ := X8_press35_L (n := pr.2.length) (kk := fun (s6 : Mem) => (X8_press_L81 (fun (s9 : Mem) => (X8_press_L102 (fun (s12 : Mem) => (some (s12, (s12.1 810 0 0)))) FU s9 (0 : Int32))) FU ((uI s6 826 0 0 (0 : Int32))) (0 : Int32))) n8 (5 * pr.2.length) 0 FU (uI υ 810 0 0 (nI pr.2.length)) (fu_gt (by omega)) (by omega) (by simp [uI_1])
  have d4 := X8_press81_L (kk := fun (s9 : Mem) => (X8_press_L102 (fun (s12 : Mem) => (some (s12, (s12.1 810 0 0)))) FU s9 (0 : Int32))) FU 0 (uI τ1 826 0 0 0) (fu_gt (by decide)) (by decide)
  obtain ⟨τ2, e2⟩ : ∃ τ2, τ2 = fz (uI τ1 826 0 0 0) 827 0 6 0 := ⟨_, rfl⟩
  rw [← e2] at d4
  have fr2 : Fr (fun c _ => c = 826 ∨ c = 827) τ1 τ2 := by rw [e2]; exact (Fr.uI (Or.inl rfl)).tr (fz_fr (Or.inr rfl))
  obtain ⟨τ3, f1, f2, f3⟩ := X8_press102_L (kk := fun (s12 : Mem) => (some (s12, (s12.1 810 0 0)))) 3 0 FU τ2 (fu_gt (by decide)) (by decide)
  rw [nI_0] at d1 d4 f1 c1
  have g0 : τ3.1 810 0 0 = nI pr.2.length := by rw [f2.i (by decide), fr2.i (by decide), d2.i (by decide)]; simp [uI_1]
  rw [g0] at f1
  rw [g3] at c1
  have F8 : Fr (fun c _ => PMr c 0 ∨ c = 810 ∨ c = 811 ∨ c = 826 ∨ c = 827 ∨ c = 829) σ3 τ3 := (((v1.mono fun c k q => Or.inl q).tr (fr0.mono fun c k q => Or.inr (Or.inl q))).tr (d2.mono fun c k q => Or.inr (Or.inr (Or.inl q)))).tr ((fr2.mono fun c k q => Or.inr (Or.inr (Or.inr (by omega)))).tr (f2.mono fun c k q => Or.inr (Or.inr (Or.inr (Or.inr (Or.inr q))))))
  have nF8 : ∀ c, c < 800 ∨ c = 805 ∨ c = 806 ∨ c = 808 ∨ c = 809 ∨ c = 800 ∨ c = 801 ∨ c = 802 ∨ c = 803 ∨ c = 804 → ¬ (PMr c 0 ∨ c = 810 ∨ c = 811 ∨ c = 826 ∨ c = 827 ∨ c = 829) := by intro c hc; unfold PMr; omega
  have F : Fr (fun c k => (PCl c k ∨ Pbg c k ∨ (c = 203 ∧ 1 ≤ k)) ∨ (PMr c 0 ∨ c = 810 ∨ c = 811 ∨ c = 826 ∨ c = 827 ∨ c = 829)) σ τ3 := (F7.mono fun _ _ => Or.inl).tr (F8.mono fun _ _ => Or.inr)
  have nF : ∀ c k, (205 ≤ c ∧ c ≠ 301 ∧ (c < 800 ∨ c = 805 ∨ c = 806 ∨ c = 808 ∨ c = 809 ∨ c = 800 ∨ c = 801 ∨ c = 802 ∨ c = 803 ∨ c = 804)) → ¬ ((PCl c k ∨ Pbg c k ∨ (c = 203 ∧ 1 ≤ k)) ∨ (PMr c 0 ∨ c = 810 ∨ c = 811 ∨ c = 826 ∨ c = 827 ∨ c = 829)) := by
    rintro c k ⟨h1, h2, h3⟩ (q | q)
    · exact nF7 c k h1 h2 q
    · exact nF8 c h3 q
  refine Both.mk' (σ1 := σ3) (σ2 := τ3) (r := nI pr.2.length) ?_ ?_ ?_
  · show X7_press _ _ = _
    rw [s7, b1, Option.bind_some]
    exact c1
  · show X8_press _ _ = _
    rw [v3]
    exact (d1.trans d4).trans f1
  · have lw7 : ∀ c k j, c < 205 → τ3.1 c k j = σ3.1 c k j := fun c k j hc => F8.i (nF8 c (by omega)) j
    have t811 : ∀ k f, k < pr.2.length → f < 5 → τ3.1 811 0 (5 * k + f) = if f = 4 then 0 else pr.2.getD k zw f := by
      intro k f hk hf
      rw [f2.i (by decide), fr2.i (by decide), d3, if_pos (by omega)]
      by_cases q : f = 4
      · subst q
        rw [if_pos (by omega), if_pos rfl]
      · rw [if_neg (by omega), if_neg q, fr0.i (by decide), j4 k hk f (by omega)]
    refine ⟨h.1.fr F ?_, fun r hr => (h.2.1 r hr).fr F (nF _ _ (by omega)) (nF _ _ (by omega)) (nF _ _ (by omega)) (nF _ _ (by omega)), fun t ht => (h.2.2.1 t ht).fr F (nF _ _ (by omega)) (nF _ _ (by omega)) (nF _ _ (by omega)) (nF _ _ (by omega)), ?_⟩
    · intro c hc
      refine nF c 0 ?_
      simp only [List.mem_cons, List.not_mem_nil, or_false] at hc
      omega
    have refs : ∀ p k, τ3.2.2 200 p k = σ.2.2 200 p k := fun p k => by
      rw [F8.r (nF8 200 (by omega)), F7.r (by unfold PCl Pbg Plw; omega)]
    have h104 : ∀ x, τ3.1 104 x 0 = σ2.1 104 x 0 := fun x => by rw [lw7 104 x 0 (by omega), c2.i (by omega)]
    have rs1 : ∀ k, σ1.2.2 200 0 k = σ.2.2 200 0 k := fun k => u2.r (by unfold PCl; omega) k
    refine ⟨fun p hp => ⟨fun k hk => ?_, fun k l hk hl e => ?_⟩, ⟨fun x hx => ?_, fun x h1 h2 => ?_⟩, pr.2.length, n8, g0, ⟨?_, ⟨0, by omega, ?_, ?_, fun e he => by omega⟩, fun s hs => ?_, fun k hk => ?_, fun k hk => ?_⟩, fun k hk => Or.inl ⟨?_, ?_⟩⟩
    · rw [refs]; exact (h.2.2.2.1 p hp).1 k hk
    · rw [refs, refs] at e; exact (h.2.2.2.1 p hp).2 k l hk hl e
    · rw [h104]
      by_cases q : x < 8
      · obtain ⟨k, k1, k2⟩ := refs_onto hrf (x := x) (by omega) (by omega)
        by_cases q2 : k < pr.2.length
        · exact Or.inl (b6 k x q2 (by rw [rs1]; exact k2)).2
        · rw [b7 k x k1 (by omega) (by rw [rs1]; exact k2), u2.i (by unfold PCl; omega)]
          exact h.2.2.2.2.1.1 x hx
      · rw [b2.i (by unfold Pbg Plw; omega), u2.i (by unfold PCl; omega)]
        exact h.2.2.2.2.1.1 x hx
    · rw [h104, b2.i (by unfold Pbg Plw; omega), u2.i (by unfold PCl; omega)]
      exact h.2.2.2.2.1.2 x h1 h2
    · rw [lw7 203 0 0 (by omega)]; exact g3
    · rw [lw7 204 0 0 (by omega), c2.i (by omega)]; exact b4
    · rw [f2.i (by decide), e2]
      simp [fz, aI_1, uI_1]
      rfl
    · show τ3.1 202 0 s = τ3.1 827 0 s
      rw [lw7 202 0 s (by omega), c2.i (by omega), b5 s hs, f2.i (by decide), e2]
      simp [fz, aI_1, hs]
    · obtain ⟨x, x1, x2, x3⟩ := hrf.1 k (by omega)
      obtain ⟨y1, y2⟩ := b6 k x hk (by rw [rs1]; exact x1)
      refine ⟨x, by rw [refs]; exact x1, x2, x3, fun f hf => ?_⟩
      show τ3.1 (100 + f) x 0 = τ3.1 811 0 (5 * k + f)
      rw [t811 k f hk hf, lw7 (100 + f) x 0 (by omega), c2.i (by omega)]
      by_cases q : f = 4
      · subst q; rw [if_pos rfl]; exact y2
      · rw [if_neg q]; exact y1 f (by omega)
    · have hw : pr.2.getD k zw ∈ pr.2 := by
        rw [List.getD_eq_getElem?_getD, List.getElem?_eq_getElem hk]
        exact List.getElem_mem hk
      obtain ⟨kd, x, m1, m2, m3, m4, m5, m6⟩ := hok _ hw
      have e0 : τ3.1 811 0 (5 * k) = pr.2.getD k zw 0 := by
        have := t811 k 0 hk (by decide)
        rw [if_neg (by decide)] at this
        exact this
      have e1 := t811 k 1 hk (by decide)
      have e2 := t811 k 2 hk (by decide)
      have e3 := t811 k 3 hk (by decide)
      have e4 := t811 k 4 hk (by decide)
      rw [if_neg (by decide)] at e1 e2 e3
      rw [if_pos rfl] at e4
      refine ⟨kd, x, m1, m2, ?_, ?_, ?_, ?_, ?_⟩
      · exact e0.trans m3
      · exact e1.trans m4
      · dsimp only; rw [e2]; exact m5
      · dsimp only; rw [e3]; exact m6
      · exact Or.inl e4
    · rw [lw7 203 (k + 1) 0 (by omega), Nat.add_comm k 1, c3 k hk, if_pos (by omega)]
    · rw [f3 k hk, if_pos (by omega)]
