/-! a text's laws -/
def cA (g : Nat → Int32) (m j : Nat) : Int32 := if j < m then g j else -9
def sgA (g : Nat → Int32) (m j : Nat) : Int32 := if cA g m j - 65 < 0 then -9 else if 6 ≤ cA g m j - 65 then -9 else cA g m j - 65
def kdO (v : Int32) : Option Nat := if v = 108 then some 0 else if v = 98 then some 1 else if v = 100 then some 2 else if v = 115 then some 3 else if v = 117 then some 4 else if v = 105 then some 5 else none
def sgn (kd : Nat) : Nat := if kd = 1 then 1 else if kd = 3 ∨ kd = 4 then 3 else 2
def fltF (g : Nat → Int32) (m i : Nat) : Nat → Nat → Option Nat
  | 0, _ => none
  | c + 1, s => if sgA g m (i + s) = -9 then some (i + s) else fltF g m i c (s + 1)
def lwI (g : Nat → Int32) (m i kd : Nat) (f : Nat) : Int32 := if f = 0 then nI kd else if f = 1 then sgA g m (i + 1) else if f = 2 then (if 1 < sgn kd then sgA g m (i + 2) else -9) else (if 2 < sgn kd then sgA g m (i + 3) else -9)
def prs (g : Nat → Int32) (m : Nat) : Nat → Nat → List (Nat → Int32) → Int32 × List (Nat → Int32)
  | 0, _, l => (-9, l)
  | c + 1, i, l => if i < m then (if g i = 32 then prs g m c (i + 1) l else match kdO (g i) with
    | none => (nI i, l)
    | some kd => if l.length < 8 then (match fltF g m i (sgn kd) 1 with
      | some j => (nI j, l)
      | none => prs g m c (i + sgn kd + 1) (l ++ [lwI g m i kd])) else (nI i, l)) else (-9, l)
theorem sgA_ok (g : Nat → Int32) (m j : Nat) : sgA g m j = -9 ∨ (∃ v, v < 6 ∧ sgA g m j = nI v ∧ cA g m j - 65 = nI v ∧ j < m) := by
  unfold sgA
  by_cases h1 : cA g m j - 65 < 0
  · rw [if_pos h1]; exact Or.inl rfl
  · rw [if_neg h1]
    by_cases h2 : 6 ≤ cA g m j - 65
    · rw [if_pos h2]; exact Or.inl rfl
    · rw [if_neg h2]
      right
      have hj : j < m := by
        by_cases q : j < m
        · exact q
        · exact absurd (by unfold cA; rw [if_neg q]; decide) h1
      rcases i32_cases (cA g m j - 65) with q | ⟨v, v1, v2⟩
      · exact absurd q h1
      · rw [v2, nle_l v1 (by decide)] at h2
        have h2 : ¬ 6 ≤ v := h2
        exact ⟨v, by omega, v2, v2, hj⟩
theorem sgn_le (kd : Nat) : 1 ≤ sgn kd ∧ sgn kd ≤ 3 := by unfold sgn; split <;> (try split) <;> omega
theorem kdO_lt {v : Int32} {kd : Nat} (h : kdO v = some kd) : kd < 6 := by
  unfold kdO at h
  split at h
  · cases h; decide
  · split at h
    · cases h; decide
    · split at h
      · cases h; decide
      · split at h
        · cases h; decide
        · split at h
          · cases h; decide
          · split at h
            · cases h; decide
            · cases h
theorem fltF_none {g : Nat → Int32} {m i : Nat} : ∀ c s, fltF g m i c s = none → ∀ j, s ≤ j → j < s + c → sgA g m (i + j) ≠ -9 := by
  intro c
  induction c with
  | zero => intro s _ j h1 h2; omega
  | succ c ih =>
    intro s h j h1 h2
    rw [fltF] at h
    by_cases q : sgA g m (i + s) = -9
    · rw [if_pos q] at h; cases h
    · rw [if_neg q] at h
      by_cases e : j = s
      · subst e; exact q
      · exact ih (s + 1) h j (by omega) (by omega)
theorem fltF_some {g : Nat → Int32} {m i x : Nat} : ∀ c s, fltF g m i c s = some x → i + s ≤ x ∧ x < i + s + c := by
  intro c
  induction c with
  | zero => intro s h; cases h
  | succ c ih =>
    intro s h
    rw [fltF] at h
    by_cases q : sgA g m (i + s) = -9
    · rw [if_pos q] at h; cases h; omega
    · rw [if_neg q] at h
      have := ih (s + 1) h
      omega
theorem sgA_in {g : Nat → Int32} {m j : Nat} (h : sgA g m j ≠ -9) : ∃ v, v < 6 ∧ sgA g m j = nI v ∧ cA g m j - 65 = nI v ∧ j < m := by
  rcases sgA_ok g m j with q | q
  · exact absurd q h
  · exact q
/-! the class's -/
theorem X3_signAt_n {σ : Mem} {r m j : Nat} {g : Nat → Int32} (hr : r < 11) (hs : σ.1 401 r 0 = nI m) (hm : m ≤ rl r) (hg : ∀ j, j < m → σ.1 400 r j = g j) (hj : j < 2147483648) : X3_signAt σ r (nI j) = some (σ, sgA g m j) := by
  have h60 := rl_le r
  have e : X4_cell σ r (nI j) = some (σ, cA g m j) := by
    unfold cA
    by_cases q : j < m
    · rw [X4_cell_in hr hs hm q, if_pos q, hg j q]
    · rw [X4_cell_out hr hs (by omega) (by omega) hj, if_neg q]
  unfold X3_signAt sgA
  rw [if_pos hr, e, Option.bind_some, lt_eq]
  dsimp only
  by_cases h1 : cA g m j - 65 < 0
  · rw [if_pos h1, if_pos h1]
  · rw [if_neg h1, if_neg h1]
    by_cases h2 : 6 ≤ cA g m j - 65
    · rw [if_pos h2, if_pos h2]
    · rw [if_neg h2, if_neg h2]
def ktF (v : Int32) : Nat → Nat → Option Nat
  | 0, _ => none
  | c + 1, i => if LTV i = v then some i else ktF v c (i + 1)
theorem X3_kindOf_L {σ : Mem} {v : Int32} {kk : Mem → Option (Mem × Int32)} : ∀ (c i f : Nat), c < f → i + c = 6 → X3_kindOf_L2 v kk f σ (nI i) = match ktF v c i with | some k => some (σ, nI k) | none => kk σ := by
  intro c
  induction c with
  | zero =>
    intro i f hf he
    obtain ⟨g, rfl⟩ : ∃ g, f = g + 1 := ⟨f - 1, by omega⟩
    rw [X3_kindOf_L2, if_pos (by rw [nle_l (by omega) (by decide)]; omega)]
    rfl
  | succ c ih =>
    intro i f hf he
    obtain ⟨g, rfl⟩ : ∃ g, f = g + 1 := ⟨f - 1, by omega⟩
    rw [X3_kindOf_L2, if_neg (by rw [nle_l (by omega) (by decide)]; omega), ck_n (by omega) (by decide), ncl (by omega), ktF]
    by_cases q : LTV i = v
    · rw [if_pos q, if_pos q]
    · rw [if_neg q, if_neg q, nadd_r]
      exact ih (i + 1) g (by omega) (by omega)
theorem ktF_kdO (v : Int32) : ktF v 6 0 = kdO v := by
  have e0 : LTV 0 = 108 := rfl
  have e1 : LTV 1 = 98 := rfl
  have e2 : LTV 2 = 100 := rfl
  have e3 : LTV 3 = 115 := rfl
  have e4 : LTV 4 = 117 := rfl
  have e5 : LTV 5 = 105 := rfl
  simp only [ktF, kdO, e0, e1, e2, e3, e4, e5, Nat.zero_add, Nat.reduceAdd]
  simp only [@eq_comm Int32 v]
theorem X3_kindOf_n {σ : Mem} {v : Int32} : X3_kindOf σ v = some (σ, chI (kdO v)) := by
  unfold X3_kindOf
  have := X3_kindOf_L (σ := σ) (v := v) (kk := fun s3 => some (s3, (-9 : Int32))) 6 0 FU (fu_gt (by decide)) (by decide)
  rw [nI_0, ktF_kdO] at this
  rw [this]
  cases kdO v <;> rfl
theorem X3_signsOf_n {σ : Mem} {kd : Nat} (h : kd < 6) : X3_signsOf σ (nI kd) = some (σ, nI (sgn kd)) := by
  unfold X3_signsOf
  match kd, h with
  | 0, _ | 1, _ | 2, _ | 3, _ | 4, _ | 5, _ => rfl
  | n + 6, h => omega
theorem X3_read66_L {σ : Mem} {r m i n : Nat} {g : Nat → Int32} {x3 : Int32} {kk : Mem → Option (Mem × Int32)} (hr : r < 11) (hs : σ.1 401 r 0 = nI m) (hm : m ≤ rl r) (hg : ∀ j, j < m → σ.1 400 r j = g j) (hi : i < 1000) (hn : n ≤ 3) : ∀ (c s f : Nat), c < f → s + c = n + 1 → X3_read_L66 r (nI i) x3 (nI n) kk f σ (nI s) = match fltF g m i c s with | some j => some (σ, nI j) | none => kk σ := by
  intro c
  induction c with
  | zero =>
    intro s f hf he
    obtain ⟨q, rfl⟩ : ∃ q, f = q + 1 := ⟨f - 1, by omega⟩
    rw [X3_read_L66, if_pos (by rw [nlt (by omega) (by omega)]; omega)]
    rfl
  | succ c ih =>
    intro s f hf he
    obtain ⟨q, rfl⟩ : ∃ q, f = q + 1 := ⟨f - 1, by omega⟩
    rw [X3_read_L66, if_neg (by rw [nlt (by omega) (by omega)]; omega), nadd, X3_signAt_n hr hs hm hg (by omega), Option.bind_some, fltF]
    dsimp only
    by_cases w : sgA g m (i + s) = -9
    · rw [if_pos w, if_pos w]
    · rw [if_neg w, if_neg w, nadd_r]
      exact ih (s + 1) q (by omega) (by omega)
def bcm (σ : Mem) (x : Nat) (w : Nat → Int32) : Mem := uI (uI (uI (uI σ 100 x 0 (w 0)) 101 x 0 (w 1)) 102 x 0 (w 2)) 103 x 0 (w 3)
theorem bcm_n {σ : Mem} {x : Nat} {w : Nat → Int32} (h : x < 41) : X1_become σ x (w 0) (w 1) (w 2) (w 3) = some (bcm σ x w, ()) := by
  unfold X1_become
  rw [if_pos h]
  rfl
def zw : Nat → Int32 := fun _ => 0
def InvC (σ : Mem) (l : List (Nat → Int32)) : Prop := σ.1 301 0 0 = nI l.length ∧ l.length ≤ 8 ∧ ∀ j, j < l.length → ∀ f, f < 4 → σ.1 (100 + f) (32 + j) 0 = l.getD j zw f
def PCl (c k : Nat) : Prop := (c = 301 ∧ k = 0) ∨ (100 ≤ c ∧ c ≤ 103 ∧ 32 ≤ k ∧ k < 40)
theorem getDw_lt {l : List (Nat → Int32)} {w : Nat → Int32} {j : Nat} (h : j < l.length) : (l ++ [w]).getD j zw = l.getD j zw := by
  simp [List.getD_eq_getElem?_getD, List.getElem?_append_left h]
theorem getDw_eq {l : List (Nat → Int32)} {w : Nat → Int32} : (l ++ [w]).getD l.length zw = w := by
  simp [List.getD_eq_getElem?_getD]
theorem InvC.sn {σ : Mem} {l : List (Nat → Int32)} {w : Nat → Int32} (h : InvC σ l) (hl : l.length < 8) : InvC (uI (bcm σ (32 + l.length) w) 301 0 0 (nI (l.length + 1))) (l ++ [w]) := by
  refine ⟨by simp [uI_1], by simp; omega, fun j hj f hf => ?_⟩
  simp at hj
  have n3 : ¬ 100 + f = 301 := by omega
  have e : (uI (bcm σ (32 + l.length) w) 301 0 0 (nI (l.length + 1))).1 (100 + f) (32 + j) 0 = (bcm σ (32 + l.length) w).1 (100 + f) (32 + j) 0 := by simp [uI_1, n3]
  rw [e]
  by_cases q : j = l.length
  · subst q
    rw [getDw_eq]
    match f, hf with
    | 0, _ => simp [bcm, uI_1]
    | 1, _ => simp [bcm, uI_1]
    | 2, _ => simp [bcm, uI_1]
    | 3, _ => simp [bcm, uI_1]
    | f + 4, h => omega
  · rw [getDw_lt (by omega), ← h.2.2 j (by omega) f hf]
    simp [bcm, uI_1, q]
theorem X3_read_L {r m : Nat} {g : Nat → Int32} (hr : r < 11) (hm : m ≤ 60) (hml : m ≤ rl r) : ∀ (c i f : Nat) (l : List (Nat → Int32)) (σ : Mem), m ≤ i + c → i ≤ m → c < f → σ.1 401 r 0 = nI m → (∀ j, j < m → σ.1 400 r j = g j) → InvC σ l → ∃ τ, X3_read_L7 r (fun s21 => some (s21, -9)) f σ (nI i) = some (τ, (prs g m (c + 1) i l).1) ∧ Fr PCl σ τ ∧ InvC τ (prs g m (c + 1) i l).2 := by
  intro c
  induction c with
  | zero =>
    intro i f l σ h1 h2 hf hs hg hI
    obtain ⟨q, rfl⟩ : ∃ q, f = q + 1 := ⟨f - 1, by omega⟩
    have e : prs g m 1 i l = (-9, l) := by rw [prs, if_neg (by omega)]
    rw [e]
    refine ⟨σ, ?_, Fr.rf, hI⟩
    rw [X3_read_L7, hs, if_pos (by rw [nle (by omega) (by omega)]; omega)]
  | succ c ih =>
    intro i f l σ h1 h2 hf hs hg hI
    obtain ⟨q, rfl⟩ : ∃ q, f = q + 1 := ⟨f - 1, by omega⟩
    rw [prs]
    by_cases hi : i < m
    case neg =>
      rw [if_neg hi]
      refine ⟨σ, ?_, Fr.rf, hI⟩
      rw [X3_read_L7, hs, if_pos (by rw [nle (by omega) (by omega)]; omega)]
    rw [if_pos hi, X3_read_L7, hs, if_neg (by rw [nle (by omega) (by omega)]; omega), X4_cell_in hr hs hml hi, Option.bind_some]
    dsimp only
    rw [hg i hi]
    by_cases hb : g i = 32
    · rw [if_pos hb, if_pos hb, nadd_r]
      exact ih (i + 1) q l σ (by omega) (by omega) (by omega) hs hg hI
    rw [if_neg hb, if_neg hb, X4_cell_in hr hs hml hi, Option.bind_some]
    dsimp only
    rw [hg i hi, X3_kindOf_n, Option.bind_some]
    dsimp only
    cases hk : kdO (g i) with
    | none =>
      rw [show chI none = -9 from rfl, if_pos rfl]
      exact ⟨σ, rfl, Fr.rf, hI⟩
    | some kd =>
      have k6 := kdO_lt hk
      obtain ⟨n1, n3⟩ := sgn_le kd
      rw [show chI (some kd) = nI kd from rfl, if_neg (nne_neg (by omega) (by decide)), hI.1]
      dsimp only
      have hl8 := hI.2.1
      by_cases hl : l.length < 8
      case neg =>
        rw [if_neg (by rw [nlt_r (by omega) (by decide)]; exact hl), if_neg hl]
        exact ⟨σ, rfl, Fr.rf, hI⟩
      rw [if_pos (by rw [nlt_r (by omega) (by decide)]; exact hl), if_pos hl, X3_signsOf_n k6, Option.bind_some, show (1 : Int32) = nI 1 from rfl]
      dsimp only
      rw [X3_read66_L hr hs hml hg (by omega) n3 (sgn kd) 1 FU (fu_gt (by omega)) (by omega)]
      cases hfl : fltF g m i (sgn kd) 1 with
      | some j => exact ⟨σ, rfl, Fr.rf, hI⟩
      | none =>
        dsimp only
        have nf := fltF_none (sgn kd) 1 hfl
        obtain ⟨-, -, -, -, hlast⟩ := sgA_in (nf (sgn kd) n1 (by omega))
        have fr : Fr PCl σ (uI (bcm σ (32 + l.length) (lwI g m i kd)) 301 0 0 (nI (l.length + 1))) := ((((Fr.uI (Or.inr (by omega))).tr (Fr.uI (Or.inr (by omega)))).tr (Fr.uI (Or.inr (by omega)))).tr (Fr.uI (Or.inr (by omega)))).tr (Fr.uI (Or.inl ⟨rfl, rfl⟩))
        obtain ⟨τ, t1, t2, t3⟩ := ih (i + sgn kd + 1) q (l ++ [lwI g m i kd]) _ (by omega) (by omega) (by omega) (by rw [fr.i (by unfold PCl; omega)]; exact hs) (fun j hj => by rw [fr.i (by unfold PCl; omega)]; exact hg j hj) (hI.sn hl)
        refine ⟨τ, ?_, fr.tr t2, t3⟩
        have sa : ∀ j, j < 1000 → X3_signAt σ r (nI j) = some (σ, sgA g m j) := fun j hj => X3_signAt_n hr hs hml hg (by omega)
        have b301 : (bcm σ (32 + l.length) (lwI g m i kd)).1 301 0 0 = nI l.length := by simp [bcm, uI_1, hI.1]
        have fin : ∀ z0 z1 z2 z3 : Int32, z0 = lwI g m i kd 0 → z1 = lwI g m i kd 1 → z2 = lwI g m i kd 2 → z3 = lwI g m i kd 3 → (X1_become σ (32 + l.length) z0 z1 z2 z3).bind (fun q11 => lt_ ((nI i + nI (sgn kd))) fun (v12 : Int32) => X3_read_L7 r (fun s21 => some (s21, -9)) q ((uI q11.1 301 0 0 (((q11.1.1 301 0 0) + (1 : Int32))))) ((v12 + (1 : Int32)))) = some (τ, (prs g m (c + 1) (i + sgn kd + 1) (l ++ [lwI g m i kd])).1) := by
          rintro _ _ _ _ rfl rfl rfl rfl
          rw [bcm_n (by omega), Option.bind_some, lt_eq]
          dsimp only
          rw [b301, nadd, nadd_r, nadd_r]
          exact t1
        rw [hI.1, ck_n hl (by decide), ncl (by omega), if_pos (by omega), nadd, sa (i + 1) (by omega), Option.bind_some]
        dsimp only
        unfold X3_read_J132
        by_cases q1 : sgn kd ≤ 1
        · have e1 : sgn kd = 1 := by omega
          rw [if_pos (by rw [nle (by omega) (by decide)]; exact q1), if_pos (by rw [nle_r (by omega) (by decide)]; omega)]
          refine fin _ _ _ _ rfl rfl ?_ ?_
          · simp [lwI, e1]
          · simp [lwI, e1]
        · rw [if_neg (by rw [nle (by omega) (by decide)]; exact q1), show nI i + (2 : Int32) = nI (i + 2) from nadd_r i 2, sa (i + 2) (by omega), Option.bind_some]
          dsimp only
          by_cases q2 : sgn kd ≤ 2
          · have e2 : sgn kd = 2 := by omega
            rw [if_pos (by rw [nle_r (by omega) (by decide)]; exact q2)]
            refine fin _ _ _ _ rfl rfl ?_ ?_
            · simp [lwI, e2]
            · simp [lwI, e2]
          · have e3 : sgn kd = 3 := by omega
            rw [if_neg (by rw [nle_r (by omega) (by decide)]; exact q2), show nI i + (3 : Int32) = nI (i + 3) from nadd_r i 3, sa (i + 3) (by omega), Option.bind_some]
            refine fin _ _ _ _ rfl rfl ?_ ?_
            · simp [lwI, e3]
            · simp [lwI, e3]
theorem X3_read_n {σ : Mem} {r m : Nat} {g : Nat → Int32} (hr : r < 11) (hm : m ≤ 60) (hml : m ≤ rl r) (hs : σ.1 401 r 0 = nI m) (hg : ∀ j, j < m → σ.1 400 r j = g j) : ∃ τ, X3_read σ r = some (τ, (prs g m 61 0 []).1) ∧ Fr PCl σ τ ∧ InvC τ (prs g m 61 0 []).2 := by
  have fr : Fr PCl σ (uI σ 301 0 0 0) := Fr.uI (Or.inl ⟨rfl, rfl⟩)
  obtain ⟨τ, t1, t2, t3⟩ := X3_read_L (g := g) hr hm hml 60 0 FU [] (uI σ 301 0 0 0) (by omega) (by omega) (fu_gt (by decide)) (by rw [fr.i (by unfold PCl; omega)]; exact hs) (fun j hj => by rw [fr.i (by unfold PCl; omega)]; exact hg j hj) ⟨by simp [uI_1] <;> rfl, by simp, fun j hj => by simp at hj⟩
  rw [nI_0] at t1
  refine ⟨τ, ?_, fr.tr t2, t3⟩
  unfold X3_read
  rw [if_pos hr]
  exact t1
/-! the model's -/
def TxM (τ : Mem) (t m : Nat) (g : Nat → Int32) : Prop := τ.1 808 0 t = nI m ∧ m ≤ 60 ∧ ∀ j, j < m → τ.1 809 0 (60 * t + j) = g j
def PMr (c _k : Nat) : Prop := c = 812 ∨ c = 813 ∨ c = 814
theorem TxM.fr {τ υ : Mem} {t m : Nat} {g : Nat → Int32} (h : TxM τ t m g) (f : Fr PMr τ υ) : TxM υ t m g := ⟨by rw [f.i (by unfold PMr; omega)]; exact h.1, h.2.1, fun j hj => by rw [f.i (by unfold PMr; omega)]; exact h.2.2 j hj⟩
theorem X8_here_n {τ : Mem} {t m p : Nat} {g : Nat → Int32} (ht : t < 4) (hx : TxM τ t m g) (hp : τ.1 812 0 0 = nI p) (hp2 : p < 1000) : X8_here τ (nI t) = some (τ, cA g m p) := by
  have := hx.2.1
  unfold X8_here cA
  rw [ck_n ht (by decide), ncl (by omega), hx.1, hp]
  by_cases q : p < m
  · rw [if_neg (by rw [nle (by omega) (by omega)]; omega), if_pos q, nmul_l, nadd]
    show ck (nI (60 * t + p)) 240 (some (τ, τ.1 809 0 (nI (60 * t + p)).toNatClampNeg)) = _
    rw [ck_n (by omega) (by decide), ncl (by omega), hx.2.2 p q]
  · rw [if_pos (by rw [nle (by omega) (by omega)]; omega), if_neg q]
theorem X8_kindBy_n {τ : Mem} {v : Int32} : X8_kindBy τ v = some (τ, chI (kdO v)) := by
  unfold X8_kindBy kdO
  by_cases h1 : v = 108
  · rw [if_pos h1, if_pos h1]; rfl
  rw [if_neg h1, if_neg h1]
  by_cases h2 : v = 98
  · rw [if_pos h2, if_pos h2]; rfl
  rw [if_neg h2, if_neg h2]
  by_cases h3 : v = 100
  · rw [if_pos h3, if_pos h3]; rfl
  rw [if_neg h3, if_neg h3]
  by_cases h4 : v = 115
  · rw [if_pos h4, if_pos h4]; rfl
  rw [if_neg h4, if_neg h4]
  by_cases h5 : v = 117
  · rw [if_pos h5, if_pos h5]; rfl
  rw [if_neg h5, if_neg h5]
  by_cases h6 : v = 105
  · rw [if_pos h6, if_pos h6]; rfl
  rw [if_neg h6, if_neg h6]
  rfl
def stM (τ : Mem) (x : Nat) (v : Int32) (p : Nat) : Mem := uI (uI τ 814 0 x v) 812 0 0 (nI p)
theorem stM_p {τ : Mem} {x p : Nat} {v : Int32} : (stM τ x v p).1 812 0 0 = nI p := by simp [stM, uI_1]
theorem stM_fr {τ : Mem} {x p : Nat} {v : Int32} : Fr PMr τ (stM τ x v p) := (Fr.uI (Or.inr (Or.inr rfl))).tr (Fr.uI (Or.inl rfl))
theorem stM_4 {τ : Mem} {x p j : Nat} {v : Int32} : (stM τ x v p).1 814 0 j = if j = x then v else τ.1 814 0 j := by simp [stM, uI_1]
theorem stM_3 {τ : Mem} {x p j : Nat} {v : Int32} : (stM τ x v p).1 813 0 j = τ.1 813 0 j := by simp [stM, uI_1]
theorem rl_yes {τ : Mem} {t m p B q : Nat} {g : Nat → Int32} {x2 : Int32} {kb : Mem → Int32 → Option (Mem × Int32)} {kk : Mem → Option (Mem × Int32)} (ht : t < 4) (hx : TxM τ t m g) (hp : τ.1 812 0 0 = nI p) (hp2 : p < 1000) (hB : B + q < 40) : X8_readsLaw_J94 τ (nI t) x2 (nI B) (nI q) 1 kb kk = if sgA g m p = -9 then some (τ, 0) else kb (stM τ (B + q) (sgA g m p) (p + 1)) (nI q + 1) := by
  have e : (uI τ 814 0 (B + q) (sgA g m p)).1 812 0 0 = nI p := by simp [uI_1, hp]
  unfold X8_readsLaw_J94 X8_readsLaw_J119 X8_readsLaw_J145
  rw [if_neg one_ne0, X8_here_n ht hx hp hp2, Option.bind_some]
  dsimp only
  rw [X8_in_eq, Option.bind_some]
  dsimp only
  by_cases w : sgA g m p = -9
  · have z : (if cA g m p - 65 < 0 then (0 : Int32) else if 5 < cA g m p - 65 then 0 else 1) = 0 := by
      by_cases h1 : cA g m p - 65 < 0
      · rw [if_pos h1]
      · rw [if_neg h1]
        rcases i32_cases (cA g m p - 65) with q1 | ⟨v, v1, v2⟩
        · exact absurd q1 h1
        · rw [v2]
          have : ¬ v < 6 := fun w2 => by
            unfold sgA at w
            rw [v2, if_neg (nnlt0 v1), if_neg (by rw [nle_l v1 (by decide)]; omega)] at w
            exact nne_neg v1 (by decide) w
          rw [if_pos (by rw [nlt_l v1 (by decide)]; omega)]
    rw [z, if_pos rfl, b0, if_pos w]
  · obtain ⟨v, v1, v2, v3, v4⟩ := sgA_in w
    have z : (if cA g m p - 65 < 0 then (0 : Int32) else if 5 < cA g m p - 65 then 0 else 1) = 1 := by
      rw [v3, if_neg (nnlt0 (by omega)), if_neg (by rw [nlt_l (by omega) (by decide)]; omega)]
    rw [z, if_neg one_ne0, if_neg one_ne0, X8_here_n ht hx hp hp2, Option.bind_some, if_neg w]
    dsimp only
    rw [nadd, ck_n hB (by decide), if_neg one_ne0, ncl (by omega), v3, ← v2, e, nadd_r]
    rfl
theorem rl_no {τ : Mem} {t p B q : Nat} {x2 : Int32} {kb : Mem → Int32 → Option (Mem × Int32)} {kk : Mem → Option (Mem × Int32)} (hp : τ.1 812 0 0 = nI p) (hB : B + q < 40) : X8_readsLaw_J94 τ (nI t) x2 (nI B) (nI q) 0 kb kk = kb (stM τ (B + q) (-9) p) (nI q + 1) := by
  have e : (uI τ 814 0 (B + q) (-9)).1 812 0 0 = nI p := by simp [uI_1, hp]
  unfold X8_readsLaw_J94 X8_readsLaw_J119 X8_readsLaw_J145
  rw [if_pos rfl, if_pos rfl, nadd, ck_n hB (by decide), if_pos rfl, ncl (by omega), e, nadd_r]
  rfl
theorem rl_1 {τ : Mem} {t B f : Nat} {kd : Int32} {kk : Mem → Option (Mem × Int32)} : X8_readsLaw_L53 (nI t) kd (nI B) kk (f + 1) τ (nI 1) = X8_readsLaw_J94 τ (nI t) kd (nI B) (nI 1) 1 (X8_readsLaw_L53 (nI t) kd (nI B) kk f) kk := by
  rw [X8_readsLaw_L53, if_neg (show ¬ (4 : Int32) ≤ nI 1 by decide), if_pos (show nI 1 = (1 : Int32) from rfl)]
theorem rl_2 {τ : Mem} {t B f kd : Nat} {kk : Mem → Option (Mem × Int32)} (hk : kd < 6) : X8_readsLaw_L53 (nI t) (nI kd) (nI B) kk (f + 1) τ (nI 2) = X8_readsLaw_J94 τ (nI t) (nI kd) (nI B) (nI 2) (if kd = 1 then 0 else 1) (X8_readsLaw_L53 (nI t) (nI kd) (nI B) kk f) kk := by
  rw [X8_readsLaw_L53, if_neg (show ¬ (4 : Int32) ≤ nI 2 by decide), if_neg (show ¬ nI 2 = (1 : Int32) by decide), if_pos (show nI 2 = (2 : Int32) from rfl)]
  by_cases q : kd = 1
  · rw [if_pos (by rw [q]; rfl), if_pos q, if_neg (show ¬ nI 2 = (3 : Int32) by decide)]
  · rw [if_neg (by rw [neq_r (by omega) (by decide)]; exact q), if_neg q]
theorem rl_3 {τ : Mem} {t B f kd : Nat} {kk : Mem → Option (Mem × Int32)} (hk : kd < 6) : X8_readsLaw_L53 (nI t) (nI kd) (nI B) kk (f + 1) τ (nI 3) = X8_readsLaw_J94 τ (nI t) (nI kd) (nI B) (nI 3) (if kd = 3 ∨ kd = 4 then 1 else 0) (X8_readsLaw_L53 (nI t) (nI kd) (nI B) kk f) kk := by
  rw [X8_readsLaw_L53, if_neg (show ¬ (4 : Int32) ≤ nI 3 by decide), if_neg (show ¬ nI 3 = (1 : Int32) by decide), if_neg (show ¬ nI 3 = (2 : Int32) by decide), if_pos (show nI 3 = (3 : Int32) from rfl), X8_hasZ_n hk, Option.bind_some]
  dsimp only
  by_cases q : kd = 3 ∨ kd = 4
  · rw [if_pos q, if_neg one_ne0]
  · rw [if_neg q, if_pos rfl]
theorem rl_4 {τ : Mem} {t B f : Nat} {kd : Int32} {kk : Mem → Option (Mem × Int32)} : X8_readsLaw_L53 (nI t) kd (nI B) kk (f + 1) τ (nI 4) = kk τ := by
  rw [X8_readsLaw_L53, if_pos (show (4 : Int32) ≤ nI 4 by decide)]
def InvM (τ : Mem) (l : List (Nat → Int32)) (i : Nat) : Prop := τ.1 812 0 0 = nI i ∧ τ.1 813 0 0 = nI l.length ∧ l.length ≤ 8 ∧ ∀ j, j < l.length → ∀ f, f < 4 → τ.1 814 0 (5 * j + f) = l.getD j zw f
theorem f0i {τ τ0 : Mem} {l : List (Nat → Int32)} {i : Nat} {v : Int32} {x : Nat} {y : Int32} (hI : InvM τ l i) (e0 : τ0 = uI (uI τ 812 0 0 v) 814 0 x y) : τ0.1 813 0 0 = nI l.length := by rw [e0]; simp [uI_1, hI.2.1]
/-- an item is read -/
theorem X8_item {τ : Mem} {t m i kd : Nat} {g : Nat → Int32} {l : List (Nat → Int32)} (ht : t < 4) (hx : TxM τ t m g) (hi : i < m) (hI : InvM τ l i) (hk : kdO (g i) = some kd) (hl : l.length < 8) : ∃ υ, Fr PMr τ υ ∧ (match fltF g m i (sgn kd) 1 with | some j => X8_readsLaw τ (nI t) = some (υ, 0) ∧ υ.1 812 0 0 = nI j | none => X8_readsLaw τ (nI t) = some (υ, 1) ∧ InvM υ (l ++ [lwI g m i kd]) (i + sgn kd + 1)) := by
  have k6 := kdO_lt hk
  have hm := hx.2.1
  obtain ⟨τ0, e0⟩ : ∃ τ0, τ0 = uI (uI τ 812 0 0 (nI (i + 1))) 814 0 (5 * l.length) (nI kd) := ⟨_, rfl⟩
  have f0 : Fr PMr τ τ0 := by rw [e0]; exact (Fr.uI (Or.inl rfl)).tr (Fr.uI (Or.inr (Or.inr rfl)))
  have p0 : τ0.1 812 0 0 = nI (i + 1) := by rw [e0]; simp [uI_1]
  have s4 : ∀ j, τ0.1 814 0 j = if j = 5 * l.length then nI kd else τ.1 814 0 j := fun j => by rw [e0]; simp [uI_1]
  have s3 : τ0.1 813 0 0 = nI l.length := f0i hI e0
  have st : X8_readsLaw τ (nI t) = X8_readsLaw_L53 (nI t) (nI kd) (nI (5 * l.length)) (fun (s12 : Mem) => some ((uI s12 813 0 0 (((s12.1 813 0 0) + (1 : Int32)))), (1 : Int32))) FU τ0 (nI 1) := by
    unfold X8_readsLaw
    rw [X8_here_n ht hx hI.1 (by omega), Option.bind_some]
    dsimp only
    have ec : cA g m i = g i := by unfold cA; rw [if_pos hi]
    rw [ec, X8_kindBy_n, Option.bind_some, hk]
    dsimp only
    rw [show chI (some kd) = nI kd from rfl, if_neg (nne_neg (by omega) (by decide)), hI.2.1, if_neg (by rw [neq_r (by omega) (by decide)]; show ¬ l.length = 8; omega), lt_eq, hI.1, nadd_r]
    have e3 : (uI τ 812 0 0 (nI (i + 1))).1 813 0 0 = nI l.length := by simp [uI_1, hI.2.1]
    show ck ((5 : Int32) * (uI τ 812 0 0 (nI (i + 1))).1 813 0 0) 40 (X8_readsLaw_L53 (nI t) (nI kd) ((5 : Int32) * (uI τ 812 0 0 (nI (i + 1))).1 813 0 0) _ FU (uI (uI τ 812 0 0 (nI (i + 1))) 814 0 ((5 : Int32) * (uI τ 812 0 0 (nI (i + 1))).1 813 0 0).toNatClampNeg (nI kd)) 1) = _
    rw [e3, nmul_l, ck_n (by show 5 * l.length < 40; omega) (by decide)]
    show X8_readsLaw_L53 (nI t) (nI kd) (nI (5 * l.length)) _ FU (uI (uI τ 812 0 0 (nI (i + 1))) 814 0 (nI (5 * l.length)).toNatClampNeg (nI kd)) (nI 1) = _
    rw [ncl (by omega), ← e0]
    congr 1
  have fin : ∀ (υ : Mem) (p : Nat), Fr PMr τ υ → υ.1 812 0 0 = nI p → υ.1 813 0 0 = nI l.length → p = i + sgn kd + 1 → (∀ j, υ.1 814 0 j = if j = 5 * l.length + 3 then lwI g m i kd 3 else if j = 5 * l.length + 2 then lwI g m i kd 2 else if j = 5 * l.length + 1 then lwI g m i kd 1 else if j = 5 * l.length then lwI g m i kd 0 else τ.1 814 0 j) → InvM (uI υ 813 0 0 (nI (l.length + 1))) (l ++ [lwI g m i kd]) (i + sgn kd + 1) := by
    intro υ p hF hp h3 ep h4
    subst ep
    refine ⟨by simpa [uI_1] using hp, by simp [uI_1], by simp; omega, fun j hj f hf => ?_⟩
    simp at hj
    have e : (uI υ 813 0 0 (nI (l.length + 1))).1 814 0 (5 * j + f) = υ.1 814 0 (5 * j + f) := by simp [uI_1]
    rw [e, h4]
    by_cases q : j = l.length
    · subst q
      rw [getDw_eq]
      match f, hf with
      | 0, _ => simp
      | 1, _ => simp
      | 2, _ => simp
      | 3, _ => simp
      | f + 4, h => omega
    · rw [getDw_lt (by omega), if_neg (by omega), if_neg (by omega), if_neg (by omega), if_neg (by omega), hI.2.2.2 j (by omega) f hf]
  have fuel : FU = 99996 + 1 + 1 + 1 + 1 := rfl
  have l0 : lwI g m i kd 0 = nI kd := rfl
  have l1 : lwI g m i kd 1 = sgA g m (i + 1) := rfl
  have x0 := hx.fr f0
  rw [st, fuel, rl_1, rl_yes ht x0 p0 (by omega) (by omega)]
  by_cases w1 : sgA g m (i + 1) = -9
  · have ef : fltF g m i (sgn kd) 1 = some (i + 1) := by
      obtain ⟨d, hd⟩ : ∃ d, sgn kd = d + 1 := ⟨sgn kd - 1, by have := (sgn_le kd).1; omega⟩
      rw [hd, fltF, if_pos w1]
    rw [ef, if_pos w1]
    exact ⟨τ0, f0, rfl, p0⟩
  rw [if_neg w1, show nI 1 + (1 : Int32) = nI 2 from rfl, rl_2 k6]
  obtain ⟨τ1, e1⟩ : ∃ τ1, τ1 = stM τ0 (5 * l.length + 1) (sgA g m (i + 1)) (i + 1 + 1) := ⟨_, rfl⟩
  have f1 : Fr PMr τ τ1 := by rw [e1]; exact f0.tr stM_fr
  have p1 : τ1.1 812 0 0 = nI (i + 2) := by rw [e1, stM_p]
  have q3 : τ1.1 813 0 0 = nI l.length := by rw [e1, stM_3]; exact s3
  rw [← e1]
  by_cases w2 : kd = 1
  · have es : sgn kd = 1 := by unfold sgn; rw [if_pos w2]
    have ef : fltF g m i (sgn kd) 1 = none := by rw [es, fltF, if_neg w1]; rfl
    rw [ef, if_pos w2, rl_no p1 (by omega), show nI 2 + (1 : Int32) = nI 3 from rfl, rl_3 k6, if_neg (by omega), rl_no stM_p (by omega), show nI 3 + (1 : Int32) = nI 4 from rfl, rl_4]
    have k3 : (stM (stM τ1 (5 * l.length + 2) (-9) (i + 2)) (5 * l.length + 3) (-9) (i + 2)).1 813 0 0 = nI l.length := by rw [stM_3, stM_3]; exact q3
    rw [k3, nadd_r]
    refine ⟨_, ((f1.tr stM_fr).tr stM_fr).tr (Fr.uI (Or.inr (Or.inl rfl))), rfl, fin _ (i + 2) ((f1.tr stM_fr).tr stM_fr) stM_p k3 (by omega) (fun j => ?_)⟩
    rw [stM_4, stM_4, e1, stM_4, s4, l0, l1]
    simp [lwI, es]
  · have es : 2 ≤ sgn kd := by unfold sgn; rw [if_neg w2]; split <;> omega
    rw [if_neg w2, rl_yes ht (hx.fr f1) p1 (by omega) (by omega)]
    by_cases w3 : sgA g m (i + 2) = -9
    · have ef : fltF g m i (sgn kd) 1 = some (i + 2) := by
        obtain ⟨d, hd⟩ : ∃ d, sgn kd = d + 1 + 1 := ⟨sgn kd - 2, by omega⟩
        rw [hd, fltF, if_neg w1, fltF, if_pos w3]
      rw [ef, if_pos w3]
      exact ⟨τ1, f1, rfl, p1⟩
    rw [if_neg w3, show nI 2 + (1 : Int32) = nI 3 from rfl, rl_3 k6]
    obtain ⟨τ2, e2⟩ : ∃ τ2, τ2 = stM τ1 (5 * l.length + 2) (sgA g m (i + 2)) (i + 2 + 1) := ⟨_, rfl⟩
    have f2 : Fr PMr τ τ2 := by rw [e2]; exact f1.tr stM_fr
    have p2 : τ2.1 812 0 0 = nI (i + 3) := by rw [e2, stM_p]
    have r3 : τ2.1 813 0 0 = nI l.length := by rw [e2, stM_3]; exact q3
    rw [← e2]
    by_cases w4 : kd = 3 ∨ kd = 4
    · have es3 : sgn kd = 3 := by unfold sgn; rw [if_neg w2, if_pos w4]
      rw [if_pos w4, rl_yes ht (hx.fr f2) p2 (by omega) (by omega)]
      by_cases w5 : sgA g m (i + 3) = -9
      · have ef : fltF g m i (sgn kd) 1 = some (i + 3) := by
          rw [es3, fltF, if_neg w1, fltF, if_neg w3, fltF, if_pos w5]
        rw [ef, if_pos w5]
        exact ⟨τ2, f2, rfl, p2⟩
      have ef : fltF g m i (sgn kd) 1 = none := by rw [es3, fltF, if_neg w1, fltF, if_neg w3, fltF, if_neg w5]; rfl
      rw [ef, if_neg w5, show nI 3 + (1 : Int32) = nI 4 from rfl, rl_4]
      have k3 : (stM τ2 (5 * l.length + 3) (sgA g m (i + 3)) (i + 3 + 1)).1 813 0 0 = nI l.length := by rw [stM_3]; exact r3
      rw [k3, nadd_r]
      refine ⟨_, (f2.tr stM_fr).tr (Fr.uI (Or.inr (Or.inl rfl))), rfl, fin _ (i + 3 + 1) (f2.tr stM_fr) stM_p k3 (by omega) (fun j => ?_)⟩
      rw [stM_4, e2, stM_4, e1, stM_4, s4, l0, l1]
      simp [lwI, es3]
    · have es2 : sgn kd = 2 := by unfold sgn; rw [if_neg w2, if_neg w4]
      have ef : fltF g m i (sgn kd) 1 = none := by rw [es2, fltF, if_neg w1, fltF, if_neg w3]; rfl
      rw [ef, if_neg w4, rl_no p2 (by omega), show nI 3 + (1 : Int32) = nI 4 from rfl, rl_4]
      have k3 : (stM τ2 (5 * l.length + 3) (-9) (i + 3)).1 813 0 0 = nI l.length := by rw [stM_3]; exact r3
      rw [k3, nadd_r]
      refine ⟨_, (f2.tr stM_fr).tr (Fr.uI (Or.inr (Or.inl rfl))), rfl, fin _ (i + 3) (f2.tr stM_fr) stM_p k3 (by omega) (fun j => ?_)⟩
      rw [stM_4, e2, stM_4, e1, stM_4, s4, l0, l1]
      simp [lwI, es2]
theorem X8_goesOn_L {t m : Nat} {g : Nat → Int32} (ht : t < 4) (hm : m ≤ 60) : ∀ (c i f : Nat) (l : List (Nat → Int32)) (τ : Mem), m ≤ i + c → i ≤ m → c < f → TxM τ t m g → InvM τ l i → ∃ υ, X8_goesOn_L10 (nI t) (fun (s4 : Mem) => (some (s4, (s4.1 812 0 0)))) (fun (s6 : Mem) => (some (s6, (-9 : Int32)))) f τ = some (υ, (prs g m (c + 1) i l).1) ∧ Fr PMr τ υ ∧ ((prs g m (c + 1) i l).1 = -9 → ∃ i', InvM υ (prs g m (c + 1) i l).2 i') := by
  intro c
  induction c with
  | zero =>
    intro i f l τ h1 h2 hf hx hI
    obtain ⟨q, rfl⟩ : ∃ q, f = q + 1 := ⟨f - 1, by omega⟩
    have e : prs g m 1 i l = (-9, l) := by rw [prs, if_neg (by omega)]
    rw [e]
    refine ⟨τ, ?_, Fr.rf, fun _ => ⟨i, hI⟩⟩
    rw [X8_goesOn_L10, ck_n ht (by decide), ncl (by omega), hx.1, hI.1, if_pos (by rw [nle (by omega) (by omega)]; omega)]
  | succ c ih =>
    intro i f l τ h1 h2 hf hx hI
    obtain ⟨q, rfl⟩ : ∃ q, f = q + 1 := ⟨f - 1, by omega⟩
    rw [prs]
    by_cases hi : i < m
    case neg =>
      rw [if_neg hi]
      refine ⟨τ, ?_, Fr.rf, fun _ => ⟨i, hI⟩⟩
      rw [X8_goesOn_L10, ck_n ht (by decide), ncl (by omega), hx.1, hI.1, if_pos (by rw [nle (by omega) (by omega)]; omega)]
    have ec : cA g m i = g i := by unfold cA; rw [if_pos hi]
    rw [if_pos hi, X8_goesOn_L10, ck_n ht (by decide), ncl (by omega), hx.1, hI.1, if_neg (by rw [nle (by omega) (by omega)]; omega), X8_here_n ht hx hI.1 (by omega), Option.bind_some]
    dsimp only
    rw [ec]
    by_cases hb : g i = 32
    · have fr : Fr PMr τ (uI τ 812 0 0 (nI (i + 1))) := Fr.uI (Or.inl rfl)
      obtain ⟨υ, u1, u2, u3⟩ := ih (i + 1) q l (uI τ 812 0 0 (nI (i + 1))) (by omega) (by omega) (by omega) (hx.fr fr) ⟨by simp [uI_1], by simpa [uI_1] using hI.2.1, hI.2.2.1, fun j hj f hf => by simpa [uI_1] using hI.2.2.2 j hj f hf⟩
      refine ⟨υ, ?_, fr.tr u2, ?_⟩
      · rw [if_pos hb, if_pos hb, hI.1, nadd_r]
        exact u1
      · rw [if_pos hb]
        exact u3
    rw [if_neg hb, if_neg hb]
    cases hk : kdO (g i) with
    | none =>
      dsimp only
      have er : X8_readsLaw τ (nI t) = some (τ, 0) := by
        unfold X8_readsLaw
        rw [X8_here_n ht hx hI.1 (by omega), Option.bind_some]
        dsimp only
        rw [ec, X8_kindBy_n, Option.bind_some, hk]
        dsimp only
        rw [show chI none = -9 from rfl, if_pos rfl, b0]
      rw [er, Option.bind_some]
      dsimp only
      rw [if_pos rfl, hI.1]
      exact ⟨τ, rfl, Fr.rf, fun w => absurd w (nne_neg (by omega) (by decide))⟩
    | some kd =>
      dsimp only
      have k6 := kdO_lt hk
      by_cases hl : l.length < 8
      case neg =>
        have hl8 := hI.2.2.1
        have er : X8_readsLaw τ (nI t) = some (τ, 0) := by
          unfold X8_readsLaw
          rw [X8_here_n ht hx hI.1 (by omega), Option.bind_some]
          dsimp only
          rw [ec, X8_kindBy_n, Option.bind_some, hk]
          dsimp only
          rw [show chI (some kd) = nI kd from rfl, if_neg (nne_neg (by omega) (by decide)), hI.2.1, if_pos (by rw [neq_r (by omega) (by decide)]; show l.length = 8; omega), b0]
        rw [if_neg hl, er, Option.bind_some]
        dsimp only
        rw [if_pos rfl, hI.1]
        exact ⟨τ, rfl, Fr.rf, fun w => absurd w (nne_neg (by omega) (by decide))⟩
      rw [if_pos hl]
      obtain ⟨υ0, v1, v2⟩ := X8_item ht hx hi hI hk hl
      cases hfl : fltF g m i (sgn kd) 1 with
      | some j =>
        rw [hfl] at v2
        obtain ⟨v2, v3⟩ := v2
        have hj := fltF_some (sgn kd) 1 hfl
        have := (sgn_le kd).2
        dsimp only
        rw [v2, Option.bind_some]
        dsimp only
        rw [if_pos rfl, v3]
        exact ⟨υ0, rfl, v1, fun w => absurd w (nne_neg (by omega) (by decide))⟩
      | none =>
        rw [hfl] at v2
        obtain ⟨v2, v3⟩ := v2
        have nf := fltF_none (sgn kd) 1 hfl
        obtain ⟨n1, n3⟩ := sgn_le kd
        obtain ⟨-, -, -, -, hlast⟩ := sgA_in (nf (sgn kd) n1 (by omega))
        dsimp only
        rw [v2, Option.bind_some]
        dsimp only
        rw [if_neg one_ne0]
        obtain ⟨υ, u1, u2, u3⟩ := ih (i + sgn kd + 1) q (l ++ [lwI g m i kd]) υ0 (by omega) (by omega) (by omega) (hx.fr v1) v3
        exact ⟨υ, u1, v1.tr u2, u3⟩
theorem X8_goesOn_n {τ : Mem} {t m : Nat} {g : Nat → Int32} (ht : t < 4) (hx : TxM τ t m g) : ∃ υ, X8_goesOn τ (nI t) = some (υ, (prs g m 61 0 []).1) ∧ Fr PMr τ υ ∧ ((prs g m 61 0 []).1 = -9 → ∃ i', InvM υ (prs g m 61 0 []).2 i') := by
  have hm := hx.2.1
  have fr : Fr PMr τ (uI (uI τ 812 0 0 0) 813 0 0 0) := (Fr.uI (Or.inl rfl)).tr (Fr.uI (Or.inr (Or.inl rfl)))
  obtain ⟨υ, u1, u2, u3⟩ := X8_goesOn_L ht hm 60 0 FU [] (uI (uI τ 812 0 0 0) 813 0 0 0) (by omega) (by omega) (fu_gt (by decide)) (hx.fr fr) ⟨by simp [uI_1] <;> rfl, by simp [uI_1] <;> rfl, by simp, fun j hj => by simp at hj⟩
  exact ⟨υ, u1, fr.tr u2, u3⟩
