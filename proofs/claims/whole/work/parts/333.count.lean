/-! count -/
def tqB (w : Nat) (s5 s8 s9 : Nat → Int32) (i : Nat) : Bool := (decide (w = 6) && decide (i < 6) && decide (0 ≤ s5 i)) || (decide (w = 7) && decide (i < 4) && decide (0 ≤ s8 i)) || (decide (w = 8) && decide (i < 3) && decide (s9 (727 * i) ≠ -9))
def tlB (w n : Nat) (T : Nat → Nat → Int32) (i : Nat) : Bool := decide (i < n) && ((decide (w = 1) && decide (T i 4 = 0)) || (decide (w = 4) && isOfB 2 (T i 0).toNatClampNeg) || (decide (w = 5) && isOfB 3 (T i 0).toNatClampNeg))
def tpB (w n : Nat) (T : Nat → Nat → Int32) (s5 s8 s9 : Nat → Int32) (i : Nat) : Bool := tlB w n T i || tqB w s5 s8 s9 i
theorem tl_151 {σ : Mem} {w i : Nat} {x3 z0 : Int32} {kb : Mem → Int32 → Int32 → Int32 → Option (Mem × Int32)} {kk : Mem → Int32 → Int32 → Option (Mem × Int32)} (hw : w < 9) (hi : i < 8) : X8_tells_J151 σ (nI w) x3 (nI i) z0 kb kk = kb σ (z0 + bI (decide (w = 8) && decide (i < 3) && decide (σ.1 829 0 (727 * i) ≠ -9))) x3 (nI i + 1) := by
  unfold X8_tells_J151
  by_cases e : w = 8
  · subst e
    rw [if_pos (show nI 8 = (8 : Int32) from rfl)]
    by_cases q : i < 3
    · rw [if_neg (by rw [nle_l (by omega) (by decide)]; omega), nmul_l]
      show ck (nI (727 * i)) 2181 (if σ.1 829 0 (nI (727 * i)).toNatClampNeg = -9 then _ else _) = _
      rw [ck_n (by omega) (by decide), ncl (by omega)]
      by_cases q2 : σ.1 829 0 (727 * i) = -9
      · rw [if_pos q2, lt_eq]
        simp [q, q2, bI]
      · rw [if_neg q2, lt_eq]
        simp [q, q2, bI]
    · rw [if_pos (by rw [nle_l (by omega) (by decide)]; omega), lt_eq]
      simp [q, bI]
  · rw [if_neg (by rw [neq_r (by omega) (by decide)]; exact e), lt_eq]
    simp [e, bI]
theorem tl_129 {σ : Mem} {w i : Nat} {x3 z0 : Int32} {kb : Mem → Int32 → Int32 → Int32 → Option (Mem × Int32)} {kk : Mem → Int32 → Int32 → Option (Mem × Int32)} (hw : w < 9) (hi : i < 8) : X8_tells_J129 σ (nI w) x3 (nI i) z0 kb kk = kb σ (z0 + bI ((decide (w = 7) && decide (i < 4) && decide (0 ≤ σ.1 808 0 i)) || (decide (w = 8) && decide (i < 3) && decide (σ.1 829 0 (727 * i) ≠ -9)))) x3 (nI i + 1) := by
  unfold X8_tells_J129
  rw [tl_151 hw hi]
  by_cases e : w = 7
  · subst e
    rw [if_pos (show nI 7 = (7 : Int32) from rfl)]
    by_cases q : i < 4
    · rw [if_neg (by rw [nle_l (by omega) (by decide)]; omega), ck_n q (by decide), ncl (by omega)]
      by_cases q2 : 0 ≤ σ.1 808 0 i
      · rw [if_pos q2, lt_eq]
        simp [q, q2, bI]
      · rw [if_neg q2]
        simp [q2]
    · rw [if_pos (by rw [nle_l (by omega) (by decide)]; omega)]
      simp [q]
  · rw [if_neg (by rw [neq_r (by omega) (by decide)]; exact e)]
    simp [e]
theorem tl_98 {σ : Mem} {w i : Nat} {x2 x3 : Int32} {kb : Mem → Int32 → Int32 → Int32 → Option (Mem × Int32)} {kk : Mem → Int32 → Int32 → Option (Mem × Int32)} (hw : w < 9) (hi : i < 8) : X8_tells_J98 σ (nI w) x2 x3 (nI i) 0 kb kk = kb σ (x2 + bI (tqB w (fun j => σ.1 805 0 j) (fun j => σ.1 808 0 j) (fun j => σ.1 829 0 j) i)) x3 (nI i + 1) := by
  unfold X8_tells_J98 tqB
  rw [if_pos rfl, tl_129 hw hi]
  by_cases e : w = 6
  · subst e
    rw [if_pos (show nI 6 = (6 : Int32) from rfl)]
    by_cases q : i < 6
    · rw [if_neg (by rw [nle_l (by omega) (by decide)]; omega), ck_n q (by decide), ncl (by omega)]
      by_cases q2 : 0 ≤ σ.1 805 0 i
      · rw [if_pos q2, lt_eq]
        simp [q, q2, bI]
      · rw [if_neg q2]
        simp [q2]
    · rw [if_pos (by rw [nle_l (by omega) (by decide)]; omega)]
      simp [q]
  · rw [if_neg (by rw [neq_r (by omega) (by decide)]; exact e)]
    simp [e]
theorem tl_98_1 {σ : Mem} {w i : Nat} {x2 x3 : Int32} {kb : Mem → Int32 → Int32 → Int32 → Option (Mem × Int32)} {kk : Mem → Int32 → Int32 → Option (Mem × Int32)} : X8_tells_J98 σ (nI w) x2 x3 (nI i) 1 kb kk = kb σ (x2 + 1) x3 (nI i + 1) := by
  unfold X8_tells_J98
  rw [if_neg one_ne0, lt_eq]
theorem TV.kd {T : Nat → Nat → Int32} {n k : Nat} (h : TV T n) (hk : k < n) : T k 0 = nI (T k 0).toNatClampNeg ∧ (T k 0).toNatClampNeg < 6 := by
  obtain ⟨kd, x, h1, h2, h3, -⟩ := h k hk
  rw [h3, ncl (by omega)]
  exact ⟨rfl, h1⟩
theorem tl_33 {σ : Mem} {w i n : Nat} {T : Nat → Nat → Int32} {x2 z0 z1 : Int32} {kb : Mem → Int32 → Int32 → Int32 → Option (Mem × Int32)} {kk : Mem → Int32 → Int32 → Option (Mem × Int32)} (hM : ML8 σ n T) (hT : TV T n) (hw : w < 9) (hi : i < 8) : X8_tells_J33 σ (nI w) x2 (nI i) z0 z1 kb kk = kb σ (x2 + bI (tpB w n T (fun j => σ.1 805 0 j) (fun j => σ.1 808 0 j) (fun j => σ.1 829 0 j) i)) (z1 + z0) (nI i + 1) := by
  have h8 := hM.2.1
  unfold X8_tells_J33
  rw [lt_eq, hM.1]
  by_cases hin : i < n
  · rw [if_neg (by rw [nle (by omega) (by omega)]; omega)]
    obtain ⟨k1, k2⟩ := hT.kd hin
    have e4 : σ.1 811 0 (5 * i + 4) = T i 4 := hM.2.2 i hin 4 (by decide)
    have e0 : σ.1 811 0 (5 * i) = nI (T i 0).toNatClampNeg := (hM.2.2 i hin 0 (by decide)).trans k1
    have j78 : X8_tells_J78 σ (nI w) x2 (z1 + z0) (nI i) kb kk = if (decide (w = 5) && isOfB 3 (T i 0).toNatClampNeg) = true then kb σ (x2 + 1) (z1 + z0) (nI i + 1) else X8_tells_J98 σ (nI w) x2 (z1 + z0) (nI i) 0 kb kk := by
      unfold X8_tells_J78
      by_cases e : w = 5
      · subst e
        rw [if_pos (show nI 5 = (5 : Int32) from rfl), show (3 : Int32) = nI 3 from rfl, X8_isA_n hi e0 k2 (by decide) (by decide)]
        dsimp only [Option.bind_some]
        cases hb : isOfB 3 (T i 0).toNatClampNeg with
        | true => rw [bI_t, if_neg one_ne0, tl_98_1, if_pos (by simp)]
        | false => rw [bI_f, if_pos rfl, if_neg (by simp)]
      · rw [if_neg (by rw [neq_r (by omega) (by decide)]; exact e), if_neg (by simp [e])]
    rw [j78]
    have fin : ∀ b : Bool, tlB w n T i = b → (if b = true then kb σ (x2 + 1) (z1 + z0) (nI i + 1) else X8_tells_J98 σ (nI w) x2 (z1 + z0) (nI i) 0 kb kk) = kb σ (x2 + bI (tpB w n T (fun j => σ.1 805 0 j) (fun j => σ.1 808 0 j) (fun j => σ.1 829 0 j) i)) (z1 + z0) (nI i + 1) := by
      intro b hb
      unfold tpB
      rw [hb]
      cases b with
      | true => rw [if_pos rfl, Bool.true_or]; rfl
      | false => rw [if_neg (by decide), tl_98 hw hi, Bool.false_or]
    by_cases e1 : w = 1
    · subst e1
      rw [if_pos (show nI 1 = (1 : Int32) from rfl), nmul_l, nadd_r]
      show ck (nI (5 * i + 4)) 40 (if σ.1 811 0 (nI (5 * i + 4)).toNatClampNeg = 0 then _ else _) = _
      rw [ck_n (by omega) (by decide), ncl (by omega), e4]
      by_cases q : T i 4 = 0
      · rw [if_pos q, tl_98_1, ← fin true (by simp [tlB, hin, q]), if_pos rfl]
      · rw [if_neg q, if_neg (show ¬ nI 1 = (4 : Int32) by decide), if_neg (by simp), ← fin false (by simp [tlB, q]), if_neg (by decide)]
    · rw [if_neg (by rw [neq_r (by omega) (by decide)]; exact e1)]
      by_cases e2 : w = 4
      · subst e2
        rw [if_pos (show nI 4 = (4 : Int32) from rfl), show (2 : Int32) = nI 2 from rfl, X8_isA_n hi e0 k2 (by decide) (by decide)]
        dsimp only [Option.bind_some]
        cases hb : isOfB 2 (T i 0).toNatClampNeg with
        | true => rw [bI_t, if_neg one_ne0, tl_98_1, ← fin true (by simp [tlB, hin, hb]), if_pos rfl]
        | false =>
          rw [bI_f, if_pos rfl]
          have := j78
          rw [if_neg (by simp)] at this
          rw [this, ← fin false (by simp [tlB, hb]), if_neg (by decide)]
      · rw [if_neg (by rw [neq_r (by omega) (by decide)]; exact e2)]
        refine fin _ ?_
        simp [tlB, hin, e1, e2]
  · rw [if_pos (by rw [nle (by omega) (by omega)]; omega), tl_98 hw hi]
    simp [tpB, tlB, hin]
def inkS (g : Nat → Int32) (k : Nat) (a : Int32) : Int32 := a + (if k < 6 then g k else 0)
theorem bI_nI (b : Bool) : bI b = nI (if b = true then 1 else 0) := by cases b <;> rfl
theorem X8_tells_L {σ : Mem} {w n : Nat} {T : Nat → Nat → Int32} {kk : Mem → Int32 → Int32 → Option (Mem × Int32)} (hM : ML8 σ n T) (hT : TV T n) (hw : w < 9) : ∀ (c i f a : Nat) (s : Int32), c < f → i + c = 8 → X8_tells_L7 (nI w) kk f σ (nI a) s (nI i) = kk σ (nI (a + cn (tpB w n T (fun j => σ.1 805 0 j) (fun j => σ.1 808 0 j) (fun j => σ.1 829 0 j)) c i)) (fo (inkS (fun j => σ.1 827 0 j)) c i s) := by
  intro c
  induction c with
  | zero =>
    intro i f a s hf he
    obtain ⟨g, rfl⟩ : ∃ g, f = g + 1 := ⟨f - 1, by omega⟩
    rw [X8_tells_L7, if_pos (by rw [nle_l (by omega) (by decide)]; omega)]
    rfl
  | succ c ih =>
    intro i f a s hf he
    obtain ⟨g, rfl⟩ : ∃ g, f = g + 1 := ⟨f - 1, by omega⟩
    have st : X8_tells_L7 (nI w) kk (g + 1) σ (nI a) s (nI i) = X8_tells_L7 (nI w) kk g σ (nI a + bI (tpB w n T (fun j => σ.1 805 0 j) (fun j => σ.1 808 0 j) (fun j => σ.1 829 0 j) i)) (inkS (fun j => σ.1 827 0 j) i s) (nI i + 1) := by
      rw [X8_tells_L7, if_neg (by rw [nle_l (by omega) (by decide)]; omega)]
      unfold inkS
      by_cases q : i < 6
      · rw [if_neg (by rw [nle_l (by omega) (by decide)]; omega), ck_n q (by decide), ncl (by omega), tl_33 hM hT hw (by omega), if_pos q]
      · rw [if_pos (by rw [nle_l (by omega) (by decide)]; omega), tl_33 hM hT hw (by omega), if_neg q]
    rw [st, bI_nI, nadd, nadd_r, ih (i + 1) g _ _ (by omega) (by omega), cn, fo, Nat.add_assoc]
/-- what both tell -/
def cntV (w n : Nat) (T : Nat → Nat → Int32) (s5 s8 s9 s7 : Nat → Int32) (d : Int32) : Int32 := if w = 0 then nI n else if w = 2 then d else if w = 3 then fo (inkS s7) 8 0 0 else nI (cn (tpB w n T s5 s8 s9) 8 0)
theorem X8_tells_n {σ : Mem} {w n : Nat} {T : Nat → Nat → Int32} (hM : ML8 σ n T) (hT : TV T n) (hw : w < 9) : X8_tells σ (nI w) = some (σ, cntV w n T (fun j => σ.1 805 0 j) (fun j => σ.1 808 0 j) (fun j => σ.1 829 0 j) (fun j => σ.1 827 0 j) (σ.1 826 0 0)) := by
  unfold X8_tells
  refine (X8_tells_L hM hT hw 8 0 FU 0 0 (by decide) (by decide)).trans ?_
  unfold cntV
  rw [Nat.zero_add]
  by_cases e0 : w = 0
  · subst e0
    rw [if_pos (show nI 0 = 0 from rfl), if_pos rfl, hM.1]
  rw [if_neg (show ¬ nI w = (0 : Int32) by rw [show (0 : Int32) = nI 0 from rfl, neq (by omega) (by decide)]; exact e0), if_neg e0]
  by_cases e2 : w = 2
  · subst e2
    rw [if_pos (show nI 2 = 2 from rfl), if_pos rfl]
  rw [if_neg (by rw [neq_r (by omega) (by decide)]; exact e2), if_neg e2]
  by_cases e3 : w = 3
  · subst e3
    rw [if_pos (show nI 3 = 3 from rfl), if_pos rfl]
  rw [if_neg (by rw [neq_r (by omega) (by decide)]; exact e3), if_neg e3]
theorem popF_cn (v : Nat) : ∀ c k, popF v c k = cn (fun j => v.testBit j) c k := by
  intro c
  induction c with
  | zero => intro k; rfl
  | succ c ih =>
    intro k
    rw [popF, cn, ih, tb_div]
    congr 1
    have : v / 2 ^ k % 2 < 2 := Nat.mod_lt _ (by decide)
    by_cases q : v / 2 ^ k % 2 = 1
    · simp [q]
    · simp [q]; omega
theorem cn_to8 {p q : Nat → Bool} {m : Nat} (hm : m ≤ 8) (h1 : ∀ j, j < m → p j = q j) (h2 : ∀ j, m ≤ j → j < 8 → q j = false) : cn p m 0 = cn q 8 0 := by
  have := cn_add (p := q) m (8 - m) 0
  rw [show m + (8 - m) = 8 by omega] at this
  rw [this, cn_no (p := q) (8 - m) (0 + m) (fun j a b => h2 j (by omega) (by omega)), Nat.add_zero]
  exact cn_cg m 0 (fun j _ b => h1 j (by omega))
theorem X2_lawsOfKind_L {σ : Mem} {p n q : Nat} {T : Nat → Nat → Int32} {kk : Mem → Int32 → Option (Mem × Int32)} (hP : PL σ p n T) (hT : TV T n) (hq : q < 6) : ∀ (c i f a : Nat), c < f → i + c = n → X2_lawsOfKind_L4 p (nI q) kk f σ (nI a) (nI i) = kk σ (nI (a + cn (fun j => isOfB q (T j 0).toNatClampNeg) c i)) := by
  intro c
  have h8 := hP.2.1
  induction c with
  | zero =>
    intro i f a hf he
    obtain ⟨g, rfl⟩ : ∃ g, f = g + 1 := ⟨f - 1, by omega⟩
    rw [X2_lawsOfKind_L4, hP.1, if_pos (by rw [nle (by omega) (by omega)]; omega)]
    rfl
  | succ c ih =>
    intro i f a hf he
    obtain ⟨g, rfl⟩ : ∃ g, f = g + 1 := ⟨f - 1, by omega⟩
    obtain ⟨x, x1, x2, x3⟩ := hP.2.2 i (by omega)
    obtain ⟨k1, k2⟩ := hT.kd (show i < n by omega)
    have x4 : σ.1 100 x 0 = nI (T i 0).toNatClampNeg := (x3 0 (by decide)).trans k1
    rw [X2_lawsOfKind_L4, hP.1, if_neg (by rw [nle (by omega) (by omega)]; omega), ck_n (by omega) (by decide), ncl (by omega), x1, spl_some x2, X1_isOf_n x2 x4 k2 hq, cn]
    dsimp only [Option.bind_some]
    cases e : isOfB q (T i 0).toNatClampNeg with
    | true =>
      rw [bI_t, if_neg one_ne0, lt_eq, nadd_r, nadd_r, ih (i + 1) g _ (by omega) (by omega)]
      simp [Nat.add_assoc]
    | false =>
      rw [bI_f, if_pos rfl, lt_eq, nadd_r, nadd_r, ih (i + 1) g _ (by omega) (by omega)]
      simp
theorem X2_inksInAll_L {σ : Mem} {p : Nat} {kk : Mem → Int32 → Option (Mem × Int32)} : ∀ (c i f : Nat) (s : Int32), c < f → i + c = 6 → X2_inksInAll_L4 p kk f σ s (nI i) = kk σ (fo (inkS (fun j => σ.1 202 p j)) c i s) := by
  intro c
  induction c with
  | zero =>
    intro i f s hf he
    obtain ⟨g, rfl⟩ : ∃ g, f = g + 1 := ⟨f - 1, by omega⟩
    rw [X2_inksInAll_L4, if_pos (by rw [nle_l (by omega) (by decide)]; omega)]
    rfl
  | succ c ih =>
    intro i f s hf he
    obtain ⟨g, rfl⟩ : ∃ g, f = g + 1 := ⟨f - 1, by omega⟩
    rw [X2_inksInAll_L4, if_neg (by rw [nle_l (by omega) (by decide)]; omega), ck_n (by omega) (by decide), lt_eq, nadd_r, ncl (by omega), ih (i + 1) g _ (by omega) (by omega), fo, inkS, if_pos (by omega)]
theorem isThere_b {σ : Mem} {r : Nat} (hr : r < 11) : X4_isThere σ r = some (σ, bI (decide (0 ≤ σ.1 401 r 0))) := by
  unfold X4_isThere
  rw [if_pos hr]
  by_cases q : σ.1 401 r 0 < 0
  · rw [if_pos q, b0, decide_eq_false (le_neg q)]
    rfl
  · rw [if_neg q, b1, decide_eq_true (i32_nlt.mp q)]
    rfl
theorem X7_manyThere_L {σ : Mem} {x : Nat} {kk : Mem → Int32 → Option (Mem × Int32)} (hx : x < 2) : ∀ (c i f a : Nat), c < f → i + c = ral x → X7_manyThere_L4 x kk f σ (nI a) (nI i) = kk σ (nI (a + cn (fun j => decide (0 ≤ σ.1 401 (6 * x + j) 0)) c i)) := by
  have hral : ral x ≤ 6 ∧ 6 * x + ral x ≤ 10 := by unfold ral; split <;> omega
  intro c
  induction c with
  | zero =>
    intro i f a hf he
    obtain ⟨g, rfl⟩ : ∃ g, f = g + 1 := ⟨f - 1, by omega⟩
    rw [X7_manyThere_L4, if_pos (by show nI (ral x) ≤ nI i; rw [nle (by omega) (by omega)]; omega)]
    rfl
  | succ c ih =>
    intro i f a hf he
    obtain ⟨g, rfl⟩ : ∃ g, f = g + 1 := ⟨f - 1, by omega⟩
    rw [X7_manyThere_L4, if_neg (by show ¬ nI (ral x) ≤ nI i; rw [nle (by omega) (by omega)]; omega), ck_n (by omega) (by omega), ncl (by omega), if_pos (by omega), isThere_b (by omega), cn]
    dsimp only [Option.bind_some]
    cases e : decide (0 ≤ σ.1 401 (6 * x + i) 0) with
    | true =>
      rw [bI_t, if_neg one_ne0, lt_eq, nadd_r, nadd_r, ih (i + 1) g _ (by omega) (by omega)]
      simp [Nat.add_assoc]
    | false =>
      rw [bI_f, if_pos rfl, lt_eq, nadd_r, nadd_r, ih (i + 1) g _ (by omega) (by omega)]
      simp
theorem isKept_b {σ : Mem} {p : Nat} (hp : p < 4) : X2_isKept σ p = some (σ, bI (decide (0 < σ.1 203 p 0))) := by
  unfold X2_isKept
  rw [if_pos hp]
  by_cases q : σ.1 203 p 0 ≤ 0
  · rw [if_pos q, b0, decide_eq_false (by rw [i32_nlt]; exact q)]
    rfl
  · rw [if_neg q, b1, decide_eq_true (i32_nle2.mp q)]
    rfl
theorem X7_pressesKept_L {σ : Mem} {kk : Mem → Int32 → Option (Mem × Int32)} : ∀ (c i f a : Nat), c < f → i + c = 3 → X7_pressesKept_L4 kk f σ (nI a) (nI i) = kk σ (nI (a + cn (fun j => decide (0 < σ.1 203 (1 + j) 0)) c i)) := by
  intro c
  induction c with
  | zero =>
    intro i f a hf he
    obtain ⟨g, rfl⟩ : ∃ g, f = g + 1 := ⟨f - 1, by omega⟩
    rw [X7_pressesKept_L4, if_pos (by rw [nle_l (by omega) (by decide)]; omega)]
    rfl
  | succ c ih =>
    intro i f a hf he
    obtain ⟨g, rfl⟩ : ∃ g, f = g + 1 := ⟨f - 1, by omega⟩
    rw [X7_pressesKept_L4, if_neg (by rw [nle_l (by omega) (by decide)]; omega), ck_n (by omega) (by decide), ncl (by omega), if_pos (by omega), isKept_b (by omega), cn]
    dsimp only [Option.bind_some]
    cases e : decide (0 < σ.1 203 (1 + i) 0) with
    | true =>
      rw [bI_t, if_neg one_ne0, lt_eq, nadd_r, nadd_r, ih (i + 1) g _ (by omega) (by omega)]
      simp [Nat.add_assoc]
    | false =>
      rw [bI_f, if_pos rfl, lt_eq, nadd_r, nadd_r, ih (i + 1) g _ (by omega) (by omega)]
      simp
theorem Rel.kept {σ : Mem} (h : Rel σ) {n k : Nat} (hn : σ.1 810 0 0 = nI n) (hn8 : n ≤ 8) (hk : k < 3) : KeptOK σ n k := by
  obtain ⟨-, -, m, m8, h1, h2, h3⟩ := h.2.2.2
  have : m = n := by rw [h1] at hn; exact (neq (by omega) (by omega)).mp hn
  subst this
  exact h3 k hk
theorem kept_b {σ : Mem} {n k : Nat} (hn8 : n ≤ 8) (h : KeptOK σ n k) : decide (0 < σ.1 203 (1 + k) 0) = decide (σ.1 829 0 (727 * k) ≠ -9) := by
  rw [Nat.add_comm 1 k]
  rcases h with ⟨h1, h2⟩ | ⟨h0, h1, ⟨d, h2, h3, h4, h5⟩, -⟩
  · rw [h1, h2]; rfl
  · rw [h1, h4, decide_eq_true (by rw [show (0 : Int32) = nI 0 from rfl, nlt (by decide) (by omega)]; exact h0), decide_eq_true (nne_neg (by omega) (by decide))]
/-- what the class tells -/
theorem X7_count_n {σ : Mem} {n w : Nat} (h : Rel σ) (hn8 : n ≤ 8) (h1 : σ.1 810 0 0 = nI n) (hw : w < 9) : X7_count σ (nI w) = some (σ, cntV w n (fun k f => σ.1 811 0 (5 * k + f)) (fun j => σ.1 805 0 j) (fun j => σ.1 808 0 j) (fun j => σ.1 829 0 j) (fun j => σ.1 827 0 j) (σ.1 826 0 0)) := by
  obtain ⟨m, m8, e1, h2, hP, hM, hT⟩ := h.press
  have : m = n := by rw [h1] at e1; exact ((neq (by omega) (by omega)).mp e1).symm
  subst this
  have on := onM_256 (T := fun k f => σ.1 811 0 (5 * k + f)) hn8
  unfold X7_count cntV
  match w, hw with
  | 0, _ =>
    rw [if_pos (show nI 0 = 0 from rfl), if_pos rfl, hP.1]
  | 1, _ =>
    rw [if_neg (show ¬ nI 1 = 0 by decide), if_pos (show nI 1 = 1 from rfl), if_neg (by decide), if_neg (by decide), if_neg (by decide), X2_onSet_n (by decide) hP]
    dsimp only [Option.bind_some]
    rw [bc_eq]
    dsimp only [Option.bind_some]
    rw [pop_bc _ on, pop, popF_cn]
    congr 3
    refine cn_cg 8 0 (fun j _ hj => ?_)
    rw [onM_bit]
    simp [tpB, tlB, tqB]
  | 2, _ =>
    rw [if_neg (show ¬ nI 2 = 0 by decide), if_neg (show ¬ nI 2 = 1 by decide), if_pos (show nI 2 = 2 from rfl), if_neg (by decide), if_pos rfl]
    obtain ⟨d, d1, d2, d3, -⟩ := h2.2.1
    rw [d2, d3]
  | 3, _ =>
    rw [if_neg (show ¬ nI 3 = 0 by decide), if_neg (show ¬ nI 3 = 1 by decide), if_neg (show ¬ nI 3 = 2 by decide), if_pos (show nI 3 = 3 from rfl), if_neg (by decide), if_neg (by decide), if_pos rfl]
    have : X2_inksInAll σ 0 = some (σ, fo (inkS (fun j => σ.1 827 0 j)) 8 0 0) := by
      unfold X2_inksInAll
      rw [if_pos (by decide)]
      refine (X2_inksInAll_L (σ := σ) (p := 0) (kk := fun s v => some (s, v)) 6 0 FU 0 (by decide) (by decide)).trans ?_
      congr 2
      have e : ∀ j, j < 6 → inkS (fun j => σ.1 202 0 j) j = inkS (fun j => σ.1 827 0 j) j := by
        intro j hj
        funext a
        unfold inkS
        rw [if_pos hj, if_pos hj]
        exact congrArg (fun v => a + v) (h2.2.2.1 j hj)
      rw [fo_congr 6 0 0 (fun j _ hj => e j (by omega))]
      simp only [fo, inkS]
      simp
    rw [this]
    rfl
  | 4, _ =>
    rw [if_neg (show ¬ nI 4 = 0 by decide), if_neg (show ¬ nI 4 = 1 by decide), if_neg (show ¬ nI 4 = 2 by decide), if_neg (show ¬ nI 4 = 3 by decide), if_pos (show nI 4 = 4 from rfl), if_neg (by decide), if_neg (by decide), if_neg (by decide)]
    have : X2_lawsOfKind σ 0 2 = some (σ, nI (cn (fun j => isOfB 2 (σ.1 811 0 (5 * j + 0)).toNatClampNeg) m 0)) := by
      unfold X2_lawsOfKind
      rw [if_pos (by decide)]
      have := X2_lawsOfKind_L (q := 2) (kk := fun s v => some (s, v)) hP hT (by decide) m 0 FU 0 (fu_gt (by omega)) (by omega)
      rw [Nat.zero_add] at this
      exact this
    rw [this]
    dsimp only [Option.bind_some]
    congr 3
    refine cn_to8 hn8 (fun j hj => ?_) (fun j h3 h4 => ?_)
    · simp [tpB, tlB, tqB, hj]
    · have : ¬ j < m := by omega
      simp [tpB, tlB, tqB, this]
  | 5, _ =>
    rw [if_neg (show ¬ nI 5 = 0 by decide), if_neg (show ¬ nI 5 = 1 by decide), if_neg (show ¬ nI 5 = 2 by decide), if_neg (show ¬ nI 5 = 3 by decide), if_neg (show ¬ nI 5 = 4 by decide), if_pos (show nI 5 = 5 from rfl), if_neg (by decide), if_neg (by decide), if_neg (by decide)]
    have : X2_lawsOfKind σ 0 3 = some (σ, nI (cn (fun j => isOfB 3 (σ.1 811 0 (5 * j + 0)).toNatClampNeg) m 0)) := by
      unfold X2_lawsOfKind
      rw [if_pos (by decide)]
      have := X2_lawsOfKind_L (q := 3) (kk := fun s v => some (s, v)) hP hT (by decide) m 0 FU 0 (fu_gt (by omega)) (by omega)
      rw [Nat.zero_add] at this
      exact this
    rw [this]
    dsimp only [Option.bind_some]
    congr 3
    refine cn_to8 hn8 (fun j hj => ?_) (fun j h3 h4 => ?_)
    · simp [tpB, tlB, tqB, hj]
    · have : ¬ j < m := by omega
      simp [tpB, tlB, tqB, this]
  | 6, _ =>
    rw [if_neg (show ¬ nI 6 = 0 by decide), if_neg (show ¬ nI 6 = 1 by decide), if_neg (show ¬ nI 6 = 2 by decide), if_neg (show ¬ nI 6 = 3 by decide), if_neg (show ¬ nI 6 = 4 by decide), if_neg (show ¬ nI 6 = 5 by decide), if_pos (show nI 6 = 6 from rfl), if_neg (by decide), if_neg (by decide), if_neg (by decide)]
    have : X7_manyThere σ 0 = some (σ, nI (cn (fun j => decide (0 ≤ σ.1 401 (6 * 0 + j) 0)) 6 0)) := by
      unfold X7_manyThere
      rw [if_pos (by decide)]
      have := X7_manyThere_L (σ := σ) (x := 0) (kk := fun s v => some (s, v)) (by decide) 6 0 FU 0 (by decide) (by decide)
      rw [Nat.zero_add] at this
      exact this
    rw [this]
    dsimp only [Option.bind_some]
    congr 3
    refine cn_to8 (by decide) (fun j hj => ?_) (fun j h3 h4 => ?_)
    · have q : decide (0 ≤ σ.1 401 (6 * 0 + j) 0) = decide (0 ≤ σ.1 805 0 j) := by
        rw [show 6 * 0 + j = j by omega]
        rcases h.2.1 j hj with ⟨q1, q2⟩ | ⟨z, z1, z2, z3, -⟩
        · rw [q1, q2]; rfl
        · rw [z2, z3]
      rw [q]
      simp [tpB, tlB, tqB, hj]
    · have : ¬ j < 6 := by omega
      simp [tpB, tlB, tqB, this]
  | 7, _ =>
    rw [if_neg (show ¬ nI 7 = 0 by decide), if_neg (show ¬ nI 7 = 1 by decide), if_neg (show ¬ nI 7 = 2 by decide), if_neg (show ¬ nI 7 = 3 by decide), if_neg (show ¬ nI 7 = 4 by decide), if_neg (show ¬ nI 7 = 5 by decide), if_neg (show ¬ nI 7 = 6 by decide), if_pos (show nI 7 = 7 from rfl), if_neg (by decide), if_neg (by decide), if_neg (by decide)]
    have : X7_manyThere σ 1 = some (σ, nI (cn (fun j => decide (0 ≤ σ.1 401 (6 * 1 + j) 0)) 4 0)) := by
      unfold X7_manyThere
      rw [if_pos (by decide)]
      have := X7_manyThere_L (σ := σ) (x := 1) (kk := fun s v => some (s, v)) (by decide) 4 0 FU 0 (by decide) (by decide)
      rw [Nat.zero_add] at this
      exact this
    rw [this]
    dsimp only [Option.bind_some]
    congr 3
    refine cn_to8 (by decide) (fun j hj => ?_) (fun j h3 h4 => ?_)
    · have q : decide (0 ≤ σ.1 401 (6 * 1 + j) 0) = decide (0 ≤ σ.1 808 0 j) := by
        rw [show 6 * 1 + j = 6 + j by omega]
        rcases h.2.2.1 j hj with ⟨q1, q2⟩ | ⟨z, z1, z2, z3, -⟩
        · rw [q1, q2]; rfl
        · rw [z2, z3]
      rw [q]
      simp [tpB, tlB, tqB, hj]
    · have : ¬ j < 4 := by omega
      simp [tpB, tlB, tqB, this]
  | 8, _ =>
    rw [if_neg (show ¬ nI 8 = 0 by decide), if_neg (show ¬ nI 8 = 1 by decide), if_neg (show ¬ nI 8 = 2 by decide), if_neg (show ¬ nI 8 = 3 by decide), if_neg (show ¬ nI 8 = 4 by decide), if_neg (show ¬ nI 8 = 5 by decide), if_neg (show ¬ nI 8 = 6 by decide), if_neg (show ¬ nI 8 = 7 by decide), if_pos (show nI 8 = 8 from rfl), if_neg (by decide), if_neg (by decide), if_neg (by decide)]
    have : X7_pressesKept σ = some (σ, nI (cn (fun j => decide (0 < σ.1 203 (1 + j) 0)) 3 0)) := by
      unfold X7_pressesKept
      have := X7_pressesKept_L (σ := σ) (kk := fun s v => some (s, v)) 3 0 FU 0 (by decide) (by decide)
      rw [Nat.zero_add] at this
      exact this
    rw [this]
    dsimp only [Option.bind_some]
    congr 3
    refine cn_to8 (by decide) (fun j hj => ?_) (fun j h3 h4 => ?_)
    · rw [kept_b hn8 (h.kept h1 hn8 hj)]
      simp [tpB, tlB, tqB, hj]
    · have : ¬ j < 3 := by omega
      simp [tpB, tlB, tqB, this]
  | w + 9, hw => omega
theorem X7_count_bad {σ : Mem} {a : Int32} (h : a < 0 ∨ ¬ a ≤ 8) : X7_count σ a = some (σ, -1) := by
  have ne : ∀ w : Nat, w < 9 → ¬ a = nI w := by
    rintro w hw rfl
    rcases h with h | h
    · exact nnlt0 (by omega) h
    · exact h (by rw [nle_r (by omega) (by decide)]; show w ≤ 8; omega)
  unfold X7_count
  rw [if_neg (show ¬ a = (0 : Int32) from ne 0 (by decide)), if_neg (show ¬ a = (1 : Int32) from ne 1 (by decide)), if_neg (show ¬ a = (2 : Int32) from ne 2 (by decide)), if_neg (show ¬ a = (3 : Int32) from ne 3 (by decide)), if_neg (show ¬ a = (4 : Int32) from ne 4 (by decide)), if_neg (show ¬ a = (5 : Int32) from ne 5 (by decide)), if_neg (show ¬ a = (6 : Int32) from ne 6 (by decide)), if_neg (show ¬ a = (7 : Int32) from ne 7 (by decide)), if_neg (show ¬ a = (8 : Int32) from ne 8 (by decide))]
theorem op_count {σ : Mem} (h : Rel σ) (a : Int32) : Both (fun σ => X7_count σ a) (fun σ => X8_count σ a) σ := by
  obtain ⟨n, hn, h1, h2, hP, hM, hT⟩ := h.press
  rcases to_n a 8 (by decide) with hb | ⟨w, hw, rfl, hb1, hb2⟩
  · refine Both.mk' (σ1 := σ) (σ2 := σ) (r := -1) (X7_count_bad hb) ?_ h
    show X8_count _ _ = _
    unfold X8_count
    rw [in_bad (by rcases hb with hb | hb; exact Or.inl hb; exact Or.inr (i32_nle2.mp hb))]
    rfl
  · refine Both.mk' (σ1 := σ) (σ2 := σ) (X7_count_n h hn h1 (by omega)) ?_ h
    show X8_count _ _ = _
    unfold X8_count
    rw [in_ok hb1 (by rw [i32_nlt]; exact hb2)]
    dsimp only [Option.bind_some]
    rw [if_neg one_ne0, X8_tells_n hM hT (by omega)]
    rfl
