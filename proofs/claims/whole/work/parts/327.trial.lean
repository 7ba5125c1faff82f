theorem askBoth_a {σ : Mem} {a b : Int32} (h : X8_isRow σ a = some (σ, 0)) : X8_askedBoth σ a b = some (σ, -1) := by
  unfold X8_askedBoth
  rw [h]
  rfl
theorem askBoth_b {σ : Mem} {r : Nat} {b : Int32} (hr : r < 6) (h : X8_isRow σ b = some (σ, 0)) : X8_askedBoth σ (nI r) b = some (σ, -1) := by
  unfold X8_askedBoth
  rw [X8_isRow_r hr]
  dsimp only [Option.bind_some]
  rw [if_neg one_ne0, h]
  rfl
theorem askBoth_1 {σ τ : Mem} {r q : Nat} (hr : r < 6) (hq : q < 6) (h : X8_askedSigns σ (nI r) (nI 8) = some (τ, -3)) : X8_askedBoth σ (nI r) (nI q) = some (τ, -3) := by
  unfold X8_askedBoth
  rw [X8_isRow_r hr]
  dsimp only [Option.bind_some]
  rw [if_neg one_ne0, X8_isRow_r hq]
  dsimp only [Option.bind_some]
  rw [if_neg one_ne0, show (8 : Int32) = nI 8 from rfl, h]
  rfl
theorem askBoth_2 {σ τ : Mem} {r q : Nat} {v : Int32} (hr : r < 6) (hq : q < 6) (h : X8_askedSigns σ (nI r) (nI 8) = some (σ, 0)) (h2 : X8_askedSigns σ (nI q) (nI 16) = some (τ, v)) : X8_askedBoth σ (nI r) (nI q) = some (τ, v) := by
  unfold X8_askedBoth
  rw [X8_isRow_r hr]
  dsimp only [Option.bind_some]
  rw [if_neg one_ne0, X8_isRow_r hq]
  dsimp only [Option.bind_some]
  rw [if_neg one_ne0, show (8 : Int32) = nI 8 from rfl, h]
  dsimp only [Option.bind_some]
  rw [if_pos (by decide), show (16 : Int32) = nI 16 from rfl, h2]
  rfl
/-! same -/
theorem X8_same2_L {σ : Mem} {N : Nat} {kk : Mem → Int32 → Option (Mem × Int32)} (hN : N ≤ 16) : ∀ (c i f : Nat), c < f → i + c = N → X8_same_L127 (nI N) kk f σ 1 (nI i) = kk σ (bI (eqF (fun j => σ.1 821 0 j) (fun j => σ.1 817 0 j) c i)) := by
  intro c
  induction c with
  | zero =>
    intro i f hf he
    obtain ⟨g, rfl⟩ : ∃ g, f = g + 1 := ⟨f - 1, by omega⟩
    rw [X8_same_L127, if_pos (by rw [nle (by omega) (by omega)]; omega)]
    rfl
  | succ c ih =>
    intro i f hf he
    obtain ⟨g, rfl⟩ : ∃ g, f = g + 1 := ⟨f - 1, by omega⟩
    rw [X8_same_L127, if_neg (by rw [nle (by omega) (by omega)]; omega), if_neg one_ne0, ck_n (by omega) (by decide), ck_n (by omega) (by decide), ncl (by omega), eqF]
    by_cases e : σ.1 821 0 i = σ.1 817 0 i
    · rw [if_pos e, if_pos e, nadd_r]
      exact ih (i + 1) g (by omega) (by omega)
    · rw [if_neg e, if_neg e, bI_f]
      obtain ⟨g, rfl⟩ : ∃ g', g = g' + 1 := ⟨g - 1, by omega⟩
      rw [X8_same_L127]
      split
      · rfl
      · rw [if_pos rfl]
theorem op_same {σ : Mem} (h : Rel σ) (a b : Int32) : Both (fun σ => X7_same σ a b) (fun σ => X8_same σ a b) σ := by
  rcases isR a with ⟨a7, a8⟩ | ⟨r, hr, rfl⟩
  · refine Both.mk' (σ1 := σ) (σ2 := σ) (r := -1) ?_ ?_ h
    · simp only [X7_same, a7, Option.bind_some, spl_none]
      rcases isR b with ⟨b7, b8⟩ | ⟨q, hq, rfl⟩
      · simp only [b7, Option.bind_some, spl_none]
      · simp only [X7_rowOf_n hq, Option.bind_some]
        rw [spl_some (by omega)]
    · show X8_same _ _ _ = _
      unfold X8_same X8_same_J39
      rw [a8]
      rfl
  rcases isR b with ⟨b7, b8⟩ | ⟨q, hq, rfl⟩
  · refine Both.mk' (σ1 := σ) (σ2 := σ) (r := -1) ?_ ?_ h
    · simp only [X7_same, X7_rowOf_n hr, b7, Option.bind_some, spl_none]
      rw [spl_some (by omega)]
    · show X8_same _ _ _ = _
      unfold X8_same X8_same_J39
      rw [X8_isRow_r hr]
      dsimp only [Option.bind_some]
      rw [if_neg one_ne0, b8]
      rfl
  rcases asRow h hr (most := 8) (by decide) with ⟨f, f1, f2, e7, e8⟩ | ⟨s, hl, sg, hS, hR, e7, e8⟩
  · refine Both.mk' (σ1 := ans7 σ f) (σ2 := met8 (ans7 σ f) f) (r := -3) ?_ ?_ (Rel_fnd h f f1 f2)
    · simp only [X7_same, X7_rowOf_n hr, X7_rowOf_n hq, Option.bind_some]
      rw [spl_some (by omega), spl_some (by omega)]
      rw [show (8 : Int32) = nI 8 from rfl, e7]
      rfl
    · show X8_same _ _ _ = _
      unfold X8_same X8_same_J39
      rw [X8_isRow_r hr]
      dsimp only [Option.bind_some]
      rw [if_neg one_ne0, X8_isRow_r hq]
      dsimp only [Option.bind_some]
      rw [if_neg one_ne0, show (8 : Int32) = nI 8 from rfl, e8 _ (fun j => ans7_i (by decide) (by decide)) (fun j => ans7_i (by decide) (by decide))]
      rfl
  rcases asRow h hq (most := 8) (by decide) with ⟨f, f1, f2, d7, d8⟩ | ⟨p, pl, pg, pS, pR, d7, d8⟩
  · refine Both.mk' (σ1 := ans7 σ f) (σ2 := met8 (ans7 σ f) f) (r := -3) ?_ ?_ (Rel_fnd h f f1 f2)
    · simp only [X7_same, X7_rowOf_n hr, X7_rowOf_n hq, Option.bind_some]
      rw [spl_some (by omega), spl_some (by omega)]
      rw [show (8 : Int32) = nI 8 from rfl, e7]
      dsimp only [Option.bind_some]
      rw [if_pos rfl, d7]
      rfl
    · show X8_same _ _ _ = _
      unfold X8_same X8_same_J39
      rw [X8_isRow_r hr]
      dsimp only [Option.bind_some]
      rw [if_neg one_ne0, X8_isRow_r hq]
      dsimp only [Option.bind_some]
      rw [if_neg one_ne0, show (8 : Int32) = nI 8 from rfl, e8 _ (fun j => ans7_i (by decide) (by decide)) (fun j => ans7_i (by decide) (by decide))]
      dsimp only [Option.bind_some]
      rw [if_pos (by decide), d8 _ (fun j => ans7_i (by decide) (by decide)) (fun j => ans7_i (by decide) (by decide))]
      rfl
  obtain ⟨n, T, hP, hM, hT, hn⟩ := h.laws
  have on := onM_256 (T := T) hn
  obtain ⟨l1, l2⟩ := outS_len (m := onM T n) hT sg
  obtain ⟨l3, l4⟩ := outS_len (m := onM T n) hT pg
  obtain ⟨τ1, τ2, m1, m2, m3, m4, m5, m6, m7, m8, m9, m10⟩ := lso hM hT hr hl hR sg
  obtain ⟨o1, o2, o3, o4⟩ := m10
  let K : Mem → Option (Mem × Int32) := fun s11 => ((X8_laySheet s11 (nI q)).bind fun q12 => (X8_onSet q12.1).bind fun q13 => (X8_setBy q13.1 q13.2).bind fun q14 => if nI (outS T n (onM T n) s).length = (q14.1.1 818 0 0) then ((X8_same_L127 (nI (outS T n (onM T n) s).length) (fun (s20 : Mem) (y5_19 : Int32) => (if y5_19 = 0 then (some (s20, (0 : Int32))) else ((some (s20, (1 : Int32)))))) FU q14.1 (1 : Int32) (0 : Int32))) else (X8_same_L127 (nI (outS T n (onM T n) s).length) (fun (s18 : Mem) (y5_17 : Int32) => (if y5_17 = 0 then (some (s18, (0 : Int32))) else ((some (s18, (1 : Int32)))))) FU q14.1 (0 : Int32) (0 : Int32)))
  obtain ⟨τ3, t1, t2, t3⟩ := X8_same1_L (x2 := nI q) (kk := K) o2 (outS T n (onM T n) s).length 0 FU τ2 (fu_gt (by omega)) (by omega) o4 (fun j hj => by omega)
  have t2' : Fr S8 τ2 τ3 := t2.mono (by intro c k q; simp [S8]; omega)
  have f3 : Fr S8 σ τ3 := (m4.tr m5).tr t2'
  obtain ⟨υ1, υ2, k1, k2, k3, k4, k5, k6, k7, k8, k9, k10⟩ := lso (hM.s8 f3) hT hq pl (pR.s8 f3) pg
  have c21 : Cel (fun j => υ2.1 821 0 j) (outS T n (onM T n) s) := t3.cg fun j _ => by
    obtain ⟨y1, y2, y3⟩ := X8_laySheet_n hq pl (pR.s8 f3) pg
    have e1 : y1 = υ1 := by
      have := y2.symm.trans k1
      cases this; rfl
    obtain ⟨z1, z2, z3, z4⟩ := X8_setBy_n k7 hT (m := onM T n) (by omega) k6
    have e2 : z1 = υ2 := by
      have := z2.symm.trans k3
      cases this; rfl
    subst e1 e2
    show z1.1 821 0 j = τ3.1 821 0 j
    rw [z3.i (by simp [P78]), y3.1.i (by decide)]
  have res : K τ3 = some (υ2, bI (decide (outS T n (onM T n) s = outS T n (onM T n) p))) := by
    show (X8_laySheet τ3 (nI q)).bind _ = _
    rw [k1]
    dsimp only [Option.bind_some]
    rw [k2]
    dsimp only [Option.bind_some]
    rw [k3]
    dsimp only [Option.bind_some]
    rw [k10.1]
    by_cases e : (outS T n (onM T n) s).length = (outS T n (onM T n) p).length
    · rw [if_pos (by rw [e])]
      have h1 := X8_same2_L (σ := υ2) (kk := fun (s20 : Mem) (y5_19 : Int32) => (if y5_19 = 0 then (some (s20, (0 : Int32))) else ((some (s20, (1 : Int32)))))) o2 (outS T n (onM T n) s).length 0 FU (fu_gt (by omega)) (by omega)
      rw [eqF_cel c21 k10.2.2.2 l2 l4 e] at h1
      have h2 : X8_same_L127 (nI (outS T n (onM T n) s).length) (fun (s20 : Mem) (y5_19 : Int32) => (if y5_19 = 0 then (some (s20, (0 : Int32))) else ((some (s20, (1 : Int32)))))) FU υ2 1 (nI 0) = some (υ2, bI (decide (outS T n (onM T n) s = outS T n (onM T n) p))) := by
        rw [h1]
        cases decide (outS T n (onM T n) s = outS T n (onM T n) p) <;> rfl
      exact h2
    · have ne : ¬ outS T n (onM T n) s = outS T n (onM T n) p := fun w => e (by rw [w])
      rw [if_neg (by rw [neq (by omega) (by omega)]; exact e), decide_eq_false ne]
      rw [show FU = 99999 + 1 from rfl, X8_same_L127]
      split
      · rfl
      · rw [if_pos rfl]; rfl
  refine Both.mk' (σ1 := σ) (σ2 := υ2) (r := bI (decide (outS T n (onM T n) s = outS T n (onM T n) p))) ?_ ?_ (Rel_scr h ((f3.tr (k4.tr k5)).mono fun _ _ q => q.scr))
  · simp only [X7_same, X7_rowOf_n hr, X7_rowOf_n hq, Option.bind_some]
    rw [spl_some (by omega), spl_some (by omega), show (8 : Int32) = nI 8 from rfl, e7]
    dsimp only [Option.bind_some]
    rw [if_pos rfl, d7]
    dsimp only [Option.bind_some]
    rw [if_pos rfl, X2_onSet_n (by decide) hP]
    dsimp only [Option.bind_some]
    rw [X2_outOf_n (by decide) (by omega) hP hT (by omega) hS hl]
    dsimp only [Option.bind_some]
    rw [X2_outOf_n (by decide) (by omega) hP hT (by omega) pS pl]
    dsimp only [Option.bind_some]
    by_cases e : outS T n (onM T n) s = outS T n (onM T n) p
    · rw [if_pos ((pk_eq2 l2 l4 (by omega) (by omega)).mpr e), decide_eq_true e]
      rfl
    · rw [if_neg (fun w => e ((pk_eq2 l2 l4 (by omega) (by omega)).mp w)), decide_eq_false e]
      rfl
  · show X8_same _ _ _ = _
    unfold X8_same
    rw [X8_isRow_r hr]
    dsimp only [Option.bind_some]
    rw [if_neg one_ne0, X8_isRow_r hq]
    dsimp only [Option.bind_some]
    rw [if_neg one_ne0, show (8 : Int32) = nI 8 from rfl, e8 _ (fun j => rfl) (fun j => rfl)]
    dsimp only [Option.bind_some]
    rw [if_pos (by decide), d8 _ (fun j => rfl) (fun j => rfl), Option.bind_some]
    show X8_same_J39 σ (nI r) (nI q) 0 = _
    unfold X8_same_J39
    rw [if_pos (by decide), m1]
    dsimp only [Option.bind_some]
    rw [m2]
    dsimp only [Option.bind_some]
    rw [m3, Option.bind_some, lt_eq, o1]
    rw [res] at t1
    exact t1
/-! counting bits -/
def bcV (a0 : Int32) : Int32 := (lt_ ((a0 - (((a0.toUInt32 >>> ((1 : Int32).toUInt32 &&& Int32.toUInt32 31)).toInt32) &&& (1431655765 : Int32)))) fun (v1 : Int32) => lt_ (((v1 &&& (858993459 : Int32)) + (((v1.toUInt32 >>> ((2 : Int32).toUInt32 &&& Int32.toUInt32 31)).toInt32) &&& (858993459 : Int32)))) fun (v2 : Int32) => lt_ (((v2 + ((v2.toUInt32 >>> ((4 : Int32).toUInt32 &&& Int32.toUInt32 31)).toInt32)) &&& (252645135 : Int32))) fun (v3 : Int32) => lt_ ((v3 + ((v3.toUInt32 >>> ((8 : Int32).toUInt32 &&& Int32.toUInt32 31)).toInt32))) fun (v4 : Int32) => lt_ ((v4 + ((v4.toUInt32 >>> ((16 : Int32).toUInt32 &&& Int32.toUInt32 31)).toInt32))) fun (v5 : Int32) => (v5 &&& (63 : Int32)))
theorem bc_eq (σ : Mem) (x : Int32) : J6_bitCount_0f7a4 σ x = some (σ, bcV x) := rfl
def lowF (v : Nat) : Nat → Nat → Option Nat
  | 0, _ => none
  | c + 1, k => if v.testBit k = true then some k else lowF v c (k + 1)
def lowI (v : Nat) : Nat := match lowF v 8 0 with
  | none => 32
  | some k => k
theorem low_bc : ∀ v, v < 256 → bcV ((nI v &&& (-nI v)) - 1) = nI (lowI v) := by decide +kernel
def popF (v : Nat) : Nat → Nat → Nat
  | 0, _ => 0
  | c + 1, k => v / 2 ^ k % 2 + popF v c (k + 1)
def pop (v : Nat) : Nat := popF v 8 0
theorem pop_bc : ∀ v, v < 256 → bcV (nI v) = nI (pop v) := by decide +kernel
theorem pop_le : ∀ v, v < 256 → pop v ≤ 8 := by decide +kernel
theorem X8_sizeOf_L {σ : Mem} {v : Nat} {kk : Mem → Int32 → Option (Mem × Int32)} (hv : v < 2147483648) : ∀ (c i f a : Nat), c < f → i + c = 8 → X8_sizeOf_L4 (nI v) kk f σ (nI a) (nI i) = kk σ (nI (a + popF v c i)) := by
  intro c
  induction c with
  | zero =>
    intro i f a hf he
    obtain ⟨g, rfl⟩ : ∃ g, f = g + 1 := ⟨f - 1, by omega⟩
    rw [X8_sizeOf_L4, if_pos (by rw [nle_l (by omega) (by decide)]; omega)]
    rfl
  | succ c ih =>
    intro i f a hf he
    obtain ⟨g, rfl⟩ : ∃ g, f = g + 1 := ⟨f - 1, by omega⟩
    rw [X8_sizeOf_L4, if_neg (by rw [nle_l (by omega) (by decide)]; omega), lt_eq, bit7 hv (by omega), nadd, nadd_r, popF, ih (i + 1) g _ (by omega) (by omega), Nat.add_assoc]
theorem X8_sizeOf_n {σ : Mem} {v : Nat} (hv : v < 2147483648) : X8_sizeOf σ (nI v) = some (σ, nI (pop v)) := by
  unfold X8_sizeOf
  have := X8_sizeOf_L (σ := σ) (kk := fun s y => some (s, y)) hv 8 0 FU 0 (by decide) (by decide)
  rw [Nat.zero_add] at this
  exact this
/-! the trial -/
def hmF (T : Nat → Nat → Int32) (sg nx : Nat) (k a : Nat) : Nat := if hold T k sg nx = true then a ||| 2 ^ k else a
def hm (T : Nat → Nat → Int32) (n sg nx : Nat) : Nat := fo (hmF T sg nx) n 0 0
theorem X2_holding_L {σ : Mem} {p n sg nx : Nat} {T : Nat → Nat → Int32} {kk : Mem → Int32 → Option (Mem × Int32)} (hP : PL σ p n T) (hT : TV T n) (hn : nx < 7) : ∀ (c i f a : Nat), c < f → i + c = n → X2_holding_L5 p (nI sg) (nI nx) kk f σ (nI a) (nI i) = kk σ (nI (fo (hmF T sg nx) c i a)) := by
  intro c
  have h8 := hP.2.1
  induction c with
  | zero =>
    intro i f a hf he
    obtain ⟨g, rfl⟩ : ∃ g, f = g + 1 := ⟨f - 1, by omega⟩
    rw [X2_holding_L5, hP.1, if_pos (by rw [nle (by omega) (by omega)]; omega)]
    rfl
  | succ c ih =>
    intro i f a hf he
    obtain ⟨g, rfl⟩ : ∃ g, f = g + 1 := ⟨f - 1, by omega⟩
    obtain ⟨x, x1, x2, x3⟩ := hP.2.2 i (by omega)
    rw [X2_holding_L5, hP.1, if_neg (by rw [nle (by omega) (by omega)]; omega), ck_n (by omega) (by decide), ncl (by omega), x1, spl_some x2, X1_holds_n x2 x3 hT (by omega) hn, fo]
    dsimp only [Option.bind_some]
    unfold hmF
    by_cases e : hold T i sg nx = true
    · rw [if_pos e, if_neg one_ne0, if_pos e, lt_eq, one_shl (by omega), or_nI, nadd_r]
      exact ih (i + 1) g _ (by omega) (by omega)
    · rw [if_neg e, if_pos rfl, if_neg e, lt_eq, show nI a ||| (0 : Int32) = nI (a ||| 0) from or_nI a 0, Nat.or_zero, nadd_r]
      exact ih (i + 1) g _ (by omega) (by omega)
theorem X2_holding_n {σ : Mem} {p n sg nx : Nat} {T : Nat → Nat → Int32} (hp : p < 4) (hP : PL σ p n T) (hT : TV T n) (hn : nx < 7) : X2_holding σ p (nI sg) (nI nx) = some (σ, nI (hm T n sg nx)) := by
  have h8 := hP.2.1
  unfold X2_holding
  rw [if_pos hp]
  exact X2_holding_L (kk := fun s v => some (s, v)) hP hT hn n 0 FU 0 (fu_gt (by omega)) (by omega)
theorem fo_bits {b : Nat → Bool} {F : Nat → Nat → Nat} (hF : ∀ k a, F k a = if b k = true then a ||| 2 ^ k else a) : ∀ (c i a j : Nat), (fo F c i a).testBit j = (a.testBit j || (decide (i ≤ j ∧ j < i + c) && b j)) := by
  intro c
  induction c with
  | zero =>
    intro i a j
    have : decide (i ≤ j ∧ j < i + 0) = false := decide_eq_false (by omega)
    rw [this]
    simp [fo]
  | succ c ih =>
    intro i a j
    rw [fo, ih, hF]
    by_cases e : b i = true
    · rw [if_pos e, Nat.testBit_or, Nat.testBit_two_pow]
      by_cases w : i = j
      · subst w
        simp [e]
      · have : (i + 1 ≤ j ∧ j < i + 1 + c) ↔ (i ≤ j ∧ j < i + (c + 1)) := by omega
        simp [w, this]
    · rw [if_neg e]
      by_cases w : i = j
      · subst w
        have e : b i = false := by simpa using e
        simp [e]
      · have : (i + 1 ≤ j ∧ j < i + 1 + c) ↔ (i ≤ j ∧ j < i + (c + 1)) := by omega
        simp [this]
theorem hm_bit {T : Nat → Nat → Int32} {n sg nx j : Nat} : (hm T n sg nx).testBit j = (decide (j < n) && hold T j sg nx) := by
  unfold hm
  rw [fo_bits (F := hmF T sg nx) (b := fun k => hold T k sg nx) (fun k a => rfl)]
  simp
theorem onM_bit {T : Nat → Nat → Int32} {n j : Nat} : (onM T n).testBit j = (decide (j < n) && decide (T j 4 = 0)) := by
  unfold onM
  rw [fo_bits (F := onF T) (b := fun k => decide (T k 4 = 0)) (fun k a => by unfold onF; simp)]
  simp
theorem bits_lt {v k : Nat} (h : ∀ j, v.testBit j = true → j < k) : v < 2 ^ k := by
  refine Nat.lt_pow_two_of_testBit v fun i hi => ?_
  cases q : v.testBit i with
  | false => rfl
  | true => have := h i q; omega
theorem hm_256 {T : Nat → Nat → Int32} {n sg nx : Nat} (h : n ≤ 8) : hm T n sg nx < 256 := bits_lt (k := 8) fun j hj => by
  rw [hm_bit] at hj
  simp at hj
  omega
theorem lowF_chs {T : Nat → Nat → Int32} {n m sg nx : Nat} : ∀ (c d i : Nat), i + c = n → c ≤ d → lowF (hm T n sg nx &&& m) d i = chsF T m sg nx c i := by
  intro c
  induction c with
  | zero =>
    intro d
    induction d with
    | zero => intro i hi _; rfl
    | succ d ih2 =>
      intro i hi _
      rw [lowF, Nat.testBit_and, hm_bit, if_neg (by have : ¬ i < n := (by omega); simp [this])]
      have gen : ∀ (d i : Nat), n ≤ i → lowF (hm T n sg nx &&& m) d i = none := by
        intro d
        induction d with
        | zero => intros; rfl
        | succ d ih3 =>
          intro i hi
          rw [lowF, Nat.testBit_and, hm_bit, if_neg (by have : ¬ i < n := (by omega); simp [this])]
          exact ih3 (i + 1) (by omega)
      exact gen d (i + 1) (by omega)
  | succ c ih =>
    intro d i hi hd
    obtain ⟨d, rfl⟩ : ∃ d', d = d' + 1 := ⟨d - 1, by omega⟩
    have hlt : i < n := by omega
    rw [lowF, chsF, Nat.testBit_and, hm_bit]
    by_cases e : (m.testBit i && hold T i sg nx) = true
    · rw [if_pos e, if_pos (by simp only [Bool.and_eq_true] at e ⊢; simp [hlt, e])]
    · rw [if_neg e, if_neg (by simp only [Bool.and_eq_true] at e ⊢; rintro ⟨⟨-, a⟩, b⟩; exact e ⟨b, a⟩)]
      exact ih d (i + 1) (by omega) (by omega)
theorem low_chs {T : Nat → Nat → Int32} {n m sg nx : Nat} (h : n ≤ 8) : lowF (hm T n sg nx &&& m) 8 0 = chs T n m sg nx := lowF_chs n 8 0 (by omega) h
/-- the trial lies on a sheet -/
def Tr (σ : Mem) (n : Nat) (T : Nat → Nat → Int32) (s : List Nat) : Prop := σ.1 502 0 0 = nI s.length ∧ s.length ≤ 8 ∧ Sg s ∧ σ.2.2 503 0 0 = some 0 ∧ ∀ j, j < s.length → σ.1 500 0 j = nI (s.getD j 0) ∧ σ.1 501 0 j = nI (hm T n (s.getD j 0) (s.getD (j + 1) 6))
def P50 (c _k : Nat) : Prop := c = 500 ∨ c = 501 ∨ c = 502 ∨ c = 503
theorem PL.p50 {σ τ : Mem} {p n : Nat} {T : Nat → Nat → Int32} (h : PL σ p n T) (f : Fr P50 σ τ) : PL τ p n T := h.fr f (by simp [P50]) (by simp [P50]) (by intro g x hg; simp [P50]; omega)
theorem X5_lie_L {r n : Nat} {T : Nat → Nat → Int32} {s : List Nat} {kk : Mem → Option (Mem × Unit)} (hr : r < 11) (h8 : s.length ≤ 8) (hT : TV T n) : ∀ (c i f : Nat) (σ : Mem), c < f → i + c = s.length → PL σ 0 n T → RowS σ r s → σ.1 502 0 0 = nI s.length → (∀ j, j < i → σ.1 500 0 j = nI (s.getD j 0) ∧ σ.1 501 0 j = nI (hm T n (s.getD j 0) (s.getD (j + 1) 6))) → ∃ τ, X5_lie_L23 r 0 kk f σ (nI i) = kk τ ∧ Fr (fun c _ => c = 500 ∨ c = 501) σ τ ∧ ∀ j, j < s.length → τ.1 500 0 j = nI (s.getD j 0) ∧ τ.1 501 0 j = nI (hm T n (s.getD j 0) (s.getD (j + 1) 6)) := by
  intro c
  induction c with
  | zero =>
    intro i f σ hf he hP hS h1 hC
    obtain ⟨g, rfl⟩ : ∃ g, f = g + 1 := ⟨f - 1, by omega⟩
    refine ⟨σ, ?_, Fr.rf, fun j hj => hC j (by omega)⟩
    rw [X5_lie_L23, h1, if_pos (by rw [nle (by omega) (by omega)]; omega)]
  | succ c ih =>
    intro i f σ hf he hP hS h1 hC
    obtain ⟨g, rfl⟩ : ∃ g, f = g + 1 := ⟨f - 1, by omega⟩
    have f1 : Fr (fun c _ => c = 500 ∨ c = 501) σ (uI σ 500 0 i (nI (s.getD i 0))) := Fr.uI (Or.inl rfl)
    have f2 : Fr (fun c _ => c = 500 ∨ c = 501) σ (uI (uI σ 500 0 i (nI (s.getD i 0))) 501 0 i (nI (hm T n (s.getD i 0) (s.getD (i + 1) 6)))) := f1.tr (Fr.uI (Or.inr rfl))
    have rr : ∀ c, c = 400 ∨ c = 401 → ¬ (c = 500 ∨ c = 501) := by intro c h; omega
    have hP1 : PL (uI σ 500 0 i (nI (s.getD i 0))) 0 n T := hP.p50 (f1.mono (by intro c k q; unfold P50; omega))
    have hS1 := hS.fr f1 (rr _ (Or.inl rfl)) (rr _ (Or.inr rfl))
    obtain ⟨τ, t1, t2, t3⟩ := ih (i + 1) g _ (by omega) (by omega) (hP.p50 (f2.mono (by intro c k q; unfold P50; omega))) (hS.fr f2 (rr _ (Or.inl rfl)) (rr _ (Or.inr rfl))) (by rw [f2.i (by decide)]; exact h1) (fun j hj => by
      by_cases e : j = i
      · subst e; simp [uI_1]
      · simp only [uI_1]
        simp [e]
        exact hC j (by omega))
    refine ⟨τ, ?_, f2.tr t2, t3⟩
    rw [X5_lie_L23, h1, if_neg (by rw [nle (by omega) (by omega)]; omega), cell_n hr hS (by omega)]
    dsimp only [Option.bind_some]
    rw [ck_n (by omega) (by decide), ncl (by omega), cell_n hr hS1 (by omega)]
    dsimp only [Option.bind_some]
    rw [behind_n hr hS1 (by omega)]
    dsimp only [Option.bind_some]
    rw [X2_holding_n (by decide) hP1 hT (nx7 hS.2.2.1 i)]
    dsimp only [Option.bind_some]
    rw [ck_n (by omega) (by decide), nadd_r]
    exact t1
theorem X5_lie_n {σ : Mem} {r n : Nat} {T : Nat → Nat → Int32} {s : List Nat} (hr : r < 11) (h8 : s.length ≤ 8) (hT : TV T n) (hP : PL σ 0 n T) (hS : RowS σ r s) : ∃ τ, X5_lie σ r 0 = some (τ, ()) ∧ Fr P50 σ τ ∧ Tr τ n T s := by
  have f1 : Fr P50 σ (uI (uR σ 503 0 0 (some 0)) 502 0 0 (nI s.length)) := (Fr.uR (by simp [P50])).tr (Fr.uI (by simp [P50]))
  have rr : ∀ c, c = 400 ∨ c = 401 → ¬ P50 c r := by intro c h; simp [P50]; omega
  obtain ⟨τ, t1, t2, t3⟩ := X5_lie_L (kk := fun s7 => some (s7, ())) hr h8 hT s.length 0 FU (uI (uR σ 503 0 0 (some 0)) 502 0 0 (nI s.length)) (fu_gt (by omega)) (by omega) (hP.p50 f1) (hS.fr f1 (rr _ (Or.inl rfl)) (rr _ (Or.inr rfl))) (by simp [uI_1]) (fun j hj => by omega)
  refine ⟨τ, ?_, f1.tr (t2.mono (by intro c k q; unfold P50; omega)), ?_, h8, hS.2.2.1, ?_, t3⟩
  · unfold X5_lie
    rw [if_pos hr, if_pos (by decide)]
    have e1 : (uR σ 503 0 0 (some 0)).1 401 r 0 = nI s.length := hS.1
    rw [e1, if_neg (by rw [nlt_l (by omega) (by decide)]; omega)]
    exact t1
  · rw [t2.i (by decide)]; simp [uI_1]
  · rw [t2.r (by decide)]; simp [uI_2, uR_3]
theorem and_nI {a b : Nat} (ha : a < 2147483648) (hb : b < 2147483648) : nI a &&& nI b = nI (a &&& b) := Int32.toBitVec_inj.mp (BitVec.eq_of_toNat_eq (by
  show (BitVec.ofNat 32 a &&& BitVec.ofNat 32 b).toNat = (BitVec.ofNat 32 (a &&& b)).toNat
  rw [BitVec.toNat_and, BitVec.toNat_ofNat, BitVec.toNat_ofNat, BitVec.toNat_ofNat, Nat.and_mod_two_pow]))
theorem chs_hold {T : Nat → Nat → Int32} {n m sg nx k : Nat} (hc : chs T n m sg nx = some k) : T k 1 = nI sg := by
  have : ∀ c i, chsF T m sg nx c i = some k → hold T k sg nx = true := by
    intro c
    induction c with
    | zero => intro i h; cases h
    | succ c ih =>
      intro i h
      rw [chsF] at h
      by_cases q : (m.testBit i && hold T i sg nx) = true
      · rw [if_pos q] at h; cases h
        simp only [Bool.and_eq_true] at q
        exact q.2
      · rw [if_neg q] at h; exact ih (i + 1) h
  have h1 := this n 0 hc
  unfold hold at h1
  simp only [Bool.and_eq_true, decide_eq_true_eq] at h1
  exact h1.1
def hmm (T : Nat → Nat → Int32) (n a b m : Nat) : Nat := hm T n a b &&& m
theorem X5_outBy_L {σ : Mem} {n m : Nat} {T : Nat → Nat → Int32} {s : List Nat} {kk : Mem → Int64 → Option (Mem × Int64)} (hP : PL σ 0 n T) (hT : TV T n) (hm : m < 256) (hTr : Tr σ n T s) : ∀ (rest pre : List Nat) (f A : Nat), s = pre ++ rest → rest.length < f → A < 8 ^ (2 * pre.length) → X5_outBy_L5 (nI m) kk f σ (lN A) (nI pre.length) = kk σ (lN (fld (outS T n m rest) A)) := by
  obtain ⟨r1, r2, r3, r4, r5⟩ := hTr
  have h8 := hP.2.1
  intro rest
  induction rest with
  | nil =>
    intro pre f A hs hf hA
    obtain ⟨g, rfl⟩ : ∃ g, f = g + 1 := ⟨f - 1, by omega⟩
    have hl : s.length = pre.length := by rw [hs]; simp
    rw [X5_outBy_L5, r1, if_pos (by rw [nle (by omega) (by omega)]; omega)]
    rfl
  | cons a t ih =>
    intro pre f A hs hf hA
    obtain ⟨g, rfl⟩ : ∃ g, f = g + 1 := ⟨f - 1, by omega⟩
    have hl : s.length = pre.length + (t.length + 1) := by rw [hs]; simp
    have ha : a < 6 := r3 a (by rw [hs]; simp)
    have e0 : s.getD pre.length 0 = a := by rw [hs, getD_app]
    have e1 : s.getD (pre.length + 1) 6 = t.headD 6 := by
      rw [hs]
      cases t with
      | nil => simp [List.getD_eq_getElem?_getD]
      | cons b u => simp [List.getD_eq_getElem?_getD, List.getElem?_append_right]
    obtain ⟨c0, c1⟩ := r5 pre.length (by omega)
    rw [e0] at c0
    rw [e0, e1] at c1
    have hA2 : A < 2 ^ 54 := by
      have q1 : 8 ^ (2 * pre.length) ≤ 8 ^ 16 := Nat.pow_le_pow_right (by decide) (by omega)
      have q2 : (8 : Nat) ^ 16 < 2 ^ 54 := by decide
      omega
    have hb := hm_256 (T := T) (sg := a) (nx := t.headD 6) h8
    have hv : hmm T n a (t.headD 6) m < 256 := Nat.lt_of_le_of_lt Nat.and_le_left hb
    have hlen := pcS_ok (m := m) (nx := t.headD 6) hT ha
    have next : X5_outBy_L5 (nI m) kk g σ (lN (fld (pcS T n m a (t.headD 6)) A)) (nI pre.length + 1) = kk σ (lN (fld (outS T n m (a :: t)) A)) := by
      have := ih (pre ++ [a]) g (fld (pcS T n m a (t.headD 6)) A) (by rw [hs]; simp) (by simp at hf; omega) (by
        have q := fld_lt (k := 2 * pre.length) hlen.2 hA
        refine Nat.lt_of_lt_of_le q (Nat.pow_le_pow_right (by decide) ?_)
        rw [List.length_append]
        show _ ≤ 2 * (pre.length + 1)
        have := hlen.1
        omega)
      rw [List.length_append] at this
      rw [nadd_r]
      refine Eq.trans this ?_
      rw [outS]
      unfold fld
      rw [List.foldl_append]
    rw [X5_outBy_L5, r1, if_neg (by rw [nle (by omega) (by omega)]; omega), r4, spl_some (by decide), ck_n (by omega) (by decide), lt_eq, spl_some (by decide), ncl (by omega), c1, and_nI (by omega) (by omega), bc_eq]
    dsimp only [Option.bind_some]
    show ((X2_numbered σ 0 (bcV ((nI (hmm T n a (t.headD 6) m) &&& -nI (hmm T n a (t.headD 6) m)) - 1))).bind _) = _
    rw [low_bc _ hv]
    have hlow : lowF (hmm T n a (t.headD 6) m) 8 0 = chs T n m a (t.headD 6) := low_chs h8
    unfold lowI
    rw [hlow]
    cases hc : chs T n m a (t.headD 6) with
    | none =>
      have hpc : pcS T n m a (t.headD 6) = [a] := by unfold pcS; rw [hc]
      dsimp only []
      rw [X2_numbered_big (by decide) hP (by omega) (by decide)]
      dsimp only [Option.bind_some]
      rw [spl_none, ck_n (by omega) (by decide), c0, X7_packed_n (by omega) ha, Option.bind_some]
      rw [hpc] at next
      exact next
    | some k =>
      have hk := chs_lt hc
      have hpc : pcS T n m a (t.headD 6) = pcL T k a := by unfold pcS; rw [hc]
      obtain ⟨x, x1, x2, x3⟩ := hP.2.2 k hk
      dsimp only []
      rw [X2_numbered_n (by decide) hP hk x1 x2]
      dsimp only [Option.bind_some]
      rw [spl_some x2, X1_after_n x2 x3 hT hk (chs_hold hc) ha hA2, Option.bind_some]
      rw [hpc] at next
      exact next
theorem X5_outBy_n {σ : Mem} {n m : Nat} {T : Nat → Nat → Int32} {s : List Nat} (hP : PL σ 0 n T) (hT : TV T n) (hm : m < 256) (hTr : Tr σ n T s) : X5_outBy σ (nI m) = some (σ, lN (pkN (outS T n m s))) := by
  have := hTr.2.1
  unfold X5_outBy
  exact X5_outBy_L (kk := fun s v => some (s, v)) hP hT hm hTr s [] FU 0 rfl (fu_gt (by omega)) (by decide)
