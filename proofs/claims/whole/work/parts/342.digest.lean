/-! digest -/
def dg (h : Int64) (v : Int32) : Int64 := (31 : Int64) * h + v.toInt64
def h8 (σ : Mem) (v : Int64) : Mem := uJ σ 830 0 0 v
theorem h8_v {σ : Mem} {v : Int64} : (h8 σ v).2.1 830 0 0 = v := by simp [h8, uJ_2]
theorem h8_h8 {σ : Mem} {v w : Int64} : h8 (h8 σ v) w = h8 σ w := by
  unfold h8 uJ
  refine Prod.ext rfl (Prod.ext ?_ rfl)
  funext c k j
  dsimp only
  by_cases q : c = 830 ∧ k = 0 ∧ j = 0
  · rw [if_pos q, if_pos q]
  · rw [if_neg q, if_neg q, if_neg q]
theorem X8_mix_n {σ : Mem} {v : Int64} {x : Int32} : X8_mix (h8 σ v) x = some (h8 σ (dg v x), ()) := by
  unfold X8_mix
  rw [h8_v]
  show some (h8 (h8 σ v) _, ()) = _
  rw [h8_h8]
  rfl
def rwD (sz : Int32) (g : Nat → Int32) (h : Int64) : Int64 := if sz < 0 then dg h (-1) else fo (fun j h => dg h (g j)) sz.toNatClampNeg 0 (dg h sz)
def lwV (T : Nat → Nat → Int32) (k f : Nat) : Int32 := if f < 4 then T k f else if T k 4 = 0 then 1 else 0
def ktV (g : Nat → Int32) (k : Nat) : Int32 := if g (727 * k) = -9 then -1 else g (727 * k)
theorem X4_digested_L {σ : Mem} {r n : Nat} {kk : Mem → Int64 → Option (Mem × Int64)} (hr : r < 11) (hs : σ.1 401 r 0 = nI n) (hn : n ≤ rl r) : ∀ (c i f : Nat) (h : Int64), c < f → i + c = n → X4_digested_L15 r kk f σ h (nI i) = kk σ (fo (fun j h => dg h (σ.1 400 r j)) c i h) := by
  have h60 := rl_le r
  intro c
  induction c with
  | zero =>
    intro i f h hf he
    obtain ⟨g, rfl⟩ : ∃ g, f = g + 1 := ⟨f - 1, by omega⟩
    rw [X4_digested_L15, hs, if_pos (by rw [nle (by omega) (by omega)]; omega)]
    rfl
  | succ c ih =>
    intro i f h hf he
    obtain ⟨g, rfl⟩ : ∃ g, f = g + 1 := ⟨f - 1, by omega⟩
    rw [X4_digested_L15, hs, if_neg (by rw [nle (by omega) (by omega)]; omega), X4_cell_in hr hs hn (by omega), Option.bind_some, lt_eq, nadd_r, ih (i + 1) g _ (by omega) (by omega)]
    rfl
theorem X4_digested_n {σ : Mem} {r : Nat} {h : Int64} (hr : r < 11) (hs : σ.1 401 r 0 = -1 ∨ ∃ n, n ≤ rl r ∧ σ.1 401 r 0 = nI n) : X4_digested σ r h = some (σ, rwD (σ.1 401 r 0) (fun j => σ.1 400 r j) h) := by
  have h60 := rl_le r
  unfold X4_digested rwD
  rw [if_pos hr, lt_eq]
  rcases hs with hs | ⟨n, hn, hs⟩
  · rw [hs, if_pos (show (-1 : Int32) < 0 by decide), show FU = 99999 + 1 from rfl, X4_digested_L15, hs, if_pos (show (-1 : Int32) ≤ 0 by decide)]
    rfl
  · have L := X4_digested_L (kk := fun s v => some (s, v)) hr hs hn n 0 FU (dg h (nI n)) (fu_gt (by omega)) (by omega)
    rw [nI_0] at L
    rw [hs, if_neg (nnlt0 (by omega)), ncl (by omega)]
    exact L
/-! the class's -/
theorem X7_digest1_L {σ : Mem} {n : Nat} {kk : Mem → Int64 → Option (Mem × Int64)} {V : Nat → Int32} (hV : ∀ w, w < 9 → X7_count σ (nI w) = some (σ, V w)) : ∀ (c i f : Nat) (h : Int64), c < f → i + c = 9 → X7_digest_L6 kk f σ h (nI i) = kk σ (fo (fun w h => dg h (V w)) c i h) := by
  intro c
  induction c with
  | zero =>
    intro i f h hf he
    obtain ⟨g, rfl⟩ : ∃ g, f = g + 1 := ⟨f - 1, by omega⟩
    rw [X7_digest_L6, if_pos (by rw [nlt_l (by omega) (by decide)]; omega)]
    rfl
  | succ c ih =>
    intro i f h hf he
    obtain ⟨g, rfl⟩ : ∃ g, f = g + 1 := ⟨f - 1, by omega⟩
    rw [X7_digest_L6, if_neg (by rw [nlt_l (by omega) (by decide)]; omega), hV i (by omega), Option.bind_some, lt_eq, nadd_r, ih (i + 1) g _ (by omega) (by omega)]
    rfl
theorem X2_dig18_L {σ : Mem} {k x : Nat} {T : Nat → Nat → Int32} {x3 : Nat} {kk : Mem → Int64 → Option (Mem × Int64)} (hk : k < 8) (x1 : σ.2.2 200 0 k = some x) (x2 : x < 41) (hf : ∀ f, f < 5 → σ.1 (100 + f) x 0 = T k f) : ∀ (c i f : Nat) (h : Int64), c < f → i + c = 5 → X2_digested_L18 0 x3 (nI k) kk f σ h (nI i) = kk σ (fo (fun w h => dg h (lwV T k w)) c i h) := by
  have e4 : σ.1 104 x 0 = T k 4 := hf 4 (by decide)
  intro c
  induction c with
  | zero =>
    intro i f h hf he
    obtain ⟨g, rfl⟩ : ∃ g, f = g + 1 := ⟨f - 1, by omega⟩
    rw [X2_digested_L18, if_pos (by rw [nlt_l (by omega) (by decide)]; omega)]
    rfl
  | succ c ih =>
    intro i f h hf2 he
    obtain ⟨g, rfl⟩ : ∃ g, f = g + 1 := ⟨f - 1, by omega⟩
    have ev : (if i < 4 then σ.1 (100 + i) x 0 else if σ.1 104 x 0 = 0 then (1 : Int32) else 0) = lwV T k i := by
      unfold lwV
      rw [e4]
      by_cases q : i < 4
      · rw [if_pos q, if_pos q, hf i (by omega)]
      · rw [if_neg q, if_neg q]
    rw [X2_digested_L18, if_neg (by rw [nlt_l (by omega) (by decide)]; omega), ck_n hk (by decide), ncl (by omega), x1, spl_some x2, X1_tell_n x2 (by omega), Option.bind_some, lt_eq, ev, nadd_r, ih (i + 1) g _ (by omega) (by omega)]
    rfl
theorem X2_dig6_L {σ : Mem} {n : Nat} {T : Nat → Nat → Int32} {x3 : Nat} {kk : Mem → Int64 → Option (Mem × Int64)} (hP : PL σ 0 n T) : ∀ (c i f : Nat) (h : Int64), c < f → i + c = n → X2_digested_L6 0 x3 kk f σ h (nI i) = kk σ (fo (fun k h => fo (fun w h => dg h (lwV T k w)) 5 0 h) c i h) := by
  have h8 := hP.2.1
  intro c
  induction c with
  | zero =>
    intro i f h hf he
    obtain ⟨g, rfl⟩ : ∃ g, f = g + 1 := ⟨f - 1, by omega⟩
    rw [X2_digested_L6, hP.1, if_pos (by rw [nle (by omega) (by omega)]; omega)]
    rfl
  | succ c ih =>
    intro i f h hf he
    obtain ⟨g, rfl⟩ : ∃ g, f = g + 1 := ⟨f - 1, by omega⟩
    obtain ⟨x, x1, x2, x3'⟩ := hP.2.2 i (by omega)
    have L := X2_dig18_L (T := T) (x3 := x3) (kk := fun (s6 : Mem) (y4_5 : Int64) => (X2_digested_L6 0 x3 kk g s6 y4_5 ((nI i + (1 : Int32))))) (show i < 8 by omega) x1 x2 x3' 5 0 FU h (fu_gt (by decide)) (by decide)
    rw [nI_0] at L
    rw [X2_digested_L6, hP.1, if_neg (by rw [nle (by omega) (by omega)]; omega)]
    refine L.trans ?_
    rw [nadd_r]
    exact ih (i + 1) g _ (by omega) (by omega)
theorem X2_dig61_L {σ : Mem} {x3 : Nat} {kk : Mem → Int64 → Option (Mem × Int64)} : ∀ (c i f : Nat) (h : Int64), c < f → i + c = 6 → X2_digested_L61 0 x3 kk f σ h (nI i) = kk σ (fo (fun s h => dg h (σ.1 202 0 s)) c i h) := by
  intro c
  induction c with
  | zero =>
    intro i f h hf he
    obtain ⟨g, rfl⟩ : ∃ g, f = g + 1 := ⟨f - 1, by omega⟩
    rw [X2_digested_L61, if_pos (by rw [nle_l (by omega) (by decide)]; omega)]
    rfl
  | succ c ih =>
    intro i f h hf he
    obtain ⟨g, rfl⟩ : ∃ g, f = g + 1 := ⟨f - 1, by omega⟩
    rw [X2_digested_L61, if_neg (by rw [nle_l (by omega) (by decide)]; omega), ck_n (by omega) (by decide), lt_eq, ncl (by omega), nadd_r, ih (i + 1) g _ (by omega) (by omega)]
    rfl
def dlD (l : List Nat) (h : Int64) : Int64 := fo (fun j h => dg h (nI (l.getD j 0))) l.length 0 (dg h (nI l.length))
theorem rwD_RowS {σ : Mem} {r : Nat} {l : List Nat} {h : Int64} (hS : RowS σ r l) : rwD (σ.1 401 r 0) (fun j => σ.1 400 r j) h = dlD l h := by
  have h60 := rl_le r
  have := hS.2.1
  unfold rwD dlD
  rw [hS.1, if_neg (nnlt0 (by omega)), ncl (by omega)]
  refine fo_congr _ _ _ (fun j _ hj => ?_)
  funext h
  dsimp only
  rw [hS.2.2.2 j (by omega)]
theorem X2_dig97_L {L : Nat → List Nat} {d : Nat} {kk : Mem → Int64 → Option (Mem × Int64)} (hd : d ≤ 40) : ∀ (c i f : Nat) (h : Int64) (σ : Mem), c < f → i + c = d → σ.1 204 0 0 = nI d → (∀ e, e < d → (L e).length ≤ 16 ∧ Sg (L e) ∧ σ.2.1 201 0 e = lN (pkN (L e))) → ∃ τ, X2_digested_L97 0 10 kk f σ h (nI i) = kk τ (fo (fun e h => dlD (L e) h) c i h) ∧ Fr (Prow 10) σ τ := by
  intro c
  induction c with
  | zero =>
    intro i f h σ hf he h1 h2
    obtain ⟨g, rfl⟩ : ∃ g, f = g + 1 := ⟨f - 1, by omega⟩
    refine ⟨σ, ?_, Fr.rf⟩
    rw [X2_digested_L97, h1, if_pos (by rw [nle (by omega) (by omega)]; omega)]
    rfl
  | succ c ih =>
    intro i f h σ hf he h1 h2
    obtain ⟨g, rfl⟩ : ∃ g, f = g + 1 := ⟨f - 1, by omega⟩
    obtain ⟨l1, l2, l3⟩ := h2 i (by omega)
    obtain ⟨σ1, u1, u2, u3⟩ := X4_unpack_n (σ := σ) (r := 10) (by omega) l2 l1
    obtain ⟨τ, t1, t2⟩ := ih (i + 1) g (dlD (L i) h) σ1 (by omega) (by omega) (by rw [u2.i (by simp [Prow])]; exact h1) (fun e he => by
      obtain ⟨l1, l2, l3⟩ := h2 e he
      exact ⟨l1, l2, by rw [u2.j (by simp [Prow])]; exact l3⟩)
    refine ⟨τ, ?_, u2.tr t2⟩
    rw [X2_digested_L97, h1, if_neg (by rw [nle (by omega) (by omega)]; omega), X2_deed_n (by decide) h1 (by omega) hd, Option.bind_some]
    dsimp only
    rw [l3, u1, Option.bind_some]
    dsimp only
    rw [X4_digested_n (by decide) (Or.inr ⟨_, u3.2.1, u3.1⟩), Option.bind_some]
    dsimp only
    rw [rwD_RowS u3, nadd_r]
    exact t1
theorem X7_dig46_L {σ : Mem} {kk : Mem → Int64 → Option (Mem × Int64)} {V : Nat → Int32} (hV : ∀ k, k < 3 → (if bI (decide (0 < σ.1 203 (1 + k) 0)) = 0 then (-1 : Int32) else σ.1 204 (1 + k) 0) = V k) : ∀ (c i f : Nat) (h : Int64), c < f → i + c = 3 → X7_digest_L46 kk f σ h (nI i) = kk σ (fo (fun k h => dg h (V k)) c i h) := by
  intro c
  induction c with
  | zero =>
    intro i f h hf he
    obtain ⟨g, rfl⟩ : ∃ g, f = g + 1 := ⟨f - 1, by omega⟩
    rw [X7_digest_L46, if_pos (by rw [nle_l (by omega) (by decide)]; omega)]
    rfl
  | succ c ih =>
    intro i f h hf he
    obtain ⟨g, rfl⟩ : ∃ g, f = g + 1 := ⟨f - 1, by omega⟩
    have hv := hV i (by omega)
    rw [X7_digest_L46, if_neg (by rw [nle_l (by omega) (by decide)]; omega), ck_n (by omega) (by decide), ncl (by omega), if_pos (by omega), isKept_b (by omega), Option.bind_some]
    dsimp only
    by_cases q : bI (decide (0 < σ.1 203 (1 + i) 0)) = 0
    · rw [if_pos q] at hv ⊢
      rw [lt_eq, nadd_r, ih (i + 1) g _ (by omega) (by omega), fo, ← hv]
      rfl
    · rw [if_neg q] at hv ⊢
      rw [ck_n (by omega) (by decide), if_pos (by omega), lt_eq, nadd_r, ih (i + 1) g _ (by omega) (by omega), fo, ← hv]
      rfl
theorem X7_dig96_L {σ : Mem} {kk : Mem → Int64 → Option (Mem × Int64)} {V : Nat → Int64 → Int64} (hV : ∀ r h, r < 6 → X4_digested σ r h = some (σ, V r h)) : ∀ (c i f : Nat) (h : Int64), c < f → i + c = 6 → X7_digest_L96 kk f σ h (nI i) = kk σ (fo V c i h) := by
  intro c
  induction c with
  | zero =>
    intro i f h hf he
    obtain ⟨g, rfl⟩ : ∃ g, f = g + 1 := ⟨f - 1, by omega⟩
    rw [X7_digest_L96, if_pos (by rw [nle_l (by omega) (by decide)]; omega)]
    rfl
  | succ c ih =>
    intro i f h hf he
    obtain ⟨g, rfl⟩ : ∃ g, f = g + 1 := ⟨f - 1, by omega⟩
    rw [X7_digest_L96, if_neg (by rw [nle_l (by omega) (by decide)]; omega), ck_n (by omega) (by decide), ncl (by omega), Nat.zero_add, if_pos (by omega), hV i h (by omega), Option.bind_some, nadd_r, ih (i + 1) g _ (by omega) (by omega), fo]
theorem X7_dig124_L {σ : Mem} {kk : Mem → Int64 → Option (Mem × Int64)} {V : Nat → Int64 → Int64} (hV : ∀ r h, r < 4 → X4_digested σ (6 + r) h = some (σ, V r h)) : ∀ (c i f : Nat) (h : Int64), c < f → i + c = 4 → X7_digest_L124 kk f σ h (nI i) = kk σ (fo V c i h) := by
  intro c
  induction c with
  | zero =>
    intro i f h hf he
    obtain ⟨g, rfl⟩ : ∃ g, f = g + 1 := ⟨f - 1, by omega⟩
    rw [X7_digest_L124, if_pos (by rw [nle_l (by omega) (by decide)]; omega)]
    rfl
  | succ c ih =>
    intro i f h hf he
    obtain ⟨g, rfl⟩ : ∃ g, f = g + 1 := ⟨f - 1, by omega⟩
    rw [X7_digest_L124, if_neg (by rw [nle_l (by omega) (by decide)]; omega), ck_n (by omega) (by decide), ncl (by omega), if_pos (by omega), hV i h (by omega), Option.bind_some, nadd_r, ih (i + 1) g _ (by omega) (by omega), fo]
/-! the model's -/
theorem X8_dig9_L {σ : Mem} {kk : Mem → Option (Mem × Int64)} {V : Nat → Int32} (hV : ∀ w v, w < 9 → X8_tells (h8 σ v) (nI w) = some (h8 σ v, V w)) : ∀ (c i f : Nat) (v : Int64), c < f → i + c = 9 → X8_digest_L9 kk f (h8 σ v) (nI i) = kk (h8 σ (fo (fun w h => dg h (V w)) c i v)) := by
  intro c
  induction c with
  | zero =>
    intro i f h hf he
    obtain ⟨g, rfl⟩ : ∃ g, f = g + 1 := ⟨f - 1, by omega⟩
    rw [X8_digest_L9, if_pos (by rw [nlt_l (by omega) (by decide)]; omega)]
    rfl
  | succ c ih =>
    intro i f h hf he
    obtain ⟨g, rfl⟩ : ∃ g, f = g + 1 := ⟨f - 1, by omega⟩
    rw [X8_digest_L9, if_neg (by rw [nlt_l (by omega) (by decide)]; omega), hV i h (by omega), Option.bind_some]
    dsimp only
    rw [X8_mix_n, Option.bind_some, nadd_r, ih (i + 1) g _ (by omega) (by omega), fo]
theorem X8_mp12_L {σ : Mem} {k n : Nat} {T : Nat → Nat → Int32} {kk : Mem → Option (Mem × Unit)} (hM : ML8 σ n T) (hT : TV T n) (hk : k < n) : ∀ (c i f : Nat) (v : Int64), c < f → i + c = 5 → X8_mixPress_L12 (nI k) kk f (h8 σ v) (nI i) = kk (h8 σ (fo (fun w h => dg h (lwV T k w)) c i v)) := by
  have hn := hM.2.1
  obtain ⟨kd, xx, -, -, -, -, -, -, t4⟩ := hT k hk
  have m4 : σ.1 811 0 (5 * k + 4) = T k 4 := hM.2.2 k hk 4 (by decide)
  intro c
  induction c with
  | zero =>
    intro i f h hf he
    obtain ⟨g, rfl⟩ : ∃ g, f = g + 1 := ⟨f - 1, by omega⟩
    rw [X8_mixPress_L12, if_pos (by rw [nlt_l (by omega) (by decide)]; omega)]
    rfl
  | succ c ih =>
    intro i f h hf he
    obtain ⟨g, rfl⟩ : ∃ g, f = g + 1 := ⟨f - 1, by omega⟩
    have ev : X8_lawOf (h8 σ h) (nI k) (nI i) = some (h8 σ h, lwV T k i) := by
      rw [X8_lawOf_n (σ := h8 σ h) (by omega) (by omega) (by show σ.1 811 0 (5 * k + 4) = 0 ∨ σ.1 811 0 (5 * k + 4) = 1; rw [m4]; exact t4)]
      show some (h8 σ h, if i < 4 then σ.1 811 0 (5 * k + i) else if σ.1 811 0 (5 * k + 4) = 0 then (1 : Int32) else 0) = _
      rw [m4, hM.2.2 k hk i (by omega)]
      rfl
    rw [X8_mixPress_L12, if_neg (by rw [nlt_l (by omega) (by decide)]; omega), ev, Option.bind_some]
    dsimp only
    rw [X8_mix_n, Option.bind_some, nadd_r, ih (i + 1) g _ (by omega) (by omega), fo]
theorem X8_mp2_L {σ : Mem} {n : Nat} {T : Nat → Nat → Int32} {kk : Mem → Option (Mem × Unit)} (hM : ML8 σ n T) (hT : TV T n) : ∀ (c i f : Nat) (v : Int64), c < f → i + c = n → X8_mixPress_L2 kk f (h8 σ v) (nI i) = kk (h8 σ (fo (fun k h => fo (fun w h => dg h (lwV T k w)) 5 0 h) c i v)) := by
  have hn := hM.2.1
  intro c
  induction c with
  | zero =>
    intro i f h hf he
    obtain ⟨g, rfl⟩ : ∃ g, f = g + 1 := ⟨f - 1, by omega⟩
    rw [X8_mixPress_L2, show (h8 σ h).1 810 0 0 = nI n from hM.1, if_pos (by rw [nle (by omega) (by omega)]; omega)]
    rfl
  | succ c ih =>
    intro i f h hf he
    obtain ⟨g, rfl⟩ : ∃ g, f = g + 1 := ⟨f - 1, by omega⟩
    have L := X8_mp12_L (kk := fun (s5 : Mem) => (X8_mixPress_L2 kk g s5 ((nI i + (1 : Int32))))) hM hT (show i < n by omega) 5 0 FU h (fu_gt (by decide)) (by decide)
    rw [nI_0] at L
    rw [X8_mixPress_L2, show (h8 σ h).1 810 0 0 = nI n from hM.1, if_neg (by rw [nle (by omega) (by omega)]; omega)]
    refine L.trans ?_
    rw [nadd_r]
    exact ih (i + 1) g _ (by omega) (by omega)
theorem X8_mp41_L {σ : Mem} {kk : Mem → Option (Mem × Unit)} : ∀ (c i f : Nat) (v : Int64), c < f → i + c = 6 → X8_mixPress_L41 kk f (h8 σ v) (nI i) = kk (h8 σ (fo (fun s h => dg h (σ.1 827 0 s)) c i v)) := by
  intro c
  induction c with
  | zero =>
    intro i f h hf he
    obtain ⟨g, rfl⟩ : ∃ g, f = g + 1 := ⟨f - 1, by omega⟩
    rw [X8_mixPress_L41, if_pos (by rw [nle_l (by omega) (by decide)]; omega)]
    rfl
  | succ c ih =>
    intro i f h hf he
    obtain ⟨g, rfl⟩ : ∃ g, f = g + 1 := ⟨f - 1, by omega⟩
    rw [X8_mixPress_L41, if_neg (by rw [nle_l (by omega) (by decide)]; omega), ck_n (by omega) (by decide), ncl (by omega), X8_mix_n, Option.bind_some, nadd_r, ih (i + 1) g _ (by omega) (by omega), fo]
    rfl
theorem X8_mp75_L {σ : Mem} {e : Nat} {l : List Nat} {kk : Mem → Option (Mem × Unit)} (he : e < 40) (h16 : l.length ≤ 16) (h1 : σ.1 828 0 (17 * e) = nI l.length) (h2 : ∀ j, j < l.length → σ.1 828 0 (17 * e + 1 + j) = nI (l.getD j 0)) : ∀ (c i f : Nat) (v : Int64), c < f → i + c = l.length → X8_mixPress_L75 (nI e) kk f (h8 σ v) (nI (i + 1)) = kk (h8 σ (fo (fun j h => dg h (nI (l.getD j 0))) c i v)) := by
  intro c
  induction c with
  | zero =>
    intro i f h hf hc
    obtain ⟨g, rfl⟩ : ∃ g, f = g + 1 := ⟨f - 1, by omega⟩
    rw [X8_mixPress_L75, nmul_l]
    show ck (nI (17 * e)) 680 (if σ.1 828 0 (nI (17 * e)).toNatClampNeg < nI (i + 1) then _ else _) = _
    rw [ck_n (by omega) (by decide), ncl (by omega), h1, if_pos (by rw [nlt (by omega) (by omega)]; omega)]
    rfl
  | succ c ih =>
    intro i f h hf hc
    obtain ⟨g, rfl⟩ : ∃ g, f = g + 1 := ⟨f - 1, by omega⟩
    rw [X8_mixPress_L75, nmul_l, nadd]
    show ck (nI (17 * e)) 680 (if σ.1 828 0 (nI (17 * e)).toNatClampNeg < nI (i + 1) then _ else ck (nI (17 * e + (i + 1))) 680 ((X8_mix (h8 σ h) (σ.1 828 0 (nI (17 * e + (i + 1))).toNatClampNeg)).bind _)) = _
    rw [ck_n (by omega) (by decide), ncl (by omega), h1, if_neg (by rw [nlt (by omega) (by omega)]; omega), ck_n (by omega) (by decide), ncl (by omega), show 17 * e + (i + 1) = 17 * e + 1 + i by omega, h2 i (by omega), X8_mix_n, Option.bind_some, nadd_r]
    refine (ih (i + 1) g _ (by omega) (by omega)).trans ?_
    rw [fo]
theorem X8_mp75_n {σ : Mem} {e : Nat} {l : List Nat} {kk : Mem → Option (Mem × Unit)} {v : Int64} (he : e < 40) (h16 : l.length ≤ 16) (h1 : σ.1 828 0 (17 * e) = nI l.length) (h2 : ∀ j, j < l.length → σ.1 828 0 (17 * e + 1 + j) = nI (l.getD j 0)) : X8_mixPress_L75 (nI e) kk FU (h8 σ v) 0 = kk (h8 σ (dlD l v)) := by
  rw [show FU = 99999 + 1 from rfl, X8_mixPress_L75, nmul_l]
  show ck (nI (17 * e)) 680 (if σ.1 828 0 (nI (17 * e)).toNatClampNeg < (0 : Int32) then _ else ck (nI (17 * e) + 0) 680 ((X8_mix (h8 σ v) (σ.1 828 0 (nI (17 * e) + 0).toNatClampNeg)).bind fun q13 => X8_mixPress_L75 (nI e) kk 99999 q13.1 (0 + 1))) = _
  rw [ck_n (by omega) (by decide), ncl (by omega), h1, if_neg (nnlt0 (by omega)), nadd_r]
  show ck (nI (17 * e)) 680 ((X8_mix (h8 σ v) (σ.1 828 0 (nI (17 * e)).toNatClampNeg)).bind fun q13 => X8_mixPress_L75 (nI e) kk 99999 q13.1 (0 + 1)) = _
  rw [ck_n (by omega) (by decide), ncl (by omega), h1, X8_mix_n, Option.bind_some]
  exact X8_mp75_L he h16 h1 h2 l.length 0 99999 _ (by omega) (by omega)
theorem X8_mp65_L {σ : Mem} {L : Nat → List Nat} {d : Nat} {kk : Mem → Option (Mem × Unit)} (hd : d ≤ 40) (h1 : σ.1 826 0 0 = nI d) (h2 : ∀ e, e < d → (L e).length ≤ 16 ∧ σ.1 828 0 (17 * e) = nI (L e).length ∧ ∀ j, j < (L e).length → σ.1 828 0 (17 * e + 1 + j) = nI ((L e).getD j 0)) : ∀ (c i f : Nat) (v : Int64), c < f → i + c = d → X8_mixPress_L65 kk f (h8 σ v) (nI i) = kk (h8 σ (fo (fun e h => dlD (L e) h) c i v)) := by
  intro c
  induction c with
  | zero =>
    intro i f h hf hc
    obtain ⟨g, rfl⟩ : ∃ g, f = g + 1 := ⟨f - 1, by omega⟩
    rw [X8_mixPress_L65, show (h8 σ h).1 826 0 0 = nI d from h1, if_pos (by rw [nle (by omega) (by omega)]; omega)]
    rfl
  | succ c ih =>
    intro i f h hf hc
    obtain ⟨g, rfl⟩ : ∃ g, f = g + 1 := ⟨f - 1, by omega⟩
    obtain ⟨l1, l2, l3⟩ := h2 i (by omega)
    rw [X8_mixPress_L65, show (h8 σ h).1 826 0 0 = nI d from h1, if_neg (by rw [nle (by omega) (by omega)]; omega), X8_mp75_n (show i < 40 by omega) l1 l2 l3, nadd_r, ih (i + 1) g _ (by omega) (by omega), fo]
theorem X8_mp117_L {σ : Mem} {kk : Mem → Option (Mem × Unit)} : ∀ (c i f : Nat) (v : Int64), c < f → i + c = 3 → X8_mixPress_L117 kk f (h8 σ v) (nI i) = kk (h8 σ (fo (fun k h => dg h (ktV (fun j => σ.1 829 0 j) k)) c i v)) := by
  intro c
  induction c with
  | zero =>
    intro i f h hf he
    obtain ⟨g, rfl⟩ : ∃ g, f = g + 1 := ⟨f - 1, by omega⟩
    rw [X8_mixPress_L117, if_pos (by rw [nle_l (by omega) (by decide)]; omega)]
    rfl
  | succ c ih =>
    intro i f h hf he
    obtain ⟨g, rfl⟩ : ∃ g, f = g + 1 := ⟨f - 1, by omega⟩
    rw [X8_mixPress_L117, if_neg (by rw [nle_l (by omega) (by decide)]; omega), nmul_l]
    show ck (nI (727 * i)) 2181 (if σ.1 829 0 (nI (727 * i)).toNatClampNeg = -9 then _ else ck (nI (727 * i)) 2181 ((X8_mix (h8 σ h) (σ.1 829 0 (nI (727 * i)).toNatClampNeg)).bind _)) = _
    rw [ck_n (by omega) (by decide), ck_n (by omega) (by decide), ncl (by omega), fo]
    by_cases q : σ.1 829 0 (727 * i) = -9
    · rw [if_pos q, X8_mix_n, Option.bind_some, nadd_r]
      refine (ih (i + 1) g _ (by omega) (by omega)).trans ?_
      rw [ktV, if_pos q]
    · rw [if_neg q, X8_mix_n, Option.bind_some, nadd_r]
      refine (ih (i + 1) g _ (by omega) (by omega)).trans ?_
      rw [ktV, if_neg q]
theorem X8_dig67_L {σ : Mem} {r n : Nat} {kk : Mem → Option (Mem × Int64)} (hr : r < 6) (hs : σ.1 805 0 r = nI n) (hn : n ≤ 40) : ∀ (c i f : Nat) (v : Int64), c < f → i + c = n → X8_digest_L67 (nI r) kk f (h8 σ v) (nI i) = kk (h8 σ (fo (fun j h => dg h (σ.1 806 0 (40 * r + j))) c i v)) := by
  intro c
  induction c with
  | zero =>
    intro i f h hf he
    obtain ⟨g, rfl⟩ : ∃ g, f = g + 1 := ⟨f - 1, by omega⟩
    rw [X8_digest_L67, ck_n hr (by decide), ncl (by omega), show (h8 σ h).1 805 0 r = nI n from hs, if_pos (by rw [nle (by omega) (by omega)]; omega)]
    rfl
  | succ c ih =>
    intro i f h hf he
    obtain ⟨g, rfl⟩ : ∃ g, f = g + 1 := ⟨f - 1, by omega⟩
    rw [X8_digest_L67, ck_n hr (by decide), ncl (by omega), show (h8 σ h).1 805 0 r = nI n from hs, if_neg (by rw [nle (by omega) (by omega)]; omega), X8_rowAt_n (by omega), Option.bind_some]
    dsimp only
    rw [X8_mix_n, Option.bind_some, nadd_r, ih (i + 1) g _ (by omega) (by omega), fo]
    rfl
theorem X8_dig131_L {σ : Mem} {r n : Nat} {kk : Mem → Option (Mem × Int64)} (hr : r < 4) (hs : σ.1 808 0 r = nI n) (hn : n ≤ 60) : ∀ (c i f : Nat) (v : Int64), c < f → i + c = n → X8_digest_L131 (nI r) kk f (h8 σ v) (nI i) = kk (h8 σ (fo (fun j h => dg h (σ.1 809 0 (60 * r + j))) c i v)) := by
  intro c
  induction c with
  | zero =>
    intro i f h hf he
    obtain ⟨g, rfl⟩ : ∃ g, f = g + 1 := ⟨f - 1, by omega⟩
    rw [X8_digest_L131, ck_n hr (by decide), ncl (by omega), show (h8 σ h).1 808 0 r = nI n from hs, if_pos (by rw [nle (by omega) (by omega)]; omega)]
    rfl
  | succ c ih =>
    intro i f h hf he
    obtain ⟨g, rfl⟩ : ∃ g, f = g + 1 := ⟨f - 1, by omega⟩
    rw [X8_digest_L131, ck_n hr (by decide), ncl (by omega), show (h8 σ h).1 808 0 r = nI n from hs, if_neg (by rw [nle (by omega) (by omega)]; omega), nmul_l, nadd]
    show ck (nI (60 * r + i)) 240 ((X8_mix (h8 σ h) (σ.1 809 0 (nI (60 * r + i)).toNatClampNeg)).bind _) = _
    rw [ck_n (by omega) (by decide), ncl (by omega), X8_mix_n, Option.bind_some, nadd_r]
    refine (ih (i + 1) g _ (by omega) (by omega)).trans ?_
    rw [fo]
theorem X8_dig36_L {σ : Mem} {kk : Mem → Option (Mem × Int64)} (hR : RR σ) : ∀ (c i f : Nat) (v : Int64), c < f → i + c = 6 → X8_digest_L36 kk f (h8 σ v) (nI i) = kk (h8 σ (fo (fun r h => rwD (σ.1 805 0 r) (fun j => σ.1 806 0 (40 * r + j)) h) c i v)) := by
  intro c
  induction c with
  | zero =>
    intro i f h hf he
    obtain ⟨g, rfl⟩ : ∃ g, f = g + 1 := ⟨f - 1, by omega⟩
    rw [X8_digest_L36, if_pos (by rw [nle_l (by omega) (by decide)]; omega)]
    rfl
  | succ c ih =>
    intro i f h hf he
    obtain ⟨g, rfl⟩ : ∃ g, f = g + 1 := ⟨f - 1, by omega⟩
    rw [X8_digest_L36, if_neg (by rw [nle_l (by omega) (by decide)]; omega), ck_n (by omega) (by decide), ck_n (by omega) (by decide), ncl (by omega), fo, rwD]
    show (if 0 ≤ σ.1 805 0 i then (X8_mix (h8 σ h) (σ.1 805 0 i)).bind _ else _) = _
    rcases hR i (by omega) with ⟨-, q⟩ | ⟨n, hn, -, q, -⟩
    · rw [q, if_neg (by decide), if_pos (by decide), X8_mix_n, Option.bind_some, nadd_r]
      dsimp only
      rw [show FU = 99999 + 1 from rfl, X8_digest_L67, ck_n (by omega) (by decide), ncl (by omega), show (h8 σ (dg h (-1))).1 805 0 i = -9 from q, if_pos (by decide)]
      exact ih (i + 1) g _ (by omega) (by omega)
    · have L := X8_dig67_L (kk := fun (s12 : Mem) => (X8_digest_L36 kk g s12 ((nI i + (1 : Int32))))) (show i < 6 by omega) q hn n 0 FU (dg h (nI n)) (fu_gt (by omega)) (by omega)
      rw [nI_0] at L
      rw [q, if_pos (nI_pos' (by omega)), if_neg (nnlt0 (by omega)), X8_mix_n, Option.bind_some, ncl (by omega)]
      refine L.trans ?_
      rw [nadd_r]
      exact ih (i + 1) g _ (by omega) (by omega)
theorem X8_dig101_L {σ : Mem} {kk : Mem → Option (Mem × Int64)} (hR : RT σ) : ∀ (c i f : Nat) (v : Int64), c < f → i + c = 4 → X8_digest_L101 kk f (h8 σ v) (nI i) = kk (h8 σ (fo (fun r h => rwD (σ.1 808 0 r) (fun j => σ.1 809 0 (60 * r + j)) h) c i v)) := by
  intro c
  induction c with
  | zero =>
    intro i f h hf he
    obtain ⟨g, rfl⟩ : ∃ g, f = g + 1 := ⟨f - 1, by omega⟩
    rw [X8_digest_L101, if_pos (by rw [nle_l (by omega) (by decide)]; omega)]
    rfl
  | succ c ih =>
    intro i f h hf he
    obtain ⟨g, rfl⟩ : ∃ g, f = g + 1 := ⟨f - 1, by omega⟩
    rw [X8_digest_L101, if_neg (by rw [nle_l (by omega) (by decide)]; omega), ck_n (by omega) (by decide), ck_n (by omega) (by decide), ncl (by omega), fo, rwD]
    show (if 0 ≤ σ.1 808 0 i then (X8_mix (h8 σ h) (σ.1 808 0 i)).bind _ else _) = _
    rcases hR i (by omega) with ⟨-, q⟩ | ⟨n, hn, -, q, -⟩
    · rw [q, if_neg (by decide), if_pos (by decide), X8_mix_n, Option.bind_some, nadd_r]
      dsimp only
      rw [show FU = 99999 + 1 from rfl, X8_digest_L131, ck_n (by omega) (by decide), ncl (by omega), show (h8 σ (dg h (-1))).1 808 0 i = -9 from q, if_pos (by decide)]
      exact ih (i + 1) g _ (by omega) (by omega)
    · have L := X8_dig131_L (kk := fun (s24 : Mem) => (X8_digest_L101 kk g s24 ((nI i + (1 : Int32))))) (show i < 4 by omega) q hn n 0 FU (dg h (nI n)) (fu_gt (by omega)) (by omega)
      rw [nI_0] at L
      rw [q, if_pos (nI_pos' (by omega)), if_neg (nnlt0 (by omega)), X8_mix_n, Option.bind_some, ncl (by omega)]
      refine L.trans ?_
      rw [nadd_r]
      exact ih (i + 1) g _ (by omega) (by omega)
theorem fo_cg2 {α : Type} {f g : Nat → α → α} {m : Nat} {a : α} (h : ∀ j, j < m → f j = g j) : fo f m 0 a = fo g m 0 a := fo_congr m 0 a (fun j _ hj => h j (by omega))
theorem op_digest {σ : Mem} (h : Rel σ) : Both X7_digest X8_digest σ := by
  obtain ⟨n, hn, h1, h2, hP, hM, hT⟩ := h.press
  obtain ⟨p1, ⟨d, d1, d2, d3, d4⟩, p6, -, -⟩ := h2
  obtain ⟨L, hL⟩ := Dds.ex d4
  have kp : ∀ k, k < 3 → KeptOK σ n k := fun k hk => h.kept h1 hn hk
  have kv : ∀ τ : Mem, Fr (Prow 10) σ τ → ∀ k, k < 3 → (if bI (decide (0 < τ.1 203 (1 + k) 0)) = 0 then (-1 : Int32) else τ.1 204 (1 + k) 0) = ktV (fun j => σ.1 829 0 j) k := by
    intro τ fT k hk
    rw [fT.i (by simp [Prow]), fT.i (by simp [Prow]), kept_b hn (kp k hk), ktV]
    rcases kp k hk with ⟨w1, w2⟩ | ⟨w0, w1, ⟨e, e1, e2, e3, e4⟩, -⟩
    · rw [w2]; rfl
    · have ne : ¬ σ.1 829 0 (727 * k) = -9 := by rw [e3]; exact nne_neg (by omega) (by decide)
      rw [decide_eq_true ne, bI_t, if_neg one_ne0, if_neg ne, Nat.add_comm 1 k, e2, e3]
  generalize hA1 : fo (fun w h => dg h (cntV w n (fun k f => σ.1 811 0 (5 * k + f)) (fun j => σ.1 805 0 j) (fun j => σ.1 808 0 j) (fun j => σ.1 829 0 j) (fun j => σ.1 827 0 j) (σ.1 826 0 0))) 9 0 (17 : Int64) = A1
  generalize hA2 : fo (fun k h => fo (fun w h => dg h (lwV (fun k f => σ.1 811 0 (5 * k + f)) k w)) 5 0 h) n 0 A1 = A2
  generalize hA3 : fo (fun s h => dg h (σ.1 827 0 s)) 6 0 A2 = A3
  generalize hA4 : fo (fun e h => dlD (L e) h) d 0 A3 = A4
  generalize hA5 : fo (fun k h => dg h (ktV (fun j => σ.1 829 0 j) k)) 3 0 A4 = A5
  generalize hA6 : fo (fun r h => rwD (σ.1 805 0 r) (fun j => σ.1 806 0 (40 * r + j)) h) 6 0 A5 = A6
  generalize hA7 : fo (fun r h => rwD (σ.1 808 0 r) (fun j => σ.1 809 0 (60 * r + j)) h) 4 0 A6 = A7
  have hA3' : fo (fun s h => dg h (σ.1 202 0 s)) 6 0 A2 = A3 := by
    rw [← hA3]
    refine fo_cg2 (fun s hs => ?_)
    funext h
    have : σ.1 202 0 s = σ.1 827 0 s := p6 s hs
    rw [this]
  -- the class
  obtain ⟨σ1, u1, u2⟩ := X2_dig97_L (L := L) (kk := fun s19 y4 => some (s19, y4)) d1 d 0 FU A3 σ (fu_gt (by omega)) (by omega) d2 (fun e he => ⟨(hL e he).1, (hL e he).2.1, (hL e he).2.2.1⟩)
  rw [hA4, nI_0] at u1
  have rowsz : ∀ r, r < 6 → σ.1 401 r 0 = -1 ∨ ∃ m, m ≤ rl r ∧ σ.1 401 r 0 = nI m := fun r hr => by
    have hrl : rl r = 40 := by unfold rl; rw [if_pos hr]
    rcases h.2.1 r hr with ⟨q, -⟩ | ⟨m, m1, m2, -⟩
    · exact Or.inl q
    · exact Or.inr ⟨m, by omega, m2⟩
  have txtsz : ∀ r, r < 4 → σ.1 401 (6 + r) 0 = -1 ∨ ∃ m, m ≤ rl (6 + r) ∧ σ.1 401 (6 + r) 0 = nI m := fun r hr => by
    have hrl := rl_t hr
    rcases h.2.2.1 r hr with ⟨q, -⟩ | ⟨m, m1, m2, -⟩
    · exact Or.inl q
    · exact Or.inr ⟨m, by omega, m2⟩
  have e401 : ∀ r, r < 10 → σ1.1 401 r 0 = σ.1 401 r 0 := fun r hr => u2.i (by unfold Prow; omega) 0
  have e400 : ∀ r, r < 10 → ∀ j, σ1.1 400 r j = σ.1 400 r j := fun r hr j => u2.i (by unfold Prow; omega) j
  have VR : ∀ r h, r < 6 → X4_digested σ1 r h = some (σ1, rwD (σ.1 805 0 r) (fun j => σ.1 806 0 (40 * r + j)) h) := by
    intro r v hr
    rw [X4_digested_n (by omega) (by rw [e401 r (by omega)]; exact rowsz r hr)]
    congr 2
    unfold rwD
    rw [e401 r (by omega)]
    rcases h.2.1 r hr with ⟨q1, q2⟩ | ⟨m, m1, m2, m3, m4⟩
    · rw [q1, q2, if_pos (by decide), if_pos (by decide)]
    · rw [m2, m3, if_neg (nnlt0 (by omega)), if_neg (nnlt0 (by omega)), ncl (by omega)]
      refine fo_cg2 (fun j hj => ?_)
      funext w
      dsimp only
      rw [e400 r (by omega), m4 j hj]
  have VT : ∀ r h, r < 4 → X4_digested σ1 (6 + r) h = some (σ1, rwD (σ.1 808 0 r) (fun j => σ.1 809 0 (60 * r + j)) h) := by
    intro r v hr
    rw [X4_digested_n (by omega) (by rw [e401 (6 + r) (by omega)]; exact txtsz r hr)]
    congr 2
    unfold rwD
    rw [e401 (6 + r) (by omega)]
    rcases h.2.2.1 r hr with ⟨q1, q2⟩ | ⟨m, m1, m2, m3, m4⟩
    · rw [q1, q2, if_pos (by decide), if_pos (by decide)]
    · rw [m2, m3, if_neg (nnlt0 (by omega)), if_neg (nnlt0 (by omega)), ncl (by omega)]
      refine fo_cg2 (fun j hj => ?_)
      funext w
      dsimp only
      rw [e400 (6 + r) (by omega), m4 j hj]
  have c1 := X7_digest1_L (σ := σ) (n := n) (kk := fun (s5 : Mem) (y1_4 : Int64) => ((X2_digested s5 0 y1_4 10).bind fun q6 => X7_digest_L46 (fun (s15 : Mem) (y1_14 : Int64) => (X7_digest_L96 (fun (s20 : Mem) (y1_19 : Int64) => (X7_digest_L124 (fun (s25 : Mem) (y1_24 : Int64) => (some (s25, y1_24))) FU s20 y1_19 (0 : Int32))) FU s15 y1_14 (0 : Int32))) FU q6.1 q6.2 (0 : Int32))) (fun w hw => X7_count_n h hn h1 hw) 9 0 FU 17 (fu_gt (by decide)) (by decide)
  rw [hA1, nI_0] at c1
  have c2 := X2_dig6_L (x3 := 10) (kk := fun (s9 : Mem) (y4_8 : Int64) => (X2_digested_L61 0 10 (fun (s13 : Mem) (y4_12 : Int64) => (X2_digested_L97 0 10 (fun (s19 : Mem) (y4_18 : Int64) => (some (s19, y4_18))) FU s13 y4_12 (0 : Int32))) FU s9 y4_8 (0 : Int32))) hP n 0 FU A1 (fu_gt (by omega)) (by omega)
  rw [hA2, nI_0] at c2
  have c3 := X2_dig61_L (σ := σ) (x3 := 10) (kk := fun (s13 : Mem) (y4_12 : Int64) => (X2_digested_L97 0 10 (fun (s19 : Mem) (y4_18 : Int64) => (some (s19, y4_18))) FU s13 y4_12 (0 : Int32))) 6 0 FU A2 (fu_gt (by decide)) (by decide)
  rw [hA3', nI_0] at c3
  have cD : X2_digested σ 0 A1 10 = some (σ1, A4) := by
    unfold X2_digested
    rw [if_pos (by decide), if_pos (by decide)]
    exact (c2.trans c3).trans u1
  have c4 := X7_dig46_L (σ := σ1) (kk := fun (s15 : Mem) (y1_14 : Int64) => (X7_digest_L96 (fun (s20 : Mem) (y1_19 : Int64) => (X7_digest_L124 (fun (s25 : Mem) (y1_24 : Int64) => (some (s25, y1_24))) FU s20 y1_19 (0 : Int32))) FU s15 y1_14 (0 : Int32))) (kv σ1 u2) 3 0 FU A4 (fu_gt (by decide)) (by decide)
  rw [hA5, nI_0] at c4
  have c5 := X7_dig96_L (kk := fun (s20 : Mem) (y1_19 : Int64) => (X7_digest_L124 (fun (s25 : Mem) (y1_24 : Int64) => (some (s25, y1_24))) FU s20 y1_19 (0 : Int32))) VR 6 0 FU A5 (fu_gt (by decide)) (by decide)
  rw [hA6, nI_0] at c5
  have c6 := X7_dig124_L (kk := fun (s25 : Mem) (y1_24 : Int64) => (some (s25, y1_24))) VT 4 0 FU A6 (fu_gt (by decide)) (by decide)
  rw [hA7, nI_0] at c6
  -- the model
  have g8 : ∀ c j, 700 ≤ c → σ1.1 c 0 j = σ.1 c 0 j := fun c j hc => u2.i (by unfold Prow; omega) j
  have mM : ML8 σ1 n (fun k f => σ.1 811 0 (5 * k + f)) := hM.fr u2 (by simp [Prow]) (by simp [Prow])
  have mR : RR σ1 := fun r hr => (h.2.1 r hr).fr u2 (by unfold Prow; omega) (by unfold Prow; omega) (by unfold Prow; omega) (by unfold Prow; omega)
  have mT : RT σ1 := fun r hr => (h.2.2.1 r hr).fr u2 (by unfold Prow; omega) (by unfold Prow; omega) (by unfold Prow; omega) (by unfold Prow; omega)
  have w1 := X8_dig9_L (σ := σ1) (V := fun w => cntV w n (fun k f => σ.1 811 0 (5 * k + f)) (fun j => σ.1 805 0 j) (fun j => σ.1 808 0 j) (fun j => σ.1 829 0 j) (fun j => σ.1 827 0 j) (σ.1 826 0 0)) (kk := fun (s5 : Mem) => ((X8_mixPress s5).bind fun q6 => X8_digest_L36 (fun (s19 : Mem) => (X8_digest_L101 (fun (s31 : Mem) => (some (s31, (s31.2.1 830 0 0)))) FU s19 (0 : Int32))) FU q6.1 (0 : Int32))) (fun w v hw => by
    have := X8_tells_n (σ := h8 σ1 v) (w := w) mM hT hw
    rw [this]
    congr 2
    show cntV w n _ (fun j => σ1.1 805 0 j) (fun j => σ1.1 808 0 j) (fun j => σ1.1 829 0 j) (fun j => σ1.1 827 0 j) (σ1.1 826 0 0) = _
    simp only [g8 805 _ (by decide), g8 808 _ (by decide), g8 829 _ (by decide), g8 827 _ (by decide), g8 826 _ (by decide)]) 9 0 FU 17 (fu_gt (by decide)) (by decide)
  rw [hA1, nI_0] at w1
  have w2 := X8_mp2_L (σ := σ1) (kk := fun (s8 : Mem) => (X8_mixPress_L41 (fun (s12 : Mem) => (X8_mixPress_L65 (fun (s19 : Mem) => (X8_mixPress_L117 (fun (s25 : Mem) => (some (s25, ()))) FU s19 (0 : Int32))) FU s12 (0 : Int32))) FU s8 (0 : Int32))) mM hT n 0 FU A1 (fu_gt (by omega)) (by omega)
  rw [hA2, nI_0] at w2
  have w3 := X8_mp41_L (σ := σ1) (kk := fun (s12 : Mem) => (X8_mixPress_L65 (fun (s19 : Mem) => (X8_mixPress_L117 (fun (s25 : Mem) => (some (s25, ()))) FU s19 (0 : Int32))) FU s12 (0 : Int32))) 6 0 FU A2 (fu_gt (by decide)) (by decide)
  have hA3'' : fo (fun s h => dg h (σ1.1 827 0 s)) 6 0 A2 = A3 := by
    rw [← hA3]
    simp only [g8 827 _ (by decide)]
  rw [hA3'', nI_0] at w3
  have w4 := X8_mp65_L (σ := σ1) (L := L) (kk := fun (s19 : Mem) => (X8_mixPress_L117 (fun (s25 : Mem) => (some (s25, ()))) FU s19 (0 : Int32))) d1 (by rw [g8 826 _ (by decide)]; exact d3) (fun e he => ⟨(hL e he).1, by rw [g8 828 _ (by decide)]; exact (hL e he).2.2.2.1, fun j hj => by rw [g8 828 _ (by decide)]; exact (hL e he).2.2.2.2 j hj⟩) d 0 FU A3 (fu_gt (by omega)) (by omega)
  rw [hA4, nI_0] at w4
  have w5 := X8_mp117_L (σ := σ1) (kk := fun (s25 : Mem) => (some (s25, ()))) 3 0 FU A4 (fu_gt (by decide)) (by decide)
  have hA5' : fo (fun k h => dg h (ktV (fun j => σ1.1 829 0 j) k)) 3 0 A4 = A5 := by
    rw [← hA5]
    simp only [g8 829 _ (by decide)]
  rw [hA5', nI_0] at w5
  have wD : X8_mixPress (h8 σ1 A1) = some (h8 σ1 A5, ()) := by
    unfold X8_mixPress
    exact ((w2.trans w3).trans w4).trans w5
  have w6 := X8_dig36_L (σ := σ1) (kk := fun (s19 : Mem) => (X8_digest_L101 (fun (s31 : Mem) => (some (s31, (s31.2.1 830 0 0)))) FU s19 (0 : Int32))) mR 6 0 FU A5 (fu_gt (by decide)) (by decide)
  have hA6' : fo (fun r h => rwD (σ1.1 805 0 r) (fun j => σ1.1 806 0 (40 * r + j)) h) 6 0 A5 = A6 := by
    rw [← hA6]
    simp only [g8 805 _ (by decide), g8 806 _ (by decide)]
  rw [hA6', nI_0] at w6
  have w7 := X8_dig101_L (σ := σ1) (kk := fun (s31 : Mem) => (some (s31, (s31.2.1 830 0 0)))) mT 4 0 FU A6 (fu_gt (by decide)) (by decide)
  have hA7' : fo (fun r h => rwD (σ1.1 808 0 r) (fun j => σ1.1 809 0 (60 * r + j)) h) 4 0 A6 = A7 := by
    rw [← hA7]
    simp only [g8 808 _ (by decide), g8 809 _ (by decide)]
  rw [hA7', nI_0, h8_v] at w7
  refine Both.mk' (σ1 := σ1) (σ2 := h8 σ1 A7) (r := A7) ?_ ?_ (Rel_scr h ((u2.mono fun c k q => Or.inr (Or.inl q)).tr (Fr.uJ (Or.inl (by decide)))))
  · unfold X7_digest
    refine c1.trans ?_
    rw [cD, Option.bind_some]
    exact (c4.trans c5).trans c6
  · unfold X8_digest
    refine w1.trans ?_
    rw [wD, Option.bind_some]
    exact w6.trans w7
