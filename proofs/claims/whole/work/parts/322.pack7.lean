theorem pkN_split (l t : List Nat) : pkN (l ++ t) = pkN l * 8 ^ t.length + pkN t := by
  have key : ∀ (t : List Nat) (a : Nat), t.foldl (fun a v => 8 * a + (v + 1)) a = a * 8 ^ t.length + t.foldl (fun a v => 8 * a + (v + 1)) 0 := by
    intro t
    induction t with
    | nil => intro a; simp
    | cons v u ih =>
      intro a
      rw [List.foldl_cons, List.foldl_cons, ih (8 * a + (v + 1)), ih (8 * 0 + (v + 1)), List.length_cons, Nat.pow_succ, Nat.add_mul, Nat.mul_zero, Nat.zero_add]
      have e : 8 * a * 8 ^ u.length = a * (8 ^ u.length * 8) := by rw [Nat.mul_comm 8 a, Nat.mul_assoc, Nat.mul_comm 8]
      rw [e]
      omega
  rw [pkN_app, key]
  rfl
theorem pkN_ne0 {l : List Nat} {v : Nat} : pkN (l ++ [v]) ≠ 0 := by rw [pkN_snoc]; omega
theorem list_snoc (s : List Nat) : s = [] ∨ ∃ l v, s = l ++ [v] := by
  cases s with
  | nil => exact Or.inl rfl
  | cons a t => exact Or.inr ⟨(a :: t).dropLast, (a :: t).getLast (by simp), (List.dropLast_concat_getLast (by simp)).symm⟩
theorem pkN_inj : ∀ (n : Nat) (s t : List Nat), s.length = n → Sg s → Sg t → pkN s = pkN t → s = t := by
  intro n
  induction n with
  | zero =>
    intro s t hn hs ht e
    have : s = [] := List.eq_nil_of_length_eq_zero hn
    subst this
    rcases list_snoc t with rfl | ⟨l, v, rfl⟩
    · rfl
    · exact absurd e.symm pkN_ne0
  | succ n ih =>
    intro s t hn hs ht e
    rcases list_snoc s with rfl | ⟨l, v, rfl⟩
    · simp at hn
    · rcases list_snoc t with rfl | ⟨l2, v2, rfl⟩
      · exact absurd e pkN_ne0
      · rw [pkN_snoc, pkN_snoc] at e
        have hv : v < 6 := hs v (by simp)
        have hv2 : v2 < 6 := ht v2 (by simp)
        have e1 : v = v2 := by omega
        have e2 : pkN l = pkN l2 := by omega
        have := ih l l2 (by simpa using hn) (fun w hw => hs w (List.mem_append_left _ hw)) (fun w hw => ht w (List.mem_append_left _ hw)) e2
        rw [this, e1]
theorem lN_inj {a b : Nat} (ha : a < 2 ^ 64) (hb : b < 2 ^ 64) (h : lN a = lN b) : a = b := by
  rw [← wb_tn ha, ← wb_tn hb, h]
theorem lN_e2 {a b : Nat} (ha : a < 2 ^ 64) (hb : b < 2 ^ 64) : (lN a = lN b) ↔ a = b := ⟨lN_inj ha hb, fun h => by rw [h]⟩
theorem pk_eq2 {s t : List Nat} (hs : Sg s) (ht : Sg t) (h1 : s.length ≤ 16) (h2 : t.length ≤ 16) : lg_cmp (lN (pkN s)) (lN (pkN t)) = 0 ↔ s = t := by
  have q1 := pkN_lt48 hs h1
  have q2 := pkN_lt48 ht h2
  rw [lg_cmp_eq, lN_e2 (by omega) (by omega)]
  exact ⟨fun e => pkN_inj _ s t rfl hs ht e, fun e => by rw [e]⟩
theorem l32 {n : Nat} (h : n < 2147483648) : (lN n).toInt32 = nI n := by
  rw [← n64 h]
  exact Int32.toInt32_toInt64 _
theorem shr3 {A : Nat} (h : A < 2 ^ 62) : lN A >>> ((3 : Int32).toInt64 &&& 63) = lN (A / 8) := lshrN (k := 3) h (by decide)
theorem X7_signsIn_L {σ : Mem} {kk : Mem → Int32 → Option (Mem × Int32)} : ∀ (n : Nat) (pre : List Nat) (f c : Nat), pre.length = n → n < f → c + n ≤ 16 → Sg pre → X7_signsIn_L4 kk f σ (nI c) (lN (pkN pre)) = kk σ (nI (c + n)) := by
  intro n
  induction n with
  | zero =>
    intro pre f c hn hf hc hs
    obtain ⟨g, rfl⟩ : ∃ g, f = g + 1 := ⟨f - 1, by omega⟩
    have : pre = [] := List.eq_nil_of_length_eq_zero hn
    subst this
    rw [X7_signsIn_L4, if_pos (show lg_cmp (lN (pkN [])) 0 = 0 from (lg_cmp_eq _ _).mpr rfl)]
    rfl
  | succ n ih =>
    intro pre f c hn hf hc hs
    obtain ⟨g, rfl⟩ : ∃ g, f = g + 1 := ⟨f - 1, by omega⟩
    rcases list_snoc pre with rfl | ⟨l, v, rfl⟩
    · simp at hn
    · have q1 := pkN_lt48 hs (by omega)
      have hv : v < 6 := hs v (by simp)
      rw [X7_signsIn_L4, if_neg (by rw [lg_cmp_eq]; intro e; exact pkN_ne0 (lN_inj (b := 0) (by omega) (by decide) e)), if_neg (by rw [nle_l (by omega) (by decide)]; omega)]
      dsimp only [lt_]
      rw [shr3 (by omega), nadd_r, pkN_snoc, show (8 * pkN l + (v + 1)) / 8 = pkN l by omega, ih l g (c + 1) (by simpa using hn) (by omega) (by omega) (fun w hw => hs w (List.mem_append_left _ hw))]
      congr 2
      omega
theorem X7_signsIn_n {σ : Mem} {s : List Nat} (hs : Sg s) (h : s.length ≤ 16) : X7_signsIn σ (lN (pkN s)) = some (σ, nI s.length) := by
  unfold X7_signsIn
  have := X7_signsIn_L (σ := σ) (kk := fun s v => some (s, v)) s.length s FU 0 rfl (fu_gt (by omega)) (by omega) hs
  rw [show (0 : Int32) = nI 0 from rfl, this, Nat.zero_add]
theorem X4_pack_L {σ : Mem} {r : Nat} {s : List Nat} {kk : Mem → Int64 → Option (Mem × Int64)} (hr : r < 11) (hS : RowS σ r s) (h16 : s.length ≤ 16) : ∀ (rest pre : List Nat) (f : Nat), s = pre ++ rest → rest.length < f → X4_pack_L4 r kk f σ (lN (pkN pre)) (nI pre.length) = kk σ (lN (pkN s)) := by
  obtain ⟨s1, s2, s3, s4⟩ := hS
  intro rest
  induction rest with
  | nil =>
    intro pre f hs hf
    obtain ⟨g, rfl⟩ : ∃ g, f = g + 1 := ⟨f - 1, by omega⟩
    have : s = pre := by simpa using hs
    subst this
    rw [X4_pack_L4, s1, if_pos (by rw [nle (by omega) (by omega)]; omega)]
  | cons a t ih =>
    intro pre f hs hf
    obtain ⟨g, rfl⟩ : ∃ g, f = g + 1 := ⟨f - 1, by omega⟩
    have hl : s.length = pre.length + (t.length + 1) := by rw [hs]; simp
    have ha : a < 6 := s3 a (by rw [hs]; simp)
    have e1 : σ.1 400 r pre.length = nI a := by rw [s4 pre.length (by omega), hs, getD_app]
    have hp : Sg pre := fun w hw => s3 w (by rw [hs]; exact List.mem_append_left _ hw)
    have q1 := pkN_lt48 hp (by omega)
    rw [X4_pack_L4, s1, if_neg (by rw [nle (by omega) (by omega)]; omega), if_neg (by rw [nle_l (by omega) (by decide)]; omega), X4_cell_in hr s1 s2 (by omega)]
    dsimp only [Option.bind_some]
    rw [e1, X7_packed_n (by omega) ha]
    dsimp only [Option.bind_some]
    rw [← pkN_snoc, nadd_r]
    have := ih (pre ++ [a]) g (by rw [hs]; simp) (by simp at hf; omega)
    simpa using this
theorem X4_pack_n {σ : Mem} {r : Nat} {s : List Nat} (hr : r < 11) (hS : RowS σ r s) (h16 : s.length ≤ 16) : X4_pack σ r = some (σ, lN (pkN s)) := by
  unfold X4_pack
  rw [if_pos hr]
  exact X4_pack_L (kk := fun s v => some (s, v)) hr hS h16 s [] FU rfl (fu_gt (by omega))
theorem sub_neg1 (x : Int32) : x + (-1 : Int32) = x - 1 := by rw [Int32.sub_eq_add_neg]
theorem i32_m1 : ((nI 0 : Int32) - 1) < 0 := by decide
def Prow (r : Nat) (c k : Nat) : Prop := (c = 400 ∨ c = 401) ∧ k = r
theorem dig8 {pre t : List Nat} {v : Nat} (ht : Sg t) (hv : v < 6) : pkN (pre ++ v :: t) / 2 ^ (3 * t.length) % 8 = v + 1 := by
  have h1 : pre ++ v :: t = (pre ++ [v]) ++ t := by simp
  rw [h1, pkN_split, Nat.pow_mul, show (2 : Nat) ^ 3 = 8 from rfl, Nat.mul_comm, Nat.mul_add_div (Nat.pow_pos (by decide)), Nat.div_eq_of_lt (pkN_lt ht), pkN_snoc]
  omega
theorem X4_unpack_L {r : Nat} {s : List Nat} {kk : Mem → Option (Mem × Unit)} (hr : r < 11) (hs : Sg s) (h16 : s.length ≤ 16) : ∀ (rest pre : List Nat) (f : Nat) (σ : Mem), s = pre ++ rest → rest.length < f → RowS σ r pre → ∃ τ, X4_unpack_L16 r (lN (pkN s)) kk f σ (nI rest.length - 1) = kk τ ∧ Fr (Prow r) σ τ ∧ RowS τ r s := by
  have hrl := rl_ge r
  have hrl2 := rl_le r
  have q1 := pkN_lt48 hs h16
  intro rest
  induction rest with
  | nil =>
    intro pre f σ he hf hS
    obtain ⟨g, rfl⟩ : ∃ g, f = g + 1 := ⟨f - 1, by omega⟩
    refine ⟨σ, ?_, Fr.rf, by rw [he]; simpa using hS⟩
    rw [X4_unpack_L16, if_pos (show nI ([] : List Nat).length - 1 < 0 from i32_m1)]
  | cons a t ih =>
    intro pre f σ he hf hS
    obtain ⟨g, rfl⟩ : ∃ g, f = g + 1 := ⟨f - 1, by omega⟩
    have hl : s.length = pre.length + (t.length + 1) := by rw [he]; simp
    have ha : a < 6 := hs a (by rw [he]; simp)
    have ht : Sg t := fun w hw => hs w (by rw [he]; simp [hw])
    have e0 : nI (a :: t).length - 1 = nI t.length := by rw [nsub_r (by show 1 ≤ (a :: t).length; simp)]; simp
    have ev : ((lN (pkN s) >>> (((3 : Int32) * nI t.length).toInt64 &&& 63)) &&& (7 : Int64)).toInt32 - (1 : Int32) = nI a := by
      have k1 : pkN s / 2 ^ (3 * t.length) ≤ pkN s := Nat.div_le_self _ _
      rw [nmul_l, lshrN (by omega) (by omega), show (7 : Int64) = lN (2 ^ 3 - 1) from rfl, wb_mask (by omega) (by decide)]
      have : pkN s / 2 ^ (3 * t.length) % 2 ^ 3 = a + 1 := by rw [he]; exact dig8 ht ha
      rw [this, l32 (by omega), nsub_r (by show 1 ≤ a + 1; omega)]
      rfl
    have hS' : RowS (uI (uI σ 400 r pre.length (nI a)) 401 r 0 (nI (pre.length + 1))) r (pre ++ [a]) := by
      obtain ⟨s1, s2, s3, s4⟩ := hS
      refine ⟨by simp [uI_1], by simp; omega, Sg.sn s3 ha, fun j hj => ?_⟩
      simp at hj
      by_cases e : j = pre.length
      · subst e; rw [getD_sn_eq]; simp [uI_1]
      · rw [getD_sn_lt (by omega), ← s4 j (by omega)]
        simp [uI_1, e]
    obtain ⟨τ, t1, t2, t3⟩ := ih (pre ++ [a]) g _ (by rw [he]; simp) (by simp at hf; omega) hS'
    refine ⟨τ, ?_, ((Fr.uI ⟨Or.inl rfl, rfl⟩).tr (Fr.uI ⟨Or.inr rfl, rfl⟩)).tr t2, t3⟩
    rw [X4_unpack_L16, e0, if_neg (nnlt0 (by omega)), ev, X4_add_n hr hS.1 (by omega)]
    dsimp only [Option.bind_some]
    rw [sub_neg1]
    exact t1
theorem X4_unpack_n {σ : Mem} {r : Nat} {s : List Nat} (hr : r < 11) (hs : Sg s) (h16 : s.length ≤ 16) : ∃ τ, X4_unpack σ r (lN (pkN s)) = some (τ, ()) ∧ Fr (Prow r) σ τ ∧ RowS τ r s := by
  have hrl := rl_ge r
  have f0 : Fr (Prow r) σ (rnw σ r 0 0) := (Fr.uI ⟨Or.inr rfl, rfl⟩).tr (Fr.aI ⟨Or.inl rfl, rfl⟩)
  obtain ⟨τ, t1, t2, t3⟩ := X4_unpack_L (kk := fun s => some (s, ())) hr hs h16 s [] FU (rnw σ r 0 0) rfl (fu_gt (by omega)) ⟨by simp [rnw, aI_1, uI_1], by simp, by simp [Sg], fun j hj => by simp at hj⟩
  refine ⟨τ, ?_, f0.tr t2, t3⟩
  unfold X4_unpack
  rw [if_pos hr, X7_signsIn_n hs h16]
  dsimp only [Option.bind_some]
  rw [show (0 : Int32) = nI 0 from rfl, X4_renew_n hr (by omega)]
  exact t1
/-! a row that may be read as signs -/
def sgF (g : Nat → Int32) : Nat → Nat → Bool
  | 0, _ => true
  | c + 1, i => if g i < 0 then false else if g i < 6 then sgF g c (i + 1) else false
theorem sgF_cg {g h : Nat → Int32} : ∀ (c i : Nat), (∀ j, i ≤ j → j < i + c → g j = h j) → sgF g c i = sgF h c i := by
  intro c
  induction c with
  | zero => intros; rfl
  | succ c ih =>
    intro i e
    rw [sgF, sgF, e i (by omega) (by omega), ih (i + 1) (fun j h1 h2 => e j (by omega) (by omega))]
theorem sgF_ok {g : Nat → Int32} : ∀ (c i : Nat), sgF g c i = true → ∀ j, i ≤ j → j < i + c → ∃ v, v < 6 ∧ g j = nI v := by
  intro c
  induction c with
  | zero => intro i h j h1 h2; omega
  | succ c ih =>
    intro i h j h1 h2
    rw [sgF] at h
    by_cases q : g i < 0
    · rw [if_pos q] at h; cases h
    · rw [if_neg q] at h
      by_cases q2 : g i < 6
      · rw [if_pos q2] at h
        by_cases e : j = i
        · subst e
          rcases i32_cases (g j) with w | ⟨v, w1, w2⟩
          · exact absurd w q
          · rw [w2, nlt_r w1 (by decide)] at q2
            exact ⟨v, q2, w2⟩
        · exact ih (i + 1) h j (by omega) (by omega)
      · rw [if_neg q2] at h; cases h
theorem X4_holdsSigns_L {σ : Mem} {r n : Nat} {kk : Mem → Option (Mem × Int32)} (hr : r < 11) (hs : σ.1 401 r 0 = nI n) (hn : n ≤ rl r) : ∀ (c i f : Nat), c < f → i + c = n → X4_holdsSigns_L2 r kk f σ (nI i) = if sgF (fun j => σ.1 400 r j) c i = true then kk σ else some (σ, 0) := by
  have h60 := rl_le r
  intro c
  induction c with
  | zero =>
    intro i f hf he
    obtain ⟨g, rfl⟩ : ∃ g, f = g + 1 := ⟨f - 1, by omega⟩
    rw [X4_holdsSigns_L2, hs, if_pos (by rw [nle (by omega) (by omega)]; omega), sgF, if_pos rfl]
  | succ c ih =>
    intro i f hf he
    obtain ⟨g, rfl⟩ : ∃ g, f = g + 1 := ⟨f - 1, by omega⟩
    rw [X4_holdsSigns_L2, hs, if_neg (by rw [nle (by omega) (by omega)]; omega), X4_cell_in hr hs hn (by omega)]
    dsimp only [Option.bind_some]
    rw [sgF]
    by_cases q : σ.1 400 r i < 0
    · rw [if_pos q, if_pos q, b0, if_neg (by decide)]
    · rw [if_neg q, if_neg q, X4_cell_in hr hs hn (by omega)]
      dsimp only [Option.bind_some]
      by_cases q2 : σ.1 400 r i < 6
      · rw [if_pos q2, if_pos q2, nadd_r]
        exact ih (i + 1) g (by omega) (by omega)
      · rw [if_neg q2, if_neg q2, b0, if_neg (by decide)]
theorem X4_holdsSigns_n {σ : Mem} {r n : Nat} (hr : r < 11) (hs : σ.1 401 r 0 = nI n) (hn : n ≤ rl r) : X4_holdsSigns σ r = some (σ, bI (sgF (fun j => σ.1 400 r j) n 0)) := by
  have h60 := rl_le r
  unfold X4_holdsSigns
  rw [if_pos hr]
  have := X4_holdsSigns_L (kk := fun s5 => if (1 : Int32) = 0 ∨ (1 : Int32) = 1 then some (s5, (1 : Int32)) else none) hr hs hn n 0 FU (fu_gt (by omega)) (by omega)
  refine this.trans ?_
  rw [b1]
  cases sgF (fun j => σ.1 400 r j) n 0 <;> rfl
theorem an1 {σ : Mem} : X7_answer σ 1 = some (ans7 σ 1, -3) := X7_answer_n (f := 1) (by decide) (by decide)
theorem an2 {σ : Mem} : X7_answer σ 2 = some (ans7 σ 2, -3) := X7_answer_n (f := 2) (by decide) (by decide)
theorem an3 {σ : Mem} : X7_answer σ 3 = some (ans7 σ 3, -3) := X7_answer_n (f := 3) (by decide) (by decide)
theorem an4 {σ : Mem} : X7_answer σ 4 = some (ans7 σ 4, -3) := X7_answer_n (f := 4) (by decide) (by decide)
theorem an5 {σ : Mem} : X7_answer σ 5 = some (ans7 σ 5, -3) := X7_answer_n (f := 5) (by decide) (by decide)
theorem me1 {σ : Mem} : X8_meet σ 1 = some (met8 σ 1, -3) := X8_meet_n (f := 1) (by decide)
theorem me2 {σ : Mem} : X8_meet σ 2 = some (met8 σ 2, -3) := X8_meet_n (f := 2) (by decide)
theorem me3 {σ : Mem} : X8_meet σ 3 = some (met8 σ 3, -3) := X8_meet_n (f := 3) (by decide)
theorem me4 {σ : Mem} : X8_meet σ 4 = some (met8 σ 4, -3) := X8_meet_n (f := 4) (by decide)
theorem me5 {σ : Mem} : X8_meet σ 5 = some (met8 σ 5, -3) := X8_meet_n (f := 5) (by decide)
theorem X8_isSign_eq (σ : Mem) (a : Int32) : X8_isSign σ a = some (σ, if a < 0 then 0 else if a < 6 then 1 else 0) := by
  unfold X8_isSign
  rw [X8_in_eq]
  dsimp only [Option.bind_some]
  rw [if_pos (in_01 _ _ _)]
  by_cases q : a < 0
  · rw [if_pos q, if_pos q]
  · rw [if_neg q, if_neg q]
    rcases i32_cases a with w | ⟨v, w1, w2⟩
    · exact absurd w q
    · subst w2
      by_cases q2 : v < 6
      · rw [if_neg (by rw [nlt_l w1 (by decide)]; omega), if_pos (by rw [nlt_r w1 (by decide)]; exact q2)]
      · rw [if_pos (by rw [nlt_l w1 (by decide)]; omega), if_neg (by rw [nlt_r w1 (by decide)]; exact q2)]
theorem X8_askedSigns_L {σ : Mem} {r n : Nat} {kk : Mem → Option (Mem × Int32)} (hr : r < 6) (hs : σ.1 805 0 r = nI n) (hn : n ≤ 40) : ∀ (c i f : Nat), c < f → i + c = n → X8_askedSigns_L31 (nI r) kk f σ (nI i) = if sgF (fun j => σ.1 806 0 (40 * r + j)) c i = true then kk σ else some (met8 σ 3, -3) := by
  intro c
  induction c with
  | zero =>
    intro i f hf he
    obtain ⟨g, rfl⟩ : ∃ g, f = g + 1 := ⟨f - 1, by omega⟩
    rw [X8_askedSigns_L31, ck_n hr (by decide), ncl (by omega), hs, if_pos (by rw [nle (by omega) (by omega)]; omega), sgF, if_pos rfl]
  | succ c ih =>
    intro i f hf he
    obtain ⟨g, rfl⟩ : ∃ g, f = g + 1 := ⟨f - 1, by omega⟩
    rw [X8_askedSigns_L31, ck_n hr (by decide), ncl (by omega), hs, if_neg (by rw [nle (by omega) (by omega)]; omega), X8_rowAt_n (by omega)]
    dsimp only [Option.bind_some]
    rw [X8_isSign_eq, sgF]
    dsimp only [Option.bind_some]
    by_cases q : σ.1 806 0 (40 * r + i) < 0
    · rw [if_pos q, if_pos q, if_pos rfl, me3, if_neg (by decide)]
      rfl
    · rw [if_neg q, if_neg q]
      by_cases q2 : σ.1 806 0 (40 * r + i) < 6
      · rw [if_pos q2, if_pos q2, if_neg one_ne0, nadd_r]
        exact ih (i + 1) g (by omega) (by omega)
      · rw [if_neg q2, if_neg q2, if_pos rfl, me3, if_neg (by decide)]
        rfl
theorem asRow {σ : Mem} (h : Rel σ) {r most : Nat} (hr : r < 6) (hm : most ≤ 16) :
  (∃ f, 1 ≤ f ∧ f < 6 ∧ X7_refuses σ r (nI most) = some (ans7 σ f, 1) ∧ ∀ τ : Mem, (∀ j, τ.1 805 0 j = σ.1 805 0 j) → (∀ j, τ.1 806 0 j = σ.1 806 0 j) → X8_askedSigns τ (nI r) (nI most) = some (met8 τ f, -3)) ∨
  (∃ s, s.length ≤ most ∧ Sg s ∧ RowS σ r s ∧ Rw8 σ r s ∧ X7_refuses σ r (nI most) = some (σ, 0) ∧ ∀ τ : Mem, (∀ j, τ.1 805 0 j = σ.1 805 0 j) → (∀ j, τ.1 806 0 j = σ.1 806 0 j) → X8_askedSigns τ (nI r) (nI most) = some (τ, 0)) := by
  have hrl : rl r = 40 := by unfold rl; rw [if_pos hr]
  rcases h.2.1 r hr with ⟨s1, s2⟩ | ⟨n, hn, s1, s2, sc⟩
  · refine Or.inl ⟨1, by decide, by decide, ?_, fun τ e5 e6 => ?_⟩
    · unfold X7_refuses
      rw [if_pos (by omega), X4_isThere_no (by omega) s1]
      dsimp only [Option.bind_some]
      rw [if_pos rfl, an1]
      dsimp only [Option.bind_some]
      rw [b1]
    · unfold X8_askedSigns
      rw [X8_askedRow_no hr (by rw [e5]; exact s2)]
      dsimp only [Option.bind_some]
      rw [if_neg (by decide)]
  · by_cases hb : n ≤ most
    · cases hg : sgF (fun j => σ.1 400 r j) n 0 with
      | false =>
        refine Or.inl ⟨3, by decide, by decide, ?_, fun τ e5 e6 => ?_⟩
        · unfold X7_refuses
          rw [if_pos (by omega), X4_isThere_n (by omega) s1 (by omega)]
          dsimp only [Option.bind_some]
          rw [if_neg one_ne0, s1, if_pos (by rw [nle (by omega) (by omega)]; exact hb), X4_holdsSigns_n (by omega) s1 (by omega), hg]
          dsimp only [Option.bind_some]
          rw [bI_f, if_pos rfl, an3]
          dsimp only [Option.bind_some]
          rw [b1]
        · unfold X8_askedSigns
          rw [X8_askedRow_n hr (n := n) (by rw [e5]; exact s2) hn]
          dsimp only [Option.bind_some]
          rw [if_pos (by decide), ck_n hr (by decide), ncl (by omega), e5, s2, if_pos (by rw [nle (by omega) (by omega)]; exact hb)]
          refine (X8_askedSigns_L hr (n := n) (by rw [e5]; exact s2) hn n 0 FU (fu_gt (by omega)) (by omega)).trans ?_
          rw [sgF_cg n 0 (h := fun j => σ.1 400 r j) (fun j _ h2 => by show τ.1 806 0 (40 * r + j) = _; rw [e6, ← sc j (by omega)]), hg, if_neg (by decide)]
      | true =>
        have hv := sgF_ok n 0 hg
        have hv2 : ∀ j, j < n → (σ.1 400 r j).toNatClampNeg < 6 ∧ σ.1 400 r j = nI ((σ.1 400 r j).toNatClampNeg) := by
          intro j hj
          obtain ⟨v, v1, v2⟩ := hv j (by omega) (by omega)
          have v2 : σ.1 400 r j = nI v := v2
          rw [v2, ncl (by omega)]
          exact ⟨v1, rfl⟩
        have hlen : ((List.range n).map (fun j => (σ.1 400 r j).toNatClampNeg)).length = n := by simp
        have hget : ∀ j, j < n → ((List.range n).map (fun j => (σ.1 400 r j).toNatClampNeg)).getD j 0 = (σ.1 400 r j).toNatClampNeg := by
          intro j hj
          simp [List.getD_eq_getElem?_getD, hj]
        refine Or.inr ⟨(List.range n).map (fun j => (σ.1 400 r j).toNatClampNeg), by omega, ?_, ⟨by rw [hlen]; exact s1, by omega, ?_, fun j hj => ?_⟩, ⟨by rw [hlen]; exact s2, by omega, fun j hj => ?_⟩, ?_, fun τ e5 e6 => ?_⟩
        · intro v hv3
          simp at hv3
          obtain ⟨j, hj, rfl⟩ := hv3
          exact (hv2 j hj).1
        · intro v hv3
          simp at hv3
          obtain ⟨j, hj, rfl⟩ := hv3
          exact (hv2 j hj).1
        · rw [hget j (by omega)]
          exact (hv2 j (by omega)).2
        · rw [hget j (by omega)]
          show σ.1 806 0 (40 * r + j) = _
          rw [← sc j (by omega)]
          exact (hv2 j (by omega)).2
        · unfold X7_refuses
          rw [if_pos (by omega), X4_isThere_n (by omega) s1 (by omega)]
          dsimp only [Option.bind_some]
          rw [if_neg one_ne0, s1, if_pos (by rw [nle (by omega) (by omega)]; exact hb), X4_holdsSigns_n (by omega) s1 (by omega), hg]
          dsimp only [Option.bind_some]
          rw [bI_t, if_neg one_ne0, b0]
        · unfold X8_askedSigns
          rw [X8_askedRow_n hr (n := n) (by rw [e5]; exact s2) hn]
          dsimp only [Option.bind_some]
          rw [if_pos (by decide), ck_n hr (by decide), ncl (by omega), e5, s2, if_pos (by rw [nle (by omega) (by omega)]; exact hb)]
          refine (X8_askedSigns_L hr (n := n) (by rw [e5]; exact s2) hn n 0 FU (fu_gt (by omega)) (by omega)).trans ?_
          rw [sgF_cg n 0 (h := fun j => σ.1 400 r j) (fun j _ h2 => by show τ.1 806 0 (40 * r + j) = _; rw [e6, ← sc j (by omega)]), hg, if_pos rfl]
    · refine Or.inl ⟨5, by decide, by decide, ?_, fun τ e5 e6 => ?_⟩
      · unfold X7_refuses
        rw [if_pos (by omega), X4_isThere_n (by omega) s1 (by omega)]
        dsimp only [Option.bind_some]
        rw [if_neg one_ne0, s1, if_neg (by rw [nle (by omega) (by omega)]; exact hb), an5]
        dsimp only [Option.bind_some]
        rw [b1]
      · unfold X8_askedSigns
        rw [X8_askedRow_n hr (n := n) (by rw [e5]; exact s2) hn]
        dsimp only [Option.bind_some]
        rw [if_pos (by decide), ck_n hr (by decide), ncl (by omega), e5, s2, if_neg (by rw [nle (by omega) (by omega)]; exact hb), me5]
        rfl
