theorem X8_outToSheet_L  {o : List Nat} {kk : Mem → Option (Mem × Unit)} (h8 : o.length ≤ 8) : ∀ (c i f : Nat) (σ : Mem), c < f → i + c = o.length → σ.1 818 0 0 = nI o.length → Cel (fun j => σ.1 817 0 j) o → (∀ j, j < i → σ.1 815 0 j = nI (o.getD j 0)) → ∃ τ, X8_outToSheet_L10  kk f σ (nI i) = kk τ ∧ Fr (fun c _ => c = 815) σ τ ∧ Cel (fun j => τ.1 815 0 j) o := by
  intro c
  induction c with
  | zero =>
    intro i f σ hf he h1 hO hC
    obtain ⟨g, rfl⟩ : ∃ g, f = g + 1 := ⟨f - 1, by omega⟩
    refine ⟨σ, ?_, Fr.rf, fun j hj => hC j (by omega)⟩
    rw [X8_outToSheet_L10, h1, if_pos (by rw [nle (by omega) (by omega)]; omega)]
  | succ c ih =>
    intro i f σ hf he h1 hO hC
    obtain ⟨g, rfl⟩ : ∃ g, f = g + 1 := ⟨f - 1, by omega⟩
    have fr : Fr (fun c _ => c = 815) σ (uI σ 815 0 i (nI (o.getD i 0))) := Fr.uI rfl
    obtain ⟨τ, t1, t2, t3⟩ := ih (i + 1) g (uI σ 815 0 i (nI (o.getD i 0))) (by omega) (by omega) (by rw [fr.i (by decide)]; exact h1) (hO.cg fun j _ => fr.i (by decide) j) (fun j hj => by
      by_cases e : j = i
      · subst e; simp [uI_1]
      · simp only [uI_1]
        rw [if_neg (by rintro ⟨-, -, q⟩; omega)]
        exact hC j (by omega))
    refine ⟨τ, ?_, fr.tr t2, t3⟩
    have cc : σ.1 817 0 i = nI (o.getD i 0) := hO i (by omega)
    rw [X8_outToSheet_L10, h1, if_neg (by rw [nle (by omega) (by omega)]; omega), ck_n (by omega) (by decide), ck_n (by omega) (by decide), ncl (by omega), cc, nadd_r]
    exact t1
theorem X8_same1_L {x2 : Int32} {o : List Nat} {kk : Mem → Option (Mem × Int32)} (h8 : o.length ≤ 16) : ∀ (c i f : Nat) (σ : Mem), c < f → i + c = o.length → Cel (fun j => σ.1 817 0 j) o → (∀ j, j < i → σ.1 821 0 j = nI (o.getD j 0)) → ∃ τ, X8_same_L68 x2 (nI o.length) kk f σ (nI i) = kk τ ∧ Fr (fun c _ => c = 821) σ τ ∧ Cel (fun j => τ.1 821 0 j) o := by
  intro c
  induction c with
  | zero =>
    intro i f σ hf he hO hC
    obtain ⟨g, rfl⟩ : ∃ g, f = g + 1 := ⟨f - 1, by omega⟩
    refine ⟨σ, ?_, Fr.rf, fun j hj => hC j (by omega)⟩
    rw [X8_same_L68, if_pos (by rw [nle (by omega) (by omega)]; omega)]
  | succ c ih =>
    intro i f σ hf he hO hC
    obtain ⟨g, rfl⟩ : ∃ g, f = g + 1 := ⟨f - 1, by omega⟩
    have fr : Fr (fun c _ => c = 821) σ (uI σ 821 0 i (nI (o.getD i 0))) := Fr.uI rfl
    obtain ⟨τ, t1, t2, t3⟩ := ih (i + 1) g (uI σ 821 0 i (nI (o.getD i 0))) (by omega) (by omega) (hO.cg fun j _ => fr.i (by decide) j) (fun j hj => by
      by_cases e : j = i
      · subst e; simp [uI_1]
      · simp only [uI_1]
        rw [if_neg (by rintro ⟨-, -, q⟩; omega)]
        exact hC j (by omega))
    refine ⟨τ, ?_, fr.tr t2, t3⟩
    have cc : σ.1 817 0 i = nI (o.getD i 0) := hO i (by omega)
    rw [X8_same_L68, if_neg (by rw [nle (by omega) (by omega)]; omega), ck_n (by omega) (by decide), ck_n (by omega) (by decide), ncl (by omega), cc, nadd_r]
    exact t1
theorem X8_bel1_L {x2 x3 x5 : Int32} {o : List Nat} {kk : Mem → Option (Mem × Int32)} (h8 : o.length ≤ 8) : ∀ (c i f : Nat) (σ : Mem), c < f → i + c = o.length → σ.1 816 0 0 = nI o.length → Cel (fun j => σ.1 815 0 j) o → (∀ j, j < i → σ.1 822 0 j = nI (o.getD j 0)) → ∃ τ, X8_believed_L72 x2 x3 x5 kk f σ (nI i) = kk τ ∧ Fr (fun c _ => c = 822) σ τ ∧ Cel (fun j => τ.1 822 0 j) o := by
  intro c
  induction c with
  | zero =>
    intro i f σ hf he h1 hO hC
    obtain ⟨g, rfl⟩ : ∃ g, f = g + 1 := ⟨f - 1, by omega⟩
    refine ⟨σ, ?_, Fr.rf, fun j hj => hC j (by omega)⟩
    rw [X8_believed_L72, h1, if_pos (by rw [nle (by omega) (by omega)]; omega)]
  | succ c ih =>
    intro i f σ hf he h1 hO hC
    obtain ⟨g, rfl⟩ : ∃ g, f = g + 1 := ⟨f - 1, by omega⟩
    have fr : Fr (fun c _ => c = 822) σ (uI σ 822 0 i (nI (o.getD i 0))) := Fr.uI rfl
    obtain ⟨τ, t1, t2, t3⟩ := ih (i + 1) g (uI σ 822 0 i (nI (o.getD i 0))) (by omega) (by omega) (by rw [fr.i (by decide)]; exact h1) (hO.cg fun j _ => fr.i (by decide) j) (fun j hj => by
      by_cases e : j = i
      · subst e; simp [uI_1]
      · simp only [uI_1]
        rw [if_neg (by rintro ⟨-, -, q⟩; omega)]
        exact hC j (by omega))
    refine ⟨τ, ?_, fr.tr t2, t3⟩
    have cc : σ.1 815 0 i = nI (o.getD i 0) := hO i (by omega)
    rw [X8_believed_L72, h1, if_neg (by rw [nle (by omega) (by omega)]; omega), ck_n (by omega) (by decide), ck_n (by omega) (by decide), ncl (by omega), cc, nadd_r]
    exact t1
theorem X8_outToSheet_n {σ : Mem} {o : List Nat} (hO : Ou8 σ o) (h8 : o.length ≤ 8) : ∃ τ, X8_outToSheet σ = some (τ, ()) ∧ Fr (fun c _ => c = 815 ∨ c = 816) σ τ ∧ Sh8 τ o := by
  obtain ⟨o1, o2, o3, o4⟩ := hO
  have fr : Fr (fun c _ => c = 815 ∨ c = 816) σ (uI σ 816 0 0 (nI o.length)) := Fr.uI (Or.inr rfl)
  obtain ⟨τ, t1, t2, t3⟩ := X8_outToSheet_L (kk := fun s => some (s, ())) h8 o.length 0 FU (uI σ 816 0 0 (nI o.length)) (fu_gt (by omega)) (by omega) (by rw [fr.i (by decide)]; exact o1) (o4.cg fun j _ => fr.i (by decide) j) (fun j hj => by omega)
  refine ⟨τ, ?_, fr.tr (t2.mono fun _ _ => Or.inl), by rw [t2.i (by decide)]; simp [uI_1], h8, o3, t3⟩
  unfold X8_outToSheet
  rw [o1]
  exact t1
/-! again -/
def ag (T : Nat → Nat → Int32) (n m : Nat) : Nat → List Nat → Option (List Nat)
  | 0, s => some s
  | c + 1, s => if s.length ≤ 8 then ag T n m c (outS T n m s) else none
theorem RowS.fr {P : Nat → Nat → Prop} {σ τ : Mem} {r : Nat} {s : List Nat} (h : RowS σ r s) (f : Fr P σ τ) (h1 : ¬ P 400 r) (h2 : ¬ P 401 r) : RowS τ r s := ⟨by rw [f.i h2]; exact h.1, h.2.1, h.2.2.1, fun j hj => by rw [f.i h1]; exact h.2.2.2 j hj⟩
theorem PL.row {σ τ : Mem} {p n r : Nat} {T : Nat → Nat → Int32} (h : PL σ p n T) (f : Fr (Prow r) σ τ) : PL τ p n T := h.fr f (by simp [Prow]) (by simp [Prow]) (by intro g x hg; simp [Prow]; omega)
theorem X7_again_L {n m N t : Nat} {T : Nat → Nat → Int32} {kk : Mem → Option (Mem × Int32)} (hT : TV T n) (hm : m < 2147483648) (hN : N ≤ 9) : ∀ (c i f : Nat) (σ : Mem) (s : List Nat), c < f → i + c = N → PL σ 0 n T → RowS σ 10 s → s.length ≤ 16 → ∃ τ, X7_again_L74 (nI N) t (nI m) kk f σ (nI i) = (match ag T n m c s with | some _ => kk τ | none => some (τ, -6)) ∧ Fr (Prow 10) σ τ ∧ (∀ o, ag T n m c s = some o → RowS τ 10 o ∧ o.length ≤ 16) := by
  intro c
  induction c with
  | zero =>
    intro i f σ s hf he hP hS h16
    obtain ⟨g, rfl⟩ : ∃ g, f = g + 1 := ⟨f - 1, by omega⟩
    refine ⟨σ, ?_, Fr.rf, fun o ho => by cases ho; exact ⟨hS, h16⟩⟩
    rw [X7_again_L74, if_pos (by rw [nle (by omega) (by omega)]; omega)]
    rfl
  | succ c ih =>
    intro i f σ s hf he hP hS h16
    obtain ⟨g, rfl⟩ : ∃ g, f = g + 1 := ⟨f - 1, by omega⟩
    rw [X7_again_L74, if_neg (by rw [nle (by omega) (by omega)]; omega), hS.1, ag]
    by_cases e : s.length ≤ 8
    · rw [if_pos (by rw [nle_r (by omega) (by decide)]; exact e), if_pos e]
      obtain ⟨l1, l2⟩ := outS_len (m := m) hT hS.2.2.1
      obtain ⟨σ1, u1, u2, u3⟩ := X4_unpack_n (σ := σ) (r := 10) (by omega) l2 (by omega)
      obtain ⟨τ, t1, t2, t3⟩ := ih (i + 1) g σ1 (outS T n m s) (by omega) (by omega) (hP.row u2) u3 (by omega)
      refine ⟨τ, ?_, u2.tr t2, t3⟩
      rw [X2_outOf_n (by decide) (by decide) hP hT hm hS e]
      dsimp only [Option.bind_some]
      rw [u1, Option.bind_some, nadd_r]
      exact t1
    · rw [if_neg (by rw [nle_r (by omega) (by decide)]; exact e), if_neg e]
      exact ⟨σ, rfl, Fr.rf, fun o ho => by cases ho⟩
theorem s8_78 {c k : Nat} (h : P78 c k) : S8 c k := by rcases h with rfl | rfl <;> simp [S8]
theorem s8_56 {c k : Nat} (h : c = 815 ∨ c = 816) : S8 c k := by rcases h with rfl | rfl <;> simp [S8]
theorem ML8.s8 {σ τ : Mem} {n : Nat} {T : Nat → Nat → Int32} (h : ML8 σ n T) (f : Fr S8 σ τ) : ML8 τ n T := h.fr f (by simp [S8]) (by simp [S8])
theorem Rw8.s8 {σ τ : Mem} {r : Nat} {s : List Nat} (h : Rw8 σ r s) (f : Fr S8 σ τ) : Rw8 τ r s := h.fr f (by simp [S8]) (by simp [S8])
theorem X8_again_L {n N : Nat} {T : Nat → Nat → Int32} {x3 : Int32} {kk : Mem → Option (Mem × Int32)} (hT : TV T n) (hn : n ≤ 8) (hN : N ≤ 9) : ∀ (c i f : Nat) (σ : Mem) (o : List Nat), c < f → i + c = N → ML8 σ n T → Ou8 σ o → ∃ τ, X8_again_L64 (nI N) x3 kk f σ (nI i) = (match ag T n (onM T n) c o with | some _ => kk τ | none => some (τ, -6)) ∧ Fr S8 σ τ ∧ (∀ p, ag T n (onM T n) c o = some p → Ou8 τ p) := by
  have on := onM_256 (T := T) hn
  intro c
  induction c with
  | zero =>
    intro i f σ o hf he hM hO
    obtain ⟨g, rfl⟩ : ∃ g, f = g + 1 := ⟨f - 1, by omega⟩
    refine ⟨σ, ?_, Fr.rf, fun p hp => by cases hp; exact hO⟩
    rw [X8_again_L64, if_pos (by rw [nle (by omega) (by omega)]; omega)]
    rfl
  | succ c ih =>
    intro i f σ o hf he hM hO
    obtain ⟨g, rfl⟩ : ∃ g, f = g + 1 := ⟨f - 1, by omega⟩
    have h16 := hO.2.1
    rw [X8_again_L64, if_neg (by rw [nle (by omega) (by omega)]; omega), hO.1, ag]
    by_cases e : o.length ≤ 8
    · rw [if_pos (by rw [nle_r (by omega) (by decide)]; exact e), if_pos e]
      obtain ⟨τ1, a1, a2, a3⟩ := X8_outToSheet_n hO e
      have m1 : ML8 τ1 n T := hM.fr a2 (by decide) (by decide)
      obtain ⟨τ2, c1, c2, c3⟩ := X8_setBy_n m1 hT (m := onM T n) (by omega) a3
      obtain ⟨τ, t1, t2, t3⟩ := ih (i + 1) g τ2 _ (by omega) (by omega) (m1.fr c2 (by simp [P78]) (by simp [P78])) c3
      refine ⟨τ, ?_, ((a2.mono fun _ _ => s8_56).tr (c2.mono fun _ _ => s8_78)).tr t2, t3⟩
      rw [a1]
      dsimp only [Option.bind_some]
      rw [X8_onSet_n m1]
      dsimp only [Option.bind_some]
      rw [c1, Option.bind_some, nadd_r]
      exact t1
    · rw [if_neg (by rw [nle_r (by omega) (by decide)]; exact e), if_neg e]
      exact ⟨σ, rfl, Fr.rf, fun p hp => by cases hp⟩
theorem in_bad {σ : Mem} {a b c : Int32} (h : a < b ∨ c < a) : X8_in σ a b c = some (σ, 0) := by
  rw [X8_in_eq]
  rcases h with h | h
  · rw [if_pos h]
  · by_cases q : a < b
    · rw [if_pos q]
    · rw [if_neg q, if_pos h]
theorem in_ok {σ : Mem} {a b c : Int32} (h1 : ¬ a < b) (h2 : ¬ c < a) : X8_in σ a b c = some (σ, 1) := by
  rw [X8_in_eq, if_neg h1, if_neg h2]
theorem i32_nlt {a b : Int32} : ¬ a < b ↔ b ≤ a := by
  rw [Int32.lt_iff_toInt_lt, Int32.le_iff_toInt_le]
  omega
theorem i32_nle2 {a b : Int32} : ¬ a ≤ b ↔ b < a := by
  rw [Int32.lt_iff_toInt_lt, Int32.le_iff_toInt_le]
  omega
/-- a number is one of 0 .. n -/
theorem to_n (a : Int32) (n : Nat) (hn : n < 2147483648) : (a < 0 ∨ ¬ a ≤ nI n) ∨ ∃ k, k ≤ n ∧ a = nI k ∧ ¬ a < 0 ∧ a ≤ nI n := by
  rcases ix3 a (n + 1) with h | ⟨k, h1, h2, rfl⟩ | ⟨k, h1, h2, rfl⟩
  · exact Or.inl (Or.inl h)
  · exact Or.inl (Or.inr (by rw [nle h2 hn]; omega))
  · exact Or.inr ⟨k, by omega, rfl, nnlt0 h2, by rw [nle h2 hn]; omega⟩
theorem op_again {σ : Mem} (h : Rel σ) (a b c : Int32) : Both (fun σ => X7_again σ a b c) (fun σ => X8_again σ a b c) σ := by
  have J1 : ∀ σ : Mem, X8_again_J28 σ a b c (-1) = some (σ, -1) := fun σ => rfl
  have J3 : ∀ σ : Mem, X8_again_J28 σ a b c (-3) = some (σ, -3) := fun σ => rfl
  have bad : (∃ σ1, X7_again σ a b c = some (σ1, -1) ∧ σ1 = σ) → X8_again σ a b c = some (σ, -1) → Both (fun σ => X7_again σ a b c) (fun σ => X8_again σ a b c) σ := by
    rintro ⟨σ1, q1, rfl⟩ q2
    exact Both.mk' q1 q2 h
  rcases to_n b 9 (by decide) with hb | ⟨N, hN, rfl, hb1, hb2⟩
  · refine bad ⟨σ, ?_, rfl⟩ ?_
    · rcases isR a with ⟨a7, a8⟩ | ⟨r, hr, rfl⟩
      · simp only [X7_again, a7, Option.bind_some, spl_none]
        rcases isR c with ⟨c7, c8⟩ | ⟨t, ht, rfl⟩
        · simp only [c7, Option.bind_some, spl_none]
        · simp only [X7_rowOf_n ht, Option.bind_some]
          rw [spl_some (by omega)]
      · simp only [X7_again, X7_rowOf_n hr, Option.bind_some]
        rw [spl_some (by omega)]
        rcases isR c with ⟨c7, c8⟩ | ⟨t, ht, rfl⟩
        · simp only [c7, Option.bind_some, spl_none]
        · simp only [X7_rowOf_n ht, Option.bind_some]
          rw [spl_some (by omega)]
          rcases hb with hb | hb
          · rw [if_pos hb]
          · by_cases q : b < 0
            · rw [if_pos q]
            · rw [if_neg q, if_neg (show ¬ b ≤ 9 from hb)]
    · unfold X8_again
      rw [in_bad (by rcases hb with hb | hb; exact Or.inl hb; exact Or.inr (i32_nle2.mp hb))]
      dsimp only [Option.bind_some]
      rw [if_pos rfl, J1]
  have hin : ∀ σ : Mem, X8_in σ (nI N) 0 9 = some (σ, 1) := fun σ => in_ok hb1 (by rw [i32_nlt]; exact hb2)
  rcases isR a with ⟨a7, a8⟩ | ⟨r, hr, rfl⟩
  · refine bad ⟨σ, ?_, rfl⟩ ?_
    · simp only [X7_again, a7, Option.bind_some, spl_none]
      rcases isR c with ⟨c7, c8⟩ | ⟨t, ht, rfl⟩
      · simp only [c7, Option.bind_some, spl_none]
      · simp only [X7_rowOf_n ht, Option.bind_some]
        rw [spl_some (by omega)]
    · unfold X8_again
      rw [hin]
      dsimp only [Option.bind_some]
      rw [if_neg one_ne0]
      rcases isR c with ⟨c7, c8⟩ | ⟨t, ht, rfl⟩
      · rw [c8]
        dsimp only [Option.bind_some]
        rw [if_pos rfl, J1]
      · rw [X8_isRow_r ht]
        dsimp only [Option.bind_some]
        rw [if_neg one_ne0, X8_askedSigns_no (a8 σ)]
        dsimp only [Option.bind_some]
        rw [J1]
  rcases isR c with ⟨c7, c8⟩ | ⟨t, ht, rfl⟩
  · refine bad ⟨σ, ?_, rfl⟩ ?_
    · simp only [X7_again, X7_rowOf_n hr, c7, Option.bind_some, spl_none]
      rw [spl_some (by omega)]
    · unfold X8_again
      rw [hin]
      dsimp only [Option.bind_some]
      rw [if_neg one_ne0, c8]
      dsimp only [Option.bind_some]
      rw [if_pos rfl, J1]
  rcases asRow h hr (most := 8) (by decide) with ⟨f, f1, f2, e7, e8⟩ | ⟨s, hl, sg, hS, hR, e7, e8⟩
  · refine Both.mk' (σ1 := ans7 σ f) (σ2 := met8 (ans7 σ f) f) (r := -3) ?_ ?_ (Rel_fnd h f f1 f2)
    · simp only [X7_again, X7_rowOf_n hr, X7_rowOf_n ht, Option.bind_some]
      rw [spl_some (by omega), spl_some (by omega), if_neg hb1, show (9 : Int32) = nI 9 from rfl, if_pos hb2, show (8 : Int32) = nI 8 from rfl, e7]
      rfl
    · show X8_again _ _ _ _ = _
      unfold X8_again
      rw [hin]
      dsimp only [Option.bind_some]
      rw [if_neg one_ne0, X8_isRow_r ht]
      dsimp only [Option.bind_some]
      rw [if_neg one_ne0, show (8 : Int32) = nI 8 from rfl, e8 _ (fun j => ans7_i (by decide) (by decide)) (fun j => ans7_i (by decide) (by decide))]
      dsimp only [Option.bind_some]
      rw [J3]
  obtain ⟨n, T, hP, hM, hT, hn⟩ := h.laws
  have on := onM_256 (T := T) hn
  obtain ⟨σ1, u1, u2, u3⟩ := X4_unpack_n (σ := σ) (r := 10) (by omega) sg (by omega)
  obtain ⟨σ2, v1, v2, v3⟩ := X7_again_L (t := t) (kk := fun s15 => (X4_pack s15 10).bind fun q16 => (X4_unpack q16.1 t q16.2).bind fun q17 => some (q17.1, q17.1.1 401 t 0)) hT (m := onM T n) (by omega) hN N 0 FU σ1 s (fu_gt (by omega)) (by omega) (hP.row u2) u3 (by omega)
  have q7 : X7_again σ (nI r) (nI N) (nI t) = X7_again_L74 (nI N) t (nI (onM T n)) (fun s15 => (X4_pack s15 10).bind fun q16 => (X4_unpack q16.1 t q16.2).bind fun q17 => some (q17.1, q17.1.1 401 t 0)) FU σ1 (nI 0) := by
    simp only [X7_again, X7_rowOf_n hr, X7_rowOf_n ht, Option.bind_some]
    rw [spl_some (by omega), spl_some (by omega), if_neg hb1, show (9 : Int32) = nI 9 from rfl, if_pos hb2, show (8 : Int32) = nI 8 from rfl, e7]
    dsimp only [Option.bind_some]
    rw [if_pos rfl, X2_onSet_n (by decide) hP]
    dsimp only [Option.bind_some]
    rw [X4_pack_n (by omega) hS (by omega)]
    dsimp only [Option.bind_some]
    rw [u1, Option.bind_some]
    rfl
  have fr2 : Fr Scr σ σ2 := (u2.tr v2).mono fun _ _ => prow_scr
  have p8 : ∀ (σ3 : Mem), (∀ j, σ3.1 805 0 j = σ.1 805 0 j) → (∀ j, σ3.1 806 0 j = σ.1 806 0 j) → X8_again σ3 (nI r) (nI N) (nI t) = X8_again_J28 σ3 (nI r) (nI N) (nI t) 0 := by
    intro σ3 g5 g6
    unfold X8_again
    rw [hin]
    dsimp only [Option.bind_some]
    rw [if_neg one_ne0, X8_isRow_r ht]
    dsimp only [Option.bind_some]
    rw [if_neg one_ne0, show (8 : Int32) = nI 8 from rfl, e8 _ g5 g6]
    rfl
  cases hag : ag T n (onM T n) N s with
  | none =>
    rw [hag] at v1
    have i5 : ∀ j, σ2.1 805 0 j = σ.1 805 0 j := fun j => fr2.i (by simp [Scr]) j
    have i6 : ∀ j, σ2.1 806 0 j = σ.1 806 0 j := fun j => fr2.i (by simp [Scr]) j
    have hR2 : Rw8 σ2 r s := hR.fr fr2 (by simp [Scr]) (by simp [Scr])
    have hM2 : ML8 σ2 n T := hM.fr fr2 (by simp [Scr]) (by simp [Scr])
    obtain ⟨τ1, τ2, m1, m2, m3, m4, m5, m6, m7, m8, m9, m10⟩ := lso hM2 hT hr hl hR2 sg
    have hN0 : 1 ≤ N := by
      cases N with
      | zero => cases hag
      | succ N => omega
    obtain ⟨N', rfl⟩ : ∃ N', N = N' + 1 := ⟨N - 1, by omega⟩
    rw [ag, if_pos hl] at hag
    obtain ⟨τ3, w1, w2, w3⟩ := X8_again_L (N := N' + 1) (x3 := nI t) (kk := fun s10 => (X8_outToRow s10 (nI t)).bind fun q11 => some (q11.1, q11.2)) hT hn hN N' 1 FU τ2 _ (fu_gt (by omega)) (by omega) m9 m10
    rw [hag] at w1
    refine Both.mk' (σ1 := σ2) (σ2 := τ3) (r := -6) (q7.trans v1) ?_ (Rel_scr h (fr2.tr (((m4.tr m5).tr w2).mono fun _ _ q => q.scr)))
    show X8_again _ _ _ _ = _
    rw [p8 _ i5 i6]
    unfold X8_again_J28
    rw [if_pos (by decide), m1]
    dsimp only [Option.bind_some]
    rw [if_neg (by rw [neq_r (by omega) (by decide)]; omega), m2]
    dsimp only [Option.bind_some]
    rw [m3, Option.bind_some]
    exact w1
  | some o =>
    rw [hag] at v1
    obtain ⟨hO, h16⟩ := v3 o hag
    obtain ⟨σ3, x1, x2, x3⟩ := X4_unpack_n (σ := σ2) (r := t) (by omega) hO.2.2.1 h16
    have fr3 : Fr (fun c k => Prow t c k ∨ Scr c k) σ σ3 := (fr2.mono fun _ _ => Or.inr).tr (x2.mono fun _ _ => Or.inl)
    have n5 : ¬ (Prow t 805 0 ∨ Scr 805 0) := by simp [Prow, Scr]
    have n6 : ¬ (Prow t 806 0 ∨ Scr 806 0) := by simp [Prow, Scr]
    have n7 : ¬ (Prow t 810 0 ∨ Scr 810 0) := by simp [Prow, Scr]
    have n8 : ¬ (Prow t 811 0 ∨ Scr 811 0) := by simp [Prow, Scr]
    have e1 : X7_again σ (nI r) (nI N) (nI t) = some (σ3, nI o.length) := by
      rw [q7, v1]
      show (X4_pack σ2 10).bind _ = _
      rw [X4_pack_n (by decide) hO h16]
      dsimp only [Option.bind_some]
      rw [x1]
      dsimp only [Option.bind_some]
      rw [x3.1]
    obtain ⟨τ1, τ2, m1, m2, m3, m4, m5, m6, m7, m8, m9, m10⟩ := lso (hM.fr fr3 n7 n8) hT hr hl (hR.fr fr3 n5 n6) sg
    by_cases h0 : N = 0
    · subst h0
      cases hag
      obtain ⟨τ3, w1, w2⟩ := X8_sheetToRow_n ht m6
      refine Both.mk' (σ1 := σ3) (σ2 := τ3) (r := nI s.length) e1 ?_ (Rel_rowS h ht fr3 x3 m4 w2)
      show X8_again _ _ _ _ = _
      rw [p8 _ (fun j => fr3.i n5 j) (fun j => fr3.i n6 j)]
      unfold X8_again_J28
      rw [if_pos (by decide), m1]
      dsimp only [Option.bind_some]
      rw [if_pos (by decide), w1]
      rfl
    · obtain ⟨N', rfl⟩ : ∃ N', N = N' + 1 := ⟨N - 1, by omega⟩
      rw [ag, if_pos hl] at hag
      obtain ⟨τ3, w1, w2, w3⟩ := X8_again_L (N := N' + 1) (x3 := nI t) (kk := fun s10 => (X8_outToRow s10 (nI t)).bind fun q11 => some (q11.1, q11.2)) hT hn hN N' 1 FU τ2 _ (fu_gt (by omega)) (by omega) m9 m10
      rw [hag] at w1
      obtain ⟨τ4, y1, y2⟩ := X8_outToRow_n ht (w3 o hag)
      refine Both.mk' (σ1 := σ3) (σ2 := τ4) (r := nI o.length) e1 ?_ (Rel_rowS h ht fr3 x3 ((m4.tr m5).tr w2) y2)
      show X8_again _ _ _ _ = _
      rw [p8 _ (fun j => fr3.i n5 j) (fun j => fr3.i n6 j)]
      unfold X8_again_J28
      rw [if_pos (by decide), m1]
      dsimp only [Option.bind_some]
      rw [if_neg (by rw [neq_r (by omega) (by decide)]; omega), m2]
      dsimp only [Option.bind_some]
      rw [m3, Option.bind_some]
      refine Eq.trans w1 ?_
      show (X8_outToRow τ3 (nI t)).bind _ = _
      rw [y1]
      rfl
