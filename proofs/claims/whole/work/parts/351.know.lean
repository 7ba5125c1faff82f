/-! what is known of pieces -/
def P60 (c _k : Nat) : Prop := c = 600 ∨ c = 601
def KNw (σ : Mem) (pc : Nat → Nat → List Nat) : Prop := ∀ a b, a < 6 → b < 7 → σ.2.1 600 0 (a * 7 + b) = lN (pkN (pc a b)) ∧ σ.1 601 0 (a * 7 + b) = nI (pc a b).length
theorem KNw.fr {P : Nat → Nat → Prop} {σ τ : Mem} {pc : Nat → Nat → List Nat} (h : KNw σ pc) (f : Fr P σ τ) (h1 : ¬ P 600 0) (h2 : ¬ P 601 0) : KNw τ pc := fun a b ha hb => ⟨by rw [f.j h1]; exact (h a b ha hb).1, by rw [f.i h2]; exact (h a b ha hb).2⟩
theorem X6_pieceOf_n {σ : Mem} {a b : Nat} (ha : a < 6) (hb : b < 7) : X6_pieceOf σ (nI a) (nI b) = some (σ, nI (a * 7 + b)) := by
  unfold X6_pieceOf
  rw [lt_eq, nmul_r, nadd]
  show (if nI (a * 7 + b) < 0 then _ else _) = _
  rw [if_neg (nnlt0 (by omega)), if_neg (by rw [nle_l (by omega) (by decide)]; omega)]
theorem PL.p60 {σ τ : Mem} {p n : Nat} {T : Nat → Nat → Int32} (h : PL σ p n T) (f : Fr P60 σ τ) : PL τ p n T := h.fr f (by simp [P60]) (by simp [P60]) (by intro g x hg; simp [P60]; omega)
theorem X6_know16_L {n m a : Nat} {T : Nat → Nat → Int32} {kk : Mem → Option (Mem × Unit)} (hT : TV T n) (hm : m < 2147483648) (ha : a < 6) : ∀ (c b f : Nat) (σ : Mem), c < f → b + c = 7 → PL σ 0 n T → ∃ τ, X6_know_L16 0 (nI m) (nI a) kk f σ (nI b) = kk τ ∧ Fr P60 σ τ ∧ (∀ y, b ≤ y → y < 7 → τ.2.1 600 0 (a * 7 + y) = lN (pkN (pcS T n m a y)) ∧ τ.1 601 0 (a * 7 + y) = nI (pcS T n m a y).length) ∧ ∀ y, y < a * 7 + b → τ.2.1 600 0 y = σ.2.1 600 0 y ∧ τ.1 601 0 y = σ.1 601 0 y := by
  intro c
  induction c with
  | zero =>
    intro b f σ hf he hP
    obtain ⟨g, rfl⟩ : ∃ g, f = g + 1 := ⟨f - 1, by omega⟩
    refine ⟨σ, ?_, Fr.rf, fun y h1 h2 => by omega, fun y _ => ⟨rfl, rfl⟩⟩
    rw [X6_know_L16, if_pos (by rw [nlt_l (by omega) (by decide)]; omega)]
  | succ c ih =>
    intro b f σ hf he hP
    obtain ⟨g, rfl⟩ : ∃ g, f = g + 1 := ⟨f - 1, by omega⟩
    obtain ⟨l1, l2⟩ := pcS_ok (m := m) (nx := b) hT ha
    obtain ⟨σ1, e1⟩ : ∃ σ1, σ1 = uI (uJ σ 600 0 (a * 7 + b) (lN (pkN (pcS T n m a b)))) 601 0 (a * 7 + b) (nI (pcS T n m a b).length) := ⟨_, rfl⟩
    have f1 : Fr P60 σ σ1 := by rw [e1]; exact (Fr.uJ (Or.inl rfl)).tr (Fr.uI (Or.inr rfl))
    obtain ⟨τ, t1, t2, t3, t4⟩ := ih (b + 1) g σ1 (by omega) (by omega) (hP.p60 f1)
    have c0 : ∀ y, σ1.2.1 600 0 y = if y = a * 7 + b then lN (pkN (pcS T n m a b)) else σ.2.1 600 0 y := fun y => by rw [e1]; simp [uI_2, uJ_2]
    have c1 : ∀ y, σ1.1 601 0 y = if y = a * 7 + b then nI (pcS T n m a b).length else σ.1 601 0 y := fun y => by rw [e1]; simp [uI_1, uJ_1]
    refine ⟨τ, ?_, f1.tr t2, fun y h1 h2 => ?_, fun y hy => ?_⟩
    · have ev : (uJ σ 600 0 (a * 7 + b) (lN (pkN (pcS T n m a b)))).2.1 600 0 (a * 7 + b) = lN (pkN (pcS T n m a b)) := by simp [uJ_2]
      rw [X6_know_L16, if_neg (by rw [nlt_l (by omega) (by decide)]; omega), X6_pieceOf_n ha (by omega), Option.bind_some]
      dsimp only
      rw [lz64, X2_outOfSign_n (by decide) hP hT hm ha (by omega) (by omega), Option.bind_some]
      dsimp only
      rw [fld0, ck_n (by omega) (by decide), ck_n (by omega) (by decide), ncl (by omega), ev, X7_signsIn_n l2 (by omega), Option.bind_some]
      dsimp only
      rw [ck_n (by omega) (by decide), ← e1, nadd_r]
      exact t1
    · by_cases w : y = b
      · subst w
        rw [(t4 (a * 7 + y) (by omega)).1, (t4 (a * 7 + y) (by omega)).2, c0, c1, if_pos rfl, if_pos rfl]
        exact ⟨rfl, rfl⟩
      · exact t3 y (by omega) h2
    · rw [(t4 y (by omega)).1, (t4 y (by omega)).2, c0, c1, if_neg (by omega), if_neg (by omega)]
      exact ⟨rfl, rfl⟩
theorem X6_know7_L {n m : Nat} {T : Nat → Nat → Int32} {kk : Mem → Option (Mem × Unit)} (hT : TV T n) (hm : m < 2147483648) : ∀ (c a f : Nat) (σ : Mem), c < f → a + c = 6 → PL σ 0 n T → ∃ τ, X6_know_L7 0 (nI m) kk f σ (nI a) = kk τ ∧ Fr P60 σ τ ∧ (∀ x y, a ≤ x → x < 6 → y < 7 → τ.2.1 600 0 (x * 7 + y) = lN (pkN (pcS T n m x y)) ∧ τ.1 601 0 (x * 7 + y) = nI (pcS T n m x y).length) ∧ ∀ y, y < a * 7 → τ.2.1 600 0 y = σ.2.1 600 0 y ∧ τ.1 601 0 y = σ.1 601 0 y := by
  intro c
  induction c with
  | zero =>
    intro a f σ hf he hP
    obtain ⟨g, rfl⟩ : ∃ g, f = g + 1 := ⟨f - 1, by omega⟩
    refine ⟨σ, ?_, Fr.rf, fun x y h1 h2 => by omega, fun y _ => ⟨rfl, rfl⟩⟩
    rw [X6_know_L7, if_pos (by rw [nle_l (by omega) (by decide)]; omega)]
  | succ c ih =>
    intro a f σ hf he hP
    obtain ⟨g, rfl⟩ : ∃ g, f = g + 1 := ⟨f - 1, by omega⟩
    obtain ⟨σ1, u1, u2, u3, u4⟩ := X6_know16_L (a := a) (kk := fun (s7 : Mem) => (X6_know_L7 0 (nI m) kk g s7 ((nI a + (1 : Int32))))) hT hm (by omega) 7 0 FU σ (fu_gt (by decide)) (by decide) hP
    obtain ⟨τ, t1, t2, t3, t4⟩ := ih (a + 1) g σ1 (by omega) (by omega) (hP.p60 u2)
    refine ⟨τ, ?_, u2.tr t2, fun x y h1 h2 h3 => ?_, fun y hy => ?_⟩
    · rw [nI_0, nadd_r] at u1
      rw [X6_know_L7, if_neg (by rw [nle_l (by omega) (by decide)]; omega), nadd_r]
      exact u1.trans t1
    · by_cases w : x = a
      · subst w
        rw [(t4 (x * 7 + y) (by omega)).1, (t4 (x * 7 + y) (by omega)).2]
        exact u3 y (by omega) h3
      · exact t3 x y (by omega) h2 h3
    · rw [(t4 y (by omega)).1, (t4 y (by omega)).2]
      exact u4 y (by omega)
theorem X6_know_n {σ : Mem} {n : Nat} {T : Nat → Nat → Int32} (hT : TV T n) (hP : PL σ 0 n T) : ∃ τ, X6_know σ 0 = some (τ, ()) ∧ Fr P60 σ τ ∧ KNw τ (pcS T n (onM T n)) := by
  have on := onM_256 (T := T) hP.2.1
  obtain ⟨τ, t1, t2, t3, -⟩ := X6_know7_L (m := onM T n) (kk := fun s => some (s, ())) hT (by omega) 6 0 FU σ (fu_gt (by decide)) (by decide) hP
  refine ⟨τ, ?_, t2, fun a b ha hb => t3 a b (by omega) ha hb⟩
  unfold X6_know
  rw [nI_0] at t1
  rw [if_pos (by decide), X2_onSet_n (by decide) hP, Option.bind_some]
  exact t1
/-! the aim -/
def AM (σ : Mem) (o : List Nat) : Prop := σ.2.1 604 0 0 = lN (pkN o) ∧ σ.1 605 0 0 = nI o.length ∧ o.length ≤ 16 ∧ Sg o
theorem pk_mid {o : List Nat} {p n : Nat} (ho : Sg o) (h : p + n ≤ o.length) : pkN o / 2 ^ (3 * (o.length - (p + n))) % 2 ^ (3 * n) = pkN ((o.drop p).take n) := by
  have e1 : o = (o.take p ++ (o.drop p).take n) ++ o.drop (p + n) := by
    rw [List.append_assoc, ← List.drop_drop, List.take_append_drop, List.take_append_drop]
  have lC : (o.drop (p + n)).length = o.length - (p + n) := List.length_drop
  have lB : ((o.drop p).take n).length = n := by rw [List.length_take, List.length_drop]; omega
  have sC : Sg (o.drop (p + n)) := fun v hv => ho v (List.mem_of_mem_drop hv)
  have sB : Sg ((o.drop p).take n) := fun v hv => ho v (List.mem_of_mem_drop (List.mem_of_mem_take hv))
  have q1 := pkN_lt sC
  have q2 := pkN_lt sB
  rw [lC] at q1
  rw [lB] at q2
  have hv : pkN o = pkN (o.take p ++ (o.drop p).take n) * 8 ^ (o.length - (p + n)) + pkN (o.drop (p + n)) := by
    have h := pkN_split (o.take p ++ (o.drop p).take n) (o.drop (p + n))
    rw [← e1, lC] at h
    exact h
  rw [Nat.pow_mul, Nat.pow_mul, show (2 : Nat) ^ 3 = 8 from rfl, hv, Nat.mul_comm, Nat.mul_add_div (Nat.pow_pos (by decide)), Nat.div_eq_of_lt q1, Nat.add_zero, pkN_split, lB, Nat.mul_comm, Nat.mul_add_mod, Nat.mod_eq_of_lt q2]
theorem X6_placeAfter_n {σ : Mem} {pc : Nat → Nat → List Nat} {o : List Nat} {a b p : Nat} (hpc : PcOK pc) (hK : KNw σ pc) (hA : AM σ o) (ha : a < 6) (hb : b < 7) (hp : p ≤ o.length) : X6_placeAfter σ (nI a) (nI b) (nI p) = some (σ, chI (pa pc o a b p)) := by
  obtain ⟨k1, k2⟩ := hK a b ha hb
  obtain ⟨a1, a2, a3, a4⟩ := hA
  obtain ⟨l1, l2⟩ := hpc a b ha hb
  unfold X6_placeAfter
  rw [X6_pieceOf_n ha hb, Option.bind_some]
  dsimp only
  rw [ck_n (by omega) (by decide), lt_eq, ncl (by omega), k2, k1, a1, a2, nadd]
  unfold pa
  by_cases w : p + (pc a b).length ≤ o.length
  · have q1 := pkN_lt48 a4 a3
    have e1 : (3 : Int32) * (nI o.length - nI (p + (pc a b).length)) = nI (3 * (o.length - (p + (pc a b).length))) := by rw [nsub w, nmul_l]
    have e2 : (3 : Int32) * nI (pc a b).length = nI (3 * (pc a b).length) := nmul_l _ 3
    have e3 : ((1 : Int64) <<< ((nI (3 * (pc a b).length)).toInt64 &&& 63)) - 1 = lN (2 ^ (3 * (pc a b).length) - 1) := by
      rw [show (1 : Int64) = lN 1 from rfl, wb_shl 1 (by omega), Nat.one_mul, lN_sub Nat.one_le_two_pow]
    have hd : pkN o / 2 ^ (3 * (o.length - (p + (pc a b).length))) ≤ pkN o := Nat.div_le_self _ _
    rw [if_pos (by rw [nle (by omega) (by omega)]; exact w), ck_n (by omega) (by decide), lt_eq, e1, e2, e3, lshrN (by omega) (by omega), wb_mask (by omega) (by omega), pk_mid a4 w, ck_n (by omega) (by decide)]
    have sB : Sg ((o.drop p).take (pc a b).length) := fun v hv => a4 v (List.mem_of_mem_drop (List.mem_of_mem_take hv))
    have lB : ((o.drop p).take (pc a b).length).length ≤ 16 := by rw [List.length_take]; omega
    by_cases w2 : (o.drop p).take (pc a b).length = pc a b
    · rw [if_pos ((pk_eq2 sB l2 lB (by omega)).mpr w2), if_pos ⟨w, w2⟩]
      rfl
    · rw [if_neg (fun v => w2 ((pk_eq2 sB l2 lB (by omega)).mp v)), if_neg (fun v => w2 v.2)]
      rfl
  · rw [if_neg (by rw [nle (by omega) (by omega)]; exact w), if_neg (fun v => w v.1)]
    rfl
theorem X6_wayOf_n {σ : Mem} {s a p : Nat} (hs : s ≤ 6) (ha : a < 6) (hp : p ≤ 16) : X6_wayOf σ (nI s) (nI a) (nI p) = some (σ, nI ((s * 6 + a) * 17 + p)) := by
  unfold X6_wayOf
  rw [lt_eq, nmul_r, nadd, nmul_r, nadd]
  show (if nI ((s * 6 + a) * 17 + p) < 0 then _ else _) = _
  rw [if_neg (nnlt0 (by omega)), if_neg (by rw [nle_l (by omega) (by decide)]; omega)]
def WYa (σ : Mem) (pc : Nat → Nat → List Nat) (o : List Nat) (s : Nat) : Prop := ∀ s' a p, 1 ≤ s' → s' ≤ s → a < 6 → p ≤ o.length → σ.2.1 602 0 ((s' * 6 + a) * 17 + p) = lN (wy pc o s' a p)
theorem X6_ways32_L {σ : Mem} {pc : Nat → Nat → List Nat} {o : List Nat} {a p s : Nat} {kk : Mem → Int64 → Option (Mem × Int64)} (hpc : PcOK pc) (hK : KNw σ pc) (hA : AM σ o) (ha : a < 6) (hp : p ≤ o.length) (hs : s + 2 ≤ 6) (hW : WYa σ pc o (s + 1)) : ∀ (c b f A : Nat), c < f → b + c = 6 → X6_waysFrom_L32 (nI (s + 2)) (nI a) (nI p) kk f σ (lN A) (nI b) = kk σ (lN (A + sm (fun b => match pa pc o a b p with | none => 0 | some q => wy pc o (s + 1) b q) c b)) := by
  have h16 := hA.2.2.1
  intro c
  induction c with
  | zero =>
    intro b f A hf he
    obtain ⟨g, rfl⟩ : ∃ g, f = g + 1 := ⟨f - 1, by omega⟩
    rw [X6_waysFrom_L32, if_pos (by rw [nle_l (by omega) (by decide)]; omega)]
    rfl
  | succ c ih =>
    intro b f A hf he
    obtain ⟨g, rfl⟩ : ∃ g, f = g + 1 := ⟨f - 1, by omega⟩
    rw [X6_waysFrom_L32, if_neg (by rw [nle_l (by omega) (by decide)]; omega), X6_placeAfter_n hpc hK hA ha (by omega) hp, Option.bind_some, sm]
    dsimp only
    cases hq : pa pc o a b p with
    | none =>
      rw [show chI none = -9 from rfl, if_pos rfl, lt_eq, lz64, lN_add, nadd_r, ih (b + 1) g _ (by omega) (by omega)]
      simp
    | some q =>
      have hq2 := pa_le hq
      rw [show chI (some q) = nI q from rfl, if_neg (nne_neg (by omega) (by decide)), nsub_r (by show 1 ≤ s + 2; omega)]
      show ((X6_wayOf σ (nI (s + 1)) (nI b) (nI q)).bind _) = _
      rw [X6_wayOf_n (by omega) (by omega) (by omega), Option.bind_some]
      dsimp only
      rw [ck_n (by omega) (by decide), lt_eq, ncl (by omega), hW (s + 1) b q (by omega) (by omega) (by omega) hq2, lN_add, nadd_r, ih (b + 1) g _ (by omega) (by omega), Nat.add_assoc]
theorem X6_waysFrom_n {σ : Mem} {pc : Nat → Nat → List Nat} {o : List Nat} {a p s : Nat} (hpc : PcOK pc) (hK : KNw σ pc) (hA : AM σ o) (ha : a < 6) (hp : p ≤ o.length) (hs : s + 1 ≤ 6) (hW : WYa σ pc o s) : X6_waysFrom σ (nI (s + 1)) (nI a) (nI p) = some (σ, lN (wy pc o (s + 1) a p)) := by
  have h16 := hA.2.2.1
  unfold X6_waysFrom
  cases s with
  | zero =>
    rw [if_pos (show nI (0 + 1) = 1 from rfl), show (6 : Int32) = nI 6 from rfl, X6_placeAfter_n hpc hK hA ha (by omega) hp, Option.bind_some]
    dsimp only
    rw [hA.2.1, wy]
    have e : (chI (pa pc o a 6 p) = nI o.length) ↔ pa pc o a 6 p = some o.length := chI_eq (by omega) (fun j hj => by have := pa_le hj; omega)
    by_cases q : pa pc o a 6 p = some o.length
    · rw [if_pos (e.mpr q), if_pos q]; rfl
    · rw [if_neg (fun w => q (e.mp w)), if_neg q]; rfl
  | succ s =>
    rw [if_neg (by rw [neq_r (by omega) (by decide)]; show ¬ s + 1 + 1 = 1; omega)]
    have L := X6_ways32_L (kk := fun s8 y => some (s8, y)) hpc hK hA ha hp (s := s) (by omega) hW 6 0 FU 0 (fu_gt (by decide)) (by decide)
    rw [nI_0, Nat.zero_add, ← lz64] at L
    rw [wy]
    exact L
def P602 (c _k : Nat) : Prop := c = 602
theorem AM.fr {P : Nat → Nat → Prop} {σ τ : Mem} {o : List Nat} (h : AM σ o) (f : Fr P σ τ) (h1 : ¬ P 604 0) (h2 : ¬ P 605 0) : AM τ o := ⟨by rw [f.j h1]; exact h.1, by rw [f.i h2]; exact h.2.1, h.2.2⟩
theorem X6_aim42_L {pc : Nat → Nat → List Nat} {o : List Nat} {a s : Nat} {x3 : Int32} {kk : Mem → Option (Mem × Unit)} (hpc : PcOK pc) (ha : a < 6) (hs : s + 1 ≤ 6) : ∀ (c p f : Nat) (σ : Mem), c < f → p + c = o.length + 1 → KNw σ pc → AM σ o → WYa σ pc o s → ∃ τ, X6_aim_L42 x3 (nI (s + 1)) (nI a) kk f σ (nI p) = kk τ ∧ Fr P602 σ τ ∧ (∀ y, p ≤ y → y ≤ o.length → τ.2.1 602 0 (((s + 1) * 6 + a) * 17 + y) = lN (wy pc o (s + 1) a y)) ∧ ∀ y, y < ((s + 1) * 6 + a) * 17 + p → τ.2.1 602 0 y = σ.2.1 602 0 y := by
  intro c
  induction c with
  | zero =>
    intro p f σ hf he hK hA hW
    obtain ⟨g, rfl⟩ : ∃ g, f = g + 1 := ⟨f - 1, by omega⟩
    have h16 := hA.2.2.1
    refine ⟨σ, ?_, Fr.rf, fun y h1 h2 => by omega, fun y _ => rfl⟩
    rw [X6_aim_L42, hA.2.1, if_pos (by rw [nlt (by omega) (by omega)]; omega)]
  | succ c ih =>
    intro p f σ hf he hK hA hW
    obtain ⟨g, rfl⟩ : ∃ g, f = g + 1 := ⟨f - 1, by omega⟩
    have h16 := hA.2.2.1
    obtain ⟨σ1, e1⟩ : ∃ σ1, σ1 = uJ σ 602 0 (((s + 1) * 6 + a) * 17 + p) (lN (wy pc o (s + 1) a p)) := ⟨_, rfl⟩
    have f1 : Fr P602 σ σ1 := by rw [e1]; exact Fr.uJ rfl
    have c0 : ∀ y, σ1.2.1 602 0 y = if y = ((s + 1) * 6 + a) * 17 + p then lN (wy pc o (s + 1) a p) else σ.2.1 602 0 y := fun y => by rw [e1]; simp [uJ_2]
    obtain ⟨τ, t1, t2, t3, t4⟩ := ih (p + 1) g σ1 (by omega) (by omega) (hK.fr f1 (by unfold P602; omega) (by unfold P602; omega)) (hA.fr f1 (by unfold P602; omega) (by unfold P602; omega)) (fun s' a' p' h1 h2 h3 h4 => by rw [c0, if_neg (by omega)]; exact hW s' a' p' h1 h2 h3 h4)
    refine ⟨τ, ?_, f1.tr t2, fun y h1 h2 => ?_, fun y hy => ?_⟩
    · rw [X6_aim_L42, hA.2.1, if_neg (by rw [nlt (by omega) (by omega)]; omega), X6_wayOf_n (by omega) ha (by omega), Option.bind_some]
      dsimp only
      rw [X6_waysFrom_n hpc hK hA ha (by omega) hs hW, Option.bind_some]
      dsimp only
      rw [ck_n (by omega) (by decide), ncl (by omega), ← e1, nadd_r]
      exact t1
    · by_cases w : y = p
      · subst w
        rw [t4 _ (by omega), c0, if_pos rfl]
      · exact t3 y (by omega) h2
    · rw [t4 y (by omega), c0, if_neg (by omega)]
theorem X6_aim32_L {pc : Nat → Nat → List Nat} {o : List Nat} {s : Nat} {x3 : Int32} {kk : Mem → Option (Mem × Unit)} (hpc : PcOK pc) (hs : s + 1 ≤ 6) : ∀ (c a f : Nat) (σ : Mem), c < f → a + c = 6 → KNw σ pc → AM σ o → WYa σ pc o s → ∃ τ, X6_aim_L32 x3 (nI (s + 1)) kk f σ (nI a) = kk τ ∧ Fr P602 σ τ ∧ (∀ x y, a ≤ x → x < 6 → y ≤ o.length → τ.2.1 602 0 (((s + 1) * 6 + x) * 17 + y) = lN (wy pc o (s + 1) x y)) ∧ ∀ y, y < ((s + 1) * 6 + a) * 17 → τ.2.1 602 0 y = σ.2.1 602 0 y := by
  intro c
  induction c with
  | zero =>
    intro a f σ hf he hK hA hW
    obtain ⟨g, rfl⟩ : ∃ g, f = g + 1 := ⟨f - 1, by omega⟩
    refine ⟨σ, ?_, Fr.rf, fun x y h1 h2 => by omega, fun y _ => rfl⟩
    rw [X6_aim_L32, if_pos (by rw [nle_l (by omega) (by decide)]; omega)]
  | succ c ih =>
    intro a f σ hf he hK hA hW
    obtain ⟨g, rfl⟩ : ∃ g, f = g + 1 := ⟨f - 1, by omega⟩
    have h16 := hA.2.2.1
    obtain ⟨σ1, u1, u2, u3, u4⟩ := X6_aim42_L (x3 := x3) (a := a) (kk := fun (s6 : Mem) => (X6_aim_L32 x3 (nI (s + 1)) kk g s6 ((nI a + (1 : Int32))))) hpc (by omega) hs (o.length + 1) 0 FU σ (fu_gt (by omega)) (by omega) hK hA hW
    obtain ⟨τ, t1, t2, t3, t4⟩ := ih (a + 1) g σ1 (by omega) (by omega) (hK.fr u2 (by unfold P602; omega) (by unfold P602; omega)) (hA.fr u2 (by unfold P602; omega) (by unfold P602; omega)) (fun s' a' p' h1 h2 h3 h4 => by rw [u4 _ (by omega)]; exact hW s' a' p' h1 h2 h3 h4)
    refine ⟨τ, ?_, u2.tr t2, fun x y h1 h2 h3 => ?_, fun y hy => ?_⟩
    · rw [nI_0, nadd_r] at u1
      rw [X6_aim_L32, if_neg (by rw [nle_l (by omega) (by decide)]; omega), nadd_r]
      exact u1.trans t1
    · by_cases w : x = a
      · subst w
        rw [t4 _ (by omega)]
        exact u3 y (by omega) h3
      · exact t3 x y (by omega) h2 h3
    · rw [t4 y (by omega)]
      exact u4 y (by omega)
theorem X6_aim16_L {pc : Nat → Nat → List Nat} {o : List Nat} {N : Nat} {kk : Mem → Option (Mem × Unit)} (hpc : PcOK pc) (hN : N ≤ 6) : ∀ (c s f : Nat) (σ : Mem), c < f → s + c = N → KNw σ pc → AM σ o → WYa σ pc o s → ∃ τ, X6_aim_L16 (nI N) kk f σ (nI (s + 1)) = kk τ ∧ Fr P602 σ τ ∧ WYa τ pc o N := by
  intro c
  induction c with
  | zero =>
    intro s f σ hf he hK hA hW
    obtain ⟨g, rfl⟩ : ∃ g, f = g + 1 := ⟨f - 1, by omega⟩
    have : s = N := by omega
    subst this
    refine ⟨σ, ?_, Fr.rf, hW⟩
    rw [X6_aim_L16, if_pos (by rw [nlt (by omega) (by omega)]; omega)]
  | succ c ih =>
    intro s f σ hf he hK hA hW
    obtain ⟨g, rfl⟩ : ∃ g, f = g + 1 := ⟨f - 1, by omega⟩
    have h16 := hA.2.2.1
    obtain ⟨σ1, u1, u2, u3, u4⟩ := X6_aim32_L (x3 := nI N) (s := s) (kk := fun (s9 : Mem) => (X6_aim_L16 (nI N) kk g s9 ((nI (s + 1) + (1 : Int32))))) hpc (by omega) 6 0 FU σ (fu_gt (by omega)) (by omega) hK hA hW
    obtain ⟨τ, t1, t2, t3⟩ := ih (s + 1) g σ1 (by omega) (by omega) (hK.fr u2 (by unfold P602; omega) (by unfold P602; omega)) (hA.fr u2 (by unfold P602; omega) (by unfold P602; omega)) (fun s' a' p' h1 h2 h3 h4 => by
      by_cases w : s' = s + 1
      · subst w
        exact u3 a' p' (by omega) h3 h4
      · rw [u4 _ (by omega)]
        exact hW s' a' p' h1 (by omega) h3 h4)
    refine ⟨τ, ?_, u2.tr t2, t3⟩
    rw [nI_0, nadd_r] at u1
    rw [X6_aim_L16, if_neg (by rw [nlt (by omega) (by omega)]; omega), if_neg (by rw [nlt_l (by omega) (by decide)]; omega), nadd_r]
    exact u1.trans t1
def P624 (c _k : Nat) : Prop := c = 602 ∨ c = 604 ∨ c = 605
theorem X6_aim_n {σ : Mem} {pc : Nat → Nat → List Nat} {o : List Nat} {N : Nat} (hpc : PcOK pc) (hK : KNw σ pc) (ho : Sg o) (h16 : o.length ≤ 16) (hN : N ≤ 6) : ∃ τ, X6_aim σ (lN (pkN o)) (nI N) = some (τ, ()) ∧ Fr P624 σ τ ∧ WYa τ pc o N ∧ KNw τ pc ∧ AM τ o := by
  obtain ⟨σ1, e1⟩ : ∃ σ1, σ1 = uI (uJ σ 604 0 0 (lN (pkN o))) 605 0 0 (nI o.length) := ⟨_, rfl⟩
  have f1 : Fr P624 σ σ1 := by rw [e1]; exact (Fr.uJ (Or.inr (Or.inl rfl))).tr (Fr.uI (Or.inr (Or.inr rfl)))
  have hA : AM σ1 o := ⟨by rw [e1]; simp [uI_2, uJ_2], by rw [e1]; simp [uI_1], h16, ho⟩
  have hK1 : KNw σ1 pc := hK.fr f1 (by unfold P624; omega) (by unfold P624; omega)
  obtain ⟨τ, t1, t2, t3⟩ := X6_aim16_L (kk := fun s12 => some (s12, ())) hpc hN N 0 FU σ1 (fu_gt (by omega)) (by omega) hK1 hA (fun s' a p h1 h2 => by omega)
  refine ⟨τ, ?_, f1.tr (t2.mono fun _ _ => Or.inl), t3, hK1.fr t2 (by unfold P602; omega) (by unfold P602; omega), hA.fr t2 (by unfold P602; omega) (by unfold P602; omega)⟩
  unfold X6_aim
  rw [X7_signsIn_n ho h16, Option.bind_some, ← e1]
  exact t1
theorem X6_many22_L {σ : Mem} {pc : Nat → Nat → List Nat} {o : List Nat} {N n : Nat} {kk : Mem → Int64 → Option (Mem × Int64)} (hW : WYa σ pc o N) (hN : N ≤ 6) (hn : n ≤ N) (hn1 : 1 ≤ n) : ∀ (c a f A : Nat), c < f → a + c = 6 → X6_many_L22 (nI n) kk f σ (lN A) (nI a) = kk σ (lN (A + sm (fun a => wy pc o n a 0) c a)) := by
  intro c
  induction c with
  | zero =>
    intro a f A hf he
    obtain ⟨g, rfl⟩ : ∃ g, f = g + 1 := ⟨f - 1, by omega⟩
    rw [X6_many_L22, if_pos (by rw [nle_l (by omega) (by decide)]; omega)]
    rfl
  | succ c ih =>
    intro a f A hf he
    obtain ⟨g, rfl⟩ : ∃ g, f = g + 1 := ⟨f - 1, by omega⟩
    have hw := hW n a 0 hn1 hn (by omega) (Nat.zero_le _)
    rw [Nat.add_zero] at hw
    rw [X6_many_L22, if_neg (by rw [nle_l (by omega) (by decide)]; omega), show (0 : Int32) = nI 0 from rfl, X6_wayOf_n (by omega) (by omega) (by omega), Option.bind_some, Nat.add_zero]
    dsimp only
    rw [ck_n (by omega) (by decide), lt_eq, ncl (by omega), hw, lN_add, nadd_r, ih (a + 1) g _ (by omega) (by omega), sm, Nat.add_assoc]
theorem X6_many_n {σ : Mem} {pc : Nat → Nat → List Nat} {o : List Nat} {N n : Nat} (hA : AM σ o) (hW : WYa σ pc o N) (hN : N ≤ 6) (hn : n ≤ N) : X6_many σ (nI n) = some (σ, lN (wyA pc o n)) := by
  have h16 := hA.2.2.1
  unfold X6_many
  cases n with
  | zero =>
    rw [if_pos (show nI 0 = 0 from rfl), hA.2.1, wyA]
    by_cases q : o.length = 0
    · rw [if_pos (by rw [q]; rfl), if_pos q]; rfl
    · rw [if_neg (nI_ne0 (by omega) (by omega)), if_neg q]; rfl
  | succ k =>
    have L := X6_many22_L (kk := fun s5 y => some (s5, y)) hW hN hn (by omega) 6 0 FU 0 (fu_gt (by decide)) (by decide)
    rw [nI_0, Nat.zero_add, ← lz64] at L
    rw [if_neg (nI_ne0 (by omega) (by omega)), wyA]
    exact L
theorem wyA_le {pc : Nat → Nat → List Nat} {o : List Nat} {n : Nat} (hn : n ≤ 6) : wyA pc o n ≤ 46656 := by
  rw [← wyA_cn]
  have := p6 hn
  have := cn_le (p := fun N => decide (ou pc (sh n N) = o)) (6 ^ n) 0
  omega
/-! meant -/
theorem op_meant {σ : Mem} (h : Rel σ) (a c : Int32) : Both (fun σ => X7_meant σ a c) (fun σ => X8_meant σ a c) σ := by
  have n01 : ¬ (0 : Int32) ≤ -1 := by decide
  rcases to_n c 6 (by decide) with hc | ⟨N, hN, rfl, hc1, hc2⟩
  · refine Both.mk' (σ1 := σ) (σ2 := σ) (r := -1) ?_ ?_ h
    · rcases isR a with ⟨a7, a8⟩ | ⟨r, hr, rfl⟩
      · simp only [X7_meant, a7, Option.bind_some, spl_none]
      · simp only [X7_meant, X7_rowOf_n hr, Option.bind_some]
        rw [spl_some (by omega)]
        rcases hc with hc | hc
        · rw [if_pos hc]
        · by_cases q : c < 0
          · rw [if_pos q]
          · rw [if_neg q, if_neg (show ¬ c ≤ 6 from hc)]
    · show X8_meant _ _ _ = _
      unfold X8_meant
      rw [in_bad (by rcases hc with hc | hc; exact Or.inl hc; exact Or.inr (i32_nle2.mp hc)), Option.bind_some]
      show (if (0 : Int32) = 0 then _ else _) = _
      rw [if_pos rfl, if_neg n01]
  have hin : ∀ σ : Mem, X8_in σ (nI N) 0 6 = some (σ, 1) := fun σ => in_ok hc1 (by rw [i32_nlt]; exact hc2)
  have s8 : ∀ {τ υ : Mem} {v : Int32}, X8_askedSigns τ a (nI 16) = some (υ, v) → X8_meant τ a (nI N) = if 0 ≤ v then ((X8_onSet υ).bind fun q3 => X8_meant_L40 a (nI N) q3.2 (fun (s13 : Mem) (y5_12 : Int32) => ((X8_part s13 (y5_12.toInt64) (1 : Int64)).bind fun q14 => some (q14.1, q14.2))) FU q3.1 (0 : Int32) (0 : Int32)) else some (υ, v) := by
    intro τ υ v e
    unfold X8_meant
    rw [hin, Option.bind_some]
    show (if (1 : Int32) = 0 then _ else _) = _
    rw [if_neg one_ne0, show (16 : Int32) = nI 16 from rfl]
    show (X8_askedSigns τ a (nI 16)).bind _ = _
    rw [e, Option.bind_some]
  rcases isR a with ⟨a7, a8⟩ | ⟨r, hr, rfl⟩
  · refine Both.mk' (σ1 := σ) (σ2 := σ) (r := -1) ?_ ?_ h
    · simp only [X7_meant, a7, Option.bind_some, spl_none]
    · show X8_meant _ _ _ = _
      rw [s8 (X8_askedSigns_no (a8 σ)), if_neg n01]
  rcases asRow h hr (most := 16) (by decide) with ⟨f, f1, f2, e7, e8⟩ | ⟨o, hl, sg, hS, hR, e7, e8⟩
  · refine Both.mk' (σ1 := ans7 σ f) (σ2 := met8 (ans7 σ f) f) (r := -3) ?_ ?_ (Rel_fnd h f f1 f2)
    · simp only [X7_meant, X7_rowOf_n hr, Option.bind_some]
      rw [spl_some (by omega), if_neg hc1, if_pos (show nI N ≤ 6 from hc2), show (16 : Int32) = nI 16 from rfl, e7]
      rfl
    · show X8_meant _ _ _ = _
      rw [s8 (e8 _ (fun j => ans7_i (by decide) (by decide)) (fun j => ans7_i (by decide) (by decide))), if_neg (by decide)]
  obtain ⟨n, T, hP, hM, hT, hn⟩ := h.laws
  have on := onM_256 (T := T) hn
  have hpc := pcS_PcOK (m := onM T n) hT
  obtain ⟨σ1, u1, u2, u3⟩ := X6_know_n hT hP
  have hS1 : RowS σ1 r o := hS.fr u2 (by unfold P60; omega) (by unfold P60; omega)
  obtain ⟨σ2, v1, v2, v3, v4, v5⟩ := X6_aim_n hpc u3 sg hl hN
  have v6 := X6_many_n (n := N) v5 v3 hN (Nat.le_refl _)
  have hA := wyA_le (pc := pcS T n (onM T n)) (o := o) hN
  have v7 := X7_tell_n (σ := σ2) (A := wyA (pcS T n (onM T n)) o N) (B := 1) (by omega) (by decide) (by decide)
  have q8 : ∀ c, 800 ≤ c → ∀ j, (tel7 σ2 (wyA (pcS T n (onM T n)) o N) 1).1 c 0 j = σ.1 c 0 j := fun c hc j => by
    show σ2.1 c 0 j = _
    rw [v2.i (by unfold P624; omega), u2.i (by unfold P60; omega)]
  have tM : ML8 (tel7 σ2 (wyA (pcS T n (onM T n)) o N) 1) n T := ⟨by rw [q8 810 (by omega)]; exact hM.1, hM.2.1, fun k hk f hf => by rw [q8 811 (by omega)]; exact hM.2.2 k hk f hf⟩
  have tR : Rw8 (tel7 σ2 (wyA (pcS T n (onM T n)) o N) 1) r o := ⟨by rw [q8 805 (by omega)]; exact hR.1, hR.2.1, hR.2.2.cg fun j _ => q8 806 (by omega) _⟩
  obtain ⟨τ, t1, t2⟩ := X8_meant_L (m := onM T n) (kk := fun (s13 : Mem) (y5_12 : Int32) => ((X8_part s13 (y5_12.toInt64) (1 : Int64)).bind fun q14 => some (q14.1, q14.2))) hT (by omega) hr hN sg (6 ^ N) 0 FU 0 _ (fu_gt (by have := p6 hN; omega)) (by omega) tM tR
  have ec : cn (fun M => decide (outS T n (onM T n) (sh N M) = o)) (6 ^ N) 0 = wyA (pcS T n (onM T n)) o N := by
    rw [← wyA_cn]
    refine cn_cg _ _ (fun M _ _ => ?_)
    rw [outS_ou]
  rw [Nat.zero_add, ec, nI_l (by omega), show (1 : Int64) = lN 1 from rfl, X8_part_n (by omega) (by decide) (by decide), Option.bind_some, nI_0] at t1
  refine Both.mk' (σ1 := tel7 σ2 (wyA (pcS T n (onM T n)) o N) 1) (σ2 := prt8 τ (wyA (pcS T n (onM T n)) o N) 1) (r := 1) ?_ ?_ ?_
  · simp only [X7_meant, X7_rowOf_n hr, Option.bind_some]
    rw [spl_some (by omega), if_neg hc1, if_pos (show nI N ≤ 6 from hc2), show (16 : Int32) = nI 16 from rfl, e7, Option.bind_some]
    show (if (0 : Int32) = 0 then _ else _) = _
    rw [if_pos rfl, u1, Option.bind_some]
    dsimp only
    rw [X4_pack_n (by omega) hS1 hl, Option.bind_some]
    dsimp only
    rw [v1, Option.bind_some]
    dsimp only
    rw [v6, Option.bind_some]
    dsimp only
    rw [show (1 : Int64) = lN 1 from rfl, v7]
    rfl
  · show X8_meant _ _ _ = _
    rw [s8 (e8 _ (fun j => q8 805 (by omega) j) (fun j => q8 806 (by omega) j)), if_pos (by decide), X8_onSet_n tM, Option.bind_some]
    exact t1
  · refine Rel_prt h ((u2.mono fun c k q => Or.inl ?_).tr (v2.mono fun c k q => Or.inl ?_)) (t2.mono fun _ _ q => q.scr)
    · rcases q with rfl | rfl <;> decide
    · rcases q with rfl | rfl | rfl <;> decide
