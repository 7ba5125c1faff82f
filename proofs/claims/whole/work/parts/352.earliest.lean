/-! the first one of all -/
theorem fsF_add {P : Nat → Bool} : ∀ c d i, fsF P (c + d) i = match fsF P c i with | some x => some x | none => fsF P d (i + c) := by
  intro c
  induction c with
  | zero => intro d i; rw [Nat.zero_add]; rfl
  | succ c ih =>
    intro d i
    rw [show c + 1 + d = (c + d) + 1 by omega, fsF, fsF]
    by_cases q : P i = true
    · rw [if_pos q, if_pos q]
    · rw [if_neg q, if_neg q, ih, show i + 1 + c = i + (c + 1) by omega]
theorem fsF_sh {P : Nat → Bool} {d : Nat} : ∀ c i, fsF P c (d + i) = (fsF (fun M => P (d + M)) c i).map (fun M => d + M) := by
  intro c
  induction c with
  | zero => intro i; rfl
  | succ c ih =>
    intro i
    rw [fsF, fsF]
    by_cases q : P (d + i) = true
    · rw [if_pos q, if_pos q]; rfl
    · rw [if_neg q, if_neg q, Nat.add_assoc, ih]
theorem fsF_cg {P Q : Nat → Bool} : ∀ c i, (∀ j, i ≤ j → j < i + c → P j = Q j) → fsF P c i = fsF Q c i := by
  intro c
  induction c with
  | zero => intros; rfl
  | succ c ih =>
    intro i h
    rw [fsF, fsF, h i (by omega) (by omega), ih (i + 1) (fun j h1 h2 => h j (by omega) (by omega))]
theorem fsF_lt {P : Nat → Bool} : ∀ c i x, fsF P c i = some x → i ≤ x ∧ x < i + c ∧ P x = true := by
  intro c
  induction c with
  | zero => intro i x h; cases h
  | succ c ih =>
    intro i x h
    rw [fsF] at h
    by_cases q : P i = true
    · rw [if_pos q] at h; cases h; exact ⟨by omega, by omega, q⟩
    · rw [if_neg q] at h
      obtain ⟨h1, h2, h3⟩ := ih (i + 1) x h
      exact ⟨by omega, by omega, h3⟩
theorem fsF_cn {P : Nat → Bool} : ∀ c i, (fsF P c i = none ↔ cn P c i = 0) := by
  intro c
  induction c with
  | zero => intro i; exact ⟨fun _ => rfl, fun _ => rfl⟩
  | succ c ih =>
    intro i
    rw [fsF, cn]
    by_cases q : P i = true
    · rw [if_pos q, if_pos q]
      exact ⟨fun h => by (cases h), fun h => by omega⟩
    · rw [if_neg q, if_neg q, ih, Nat.zero_add]
theorem fsF_blk {P : Nat → Bool} {K c b : Nat} : fsF P ((c + 1) * K) (b * K) = match fsF (fun M => P (b * K + M)) K 0 with | some M => some (b * K + M) | none => fsF P (c * K) ((b + 1) * K) := by
  have h := fsF_sh (P := P) (d := b * K) K 0
  rw [Nat.add_zero] at h
  rw [Nat.succ_mul, Nat.add_comm (c * K), fsF_add, h, show b * K + K = (b + 1) * K by rw [Nat.succ_mul]]
  cases fsF (fun M => P (b * K + M)) K 0 <;> rfl
/-- what is left to write, behind the last sign, whose piece starts at a place -/
def QsB (pc : Nat → Nat → List Nat) (o : List Nat) (last : Option Nat) (p : Nat) (t : List Nat) : Bool := match last with
  | none => decide (ou pc t = o)
  | some a => decide (ou pc (a :: t) = o.drop p)
def nxO (pc : Nat → Nat → List Nat) (o : List Nat) (last : Option Nat) (b p : Nat) : Option Nat := match last with
  | none => some 0
  | some a => pa pc o a b p
theorem QsB_cons {pc : Nat → Nat → List Nat} {o t : List Nat} {last : Option Nat} {b p : Nat} (hp : p ≤ o.length) : QsB pc o last p (b :: t) = match nxO pc o last b p with | none => false | some q => QsB pc o (some b) q t := by
  cases last with
  | none =>
    show decide (ou pc (b :: t) = o) = decide (ou pc (b :: t) = o.drop 0)
    rw [List.drop_zero]
  | some a =>
    show decide (ou pc (a :: b :: t) = o.drop p) = match pa pc o a b p with | none => false | some q => decide (ou pc (b :: t) = o.drop q)
    cases hq : pa pc o a b p with
    | none => exact decide_eq_false (fun h => by
        obtain ⟨q, h1, -⟩ := (ou_two hp).mp h
        rw [hq] at h1
        cases h1)
    | some q => exact decide_eq_decide.mpr ⟨fun h => by
        obtain ⟨q', h1, h2⟩ := (ou_two hp).mp h
        rw [hq] at h1
        cases h1
        exact h2, fun h => (ou_two hp).mpr ⟨q, hq, h⟩⟩
theorem nxO_le {pc : Nat → Nat → List Nat} {o : List Nat} {last : Option Nat} {b p q : Nat} (h : nxO pc o last b p = some q) : q ≤ o.length := by
  cases last with
  | none => cases h; exact Nat.zero_le _
  | some a => exact pa_le h
theorem wy_fs {pc : Nat → Nat → List Nat} {o : List Nat} {k b q : Nat} (hb : b < 6) (hq : q ≤ o.length) : fsF (fun M => QsB pc o (some b) q (sh k M)) (6 ^ k) 0 = none ↔ wy pc o (k + 1) b q = 0 := by
  rw [fsF_cn, ← wy_cn k b q hb hq]
  rfl
theorem X6_early20_L {σ : Mem} {pc : Nat → Nat → List Nat} {o : List Nat} {k p A : Nat} {last : Option Nat} {kk : Mem → Int64 → Int32 → Int32 → Option (Mem × Int64)} (hpc : PcOK pc) (hK : KNw σ pc) (hA : AM σ o) (hW : WYa σ pc o 6) (hk : k + 1 ≤ 6) (hp : p ≤ o.length) (hlast : ∀ a, last = some a → a < 6) (hAA : A < 2 ^ 54) : ∀ (c b f N0 : Nat), c < f → b + c = 6 → fsF (fun N => QsB pc o last p (sh (k + 1) N)) (c * 6 ^ k) (b * 6 ^ k) = some N0 → ∃ b' q M, b' < 6 ∧ q ≤ o.length ∧ N0 = b' * 6 ^ k + M ∧ M < 6 ^ k ∧ fsF (fun M => QsB pc o (some b') q (sh k M)) (6 ^ k) 0 = some M ∧ X6_earliestOf_L20 (nI (k + 1)) kk f σ (lN A) (chI last) (nI p) (nI b) = kk σ (lN (8 * A + (b' + 1))) (nI b') (nI q) := by
  have h16 := hA.2.2.1
  intro c
  induction c with
  | zero =>
    intro b f N0 hf he h
    rw [Nat.zero_mul] at h
    cases h
  | succ c ih =>
    intro b f N0 hf he h
    obtain ⟨g, rfl⟩ : ∃ g, f = g + 1 := ⟨f - 1, by omega⟩
    have hb6 : b < 6 := by omega
    rw [fsF_blk] at h
    have e1 : fsF (fun M => QsB pc o last p (sh (k + 1) (b * 6 ^ k + M))) (6 ^ k) 0 = fsF (fun M => match nxO pc o last b p with | none => false | some q => QsB pc o (some b) q (sh k M)) (6 ^ k) 0 := by
      refine fsF_cg _ _ (fun M _ hM => ?_)
      rw [sh_cons k b M hb6 (by omega), QsB_cons hp]
    rw [e1] at h
    have stp : X6_earliestOf_L20 (nI (k + 1)) kk (g + 1) σ (lN A) (chI last) (nI p) (nI b) = X6_earliestOf_J48 σ (lN A) (chI last) (nI p) (nI (k + 1)) (nI b) (chI (nxO pc o last b p)) (X6_earliestOf_L20 (nI (k + 1)) kk g) kk := by
      rw [X6_earliestOf_L20, if_neg (by rw [nle_l (by omega) (by decide)]; omega)]
      cases last with
      | none => rw [if_pos (show chI none = -9 from rfl)]; rfl
      | some a =>
        have ha := hlast a rfl
        rw [show chI (some a) = nI a from rfl, if_neg (nne_neg (by omega) (by decide)), X6_placeAfter_n hpc hK hA ha (by omega) hp, Option.bind_some]
        rfl
    rw [stp]
    unfold X6_earliestOf_J48
    cases hq : nxO pc o last b p with
    | none =>
      rw [hq] at h
      have e2 : fsF (fun M : Nat => false) (6 ^ k) 0 = none := by
        rw [fsF_cn]
        exact cn_no _ _ (fun _ _ _ => rfl)
      have h' : fsF (fun N => QsB pc o last p (sh (k + 1) N)) (c * 6 ^ k) ((b + 1) * 6 ^ k) = some N0 := by
        dsimp only at h
        rw [e2] at h
        exact h
      rw [show chI none = -9 from rfl, if_pos rfl, nadd_r]
      exact ih (b + 1) g N0 (by omega) (by omega) h'
    | some q =>
      have hq2 := nxO_le hq
      rw [hq] at h
      dsimp only at h
      rw [show chI (some q) = nI q from rfl, if_neg (nne_neg (by omega) (by decide)), X6_wayOf_n hk hb6 (by omega), Option.bind_some]
      dsimp only
      have hw := hW (k + 1) b q (by omega) hk hb6 hq2
      have hle := wy_le (pc := pc) (k := k) hb6 hq2
      have h6 := p6 (show k ≤ 6 by omega)
      rw [ck_n (by omega) (by decide), ncl (by omega), hw]
      cases hM : fsF (fun M => QsB pc o (some b) q (sh k M)) (6 ^ k) 0 with
      | none =>
        rw [hM] at h
        rw [(wy_fs hb6 hq2).mp hM, if_pos (by rw [lg_cmp_le, lz64, pk_lLE (by decide) (by decide)]; exact Nat.le_refl _), nadd_r]
        exact ih (b + 1) g N0 (by omega) (by omega) h
      | some M =>
        rw [hM] at h
        dsimp only at h
        cases h
        have nz : wy pc o (k + 1) b q ≠ 0 := fun w => by
          have := (wy_fs hb6 hq2).mpr w
          rw [hM] at this
          cases this
        obtain ⟨-, m2, -⟩ := fsF_lt _ _ _ hM
        refine ⟨b, q, M, hb6, hq2, rfl, by omega, hM, ?_⟩
        rw [if_neg (by rw [lg_cmp_le, lz64, pk_lLE (by omega) (by decide)]; omega), X7_packed_n (by omega) hb6, Option.bind_some]
theorem X6_early12_L {σ : Mem} {pc : Nat → Nat → List Nat} {o : List Nat} {kk : Mem → Int64 → Option (Mem × Int64)} (hpc : PcOK pc) (hK : KNw σ pc) (hA : AM σ o) (hW : WYa σ pc o 6) : ∀ (k f A p N0 : Nat) (last : Option Nat), k < f → k ≤ 6 → p ≤ o.length → (∀ a, last = some a → a < 6) → A < 8 ^ (6 - k) → fsF (fun N => QsB pc o last p (sh k N)) (6 ^ k) 0 = some N0 → X6_earliestOf_L12 kk f σ (lN A) (chI last) (nI p) (nI k) = kk σ (lN (fld (sh k N0) A)) := by
  intro k
  induction k with
  | zero =>
    intro f A p N0 last hf hk hp hl hAA h
    obtain ⟨g, rfl⟩ : ∃ g, f = g + 1 := ⟨f - 1, by omega⟩
    rw [X6_earliestOf_L12, if_pos (show nI 0 ≤ 0 by decide)]
    rfl
  | succ k ih =>
    intro f A p N0 last hf hk hp hl hAA h
    obtain ⟨g, rfl⟩ : ∃ g, f = g + 1 := ⟨f - 1, by omega⟩
    have hA2 : A < 2 ^ 54 := by
      have q1 : 8 ^ (6 - (k + 1)) ≤ 8 ^ 6 := Nat.pow_le_pow_right (by decide) (by omega)
      have q2 : (8 : Nat) ^ 6 < 2 ^ 54 := by decide
      omega
    have h' : fsF (fun N => QsB pc o last p (sh (k + 1) N)) (6 * 6 ^ k) (0 * 6 ^ k) = some N0 := by
      rw [Nat.zero_mul, Nat.mul_comm, ← Nat.pow_succ]
      exact h
    obtain ⟨b', q, M, b1, b2, b3, b4, b5, b6⟩ := X6_early20_L (kk := fun (s7 : Mem) (y2_6 : Int64) (y4_6 : Int32) (y5_6 : Int32) => (X6_earliestOf_L12 kk g s7 y2_6 y4_6 y5_6 ((nI (k + 1) + (-1 : Int32))))) hpc hK hA hW hk hp hl hA2 6 0 FU N0 (fu_gt (by decide)) (by decide) h'
    rw [nI_0, sub_neg1, nsub_r (by show 1 ≤ k + 1; omega)] at b6
    rw [X6_earliestOf_L12, if_neg (by rw [nle_r (by omega) (by decide)]; show ¬ k + 1 ≤ 0; omega), sub_neg1, nsub_r (by show 1 ≤ k + 1; omega)]
    refine b6.trans ?_
    have e : 8 ^ (6 - k) = 8 * 8 ^ (6 - (k + 1)) := by
      rw [show 6 - k = (6 - (k + 1)) + 1 by omega, Nat.pow_succ, Nat.mul_comm]
    have R := ih g (8 * A + (b' + 1)) q M (some b') (by omega) (by omega) b2 (fun a w => by cases w; exact b1) (by omega) b5
    refine Eq.trans R ?_
    rw [b3, sh_cons k b' M b1 b4]
    rfl
def eaS (pc : Nat → Nat → List Nat) (o : List Nat) : Nat → Nat → Option (List Nat)
  | 0, _ => none
  | c + 1, n => match fsF (fun N => decide (ou pc (sh n N) = o)) (6 ^ n) 0 with
    | some N => some (sh n N)
    | none => eaS pc o c (n + 1)
def pkO (s : Option (List Nat)) : Int64 := match s with
  | none => -9
  | some s => lN (pkN s)
theorem eaS_ok {pc : Nat → Nat → List Nat} {o s : List Nat} : ∀ c n, n + c = 7 → eaS pc o c n = some s → s.length ≤ 6 ∧ Sg s := by
  intro c
  induction c with
  | zero => intro n _ h; cases h
  | succ c ih =>
    intro n hn h
    rw [eaS] at h
    cases hN : fsF (fun N => decide (ou pc (sh n N) = o)) (6 ^ n) 0 with
    | none => rw [hN] at h; exact ih (n + 1) (by omega) h
    | some N =>
      rw [hN] at h
      cases h
      exact ⟨by rw [sh_len]; omega, sh_sg n N⟩
theorem X6_early9_L {σ : Mem} {pc : Nat → Nat → List Nat} {o : List Nat} (hpc : PcOK pc) (hK : KNw σ pc) (hA : AM σ o) (hW : WYa σ pc o 6) : ∀ (c n f : Nat), c < f → n + c = 7 → X6_earliest_L9 (fun (s6 : Mem) => (some (s6, (-9 : Int64)))) f σ (nI n) = some (σ, pkO (eaS pc o c n)) := by
  intro c
  induction c with
  | zero =>
    intro n f hf he
    obtain ⟨g, rfl⟩ : ∃ g, f = g + 1 := ⟨f - 1, by omega⟩
    rw [X6_earliest_L9, if_pos (by rw [nlt_l (by omega) (by decide)]; omega)]
    rfl
  | succ c ih =>
    intro n f hf he
    obtain ⟨g, rfl⟩ : ∃ g, f = g + 1 := ⟨f - 1, by omega⟩
    have hle := wyA_le (pc := pc) (o := o) (show n ≤ 6 by omega)
    rw [X6_earliest_L9, if_neg (by rw [nlt_l (by omega) (by decide)]; omega), X6_many_n hA hW (by decide) (by omega), Option.bind_some, eaS]
    dsimp only
    cases hN : fsF (fun N => decide (ou pc (sh n N) = o)) (6 ^ n) 0 with
    | none =>
      have hz : wyA pc o n = 0 := by rw [← wyA_cn]; exact (fsF_cn _ _).mp hN
      rw [hz, if_pos (by rw [lg_cmp_le, lz64, pk_lLE (by decide) (by decide)]; exact Nat.le_refl _), nadd_r]
      exact ih (n + 1) g (by omega) (by omega)
    | some N =>
      have hz : wyA pc o n ≠ 0 := fun w => by
        rw [← wyA_cn] at w
        rw [(fsF_cn _ _).mpr w] at hN
        cases hN
      have L := X6_early12_L (kk := fun s10 y2 => some (s10, y2)) hpc hK hA hW n FU 0 0 N none (fu_gt (by omega)) (by omega) (Nat.zero_le _) (fun a w => by cases w) (Nat.pow_pos (by decide)) hN
      have E : X6_earliestOf σ (nI n) = some (σ, lN (pkN (sh n N))) := by
        unfold X6_earliestOf
        rw [← lz64, nI_0] at L
        exact L
      rw [if_neg (by rw [lg_cmp_le, lz64, pk_lLE (by omega) (by decide)]; omega), E, Option.bind_some]
      rfl
theorem X6_earliest_n {σ : Mem} {pc : Nat → Nat → List Nat} {o : List Nat} (hpc : PcOK pc) (hK : KNw σ pc) (ho : Sg o) (h16 : o.length ≤ 16) : ∃ τ, X6_earliest σ (lN (pkN o)) = some (τ, pkO (eaS pc o 7 0)) ∧ Fr P624 σ τ ∧ KNw τ pc := by
  obtain ⟨τ, t1, t2, t3, t4, t5⟩ := X6_aim_n (N := 6) hpc hK ho h16 (by decide)
  have L := X6_early9_L hpc t4 t5 t3 7 0 FU (fu_gt (by decide)) (by decide)
  rw [nI_0] at L
  refine ⟨τ, ?_, t2, t4⟩
  unfold X6_earliest
  rw [show (6 : Int32) = nI 6 from rfl, t1, Option.bind_some]
  exact L
def blF (pc : Nat → Nat → List Nat) : Nat → List Nat → Option (List Nat)
  | 0, o => some o
  | d + 1, o => match eaS pc o 7 0 with
    | none => none
    | some s => blF pc d s
theorem m9_lN : (-9 : Int64) = lN 18446744073709551607 := by decide
theorem X7_believed_L {pc : Nat → Nat → List Nat} {D x5 : Nat} {kk : Mem → Int64 → Option (Mem × Int32)} (hpc : PcOK pc) (hD : D ≤ 3) : ∀ (c i f : Nat) (o : List Nat) (σ : Mem), c < f → i + c = D → KNw σ pc → Sg o → o.length ≤ 16 → ∃ τ, X7_believed_L70 (nI D) x5 kk f σ (lN (pkN o)) (nI i) = (match blF pc c o with | some s => kk τ (lN (pkN s)) | none => some (τ, -9)) ∧ Fr P624 σ τ ∧ ∀ s, blF pc c o = some s → Sg s ∧ s.length ≤ 16 := by
  intro c
  induction c with
  | zero =>
    intro i f o σ hf he hK ho h16
    obtain ⟨g, rfl⟩ : ∃ g, f = g + 1 := ⟨f - 1, by omega⟩
    refine ⟨σ, ?_, Fr.rf, fun s w => by cases w; exact ⟨ho, h16⟩⟩
    rw [X7_believed_L70, if_pos (by rw [nle (by omega) (by omega)]; omega)]
    rfl
  | succ c ih =>
    intro i f o σ hf he hK ho h16
    obtain ⟨g, rfl⟩ : ∃ g, f = g + 1 := ⟨f - 1, by omega⟩
    obtain ⟨σ1, u1, u2, u3⟩ := X6_earliest_n hpc hK ho h16
    rw [X7_believed_L70, if_neg (by rw [nle (by omega) (by omega)]; omega), u1, Option.bind_some, blF]
    dsimp only
    cases hs : eaS pc o 7 0 with
    | none =>
      rw [if_pos (show lg_cmp (pkO none) (-9) = 0 from (lg_cmp_eq _ _).mpr rfl)]
      exact ⟨σ1, rfl, u2, fun s w => by cases w⟩
    | some s =>
      obtain ⟨s1, s2⟩ := eaS_ok 7 0 (by decide) hs
      have q1 := pkN_lt48 s2 (by omega)
      obtain ⟨τ, t1, t2, t3⟩ := ih (i + 1) g s σ1 (by omega) (by omega) u3 s2 (by omega)
      refine ⟨τ, ?_, u2.tr t2, t3⟩
      rw [show pkO (some s) = lN (pkN s) from rfl, if_neg (by rw [lg_cmp_eq, m9_lN, lN_e2 (by omega) (by decide)]; omega), nadd_r]
      exact t1
