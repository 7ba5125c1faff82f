theorem askBoth_bad {r q : Nat} {σ : Mem} (h : Rel σ) (hr : r < 6) (hq : q < 6) : (∃ f, 1 ≤ f ∧ f < 6 ∧ ((X7_refuses σ r 8 = some (ans7 σ f, 1)) ∨ (X7_refuses σ r 8 = some (σ, 0) ∧ X7_refuses σ q 16 = some (ans7 σ f, 1))) ∧ X8_askedBoth (ans7 σ f) (nI r) (nI q) = some (met8 (ans7 σ f) f, -3)) ∨ ∃ s o, s.length ≤ 8 ∧ Sg s ∧ RowS σ r s ∧ Rw8 σ r s ∧ o.length ≤ 16 ∧ Sg o ∧ RowS σ q o ∧ Rw8 σ q o ∧ X7_refuses σ r 8 = some (σ, 0) ∧ X7_refuses σ q 16 = some (σ, 0) ∧ ∀ τ : Mem, (∀ j, τ.1 805 0 j = σ.1 805 0 j) → (∀ j, τ.1 806 0 j = σ.1 806 0 j) → X8_askedBoth τ (nI r) (nI q) = some (τ, 0) := by
  rcases asRow h hr (most := 8) (by decide) with ⟨f, f1, f2, e7, e8⟩ | ⟨s, hl, sg, hS, hR, e7, e8⟩
  · exact Or.inl ⟨f, f1, f2, Or.inl e7, askBoth_1 hr hq (e8 _ (fun j => ans7_i (by decide) (by decide)) (fun j => ans7_i (by decide) (by decide)))⟩
  rcases asRow h hq (most := 16) (by decide) with ⟨f, f1, f2, d7, d8⟩ | ⟨o, pl, pg, pS, pR, d7, d8⟩
  · exact Or.inl ⟨f, f1, f2, Or.inr ⟨e7, d7⟩, askBoth_2 hr hq (e8 _ (fun j => ans7_i (by decide) (by decide)) (fun j => ans7_i (by decide) (by decide))) (d8 _ (fun j => ans7_i (by decide) (by decide)) (fun j => ans7_i (by decide) (by decide)))⟩
  · exact Or.inr ⟨s, o, hl, sg, hS, hR, pl, pg, pS, pR, e7, d7, fun τ t5 t6 => askBoth_2 hr hq (e8 τ t5 t6) (d8 τ t5 t6)⟩
theorem op_silence {σ : Mem} (h : Rel σ) (a b : Int32) : Both (fun σ => X7_silence σ a b) (fun σ => X8_silence σ a b) σ := by
  have bad8 : ∀ {σ τ : Mem} {v : Int32}, X8_askedBoth σ a b = some (τ, v) → v < 0 → X8_silence σ a b = some (τ, v) := by
    intro σ τ v h1 hv
    unfold X8_silence
    rw [h1, Option.bind_some]
    show (if 0 ≤ v then _ else _) = _
    rw [if_neg (le_neg hv)]
  rcases isR a with ⟨a7, a8⟩ | ⟨r, hr, rfl⟩
  · refine Both.mk' (σ1 := σ) (σ2 := σ) (r := -1) ?_ (bad8 (askBoth_a (a8 σ)) (by decide)) h
    simp only [X7_silence, a7, Option.bind_some, spl_none]
    rcases isR b with ⟨b7, b8⟩ | ⟨q, hq, rfl⟩
    · simp only [b7, Option.bind_some, spl_none]
    · simp only [X7_rowOf_n hq, Option.bind_some]
      rw [spl_some (by omega)]
  rcases isR b with ⟨b7, b8⟩ | ⟨q, hq, rfl⟩
  · refine Both.mk' (σ1 := σ) (σ2 := σ) (r := -1) ?_ (bad8 (askBoth_b hr (b8 σ)) (by decide)) h
    simp only [X7_silence, X7_rowOf_n hr, b7, Option.bind_some, spl_none]
    rw [spl_some (by omega)]
  rcases askBoth_bad h hr hq with ⟨f, f1, f2, e7, e8⟩ | ⟨s, o, hl, sg, hS, hR, ol, og, oS, oR, e7, d7, e8⟩
  · refine Both.mk' (σ1 := ans7 σ f) (σ2 := met8 (ans7 σ f) f) (r := -3) ?_ (bad8 e8 (by decide)) (Rel_fnd h f f1 f2)
    simp only [X7_silence, X7_rowOf_n hr, X7_rowOf_n hq, Option.bind_some]
    rw [spl_some (by omega), spl_some (by omega)]
    rcases e7 with e7 | ⟨e7, d7⟩
    · rw [e7]
      rfl
    · rw [e7, Option.bind_some]
      show (if (0 : Int32) = 0 then _ else _) = _
      rw [if_pos rfl, d7]
      rfl
  obtain ⟨n, T, hP, hM, hT, hn⟩ := h.laws
  have on := onM_256 (T := T) hn
  obtain ⟨σ1, u1, u2, u3⟩ := X5_lie_n (σ := σ) (r := r) (by omega) hl hT hP hS
  have uP : PL σ1 0 n T := hP.p50 u2
  have u8 : ∀ c, 800 ≤ c → ∀ j, σ1.1 c 0 j = σ.1 c 0 j := fun c hc j => u2.i (by unfold P50; omega) j
  have uS : Fr Scr σ σ1 := u2.mono fun c k w => Or.inl (by rcases w with rfl | rfl | rfl | rfl <;> decide)
  obtain ⟨b', c1, c2⟩ := X7_silence_L (on := onM T n) (kk := fun (s20 : Mem) (y8_19 : Int32) (y9_19 : Int32) => (if y9_19 = (-9 : Int32) then (some (s20, (-9 : Int32))) else (some ((uI s20 713 0 0 y9_19), y8_19)))) uP hT u3 on og ol 256 0 FU none (fu_gt (by decide)) (by decide) (fun x w => by omega)
  have hb' : ∀ x, b' = some x → x < 256 := by
    intro x e
    subst e
    exact c1.1.1
  have st7 : X7_silence σ (nI r) (nI q) = if chI b' = -9 then some (σ1, -9) else some (uI σ1 713 0 0 (chI b'), nI (fwO b' 9)) := by
    simp only [X7_silence, X7_rowOf_n hr, X7_rowOf_n hq, Option.bind_some]
    rw [spl_some (by omega), spl_some (by omega), e7, Option.bind_some]
    show (if (0 : Int32) = 0 then _ else _) = _
    rw [if_pos rfl, d7, Option.bind_some]
    show (if (0 : Int32) = 0 then _ else _) = _
    rw [if_pos rfl, X2_onSet_n (by decide) hP, Option.bind_some]
    dsimp only
    rw [X4_pack_n (by omega) oS ol, Option.bind_some]
    dsimp only
    rw [u1, Option.bind_some]
    rw [nI_0] at c2
    exact c2
  have st8 : ∀ τ : Mem, (∀ c, 800 ≤ c → c ≠ 802 → ∀ j, τ.1 c 0 j = σ.1 c 0 j) → ∃ υ, Fr S8 τ υ ∧ X8_silence τ (nI r) (nI q) = if chI b' = -9 then some (υ, -9) else some (uI υ 802 0 0 (chI b'), nI (fwO b' 9)) := by
    intro τ ht
    have tM : ML8 τ n T := ⟨by rw [ht 810 (by omega) (by decide)]; exact hM.1, hM.2.1, fun k hk f hf => by rw [ht 811 (by omega) (by decide)]; exact hM.2.2 k hk f hf⟩
    have tR : Rw8 τ r s := ⟨by rw [ht 805 (by omega) (by decide)]; exact hR.1, hR.2.1, hR.2.2.cg fun j _ => ht 806 (by omega) (by decide) _⟩
    have tO : Rw8 τ q o := ⟨by rw [ht 805 (by omega) (by decide)]; exact oR.1, oR.2.1, oR.2.2.cg fun j _ => ht 806 (by omega) (by decide) _⟩
    obtain ⟨τ1, a1, a2, a3⟩ := X8_laySheet_n hr hl tR sg
    have m1 : ML8 τ1 n T := tM.fr a2 (by decide) (by decide)
    obtain ⟨υ, b2, g1, g2, g3⟩ := X8_silence_L (on := onM T n) (kk := fun (s13 : Mem) (y5_12 : Int32) => (if y5_12 = (-9 : Int32) then ((some (s13, (-9 : Int32)))) else ((X8_sizeOf s13 y5_12).bind fun q14 => (X8_ask q14.1 y5_12 q14.2).bind fun q15 => some (q15.1, q15.2)))) hT on hq og (onM T n + 1) FU τ1 none (fu_gt (by omega)) (by omega) m1 a3 (tO.fr a2 (by decide) (by decide)) (fun x w => by omega)
    have eb : b2 = b' := by
      refine Best.uq g2 (c1.cg fun x => ⟨fun w => ⟨?_, w.2.2⟩, fun w => ⟨by omega, ss_le on w.1 w.2.1, w.2⟩⟩)
      have := w.2.1
      omega
    subst eb
    refine ⟨υ, (a2.mono fun _ _ => s8_56).tr (g1.mono fun _ _ => s8_78), ?_⟩
    unfold X8_silence
    rw [e8 τ (fun j => ht 805 (by omega) (by decide) j) (fun j => ht 806 (by omega) (by decide) j), Option.bind_some]
    show (if 0 ≤ (0 : Int32) then _ else _) = _
    rw [if_pos (by decide)]
    show (X8_laySheet τ (nI r)).bind _ = _
    rw [a1, Option.bind_some]
    dsimp only
    rw [X8_onSet_n m1, Option.bind_some]
    dsimp only
    rw [nsub_r (by show 1 ≤ onM T n + 1; omega)] at g3
    refine Eq.trans g3 ?_
    by_cases w : chI b2 = -9
    · rw [if_pos w, if_pos w]
    · rw [if_neg w, if_neg w]
      cases b2 with
      | none => exact absurd rfl w
      | some x =>
        have hx := hb' x rfl
        show ((X8_sizeOf υ (nI x)).bind _) = _
        rw [X8_sizeOf_n (by omega), Option.bind_some]
        rfl
  by_cases w : chI b' = -9
  · obtain ⟨υ, v1, v2⟩ := st8 σ1 (fun c hc _ j => u8 c hc j)
    rw [if_pos w] at st7 v2
    exact Both.mk' st7 v2 (Rel_scr h (uS.tr (v1.mono fun _ _ q => q.scr)))
  · obtain ⟨υ, v1, v2⟩ := st8 (uI σ1 713 0 0 (chI b')) (fun c hc _ j => by
      have : ¬ c = 713 := by omega
      simp only [uI_1, this, false_and, if_false]
      exact u8 c hc j)
    rw [if_neg w] at st7 v2
    have fa : Fr (fun c k => Scr c k ∨ c = 713 ∨ c = 802) σ σ1 := uS.mono fun _ _ => Or.inl
    have fb : Fr (fun c k => Scr c k ∨ c = 713 ∨ c = 802) σ1 (uI σ1 713 0 0 (chI b')) := Fr.uI (Or.inr (Or.inl rfl))
    have fc : Fr (fun c k => Scr c k ∨ c = 713 ∨ c = 802) (uI σ1 713 0 0 (chI b')) υ := v1.mono fun _ _ q => Or.inl q.scr
    have fd : Fr (fun c k => Scr c k ∨ c = 713 ∨ c = 802) υ (uI υ 802 0 0 (chI b')) := Fr.uI (Or.inr (Or.inr rfl))
    refine Both.mk' st7 v2 (Rel_T h (((fa.tr fb).tr fc).tr fd) ?_)
    have e1 : (uI υ 802 0 0 (chI b')).1 713 0 0 = υ.1 713 0 0 := by simp [uI_1]
    rw [e1, v1.i (by simp [S8])]
    simp [uI_1]
/-! which -/
def fsF (p : Nat → Bool) : Nat → Nat → Option Nat
  | 0, _ => none
  | c + 1, i => if p i = true then some i else fsF p c (i + 1)
theorem X7_which_L {σ : Mem} {n N : Nat} {T : Nat → Nat → Int32} {s o : List Nat} {kk : Mem → Int32 → Int32 → Option (Mem × Int32)} (hP : PL σ 0 n T) (hT : TV T n) (hTr : Tr σ n T s) (hN : N = 2 ^ n) (ho : Sg o) (h16 : o.length ≤ 16) : ∀ (c i f a : Nat) (x8 : Int32), c < f → i + c = N → a ≤ i → (a = 0 → x8 = -9) → X7_which_L77 (lN (pkN o)) kk f σ (nI a) x8 (nI i) = kk σ (nI (a + cn (fun m => decide (outS T n m s = o)) c i)) (if a = 0 then chI (fsF (fun m => decide (outS T n m s = o)) c i) else x8) := by
  have h8 := hP.2.1
  have hN2 : N ≤ 256 := by
    rw [hN]
    exact Nat.pow_le_pow_right (n := 2) (by decide) h8
  have hsh : (1 : Int32) <<< (nI n &&& 31) = nI N := by rw [one_shl (by omega), hN]
  intro c
  induction c with
  | zero =>
    intro i f a x8 hf he ha hx
    obtain ⟨g, rfl⟩ : ∃ g, f = g + 1 := ⟨f - 1, by omega⟩
    rw [X7_which_L77, hP.1, hsh, if_pos (by rw [nle (by omega) (by omega)]; omega)]
    by_cases q : a = 0
    · rw [if_pos q, hx q]; rfl
    · rw [if_neg q]; rfl
  | succ c ih =>
    intro i f a x8 hf he ha hx
    obtain ⟨g, rfl⟩ : ∃ g, f = g + 1 := ⟨f - 1, by omega⟩
    rw [X7_which_L77, hP.1, hsh, if_neg (by rw [nle (by omega) (by omega)]; omega), X5_outBy_n hP hT (by omega) hTr, Option.bind_some]
    dsimp only
    rw [cn, fsF]
    by_cases q3 : outS T n i s = o
    · rw [if_pos ((pk_eqo hT hTr.2.2.1 hTr.2.1 ho h16).mpr q3), nadd_r, nadd_r]
      rw [decide_eq_true q3]
      by_cases q : a = 0
      · rw [if_pos (by rw [q]; rfl), if_pos q]
        refine (ih (i + 1) g (a + 1) (nI i) (by omega) (by omega) (by omega) (by omega)).trans ?_
        rw [if_neg (by omega), Nat.add_assoc]
        rfl
      · rw [if_neg (by rw [show (0 : Int32) = nI 0 from rfl, neq (by omega) (by decide)]; exact q), if_neg q]
        refine (ih (i + 1) g (a + 1) x8 (by omega) (by omega) (by omega) (by omega)).trans ?_
        rw [if_neg (by omega), Nat.add_assoc]
        rfl
    · rw [if_neg (fun w => q3 ((pk_eqo hT hTr.2.2.1 hTr.2.1 ho h16).mp w)), nadd_r, decide_eq_false q3]
      refine (ih (i + 1) g a x8 (by omega) (by omega) (by omega) hx).trans ?_
      simp
theorem X8_which_L {n N q : Nat} {T : Nat → Nat → Int32} {s o : List Nat} {kk : Mem → Int32 → Int32 → Option (Mem × Int32)} (hT : TV T n) (hN : N ≤ 256) (hq : q < 6) (ho : Sg o) : ∀ (j f : Nat) (σ : Mem), j < f → j ≤ N → ML8 σ n T → Sh8 σ s → Rw8 σ q o → ∃ τ, Fr P78 σ τ ∧ X8_which_L35 (nI q) kk f σ (nI (cn (fun m => decide (outS T n m s = o)) (N - j) j)) (chI (fsF (fun m => decide (outS T n m s = o)) (N - j) j)) (nI j - 1) = kk τ (nI (cn (fun m => decide (outS T n m s = o)) N 0)) (chI (fsF (fun m => decide (outS T n m s = o)) N 0)) := by
  intro j
  induction j with
  | zero =>
    intro f σ hf hj hM hS hR
    obtain ⟨g, rfl⟩ : ∃ g, f = g + 1 := ⟨f - 1, by omega⟩
    refine ⟨σ, Fr.rf, ?_⟩
    rw [X8_which_L35, if_pos i32_m1]
    rfl
  | succ i ih =>
    intro f σ hf hj hM hS hR
    obtain ⟨g, rfl⟩ : ∃ g, f = g + 1 := ⟨f - 1, by omega⟩
    have e0 : nI (i + 1) - 1 = nI i := by rw [nsub_r (by show 1 ≤ i + 1; omega)]; rfl
    obtain ⟨τ, t1, t2, t3⟩ := X8_setBy_n (m := i) hM hT (by omega) hS
    have t4 := X8_isOut_n hq t3 (hR.p8 t2) ho
    obtain ⟨υ, u1, u2⟩ := ih g τ (by omega) (by omega) (hM.p8 t2) (hS.s8p t2) (hR.p8 t2)
    refine ⟨υ, t2.tr u1, ?_⟩
    have hc : N - i = (N - (i + 1)) + 1 := by omega
    rw [hc, cn, fsF, ← sub_neg1] at u2
    rw [e0, X8_which_L35, if_neg (nnlt0 (by omega)), t1, Option.bind_some]
    dsimp only
    rw [t4, Option.bind_some]
    dsimp only
    unfold X8_which_J65
    by_cases q3 : outS T n i s = o
    · rw [decide_eq_true q3] at u2 ⊢
      rw [if_pos rfl, if_pos rfl, Nat.add_comm 1] at u2
      rw [bI_t, if_neg one_ne0, lt_eq, if_neg one_ne0, nadd_r]
      exact u2
    · rw [decide_eq_false q3] at u2 ⊢
      rw [if_neg (by decide), if_neg (by decide), Nat.zero_add] at u2
      rw [bI_f, if_pos rfl, lt_eq, if_pos rfl, nadd_r]
      exact u2
theorem op_which {σ : Mem} (h : Rel σ) (a b : Int32) : Both (fun σ => X7_which σ a b) (fun σ => X8_which σ a b) σ := by
  have bad8 : ∀ {σ τ : Mem} {v : Int32}, X8_askedBoth σ a b = some (τ, v) → v < 0 → X8_which σ a b = some (τ, v) := by
    intro σ τ v h1 hv
    unfold X8_which
    rw [h1, Option.bind_some]
    show (if 0 ≤ v then _ else _) = _
    rw [if_neg (le_neg hv)]
  rcases isR a with ⟨a7, a8⟩ | ⟨r, hr, rfl⟩
  · refine Both.mk' (σ1 := σ) (σ2 := σ) (r := -1) ?_ (bad8 (askBoth_a (a8 σ)) (by decide)) h
    simp only [X7_which, a7, Option.bind_some, spl_none]
    rcases isR b with ⟨b7, b8⟩ | ⟨q, hq, rfl⟩
    · simp only [b7, Option.bind_some, spl_none]
    · simp only [X7_rowOf_n hq, Option.bind_some]
      rw [spl_some (by omega)]
  rcases isR b with ⟨b7, b8⟩ | ⟨q, hq, rfl⟩
  · refine Both.mk' (σ1 := σ) (σ2 := σ) (r := -1) ?_ (bad8 (askBoth_b hr (b8 σ)) (by decide)) h
    simp only [X7_which, X7_rowOf_n hr, b7, Option.bind_some, spl_none]
    rw [spl_some (by omega)]
  rcases askBoth_bad h hr hq with ⟨f, f1, f2, e7, e8⟩ | ⟨s, o, hl, sg, hS, hR, ol, og, oS, oR, e7, d7, e8⟩
  · refine Both.mk' (σ1 := ans7 σ f) (σ2 := met8 (ans7 σ f) f) (r := -3) ?_ (bad8 e8 (by decide)) (Rel_fnd h f f1 f2)
    simp only [X7_which, X7_rowOf_n hr, X7_rowOf_n hq, Option.bind_some]
    rw [spl_some (by omega), spl_some (by omega)]
    rcases e7 with e7 | ⟨e7, d7⟩
    · rw [e7]
      rfl
    · rw [e7, Option.bind_some]
      show (if (0 : Int32) = 0 then _ else _) = _
      rw [if_pos rfl, d7]
      rfl
  obtain ⟨n, T, hP, hM, hT, hn⟩ := h.laws
  have on := onM_256 (T := T) hn
  obtain ⟨σ1, u1, u2, u3⟩ := X5_lie_n (σ := σ) (r := r) (by omega) hl hT hP hS
  have uP : PL σ1 0 n T := hP.p50 u2
  have u8 : ∀ c, 800 ≤ c → ∀ j, σ1.1 c 0 j = σ.1 c 0 j := fun c hc j => u2.i (by unfold P50; omega) j
  have uS : Fr Scr σ σ1 := u2.mono fun c k w => Or.inl (by rcases w with rfl | rfl | rfl | rfl <;> decide)
  have hN2 : 2 ^ n ≤ 256 := Nat.pow_le_pow_right (n := 2) (by decide) hn
  have hN1 : 1 ≤ 2 ^ n := Nat.one_le_two_pow
  have c2 := X7_which_L (n := n) (N := 2 ^ n) (kk := fun (s18 : Mem) (y7_17 : Int32) (y8_17 : Int32) => (some ((uI s18 713 0 0 y8_17), y7_17))) uP hT u3 rfl og ol (2 ^ n) 0 FU 0 (-9) (fu_gt (by omega)) (by omega) (by omega) (fun _ => rfl)
  rw [if_pos rfl, Nat.zero_add, nI_0] at c2
  have hsh : (1 : Int32) <<< (nI n &&& 31) = nI (2 ^ n) := one_shl (by omega)
  obtain ⟨τ0, e0⟩ : ∃ τ0, τ0 = uI σ1 713 0 0 (chI (fsF (fun m => decide (outS T n m s = o)) (2 ^ n) 0)) := ⟨_, rfl⟩
  have ht : ∀ c, 800 ≤ c → ∀ j, τ0.1 c 0 j = σ.1 c 0 j := fun c hc j => by
    have : ¬ c = 713 := by omega
    rw [e0]
    simp only [uI_1, this, false_and, if_false]
    exact u8 c hc j
  have tM : ML8 τ0 n T := ⟨by rw [ht 810 (by omega)]; exact hM.1, hM.2.1, fun k hk f hf => by rw [ht 811 (by omega)]; exact hM.2.2 k hk f hf⟩
  have tR : Rw8 τ0 r s := ⟨by rw [ht 805 (by omega)]; exact hR.1, hR.2.1, hR.2.2.cg fun j _ => ht 806 (by omega) _⟩
  have tO : Rw8 τ0 q o := ⟨by rw [ht 805 (by omega)]; exact oR.1, oR.2.1, oR.2.2.cg fun j _ => ht 806 (by omega) _⟩
  obtain ⟨τ1, a1, a2, a3⟩ := X8_laySheet_n hr hl tR sg
  have m1 : ML8 τ1 n T := tM.fr a2 (by decide) (by decide)
  obtain ⟨υ, g1, g3⟩ := X8_which_L (N := 2 ^ n) (kk := fun (s10 : Mem) (y4_9 : Int32) (y5_9 : Int32) => ((X8_ask s10 y5_9 y4_9).bind fun q11 => some (q11.1, q11.2))) hT hN2 hq og (2 ^ n) FU τ1 (fu_gt (by omega)) (Nat.le_refl _) m1 a3 (tO.fr a2 (by decide) (by decide))
  rw [Nat.sub_self] at g3
  refine Both.mk' (σ1 := τ0) (σ2 := uI υ 802 0 0 (chI (fsF (fun m => decide (outS T n m s = o)) (2 ^ n) 0))) (r := nI (cn (fun m => decide (outS T n m s = o)) (2 ^ n) 0)) ?_ ?_ ?_
  · simp only [X7_which, X7_rowOf_n hr, X7_rowOf_n hq, Option.bind_some]
    rw [spl_some (by omega), spl_some (by omega), e7, Option.bind_some]
    show (if (0 : Int32) = 0 then _ else _) = _
    rw [if_pos rfl, d7, Option.bind_some]
    show (if (0 : Int32) = 0 then _ else _) = _
    rw [if_pos rfl, X4_pack_n (by omega) oS ol, Option.bind_some]
    dsimp only
    rw [u1, Option.bind_some, e0]
    exact c2
  · show X8_which _ _ _ = _
    unfold X8_which
    rw [e8 τ0 (fun j => ht 805 (by omega) j) (fun j => ht 806 (by omega) j), Option.bind_some]
    show (if 0 ≤ (0 : Int32) then _ else _) = _
    rw [if_pos (by decide)]
    show (X8_laySheet τ0 (nI r)).bind _ = _
    rw [a1, Option.bind_some]
    dsimp only
    rw [m1.1, hsh, lt_eq]
    exact g3
  · refine Rel_T h (((uS.mono fun _ _ => Or.inl).tr ?_).tr ((((a2.mono fun _ _ => s8_56).tr (g1.mono fun _ _ => s8_78)).mono fun _ _ q => Or.inl q.scr).tr (Fr.uI (Or.inr (Or.inr rfl))))) ?_
    · rw [e0]; exact Fr.uI (Or.inr (Or.inl rfl))
    · have e1 : (uI υ 802 0 0 (chI (fsF (fun m => decide (outS T n m s = o)) (2 ^ n) 0))).1 713 0 0 = υ.1 713 0 0 := by simp [uI_1]
      rw [e1, g1.i (by simp [P78]), a2.i (by decide), e0]
      simp [uI_1]
