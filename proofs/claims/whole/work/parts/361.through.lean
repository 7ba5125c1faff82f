/-! the law goes through -/
theorem Rel0 : Rel σ0 := by
  refine ⟨⟨rfl, rfl, rfl, rfl, fun f _ _ => rfl⟩, fun r hr => Or.inl ⟨rfl, ?_⟩, fun t ht => Or.inl ⟨rfl, ?_⟩, ⟨fun p hp => ⟨fun k hk => ⟨8 * p + k, ?_, by omega, by omega⟩, fun k l hk hl e => ?_⟩, ⟨fun x _ => Or.inl rfl, fun x _ _ => rfl⟩, 0, Nat.zero_le _, rfl, ⟨rfl, ⟨0, Nat.zero_le _, rfl, rfl, fun e he => by omega⟩, fun s _ => rfl, fun k hk => by omega, fun k hk => by omega⟩, fun k hk => Or.inl ⟨rfl, ?_⟩⟩⟩
  · exact (by decide +kernel : ∀ r, r < 6 → I0 805 0 r = -9) r hr
  · exact (by decide +kernel : ∀ r, r < 4 → I0 808 0 r = -9) t ht
  · show (if k < 8 then some (8 * p + k) else none) = _
    rw [if_pos hk]
  · have e : (if k < 8 then some (8 * p + k) else none) = (if l < 8 then some (8 * p + l) else none) := e
    rw [if_pos hk, if_pos hl] at e
    have := Option.some.inj e
    omega
  · exact (by decide +kernel : ∀ k, k < 3 → I0 829 0 (727 * k) = -9) k hk
theorem ck_i {α : Type} {i L k : Nat} (h : i + (OfNat.ofNat k : Nat) < L) (hL : L ≤ 3072) (o : Option α) : ck (nI i + (OfNat.ofNat k : Int32)) L o = o := by
  rw [nadd_r]
  exact ck_n h (by omega)
theorem goI {f7 f8 : Mem → Option (Mem × Int32)} {σ : Mem} {kb : Mem → Int32 → Option (Mem × Unit)} {x : Int32} (h : Both f7 f8 σ) : ∃ τ, ((f7 σ).bind fun q1 => (f8 q1.1).bind fun q2 => if q1.2 = q2.2 then kb q2.1 x else none) = kb τ x ∧ Rel τ := by
  obtain ⟨q1, q2, e1, e2, e3, e4⟩ := h
  refine ⟨q2.1, ?_, e4⟩
  rw [e1, Option.bind_some, e2, Option.bind_some, if_pos e3]
theorem goJ {f7 f8 : Mem → Option (Mem × Int64)} {σ : Mem} {kb : Mem → Int32 → Option (Mem × Unit)} {x : Int32} (h : Both f7 f8 σ) : ∃ τ, ((f7 σ).bind fun q1 => (f8 q1.1).bind fun q2 => if (lg_cmp q1.2 q2.2) = 0 then kb q2.1 x else none) = kb τ x ∧ Rel τ := by
  obtain ⟨q1, q2, e1, e2, e3, e4⟩ := h
  refine ⟨q2.1, ?_, e4⟩
  rw [e1, Option.bind_some, e2, Option.bind_some, if_pos (by rw [lg_cmp_eq]; exact e3)]
theorem j_232 {σ : Mem} {L i : Nat} {xs : Nat → Int32} {kb : Mem → Int32 → Option (Mem × Unit)} {kk : Mem → Option (Mem × Unit)} (h : Rel σ) (hi : i + 6 ≤ L) (hL : L ≤ 3072) : ∃ τ, L_law_J232 σ L xs (nI i) kb kk = kb τ (nI i + (6 : Int32)) ∧ Rel τ := by
  have c1 : ∀ {α : Type} (o : Option α), ck (nI i + (1 : Int32)) L o = o := fun o => ck_i (k := 1) (show i + 1 < L by omega) hL o
  have c2 : ∀ {α : Type} (o : Option α), ck (nI i + (2 : Int32)) L o = o := fun o => ck_i (k := 2) (show i + 2 < L by omega) hL o
  unfold L_law_J232
  simp only [c1, c2]
  exact goI (op_row h _ _)
theorem j_265 {σ : Mem} {L i : Nat} {xs : Nat → Int32} {kb : Mem → Int32 → Option (Mem × Unit)} {kk : Mem → Option (Mem × Unit)} (h : Rel σ) (hi : i + 6 ≤ L) (hL : L ≤ 3072) : ∃ τ, L_law_J265 σ L xs (nI i) kb kk = kb τ (nI i + (6 : Int32)) ∧ Rel τ := by
  have c1 : ∀ {α : Type} (o : Option α), ck (nI i + (1 : Int32)) L o = o := fun o => ck_i (k := 1) (show i + 1 < L by omega) hL o
  have c2 : ∀ {α : Type} (o : Option α), ck (nI i + (2 : Int32)) L o = o := fun o => ck_i (k := 2) (show i + 2 < L by omega) hL o
  have c3 : ∀ {α : Type} (o : Option α), ck (nI i + (3 : Int32)) L o = o := fun o => ck_i (k := 3) (show i + 3 < L by omega) hL o
  unfold L_law_J265
  simp only [c1, c2, c3]
  exact goI (op_lay h _ _ _)
theorem j_308 {σ : Mem} {L i : Nat} {xs : Nat → Int32} {kb : Mem → Int32 → Option (Mem × Unit)} {kk : Mem → Option (Mem × Unit)} (h : Rel σ) (hi : i + 6 ≤ L) (hL : L ≤ 3072) : ∃ τ, L_law_J308 σ L xs (nI i) kb kk = kb τ (nI i + (6 : Int32)) ∧ Rel τ := by
  have c1 : ∀ {α : Type} (o : Option α), ck (nI i + (1 : Int32)) L o = o := fun o => ck_i (k := 1) (show i + 1 < L by omega) hL o
  have c2 : ∀ {α : Type} (o : Option α), ck (nI i + (2 : Int32)) L o = o := fun o => ck_i (k := 2) (show i + 2 < L by omega) hL o
  unfold L_law_J308
  simp only [c1, c2]
  exact goI (op_at h _ _)
theorem j_341 {σ : Mem} {L i : Nat} {xs : Nat → Int32} {kb : Mem → Int32 → Option (Mem × Unit)} {kk : Mem → Option (Mem × Unit)} (h : Rel σ) (hi : i + 6 ≤ L) (hL : L ≤ 3072) : ∃ τ, L_law_J341 σ L xs (nI i) kb kk = kb τ (nI i + (6 : Int32)) ∧ Rel τ := by
  have c1 : ∀ {α : Type} (o : Option α), ck (nI i + (1 : Int32)) L o = o := fun o => ck_i (k := 1) (show i + 1 < L by omega) hL o
  unfold L_law_J341
  simp only [c1]
  exact goI (op_tear h _)
theorem j_364 {σ : Mem} {L i : Nat} {xs : Nat → Int32} {kb : Mem → Int32 → Option (Mem × Unit)} {kk : Mem → Option (Mem × Unit)} (h : Rel σ) (hi : i + 6 ≤ L) (hL : L ≤ 3072) : ∃ τ, L_law_J364 σ L xs (nI i) kb kk = kb τ (nI i + (6 : Int32)) ∧ Rel τ := by
  have c1 : ∀ {α : Type} (o : Option α), ck (nI i + (1 : Int32)) L o = o := fun o => ck_i (k := 1) (show i + 1 < L by omega) hL o
  have c2 : ∀ {α : Type} (o : Option α), ck (nI i + (2 : Int32)) L o = o := fun o => ck_i (k := 2) (show i + 2 < L by omega) hL o
  have c3 : ∀ {α : Type} (o : Option α), ck (nI i + (3 : Int32)) L o = o := fun o => ck_i (k := 3) (show i + 3 < L by omega) hL o
  have c4 : ∀ {α : Type} (o : Option α), ck (nI i + (4 : Int32)) L o = o := fun o => ck_i (k := 4) (show i + 4 < L by omega) hL o
  have c5 : ∀ {α : Type} (o : Option α), ck (nI i + (5 : Int32)) L o = o := fun o => ck_i (k := 5) (show i + 5 < L by omega) hL o
  unfold L_law_J364
  simp only [c1, c2, c3, c4, c5]
  exact goI (op_copy h _ _ _ _ _)
theorem j_427 {σ : Mem} {L i : Nat} {xs : Nat → Int32} {kb : Mem → Int32 → Option (Mem × Unit)} {kk : Mem → Option (Mem × Unit)} (h : Rel σ) (hi : i + 6 ≤ L) (hL : L ≤ 3072) : ∃ τ, L_law_J427 σ L xs (nI i) kb kk = kb τ (nI i + (6 : Int32)) ∧ Rel τ := by
  have c1 : ∀ {α : Type} (o : Option α), ck (nI i + (1 : Int32)) L o = o := fun o => ck_i (k := 1) (show i + 1 < L by omega) hL o
  unfold L_law_J427
  simp only [c1]
  exact goI (op_mean h _)
theorem j_450 {σ : Mem} {L i : Nat} {xs : Nat → Int32} {kb : Mem → Int32 → Option (Mem × Unit)} {kk : Mem → Option (Mem × Unit)} (h : Rel σ) (hi : i + 6 ≤ L) (hL : L ≤ 3072) : ∃ τ, L_law_J450 σ L xs (nI i) kb kk = kb τ (nI i + (6 : Int32)) ∧ Rel τ := by
  have c1 : ∀ {α : Type} (o : Option α), ck (nI i + (1 : Int32)) L o = o := fun o => ck_i (k := 1) (show i + 1 < L by omega) hL o
  have c2 : ∀ {α : Type} (o : Option α), ck (nI i + (2 : Int32)) L o = o := fun o => ck_i (k := 2) (show i + 2 < L by omega) hL o
  unfold L_law_J450
  simp only [c1, c2]
  exact goI (op_text h _ _)
theorem j_483 {σ : Mem} {L i : Nat} {xs : Nat → Int32} {kb : Mem → Int32 → Option (Mem × Unit)} {kk : Mem → Option (Mem × Unit)} (h : Rel σ) (hi : i + 6 ≤ L) (hL : L ≤ 3072) : ∃ τ, L_law_J483 σ L xs (nI i) kb kk = kb τ (nI i + (6 : Int32)) ∧ Rel τ := by
  have c1 : ∀ {α : Type} (o : Option α), ck (nI i + (1 : Int32)) L o = o := fun o => ck_i (k := 1) (show i + 1 < L by omega) hL o
  have c2 : ∀ {α : Type} (o : Option α), ck (nI i + (2 : Int32)) L o = o := fun o => ck_i (k := 2) (show i + 2 < L by omega) hL o
  have c3 : ∀ {α : Type} (o : Option α), ck (nI i + (3 : Int32)) L o = o := fun o => ck_i (k := 3) (show i + 3 < L by omega) hL o
  unfold L_law_J483
  simp only [c1, c2, c3]
  exact goI (op_put h _ _ _)
theorem j_526 {σ : Mem} {L i : Nat} {xs : Nat → Int32} {kb : Mem → Int32 → Option (Mem × Unit)} {kk : Mem → Option (Mem × Unit)} (h : Rel σ) (hi : i + 6 ≤ L) (hL : L ≤ 3072) : ∃ τ, L_law_J526 σ L xs (nI i) kb kk = kb τ (nI i + (6 : Int32)) ∧ Rel τ := by
  have c1 : ∀ {α : Type} (o : Option α), ck (nI i + (1 : Int32)) L o = o := fun o => ck_i (k := 1) (show i + 1 < L by omega) hL o
  unfold L_law_J526
  simp only [c1]
  exact goI (op_fault h _)
theorem j_549 {σ : Mem} {L i : Nat} {xs : Nat → Int32} {kb : Mem → Int32 → Option (Mem × Unit)} {kk : Mem → Option (Mem × Unit)} (h : Rel σ) (hi : i + 6 ≤ L) (hL : L ≤ 3072) : ∃ τ, L_law_J549 σ L xs (nI i) kb kk = kb τ (nI i + (6 : Int32)) ∧ Rel τ := by
  have c1 : ∀ {α : Type} (o : Option α), ck (nI i + (1 : Int32)) L o = o := fun o => ck_i (k := 1) (show i + 1 < L by omega) hL o
  unfold L_law_J549
  simp only [c1]
  exact goI (op_press h _)
theorem j_572 {σ : Mem} {L i : Nat} {xs : Nat → Int32} {kb : Mem → Int32 → Option (Mem × Unit)} {kk : Mem → Option (Mem × Unit)} (h : Rel σ) (hi : i + 6 ≤ L) (hL : L ≤ 3072) : ∃ τ, L_law_J572 σ L xs (nI i) kb kk = kb τ (nI i + (6 : Int32)) ∧ Rel τ := by
  have c1 : ∀ {α : Type} (o : Option α), ck (nI i + (1 : Int32)) L o = o := fun o => ck_i (k := 1) (show i + 1 < L by omega) hL o
  have c2 : ∀ {α : Type} (o : Option α), ck (nI i + (2 : Int32)) L o = o := fun o => ck_i (k := 2) (show i + 2 < L by omega) hL o
  unfold L_law_J572
  simp only [c1, c2]
  exact goI (op_law h _ _)
theorem j_605 {σ : Mem} {L i : Nat} {xs : Nat → Int32} {kb : Mem → Int32 → Option (Mem × Unit)} {kk : Mem → Option (Mem × Unit)} (h : Rel σ) (hi : i + 6 ≤ L) (hL : L ≤ 3072) : ∃ τ, L_law_J605 σ L xs (nI i) kb kk = kb τ (nI i + (6 : Int32)) ∧ Rel τ := by
  have c1 : ∀ {α : Type} (o : Option α), ck (nI i + (1 : Int32)) L o = o := fun o => ck_i (k := 1) (show i + 1 < L by omega) hL o
  have c2 : ∀ {α : Type} (o : Option α), ck (nI i + (2 : Int32)) L o = o := fun o => ck_i (k := 2) (show i + 2 < L by omega) hL o
  unfold L_law_J605
  simp only [c1, c2]
  exact goI (op_mark h _ _)
theorem j_638 {σ : Mem} {L i : Nat} {xs : Nat → Int32} {kb : Mem → Int32 → Option (Mem × Unit)} {kk : Mem → Option (Mem × Unit)} (h : Rel σ) (hi : i + 6 ≤ L) (hL : L ≤ 3072) : ∃ τ, L_law_J638 σ L xs (nI i) kb kk = kb τ (nI i + (6 : Int32)) ∧ Rel τ := by
  have c1 : ∀ {α : Type} (o : Option α), ck (nI i + (1 : Int32)) L o = o := fun o => ck_i (k := 1) (show i + 1 < L by omega) hL o
  have c2 : ∀ {α : Type} (o : Option α), ck (nI i + (2 : Int32)) L o = o := fun o => ck_i (k := 2) (show i + 2 < L by omega) hL o
  unfold L_law_J638
  simp only [c1, c2]
  exact goI (op_hush h _ _)
theorem j_671 {σ : Mem} {L i : Nat} {xs : Nat → Int32} {kb : Mem → Int32 → Option (Mem × Unit)} {kk : Mem → Option (Mem × Unit)} (h : Rel σ) (hi : i + 6 ≤ L) (hL : L ≤ 3072) : ∃ τ, L_law_J671 σ L xs (nI i) kb kk = kb τ (nI i + (6 : Int32)) ∧ Rel τ := by
  have c1 : ∀ {α : Type} (o : Option α), ck (nI i + (1 : Int32)) L o = o := fun o => ck_i (k := 1) (show i + 1 < L by omega) hL o
  have c2 : ∀ {α : Type} (o : Option α), ck (nI i + (2 : Int32)) L o = o := fun o => ck_i (k := 2) (show i + 2 < L by omega) hL o
  unfold L_law_J671
  simp only [c1, c2]
  exact goI (op_swap h _ _)
theorem j_704 {σ : Mem} {L i : Nat} {xs : Nat → Int32} {kb : Mem → Int32 → Option (Mem × Unit)} {kk : Mem → Option (Mem × Unit)} (h : Rel σ) (hi : i + 6 ≤ L) (hL : L ≤ 3072) : ∃ τ, L_law_J704 σ L xs (nI i) kb kk = kb τ (nI i + (6 : Int32)) ∧ Rel τ := by
  have c1 : ∀ {α : Type} (o : Option α), ck (nI i + (1 : Int32)) L o = o := fun o => ck_i (k := 1) (show i + 1 < L by omega) hL o
  have c2 : ∀ {α : Type} (o : Option α), ck (nI i + (2 : Int32)) L o = o := fun o => ck_i (k := 2) (show i + 2 < L by omega) hL o
  unfold L_law_J704
  simp only [c1, c2]
  exact goI (op_set h _ _)
theorem j_737 {σ : Mem} {L i : Nat} {xs : Nat → Int32} {kb : Mem → Int32 → Option (Mem × Unit)} {kk : Mem → Option (Mem × Unit)} (h : Rel σ) (hi : i + 6 ≤ L) (hL : L ≤ 3072) : ∃ τ, L_law_J737 σ L xs (nI i) kb kk = kb τ (nI i + (6 : Int32)) ∧ Rel τ := by
  have c1 : ∀ {α : Type} (o : Option α), ck (nI i + (1 : Int32)) L o = o := fun o => ck_i (k := 1) (show i + 1 < L by omega) hL o
  have c2 : ∀ {α : Type} (o : Option α), ck (nI i + (2 : Int32)) L o = o := fun o => ck_i (k := 2) (show i + 2 < L by omega) hL o
  unfold L_law_J737
  simp only [c1, c2]
  exact goI (op_by h _ _)
theorem j_770 {σ : Mem} {L i : Nat} {xs : Nat → Int32} {kb : Mem → Int32 → Option (Mem × Unit)} {kk : Mem → Option (Mem × Unit)} (h : Rel σ) (hi : i + 6 ≤ L) (hL : L ≤ 3072) : ∃ τ, L_law_J770 σ L xs (nI i) kb kk = kb τ (nI i + (6 : Int32)) ∧ Rel τ := by
  have c1 : ∀ {α : Type} (o : Option α), ck (nI i + (1 : Int32)) L o = o := fun o => ck_i (k := 1) (show i + 1 < L by omega) hL o
  unfold L_law_J770
  simp only [c1]
  exact goI (op_first h _)
theorem j_793 {σ : Mem} {L i : Nat} {xs : Nat → Int32} {kb : Mem → Int32 → Option (Mem × Unit)} {kk : Mem → Option (Mem × Unit)} (h : Rel σ) (hi : i + 6 ≤ L) (hL : L ≤ 3072) : ∃ τ, L_law_J793 σ L xs (nI i) kb kk = kb τ (nI i + (6 : Int32)) ∧ Rel τ := by
  have c1 : ∀ {α : Type} (o : Option α), ck (nI i + (1 : Int32)) L o = o := fun o => ck_i (k := 1) (show i + 1 < L by omega) hL o
  have c2 : ∀ {α : Type} (o : Option α), ck (nI i + (2 : Int32)) L o = o := fun o => ck_i (k := 2) (show i + 2 < L by omega) hL o
  have c3 : ∀ {α : Type} (o : Option α), ck (nI i + (3 : Int32)) L o = o := fun o => ck_i (k := 3) (show i + 3 < L by omega) hL o
  unfold L_law_J793
  simp only [c1, c2, c3]
  exact goI (op_again h _ _ _)
theorem j_836 {σ : Mem} {L i : Nat} {xs : Nat → Int32} {kb : Mem → Int32 → Option (Mem × Unit)} {kk : Mem → Option (Mem × Unit)} (h : Rel σ) (hi : i + 6 ≤ L) (hL : L ≤ 3072) : ∃ τ, L_law_J836 σ L xs (nI i) kb kk = kb τ (nI i + (6 : Int32)) ∧ Rel τ := by
  have c1 : ∀ {α : Type} (o : Option α), ck (nI i + (1 : Int32)) L o = o := fun o => ck_i (k := 1) (show i + 1 < L by omega) hL o
  unfold L_law_J836
  simp only [c1]
  exact goI (op_rests h _)
theorem j_859 {σ : Mem} {L i : Nat} {xs : Nat → Int32} {kb : Mem → Int32 → Option (Mem × Unit)} {kk : Mem → Option (Mem × Unit)} (h : Rel σ) (hi : i + 6 ≤ L) (hL : L ≤ 3072) : ∃ τ, L_law_J859 σ L xs (nI i) kb kk = kb τ (nI i + (6 : Int32)) ∧ Rel τ := by
  have c1 : ∀ {α : Type} (o : Option α), ck (nI i + (1 : Int32)) L o = o := fun o => ck_i (k := 1) (show i + 1 < L by omega) hL o
  have c2 : ∀ {α : Type} (o : Option α), ck (nI i + (2 : Int32)) L o = o := fun o => ck_i (k := 2) (show i + 2 < L by omega) hL o
  unfold L_law_J859
  simp only [c1, c2]
  exact goI (op_same h _ _)
theorem j_892 {σ : Mem} {L i : Nat} {xs : Nat → Int32} {kb : Mem → Int32 → Option (Mem × Unit)} {kk : Mem → Option (Mem × Unit)} (h : Rel σ) (hi : i + 6 ≤ L) (hL : L ≤ 3072) : ∃ τ, L_law_J892 σ L xs (nI i) kb kk = kb τ (nI i + (6 : Int32)) ∧ Rel τ := by
  have c1 : ∀ {α : Type} (o : Option α), ck (nI i + (1 : Int32)) L o = o := fun o => ck_i (k := 1) (show i + 1 < L by omega) hL o
  have c2 : ∀ {α : Type} (o : Option α), ck (nI i + (2 : Int32)) L o = o := fun o => ck_i (k := 2) (show i + 2 < L by omega) hL o
  unfold L_law_J892
  simp only [c1, c2]
  exact goI (op_meant h _ _)
theorem j_925 {σ : Mem} {L i : Nat} {xs : Nat → Int32} {kb : Mem → Int32 → Option (Mem × Unit)} {kk : Mem → Option (Mem × Unit)} (h : Rel σ) (hi : i + 6 ≤ L) (hL : L ≤ 3072) : ∃ τ, L_law_J925 σ L xs (nI i) kb kk = kb τ (nI i + (6 : Int32)) ∧ Rel τ := by
  have c1 : ∀ {α : Type} (o : Option α), ck (nI i + (1 : Int32)) L o = o := fun o => ck_i (k := 1) (show i + 1 < L by omega) hL o
  have c2 : ∀ {α : Type} (o : Option α), ck (nI i + (2 : Int32)) L o = o := fun o => ck_i (k := 2) (show i + 2 < L by omega) hL o
  unfold L_law_J925
  simp only [c1, c2]
  exact goI (op_smallest h _ _)
theorem j_958 {σ : Mem} {L i : Nat} {xs : Nat → Int32} {kb : Mem → Int32 → Option (Mem × Unit)} {kk : Mem → Option (Mem × Unit)} (h : Rel σ) (hi : i + 6 ≤ L) (hL : L ≤ 3072) : ∃ τ, L_law_J958 σ L xs (nI i) kb kk = kb τ (nI i + (6 : Int32)) ∧ Rel τ := by
  have c1 : ∀ {α : Type} (o : Option α), ck (nI i + (1 : Int32)) L o = o := fun o => ck_i (k := 1) (show i + 1 < L by omega) hL o
  unfold L_law_J958
  simp only [c1]
  exact goI (op_outs h _)
theorem j_981 {σ : Mem} {L i : Nat} {xs : Nat → Int32} {kb : Mem → Int32 → Option (Mem × Unit)} {kk : Mem → Option (Mem × Unit)} (h : Rel σ) (hi : i + 6 ≤ L) (hL : L ≤ 3072) : ∃ τ, L_law_J981 σ L xs (nI i) kb kk = kb τ (nI i + (6 : Int32)) ∧ Rel τ := by
  have c1 : ∀ {α : Type} (o : Option α), ck (nI i + (1 : Int32)) L o = o := fun o => ck_i (k := 1) (show i + 1 < L by omega) hL o
  have c2 : ∀ {α : Type} (o : Option α), ck (nI i + (2 : Int32)) L o = o := fun o => ck_i (k := 2) (show i + 2 < L by omega) hL o
  unfold L_law_J981
  simp only [c1, c2]
  exact goI (op_twins h _ _)
theorem j_1014 {σ : Mem} {L i : Nat} {xs : Nat → Int32} {kb : Mem → Int32 → Option (Mem × Unit)} {kk : Mem → Option (Mem × Unit)} (h : Rel σ) (hi : i + 6 ≤ L) (hL : L ≤ 3072) : ∃ τ, L_law_J1014 σ L xs (nI i) kb kk = kb τ (nI i + (6 : Int32)) ∧ Rel τ := by
  have c1 : ∀ {α : Type} (o : Option α), ck (nI i + (1 : Int32)) L o = o := fun o => ck_i (k := 1) (show i + 1 < L by omega) hL o
  have c2 : ∀ {α : Type} (o : Option α), ck (nI i + (2 : Int32)) L o = o := fun o => ck_i (k := 2) (show i + 2 < L by omega) hL o
  unfold L_law_J1014
  simp only [c1, c2]
  exact goI (op_harmless h _ _)
theorem j_1047 {σ : Mem} {L i : Nat} {xs : Nat → Int32} {kb : Mem → Int32 → Option (Mem × Unit)} {kk : Mem → Option (Mem × Unit)} (h : Rel σ) (hi : i + 6 ≤ L) (hL : L ≤ 3072) : ∃ τ, L_law_J1047 σ L xs (nI i) kb kk = kb τ (nI i + (6 : Int32)) ∧ Rel τ := by
  have c1 : ∀ {α : Type} (o : Option α), ck (nI i + (1 : Int32)) L o = o := fun o => ck_i (k := 1) (show i + 1 < L by omega) hL o
  have c2 : ∀ {α : Type} (o : Option α), ck (nI i + (2 : Int32)) L o = o := fun o => ck_i (k := 2) (show i + 2 < L by omega) hL o
  have c3 : ∀ {α : Type} (o : Option α), ck (nI i + (3 : Int32)) L o = o := fun o => ck_i (k := 3) (show i + 3 < L by omega) hL o
  unfold L_law_J1047
  simp only [c1, c2, c3]
  exact goI (op_believed h _ _ _)
theorem j_1090 {σ : Mem} {L i : Nat} {xs : Nat → Int32} {kb : Mem → Int32 → Option (Mem × Unit)} {kk : Mem → Option (Mem × Unit)} (h : Rel σ) (hi : i + 6 ≤ L) (hL : L ≤ 3072) : ∃ τ, L_law_J1090 σ L xs (nI i) kb kk = kb τ (nI i + (6 : Int32)) ∧ Rel τ := by
  have c1 : ∀ {α : Type} (o : Option α), ck (nI i + (1 : Int32)) L o = o := fun o => ck_i (k := 1) (show i + 1 < L by omega) hL o
  unfold L_law_J1090
  simp only [c1]
  exact goI (op_forbid h _)
theorem j_1113 {σ : Mem} {L i : Nat} {xs : Nat → Int32} {kb : Mem → Int32 → Option (Mem × Unit)} {kk : Mem → Option (Mem × Unit)} (h : Rel σ) (hi : i + 6 ≤ L) (hL : L ≤ 3072) : ∃ τ, L_law_J1113 σ L xs (nI i) kb kk = kb τ (nI i + (6 : Int32)) ∧ Rel τ := by
  have c1 : ∀ {α : Type} (o : Option α), ck (nI i + (1 : Int32)) L o = o := fun o => ck_i (k := 1) (show i + 1 < L by omega) hL o
  have c2 : ∀ {α : Type} (o : Option α), ck (nI i + (2 : Int32)) L o = o := fun o => ck_i (k := 2) (show i + 2 < L by omega) hL o
  unfold L_law_J1113
  simp only [c1, c2]
  exact goI (op_silence h _ _)
theorem j_1146 {σ : Mem} {L i : Nat} {xs : Nat → Int32} {kb : Mem → Int32 → Option (Mem × Unit)} {kk : Mem → Option (Mem × Unit)} (h : Rel σ) (hi : i + 6 ≤ L) (hL : L ≤ 3072) : ∃ τ, L_law_J1146 σ L xs (nI i) kb kk = kb τ (nI i + (6 : Int32)) ∧ Rel τ := by
  have c1 : ∀ {α : Type} (o : Option α), ck (nI i + (1 : Int32)) L o = o := fun o => ck_i (k := 1) (show i + 1 < L by omega) hL o
  have c2 : ∀ {α : Type} (o : Option α), ck (nI i + (2 : Int32)) L o = o := fun o => ck_i (k := 2) (show i + 2 < L by omega) hL o
  unfold L_law_J1146
  simp only [c1, c2]
  exact goI (op_which h _ _)
theorem j_1179 {σ : Mem} {L i : Nat} {xs : Nat → Int32} {kb : Mem → Int32 → Option (Mem × Unit)} {kk : Mem → Option (Mem × Unit)} (h : Rel σ) (hi : i + 6 ≤ L) (hL : L ≤ 3072) : ∃ τ, L_law_J1179 σ L xs (nI i) kb kk = kb τ (nI i + (6 : Int32)) ∧ Rel τ := by
  have c1 : ∀ {α : Type} (o : Option α), ck (nI i + (1 : Int32)) L o = o := fun o => ck_i (k := 1) (show i + 1 < L by omega) hL o
  have c2 : ∀ {α : Type} (o : Option α), ck (nI i + (2 : Int32)) L o = o := fun o => ck_i (k := 2) (show i + 2 < L by omega) hL o
  have c3 : ∀ {α : Type} (o : Option α), ck (nI i + (3 : Int32)) L o = o := fun o => ck_i (k := 3) (show i + 3 < L by omega) hL o
  unfold L_law_J1179
  simp only [c1, c2, c3]
  exact goI (op_kinds h _ _ _)
theorem j_1222 {σ : Mem} {L i : Nat} {xs : Nat → Int32} {kb : Mem → Int32 → Option (Mem × Unit)} {kk : Mem → Option (Mem × Unit)} (h : Rel σ) (hi : i + 6 ≤ L) (hL : L ≤ 3072) : ∃ τ, L_law_J1222 σ L xs (nI i) kb kk = kb τ (nI i + (6 : Int32)) ∧ Rel τ := by
  have c1 : ∀ {α : Type} (o : Option α), ck (nI i + (1 : Int32)) L o = o := fun o => ck_i (k := 1) (show i + 1 < L by omega) hL o
  have c2 : ∀ {α : Type} (o : Option α), ck (nI i + (2 : Int32)) L o = o := fun o => ck_i (k := 2) (show i + 2 < L by omega) hL o
  have c3 : ∀ {α : Type} (o : Option α), ck (nI i + (3 : Int32)) L o = o := fun o => ck_i (k := 3) (show i + 3 < L by omega) hL o
  unfold L_law_J1222
  simp only [c1, c2, c3]
  exact goI (op_odds h _ _ _)
theorem j_1265 {σ : Mem} {L i : Nat} {xs : Nat → Int32} {kb : Mem → Int32 → Option (Mem × Unit)} {kk : Mem → Option (Mem × Unit)} (h : Rel σ) (hi : i + 6 ≤ L) (hL : L ≤ 3072) : ∃ τ, L_law_J1265 σ L xs (nI i) kb kk = kb τ (nI i + (6 : Int32)) ∧ Rel τ := by
  have c1 : ∀ {α : Type} (o : Option α), ck (nI i + (1 : Int32)) L o = o := fun o => ck_i (k := 1) (show i + 1 < L by omega) hL o
  have c2 : ∀ {α : Type} (o : Option α), ck (nI i + (2 : Int32)) L o = o := fun o => ck_i (k := 2) (show i + 2 < L by omega) hL o
  unfold L_law_J1265
  simp only [c1, c2]
  exact goI (op_mid h _ _)
theorem j_1298 {σ : Mem} {L i : Nat} {xs : Nat → Int32} {kb : Mem → Int32 → Option (Mem × Unit)} {kk : Mem → Option (Mem × Unit)} (h : Rel σ) (hi : i + 6 ≤ L) (hL : L ≤ 3072) : ∃ τ, L_law_J1298 σ L xs (nI i) kb kk = kb τ (nI i + (6 : Int32)) ∧ Rel τ := by
  have c1 : ∀ {α : Type} (o : Option α), ck (nI i + (1 : Int32)) L o = o := fun o => ck_i (k := 1) (show i + 1 < L by omega) hL o
  unfold L_law_J1298
  simp only [c1]
  exact goI (op_print h _)
theorem j_1321 {σ : Mem} {L i : Nat} {xs : Nat → Int32} {kb : Mem → Int32 → Option (Mem × Unit)} {kk : Mem → Option (Mem × Unit)} (h : Rel σ) (hi : i + 6 ≤ L) (hL : L ≤ 3072) : ∃ τ, L_law_J1321 σ L xs (nI i) kb kk = kb τ (nI i + (6 : Int32)) ∧ Rel τ := by
  have c1 : ∀ {α : Type} (o : Option α), ck (nI i + (1 : Int32)) L o = o := fun o => ck_i (k := 1) (show i + 1 < L by omega) hL o
  unfold L_law_J1321
  simp only [c1]
  exact goI (op_ink h _)
theorem j_1344 {σ : Mem} {L i : Nat} {xs : Nat → Int32} {kb : Mem → Int32 → Option (Mem × Unit)} {kk : Mem → Option (Mem × Unit)} (h : Rel σ) (hi : i + 6 ≤ L) (hL : L ≤ 3072) : ∃ τ, L_law_J1344 σ L xs (nI i) kb kk = kb τ (nI i + (6 : Int32)) ∧ Rel τ := by
  have c1 : ∀ {α : Type} (o : Option α), ck (nI i + (1 : Int32)) L o = o := fun o => ck_i (k := 1) (show i + 1 < L by omega) hL o
  unfold L_law_J1344
  simp only [c1]
  exact goI (op_undo h _)
theorem j_1367 {σ : Mem} {L i : Nat} {xs : Nat → Int32} {kb : Mem → Int32 → Option (Mem × Unit)} {kk : Mem → Option (Mem × Unit)} (h : Rel σ) (hi : i + 6 ≤ L) (hL : L ≤ 3072) : ∃ τ, L_law_J1367 σ L xs (nI i) kb kk = kb τ (nI i + (6 : Int32)) ∧ Rel τ := by
  have c1 : ∀ {α : Type} (o : Option α), ck (nI i + (1 : Int32)) L o = o := fun o => ck_i (k := 1) (show i + 1 < L by omega) hL o
  have c2 : ∀ {α : Type} (o : Option α), ck (nI i + (2 : Int32)) L o = o := fun o => ck_i (k := 2) (show i + 2 < L by omega) hL o
  unfold L_law_J1367
  simp only [c1, c2]
  exact goI (op_drawer h _ _)
theorem j_1400 {σ : Mem} {L i : Nat} {xs : Nat → Int32} {kb : Mem → Int32 → Option (Mem × Unit)} {kk : Mem → Option (Mem × Unit)} (h : Rel σ) (hi : i + 6 ≤ L) (hL : L ≤ 3072) : ∃ τ, L_law_J1400 σ L xs (nI i) kb kk = kb τ (nI i + (6 : Int32)) ∧ Rel τ := by
  have c1 : ∀ {α : Type} (o : Option α), ck (nI i + (1 : Int32)) L o = o := fun o => ck_i (k := 1) (show i + 1 < L by omega) hL o
  have c2 : ∀ {α : Type} (o : Option α), ck (nI i + (2 : Int32)) L o = o := fun o => ck_i (k := 2) (show i + 2 < L by omega) hL o
  unfold L_law_J1400
  simp only [c1, c2]
  exact goI (op_lots h _ _)
theorem j_1433 {σ : Mem} {L i : Nat} {xs : Nat → Int32} {kb : Mem → Int32 → Option (Mem × Unit)} {kk : Mem → Option (Mem × Unit)} (h : Rel σ) (hi : i + 6 ≤ L) (hL : L ≤ 3072) : ∃ τ, L_law_J1433 σ L xs (nI i) kb kk = kb τ (nI i + (6 : Int32)) ∧ Rel τ := by
  have c1 : ∀ {α : Type} (o : Option α), ck (nI i + (1 : Int32)) L o = o := fun o => ck_i (k := 1) (show i + 1 < L by omega) hL o
  unfold L_law_J1433
  simp only [c1]
  exact goI (op_keep h _)
theorem j_1456 {σ : Mem} {L i : Nat} {xs : Nat → Int32} {kb : Mem → Int32 → Option (Mem × Unit)} {kk : Mem → Option (Mem × Unit)} (h : Rel σ) (hi : i + 6 ≤ L) (hL : L ≤ 3072) : ∃ τ, L_law_J1456 σ L xs (nI i) kb kk = kb τ (nI i + (6 : Int32)) ∧ Rel τ := by
  have c1 : ∀ {α : Type} (o : Option α), ck (nI i + (1 : Int32)) L o = o := fun o => ck_i (k := 1) (show i + 1 < L by omega) hL o
  unfold L_law_J1456
  simp only [c1]
  exact goI (op_on h _)
theorem j_1479 {σ : Mem} {L i : Nat} {xs : Nat → Int32} {kb : Mem → Int32 → Option (Mem × Unit)} {kk : Mem → Option (Mem × Unit)} (h : Rel σ) (hi : i + 6 ≤ L) (hL : L ≤ 3072) : ∃ τ, L_law_J1479 σ L xs (nI i) kb kk = kb τ (nI i + (6 : Int32)) ∧ Rel τ := by
  unfold L_law_J1479
  exact goI (op_asked h)
theorem j_1492 {σ : Mem} {L i : Nat} {xs : Nat → Int32} {kb : Mem → Int32 → Option (Mem × Unit)} {kk : Mem → Option (Mem × Unit)} (h : Rel σ) (hi : i + 6 ≤ L) (hL : L ≤ 3072) : ∃ τ, L_law_J1492 σ L xs (nI i) kb kk = kb τ (nI i + (6 : Int32)) ∧ Rel τ := by
  unfold L_law_J1492
  exact goJ (op_upper h)
theorem j_1506 {σ : Mem} {L i : Nat} {xs : Nat → Int32} {kb : Mem → Int32 → Option (Mem × Unit)} {kk : Mem → Option (Mem × Unit)} (h : Rel σ) (hi : i + 6 ≤ L) (hL : L ≤ 3072) : ∃ τ, L_law_J1506 σ L xs (nI i) kb kk = kb τ (nI i + (6 : Int32)) ∧ Rel τ := by
  unfold L_law_J1506
  exact goJ (op_lower h)
theorem j_1520 {σ : Mem} {L i : Nat} {xs : Nat → Int32} {kb : Mem → Int32 → Option (Mem × Unit)} {kk : Mem → Option (Mem × Unit)} (h : Rel σ) (hi : i + 6 ≤ L) (hL : L ≤ 3072) : ∃ τ, L_law_J1520 σ L xs (nI i) kb kk = kb τ (nI i + (6 : Int32)) ∧ Rel τ := by
  have c1 : ∀ {α : Type} (o : Option α), ck (nI i + (1 : Int32)) L o = o := fun o => ck_i (k := 1) (show i + 1 < L by omega) hL o
  unfold L_law_J1520
  simp only [c1]
  exact goI (op_count h _)
theorem j_1543 {σ : Mem} {L i : Nat} {xs : Nat → Int32} {kb : Mem → Int32 → Option (Mem × Unit)} {kk : Mem → Option (Mem × Unit)} (h : Rel σ) (hi : i + 6 ≤ L) (hL : L ≤ 3072) : ∃ τ, L_law_J1543 σ L xs (nI i) kb kk = kb τ (nI i + (6 : Int32)) ∧ Rel τ := by
  unfold L_law_J1543
  exact goI (op_finding h)
theorem j_1556 {σ : Mem} {L i : Nat} {xs : Nat → Int32} {kb : Mem → Int32 → Option (Mem × Unit)} {kk : Mem → Option (Mem × Unit)} (h : Rel σ) (hi : i + 6 ≤ L) (hL : L ≤ 3072) : ∃ τ, L_law_J1556 σ L xs (nI i) kb kk = kb τ (nI i + (6 : Int32)) ∧ Rel τ := by
  have c1 : ∀ {α : Type} (o : Option α), ck (nI i + (1 : Int32)) L o = o := fun o => ck_i (k := 1) (show i + 1 < L by omega) hL o
  unfold L_law_J1556
  simp only [c1]
  exact goI (op_findings h _)
theorem j_1579 {σ : Mem} {L i : Nat} {xs : Nat → Int32} {kb : Mem → Int32 → Option (Mem × Unit)} {kk : Mem → Option (Mem × Unit)} (h : Rel σ) (hi : i + 6 ≤ L) (hL : L ≤ 3072) : ∃ τ, L_law_J1579 σ L xs (nI i) kb kk = kb τ (nI i + (6 : Int32)) ∧ Rel τ := by
  unfold L_law_J1579
  exact goJ (op_digest h)
theorem L_end {L i : Nat} (hL : L ≤ 3072) (hi : i ≤ 6000) : ((Int32.ofNat L) - (6 : Int32)) < nI i ↔ L < i + 6 := by
  rw [Int32.lt_iff_toInt_lt, show (Int32.ofNat L - (6 : Int32)).toInt = (L : Int) - 6 from pk_sub_toInt (a := L) (b := 6) (by omega) (by decide), ntoInt (by omega)]
  omega
theorem law_L {L : Nat} {xs : Nat → Int32} (hL : L ≤ 3072) : ∀ (c i f : Nat) (σ : Mem), c < f → L < i + 6 + 6 * c → i ≤ 6000 → Rel σ → ∃ out, L_law_L18 L xs (fun (s187 : Mem) => (some (s187, ()))) f σ (nI i) = some out := by
  intro c
  induction c with
  | zero =>
    intro i f σ hf he hi h
    obtain ⟨g, rfl⟩ : ∃ g, f = g + 1 := ⟨f - 1, by omega⟩
    refine ⟨(σ, ()), ?_⟩
    rw [L_law_L18, if_pos ((L_end hL hi).mpr (by omega))]
  | succ c ih =>
    intro i f σ hf he hi h
    obtain ⟨g, rfl⟩ : ∃ g, f = g + 1 := ⟨f - 1, by omega⟩
    by_cases q : L < i + 6
    · refine ⟨(σ, ()), ?_⟩
      rw [L_law_L18, if_pos ((L_end hL hi).mpr q)]
    have q6 : i + 6 ≤ L := by omega
    have go : ∀ {o : Option (Mem × Unit)}, (∃ τ, o = L_law_L18 L xs (fun (s187 : Mem) => (some (s187, ()))) g τ (nI i + (6 : Int32)) ∧ Rel τ) → ∃ out, o = some out := by
      rintro o ⟨τ, rfl, hτ⟩
      rw [nadd_r]
      exact ih (i + 6) g τ (by omega) (by omega) (by omega) hτ
    rw [L_law_L18, if_neg (fun w => q ((L_end hL hi).mp w)), ck_n (by omega) (by omega)]
    generalize (xs (nI i).toNatClampNeg &&& (63 : Int32)) = w
    by_cases w0 : w = (0 : Int32)
    · rw [if_pos w0]; exact go (j_232 h q6 hL)
    rw [if_neg w0]
    by_cases w1 : w = (1 : Int32)
    · rw [if_pos w1]; exact go (j_265 h q6 hL)
    rw [if_neg w1]
    by_cases w2 : w = (2 : Int32)
    · rw [if_pos w2]; exact go (j_308 h q6 hL)
    rw [if_neg w2]
    by_cases w3 : w = (3 : Int32)
    · rw [if_pos w3]; exact go (j_341 h q6 hL)
    rw [if_neg w3]
    by_cases w4 : w = (4 : Int32)
    · rw [if_pos w4]; exact go (j_364 h q6 hL)
    rw [if_neg w4]
    by_cases w5 : w = (5 : Int32)
    · rw [if_pos w5]; exact go (j_427 h q6 hL)
    rw [if_neg w5]
    by_cases w6 : w = (6 : Int32)
    · rw [if_pos w6]; exact go (j_450 h q6 hL)
    rw [if_neg w6]
    by_cases w7 : w = (7 : Int32)
    · rw [if_pos w7]; exact go (j_483 h q6 hL)
    rw [if_neg w7]
    by_cases w8 : w = (8 : Int32)
    · rw [if_pos w8]; exact go (j_526 h q6 hL)
    rw [if_neg w8]
    by_cases w9 : w = (9 : Int32)
    · rw [if_pos w9]; exact go (j_549 h q6 hL)
    rw [if_neg w9]
    by_cases w10 : w = (10 : Int32)
    · rw [if_pos w10]; exact go (j_572 h q6 hL)
    rw [if_neg w10]
    by_cases w11 : w = (11 : Int32)
    · rw [if_pos w11]; exact go (j_605 h q6 hL)
    rw [if_neg w11]
    by_cases w12 : w = (12 : Int32)
    · rw [if_pos w12]; exact go (j_638 h q6 hL)
    rw [if_neg w12]
    by_cases w13 : w = (13 : Int32)
    · rw [if_pos w13]; exact go (j_671 h q6 hL)
    rw [if_neg w13]
    by_cases w14 : w = (14 : Int32)
    · rw [if_pos w14]; exact go (j_704 h q6 hL)
    rw [if_neg w14]
    by_cases w15 : w = (15 : Int32)
    · rw [if_pos w15]; exact go (j_737 h q6 hL)
    rw [if_neg w15]
    by_cases w16 : w = (16 : Int32)
    · rw [if_pos w16]; exact go (j_770 h q6 hL)
    rw [if_neg w16]
    by_cases w17 : w = (17 : Int32)
    · rw [if_pos w17]; exact go (j_793 h q6 hL)
    rw [if_neg w17]
    by_cases w18 : w = (18 : Int32)
    · rw [if_pos w18]; exact go (j_836 h q6 hL)
    rw [if_neg w18]
    by_cases w19 : w = (19 : Int32)
    · rw [if_pos w19]; exact go (j_859 h q6 hL)
    rw [if_neg w19]
    by_cases w20 : w = (20 : Int32)
    · rw [if_pos w20]; exact go (j_892 h q6 hL)
    rw [if_neg w20]
    by_cases w21 : w = (21 : Int32)
    · rw [if_pos w21]; exact go (j_925 h q6 hL)
    rw [if_neg w21]
    by_cases w22 : w = (22 : Int32)
    · rw [if_pos w22]; exact go (j_958 h q6 hL)
    rw [if_neg w22]
    by_cases w23 : w = (23 : Int32)
    · rw [if_pos w23]; exact go (j_981 h q6 hL)
    rw [if_neg w23]
    by_cases w24 : w = (24 : Int32)
    · rw [if_pos w24]; exact go (j_1014 h q6 hL)
    rw [if_neg w24]
    by_cases w25 : w = (25 : Int32)
    · rw [if_pos w25]; exact go (j_1047 h q6 hL)
    rw [if_neg w25]
    by_cases w26 : w = (26 : Int32)
    · rw [if_pos w26]; exact go (j_1090 h q6 hL)
    rw [if_neg w26]
    by_cases w27 : w = (27 : Int32)
    · rw [if_pos w27]; exact go (j_1113 h q6 hL)
    rw [if_neg w27]
    by_cases w28 : w = (28 : Int32)
    · rw [if_pos w28]; exact go (j_1146 h q6 hL)
    rw [if_neg w28]
    by_cases w29 : w = (29 : Int32)
    · rw [if_pos w29]; exact go (j_1179 h q6 hL)
    rw [if_neg w29]
    by_cases w30 : w = (30 : Int32)
    · rw [if_pos w30]; exact go (j_1222 h q6 hL)
    rw [if_neg w30]
    by_cases w31 : w = (31 : Int32)
    · rw [if_pos w31]; exact go (j_1265 h q6 hL)
    rw [if_neg w31]
    by_cases w32 : w = (32 : Int32)
    · rw [if_pos w32]; exact go (j_1298 h q6 hL)
    rw [if_neg w32]
    by_cases w33 : w = (33 : Int32)
    · rw [if_pos w33]; exact go (j_1321 h q6 hL)
    rw [if_neg w33]
    by_cases w34 : w = (34 : Int32)
    · rw [if_pos w34]; exact go (j_1344 h q6 hL)
    rw [if_neg w34]
    by_cases w35 : w = (35 : Int32)
    · rw [if_pos w35]; exact go (j_1367 h q6 hL)
    rw [if_neg w35]
    by_cases w36 : w = (36 : Int32)
    · rw [if_pos w36]; exact go (j_1400 h q6 hL)
    rw [if_neg w36]
    by_cases w37 : w = (37 : Int32)
    · rw [if_pos w37]; exact go (j_1433 h q6 hL)
    rw [if_neg w37]
    by_cases w38 : w = (38 : Int32)
    · rw [if_pos w38]; exact go (j_1456 h q6 hL)
    rw [if_neg w38]
    by_cases w39 : w = (39 : Int32)
    · rw [if_pos w39]; exact go (j_1479 h q6 hL)
    rw [if_neg w39]
    by_cases w40 : w = (40 : Int32)
    · rw [if_pos w40]; exact go (j_1492 h q6 hL)
    rw [if_neg w40]
    by_cases w41 : w = (41 : Int32)
    · rw [if_pos w41]; exact go (j_1506 h q6 hL)
    rw [if_neg w41]
    by_cases w42 : w = (42 : Int32)
    · rw [if_pos w42]; exact go (j_1520 h q6 hL)
    rw [if_neg w42]
    by_cases w43 : w = (43 : Int32)
    · rw [if_pos w43]; exact go (j_1543 h q6 hL)
    rw [if_neg w43]
    by_cases w44 : w = (44 : Int32)
    · rw [if_pos w44]; exact go (j_1556 h q6 hL)
    rw [if_neg w44]
    by_cases w45 : w = (45 : Int32)
    · rw [if_pos w45]; exact go (j_1579 h q6 hL)
    rw [if_neg w45]
    exact go ⟨σ, rfl, h⟩
theorem LAWF_ok (L : Nat) (xs : Nat → Int32) (hL : L ≤ 3072) : ∃ out, LAWF L xs σ0 = some out := by
  unfold LAWF
  have := law_L (xs := xs) hL 1000 0 FU σ0 (fu_gt (by decide)) (by omega) (by decide) Rel0
  rw [nI_0] at this
  exact this
