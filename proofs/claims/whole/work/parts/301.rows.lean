theorem rl_le (r : Nat) : rl r ≤ 60 := by unfold rl; split <;> (try split) <;> omega
theorem rl_ge (r : Nat) : 16 ≤ rl r := by unfold rl; split <;> (try split) <;> omega
theorem b10 : (if (1 : Int32) = 0 ∨ (1 : Int32) = 1 then (1 : Nat) else 0) = 1 := rfl
theorem b1 {α : Type} (a b : α) : (if (1 : Int32) = 0 ∨ (1 : Int32) = 1 then a else b) = a := if_pos (Or.inr rfl)
theorem b0 {α : Type} (a b : α) : (if (0 : Int32) = 0 ∨ (0 : Int32) = 1 then a else b) = a := if_pos (Or.inl rfl)
theorem one_ne0 : ¬ (1 : Int32) = 0 := by decide
theorem X4_isThere_no {σ : Mem} {r : Nat} (hr : r < 11) (h : σ.1 401 r 0 = -1) : X4_isThere σ r = some (σ, 0) := by
  unfold X4_isThere
  rw [if_pos hr, h, if_pos (by decide), b0]
theorem X4_isThere_n {σ : Mem} {r n : Nat} (hr : r < 11) (h : σ.1 401 r 0 = nI n) (hn : n ≤ 60) : X4_isThere σ r = some (σ, 1) := by
  unfold X4_isThere
  rw [if_pos hr, h, if_neg (nnlt0 (by omega)), b1]
theorem X4_hasPlace_neg {σ : Mem} {r : Nat} {i : Int32} (hr : r < 11) (h : i < 0) : X4_hasPlace σ r i = some (σ, 0) := by
  unfold X4_hasPlace
  rw [if_pos hr, if_pos h, b0]
theorem X4_hasPlace_in {σ : Mem} {r n j : Nat} (hr : r < 11) (hs : σ.1 401 r 0 = nI n) (hn : n ≤ rl r) (hj : j < n) : X4_hasPlace σ r (nI j) = some (σ, 1) := by
  have := rl_le r
  unfold X4_hasPlace
  rw [if_pos hr, if_neg (nnlt0 (by omega)), hs, if_neg (by rw [nle (by omega) (by omega)]; omega), if_neg (by show ¬ nI (rl r) ≤ nI j; rw [nle (by omega) (by omega)]; omega), b1]
theorem X4_hasPlace_out {σ : Mem} {r n j : Nat} (hr : r < 11) (hs : σ.1 401 r 0 = nI n) (hn : n ≤ 60) (hj : n ≤ j) (hj2 : j < 2147483648) : X4_hasPlace σ r (nI j) = some (σ, 0) := by
  unfold X4_hasPlace
  rw [if_pos hr, if_neg (nnlt0 (by omega)), hs, if_pos (by rw [nle (by omega) (by omega)]; omega), b0]
theorem X4_cell_in {σ : Mem} {r n j : Nat} (hr : r < 11) (hs : σ.1 401 r 0 = nI n) (hn : n ≤ rl r) (hj : j < n) : X4_cell σ r (nI j) = some (σ, σ.1 400 r j) := by
  have := rl_le r
  unfold X4_cell
  rw [if_pos hr, X4_hasPlace_in hr hs hn hj]
  simp only [Option.bind_some]
  rw [if_neg one_ne0, ck_n (by omega) (by omega), ncl (by omega)]
theorem X4_cell_out {σ : Mem} {r n j : Nat} (hr : r < 11) (hs : σ.1 401 r 0 = nI n) (hn : n ≤ 60) (hj : n ≤ j) (hj2 : j < 2147483648) : X4_cell σ r (nI j) = some (σ, -9) := by
  unfold X4_cell
  rw [if_pos hr, X4_hasPlace_out hr hs hn hj hj2]
  simp only [Option.bind_some]
  rw [if_pos trivial]
theorem X4_behind_in {σ : Mem} {r n j : Nat} (hr : r < 11) (hs : σ.1 401 r 0 = nI n) (hn : n ≤ rl r) (hj : j + 1 < n) : X4_behind σ r (nI j) = some (σ, σ.1 400 r (j + 1)) := by
  have := rl_le r
  unfold X4_behind
  rw [if_pos hr, nadd_r, X4_hasPlace_in hr hs hn hj]
  simp only [Option.bind_some]
  rw [if_neg one_ne0, ck_n (by omega) (by omega), ncl (by omega)]
theorem X4_behind_out {σ : Mem} {r n j : Nat} (hr : r < 11) (hs : σ.1 401 r 0 = nI n) (hn : n ≤ 60) (hj : n ≤ j + 1) (hj2 : j < 2147483647) : X4_behind σ r (nI j) = some (σ, 6) := by
  unfold X4_behind
  rw [if_pos hr, nadd_r, X4_hasPlace_out hr hs hn hj (by omega)]
  simp only [Option.bind_some]
  rw [if_pos trivial]
theorem X4_change_in {σ : Mem} {r n j : Nat} {v : Int32} (hr : r < 11) (hs : σ.1 401 r 0 = nI n) (hn : n ≤ rl r) (hj : j < n) : X4_change σ r (nI j) v = some (uI σ 400 r j v, ()) := by
  have := rl_le r
  unfold X4_change
  rw [if_pos hr, X4_hasPlace_in hr hs hn hj]
  simp only [Option.bind_some]
  rw [if_neg one_ne0, ck_n (by omega) (by omega), ncl (by omega)]
theorem X4_leave_eq {σ : Mem} {r : Nat} (hr : r < 11) : X4_leave σ r = some (uI σ 401 r 0 (-1), ()) := by
  unfold X4_leave
  rw [if_pos hr]
def rnw (σ : Mem) (r n : Nat) (v : Int32) : Mem := aI (uI σ 401 r 0 (nI n)) 400 r (fun j => if j < rl r then v else σ.1 400 r j)
theorem X4_renew_n {σ : Mem} {r n : Nat} {v : Int32} (hr : r < 11) (hn : n ≤ rl r) : X4_renew σ r (nI n) v = some (rnw σ r n v, ()) := by
  have := rl_le r
  unfold X4_renew J7_fill_53178
  rw [if_pos hr, sh_cells hr]
  have e1 : (if nI n < (0 : Int32) then (0 : Int32) else nI n) = nI n := if_neg (nnlt0 (by omega))
  have e2 : (if (Int32.ofNat (rl r)) < nI n then (Int32.ofNat (rl r)) else nI n) = nI n := by
    by_cases h : rl r < n
    · omega
    · exact if_neg (by show ¬ nI (rl r) < nI n; rw [nlt (by omega) (by omega)]; exact h)
  rw [e1, e2]
  simp only []
  rw [if_pos ⟨no_cells hr, by omega⟩]
  simp only [Option.bind_some]
  rfl
theorem X4_add_n {σ : Mem} {r n : Nat} {v : Int32} (hr : r < 11) (hs : σ.1 401 r 0 = nI n) (hn : n < rl r) : X4_add σ r v = some (uI (uI σ 400 r n v) 401 r 0 (nI (n + 1)), ()) := by
  have := rl_le r
  unfold X4_add
  rw [if_pos hr, hs, if_neg (nnlt0 (by omega)), if_neg (by show ¬ nI (rl r) ≤ nI n; rw [nle (by omega) (by omega)]; omega), ck_n (by omega) (by omega), ncl (by omega)]
  rw [uI_1, if_neg (by rintro ⟨h, -⟩; cases h), hs, nadd_r]
/-! the model's small ones -/
theorem X8_in_eq (σ : Mem) (a b c : Int32) : X8_in σ a b c = some (σ, if a < b then 0 else if c < a then 0 else 1) := by
  unfold X8_in
  by_cases h1 : a < b
  · rw [if_pos h1, b0, if_pos h1]
  · rw [if_neg h1, if_neg h1]
    by_cases h2 : c < a
    · rw [if_pos h2, b0, if_pos h2]
    · rw [if_neg h2, b1, if_neg h2]
theorem in_01 (a b c : Int32) : (if a < b then (0 : Int32) else if c < a then 0 else 1) = 0 ∨ (if a < b then (0 : Int32) else if c < a then 0 else 1) = 1 := by
  by_cases h1 : a < b
  · rw [if_pos h1]; exact Or.inl rfl
  · rw [if_neg h1]
    by_cases h2 : c < a
    · rw [if_pos h2]; exact Or.inl rfl
    · rw [if_neg h2]; exact Or.inr rfl
theorem X8_isRow_neg {σ : Mem} {a : Int32} (h : a < 0) : X8_isRow σ a = some (σ, 0) := by
  unfold X8_isRow
  rw [X8_in_eq]
  simp only [Option.bind_some]
  rw [if_pos (in_01 _ _ _), if_pos h]
theorem X8_isRow_n {σ : Mem} {a : Nat} (h : a < 2147483648) : X8_isRow σ (nI a) = some (σ, if a < 6 then 1 else 0) := by
  unfold X8_isRow
  rw [X8_in_eq]
  simp only [Option.bind_some]
  rw [if_pos (in_01 _ _ _), if_neg (nnlt0 h)]
  by_cases h2 : a < 6
  · rw [if_pos h2, if_neg (by rw [nlt_l h (by decide)]; omega)]
  · rw [if_neg h2, if_pos (by rw [nlt_l h (by decide)]; omega)]
theorem X8_isText_neg {σ : Mem} {a : Int32} (h : a < 0) : X8_isText σ a = some (σ, 0) := by
  unfold X8_isText
  rw [X8_in_eq]
  simp only [Option.bind_some]
  rw [if_pos (in_01 _ _ _), if_pos h]
theorem X8_isText_n {σ : Mem} {a : Nat} (h : a < 2147483648) : X8_isText σ (nI a) = some (σ, if a < 4 then 1 else 0) := by
  unfold X8_isText
  rw [X8_in_eq]
  simp only [Option.bind_some]
  rw [if_pos (in_01 _ _ _), if_neg (nnlt0 h)]
  by_cases h2 : a < 4
  · rw [if_pos h2, if_neg (by rw [nlt_l h (by decide)]; omega)]
  · rw [if_neg h2, if_pos (by rw [nlt_l h (by decide)]; omega)]
def ans7 (σ : Mem) (f : Nat) : Mem := uI (uI σ 711 0 f (σ.1 711 0 f + 1)) 712 0 0 (nI f)
def met8 (σ : Mem) (f : Nat) : Mem := uI (uI σ 800 0 0 (nI f)) 801 0 f (σ.1 801 0 f + 1)
theorem X7_answer_n {σ : Mem} {f : Nat} (h1 : 1 ≤ f) (h2 : f < 6) : X7_answer σ (nI f) = some (ans7 σ f, -3) := by
  unfold X7_answer
  rw [if_neg (by rw [nlt_r (by omega) (by decide)]; omega), if_neg (by rw [nle_l (by omega) (by decide)]; omega), ck_n h2 (by decide), ck_n h2 (by decide), ncl (by omega)]
  rfl
theorem X8_meet_n {σ : Mem} {f : Nat} (h2 : f < 6) : X8_meet σ (nI f) = some (met8 σ f, -3) := by
  unfold X8_meet
  rw [ck_n h2 (by decide), ck_n h2 (by decide), ncl (by omega)]
  rw [uI_1, if_neg (by rintro ⟨h, -⟩; cases h)]
  rfl
theorem X8_rowAt_n {σ : Mem} {r i : Nat} (h : 40 * r + i < 240) : X8_rowAt σ (nI r) (nI i) = some (σ, σ.1 806 0 (40 * r + i)) := by
  unfold X8_rowAt
  rw [nmul_l, nadd, ck_n h (by decide), ncl (by omega)]
theorem X8_setRow_n {σ : Mem} {r i : Nat} {v : Int32} (h : 40 * r + i < 240) : X8_setRow σ (nI r) (nI i) v = some (uI σ 806 0 (40 * r + i) v, ()) := by
  unfold X8_setRow
  rw [nmul_l, nadd, ck_n h (by decide), ncl (by omega)]
/-! which row, which text -/
theorem X7_rowOf_neg {σ : Mem} {a : Int32} (h : a < 0) : X7_rowOf σ a = some (σ, none) := by
  unfold X7_rowOf
  rw [if_pos h]
theorem X7_rowOf_big {σ : Mem} {a : Nat} (h : 6 ≤ a) (h2 : a < 2147483648) : X7_rowOf σ (nI a) = some (σ, none) := by
  unfold X7_rowOf
  rw [if_neg (nnlt0 h2), if_pos (by rw [nle_l h2 (by decide)]; exact h)]
theorem X7_rowOf_n {σ : Mem} {a : Nat} (h : a < 6) : X7_rowOf σ (nI a) = some (σ, some a) := by
  unfold X7_rowOf
  rw [if_neg (nnlt0 (by omega)), if_neg (by rw [nle_l (by omega) (by decide)]; omega), ck_n h (by decide), ncl (by omega), Nat.zero_add, if_pos (by omega)]
theorem X7_textOf_neg {σ : Mem} {a : Int32} (h : a < 0) : X7_textOf σ a = some (σ, none) := by
  unfold X7_textOf
  rw [if_pos h]
theorem X7_textOf_big {σ : Mem} {a : Nat} (h : 4 ≤ a) (h2 : a < 2147483648) : X7_textOf σ (nI a) = some (σ, none) := by
  unfold X7_textOf
  rw [if_neg (nnlt0 h2), if_pos (by rw [nle_l h2 (by decide)]; exact h)]
theorem X7_textOf_n {σ : Mem} {a : Nat} (h : a < 4) : X7_textOf σ (nI a) = some (σ, some (6 + a)) := by
  unfold X7_textOf
  rw [if_neg (nnlt0 (by omega)), if_neg (by rw [nle_l (by omega) (by decide)]; omega), ck_n h (by decide), ncl (by omega), if_pos (by omega)]
theorem spl_none {β : Type} (b : Nat) (o1 : Option β) (o2 : Nat → Option β) : spl none b o1 o2 = o1 := rfl
theorem spl_some {β : Type} {x b : Nat} (h : x < b) (o1 : Option β) (o2 : Nat → Option β) : spl (some x) b o1 o2 = o2 x := if_pos h
/-- an index is below 0, too large, or a place -/
theorem ix3 (a : Int32) (n : Nat) : a < 0 ∨ (∃ k, n ≤ k ∧ k < 2147483648 ∧ a = nI k) ∨ ∃ k, k < n ∧ k < 2147483648 ∧ a = nI k := by
  rcases i32_cases a with h | ⟨k, h1, h2⟩
  · exact Or.inl h
  · by_cases h : k < n
    · exact Or.inr (Or.inr ⟨k, h, h1, h2⟩)
    · exact Or.inr (Or.inl ⟨k, by omega, h1, h2⟩)
