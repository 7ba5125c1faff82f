def ad0 (a : Nat) (q : Nat → Nat) (a' : Nat) (q' : Nat → Nat) (o : Nat) : Nat := [a, (q 0), (q 1), (q 24), (q 41), (q 42), (q 43), (q 44), (q 45), (q 46), (q 47), (q 48), (q 49), (q 50), (q 51), (q 52), (q 53), (q 54), (q 55), (q 56), (q 57), (q 58), (q 59), (q 60), (q 33), (q 34), (q 2), (q 3), (q 16), (q 17), (q 18), (q 19), (q 20), (q 21), (q 22), (q 23), (q 65), (q 66), (q 67), (q 68), (q 69), (q 70), (q 71), (q 72), (q 77), (q 78), (q 79), (q 80), (q 81), (q 82), (q 83), (q 84), (q 89), (q 90), (q 91), (q 92), (q 93), (q 94), (q 95), (q 96), (q 4), (q 5), (q 6), (q 7), (q 8), (q 9), (q 10), (q 11), (q 38), (q 12), (q 13), (q 14), (q 15), (q 61), (q 62), (q 63), (q 64), (q 73), (q 74), (q 75), (q 76), (q 85), (q 86), (q 87), (q 88), (q 25), (q 26), (q 27), (q 28), (q 29), (q 30), (q 31), (q 32), (q 35), (q 36), (q 37), (q 39), (q 40), a', (q' 0), (q' 1), (q' 2), (q' 3), (q' 4), (q' 5), (q' 6), (q' 7), (q' 8), (q' 9), (q' 10), (q' 11), (q' 12), (q' 13), (q' 14), (q' 15), (q' 16), (q' 17), (q' 18)].getD o 0
def pos0 (o : Nat) : Nat := [23, 22, 21, 20, 79, 78, 77, 76, 75, 74, 73, 72, 71, 70, 69, 68, 67, 66, 65, 64, 63, 62, 61, 60, 87, 86, 117, 116, 103, 102, 101, 100, 99, 98, 97, 96, 55, 54, 53, 52, 51, 50, 49, 48, 43, 42, 41, 40, 39, 38, 37, 36, 31, 30, 29, 28, 27, 26, 25, 24, 115, 114, 113, 112, 111, 110, 109, 108, 82, 107, 106, 105, 104, 59, 58, 57, 56, 47, 46, 45, 44, 35, 34, 33, 32, 95, 94, 93, 92, 91, 90, 89, 88, 85, 84, 83, 81, 80, 19, 18, 17, 16, 15, 14, 13, 12, 11, 10, 9, 8, 7, 6, 5, 4, 3, 2, 1, 0].getD o 0
def I0 (c k j : Nat) : Int32 := if c = 401 then -1 else if c = 102 then -9 else if c = 103 then -9 else if c = 3 then -9 else if c = 4 then -9
  else if c = 805 then (if j = 5 then -9 else if j = 4 then -9 else if j = 3 then -9 else if j = 2 then -9 else if j = 1 then -9 else if j = 0 then -9 else 0)
  else if c = 808 then (if j = 3 then -9 else if j = 2 then -9 else if j = 1 then -9 else if j = 0 then -9 else 0)
  else if c = 829 then (if j = 1454 then -9 else if j = 727 then -9 else if j = 0 then -9 else 0) else 0
def J0 (c k j : Nat) : Int64 := if c = 715 then 1 else if c = 804 then 1 else 0
def R0 (c k j : Nat) : Option Nat := if c = 200 then (if j < 8 then some (8 * k + j) else none) else none
def σ0 : Mem := (I0, J0, R0)
theorem va_atq {D : va_G} {a : Nat} {cA : ClassId} {n : Nat} {f g : Nat → Option Nat} {H : Heap} (h : va_at D classes (a, .inl (cA, n, .inr (.inr (.inr (.inr f))))) H) (e : ∀ j, j < n → f j = g j) : va_at D classes (a, .inl (cA, n, .inr (.inr (.inr (.inr g))))) H := by
  have h1 : H[a]? = some (vp_cell cA (n, .inr (.inr (.inr (.inr f))))) := h
  show H[a]? = some (vp_cell cA (n, .inr (.inr (.inr (.inr g)))))
  rw [h1, vp_cell_q, vp_cell_q]
  congr 1
  unfold arrV
  congr 2
  funext j
  show va_rf (f j.val) = va_rf (g j.val)
  rw [e j.val j.isLt]
theorem pos_inj : ∀ i, i < 118 → ∀ j, j < 118 → pos0 i = pos0 j → i = j := by decide +kernel
set_option maxRecDepth 100000 in
set_option maxHeartbeats 40000000 in
theorem w0_P0 {D : va_G} {ca : Nat → ClassId} {a a' : Nat} {q q' : Nat → Nat} {H : Heap} (hP : va_P D classes (nw_X8_init a' ca q' ++ nw_X7_init [] a ca q) H) : ∀ o, 0 ≤ o → o < 20 → va_at D classes (ad0 a q a' q' o, cel ca (ad0 a q a' q') σ0 o) H := by
  intro o h1 h2
  obtain ⟨o, rfl⟩ : ∃ k, o = 0 + k := ⟨o - 0, by omega⟩
  have h3 : o < 20 := by omega
  clear h1 h2
  match o, h3 with
  | 0, _ => exact hP 23 _ rfl
  | 1, _ => exact va_atq (hP 22 _ rfl) (fun j hj => by have hj : j < 6 := hj; match j, hj with | 0, _ | 1, _ | 2, _ | 3, _ | 4, _ | 5, _ => rfl | n + 6, h => omega)
  | 2, _ => exact va_atq (hP 21 _ rfl) (fun j hj => by have hj : j < 4 := hj; match j, hj with | 0, _ | 1, _ | 2, _ | 3, _ => rfl | n + 4, h => omega)
  | 3, _ => exact va_atq (hP 20 _ rfl) (fun j hj => by have hj : j < 3 := hj; match j, hj with | 0, _ | 1, _ | 2, _ => rfl | n + 3, h => omega)
  | 4, _ => exact hP 79 _ rfl
  | 5, _ => exact hP 78 _ rfl
  | 6, _ => exact hP 77 _ rfl
  | 7, _ => exact hP 76 _ rfl
  | 8, _ => exact hP 75 _ rfl
  | 9, _ => exact hP 74 _ rfl
  | 10, _ => exact hP 73 _ rfl
  | 11, _ => exact hP 72 _ rfl
  | 12, _ => exact hP 71 _ rfl
  | 13, _ => exact hP 70 _ rfl
  | 14, _ => exact hP 69 _ rfl
  | 15, _ => exact hP 68 _ rfl
  | 16, _ => exact hP 67 _ rfl
  | 17, _ => exact hP 66 _ rfl
  | 18, _ => exact hP 65 _ rfl
  | 19, _ => exact hP 64 _ rfl
  | n + 20, h => omega
set_option maxRecDepth 100000 in
set_option maxHeartbeats 40000000 in
theorem w0_P1 {D : va_G} {ca : Nat → ClassId} {a a' : Nat} {q q' : Nat → Nat} {H : Heap} (hP : va_P D classes (nw_X8_init a' ca q' ++ nw_X7_init [] a ca q) H) : ∀ o, 20 ≤ o → o < 40 → va_at D classes (ad0 a q a' q' o, cel ca (ad0 a q a' q') σ0 o) H := by
  intro o h1 h2
  obtain ⟨o, rfl⟩ : ∃ k, o = 20 + k := ⟨o - 20, by omega⟩
  have h3 : o < 20 := by omega
  clear h1 h2
  match o, h3 with
  | 0, _ => exact hP 63 _ rfl
  | 1, _ => exact hP 62 _ rfl
  | 2, _ => exact hP 61 _ rfl
  | 3, _ => exact hP 60 _ rfl
  | 4, _ => exact hP 87 _ rfl
  | 5, _ => exact hP 86 _ rfl
  | 6, _ => exact hP 117 _ rfl
  | 7, _ => exact va_atq (hP 116 _ rfl) (fun j hj => by have hj : j < 8 := hj; match j, hj with | 0, _ | 1, _ | 2, _ | 3, _ | 4, _ | 5, _ | 6, _ | 7, _ => rfl | n + 8, h => omega)
  | 8, _ => exact hP 103 _ rfl
  | 9, _ => exact hP 102 _ rfl
  | 10, _ => exact hP 101 _ rfl
  | 11, _ => exact hP 100 _ rfl
  | 12, _ => exact hP 99 _ rfl
  | 13, _ => exact hP 98 _ rfl
  | 14, _ => exact hP 97 _ rfl
  | 15, _ => exact hP 96 _ rfl
  | 16, _ => exact hP 55 _ rfl
  | 17, _ => exact hP 54 _ rfl
  | 18, _ => exact hP 53 _ rfl
  | 19, _ => exact hP 52 _ rfl
  | n + 20, h => omega
set_option maxRecDepth 100000 in
set_option maxHeartbeats 40000000 in
theorem w0_P2 {D : va_G} {ca : Nat → ClassId} {a a' : Nat} {q q' : Nat → Nat} {H : Heap} (hP : va_P D classes (nw_X8_init a' ca q' ++ nw_X7_init [] a ca q) H) : ∀ o, 40 ≤ o → o < 60 → va_at D classes (ad0 a q a' q' o, cel ca (ad0 a q a' q') σ0 o) H := by
  intro o h1 h2
  obtain ⟨o, rfl⟩ : ∃ k, o = 40 + k := ⟨o - 40, by omega⟩
  have h3 : o < 20 := by omega
  clear h1 h2
  match o, h3 with
  | 0, _ => exact hP 51 _ rfl
  | 1, _ => exact hP 50 _ rfl
  | 2, _ => exact hP 49 _ rfl
  | 3, _ => exact hP 48 _ rfl
  | 4, _ => exact hP 43 _ rfl
  | 5, _ => exact hP 42 _ rfl
  | 6, _ => exact hP 41 _ rfl
  | 7, _ => exact hP 40 _ rfl
  | 8, _ => exact hP 39 _ rfl
  | 9, _ => exact hP 38 _ rfl
  | 10, _ => exact hP 37 _ rfl
  | 11, _ => exact hP 36 _ rfl
  | 12, _ => exact hP 31 _ rfl
  | 13, _ => exact hP 30 _ rfl
  | 14, _ => exact hP 29 _ rfl
  | 15, _ => exact hP 28 _ rfl
  | 16, _ => exact hP 27 _ rfl
  | 17, _ => exact hP 26 _ rfl
  | 18, _ => exact hP 25 _ rfl
  | 19, _ => exact hP 24 _ rfl
  | n + 20, h => omega
set_option maxRecDepth 100000 in
set_option maxHeartbeats 40000000 in
theorem w0_P3 {D : va_G} {ca : Nat → ClassId} {a a' : Nat} {q q' : Nat → Nat} {H : Heap} (hP : va_P D classes (nw_X8_init a' ca q' ++ nw_X7_init [] a ca q) H) : ∀ o, 60 ≤ o → o < 80 → va_at D classes (ad0 a q a' q' o, cel ca (ad0 a q a' q') σ0 o) H := by
  intro o h1 h2
  obtain ⟨o, rfl⟩ : ∃ k, o = 60 + k := ⟨o - 60, by omega⟩
  have h3 : o < 20 := by omega
  clear h1 h2
  match o, h3 with
  | 0, _ => exact hP 115 _ rfl
  | 1, _ => exact hP 114 _ rfl
  | 2, _ => exact hP 113 _ rfl
  | 3, _ => exact hP 112 _ rfl
  | 4, _ => exact hP 111 _ rfl
  | 5, _ => exact hP 110 _ rfl
  | 6, _ => exact hP 109 _ rfl
  | 7, _ => exact hP 108 _ rfl
  | 8, _ => exact hP 82 _ rfl
  | 9, _ => exact hP 107 _ rfl
  | 10, _ => exact va_atq (hP 106 _ rfl) (fun j hj => by have hj : j < 8 := hj; match j, hj with | 0, _ | 1, _ | 2, _ | 3, _ | 4, _ | 5, _ | 6, _ | 7, _ => rfl | n + 8, h => omega)
  | 11, _ => exact hP 105 _ rfl
  | 12, _ => exact hP 104 _ rfl
  | 13, _ => exact hP 59 _ rfl
  | 14, _ => exact va_atq (hP 58 _ rfl) (fun j hj => by have hj : j < 8 := hj; match j, hj with | 0, _ | 1, _ | 2, _ | 3, _ | 4, _ | 5, _ | 6, _ | 7, _ => rfl | n + 8, h => omega)
  | 15, _ => exact hP 57 _ rfl
  | 16, _ => exact hP 56 _ rfl
  | 17, _ => exact hP 47 _ rfl
  | 18, _ => exact va_atq (hP 46 _ rfl) (fun j hj => by have hj : j < 8 := hj; match j, hj with | 0, _ | 1, _ | 2, _ | 3, _ | 4, _ | 5, _ | 6, _ | 7, _ => rfl | n + 8, h => omega)
  | 19, _ => exact hP 45 _ rfl
  | n + 20, h => omega
set_option maxRecDepth 100000 in
set_option maxHeartbeats 40000000 in
theorem w0_P4 {D : va_G} {ca : Nat → ClassId} {a a' : Nat} {q q' : Nat → Nat} {H : Heap} (hP : va_P D classes (nw_X8_init a' ca q' ++ nw_X7_init [] a ca q) H) : ∀ o, 80 ≤ o → o < 100 → va_at D classes (ad0 a q a' q' o, cel ca (ad0 a q a' q') σ0 o) H := by
  intro o h1 h2
  obtain ⟨o, rfl⟩ : ∃ k, o = 80 + k := ⟨o - 80, by omega⟩
  have h3 : o < 20 := by omega
  clear h1 h2
  match o, h3 with
  | 0, _ => exact hP 44 _ rfl
  | 1, _ => exact hP 35 _ rfl
  | 2, _ => exact va_atq (hP 34 _ rfl) (fun j hj => by have hj : j < 8 := hj; match j, hj with | 0, _ | 1, _ | 2, _ | 3, _ | 4, _ | 5, _ | 6, _ | 7, _ => rfl | n + 8, h => omega)
  | 3, _ => exact hP 33 _ rfl
  | 4, _ => exact hP 32 _ rfl
  | 5, _ => exact hP 95 _ rfl
  | 6, _ => exact hP 94 _ rfl
  | 7, _ => exact hP 93 _ rfl
  | 8, _ => exact hP 92 _ rfl
  | 9, _ => exact hP 91 _ rfl
  | 10, _ => exact hP 90 _ rfl
  | 11, _ => exact hP 89 _ rfl
  | 12, _ => exact hP 88 _ rfl
  | 13, _ => exact hP 85 _ rfl
  | 14, _ => exact hP 84 _ rfl
  | 15, _ => exact hP 83 _ rfl
  | 16, _ => exact hP 81 _ rfl
  | 17, _ => exact hP 80 _ rfl
  | 18, _ => exact hP 19 _ rfl
  | 19, _ => exact hP 18 _ rfl
  | n + 20, h => omega
set_option maxRecDepth 100000 in
set_option maxHeartbeats 40000000 in
theorem w0_P5 {D : va_G} {ca : Nat → ClassId} {a a' : Nat} {q q' : Nat → Nat} {H : Heap} (hP : va_P D classes (nw_X8_init a' ca q' ++ nw_X7_init [] a ca q) H) : ∀ o, 100 ≤ o → o < 118 → va_at D classes (ad0 a q a' q' o, cel ca (ad0 a q a' q') σ0 o) H := by
  intro o h1 h2
  obtain ⟨o, rfl⟩ : ∃ k, o = 100 + k := ⟨o - 100, by omega⟩
  have h3 : o < 18 := by omega
  clear h1 h2
  match o, h3 with
  | 0, _ => exact hP 17 _ rfl
  | 1, _ => exact hP 16 _ rfl
  | 2, _ => exact hP 15 _ rfl
  | 3, _ => exact hP 14 _ rfl
  | 4, _ => exact hP 13 _ rfl
  | 5, _ => exact hP 12 _ rfl
  | 6, _ => exact hP 11 _ rfl
  | 7, _ => exact hP 10 _ rfl
  | 8, _ => exact hP 9 _ rfl
  | 9, _ => exact hP 8 _ rfl
  | 10, _ => exact hP 7 _ rfl
  | 11, _ => exact hP 6 _ rfl
  | 12, _ => exact hP 5 _ rfl
  | 13, _ => exact hP 4 _ rfl
  | 14, _ => exact hP 3 _ rfl
  | 15, _ => exact hP 2 _ rfl
  | 16, _ => exact hP 1 _ rfl
  | 17, _ => exact hP 0 _ rfl
  | n + 18, h => omega
theorem w0_P {D : va_G} {ca : Nat → ClassId} {a a' : Nat} {q q' : Nat → Nat} {H : Heap} (hP : va_P D classes (nw_X8_init a' ca q' ++ nw_X7_init [] a ca q) H) : va_P D classes (wld ca (ad0 a q a' q') σ0) H := by
  intro k x hk
  have hl : k < NO := by
    have := (List.getElem?_eq_some_iff.mp hk).1
    simpa [wld] using this
  rw [wld_at hl] at hk
  cases hk
  have hl2 : k < 118 := hl
  by_cases g0 : k < 20
  · exact w0_P0 hP k (by omega) g0
  by_cases g1 : k < 40
  · exact w0_P1 hP k (by omega) g1
  by_cases g2 : k < 60
  · exact w0_P2 hP k (by omega) g2
  by_cases g3 : k < 80
  · exact w0_P3 hP k (by omega) g3
  by_cases g4 : k < 100
  · exact w0_P4 hP k (by omega) g4
  by_cases g5 : k < 118
  · exact w0_P5 hP k (by omega) g5
  · omega
set_option maxRecDepth 100000 in
set_option maxHeartbeats 40000000 in
theorem w0_A0 {ca : Nat → ClassId} {a a' : Nat} {q q' : Nat → Nat} : ∀ o, o < 20 → ∃ e, (nw_X8_init a' ca q' ++ nw_X7_init [] a ca q)[pos0 (0 + o)]? = some (ad0 a q a' q' (0 + o), e) := fun o h => match o, h with
  | 0, _ => ⟨_, rfl⟩
  | 1, _ => ⟨_, rfl⟩
  | 2, _ => ⟨_, rfl⟩
  | 3, _ => ⟨_, rfl⟩
  | 4, _ => ⟨_, rfl⟩
  | 5, _ => ⟨_, rfl⟩
  | 6, _ => ⟨_, rfl⟩
  | 7, _ => ⟨_, rfl⟩
  | 8, _ => ⟨_, rfl⟩
  | 9, _ => ⟨_, rfl⟩
  | 10, _ => ⟨_, rfl⟩
  | 11, _ => ⟨_, rfl⟩
  | 12, _ => ⟨_, rfl⟩
  | 13, _ => ⟨_, rfl⟩
  | 14, _ => ⟨_, rfl⟩
  | 15, _ => ⟨_, rfl⟩
  | 16, _ => ⟨_, rfl⟩
  | 17, _ => ⟨_, rfl⟩
  | 18, _ => ⟨_, rfl⟩
  | 19, _ => ⟨_, rfl⟩
  | n + 20, h => absurd h (by omega)
set_option maxRecDepth 100000 in
set_option maxHeartbeats 40000000 in
theorem w0_A1 {ca : Nat → ClassId} {a a' : Nat} {q q' : Nat → Nat} : ∀ o, o < 20 → ∃ e, (nw_X8_init a' ca q' ++ nw_X7_init [] a ca q)[pos0 (20 + o)]? = some (ad0 a q a' q' (20 + o), e) := fun o h => match o, h with
  | 0, _ => ⟨_, rfl⟩
  | 1, _ => ⟨_, rfl⟩
  | 2, _ => ⟨_, rfl⟩
  | 3, _ => ⟨_, rfl⟩
  | 4, _ => ⟨_, rfl⟩
  | 5, _ => ⟨_, rfl⟩
  | 6, _ => ⟨_, rfl⟩
  | 7, _ => ⟨_, rfl⟩
  | 8, _ => ⟨_, rfl⟩
  | 9, _ => ⟨_, rfl⟩
  | 10, _ => ⟨_, rfl⟩
  | 11, _ => ⟨_, rfl⟩
  | 12, _ => ⟨_, rfl⟩
  | 13, _ => ⟨_, rfl⟩
  | 14, _ => ⟨_, rfl⟩
  | 15, _ => ⟨_, rfl⟩
  | 16, _ => ⟨_, rfl⟩
  | 17, _ => ⟨_, rfl⟩
  | 18, _ => ⟨_, rfl⟩
  | 19, _ => ⟨_, rfl⟩
  | n + 20, h => absurd h (by omega)
set_option maxRecDepth 100000 in
set_option maxHeartbeats 40000000 in
theorem w0_A2 {ca : Nat → ClassId} {a a' : Nat} {q q' : Nat → Nat} : ∀ o, o < 20 → ∃ e, (nw_X8_init a' ca q' ++ nw_X7_init [] a ca q)[pos0 (40 + o)]? = some (ad0 a q a' q' (40 + o), e) := fun o h => match o, h with
  | 0, _ => ⟨_, rfl⟩
  | 1, _ => ⟨_, rfl⟩
  | 2, _ => ⟨_, rfl⟩
  | 3, _ => ⟨_, rfl⟩
  | 4, _ => ⟨_, rfl⟩
  | 5, _ => ⟨_, rfl⟩
  | 6, _ => ⟨_, rfl⟩
  | 7, _ => ⟨_, rfl⟩
  | 8, _ => ⟨_, rfl⟩
  | 9, _ => ⟨_, rfl⟩
  | 10, _ => ⟨_, rfl⟩
  | 11, _ => ⟨_, rfl⟩
  | 12, _ => ⟨_, rfl⟩
  | 13, _ => ⟨_, rfl⟩
  | 14, _ => ⟨_, rfl⟩
  | 15, _ => ⟨_, rfl⟩
  | 16, _ => ⟨_, rfl⟩
  | 17, _ => ⟨_, rfl⟩
  | 18, _ => ⟨_, rfl⟩
  | 19, _ => ⟨_, rfl⟩
  | n + 20, h => absurd h (by omega)
set_option maxRecDepth 100000 in
set_option maxHeartbeats 40000000 in
theorem w0_A3 {ca : Nat → ClassId} {a a' : Nat} {q q' : Nat → Nat} : ∀ o, o < 20 → ∃ e, (nw_X8_init a' ca q' ++ nw_X7_init [] a ca q)[pos0 (60 + o)]? = some (ad0 a q a' q' (60 + o), e) := fun o h => match o, h with
  | 0, _ => ⟨_, rfl⟩
  | 1, _ => ⟨_, rfl⟩
  | 2, _ => ⟨_, rfl⟩
  | 3, _ => ⟨_, rfl⟩
  | 4, _ => ⟨_, rfl⟩
  | 5, _ => ⟨_, rfl⟩
  | 6, _ => ⟨_, rfl⟩
  | 7, _ => ⟨_, rfl⟩
  | 8, _ => ⟨_, rfl⟩
  | 9, _ => ⟨_, rfl⟩
  | 10, _ => ⟨_, rfl⟩
  | 11, _ => ⟨_, rfl⟩
  | 12, _ => ⟨_, rfl⟩
  | 13, _ => ⟨_, rfl⟩
  | 14, _ => ⟨_, rfl⟩
  | 15, _ => ⟨_, rfl⟩
  | 16, _ => ⟨_, rfl⟩
  | 17, _ => ⟨_, rfl⟩
  | 18, _ => ⟨_, rfl⟩
  | 19, _ => ⟨_, rfl⟩
  | n + 20, h => absurd h (by omega)
set_option maxRecDepth 100000 in
set_option maxHeartbeats 40000000 in
theorem w0_A4 {ca : Nat → ClassId} {a a' : Nat} {q q' : Nat → Nat} : ∀ o, o < 20 → ∃ e, (nw_X8_init a' ca q' ++ nw_X7_init [] a ca q)[pos0 (80 + o)]? = some (ad0 a q a' q' (80 + o), e) := fun o h => match o, h with
  | 0, _ => ⟨_, rfl⟩
  | 1, _ => ⟨_, rfl⟩
  | 2, _ => ⟨_, rfl⟩
  | 3, _ => ⟨_, rfl⟩
  | 4, _ => ⟨_, rfl⟩
  | 5, _ => ⟨_, rfl⟩
  | 6, _ => ⟨_, rfl⟩
  | 7, _ => ⟨_, rfl⟩
  | 8, _ => ⟨_, rfl⟩
  | 9, _ => ⟨_, rfl⟩
  | 10, _ => ⟨_, rfl⟩
  | 11, _ => ⟨_, rfl⟩
  | 12, _ => ⟨_, rfl⟩
  | 13, _ => ⟨_, rfl⟩
  | 14, _ => ⟨_, rfl⟩
  | 15, _ => ⟨_, rfl⟩
  | 16, _ => ⟨_, rfl⟩
  | 17, _ => ⟨_, rfl⟩
  | 18, _ => ⟨_, rfl⟩
  | 19, _ => ⟨_, rfl⟩
  | n + 20, h => absurd h (by omega)
set_option maxRecDepth 100000 in
set_option maxHeartbeats 40000000 in
theorem w0_A5 {ca : Nat → ClassId} {a a' : Nat} {q q' : Nat → Nat} : ∀ o, o < 18 → ∃ e, (nw_X8_init a' ca q' ++ nw_X7_init [] a ca q)[pos0 (100 + o)]? = some (ad0 a q a' q' (100 + o), e) := fun o h => match o, h with
  | 0, _ => ⟨_, rfl⟩
  | 1, _ => ⟨_, rfl⟩
  | 2, _ => ⟨_, rfl⟩
  | 3, _ => ⟨_, rfl⟩
  | 4, _ => ⟨_, rfl⟩
  | 5, _ => ⟨_, rfl⟩
  | 6, _ => ⟨_, rfl⟩
  | 7, _ => ⟨_, rfl⟩
  | 8, _ => ⟨_, rfl⟩
  | 9, _ => ⟨_, rfl⟩
  | 10, _ => ⟨_, rfl⟩
  | 11, _ => ⟨_, rfl⟩
  | 12, _ => ⟨_, rfl⟩
  | 13, _ => ⟨_, rfl⟩
  | 14, _ => ⟨_, rfl⟩
  | 15, _ => ⟨_, rfl⟩
  | 16, _ => ⟨_, rfl⟩
  | 17, _ => ⟨_, rfl⟩
  | n + 18, h => absurd h (by omega)
theorem w0_A (ca : Nat → ClassId) (a a' : Nat) (q q' : Nat → Nat) (o : Nat) (ho : o < 118) : ∃ e, (nw_X8_init a' ca q' ++ nw_X7_init [] a ca q)[pos0 o]? = some (ad0 a q a' q' o, e) := by
  by_cases g0 : o < 20
  · have := w0_A0 (ca := ca) (a := a) (a' := a') (q := q) (q' := q') (o - 0) (by omega)
    rwa [show 0 + (o - 0) = o by omega] at this
  by_cases g1 : o < 40
  · have := w0_A1 (ca := ca) (a := a) (a' := a') (q := q) (q' := q') (o - 20) (by omega)
    rwa [show 20 + (o - 20) = o by omega] at this
  by_cases g2 : o < 60
  · have := w0_A2 (ca := ca) (a := a) (a' := a') (q := q) (q' := q') (o - 40) (by omega)
    rwa [show 40 + (o - 40) = o by omega] at this
  by_cases g3 : o < 80
  · have := w0_A3 (ca := ca) (a := a) (a' := a') (q := q) (q' := q') (o - 60) (by omega)
    rwa [show 60 + (o - 60) = o by omega] at this
  by_cases g4 : o < 100
  · have := w0_A4 (ca := ca) (a := a) (a' := a') (q := q) (q' := q') (o - 80) (by omega)
    rwa [show 80 + (o - 80) = o by omega] at this
  by_cases g5 : o < 118
  · have := w0_A5 (ca := ca) (a := a) (a' := a') (q := q) (q' := q') (o - 100) (by omega)
    rwa [show 100 + (o - 100) = o by omega] at this
  · omega
theorem w0_D {A : Nat → Prop} {ca : Nat → ClassId} {a a' : Nat} {q q' : Nat → Nat} (hD : va_D A (nw_X8_init a' ca q' ++ nw_X7_init [] a ca q)) (σ : Mem) : va_D (AD (ad0 a q a' q')) (wld ca (ad0 a q a' q') σ) := by
  have key : ∀ (k : Nat) (x : Nat × va_E), (wld ca (ad0 a q a' q') σ)[k]? = some x → k < 118 ∧ x.1 = ad0 a q a' q' k := by
    intro k x hk
    have hl : k < NO := by
      have := (List.getElem?_eq_some_iff.mp hk).1
      simpa [wld] using this
    rw [wld_at hl] at hk
    cases hk
    exact ⟨hl, rfl⟩
  refine ⟨fun i j x y hi hj e => ?_, fun k x hk => ?_⟩
  · obtain ⟨h1, h2⟩ := key i x hi
    obtain ⟨h3, h4⟩ := key j y hj
    obtain ⟨e1, g1⟩ := w0_A ca a a' q q' i h1
    obtain ⟨e2, g2⟩ := w0_A ca a a' q q' j h3
    exact pos_inj i h1 j h3 (hD.1 _ _ _ _ g1 g2 (by rw [← h2, ← h4, e]))
  · obtain ⟨h1, h2⟩ := key k x hk
    exact ⟨k, h1, h2.symm⟩
theorem w0_B {A : Nat → Prop} {ca : Nat → ClassId} {a a' : Nat} {q q' : Nat → Nat} (hD : va_D A (nw_X8_init a' ca q' ++ nw_X7_init [] a ca q)) : ∀ x, AD (ad0 a q a' q') x → A x := by
  rintro x ⟨o, ho, rfl⟩
  obtain ⟨e1, g1⟩ := w0_A ca a a' q q' o ho
  exact hD.2 _ _ g1
