def ck {α : Type} (i : Int32) (n : Nat) (o : Option α) : Option α := if i < 0 ∨ n ≤ i.toNatClampNeg then none else o
def FL (ow : String) (idx : Nat) (rf n d : String) : Prop := Cond.fieldLink ow idx rf n d ∈ tb ∨ ∃ host, Cond.fieldLinkNest ow idx rf n d host ∈ nestW
def ML (ow : String) (idx : Nat) (y : MethodName) : Prop := Cond.methodLink ow idx y ∈ tb ∨ ∃ host, Cond.methodLinkNest ow idx y host ∈ nestW
theorem nest_tab : nestW.all Cond.onTables = true := by decide +kernel
theorem nest_on {w : Cond} (h : w ∈ nestW) : w.onTables = true := List.all_eq_true.mp nest_tab w h
section ROWS
variable {ρ : Type} {K : Mem × ρ → State → Prop} {X : GX} {M : MI} {σ : Mem} {pc pc' : Nat} {lv : List (Nat × Value)} {st : List Value} {o : Option (Mem × ρ)}
theorem g_getA {b ci N idx : Nat} {fl : List (Nat × Nat × Nat)} {C : String} {T : u_T} (hs : shp b = .inl (ci, fl)) (hb : b < NO) (hc : classes[ci]? = some (C, T, N)) (hin : ∀ w ∈ u_ws C T N, w ∈ tb) (j : Nat) (hj : j < N) {q : Nat × Nat × Nat} (hq : fl[j]? = some q) {v : Value} (hv : fv (xad X) σ q = v) (lk : FL M.2.2.1 idx (T j).1 (T j).2.1 (T j).2.2.1) (d : At M.1 pc (.getfield idx) 3 pc') (kk : GS K X M σ pc' lv (v :: st) o) : GS K X M σ pc lv (.ref (xad X b) :: st) o := by
  obtain ⟨p, l, e, s, m, args, below, meth, c, D, ca, ad, t1, t2, cs, sl⟩ := X
  obtain ⟨d1, rfl⟩ := d
  intro out ho F H locs ls hP hS hl
  have hw : (wld ca ad σ)[b]? = some (ad b, .inr (ci, fl.map (fv ad σ))) := by rw [wld_at hb, cel_o hs]
  have hv' : (fl.map (fv ad σ))[j]? = some v := by rw [List.getElem?_map, hq]; exact congrArg some hv
  rcases lk with lk | ⟨host, lk⟩
  · exact va_get F.1 F.2.1 F.2.2.2.2.1 hin F.2.2.2.1 F.2.2.2.2.2.1 hP b hw hc j hj (F.2.2.2.2.1 _ lk) (fun _ h => h) hv' d1 (kk out ho F H locs ls hP hS hl)
  · exact va_getN F.1 F.2.1 F.2.2.2.2.1 hin F.2.2.2.1 F.2.2.2.2.2.1 hP b hw hc j hj (va_Nw.use (nest_on lk) (F.2.2.2.2.2.2.1 _ lk)) (fun _ h => h) hv' d1 (kk out ho F H locs ls hP hS hl)
theorem g_putA {b ci N idx : Nat} {fl : List (Nat × Nat × Nat)} {C : String} {T : u_T} {ty0 : Nat → FieldType} (hs : shp b = .inl (ci, fl)) (hb : b < NO) (hc : classes[ci]? = some (C, T, N)) (hin : ∀ w ∈ u_ws C T N, w ∈ tb) (hty : ∀ k, k < N → parseFieldDescriptor (T k).2.2.1 = some (ty0 k)) (hnm : ∀ a, a < N → ∀ b, b < N → a ≠ b → (T a).2.1 ≠ (T b).2.1) (j : Nat) (hj : j < N) (hfin : (T j).2.2.2 = false) {v : Value} (hn : narrow (ty0 j) v = v) (hfit : fits (ty0 j) v = true) (hjl : j < fl.length) {σ' : Mem} (hσ : ∀ ca ad, ad = xad X → (wld ca ad σ).set b (ad b, .inr (ci, (fl.map (fv ad σ)).set j v)) = wld ca ad σ') (lk : FL M.2.2.1 idx (T j).1 (T j).2.1 (T j).2.2.1) (d : At M.1 pc (.putfield idx) 3 pc') (kk : GS K X M σ' pc' lv st o) : GS K X M σ pc lv (v :: .ref (xad X b) :: st) o := by
  obtain ⟨p, l, e, s, m, args, below, meth, c, D, ca, ad, t1, t2, cs, sl⟩ := X
  obtain ⟨d1, rfl⟩ := d
  intro out ho F H locs ls hP hS hl
  have hw : (wld ca ad σ)[b]? = some (ad b, .inr (ci, fl.map (fv ad σ))) := by rw [wld_at hb, cel_o hs]
  have hD : va_D (AD ad) (wld ca ad σ) := F.2.2.2.2.2.2.2.2.2.2.1 σ
  have h2 := hσ ca ad rfl
  rcases lk with lk | ⟨host, lk⟩
  · exact va_put F.1 F.2.1 F.2.2.2.2.1 hin ty0 hty hnm F.2.2.2.1 F.2.2.2.2.2.1 hP hD hS b hw hc j hj (F.2.2.2.2.1 _ lk) (fun _ h => h) hfin (hty j hj) hn hfit (by simpa using hjl) d1 (fun H1 locs1 hP1 _ hS1 => kk out ho F H1 locs1 ls (by rw [h2] at hP1; exact hP1) hS1 hl)
  · exact va_putN F.1 F.2.1 F.2.2.2.2.1 hin ty0 hty hnm F.2.2.2.1 F.2.2.2.2.2.1 hP hD hS b hw hc j hj (va_Nw.use (nest_on lk) (F.2.2.2.2.2.2.1 _ lk)) (fun _ h => h) hfin (hty j hj) hn hfit (by simpa using hjl) d1 (fun H1 locs1 hP1 _ hS1 => kk out ho F H1 locs1 ls (by rw [h2] at hP1; exact hP1) hS1 hl)
theorem g_iald {b n c k : Nat} {i : Int32} (hs : shp b = .inr (0, n, c, k)) (hb : b < NO) (d : At M.1 pc .iaload 1 pc') (kk : ¬ (i < 0 ∨ n ≤ i.toNatClampNeg) → GS K X M σ pc' lv (.int (σ.1 c k i.toNatClampNeg) :: st) o) : GS K X M σ pc lv (.int i :: .ref (xad X b) :: st) (ck i n o) := by
  obtain ⟨p, l, e, s, m, args, below, meth, cd, D, ca, ad, t1, t2, cs, sl⟩ := X
  obtain ⟨d1, rfl⟩ := d
  intro out ho F H locs ls hP hS hl
  have hi : ¬ (i < 0 ∨ n ≤ i.toNatClampNeg) := fun h => by rw [ck, if_pos h] at ho; cases ho
  rw [ck, if_neg hi] at ho
  exact va_iald F.1 F.2.1 F.2.2.2.2.2.1 hP b 0 (by rw [wld_at hb, cel_a hs]; rfl) rfl hi d1 (kk hi out ho F H locs ls hP hS hl)
theorem g_zald {b n c k : Nat} {i : Int32} (hs : shp b = .inr (2, n, c, k)) (hb : b < NO) (d : At M.1 pc .baload 1 pc') (kk : ¬ (i < 0 ∨ n ≤ i.toNatClampNeg) → GS K X M σ pc' lv (.int (σ.1 c k i.toNatClampNeg) :: st) o) : GS K X M σ pc lv (.int i :: .ref (xad X b) :: st) (ck i n o) := by
  obtain ⟨p, l, e, s, m, args, below, meth, cd, D, ca, ad, t1, t2, cs, sl⟩ := X
  obtain ⟨d1, rfl⟩ := d
  intro out ho F H locs ls hP hS hl
  have hi : ¬ (i < 0 ∨ n ≤ i.toNatClampNeg) := fun h => by rw [ck, if_pos h] at ho; cases ho
  rw [ck, if_neg hi] at ho
  exact va_zald F.1 F.2.1 F.2.2.2.2.2.1 hP b 2 (by rw [wld_at hb, cel_a hs]; rfl) rfl hi d1 (kk hi out ho F H locs ls hP hS hl)
theorem g_lald {b n c k : Nat} {i : Int32} (hs : shp b = .inr (1, n, c, k)) (hb : b < NO) (d : At M.1 pc .laload 1 pc') (kk : ¬ (i < 0 ∨ n ≤ i.toNatClampNeg) → GS K X M σ pc' lv (.long (σ.2.1 c k i.toNatClampNeg) :: st) o) : GS K X M σ pc lv (.int i :: .ref (xad X b) :: st) (ck i n o) := by
  obtain ⟨p, l, e, s, m, args, below, meth, cd, D, ca, ad, t1, t2, cs, sl⟩ := X
  obtain ⟨d1, rfl⟩ := d
  intro out ho F H locs ls hP hS hl
  have hi : ¬ (i < 0 ∨ n ≤ i.toNatClampNeg) := fun h => by rw [ck, if_pos h] at ho; cases ho
  rw [ck, if_neg hi] at ho
  exact va_lald F.1 F.2.1 F.2.2.2.2.2.1 hP b 1 (by rw [wld_at hb, cel_a hs]; rfl) rfl hi d1 (kk hi out ho F H locs ls hP hS hl)
/-- references: of rows, of laws that may change, of presses, of laws that don't -/
theorem g_ald3 {b n c k : Nat} {i : Int32} (hs : shp b = .inr (3, n, c, k)) (hb : b < NO) (d : At M.1 pc .aaload 1 pc') (kk : ¬ (i < 0 ∨ n ≤ i.toNatClampNeg) → GS K X M σ pc' lv (.ref (xad X (4 + 2 * (k + i.toNatClampNeg))) :: st) o) : GS K X M σ pc lv (.int i :: .ref (xad X b) :: st) (ck i n o) := by
  obtain ⟨p, l, e, s, m, args, below, meth, cd, D, ca, ad, t1, t2, cs, sl⟩ := X
  obtain ⟨d1, rfl⟩ := d
  intro out ho F H locs ls hP hS hl
  have hi : ¬ (i < 0 ∨ n ≤ i.toNatClampNeg) := fun h => by rw [ck, if_pos h] at ho; cases ho
  rw [ck, if_neg hi] at ho
  exact va_aldq F.1 F.2.1 F.2.2.2.2.2.1 hP b 3 (C := RX4) (f := fun j => some (ad (4 + 2 * (k + j)))) (by rw [wld_at hb, cel_a hs]; rfl) rfl hi d1 (kk hi out ho F H locs ls hP hS hl)
theorem g_ald4 {b n c k : Nat} {i : Int32} (hs : shp b = .inr (4, n, c, k)) (hb : b < NO) (d : At M.1 pc .aaload 1 pc') (kk : ¬ (i < 0 ∨ n ≤ i.toNatClampNeg) → GS K X M σ pc' lv (va_rf ((σ.2.2 c k i.toNatClampNeg).map (fun x => xad X (28 + x))) :: st) o) : GS K X M σ pc lv (.int i :: .ref (xad X b) :: st) (ck i n o) := by
  obtain ⟨p, l, e, s, m, args, below, meth, cd, D, ca, ad, t1, t2, cs, sl⟩ := X
  obtain ⟨d1, rfl⟩ := d
  intro out ho F H locs ls hP hS hl
  have hi : ¬ (i < 0 ∨ n ≤ i.toNatClampNeg) := fun h => by rw [ck, if_pos h] at ho; cases ho
  rw [ck, if_neg hi] at ho
  exact va_aldq F.1 F.2.1 F.2.2.2.2.2.1 hP b 4 (C := RX1) (by rw [wld_at hb, cel_a hs]; rfl) rfl hi d1 (kk hi out ho F H locs ls hP hS hl)
theorem g_ald5 {b n c k : Nat} {i : Int32} (hs : shp b = .inr (5, n, c, k)) (hb : b < NO) (d : At M.1 pc .aaload 1 pc') (kk : ¬ (i < 0 ∨ n ≤ i.toNatClampNeg) → GS K X M σ pc' lv (.ref (xad X (69 + 4 * (k + i.toNatClampNeg))) :: st) o) : GS K X M σ pc lv (.int i :: .ref (xad X b) :: st) (ck i n o) := by
  obtain ⟨p, l, e, s, m, args, below, meth, cd, D, ca, ad, t1, t2, cs, sl⟩ := X
  obtain ⟨d1, rfl⟩ := d
  intro out ho F H locs ls hP hS hl
  have hi : ¬ (i < 0 ∨ n ≤ i.toNatClampNeg) := fun h => by rw [ck, if_pos h] at ho; cases ho
  rw [ck, if_neg hi] at ho
  exact va_aldq F.1 F.2.1 F.2.2.2.2.2.1 hP b 5 (C := RX2) (f := fun j => some (ad (69 + 4 * (k + j)))) (by rw [wld_at hb, cel_a hs]; rfl) rfl hi d1 (kk hi out ho F H locs ls hP hS hl)
theorem g_ald6 {b n c k : Nat} {i : Int32} (hs : shp b = .inr (6, n, c, k)) (hb : b < NO) (d : At M.1 pc .aaload 1 pc') (kk : ¬ (i < 0 ∨ n ≤ i.toNatClampNeg) → GS K X M σ pc' lv (.ref (xad X (28 + (k + i.toNatClampNeg))) :: st) o) : GS K X M σ pc lv (.int i :: .ref (xad X b) :: st) (ck i n o) := by
  obtain ⟨p, l, e, s, m, args, below, meth, cd, D, ca, ad, t1, t2, cs, sl⟩ := X
  obtain ⟨d1, rfl⟩ := d
  intro out ho F H locs ls hP hS hl
  have hi : ¬ (i < 0 ∨ n ≤ i.toNatClampNeg) := fun h => by rw [ck, if_pos h] at ho; cases ho
  rw [ck, if_neg hi] at ho
  exact va_aldq F.1 F.2.1 F.2.2.2.2.2.1 hP b 4 (C := RX1) (f := fun j => some (ad (28 + (k + j)))) (by rw [wld_at hb, cel_a hs]; rfl) rfl hi d1 (kk hi out ho F H locs ls hP hS hl)
theorem g_ast4 {b n c k x : Nat} {i : Int32} (hs : shp b = .inr (4, n, c, k)) (hb : b < NO) (hx : x < 41) {fl : List (Nat × Nat × Nat)} (hsx : shp (28 + x) = .inl (1, fl)) (d : At M.1 pc .aastore 1 pc') (kk : ¬ (i < 0 ∨ n ≤ i.toNatClampNeg) → GS K X M (uR σ c k i.toNatClampNeg (some x)) pc' lv st o) : GS K X M σ pc lv (.ref (xad X (28 + x)) :: .int i :: .ref (xad X b) :: st) (ck i n o) := by
  obtain ⟨p, l, e, s, m, args, below, meth, cd, D, ca, ad, t1, t2, cs, sl⟩ := X
  obtain ⟨d1, rfl⟩ := d
  intro out ho F H locs ls hP hS hl
  have hi : ¬ (i < 0 ∨ n ≤ i.toNatClampNeg) := fun h => by rw [ck, if_pos h] at ho; cases ho
  rw [ck, if_neg hi] at ho
  have hD : va_D (AD ad) (wld ca ad σ) := F.2.2.2.2.2.2.2.2.2.2.1 σ
  refine va_astq F.1 F.2.1 F.2.2.2.2.2.1 hP hD hS b 4 (28 + x) 1 (r := (RX1, TX1, 5)) (by rw [wld_at hb, cel_a hs]; rfl) rfl (by rw [wld_at (show 28 + x < NO by unfold NO; omega), cel_o hsx]) rfl hi d1 (fun H1 locs1 hP1 _ hS1 => kk hi out ho F H1 locs1 ls ?_ hS1 hl)
  rw [← wld_arrR hb hs]
  exact hP1
theorem g_iast {b n c k : Nat} {i x : Int32} (hs : shp b = .inr (0, n, c, k)) (hb : b < NO) (d : At M.1 pc .iastore 1 pc') (kk : ¬ (i < 0 ∨ n ≤ i.toNatClampNeg) → GS K X M (uI σ c k i.toNatClampNeg x) pc' lv st o) : GS K X M σ pc lv (.int x :: .int i :: .ref (xad X b) :: st) (ck i n o) := by
  obtain ⟨p, l, e, s, m, args, below, meth, cd, D, ca, ad, t1, t2, cs, sl⟩ := X
  obtain ⟨d1, rfl⟩ := d
  intro out ho F H locs ls hP hS hl
  have hi : ¬ (i < 0 ∨ n ≤ i.toNatClampNeg) := fun h => by rw [ck, if_pos h] at ho; cases ho
  rw [ck, if_neg hi] at ho
  have hD : va_D (AD ad) (wld ca ad σ) := F.2.2.2.2.2.2.2.2.2.2.1 σ
  refine va_iast F.1 F.2.1 F.2.2.2.2.2.1 hP hD hS b 0 (by rw [wld_at hb, cel_a hs]; rfl) rfl hi d1 (fun H1 locs1 hP1 _ hS1 => kk hi out ho F H1 locs1 ls ?_ hS1 hl)
  rw [← aI_upd, ← wld_arrI hb hs (Or.inl rfl)]
  exact hP1
theorem vn_bool {x : Int32} (h : x = 0 ∨ x = 1) : vp_nar .boolean x = x := by rcases h with rfl | rfl <;> rfl
theorem g_zast {b n c k : Nat} {i x : Int32} (hs : shp b = .inr (2, n, c, k)) (hb : b < NO) (d : At M.1 pc .bastore 1 pc') (kk : ¬ (i < 0 ∨ n ≤ i.toNatClampNeg) → GS K X M (uI σ c k i.toNatClampNeg x) pc' lv st o) : GS K X M σ pc lv (.int x :: .int i :: .ref (xad X b) :: st) (if x = 0 ∨ x = 1 then ck i n o else none) := by
  refine g_guard fun hx => ?_
  obtain ⟨p, l, e, s, m, args, below, meth, cd, D, ca, ad, t1, t2, cs, sl⟩ := X
  obtain ⟨d1, rfl⟩ := d
  intro out ho F H locs ls hP hS hl
  have hi : ¬ (i < 0 ∨ n ≤ i.toNatClampNeg) := fun h => by rw [ck, if_pos h] at ho; cases ho
  rw [ck, if_neg hi] at ho
  have hD : va_D (AD ad) (wld ca ad σ) := F.2.2.2.2.2.2.2.2.2.2.1 σ
  refine va_zast F.1 F.2.1 F.2.2.2.2.2.1 hP hD hS b 2 (by rw [wld_at hb, cel_a hs]; rfl) rfl hi d1 (fun H1 locs1 hP1 _ hS1 => kk hi out ho F H1 locs1 ls ?_ hS1 hl)
  rw [← aI_upd, ← wld_arrI hb hs (Or.inr rfl)]
  rw [vn_bool hx] at hP1
  exact hP1
theorem g_last {b n c k : Nat} {i : Int32} {x : Int64} (hs : shp b = .inr (1, n, c, k)) (hb : b < NO) (d : At M.1 pc .lastore 1 pc') (kk : ¬ (i < 0 ∨ n ≤ i.toNatClampNeg) → GS K X M (uJ σ c k i.toNatClampNeg x) pc' lv st o) : GS K X M σ pc lv (.long x :: .int i :: .ref (xad X b) :: st) (ck i n o) := by
  obtain ⟨p, l, e, s, m, args, below, meth, cd, D, ca, ad, t1, t2, cs, sl⟩ := X
  obtain ⟨d1, rfl⟩ := d
  intro out ho F H locs ls hP hS hl
  have hi : ¬ (i < 0 ∨ n ≤ i.toNatClampNeg) := fun h => by rw [ck, if_pos h] at ho; cases ho
  rw [ck, if_neg hi] at ho
  have hD : va_D (AD ad) (wld ca ad σ) := F.2.2.2.2.2.2.2.2.2.2.1 σ
  refine va_last F.1 F.2.1 F.2.2.2.2.2.1 hP hD hS b 1 (by rw [wld_at hb, cel_a hs]; rfl) rfl hi d1 (fun H1 locs1 hP1 _ hS1 => kk hi out ho F H1 locs1 ls ?_ hS1 hl)
  rw [← aJ_upd, ← wld_arrJ hb hs]
  exact hP1
theorem g_alen {b kd n c k : Nat} {v : Int32} (hs : shp b = .inr (kd, n, c, k)) (hb : b < NO) (hk : akc kd < 6) (hv : Int32.ofNat n = v) (d : At M.1 pc .arraylength 1 pc') (kk : GS K X M σ pc' lv (.int v :: st) o) : GS K X M σ pc lv (.ref (xad X b) :: st) o := by
  obtain ⟨p, l, e, s, m, args, below, meth, cd, D, ca, ad, t1, t2, cs, sl⟩ := X
  obtain ⟨d1, rfl⟩ := d
  intro out ho F H locs ls hP hS hl
  have ht : ∀ a, a < 6 → ∃ ty, (tys ca)[a]? = some (ca a, ty) := by
    intro a ha
    rcases (show a = 0 ∨ a = 1 ∨ a = 2 ∨ a = 3 ∨ a = 4 ∨ a = 5 by omega) with rfl | rfl | rfl | rfl | rfl | rfl <;> exact ⟨_, rfl⟩
  obtain ⟨ty, hty⟩ := ht _ hk
  exact va_alen F.1 F.2.1 F.2.2.2.2.2.1 hP b (akc kd) (by rw [wld_at hb, cel_a hs]) hty hv d1 (kk out ho F H locs ls hP hS hl)
/-- the two tables of the class -/
theorem g_gets1 {idx : Nat} (lk : FL M.2.2.1 idx RX7 "LETTERS" "[I") (d : At M.1 pc (.getstatic idx) 3 pc') (kk : GS K X M σ pc' lv (.ref (xt1 X) :: st) o) : GS K X M σ pc lv st o := by
  obtain ⟨p, l, e, s, m, args, below, meth, cd, D, ca, ad, t1, t2, cs, sl⟩ := X
  obtain ⟨d1, rfl⟩ := d
  intro out ho F H locs ls hP hS hl
  rcases lk with lk | ⟨host, lk⟩
  · exact va_gets F.1 F.2.1 F.2.2.2.2.2.2.2.1.1 hS F.2.2.2.1 (F.2.2.2.2.1 _ lk) (fun _ h => h) d1 (kk out ho F H locs ls hP hS hl)
  · exact va_getsN F.1 F.2.1 F.2.2.2.2.2.2.2.1.1 hS F.2.2.2.1 (va_Nw.use (nest_on lk) (F.2.2.2.2.2.2.1 _ lk)) (fun _ h => h) d1 (kk out ho F H locs ls hP hS hl)
theorem g_gets2 {idx : Nat} (lk : FL M.2.2.1 idx RX7 "HAVING" "[J") (d : At M.1 pc (.getstatic idx) 3 pc') (kk : GS K X M σ pc' lv (.ref (xt2 X) :: st) o) : GS K X M σ pc lv st o := by
  obtain ⟨p, l, e, s, m, args, below, meth, cd, D, ca, ad, t1, t2, cs, sl⟩ := X
  obtain ⟨d1, rfl⟩ := d
  intro out ho F H locs ls hP hS hl
  rcases lk with lk | ⟨host, lk⟩
  · exact va_gets F.1 F.2.1 F.2.2.2.2.2.2.2.1.2.2.1 hS F.2.2.2.1 (F.2.2.2.2.1 _ lk) (fun _ h => h) d1 (kk out ho F H locs ls hP hS hl)
  · exact va_getsN F.1 F.2.1 F.2.2.2.2.2.2.2.1.2.2.1 hS F.2.2.2.1 (va_Nw.use (nest_on lk) (F.2.2.2.2.2.2.1 _ lk)) (fun _ h => h) d1 (kk out ho F H locs ls hP hS hl)
theorem g_tald1 {i : Int32} (d : At M.1 pc .iaload 1 pc') (kk : ¬ (i < 0 ∨ 6 ≤ i.toNatClampNeg) → GS K X M σ pc' lv (.int (LTV i.toNatClampNeg) :: st) o) : GS K X M σ pc lv (.int i :: .ref (xt1 X) :: st) (ck i 6 o) := by
  obtain ⟨p, l, e, s, m, args, below, meth, cd, D, ca, ad, t1, t2, cs, sl⟩ := X
  obtain ⟨d1, rfl⟩ := d
  intro out ho F H locs ls hP hS hl
  have hi : ¬ (i < 0 ∨ 6 ≤ i.toNatClampNeg) := fun h => by rw [ck, if_pos h] at ho; cases ho
  rw [ck, if_neg hi] at ho
  exact va_ti F.1 F.2.1 F.2.2.2.2.2.2.2.1.2.1 hS hi rfl d1 (kk hi out ho F H locs ls hP hS hl)
theorem g_tald2 {i : Int32} (d : At M.1 pc .laload 1 pc') (kk : ¬ (i < 0 ∨ 6 ≤ i.toNatClampNeg) → GS K X M σ pc' lv (.long (HVV i.toNatClampNeg) :: st) o) : GS K X M σ pc lv (.int i :: .ref (xt2 X) :: st) (ck i 6 o) := by
  obtain ⟨p, l, e, s, m, args, below, meth, cd, D, ca, ad, t1, t2, cs, sl⟩ := X
  obtain ⟨d1, rfl⟩ := d
  intro out ho F H locs ls hP hS hl
  have hi : ¬ (i < 0 ∨ 6 ≤ i.toNatClampNeg) := fun h => by rw [ck, if_pos h] at ho; cases ho
  rw [ck, if_neg hi] at ho
  exact va_tl F.1 F.2.1 F.2.2.2.2.2.2.2.1.2.2.2 hS hi rfl d1 (kk hi out ho F H locs ls hP hS hl)
theorem g_tlen1 (d : At M.1 pc .arraylength 1 pc') (kk : GS K X M σ pc' lv (.int 6 :: st) o) : GS K X M σ pc lv (.ref (xt1 X) :: st) o := by
  obtain ⟨p, l, e, s, m, args, below, meth, cd, D, ca, ad, t1, t2, cs, sl⟩ := X
  obtain ⟨d1, rfl⟩ := d
  intro out ho F H locs ls hP hS hl
  exact va_tlen F.1 F.2.1 F.2.2.2.2.2.2.2.1.2.1 hS rfl d1 (kk out ho F H locs ls hP hS hl)
theorem g_tlen2 (d : At M.1 pc .arraylength 1 pc') (kk : GS K X M σ pc' lv (.int 6 :: st) o) : GS K X M σ pc lv (.ref (xt2 X) :: st) o := by
  obtain ⟨p, l, e, s, m, args, below, meth, cd, D, ca, ad, t1, t2, cs, sl⟩ := X
  obtain ⟨d1, rfl⟩ := d
  intro out ho F H locs ls hP hS hl
  exact va_tlen F.1 F.2.1 F.2.2.2.2.2.2.2.1.2.2.2 hS rfl d1 (kk out ho F H locs ls hP hS hl)
end ROWS
/-! ends -/
def enI (_ : Nat → Nat) (r : Int32) : Option Value := some (.int r)
def enJ (_ : Nat → Nat) (r : Int64) : Option Value := some (.long r)
def enV (_ : Nat → Nat) (_ : Unit) : Option Value := none
def enR (a m : Nat) (ad : Nat → Nat) (r : Option Nat) : Option Value := some (va_rf (r.map (fun x => ad (a + m * x))))
/-- a method's end -/
def KM {ρ : Type} (en : (Nat → Nat) → ρ → Option Value) : GX → Mem × ρ → State → Prop := fun (_, _, _, s, _, args, below, _, _, D, ca, ad, _, _, cs, sl) out => MQ below (QC D ca ad (en ad out.2) out.1) args s cs sl (AD ad)
section ENDS
variable {X : GX} {M : MI} {σ : Mem} {pc pc' : Nat} {lv : List (Nat × Value)} {st : List Value}
theorem g_iret {x : Int32} (hr : M.2.2.2.2 = some .int) (d : At M.1 pc .ireturn 1 pc') : GS (KM enI X) X M σ pc lv [.int x] (some (σ, x)) := by
  obtain ⟨p, l, e, s, m, args, below, meth, cd, D, ca, ad, t1, t2, cs, sl⟩ := X
  obtain ⟨d1, rfl⟩ := d
  intro out ho F H locs ls hP hS hl
  cases ho
  exact W.iret F.1 F.2.1 (F.2.2.2.2.2.2.2.2.2.1.trans hr) (fun t ht _ => ⟨rfl, by rw [ht]; exact hP, hS.F ht⟩) hS.2.2 d1 F.2.2.2.2.2.2.2.2.1
theorem g_zret {x : Int32} (hr : M.2.2.2.2 = some .boolean) (d : At M.1 pc .ireturn 1 pc') : GS (KM enI X) X M σ pc lv [.int x] (if x = 0 ∨ x = 1 then some (σ, x) else none) := by
  refine g_guard fun hx => ?_
  obtain ⟨p, l, e, s, m, args, below, meth, cd, D, ca, ad, t1, t2, cs, sl⟩ := X
  obtain ⟨d1, rfl⟩ := d
  intro out ho F H locs ls hP hS hl
  cases ho
  exact W.zret F.1 F.2.1 (F.2.2.2.2.2.2.2.2.2.1.trans hr) (by rcases hx with rfl | rfl <;> rfl) (fun t ht _ => ⟨rfl, by rw [ht]; exact hP, hS.F ht⟩) hS.2.2 d1 F.2.2.2.2.2.2.2.2.1
theorem g_lret {x : Int64} (hr : M.2.2.2.2 = some .long) (d : At M.1 pc .lreturn 1 pc') : GS (KM enJ X) X M σ pc lv [.long x] (some (σ, x)) := by
  obtain ⟨p, l, e, s, m, args, below, meth, cd, D, ca, ad, t1, t2, cs, sl⟩ := X
  obtain ⟨d1, rfl⟩ := d
  intro out ho F H locs ls hP hS hl
  cases ho
  exact W.lret F.1 F.2.1 (F.2.2.2.2.2.2.2.2.2.1.trans hr) (fun t ht _ => ⟨rfl, by rw [ht]; exact hP, hS.F ht⟩) hS.2.2 d1 F.2.2.2.2.2.2.2.2.1
theorem g_vret (hr : M.2.2.2.2 = none) (d : At M.1 pc .return_ 1 pc') : GS (KM enV X) X M σ pc lv [] (some (σ, ())) := by
  obtain ⟨p, l, e, s, m, args, below, meth, cd, D, ca, ad, t1, t2, cs, sl⟩ := X
  obtain ⟨d1, rfl⟩ := d
  intro out ho F H locs ls hP hS hl
  cases ho
  exact W.vret F.1 F.2.1 (F.2.2.2.2.2.2.2.2.2.1.trans hr) (fun t ht _ => ⟨rfl, by rw [ht]; exact hP, hS.F ht⟩) hS.2.2 d1 F.2.2.2.2.2.2.2.2.1
theorem g_aretN {a mm : Nat} {n : String} (hr : M.2.2.2.2 = some (.object n)) (d : At M.1 pc .areturn 1 pc') : GS (KM (enR a mm) X) X M σ pc lv [.null] (some (σ, none)) := by
  obtain ⟨p, l, e, s, m, args, below, meth, cd, D, ca, ad, t1, t2, cs, sl⟩ := X
  obtain ⟨d1, rfl⟩ := d
  intro out ho F H locs ls hP hS hl
  cases ho
  exact W.aret F.1 F.2.1 (F.2.2.2.2.2.2.2.2.2.1.trans hr) (Or.inl ⟨_, rfl⟩) (Or.inl rfl) (fun t ht _ => ⟨rfl, by rw [ht]; exact hP, hS.F ht⟩) hS.2.2 d1 F.2.2.2.2.2.2.2.2.1
theorem g_aret {a mm x : Nat} {n : String} (hr : M.2.2.2.2 = some (.object n)) (d : At M.1 pc .areturn 1 pc') : GS (KM (enR a mm) X) X M σ pc lv [.ref (xad X (a + mm * x))] (some (σ, some x)) := by
  obtain ⟨p, l, e, s, m, args, below, meth, cd, D, ca, ad, t1, t2, cs, sl⟩ := X
  obtain ⟨d1, rfl⟩ := d
  intro out ho F H locs ls hP hS hl
  cases ho
  exact W.aret F.1 F.2.1 (F.2.2.2.2.2.2.2.2.2.1.trans hr) (Or.inl ⟨_, rfl⟩) (Or.inr ⟨_, rfl⟩) (fun t ht _ => ⟨rfl, by rw [ht]; exact hP, hS.F ht⟩) hS.2.2 d1 F.2.2.2.2.2.2.2.2.1
end ENDS
/-! contracts -/
def WB (D : va_G) (ca : Nat → ClassId) (ad : Nat → Nat) (t1 t2 : Nat) (σ : Mem) (U : State) : Prop := va_P D classes (wld ca ad σ) U.heap ∧ va_K D classes (tys ca) U ∧ (∀ w ∈ nestW, va_Nw w U) ∧ ST (AD ad) t1 t2 U U.heap ∧ (∀ σ, va_D (AD ad) (wld ca ad σ))
def CT {ρ : Type} (y : MethodName) (M : MI) (en : (Nat → Nat) → ρ → Option Value) (as : (Nat → Nat) → List Value) (σ : Mem) (o : Option (Mem × ρ)) : Prop :=
  ∀ (l : Launch) (D : va_G) (ca : Nat → ClassId) (ad : Nat → Nat) (t1 t2 : Nat) (out : Mem × ρ), o = some out → Met l y (Cond.code y M.1 M.2.1 M.2.2.2.2 :: tb) M.2.2.2.1 (va_Pc (as ad) (WB D ca ad t1 t2 σ)) (QC D ca ad (en ad out.2) out.1) 0 0 (AD ad)
theorem ST.moved {A : Nat → Prop} {t1 t2 : Nat} {u U : State} {H : Heap} (hvm : u.vm.Alike U.vm) (h : ST A t1 t2 u H) : ST A t1 t2 U H := ⟨h.1.moved hvm, h.2.1.moved hvm, h.2.2.1.moved hvm, h.2.2.2.moved hvm⟩
theorem ST.kept {A : Nat → Prop} {t1 t2 : Nat} {U : State} {H H1 : Heap} (h : ST A t1 t2 U H) (hq : ∀ a : Nat, a < H.size → ¬ A a → H1[a]? = H[a]?) : ST A t1 t2 U H1 := ⟨h.1.kept hq, h.2.1.kept hq, h.2.2.1.kept hq, h.2.2.2.kept hq⟩
theorem CT.of {ρ : Type} {y : MethodName} {M : MI} {en : (Nat → Nat) → ρ → Option Value} {as : (Nat → Nat) → List Value} {σ : Mem} {o : Option (Mem × ρ)} (hy : plainName y.cls = true) (ho : y.cls = M.2.2.1) (hn : ∀ ad, (lg_sl (as ad)).length ≤ M.2.1)
    (h : ∀ X : GX, GS (KM en X) X M σ 0 (lv_args 0 (as (xad X))) [] o) : CT y M en as σ o := by
  intro l D ca ad t1 t2 out hout
  refine Met.ofW (cc := M.1) (maxL := M.2.1) (ret := M.2.2.2.2) hy rfl ?_
  intro p e s m args below meth c s₁ B hml hv
  obtain ⟨rfl, hP, hK, hN, hST, hD⟩ := hv
  have hts0 := atoms_spec B.pre
  have hts : ∀ w ∈ tb, w.before (as ad).toArray s = true := fun w hw => hts0 w (List.mem_cons_of_mem _ hw)
  have hown : s.vm.findClass M.2.2.1 = some m.cls := by rw [← ho]; exact findClass_of_methodNamed B.named
  have hl := lv_entry (as ad) (n := M.2.1) (hn ad)
  rw [lg_entry_eq]
  exact h (p, l, e, s, m, (as ad).toArray, below, meth, c, D, ca, ad, t1, t2, 0, 0) out hout ⟨B.exec, B.bytes, hml, hown, hts, hK, hN, hST, B.notSynchronized, B.returns, hD, Nat.zero_le _, Nat.zero_le _⟩ s.heap [] _ hP va_S.rf hl
theorem CT.blind {D : va_G} {ca : Nat → ClassId} {ad : Nat → Nat} {t1 t2 : Nat} {σ : Mem} {vs : List Value} : FrameBlind (va_Pc vs (WB D ca ad t1 t2 σ)) := by
  intro a U g mk q
  obtain ⟨q0, qP, qK, qN, qS, qD⟩ := q
  exact ⟨q0, qP, va_K.moved (u := U) (U := U.calling g mk a) (Vm.Alike.refl U.vm) qK, fun w hw => va_Nw.same (nest_on hw) (rfl : U.vm = (U.calling g mk a).vm) (qN w hw), ST.moved (u := U) (U := U.calling g mk a) (Vm.Alike.refl U.vm) qS, qD⟩
/-- what is known of a method that is called -/
def OKB (y : MethodName) (M : MI) (n : Nat) : Prop := Cond.code y M.1 M.2.1 M.2.2.2.2 ∈ tb ∧ Cond.initialized y.cls ∈ tb ∧ (y.cls ≠ "java/lang/invoke/MethodHandle" ∧ y.cls ≠ "java/lang/invoke/VarHandle" ∧ (parseMethodDescriptor y.desc).map (fun d => d.parameters.length) = some n) ∧ M.2.2.2.1.cells = 0 ∧ M.2.2.2.1.slots = 0
def OKV (y : MethodName) (M : MI) (n : Nat) : Prop := OKB y M n ∧ Cond.instanceMethod y ∈ tb ∧ Cond.selects y.cls y y ∈ tb
def OKS (y : MethodName) (M : MI) (n : Nat) : Prop := OKB y M n ∧ Cond.static y ∈ tb
def FIT (R' : MI) (R : MI) : Prop := R'.2.2.2.1.frames + 1 ≤ R.2.2.2.1.frames ∧ 8 + (R'.2.1 + 11) + R'.2.2.2.1.locals ≤ R.2.2.2.1.locals
section CALLS
variable {ρ ρ' : Type} {K : Mem × ρ → State → Prop} {en' : (Nat → Nat) → ρ' → Option Value} {X : GX} {M M' : MI} {σ : Mem} {pc pc' : Nat} {lv : List (Nat × Value)} {st stk : List Value} {oc : Option (Mem × ρ')} {f : Mem × ρ' → Option (Mem × ρ)} {y : MethodName} {as : (Nat → Nat) → List Value} {idx n : Nat}
theorem g_run {p : Program} {l : Launch} {e : Env} {s : State} {m : MethodId} {args : Array Value} {below : List Frame} {meth : Method} {c : Code} {D : va_G} {ca : Nat → ClassId} {ad : Nat → Nat} {H : Heap} {locs : List Loc} {ls : Array Slot} {R : Room} {Q : State → Prop} {cs sl : Nat} {a : Array Value} {v : Option Value} {σ' : Mem}
    (hr : va_Run p l e R s m args below meth c H locs cs sl 0 0 (F0 m pc ls stk) st (QC D ca ad v σ' a) (AD ad)) (hS : va_S (AD ad) s.heap H locs)
    (kk : ∀ (H1 : Heap) (locs1 : List Loc), va_P D classes (wld ca ad σ') H1 → va_S (AD ad) s.heap H1 locs1 → W p l e R s m args below meth c H1 locs1 cs sl Q (F0 m (pc + 3) ls (v.toList ++ st))) : W p l e R s m args below meth c H locs cs sl Q (F0 m pc ls stk) := by
  intro T hT XX
  obtain ⟨v', st₀, t, T', L, h0, X', hL, e1, e2, ⟨hv, hP1, hz, hk⟩, stp⟩ := hr T hT XX
  cases hv
  rw [h0] at hz hk
  obtain ⟨t2, a1, b1⟩ := kk T'.heap (locs ++ L) (by rw [e1]; exact hP1)
    ⟨Nat.le_trans hS.1 (by rw [e1]; exact hz), fun q h1 h2 => by rw [e1, hk q (Nat.lt_of_lt_of_le h1 hS.1) h2]; exact hS.2.1 q h1 h2, fun q hq => by
      rcases List.mem_append.mp hq with h | h
      · exact hS.2.2 q h
      · exact hL q h⟩ T' rfl X'
  exact ⟨t2, stp t2 a1, b1⟩
theorem fx_pre {p : Program} {l : Launch} {e : Env} {s : State} {m : MethodId} {args : Array Value} {below : List Frame} {meth : Method} {c : Code} {D : va_G} {ca : Nat → ClassId} {ad : Nat → Nat} {t1 t2 cs sl : Nat} {H : Heap} {locs : List Loc} (F : Fx M (p, l, e, s, m, args, below, meth, c, D, ca, ad, t1, t2, cs, sl)) (hP : va_P D classes (wld ca ad σ) H) (hS : va_S (AD ad) s.heap H locs) {U : State} (hU : U.heap = H) (hW : s.WarmedH U.vm) : WB D ca ad t1 t2 σ U :=
  ⟨by rw [hU]; exact hP, va_K.moved hW.alike F.2.2.2.2.2.1, fun w hw => nest_warm hw hW (F.2.2.2.2.2.2.1 w hw), by rw [hU]; exact ST.moved hW.alike (ST.kept F.2.2.2.2.2.2.2.1 hS.2.1), F.2.2.2.2.2.2.2.2.2.2.1⟩
theorem g_callV (hC : CT y M' en' as σ oc) (ok : OKV y M' n) (fit : FIT M' M) (lk : ML M.2.2.1 idx y) {b ci : Nat} {fl : List (Nat × Nat × Nat)} {q : vw_C} (hs : shp b = .inl (ci, fl)) (hb : b < NO) (hc : classes[ci]? = some q) (hq : q.1 = y.cls) (As : List Value) (has : as (xad X) = .ref (xad X b) :: As) (hst : stk = As.reverse ++ .ref (xad X b) :: st) (hn : As.length = n) (hroom : (st.map fun v => v.category).sum ≤ 8) (d : At M.1 pc (.invokevirtual idx) 3 pc')
    (kk : ∀ q, oc = some q → GS K X M q.1 pc' lv ((en' (xad X) q.2).toList ++ st) (f q)) : GS K X M σ pc lv stk (oc.bind f) := by
  obtain ⟨p, l, e, s, m, args, below, meth, cd, D, ca, ad, t1, t2, cs, sl⟩ := X
  obtain ⟨d1, rfl⟩ := d
  intro out ho F H locs ls hP hS hl
  obtain ⟨q1, hoc, hf⟩ := Option.bind_eq_some_iff.mp ho
  have hM := hC l D ca ad t1 t2 q1 hoc
  obtain ⟨⟨hcode, hini, hd, hrc, hrs⟩, hinst, hsel⟩ := ok
  have hts := F.2.2.2.2.1
  have hG := tb_tb hcode
  have hpre : PreV s H y.cls (ad b) (va_Pc (as ad) (WB D ca ad t1 t2 σ)) As := ⟨CT.blind, by
    have := va_recv F.2.2.2.2.2.1 hP hc (show (wld ca ad σ)[b]? = some (ad b, .inr (ci, fl.map (fv ad σ))) by rw [wld_at hb, cel_o hs])
    rw [hq] at this; exact this, fun U hU hW => ⟨congrArg List.toArray has.symm, fx_pre F hP hS hU hW⟩⟩
  refine g_run (v := en' ad q1.2) (σ' := q1.1) (a := (Value.ref (ad b) :: As).toArray) ?_ hS (fun H1 locs1 hP1 hS1 => kk q1 hoc out hf F H1 locs1 ls hP1 hS1 hl)
  rcases lk with lk | ⟨host, lk⟩
  · exact va_runV (Ts := tb) ⟨F.1, F.2.1, F.2.2.1, F.2.2.2.1, hts⟩ hM ⟨callB_of n hts hG rfl hrc hrs (hts _ hini) (hts _ lk) hd fit, hts _ hinst, hts _ hsel⟩ hpre rfl hn hl.1 hst (lv_room hroom) d1 F.2.2.2.2.2.2.2.2.2.2.2
  · exact va_runVN (Ts := tb) ⟨F.1, F.2.1, F.2.2.1, F.2.2.2.1, hts⟩ hM ⟨va_cnB n hts hG rfl hrc hrs (F.2.2.2.2.2.2.1 _ lk) (hts _ hini) hd fit, hts _ hinst, hts _ hsel⟩ hpre rfl hn hl.1 hst (lv_room hroom) d1 F.2.2.2.2.2.2.2.2.2.2.2
theorem g_callS (hC : CT y M' en' as σ oc) (ok : OKS y M' n) (fit : FIT M' M) (lk : ML M.2.2.1 idx y) (hst : stk = (as (xad X)).reverse ++ st) (hn : (as (xad X)).length = n) (hroom : (st.map fun v => v.category).sum ≤ 8) (d : At M.1 pc (.invokestatic idx) 3 pc')
    (kk : ∀ q, oc = some q → GS K X M q.1 pc' lv ((en' (xad X) q.2).toList ++ st) (f q)) : GS K X M σ pc lv stk (oc.bind f) := by
  obtain ⟨p, l, e, s, m, args, below, meth, cd, D, ca, ad, t1, t2, cs, sl⟩ := X
  obtain ⟨d1, rfl⟩ := d
  intro out ho F H locs ls hP hS hl
  obtain ⟨q1, hoc, hf⟩ := Option.bind_eq_some_iff.mp ho
  have hM := hC l D ca ad t1 t2 q1 hoc
  obtain ⟨⟨hcode, hini, hd, hrc, hrs⟩, hstat⟩ := ok
  have hts := F.2.2.2.2.1
  have hG := tb_tb hcode
  have hpre : PreS s H (va_Pc (as ad) (WB D ca ad t1 t2 σ)) (as ad) := ⟨CT.blind, fun U hU hW => ⟨rfl, fx_pre F hP hS hU hW⟩⟩
  refine g_run (v := en' ad q1.2) (σ' := q1.1) (a := (as ad).toArray) ?_ hS (fun H1 locs1 hP1 hS1 => kk q1 hoc out hf F H1 locs1 ls hP1 hS1 hl)
  rcases lk with lk | ⟨host, lk⟩
  · exact va_runS (Ts := tb) ⟨F.1, F.2.1, F.2.2.1, F.2.2.2.1, hts⟩ hM ⟨callB_of n hts hG rfl hrc hrs (hts _ hini) (hts _ lk) hd fit, hts _ hstat⟩ hpre rfl hn hl.1 hst (lv_room hroom) d1 F.2.2.2.2.2.2.2.2.2.2.2
  · exact va_runSN (Ts := tb) ⟨F.1, F.2.1, F.2.2.1, F.2.2.2.1, hts⟩ hM ⟨va_cnB n hts hG rfl hrc hrs (F.2.2.2.2.2.2.1 _ lk) (hts _ hini) hd fit, hts _ hstat, trivial⟩ hpre rfl hn hl.1 hst (lv_room hroom) d1 F.2.2.2.2.2.2.2.2.2.2.2
end CALLS
section JDK
variable {ρ : Type} {K : Mem × ρ → State → Prop} {X : GX} {M : MI} {σ : Mem} {pc pc' : Nat} {lv : List (Nat × Value)} {st : List Value} {o : Option (Mem × ρ)}
theorem g_mmax {idx : Nat} {x y : Int32} (lk : Cond.methodLink M.2.2.1 idx Lib.Math.max.name ∈ tb) (h1 : Cond.static Lib.Math.max.name ∈ tb) (h2 : Cond.initialized "java/lang/Math" ∈ tb) (h3 : Cond.code Lib.Math.max.name Lib.Math.max.code 2 (some .int) ∈ tb) (hf : 1 ≤ M.2.2.2.1.frames) (hl0 : (st.map fun v => v.category).sum + 13 ≤ M.2.2.2.1.locals) (d : At M.1 pc (.invokestatic idx) 3 pc') (kk : GS K X M σ pc' lv (.int (if x < y then y else x) :: st) o) : GS K X M σ pc lv (.int y :: .int x :: st) o := by
  obtain ⟨p, l, e, s, m, args, below, meth, cd, D, ca, ad, t1, t2, cs, sl⟩ := X
  obtain ⟨d1, rfl⟩ := d
  intro out ho F H locs ls hP hS hl
  have hts := F.2.2.2.2.1
  exact va_mmax F.1 F.2.1 (F.2.2.1.trans hl.1.symm) F.2.2.2.1 (hts _ lk) (hts _ h1) (hts _ h2) (hts _ h3) hf hl0 F.2.2.2.2.2.2.2.2.2.2.2.1 F.2.2.2.2.2.2.2.2.2.2.2.2 d1 (kk out ho F H locs ls hP hS hl)
theorem g_mmin {idx : Nat} {x y : Int32} (lk : Cond.methodLink M.2.2.1 idx Lib.Math.min.name ∈ tb) (h1 : Cond.static Lib.Math.min.name ∈ tb) (h2 : Cond.initialized "java/lang/Math" ∈ tb) (h3 : Cond.code Lib.Math.min.name Lib.Math.min.code 2 (some .int) ∈ tb) (hf : 1 ≤ M.2.2.2.1.frames) (hl0 : (st.map fun v => v.category).sum + 13 ≤ M.2.2.2.1.locals) (d : At M.1 pc (.invokestatic idx) 3 pc') (kk : GS K X M σ pc' lv (.int (if y < x then y else x) :: st) o) : GS K X M σ pc lv (.int y :: .int x :: st) o := by
  obtain ⟨p, l, e, s, m, args, below, meth, cd, D, ca, ad, t1, t2, cs, sl⟩ := X
  obtain ⟨d1, rfl⟩ := d
  intro out ho F H locs ls hP hS hl
  have hts := F.2.2.2.2.1
  exact va_mmin F.1 F.2.1 (F.2.2.1.trans hl.1.symm) F.2.2.2.1 (hts _ lk) (hts _ h1) (hts _ h2) (hts _ h3) hf hl0 F.2.2.2.2.2.2.2.2.2.2.2.1 F.2.2.2.2.2.2.2.2.2.2.2.2 d1 (kk out ho F H locs ls hP hS hl)
def cpok (sp dp n : Int32) (n0 n1 : Nat) : Prop := ¬ sp < 0 ∧ ¬ dp < 0 ∧ ¬ n < 0 ∧ sp.toNatClampNeg + n.toNatClampNeg ≤ n0 ∧ dp.toNatClampNeg + n.toNatClampNeg ≤ n1
def cpI {α : Type} (σ : Mem) (c0 k0 n0 : Nat) (sp : Int32) (c1 k1 n1 : Nat) (dp n : Int32) (f : Mem → Option α) : Option α := if ¬ sp < 0 ∧ ¬ dp < 0 ∧ ¬ n < 0 ∧ sp.toNatClampNeg + n.toNatClampNeg ≤ n0 ∧ dp.toNatClampNeg + n.toNatClampNeg ≤ n1 then f (aI σ c1 k1 (va_cpy (σ.1 c0 k0) (σ.1 c1 k1) sp.toNatClampNeg dp.toNatClampNeg n.toNatClampNeg)) else none
def cpJ {α : Type} (σ : Mem) (c0 k0 n0 : Nat) (sp : Int32) (c1 k1 n1 : Nat) (dp n : Int32) (f : Mem → Option α) : Option α := if ¬ sp < 0 ∧ ¬ dp < 0 ∧ ¬ n < 0 ∧ sp.toNatClampNeg + n.toNatClampNeg ≤ n0 ∧ dp.toNatClampNeg + n.toNatClampNeg ≤ n1 then f (aJ σ c1 k1 (va_cpy (σ.2.1 c0 k0) (σ.2.1 c1 k1) sp.toNatClampNeg dp.toNatClampNeg n.toNatClampNeg)) else none
theorem g_copyI {idx b0 n0 c0 k0 b1 n1 c1 k1 : Nat} {sp dp n : Int32} {f : Mem → Option (Mem × ρ)} (hs0 : shp b0 = .inr (0, n0, c0, k0)) (hb0 : b0 < NO) (hs1 : shp b1 = .inr (0, n1, c1, k1)) (hb1 : b1 < NO) (lk : Cond.methodLink M.2.2.1 idx arraycopyName ∈ tb) (h1 : Cond.native arraycopyName ∈ tb) (h2 : Cond.static arraycopyName ∈ tb) (h3 : Cond.initialized "java/lang/System" ∈ tb) (hf : 1 ≤ M.2.2.2.1.frames) (hl0 : (st.map fun v => v.category).sum + (nativeFrameWords "java/lang/System" "arraycopy" 5 + 11) ≤ M.2.2.2.1.locals) (d : At M.1 pc (.invokestatic idx) 3 pc') (kk : ∀ σ', σ' = aI σ c1 k1 (va_cpy (σ.1 c0 k0) (σ.1 c1 k1) sp.toNatClampNeg dp.toNatClampNeg n.toNatClampNeg) → GS K X M σ' pc' lv st (f σ')) : GS K X M σ pc lv (.int n :: .int dp :: .ref (xad X b1) :: .int sp :: .ref (xad X b0) :: st) (cpI σ c0 k0 n0 sp c1 k1 n1 dp n f) := by
  refine g_guard fun hg => ?_
  have kk := kk _ rfl
  obtain ⟨p, l, e, s, m, args, below, meth, cd, D, ca, ad, t1, t2, cs, sl⟩ := X
  obtain ⟨d1, rfl⟩ := d
  intro out ho F H locs ls hP hS hl
  have hts := F.2.2.2.2.1
  have hD : va_D (AD ad) (wld ca ad σ) := F.2.2.2.2.2.2.2.2.2.2.1 σ
  refine va_copyi F.1 F.2.1 (F.2.2.1.trans hl.1.symm) F.2.2.2.1 (hts _ lk) (hts _ h1) (hts _ h2) (hts _ h3) F.2.2.2.2.2.1 hP hD hS b0 b1 0 0 (ty := .int) (by rw [wld_at hb0, cel_a hs0]; rfl) (by rw [wld_at hb1, cel_a hs1]; rfl) rfl rfl rfl hg.1 hg.2.1 hg.2.2.1 hg.2.2.2.1 hg.2.2.2.2 (fun _ _ => rfl) hf hl0 d1 (fun H1 locs1 hP1 _ hS1 => kk out ho F H1 locs1 ls ?_ hS1 hl)
  rw [← wld_arrI hb1 hs1 (Or.inl rfl)]
  exact hP1
theorem g_copyJ {idx b0 n0 c0 k0 b1 n1 c1 k1 : Nat} {sp dp n : Int32} {f : Mem → Option (Mem × ρ)} (hs0 : shp b0 = .inr (1, n0, c0, k0)) (hb0 : b0 < NO) (hs1 : shp b1 = .inr (1, n1, c1, k1)) (hb1 : b1 < NO) (lk : Cond.methodLink M.2.2.1 idx arraycopyName ∈ tb) (h1 : Cond.native arraycopyName ∈ tb) (h2 : Cond.static arraycopyName ∈ tb) (h3 : Cond.initialized "java/lang/System" ∈ tb) (hf : 1 ≤ M.2.2.2.1.frames) (hl0 : (st.map fun v => v.category).sum + (nativeFrameWords "java/lang/System" "arraycopy" 5 + 11) ≤ M.2.2.2.1.locals) (d : At M.1 pc (.invokestatic idx) 3 pc') (kk : ∀ σ', σ' = aJ σ c1 k1 (va_cpy (σ.2.1 c0 k0) (σ.2.1 c1 k1) sp.toNatClampNeg dp.toNatClampNeg n.toNatClampNeg) → GS K X M σ' pc' lv st (f σ')) : GS K X M σ pc lv (.int n :: .int dp :: .ref (xad X b1) :: .int sp :: .ref (xad X b0) :: st) (cpJ σ c0 k0 n0 sp c1 k1 n1 dp n f) := by
  refine g_guard fun hg => ?_
  have kk := kk _ rfl
  obtain ⟨p, l, e, s, m, args, below, meth, cd, D, ca, ad, t1, t2, cs, sl⟩ := X
  obtain ⟨d1, rfl⟩ := d
  intro out ho F H locs ls hP hS hl
  have hts := F.2.2.2.2.1
  have hD : va_D (AD ad) (wld ca ad σ) := F.2.2.2.2.2.2.2.2.2.2.1 σ
  refine va_copyl F.1 F.2.1 (F.2.2.1.trans hl.1.symm) F.2.2.2.1 (hts _ lk) (hts _ h1) (hts _ h2) (hts _ h3) F.2.2.2.2.2.1 hP hD hS b0 b1 1 1 (ty := .long) (by rw [wld_at hb0, cel_a hs0]; rfl) (by rw [wld_at hb1, cel_a hs1]; rfl) rfl rfl rfl hg.1 hg.2.1 hg.2.2.1 hg.2.2.2.1 hg.2.2.2.2 (fun _ _ => rfl) hf hl0 d1 (fun H1 locs1 hP1 _ hS1 => kk out ho F H1 locs1 ls ?_ hS1 hl)
  rw [← wld_arrJ hb1 hs1]
  exact hP1
end JDK
