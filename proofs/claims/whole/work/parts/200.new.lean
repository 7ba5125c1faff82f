theorem va_Pm {D : va_G} {cl : List vw_C} {ws ws' : va_W} {H : Heap} (h : va_P D cl ws H) (hm : ∀ q ∈ ws', q ∈ ws) : va_P D cl ws' H := by
  intro k q hk
  obtain ⟨i, hi⟩ := List.getElem?_of_mem (hm q (List.mem_of_getElem? hk))
  exact h i q hi
theorem va_Pf {D : va_G} {cl : List vw_C} {ws : va_W} {x : Nat × va_E} {H : Heap} (h : va_P D cl (ws ++ [x]) H) : va_P D cl (x :: ws) H := va_Pm h (fun q hq => by
  rcases List.mem_cons.mp hq with rfl | hq
  · exact List.mem_append_right _ (List.mem_singleton.mpr rfl)
  · exact List.mem_append_left _ hq)
theorem va_Df {A : Nat → Prop} {ws : va_W} {x : Nat × va_E} (h : va_D A (ws ++ [x])) : va_D A (x :: ws) := by
  have key : ∀ (k : Nat) (q : Nat × va_E), (x :: ws)[k]? = some q → ∃ k', (ws ++ [x])[k']? = some q ∧ (k = 0 → k' = ws.length) ∧ (∀ j, k = j + 1 → k' = j ∧ j < ws.length) := by
    intro k q hk
    cases k with
    | zero =>
      refine ⟨ws.length, ?_, fun _ => rfl, fun j hj => by omega⟩
      rw [List.getElem?_append_right (Nat.le_refl _), Nat.sub_self]
      exact hk
    | succ j =>
      have hj : ws[j]? = some q := hk
      have hl := (List.getElem?_eq_some_iff.mp hj).1
      refine ⟨j, ?_, fun h => by omega, fun i hi => ⟨by omega, by omega⟩⟩
      rw [List.getElem?_append_left hl]
      exact hj
  refine ⟨fun i j p q hi hj e => ?_, fun k q hk => ?_⟩
  · obtain ⟨i', h1, h2, h3⟩ := key i p hi
    obtain ⟨j', h4, h5, h6⟩ := key j q hj
    have e2 := h.1 i' j' p q h1 h4 e
    cases i with
    | zero =>
      cases j with
      | zero => rfl
      | succ j => have := h2 rfl; have := h6 j rfl; omega
    | succ i =>
      cases j with
      | zero => have := h5 rfl; have := h3 i rfl; omega
      | succ j => have := h3 i rfl; have := h6 j rfl; omega
  · obtain ⟨k', h1, -⟩ := key k q hk
    exact h.2 k' q h1
abbrev NX : Type := Program × Launch × Env × State × MethodId × Array Value × List Frame × Method × Code × va_G × (Nat → ClassId) × Nat
def AB (base : Nat) : Nat → Prop := fun q => base ≤ q
abbrev nca (X : NX) : Nat → ClassId := X.2.2.2.2.2.2.2.2.2.2.1
def AOs (s : State) : Prop := va_AO RX1 s ∧ va_AO RX2 s ∧ va_AO RX4 s
def Fn (M : MI) : NX → Prop := fun (p, _, _, s, m, args, _, meth, c, D, ca, base) =>
  p.tables.exec = Jvm.exec ∧ c.code = M.1 ∧ c.maxLocals = M.2.1 ∧ s.vm.findClass M.2.2.1 = some m.cls ∧ (∀ w ∈ tb, w.before args s = true) ∧ va_K D classes (tys ca) s ∧ (∀ w ∈ nestW, va_Nw w s) ∧ AOs s ∧ meth.locks = false ∧ meth.sig.returnType = M.2.2.2.2 ∧ base ≤ s.heap.size
def GN (Q : State → Prop) (X : NX) (M : MI) (ws : va_W) (cs sl pc : Nat) (lv : List (Nat × Value)) (st : List Value) : Prop :=
  Fn M X → ∀ (H : Heap) (locs : List Loc) (ls : Array Slot), va_P X.2.2.2.2.2.2.2.2.2.1 classes ws H → va_D (AB X.2.2.2.2.2.2.2.2.2.2.2) ws → va_S (AB X.2.2.2.2.2.2.2.2.2.2.2) X.2.2.2.1.heap H locs → lv_has ls M.2.1 lv →
    W X.1 X.2.1 X.2.2.1 M.2.2.2.1 X.2.2.2.1 X.2.2.2.2.1 X.2.2.2.2.2.1 X.2.2.2.2.2.2.1 X.2.2.2.2.2.2.2.1 X.2.2.2.2.2.2.2.2.1 H locs cs sl Q (F0 X.2.2.2.2.1 pc ls st)
section NEWS
variable {Q : State → Prop} {X : NX} {M : MI} {ws : va_W} {cs sl pc pc' : Nat} {lv : List (Nat × Value)} {st : List Value}
theorem n_imul {x y : Int32} (d : At M.1 pc (.imul) 1 pc')  (k : GN Q X M ws cs sl pc' lv (.int (x * y) :: st)) : GN Q X M ws cs sl pc lv (.int y :: .int x :: st) := by
  obtain ⟨p, l, e, s, m, args, below, meth, c, D, ca, base⟩ := X
  obtain ⟨d1, rfl⟩ := d
  intro F H locs ls hP hD hS hl
  exact lv_imul F.1 F.2.1 d1  (k F H locs ls hP hD hS hl)
theorem n_isub {x y : Int32} (d : At M.1 pc (.isub) 1 pc')  (k : GN Q X M ws cs sl pc' lv (.int (x - y) :: st)) : GN Q X M ws cs sl pc lv (.int y :: .int x :: st) := by
  obtain ⟨p, l, e, s, m, args, below, meth, c, D, ca, base⟩ := X
  obtain ⟨d1, rfl⟩ := d
  intro F H locs ls hP hD hS hl
  exact lv_isub F.1 F.2.1 d1  (k F H locs ls hP hD hS hl)
theorem n_iconst {n : Int} (v : Int32) (d : At M.1 pc (.iconst n) 1 pc') (hv : Int32.ofInt n = v) (k : GN Q X M ws cs sl pc' lv (.int v :: st)) : GN Q X M ws cs sl pc lv (st) := by
  obtain ⟨p, l, e, s, m, args, below, meth, c, D, ca, base⟩ := X
  obtain ⟨d1, rfl⟩ := d
  intro F H locs ls hP hD hS hl
  exact lv_iconst F.1 F.2.1 d1 hv (k F H locs ls hP hD hS hl)
theorem n_bipush {n : Int} (v : Int32) (d : At M.1 pc (.bipush n) 2 pc') (hv : (Int8.ofInt n).toInt32 = v) (k : GN Q X M ws cs sl pc' lv (.int v :: st)) : GN Q X M ws cs sl pc lv (st) := by
  obtain ⟨p, l, e, s, m, args, below, meth, c, D, ca, base⟩ := X
  obtain ⟨d1, rfl⟩ := d
  intro F H locs ls hP hD hS hl
  exact lv_bipush F.1 F.2.1 d1 hv (k F H locs ls hP hD hS hl)
theorem n_sipush {n : Int} (v : Int32) (d : At M.1 pc (.sipush n) 3 pc') (hv : (Int16.ofInt n).toInt32 = v) (k : GN Q X M ws cs sl pc' lv (.int v :: st)) : GN Q X M ws cs sl pc lv (st) := by
  obtain ⟨p, l, e, s, m, args, below, meth, c, D, ca, base⟩ := X
  obtain ⟨d1, rfl⟩ := d
  intro F H locs ls hP hD hS hl
  exact lv_sipush F.1 F.2.1 d1 hv (k F H locs ls hP hD hS hl)
theorem n_lconst {n : Fin 2} (v : Int64) (d : At M.1 pc (.lconst n) 1 pc') (hv : Int64.ofNat (n : Nat) = v) (k : GN Q X M ws cs sl pc' lv (.long v :: st)) : GN Q X M ws cs sl pc lv (st) := by
  obtain ⟨p, l, e, s, m, args, below, meth, c, D, ca, base⟩ := X
  obtain ⟨d1, rfl⟩ := d
  intro F H locs ls hP hD hS hl
  exact lv_lconst F.1 F.2.1 d1 hv (k F H locs ls hP hD hS hl)
theorem n_dup {v : Value} (d : At M.1 pc (.dup) 1 pc') (hv : v.category = 1) (k : GN Q X M ws cs sl pc' lv (v :: v :: st)) : GN Q X M ws cs sl pc lv (v :: st) := by
  obtain ⟨p, l, e, s, m, args, below, meth, c, D, ca, base⟩ := X
  obtain ⟨d1, rfl⟩ := d
  intro F H locs ls hP hD hS hl
  exact lv_dup F.1 F.2.1 d1 hv (k F H locs ls hP hD hS hl)
theorem n_null  (d : At M.1 pc (.aconst_null) 1 pc')  (k : GN Q X M ws cs sl pc' lv (.null :: st)) : GN Q X M ws cs sl pc lv (st) := by
  obtain ⟨p, l, e, s, m, args, below, meth, c, D, ca, base⟩ := X
  obtain ⟨d1, rfl⟩ := d
  intro F H locs ls hP hD hS hl
  exact lv_null F.1 F.2.1 d1  (k F H locs ls hP hD hS hl)
theorem n_iload_n {k : Fin 4} (q : Nat) {x : Int32} (d : At M.1 pc (.iload_n k) 1 pc') (hq : lv[q]? = some ((k : Nat), .int x)) (kk : GN Q X M ws cs sl pc' lv (.int x :: st)) : GN Q X M ws cs sl pc lv st := by
  obtain ⟨p, l, e, s, m, args, below, meth, c, D, ca, base⟩ := X
  obtain ⟨d1, rfl⟩ := d
  intro F H locs ls hP hD hS hl
  exact lv_iload_n F.1 F.2.1 d1 rfl (lv_at hl q hq) (kk F H locs ls hP hD hS hl)
theorem n_istore_n {k : Fin 4} (lv' : List (Nat × Value)) {x : Int32} (d : At M.1 pc (.istore_n k) 1 pc') (hn : (k : Nat) < M.2.1) (hl2 : ((k : Nat), Value.int x) :: lv.filter (fun q => !(q.1 == (k : Nat)) && !(q.1 + 1 == (k : Nat) && q.2.category == 2)) = lv') (kk : GN Q X M ws cs sl pc' lv' st) : GN Q X M ws cs sl pc lv (.int x :: st) := by
  obtain ⟨p, l, e, s, m, args, below, meth, c, D, ca, base⟩ := X
  obtain ⟨d1, rfl⟩ := d
  intro F H locs ls hP hD hS hl
  exact lv_istore_n F.1 F.2.1 d1 rfl hl hn hl2 (fun ls' hl' => kk F H locs ls' hP hD hS hl')
theorem n_aload_n {k : Fin 4} (q : Nat) {x : Nat} (d : At M.1 pc (.aload_n k) 1 pc') (hq : lv[q]? = some ((k : Nat), .ref x)) (kk : GN Q X M ws cs sl pc' lv (.ref x :: st)) : GN Q X M ws cs sl pc lv st := by
  obtain ⟨p, l, e, s, m, args, below, meth, c, D, ca, base⟩ := X
  obtain ⟨d1, rfl⟩ := d
  intro F H locs ls hP hD hS hl
  exact lv_aload_n F.1 F.2.1 d1 rfl (lv_at hl q hq) (kk F H locs ls hP hD hS hl)
theorem n_astore_n {k : Fin 4} (lv' : List (Nat × Value)) {x : Nat} (d : At M.1 pc (.astore_n k) 1 pc') (hn : (k : Nat) < M.2.1) (hl2 : ((k : Nat), Value.ref x) :: lv.filter (fun q => !(q.1 == (k : Nat)) && !(q.1 + 1 == (k : Nat) && q.2.category == 2)) = lv') (kk : GN Q X M ws cs sl pc' lv' st) : GN Q X M ws cs sl pc lv (.ref x :: st) := by
  obtain ⟨p, l, e, s, m, args, below, meth, c, D, ca, base⟩ := X
  obtain ⟨d1, rfl⟩ := d
  intro F H locs ls hP hD hS hl
  exact lv_astore_n F.1 F.2.1 d1 rfl hl hn hl2 (fun ls' hl' => kk F H locs ls' hP hD hS hl')
theorem n_iinc {i : Nat} {n : Int} (q : Nat) (lv' : List (Nat × Value)) {x v : Int32} (d : At M.1 pc (.iinc i n) 3 pc') (hq : lv[q]? = some (i, .int x)) (hv : x + Int32.ofInt n = v) (hn : i < M.2.1) (hl2 : (i, Value.int v) :: lv.filter (fun q => !(q.1 == i) && !(q.1 + 1 == i && q.2.category == 2)) = lv') (kk : GN Q X M ws cs sl pc' lv' st) : GN Q X M ws cs sl pc lv st := by
  obtain ⟨p, l, e, s, m, args, below, meth, c, D, ca, base⟩ := X
  obtain ⟨d1, rfl⟩ := d
  intro F H locs ls hP hD hS hl
  exact lv_iinc F.1 F.2.1 d1 hl hq hv hn hl2 (fun ls' hl' => kk F H locs ls' hP hD hS hl')
theorem n_geT {x y : Int32} {off : Int} (tgt : Nat) (d : At M.1 pc (.if_icmp .ge off) 3 pc') (ht : (pc : Int) + off = (tgt : Int)) (h : y ≤ x) (k1 : GN Q X M ws cs sl tgt lv st) : GN Q X M ws cs sl pc lv (.int y :: .int x :: st) := by
  obtain ⟨p, l, e, s, m, args, below, meth, c, D, ca, base⟩ := X
  obtain ⟨d1, rfl⟩ := d
  intro F H locs ls hP hD hS hl
  exact lv_icmp_ge F.1 F.2.1 d1 ht (fun _ => k1 F H locs ls hP hD hS hl) (fun q => absurd h q)
theorem n_geF {x y : Int32} {off : Int} (tgt : Nat) (d : At M.1 pc (.if_icmp .ge off) 3 pc') (ht : (pc : Int) + off = (tgt : Int)) (h : ¬ y ≤ x) (k1 : GN Q X M ws cs sl pc' lv st) : GN Q X M ws cs sl pc lv (.int y :: .int x :: st) := by
  obtain ⟨p, l, e, s, m, args, below, meth, c, D, ca, base⟩ := X
  obtain ⟨d1, rfl⟩ := d
  intro F H locs ls hP hD hS hl
  exact lv_icmp_ge F.1 F.2.1 d1 ht (fun q => absurd q h) (fun _ => k1 F H locs ls hP hD hS hl)
theorem n_goto {off : Int} (tgt : Nat) (d : At M.1 pc (.goto off) 3 pc') (ht : (pc : Int) + off = (tgt : Int)) (k : GN Q X M ws cs sl tgt lv st) : GN Q X M ws cs sl pc lv st := by
  obtain ⟨p, l, e, s, m, args, below, meth, c, D, ca, base⟩ := X
  obtain ⟨d1, rfl⟩ := d
  intro F H locs ls hP hD hS hl
  exact lv_goto F.1 F.2.1 d1 ht (k F H locs ls hP hD hS hl)
theorem n_mmax {idx : Nat} {x y z : Int32} (lk : Cond.methodLink M.2.2.1 idx Lib.Math.max.name ∈ tb) (hz : (if x < y then y else x) = z) (hf : 1 ≤ M.2.2.2.1.frames) (hl0 : (st.map fun v => v.category).sum + 13 ≤ M.2.2.2.1.locals) (hcs : cs ≤ M.2.2.2.1.cells) (hsl : sl ≤ M.2.2.2.1.slots) (d : At M.1 pc (.invokestatic idx) 3 pc') (kk : GN Q X M ws cs sl pc' lv (.int z :: st)) : GN Q X M ws cs sl pc lv (.int y :: .int x :: st) := by
  subst hz
  obtain ⟨p, l, e, s, m, args, below, meth, c, D, ca, base⟩ := X
  obtain ⟨d1, rfl⟩ := d
  intro F H locs ls hP hD hS hl
  have hts := F.2.2.2.2.1
  exact va_mmax F.1 F.2.1 (F.2.2.1.trans hl.1.symm) F.2.2.2.1 (hts _ lk) (hts _ jm_max_s) (hts _ jm_i) (hts _ jm_max_c) hf hl0 hcs hsl d1 (kk F H locs ls hP hD hS hl)
theorem nb_A {s : State} {base : Nat} (h : base ≤ s.heap.size) : ∀ q, s.heap.size ≤ q → AB base q := fun _ hq => Nat.le_trans h hq
theorem n_get {b ci N idx : Nat} {C : String} {T : u_T} (q0 : Nat) {fs : List Value} (he : ws[q0]? = some (b, .inr (ci, fs))) (hc : classes[ci]? = some (C, T, N)) (hin : ∀ w ∈ u_ws C T N, w ∈ tb) (j : Nat) (hj : j < N) {v : Value} (hv : fs[j]? = some v) (lk : FL M.2.2.1 idx (T j).1 (T j).2.1 (T j).2.2.1) (d : At M.1 pc (.getfield idx) 3 pc') (kk : GN Q X M ws cs sl pc' lv (v :: st)) : GN Q X M ws cs sl pc lv (.ref b :: st) := by
  obtain ⟨p, l, e, s, m, args, below, meth, c, D, ca, base⟩ := X
  obtain ⟨d1, rfl⟩ := d
  intro F H locs ls hP hD hS hl
  rcases lk with lk | ⟨host, lk⟩
  · exact va_get F.1 F.2.1 F.2.2.2.2.1 hin F.2.2.2.1 F.2.2.2.2.2.1 hP q0 he hc j hj (F.2.2.2.2.1 _ lk) (fun _ h => h) hv d1 (kk F H locs ls hP hD hS hl)
  · exact va_getN F.1 F.2.1 F.2.2.2.2.1 hin F.2.2.2.1 F.2.2.2.2.2.1 hP q0 he hc j hj (va_Nw.use (nest_on lk) (F.2.2.2.2.2.2.1 _ lk)) (fun _ h => h) hv d1 (kk F H locs ls hP hD hS hl)
theorem n_put {b ci N idx : Nat} {C : String} {T : u_T} {ty0 : Nat → FieldType} (q0 : Nat) {fs : List Value} (he : ws[q0]? = some (b, .inr (ci, fs))) (hc : classes[ci]? = some (C, T, N)) (hin : ∀ w ∈ u_ws C T N, w ∈ tb) (hty : ∀ k, k < N → parseFieldDescriptor (T k).2.2.1 = some (ty0 k)) (hnm : ∀ a, a < N → ∀ b, b < N → a ≠ b → (T a).2.1 ≠ (T b).2.1) (j : Nat) (hj : j < N) (hfin : (T j).2.2.2 = false) {v : Value} (hn : narrow (ty0 j) v = v) (hfit : fits (ty0 j) v = true) (hjl : j < fs.length) (lk : Cond.fieldLink M.2.2.1 idx (T j).1 (T j).2.1 (T j).2.2.1 ∈ tb) (d : At M.1 pc (.putfield idx) 3 pc') (kk : GN Q X M (ws.set q0 (b, .inr (ci, fs.set j v))) cs sl pc' lv st) : GN Q X M ws cs sl pc lv (v :: .ref b :: st) := by
  obtain ⟨p, l, e, s, m, args, below, meth, c, D, ca, base⟩ := X
  obtain ⟨d1, rfl⟩ := d
  intro F H locs ls hP hD hS hl
  exact va_put F.1 F.2.1 F.2.2.2.2.1 hin ty0 hty hnm F.2.2.2.1 F.2.2.2.2.2.1 hP hD hS q0 he hc j hj (F.2.2.2.2.1 _ lk) (fun _ h => h) hfin (hty j hj) hn hfit hjl d1 (fun H1 locs1 hP1 hD1 hS1 => kk F H1 locs1 ls hP1 hD1 hS1 hl)
theorem n_putF {b ci N idx : Nat} {C : String} {T : u_T} {ty0 : Nat → FieldType} (hi : X.2.2.2.2.2.2.2.1.name = "<init>") (q0 : Nat) {fs : List Value} (he : ws[q0]? = some (b, .inr (ci, fs))) (hc : classes[ci]? = some (C, T, N)) (hin : ∀ w ∈ u_ws C T N, w ∈ tb) (hty : ∀ k, k < N → parseFieldDescriptor (T k).2.2.1 = some (ty0 k)) (hnm : ∀ a, a < N → ∀ b, b < N → a ≠ b → (T a).2.1 ≠ (T b).2.1) (j : Nat) (hj : j < N) (hfin : (T j).2.2.2 = true) (hdecl : (T j).1 = M.2.2.1) {v : Value} (hn : narrow (ty0 j) v = v) (hfit : fits (ty0 j) v = true) (hjl : j < fs.length) (lk : Cond.fieldLink M.2.2.1 idx (T j).1 (T j).2.1 (T j).2.2.1 ∈ tb) (d : At M.1 pc (.putfield idx) 3 pc') (kk : GN Q X M (ws.set q0 (b, .inr (ci, fs.set j v))) cs sl pc' lv st) : GN Q X M ws cs sl pc lv (v :: .ref b :: st) := by
  obtain ⟨p, l, e, s, m, args, below, meth, c, D, ca, base⟩ := X
  obtain ⟨d1, rfl⟩ := d
  intro F H locs ls hP hD hS hl
  exact va_putF F.1 F.2.1 F.2.2.2.2.1 hin ty0 hty hnm F.2.2.2.1 F.2.2.2.2.2.1 hP hD hS q0 he hc j hj (F.2.2.2.2.1 _ lk) (fun _ h => h) hfin hi hdecl (hty j hj) hn hfit hjl d1 (fun H1 locs1 hP1 hD1 hS1 => kk F H1 locs1 ls hP1 hD1 hS1 hl)
theorem n_alen {b : Nat} (q0 t0 : Nat) {x : vp_A} (ha : ws[q0]? = some (b, .inl (nca X t0, x))) (ht : t0 < 6) {v : Int32} (hv : Int32.ofNat x.1 = v) (d : At M.1 pc .arraylength 1 pc') (kk : GN Q X M ws cs sl pc' lv (.int v :: st)) : GN Q X M ws cs sl pc lv (.ref b :: st) := by
  obtain ⟨p, l, e, s, m, args, below, meth, c, D, ca, base⟩ := X
  obtain ⟨d1, rfl⟩ := d
  intro F H locs ls hP hD hS hl
  have ht' : ∃ ty, (tys ca)[t0]? = some (ca t0, ty) := by
    rcases (show t0 = 0 ∨ t0 = 1 ∨ t0 = 2 ∨ t0 = 3 ∨ t0 = 4 ∨ t0 = 5 by omega) with rfl | rfl | rfl | rfl | rfl | rfl <;> exact ⟨_, rfl⟩
  obtain ⟨ty, hty⟩ := ht'
  exact va_alen F.1 F.2.1 F.2.2.2.2.2.1 hP q0 t0 ha hty hv d1 (kk F H locs ls hP hD hS hl)
theorem n_iast {b : Nat} (q0 : Nat) {n : Nat} {f : Nat → Int32} (ha : ws[q0]? = some (b, .inl (nca X 0, n, .inl f))) {i x : Int32} (j : Nat) (hj : i.toNatClampNeg = j) (hin : ¬ (i < 0 ∨ n ≤ i.toNatClampNeg)) (d : At M.1 pc .iastore 1 pc') (kk : GN Q X M (ws.set q0 (b, .inl (nca X 0, n, .inl (upd f j x)))) cs sl pc' lv st) : GN Q X M ws cs sl pc lv (.int x :: .int i :: .ref b :: st) := by
  subst hj
  obtain ⟨p, l, e, s, m, args, below, meth, c, D, ca, base⟩ := X
  obtain ⟨d1, rfl⟩ := d
  intro F H locs ls hP hD hS hl
  exact va_iast F.1 F.2.1 F.2.2.2.2.2.1 hP hD hS q0 0 ha rfl hin d1 (fun H1 locs1 hP1 hD1 hS1 => kk F H1 locs1 ls hP1 hD1 hS1 hl)
theorem n_aast {b v : Nat} (q0 t0 qk ci : Nat) {r : vw_C} {n : Nat} {vs : List Value} {f : Nat → Option Nat} (ha : ws[q0]? = some (b, .inl (nca X t0, n, .inr (.inr (.inr (.inr f)))))) (ht : ∀ ca, (tys ca)[t0]? = some (ca t0, .object r.1)) (hv : ws[qk]? = some (v, .inr (ci, vs))) (hc : classes[ci]? = some r) {i : Int32} (j : Nat) (hj : i.toNatClampNeg = j) (hin : ¬ (i < 0 ∨ n ≤ i.toNatClampNeg)) (d : At M.1 pc .aastore 1 pc') (kk : GN Q X M (ws.set q0 (b, .inl (nca X t0, n, .inr (.inr (.inr (.inr (va_up f j (some v)))))))) cs sl pc' lv st) : GN Q X M ws cs sl pc lv (.ref v :: .int i :: .ref b :: st) := by
  subst hj
  obtain ⟨p, l, e, s, m, args, below, meth, c, D, ca, base⟩ := X
  obtain ⟨d1, rfl⟩ := d
  intro F H locs ls hP hD hS hl
  exact va_astq F.1 F.2.1 F.2.2.2.2.2.1 hP hD hS q0 t0 qk ci ha (ht ca) hv hc hin d1 (fun H1 locs1 hP1 hD1 hS1 => kk F H1 locs1 ls hP1 hD1 hS1 hl)
theorem n_new {ci N idx cs' sl' : Nat} {C : String} {T : u_T} {ty : Nat → FieldType} (fs : List Value) (hc : classes[ci]? = some (C, T, N)) (hin : ∀ w ∈ u_ws C T N, w ∈ tb) (hty : ∀ k, k < N → parseFieldDescriptor (T k).2.2.1 = some (ty k)) (hcl : Cond.classLink M.2.2.1 idx C ∈ tb) (hinst : Cond.instantiable C N ∈ tb) (hini : Cond.initialized C ∈ tb) (hfs : ∀ j, j < N → defaultValue (ty j) = vp_V fs j) (h1 : cs + 1 = cs') (h2 : sl + N = sl') (hcells : cs' ≤ M.2.2.2.1.cells) (hslots : sl' ≤ M.2.2.2.1.slots) (d : At M.1 pc (.new idx) 3 pc') (kk : ∀ q, GN Q X M ((q, .inr (ci, fs)) :: ws) cs' sl' pc' lv (.ref q :: st)) : GN Q X M ws cs sl pc lv st := by
  subst h1; subst h2
  obtain ⟨p, l, e, s, m, args, below, meth, c, D, ca, base⟩ := X
  obtain ⟨d1, rfl⟩ := d
  intro F H locs ls hP hD hS hl
  have hts := F.2.2.2.2.1
  exact va_new F.1 F.2.1 hts hin ty hty F.2.2.2.1 (hts _ hcl) (hts _ hinst) (hts _ hini) F.2.2.2.2.2.1 hP hD hS (nb_A F.2.2.2.2.2.2.2.2.2.2) hc hfs hcells hslots d1 (fun q H1 hP1 hD1 hS1 => kk q F H1 locs ls (va_Pf hP1) (va_Df hD1) hS1 hl)
theorem n_cA {D : va_G} {s : State} {ca : Nat → ClassId} {cA : ClassId} {ty : FieldType} (t0 : Nat) (hty : ∀ ca, (tys ca)[t0]? = some (ca t0, ty)) (hn : ∀ C, ty ≠ .object C) (hK : va_K D classes (tys ca) s) (hK1 : va_K D classes (tys ca ++ [(cA, ty)]) s) : cA = ca t0 := by
  have h1 := (hK.2 t0 _ (hty ca)).2
  have h2 := (hK1.2 (tys ca).length (cA, ty) (by simp)).2
  cases ty with
  | object C => exact absurd rfl (hn C)
  | _ => exact (Option.some.inj (h1.symm.trans h2)).symm
theorem n_cAq {D : va_G} {s : State} {ca : Nat → ClassId} {cA : ClassId} {C : String} (t0 : Nat) (hty : ∀ ca, (tys ca)[t0]? = some (ca t0, .object C)) (hK : va_K D classes (tys ca) s) (hK1 : va_K D classes (tys ca ++ [(cA, .object C)]) s) : cA = ca t0 := by
  obtain ⟨_, _, _, _, _, h1⟩ := (hK.2 t0 _ (hty ca)).2
  obtain ⟨_, _, _, _, _, h2⟩ := (hK1.2 (tys ca).length (cA, .object C) (by simp)).2
  exact (Option.some.inj (h1.symm.trans h2)).symm
theorem n_newI {n : Int32} (N' : Nat) {cs' sl' : Nat} (harr : Cond.arrayClass .int ∈ tb) (hn : ¬ n < 0) (hN : n.toNatClampNeg = N') (hbytes : N' * componentBytes .int ≤ 536870912) (h1 : cs + 1 = cs') (h2 : sl + N' = sl') (hcells : cs' ≤ M.2.2.2.1.cells) (hslots : sl' ≤ M.2.2.2.1.slots) (d : At M.1 pc (.newarray .int) 2 pc') (kk : ∀ q, GN Q X M ((q, .inl (nca X 0, N', .inl (fun _ => 0))) :: ws) cs' sl' pc' lv (.ref q :: st)) : GN Q X M ws cs sl pc lv (.int n :: st) := by
  subst h1; subst h2
  obtain ⟨p, l, e, s, m, args, below, meth, c, D, ca, base⟩ := X
  obtain ⟨d1, rfl⟩ := d
  intro F H locs ls hP hD hS hl
  have hts := F.2.2.2.2.1
  refine va_newa (atype := .int) F.1 F.2.1 (hts _ harr) rfl F.2.2.2.2.2.1 hP hD hS (nb_A F.2.2.2.2.2.2.2.2.2.2) (a0 := (N', .inl (fun _ => 0))) (fun _ => rfl) hn hN hbytes hcells hslots d1 (fun q cA H1 hK1 hP1 hD1 hS1 => ?_)
  have e := n_cA 0 (fun _ => rfl) (fun _ h => by cases h) F.2.2.2.2.2.1 hK1
  subst e
  exact kk q F H1 locs ls (va_Pf hP1) (va_Df hD1) hS1 hl
theorem n_newJ {n : Int32} (N' : Nat) {cs' sl' : Nat} (harr : Cond.arrayClass .long ∈ tb) (hn : ¬ n < 0) (hN : n.toNatClampNeg = N') (hbytes : N' * componentBytes .long ≤ 536870912) (h1 : cs + 1 = cs') (h2 : sl + N' = sl') (hcells : cs' ≤ M.2.2.2.1.cells) (hslots : sl' ≤ M.2.2.2.1.slots) (d : At M.1 pc (.newarray .long) 2 pc') (kk : ∀ q, GN Q X M ((q, .inl (nca X 1, N', .inr (.inl (fun _ => 0)))) :: ws) cs' sl' pc' lv (.ref q :: st)) : GN Q X M ws cs sl pc lv (.int n :: st) := by
  subst h1; subst h2
  obtain ⟨p, l, e, s, m, args, below, meth, c, D, ca, base⟩ := X
  obtain ⟨d1, rfl⟩ := d
  intro F H locs ls hP hD hS hl
  have hts := F.2.2.2.2.1
  refine va_newa (atype := .long) F.1 F.2.1 (hts _ harr) rfl F.2.2.2.2.2.1 hP hD hS (nb_A F.2.2.2.2.2.2.2.2.2.2) (a0 := (N', .inr (.inl (fun _ => 0)))) (fun _ => rfl) hn hN hbytes hcells hslots d1 (fun q cA H1 hK1 hP1 hD1 hS1 => ?_)
  have e := n_cA 1 (fun _ => rfl) (fun _ h => by cases h) F.2.2.2.2.2.1 hK1
  subst e
  exact kk q F H1 locs ls (va_Pf hP1) (va_Df hD1) hS1 hl
theorem n_newZ {n : Int32} (N' : Nat) {cs' sl' : Nat} (harr : Cond.arrayClass .boolean ∈ tb) (hn : ¬ n < 0) (hN : n.toNatClampNeg = N') (hbytes : N' * componentBytes .boolean ≤ 536870912) (h1 : cs + 1 = cs') (h2 : sl + N' = sl') (hcells : cs' ≤ M.2.2.2.1.cells) (hslots : sl' ≤ M.2.2.2.1.slots) (d : At M.1 pc (.newarray .boolean) 2 pc') (kk : ∀ q, GN Q X M ((q, .inl (nca X 2, N', .inl (fun _ => 0))) :: ws) cs' sl' pc' lv (.ref q :: st)) : GN Q X M ws cs sl pc lv (.int n :: st) := by
  subst h1; subst h2
  obtain ⟨p, l, e, s, m, args, below, meth, c, D, ca, base⟩ := X
  obtain ⟨d1, rfl⟩ := d
  intro F H locs ls hP hD hS hl
  have hts := F.2.2.2.2.1
  refine va_newa (atype := .boolean) F.1 F.2.1 (hts _ harr) rfl F.2.2.2.2.2.1 hP hD hS (nb_A F.2.2.2.2.2.2.2.2.2.2) (a0 := (N', .inl (fun _ => 0))) (fun _ => rfl) hn hN hbytes hcells hslots d1 (fun q cA H1 hK1 hP1 hD1 hS1 => ?_)
  have e := n_cA 2 (fun _ => rfl) (fun _ h => by cases h) F.2.2.2.2.2.1 hK1
  subst e
  exact kk q F H1 locs ls (va_Pf hP1) (va_Df hD1) hS1 hl
theorem n_newR {n : Int32} (N' t0 : Nat) {C : String} {idx cs' sl' : Nat} (hty : ∀ ca, (tys ca)[t0]? = some (ca t0, .object C)) (hcl : Cond.classLink M.2.2.1 idx C ∈ tb) (hao : ∀ s, AOs s → va_AO C s) (hn : ¬ n < 0) (hN : n.toNatClampNeg = N') (hbytes : N' * 4 ≤ 536870912) (h1 : cs + 1 = cs') (h2 : sl + N' = sl') (hcells : cs' ≤ M.2.2.2.1.cells) (hslots : sl' ≤ M.2.2.2.1.slots) (d : At M.1 pc (.anewarray idx) 3 pc') (kk : ∀ q, GN Q X M ((q, .inl (nca X t0, N', .inr (.inr (.inr (.inr (fun _ => none)))))) :: ws) cs' sl' pc' lv (.ref q :: st)) : GN Q X M ws cs sl pc lv (.int n :: st) := by
  subst h1; subst h2
  obtain ⟨p, l, e, s, m, args, below, meth, c, D, ca, base⟩ := X
  obtain ⟨d1, rfl⟩ := d
  intro F H locs ls hP hD hS hl
  have hts := F.2.2.2.2.1
  refine va_newq F.1 F.2.1 F.2.2.2.1 (hts _ hcl) (hao s F.2.2.2.2.2.2.2.1) F.2.2.2.2.2.1 hP hD hS (nb_A F.2.2.2.2.2.2.2.2.2.2) hn hN hbytes hcells hslots d1 (fun q cA H1 hK1 hP1 hD1 hS1 => ?_)
  have e := n_cAq t0 hty F.2.2.2.2.2.1 hK1
  subst e
  exact kk q F H1 locs ls (va_Pf hP1) (va_Df hD1) hS1 hl
theorem n_objInit {a idx : Nat} (lk : Cond.methodLink M.2.2.1 idx Lib.objectInit ∈ tb) (h1 : Cond.instanceMethod Lib.objectInit ∈ tb) (h2 : Cond.code Lib.objectInit ⟨#[0xb1]⟩ 1 none ∈ tb) (hf : 1 ≤ M.2.2.2.1.frames) (hl0 : (st.map fun v => v.category).sum + 12 ≤ M.2.2.2.1.locals) (d : At M.1 pc (.invokespecial idx) 3 pc') (kk : GN Q X M ws cs sl pc' lv st) : GN Q X M ws cs sl pc lv (.ref a :: st) := by
  obtain ⟨p, l, e, s, m, args, below, meth, c, D, ca, base⟩ := X
  obtain ⟨d1, rfl⟩ := d
  intro F H locs ls hP hD hS hl
  have hts := F.2.2.2.2.1
  exact W.objInit F.1 F.2.1 F.2.2.2.1 (hts _ lk) (hts _ h1) (hts _ h2) (g := F0 m pc ls (.ref a :: st)) rfl (hl.1.trans F.2.2.1.symm) rfl d1 hf (by show 2 * 0 + _ + 12 ≤ _; omega) (kk F H locs ls hP hD hS hl)
end NEWS
/-- a constructor's contract: its object is the first of the world; what it makes comes ahead of the rest -/
def WN (D : va_G) (ca : Nat → ClassId) (base : Nat) (ws : va_W) (U : State) : Prop := va_P D classes ws U.heap ∧ va_D (AB base) ws ∧ va_K D classes (tys ca) U ∧ (∀ w ∈ nestW, va_Nw w U) ∧ AOs U ∧ base ≤ U.heap.size
def QN (D : va_G) (base : Nat) (C : (Nat → Nat) → va_W) : Array Value → State → Outcome → State → Prop := fun _ st oc t => oc = .returned none ∧ (∃ q : Nat → Nat, va_P D classes (C q) t.heap ∧ va_D (AB base) (C q)) ∧ va_F (AB base) st t
def CN (y : MethodName) (M : MI) (as : List Value) (ws : va_W) (C : (Nat → ClassId) → (Nat → Nat) → va_W) : Prop :=
  ∀ (l : Launch) (D : va_G) (ca : Nat → ClassId) (base : Nat), Met l y (Cond.code y M.1 M.2.1 M.2.2.2.2 :: tb) M.2.2.2.1 (va_Pc as (WN D ca base ws)) (QN D base (C ca)) M.2.2.2.1.cells M.2.2.2.1.slots (AB base)
def KN (C : (Nat → ClassId) → (Nat → Nat) → va_W) (M : MI) : NX → State → Prop := fun (_, _, _, s, _, args, below, _, _, D, ca, base) => MQ below (QN D base (C ca)) args s M.2.2.2.1.cells M.2.2.2.1.slots (AB base)
theorem AOs.moved {u U : State} (hvm : u.vm.Alike U.vm) (h : AOs u) : AOs U := ⟨h.1.moved hvm, h.2.1.moved hvm, h.2.2.moved hvm⟩
theorem CN.of {y : MethodName} {M : MI} {as : List Value} {ws : va_W} {C : (Nat → ClassId) → (Nat → Nat) → va_W} (hy : plainName y.cls = true) (ho : y.cls = M.2.2.1) (hi : y.name = "<init>") (hn : (lg_sl as).length ≤ M.2.1)
    (h : ∀ X : NX, X.2.2.2.2.2.2.2.1.name = "<init>" → GN (KN C M X) X M ws 0 0 0 (lv_args 0 as) []) : CN y M as ws C := by
  intro l D ca base
  refine Met.ofW (cc := M.1) (maxL := M.2.1) (ret := M.2.2.2.2) hy rfl ?_
  intro p e s m args below meth c s₁ B hml hv
  obtain ⟨rfl, hP, hD, hK, hN, hAO, hb⟩ := hv
  have hts0 := atoms_spec B.pre
  have hts : ∀ w ∈ tb, w.before as.toArray s = true := fun w hw => hts0 w (List.mem_cons_of_mem _ hw)
  have hown : s.vm.findClass M.2.2.1 = some m.cls := by rw [← ho]; exact findClass_of_methodNamed B.named
  have hl := lv_entry as (n := M.2.1) hn
  rw [lg_entry_eq]
  exact h (p, l, e, s, m, as.toArray, below, meth, c, D, ca, base) ((name_of_methodNamed B.named B.method).1.trans hi) ⟨B.exec, B.bytes, hml, hown, hts, hK, hN, hAO, B.notSynchronized, B.returns, hb⟩ s.heap [] _ hP hD va_S.rf hl
theorem n_vret {X : NX} {M : MI} {ws : va_W} {pc pc' : Nat} {lv : List (Nat × Value)} {C : (Nat → ClassId) → (Nat → Nat) → va_W} (q : Nat → Nat) (hw : ws = C (nca X) q) (hr : M.2.2.2.2 = none) (d : At M.1 pc .return_ 1 pc') : GN (KN C M X) X M ws M.2.2.2.1.cells M.2.2.2.1.slots pc lv [] := by
  obtain ⟨p, l, e, s, m, args, below, meth, c, D, ca, base⟩ := X
  obtain ⟨d1, rfl⟩ := d
  intro F H locs ls hP hD hS hl
  exact W.vret F.1 F.2.1 (F.2.2.2.2.2.2.2.2.2.1.trans hr) (fun t ht _ => ⟨rfl, ⟨q, by rw [ht, ← hw]; exact hP, by rw [← hw]; exact hD⟩, hS.F ht⟩) hS.2.2 d1 F.2.2.2.2.2.2.2.2.1
theorem WN.blind {D : va_G} {ca : Nat → ClassId} {base : Nat} {ws : va_W} {vs : List Value} : FrameBlind (va_Pc vs (WN D ca base ws)) := by
  intro a U g mk q
  obtain ⟨q0, qP, qD, qK, qN, qA, qb⟩ := q
  exact ⟨q0, qP, qD, va_K.moved (u := U) (U := U.calling g mk a) (Vm.Alike.refl U.vm) qK, fun w hw => va_Nw.same (nest_on hw) (rfl : U.vm = (U.calling g mk a).vm) (qN w hw), AOs.moved (u := U) (U := U.calling g mk a) (Vm.Alike.refl U.vm) qA, qb⟩
def OKI (y : MethodName) (M : MI) (n : Nat) : Prop := Cond.code y M.1 M.2.1 none ∈ tb ∧ Cond.initialized y.cls ∈ tb ∧ (y.cls ≠ "java/lang/invoke/MethodHandle" ∧ y.cls ≠ "java/lang/invoke/VarHandle" ∧ (parseMethodDescriptor y.desc).map (fun d => d.parameters.length) = some n) ∧ y.name = "<init>" ∧ Cond.instanceMethod y ∈ tb ∧ M.2.2.2.2 = none
theorem n_call {Q : State → Prop} {X : NX} {M M' : MI} {ws : va_W} {cs sl cs' sl' pc pc' : Nat} {lv : List (Nat × Value)} {st stk : List Value} {y : MethodName} {b : Nat} {idx n : Nat} {C : (Nat → ClassId) → (Nat → Nat) → va_W} (As : List Value) (hC : CN y M' (.ref b :: As) ws C) (ok : OKI y M' n) (fit : FIT M' M) (lk : ML M.2.2.1 idx y) (hst : stk = As.reverse ++ .ref b :: st) (hn : As.length = n) (hroom : (st.map fun v => v.category).sum ≤ 8) (h1 : cs + M'.2.2.2.1.cells = cs') (h2 : sl + M'.2.2.2.1.slots = sl') (hcells : cs' ≤ M.2.2.2.1.cells) (hslots : sl' ≤ M.2.2.2.1.slots) (d : At M.1 pc (.invokespecial idx) 3 pc')
    (kk : ∀ q : Nat → Nat, GN Q X M (C (nca X) q) cs' sl' pc' lv st) : GN Q X M ws cs sl pc lv stk := by
  obtain ⟨p, l, e, s, m, args, below, meth, c, D, ca, base⟩ := X
  obtain ⟨d1, rfl⟩ := d
  subst h1; subst h2
  intro F H locs ls hP hD hS hl
  have hM := hC l D ca base
  obtain ⟨hcode, hini, hd, hy1, hinst, hret⟩ := ok
  rw [hret] at hM
  have hts := F.2.2.2.2.1
  have hG := tb_tb hcode
  have hpre : PreS s H (va_Pc (.ref b :: As) (WN D ca base ws)) (.ref b :: As) := ⟨WN.blind, fun U hU hW => ⟨rfl, by rw [hU]; exact hP, hD, va_K.moved hW.alike F.2.2.2.2.2.1, fun w hw => nest_warm hw hW (F.2.2.2.2.2.2.1 w hw), AOs.moved hW.alike F.2.2.2.2.2.2.2.1, by rw [hU]; exact Nat.le_trans F.2.2.2.2.2.2.2.2.2.2 hS.1⟩⟩
  have hr : va_Run p l e M.2.2.2.1 s m args below meth c H locs cs sl M'.2.2.2.1.cells M'.2.2.2.1.slots (F0 m pc ls stk) st (QN D base (C ca) (Value.ref b :: As).toArray) (AB base) := by
    rcases lk with lk | ⟨host, lk⟩
    · exact va_runI (Ts := tb) ⟨F.1, F.2.1, F.2.2.1, F.2.2.2.1, hts⟩ hM ⟨callB_of n hts hG rfl rfl rfl (hts _ hini) (hts _ lk) hd fit, hy1, hts _ hinst⟩ hpre rfl hn hl.1 hst (lv_room hroom) d1 ⟨hcells, hslots⟩
    · exact va_runIN (Ts := tb) ⟨F.1, F.2.1, F.2.2.1, F.2.2.2.1, hts⟩ hM ⟨va_cnB n hts hG rfl rfl rfl (F.2.2.2.2.2.2.1 _ lk) (hts _ hini) hd fit, hy1, hts _ hinst⟩ hpre rfl hn hl.1 hst (lv_room hroom) d1 ⟨hcells, hslots⟩
  intro T hT XX
  obtain ⟨v', st₀, t, T', L, h0, X', hL, e1, e2, ⟨hv, ⟨q, hP1, hD1⟩, hz, hk⟩, stp⟩ := hr T hT XX
  cases hv
  rw [h0] at hz hk
  obtain ⟨t2, a1, b1⟩ := kk q F T'.heap (locs ++ L) ls (by rw [e1]; exact hP1) hD1
    ⟨Nat.le_trans hS.1 (by rw [e1]; exact hz), fun q h1 h2 => by rw [e1, hk q (Nat.lt_of_lt_of_le h1 hS.1) h2]; exact hS.2.1 q h1 h2, fun q hq => by
      rcases List.mem_append.mp hq with h | h
      · exact hS.2.2 q h
      · exact hL q h⟩ hl T' rfl X'
  exact ⟨t2, stp t2 a1, b1⟩
theorem va_Dn {A : Nat → Prop} {ws : va_W} (h : va_D A ws) : (ws.map Prod.fst).Nodup := by
  refine List.pairwise_iff_getElem.mpr fun i j hi hj hij e => ?_
  rw [List.length_map] at hi hj
  rw [List.getElem_map, List.getElem_map] at e
  have := h.1 i j ws[i] ws[j] (List.getElem?_eq_getElem hi) (List.getElem?_eq_getElem hj) e
  omega
theorem va_Dp {A : Nat → Prop} {ws ws' : va_W} (h : va_D A ws) (hp : List.Perm ws ws') : va_D A ws' := by
  have hn : (ws'.map Prod.fst).Nodup := (hp.map Prod.fst).nodup_iff.mp (va_Dn h)
  refine ⟨fun i j p q hi hj e => ?_, fun k q hk => ?_⟩
  · have hl := (List.getElem?_eq_some_iff.mp hi).1
    refine (List.getElem?_inj (l := ws'.map Prod.fst) (by simpa using hl) hn).mp ?_
    rw [List.getElem?_map, List.getElem?_map, hi, hj]
    simp [e]
  · obtain ⟨i, hi⟩ := List.getElem?_of_mem (hp.mem_iff.mpr (List.mem_of_getElem? hk))
    exact h.2 i q hi
theorem n_perm {Q : State → Prop} {X : NX} {M : MI} {ws : va_W} (ws' : va_W) {cs sl pc : Nat} {lv : List (Nat × Value)} {st : List Value} (hp : List.Perm ws ws') (k : GN Q X M ws' cs sl pc lv st) : GN Q X M ws cs sl pc lv st :=
  fun F H locs ls hP hD hS hl => k F H locs ls (va_Pm hP (fun q hq => hp.mem_iff.mpr hq)) (va_Dp hD hp) hS hl
theorem n_ws {Q : State → Prop} {X : NX} {M : MI} {ws : va_W} (ws' : va_W) {cs sl pc : Nat} {lv : List (Nat × Value)} {st : List Value} (hw : ws = ws') (k : GN Q X M ws' cs sl pc lv st) : GN Q X M ws cs sl pc lv st := hw ▸ k
