abbrev Mem : Type := (Nat → Nat → Nat → Int32) × (Nat → Nat → Nat → Int64) × (Nat → Nat → Nat → Option Nat)
def uI (σ : Mem) (c k j : Nat) (v : Int32) : Mem := (fun c' k' j' => if c' = c ∧ k' = k ∧ j' = j then v else σ.1 c' k' j', σ.2.1, σ.2.2)
def uJ (σ : Mem) (c k j : Nat) (v : Int64) : Mem := (σ.1, fun c' k' j' => if c' = c ∧ k' = k ∧ j' = j then v else σ.2.1 c' k' j', σ.2.2)
def uR (σ : Mem) (c k j : Nat) (v : Option Nat) : Mem := (σ.1, σ.2.1, fun c' k' j' => if c' = c ∧ k' = k ∧ j' = j then v else σ.2.2 c' k' j')
/-- a whole array of ints, or of longs, is another one -/
def aI (σ : Mem) (c k : Nat) (f : Nat → Int32) : Mem := (fun c' k' j' => if c' = c ∧ k' = k then f j' else σ.1 c' k' j', σ.2.1, σ.2.2)
def aJ (σ : Mem) (c k : Nat) (f : Nat → Int64) : Mem := (σ.1, fun c' k' j' => if c' = c ∧ k' = k then f j' else σ.2.1 c' k' j', σ.2.2)
abbrev SH : Type := (Nat × List (Nat × Nat × Nat)) ⊕ (Nat × Nat × Nat × Nat)
def shT : List SH := [
  .inl (7, [(3, 1, 0), (3, 2, 0), (3, 26, 0), (3, 69, 0), (3, 3, 0), (3, 85, 0), (3, 90, 0), (3, 24, 0), (3, 93, 0), (3, 68, 0), (3, 96, 0), (3, 97, 0), (0, 712, 0), (0, 713, 0), (1, 714, 0), (1, 715, 0)]),
  .inr (3, 6, 700, 0),
  .inr (3, 4, 701, 6),
  .inr (5, 3, 704, 1),
  .inl (4, [(3, 5, 0), (0, 401, 0)]),
  .inr (0, 40, 400, 0),
  .inl (4, [(3, 7, 0), (0, 401, 1)]),
  .inr (0, 40, 400, 1),
  .inl (4, [(3, 9, 0), (0, 401, 2)]),
  .inr (0, 40, 400, 2),
  .inl (4, [(3, 11, 0), (0, 401, 3)]),
  .inr (0, 40, 400, 3),
  .inl (4, [(3, 13, 0), (0, 401, 4)]),
  .inr (0, 40, 400, 4),
  .inl (4, [(3, 15, 0), (0, 401, 5)]),
  .inr (0, 40, 400, 5),
  .inl (4, [(3, 17, 0), (0, 401, 6)]),
  .inr (0, 60, 400, 6),
  .inl (4, [(3, 19, 0), (0, 401, 7)]),
  .inr (0, 60, 400, 7),
  .inl (4, [(3, 21, 0), (0, 401, 8)]),
  .inr (0, 60, 400, 8),
  .inl (4, [(3, 23, 0), (0, 401, 9)]),
  .inr (0, 60, 400, 9),
  .inl (4, [(3, 25, 0), (0, 401, 10)]),
  .inr (0, 16, 400, 10),
  .inl (3, [(3, 27, 0), (0, 301, 0)]),
  .inr (6, 8, 300, 32),
  .inl (1, [(0, 100, 0), (0, 101, 0), (0, 102, 0), (0, 103, 0), (2, 104, 0)]),
  .inl (1, [(0, 100, 1), (0, 101, 1), (0, 102, 1), (0, 103, 1), (2, 104, 1)]),
  .inl (1, [(0, 100, 2), (0, 101, 2), (0, 102, 2), (0, 103, 2), (2, 104, 2)]),
  .inl (1, [(0, 100, 3), (0, 101, 3), (0, 102, 3), (0, 103, 3), (2, 104, 3)]),
  .inl (1, [(0, 100, 4), (0, 101, 4), (0, 102, 4), (0, 103, 4), (2, 104, 4)]),
  .inl (1, [(0, 100, 5), (0, 101, 5), (0, 102, 5), (0, 103, 5), (2, 104, 5)]),
  .inl (1, [(0, 100, 6), (0, 101, 6), (0, 102, 6), (0, 103, 6), (2, 104, 6)]),
  .inl (1, [(0, 100, 7), (0, 101, 7), (0, 102, 7), (0, 103, 7), (2, 104, 7)]),
  .inl (1, [(0, 100, 8), (0, 101, 8), (0, 102, 8), (0, 103, 8), (2, 104, 8)]),
  .inl (1, [(0, 100, 9), (0, 101, 9), (0, 102, 9), (0, 103, 9), (2, 104, 9)]),
  .inl (1, [(0, 100, 10), (0, 101, 10), (0, 102, 10), (0, 103, 10), (2, 104, 10)]),
  .inl (1, [(0, 100, 11), (0, 101, 11), (0, 102, 11), (0, 103, 11), (2, 104, 11)]),
  .inl (1, [(0, 100, 12), (0, 101, 12), (0, 102, 12), (0, 103, 12), (2, 104, 12)]),
  .inl (1, [(0, 100, 13), (0, 101, 13), (0, 102, 13), (0, 103, 13), (2, 104, 13)]),
  .inl (1, [(0, 100, 14), (0, 101, 14), (0, 102, 14), (0, 103, 14), (2, 104, 14)]),
  .inl (1, [(0, 100, 15), (0, 101, 15), (0, 102, 15), (0, 103, 15), (2, 104, 15)]),
  .inl (1, [(0, 100, 16), (0, 101, 16), (0, 102, 16), (0, 103, 16), (2, 104, 16)]),
  .inl (1, [(0, 100, 17), (0, 101, 17), (0, 102, 17), (0, 103, 17), (2, 104, 17)]),
  .inl (1, [(0, 100, 18), (0, 101, 18), (0, 102, 18), (0, 103, 18), (2, 104, 18)]),
  .inl (1, [(0, 100, 19), (0, 101, 19), (0, 102, 19), (0, 103, 19), (2, 104, 19)]),
  .inl (1, [(0, 100, 20), (0, 101, 20), (0, 102, 20), (0, 103, 20), (2, 104, 20)]),
  .inl (1, [(0, 100, 21), (0, 101, 21), (0, 102, 21), (0, 103, 21), (2, 104, 21)]),
  .inl (1, [(0, 100, 22), (0, 101, 22), (0, 102, 22), (0, 103, 22), (2, 104, 22)]),
  .inl (1, [(0, 100, 23), (0, 101, 23), (0, 102, 23), (0, 103, 23), (2, 104, 23)]),
  .inl (1, [(0, 100, 24), (0, 101, 24), (0, 102, 24), (0, 103, 24), (2, 104, 24)]),
  .inl (1, [(0, 100, 25), (0, 101, 25), (0, 102, 25), (0, 103, 25), (2, 104, 25)]),
  .inl (1, [(0, 100, 26), (0, 101, 26), (0, 102, 26), (0, 103, 26), (2, 104, 26)]),
  .inl (1, [(0, 100, 27), (0, 101, 27), (0, 102, 27), (0, 103, 27), (2, 104, 27)]),
  .inl (1, [(0, 100, 28), (0, 101, 28), (0, 102, 28), (0, 103, 28), (2, 104, 28)]),
  .inl (1, [(0, 100, 29), (0, 101, 29), (0, 102, 29), (0, 103, 29), (2, 104, 29)]),
  .inl (1, [(0, 100, 30), (0, 101, 30), (0, 102, 30), (0, 103, 30), (2, 104, 30)]),
  .inl (1, [(0, 100, 31), (0, 101, 31), (0, 102, 31), (0, 103, 31), (2, 104, 31)]),
  .inl (1, [(0, 100, 32), (0, 101, 32), (0, 102, 32), (0, 103, 32), (2, 104, 32)]),
  .inl (1, [(0, 100, 33), (0, 101, 33), (0, 102, 33), (0, 103, 33), (2, 104, 33)]),
  .inl (1, [(0, 100, 34), (0, 101, 34), (0, 102, 34), (0, 103, 34), (2, 104, 34)]),
  .inl (1, [(0, 100, 35), (0, 101, 35), (0, 102, 35), (0, 103, 35), (2, 104, 35)]),
  .inl (1, [(0, 100, 36), (0, 101, 36), (0, 102, 36), (0, 103, 36), (2, 104, 36)]),
  .inl (1, [(0, 100, 37), (0, 101, 37), (0, 102, 37), (0, 103, 37), (2, 104, 37)]),
  .inl (1, [(0, 100, 38), (0, 101, 38), (0, 102, 38), (0, 103, 38), (2, 104, 38)]),
  .inl (1, [(0, 100, 39), (0, 101, 39), (0, 102, 39), (0, 103, 39), (2, 104, 39)]),
  .inl (1, [(0, 100, 40), (0, 101, 40), (0, 102, 40), (0, 103, 40), (2, 104, 40)]),
  .inl (2, [(3, 70, 0), (3, 71, 0), (3, 72, 0), (0, 203, 0), (0, 204, 0)]),
  .inr (4, 8, 200, 0),
  .inr (1, 40, 201, 0),
  .inr (0, 6, 202, 0),
  .inl (2, [(3, 74, 0), (3, 75, 0), (3, 76, 0), (0, 203, 1), (0, 204, 1)]),
  .inr (4, 8, 200, 1),
  .inr (1, 40, 201, 1),
  .inr (0, 6, 202, 1),
  .inl (2, [(3, 78, 0), (3, 79, 0), (3, 80, 0), (0, 203, 2), (0, 204, 2)]),
  .inr (4, 8, 200, 2),
  .inr (1, 40, 201, 2),
  .inr (0, 6, 202, 2),
  .inl (2, [(3, 82, 0), (3, 83, 0), (3, 84, 0), (0, 203, 3), (0, 204, 3)]),
  .inr (4, 8, 200, 3),
  .inr (1, 40, 201, 3),
  .inr (0, 6, 202, 3),
  .inl (6, [(3, 86, 0), (3, 87, 0), (3, 88, 0), (3, 89, 0), (1, 604, 0), (0, 605, 0)]),
  .inr (1, 42, 600, 0),
  .inr (0, 42, 601, 0),
  .inr (1, 714, 602, 0),
  .inr (0, 42, 603, 0),
  .inl (0, [(3, 91, 0), (3, 92, 0), (0, 2, 0), (0, 3, 0), (0, 4, 0)]),
  .inr (1, 1296, 0, 0),
  .inr (0, 2048, 1, 0),
  .inl (5, [(3, 94, 0), (3, 95, 0), (0, 502, 0), (5, 503, 0)]),
  .inr (0, 8, 500, 0),
  .inr (0, 8, 501, 0),
  .inr (1, 61, 710, 0),
  .inr (0, 6, 711, 0),
  .inl (8, [(0, 800, 0), (3, 99, 0), (0, 802, 0), (1, 803, 0), (1, 804, 0), (3, 100, 0), (3, 101, 0), (3, 102, 0), (3, 103, 0), (3, 104, 0), (0, 810, 0), (3, 105, 0), (0, 812, 0), (0, 813, 0), (3, 106, 0), (3, 107, 0), (0, 816, 0), (3, 108, 0), (0, 818, 0), (3, 109, 0), (3, 110, 0), (3, 111, 0), (3, 112, 0), (0, 823, 0), (3, 113, 0), (3, 114, 0), (0, 826, 0), (3, 115, 0), (3, 116, 0), (3, 117, 0), (1, 830, 0)]),
  .inr (0, 6, 801, 0),
  .inr (0, 6, 805, 0),
  .inr (0, 240, 806, 0),
  .inr (0, 40, 807, 0),
  .inr (0, 4, 808, 0),
  .inr (0, 240, 809, 0),
  .inr (0, 40, 811, 0),
  .inr (0, 40, 814, 0),
  .inr (0, 8, 815, 0),
  .inr (0, 16, 817, 0),
  .inr (0, 61, 819, 0),
  .inr (0, 488, 820, 0),
  .inr (0, 16, 821, 0),
  .inr (0, 16, 822, 0),
  .inr (1, 1296, 824, 0),
  .inr (2, 64, 825, 0),
  .inr (0, 6, 827, 0),
  .inr (0, 680, 828, 0),
  .inr (0, 2181, 829, 0)] 
def NO : Nat := 118
def shp (o : Nat) : SH := shT.getD o (.inl (0, []))
abbrev classes : List vw_C := [(RX0, TX0, 5), (RX1, TX1, 5), (RX2, TX2, 5), (RX3, TX3, 2), (RX4, TX4, 2), (RX5, TX5, 4), (RX6, TX6, 6), (RX7, TX7, 16), (RX8, TX8, 31)]
def akc (k : Nat) : Nat := if k = 6 then 4 else k
def fv (ad : Nat → Nat) (σ : Mem) (q : Nat × Nat × Nat) : Value := match q.1 with
  | 0 => .int (σ.1 q.2.1 q.2.2 0)
  | 1 => .long (σ.2.1 q.2.1 q.2.2 0)
  | 2 => .int (σ.1 q.2.1 q.2.2 0)
  | 3 => .ref (ad q.2.1)
  | _ => va_rf ((σ.2.2 q.2.1 q.2.2 0).map (fun x => ad (69 + 4 * x)))
def av (ad : Nat → Nat) (σ : Mem) (q : Nat × Nat × Nat × Nat) : (Nat → Int32) ⊕ (Nat → Int64) ⊕ (Nat → UInt32) ⊕ (Nat → UInt64) ⊕ (Nat → Option Nat) := match q.1 with
  | 0 => .inl (σ.1 q.2.2.1 q.2.2.2)
  | 1 => .inr (.inl (σ.2.1 q.2.2.1 q.2.2.2))
  | 2 => .inl (σ.1 q.2.2.1 q.2.2.2)
  | 3 => .inr (.inr (.inr (.inr (fun j => some (ad (4 + 2 * (q.2.2.2 + j)))))))
  | 4 => .inr (.inr (.inr (.inr (fun j => (σ.2.2 q.2.2.1 q.2.2.2 j).map (fun x => ad (28 + x))))))
  | 5 => .inr (.inr (.inr (.inr (fun j => some (ad (69 + 4 * (q.2.2.2 + j)))))))
  | _ => .inr (.inr (.inr (.inr (fun j => some (ad (28 + (q.2.2.2 + j)))))))
def cel (ca : Nat → ClassId) (ad : Nat → Nat) (σ : Mem) (o : Nat) : va_E := match shp o with
  | .inl q => .inr (q.1, q.2.map (fv ad σ))
  | .inr q => .inl (ca (akc q.1), q.2.1, av ad σ q)
def wld (ca : Nat → ClassId) (ad : Nat → Nat) (σ : Mem) : va_W := (List.range NO).map fun o => (ad o, cel ca ad σ o)
def tys (ca : Nat → ClassId) : List (ClassId × FieldType) := [(ca 0, .int), (ca 1, .long), (ca 2, .boolean), (ca 3, .object RX4), (ca 4, .object RX1), (ca 5, .object RX2)]
/-- the cells of the world: which may change -/
def AD (ad : Nat → Nat) : Nat → Prop := fun q => ∃ o, o < NO ∧ ad o = q
theorem wld_at {ca : Nat → ClassId} {ad : Nat → Nat} {σ : Mem} {o : Nat} (h : o < NO) : (wld ca ad σ)[o]? = some (ad o, cel ca ad σ o) := by
  simp [wld, h]
def LTV (j : Nat) : Int32 := [108, 98, 100, 115, 117, 105].getD j 0
def HVV (j : Nat) : Int64 := [-6148914691236517206, -3689348814741910324, -1085102592571150096, -71777214294589696, -281470681808896, -4294967296].getD j 0
/-- the two tables of the class -/
def ST (A : Nat → Prop) (t1 t2 : Nat) (U : State) (H : Heap) : Prop := va_Z RX7 "LETTERS" "[I" (.ref t1) A U H ∧ va_T .int t1 6 (fun j => .int (LTV j)) A U H ∧ va_Z RX7 "HAVING" "[J" (.ref t2) A U H ∧ va_T .long t2 6 (fun j => .long (HVV j)) A U H
abbrev MI : Type := ByteArray × Nat × String × Room × Option FieldType
abbrev GX : Type := Program × Launch × Env × State × MethodId × Array Value × List Frame × Method × Code × va_G × (Nat → ClassId) × (Nat → Nat) × Nat × Nat × Nat × Nat
abbrev xad (X : GX) : Nat → Nat := X.2.2.2.2.2.2.2.2.2.2.2.1
abbrev xt1 (X : GX) : Nat := X.2.2.2.2.2.2.2.2.2.2.2.2.1
abbrev xt2 (X : GX) : Nat := X.2.2.2.2.2.2.2.2.2.2.2.2.2.1
abbrev xcs (X : GX) : Nat := X.2.2.2.2.2.2.2.2.2.2.2.2.2.2.1
abbrev xsl (X : GX) : Nat := X.2.2.2.2.2.2.2.2.2.2.2.2.2.2.2
def At (cc : ByteArray) (pc : Nat) (i : Instr) (n pc' : Nat) : Prop := decode cc pc = .ok (i, n) ∧ pc + n = pc'
def Fx (M : MI) : GX → Prop := fun (p, _, _, s, m, args, _, meth, c, D, ca, ad, t1, t2, cs, sl) =>
  p.tables.exec = Jvm.exec ∧ c.code = M.1 ∧ c.maxLocals = M.2.1 ∧ s.vm.findClass M.2.2.1 = some m.cls ∧ (∀ w ∈ tb, w.before args s = true) ∧ va_K D classes (tys ca) s ∧ (∀ w ∈ nestW, va_Nw w s) ∧ ST (AD ad) t1 t2 s s.heap ∧ meth.locks = false ∧ meth.sig.returnType = M.2.2.2.2 ∧ (∀ σ, va_D (AD ad) (wld ca ad σ)) ∧ cs ≤ M.2.2.2.1.cells ∧ sl ≤ M.2.2.2.1.slots
def QC (D : va_G) (ca : Nat → ClassId) (ad : Nat → Nat) (v : Option Value) (σ : Mem) : Array Value → State → Outcome → State → Prop := fun _ st oc t => oc = .returned v ∧ va_P D classes (wld ca ad σ) t.heap ∧ va_F (AD ad) st t
def GS {ρ : Type} (K : Mem × ρ → State → Prop) (X : GX) (M : MI) (σ : Mem) (pc : Nat) (lv : List (Nat × Value)) (st : List Value) (o : Option (Mem × ρ)) : Prop :=
  ∀ out, o = some out → Fx M X → ∀ (H : Heap) (locs : List Loc) (ls : Array Slot), va_P X.2.2.2.2.2.2.2.2.2.1 classes (wld X.2.2.2.2.2.2.2.2.2.2.1 (xad X) σ) H → va_S (AD (xad X)) X.2.2.2.1.heap H locs → lv_has ls M.2.1 lv →
    W X.1 X.2.1 X.2.2.1 M.2.2.2.1 X.2.2.2.1 X.2.2.2.2.1 X.2.2.2.2.2.1 X.2.2.2.2.2.2.1 X.2.2.2.2.2.2.2.1 X.2.2.2.2.2.2.2.2.1 H locs (xcs X) (xsl X) (K out) (F0 X.2.2.2.2.1 pc ls st)
theorem g_iadd {ρ : Type} {K : Mem × ρ → State → Prop} {X : GX} {M : MI} {σ : Mem} {pc pc' : Nat} {lv : List (Nat × Value)} {st : List Value} {o : Option (Mem × ρ)} {x y : Int32} (d : At M.1 pc (.iadd) 1 pc')  (k : GS K X M σ pc' lv (.int (x + y) :: st) o) : GS K X M σ pc lv (.int y :: .int x :: st) o := by
  obtain ⟨p, l, e, s, m, args, below, meth, c, D, ca, ad, t1, t2, cs, sl⟩ := X
  obtain ⟨d1, rfl⟩ := d
  intro out ho F H locs ls hP hS hl
  exact lv_iadd F.1 F.2.1 d1  (k out ho F H locs ls hP hS hl)
theorem g_isub {ρ : Type} {K : Mem × ρ → State → Prop} {X : GX} {M : MI} {σ : Mem} {pc pc' : Nat} {lv : List (Nat × Value)} {st : List Value} {o : Option (Mem × ρ)} {x y : Int32} (d : At M.1 pc (.isub) 1 pc')  (k : GS K X M σ pc' lv (.int (x - y) :: st) o) : GS K X M σ pc lv (.int y :: .int x :: st) o := by
  obtain ⟨p, l, e, s, m, args, below, meth, c, D, ca, ad, t1, t2, cs, sl⟩ := X
  obtain ⟨d1, rfl⟩ := d
  intro out ho F H locs ls hP hS hl
  exact lv_isub F.1 F.2.1 d1  (k out ho F H locs ls hP hS hl)
theorem g_imul {ρ : Type} {K : Mem × ρ → State → Prop} {X : GX} {M : MI} {σ : Mem} {pc pc' : Nat} {lv : List (Nat × Value)} {st : List Value} {o : Option (Mem × ρ)} {x y : Int32} (d : At M.1 pc (.imul) 1 pc')  (k : GS K X M σ pc' lv (.int (x * y) :: st) o) : GS K X M σ pc lv (.int y :: .int x :: st) o := by
  obtain ⟨p, l, e, s, m, args, below, meth, c, D, ca, ad, t1, t2, cs, sl⟩ := X
  obtain ⟨d1, rfl⟩ := d
  intro out ho F H locs ls hP hS hl
  exact lv_imul F.1 F.2.1 d1  (k out ho F H locs ls hP hS hl)
theorem g_iand {ρ : Type} {K : Mem × ρ → State → Prop} {X : GX} {M : MI} {σ : Mem} {pc pc' : Nat} {lv : List (Nat × Value)} {st : List Value} {o : Option (Mem × ρ)} {x y : Int32} (d : At M.1 pc (.iand) 1 pc')  (k : GS K X M σ pc' lv (.int (x &&& y) :: st) o) : GS K X M σ pc lv (.int y :: .int x :: st) o := by
  obtain ⟨p, l, e, s, m, args, below, meth, c, D, ca, ad, t1, t2, cs, sl⟩ := X
  obtain ⟨d1, rfl⟩ := d
  intro out ho F H locs ls hP hS hl
  exact lv_iand F.1 F.2.1 d1  (k out ho F H locs ls hP hS hl)
theorem g_ior {ρ : Type} {K : Mem × ρ → State → Prop} {X : GX} {M : MI} {σ : Mem} {pc pc' : Nat} {lv : List (Nat × Value)} {st : List Value} {o : Option (Mem × ρ)} {x y : Int32} (d : At M.1 pc (.ior) 1 pc')  (k : GS K X M σ pc' lv (.int (x ||| y) :: st) o) : GS K X M σ pc lv (.int y :: .int x :: st) o := by
  obtain ⟨p, l, e, s, m, args, below, meth, c, D, ca, ad, t1, t2, cs, sl⟩ := X
  obtain ⟨d1, rfl⟩ := d
  intro out ho F H locs ls hP hS hl
  exact lv_ior F.1 F.2.1 d1  (k out ho F H locs ls hP hS hl)
theorem g_ixor {ρ : Type} {K : Mem × ρ → State → Prop} {X : GX} {M : MI} {σ : Mem} {pc pc' : Nat} {lv : List (Nat × Value)} {st : List Value} {o : Option (Mem × ρ)} {x y : Int32} (d : At M.1 pc (.ixor) 1 pc')  (k : GS K X M σ pc' lv (.int (x ^^^ y) :: st) o) : GS K X M σ pc lv (.int y :: .int x :: st) o := by
  obtain ⟨p, l, e, s, m, args, below, meth, c, D, ca, ad, t1, t2, cs, sl⟩ := X
  obtain ⟨d1, rfl⟩ := d
  intro out ho F H locs ls hP hS hl
  exact lv_ixor F.1 F.2.1 d1  (k out ho F H locs ls hP hS hl)
theorem g_ishl {ρ : Type} {K : Mem × ρ → State → Prop} {X : GX} {M : MI} {σ : Mem} {pc pc' : Nat} {lv : List (Nat × Value)} {st : List Value} {o : Option (Mem × ρ)} {x y : Int32} (d : At M.1 pc (.ishl) 1 pc')  (k : GS K X M σ pc' lv (.int (x <<< (y &&& 31)) :: st) o) : GS K X M σ pc lv (.int y :: .int x :: st) o := by
  obtain ⟨p, l, e, s, m, args, below, meth, c, D, ca, ad, t1, t2, cs, sl⟩ := X
  obtain ⟨d1, rfl⟩ := d
  intro out ho F H locs ls hP hS hl
  exact lv_ishl F.1 F.2.1 d1  (k out ho F H locs ls hP hS hl)
theorem g_ishr {ρ : Type} {K : Mem × ρ → State → Prop} {X : GX} {M : MI} {σ : Mem} {pc pc' : Nat} {lv : List (Nat × Value)} {st : List Value} {o : Option (Mem × ρ)} {x y : Int32} (d : At M.1 pc (.ishr) 1 pc')  (k : GS K X M σ pc' lv (.int (x >>> (y &&& 31)) :: st) o) : GS K X M σ pc lv (.int y :: .int x :: st) o := by
  obtain ⟨p, l, e, s, m, args, below, meth, c, D, ca, ad, t1, t2, cs, sl⟩ := X
  obtain ⟨d1, rfl⟩ := d
  intro out ho F H locs ls hP hS hl
  exact lv_ishr F.1 F.2.1 d1  (k out ho F H locs ls hP hS hl)
theorem g_ladd {ρ : Type} {K : Mem × ρ → State → Prop} {X : GX} {M : MI} {σ : Mem} {pc pc' : Nat} {lv : List (Nat × Value)} {st : List Value} {o : Option (Mem × ρ)} {x y : Int64} (d : At M.1 pc (.ladd) 1 pc')  (k : GS K X M σ pc' lv (.long (x + y) :: st) o) : GS K X M σ pc lv (.long y :: .long x :: st) o := by
  obtain ⟨p, l, e, s, m, args, below, meth, c, D, ca, ad, t1, t2, cs, sl⟩ := X
  obtain ⟨d1, rfl⟩ := d
  intro out ho F H locs ls hP hS hl
  exact lv_ladd F.1 F.2.1 d1  (k out ho F H locs ls hP hS hl)
theorem g_lsub {ρ : Type} {K : Mem × ρ → State → Prop} {X : GX} {M : MI} {σ : Mem} {pc pc' : Nat} {lv : List (Nat × Value)} {st : List Value} {o : Option (Mem × ρ)} {x y : Int64} (d : At M.1 pc (.lsub) 1 pc')  (k : GS K X M σ pc' lv (.long (x - y) :: st) o) : GS K X M σ pc lv (.long y :: .long x :: st) o := by
  obtain ⟨p, l, e, s, m, args, below, meth, c, D, ca, ad, t1, t2, cs, sl⟩ := X
  obtain ⟨d1, rfl⟩ := d
  intro out ho F H locs ls hP hS hl
  exact lv_lsub F.1 F.2.1 d1  (k out ho F H locs ls hP hS hl)
theorem g_lmul {ρ : Type} {K : Mem × ρ → State → Prop} {X : GX} {M : MI} {σ : Mem} {pc pc' : Nat} {lv : List (Nat × Value)} {st : List Value} {o : Option (Mem × ρ)} {x y : Int64} (d : At M.1 pc (.lmul) 1 pc')  (k : GS K X M σ pc' lv (.long (x * y) :: st) o) : GS K X M σ pc lv (.long y :: .long x :: st) o := by
  obtain ⟨p, l, e, s, m, args, below, meth, c, D, ca, ad, t1, t2, cs, sl⟩ := X
  obtain ⟨d1, rfl⟩ := d
  intro out ho F H locs ls hP hS hl
  exact lv_lmul F.1 F.2.1 d1  (k out ho F H locs ls hP hS hl)
theorem g_land {ρ : Type} {K : Mem × ρ → State → Prop} {X : GX} {M : MI} {σ : Mem} {pc pc' : Nat} {lv : List (Nat × Value)} {st : List Value} {o : Option (Mem × ρ)} {x y : Int64} (d : At M.1 pc (.land) 1 pc')  (k : GS K X M σ pc' lv (.long (x &&& y) :: st) o) : GS K X M σ pc lv (.long y :: .long x :: st) o := by
  obtain ⟨p, l, e, s, m, args, below, meth, c, D, ca, ad, t1, t2, cs, sl⟩ := X
  obtain ⟨d1, rfl⟩ := d
  intro out ho F H locs ls hP hS hl
  exact lv_land F.1 F.2.1 d1  (k out ho F H locs ls hP hS hl)
theorem g_lor {ρ : Type} {K : Mem × ρ → State → Prop} {X : GX} {M : MI} {σ : Mem} {pc pc' : Nat} {lv : List (Nat × Value)} {st : List Value} {o : Option (Mem × ρ)} {x y : Int64} (d : At M.1 pc (.lor) 1 pc')  (k : GS K X M σ pc' lv (.long (x ||| y) :: st) o) : GS K X M σ pc lv (.long y :: .long x :: st) o := by
  obtain ⟨p, l, e, s, m, args, below, meth, c, D, ca, ad, t1, t2, cs, sl⟩ := X
  obtain ⟨d1, rfl⟩ := d
  intro out ho F H locs ls hP hS hl
  exact lv_lor F.1 F.2.1 d1  (k out ho F H locs ls hP hS hl)
theorem g_lxor {ρ : Type} {K : Mem × ρ → State → Prop} {X : GX} {M : MI} {σ : Mem} {pc pc' : Nat} {lv : List (Nat × Value)} {st : List Value} {o : Option (Mem × ρ)} {x y : Int64} (d : At M.1 pc (.lxor) 1 pc')  (k : GS K X M σ pc' lv (.long (x ^^^ y) :: st) o) : GS K X M σ pc lv (.long y :: .long x :: st) o := by
  obtain ⟨p, l, e, s, m, args, below, meth, c, D, ca, ad, t1, t2, cs, sl⟩ := X
  obtain ⟨d1, rfl⟩ := d
  intro out ho F H locs ls hP hS hl
  exact lv_lxor F.1 F.2.1 d1  (k out ho F H locs ls hP hS hl)
theorem g_ineg {ρ : Type} {K : Mem × ρ → State → Prop} {X : GX} {M : MI} {σ : Mem} {pc pc' : Nat} {lv : List (Nat × Value)} {st : List Value} {o : Option (Mem × ρ)} {x : Int32} (d : At M.1 pc (.ineg) 1 pc')  (k : GS K X M σ pc' lv (.int (-x) :: st) o) : GS K X M σ pc lv (.int x :: st) o := by
  obtain ⟨p, l, e, s, m, args, below, meth, c, D, ca, ad, t1, t2, cs, sl⟩ := X
  obtain ⟨d1, rfl⟩ := d
  intro out ho F H locs ls hP hS hl
  exact lv_ineg F.1 F.2.1 d1  (k out ho F H locs ls hP hS hl)
theorem g_i2l {ρ : Type} {K : Mem × ρ → State → Prop} {X : GX} {M : MI} {σ : Mem} {pc pc' : Nat} {lv : List (Nat × Value)} {st : List Value} {o : Option (Mem × ρ)} {x : Int32} (d : At M.1 pc (.i2l) 1 pc')  (k : GS K X M σ pc' lv (.long x.toInt64 :: st) o) : GS K X M σ pc lv (.int x :: st) o := by
  obtain ⟨p, l, e, s, m, args, below, meth, c, D, ca, ad, t1, t2, cs, sl⟩ := X
  obtain ⟨d1, rfl⟩ := d
  intro out ho F H locs ls hP hS hl
  exact lv_i2l F.1 F.2.1 d1 rfl (k out ho F H locs ls hP hS hl)
theorem g_l2i {ρ : Type} {K : Mem × ρ → State → Prop} {X : GX} {M : MI} {σ : Mem} {pc pc' : Nat} {lv : List (Nat × Value)} {st : List Value} {o : Option (Mem × ρ)} {x : Int64} (d : At M.1 pc (.l2i) 1 pc')  (k : GS K X M σ pc' lv (.int x.toInt32 :: st) o) : GS K X M σ pc lv (.long x :: st) o := by
  obtain ⟨p, l, e, s, m, args, below, meth, c, D, ca, ad, t1, t2, cs, sl⟩ := X
  obtain ⟨d1, rfl⟩ := d
  intro out ho F H locs ls hP hS hl
  exact lv_l2i F.1 F.2.1 d1 rfl (k out ho F H locs ls hP hS hl)
theorem g_i2b {ρ : Type} {K : Mem × ρ → State → Prop} {X : GX} {M : MI} {σ : Mem} {pc pc' : Nat} {lv : List (Nat × Value)} {st : List Value} {o : Option (Mem × ρ)} {x : Int32} (d : At M.1 pc (.i2b) 1 pc')  (k : GS K X M σ pc' lv (.int x.toInt8.toInt32 :: st) o) : GS K X M σ pc lv (.int x :: st) o := by
  obtain ⟨p, l, e, s, m, args, below, meth, c, D, ca, ad, t1, t2, cs, sl⟩ := X
  obtain ⟨d1, rfl⟩ := d
  intro out ho F H locs ls hP hS hl
  exact lv_i2b F.1 F.2.1 d1 rfl (k out ho F H locs ls hP hS hl)
theorem g_iushr {ρ : Type} {K : Mem × ρ → State → Prop} {X : GX} {M : MI} {σ : Mem} {pc pc' : Nat} {lv : List (Nat × Value)} {st : List Value} {o : Option (Mem × ρ)} {x y : Int32} (d : At M.1 pc (.iushr) 1 pc')  (k : GS K X M σ pc' lv (.int (x.toUInt32 >>> (y.toUInt32 &&& Int32.toUInt32 31)).toInt32 :: st) o) : GS K X M σ pc lv (.int y :: .int x :: st) o := by
  obtain ⟨p, l, e, s, m, args, below, meth, c, D, ca, ad, t1, t2, cs, sl⟩ := X
  obtain ⟨d1, rfl⟩ := d
  intro out ho F H locs ls hP hS hl
  exact lv_iushr F.1 F.2.1 d1 rfl (k out ho F H locs ls hP hS hl)
theorem g_lushr {ρ : Type} {K : Mem × ρ → State → Prop} {X : GX} {M : MI} {σ : Mem} {pc pc' : Nat} {lv : List (Nat × Value)} {st : List Value} {o : Option (Mem × ρ)} {x : Int64} {y : Int32} (d : At M.1 pc (.lushr) 1 pc')  (k : GS K X M σ pc' lv (.long (x.toUInt64 >>> (y.toInt64.toUInt64 &&& Int64.toUInt64 63)).toInt64 :: st) o) : GS K X M σ pc lv (.int y :: .long x :: st) o := by
  obtain ⟨p, l, e, s, m, args, below, meth, c, D, ca, ad, t1, t2, cs, sl⟩ := X
  obtain ⟨d1, rfl⟩ := d
  intro out ho F H locs ls hP hS hl
  exact lv_lushr F.1 F.2.1 d1 rfl (k out ho F H locs ls hP hS hl)
theorem g_lshl {ρ : Type} {K : Mem × ρ → State → Prop} {X : GX} {M : MI} {σ : Mem} {pc pc' : Nat} {lv : List (Nat × Value)} {st : List Value} {o : Option (Mem × ρ)} {x : Int64} {y : Int32} (d : At M.1 pc (.lshl) 1 pc')  (k : GS K X M σ pc' lv (.long (x <<< (y.toInt64 &&& 63)) :: st) o) : GS K X M σ pc lv (.int y :: .long x :: st) o := by
  obtain ⟨p, l, e, s, m, args, below, meth, c, D, ca, ad, t1, t2, cs, sl⟩ := X
  obtain ⟨d1, rfl⟩ := d
  intro out ho F H locs ls hP hS hl
  exact lv_lshl F.1 F.2.1 d1 rfl (k out ho F H locs ls hP hS hl)
theorem g_lshr {ρ : Type} {K : Mem × ρ → State → Prop} {X : GX} {M : MI} {σ : Mem} {pc pc' : Nat} {lv : List (Nat × Value)} {st : List Value} {o : Option (Mem × ρ)} {x : Int64} {y : Int32} (d : At M.1 pc (.lshr) 1 pc')  (k : GS K X M σ pc' lv (.long (x >>> (y.toInt64 &&& 63)) :: st) o) : GS K X M σ pc lv (.int y :: .long x :: st) o := by
  obtain ⟨p, l, e, s, m, args, below, meth, c, D, ca, ad, t1, t2, cs, sl⟩ := X
  obtain ⟨d1, rfl⟩ := d
  intro out ho F H locs ls hP hS hl
  exact lv_lshr F.1 F.2.1 d1 rfl (k out ho F H locs ls hP hS hl)
theorem g_lcmp {ρ : Type} {K : Mem × ρ → State → Prop} {X : GX} {M : MI} {σ : Mem} {pc pc' : Nat} {lv : List (Nat × Value)} {st : List Value} {o : Option (Mem × ρ)} {x y : Int64} (d : At M.1 pc (.lcmp) 1 pc')  (k : GS K X M σ pc' lv (.int (lg_cmp x y) :: st) o) : GS K X M σ pc lv (.long y :: .long x :: st) o := by
  obtain ⟨p, l, e, s, m, args, below, meth, c, D, ca, ad, t1, t2, cs, sl⟩ := X
  obtain ⟨d1, rfl⟩ := d
  intro out ho F H locs ls hP hS hl
  exact W.lcmp F.1 F.2.1 d1  (k out ho F H locs ls hP hS hl)
theorem g_iconst {ρ : Type} {K : Mem × ρ → State → Prop} {X : GX} {M : MI} {σ : Mem} {pc pc' : Nat} {lv : List (Nat × Value)} {st : List Value} {o : Option (Mem × ρ)} {n : Int} (v : Int32) (d : At M.1 pc (.iconst n) 1 pc') (hv : Int32.ofInt n = v) (k : GS K X M σ pc' lv (.int v :: st) o) : GS K X M σ pc lv (st) o := by
  obtain ⟨p, l, e, s, m, args, below, meth, c, D, ca, ad, t1, t2, cs, sl⟩ := X
  obtain ⟨d1, rfl⟩ := d
  intro out ho F H locs ls hP hS hl
  exact lv_iconst F.1 F.2.1 d1 hv (k out ho F H locs ls hP hS hl)
theorem g_bipush {ρ : Type} {K : Mem × ρ → State → Prop} {X : GX} {M : MI} {σ : Mem} {pc pc' : Nat} {lv : List (Nat × Value)} {st : List Value} {o : Option (Mem × ρ)} {n : Int} (v : Int32) (d : At M.1 pc (.bipush n) 2 pc') (hv : (Int8.ofInt n).toInt32 = v) (k : GS K X M σ pc' lv (.int v :: st) o) : GS K X M σ pc lv (st) o := by
  obtain ⟨p, l, e, s, m, args, below, meth, c, D, ca, ad, t1, t2, cs, sl⟩ := X
  obtain ⟨d1, rfl⟩ := d
  intro out ho F H locs ls hP hS hl
  exact lv_bipush F.1 F.2.1 d1 hv (k out ho F H locs ls hP hS hl)
theorem g_sipush {ρ : Type} {K : Mem × ρ → State → Prop} {X : GX} {M : MI} {σ : Mem} {pc pc' : Nat} {lv : List (Nat × Value)} {st : List Value} {o : Option (Mem × ρ)} {n : Int} (v : Int32) (d : At M.1 pc (.sipush n) 3 pc') (hv : (Int16.ofInt n).toInt32 = v) (k : GS K X M σ pc' lv (.int v :: st) o) : GS K X M σ pc lv (st) o := by
  obtain ⟨p, l, e, s, m, args, below, meth, c, D, ca, ad, t1, t2, cs, sl⟩ := X
  obtain ⟨d1, rfl⟩ := d
  intro out ho F H locs ls hP hS hl
  exact lv_sipush F.1 F.2.1 d1 hv (k out ho F H locs ls hP hS hl)
theorem g_lconst {ρ : Type} {K : Mem × ρ → State → Prop} {X : GX} {M : MI} {σ : Mem} {pc pc' : Nat} {lv : List (Nat × Value)} {st : List Value} {o : Option (Mem × ρ)} {n : Fin 2} (v : Int64) (d : At M.1 pc (.lconst n) 1 pc') (hv : Int64.ofNat (n : Nat) = v) (k : GS K X M σ pc' lv (.long v :: st) o) : GS K X M σ pc lv (st) o := by
  obtain ⟨p, l, e, s, m, args, below, meth, c, D, ca, ad, t1, t2, cs, sl⟩ := X
  obtain ⟨d1, rfl⟩ := d
  intro out ho F H locs ls hP hS hl
  exact lv_lconst F.1 F.2.1 d1 hv (k out ho F H locs ls hP hS hl)
theorem g_dup {ρ : Type} {K : Mem × ρ → State → Prop} {X : GX} {M : MI} {σ : Mem} {pc pc' : Nat} {lv : List (Nat × Value)} {st : List Value} {o : Option (Mem × ρ)} {v : Value} (d : At M.1 pc (.dup) 1 pc') (hv : v.category = 1) (k : GS K X M σ pc' lv (v :: v :: st) o) : GS K X M σ pc lv (v :: st) o := by
  obtain ⟨p, l, e, s, m, args, below, meth, c, D, ca, ad, t1, t2, cs, sl⟩ := X
  obtain ⟨d1, rfl⟩ := d
  intro out ho F H locs ls hP hS hl
  exact lv_dup F.1 F.2.1 d1 hv (k out ho F H locs ls hP hS hl)
theorem g_pop {ρ : Type} {K : Mem × ρ → State → Prop} {X : GX} {M : MI} {σ : Mem} {pc pc' : Nat} {lv : List (Nat × Value)} {st : List Value} {o : Option (Mem × ρ)} {v : Value} (d : At M.1 pc (.pop) 1 pc') (hv : v.category = 1) (k : GS K X M σ pc' lv (st) o) : GS K X M σ pc lv (v :: st) o := by
  obtain ⟨p, l, e, s, m, args, below, meth, c, D, ca, ad, t1, t2, cs, sl⟩ := X
  obtain ⟨d1, rfl⟩ := d
  intro out ho F H locs ls hP hS hl
  exact lv_pop F.1 F.2.1 d1 hv (k out ho F H locs ls hP hS hl)
theorem g_null {ρ : Type} {K : Mem × ρ → State → Prop} {X : GX} {M : MI} {σ : Mem} {pc pc' : Nat} {lv : List (Nat × Value)} {st : List Value} {o : Option (Mem × ρ)}  (d : At M.1 pc (.aconst_null) 1 pc')  (k : GS K X M σ pc' lv (.null :: st) o) : GS K X M σ pc lv (st) o := by
  obtain ⟨p, l, e, s, m, args, below, meth, c, D, ca, ad, t1, t2, cs, sl⟩ := X
  obtain ⟨d1, rfl⟩ := d
  intro out ho F H locs ls hP hS hl
  exact lv_null F.1 F.2.1 d1  (k out ho F H locs ls hP hS hl)
theorem g_idiv {ρ : Type} {K : Mem × ρ → State → Prop} {X : GX} {M : MI} {σ : Mem} {pc pc' : Nat} {lv : List (Nat × Value)} {st : List Value} {o : Option (Mem × ρ)} {x y : Int32} (d : At M.1 pc .idiv 1 pc') (k : ¬ y = 0 → GS K X M σ pc' lv (.int (x / y) :: st) o) : GS K X M σ pc lv (.int y :: .int x :: st) (if y = 0 then none else o) := by
  obtain ⟨p, l, e, s, m, args, below, meth, c, D, ca, ad, t1, t2, cs, sl⟩ := X
  obtain ⟨d1, rfl⟩ := d
  intro out ho F H locs ls hP hS hl
  have hy : ¬ y = 0 := fun h => by rw [if_pos h] at ho; cases ho
  rw [if_neg hy] at ho
  exact lv_idiv F.1 F.2.1 d1 hy (k hy out ho F H locs ls hP hS hl)
theorem g_irem {ρ : Type} {K : Mem × ρ → State → Prop} {X : GX} {M : MI} {σ : Mem} {pc pc' : Nat} {lv : List (Nat × Value)} {st : List Value} {o : Option (Mem × ρ)} {x y : Int32} (d : At M.1 pc .irem 1 pc') (k : ¬ y = 0 → GS K X M σ pc' lv (.int (x - x / y * y) :: st) o) : GS K X M σ pc lv (.int y :: .int x :: st) (if y = 0 then none else o) := by
  obtain ⟨p, l, e, s, m, args, below, meth, c, D, ca, ad, t1, t2, cs, sl⟩ := X
  obtain ⟨d1, rfl⟩ := d
  intro out ho F H locs ls hP hS hl
  have hy : ¬ y = 0 := fun h => by rw [if_pos h] at ho; cases ho
  rw [if_neg hy] at ho
  exact lv_irem F.1 F.2.1 d1 hy (k hy out ho F H locs ls hP hS hl)
theorem g_ldiv {ρ : Type} {K : Mem × ρ → State → Prop} {X : GX} {M : MI} {σ : Mem} {pc pc' : Nat} {lv : List (Nat × Value)} {st : List Value} {o : Option (Mem × ρ)} {x y : Int64} (d : At M.1 pc .ldiv 1 pc') (k : ¬ y = 0 → GS K X M σ pc' lv (.long (x / y) :: st) o) : GS K X M σ pc lv (.long y :: .long x :: st) (if y = 0 then none else o) := by
  obtain ⟨p, l, e, s, m, args, below, meth, c, D, ca, ad, t1, t2, cs, sl⟩ := X
  obtain ⟨d1, rfl⟩ := d
  intro out ho F H locs ls hP hS hl
  have hy : ¬ y = 0 := fun h => by rw [if_pos h] at ho; cases ho
  rw [if_neg hy] at ho
  exact lv_ldiv F.1 F.2.1 d1 hy (k hy out ho F H locs ls hP hS hl)
theorem g_lrem {ρ : Type} {K : Mem × ρ → State → Prop} {X : GX} {M : MI} {σ : Mem} {pc pc' : Nat} {lv : List (Nat × Value)} {st : List Value} {o : Option (Mem × ρ)} {x y : Int64} (d : At M.1 pc .lrem 1 pc') (k : ¬ y = 0 → GS K X M σ pc' lv (.long (x - x / y * y) :: st) o) : GS K X M σ pc lv (.long y :: .long x :: st) (if y = 0 then none else o) := by
  obtain ⟨p, l, e, s, m, args, below, meth, c, D, ca, ad, t1, t2, cs, sl⟩ := X
  obtain ⟨d1, rfl⟩ := d
  intro out ho F H locs ls hP hS hl
  have hy : ¬ y = 0 := fun h => by rw [if_pos h] at ho; cases ho
  rw [if_neg hy] at ho
  exact lv_lrem F.1 F.2.1 d1 hy (k hy out ho F H locs ls hP hS hl)
theorem g_iload_n {ρ : Type} {K : Mem × ρ → State → Prop} {X : GX} {M : MI} {σ : Mem} {pc pc' : Nat} {lv : List (Nat × Value)} {st : List Value} {o : Option (Mem × ρ)} {k : Fin 4} (q : Nat) {x : Int32} (d : At M.1 pc (.iload_n k) 1 pc') (hq : lv[q]? = some ((k : Nat), .int x)) (kk : GS K X M σ pc' lv (.int x :: st) o) : GS K X M σ pc lv st o := by
  obtain ⟨p, l, e, s, m, args, below, meth, c, D, ca, ad, t1, t2, cs, sl⟩ := X
  obtain ⟨d1, rfl⟩ := d
  intro out ho F H locs ls hP hS hl
  exact lv_iload_n F.1 F.2.1 d1 rfl (lv_at hl q hq) (kk out ho F H locs ls hP hS hl)
theorem g_iload {ρ : Type} {K : Mem × ρ → State → Prop} {X : GX} {M : MI} {σ : Mem} {pc pc' : Nat} {lv : List (Nat × Value)} {st : List Value} {o : Option (Mem × ρ)} {i : Nat} (q : Nat) {x : Int32} (d : At M.1 pc (.iload i) 2 pc') (hq : lv[q]? = some (i, .int x)) (kk : GS K X M σ pc' lv (.int x :: st) o) : GS K X M σ pc lv st o := by
  obtain ⟨p, l, e, s, m, args, below, meth, c, D, ca, ad, t1, t2, cs, sl⟩ := X
  obtain ⟨d1, rfl⟩ := d
  intro out ho F H locs ls hP hS hl
  exact lv_iload F.1 F.2.1 d1 (lv_at hl q hq) (kk out ho F H locs ls hP hS hl)
theorem g_lload_n {ρ : Type} {K : Mem × ρ → State → Prop} {X : GX} {M : MI} {σ : Mem} {pc pc' : Nat} {lv : List (Nat × Value)} {st : List Value} {o : Option (Mem × ρ)} {k : Fin 4} (q : Nat) {x : Int64} (d : At M.1 pc (.lload_n k) 1 pc') (hq : lv[q]? = some ((k : Nat), .long x)) (kk : GS K X M σ pc' lv (.long x :: st) o) : GS K X M σ pc lv st o := by
  obtain ⟨p, l, e, s, m, args, below, meth, c, D, ca, ad, t1, t2, cs, sl⟩ := X
  obtain ⟨d1, rfl⟩ := d
  intro out ho F H locs ls hP hS hl
  exact lv_lload_n F.1 F.2.1 d1 rfl (lv_at hl q hq) (kk out ho F H locs ls hP hS hl)
theorem g_lload {ρ : Type} {K : Mem × ρ → State → Prop} {X : GX} {M : MI} {σ : Mem} {pc pc' : Nat} {lv : List (Nat × Value)} {st : List Value} {o : Option (Mem × ρ)} {i : Nat} (q : Nat) {x : Int64} (d : At M.1 pc (.lload i) 2 pc') (hq : lv[q]? = some (i, .long x)) (kk : GS K X M σ pc' lv (.long x :: st) o) : GS K X M σ pc lv st o := by
  obtain ⟨p, l, e, s, m, args, below, meth, c, D, ca, ad, t1, t2, cs, sl⟩ := X
  obtain ⟨d1, rfl⟩ := d
  intro out ho F H locs ls hP hS hl
  exact lv_lload F.1 F.2.1 d1 (lv_at hl q hq) (kk out ho F H locs ls hP hS hl)
theorem g_aload_n {ρ : Type} {K : Mem × ρ → State → Prop} {X : GX} {M : MI} {σ : Mem} {pc pc' : Nat} {lv : List (Nat × Value)} {st : List Value} {o : Option (Mem × ρ)} {k : Fin 4} (q : Nat) {x : Nat} (d : At M.1 pc (.aload_n k) 1 pc') (hq : lv[q]? = some ((k : Nat), .ref x)) (kk : GS K X M σ pc' lv (.ref x :: st) o) : GS K X M σ pc lv st o := by
  obtain ⟨p, l, e, s, m, args, below, meth, c, D, ca, ad, t1, t2, cs, sl⟩ := X
  obtain ⟨d1, rfl⟩ := d
  intro out ho F H locs ls hP hS hl
  exact lv_aload_n F.1 F.2.1 d1 rfl (lv_at hl q hq) (kk out ho F H locs ls hP hS hl)
theorem g_aload {ρ : Type} {K : Mem × ρ → State → Prop} {X : GX} {M : MI} {σ : Mem} {pc pc' : Nat} {lv : List (Nat × Value)} {st : List Value} {o : Option (Mem × ρ)} {i : Nat} (q : Nat) {x : Nat} (d : At M.1 pc (.aload i) 2 pc') (hq : lv[q]? = some (i, .ref x)) (kk : GS K X M σ pc' lv (.ref x :: st) o) : GS K X M σ pc lv st o := by
  obtain ⟨p, l, e, s, m, args, below, meth, c, D, ca, ad, t1, t2, cs, sl⟩ := X
  obtain ⟨d1, rfl⟩ := d
  intro out ho F H locs ls hP hS hl
  exact lv_aload F.1 F.2.1 d1 (lv_at hl q hq) (kk out ho F H locs ls hP hS hl)
theorem g_aload_nN {ρ : Type} {K : Mem × ρ → State → Prop} {X : GX} {M : MI} {σ : Mem} {pc pc' : Nat} {lv : List (Nat × Value)} {st : List Value} {o : Option (Mem × ρ)} {k : Fin 4} (q : Nat) (d : At M.1 pc (.aload_n k) 1 pc') (hq : lv[q]? = some ((k : Nat), .null)) (kk : GS K X M σ pc' lv (.null :: st) o) : GS K X M σ pc lv st o := by
  obtain ⟨p, l, e, s, m, args, below, meth, c, D, ca, ad, t1, t2, cs, sl⟩ := X
  obtain ⟨d1, rfl⟩ := d
  intro out ho F H locs ls hP hS hl
  exact lv_aload_nN F.1 F.2.1 d1 rfl (lv_at hl q hq) (kk out ho F H locs ls hP hS hl)
theorem g_aloadN {ρ : Type} {K : Mem × ρ → State → Prop} {X : GX} {M : MI} {σ : Mem} {pc pc' : Nat} {lv : List (Nat × Value)} {st : List Value} {o : Option (Mem × ρ)} {i : Nat} (q : Nat) (d : At M.1 pc (.aload i) 2 pc') (hq : lv[q]? = some (i, .null)) (kk : GS K X M σ pc' lv (.null :: st) o) : GS K X M σ pc lv st o := by
  obtain ⟨p, l, e, s, m, args, below, meth, c, D, ca, ad, t1, t2, cs, sl⟩ := X
  obtain ⟨d1, rfl⟩ := d
  intro out ho F H locs ls hP hS hl
  exact lv_aloadN F.1 F.2.1 d1 (lv_at hl q hq) (kk out ho F H locs ls hP hS hl)
theorem g_istore_n {ρ : Type} {K : Mem × ρ → State → Prop} {X : GX} {M : MI} {σ : Mem} {pc pc' : Nat} {lv : List (Nat × Value)} {st : List Value} {o : Option (Mem × ρ)} {k : Fin 4} (lv' : List (Nat × Value)) {x : Int32} (d : At M.1 pc (.istore_n k) 1 pc') (hn : (k : Nat) < M.2.1) (hl2 : ((k : Nat), Value.int x) :: lv.filter (fun q => !(q.1 == (k : Nat)) && !(q.1 + 1 == (k : Nat) && q.2.category == 2)) = lv') (kk : GS K X M σ pc' lv' st o) : GS K X M σ pc lv (.int x :: st) o := by
  obtain ⟨p, l, e, s, m, args, below, meth, c, D, ca, ad, t1, t2, cs, sl⟩ := X
  obtain ⟨d1, rfl⟩ := d
  intro out ho F H locs ls hP hS hl
  exact lv_istore_n F.1 F.2.1 d1 rfl hl hn hl2 (fun ls' hl' => kk out ho F H locs ls' hP hS hl')
theorem g_istore {ρ : Type} {K : Mem × ρ → State → Prop} {X : GX} {M : MI} {σ : Mem} {pc pc' : Nat} {lv : List (Nat × Value)} {st : List Value} {o : Option (Mem × ρ)} {i : Nat} (lv' : List (Nat × Value)) {x : Int32} (d : At M.1 pc (.istore i) 2 pc') (hn : i < M.2.1) (hl2 : (i, Value.int x) :: lv.filter (fun q => !(q.1 == i) && !(q.1 + 1 == i && q.2.category == 2)) = lv') (kk : GS K X M σ pc' lv' st o) : GS K X M σ pc lv (.int x :: st) o := by
  obtain ⟨p, l, e, s, m, args, below, meth, c, D, ca, ad, t1, t2, cs, sl⟩ := X
  obtain ⟨d1, rfl⟩ := d
  intro out ho F H locs ls hP hS hl
  exact lv_istore F.1 F.2.1 d1 hl hn hl2 (fun ls' hl' => kk out ho F H locs ls' hP hS hl')
theorem g_astore_n {ρ : Type} {K : Mem × ρ → State → Prop} {X : GX} {M : MI} {σ : Mem} {pc pc' : Nat} {lv : List (Nat × Value)} {st : List Value} {o : Option (Mem × ρ)} {k : Fin 4} (lv' : List (Nat × Value)) {x : Nat} (d : At M.1 pc (.astore_n k) 1 pc') (hn : (k : Nat) < M.2.1) (hl2 : ((k : Nat), Value.ref x) :: lv.filter (fun q => !(q.1 == (k : Nat)) && !(q.1 + 1 == (k : Nat) && q.2.category == 2)) = lv') (kk : GS K X M σ pc' lv' st o) : GS K X M σ pc lv (.ref x :: st) o := by
  obtain ⟨p, l, e, s, m, args, below, meth, c, D, ca, ad, t1, t2, cs, sl⟩ := X
  obtain ⟨d1, rfl⟩ := d
  intro out ho F H locs ls hP hS hl
  exact lv_astore_n F.1 F.2.1 d1 rfl hl hn hl2 (fun ls' hl' => kk out ho F H locs ls' hP hS hl')
theorem g_astore {ρ : Type} {K : Mem × ρ → State → Prop} {X : GX} {M : MI} {σ : Mem} {pc pc' : Nat} {lv : List (Nat × Value)} {st : List Value} {o : Option (Mem × ρ)} {i : Nat} (lv' : List (Nat × Value)) {x : Nat} (d : At M.1 pc (.astore i) 2 pc') (hn : i < M.2.1) (hl2 : (i, Value.ref x) :: lv.filter (fun q => !(q.1 == i) && !(q.1 + 1 == i && q.2.category == 2)) = lv') (kk : GS K X M σ pc' lv' st o) : GS K X M σ pc lv (.ref x :: st) o := by
  obtain ⟨p, l, e, s, m, args, below, meth, c, D, ca, ad, t1, t2, cs, sl⟩ := X
  obtain ⟨d1, rfl⟩ := d
  intro out ho F H locs ls hP hS hl
  exact lv_astore F.1 F.2.1 d1 hl hn hl2 (fun ls' hl' => kk out ho F H locs ls' hP hS hl')
theorem g_astore_nN {ρ : Type} {K : Mem × ρ → State → Prop} {X : GX} {M : MI} {σ : Mem} {pc pc' : Nat} {lv : List (Nat × Value)} {st : List Value} {o : Option (Mem × ρ)} {k : Fin 4} (lv' : List (Nat × Value)) (d : At M.1 pc (.astore_n k) 1 pc') (hn : (k : Nat) < M.2.1) (hl2 : ((k : Nat), Value.null) :: lv.filter (fun q => !(q.1 == (k : Nat)) && !(q.1 + 1 == (k : Nat) && q.2.category == 2)) = lv') (kk : GS K X M σ pc' lv' st o) : GS K X M σ pc lv (.null :: st) o := by
  obtain ⟨p, l, e, s, m, args, below, meth, c, D, ca, ad, t1, t2, cs, sl⟩ := X
  obtain ⟨d1, rfl⟩ := d
  intro out ho F H locs ls hP hS hl
  exact lv_astore_nN F.1 F.2.1 d1 rfl hl hn hl2 (fun ls' hl' => kk out ho F H locs ls' hP hS hl')
theorem g_astoreN {ρ : Type} {K : Mem × ρ → State → Prop} {X : GX} {M : MI} {σ : Mem} {pc pc' : Nat} {lv : List (Nat × Value)} {st : List Value} {o : Option (Mem × ρ)} {i : Nat} (lv' : List (Nat × Value)) (d : At M.1 pc (.astore i) 2 pc') (hn : i < M.2.1) (hl2 : (i, Value.null) :: lv.filter (fun q => !(q.1 == i) && !(q.1 + 1 == i && q.2.category == 2)) = lv') (kk : GS K X M σ pc' lv' st o) : GS K X M σ pc lv (.null :: st) o := by
  obtain ⟨p, l, e, s, m, args, below, meth, c, D, ca, ad, t1, t2, cs, sl⟩ := X
  obtain ⟨d1, rfl⟩ := d
  intro out ho F H locs ls hP hS hl
  exact lv_astoreN F.1 F.2.1 d1 hl hn hl2 (fun ls' hl' => kk out ho F H locs ls' hP hS hl')
theorem g_lstore_n {ρ : Type} {K : Mem × ρ → State → Prop} {X : GX} {M : MI} {σ : Mem} {pc pc' : Nat} {lv : List (Nat × Value)} {st : List Value} {o : Option (Mem × ρ)} {k : Fin 4} (lv' : List (Nat × Value)) {x : Int64} (d : At M.1 pc (.lstore_n k) 1 pc') (hn : (k : Nat) + 1 < M.2.1) (hl2 : ((k : Nat), Value.long x) :: lv.filter (fun q => !(q.1 == (k : Nat)) && (!(q.1 == (k : Nat) + 1) && !(q.1 + 1 == (k : Nat) && q.2.category == 2))) = lv') (kk : GS K X M σ pc' lv' st o) : GS K X M σ pc lv (.long x :: st) o := by
  obtain ⟨p, l, e, s, m, args, below, meth, c, D, ca, ad, t1, t2, cs, sl⟩ := X
  obtain ⟨d1, rfl⟩ := d
  intro out ho F H locs ls hP hS hl
  exact lv_lstore_n F.1 F.2.1 d1 rfl hl hn hl2 (fun ls' hl' => kk out ho F H locs ls' hP hS hl')
theorem g_lstore {ρ : Type} {K : Mem × ρ → State → Prop} {X : GX} {M : MI} {σ : Mem} {pc pc' : Nat} {lv : List (Nat × Value)} {st : List Value} {o : Option (Mem × ρ)} {i : Nat} (lv' : List (Nat × Value)) {x : Int64} (d : At M.1 pc (.lstore i) 2 pc') (hn : i + 1 < M.2.1) (hl2 : (i, Value.long x) :: lv.filter (fun q => !(q.1 == i) && (!(q.1 == i + 1) && !(q.1 + 1 == i && q.2.category == 2))) = lv') (kk : GS K X M σ pc' lv' st o) : GS K X M σ pc lv (.long x :: st) o := by
  obtain ⟨p, l, e, s, m, args, below, meth, c, D, ca, ad, t1, t2, cs, sl⟩ := X
  obtain ⟨d1, rfl⟩ := d
  intro out ho F H locs ls hP hS hl
  exact lv_lstore F.1 F.2.1 d1 hl hn hl2 (fun ls' hl' => kk out ho F H locs ls' hP hS hl')
theorem g_iinc {ρ : Type} {K : Mem × ρ → State → Prop} {X : GX} {M : MI} {σ : Mem} {pc pc' : Nat} {lv : List (Nat × Value)} {st : List Value} {o : Option (Mem × ρ)} {i : Nat} {n : Int} (q : Nat) (lv' : List (Nat × Value)) {x v : Int32} (d : At M.1 pc (.iinc i n) 3 pc') (hq : lv[q]? = some (i, .int x)) (hv : x + Int32.ofInt n = v) (hn : i < M.2.1) (hl2 : (i, Value.int v) :: lv.filter (fun q => !(q.1 == i) && !(q.1 + 1 == i && q.2.category == 2)) = lv') (kk : GS K X M σ pc' lv' st o) : GS K X M σ pc lv st o := by
  obtain ⟨p, l, e, s, m, args, below, meth, c, D, ca, ad, t1, t2, cs, sl⟩ := X
  obtain ⟨d1, rfl⟩ := d
  intro out ho F H locs ls hP hS hl
  exact lv_iinc F.1 F.2.1 d1 hl hq hv hn hl2 (fun ls' hl' => kk out ho F H locs ls' hP hS hl')
theorem g_icmp_eq {ρ : Type} {K : Mem × ρ → State → Prop} {X : GX} {M : MI} {σ : Mem} {pc pc' : Nat} {lv : List (Nat × Value)} {st : List Value} {o1 o2 : Option (Mem × ρ)} {x y : Int32} {off : Int} (tgt : Nat) (d : At M.1 pc (.if_icmp .eq off) 3 pc') (ht : (pc : Int) + off = (tgt : Int)) (k1 : x = y → GS K X M σ tgt lv st o1) (k2 : ¬ (x = y) → GS K X M σ pc' lv st o2) : GS K X M σ pc lv (.int y :: .int x :: st) (if x = y then o1 else o2) := by
  obtain ⟨p, l, e, s, m, args, below, meth, c, D, ca, ad, t1, t2, cs, sl⟩ := X
  obtain ⟨d1, rfl⟩ := d
  intro out ho F H locs ls hP hS hl
  exact lv_icmp_eq F.1 F.2.1 d1 ht (fun h => k1 h out (by rw [if_pos h] at ho; exact ho) F H locs ls hP hS hl) (fun h => k2 h out (by rw [if_neg h] at ho; exact ho) F H locs ls hP hS hl)
theorem g_if_eq {ρ : Type} {K : Mem × ρ → State → Prop} {X : GX} {M : MI} {σ : Mem} {pc pc' : Nat} {lv : List (Nat × Value)} {st : List Value} {o1 o2 : Option (Mem × ρ)} {x : Int32} {off : Int} (tgt : Nat) (d : At M.1 pc (.ifCond .eq off) 3 pc') (ht : (pc : Int) + off = (tgt : Int)) (k1 : x = 0 → GS K X M σ tgt lv st o1) (k2 : ¬ (x = 0) → GS K X M σ pc' lv st o2) : GS K X M σ pc lv (.int x :: st) (if x = 0 then o1 else o2) := by
  obtain ⟨p, l, e, s, m, args, below, meth, c, D, ca, ad, t1, t2, cs, sl⟩ := X
  obtain ⟨d1, rfl⟩ := d
  intro out ho F H locs ls hP hS hl
  exact lv_if_eq F.1 F.2.1 d1 ht (fun h => k1 h out (by rw [if_pos h] at ho; exact ho) F H locs ls hP hS hl) (fun h => k2 h out (by rw [if_neg h] at ho; exact ho) F H locs ls hP hS hl)
theorem g_icmp_ne {ρ : Type} {K : Mem × ρ → State → Prop} {X : GX} {M : MI} {σ : Mem} {pc pc' : Nat} {lv : List (Nat × Value)} {st : List Value} {o1 o2 : Option (Mem × ρ)} {x y : Int32} {off : Int} (tgt : Nat) (d : At M.1 pc (.if_icmp .ne off) 3 pc') (ht : (pc : Int) + off = (tgt : Int)) (k1 : ¬ (x = y) → GS K X M σ tgt lv st o1) (k2 : x = y → GS K X M σ pc' lv st o2) : GS K X M σ pc lv (.int y :: .int x :: st) (if x = y then o2 else o1) := by
  obtain ⟨p, l, e, s, m, args, below, meth, c, D, ca, ad, t1, t2, cs, sl⟩ := X
  obtain ⟨d1, rfl⟩ := d
  intro out ho F H locs ls hP hS hl
  exact lv_icmp_ne F.1 F.2.1 d1 ht (fun h => k1 h out (by rw [if_neg h] at ho; exact ho) F H locs ls hP hS hl) (fun h => k2 h out (by rw [if_pos h] at ho; exact ho) F H locs ls hP hS hl)
theorem g_if_ne {ρ : Type} {K : Mem × ρ → State → Prop} {X : GX} {M : MI} {σ : Mem} {pc pc' : Nat} {lv : List (Nat × Value)} {st : List Value} {o1 o2 : Option (Mem × ρ)} {x : Int32} {off : Int} (tgt : Nat) (d : At M.1 pc (.ifCond .ne off) 3 pc') (ht : (pc : Int) + off = (tgt : Int)) (k1 : ¬ (x = 0) → GS K X M σ tgt lv st o1) (k2 : x = 0 → GS K X M σ pc' lv st o2) : GS K X M σ pc lv (.int x :: st) (if x = 0 then o2 else o1) := by
  obtain ⟨p, l, e, s, m, args, below, meth, c, D, ca, ad, t1, t2, cs, sl⟩ := X
  obtain ⟨d1, rfl⟩ := d
  intro out ho F H locs ls hP hS hl
  exact lv_if_ne F.1 F.2.1 d1 ht (fun h => k1 h out (by rw [if_neg h] at ho; exact ho) F H locs ls hP hS hl) (fun h => k2 h out (by rw [if_pos h] at ho; exact ho) F H locs ls hP hS hl)
theorem g_icmp_lt {ρ : Type} {K : Mem × ρ → State → Prop} {X : GX} {M : MI} {σ : Mem} {pc pc' : Nat} {lv : List (Nat × Value)} {st : List Value} {o1 o2 : Option (Mem × ρ)} {x y : Int32} {off : Int} (tgt : Nat) (d : At M.1 pc (.if_icmp .lt off) 3 pc') (ht : (pc : Int) + off = (tgt : Int)) (k1 : x < y → GS K X M σ tgt lv st o1) (k2 : ¬ (x < y) → GS K X M σ pc' lv st o2) : GS K X M σ pc lv (.int y :: .int x :: st) (if x < y then o1 else o2) := by
  obtain ⟨p, l, e, s, m, args, below, meth, c, D, ca, ad, t1, t2, cs, sl⟩ := X
  obtain ⟨d1, rfl⟩ := d
  intro out ho F H locs ls hP hS hl
  exact lv_icmp_lt F.1 F.2.1 d1 ht (fun h => k1 h out (by rw [if_pos h] at ho; exact ho) F H locs ls hP hS hl) (fun h => k2 h out (by rw [if_neg h] at ho; exact ho) F H locs ls hP hS hl)
theorem g_if_lt {ρ : Type} {K : Mem × ρ → State → Prop} {X : GX} {M : MI} {σ : Mem} {pc pc' : Nat} {lv : List (Nat × Value)} {st : List Value} {o1 o2 : Option (Mem × ρ)} {x : Int32} {off : Int} (tgt : Nat) (d : At M.1 pc (.ifCond .lt off) 3 pc') (ht : (pc : Int) + off = (tgt : Int)) (k1 : x < 0 → GS K X M σ tgt lv st o1) (k2 : ¬ (x < 0) → GS K X M σ pc' lv st o2) : GS K X M σ pc lv (.int x :: st) (if x < 0 then o1 else o2) := by
  obtain ⟨p, l, e, s, m, args, below, meth, c, D, ca, ad, t1, t2, cs, sl⟩ := X
  obtain ⟨d1, rfl⟩ := d
  intro out ho F H locs ls hP hS hl
  exact lv_if_lt F.1 F.2.1 d1 ht (fun h => k1 h out (by rw [if_pos h] at ho; exact ho) F H locs ls hP hS hl) (fun h => k2 h out (by rw [if_neg h] at ho; exact ho) F H locs ls hP hS hl)
theorem g_icmp_ge {ρ : Type} {K : Mem × ρ → State → Prop} {X : GX} {M : MI} {σ : Mem} {pc pc' : Nat} {lv : List (Nat × Value)} {st : List Value} {o1 o2 : Option (Mem × ρ)} {x y : Int32} {off : Int} (tgt : Nat) (d : At M.1 pc (.if_icmp .ge off) 3 pc') (ht : (pc : Int) + off = (tgt : Int)) (k1 : y ≤ x → GS K X M σ tgt lv st o1) (k2 : ¬ (y ≤ x) → GS K X M σ pc' lv st o2) : GS K X M σ pc lv (.int y :: .int x :: st) (if y ≤ x then o1 else o2) := by
  obtain ⟨p, l, e, s, m, args, below, meth, c, D, ca, ad, t1, t2, cs, sl⟩ := X
  obtain ⟨d1, rfl⟩ := d
  intro out ho F H locs ls hP hS hl
  exact lv_icmp_ge F.1 F.2.1 d1 ht (fun h => k1 h out (by rw [if_pos h] at ho; exact ho) F H locs ls hP hS hl) (fun h => k2 h out (by rw [if_neg h] at ho; exact ho) F H locs ls hP hS hl)
theorem g_if_ge {ρ : Type} {K : Mem × ρ → State → Prop} {X : GX} {M : MI} {σ : Mem} {pc pc' : Nat} {lv : List (Nat × Value)} {st : List Value} {o1 o2 : Option (Mem × ρ)} {x : Int32} {off : Int} (tgt : Nat) (d : At M.1 pc (.ifCond .ge off) 3 pc') (ht : (pc : Int) + off = (tgt : Int)) (k1 : 0 ≤ x → GS K X M σ tgt lv st o1) (k2 : ¬ (0 ≤ x) → GS K X M σ pc' lv st o2) : GS K X M σ pc lv (.int x :: st) (if 0 ≤ x then o1 else o2) := by
  obtain ⟨p, l, e, s, m, args, below, meth, c, D, ca, ad, t1, t2, cs, sl⟩ := X
  obtain ⟨d1, rfl⟩ := d
  intro out ho F H locs ls hP hS hl
  exact lv_if_ge F.1 F.2.1 d1 ht (fun h => k1 h out (by rw [if_pos h] at ho; exact ho) F H locs ls hP hS hl) (fun h => k2 h out (by rw [if_neg h] at ho; exact ho) F H locs ls hP hS hl)
theorem g_icmp_gt {ρ : Type} {K : Mem × ρ → State → Prop} {X : GX} {M : MI} {σ : Mem} {pc pc' : Nat} {lv : List (Nat × Value)} {st : List Value} {o1 o2 : Option (Mem × ρ)} {x y : Int32} {off : Int} (tgt : Nat) (d : At M.1 pc (.if_icmp .gt off) 3 pc') (ht : (pc : Int) + off = (tgt : Int)) (k1 : y < x → GS K X M σ tgt lv st o1) (k2 : ¬ (y < x) → GS K X M σ pc' lv st o2) : GS K X M σ pc lv (.int y :: .int x :: st) (if y < x then o1 else o2) := by
  obtain ⟨p, l, e, s, m, args, below, meth, c, D, ca, ad, t1, t2, cs, sl⟩ := X
  obtain ⟨d1, rfl⟩ := d
  intro out ho F H locs ls hP hS hl
  exact lv_icmp_gt F.1 F.2.1 d1 ht (fun h => k1 h out (by rw [if_pos h] at ho; exact ho) F H locs ls hP hS hl) (fun h => k2 h out (by rw [if_neg h] at ho; exact ho) F H locs ls hP hS hl)
theorem g_if_gt {ρ : Type} {K : Mem × ρ → State → Prop} {X : GX} {M : MI} {σ : Mem} {pc pc' : Nat} {lv : List (Nat × Value)} {st : List Value} {o1 o2 : Option (Mem × ρ)} {x : Int32} {off : Int} (tgt : Nat) (d : At M.1 pc (.ifCond .gt off) 3 pc') (ht : (pc : Int) + off = (tgt : Int)) (k1 : 0 < x → GS K X M σ tgt lv st o1) (k2 : ¬ (0 < x) → GS K X M σ pc' lv st o2) : GS K X M σ pc lv (.int x :: st) (if 0 < x then o1 else o2) := by
  obtain ⟨p, l, e, s, m, args, below, meth, c, D, ca, ad, t1, t2, cs, sl⟩ := X
  obtain ⟨d1, rfl⟩ := d
  intro out ho F H locs ls hP hS hl
  exact lv_if_gt F.1 F.2.1 d1 ht (fun h => k1 h out (by rw [if_pos h] at ho; exact ho) F H locs ls hP hS hl) (fun h => k2 h out (by rw [if_neg h] at ho; exact ho) F H locs ls hP hS hl)
theorem g_icmp_le {ρ : Type} {K : Mem × ρ → State → Prop} {X : GX} {M : MI} {σ : Mem} {pc pc' : Nat} {lv : List (Nat × Value)} {st : List Value} {o1 o2 : Option (Mem × ρ)} {x y : Int32} {off : Int} (tgt : Nat) (d : At M.1 pc (.if_icmp .le off) 3 pc') (ht : (pc : Int) + off = (tgt : Int)) (k1 : x ≤ y → GS K X M σ tgt lv st o1) (k2 : ¬ (x ≤ y) → GS K X M σ pc' lv st o2) : GS K X M σ pc lv (.int y :: .int x :: st) (if x ≤ y then o1 else o2) := by
  obtain ⟨p, l, e, s, m, args, below, meth, c, D, ca, ad, t1, t2, cs, sl⟩ := X
  obtain ⟨d1, rfl⟩ := d
  intro out ho F H locs ls hP hS hl
  exact lv_icmp_le F.1 F.2.1 d1 ht (fun h => k1 h out (by rw [if_pos h] at ho; exact ho) F H locs ls hP hS hl) (fun h => k2 h out (by rw [if_neg h] at ho; exact ho) F H locs ls hP hS hl)
theorem g_if_le {ρ : Type} {K : Mem × ρ → State → Prop} {X : GX} {M : MI} {σ : Mem} {pc pc' : Nat} {lv : List (Nat × Value)} {st : List Value} {o1 o2 : Option (Mem × ρ)} {x : Int32} {off : Int} (tgt : Nat) (d : At M.1 pc (.ifCond .le off) 3 pc') (ht : (pc : Int) + off = (tgt : Int)) (k1 : x ≤ 0 → GS K X M σ tgt lv st o1) (k2 : ¬ (x ≤ 0) → GS K X M σ pc' lv st o2) : GS K X M σ pc lv (.int x :: st) (if x ≤ 0 then o1 else o2) := by
  obtain ⟨p, l, e, s, m, args, below, meth, c, D, ca, ad, t1, t2, cs, sl⟩ := X
  obtain ⟨d1, rfl⟩ := d
  intro out ho F H locs ls hP hS hl
  exact lv_if_le F.1 F.2.1 d1 ht (fun h => k1 h out (by rw [if_pos h] at ho; exact ho) F H locs ls hP hS hl) (fun h => k2 h out (by rw [if_neg h] at ho; exact ho) F H locs ls hP hS hl)
theorem g_goto {ρ : Type} {K : Mem × ρ → State → Prop} {X : GX} {M : MI} {σ : Mem} {pc pc' : Nat} {lv : List (Nat × Value)} {st : List Value} {o : Option (Mem × ρ)} {off : Int} (tgt : Nat) (d : At M.1 pc (.goto off) 3 pc') (ht : (pc : Int) + off = (tgt : Int)) (k : GS K X M σ tgt lv st o) : GS K X M σ pc lv st o := by
  obtain ⟨p, l, e, s, m, args, below, meth, c, D, ca, ad, t1, t2, cs, sl⟩ := X
  obtain ⟨d1, rfl⟩ := d
  intro out ho F H locs ls hP hS hl
  exact lv_goto F.1 F.2.1 d1 ht (k out ho F H locs ls hP hS hl)
theorem g_ifnull {ρ : Type} {K : Mem × ρ → State → Prop} {X : GX} {M : MI} {σ : Mem} {pc pc' : Nat} {lv : List (Nat × Value)} {st : List Value} {o : Option (Mem × ρ)} {x : Nat} {off : Int} (d : At M.1 pc (.ifnull off) 3 pc') (k : GS K X M σ pc' lv st o) : GS K X M σ pc lv (.ref x :: st) o := by
  obtain ⟨p, l, e, s, m, args, below, meth, c, D, ca, ad, t1, t2, cs, sl⟩ := X
  obtain ⟨d1, rfl⟩ := d
  intro out ho F H locs ls hP hS hl
  exact lv_ifnull F.1 F.2.1 d1 (k out ho F H locs ls hP hS hl)
theorem g_ifnullN {ρ : Type} {K : Mem × ρ → State → Prop} {X : GX} {M : MI} {σ : Mem} {pc pc' : Nat} {lv : List (Nat × Value)} {st : List Value} {o : Option (Mem × ρ)} {off : Int} (tgt : Nat) (d : At M.1 pc (.ifnull off) 3 pc') (ht : (pc : Int) + off = (tgt : Int)) (k : GS K X M σ tgt lv st o) : GS K X M σ pc lv (.null :: st) o := by
  obtain ⟨p, l, e, s, m, args, below, meth, c, D, ca, ad, t1, t2, cs, sl⟩ := X
  obtain ⟨d1, rfl⟩ := d
  intro out ho F H locs ls hP hS hl
  exact lv_ifnullN F.1 F.2.1 d1 ht (k out ho F H locs ls hP hS hl)
theorem g_ifnonnull {ρ : Type} {K : Mem × ρ → State → Prop} {X : GX} {M : MI} {σ : Mem} {pc pc' : Nat} {lv : List (Nat × Value)} {st : List Value} {o : Option (Mem × ρ)} {x : Nat} {off : Int} (tgt : Nat) (d : At M.1 pc (.ifnonnull off) 3 pc') (ht : (pc : Int) + off = (tgt : Int)) (k : GS K X M σ tgt lv st o) : GS K X M σ pc lv (.ref x :: st) o := by
  obtain ⟨p, l, e, s, m, args, below, meth, c, D, ca, ad, t1, t2, cs, sl⟩ := X
  obtain ⟨d1, rfl⟩ := d
  intro out ho F H locs ls hP hS hl
  exact lv_ifnonnull F.1 F.2.1 d1 ht (k out ho F H locs ls hP hS hl)
theorem g_ifnonnullN {ρ : Type} {K : Mem × ρ → State → Prop} {X : GX} {M : MI} {σ : Mem} {pc pc' : Nat} {lv : List (Nat × Value)} {st : List Value} {o : Option (Mem × ρ)} {off : Int} (d : At M.1 pc (.ifnonnull off) 3 pc') (k : GS K X M σ pc' lv st o) : GS K X M σ pc lv (.null :: st) o := by
  obtain ⟨p, l, e, s, m, args, below, meth, c, D, ca, ad, t1, t2, cs, sl⟩ := X
  obtain ⟨d1, rfl⟩ := d
  intro out ho F H locs ls hP hS hl
  exact lv_ifnonnullN F.1 F.2.1 d1 (k out ho F H locs ls hP hS hl)
theorem g_ldc {ρ : Type} {K : Mem × ρ → State → Prop} {X : GX} {M : MI} {σ : Mem} {pc pc' : Nat} {lv : List (Nat × Value)} {st : List Value} {o : Option (Mem × ρ)} {idx : Nat} (v : Int32) (d : At M.1 pc (.ldc idx) 2 pc') (hc : Cond.constant M.2.2.1 idx v ∈ tb) (k : GS K X M σ pc' lv (.int v :: st) o) : GS K X M σ pc lv st o := by
  obtain ⟨p, l, e, s, m, args, below, meth, c, D, ca, ad, t1, t2, cs, sl⟩ := X
  obtain ⟨d1, rfl⟩ := d
  intro out ho F H locs ls hP hS hl
  exact lv_ldc F.1 F.2.1 F.2.2.2.1 (F.2.2.2.2.1 _ hc) d1 (k out ho F H locs ls hP hS hl)
theorem g_ldcw {ρ : Type} {K : Mem × ρ → State → Prop} {X : GX} {M : MI} {σ : Mem} {pc pc' : Nat} {lv : List (Nat × Value)} {st : List Value} {o : Option (Mem × ρ)} {idx : Nat} (v : Int32) (d : At M.1 pc (.ldc_w idx) 3 pc') (hc : Cond.constant M.2.2.1 idx v ∈ tb) (k : GS K X M σ pc' lv (.int v :: st) o) : GS K X M σ pc lv st o := by
  obtain ⟨p, l, e, s, m, args, below, meth, c, D, ca, ad, t1, t2, cs, sl⟩ := X
  obtain ⟨d1, rfl⟩ := d
  intro out ho F H locs ls hP hS hl
  exact lv_ldcw F.1 F.2.1 F.2.2.2.1 (F.2.2.2.2.1 _ hc) d1 (k out ho F H locs ls hP hS hl)
theorem g_ldc2 {ρ : Type} {K : Mem × ρ → State → Prop} {X : GX} {M : MI} {σ : Mem} {pc pc' : Nat} {lv : List (Nat × Value)} {st : List Value} {o : Option (Mem × ρ)} {idx : Nat} (v : Int64) (d : At M.1 pc (.ldc2_w idx) 3 pc') (hc : Cond.constantLong M.2.2.1 idx v ∈ tb) (k : GS K X M σ pc' lv (.long v :: st) o) : GS K X M σ pc lv st o := by
  obtain ⟨p, l, e, s, m, args, below, meth, c, D, ca, ad, t1, t2, cs, sl⟩ := X
  obtain ⟨d1, rfl⟩ := d
  intro out ho F H locs ls hP hS hl
  exact lv_ldc2 F.1 F.2.1 F.2.2.2.1 (F.2.2.2.2.1 _ hc) d1 (k out ho F H locs ls hP hS hl)
theorem g_tableOut {ρ : Type} {K : Mem × ρ → State → Prop} {X : GX} {M : MI} {σ : Mem} {pc pc' : Nat} {lv : List (Nat × Value)} {st : List Value} {o : Option (Mem × ρ)} {x : Int32} {dflt lo hi : Int} {offs : Array Int} {len : Nat} (tgt : Nat) (d : At M.1 pc (.tableswitch dflt lo hi offs) len pc') (h : x.toInt < lo ∨ hi < x.toInt) (ht : (pc : Int) + dflt = (tgt : Int)) (k : GS K X M σ tgt lv st o) : GS K X M σ pc lv (.int x :: st) o := by
  obtain ⟨p, l, e, s, m, args, below, meth, c, D, ca, ad, t1, t2, cs, sl⟩ := X
  obtain ⟨d1, rfl⟩ := d
  intro out ho F H locs ls hP hS hl
  exact lv_tableOut F.1 F.2.1 d1 h ht (k out ho F H locs ls hP hS hl)
theorem g_tableIn {ρ : Type} {K : Mem × ρ → State → Prop} {X : GX} {M : MI} {σ : Mem} {pc pc' : Nat} {lv : List (Nat × Value)} {st : List Value} {o : Option (Mem × ρ)} {x : Int32} {dflt lo hi : Int} {offs : Array Int} {len : Nat} {off : Int} (tgt : Nat) (d : At M.1 pc (.tableswitch dflt lo hi offs) len pc') (h1 : ¬ x.toInt < lo) (h2 : ¬ hi < x.toInt) (ho' : offs[(x.toInt - lo).toNat]? = some off) (ht : (pc : Int) + off = (tgt : Int)) (k : GS K X M σ tgt lv st o) : GS K X M σ pc lv (.int x :: st) o := by
  obtain ⟨p, l, e, s, m, args, below, meth, c, D, ca, ad, t1, t2, cs, sl⟩ := X
  obtain ⟨d1, rfl⟩ := d
  intro out ho F H locs ls hP hS hl
  exact lv_tableIn F.1 F.2.1 d1 h1 h2 ho' ht (k out ho F H locs ls hP hS hl)
theorem g_guard {ρ : Type} {K : Mem × ρ → State → Prop} {X : GX} {M : MI} {σ : Mem} {pc : Nat} {lv : List (Nat × Value)} {st : List Value} {o : Option (Mem × ρ)} {c : Prop} [Decidable c] (k : c → GS K X M σ pc lv st o) : GS K X M σ pc lv st (if c then o else none) := by
  intro out ho
  by_cases hc : c
  · rw [if_pos hc] at ho; exact k hc out ho
  · rw [if_neg hc] at ho; cases ho
theorem g_sub {ρ : Type} {K : Mem × ρ → State → Prop} {X : GX} {M : MI} {σ : Mem} {pc : Nat} {lv : List (Nat × Value)} {st : List Value} {o : Option (Mem × ρ)} (ks : List Nat) {lv' : List (Nat × Value)} (hl' : lv_pick lv ks = lv') (k : GS K X M σ pc lv' st o) : GS K X M σ pc lv st o :=
  fun out ho F H locs ls hP hS hl => k out ho F H locs ls hP hS (lv_sub hl ks hl')
theorem g_split {ρ : Type} {K : Mem × ρ → State → Prop} {X : GX} {M : MI} {σ : Mem} {pc : Nat} {lv : List (Nat × Value)} {st : List Value} {r : Option Nat} {b : Nat} {g : Nat → Nat} {o1 : Option (Mem × ρ)} {o2 : Nat → Option (Mem × ρ)} (k1 : r = none → GS K X M σ pc lv (.null :: st) o1) (k2 : ∀ x, r = some x → x < b → GS K X M σ pc lv (.ref (g x) :: st) (o2 x)) : GS K X M σ pc lv (va_rf (r.map g) :: st) (match r with | none => o1 | some x => if x < b then o2 x else none) := by
  cases r with
  | none => exact k1 rfl
  | some x => exact g_guard (fun h => k2 x rfl h)
