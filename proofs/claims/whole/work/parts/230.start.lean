theorem ao_X1 : Cond.arrayOver (.object RX1) ∈ lw_tbl := List.mem_of_getElem? (i := 88) (by decide +kernel)
theorem ao_X2 : Cond.arrayOver (.object RX2) ∈ lw_tbl := List.mem_of_getElem? (i := 153) (by decide +kernel)
theorem ao_X4 : Cond.arrayOver (.object RX4) ∈ lw_tbl := List.mem_of_getElem? (i := 80) (by decide +kernel)
theorem ls_1 : Cond.laysStatic RX7 "LETTERS" "[I" ∈ lw_tbl := List.mem_of_getElem? (i := 394) (by decide +kernel)
theorem ls_2 : Cond.laysStatic RX7 "HAVING" "[J" ∈ lw_tbl := List.mem_of_getElem? (i := 672) (by decide +kernel)
theorem st_of {s : State} {args : Array Value} {A : Nat → Prop} (hts : ∀ w ∈ lw_tbl, w.before args s = true) (hgv : (Jvm.Cond.and given_1 narrow_1).before args s = true) (hA : ∀ a : Nat, a < s.heap.size → ¬ A a) : ∃ t1 t2, ST A t1 t2 s s.heap := by
  have hs := flat_of_before _ hgv
  obtain ⟨t1, e1, T1⟩ := va_Tof (tm := .static "SetAsMeant" "LETTERS" "[I") (ty := .int) (N := 6) (f := fun j => .int (LTV j)) (A := A) (by decide) (hs _ (by decide +kernel)) (va_eqt (hs (.eq (.length (.static "SetAsMeant" "LETTERS" "[I")) (.int 6)) (by decide +kernel))) (fun j hj => by
    match j, hj with
      | 0, _ => exact va_eqt (hs (.eq (.elem (.static "SetAsMeant" "LETTERS" "[I") (.int 0)) (.int (108))) (by decide +kernel))
      | 1, _ => exact va_eqt (hs (.eq (.elem (.static "SetAsMeant" "LETTERS" "[I") (.int 1)) (.int (98))) (by decide +kernel))
      | 2, _ => exact va_eqt (hs (.eq (.elem (.static "SetAsMeant" "LETTERS" "[I") (.int 2)) (.int (100))) (by decide +kernel))
      | 3, _ => exact va_eqt (hs (.eq (.elem (.static "SetAsMeant" "LETTERS" "[I") (.int 3)) (.int (115))) (by decide +kernel))
      | 4, _ => exact va_eqt (hs (.eq (.elem (.static "SetAsMeant" "LETTERS" "[I") (.int 4)) (.int (117))) (by decide +kernel))
      | 5, _ => exact va_eqt (hs (.eq (.elem (.static "SetAsMeant" "LETTERS" "[I") (.int 5)) (.int (105))) (by decide +kernel))
      | n + 6, h => omega) hA
  obtain ⟨t2, e2, T2⟩ := va_Tof (tm := .static "SetAsMeant" "HAVING" "[J") (ty := .long) (N := 6) (f := fun j => .long (HVV j)) (A := A) (by decide) (hs _ (by decide +kernel)) (va_eqt (hs (.eq (.length (.static "SetAsMeant" "HAVING" "[J")) (.int 6)) (by decide +kernel))) (fun j hj => by
    match j, hj with
      | 0, _ => exact va_eqtl (hs (.eq (.elem (.static "SetAsMeant" "HAVING" "[J") (.int 0)) (.long (-6148914691236517206))) (by decide +kernel))
      | 1, _ => exact va_eqtl (hs (.eq (.elem (.static "SetAsMeant" "HAVING" "[J") (.int 1)) (.long (-3689348814741910324))) (by decide +kernel))
      | 2, _ => exact va_eqtl (hs (.eq (.elem (.static "SetAsMeant" "HAVING" "[J") (.int 2)) (.long (-1085102592571150096))) (by decide +kernel))
      | 3, _ => exact va_eqtl (hs (.eq (.elem (.static "SetAsMeant" "HAVING" "[J") (.int 3)) (.long (-71777214294589696))) (by decide +kernel))
      | 4, _ => exact va_eqtl (hs (.eq (.elem (.static "SetAsMeant" "HAVING" "[J") (.int 4)) (.long (-281470681808896))) (by decide +kernel))
      | 5, _ => exact va_eqtl (hs (.eq (.elem (.static "SetAsMeant" "HAVING" "[J") (.int 5)) (.long (-4294967296))) (by decide +kernel))
      | n + 6, h => omega) hA
  exact ⟨t1, t2, va_Zref (hts _ ls_1) (hts _ (tb_in ini_X7)) e1 hA, T1, va_Zref (hts _ ls_2) (hts _ (tb_in ini_X7)) e2 hA, T2⟩
theorem K_of {s : State} {args : Array Value} (hts : ∀ w ∈ lw_tbl, w.before args s = true) : ∃ (D : va_G) (ca : Nat → ClassId), va_K D classes (tys ca) s := by
  have htb : ∀ w ∈ tb, w.before args s = true := fun w h => hts w (tb_in h)
  obtain ⟨c0, i0, hKn0⟩ := u_known (C := RX0) (T := TX0) (N := 5) (n := 5) htb inX0 (htb _ ins_X0)
  obtain ⟨c1, i1, hKn1⟩ := u_known (C := RX1) (T := TX1) (N := 5) (n := 5) htb inX1 (htb _ ins_X1)
  obtain ⟨c2, i2, hKn2⟩ := u_known (C := RX2) (T := TX2) (N := 5) (n := 5) htb inX2 (htb _ ins_X2)
  obtain ⟨c3, i3, hKn3⟩ := u_known (C := RX3) (T := TX3) (N := 2) (n := 2) htb inX3 (htb _ ins_X3)
  obtain ⟨c4, i4, hKn4⟩ := u_known (C := RX4) (T := TX4) (N := 2) (n := 2) htb inX4 (htb _ ins_X4)
  obtain ⟨c5, i5, hKn5⟩ := u_known (C := RX5) (T := TX5) (N := 4) (n := 4) htb inX5 (htb _ ins_X5)
  obtain ⟨c6, i6, hKn6⟩ := u_known (C := RX6) (T := TX6) (N := 6) (n := 6) htb inX6 (htb _ ins_X6)
  obtain ⟨c7, i7, hKn7⟩ := u_known (C := RX7) (T := TX7) (N := 16) (n := 16) htb inX7 (htb _ ins_X7)
  obtain ⟨c8, i8, hKn8⟩ := u_known (C := RX8) (T := TX8) (N := 31) (n := 31) htb inX8 (htb _ ins_X8)
  obtain ⟨aI, kI, mI, pI1, pI2, pI3⟩ := Cond.arrayClass_spec (htb _ arc_int)
  obtain ⟨aJ, kJ, mJ, pJ1, pJ2, pJ3⟩ := Cond.arrayClass_spec (htb _ arc_long)
  obtain ⟨aZ, kZ, mZ, pZ1, pZ2, pZ3⟩ := Cond.arrayClass_spec (htb _ arc_boolean)
  obtain ⟨mR, aR, kR, pR1, -, pR2, pR3, pR4⟩ := Cond.arrayOver_spec (hts _ ao_X4)
  obtain ⟨mL, aL, kL, pL1, -, pL2, pL3, pL4⟩ := Cond.arrayOver_spec (hts _ ao_X1)
  obtain ⟨mP, aP, kP, pP1, -, pP2, pP3, pP4⟩ := Cond.arrayOver_spec (hts _ ao_X2)
  refine ⟨(fun k => [c0, c1, c2, c3, c4, c5, c6, c7, c8].getD k c0, fun k => [i0, i1, i2, i3, i4, i5, i6, i7, i8].getD k i0), fun k => [aI, aJ, aZ, aR, aL, aP].getD k aI, fun k q hq => ?_, fun k q hq => ?_⟩
  · match k, hq with
    | 0, hq => cases hq; exact hKn0
    | 1, hq => cases hq; exact hKn1
    | 2, hq => cases hq; exact hKn2
    | 3, hq => cases hq; exact hKn3
    | 4, hq => cases hq; exact hKn4
    | 5, hq => cases hq; exact hKn5
    | 6, hq => cases hq; exact hKn6
    | 7, hq => cases hq; exact hKn7
    | 8, hq => cases hq; exact hKn8
    | k + 9, hq => simp [classes] at hq
  · match k, hq with
    | 0, hq => cases hq; exact ⟨fun n z => ⟨fun k h => (by cases h), kI, pI2, mI, pI3⟩, pI1⟩
    | 1, hq => cases hq; exact ⟨fun n z => ⟨fun k h => (by cases h), kJ, pJ2, mJ, pJ3⟩, pJ1⟩
    | 2, hq => cases hq; exact ⟨fun n z => ⟨fun k h => (by cases h), kZ, pZ2, mZ, pZ3⟩, pZ1⟩
    | 3, hq => cases hq; exact ⟨fun n z => ⟨fun k h => (by cases h), kR, pR2, mR, pR3⟩, kR, mR, pR2, pR3, pR1, pR4⟩
    | 4, hq => cases hq; exact ⟨fun n z => ⟨fun k h => (by cases h), kL, pL2, mL, pL3⟩, kL, mL, pL2, pL3, pL1, pL4⟩
    | 5, hq => cases hq; exact ⟨fun n z => ⟨fun k h => (by cases h), kP, pP2, mP, pP3⟩, kP, mP, pP2, pP3, pP1, pP4⟩
    | k + 6, hq => simp [tys] at hq
set_option maxRecDepth 100000 in
set_option maxHeartbeats 4000000 in
/-- from the law's entry, if its function goes through -/
theorem whole_start_open (hLAW : ∀ (L : Nat) (xs : Nat → Int32), L ≤ 3072 → ∃ out, LAWF L xs σ0 = some out) {p : Program} {e : Env} {s : State} {m : MethodId} {below : List Frame} {meth : Method} {c : Code} (l : Launch) {b L : Nat} {xs : Nat → Int32} (hL : L ≤ 3072) (C0 : lw_At p s m meth c b L xs) : W p l e room_1 s m #[Value.ref b] below meth c s.heap [] 0 0 (lw_Z below #[Value.ref b] s) (entryFrame m ([Value.ref b] : List Value).toArray 4) := by
  obtain ⟨hx, hb, hr, hml, hown, hts, hX, hbl, hlocks, hgv⟩ := id C0
  have htb : ∀ w ∈ tb, w.before #[Value.ref b] s = true := fun w h => hts w (tb_in h)
  obtain ⟨D, ca, hK⟩ := K_of hts
  have hnest : ∀ w ∈ nestW, va_Nw w s := fun w hw => va_Nw.of (nest_on hw) (hts w (by simpa using List.all_eq_true.mp nest_in w hw))
  have hAO : AOs s := ⟨va_AO.of (hts _ ao_X1), va_AO.of (hts _ ao_X2), va_AO.of (hts _ ao_X4)⟩
  obtain ⟨t1, t2, hST⟩ := st_of (A := AB s.heap.size) hts hgv (fun a h1 h2 => Nat.not_le.mpr h1 h2)
  have hl := lv_entry ([.ref b]) (n := 4) (Nat.le_of_ble_eq_true rfl)
  rw [lg_entry_eq]
  have hl : lv_has _ 4 [(0, .ref b)] := hl
  have hP : va_P D classes [] s.heap := fun k q h => by simp at h
  have hD : va_D (AB s.heap.size) [] := ⟨fun i j p q h => by simp at h, fun k q h => by simp at h⟩
  have key : GN (lw_Z below #[Value.ref b] s) (p, l, e, s, m, #[Value.ref b], below, meth, c, D, ca, s.heap.size) mL_law [] 0 0 0 [(0, .ref b)] [] := by
    refine n_new (ci := 7) (cs' := 1) (sl' := 16) [.null, .null, .null, .null, .null, .null, .null, .null, .null, .null, .null, .null, .int 0, .int 0, .long 0, .long 0] rfl inX7 tyX7_ok cl_L_7 ins_X7 ini_X7 hfs_X7 rfl rfl (by decide) (by decide) dL_law_0 (fun a => ?_)
    refine n_dup dL_law_3 rfl ?_
    refine n_call (cs' := 98) (sl' := 5280) [] (c_X7_init a _) ok_X7_init ⟨by decide, by decide⟩ ml_L_9 rfl rfl (Nat.le_of_ble_eq_true rfl) rfl rfl (by decide) (by decide) dL_law_4 (fun q => ?_)
    refine n_astore_n [(1, .ref a), (0, .ref b)] dL_law_7 (by decide) rfl ?_
    refine n_new (ci := 8) (cs' := 99) (sl' := 5311) [.int 0, .null, .int 0, .long 0, .long 0, .null, .null, .null, .null, .null, .int 0, .null, .int 0, .int 0, .null, .null, .int 0, .null, .int 0, .null, .null, .null, .null, .int 0, .null, .null, .int 0, .null, .null, .null, .long 0] rfl inX8 tyX8_ok cl_L_10 ins_X8 ini_X8 hfs_X8 rfl rfl (by decide) (by decide) dL_law_8 (fun a' => ?_)
    refine n_dup dL_law_11 rfl ?_
    refine n_call (cs' := 118) (sl' := 10759) [] (c_X8_init a' _) ok_X8_init ⟨by decide, by decide⟩ ml_L_12 rfl rfl (Nat.le_of_ble_eq_true rfl) rfl rfl (by decide) (by decide) dL_law_12 (fun q' => ?_)
    refine n_astore_n [(2, .ref a'), (1, .ref a), (0, .ref b)] dL_law_15 (by decide) rfl ?_
    refine n_iconst (0 : Int32) dL_law_16 (by decide) ?_
    refine n_istore_n [(3, .int 0), (2, .ref a'), (1, .ref a), (0, .ref b)] dL_law_17 (by decide) rfl ?_
    intro F H locs ls hP hD hS hl
    have hP : va_P D classes (nw_X8_init a' ca q' ++ nw_X7_init [] a ca q) H := hP
    have hD : va_D (AB s.heap.size) (nw_X8_init a' ca q' ++ nw_X7_init [] a ca q) := hD
    have hB := w0_B hD
    have hS : va_S (AB s.heap.size) s.heap H locs := hS
    obtain ⟨out, hout⟩ := hLAW L xs hL
    refine va_forget (fun q hq => hS.2.2 q hq) ?_
    have hSC : SC (p, l, e, s, m, #[Value.ref b], below, meth, c, D, ca, ad0 a q a' q', t1, t2, 118, 10759) b L xs := ⟨hX, hbl, fun h => Nat.not_le.mpr hbl (hB b h)⟩
    have hAD : hADp (p, l, e, s, m, #[Value.ref b], below, meth, c, D, ca, ad0 a q a' q', t1, t2, 118, 10759) := ⟨hB, ⟨b, rfl⟩, by decide, by decide⟩
    refine t_LAWF (p, l, e, s, m, #[Value.ref b], below, meth, c, D, ca, ad0 a q a' q', t1, t2, 118, 10759) hAD b L xs hSC σ0 out hout ⟨hx, hb, hml, hown, htb, hK, hnest, ⟨hST.1.narrow hB, hST.2.1.narrow hB, hST.2.2.1.narrow hB, hST.2.2.2.narrow hB⟩, hlocks, hr, w0_D hD, by decide, by decide⟩ H [] ls (w0_P hP) ⟨hS.1, fun q h1 _ => hS.2.1 q h1 (fun h => Nat.not_le.mpr h1 h), fun _ h => by cases h⟩ hl
  exact key ⟨hx, hb, hml, hown, htb, hK, hnest, hAO, hlocks, hr, Nat.le_refl _⟩ s.heap [] _ hP hD va_S.rf hl
