def nw_X1_init (a : Nat) (ca : Nat → ClassId) (q : Nat → Nat) : va_W := [(a, .inr (1, [.int (0 : Int32), .int (0 : Int32), .int (-9 : Int32), .int (-9 : Int32), .int (0 : Int32)]))]
abbrev m_X1_init : MI := (cX1_init, 1, RX1, { frames := 1, cells := 0, slots := 0, locals := 20 }, none)
theorem ok_X1_init : OKI yX1_init m_X1_init 0 := ⟨tb_at 92 (by decide +kernel) rfl, ini_X1, ⟨by decide, by decide, by decide +kernel⟩, rfl, tb_at 91 (by decide +kernel) rfl, rfl⟩
set_option maxRecDepth 100000 in
set_option maxHeartbeats 40000000 in
theorem c_X1_init (a : Nat) (ws0 : va_W) : CN yX1_init m_X1_init [.ref a] ((a, .inr (1, [.int 0, .int 0, .int 0, .int 0, .int 0])) :: ws0) (fun ca q => nw_X1_init a ca q ++ ws0) := by
  refine CN.of (by decide) rfl rfl (Nat.le_of_ble_eq_true rfl) (fun X hi => ?_)
  show GN _ X m_X1_init _ 0 0 0 [(0, .ref a)] []
  refine n_aload_n 0 dX1_init_0 rfl ?_
  refine n_objInit ol_X1_3 oi_i oi_c (by decide) (Nat.le_of_ble_eq_true rfl) dX1_init_1 ?_
  refine n_aload_n 0 dX1_init_4 rfl ?_
  refine n_iconst (0 : Int32) dX1_init_5 (by decide) ?_
  refine n_put 0 rfl rfl inX1 tyX1_ok nmX1 0 (by decide) rfl rfl rfl (Nat.le_of_ble_eq_true rfl) pl_X1_9 dX1_init_6 ?_
  refine n_aload_n 0 dX1_init_9 rfl ?_
  refine n_iconst (0 : Int32) dX1_init_10 (by decide) ?_
  refine n_put 0 rfl rfl inX1 tyX1_ok nmX1 1 (by decide) rfl rfl rfl (Nat.le_of_ble_eq_true rfl) pl_X1_15 dX1_init_11 ?_
  refine n_aload_n 0 dX1_init_14 rfl ?_
  refine n_bipush (-9 : Int32) dX1_init_15 (by decide) ?_
  refine n_put 0 rfl rfl inX1 tyX1_ok nmX1 2 (by decide) rfl rfl rfl (Nat.le_of_ble_eq_true rfl) pl_X1_18 dX1_init_17 ?_
  refine n_aload_n 0 dX1_init_20 rfl ?_
  refine n_bipush (-9 : Int32) dX1_init_21 (by decide) ?_
  refine n_put 0 rfl rfl inX1 tyX1_ok nmX1 3 (by decide) rfl rfl rfl (Nat.le_of_ble_eq_true rfl) pl_X1_21 dX1_init_23 ?_
  refine n_aload_n 0 dX1_init_26 rfl ?_
  refine n_iconst (0 : Int32) dX1_init_27 (by decide) ?_
  refine n_put 0 rfl rfl inX1 tyX1_ok nmX1 4 (by decide) rfl rfl rfl (Nat.le_of_ble_eq_true rfl) pl_X1_24 dX1_init_28 ?_
  exact n_vret (fun i => [].getD i 0) rfl rfl dX1_init_31
def nw_X4_init40 (a : Nat) (ca : Nat → ClassId) (q : Nat → Nat) : va_W := [((q 0), .inl (ca 0, 40, .inl (fun _ => 0))), (a, .inr (4, [.ref (q 0), .int (-1 : Int32)]))]
abbrev m_X4_init40 : MI := (cX4_init, 2, RX4, { frames := 1, cells := 1, slots := 40, locals := 21 }, none)
theorem ok_X4_init40 : OKI yX4_init m_X4_init40 1 := ⟨tb_at 207 (by decide +kernel) rfl, ini_X4, ⟨by decide, by decide, by decide +kernel⟩, rfl, tb_at 206 (by decide +kernel) rfl, rfl⟩
set_option maxRecDepth 100000 in
set_option maxHeartbeats 40000000 in
theorem c_X4_init40 (a : Nat) (ws0 : va_W) : CN yX4_init m_X4_init40 [.ref a, .int (40 : Int32)] ((a, .inr (4, [.null, .int 0])) :: ws0) (fun ca q => nw_X4_init40 a ca q ++ ws0) := by
  refine CN.of (by decide) rfl rfl (Nat.le_of_ble_eq_true rfl) (fun X hi => ?_)
  show GN _ X m_X4_init40 _ 0 0 0 [(0, .ref a), (1, .int (40 : Int32))] []
  refine n_aload_n 0 dX4_init_0 rfl ?_
  refine n_objInit ol_X4_3 oi_i oi_c (by decide) (Nat.le_of_ble_eq_true rfl) dX4_init_1 ?_
  refine n_aload_n 0 dX4_init_4 rfl ?_
  refine n_iconst (-1 : Int32) dX4_init_5 (by decide) ?_
  refine n_put 0 rfl rfl inX4 tyX4_ok nmX4 1 (by decide) rfl rfl rfl (Nat.le_of_ble_eq_true rfl) pl_X4_9 dX4_init_6 ?_
  refine n_aload_n 0 dX4_init_9 rfl ?_
  refine n_iload_n 1 dX4_init_10 rfl ?_
  refine n_iconst (0 : Int32) dX4_init_11 (by decide) ?_
  refine n_mmax (z := (40 : Int32)) jl_X4_15 (by decide) (by decide) (Nat.le_of_ble_eq_true rfl) (by decide) (by decide) dX4_init_12 ?_
  refine n_newI 40 arc_int (by decide) (by decide) (by decide) rfl rfl (by decide) (by decide) dX4_init_15 (fun q1 => ?_)
  refine n_putF hi 1 rfl rfl inX4 tyX4_ok nmX4 0 (by decide) rfl rfl rfl rfl (Nat.le_of_ble_eq_true rfl) pl_X4_21 dX4_init_17 ?_
  exact n_vret (fun i => [q1].getD i 0) rfl rfl dX4_init_20
def nw_X4_init60 (a : Nat) (ca : Nat → ClassId) (q : Nat → Nat) : va_W := [((q 0), .inl (ca 0, 60, .inl (fun _ => 0))), (a, .inr (4, [.ref (q 0), .int (-1 : Int32)]))]
abbrev m_X4_init60 : MI := (cX4_init, 2, RX4, { frames := 1, cells := 1, slots := 60, locals := 21 }, none)
theorem ok_X4_init60 : OKI yX4_init m_X4_init60 1 := ⟨tb_at 207 (by decide +kernel) rfl, ini_X4, ⟨by decide, by decide, by decide +kernel⟩, rfl, tb_at 206 (by decide +kernel) rfl, rfl⟩
set_option maxRecDepth 100000 in
set_option maxHeartbeats 40000000 in
theorem c_X4_init60 (a : Nat) (ws0 : va_W) : CN yX4_init m_X4_init60 [.ref a, .int (60 : Int32)] ((a, .inr (4, [.null, .int 0])) :: ws0) (fun ca q => nw_X4_init60 a ca q ++ ws0) := by
  refine CN.of (by decide) rfl rfl (Nat.le_of_ble_eq_true rfl) (fun X hi => ?_)
  show GN _ X m_X4_init60 _ 0 0 0 [(0, .ref a), (1, .int (60 : Int32))] []
  refine n_aload_n 0 dX4_init_0 rfl ?_
  refine n_objInit ol_X4_3 oi_i oi_c (by decide) (Nat.le_of_ble_eq_true rfl) dX4_init_1 ?_
  refine n_aload_n 0 dX4_init_4 rfl ?_
  refine n_iconst (-1 : Int32) dX4_init_5 (by decide) ?_
  refine n_put 0 rfl rfl inX4 tyX4_ok nmX4 1 (by decide) rfl rfl rfl (Nat.le_of_ble_eq_true rfl) pl_X4_9 dX4_init_6 ?_
  refine n_aload_n 0 dX4_init_9 rfl ?_
  refine n_iload_n 1 dX4_init_10 rfl ?_
  refine n_iconst (0 : Int32) dX4_init_11 (by decide) ?_
  refine n_mmax (z := (60 : Int32)) jl_X4_15 (by decide) (by decide) (Nat.le_of_ble_eq_true rfl) (by decide) (by decide) dX4_init_12 ?_
  refine n_newI 60 arc_int (by decide) (by decide) (by decide) rfl rfl (by decide) (by decide) dX4_init_15 (fun q1 => ?_)
  refine n_putF hi 1 rfl rfl inX4 tyX4_ok nmX4 0 (by decide) rfl rfl rfl rfl (Nat.le_of_ble_eq_true rfl) pl_X4_21 dX4_init_17 ?_
  exact n_vret (fun i => [q1].getD i 0) rfl rfl dX4_init_20
def nw_X4_init16 (a : Nat) (ca : Nat → ClassId) (q : Nat → Nat) : va_W := [((q 0), .inl (ca 0, 16, .inl (fun _ => 0))), (a, .inr (4, [.ref (q 0), .int (-1 : Int32)]))]
abbrev m_X4_init16 : MI := (cX4_init, 2, RX4, { frames := 1, cells := 1, slots := 16, locals := 21 }, none)
theorem ok_X4_init16 : OKI yX4_init m_X4_init16 1 := ⟨tb_at 207 (by decide +kernel) rfl, ini_X4, ⟨by decide, by decide, by decide +kernel⟩, rfl, tb_at 206 (by decide +kernel) rfl, rfl⟩
set_option maxRecDepth 100000 in
set_option maxHeartbeats 40000000 in
theorem c_X4_init16 (a : Nat) (ws0 : va_W) : CN yX4_init m_X4_init16 [.ref a, .int (16 : Int32)] ((a, .inr (4, [.null, .int 0])) :: ws0) (fun ca q => nw_X4_init16 a ca q ++ ws0) := by
  refine CN.of (by decide) rfl rfl (Nat.le_of_ble_eq_true rfl) (fun X hi => ?_)
  show GN _ X m_X4_init16 _ 0 0 0 [(0, .ref a), (1, .int (16 : Int32))] []
  refine n_aload_n 0 dX4_init_0 rfl ?_
  refine n_objInit ol_X4_3 oi_i oi_c (by decide) (Nat.le_of_ble_eq_true rfl) dX4_init_1 ?_
  refine n_aload_n 0 dX4_init_4 rfl ?_
  refine n_iconst (-1 : Int32) dX4_init_5 (by decide) ?_
  refine n_put 0 rfl rfl inX4 tyX4_ok nmX4 1 (by decide) rfl rfl rfl (Nat.le_of_ble_eq_true rfl) pl_X4_9 dX4_init_6 ?_
  refine n_aload_n 0 dX4_init_9 rfl ?_
  refine n_iload_n 1 dX4_init_10 rfl ?_
  refine n_iconst (0 : Int32) dX4_init_11 (by decide) ?_
  refine n_mmax (z := (16 : Int32)) jl_X4_15 (by decide) (by decide) (Nat.le_of_ble_eq_true rfl) (by decide) (by decide) dX4_init_12 ?_
  refine n_newI 16 arc_int (by decide) (by decide) (by decide) rfl rfl (by decide) (by decide) dX4_init_15 (fun q1 => ?_)
  refine n_putF hi 1 rfl rfl inX4 tyX4_ok nmX4 0 (by decide) rfl rfl rfl rfl (Nat.le_of_ble_eq_true rfl) pl_X4_21 dX4_init_17 ?_
  exact n_vret (fun i => [q1].getD i 0) rfl rfl dX4_init_20
def nw_X2_init (a : Nat) (ca : Nat → ClassId) (q : Nat → Nat) : va_W := [((q 10), .inr (1, [.int (0 : Int32), .int (0 : Int32), .int (-9 : Int32), .int (-9 : Int32), .int (0 : Int32)])), ((q 9), .inr (1, [.int (0 : Int32), .int (0 : Int32), .int (-9 : Int32), .int (-9 : Int32), .int (0 : Int32)])), ((q 8), .inr (1, [.int (0 : Int32), .int (0 : Int32), .int (-9 : Int32), .int (-9 : Int32), .int (0 : Int32)])), ((q 7), .inr (1, [.int (0 : Int32), .int (0 : Int32), .int (-9 : Int32), .int (-9 : Int32), .int (0 : Int32)])), ((q 6), .inr (1, [.int (0 : Int32), .int (0 : Int32), .int (-9 : Int32), .int (-9 : Int32), .int (0 : Int32)])), ((q 5), .inr (1, [.int (0 : Int32), .int (0 : Int32), .int (-9 : Int32), .int (-9 : Int32), .int (0 : Int32)])), ((q 4), .inr (1, [.int (0 : Int32), .int (0 : Int32), .int (-9 : Int32), .int (-9 : Int32), .int (0 : Int32)])), ((q 3), .inr (1, [.int (0 : Int32), .int (0 : Int32), .int (-9 : Int32), .int (-9 : Int32), .int (0 : Int32)])), ((q 2), .inl (ca 0, 6, .inl (fun _ => 0))), ((q 1), .inl (ca 1, 40, .inr (.inl (fun _ => 0)))), ((q 0), .inl (ca 4, 8, .inr (.inr (.inr (.inr (va_up (va_up (va_up (va_up (va_up (va_up (va_up (va_up (fun _ => none) 0 (some (q 3))) 1 (some (q 4))) 2 (some (q 5))) 3 (some (q 6))) 4 (some (q 7))) 5 (some (q 8))) 6 (some (q 9))) 7 (some (q 10)))))))), (a, .inr (2, [.ref (q 0), .ref (q 1), .ref (q 2), .int (0 : Int32), .int (0 : Int32)]))]
abbrev m_X2_init : MI := (cX2_init, 2, RX2, { frames := 2, cells := 11, slots := 94, locals := 40 }, none)
theorem ok_X2_init : OKI yX2_init m_X2_init 0 := ⟨tb_at 129 (by decide +kernel) rfl, ini_X2, ⟨by decide, by decide, by decide +kernel⟩, rfl, tb_at 128 (by decide +kernel) rfl, rfl⟩
set_option maxRecDepth 100000 in
set_option maxHeartbeats 40000000 in
theorem c_X2_init (a : Nat) (ws0 : va_W) : CN yX2_init m_X2_init [.ref a] ((a, .inr (2, [.null, .null, .null, .int 0, .int 0])) :: ws0) (fun ca q => nw_X2_init a ca q ++ ws0) := by
  refine CN.of (by decide) rfl rfl (Nat.le_of_ble_eq_true rfl) (fun X hi => ?_)
  show GN _ X m_X2_init _ 0 0 0 [(0, .ref a)] []
  refine n_aload_n 0 dX2_init_0 rfl ?_
  refine n_objInit ol_X2_3 oi_i oi_c (by decide) (Nat.le_of_ble_eq_true rfl) dX2_init_1 ?_
  refine n_aload_n 0 dX2_init_4 rfl ?_
  refine n_bipush (8 : Int32) dX2_init_5 (by decide) ?_
  refine n_newR 8 4 (fun _ => rfl) cl_X2_9 (fun _ h => h.1) (by decide) (by decide) (by decide) rfl rfl (by decide) (by decide) dX2_init_7 (fun q1 => ?_)
  refine n_putF hi 1 rfl rfl inX2 tyX2_ok nmX2 0 (by decide) rfl rfl rfl rfl (Nat.le_of_ble_eq_true rfl) pl_X2_11 dX2_init_10 ?_
  refine n_aload_n 0 dX2_init_13 rfl ?_
  refine n_bipush (40 : Int32) dX2_init_14 (by decide) ?_
  refine n_newJ 40 arc_long (by decide) (by decide) (by decide) rfl rfl (by decide) (by decide) dX2_init_16 (fun q2 => ?_)
  refine n_putF hi 2 rfl rfl inX2 tyX2_ok nmX2 1 (by decide) rfl rfl rfl rfl (Nat.le_of_ble_eq_true rfl) pl_X2_17 dX2_init_18 ?_
  refine n_aload_n 0 dX2_init_21 rfl ?_
  refine n_bipush (6 : Int32) dX2_init_22 (by decide) ?_
  refine n_newI 6 arc_int (by decide) (by decide) (by decide) rfl rfl (by decide) (by decide) dX2_init_24 (fun q3 => ?_)
  refine n_putF hi 3 rfl rfl inX2 tyX2_ok nmX2 2 (by decide) rfl rfl rfl rfl (Nat.le_of_ble_eq_true rfl) pl_X2_21 dX2_init_26 ?_
  refine n_aload_n 0 dX2_init_29 rfl ?_
  refine n_iconst (0 : Int32) dX2_init_30 (by decide) ?_
  refine n_put 3 rfl rfl inX2 tyX2_ok nmX2 3 (by decide) rfl rfl rfl (Nat.le_of_ble_eq_true rfl) pl_X2_25 dX2_init_31 ?_
  refine n_aload_n 0 dX2_init_34 rfl ?_
  refine n_iconst (0 : Int32) dX2_init_35 (by decide) ?_
  refine n_put 3 rfl rfl inX2 tyX2_ok nmX2 4 (by decide) rfl rfl rfl (Nat.le_of_ble_eq_true rfl) pl_X2_29 dX2_init_36 ?_
  refine n_iconst (0 : Int32) dX2_init_39 (by decide) ?_
  refine n_istore_n [(1, .int (0 : Int32)), (0, .ref a)] dX2_init_40 (by decide) rfl ?_
  refine n_iload_n 0 dX2_init_41 rfl ?_
  refine n_aload_n 1 dX2_init_42 rfl ?_
  refine n_get 3 rfl rfl inX2 0 (by decide) (v := .ref q1) rfl fl_X2_11 dX2_init_43 ?_
  refine n_alen 2 4 rfl (by decide) (v := (8 : Int32)) rfl dX2_init_46 ?_
  refine n_geF 69 dX2_init_47 rfl (by decide) ?_
  refine n_aload_n 1 dX2_init_50 rfl ?_
  refine n_get 3 rfl rfl inX2 0 (by decide) (v := .ref q1) rfl fl_X2_11 dX2_init_51 ?_
  refine n_iload_n 0 dX2_init_54 rfl ?_
  refine n_new (ci := 1) [.int 0, .int 0, .int 0, .int 0, .int 0] rfl inX1 tyX1_ok cl_X2_9 ins_X1 ini_X1 hfs_X1 rfl rfl (by decide) (by decide) dX2_init_55 (fun q4 => ?_)
  refine n_dup dX2_init_58 rfl ?_
  refine n_call [] (c_X1_init q4 _) ok_X1_init ⟨by decide, by decide⟩ ml_X2_32 rfl rfl (Nat.le_of_ble_eq_true rfl) rfl rfl (by decide) (by decide) dX2_init_59 (fun q5 => ?_)
  refine n_aast 3 4 0 1 rfl (fun _ => rfl) rfl rfl 0 (by decide) (by decide) dX2_init_62 ?_
  refine n_iinc 0 [(1, .int (1 : Int32)), (0, .ref a)] dX2_init_63 rfl (v := (1 : Int32)) (by decide) (by decide) rfl ?_
  refine n_goto 41 dX2_init_66 rfl ?_
  refine n_iload_n 0 dX2_init_41 rfl ?_
  refine n_aload_n 1 dX2_init_42 rfl ?_
  refine n_get 4 rfl rfl inX2 0 (by decide) (v := .ref q1) rfl fl_X2_11 dX2_init_43 ?_
  refine n_alen 3 4 rfl (by decide) (v := (8 : Int32)) rfl dX2_init_46 ?_
  refine n_geF 69 dX2_init_47 rfl (by decide) ?_
  refine n_aload_n 1 dX2_init_50 rfl ?_
  refine n_get 4 rfl rfl inX2 0 (by decide) (v := .ref q1) rfl fl_X2_11 dX2_init_51 ?_
  refine n_iload_n 0 dX2_init_54 rfl ?_
  refine n_new (ci := 1) [.int 0, .int 0, .int 0, .int 0, .int 0] rfl inX1 tyX1_ok cl_X2_9 ins_X1 ini_X1 hfs_X1 rfl rfl (by decide) (by decide) dX2_init_55 (fun q6 => ?_)
  refine n_dup dX2_init_58 rfl ?_
  refine n_call [] (c_X1_init q6 _) ok_X1_init ⟨by decide, by decide⟩ ml_X2_32 rfl rfl (Nat.le_of_ble_eq_true rfl) rfl rfl (by decide) (by decide) dX2_init_59 (fun q7 => ?_)
  refine n_aast 4 4 0 1 rfl (fun _ => rfl) rfl rfl 1 (by decide) (by decide) dX2_init_62 ?_
  refine n_iinc 0 [(1, .int (2 : Int32)), (0, .ref a)] dX2_init_63 rfl (v := (2 : Int32)) (by decide) (by decide) rfl ?_
  refine n_goto 41 dX2_init_66 rfl ?_
  refine n_iload_n 0 dX2_init_41 rfl ?_
  refine n_aload_n 1 dX2_init_42 rfl ?_
  refine n_get 5 rfl rfl inX2 0 (by decide) (v := .ref q1) rfl fl_X2_11 dX2_init_43 ?_
  refine n_alen 4 4 rfl (by decide) (v := (8 : Int32)) rfl dX2_init_46 ?_
  refine n_geF 69 dX2_init_47 rfl (by decide) ?_
  refine n_aload_n 1 dX2_init_50 rfl ?_
  refine n_get 5 rfl rfl inX2 0 (by decide) (v := .ref q1) rfl fl_X2_11 dX2_init_51 ?_
  refine n_iload_n 0 dX2_init_54 rfl ?_
  refine n_new (ci := 1) [.int 0, .int 0, .int 0, .int 0, .int 0] rfl inX1 tyX1_ok cl_X2_9 ins_X1 ini_X1 hfs_X1 rfl rfl (by decide) (by decide) dX2_init_55 (fun q8 => ?_)
  refine n_dup dX2_init_58 rfl ?_
  refine n_call [] (c_X1_init q8 _) ok_X1_init ⟨by decide, by decide⟩ ml_X2_32 rfl rfl (Nat.le_of_ble_eq_true rfl) rfl rfl (by decide) (by decide) dX2_init_59 (fun q9 => ?_)
  refine n_aast 5 4 0 1 rfl (fun _ => rfl) rfl rfl 2 (by decide) (by decide) dX2_init_62 ?_
  refine n_iinc 0 [(1, .int (3 : Int32)), (0, .ref a)] dX2_init_63 rfl (v := (3 : Int32)) (by decide) (by decide) rfl ?_
  refine n_goto 41 dX2_init_66 rfl ?_
  refine n_iload_n 0 dX2_init_41 rfl ?_
  refine n_aload_n 1 dX2_init_42 rfl ?_
  refine n_get 6 rfl rfl inX2 0 (by decide) (v := .ref q1) rfl fl_X2_11 dX2_init_43 ?_
  refine n_alen 5 4 rfl (by decide) (v := (8 : Int32)) rfl dX2_init_46 ?_
  refine n_geF 69 dX2_init_47 rfl (by decide) ?_
  refine n_aload_n 1 dX2_init_50 rfl ?_
  refine n_get 6 rfl rfl inX2 0 (by decide) (v := .ref q1) rfl fl_X2_11 dX2_init_51 ?_
  refine n_iload_n 0 dX2_init_54 rfl ?_
  refine n_new (ci := 1) [.int 0, .int 0, .int 0, .int 0, .int 0] rfl inX1 tyX1_ok cl_X2_9 ins_X1 ini_X1 hfs_X1 rfl rfl (by decide) (by decide) dX2_init_55 (fun q10 => ?_)
  refine n_dup dX2_init_58 rfl ?_
  refine n_call [] (c_X1_init q10 _) ok_X1_init ⟨by decide, by decide⟩ ml_X2_32 rfl rfl (Nat.le_of_ble_eq_true rfl) rfl rfl (by decide) (by decide) dX2_init_59 (fun q11 => ?_)
  refine n_aast 6 4 0 1 rfl (fun _ => rfl) rfl rfl 3 (by decide) (by decide) dX2_init_62 ?_
  refine n_iinc 0 [(1, .int (4 : Int32)), (0, .ref a)] dX2_init_63 rfl (v := (4 : Int32)) (by decide) (by decide) rfl ?_
  refine n_goto 41 dX2_init_66 rfl ?_
  refine n_iload_n 0 dX2_init_41 rfl ?_
  refine n_aload_n 1 dX2_init_42 rfl ?_
  refine n_get 7 rfl rfl inX2 0 (by decide) (v := .ref q1) rfl fl_X2_11 dX2_init_43 ?_
  refine n_alen 6 4 rfl (by decide) (v := (8 : Int32)) rfl dX2_init_46 ?_
  refine n_geF 69 dX2_init_47 rfl (by decide) ?_
  refine n_aload_n 1 dX2_init_50 rfl ?_
  refine n_get 7 rfl rfl inX2 0 (by decide) (v := .ref q1) rfl fl_X2_11 dX2_init_51 ?_
  refine n_iload_n 0 dX2_init_54 rfl ?_
  refine n_new (ci := 1) [.int 0, .int 0, .int 0, .int 0, .int 0] rfl inX1 tyX1_ok cl_X2_9 ins_X1 ini_X1 hfs_X1 rfl rfl (by decide) (by decide) dX2_init_55 (fun q12 => ?_)
  refine n_dup dX2_init_58 rfl ?_
  refine n_call [] (c_X1_init q12 _) ok_X1_init ⟨by decide, by decide⟩ ml_X2_32 rfl rfl (Nat.le_of_ble_eq_true rfl) rfl rfl (by decide) (by decide) dX2_init_59 (fun q13 => ?_)
  refine n_aast 7 4 0 1 rfl (fun _ => rfl) rfl rfl 4 (by decide) (by decide) dX2_init_62 ?_
  refine n_iinc 0 [(1, .int (5 : Int32)), (0, .ref a)] dX2_init_63 rfl (v := (5 : Int32)) (by decide) (by decide) rfl ?_
  refine n_goto 41 dX2_init_66 rfl ?_
  refine n_iload_n 0 dX2_init_41 rfl ?_
  refine n_aload_n 1 dX2_init_42 rfl ?_
  refine n_get 8 rfl rfl inX2 0 (by decide) (v := .ref q1) rfl fl_X2_11 dX2_init_43 ?_
  refine n_alen 7 4 rfl (by decide) (v := (8 : Int32)) rfl dX2_init_46 ?_
  refine n_geF 69 dX2_init_47 rfl (by decide) ?_
  refine n_aload_n 1 dX2_init_50 rfl ?_
  refine n_get 8 rfl rfl inX2 0 (by decide) (v := .ref q1) rfl fl_X2_11 dX2_init_51 ?_
  refine n_iload_n 0 dX2_init_54 rfl ?_
  refine n_new (ci := 1) [.int 0, .int 0, .int 0, .int 0, .int 0] rfl inX1 tyX1_ok cl_X2_9 ins_X1 ini_X1 hfs_X1 rfl rfl (by decide) (by decide) dX2_init_55 (fun q14 => ?_)
  refine n_dup dX2_init_58 rfl ?_
  refine n_call [] (c_X1_init q14 _) ok_X1_init ⟨by decide, by decide⟩ ml_X2_32 rfl rfl (Nat.le_of_ble_eq_true rfl) rfl rfl (by decide) (by decide) dX2_init_59 (fun q15 => ?_)
  refine n_aast 8 4 0 1 rfl (fun _ => rfl) rfl rfl 5 (by decide) (by decide) dX2_init_62 ?_
  refine n_iinc 0 [(1, .int (6 : Int32)), (0, .ref a)] dX2_init_63 rfl (v := (6 : Int32)) (by decide) (by decide) rfl ?_
  refine n_goto 41 dX2_init_66 rfl ?_
  refine n_iload_n 0 dX2_init_41 rfl ?_
  refine n_aload_n 1 dX2_init_42 rfl ?_
  refine n_get 9 rfl rfl inX2 0 (by decide) (v := .ref q1) rfl fl_X2_11 dX2_init_43 ?_
  refine n_alen 8 4 rfl (by decide) (v := (8 : Int32)) rfl dX2_init_46 ?_
  refine n_geF 69 dX2_init_47 rfl (by decide) ?_
  refine n_aload_n 1 dX2_init_50 rfl ?_
  refine n_get 9 rfl rfl inX2 0 (by decide) (v := .ref q1) rfl fl_X2_11 dX2_init_51 ?_
  refine n_iload_n 0 dX2_init_54 rfl ?_
  refine n_new (ci := 1) [.int 0, .int 0, .int 0, .int 0, .int 0] rfl inX1 tyX1_ok cl_X2_9 ins_X1 ini_X1 hfs_X1 rfl rfl (by decide) (by decide) dX2_init_55 (fun q16 => ?_)
  refine n_dup dX2_init_58 rfl ?_
  refine n_call [] (c_X1_init q16 _) ok_X1_init ⟨by decide, by decide⟩ ml_X2_32 rfl rfl (Nat.le_of_ble_eq_true rfl) rfl rfl (by decide) (by decide) dX2_init_59 (fun q17 => ?_)
  refine n_aast 9 4 0 1 rfl (fun _ => rfl) rfl rfl 6 (by decide) (by decide) dX2_init_62 ?_
  refine n_iinc 0 [(1, .int (7 : Int32)), (0, .ref a)] dX2_init_63 rfl (v := (7 : Int32)) (by decide) (by decide) rfl ?_
  refine n_goto 41 dX2_init_66 rfl ?_
  refine n_iload_n 0 dX2_init_41 rfl ?_
  refine n_aload_n 1 dX2_init_42 rfl ?_
  refine n_get 10 rfl rfl inX2 0 (by decide) (v := .ref q1) rfl fl_X2_11 dX2_init_43 ?_
  refine n_alen 9 4 rfl (by decide) (v := (8 : Int32)) rfl dX2_init_46 ?_
  refine n_geF 69 dX2_init_47 rfl (by decide) ?_
  refine n_aload_n 1 dX2_init_50 rfl ?_
  refine n_get 10 rfl rfl inX2 0 (by decide) (v := .ref q1) rfl fl_X2_11 dX2_init_51 ?_
  refine n_iload_n 0 dX2_init_54 rfl ?_
  refine n_new (ci := 1) [.int 0, .int 0, .int 0, .int 0, .int 0] rfl inX1 tyX1_ok cl_X2_9 ins_X1 ini_X1 hfs_X1 rfl rfl (by decide) (by decide) dX2_init_55 (fun q18 => ?_)
  refine n_dup dX2_init_58 rfl ?_
  refine n_call [] (c_X1_init q18 _) ok_X1_init ⟨by decide, by decide⟩ ml_X2_32 rfl rfl (Nat.le_of_ble_eq_true rfl) rfl rfl (by decide) (by decide) dX2_init_59 (fun q19 => ?_)
  refine n_aast 10 4 0 1 rfl (fun _ => rfl) rfl rfl 7 (by decide) (by decide) dX2_init_62 ?_
  refine n_iinc 0 [(1, .int (8 : Int32)), (0, .ref a)] dX2_init_63 rfl (v := (8 : Int32)) (by decide) (by decide) rfl ?_
  refine n_goto 41 dX2_init_66 rfl ?_
  refine n_iload_n 0 dX2_init_41 rfl ?_
  refine n_aload_n 1 dX2_init_42 rfl ?_
  refine n_get 11 rfl rfl inX2 0 (by decide) (v := .ref q1) rfl fl_X2_11 dX2_init_43 ?_
  refine n_alen 10 4 rfl (by decide) (v := (8 : Int32)) rfl dX2_init_46 ?_
  refine n_geT 69 dX2_init_47 rfl (by decide) ?_
  exact n_vret (fun i => [q1, q2, q3, q4, q6, q8, q10, q12, q14, q16, q18].getD i 0) rfl rfl dX2_init_69
def nw_X3_init (a : Nat) (ca : Nat → ClassId) (q : Nat → Nat) : va_W := [((q 8), .inr (1, [.int (0 : Int32), .int (0 : Int32), .int (-9 : Int32), .int (-9 : Int32), .int (0 : Int32)])), ((q 7), .inr (1, [.int (0 : Int32), .int (0 : Int32), .int (-9 : Int32), .int (-9 : Int32), .int (0 : Int32)])), ((q 6), .inr (1, [.int (0 : Int32), .int (0 : Int32), .int (-9 : Int32), .int (-9 : Int32), .int (0 : Int32)])), ((q 5), .inr (1, [.int (0 : Int32), .int (0 : Int32), .int (-9 : Int32), .int (-9 : Int32), .int (0 : Int32)])), ((q 4), .inr (1, [.int (0 : Int32), .int (0 : Int32), .int (-9 : Int32), .int (-9 : Int32), .int (0 : Int32)])), ((q 3), .inr (1, [.int (0 : Int32), .int (0 : Int32), .int (-9 : Int32), .int (-9 : Int32), .int (0 : Int32)])), ((q 2), .inr (1, [.int (0 : Int32), .int (0 : Int32), .int (-9 : Int32), .int (-9 : Int32), .int (0 : Int32)])), ((q 1), .inr (1, [.int (0 : Int32), .int (0 : Int32), .int (-9 : Int32), .int (-9 : Int32), .int (0 : Int32)])), ((q 0), .inl (ca 4, 8, .inr (.inr (.inr (.inr (va_up (va_up (va_up (va_up (va_up (va_up (va_up (va_up (fun _ => none) 0 (some (q 1))) 1 (some (q 2))) 2 (some (q 3))) 3 (some (q 4))) 4 (some (q 5))) 5 (some (q 6))) 6 (some (q 7))) 7 (some (q 8)))))))), (a, .inr (3, [.ref (q 0), .int (0 : Int32)]))]
abbrev m_X3_init : MI := (cX3_init, 2, RX3, { frames := 2, cells := 9, slots := 48, locals := 40 }, none)
theorem ok_X3_init : OKI yX3_init m_X3_init 0 := ⟨tb_at 85 (by decide +kernel) rfl, ini_X3, ⟨by decide, by decide, by decide +kernel⟩, rfl, tb_at 84 (by decide +kernel) rfl, rfl⟩
set_option maxRecDepth 100000 in
set_option maxHeartbeats 40000000 in
theorem c_X3_init (a : Nat) (ws0 : va_W) : CN yX3_init m_X3_init [.ref a] ((a, .inr (3, [.null, .int 0])) :: ws0) (fun ca q => nw_X3_init a ca q ++ ws0) := by
  refine CN.of (by decide) rfl rfl (Nat.le_of_ble_eq_true rfl) (fun X hi => ?_)
  show GN _ X m_X3_init _ 0 0 0 [(0, .ref a)] []
  refine n_aload_n 0 dX3_init_0 rfl ?_
  refine n_objInit ol_X3_3 oi_i oi_c (by decide) (Nat.le_of_ble_eq_true rfl) dX3_init_1 ?_
  refine n_aload_n 0 dX3_init_4 rfl ?_
  refine n_bipush (8 : Int32) dX3_init_5 (by decide) ?_
  refine n_newR 8 4 (fun _ => rfl) cl_X3_9 (fun _ h => h.1) (by decide) (by decide) (by decide) rfl rfl (by decide) (by decide) dX3_init_7 (fun q1 => ?_)
  refine n_putF hi 1 rfl rfl inX3 tyX3_ok nmX3 0 (by decide) rfl rfl rfl rfl (Nat.le_of_ble_eq_true rfl) pl_X3_11 dX3_init_10 ?_
  refine n_aload_n 0 dX3_init_13 rfl ?_
  refine n_iconst (0 : Int32) dX3_init_14 (by decide) ?_
  refine n_put 1 rfl rfl inX3 tyX3_ok nmX3 1 (by decide) rfl rfl rfl (Nat.le_of_ble_eq_true rfl) pl_X3_17 dX3_init_15 ?_
  refine n_iconst (0 : Int32) dX3_init_18 (by decide) ?_
  refine n_istore_n [(1, .int (0 : Int32)), (0, .ref a)] dX3_init_19 (by decide) rfl ?_
  refine n_iload_n 0 dX3_init_20 rfl ?_
  refine n_aload_n 1 dX3_init_21 rfl ?_
  refine n_get 1 rfl rfl inX3 0 (by decide) (v := .ref q1) rfl fl_X3_11 dX3_init_22 ?_
  refine n_alen 0 4 rfl (by decide) (v := (8 : Int32)) rfl dX3_init_25 ?_
  refine n_geF 48 dX3_init_26 rfl (by decide) ?_
  refine n_aload_n 1 dX3_init_29 rfl ?_
  refine n_get 1 rfl rfl inX3 0 (by decide) (v := .ref q1) rfl fl_X3_11 dX3_init_30 ?_
  refine n_iload_n 0 dX3_init_33 rfl ?_
  refine n_new (ci := 1) [.int 0, .int 0, .int 0, .int 0, .int 0] rfl inX1 tyX1_ok cl_X3_9 ins_X1 ini_X1 hfs_X1 rfl rfl (by decide) (by decide) dX3_init_34 (fun q2 => ?_)
  refine n_dup dX3_init_37 rfl ?_
  refine n_call [] (c_X1_init q2 _) ok_X1_init ⟨by decide, by decide⟩ ml_X3_21 rfl rfl (Nat.le_of_ble_eq_true rfl) rfl rfl (by decide) (by decide) dX3_init_38 (fun q3 => ?_)
  refine n_aast 1 4 0 1 rfl (fun _ => rfl) rfl rfl 0 (by decide) (by decide) dX3_init_41 ?_
  refine n_iinc 0 [(1, .int (1 : Int32)), (0, .ref a)] dX3_init_42 rfl (v := (1 : Int32)) (by decide) (by decide) rfl ?_
  refine n_goto 20 dX3_init_45 rfl ?_
  refine n_iload_n 0 dX3_init_20 rfl ?_
  refine n_aload_n 1 dX3_init_21 rfl ?_
  refine n_get 2 rfl rfl inX3 0 (by decide) (v := .ref q1) rfl fl_X3_11 dX3_init_22 ?_
  refine n_alen 1 4 rfl (by decide) (v := (8 : Int32)) rfl dX3_init_25 ?_
  refine n_geF 48 dX3_init_26 rfl (by decide) ?_
  refine n_aload_n 1 dX3_init_29 rfl ?_
  refine n_get 2 rfl rfl inX3 0 (by decide) (v := .ref q1) rfl fl_X3_11 dX3_init_30 ?_
  refine n_iload_n 0 dX3_init_33 rfl ?_
  refine n_new (ci := 1) [.int 0, .int 0, .int 0, .int 0, .int 0] rfl inX1 tyX1_ok cl_X3_9 ins_X1 ini_X1 hfs_X1 rfl rfl (by decide) (by decide) dX3_init_34 (fun q4 => ?_)
  refine n_dup dX3_init_37 rfl ?_
  refine n_call [] (c_X1_init q4 _) ok_X1_init ⟨by decide, by decide⟩ ml_X3_21 rfl rfl (Nat.le_of_ble_eq_true rfl) rfl rfl (by decide) (by decide) dX3_init_38 (fun q5 => ?_)
  refine n_aast 2 4 0 1 rfl (fun _ => rfl) rfl rfl 1 (by decide) (by decide) dX3_init_41 ?_
  refine n_iinc 0 [(1, .int (2 : Int32)), (0, .ref a)] dX3_init_42 rfl (v := (2 : Int32)) (by decide) (by decide) rfl ?_
  refine n_goto 20 dX3_init_45 rfl ?_
  refine n_iload_n 0 dX3_init_20 rfl ?_
  refine n_aload_n 1 dX3_init_21 rfl ?_
  refine n_get 3 rfl rfl inX3 0 (by decide) (v := .ref q1) rfl fl_X3_11 dX3_init_22 ?_
  refine n_alen 2 4 rfl (by decide) (v := (8 : Int32)) rfl dX3_init_25 ?_
  refine n_geF 48 dX3_init_26 rfl (by decide) ?_
  refine n_aload_n 1 dX3_init_29 rfl ?_
  refine n_get 3 rfl rfl inX3 0 (by decide) (v := .ref q1) rfl fl_X3_11 dX3_init_30 ?_
  refine n_iload_n 0 dX3_init_33 rfl ?_
  refine n_new (ci := 1) [.int 0, .int 0, .int 0, .int 0, .int 0] rfl inX1 tyX1_ok cl_X3_9 ins_X1 ini_X1 hfs_X1 rfl rfl (by decide) (by decide) dX3_init_34 (fun q6 => ?_)
  refine n_dup dX3_init_37 rfl ?_
  refine n_call [] (c_X1_init q6 _) ok_X1_init ⟨by decide, by decide⟩ ml_X3_21 rfl rfl (Nat.le_of_ble_eq_true rfl) rfl rfl (by decide) (by decide) dX3_init_38 (fun q7 => ?_)
  refine n_aast 3 4 0 1 rfl (fun _ => rfl) rfl rfl 2 (by decide) (by decide) dX3_init_41 ?_
  refine n_iinc 0 [(1, .int (3 : Int32)), (0, .ref a)] dX3_init_42 rfl (v := (3 : Int32)) (by decide) (by decide) rfl ?_
  refine n_goto 20 dX3_init_45 rfl ?_
  refine n_iload_n 0 dX3_init_20 rfl ?_
  refine n_aload_n 1 dX3_init_21 rfl ?_
  refine n_get 4 rfl rfl inX3 0 (by decide) (v := .ref q1) rfl fl_X3_11 dX3_init_22 ?_
  refine n_alen 3 4 rfl (by decide) (v := (8 : Int32)) rfl dX3_init_25 ?_
  refine n_geF 48 dX3_init_26 rfl (by decide) ?_
  refine n_aload_n 1 dX3_init_29 rfl ?_
  refine n_get 4 rfl rfl inX3 0 (by decide) (v := .ref q1) rfl fl_X3_11 dX3_init_30 ?_
  refine n_iload_n 0 dX3_init_33 rfl ?_
  refine n_new (ci := 1) [.int 0, .int 0, .int 0, .int 0, .int 0] rfl inX1 tyX1_ok cl_X3_9 ins_X1 ini_X1 hfs_X1 rfl rfl (by decide) (by decide) dX3_init_34 (fun q8 => ?_)
  refine n_dup dX3_init_37 rfl ?_
  refine n_call [] (c_X1_init q8 _) ok_X1_init ⟨by decide, by decide⟩ ml_X3_21 rfl rfl (Nat.le_of_ble_eq_true rfl) rfl rfl (by decide) (by decide) dX3_init_38 (fun q9 => ?_)
  refine n_aast 4 4 0 1 rfl (fun _ => rfl) rfl rfl 3 (by decide) (by decide) dX3_init_41 ?_
  refine n_iinc 0 [(1, .int (4 : Int32)), (0, .ref a)] dX3_init_42 rfl (v := (4 : Int32)) (by decide) (by decide) rfl ?_
  refine n_goto 20 dX3_init_45 rfl ?_
  refine n_iload_n 0 dX3_init_20 rfl ?_
  refine n_aload_n 1 dX3_init_21 rfl ?_
  refine n_get 5 rfl rfl inX3 0 (by decide) (v := .ref q1) rfl fl_X3_11 dX3_init_22 ?_
  refine n_alen 4 4 rfl (by decide) (v := (8 : Int32)) rfl dX3_init_25 ?_
  refine n_geF 48 dX3_init_26 rfl (by decide) ?_
  refine n_aload_n 1 dX3_init_29 rfl ?_
  refine n_get 5 rfl rfl inX3 0 (by decide) (v := .ref q1) rfl fl_X3_11 dX3_init_30 ?_
  refine n_iload_n 0 dX3_init_33 rfl ?_
  refine n_new (ci := 1) [.int 0, .int 0, .int 0, .int 0, .int 0] rfl inX1 tyX1_ok cl_X3_9 ins_X1 ini_X1 hfs_X1 rfl rfl (by decide) (by decide) dX3_init_34 (fun q10 => ?_)
  refine n_dup dX3_init_37 rfl ?_
  refine n_call [] (c_X1_init q10 _) ok_X1_init ⟨by decide, by decide⟩ ml_X3_21 rfl rfl (Nat.le_of_ble_eq_true rfl) rfl rfl (by decide) (by decide) dX3_init_38 (fun q11 => ?_)
  refine n_aast 5 4 0 1 rfl (fun _ => rfl) rfl rfl 4 (by decide) (by decide) dX3_init_41 ?_
  refine n_iinc 0 [(1, .int (5 : Int32)), (0, .ref a)] dX3_init_42 rfl (v := (5 : Int32)) (by decide) (by decide) rfl ?_
  refine n_goto 20 dX3_init_45 rfl ?_
  refine n_iload_n 0 dX3_init_20 rfl ?_
  refine n_aload_n 1 dX3_init_21 rfl ?_
  refine n_get 6 rfl rfl inX3 0 (by decide) (v := .ref q1) rfl fl_X3_11 dX3_init_22 ?_
  refine n_alen 5 4 rfl (by decide) (v := (8 : Int32)) rfl dX3_init_25 ?_
  refine n_geF 48 dX3_init_26 rfl (by decide) ?_
  refine n_aload_n 1 dX3_init_29 rfl ?_
  refine n_get 6 rfl rfl inX3 0 (by decide) (v := .ref q1) rfl fl_X3_11 dX3_init_30 ?_
  refine n_iload_n 0 dX3_init_33 rfl ?_
  refine n_new (ci := 1) [.int 0, .int 0, .int 0, .int 0, .int 0] rfl inX1 tyX1_ok cl_X3_9 ins_X1 ini_X1 hfs_X1 rfl rfl (by decide) (by decide) dX3_init_34 (fun q12 => ?_)
  refine n_dup dX3_init_37 rfl ?_
  refine n_call [] (c_X1_init q12 _) ok_X1_init ⟨by decide, by decide⟩ ml_X3_21 rfl rfl (Nat.le_of_ble_eq_true rfl) rfl rfl (by decide) (by decide) dX3_init_38 (fun q13 => ?_)
  refine n_aast 6 4 0 1 rfl (fun _ => rfl) rfl rfl 5 (by decide) (by decide) dX3_init_41 ?_
  refine n_iinc 0 [(1, .int (6 : Int32)), (0, .ref a)] dX3_init_42 rfl (v := (6 : Int32)) (by decide) (by decide) rfl ?_
  refine n_goto 20 dX3_init_45 rfl ?_
  refine n_iload_n 0 dX3_init_20 rfl ?_
  refine n_aload_n 1 dX3_init_21 rfl ?_
  refine n_get 7 rfl rfl inX3 0 (by decide) (v := .ref q1) rfl fl_X3_11 dX3_init_22 ?_
  refine n_alen 6 4 rfl (by decide) (v := (8 : Int32)) rfl dX3_init_25 ?_
  refine n_geF 48 dX3_init_26 rfl (by decide) ?_
  refine n_aload_n 1 dX3_init_29 rfl ?_
  refine n_get 7 rfl rfl inX3 0 (by decide) (v := .ref q1) rfl fl_X3_11 dX3_init_30 ?_
  refine n_iload_n 0 dX3_init_33 rfl ?_
  refine n_new (ci := 1) [.int 0, .int 0, .int 0, .int 0, .int 0] rfl inX1 tyX1_ok cl_X3_9 ins_X1 ini_X1 hfs_X1 rfl rfl (by decide) (by decide) dX3_init_34 (fun q14 => ?_)
  refine n_dup dX3_init_37 rfl ?_
  refine n_call [] (c_X1_init q14 _) ok_X1_init ⟨by decide, by decide⟩ ml_X3_21 rfl rfl (Nat.le_of_ble_eq_true rfl) rfl rfl (by decide) (by decide) dX3_init_38 (fun q15 => ?_)
  refine n_aast 7 4 0 1 rfl (fun _ => rfl) rfl rfl 6 (by decide) (by decide) dX3_init_41 ?_
  refine n_iinc 0 [(1, .int (7 : Int32)), (0, .ref a)] dX3_init_42 rfl (v := (7 : Int32)) (by decide) (by decide) rfl ?_
  refine n_goto 20 dX3_init_45 rfl ?_
  refine n_iload_n 0 dX3_init_20 rfl ?_
  refine n_aload_n 1 dX3_init_21 rfl ?_
  refine n_get 8 rfl rfl inX3 0 (by decide) (v := .ref q1) rfl fl_X3_11 dX3_init_22 ?_
  refine n_alen 7 4 rfl (by decide) (v := (8 : Int32)) rfl dX3_init_25 ?_
  refine n_geF 48 dX3_init_26 rfl (by decide) ?_
  refine n_aload_n 1 dX3_init_29 rfl ?_
  refine n_get 8 rfl rfl inX3 0 (by decide) (v := .ref q1) rfl fl_X3_11 dX3_init_30 ?_
  refine n_iload_n 0 dX3_init_33 rfl ?_
  refine n_new (ci := 1) [.int 0, .int 0, .int 0, .int 0, .int 0] rfl inX1 tyX1_ok cl_X3_9 ins_X1 ini_X1 hfs_X1 rfl rfl (by decide) (by decide) dX3_init_34 (fun q16 => ?_)
  refine n_dup dX3_init_37 rfl ?_
  refine n_call [] (c_X1_init q16 _) ok_X1_init ⟨by decide, by decide⟩ ml_X3_21 rfl rfl (Nat.le_of_ble_eq_true rfl) rfl rfl (by decide) (by decide) dX3_init_38 (fun q17 => ?_)
  refine n_aast 8 4 0 1 rfl (fun _ => rfl) rfl rfl 7 (by decide) (by decide) dX3_init_41 ?_
  refine n_iinc 0 [(1, .int (8 : Int32)), (0, .ref a)] dX3_init_42 rfl (v := (8 : Int32)) (by decide) (by decide) rfl ?_
  refine n_goto 20 dX3_init_45 rfl ?_
  refine n_iload_n 0 dX3_init_20 rfl ?_
  refine n_aload_n 1 dX3_init_21 rfl ?_
  refine n_get 9 rfl rfl inX3 0 (by decide) (v := .ref q1) rfl fl_X3_11 dX3_init_22 ?_
  refine n_alen 8 4 rfl (by decide) (v := (8 : Int32)) rfl dX3_init_25 ?_
  refine n_geT 48 dX3_init_26 rfl (by decide) ?_
  exact n_vret (fun i => [q1, q2, q4, q6, q8, q10, q12, q14, q16].getD i 0) rfl rfl dX3_init_48
def nw_X5_init (a : Nat) (ca : Nat → ClassId) (q : Nat → Nat) : va_W := [((q 1), .inl (ca 0, 8, .inl (fun _ => 0))), ((q 0), .inl (ca 0, 8, .inl (fun _ => 0))), (a, .inr (5, [.ref (q 0), .ref (q 1), .int (0 : Int32), .null]))]
abbrev m_X5_init : MI := (cX5_init, 1, RX5, { frames := 1, cells := 2, slots := 16, locals := 20 }, none)
theorem ok_X5_init : OKI yX5_init m_X5_init 0 := ⟨tb_at 228 (by decide +kernel) rfl, ini_X5, ⟨by decide, by decide, by decide +kernel⟩, rfl, tb_at 227 (by decide +kernel) rfl, rfl⟩
set_option maxRecDepth 100000 in
set_option maxHeartbeats 40000000 in
theorem c_X5_init (a : Nat) (ws0 : va_W) : CN yX5_init m_X5_init [.ref a] ((a, .inr (5, [.null, .null, .int 0, .null])) :: ws0) (fun ca q => nw_X5_init a ca q ++ ws0) := by
  refine CN.of (by decide) rfl rfl (Nat.le_of_ble_eq_true rfl) (fun X hi => ?_)
  show GN _ X m_X5_init _ 0 0 0 [(0, .ref a)] []
  refine n_aload_n 0 dX5_init_0 rfl ?_
  refine n_objInit ol_X5_3 oi_i oi_c (by decide) (Nat.le_of_ble_eq_true rfl) dX5_init_1 ?_
  refine n_aload_n 0 dX5_init_4 rfl ?_
  refine n_bipush (8 : Int32) dX5_init_5 (by decide) ?_
  refine n_newI 8 arc_int (by decide) (by decide) (by decide) rfl rfl (by decide) (by decide) dX5_init_7 (fun q1 => ?_)
  refine n_putF hi 1 rfl rfl inX5 tyX5_ok nmX5 0 (by decide) rfl rfl rfl rfl (Nat.le_of_ble_eq_true rfl) pl_X5_9 dX5_init_9 ?_
  refine n_aload_n 0 dX5_init_12 rfl ?_
  refine n_bipush (8 : Int32) dX5_init_13 (by decide) ?_
  refine n_newI 8 arc_int (by decide) (by decide) (by decide) rfl rfl (by decide) (by decide) dX5_init_15 (fun q2 => ?_)
  refine n_putF hi 2 rfl rfl inX5 tyX5_ok nmX5 1 (by decide) rfl rfl rfl rfl (Nat.le_of_ble_eq_true rfl) pl_X5_15 dX5_init_17 ?_
  refine n_aload_n 0 dX5_init_20 rfl ?_
  refine n_iconst (0 : Int32) dX5_init_21 (by decide) ?_
  refine n_put 2 rfl rfl inX5 tyX5_ok nmX5 2 (by decide) rfl rfl rfl (Nat.le_of_ble_eq_true rfl) pl_X5_18 dX5_init_22 ?_
  refine n_aload_n 0 dX5_init_25 rfl ?_
  refine n_null dX5_init_26 ?_
  refine n_put 2 rfl rfl inX5 tyX5_ok nmX5 3 (by decide) rfl rfl rfl (Nat.le_of_ble_eq_true rfl) pl_X5_22 dX5_init_27 ?_
  exact n_vret (fun i => [q1, q2].getD i 0) rfl rfl dX5_init_30
def nw_X6_init (a : Nat) (ca : Nat → ClassId) (q : Nat → Nat) : va_W := [((q 3), .inl (ca 0, 42, .inl (fun _ => 0))), ((q 2), .inl (ca 1, 714, .inr (.inl (fun _ => 0)))), ((q 1), .inl (ca 0, 42, .inl (fun _ => 0))), ((q 0), .inl (ca 1, 42, .inr (.inl (fun _ => 0)))), (a, .inr (6, [.ref (q 0), .ref (q 1), .ref (q 2), .ref (q 3), .long (0 : Int64), .int (0 : Int32)]))]
abbrev m_X6_init : MI := (cX6_init, 1, RX6, { frames := 1, cells := 4, slots := 840, locals := 20 }, none)
theorem ok_X6_init : OKI yX6_init m_X6_init 0 := ⟨tb_at 158 (by decide +kernel) rfl, ini_X6, ⟨by decide, by decide, by decide +kernel⟩, rfl, tb_at 157 (by decide +kernel) rfl, rfl⟩
set_option maxRecDepth 100000 in
set_option maxHeartbeats 40000000 in
theorem c_X6_init (a : Nat) (ws0 : va_W) : CN yX6_init m_X6_init [.ref a] ((a, .inr (6, [.null, .null, .null, .null, .long 0, .int 0])) :: ws0) (fun ca q => nw_X6_init a ca q ++ ws0) := by
  refine CN.of (by decide) rfl rfl (Nat.le_of_ble_eq_true rfl) (fun X hi => ?_)
  show GN _ X m_X6_init _ 0 0 0 [(0, .ref a)] []
  refine n_aload_n 0 dX6_init_0 rfl ?_
  refine n_objInit ol_X6_3 oi_i oi_c (by decide) (Nat.le_of_ble_eq_true rfl) dX6_init_1 ?_
  refine n_aload_n 0 dX6_init_4 rfl ?_
  refine n_bipush (42 : Int32) dX6_init_5 (by decide) ?_
  refine n_newJ 42 arc_long (by decide) (by decide) (by decide) rfl rfl (by decide) (by decide) dX6_init_7 (fun q1 => ?_)
  refine n_putF hi 1 rfl rfl inX6 tyX6_ok nmX6 0 (by decide) rfl rfl rfl rfl (Nat.le_of_ble_eq_true rfl) pl_X6_9 dX6_init_9 ?_
  refine n_aload_n 0 dX6_init_12 rfl ?_
  refine n_bipush (42 : Int32) dX6_init_13 (by decide) ?_
  refine n_newI 42 arc_int (by decide) (by decide) (by decide) rfl rfl (by decide) (by decide) dX6_init_15 (fun q2 => ?_)
  refine n_putF hi 2 rfl rfl inX6 tyX6_ok nmX6 1 (by decide) rfl rfl rfl rfl (Nat.le_of_ble_eq_true rfl) pl_X6_15 dX6_init_17 ?_
  refine n_aload_n 0 dX6_init_20 rfl ?_
  refine n_sipush (714 : Int32) dX6_init_21 (by decide) ?_
  refine n_newJ 714 arc_long (by decide) (by decide) (by decide) rfl rfl (by decide) (by decide) dX6_init_24 (fun q3 => ?_)
  refine n_putF hi 3 rfl rfl inX6 tyX6_ok nmX6 2 (by decide) rfl rfl rfl rfl (Nat.le_of_ble_eq_true rfl) pl_X6_19 dX6_init_26 ?_
  refine n_aload_n 0 dX6_init_29 rfl ?_
  refine n_bipush (42 : Int32) dX6_init_30 (by decide) ?_
  refine n_newI 42 arc_int (by decide) (by decide) (by decide) rfl rfl (by decide) (by decide) dX6_init_32 (fun q4 => ?_)
  refine n_putF hi 4 rfl rfl inX6 tyX6_ok nmX6 3 (by decide) rfl rfl rfl rfl (Nat.le_of_ble_eq_true rfl) pl_X6_22 dX6_init_34 ?_
  refine n_aload_n 0 dX6_init_37 rfl ?_
  refine n_lconst (0 : Int64) dX6_init_38 (by decide) ?_
  refine n_put 4 rfl rfl inX6 tyX6_ok nmX6 4 (by decide) rfl rfl rfl (Nat.le_of_ble_eq_true rfl) pl_X6_25 dX6_init_39 ?_
  refine n_aload_n 0 dX6_init_42 rfl ?_
  refine n_iconst (0 : Int32) dX6_init_43 (by decide) ?_
  refine n_put 4 rfl rfl inX6 tyX6_ok nmX6 5 (by decide) rfl rfl rfl (Nat.le_of_ble_eq_true rfl) pl_X6_29 dX6_init_44 ?_
  exact n_vret (fun i => [q1, q2, q3, q4].getD i 0) rfl rfl dX6_init_47
def nw_X0_init (a : Nat) (ca : Nat → ClassId) (q : Nat → Nat) : va_W := [((q 1), .inl (ca 0, 2048, .inl (fun _ => 0))), ((q 0), .inl (ca 1, 1296, .inr (.inl (fun _ => 0)))), (a, .inr (0, [.ref (q 0), .ref (q 1), .int (0 : Int32), .int (-9 : Int32), .int (-9 : Int32)]))]
abbrev m_X0_init : MI := (cX0_init, 1, RX0, { frames := 1, cells := 2, slots := 3344, locals := 20 }, none)
theorem ok_X0_init : OKI yX0_init m_X0_init 0 := ⟨tb_at 183 (by decide +kernel) rfl, ini_X0, ⟨by decide, by decide, by decide +kernel⟩, rfl, tb_at 182 (by decide +kernel) rfl, rfl⟩
set_option maxRecDepth 100000 in
set_option maxHeartbeats 40000000 in
theorem c_X0_init (a : Nat) (ws0 : va_W) : CN yX0_init m_X0_init [.ref a] ((a, .inr (0, [.null, .null, .int 0, .int 0, .int 0])) :: ws0) (fun ca q => nw_X0_init a ca q ++ ws0) := by
  refine CN.of (by decide) rfl rfl (Nat.le_of_ble_eq_true rfl) (fun X hi => ?_)
  show GN _ X m_X0_init _ 0 0 0 [(0, .ref a)] []
  refine n_aload_n 0 dX0_init_0 rfl ?_
  refine n_objInit ol_X0_3 oi_i oi_c (by decide) (Nat.le_of_ble_eq_true rfl) dX0_init_1 ?_
  refine n_aload_n 0 dX0_init_4 rfl ?_
  refine n_sipush (1296 : Int32) dX0_init_5 (by decide) ?_
  refine n_newJ 1296 arc_long (by decide) (by decide) (by decide) rfl rfl (by decide) (by decide) dX0_init_8 (fun q1 => ?_)
  refine n_putF hi 1 rfl rfl inX0 tyX0_ok nmX0 0 (by decide) rfl rfl rfl rfl (Nat.le_of_ble_eq_true rfl) pl_X0_9 dX0_init_10 ?_
  refine n_aload_n 0 dX0_init_13 rfl ?_
  refine n_sipush (2048 : Int32) dX0_init_14 (by decide) ?_
  refine n_newI 2048 arc_int (by decide) (by decide) (by decide) rfl rfl (by decide) (by decide) dX0_init_17 (fun q2 => ?_)
  refine n_putF hi 2 rfl rfl inX0 tyX0_ok nmX0 1 (by decide) rfl rfl rfl rfl (Nat.le_of_ble_eq_true rfl) pl_X0_15 dX0_init_19 ?_
  refine n_aload_n 0 dX0_init_22 rfl ?_
  refine n_iconst (0 : Int32) dX0_init_23 (by decide) ?_
  refine n_put 2 rfl rfl inX0 tyX0_ok nmX0 2 (by decide) rfl rfl rfl (Nat.le_of_ble_eq_true rfl) pl_X0_19 dX0_init_24 ?_
  refine n_aload_n 0 dX0_init_27 rfl ?_
  refine n_bipush (-9 : Int32) dX0_init_28 (by decide) ?_
  refine n_put 2 rfl rfl inX0 tyX0_ok nmX0 3 (by decide) rfl rfl rfl (Nat.le_of_ble_eq_true rfl) pl_X0_23 dX0_init_30 ?_
  refine n_aload_n 0 dX0_init_33 rfl ?_
  refine n_bipush (-9 : Int32) dX0_init_34 (by decide) ?_
  refine n_put 2 rfl rfl inX0 tyX0_ok nmX0 4 (by decide) rfl rfl rfl (Nat.le_of_ble_eq_true rfl) pl_X0_26 dX0_init_36 ?_
  exact n_vret (fun i => [q1, q2].getD i 0) rfl rfl dX0_init_39
