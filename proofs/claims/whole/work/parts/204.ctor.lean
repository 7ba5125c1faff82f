def nw_X8_init (a : Nat) (ca : Nat → ClassId) (q : Nat → Nat) : va_W := [((q 18), .inl (ca 0, 2181, .inl (upd (upd (upd (fun _ => 0) 0 (-9 : Int32)) 727 (-9 : Int32)) 1454 (-9 : Int32)))), ((q 17), .inl (ca 0, 680, .inl (fun _ => 0))), ((q 16), .inl (ca 0, 6, .inl (fun _ => 0))), ((q 15), .inl (ca 2, 64, .inl (fun _ => 0))), ((q 14), .inl (ca 1, 1296, .inr (.inl (fun _ => 0)))), ((q 13), .inl (ca 0, 16, .inl (fun _ => 0))), ((q 12), .inl (ca 0, 16, .inl (fun _ => 0))), ((q 11), .inl (ca 0, 488, .inl (fun _ => 0))), ((q 10), .inl (ca 0, 61, .inl (fun _ => 0))), ((q 9), .inl (ca 0, 16, .inl (fun _ => 0))), ((q 8), .inl (ca 0, 8, .inl (fun _ => 0))), ((q 7), .inl (ca 0, 40, .inl (fun _ => 0))), ((q 6), .inl (ca 0, 40, .inl (fun _ => 0))), ((q 5), .inl (ca 0, 240, .inl (fun _ => 0))), ((q 4), .inl (ca 0, 4, .inl (upd (upd (upd (upd (fun _ => 0) 0 (-9 : Int32)) 1 (-9 : Int32)) 2 (-9 : Int32)) 3 (-9 : Int32)))), ((q 3), .inl (ca 0, 40, .inl (fun _ => 0))), ((q 2), .inl (ca 0, 240, .inl (fun _ => 0))), ((q 1), .inl (ca 0, 6, .inl (upd (upd (upd (upd (upd (upd (fun _ => 0) 0 (-9 : Int32)) 1 (-9 : Int32)) 2 (-9 : Int32)) 3 (-9 : Int32)) 4 (-9 : Int32)) 5 (-9 : Int32)))), ((q 0), .inl (ca 0, 6, .inl (fun _ => 0))), (a, .inr (8, [.int 0, .ref (q 0), .int 0, .long 0, .long (1 : Int64), .ref (q 1), .ref (q 2), .ref (q 3), .ref (q 4), .ref (q 5), .int 0, .ref (q 6), .int 0, .int 0, .ref (q 7), .ref (q 8), .int 0, .ref (q 9), .int 0, .ref (q 10), .ref (q 11), .ref (q 12), .ref (q 13), .int 0, .ref (q 14), .ref (q 15), .int 0, .ref (q 16), .ref (q 17), .ref (q 18), .long 0]))]
abbrev m_X8_init : MI := (cX8_init, 2, RX8, { frames := 1, cells := 19, slots := 5448, locals := 20 }, none)
theorem ok_X8_init : OKI yX8_init m_X8_init 0 := ⟨tb_at 862 (by decide +kernel) rfl, ini_X8, ⟨by decide, by decide, by decide +kernel⟩, rfl, tb_at 861 (by decide +kernel) rfl, rfl⟩
set_option maxRecDepth 100000 in
set_option maxHeartbeats 40000000 in
theorem c_X8_init (a : Nat) (ws0 : va_W) : CN yX8_init m_X8_init [.ref a] ((a, .inr (8, [.int 0, .null, .int 0, .long 0, .long 0, .null, .null, .null, .null, .null, .int 0, .null, .int 0, .int 0, .null, .null, .int 0, .null, .int 0, .null, .null, .null, .null, .int 0, .null, .null, .int 0, .null, .null, .null, .long 0])) :: ws0) (fun ca q => nw_X8_init a ca q ++ ws0) := by
  refine CN.of (by decide) rfl rfl (Nat.le_of_ble_eq_true rfl) (fun X hi => ?_)
  show GN _ X m_X8_init _ 0 0 0 [(0, .ref a)] []
  refine n_aload_n 0 dX8_init_0 rfl ?_
  refine n_objInit ol_X8_1 oi_i oi_c (by decide) (Nat.le_of_ble_eq_true rfl) dX8_init_1 ?_
  refine n_aload_n 0 dX8_init_4 rfl ?_
  refine n_bipush (6 : Int32) dX8_init_5 (by decide) ?_
  refine n_newI 6 arc_int (by decide) (by decide) (by decide) rfl rfl (by decide) (by decide) dX8_init_7 (fun q1 => ?_)
  refine n_putF hi 1 rfl rfl inX8 tyX8_ok nmX8 1 (by decide) rfl rfl rfl rfl (Nat.le_of_ble_eq_true rfl) pl_X8_7 dX8_init_9 ?_
  refine n_ws ((q1, .inl (nca X 0, 6, .inl (fun _ => 0))) :: (a, .inr (8, [.int 0, .ref q1, .int 0, .long 0, .long 0, .null, .null, .null, .null, .null, .int 0, .null, .int 0, .int 0, .null, .null, .int 0, .null, .int 0, .null, .null, .null, .null, .int 0, .null, .null, .int 0, .null, .null, .null, .long 0])) :: ws0) rfl ?_
  refine n_aload_n 0 dX8_init_12 rfl ?_
  refine n_lconst (1 : Int64) dX8_init_13 (by decide) ?_
  refine n_put 1 rfl rfl inX8 tyX8_ok nmX8 4 (by decide) rfl rfl rfl (Nat.le_of_ble_eq_true rfl) pl_X8_13 dX8_init_14 ?_
  refine n_ws ((q1, .inl (nca X 0, 6, .inl (fun _ => 0))) :: (a, .inr (8, [.int 0, .ref q1, .int 0, .long 0, .long (1 : Int64), .null, .null, .null, .null, .null, .int 0, .null, .int 0, .int 0, .null, .null, .int 0, .null, .int 0, .null, .null, .null, .null, .int 0, .null, .null, .int 0, .null, .null, .null, .long 0])) :: ws0) rfl ?_
  refine n_aload_n 0 dX8_init_17 rfl ?_
  refine n_bipush (6 : Int32) dX8_init_18 (by decide) ?_
  refine n_newI 6 arc_int (by decide) (by decide) (by decide) rfl rfl (by decide) (by decide) dX8_init_20 (fun q2 => ?_)
  refine n_putF hi 2 rfl rfl inX8 tyX8_ok nmX8 5 (by decide) rfl rfl rfl rfl (Nat.le_of_ble_eq_true rfl) pl_X8_17 dX8_init_22 ?_
  refine n_ws ((q2, .inl (nca X 0, 6, .inl (fun _ => 0))) :: (q1, .inl (nca X 0, 6, .inl (fun _ => 0))) :: (a, .inr (8, [.int 0, .ref q1, .int 0, .long 0, .long (1 : Int64), .ref q2, .null, .null, .null, .null, .int 0, .null, .int 0, .int 0, .null, .null, .int 0, .null, .int 0, .null, .null, .null, .null, .int 0, .null, .null, .int 0, .null, .null, .null, .long 0])) :: ws0) rfl ?_
  refine n_aload_n 0 dX8_init_25 rfl ?_
  refine n_sipush (240 : Int32) dX8_init_26 (by decide) ?_
  refine n_newI 240 arc_int (by decide) (by decide) (by decide) rfl rfl (by decide) (by decide) dX8_init_29 (fun q3 => ?_)
  refine n_putF hi 3 rfl rfl inX8 tyX8_ok nmX8 6 (by decide) rfl rfl rfl rfl (Nat.le_of_ble_eq_true rfl) pl_X8_20 dX8_init_31 ?_
  refine n_ws ((q3, .inl (nca X 0, 240, .inl (fun _ => 0))) :: (q2, .inl (nca X 0, 6, .inl (fun _ => 0))) :: (q1, .inl (nca X 0, 6, .inl (fun _ => 0))) :: (a, .inr (8, [.int 0, .ref q1, .int 0, .long 0, .long (1 : Int64), .ref q2, .ref q3, .null, .null, .null, .int 0, .null, .int 0, .int 0, .null, .null, .int 0, .null, .int 0, .null, .null, .null, .null, .int 0, .null, .null, .int 0, .null, .null, .null, .long 0])) :: ws0) rfl ?_
  refine n_aload_n 0 dX8_init_34 rfl ?_
  refine n_bipush (40 : Int32) dX8_init_35 (by decide) ?_
  refine n_newI 40 arc_int (by decide) (by decide) (by decide) rfl rfl (by decide) (by decide) dX8_init_37 (fun q4 => ?_)
  refine n_putF hi 4 rfl rfl inX8 tyX8_ok nmX8 7 (by decide) rfl rfl rfl rfl (Nat.le_of_ble_eq_true rfl) pl_X8_23 dX8_init_39 ?_
  refine n_ws ((q4, .inl (nca X 0, 40, .inl (fun _ => 0))) :: (q3, .inl (nca X 0, 240, .inl (fun _ => 0))) :: (q2, .inl (nca X 0, 6, .inl (fun _ => 0))) :: (q1, .inl (nca X 0, 6, .inl (fun _ => 0))) :: (a, .inr (8, [.int 0, .ref q1, .int 0, .long 0, .long (1 : Int64), .ref q2, .ref q3, .ref q4, .null, .null, .int 0, .null, .int 0, .int 0, .null, .null, .int 0, .null, .int 0, .null, .null, .null, .null, .int 0, .null, .null, .int 0, .null, .null, .null, .long 0])) :: ws0) rfl ?_
  refine n_aload_n 0 dX8_init_42 rfl ?_
  refine n_iconst (4 : Int32) dX8_init_43 (by decide) ?_
  refine n_newI 4 arc_int (by decide) (by decide) (by decide) rfl rfl (by decide) (by decide) dX8_init_44 (fun q5 => ?_)
  refine n_putF hi 5 rfl rfl inX8 tyX8_ok nmX8 8 (by decide) rfl rfl rfl rfl (Nat.le_of_ble_eq_true rfl) pl_X8_26 dX8_init_46 ?_
  refine n_ws ((q5, .inl (nca X 0, 4, .inl (fun _ => 0))) :: (q4, .inl (nca X 0, 40, .inl (fun _ => 0))) :: (q3, .inl (nca X 0, 240, .inl (fun _ => 0))) :: (q2, .inl (nca X 0, 6, .inl (fun _ => 0))) :: (q1, .inl (nca X 0, 6, .inl (fun _ => 0))) :: (a, .inr (8, [.int 0, .ref q1, .int 0, .long 0, .long (1 : Int64), .ref q2, .ref q3, .ref q4, .ref q5, .null, .int 0, .null, .int 0, .int 0, .null, .null, .int 0, .null, .int 0, .null, .null, .null, .null, .int 0, .null, .null, .int 0, .null, .null, .null, .long 0])) :: ws0) rfl ?_
  refine n_aload_n 0 dX8_init_49 rfl ?_
  refine n_sipush (240 : Int32) dX8_init_50 (by decide) ?_
  refine n_newI 240 arc_int (by decide) (by decide) (by decide) rfl rfl (by decide) (by decide) dX8_init_53 (fun q6 => ?_)
  refine n_putF hi 6 rfl rfl inX8 tyX8_ok nmX8 9 (by decide) rfl rfl rfl rfl (Nat.le_of_ble_eq_true rfl) pl_X8_29 dX8_init_55 ?_
  refine n_ws ((q6, .inl (nca X 0, 240, .inl (fun _ => 0))) :: (q5, .inl (nca X 0, 4, .inl (fun _ => 0))) :: (q4, .inl (nca X 0, 40, .inl (fun _ => 0))) :: (q3, .inl (nca X 0, 240, .inl (fun _ => 0))) :: (q2, .inl (nca X 0, 6, .inl (fun _ => 0))) :: (q1, .inl (nca X 0, 6, .inl (fun _ => 0))) :: (a, .inr (8, [.int 0, .ref q1, .int 0, .long 0, .long (1 : Int64), .ref q2, .ref q3, .ref q4, .ref q5, .ref q6, .int 0, .null, .int 0, .int 0, .null, .null, .int 0, .null, .int 0, .null, .null, .null, .null, .int 0, .null, .null, .int 0, .null, .null, .null, .long 0])) :: ws0) rfl ?_
  refine n_aload_n 0 dX8_init_58 rfl ?_
  refine n_bipush (40 : Int32) dX8_init_59 (by decide) ?_
  refine n_newI 40 arc_int (by decide) (by decide) (by decide) rfl rfl (by decide) (by decide) dX8_init_61 (fun q7 => ?_)
  refine n_putF hi 7 rfl rfl inX8 tyX8_ok nmX8 11 (by decide) rfl rfl rfl rfl (Nat.le_of_ble_eq_true rfl) pl_X8_32 dX8_init_63 ?_
  refine n_ws ((q7, .inl (nca X 0, 40, .inl (fun _ => 0))) :: (q6, .inl (nca X 0, 240, .inl (fun _ => 0))) :: (q5, .inl (nca X 0, 4, .inl (fun _ => 0))) :: (q4, .inl (nca X 0, 40, .inl (fun _ => 0))) :: (q3, .inl (nca X 0, 240, .inl (fun _ => 0))) :: (q2, .inl (nca X 0, 6, .inl (fun _ => 0))) :: (q1, .inl (nca X 0, 6, .inl (fun _ => 0))) :: (a, .inr (8, [.int 0, .ref q1, .int 0, .long 0, .long (1 : Int64), .ref q2, .ref q3, .ref q4, .ref q5, .ref q6, .int 0, .ref q7, .int 0, .int 0, .null, .null, .int 0, .null, .int 0, .null, .null, .null, .null, .int 0, .null, .null, .int 0, .null, .null, .null, .long 0])) :: ws0) rfl ?_
  refine n_aload_n 0 dX8_init_66 rfl ?_
  refine n_bipush (40 : Int32) dX8_init_67 (by decide) ?_
  refine n_newI 40 arc_int (by decide) (by decide) (by decide) rfl rfl (by decide) (by decide) dX8_init_69 (fun q8 => ?_)
  refine n_putF hi 8 rfl rfl inX8 tyX8_ok nmX8 14 (by decide) rfl rfl rfl rfl (Nat.le_of_ble_eq_true rfl) pl_X8_35 dX8_init_71 ?_
  refine n_ws ((q8, .inl (nca X 0, 40, .inl (fun _ => 0))) :: (q7, .inl (nca X 0, 40, .inl (fun _ => 0))) :: (q6, .inl (nca X 0, 240, .inl (fun _ => 0))) :: (q5, .inl (nca X 0, 4, .inl (fun _ => 0))) :: (q4, .inl (nca X 0, 40, .inl (fun _ => 0))) :: (q3, .inl (nca X 0, 240, .inl (fun _ => 0))) :: (q2, .inl (nca X 0, 6, .inl (fun _ => 0))) :: (q1, .inl (nca X 0, 6, .inl (fun _ => 0))) :: (a, .inr (8, [.int 0, .ref q1, .int 0, .long 0, .long (1 : Int64), .ref q2, .ref q3, .ref q4, .ref q5, .ref q6, .int 0, .ref q7, .int 0, .int 0, .ref q8, .null, .int 0, .null, .int 0, .null, .null, .null, .null, .int 0, .null, .null, .int 0, .null, .null, .null, .long 0])) :: ws0) rfl ?_
  refine n_aload_n 0 dX8_init_74 rfl ?_
  refine n_bipush (8 : Int32) dX8_init_75 (by decide) ?_
  refine n_newI 8 arc_int (by decide) (by decide) (by decide) rfl rfl (by decide) (by decide) dX8_init_77 (fun q9 => ?_)
  refine n_putF hi 9 rfl rfl inX8 tyX8_ok nmX8 15 (by decide) rfl rfl rfl rfl (Nat.le_of_ble_eq_true rfl) pl_X8_38 dX8_init_79 ?_
  refine n_ws ((q9, .inl (nca X 0, 8, .inl (fun _ => 0))) :: (q8, .inl (nca X 0, 40, .inl (fun _ => 0))) :: (q7, .inl (nca X 0, 40, .inl (fun _ => 0))) :: (q6, .inl (nca X 0, 240, .inl (fun _ => 0))) :: (q5, .inl (nca X 0, 4, .inl (fun _ => 0))) :: (q4, .inl (nca X 0, 40, .inl (fun _ => 0))) :: (q3, .inl (nca X 0, 240, .inl (fun _ => 0))) :: (q2, .inl (nca X 0, 6, .inl (fun _ => 0))) :: (q1, .inl (nca X 0, 6, .inl (fun _ => 0))) :: (a, .inr (8, [.int 0, .ref q1, .int 0, .long 0, .long (1 : Int64), .ref q2, .ref q3, .ref q4, .ref q5, .ref q6, .int 0, .ref q7, .int 0, .int 0, .ref q8, .ref q9, .int 0, .null, .int 0, .null, .null, .null, .null, .int 0, .null, .null, .int 0, .null, .null, .null, .long 0])) :: ws0) rfl ?_
  refine n_aload_n 0 dX8_init_82 rfl ?_
  refine n_bipush (16 : Int32) dX8_init_83 (by decide) ?_
  refine n_newI 16 arc_int (by decide) (by decide) (by decide) rfl rfl (by decide) (by decide) dX8_init_85 (fun q10 => ?_)
  refine n_putF hi 10 rfl rfl inX8 tyX8_ok nmX8 17 (by decide) rfl rfl rfl rfl (Nat.le_of_ble_eq_true rfl) pl_X8_41 dX8_init_87 ?_
  refine n_ws ((q10, .inl (nca X 0, 16, .inl (fun _ => 0))) :: (q9, .inl (nca X 0, 8, .inl (fun _ => 0))) :: (q8, .inl (nca X 0, 40, .inl (fun _ => 0))) :: (q7, .inl (nca X 0, 40, .inl (fun _ => 0))) :: (q6, .inl (nca X 0, 240, .inl (fun _ => 0))) :: (q5, .inl (nca X 0, 4, .inl (fun _ => 0))) :: (q4, .inl (nca X 0, 40, .inl (fun _ => 0))) :: (q3, .inl (nca X 0, 240, .inl (fun _ => 0))) :: (q2, .inl (nca X 0, 6, .inl (fun _ => 0))) :: (q1, .inl (nca X 0, 6, .inl (fun _ => 0))) :: (a, .inr (8, [.int 0, .ref q1, .int 0, .long 0, .long (1 : Int64), .ref q2, .ref q3, .ref q4, .ref q5, .ref q6, .int 0, .ref q7, .int 0, .int 0, .ref q8, .ref q9, .int 0, .ref q10, .int 0, .null, .null, .null, .null, .int 0, .null, .null, .int 0, .null, .null, .null, .long 0])) :: ws0) rfl ?_
  refine n_aload_n 0 dX8_init_90 rfl ?_
  refine n_bipush (61 : Int32) dX8_init_91 (by decide) ?_
  refine n_newI 61 arc_int (by decide) (by decide) (by decide) rfl rfl (by decide) (by decide) dX8_init_93 (fun q11 => ?_)
  refine n_putF hi 11 rfl rfl inX8 tyX8_ok nmX8 19 (by decide) rfl rfl rfl rfl (Nat.le_of_ble_eq_true rfl) pl_X8_44 dX8_init_95 ?_
  refine n_ws ((q11, .inl (nca X 0, 61, .inl (fun _ => 0))) :: (q10, .inl (nca X 0, 16, .inl (fun _ => 0))) :: (q9, .inl (nca X 0, 8, .inl (fun _ => 0))) :: (q8, .inl (nca X 0, 40, .inl (fun _ => 0))) :: (q7, .inl (nca X 0, 40, .inl (fun _ => 0))) :: (q6, .inl (nca X 0, 240, .inl (fun _ => 0))) :: (q5, .inl (nca X 0, 4, .inl (fun _ => 0))) :: (q4, .inl (nca X 0, 40, .inl (fun _ => 0))) :: (q3, .inl (nca X 0, 240, .inl (fun _ => 0))) :: (q2, .inl (nca X 0, 6, .inl (fun _ => 0))) :: (q1, .inl (nca X 0, 6, .inl (fun _ => 0))) :: (a, .inr (8, [.int 0, .ref q1, .int 0, .long 0, .long (1 : Int64), .ref q2, .ref q3, .ref q4, .ref q5, .ref q6, .int 0, .ref q7, .int 0, .int 0, .ref q8, .ref q9, .int 0, .ref q10, .int 0, .ref q11, .null, .null, .null, .int 0, .null, .null, .int 0, .null, .null, .null, .long 0])) :: ws0) rfl ?_
  refine n_aload_n 0 dX8_init_98 rfl ?_
  refine n_sipush (488 : Int32) dX8_init_99 (by decide) ?_
  refine n_newI 488 arc_int (by decide) (by decide) (by decide) rfl rfl (by decide) (by decide) dX8_init_102 (fun q12 => ?_)
  refine n_putF hi 12 rfl rfl inX8 tyX8_ok nmX8 20 (by decide) rfl rfl rfl rfl (Nat.le_of_ble_eq_true rfl) pl_X8_47 dX8_init_104 ?_
  refine n_ws ((q12, .inl (nca X 0, 488, .inl (fun _ => 0))) :: (q11, .inl (nca X 0, 61, .inl (fun _ => 0))) :: (q10, .inl (nca X 0, 16, .inl (fun _ => 0))) :: (q9, .inl (nca X 0, 8, .inl (fun _ => 0))) :: (q8, .inl (nca X 0, 40, .inl (fun _ => 0))) :: (q7, .inl (nca X 0, 40, .inl (fun _ => 0))) :: (q6, .inl (nca X 0, 240, .inl (fun _ => 0))) :: (q5, .inl (nca X 0, 4, .inl (fun _ => 0))) :: (q4, .inl (nca X 0, 40, .inl (fun _ => 0))) :: (q3, .inl (nca X 0, 240, .inl (fun _ => 0))) :: (q2, .inl (nca X 0, 6, .inl (fun _ => 0))) :: (q1, .inl (nca X 0, 6, .inl (fun _ => 0))) :: (a, .inr (8, [.int 0, .ref q1, .int 0, .long 0, .long (1 : Int64), .ref q2, .ref q3, .ref q4, .ref q5, .ref q6, .int 0, .ref q7, .int 0, .int 0, .ref q8, .ref q9, .int 0, .ref q10, .int 0, .ref q11, .ref q12, .null, .null, .int 0, .null, .null, .int 0, .null, .null, .null, .long 0])) :: ws0) rfl ?_
  refine n_aload_n 0 dX8_init_107 rfl ?_
  refine n_bipush (16 : Int32) dX8_init_108 (by decide) ?_
  refine n_newI 16 arc_int (by decide) (by decide) (by decide) rfl rfl (by decide) (by decide) dX8_init_110 (fun q13 => ?_)
  refine n_putF hi 13 rfl rfl inX8 tyX8_ok nmX8 21 (by decide) rfl rfl rfl rfl (Nat.le_of_ble_eq_true rfl) pl_X8_50 dX8_init_112 ?_
  refine n_ws ((q13, .inl (nca X 0, 16, .inl (fun _ => 0))) :: (q12, .inl (nca X 0, 488, .inl (fun _ => 0))) :: (q11, .inl (nca X 0, 61, .inl (fun _ => 0))) :: (q10, .inl (nca X 0, 16, .inl (fun _ => 0))) :: (q9, .inl (nca X 0, 8, .inl (fun _ => 0))) :: (q8, .inl (nca X 0, 40, .inl (fun _ => 0))) :: (q7, .inl (nca X 0, 40, .inl (fun _ => 0))) :: (q6, .inl (nca X 0, 240, .inl (fun _ => 0))) :: (q5, .inl (nca X 0, 4, .inl (fun _ => 0))) :: (q4, .inl (nca X 0, 40, .inl (fun _ => 0))) :: (q3, .inl (nca X 0, 240, .inl (fun _ => 0))) :: (q2, .inl (nca X 0, 6, .inl (fun _ => 0))) :: (q1, .inl (nca X 0, 6, .inl (fun _ => 0))) :: (a, .inr (8, [.int 0, .ref q1, .int 0, .long 0, .long (1 : Int64), .ref q2, .ref q3, .ref q4, .ref q5, .ref q6, .int 0, .ref q7, .int 0, .int 0, .ref q8, .ref q9, .int 0, .ref q10, .int 0, .ref q11, .ref q12, .ref q13, .null, .int 0, .null, .null, .int 0, .null, .null, .null, .long 0])) :: ws0) rfl ?_
  refine n_aload_n 0 dX8_init_115 rfl ?_
  refine n_bipush (16 : Int32) dX8_init_116 (by decide) ?_
  refine n_newI 16 arc_int (by decide) (by decide) (by decide) rfl rfl (by decide) (by decide) dX8_init_118 (fun q14 => ?_)
  refine n_putF hi 14 rfl rfl inX8 tyX8_ok nmX8 22 (by decide) rfl rfl rfl rfl (Nat.le_of_ble_eq_true rfl) pl_X8_53 dX8_init_120 ?_
  refine n_ws ((q14, .inl (nca X 0, 16, .inl (fun _ => 0))) :: (q13, .inl (nca X 0, 16, .inl (fun _ => 0))) :: (q12, .inl (nca X 0, 488, .inl (fun _ => 0))) :: (q11, .inl (nca X 0, 61, .inl (fun _ => 0))) :: (q10, .inl (nca X 0, 16, .inl (fun _ => 0))) :: (q9, .inl (nca X 0, 8, .inl (fun _ => 0))) :: (q8, .inl (nca X 0, 40, .inl (fun _ => 0))) :: (q7, .inl (nca X 0, 40, .inl (fun _ => 0))) :: (q6, .inl (nca X 0, 240, .inl (fun _ => 0))) :: (q5, .inl (nca X 0, 4, .inl (fun _ => 0))) :: (q4, .inl (nca X 0, 40, .inl (fun _ => 0))) :: (q3, .inl (nca X 0, 240, .inl (fun _ => 0))) :: (q2, .inl (nca X 0, 6, .inl (fun _ => 0))) :: (q1, .inl (nca X 0, 6, .inl (fun _ => 0))) :: (a, .inr (8, [.int 0, .ref q1, .int 0, .long 0, .long (1 : Int64), .ref q2, .ref q3, .ref q4, .ref q5, .ref q6, .int 0, .ref q7, .int 0, .int 0, .ref q8, .ref q9, .int 0, .ref q10, .int 0, .ref q11, .ref q12, .ref q13, .ref q14, .int 0, .null, .null, .int 0, .null, .null, .null, .long 0])) :: ws0) rfl ?_
  refine n_aload_n 0 dX8_init_123 rfl ?_
  refine n_sipush (1296 : Int32) dX8_init_124 (by decide) ?_
  refine n_newJ 1296 arc_long (by decide) (by decide) (by decide) rfl rfl (by decide) (by decide) dX8_init_127 (fun q15 => ?_)
  refine n_putF hi 15 rfl rfl inX8 tyX8_ok nmX8 24 (by decide) rfl rfl rfl rfl (Nat.le_of_ble_eq_true rfl) pl_X8_56 dX8_init_129 ?_
  refine n_ws ((q15, .inl (nca X 1, 1296, .inr (.inl (fun _ => 0)))) :: (q14, .inl (nca X 0, 16, .inl (fun _ => 0))) :: (q13, .inl (nca X 0, 16, .inl (fun _ => 0))) :: (q12, .inl (nca X 0, 488, .inl (fun _ => 0))) :: (q11, .inl (nca X 0, 61, .inl (fun _ => 0))) :: (q10, .inl (nca X 0, 16, .inl (fun _ => 0))) :: (q9, .inl (nca X 0, 8, .inl (fun _ => 0))) :: (q8, .inl (nca X 0, 40, .inl (fun _ => 0))) :: (q7, .inl (nca X 0, 40, .inl (fun _ => 0))) :: (q6, .inl (nca X 0, 240, .inl (fun _ => 0))) :: (q5, .inl (nca X 0, 4, .inl (fun _ => 0))) :: (q4, .inl (nca X 0, 40, .inl (fun _ => 0))) :: (q3, .inl (nca X 0, 240, .inl (fun _ => 0))) :: (q2, .inl (nca X 0, 6, .inl (fun _ => 0))) :: (q1, .inl (nca X 0, 6, .inl (fun _ => 0))) :: (a, .inr (8, [.int 0, .ref q1, .int 0, .long 0, .long (1 : Int64), .ref q2, .ref q3, .ref q4, .ref q5, .ref q6, .int 0, .ref q7, .int 0, .int 0, .ref q8, .ref q9, .int 0, .ref q10, .int 0, .ref q11, .ref q12, .ref q13, .ref q14, .int 0, .ref q15, .null, .int 0, .null, .null, .null, .long 0])) :: ws0) rfl ?_
  refine n_aload_n 0 dX8_init_132 rfl ?_
  refine n_bipush (64 : Int32) dX8_init_133 (by decide) ?_
  refine n_newZ 64 arc_boolean (by decide) (by decide) (by decide) rfl rfl (by decide) (by decide) dX8_init_135 (fun q16 => ?_)
  refine n_putF hi 16 rfl rfl inX8 tyX8_ok nmX8 25 (by decide) rfl rfl rfl rfl (Nat.le_of_ble_eq_true rfl) pl_X8_60 dX8_init_137 ?_
  refine n_ws ((q16, .inl (nca X 2, 64, .inl (fun _ => 0))) :: (q15, .inl (nca X 1, 1296, .inr (.inl (fun _ => 0)))) :: (q14, .inl (nca X 0, 16, .inl (fun _ => 0))) :: (q13, .inl (nca X 0, 16, .inl (fun _ => 0))) :: (q12, .inl (nca X 0, 488, .inl (fun _ => 0))) :: (q11, .inl (nca X 0, 61, .inl (fun _ => 0))) :: (q10, .inl (nca X 0, 16, .inl (fun _ => 0))) :: (q9, .inl (nca X 0, 8, .inl (fun _ => 0))) :: (q8, .inl (nca X 0, 40, .inl (fun _ => 0))) :: (q7, .inl (nca X 0, 40, .inl (fun _ => 0))) :: (q6, .inl (nca X 0, 240, .inl (fun _ => 0))) :: (q5, .inl (nca X 0, 4, .inl (fun _ => 0))) :: (q4, .inl (nca X 0, 40, .inl (fun _ => 0))) :: (q3, .inl (nca X 0, 240, .inl (fun _ => 0))) :: (q2, .inl (nca X 0, 6, .inl (fun _ => 0))) :: (q1, .inl (nca X 0, 6, .inl (fun _ => 0))) :: (a, .inr (8, [.int 0, .ref q1, .int 0, .long 0, .long (1 : Int64), .ref q2, .ref q3, .ref q4, .ref q5, .ref q6, .int 0, .ref q7, .int 0, .int 0, .ref q8, .ref q9, .int 0, .ref q10, .int 0, .ref q11, .ref q12, .ref q13, .ref q14, .int 0, .ref q15, .ref q16, .int 0, .null, .null, .null, .long 0])) :: ws0) rfl ?_
  refine n_aload_n 0 dX8_init_140 rfl ?_
  refine n_bipush (6 : Int32) dX8_init_141 (by decide) ?_
  refine n_newI 6 arc_int (by decide) (by decide) (by decide) rfl rfl (by decide) (by decide) dX8_init_143 (fun q17 => ?_)
  refine n_putF hi 17 rfl rfl inX8 tyX8_ok nmX8 27 (by decide) rfl rfl rfl rfl (Nat.le_of_ble_eq_true rfl) pl_X8_64 dX8_init_145 ?_
  refine n_ws ((q17, .inl (nca X 0, 6, .inl (fun _ => 0))) :: (q16, .inl (nca X 2, 64, .inl (fun _ => 0))) :: (q15, .inl (nca X 1, 1296, .inr (.inl (fun _ => 0)))) :: (q14, .inl (nca X 0, 16, .inl (fun _ => 0))) :: (q13, .inl (nca X 0, 16, .inl (fun _ => 0))) :: (q12, .inl (nca X 0, 488, .inl (fun _ => 0))) :: (q11, .inl (nca X 0, 61, .inl (fun _ => 0))) :: (q10, .inl (nca X 0, 16, .inl (fun _ => 0))) :: (q9, .inl (nca X 0, 8, .inl (fun _ => 0))) :: (q8, .inl (nca X 0, 40, .inl (fun _ => 0))) :: (q7, .inl (nca X 0, 40, .inl (fun _ => 0))) :: (q6, .inl (nca X 0, 240, .inl (fun _ => 0))) :: (q5, .inl (nca X 0, 4, .inl (fun _ => 0))) :: (q4, .inl (nca X 0, 40, .inl (fun _ => 0))) :: (q3, .inl (nca X 0, 240, .inl (fun _ => 0))) :: (q2, .inl (nca X 0, 6, .inl (fun _ => 0))) :: (q1, .inl (nca X 0, 6, .inl (fun _ => 0))) :: (a, .inr (8, [.int 0, .ref q1, .int 0, .long 0, .long (1 : Int64), .ref q2, .ref q3, .ref q4, .ref q5, .ref q6, .int 0, .ref q7, .int 0, .int 0, .ref q8, .ref q9, .int 0, .ref q10, .int 0, .ref q11, .ref q12, .ref q13, .ref q14, .int 0, .ref q15, .ref q16, .int 0, .ref q17, .null, .null, .long 0])) :: ws0) rfl ?_
  refine n_aload_n 0 dX8_init_148 rfl ?_
  refine n_sipush (680 : Int32) dX8_init_149 (by decide) ?_
  refine n_newI 680 arc_int (by decide) (by decide) (by decide) rfl rfl (by decide) (by decide) dX8_init_152 (fun q18 => ?_)
  refine n_putF hi 18 rfl rfl inX8 tyX8_ok nmX8 28 (by decide) rfl rfl rfl rfl (Nat.le_of_ble_eq_true rfl) pl_X8_67 dX8_init_154 ?_
  refine n_ws ((q18, .inl (nca X 0, 680, .inl (fun _ => 0))) :: (q17, .inl (nca X 0, 6, .inl (fun _ => 0))) :: (q16, .inl (nca X 2, 64, .inl (fun _ => 0))) :: (q15, .inl (nca X 1, 1296, .inr (.inl (fun _ => 0)))) :: (q14, .inl (nca X 0, 16, .inl (fun _ => 0))) :: (q13, .inl (nca X 0, 16, .inl (fun _ => 0))) :: (q12, .inl (nca X 0, 488, .inl (fun _ => 0))) :: (q11, .inl (nca X 0, 61, .inl (fun _ => 0))) :: (q10, .inl (nca X 0, 16, .inl (fun _ => 0))) :: (q9, .inl (nca X 0, 8, .inl (fun _ => 0))) :: (q8, .inl (nca X 0, 40, .inl (fun _ => 0))) :: (q7, .inl (nca X 0, 40, .inl (fun _ => 0))) :: (q6, .inl (nca X 0, 240, .inl (fun _ => 0))) :: (q5, .inl (nca X 0, 4, .inl (fun _ => 0))) :: (q4, .inl (nca X 0, 40, .inl (fun _ => 0))) :: (q3, .inl (nca X 0, 240, .inl (fun _ => 0))) :: (q2, .inl (nca X 0, 6, .inl (fun _ => 0))) :: (q1, .inl (nca X 0, 6, .inl (fun _ => 0))) :: (a, .inr (8, [.int 0, .ref q1, .int 0, .long 0, .long (1 : Int64), .ref q2, .ref q3, .ref q4, .ref q5, .ref q6, .int 0, .ref q7, .int 0, .int 0, .ref q8, .ref q9, .int 0, .ref q10, .int 0, .ref q11, .ref q12, .ref q13, .ref q14, .int 0, .ref q15, .ref q16, .int 0, .ref q17, .ref q18, .null, .long 0])) :: ws0) rfl ?_
  refine n_aload_n 0 dX8_init_157 rfl ?_
  refine n_sipush (2181 : Int32) dX8_init_158 (by decide) ?_
  refine n_newI 2181 arc_int (by decide) (by decide) (by decide) rfl rfl (by decide) (by decide) dX8_init_161 (fun q19 => ?_)
  refine n_putF hi 19 rfl rfl inX8 tyX8_ok nmX8 29 (by decide) rfl rfl rfl rfl (Nat.le_of_ble_eq_true rfl) pl_X8_70 dX8_init_163 ?_
  refine n_ws ((q19, .inl (nca X 0, 2181, .inl (fun _ => 0))) :: (q18, .inl (nca X 0, 680, .inl (fun _ => 0))) :: (q17, .inl (nca X 0, 6, .inl (fun _ => 0))) :: (q16, .inl (nca X 2, 64, .inl (fun _ => 0))) :: (q15, .inl (nca X 1, 1296, .inr (.inl (fun _ => 0)))) :: (q14, .inl (nca X 0, 16, .inl (fun _ => 0))) :: (q13, .inl (nca X 0, 16, .inl (fun _ => 0))) :: (q12, .inl (nca X 0, 488, .inl (fun _ => 0))) :: (q11, .inl (nca X 0, 61, .inl (fun _ => 0))) :: (q10, .inl (nca X 0, 16, .inl (fun _ => 0))) :: (q9, .inl (nca X 0, 8, .inl (fun _ => 0))) :: (q8, .inl (nca X 0, 40, .inl (fun _ => 0))) :: (q7, .inl (nca X 0, 40, .inl (fun _ => 0))) :: (q6, .inl (nca X 0, 240, .inl (fun _ => 0))) :: (q5, .inl (nca X 0, 4, .inl (fun _ => 0))) :: (q4, .inl (nca X 0, 40, .inl (fun _ => 0))) :: (q3, .inl (nca X 0, 240, .inl (fun _ => 0))) :: (q2, .inl (nca X 0, 6, .inl (fun _ => 0))) :: (q1, .inl (nca X 0, 6, .inl (fun _ => 0))) :: (a, .inr (8, [.int 0, .ref q1, .int 0, .long 0, .long (1 : Int64), .ref q2, .ref q3, .ref q4, .ref q5, .ref q6, .int 0, .ref q7, .int 0, .int 0, .ref q8, .ref q9, .int 0, .ref q10, .int 0, .ref q11, .ref q12, .ref q13, .ref q14, .int 0, .ref q15, .ref q16, .int 0, .ref q17, .ref q18, .ref q19, .long 0])) :: ws0) rfl ?_
  refine n_iconst (0 : Int32) dX8_init_166 (by decide) ?_
  refine n_istore_n [(1, .int (0 : Int32)), (0, .ref a)] dX8_init_167 (by decide) rfl ?_
  refine n_iload_n 0 dX8_init_168 rfl ?_
  refine n_bipush (6 : Int32) dX8_init_169 (by decide) ?_
  refine n_geF 188 dX8_init_171 rfl (by decide) ?_
  refine n_aload_n 1 dX8_init_174 rfl ?_
  refine n_get 19 rfl rfl inX8 5 (by decide) (v := .ref q2) rfl fl_X8_17 dX8_init_175 ?_
  refine n_iload_n 0 dX8_init_178 rfl ?_
  refine n_bipush (-9 : Int32) dX8_init_179 (by decide) ?_
  refine n_iast 17 rfl 0 (by decide) (by decide) dX8_init_181 ?_
  refine n_ws ((q19, .inl (nca X 0, 2181, .inl (fun _ => 0))) :: (q18, .inl (nca X 0, 680, .inl (fun _ => 0))) :: (q17, .inl (nca X 0, 6, .inl (fun _ => 0))) :: (q16, .inl (nca X 2, 64, .inl (fun _ => 0))) :: (q15, .inl (nca X 1, 1296, .inr (.inl (fun _ => 0)))) :: (q14, .inl (nca X 0, 16, .inl (fun _ => 0))) :: (q13, .inl (nca X 0, 16, .inl (fun _ => 0))) :: (q12, .inl (nca X 0, 488, .inl (fun _ => 0))) :: (q11, .inl (nca X 0, 61, .inl (fun _ => 0))) :: (q10, .inl (nca X 0, 16, .inl (fun _ => 0))) :: (q9, .inl (nca X 0, 8, .inl (fun _ => 0))) :: (q8, .inl (nca X 0, 40, .inl (fun _ => 0))) :: (q7, .inl (nca X 0, 40, .inl (fun _ => 0))) :: (q6, .inl (nca X 0, 240, .inl (fun _ => 0))) :: (q5, .inl (nca X 0, 4, .inl (fun _ => 0))) :: (q4, .inl (nca X 0, 40, .inl (fun _ => 0))) :: (q3, .inl (nca X 0, 240, .inl (fun _ => 0))) :: (q2, .inl (nca X 0, 6, .inl (upd (fun _ => 0) 0 (-9 : Int32)))) :: (q1, .inl (nca X 0, 6, .inl (fun _ => 0))) :: (a, .inr (8, [.int 0, .ref q1, .int 0, .long 0, .long (1 : Int64), .ref q2, .ref q3, .ref q4, .ref q5, .ref q6, .int 0, .ref q7, .int 0, .int 0, .ref q8, .ref q9, .int 0, .ref q10, .int 0, .ref q11, .ref q12, .ref q13, .ref q14, .int 0, .ref q15, .ref q16, .int 0, .ref q17, .ref q18, .ref q19, .long 0])) :: ws0) rfl ?_
  refine n_iinc 0 [(1, .int (1 : Int32)), (0, .ref a)] dX8_init_182 rfl (v := (1 : Int32)) (by decide) (by decide) rfl ?_
  refine n_goto 168 dX8_init_185 rfl ?_
  refine n_iload_n 0 dX8_init_168 rfl ?_
  refine n_bipush (6 : Int32) dX8_init_169 (by decide) ?_
  refine n_geF 188 dX8_init_171 rfl (by decide) ?_
  refine n_aload_n 1 dX8_init_174 rfl ?_
  refine n_get 19 rfl rfl inX8 5 (by decide) (v := .ref q2) rfl fl_X8_17 dX8_init_175 ?_
  refine n_iload_n 0 dX8_init_178 rfl ?_
  refine n_bipush (-9 : Int32) dX8_init_179 (by decide) ?_
  refine n_iast 17 rfl 1 (by decide) (by decide) dX8_init_181 ?_
  refine n_ws ((q19, .inl (nca X 0, 2181, .inl (fun _ => 0))) :: (q18, .inl (nca X 0, 680, .inl (fun _ => 0))) :: (q17, .inl (nca X 0, 6, .inl (fun _ => 0))) :: (q16, .inl (nca X 2, 64, .inl (fun _ => 0))) :: (q15, .inl (nca X 1, 1296, .inr (.inl (fun _ => 0)))) :: (q14, .inl (nca X 0, 16, .inl (fun _ => 0))) :: (q13, .inl (nca X 0, 16, .inl (fun _ => 0))) :: (q12, .inl (nca X 0, 488, .inl (fun _ => 0))) :: (q11, .inl (nca X 0, 61, .inl (fun _ => 0))) :: (q10, .inl (nca X 0, 16, .inl (fun _ => 0))) :: (q9, .inl (nca X 0, 8, .inl (fun _ => 0))) :: (q8, .inl (nca X 0, 40, .inl (fun _ => 0))) :: (q7, .inl (nca X 0, 40, .inl (fun _ => 0))) :: (q6, .inl (nca X 0, 240, .inl (fun _ => 0))) :: (q5, .inl (nca X 0, 4, .inl (fun _ => 0))) :: (q4, .inl (nca X 0, 40, .inl (fun _ => 0))) :: (q3, .inl (nca X 0, 240, .inl (fun _ => 0))) :: (q2, .inl (nca X 0, 6, .inl (upd (upd (fun _ => 0) 0 (-9 : Int32)) 1 (-9 : Int32)))) :: (q1, .inl (nca X 0, 6, .inl (fun _ => 0))) :: (a, .inr (8, [.int 0, .ref q1, .int 0, .long 0, .long (1 : Int64), .ref q2, .ref q3, .ref q4, .ref q5, .ref q6, .int 0, .ref q7, .int 0, .int 0, .ref q8, .ref q9, .int 0, .ref q10, .int 0, .ref q11, .ref q12, .ref q13, .ref q14, .int 0, .ref q15, .ref q16, .int 0, .ref q17, .ref q18, .ref q19, .long 0])) :: ws0) rfl ?_
  refine n_iinc 0 [(1, .int (2 : Int32)), (0, .ref a)] dX8_init_182 rfl (v := (2 : Int32)) (by decide) (by decide) rfl ?_
  refine n_goto 168 dX8_init_185 rfl ?_
  refine n_iload_n 0 dX8_init_168 rfl ?_
  refine n_bipush (6 : Int32) dX8_init_169 (by decide) ?_
  refine n_geF 188 dX8_init_171 rfl (by decide) ?_
  refine n_aload_n 1 dX8_init_174 rfl ?_
  refine n_get 19 rfl rfl inX8 5 (by decide) (v := .ref q2) rfl fl_X8_17 dX8_init_175 ?_
  refine n_iload_n 0 dX8_init_178 rfl ?_
  refine n_bipush (-9 : Int32) dX8_init_179 (by decide) ?_
  refine n_iast 17 rfl 2 (by decide) (by decide) dX8_init_181 ?_
  refine n_ws ((q19, .inl (nca X 0, 2181, .inl (fun _ => 0))) :: (q18, .inl (nca X 0, 680, .inl (fun _ => 0))) :: (q17, .inl (nca X 0, 6, .inl (fun _ => 0))) :: (q16, .inl (nca X 2, 64, .inl (fun _ => 0))) :: (q15, .inl (nca X 1, 1296, .inr (.inl (fun _ => 0)))) :: (q14, .inl (nca X 0, 16, .inl (fun _ => 0))) :: (q13, .inl (nca X 0, 16, .inl (fun _ => 0))) :: (q12, .inl (nca X 0, 488, .inl (fun _ => 0))) :: (q11, .inl (nca X 0, 61, .inl (fun _ => 0))) :: (q10, .inl (nca X 0, 16, .inl (fun _ => 0))) :: (q9, .inl (nca X 0, 8, .inl (fun _ => 0))) :: (q8, .inl (nca X 0, 40, .inl (fun _ => 0))) :: (q7, .inl (nca X 0, 40, .inl (fun _ => 0))) :: (q6, .inl (nca X 0, 240, .inl (fun _ => 0))) :: (q5, .inl (nca X 0, 4, .inl (fun _ => 0))) :: (q4, .inl (nca X 0, 40, .inl (fun _ => 0))) :: (q3, .inl (nca X 0, 240, .inl (fun _ => 0))) :: (q2, .inl (nca X 0, 6, .inl (upd (upd (upd (fun _ => 0) 0 (-9 : Int32)) 1 (-9 : Int32)) 2 (-9 : Int32)))) :: (q1, .inl (nca X 0, 6, .inl (fun _ => 0))) :: (a, .inr (8, [.int 0, .ref q1, .int 0, .long 0, .long (1 : Int64), .ref q2, .ref q3, .ref q4, .ref q5, .ref q6, .int 0, .ref q7, .int 0, .int 0, .ref q8, .ref q9, .int 0, .ref q10, .int 0, .ref q11, .ref q12, .ref q13, .ref q14, .int 0, .ref q15, .ref q16, .int 0, .ref q17, .ref q18, .ref q19, .long 0])) :: ws0) rfl ?_
  refine n_iinc 0 [(1, .int (3 : Int32)), (0, .ref a)] dX8_init_182 rfl (v := (3 : Int32)) (by decide) (by decide) rfl ?_
  refine n_goto 168 dX8_init_185 rfl ?_
  refine n_iload_n 0 dX8_init_168 rfl ?_
  refine n_bipush (6 : Int32) dX8_init_169 (by decide) ?_
  refine n_geF 188 dX8_init_171 rfl (by decide) ?_
  refine n_aload_n 1 dX8_init_174 rfl ?_
  refine n_get 19 rfl rfl inX8 5 (by decide) (v := .ref q2) rfl fl_X8_17 dX8_init_175 ?_
  refine n_iload_n 0 dX8_init_178 rfl ?_
  refine n_bipush (-9 : Int32) dX8_init_179 (by decide) ?_
  refine n_iast 17 rfl 3 (by decide) (by decide) dX8_init_181 ?_
  refine n_ws ((q19, .inl (nca X 0, 2181, .inl (fun _ => 0))) :: (q18, .inl (nca X 0, 680, .inl (fun _ => 0))) :: (q17, .inl (nca X 0, 6, .inl (fun _ => 0))) :: (q16, .inl (nca X 2, 64, .inl (fun _ => 0))) :: (q15, .inl (nca X 1, 1296, .inr (.inl (fun _ => 0)))) :: (q14, .inl (nca X 0, 16, .inl (fun _ => 0))) :: (q13, .inl (nca X 0, 16, .inl (fun _ => 0))) :: (q12, .inl (nca X 0, 488, .inl (fun _ => 0))) :: (q11, .inl (nca X 0, 61, .inl (fun _ => 0))) :: (q10, .inl (nca X 0, 16, .inl (fun _ => 0))) :: (q9, .inl (nca X 0, 8, .inl (fun _ => 0))) :: (q8, .inl (nca X 0, 40, .inl (fun _ => 0))) :: (q7, .inl (nca X 0, 40, .inl (fun _ => 0))) :: (q6, .inl (nca X 0, 240, .inl (fun _ => 0))) :: (q5, .inl (nca X 0, 4, .inl (fun _ => 0))) :: (q4, .inl (nca X 0, 40, .inl (fun _ => 0))) :: (q3, .inl (nca X 0, 240, .inl (fun _ => 0))) :: (q2, .inl (nca X 0, 6, .inl (upd (upd (upd (upd (fun _ => 0) 0 (-9 : Int32)) 1 (-9 : Int32)) 2 (-9 : Int32)) 3 (-9 : Int32)))) :: (q1, .inl (nca X 0, 6, .inl (fun _ => 0))) :: (a, .inr (8, [.int 0, .ref q1, .int 0, .long 0, .long (1 : Int64), .ref q2, .ref q3, .ref q4, .ref q5, .ref q6, .int 0, .ref q7, .int 0, .int 0, .ref q8, .ref q9, .int 0, .ref q10, .int 0, .ref q11, .ref q12, .ref q13, .ref q14, .int 0, .ref q15, .ref q16, .int 0, .ref q17, .ref q18, .ref q19, .long 0])) :: ws0) rfl ?_
  refine n_iinc 0 [(1, .int (4 : Int32)), (0, .ref a)] dX8_init_182 rfl (v := (4 : Int32)) (by decide) (by decide) rfl ?_
  refine n_goto 168 dX8_init_185 rfl ?_
  refine n_iload_n 0 dX8_init_168 rfl ?_
  refine n_bipush (6 : Int32) dX8_init_169 (by decide) ?_
  refine n_geF 188 dX8_init_171 rfl (by decide) ?_
  refine n_aload_n 1 dX8_init_174 rfl ?_
  refine n_get 19 rfl rfl inX8 5 (by decide) (v := .ref q2) rfl fl_X8_17 dX8_init_175 ?_
  refine n_iload_n 0 dX8_init_178 rfl ?_
  refine n_bipush (-9 : Int32) dX8_init_179 (by decide) ?_
  refine n_iast 17 rfl 4 (by decide) (by decide) dX8_init_181 ?_
  refine n_ws ((q19, .inl (nca X 0, 2181, .inl (fun _ => 0))) :: (q18, .inl (nca X 0, 680, .inl (fun _ => 0))) :: (q17, .inl (nca X 0, 6, .inl (fun _ => 0))) :: (q16, .inl (nca X 2, 64, .inl (fun _ => 0))) :: (q15, .inl (nca X 1, 1296, .inr (.inl (fun _ => 0)))) :: (q14, .inl (nca X 0, 16, .inl (fun _ => 0))) :: (q13, .inl (nca X 0, 16, .inl (fun _ => 0))) :: (q12, .inl (nca X 0, 488, .inl (fun _ => 0))) :: (q11, .inl (nca X 0, 61, .inl (fun _ => 0))) :: (q10, .inl (nca X 0, 16, .inl (fun _ => 0))) :: (q9, .inl (nca X 0, 8, .inl (fun _ => 0))) :: (q8, .inl (nca X 0, 40, .inl (fun _ => 0))) :: (q7, .inl (nca X 0, 40, .inl (fun _ => 0))) :: (q6, .inl (nca X 0, 240, .inl (fun _ => 0))) :: (q5, .inl (nca X 0, 4, .inl (fun _ => 0))) :: (q4, .inl (nca X 0, 40, .inl (fun _ => 0))) :: (q3, .inl (nca X 0, 240, .inl (fun _ => 0))) :: (q2, .inl (nca X 0, 6, .inl (upd (upd (upd (upd (upd (fun _ => 0) 0 (-9 : Int32)) 1 (-9 : Int32)) 2 (-9 : Int32)) 3 (-9 : Int32)) 4 (-9 : Int32)))) :: (q1, .inl (nca X 0, 6, .inl (fun _ => 0))) :: (a, .inr (8, [.int 0, .ref q1, .int 0, .long 0, .long (1 : Int64), .ref q2, .ref q3, .ref q4, .ref q5, .ref q6, .int 0, .ref q7, .int 0, .int 0, .ref q8, .ref q9, .int 0, .ref q10, .int 0, .ref q11, .ref q12, .ref q13, .ref q14, .int 0, .ref q15, .ref q16, .int 0, .ref q17, .ref q18, .ref q19, .long 0])) :: ws0) rfl ?_
  refine n_iinc 0 [(1, .int (5 : Int32)), (0, .ref a)] dX8_init_182 rfl (v := (5 : Int32)) (by decide) (by decide) rfl ?_
  refine n_goto 168 dX8_init_185 rfl ?_
  refine n_iload_n 0 dX8_init_168 rfl ?_
  refine n_bipush (6 : Int32) dX8_init_169 (by decide) ?_
  refine n_geF 188 dX8_init_171 rfl (by decide) ?_
  refine n_aload_n 1 dX8_init_174 rfl ?_
  refine n_get 19 rfl rfl inX8 5 (by decide) (v := .ref q2) rfl fl_X8_17 dX8_init_175 ?_
  refine n_iload_n 0 dX8_init_178 rfl ?_
  refine n_bipush (-9 : Int32) dX8_init_179 (by decide) ?_
  refine n_iast 17 rfl 5 (by decide) (by decide) dX8_init_181 ?_
  refine n_ws ((q19, .inl (nca X 0, 2181, .inl (fun _ => 0))) :: (q18, .inl (nca X 0, 680, .inl (fun _ => 0))) :: (q17, .inl (nca X 0, 6, .inl (fun _ => 0))) :: (q16, .inl (nca X 2, 64, .inl (fun _ => 0))) :: (q15, .inl (nca X 1, 1296, .inr (.inl (fun _ => 0)))) :: (q14, .inl (nca X 0, 16, .inl (fun _ => 0))) :: (q13, .inl (nca X 0, 16, .inl (fun _ => 0))) :: (q12, .inl (nca X 0, 488, .inl (fun _ => 0))) :: (q11, .inl (nca X 0, 61, .inl (fun _ => 0))) :: (q10, .inl (nca X 0, 16, .inl (fun _ => 0))) :: (q9, .inl (nca X 0, 8, .inl (fun _ => 0))) :: (q8, .inl (nca X 0, 40, .inl (fun _ => 0))) :: (q7, .inl (nca X 0, 40, .inl (fun _ => 0))) :: (q6, .inl (nca X 0, 240, .inl (fun _ => 0))) :: (q5, .inl (nca X 0, 4, .inl (fun _ => 0))) :: (q4, .inl (nca X 0, 40, .inl (fun _ => 0))) :: (q3, .inl (nca X 0, 240, .inl (fun _ => 0))) :: (q2, .inl (nca X 0, 6, .inl (upd (upd (upd (upd (upd (upd (fun _ => 0) 0 (-9 : Int32)) 1 (-9 : Int32)) 2 (-9 : Int32)) 3 (-9 : Int32)) 4 (-9 : Int32)) 5 (-9 : Int32)))) :: (q1, .inl (nca X 0, 6, .inl (fun _ => 0))) :: (a, .inr (8, [.int 0, .ref q1, .int 0, .long 0, .long (1 : Int64), .ref q2, .ref q3, .ref q4, .ref q5, .ref q6, .int 0, .ref q7, .int 0, .int 0, .ref q8, .ref q9, .int 0, .ref q10, .int 0, .ref q11, .ref q12, .ref q13, .ref q14, .int 0, .ref q15, .ref q16, .int 0, .ref q17, .ref q18, .ref q19, .long 0])) :: ws0) rfl ?_
  refine n_iinc 0 [(1, .int (6 : Int32)), (0, .ref a)] dX8_init_182 rfl (v := (6 : Int32)) (by decide) (by decide) rfl ?_
  refine n_goto 168 dX8_init_185 rfl ?_
  refine n_iload_n 0 dX8_init_168 rfl ?_
  refine n_bipush (6 : Int32) dX8_init_169 (by decide) ?_
  refine n_geT 188 dX8_init_171 rfl (by decide) ?_
  refine n_iconst (0 : Int32) dX8_init_188 (by decide) ?_
  refine n_istore_n [(1, .int (0 : Int32)), (0, .ref a)] dX8_init_189 (by decide) rfl ?_
  refine n_iload_n 0 dX8_init_190 rfl ?_
  refine n_iconst (4 : Int32) dX8_init_191 (by decide) ?_
  refine n_geF 209 dX8_init_192 rfl (by decide) ?_
  refine n_aload_n 1 dX8_init_195 rfl ?_
  refine n_get 19 rfl rfl inX8 8 (by decide) (v := .ref q5) rfl fl_X8_26 dX8_init_196 ?_
  refine n_iload_n 0 dX8_init_199 rfl ?_
  refine n_bipush (-9 : Int32) dX8_init_200 (by decide) ?_
  refine n_iast 14 rfl 0 (by decide) (by decide) dX8_init_202 ?_
  refine n_ws ((q19, .inl (nca X 0, 2181, .inl (fun _ => 0))) :: (q18, .inl (nca X 0, 680, .inl (fun _ => 0))) :: (q17, .inl (nca X 0, 6, .inl (fun _ => 0))) :: (q16, .inl (nca X 2, 64, .inl (fun _ => 0))) :: (q15, .inl (nca X 1, 1296, .inr (.inl (fun _ => 0)))) :: (q14, .inl (nca X 0, 16, .inl (fun _ => 0))) :: (q13, .inl (nca X 0, 16, .inl (fun _ => 0))) :: (q12, .inl (nca X 0, 488, .inl (fun _ => 0))) :: (q11, .inl (nca X 0, 61, .inl (fun _ => 0))) :: (q10, .inl (nca X 0, 16, .inl (fun _ => 0))) :: (q9, .inl (nca X 0, 8, .inl (fun _ => 0))) :: (q8, .inl (nca X 0, 40, .inl (fun _ => 0))) :: (q7, .inl (nca X 0, 40, .inl (fun _ => 0))) :: (q6, .inl (nca X 0, 240, .inl (fun _ => 0))) :: (q5, .inl (nca X 0, 4, .inl (upd (fun _ => 0) 0 (-9 : Int32)))) :: (q4, .inl (nca X 0, 40, .inl (fun _ => 0))) :: (q3, .inl (nca X 0, 240, .inl (fun _ => 0))) :: (q2, .inl (nca X 0, 6, .inl (upd (upd (upd (upd (upd (upd (fun _ => 0) 0 (-9 : Int32)) 1 (-9 : Int32)) 2 (-9 : Int32)) 3 (-9 : Int32)) 4 (-9 : Int32)) 5 (-9 : Int32)))) :: (q1, .inl (nca X 0, 6, .inl (fun _ => 0))) :: (a, .inr (8, [.int 0, .ref q1, .int 0, .long 0, .long (1 : Int64), .ref q2, .ref q3, .ref q4, .ref q5, .ref q6, .int 0, .ref q7, .int 0, .int 0, .ref q8, .ref q9, .int 0, .ref q10, .int 0, .ref q11, .ref q12, .ref q13, .ref q14, .int 0, .ref q15, .ref q16, .int 0, .ref q17, .ref q18, .ref q19, .long 0])) :: ws0) rfl ?_
  refine n_iinc 0 [(1, .int (1 : Int32)), (0, .ref a)] dX8_init_203 rfl (v := (1 : Int32)) (by decide) (by decide) rfl ?_
  refine n_goto 190 dX8_init_206 rfl ?_
  refine n_iload_n 0 dX8_init_190 rfl ?_
  refine n_iconst (4 : Int32) dX8_init_191 (by decide) ?_
  refine n_geF 209 dX8_init_192 rfl (by decide) ?_
  refine n_aload_n 1 dX8_init_195 rfl ?_
  refine n_get 19 rfl rfl inX8 8 (by decide) (v := .ref q5) rfl fl_X8_26 dX8_init_196 ?_
  refine n_iload_n 0 dX8_init_199 rfl ?_
  refine n_bipush (-9 : Int32) dX8_init_200 (by decide) ?_
  refine n_iast 14 rfl 1 (by decide) (by decide) dX8_init_202 ?_
  refine n_ws ((q19, .inl (nca X 0, 2181, .inl (fun _ => 0))) :: (q18, .inl (nca X 0, 680, .inl (fun _ => 0))) :: (q17, .inl (nca X 0, 6, .inl (fun _ => 0))) :: (q16, .inl (nca X 2, 64, .inl (fun _ => 0))) :: (q15, .inl (nca X 1, 1296, .inr (.inl (fun _ => 0)))) :: (q14, .inl (nca X 0, 16, .inl (fun _ => 0))) :: (q13, .inl (nca X 0, 16, .inl (fun _ => 0))) :: (q12, .inl (nca X 0, 488, .inl (fun _ => 0))) :: (q11, .inl (nca X 0, 61, .inl (fun _ => 0))) :: (q10, .inl (nca X 0, 16, .inl (fun _ => 0))) :: (q9, .inl (nca X 0, 8, .inl (fun _ => 0))) :: (q8, .inl (nca X 0, 40, .inl (fun _ => 0))) :: (q7, .inl (nca X 0, 40, .inl (fun _ => 0))) :: (q6, .inl (nca X 0, 240, .inl (fun _ => 0))) :: (q5, .inl (nca X 0, 4, .inl (upd (upd (fun _ => 0) 0 (-9 : Int32)) 1 (-9 : Int32)))) :: (q4, .inl (nca X 0, 40, .inl (fun _ => 0))) :: (q3, .inl (nca X 0, 240, .inl (fun _ => 0))) :: (q2, .inl (nca X 0, 6, .inl (upd (upd (upd (upd (upd (upd (fun _ => 0) 0 (-9 : Int32)) 1 (-9 : Int32)) 2 (-9 : Int32)) 3 (-9 : Int32)) 4 (-9 : Int32)) 5 (-9 : Int32)))) :: (q1, .inl (nca X 0, 6, .inl (fun _ => 0))) :: (a, .inr (8, [.int 0, .ref q1, .int 0, .long 0, .long (1 : Int64), .ref q2, .ref q3, .ref q4, .ref q5, .ref q6, .int 0, .ref q7, .int 0, .int 0, .ref q8, .ref q9, .int 0, .ref q10, .int 0, .ref q11, .ref q12, .ref q13, .ref q14, .int 0, .ref q15, .ref q16, .int 0, .ref q17, .ref q18, .ref q19, .long 0])) :: ws0) rfl ?_
  refine n_iinc 0 [(1, .int (2 : Int32)), (0, .ref a)] dX8_init_203 rfl (v := (2 : Int32)) (by decide) (by decide) rfl ?_
  refine n_goto 190 dX8_init_206 rfl ?_
  refine n_iload_n 0 dX8_init_190 rfl ?_
  refine n_iconst (4 : Int32) dX8_init_191 (by decide) ?_
  refine n_geF 209 dX8_init_192 rfl (by decide) ?_
  refine n_aload_n 1 dX8_init_195 rfl ?_
  refine n_get 19 rfl rfl inX8 8 (by decide) (v := .ref q5) rfl fl_X8_26 dX8_init_196 ?_
  refine n_iload_n 0 dX8_init_199 rfl ?_
  refine n_bipush (-9 : Int32) dX8_init_200 (by decide) ?_
  refine n_iast 14 rfl 2 (by decide) (by decide) dX8_init_202 ?_
  refine n_ws ((q19, .inl (nca X 0, 2181, .inl (fun _ => 0))) :: (q18, .inl (nca X 0, 680, .inl (fun _ => 0))) :: (q17, .inl (nca X 0, 6, .inl (fun _ => 0))) :: (q16, .inl (nca X 2, 64, .inl (fun _ => 0))) :: (q15, .inl (nca X 1, 1296, .inr (.inl (fun _ => 0)))) :: (q14, .inl (nca X 0, 16, .inl (fun _ => 0))) :: (q13, .inl (nca X 0, 16, .inl (fun _ => 0))) :: (q12, .inl (nca X 0, 488, .inl (fun _ => 0))) :: (q11, .inl (nca X 0, 61, .inl (fun _ => 0))) :: (q10, .inl (nca X 0, 16, .inl (fun _ => 0))) :: (q9, .inl (nca X 0, 8, .inl (fun _ => 0))) :: (q8, .inl (nca X 0, 40, .inl (fun _ => 0))) :: (q7, .inl (nca X 0, 40, .inl (fun _ => 0))) :: (q6, .inl (nca X 0, 240, .inl (fun _ => 0))) :: (q5, .inl (nca X 0, 4, .inl (upd (upd (upd (fun _ => 0) 0 (-9 : Int32)) 1 (-9 : Int32)) 2 (-9 : Int32)))) :: (q4, .inl (nca X 0, 40, .inl (fun _ => 0))) :: (q3, .inl (nca X 0, 240, .inl (fun _ => 0))) :: (q2, .inl (nca X 0, 6, .inl (upd (upd (upd (upd (upd (upd (fun _ => 0) 0 (-9 : Int32)) 1 (-9 : Int32)) 2 (-9 : Int32)) 3 (-9 : Int32)) 4 (-9 : Int32)) 5 (-9 : Int32)))) :: (q1, .inl (nca X 0, 6, .inl (fun _ => 0))) :: (a, .inr (8, [.int 0, .ref q1, .int 0, .long 0, .long (1 : Int64), .ref q2, .ref q3, .ref q4, .ref q5, .ref q6, .int 0, .ref q7, .int 0, .int 0, .ref q8, .ref q9, .int 0, .ref q10, .int 0, .ref q11, .ref q12, .ref q13, .ref q14, .int 0, .ref q15, .ref q16, .int 0, .ref q17, .ref q18, .ref q19, .long 0])) :: ws0) rfl ?_
  refine n_iinc 0 [(1, .int (3 : Int32)), (0, .ref a)] dX8_init_203 rfl (v := (3 : Int32)) (by decide) (by decide) rfl ?_
  refine n_goto 190 dX8_init_206 rfl ?_
  refine n_iload_n 0 dX8_init_190 rfl ?_
  refine n_iconst (4 : Int32) dX8_init_191 (by decide) ?_
  refine n_geF 209 dX8_init_192 rfl (by decide) ?_
  refine n_aload_n 1 dX8_init_195 rfl ?_
  refine n_get 19 rfl rfl inX8 8 (by decide) (v := .ref q5) rfl fl_X8_26 dX8_init_196 ?_
  refine n_iload_n 0 dX8_init_199 rfl ?_
  refine n_bipush (-9 : Int32) dX8_init_200 (by decide) ?_
  refine n_iast 14 rfl 3 (by decide) (by decide) dX8_init_202 ?_
  refine n_ws ((q19, .inl (nca X 0, 2181, .inl (fun _ => 0))) :: (q18, .inl (nca X 0, 680, .inl (fun _ => 0))) :: (q17, .inl (nca X 0, 6, .inl (fun _ => 0))) :: (q16, .inl (nca X 2, 64, .inl (fun _ => 0))) :: (q15, .inl (nca X 1, 1296, .inr (.inl (fun _ => 0)))) :: (q14, .inl (nca X 0, 16, .inl (fun _ => 0))) :: (q13, .inl (nca X 0, 16, .inl (fun _ => 0))) :: (q12, .inl (nca X 0, 488, .inl (fun _ => 0))) :: (q11, .inl (nca X 0, 61, .inl (fun _ => 0))) :: (q10, .inl (nca X 0, 16, .inl (fun _ => 0))) :: (q9, .inl (nca X 0, 8, .inl (fun _ => 0))) :: (q8, .inl (nca X 0, 40, .inl (fun _ => 0))) :: (q7, .inl (nca X 0, 40, .inl (fun _ => 0))) :: (q6, .inl (nca X 0, 240, .inl (fun _ => 0))) :: (q5, .inl (nca X 0, 4, .inl (upd (upd (upd (upd (fun _ => 0) 0 (-9 : Int32)) 1 (-9 : Int32)) 2 (-9 : Int32)) 3 (-9 : Int32)))) :: (q4, .inl (nca X 0, 40, .inl (fun _ => 0))) :: (q3, .inl (nca X 0, 240, .inl (fun _ => 0))) :: (q2, .inl (nca X 0, 6, .inl (upd (upd (upd (upd (upd (upd (fun _ => 0) 0 (-9 : Int32)) 1 (-9 : Int32)) 2 (-9 : Int32)) 3 (-9 : Int32)) 4 (-9 : Int32)) 5 (-9 : Int32)))) :: (q1, .inl (nca X 0, 6, .inl (fun _ => 0))) :: (a, .inr (8, [.int 0, .ref q1, .int 0, .long 0, .long (1 : Int64), .ref q2, .ref q3, .ref q4, .ref q5, .ref q6, .int 0, .ref q7, .int 0, .int 0, .ref q8, .ref q9, .int 0, .ref q10, .int 0, .ref q11, .ref q12, .ref q13, .ref q14, .int 0, .ref q15, .ref q16, .int 0, .ref q17, .ref q18, .ref q19, .long 0])) :: ws0) rfl ?_
  refine n_iinc 0 [(1, .int (4 : Int32)), (0, .ref a)] dX8_init_203 rfl (v := (4 : Int32)) (by decide) (by decide) rfl ?_
  refine n_goto 190 dX8_init_206 rfl ?_
  refine n_iload_n 0 dX8_init_190 rfl ?_
  refine n_iconst (4 : Int32) dX8_init_191 (by decide) ?_
  refine n_geT 209 dX8_init_192 rfl (by decide) ?_
  refine n_iconst (0 : Int32) dX8_init_209 (by decide) ?_
  refine n_istore_n [(1, .int (0 : Int32)), (0, .ref a)] dX8_init_210 (by decide) rfl ?_
  refine n_iload_n 0 dX8_init_211 rfl ?_
  refine n_iconst (3 : Int32) dX8_init_212 (by decide) ?_
  refine n_geF 234 dX8_init_213 rfl (by decide) ?_
  refine n_aload_n 1 dX8_init_216 rfl ?_
  refine n_get 19 rfl rfl inX8 29 (by decide) (v := .ref q19) rfl fl_X8_70 dX8_init_217 ?_
  refine n_sipush (727 : Int32) dX8_init_220 (by decide) ?_
  refine n_iload_n 0 dX8_init_223 rfl ?_
  refine n_imul dX8_init_224 ?_
  show GN _ _ _ _ _ _ _ _ (.int (0 : Int32) :: _)
  refine n_bipush (-9 : Int32) dX8_init_225 (by decide) ?_
  refine n_iast 0 rfl 0 (by decide) (by decide) dX8_init_227 ?_
  refine n_ws ((q19, .inl (nca X 0, 2181, .inl (upd (fun _ => 0) 0 (-9 : Int32)))) :: (q18, .inl (nca X 0, 680, .inl (fun _ => 0))) :: (q17, .inl (nca X 0, 6, .inl (fun _ => 0))) :: (q16, .inl (nca X 2, 64, .inl (fun _ => 0))) :: (q15, .inl (nca X 1, 1296, .inr (.inl (fun _ => 0)))) :: (q14, .inl (nca X 0, 16, .inl (fun _ => 0))) :: (q13, .inl (nca X 0, 16, .inl (fun _ => 0))) :: (q12, .inl (nca X 0, 488, .inl (fun _ => 0))) :: (q11, .inl (nca X 0, 61, .inl (fun _ => 0))) :: (q10, .inl (nca X 0, 16, .inl (fun _ => 0))) :: (q9, .inl (nca X 0, 8, .inl (fun _ => 0))) :: (q8, .inl (nca X 0, 40, .inl (fun _ => 0))) :: (q7, .inl (nca X 0, 40, .inl (fun _ => 0))) :: (q6, .inl (nca X 0, 240, .inl (fun _ => 0))) :: (q5, .inl (nca X 0, 4, .inl (upd (upd (upd (upd (fun _ => 0) 0 (-9 : Int32)) 1 (-9 : Int32)) 2 (-9 : Int32)) 3 (-9 : Int32)))) :: (q4, .inl (nca X 0, 40, .inl (fun _ => 0))) :: (q3, .inl (nca X 0, 240, .inl (fun _ => 0))) :: (q2, .inl (nca X 0, 6, .inl (upd (upd (upd (upd (upd (upd (fun _ => 0) 0 (-9 : Int32)) 1 (-9 : Int32)) 2 (-9 : Int32)) 3 (-9 : Int32)) 4 (-9 : Int32)) 5 (-9 : Int32)))) :: (q1, .inl (nca X 0, 6, .inl (fun _ => 0))) :: (a, .inr (8, [.int 0, .ref q1, .int 0, .long 0, .long (1 : Int64), .ref q2, .ref q3, .ref q4, .ref q5, .ref q6, .int 0, .ref q7, .int 0, .int 0, .ref q8, .ref q9, .int 0, .ref q10, .int 0, .ref q11, .ref q12, .ref q13, .ref q14, .int 0, .ref q15, .ref q16, .int 0, .ref q17, .ref q18, .ref q19, .long 0])) :: ws0) rfl ?_
  refine n_iinc 0 [(1, .int (1 : Int32)), (0, .ref a)] dX8_init_228 rfl (v := (1 : Int32)) (by decide) (by decide) rfl ?_
  refine n_goto 211 dX8_init_231 rfl ?_
  refine n_iload_n 0 dX8_init_211 rfl ?_
  refine n_iconst (3 : Int32) dX8_init_212 (by decide) ?_
  refine n_geF 234 dX8_init_213 rfl (by decide) ?_
  refine n_aload_n 1 dX8_init_216 rfl ?_
  refine n_get 19 rfl rfl inX8 29 (by decide) (v := .ref q19) rfl fl_X8_70 dX8_init_217 ?_
  refine n_sipush (727 : Int32) dX8_init_220 (by decide) ?_
  refine n_iload_n 0 dX8_init_223 rfl ?_
  refine n_imul dX8_init_224 ?_
  show GN _ _ _ _ _ _ _ _ (.int (727 : Int32) :: _)
  refine n_bipush (-9 : Int32) dX8_init_225 (by decide) ?_
  refine n_iast 0 rfl 727 (by decide) (by decide) dX8_init_227 ?_
  refine n_ws ((q19, .inl (nca X 0, 2181, .inl (upd (upd (fun _ => 0) 0 (-9 : Int32)) 727 (-9 : Int32)))) :: (q18, .inl (nca X 0, 680, .inl (fun _ => 0))) :: (q17, .inl (nca X 0, 6, .inl (fun _ => 0))) :: (q16, .inl (nca X 2, 64, .inl (fun _ => 0))) :: (q15, .inl (nca X 1, 1296, .inr (.inl (fun _ => 0)))) :: (q14, .inl (nca X 0, 16, .inl (fun _ => 0))) :: (q13, .inl (nca X 0, 16, .inl (fun _ => 0))) :: (q12, .inl (nca X 0, 488, .inl (fun _ => 0))) :: (q11, .inl (nca X 0, 61, .inl (fun _ => 0))) :: (q10, .inl (nca X 0, 16, .inl (fun _ => 0))) :: (q9, .inl (nca X 0, 8, .inl (fun _ => 0))) :: (q8, .inl (nca X 0, 40, .inl (fun _ => 0))) :: (q7, .inl (nca X 0, 40, .inl (fun _ => 0))) :: (q6, .inl (nca X 0, 240, .inl (fun _ => 0))) :: (q5, .inl (nca X 0, 4, .inl (upd (upd (upd (upd (fun _ => 0) 0 (-9 : Int32)) 1 (-9 : Int32)) 2 (-9 : Int32)) 3 (-9 : Int32)))) :: (q4, .inl (nca X 0, 40, .inl (fun _ => 0))) :: (q3, .inl (nca X 0, 240, .inl (fun _ => 0))) :: (q2, .inl (nca X 0, 6, .inl (upd (upd (upd (upd (upd (upd (fun _ => 0) 0 (-9 : Int32)) 1 (-9 : Int32)) 2 (-9 : Int32)) 3 (-9 : Int32)) 4 (-9 : Int32)) 5 (-9 : Int32)))) :: (q1, .inl (nca X 0, 6, .inl (fun _ => 0))) :: (a, .inr (8, [.int 0, .ref q1, .int 0, .long 0, .long (1 : Int64), .ref q2, .ref q3, .ref q4, .ref q5, .ref q6, .int 0, .ref q7, .int 0, .int 0, .ref q8, .ref q9, .int 0, .ref q10, .int 0, .ref q11, .ref q12, .ref q13, .ref q14, .int 0, .ref q15, .ref q16, .int 0, .ref q17, .ref q18, .ref q19, .long 0])) :: ws0) rfl ?_
  refine n_iinc 0 [(1, .int (2 : Int32)), (0, .ref a)] dX8_init_228 rfl (v := (2 : Int32)) (by decide) (by decide) rfl ?_
  refine n_goto 211 dX8_init_231 rfl ?_
  refine n_iload_n 0 dX8_init_211 rfl ?_
  refine n_iconst (3 : Int32) dX8_init_212 (by decide) ?_
  refine n_geF 234 dX8_init_213 rfl (by decide) ?_
  refine n_aload_n 1 dX8_init_216 rfl ?_
  refine n_get 19 rfl rfl inX8 29 (by decide) (v := .ref q19) rfl fl_X8_70 dX8_init_217 ?_
  refine n_sipush (727 : Int32) dX8_init_220 (by decide) ?_
  refine n_iload_n 0 dX8_init_223 rfl ?_
  refine n_imul dX8_init_224 ?_
  show GN _ _ _ _ _ _ _ _ (.int (1454 : Int32) :: _)
  refine n_bipush (-9 : Int32) dX8_init_225 (by decide) ?_
  refine n_iast 0 rfl 1454 (by decide) (by decide) dX8_init_227 ?_
  refine n_ws ((q19, .inl (nca X 0, 2181, .inl (upd (upd (upd (fun _ => 0) 0 (-9 : Int32)) 727 (-9 : Int32)) 1454 (-9 : Int32)))) :: (q18, .inl (nca X 0, 680, .inl (fun _ => 0))) :: (q17, .inl (nca X 0, 6, .inl (fun _ => 0))) :: (q16, .inl (nca X 2, 64, .inl (fun _ => 0))) :: (q15, .inl (nca X 1, 1296, .inr (.inl (fun _ => 0)))) :: (q14, .inl (nca X 0, 16, .inl (fun _ => 0))) :: (q13, .inl (nca X 0, 16, .inl (fun _ => 0))) :: (q12, .inl (nca X 0, 488, .inl (fun _ => 0))) :: (q11, .inl (nca X 0, 61, .inl (fun _ => 0))) :: (q10, .inl (nca X 0, 16, .inl (fun _ => 0))) :: (q9, .inl (nca X 0, 8, .inl (fun _ => 0))) :: (q8, .inl (nca X 0, 40, .inl (fun _ => 0))) :: (q7, .inl (nca X 0, 40, .inl (fun _ => 0))) :: (q6, .inl (nca X 0, 240, .inl (fun _ => 0))) :: (q5, .inl (nca X 0, 4, .inl (upd (upd (upd (upd (fun _ => 0) 0 (-9 : Int32)) 1 (-9 : Int32)) 2 (-9 : Int32)) 3 (-9 : Int32)))) :: (q4, .inl (nca X 0, 40, .inl (fun _ => 0))) :: (q3, .inl (nca X 0, 240, .inl (fun _ => 0))) :: (q2, .inl (nca X 0, 6, .inl (upd (upd (upd (upd (upd (upd (fun _ => 0) 0 (-9 : Int32)) 1 (-9 : Int32)) 2 (-9 : Int32)) 3 (-9 : Int32)) 4 (-9 : Int32)) 5 (-9 : Int32)))) :: (q1, .inl (nca X 0, 6, .inl (fun _ => 0))) :: (a, .inr (8, [.int 0, .ref q1, .int 0, .long 0, .long (1 : Int64), .ref q2, .ref q3, .ref q4, .ref q5, .ref q6, .int 0, .ref q7, .int 0, .int 0, .ref q8, .ref q9, .int 0, .ref q10, .int 0, .ref q11, .ref q12, .ref q13, .ref q14, .int 0, .ref q15, .ref q16, .int 0, .ref q17, .ref q18, .ref q19, .long 0])) :: ws0) rfl ?_
  refine n_iinc 0 [(1, .int (3 : Int32)), (0, .ref a)] dX8_init_228 rfl (v := (3 : Int32)) (by decide) (by decide) rfl ?_
  refine n_goto 211 dX8_init_231 rfl ?_
  refine n_iload_n 0 dX8_init_211 rfl ?_
  refine n_iconst (3 : Int32) dX8_init_212 (by decide) ?_
  refine n_geT 234 dX8_init_213 rfl (by decide) ?_
  exact n_vret (fun i => [q1, q2, q3, q4, q5, q6, q7, q8, q9, q10, q11, q12, q13, q14, q15, q16, q17, q18, q19].getD i 0) rfl rfl dX8_init_234
