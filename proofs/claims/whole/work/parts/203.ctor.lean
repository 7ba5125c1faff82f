def nw_X7_init (a : Nat) (ca : Nat → ClassId) (q : Nat → Nat) : va_W := [((q 96), .inr (1, [.int (0 : Int32), .int (0 : Int32), .int (-9 : Int32), .int (-9 : Int32), .int (0 : Int32)])), ((q 95), .inr (1, [.int (0 : Int32), .int (0 : Int32), .int (-9 : Int32), .int (-9 : Int32), .int (0 : Int32)])), ((q 94), .inr (1, [.int (0 : Int32), .int (0 : Int32), .int (-9 : Int32), .int (-9 : Int32), .int (0 : Int32)])), ((q 93), .inr (1, [.int (0 : Int32), .int (0 : Int32), .int (-9 : Int32), .int (-9 : Int32), .int (0 : Int32)])), ((q 92), .inr (1, [.int (0 : Int32), .int (0 : Int32), .int (-9 : Int32), .int (-9 : Int32), .int (0 : Int32)])), ((q 91), .inr (1, [.int (0 : Int32), .int (0 : Int32), .int (-9 : Int32), .int (-9 : Int32), .int (0 : Int32)])), ((q 90), .inr (1, [.int (0 : Int32), .int (0 : Int32), .int (-9 : Int32), .int (-9 : Int32), .int (0 : Int32)])), ((q 89), .inr (1, [.int (0 : Int32), .int (0 : Int32), .int (-9 : Int32), .int (-9 : Int32), .int (0 : Int32)])), ((q 88), .inl (ca 0, 6, .inl (fun _ => 0))), ((q 87), .inl (ca 1, 40, .inr (.inl (fun _ => 0)))), ((q 86), .inl (ca 4, 8, .inr (.inr (.inr (.inr (va_up (va_up (va_up (va_up (va_up (va_up (va_up (va_up (fun _ => none) 0 (some (q 89))) 1 (some (q 90))) 2 (some (q 91))) 3 (some (q 92))) 4 (some (q 93))) 5 (some (q 94))) 6 (some (q 95))) 7 (some (q 96)))))))), ((q 85), .inr (2, [.ref (q 86), .ref (q 87), .ref (q 88), .int (0 : Int32), .int (0 : Int32)])), ((q 84), .inr (1, [.int (0 : Int32), .int (0 : Int32), .int (-9 : Int32), .int (-9 : Int32), .int (0 : Int32)])), ((q 83), .inr (1, [.int (0 : Int32), .int (0 : Int32), .int (-9 : Int32), .int (-9 : Int32), .int (0 : Int32)])), ((q 82), .inr (1, [.int (0 : Int32), .int (0 : Int32), .int (-9 : Int32), .int (-9 : Int32), .int (0 : Int32)])), ((q 81), .inr (1, [.int (0 : Int32), .int (0 : Int32), .int (-9 : Int32), .int (-9 : Int32), .int (0 : Int32)])), ((q 80), .inr (1, [.int (0 : Int32), .int (0 : Int32), .int (-9 : Int32), .int (-9 : Int32), .int (0 : Int32)])), ((q 79), .inr (1, [.int (0 : Int32), .int (0 : Int32), .int (-9 : Int32), .int (-9 : Int32), .int (0 : Int32)])), ((q 78), .inr (1, [.int (0 : Int32), .int (0 : Int32), .int (-9 : Int32), .int (-9 : Int32), .int (0 : Int32)])), ((q 77), .inr (1, [.int (0 : Int32), .int (0 : Int32), .int (-9 : Int32), .int (-9 : Int32), .int (0 : Int32)])), ((q 76), .inl (ca 0, 6, .inl (fun _ => 0))), ((q 75), .inl (ca 1, 40, .inr (.inl (fun _ => 0)))), ((q 74), .inl (ca 4, 8, .inr (.inr (.inr (.inr (va_up (va_up (va_up (va_up (va_up (va_up (va_up (va_up (fun _ => none) 0 (some (q 77))) 1 (some (q 78))) 2 (some (q 79))) 3 (some (q 80))) 4 (some (q 81))) 5 (some (q 82))) 6 (some (q 83))) 7 (some (q 84)))))))), ((q 73), .inr (2, [.ref (q 74), .ref (q 75), .ref (q 76), .int (0 : Int32), .int (0 : Int32)])), ((q 72), .inr (1, [.int (0 : Int32), .int (0 : Int32), .int (-9 : Int32), .int (-9 : Int32), .int (0 : Int32)])), ((q 71), .inr (1, [.int (0 : Int32), .int (0 : Int32), .int (-9 : Int32), .int (-9 : Int32), .int (0 : Int32)])), ((q 70), .inr (1, [.int (0 : Int32), .int (0 : Int32), .int (-9 : Int32), .int (-9 : Int32), .int (0 : Int32)])), ((q 69), .inr (1, [.int (0 : Int32), .int (0 : Int32), .int (-9 : Int32), .int (-9 : Int32), .int (0 : Int32)])), ((q 68), .inr (1, [.int (0 : Int32), .int (0 : Int32), .int (-9 : Int32), .int (-9 : Int32), .int (0 : Int32)])), ((q 67), .inr (1, [.int (0 : Int32), .int (0 : Int32), .int (-9 : Int32), .int (-9 : Int32), .int (0 : Int32)])), ((q 66), .inr (1, [.int (0 : Int32), .int (0 : Int32), .int (-9 : Int32), .int (-9 : Int32), .int (0 : Int32)])), ((q 65), .inr (1, [.int (0 : Int32), .int (0 : Int32), .int (-9 : Int32), .int (-9 : Int32), .int (0 : Int32)])), ((q 64), .inl (ca 0, 6, .inl (fun _ => 0))), ((q 63), .inl (ca 1, 40, .inr (.inl (fun _ => 0)))), ((q 62), .inl (ca 4, 8, .inr (.inr (.inr (.inr (va_up (va_up (va_up (va_up (va_up (va_up (va_up (va_up (fun _ => none) 0 (some (q 65))) 1 (some (q 66))) 2 (some (q 67))) 3 (some (q 68))) 4 (some (q 69))) 5 (some (q 70))) 6 (some (q 71))) 7 (some (q 72)))))))), ((q 61), .inr (2, [.ref (q 62), .ref (q 63), .ref (q 64), .int (0 : Int32), .int (0 : Int32)])), ((q 60), .inl (ca 0, 60, .inl (fun _ => 0))), ((q 59), .inr (4, [.ref (q 60), .int (-1 : Int32)])), ((q 58), .inl (ca 0, 60, .inl (fun _ => 0))), ((q 57), .inr (4, [.ref (q 58), .int (-1 : Int32)])), ((q 56), .inl (ca 0, 60, .inl (fun _ => 0))), ((q 55), .inr (4, [.ref (q 56), .int (-1 : Int32)])), ((q 54), .inl (ca 0, 60, .inl (fun _ => 0))), ((q 53), .inr (4, [.ref (q 54), .int (-1 : Int32)])), ((q 52), .inl (ca 0, 40, .inl (fun _ => 0))), ((q 51), .inr (4, [.ref (q 52), .int (-1 : Int32)])), ((q 50), .inl (ca 0, 40, .inl (fun _ => 0))), ((q 49), .inr (4, [.ref (q 50), .int (-1 : Int32)])), ((q 48), .inl (ca 0, 40, .inl (fun _ => 0))), ((q 47), .inr (4, [.ref (q 48), .int (-1 : Int32)])), ((q 46), .inl (ca 0, 40, .inl (fun _ => 0))), ((q 45), .inr (4, [.ref (q 46), .int (-1 : Int32)])), ((q 44), .inl (ca 0, 40, .inl (fun _ => 0))), ((q 43), .inr (4, [.ref (q 44), .int (-1 : Int32)])), ((q 42), .inl (ca 0, 40, .inl (fun _ => 0))), ((q 41), .inr (4, [.ref (q 42), .int (-1 : Int32)])), ((q 40), .inl (ca 0, 6, .inl (fun _ => 0))), ((q 39), .inl (ca 1, 61, .inr (.inl (fun _ => 0)))), ((q 38), .inr (1, [.int (0 : Int32), .int (0 : Int32), .int (-9 : Int32), .int (-9 : Int32), .int (0 : Int32)])), ((q 37), .inl (ca 0, 8, .inl (fun _ => 0))), ((q 36), .inl (ca 0, 8, .inl (fun _ => 0))), ((q 35), .inr (5, [.ref (q 36), .ref (q 37), .int (0 : Int32), .null])), ((q 34), .inl (ca 0, 16, .inl (fun _ => 0))), ((q 33), .inr (4, [.ref (q 34), .int (-1 : Int32)])), ((q 32), .inl (ca 0, 2048, .inl (fun _ => 0))), ((q 31), .inl (ca 1, 1296, .inr (.inl (fun _ => 0)))), ((q 30), .inr (0, [.ref (q 31), .ref (q 32), .int (0 : Int32), .int (-9 : Int32), .int (-9 : Int32)])), ((q 29), .inl (ca 0, 42, .inl (fun _ => 0))), ((q 28), .inl (ca 1, 714, .inr (.inl (fun _ => 0)))), ((q 27), .inl (ca 0, 42, .inl (fun _ => 0))), ((q 26), .inl (ca 1, 42, .inr (.inl (fun _ => 0)))), ((q 25), .inr (6, [.ref (q 26), .ref (q 27), .ref (q 28), .ref (q 29), .long (0 : Int64), .int (0 : Int32)])), ((q 24), .inl (ca 5, 3, .inr (.inr (.inr (.inr (va_up (va_up (va_up (fun _ => none) 0 (some (q 61))) 1 (some (q 73))) 2 (some (q 85)))))))), ((q 23), .inr (1, [.int (0 : Int32), .int (0 : Int32), .int (-9 : Int32), .int (-9 : Int32), .int (0 : Int32)])), ((q 22), .inr (1, [.int (0 : Int32), .int (0 : Int32), .int (-9 : Int32), .int (-9 : Int32), .int (0 : Int32)])), ((q 21), .inr (1, [.int (0 : Int32), .int (0 : Int32), .int (-9 : Int32), .int (-9 : Int32), .int (0 : Int32)])), ((q 20), .inr (1, [.int (0 : Int32), .int (0 : Int32), .int (-9 : Int32), .int (-9 : Int32), .int (0 : Int32)])), ((q 19), .inr (1, [.int (0 : Int32), .int (0 : Int32), .int (-9 : Int32), .int (-9 : Int32), .int (0 : Int32)])), ((q 18), .inr (1, [.int (0 : Int32), .int (0 : Int32), .int (-9 : Int32), .int (-9 : Int32), .int (0 : Int32)])), ((q 17), .inr (1, [.int (0 : Int32), .int (0 : Int32), .int (-9 : Int32), .int (-9 : Int32), .int (0 : Int32)])), ((q 16), .inr (1, [.int (0 : Int32), .int (0 : Int32), .int (-9 : Int32), .int (-9 : Int32), .int (0 : Int32)])), ((q 15), .inl (ca 0, 6, .inl (fun _ => 0))), ((q 14), .inl (ca 1, 40, .inr (.inl (fun _ => 0)))), ((q 13), .inl (ca 4, 8, .inr (.inr (.inr (.inr (va_up (va_up (va_up (va_up (va_up (va_up (va_up (va_up (fun _ => none) 0 (some (q 16))) 1 (some (q 17))) 2 (some (q 18))) 3 (some (q 19))) 4 (some (q 20))) 5 (some (q 21))) 6 (some (q 22))) 7 (some (q 23)))))))), ((q 12), .inr (2, [.ref (q 13), .ref (q 14), .ref (q 15), .int (0 : Int32), .int (0 : Int32)])), ((q 11), .inr (1, [.int (0 : Int32), .int (0 : Int32), .int (-9 : Int32), .int (-9 : Int32), .int (0 : Int32)])), ((q 10), .inr (1, [.int (0 : Int32), .int (0 : Int32), .int (-9 : Int32), .int (-9 : Int32), .int (0 : Int32)])), ((q 9), .inr (1, [.int (0 : Int32), .int (0 : Int32), .int (-9 : Int32), .int (-9 : Int32), .int (0 : Int32)])), ((q 8), .inr (1, [.int (0 : Int32), .int (0 : Int32), .int (-9 : Int32), .int (-9 : Int32), .int (0 : Int32)])), ((q 7), .inr (1, [.int (0 : Int32), .int (0 : Int32), .int (-9 : Int32), .int (-9 : Int32), .int (0 : Int32)])), ((q 6), .inr (1, [.int (0 : Int32), .int (0 : Int32), .int (-9 : Int32), .int (-9 : Int32), .int (0 : Int32)])), ((q 5), .inr (1, [.int (0 : Int32), .int (0 : Int32), .int (-9 : Int32), .int (-9 : Int32), .int (0 : Int32)])), ((q 4), .inr (1, [.int (0 : Int32), .int (0 : Int32), .int (-9 : Int32), .int (-9 : Int32), .int (0 : Int32)])), ((q 3), .inl (ca 4, 8, .inr (.inr (.inr (.inr (va_up (va_up (va_up (va_up (va_up (va_up (va_up (va_up (fun _ => none) 0 (some (q 4))) 1 (some (q 5))) 2 (some (q 6))) 3 (some (q 7))) 4 (some (q 8))) 5 (some (q 9))) 6 (some (q 10))) 7 (some (q 11)))))))), ((q 2), .inr (3, [.ref (q 3), .int (0 : Int32)])), ((q 1), .inl (ca 3, 4, .inr (.inr (.inr (.inr (va_up (va_up (va_up (va_up (fun _ => none) 0 (some (q 53))) 1 (some (q 55))) 2 (some (q 57))) 3 (some (q 59)))))))), ((q 0), .inl (ca 3, 6, .inr (.inr (.inr (.inr (va_up (va_up (va_up (va_up (va_up (va_up (fun _ => none) 0 (some (q 41))) 1 (some (q 43))) 2 (some (q 45))) 3 (some (q 47))) 4 (some (q 49))) 5 (some (q 51)))))))), (a, .inr (7, [.ref (q 0), .ref (q 1), .ref (q 2), .ref (q 12), .ref (q 24), .ref (q 25), .ref (q 30), .ref (q 33), .ref (q 35), .ref (q 38), .ref (q 39), .ref (q 40), .int (0 : Int32), .int (0 : Int32), .long (0 : Int64), .long (1 : Int64)]))]
abbrev m_X7_init : MI := (cX7_init, 2, RX7, { frames := 3, cells := 97, slots := 5264, locals := 61 }, none)
theorem ok_X7_init : OKI yX7_init m_X7_init 0 := ⟨tb_at 75 (by decide +kernel) rfl, ini_X7, ⟨by decide, by decide, by decide +kernel⟩, rfl, tb_at 74 (by decide +kernel) rfl, rfl⟩
set_option maxRecDepth 100000 in
set_option maxHeartbeats 40000000 in
theorem c_X7_init (a : Nat) (ws0 : va_W) : CN yX7_init m_X7_init [.ref a] ((a, .inr (7, [.null, .null, .null, .null, .null, .null, .null, .null, .null, .null, .null, .null, .int 0, .int 0, .long 0, .long 0])) :: ws0) (fun ca q => nw_X7_init a ca q ++ ws0) := by
  refine CN.of (by decide) rfl rfl (Nat.le_of_ble_eq_true rfl) (fun X hi => ?_)
  show GN _ X m_X7_init _ 0 0 0 [(0, .ref a)] []
  refine n_aload_n 0 dX7_init_0 rfl ?_
  refine n_objInit ol_X7_1 oi_i oi_c (by decide) (Nat.le_of_ble_eq_true rfl) dX7_init_1 ?_
  refine n_aload_n 0 dX7_init_4 rfl ?_
  refine n_bipush (6 : Int32) dX7_init_5 (by decide) ?_
  refine n_newR 6 3 (fun _ => rfl) cl_X7_9 (fun _ h => h.2.2) (by decide) (by decide) (by decide) rfl rfl (by decide) (by decide) dX7_init_7 (fun q1 => ?_)
  refine n_putF hi 1 rfl rfl inX7 tyX7_ok nmX7 0 (by decide) rfl rfl rfl rfl (Nat.le_of_ble_eq_true rfl) pl_X7_11 dX7_init_10 ?_
  refine n_aload_n 0 dX7_init_13 rfl ?_
  refine n_iconst (4 : Int32) dX7_init_14 (by decide) ?_
  refine n_newR 4 3 (fun _ => rfl) cl_X7_9 (fun _ h => h.2.2) (by decide) (by decide) (by decide) rfl rfl (by decide) (by decide) dX7_init_15 (fun q2 => ?_)
  refine n_putF hi 2 rfl rfl inX7 tyX7_ok nmX7 1 (by decide) rfl rfl rfl rfl (Nat.le_of_ble_eq_true rfl) pl_X7_15 dX7_init_18 ?_
  refine n_aload_n 0 dX7_init_21 rfl ?_
  refine n_new [.null, .int 0] rfl inX3 tyX3_ok cl_X7_18 ins_X3 ini_X3 hfs_X3 rfl rfl (by decide) (by decide) dX7_init_22 (fun q3 => ?_)
  refine n_dup dX7_init_25 rfl ?_
  refine n_call [] (c_X3_init q3 _) ok_X3_init ⟨by decide, by decide⟩ ml_X7_20 rfl rfl (Nat.le_of_ble_eq_true rfl) rfl rfl (by decide) (by decide) dX7_init_26 (fun q4 => ?_)
  refine n_putF hi 12 rfl rfl inX7 tyX7_ok nmX7 2 (by decide) rfl rfl rfl rfl (Nat.le_of_ble_eq_true rfl) pl_X7_21 dX7_init_29 ?_
  refine n_aload_n 0 dX7_init_32 rfl ?_
  refine n_new [.null, .null, .null, .int 0, .int 0] rfl inX2 tyX2_ok cl_X7_25 ins_X2 ini_X2 hfs_X2 rfl rfl (by decide) (by decide) dX7_init_33 (fun q5 => ?_)
  refine n_dup dX7_init_36 rfl ?_
  refine n_call [] (c_X2_init q5 _) ok_X2_init ⟨by decide, by decide⟩ ml_X7_27 rfl rfl (Nat.le_of_ble_eq_true rfl) rfl rfl (by decide) (by decide) dX7_init_37 (fun q6 => ?_)
  refine n_putF hi 24 rfl rfl inX7 tyX7_ok nmX7 3 (by decide) rfl rfl rfl rfl (Nat.le_of_ble_eq_true rfl) pl_X7_28 dX7_init_40 ?_
  refine n_aload_n 0 dX7_init_43 rfl ?_
  refine n_iconst (3 : Int32) dX7_init_44 (by decide) ?_
  refine n_newR 3 5 (fun _ => rfl) cl_X7_25 (fun _ h => h.2.1) (by decide) (by decide) (by decide) rfl rfl (by decide) (by decide) dX7_init_45 (fun q7 => ?_)
  refine n_putF hi 25 rfl rfl inX7 tyX7_ok nmX7 4 (by decide) rfl rfl rfl rfl (Nat.le_of_ble_eq_true rfl) pl_X7_32 dX7_init_48 ?_
  refine n_aload_n 0 dX7_init_51 rfl ?_
  refine n_new [.null, .null, .null, .null, .long 0, .int 0] rfl inX6 tyX6_ok cl_X7_36 ins_X6 ini_X6 hfs_X6 rfl rfl (by decide) (by decide) dX7_init_52 (fun q8 => ?_)
  refine n_dup dX7_init_55 rfl ?_
  refine n_call [] (c_X6_init q8 _) ok_X6_init ⟨by decide, by decide⟩ ml_X7_38 rfl rfl (Nat.le_of_ble_eq_true rfl) rfl rfl (by decide) (by decide) dX7_init_56 (fun q9 => ?_)
  refine n_putF hi 30 rfl rfl inX7 tyX7_ok nmX7 5 (by decide) rfl rfl rfl rfl (Nat.le_of_ble_eq_true rfl) pl_X7_39 dX7_init_59 ?_
  refine n_aload_n 0 dX7_init_62 rfl ?_
  refine n_new [.null, .null, .int 0, .int 0, .int 0] rfl inX0 tyX0_ok cl_X7_43 ins_X0 ini_X0 hfs_X0 rfl rfl (by decide) (by decide) dX7_init_63 (fun q10 => ?_)
  refine n_dup dX7_init_66 rfl ?_
  refine n_call [] (c_X0_init q10 _) ok_X0_init ⟨by decide, by decide⟩ ml_X7_45 rfl rfl (Nat.le_of_ble_eq_true rfl) rfl rfl (by decide) (by decide) dX7_init_67 (fun q11 => ?_)
  refine n_putF hi 33 rfl rfl inX7 tyX7_ok nmX7 6 (by decide) rfl rfl rfl rfl (Nat.le_of_ble_eq_true rfl) pl_X7_46 dX7_init_70 ?_
  refine n_aload_n 0 dX7_init_73 rfl ?_
  refine n_new [.null, .int 0] rfl inX4 tyX4_ok cl_X7_9 ins_X4 ini_X4 hfs_X4 rfl rfl (by decide) (by decide) dX7_init_74 (fun q12 => ?_)
  refine n_dup dX7_init_77 rfl ?_
  refine n_bipush (16 : Int32) dX7_init_78 (by decide) ?_
  refine n_call [.int (16 : Int32)] (c_X4_init16 q12 _) ok_X4_init16 ⟨by decide, by decide⟩ ml_X7_50 rfl rfl (Nat.le_of_ble_eq_true rfl) rfl rfl (by decide) (by decide) dX7_init_80 (fun q13 => ?_)
  refine n_putF hi 35 rfl rfl inX7 tyX7_ok nmX7 7 (by decide) rfl rfl rfl rfl (Nat.le_of_ble_eq_true rfl) pl_X7_53 dX7_init_83 ?_
  refine n_aload_n 0 dX7_init_86 rfl ?_
  refine n_new [.null, .null, .int 0, .null] rfl inX5 tyX5_ok cl_X7_57 ins_X5 ini_X5 hfs_X5 rfl rfl (by decide) (by decide) dX7_init_87 (fun q14 => ?_)
  refine n_dup dX7_init_90 rfl ?_
  refine n_call [] (c_X5_init q14 _) ok_X5_init ⟨by decide, by decide⟩ ml_X7_59 rfl rfl (Nat.le_of_ble_eq_true rfl) rfl rfl (by decide) (by decide) dX7_init_91 (fun q15 => ?_)
  refine n_putF hi 38 rfl rfl inX7 tyX7_ok nmX7 8 (by decide) rfl rfl rfl rfl (Nat.le_of_ble_eq_true rfl) pl_X7_60 dX7_init_94 ?_
  refine n_aload_n 0 dX7_init_97 rfl ?_
  refine n_new [.int 0, .int 0, .int 0, .int 0, .int 0] rfl inX1 tyX1_ok cl_X7_64 ins_X1 ini_X1 hfs_X1 rfl rfl (by decide) (by decide) dX7_init_98 (fun q16 => ?_)
  refine n_dup dX7_init_101 rfl ?_
  refine n_call [] (c_X1_init q16 _) ok_X1_init ⟨by decide, by decide⟩ ml_X7_66 rfl rfl (Nat.le_of_ble_eq_true rfl) rfl rfl (by decide) (by decide) dX7_init_102 (fun q17 => ?_)
  refine n_putF hi 39 rfl rfl inX7 tyX7_ok nmX7 9 (by decide) rfl rfl rfl rfl (Nat.le_of_ble_eq_true rfl) pl_X7_67 dX7_init_105 ?_
  refine n_aload_n 0 dX7_init_108 rfl ?_
  refine n_bipush (61 : Int32) dX7_init_109 (by decide) ?_
  refine n_newJ 61 arc_long (by decide) (by decide) (by decide) rfl rfl (by decide) (by decide) dX7_init_111 (fun q18 => ?_)
  refine n_putF hi 40 rfl rfl inX7 tyX7_ok nmX7 10 (by decide) rfl rfl rfl rfl (Nat.le_of_ble_eq_true rfl) pl_X7_71 dX7_init_113 ?_
  refine n_aload_n 0 dX7_init_116 rfl ?_
  refine n_bipush (6 : Int32) dX7_init_117 (by decide) ?_
  refine n_newI 6 arc_int (by decide) (by decide) (by decide) rfl rfl (by decide) (by decide) dX7_init_119 (fun q19 => ?_)
  refine n_putF hi 41 rfl rfl inX7 tyX7_ok nmX7 11 (by decide) rfl rfl rfl rfl (Nat.le_of_ble_eq_true rfl) pl_X7_75 dX7_init_121 ?_
  refine n_aload_n 0 dX7_init_124 rfl ?_
  refine n_iconst (0 : Int32) dX7_init_125 (by decide) ?_
  refine n_put 41 rfl rfl inX7 tyX7_ok nmX7 12 (by decide) rfl rfl rfl (Nat.le_of_ble_eq_true rfl) pl_X7_79 dX7_init_126 ?_
  refine n_aload_n 0 dX7_init_129 rfl ?_
  refine n_iconst (0 : Int32) dX7_init_130 (by decide) ?_
  refine n_put 41 rfl rfl inX7 tyX7_ok nmX7 13 (by decide) rfl rfl rfl (Nat.le_of_ble_eq_true rfl) pl_X7_83 dX7_init_131 ?_
  refine n_aload_n 0 dX7_init_134 rfl ?_
  refine n_lconst (0 : Int64) dX7_init_135 (by decide) ?_
  refine n_put 41 rfl rfl inX7 tyX7_ok nmX7 14 (by decide) rfl rfl rfl (Nat.le_of_ble_eq_true rfl) pl_X7_86 dX7_init_136 ?_
  refine n_aload_n 0 dX7_init_139 rfl ?_
  refine n_lconst (1 : Int64) dX7_init_140 (by decide) ?_
  refine n_put 41 rfl rfl inX7 tyX7_ok nmX7 15 (by decide) rfl rfl rfl (Nat.le_of_ble_eq_true rfl) pl_X7_90 dX7_init_141 ?_
  refine n_iconst (0 : Int32) dX7_init_144 (by decide) ?_
  refine n_istore_n [(1, .int (0 : Int32)), (0, .ref a)] dX7_init_145 (by decide) rfl ?_
  refine n_iload_n 0 dX7_init_146 rfl ?_
  refine n_aload_n 1 dX7_init_147 rfl ?_
  refine n_get 41 rfl rfl inX7 0 (by decide) (v := .ref q1) rfl fl_X7_11 dX7_init_148 ?_
  refine n_alen 40 3 rfl (by decide) (v := (6 : Int32)) rfl dX7_init_151 ?_
  refine n_geF 176 dX7_init_152 rfl (by decide) ?_
  refine n_aload_n 1 dX7_init_155 rfl ?_
  refine n_get 41 rfl rfl inX7 0 (by decide) (v := .ref q1) rfl fl_X7_11 dX7_init_156 ?_
  refine n_iload_n 0 dX7_init_159 rfl ?_
  refine n_new [.null, .int 0] rfl inX4 tyX4_ok cl_X7_9 ins_X4 ini_X4 hfs_X4 rfl rfl (by decide) (by decide) dX7_init_160 (fun q20 => ?_)
  refine n_dup dX7_init_163 rfl ?_
  refine n_bipush (40 : Int32) dX7_init_164 (by decide) ?_
  refine n_call [.int (40 : Int32)] (c_X4_init40 q20 _) ok_X4_init40 ⟨by decide, by decide⟩ ml_X7_50 rfl rfl (Nat.le_of_ble_eq_true rfl) rfl rfl (by decide) (by decide) dX7_init_166 (fun q21 => ?_)
  refine n_aast 42 3 1 4 rfl (fun _ => rfl) rfl rfl 0 (by decide) (by decide) dX7_init_169 ?_
  refine n_iinc 0 [(1, .int (1 : Int32)), (0, .ref a)] dX7_init_170 rfl (v := (1 : Int32)) (by decide) (by decide) rfl ?_
  refine n_goto 146 dX7_init_173 rfl ?_
  refine n_iload_n 0 dX7_init_146 rfl ?_
  refine n_aload_n 1 dX7_init_147 rfl ?_
  refine n_get 43 rfl rfl inX7 0 (by decide) (v := .ref q1) rfl fl_X7_11 dX7_init_148 ?_
  refine n_alen 42 3 rfl (by decide) (v := (6 : Int32)) rfl dX7_init_151 ?_
  refine n_geF 176 dX7_init_152 rfl (by decide) ?_
  refine n_aload_n 1 dX7_init_155 rfl ?_
  refine n_get 43 rfl rfl inX7 0 (by decide) (v := .ref q1) rfl fl_X7_11 dX7_init_156 ?_
  refine n_iload_n 0 dX7_init_159 rfl ?_
  refine n_new [.null, .int 0] rfl inX4 tyX4_ok cl_X7_9 ins_X4 ini_X4 hfs_X4 rfl rfl (by decide) (by decide) dX7_init_160 (fun q22 => ?_)
  refine n_dup dX7_init_163 rfl ?_
  refine n_bipush (40 : Int32) dX7_init_164 (by decide) ?_
  refine n_call [.int (40 : Int32)] (c_X4_init40 q22 _) ok_X4_init40 ⟨by decide, by decide⟩ ml_X7_50 rfl rfl (Nat.le_of_ble_eq_true rfl) rfl rfl (by decide) (by decide) dX7_init_166 (fun q23 => ?_)
  refine n_aast 44 3 1 4 rfl (fun _ => rfl) rfl rfl 1 (by decide) (by decide) dX7_init_169 ?_
  refine n_iinc 0 [(1, .int (2 : Int32)), (0, .ref a)] dX7_init_170 rfl (v := (2 : Int32)) (by decide) (by decide) rfl ?_
  refine n_goto 146 dX7_init_173 rfl ?_
  refine n_iload_n 0 dX7_init_146 rfl ?_
  refine n_aload_n 1 dX7_init_147 rfl ?_
  refine n_get 45 rfl rfl inX7 0 (by decide) (v := .ref q1) rfl fl_X7_11 dX7_init_148 ?_
  refine n_alen 44 3 rfl (by decide) (v := (6 : Int32)) rfl dX7_init_151 ?_
  refine n_geF 176 dX7_init_152 rfl (by decide) ?_
  refine n_aload_n 1 dX7_init_155 rfl ?_
  refine n_get 45 rfl rfl inX7 0 (by decide) (v := .ref q1) rfl fl_X7_11 dX7_init_156 ?_
  refine n_iload_n 0 dX7_init_159 rfl ?_
  refine n_new [.null, .int 0] rfl inX4 tyX4_ok cl_X7_9 ins_X4 ini_X4 hfs_X4 rfl rfl (by decide) (by decide) dX7_init_160 (fun q24 => ?_)
  refine n_dup dX7_init_163 rfl ?_
  refine n_bipush (40 : Int32) dX7_init_164 (by decide) ?_
  refine n_call [.int (40 : Int32)] (c_X4_init40 q24 _) ok_X4_init40 ⟨by decide, by decide⟩ ml_X7_50 rfl rfl (Nat.le_of_ble_eq_true rfl) rfl rfl (by decide) (by decide) dX7_init_166 (fun q25 => ?_)
  refine n_aast 46 3 1 4 rfl (fun _ => rfl) rfl rfl 2 (by decide) (by decide) dX7_init_169 ?_
  refine n_iinc 0 [(1, .int (3 : Int32)), (0, .ref a)] dX7_init_170 rfl (v := (3 : Int32)) (by decide) (by decide) rfl ?_
  refine n_goto 146 dX7_init_173 rfl ?_
  refine n_iload_n 0 dX7_init_146 rfl ?_
  refine n_aload_n 1 dX7_init_147 rfl ?_
  refine n_get 47 rfl rfl inX7 0 (by decide) (v := .ref q1) rfl fl_X7_11 dX7_init_148 ?_
  refine n_alen 46 3 rfl (by decide) (v := (6 : Int32)) rfl dX7_init_151 ?_
  refine n_geF 176 dX7_init_152 rfl (by decide) ?_
  refine n_aload_n 1 dX7_init_155 rfl ?_
  refine n_get 47 rfl rfl inX7 0 (by decide) (v := .ref q1) rfl fl_X7_11 dX7_init_156 ?_
  refine n_iload_n 0 dX7_init_159 rfl ?_
  refine n_new [.null, .int 0] rfl inX4 tyX4_ok cl_X7_9 ins_X4 ini_X4 hfs_X4 rfl rfl (by decide) (by decide) dX7_init_160 (fun q26 => ?_)
  refine n_dup dX7_init_163 rfl ?_
  refine n_bipush (40 : Int32) dX7_init_164 (by decide) ?_
  refine n_call [.int (40 : Int32)] (c_X4_init40 q26 _) ok_X4_init40 ⟨by decide, by decide⟩ ml_X7_50 rfl rfl (Nat.le_of_ble_eq_true rfl) rfl rfl (by decide) (by decide) dX7_init_166 (fun q27 => ?_)
  refine n_aast 48 3 1 4 rfl (fun _ => rfl) rfl rfl 3 (by decide) (by decide) dX7_init_169 ?_
  refine n_iinc 0 [(1, .int (4 : Int32)), (0, .ref a)] dX7_init_170 rfl (v := (4 : Int32)) (by decide) (by decide) rfl ?_
  refine n_goto 146 dX7_init_173 rfl ?_
  refine n_iload_n 0 dX7_init_146 rfl ?_
  refine n_aload_n 1 dX7_init_147 rfl ?_
  refine n_get 49 rfl rfl inX7 0 (by decide) (v := .ref q1) rfl fl_X7_11 dX7_init_148 ?_
  refine n_alen 48 3 rfl (by decide) (v := (6 : Int32)) rfl dX7_init_151 ?_
  refine n_geF 176 dX7_init_152 rfl (by decide) ?_
  refine n_aload_n 1 dX7_init_155 rfl ?_
  refine n_get 49 rfl rfl inX7 0 (by decide) (v := .ref q1) rfl fl_X7_11 dX7_init_156 ?_
  refine n_iload_n 0 dX7_init_159 rfl ?_
  refine n_new [.null, .int 0] rfl inX4 tyX4_ok cl_X7_9 ins_X4 ini_X4 hfs_X4 rfl rfl (by decide) (by decide) dX7_init_160 (fun q28 => ?_)
  refine n_dup dX7_init_163 rfl ?_
  refine n_bipush (40 : Int32) dX7_init_164 (by decide) ?_
  refine n_call [.int (40 : Int32)] (c_X4_init40 q28 _) ok_X4_init40 ⟨by decide, by decide⟩ ml_X7_50 rfl rfl (Nat.le_of_ble_eq_true rfl) rfl rfl (by decide) (by decide) dX7_init_166 (fun q29 => ?_)
  refine n_aast 50 3 1 4 rfl (fun _ => rfl) rfl rfl 4 (by decide) (by decide) dX7_init_169 ?_
  refine n_iinc 0 [(1, .int (5 : Int32)), (0, .ref a)] dX7_init_170 rfl (v := (5 : Int32)) (by decide) (by decide) rfl ?_
  refine n_goto 146 dX7_init_173 rfl ?_
  refine n_iload_n 0 dX7_init_146 rfl ?_
  refine n_aload_n 1 dX7_init_147 rfl ?_
  refine n_get 51 rfl rfl inX7 0 (by decide) (v := .ref q1) rfl fl_X7_11 dX7_init_148 ?_
  refine n_alen 50 3 rfl (by decide) (v := (6 : Int32)) rfl dX7_init_151 ?_
  refine n_geF 176 dX7_init_152 rfl (by decide) ?_
  refine n_aload_n 1 dX7_init_155 rfl ?_
  refine n_get 51 rfl rfl inX7 0 (by decide) (v := .ref q1) rfl fl_X7_11 dX7_init_156 ?_
  refine n_iload_n 0 dX7_init_159 rfl ?_
  refine n_new [.null, .int 0] rfl inX4 tyX4_ok cl_X7_9 ins_X4 ini_X4 hfs_X4 rfl rfl (by decide) (by decide) dX7_init_160 (fun q30 => ?_)
  refine n_dup dX7_init_163 rfl ?_
  refine n_bipush (40 : Int32) dX7_init_164 (by decide) ?_
  refine n_call [.int (40 : Int32)] (c_X4_init40 q30 _) ok_X4_init40 ⟨by decide, by decide⟩ ml_X7_50 rfl rfl (Nat.le_of_ble_eq_true rfl) rfl rfl (by decide) (by decide) dX7_init_166 (fun q31 => ?_)
  refine n_aast 52 3 1 4 rfl (fun _ => rfl) rfl rfl 5 (by decide) (by decide) dX7_init_169 ?_
  refine n_iinc 0 [(1, .int (6 : Int32)), (0, .ref a)] dX7_init_170 rfl (v := (6 : Int32)) (by decide) (by decide) rfl ?_
  refine n_goto 146 dX7_init_173 rfl ?_
  refine n_iload_n 0 dX7_init_146 rfl ?_
  refine n_aload_n 1 dX7_init_147 rfl ?_
  refine n_get 53 rfl rfl inX7 0 (by decide) (v := .ref q1) rfl fl_X7_11 dX7_init_148 ?_
  refine n_alen 52 3 rfl (by decide) (v := (6 : Int32)) rfl dX7_init_151 ?_
  refine n_geT 176 dX7_init_152 rfl (by decide) ?_
  refine n_iconst (0 : Int32) dX7_init_176 (by decide) ?_
  refine n_istore_n [(1, .int (0 : Int32)), (0, .ref a)] dX7_init_177 (by decide) rfl ?_
  refine n_iload_n 0 dX7_init_178 rfl ?_
  refine n_aload_n 1 dX7_init_179 rfl ?_
  refine n_get 53 rfl rfl inX7 1 (by decide) (v := .ref q2) rfl fl_X7_15 dX7_init_180 ?_
  refine n_alen 51 3 rfl (by decide) (v := (4 : Int32)) rfl dX7_init_183 ?_
  refine n_geF 208 dX7_init_184 rfl (by decide) ?_
  refine n_aload_n 1 dX7_init_187 rfl ?_
  refine n_get 53 rfl rfl inX7 1 (by decide) (v := .ref q2) rfl fl_X7_15 dX7_init_188 ?_
  refine n_iload_n 0 dX7_init_191 rfl ?_
  refine n_new [.null, .int 0] rfl inX4 tyX4_ok cl_X7_9 ins_X4 ini_X4 hfs_X4 rfl rfl (by decide) (by decide) dX7_init_192 (fun q32 => ?_)
  refine n_dup dX7_init_195 rfl ?_
  refine n_bipush (60 : Int32) dX7_init_196 (by decide) ?_
  refine n_call [.int (60 : Int32)] (c_X4_init60 q32 _) ok_X4_init60 ⟨by decide, by decide⟩ ml_X7_50 rfl rfl (Nat.le_of_ble_eq_true rfl) rfl rfl (by decide) (by decide) dX7_init_198 (fun q33 => ?_)
  refine n_aast 53 3 1 4 rfl (fun _ => rfl) rfl rfl 0 (by decide) (by decide) dX7_init_201 ?_
  refine n_iinc 0 [(1, .int (1 : Int32)), (0, .ref a)] dX7_init_202 rfl (v := (1 : Int32)) (by decide) (by decide) rfl ?_
  refine n_goto 178 dX7_init_205 rfl ?_
  refine n_iload_n 0 dX7_init_178 rfl ?_
  refine n_aload_n 1 dX7_init_179 rfl ?_
  refine n_get 55 rfl rfl inX7 1 (by decide) (v := .ref q2) rfl fl_X7_15 dX7_init_180 ?_
  refine n_alen 53 3 rfl (by decide) (v := (4 : Int32)) rfl dX7_init_183 ?_
  refine n_geF 208 dX7_init_184 rfl (by decide) ?_
  refine n_aload_n 1 dX7_init_187 rfl ?_
  refine n_get 55 rfl rfl inX7 1 (by decide) (v := .ref q2) rfl fl_X7_15 dX7_init_188 ?_
  refine n_iload_n 0 dX7_init_191 rfl ?_
  refine n_new [.null, .int 0] rfl inX4 tyX4_ok cl_X7_9 ins_X4 ini_X4 hfs_X4 rfl rfl (by decide) (by decide) dX7_init_192 (fun q34 => ?_)
  refine n_dup dX7_init_195 rfl ?_
  refine n_bipush (60 : Int32) dX7_init_196 (by decide) ?_
  refine n_call [.int (60 : Int32)] (c_X4_init60 q34 _) ok_X4_init60 ⟨by decide, by decide⟩ ml_X7_50 rfl rfl (Nat.le_of_ble_eq_true rfl) rfl rfl (by decide) (by decide) dX7_init_198 (fun q35 => ?_)
  refine n_aast 55 3 1 4 rfl (fun _ => rfl) rfl rfl 1 (by decide) (by decide) dX7_init_201 ?_
  refine n_iinc 0 [(1, .int (2 : Int32)), (0, .ref a)] dX7_init_202 rfl (v := (2 : Int32)) (by decide) (by decide) rfl ?_
  refine n_goto 178 dX7_init_205 rfl ?_
  refine n_iload_n 0 dX7_init_178 rfl ?_
  refine n_aload_n 1 dX7_init_179 rfl ?_
  refine n_get 57 rfl rfl inX7 1 (by decide) (v := .ref q2) rfl fl_X7_15 dX7_init_180 ?_
  refine n_alen 55 3 rfl (by decide) (v := (4 : Int32)) rfl dX7_init_183 ?_
  refine n_geF 208 dX7_init_184 rfl (by decide) ?_
  refine n_aload_n 1 dX7_init_187 rfl ?_
  refine n_get 57 rfl rfl inX7 1 (by decide) (v := .ref q2) rfl fl_X7_15 dX7_init_188 ?_
  refine n_iload_n 0 dX7_init_191 rfl ?_
  refine n_new [.null, .int 0] rfl inX4 tyX4_ok cl_X7_9 ins_X4 ini_X4 hfs_X4 rfl rfl (by decide) (by decide) dX7_init_192 (fun q36 => ?_)
  refine n_dup dX7_init_195 rfl ?_
  refine n_bipush (60 : Int32) dX7_init_196 (by decide) ?_
  refine n_call [.int (60 : Int32)] (c_X4_init60 q36 _) ok_X4_init60 ⟨by decide, by decide⟩ ml_X7_50 rfl rfl (Nat.le_of_ble_eq_true rfl) rfl rfl (by decide) (by decide) dX7_init_198 (fun q37 => ?_)
  refine n_aast 57 3 1 4 rfl (fun _ => rfl) rfl rfl 2 (by decide) (by decide) dX7_init_201 ?_
  refine n_iinc 0 [(1, .int (3 : Int32)), (0, .ref a)] dX7_init_202 rfl (v := (3 : Int32)) (by decide) (by decide) rfl ?_
  refine n_goto 178 dX7_init_205 rfl ?_
  refine n_iload_n 0 dX7_init_178 rfl ?_
  refine n_aload_n 1 dX7_init_179 rfl ?_
  refine n_get 59 rfl rfl inX7 1 (by decide) (v := .ref q2) rfl fl_X7_15 dX7_init_180 ?_
  refine n_alen 57 3 rfl (by decide) (v := (4 : Int32)) rfl dX7_init_183 ?_
  refine n_geF 208 dX7_init_184 rfl (by decide) ?_
  refine n_aload_n 1 dX7_init_187 rfl ?_
  refine n_get 59 rfl rfl inX7 1 (by decide) (v := .ref q2) rfl fl_X7_15 dX7_init_188 ?_
  refine n_iload_n 0 dX7_init_191 rfl ?_
  refine n_new [.null, .int 0] rfl inX4 tyX4_ok cl_X7_9 ins_X4 ini_X4 hfs_X4 rfl rfl (by decide) (by decide) dX7_init_192 (fun q38 => ?_)
  refine n_dup dX7_init_195 rfl ?_
  refine n_bipush (60 : Int32) dX7_init_196 (by decide) ?_
  refine n_call [.int (60 : Int32)] (c_X4_init60 q38 _) ok_X4_init60 ⟨by decide, by decide⟩ ml_X7_50 rfl rfl (Nat.le_of_ble_eq_true rfl) rfl rfl (by decide) (by decide) dX7_init_198 (fun q39 => ?_)
  refine n_aast 59 3 1 4 rfl (fun _ => rfl) rfl rfl 3 (by decide) (by decide) dX7_init_201 ?_
  refine n_iinc 0 [(1, .int (4 : Int32)), (0, .ref a)] dX7_init_202 rfl (v := (4 : Int32)) (by decide) (by decide) rfl ?_
  refine n_goto 178 dX7_init_205 rfl ?_
  refine n_iload_n 0 dX7_init_178 rfl ?_
  refine n_aload_n 1 dX7_init_179 rfl ?_
  refine n_get 61 rfl rfl inX7 1 (by decide) (v := .ref q2) rfl fl_X7_15 dX7_init_180 ?_
  refine n_alen 59 3 rfl (by decide) (v := (4 : Int32)) rfl dX7_init_183 ?_
  refine n_geT 208 dX7_init_184 rfl (by decide) ?_
  refine n_iconst (0 : Int32) dX7_init_208 (by decide) ?_
  refine n_istore_n [(1, .int (0 : Int32)), (0, .ref a)] dX7_init_209 (by decide) rfl ?_
  refine n_iload_n 0 dX7_init_210 rfl ?_
  refine n_aload_n 1 dX7_init_211 rfl ?_
  refine n_get 61 rfl rfl inX7 4 (by decide) (v := .ref q7) rfl fl_X7_32 dX7_init_212 ?_
  refine n_alen 36 5 rfl (by decide) (v := (3 : Int32)) rfl dX7_init_215 ?_
  refine n_geF 238 dX7_init_216 rfl (by decide) ?_
  refine n_aload_n 1 dX7_init_219 rfl ?_
  refine n_get 61 rfl rfl inX7 4 (by decide) (v := .ref q7) rfl fl_X7_32 dX7_init_220 ?_
  refine n_iload_n 0 dX7_init_223 rfl ?_
  refine n_new [.null, .null, .null, .int 0, .int 0] rfl inX2 tyX2_ok cl_X7_25 ins_X2 ini_X2 hfs_X2 rfl rfl (by decide) (by decide) dX7_init_224 (fun q40 => ?_)
  refine n_dup dX7_init_227 rfl ?_
  refine n_call [] (c_X2_init q40 _) ok_X2_init ⟨by decide, by decide⟩ ml_X7_27 rfl rfl (Nat.le_of_ble_eq_true rfl) rfl rfl (by decide) (by decide) dX7_init_228 (fun q41 => ?_)
  refine n_aast 48 5 11 2 rfl (fun _ => rfl) rfl rfl 0 (by decide) (by decide) dX7_init_231 ?_
  refine n_iinc 0 [(1, .int (1 : Int32)), (0, .ref a)] dX7_init_232 rfl (v := (1 : Int32)) (by decide) (by decide) rfl ?_
  refine n_goto 210 dX7_init_235 rfl ?_
  refine n_iload_n 0 dX7_init_210 rfl ?_
  refine n_aload_n 1 dX7_init_211 rfl ?_
  refine n_get 73 rfl rfl inX7 4 (by decide) (v := .ref q7) rfl fl_X7_32 dX7_init_212 ?_
  refine n_alen 48 5 rfl (by decide) (v := (3 : Int32)) rfl dX7_init_215 ?_
  refine n_geF 238 dX7_init_216 rfl (by decide) ?_
  refine n_aload_n 1 dX7_init_219 rfl ?_
  refine n_get 73 rfl rfl inX7 4 (by decide) (v := .ref q7) rfl fl_X7_32 dX7_init_220 ?_
  refine n_iload_n 0 dX7_init_223 rfl ?_
  refine n_new [.null, .null, .null, .int 0, .int 0] rfl inX2 tyX2_ok cl_X7_25 ins_X2 ini_X2 hfs_X2 rfl rfl (by decide) (by decide) dX7_init_224 (fun q42 => ?_)
  refine n_dup dX7_init_227 rfl ?_
  refine n_call [] (c_X2_init q42 _) ok_X2_init ⟨by decide, by decide⟩ ml_X7_27 rfl rfl (Nat.le_of_ble_eq_true rfl) rfl rfl (by decide) (by decide) dX7_init_228 (fun q43 => ?_)
  refine n_aast 60 5 11 2 rfl (fun _ => rfl) rfl rfl 1 (by decide) (by decide) dX7_init_231 ?_
  refine n_iinc 0 [(1, .int (2 : Int32)), (0, .ref a)] dX7_init_232 rfl (v := (2 : Int32)) (by decide) (by decide) rfl ?_
  refine n_goto 210 dX7_init_235 rfl ?_
  refine n_iload_n 0 dX7_init_210 rfl ?_
  refine n_aload_n 1 dX7_init_211 rfl ?_
  refine n_get 85 rfl rfl inX7 4 (by decide) (v := .ref q7) rfl fl_X7_32 dX7_init_212 ?_
  refine n_alen 60 5 rfl (by decide) (v := (3 : Int32)) rfl dX7_init_215 ?_
  refine n_geF 238 dX7_init_216 rfl (by decide) ?_
  refine n_aload_n 1 dX7_init_219 rfl ?_
  refine n_get 85 rfl rfl inX7 4 (by decide) (v := .ref q7) rfl fl_X7_32 dX7_init_220 ?_
  refine n_iload_n 0 dX7_init_223 rfl ?_
  refine n_new [.null, .null, .null, .int 0, .int 0] rfl inX2 tyX2_ok cl_X7_25 ins_X2 ini_X2 hfs_X2 rfl rfl (by decide) (by decide) dX7_init_224 (fun q44 => ?_)
  refine n_dup dX7_init_227 rfl ?_
  refine n_call [] (c_X2_init q44 _) ok_X2_init ⟨by decide, by decide⟩ ml_X7_27 rfl rfl (Nat.le_of_ble_eq_true rfl) rfl rfl (by decide) (by decide) dX7_init_228 (fun q45 => ?_)
  refine n_aast 72 5 11 2 rfl (fun _ => rfl) rfl rfl 2 (by decide) (by decide) dX7_init_231 ?_
  refine n_iinc 0 [(1, .int (3 : Int32)), (0, .ref a)] dX7_init_232 rfl (v := (3 : Int32)) (by decide) (by decide) rfl ?_
  refine n_goto 210 dX7_init_235 rfl ?_
  refine n_iload_n 0 dX7_init_210 rfl ?_
  refine n_aload_n 1 dX7_init_211 rfl ?_
  refine n_get 97 rfl rfl inX7 4 (by decide) (v := .ref q7) rfl fl_X7_32 dX7_init_212 ?_
  refine n_alen 72 5 rfl (by decide) (v := (3 : Int32)) rfl dX7_init_215 ?_
  refine n_geT 238 dX7_init_216 rfl (by decide) ?_
  exact n_vret (fun i => [q1, q2, q3, (q4 0), (q4 1), (q4 2), (q4 3), (q4 4), (q4 5), (q4 6), (q4 7), (q4 8), q5, (q6 0), (q6 1), (q6 2), (q6 3), (q6 4), (q6 5), (q6 6), (q6 7), (q6 8), (q6 9), (q6 10), q7, q8, (q9 0), (q9 1), (q9 2), (q9 3), q10, (q11 0), (q11 1), q12, (q13 0), q14, (q15 0), (q15 1), q16, q18, q19, q20, (q21 0), q22, (q23 0), q24, (q25 0), q26, (q27 0), q28, (q29 0), q30, (q31 0), q32, (q33 0), q34, (q35 0), q36, (q37 0), q38, (q39 0), q40, (q41 0), (q41 1), (q41 2), (q41 3), (q41 4), (q41 5), (q41 6), (q41 7), (q41 8), (q41 9), (q41 10), q42, (q43 0), (q43 1), (q43 2), (q43 3), (q43 4), (q43 5), (q43 6), (q43 7), (q43 8), (q43 9), (q43 10), q44, (q45 0), (q45 1), (q45 2), (q45 3), (q45 4), (q45 5), (q45 6), (q45 7), (q45 8), (q45 9), (q45 10)].getD i 0) rfl rfl dX7_init_238
def nw_X8_init (a : Nat) (ca : Nat → ClassId) (q : Nat → Nat) : va_W := [((q 18), .inl (ca 0, 2181, .inl (upd (upd (upd (fun _ => 0) 0 (-9 : Int32)) 727 (-9 : Int32)) 1454 (-9 : Int32)))), ((q 17), .inl (ca 0, 680, .inl (fun _ => 0))), ((q 16), .inl (ca 0, 6, .inl (fun _ => 0))), ((q 15), .inl (ca 2, 64, .inl (fun _ => 0))), ((q 14), .inl (ca 1, 1296, .inr (.inl (fun _ => 0)))), ((q 13), .inl (ca 0, 16, .inl (fun _ => 0))), ((q 12), .inl (ca 0, 16, .inl (fun _ => 0))), ((q 11), .inl (ca 0, 488, .inl (fun _ => 0))), ((q 10), .inl (ca 0, 61, .inl (fun _ => 0))), ((q 9), .inl (ca 0, 16, .inl (fun _ => 0))), ((q 8), .inl (ca 0, 8, .inl (fun _ => 0))), ((q 7), .inl (ca 0, 40, .inl (fun _ => 0))), ((q 6), .inl (ca 0, 40, .inl (fun _ => 0))), ((q 5), .inl (ca 0, 240, .inl (fun _ => 0))), ((q 4), .inl (ca 0, 4, .inl (upd (upd (upd (upd (fun _ => 0) 0 (-9 : Int32)) 1 (-9 : Int32)) 2 (-9 : Int32)) 3 (-9 : Int32)))), ((q 3), .inl (ca 0, 40, .inl (fun _ => 0))), ((q 2), .inl (ca 0, 240, .inl (fun _ => 0))), ((q 1), .inl (ca 0, 6, .inl (upd (upd (upd (upd (upd (upd (fun _ => 0) 0 (-9 : Int32)) 1 (-9 : Int32)) 2 (-9 : Int32)) 3 (-9 : Int32)) 4 (-9 : Int32)) 5 (-9 : Int32)))), ((q 0), .inl (ca 0, 6, .inl (fun _ => 0))), (a, .inr (8, [.int 0, .ref (q 0), .int 0, .long 0, .long (1 : Int64), .ref (q 1), .ref (q 2), .ref (q 3), .ref (q 4), .ref (q 5), .int 0, .ref (q 6), .int 0, .int 0, .ref (q 7), .ref (q 8), .int 0, .ref (q 9), .int 0, .ref (q 10), .ref (q 11), .ref (q 12), .ref (q 13), .int 0, .ref (q 14), .ref (q 15), .int 0, .ref (q 16), .ref (q 17), .ref (q 18), .long 0]))]
abbrev m_X8_init : MI := (cX8_init, 2, RX8, { frames := 1, cells := 19, slots := 5448, locals := 20 }, none)
theorem ok_X8_init : OKI yX8_init m_X8_init 0 := ⟨tb_at 862 (by decide +kernel) rfl, ini_X8, ⟨by decide, by decide, by decide +kernel⟩, rfl, tb_at 861 (by decide +kernel) rfl, rfl⟩
set_option maxRecDepth 100000 in
set_option maxHeartbeats 40000000 in
theorem c_X8_init (a : Nat) (ws0 : va_W) : CN yX8_init m_X8_init [.ref a] ((a, .inr (8, [.int 0, .null, .int 0, .long 0, .long 0, .null, .null, .null, .null, .null, .int 0, .null, .int 0, .int 0, .null, .null, .int 0, .null, .int 0, .null, .null, .null, .null, .int 0, .null, .null, .int 0, .null, .null, .null, .long 0])) :: ws0) (fun ca q => nw_X8_init a ca q ++ ws0) := by
  refine CN.of (by decide) rfl rfl (Nat.le_of_ble_eq_true rfl) (fun X hi => ?_)
  show GN _ X m_X8_init _ 0 0 0 [(0, .ref a)] []
  refine n_aload_n 0 dX8_init_0 rfl ?_
  refine n_objInit ol_X8_1 oi_i oi_c (by decide) (Nat.le_of_ble_eq_true rfl) dX8_init_1 ?_
  refine n_aload_n 0 dX8_init_4 rfl ?_
  refine n_bipush (6 : Int32) dX8_init_5 (by decide) ?_
  refine n_newI 6 arc_int (by decide) (by decide) (by decide) rfl rfl (by decide) (by decide) dX8_init_7 (fun q1 => ?_)
  refine n_putF hi 1 rfl rfl inX8 tyX8_ok nmX8 1 (by decide) rfl rfl rfl rfl (Nat.le_of_ble_eq_true rfl) pl_X8_7 dX8_init_9 ?_
  refine n_aload_n 0 dX8_init_12 rfl ?_
  refine n_lconst (1 : Int64) dX8_init_13 (by decide) ?_
  refine n_put 1 rfl rfl inX8 tyX8_ok nmX8 4 (by decide) rfl rfl rfl (Nat.le_of_ble_eq_true rfl) pl_X8_13 dX8_init_14 ?_
  refine n_aload_n 0 dX8_init_17 rfl ?_
  refine n_bipush (6 : Int32) dX8_init_18 (by decide) ?_
  refine n_newI 6 arc_int (by decide) (by decide) (by decide) rfl rfl (by decide) (by decide) dX8_init_20 (fun q2 => ?_)
  refine n_putF hi 2 rfl rfl inX8 tyX8_ok nmX8 5 (by decide) rfl rfl rfl rfl (Nat.le_of_ble_eq_true rfl) pl_X8_17 dX8_init_22 ?_
  refine n_aload_n 0 dX8_init_25 rfl ?_
  refine n_sipush (240 : Int32) dX8_init_26 (by decide) ?_
  refine n_newI 240 arc_int (by decide) (by decide) (by decide) rfl rfl (by decide) (by decide) dX8_init_29 (fun q3 => ?_)
  refine n_putF hi 3 rfl rfl inX8 tyX8_ok nmX8 6 (by decide) rfl rfl rfl rfl (Nat.le_of_ble_eq_true rfl) pl_X8_20 dX8_init_31 ?_
  refine n_aload_n 0 dX8_init_34 rfl ?_
  refine n_bipush (40 : Int32) dX8_init_35 (by decide) ?_
  refine n_newI 40 arc_int (by decide) (by decide) (by decide) rfl rfl (by decide) (by decide) dX8_init_37 (fun q4 => ?_)
  refine n_putF hi 4 rfl rfl inX8 tyX8_ok nmX8 7 (by decide) rfl rfl rfl rfl (Nat.le_of_ble_eq_true rfl) pl_X8_23 dX8_init_39 ?_
  refine n_aload_n 0 dX8_init_42 rfl ?_
  refine n_iconst (4 : Int32) dX8_init_43 (by decide) ?_
  refine n_newI 4 arc_int (by decide) (by decide) (by decide) rfl rfl (by decide) (by decide) dX8_init_44 (fun q5 => ?_)
  refine n_putF hi 5 rfl rfl inX8 tyX8_ok nmX8 8 (by decide) rfl rfl rfl rfl (Nat.le_of_ble_eq_true rfl) pl_X8_26 dX8_init_46 ?_
  refine n_aload_n 0 dX8_init_49 rfl ?_
  refine n_sipush (240 : Int32) dX8_init_50 (by decide) ?_
  refine n_newI 240 arc_int (by decide) (by decide) (by decide) rfl rfl (by decide) (by decide) dX8_init_53 (fun q6 => ?_)
  refine n_putF hi 6 rfl rfl inX8 tyX8_ok nmX8 9 (by decide) rfl rfl rfl rfl (Nat.le_of_ble_eq_true rfl) pl_X8_29 dX8_init_55 ?_
  refine n_aload_n 0 dX8_init_58 rfl ?_
  refine n_bipush (40 : Int32) dX8_init_59 (by decide) ?_
  refine n_newI 40 arc_int (by decide) (by decide) (by decide) rfl rfl (by decide) (by decide) dX8_init_61 (fun q7 => ?_)
  refine n_putF hi 7 rfl rfl inX8 tyX8_ok nmX8 11 (by decide) rfl rfl rfl rfl (Nat.le_of_ble_eq_true rfl) pl_X8_32 dX8_init_63 ?_
  refine n_aload_n 0 dX8_init_66 rfl ?_
  refine n_bipush (40 : Int32) dX8_init_67 (by decide) ?_
  refine n_newI 40 arc_int (by decide) (by decide) (by decide) rfl rfl (by decide) (by decide) dX8_init_69 (fun q8 => ?_)
  refine n_putF hi 8 rfl rfl inX8 tyX8_ok nmX8 14 (by decide) rfl rfl rfl rfl (Nat.le_of_ble_eq_true rfl) pl_X8_35 dX8_init_71 ?_
  refine n_aload_n 0 dX8_init_74 rfl ?_
  refine n_bipush (8 : Int32) dX8_init_75 (by decide) ?_
  refine n_newI 8 arc_int (by decide) (by decide) (by decide) rfl rfl (by decide) (by decide) dX8_init_77 (fun q9 => ?_)
  refine n_putF hi 9 rfl rfl inX8 tyX8_ok nmX8 15 (by decide) rfl rfl rfl rfl (Nat.le_of_ble_eq_true rfl) pl_X8_38 dX8_init_79 ?_
  refine n_aload_n 0 dX8_init_82 rfl ?_
  refine n_bipush (16 : Int32) dX8_init_83 (by decide) ?_
  refine n_newI 16 arc_int (by decide) (by decide) (by decide) rfl rfl (by decide) (by decide) dX8_init_85 (fun q10 => ?_)
  refine n_putF hi 10 rfl rfl inX8 tyX8_ok nmX8 17 (by decide) rfl rfl rfl rfl (Nat.le_of_ble_eq_true rfl) pl_X8_41 dX8_init_87 ?_
  refine n_aload_n 0 dX8_init_90 rfl ?_
  refine n_bipush (61 : Int32) dX8_init_91 (by decide) ?_
  refine n_newI 61 arc_int (by decide) (by decide) (by decide) rfl rfl (by decide) (by decide) dX8_init_93 (fun q11 => ?_)
  refine n_putF hi 11 rfl rfl inX8 tyX8_ok nmX8 19 (by decide) rfl rfl rfl rfl (Nat.le_of_ble_eq_true rfl) pl_X8_44 dX8_init_95 ?_
  refine n_aload_n 0 dX8_init_98 rfl ?_
  refine n_sipush (488 : Int32) dX8_init_99 (by decide) ?_
  refine n_newI 488 arc_int (by decide) (by decide) (by decide) rfl rfl (by decide) (by decide) dX8_init_102 (fun q12 => ?_)
  refine n_putF hi 12 rfl rfl inX8 tyX8_ok nmX8 20 (by decide) rfl rfl rfl rfl (Nat.le_of_ble_eq_true rfl) pl_X8_47 dX8_init_104 ?_
  refine n_aload_n 0 dX8_init_107 rfl ?_
  refine n_bipush (16 : Int32) dX8_init_108 (by decide) ?_
  refine n_newI 16 arc_int (by decide) (by decide) (by decide) rfl rfl (by decide) (by decide) dX8_init_110 (fun q13 => ?_)
  refine n_putF hi 13 rfl rfl inX8 tyX8_ok nmX8 21 (by decide) rfl rfl rfl rfl (Nat.le_of_ble_eq_true rfl) pl_X8_50 dX8_init_112 ?_
  refine n_aload_n 0 dX8_init_115 rfl ?_
  refine n_bipush (16 : Int32) dX8_init_116 (by decide) ?_
  refine n_newI 16 arc_int (by decide) (by decide) (by decide) rfl rfl (by decide) (by decide) dX8_init_118 (fun q14 => ?_)
  refine n_putF hi 14 rfl rfl inX8 tyX8_ok nmX8 22 (by decide) rfl rfl rfl rfl (Nat.le_of_ble_eq_true rfl) pl_X8_53 dX8_init_120 ?_
  refine n_aload_n 0 dX8_init_123 rfl ?_
  refine n_sipush (1296 : Int32) dX8_init_124 (by decide) ?_
  refine n_newJ 1296 arc_long (by decide) (by decide) (by decide) rfl rfl (by decide) (by decide) dX8_init_127 (fun q15 => ?_)
  refine n_putF hi 15 rfl rfl inX8 tyX8_ok nmX8 24 (by decide) rfl rfl rfl rfl (Nat.le_of_ble_eq_true rfl) pl_X8_56 dX8_init_129 ?_
  refine n_aload_n 0 dX8_init_132 rfl ?_
  refine n_bipush (64 : Int32) dX8_init_133 (by decide) ?_
  refine n_newZ 64 arc_boolean (by decide) (by decide) (by decide) rfl rfl (by decide) (by decide) dX8_init_135 (fun q16 => ?_)
  refine n_putF hi 16 rfl rfl inX8 tyX8_ok nmX8 25 (by decide) rfl rfl rfl rfl (Nat.le_of_ble_eq_true rfl) pl_X8_60 dX8_init_137 ?_
  refine n_aload_n 0 dX8_init_140 rfl ?_
  refine n_bipush (6 : Int32) dX8_init_141 (by decide) ?_
  refine n_newI 6 arc_int (by decide) (by decide) (by decide) rfl rfl (by decide) (by decide) dX8_init_143 (fun q17 => ?_)
  refine n_putF hi 17 rfl rfl inX8 tyX8_ok nmX8 27 (by decide) rfl rfl rfl rfl (Nat.le_of_ble_eq_true rfl) pl_X8_64 dX8_init_145 ?_
  refine n_aload_n 0 dX8_init_148 rfl ?_
  refine n_sipush (680 : Int32) dX8_init_149 (by decide) ?_
  refine n_newI 680 arc_int (by decide) (by decide) (by decide) rfl rfl (by decide) (by decide) dX8_init_152 (fun q18 => ?_)
  refine n_putF hi 18 rfl rfl inX8 tyX8_ok nmX8 28 (by decide) rfl rfl rfl rfl (Nat.le_of_ble_eq_true rfl) pl_X8_67 dX8_init_154 ?_
  refine n_aload_n 0 dX8_init_157 rfl ?_
  refine n_sipush (2181 : Int32) dX8_init_158 (by decide) ?_
  refine n_newI 2181 arc_int (by decide) (by decide) (by decide) rfl rfl (by decide) (by decide) dX8_init_161 (fun q19 => ?_)
  refine n_putF hi 19 rfl rfl inX8 tyX8_ok nmX8 29 (by decide) rfl rfl rfl rfl (Nat.le_of_ble_eq_true rfl) pl_X8_70 dX8_init_163 ?_
  refine n_iconst (0 : Int32) dX8_init_166 (by decide) ?_
  refine n_istore_n [(1, .int (0 : Int32)), (0, .ref a)] dX8_init_167 (by decide) rfl ?_
  refine n_iload_n 0 dX8_init_168 rfl ?_
  refine n_bipush (6 : Int32) dX8_init_169 (by decide) ?_
  refine n_geF 188 dX8_init_171 rfl (by decide) ?_
  refine n_aload_n 1 dX8_init_174 rfl ?_
  refine n_get 19 rfl rfl inX8 5 (by decide) (v := .ref q2) rfl fl_X8_17 dX8_init_175 ?_
  refine n_iload_n 0 dX8_init_178 rfl ?_
  refine n_bipush (-9 : Int32) dX8_init_179 (by decide) ?_
  refine n_iast 17 rfl 0 (by decide) (by decide) dX8_init_181 ?_
  refine n_iinc 0 [(1, .int (1 : Int32)), (0, .ref a)] dX8_init_182 rfl (v := (1 : Int32)) (by decide) (by decide) rfl ?_
  refine n_goto 168 dX8_init_185 rfl ?_
  refine n_iload_n 0 dX8_init_168 rfl ?_
  refine n_bipush (6 : Int32) dX8_init_169 (by decide) ?_
  refine n_geF 188 dX8_init_171 rfl (by decide) ?_
  refine n_aload_n 1 dX8_init_174 rfl ?_
  refine n_get 19 rfl rfl inX8 5 (by decide) (v := .ref q2) rfl fl_X8_17 dX8_init_175 ?_
  refine n_iload_n 0 dX8_init_178 rfl ?_
  refine n_bipush (-9 : Int32) dX8_init_179 (by decide) ?_
  refine n_iast 17 rfl 1 (by decide) (by decide) dX8_init_181 ?_
  refine n_iinc 0 [(1, .int (2 : Int32)), (0, .ref a)] dX8_init_182 rfl (v := (2 : Int32)) (by decide) (by decide) rfl ?_
  refine n_goto 168 dX8_init_185 rfl ?_
  refine n_iload_n 0 dX8_init_168 rfl ?_
  refine n_bipush (6 : Int32) dX8_init_169 (by decide) ?_
  refine n_geF 188 dX8_init_171 rfl (by decide) ?_
  refine n_aload_n 1 dX8_init_174 rfl ?_
  refine n_get 19 rfl rfl inX8 5 (by decide) (v := .ref q2) rfl fl_X8_17 dX8_init_175 ?_
  refine n_iload_n 0 dX8_init_178 rfl ?_
  refine n_bipush (-9 : Int32) dX8_init_179 (by decide) ?_
  refine n_iast 17 rfl 2 (by decide) (by decide) dX8_init_181 ?_
  refine n_iinc 0 [(1, .int (3 : Int32)), (0, .ref a)] dX8_init_182 rfl (v := (3 : Int32)) (by decide) (by decide) rfl ?_
  refine n_goto 168 dX8_init_185 rfl ?_
  refine n_iload_n 0 dX8_init_168 rfl ?_
  refine n_bipush (6 : Int32) dX8_init_169 (by decide) ?_
  refine n_geF 188 dX8_init_171 rfl (by decide) ?_
  refine n_aload_n 1 dX8_init_174 rfl ?_
  refine n_get 19 rfl rfl inX8 5 (by decide) (v := .ref q2) rfl fl_X8_17 dX8_init_175 ?_
  refine n_iload_n 0 dX8_init_178 rfl ?_
  refine n_bipush (-9 : Int32) dX8_init_179 (by decide) ?_
  refine n_iast 17 rfl 3 (by decide) (by decide) dX8_init_181 ?_
  refine n_iinc 0 [(1, .int (4 : Int32)), (0, .ref a)] dX8_init_182 rfl (v := (4 : Int32)) (by decide) (by decide) rfl ?_
  refine n_goto 168 dX8_init_185 rfl ?_
  refine n_iload_n 0 dX8_init_168 rfl ?_
  refine n_bipush (6 : Int32) dX8_init_169 (by decide) ?_
  refine n_geF 188 dX8_init_171 rfl (by decide) ?_
  refine n_aload_n 1 dX8_init_174 rfl ?_
  refine n_get 19 rfl rfl inX8 5 (by decide) (v := .ref q2) rfl fl_X8_17 dX8_init_175 ?_
  refine n_iload_n 0 dX8_init_178 rfl ?_
  refine n_bipush (-9 : Int32) dX8_init_179 (by decide) ?_
  refine n_iast 17 rfl 4 (by decide) (by decide) dX8_init_181 ?_
  refine n_iinc 0 [(1, .int (5 : Int32)), (0, .ref a)] dX8_init_182 rfl (v := (5 : Int32)) (by decide) (by decide) rfl ?_
  refine n_goto 168 dX8_init_185 rfl ?_
  refine n_iload_n 0 dX8_init_168 rfl ?_
  refine n_bipush (6 : Int32) dX8_init_169 (by decide) ?_
  refine n_geF 188 dX8_init_171 rfl (by decide) ?_
  refine n_aload_n 1 dX8_init_174 rfl ?_
  refine n_get 19 rfl rfl inX8 5 (by decide) (v := .ref q2) rfl fl_X8_17 dX8_init_175 ?_
  refine n_iload_n 0 dX8_init_178 rfl ?_
  refine n_bipush (-9 : Int32) dX8_init_179 (by decide) ?_
  refine n_iast 17 rfl 5 (by decide) (by decide) dX8_init_181 ?_
  refine n_iinc 0 [(1, .int (6 : Int32)), (0, .ref a)] dX8_init_182 rfl (v := (6 : Int32)) (by decide) (by decide) rfl ?_
  refine n_goto 168 dX8_init_185 rfl ?_
  refine n_iload_n 0 dX8_init_168 rfl ?_
  refine n_bipush (6 : Int32) dX8_init_169 (by decide) ?_
  refine n_geT 188 dX8_init_171 rfl (by decide) ?_
  refine n_iconst (0 : Int32) dX8_init_188 (by decide) ?_
  refine n_istore_n [(1, .int (0 : Int32)), (0, .ref a)] dX8_init_189 (by decide) rfl ?_
  refine n_iload_n 0 dX8_init_190 rfl ?_
  refine n_iconst (4 : Int32) dX8_init_191 (by decide) ?_
  refine n_geF 209 dX8_init_192 rfl (by decide) ?_
  refine n_aload_n 1 dX8_init_195 rfl ?_
  refine n_get 19 rfl rfl inX8 8 (by decide) (v := .ref q5) rfl fl_X8_26 dX8_init_196 ?_
  refine n_iload_n 0 dX8_init_199 rfl ?_
  refine n_bipush (-9 : Int32) dX8_init_200 (by decide) ?_
  refine n_iast 14 rfl 0 (by decide) (by decide) dX8_init_202 ?_
  refine n_iinc 0 [(1, .int (1 : Int32)), (0, .ref a)] dX8_init_203 rfl (v := (1 : Int32)) (by decide) (by decide) rfl ?_
  refine n_goto 190 dX8_init_206 rfl ?_
  refine n_iload_n 0 dX8_init_190 rfl ?_
  refine n_iconst (4 : Int32) dX8_init_191 (by decide) ?_
  refine n_geF 209 dX8_init_192 rfl (by decide) ?_
  refine n_aload_n 1 dX8_init_195 rfl ?_
  refine n_get 19 rfl rfl inX8 8 (by decide) (v := .ref q5) rfl fl_X8_26 dX8_init_196 ?_
  refine n_iload_n 0 dX8_init_199 rfl ?_
  refine n_bipush (-9 : Int32) dX8_init_200 (by decide) ?_
  refine n_iast 14 rfl 1 (by decide) (by decide) dX8_init_202 ?_
  refine n_iinc 0 [(1, .int (2 : Int32)), (0, .ref a)] dX8_init_203 rfl (v := (2 : Int32)) (by decide) (by decide) rfl ?_
  refine n_goto 190 dX8_init_206 rfl ?_
  refine n_iload_n 0 dX8_init_190 rfl ?_
  refine n_iconst (4 : Int32) dX8_init_191 (by decide) ?_
  refine n_geF 209 dX8_init_192 rfl (by decide) ?_
  refine n_aload_n 1 dX8_init_195 rfl ?_
  refine n_get 19 rfl rfl inX8 8 (by decide) (v := .ref q5) rfl fl_X8_26 dX8_init_196 ?_
  refine n_iload_n 0 dX8_init_199 rfl ?_
  refine n_bipush (-9 : Int32) dX8_init_200 (by decide) ?_
  refine n_iast 14 rfl 2 (by decide) (by decide) dX8_init_202 ?_
  refine n_iinc 0 [(1, .int (3 : Int32)), (0, .ref a)] dX8_init_203 rfl (v := (3 : Int32)) (by decide) (by decide) rfl ?_
  refine n_goto 190 dX8_init_206 rfl ?_
  refine n_iload_n 0 dX8_init_190 rfl ?_
  refine n_iconst (4 : Int32) dX8_init_191 (by decide) ?_
  refine n_geF 209 dX8_init_192 rfl (by decide) ?_
  refine n_aload_n 1 dX8_init_195 rfl ?_
  refine n_get 19 rfl rfl inX8 8 (by decide) (v := .ref q5) rfl fl_X8_26 dX8_init_196 ?_
  refine n_iload_n 0 dX8_init_199 rfl ?_
  refine n_bipush (-9 : Int32) dX8_init_200 (by decide) ?_
  refine n_iast 14 rfl 3 (by decide) (by decide) dX8_init_202 ?_
  refine n_iinc 0 [(1, .int (4 : Int32)), (0, .ref a)] dX8_init_203 rfl (v := (4 : Int32)) (by decide) (by decide) rfl ?_
  refine n_goto 190 dX8_init_206 rfl ?_
  refine n_iload_n 0 dX8_init_190 rfl ?_
  refine n_iconst (4 : Int32) dX8_init_191 (by decide) ?_
  refine n_geT 209 dX8_init_192 rfl (by decide) ?_
  refine n_iconst (0 : Int32) dX8_init_209 (by decide) ?_
  refine n_istore_n [(1, .int (0 : Int32)), (0, .ref a)] dX8_init_210 (by decide) rfl ?_
  refine n_iload_n 0 dX8_init_211 rfl ?_
  refine n_iconst (3 : Int32) dX8_init_212 (by decide) ?_
  refine n_geF 234 dX8_init_213 rfl (by decide) ?_
  refine n_aload_n 1 dX8_init_216 rfl ?_
  refine n_get 19 rfl rfl inX8 29 (by decide) (v := .ref q19) rfl fl_X8_70 dX8_init_217 ?_
  refine n_sipush (727 : Int32) dX8_init_220 (by decide) ?_
  refine n_iload_n 0 dX8_init_223 rfl ?_
  refine n_imul dX8_init_224 ?_
  show GN _ _ _ _ _ _ _ _ (.int (0 : Int32) :: _)
  refine n_bipush (-9 : Int32) dX8_init_225 (by decide) ?_
  refine n_iast 0 rfl 0 (by decide) (by decide) dX8_init_227 ?_
  refine n_iinc 0 [(1, .int (1 : Int32)), (0, .ref a)] dX8_init_228 rfl (v := (1 : Int32)) (by decide) (by decide) rfl ?_
  refine n_goto 211 dX8_init_231 rfl ?_
  refine n_iload_n 0 dX8_init_211 rfl ?_
  refine n_iconst (3 : Int32) dX8_init_212 (by decide) ?_
  refine n_geF 234 dX8_init_213 rfl (by decide) ?_
  refine n_aload_n 1 dX8_init_216 rfl ?_
  refine n_get 19 rfl rfl inX8 29 (by decide) (v := .ref q19) rfl fl_X8_70 dX8_init_217 ?_
  refine n_sipush (727 : Int32) dX8_init_220 (by decide) ?_
  refine n_iload_n 0 dX8_init_223 rfl ?_
  refine n_imul dX8_init_224 ?_
  show GN _ _ _ _ _ _ _ _ (.int (727 : Int32) :: _)
  refine n_bipush (-9 : Int32) dX8_init_225 (by decide) ?_
  refine n_iast 0 rfl 727 (by decide) (by decide) dX8_init_227 ?_
  refine n_iinc 0 [(1, .int (2 : Int32)), (0, .ref a)] dX8_init_228 rfl (v := (2 : Int32)) (by decide) (by decide) rfl ?_
  refine n_goto 211 dX8_init_231 rfl ?_
  refine n_iload_n 0 dX8_init_211 rfl ?_
  refine n_iconst (3 : Int32) dX8_init_212 (by decide) ?_
  refine n_geF 234 dX8_init_213 rfl (by decide) ?_
  refine n_aload_n 1 dX8_init_216 rfl ?_
  refine n_get 19 rfl rfl inX8 29 (by decide) (v := .ref q19) rfl fl_X8_70 dX8_init_217 ?_
  refine n_sipush (727 : Int32) dX8_init_220 (by decide) ?_
  refine n_iload_n 0 dX8_init_223 rfl ?_
  refine n_imul dX8_init_224 ?_
  show GN _ _ _ _ _ _ _ _ (.int (1454 : Int32) :: _)
  refine n_bipush (-9 : Int32) dX8_init_225 (by decide) ?_
  refine n_iast 0 rfl 1454 (by decide) (by decide) dX8_init_227 ?_
  refine n_iinc 0 [(1, .int (3 : Int32)), (0, .ref a)] dX8_init_228 rfl (v := (3 : Int32)) (by decide) (by decide) rfl ?_
  refine n_goto 211 dX8_init_231 rfl ?_
  refine n_iload_n 0 dX8_init_211 rfl ?_
  refine n_iconst (3 : Int32) dX8_init_212 (by decide) ?_
  refine n_geT 234 dX8_init_213 rfl (by decide) ?_
  exact n_vret (fun i => [q1, q2, q3, q4, q5, q6, q7, q8, q9, q10, q11, q12, q13, q14, q15, q16, q17, q18, q19].getD i 0) rfl rfl dX8_init_234
