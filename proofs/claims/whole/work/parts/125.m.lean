def X8_lots_L61 (x1 : Int32) (x5 : Int32) (x6 : Int32) (k103 : Mem → Int64 → Option (Mem × Int32)) : Nat → Mem → Int64 → Int32 → Option (Mem × Int32)
  | 0, _, _, _ => none
  | n + 1, σ, x3, x7 => (if (σ.1 816 0 0) ≤ x7 then k103 σ x3 else (if (2147483647 : Int64) = 0 then none else lt_ ((((48271 : Int64) * x3) - ((48271 : Int64) * x3) / (2147483647 : Int64) * (2147483647 : Int64))) fun (v5 : Int64) => if (16 : Int64) = 0 then none else if (6 : Int64) = 0 then none else ck x7 8 <| X8_lots_L61 x1 x5 x6 k103 n ((uI σ 815 0 x7.toNatClampNeg (((v5 / (16 : Int64)) - (v5 / (16 : Int64)) / (6 : Int64) * (6 : Int64)).toInt32))) v5 ((x7 + (1 : Int32)))))
def X8_lots_L32 (x1 : Int32) (k134 : Mem → Int32 → Option (Mem × Int32)) : Nat → Mem → Int64 → Int32 → Int32 → Option (Mem × Int32)
  | 0, _, _, _, _ => none
  | n + 1, σ, x3, x5, x6 => (if x1 ≤ x6 then k134 σ x5 else (if (2147483647 : Int64) = 0 then none else lt_ ((((48271 : Int64) * x3) - ((48271 : Int64) * x3) / (2147483647 : Int64) * (2147483647 : Int64))) fun (v4 : Int64) => if (9 : Int64) = 0 then none else X8_lots_L61 x1 x5 x6 (fun (s8 : Mem) (y3_7 : Int64) => ((X8_onSet s8).bind fun q9 => (X8_setBy q9.1 q9.2).bind fun q10 => (X8_isAsWritten q10.1).bind fun q11 => if q11.2 = 0 then (lt_ ((x5 + (0 : Int32))) fun (v12 : Int32) => X8_lots_L32 x1 k134 n q11.1 y3_7 v12 ((x6 + (1 : Int32)))) else ((lt_ ((x5 + (1 : Int32))) fun (v14 : Int32) => X8_lots_L32 x1 k134 n q11.1 y3_7 v14 ((x6 + (1 : Int32))))))) FU ((uI σ 816 0 0 ((v4 - v4 / (9 : Int64) * (9 : Int64)).toInt32))) v4 (0 : Int32)))
def X8_lots (σ : Mem) (a1 : Int32) (a2 : Int32) : Option (Mem × Int32) := ((X8_in σ a1 (1 : Int32) (20 : Int32)).bind fun q1 => if q1.2 = 0 then (some (q1.1, (-1 : Int32))) else ((X8_in q1.1 a2 (1 : Int32) (2147483646 : Int32)).bind fun q2 => if q2.2 = 0 then (some (q2.1, (-1 : Int32))) else (lt_ (a2.toInt64) fun (v3 : Int64) => X8_lots_L32 a1 (fun (s17 : Mem) (y5_16 : Int32) => (some (s17, y5_16))) FU q2.1 v3 (0 : Int32) (0 : Int32))))
set_option maxRecDepth 100000 in
set_option maxHeartbeats 4000000 in
theorem t_X8_lots_L61 (X : GX) (x1 : Int32) (x5 : Int32) (x6 : Int32) (k103 : Mem → Int64 → Option (Mem × Int32)) (hk103 : ∀ (σ : Mem) (y3 : Int64), GS (KM enI X) X mX8_lots σ 103 [(0, .ref (xad X (98))), (1, .int x1), (3, .long y3), (5, .int x5), (6, .int x6)] [] (k103 σ y3)) : ∀ (n : Nat) (σ : Mem) (x3 : Int64) (x7 : Int32), GS (KM enI X) X mX8_lots σ 61 [(0, .ref (xad X (98))), (1, .int x1), (3, .long x3), (5, .int x5), (6, .int x6), (7, .int x7)] [] (X8_lots_L61 x1 x5 x6 k103 n σ x3 x7) := by
  intro n
  induction n with
  | zero => intros; exact g_none
  | succ n ih =>
    intro σ x3 x7
    rw [X8_lots_L61]
    refine g_iload 5 dX8_lots_61 rfl ?_
    refine g_aload_n 0 dX8_lots_63 rfl ?_
    refine gf_X8_16 fl_X8_151 dX8_lots_64 ?_
    refine g_icmp_ge 103 dX8_lots_67 rfl (fun _ => ?_) (fun _ => ?_)
    · refine g_sub [0, 1, 2, 3, 4] rfl ?_
      exact hk103 σ x3
    · refine g_ldc2 (48271 : Int64) dX8_lots_70 kl_X8_273 ?_
      refine g_lload_n 2 dX8_lots_73 rfl ?_
      refine g_lmul dX8_lots_74 ?_
      refine g_ldc2 (2147483647 : Int64) dX8_lots_75 kl_X8_275 ?_
      refine g_lrem dX8_lots_78 (fun _ => ?_)
      refine g_topl (fun v5 => ?_)
      refine g_lstore_n [(3, .long v5), (0, .ref (xad X (98))), (1, .int x1), (5, .int x5), (6, .int x6), (7, .int x7)] dX8_lots_79 (by decide) rfl ?_
      refine g_aload_n 1 dX8_lots_80 rfl ?_
      refine gf_X8_15 fl_X8_38 dX8_lots_81 ?_
      refine g_iload 5 dX8_lots_84 rfl ?_
      refine g_lload_n 0 dX8_lots_86 rfl ?_
      refine g_ldc2 (16 : Int64) dX8_lots_87 kl_X8_279 ?_
      refine g_ldiv dX8_lots_90 (fun _ => ?_)
      refine g_ldc2 (6 : Int64) dX8_lots_91 kl_X8_281 ?_
      refine g_lrem dX8_lots_94 (fun _ => ?_)
      refine g_l2i dX8_lots_95 ?_
      refine g_iast sh_107 no_107 dX8_lots_96 (fun _ => ?_)
      refine g_iinc 5 [(7, .int ((x7 + (1 : Int32)))), (3, .long v5), (0, .ref (xad X (98))), (1, .int x1), (5, .int x5), (6, .int x6)] dX8_lots_97 rfl (v := x7 + (1 : Int32)) rfl (by decide) rfl ?_
      refine g_goto 61 dX8_lots_100 rfl ?_
      refine g_sub [2, 3, 1, 4, 5, 0] rfl ?_
      exact ih ((uI σ 815 0 x7.toNatClampNeg (((v5 / (16 : Int64)) - (v5 / (16 : Int64)) / (6 : Int64) * (6 : Int64)).toInt32))) v5 ((x7 + (1 : Int32)))

set_option maxRecDepth 100000 in
set_option maxHeartbeats 4000000 in
theorem t_X8_lots_L32 (X : GX) (x1 : Int32) (k134 : Mem → Int32 → Option (Mem × Int32)) (hk134 : ∀ (σ : Mem) (y5 : Int32), GS (KM enI X) X mX8_lots σ 134 [(5, .int y5)] [] (k134 σ y5)) : ∀ (n : Nat) (σ : Mem) (x3 : Int64) (x5 : Int32) (x6 : Int32), GS (KM enI X) X mX8_lots σ 32 [(0, .ref (xad X (98))), (1, .int x1), (3, .long x3), (5, .int x5), (6, .int x6)] [] (X8_lots_L32 x1 k134 n σ x3 x5 x6) := by
  intro n
  induction n with
  | zero => intros; exact g_none
  | succ n ih =>
    intro σ x3 x5 x6
    rw [X8_lots_L32]
    refine g_iload 4 dX8_lots_32 rfl ?_
    refine g_iload_n 1 dX8_lots_34 rfl ?_
    refine g_icmp_ge 134 dX8_lots_35 rfl (fun _ => ?_) (fun _ => ?_)
    · refine g_sub [3] rfl ?_
      exact hk134 σ x5
    · refine g_ldc2 (48271 : Int64) dX8_lots_38 kl_X8_273 ?_
      refine g_lload_n 2 dX8_lots_41 rfl ?_
      refine g_lmul dX8_lots_42 ?_
      refine g_ldc2 (2147483647 : Int64) dX8_lots_43 kl_X8_275 ?_
      refine g_lrem dX8_lots_46 (fun _ => ?_)
      refine g_topl (fun v4 => ?_)
      refine g_lstore_n [(3, .long v4), (0, .ref (xad X (98))), (1, .int x1), (5, .int x5), (6, .int x6)] dX8_lots_47 (by decide) rfl ?_
      refine g_aload_n 1 dX8_lots_48 rfl ?_
      refine g_lload_n 0 dX8_lots_49 rfl ?_
      refine g_ldc2 (9 : Int64) dX8_lots_50 kl_X8_277 ?_
      refine g_lrem dX8_lots_53 (fun _ => ?_)
      refine g_l2i dX8_lots_54 ?_
      refine pf_X8_16 fl_X8_151 dX8_lots_55 ?_
      refine g_iconst (0 : Int32) dX8_lots_58 (by decide) ?_
      refine g_istore [(7, .int ((0 : Int32))), (3, .long v4), (0, .ref (xad X (98))), (1, .int x1), (5, .int x5), (6, .int x6)] dX8_lots_59 (by decide) rfl ?_
      refine g_sub [2, 3, 1, 4, 5, 0] rfl ?_
      refine t_X8_lots_L61 X x1 x5 x6 _ (fun s8 y3_7 => ?_) FU ((uI σ 816 0 0 ((v4 - v4 / (9 : Int64) * (9 : Int64)).toInt32))) v4 (0 : Int32)
      refine g_aload_n 0 dX8_lots_103 rfl ?_
      refine g_aload_n 0 dX8_lots_104 rfl ?_
      refine g_callVI (c_X8_onSet s8) okX8_onSet ⟨by decide, by decide⟩ ml_X8_184 sh_98 no_98 rfl rfl [] rfl rfl rfl (Nat.le_of_ble_eq_true rfl) dX8_lots_105 (fun q9 => ?_)
      refine g_callVV (c_X8_setBy q9.1 q9.2) okX8_setBy ⟨by decide, by decide⟩ ml_X8_188 sh_98 no_98 rfl rfl [.int (q9.2)] rfl rfl rfl (Nat.le_of_ble_eq_true rfl) dX8_lots_108 (fun q10 => ?_)
      refine g_iload 3 dX8_lots_111 rfl ?_
      refine g_aload_n 0 dX8_lots_113 rfl ?_
      refine g_callVI (c_X8_isAsWritten q10.1) okX8_isAsWritten ⟨by decide, by decide⟩ ml_X8_191 sh_98 no_98 rfl rfl [] rfl rfl rfl (Nat.le_of_ble_eq_true rfl) dX8_lots_114 (fun q11 => ?_)
      refine g_if_eq 124 dX8_lots_117 rfl (fun _ => ?_) (fun _ => ?_)
      · refine g_iconst (0 : Int32) dX8_lots_124 (by decide) ?_
        refine g_iadd dX8_lots_125 ?_
        refine g_topi (fun v12 => ?_)
        refine g_istore [(5, .int v12), (0, .ref (xad X (98))), (1, .int x1), (3, .long y3_7), (6, .int x6)] dX8_lots_126 (by decide) rfl ?_
        refine g_iinc 4 [(6, .int ((x6 + (1 : Int32)))), (5, .int v12), (0, .ref (xad X (98))), (1, .int x1), (3, .long y3_7)] dX8_lots_128 rfl (v := x6 + (1 : Int32)) rfl (by decide) rfl ?_
        refine g_goto 32 dX8_lots_131 rfl ?_
        refine g_sub [2, 3, 4, 1, 0] rfl ?_
        exact ih q11.1 y3_7 v12 ((x6 + (1 : Int32)))
      · refine g_iconst (1 : Int32) dX8_lots_120 (by decide) ?_
        refine g_goto 125 dX8_lots_121 rfl ?_
        refine g_iadd dX8_lots_125 ?_
        refine g_topi (fun v14 => ?_)
        refine g_istore [(5, .int v14), (0, .ref (xad X (98))), (1, .int x1), (3, .long y3_7), (6, .int x6)] dX8_lots_126 (by decide) rfl ?_
        refine g_iinc 4 [(6, .int ((x6 + (1 : Int32)))), (5, .int v14), (0, .ref (xad X (98))), (1, .int x1), (3, .long y3_7)] dX8_lots_128 rfl (v := x6 + (1 : Int32)) rfl (by decide) rfl ?_
        refine g_goto 32 dX8_lots_131 rfl ?_
        refine g_sub [2, 3, 4, 1, 0] rfl ?_
        exact ih q11.1 y3_7 v14 ((x6 + (1 : Int32)))

set_option maxRecDepth 100000 in
set_option maxHeartbeats 4000000 in
theorem c_X8_lots (σ : Mem) (a1 : Int32) (a2 : Int32) : CT yX8_lots mX8_lots enI (fun ad => [.ref (ad (98)), .int a1, .int a2]) σ (X8_lots σ a1 a2) := by
  refine CT.of (by decide) rfl (fun _ => Nat.le_of_ble_eq_true rfl) (fun X => ?_)
  show GS (KM enI X) X mX8_lots σ 0 [(0, .ref (xad X (98))), (1, .int a1), (2, .int a2)] [] _
  unfold X8_lots
  refine g_iload_n 1 dX8_lots_0 rfl ?_
  refine g_iconst (1 : Int32) dX8_lots_1 (by decide) ?_
  refine g_bipush (20 : Int32) dX8_lots_2 (by decide) ?_
  refine g_callSI (c_X8_in σ a1 (1 : Int32) (20 : Int32)) okX8_in ⟨by decide, by decide⟩ ml_X8_83 rfl rfl (Nat.le_of_ble_eq_true rfl) dX8_lots_4 (fun q1 => ?_)
  refine g_if_eq 21 dX8_lots_7 rfl (fun _ => ?_) (fun _ => ?_)
  · refine g_iconst (-1 : Int32) dX8_lots_21 (by decide) ?_
    exact g_iret rfl dX8_lots_22
  · refine g_iload_n 2 dX8_lots_10 rfl ?_
    refine g_iconst (1 : Int32) dX8_lots_11 (by decide) ?_
    refine g_ldcw (2147483646 : Int32) dX8_lots_12 kc_X8_272 ?_
    refine g_callSI (c_X8_in q1.1 a2 (1 : Int32) (2147483646 : Int32)) okX8_in ⟨by decide, by decide⟩ ml_X8_83 rfl rfl (Nat.le_of_ble_eq_true rfl) dX8_lots_15 (fun q2 => ?_)
    refine g_if_ne 23 dX8_lots_18 rfl (fun _ => ?_) (fun _ => ?_)
    · refine g_iload_n 2 dX8_lots_23 rfl ?_
      refine g_i2l dX8_lots_24 ?_
      refine g_topl (fun v3 => ?_)
      refine g_lstore_n [(3, .long v3), (0, .ref (xad X (98))), (1, .int a1), (2, .int a2)] dX8_lots_25 (by decide) rfl ?_
      refine g_iconst (0 : Int32) dX8_lots_26 (by decide) ?_
      refine g_istore [(5, .int ((0 : Int32))), (3, .long v3), (0, .ref (xad X (98))), (1, .int a1), (2, .int a2)] dX8_lots_27 (by decide) rfl ?_
      refine g_iconst (0 : Int32) dX8_lots_29 (by decide) ?_
      refine g_istore [(6, .int ((0 : Int32))), (5, .int ((0 : Int32))), (3, .long v3), (0, .ref (xad X (98))), (1, .int a1), (2, .int a2)] dX8_lots_30 (by decide) rfl ?_
      refine g_sub [3, 4, 2, 1, 0] rfl ?_
      refine t_X8_lots_L32 X a1 _ (fun s17 y5_16 => ?_) FU q2.1 v3 (0 : Int32) (0 : Int32)
      refine g_iload 0 dX8_lots_134 rfl ?_
      exact g_iret rfl dX8_lots_136
    · refine g_iconst (-1 : Int32) dX8_lots_21 (by decide) ?_
      exact g_iret rfl dX8_lots_22

def X8_keep_L39 (x2 : Int32) (k67 : Mem → Option (Mem × Int32)) : Nat → Mem → Int32 → Option (Mem × Int32)
  | 0, _, _ => none
  | n + 1, σ, x3 => (if (40 : Int32) ≤ x3 then k67 σ else (ck x3 40 <| ck ((x2 + (1 : Int32)) + x3) 2181 <| X8_keep_L39 x2 k67 n ((uI σ 829 0 ((x2 + (1 : Int32)) + x3).toNatClampNeg (σ.1 811 0 x3.toNatClampNeg))) ((x3 + (1 : Int32)))))
def X8_keep_L69 (x2 : Int32) (k98 : Mem → Option (Mem × Int32)) : Nat → Mem → Int32 → Option (Mem × Int32)
  | 0, _, _ => none
  | n + 1, σ, x3 => (if (6 : Int32) ≤ x3 then k98 σ else (ck x3 6 <| ck ((x2 + (41 : Int32)) + x3) 2181 <| X8_keep_L69 x2 k98 n ((uI σ 829 0 ((x2 + (41 : Int32)) + x3).toNatClampNeg (σ.1 827 0 x3.toNatClampNeg))) ((x3 + (1 : Int32)))))
def X8_keep_L100 (x2 : Int32) (k130 : Mem → Option (Mem × Int32)) : Nat → Mem → Int32 → Option (Mem × Int32)
  | 0, _, _ => none
  | n + 1, σ, x3 => (if (680 : Int32) ≤ x3 then k130 σ else (ck x3 680 <| ck ((x2 + (47 : Int32)) + x3) 2181 <| X8_keep_L100 x2 k130 n ((uI σ 829 0 ((x2 + (47 : Int32)) + x3).toNatClampNeg (σ.1 828 0 x3.toNatClampNeg))) ((x3 + (1 : Int32)))))
def X8_keep (σ : Mem) (a1 : Int32) : Option (Mem × Int32) := ((X8_in σ a1 (0 : Int32) (2 : Int32)).bind fun q1 => if q1.2 = 0 then (some (q1.1, (-1 : Int32))) else (if (q1.1.1 810 0 0) = 0 then (some (q1.1, (-4 : Int32))) else (lt_ (((727 : Int32) * a1)) fun (v2 : Int32) => ck v2 2181 <| X8_keep_L39 v2 (fun (s5 : Mem) => (X8_keep_L69 v2 (fun (s8 : Mem) => (X8_keep_L100 v2 (fun (s11 : Mem) => (some (s11, (s11.1 826 0 0)))) FU s8 (0 : Int32))) FU s5 (0 : Int32))) FU ((uI q1.1 829 0 v2.toNatClampNeg (q1.1.1 826 0 0))) (0 : Int32))))
set_option maxRecDepth 100000 in
set_option maxHeartbeats 4000000 in
theorem t_X8_keep_L39 (X : GX) (x2 : Int32) (k67 : Mem → Option (Mem × Int32)) (hk67 : ∀ (σ : Mem), GS (KM enI X) X mX8_keep σ 67 [(0, .ref (xad X (98))), (2, .int x2)] [] (k67 σ)) : ∀ (n : Nat) (σ : Mem) (x3 : Int32), GS (KM enI X) X mX8_keep σ 39 [(0, .ref (xad X (98))), (2, .int x2), (3, .int x3)] [] (X8_keep_L39 x2 k67 n σ x3) := by
  intro n
  induction n with
  | zero => intros; exact g_none
  | succ n ih =>
    intro σ x3
    rw [X8_keep_L39]
    refine g_iload_n 2 dX8_keep_39 rfl ?_
    refine g_bipush (40 : Int32) dX8_keep_40 (by decide) ?_
    refine g_icmp_ge 67 dX8_keep_42 rfl (fun _ => ?_) (fun _ => ?_)
    · refine g_sub [0, 1] rfl ?_
      exact hk67 σ
    · refine g_aload_n 0 dX8_keep_45 rfl ?_
      refine gf_X8_29 fl_X8_70 dX8_keep_46 ?_
      refine g_iload_n 1 dX8_keep_49 rfl ?_
      refine g_iconst (1 : Int32) dX8_keep_50 (by decide) ?_
      refine g_iadd dX8_keep_51 ?_
      refine g_iload_n 2 dX8_keep_52 rfl ?_
      refine g_iadd dX8_keep_53 ?_
      refine g_aload_n 0 dX8_keep_54 rfl ?_
      refine gf_X8_11 fl_X8_32 dX8_keep_55 ?_
      refine g_iload_n 2 dX8_keep_58 rfl ?_
      refine g_iald sh_105 no_105 dX8_keep_59 (fun _ => ?_)
      refine g_iast sh_117 no_117 dX8_keep_60 (fun _ => ?_)
      refine g_iinc 2 [(3, .int ((x3 + (1 : Int32)))), (0, .ref (xad X (98))), (2, .int x2)] dX8_keep_61 rfl (v := x3 + (1 : Int32)) rfl (by decide) rfl ?_
      refine g_goto 39 dX8_keep_64 rfl ?_
      refine g_sub [1, 2, 0] rfl ?_
      exact ih ((uI σ 829 0 ((x2 + (1 : Int32)) + x3).toNatClampNeg (σ.1 811 0 x3.toNatClampNeg))) ((x3 + (1 : Int32)))

set_option maxRecDepth 100000 in
set_option maxHeartbeats 4000000 in
theorem t_X8_keep_L69 (X : GX) (x2 : Int32) (k98 : Mem → Option (Mem × Int32)) (hk98 : ∀ (σ : Mem), GS (KM enI X) X mX8_keep σ 98 [(0, .ref (xad X (98))), (2, .int x2)] [] (k98 σ)) : ∀ (n : Nat) (σ : Mem) (x3 : Int32), GS (KM enI X) X mX8_keep σ 69 [(0, .ref (xad X (98))), (2, .int x2), (3, .int x3)] [] (X8_keep_L69 x2 k98 n σ x3) := by
  intro n
  induction n with
  | zero => intros; exact g_none
  | succ n ih =>
    intro σ x3
    rw [X8_keep_L69]
    refine g_iload_n 2 dX8_keep_69 rfl ?_
    refine g_bipush (6 : Int32) dX8_keep_70 (by decide) ?_
    refine g_icmp_ge 98 dX8_keep_72 rfl (fun _ => ?_) (fun _ => ?_)
    · refine g_sub [0, 1] rfl ?_
      exact hk98 σ
    · refine g_aload_n 0 dX8_keep_75 rfl ?_
      refine gf_X8_29 fl_X8_70 dX8_keep_76 ?_
      refine g_iload_n 1 dX8_keep_79 rfl ?_
      refine g_bipush (41 : Int32) dX8_keep_80 (by decide) ?_
      refine g_iadd dX8_keep_82 ?_
      refine g_iload_n 2 dX8_keep_83 rfl ?_
      refine g_iadd dX8_keep_84 ?_
      refine g_aload_n 0 dX8_keep_85 rfl ?_
      refine gf_X8_27 fl_X8_64 dX8_keep_86 ?_
      refine g_iload_n 2 dX8_keep_89 rfl ?_
      refine g_iald sh_115 no_115 dX8_keep_90 (fun _ => ?_)
      refine g_iast sh_117 no_117 dX8_keep_91 (fun _ => ?_)
      refine g_iinc 2 [(3, .int ((x3 + (1 : Int32)))), (0, .ref (xad X (98))), (2, .int x2)] dX8_keep_92 rfl (v := x3 + (1 : Int32)) rfl (by decide) rfl ?_
      refine g_goto 69 dX8_keep_95 rfl ?_
      refine g_sub [1, 2, 0] rfl ?_
      exact ih ((uI σ 829 0 ((x2 + (41 : Int32)) + x3).toNatClampNeg (σ.1 827 0 x3.toNatClampNeg))) ((x3 + (1 : Int32)))

set_option maxRecDepth 100000 in
set_option maxHeartbeats 4000000 in
theorem t_X8_keep_L100 (X : GX) (x2 : Int32) (k130 : Mem → Option (Mem × Int32)) (hk130 : ∀ (σ : Mem), GS (KM enI X) X mX8_keep σ 130 [(0, .ref (xad X (98)))] [] (k130 σ)) : ∀ (n : Nat) (σ : Mem) (x3 : Int32), GS (KM enI X) X mX8_keep σ 100 [(0, .ref (xad X (98))), (2, .int x2), (3, .int x3)] [] (X8_keep_L100 x2 k130 n σ x3) := by
  intro n
  induction n with
  | zero => intros; exact g_none
  | succ n ih =>
    intro σ x3
    rw [X8_keep_L100]
    refine g_iload_n 2 dX8_keep_100 rfl ?_
    refine g_sipush (680 : Int32) dX8_keep_101 (by decide) ?_
    refine g_icmp_ge 130 dX8_keep_104 rfl (fun _ => ?_) (fun _ => ?_)
    · refine g_sub [0] rfl ?_
      exact hk130 σ
    · refine g_aload_n 0 dX8_keep_107 rfl ?_
      refine gf_X8_29 fl_X8_70 dX8_keep_108 ?_
      refine g_iload_n 1 dX8_keep_111 rfl ?_
      refine g_bipush (47 : Int32) dX8_keep_112 (by decide) ?_
      refine g_iadd dX8_keep_114 ?_
      refine g_iload_n 2 dX8_keep_115 rfl ?_
      refine g_iadd dX8_keep_116 ?_
      refine g_aload_n 0 dX8_keep_117 rfl ?_
      refine gf_X8_28 fl_X8_67 dX8_keep_118 ?_
      refine g_iload_n 2 dX8_keep_121 rfl ?_
      refine g_iald sh_116 no_116 dX8_keep_122 (fun _ => ?_)
      refine g_iast sh_117 no_117 dX8_keep_123 (fun _ => ?_)
      refine g_iinc 2 [(3, .int ((x3 + (1 : Int32)))), (0, .ref (xad X (98))), (2, .int x2)] dX8_keep_124 rfl (v := x3 + (1 : Int32)) rfl (by decide) rfl ?_
      refine g_goto 100 dX8_keep_127 rfl ?_
      refine g_sub [1, 2, 0] rfl ?_
      exact ih ((uI σ 829 0 ((x2 + (47 : Int32)) + x3).toNatClampNeg (σ.1 828 0 x3.toNatClampNeg))) ((x3 + (1 : Int32)))

set_option maxRecDepth 100000 in
set_option maxHeartbeats 4000000 in
theorem c_X8_keep (σ : Mem) (a1 : Int32) : CT yX8_keep mX8_keep enI (fun ad => [.ref (ad (98)), .int a1]) σ (X8_keep σ a1) := by
  refine CT.of (by decide) rfl (fun _ => Nat.le_of_ble_eq_true rfl) (fun X => ?_)
  show GS (KM enI X) X mX8_keep σ 0 [(0, .ref (xad X (98))), (1, .int a1)] [] _
  unfold X8_keep
  refine g_iload_n 1 dX8_keep_0 rfl ?_
  refine g_iconst (0 : Int32) dX8_keep_1 (by decide) ?_
  refine g_iconst (2 : Int32) dX8_keep_2 (by decide) ?_
  refine g_callSI (c_X8_in σ a1 (0 : Int32) (2 : Int32)) okX8_in ⟨by decide, by decide⟩ ml_X8_83 rfl rfl (Nat.le_of_ble_eq_true rfl) dX8_keep_3 (fun q1 => ?_)
  refine g_if_ne 11 dX8_keep_6 rfl (fun _ => ?_) (fun _ => ?_)
  · refine g_aload_n 0 dX8_keep_11 rfl ?_
    refine gf_X8_10 fl_X8_139 dX8_keep_12 ?_
    refine g_if_ne 21 dX8_keep_15 rfl (fun _ => ?_) (fun _ => ?_)
    · refine g_sipush (727 : Int32) dX8_keep_21 (by decide) ?_
      refine g_iload_n 1 dX8_keep_24 rfl ?_
      refine g_imul dX8_keep_25 ?_
      refine g_topi (fun v2 => ?_)
      refine g_istore_n [(2, .int v2), (0, .ref (xad X (98))), (1, .int a1)] dX8_keep_26 (by decide) rfl ?_
      refine g_aload_n 1 dX8_keep_27 rfl ?_
      refine gf_X8_29 fl_X8_70 dX8_keep_28 ?_
      refine g_iload_n 0 dX8_keep_31 rfl ?_
      refine g_aload_n 1 dX8_keep_32 rfl ?_
      refine gf_X8_26 fl_X8_142 dX8_keep_33 ?_
      refine g_iast sh_117 no_117 dX8_keep_36 (fun _ => ?_)
      refine g_iconst (0 : Int32) dX8_keep_37 (by decide) ?_
      refine g_istore_n [(3, .int ((0 : Int32))), (2, .int v2), (0, .ref (xad X (98))), (1, .int a1)] dX8_keep_38 (by decide) rfl ?_
      refine g_sub [2, 1, 0] rfl ?_
      refine t_X8_keep_L39 X v2 _ (fun s5 => ?_) FU ((uI q1.1 829 0 v2.toNatClampNeg (q1.1.1 826 0 0))) (0 : Int32)
      refine g_iconst (0 : Int32) dX8_keep_67 (by decide) ?_
      refine g_istore_n [(3, .int ((0 : Int32))), (0, .ref (xad X (98))), (2, .int v2)] dX8_keep_68 (by decide) rfl ?_
      refine g_sub [1, 2, 0] rfl ?_
      refine t_X8_keep_L69 X v2 _ (fun s8 => ?_) FU s5 (0 : Int32)
      refine g_iconst (0 : Int32) dX8_keep_98 (by decide) ?_
      refine g_istore_n [(3, .int ((0 : Int32))), (0, .ref (xad X (98))), (2, .int v2)] dX8_keep_99 (by decide) rfl ?_
      refine g_sub [1, 2, 0] rfl ?_
      refine t_X8_keep_L100 X v2 _ (fun s11 => ?_) FU s8 (0 : Int32)
      refine g_aload_n 0 dX8_keep_130 rfl ?_
      refine gf_X8_26 fl_X8_142 dX8_keep_131 ?_
      exact g_iret rfl dX8_keep_134
    · refine g_bipush (-4 : Int32) dX8_keep_18 (by decide) ?_
      exact g_iret rfl dX8_keep_20
  · refine g_iconst (-1 : Int32) dX8_keep_9 (by decide) ?_
    exact g_iret rfl dX8_keep_10

def X8_on_L46 (x2 : Int32) (k74 : Mem → Option (Mem × Int32)) : Nat → Mem → Int32 → Option (Mem × Int32)
  | 0, _, _ => none
  | n + 1, σ, x3 => (if (40 : Int32) ≤ x3 then k74 σ else (ck ((x2 + (1 : Int32)) + x3) 2181 <| ck x3 40 <| X8_on_L46 x2 k74 n ((uI σ 811 0 x3.toNatClampNeg (σ.1 829 0 ((x2 + (1 : Int32)) + x3).toNatClampNeg))) ((x3 + (1 : Int32)))))
def X8_on_L76 (x2 : Int32) (k105 : Mem → Option (Mem × Int32)) : Nat → Mem → Int32 → Option (Mem × Int32)
  | 0, _, _ => none
  | n + 1, σ, x3 => (if (6 : Int32) ≤ x3 then k105 σ else (ck ((x2 + (41 : Int32)) + x3) 2181 <| ck x3 6 <| X8_on_L76 x2 k105 n ((uI σ 827 0 x3.toNatClampNeg (σ.1 829 0 ((x2 + (41 : Int32)) + x3).toNatClampNeg))) ((x3 + (1 : Int32)))))
def X8_on_L107 (x2 : Int32) (k137 : Mem → Option (Mem × Int32)) : Nat → Mem → Int32 → Option (Mem × Int32)
  | 0, _, _ => none
  | n + 1, σ, x3 => (if (680 : Int32) ≤ x3 then k137 σ else (ck ((x2 + (47 : Int32)) + x3) 2181 <| ck x3 680 <| X8_on_L107 x2 k137 n ((uI σ 828 0 x3.toNatClampNeg (σ.1 829 0 ((x2 + (47 : Int32)) + x3).toNatClampNeg))) ((x3 + (1 : Int32)))))
def X8_on (σ : Mem) (a1 : Int32) : Option (Mem × Int32) := ((X8_in σ a1 (0 : Int32) (2 : Int32)).bind fun q1 => if q1.2 = 0 then (some (q1.1, (-1 : Int32))) else (lt_ (((727 : Int32) * a1)) fun (v2 : Int32) => ck v2 2181 <| if (q1.1.1 829 0 v2.toNatClampNeg) = (-9 : Int32) then ((X8_meet q1.1 (1 : Int32)).bind fun q12 => some (q12.1, q12.2)) else (ck v2 2181 <| X8_on_L46 v2 (fun (s5 : Mem) => (X8_on_L76 v2 (fun (s8 : Mem) => (X8_on_L107 v2 (fun (s11 : Mem) => (some (s11, (s11.1 826 0 0)))) FU s8 (0 : Int32))) FU s5 (0 : Int32))) FU ((uI q1.1 826 0 0 ((q1.1.1 829 0 v2.toNatClampNeg)))) (0 : Int32))))
set_option maxRecDepth 100000 in
set_option maxHeartbeats 4000000 in
theorem t_X8_on_L46 (X : GX) (x2 : Int32) (k74 : Mem → Option (Mem × Int32)) (hk74 : ∀ (σ : Mem), GS (KM enI X) X mX8_on σ 74 [(0, .ref (xad X (98))), (2, .int x2)] [] (k74 σ)) : ∀ (n : Nat) (σ : Mem) (x3 : Int32), GS (KM enI X) X mX8_on σ 46 [(0, .ref (xad X (98))), (2, .int x2), (3, .int x3)] [] (X8_on_L46 x2 k74 n σ x3) := by
  intro n
  induction n with
  | zero => intros; exact g_none
  | succ n ih =>
    intro σ x3
    rw [X8_on_L46]
    refine g_iload_n 2 dX8_on_46 rfl ?_
    refine g_bipush (40 : Int32) dX8_on_47 (by decide) ?_
    refine g_icmp_ge 74 dX8_on_49 rfl (fun _ => ?_) (fun _ => ?_)
    · refine g_sub [0, 1] rfl ?_
      exact hk74 σ
    · refine g_aload_n 0 dX8_on_52 rfl ?_
      refine gf_X8_11 fl_X8_32 dX8_on_53 ?_
      refine g_iload_n 2 dX8_on_56 rfl ?_
      refine g_aload_n 0 dX8_on_57 rfl ?_
      refine gf_X8_29 fl_X8_70 dX8_on_58 ?_
      refine g_iload_n 1 dX8_on_61 rfl ?_
      refine g_iconst (1 : Int32) dX8_on_62 (by decide) ?_
      refine g_iadd dX8_on_63 ?_
      refine g_iload_n 2 dX8_on_64 rfl ?_
      refine g_iadd dX8_on_65 ?_
      refine g_iald sh_117 no_117 dX8_on_66 (fun _ => ?_)
      refine g_iast sh_105 no_105 dX8_on_67 (fun _ => ?_)
      refine g_iinc 2 [(3, .int ((x3 + (1 : Int32)))), (0, .ref (xad X (98))), (2, .int x2)] dX8_on_68 rfl (v := x3 + (1 : Int32)) rfl (by decide) rfl ?_
      refine g_goto 46 dX8_on_71 rfl ?_
      refine g_sub [1, 2, 0] rfl ?_
      exact ih ((uI σ 811 0 x3.toNatClampNeg (σ.1 829 0 ((x2 + (1 : Int32)) + x3).toNatClampNeg))) ((x3 + (1 : Int32)))

set_option maxRecDepth 100000 in
set_option maxHeartbeats 4000000 in
theorem t_X8_on_L76 (X : GX) (x2 : Int32) (k105 : Mem → Option (Mem × Int32)) (hk105 : ∀ (σ : Mem), GS (KM enI X) X mX8_on σ 105 [(0, .ref (xad X (98))), (2, .int x2)] [] (k105 σ)) : ∀ (n : Nat) (σ : Mem) (x3 : Int32), GS (KM enI X) X mX8_on σ 76 [(0, .ref (xad X (98))), (2, .int x2), (3, .int x3)] [] (X8_on_L76 x2 k105 n σ x3) := by
  intro n
  induction n with
  | zero => intros; exact g_none
  | succ n ih =>
    intro σ x3
    rw [X8_on_L76]
    refine g_iload_n 2 dX8_on_76 rfl ?_
    refine g_bipush (6 : Int32) dX8_on_77 (by decide) ?_
    refine g_icmp_ge 105 dX8_on_79 rfl (fun _ => ?_) (fun _ => ?_)
    · refine g_sub [0, 1] rfl ?_
      exact hk105 σ
    · refine g_aload_n 0 dX8_on_82 rfl ?_
      refine gf_X8_27 fl_X8_64 dX8_on_83 ?_
      refine g_iload_n 2 dX8_on_86 rfl ?_
      refine g_aload_n 0 dX8_on_87 rfl ?_
      refine gf_X8_29 fl_X8_70 dX8_on_88 ?_
      refine g_iload_n 1 dX8_on_91 rfl ?_
      refine g_bipush (41 : Int32) dX8_on_92 (by decide) ?_
      refine g_iadd dX8_on_94 ?_
      refine g_iload_n 2 dX8_on_95 rfl ?_
      refine g_iadd dX8_on_96 ?_
      refine g_iald sh_117 no_117 dX8_on_97 (fun _ => ?_)
      refine g_iast sh_115 no_115 dX8_on_98 (fun _ => ?_)
      refine g_iinc 2 [(3, .int ((x3 + (1 : Int32)))), (0, .ref (xad X (98))), (2, .int x2)] dX8_on_99 rfl (v := x3 + (1 : Int32)) rfl (by decide) rfl ?_
      refine g_goto 76 dX8_on_102 rfl ?_
      refine g_sub [1, 2, 0] rfl ?_
      exact ih ((uI σ 827 0 x3.toNatClampNeg (σ.1 829 0 ((x2 + (41 : Int32)) + x3).toNatClampNeg))) ((x3 + (1 : Int32)))

set_option maxRecDepth 100000 in
set_option maxHeartbeats 4000000 in
theorem t_X8_on_L107 (X : GX) (x2 : Int32) (k137 : Mem → Option (Mem × Int32)) (hk137 : ∀ (σ : Mem), GS (KM enI X) X mX8_on σ 137 [(0, .ref (xad X (98)))] [] (k137 σ)) : ∀ (n : Nat) (σ : Mem) (x3 : Int32), GS (KM enI X) X mX8_on σ 107 [(0, .ref (xad X (98))), (2, .int x2), (3, .int x3)] [] (X8_on_L107 x2 k137 n σ x3) := by
  intro n
  induction n with
  | zero => intros; exact g_none
  | succ n ih =>
    intro σ x3
    rw [X8_on_L107]
    refine g_iload_n 2 dX8_on_107 rfl ?_
    refine g_sipush (680 : Int32) dX8_on_108 (by decide) ?_
    refine g_icmp_ge 137 dX8_on_111 rfl (fun _ => ?_) (fun _ => ?_)
    · refine g_sub [0] rfl ?_
      exact hk137 σ
    · refine g_aload_n 0 dX8_on_114 rfl ?_
      refine gf_X8_28 fl_X8_67 dX8_on_115 ?_
      refine g_iload_n 2 dX8_on_118 rfl ?_
      refine g_aload_n 0 dX8_on_119 rfl ?_
      refine gf_X8_29 fl_X8_70 dX8_on_120 ?_
      refine g_iload_n 1 dX8_on_123 rfl ?_
      refine g_bipush (47 : Int32) dX8_on_124 (by decide) ?_
      refine g_iadd dX8_on_126 ?_
      refine g_iload_n 2 dX8_on_127 rfl ?_
      refine g_iadd dX8_on_128 ?_
      refine g_iald sh_117 no_117 dX8_on_129 (fun _ => ?_)
      refine g_iast sh_116 no_116 dX8_on_130 (fun _ => ?_)
      refine g_iinc 2 [(3, .int ((x3 + (1 : Int32)))), (0, .ref (xad X (98))), (2, .int x2)] dX8_on_131 rfl (v := x3 + (1 : Int32)) rfl (by decide) rfl ?_
      refine g_goto 107 dX8_on_134 rfl ?_
      refine g_sub [1, 2, 0] rfl ?_
      exact ih ((uI σ 828 0 x3.toNatClampNeg (σ.1 829 0 ((x2 + (47 : Int32)) + x3).toNatClampNeg))) ((x3 + (1 : Int32)))

set_option maxRecDepth 100000 in
set_option maxHeartbeats 4000000 in
theorem c_X8_on (σ : Mem) (a1 : Int32) : CT yX8_on mX8_on enI (fun ad => [.ref (ad (98)), .int a1]) σ (X8_on σ a1) := by
  refine CT.of (by decide) rfl (fun _ => Nat.le_of_ble_eq_true rfl) (fun X => ?_)
  show GS (KM enI X) X mX8_on σ 0 [(0, .ref (xad X (98))), (1, .int a1)] [] _
  unfold X8_on
  refine g_iload_n 1 dX8_on_0 rfl ?_
  refine g_iconst (0 : Int32) dX8_on_1 (by decide) ?_
  refine g_iconst (2 : Int32) dX8_on_2 (by decide) ?_
  refine g_callSI (c_X8_in σ a1 (0 : Int32) (2 : Int32)) okX8_in ⟨by decide, by decide⟩ ml_X8_83 rfl rfl (Nat.le_of_ble_eq_true rfl) dX8_on_3 (fun q1 => ?_)
  refine g_if_ne 11 dX8_on_6 rfl (fun _ => ?_) (fun _ => ?_)
  · refine g_sipush (727 : Int32) dX8_on_11 (by decide) ?_
    refine g_iload_n 1 dX8_on_14 rfl ?_
    refine g_imul dX8_on_15 ?_
    refine g_topi (fun v2 => ?_)
    refine g_istore_n [(2, .int v2), (0, .ref (xad X (98))), (1, .int a1)] dX8_on_16 (by decide) rfl ?_
    refine g_aload_n 1 dX8_on_17 rfl ?_
    refine gf_X8_29 fl_X8_70 dX8_on_18 ?_
    refine g_iload_n 0 dX8_on_21 rfl ?_
    refine g_iald sh_117 no_117 dX8_on_22 (fun _ => ?_)
    refine g_bipush (-9 : Int32) dX8_on_23 (by decide) ?_
    refine g_icmp_ne 34 dX8_on_25 rfl (fun _ => ?_) (fun _ => ?_)
    · refine g_aload_n 1 dX8_on_34 rfl ?_
      refine g_aload_n 1 dX8_on_35 rfl ?_
      refine gf_X8_29 fl_X8_70 dX8_on_36 ?_
      refine g_iload_n 0 dX8_on_39 rfl ?_
      refine g_iald sh_117 no_117 dX8_on_40 (fun _ => ?_)
      refine pf_X8_26 fl_X8_142 dX8_on_41 ?_
      refine g_iconst (0 : Int32) dX8_on_44 (by decide) ?_
      refine g_istore_n [(3, .int ((0 : Int32))), (2, .int v2), (0, .ref (xad X (98))), (1, .int a1)] dX8_on_45 (by decide) rfl ?_
      refine g_sub [2, 1, 0] rfl ?_
      refine t_X8_on_L46 X v2 _ (fun s5 => ?_) FU ((uI q1.1 826 0 0 ((q1.1.1 829 0 v2.toNatClampNeg)))) (0 : Int32)
      refine g_iconst (0 : Int32) dX8_on_74 (by decide) ?_
      refine g_istore_n [(3, .int ((0 : Int32))), (0, .ref (xad X (98))), (2, .int v2)] dX8_on_75 (by decide) rfl ?_
      refine g_sub [1, 2, 0] rfl ?_
      refine t_X8_on_L76 X v2 _ (fun s8 => ?_) FU s5 (0 : Int32)
      refine g_iconst (0 : Int32) dX8_on_105 (by decide) ?_
      refine g_istore_n [(3, .int ((0 : Int32))), (0, .ref (xad X (98))), (2, .int v2)] dX8_on_106 (by decide) rfl ?_
      refine g_sub [1, 2, 0] rfl ?_
      refine t_X8_on_L107 X v2 _ (fun s11 => ?_) FU s8 (0 : Int32)
      refine g_aload_n 0 dX8_on_137 rfl ?_
      refine gf_X8_26 fl_X8_142 dX8_on_138 ?_
      exact g_iret rfl dX8_on_141
    · refine g_aload_n 1 dX8_on_28 rfl ?_
      refine g_iconst (1 : Int32) dX8_on_29 (by decide) ?_
      refine g_callVI (c_X8_meet q1.1 (1 : Int32)) okX8_meet ⟨by decide, by decide⟩ ml_X8_91 sh_98 no_98 rfl rfl [.int ((1 : Int32))] rfl rfl rfl (Nat.le_of_ble_eq_true rfl) dX8_on_30 (fun q12 => ?_)
      exact g_iret rfl dX8_on_33
  · refine g_iconst (-1 : Int32) dX8_on_9 (by decide) ?_
    exact g_iret rfl dX8_on_10

def X8_asked (σ : Mem) : Option (Mem × Int32) := (some (σ, (σ.1 802 0 0)))
set_option maxRecDepth 100000 in
set_option maxHeartbeats 4000000 in
theorem c_X8_asked (σ : Mem) : CT yX8_asked mX8_asked enI (fun ad => [.ref (ad (98))]) σ (X8_asked σ) := by
  refine CT.of (by decide) rfl (fun _ => Nat.le_of_ble_eq_true rfl) (fun X => ?_)
  show GS (KM enI X) X mX8_asked σ 0 [(0, .ref (xad X (98)))] [] _
  unfold X8_asked
  refine g_aload_n 0 dX8_asked_0 rfl ?_
  refine gf_X8_2 fl_X8_77 dX8_asked_1 ?_
  exact g_iret rfl dX8_asked_4

def X8_upper (σ : Mem) : Option (Mem × Int64) := (some (σ, (σ.2.1 803 0 0)))
set_option maxRecDepth 100000 in
set_option maxHeartbeats 4000000 in
theorem c_X8_upper (σ : Mem) : CT yX8_upper mX8_upper enJ (fun ad => [.ref (ad (98))]) σ (X8_upper σ) := by
  refine CT.of (by decide) rfl (fun _ => Nat.le_of_ble_eq_true rfl) (fun X => ?_)
  show GS (KM enJ X) X mX8_upper σ 0 [(0, .ref (xad X (98)))] [] _
  unfold X8_upper
  refine g_aload_n 0 dX8_upper_0 rfl ?_
  refine gf_X8_3 fl_X8_80 dX8_upper_1 ?_
  exact g_lret rfl dX8_upper_4

def X8_lower (σ : Mem) : Option (Mem × Int64) := (some (σ, (σ.2.1 804 0 0)))
set_option maxRecDepth 100000 in
set_option maxHeartbeats 4000000 in
theorem c_X8_lower (σ : Mem) : CT yX8_lower mX8_lower enJ (fun ad => [.ref (ad (98))]) σ (X8_lower σ) := by
  refine CT.of (by decide) rfl (fun _ => Nat.le_of_ble_eq_true rfl) (fun X => ?_)
  show GS (KM enJ X) X mX8_lower σ 0 [(0, .ref (xad X (98)))] [] _
  unfold X8_lower
  refine g_aload_n 0 dX8_lower_0 rfl ?_
  refine gf_X8_4 fl_X8_13 dX8_lower_1 ?_
  exact g_lret rfl dX8_lower_4

