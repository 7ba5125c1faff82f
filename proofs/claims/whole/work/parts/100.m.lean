def X6_pieceOf (σ : Mem) (a0 : Int32) (a1 : Int32) : Option (Mem × Int32) := (lt_ (((a0 * (7 : Int32)) + a1)) fun (v1 : Int32) => if v1 < 0 then (some (σ, (0 : Int32))) else (if (42 : Int32) ≤ v1 then (some (σ, (0 : Int32))) else ((some (σ, v1)))))
set_option maxRecDepth 100000 in
set_option maxHeartbeats 4000000 in
theorem c_X6_pieceOf (σ : Mem) (a0 : Int32) (a1 : Int32) : CT yX6_pieceOf mX6_pieceOf enI (fun ad => [.int a0, .int a1]) σ (X6_pieceOf σ a0 a1) := by
  refine CT.of (by decide) rfl (fun _ => Nat.le_of_ble_eq_true rfl) (fun X => ?_)
  show GS (KM enI X) X mX6_pieceOf σ 0 [(0, .int a0), (1, .int a1)] [] _
  unfold X6_pieceOf
  refine g_iload_n 0 dX6_pieceOf_0 rfl ?_
  refine g_bipush (7 : Int32) dX6_pieceOf_1 (by decide) ?_
  refine g_imul dX6_pieceOf_3 ?_
  refine g_iload_n 1 dX6_pieceOf_4 rfl ?_
  refine g_iadd dX6_pieceOf_5 ?_
  refine g_topi (fun v1 => ?_)
  refine g_istore_n [(2, .int v1), (0, .int a0), (1, .int a1)] dX6_pieceOf_6 (by decide) rfl ?_
  refine g_iload_n 0 dX6_pieceOf_7 rfl ?_
  refine g_if_lt 21 dX6_pieceOf_8 rfl (fun _ => ?_) (fun _ => ?_)
  · refine g_iconst (0 : Int32) dX6_pieceOf_21 (by decide) ?_
    exact g_iret rfl dX6_pieceOf_22
  · refine g_iload_n 0 dX6_pieceOf_11 rfl ?_
    refine g_bipush (42 : Int32) dX6_pieceOf_12 (by decide) ?_
    refine g_icmp_ge 21 dX6_pieceOf_14 rfl (fun _ => ?_) (fun _ => ?_)
    · refine g_iconst (0 : Int32) dX6_pieceOf_21 (by decide) ?_
      exact g_iret rfl dX6_pieceOf_22
    · refine g_iload_n 0 dX6_pieceOf_17 rfl ?_
      refine g_goto 22 dX6_pieceOf_18 rfl ?_
      exact g_iret rfl dX6_pieceOf_22

def X6_outOfNumbered_L15 (x2 : Int32) (k81 : Mem → Int64 → Option (Mem × Int64)) : Nat → Mem → Int64 → Int32 → Int32 → Int32 → Int32 → Option (Mem × Int64)
  | 0, _, _, _, _, _, _ => none
  | n + 1, σ, x3, x5, x6, x7, x8 => (if x2 ≤ x8 then k81 σ x3 else (if (6 : Int32) = 0 then none else lt_ ((x7 - x7 / (6 : Int32) * (6 : Int32))) fun (v1 : Int32) => (X6_pieceOf σ v1 x6).bind fun q2 => ck q2.2 42 <| lt_ ((x3 ||| ((q2.1.2.1 600 0 q2.2.toNatClampNeg) <<< (x5.toInt64 &&& 63)))) fun (v3 : Int64) => ck q2.2 42 <| lt_ ((x5 + ((3 : Int32) * (q2.1.1 601 0 q2.2.toNatClampNeg)))) fun (v4 : Int32) => if (6 : Int32) = 0 then none else lt_ ((x7 / (6 : Int32))) fun (v5 : Int32) => X6_outOfNumbered_L15 x2 k81 n q2.1 v3 v4 v1 v5 ((x8 + (1 : Int32)))))
def X6_outOfNumbered (σ : Mem) (a1 : Int32) (a2 : Int32) : Option (Mem × Int64) := (X6_outOfNumbered_L15 a2 (fun (s8 : Mem) (y3_7 : Int64) => (some (s8, y3_7))) FU σ (0 : Int64) (0 : Int32) (6 : Int32) a1 (0 : Int32))
set_option maxRecDepth 100000 in
set_option maxHeartbeats 4000000 in
theorem t_X6_outOfNumbered_L15 (X : GX) (x2 : Int32) (k81 : Mem → Int64 → Option (Mem × Int64)) (hk81 : ∀ (σ : Mem) (y3 : Int64), GS (KM enJ X) X mX6_outOfNumbered σ 81 [(3, .long y3)] [] (k81 σ y3)) : ∀ (n : Nat) (σ : Mem) (x3 : Int64) (x5 : Int32) (x6 : Int32) (x7 : Int32) (x8 : Int32), GS (KM enJ X) X mX6_outOfNumbered σ 15 [(0, .ref (xad X (85))), (2, .int x2), (3, .long x3), (5, .int x5), (6, .int x6), (7, .int x7), (8, .int x8)] [] (X6_outOfNumbered_L15 x2 k81 n σ x3 x5 x6 x7 x8) := by
  intro n
  induction n with
  | zero => intros; exact g_none
  | succ n ih =>
    intro σ x3 x5 x6 x7 x8
    rw [X6_outOfNumbered_L15]
    refine g_iload 6 dX6_outOfNumbered_15 rfl ?_
    refine g_iload_n 1 dX6_outOfNumbered_17 rfl ?_
    refine g_icmp_ge 81 dX6_outOfNumbered_18 rfl (fun _ => ?_) (fun _ => ?_)
    · refine g_sub [2] rfl ?_
      exact hk81 σ x3
    · refine g_iload 5 dX6_outOfNumbered_21 rfl ?_
      refine g_bipush (6 : Int32) dX6_outOfNumbered_23 (by decide) ?_
      refine g_irem dX6_outOfNumbered_25 (fun _ => ?_)
      refine g_topi (fun v1 => ?_)
      refine g_istore [(9, .int v1), (0, .ref (xad X (85))), (2, .int x2), (3, .long x3), (5, .int x5), (6, .int x6), (7, .int x7), (8, .int x8)] dX6_outOfNumbered_26 (by decide) rfl ?_
      refine g_iload 0 dX6_outOfNumbered_28 rfl ?_
      refine g_iload 5 dX6_outOfNumbered_30 rfl ?_
      refine g_callSI (c_X6_pieceOf σ v1 x6) okX6_pieceOf ⟨by decide, by decide⟩ ml_X6_39 rfl rfl (Nat.le_of_ble_eq_true rfl) dX6_outOfNumbered_32 (fun q2 => ?_)
      refine g_istore [(10, .int (q2.2)), (9, .int v1), (0, .ref (xad X (85))), (2, .int x2), (3, .long x3), (5, .int x5), (6, .int x6), (7, .int x7), (8, .int x8)] dX6_outOfNumbered_35 (by decide) rfl ?_
      refine g_lload_n 4 dX6_outOfNumbered_37 rfl ?_
      refine g_aload_n 2 dX6_outOfNumbered_38 rfl ?_
      refine gf_X6_0 fl_X6_9 dX6_outOfNumbered_39 ?_
      refine g_iload 0 dX6_outOfNumbered_42 rfl ?_
      refine g_lald sh_86 no_86 dX6_outOfNumbered_44 (fun _ => ?_)
      refine g_iload 5 dX6_outOfNumbered_45 rfl ?_
      refine g_lshl dX6_outOfNumbered_47 ?_
      refine g_lor dX6_outOfNumbered_48 ?_
      refine g_topl (fun v3 => ?_)
      refine g_lstore_n [(3, .long v3), (10, .int (q2.2)), (9, .int v1), (0, .ref (xad X (85))), (2, .int x2), (5, .int x5), (6, .int x6), (7, .int x7), (8, .int x8)] dX6_outOfNumbered_49 (by decide) rfl ?_
      refine g_iload 5 dX6_outOfNumbered_50 rfl ?_
      refine g_iconst (3 : Int32) dX6_outOfNumbered_52 (by decide) ?_
      refine g_aload_n 3 dX6_outOfNumbered_53 rfl ?_
      refine gf_X6_1 fl_X6_15 dX6_outOfNumbered_54 ?_
      refine g_iload 1 dX6_outOfNumbered_57 rfl ?_
      refine g_iald sh_87 no_87 dX6_outOfNumbered_59 (fun _ => ?_)
      refine g_imul dX6_outOfNumbered_60 ?_
      refine g_iadd dX6_outOfNumbered_61 ?_
      refine g_topi (fun v4 => ?_)
      refine g_istore [(5, .int v4), (3, .long v3), (10, .int (q2.2)), (9, .int v1), (0, .ref (xad X (85))), (2, .int x2), (6, .int x6), (7, .int x7), (8, .int x8)] dX6_outOfNumbered_62 (by decide) rfl ?_
      refine g_iload 3 dX6_outOfNumbered_64 rfl ?_
      refine g_istore [(6, .int v1), (5, .int v4), (3, .long v3), (10, .int (q2.2)), (9, .int v1), (0, .ref (xad X (85))), (2, .int x2), (7, .int x7), (8, .int x8)] dX6_outOfNumbered_66 (by decide) rfl ?_
      refine g_iload 7 dX6_outOfNumbered_68 rfl ?_
      refine g_bipush (6 : Int32) dX6_outOfNumbered_70 (by decide) ?_
      refine g_idiv dX6_outOfNumbered_72 (fun _ => ?_)
      refine g_topi (fun v5 => ?_)
      refine g_istore [(7, .int v5), (6, .int v1), (5, .int v4), (3, .long v3), (10, .int (q2.2)), (9, .int v1), (0, .ref (xad X (85))), (2, .int x2), (8, .int x8)] dX6_outOfNumbered_73 (by decide) rfl ?_
      refine g_iinc 8 [(8, .int ((x8 + (1 : Int32)))), (7, .int v5), (6, .int v1), (5, .int v4), (3, .long v3), (10, .int (q2.2)), (9, .int v1), (0, .ref (xad X (85))), (2, .int x2)] dX6_outOfNumbered_75 rfl (v := x8 + (1 : Int32)) rfl (by decide) rfl ?_
      refine g_goto 15 dX6_outOfNumbered_78 rfl ?_
      refine g_sub [7, 8, 4, 3, 2, 1, 0] rfl ?_
      exact ih q2.1 v3 v4 v1 v5 ((x8 + (1 : Int32)))

set_option maxRecDepth 100000 in
set_option maxHeartbeats 4000000 in
theorem c_X6_outOfNumbered (σ : Mem) (a1 : Int32) (a2 : Int32) : CT yX6_outOfNumbered mX6_outOfNumbered enJ (fun ad => [.ref (ad (85)), .int a1, .int a2]) σ (X6_outOfNumbered σ a1 a2) := by
  refine CT.of (by decide) rfl (fun _ => Nat.le_of_ble_eq_true rfl) (fun X => ?_)
  show GS (KM enJ X) X mX6_outOfNumbered σ 0 [(0, .ref (xad X (85))), (1, .int a1), (2, .int a2)] [] _
  unfold X6_outOfNumbered
  refine g_lconst (0 : Int64) dX6_outOfNumbered_0 (by decide) ?_
  refine g_lstore_n [(3, .long ((0 : Int64))), (0, .ref (xad X (85))), (1, .int a1), (2, .int a2)] dX6_outOfNumbered_1 (by decide) rfl ?_
  refine g_iconst (0 : Int32) dX6_outOfNumbered_2 (by decide) ?_
  refine g_istore [(5, .int ((0 : Int32))), (3, .long ((0 : Int64))), (0, .ref (xad X (85))), (1, .int a1), (2, .int a2)] dX6_outOfNumbered_3 (by decide) rfl ?_
  refine g_bipush (6 : Int32) dX6_outOfNumbered_5 (by decide) ?_
  refine g_istore [(6, .int ((6 : Int32))), (5, .int ((0 : Int32))), (3, .long ((0 : Int64))), (0, .ref (xad X (85))), (1, .int a1), (2, .int a2)] dX6_outOfNumbered_7 (by decide) rfl ?_
  refine g_iload_n 4 dX6_outOfNumbered_9 rfl ?_
  refine g_istore [(7, .int a1), (6, .int ((6 : Int32))), (5, .int ((0 : Int32))), (3, .long ((0 : Int64))), (0, .ref (xad X (85))), (1, .int a1), (2, .int a2)] dX6_outOfNumbered_10 (by decide) rfl ?_
  refine g_iconst (0 : Int32) dX6_outOfNumbered_12 (by decide) ?_
  refine g_istore [(8, .int ((0 : Int32))), (7, .int a1), (6, .int ((6 : Int32))), (5, .int ((0 : Int32))), (3, .long ((0 : Int64))), (0, .ref (xad X (85))), (1, .int a1), (2, .int a2)] dX6_outOfNumbered_13 (by decide) rfl ?_
  refine g_sub [5, 7, 4, 3, 2, 1, 0] rfl ?_
  refine t_X6_outOfNumbered_L15 X a2 _ (fun s8 y3_7 => ?_) FU σ (0 : Int64) (0 : Int32) (6 : Int32) a1 (0 : Int32)
  refine g_lload_n 0 dX6_outOfNumbered_81 rfl ?_
  exact g_lret rfl dX6_outOfNumbered_82

def X0_earliestLike_L31 (x1 : Int32) (k114 : Mem → Option (Mem × Int32)) : Nat → Mem → Int32 → Int32 → Option (Mem × Int32)
  | 0, _, _, _ => none
  | n + 1, σ, x2, x3 => (if (2048 : Int32) ≤ x3 then k114 σ else (lt_ (((x2 + (1 : Int32)) &&& ((2048 : Int32) - (1 : Int32)))) fun (v2 : Int32) => ck v2 2048 <| lt_ (((σ.1 1 0 v2.toNatClampNeg) - (1 : Int32))) fun (v3 : Int32) => if v3 < 0 then (ck v2 2048 <| some ((uI σ 1 0 v2.toNatClampNeg (x1 + (1 : Int32))), x1)) else (if v3 < (1296 : Int32) then (ck v3 1296 <| ck x1 1296 <| if (lg_cmp (σ.2.1 0 0 v3.toNatClampNeg) (σ.2.1 0 0 x1.toNatClampNeg)) = 0 then (some (σ, v3)) else (X0_earliestLike_L31 x1 k114 n σ v2 ((x3 + (1 : Int32))))) else (ck v2 2048 <| some ((uI σ 1 0 v2.toNatClampNeg (x1 + (1 : Int32))), x1)))))
def X0_earliestLike (σ : Mem) (a1 : Int32) : Option (Mem × Int32) := (if a1 < 0 then (some (σ, a1)) else (if a1 < (1296 : Int32) then (ck a1 1296 <| lt_ (((((σ.2.1 0 0 a1.toNatClampNeg).toInt32 * (-1640531535 : Int32)).toUInt32 >>> ((21 : Int32).toUInt32 &&& Int32.toUInt32 31)).toInt32)) fun (v1 : Int32) => X0_earliestLike_L31 a1 (fun (s6 : Mem) => (some (s6, a1))) FU σ v1 (0 : Int32)) else (some (σ, a1))))
set_option maxRecDepth 100000 in
set_option maxHeartbeats 4000000 in
theorem t_X0_earliestLike_L31 (X : GX) (x1 : Int32) (k114 : Mem → Option (Mem × Int32)) (hk114 : ∀ (σ : Mem), GS (KM enI X) X mX0_earliestLike σ 114 [(1, .int x1)] [] (k114 σ)) : ∀ (n : Nat) (σ : Mem) (x2 : Int32) (x3 : Int32), GS (KM enI X) X mX0_earliestLike σ 31 [(0, .ref (xad X (90))), (1, .int x1), (2, .int x2), (3, .int x3)] [] (X0_earliestLike_L31 x1 k114 n σ x2 x3) := by
  intro n
  induction n with
  | zero => intros; exact g_none
  | succ n ih =>
    intro σ x2 x3
    rw [X0_earliestLike_L31]
    refine g_iload_n 3 dX0_earliestLike_31 rfl ?_
    refine g_aload_n 0 dX0_earliestLike_32 rfl ?_
    refine gf_X0_1 fl_X0_15 dX0_earliestLike_33 ?_
    refine g_alen (v := (2048 : Int32)) sh_92 no_92 (by decide) rfl dX0_earliestLike_36 ?_
    refine g_icmp_ge 114 dX0_earliestLike_37 rfl (fun _ => ?_) (fun _ => ?_)
    · refine g_sub [1] rfl ?_
      exact hk114 σ
    · refine g_iload_n 2 dX0_earliestLike_40 rfl ?_
      refine g_iconst (1 : Int32) dX0_earliestLike_41 (by decide) ?_
      refine g_iadd dX0_earliestLike_42 ?_
      refine g_aload_n 0 dX0_earliestLike_43 rfl ?_
      refine gf_X0_1 fl_X0_15 dX0_earliestLike_44 ?_
      refine g_alen (v := (2048 : Int32)) sh_92 no_92 (by decide) rfl dX0_earliestLike_47 ?_
      refine g_iconst (1 : Int32) dX0_earliestLike_48 (by decide) ?_
      refine g_isub dX0_earliestLike_49 ?_
      refine g_iand dX0_earliestLike_50 ?_
      refine g_topi (fun v2 => ?_)
      refine g_istore_n [(2, .int v2), (0, .ref (xad X (90))), (1, .int x1), (3, .int x3)] dX0_earliestLike_51 (by decide) rfl ?_
      refine g_aload_n 1 dX0_earliestLike_52 rfl ?_
      refine gf_X0_1 fl_X0_15 dX0_earliestLike_53 ?_
      refine g_iload_n 0 dX0_earliestLike_56 rfl ?_
      refine g_iald sh_92 no_92 dX0_earliestLike_57 (fun _ => ?_)
      refine g_iconst (1 : Int32) dX0_earliestLike_58 (by decide) ?_
      refine g_isub dX0_earliestLike_59 ?_
      refine g_topi (fun v3 => ?_)
      refine g_istore [(4, .int v3), (2, .int v2), (0, .ref (xad X (90))), (1, .int x1), (3, .int x3)] dX0_earliestLike_60 (by decide) rfl ?_
      refine g_iload 0 dX0_earliestLike_62 rfl ?_
      refine g_if_lt 77 dX0_earliestLike_64 rfl (fun _ => ?_) (fun _ => ?_)
      · refine g_aload_n 2 dX0_earliestLike_77 rfl ?_
        refine gf_X0_1 fl_X0_15 dX0_earliestLike_78 ?_
        refine g_iload_n 1 dX0_earliestLike_81 rfl ?_
        refine g_iload_n 3 dX0_earliestLike_82 rfl ?_
        refine g_iconst (1 : Int32) dX0_earliestLike_83 (by decide) ?_
        refine g_iadd dX0_earliestLike_84 ?_
        refine g_iast sh_92 no_92 dX0_earliestLike_85 (fun _ => ?_)
        refine g_iload_n 3 dX0_earliestLike_86 rfl ?_
        exact g_iret rfl dX0_earliestLike_87
      · refine g_iload 0 dX0_earliestLike_67 rfl ?_
        refine g_aload_n 2 dX0_earliestLike_69 rfl ?_
        refine gf_X0_0 fl_X0_9 dX0_earliestLike_70 ?_
        refine g_alen (v := (1296 : Int32)) sh_91 no_91 (by decide) rfl dX0_earliestLike_73 ?_
        refine g_icmp_lt 88 dX0_earliestLike_74 rfl (fun _ => ?_) (fun _ => ?_)
        · refine g_aload_n 2 dX0_earliestLike_88 rfl ?_
          refine gf_X0_0 fl_X0_9 dX0_earliestLike_89 ?_
          refine g_iload 0 dX0_earliestLike_92 rfl ?_
          refine g_lald sh_91 no_91 dX0_earliestLike_94 (fun _ => ?_)
          refine g_aload_n 2 dX0_earliestLike_95 rfl ?_
          refine gf_X0_0 fl_X0_9 dX0_earliestLike_96 ?_
          refine g_iload_n 3 dX0_earliestLike_99 rfl ?_
          refine g_lald sh_91 no_91 dX0_earliestLike_100 (fun _ => ?_)
          refine g_lcmp dX0_earliestLike_101 ?_
          refine g_if_ne 108 dX0_earliestLike_102 rfl (fun _ => ?_) (fun _ => ?_)
          · refine g_iinc 4 [(3, .int ((x3 + (1 : Int32)))), (4, .int v3), (2, .int v2), (0, .ref (xad X (90))), (1, .int x1)] dX0_earliestLike_108 rfl (v := x3 + (1 : Int32)) rfl (by decide) rfl ?_
            refine g_goto 31 dX0_earliestLike_111 rfl ?_
            refine g_sub [3, 4, 2, 0] rfl ?_
            exact ih σ v2 ((x3 + (1 : Int32)))
          · refine g_iload 0 dX0_earliestLike_105 rfl ?_
            exact g_iret rfl dX0_earliestLike_107
        · refine g_aload_n 2 dX0_earliestLike_77 rfl ?_
          refine gf_X0_1 fl_X0_15 dX0_earliestLike_78 ?_
          refine g_iload_n 1 dX0_earliestLike_81 rfl ?_
          refine g_iload_n 3 dX0_earliestLike_82 rfl ?_
          refine g_iconst (1 : Int32) dX0_earliestLike_83 (by decide) ?_
          refine g_iadd dX0_earliestLike_84 ?_
          refine g_iast sh_92 no_92 dX0_earliestLike_85 (fun _ => ?_)
          refine g_iload_n 3 dX0_earliestLike_86 rfl ?_
          exact g_iret rfl dX0_earliestLike_87

set_option maxRecDepth 100000 in
set_option maxHeartbeats 4000000 in
theorem c_X0_earliestLike (σ : Mem) (a1 : Int32) : CT yX0_earliestLike mX0_earliestLike enI (fun ad => [.ref (ad (90)), .int a1]) σ (X0_earliestLike σ a1) := by
  refine CT.of (by decide) rfl (fun _ => Nat.le_of_ble_eq_true rfl) (fun X => ?_)
  show GS (KM enI X) X mX0_earliestLike σ 0 [(0, .ref (xad X (90))), (1, .int a1)] [] _
  unfold X0_earliestLike
  refine g_iload_n 1 dX0_earliestLike_0 rfl ?_
  refine g_if_lt 13 dX0_earliestLike_1 rfl (fun _ => ?_) (fun _ => ?_)
  · refine g_iload_n 1 dX0_earliestLike_13 rfl ?_
    exact g_iret rfl dX0_earliestLike_14
  · refine g_iload_n 1 dX0_earliestLike_4 rfl ?_
    refine g_aload_n 0 dX0_earliestLike_5 rfl ?_
    refine gf_X0_0 fl_X0_9 dX0_earliestLike_6 ?_
    refine g_alen (v := (1296 : Int32)) sh_91 no_91 (by decide) rfl dX0_earliestLike_9 ?_
    refine g_icmp_lt 15 dX0_earliestLike_10 rfl (fun _ => ?_) (fun _ => ?_)
    · refine g_aload_n 0 dX0_earliestLike_15 rfl ?_
      refine gf_X0_0 fl_X0_9 dX0_earliestLike_16 ?_
      refine g_iload_n 1 dX0_earliestLike_19 rfl ?_
      refine g_lald sh_91 no_91 dX0_earliestLike_20 (fun _ => ?_)
      refine g_l2i dX0_earliestLike_21 ?_
      refine g_ldc (-1640531535 : Int32) dX0_earliestLike_22 kc_X0_45 ?_
      refine g_imul dX0_earliestLike_24 ?_
      refine g_bipush (21 : Int32) dX0_earliestLike_25 (by decide) ?_
      refine g_iushr dX0_earliestLike_27 ?_
      refine g_topi (fun v1 => ?_)
      refine g_istore_n [(2, .int v1), (0, .ref (xad X (90))), (1, .int a1)] dX0_earliestLike_28 (by decide) rfl ?_
      refine g_iconst (0 : Int32) dX0_earliestLike_29 (by decide) ?_
      refine g_istore_n [(3, .int ((0 : Int32))), (2, .int v1), (0, .ref (xad X (90))), (1, .int a1)] dX0_earliestLike_30 (by decide) rfl ?_
      refine g_sub [2, 3, 1, 0] rfl ?_
      refine t_X0_earliestLike_L31 X a1 _ (fun s6 => ?_) FU σ v1 (0 : Int32)
      refine g_iload_n 0 dX0_earliestLike_114 rfl ?_
      exact g_iret rfl dX0_earliestLike_115
    · refine g_iload_n 1 dX0_earliestLike_13 rfl ?_
      exact g_iret rfl dX0_earliestLike_14

def X0_gather_L30 (x2 : Int32) (k53 : Mem → Int32 → Option (Mem × Unit)) : Nat → Mem → Int32 → Int32 → Option (Mem × Unit)
  | 0, _, _, _ => none
  | n + 1, σ, x3, x4 => (if x2 ≤ x4 then k53 σ x3 else (if (4 : Int32) ≤ x4 then k53 σ x3 else (lt_ ((x3 * (6 : Int32))) fun (v2 : Int32) => X0_gather_L30 x2 k53 n σ v2 ((x4 + (1 : Int32))))))
def X0_gather_L56 (x2 : Int32) (x3 : Int32) (k150 : Mem → Option (Mem × Unit)) : Nat → Mem → Int32 → Option (Mem × Unit)
  | 0, _, _ => none
  | n + 1, σ, x4 => (if x3 ≤ x4 then k150 σ else (if (1296 : Int32) ≤ x4 then k150 σ else ((X6_outOfNumbered σ x4 x2).bind fun q6 => ck x4 1296 <| (X0_earliestLike ((uJ q6.1 0 0 x4.toNatClampNeg q6.2)) x4).bind fun q7 => if q7.2 = x4 then ((X0_gather_L56 x2 x3 k150 n ((uI q7.1 2 0 0 (((q7.1.1 2 0 0) + (1 : Int32))))) ((x4 + (1 : Int32))))) else (if (q7.1.1 3 0 0) = (-9 : Int32) then (X0_gather_L56 x2 x3 k150 n ((uI ((uI q7.1 3 0 0 q7.2)) 4 0 0 x4)) ((x4 + (1 : Int32)))) else (if (q7.1.1 3 0 0) ≤ q7.2 then (X0_gather_L56 x2 x3 k150 n q7.1 ((x4 + (1 : Int32)))) else (X0_gather_L56 x2 x3 k150 n ((uI ((uI q7.1 3 0 0 q7.2)) 4 0 0 x4)) ((x4 + (1 : Int32)))))))))
def X0_gather (σ : Mem) (a2 : Int32) : Option (Mem × Unit) := ((J7_fill_53178 σ (92) (0 : Int32)).bind fun q1 => X0_gather_L30 a2 (fun (s5 : Mem) (y3_4 : Int32) => (X0_gather_L56 a2 y3_4 (fun (s13 : Mem) => (some (s13, ()))) FU s5 (0 : Int32))) FU ((uI ((uI ((uI q1.1 2 0 0 (0 : Int32))) 3 0 0 (-9 : Int32))) 4 0 0 (-9 : Int32))) (1 : Int32) (0 : Int32))
set_option maxRecDepth 100000 in
set_option maxHeartbeats 4000000 in
theorem t_X0_gather_L30 (X : GX) (x2 : Int32) (k53 : Mem → Int32 → Option (Mem × Unit)) (hk53 : ∀ (σ : Mem) (y3 : Int32), GS (KM enV X) X mX0_gather σ 53 [(0, .ref (xad X (90))), (1, .ref (xad X (85))), (2, .int x2), (3, .int y3)] [] (k53 σ y3)) : ∀ (n : Nat) (σ : Mem) (x3 : Int32) (x4 : Int32), GS (KM enV X) X mX0_gather σ 30 [(0, .ref (xad X (90))), (1, .ref (xad X (85))), (2, .int x2), (3, .int x3), (4, .int x4)] [] (X0_gather_L30 x2 k53 n σ x3 x4) := by
  intro n
  induction n with
  | zero => intros; exact g_none
  | succ n ih =>
    intro σ x3 x4
    rw [X0_gather_L30]
    refine g_iload 4 dX0_gather_30 rfl ?_
    refine g_iload_n 2 dX0_gather_32 rfl ?_
    refine g_icmp_ge 53 dX0_gather_33 rfl (fun _ => ?_) (fun _ => ?_)
    · refine g_sub [0, 1, 2, 3] rfl ?_
      exact hk53 σ x3
    · refine g_iload 4 dX0_gather_36 rfl ?_
      refine g_iconst (4 : Int32) dX0_gather_38 (by decide) ?_
      refine g_icmp_ge 53 dX0_gather_39 rfl (fun _ => ?_) (fun _ => ?_)
      · refine g_sub [0, 1, 2, 3] rfl ?_
        exact hk53 σ x3
      · refine g_iload_n 3 dX0_gather_42 rfl ?_
        refine g_bipush (6 : Int32) dX0_gather_43 (by decide) ?_
        refine g_imul dX0_gather_45 ?_
        refine g_topi (fun v2 => ?_)
        refine g_istore_n [(3, .int v2), (0, .ref (xad X (90))), (1, .ref (xad X (85))), (2, .int x2), (4, .int x4)] dX0_gather_46 (by decide) rfl ?_
        refine g_iinc 4 [(4, .int ((x4 + (1 : Int32)))), (3, .int v2), (0, .ref (xad X (90))), (1, .ref (xad X (85))), (2, .int x2)] dX0_gather_47 rfl (v := x4 + (1 : Int32)) rfl (by decide) rfl ?_
        refine g_goto 30 dX0_gather_50 rfl ?_
        refine g_sub [2, 3, 4, 1, 0] rfl ?_
        exact ih σ v2 ((x4 + (1 : Int32)))

set_option maxRecDepth 100000 in
set_option maxHeartbeats 4000000 in
theorem t_X0_gather_L56 (X : GX) (x2 : Int32) (x3 : Int32) (k150 : Mem → Option (Mem × Unit)) (hk150 : ∀ (σ : Mem), GS (KM enV X) X mX0_gather σ 150 [] [] (k150 σ)) : ∀ (n : Nat) (σ : Mem) (x4 : Int32), GS (KM enV X) X mX0_gather σ 56 [(0, .ref (xad X (90))), (1, .ref (xad X (85))), (2, .int x2), (3, .int x3), (4, .int x4)] [] (X0_gather_L56 x2 x3 k150 n σ x4) := by
  intro n
  induction n with
  | zero => intros; exact g_none
  | succ n ih =>
    intro σ x4
    rw [X0_gather_L56]
    refine g_iload 4 dX0_gather_56 rfl ?_
    refine g_iload_n 3 dX0_gather_58 rfl ?_
    refine g_icmp_ge 150 dX0_gather_59 rfl (fun _ => ?_) (fun _ => ?_)
    · refine g_sub [] rfl ?_
      exact hk150 σ
    · refine g_iload 4 dX0_gather_62 rfl ?_
      refine g_aload_n 0 dX0_gather_64 rfl ?_
      refine gf_X0_0 fl_X0_9 dX0_gather_65 ?_
      refine g_alen (v := (1296 : Int32)) sh_91 no_91 (by decide) rfl dX0_gather_68 ?_
      refine g_icmp_ge 150 dX0_gather_69 rfl (fun _ => ?_) (fun _ => ?_)
      · refine g_sub [] rfl ?_
        exact hk150 σ
      · refine g_aload_n 0 dX0_gather_72 rfl ?_
        refine gf_X0_0 fl_X0_9 dX0_gather_73 ?_
        refine g_iload 4 dX0_gather_76 rfl ?_
        refine g_aload_n 1 dX0_gather_78 rfl ?_
        refine g_iload 4 dX0_gather_79 rfl ?_
        refine g_iload_n 2 dX0_gather_81 rfl ?_
        refine g_callVJ (c_X6_outOfNumbered σ x4 x2) okX6_outOfNumbered ⟨by decide, by decide⟩ ml_X0_35 sh_85 no_85 rfl rfl [.int x4, .int x2] rfl rfl rfl (Nat.le_of_ble_eq_true rfl) dX0_gather_82 (fun q6 => ?_)
        refine g_last sh_91 no_91 dX0_gather_85 (fun _ => ?_)
        refine g_aload_n 0 dX0_gather_86 rfl ?_
        refine g_iload 4 dX0_gather_87 rfl ?_
        refine g_callVI (c_X0_earliestLike ((uJ q6.1 0 0 x4.toNatClampNeg q6.2)) x4) okX0_earliestLike ⟨by decide, by decide⟩ ml_X0_41 sh_90 no_90 rfl rfl [.int x4] rfl rfl rfl (Nat.le_of_ble_eq_true rfl) dX0_gather_89 (fun q7 => ?_)
        refine g_istore [(5, .int (q7.2)), (0, .ref (xad X (90))), (1, .ref (xad X (85))), (2, .int x2), (3, .int x3), (4, .int x4)] dX0_gather_92 (by decide) rfl ?_
        refine g_iload 0 dX0_gather_94 rfl ?_
        refine g_iload 5 dX0_gather_96 rfl ?_
        refine g_icmp_ne 114 dX0_gather_98 rfl (fun _ => ?_) (fun _ => ?_)
        · refine g_aload_n 1 dX0_gather_114 rfl ?_
          refine gf_X0_3 fl_X0_23 dX0_gather_115 ?_
          refine g_bipush (-9 : Int32) dX0_gather_118 (by decide) ?_
          refine g_icmp_eq 132 dX0_gather_120 rfl (fun _ => ?_) (fun _ => ?_)
          · refine g_aload_n 1 dX0_gather_132 rfl ?_
            refine g_iload 0 dX0_gather_133 rfl ?_
            refine pf_X0_3 fl_X0_23 dX0_gather_135 ?_
            refine g_aload_n 1 dX0_gather_138 rfl ?_
            refine g_iload 5 dX0_gather_139 rfl ?_
            refine pf_X0_4 fl_X0_26 dX0_gather_141 ?_
            refine g_iinc 5 [(4, .int ((x4 + (1 : Int32)))), (5, .int (q7.2)), (0, .ref (xad X (90))), (1, .ref (xad X (85))), (2, .int x2), (3, .int x3)] dX0_gather_144 rfl (v := x4 + (1 : Int32)) rfl (by decide) rfl ?_
            refine g_goto 56 dX0_gather_147 rfl ?_
            refine g_sub [2, 3, 4, 5, 0] rfl ?_
            exact ih ((uI ((uI q7.1 3 0 0 q7.2)) 4 0 0 x4)) ((x4 + (1 : Int32)))
          · refine g_iload 0 dX0_gather_123 rfl ?_
            refine g_aload_n 1 dX0_gather_125 rfl ?_
            refine gf_X0_3 fl_X0_23 dX0_gather_126 ?_
            refine g_icmp_ge 144 dX0_gather_129 rfl (fun _ => ?_) (fun _ => ?_)
            · refine g_iinc 5 [(4, .int ((x4 + (1 : Int32)))), (5, .int (q7.2)), (0, .ref (xad X (90))), (1, .ref (xad X (85))), (2, .int x2), (3, .int x3)] dX0_gather_144 rfl (v := x4 + (1 : Int32)) rfl (by decide) rfl ?_
              refine g_goto 56 dX0_gather_147 rfl ?_
              refine g_sub [2, 3, 4, 5, 0] rfl ?_
              exact ih q7.1 ((x4 + (1 : Int32)))
            · refine g_aload_n 1 dX0_gather_132 rfl ?_
              refine g_iload 0 dX0_gather_133 rfl ?_
              refine pf_X0_3 fl_X0_23 dX0_gather_135 ?_
              refine g_aload_n 1 dX0_gather_138 rfl ?_
              refine g_iload 5 dX0_gather_139 rfl ?_
              refine pf_X0_4 fl_X0_26 dX0_gather_141 ?_
              refine g_iinc 5 [(4, .int ((x4 + (1 : Int32)))), (5, .int (q7.2)), (0, .ref (xad X (90))), (1, .ref (xad X (85))), (2, .int x2), (3, .int x3)] dX0_gather_144 rfl (v := x4 + (1 : Int32)) rfl (by decide) rfl ?_
              refine g_goto 56 dX0_gather_147 rfl ?_
              refine g_sub [2, 3, 4, 5, 0] rfl ?_
              exact ih ((uI ((uI q7.1 3 0 0 q7.2)) 4 0 0 x4)) ((x4 + (1 : Int32)))
        · refine g_aload_n 1 dX0_gather_101 rfl ?_
          refine g_dup dX0_gather_102 rfl ?_
          refine gf_X0_2 fl_X0_19 dX0_gather_103 ?_
          refine g_iconst (1 : Int32) dX0_gather_106 (by decide) ?_
          refine g_iadd dX0_gather_107 ?_
          refine pf_X0_2 fl_X0_19 dX0_gather_108 ?_
          refine g_goto 144 dX0_gather_111 rfl ?_
          refine g_iinc 5 [(4, .int ((x4 + (1 : Int32)))), (5, .int (q7.2)), (0, .ref (xad X (90))), (1, .ref (xad X (85))), (2, .int x2), (3, .int x3)] dX0_gather_144 rfl (v := x4 + (1 : Int32)) rfl (by decide) rfl ?_
          refine g_goto 56 dX0_gather_147 rfl ?_
          refine g_sub [2, 3, 4, 5, 0] rfl ?_
          exact ih ((uI q7.1 2 0 0 (((q7.1.1 2 0 0) + (1 : Int32))))) ((x4 + (1 : Int32)))

set_option maxRecDepth 100000 in
set_option maxHeartbeats 4000000 in
theorem c_X0_gather (σ : Mem) (a2 : Int32) : CT yX0_gather mX0_gather enV (fun ad => [.ref (ad (90)), .ref (ad (85)), .int a2]) σ (X0_gather σ a2) := by
  refine CT.of (by decide) rfl (fun _ => Nat.le_of_ble_eq_true rfl) (fun X => ?_)
  show GS (KM enV X) X mX0_gather σ 0 [(0, .ref (xad X (90))), (1, .ref (xad X (85))), (2, .int a2)] [] _
  unfold X0_gather
  refine g_aload_n 0 dX0_gather_0 rfl ?_
  refine gf_X0_1 fl_X0_15 dX0_gather_1 ?_
  refine g_iconst (0 : Int32) dX0_gather_4 (by decide) ?_
  refine g_callSV (c_J7_fill_53178 σ (92) (0 : Int32)) okJ7_fill_53178 ⟨by decide, by decide⟩ ml_X0_29 rfl rfl (Nat.le_of_ble_eq_true rfl) dX0_gather_5 (fun q1 => ?_)
  refine g_aload_n 0 dX0_gather_8 rfl ?_
  refine g_iconst (0 : Int32) dX0_gather_9 (by decide) ?_
  refine pf_X0_2 fl_X0_19 dX0_gather_10 ?_
  refine g_aload_n 0 dX0_gather_13 rfl ?_
  refine g_bipush (-9 : Int32) dX0_gather_14 (by decide) ?_
  refine pf_X0_3 fl_X0_23 dX0_gather_16 ?_
  refine g_aload_n 0 dX0_gather_19 rfl ?_
  refine g_bipush (-9 : Int32) dX0_gather_20 (by decide) ?_
  refine pf_X0_4 fl_X0_26 dX0_gather_22 ?_
  refine g_iconst (1 : Int32) dX0_gather_25 (by decide) ?_
  refine g_istore_n [(3, .int ((1 : Int32))), (0, .ref (xad X (90))), (1, .ref (xad X (85))), (2, .int a2)] dX0_gather_26 (by decide) rfl ?_
  refine g_iconst (0 : Int32) dX0_gather_27 (by decide) ?_
  refine g_istore [(4, .int ((0 : Int32))), (3, .int ((1 : Int32))), (0, .ref (xad X (90))), (1, .ref (xad X (85))), (2, .int a2)] dX0_gather_28 (by decide) rfl ?_
  refine g_sub [2, 3, 4, 1, 0] rfl ?_
  refine t_X0_gather_L30 X a2 _ (fun s5 y3_4 => ?_) FU ((uI ((uI ((uI q1.1 2 0 0 (0 : Int32))) 3 0 0 (-9 : Int32))) 4 0 0 (-9 : Int32))) (1 : Int32) (0 : Int32)
  refine g_iconst (0 : Int32) dX0_gather_53 (by decide) ?_
  refine g_istore [(4, .int ((0 : Int32))), (0, .ref (xad X (90))), (1, .ref (xad X (85))), (2, .int a2), (3, .int y3_4)] dX0_gather_54 (by decide) rfl ?_
  refine g_sub [1, 2, 3, 4, 0] rfl ?_
  refine t_X0_gather_L56 X a2 y3_4 _ (fun s13 => ?_) FU s5 (0 : Int32)
  exact g_vret rfl dX0_gather_150

def X1_become (σ : Mem) (a0 : Nat) (a1 : Int32) (a2 : Int32) (a3 : Int32) (a4 : Int32) : Option (Mem × Unit) := if a0 < 41 then (some ((uI ((uI ((uI ((uI σ 100 a0 0 a1)) 101 a0 0 a2)) 102 a0 0 a3)) 103 a0 0 a4), ())) else none
set_option maxRecDepth 100000 in
set_option maxHeartbeats 4000000 in
theorem c_X1_become (σ : Mem) (a0 : Nat) (a1 : Int32) (a2 : Int32) (a3 : Int32) (a4 : Int32) : CT yX1_become mX1_become enV (fun ad => [.ref (ad (28 + a0)), .int a1, .int a2, .int a3, .int a4]) σ (X1_become σ a0 a1 a2 a3 a4) := by
  refine CT.of (by decide) rfl (fun _ => Nat.le_of_ble_eq_true rfl) (fun X => ?_)
  show GS (KM enV X) X mX1_become σ 0 [(0, .ref (xad X (28 + a0))), (1, .int a1), (2, .int a2), (3, .int a3), (4, .int a4)] [] _
  unfold X1_become
  refine g_guard (fun ha0 => ?_)
  refine g_aload_n 0 dX1_become_0 rfl ?_
  refine g_iload_n 1 dX1_become_1 rfl ?_
  refine pf_X1_0 ha0 fl_X1_9 dX1_become_2 ?_
  refine g_aload_n 0 dX1_become_5 rfl ?_
  refine g_iload_n 2 dX1_become_6 rfl ?_
  refine pf_X1_1 ha0 fl_X1_15 dX1_become_7 ?_
  refine g_aload_n 0 dX1_become_10 rfl ?_
  refine g_iload_n 3 dX1_become_11 rfl ?_
  refine pf_X1_2 ha0 fl_X1_18 dX1_become_12 ?_
  refine g_aload_n 0 dX1_become_15 rfl ?_
  refine g_iload 4 dX1_become_16 rfl ?_
  refine pf_X1_3 ha0 fl_X1_21 dX1_become_18 ?_
  exact g_vret rfl dX1_become_21

def X1_take (σ : Mem) (a0 : Nat) (a1 : Nat) : Option (Mem × Unit) := if a0 < 41 then (if a1 < 41 then ((X1_become σ a0 ((σ.1 100 a1 0)) ((σ.1 101 a1 0)) ((σ.1 102 a1 0)) ((σ.1 103 a1 0))).bind fun q1 => if ((q1.1.1 104 a1 0)) = 0 ∨ ((q1.1.1 104 a1 0)) = 1 then some ((uI q1.1 104 a0 0 ((q1.1.1 104 a1 0))), ()) else none) else none) else none
set_option maxRecDepth 100000 in
set_option maxHeartbeats 4000000 in
theorem c_X1_take (σ : Mem) (a0 : Nat) (a1 : Nat) : CT yX1_take mX1_take enV (fun ad => [.ref (ad (28 + a0)), .ref (ad (28 + a1))]) σ (X1_take σ a0 a1) := by
  refine CT.of (by decide) rfl (fun _ => Nat.le_of_ble_eq_true rfl) (fun X => ?_)
  show GS (KM enV X) X mX1_take σ 0 [(0, .ref (xad X (28 + a0))), (1, .ref (xad X (28 + a1)))] [] _
  unfold X1_take
  refine g_guard (fun ha0 => ?_)
  refine g_guard (fun ha1 => ?_)
  refine g_aload_n 0 dX1_take_0 rfl ?_
  refine g_aload_n 1 dX1_take_1 rfl ?_
  refine gf_X1_0 ha1 fl_X1_9 dX1_take_2 ?_
  refine g_aload_n 1 dX1_take_5 rfl ?_
  refine gf_X1_1 ha1 fl_X1_15 dX1_take_6 ?_
  refine g_aload_n 1 dX1_take_9 rfl ?_
  refine gf_X1_2 ha1 fl_X1_18 dX1_take_10 ?_
  refine g_aload_n 1 dX1_take_13 rfl ?_
  refine gf_X1_3 ha1 fl_X1_21 dX1_take_14 ?_
  refine g_callVV (c_X1_become σ a0 ((σ.1 100 a1 0)) ((σ.1 101 a1 0)) ((σ.1 102 a1 0)) ((σ.1 103 a1 0))) okX1_become ⟨by decide, by decide⟩ ml_X1_28 (sh_X1 ha0) (no_X1 ha0) rfl rfl [.int ((σ.1 100 a1 0)), .int ((σ.1 101 a1 0)), .int ((σ.1 102 a1 0)), .int ((σ.1 103 a1 0))] rfl rfl rfl (Nat.le_of_ble_eq_true rfl) dX1_take_17 (fun q1 => ?_)
  refine g_aload_n 0 dX1_take_20 rfl ?_
  refine g_aload_n 1 dX1_take_21 rfl ?_
  refine gf_X1_4 ha1 fl_X1_24 dX1_take_22 ?_
  refine pf_X1_4 ha0 fl_X1_24 dX1_take_25 ?_
  exact g_vret rfl dX1_take_28

def X1_isOf (σ : Mem) (a0 : Nat) (a1 : Int32) : Option (Mem × Int32) := if a0 < 41 then (if a1 = 0 then ((if (1 : Int32) = 0 ∨ (1 : Int32) = 1 then some (σ, (1 : Int32)) else none)) else (if a1 = (σ.1 100 a0 0) then ((if (1 : Int32) = 0 ∨ (1 : Int32) = 1 then some (σ, (1 : Int32)) else none)) else (if a1 = (3 : Int32) then (if (σ.1 100 a0 0) = (4 : Int32) then ((if (1 : Int32) = 0 ∨ (1 : Int32) = 1 then some (σ, (1 : Int32)) else none)) else (if a1 = (2 : Int32) then (if (σ.1 100 a0 0) = (5 : Int32) then ((if (1 : Int32) = 0 ∨ (1 : Int32) = 1 then some (σ, (1 : Int32)) else none)) else (if (0 : Int32) = 0 ∨ (0 : Int32) = 1 then some (σ, (0 : Int32)) else none)) else (if (0 : Int32) = 0 ∨ (0 : Int32) = 1 then some (σ, (0 : Int32)) else none))) else (if a1 = (2 : Int32) then (if (σ.1 100 a0 0) = (5 : Int32) then ((if (1 : Int32) = 0 ∨ (1 : Int32) = 1 then some (σ, (1 : Int32)) else none)) else (if (0 : Int32) = 0 ∨ (0 : Int32) = 1 then some (σ, (0 : Int32)) else none)) else (if (0 : Int32) = 0 ∨ (0 : Int32) = 1 then some (σ, (0 : Int32)) else none))))) else none
set_option maxRecDepth 100000 in
set_option maxHeartbeats 4000000 in
theorem c_X1_isOf (σ : Mem) (a0 : Nat) (a1 : Int32) : CT yX1_isOf mX1_isOf enI (fun ad => [.ref (ad (28 + a0)), .int a1]) σ (X1_isOf σ a0 a1) := by
  refine CT.of (by decide) rfl (fun _ => Nat.le_of_ble_eq_true rfl) (fun X => ?_)
  show GS (KM enI X) X mX1_isOf σ 0 [(0, .ref (xad X (28 + a0))), (1, .int a1)] [] _
  unfold X1_isOf
  refine g_guard (fun ha0 => ?_)
  refine g_iload_n 1 dX1_isOf_0 rfl ?_
  refine g_if_eq 38 dX1_isOf_1 rfl (fun _ => ?_) (fun _ => ?_)
  · refine g_iconst (1 : Int32) dX1_isOf_38 (by decide) ?_
    refine g_goto 43 dX1_isOf_39 rfl ?_
    exact g_zret rfl dX1_isOf_43
  · refine g_iload_n 1 dX1_isOf_4 rfl ?_
    refine g_aload_n 0 dX1_isOf_5 rfl ?_
    refine gf_X1_0 ha0 fl_X1_9 dX1_isOf_6 ?_
    refine g_icmp_eq 38 dX1_isOf_9 rfl (fun _ => ?_) (fun _ => ?_)
    · refine g_iconst (1 : Int32) dX1_isOf_38 (by decide) ?_
      refine g_goto 43 dX1_isOf_39 rfl ?_
      exact g_zret rfl dX1_isOf_43
    · refine g_iload_n 1 dX1_isOf_12 rfl ?_
      refine g_iconst (3 : Int32) dX1_isOf_13 (by decide) ?_
      refine g_icmp_ne 25 dX1_isOf_14 rfl (fun _ => ?_) (fun _ => ?_)
      · refine g_iload_n 1 dX1_isOf_25 rfl ?_
        refine g_iconst (2 : Int32) dX1_isOf_26 (by decide) ?_
        refine g_icmp_ne 42 dX1_isOf_27 rfl (fun _ => ?_) (fun _ => ?_)
        · refine g_iconst (0 : Int32) dX1_isOf_42 (by decide) ?_
          exact g_zret rfl dX1_isOf_43
        · refine g_aload_n 0 dX1_isOf_30 rfl ?_
          refine gf_X1_0 ha0 fl_X1_9 dX1_isOf_31 ?_
          refine g_iconst (5 : Int32) dX1_isOf_34 (by decide) ?_
          refine g_icmp_ne 42 dX1_isOf_35 rfl (fun _ => ?_) (fun _ => ?_)
          · refine g_iconst (0 : Int32) dX1_isOf_42 (by decide) ?_
            exact g_zret rfl dX1_isOf_43
          · refine g_iconst (1 : Int32) dX1_isOf_38 (by decide) ?_
            refine g_goto 43 dX1_isOf_39 rfl ?_
            exact g_zret rfl dX1_isOf_43
      · refine g_aload_n 0 dX1_isOf_17 rfl ?_
        refine gf_X1_0 ha0 fl_X1_9 dX1_isOf_18 ?_
        refine g_iconst (4 : Int32) dX1_isOf_21 (by decide) ?_
        refine g_icmp_eq 38 dX1_isOf_22 rfl (fun _ => ?_) (fun _ => ?_)
        · refine g_iconst (1 : Int32) dX1_isOf_38 (by decide) ?_
          refine g_goto 43 dX1_isOf_39 rfl ?_
          exact g_zret rfl dX1_isOf_43
        · refine g_iload_n 1 dX1_isOf_25 rfl ?_
          refine g_iconst (2 : Int32) dX1_isOf_26 (by decide) ?_
          refine g_icmp_ne 42 dX1_isOf_27 rfl (fun _ => ?_) (fun _ => ?_)
          · refine g_iconst (0 : Int32) dX1_isOf_42 (by decide) ?_
            exact g_zret rfl dX1_isOf_43
          · refine g_aload_n 0 dX1_isOf_30 rfl ?_
            refine gf_X1_0 ha0 fl_X1_9 dX1_isOf_31 ?_
            refine g_iconst (5 : Int32) dX1_isOf_34 (by decide) ?_
            refine g_icmp_ne 42 dX1_isOf_35 rfl (fun _ => ?_) (fun _ => ?_)
            · refine g_iconst (0 : Int32) dX1_isOf_42 (by decide) ?_
              exact g_zret rfl dX1_isOf_43
            · refine g_iconst (1 : Int32) dX1_isOf_38 (by decide) ?_
              refine g_goto 43 dX1_isOf_39 rfl ?_
              exact g_zret rfl dX1_isOf_43

def X1_holds (σ : Mem) (a0 : Nat) (a1 : Int32) (a2 : Int32) : Option (Mem × Int32) := if a0 < 41 then (if a1 = (σ.1 101 a0 0) then ((X1_isOf σ a0 (3 : Int32)).bind fun q1 => if q1.2 = 0 then ((if (1 : Int32) = 0 ∨ (1 : Int32) = 1 then some (q1.1, (1 : Int32)) else none)) else (if a2 = (q1.1.1 103 a0 0) then ((if (1 : Int32) = 0 ∨ (1 : Int32) = 1 then some (q1.1, (1 : Int32)) else none)) else (if (q1.1.1 100 a0 0) = (4 : Int32) then (if a2 = (6 : Int32) then ((if (1 : Int32) = 0 ∨ (1 : Int32) = 1 then some (q1.1, (1 : Int32)) else none)) else (if (0 : Int32) = 0 ∨ (0 : Int32) = 1 then some (q1.1, (0 : Int32)) else none)) else (if (0 : Int32) = 0 ∨ (0 : Int32) = 1 then some (q1.1, (0 : Int32)) else none)))) else (if (0 : Int32) = 0 ∨ (0 : Int32) = 1 then some (σ, (0 : Int32)) else none)) else none
set_option maxRecDepth 100000 in
set_option maxHeartbeats 4000000 in
theorem c_X1_holds (σ : Mem) (a0 : Nat) (a1 : Int32) (a2 : Int32) : CT yX1_holds mX1_holds enI (fun ad => [.ref (ad (28 + a0)), .int a1, .int a2]) σ (X1_holds σ a0 a1 a2) := by
  refine CT.of (by decide) rfl (fun _ => Nat.le_of_ble_eq_true rfl) (fun X => ?_)
  show GS (KM enI X) X mX1_holds σ 0 [(0, .ref (xad X (28 + a0))), (1, .int a1), (2, .int a2)] [] _
  unfold X1_holds
  refine g_guard (fun ha0 => ?_)
  refine g_iload_n 1 dX1_holds_0 rfl ?_
  refine g_aload_n 0 dX1_holds_1 rfl ?_
  refine gf_X1_1 ha0 fl_X1_15 dX1_holds_2 ?_
  refine g_icmp_eq 10 dX1_holds_5 rfl (fun _ => ?_) (fun _ => ?_)
  · refine g_aload_n 0 dX1_holds_10 rfl ?_
    refine g_iconst (3 : Int32) dX1_holds_11 (by decide) ?_
    refine g_callVI (c_X1_isOf σ a0 (3 : Int32)) okX1_isOf ⟨by decide, by decide⟩ ml_X1_32 (sh_X1 ha0) (no_X1 ha0) rfl rfl [.int ((3 : Int32))] rfl rfl rfl (Nat.le_of_ble_eq_true rfl) dX1_holds_12 (fun q1 => ?_)
    refine g_if_eq 40 dX1_holds_15 rfl (fun _ => ?_) (fun _ => ?_)
    · refine g_iconst (1 : Int32) dX1_holds_40 (by decide) ?_
      refine g_goto 45 dX1_holds_41 rfl ?_
      exact g_zret rfl dX1_holds_45
    · refine g_iload_n 2 dX1_holds_18 rfl ?_
      refine g_aload_n 0 dX1_holds_19 rfl ?_
      refine gf_X1_3 ha0 fl_X1_21 dX1_holds_20 ?_
      refine g_icmp_eq 40 dX1_holds_23 rfl (fun _ => ?_) (fun _ => ?_)
      · refine g_iconst (1 : Int32) dX1_holds_40 (by decide) ?_
        refine g_goto 45 dX1_holds_41 rfl ?_
        exact g_zret rfl dX1_holds_45
      · refine g_aload_n 0 dX1_holds_26 rfl ?_
        refine gf_X1_0 ha0 fl_X1_9 dX1_holds_27 ?_
        refine g_iconst (4 : Int32) dX1_holds_30 (by decide) ?_
        refine g_icmp_ne 44 dX1_holds_31 rfl (fun _ => ?_) (fun _ => ?_)
        · refine g_iconst (0 : Int32) dX1_holds_44 (by decide) ?_
          exact g_zret rfl dX1_holds_45
        · refine g_iload_n 2 dX1_holds_34 rfl ?_
          refine g_bipush (6 : Int32) dX1_holds_35 (by decide) ?_
          refine g_icmp_ne 44 dX1_holds_37 rfl (fun _ => ?_) (fun _ => ?_)
          · refine g_iconst (0 : Int32) dX1_holds_44 (by decide) ?_
            exact g_zret rfl dX1_holds_45
          · refine g_iconst (1 : Int32) dX1_holds_40 (by decide) ?_
            refine g_goto 45 dX1_holds_41 rfl ?_
            exact g_zret rfl dX1_holds_45
  · refine g_iconst (0 : Int32) dX1_holds_8 (by decide) ?_
    exact g_zret rfl dX1_holds_9

def X7_packed (σ : Mem) (a0 : Int64) (a2 : Int32) : Option (Mem × Int64) := (some (σ, ((a0 <<< ((3 : Int32).toInt64 &&& 63)) ||| (a2 + (1 : Int32)).toInt64)))
set_option maxRecDepth 100000 in
set_option maxHeartbeats 4000000 in
theorem c_X7_packed (σ : Mem) (a0 : Int64) (a2 : Int32) : CT yX7_packed mX7_packed enJ (fun ad => [.long a0, .int a2]) σ (X7_packed σ a0 a2) := by
  refine CT.of (by decide) rfl (fun _ => Nat.le_of_ble_eq_true rfl) (fun X => ?_)
  show GS (KM enJ X) X mX7_packed σ 0 [(0, .long a0), (2, .int a2)] [] _
  unfold X7_packed
  refine g_lload_n 0 dX7_packed_0 rfl ?_
  refine g_iconst (3 : Int32) dX7_packed_1 (by decide) ?_
  refine g_lshl dX7_packed_2 ?_
  refine g_iload_n 1 dX7_packed_3 rfl ?_
  refine g_iconst (1 : Int32) dX7_packed_4 (by decide) ?_
  refine g_iadd dX7_packed_5 ?_
  refine g_i2l dX7_packed_6 ?_
  refine g_lor dX7_packed_7 ?_
  exact g_lret rfl dX7_packed_8

def X1_after (σ : Mem) (a0 : Nat) (a1 : Int64) : Option (Mem × Int64) := if a0 < 41 then (if (σ.1 100 a0 0) = (1 : Int32) then (some (σ, a1)) else if (σ.1 100 a0 0) = (2 : Int32) then ((X7_packed σ a1 ((σ.1 101 a0 0))).bind fun q2 => (X7_packed q2.1 q2.2 ((q2.1.1 102 a0 0))).bind fun q3 => some (q3.1, q3.2)) else if (σ.1 100 a0 0) = (3 : Int32) then ((X7_packed σ a1 ((σ.1 102 a0 0))).bind fun q5 => some (q5.1, q5.2)) else if (σ.1 100 a0 0) = (4 : Int32) then ((X7_packed σ a1 ((σ.1 102 a0 0))).bind fun q7 => some (q7.1, q7.2)) else if (σ.1 100 a0 0) = (5 : Int32) then ((X7_packed σ a1 ((σ.1 102 a0 0))).bind fun q9 => (X7_packed q9.1 q9.2 ((q9.1.1 101 a0 0))).bind fun q10 => some (q10.1, q10.2)) else ((X7_packed σ a1 ((σ.1 102 a0 0))).bind fun q12 => some (q12.1, q12.2))) else none
set_option maxRecDepth 100000 in
set_option maxHeartbeats 4000000 in
theorem c_X1_after (σ : Mem) (a0 : Nat) (a1 : Int64) : CT yX1_after mX1_after enJ (fun ad => [.ref (ad (28 + a0)), .long a1]) σ (X1_after σ a0 a1) := by
  refine CT.of (by decide) rfl (fun _ => Nat.le_of_ble_eq_true rfl) (fun X => ?_)
  show GS (KM enJ X) X mX1_after σ 0 [(0, .ref (xad X (28 + a0))), (1, .long a1)] [] _
  unfold X1_after
  refine g_guard (fun ha0 => ?_)
  refine g_aload_n 0 dX1_after_0 rfl ?_
  refine gf_X1_0 ha0 fl_X1_9 dX1_after_1 ?_
  refine g_eqc (1 : Int32) ?_ (fun e1 => ?_)
  · refine g_tableIn 40 dX1_after_4 (by decide) (by decide) rfl rfl ?_
    refine g_lload_n 1 dX1_after_40 rfl ?_
    exact g_lret rfl dX1_after_41
  · refine g_eqc (2 : Int32) ?_ (fun e4 => ?_)
    · refine g_tableIn 42 dX1_after_4 (by decide) (by decide) rfl rfl ?_
      refine g_lload_n 1 dX1_after_42 rfl ?_
      refine g_aload_n 0 dX1_after_43 rfl ?_
      refine gf_X1_1 ha0 fl_X1_15 dX1_after_44 ?_
      refine g_callSJ (c_X7_packed σ a1 ((σ.1 101 a0 0))) okX7_packed ⟨by decide, by decide⟩ ml_X1_36 rfl rfl (Nat.le_of_ble_eq_true rfl) dX1_after_47 (fun q2 => ?_)
      refine g_aload_n 0 dX1_after_50 rfl ?_
      refine gf_X1_2 ha0 fl_X1_18 dX1_after_51 ?_
      refine g_callSJ (c_X7_packed q2.1 q2.2 ((q2.1.1 102 a0 0))) okX7_packed ⟨by decide, by decide⟩ ml_X1_36 rfl rfl (Nat.le_of_ble_eq_true rfl) dX1_after_54 (fun q3 => ?_)
      exact g_lret rfl dX1_after_57
    · refine g_eqc (3 : Int32) ?_ (fun e6 => ?_)
      · refine g_tableIn 74 dX1_after_4 (by decide) (by decide) rfl rfl ?_
        refine g_lload_n 1 dX1_after_74 rfl ?_
        refine g_aload_n 0 dX1_after_75 rfl ?_
        refine gf_X1_2 ha0 fl_X1_18 dX1_after_76 ?_
        refine g_callSJ (c_X7_packed σ a1 ((σ.1 102 a0 0))) okX7_packed ⟨by decide, by decide⟩ ml_X1_36 rfl rfl (Nat.le_of_ble_eq_true rfl) dX1_after_79 (fun q5 => ?_)
        exact g_lret rfl dX1_after_82
      · refine g_eqc (4 : Int32) ?_ (fun e8 => ?_)
        · refine g_tableIn 74 dX1_after_4 (by decide) (by decide) rfl rfl ?_
          refine g_lload_n 1 dX1_after_74 rfl ?_
          refine g_aload_n 0 dX1_after_75 rfl ?_
          refine gf_X1_2 ha0 fl_X1_18 dX1_after_76 ?_
          refine g_callSJ (c_X7_packed σ a1 ((σ.1 102 a0 0))) okX7_packed ⟨by decide, by decide⟩ ml_X1_36 rfl rfl (Nat.le_of_ble_eq_true rfl) dX1_after_79 (fun q7 => ?_)
          exact g_lret rfl dX1_after_82
        · refine g_eqc (5 : Int32) ?_ (fun e11 => ?_)
          · refine g_tableIn 58 dX1_after_4 (by decide) (by decide) rfl rfl ?_
            refine g_lload_n 1 dX1_after_58 rfl ?_
            refine g_aload_n 0 dX1_after_59 rfl ?_
            refine gf_X1_2 ha0 fl_X1_18 dX1_after_60 ?_
            refine g_callSJ (c_X7_packed σ a1 ((σ.1 102 a0 0))) okX7_packed ⟨by decide, by decide⟩ ml_X1_36 rfl rfl (Nat.le_of_ble_eq_true rfl) dX1_after_63 (fun q9 => ?_)
            refine g_aload_n 0 dX1_after_66 rfl ?_
            refine gf_X1_1 ha0 fl_X1_15 dX1_after_67 ?_
            refine g_callSJ (c_X7_packed q9.1 q9.2 ((q9.1.1 101 a0 0))) okX7_packed ⟨by decide, by decide⟩ ml_X1_36 rfl rfl (Nat.le_of_ble_eq_true rfl) dX1_after_70 (fun q10 => ?_)
            exact g_lret rfl dX1_after_73
          · refine g_tableOut 74 dX1_after_4 (by have := lv_neT e1 (a := 1) (by decide); have := lv_neT e4 (a := 2) (by decide); have := lv_neT e6 (a := 3) (by decide); have := lv_neT e8 (a := 4) (by decide); have := lv_neT e11 (a := 5) (by decide); omega) rfl ?_
            refine g_lload_n 1 dX1_after_74 rfl ?_
            refine g_aload_n 0 dX1_after_75 rfl ?_
            refine gf_X1_2 ha0 fl_X1_18 dX1_after_76 ?_
            refine g_callSJ (c_X7_packed σ a1 ((σ.1 102 a0 0))) okX7_packed ⟨by decide, by decide⟩ ml_X1_36 rfl rfl (Nat.le_of_ble_eq_true rfl) dX1_after_79 (fun q12 => ?_)
            exact g_lret rfl dX1_after_82

