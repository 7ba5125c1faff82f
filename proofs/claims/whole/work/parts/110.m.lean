def X7_believed_L70 (x2 : Int32) (x5 : Nat) (k105 : Mem → Int64 → Option (Mem × Int32)) : Nat → Mem → Int64 → Int32 → Option (Mem × Int32)
  | 0, _, _, _ => none
  | n + 1, σ, x6, x8 => (if x2 ≤ x8 then k105 σ x6 else ((X6_earliest σ x6).bind fun q10 => if (lg_cmp q10.2 (-9 : Int64)) = 0 then (some (q10.1, (-9 : Int32))) else (X7_believed_L70 x2 x5 k105 n q10.1 q10.2 ((x8 + (1 : Int32))))))
def X7_believed (σ : Mem) (a1 : Int32) (a2 : Int32) (a3 : Int32) : Option (Mem × Int32) := ((X7_rowOf σ a1).bind fun q1 => spl q1.2 11 ((X7_rowOf q1.1 a3).bind fun q3 => spl q3.2 11 ((some (q3.1, (-1 : Int32)))) (fun r4 => ((some (q3.1, (-1 : Int32)))))) (fun r2 => ((X7_rowOf q1.1 a3).bind fun q5 => spl q5.2 11 (((some (q5.1, (-1 : Int32))))) (fun r6 => (((if a2 < 0 then (some (q5.1, (-1 : Int32))) else (if a2 ≤ (3 : Int32) then ((X7_refuses q5.1 r2 (16 : Int32)).bind fun q7 => if q7.2 = 0 then ((X6_know q7.1 0).bind fun q8 => (X4_pack q8.1 r2).bind fun q9 => X7_believed_L70 a2 r6 (fun (s13 : Mem) (y6_12 : Int64) => ((X4_unpack s13 r6 y6_12).bind fun q14 => some (q14.1, (q14.1.1 401 r6 0)))) FU q9.1 q9.2 (0 : Int32)) else (some (q7.1, (-3 : Int32)))) else (some (q5.1, (-1 : Int32)))))))))))
set_option maxRecDepth 100000 in
set_option maxHeartbeats 4000000 in
theorem t_X7_believed_L70 (X : GX) (x2 : Int32) (x5 : Nat) (hx5 : x5 < 11) (k105 : Mem → Int64 → Option (Mem × Int32)) (hk105 : ∀ (σ : Mem) (y6 : Int64), GS (KM enI X) X mX7_believed σ 105 [(5, .ref (xad X (4 + 2 * x5))), (6, .long y6)] [] (k105 σ y6)) : ∀ (n : Nat) (σ : Mem) (x6 : Int64) (x8 : Int32), GS (KM enI X) X mX7_believed σ 70 [(0, .ref (xad X (0))), (2, .int x2), (5, .ref (xad X (4 + 2 * x5))), (6, .long x6), (8, .int x8)] [] (X7_believed_L70 x2 x5 k105 n σ x6 x8) := by
  intro n
  induction n with
  | zero => intros; exact g_none
  | succ n ih =>
    intro σ x6 x8
    rw [X7_believed_L70]
    refine g_iload 4 dX7_believed_70 rfl ?_
    refine g_iload_n 1 dX7_believed_72 rfl ?_
    refine g_icmp_ge 105 dX7_believed_73 rfl (fun _ => ?_) (fun _ => ?_)
    · refine g_sub [2, 3] rfl ?_
      exact hk105 σ x6
    · refine g_aload_n 0 dX7_believed_76 rfl ?_
      refine gf_X7_5 fl_X7_39 dX7_believed_77 ?_
      refine g_lload 3 dX7_believed_80 rfl ?_
      refine g_callVJ (c_X6_earliest σ x6) okX6_earliest ⟨by decide, by decide⟩ ml_X7_267 sh_85 no_85 rfl rfl [.long x6] rfl rfl rfl (Nat.le_of_ble_eq_true rfl) dX7_believed_82 (fun q10 => ?_)
      refine g_lstore [(6, .long (q10.2)), (0, .ref (xad X (0))), (2, .int x2), (5, .ref (xad X (4 + 2 * x5))), (8, .int x8)] dX7_believed_85 (by decide) rfl ?_
      refine g_lload 0 dX7_believed_87 rfl ?_
      refine g_ldc2 (-9 : Int64) dX7_believed_89 kl_X7_271 ?_
      refine g_lcmp dX7_believed_92 ?_
      refine g_if_ne 99 dX7_believed_93 rfl (fun _ => ?_) (fun _ => ?_)
      · refine g_iinc 4 [(8, .int ((x8 + (1 : Int32)))), (6, .long (q10.2)), (0, .ref (xad X (0))), (2, .int x2), (5, .ref (xad X (4 + 2 * x5)))] dX7_believed_99 rfl (v := x8 + (1 : Int32)) rfl (by decide) rfl ?_
        refine g_goto 70 dX7_believed_102 rfl ?_
        refine g_sub [2, 3, 4, 1, 0] rfl ?_
        exact ih q10.1 q10.2 ((x8 + (1 : Int32)))
      · refine g_bipush (-9 : Int32) dX7_believed_96 (by decide) ?_
        exact g_iret rfl dX7_believed_98

set_option maxRecDepth 100000 in
set_option maxHeartbeats 4000000 in
theorem c_X7_believed (σ : Mem) (a1 : Int32) (a2 : Int32) (a3 : Int32) : CT yX7_believed mX7_believed enI (fun ad => [.ref (ad (0)), .int a1, .int a2, .int a3]) σ (X7_believed σ a1 a2 a3) := by
  refine CT.of (by decide) rfl (fun _ => Nat.le_of_ble_eq_true rfl) (fun X => ?_)
  show GS (KM enI X) X mX7_believed σ 0 [(0, .ref (xad X (0))), (1, .int a1), (2, .int a2), (3, .int a3)] [] _
  unfold X7_believed
  refine g_aload_n 0 dX7_believed_0 rfl ?_
  refine g_iload_n 1 dX7_believed_1 rfl ?_
  refine g_callVG (c_X7_rowOf σ a1) okX7_rowOf ⟨by decide, by decide⟩ ml_X7_93 sh_0 no_0 rfl rfl [.int a1] rfl rfl rfl (Nat.le_of_ble_eq_true rfl) dX7_believed_2 (fun q1 => ?_)
  refine g_spl ?_ (fun r2 hr2 => ?_)
  · refine g_astoreN [(4, .null), (0, .ref (xad X (0))), (1, .int a1), (2, .int a2), (3, .int a3)] dX7_believed_5 (by decide) rfl ?_
    refine g_aload_n 1 dX7_believed_7 rfl ?_
    refine g_iload_n 4 dX7_believed_8 rfl ?_
    refine g_callVG (c_X7_rowOf q1.1 a3) okX7_rowOf ⟨by decide, by decide⟩ ml_X7_93 sh_0 no_0 rfl rfl [.int a3] rfl rfl rfl (Nat.le_of_ble_eq_true rfl) dX7_believed_9 (fun q3 => ?_)
    refine g_spl ?_ (fun r4 hr4 => ?_)
    · refine g_astoreN [(5, .null), (4, .null), (0, .ref (xad X (0))), (1, .int a1), (2, .int a2), (3, .int a3)] dX7_believed_12 (by decide) rfl ?_
      refine g_aloadN 1 dX7_believed_14 rfl ?_
      refine g_ifnullN 33 dX7_believed_16 rfl ?_
      refine g_iconst (-1 : Int32) dX7_believed_33 (by decide) ?_
      exact g_iret rfl dX7_believed_34
    · refine g_astore [(5, .ref (xad X (4 + 2 * r4))), (4, .null), (0, .ref (xad X (0))), (1, .int a1), (2, .int a2), (3, .int a3)] dX7_believed_12 (by decide) rfl ?_
      refine g_aloadN 1 dX7_believed_14 rfl ?_
      refine g_ifnullN 33 dX7_believed_16 rfl ?_
      refine g_iconst (-1 : Int32) dX7_believed_33 (by decide) ?_
      exact g_iret rfl dX7_believed_34
  · refine g_astore [(4, .ref (xad X (4 + 2 * r2))), (0, .ref (xad X (0))), (1, .int a1), (2, .int a2), (3, .int a3)] dX7_believed_5 (by decide) rfl ?_
    refine g_aload_n 1 dX7_believed_7 rfl ?_
    refine g_iload_n 4 dX7_believed_8 rfl ?_
    refine g_callVG (c_X7_rowOf q1.1 a3) okX7_rowOf ⟨by decide, by decide⟩ ml_X7_93 sh_0 no_0 rfl rfl [.int a3] rfl rfl rfl (Nat.le_of_ble_eq_true rfl) dX7_believed_9 (fun q5 => ?_)
    refine g_spl ?_ (fun r6 hr6 => ?_)
    · refine g_astoreN [(5, .null), (4, .ref (xad X (4 + 2 * r2))), (0, .ref (xad X (0))), (1, .int a1), (2, .int a2), (3, .int a3)] dX7_believed_12 (by decide) rfl ?_
      refine g_aload 1 dX7_believed_14 rfl ?_
      refine g_ifnull dX7_believed_16 ?_
      refine g_aloadN 0 dX7_believed_19 rfl ?_
      refine g_ifnullN 33 dX7_believed_21 rfl ?_
      refine g_iconst (-1 : Int32) dX7_believed_33 (by decide) ?_
      exact g_iret rfl dX7_believed_34
    · refine g_astore [(5, .ref (xad X (4 + 2 * r6))), (4, .ref (xad X (4 + 2 * r2))), (0, .ref (xad X (0))), (1, .int a1), (2, .int a2), (3, .int a3)] dX7_believed_12 (by decide) rfl ?_
      refine g_aload 1 dX7_believed_14 rfl ?_
      refine g_ifnull dX7_believed_16 ?_
      refine g_aload 0 dX7_believed_19 rfl ?_
      refine g_ifnull dX7_believed_21 ?_
      refine g_iload_n 4 dX7_believed_24 rfl ?_
      refine g_if_lt 33 dX7_believed_25 rfl (fun _ => ?_) (fun _ => ?_)
      · refine g_iconst (-1 : Int32) dX7_believed_33 (by decide) ?_
        exact g_iret rfl dX7_believed_34
      · refine g_iload_n 4 dX7_believed_28 rfl ?_
        refine g_iconst (3 : Int32) dX7_believed_29 (by decide) ?_
        refine g_icmp_le 35 dX7_believed_30 rfl (fun _ => ?_) (fun _ => ?_)
        · refine g_aload_n 2 dX7_believed_35 rfl ?_
          refine g_aload 1 dX7_believed_36 rfl ?_
          refine g_bipush (16 : Int32) dX7_believed_38 (by decide) ?_
          refine g_callVI (c_X7_refuses q5.1 r2 (16 : Int32)) okX7_refuses ⟨by decide, by decide⟩ ml_X7_202 sh_0 no_0 rfl rfl [.ref (xad X (4 + 2 * r2)), .int ((16 : Int32))] rfl rfl rfl (Nat.le_of_ble_eq_true rfl) dX7_believed_40 (fun q7 => ?_)
          refine g_if_eq 49 dX7_believed_43 rfl (fun _ => ?_) (fun _ => ?_)
          · refine g_aload_n 2 dX7_believed_49 rfl ?_
            refine gf_X7_5 fl_X7_39 dX7_believed_50 ?_
            refine g_aload_n 2 dX7_believed_53 rfl ?_
            refine gf_X7_3 fl_X7_28 dX7_believed_54 ?_
            refine g_callVV (c_X6_know q7.1 0) okX6_know ⟨by decide, by decide⟩ ml_X7_230 sh_85 no_85 rfl rfl [.ref (xad X (69 + 4 * 0))] rfl rfl rfl (Nat.le_of_ble_eq_true rfl) dX7_believed_57 (fun q8 => ?_)
            refine g_aload 1 dX7_believed_60 rfl ?_
            refine g_callVJ (c_X4_pack q8.1 r2) okX4_pack ⟨by decide, by decide⟩ ml_X7_223 (sh_X4 hr2) (no_X4 hr2) rfl rfl [] rfl rfl rfl (Nat.le_of_ble_eq_true rfl) dX7_believed_62 (fun q9 => ?_)
            refine g_lstore [(6, .long (q9.2)), (5, .ref (xad X (4 + 2 * r6))), (4, .ref (xad X (4 + 2 * r2))), (0, .ref (xad X (0))), (1, .int a1), (2, .int a2), (3, .int a3)] dX7_believed_65 (by decide) rfl ?_
            refine g_iconst (0 : Int32) dX7_believed_67 (by decide) ?_
            refine g_istore [(8, .int ((0 : Int32))), (6, .long (q9.2)), (5, .ref (xad X (4 + 2 * r6))), (4, .ref (xad X (4 + 2 * r2))), (0, .ref (xad X (0))), (1, .int a1), (2, .int a2), (3, .int a3)] dX7_believed_68 (by decide) rfl ?_
            refine g_sub [4, 6, 2, 1, 0] rfl ?_
            refine t_X7_believed_L70 X a2 r6 hr6 _ (fun s13 y6_12 => ?_) FU q9.1 q9.2 (0 : Int32)
            refine g_aload 0 dX7_believed_105 rfl ?_
            refine g_lload 1 dX7_believed_107 rfl ?_
            refine g_callVV (c_X4_unpack s13 r6 y6_12) okX4_unpack ⟨by decide, by decide⟩ ml_X7_210 (sh_X4 hr6) (no_X4 hr6) rfl rfl [.long y6_12] rfl rfl rfl (Nat.le_of_ble_eq_true rfl) dX7_believed_109 (fun q14 => ?_)
            refine g_aload 0 dX7_believed_112 rfl ?_
            refine gf_X4_1 hr6 fl_X7_135 dX7_believed_114 ?_
            exact g_iret rfl dX7_believed_117
          · refine g_bipush (-3 : Int32) dX7_believed_46 (by decide) ?_
            exact g_iret rfl dX7_believed_48
        · refine g_iconst (-1 : Int32) dX7_believed_33 (by decide) ?_
          exact g_iret rfl dX7_believed_34

def X7_smallest (σ : Mem) (a1 : Int32) (a2 : Int32) : Option (Mem × Int32) := ((X7_believed σ a1 (1 : Int32) a2).bind fun q1 => some (q1.1, q1.2))
set_option maxRecDepth 100000 in
set_option maxHeartbeats 4000000 in
theorem c_X7_smallest (σ : Mem) (a1 : Int32) (a2 : Int32) : CT yX7_smallest mX7_smallest enI (fun ad => [.ref (ad (0)), .int a1, .int a2]) σ (X7_smallest σ a1 a2) := by
  refine CT.of (by decide) rfl (fun _ => Nat.le_of_ble_eq_true rfl) (fun X => ?_)
  show GS (KM enI X) X mX7_smallest σ 0 [(0, .ref (xad X (0))), (1, .int a1), (2, .int a2)] [] _
  unfold X7_smallest
  refine g_aload_n 0 dX7_smallest_0 rfl ?_
  refine g_iload_n 1 dX7_smallest_1 rfl ?_
  refine g_iconst (1 : Int32) dX7_smallest_2 (by decide) ?_
  refine g_iload_n 2 dX7_smallest_3 rfl ?_
  refine g_callVI (c_X7_believed σ a1 (1 : Int32) a2) okX7_believed ⟨by decide, by decide⟩ ml_X7_245 sh_0 no_0 rfl rfl [.int a1, .int ((1 : Int32)), .int a2] rfl rfl rfl (Nat.le_of_ble_eq_true rfl) dX7_smallest_4 (fun q1 => ?_)
  exact g_iret rfl dX7_smallest_7

def X7_outs (σ : Mem) (a1 : Int32) : Option (Mem × Int32) := (if a1 < 0 then (some (σ, (-1 : Int32))) else (if a1 ≤ (4 : Int32) then ((X6_know σ 0).bind fun q1 => (X0_gather q1.1 a1).bind fun q2 => some (q2.1, (q2.1.1 2 0 0))) else (some (σ, (-1 : Int32)))))
set_option maxRecDepth 100000 in
set_option maxHeartbeats 4000000 in
theorem c_X7_outs (σ : Mem) (a1 : Int32) : CT yX7_outs mX7_outs enI (fun ad => [.ref (ad (0)), .int a1]) σ (X7_outs σ a1) := by
  refine CT.of (by decide) rfl (fun _ => Nat.le_of_ble_eq_true rfl) (fun X => ?_)
  show GS (KM enI X) X mX7_outs σ 0 [(0, .ref (xad X (0))), (1, .int a1)] [] _
  unfold X7_outs
  refine g_iload_n 1 dX7_outs_0 rfl ?_
  refine g_if_lt 9 dX7_outs_1 rfl (fun _ => ?_) (fun _ => ?_)
  · refine g_iconst (-1 : Int32) dX7_outs_9 (by decide) ?_
    exact g_iret rfl dX7_outs_10
  · refine g_iload_n 1 dX7_outs_4 rfl ?_
    refine g_iconst (4 : Int32) dX7_outs_5 (by decide) ?_
    refine g_icmp_le 11 dX7_outs_6 rfl (fun _ => ?_) (fun _ => ?_)
    · refine g_aload_n 0 dX7_outs_11 rfl ?_
      refine gf_X7_5 fl_X7_39 dX7_outs_12 ?_
      refine g_aload_n 0 dX7_outs_15 rfl ?_
      refine gf_X7_3 fl_X7_28 dX7_outs_16 ?_
      refine g_callVV (c_X6_know σ 0) okX6_know ⟨by decide, by decide⟩ ml_X7_230 sh_85 no_85 rfl rfl [.ref (xad X (69 + 4 * 0))] rfl rfl rfl (Nat.le_of_ble_eq_true rfl) dX7_outs_19 (fun q1 => ?_)
      refine g_aload_n 0 dX7_outs_22 rfl ?_
      refine gf_X7_6 fl_X7_46 dX7_outs_23 ?_
      refine g_aload_n 0 dX7_outs_26 rfl ?_
      refine gf_X7_5 fl_X7_39 dX7_outs_27 ?_
      refine g_iload_n 1 dX7_outs_30 rfl ?_
      refine g_callVV (c_X0_gather q1.1 a1) okX0_gather ⟨by decide, by decide⟩ ml_X7_248 sh_90 no_90 rfl rfl [.ref (xad X (85)), .int a1] rfl rfl rfl (Nat.le_of_ble_eq_true rfl) dX7_outs_31 (fun q2 => ?_)
      refine g_aload_n 0 dX7_outs_34 rfl ?_
      refine gf_X7_6 fl_X7_46 dX7_outs_35 ?_
      refine gf_X0_2 fl_X7_252 dX7_outs_38 ?_
      exact g_iret rfl dX7_outs_41
    · refine g_iconst (-1 : Int32) dX7_outs_9 (by decide) ?_
      exact g_iret rfl dX7_outs_10

def X7_twins (σ : Mem) (a1 : Int32) (a2 : Int32) : Option (Mem × Int32) := ((X7_rowOf σ a2).bind fun q1 => spl q1.2 11 ((some (q1.1, (-1 : Int32)))) (fun r2 => ((if a1 < 0 then (some (q1.1, (-1 : Int32))) else (if a1 ≤ (4 : Int32) then ((X6_know q1.1 0).bind fun q3 => (X0_gather q3.1 a1).bind fun q4 => if (q4.1.1 3 0 0) = (-9 : Int32) then (some (q4.1, (-9 : Int32))) else ((X4_renew q4.1 r2 (0 : Int32) (0 : Int32)).bind fun q5 => (X4_addSheet q5.1 r2 ((q5.1.1 3 0 0)) a1).bind fun q6 => (X4_addSheet q6.1 r2 ((q6.1.1 4 0 0)) a1).bind fun q7 => some (q7.1, (1 : Int32)))) else (some (q1.1, (-1 : Int32))))))))
set_option maxRecDepth 100000 in
set_option maxHeartbeats 4000000 in
theorem c_X7_twins (σ : Mem) (a1 : Int32) (a2 : Int32) : CT yX7_twins mX7_twins enI (fun ad => [.ref (ad (0)), .int a1, .int a2]) σ (X7_twins σ a1 a2) := by
  refine CT.of (by decide) rfl (fun _ => Nat.le_of_ble_eq_true rfl) (fun X => ?_)
  show GS (KM enI X) X mX7_twins σ 0 [(0, .ref (xad X (0))), (1, .int a1), (2, .int a2)] [] _
  unfold X7_twins
  refine g_aload_n 0 dX7_twins_0 rfl ?_
  refine g_iload_n 2 dX7_twins_1 rfl ?_
  refine g_callVG (c_X7_rowOf σ a2) okX7_rowOf ⟨by decide, by decide⟩ ml_X7_93 sh_0 no_0 rfl rfl [.int a2] rfl rfl rfl (Nat.le_of_ble_eq_true rfl) dX7_twins_2 (fun q1 => ?_)
  refine g_spl ?_ (fun r2 hr2 => ?_)
  · refine g_astore_nN [(3, .null), (0, .ref (xad X (0))), (1, .int a1), (2, .int a2)] dX7_twins_5 (by decide) rfl ?_
    refine g_aload_nN 0 dX7_twins_6 rfl ?_
    refine g_ifnullN 19 dX7_twins_7 rfl ?_
    refine g_iconst (-1 : Int32) dX7_twins_19 (by decide) ?_
    exact g_iret rfl dX7_twins_20
  · refine g_astore_n [(3, .ref (xad X (4 + 2 * r2))), (0, .ref (xad X (0))), (1, .int a1), (2, .int a2)] dX7_twins_5 (by decide) rfl ?_
    refine g_aload_n 0 dX7_twins_6 rfl ?_
    refine g_ifnull dX7_twins_7 ?_
    refine g_iload_n 2 dX7_twins_10 rfl ?_
    refine g_if_lt 19 dX7_twins_11 rfl (fun _ => ?_) (fun _ => ?_)
    · refine g_iconst (-1 : Int32) dX7_twins_19 (by decide) ?_
      exact g_iret rfl dX7_twins_20
    · refine g_iload_n 2 dX7_twins_14 rfl ?_
      refine g_iconst (4 : Int32) dX7_twins_15 (by decide) ?_
      refine g_icmp_le 21 dX7_twins_16 rfl (fun _ => ?_) (fun _ => ?_)
      · refine g_aload_n 1 dX7_twins_21 rfl ?_
        refine gf_X7_5 fl_X7_39 dX7_twins_22 ?_
        refine g_aload_n 1 dX7_twins_25 rfl ?_
        refine gf_X7_3 fl_X7_28 dX7_twins_26 ?_
        refine g_callVV (c_X6_know q1.1 0) okX6_know ⟨by decide, by decide⟩ ml_X7_230 sh_85 no_85 rfl rfl [.ref (xad X (69 + 4 * 0))] rfl rfl rfl (Nat.le_of_ble_eq_true rfl) dX7_twins_29 (fun q3 => ?_)
        refine g_aload_n 1 dX7_twins_32 rfl ?_
        refine gf_X7_6 fl_X7_46 dX7_twins_33 ?_
        refine g_aload_n 1 dX7_twins_36 rfl ?_
        refine gf_X7_5 fl_X7_39 dX7_twins_37 ?_
        refine g_iload_n 2 dX7_twins_40 rfl ?_
        refine g_callVV (c_X0_gather q3.1 a1) okX0_gather ⟨by decide, by decide⟩ ml_X7_248 sh_90 no_90 rfl rfl [.ref (xad X (85)), .int a1] rfl rfl rfl (Nat.le_of_ble_eq_true rfl) dX7_twins_41 (fun q4 => ?_)
        refine g_aload_n 1 dX7_twins_44 rfl ?_
        refine gf_X7_6 fl_X7_46 dX7_twins_45 ?_
        refine gf_X0_3 fl_X7_255 dX7_twins_48 ?_
        refine g_bipush (-9 : Int32) dX7_twins_51 (by decide) ?_
        refine g_icmp_ne 59 dX7_twins_53 rfl (fun _ => ?_) (fun _ => ?_)
        · refine g_aload_n 0 dX7_twins_59 rfl ?_
          refine g_iconst (0 : Int32) dX7_twins_60 (by decide) ?_
          refine g_iconst (0 : Int32) dX7_twins_61 (by decide) ?_
          refine g_callVV (c_X4_renew q4.1 r2 (0 : Int32) (0 : Int32)) okX4_renew ⟨by decide, by decide⟩ ml_X7_101 (sh_X4 hr2) (no_X4 hr2) rfl rfl [.int ((0 : Int32)), .int ((0 : Int32))] rfl rfl rfl (Nat.le_of_ble_eq_true rfl) dX7_twins_62 (fun q5 => ?_)
          refine g_aload_n 0 dX7_twins_65 rfl ?_
          refine g_aload_n 1 dX7_twins_66 rfl ?_
          refine gf_X7_6 fl_X7_46 dX7_twins_67 ?_
          refine gf_X0_3 fl_X7_255 dX7_twins_70 ?_
          refine g_iload_n 2 dX7_twins_73 rfl ?_
          refine g_callVV (c_X4_addSheet q5.1 r2 ((q5.1.1 3 0 0)) a1) okX4_addSheet ⟨by decide, by decide⟩ ml_X7_258 (sh_X4 hr2) (no_X4 hr2) rfl rfl [.int ((q5.1.1 3 0 0)), .int a1] rfl rfl rfl (Nat.le_of_ble_eq_true rfl) dX7_twins_74 (fun q6 => ?_)
          refine g_aload_n 0 dX7_twins_77 rfl ?_
          refine g_aload_n 1 dX7_twins_78 rfl ?_
          refine gf_X7_6 fl_X7_46 dX7_twins_79 ?_
          refine gf_X0_4 fl_X7_261 dX7_twins_82 ?_
          refine g_iload_n 2 dX7_twins_85 rfl ?_
          refine g_callVV (c_X4_addSheet q6.1 r2 ((q6.1.1 4 0 0)) a1) okX4_addSheet ⟨by decide, by decide⟩ ml_X7_258 (sh_X4 hr2) (no_X4 hr2) rfl rfl [.int ((q6.1.1 4 0 0)), .int a1] rfl rfl rfl (Nat.le_of_ble_eq_true rfl) dX7_twins_86 (fun q7 => ?_)
          refine g_iconst (1 : Int32) dX7_twins_89 (by decide) ?_
          exact g_iret rfl dX7_twins_90
        · refine g_bipush (-9 : Int32) dX7_twins_56 (by decide) ?_
          exact g_iret rfl dX7_twins_58
      · refine g_iconst (-1 : Int32) dX7_twins_19 (by decide) ?_
        exact g_iret rfl dX7_twins_20

def X7_harmless (σ : Mem) (a1 : Int32) (a2 : Int32) : Option (Mem × Int32) := (if a1 < 0 then (some (σ, (-1 : Int32))) else (if (64 : Int32) ≤ a1 then (some (σ, (-1 : Int32))) else (if a2 < 0 then (some (σ, (-1 : Int32))) else (if a2 ≤ (6 : Int32) then ((X6_know σ 0).bind fun q1 => (X6_manyWithout q1.1 a1 a2).bind fun q2 => (X7_tell q2.1 (q2.2.toInt64) (1 : Int64)).bind fun q3 => some (q3.1, (1 : Int32))) else (some (σ, (-1 : Int32)))))))
set_option maxRecDepth 100000 in
set_option maxHeartbeats 4000000 in
theorem c_X7_harmless (σ : Mem) (a1 : Int32) (a2 : Int32) : CT yX7_harmless mX7_harmless enI (fun ad => [.ref (ad (0)), .int a1, .int a2]) σ (X7_harmless σ a1 a2) := by
  refine CT.of (by decide) rfl (fun _ => Nat.le_of_ble_eq_true rfl) (fun X => ?_)
  show GS (KM enI X) X mX7_harmless σ 0 [(0, .ref (xad X (0))), (1, .int a1), (2, .int a2)] [] _
  unfold X7_harmless
  refine g_iload_n 1 dX7_harmless_0 rfl ?_
  refine g_if_lt 20 dX7_harmless_1 rfl (fun _ => ?_) (fun _ => ?_)
  · refine g_iconst (-1 : Int32) dX7_harmless_20 (by decide) ?_
    exact g_iret rfl dX7_harmless_21
  · refine g_iload_n 1 dX7_harmless_4 rfl ?_
    refine g_bipush (64 : Int32) dX7_harmless_5 (by decide) ?_
    refine g_icmp_ge 20 dX7_harmless_7 rfl (fun _ => ?_) (fun _ => ?_)
    · refine g_iconst (-1 : Int32) dX7_harmless_20 (by decide) ?_
      exact g_iret rfl dX7_harmless_21
    · refine g_iload_n 2 dX7_harmless_10 rfl ?_
      refine g_if_lt 20 dX7_harmless_11 rfl (fun _ => ?_) (fun _ => ?_)
      · refine g_iconst (-1 : Int32) dX7_harmless_20 (by decide) ?_
        exact g_iret rfl dX7_harmless_21
      · refine g_iload_n 2 dX7_harmless_14 rfl ?_
        refine g_bipush (6 : Int32) dX7_harmless_15 (by decide) ?_
        refine g_icmp_le 22 dX7_harmless_17 rfl (fun _ => ?_) (fun _ => ?_)
        · refine g_aload_n 0 dX7_harmless_22 rfl ?_
          refine gf_X7_5 fl_X7_39 dX7_harmless_23 ?_
          refine g_aload_n 0 dX7_harmless_26 rfl ?_
          refine gf_X7_3 fl_X7_28 dX7_harmless_27 ?_
          refine g_callVV (c_X6_know σ 0) okX6_know ⟨by decide, by decide⟩ ml_X7_230 sh_85 no_85 rfl rfl [.ref (xad X (69 + 4 * 0))] rfl rfl rfl (Nat.le_of_ble_eq_true rfl) dX7_harmless_30 (fun q1 => ?_)
          refine g_aload_n 0 dX7_harmless_33 rfl ?_
          refine g_aload_n 0 dX7_harmless_34 rfl ?_
          refine gf_X7_5 fl_X7_39 dX7_harmless_35 ?_
          refine g_iload_n 1 dX7_harmless_38 rfl ?_
          refine g_iload_n 2 dX7_harmless_39 rfl ?_
          refine g_callVI (c_X6_manyWithout q1.1 a1 a2) okX6_manyWithout ⟨by decide, by decide⟩ ml_X7_264 sh_85 no_85 rfl rfl [.int a1, .int a2] rfl rfl rfl (Nat.le_of_ble_eq_true rfl) dX7_harmless_40 (fun q2 => ?_)
          refine g_i2l dX7_harmless_43 ?_
          refine g_lconst (1 : Int64) dX7_harmless_44 (by decide) ?_
          refine g_callVV (c_X7_tell q2.1 (q2.2.toInt64) (1 : Int64)) okX7_tell ⟨by decide, by decide⟩ ml_X7_242 sh_0 no_0 rfl rfl [.long (q2.2.toInt64), .long ((1 : Int64))] rfl rfl rfl (Nat.le_of_ble_eq_true rfl) dX7_harmless_45 (fun q3 => ?_)
          refine g_iconst (1 : Int32) dX7_harmless_48 (by decide) ?_
          exact g_iret rfl dX7_harmless_49
        · refine g_iconst (-1 : Int32) dX7_harmless_20 (by decide) ?_
          exact g_iret rfl dX7_harmless_21

def X7_setsWithout_L6 (x0 : Int32) (k47 : Mem → Int64 → Option (Mem × Int64)) : Nat → Mem → Int64 → Int32 → Option (Mem × Int64)
  | 0, _, _, _ => none
  | n + 1, σ, x1, x3 => (if (6 : Int32) ≤ x3 then k47 σ x1 else (if ((x0 >>> (x3 &&& 31)) &&& (1 : Int32)) = (1 : Int32) then (ck x3 6 <| (lt_ ((x1 &&& ((HVV x3.toNatClampNeg) ^^^ (-1 : Int64)))) fun (v3 : Int64) => X7_setsWithout_L6 x0 k47 n σ v3 ((x3 + (1 : Int32))))) else (lt_ ((x1 &&& (-1 : Int64))) fun (v1 : Int64) => X7_setsWithout_L6 x0 k47 n σ v1 ((x3 + (1 : Int32))))))
def X7_setsWithout (σ : Mem) (a0 : Int32) : Option (Mem × Int64) := (X7_setsWithout_L6 a0 (fun (s6 : Mem) (y1_5 : Int64) => (some (s6, y1_5))) FU σ (-1 : Int64) (0 : Int32))
set_option maxRecDepth 100000 in
set_option maxHeartbeats 4000000 in
theorem t_X7_setsWithout_L6 (X : GX) (x0 : Int32) (k47 : Mem → Int64 → Option (Mem × Int64)) (hk47 : ∀ (σ : Mem) (y1 : Int64), GS (KM enJ X) X mX7_setsWithout σ 47 [(1, .long y1)] [] (k47 σ y1)) : ∀ (n : Nat) (σ : Mem) (x1 : Int64) (x3 : Int32), GS (KM enJ X) X mX7_setsWithout σ 6 [(0, .int x0), (1, .long x1), (3, .int x3)] [] (X7_setsWithout_L6 x0 k47 n σ x1 x3) := by
  intro n
  induction n with
  | zero => intros; exact g_none
  | succ n ih =>
    intro σ x1 x3
    rw [X7_setsWithout_L6]
    refine g_iload_n 2 dX7_setsWithout_6 rfl ?_
    refine g_gets2 fl_X7_369 dX7_setsWithout_7 ?_
    refine g_tlen2 dX7_setsWithout_10 ?_
    refine g_icmp_ge 47 dX7_setsWithout_11 rfl (fun _ => ?_) (fun _ => ?_)
    · refine g_sub [1] rfl ?_
      exact hk47 σ x1
    · refine g_lload_n 1 dX7_setsWithout_14 rfl ?_
      refine g_iload_n 0 dX7_setsWithout_15 rfl ?_
      refine g_iload_n 2 dX7_setsWithout_16 rfl ?_
      refine g_ishr dX7_setsWithout_17 ?_
      refine g_iconst (1 : Int32) dX7_setsWithout_18 (by decide) ?_
      refine g_iand dX7_setsWithout_19 ?_
      refine g_iconst (1 : Int32) dX7_setsWithout_20 (by decide) ?_
      refine g_icmp_ne 36 dX7_setsWithout_21 rfl (fun _ => ?_) (fun _ => ?_)
      · refine g_ldc2 (-1 : Int64) dX7_setsWithout_36 kl_X7_367 ?_
        refine g_land dX7_setsWithout_39 ?_
        refine g_topl (fun v1 => ?_)
        refine g_lstore_n [(1, .long v1), (0, .int x0), (3, .int x3)] dX7_setsWithout_40 (by decide) rfl ?_
        refine g_iinc 2 [(3, .int ((x3 + (1 : Int32)))), (1, .long v1), (0, .int x0)] dX7_setsWithout_41 rfl (v := x3 + (1 : Int32)) rfl (by decide) rfl ?_
        refine g_goto 6 dX7_setsWithout_44 rfl ?_
        refine g_sub [2, 1, 0] rfl ?_
        exact ih σ v1 ((x3 + (1 : Int32)))
      · refine g_gets2 fl_X7_369 dX7_setsWithout_24 ?_
        refine g_iload_n 2 dX7_setsWithout_27 rfl ?_
        refine g_tald2 dX7_setsWithout_28 (fun _ => ?_)
        refine g_ldc2 (-1 : Int64) dX7_setsWithout_29 kl_X7_367 ?_
        refine g_lxor dX7_setsWithout_32 ?_
        refine g_goto 39 dX7_setsWithout_33 rfl ?_
        refine g_land dX7_setsWithout_39 ?_
        refine g_topl (fun v3 => ?_)
        refine g_lstore_n [(1, .long v3), (0, .int x0), (3, .int x3)] dX7_setsWithout_40 (by decide) rfl ?_
        refine g_iinc 2 [(3, .int ((x3 + (1 : Int32)))), (1, .long v3), (0, .int x0)] dX7_setsWithout_41 rfl (v := x3 + (1 : Int32)) rfl (by decide) rfl ?_
        refine g_goto 6 dX7_setsWithout_44 rfl ?_
        refine g_sub [2, 1, 0] rfl ?_
        exact ih σ v3 ((x3 + (1 : Int32)))

set_option maxRecDepth 100000 in
set_option maxHeartbeats 4000000 in
theorem c_X7_setsWithout (σ : Mem) (a0 : Int32) : CT yX7_setsWithout mX7_setsWithout enJ (fun ad => [.int a0]) σ (X7_setsWithout σ a0) := by
  refine CT.of (by decide) rfl (fun _ => Nat.le_of_ble_eq_true rfl) (fun X => ?_)
  show GS (KM enJ X) X mX7_setsWithout σ 0 [(0, .int a0)] [] _
  unfold X7_setsWithout
  refine g_ldc2 (-1 : Int64) dX7_setsWithout_0 kl_X7_367 ?_
  refine g_lstore_n [(1, .long ((-1 : Int64))), (0, .int a0)] dX7_setsWithout_3 (by decide) rfl ?_
  refine g_iconst (0 : Int32) dX7_setsWithout_4 (by decide) ?_
  refine g_istore_n [(3, .int ((0 : Int32))), (1, .long ((-1 : Int64))), (0, .int a0)] dX7_setsWithout_5 (by decide) rfl ?_
  refine g_sub [2, 1, 0] rfl ?_
  refine t_X7_setsWithout_L6 X a0 _ (fun s6 y1_5 => ?_) FU σ (-1 : Int64) (0 : Int32)
  refine g_lload_n 0 dX7_setsWithout_47 rfl ?_
  exact g_lret rfl dX7_setsWithout_48

def X7_forbid_L59 (x3 : Int64) (k105 : Mem → Int32 → Int32 → Option (Mem × Int32)) : Nat → Mem → Int32 → Int32 → Int32 → Option (Mem × Int32)
  | 0, _, _, _, _ => none
  | n + 1, σ, x5, x6, x7 => (if (64 : Int32) ≤ x7 then k105 σ x5 x6 else ((J6_bitCount_0f7a4 σ x7).bind fun q7 => if x5 ≤ q7.2 then (X7_forbid_L59 x3 k105 n q7.1 x5 x6 ((x7 + (1 : Int32)))) else ((X7_setsWithout q7.1 x7).bind fun q9 => if (lg_cmp (x3 &&& q9.2) (0 : Int64)) = 0 then ((J6_bitCount_0f7a4 q9.1 x7).bind fun q11 => X7_forbid_L59 x3 k105 n q11.1 q11.2 x7 ((x7 + (1 : Int32)))) else (X7_forbid_L59 x3 k105 n q9.1 x5 x6 ((x7 + (1 : Int32)))))))
def X7_forbid (σ : Mem) (a1 : Int32) : Option (Mem × Int32) := ((X7_rowOf σ a1).bind fun q1 => spl q1.2 11 ((some (q1.1, (-1 : Int32)))) (fun r2 => (((X7_refuses q1.1 r2 (16 : Int32)).bind fun q3 => if q3.2 = 0 then ((X6_know q3.1 0).bind fun q4 => (X4_pack q4.1 r2).bind fun q5 => (X6_usedFor q5.1 q5.2).bind fun q6 => X7_forbid_L59 q6.2 (fun (s14 : Mem) (y5_13 : Int32) (y6_13 : Int32) => (if y6_13 = (-9 : Int32) then (some (s14, (-9 : Int32))) else (some ((uI s14 713 0 0 y6_13), y5_13)))) FU q6.1 (7 : Int32) (-9 : Int32) (0 : Int32)) else (some (q3.1, (-3 : Int32)))))))
set_option maxRecDepth 100000 in
set_option maxHeartbeats 4000000 in
theorem t_X7_forbid_L59 (X : GX) (x3 : Int64) (k105 : Mem → Int32 → Int32 → Option (Mem × Int32)) (hk105 : ∀ (σ : Mem) (y5 : Int32) (y6 : Int32), GS (KM enI X) X mX7_forbid σ 105 [(0, .ref (xad X (0))), (5, .int y5), (6, .int y6)] [] (k105 σ y5 y6)) : ∀ (n : Nat) (σ : Mem) (x5 : Int32) (x6 : Int32) (x7 : Int32), GS (KM enI X) X mX7_forbid σ 59 [(0, .ref (xad X (0))), (3, .long x3), (5, .int x5), (6, .int x6), (7, .int x7)] [] (X7_forbid_L59 x3 k105 n σ x5 x6 x7) := by
  intro n
  induction n with
  | zero => intros; exact g_none
  | succ n ih =>
    intro σ x5 x6 x7
    rw [X7_forbid_L59]
    refine g_iload 4 dX7_forbid_59 rfl ?_
    refine g_bipush (64 : Int32) dX7_forbid_61 (by decide) ?_
    refine g_icmp_ge 105 dX7_forbid_63 rfl (fun _ => ?_) (fun _ => ?_)
    · refine g_sub [0, 2, 3] rfl ?_
      exact hk105 σ x5 x6
    · refine g_iload 4 dX7_forbid_66 rfl ?_
      refine g_callSI (c_J6_bitCount_0f7a4 σ x7) okJ6_bitCount_0f7a4 ⟨by decide, by decide⟩ ml_X7_276 rfl rfl (Nat.le_of_ble_eq_true rfl) dX7_forbid_68 (fun q7 => ?_)
      refine g_iload 2 dX7_forbid_71 rfl ?_
      refine g_icmp_ge 99 dX7_forbid_73 rfl (fun _ => ?_) (fun _ => ?_)
      · refine g_iinc 4 [(7, .int ((x7 + (1 : Int32)))), (0, .ref (xad X (0))), (3, .long x3), (5, .int x5), (6, .int x6)] dX7_forbid_99 rfl (v := x7 + (1 : Int32)) rfl (by decide) rfl ?_
        refine g_goto 59 dX7_forbid_102 rfl ?_
        refine g_sub [1, 2, 3, 4, 0] rfl ?_
        exact ih q7.1 x5 x6 ((x7 + (1 : Int32)))
      · refine g_lload_n 1 dX7_forbid_76 rfl ?_
        refine g_iload 4 dX7_forbid_77 rfl ?_
        refine g_callSJ (c_X7_setsWithout q7.1 x7) okX7_setsWithout ⟨by decide, by decide⟩ ml_X7_281 rfl rfl (Nat.le_of_ble_eq_true rfl) dX7_forbid_79 (fun q9 => ?_)
        refine g_land dX7_forbid_82 ?_
        refine g_lconst (0 : Int64) dX7_forbid_83 (by decide) ?_
        refine g_lcmp dX7_forbid_84 ?_
        refine g_if_ne 99 dX7_forbid_85 rfl (fun _ => ?_) (fun _ => ?_)
        · refine g_iinc 4 [(7, .int ((x7 + (1 : Int32)))), (0, .ref (xad X (0))), (3, .long x3), (5, .int x5), (6, .int x6)] dX7_forbid_99 rfl (v := x7 + (1 : Int32)) rfl (by decide) rfl ?_
          refine g_goto 59 dX7_forbid_102 rfl ?_
          refine g_sub [1, 2, 3, 4, 0] rfl ?_
          exact ih q9.1 x5 x6 ((x7 + (1 : Int32)))
        · refine g_iload 4 dX7_forbid_88 rfl ?_
          refine g_callSI (c_J6_bitCount_0f7a4 q9.1 x7) okJ6_bitCount_0f7a4 ⟨by decide, by decide⟩ ml_X7_276 rfl rfl (Nat.le_of_ble_eq_true rfl) dX7_forbid_90 (fun q11 => ?_)
          refine g_istore [(5, .int (q11.2)), (0, .ref (xad X (0))), (3, .long x3), (6, .int x6), (7, .int x7)] dX7_forbid_93 (by decide) rfl ?_
          refine g_iload 4 dX7_forbid_95 rfl ?_
          refine g_istore [(6, .int x7), (5, .int (q11.2)), (0, .ref (xad X (0))), (3, .long x3), (7, .int x7)] dX7_forbid_97 (by decide) rfl ?_
          refine g_iinc 4 [(7, .int ((x7 + (1 : Int32)))), (6, .int x7), (5, .int (q11.2)), (0, .ref (xad X (0))), (3, .long x3)] dX7_forbid_99 rfl (v := x7 + (1 : Int32)) rfl (by decide) rfl ?_
          refine g_goto 59 dX7_forbid_102 rfl ?_
          refine g_sub [3, 4, 2, 1, 0] rfl ?_
          exact ih q11.1 q11.2 x7 ((x7 + (1 : Int32)))

set_option maxRecDepth 100000 in
set_option maxHeartbeats 4000000 in
theorem c_X7_forbid (σ : Mem) (a1 : Int32) : CT yX7_forbid mX7_forbid enI (fun ad => [.ref (ad (0)), .int a1]) σ (X7_forbid σ a1) := by
  refine CT.of (by decide) rfl (fun _ => Nat.le_of_ble_eq_true rfl) (fun X => ?_)
  show GS (KM enI X) X mX7_forbid σ 0 [(0, .ref (xad X (0))), (1, .int a1)] [] _
  unfold X7_forbid
  refine g_aload_n 0 dX7_forbid_0 rfl ?_
  refine g_iload_n 1 dX7_forbid_1 rfl ?_
  refine g_callVG (c_X7_rowOf σ a1) okX7_rowOf ⟨by decide, by decide⟩ ml_X7_93 sh_0 no_0 rfl rfl [.int a1] rfl rfl rfl (Nat.le_of_ble_eq_true rfl) dX7_forbid_2 (fun q1 => ?_)
  refine g_spl ?_ (fun r2 hr2 => ?_)
  · refine g_astore_nN [(2, .null), (0, .ref (xad X (0))), (1, .int a1)] dX7_forbid_5 (by decide) rfl ?_
    refine g_aload_nN 0 dX7_forbid_6 rfl ?_
    refine g_ifnonnullN dX7_forbid_7 ?_
    refine g_iconst (-1 : Int32) dX7_forbid_10 (by decide) ?_
    exact g_iret rfl dX7_forbid_11
  · refine g_astore_n [(2, .ref (xad X (4 + 2 * r2))), (0, .ref (xad X (0))), (1, .int a1)] dX7_forbid_5 (by decide) rfl ?_
    refine g_aload_n 0 dX7_forbid_6 rfl ?_
    refine g_ifnonnull 12 dX7_forbid_7 rfl ?_
    refine g_aload_n 1 dX7_forbid_12 rfl ?_
    refine g_aload_n 0 dX7_forbid_13 rfl ?_
    refine g_bipush (16 : Int32) dX7_forbid_14 (by decide) ?_
    refine g_callVI (c_X7_refuses q1.1 r2 (16 : Int32)) okX7_refuses ⟨by decide, by decide⟩ ml_X7_202 sh_0 no_0 rfl rfl [.ref (xad X (4 + 2 * r2)), .int ((16 : Int32))] rfl rfl rfl (Nat.le_of_ble_eq_true rfl) dX7_forbid_16 (fun q3 => ?_)
    refine g_if_eq 25 dX7_forbid_19 rfl (fun _ => ?_) (fun _ => ?_)
    · refine g_aload_n 1 dX7_forbid_25 rfl ?_
      refine gf_X7_5 fl_X7_39 dX7_forbid_26 ?_
      refine g_aload_n 1 dX7_forbid_29 rfl ?_
      refine gf_X7_3 fl_X7_28 dX7_forbid_30 ?_
      refine g_callVV (c_X6_know q3.1 0) okX6_know ⟨by decide, by decide⟩ ml_X7_230 sh_85 no_85 rfl rfl [.ref (xad X (69 + 4 * 0))] rfl rfl rfl (Nat.le_of_ble_eq_true rfl) dX7_forbid_33 (fun q4 => ?_)
      refine g_aload_n 1 dX7_forbid_36 rfl ?_
      refine gf_X7_5 fl_X7_39 dX7_forbid_37 ?_
      refine g_aload_n 0 dX7_forbid_40 rfl ?_
      refine g_callVJ (c_X4_pack q4.1 r2) okX4_pack ⟨by decide, by decide⟩ ml_X7_223 (sh_X4 hr2) (no_X4 hr2) rfl rfl [] rfl rfl rfl (Nat.le_of_ble_eq_true rfl) dX7_forbid_41 (fun q5 => ?_)
      refine g_callVJ (c_X6_usedFor q5.1 q5.2) okX6_usedFor ⟨by decide, by decide⟩ ml_X7_273 sh_85 no_85 rfl rfl [.long (q5.2)] rfl rfl rfl (Nat.le_of_ble_eq_true rfl) dX7_forbid_44 (fun q6 => ?_)
      refine g_lstore_n [(3, .long (q6.2)), (2, .ref (xad X (4 + 2 * r2))), (0, .ref (xad X (0))), (1, .int a1)] dX7_forbid_47 (by decide) rfl ?_
      refine g_bipush (7 : Int32) dX7_forbid_48 (by decide) ?_
      refine g_istore [(5, .int ((7 : Int32))), (3, .long (q6.2)), (2, .ref (xad X (4 + 2 * r2))), (0, .ref (xad X (0))), (1, .int a1)] dX7_forbid_50 (by decide) rfl ?_
      refine g_bipush (-9 : Int32) dX7_forbid_52 (by decide) ?_
      refine g_istore [(6, .int ((-9 : Int32))), (5, .int ((7 : Int32))), (3, .long (q6.2)), (2, .ref (xad X (4 + 2 * r2))), (0, .ref (xad X (0))), (1, .int a1)] dX7_forbid_54 (by decide) rfl ?_
      refine g_iconst (0 : Int32) dX7_forbid_56 (by decide) ?_
      refine g_istore [(7, .int ((0 : Int32))), (6, .int ((-9 : Int32))), (5, .int ((7 : Int32))), (3, .long (q6.2)), (2, .ref (xad X (4 + 2 * r2))), (0, .ref (xad X (0))), (1, .int a1)] dX7_forbid_57 (by decide) rfl ?_
      refine g_sub [5, 3, 2, 1, 0] rfl ?_
      refine t_X7_forbid_L59 X q6.2 _ (fun s14 y5_13 y6_13 => ?_) FU q6.1 (7 : Int32) (-9 : Int32) (0 : Int32)
      refine g_iload 2 dX7_forbid_105 rfl ?_
      refine g_bipush (-9 : Int32) dX7_forbid_107 (by decide) ?_
      refine g_icmp_ne 115 dX7_forbid_109 rfl (fun _ => ?_) (fun _ => ?_)
      · refine g_aload_n 0 dX7_forbid_115 rfl ?_
        refine g_iload 2 dX7_forbid_116 rfl ?_
        refine pf_X7_13 fl_X7_83 dX7_forbid_118 ?_
        refine g_iload 1 dX7_forbid_121 rfl ?_
        exact g_iret rfl dX7_forbid_123
      · refine g_bipush (-9 : Int32) dX7_forbid_112 (by decide) ?_
        exact g_iret rfl dX7_forbid_114
    · refine g_bipush (-3 : Int32) dX7_forbid_22 (by decide) ?_
      exact g_iret rfl dX7_forbid_24

