def X7_again_L74 (x2 : Int32) (x5 : Nat) (x6 : Int32) (k121 : Mem → Option (Mem × Int32)) : Nat → Mem → Int32 → Option (Mem × Int32)
  | 0, _, _ => none
  | n + 1, σ, x7 => (if x2 ≤ x7 then k121 σ else (if (σ.1 401 10 0) ≤ (8 : Int32) then ((X2_outOf σ 0 10 x6).bind fun q11 => (X4_unpack q11.1 10 q11.2).bind fun q12 => X7_again_L74 x2 x5 x6 k121 n q12.1 ((x7 + (1 : Int32)))) else (some (σ, (-6 : Int32)))))
def X7_again (σ : Mem) (a1 : Int32) (a2 : Int32) (a3 : Int32) : Option (Mem × Int32) := ((X7_rowOf σ a1).bind fun q1 => spl q1.2 11 ((X7_rowOf q1.1 a3).bind fun q3 => spl q3.2 11 ((some (q3.1, (-1 : Int32)))) (fun r4 => ((some (q3.1, (-1 : Int32)))))) (fun r2 => ((X7_rowOf q1.1 a3).bind fun q5 => spl q5.2 11 (((some (q5.1, (-1 : Int32))))) (fun r6 => (((if a2 < 0 then (some (q5.1, (-1 : Int32))) else (if a2 ≤ (9 : Int32) then ((X7_refuses q5.1 r2 (8 : Int32)).bind fun q7 => if q7.2 = 0 then ((X2_onSet q7.1 0).bind fun q8 => (X4_pack q8.1 r2).bind fun q9 => (X4_unpack q9.1 10 q9.2).bind fun q10 => X7_again_L74 a2 r6 q8.2 (fun (s15 : Mem) => ((X4_pack s15 10).bind fun q16 => (X4_unpack q16.1 r6 q16.2).bind fun q17 => some (q17.1, (q17.1.1 401 r6 0)))) FU q10.1 (0 : Int32)) else (some (q7.1, (-3 : Int32)))) else (some (q5.1, (-1 : Int32)))))))))))
set_option maxRecDepth 100000 in
set_option maxHeartbeats 4000000 in
theorem t_X7_again_L74 (X : GX) (x2 : Int32) (x5 : Nat) (x6 : Int32) (hx5 : x5 < 11) (k121 : Mem → Option (Mem × Int32)) (hk121 : ∀ (σ : Mem), GS (KM enI X) X mX7_again σ 121 [(0, .ref (xad X (0))), (5, .ref (xad X (4 + 2 * x5)))] [] (k121 σ)) : ∀ (n : Nat) (σ : Mem) (x7 : Int32), GS (KM enI X) X mX7_again σ 74 [(0, .ref (xad X (0))), (2, .int x2), (5, .ref (xad X (4 + 2 * x5))), (6, .int x6), (7, .int x7)] [] (X7_again_L74 x2 x5 x6 k121 n σ x7) := by
  intro n
  induction n with
  | zero => intros; exact g_none
  | succ n ih =>
    intro σ x7
    rw [X7_again_L74]
    refine g_iload 4 dX7_again_74 rfl ?_
    refine g_iload_n 1 dX7_again_76 rfl ?_
    refine g_icmp_ge 121 dX7_again_77 rfl (fun _ => ?_) (fun _ => ?_)
    · refine g_sub [0, 2] rfl ?_
      exact hk121 σ
    · refine g_aload_n 0 dX7_again_80 rfl ?_
      refine gf_X7_7 fl_X7_53 dX7_again_81 ?_
      refine gf_X4_1 (by decide) fl_X7_135 dX7_again_84 ?_
      refine g_bipush (8 : Int32) dX7_again_87 (by decide) ?_
      refine g_icmp_le 95 dX7_again_89 rfl (fun _ => ?_) (fun _ => ?_)
      · refine g_aload_n 0 dX7_again_95 rfl ?_
        refine gf_X7_7 fl_X7_53 dX7_again_96 ?_
        refine g_aload_n 0 dX7_again_99 rfl ?_
        refine gf_X7_3 fl_X7_28 dX7_again_100 ?_
        refine g_aload_n 0 dX7_again_103 rfl ?_
        refine gf_X7_7 fl_X7_53 dX7_again_104 ?_
        refine g_iload 3 dX7_again_107 rfl ?_
        refine g_callVJ (c_X2_outOf σ 0 10 x6) okX2_outOf ⟨by decide, by decide⟩ ml_X7_206 (sh_X2 (by decide)) (no_X2 (by decide)) rfl rfl [.ref (xad X (4 + 2 * 10)), .int x6] rfl rfl rfl (Nat.le_of_ble_eq_true rfl) dX7_again_109 (fun q11 => ?_)
        refine g_callVV (c_X4_unpack q11.1 10 q11.2) okX4_unpack ⟨by decide, by decide⟩ ml_X7_210 (sh_X4 (by decide)) (no_X4 (by decide)) rfl rfl [.long (q11.2)] rfl rfl rfl (Nat.le_of_ble_eq_true rfl) dX7_again_112 (fun q12 => ?_)
        refine g_iinc 4 [(7, .int ((x7 + (1 : Int32)))), (0, .ref (xad X (0))), (2, .int x2), (5, .ref (xad X (4 + 2 * x5))), (6, .int x6)] dX7_again_115 rfl (v := x7 + (1 : Int32)) rfl (by decide) rfl ?_
        refine g_goto 74 dX7_again_118 rfl ?_
        refine g_sub [1, 2, 3, 4, 0] rfl ?_
        exact ih q12.1 ((x7 + (1 : Int32)))
      · refine g_bipush (-6 : Int32) dX7_again_92 (by decide) ?_
        exact g_iret rfl dX7_again_94

set_option maxRecDepth 100000 in
set_option maxHeartbeats 4000000 in
theorem c_X7_again (σ : Mem) (a1 : Int32) (a2 : Int32) (a3 : Int32) : CT yX7_again mX7_again enI (fun ad => [.ref (ad (0)), .int a1, .int a2, .int a3]) σ (X7_again σ a1 a2 a3) := by
  refine CT.of (by decide) rfl (fun _ => Nat.le_of_ble_eq_true rfl) (fun X => ?_)
  show GS (KM enI X) X mX7_again σ 0 [(0, .ref (xad X (0))), (1, .int a1), (2, .int a2), (3, .int a3)] [] _
  unfold X7_again
  refine g_aload_n 0 dX7_again_0 rfl ?_
  refine g_iload_n 1 dX7_again_1 rfl ?_
  refine g_callVG (c_X7_rowOf σ a1) okX7_rowOf ⟨by decide, by decide⟩ ml_X7_93 sh_0 no_0 rfl rfl [.int a1] rfl rfl rfl (Nat.le_of_ble_eq_true rfl) dX7_again_2 (fun q1 => ?_)
  refine g_spl ?_ (fun r2 hr2 => ?_)
  · refine g_astoreN [(4, .null), (0, .ref (xad X (0))), (1, .int a1), (2, .int a2), (3, .int a3)] dX7_again_5 (by decide) rfl ?_
    refine g_aload_n 1 dX7_again_7 rfl ?_
    refine g_iload_n 4 dX7_again_8 rfl ?_
    refine g_callVG (c_X7_rowOf q1.1 a3) okX7_rowOf ⟨by decide, by decide⟩ ml_X7_93 sh_0 no_0 rfl rfl [.int a3] rfl rfl rfl (Nat.le_of_ble_eq_true rfl) dX7_again_9 (fun q3 => ?_)
    refine g_spl ?_ (fun r4 hr4 => ?_)
    · refine g_astoreN [(5, .null), (4, .null), (0, .ref (xad X (0))), (1, .int a1), (2, .int a2), (3, .int a3)] dX7_again_12 (by decide) rfl ?_
      refine g_aloadN 1 dX7_again_14 rfl ?_
      refine g_ifnullN 34 dX7_again_16 rfl ?_
      refine g_iconst (-1 : Int32) dX7_again_34 (by decide) ?_
      exact g_iret rfl dX7_again_35
    · refine g_astore [(5, .ref (xad X (4 + 2 * r4))), (4, .null), (0, .ref (xad X (0))), (1, .int a1), (2, .int a2), (3, .int a3)] dX7_again_12 (by decide) rfl ?_
      refine g_aloadN 1 dX7_again_14 rfl ?_
      refine g_ifnullN 34 dX7_again_16 rfl ?_
      refine g_iconst (-1 : Int32) dX7_again_34 (by decide) ?_
      exact g_iret rfl dX7_again_35
  · refine g_astore [(4, .ref (xad X (4 + 2 * r2))), (0, .ref (xad X (0))), (1, .int a1), (2, .int a2), (3, .int a3)] dX7_again_5 (by decide) rfl ?_
    refine g_aload_n 1 dX7_again_7 rfl ?_
    refine g_iload_n 4 dX7_again_8 rfl ?_
    refine g_callVG (c_X7_rowOf q1.1 a3) okX7_rowOf ⟨by decide, by decide⟩ ml_X7_93 sh_0 no_0 rfl rfl [.int a3] rfl rfl rfl (Nat.le_of_ble_eq_true rfl) dX7_again_9 (fun q5 => ?_)
    refine g_spl ?_ (fun r6 hr6 => ?_)
    · refine g_astoreN [(5, .null), (4, .ref (xad X (4 + 2 * r2))), (0, .ref (xad X (0))), (1, .int a1), (2, .int a2), (3, .int a3)] dX7_again_12 (by decide) rfl ?_
      refine g_aload 1 dX7_again_14 rfl ?_
      refine g_ifnull dX7_again_16 ?_
      refine g_aloadN 0 dX7_again_19 rfl ?_
      refine g_ifnullN 34 dX7_again_21 rfl ?_
      refine g_iconst (-1 : Int32) dX7_again_34 (by decide) ?_
      exact g_iret rfl dX7_again_35
    · refine g_astore [(5, .ref (xad X (4 + 2 * r6))), (4, .ref (xad X (4 + 2 * r2))), (0, .ref (xad X (0))), (1, .int a1), (2, .int a2), (3, .int a3)] dX7_again_12 (by decide) rfl ?_
      refine g_aload 1 dX7_again_14 rfl ?_
      refine g_ifnull dX7_again_16 ?_
      refine g_aload 0 dX7_again_19 rfl ?_
      refine g_ifnull dX7_again_21 ?_
      refine g_iload_n 4 dX7_again_24 rfl ?_
      refine g_if_lt 34 dX7_again_25 rfl (fun _ => ?_) (fun _ => ?_)
      · refine g_iconst (-1 : Int32) dX7_again_34 (by decide) ?_
        exact g_iret rfl dX7_again_35
      · refine g_iload_n 4 dX7_again_28 rfl ?_
        refine g_bipush (9 : Int32) dX7_again_29 (by decide) ?_
        refine g_icmp_le 36 dX7_again_31 rfl (fun _ => ?_) (fun _ => ?_)
        · refine g_aload_n 2 dX7_again_36 rfl ?_
          refine g_aload 1 dX7_again_37 rfl ?_
          refine g_bipush (8 : Int32) dX7_again_39 (by decide) ?_
          refine g_callVI (c_X7_refuses q5.1 r2 (8 : Int32)) okX7_refuses ⟨by decide, by decide⟩ ml_X7_202 sh_0 no_0 rfl rfl [.ref (xad X (4 + 2 * r2)), .int ((8 : Int32))] rfl rfl rfl (Nat.le_of_ble_eq_true rfl) dX7_again_41 (fun q7 => ?_)
          refine g_if_eq 50 dX7_again_44 rfl (fun _ => ?_) (fun _ => ?_)
          · refine g_aload_n 2 dX7_again_50 rfl ?_
            refine gf_X7_3 fl_X7_28 dX7_again_51 ?_
            refine g_callVI (c_X2_onSet q7.1 0) okX2_onSet ⟨by decide, by decide⟩ ml_X7_176 (sh_X2 (by decide)) (no_X2 (by decide)) rfl rfl [] rfl rfl rfl (Nat.le_of_ble_eq_true rfl) dX7_again_54 (fun q8 => ?_)
            refine g_istore [(6, .int (q8.2)), (5, .ref (xad X (4 + 2 * r6))), (4, .ref (xad X (4 + 2 * r2))), (0, .ref (xad X (0))), (1, .int a1), (2, .int a2), (3, .int a3)] dX7_again_57 (by decide) rfl ?_
            refine g_aload_n 3 dX7_again_59 rfl ?_
            refine gf_X7_7 fl_X7_53 dX7_again_60 ?_
            refine g_aload 2 dX7_again_63 rfl ?_
            refine g_callVJ (c_X4_pack q8.1 r2) okX4_pack ⟨by decide, by decide⟩ ml_X7_223 (sh_X4 hr2) (no_X4 hr2) rfl rfl [] rfl rfl rfl (Nat.le_of_ble_eq_true rfl) dX7_again_65 (fun q9 => ?_)
            refine g_callVV (c_X4_unpack q9.1 10 q9.2) okX4_unpack ⟨by decide, by decide⟩ ml_X7_210 (sh_X4 (by decide)) (no_X4 (by decide)) rfl rfl [.long (q9.2)] rfl rfl rfl (Nat.le_of_ble_eq_true rfl) dX7_again_68 (fun q10 => ?_)
            refine g_iconst (0 : Int32) dX7_again_71 (by decide) ?_
            refine g_istore [(7, .int ((0 : Int32))), (6, .int (q8.2)), (5, .ref (xad X (4 + 2 * r6))), (4, .ref (xad X (4 + 2 * r2))), (0, .ref (xad X (0))), (1, .int a1), (2, .int a2), (3, .int a3)] dX7_again_72 (by decide) rfl ?_
            refine g_sub [4, 6, 2, 1, 0] rfl ?_
            refine t_X7_again_L74 X a2 r6 q8.2 hr6 _ (fun s15 => ?_) FU q10.1 (0 : Int32)
            refine g_aload 1 dX7_again_121 rfl ?_
            refine g_aload_n 0 dX7_again_123 rfl ?_
            refine gf_X7_7 fl_X7_53 dX7_again_124 ?_
            refine g_callVJ (c_X4_pack s15 10) okX4_pack ⟨by decide, by decide⟩ ml_X7_223 (sh_X4 (by decide)) (no_X4 (by decide)) rfl rfl [] rfl rfl rfl (Nat.le_of_ble_eq_true rfl) dX7_again_127 (fun q16 => ?_)
            refine g_callVV (c_X4_unpack q16.1 r6 q16.2) okX4_unpack ⟨by decide, by decide⟩ ml_X7_210 (sh_X4 hr6) (no_X4 hr6) rfl rfl [.long (q16.2)] rfl rfl rfl (Nat.le_of_ble_eq_true rfl) dX7_again_130 (fun q17 => ?_)
            refine g_aload 1 dX7_again_133 rfl ?_
            refine gf_X4_1 hr6 fl_X7_135 dX7_again_135 ?_
            exact g_iret rfl dX7_again_138
          · refine g_bipush (-3 : Int32) dX7_again_47 (by decide) ?_
            exact g_iret rfl dX7_again_49
        · refine g_iconst (-1 : Int32) dX7_again_34 (by decide) ?_
          exact g_iret rfl dX7_again_35

def X7_placeSeen_L3 (x1 : Int64) (x3 : Int32) (k40 : Mem → Option (Mem × Int32)) : Nat → Mem → Int32 → Option (Mem × Int32)
  | 0, _, _ => none
  | n + 1, σ, x4 => (if x3 ≤ x4 then k40 σ else (if (61 : Int32) ≤ x4 then k40 σ else (ck x4 61 <| if (lg_cmp (σ.2.1 710 0 x4.toNatClampNeg) x1) = 0 then (some (σ, x4)) else (X7_placeSeen_L3 x1 x3 k40 n σ ((x4 + (1 : Int32)))))))
def X7_placeSeen (σ : Mem) (a1 : Int64) (a3 : Int32) : Option (Mem × Int32) := (X7_placeSeen_L3 a1 a3 (fun (s3 : Mem) => (some (s3, (-9 : Int32)))) FU σ (0 : Int32))
set_option maxRecDepth 100000 in
set_option maxHeartbeats 4000000 in
theorem t_X7_placeSeen_L3 (X : GX) (x1 : Int64) (x3 : Int32) (k40 : Mem → Option (Mem × Int32)) (hk40 : ∀ (σ : Mem), GS (KM enI X) X mX7_placeSeen σ 40 [] [] (k40 σ)) : ∀ (n : Nat) (σ : Mem) (x4 : Int32), GS (KM enI X) X mX7_placeSeen σ 3 [(0, .ref (xad X (0))), (1, .long x1), (3, .int x3), (4, .int x4)] [] (X7_placeSeen_L3 x1 x3 k40 n σ x4) := by
  intro n
  induction n with
  | zero => intros; exact g_none
  | succ n ih =>
    intro σ x4
    rw [X7_placeSeen_L3]
    refine g_iload 3 dX7_placeSeen_3 rfl ?_
    refine g_iload_n 2 dX7_placeSeen_5 rfl ?_
    refine g_icmp_ge 40 dX7_placeSeen_6 rfl (fun _ => ?_) (fun _ => ?_)
    · refine g_sub [] rfl ?_
      exact hk40 σ
    · refine g_iload 3 dX7_placeSeen_9 rfl ?_
      refine g_aload_n 0 dX7_placeSeen_11 rfl ?_
      refine gf_X7_10 fl_X7_71 dX7_placeSeen_12 ?_
      refine g_alen (v := (61 : Int32)) sh_96 no_96 (by decide) rfl dX7_placeSeen_15 ?_
      refine g_icmp_ge 40 dX7_placeSeen_16 rfl (fun _ => ?_) (fun _ => ?_)
      · refine g_sub [] rfl ?_
        exact hk40 σ
      · refine g_aload_n 0 dX7_placeSeen_19 rfl ?_
        refine gf_X7_10 fl_X7_71 dX7_placeSeen_20 ?_
        refine g_iload 3 dX7_placeSeen_23 rfl ?_
        refine g_lald sh_96 no_96 dX7_placeSeen_25 (fun _ => ?_)
        refine g_lload_n 1 dX7_placeSeen_26 rfl ?_
        refine g_lcmp dX7_placeSeen_27 ?_
        refine g_if_ne 34 dX7_placeSeen_28 rfl (fun _ => ?_) (fun _ => ?_)
        · refine g_iinc 3 [(4, .int ((x4 + (1 : Int32)))), (0, .ref (xad X (0))), (1, .long x1), (3, .int x3)] dX7_placeSeen_34 rfl (v := x4 + (1 : Int32)) rfl (by decide) rfl ?_
          refine g_goto 3 dX7_placeSeen_37 rfl ?_
          refine g_sub [1, 2, 3, 0] rfl ?_
          exact ih σ ((x4 + (1 : Int32)))
        · refine g_iload 3 dX7_placeSeen_31 rfl ?_
          exact g_iret rfl dX7_placeSeen_33

set_option maxRecDepth 100000 in
set_option maxHeartbeats 4000000 in
theorem c_X7_placeSeen (σ : Mem) (a1 : Int64) (a3 : Int32) : CT yX7_placeSeen mX7_placeSeen enI (fun ad => [.ref (ad (0)), .long a1, .int a3]) σ (X7_placeSeen σ a1 a3) := by
  refine CT.of (by decide) rfl (fun _ => Nat.le_of_ble_eq_true rfl) (fun X => ?_)
  show GS (KM enI X) X mX7_placeSeen σ 0 [(0, .ref (xad X (0))), (1, .long a1), (3, .int a3)] [] _
  unfold X7_placeSeen
  refine g_iconst (0 : Int32) dX7_placeSeen_0 (by decide) ?_
  refine g_istore [(4, .int ((0 : Int32))), (0, .ref (xad X (0))), (1, .long a1), (3, .int a3)] dX7_placeSeen_1 (by decide) rfl ?_
  refine g_sub [1, 2, 3, 0] rfl ?_
  refine t_X7_placeSeen_L3 X a1 a3 _ (fun s3 => ?_) FU σ (0 : Int32)
  refine g_bipush (-9 : Int32) dX7_placeSeen_40 (by decide) ?_
  exact g_iret rfl dX7_placeSeen_42

def X7_rests_L59 (x3 : Int32) (k148 : Mem → Option (Mem × Int32)) : Nat → Mem → Int32 → Option (Mem × Int32)
  | 0, _, _ => none
  | n + 1, σ, x4 => (if (60 : Int32) < x4 then k148 σ else ((X2_outOf σ 0 10 x3).bind fun q7 => (X7_placeSeen q7.1 q7.2 x4).bind fun q8 => if q8.2 = (-9 : Int32) then ((X4_unpack q8.1 10 q7.2).bind fun q9 => if (q9.1.1 401 10 0) ≤ (8 : Int32) then (ck x4 61 <| X7_rests_L59 x3 k148 n ((uJ q9.1 710 0 x4.toNatClampNeg q7.2)) ((x4 + (1 : Int32)))) else (some (q9.1, (-6 : Int32)))) else (some ((uI q8.1 713 0 0 ((x4 - q8.2))), q8.2))))
def X7_rests (σ : Mem) (a1 : Int32) : Option (Mem × Int32) := ((X7_rowOf σ a1).bind fun q1 => spl q1.2 11 ((some (q1.1, (-1 : Int32)))) (fun r2 => (((X7_refuses q1.1 r2 (8 : Int32)).bind fun q3 => if q3.2 = 0 then ((X2_onSet q3.1 0).bind fun q4 => (X4_pack q4.1 r2).bind fun q5 => ck (0 : Int32) 61 <| ck (0 : Int32) 61 <| (X4_unpack ((uJ q5.1 710 0 (0 : Int32).toNatClampNeg q5.2)) 10 ((((uJ q5.1 710 0 (0 : Int32).toNatClampNeg q5.2)).2.1 710 0 (0 : Int32).toNatClampNeg))).bind fun q6 => X7_rests_L59 q4.2 (fun (s12 : Mem) => (some (s12, (-6 : Int32)))) FU q6.1 (1 : Int32)) else (some (q3.1, (-3 : Int32)))))))
set_option maxRecDepth 100000 in
set_option maxHeartbeats 4000000 in
theorem t_X7_rests_L59 (X : GX) (x3 : Int32) (k148 : Mem → Option (Mem × Int32)) (hk148 : ∀ (σ : Mem), GS (KM enI X) X mX7_rests σ 148 [] [] (k148 σ)) : ∀ (n : Nat) (σ : Mem) (x4 : Int32), GS (KM enI X) X mX7_rests σ 59 [(0, .ref (xad X (0))), (3, .int x3), (4, .int x4)] [] (X7_rests_L59 x3 k148 n σ x4) := by
  intro n
  induction n with
  | zero => intros; exact g_none
  | succ n ih =>
    intro σ x4
    rw [X7_rests_L59]
    refine g_iload 2 dX7_rests_59 rfl ?_
    refine g_bipush (60 : Int32) dX7_rests_61 (by decide) ?_
    refine g_icmp_gt 148 dX7_rests_63 rfl (fun _ => ?_) (fun _ => ?_)
    · refine g_sub [] rfl ?_
      exact hk148 σ
    · refine g_aload_n 0 dX7_rests_66 rfl ?_
      refine gf_X7_3 fl_X7_28 dX7_rests_67 ?_
      refine g_aload_n 0 dX7_rests_70 rfl ?_
      refine gf_X7_7 fl_X7_53 dX7_rests_71 ?_
      refine g_iload_n 1 dX7_rests_74 rfl ?_
      refine g_callVJ (c_X2_outOf σ 0 10 x3) okX2_outOf ⟨by decide, by decide⟩ ml_X7_206 (sh_X2 (by decide)) (no_X2 (by decide)) rfl rfl [.ref (xad X (4 + 2 * 10)), .int x3] rfl rfl rfl (Nat.le_of_ble_eq_true rfl) dX7_rests_75 (fun q7 => ?_)
      refine g_lstore [(5, .long (q7.2)), (0, .ref (xad X (0))), (3, .int x3), (4, .int x4)] dX7_rests_78 (by decide) rfl ?_
      refine g_aload_n 1 dX7_rests_80 rfl ?_
      refine g_lload 0 dX7_rests_81 rfl ?_
      refine g_iload 3 dX7_rests_83 rfl ?_
      refine g_callVI (c_X7_placeSeen q7.1 q7.2 x4) okX7_placeSeen ⟨by decide, by decide⟩ ml_X7_226 sh_0 no_0 rfl rfl [.long (q7.2), .int x4] rfl rfl rfl (Nat.le_of_ble_eq_true rfl) dX7_rests_85 (fun q8 => ?_)
      refine g_istore [(7, .int (q8.2)), (5, .long (q7.2)), (0, .ref (xad X (0))), (3, .int x3), (4, .int x4)] dX7_rests_88 (by decide) rfl ?_
      refine g_iload 0 dX7_rests_90 rfl ?_
      refine g_bipush (-9 : Int32) dX7_rests_92 (by decide) ?_
      refine g_icmp_eq 109 dX7_rests_94 rfl (fun _ => ?_) (fun _ => ?_)
      · refine g_aload_n 2 dX7_rests_109 rfl ?_
        refine gf_X7_7 fl_X7_53 dX7_rests_110 ?_
        refine g_lload 1 dX7_rests_113 rfl ?_
        refine g_callVV (c_X4_unpack q8.1 10 q7.2) okX4_unpack ⟨by decide, by decide⟩ ml_X7_210 (sh_X4 (by decide)) (no_X4 (by decide)) rfl rfl [.long (q7.2)] rfl rfl rfl (Nat.le_of_ble_eq_true rfl) dX7_rests_115 (fun q9 => ?_)
        refine g_aload_n 2 dX7_rests_118 rfl ?_
        refine gf_X7_7 fl_X7_53 dX7_rests_119 ?_
        refine gf_X4_1 (by decide) fl_X7_135 dX7_rests_122 ?_
        refine g_bipush (8 : Int32) dX7_rests_125 (by decide) ?_
        refine g_icmp_le 133 dX7_rests_127 rfl (fun _ => ?_) (fun _ => ?_)
        · refine g_aload_n 2 dX7_rests_133 rfl ?_
          refine gf_X7_10 fl_X7_71 dX7_rests_134 ?_
          refine g_iload 4 dX7_rests_137 rfl ?_
          refine g_lload 1 dX7_rests_139 rfl ?_
          refine g_last sh_96 no_96 dX7_rests_141 (fun _ => ?_)
          refine g_iinc 4 [(4, .int ((x4 + (1 : Int32)))), (7, .int (q8.2)), (5, .long (q7.2)), (0, .ref (xad X (0))), (3, .int x3)] dX7_rests_142 rfl (v := x4 + (1 : Int32)) rfl (by decide) rfl ?_
          refine g_goto 59 dX7_rests_145 rfl ?_
          refine g_sub [3, 4, 0] rfl ?_
          exact ih ((uJ q9.1 710 0 x4.toNatClampNeg q7.2)) ((x4 + (1 : Int32)))
        · refine g_bipush (-6 : Int32) dX7_rests_130 (by decide) ?_
          exact g_iret rfl dX7_rests_132
      · refine g_aload_n 2 dX7_rests_97 rfl ?_
        refine g_iload 4 dX7_rests_98 rfl ?_
        refine g_iload 0 dX7_rests_100 rfl ?_
        refine g_isub dX7_rests_102 ?_
        refine pf_X7_13 fl_X7_83 dX7_rests_103 ?_
        refine g_iload 0 dX7_rests_106 rfl ?_
        exact g_iret rfl dX7_rests_108

set_option maxRecDepth 100000 in
set_option maxHeartbeats 4000000 in
theorem c_X7_rests (σ : Mem) (a1 : Int32) : CT yX7_rests mX7_rests enI (fun ad => [.ref (ad (0)), .int a1]) σ (X7_rests σ a1) := by
  refine CT.of (by decide) rfl (fun _ => Nat.le_of_ble_eq_true rfl) (fun X => ?_)
  show GS (KM enI X) X mX7_rests σ 0 [(0, .ref (xad X (0))), (1, .int a1)] [] _
  unfold X7_rests
  refine g_aload_n 0 dX7_rests_0 rfl ?_
  refine g_iload_n 1 dX7_rests_1 rfl ?_
  refine g_callVG (c_X7_rowOf σ a1) okX7_rowOf ⟨by decide, by decide⟩ ml_X7_93 sh_0 no_0 rfl rfl [.int a1] rfl rfl rfl (Nat.le_of_ble_eq_true rfl) dX7_rests_2 (fun q1 => ?_)
  refine g_spl ?_ (fun r2 hr2 => ?_)
  · refine g_astore_nN [(2, .null), (0, .ref (xad X (0))), (1, .int a1)] dX7_rests_5 (by decide) rfl ?_
    refine g_aload_nN 0 dX7_rests_6 rfl ?_
    refine g_ifnonnullN dX7_rests_7 ?_
    refine g_iconst (-1 : Int32) dX7_rests_10 (by decide) ?_
    exact g_iret rfl dX7_rests_11
  · refine g_astore_n [(2, .ref (xad X (4 + 2 * r2))), (0, .ref (xad X (0))), (1, .int a1)] dX7_rests_5 (by decide) rfl ?_
    refine g_aload_n 0 dX7_rests_6 rfl ?_
    refine g_ifnonnull 12 dX7_rests_7 rfl ?_
    refine g_aload_n 1 dX7_rests_12 rfl ?_
    refine g_aload_n 0 dX7_rests_13 rfl ?_
    refine g_bipush (8 : Int32) dX7_rests_14 (by decide) ?_
    refine g_callVI (c_X7_refuses q1.1 r2 (8 : Int32)) okX7_refuses ⟨by decide, by decide⟩ ml_X7_202 sh_0 no_0 rfl rfl [.ref (xad X (4 + 2 * r2)), .int ((8 : Int32))] rfl rfl rfl (Nat.le_of_ble_eq_true rfl) dX7_rests_16 (fun q3 => ?_)
    refine g_if_eq 25 dX7_rests_19 rfl (fun _ => ?_) (fun _ => ?_)
    · refine g_aload_n 1 dX7_rests_25 rfl ?_
      refine gf_X7_3 fl_X7_28 dX7_rests_26 ?_
      refine g_callVI (c_X2_onSet q3.1 0) okX2_onSet ⟨by decide, by decide⟩ ml_X7_176 (sh_X2 (by decide)) (no_X2 (by decide)) rfl rfl [] rfl rfl rfl (Nat.le_of_ble_eq_true rfl) dX7_rests_29 (fun q4 => ?_)
      refine g_istore_n [(3, .int (q4.2)), (2, .ref (xad X (4 + 2 * r2))), (0, .ref (xad X (0))), (1, .int a1)] dX7_rests_32 (by decide) rfl ?_
      refine g_aload_n 2 dX7_rests_33 rfl ?_
      refine gf_X7_10 fl_X7_71 dX7_rests_34 ?_
      refine g_iconst (0 : Int32) dX7_rests_37 (by decide) ?_
      refine g_aload_n 1 dX7_rests_38 rfl ?_
      refine g_callVJ (c_X4_pack q4.1 r2) okX4_pack ⟨by decide, by decide⟩ ml_X7_223 (sh_X4 hr2) (no_X4 hr2) rfl rfl [] rfl rfl rfl (Nat.le_of_ble_eq_true rfl) dX7_rests_39 (fun q5 => ?_)
      refine g_last sh_96 no_96 dX7_rests_42 (fun _ => ?_)
      refine g_aload_n 2 dX7_rests_43 rfl ?_
      refine gf_X7_7 fl_X7_53 dX7_rests_44 ?_
      refine g_aload_n 2 dX7_rests_47 rfl ?_
      refine gf_X7_10 fl_X7_71 dX7_rests_48 ?_
      refine g_iconst (0 : Int32) dX7_rests_51 (by decide) ?_
      refine g_lald sh_96 no_96 dX7_rests_52 (fun _ => ?_)
      refine g_callVV (c_X4_unpack ((uJ q5.1 710 0 (0 : Int32).toNatClampNeg q5.2)) 10 ((((uJ q5.1 710 0 (0 : Int32).toNatClampNeg q5.2)).2.1 710 0 (0 : Int32).toNatClampNeg))) okX4_unpack ⟨by decide, by decide⟩ ml_X7_210 (sh_X4 (by decide)) (no_X4 (by decide)) rfl rfl [.long ((((uJ q5.1 710 0 (0 : Int32).toNatClampNeg q5.2)).2.1 710 0 (0 : Int32).toNatClampNeg))] rfl rfl rfl (Nat.le_of_ble_eq_true rfl) dX7_rests_53 (fun q6 => ?_)
      refine g_iconst (1 : Int32) dX7_rests_56 (by decide) ?_
      refine g_istore [(4, .int ((1 : Int32))), (3, .int (q4.2)), (2, .ref (xad X (4 + 2 * r2))), (0, .ref (xad X (0))), (1, .int a1)] dX7_rests_57 (by decide) rfl ?_
      refine g_sub [3, 1, 0] rfl ?_
      refine t_X7_rests_L59 X q4.2 _ (fun s12 => ?_) FU q6.1 (1 : Int32)
      refine g_bipush (-6 : Int32) dX7_rests_148 (by decide) ?_
      exact g_iret rfl dX7_rests_150
    · refine g_bipush (-3 : Int32) dX7_rests_22 (by decide) ?_
      exact g_iret rfl dX7_rests_24

def X7_same (σ : Mem) (a1 : Int32) (a2 : Int32) : Option (Mem × Int32) := ((X7_rowOf σ a1).bind fun q1 => spl q1.2 11 ((X7_rowOf q1.1 a2).bind fun q3 => spl q3.2 11 ((some (q3.1, (-1 : Int32)))) (fun r4 => ((some (q3.1, (-1 : Int32)))))) (fun r2 => ((X7_rowOf q1.1 a2).bind fun q5 => spl q5.2 11 (((some (q5.1, (-1 : Int32))))) (fun r6 => ((((X7_refuses q5.1 r2 (8 : Int32)).bind fun q7 => if q7.2 = 0 then ((X7_refuses q7.1 r6 (8 : Int32)).bind fun q8 => if q8.2 = 0 then ((X2_onSet q8.1 0).bind fun q9 => (X2_outOf q9.1 0 r2 q9.2).bind fun q10 => (X2_outOf q10.1 0 r6 q9.2).bind fun q11 => if (lg_cmp q10.2 q11.2) = 0 then ((some (q11.1, (1 : Int32)))) else (some (q11.1, (0 : Int32)))) else (some (q8.1, (-3 : Int32)))) else (some (q7.1, (-3 : Int32))))))))))
set_option maxRecDepth 100000 in
set_option maxHeartbeats 4000000 in
theorem c_X7_same (σ : Mem) (a1 : Int32) (a2 : Int32) : CT yX7_same mX7_same enI (fun ad => [.ref (ad (0)), .int a1, .int a2]) σ (X7_same σ a1 a2) := by
  refine CT.of (by decide) rfl (fun _ => Nat.le_of_ble_eq_true rfl) (fun X => ?_)
  show GS (KM enI X) X mX7_same σ 0 [(0, .ref (xad X (0))), (1, .int a1), (2, .int a2)] [] _
  unfold X7_same
  refine g_aload_n 0 dX7_same_0 rfl ?_
  refine g_iload_n 1 dX7_same_1 rfl ?_
  refine g_callVG (c_X7_rowOf σ a1) okX7_rowOf ⟨by decide, by decide⟩ ml_X7_93 sh_0 no_0 rfl rfl [.int a1] rfl rfl rfl (Nat.le_of_ble_eq_true rfl) dX7_same_2 (fun q1 => ?_)
  refine g_spl ?_ (fun r2 hr2 => ?_)
  · refine g_astore_nN [(3, .null), (0, .ref (xad X (0))), (1, .int a1), (2, .int a2)] dX7_same_5 (by decide) rfl ?_
    refine g_aload_n 1 dX7_same_6 rfl ?_
    refine g_iload_n 3 dX7_same_7 rfl ?_
    refine g_callVG (c_X7_rowOf q1.1 a2) okX7_rowOf ⟨by decide, by decide⟩ ml_X7_93 sh_0 no_0 rfl rfl [.int a2] rfl rfl rfl (Nat.le_of_ble_eq_true rfl) dX7_same_8 (fun q3 => ?_)
    refine g_spl ?_ (fun r4 hr4 => ?_)
    · refine g_astoreN [(4, .null), (3, .null), (0, .ref (xad X (0))), (1, .int a1), (2, .int a2)] dX7_same_11 (by decide) rfl ?_
      refine g_aload_nN 1 dX7_same_13 rfl ?_
      refine g_ifnullN 22 dX7_same_14 rfl ?_
      refine g_iconst (-1 : Int32) dX7_same_22 (by decide) ?_
      exact g_iret rfl dX7_same_23
    · refine g_astore [(4, .ref (xad X (4 + 2 * r4))), (3, .null), (0, .ref (xad X (0))), (1, .int a1), (2, .int a2)] dX7_same_11 (by decide) rfl ?_
      refine g_aload_nN 1 dX7_same_13 rfl ?_
      refine g_ifnullN 22 dX7_same_14 rfl ?_
      refine g_iconst (-1 : Int32) dX7_same_22 (by decide) ?_
      exact g_iret rfl dX7_same_23
  · refine g_astore_n [(3, .ref (xad X (4 + 2 * r2))), (0, .ref (xad X (0))), (1, .int a1), (2, .int a2)] dX7_same_5 (by decide) rfl ?_
    refine g_aload_n 1 dX7_same_6 rfl ?_
    refine g_iload_n 3 dX7_same_7 rfl ?_
    refine g_callVG (c_X7_rowOf q1.1 a2) okX7_rowOf ⟨by decide, by decide⟩ ml_X7_93 sh_0 no_0 rfl rfl [.int a2] rfl rfl rfl (Nat.le_of_ble_eq_true rfl) dX7_same_8 (fun q5 => ?_)
    refine g_spl ?_ (fun r6 hr6 => ?_)
    · refine g_astoreN [(4, .null), (3, .ref (xad X (4 + 2 * r2))), (0, .ref (xad X (0))), (1, .int a1), (2, .int a2)] dX7_same_11 (by decide) rfl ?_
      refine g_aload_n 1 dX7_same_13 rfl ?_
      refine g_ifnull dX7_same_14 ?_
      refine g_aloadN 0 dX7_same_17 rfl ?_
      refine g_ifnonnullN dX7_same_19 ?_
      refine g_iconst (-1 : Int32) dX7_same_22 (by decide) ?_
      exact g_iret rfl dX7_same_23
    · refine g_astore [(4, .ref (xad X (4 + 2 * r6))), (3, .ref (xad X (4 + 2 * r2))), (0, .ref (xad X (0))), (1, .int a1), (2, .int a2)] dX7_same_11 (by decide) rfl ?_
      refine g_aload_n 1 dX7_same_13 rfl ?_
      refine g_ifnull dX7_same_14 ?_
      refine g_aload 0 dX7_same_17 rfl ?_
      refine g_ifnonnull 24 dX7_same_19 rfl ?_
      refine g_aload_n 2 dX7_same_24 rfl ?_
      refine g_aload_n 1 dX7_same_25 rfl ?_
      refine g_bipush (8 : Int32) dX7_same_26 (by decide) ?_
      refine g_callVI (c_X7_refuses q5.1 r2 (8 : Int32)) okX7_refuses ⟨by decide, by decide⟩ ml_X7_202 sh_0 no_0 rfl rfl [.ref (xad X (4 + 2 * r2)), .int ((8 : Int32))] rfl rfl rfl (Nat.le_of_ble_eq_true rfl) dX7_same_28 (fun q7 => ?_)
      refine g_if_ne 45 dX7_same_31 rfl (fun _ => ?_) (fun _ => ?_)
      · refine g_bipush (-3 : Int32) dX7_same_45 (by decide) ?_
        exact g_iret rfl dX7_same_47
      · refine g_aload_n 2 dX7_same_34 rfl ?_
        refine g_aload 0 dX7_same_35 rfl ?_
        refine g_bipush (8 : Int32) dX7_same_37 (by decide) ?_
        refine g_callVI (c_X7_refuses q7.1 r6 (8 : Int32)) okX7_refuses ⟨by decide, by decide⟩ ml_X7_202 sh_0 no_0 rfl rfl [.ref (xad X (4 + 2 * r6)), .int ((8 : Int32))] rfl rfl rfl (Nat.le_of_ble_eq_true rfl) dX7_same_39 (fun q8 => ?_)
        refine g_if_eq 48 dX7_same_42 rfl (fun _ => ?_) (fun _ => ?_)
        · refine g_aload_n 2 dX7_same_48 rfl ?_
          refine gf_X7_3 fl_X7_28 dX7_same_49 ?_
          refine g_callVI (c_X2_onSet q8.1 0) okX2_onSet ⟨by decide, by decide⟩ ml_X7_176 (sh_X2 (by decide)) (no_X2 (by decide)) rfl rfl [] rfl rfl rfl (Nat.le_of_ble_eq_true rfl) dX7_same_52 (fun q9 => ?_)
          refine g_istore [(5, .int (q9.2)), (4, .ref (xad X (4 + 2 * r6))), (3, .ref (xad X (4 + 2 * r2))), (0, .ref (xad X (0))), (1, .int a1), (2, .int a2)] dX7_same_55 (by decide) rfl ?_
          refine g_aload_n 3 dX7_same_57 rfl ?_
          refine gf_X7_3 fl_X7_28 dX7_same_58 ?_
          refine g_aload_n 2 dX7_same_61 rfl ?_
          refine g_iload 0 dX7_same_62 rfl ?_
          refine g_callVJ (c_X2_outOf q9.1 0 r2 q9.2) okX2_outOf ⟨by decide, by decide⟩ ml_X7_206 (sh_X2 (by decide)) (no_X2 (by decide)) rfl rfl [.ref (xad X (4 + 2 * r2)), .int (q9.2)] rfl rfl rfl (Nat.le_of_ble_eq_true rfl) dX7_same_64 (fun q10 => ?_)
          refine g_aload_n 3 dX7_same_67 rfl ?_
          refine gf_X7_3 fl_X7_28 dX7_same_68 ?_
          refine g_aload 1 dX7_same_71 rfl ?_
          refine g_iload 0 dX7_same_73 rfl ?_
          refine g_callVJ (c_X2_outOf q10.1 0 r6 q9.2) okX2_outOf ⟨by decide, by decide⟩ ml_X7_206 (sh_X2 (by decide)) (no_X2 (by decide)) rfl rfl [.ref (xad X (4 + 2 * r6)), .int (q9.2)] rfl rfl rfl (Nat.le_of_ble_eq_true rfl) dX7_same_75 (fun q11 => ?_)
          refine g_lcmp dX7_same_78 ?_
          refine g_if_ne 86 dX7_same_79 rfl (fun _ => ?_) (fun _ => ?_)
          · refine g_iconst (0 : Int32) dX7_same_86 (by decide) ?_
            exact g_iret rfl dX7_same_87
          · refine g_iconst (1 : Int32) dX7_same_82 (by decide) ?_
            refine g_goto 87 dX7_same_83 rfl ?_
            exact g_iret rfl dX7_same_87
        · refine g_bipush (-3 : Int32) dX7_same_45 (by decide) ?_
          exact g_iret rfl dX7_same_47

def X7_tell_L9 (x1 : Int64) (x3 : Int64) (k45 : Mem → Int64 → Option (Mem × Unit)) : Nat → Mem → Int64 → Int64 → Int32 → Option (Mem × Unit)
  | 0, _, _, _, _ => none
  | n + 1, σ, x5, x7, x9 => (if (200 : Int32) ≤ x9 then k45 σ x5 else (if (lg_cmp x7 (0 : Int64)) = 0 then k45 σ x5 else (if x7 = 0 then none else lt_ ((x5 - x5 / x7 * x7)) fun (v1 : Int64) => X7_tell_L9 x1 x3 k45 n σ x7 v1 ((x9 + (1 : Int32))))))
def X7_tell_J45 (σ : Mem) (x1 : Int64) (x3 : Int64) (x5 : Int64) : Option (Mem × Unit) := (if (lg_cmp x5 (0 : Int64)) ≤ 0 then (some (σ, ())) else (if x5 = 0 then none else if x5 = 0 then none else some ((uJ ((uJ σ 714 0 0 ((x1 / x5)))) 715 0 0 ((x3 / x5))), ())))
def X7_tell (σ : Mem) (a1 : Int64) (a3 : Int64) : Option (Mem × Unit) := (X7_tell_L9 a1 a3 (fun (s4 : Mem) (y5_3 : Int64) => X7_tell_J45 s4 a1 a3 y5_3) FU σ a1 a3 (0 : Int32))
set_option maxRecDepth 100000 in
set_option maxHeartbeats 4000000 in
theorem t_X7_tell_L9 (X : GX) (x1 : Int64) (x3 : Int64) (k45 : Mem → Int64 → Option (Mem × Unit)) (hk45 : ∀ (σ : Mem) (y5 : Int64), GS (KM enV X) X mX7_tell σ 45 [(0, .ref (xad X (0))), (1, .long x1), (3, .long x3), (5, .long y5)] [] (k45 σ y5)) : ∀ (n : Nat) (σ : Mem) (x5 : Int64) (x7 : Int64) (x9 : Int32), GS (KM enV X) X mX7_tell σ 9 [(0, .ref (xad X (0))), (1, .long x1), (3, .long x3), (5, .long x5), (7, .long x7), (9, .int x9)] [] (X7_tell_L9 x1 x3 k45 n σ x5 x7 x9) := by
  intro n
  induction n with
  | zero => intros; exact g_none
  | succ n ih =>
    intro σ x5 x7 x9
    rw [X7_tell_L9]
    refine g_iload 5 dX7_tell_9 rfl ?_
    refine g_sipush (200 : Int32) dX7_tell_11 (by decide) ?_
    refine g_icmp_ge 45 dX7_tell_14 rfl (fun _ => ?_) (fun _ => ?_)
    · refine g_sub [0, 1, 2, 3] rfl ?_
      exact hk45 σ x5
    · refine g_lload 4 dX7_tell_17 rfl ?_
      refine g_lconst (0 : Int64) dX7_tell_19 (by decide) ?_
      refine g_lcmp dX7_tell_20 ?_
      refine g_if_eq 45 dX7_tell_21 rfl (fun _ => ?_) (fun _ => ?_)
      · refine g_sub [0, 1, 2, 3] rfl ?_
        exact hk45 σ x5
      · refine g_lload 3 dX7_tell_24 rfl ?_
        refine g_lload 4 dX7_tell_26 rfl ?_
        refine g_lrem dX7_tell_28 (fun _ => ?_)
        refine g_topl (fun v1 => ?_)
        refine g_lstore [(10, .long v1), (0, .ref (xad X (0))), (1, .long x1), (3, .long x3), (5, .long x5), (7, .long x7), (9, .int x9)] dX7_tell_29 (by decide) rfl ?_
        refine g_lload 5 dX7_tell_31 rfl ?_
        refine g_lstore [(5, .long x7), (10, .long v1), (0, .ref (xad X (0))), (1, .long x1), (3, .long x3), (7, .long x7), (9, .int x9)] dX7_tell_33 (by decide) rfl ?_
        refine g_lload 1 dX7_tell_35 rfl ?_
        refine g_lstore [(7, .long v1), (5, .long x7), (10, .long v1), (0, .ref (xad X (0))), (1, .long x1), (3, .long x3), (9, .int x9)] dX7_tell_37 (by decide) rfl ?_
        refine g_iinc 6 [(9, .int ((x9 + (1 : Int32)))), (7, .long v1), (5, .long x7), (10, .long v1), (0, .ref (xad X (0))), (1, .long x1), (3, .long x3)] dX7_tell_39 rfl (v := x9 + (1 : Int32)) rfl (by decide) rfl ?_
        refine g_goto 9 dX7_tell_42 rfl ?_
        refine g_sub [4, 5, 6, 2, 1, 0] rfl ?_
        exact ih σ x7 v1 ((x9 + (1 : Int32)))

set_option maxRecDepth 100000 in
set_option maxHeartbeats 4000000 in
theorem t_X7_tell_J45 (X : GX) (σ : Mem) (x1 : Int64) (x3 : Int64) (x5 : Int64) : GS (KM enV X) X mX7_tell σ 45 [(0, .ref (xad X (0))), (1, .long x1), (3, .long x3), (5, .long x5)] [] (X7_tell_J45 σ x1 x3 x5) := by
  unfold X7_tell_J45
  refine g_lload 3 dX7_tell_45 rfl ?_
  refine g_lconst (0 : Int64) dX7_tell_47 (by decide) ?_
  refine g_lcmp dX7_tell_48 ?_
  refine g_if_le 68 dX7_tell_49 rfl (fun _ => ?_) (fun _ => ?_)
  · exact g_vret rfl dX7_tell_68
  · refine g_aload_n 0 dX7_tell_52 rfl ?_
    refine g_lload_n 1 dX7_tell_53 rfl ?_
    refine g_lload 3 dX7_tell_54 rfl ?_
    refine g_ldiv dX7_tell_56 (fun _ => ?_)
    refine pf_X7_14 fl_X7_86 dX7_tell_57 ?_
    refine g_aload_n 0 dX7_tell_60 rfl ?_
    refine g_lload_n 2 dX7_tell_61 rfl ?_
    refine g_lload 3 dX7_tell_62 rfl ?_
    refine g_ldiv dX7_tell_64 (fun _ => ?_)
    refine pf_X7_15 fl_X7_90 dX7_tell_65 ?_
    exact g_vret rfl dX7_tell_68

set_option maxRecDepth 100000 in
set_option maxHeartbeats 4000000 in
theorem c_X7_tell (σ : Mem) (a1 : Int64) (a3 : Int64) : CT yX7_tell mX7_tell enV (fun ad => [.ref (ad (0)), .long a1, .long a3]) σ (X7_tell σ a1 a3) := by
  refine CT.of (by decide) rfl (fun _ => Nat.le_of_ble_eq_true rfl) (fun X => ?_)
  show GS (KM enV X) X mX7_tell σ 0 [(0, .ref (xad X (0))), (1, .long a1), (3, .long a3)] [] _
  unfold X7_tell
  refine g_lload_n 1 dX7_tell_0 rfl ?_
  refine g_lstore [(5, .long a1), (0, .ref (xad X (0))), (1, .long a1), (3, .long a3)] dX7_tell_1 (by decide) rfl ?_
  refine g_lload_n 3 dX7_tell_3 rfl ?_
  refine g_lstore [(7, .long a3), (5, .long a1), (0, .ref (xad X (0))), (1, .long a1), (3, .long a3)] dX7_tell_4 (by decide) rfl ?_
  refine g_iconst (0 : Int32) dX7_tell_6 (by decide) ?_
  refine g_istore [(9, .int ((0 : Int32))), (7, .long a3), (5, .long a1), (0, .ref (xad X (0))), (1, .long a1), (3, .long a3)] dX7_tell_7 (by decide) rfl ?_
  refine g_sub [3, 4, 5, 2, 1, 0] rfl ?_
  refine t_X7_tell_L9 X a1 a3 _ (fun s4 y5_3 => ?_) FU σ a1 a3 (0 : Int32)
  refine g_sub [0, 1, 2, 3] rfl ?_
  exact t_X7_tell_J45 X s4 a1 a3 y5_3

def X7_meant (σ : Mem) (a1 : Int32) (a2 : Int32) : Option (Mem × Int32) := ((X7_rowOf σ a1).bind fun q1 => spl q1.2 11 ((some (q1.1, (-1 : Int32)))) (fun r2 => ((if a2 < 0 then (some (q1.1, (-1 : Int32))) else (if a2 ≤ (6 : Int32) then ((X7_refuses q1.1 r2 (16 : Int32)).bind fun q3 => if q3.2 = 0 then ((X6_know q3.1 0).bind fun q4 => (X4_pack q4.1 r2).bind fun q5 => (X6_aim q5.1 q5.2 a2).bind fun q6 => (X6_many q6.1 a2).bind fun q7 => (X7_tell q7.1 q7.2 (1 : Int64)).bind fun q8 => some (q8.1, (1 : Int32))) else (some (q3.1, (-3 : Int32)))) else (some (q1.1, (-1 : Int32))))))))
set_option maxRecDepth 100000 in
set_option maxHeartbeats 4000000 in
theorem c_X7_meant (σ : Mem) (a1 : Int32) (a2 : Int32) : CT yX7_meant mX7_meant enI (fun ad => [.ref (ad (0)), .int a1, .int a2]) σ (X7_meant σ a1 a2) := by
  refine CT.of (by decide) rfl (fun _ => Nat.le_of_ble_eq_true rfl) (fun X => ?_)
  show GS (KM enI X) X mX7_meant σ 0 [(0, .ref (xad X (0))), (1, .int a1), (2, .int a2)] [] _
  unfold X7_meant
  refine g_aload_n 0 dX7_meant_0 rfl ?_
  refine g_iload_n 1 dX7_meant_1 rfl ?_
  refine g_callVG (c_X7_rowOf σ a1) okX7_rowOf ⟨by decide, by decide⟩ ml_X7_93 sh_0 no_0 rfl rfl [.int a1] rfl rfl rfl (Nat.le_of_ble_eq_true rfl) dX7_meant_2 (fun q1 => ?_)
  refine g_spl ?_ (fun r2 hr2 => ?_)
  · refine g_astore_nN [(3, .null), (0, .ref (xad X (0))), (1, .int a1), (2, .int a2)] dX7_meant_5 (by decide) rfl ?_
    refine g_aload_nN 0 dX7_meant_6 rfl ?_
    refine g_ifnullN 20 dX7_meant_7 rfl ?_
    refine g_iconst (-1 : Int32) dX7_meant_20 (by decide) ?_
    exact g_iret rfl dX7_meant_21
  · refine g_astore_n [(3, .ref (xad X (4 + 2 * r2))), (0, .ref (xad X (0))), (1, .int a1), (2, .int a2)] dX7_meant_5 (by decide) rfl ?_
    refine g_aload_n 0 dX7_meant_6 rfl ?_
    refine g_ifnull dX7_meant_7 ?_
    refine g_iload_n 3 dX7_meant_10 rfl ?_
    refine g_if_lt 20 dX7_meant_11 rfl (fun _ => ?_) (fun _ => ?_)
    · refine g_iconst (-1 : Int32) dX7_meant_20 (by decide) ?_
      exact g_iret rfl dX7_meant_21
    · refine g_iload_n 3 dX7_meant_14 rfl ?_
      refine g_bipush (6 : Int32) dX7_meant_15 (by decide) ?_
      refine g_icmp_le 22 dX7_meant_17 rfl (fun _ => ?_) (fun _ => ?_)
      · refine g_aload_n 1 dX7_meant_22 rfl ?_
        refine g_aload_n 0 dX7_meant_23 rfl ?_
        refine g_bipush (16 : Int32) dX7_meant_24 (by decide) ?_
        refine g_callVI (c_X7_refuses q1.1 r2 (16 : Int32)) okX7_refuses ⟨by decide, by decide⟩ ml_X7_202 sh_0 no_0 rfl rfl [.ref (xad X (4 + 2 * r2)), .int ((16 : Int32))] rfl rfl rfl (Nat.le_of_ble_eq_true rfl) dX7_meant_26 (fun q3 => ?_)
        refine g_if_eq 35 dX7_meant_29 rfl (fun _ => ?_) (fun _ => ?_)
        · refine g_aload_n 1 dX7_meant_35 rfl ?_
          refine gf_X7_5 fl_X7_39 dX7_meant_36 ?_
          refine g_aload_n 1 dX7_meant_39 rfl ?_
          refine gf_X7_3 fl_X7_28 dX7_meant_40 ?_
          refine g_callVV (c_X6_know q3.1 0) okX6_know ⟨by decide, by decide⟩ ml_X7_230 sh_85 no_85 rfl rfl [.ref (xad X (69 + 4 * 0))] rfl rfl rfl (Nat.le_of_ble_eq_true rfl) dX7_meant_43 (fun q4 => ?_)
          refine g_aload_n 1 dX7_meant_46 rfl ?_
          refine gf_X7_5 fl_X7_39 dX7_meant_47 ?_
          refine g_aload_n 0 dX7_meant_50 rfl ?_
          refine g_callVJ (c_X4_pack q4.1 r2) okX4_pack ⟨by decide, by decide⟩ ml_X7_223 (sh_X4 hr2) (no_X4 hr2) rfl rfl [] rfl rfl rfl (Nat.le_of_ble_eq_true rfl) dX7_meant_51 (fun q5 => ?_)
          refine g_iload_n 3 dX7_meant_54 rfl ?_
          refine g_callVV (c_X6_aim q5.1 q5.2 a2) okX6_aim ⟨by decide, by decide⟩ ml_X7_234 sh_85 no_85 rfl rfl [.long (q5.2), .int a2] rfl rfl rfl (Nat.le_of_ble_eq_true rfl) dX7_meant_55 (fun q6 => ?_)
          refine g_aload_n 1 dX7_meant_58 rfl ?_
          refine g_aload_n 1 dX7_meant_59 rfl ?_
          refine gf_X7_5 fl_X7_39 dX7_meant_60 ?_
          refine g_iload_n 3 dX7_meant_63 rfl ?_
          refine g_callVJ (c_X6_many q6.1 a2) okX6_many ⟨by decide, by decide⟩ ml_X7_238 sh_85 no_85 rfl rfl [.int a2] rfl rfl rfl (Nat.le_of_ble_eq_true rfl) dX7_meant_64 (fun q7 => ?_)
          refine g_lconst (1 : Int64) dX7_meant_67 (by decide) ?_
          refine g_callVV (c_X7_tell q7.1 q7.2 (1 : Int64)) okX7_tell ⟨by decide, by decide⟩ ml_X7_242 sh_0 no_0 rfl rfl [.long (q7.2), .long ((1 : Int64))] rfl rfl rfl (Nat.le_of_ble_eq_true rfl) dX7_meant_68 (fun q8 => ?_)
          refine g_iconst (1 : Int32) dX7_meant_71 (by decide) ?_
          exact g_iret rfl dX7_meant_72
        · refine g_bipush (-3 : Int32) dX7_meant_32 (by decide) ?_
          exact g_iret rfl dX7_meant_34
      · refine g_iconst (-1 : Int32) dX7_meant_20 (by decide) ?_
        exact g_iret rfl dX7_meant_21

