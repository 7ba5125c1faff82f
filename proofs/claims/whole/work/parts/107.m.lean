def X7_at (σ : Mem) (a1 : Int32) (a2 : Int32) : Option (Mem × Int32) := ((X7_rowOf σ a1).bind fun q1 => spl q1.2 11 ((some (q1.1, (-1 : Int32)))) (fun r2 => (((X4_isThere q1.1 r2).bind fun q3 => if q3.2 = 0 then ((X7_answer q3.1 (1 : Int32)).bind fun q7 => some (q7.1, q7.2)) else ((X4_hasPlace q3.1 r2 a2).bind fun q4 => if q4.2 = 0 then ((X7_answer q4.1 (2 : Int32)).bind fun q6 => some (q6.1, q6.2)) else ((X4_cell q4.1 r2 a2).bind fun q5 => some ((uI q5.1 713 0 0 q5.2), (1 : Int32))))))))
set_option maxRecDepth 100000 in
set_option maxHeartbeats 4000000 in
theorem c_X7_at (σ : Mem) (a1 : Int32) (a2 : Int32) : CT yX7_at mX7_at enI (fun ad => [.ref (ad (0)), .int a1, .int a2]) σ (X7_at σ a1 a2) := by
  refine CT.of (by decide) rfl (fun _ => Nat.le_of_ble_eq_true rfl) (fun X => ?_)
  show GS (KM enI X) X mX7_at σ 0 [(0, .ref (xad X (0))), (1, .int a1), (2, .int a2)] [] _
  unfold X7_at
  refine g_aload_n 0 dX7_at_0 rfl ?_
  refine g_iload_n 1 dX7_at_1 rfl ?_
  refine g_callVG (c_X7_rowOf σ a1) okX7_rowOf ⟨by decide, by decide⟩ ml_X7_93 sh_0 no_0 rfl rfl [.int a1] rfl rfl rfl (Nat.le_of_ble_eq_true rfl) dX7_at_2 (fun q1 => ?_)
  refine g_spl ?_ (fun r2 hr2 => ?_)
  · refine g_astore_nN [(3, .null), (0, .ref (xad X (0))), (1, .int a1), (2, .int a2)] dX7_at_5 (by decide) rfl ?_
    refine g_aload_nN 0 dX7_at_6 rfl ?_
    refine g_ifnonnullN dX7_at_7 ?_
    refine g_iconst (-1 : Int32) dX7_at_10 (by decide) ?_
    exact g_iret rfl dX7_at_11
  · refine g_astore_n [(3, .ref (xad X (4 + 2 * r2))), (0, .ref (xad X (0))), (1, .int a1), (2, .int a2)] dX7_at_5 (by decide) rfl ?_
    refine g_aload_n 0 dX7_at_6 rfl ?_
    refine g_ifnonnull 12 dX7_at_7 rfl ?_
    refine g_aload_n 0 dX7_at_12 rfl ?_
    refine g_callVI (c_X4_isThere q1.1 r2) okX4_isThere ⟨by decide, by decide⟩ ml_X7_105 (sh_X4 hr2) (no_X4 hr2) rfl rfl [] rfl rfl rfl (Nat.le_of_ble_eq_true rfl) dX7_at_13 (fun q3 => ?_)
    refine g_if_ne 25 dX7_at_16 rfl (fun _ => ?_) (fun _ => ?_)
    · refine g_aload_n 0 dX7_at_25 rfl ?_
      refine g_iload_n 3 dX7_at_26 rfl ?_
      refine g_callVI (c_X4_hasPlace q3.1 r2 a2) okX4_hasPlace ⟨by decide, by decide⟩ ml_X7_109 (sh_X4 hr2) (no_X4 hr2) rfl rfl [.int a2] rfl rfl rfl (Nat.le_of_ble_eq_true rfl) dX7_at_27 (fun q4 => ?_)
      refine g_if_ne 39 dX7_at_30 rfl (fun _ => ?_) (fun _ => ?_)
      · refine g_aload_n 1 dX7_at_39 rfl ?_
        refine g_aload_n 0 dX7_at_40 rfl ?_
        refine g_iload_n 3 dX7_at_41 rfl ?_
        refine g_callVI (c_X4_cell q4.1 r2 a2) okX4_cell ⟨by decide, by decide⟩ ml_X7_113 (sh_X4 hr2) (no_X4 hr2) rfl rfl [.int a2] rfl rfl rfl (Nat.le_of_ble_eq_true rfl) dX7_at_42 (fun q5 => ?_)
        refine pf_X7_13 fl_X7_83 dX7_at_45 ?_
        refine g_iconst (1 : Int32) dX7_at_48 (by decide) ?_
        exact g_iret rfl dX7_at_49
      · refine g_aload_n 1 dX7_at_33 rfl ?_
        refine g_iconst (2 : Int32) dX7_at_34 (by decide) ?_
        refine g_callVI (c_X7_answer q4.1 (2 : Int32)) okX7_answer ⟨by decide, by decide⟩ ml_X7_97 sh_0 no_0 rfl rfl [.int ((2 : Int32))] rfl rfl rfl (Nat.le_of_ble_eq_true rfl) dX7_at_35 (fun q6 => ?_)
        exact g_iret rfl dX7_at_38
    · refine g_aload_n 1 dX7_at_19 rfl ?_
      refine g_iconst (1 : Int32) dX7_at_20 (by decide) ?_
      refine g_callVI (c_X7_answer q3.1 (1 : Int32)) okX7_answer ⟨by decide, by decide⟩ ml_X7_97 sh_0 no_0 rfl rfl [.int ((1 : Int32))] rfl rfl rfl (Nat.le_of_ble_eq_true rfl) dX7_at_21 (fun q7 => ?_)
      exact g_iret rfl dX7_at_24

def X7_tear (σ : Mem) (a1 : Int32) : Option (Mem × Int32) := ((X7_rowOf σ a1).bind fun q1 => spl q1.2 11 ((some (q1.1, (-1 : Int32)))) (fun r2 => (((X4_isThere q1.1 r2).bind fun q3 => if q3.2 = 0 then ((X7_answer q3.1 (1 : Int32)).bind fun q5 => some (q5.1, q5.2)) else ((X4_leave q3.1 r2).bind fun q4 => some (q4.1, (1 : Int32)))))))
set_option maxRecDepth 100000 in
set_option maxHeartbeats 4000000 in
theorem c_X7_tear (σ : Mem) (a1 : Int32) : CT yX7_tear mX7_tear enI (fun ad => [.ref (ad (0)), .int a1]) σ (X7_tear σ a1) := by
  refine CT.of (by decide) rfl (fun _ => Nat.le_of_ble_eq_true rfl) (fun X => ?_)
  show GS (KM enI X) X mX7_tear σ 0 [(0, .ref (xad X (0))), (1, .int a1)] [] _
  unfold X7_tear
  refine g_aload_n 0 dX7_tear_0 rfl ?_
  refine g_iload_n 1 dX7_tear_1 rfl ?_
  refine g_callVG (c_X7_rowOf σ a1) okX7_rowOf ⟨by decide, by decide⟩ ml_X7_93 sh_0 no_0 rfl rfl [.int a1] rfl rfl rfl (Nat.le_of_ble_eq_true rfl) dX7_tear_2 (fun q1 => ?_)
  refine g_spl ?_ (fun r2 hr2 => ?_)
  · refine g_astore_nN [(2, .null), (0, .ref (xad X (0))), (1, .int a1)] dX7_tear_5 (by decide) rfl ?_
    refine g_aload_nN 0 dX7_tear_6 rfl ?_
    refine g_ifnonnullN dX7_tear_7 ?_
    refine g_iconst (-1 : Int32) dX7_tear_10 (by decide) ?_
    exact g_iret rfl dX7_tear_11
  · refine g_astore_n [(2, .ref (xad X (4 + 2 * r2))), (0, .ref (xad X (0))), (1, .int a1)] dX7_tear_5 (by decide) rfl ?_
    refine g_aload_n 0 dX7_tear_6 rfl ?_
    refine g_ifnonnull 12 dX7_tear_7 rfl ?_
    refine g_aload_n 0 dX7_tear_12 rfl ?_
    refine g_callVI (c_X4_isThere q1.1 r2) okX4_isThere ⟨by decide, by decide⟩ ml_X7_105 (sh_X4 hr2) (no_X4 hr2) rfl rfl [] rfl rfl rfl (Nat.le_of_ble_eq_true rfl) dX7_tear_13 (fun q3 => ?_)
    refine g_if_ne 25 dX7_tear_16 rfl (fun _ => ?_) (fun _ => ?_)
    · refine g_aload_n 0 dX7_tear_25 rfl ?_
      refine g_callVV (c_X4_leave q3.1 r2) okX4_leave ⟨by decide, by decide⟩ ml_X7_119 (sh_X4 hr2) (no_X4 hr2) rfl rfl [] rfl rfl rfl (Nat.le_of_ble_eq_true rfl) dX7_tear_26 (fun q4 => ?_)
      refine g_iconst (1 : Int32) dX7_tear_29 (by decide) ?_
      exact g_iret rfl dX7_tear_30
    · refine g_aload_n 1 dX7_tear_19 rfl ?_
      refine g_iconst (1 : Int32) dX7_tear_20 (by decide) ?_
      refine g_callVI (c_X7_answer q3.1 (1 : Int32)) okX7_answer ⟨by decide, by decide⟩ ml_X7_97 sh_0 no_0 rfl rfl [.int ((1 : Int32))] rfl rfl rfl (Nat.le_of_ble_eq_true rfl) dX7_tear_21 (fun q5 => ?_)
      exact g_iret rfl dX7_tear_24

def X7_copy (σ : Mem) (a1 : Int32) (a2 : Int32) (a3 : Int32) (a4 : Int32) (a5 : Int32) : Option (Mem × Int32) := ((X7_rowOf σ a1).bind fun q1 => spl q1.2 11 ((X7_rowOf q1.1 a3).bind fun q3 => spl q3.2 11 ((some (q3.1, (-1 : Int32)))) (fun r4 => ((some (q3.1, (-1 : Int32)))))) (fun r2 => ((X7_rowOf q1.1 a3).bind fun q5 => spl q5.2 11 (((some (q5.1, (-1 : Int32))))) (fun r6 => (((if 0 ≤ a5 then ((X4_isThere q5.1 r2).bind fun q7 => if q7.2 = 0 then ((X7_answer q7.1 (1 : Int32)).bind fun q8 => some (q8.1, q8.2)) else ((X4_isThere q7.1 r6).bind fun q9 => if q9.2 = 0 then ((X7_answer q9.1 (1 : Int32)).bind fun q15 => some (q15.1, q15.2)) else ((X4_hasPlaces q9.1 r2 a2 a5).bind fun q10 => if q10.2 = 0 then ((X7_answer q10.1 (2 : Int32)).bind fun q11 => some (q11.1, q11.2)) else ((X4_hasPlaces q10.1 r6 a4 a5).bind fun q12 => if q12.2 = 0 then ((X7_answer q12.1 (2 : Int32)).bind fun q14 => some (q14.1, q14.2)) else (cpI q12.1 400 r2 (rl r2) a2 400 r6 (rl r6) a4 a5 fun (s13 : Mem) => some (s13, (1 : Int32))))))) else ((X7_answer q5.1 (5 : Int32)).bind fun q16 => some (q16.1, q16.2)))))))))
set_option maxRecDepth 100000 in
set_option maxHeartbeats 4000000 in
theorem c_X7_copy (σ : Mem) (a1 : Int32) (a2 : Int32) (a3 : Int32) (a4 : Int32) (a5 : Int32) : CT yX7_copy mX7_copy enI (fun ad => [.ref (ad (0)), .int a1, .int a2, .int a3, .int a4, .int a5]) σ (X7_copy σ a1 a2 a3 a4 a5) := by
  refine CT.of (by decide) rfl (fun _ => Nat.le_of_ble_eq_true rfl) (fun X => ?_)
  show GS (KM enI X) X mX7_copy σ 0 [(0, .ref (xad X (0))), (1, .int a1), (2, .int a2), (3, .int a3), (4, .int a4), (5, .int a5)] [] _
  unfold X7_copy
  refine g_aload_n 0 dX7_copy_0 rfl ?_
  refine g_iload_n 1 dX7_copy_1 rfl ?_
  refine g_callVG (c_X7_rowOf σ a1) okX7_rowOf ⟨by decide, by decide⟩ ml_X7_93 sh_0 no_0 rfl rfl [.int a1] rfl rfl rfl (Nat.le_of_ble_eq_true rfl) dX7_copy_2 (fun q1 => ?_)
  refine g_spl ?_ (fun r2 hr2 => ?_)
  · refine g_astoreN [(6, .null), (0, .ref (xad X (0))), (1, .int a1), (2, .int a2), (3, .int a3), (4, .int a4), (5, .int a5)] dX7_copy_5 (by decide) rfl ?_
    refine g_aload_n 1 dX7_copy_7 rfl ?_
    refine g_iload_n 4 dX7_copy_8 rfl ?_
    refine g_callVG (c_X7_rowOf q1.1 a3) okX7_rowOf ⟨by decide, by decide⟩ ml_X7_93 sh_0 no_0 rfl rfl [.int a3] rfl rfl rfl (Nat.le_of_ble_eq_true rfl) dX7_copy_9 (fun q3 => ?_)
    refine g_spl ?_ (fun r4 hr4 => ?_)
    · refine g_astoreN [(7, .null), (6, .null), (0, .ref (xad X (0))), (1, .int a1), (2, .int a2), (3, .int a3), (4, .int a4), (5, .int a5)] dX7_copy_12 (by decide) rfl ?_
      refine g_aloadN 1 dX7_copy_14 rfl ?_
      refine g_ifnullN 24 dX7_copy_16 rfl ?_
      refine g_iconst (-1 : Int32) dX7_copy_24 (by decide) ?_
      exact g_iret rfl dX7_copy_25
    · refine g_astore [(7, .ref (xad X (4 + 2 * r4))), (6, .null), (0, .ref (xad X (0))), (1, .int a1), (2, .int a2), (3, .int a3), (4, .int a4), (5, .int a5)] dX7_copy_12 (by decide) rfl ?_
      refine g_aloadN 1 dX7_copy_14 rfl ?_
      refine g_ifnullN 24 dX7_copy_16 rfl ?_
      refine g_iconst (-1 : Int32) dX7_copy_24 (by decide) ?_
      exact g_iret rfl dX7_copy_25
  · refine g_astore [(6, .ref (xad X (4 + 2 * r2))), (0, .ref (xad X (0))), (1, .int a1), (2, .int a2), (3, .int a3), (4, .int a4), (5, .int a5)] dX7_copy_5 (by decide) rfl ?_
    refine g_aload_n 1 dX7_copy_7 rfl ?_
    refine g_iload_n 4 dX7_copy_8 rfl ?_
    refine g_callVG (c_X7_rowOf q1.1 a3) okX7_rowOf ⟨by decide, by decide⟩ ml_X7_93 sh_0 no_0 rfl rfl [.int a3] rfl rfl rfl (Nat.le_of_ble_eq_true rfl) dX7_copy_9 (fun q5 => ?_)
    refine g_spl ?_ (fun r6 hr6 => ?_)
    · refine g_astoreN [(7, .null), (6, .ref (xad X (4 + 2 * r2))), (0, .ref (xad X (0))), (1, .int a1), (2, .int a2), (3, .int a3), (4, .int a4), (5, .int a5)] dX7_copy_12 (by decide) rfl ?_
      refine g_aload 1 dX7_copy_14 rfl ?_
      refine g_ifnull dX7_copy_16 ?_
      refine g_aloadN 0 dX7_copy_19 rfl ?_
      refine g_ifnonnullN dX7_copy_21 ?_
      refine g_iconst (-1 : Int32) dX7_copy_24 (by decide) ?_
      exact g_iret rfl dX7_copy_25
    · refine g_astore [(7, .ref (xad X (4 + 2 * r6))), (6, .ref (xad X (4 + 2 * r2))), (0, .ref (xad X (0))), (1, .int a1), (2, .int a2), (3, .int a3), (4, .int a4), (5, .int a5)] dX7_copy_12 (by decide) rfl ?_
      refine g_aload 1 dX7_copy_14 rfl ?_
      refine g_ifnull dX7_copy_16 ?_
      refine g_aload 0 dX7_copy_19 rfl ?_
      refine g_ifnonnull 26 dX7_copy_21 rfl ?_
      refine g_iload 7 dX7_copy_26 rfl ?_
      refine g_if_ge 37 dX7_copy_28 rfl (fun _ => ?_) (fun _ => ?_)
      · refine g_aload 1 dX7_copy_37 rfl ?_
        refine g_callVI (c_X4_isThere q5.1 r2) okX4_isThere ⟨by decide, by decide⟩ ml_X7_105 (sh_X4 hr2) (no_X4 hr2) rfl rfl [] rfl rfl rfl (Nat.le_of_ble_eq_true rfl) dX7_copy_39 (fun q7 => ?_)
        refine g_if_eq 53 dX7_copy_42 rfl (fun _ => ?_) (fun _ => ?_)
        · refine g_aload_n 2 dX7_copy_53 rfl ?_
          refine g_iconst (1 : Int32) dX7_copy_54 (by decide) ?_
          refine g_callVI (c_X7_answer q7.1 (1 : Int32)) okX7_answer ⟨by decide, by decide⟩ ml_X7_97 sh_0 no_0 rfl rfl [.int ((1 : Int32))] rfl rfl rfl (Nat.le_of_ble_eq_true rfl) dX7_copy_55 (fun q8 => ?_)
          exact g_iret rfl dX7_copy_58
        · refine g_aload 0 dX7_copy_45 rfl ?_
          refine g_callVI (c_X4_isThere q7.1 r6) okX4_isThere ⟨by decide, by decide⟩ ml_X7_105 (sh_X4 hr6) (no_X4 hr6) rfl rfl [] rfl rfl rfl (Nat.le_of_ble_eq_true rfl) dX7_copy_47 (fun q9 => ?_)
          refine g_if_ne 59 dX7_copy_50 rfl (fun _ => ?_) (fun _ => ?_)
          · refine g_aload 1 dX7_copy_59 rfl ?_
            refine g_iload_n 4 dX7_copy_61 rfl ?_
            refine g_iload 7 dX7_copy_62 rfl ?_
            refine g_callVI (c_X4_hasPlaces q9.1 r2 a2 a5) okX4_hasPlaces ⟨by decide, by decide⟩ ml_X7_122 (sh_X4 hr2) (no_X4 hr2) rfl rfl [.int a2, .int a5] rfl rfl rfl (Nat.le_of_ble_eq_true rfl) dX7_copy_64 (fun q10 => ?_)
            refine g_if_eq 82 dX7_copy_67 rfl (fun _ => ?_) (fun _ => ?_)
            · refine g_aload_n 2 dX7_copy_82 rfl ?_
              refine g_iconst (2 : Int32) dX7_copy_83 (by decide) ?_
              refine g_callVI (c_X7_answer q10.1 (2 : Int32)) okX7_answer ⟨by decide, by decide⟩ ml_X7_97 sh_0 no_0 rfl rfl [.int ((2 : Int32))] rfl rfl rfl (Nat.le_of_ble_eq_true rfl) dX7_copy_84 (fun q11 => ?_)
              exact g_iret rfl dX7_copy_87
            · refine g_aload 0 dX7_copy_70 rfl ?_
              refine g_iload 6 dX7_copy_72 rfl ?_
              refine g_iload 7 dX7_copy_74 rfl ?_
              refine g_callVI (c_X4_hasPlaces q10.1 r6 a4 a5) okX4_hasPlaces ⟨by decide, by decide⟩ ml_X7_122 (sh_X4 hr6) (no_X4 hr6) rfl rfl [.int a4, .int a5] rfl rfl rfl (Nat.le_of_ble_eq_true rfl) dX7_copy_76 (fun q12 => ?_)
              refine g_if_ne 88 dX7_copy_79 rfl (fun _ => ?_) (fun _ => ?_)
              · refine g_aload 1 dX7_copy_88 rfl ?_
                refine gf_X4_0 hr2 fl_X7_126 dX7_copy_90 ?_
                refine g_iload_n 4 dX7_copy_93 rfl ?_
                refine g_aload 0 dX7_copy_94 rfl ?_
                refine gf_X4_0 hr6 fl_X7_126 dX7_copy_96 ?_
                refine g_iload 6 dX7_copy_99 rfl ?_
                refine g_iload 7 dX7_copy_101 rfl ?_
                refine g_copyI (sh_cells hr2) (no_cells hr2) (sh_cells hr6) (no_cells hr6) jl_X7_129 ja_n ja_s ja_i (by decide) (Nat.le_of_ble_eq_true rfl) dX7_copy_103 (fun s13 _ => ?_)
                refine g_iconst (1 : Int32) dX7_copy_106 (by decide) ?_
                exact g_iret rfl dX7_copy_107
              · refine g_aload_n 2 dX7_copy_82 rfl ?_
                refine g_iconst (2 : Int32) dX7_copy_83 (by decide) ?_
                refine g_callVI (c_X7_answer q12.1 (2 : Int32)) okX7_answer ⟨by decide, by decide⟩ ml_X7_97 sh_0 no_0 rfl rfl [.int ((2 : Int32))] rfl rfl rfl (Nat.le_of_ble_eq_true rfl) dX7_copy_84 (fun q14 => ?_)
                exact g_iret rfl dX7_copy_87
          · refine g_aload_n 2 dX7_copy_53 rfl ?_
            refine g_iconst (1 : Int32) dX7_copy_54 (by decide) ?_
            refine g_callVI (c_X7_answer q9.1 (1 : Int32)) okX7_answer ⟨by decide, by decide⟩ ml_X7_97 sh_0 no_0 rfl rfl [.int ((1 : Int32))] rfl rfl rfl (Nat.le_of_ble_eq_true rfl) dX7_copy_55 (fun q15 => ?_)
            exact g_iret rfl dX7_copy_58
      · refine g_aload_n 2 dX7_copy_31 rfl ?_
        refine g_iconst (5 : Int32) dX7_copy_32 (by decide) ?_
        refine g_callVI (c_X7_answer q5.1 (5 : Int32)) okX7_answer ⟨by decide, by decide⟩ ml_X7_97 sh_0 no_0 rfl rfl [.int ((5 : Int32))] rfl rfl rfl (Nat.le_of_ble_eq_true rfl) dX7_copy_33 (fun q16 => ?_)
        exact g_iret rfl dX7_copy_36

def X7_mean (σ : Mem) (a1 : Int32) : Option (Mem × Int32) := ((X7_rowOf σ a1).bind fun q1 => spl q1.2 11 ((some (q1.1, (-1 : Int32)))) (fun r2 => (((X4_isThere q1.1 r2).bind fun q3 => if q3.2 = 0 then ((X7_answer q3.1 (1 : Int32)).bind fun q6 => some (q6.1, q6.2)) else (if (q3.1.1 401 r2 0) = 0 then ((X7_answer q3.1 (4 : Int32)).bind fun q5 => some (q5.1, q5.2)) else ((X4_sum q3.1 r2).bind fun q4 => if (q4.1.1 401 r2 0).toInt64 = 0 then none else some ((uI q4.1 713 0 0 ((q4.2 / (q4.1.1 401 r2 0).toInt64).toInt32)), (1 : Int32))))))))
set_option maxRecDepth 100000 in
set_option maxHeartbeats 4000000 in
theorem c_X7_mean (σ : Mem) (a1 : Int32) : CT yX7_mean mX7_mean enI (fun ad => [.ref (ad (0)), .int a1]) σ (X7_mean σ a1) := by
  refine CT.of (by decide) rfl (fun _ => Nat.le_of_ble_eq_true rfl) (fun X => ?_)
  show GS (KM enI X) X mX7_mean σ 0 [(0, .ref (xad X (0))), (1, .int a1)] [] _
  unfold X7_mean
  refine g_aload_n 0 dX7_mean_0 rfl ?_
  refine g_iload_n 1 dX7_mean_1 rfl ?_
  refine g_callVG (c_X7_rowOf σ a1) okX7_rowOf ⟨by decide, by decide⟩ ml_X7_93 sh_0 no_0 rfl rfl [.int a1] rfl rfl rfl (Nat.le_of_ble_eq_true rfl) dX7_mean_2 (fun q1 => ?_)
  refine g_spl ?_ (fun r2 hr2 => ?_)
  · refine g_astore_nN [(2, .null), (0, .ref (xad X (0))), (1, .int a1)] dX7_mean_5 (by decide) rfl ?_
    refine g_aload_nN 0 dX7_mean_6 rfl ?_
    refine g_ifnonnullN dX7_mean_7 ?_
    refine g_iconst (-1 : Int32) dX7_mean_10 (by decide) ?_
    exact g_iret rfl dX7_mean_11
  · refine g_astore_n [(2, .ref (xad X (4 + 2 * r2))), (0, .ref (xad X (0))), (1, .int a1)] dX7_mean_5 (by decide) rfl ?_
    refine g_aload_n 0 dX7_mean_6 rfl ?_
    refine g_ifnonnull 12 dX7_mean_7 rfl ?_
    refine g_aload_n 0 dX7_mean_12 rfl ?_
    refine g_callVI (c_X4_isThere q1.1 r2) okX4_isThere ⟨by decide, by decide⟩ ml_X7_105 (sh_X4 hr2) (no_X4 hr2) rfl rfl [] rfl rfl rfl (Nat.le_of_ble_eq_true rfl) dX7_mean_13 (fun q3 => ?_)
    refine g_if_ne 25 dX7_mean_16 rfl (fun _ => ?_) (fun _ => ?_)
    · refine g_aload_n 0 dX7_mean_25 rfl ?_
      refine gf_X4_1 hr2 fl_X7_135 dX7_mean_26 ?_
      refine g_if_ne 38 dX7_mean_29 rfl (fun _ => ?_) (fun _ => ?_)
      · refine g_aload_n 1 dX7_mean_38 rfl ?_
        refine g_aload_n 0 dX7_mean_39 rfl ?_
        refine g_callVJ (c_X4_sum q3.1 r2) okX4_sum ⟨by decide, by decide⟩ ml_X7_138 (sh_X4 hr2) (no_X4 hr2) rfl rfl [] rfl rfl rfl (Nat.le_of_ble_eq_true rfl) dX7_mean_40 (fun q4 => ?_)
        refine g_aload_n 0 dX7_mean_43 rfl ?_
        refine gf_X4_1 hr2 fl_X7_135 dX7_mean_44 ?_
        refine g_i2l dX7_mean_47 ?_
        refine g_ldiv dX7_mean_48 (fun _ => ?_)
        refine g_l2i dX7_mean_49 ?_
        refine pf_X7_13 fl_X7_83 dX7_mean_50 ?_
        refine g_iconst (1 : Int32) dX7_mean_53 (by decide) ?_
        exact g_iret rfl dX7_mean_54
      · refine g_aload_n 1 dX7_mean_32 rfl ?_
        refine g_iconst (4 : Int32) dX7_mean_33 (by decide) ?_
        refine g_callVI (c_X7_answer q3.1 (4 : Int32)) okX7_answer ⟨by decide, by decide⟩ ml_X7_97 sh_0 no_0 rfl rfl [.int ((4 : Int32))] rfl rfl rfl (Nat.le_of_ble_eq_true rfl) dX7_mean_34 (fun q5 => ?_)
        exact g_iret rfl dX7_mean_37
    · refine g_aload_n 1 dX7_mean_19 rfl ?_
      refine g_iconst (1 : Int32) dX7_mean_20 (by decide) ?_
      refine g_callVI (c_X7_answer q3.1 (1 : Int32)) okX7_answer ⟨by decide, by decide⟩ ml_X7_97 sh_0 no_0 rfl rfl [.int ((1 : Int32))] rfl rfl rfl (Nat.le_of_ble_eq_true rfl) dX7_mean_21 (fun q6 => ?_)
      exact g_iret rfl dX7_mean_24

def X7_textOf (σ : Mem) (a1 : Int32) : Option (Mem × (Option Nat)) := (if a1 < 0 then (some (σ, none)) else (if (4 : Int32) ≤ a1 then (some (σ, none)) else (ck a1 4 <| if (6 + a1.toNatClampNeg) < 11 then (some (σ, some (6 + a1.toNatClampNeg))) else none)))
set_option maxRecDepth 100000 in
set_option maxHeartbeats 4000000 in
theorem c_X7_textOf (σ : Mem) (a1 : Int32) : CT yX7_textOf mX7_textOf (enG (fun x => 4 + 2 * x)) (fun ad => [.ref (ad (0)), .int a1]) σ (X7_textOf σ a1) := by
  refine CT.of (by decide) rfl (fun _ => Nat.le_of_ble_eq_true rfl) (fun X => ?_)
  show GS (KM (enG (fun x => 4 + 2 * x)) X) X mX7_textOf σ 0 [(0, .ref (xad X (0))), (1, .int a1)] [] _
  unfold X7_textOf
  refine g_iload_n 1 dX7_textOf_0 rfl ?_
  refine g_if_lt 22 dX7_textOf_1 rfl (fun _ => ?_) (fun _ => ?_)
  · refine g_null dX7_textOf_22 ?_
    exact g_aretGN rfl dX7_textOf_23
  · refine g_iload_n 1 dX7_textOf_4 rfl ?_
    refine g_aload_n 0 dX7_textOf_5 rfl ?_
    refine gf_X7_1 fl_X7_15 dX7_textOf_6 ?_
    refine g_alen (v := (4 : Int32)) sh_2 no_2 (by decide) rfl dX7_textOf_9 ?_
    refine g_icmp_ge 22 dX7_textOf_10 rfl (fun _ => ?_) (fun _ => ?_)
    · refine g_null dX7_textOf_22 ?_
      exact g_aretGN rfl dX7_textOf_23
    · refine g_aload_n 0 dX7_textOf_13 rfl ?_
      refine gf_X7_1 fl_X7_15 dX7_textOf_14 ?_
      refine g_iload_n 1 dX7_textOf_17 rfl ?_
      refine g_ald3 sh_2 no_2 dX7_textOf_18 (fun _ => ?_)
      refine g_guard (fun h1 => ?_)
      refine g_goto 23 dX7_textOf_19 rfl ?_
      exact g_aretG (g := fun x => 4 + 2 * x) rfl dX7_textOf_23

def X7_text (σ : Mem) (a1 : Int32) (a2 : Int32) : Option (Mem × Int32) := ((X7_textOf σ a1).bind fun q1 => spl q1.2 11 ((some (q1.1, (-1 : Int32)))) (fun r2 => ((if a2 ≤ (60 : Int32) then (if 0 ≤ a2 then ((X4_renew q1.1 r2 a2 (32 : Int32)).bind fun q3 => some (q3.1, a2)) else ((X7_answer q1.1 (5 : Int32)).bind fun q4 => some (q4.1, q4.2))) else (some (q1.1, (-1 : Int32)))))))
set_option maxRecDepth 100000 in
set_option maxHeartbeats 4000000 in
theorem c_X7_text (σ : Mem) (a1 : Int32) (a2 : Int32) : CT yX7_text mX7_text enI (fun ad => [.ref (ad (0)), .int a1, .int a2]) σ (X7_text σ a1 a2) := by
  refine CT.of (by decide) rfl (fun _ => Nat.le_of_ble_eq_true rfl) (fun X => ?_)
  show GS (KM enI X) X mX7_text σ 0 [(0, .ref (xad X (0))), (1, .int a1), (2, .int a2)] [] _
  unfold X7_text
  refine g_aload_n 0 dX7_text_0 rfl ?_
  refine g_iload_n 1 dX7_text_1 rfl ?_
  refine g_callVG (c_X7_textOf σ a1) okX7_textOf ⟨by decide, by decide⟩ ml_X7_142 sh_0 no_0 rfl rfl [.int a1] rfl rfl rfl (Nat.le_of_ble_eq_true rfl) dX7_text_2 (fun q1 => ?_)
  refine g_spl ?_ (fun r2 hr2 => ?_)
  · refine g_astore_nN [(3, .null), (0, .ref (xad X (0))), (1, .int a1), (2, .int a2)] dX7_text_5 (by decide) rfl ?_
    refine g_aload_nN 0 dX7_text_6 rfl ?_
    refine g_ifnullN 16 dX7_text_7 rfl ?_
    refine g_iconst (-1 : Int32) dX7_text_16 (by decide) ?_
    exact g_iret rfl dX7_text_17
  · refine g_astore_n [(3, .ref (xad X (4 + 2 * r2))), (0, .ref (xad X (0))), (1, .int a1), (2, .int a2)] dX7_text_5 (by decide) rfl ?_
    refine g_aload_n 0 dX7_text_6 rfl ?_
    refine g_ifnull dX7_text_7 ?_
    refine g_iload_n 3 dX7_text_10 rfl ?_
    refine g_bipush (60 : Int32) dX7_text_11 (by decide) ?_
    refine g_icmp_le 18 dX7_text_13 rfl (fun _ => ?_) (fun _ => ?_)
    · refine g_iload_n 3 dX7_text_18 rfl ?_
      refine g_if_ge 28 dX7_text_19 rfl (fun _ => ?_) (fun _ => ?_)
      · refine g_aload_n 0 dX7_text_28 rfl ?_
        refine g_iload_n 3 dX7_text_29 rfl ?_
        refine g_bipush (32 : Int32) dX7_text_30 (by decide) ?_
        refine g_callVV (c_X4_renew q1.1 r2 a2 (32 : Int32)) okX4_renew ⟨by decide, by decide⟩ ml_X7_101 (sh_X4 hr2) (no_X4 hr2) rfl rfl [.int a2, .int ((32 : Int32))] rfl rfl rfl (Nat.le_of_ble_eq_true rfl) dX7_text_32 (fun q3 => ?_)
        refine g_iload_n 3 dX7_text_35 rfl ?_
        exact g_iret rfl dX7_text_36
      · refine g_aload_n 1 dX7_text_22 rfl ?_
        refine g_iconst (5 : Int32) dX7_text_23 (by decide) ?_
        refine g_callVI (c_X7_answer q1.1 (5 : Int32)) okX7_answer ⟨by decide, by decide⟩ ml_X7_97 sh_0 no_0 rfl rfl [.int ((5 : Int32))] rfl rfl rfl (Nat.le_of_ble_eq_true rfl) dX7_text_24 (fun q4 => ?_)
        exact g_iret rfl dX7_text_27
    · refine g_iconst (-1 : Int32) dX7_text_16 (by decide) ?_
      exact g_iret rfl dX7_text_17

def X7_put (σ : Mem) (a1 : Int32) (a2 : Int32) (a3 : Int32) : Option (Mem × Int32) := ((X7_textOf σ a1).bind fun q1 => spl q1.2 11 ((some (q1.1, (-1 : Int32)))) (fun r2 => (((X4_isThere q1.1 r2).bind fun q3 => if q3.2 = 0 then ((X7_answer q3.1 (1 : Int32)).bind fun q8 => some (q8.1, q8.2)) else ((X4_hasPlace q3.1 r2 a2).bind fun q4 => if q4.2 = 0 then ((X7_answer q4.1 (2 : Int32)).bind fun q7 => some (q7.1, q7.2)) else ((X4_cell q4.1 r2 a2).bind fun q5 => (X4_change q5.1 r2 a2 (a3.toInt8.toInt32)).bind fun q6 => some (q6.1, (q5.2 + (1000 : Int32)))))))))
set_option maxRecDepth 100000 in
set_option maxHeartbeats 4000000 in
theorem c_X7_put (σ : Mem) (a1 : Int32) (a2 : Int32) (a3 : Int32) : CT yX7_put mX7_put enI (fun ad => [.ref (ad (0)), .int a1, .int a2, .int a3]) σ (X7_put σ a1 a2 a3) := by
  refine CT.of (by decide) rfl (fun _ => Nat.le_of_ble_eq_true rfl) (fun X => ?_)
  show GS (KM enI X) X mX7_put σ 0 [(0, .ref (xad X (0))), (1, .int a1), (2, .int a2), (3, .int a3)] [] _
  unfold X7_put
  refine g_aload_n 0 dX7_put_0 rfl ?_
  refine g_iload_n 1 dX7_put_1 rfl ?_
  refine g_callVG (c_X7_textOf σ a1) okX7_textOf ⟨by decide, by decide⟩ ml_X7_142 sh_0 no_0 rfl rfl [.int a1] rfl rfl rfl (Nat.le_of_ble_eq_true rfl) dX7_put_2 (fun q1 => ?_)
  refine g_spl ?_ (fun r2 hr2 => ?_)
  · refine g_astoreN [(4, .null), (0, .ref (xad X (0))), (1, .int a1), (2, .int a2), (3, .int a3)] dX7_put_5 (by decide) rfl ?_
    refine g_aloadN 0 dX7_put_7 rfl ?_
    refine g_ifnonnullN dX7_put_9 ?_
    refine g_iconst (-1 : Int32) dX7_put_12 (by decide) ?_
    exact g_iret rfl dX7_put_13
  · refine g_astore [(4, .ref (xad X (4 + 2 * r2))), (0, .ref (xad X (0))), (1, .int a1), (2, .int a2), (3, .int a3)] dX7_put_5 (by decide) rfl ?_
    refine g_aload 0 dX7_put_7 rfl ?_
    refine g_ifnonnull 14 dX7_put_9 rfl ?_
    refine g_aload 0 dX7_put_14 rfl ?_
    refine g_callVI (c_X4_isThere q1.1 r2) okX4_isThere ⟨by decide, by decide⟩ ml_X7_105 (sh_X4 hr2) (no_X4 hr2) rfl rfl [] rfl rfl rfl (Nat.le_of_ble_eq_true rfl) dX7_put_16 (fun q3 => ?_)
    refine g_if_ne 28 dX7_put_19 rfl (fun _ => ?_) (fun _ => ?_)
    · refine g_aload 0 dX7_put_28 rfl ?_
      refine g_iload_n 3 dX7_put_30 rfl ?_
      refine g_callVI (c_X4_hasPlace q3.1 r2 a2) okX4_hasPlace ⟨by decide, by decide⟩ ml_X7_109 (sh_X4 hr2) (no_X4 hr2) rfl rfl [.int a2] rfl rfl rfl (Nat.le_of_ble_eq_true rfl) dX7_put_31 (fun q4 => ?_)
      refine g_if_ne 43 dX7_put_34 rfl (fun _ => ?_) (fun _ => ?_)
      · refine g_aload 0 dX7_put_43 rfl ?_
        refine g_iload_n 3 dX7_put_45 rfl ?_
        refine g_callVI (c_X4_cell q4.1 r2 a2) okX4_cell ⟨by decide, by decide⟩ ml_X7_113 (sh_X4 hr2) (no_X4 hr2) rfl rfl [.int a2] rfl rfl rfl (Nat.le_of_ble_eq_true rfl) dX7_put_46 (fun q5 => ?_)
        refine g_istore [(5, .int (q5.2)), (4, .ref (xad X (4 + 2 * r2))), (0, .ref (xad X (0))), (1, .int a1), (2, .int a2), (3, .int a3)] dX7_put_49 (by decide) rfl ?_
        refine g_aload 1 dX7_put_51 rfl ?_
        refine g_iload_n 4 dX7_put_53 rfl ?_
        refine g_iload_n 5 dX7_put_54 rfl ?_
        refine g_i2b dX7_put_55 ?_
        refine g_callVV (c_X4_change q5.1 r2 a2 (a3.toInt8.toInt32)) okX4_change ⟨by decide, by decide⟩ ml_X7_116 (sh_X4 hr2) (no_X4 hr2) rfl rfl [.int a2, .int (a3.toInt8.toInt32)] rfl rfl rfl (Nat.le_of_ble_eq_true rfl) dX7_put_56 (fun q6 => ?_)
        refine g_iload 0 dX7_put_59 rfl ?_
        refine g_sipush (1000 : Int32) dX7_put_61 (by decide) ?_
        refine g_iadd dX7_put_64 ?_
        exact g_iret rfl dX7_put_65
      · refine g_aload_n 1 dX7_put_37 rfl ?_
        refine g_iconst (2 : Int32) dX7_put_38 (by decide) ?_
        refine g_callVI (c_X7_answer q4.1 (2 : Int32)) okX7_answer ⟨by decide, by decide⟩ ml_X7_97 sh_0 no_0 rfl rfl [.int ((2 : Int32))] rfl rfl rfl (Nat.le_of_ble_eq_true rfl) dX7_put_39 (fun q7 => ?_)
        exact g_iret rfl dX7_put_42
    · refine g_aload_n 1 dX7_put_22 rfl ?_
      refine g_iconst (1 : Int32) dX7_put_23 (by decide) ?_
      refine g_callVI (c_X7_answer q3.1 (1 : Int32)) okX7_answer ⟨by decide, by decide⟩ ml_X7_97 sh_0 no_0 rfl rfl [.int ((1 : Int32))] rfl rfl rfl (Nat.le_of_ble_eq_true rfl) dX7_put_24 (fun q8 => ?_)
      exact g_iret rfl dX7_put_27

def X7_fault (σ : Mem) (a1 : Int32) : Option (Mem × Int32) := ((X7_textOf σ a1).bind fun q1 => spl q1.2 11 ((some (q1.1, (-1 : Int32)))) (fun r2 => (((X4_isThere q1.1 r2).bind fun q3 => if q3.2 = 0 then ((X7_answer q3.1 (1 : Int32)).bind fun q5 => some (q5.1, q5.2)) else ((X3_read q3.1 r2).bind fun q4 => some (q4.1, q4.2))))))
set_option maxRecDepth 100000 in
set_option maxHeartbeats 4000000 in
theorem c_X7_fault (σ : Mem) (a1 : Int32) : CT yX7_fault mX7_fault enI (fun ad => [.ref (ad (0)), .int a1]) σ (X7_fault σ a1) := by
  refine CT.of (by decide) rfl (fun _ => Nat.le_of_ble_eq_true rfl) (fun X => ?_)
  show GS (KM enI X) X mX7_fault σ 0 [(0, .ref (xad X (0))), (1, .int a1)] [] _
  unfold X7_fault
  refine g_aload_n 0 dX7_fault_0 rfl ?_
  refine g_iload_n 1 dX7_fault_1 rfl ?_
  refine g_callVG (c_X7_textOf σ a1) okX7_textOf ⟨by decide, by decide⟩ ml_X7_142 sh_0 no_0 rfl rfl [.int a1] rfl rfl rfl (Nat.le_of_ble_eq_true rfl) dX7_fault_2 (fun q1 => ?_)
  refine g_spl ?_ (fun r2 hr2 => ?_)
  · refine g_astore_nN [(2, .null), (0, .ref (xad X (0))), (1, .int a1)] dX7_fault_5 (by decide) rfl ?_
    refine g_aload_nN 0 dX7_fault_6 rfl ?_
    refine g_ifnonnullN dX7_fault_7 ?_
    refine g_iconst (-1 : Int32) dX7_fault_10 (by decide) ?_
    exact g_iret rfl dX7_fault_11
  · refine g_astore_n [(2, .ref (xad X (4 + 2 * r2))), (0, .ref (xad X (0))), (1, .int a1)] dX7_fault_5 (by decide) rfl ?_
    refine g_aload_n 0 dX7_fault_6 rfl ?_
    refine g_ifnonnull 12 dX7_fault_7 rfl ?_
    refine g_aload_n 0 dX7_fault_12 rfl ?_
    refine g_callVI (c_X4_isThere q1.1 r2) okX4_isThere ⟨by decide, by decide⟩ ml_X7_105 (sh_X4 hr2) (no_X4 hr2) rfl rfl [] rfl rfl rfl (Nat.le_of_ble_eq_true rfl) dX7_fault_13 (fun q3 => ?_)
    refine g_if_ne 25 dX7_fault_16 rfl (fun _ => ?_) (fun _ => ?_)
    · refine g_aload_n 1 dX7_fault_25 rfl ?_
      refine gf_X7_2 fl_X7_21 dX7_fault_26 ?_
      refine g_aload_n 0 dX7_fault_29 rfl ?_
      refine g_callVI (c_X3_read q3.1 r2) okX3_read ⟨by decide, by decide⟩ ml_X7_145 sh_26 no_26 rfl rfl [.ref (xad X (4 + 2 * r2))] rfl rfl rfl (Nat.le_of_ble_eq_true rfl) dX7_fault_30 (fun q4 => ?_)
      exact g_iret rfl dX7_fault_33
    · refine g_aload_n 1 dX7_fault_19 rfl ?_
      refine g_iconst (1 : Int32) dX7_fault_20 (by decide) ?_
      refine g_callVI (c_X7_answer q3.1 (1 : Int32)) okX7_answer ⟨by decide, by decide⟩ ml_X7_97 sh_0 no_0 rfl rfl [.int ((1 : Int32))] rfl rfl rfl (Nat.le_of_ble_eq_true rfl) dX7_fault_21 (fun q5 => ?_)
      exact g_iret rfl dX7_fault_24

def X7_press_L54 (k79 : Mem → Option (Mem × Int32)) : Nat → Mem → Int32 → Option (Mem × Int32)
  | 0, _, _ => none
  | n + 1, σ, x3 => (if (3 : Int32) ≤ x3 then k79 σ else (ck x3 3 <| if (1 + x3.toNatClampNeg) < 4 then X7_press_L54 k79 n ((uI σ 203 (1 + x3.toNatClampNeg) 0 (0 : Int32))) ((x3 + (1 : Int32))) else none))
def X7_press (σ : Mem) (a1 : Int32) : Option (Mem × Int32) := ((X7_textOf σ a1).bind fun q1 => spl q1.2 11 ((some (q1.1, (-1 : Int32)))) (fun r2 => (((X4_isThere q1.1 r2).bind fun q3 => if q3.2 = 0 then ((X7_answer q3.1 (1 : Int32)).bind fun q10 => some (q10.1, q10.2)) else ((X3_read q3.1 r2).bind fun q4 => if q4.2 = (-9 : Int32) then ((X2_begin q4.1 0).bind fun q5 => X7_press_L54 (fun (s9 : Mem) => (some (s9, (s9.1 203 0 0)))) FU q5.1 (0 : Int32)) else (some (q4.1, (-4 : Int32))))))))
set_option maxRecDepth 100000 in
set_option maxHeartbeats 4000000 in
theorem t_X7_press_L54 (X : GX) (k79 : Mem → Option (Mem × Int32)) (hk79 : ∀ (σ : Mem), GS (KM enI X) X mX7_press σ 79 [(0, .ref (xad X (0)))] [] (k79 σ)) : ∀ (n : Nat) (σ : Mem) (x3 : Int32), GS (KM enI X) X mX7_press σ 54 [(0, .ref (xad X (0))), (3, .int x3)] [] (X7_press_L54 k79 n σ x3) := by
  intro n
  induction n with
  | zero => intros; exact g_none
  | succ n ih =>
    intro σ x3
    rw [X7_press_L54]
    refine g_iload_n 1 dX7_press_54 rfl ?_
    refine g_aload_n 0 dX7_press_55 rfl ?_
    refine gf_X7_4 fl_X7_32 dX7_press_56 ?_
    refine g_alen (v := (3 : Int32)) sh_3 no_3 (by decide) rfl dX7_press_59 ?_
    refine g_icmp_ge 79 dX7_press_60 rfl (fun _ => ?_) (fun _ => ?_)
    · refine g_sub [0] rfl ?_
      exact hk79 σ
    · refine g_aload_n 0 dX7_press_63 rfl ?_
      refine gf_X7_4 fl_X7_32 dX7_press_64 ?_
      refine g_iload_n 1 dX7_press_67 rfl ?_
      refine g_ald5 sh_3 no_3 dX7_press_68 (fun _ => ?_)
      refine g_guard (fun h6 => ?_)
      refine g_iconst (0 : Int32) dX7_press_69 (by decide) ?_
      refine pf_X2_3 h6 fl_X7_153 dX7_press_70 ?_
      refine g_iinc 1 [(3, .int ((x3 + (1 : Int32)))), (0, .ref (xad X (0)))] dX7_press_73 rfl (v := x3 + (1 : Int32)) rfl (by decide) rfl ?_
      refine g_goto 54 dX7_press_76 rfl ?_
      refine g_sub [1, 0] rfl ?_
      exact ih ((uI σ 203 (1 + x3.toNatClampNeg) 0 (0 : Int32))) ((x3 + (1 : Int32)))

set_option maxRecDepth 100000 in
set_option maxHeartbeats 4000000 in
theorem c_X7_press (σ : Mem) (a1 : Int32) : CT yX7_press mX7_press enI (fun ad => [.ref (ad (0)), .int a1]) σ (X7_press σ a1) := by
  refine CT.of (by decide) rfl (fun _ => Nat.le_of_ble_eq_true rfl) (fun X => ?_)
  show GS (KM enI X) X mX7_press σ 0 [(0, .ref (xad X (0))), (1, .int a1)] [] _
  unfold X7_press
  refine g_aload_n 0 dX7_press_0 rfl ?_
  refine g_iload_n 1 dX7_press_1 rfl ?_
  refine g_callVG (c_X7_textOf σ a1) okX7_textOf ⟨by decide, by decide⟩ ml_X7_142 sh_0 no_0 rfl rfl [.int a1] rfl rfl rfl (Nat.le_of_ble_eq_true rfl) dX7_press_2 (fun q1 => ?_)
  refine g_spl ?_ (fun r2 hr2 => ?_)
  · refine g_astore_nN [(2, .null), (0, .ref (xad X (0))), (1, .int a1)] dX7_press_5 (by decide) rfl ?_
    refine g_aload_nN 0 dX7_press_6 rfl ?_
    refine g_ifnonnullN dX7_press_7 ?_
    refine g_iconst (-1 : Int32) dX7_press_10 (by decide) ?_
    exact g_iret rfl dX7_press_11
  · refine g_astore_n [(2, .ref (xad X (4 + 2 * r2))), (0, .ref (xad X (0))), (1, .int a1)] dX7_press_5 (by decide) rfl ?_
    refine g_aload_n 0 dX7_press_6 rfl ?_
    refine g_ifnonnull 12 dX7_press_7 rfl ?_
    refine g_aload_n 0 dX7_press_12 rfl ?_
    refine g_callVI (c_X4_isThere q1.1 r2) okX4_isThere ⟨by decide, by decide⟩ ml_X7_105 (sh_X4 hr2) (no_X4 hr2) rfl rfl [] rfl rfl rfl (Nat.le_of_ble_eq_true rfl) dX7_press_13 (fun q3 => ?_)
    refine g_if_ne 25 dX7_press_16 rfl (fun _ => ?_) (fun _ => ?_)
    · refine g_aload_n 1 dX7_press_25 rfl ?_
      refine gf_X7_2 fl_X7_21 dX7_press_26 ?_
      refine g_aload_n 0 dX7_press_29 rfl ?_
      refine g_callVI (c_X3_read q3.1 r2) okX3_read ⟨by decide, by decide⟩ ml_X7_145 sh_26 no_26 rfl rfl [.ref (xad X (4 + 2 * r2))] rfl rfl rfl (Nat.le_of_ble_eq_true rfl) dX7_press_30 (fun q4 => ?_)
      refine g_bipush (-9 : Int32) dX7_press_33 (by decide) ?_
      refine g_icmp_eq 41 dX7_press_35 rfl (fun _ => ?_) (fun _ => ?_)
      · refine g_aload_n 1 dX7_press_41 rfl ?_
        refine gf_X7_3 fl_X7_28 dX7_press_42 ?_
        refine g_aload_n 1 dX7_press_45 rfl ?_
        refine gf_X7_2 fl_X7_21 dX7_press_46 ?_
        refine g_callVV (c_X2_begin q4.1 0) okX2_begin ⟨by decide, by decide⟩ ml_X7_149 (sh_X2 (by decide)) (no_X2 (by decide)) rfl rfl [.ref (xad X (26))] rfl rfl rfl (Nat.le_of_ble_eq_true rfl) dX7_press_49 (fun q5 => ?_)
        refine g_iconst (0 : Int32) dX7_press_52 (by decide) ?_
        refine g_istore_n [(3, .int ((0 : Int32))), (2, .ref (xad X (4 + 2 * r2))), (0, .ref (xad X (0))), (1, .int a1)] dX7_press_53 (by decide) rfl ?_
        refine g_sub [2, 0] rfl ?_
        refine t_X7_press_L54 X _ (fun s9 => ?_) FU q5.1 (0 : Int32)
        refine g_aload_n 0 dX7_press_79 rfl ?_
        refine gf_X7_3 fl_X7_28 dX7_press_80 ?_
        refine gf_X2_3 (by decide) fl_X7_153 dX7_press_83 ?_
        exact g_iret rfl dX7_press_86
      · refine g_bipush (-4 : Int32) dX7_press_38 (by decide) ?_
        exact g_iret rfl dX7_press_40
    · refine g_aload_n 1 dX7_press_19 rfl ?_
      refine g_iconst (1 : Int32) dX7_press_20 (by decide) ?_
      refine g_callVI (c_X7_answer q3.1 (1 : Int32)) okX7_answer ⟨by decide, by decide⟩ ml_X7_97 sh_0 no_0 rfl rfl [.int ((1 : Int32))] rfl rfl rfl (Nat.le_of_ble_eq_true rfl) dX7_press_21 (fun q10 => ?_)
      exact g_iret rfl dX7_press_24

def X7_law (σ : Mem) (a1 : Int32) (a2 : Int32) : Option (Mem × Int32) := ((X2_numbered σ 0 a1).bind fun q1 => spl q1.2 41 ((some (q1.1, (-1 : Int32)))) (fun r2 => ((if a2 < 0 then (some (q1.1, (-1 : Int32))) else (if a2 ≤ (4 : Int32) then ((X1_tell q1.1 r2 a2).bind fun q3 => some ((uI q3.1 713 0 0 q3.2), (1 : Int32))) else (some (q1.1, (-1 : Int32))))))))
set_option maxRecDepth 100000 in
set_option maxHeartbeats 4000000 in
theorem c_X7_law (σ : Mem) (a1 : Int32) (a2 : Int32) : CT yX7_law mX7_law enI (fun ad => [.ref (ad (0)), .int a1, .int a2]) σ (X7_law σ a1 a2) := by
  refine CT.of (by decide) rfl (fun _ => Nat.le_of_ble_eq_true rfl) (fun X => ?_)
  show GS (KM enI X) X mX7_law σ 0 [(0, .ref (xad X (0))), (1, .int a1), (2, .int a2)] [] _
  unfold X7_law
  refine g_aload_n 0 dX7_law_0 rfl ?_
  refine gf_X7_3 fl_X7_28 dX7_law_1 ?_
  refine g_iload_n 1 dX7_law_4 rfl ?_
  refine g_callVG (c_X2_numbered σ 0 a1) okX2_numbered ⟨by decide, by decide⟩ ml_X7_154 (sh_X2 (by decide)) (no_X2 (by decide)) rfl rfl [.int a1] rfl rfl rfl (Nat.le_of_ble_eq_true rfl) dX7_law_5 (fun q1 => ?_)
  refine g_spl ?_ (fun r2 hr2 => ?_)
  · refine g_astore_nN [(3, .null), (0, .ref (xad X (0))), (1, .int a1), (2, .int a2)] dX7_law_8 (by decide) rfl ?_
    refine g_aload_nN 0 dX7_law_9 rfl ?_
    refine g_ifnullN 22 dX7_law_10 rfl ?_
    refine g_iconst (-1 : Int32) dX7_law_22 (by decide) ?_
    exact g_iret rfl dX7_law_23
  · refine g_astore_n [(3, .ref (xad X (28 + r2))), (0, .ref (xad X (0))), (1, .int a1), (2, .int a2)] dX7_law_8 (by decide) rfl ?_
    refine g_aload_n 0 dX7_law_9 rfl ?_
    refine g_ifnull dX7_law_10 ?_
    refine g_iload_n 3 dX7_law_13 rfl ?_
    refine g_if_lt 22 dX7_law_14 rfl (fun _ => ?_) (fun _ => ?_)
    · refine g_iconst (-1 : Int32) dX7_law_22 (by decide) ?_
      exact g_iret rfl dX7_law_23
    · refine g_iload_n 3 dX7_law_17 rfl ?_
      refine g_iconst (4 : Int32) dX7_law_18 (by decide) ?_
      refine g_icmp_le 24 dX7_law_19 rfl (fun _ => ?_) (fun _ => ?_)
      · refine g_aload_n 1 dX7_law_24 rfl ?_
        refine g_aload_n 0 dX7_law_25 rfl ?_
        refine g_iload_n 3 dX7_law_26 rfl ?_
        refine g_callVI (c_X1_tell q1.1 r2 a2) okX1_tell ⟨by decide, by decide⟩ ml_X7_158 (sh_X1 hr2) (no_X1 hr2) rfl rfl [.int a2] rfl rfl rfl (Nat.le_of_ble_eq_true rfl) dX7_law_27 (fun q3 => ?_)
        refine pf_X7_13 fl_X7_83 dX7_law_30 ?_
        refine g_iconst (1 : Int32) dX7_law_33 (by decide) ?_
        exact g_iret rfl dX7_law_34
      · refine g_iconst (-1 : Int32) dX7_law_22 (by decide) ?_
        exact g_iret rfl dX7_law_23

