def X7_mark (σ : Mem) (a1 : Int32) (a2 : Int32) : Option (Mem × Int32) := ((X2_numbered σ 0 a1).bind fun q1 => spl q1.2 41 ((some (q1.1, (-1 : Int32)))) (fun r2 => ((if a2 ≤ 0 then (some (q1.1, (-1 : Int32))) else (if a2 < (6 : Int32) then ((X1_isOf q1.1 r2 a2).bind fun q3 => if q3.2 = 0 then ((X7_answer q3.1 (3 : Int32)).bind fun q17 => some (q17.1, q17.2)) else (if a2 = (1 : Int32) then ((X2_inksOf q3.1 0 ((q3.1.1 101 r2 0))).bind fun q4 => some (q4.1, q4.2)) else if a2 = (2 : Int32) then ((X2_lawsOf q3.1 0 ((q3.1.1 101 r2 0))).bind fun q6 => some (q6.1, (q6.2 - (1 : Int32)))) else if a2 = (3 : Int32) then ((X2_onSet q3.1 0).bind fun q8 => (X2_chosen q8.1 0 ((q3.1.1 101 r2 0)) ((q3.1.1 103 r2 0)) q8.2).bind fun q9 => if q9.2 = a1 then ((some (q9.1, (1 : Int32)))) else (some (q9.1, (0 : Int32)))) else if a2 = (4 : Int32) then ((X2_onSet q3.1 0).bind fun q11 => (X2_chosen q11.1 0 ((q3.1.1 101 r2 0)) (6 : Int32) q11.2).bind fun q12 => if q12.2 = a1 then ((some (q12.1, (1 : Int32)))) else (some (q12.1, (0 : Int32)))) else ((X2_onSet q3.1 0).bind fun q14 => (X2_outOfSign q14.1 0 ((q3.1.1 102 r2 0)) (6 : Int32) q14.2 (0 : Int64)).bind fun q15 => (X7_packed q15.1 (0 : Int64) ((q15.1.1 102 r2 0))).bind fun q16 => if (lg_cmp q15.2 q16.2) = 0 then ((some (q16.1, (1 : Int32)))) else (some (q16.1, (0 : Int32)))))) else (some (q1.1, (-1 : Int32))))))))
set_option maxRecDepth 100000 in
set_option maxHeartbeats 4000000 in
theorem c_X7_mark (σ : Mem) (a1 : Int32) (a2 : Int32) : CT yX7_mark mX7_mark enI (fun ad => [.ref (ad (0)), .int a1, .int a2]) σ (X7_mark σ a1 a2) := by
  refine CT.of (by decide) rfl (fun _ => Nat.le_of_ble_eq_true rfl) (fun X => ?_)
  show GS (KM enI X) X mX7_mark σ 0 [(0, .ref (xad X (0))), (1, .int a1), (2, .int a2)] [] _
  unfold X7_mark
  refine g_aload_n 0 dX7_mark_0 rfl ?_
  refine gf_X7_3 fl_X7_28 dX7_mark_1 ?_
  refine g_iload_n 1 dX7_mark_4 rfl ?_
  refine g_callVG (c_X2_numbered σ 0 a1) okX2_numbered ⟨by decide, by decide⟩ ml_X7_154 (sh_X2 (by decide)) (no_X2 (by decide)) rfl rfl [.int a1] rfl rfl rfl (Nat.le_of_ble_eq_true rfl) dX7_mark_5 (fun q1 => ?_)
  refine g_spl ?_ (fun r2 hr2 => ?_)
  · refine g_astore_nN [(3, .null), (0, .ref (xad X (0))), (1, .int a1), (2, .int a2)] dX7_mark_8 (by decide) rfl ?_
    refine g_aload_nN 0 dX7_mark_9 rfl ?_
    refine g_ifnullN 23 dX7_mark_10 rfl ?_
    refine g_iconst (-1 : Int32) dX7_mark_23 (by decide) ?_
    exact g_iret rfl dX7_mark_24
  · refine g_astore_n [(3, .ref (xad X (28 + r2))), (0, .ref (xad X (0))), (1, .int a1), (2, .int a2)] dX7_mark_8 (by decide) rfl ?_
    refine g_aload_n 0 dX7_mark_9 rfl ?_
    refine g_ifnull dX7_mark_10 ?_
    refine g_iload_n 3 dX7_mark_13 rfl ?_
    refine g_if_le 23 dX7_mark_14 rfl (fun _ => ?_) (fun _ => ?_)
    · refine g_iconst (-1 : Int32) dX7_mark_23 (by decide) ?_
      exact g_iret rfl dX7_mark_24
    · refine g_iload_n 3 dX7_mark_17 rfl ?_
      refine g_bipush (6 : Int32) dX7_mark_18 (by decide) ?_
      refine g_icmp_lt 25 dX7_mark_20 rfl (fun _ => ?_) (fun _ => ?_)
      · refine g_aload_n 0 dX7_mark_25 rfl ?_
        refine g_iload_n 3 dX7_mark_26 rfl ?_
        refine g_callVI (c_X1_isOf q1.1 r2 a2) okX1_isOf ⟨by decide, by decide⟩ ml_X7_161 (sh_X1 hr2) (no_X1 hr2) rfl rfl [.int a2] rfl rfl rfl (Nat.le_of_ble_eq_true rfl) dX7_mark_27 (fun q3 => ?_)
        refine g_if_ne 39 dX7_mark_30 rfl (fun _ => ?_) (fun _ => ?_)
        · refine g_iload_n 3 dX7_mark_39 rfl ?_
          refine g_eqc (1 : Int32) ?_ (fun e5 => ?_)
          · refine g_tableIn 72 dX7_mark_40 (by decide) (by decide) rfl rfl ?_
            refine g_aload_n 1 dX7_mark_72 rfl ?_
            refine gf_X7_3 fl_X7_28 dX7_mark_73 ?_
            refine g_aload_n 0 dX7_mark_76 rfl ?_
            refine gf_X1_1 hr2 fl_X7_164 dX7_mark_77 ?_
            refine g_callVI (c_X2_inksOf q3.1 0 ((q3.1.1 101 r2 0))) okX2_inksOf ⟨by decide, by decide⟩ ml_X7_167 (sh_X2 (by decide)) (no_X2 (by decide)) rfl rfl [.int ((q3.1.1 101 r2 0))] rfl rfl rfl (Nat.le_of_ble_eq_true rfl) dX7_mark_80 (fun q4 => ?_)
            exact g_iret rfl dX7_mark_83
          · refine g_eqc (2 : Int32) ?_ (fun e7 => ?_)
            · refine g_tableIn 84 dX7_mark_40 (by decide) (by decide) rfl rfl ?_
              refine g_aload_n 1 dX7_mark_84 rfl ?_
              refine gf_X7_3 fl_X7_28 dX7_mark_85 ?_
              refine g_aload_n 0 dX7_mark_88 rfl ?_
              refine gf_X1_1 hr2 fl_X7_164 dX7_mark_89 ?_
              refine g_callVI (c_X2_lawsOf q3.1 0 ((q3.1.1 101 r2 0))) okX2_lawsOf ⟨by decide, by decide⟩ ml_X7_170 (sh_X2 (by decide)) (no_X2 (by decide)) rfl rfl [.int ((q3.1.1 101 r2 0))] rfl rfl rfl (Nat.le_of_ble_eq_true rfl) dX7_mark_92 (fun q6 => ?_)
              refine g_iconst (1 : Int32) dX7_mark_95 (by decide) ?_
              refine g_isub dX7_mark_96 ?_
              exact g_iret rfl dX7_mark_97
            · refine g_eqc (3 : Int32) ?_ (fun e10 => ?_)
              · refine g_tableIn 98 dX7_mark_40 (by decide) (by decide) rfl rfl ?_
                refine g_aload_n 1 dX7_mark_98 rfl ?_
                refine gf_X7_3 fl_X7_28 dX7_mark_99 ?_
                refine g_aload_n 0 dX7_mark_102 rfl ?_
                refine gf_X1_1 hr2 fl_X7_164 dX7_mark_103 ?_
                refine g_aload_n 0 dX7_mark_106 rfl ?_
                refine gf_X1_3 hr2 fl_X7_173 dX7_mark_107 ?_
                refine g_aload_n 1 dX7_mark_110 rfl ?_
                refine gf_X7_3 fl_X7_28 dX7_mark_111 ?_
                refine g_callVI (c_X2_onSet q3.1 0) okX2_onSet ⟨by decide, by decide⟩ ml_X7_176 (sh_X2 (by decide)) (no_X2 (by decide)) rfl rfl [] rfl rfl rfl (Nat.le_of_ble_eq_true rfl) dX7_mark_114 (fun q8 => ?_)
                refine g_callVI (c_X2_chosen q8.1 0 ((q3.1.1 101 r2 0)) ((q3.1.1 103 r2 0)) q8.2) okX2_chosen ⟨by decide, by decide⟩ ml_X7_180 (sh_X2 (by decide)) (no_X2 (by decide)) rfl rfl [.int ((q3.1.1 101 r2 0)), .int ((q3.1.1 103 r2 0)), .int (q8.2)] rfl rfl rfl (Nat.le_of_ble_eq_true rfl) dX7_mark_117 (fun q9 => ?_)
                refine g_iload_n 2 dX7_mark_120 rfl ?_
                refine g_icmp_ne 128 dX7_mark_121 rfl (fun _ => ?_) (fun _ => ?_)
                · refine g_iconst (0 : Int32) dX7_mark_128 (by decide) ?_
                  exact g_iret rfl dX7_mark_129
                · refine g_iconst (1 : Int32) dX7_mark_124 (by decide) ?_
                  refine g_goto 129 dX7_mark_125 rfl ?_
                  exact g_iret rfl dX7_mark_129
              · refine g_eqc (4 : Int32) ?_ (fun e13 => ?_)
                · refine g_tableIn 130 dX7_mark_40 (by decide) (by decide) rfl rfl ?_
                  refine g_aload_n 1 dX7_mark_130 rfl ?_
                  refine gf_X7_3 fl_X7_28 dX7_mark_131 ?_
                  refine g_aload_n 0 dX7_mark_134 rfl ?_
                  refine gf_X1_1 hr2 fl_X7_164 dX7_mark_135 ?_
                  refine g_bipush (6 : Int32) dX7_mark_138 (by decide) ?_
                  refine g_aload_n 1 dX7_mark_140 rfl ?_
                  refine gf_X7_3 fl_X7_28 dX7_mark_141 ?_
                  refine g_callVI (c_X2_onSet q3.1 0) okX2_onSet ⟨by decide, by decide⟩ ml_X7_176 (sh_X2 (by decide)) (no_X2 (by decide)) rfl rfl [] rfl rfl rfl (Nat.le_of_ble_eq_true rfl) dX7_mark_144 (fun q11 => ?_)
                  refine g_callVI (c_X2_chosen q11.1 0 ((q3.1.1 101 r2 0)) (6 : Int32) q11.2) okX2_chosen ⟨by decide, by decide⟩ ml_X7_180 (sh_X2 (by decide)) (no_X2 (by decide)) rfl rfl [.int ((q3.1.1 101 r2 0)), .int ((6 : Int32)), .int (q11.2)] rfl rfl rfl (Nat.le_of_ble_eq_true rfl) dX7_mark_147 (fun q12 => ?_)
                  refine g_iload_n 2 dX7_mark_150 rfl ?_
                  refine g_icmp_ne 158 dX7_mark_151 rfl (fun _ => ?_) (fun _ => ?_)
                  · refine g_iconst (0 : Int32) dX7_mark_158 (by decide) ?_
                    exact g_iret rfl dX7_mark_159
                  · refine g_iconst (1 : Int32) dX7_mark_154 (by decide) ?_
                    refine g_goto 159 dX7_mark_155 rfl ?_
                    exact g_iret rfl dX7_mark_159
                · refine g_tableOut 160 dX7_mark_40 (by have := lv_neT e5 (a := 1) (by decide); have := lv_neT e7 (a := 2) (by decide); have := lv_neT e10 (a := 3) (by decide); have := lv_neT e13 (a := 4) (by decide); omega) rfl ?_
                  refine g_aload_n 1 dX7_mark_160 rfl ?_
                  refine gf_X7_3 fl_X7_28 dX7_mark_161 ?_
                  refine g_aload_n 0 dX7_mark_164 rfl ?_
                  refine gf_X1_2 hr2 fl_X7_184 dX7_mark_165 ?_
                  refine g_bipush (6 : Int32) dX7_mark_168 (by decide) ?_
                  refine g_aload_n 1 dX7_mark_170 rfl ?_
                  refine gf_X7_3 fl_X7_28 dX7_mark_171 ?_
                  refine g_callVI (c_X2_onSet q3.1 0) okX2_onSet ⟨by decide, by decide⟩ ml_X7_176 (sh_X2 (by decide)) (no_X2 (by decide)) rfl rfl [] rfl rfl rfl (Nat.le_of_ble_eq_true rfl) dX7_mark_174 (fun q14 => ?_)
                  refine g_lconst (0 : Int64) dX7_mark_177 (by decide) ?_
                  refine g_callVJ (c_X2_outOfSign q14.1 0 ((q3.1.1 102 r2 0)) (6 : Int32) q14.2 (0 : Int64)) okX2_outOfSign ⟨by decide, by decide⟩ ml_X7_187 (sh_X2 (by decide)) (no_X2 (by decide)) rfl rfl [.int ((q3.1.1 102 r2 0)), .int ((6 : Int32)), .int (q14.2), .long ((0 : Int64))] rfl rfl rfl (Nat.le_of_ble_eq_true rfl) dX7_mark_178 (fun q15 => ?_)
                  refine g_lconst (0 : Int64) dX7_mark_181 (by decide) ?_
                  refine g_aload_n 0 dX7_mark_182 rfl ?_
                  refine gf_X1_2 hr2 fl_X7_184 dX7_mark_183 ?_
                  refine g_callSJ (c_X7_packed q15.1 (0 : Int64) ((q15.1.1 102 r2 0))) okX7_packed ⟨by decide, by decide⟩ ml_X7_191 rfl rfl (Nat.le_of_ble_eq_true rfl) dX7_mark_186 (fun q16 => ?_)
                  refine g_lcmp dX7_mark_189 ?_
                  refine g_if_ne 197 dX7_mark_190 rfl (fun _ => ?_) (fun _ => ?_)
                  · refine g_iconst (0 : Int32) dX7_mark_197 (by decide) ?_
                    exact g_iret rfl dX7_mark_198
                  · refine g_iconst (1 : Int32) dX7_mark_193 (by decide) ?_
                    refine g_goto 198 dX7_mark_194 rfl ?_
                    exact g_iret rfl dX7_mark_198
        · refine g_aload_n 1 dX7_mark_33 rfl ?_
          refine g_iconst (3 : Int32) dX7_mark_34 (by decide) ?_
          refine g_callVI (c_X7_answer q3.1 (3 : Int32)) okX7_answer ⟨by decide, by decide⟩ ml_X7_97 sh_0 no_0 rfl rfl [.int ((3 : Int32))] rfl rfl rfl (Nat.le_of_ble_eq_true rfl) dX7_mark_35 (fun q17 => ?_)
          exact g_iret rfl dX7_mark_38
      · refine g_iconst (-1 : Int32) dX7_mark_23 (by decide) ?_
        exact g_iret rfl dX7_mark_24

def X7_hush (σ : Mem) (a1 : Int32) (a2 : Int32) : Option (Mem × Int32) := ((X2_numbered σ 0 a1).bind fun q1 => spl q1.2 41 ((some (q1.1, (-1 : Int32)))) (fun r2 => ((if a2 < 0 then (some (q1.1, (-1 : Int32))) else (if a2 ≤ (1 : Int32) then (if (q1.1.1 104 r2 0) = 0 then (if a2 = (1 : Int32) then ((if (1 : Int32) = 0 ∨ (1 : Int32) = 1 then some ((uI q1.1 104 r2 0 (1 : Int32)), (0 : Int32)) else none)) else (if (0 : Int32) = 0 ∨ (0 : Int32) = 1 then some ((uI q1.1 104 r2 0 (0 : Int32)), (0 : Int32)) else none)) else ((if a2 = (1 : Int32) then ((if (1 : Int32) = 0 ∨ (1 : Int32) = 1 then some ((uI q1.1 104 r2 0 (1 : Int32)), (1 : Int32)) else none)) else (if (0 : Int32) = 0 ∨ (0 : Int32) = 1 then some ((uI q1.1 104 r2 0 (0 : Int32)), (1 : Int32)) else none)))) else (some (q1.1, (-1 : Int32))))))))
set_option maxRecDepth 100000 in
set_option maxHeartbeats 4000000 in
theorem c_X7_hush (σ : Mem) (a1 : Int32) (a2 : Int32) : CT yX7_hush mX7_hush enI (fun ad => [.ref (ad (0)), .int a1, .int a2]) σ (X7_hush σ a1 a2) := by
  refine CT.of (by decide) rfl (fun _ => Nat.le_of_ble_eq_true rfl) (fun X => ?_)
  show GS (KM enI X) X mX7_hush σ 0 [(0, .ref (xad X (0))), (1, .int a1), (2, .int a2)] [] _
  unfold X7_hush
  refine g_aload_n 0 dX7_hush_0 rfl ?_
  refine gf_X7_3 fl_X7_28 dX7_hush_1 ?_
  refine g_iload_n 1 dX7_hush_4 rfl ?_
  refine g_callVG (c_X2_numbered σ 0 a1) okX2_numbered ⟨by decide, by decide⟩ ml_X7_154 (sh_X2 (by decide)) (no_X2 (by decide)) rfl rfl [.int a1] rfl rfl rfl (Nat.le_of_ble_eq_true rfl) dX7_hush_5 (fun q1 => ?_)
  refine g_spl ?_ (fun r2 hr2 => ?_)
  · refine g_astore_nN [(3, .null), (0, .ref (xad X (0))), (1, .int a1), (2, .int a2)] dX7_hush_8 (by decide) rfl ?_
    refine g_aload_nN 0 dX7_hush_9 rfl ?_
    refine g_ifnullN 22 dX7_hush_10 rfl ?_
    refine g_iconst (-1 : Int32) dX7_hush_22 (by decide) ?_
    exact g_iret rfl dX7_hush_23
  · refine g_astore_n [(3, .ref (xad X (28 + r2))), (0, .ref (xad X (0))), (1, .int a1), (2, .int a2)] dX7_hush_8 (by decide) rfl ?_
    refine g_aload_n 0 dX7_hush_9 rfl ?_
    refine g_ifnull dX7_hush_10 ?_
    refine g_iload_n 3 dX7_hush_13 rfl ?_
    refine g_if_lt 22 dX7_hush_14 rfl (fun _ => ?_) (fun _ => ?_)
    · refine g_iconst (-1 : Int32) dX7_hush_22 (by decide) ?_
      exact g_iret rfl dX7_hush_23
    · refine g_iload_n 3 dX7_hush_17 rfl ?_
      refine g_iconst (1 : Int32) dX7_hush_18 (by decide) ?_
      refine g_icmp_le 24 dX7_hush_19 rfl (fun _ => ?_) (fun _ => ?_)
      · refine g_aload_n 0 dX7_hush_24 rfl ?_
        refine gf_X1_4 hr2 fl_X7_195 dX7_hush_25 ?_
        refine g_if_eq 35 dX7_hush_28 rfl (fun _ => ?_) (fun _ => ?_)
        · refine g_iconst (0 : Int32) dX7_hush_35 (by decide) ?_
          refine g_istore [(4, .int ((0 : Int32))), (3, .ref (xad X (28 + r2))), (0, .ref (xad X (0))), (1, .int a1), (2, .int a2)] dX7_hush_36 (by decide) rfl ?_
          refine g_aload_n 1 dX7_hush_38 rfl ?_
          refine g_iload_n 4 dX7_hush_39 rfl ?_
          refine g_iconst (1 : Int32) dX7_hush_40 (by decide) ?_
          refine g_icmp_ne 48 dX7_hush_41 rfl (fun _ => ?_) (fun _ => ?_)
          · refine g_iconst (0 : Int32) dX7_hush_48 (by decide) ?_
            refine pf_X1_4 hr2 fl_X7_195 dX7_hush_49 ?_
            refine g_iload 0 dX7_hush_52 rfl ?_
            exact g_iret rfl dX7_hush_54
          · refine g_iconst (1 : Int32) dX7_hush_44 (by decide) ?_
            refine g_goto 49 dX7_hush_45 rfl ?_
            refine pf_X1_4 hr2 fl_X7_195 dX7_hush_49 ?_
            refine g_iload 0 dX7_hush_52 rfl ?_
            exact g_iret rfl dX7_hush_54
        · refine g_iconst (1 : Int32) dX7_hush_31 (by decide) ?_
          refine g_goto 36 dX7_hush_32 rfl ?_
          refine g_istore [(4, .int ((1 : Int32))), (3, .ref (xad X (28 + r2))), (0, .ref (xad X (0))), (1, .int a1), (2, .int a2)] dX7_hush_36 (by decide) rfl ?_
          refine g_aload_n 1 dX7_hush_38 rfl ?_
          refine g_iload_n 4 dX7_hush_39 rfl ?_
          refine g_iconst (1 : Int32) dX7_hush_40 (by decide) ?_
          refine g_icmp_ne 48 dX7_hush_41 rfl (fun _ => ?_) (fun _ => ?_)
          · refine g_iconst (0 : Int32) dX7_hush_48 (by decide) ?_
            refine pf_X1_4 hr2 fl_X7_195 dX7_hush_49 ?_
            refine g_iload 0 dX7_hush_52 rfl ?_
            exact g_iret rfl dX7_hush_54
          · refine g_iconst (1 : Int32) dX7_hush_44 (by decide) ?_
            refine g_goto 49 dX7_hush_45 rfl ?_
            refine pf_X1_4 hr2 fl_X7_195 dX7_hush_49 ?_
            refine g_iload 0 dX7_hush_52 rfl ?_
            exact g_iret rfl dX7_hush_54
      · refine g_iconst (-1 : Int32) dX7_hush_22 (by decide) ?_
        exact g_iret rfl dX7_hush_23

def X7_swap (σ : Mem) (a1 : Int32) (a2 : Int32) : Option (Mem × Int32) := ((X2_numbered σ 0 a1).bind fun q1 => spl q1.2 41 ((some (q1.1, (-1 : Int32)))) (fun r2 => (((X2_numbered q1.1 0 a2).bind fun q3 => spl q3.2 41 ((some (q3.1, (-1 : Int32)))) (fun r4 => (((X2_exchange q3.1 0 a1 a2).bind fun q5 => some (q5.1, (1 : Int32)))))))))
set_option maxRecDepth 100000 in
set_option maxHeartbeats 4000000 in
theorem c_X7_swap (σ : Mem) (a1 : Int32) (a2 : Int32) : CT yX7_swap mX7_swap enI (fun ad => [.ref (ad (0)), .int a1, .int a2]) σ (X7_swap σ a1 a2) := by
  refine CT.of (by decide) rfl (fun _ => Nat.le_of_ble_eq_true rfl) (fun X => ?_)
  show GS (KM enI X) X mX7_swap σ 0 [(0, .ref (xad X (0))), (1, .int a1), (2, .int a2)] [] _
  unfold X7_swap
  refine g_aload_n 0 dX7_swap_0 rfl ?_
  refine gf_X7_3 fl_X7_28 dX7_swap_1 ?_
  refine g_iload_n 1 dX7_swap_4 rfl ?_
  refine g_callVG (c_X2_numbered σ 0 a1) okX2_numbered ⟨by decide, by decide⟩ ml_X7_154 (sh_X2 (by decide)) (no_X2 (by decide)) rfl rfl [.int a1] rfl rfl rfl (Nat.le_of_ble_eq_true rfl) dX7_swap_5 (fun q1 => ?_)
  refine g_spl ?_ (fun r2 hr2 => ?_)
  · refine g_ifnullN 22 dX7_swap_8 rfl ?_
    refine g_iconst (-1 : Int32) dX7_swap_22 (by decide) ?_
    exact g_iret rfl dX7_swap_23
  · refine g_ifnull dX7_swap_8 ?_
    refine g_aload_n 0 dX7_swap_11 rfl ?_
    refine gf_X7_3 fl_X7_28 dX7_swap_12 ?_
    refine g_iload_n 2 dX7_swap_15 rfl ?_
    refine g_callVG (c_X2_numbered q1.1 0 a2) okX2_numbered ⟨by decide, by decide⟩ ml_X7_154 (sh_X2 (by decide)) (no_X2 (by decide)) rfl rfl [.int a2] rfl rfl rfl (Nat.le_of_ble_eq_true rfl) dX7_swap_16 (fun q3 => ?_)
    refine g_spl ?_ (fun r4 hr4 => ?_)
    · refine g_ifnonnullN dX7_swap_19 ?_
      refine g_iconst (-1 : Int32) dX7_swap_22 (by decide) ?_
      exact g_iret rfl dX7_swap_23
    · refine g_ifnonnull 24 dX7_swap_19 rfl ?_
      refine g_aload_n 0 dX7_swap_24 rfl ?_
      refine gf_X7_3 fl_X7_28 dX7_swap_25 ?_
      refine g_iload_n 1 dX7_swap_28 rfl ?_
      refine g_iload_n 2 dX7_swap_29 rfl ?_
      refine g_callVV (c_X2_exchange q3.1 0 a1 a2) okX2_exchange ⟨by decide, by decide⟩ ml_X7_199 (sh_X2 (by decide)) (no_X2 (by decide)) rfl rfl [.int a1, .int a2] rfl rfl rfl (Nat.le_of_ble_eq_true rfl) dX7_swap_30 (fun q5 => ?_)
      refine g_iconst (1 : Int32) dX7_swap_33 (by decide) ?_
      exact g_iret rfl dX7_swap_34

def X7_refuses (σ : Mem) (a1 : Nat) (a2 : Int32) : Option (Mem × Int32) := if a1 < 11 then ((X4_isThere σ a1).bind fun q1 => if q1.2 = 0 then ((X7_answer q1.1 (1 : Int32)).bind fun q5 => (if (1 : Int32) = 0 ∨ (1 : Int32) = 1 then some (q5.1, (1 : Int32)) else none)) else (if (q1.1.1 401 a1 0) ≤ a2 then ((X4_holdsSigns q1.1 a1).bind fun q2 => if q2.2 = 0 then ((X7_answer q2.1 (3 : Int32)).bind fun q3 => (if (1 : Int32) = 0 ∨ (1 : Int32) = 1 then some (q3.1, (1 : Int32)) else none)) else (if (0 : Int32) = 0 ∨ (0 : Int32) = 1 then some (q2.1, (0 : Int32)) else none)) else ((X7_answer q1.1 (5 : Int32)).bind fun q4 => (if (1 : Int32) = 0 ∨ (1 : Int32) = 1 then some (q4.1, (1 : Int32)) else none)))) else none
set_option maxRecDepth 100000 in
set_option maxHeartbeats 4000000 in
theorem c_X7_refuses (σ : Mem) (a1 : Nat) (a2 : Int32) : CT yX7_refuses mX7_refuses enI (fun ad => [.ref (ad (0)), .ref (ad (4 + 2 * a1)), .int a2]) σ (X7_refuses σ a1 a2) := by
  refine CT.of (by decide) rfl (fun _ => Nat.le_of_ble_eq_true rfl) (fun X => ?_)
  show GS (KM enI X) X mX7_refuses σ 0 [(0, .ref (xad X (0))), (1, .ref (xad X (4 + 2 * a1))), (2, .int a2)] [] _
  unfold X7_refuses
  refine g_guard (fun ha1 => ?_)
  refine g_aload_n 1 dX7_refuses_0 rfl ?_
  refine g_callVI (c_X4_isThere σ a1) okX4_isThere ⟨by decide, by decide⟩ ml_X7_105 (sh_X4 ha1) (no_X4 ha1) rfl rfl [] rfl rfl rfl (Nat.le_of_ble_eq_true rfl) dX7_refuses_1 (fun q1 => ?_)
  refine g_if_ne 16 dX7_refuses_4 rfl (fun _ => ?_) (fun _ => ?_)
  · refine g_aload_n 1 dX7_refuses_16 rfl ?_
    refine gf_X4_1 ha1 fl_X7_135 dX7_refuses_17 ?_
    refine g_iload_n 2 dX7_refuses_20 rfl ?_
    refine g_icmp_le 33 dX7_refuses_21 rfl (fun _ => ?_) (fun _ => ?_)
    · refine g_aload_n 1 dX7_refuses_33 rfl ?_
      refine g_callVI (c_X4_holdsSigns q1.1 a1) okX4_holdsSigns ⟨by decide, by decide⟩ ml_X7_364 (sh_X4 ha1) (no_X4 ha1) rfl rfl [] rfl rfl rfl (Nat.le_of_ble_eq_true rfl) dX7_refuses_34 (fun q2 => ?_)
      refine g_if_ne 49 dX7_refuses_37 rfl (fun _ => ?_) (fun _ => ?_)
      · refine g_iconst (0 : Int32) dX7_refuses_49 (by decide) ?_
        exact g_zret rfl dX7_refuses_50
      · refine g_aload_n 0 dX7_refuses_40 rfl ?_
        refine g_iconst (3 : Int32) dX7_refuses_41 (by decide) ?_
        refine g_callVI (c_X7_answer q2.1 (3 : Int32)) okX7_answer ⟨by decide, by decide⟩ ml_X7_97 sh_0 no_0 rfl rfl [.int ((3 : Int32))] rfl rfl rfl (Nat.le_of_ble_eq_true rfl) dX7_refuses_42 (fun q3 => ?_)
        refine g_pop dX7_refuses_45 rfl ?_
        refine g_goto 51 dX7_refuses_46 rfl ?_
        refine g_iconst (1 : Int32) dX7_refuses_51 (by decide) ?_
        exact g_zret rfl dX7_refuses_52
    · refine g_aload_n 0 dX7_refuses_24 rfl ?_
      refine g_iconst (5 : Int32) dX7_refuses_25 (by decide) ?_
      refine g_callVI (c_X7_answer q1.1 (5 : Int32)) okX7_answer ⟨by decide, by decide⟩ ml_X7_97 sh_0 no_0 rfl rfl [.int ((5 : Int32))] rfl rfl rfl (Nat.le_of_ble_eq_true rfl) dX7_refuses_26 (fun q4 => ?_)
      refine g_pop dX7_refuses_29 rfl ?_
      refine g_goto 51 dX7_refuses_30 rfl ?_
      refine g_iconst (1 : Int32) dX7_refuses_51 (by decide) ?_
      exact g_zret rfl dX7_refuses_52
  · refine g_aload_n 0 dX7_refuses_7 rfl ?_
    refine g_iconst (1 : Int32) dX7_refuses_8 (by decide) ?_
    refine g_callVI (c_X7_answer q1.1 (1 : Int32)) okX7_answer ⟨by decide, by decide⟩ ml_X7_97 sh_0 no_0 rfl rfl [.int ((1 : Int32))] rfl rfl rfl (Nat.le_of_ble_eq_true rfl) dX7_refuses_9 (fun q5 => ?_)
    refine g_pop dX7_refuses_12 rfl ?_
    refine g_goto 51 dX7_refuses_13 rfl ?_
    refine g_iconst (1 : Int32) dX7_refuses_51 (by decide) ?_
    exact g_zret rfl dX7_refuses_52

def X7_set (σ : Mem) (a1 : Int32) (a2 : Int32) : Option (Mem × Int32) := ((X7_rowOf σ a1).bind fun q1 => spl q1.2 11 ((X7_rowOf q1.1 a2).bind fun q3 => spl q3.2 11 ((some (q3.1, (-1 : Int32)))) (fun r4 => ((some (q3.1, (-1 : Int32)))))) (fun r2 => ((X7_rowOf q1.1 a2).bind fun q5 => spl q5.2 11 (((some (q5.1, (-1 : Int32))))) (fun r6 => ((((X7_refuses q5.1 r2 (8 : Int32)).bind fun q7 => if q7.2 = 0 then ((X2_onSet q7.1 0).bind fun q8 => (X2_outOf q8.1 0 r2 q8.2).bind fun q9 => (X4_unpack q9.1 r6 q9.2).bind fun q10 => some (q10.1, (q10.1.1 401 r6 0))) else (some (q7.1, (-3 : Int32))))))))))
set_option maxRecDepth 100000 in
set_option maxHeartbeats 4000000 in
theorem c_X7_set (σ : Mem) (a1 : Int32) (a2 : Int32) : CT yX7_set mX7_set enI (fun ad => [.ref (ad (0)), .int a1, .int a2]) σ (X7_set σ a1 a2) := by
  refine CT.of (by decide) rfl (fun _ => Nat.le_of_ble_eq_true rfl) (fun X => ?_)
  show GS (KM enI X) X mX7_set σ 0 [(0, .ref (xad X (0))), (1, .int a1), (2, .int a2)] [] _
  unfold X7_set
  refine g_aload_n 0 dX7_set_0 rfl ?_
  refine g_iload_n 1 dX7_set_1 rfl ?_
  refine g_callVG (c_X7_rowOf σ a1) okX7_rowOf ⟨by decide, by decide⟩ ml_X7_93 sh_0 no_0 rfl rfl [.int a1] rfl rfl rfl (Nat.le_of_ble_eq_true rfl) dX7_set_2 (fun q1 => ?_)
  refine g_spl ?_ (fun r2 hr2 => ?_)
  · refine g_astore_nN [(3, .null), (0, .ref (xad X (0))), (1, .int a1), (2, .int a2)] dX7_set_5 (by decide) rfl ?_
    refine g_aload_n 1 dX7_set_6 rfl ?_
    refine g_iload_n 3 dX7_set_7 rfl ?_
    refine g_callVG (c_X7_rowOf q1.1 a2) okX7_rowOf ⟨by decide, by decide⟩ ml_X7_93 sh_0 no_0 rfl rfl [.int a2] rfl rfl rfl (Nat.le_of_ble_eq_true rfl) dX7_set_8 (fun q3 => ?_)
    refine g_spl ?_ (fun r4 hr4 => ?_)
    · refine g_astoreN [(4, .null), (3, .null), (0, .ref (xad X (0))), (1, .int a1), (2, .int a2)] dX7_set_11 (by decide) rfl ?_
      refine g_aload_nN 1 dX7_set_13 rfl ?_
      refine g_ifnullN 22 dX7_set_14 rfl ?_
      refine g_iconst (-1 : Int32) dX7_set_22 (by decide) ?_
      exact g_iret rfl dX7_set_23
    · refine g_astore [(4, .ref (xad X (4 + 2 * r4))), (3, .null), (0, .ref (xad X (0))), (1, .int a1), (2, .int a2)] dX7_set_11 (by decide) rfl ?_
      refine g_aload_nN 1 dX7_set_13 rfl ?_
      refine g_ifnullN 22 dX7_set_14 rfl ?_
      refine g_iconst (-1 : Int32) dX7_set_22 (by decide) ?_
      exact g_iret rfl dX7_set_23
  · refine g_astore_n [(3, .ref (xad X (4 + 2 * r2))), (0, .ref (xad X (0))), (1, .int a1), (2, .int a2)] dX7_set_5 (by decide) rfl ?_
    refine g_aload_n 1 dX7_set_6 rfl ?_
    refine g_iload_n 3 dX7_set_7 rfl ?_
    refine g_callVG (c_X7_rowOf q1.1 a2) okX7_rowOf ⟨by decide, by decide⟩ ml_X7_93 sh_0 no_0 rfl rfl [.int a2] rfl rfl rfl (Nat.le_of_ble_eq_true rfl) dX7_set_8 (fun q5 => ?_)
    refine g_spl ?_ (fun r6 hr6 => ?_)
    · refine g_astoreN [(4, .null), (3, .ref (xad X (4 + 2 * r2))), (0, .ref (xad X (0))), (1, .int a1), (2, .int a2)] dX7_set_11 (by decide) rfl ?_
      refine g_aload_n 1 dX7_set_13 rfl ?_
      refine g_ifnull dX7_set_14 ?_
      refine g_aloadN 0 dX7_set_17 rfl ?_
      refine g_ifnonnullN dX7_set_19 ?_
      refine g_iconst (-1 : Int32) dX7_set_22 (by decide) ?_
      exact g_iret rfl dX7_set_23
    · refine g_astore [(4, .ref (xad X (4 + 2 * r6))), (3, .ref (xad X (4 + 2 * r2))), (0, .ref (xad X (0))), (1, .int a1), (2, .int a2)] dX7_set_11 (by decide) rfl ?_
      refine g_aload_n 1 dX7_set_13 rfl ?_
      refine g_ifnull dX7_set_14 ?_
      refine g_aload 0 dX7_set_17 rfl ?_
      refine g_ifnonnull 24 dX7_set_19 rfl ?_
      refine g_aload_n 2 dX7_set_24 rfl ?_
      refine g_aload_n 1 dX7_set_25 rfl ?_
      refine g_bipush (8 : Int32) dX7_set_26 (by decide) ?_
      refine g_callVI (c_X7_refuses q5.1 r2 (8 : Int32)) okX7_refuses ⟨by decide, by decide⟩ ml_X7_202 sh_0 no_0 rfl rfl [.ref (xad X (4 + 2 * r2)), .int ((8 : Int32))] rfl rfl rfl (Nat.le_of_ble_eq_true rfl) dX7_set_28 (fun q7 => ?_)
      refine g_if_eq 37 dX7_set_31 rfl (fun _ => ?_) (fun _ => ?_)
      · refine g_aload 0 dX7_set_37 rfl ?_
        refine g_aload_n 2 dX7_set_39 rfl ?_
        refine gf_X7_3 fl_X7_28 dX7_set_40 ?_
        refine g_aload_n 1 dX7_set_43 rfl ?_
        refine g_aload_n 2 dX7_set_44 rfl ?_
        refine gf_X7_3 fl_X7_28 dX7_set_45 ?_
        refine g_callVI (c_X2_onSet q7.1 0) okX2_onSet ⟨by decide, by decide⟩ ml_X7_176 (sh_X2 (by decide)) (no_X2 (by decide)) rfl rfl [] rfl rfl rfl (Nat.le_of_ble_eq_true rfl) dX7_set_48 (fun q8 => ?_)
        refine g_callVJ (c_X2_outOf q8.1 0 r2 q8.2) okX2_outOf ⟨by decide, by decide⟩ ml_X7_206 (sh_X2 (by decide)) (no_X2 (by decide)) rfl rfl [.ref (xad X (4 + 2 * r2)), .int (q8.2)] rfl rfl rfl (Nat.le_of_ble_eq_true rfl) dX7_set_51 (fun q9 => ?_)
        refine g_callVV (c_X4_unpack q9.1 r6 q9.2) okX4_unpack ⟨by decide, by decide⟩ ml_X7_210 (sh_X4 hr6) (no_X4 hr6) rfl rfl [.long (q9.2)] rfl rfl rfl (Nat.le_of_ble_eq_true rfl) dX7_set_54 (fun q10 => ?_)
        refine g_aload 0 dX7_set_57 rfl ?_
        refine gf_X4_1 hr6 fl_X7_135 dX7_set_59 ?_
        exact g_iret rfl dX7_set_62
      · refine g_bipush (-3 : Int32) dX7_set_34 (by decide) ?_
        exact g_iret rfl dX7_set_36

def X7_by (σ : Mem) (a1 : Int32) (a2 : Int32) : Option (Mem × Int32) := ((X7_rowOf σ a1).bind fun q1 => spl q1.2 11 ((some (q1.1, (-1 : Int32)))) (fun r2 => ((if 0 ≤ a2 then ((X7_refuses q1.1 r2 (8 : Int32)).bind fun q3 => if q3.2 = 0 then ((X4_hasPlace q3.1 r2 a2).bind fun q4 => if q4.2 = 0 then ((X7_answer q4.1 (2 : Int32)).bind fun q9 => some (q9.1, q9.2)) else ((X4_cell q4.1 r2 a2).bind fun q5 => (X4_behind q5.1 r2 a2).bind fun q6 => (X2_onSet q6.1 0).bind fun q7 => (X2_chosen q7.1 0 q5.2 q6.2 q7.2).bind fun q8 => some (q8.1, q8.2))) else (some (q3.1, (-3 : Int32)))) else (some (q1.1, (-1 : Int32)))))))
set_option maxRecDepth 100000 in
set_option maxHeartbeats 4000000 in
theorem c_X7_by (σ : Mem) (a1 : Int32) (a2 : Int32) : CT yX7_by mX7_by enI (fun ad => [.ref (ad (0)), .int a1, .int a2]) σ (X7_by σ a1 a2) := by
  refine CT.of (by decide) rfl (fun _ => Nat.le_of_ble_eq_true rfl) (fun X => ?_)
  show GS (KM enI X) X mX7_by σ 0 [(0, .ref (xad X (0))), (1, .int a1), (2, .int a2)] [] _
  unfold X7_by
  refine g_aload_n 0 dX7_by_0 rfl ?_
  refine g_iload_n 1 dX7_by_1 rfl ?_
  refine g_callVG (c_X7_rowOf σ a1) okX7_rowOf ⟨by decide, by decide⟩ ml_X7_93 sh_0 no_0 rfl rfl [.int a1] rfl rfl rfl (Nat.le_of_ble_eq_true rfl) dX7_by_2 (fun q1 => ?_)
  refine g_spl ?_ (fun r2 hr2 => ?_)
  · refine g_astore_nN [(3, .null), (0, .ref (xad X (0))), (1, .int a1), (2, .int a2)] dX7_by_5 (by decide) rfl ?_
    refine g_aload_nN 0 dX7_by_6 rfl ?_
    refine g_ifnullN 14 dX7_by_7 rfl ?_
    refine g_iconst (-1 : Int32) dX7_by_14 (by decide) ?_
    exact g_iret rfl dX7_by_15
  · refine g_astore_n [(3, .ref (xad X (4 + 2 * r2))), (0, .ref (xad X (0))), (1, .int a1), (2, .int a2)] dX7_by_5 (by decide) rfl ?_
    refine g_aload_n 0 dX7_by_6 rfl ?_
    refine g_ifnull dX7_by_7 ?_
    refine g_iload_n 3 dX7_by_10 rfl ?_
    refine g_if_ge 16 dX7_by_11 rfl (fun _ => ?_) (fun _ => ?_)
    · refine g_aload_n 1 dX7_by_16 rfl ?_
      refine g_aload_n 0 dX7_by_17 rfl ?_
      refine g_bipush (8 : Int32) dX7_by_18 (by decide) ?_
      refine g_callVI (c_X7_refuses q1.1 r2 (8 : Int32)) okX7_refuses ⟨by decide, by decide⟩ ml_X7_202 sh_0 no_0 rfl rfl [.ref (xad X (4 + 2 * r2)), .int ((8 : Int32))] rfl rfl rfl (Nat.le_of_ble_eq_true rfl) dX7_by_20 (fun q3 => ?_)
      refine g_if_eq 29 dX7_by_23 rfl (fun _ => ?_) (fun _ => ?_)
      · refine g_aload_n 0 dX7_by_29 rfl ?_
        refine g_iload_n 3 dX7_by_30 rfl ?_
        refine g_callVI (c_X4_hasPlace q3.1 r2 a2) okX4_hasPlace ⟨by decide, by decide⟩ ml_X7_109 (sh_X4 hr2) (no_X4 hr2) rfl rfl [.int a2] rfl rfl rfl (Nat.le_of_ble_eq_true rfl) dX7_by_31 (fun q4 => ?_)
        refine g_if_ne 43 dX7_by_34 rfl (fun _ => ?_) (fun _ => ?_)
        · refine g_aload_n 1 dX7_by_43 rfl ?_
          refine gf_X7_3 fl_X7_28 dX7_by_44 ?_
          refine g_aload_n 0 dX7_by_47 rfl ?_
          refine g_iload_n 3 dX7_by_48 rfl ?_
          refine g_callVI (c_X4_cell q4.1 r2 a2) okX4_cell ⟨by decide, by decide⟩ ml_X7_113 (sh_X4 hr2) (no_X4 hr2) rfl rfl [.int a2] rfl rfl rfl (Nat.le_of_ble_eq_true rfl) dX7_by_49 (fun q5 => ?_)
          refine g_aload_n 0 dX7_by_52 rfl ?_
          refine g_iload_n 3 dX7_by_53 rfl ?_
          refine g_callVI (c_X4_behind q5.1 r2 a2) okX4_behind ⟨by decide, by decide⟩ ml_X7_214 (sh_X4 hr2) (no_X4 hr2) rfl rfl [.int a2] rfl rfl rfl (Nat.le_of_ble_eq_true rfl) dX7_by_54 (fun q6 => ?_)
          refine g_aload_n 1 dX7_by_57 rfl ?_
          refine gf_X7_3 fl_X7_28 dX7_by_58 ?_
          refine g_callVI (c_X2_onSet q6.1 0) okX2_onSet ⟨by decide, by decide⟩ ml_X7_176 (sh_X2 (by decide)) (no_X2 (by decide)) rfl rfl [] rfl rfl rfl (Nat.le_of_ble_eq_true rfl) dX7_by_61 (fun q7 => ?_)
          refine g_callVI (c_X2_chosen q7.1 0 q5.2 q6.2 q7.2) okX2_chosen ⟨by decide, by decide⟩ ml_X7_180 (sh_X2 (by decide)) (no_X2 (by decide)) rfl rfl [.int (q5.2), .int (q6.2), .int (q7.2)] rfl rfl rfl (Nat.le_of_ble_eq_true rfl) dX7_by_64 (fun q8 => ?_)
          exact g_iret rfl dX7_by_67
        · refine g_aload_n 1 dX7_by_37 rfl ?_
          refine g_iconst (2 : Int32) dX7_by_38 (by decide) ?_
          refine g_callVI (c_X7_answer q4.1 (2 : Int32)) okX7_answer ⟨by decide, by decide⟩ ml_X7_97 sh_0 no_0 rfl rfl [.int ((2 : Int32))] rfl rfl rfl (Nat.le_of_ble_eq_true rfl) dX7_by_39 (fun q9 => ?_)
          exact g_iret rfl dX7_by_42
      · refine g_bipush (-3 : Int32) dX7_by_26 (by decide) ?_
        exact g_iret rfl dX7_by_28
    · refine g_iconst (-1 : Int32) dX7_by_14 (by decide) ?_
      exact g_iret rfl dX7_by_15

def X7_first_L65 (x2 : Nat) (x3 : Int32) (k98 : Mem → Option (Mem × Int32)) : Nat → Mem → Int32 → Option (Mem × Int32)
  | 0, _, _ => none
  | n + 1, σ, x4 => (if x3 ≤ x4 then k98 σ else ((X4_cell σ x2 x4).bind fun q8 => (X4_cell q8.1 10 x4).bind fun q9 => if q8.2 = q9.2 then (X7_first_L65 x2 x3 k98 n q9.1 ((x4 + (1 : Int32)))) else (some (q9.1, x4))))
def X7_first (σ : Mem) (a1 : Int32) : Option (Mem × Int32) := ((X7_rowOf σ a1).bind fun q1 => spl q1.2 11 ((some (q1.1, (-1 : Int32)))) (fun r2 => (((X7_refuses q1.1 r2 (8 : Int32)).bind fun q3 => if q3.2 = 0 then ((X2_onSet q3.1 0).bind fun q4 => (X2_outOf q4.1 0 r2 q4.2).bind fun q5 => (X4_unpack q5.1 10 q5.2).bind fun q6 => lt_ ((if (q6.1.1 401 r2 0) < (q6.1.1 401 10 0) then (q6.1.1 401 10 0) else (q6.1.1 401 r2 0))) fun (v7 : Int32) => X7_first_L65 r2 v7 (fun (s12 : Mem) => (some (s12, (-9 : Int32)))) FU q6.1 (0 : Int32)) else (some (q3.1, (-3 : Int32)))))))
set_option maxRecDepth 100000 in
set_option maxHeartbeats 4000000 in
theorem t_X7_first_L65 (X : GX) (x2 : Nat) (x3 : Int32) (hx2 : x2 < 11) (k98 : Mem → Option (Mem × Int32)) (hk98 : ∀ (σ : Mem), GS (KM enI X) X mX7_first σ 98 [] [] (k98 σ)) : ∀ (n : Nat) (σ : Mem) (x4 : Int32), GS (KM enI X) X mX7_first σ 65 [(0, .ref (xad X (0))), (2, .ref (xad X (4 + 2 * x2))), (3, .int x3), (4, .int x4)] [] (X7_first_L65 x2 x3 k98 n σ x4) := by
  intro n
  induction n with
  | zero => intros; exact g_none
  | succ n ih =>
    intro σ x4
    rw [X7_first_L65]
    refine g_iload 3 dX7_first_65 rfl ?_
    refine g_iload_n 2 dX7_first_67 rfl ?_
    refine g_icmp_ge 98 dX7_first_68 rfl (fun _ => ?_) (fun _ => ?_)
    · refine g_sub [] rfl ?_
      exact hk98 σ
    · refine g_aload_n 1 dX7_first_71 rfl ?_
      refine g_iload 3 dX7_first_72 rfl ?_
      refine g_callVI (c_X4_cell σ x2 x4) okX4_cell ⟨by decide, by decide⟩ ml_X7_113 (sh_X4 hx2) (no_X4 hx2) rfl rfl [.int x4] rfl rfl rfl (Nat.le_of_ble_eq_true rfl) dX7_first_74 (fun q8 => ?_)
      refine g_aload_n 0 dX7_first_77 rfl ?_
      refine gf_X7_7 fl_X7_53 dX7_first_78 ?_
      refine g_iload 3 dX7_first_81 rfl ?_
      refine g_callVI (c_X4_cell q8.1 10 x4) okX4_cell ⟨by decide, by decide⟩ ml_X7_113 (sh_X4 (by decide)) (no_X4 (by decide)) rfl rfl [.int x4] rfl rfl rfl (Nat.le_of_ble_eq_true rfl) dX7_first_83 (fun q9 => ?_)
      refine g_icmp_eq 92 dX7_first_86 rfl (fun _ => ?_) (fun _ => ?_)
      · refine g_iinc 3 [(4, .int ((x4 + (1 : Int32)))), (0, .ref (xad X (0))), (2, .ref (xad X (4 + 2 * x2))), (3, .int x3)] dX7_first_92 rfl (v := x4 + (1 : Int32)) rfl (by decide) rfl ?_
        refine g_goto 65 dX7_first_95 rfl ?_
        refine g_sub [1, 2, 3, 0] rfl ?_
        exact ih q9.1 ((x4 + (1 : Int32)))
      · refine g_iload 3 dX7_first_89 rfl ?_
        exact g_iret rfl dX7_first_91

set_option maxRecDepth 100000 in
set_option maxHeartbeats 4000000 in
theorem c_X7_first (σ : Mem) (a1 : Int32) : CT yX7_first mX7_first enI (fun ad => [.ref (ad (0)), .int a1]) σ (X7_first σ a1) := by
  refine CT.of (by decide) rfl (fun _ => Nat.le_of_ble_eq_true rfl) (fun X => ?_)
  show GS (KM enI X) X mX7_first σ 0 [(0, .ref (xad X (0))), (1, .int a1)] [] _
  unfold X7_first
  refine g_aload_n 0 dX7_first_0 rfl ?_
  refine g_iload_n 1 dX7_first_1 rfl ?_
  refine g_callVG (c_X7_rowOf σ a1) okX7_rowOf ⟨by decide, by decide⟩ ml_X7_93 sh_0 no_0 rfl rfl [.int a1] rfl rfl rfl (Nat.le_of_ble_eq_true rfl) dX7_first_2 (fun q1 => ?_)
  refine g_spl ?_ (fun r2 hr2 => ?_)
  · refine g_astore_nN [(2, .null), (0, .ref (xad X (0))), (1, .int a1)] dX7_first_5 (by decide) rfl ?_
    refine g_aload_nN 0 dX7_first_6 rfl ?_
    refine g_ifnonnullN dX7_first_7 ?_
    refine g_iconst (-1 : Int32) dX7_first_10 (by decide) ?_
    exact g_iret rfl dX7_first_11
  · refine g_astore_n [(2, .ref (xad X (4 + 2 * r2))), (0, .ref (xad X (0))), (1, .int a1)] dX7_first_5 (by decide) rfl ?_
    refine g_aload_n 0 dX7_first_6 rfl ?_
    refine g_ifnonnull 12 dX7_first_7 rfl ?_
    refine g_aload_n 1 dX7_first_12 rfl ?_
    refine g_aload_n 0 dX7_first_13 rfl ?_
    refine g_bipush (8 : Int32) dX7_first_14 (by decide) ?_
    refine g_callVI (c_X7_refuses q1.1 r2 (8 : Int32)) okX7_refuses ⟨by decide, by decide⟩ ml_X7_202 sh_0 no_0 rfl rfl [.ref (xad X (4 + 2 * r2)), .int ((8 : Int32))] rfl rfl rfl (Nat.le_of_ble_eq_true rfl) dX7_first_16 (fun q3 => ?_)
    refine g_if_eq 25 dX7_first_19 rfl (fun _ => ?_) (fun _ => ?_)
    · refine g_aload_n 1 dX7_first_25 rfl ?_
      refine gf_X7_7 fl_X7_53 dX7_first_26 ?_
      refine g_aload_n 1 dX7_first_29 rfl ?_
      refine gf_X7_3 fl_X7_28 dX7_first_30 ?_
      refine g_aload_n 0 dX7_first_33 rfl ?_
      refine g_aload_n 1 dX7_first_34 rfl ?_
      refine gf_X7_3 fl_X7_28 dX7_first_35 ?_
      refine g_callVI (c_X2_onSet q3.1 0) okX2_onSet ⟨by decide, by decide⟩ ml_X7_176 (sh_X2 (by decide)) (no_X2 (by decide)) rfl rfl [] rfl rfl rfl (Nat.le_of_ble_eq_true rfl) dX7_first_38 (fun q4 => ?_)
      refine g_callVJ (c_X2_outOf q4.1 0 r2 q4.2) okX2_outOf ⟨by decide, by decide⟩ ml_X7_206 (sh_X2 (by decide)) (no_X2 (by decide)) rfl rfl [.ref (xad X (4 + 2 * r2)), .int (q4.2)] rfl rfl rfl (Nat.le_of_ble_eq_true rfl) dX7_first_41 (fun q5 => ?_)
      refine g_callVV (c_X4_unpack q5.1 10 q5.2) okX4_unpack ⟨by decide, by decide⟩ ml_X7_210 (sh_X4 (by decide)) (no_X4 (by decide)) rfl rfl [.long (q5.2)] rfl rfl rfl (Nat.le_of_ble_eq_true rfl) dX7_first_44 (fun q6 => ?_)
      refine g_aload_n 0 dX7_first_47 rfl ?_
      refine gf_X4_1 hr2 fl_X7_135 dX7_first_48 ?_
      refine g_aload_n 1 dX7_first_51 rfl ?_
      refine gf_X7_7 fl_X7_53 dX7_first_52 ?_
      refine gf_X4_1 (by decide) fl_X7_135 dX7_first_55 ?_
      refine g_mmax jl_X7_217 jm_max_s jm_i jm_max_c (by decide) (Nat.le_of_ble_eq_true rfl) dX7_first_58 ?_
      refine g_topi (fun v7 => ?_)
      refine g_istore_n [(3, .int v7), (2, .ref (xad X (4 + 2 * r2))), (0, .ref (xad X (0))), (1, .int a1)] dX7_first_61 (by decide) rfl ?_
      refine g_iconst (0 : Int32) dX7_first_62 (by decide) ?_
      refine g_istore [(4, .int ((0 : Int32))), (3, .int v7), (2, .ref (xad X (4 + 2 * r2))), (0, .ref (xad X (0))), (1, .int a1)] dX7_first_63 (by decide) rfl ?_
      refine g_sub [3, 2, 1, 0] rfl ?_
      refine t_X7_first_L65 X r2 v7 hr2 _ (fun s12 => ?_) FU q6.1 (0 : Int32)
      refine g_bipush (-9 : Int32) dX7_first_98 (by decide) ?_
      exact g_iret rfl dX7_first_100
    · refine g_bipush (-3 : Int32) dX7_first_22 (by decide) ?_
      exact g_iret rfl dX7_first_24

