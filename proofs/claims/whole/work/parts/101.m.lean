def X1_tell (σ : Mem) (a0 : Nat) (a1 : Int32) : Option (Mem × Int32) := if a0 < 41 then (if a1 = (0 : Int32) then (some (σ, (σ.1 100 a0 0))) else if a1 = (1 : Int32) then (some (σ, (σ.1 101 a0 0))) else if a1 = (2 : Int32) then (some (σ, (σ.1 102 a0 0))) else if a1 = (3 : Int32) then (some (σ, (σ.1 103 a0 0))) else (if (σ.1 104 a0 0) = 0 then (some (σ, (1 : Int32))) else ((some (σ, (0 : Int32)))))) else none
set_option maxRecDepth 100000 in
set_option maxHeartbeats 4000000 in
theorem c_X1_tell (σ : Mem) (a0 : Nat) (a1 : Int32) : CT yX1_tell mX1_tell enI (fun ad => [.ref (ad (28 + a0)), .int a1]) σ (X1_tell σ a0 a1) := by
  refine CT.of (by decide) rfl (fun _ => Nat.le_of_ble_eq_true rfl) (fun X => ?_)
  show GS (KM enI X) X mX1_tell σ 0 [(0, .ref (xad X (28 + a0))), (1, .int a1)] [] _
  unfold X1_tell
  refine g_guard (fun ha0 => ?_)
  refine g_iload_n 1 dX1_tell_0 rfl ?_
  refine g_eqc (0 : Int32) ?_ (fun e1 => ?_)
  · refine g_tableIn 32 dX1_tell_1 (by decide) (by decide) rfl rfl ?_
    refine g_aload_n 0 dX1_tell_32 rfl ?_
    refine gf_X1_0 ha0 fl_X1_9 dX1_tell_33 ?_
    exact g_iret rfl dX1_tell_36
  · refine g_eqc (1 : Int32) ?_ (fun e2 => ?_)
    · refine g_tableIn 37 dX1_tell_1 (by decide) (by decide) rfl rfl ?_
      refine g_aload_n 0 dX1_tell_37 rfl ?_
      refine gf_X1_1 ha0 fl_X1_15 dX1_tell_38 ?_
      exact g_iret rfl dX1_tell_41
    · refine g_eqc (2 : Int32) ?_ (fun e3 => ?_)
      · refine g_tableIn 42 dX1_tell_1 (by decide) (by decide) rfl rfl ?_
        refine g_aload_n 0 dX1_tell_42 rfl ?_
        refine gf_X1_2 ha0 fl_X1_18 dX1_tell_43 ?_
        exact g_iret rfl dX1_tell_46
      · refine g_eqc (3 : Int32) ?_ (fun e4 => ?_)
        · refine g_tableIn 47 dX1_tell_1 (by decide) (by decide) rfl rfl ?_
          refine g_aload_n 0 dX1_tell_47 rfl ?_
          refine gf_X1_3 ha0 fl_X1_21 dX1_tell_48 ?_
          exact g_iret rfl dX1_tell_51
        · refine g_tableOut 52 dX1_tell_1 (by have := lv_neT e1 (a := 0) (by decide); have := lv_neT e2 (a := 1) (by decide); have := lv_neT e3 (a := 2) (by decide); have := lv_neT e4 (a := 3) (by decide); omega) rfl ?_
          refine g_aload_n 0 dX1_tell_52 rfl ?_
          refine gf_X1_4 ha0 fl_X1_24 dX1_tell_53 ?_
          refine g_if_eq 63 dX1_tell_56 rfl (fun _ => ?_) (fun _ => ?_)
          · refine g_iconst (1 : Int32) dX1_tell_63 (by decide) ?_
            exact g_iret rfl dX1_tell_64
          · refine g_iconst (0 : Int32) dX1_tell_59 (by decide) ?_
            refine g_goto 64 dX1_tell_60 rfl ?_
            exact g_iret rfl dX1_tell_64

def X2_begin_L18 (x0 : Nat) (k47 : Mem → Option (Mem × Unit)) : Nat → Mem → Int32 → Option (Mem × Unit)
  | 0, _, _ => none
  | n + 1, σ, x2 => (if (σ.1 203 x0 0) ≤ x2 then k47 σ else (ck x2 8 <| spl (σ.2.2 200 x0 x2.toNatClampNeg) 41 (ck x2 8 <| if (32 + x2.toNatClampNeg) < 41 then none else none) (fun r1 => (ck x2 8 <| if (32 + x2.toNatClampNeg) < 41 then (X1_take σ r1 ((32 + x2.toNatClampNeg))).bind fun q4 => X2_begin_L18 x0 k47 n q4.1 ((x2 + (1 : Int32))) else none))))
def X2_begin (σ : Mem) (a0 : Nat) : Option (Mem × Unit) := if a0 < 4 then (X2_begin_L18 a0 (fun (s7 : Mem) => ((J7_fill_53178 ((uI s7 204 a0 0 (0 : Int32))) (72 + 4 * a0) (0 : Int32)).bind fun q8 => some (q8.1, ()))) FU ((uI σ 203 a0 0 ((if (8 : Int32) < (σ.1 301 0 0) then (8 : Int32) else (σ.1 301 0 0))))) (0 : Int32)) else none
set_option maxRecDepth 100000 in
set_option maxHeartbeats 4000000 in
theorem t_X2_begin_L18 (X : GX) (x0 : Nat) (hx0 : x0 < 4) (k47 : Mem → Option (Mem × Unit)) (hk47 : ∀ (σ : Mem), GS (KM enV X) X mX2_begin σ 47 [(0, .ref (xad X (69 + 4 * x0)))] [] (k47 σ)) : ∀ (n : Nat) (σ : Mem) (x2 : Int32), GS (KM enV X) X mX2_begin σ 18 [(0, .ref (xad X (69 + 4 * x0))), (1, .ref (xad X (26))), (2, .int x2)] [] (X2_begin_L18 x0 k47 n σ x2) := by
  intro n
  induction n with
  | zero => intros; exact g_none
  | succ n ih =>
    intro σ x2
    rw [X2_begin_L18]
    refine g_iload_n 2 dX2_begin_18 rfl ?_
    refine g_aload_n 0 dX2_begin_19 rfl ?_
    refine gf_X2_3 hx0 fl_X2_25 dX2_begin_20 ?_
    refine g_icmp_ge 47 dX2_begin_23 rfl (fun _ => ?_) (fun _ => ?_)
    · refine g_sub [0] rfl ?_
      exact hk47 σ
    · refine g_aload_n 0 dX2_begin_26 rfl ?_
      refine gf_X2_0 hx0 fl_X2_11 dX2_begin_27 ?_
      refine g_iload_n 2 dX2_begin_30 rfl ?_
      refine g_ald4 (sh_plaws hx0) (no_plaws hx0) dX2_begin_31 (fun _ => ?_)
      refine g_spl ?_ (fun r1 hr1 => ?_)
      · refine g_aload_n 1 dX2_begin_32 rfl ?_
        refine gf_X3_0 fl_X2_42 dX2_begin_33 ?_
        refine g_iload_n 2 dX2_begin_36 rfl ?_
        refine g_ald6 sh_27 no_27 dX2_begin_37 (fun _ => ?_)
        refine g_guard (fun h2 => ?_)
        exact g_none
      · refine g_aload_n 1 dX2_begin_32 rfl ?_
        refine gf_X3_0 fl_X2_42 dX2_begin_33 ?_
        refine g_iload_n 2 dX2_begin_36 rfl ?_
        refine g_ald6 sh_27 no_27 dX2_begin_37 (fun _ => ?_)
        refine g_guard (fun h3 => ?_)
        refine g_callVV (c_X1_take σ r1 ((32 + x2.toNatClampNeg))) okX1_take ⟨by decide, by decide⟩ ml_X2_45 (sh_X1 hr1) (no_X1 hr1) rfl rfl [.ref (xad X (28 + (32 + x2.toNatClampNeg)))] rfl rfl rfl (Nat.le_of_ble_eq_true rfl) dX2_begin_38 (fun q4 => ?_)
        refine g_iinc 2 [(2, .int ((x2 + (1 : Int32)))), (0, .ref (xad X (69 + 4 * x0))), (1, .ref (xad X (26)))] dX2_begin_41 rfl (v := x2 + (1 : Int32)) rfl (by decide) rfl ?_
        refine g_goto 18 dX2_begin_44 rfl ?_
        refine g_sub [1, 2, 0] rfl ?_
        exact ih q4.1 ((x2 + (1 : Int32)))

set_option maxRecDepth 100000 in
set_option maxHeartbeats 4000000 in
theorem c_X2_begin (σ : Mem) (a0 : Nat) : CT yX2_begin mX2_begin enV (fun ad => [.ref (ad (69 + 4 * a0)), .ref (ad (26))]) σ (X2_begin σ a0) := by
  refine CT.of (by decide) rfl (fun _ => Nat.le_of_ble_eq_true rfl) (fun X => ?_)
  show GS (KM enV X) X mX2_begin σ 0 [(0, .ref (xad X (69 + 4 * a0))), (1, .ref (xad X (26)))] [] _
  unfold X2_begin
  refine g_guard (fun ha0 => ?_)
  refine g_aload_n 0 dX2_begin_0 rfl ?_
  refine g_aload_n 1 dX2_begin_1 rfl ?_
  refine gf_X3_1 fl_X2_33 dX2_begin_2 ?_
  refine g_aload_n 0 dX2_begin_5 rfl ?_
  refine gf_X2_0 ha0 fl_X2_11 dX2_begin_6 ?_
  refine g_alen (v := (8 : Int32)) (sh_plaws ha0) (no_plaws ha0) (by decide) rfl dX2_begin_9 ?_
  refine g_mmin jl_X2_36 jm_min_s jm_i jm_min_c (by decide) (Nat.le_of_ble_eq_true rfl) dX2_begin_10 ?_
  refine pf_X2_3 ha0 fl_X2_25 dX2_begin_13 ?_
  refine g_iconst (0 : Int32) dX2_begin_16 (by decide) ?_
  refine g_istore_n [(2, .int ((0 : Int32))), (0, .ref (xad X (69 + 4 * a0))), (1, .ref (xad X (26)))] dX2_begin_17 (by decide) rfl ?_
  refine g_sub [1, 2, 0] rfl ?_
  refine t_X2_begin_L18 X a0 ha0 _ (fun s7 => ?_) FU ((uI σ 203 a0 0 ((if (8 : Int32) < (σ.1 301 0 0) then (8 : Int32) else (σ.1 301 0 0))))) (0 : Int32)
  refine g_aload_n 0 dX2_begin_47 rfl ?_
  refine g_iconst (0 : Int32) dX2_begin_48 (by decide) ?_
  refine pf_X2_4 ha0 fl_X2_29 dX2_begin_49 ?_
  refine g_aload_n 0 dX2_begin_52 rfl ?_
  refine gf_X2_2 ha0 fl_X2_21 dX2_begin_53 ?_
  refine g_iconst (0 : Int32) dX2_begin_56 (by decide) ?_
  refine g_callSV (c_J7_fill_53178 ((uI s7 204 a0 0 (0 : Int32))) (72 + 4 * a0) (0 : Int32)) okJ7_fill_53178 ⟨by decide, by decide⟩ ml_X2_49 rfl rfl (Nat.le_of_ble_eq_true rfl) dX2_begin_57 (fun q8 => ?_)
  exact g_vret rfl dX2_begin_60

def X2_take_L2 (x0 : Nat) (x1 : Nat) (k32 : Mem → Option (Mem × Unit)) : Nat → Mem → Int32 → Option (Mem × Unit)
  | 0, _, _ => none
  | n + 1, σ, x2 => (if (8 : Int32) ≤ x2 then k32 σ else (ck x2 8 <| spl (σ.2.2 200 x0 x2.toNatClampNeg) 41 (ck x2 8 <| spl (σ.2.2 200 x1 x2.toNatClampNeg) 41 none (fun r2 => none)) (fun r1 => (ck x2 8 <| spl (σ.2.2 200 x1 x2.toNatClampNeg) 41 none (fun r3 => ((X1_take σ r1 r3).bind fun q4 => X2_take_L2 x0 x1 k32 n q4.1 ((x2 + (1 : Int32)))))))))
def X2_take (σ : Mem) (a0 : Nat) (a1 : Nat) : Option (Mem × Unit) := if a0 < 4 then (if a1 < 4 then (X2_take_L2 a0 a1 (fun (s7 : Mem) => (cpJ s7 201 a1 40 (0 : Int32) 201 a0 40 (0 : Int32) (40 : Int32) fun (s8 : Mem) => cpI s8 202 a1 6 (0 : Int32) 202 a0 6 (0 : Int32) (6 : Int32) fun (s9 : Mem) => some ((uI ((uI s9 203 a0 0 ((s9.1 203 a1 0)))) 204 a0 0 ((((uI s9 203 a0 0 ((s9.1 203 a1 0)))).1 204 a1 0))), ()))) FU σ (0 : Int32)) else none) else none
set_option maxRecDepth 100000 in
set_option maxHeartbeats 4000000 in
theorem t_X2_take_L2 (X : GX) (x0 : Nat) (x1 : Nat) (hx0 : x0 < 4) (hx1 : x1 < 4) (k32 : Mem → Option (Mem × Unit)) (hk32 : ∀ (σ : Mem), GS (KM enV X) X mX2_take σ 32 [(0, .ref (xad X (69 + 4 * x0))), (1, .ref (xad X (69 + 4 * x1)))] [] (k32 σ)) : ∀ (n : Nat) (σ : Mem) (x2 : Int32), GS (KM enV X) X mX2_take σ 2 [(0, .ref (xad X (69 + 4 * x0))), (1, .ref (xad X (69 + 4 * x1))), (2, .int x2)] [] (X2_take_L2 x0 x1 k32 n σ x2) := by
  intro n
  induction n with
  | zero => intros; exact g_none
  | succ n ih =>
    intro σ x2
    rw [X2_take_L2]
    refine g_iload_n 2 dX2_take_2 rfl ?_
    refine g_aload_n 0 dX2_take_3 rfl ?_
    refine gf_X2_0 hx0 fl_X2_11 dX2_take_4 ?_
    refine g_alen (v := (8 : Int32)) (sh_plaws hx0) (no_plaws hx0) (by decide) rfl dX2_take_7 ?_
    refine g_icmp_ge 32 dX2_take_8 rfl (fun _ => ?_) (fun _ => ?_)
    · refine g_sub [0, 1] rfl ?_
      exact hk32 σ
    · refine g_aload_n 0 dX2_take_11 rfl ?_
      refine gf_X2_0 hx0 fl_X2_11 dX2_take_12 ?_
      refine g_iload_n 2 dX2_take_15 rfl ?_
      refine g_ald4 (sh_plaws hx0) (no_plaws hx0) dX2_take_16 (fun _ => ?_)
      refine g_spl ?_ (fun r1 hr1 => ?_)
      · refine g_aload_n 1 dX2_take_17 rfl ?_
        refine gf_X2_0 hx1 fl_X2_11 dX2_take_18 ?_
        refine g_iload_n 2 dX2_take_21 rfl ?_
        refine g_ald4 (sh_plaws hx1) (no_plaws hx1) dX2_take_22 (fun _ => ?_)
        refine g_spl ?_ (fun r2 hr2 => ?_)
        · exact g_none
        · exact g_none
      · refine g_aload_n 1 dX2_take_17 rfl ?_
        refine gf_X2_0 hx1 fl_X2_11 dX2_take_18 ?_
        refine g_iload_n 2 dX2_take_21 rfl ?_
        refine g_ald4 (sh_plaws hx1) (no_plaws hx1) dX2_take_22 (fun _ => ?_)
        refine g_spl ?_ (fun r3 hr3 => ?_)
        · exact g_none
        · refine g_callVV (c_X1_take σ r1 r3) okX1_take ⟨by decide, by decide⟩ ml_X2_45 (sh_X1 hr1) (no_X1 hr1) rfl rfl [.ref (xad X (28 + r3))] rfl rfl rfl (Nat.le_of_ble_eq_true rfl) dX2_take_23 (fun q4 => ?_)
          refine g_iinc 2 [(2, .int ((x2 + (1 : Int32)))), (0, .ref (xad X (69 + 4 * x0))), (1, .ref (xad X (69 + 4 * x1)))] dX2_take_26 rfl (v := x2 + (1 : Int32)) rfl (by decide) rfl ?_
          refine g_goto 2 dX2_take_29 rfl ?_
          refine g_sub [1, 2, 0] rfl ?_
          exact ih q4.1 ((x2 + (1 : Int32)))

set_option maxRecDepth 100000 in
set_option maxHeartbeats 4000000 in
theorem c_X2_take (σ : Mem) (a0 : Nat) (a1 : Nat) : CT yX2_take mX2_take enV (fun ad => [.ref (ad (69 + 4 * a0)), .ref (ad (69 + 4 * a1))]) σ (X2_take σ a0 a1) := by
  refine CT.of (by decide) rfl (fun _ => Nat.le_of_ble_eq_true rfl) (fun X => ?_)
  show GS (KM enV X) X mX2_take σ 0 [(0, .ref (xad X (69 + 4 * a0))), (1, .ref (xad X (69 + 4 * a1)))] [] _
  unfold X2_take
  refine g_guard (fun ha0 => ?_)
  refine g_guard (fun ha1 => ?_)
  refine g_iconst (0 : Int32) dX2_take_0 (by decide) ?_
  refine g_istore_n [(2, .int ((0 : Int32))), (0, .ref (xad X (69 + 4 * a0))), (1, .ref (xad X (69 + 4 * a1)))] dX2_take_1 (by decide) rfl ?_
  refine g_sub [1, 2, 0] rfl ?_
  refine t_X2_take_L2 X a0 a1 ha0 ha1 _ (fun s7 => ?_) FU σ (0 : Int32)
  refine g_aload_n 1 dX2_take_32 rfl ?_
  refine gf_X2_1 ha1 fl_X2_17 dX2_take_33 ?_
  refine g_iconst (0 : Int32) dX2_take_36 (by decide) ?_
  refine g_aload_n 0 dX2_take_37 rfl ?_
  refine gf_X2_1 ha0 fl_X2_17 dX2_take_38 ?_
  refine g_iconst (0 : Int32) dX2_take_41 (by decide) ?_
  refine g_aload_n 0 dX2_take_42 rfl ?_
  refine gf_X2_1 ha0 fl_X2_17 dX2_take_43 ?_
  refine g_alen (v := (40 : Int32)) (sh_pdeeds ha0) (no_pdeeds ha0) (by decide) rfl dX2_take_46 ?_
  refine g_copyJ (sh_pdeeds ha1) (no_pdeeds ha1) (sh_pdeeds ha0) (no_pdeeds ha0) jl_X2_55 ja_n ja_s ja_i (by decide) (Nat.le_of_ble_eq_true rfl) dX2_take_47 (fun s8 _ => ?_)
  refine g_aload_n 1 dX2_take_50 rfl ?_
  refine gf_X2_2 ha1 fl_X2_21 dX2_take_51 ?_
  refine g_iconst (0 : Int32) dX2_take_54 (by decide) ?_
  refine g_aload_n 0 dX2_take_55 rfl ?_
  refine gf_X2_2 ha0 fl_X2_21 dX2_take_56 ?_
  refine g_iconst (0 : Int32) dX2_take_59 (by decide) ?_
  refine g_aload_n 0 dX2_take_60 rfl ?_
  refine gf_X2_2 ha0 fl_X2_21 dX2_take_61 ?_
  refine g_alen (v := (6 : Int32)) (sh_pinks ha0) (no_pinks ha0) (by decide) rfl dX2_take_64 ?_
  refine g_copyI (sh_pinks ha1) (no_pinks ha1) (sh_pinks ha0) (no_pinks ha0) jl_X2_55 ja_n ja_s ja_i (by decide) (Nat.le_of_ble_eq_true rfl) dX2_take_65 (fun s9 _ => ?_)
  refine g_aload_n 0 dX2_take_68 rfl ?_
  refine g_aload_n 1 dX2_take_69 rfl ?_
  refine gf_X2_3 ha1 fl_X2_25 dX2_take_70 ?_
  refine pf_X2_3 ha0 fl_X2_25 dX2_take_73 ?_
  refine g_aload_n 0 dX2_take_76 rfl ?_
  refine g_aload_n 1 dX2_take_77 rfl ?_
  refine gf_X2_4 ha1 fl_X2_29 dX2_take_78 ?_
  refine pf_X2_4 ha0 fl_X2_29 dX2_take_81 ?_
  exact g_vret rfl dX2_take_84

def X2_isKept (σ : Mem) (a0 : Nat) : Option (Mem × Int32) := if a0 < 4 then (if (σ.1 203 a0 0) ≤ 0 then (if (0 : Int32) = 0 ∨ (0 : Int32) = 1 then some (σ, (0 : Int32)) else none) else ((if (1 : Int32) = 0 ∨ (1 : Int32) = 1 then some (σ, (1 : Int32)) else none))) else none
set_option maxRecDepth 100000 in
set_option maxHeartbeats 4000000 in
theorem c_X2_isKept (σ : Mem) (a0 : Nat) : CT yX2_isKept mX2_isKept enI (fun ad => [.ref (ad (69 + 4 * a0))]) σ (X2_isKept σ a0) := by
  refine CT.of (by decide) rfl (fun _ => Nat.le_of_ble_eq_true rfl) (fun X => ?_)
  show GS (KM enI X) X mX2_isKept σ 0 [(0, .ref (xad X (69 + 4 * a0)))] [] _
  unfold X2_isKept
  refine g_guard (fun ha0 => ?_)
  refine g_aload_n 0 dX2_isKept_0 rfl ?_
  refine gf_X2_3 ha0 fl_X2_25 dX2_isKept_1 ?_
  refine g_if_le 11 dX2_isKept_4 rfl (fun _ => ?_) (fun _ => ?_)
  · refine g_iconst (0 : Int32) dX2_isKept_11 (by decide) ?_
    exact g_zret rfl dX2_isKept_12
  · refine g_iconst (1 : Int32) dX2_isKept_7 (by decide) ?_
    refine g_goto 12 dX2_isKept_8 rfl ?_
    exact g_zret rfl dX2_isKept_12

def X2_numbered (σ : Mem) (a0 : Nat) (a1 : Int32) : Option (Mem × (Option Nat)) := if a0 < 4 then (if a1 < 0 then (some (σ, none)) else (if (σ.1 203 a0 0) ≤ a1 then (some (σ, none)) else (if (8 : Int32) ≤ a1 then (some (σ, none)) else (ck a1 8 <| spl (σ.2.2 200 a0 a1.toNatClampNeg) 41 ((some (σ, none))) (fun r1 => ((some (σ, some r1)))))))) else none
set_option maxRecDepth 100000 in
set_option maxHeartbeats 4000000 in
theorem c_X2_numbered (σ : Mem) (a0 : Nat) (a1 : Int32) : CT yX2_numbered mX2_numbered (enG (fun x => 28 + x)) (fun ad => [.ref (ad (69 + 4 * a0)), .int a1]) σ (X2_numbered σ a0 a1) := by
  refine CT.of (by decide) rfl (fun _ => Nat.le_of_ble_eq_true rfl) (fun X => ?_)
  show GS (KM (enG (fun x => 28 + x)) X) X mX2_numbered σ 0 [(0, .ref (xad X (69 + 4 * a0))), (1, .int a1)] [] _
  unfold X2_numbered
  refine g_guard (fun ha0 => ?_)
  refine g_iload_n 1 dX2_numbered_0 rfl ?_
  refine g_if_lt 30 dX2_numbered_1 rfl (fun _ => ?_) (fun _ => ?_)
  · refine g_null dX2_numbered_30 ?_
    exact g_aretGN rfl dX2_numbered_31
  · refine g_iload_n 1 dX2_numbered_4 rfl ?_
    refine g_aload_n 0 dX2_numbered_5 rfl ?_
    refine gf_X2_3 ha0 fl_X2_25 dX2_numbered_6 ?_
    refine g_icmp_ge 30 dX2_numbered_9 rfl (fun _ => ?_) (fun _ => ?_)
    · refine g_null dX2_numbered_30 ?_
      exact g_aretGN rfl dX2_numbered_31
    · refine g_iload_n 1 dX2_numbered_12 rfl ?_
      refine g_aload_n 0 dX2_numbered_13 rfl ?_
      refine gf_X2_0 ha0 fl_X2_11 dX2_numbered_14 ?_
      refine g_alen (v := (8 : Int32)) (sh_plaws ha0) (no_plaws ha0) (by decide) rfl dX2_numbered_17 ?_
      refine g_icmp_ge 30 dX2_numbered_18 rfl (fun _ => ?_) (fun _ => ?_)
      · refine g_null dX2_numbered_30 ?_
        exact g_aretGN rfl dX2_numbered_31
      · refine g_aload_n 0 dX2_numbered_21 rfl ?_
        refine gf_X2_0 ha0 fl_X2_11 dX2_numbered_22 ?_
        refine g_iload_n 1 dX2_numbered_25 rfl ?_
        refine g_ald4 (sh_plaws ha0) (no_plaws ha0) dX2_numbered_26 (fun _ => ?_)
        refine g_spl ?_ (fun r1 hr1 => ?_)
        · refine g_goto 31 dX2_numbered_27 rfl ?_
          exact g_aretGN rfl dX2_numbered_31
        · refine g_goto 31 dX2_numbered_27 rfl ?_
          exact g_aretG (g := fun x => 28 + x) rfl dX2_numbered_31

def X2_exchange (σ : Mem) (a0 : Nat) (a1 : Int32) (a2 : Int32) : Option (Mem × Unit) := if a0 < 4 then ((X2_numbered σ a0 a1).bind fun q1 => spl q1.2 41 ((some (q1.1, ()))) (fun r2 => (((X2_numbered q1.1 a0 a2).bind fun q3 => spl q3.2 41 ((some (q3.1, ()))) (fun r4 => ((ck a1 8 <| spl (q3.1.2.2 200 a0 a1.toNatClampNeg) 41 (ck a2 8 <| spl (q3.1.2.2 200 a0 a2.toNatClampNeg) 41 none (fun r6 => (ck a1 8 <| none))) (fun r5 => (ck a2 8 <| spl (q3.1.2.2 200 a0 a2.toNatClampNeg) 41 none (fun r7 => (ck a1 8 <| ck a2 8 <| some ((uR ((uR q3.1 200 a0 a1.toNatClampNeg (some r7))) 200 a0 a2.toNatClampNeg (some r5)), ())))))))))))) else none
set_option maxRecDepth 100000 in
set_option maxHeartbeats 4000000 in
theorem c_X2_exchange (σ : Mem) (a0 : Nat) (a1 : Int32) (a2 : Int32) : CT yX2_exchange mX2_exchange enV (fun ad => [.ref (ad (69 + 4 * a0)), .int a1, .int a2]) σ (X2_exchange σ a0 a1 a2) := by
  refine CT.of (by decide) rfl (fun _ => Nat.le_of_ble_eq_true rfl) (fun X => ?_)
  show GS (KM enV X) X mX2_exchange σ 0 [(0, .ref (xad X (69 + 4 * a0))), (1, .int a1), (2, .int a2)] [] _
  unfold X2_exchange
  refine g_guard (fun ha0 => ?_)
  refine g_aload_n 0 dX2_exchange_0 rfl ?_
  refine g_iload_n 1 dX2_exchange_1 rfl ?_
  refine g_callVG (c_X2_numbered σ a0 a1) okX2_numbered ⟨by decide, by decide⟩ ml_X2_61 (sh_X2 ha0) (no_X2 ha0) rfl rfl [.int a1] rfl rfl rfl (Nat.le_of_ble_eq_true rfl) dX2_exchange_2 (fun q1 => ?_)
  refine g_spl ?_ (fun r2 hr2 => ?_)
  · refine g_ifnullN 42 dX2_exchange_5 rfl ?_
    exact g_vret rfl dX2_exchange_42
  · refine g_ifnull dX2_exchange_5 ?_
    refine g_aload_n 0 dX2_exchange_8 rfl ?_
    refine g_iload_n 2 dX2_exchange_9 rfl ?_
    refine g_callVG (c_X2_numbered q1.1 a0 a2) okX2_numbered ⟨by decide, by decide⟩ ml_X2_61 (sh_X2 ha0) (no_X2 ha0) rfl rfl [.int a2] rfl rfl rfl (Nat.le_of_ble_eq_true rfl) dX2_exchange_10 (fun q3 => ?_)
    refine g_spl ?_ (fun r4 hr4 => ?_)
    · refine g_ifnullN 42 dX2_exchange_13 rfl ?_
      exact g_vret rfl dX2_exchange_42
    · refine g_ifnull dX2_exchange_13 ?_
      refine g_aload_n 0 dX2_exchange_16 rfl ?_
      refine gf_X2_0 ha0 fl_X2_11 dX2_exchange_17 ?_
      refine g_iload_n 1 dX2_exchange_20 rfl ?_
      refine g_ald4 (sh_plaws ha0) (no_plaws ha0) dX2_exchange_21 (fun _ => ?_)
      refine g_spl ?_ (fun r5 hr5 => ?_)
      · refine g_astore_nN [(3, .null), (0, .ref (xad X (69 + 4 * a0))), (1, .int a1), (2, .int a2)] dX2_exchange_22 (by decide) rfl ?_
        refine g_aload_n 1 dX2_exchange_23 rfl ?_
        refine gf_X2_0 ha0 fl_X2_11 dX2_exchange_24 ?_
        refine g_iload_n 2 dX2_exchange_27 rfl ?_
        refine g_aload_n 1 dX2_exchange_28 rfl ?_
        refine gf_X2_0 ha0 fl_X2_11 dX2_exchange_29 ?_
        refine g_iload_n 3 dX2_exchange_32 rfl ?_
        refine g_ald4 (sh_plaws ha0) (no_plaws ha0) dX2_exchange_33 (fun _ => ?_)
        refine g_spl ?_ (fun r6 hr6 => ?_)
        · exact g_none
        · refine g_ast4 (sh_plaws ha0) (no_plaws ha0) hr6 (sh_X1 hr6) dX2_exchange_34 (fun _ => ?_)
          refine g_aload_n 1 dX2_exchange_35 rfl ?_
          refine gf_X2_0 ha0 fl_X2_11 dX2_exchange_36 ?_
          refine g_iload_n 3 dX2_exchange_39 rfl ?_
          refine g_aload_nN 0 dX2_exchange_40 rfl ?_
          exact g_none
      · refine g_astore_n [(3, .ref (xad X (28 + r5))), (0, .ref (xad X (69 + 4 * a0))), (1, .int a1), (2, .int a2)] dX2_exchange_22 (by decide) rfl ?_
        refine g_aload_n 1 dX2_exchange_23 rfl ?_
        refine gf_X2_0 ha0 fl_X2_11 dX2_exchange_24 ?_
        refine g_iload_n 2 dX2_exchange_27 rfl ?_
        refine g_aload_n 1 dX2_exchange_28 rfl ?_
        refine gf_X2_0 ha0 fl_X2_11 dX2_exchange_29 ?_
        refine g_iload_n 3 dX2_exchange_32 rfl ?_
        refine g_ald4 (sh_plaws ha0) (no_plaws ha0) dX2_exchange_33 (fun _ => ?_)
        refine g_spl ?_ (fun r7 hr7 => ?_)
        · exact g_none
        · refine g_ast4 (sh_plaws ha0) (no_plaws ha0) hr7 (sh_X1 hr7) dX2_exchange_34 (fun _ => ?_)
          refine g_aload_n 1 dX2_exchange_35 rfl ?_
          refine gf_X2_0 ha0 fl_X2_11 dX2_exchange_36 ?_
          refine g_iload_n 3 dX2_exchange_39 rfl ?_
          refine g_aload_n 0 dX2_exchange_40 rfl ?_
          refine g_ast4 (sh_plaws ha0) (no_plaws ha0) hr5 (sh_X1 hr5) dX2_exchange_41 (fun _ => ?_)
          exact g_vret rfl dX2_exchange_42

def X2_onSet_L4 (x0 : Nat) (k40 : Mem → Int32 → Option (Mem × Int32)) : Nat → Mem → Int32 → Int32 → Option (Mem × Int32)
  | 0, _, _, _ => none
  | n + 1, σ, x1, x2 => (if (σ.1 203 x0 0) ≤ x2 then k40 σ x1 else (ck x2 8 <| spl (σ.2.2 200 x0 x2.toNatClampNeg) 41 none (fun r1 => (if (σ.1 104 r1 0) = 0 then (lt_ ((x1 ||| ((1 : Int32) <<< (x2 &&& 31)))) fun (v2 : Int32) => X2_onSet_L4 x0 k40 n σ v2 ((x2 + (1 : Int32)))) else ((lt_ ((x1 ||| (0 : Int32))) fun (v4 : Int32) => X2_onSet_L4 x0 k40 n σ v4 ((x2 + (1 : Int32)))))))))
def X2_onSet (σ : Mem) (a0 : Nat) : Option (Mem × Int32) := if a0 < 4 then (X2_onSet_L4 a0 (fun (s7 : Mem) (y1_6 : Int32) => (some (s7, y1_6))) FU σ (0 : Int32) (0 : Int32)) else none
set_option maxRecDepth 100000 in
set_option maxHeartbeats 4000000 in
theorem t_X2_onSet_L4 (X : GX) (x0 : Nat) (hx0 : x0 < 4) (k40 : Mem → Int32 → Option (Mem × Int32)) (hk40 : ∀ (σ : Mem) (y1 : Int32), GS (KM enI X) X mX2_onSet σ 40 [(1, .int y1)] [] (k40 σ y1)) : ∀ (n : Nat) (σ : Mem) (x1 : Int32) (x2 : Int32), GS (KM enI X) X mX2_onSet σ 4 [(0, .ref (xad X (69 + 4 * x0))), (1, .int x1), (2, .int x2)] [] (X2_onSet_L4 x0 k40 n σ x1 x2) := by
  intro n
  induction n with
  | zero => intros; exact g_none
  | succ n ih =>
    intro σ x1 x2
    rw [X2_onSet_L4]
    refine g_iload_n 2 dX2_onSet_4 rfl ?_
    refine g_aload_n 0 dX2_onSet_5 rfl ?_
    refine gf_X2_3 hx0 fl_X2_25 dX2_onSet_6 ?_
    refine g_icmp_ge 40 dX2_onSet_9 rfl (fun _ => ?_) (fun _ => ?_)
    · refine g_sub [1] rfl ?_
      exact hk40 σ x1
    · refine g_iload_n 1 dX2_onSet_12 rfl ?_
      refine g_aload_n 0 dX2_onSet_13 rfl ?_
      refine gf_X2_0 hx0 fl_X2_11 dX2_onSet_14 ?_
      refine g_iload_n 2 dX2_onSet_17 rfl ?_
      refine g_ald4 (sh_plaws hx0) (no_plaws hx0) dX2_onSet_18 (fun _ => ?_)
      refine g_spl ?_ (fun r1 hr1 => ?_)
      · exact g_none
      · refine gf_X1_4 hr1 fl_X2_65 dX2_onSet_19 ?_
        refine g_if_eq 29 dX2_onSet_22 rfl (fun _ => ?_) (fun _ => ?_)
        · refine g_iconst (1 : Int32) dX2_onSet_29 (by decide) ?_
          refine g_iload_n 2 dX2_onSet_30 rfl ?_
          refine g_ishl dX2_onSet_31 ?_
          refine g_ior dX2_onSet_32 ?_
          refine g_topi (fun v2 => ?_)
          refine g_istore_n [(1, .int v2), (0, .ref (xad X (69 + 4 * x0))), (2, .int x2)] dX2_onSet_33 (by decide) rfl ?_
          refine g_iinc 2 [(2, .int ((x2 + (1 : Int32)))), (1, .int v2), (0, .ref (xad X (69 + 4 * x0)))] dX2_onSet_34 rfl (v := x2 + (1 : Int32)) rfl (by decide) rfl ?_
          refine g_goto 4 dX2_onSet_37 rfl ?_
          refine g_sub [2, 1, 0] rfl ?_
          exact ih σ v2 ((x2 + (1 : Int32)))
        · refine g_iconst (0 : Int32) dX2_onSet_25 (by decide) ?_
          refine g_goto 32 dX2_onSet_26 rfl ?_
          refine g_ior dX2_onSet_32 ?_
          refine g_topi (fun v4 => ?_)
          refine g_istore_n [(1, .int v4), (0, .ref (xad X (69 + 4 * x0))), (2, .int x2)] dX2_onSet_33 (by decide) rfl ?_
          refine g_iinc 2 [(2, .int ((x2 + (1 : Int32)))), (1, .int v4), (0, .ref (xad X (69 + 4 * x0)))] dX2_onSet_34 rfl (v := x2 + (1 : Int32)) rfl (by decide) rfl ?_
          refine g_goto 4 dX2_onSet_37 rfl ?_
          refine g_sub [2, 1, 0] rfl ?_
          exact ih σ v4 ((x2 + (1 : Int32)))

set_option maxRecDepth 100000 in
set_option maxHeartbeats 4000000 in
theorem c_X2_onSet (σ : Mem) (a0 : Nat) : CT yX2_onSet mX2_onSet enI (fun ad => [.ref (ad (69 + 4 * a0))]) σ (X2_onSet σ a0) := by
  refine CT.of (by decide) rfl (fun _ => Nat.le_of_ble_eq_true rfl) (fun X => ?_)
  show GS (KM enI X) X mX2_onSet σ 0 [(0, .ref (xad X (69 + 4 * a0)))] [] _
  unfold X2_onSet
  refine g_guard (fun ha0 => ?_)
  refine g_iconst (0 : Int32) dX2_onSet_0 (by decide) ?_
  refine g_istore_n [(1, .int ((0 : Int32))), (0, .ref (xad X (69 + 4 * a0)))] dX2_onSet_1 (by decide) rfl ?_
  refine g_iconst (0 : Int32) dX2_onSet_2 (by decide) ?_
  refine g_istore_n [(2, .int ((0 : Int32))), (1, .int ((0 : Int32))), (0, .ref (xad X (69 + 4 * a0)))] dX2_onSet_3 (by decide) rfl ?_
  refine g_sub [2, 1, 0] rfl ?_
  refine t_X2_onSet_L4 X a0 ha0 _ (fun s7 y1_6 => ?_) FU σ (0 : Int32) (0 : Int32)
  refine g_iload_n 0 dX2_onSet_40 rfl ?_
  exact g_iret rfl dX2_onSet_41

def X2_lawsOf_L4 (x0 : Nat) (x1 : Int32) (k39 : Mem → Int32 → Option (Mem × Int32)) : Nat → Mem → Int32 → Int32 → Option (Mem × Int32)
  | 0, _, _, _ => none
  | n + 1, σ, x2, x3 => (if (σ.1 203 x0 0) ≤ x3 then k39 σ x2 else (ck x3 8 <| spl (σ.2.2 200 x0 x3.toNatClampNeg) 41 none (fun r1 => (if (σ.1 101 r1 0) = x1 then ((lt_ ((x2 + (1 : Int32))) fun (v4 : Int32) => X2_lawsOf_L4 x0 x1 k39 n σ v4 ((x3 + (1 : Int32))))) else (lt_ ((x2 + (0 : Int32))) fun (v2 : Int32) => X2_lawsOf_L4 x0 x1 k39 n σ v2 ((x3 + (1 : Int32))))))))
def X2_lawsOf (σ : Mem) (a0 : Nat) (a1 : Int32) : Option (Mem × Int32) := if a0 < 4 then (X2_lawsOf_L4 a0 a1 (fun (s7 : Mem) (y2_6 : Int32) => (some (s7, y2_6))) FU σ (0 : Int32) (0 : Int32)) else none
set_option maxRecDepth 100000 in
set_option maxHeartbeats 4000000 in
theorem t_X2_lawsOf_L4 (X : GX) (x0 : Nat) (x1 : Int32) (hx0 : x0 < 4) (k39 : Mem → Int32 → Option (Mem × Int32)) (hk39 : ∀ (σ : Mem) (y2 : Int32), GS (KM enI X) X mX2_lawsOf σ 39 [(2, .int y2)] [] (k39 σ y2)) : ∀ (n : Nat) (σ : Mem) (x2 : Int32) (x3 : Int32), GS (KM enI X) X mX2_lawsOf σ 4 [(0, .ref (xad X (69 + 4 * x0))), (1, .int x1), (2, .int x2), (3, .int x3)] [] (X2_lawsOf_L4 x0 x1 k39 n σ x2 x3) := by
  intro n
  induction n with
  | zero => intros; exact g_none
  | succ n ih =>
    intro σ x2 x3
    rw [X2_lawsOf_L4]
    refine g_iload_n 3 dX2_lawsOf_4 rfl ?_
    refine g_aload_n 0 dX2_lawsOf_5 rfl ?_
    refine gf_X2_3 hx0 fl_X2_25 dX2_lawsOf_6 ?_
    refine g_icmp_ge 39 dX2_lawsOf_9 rfl (fun _ => ?_) (fun _ => ?_)
    · refine g_sub [2] rfl ?_
      exact hk39 σ x2
    · refine g_iload_n 2 dX2_lawsOf_12 rfl ?_
      refine g_aload_n 0 dX2_lawsOf_13 rfl ?_
      refine gf_X2_0 hx0 fl_X2_11 dX2_lawsOf_14 ?_
      refine g_iload_n 3 dX2_lawsOf_17 rfl ?_
      refine g_ald4 (sh_plaws hx0) (no_plaws hx0) dX2_lawsOf_18 (fun _ => ?_)
      refine g_spl ?_ (fun r1 hr1 => ?_)
      · exact g_none
      · refine gf_X1_1 hr1 fl_X2_69 dX2_lawsOf_19 ?_
        refine g_iload_n 1 dX2_lawsOf_22 rfl ?_
        refine g_icmp_ne 30 dX2_lawsOf_23 rfl (fun _ => ?_) (fun _ => ?_)
        · refine g_iconst (0 : Int32) dX2_lawsOf_30 (by decide) ?_
          refine g_iadd dX2_lawsOf_31 ?_
          refine g_topi (fun v2 => ?_)
          refine g_istore_n [(2, .int v2), (0, .ref (xad X (69 + 4 * x0))), (1, .int x1), (3, .int x3)] dX2_lawsOf_32 (by decide) rfl ?_
          refine g_iinc 3 [(3, .int ((x3 + (1 : Int32)))), (2, .int v2), (0, .ref (xad X (69 + 4 * x0))), (1, .int x1)] dX2_lawsOf_33 rfl (v := x3 + (1 : Int32)) rfl (by decide) rfl ?_
          refine g_goto 4 dX2_lawsOf_36 rfl ?_
          refine g_sub [2, 3, 1, 0] rfl ?_
          exact ih σ v2 ((x3 + (1 : Int32)))
        · refine g_iconst (1 : Int32) dX2_lawsOf_26 (by decide) ?_
          refine g_goto 31 dX2_lawsOf_27 rfl ?_
          refine g_iadd dX2_lawsOf_31 ?_
          refine g_topi (fun v4 => ?_)
          refine g_istore_n [(2, .int v4), (0, .ref (xad X (69 + 4 * x0))), (1, .int x1), (3, .int x3)] dX2_lawsOf_32 (by decide) rfl ?_
          refine g_iinc 3 [(3, .int ((x3 + (1 : Int32)))), (2, .int v4), (0, .ref (xad X (69 + 4 * x0))), (1, .int x1)] dX2_lawsOf_33 rfl (v := x3 + (1 : Int32)) rfl (by decide) rfl ?_
          refine g_goto 4 dX2_lawsOf_36 rfl ?_
          refine g_sub [2, 3, 1, 0] rfl ?_
          exact ih σ v4 ((x3 + (1 : Int32)))

set_option maxRecDepth 100000 in
set_option maxHeartbeats 4000000 in
theorem c_X2_lawsOf (σ : Mem) (a0 : Nat) (a1 : Int32) : CT yX2_lawsOf mX2_lawsOf enI (fun ad => [.ref (ad (69 + 4 * a0)), .int a1]) σ (X2_lawsOf σ a0 a1) := by
  refine CT.of (by decide) rfl (fun _ => Nat.le_of_ble_eq_true rfl) (fun X => ?_)
  show GS (KM enI X) X mX2_lawsOf σ 0 [(0, .ref (xad X (69 + 4 * a0))), (1, .int a1)] [] _
  unfold X2_lawsOf
  refine g_guard (fun ha0 => ?_)
  refine g_iconst (0 : Int32) dX2_lawsOf_0 (by decide) ?_
  refine g_istore_n [(2, .int ((0 : Int32))), (0, .ref (xad X (69 + 4 * a0))), (1, .int a1)] dX2_lawsOf_1 (by decide) rfl ?_
  refine g_iconst (0 : Int32) dX2_lawsOf_2 (by decide) ?_
  refine g_istore_n [(3, .int ((0 : Int32))), (2, .int ((0 : Int32))), (0, .ref (xad X (69 + 4 * a0))), (1, .int a1)] dX2_lawsOf_3 (by decide) rfl ?_
  refine g_sub [2, 3, 1, 0] rfl ?_
  refine t_X2_lawsOf_L4 X a0 a1 ha0 _ (fun s7 y2_6 => ?_) FU σ (0 : Int32) (0 : Int32)
  refine g_iload_n 0 dX2_lawsOf_39 rfl ?_
  exact g_iret rfl dX2_lawsOf_40

def X2_lawsOfKind_L4 (x0 : Nat) (x1 : Int32) (k39 : Mem → Int32 → Option (Mem × Int32)) : Nat → Mem → Int32 → Int32 → Option (Mem × Int32)
  | 0, _, _, _ => none
  | n + 1, σ, x2, x3 => (if (σ.1 203 x0 0) ≤ x3 then k39 σ x2 else (ck x3 8 <| spl (σ.2.2 200 x0 x3.toNatClampNeg) 41 none (fun r1 => ((X1_isOf σ r1 x1).bind fun q2 => if q2.2 = 0 then (lt_ ((x2 + (0 : Int32))) fun (v3 : Int32) => X2_lawsOfKind_L4 x0 x1 k39 n q2.1 v3 ((x3 + (1 : Int32)))) else ((lt_ ((x2 + (1 : Int32))) fun (v5 : Int32) => X2_lawsOfKind_L4 x0 x1 k39 n q2.1 v5 ((x3 + (1 : Int32)))))))))
def X2_lawsOfKind (σ : Mem) (a0 : Nat) (a1 : Int32) : Option (Mem × Int32) := if a0 < 4 then (X2_lawsOfKind_L4 a0 a1 (fun (s8 : Mem) (y2_7 : Int32) => (some (s8, y2_7))) FU σ (0 : Int32) (0 : Int32)) else none
set_option maxRecDepth 100000 in
set_option maxHeartbeats 4000000 in
theorem t_X2_lawsOfKind_L4 (X : GX) (x0 : Nat) (x1 : Int32) (hx0 : x0 < 4) (k39 : Mem → Int32 → Option (Mem × Int32)) (hk39 : ∀ (σ : Mem) (y2 : Int32), GS (KM enI X) X mX2_lawsOfKind σ 39 [(2, .int y2)] [] (k39 σ y2)) : ∀ (n : Nat) (σ : Mem) (x2 : Int32) (x3 : Int32), GS (KM enI X) X mX2_lawsOfKind σ 4 [(0, .ref (xad X (69 + 4 * x0))), (1, .int x1), (2, .int x2), (3, .int x3)] [] (X2_lawsOfKind_L4 x0 x1 k39 n σ x2 x3) := by
  intro n
  induction n with
  | zero => intros; exact g_none
  | succ n ih =>
    intro σ x2 x3
    rw [X2_lawsOfKind_L4]
    refine g_iload_n 3 dX2_lawsOfKind_4 rfl ?_
    refine g_aload_n 0 dX2_lawsOfKind_5 rfl ?_
    refine gf_X2_3 hx0 fl_X2_25 dX2_lawsOfKind_6 ?_
    refine g_icmp_ge 39 dX2_lawsOfKind_9 rfl (fun _ => ?_) (fun _ => ?_)
    · refine g_sub [2] rfl ?_
      exact hk39 σ x2
    · refine g_iload_n 2 dX2_lawsOfKind_12 rfl ?_
      refine g_aload_n 0 dX2_lawsOfKind_13 rfl ?_
      refine gf_X2_0 hx0 fl_X2_11 dX2_lawsOfKind_14 ?_
      refine g_iload_n 3 dX2_lawsOfKind_17 rfl ?_
      refine g_ald4 (sh_plaws hx0) (no_plaws hx0) dX2_lawsOfKind_18 (fun _ => ?_)
      refine g_spl ?_ (fun r1 hr1 => ?_)
      · refine g_iload_n 1 dX2_lawsOfKind_19 rfl ?_
        exact g_none
      · refine g_iload_n 1 dX2_lawsOfKind_19 rfl ?_
        refine g_callVI (c_X1_isOf σ r1 x1) okX1_isOf ⟨by decide, by decide⟩ ml_X2_72 (sh_X1 hr1) (no_X1 hr1) rfl rfl [.int x1] rfl rfl rfl (Nat.le_of_ble_eq_true rfl) dX2_lawsOfKind_20 (fun q2 => ?_)
        refine g_if_eq 30 dX2_lawsOfKind_23 rfl (fun _ => ?_) (fun _ => ?_)
        · refine g_iconst (0 : Int32) dX2_lawsOfKind_30 (by decide) ?_
          refine g_iadd dX2_lawsOfKind_31 ?_
          refine g_topi (fun v3 => ?_)
          refine g_istore_n [(2, .int v3), (0, .ref (xad X (69 + 4 * x0))), (1, .int x1), (3, .int x3)] dX2_lawsOfKind_32 (by decide) rfl ?_
          refine g_iinc 3 [(3, .int ((x3 + (1 : Int32)))), (2, .int v3), (0, .ref (xad X (69 + 4 * x0))), (1, .int x1)] dX2_lawsOfKind_33 rfl (v := x3 + (1 : Int32)) rfl (by decide) rfl ?_
          refine g_goto 4 dX2_lawsOfKind_36 rfl ?_
          refine g_sub [2, 3, 1, 0] rfl ?_
          exact ih q2.1 v3 ((x3 + (1 : Int32)))
        · refine g_iconst (1 : Int32) dX2_lawsOfKind_26 (by decide) ?_
          refine g_goto 31 dX2_lawsOfKind_27 rfl ?_
          refine g_iadd dX2_lawsOfKind_31 ?_
          refine g_topi (fun v5 => ?_)
          refine g_istore_n [(2, .int v5), (0, .ref (xad X (69 + 4 * x0))), (1, .int x1), (3, .int x3)] dX2_lawsOfKind_32 (by decide) rfl ?_
          refine g_iinc 3 [(3, .int ((x3 + (1 : Int32)))), (2, .int v5), (0, .ref (xad X (69 + 4 * x0))), (1, .int x1)] dX2_lawsOfKind_33 rfl (v := x3 + (1 : Int32)) rfl (by decide) rfl ?_
          refine g_goto 4 dX2_lawsOfKind_36 rfl ?_
          refine g_sub [2, 3, 1, 0] rfl ?_
          exact ih q2.1 v5 ((x3 + (1 : Int32)))

set_option maxRecDepth 100000 in
set_option maxHeartbeats 4000000 in
theorem c_X2_lawsOfKind (σ : Mem) (a0 : Nat) (a1 : Int32) : CT yX2_lawsOfKind mX2_lawsOfKind enI (fun ad => [.ref (ad (69 + 4 * a0)), .int a1]) σ (X2_lawsOfKind σ a0 a1) := by
  refine CT.of (by decide) rfl (fun _ => Nat.le_of_ble_eq_true rfl) (fun X => ?_)
  show GS (KM enI X) X mX2_lawsOfKind σ 0 [(0, .ref (xad X (69 + 4 * a0))), (1, .int a1)] [] _
  unfold X2_lawsOfKind
  refine g_guard (fun ha0 => ?_)
  refine g_iconst (0 : Int32) dX2_lawsOfKind_0 (by decide) ?_
  refine g_istore_n [(2, .int ((0 : Int32))), (0, .ref (xad X (69 + 4 * a0))), (1, .int a1)] dX2_lawsOfKind_1 (by decide) rfl ?_
  refine g_iconst (0 : Int32) dX2_lawsOfKind_2 (by decide) ?_
  refine g_istore_n [(3, .int ((0 : Int32))), (2, .int ((0 : Int32))), (0, .ref (xad X (69 + 4 * a0))), (1, .int a1)] dX2_lawsOfKind_3 (by decide) rfl ?_
  refine g_sub [2, 3, 1, 0] rfl ?_
  refine t_X2_lawsOfKind_L4 X a0 a1 ha0 _ (fun s8 y2_7 => ?_) FU σ (0 : Int32) (0 : Int32)
  refine g_iload_n 0 dX2_lawsOfKind_39 rfl ?_
  exact g_iret rfl dX2_lawsOfKind_40

def X2_holding_L5 (x0 : Nat) (x1 : Int32) (x2 : Int32) (k46 : Mem → Int32 → Option (Mem × Int32)) : Nat → Mem → Int32 → Int32 → Option (Mem × Int32)
  | 0, _, _, _ => none
  | n + 1, σ, x3, x4 => (if (σ.1 203 x0 0) ≤ x4 then k46 σ x3 else (ck x4 8 <| spl (σ.2.2 200 x0 x4.toNatClampNeg) 41 none (fun r1 => ((X1_holds σ r1 x1 x2).bind fun q2 => if q2.2 = 0 then (lt_ ((x3 ||| (0 : Int32))) fun (v3 : Int32) => X2_holding_L5 x0 x1 x2 k46 n q2.1 v3 ((x4 + (1 : Int32)))) else ((lt_ ((x3 ||| ((1 : Int32) <<< (x4 &&& 31)))) fun (v5 : Int32) => X2_holding_L5 x0 x1 x2 k46 n q2.1 v5 ((x4 + (1 : Int32)))))))))
def X2_holding (σ : Mem) (a0 : Nat) (a1 : Int32) (a2 : Int32) : Option (Mem × Int32) := if a0 < 4 then (X2_holding_L5 a0 a1 a2 (fun (s8 : Mem) (y3_7 : Int32) => (some (s8, y3_7))) FU σ (0 : Int32) (0 : Int32)) else none
set_option maxRecDepth 100000 in
set_option maxHeartbeats 4000000 in
theorem t_X2_holding_L5 (X : GX) (x0 : Nat) (x1 : Int32) (x2 : Int32) (hx0 : x0 < 4) (k46 : Mem → Int32 → Option (Mem × Int32)) (hk46 : ∀ (σ : Mem) (y3 : Int32), GS (KM enI X) X mX2_holding σ 46 [(3, .int y3)] [] (k46 σ y3)) : ∀ (n : Nat) (σ : Mem) (x3 : Int32) (x4 : Int32), GS (KM enI X) X mX2_holding σ 5 [(0, .ref (xad X (69 + 4 * x0))), (1, .int x1), (2, .int x2), (3, .int x3), (4, .int x4)] [] (X2_holding_L5 x0 x1 x2 k46 n σ x3 x4) := by
  intro n
  induction n with
  | zero => intros; exact g_none
  | succ n ih =>
    intro σ x3 x4
    rw [X2_holding_L5]
    refine g_iload 4 dX2_holding_5 rfl ?_
    refine g_aload_n 0 dX2_holding_7 rfl ?_
    refine gf_X2_3 hx0 fl_X2_25 dX2_holding_8 ?_
    refine g_icmp_ge 46 dX2_holding_11 rfl (fun _ => ?_) (fun _ => ?_)
    · refine g_sub [3] rfl ?_
      exact hk46 σ x3
    · refine g_iload_n 3 dX2_holding_14 rfl ?_
      refine g_aload_n 0 dX2_holding_15 rfl ?_
      refine gf_X2_0 hx0 fl_X2_11 dX2_holding_16 ?_
      refine g_iload 4 dX2_holding_19 rfl ?_
      refine g_ald4 (sh_plaws hx0) (no_plaws hx0) dX2_holding_21 (fun _ => ?_)
      refine g_spl ?_ (fun r1 hr1 => ?_)
      · refine g_iload_n 1 dX2_holding_22 rfl ?_
        refine g_iload_n 2 dX2_holding_23 rfl ?_
        exact g_none
      · refine g_iload_n 1 dX2_holding_22 rfl ?_
        refine g_iload_n 2 dX2_holding_23 rfl ?_
        refine g_callVI (c_X1_holds σ r1 x1 x2) okX1_holds ⟨by decide, by decide⟩ ml_X2_76 (sh_X1 hr1) (no_X1 hr1) rfl rfl [.int x1, .int x2] rfl rfl rfl (Nat.le_of_ble_eq_true rfl) dX2_holding_24 (fun q2 => ?_)
        refine g_if_eq 37 dX2_holding_27 rfl (fun _ => ?_) (fun _ => ?_)
        · refine g_iconst (0 : Int32) dX2_holding_37 (by decide) ?_
          refine g_ior dX2_holding_38 ?_
          refine g_topi (fun v3 => ?_)
          refine g_istore_n [(3, .int v3), (0, .ref (xad X (69 + 4 * x0))), (1, .int x1), (2, .int x2), (4, .int x4)] dX2_holding_39 (by decide) rfl ?_
          refine g_iinc 4 [(4, .int ((x4 + (1 : Int32)))), (3, .int v3), (0, .ref (xad X (69 + 4 * x0))), (1, .int x1), (2, .int x2)] dX2_holding_40 rfl (v := x4 + (1 : Int32)) rfl (by decide) rfl ?_
          refine g_goto 5 dX2_holding_43 rfl ?_
          refine g_sub [2, 3, 4, 1, 0] rfl ?_
          exact ih q2.1 v3 ((x4 + (1 : Int32)))
        · refine g_iconst (1 : Int32) dX2_holding_30 (by decide) ?_
          refine g_iload 4 dX2_holding_31 rfl ?_
          refine g_ishl dX2_holding_33 ?_
          refine g_goto 38 dX2_holding_34 rfl ?_
          refine g_ior dX2_holding_38 ?_
          refine g_topi (fun v5 => ?_)
          refine g_istore_n [(3, .int v5), (0, .ref (xad X (69 + 4 * x0))), (1, .int x1), (2, .int x2), (4, .int x4)] dX2_holding_39 (by decide) rfl ?_
          refine g_iinc 4 [(4, .int ((x4 + (1 : Int32)))), (3, .int v5), (0, .ref (xad X (69 + 4 * x0))), (1, .int x1), (2, .int x2)] dX2_holding_40 rfl (v := x4 + (1 : Int32)) rfl (by decide) rfl ?_
          refine g_goto 5 dX2_holding_43 rfl ?_
          refine g_sub [2, 3, 4, 1, 0] rfl ?_
          exact ih q2.1 v5 ((x4 + (1 : Int32)))

set_option maxRecDepth 100000 in
set_option maxHeartbeats 4000000 in
theorem c_X2_holding (σ : Mem) (a0 : Nat) (a1 : Int32) (a2 : Int32) : CT yX2_holding mX2_holding enI (fun ad => [.ref (ad (69 + 4 * a0)), .int a1, .int a2]) σ (X2_holding σ a0 a1 a2) := by
  refine CT.of (by decide) rfl (fun _ => Nat.le_of_ble_eq_true rfl) (fun X => ?_)
  show GS (KM enI X) X mX2_holding σ 0 [(0, .ref (xad X (69 + 4 * a0))), (1, .int a1), (2, .int a2)] [] _
  unfold X2_holding
  refine g_guard (fun ha0 => ?_)
  refine g_iconst (0 : Int32) dX2_holding_0 (by decide) ?_
  refine g_istore_n [(3, .int ((0 : Int32))), (0, .ref (xad X (69 + 4 * a0))), (1, .int a1), (2, .int a2)] dX2_holding_1 (by decide) rfl ?_
  refine g_iconst (0 : Int32) dX2_holding_2 (by decide) ?_
  refine g_istore [(4, .int ((0 : Int32))), (3, .int ((0 : Int32))), (0, .ref (xad X (69 + 4 * a0))), (1, .int a1), (2, .int a2)] dX2_holding_3 (by decide) rfl ?_
  refine g_sub [2, 3, 4, 1, 0] rfl ?_
  refine t_X2_holding_L5 X a0 a1 a2 ha0 _ (fun s8 y3_7 => ?_) FU σ (0 : Int32) (0 : Int32)
  refine g_iload_n 0 dX2_holding_46 rfl ?_
  exact g_iret rfl dX2_holding_47

def X2_chosen_L3 (x0 : Nat) (x1 : Int32) (x2 : Int32) (x3 : Int32) (k46 : Mem → Option (Mem × Int32)) : Nat → Mem → Int32 → Option (Mem × Int32)
  | 0, _, _ => none
  | n + 1, σ, x4 => (if (σ.1 203 x0 0) ≤ x4 then k46 σ else (if ((x3 >>> (x4 &&& 31)) &&& (1 : Int32)) = (1 : Int32) then (ck x4 8 <| spl (σ.2.2 200 x0 x4.toNatClampNeg) 41 none (fun r2 => ((X1_holds σ r2 x1 x2).bind fun q3 => if q3.2 = 0 then (X2_chosen_L3 x0 x1 x2 x3 k46 n q3.1 ((x4 + (1 : Int32)))) else (some (q3.1, x4))))) else (X2_chosen_L3 x0 x1 x2 x3 k46 n σ ((x4 + (1 : Int32))))))
def X2_chosen (σ : Mem) (a0 : Nat) (a1 : Int32) (a2 : Int32) (a3 : Int32) : Option (Mem × Int32) := if a0 < 4 then (X2_chosen_L3 a0 a1 a2 a3 (fun (s6 : Mem) => (some (s6, (-9 : Int32)))) FU σ (0 : Int32)) else none
set_option maxRecDepth 100000 in
set_option maxHeartbeats 4000000 in
theorem t_X2_chosen_L3 (X : GX) (x0 : Nat) (x1 : Int32) (x2 : Int32) (x3 : Int32) (hx0 : x0 < 4) (k46 : Mem → Option (Mem × Int32)) (hk46 : ∀ (σ : Mem), GS (KM enI X) X mX2_chosen σ 46 [] [] (k46 σ)) : ∀ (n : Nat) (σ : Mem) (x4 : Int32), GS (KM enI X) X mX2_chosen σ 3 [(0, .ref (xad X (69 + 4 * x0))), (1, .int x1), (2, .int x2), (3, .int x3), (4, .int x4)] [] (X2_chosen_L3 x0 x1 x2 x3 k46 n σ x4) := by
  intro n
  induction n with
  | zero => intros; exact g_none
  | succ n ih =>
    intro σ x4
    rw [X2_chosen_L3]
    refine g_iload 4 dX2_chosen_3 rfl ?_
    refine g_aload_n 0 dX2_chosen_5 rfl ?_
    refine gf_X2_3 hx0 fl_X2_25 dX2_chosen_6 ?_
    refine g_icmp_ge 46 dX2_chosen_9 rfl (fun _ => ?_) (fun _ => ?_)
    · refine g_sub [] rfl ?_
      exact hk46 σ
    · refine g_iload_n 3 dX2_chosen_12 rfl ?_
      refine g_iload 4 dX2_chosen_13 rfl ?_
      refine g_ishr dX2_chosen_15 ?_
      refine g_iconst (1 : Int32) dX2_chosen_16 (by decide) ?_
      refine g_iand dX2_chosen_17 ?_
      refine g_iconst (1 : Int32) dX2_chosen_18 (by decide) ?_
      refine g_icmp_ne 40 dX2_chosen_19 rfl (fun _ => ?_) (fun _ => ?_)
      · refine g_iinc 4 [(4, .int ((x4 + (1 : Int32)))), (0, .ref (xad X (69 + 4 * x0))), (1, .int x1), (2, .int x2), (3, .int x3)] dX2_chosen_40 rfl (v := x4 + (1 : Int32)) rfl (by decide) rfl ?_
        refine g_goto 3 dX2_chosen_43 rfl ?_
        refine g_sub [1, 2, 3, 4, 0] rfl ?_
        exact ih σ ((x4 + (1 : Int32)))
      · refine g_aload_n 0 dX2_chosen_22 rfl ?_
        refine gf_X2_0 hx0 fl_X2_11 dX2_chosen_23 ?_
        refine g_iload 4 dX2_chosen_26 rfl ?_
        refine g_ald4 (sh_plaws hx0) (no_plaws hx0) dX2_chosen_28 (fun _ => ?_)
        refine g_spl ?_ (fun r2 hr2 => ?_)
        · refine g_iload_n 1 dX2_chosen_29 rfl ?_
          refine g_iload_n 2 dX2_chosen_30 rfl ?_
          exact g_none
        · refine g_iload_n 1 dX2_chosen_29 rfl ?_
          refine g_iload_n 2 dX2_chosen_30 rfl ?_
          refine g_callVI (c_X1_holds σ r2 x1 x2) okX1_holds ⟨by decide, by decide⟩ ml_X2_76 (sh_X1 hr2) (no_X1 hr2) rfl rfl [.int x1, .int x2] rfl rfl rfl (Nat.le_of_ble_eq_true rfl) dX2_chosen_31 (fun q3 => ?_)
          refine g_if_eq 40 dX2_chosen_34 rfl (fun _ => ?_) (fun _ => ?_)
          · refine g_iinc 4 [(4, .int ((x4 + (1 : Int32)))), (0, .ref (xad X (69 + 4 * x0))), (1, .int x1), (2, .int x2), (3, .int x3)] dX2_chosen_40 rfl (v := x4 + (1 : Int32)) rfl (by decide) rfl ?_
            refine g_goto 3 dX2_chosen_43 rfl ?_
            refine g_sub [1, 2, 3, 4, 0] rfl ?_
            exact ih q3.1 ((x4 + (1 : Int32)))
          · refine g_iload 4 dX2_chosen_37 rfl ?_
            exact g_iret rfl dX2_chosen_39

set_option maxRecDepth 100000 in
set_option maxHeartbeats 4000000 in
theorem c_X2_chosen (σ : Mem) (a0 : Nat) (a1 : Int32) (a2 : Int32) (a3 : Int32) : CT yX2_chosen mX2_chosen enI (fun ad => [.ref (ad (69 + 4 * a0)), .int a1, .int a2, .int a3]) σ (X2_chosen σ a0 a1 a2 a3) := by
  refine CT.of (by decide) rfl (fun _ => Nat.le_of_ble_eq_true rfl) (fun X => ?_)
  show GS (KM enI X) X mX2_chosen σ 0 [(0, .ref (xad X (69 + 4 * a0))), (1, .int a1), (2, .int a2), (3, .int a3)] [] _
  unfold X2_chosen
  refine g_guard (fun ha0 => ?_)
  refine g_iconst (0 : Int32) dX2_chosen_0 (by decide) ?_
  refine g_istore [(4, .int ((0 : Int32))), (0, .ref (xad X (69 + 4 * a0))), (1, .int a1), (2, .int a2), (3, .int a3)] dX2_chosen_1 (by decide) rfl ?_
  refine g_sub [1, 2, 3, 4, 0] rfl ?_
  refine t_X2_chosen_L3 X a0 a1 a2 a3 ha0 _ (fun s6 => ?_) FU σ (0 : Int32)
  refine g_bipush (-9 : Int32) dX2_chosen_46 (by decide) ?_
  exact g_iret rfl dX2_chosen_48

