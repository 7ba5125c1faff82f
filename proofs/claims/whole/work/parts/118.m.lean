def X8_isOut_L21 (x1 : Int32) (k60 : Mem → Int32 → Option (Mem × Int32)) : Nat → Mem → Int32 → Int32 → Option (Mem × Int32)
  | 0, _, _, _ => none
  | n + 1, σ, x2, x3 => (if (σ.1 818 0 0) ≤ x3 then k60 σ x2 else (if x2 = 0 then k60 σ x2 else (ck x3 16 <| (X8_rowAt σ x1 x3).bind fun q1 => if (σ.1 817 0 x3.toNatClampNeg) = q1.2 then ((X8_isOut_L21 x1 k60 n q1.1 (1 : Int32) ((x3 + (1 : Int32))))) else (X8_isOut_L21 x1 k60 n q1.1 (0 : Int32) ((x3 + (1 : Int32)))))))
def X8_isOut (σ : Mem) (a1 : Int32) : Option (Mem × Int32) := (ck a1 6 <| if (σ.1 818 0 0) = (σ.1 805 0 a1.toNatClampNeg) then ((X8_isOut_L21 a1 (fun (s7 : Mem) (y2_6 : Int32) => (if y2_6 = 0 ∨ y2_6 = 1 then some (s7, y2_6) else none)) FU σ (1 : Int32) (0 : Int32))) else (X8_isOut_L21 a1 (fun (s5 : Mem) (y2_4 : Int32) => (if y2_4 = 0 ∨ y2_4 = 1 then some (s5, y2_4) else none)) FU σ (0 : Int32) (0 : Int32)))
set_option maxRecDepth 100000 in
set_option maxHeartbeats 4000000 in
theorem t_X8_isOut_L21 (X : GX) (x1 : Int32) (k60 : Mem → Int32 → Option (Mem × Int32)) (hk60 : ∀ (σ : Mem) (y2 : Int32), GS (KM enI X) X mX8_isOut σ 60 [(2, .int y2)] [] (k60 σ y2)) : ∀ (n : Nat) (σ : Mem) (x2 : Int32) (x3 : Int32), GS (KM enI X) X mX8_isOut σ 21 [(0, .ref (xad X (98))), (1, .int x1), (2, .int x2), (3, .int x3)] [] (X8_isOut_L21 x1 k60 n σ x2 x3) := by
  intro n
  induction n with
  | zero => intros; exact g_none
  | succ n ih =>
    intro σ x2 x3
    rw [X8_isOut_L21]
    refine g_iload_n 3 dX8_isOut_21 rfl ?_
    refine g_aload_n 0 dX8_isOut_22 rfl ?_
    refine gf_X8_18 fl_X8_161 dX8_isOut_23 ?_
    refine g_icmp_ge 60 dX8_isOut_26 rfl (fun _ => ?_) (fun _ => ?_)
    · refine g_sub [2] rfl ?_
      exact hk60 σ x2
    · refine g_iload_n 2 dX8_isOut_29 rfl ?_
      refine g_if_eq 60 dX8_isOut_30 rfl (fun _ => ?_) (fun _ => ?_)
      · refine g_sub [2] rfl ?_
        exact hk60 σ x2
      · refine g_aload_n 0 dX8_isOut_33 rfl ?_
        refine gf_X8_17 fl_X8_41 dX8_isOut_34 ?_
        refine g_iload_n 3 dX8_isOut_37 rfl ?_
        refine g_iald sh_108 no_108 dX8_isOut_38 (fun _ => ?_)
        refine g_aload_n 0 dX8_isOut_39 rfl ?_
        refine g_iload_n 1 dX8_isOut_40 rfl ?_
        refine g_iload_n 3 dX8_isOut_41 rfl ?_
        refine g_callVI (c_X8_rowAt σ x1 x3) okX8_rowAt ⟨by decide, by decide⟩ ml_X8_105 sh_98 no_98 rfl rfl [.int x1, .int x3] rfl rfl rfl (Nat.le_of_ble_eq_true rfl) dX8_isOut_42 (fun q1 => ?_)
        refine g_icmp_ne 52 dX8_isOut_45 rfl (fun _ => ?_) (fun _ => ?_)
        · refine g_iconst (0 : Int32) dX8_isOut_52 (by decide) ?_
          refine g_istore_n [(2, .int ((0 : Int32))), (0, .ref (xad X (98))), (1, .int x1), (3, .int x3)] dX8_isOut_53 (by decide) rfl ?_
          refine g_iinc 3 [(3, .int ((x3 + (1 : Int32)))), (2, .int ((0 : Int32))), (0, .ref (xad X (98))), (1, .int x1)] dX8_isOut_54 rfl (v := x3 + (1 : Int32)) rfl (by decide) rfl ?_
          refine g_goto 21 dX8_isOut_57 rfl ?_
          refine g_sub [2, 3, 1, 0] rfl ?_
          exact ih q1.1 (0 : Int32) ((x3 + (1 : Int32)))
        · refine g_iconst (1 : Int32) dX8_isOut_48 (by decide) ?_
          refine g_goto 53 dX8_isOut_49 rfl ?_
          refine g_istore_n [(2, .int ((1 : Int32))), (0, .ref (xad X (98))), (1, .int x1), (3, .int x3)] dX8_isOut_53 (by decide) rfl ?_
          refine g_iinc 3 [(3, .int ((x3 + (1 : Int32)))), (2, .int ((1 : Int32))), (0, .ref (xad X (98))), (1, .int x1)] dX8_isOut_54 rfl (v := x3 + (1 : Int32)) rfl (by decide) rfl ?_
          refine g_goto 21 dX8_isOut_57 rfl ?_
          refine g_sub [2, 3, 1, 0] rfl ?_
          exact ih q1.1 (1 : Int32) ((x3 + (1 : Int32)))

set_option maxRecDepth 100000 in
set_option maxHeartbeats 4000000 in
theorem c_X8_isOut (σ : Mem) (a1 : Int32) : CT yX8_isOut mX8_isOut enI (fun ad => [.ref (ad (98)), .int a1]) σ (X8_isOut σ a1) := by
  refine CT.of (by decide) rfl (fun _ => Nat.le_of_ble_eq_true rfl) (fun X => ?_)
  show GS (KM enI X) X mX8_isOut σ 0 [(0, .ref (xad X (98))), (1, .int a1)] [] _
  unfold X8_isOut
  refine g_aload_n 0 dX8_isOut_0 rfl ?_
  refine gf_X8_18 fl_X8_161 dX8_isOut_1 ?_
  refine g_aload_n 0 dX8_isOut_4 rfl ?_
  refine gf_X8_5 fl_X8_17 dX8_isOut_5 ?_
  refine g_iload_n 1 dX8_isOut_8 rfl ?_
  refine g_iald sh_100 no_100 dX8_isOut_9 (fun _ => ?_)
  refine g_icmp_ne 17 dX8_isOut_10 rfl (fun _ => ?_) (fun _ => ?_)
  · refine g_iconst (0 : Int32) dX8_isOut_17 (by decide) ?_
    refine g_istore_n [(2, .int ((0 : Int32))), (0, .ref (xad X (98))), (1, .int a1)] dX8_isOut_18 (by decide) rfl ?_
    refine g_iconst (0 : Int32) dX8_isOut_19 (by decide) ?_
    refine g_istore_n [(3, .int ((0 : Int32))), (2, .int ((0 : Int32))), (0, .ref (xad X (98))), (1, .int a1)] dX8_isOut_20 (by decide) rfl ?_
    refine g_sub [2, 3, 1, 0] rfl ?_
    refine t_X8_isOut_L21 X a1 _ (fun s5 y2_4 => ?_) FU σ (0 : Int32) (0 : Int32)
    refine g_iload_n 0 dX8_isOut_60 rfl ?_
    exact g_zret rfl dX8_isOut_61
  · refine g_iconst (1 : Int32) dX8_isOut_13 (by decide) ?_
    refine g_goto 18 dX8_isOut_14 rfl ?_
    refine g_istore_n [(2, .int ((1 : Int32))), (0, .ref (xad X (98))), (1, .int a1)] dX8_isOut_18 (by decide) rfl ?_
    refine g_iconst (0 : Int32) dX8_isOut_19 (by decide) ?_
    refine g_istore_n [(3, .int ((0 : Int32))), (2, .int ((1 : Int32))), (0, .ref (xad X (98))), (1, .int a1)] dX8_isOut_20 (by decide) rfl ?_
    refine g_sub [2, 3, 1, 0] rfl ?_
    refine t_X8_isOut_L21 X a1 _ (fun s7 y2_6 => ?_) FU σ (1 : Int32) (0 : Int32)
    refine g_iload_n 0 dX8_isOut_60 rfl ?_
    exact g_zret rfl dX8_isOut_61

def X8_isAsWritten_L19 (k58 : Mem → Int32 → Option (Mem × Int32)) : Nat → Mem → Int32 → Int32 → Option (Mem × Int32)
  | 0, _, _, _ => none
  | n + 1, σ, x1, x2 => (if (σ.1 818 0 0) ≤ x2 then k58 σ x1 else (if x1 = 0 then k58 σ x1 else (ck x2 16 <| ck x2 8 <| if (σ.1 817 0 x2.toNatClampNeg) = (σ.1 815 0 x2.toNatClampNeg) then ((X8_isAsWritten_L19 k58 n σ (1 : Int32) ((x2 + (1 : Int32))))) else (X8_isAsWritten_L19 k58 n σ (0 : Int32) ((x2 + (1 : Int32)))))))
def X8_isAsWritten (σ : Mem) : Option (Mem × Int32) := (if (σ.1 818 0 0) = (σ.1 816 0 0) then ((X8_isAsWritten_L19 (fun (s6 : Mem) (y1_5 : Int32) => (if y1_5 = 0 ∨ y1_5 = 1 then some (s6, y1_5) else none)) FU σ (1 : Int32) (0 : Int32))) else (X8_isAsWritten_L19 (fun (s4 : Mem) (y1_3 : Int32) => (if y1_3 = 0 ∨ y1_3 = 1 then some (s4, y1_3) else none)) FU σ (0 : Int32) (0 : Int32)))
set_option maxRecDepth 100000 in
set_option maxHeartbeats 4000000 in
theorem t_X8_isAsWritten_L19 (X : GX) (k58 : Mem → Int32 → Option (Mem × Int32)) (hk58 : ∀ (σ : Mem) (y1 : Int32), GS (KM enI X) X mX8_isAsWritten σ 58 [(1, .int y1)] [] (k58 σ y1)) : ∀ (n : Nat) (σ : Mem) (x1 : Int32) (x2 : Int32), GS (KM enI X) X mX8_isAsWritten σ 19 [(0, .ref (xad X (98))), (1, .int x1), (2, .int x2)] [] (X8_isAsWritten_L19 k58 n σ x1 x2) := by
  intro n
  induction n with
  | zero => intros; exact g_none
  | succ n ih =>
    intro σ x1 x2
    rw [X8_isAsWritten_L19]
    refine g_iload_n 2 dX8_isAsWritten_19 rfl ?_
    refine g_aload_n 0 dX8_isAsWritten_20 rfl ?_
    refine gf_X8_18 fl_X8_161 dX8_isAsWritten_21 ?_
    refine g_icmp_ge 58 dX8_isAsWritten_24 rfl (fun _ => ?_) (fun _ => ?_)
    · refine g_sub [1] rfl ?_
      exact hk58 σ x1
    · refine g_iload_n 1 dX8_isAsWritten_27 rfl ?_
      refine g_if_eq 58 dX8_isAsWritten_28 rfl (fun _ => ?_) (fun _ => ?_)
      · refine g_sub [1] rfl ?_
        exact hk58 σ x1
      · refine g_aload_n 0 dX8_isAsWritten_31 rfl ?_
        refine gf_X8_17 fl_X8_41 dX8_isAsWritten_32 ?_
        refine g_iload_n 2 dX8_isAsWritten_35 rfl ?_
        refine g_iald sh_108 no_108 dX8_isAsWritten_36 (fun _ => ?_)
        refine g_aload_n 0 dX8_isAsWritten_37 rfl ?_
        refine gf_X8_15 fl_X8_38 dX8_isAsWritten_38 ?_
        refine g_iload_n 2 dX8_isAsWritten_41 rfl ?_
        refine g_iald sh_107 no_107 dX8_isAsWritten_42 (fun _ => ?_)
        refine g_icmp_ne 50 dX8_isAsWritten_43 rfl (fun _ => ?_) (fun _ => ?_)
        · refine g_iconst (0 : Int32) dX8_isAsWritten_50 (by decide) ?_
          refine g_istore_n [(1, .int ((0 : Int32))), (0, .ref (xad X (98))), (2, .int x2)] dX8_isAsWritten_51 (by decide) rfl ?_
          refine g_iinc 2 [(2, .int ((x2 + (1 : Int32)))), (1, .int ((0 : Int32))), (0, .ref (xad X (98)))] dX8_isAsWritten_52 rfl (v := x2 + (1 : Int32)) rfl (by decide) rfl ?_
          refine g_goto 19 dX8_isAsWritten_55 rfl ?_
          refine g_sub [2, 1, 0] rfl ?_
          exact ih σ (0 : Int32) ((x2 + (1 : Int32)))
        · refine g_iconst (1 : Int32) dX8_isAsWritten_46 (by decide) ?_
          refine g_goto 51 dX8_isAsWritten_47 rfl ?_
          refine g_istore_n [(1, .int ((1 : Int32))), (0, .ref (xad X (98))), (2, .int x2)] dX8_isAsWritten_51 (by decide) rfl ?_
          refine g_iinc 2 [(2, .int ((x2 + (1 : Int32)))), (1, .int ((1 : Int32))), (0, .ref (xad X (98)))] dX8_isAsWritten_52 rfl (v := x2 + (1 : Int32)) rfl (by decide) rfl ?_
          refine g_goto 19 dX8_isAsWritten_55 rfl ?_
          refine g_sub [2, 1, 0] rfl ?_
          exact ih σ (1 : Int32) ((x2 + (1 : Int32)))

set_option maxRecDepth 100000 in
set_option maxHeartbeats 4000000 in
theorem c_X8_isAsWritten (σ : Mem) : CT yX8_isAsWritten mX8_isAsWritten enI (fun ad => [.ref (ad (98))]) σ (X8_isAsWritten σ) := by
  refine CT.of (by decide) rfl (fun _ => Nat.le_of_ble_eq_true rfl) (fun X => ?_)
  show GS (KM enI X) X mX8_isAsWritten σ 0 [(0, .ref (xad X (98)))] [] _
  unfold X8_isAsWritten
  refine g_aload_n 0 dX8_isAsWritten_0 rfl ?_
  refine gf_X8_18 fl_X8_161 dX8_isAsWritten_1 ?_
  refine g_aload_n 0 dX8_isAsWritten_4 rfl ?_
  refine gf_X8_16 fl_X8_151 dX8_isAsWritten_5 ?_
  refine g_icmp_ne 15 dX8_isAsWritten_8 rfl (fun _ => ?_) (fun _ => ?_)
  · refine g_iconst (0 : Int32) dX8_isAsWritten_15 (by decide) ?_
    refine g_istore_n [(1, .int ((0 : Int32))), (0, .ref (xad X (98)))] dX8_isAsWritten_16 (by decide) rfl ?_
    refine g_iconst (0 : Int32) dX8_isAsWritten_17 (by decide) ?_
    refine g_istore_n [(2, .int ((0 : Int32))), (1, .int ((0 : Int32))), (0, .ref (xad X (98)))] dX8_isAsWritten_18 (by decide) rfl ?_
    refine g_sub [2, 1, 0] rfl ?_
    refine t_X8_isAsWritten_L19 X _ (fun s4 y1_3 => ?_) FU σ (0 : Int32) (0 : Int32)
    refine g_iload_n 0 dX8_isAsWritten_58 rfl ?_
    exact g_zret rfl dX8_isAsWritten_59
  · refine g_iconst (1 : Int32) dX8_isAsWritten_11 (by decide) ?_
    refine g_goto 16 dX8_isAsWritten_12 rfl ?_
    refine g_istore_n [(1, .int ((1 : Int32))), (0, .ref (xad X (98)))] dX8_isAsWritten_16 (by decide) rfl ?_
    refine g_iconst (0 : Int32) dX8_isAsWritten_17 (by decide) ?_
    refine g_istore_n [(2, .int ((0 : Int32))), (1, .int ((1 : Int32))), (0, .ref (xad X (98)))] dX8_isAsWritten_18 (by decide) rfl ?_
    refine g_sub [2, 1, 0] rfl ?_
    refine t_X8_isAsWritten_L19 X _ (fun s6 y1_5 => ?_) FU σ (1 : Int32) (0 : Int32)
    refine g_iload_n 0 dX8_isAsWritten_58 rfl ?_
    exact g_zret rfl dX8_isAsWritten_59

def X8_lay_ (σ : Mem) (a1 : Int32) (a2 : Int32) : Option (Mem × Unit) := (if a2 = (-9 : Int32) then ((ck (0 : Int32) 8 <| ck (1 : Int32) 8 <| some ((uI ((uI ((uI σ 816 0 0 (1 : Int32))) 815 0 (0 : Int32).toNatClampNeg a1)) 815 0 (1 : Int32).toNatClampNeg a2), ()))) else (ck (0 : Int32) 8 <| ck (1 : Int32) 8 <| some ((uI ((uI ((uI σ 816 0 0 (2 : Int32))) 815 0 (0 : Int32).toNatClampNeg a1)) 815 0 (1 : Int32).toNatClampNeg a2), ())))
set_option maxRecDepth 100000 in
set_option maxHeartbeats 4000000 in
theorem c_X8_lay_ (σ : Mem) (a1 : Int32) (a2 : Int32) : CT yX8_lay_ mX8_lay_ enV (fun ad => [.ref (ad (98)), .int a1, .int a2]) σ (X8_lay_ σ a1 a2) := by
  refine CT.of (by decide) rfl (fun _ => Nat.le_of_ble_eq_true rfl) (fun X => ?_)
  show GS (KM enV X) X mX8_lay_ σ 0 [(0, .ref (xad X (98))), (1, .int a1), (2, .int a2)] [] _
  unfold X8_lay_
  refine g_aload_n 0 dX8_lay__0 rfl ?_
  refine g_iload_n 2 dX8_lay__1 rfl ?_
  refine g_bipush (-9 : Int32) dX8_lay__2 (by decide) ?_
  refine g_icmp_ne 11 dX8_lay__4 rfl (fun _ => ?_) (fun _ => ?_)
  · refine g_iconst (2 : Int32) dX8_lay__11 (by decide) ?_
    refine pf_X8_16 fl_X8_151 dX8_lay__12 ?_
    refine g_aload_n 0 dX8_lay__15 rfl ?_
    refine gf_X8_15 fl_X8_38 dX8_lay__16 ?_
    refine g_iconst (0 : Int32) dX8_lay__19 (by decide) ?_
    refine g_iload_n 1 dX8_lay__20 rfl ?_
    refine g_iast sh_107 no_107 dX8_lay__21 (fun _ => ?_)
    refine g_aload_n 0 dX8_lay__22 rfl ?_
    refine gf_X8_15 fl_X8_38 dX8_lay__23 ?_
    refine g_iconst (1 : Int32) dX8_lay__26 (by decide) ?_
    refine g_iload_n 2 dX8_lay__27 rfl ?_
    refine g_iast sh_107 no_107 dX8_lay__28 (fun _ => ?_)
    exact g_vret rfl dX8_lay__29
  · refine g_iconst (1 : Int32) dX8_lay__7 (by decide) ?_
    refine g_goto 12 dX8_lay__8 rfl ?_
    refine pf_X8_16 fl_X8_151 dX8_lay__12 ?_
    refine g_aload_n 0 dX8_lay__15 rfl ?_
    refine gf_X8_15 fl_X8_38 dX8_lay__16 ?_
    refine g_iconst (0 : Int32) dX8_lay__19 (by decide) ?_
    refine g_iload_n 1 dX8_lay__20 rfl ?_
    refine g_iast sh_107 no_107 dX8_lay__21 (fun _ => ?_)
    refine g_aload_n 0 dX8_lay__22 rfl ?_
    refine gf_X8_15 fl_X8_38 dX8_lay__23 ?_
    refine g_iconst (1 : Int32) dX8_lay__26 (by decide) ?_
    refine g_iload_n 2 dX8_lay__27 rfl ?_
    refine g_iast sh_107 no_107 dX8_lay__28 (fun _ => ?_)
    exact g_vret rfl dX8_lay__29

def X8_othersOf_L4 (x1 : Int32) (k54 : Mem → Int32 → Option (Mem × Int32)) : Nat → Mem → Int32 → Int32 → Option (Mem × Int32)
  | 0, _, _, _ => none
  | n + 1, σ, x2, x3 => (if (σ.1 810 0 0) ≤ x3 then k54 σ x2 else (if x3 = x1 then (lt_ ((x2 + (0 : Int32))) fun (v1 : Int32) => X8_othersOf_L4 x1 k54 n σ v1 ((x3 + (1 : Int32)))) else (ck (((5 : Int32) * x3) + (1 : Int32)) 40 <| ck (((5 : Int32) * x1) + (1 : Int32)) 40 <| if (σ.1 811 0 (((5 : Int32) * x3) + (1 : Int32)).toNatClampNeg) = (σ.1 811 0 (((5 : Int32) * x1) + (1 : Int32)).toNatClampNeg) then ((lt_ ((x2 + (1 : Int32))) fun (v5 : Int32) => X8_othersOf_L4 x1 k54 n σ v5 ((x3 + (1 : Int32))))) else (lt_ ((x2 + (0 : Int32))) fun (v3 : Int32) => X8_othersOf_L4 x1 k54 n σ v3 ((x3 + (1 : Int32)))))))
def X8_othersOf (σ : Mem) (a1 : Int32) : Option (Mem × Int32) := (X8_othersOf_L4 a1 (fun (s8 : Mem) (y2_7 : Int32) => (some (s8, y2_7))) FU σ (0 : Int32) (0 : Int32))
set_option maxRecDepth 100000 in
set_option maxHeartbeats 4000000 in
theorem t_X8_othersOf_L4 (X : GX) (x1 : Int32) (k54 : Mem → Int32 → Option (Mem × Int32)) (hk54 : ∀ (σ : Mem) (y2 : Int32), GS (KM enI X) X mX8_othersOf σ 54 [(2, .int y2)] [] (k54 σ y2)) : ∀ (n : Nat) (σ : Mem) (x2 : Int32) (x3 : Int32), GS (KM enI X) X mX8_othersOf σ 4 [(0, .ref (xad X (98))), (1, .int x1), (2, .int x2), (3, .int x3)] [] (X8_othersOf_L4 x1 k54 n σ x2 x3) := by
  intro n
  induction n with
  | zero => intros; exact g_none
  | succ n ih =>
    intro σ x2 x3
    rw [X8_othersOf_L4]
    refine g_iload_n 3 dX8_othersOf_4 rfl ?_
    refine g_aload_n 0 dX8_othersOf_5 rfl ?_
    refine gf_X8_10 fl_X8_139 dX8_othersOf_6 ?_
    refine g_icmp_ge 54 dX8_othersOf_9 rfl (fun _ => ?_) (fun _ => ?_)
    · refine g_sub [2] rfl ?_
      exact hk54 σ x2
    · refine g_iload_n 2 dX8_othersOf_12 rfl ?_
      refine g_iload_n 3 dX8_othersOf_13 rfl ?_
      refine g_iload_n 1 dX8_othersOf_14 rfl ?_
      refine g_icmp_eq 45 dX8_othersOf_15 rfl (fun _ => ?_) (fun _ => ?_)
      · refine g_iconst (0 : Int32) dX8_othersOf_45 (by decide) ?_
        refine g_iadd dX8_othersOf_46 ?_
        refine g_topi (fun v1 => ?_)
        refine g_istore_n [(2, .int v1), (0, .ref (xad X (98))), (1, .int x1), (3, .int x3)] dX8_othersOf_47 (by decide) rfl ?_
        refine g_iinc 3 [(3, .int ((x3 + (1 : Int32)))), (2, .int v1), (0, .ref (xad X (98))), (1, .int x1)] dX8_othersOf_48 rfl (v := x3 + (1 : Int32)) rfl (by decide) rfl ?_
        refine g_goto 4 dX8_othersOf_51 rfl ?_
        refine g_sub [2, 3, 1, 0] rfl ?_
        exact ih σ v1 ((x3 + (1 : Int32)))
      · refine g_aload_n 0 dX8_othersOf_18 rfl ?_
        refine gf_X8_11 fl_X8_32 dX8_othersOf_19 ?_
        refine g_iconst (5 : Int32) dX8_othersOf_22 (by decide) ?_
        refine g_iload_n 3 dX8_othersOf_23 rfl ?_
        refine g_imul dX8_othersOf_24 ?_
        refine g_iconst (1 : Int32) dX8_othersOf_25 (by decide) ?_
        refine g_iadd dX8_othersOf_26 ?_
        refine g_iald sh_105 no_105 dX8_othersOf_27 (fun _ => ?_)
        refine g_aload_n 0 dX8_othersOf_28 rfl ?_
        refine gf_X8_11 fl_X8_32 dX8_othersOf_29 ?_
        refine g_iconst (5 : Int32) dX8_othersOf_32 (by decide) ?_
        refine g_iload_n 1 dX8_othersOf_33 rfl ?_
        refine g_imul dX8_othersOf_34 ?_
        refine g_iconst (1 : Int32) dX8_othersOf_35 (by decide) ?_
        refine g_iadd dX8_othersOf_36 ?_
        refine g_iald sh_105 no_105 dX8_othersOf_37 (fun _ => ?_)
        refine g_icmp_ne 45 dX8_othersOf_38 rfl (fun _ => ?_) (fun _ => ?_)
        · refine g_iconst (0 : Int32) dX8_othersOf_45 (by decide) ?_
          refine g_iadd dX8_othersOf_46 ?_
          refine g_topi (fun v3 => ?_)
          refine g_istore_n [(2, .int v3), (0, .ref (xad X (98))), (1, .int x1), (3, .int x3)] dX8_othersOf_47 (by decide) rfl ?_
          refine g_iinc 3 [(3, .int ((x3 + (1 : Int32)))), (2, .int v3), (0, .ref (xad X (98))), (1, .int x1)] dX8_othersOf_48 rfl (v := x3 + (1 : Int32)) rfl (by decide) rfl ?_
          refine g_goto 4 dX8_othersOf_51 rfl ?_
          refine g_sub [2, 3, 1, 0] rfl ?_
          exact ih σ v3 ((x3 + (1 : Int32)))
        · refine g_iconst (1 : Int32) dX8_othersOf_41 (by decide) ?_
          refine g_goto 46 dX8_othersOf_42 rfl ?_
          refine g_iadd dX8_othersOf_46 ?_
          refine g_topi (fun v5 => ?_)
          refine g_istore_n [(2, .int v5), (0, .ref (xad X (98))), (1, .int x1), (3, .int x3)] dX8_othersOf_47 (by decide) rfl ?_
          refine g_iinc 3 [(3, .int ((x3 + (1 : Int32)))), (2, .int v5), (0, .ref (xad X (98))), (1, .int x1)] dX8_othersOf_48 rfl (v := x3 + (1 : Int32)) rfl (by decide) rfl ?_
          refine g_goto 4 dX8_othersOf_51 rfl ?_
          refine g_sub [2, 3, 1, 0] rfl ?_
          exact ih σ v5 ((x3 + (1 : Int32)))

set_option maxRecDepth 100000 in
set_option maxHeartbeats 4000000 in
theorem c_X8_othersOf (σ : Mem) (a1 : Int32) : CT yX8_othersOf mX8_othersOf enI (fun ad => [.ref (ad (98)), .int a1]) σ (X8_othersOf σ a1) := by
  refine CT.of (by decide) rfl (fun _ => Nat.le_of_ble_eq_true rfl) (fun X => ?_)
  show GS (KM enI X) X mX8_othersOf σ 0 [(0, .ref (xad X (98))), (1, .int a1)] [] _
  unfold X8_othersOf
  refine g_iconst (0 : Int32) dX8_othersOf_0 (by decide) ?_
  refine g_istore_n [(2, .int ((0 : Int32))), (0, .ref (xad X (98))), (1, .int a1)] dX8_othersOf_1 (by decide) rfl ?_
  refine g_iconst (0 : Int32) dX8_othersOf_2 (by decide) ?_
  refine g_istore_n [(3, .int ((0 : Int32))), (2, .int ((0 : Int32))), (0, .ref (xad X (98))), (1, .int a1)] dX8_othersOf_3 (by decide) rfl ?_
  refine g_sub [2, 3, 1, 0] rfl ?_
  refine t_X8_othersOf_L4 X a1 _ (fun s8 y2_7 => ?_) FU σ (0 : Int32) (0 : Int32)
  refine g_iload_n 0 dX8_othersOf_54 rfl ?_
  exact g_iret rfl dX8_othersOf_55

def X8_isA (σ : Mem) (a1 : Int32) (a2 : Int32) : Option (Mem × Int32) := (ck ((5 : Int32) * a1) 40 <| lt_ ((σ.1 811 0 ((5 : Int32) * a1).toNatClampNeg)) fun (v1 : Int32) => if v1 = a2 then ((if (1 : Int32) = 0 ∨ (1 : Int32) = 1 then some (σ, (1 : Int32)) else none)) else (if a2 = (2 : Int32) then (if v1 = (5 : Int32) then ((if (1 : Int32) = 0 ∨ (1 : Int32) = 1 then some (σ, (1 : Int32)) else none)) else (if a2 = (3 : Int32) then (if v1 = (4 : Int32) then ((if (1 : Int32) = 0 ∨ (1 : Int32) = 1 then some (σ, (1 : Int32)) else none)) else (if (0 : Int32) = 0 ∨ (0 : Int32) = 1 then some (σ, (0 : Int32)) else none)) else (if (0 : Int32) = 0 ∨ (0 : Int32) = 1 then some (σ, (0 : Int32)) else none))) else (if a2 = (3 : Int32) then (if v1 = (4 : Int32) then ((if (1 : Int32) = 0 ∨ (1 : Int32) = 1 then some (σ, (1 : Int32)) else none)) else (if (0 : Int32) = 0 ∨ (0 : Int32) = 1 then some (σ, (0 : Int32)) else none)) else (if (0 : Int32) = 0 ∨ (0 : Int32) = 1 then some (σ, (0 : Int32)) else none))))
set_option maxRecDepth 100000 in
set_option maxHeartbeats 4000000 in
theorem c_X8_isA (σ : Mem) (a1 : Int32) (a2 : Int32) : CT yX8_isA mX8_isA enI (fun ad => [.ref (ad (98)), .int a1, .int a2]) σ (X8_isA σ a1 a2) := by
  refine CT.of (by decide) rfl (fun _ => Nat.le_of_ble_eq_true rfl) (fun X => ?_)
  show GS (KM enI X) X mX8_isA σ 0 [(0, .ref (xad X (98))), (1, .int a1), (2, .int a2)] [] _
  unfold X8_isA
  refine g_aload_n 0 dX8_isA_0 rfl ?_
  refine gf_X8_11 fl_X8_32 dX8_isA_1 ?_
  refine g_iconst (5 : Int32) dX8_isA_4 (by decide) ?_
  refine g_iload_n 1 dX8_isA_5 rfl ?_
  refine g_imul dX8_isA_6 ?_
  refine g_iald sh_105 no_105 dX8_isA_7 (fun _ => ?_)
  refine g_topi (fun v1 => ?_)
  refine g_istore_n [(3, .int v1), (0, .ref (xad X (98))), (1, .int a1), (2, .int a2)] dX8_isA_8 (by decide) rfl ?_
  refine g_iload_n 0 dX8_isA_9 rfl ?_
  refine g_iload_n 3 dX8_isA_10 rfl ?_
  refine g_icmp_eq 34 dX8_isA_11 rfl (fun _ => ?_) (fun _ => ?_)
  · refine g_iconst (1 : Int32) dX8_isA_34 (by decide) ?_
    refine g_goto 39 dX8_isA_35 rfl ?_
    exact g_zret rfl dX8_isA_39
  · refine g_iload_n 3 dX8_isA_14 rfl ?_
    refine g_iconst (2 : Int32) dX8_isA_15 (by decide) ?_
    refine g_icmp_ne 24 dX8_isA_16 rfl (fun _ => ?_) (fun _ => ?_)
    · refine g_iload_n 3 dX8_isA_24 rfl ?_
      refine g_iconst (3 : Int32) dX8_isA_25 (by decide) ?_
      refine g_icmp_ne 38 dX8_isA_26 rfl (fun _ => ?_) (fun _ => ?_)
      · refine g_iconst (0 : Int32) dX8_isA_38 (by decide) ?_
        exact g_zret rfl dX8_isA_39
      · refine g_iload_n 0 dX8_isA_29 rfl ?_
        refine g_iconst (4 : Int32) dX8_isA_30 (by decide) ?_
        refine g_icmp_ne 38 dX8_isA_31 rfl (fun _ => ?_) (fun _ => ?_)
        · refine g_iconst (0 : Int32) dX8_isA_38 (by decide) ?_
          exact g_zret rfl dX8_isA_39
        · refine g_iconst (1 : Int32) dX8_isA_34 (by decide) ?_
          refine g_goto 39 dX8_isA_35 rfl ?_
          exact g_zret rfl dX8_isA_39
    · refine g_iload_n 0 dX8_isA_19 rfl ?_
      refine g_iconst (5 : Int32) dX8_isA_20 (by decide) ?_
      refine g_icmp_eq 34 dX8_isA_21 rfl (fun _ => ?_) (fun _ => ?_)
      · refine g_iconst (1 : Int32) dX8_isA_34 (by decide) ?_
        refine g_goto 39 dX8_isA_35 rfl ?_
        exact g_zret rfl dX8_isA_39
      · refine g_iload_n 3 dX8_isA_24 rfl ?_
        refine g_iconst (3 : Int32) dX8_isA_25 (by decide) ?_
        refine g_icmp_ne 38 dX8_isA_26 rfl (fun _ => ?_) (fun _ => ?_)
        · refine g_iconst (0 : Int32) dX8_isA_38 (by decide) ?_
          exact g_zret rfl dX8_isA_39
        · refine g_iload_n 0 dX8_isA_29 rfl ?_
          refine g_iconst (4 : Int32) dX8_isA_30 (by decide) ?_
          refine g_icmp_ne 38 dX8_isA_31 rfl (fun _ => ?_) (fun _ => ?_)
          · refine g_iconst (0 : Int32) dX8_isA_38 (by decide) ?_
            exact g_zret rfl dX8_isA_39
          · refine g_iconst (1 : Int32) dX8_isA_34 (by decide) ?_
            refine g_goto 39 dX8_isA_35 rfl ?_
            exact g_zret rfl dX8_isA_39

def X8_marked (σ : Mem) (a1 : Int32) (a2 : Int32) : Option (Mem × Int32) := (lt_ (((5 : Int32) * a1)) fun (v1 : Int32) => if a2 = (1 : Int32) then (ck (v1 + (1 : Int32)) 40 <| ck (σ.1 811 0 (v1 + (1 : Int32)).toNatClampNeg) 6 <| some (σ, (σ.1 827 0 (σ.1 811 0 (v1 + (1 : Int32)).toNatClampNeg).toNatClampNeg))) else if a2 = (2 : Int32) then ((X8_othersOf σ a1).bind fun q3 => some (q3.1, q3.2)) else if a2 = (3 : Int32) then (ck (v1 + (1 : Int32)) 40 <| ck (v1 + (3 : Int32)) 40 <| (X8_lay_ σ ((σ.1 811 0 (v1 + (1 : Int32)).toNatClampNeg)) ((σ.1 811 0 (v1 + (3 : Int32)).toNatClampNeg))).bind fun q5 => (X8_onSet q5.1).bind fun q6 => (X8_lawAt q6.1 (0 : Int32) q6.2).bind fun q7 => if q7.2 = a1 then ((some (q7.1, (1 : Int32)))) else (some (q7.1, (0 : Int32)))) else if a2 = (4 : Int32) then (ck (v1 + (1 : Int32)) 40 <| (X8_lay_ σ ((σ.1 811 0 (v1 + (1 : Int32)).toNatClampNeg)) (-9 : Int32)).bind fun q9 => (X8_onSet q9.1).bind fun q10 => (X8_lawAt q10.1 (0 : Int32) q10.2).bind fun q11 => if q11.2 = a1 then ((some (q11.1, (1 : Int32)))) else (some (q11.1, (0 : Int32)))) else (ck (v1 + (2 : Int32)) 40 <| (X8_lay_ σ ((σ.1 811 0 (v1 + (2 : Int32)).toNatClampNeg)) (-9 : Int32)).bind fun q13 => (X8_onSet q13.1).bind fun q14 => (X8_setBy q14.1 q14.2).bind fun q15 => (X8_isAsWritten q15.1).bind fun q16 => if q16.2 = 0 then (some (q16.1, (0 : Int32))) else ((some (q16.1, (1 : Int32))))))
set_option maxRecDepth 100000 in
set_option maxHeartbeats 4000000 in
theorem c_X8_marked (σ : Mem) (a1 : Int32) (a2 : Int32) : CT yX8_marked mX8_marked enI (fun ad => [.ref (ad (98)), .int a1, .int a2]) σ (X8_marked σ a1 a2) := by
  refine CT.of (by decide) rfl (fun _ => Nat.le_of_ble_eq_true rfl) (fun X => ?_)
  show GS (KM enI X) X mX8_marked σ 0 [(0, .ref (xad X (98))), (1, .int a1), (2, .int a2)] [] _
  unfold X8_marked
  refine g_iconst (5 : Int32) dX8_marked_0 (by decide) ?_
  refine g_iload_n 1 dX8_marked_1 rfl ?_
  refine g_imul dX8_marked_2 ?_
  refine g_topi (fun v1 => ?_)
  refine g_istore_n [(3, .int v1), (0, .ref (xad X (98))), (1, .int a1), (2, .int a2)] dX8_marked_3 (by decide) rfl ?_
  refine g_iload_n 3 dX8_marked_4 rfl ?_
  refine g_eqc (1 : Int32) ?_ (fun e2 => ?_)
  · refine g_tableIn 36 dX8_marked_5 (by decide) (by decide) rfl rfl ?_
    refine g_aload_n 1 dX8_marked_36 rfl ?_
    refine gf_X8_27 fl_X8_64 dX8_marked_37 ?_
    refine g_aload_n 1 dX8_marked_40 rfl ?_
    refine gf_X8_11 fl_X8_32 dX8_marked_41 ?_
    refine g_iload_n 0 dX8_marked_44 rfl ?_
    refine g_iconst (1 : Int32) dX8_marked_45 (by decide) ?_
    refine g_iadd dX8_marked_46 ?_
    refine g_iald sh_105 no_105 dX8_marked_47 (fun _ => ?_)
    refine g_iald sh_115 no_115 dX8_marked_48 (fun _ => ?_)
    exact g_iret rfl dX8_marked_49
  · refine g_eqc (2 : Int32) ?_ (fun e4 => ?_)
    · refine g_tableIn 50 dX8_marked_5 (by decide) (by decide) rfl rfl ?_
      refine g_aload_n 1 dX8_marked_50 rfl ?_
      refine g_iload_n 2 dX8_marked_51 rfl ?_
      refine g_callVI (c_X8_othersOf σ a1) okX8_othersOf ⟨by decide, by decide⟩ ml_X8_177 sh_98 no_98 rfl rfl [.int a1] rfl rfl rfl (Nat.le_of_ble_eq_true rfl) dX8_marked_52 (fun q3 => ?_)
      exact g_iret rfl dX8_marked_55
    · refine g_eqc (3 : Int32) ?_ (fun e8 => ?_)
      · refine g_tableIn 56 dX8_marked_5 (by decide) (by decide) rfl rfl ?_
        refine g_aload_n 1 dX8_marked_56 rfl ?_
        refine g_aload_n 1 dX8_marked_57 rfl ?_
        refine gf_X8_11 fl_X8_32 dX8_marked_58 ?_
        refine g_iload_n 0 dX8_marked_61 rfl ?_
        refine g_iconst (1 : Int32) dX8_marked_62 (by decide) ?_
        refine g_iadd dX8_marked_63 ?_
        refine g_iald sh_105 no_105 dX8_marked_64 (fun _ => ?_)
        refine g_aload_n 1 dX8_marked_65 rfl ?_
        refine gf_X8_11 fl_X8_32 dX8_marked_66 ?_
        refine g_iload_n 0 dX8_marked_69 rfl ?_
        refine g_iconst (3 : Int32) dX8_marked_70 (by decide) ?_
        refine g_iadd dX8_marked_71 ?_
        refine g_iald sh_105 no_105 dX8_marked_72 (fun _ => ?_)
        refine g_callVV (c_X8_lay_ σ ((σ.1 811 0 (v1 + (1 : Int32)).toNatClampNeg)) ((σ.1 811 0 (v1 + (3 : Int32)).toNatClampNeg))) okX8_lay_ ⟨by decide, by decide⟩ ml_X8_180 sh_98 no_98 rfl rfl [.int ((σ.1 811 0 (v1 + (1 : Int32)).toNatClampNeg)), .int ((σ.1 811 0 (v1 + (3 : Int32)).toNatClampNeg))] rfl rfl rfl (Nat.le_of_ble_eq_true rfl) dX8_marked_73 (fun q5 => ?_)
        refine g_aload_n 1 dX8_marked_76 rfl ?_
        refine g_iconst (0 : Int32) dX8_marked_77 (by decide) ?_
        refine g_aload_n 1 dX8_marked_78 rfl ?_
        refine g_callVI (c_X8_onSet q5.1) okX8_onSet ⟨by decide, by decide⟩ ml_X8_184 sh_98 no_98 rfl rfl [] rfl rfl rfl (Nat.le_of_ble_eq_true rfl) dX8_marked_79 (fun q6 => ?_)
        refine g_callVI (c_X8_lawAt q6.1 (0 : Int32) q6.2) okX8_lawAt ⟨by decide, by decide⟩ ml_X8_164 sh_98 no_98 rfl rfl [.int ((0 : Int32)), .int (q6.2)] rfl rfl rfl (Nat.le_of_ble_eq_true rfl) dX8_marked_82 (fun q7 => ?_)
        refine g_iload_n 2 dX8_marked_85 rfl ?_
        refine g_icmp_ne 93 dX8_marked_86 rfl (fun _ => ?_) (fun _ => ?_)
        · refine g_iconst (0 : Int32) dX8_marked_93 (by decide) ?_
          exact g_iret rfl dX8_marked_94
        · refine g_iconst (1 : Int32) dX8_marked_89 (by decide) ?_
          refine g_goto 94 dX8_marked_90 rfl ?_
          exact g_iret rfl dX8_marked_94
      · refine g_eqc (4 : Int32) ?_ (fun e12 => ?_)
        · refine g_tableIn 95 dX8_marked_5 (by decide) (by decide) rfl rfl ?_
          refine g_aload_n 1 dX8_marked_95 rfl ?_
          refine g_aload_n 1 dX8_marked_96 rfl ?_
          refine gf_X8_11 fl_X8_32 dX8_marked_97 ?_
          refine g_iload_n 0 dX8_marked_100 rfl ?_
          refine g_iconst (1 : Int32) dX8_marked_101 (by decide) ?_
          refine g_iadd dX8_marked_102 ?_
          refine g_iald sh_105 no_105 dX8_marked_103 (fun _ => ?_)
          refine g_bipush (-9 : Int32) dX8_marked_104 (by decide) ?_
          refine g_callVV (c_X8_lay_ σ ((σ.1 811 0 (v1 + (1 : Int32)).toNatClampNeg)) (-9 : Int32)) okX8_lay_ ⟨by decide, by decide⟩ ml_X8_180 sh_98 no_98 rfl rfl [.int ((σ.1 811 0 (v1 + (1 : Int32)).toNatClampNeg)), .int ((-9 : Int32))] rfl rfl rfl (Nat.le_of_ble_eq_true rfl) dX8_marked_106 (fun q9 => ?_)
          refine g_aload_n 1 dX8_marked_109 rfl ?_
          refine g_iconst (0 : Int32) dX8_marked_110 (by decide) ?_
          refine g_aload_n 1 dX8_marked_111 rfl ?_
          refine g_callVI (c_X8_onSet q9.1) okX8_onSet ⟨by decide, by decide⟩ ml_X8_184 sh_98 no_98 rfl rfl [] rfl rfl rfl (Nat.le_of_ble_eq_true rfl) dX8_marked_112 (fun q10 => ?_)
          refine g_callVI (c_X8_lawAt q10.1 (0 : Int32) q10.2) okX8_lawAt ⟨by decide, by decide⟩ ml_X8_164 sh_98 no_98 rfl rfl [.int ((0 : Int32)), .int (q10.2)] rfl rfl rfl (Nat.le_of_ble_eq_true rfl) dX8_marked_115 (fun q11 => ?_)
          refine g_iload_n 2 dX8_marked_118 rfl ?_
          refine g_icmp_ne 126 dX8_marked_119 rfl (fun _ => ?_) (fun _ => ?_)
          · refine g_iconst (0 : Int32) dX8_marked_126 (by decide) ?_
            exact g_iret rfl dX8_marked_127
          · refine g_iconst (1 : Int32) dX8_marked_122 (by decide) ?_
            refine g_goto 127 dX8_marked_123 rfl ?_
            exact g_iret rfl dX8_marked_127
        · refine g_tableOut 128 dX8_marked_5 (by have := lv_neT e2 (a := 1) (by decide); have := lv_neT e4 (a := 2) (by decide); have := lv_neT e8 (a := 3) (by decide); have := lv_neT e12 (a := 4) (by decide); omega) rfl ?_
          refine g_aload_n 1 dX8_marked_128 rfl ?_
          refine g_aload_n 1 dX8_marked_129 rfl ?_
          refine gf_X8_11 fl_X8_32 dX8_marked_130 ?_
          refine g_iload_n 0 dX8_marked_133 rfl ?_
          refine g_iconst (2 : Int32) dX8_marked_134 (by decide) ?_
          refine g_iadd dX8_marked_135 ?_
          refine g_iald sh_105 no_105 dX8_marked_136 (fun _ => ?_)
          refine g_bipush (-9 : Int32) dX8_marked_137 (by decide) ?_
          refine g_callVV (c_X8_lay_ σ ((σ.1 811 0 (v1 + (2 : Int32)).toNatClampNeg)) (-9 : Int32)) okX8_lay_ ⟨by decide, by decide⟩ ml_X8_180 sh_98 no_98 rfl rfl [.int ((σ.1 811 0 (v1 + (2 : Int32)).toNatClampNeg)), .int ((-9 : Int32))] rfl rfl rfl (Nat.le_of_ble_eq_true rfl) dX8_marked_139 (fun q13 => ?_)
          refine g_aload_n 1 dX8_marked_142 rfl ?_
          refine g_aload_n 1 dX8_marked_143 rfl ?_
          refine g_callVI (c_X8_onSet q13.1) okX8_onSet ⟨by decide, by decide⟩ ml_X8_184 sh_98 no_98 rfl rfl [] rfl rfl rfl (Nat.le_of_ble_eq_true rfl) dX8_marked_144 (fun q14 => ?_)
          refine g_callVV (c_X8_setBy q14.1 q14.2) okX8_setBy ⟨by decide, by decide⟩ ml_X8_188 sh_98 no_98 rfl rfl [.int (q14.2)] rfl rfl rfl (Nat.le_of_ble_eq_true rfl) dX8_marked_147 (fun q15 => ?_)
          refine g_aload_n 1 dX8_marked_150 rfl ?_
          refine g_callVI (c_X8_isAsWritten q15.1) okX8_isAsWritten ⟨by decide, by decide⟩ ml_X8_191 sh_98 no_98 rfl rfl [] rfl rfl rfl (Nat.le_of_ble_eq_true rfl) dX8_marked_151 (fun q16 => ?_)
          refine g_if_eq 161 dX8_marked_154 rfl (fun _ => ?_) (fun _ => ?_)
          · refine g_iconst (0 : Int32) dX8_marked_161 (by decide) ?_
            exact g_iret rfl dX8_marked_162
          · refine g_iconst (1 : Int32) dX8_marked_157 (by decide) ?_
            refine g_goto 162 dX8_marked_158 rfl ?_
            exact g_iret rfl dX8_marked_162

def X8_mark (σ : Mem) (a1 : Int32) (a2 : Int32) : Option (Mem × Int32) := ((X8_isLaw σ a1).bind fun q1 => if q1.2 = 0 then (some (q1.1, (-1 : Int32))) else ((X8_in q1.1 a2 (1 : Int32) (5 : Int32)).bind fun q2 => if q2.2 = 0 then (some (q2.1, (-1 : Int32))) else ((X8_isA q2.1 a1 a2).bind fun q3 => if q3.2 = 0 then ((X8_meet q3.1 (3 : Int32)).bind fun q4 => some (q4.1, q4.2)) else ((X8_marked q3.1 a1 a2).bind fun q5 => (some (q5.1, q5.2))))))
set_option maxRecDepth 100000 in
set_option maxHeartbeats 4000000 in
theorem c_X8_mark (σ : Mem) (a1 : Int32) (a2 : Int32) : CT yX8_mark mX8_mark enI (fun ad => [.ref (ad (98)), .int a1, .int a2]) σ (X8_mark σ a1 a2) := by
  refine CT.of (by decide) rfl (fun _ => Nat.le_of_ble_eq_true rfl) (fun X => ?_)
  show GS (KM enI X) X mX8_mark σ 0 [(0, .ref (xad X (98))), (1, .int a1), (2, .int a2)] [] _
  unfold X8_mark
  refine g_aload_n 0 dX8_mark_0 rfl ?_
  refine g_iload_n 1 dX8_mark_1 rfl ?_
  refine g_callVI (c_X8_isLaw σ a1) okX8_isLaw ⟨by decide, by decide⟩ ml_X8_145 sh_98 no_98 rfl rfl [.int a1] rfl rfl rfl (Nat.le_of_ble_eq_true rfl) dX8_mark_2 (fun q1 => ?_)
  refine g_if_eq 17 dX8_mark_5 rfl (fun _ => ?_) (fun _ => ?_)
  · refine g_iconst (-1 : Int32) dX8_mark_17 (by decide) ?_
    exact g_iret rfl dX8_mark_18
  · refine g_iload_n 2 dX8_mark_8 rfl ?_
    refine g_iconst (1 : Int32) dX8_mark_9 (by decide) ?_
    refine g_iconst (5 : Int32) dX8_mark_10 (by decide) ?_
    refine g_callSI (c_X8_in q1.1 a2 (1 : Int32) (5 : Int32)) okX8_in ⟨by decide, by decide⟩ ml_X8_83 rfl rfl (Nat.le_of_ble_eq_true rfl) dX8_mark_11 (fun q2 => ?_)
    refine g_if_ne 19 dX8_mark_14 rfl (fun _ => ?_) (fun _ => ?_)
    · refine g_aload_n 0 dX8_mark_19 rfl ?_
      refine g_iload_n 1 dX8_mark_20 rfl ?_
      refine g_iload_n 2 dX8_mark_21 rfl ?_
      refine g_callVI (c_X8_isA q2.1 a1 a2) okX8_isA ⟨by decide, by decide⟩ ml_X8_195 sh_98 no_98 rfl rfl [.int a1, .int a2] rfl rfl rfl (Nat.le_of_ble_eq_true rfl) dX8_mark_22 (fun q3 => ?_)
      refine g_if_eq 37 dX8_mark_25 rfl (fun _ => ?_) (fun _ => ?_)
      · refine g_aload_n 0 dX8_mark_37 rfl ?_
        refine g_iconst (3 : Int32) dX8_mark_38 (by decide) ?_
        refine g_callVI (c_X8_meet q3.1 (3 : Int32)) okX8_meet ⟨by decide, by decide⟩ ml_X8_91 sh_98 no_98 rfl rfl [.int ((3 : Int32))] rfl rfl rfl (Nat.le_of_ble_eq_true rfl) dX8_mark_39 (fun q4 => ?_)
        exact g_iret rfl dX8_mark_42
      · refine g_aload_n 0 dX8_mark_28 rfl ?_
        refine g_iload_n 1 dX8_mark_29 rfl ?_
        refine g_iload_n 2 dX8_mark_30 rfl ?_
        refine g_callVI (c_X8_marked q3.1 a1 a2) okX8_marked ⟨by decide, by decide⟩ ml_X8_198 sh_98 no_98 rfl rfl [.int a1, .int a2] rfl rfl rfl (Nat.le_of_ble_eq_true rfl) dX8_mark_31 (fun q5 => ?_)
        refine g_goto 42 dX8_mark_34 rfl ?_
        exact g_iret rfl dX8_mark_42
    · refine g_iconst (-1 : Int32) dX8_mark_17 (by decide) ?_
      exact g_iret rfl dX8_mark_18

def X8_hush (σ : Mem) (a1 : Int32) (a2 : Int32) : Option (Mem × Int32) := ((X8_isLaw σ a1).bind fun q1 => if q1.2 = 0 then (some (q1.1, (-1 : Int32))) else ((X8_in q1.1 a2 (0 : Int32) (1 : Int32)).bind fun q2 => if q2.2 = 0 then (some (q2.1, (-1 : Int32))) else (ck (((5 : Int32) * a1) + (4 : Int32)) 40 <| lt_ ((q2.1.1 811 0 (((5 : Int32) * a1) + (4 : Int32)).toNatClampNeg)) fun (v3 : Int32) => ck (((5 : Int32) * a1) + (4 : Int32)) 40 <| some ((uI q2.1 811 0 (((5 : Int32) * a1) + (4 : Int32)).toNatClampNeg a2), v3))))
set_option maxRecDepth 100000 in
set_option maxHeartbeats 4000000 in
theorem c_X8_hush (σ : Mem) (a1 : Int32) (a2 : Int32) : CT yX8_hush mX8_hush enI (fun ad => [.ref (ad (98)), .int a1, .int a2]) σ (X8_hush σ a1 a2) := by
  refine CT.of (by decide) rfl (fun _ => Nat.le_of_ble_eq_true rfl) (fun X => ?_)
  show GS (KM enI X) X mX8_hush σ 0 [(0, .ref (xad X (98))), (1, .int a1), (2, .int a2)] [] _
  unfold X8_hush
  refine g_aload_n 0 dX8_hush_0 rfl ?_
  refine g_iload_n 1 dX8_hush_1 rfl ?_
  refine g_callVI (c_X8_isLaw σ a1) okX8_isLaw ⟨by decide, by decide⟩ ml_X8_145 sh_98 no_98 rfl rfl [.int a1] rfl rfl rfl (Nat.le_of_ble_eq_true rfl) dX8_hush_2 (fun q1 => ?_)
  refine g_if_eq 17 dX8_hush_5 rfl (fun _ => ?_) (fun _ => ?_)
  · refine g_iconst (-1 : Int32) dX8_hush_17 (by decide) ?_
    exact g_iret rfl dX8_hush_18
  · refine g_iload_n 2 dX8_hush_8 rfl ?_
    refine g_iconst (0 : Int32) dX8_hush_9 (by decide) ?_
    refine g_iconst (1 : Int32) dX8_hush_10 (by decide) ?_
    refine g_callSI (c_X8_in q1.1 a2 (0 : Int32) (1 : Int32)) okX8_in ⟨by decide, by decide⟩ ml_X8_83 rfl rfl (Nat.le_of_ble_eq_true rfl) dX8_hush_11 (fun q2 => ?_)
    refine g_if_ne 19 dX8_hush_14 rfl (fun _ => ?_) (fun _ => ?_)
    · refine g_aload_n 0 dX8_hush_19 rfl ?_
      refine gf_X8_11 fl_X8_32 dX8_hush_20 ?_
      refine g_iconst (5 : Int32) dX8_hush_23 (by decide) ?_
      refine g_iload_n 1 dX8_hush_24 rfl ?_
      refine g_imul dX8_hush_25 ?_
      refine g_iconst (4 : Int32) dX8_hush_26 (by decide) ?_
      refine g_iadd dX8_hush_27 ?_
      refine g_iald sh_105 no_105 dX8_hush_28 (fun _ => ?_)
      refine g_topi (fun v3 => ?_)
      refine g_istore_n [(3, .int v3), (0, .ref (xad X (98))), (1, .int a1), (2, .int a2)] dX8_hush_29 (by decide) rfl ?_
      refine g_aload_n 1 dX8_hush_30 rfl ?_
      refine gf_X8_11 fl_X8_32 dX8_hush_31 ?_
      refine g_iconst (5 : Int32) dX8_hush_34 (by decide) ?_
      refine g_iload_n 2 dX8_hush_35 rfl ?_
      refine g_imul dX8_hush_36 ?_
      refine g_iconst (4 : Int32) dX8_hush_37 (by decide) ?_
      refine g_iadd dX8_hush_38 ?_
      refine g_iload_n 3 dX8_hush_39 rfl ?_
      refine g_iast sh_105 no_105 dX8_hush_40 (fun _ => ?_)
      refine g_iload_n 0 dX8_hush_41 rfl ?_
      exact g_iret rfl dX8_hush_42
    · refine g_iconst (-1 : Int32) dX8_hush_17 (by decide) ?_
      exact g_iret rfl dX8_hush_18

def X8_swap_L20 (x1 : Int32) (x2 : Int32) (k75 : Mem → Option (Mem × Int32)) : Nat → Mem → Int32 → Option (Mem × Int32)
  | 0, _, _ => none
  | n + 1, σ, x3 => (if (5 : Int32) ≤ x3 then k75 σ else (ck (((5 : Int32) * x1) + x3) 40 <| lt_ ((σ.1 811 0 (((5 : Int32) * x1) + x3).toNatClampNeg)) fun (v3 : Int32) => ck (((5 : Int32) * x2) + x3) 40 <| ck (((5 : Int32) * x1) + x3) 40 <| ck (((5 : Int32) * x2) + x3) 40 <| X8_swap_L20 x1 x2 k75 n ((uI ((uI σ 811 0 (((5 : Int32) * x1) + x3).toNatClampNeg (σ.1 811 0 (((5 : Int32) * x2) + x3).toNatClampNeg))) 811 0 (((5 : Int32) * x2) + x3).toNatClampNeg v3)) ((x3 + (1 : Int32)))))
def X8_swap (σ : Mem) (a1 : Int32) (a2 : Int32) : Option (Mem × Int32) := ((X8_isLaw σ a1).bind fun q1 => if q1.2 = 0 then (some (q1.1, (-1 : Int32))) else ((X8_isLaw q1.1 a2).bind fun q2 => if q2.2 = 0 then (some (q2.1, (-1 : Int32))) else (X8_swap_L20 a1 a2 (fun (s6 : Mem) => (some (s6, (1 : Int32)))) FU q2.1 (0 : Int32))))
set_option maxRecDepth 100000 in
set_option maxHeartbeats 4000000 in
theorem t_X8_swap_L20 (X : GX) (x1 : Int32) (x2 : Int32) (k75 : Mem → Option (Mem × Int32)) (hk75 : ∀ (σ : Mem), GS (KM enI X) X mX8_swap σ 75 [] [] (k75 σ)) : ∀ (n : Nat) (σ : Mem) (x3 : Int32), GS (KM enI X) X mX8_swap σ 20 [(0, .ref (xad X (98))), (1, .int x1), (2, .int x2), (3, .int x3)] [] (X8_swap_L20 x1 x2 k75 n σ x3) := by
  intro n
  induction n with
  | zero => intros; exact g_none
  | succ n ih =>
    intro σ x3
    rw [X8_swap_L20]
    refine g_iload_n 3 dX8_swap_20 rfl ?_
    refine g_iconst (5 : Int32) dX8_swap_21 (by decide) ?_
    refine g_icmp_ge 75 dX8_swap_22 rfl (fun _ => ?_) (fun _ => ?_)
    · refine g_sub [] rfl ?_
      exact hk75 σ
    · refine g_aload_n 0 dX8_swap_25 rfl ?_
      refine gf_X8_11 fl_X8_32 dX8_swap_26 ?_
      refine g_iconst (5 : Int32) dX8_swap_29 (by decide) ?_
      refine g_iload_n 1 dX8_swap_30 rfl ?_
      refine g_imul dX8_swap_31 ?_
      refine g_iload_n 3 dX8_swap_32 rfl ?_
      refine g_iadd dX8_swap_33 ?_
      refine g_iald sh_105 no_105 dX8_swap_34 (fun _ => ?_)
      refine g_topi (fun v3 => ?_)
      refine g_istore [(4, .int v3), (0, .ref (xad X (98))), (1, .int x1), (2, .int x2), (3, .int x3)] dX8_swap_35 (by decide) rfl ?_
      refine g_aload_n 1 dX8_swap_37 rfl ?_
      refine gf_X8_11 fl_X8_32 dX8_swap_38 ?_
      refine g_iconst (5 : Int32) dX8_swap_41 (by decide) ?_
      refine g_iload_n 2 dX8_swap_42 rfl ?_
      refine g_imul dX8_swap_43 ?_
      refine g_iload_n 4 dX8_swap_44 rfl ?_
      refine g_iadd dX8_swap_45 ?_
      refine g_aload_n 1 dX8_swap_46 rfl ?_
      refine gf_X8_11 fl_X8_32 dX8_swap_47 ?_
      refine g_iconst (5 : Int32) dX8_swap_50 (by decide) ?_
      refine g_iload_n 3 dX8_swap_51 rfl ?_
      refine g_imul dX8_swap_52 ?_
      refine g_iload_n 4 dX8_swap_53 rfl ?_
      refine g_iadd dX8_swap_54 ?_
      refine g_iald sh_105 no_105 dX8_swap_55 (fun _ => ?_)
      refine g_iast sh_105 no_105 dX8_swap_56 (fun _ => ?_)
      refine g_aload_n 1 dX8_swap_57 rfl ?_
      refine gf_X8_11 fl_X8_32 dX8_swap_58 ?_
      refine g_iconst (5 : Int32) dX8_swap_61 (by decide) ?_
      refine g_iload_n 3 dX8_swap_62 rfl ?_
      refine g_imul dX8_swap_63 ?_
      refine g_iload_n 4 dX8_swap_64 rfl ?_
      refine g_iadd dX8_swap_65 ?_
      refine g_iload 0 dX8_swap_66 rfl ?_
      refine g_iast sh_105 no_105 dX8_swap_68 (fun _ => ?_)
      refine g_iinc 4 [(3, .int ((x3 + (1 : Int32)))), (4, .int v3), (0, .ref (xad X (98))), (1, .int x1), (2, .int x2)] dX8_swap_69 rfl (v := x3 + (1 : Int32)) rfl (by decide) rfl ?_
      refine g_goto 20 dX8_swap_72 rfl ?_
      refine g_sub [2, 3, 4, 0] rfl ?_
      exact ih ((uI ((uI σ 811 0 (((5 : Int32) * x1) + x3).toNatClampNeg (σ.1 811 0 (((5 : Int32) * x2) + x3).toNatClampNeg))) 811 0 (((5 : Int32) * x2) + x3).toNatClampNeg v3)) ((x3 + (1 : Int32)))

set_option maxRecDepth 100000 in
set_option maxHeartbeats 4000000 in
theorem c_X8_swap (σ : Mem) (a1 : Int32) (a2 : Int32) : CT yX8_swap mX8_swap enI (fun ad => [.ref (ad (98)), .int a1, .int a2]) σ (X8_swap σ a1 a2) := by
  refine CT.of (by decide) rfl (fun _ => Nat.le_of_ble_eq_true rfl) (fun X => ?_)
  show GS (KM enI X) X mX8_swap σ 0 [(0, .ref (xad X (98))), (1, .int a1), (2, .int a2)] [] _
  unfold X8_swap
  refine g_aload_n 0 dX8_swap_0 rfl ?_
  refine g_iload_n 1 dX8_swap_1 rfl ?_
  refine g_callVI (c_X8_isLaw σ a1) okX8_isLaw ⟨by decide, by decide⟩ ml_X8_145 sh_98 no_98 rfl rfl [.int a1] rfl rfl rfl (Nat.le_of_ble_eq_true rfl) dX8_swap_2 (fun q1 => ?_)
  refine g_if_eq 16 dX8_swap_5 rfl (fun _ => ?_) (fun _ => ?_)
  · refine g_iconst (-1 : Int32) dX8_swap_16 (by decide) ?_
    exact g_iret rfl dX8_swap_17
  · refine g_aload_n 0 dX8_swap_8 rfl ?_
    refine g_iload_n 2 dX8_swap_9 rfl ?_
    refine g_callVI (c_X8_isLaw q1.1 a2) okX8_isLaw ⟨by decide, by decide⟩ ml_X8_145 sh_98 no_98 rfl rfl [.int a2] rfl rfl rfl (Nat.le_of_ble_eq_true rfl) dX8_swap_10 (fun q2 => ?_)
    refine g_if_ne 18 dX8_swap_13 rfl (fun _ => ?_) (fun _ => ?_)
    · refine g_iconst (0 : Int32) dX8_swap_18 (by decide) ?_
      refine g_istore_n [(3, .int ((0 : Int32))), (0, .ref (xad X (98))), (1, .int a1), (2, .int a2)] dX8_swap_19 (by decide) rfl ?_
      refine g_sub [1, 2, 3, 0] rfl ?_
      refine t_X8_swap_L20 X a1 a2 _ (fun s6 => ?_) FU q2.1 (0 : Int32)
      refine g_iconst (1 : Int32) dX8_swap_75 (by decide) ?_
      exact g_iret rfl dX8_swap_76
    · refine g_iconst (-1 : Int32) dX8_swap_16 (by decide) ?_
      exact g_iret rfl dX8_swap_17

