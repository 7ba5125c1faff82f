section
-- ===== PART A: goes FIRST, ahead of the names: the tables' words, and 'selects' of the private methods out of them =====
/-- a private method of a class that the tables say can be made, by its rows of tables_1 -/
def lw_okq (q : MethodName × Nat) : Prop := (q.1.cls ≠ "java/lang/invoke/MethodHandle" ∧ q.1.cls ≠ "java/lang/invoke/VarHandle") ∧ Cond.instantiable q.1.cls q.2 ∈ tables_1 ∧ Cond.privateMethod q.1 ∈ tables_1 ∧ Cond.instanceMethod q.1 ∈ tables_1
theorem lw_p0 : lw_okq (⟨"SetAsMeant", "rowOf", "(I)LSetAsMeant$Row;"⟩, 16) := ⟨⟨by decide +kernel, by decide +kernel⟩, List.mem_of_getElem? (i := 15) (by decide +kernel), List.mem_of_getElem? (i := 242) (by decide +kernel), List.mem_of_getElem? (i := 243) (by decide +kernel)⟩
theorem lw_p1 : lw_okq (⟨"SetAsMeant", "answer", "(I)I"⟩, 16) := ⟨⟨by decide +kernel, by decide +kernel⟩, List.mem_of_getElem? (i := 15) (by decide +kernel), List.mem_of_getElem? (i := 246) (by decide +kernel), List.mem_of_getElem? (i := 247) (by decide +kernel)⟩
theorem lw_p2 : lw_okq (⟨"SetAsMeant", "textOf", "(I)LSetAsMeant$Row;"⟩, 16) := ⟨⟨by decide +kernel, by decide +kernel⟩, List.mem_of_getElem? (i := 15) (by decide +kernel), List.mem_of_getElem? (i := 317) (by decide +kernel), List.mem_of_getElem? (i := 318) (by decide +kernel)⟩
theorem lw_p3 : lw_okq (⟨"SetAsMeant", "refuses", "(LSetAsMeant$Row;I)Z"⟩, 16) := ⟨⟨by decide +kernel, by decide +kernel⟩, List.mem_of_getElem? (i := 15) (by decide +kernel), List.mem_of_getElem? (i := 436) (by decide +kernel), List.mem_of_getElem? (i := 437) (by decide +kernel)⟩
theorem lw_p4 : lw_okq (⟨"SetAsMeant", "placeSeen", "(JI)I"⟩, 16) := ⟨⟨by decide +kernel, by decide +kernel⟩, List.mem_of_getElem? (i := 15) (by decide +kernel), List.mem_of_getElem? (i := 490) (by decide +kernel), List.mem_of_getElem? (i := 491) (by decide +kernel)⟩
theorem lw_p5 : lw_okq (⟨"SetAsMeant$Writings", "waysFrom", "(III)J"⟩, 6) := ⟨⟨by decide +kernel, by decide +kernel⟩, List.mem_of_getElem? (i := 98) (by decide +kernel), List.mem_of_getElem? (i := 519) (by decide +kernel), List.mem_of_getElem? (i := 520) (by decide +kernel)⟩
theorem lw_p6 : lw_okq (⟨"SetAsMeant$Writings", "placeAfter", "(III)I"⟩, 6) := ⟨⟨by decide +kernel, by decide +kernel⟩, List.mem_of_getElem? (i := 98) (by decide +kernel), List.mem_of_getElem? (i := 523) (by decide +kernel), List.mem_of_getElem? (i := 524) (by decide +kernel)⟩
theorem lw_p7 : lw_okq (⟨"SetAsMeant", "tell", "(JJ)V"⟩, 16) := ⟨⟨by decide +kernel, by decide +kernel⟩, List.mem_of_getElem? (i := 15) (by decide +kernel), List.mem_of_getElem? (i := 531) (by decide +kernel), List.mem_of_getElem? (i := 532) (by decide +kernel)⟩
theorem lw_p8 : lw_okq (⟨"SetAsMeant$Writings", "earliestOf", "(I)J"⟩, 6) := ⟨⟨by decide +kernel, by decide +kernel⟩, List.mem_of_getElem? (i := 98) (by decide +kernel), List.mem_of_getElem? (i := 549) (by decide +kernel), List.mem_of_getElem? (i := 550) (by decide +kernel)⟩
theorem lw_p9 : lw_okq (⟨"SetAsMeant$Alikes", "earliestLike", "(I)I"⟩, 5) := ⟨⟨by decide +kernel, by decide +kernel⟩, List.mem_of_getElem? (i := 123) (by decide +kernel), List.mem_of_getElem? (i := 569) (by decide +kernel), List.mem_of_getElem? (i := 570) (by decide +kernel)⟩
theorem lw_p10 : lw_okq (⟨"SetAsMeant$Writings", "endsWithout", "(III)I"⟩, 6) := ⟨⟨by decide +kernel, by decide +kernel⟩, List.mem_of_getElem? (i := 98) (by decide +kernel), List.mem_of_getElem? (i := 593) (by decide +kernel), List.mem_of_getElem? (i := 594) (by decide +kernel)⟩
theorem lw_p11 : lw_okq (⟨"SetAsMeant$Writings", "isWithout", "(III)Z"⟩, 6) := ⟨⟨by decide +kernel, by decide +kernel⟩, List.mem_of_getElem? (i := 98) (by decide +kernel), List.mem_of_getElem? (i := 597) (by decide +kernel), List.mem_of_getElem? (i := 598) (by decide +kernel)⟩
theorem lw_p12 : lw_okq (⟨"SetAsMeant$Writings", "usedFrom", "(III)J"⟩, 6) := ⟨⟨by decide +kernel, by decide +kernel⟩, List.mem_of_getElem? (i := 98) (by decide +kernel), List.mem_of_getElem? (i := 611) (by decide +kernel), List.mem_of_getElem? (i := 612) (by decide +kernel)⟩
theorem lw_p13 : lw_okq (⟨"SetAsMeant$Press", "takeInk", "(LSetAsMeant$Row;I)V"⟩, 5) := ⟨⟨by decide +kernel, by decide +kernel⟩, List.mem_of_getElem? (i := 69) (by decide +kernel), List.mem_of_getElem? (i := 686) (by decide +kernel), List.mem_of_getElem? (i := 687) (by decide +kernel)⟩
theorem lw_p14 : lw_okq (⟨"SetAsMeant", "pressesKept", "()I"⟩, 16) := ⟨⟨by decide +kernel, by decide +kernel⟩, List.mem_of_getElem? (i := 15) (by decide +kernel), List.mem_of_getElem? (i := 771) (by decide +kernel), List.mem_of_getElem? (i := 772) (by decide +kernel)⟩
theorem lw_p15 : lw_okq (⟨"SetAsMeantModel", "meet", "(I)I"⟩, 31) := ⟨⟨by decide +kernel, by decide +kernel⟩, List.mem_of_getElem? (i := 802) (by decide +kernel), List.mem_of_getElem? (i := 913) (by decide +kernel), List.mem_of_getElem? (i := 914) (by decide +kernel)⟩
def lw_privs_1 : List (MethodName × Nat) := [(⟨"SetAsMeant", "rowOf", "(I)LSetAsMeant$Row;"⟩, 16), (⟨"SetAsMeant", "answer", "(I)I"⟩, 16), (⟨"SetAsMeant", "textOf", "(I)LSetAsMeant$Row;"⟩, 16), (⟨"SetAsMeant", "refuses", "(LSetAsMeant$Row;I)Z"⟩, 16), (⟨"SetAsMeant", "placeSeen", "(JI)I"⟩, 16), (⟨"SetAsMeant$Writings", "waysFrom", "(III)J"⟩, 6), (⟨"SetAsMeant$Writings", "placeAfter", "(III)I"⟩, 6), (⟨"SetAsMeant", "tell", "(JJ)V"⟩, 16), (⟨"SetAsMeant$Writings", "earliestOf", "(I)J"⟩, 6), (⟨"SetAsMeant$Alikes", "earliestLike", "(I)I"⟩, 5), (⟨"SetAsMeant$Writings", "endsWithout", "(III)I"⟩, 6), (⟨"SetAsMeant$Writings", "isWithout", "(III)Z"⟩, 6), (⟨"SetAsMeant$Writings", "usedFrom", "(III)J"⟩, 6), (⟨"SetAsMeant$Press", "takeInk", "(LSetAsMeant$Row;I)V"⟩, 5), (⟨"SetAsMeant", "pressesKept", "()I"⟩, 16), (⟨"SetAsMeantModel", "meet", "(I)I"⟩, 31)]
theorem lw_r1 : ∀ q ∈ lw_privs_1, lw_okq q := List.forall_mem_cons.mpr ⟨lw_p0, List.forall_mem_cons.mpr ⟨lw_p1, List.forall_mem_cons.mpr ⟨lw_p2, List.forall_mem_cons.mpr ⟨lw_p3, List.forall_mem_cons.mpr ⟨lw_p4, List.forall_mem_cons.mpr ⟨lw_p5, List.forall_mem_cons.mpr ⟨lw_p6, List.forall_mem_cons.mpr ⟨lw_p7, List.forall_mem_cons.mpr ⟨lw_p8, List.forall_mem_cons.mpr ⟨lw_p9, List.forall_mem_cons.mpr ⟨lw_p10, List.forall_mem_cons.mpr ⟨lw_p11, List.forall_mem_cons.mpr ⟨lw_p12, List.forall_mem_cons.mpr ⟨lw_p13, List.forall_mem_cons.mpr ⟨lw_p14, List.forall_mem_cons.mpr ⟨lw_p15, fun _ h => absurd h List.not_mem_nil⟩⟩⟩⟩⟩⟩⟩⟩⟩⟩⟩⟩⟩⟩⟩⟩
theorem lw_p16 : lw_okq (⟨"SetAsMeantModel", "setRow", "(III)V"⟩, 31) := ⟨⟨by decide +kernel, by decide +kernel⟩, List.mem_of_getElem? (i := 802) (by decide +kernel), List.mem_of_getElem? (i := 917) (by decide +kernel), List.mem_of_getElem? (i := 918) (by decide +kernel)⟩
theorem lw_p17 : lw_okq (⟨"SetAsMeantModel", "askedRow", "(I)I"⟩, 31) := ⟨⟨by decide +kernel, by decide +kernel⟩, List.mem_of_getElem? (i := 802) (by decide +kernel), List.mem_of_getElem? (i := 925) (by decide +kernel), List.mem_of_getElem? (i := 926) (by decide +kernel)⟩
theorem lw_p18 : lw_okq (⟨"SetAsMeantModel", "rowAt", "(II)I"⟩, 31) := ⟨⟨by decide +kernel, by decide +kernel⟩, List.mem_of_getElem? (i := 802) (by decide +kernel), List.mem_of_getElem? (i := 929) (by decide +kernel), List.mem_of_getElem? (i := 930) (by decide +kernel)⟩
theorem lw_p19 : lw_okq (⟨"SetAsMeantModel", "ask", "(II)I"⟩, 31) := ⟨⟨by decide +kernel, by decide +kernel⟩, List.mem_of_getElem? (i := 802) (by decide +kernel), List.mem_of_getElem? (i := 933) (by decide +kernel), List.mem_of_getElem? (i := 934) (by decide +kernel)⟩
theorem lw_p20 : lw_okq (⟨"SetAsMeantModel", "askedText", "(I)I"⟩, 31) := ⟨⟨by decide +kernel, by decide +kernel⟩, List.mem_of_getElem? (i := 802) (by decide +kernel), List.mem_of_getElem? (i := 965) (by decide +kernel), List.mem_of_getElem? (i := 966) (by decide +kernel)⟩
theorem lw_p21 : lw_okq (⟨"SetAsMeantModel", "goesOn", "(I)I"⟩, 31) := ⟨⟨by decide +kernel, by decide +kernel⟩, List.mem_of_getElem? (i := 802) (by decide +kernel), List.mem_of_getElem? (i := 973) (by decide +kernel), List.mem_of_getElem? (i := 974) (by decide +kernel)⟩
theorem lw_p22 : lw_okq (⟨"SetAsMeantModel", "here", "(I)I"⟩, 31) := ⟨⟨by decide +kernel, by decide +kernel⟩, List.mem_of_getElem? (i := 802) (by decide +kernel), List.mem_of_getElem? (i := 977) (by decide +kernel), List.mem_of_getElem? (i := 978) (by decide +kernel)⟩
theorem lw_p23 : lw_okq (⟨"SetAsMeantModel", "readsLaw", "(I)Z"⟩, 31) := ⟨⟨by decide +kernel, by decide +kernel⟩, List.mem_of_getElem? (i := 802) (by decide +kernel), List.mem_of_getElem? (i := 981) (by decide +kernel), List.mem_of_getElem? (i := 982) (by decide +kernel)⟩
theorem lw_p24 : lw_okq (⟨"SetAsMeantModel", "isLaw", "(I)Z"⟩, 31) := ⟨⟨by decide +kernel, by decide +kernel⟩, List.mem_of_getElem? (i := 802) (by decide +kernel), List.mem_of_getElem? (i := 999) (by decide +kernel), List.mem_of_getElem? (i := 1000) (by decide +kernel)⟩
theorem lw_p25 : lw_okq (⟨"SetAsMeantModel", "lawOf", "(II)I"⟩, 31) := ⟨⟨by decide +kernel, by decide +kernel⟩, List.mem_of_getElem? (i := 802) (by decide +kernel), List.mem_of_getElem? (i := 1003) (by decide +kernel), List.mem_of_getElem? (i := 1004) (by decide +kernel)⟩
theorem lw_p26 : lw_okq (⟨"SetAsMeantModel", "isA", "(II)Z"⟩, 31) := ⟨⟨by decide +kernel, by decide +kernel⟩, List.mem_of_getElem? (i := 802) (by decide +kernel), List.mem_of_getElem? (i := 1011) (by decide +kernel), List.mem_of_getElem? (i := 1012) (by decide +kernel)⟩
theorem lw_p27 : lw_okq (⟨"SetAsMeantModel", "marked", "(II)I"⟩, 31) := ⟨⟨by decide +kernel, by decide +kernel⟩, List.mem_of_getElem? (i := 802) (by decide +kernel), List.mem_of_getElem? (i := 1015) (by decide +kernel), List.mem_of_getElem? (i := 1016) (by decide +kernel)⟩
theorem lw_p28 : lw_okq (⟨"SetAsMeantModel", "othersOf", "(I)I"⟩, 31) := ⟨⟨by decide +kernel, by decide +kernel⟩, List.mem_of_getElem? (i := 802) (by decide +kernel), List.mem_of_getElem? (i := 1019) (by decide +kernel), List.mem_of_getElem? (i := 1020) (by decide +kernel)⟩
theorem lw_p29 : lw_okq (⟨"SetAsMeantModel", "lay", "(II)V"⟩, 31) := ⟨⟨by decide +kernel, by decide +kernel⟩, List.mem_of_getElem? (i := 802) (by decide +kernel), List.mem_of_getElem? (i := 1023) (by decide +kernel), List.mem_of_getElem? (i := 1024) (by decide +kernel)⟩
theorem lw_p30 : lw_okq (⟨"SetAsMeantModel", "onSet", "()I"⟩, 31) := ⟨⟨by decide +kernel, by decide +kernel⟩, List.mem_of_getElem? (i := 802) (by decide +kernel), List.mem_of_getElem? (i := 1027) (by decide +kernel), List.mem_of_getElem? (i := 1028) (by decide +kernel)⟩
theorem lw_p31 : lw_okq (⟨"SetAsMeantModel", "lawAt", "(II)I"⟩, 31) := ⟨⟨by decide +kernel, by decide +kernel⟩, List.mem_of_getElem? (i := 802) (by decide +kernel), List.mem_of_getElem? (i := 1031) (by decide +kernel), List.mem_of_getElem? (i := 1032) (by decide +kernel)⟩
def lw_privs_2 : List (MethodName × Nat) := [(⟨"SetAsMeantModel", "setRow", "(III)V"⟩, 31), (⟨"SetAsMeantModel", "askedRow", "(I)I"⟩, 31), (⟨"SetAsMeantModel", "rowAt", "(II)I"⟩, 31), (⟨"SetAsMeantModel", "ask", "(II)I"⟩, 31), (⟨"SetAsMeantModel", "askedText", "(I)I"⟩, 31), (⟨"SetAsMeantModel", "goesOn", "(I)I"⟩, 31), (⟨"SetAsMeantModel", "here", "(I)I"⟩, 31), (⟨"SetAsMeantModel", "readsLaw", "(I)Z"⟩, 31), (⟨"SetAsMeantModel", "isLaw", "(I)Z"⟩, 31), (⟨"SetAsMeantModel", "lawOf", "(II)I"⟩, 31), (⟨"SetAsMeantModel", "isA", "(II)Z"⟩, 31), (⟨"SetAsMeantModel", "marked", "(II)I"⟩, 31), (⟨"SetAsMeantModel", "othersOf", "(I)I"⟩, 31), (⟨"SetAsMeantModel", "lay", "(II)V"⟩, 31), (⟨"SetAsMeantModel", "onSet", "()I"⟩, 31), (⟨"SetAsMeantModel", "lawAt", "(II)I"⟩, 31)]
theorem lw_r2 : ∀ q ∈ lw_privs_2, lw_okq q := List.forall_mem_cons.mpr ⟨lw_p16, List.forall_mem_cons.mpr ⟨lw_p17, List.forall_mem_cons.mpr ⟨lw_p18, List.forall_mem_cons.mpr ⟨lw_p19, List.forall_mem_cons.mpr ⟨lw_p20, List.forall_mem_cons.mpr ⟨lw_p21, List.forall_mem_cons.mpr ⟨lw_p22, List.forall_mem_cons.mpr ⟨lw_p23, List.forall_mem_cons.mpr ⟨lw_p24, List.forall_mem_cons.mpr ⟨lw_p25, List.forall_mem_cons.mpr ⟨lw_p26, List.forall_mem_cons.mpr ⟨lw_p27, List.forall_mem_cons.mpr ⟨lw_p28, List.forall_mem_cons.mpr ⟨lw_p29, List.forall_mem_cons.mpr ⟨lw_p30, List.forall_mem_cons.mpr ⟨lw_p31, fun _ h => absurd h List.not_mem_nil⟩⟩⟩⟩⟩⟩⟩⟩⟩⟩⟩⟩⟩⟩⟩⟩
theorem lw_p32 : lw_okq (⟨"SetAsMeantModel", "holds", "(II)Z"⟩, 31) := ⟨⟨by decide +kernel, by decide +kernel⟩, List.mem_of_getElem? (i := 802) (by decide +kernel), List.mem_of_getElem? (i := 1038) (by decide +kernel), List.mem_of_getElem? (i := 1039) (by decide +kernel)⟩
theorem lw_p33 : lw_okq (⟨"SetAsMeantModel", "setBy", "(I)V"⟩, 31) := ⟨⟨by decide +kernel, by decide +kernel⟩, List.mem_of_getElem? (i := 802) (by decide +kernel), List.mem_of_getElem? (i := 1042) (by decide +kernel), List.mem_of_getElem? (i := 1043) (by decide +kernel)⟩
theorem lw_p34 : lw_okq (⟨"SetAsMeantModel", "comes", "(I)V"⟩, 31) := ⟨⟨by decide +kernel, by decide +kernel⟩, List.mem_of_getElem? (i := 802) (by decide +kernel), List.mem_of_getElem? (i := 1046) (by decide +kernel), List.mem_of_getElem? (i := 1047) (by decide +kernel)⟩
theorem lw_p35 : lw_okq (⟨"SetAsMeantModel", "isAsWritten", "()Z"⟩, 31) := ⟨⟨by decide +kernel, by decide +kernel⟩, List.mem_of_getElem? (i := 802) (by decide +kernel), List.mem_of_getElem? (i := 1050) (by decide +kernel), List.mem_of_getElem? (i := 1051) (by decide +kernel)⟩
theorem lw_p36 : lw_okq (⟨"SetAsMeantModel", "askedSigns", "(II)I"⟩, 31) := ⟨⟨by decide +kernel, by decide +kernel⟩, List.mem_of_getElem? (i := 802) (by decide +kernel), List.mem_of_getElem? (i := 1066) (by decide +kernel), List.mem_of_getElem? (i := 1067) (by decide +kernel)⟩
theorem lw_p37 : lw_okq (⟨"SetAsMeantModel", "laySheet", "(I)V"⟩, 31) := ⟨⟨by decide +kernel, by decide +kernel⟩, List.mem_of_getElem? (i := 802) (by decide +kernel), List.mem_of_getElem? (i := 1073) (by decide +kernel), List.mem_of_getElem? (i := 1074) (by decide +kernel)⟩
theorem lw_p38 : lw_okq (⟨"SetAsMeantModel", "outToRow", "(I)I"⟩, 31) := ⟨⟨by decide +kernel, by decide +kernel⟩, List.mem_of_getElem? (i := 802) (by decide +kernel), List.mem_of_getElem? (i := 1077) (by decide +kernel), List.mem_of_getElem? (i := 1078) (by decide +kernel)⟩
theorem lw_p39 : lw_okq (⟨"SetAsMeantModel", "sheetToRow", "(I)I"⟩, 31) := ⟨⟨by decide +kernel, by decide +kernel⟩, List.mem_of_getElem? (i := 802) (by decide +kernel), List.mem_of_getElem? (i := 1094) (by decide +kernel), List.mem_of_getElem? (i := 1095) (by decide +kernel)⟩
theorem lw_p40 : lw_okq (⟨"SetAsMeantModel", "outToSheet", "()V"⟩, 31) := ⟨⟨by decide +kernel, by decide +kernel⟩, List.mem_of_getElem? (i := 802) (by decide +kernel), List.mem_of_getElem? (i := 1098) (by decide +kernel), List.mem_of_getElem? (i := 1099) (by decide +kernel)⟩
theorem lw_p41 : lw_okq (⟨"SetAsMeantModel", "isAsCame", "(I)Z"⟩, 31) := ⟨⟨by decide +kernel, by decide +kernel⟩, List.mem_of_getElem? (i := 802) (by decide +kernel), List.mem_of_getElem? (i := 1106) (by decide +kernel), List.mem_of_getElem? (i := 1107) (by decide +kernel)⟩
theorem lw_p42 : lw_okq (⟨"SetAsMeantModel", "layNumber", "(II)V"⟩, 31) := ⟨⟨by decide +kernel, by decide +kernel⟩, List.mem_of_getElem? (i := 802) (by decide +kernel), List.mem_of_getElem? (i := 1121) (by decide +kernel), List.mem_of_getElem? (i := 1122) (by decide +kernel)⟩
theorem lw_p43 : lw_okq (⟨"SetAsMeantModel", "isOut", "(I)Z"⟩, 31) := ⟨⟨by decide +kernel, by decide +kernel⟩, List.mem_of_getElem? (i := 802) (by decide +kernel), List.mem_of_getElem? (i := 1125) (by decide +kernel), List.mem_of_getElem? (i := 1126) (by decide +kernel)⟩
theorem lw_p44 : lw_okq (⟨"SetAsMeantModel", "part", "(JJ)I"⟩, 31) := ⟨⟨by decide +kernel, by decide +kernel⟩, List.mem_of_getElem? (i := 802) (by decide +kernel), List.mem_of_getElem? (i := 1129) (by decide +kernel), List.mem_of_getElem? (i := 1130) (by decide +kernel)⟩
theorem lw_p45 : lw_okq (⟨"SetAsMeantModel", "layGoal", "(I)V"⟩, 31) := ⟨⟨by decide +kernel, by decide +kernel⟩, List.mem_of_getElem? (i := 802) (by decide +kernel), List.mem_of_getElem? (i := 1137) (by decide +kernel), List.mem_of_getElem? (i := 1138) (by decide +kernel)⟩
theorem lw_p46 : lw_okq (⟨"SetAsMeantModel", "findsFirst", "()Z"⟩, 31) := ⟨⟨by decide +kernel, by decide +kernel⟩, List.mem_of_getElem? (i := 802) (by decide +kernel), List.mem_of_getElem? (i := 1141) (by decide +kernel), List.mem_of_getElem? (i := 1142) (by decide +kernel)⟩
theorem lw_p47 : lw_okq (⟨"SetAsMeantModel", "isGoal", "()Z"⟩, 31) := ⟨⟨by decide +kernel, by decide +kernel⟩, List.mem_of_getElem? (i := 802) (by decide +kernel), List.mem_of_getElem? (i := 1145) (by decide +kernel), List.mem_of_getElem? (i := 1146) (by decide +kernel)⟩
def lw_privs_3 : List (MethodName × Nat) := [(⟨"SetAsMeantModel", "holds", "(II)Z"⟩, 31), (⟨"SetAsMeantModel", "setBy", "(I)V"⟩, 31), (⟨"SetAsMeantModel", "comes", "(I)V"⟩, 31), (⟨"SetAsMeantModel", "isAsWritten", "()Z"⟩, 31), (⟨"SetAsMeantModel", "askedSigns", "(II)I"⟩, 31), (⟨"SetAsMeantModel", "laySheet", "(I)V"⟩, 31), (⟨"SetAsMeantModel", "outToRow", "(I)I"⟩, 31), (⟨"SetAsMeantModel", "sheetToRow", "(I)I"⟩, 31), (⟨"SetAsMeantModel", "outToSheet", "()V"⟩, 31), (⟨"SetAsMeantModel", "isAsCame", "(I)Z"⟩, 31), (⟨"SetAsMeantModel", "layNumber", "(II)V"⟩, 31), (⟨"SetAsMeantModel", "isOut", "(I)Z"⟩, 31), (⟨"SetAsMeantModel", "part", "(JJ)I"⟩, 31), (⟨"SetAsMeantModel", "layGoal", "(I)V"⟩, 31), (⟨"SetAsMeantModel", "findsFirst", "()Z"⟩, 31), (⟨"SetAsMeantModel", "isGoal", "()Z"⟩, 31)]
theorem lw_r3 : ∀ q ∈ lw_privs_3, lw_okq q := List.forall_mem_cons.mpr ⟨lw_p32, List.forall_mem_cons.mpr ⟨lw_p33, List.forall_mem_cons.mpr ⟨lw_p34, List.forall_mem_cons.mpr ⟨lw_p35, List.forall_mem_cons.mpr ⟨lw_p36, List.forall_mem_cons.mpr ⟨lw_p37, List.forall_mem_cons.mpr ⟨lw_p38, List.forall_mem_cons.mpr ⟨lw_p39, List.forall_mem_cons.mpr ⟨lw_p40, List.forall_mem_cons.mpr ⟨lw_p41, List.forall_mem_cons.mpr ⟨lw_p42, List.forall_mem_cons.mpr ⟨lw_p43, List.forall_mem_cons.mpr ⟨lw_p44, List.forall_mem_cons.mpr ⟨lw_p45, List.forall_mem_cons.mpr ⟨lw_p46, List.forall_mem_cons.mpr ⟨lw_p47, fun _ h => absurd h List.not_mem_nil⟩⟩⟩⟩⟩⟩⟩⟩⟩⟩⟩⟩⟩⟩⟩⟩
theorem lw_p48 : lw_okq (⟨"SetAsMeantModel", "layCodes", "(I)V"⟩, 31) := ⟨⟨by decide +kernel, by decide +kernel⟩, List.mem_of_getElem? (i := 802) (by decide +kernel), List.mem_of_getElem? (i := 1153) (by decide +kernel), List.mem_of_getElem? (i := 1154) (by decide +kernel)⟩
theorem lw_p49 : lw_okq (⟨"SetAsMeantModel", "codeOf", "()J"⟩, 31) := ⟨⟨by decide +kernel, by decide +kernel⟩, List.mem_of_getElem? (i := 802) (by decide +kernel), List.mem_of_getElem? (i := 1157) (by decide +kernel), List.mem_of_getElem? (i := 1158) (by decide +kernel)⟩
theorem lw_p50 : lw_okq (⟨"SetAsMeantModel", "twinOf", "(II)I"⟩, 31) := ⟨⟨by decide +kernel, by decide +kernel⟩, List.mem_of_getElem? (i := 802) (by decide +kernel), List.mem_of_getElem? (i := 1162) (by decide +kernel), List.mem_of_getElem? (i := 1163) (by decide +kernel)⟩
theorem lw_p51 : lw_okq (⟨"SetAsMeantModel", "askedBoth", "(II)I"⟩, 31) := ⟨⟨by decide +kernel, by decide +kernel⟩, List.mem_of_getElem? (i := 802) (by decide +kernel), List.mem_of_getElem? (i := 1189) (by decide +kernel), List.mem_of_getElem? (i := 1190) (by decide +kernel)⟩
theorem lw_p52 : lw_okq (⟨"SetAsMeantModel", "weight", "(III)J"⟩, 31) := ⟨⟨by decide +kernel, by decide +kernel⟩, List.mem_of_getElem? (i := 802) (by decide +kernel), List.mem_of_getElem? (i := 1205) (by decide +kernel), List.mem_of_getElem? (i := 1206) (by decide +kernel)⟩
theorem lw_p53 : lw_okq (⟨"SetAsMeantModel", "whole", "(I)J"⟩, 31) := ⟨⟨by decide +kernel, by decide +kernel⟩, List.mem_of_getElem? (i := 802) (by decide +kernel), List.mem_of_getElem? (i := 1210) (by decide +kernel), List.mem_of_getElem? (i := 1211) (by decide +kernel)⟩
theorem lw_p54 : lw_okq (⟨"SetAsMeantModel", "tells", "(I)I"⟩, 31) := ⟨⟨by decide +kernel, by decide +kernel⟩, List.mem_of_getElem? (i := 802) (by decide +kernel), List.mem_of_getElem? (i := 1268) (by decide +kernel), List.mem_of_getElem? (i := 1269) (by decide +kernel)⟩
theorem lw_p55 : lw_okq (⟨"SetAsMeantModel", "mix", "(I)V"⟩, 31) := ⟨⟨by decide +kernel, by decide +kernel⟩, List.mem_of_getElem? (i := 802) (by decide +kernel), List.mem_of_getElem? (i := 1285) (by decide +kernel), List.mem_of_getElem? (i := 1286) (by decide +kernel)⟩
theorem lw_p56 : lw_okq (⟨"SetAsMeantModel", "mixPress", "()V"⟩, 31) := ⟨⟨by decide +kernel, by decide +kernel⟩, List.mem_of_getElem? (i := 802) (by decide +kernel), List.mem_of_getElem? (i := 1290) (by decide +kernel), List.mem_of_getElem? (i := 1291) (by decide +kernel)⟩
def lw_privs_4 : List (MethodName × Nat) := [(⟨"SetAsMeantModel", "layCodes", "(I)V"⟩, 31), (⟨"SetAsMeantModel", "codeOf", "()J"⟩, 31), (⟨"SetAsMeantModel", "twinOf", "(II)I"⟩, 31), (⟨"SetAsMeantModel", "askedBoth", "(II)I"⟩, 31), (⟨"SetAsMeantModel", "weight", "(III)J"⟩, 31), (⟨"SetAsMeantModel", "whole", "(I)J"⟩, 31), (⟨"SetAsMeantModel", "tells", "(I)I"⟩, 31), (⟨"SetAsMeantModel", "mix", "(I)V"⟩, 31), (⟨"SetAsMeantModel", "mixPress", "()V"⟩, 31)]
theorem lw_r4 : ∀ q ∈ lw_privs_4, lw_okq q := List.forall_mem_cons.mpr ⟨lw_p48, List.forall_mem_cons.mpr ⟨lw_p49, List.forall_mem_cons.mpr ⟨lw_p50, List.forall_mem_cons.mpr ⟨lw_p51, List.forall_mem_cons.mpr ⟨lw_p52, List.forall_mem_cons.mpr ⟨lw_p53, List.forall_mem_cons.mpr ⟨lw_p54, List.forall_mem_cons.mpr ⟨lw_p55, List.forall_mem_cons.mpr ⟨lw_p56, fun _ h => absurd h List.not_mem_nil⟩⟩⟩⟩⟩⟩⟩⟩⟩
def lw_privs : List (MethodName × Nat) := lw_privs_1 ++ (lw_privs_2 ++ (lw_privs_3 ++ (lw_privs_4)))
def lw_tbl : List Cond := k2_sels lw_privs ++ tables_1
theorem lw_privs_ok : ∀ q ∈ lw_privs, lw_okq q := by
  show ∀ q ∈ lw_privs_1 ++ (lw_privs_2 ++ (lw_privs_3 ++ (lw_privs_4))), lw_okq q
  exact List.forall_mem_append.mpr ⟨lw_r1, List.forall_mem_append.mpr ⟨lw_r2, List.forall_mem_append.mpr ⟨lw_r3, lw_r4⟩⟩⟩

/-- the words that keep -/
def tb : List Cond := lw_tbl.filter goodWord
theorem tb_in {w : Cond} (h : w ∈ tb) : w ∈ lw_tbl := (List.mem_filter.mp h).1
theorem tb_good {w : Cond} (h : w ∈ tb) : (w.onTables && w.keeps) = true ∨ ∃ ty, w = .arrayClass ty := good_of_word (List.mem_filter.mp h).2
theorem tb_at {w : Cond} (i : Nat) (h : lw_tbl[i]? = some w) (hg : goodWord w = true) : w ∈ tb := List.mem_filter.mpr ⟨List.mem_of_getElem? h, hg⟩
theorem tb_tb {w0 : Cond} (h : w0 ∈ tb) : GoodIn tb (w0 :: tb) := fun w hw => by
  rcases List.mem_cons.mp hw with rfl | hw
  · exact ⟨h, tb_good h⟩
  · exact ⟨hw, tb_good hw⟩
/-- the words of nest mates -/
def nestW : List Cond := [(Jvm.Cond.methodLinkNest "SetAsMeant$Reader" (21 : Nat) ({ cls := "SetAsMeant$Law", name := "<init>", desc := "()V" } : Jvm.MethodName) "SetAsMeant"), (Jvm.Cond.fieldLinkNest "SetAsMeant$Press" (69 : Nat) "SetAsMeant$Law" "x" "I" "SetAsMeant"), (Jvm.Cond.fieldLinkNest "SetAsMeant" (164 : Nat) "SetAsMeant$Law" "x" "I" "SetAsMeant"), (Jvm.Cond.fieldLinkNest "SetAsMeant" (184 : Nat) "SetAsMeant$Law" "y" "I" "SetAsMeant"), (Jvm.Cond.fieldLinkNest "SetAsMeant" (173 : Nat) "SetAsMeant$Law" "z" "I" "SetAsMeant"), (Jvm.Cond.fieldLinkNest "SetAsMeant$Press" (65 : Nat) "SetAsMeant$Law" "isHushed" "Z" "SetAsMeant"), (Jvm.Cond.fieldLinkNest "SetAsMeant" (195 : Nat) "SetAsMeant$Law" "isHushed" "Z" "SetAsMeant"), (Jvm.Cond.fieldLinkNest "SetAsMeant$Press" (42 : Nat) "SetAsMeant$Reader" "items" "[LSetAsMeant$Law;" "SetAsMeant"), (Jvm.Cond.fieldLinkNest "SetAsMeant$Press" (33 : Nat) "SetAsMeant$Reader" "size" "I" "SetAsMeant"), (Jvm.Cond.methodLinkNest "SetAsMeant$Press" (32 : Nat) ({ cls := "SetAsMeant$Law", name := "<init>", desc := "()V" } : Jvm.MethodName) "SetAsMeant"), (Jvm.Cond.fieldLinkNest "SetAsMeant" (153 : Nat) "SetAsMeant$Press" "size" "I" "SetAsMeant"), (Jvm.Cond.fieldLinkNest "SetAsMeant" (307 : Nat) "SetAsMeant$Press" "done" "I" "SetAsMeant"), (Jvm.Cond.methodLinkNest "SetAsMeant" (38 : Nat) ({ cls := "SetAsMeant$Writings", name := "<init>", desc := "()V" } : Jvm.MethodName) "SetAsMeant"), (Jvm.Cond.methodLinkNest "SetAsMeant" (45 : Nat) ({ cls := "SetAsMeant$Alikes", name := "<init>", desc := "()V" } : Jvm.MethodName) "SetAsMeant"), (Jvm.Cond.fieldLinkNest "SetAsMeant" (252 : Nat) "SetAsMeant$Alikes" "unlike" "I" "SetAsMeant"), (Jvm.Cond.fieldLinkNest "SetAsMeant" (255 : Nat) "SetAsMeant$Alikes" "firstTwin" "I" "SetAsMeant"), (Jvm.Cond.fieldLinkNest "SetAsMeant" (261 : Nat) "SetAsMeant$Alikes" "secondTwin" "I" "SetAsMeant"), (Jvm.Cond.fieldLinkNest "SetAsMeant" (126 : Nat) "SetAsMeant$Row" "cells" "[I" "SetAsMeant"), (Jvm.Cond.fieldLinkNest "SetAsMeant$Trial" (26 : Nat) "SetAsMeant$Row" "size" "I" "SetAsMeant"), (Jvm.Cond.fieldLinkNest "SetAsMeant$Reader" (22 : Nat) "SetAsMeant$Row" "size" "I" "SetAsMeant"), (Jvm.Cond.fieldLinkNest "SetAsMeant" (135 : Nat) "SetAsMeant$Row" "size" "I" "SetAsMeant"), (Jvm.Cond.fieldLinkNest "SetAsMeant$Press" (92 : Nat) "SetAsMeant$Row" "size" "I" "SetAsMeant"), (Jvm.Cond.methodLinkNest "SetAsMeant" (59 : Nat) ({ cls := "SetAsMeant$Trial", name := "<init>", desc := "()V" } : Jvm.MethodName) "SetAsMeant"), (Jvm.Cond.methodLinkNest "SetAsMeant" (66 : Nat) ({ cls := "SetAsMeant$Law", name := "<init>", desc := "()V" } : Jvm.MethodName) "SetAsMeant"), (Jvm.Cond.fieldLinkNest "SetAsMeant$Reader" (43 : Nat) "SetAsMeant" "LETTERS" "[I" "SetAsMeant"), (Jvm.Cond.methodLinkNest "SetAsMeant$Press" (84 : Nat) ({ cls := "SetAsMeant", name := "packed", desc := "(JI)J" } : Jvm.MethodName) "SetAsMeant"), (Jvm.Cond.methodLinkNest "SetAsMeant$Law" (36 : Nat) ({ cls := "SetAsMeant", name := "packed", desc := "(JI)J" } : Jvm.MethodName) "SetAsMeant"), (Jvm.Cond.methodLinkNest "SetAsMeant$Row" (50 : Nat) ({ cls := "SetAsMeant", name := "signsIn", desc := "(J)I" } : Jvm.MethodName) "SetAsMeant"), (Jvm.Cond.methodLinkNest "SetAsMeant$Row" (46 : Nat) ({ cls := "SetAsMeant", name := "packed", desc := "(JI)J" } : Jvm.MethodName) "SetAsMeant"), (Jvm.Cond.methodLinkNest "SetAsMeant$Writings" (47 : Nat) ({ cls := "SetAsMeant", name := "signsIn", desc := "(J)I" } : Jvm.MethodName) "SetAsMeant"), (Jvm.Cond.methodLinkNest "SetAsMeant$Writings" (86 : Nat) ({ cls := "SetAsMeant", name := "packed", desc := "(JI)J" } : Jvm.MethodName) "SetAsMeant"), (Jvm.Cond.fieldLinkNest "SetAsMeant$Writings" (65 : Nat) "SetAsMeant" "HAVING" "[J" "SetAsMeant"), (Jvm.Cond.methodLinkNest "SetAsMeant$Trial" (55 : Nat) ({ cls := "SetAsMeant", name := "packed", desc := "(JI)J" } : Jvm.MethodName) "SetAsMeant")]
set_option maxRecDepth 100000 in
theorem nest_in : nestW.all (fun w => decide (w ∈ lw_tbl)) = true := by decide +kernel
def isNest : Cond → Bool
  | .fieldLinkNest .. => true
  | .methodLinkNest .. => true
  | _ => false
theorem nest_all : nestW.all isNest = true := by decide +kernel
theorem nest_warm {w : Cond} (h : w ∈ nestW) {s U : State} (hW : s.WarmedH U.vm) (hZ : va_Nw w s) : va_Nw w U := by
  have h1 := List.all_eq_true.mp nest_all w h
  cases w <;> first | (simp [isNest] at h1; done) | exact va_Nw.warmF hW hZ | exact va_Nw.warmM hW hZ
end
section
def RX0 : String := "SetAsMeant$Alikes"
def TX0 : u_T := fun k => match k with
  | 0 => ("SetAsMeant$Alikes", "outs", "[J", true)
  | 1 => ("SetAsMeant$Alikes", "slots", "[I", true)
  | 2 => ("SetAsMeant$Alikes", "unlike", "I", false)
  | 3 => ("SetAsMeant$Alikes", "firstTwin", "I", false)
  | _ => ("SetAsMeant$Alikes", "secondTwin", "I", false)
def tyX0 : Nat → FieldType := fun k => match k with
  | 0 => .array .long
  | 1 => .array .int
  | 2 => .int
  | 3 => .int
  | _ => .int
abbrev wsX00 : List Cond := u_ws RX0 TX0 5
theorem nmX0 : ∀ a, a < 5 → ∀ b, b < 5 → a ≠ b → (TX0 a).2.1 ≠ (TX0 b).2.1 := by decide +kernel
theorem tyX0_ok : ∀ k, k < 5 → parseFieldDescriptor (TX0 k).2.2.1 = some (tyX0 k) := by decide +kernel
abbrev cX0_init : ByteArray := prog_2_method_1_code
def yX0_init : MethodName := ⟨RX0, "<init>", "()V"⟩
abbrev cX0_gather : ByteArray := prog_2_method_2_code
def yX0_gather : MethodName := ⟨RX0, "gather", "(LSetAsMeant$Writings;I)V"⟩
abbrev cX0_earliestLike : ByteArray := prog_2_method_3_code
def yX0_earliestLike : MethodName := ⟨RX0, "earliestLike", "(I)I"⟩
def RX1 : String := "SetAsMeant$Law"
def TX1 : u_T := fun k => match k with
  | 0 => ("SetAsMeant$Law", "kind", "I", false)
  | 1 => ("SetAsMeant$Law", "x", "I", false)
  | 2 => ("SetAsMeant$Law", "y", "I", false)
  | 3 => ("SetAsMeant$Law", "z", "I", false)
  | _ => ("SetAsMeant$Law", "isHushed", "Z", false)
def tyX1 : Nat → FieldType := fun k => match k with
  | 0 => .int
  | 1 => .int
  | 2 => .int
  | 3 => .int
  | _ => .boolean
abbrev wsX10 : List Cond := u_ws RX1 TX1 5
theorem nmX1 : ∀ a, a < 5 → ∀ b, b < 5 → a ≠ b → (TX1 a).2.1 ≠ (TX1 b).2.1 := by decide +kernel
theorem tyX1_ok : ∀ k, k < 5 → parseFieldDescriptor (TX1 k).2.2.1 = some (tyX1 k) := by decide +kernel
abbrev cX1_init : ByteArray := prog_3_method_1_code
def yX1_init : MethodName := ⟨RX1, "<init>", "()V"⟩
abbrev cX1_become : ByteArray := prog_3_method_2_code
def yX1_become : MethodName := ⟨RX1, "become", "(IIII)V"⟩
abbrev cX1_take : ByteArray := prog_3_method_3_code
def yX1_take : MethodName := ⟨RX1, "take", "(LSetAsMeant$Law;)V"⟩
abbrev cX1_isOf : ByteArray := prog_3_method_4_code
def yX1_isOf : MethodName := ⟨RX1, "isOf", "(I)Z"⟩
abbrev cX1_holds : ByteArray := prog_3_method_5_code
def yX1_holds : MethodName := ⟨RX1, "holds", "(II)Z"⟩
abbrev cX1_after : ByteArray := prog_3_method_6_code
def yX1_after : MethodName := ⟨RX1, "after", "(J)J"⟩
abbrev cX1_tell : ByteArray := prog_3_method_7_code
def yX1_tell : MethodName := ⟨RX1, "tell", "(I)I"⟩
def RX2 : String := "SetAsMeant$Press"
def TX2 : u_T := fun k => match k with
  | 0 => ("SetAsMeant$Press", "laws", "[LSetAsMeant$Law;", true)
  | 1 => ("SetAsMeant$Press", "deeds", "[J", true)
  | 2 => ("SetAsMeant$Press", "inks", "[I", true)
  | 3 => ("SetAsMeant$Press", "size", "I", false)
  | _ => ("SetAsMeant$Press", "done", "I", false)
def tyX2 : Nat → FieldType := fun k => match k with
  | 0 => .array (.object "SetAsMeant$Law")
  | 1 => .array .long
  | 2 => .array .int
  | 3 => .int
  | _ => .int
abbrev wsX20 : List Cond := u_ws RX2 TX2 5
theorem nmX2 : ∀ a, a < 5 → ∀ b, b < 5 → a ≠ b → (TX2 a).2.1 ≠ (TX2 b).2.1 := by decide +kernel
theorem tyX2_ok : ∀ k, k < 5 → parseFieldDescriptor (TX2 k).2.2.1 = some (tyX2 k) := by decide +kernel
abbrev cX2_init : ByteArray := prog_4_method_1_code
def yX2_init : MethodName := ⟨RX2, "<init>", "()V"⟩
abbrev cX2_begin : ByteArray := prog_4_method_2_code
def yX2_begin : MethodName := ⟨RX2, "begin", "(LSetAsMeant$Reader;)V"⟩
abbrev cX2_take : ByteArray := prog_4_method_3_code
def yX2_take : MethodName := ⟨RX2, "take", "(LSetAsMeant$Press;)V"⟩
abbrev cX2_isKept : ByteArray := prog_4_method_4_code
def yX2_isKept : MethodName := ⟨RX2, "isKept", "()Z"⟩
abbrev cX2_numbered : ByteArray := prog_4_method_5_code
def yX2_numbered : MethodName := ⟨RX2, "numbered", "(I)LSetAsMeant$Law;"⟩
abbrev cX2_exchange : ByteArray := prog_4_method_6_code
def yX2_exchange : MethodName := ⟨RX2, "exchange", "(II)V"⟩
abbrev cX2_onSet : ByteArray := prog_4_method_7_code
def yX2_onSet : MethodName := ⟨RX2, "onSet", "()I"⟩
abbrev cX2_lawsOf : ByteArray := prog_4_method_8_code
def yX2_lawsOf : MethodName := ⟨RX2, "lawsOf", "(I)I"⟩
abbrev cX2_lawsOfKind : ByteArray := prog_4_method_9_code
def yX2_lawsOfKind : MethodName := ⟨RX2, "lawsOfKind", "(I)I"⟩
abbrev cX2_holding : ByteArray := prog_4_method_10_code
def yX2_holding : MethodName := ⟨RX2, "holding", "(II)I"⟩
abbrev cX2_chosen : ByteArray := prog_4_method_11_code
def yX2_chosen : MethodName := ⟨RX2, "chosen", "(III)I"⟩
abbrev cX2_outOfSign : ByteArray := prog_4_method_12_code
def yX2_outOfSign : MethodName := ⟨RX2, "outOfSign", "(IIIJ)J"⟩
abbrev cX2_outOf : ByteArray := prog_4_method_13_code
def yX2_outOf : MethodName := ⟨RX2, "outOf", "(LSetAsMeant$Row;I)J"⟩
abbrev cX2_inksOf : ByteArray := prog_4_method_14_code
def yX2_inksOf : MethodName := ⟨RX2, "inksOf", "(I)I"⟩
abbrev cX2_inksInAll : ByteArray := prog_4_method_15_code
def yX2_inksInAll : MethodName := ⟨RX2, "inksInAll", "()I"⟩
abbrev cX2_deed : ByteArray := prog_4_method_16_code
def yX2_deed : MethodName := ⟨RX2, "deed", "(I)J"⟩
abbrev cX2_addDeed : ByteArray := prog_4_method_17_code
def yX2_addDeed : MethodName := ⟨RX2, "addDeed", "(LSetAsMeant$Row;)V"⟩
abbrev cX2_dropDeed : ByteArray := prog_4_method_18_code
def yX2_dropDeed : MethodName := ⟨RX2, "dropDeed", "(LSetAsMeant$Row;)V"⟩
abbrev cX2_takeInk : ByteArray := prog_4_method_19_code
def yX2_takeInk : MethodName := ⟨RX2, "takeInk", "(LSetAsMeant$Row;I)V"⟩
abbrev cX2_digested : ByteArray := prog_4_method_20_code
def yX2_digested : MethodName := ⟨RX2, "digested", "(JLSetAsMeant$Row;)J"⟩
def RX3 : String := "SetAsMeant$Reader"
def TX3 : u_T := fun k => match k with
  | 0 => ("SetAsMeant$Reader", "items", "[LSetAsMeant$Law;", true)
  | _ => ("SetAsMeant$Reader", "size", "I", false)
def tyX3 : Nat → FieldType := fun k => match k with
  | 0 => .array (.object "SetAsMeant$Law")
  | _ => .int
abbrev wsX30 : List Cond := u_ws RX3 TX3 2
theorem nmX3 : ∀ a, a < 2 → ∀ b, b < 2 → a ≠ b → (TX3 a).2.1 ≠ (TX3 b).2.1 := by decide +kernel
theorem tyX3_ok : ∀ k, k < 2 → parseFieldDescriptor (TX3 k).2.2.1 = some (tyX3 k) := by decide +kernel
abbrev cX3_init : ByteArray := prog_5_method_1_code
def yX3_init : MethodName := ⟨RX3, "<init>", "()V"⟩
abbrev cX3_read : ByteArray := prog_5_method_2_code
def yX3_read : MethodName := ⟨RX3, "read", "(LSetAsMeant$Row;)I"⟩
abbrev cX3_kindOf : ByteArray := prog_5_method_3_code
def yX3_kindOf : MethodName := ⟨RX3, "kindOf", "(I)I"⟩
abbrev cX3_signsOf : ByteArray := prog_5_method_4_code
def yX3_signsOf : MethodName := ⟨RX3, "signsOf", "(I)I"⟩
abbrev cX3_signAt : ByteArray := prog_5_method_5_code
def yX3_signAt : MethodName := ⟨RX3, "signAt", "(LSetAsMeant$Row;I)I"⟩
def RX4 : String := "SetAsMeant$Row"
def TX4 : u_T := fun k => match k with
  | 0 => ("SetAsMeant$Row", "cells", "[I", true)
  | _ => ("SetAsMeant$Row", "size", "I", false)
def tyX4 : Nat → FieldType := fun k => match k with
  | 0 => .array .int
  | _ => .int
abbrev wsX40 : List Cond := u_ws RX4 TX4 2
theorem nmX4 : ∀ a, a < 2 → ∀ b, b < 2 → a ≠ b → (TX4 a).2.1 ≠ (TX4 b).2.1 := by decide +kernel
theorem tyX4_ok : ∀ k, k < 2 → parseFieldDescriptor (TX4 k).2.2.1 = some (tyX4 k) := by decide +kernel
abbrev cX4_init : ByteArray := prog_6_method_1_code
def yX4_init : MethodName := ⟨RX4, "<init>", "(I)V"⟩
abbrev cX4_isThere : ByteArray := prog_6_method_2_code
def yX4_isThere : MethodName := ⟨RX4, "isThere", "()Z"⟩
abbrev cX4_hasPlace : ByteArray := prog_6_method_3_code
def yX4_hasPlace : MethodName := ⟨RX4, "hasPlace", "(I)Z"⟩
abbrev cX4_hasPlaces : ByteArray := prog_6_method_4_code
def yX4_hasPlaces : MethodName := ⟨RX4, "hasPlaces", "(II)Z"⟩
abbrev cX4_cell : ByteArray := prog_6_method_5_code
def yX4_cell : MethodName := ⟨RX4, "cell", "(I)I"⟩
abbrev cX4_behind : ByteArray := prog_6_method_6_code
def yX4_behind : MethodName := ⟨RX4, "behind", "(I)I"⟩
abbrev cX4_change : ByteArray := prog_6_method_7_code
def yX4_change : MethodName := ⟨RX4, "change", "(II)V"⟩
abbrev cX4_leave : ByteArray := prog_6_method_8_code
def yX4_leave : MethodName := ⟨RX4, "leave", "()V"⟩
abbrev cX4_renew : ByteArray := prog_6_method_9_code
def yX4_renew : MethodName := ⟨RX4, "renew", "(II)V"⟩
abbrev cX4_add : ByteArray := prog_6_method_10_code
def yX4_add : MethodName := ⟨RX4, "add", "(I)V"⟩
abbrev cX4_addSheet : ByteArray := prog_6_method_11_code
def yX4_addSheet : MethodName := ⟨RX4, "addSheet", "(II)V"⟩
abbrev cX4_sum : ByteArray := prog_6_method_12_code
def yX4_sum : MethodName := ⟨RX4, "sum", "()J"⟩
abbrev cX4_holdsSigns : ByteArray := prog_6_method_13_code
def yX4_holdsSigns : MethodName := ⟨RX4, "holdsSigns", "()Z"⟩
abbrev cX4_pack : ByteArray := prog_6_method_14_code
def yX4_pack : MethodName := ⟨RX4, "pack", "()J"⟩
abbrev cX4_unpack : ByteArray := prog_6_method_15_code
def yX4_unpack : MethodName := ⟨RX4, "unpack", "(J)V"⟩
abbrev cX4_digested : ByteArray := prog_6_method_16_code
def yX4_digested : MethodName := ⟨RX4, "digested", "(J)J"⟩
def RX5 : String := "SetAsMeant$Trial"
def TX5 : u_T := fun k => match k with
  | 0 => ("SetAsMeant$Trial", "signs", "[I", true)
  | 1 => ("SetAsMeant$Trial", "holding", "[I", true)
  | 2 => ("SetAsMeant$Trial", "size", "I", false)
  | _ => ("SetAsMeant$Trial", "press", "LSetAsMeant$Press;", false)
def tyX5 : Nat → FieldType := fun k => match k with
  | 0 => .array .int
  | 1 => .array .int
  | 2 => .int
  | _ => .object "SetAsMeant$Press"
abbrev wsX50 : List Cond := u_ws RX5 TX5 4
theorem nmX5 : ∀ a, a < 4 → ∀ b, b < 4 → a ≠ b → (TX5 a).2.1 ≠ (TX5 b).2.1 := by decide +kernel
theorem tyX5_ok : ∀ k, k < 4 → parseFieldDescriptor (TX5 k).2.2.1 = some (tyX5 k) := by decide +kernel
abbrev cX5_init : ByteArray := prog_7_method_1_code
def yX5_init : MethodName := ⟨RX5, "<init>", "()V"⟩
abbrev cX5_lie : ByteArray := prog_7_method_2_code
def yX5_lie : MethodName := ⟨RX5, "lie", "(LSetAsMeant$Row;LSetAsMeant$Press;)V"⟩
abbrev cX5_outBy : ByteArray := prog_7_method_3_code
def yX5_outBy : MethodName := ⟨RX5, "outBy", "(I)J"⟩
def RX6 : String := "SetAsMeant$Writings"
def TX6 : u_T := fun k => match k with
  | 0 => ("SetAsMeant$Writings", "pieces", "[J", true)
  | 1 => ("SetAsMeant$Writings", "sizes", "[I", true)
  | 2 => ("SetAsMeant$Writings", "ways", "[J", true)
  | 3 => ("SetAsMeant$Writings", "ends", "[I", true)
  | 4 => ("SetAsMeant$Writings", "aim", "J", false)
  | _ => ("SetAsMeant$Writings", "aimSize", "I", false)
def tyX6 : Nat → FieldType := fun k => match k with
  | 0 => .array .long
  | 1 => .array .int
  | 2 => .array .long
  | 3 => .array .int
  | 4 => .long
  | _ => .int
abbrev wsX60 : List Cond := u_ws RX6 TX6 6
theorem nmX6 : ∀ a, a < 6 → ∀ b, b < 6 → a ≠ b → (TX6 a).2.1 ≠ (TX6 b).2.1 := by decide +kernel
theorem tyX6_ok : ∀ k, k < 6 → parseFieldDescriptor (TX6 k).2.2.1 = some (tyX6 k) := by decide +kernel
abbrev cX6_init : ByteArray := prog_8_method_1_code
def yX6_init : MethodName := ⟨RX6, "<init>", "()V"⟩
abbrev cX6_know : ByteArray := prog_8_method_2_code
def yX6_know : MethodName := ⟨RX6, "know", "(LSetAsMeant$Press;)V"⟩
abbrev cX6_pieceOf : ByteArray := prog_8_method_3_code
def yX6_pieceOf : MethodName := ⟨RX6, "pieceOf", "(II)I"⟩
abbrev cX6_aim : ByteArray := prog_8_method_4_code
def yX6_aim : MethodName := ⟨RX6, "aim", "(JI)V"⟩
abbrev cX6_wayOf : ByteArray := prog_8_method_5_code
def yX6_wayOf : MethodName := ⟨RX6, "wayOf", "(III)I"⟩
abbrev cX6_waysFrom : ByteArray := prog_8_method_6_code
def yX6_waysFrom : MethodName := ⟨RX6, "waysFrom", "(III)J"⟩
abbrev cX6_placeAfter : ByteArray := prog_8_method_7_code
def yX6_placeAfter : MethodName := ⟨RX6, "placeAfter", "(III)I"⟩
abbrev cX6_many : ByteArray := prog_8_method_8_code
def yX6_many : MethodName := ⟨RX6, "many", "(I)J"⟩
abbrev cX6_usedFor : ByteArray := prog_8_method_9_code
def yX6_usedFor : MethodName := ⟨RX6, "usedFor", "(J)J"⟩
abbrev cX6_usedFrom : ByteArray := prog_8_method_10_code
def yX6_usedFrom : MethodName := ⟨RX6, "usedFrom", "(III)J"⟩
abbrev cX6_withSign : ByteArray := prog_8_method_11_code
def yX6_withSign : MethodName := ⟨RX6, "withSign", "(JIJ)J"⟩
abbrev cX6_earliest : ByteArray := prog_8_method_12_code
def yX6_earliest : MethodName := ⟨RX6, "earliest", "(J)J"⟩
abbrev cX6_earliestOf : ByteArray := prog_8_method_13_code
def yX6_earliestOf : MethodName := ⟨RX6, "earliestOf", "(I)J"⟩
abbrev cX6_manyWithout : ByteArray := prog_8_method_14_code
def yX6_manyWithout : MethodName := ⟨RX6, "manyWithout", "(II)I"⟩
abbrev cX6_endOf : ByteArray := prog_8_method_15_code
def yX6_endOf : MethodName := ⟨RX6, "endOf", "(II)I"⟩
abbrev cX6_endsWithout : ByteArray := prog_8_method_16_code
def yX6_endsWithout : MethodName := ⟨RX6, "endsWithout", "(III)I"⟩
abbrev cX6_isWithout : ByteArray := prog_8_method_17_code
def yX6_isWithout : MethodName := ⟨RX6, "isWithout", "(III)Z"⟩
abbrev cX6_outOfNumbered : ByteArray := prog_8_method_18_code
def yX6_outOfNumbered : MethodName := ⟨RX6, "outOfNumbered", "(II)J"⟩
def RX7 : String := "SetAsMeant"
def TX7 : u_T := fun k => match k with
  | 0 => ("SetAsMeant", "rows", "[LSetAsMeant$Row;", true)
  | 1 => ("SetAsMeant", "texts", "[LSetAsMeant$Row;", true)
  | 2 => ("SetAsMeant", "reader", "LSetAsMeant$Reader;", true)
  | 3 => ("SetAsMeant", "now", "LSetAsMeant$Press;", true)
  | 4 => ("SetAsMeant", "kept", "[LSetAsMeant$Press;", true)
  | 5 => ("SetAsMeant", "writings", "LSetAsMeant$Writings;", true)
  | 6 => ("SetAsMeant", "alikes", "LSetAsMeant$Alikes;", true)
  | 7 => ("SetAsMeant", "scratch", "LSetAsMeant$Row;", true)
  | 8 => ("SetAsMeant", "trial", "LSetAsMeant$Trial;", true)
  | 9 => ("SetAsMeant", "spare", "LSetAsMeant$Law;", true)
  | 10 => ("SetAsMeant", "seen", "[J", true)
  | 11 => ("SetAsMeant", "answered", "[I", true)
  | 12 => ("SetAsMeant", "latest", "I", false)
  | 13 => ("SetAsMeant", "told", "I", false)
  | 14 => ("SetAsMeant", "above", "J", false)
  | _ => ("SetAsMeant", "below", "J", false)
def tyX7 : Nat → FieldType := fun k => match k with
  | 0 => .array (.object "SetAsMeant$Row")
  | 1 => .array (.object "SetAsMeant$Row")
  | 2 => .object "SetAsMeant$Reader"
  | 3 => .object "SetAsMeant$Press"
  | 4 => .array (.object "SetAsMeant$Press")
  | 5 => .object "SetAsMeant$Writings"
  | 6 => .object "SetAsMeant$Alikes"
  | 7 => .object "SetAsMeant$Row"
  | 8 => .object "SetAsMeant$Trial"
  | 9 => .object "SetAsMeant$Law"
  | 10 => .array .long
  | 11 => .array .int
  | 12 => .int
  | 13 => .int
  | 14 => .long
  | _ => .long
abbrev wsX70 : List Cond := u_ws RX7 TX7 16
theorem nmX7 : ∀ a, a < 16 → ∀ b, b < 16 → a ≠ b → (TX7 a).2.1 ≠ (TX7 b).2.1 := by decide +kernel
theorem tyX7_ok : ∀ k, k < 16 → parseFieldDescriptor (TX7 k).2.2.1 = some (tyX7 k) := by decide +kernel
abbrev cX7_init : ByteArray := prog_1_method_1_code
def yX7_init : MethodName := ⟨RX7, "<init>", "()V"⟩
abbrev cX7_row : ByteArray := prog_1_method_2_code
def yX7_row : MethodName := ⟨RX7, "row", "(II)I"⟩
abbrev cX7_lay : ByteArray := prog_1_method_3_code
def yX7_lay : MethodName := ⟨RX7, "lay", "(III)I"⟩
abbrev cX7_at : ByteArray := prog_1_method_4_code
def yX7_at : MethodName := ⟨RX7, "at", "(II)I"⟩
abbrev cX7_tear : ByteArray := prog_1_method_5_code
def yX7_tear : MethodName := ⟨RX7, "tear", "(I)I"⟩
abbrev cX7_copy : ByteArray := prog_1_method_6_code
def yX7_copy : MethodName := ⟨RX7, "copy", "(IIIII)I"⟩
abbrev cX7_mean : ByteArray := prog_1_method_7_code
def yX7_mean : MethodName := ⟨RX7, "mean", "(I)I"⟩
abbrev cX7_text : ByteArray := prog_1_method_8_code
def yX7_text : MethodName := ⟨RX7, "text", "(II)I"⟩
abbrev cX7_put : ByteArray := prog_1_method_9_code
def yX7_put : MethodName := ⟨RX7, "put", "(III)I"⟩
abbrev cX7_fault : ByteArray := prog_1_method_10_code
def yX7_fault : MethodName := ⟨RX7, "fault", "(I)I"⟩
abbrev cX7_press : ByteArray := prog_1_method_11_code
def yX7_press : MethodName := ⟨RX7, "press", "(I)I"⟩
abbrev cX7_law : ByteArray := prog_1_method_12_code
def yX7_law : MethodName := ⟨RX7, "law", "(II)I"⟩
abbrev cX7_mark : ByteArray := prog_1_method_13_code
def yX7_mark : MethodName := ⟨RX7, "mark", "(II)I"⟩
abbrev cX7_hush : ByteArray := prog_1_method_14_code
def yX7_hush : MethodName := ⟨RX7, "hush", "(II)I"⟩
abbrev cX7_swap : ByteArray := prog_1_method_15_code
def yX7_swap : MethodName := ⟨RX7, "swap", "(II)I"⟩
abbrev cX7_set : ByteArray := prog_1_method_16_code
def yX7_set : MethodName := ⟨RX7, "set", "(II)I"⟩
abbrev cX7_by : ByteArray := prog_1_method_17_code
def yX7_by : MethodName := ⟨RX7, "by", "(II)I"⟩
abbrev cX7_first : ByteArray := prog_1_method_18_code
def yX7_first : MethodName := ⟨RX7, "first", "(I)I"⟩
abbrev cX7_again : ByteArray := prog_1_method_19_code
def yX7_again : MethodName := ⟨RX7, "again", "(III)I"⟩
abbrev cX7_rests : ByteArray := prog_1_method_20_code
def yX7_rests : MethodName := ⟨RX7, "rests", "(I)I"⟩
abbrev cX7_same : ByteArray := prog_1_method_21_code
def yX7_same : MethodName := ⟨RX7, "same", "(II)I"⟩
abbrev cX7_meant : ByteArray := prog_1_method_22_code
def yX7_meant : MethodName := ⟨RX7, "meant", "(II)I"⟩
abbrev cX7_smallest : ByteArray := prog_1_method_23_code
def yX7_smallest : MethodName := ⟨RX7, "smallest", "(II)I"⟩
abbrev cX7_outs : ByteArray := prog_1_method_24_code
def yX7_outs : MethodName := ⟨RX7, "outs", "(I)I"⟩
abbrev cX7_twins : ByteArray := prog_1_method_25_code
def yX7_twins : MethodName := ⟨RX7, "twins", "(II)I"⟩
abbrev cX7_harmless : ByteArray := prog_1_method_26_code
def yX7_harmless : MethodName := ⟨RX7, "harmless", "(II)I"⟩
abbrev cX7_believed : ByteArray := prog_1_method_27_code
def yX7_believed : MethodName := ⟨RX7, "believed", "(III)I"⟩
abbrev cX7_forbid : ByteArray := prog_1_method_28_code
def yX7_forbid : MethodName := ⟨RX7, "forbid", "(I)I"⟩
abbrev cX7_silence : ByteArray := prog_1_method_29_code
def yX7_silence : MethodName := ⟨RX7, "silence", "(II)I"⟩
abbrev cX7_which : ByteArray := prog_1_method_30_code
def yX7_which : MethodName := ⟨RX7, "which", "(II)I"⟩
abbrev cX7_kinds : ByteArray := prog_1_method_31_code
def yX7_kinds : MethodName := ⟨RX7, "kinds", "(III)I"⟩
abbrev cX7_odds : ByteArray := prog_1_method_32_code
def yX7_odds : MethodName := ⟨RX7, "odds", "(III)I"⟩
abbrev cX7_mid : ByteArray := prog_1_method_33_code
def yX7_mid : MethodName := ⟨RX7, "mid", "(II)I"⟩
abbrev cX7_print : ByteArray := prog_1_method_34_code
def yX7_print : MethodName := ⟨RX7, "print", "(I)I"⟩
abbrev cX7_ink : ByteArray := prog_1_method_35_code
def yX7_ink : MethodName := ⟨RX7, "ink", "(I)I"⟩
abbrev cX7_undo : ByteArray := prog_1_method_36_code
def yX7_undo : MethodName := ⟨RX7, "undo", "(I)I"⟩
abbrev cX7_drawer : ByteArray := prog_1_method_37_code
def yX7_drawer : MethodName := ⟨RX7, "drawer", "(II)I"⟩
abbrev cX7_lots : ByteArray := prog_1_method_38_code
def yX7_lots : MethodName := ⟨RX7, "lots", "(II)I"⟩
abbrev cX7_keep : ByteArray := prog_1_method_39_code
def yX7_keep : MethodName := ⟨RX7, "keep", "(I)I"⟩
abbrev cX7_on : ByteArray := prog_1_method_40_code
def yX7_on : MethodName := ⟨RX7, "on", "(I)I"⟩
abbrev cX7_asked : ByteArray := prog_1_method_41_code
def yX7_asked : MethodName := ⟨RX7, "asked", "()I"⟩
abbrev cX7_upper : ByteArray := prog_1_method_42_code
def yX7_upper : MethodName := ⟨RX7, "upper", "()J"⟩
abbrev cX7_lower : ByteArray := prog_1_method_43_code
def yX7_lower : MethodName := ⟨RX7, "lower", "()J"⟩
abbrev cX7_count : ByteArray := prog_1_method_44_code
def yX7_count : MethodName := ⟨RX7, "count", "(I)I"⟩
abbrev cX7_finding : ByteArray := prog_1_method_45_code
def yX7_finding : MethodName := ⟨RX7, "finding", "()I"⟩
abbrev cX7_findings : ByteArray := prog_1_method_46_code
def yX7_findings : MethodName := ⟨RX7, "findings", "(I)I"⟩
abbrev cX7_digest : ByteArray := prog_1_method_47_code
def yX7_digest : MethodName := ⟨RX7, "digest", "()J"⟩
abbrev cX7_rowOf : ByteArray := prog_1_method_48_code
def yX7_rowOf : MethodName := ⟨RX7, "rowOf", "(I)LSetAsMeant$Row;"⟩
abbrev cX7_textOf : ByteArray := prog_1_method_49_code
def yX7_textOf : MethodName := ⟨RX7, "textOf", "(I)LSetAsMeant$Row;"⟩
abbrev cX7_answer : ByteArray := prog_1_method_50_code
def yX7_answer : MethodName := ⟨RX7, "answer", "(I)I"⟩
abbrev cX7_refuses : ByteArray := prog_1_method_51_code
def yX7_refuses : MethodName := ⟨RX7, "refuses", "(LSetAsMeant$Row;I)Z"⟩
abbrev cX7_placeSeen : ByteArray := prog_1_method_52_code
def yX7_placeSeen : MethodName := ⟨RX7, "placeSeen", "(JI)I"⟩
abbrev cX7_setsWithout : ByteArray := prog_1_method_53_code
def yX7_setsWithout : MethodName := ⟨RX7, "setsWithout", "(I)J"⟩
abbrev cX7_weight : ByteArray := prog_1_method_54_code
def yX7_weight : MethodName := ⟨RX7, "weight", "(III)J"⟩
abbrev cX7_tell : ByteArray := prog_1_method_55_code
def yX7_tell : MethodName := ⟨RX7, "tell", "(JJ)V"⟩
abbrev cX7_lotAfter : ByteArray := prog_1_method_56_code
def yX7_lotAfter : MethodName := ⟨RX7, "lotAfter", "(J)J"⟩
abbrev cX7_manyThere : ByteArray := prog_1_method_57_code
def yX7_manyThere : MethodName := ⟨RX7, "manyThere", "([LSetAsMeant$Row;)I"⟩
abbrev cX7_pressesKept : ByteArray := prog_1_method_58_code
def yX7_pressesKept : MethodName := ⟨RX7, "pressesKept", "()I"⟩
abbrev cX7_packed : ByteArray := prog_1_method_59_code
def yX7_packed : MethodName := ⟨RX7, "packed", "(JI)J"⟩
abbrev cX7_signsIn : ByteArray := prog_1_method_60_code
def yX7_signsIn : MethodName := ⟨RX7, "signsIn", "(J)I"⟩
def RX8 : String := "SetAsMeantModel"
def TX8 : u_T := fun k => match k with
  | 0 => ("SetAsMeantModel", "finding", "I", false)
  | 1 => ("SetAsMeantModel", "findings", "[I", true)
  | 2 => ("SetAsMeantModel", "asked", "I", false)
  | 3 => ("SetAsMeantModel", "upper", "J", false)
  | 4 => ("SetAsMeantModel", "lower", "J", false)
  | 5 => ("SetAsMeantModel", "sizes", "[I", true)
  | 6 => ("SetAsMeantModel", "rows", "[I", true)
  | 7 => ("SetAsMeantModel", "moving", "[I", true)
  | 8 => ("SetAsMeantModel", "lengths", "[I", true)
  | 9 => ("SetAsMeantModel", "texts", "[I", true)
  | 10 => ("SetAsMeantModel", "many", "I", false)
  | 11 => ("SetAsMeantModel", "laws", "[I", true)
  | 12 => ("SetAsMeantModel", "readAt", "I", false)
  | 13 => ("SetAsMeantModel", "readMany", "I", false)
  | 14 => ("SetAsMeantModel", "read", "[I", true)
  | 15 => ("SetAsMeantModel", "sheet", "[I", true)
  | 16 => ("SetAsMeantModel", "sheetMany", "I", false)
  | 17 => ("SetAsMeantModel", "out", "[I", true)
  | 18 => ("SetAsMeantModel", "outMany", "I", false)
  | 19 => ("SetAsMeantModel", "cameMany", "[I", true)
  | 20 => ("SetAsMeantModel", "came", "[I", true)
  | 21 => ("SetAsMeantModel", "other", "[I", true)
  | 22 => ("SetAsMeantModel", "goal", "[I", true)
  | 23 => ("SetAsMeantModel", "goalMany", "I", false)
  | 24 => ("SetAsMeantModel", "codes", "[J", true)
  | 25 => ("SetAsMeantModel", "written", "[Z", true)
  | 26 => ("SetAsMeantModel", "deedMany", "I", false)
  | 27 => ("SetAsMeantModel", "inks", "[I", true)
  | 28 => ("SetAsMeantModel", "drawers", "[I", true)
  | 29 => ("SetAsMeantModel", "kept", "[I", true)
  | _ => ("SetAsMeantModel", "h0", "J", false)
def tyX8 : Nat → FieldType := fun k => match k with
  | 0 => .int
  | 1 => .array .int
  | 2 => .int
  | 3 => .long
  | 4 => .long
  | 5 => .array .int
  | 6 => .array .int
  | 7 => .array .int
  | 8 => .array .int
  | 9 => .array .int
  | 10 => .int
  | 11 => .array .int
  | 12 => .int
  | 13 => .int
  | 14 => .array .int
  | 15 => .array .int
  | 16 => .int
  | 17 => .array .int
  | 18 => .int
  | 19 => .array .int
  | 20 => .array .int
  | 21 => .array .int
  | 22 => .array .int
  | 23 => .int
  | 24 => .array .long
  | 25 => .array .boolean
  | 26 => .int
  | 27 => .array .int
  | 28 => .array .int
  | 29 => .array .int
  | _ => .long
abbrev wsX80 : List Cond := u_ws RX8 TX8 31
theorem nmX8 : ∀ a, a < 31 → ∀ b, b < 31 → a ≠ b → (TX8 a).2.1 ≠ (TX8 b).2.1 := by decide +kernel
theorem tyX8_ok : ∀ k, k < 31 → parseFieldDescriptor (TX8 k).2.2.1 = some (tyX8 k) := by decide +kernel
abbrev cX8_init : ByteArray := prog_10_method_1_code
def yX8_init : MethodName := ⟨RX8, "<init>", "()V"⟩
abbrev cX8_in : ByteArray := prog_10_method_3_code
def yX8_in : MethodName := ⟨RX8, "in", "(III)Z"⟩
abbrev cX8_meet : ByteArray := prog_10_method_4_code
def yX8_meet : MethodName := ⟨RX8, "meet", "(I)I"⟩
abbrev cX8_ask : ByteArray := prog_10_method_5_code
def yX8_ask : MethodName := ⟨RX8, "ask", "(II)I"⟩
abbrev cX8_has : ByteArray := prog_10_method_6_code
def yX8_has : MethodName := ⟨RX8, "has", "(II)Z"⟩
abbrev cX8_sizeOf : ByteArray := prog_10_method_7_code
def yX8_sizeOf : MethodName := ⟨RX8, "sizeOf", "(I)I"⟩
abbrev cX8_part : ByteArray := prog_10_method_8_code
def yX8_part : MethodName := ⟨RX8, "part", "(JJ)I"⟩
abbrev cX8_isRow : ByteArray := prog_10_method_9_code
def yX8_isRow : MethodName := ⟨RX8, "isRow", "(I)Z"⟩
abbrev cX8_isText : ByteArray := prog_10_method_10_code
def yX8_isText : MethodName := ⟨RX8, "isText", "(I)Z"⟩
abbrev cX8_askedRow : ByteArray := prog_10_method_11_code
def yX8_askedRow : MethodName := ⟨RX8, "askedRow", "(I)I"⟩
abbrev cX8_askedText : ByteArray := prog_10_method_12_code
def yX8_askedText : MethodName := ⟨RX8, "askedText", "(I)I"⟩
abbrev cX8_rowAt : ByteArray := prog_10_method_13_code
def yX8_rowAt : MethodName := ⟨RX8, "rowAt", "(II)I"⟩
abbrev cX8_setRow : ByteArray := prog_10_method_14_code
def yX8_setRow : MethodName := ⟨RX8, "setRow", "(III)V"⟩
abbrev cX8_row : ByteArray := prog_10_method_15_code
def yX8_row : MethodName := ⟨RX8, "row", "(II)I"⟩
abbrev cX8_at : ByteArray := prog_10_method_16_code
def yX8_at : MethodName := ⟨RX8, "at", "(II)I"⟩
abbrev cX8_lay : ByteArray := prog_10_method_17_code
def yX8_lay : MethodName := ⟨RX8, "lay", "(III)I"⟩
abbrev cX8_tear : ByteArray := prog_10_method_18_code
def yX8_tear : MethodName := ⟨RX8, "tear", "(I)I"⟩
abbrev cX8_copy : ByteArray := prog_10_method_19_code
def yX8_copy : MethodName := ⟨RX8, "copy", "(IIIII)I"⟩
abbrev cX8_mean : ByteArray := prog_10_method_20_code
def yX8_mean : MethodName := ⟨RX8, "mean", "(I)I"⟩
abbrev cX8_text : ByteArray := prog_10_method_21_code
def yX8_text : MethodName := ⟨RX8, "text", "(II)I"⟩
abbrev cX8_put : ByteArray := prog_10_method_22_code
def yX8_put : MethodName := ⟨RX8, "put", "(III)I"⟩
abbrev cX8_here : ByteArray := prog_10_method_23_code
def yX8_here : MethodName := ⟨RX8, "here", "(I)I"⟩
abbrev cX8_kindBy : ByteArray := prog_10_method_24_code
def yX8_kindBy : MethodName := ⟨RX8, "kindBy", "(I)I"⟩
abbrev cX8_hasZ : ByteArray := prog_10_method_25_code
def yX8_hasZ : MethodName := ⟨RX8, "hasZ", "(I)Z"⟩
abbrev cX8_readsLaw : ByteArray := prog_10_method_26_code
def yX8_readsLaw : MethodName := ⟨RX8, "readsLaw", "(I)Z"⟩
abbrev cX8_goesOn : ByteArray := prog_10_method_27_code
def yX8_goesOn : MethodName := ⟨RX8, "goesOn", "(I)I"⟩
abbrev cX8_fault : ByteArray := prog_10_method_28_code
def yX8_fault : MethodName := ⟨RX8, "fault", "(I)I"⟩
abbrev cX8_press : ByteArray := prog_10_method_29_code
def yX8_press : MethodName := ⟨RX8, "press", "(I)I"⟩
abbrev cX8_isLaw : ByteArray := prog_10_method_30_code
def yX8_isLaw : MethodName := ⟨RX8, "isLaw", "(I)Z"⟩
abbrev cX8_isSign : ByteArray := prog_10_method_31_code
def yX8_isSign : MethodName := ⟨RX8, "isSign", "(I)Z"⟩
abbrev cX8_lawOf : ByteArray := prog_10_method_32_code
def yX8_lawOf : MethodName := ⟨RX8, "lawOf", "(II)I"⟩
abbrev cX8_law : ByteArray := prog_10_method_33_code
def yX8_law : MethodName := ⟨RX8, "law", "(II)I"⟩
abbrev cX8_onSet : ByteArray := prog_10_method_34_code
def yX8_onSet : MethodName := ⟨RX8, "onSet", "()I"⟩
abbrev cX8_holds : ByteArray := prog_10_method_35_code
def yX8_holds : MethodName := ⟨RX8, "holds", "(II)Z"⟩
abbrev cX8_lawAt : ByteArray := prog_10_method_36_code
def yX8_lawAt : MethodName := ⟨RX8, "lawAt", "(II)I"⟩
abbrev cX8_comes : ByteArray := prog_10_method_37_code
def yX8_comes : MethodName := ⟨RX8, "comes", "(I)V"⟩
abbrev cX8_setBy : ByteArray := prog_10_method_38_code
def yX8_setBy : MethodName := ⟨RX8, "setBy", "(I)V"⟩
abbrev cX8_laySheet : ByteArray := prog_10_method_39_code
def yX8_laySheet : MethodName := ⟨RX8, "laySheet", "(I)V"⟩
abbrev cX8_outToSheet : ByteArray := prog_10_method_40_code
def yX8_outToSheet : MethodName := ⟨RX8, "outToSheet", "()V"⟩
abbrev cX8_sheetToRow : ByteArray := prog_10_method_41_code
def yX8_sheetToRow : MethodName := ⟨RX8, "sheetToRow", "(I)I"⟩
abbrev cX8_outToRow : ByteArray := prog_10_method_42_code
def yX8_outToRow : MethodName := ⟨RX8, "outToRow", "(I)I"⟩
abbrev cX8_askedSigns : ByteArray := prog_10_method_43_code
def yX8_askedSigns : MethodName := ⟨RX8, "askedSigns", "(II)I"⟩
abbrev cX8_isOut : ByteArray := prog_10_method_44_code
def yX8_isOut : MethodName := ⟨RX8, "isOut", "(I)Z"⟩
abbrev cX8_isAsWritten : ByteArray := prog_10_method_45_code
def yX8_isAsWritten : MethodName := ⟨RX8, "isAsWritten", "()Z"⟩
abbrev cX8_lay_ : ByteArray := prog_10_method_46_code
def yX8_lay_ : MethodName := ⟨RX8, "lay", "(II)V"⟩
abbrev cX8_othersOf : ByteArray := prog_10_method_47_code
def yX8_othersOf : MethodName := ⟨RX8, "othersOf", "(I)I"⟩
abbrev cX8_isA : ByteArray := prog_10_method_48_code
def yX8_isA : MethodName := ⟨RX8, "isA", "(II)Z"⟩
abbrev cX8_marked : ByteArray := prog_10_method_49_code
def yX8_marked : MethodName := ⟨RX8, "marked", "(II)I"⟩
abbrev cX8_mark : ByteArray := prog_10_method_50_code
def yX8_mark : MethodName := ⟨RX8, "mark", "(II)I"⟩
abbrev cX8_hush : ByteArray := prog_10_method_51_code
def yX8_hush : MethodName := ⟨RX8, "hush", "(II)I"⟩
abbrev cX8_swap : ByteArray := prog_10_method_52_code
def yX8_swap : MethodName := ⟨RX8, "swap", "(II)I"⟩
abbrev cX8_set : ByteArray := prog_10_method_53_code
def yX8_set : MethodName := ⟨RX8, "set", "(II)I"⟩
abbrev cX8_by : ByteArray := prog_10_method_54_code
def yX8_by : MethodName := ⟨RX8, "by", "(II)I"⟩
abbrev cX8_first : ByteArray := prog_10_method_55_code
def yX8_first : MethodName := ⟨RX8, "first", "(I)I"⟩
abbrev cX8_again : ByteArray := prog_10_method_56_code
def yX8_again : MethodName := ⟨RX8, "again", "(III)I"⟩
abbrev cX8_isAsCame : ByteArray := prog_10_method_57_code
def yX8_isAsCame : MethodName := ⟨RX8, "isAsCame", "(I)Z"⟩
abbrev cX8_rests : ByteArray := prog_10_method_58_code
def yX8_rests : MethodName := ⟨RX8, "rests", "(I)I"⟩
abbrev cX8_same : ByteArray := prog_10_method_59_code
def yX8_same : MethodName := ⟨RX8, "same", "(II)I"⟩
abbrev cX8_sheetsOf : ByteArray := prog_10_method_60_code
def yX8_sheetsOf : MethodName := ⟨RX8, "sheetsOf", "(I)I"⟩
abbrev cX8_layNumber : ByteArray := prog_10_method_61_code
def yX8_layNumber : MethodName := ⟨RX8, "layNumber", "(II)V"⟩
abbrev cX8_meant : ByteArray := prog_10_method_62_code
def yX8_meant : MethodName := ⟨RX8, "meant", "(II)I"⟩
abbrev cX8_isGoal : ByteArray := prog_10_method_63_code
def yX8_isGoal : MethodName := ⟨RX8, "isGoal", "()Z"⟩
abbrev cX8_layGoal : ByteArray := prog_10_method_64_code
def yX8_layGoal : MethodName := ⟨RX8, "layGoal", "(I)V"⟩
abbrev cX8_findsFirst : ByteArray := prog_10_method_65_code
def yX8_findsFirst : MethodName := ⟨RX8, "findsFirst", "()Z"⟩
abbrev cX8_smallest : ByteArray := prog_10_method_66_code
def yX8_smallest : MethodName := ⟨RX8, "smallest", "(II)I"⟩
abbrev cX8_codeOf : ByteArray := prog_10_method_67_code
def yX8_codeOf : MethodName := ⟨RX8, "codeOf", "()J"⟩
abbrev cX8_layCodes : ByteArray := prog_10_method_68_code
def yX8_layCodes : MethodName := ⟨RX8, "layCodes", "(I)V"⟩
abbrev cX8_twinOf : ByteArray := prog_10_method_69_code
def yX8_twinOf : MethodName := ⟨RX8, "twinOf", "(II)I"⟩
abbrev cX8_outs : ByteArray := prog_10_method_70_code
def yX8_outs : MethodName := ⟨RX8, "outs", "(I)I"⟩
abbrev cX8_twins : ByteArray := prog_10_method_71_code
def yX8_twins : MethodName := ⟨RX8, "twins", "(II)I"⟩
abbrev cX8_harmless : ByteArray := prog_10_method_72_code
def yX8_harmless : MethodName := ⟨RX8, "harmless", "(II)I"⟩
abbrev cX8_believed : ByteArray := prog_10_method_73_code
def yX8_believed : MethodName := ⟨RX8, "believed", "(III)I"⟩
abbrev cX8_forbid : ByteArray := prog_10_method_74_code
def yX8_forbid : MethodName := ⟨RX8, "forbid", "(I)I"⟩
abbrev cX8_askedBoth : ByteArray := prog_10_method_75_code
def yX8_askedBoth : MethodName := ⟨RX8, "askedBoth", "(II)I"⟩
abbrev cX8_silence : ByteArray := prog_10_method_76_code
def yX8_silence : MethodName := ⟨RX8, "silence", "(II)I"⟩
abbrev cX8_which : ByteArray := prog_10_method_77_code
def yX8_which : MethodName := ⟨RX8, "which", "(II)I"⟩
abbrev cX8_kinds : ByteArray := prog_10_method_78_code
def yX8_kinds : MethodName := ⟨RX8, "kinds", "(III)I"⟩
abbrev cX8_weight : ByteArray := prog_10_method_79_code
def yX8_weight : MethodName := ⟨RX8, "weight", "(III)J"⟩
abbrev cX8_whole : ByteArray := prog_10_method_80_code
def yX8_whole : MethodName := ⟨RX8, "whole", "(I)J"⟩
abbrev cX8_odds : ByteArray := prog_10_method_81_code
def yX8_odds : MethodName := ⟨RX8, "odds", "(III)I"⟩
abbrev cX8_mid : ByteArray := prog_10_method_82_code
def yX8_mid : MethodName := ⟨RX8, "mid", "(II)I"⟩
abbrev cX8_print : ByteArray := prog_10_method_83_code
def yX8_print : MethodName := ⟨RX8, "print", "(I)I"⟩
abbrev cX8_ink : ByteArray := prog_10_method_84_code
def yX8_ink : MethodName := ⟨RX8, "ink", "(I)I"⟩
abbrev cX8_undo : ByteArray := prog_10_method_85_code
def yX8_undo : MethodName := ⟨RX8, "undo", "(I)I"⟩
abbrev cX8_drawer : ByteArray := prog_10_method_86_code
def yX8_drawer : MethodName := ⟨RX8, "drawer", "(II)I"⟩
abbrev cX8_lots : ByteArray := prog_10_method_87_code
def yX8_lots : MethodName := ⟨RX8, "lots", "(II)I"⟩
abbrev cX8_keep : ByteArray := prog_10_method_88_code
def yX8_keep : MethodName := ⟨RX8, "keep", "(I)I"⟩
abbrev cX8_on : ByteArray := prog_10_method_89_code
def yX8_on : MethodName := ⟨RX8, "on", "(I)I"⟩
abbrev cX8_asked : ByteArray := prog_10_method_90_code
def yX8_asked : MethodName := ⟨RX8, "asked", "()I"⟩
abbrev cX8_upper : ByteArray := prog_10_method_91_code
def yX8_upper : MethodName := ⟨RX8, "upper", "()J"⟩
abbrev cX8_lower : ByteArray := prog_10_method_92_code
def yX8_lower : MethodName := ⟨RX8, "lower", "()J"⟩
abbrev cX8_tells : ByteArray := prog_10_method_93_code
def yX8_tells : MethodName := ⟨RX8, "tells", "(I)I"⟩
abbrev cX8_count : ByteArray := prog_10_method_94_code
def yX8_count : MethodName := ⟨RX8, "count", "(I)I"⟩
abbrev cX8_finding : ByteArray := prog_10_method_95_code
def yX8_finding : MethodName := ⟨RX8, "finding", "()I"⟩
abbrev cX8_findings : ByteArray := prog_10_method_96_code
def yX8_findings : MethodName := ⟨RX8, "findings", "(I)I"⟩
abbrev cX8_mix : ByteArray := prog_10_method_97_code
def yX8_mix : MethodName := ⟨RX8, "mix", "(I)V"⟩
abbrev cX8_mixPress : ByteArray := prog_10_method_98_code
def yX8_mixPress : MethodName := ⟨RX8, "mixPress", "()V"⟩
abbrev cX8_digest : ByteArray := prog_10_method_99_code
def yX8_digest : MethodName := ⟨RX8, "digest", "()J"⟩
def RJ6 : String := "java/lang/Integer"
def TJ6 : u_T := fun k => match k with
  | _ => ("", "", "", false)
def tyJ6 : Nat → FieldType := fun k => match k with
  | _ => .int
abbrev wsJ60 : List Cond := u_ws RJ6 TJ6 0
theorem nmJ6 : ∀ a, a < 0 → ∀ b, b < 0 → a ≠ b → (TJ6 a).2.1 ≠ (TJ6 b).2.1 := by decide +kernel
theorem tyJ6_ok : ∀ k, k < 0 → parseFieldDescriptor (TJ6 k).2.2.1 = some (tyJ6 k) := by decide +kernel
abbrev cJ6_bitCount_0f7a4 : ByteArray := prog_11_method_49_code
def yJ6_bitCount_0f7a4 : MethodName := ⟨RJ6, "bitCount", "(I)I"⟩
def RJ9 : String := "java/lang/Math"
def TJ9 : u_T := fun k => match k with
  | _ => ("", "", "", false)
def tyJ9 : Nat → FieldType := fun k => match k with
  | _ => .int
abbrev wsJ90 : List Cond := u_ws RJ9 TJ9 0
theorem nmJ9 : ∀ a, a < 0 → ∀ b, b < 0 → a ≠ b → (TJ9 a).2.1 ≠ (TJ9 b).2.1 := by decide +kernel
theorem tyJ9_ok : ∀ k, k < 0 → parseFieldDescriptor (TJ9 k).2.2.1 = some (tyJ9 k) := by decide +kernel
abbrev cJ9_max_7cf53 : ByteArray := prog_12_method_65_code
def yJ9_max_7cf53 : MethodName := ⟨RJ9, "max", "(II)I"⟩
abbrev cJ9_min_7cf53 : ByteArray := prog_12_method_69_code
def yJ9_min_7cf53 : MethodName := ⟨RJ9, "min", "(II)I"⟩
def RJ10 : String := "java/lang/System"
def TJ10 : u_T := fun k => match k with
  | _ => ("", "", "", false)
def tyJ10 : Nat → FieldType := fun k => match k with
  | _ => .int
abbrev wsJ100 : List Cond := u_ws RJ10 TJ10 0
theorem nmJ10 : ∀ a, a < 0 → ∀ b, b < 0 → a ≠ b → (TJ10 a).2.1 ≠ (TJ10 b).2.1 := by decide +kernel
theorem tyJ10_ok : ∀ k, k < 0 → parseFieldDescriptor (TJ10 k).2.2.1 = some (tyJ10 k) := by decide +kernel
def RJ7 : String := "java/util/Arrays"
def TJ7 : u_T := fun k => match k with
  | _ => ("", "", "", false)
def tyJ7 : Nat → FieldType := fun k => match k with
  | _ => .int
abbrev wsJ70 : List Cond := u_ws RJ7 TJ7 0
theorem nmJ7 : ∀ a, a < 0 → ∀ b, b < 0 → a ≠ b → (TJ7 a).2.1 ≠ (TJ7 b).2.1 := by decide +kernel
theorem tyJ7_ok : ∀ k, k < 0 → parseFieldDescriptor (TJ7 k).2.2.1 = some (tyJ7 k) := by decide +kernel
abbrev cJ7_fill_53178 : ByteArray := prog_14_method_103_code
def yJ7_fill_53178 : MethodName := ⟨RJ7, "fill", "([II)V"⟩
def RL : String := "SetAsMeantLaw"
abbrev cL_law : ByteArray := code
def yL_law : MethodName := ⟨RL, "law", "([I)Z"⟩
end
section
abbrev Mem : Type := (Nat → Nat → Nat → Int32) × (Nat → Nat → Nat → Int64) × (Nat → Nat → Nat → Option Nat)
def uI (σ : Mem) (c k j : Nat) (v : Int32) : Mem := (fun c' k' j' => if c' = c ∧ k' = k ∧ j' = j then v else σ.1 c' k' j', σ.2.1, σ.2.2)
def uJ (σ : Mem) (c k j : Nat) (v : Int64) : Mem := (σ.1, fun c' k' j' => if c' = c ∧ k' = k ∧ j' = j then v else σ.2.1 c' k' j', σ.2.2)
def uR (σ : Mem) (c k j : Nat) (v : Option Nat) : Mem := (σ.1, σ.2.1, fun c' k' j' => if c' = c ∧ k' = k ∧ j' = j then v else σ.2.2 c' k' j')
/-- a whole array of ints, or of longs, is another one -/
def aI (σ : Mem) (c k : Nat) (f : Nat → Int32) : Mem := (fun c' k' j' => if c' = c ∧ k' = k then f j' else σ.1 c' k' j', σ.2.1, σ.2.2)
def aJ (σ : Mem) (c k : Nat) (f : Nat → Int64) : Mem := (σ.1, fun c' k' j' => if c' = c ∧ k' = k then f j' else σ.2.1 c' k' j', σ.2.2)
abbrev SH : Type := (Nat × List (Nat × Nat × Nat)) ⊕ (Nat × Nat × Nat × Nat)
def shT : List SH := [
  .inl (7, [(3, 1, 0), (3, 2, 0), (3, 26, 0), (3, 69, 0), (3, 3, 0), (3, 85, 0), (3, 90, 0), (3, 24, 0), (3, 93, 0), (3, 68, 0), (3, 96, 0), (3, 97, 0), (0, 712, 0), (0, 713, 0), (1, 714, 0), (1, 715, 0)]),
  .inr (3, 6, 700, 0),
  .inr (3, 4, 701, 6),
  .inr (5, 3, 704, 1),
  .inl (4, [(3, 5, 0), (0, 401, 0)]),
  .inr (0, 40, 400, 0),
  .inl (4, [(3, 7, 0), (0, 401, 1)]),
  .inr (0, 40, 400, 1),
  .inl (4, [(3, 9, 0), (0, 401, 2)]),
  .inr (0, 40, 400, 2),
  .inl (4, [(3, 11, 0), (0, 401, 3)]),
  .inr (0, 40, 400, 3),
  .inl (4, [(3, 13, 0), (0, 401, 4)]),
  .inr (0, 40, 400, 4),
  .inl (4, [(3, 15, 0), (0, 401, 5)]),
  .inr (0, 40, 400, 5),
  .inl (4, [(3, 17, 0), (0, 401, 6)]),
  .inr (0, 60, 400, 6),
  .inl (4, [(3, 19, 0), (0, 401, 7)]),
  .inr (0, 60, 400, 7),
  .inl (4, [(3, 21, 0), (0, 401, 8)]),
  .inr (0, 60, 400, 8),
  .inl (4, [(3, 23, 0), (0, 401, 9)]),
  .inr (0, 60, 400, 9),
  .inl (4, [(3, 25, 0), (0, 401, 10)]),
  .inr (0, 16, 400, 10),
  .inl (3, [(3, 27, 0), (0, 301, 0)]),
  .inr (6, 8, 300, 32),
  .inl (1, [(0, 100, 0), (0, 101, 0), (0, 102, 0), (0, 103, 0), (2, 104, 0)]),
  .inl (1, [(0, 100, 1), (0, 101, 1), (0, 102, 1), (0, 103, 1), (2, 104, 1)]),
  .inl (1, [(0, 100, 2), (0, 101, 2), (0, 102, 2), (0, 103, 2), (2, 104, 2)]),
  .inl (1, [(0, 100, 3), (0, 101, 3), (0, 102, 3), (0, 103, 3), (2, 104, 3)]),
  .inl (1, [(0, 100, 4), (0, 101, 4), (0, 102, 4), (0, 103, 4), (2, 104, 4)]),
  .inl (1, [(0, 100, 5), (0, 101, 5), (0, 102, 5), (0, 103, 5), (2, 104, 5)]),
  .inl (1, [(0, 100, 6), (0, 101, 6), (0, 102, 6), (0, 103, 6), (2, 104, 6)]),
  .inl (1, [(0, 100, 7), (0, 101, 7), (0, 102, 7), (0, 103, 7), (2, 104, 7)]),
  .inl (1, [(0, 100, 8), (0, 101, 8), (0, 102, 8), (0, 103, 8), (2, 104, 8)]),
  .inl (1, [(0, 100, 9), (0, 101, 9), (0, 102, 9), (0, 103, 9), (2, 104, 9)]),
  .inl (1, [(0, 100, 10), (0, 101, 10), (0, 102, 10), (0, 103, 10), (2, 104, 10)]),
  .inl (1, [(0, 100, 11), (0, 101, 11), (0, 102, 11), (0, 103, 11), (2, 104, 11)]),
  .inl (1, [(0, 100, 12), (0, 101, 12), (0, 102, 12), (0, 103, 12), (2, 104, 12)]),
  .inl (1, [(0, 100, 13), (0, 101, 13), (0, 102, 13), (0, 103, 13), (2, 104, 13)]),
  .inl (1, [(0, 100, 14), (0, 101, 14), (0, 102, 14), (0, 103, 14), (2, 104, 14)]),
  .inl (1, [(0, 100, 15), (0, 101, 15), (0, 102, 15), (0, 103, 15), (2, 104, 15)]),
  .inl (1, [(0, 100, 16), (0, 101, 16), (0, 102, 16), (0, 103, 16), (2, 104, 16)]),
  .inl (1, [(0, 100, 17), (0, 101, 17), (0, 102, 17), (0, 103, 17), (2, 104, 17)]),
  .inl (1, [(0, 100, 18), (0, 101, 18), (0, 102, 18), (0, 103, 18), (2, 104, 18)]),
  .inl (1, [(0, 100, 19), (0, 101, 19), (0, 102, 19), (0, 103, 19), (2, 104, 19)]),
  .inl (1, [(0, 100, 20), (0, 101, 20), (0, 102, 20), (0, 103, 20), (2, 104, 20)]),
  .inl (1, [(0, 100, 21), (0, 101, 21), (0, 102, 21), (0, 103, 21), (2, 104, 21)]),
  .inl (1, [(0, 100, 22), (0, 101, 22), (0, 102, 22), (0, 103, 22), (2, 104, 22)]),
  .inl (1, [(0, 100, 23), (0, 101, 23), (0, 102, 23), (0, 103, 23), (2, 104, 23)]),
  .inl (1, [(0, 100, 24), (0, 101, 24), (0, 102, 24), (0, 103, 24), (2, 104, 24)]),
  .inl (1, [(0, 100, 25), (0, 101, 25), (0, 102, 25), (0, 103, 25), (2, 104, 25)]),
  .inl (1, [(0, 100, 26), (0, 101, 26), (0, 102, 26), (0, 103, 26), (2, 104, 26)]),
  .inl (1, [(0, 100, 27), (0, 101, 27), (0, 102, 27), (0, 103, 27), (2, 104, 27)]),
  .inl (1, [(0, 100, 28), (0, 101, 28), (0, 102, 28), (0, 103, 28), (2, 104, 28)]),
  .inl (1, [(0, 100, 29), (0, 101, 29), (0, 102, 29), (0, 103, 29), (2, 104, 29)]),
  .inl (1, [(0, 100, 30), (0, 101, 30), (0, 102, 30), (0, 103, 30), (2, 104, 30)]),
  .inl (1, [(0, 100, 31), (0, 101, 31), (0, 102, 31), (0, 103, 31), (2, 104, 31)]),
  .inl (1, [(0, 100, 32), (0, 101, 32), (0, 102, 32), (0, 103, 32), (2, 104, 32)]),
  .inl (1, [(0, 100, 33), (0, 101, 33), (0, 102, 33), (0, 103, 33), (2, 104, 33)]),
  .inl (1, [(0, 100, 34), (0, 101, 34), (0, 102, 34), (0, 103, 34), (2, 104, 34)]),
  .inl (1, [(0, 100, 35), (0, 101, 35), (0, 102, 35), (0, 103, 35), (2, 104, 35)]),
  .inl (1, [(0, 100, 36), (0, 101, 36), (0, 102, 36), (0, 103, 36), (2, 104, 36)]),
  .inl (1, [(0, 100, 37), (0, 101, 37), (0, 102, 37), (0, 103, 37), (2, 104, 37)]),
  .inl (1, [(0, 100, 38), (0, 101, 38), (0, 102, 38), (0, 103, 38), (2, 104, 38)]),
  .inl (1, [(0, 100, 39), (0, 101, 39), (0, 102, 39), (0, 103, 39), (2, 104, 39)]),
  .inl (1, [(0, 100, 40), (0, 101, 40), (0, 102, 40), (0, 103, 40), (2, 104, 40)]),
  .inl (2, [(3, 70, 0), (3, 71, 0), (3, 72, 0), (0, 203, 0), (0, 204, 0)]),
  .inr (4, 8, 200, 0),
  .inr (1, 40, 201, 0),
  .inr (0, 6, 202, 0),
  .inl (2, [(3, 74, 0), (3, 75, 0), (3, 76, 0), (0, 203, 1), (0, 204, 1)]),
  .inr (4, 8, 200, 1),
  .inr (1, 40, 201, 1),
  .inr (0, 6, 202, 1),
  .inl (2, [(3, 78, 0), (3, 79, 0), (3, 80, 0), (0, 203, 2), (0, 204, 2)]),
  .inr (4, 8, 200, 2),
  .inr (1, 40, 201, 2),
  .inr (0, 6, 202, 2),
  .inl (2, [(3, 82, 0), (3, 83, 0), (3, 84, 0), (0, 203, 3), (0, 204, 3)]),
  .inr (4, 8, 200, 3),
  .inr (1, 40, 201, 3),
  .inr (0, 6, 202, 3),
  .inl (6, [(3, 86, 0), (3, 87, 0), (3, 88, 0), (3, 89, 0), (1, 604, 0), (0, 605, 0)]),
  .inr (1, 42, 600, 0),
  .inr (0, 42, 601, 0),
  .inr (1, 714, 602, 0),
  .inr (0, 42, 603, 0),
  .inl (0, [(3, 91, 0), (3, 92, 0), (0, 2, 0), (0, 3, 0), (0, 4, 0)]),
  .inr (1, 1296, 0, 0),
  .inr (0, 2048, 1, 0),
  .inl (5, [(3, 94, 0), (3, 95, 0), (0, 502, 0), (5, 503, 0)]),
  .inr (0, 8, 500, 0),
  .inr (0, 8, 501, 0),
  .inr (1, 61, 710, 0),
  .inr (0, 6, 711, 0),
  .inl (8, [(0, 800, 0), (3, 99, 0), (0, 802, 0), (1, 803, 0), (1, 804, 0), (3, 100, 0), (3, 101, 0), (3, 102, 0), (3, 103, 0), (3, 104, 0), (0, 810, 0), (3, 105, 0), (0, 812, 0), (0, 813, 0), (3, 106, 0), (3, 107, 0), (0, 816, 0), (3, 108, 0), (0, 818, 0), (3, 109, 0), (3, 110, 0), (3, 111, 0), (3, 112, 0), (0, 823, 0), (3, 113, 0), (3, 114, 0), (0, 826, 0), (3, 115, 0), (3, 116, 0), (3, 117, 0), (1, 830, 0)]),
  .inr (0, 6, 801, 0),
  .inr (0, 6, 805, 0),
  .inr (0, 240, 806, 0),
  .inr (0, 40, 807, 0),
  .inr (0, 4, 808, 0),
  .inr (0, 240, 809, 0),
  .inr (0, 40, 811, 0),
  .inr (0, 40, 814, 0),
  .inr (0, 8, 815, 0),
  .inr (0, 16, 817, 0),
  .inr (0, 61, 819, 0),
  .inr (0, 488, 820, 0),
  .inr (0, 16, 821, 0),
  .inr (0, 16, 822, 0),
  .inr (1, 1296, 824, 0),
  .inr (2, 64, 825, 0),
  .inr (0, 6, 827, 0),
  .inr (0, 680, 828, 0),
  .inr (0, 2181, 829, 0)] 
def NO : Nat := 118
def shp (o : Nat) : SH := shT.getD o (.inl (0, []))
abbrev classes : List vw_C := [(RX0, TX0, 5), (RX1, TX1, 5), (RX2, TX2, 5), (RX3, TX3, 2), (RX4, TX4, 2), (RX5, TX5, 4), (RX6, TX6, 6), (RX7, TX7, 16), (RX8, TX8, 31)]
def akc (k : Nat) : Nat := if k = 6 then 4 else k
def fv (ad : Nat → Nat) (σ : Mem) (q : Nat × Nat × Nat) : Value := match q.1 with
  | 0 => .int (σ.1 q.2.1 q.2.2 0)
  | 1 => .long (σ.2.1 q.2.1 q.2.2 0)
  | 2 => .int (σ.1 q.2.1 q.2.2 0)
  | 3 => .ref (ad q.2.1)
  | _ => va_rf ((σ.2.2 q.2.1 q.2.2 0).map (fun x => ad (69 + 4 * x)))
def av (ad : Nat → Nat) (σ : Mem) (q : Nat × Nat × Nat × Nat) : (Nat → Int32) ⊕ (Nat → Int64) ⊕ (Nat → UInt32) ⊕ (Nat → UInt64) ⊕ (Nat → Option Nat) := match q.1 with
  | 0 => .inl (σ.1 q.2.2.1 q.2.2.2)
  | 1 => .inr (.inl (σ.2.1 q.2.2.1 q.2.2.2))
  | 2 => .inl (σ.1 q.2.2.1 q.2.2.2)
  | 3 => .inr (.inr (.inr (.inr (fun j => some (ad (4 + 2 * (q.2.2.2 + j)))))))
  | 4 => .inr (.inr (.inr (.inr (fun j => (σ.2.2 q.2.2.1 q.2.2.2 j).map (fun x => ad (28 + x))))))
  | 5 => .inr (.inr (.inr (.inr (fun j => some (ad (69 + 4 * (q.2.2.2 + j)))))))
  | _ => .inr (.inr (.inr (.inr (fun j => some (ad (28 + (q.2.2.2 + j)))))))
def cel (ca : Nat → ClassId) (ad : Nat → Nat) (σ : Mem) (o : Nat) : va_E := match shp o with
  | .inl q => .inr (q.1, q.2.map (fv ad σ))
  | .inr q => .inl (ca (akc q.1), q.2.1, av ad σ q)
def wld (ca : Nat → ClassId) (ad : Nat → Nat) (σ : Mem) : va_W := (List.range NO).map fun o => (ad o, cel ca ad σ o)
def tys (ca : Nat → ClassId) : List (ClassId × FieldType) := [(ca 0, .int), (ca 1, .long), (ca 2, .boolean), (ca 3, .object RX4), (ca 4, .object RX1), (ca 5, .object RX2)]
/-- the cells of the world: which may change -/
def AD (ad : Nat → Nat) : Nat → Prop := fun q => ∃ o, o < NO ∧ ad o = q
theorem wld_at {ca : Nat → ClassId} {ad : Nat → Nat} {σ : Mem} {o : Nat} (h : o < NO) : (wld ca ad σ)[o]? = some (ad o, cel ca ad σ o) := by
  simp [wld, h]
def LTV (j : Nat) : Int32 := [108, 98, 100, 115, 117, 105].getD j 0
def HVV (j : Nat) : Int64 := [-6148914691236517206, -3689348814741910324, -1085102592571150096, -71777214294589696, -281470681808896, -4294967296].getD j 0
/-- the two tables of the class -/
def ST (A : Nat → Prop) (t1 t2 : Nat) (U : State) (H : Heap) : Prop := va_Z RX7 "LETTERS" "[I" (.ref t1) A U H ∧ va_T .int t1 6 (fun j => .int (LTV j)) A U H ∧ va_Z RX7 "HAVING" "[J" (.ref t2) A U H ∧ va_T .long t2 6 (fun j => .long (HVV j)) A U H
abbrev MI : Type := ByteArray × Nat × String × Room × Option FieldType
abbrev GX : Type := Program × Launch × Env × State × MethodId × Array Value × List Frame × Method × Code × va_G × (Nat → ClassId) × (Nat → Nat) × Nat × Nat × Nat × Nat
abbrev xad (X : GX) : Nat → Nat := X.2.2.2.2.2.2.2.2.2.2.2.1
abbrev xt1 (X : GX) : Nat := X.2.2.2.2.2.2.2.2.2.2.2.2.1
abbrev xt2 (X : GX) : Nat := X.2.2.2.2.2.2.2.2.2.2.2.2.2.1
abbrev xcs (X : GX) : Nat := X.2.2.2.2.2.2.2.2.2.2.2.2.2.2.1
abbrev xsl (X : GX) : Nat := X.2.2.2.2.2.2.2.2.2.2.2.2.2.2.2
def At (cc : ByteArray) (pc : Nat) (i : Instr) (n pc' : Nat) : Prop := decode cc pc = .ok (i, n) ∧ pc + n = pc'
def Fx (M : MI) : GX → Prop := fun (p, _, _, s, m, args, _, meth, c, D, ca, ad, t1, t2, cs, sl) =>
  p.tables.exec = Jvm.exec ∧ c.code = M.1 ∧ c.maxLocals = M.2.1 ∧ s.vm.findClass M.2.2.1 = some m.cls ∧ (∀ w ∈ tb, w.before args s = true) ∧ va_K D classes (tys ca) s ∧ (∀ w ∈ nestW, va_Nw w s) ∧ ST (AD ad) t1 t2 s s.heap ∧ meth.locks = false ∧ meth.sig.returnType = M.2.2.2.2 ∧ (∀ σ, va_D (AD ad) (wld ca ad σ)) ∧ cs ≤ M.2.2.2.1.cells ∧ sl ≤ M.2.2.2.1.slots
def QC (D : va_G) (ca : Nat → ClassId) (ad : Nat → Nat) (v : Option Value) (σ : Mem) : Array Value → State → Outcome → State → Prop := fun _ st oc t => oc = .returned v ∧ va_P D classes (wld ca ad σ) t.heap ∧ va_F (AD ad) st t
def GS {ρ : Type} (K : Mem × ρ → State → Prop) (X : GX) (M : MI) (σ : Mem) (pc : Nat) (lv : List (Nat × Value)) (st : List Value) (o : Option (Mem × ρ)) : Prop :=
  ∀ out, o = some out → Fx M X → ∀ (H : Heap) (locs : List Loc) (ls : Array Slot), va_P X.2.2.2.2.2.2.2.2.2.1 classes (wld X.2.2.2.2.2.2.2.2.2.2.1 (xad X) σ) H → va_S (AD (xad X)) X.2.2.2.1.heap H locs → lv_has ls M.2.1 lv →
    W X.1 X.2.1 X.2.2.1 M.2.2.2.1 X.2.2.2.1 X.2.2.2.2.1 X.2.2.2.2.2.1 X.2.2.2.2.2.2.1 X.2.2.2.2.2.2.2.1 X.2.2.2.2.2.2.2.2.1 H locs (xcs X) (xsl X) (K out) (F0 X.2.2.2.2.1 pc ls st)
theorem g_iadd {ρ : Type} {K : Mem × ρ → State → Prop} {X : GX} {M : MI} {σ : Mem} {pc pc' : Nat} {lv : List (Nat × Value)} {st : List Value} {o : Option (Mem × ρ)} {x y : Int32} (d : At M.1 pc (.iadd) 1 pc')  (k : GS K X M σ pc' lv (.int (x + y) :: st) o) : GS K X M σ pc lv (.int y :: .int x :: st) o := by
  obtain ⟨p, l, e, s, m, args, below, meth, c, D, ca, ad, t1, t2, cs, sl⟩ := X
  obtain ⟨d1, rfl⟩ := d
  intro out ho F H locs ls hP hS hl
  exact lv_iadd F.1 F.2.1 d1  (k out ho F H locs ls hP hS hl)
theorem g_isub {ρ : Type} {K : Mem × ρ → State → Prop} {X : GX} {M : MI} {σ : Mem} {pc pc' : Nat} {lv : List (Nat × Value)} {st : List Value} {o : Option (Mem × ρ)} {x y : Int32} (d : At M.1 pc (.isub) 1 pc')  (k : GS K X M σ pc' lv (.int (x - y) :: st) o) : GS K X M σ pc lv (.int y :: .int x :: st) o := by
  obtain ⟨p, l, e, s, m, args, below, meth, c, D, ca, ad, t1, t2, cs, sl⟩ := X
  obtain ⟨d1, rfl⟩ := d
  intro out ho F H locs ls hP hS hl
  exact lv_isub F.1 F.2.1 d1  (k out ho F H locs ls hP hS hl)
theorem g_imul {ρ : Type} {K : Mem × ρ → State → Prop} {X : GX} {M : MI} {σ : Mem} {pc pc' : Nat} {lv : List (Nat × Value)} {st : List Value} {o : Option (Mem × ρ)} {x y : Int32} (d : At M.1 pc (.imul) 1 pc')  (k : GS K X M σ pc' lv (.int (x * y) :: st) o) : GS K X M σ pc lv (.int y :: .int x :: st) o := by
  obtain ⟨p, l, e, s, m, args, below, meth, c, D, ca, ad, t1, t2, cs, sl⟩ := X
  obtain ⟨d1, rfl⟩ := d
  intro out ho F H locs ls hP hS hl
  exact lv_imul F.1 F.2.1 d1  (k out ho F H locs ls hP hS hl)
theorem g_iand {ρ : Type} {K : Mem × ρ → State → Prop} {X : GX} {M : MI} {σ : Mem} {pc pc' : Nat} {lv : List (Nat × Value)} {st : List Value} {o : Option (Mem × ρ)} {x y : Int32} (d : At M.1 pc (.iand) 1 pc')  (k : GS K X M σ pc' lv (.int (x &&& y) :: st) o) : GS K X M σ pc lv (.int y :: .int x :: st) o := by
  obtain ⟨p, l, e, s, m, args, below, meth, c, D, ca, ad, t1, t2, cs, sl⟩ := X
  obtain ⟨d1, rfl⟩ := d
  intro out ho F H locs ls hP hS hl
  exact lv_iand F.1 F.2.1 d1  (k out ho F H locs ls hP hS hl)
theorem g_ior {ρ : Type} {K : Mem × ρ → State → Prop} {X : GX} {M : MI} {σ : Mem} {pc pc' : Nat} {lv : List (Nat × Value)} {st : List Value} {o : Option (Mem × ρ)} {x y : Int32} (d : At M.1 pc (.ior) 1 pc')  (k : GS K X M σ pc' lv (.int (x ||| y) :: st) o) : GS K X M σ pc lv (.int y :: .int x :: st) o := by
  obtain ⟨p, l, e, s, m, args, below, meth, c, D, ca, ad, t1, t2, cs, sl⟩ := X
  obtain ⟨d1, rfl⟩ := d
  intro out ho F H locs ls hP hS hl
  exact lv_ior F.1 F.2.1 d1  (k out ho F H locs ls hP hS hl)
theorem g_ixor {ρ : Type} {K : Mem × ρ → State → Prop} {X : GX} {M : MI} {σ : Mem} {pc pc' : Nat} {lv : List (Nat × Value)} {st : List Value} {o : Option (Mem × ρ)} {x y : Int32} (d : At M.1 pc (.ixor) 1 pc')  (k : GS K X M σ pc' lv (.int (x ^^^ y) :: st) o) : GS K X M σ pc lv (.int y :: .int x :: st) o := by
  obtain ⟨p, l, e, s, m, args, below, meth, c, D, ca, ad, t1, t2, cs, sl⟩ := X
  obtain ⟨d1, rfl⟩ := d
  intro out ho F H locs ls hP hS hl
  exact lv_ixor F.1 F.2.1 d1  (k out ho F H locs ls hP hS hl)
theorem g_ishl {ρ : Type} {K : Mem × ρ → State → Prop} {X : GX} {M : MI} {σ : Mem} {pc pc' : Nat} {lv : List (Nat × Value)} {st : List Value} {o : Option (Mem × ρ)} {x y : Int32} (d : At M.1 pc (.ishl) 1 pc')  (k : GS K X M σ pc' lv (.int (x <<< (y &&& 31)) :: st) o) : GS K X M σ pc lv (.int y :: .int x :: st) o := by
  obtain ⟨p, l, e, s, m, args, below, meth, c, D, ca, ad, t1, t2, cs, sl⟩ := X
  obtain ⟨d1, rfl⟩ := d
  intro out ho F H locs ls hP hS hl
  exact lv_ishl F.1 F.2.1 d1  (k out ho F H locs ls hP hS hl)
theorem g_ishr {ρ : Type} {K : Mem × ρ → State → Prop} {X : GX} {M : MI} {σ : Mem} {pc pc' : Nat} {lv : List (Nat × Value)} {st : List Value} {o : Option (Mem × ρ)} {x y : Int32} (d : At M.1 pc (.ishr) 1 pc')  (k : GS K X M σ pc' lv (.int (x >>> (y &&& 31)) :: st) o) : GS K X M σ pc lv (.int y :: .int x :: st) o := by
  obtain ⟨p, l, e, s, m, args, below, meth, c, D, ca, ad, t1, t2, cs, sl⟩ := X
  obtain ⟨d1, rfl⟩ := d
  intro out ho F H locs ls hP hS hl
  exact lv_ishr F.1 F.2.1 d1  (k out ho F H locs ls hP hS hl)
theorem g_ladd {ρ : Type} {K : Mem × ρ → State → Prop} {X : GX} {M : MI} {σ : Mem} {pc pc' : Nat} {lv : List (Nat × Value)} {st : List Value} {o : Option (Mem × ρ)} {x y : Int64} (d : At M.1 pc (.ladd) 1 pc')  (k : GS K X M σ pc' lv (.long (x + y) :: st) o) : GS K X M σ pc lv (.long y :: .long x :: st) o := by
  obtain ⟨p, l, e, s, m, args, below, meth, c, D, ca, ad, t1, t2, cs, sl⟩ := X
  obtain ⟨d1, rfl⟩ := d
  intro out ho F H locs ls hP hS hl
  exact lv_ladd F.1 F.2.1 d1  (k out ho F H locs ls hP hS hl)
theorem g_lsub {ρ : Type} {K : Mem × ρ → State → Prop} {X : GX} {M : MI} {σ : Mem} {pc pc' : Nat} {lv : List (Nat × Value)} {st : List Value} {o : Option (Mem × ρ)} {x y : Int64} (d : At M.1 pc (.lsub) 1 pc')  (k : GS K X M σ pc' lv (.long (x - y) :: st) o) : GS K X M σ pc lv (.long y :: .long x :: st) o := by
  obtain ⟨p, l, e, s, m, args, below, meth, c, D, ca, ad, t1, t2, cs, sl⟩ := X
  obtain ⟨d1, rfl⟩ := d
  intro out ho F H locs ls hP hS hl
  exact lv_lsub F.1 F.2.1 d1  (k out ho F H locs ls hP hS hl)
theorem g_lmul {ρ : Type} {K : Mem × ρ → State → Prop} {X : GX} {M : MI} {σ : Mem} {pc pc' : Nat} {lv : List (Nat × Value)} {st : List Value} {o : Option (Mem × ρ)} {x y : Int64} (d : At M.1 pc (.lmul) 1 pc')  (k : GS K X M σ pc' lv (.long (x * y) :: st) o) : GS K X M σ pc lv (.long y :: .long x :: st) o := by
  obtain ⟨p, l, e, s, m, args, below, meth, c, D, ca, ad, t1, t2, cs, sl⟩ := X
  obtain ⟨d1, rfl⟩ := d
  intro out ho F H locs ls hP hS hl
  exact lv_lmul F.1 F.2.1 d1  (k out ho F H locs ls hP hS hl)
theorem g_land {ρ : Type} {K : Mem × ρ → State → Prop} {X : GX} {M : MI} {σ : Mem} {pc pc' : Nat} {lv : List (Nat × Value)} {st : List Value} {o : Option (Mem × ρ)} {x y : Int64} (d : At M.1 pc (.land) 1 pc')  (k : GS K X M σ pc' lv (.long (x &&& y) :: st) o) : GS K X M σ pc lv (.long y :: .long x :: st) o := by
  obtain ⟨p, l, e, s, m, args, below, meth, c, D, ca, ad, t1, t2, cs, sl⟩ := X
  obtain ⟨d1, rfl⟩ := d
  intro out ho F H locs ls hP hS hl
  exact lv_land F.1 F.2.1 d1  (k out ho F H locs ls hP hS hl)
theorem g_lor {ρ : Type} {K : Mem × ρ → State → Prop} {X : GX} {M : MI} {σ : Mem} {pc pc' : Nat} {lv : List (Nat × Value)} {st : List Value} {o : Option (Mem × ρ)} {x y : Int64} (d : At M.1 pc (.lor) 1 pc')  (k : GS K X M σ pc' lv (.long (x ||| y) :: st) o) : GS K X M σ pc lv (.long y :: .long x :: st) o := by
  obtain ⟨p, l, e, s, m, args, below, meth, c, D, ca, ad, t1, t2, cs, sl⟩ := X
  obtain ⟨d1, rfl⟩ := d
  intro out ho F H locs ls hP hS hl
  exact lv_lor F.1 F.2.1 d1  (k out ho F H locs ls hP hS hl)
theorem g_lxor {ρ : Type} {K : Mem × ρ → State → Prop} {X : GX} {M : MI} {σ : Mem} {pc pc' : Nat} {lv : List (Nat × Value)} {st : List Value} {o : Option (Mem × ρ)} {x y : Int64} (d : At M.1 pc (.lxor) 1 pc')  (k : GS K X M σ pc' lv (.long (x ^^^ y) :: st) o) : GS K X M σ pc lv (.long y :: .long x :: st) o := by
  obtain ⟨p, l, e, s, m, args, below, meth, c, D, ca, ad, t1, t2, cs, sl⟩ := X
  obtain ⟨d1, rfl⟩ := d
  intro out ho F H locs ls hP hS hl
  exact lv_lxor F.1 F.2.1 d1  (k out ho F H locs ls hP hS hl)
theorem g_ineg {ρ : Type} {K : Mem × ρ → State → Prop} {X : GX} {M : MI} {σ : Mem} {pc pc' : Nat} {lv : List (Nat × Value)} {st : List Value} {o : Option (Mem × ρ)} {x : Int32} (d : At M.1 pc (.ineg) 1 pc')  (k : GS K X M σ pc' lv (.int (-x) :: st) o) : GS K X M σ pc lv (.int x :: st) o := by
  obtain ⟨p, l, e, s, m, args, below, meth, c, D, ca, ad, t1, t2, cs, sl⟩ := X
  obtain ⟨d1, rfl⟩ := d
  intro out ho F H locs ls hP hS hl
  exact lv_ineg F.1 F.2.1 d1  (k out ho F H locs ls hP hS hl)
theorem g_i2l {ρ : Type} {K : Mem × ρ → State → Prop} {X : GX} {M : MI} {σ : Mem} {pc pc' : Nat} {lv : List (Nat × Value)} {st : List Value} {o : Option (Mem × ρ)} {x : Int32} (d : At M.1 pc (.i2l) 1 pc')  (k : GS K X M σ pc' lv (.long x.toInt64 :: st) o) : GS K X M σ pc lv (.int x :: st) o := by
  obtain ⟨p, l, e, s, m, args, below, meth, c, D, ca, ad, t1, t2, cs, sl⟩ := X
  obtain ⟨d1, rfl⟩ := d
  intro out ho F H locs ls hP hS hl
  exact lv_i2l F.1 F.2.1 d1 rfl (k out ho F H locs ls hP hS hl)
theorem g_l2i {ρ : Type} {K : Mem × ρ → State → Prop} {X : GX} {M : MI} {σ : Mem} {pc pc' : Nat} {lv : List (Nat × Value)} {st : List Value} {o : Option (Mem × ρ)} {x : Int64} (d : At M.1 pc (.l2i) 1 pc')  (k : GS K X M σ pc' lv (.int x.toInt32 :: st) o) : GS K X M σ pc lv (.long x :: st) o := by
  obtain ⟨p, l, e, s, m, args, below, meth, c, D, ca, ad, t1, t2, cs, sl⟩ := X
  obtain ⟨d1, rfl⟩ := d
  intro out ho F H locs ls hP hS hl
  exact lv_l2i F.1 F.2.1 d1 rfl (k out ho F H locs ls hP hS hl)
theorem g_i2b {ρ : Type} {K : Mem × ρ → State → Prop} {X : GX} {M : MI} {σ : Mem} {pc pc' : Nat} {lv : List (Nat × Value)} {st : List Value} {o : Option (Mem × ρ)} {x : Int32} (d : At M.1 pc (.i2b) 1 pc')  (k : GS K X M σ pc' lv (.int x.toInt8.toInt32 :: st) o) : GS K X M σ pc lv (.int x :: st) o := by
  obtain ⟨p, l, e, s, m, args, below, meth, c, D, ca, ad, t1, t2, cs, sl⟩ := X
  obtain ⟨d1, rfl⟩ := d
  intro out ho F H locs ls hP hS hl
  exact lv_i2b F.1 F.2.1 d1 rfl (k out ho F H locs ls hP hS hl)
theorem g_iushr {ρ : Type} {K : Mem × ρ → State → Prop} {X : GX} {M : MI} {σ : Mem} {pc pc' : Nat} {lv : List (Nat × Value)} {st : List Value} {o : Option (Mem × ρ)} {x y : Int32} (d : At M.1 pc (.iushr) 1 pc')  (k : GS K X M σ pc' lv (.int (x.toUInt32 >>> (y.toUInt32 &&& Int32.toUInt32 31)).toInt32 :: st) o) : GS K X M σ pc lv (.int y :: .int x :: st) o := by
  obtain ⟨p, l, e, s, m, args, below, meth, c, D, ca, ad, t1, t2, cs, sl⟩ := X
  obtain ⟨d1, rfl⟩ := d
  intro out ho F H locs ls hP hS hl
  exact lv_iushr F.1 F.2.1 d1 rfl (k out ho F H locs ls hP hS hl)
theorem g_lushr {ρ : Type} {K : Mem × ρ → State → Prop} {X : GX} {M : MI} {σ : Mem} {pc pc' : Nat} {lv : List (Nat × Value)} {st : List Value} {o : Option (Mem × ρ)} {x : Int64} {y : Int32} (d : At M.1 pc (.lushr) 1 pc')  (k : GS K X M σ pc' lv (.long (x.toUInt64 >>> (y.toInt64.toUInt64 &&& Int64.toUInt64 63)).toInt64 :: st) o) : GS K X M σ pc lv (.int y :: .long x :: st) o := by
  obtain ⟨p, l, e, s, m, args, below, meth, c, D, ca, ad, t1, t2, cs, sl⟩ := X
  obtain ⟨d1, rfl⟩ := d
  intro out ho F H locs ls hP hS hl
  exact lv_lushr F.1 F.2.1 d1 rfl (k out ho F H locs ls hP hS hl)
theorem g_lshl {ρ : Type} {K : Mem × ρ → State → Prop} {X : GX} {M : MI} {σ : Mem} {pc pc' : Nat} {lv : List (Nat × Value)} {st : List Value} {o : Option (Mem × ρ)} {x : Int64} {y : Int32} (d : At M.1 pc (.lshl) 1 pc')  (k : GS K X M σ pc' lv (.long (x <<< (y.toInt64 &&& 63)) :: st) o) : GS K X M σ pc lv (.int y :: .long x :: st) o := by
  obtain ⟨p, l, e, s, m, args, below, meth, c, D, ca, ad, t1, t2, cs, sl⟩ := X
  obtain ⟨d1, rfl⟩ := d
  intro out ho F H locs ls hP hS hl
  exact lv_lshl F.1 F.2.1 d1 rfl (k out ho F H locs ls hP hS hl)
theorem g_lshr {ρ : Type} {K : Mem × ρ → State → Prop} {X : GX} {M : MI} {σ : Mem} {pc pc' : Nat} {lv : List (Nat × Value)} {st : List Value} {o : Option (Mem × ρ)} {x : Int64} {y : Int32} (d : At M.1 pc (.lshr) 1 pc')  (k : GS K X M σ pc' lv (.long (x >>> (y.toInt64 &&& 63)) :: st) o) : GS K X M σ pc lv (.int y :: .long x :: st) o := by
  obtain ⟨p, l, e, s, m, args, below, meth, c, D, ca, ad, t1, t2, cs, sl⟩ := X
  obtain ⟨d1, rfl⟩ := d
  intro out ho F H locs ls hP hS hl
  exact lv_lshr F.1 F.2.1 d1 rfl (k out ho F H locs ls hP hS hl)
theorem g_lcmp {ρ : Type} {K : Mem × ρ → State → Prop} {X : GX} {M : MI} {σ : Mem} {pc pc' : Nat} {lv : List (Nat × Value)} {st : List Value} {o : Option (Mem × ρ)} {x y : Int64} (d : At M.1 pc (.lcmp) 1 pc')  (k : GS K X M σ pc' lv (.int (lg_cmp x y) :: st) o) : GS K X M σ pc lv (.long y :: .long x :: st) o := by
  obtain ⟨p, l, e, s, m, args, below, meth, c, D, ca, ad, t1, t2, cs, sl⟩ := X
  obtain ⟨d1, rfl⟩ := d
  intro out ho F H locs ls hP hS hl
  exact W.lcmp F.1 F.2.1 d1  (k out ho F H locs ls hP hS hl)
theorem g_iconst {ρ : Type} {K : Mem × ρ → State → Prop} {X : GX} {M : MI} {σ : Mem} {pc pc' : Nat} {lv : List (Nat × Value)} {st : List Value} {o : Option (Mem × ρ)} {n : Int} (v : Int32) (d : At M.1 pc (.iconst n) 1 pc') (hv : Int32.ofInt n = v) (k : GS K X M σ pc' lv (.int v :: st) o) : GS K X M σ pc lv (st) o := by
  obtain ⟨p, l, e, s, m, args, below, meth, c, D, ca, ad, t1, t2, cs, sl⟩ := X
  obtain ⟨d1, rfl⟩ := d
  intro out ho F H locs ls hP hS hl
  exact lv_iconst F.1 F.2.1 d1 hv (k out ho F H locs ls hP hS hl)
theorem g_bipush {ρ : Type} {K : Mem × ρ → State → Prop} {X : GX} {M : MI} {σ : Mem} {pc pc' : Nat} {lv : List (Nat × Value)} {st : List Value} {o : Option (Mem × ρ)} {n : Int} (v : Int32) (d : At M.1 pc (.bipush n) 2 pc') (hv : (Int8.ofInt n).toInt32 = v) (k : GS K X M σ pc' lv (.int v :: st) o) : GS K X M σ pc lv (st) o := by
  obtain ⟨p, l, e, s, m, args, below, meth, c, D, ca, ad, t1, t2, cs, sl⟩ := X
  obtain ⟨d1, rfl⟩ := d
  intro out ho F H locs ls hP hS hl
  exact lv_bipush F.1 F.2.1 d1 hv (k out ho F H locs ls hP hS hl)
theorem g_sipush {ρ : Type} {K : Mem × ρ → State → Prop} {X : GX} {M : MI} {σ : Mem} {pc pc' : Nat} {lv : List (Nat × Value)} {st : List Value} {o : Option (Mem × ρ)} {n : Int} (v : Int32) (d : At M.1 pc (.sipush n) 3 pc') (hv : (Int16.ofInt n).toInt32 = v) (k : GS K X M σ pc' lv (.int v :: st) o) : GS K X M σ pc lv (st) o := by
  obtain ⟨p, l, e, s, m, args, below, meth, c, D, ca, ad, t1, t2, cs, sl⟩ := X
  obtain ⟨d1, rfl⟩ := d
  intro out ho F H locs ls hP hS hl
  exact lv_sipush F.1 F.2.1 d1 hv (k out ho F H locs ls hP hS hl)
theorem g_lconst {ρ : Type} {K : Mem × ρ → State → Prop} {X : GX} {M : MI} {σ : Mem} {pc pc' : Nat} {lv : List (Nat × Value)} {st : List Value} {o : Option (Mem × ρ)} {n : Fin 2} (v : Int64) (d : At M.1 pc (.lconst n) 1 pc') (hv : Int64.ofNat (n : Nat) = v) (k : GS K X M σ pc' lv (.long v :: st) o) : GS K X M σ pc lv (st) o := by
  obtain ⟨p, l, e, s, m, args, below, meth, c, D, ca, ad, t1, t2, cs, sl⟩ := X
  obtain ⟨d1, rfl⟩ := d
  intro out ho F H locs ls hP hS hl
  exact lv_lconst F.1 F.2.1 d1 hv (k out ho F H locs ls hP hS hl)
theorem g_dup {ρ : Type} {K : Mem × ρ → State → Prop} {X : GX} {M : MI} {σ : Mem} {pc pc' : Nat} {lv : List (Nat × Value)} {st : List Value} {o : Option (Mem × ρ)} {v : Value} (d : At M.1 pc (.dup) 1 pc') (hv : v.category = 1) (k : GS K X M σ pc' lv (v :: v :: st) o) : GS K X M σ pc lv (v :: st) o := by
  obtain ⟨p, l, e, s, m, args, below, meth, c, D, ca, ad, t1, t2, cs, sl⟩ := X
  obtain ⟨d1, rfl⟩ := d
  intro out ho F H locs ls hP hS hl
  exact lv_dup F.1 F.2.1 d1 hv (k out ho F H locs ls hP hS hl)
theorem g_pop {ρ : Type} {K : Mem × ρ → State → Prop} {X : GX} {M : MI} {σ : Mem} {pc pc' : Nat} {lv : List (Nat × Value)} {st : List Value} {o : Option (Mem × ρ)} {v : Value} (d : At M.1 pc (.pop) 1 pc') (hv : v.category = 1) (k : GS K X M σ pc' lv (st) o) : GS K X M σ pc lv (v :: st) o := by
  obtain ⟨p, l, e, s, m, args, below, meth, c, D, ca, ad, t1, t2, cs, sl⟩ := X
  obtain ⟨d1, rfl⟩ := d
  intro out ho F H locs ls hP hS hl
  exact lv_pop F.1 F.2.1 d1 hv (k out ho F H locs ls hP hS hl)
theorem g_null {ρ : Type} {K : Mem × ρ → State → Prop} {X : GX} {M : MI} {σ : Mem} {pc pc' : Nat} {lv : List (Nat × Value)} {st : List Value} {o : Option (Mem × ρ)}  (d : At M.1 pc (.aconst_null) 1 pc')  (k : GS K X M σ pc' lv (.null :: st) o) : GS K X M σ pc lv (st) o := by
  obtain ⟨p, l, e, s, m, args, below, meth, c, D, ca, ad, t1, t2, cs, sl⟩ := X
  obtain ⟨d1, rfl⟩ := d
  intro out ho F H locs ls hP hS hl
  exact lv_null F.1 F.2.1 d1  (k out ho F H locs ls hP hS hl)
theorem g_idiv {ρ : Type} {K : Mem × ρ → State → Prop} {X : GX} {M : MI} {σ : Mem} {pc pc' : Nat} {lv : List (Nat × Value)} {st : List Value} {o : Option (Mem × ρ)} {x y : Int32} (d : At M.1 pc .idiv 1 pc') (k : ¬ y = 0 → GS K X M σ pc' lv (.int (x / y) :: st) o) : GS K X M σ pc lv (.int y :: .int x :: st) (if y = 0 then none else o) := by
  obtain ⟨p, l, e, s, m, args, below, meth, c, D, ca, ad, t1, t2, cs, sl⟩ := X
  obtain ⟨d1, rfl⟩ := d
  intro out ho F H locs ls hP hS hl
  have hy : ¬ y = 0 := fun h => by rw [if_pos h] at ho; cases ho
  rw [if_neg hy] at ho
  exact lv_idiv F.1 F.2.1 d1 hy (k hy out ho F H locs ls hP hS hl)
theorem g_irem {ρ : Type} {K : Mem × ρ → State → Prop} {X : GX} {M : MI} {σ : Mem} {pc pc' : Nat} {lv : List (Nat × Value)} {st : List Value} {o : Option (Mem × ρ)} {x y : Int32} (d : At M.1 pc .irem 1 pc') (k : ¬ y = 0 → GS K X M σ pc' lv (.int (x - x / y * y) :: st) o) : GS K X M σ pc lv (.int y :: .int x :: st) (if y = 0 then none else o) := by
  obtain ⟨p, l, e, s, m, args, below, meth, c, D, ca, ad, t1, t2, cs, sl⟩ := X
  obtain ⟨d1, rfl⟩ := d
  intro out ho F H locs ls hP hS hl
  have hy : ¬ y = 0 := fun h => by rw [if_pos h] at ho; cases ho
  rw [if_neg hy] at ho
  exact lv_irem F.1 F.2.1 d1 hy (k hy out ho F H locs ls hP hS hl)
theorem g_ldiv {ρ : Type} {K : Mem × ρ → State → Prop} {X : GX} {M : MI} {σ : Mem} {pc pc' : Nat} {lv : List (Nat × Value)} {st : List Value} {o : Option (Mem × ρ)} {x y : Int64} (d : At M.1 pc .ldiv 1 pc') (k : ¬ y = 0 → GS K X M σ pc' lv (.long (x / y) :: st) o) : GS K X M σ pc lv (.long y :: .long x :: st) (if y = 0 then none else o) := by
  obtain ⟨p, l, e, s, m, args, below, meth, c, D, ca, ad, t1, t2, cs, sl⟩ := X
  obtain ⟨d1, rfl⟩ := d
  intro out ho F H locs ls hP hS hl
  have hy : ¬ y = 0 := fun h => by rw [if_pos h] at ho; cases ho
  rw [if_neg hy] at ho
  exact lv_ldiv F.1 F.2.1 d1 hy (k hy out ho F H locs ls hP hS hl)
theorem g_lrem {ρ : Type} {K : Mem × ρ → State → Prop} {X : GX} {M : MI} {σ : Mem} {pc pc' : Nat} {lv : List (Nat × Value)} {st : List Value} {o : Option (Mem × ρ)} {x y : Int64} (d : At M.1 pc .lrem 1 pc') (k : ¬ y = 0 → GS K X M σ pc' lv (.long (x - x / y * y) :: st) o) : GS K X M σ pc lv (.long y :: .long x :: st) (if y = 0 then none else o) := by
  obtain ⟨p, l, e, s, m, args, below, meth, c, D, ca, ad, t1, t2, cs, sl⟩ := X
  obtain ⟨d1, rfl⟩ := d
  intro out ho F H locs ls hP hS hl
  have hy : ¬ y = 0 := fun h => by rw [if_pos h] at ho; cases ho
  rw [if_neg hy] at ho
  exact lv_lrem F.1 F.2.1 d1 hy (k hy out ho F H locs ls hP hS hl)
theorem g_iload_n {ρ : Type} {K : Mem × ρ → State → Prop} {X : GX} {M : MI} {σ : Mem} {pc pc' : Nat} {lv : List (Nat × Value)} {st : List Value} {o : Option (Mem × ρ)} {k : Fin 4} (q : Nat) {x : Int32} (d : At M.1 pc (.iload_n k) 1 pc') (hq : lv[q]? = some ((k : Nat), .int x)) (kk : GS K X M σ pc' lv (.int x :: st) o) : GS K X M σ pc lv st o := by
  obtain ⟨p, l, e, s, m, args, below, meth, c, D, ca, ad, t1, t2, cs, sl⟩ := X
  obtain ⟨d1, rfl⟩ := d
  intro out ho F H locs ls hP hS hl
  exact lv_iload_n F.1 F.2.1 d1 rfl (lv_at hl q hq) (kk out ho F H locs ls hP hS hl)
theorem g_iload {ρ : Type} {K : Mem × ρ → State → Prop} {X : GX} {M : MI} {σ : Mem} {pc pc' : Nat} {lv : List (Nat × Value)} {st : List Value} {o : Option (Mem × ρ)} {i : Nat} (q : Nat) {x : Int32} (d : At M.1 pc (.iload i) 2 pc') (hq : lv[q]? = some (i, .int x)) (kk : GS K X M σ pc' lv (.int x :: st) o) : GS K X M σ pc lv st o := by
  obtain ⟨p, l, e, s, m, args, below, meth, c, D, ca, ad, t1, t2, cs, sl⟩ := X
  obtain ⟨d1, rfl⟩ := d
  intro out ho F H locs ls hP hS hl
  exact lv_iload F.1 F.2.1 d1 (lv_at hl q hq) (kk out ho F H locs ls hP hS hl)
theorem g_lload_n {ρ : Type} {K : Mem × ρ → State → Prop} {X : GX} {M : MI} {σ : Mem} {pc pc' : Nat} {lv : List (Nat × Value)} {st : List Value} {o : Option (Mem × ρ)} {k : Fin 4} (q : Nat) {x : Int64} (d : At M.1 pc (.lload_n k) 1 pc') (hq : lv[q]? = some ((k : Nat), .long x)) (kk : GS K X M σ pc' lv (.long x :: st) o) : GS K X M σ pc lv st o := by
  obtain ⟨p, l, e, s, m, args, below, meth, c, D, ca, ad, t1, t2, cs, sl⟩ := X
  obtain ⟨d1, rfl⟩ := d
  intro out ho F H locs ls hP hS hl
  exact lv_lload_n F.1 F.2.1 d1 rfl (lv_at hl q hq) (kk out ho F H locs ls hP hS hl)
theorem g_lload {ρ : Type} {K : Mem × ρ → State → Prop} {X : GX} {M : MI} {σ : Mem} {pc pc' : Nat} {lv : List (Nat × Value)} {st : List Value} {o : Option (Mem × ρ)} {i : Nat} (q : Nat) {x : Int64} (d : At M.1 pc (.lload i) 2 pc') (hq : lv[q]? = some (i, .long x)) (kk : GS K X M σ pc' lv (.long x :: st) o) : GS K X M σ pc lv st o := by
  obtain ⟨p, l, e, s, m, args, below, meth, c, D, ca, ad, t1, t2, cs, sl⟩ := X
  obtain ⟨d1, rfl⟩ := d
  intro out ho F H locs ls hP hS hl
  exact lv_lload F.1 F.2.1 d1 (lv_at hl q hq) (kk out ho F H locs ls hP hS hl)
theorem g_aload_n {ρ : Type} {K : Mem × ρ → State → Prop} {X : GX} {M : MI} {σ : Mem} {pc pc' : Nat} {lv : List (Nat × Value)} {st : List Value} {o : Option (Mem × ρ)} {k : Fin 4} (q : Nat) {x : Nat} (d : At M.1 pc (.aload_n k) 1 pc') (hq : lv[q]? = some ((k : Nat), .ref x)) (kk : GS K X M σ pc' lv (.ref x :: st) o) : GS K X M σ pc lv st o := by
  obtain ⟨p, l, e, s, m, args, below, meth, c, D, ca, ad, t1, t2, cs, sl⟩ := X
  obtain ⟨d1, rfl⟩ := d
  intro out ho F H locs ls hP hS hl
  exact lv_aload_n F.1 F.2.1 d1 rfl (lv_at hl q hq) (kk out ho F H locs ls hP hS hl)
theorem g_aload {ρ : Type} {K : Mem × ρ → State → Prop} {X : GX} {M : MI} {σ : Mem} {pc pc' : Nat} {lv : List (Nat × Value)} {st : List Value} {o : Option (Mem × ρ)} {i : Nat} (q : Nat) {x : Nat} (d : At M.1 pc (.aload i) 2 pc') (hq : lv[q]? = some (i, .ref x)) (kk : GS K X M σ pc' lv (.ref x :: st) o) : GS K X M σ pc lv st o := by
  obtain ⟨p, l, e, s, m, args, below, meth, c, D, ca, ad, t1, t2, cs, sl⟩ := X
  obtain ⟨d1, rfl⟩ := d
  intro out ho F H locs ls hP hS hl
  exact lv_aload F.1 F.2.1 d1 (lv_at hl q hq) (kk out ho F H locs ls hP hS hl)
theorem g_aload_nN {ρ : Type} {K : Mem × ρ → State → Prop} {X : GX} {M : MI} {σ : Mem} {pc pc' : Nat} {lv : List (Nat × Value)} {st : List Value} {o : Option (Mem × ρ)} {k : Fin 4} (q : Nat) (d : At M.1 pc (.aload_n k) 1 pc') (hq : lv[q]? = some ((k : Nat), .null)) (kk : GS K X M σ pc' lv (.null :: st) o) : GS K X M σ pc lv st o := by
  obtain ⟨p, l, e, s, m, args, below, meth, c, D, ca, ad, t1, t2, cs, sl⟩ := X
  obtain ⟨d1, rfl⟩ := d
  intro out ho F H locs ls hP hS hl
  exact lv_aload_nN F.1 F.2.1 d1 rfl (lv_at hl q hq) (kk out ho F H locs ls hP hS hl)
theorem g_aloadN {ρ : Type} {K : Mem × ρ → State → Prop} {X : GX} {M : MI} {σ : Mem} {pc pc' : Nat} {lv : List (Nat × Value)} {st : List Value} {o : Option (Mem × ρ)} {i : Nat} (q : Nat) (d : At M.1 pc (.aload i) 2 pc') (hq : lv[q]? = some (i, .null)) (kk : GS K X M σ pc' lv (.null :: st) o) : GS K X M σ pc lv st o := by
  obtain ⟨p, l, e, s, m, args, below, meth, c, D, ca, ad, t1, t2, cs, sl⟩ := X
  obtain ⟨d1, rfl⟩ := d
  intro out ho F H locs ls hP hS hl
  exact lv_aloadN F.1 F.2.1 d1 (lv_at hl q hq) (kk out ho F H locs ls hP hS hl)
theorem g_istore_n {ρ : Type} {K : Mem × ρ → State → Prop} {X : GX} {M : MI} {σ : Mem} {pc pc' : Nat} {lv : List (Nat × Value)} {st : List Value} {o : Option (Mem × ρ)} {k : Fin 4} (lv' : List (Nat × Value)) {x : Int32} (d : At M.1 pc (.istore_n k) 1 pc') (hn : (k : Nat) < M.2.1) (hl2 : ((k : Nat), Value.int x) :: lv.filter (fun q => !(q.1 == (k : Nat)) && !(q.1 + 1 == (k : Nat) && q.2.category == 2)) = lv') (kk : GS K X M σ pc' lv' st o) : GS K X M σ pc lv (.int x :: st) o := by
  obtain ⟨p, l, e, s, m, args, below, meth, c, D, ca, ad, t1, t2, cs, sl⟩ := X
  obtain ⟨d1, rfl⟩ := d
  intro out ho F H locs ls hP hS hl
  exact lv_istore_n F.1 F.2.1 d1 rfl hl hn hl2 (fun ls' hl' => kk out ho F H locs ls' hP hS hl')
theorem g_istore {ρ : Type} {K : Mem × ρ → State → Prop} {X : GX} {M : MI} {σ : Mem} {pc pc' : Nat} {lv : List (Nat × Value)} {st : List Value} {o : Option (Mem × ρ)} {i : Nat} (lv' : List (Nat × Value)) {x : Int32} (d : At M.1 pc (.istore i) 2 pc') (hn : i < M.2.1) (hl2 : (i, Value.int x) :: lv.filter (fun q => !(q.1 == i) && !(q.1 + 1 == i && q.2.category == 2)) = lv') (kk : GS K X M σ pc' lv' st o) : GS K X M σ pc lv (.int x :: st) o := by
  obtain ⟨p, l, e, s, m, args, below, meth, c, D, ca, ad, t1, t2, cs, sl⟩ := X
  obtain ⟨d1, rfl⟩ := d
  intro out ho F H locs ls hP hS hl
  exact lv_istore F.1 F.2.1 d1 hl hn hl2 (fun ls' hl' => kk out ho F H locs ls' hP hS hl')
theorem g_astore_n {ρ : Type} {K : Mem × ρ → State → Prop} {X : GX} {M : MI} {σ : Mem} {pc pc' : Nat} {lv : List (Nat × Value)} {st : List Value} {o : Option (Mem × ρ)} {k : Fin 4} (lv' : List (Nat × Value)) {x : Nat} (d : At M.1 pc (.astore_n k) 1 pc') (hn : (k : Nat) < M.2.1) (hl2 : ((k : Nat), Value.ref x) :: lv.filter (fun q => !(q.1 == (k : Nat)) && !(q.1 + 1 == (k : Nat) && q.2.category == 2)) = lv') (kk : GS K X M σ pc' lv' st o) : GS K X M σ pc lv (.ref x :: st) o := by
  obtain ⟨p, l, e, s, m, args, below, meth, c, D, ca, ad, t1, t2, cs, sl⟩ := X
  obtain ⟨d1, rfl⟩ := d
  intro out ho F H locs ls hP hS hl
  exact lv_astore_n F.1 F.2.1 d1 rfl hl hn hl2 (fun ls' hl' => kk out ho F H locs ls' hP hS hl')
theorem g_astore {ρ : Type} {K : Mem × ρ → State → Prop} {X : GX} {M : MI} {σ : Mem} {pc pc' : Nat} {lv : List (Nat × Value)} {st : List Value} {o : Option (Mem × ρ)} {i : Nat} (lv' : List (Nat × Value)) {x : Nat} (d : At M.1 pc (.astore i) 2 pc') (hn : i < M.2.1) (hl2 : (i, Value.ref x) :: lv.filter (fun q => !(q.1 == i) && !(q.1 + 1 == i && q.2.category == 2)) = lv') (kk : GS K X M σ pc' lv' st o) : GS K X M σ pc lv (.ref x :: st) o := by
  obtain ⟨p, l, e, s, m, args, below, meth, c, D, ca, ad, t1, t2, cs, sl⟩ := X
  obtain ⟨d1, rfl⟩ := d
  intro out ho F H locs ls hP hS hl
  exact lv_astore F.1 F.2.1 d1 hl hn hl2 (fun ls' hl' => kk out ho F H locs ls' hP hS hl')
theorem g_astore_nN {ρ : Type} {K : Mem × ρ → State → Prop} {X : GX} {M : MI} {σ : Mem} {pc pc' : Nat} {lv : List (Nat × Value)} {st : List Value} {o : Option (Mem × ρ)} {k : Fin 4} (lv' : List (Nat × Value)) (d : At M.1 pc (.astore_n k) 1 pc') (hn : (k : Nat) < M.2.1) (hl2 : ((k : Nat), Value.null) :: lv.filter (fun q => !(q.1 == (k : Nat)) && !(q.1 + 1 == (k : Nat) && q.2.category == 2)) = lv') (kk : GS K X M σ pc' lv' st o) : GS K X M σ pc lv (.null :: st) o := by
  obtain ⟨p, l, e, s, m, args, below, meth, c, D, ca, ad, t1, t2, cs, sl⟩ := X
  obtain ⟨d1, rfl⟩ := d
  intro out ho F H locs ls hP hS hl
  exact lv_astore_nN F.1 F.2.1 d1 rfl hl hn hl2 (fun ls' hl' => kk out ho F H locs ls' hP hS hl')
theorem g_astoreN {ρ : Type} {K : Mem × ρ → State → Prop} {X : GX} {M : MI} {σ : Mem} {pc pc' : Nat} {lv : List (Nat × Value)} {st : List Value} {o : Option (Mem × ρ)} {i : Nat} (lv' : List (Nat × Value)) (d : At M.1 pc (.astore i) 2 pc') (hn : i < M.2.1) (hl2 : (i, Value.null) :: lv.filter (fun q => !(q.1 == i) && !(q.1 + 1 == i && q.2.category == 2)) = lv') (kk : GS K X M σ pc' lv' st o) : GS K X M σ pc lv (.null :: st) o := by
  obtain ⟨p, l, e, s, m, args, below, meth, c, D, ca, ad, t1, t2, cs, sl⟩ := X
  obtain ⟨d1, rfl⟩ := d
  intro out ho F H locs ls hP hS hl
  exact lv_astoreN F.1 F.2.1 d1 hl hn hl2 (fun ls' hl' => kk out ho F H locs ls' hP hS hl')
theorem g_lstore_n {ρ : Type} {K : Mem × ρ → State → Prop} {X : GX} {M : MI} {σ : Mem} {pc pc' : Nat} {lv : List (Nat × Value)} {st : List Value} {o : Option (Mem × ρ)} {k : Fin 4} (lv' : List (Nat × Value)) {x : Int64} (d : At M.1 pc (.lstore_n k) 1 pc') (hn : (k : Nat) + 1 < M.2.1) (hl2 : ((k : Nat), Value.long x) :: lv.filter (fun q => !(q.1 == (k : Nat)) && (!(q.1 == (k : Nat) + 1) && !(q.1 + 1 == (k : Nat) && q.2.category == 2))) = lv') (kk : GS K X M σ pc' lv' st o) : GS K X M σ pc lv (.long x :: st) o := by
  obtain ⟨p, l, e, s, m, args, below, meth, c, D, ca, ad, t1, t2, cs, sl⟩ := X
  obtain ⟨d1, rfl⟩ := d
  intro out ho F H locs ls hP hS hl
  exact lv_lstore_n F.1 F.2.1 d1 rfl hl hn hl2 (fun ls' hl' => kk out ho F H locs ls' hP hS hl')
theorem g_lstore {ρ : Type} {K : Mem × ρ → State → Prop} {X : GX} {M : MI} {σ : Mem} {pc pc' : Nat} {lv : List (Nat × Value)} {st : List Value} {o : Option (Mem × ρ)} {i : Nat} (lv' : List (Nat × Value)) {x : Int64} (d : At M.1 pc (.lstore i) 2 pc') (hn : i + 1 < M.2.1) (hl2 : (i, Value.long x) :: lv.filter (fun q => !(q.1 == i) && (!(q.1 == i + 1) && !(q.1 + 1 == i && q.2.category == 2))) = lv') (kk : GS K X M σ pc' lv' st o) : GS K X M σ pc lv (.long x :: st) o := by
  obtain ⟨p, l, e, s, m, args, below, meth, c, D, ca, ad, t1, t2, cs, sl⟩ := X
  obtain ⟨d1, rfl⟩ := d
  intro out ho F H locs ls hP hS hl
  exact lv_lstore F.1 F.2.1 d1 hl hn hl2 (fun ls' hl' => kk out ho F H locs ls' hP hS hl')
theorem g_iinc {ρ : Type} {K : Mem × ρ → State → Prop} {X : GX} {M : MI} {σ : Mem} {pc pc' : Nat} {lv : List (Nat × Value)} {st : List Value} {o : Option (Mem × ρ)} {i : Nat} {n : Int} (q : Nat) (lv' : List (Nat × Value)) {x v : Int32} (d : At M.1 pc (.iinc i n) 3 pc') (hq : lv[q]? = some (i, .int x)) (hv : x + Int32.ofInt n = v) (hn : i < M.2.1) (hl2 : (i, Value.int v) :: lv.filter (fun q => !(q.1 == i) && !(q.1 + 1 == i && q.2.category == 2)) = lv') (kk : GS K X M σ pc' lv' st o) : GS K X M σ pc lv st o := by
  obtain ⟨p, l, e, s, m, args, below, meth, c, D, ca, ad, t1, t2, cs, sl⟩ := X
  obtain ⟨d1, rfl⟩ := d
  intro out ho F H locs ls hP hS hl
  exact lv_iinc F.1 F.2.1 d1 hl hq hv hn hl2 (fun ls' hl' => kk out ho F H locs ls' hP hS hl')
theorem g_icmp_eq {ρ : Type} {K : Mem × ρ → State → Prop} {X : GX} {M : MI} {σ : Mem} {pc pc' : Nat} {lv : List (Nat × Value)} {st : List Value} {o1 o2 : Option (Mem × ρ)} {x y : Int32} {off : Int} (tgt : Nat) (d : At M.1 pc (.if_icmp .eq off) 3 pc') (ht : (pc : Int) + off = (tgt : Int)) (k1 : x = y → GS K X M σ tgt lv st o1) (k2 : ¬ (x = y) → GS K X M σ pc' lv st o2) : GS K X M σ pc lv (.int y :: .int x :: st) (if x = y then o1 else o2) := by
  obtain ⟨p, l, e, s, m, args, below, meth, c, D, ca, ad, t1, t2, cs, sl⟩ := X
  obtain ⟨d1, rfl⟩ := d
  intro out ho F H locs ls hP hS hl
  exact lv_icmp_eq F.1 F.2.1 d1 ht (fun h => k1 h out (by rw [if_pos h] at ho; exact ho) F H locs ls hP hS hl) (fun h => k2 h out (by rw [if_neg h] at ho; exact ho) F H locs ls hP hS hl)
theorem g_if_eq {ρ : Type} {K : Mem × ρ → State → Prop} {X : GX} {M : MI} {σ : Mem} {pc pc' : Nat} {lv : List (Nat × Value)} {st : List Value} {o1 o2 : Option (Mem × ρ)} {x : Int32} {off : Int} (tgt : Nat) (d : At M.1 pc (.ifCond .eq off) 3 pc') (ht : (pc : Int) + off = (tgt : Int)) (k1 : x = 0 → GS K X M σ tgt lv st o1) (k2 : ¬ (x = 0) → GS K X M σ pc' lv st o2) : GS K X M σ pc lv (.int x :: st) (if x = 0 then o1 else o2) := by
  obtain ⟨p, l, e, s, m, args, below, meth, c, D, ca, ad, t1, t2, cs, sl⟩ := X
  obtain ⟨d1, rfl⟩ := d
  intro out ho F H locs ls hP hS hl
  exact lv_if_eq F.1 F.2.1 d1 ht (fun h => k1 h out (by rw [if_pos h] at ho; exact ho) F H locs ls hP hS hl) (fun h => k2 h out (by rw [if_neg h] at ho; exact ho) F H locs ls hP hS hl)
theorem g_icmp_ne {ρ : Type} {K : Mem × ρ → State → Prop} {X : GX} {M : MI} {σ : Mem} {pc pc' : Nat} {lv : List (Nat × Value)} {st : List Value} {o1 o2 : Option (Mem × ρ)} {x y : Int32} {off : Int} (tgt : Nat) (d : At M.1 pc (.if_icmp .ne off) 3 pc') (ht : (pc : Int) + off = (tgt : Int)) (k1 : ¬ (x = y) → GS K X M σ tgt lv st o1) (k2 : x = y → GS K X M σ pc' lv st o2) : GS K X M σ pc lv (.int y :: .int x :: st) (if x = y then o2 else o1) := by
  obtain ⟨p, l, e, s, m, args, below, meth, c, D, ca, ad, t1, t2, cs, sl⟩ := X
  obtain ⟨d1, rfl⟩ := d
  intro out ho F H locs ls hP hS hl
  exact lv_icmp_ne F.1 F.2.1 d1 ht (fun h => k1 h out (by rw [if_neg h] at ho; exact ho) F H locs ls hP hS hl) (fun h => k2 h out (by rw [if_pos h] at ho; exact ho) F H locs ls hP hS hl)
theorem g_if_ne {ρ : Type} {K : Mem × ρ → State → Prop} {X : GX} {M : MI} {σ : Mem} {pc pc' : Nat} {lv : List (Nat × Value)} {st : List Value} {o1 o2 : Option (Mem × ρ)} {x : Int32} {off : Int} (tgt : Nat) (d : At M.1 pc (.ifCond .ne off) 3 pc') (ht : (pc : Int) + off = (tgt : Int)) (k1 : ¬ (x = 0) → GS K X M σ tgt lv st o1) (k2 : x = 0 → GS K X M σ pc' lv st o2) : GS K X M σ pc lv (.int x :: st) (if x = 0 then o2 else o1) := by
  obtain ⟨p, l, e, s, m, args, below, meth, c, D, ca, ad, t1, t2, cs, sl⟩ := X
  obtain ⟨d1, rfl⟩ := d
  intro out ho F H locs ls hP hS hl
  exact lv_if_ne F.1 F.2.1 d1 ht (fun h => k1 h out (by rw [if_neg h] at ho; exact ho) F H locs ls hP hS hl) (fun h => k2 h out (by rw [if_pos h] at ho; exact ho) F H locs ls hP hS hl)
theorem g_icmp_lt {ρ : Type} {K : Mem × ρ → State → Prop} {X : GX} {M : MI} {σ : Mem} {pc pc' : Nat} {lv : List (Nat × Value)} {st : List Value} {o1 o2 : Option (Mem × ρ)} {x y : Int32} {off : Int} (tgt : Nat) (d : At M.1 pc (.if_icmp .lt off) 3 pc') (ht : (pc : Int) + off = (tgt : Int)) (k1 : x < y → GS K X M σ tgt lv st o1) (k2 : ¬ (x < y) → GS K X M σ pc' lv st o2) : GS K X M σ pc lv (.int y :: .int x :: st) (if x < y then o1 else o2) := by
  obtain ⟨p, l, e, s, m, args, below, meth, c, D, ca, ad, t1, t2, cs, sl⟩ := X
  obtain ⟨d1, rfl⟩ := d
  intro out ho F H locs ls hP hS hl
  exact lv_icmp_lt F.1 F.2.1 d1 ht (fun h => k1 h out (by rw [if_pos h] at ho; exact ho) F H locs ls hP hS hl) (fun h => k2 h out (by rw [if_neg h] at ho; exact ho) F H locs ls hP hS hl)
theorem g_if_lt {ρ : Type} {K : Mem × ρ → State → Prop} {X : GX} {M : MI} {σ : Mem} {pc pc' : Nat} {lv : List (Nat × Value)} {st : List Value} {o1 o2 : Option (Mem × ρ)} {x : Int32} {off : Int} (tgt : Nat) (d : At M.1 pc (.ifCond .lt off) 3 pc') (ht : (pc : Int) + off = (tgt : Int)) (k1 : x < 0 → GS K X M σ tgt lv st o1) (k2 : ¬ (x < 0) → GS K X M σ pc' lv st o2) : GS K X M σ pc lv (.int x :: st) (if x < 0 then o1 else o2) := by
  obtain ⟨p, l, e, s, m, args, below, meth, c, D, ca, ad, t1, t2, cs, sl⟩ := X
  obtain ⟨d1, rfl⟩ := d
  intro out ho F H locs ls hP hS hl
  exact lv_if_lt F.1 F.2.1 d1 ht (fun h => k1 h out (by rw [if_pos h] at ho; exact ho) F H locs ls hP hS hl) (fun h => k2 h out (by rw [if_neg h] at ho; exact ho) F H locs ls hP hS hl)
theorem g_icmp_ge {ρ : Type} {K : Mem × ρ → State → Prop} {X : GX} {M : MI} {σ : Mem} {pc pc' : Nat} {lv : List (Nat × Value)} {st : List Value} {o1 o2 : Option (Mem × ρ)} {x y : Int32} {off : Int} (tgt : Nat) (d : At M.1 pc (.if_icmp .ge off) 3 pc') (ht : (pc : Int) + off = (tgt : Int)) (k1 : y ≤ x → GS K X M σ tgt lv st o1) (k2 : ¬ (y ≤ x) → GS K X M σ pc' lv st o2) : GS K X M σ pc lv (.int y :: .int x :: st) (if y ≤ x then o1 else o2) := by
  obtain ⟨p, l, e, s, m, args, below, meth, c, D, ca, ad, t1, t2, cs, sl⟩ := X
  obtain ⟨d1, rfl⟩ := d
  intro out ho F H locs ls hP hS hl
  exact lv_icmp_ge F.1 F.2.1 d1 ht (fun h => k1 h out (by rw [if_pos h] at ho; exact ho) F H locs ls hP hS hl) (fun h => k2 h out (by rw [if_neg h] at ho; exact ho) F H locs ls hP hS hl)
theorem g_if_ge {ρ : Type} {K : Mem × ρ → State → Prop} {X : GX} {M : MI} {σ : Mem} {pc pc' : Nat} {lv : List (Nat × Value)} {st : List Value} {o1 o2 : Option (Mem × ρ)} {x : Int32} {off : Int} (tgt : Nat) (d : At M.1 pc (.ifCond .ge off) 3 pc') (ht : (pc : Int) + off = (tgt : Int)) (k1 : 0 ≤ x → GS K X M σ tgt lv st o1) (k2 : ¬ (0 ≤ x) → GS K X M σ pc' lv st o2) : GS K X M σ pc lv (.int x :: st) (if 0 ≤ x then o1 else o2) := by
  obtain ⟨p, l, e, s, m, args, below, meth, c, D, ca, ad, t1, t2, cs, sl⟩ := X
  obtain ⟨d1, rfl⟩ := d
  intro out ho F H locs ls hP hS hl
  exact lv_if_ge F.1 F.2.1 d1 ht (fun h => k1 h out (by rw [if_pos h] at ho; exact ho) F H locs ls hP hS hl) (fun h => k2 h out (by rw [if_neg h] at ho; exact ho) F H locs ls hP hS hl)
theorem g_icmp_gt {ρ : Type} {K : Mem × ρ → State → Prop} {X : GX} {M : MI} {σ : Mem} {pc pc' : Nat} {lv : List (Nat × Value)} {st : List Value} {o1 o2 : Option (Mem × ρ)} {x y : Int32} {off : Int} (tgt : Nat) (d : At M.1 pc (.if_icmp .gt off) 3 pc') (ht : (pc : Int) + off = (tgt : Int)) (k1 : y < x → GS K X M σ tgt lv st o1) (k2 : ¬ (y < x) → GS K X M σ pc' lv st o2) : GS K X M σ pc lv (.int y :: .int x :: st) (if y < x then o1 else o2) := by
  obtain ⟨p, l, e, s, m, args, below, meth, c, D, ca, ad, t1, t2, cs, sl⟩ := X
  obtain ⟨d1, rfl⟩ := d
  intro out ho F H locs ls hP hS hl
  exact lv_icmp_gt F.1 F.2.1 d1 ht (fun h => k1 h out (by rw [if_pos h] at ho; exact ho) F H locs ls hP hS hl) (fun h => k2 h out (by rw [if_neg h] at ho; exact ho) F H locs ls hP hS hl)
theorem g_if_gt {ρ : Type} {K : Mem × ρ → State → Prop} {X : GX} {M : MI} {σ : Mem} {pc pc' : Nat} {lv : List (Nat × Value)} {st : List Value} {o1 o2 : Option (Mem × ρ)} {x : Int32} {off : Int} (tgt : Nat) (d : At M.1 pc (.ifCond .gt off) 3 pc') (ht : (pc : Int) + off = (tgt : Int)) (k1 : 0 < x → GS K X M σ tgt lv st o1) (k2 : ¬ (0 < x) → GS K X M σ pc' lv st o2) : GS K X M σ pc lv (.int x :: st) (if 0 < x then o1 else o2) := by
  obtain ⟨p, l, e, s, m, args, below, meth, c, D, ca, ad, t1, t2, cs, sl⟩ := X
  obtain ⟨d1, rfl⟩ := d
  intro out ho F H locs ls hP hS hl
  exact lv_if_gt F.1 F.2.1 d1 ht (fun h => k1 h out (by rw [if_pos h] at ho; exact ho) F H locs ls hP hS hl) (fun h => k2 h out (by rw [if_neg h] at ho; exact ho) F H locs ls hP hS hl)
theorem g_icmp_le {ρ : Type} {K : Mem × ρ → State → Prop} {X : GX} {M : MI} {σ : Mem} {pc pc' : Nat} {lv : List (Nat × Value)} {st : List Value} {o1 o2 : Option (Mem × ρ)} {x y : Int32} {off : Int} (tgt : Nat) (d : At M.1 pc (.if_icmp .le off) 3 pc') (ht : (pc : Int) + off = (tgt : Int)) (k1 : x ≤ y → GS K X M σ tgt lv st o1) (k2 : ¬ (x ≤ y) → GS K X M σ pc' lv st o2) : GS K X M σ pc lv (.int y :: .int x :: st) (if x ≤ y then o1 else o2) := by
  obtain ⟨p, l, e, s, m, args, below, meth, c, D, ca, ad, t1, t2, cs, sl⟩ := X
  obtain ⟨d1, rfl⟩ := d
  intro out ho F H locs ls hP hS hl
  exact lv_icmp_le F.1 F.2.1 d1 ht (fun h => k1 h out (by rw [if_pos h] at ho; exact ho) F H locs ls hP hS hl) (fun h => k2 h out (by rw [if_neg h] at ho; exact ho) F H locs ls hP hS hl)
theorem g_if_le {ρ : Type} {K : Mem × ρ → State → Prop} {X : GX} {M : MI} {σ : Mem} {pc pc' : Nat} {lv : List (Nat × Value)} {st : List Value} {o1 o2 : Option (Mem × ρ)} {x : Int32} {off : Int} (tgt : Nat) (d : At M.1 pc (.ifCond .le off) 3 pc') (ht : (pc : Int) + off = (tgt : Int)) (k1 : x ≤ 0 → GS K X M σ tgt lv st o1) (k2 : ¬ (x ≤ 0) → GS K X M σ pc' lv st o2) : GS K X M σ pc lv (.int x :: st) (if x ≤ 0 then o1 else o2) := by
  obtain ⟨p, l, e, s, m, args, below, meth, c, D, ca, ad, t1, t2, cs, sl⟩ := X
  obtain ⟨d1, rfl⟩ := d
  intro out ho F H locs ls hP hS hl
  exact lv_if_le F.1 F.2.1 d1 ht (fun h => k1 h out (by rw [if_pos h] at ho; exact ho) F H locs ls hP hS hl) (fun h => k2 h out (by rw [if_neg h] at ho; exact ho) F H locs ls hP hS hl)
theorem g_goto {ρ : Type} {K : Mem × ρ → State → Prop} {X : GX} {M : MI} {σ : Mem} {pc pc' : Nat} {lv : List (Nat × Value)} {st : List Value} {o : Option (Mem × ρ)} {off : Int} (tgt : Nat) (d : At M.1 pc (.goto off) 3 pc') (ht : (pc : Int) + off = (tgt : Int)) (k : GS K X M σ tgt lv st o) : GS K X M σ pc lv st o := by
  obtain ⟨p, l, e, s, m, args, below, meth, c, D, ca, ad, t1, t2, cs, sl⟩ := X
  obtain ⟨d1, rfl⟩ := d
  intro out ho F H locs ls hP hS hl
  exact lv_goto F.1 F.2.1 d1 ht (k out ho F H locs ls hP hS hl)
theorem g_ifnull {ρ : Type} {K : Mem × ρ → State → Prop} {X : GX} {M : MI} {σ : Mem} {pc pc' : Nat} {lv : List (Nat × Value)} {st : List Value} {o : Option (Mem × ρ)} {x : Nat} {off : Int} (d : At M.1 pc (.ifnull off) 3 pc') (k : GS K X M σ pc' lv st o) : GS K X M σ pc lv (.ref x :: st) o := by
  obtain ⟨p, l, e, s, m, args, below, meth, c, D, ca, ad, t1, t2, cs, sl⟩ := X
  obtain ⟨d1, rfl⟩ := d
  intro out ho F H locs ls hP hS hl
  exact lv_ifnull F.1 F.2.1 d1 (k out ho F H locs ls hP hS hl)
theorem g_ifnullN {ρ : Type} {K : Mem × ρ → State → Prop} {X : GX} {M : MI} {σ : Mem} {pc pc' : Nat} {lv : List (Nat × Value)} {st : List Value} {o : Option (Mem × ρ)} {off : Int} (tgt : Nat) (d : At M.1 pc (.ifnull off) 3 pc') (ht : (pc : Int) + off = (tgt : Int)) (k : GS K X M σ tgt lv st o) : GS K X M σ pc lv (.null :: st) o := by
  obtain ⟨p, l, e, s, m, args, below, meth, c, D, ca, ad, t1, t2, cs, sl⟩ := X
  obtain ⟨d1, rfl⟩ := d
  intro out ho F H locs ls hP hS hl
  exact lv_ifnullN F.1 F.2.1 d1 ht (k out ho F H locs ls hP hS hl)
theorem g_ifnonnull {ρ : Type} {K : Mem × ρ → State → Prop} {X : GX} {M : MI} {σ : Mem} {pc pc' : Nat} {lv : List (Nat × Value)} {st : List Value} {o : Option (Mem × ρ)} {x : Nat} {off : Int} (tgt : Nat) (d : At M.1 pc (.ifnonnull off) 3 pc') (ht : (pc : Int) + off = (tgt : Int)) (k : GS K X M σ tgt lv st o) : GS K X M σ pc lv (.ref x :: st) o := by
  obtain ⟨p, l, e, s, m, args, below, meth, c, D, ca, ad, t1, t2, cs, sl⟩ := X
  obtain ⟨d1, rfl⟩ := d
  intro out ho F H locs ls hP hS hl
  exact lv_ifnonnull F.1 F.2.1 d1 ht (k out ho F H locs ls hP hS hl)
theorem g_ifnonnullN {ρ : Type} {K : Mem × ρ → State → Prop} {X : GX} {M : MI} {σ : Mem} {pc pc' : Nat} {lv : List (Nat × Value)} {st : List Value} {o : Option (Mem × ρ)} {off : Int} (d : At M.1 pc (.ifnonnull off) 3 pc') (k : GS K X M σ pc' lv st o) : GS K X M σ pc lv (.null :: st) o := by
  obtain ⟨p, l, e, s, m, args, below, meth, c, D, ca, ad, t1, t2, cs, sl⟩ := X
  obtain ⟨d1, rfl⟩ := d
  intro out ho F H locs ls hP hS hl
  exact lv_ifnonnullN F.1 F.2.1 d1 (k out ho F H locs ls hP hS hl)
theorem g_ldc {ρ : Type} {K : Mem × ρ → State → Prop} {X : GX} {M : MI} {σ : Mem} {pc pc' : Nat} {lv : List (Nat × Value)} {st : List Value} {o : Option (Mem × ρ)} {idx : Nat} (v : Int32) (d : At M.1 pc (.ldc idx) 2 pc') (hc : Cond.constant M.2.2.1 idx v ∈ tb) (k : GS K X M σ pc' lv (.int v :: st) o) : GS K X M σ pc lv st o := by
  obtain ⟨p, l, e, s, m, args, below, meth, c, D, ca, ad, t1, t2, cs, sl⟩ := X
  obtain ⟨d1, rfl⟩ := d
  intro out ho F H locs ls hP hS hl
  exact lv_ldc F.1 F.2.1 F.2.2.2.1 (F.2.2.2.2.1 _ hc) d1 (k out ho F H locs ls hP hS hl)
theorem g_ldcw {ρ : Type} {K : Mem × ρ → State → Prop} {X : GX} {M : MI} {σ : Mem} {pc pc' : Nat} {lv : List (Nat × Value)} {st : List Value} {o : Option (Mem × ρ)} {idx : Nat} (v : Int32) (d : At M.1 pc (.ldc_w idx) 3 pc') (hc : Cond.constant M.2.2.1 idx v ∈ tb) (k : GS K X M σ pc' lv (.int v :: st) o) : GS K X M σ pc lv st o := by
  obtain ⟨p, l, e, s, m, args, below, meth, c, D, ca, ad, t1, t2, cs, sl⟩ := X
  obtain ⟨d1, rfl⟩ := d
  intro out ho F H locs ls hP hS hl
  exact lv_ldcw F.1 F.2.1 F.2.2.2.1 (F.2.2.2.2.1 _ hc) d1 (k out ho F H locs ls hP hS hl)
theorem g_ldc2 {ρ : Type} {K : Mem × ρ → State → Prop} {X : GX} {M : MI} {σ : Mem} {pc pc' : Nat} {lv : List (Nat × Value)} {st : List Value} {o : Option (Mem × ρ)} {idx : Nat} (v : Int64) (d : At M.1 pc (.ldc2_w idx) 3 pc') (hc : Cond.constantLong M.2.2.1 idx v ∈ tb) (k : GS K X M σ pc' lv (.long v :: st) o) : GS K X M σ pc lv st o := by
  obtain ⟨p, l, e, s, m, args, below, meth, c, D, ca, ad, t1, t2, cs, sl⟩ := X
  obtain ⟨d1, rfl⟩ := d
  intro out ho F H locs ls hP hS hl
  exact lv_ldc2 F.1 F.2.1 F.2.2.2.1 (F.2.2.2.2.1 _ hc) d1 (k out ho F H locs ls hP hS hl)
theorem g_tableOut {ρ : Type} {K : Mem × ρ → State → Prop} {X : GX} {M : MI} {σ : Mem} {pc pc' : Nat} {lv : List (Nat × Value)} {st : List Value} {o : Option (Mem × ρ)} {x : Int32} {dflt lo hi : Int} {offs : Array Int} {len : Nat} (tgt : Nat) (d : At M.1 pc (.tableswitch dflt lo hi offs) len pc') (h : x.toInt < lo ∨ hi < x.toInt) (ht : (pc : Int) + dflt = (tgt : Int)) (k : GS K X M σ tgt lv st o) : GS K X M σ pc lv (.int x :: st) o := by
  obtain ⟨p, l, e, s, m, args, below, meth, c, D, ca, ad, t1, t2, cs, sl⟩ := X
  obtain ⟨d1, rfl⟩ := d
  intro out ho F H locs ls hP hS hl
  exact lv_tableOut F.1 F.2.1 d1 h ht (k out ho F H locs ls hP hS hl)
theorem g_tableIn {ρ : Type} {K : Mem × ρ → State → Prop} {X : GX} {M : MI} {σ : Mem} {pc pc' : Nat} {lv : List (Nat × Value)} {st : List Value} {o : Option (Mem × ρ)} {x : Int32} {dflt lo hi : Int} {offs : Array Int} {len : Nat} {off : Int} (tgt : Nat) (d : At M.1 pc (.tableswitch dflt lo hi offs) len pc') (h1 : ¬ x.toInt < lo) (h2 : ¬ hi < x.toInt) (ho' : offs[(x.toInt - lo).toNat]? = some off) (ht : (pc : Int) + off = (tgt : Int)) (k : GS K X M σ tgt lv st o) : GS K X M σ pc lv (.int x :: st) o := by
  obtain ⟨p, l, e, s, m, args, below, meth, c, D, ca, ad, t1, t2, cs, sl⟩ := X
  obtain ⟨d1, rfl⟩ := d
  intro out ho F H locs ls hP hS hl
  exact lv_tableIn F.1 F.2.1 d1 h1 h2 ho' ht (k out ho F H locs ls hP hS hl)
theorem g_guard {ρ : Type} {K : Mem × ρ → State → Prop} {X : GX} {M : MI} {σ : Mem} {pc : Nat} {lv : List (Nat × Value)} {st : List Value} {o : Option (Mem × ρ)} {c : Prop} [Decidable c] (k : c → GS K X M σ pc lv st o) : GS K X M σ pc lv st (if c then o else none) := by
  intro out ho
  by_cases hc : c
  · rw [if_pos hc] at ho; exact k hc out ho
  · rw [if_neg hc] at ho; cases ho
theorem g_sub {ρ : Type} {K : Mem × ρ → State → Prop} {X : GX} {M : MI} {σ : Mem} {pc : Nat} {lv : List (Nat × Value)} {st : List Value} {o : Option (Mem × ρ)} (ks : List Nat) {lv' : List (Nat × Value)} (hl' : lv_pick lv ks = lv') (k : GS K X M σ pc lv' st o) : GS K X M σ pc lv st o :=
  fun out ho F H locs ls hP hS hl => k out ho F H locs ls hP hS (lv_sub hl ks hl')
theorem g_split {ρ : Type} {K : Mem × ρ → State → Prop} {X : GX} {M : MI} {σ : Mem} {pc : Nat} {lv : List (Nat × Value)} {st : List Value} {r : Option Nat} {b : Nat} {g : Nat → Nat} {o1 : Option (Mem × ρ)} {o2 : Nat → Option (Mem × ρ)} (k1 : r = none → GS K X M σ pc lv (.null :: st) o1) (k2 : ∀ x, r = some x → x < b → GS K X M σ pc lv (.ref (g x) :: st) (o2 x)) : GS K X M σ pc lv (va_rf (r.map g) :: st) (match r with | none => o1 | some x => if x < b then o2 x else none) := by
  cases r with
  | none => exact k1 rfl
  | some x => exact g_guard (fun h => k2 x rfl h)
end
section
def entI : List (Nat × Nat × Nat × Nat) := (List.range NO).flatMap fun o => match shp o with
  | .inl q => (List.range q.2.length).flatMap fun j => match q.2[j]? with
    | some (0, c, k) => [(c, k, o, j)]
    | some (2, c, k) => [(c, k, o, j)]
    | _ => []
  | .inr (0, _, c, k) => [(c, k, o, 0)]
  | .inr (2, _, c, k) => [(c, k, o, 0)]
  | _ => []
def entJ : List (Nat × Nat × Nat × Nat) := (List.range NO).flatMap fun o => match shp o with
  | .inl q => (List.range q.2.length).flatMap fun j => match q.2[j]? with
    | some (1, c, k) => [(c, k, o, j)]
    | _ => []
  | .inr (1, _, c, k) => [(c, k, o, 0)]
  | _ => []
def entR : List (Nat × Nat × Nat × Nat) := (List.range NO).flatMap fun o => match shp o with
  | .inl q => (List.range q.2.length).flatMap fun j => match q.2[j]? with
    | some (5, c, k) => [(c, k, o, j)]
    | _ => []
  | .inr (4, _, c, k) => [(c, k, o, 0)]
  | _ => []
def own (l : List (Nat × Nat × Nat × Nat)) (c k : Nat) : Option (Nat × Nat) := (l.find? (fun q => q.1 == c && q.2.1 == k)).map (fun q => (q.2.2.1, q.2.2.2))
set_option maxRecDepth 100000 in
theorem own_I : entI.all (fun q => own entI q.1 q.2.1 == some (q.2.2.1, q.2.2.2)) = true := by decide +kernel
set_option maxRecDepth 100000 in
theorem own_J : entJ.all (fun q => own entJ q.1 q.2.1 == some (q.2.2.1, q.2.2.2)) = true := by decide +kernel
set_option maxRecDepth 100000 in
theorem own_R : entR.all (fun q => own entR q.1 q.2.1 == some (q.2.2.1, q.2.2.2)) = true := by decide +kernel
set_option maxRecDepth 100000 in
/-- kinds that there are -/
theorem knd_ok : ((List.range NO).all fun o => match shp o with
  | .inl q => q.2.all (fun f => f.1 == 0 || f.1 == 1 || f.1 == 2 || f.1 == 3 || f.1 == 5)
  | .inr q => q.1 == 0 || q.1 == 1 || q.1 == 2 || q.1 == 3 || q.1 == 4 || q.1 == 5 || q.1 == 6) = true := by decide +kernel
theorem own_of {l : List (Nat × Nat × Nat × Nat)} (h : l.all (fun q => own l q.1 q.2.1 == some (q.2.2.1, q.2.2.2)) = true) {c k o j : Nat} (hm : (c, k, o, j) ∈ l) : own l c k = some (o, j) := by
  have := List.all_eq_true.mp h _ hm
  simpa using this
theorem ownI_f {o ci j kd c k : Nat} {fl : List (Nat × Nat × Nat)} (ho : o < NO) (hs : shp o = .inl (ci, fl)) (hj : fl[j]? = some (kd, c, k)) (hk : kd = 0 ∨ kd = 2) : own entI c k = some (o, j) := by
  refine own_of own_I (List.mem_flatMap.mpr ⟨o, List.mem_range.mpr ho, ?_⟩)
  rw [hs]
  refine List.mem_flatMap.mpr ⟨j, List.mem_range.mpr (List.getElem?_eq_some_iff.mp hj).1, ?_⟩
  dsimp only
  rw [hj]
  rcases hk with rfl | rfl <;> exact List.mem_singleton.mpr rfl
theorem ownI_a {o kd n c k : Nat} (ho : o < NO) (hs : shp o = .inr (kd, n, c, k)) (hk : kd = 0 ∨ kd = 2) : own entI c k = some (o, 0) := by
  refine own_of own_I (List.mem_flatMap.mpr ⟨o, List.mem_range.mpr ho, ?_⟩)
  rw [hs]
  rcases hk with rfl | rfl <;> exact List.mem_singleton.mpr rfl
theorem ownJ_f {o ci j c k : Nat} {fl : List (Nat × Nat × Nat)} (ho : o < NO) (hs : shp o = .inl (ci, fl)) (hj : fl[j]? = some (1, c, k)) : own entJ c k = some (o, j) := by
  refine own_of own_J (List.mem_flatMap.mpr ⟨o, List.mem_range.mpr ho, ?_⟩)
  rw [hs]
  refine List.mem_flatMap.mpr ⟨j, List.mem_range.mpr (List.getElem?_eq_some_iff.mp hj).1, ?_⟩
  dsimp only
  rw [hj]
  exact List.mem_singleton.mpr rfl
theorem ownJ_a {o n c k : Nat} (ho : o < NO) (hs : shp o = .inr (1, n, c, k)) : own entJ c k = some (o, 0) := by
  refine own_of own_J (List.mem_flatMap.mpr ⟨o, List.mem_range.mpr ho, ?_⟩)
  rw [hs]
  exact List.mem_singleton.mpr rfl
theorem ownR_f {o ci j c k : Nat} {fl : List (Nat × Nat × Nat)} (ho : o < NO) (hs : shp o = .inl (ci, fl)) (hj : fl[j]? = some (5, c, k)) : own entR c k = some (o, j) := by
  refine own_of own_R (List.mem_flatMap.mpr ⟨o, List.mem_range.mpr ho, ?_⟩)
  rw [hs]
  refine List.mem_flatMap.mpr ⟨j, List.mem_range.mpr (List.getElem?_eq_some_iff.mp hj).1, ?_⟩
  dsimp only
  rw [hj]
  exact List.mem_singleton.mpr rfl
theorem ownR_a {o n c k : Nat} (ho : o < NO) (hs : shp o = .inr (4, n, c, k)) : own entR c k = some (o, 0) := by
  refine own_of own_R (List.mem_flatMap.mpr ⟨o, List.mem_range.mpr ho, ?_⟩)
  rw [hs]
  exact List.mem_singleton.mpr rfl
theorem knd_f {o ci j kd c k : Nat} {fl : List (Nat × Nat × Nat)} (ho : o < NO) (hs : shp o = .inl (ci, fl)) (hj : fl[j]? = some (kd, c, k)) : kd = 0 ∨ kd = 1 ∨ kd = 2 ∨ kd = 3 ∨ kd = 5 := by
  have h := List.all_eq_true.mp knd_ok o (List.mem_range.mpr ho)
  rw [hs] at h
  have h2 := List.all_eq_true.mp h _ (List.mem_of_getElem? hj)
  simp at h2
  omega
theorem knd_a {o kd n c k : Nat} (ho : o < NO) (hs : shp o = .inr (kd, n, c, k)) : kd = 0 ∨ kd = 1 ∨ kd = 2 ∨ kd = 3 ∨ kd = 4 ∨ kd = 5 ∨ kd = 6 := by
  have h := List.all_eq_true.mp knd_ok o (List.mem_range.mpr ho)
  rw [hs] at h
  simp at h
  omega
theorem cel_o {ca : Nat → ClassId} {ad : Nat → Nat} {σ : Mem} {o ci : Nat} {fl : List (Nat × Nat × Nat)} (hs : shp o = .inl (ci, fl)) : cel ca ad σ o = .inr (ci, fl.map (fv ad σ)) := by simp [cel, hs]
theorem cel_a {ca : Nat → ClassId} {ad : Nat → Nat} {σ : Mem} {o : Nat} {q : Nat × Nat × Nat × Nat} (hs : shp o = .inr q) : cel ca ad σ o = .inl (ca (akc q.1), q.2.1, av ad σ q) := by simp [cel, hs]
/-- two memories that are alike but where a cell of the ints, of the longs, of the references is: a cell of another object is the same -/
theorem cel_same {ca : Nat → ClassId} {ad : Nat → Nat} {σ σ' : Mem} {o : Nat} (ho : o < NO)
    (hI : ∀ c k, (own entI c k).map Prod.fst = some o → σ'.1 c k = σ.1 c k) (hJ : ∀ c k, (own entJ c k).map Prod.fst = some o → σ'.2.1 c k = σ.2.1 c k) (hR : ∀ c k, (own entR c k).map Prod.fst = some o → σ'.2.2 c k = σ.2.2 c k) : cel ca ad σ' o = cel ca ad σ o := by
  cases hs : shp o with
  | inl q =>
    obtain ⟨ci, fl⟩ := q
    rw [cel_o hs, cel_o hs]
    congr 2
    refine List.map_congr_left fun q hq => ?_
    obtain ⟨j, hj⟩ := List.getElem?_of_mem hq
    obtain ⟨kd, c, k⟩ := q
    rcases knd_f ho hs hj with rfl | rfl | rfl | rfl | rfl
    · show Value.int _ = Value.int _
      rw [hI c k (by rw [ownI_f ho hs hj (Or.inl rfl)]; rfl)]
    · show Value.long _ = Value.long _
      rw [hJ c k (by rw [ownJ_f ho hs hj]; rfl)]
    · show Value.int _ = Value.int _
      rw [hI c k (by rw [ownI_f ho hs hj (Or.inr rfl)]; rfl)]
    · rfl
    · show va_rf _ = va_rf _
      rw [hR c k (by rw [ownR_f ho hs hj]; rfl)]
  | inr q =>
    obtain ⟨kd, n, c, k⟩ := q
    rw [cel_a hs, cel_a hs]
    congr 3
    rcases knd_a ho hs with rfl | rfl | rfl | rfl | rfl | rfl | rfl
    · show Sum.inl _ = Sum.inl _
      rw [hI c k (by rw [ownI_a ho hs (Or.inl rfl)]; rfl)]
    · show Sum.inr (Sum.inl _) = Sum.inr (Sum.inl _)
      rw [hJ c k (by rw [ownJ_a ho hs]; rfl)]
    · show Sum.inl _ = Sum.inl _
      rw [hI c k (by rw [ownI_a ho hs (Or.inr rfl)]; rfl)]
    · rfl
    · show Sum.inr (Sum.inr (Sum.inr (Sum.inr _))) = Sum.inr (Sum.inr (Sum.inr (Sum.inr _)))
      rw [hR c k (by rw [ownR_a ho hs]; rfl)]
    · rfl
    · rfl
theorem wld_set {ca : Nat → ClassId} {ad : Nat → Nat} {σ σ' : Mem} {o : Nat} {E : va_E} (ho : o < NO) (h0 : cel ca ad σ' o = E) (h1 : ∀ o', o' < NO → o' ≠ o → cel ca ad σ' o' = cel ca ad σ o') : (wld ca ad σ).set o (ad o, E) = wld ca ad σ' := by
  refine List.ext_getElem? fun i => ?_
  by_cases hi : i < NO
  · rw [wld_at hi]
    by_cases he : i = o
    · subst he
      rw [List.getElem?_set_self (by simp [wld, hi]), h0]
    · rw [List.getElem?_set_ne (Ne.symm he), wld_at hi, h1 i hi he]
  · have hl : (wld ca ad σ').length ≤ i := by simp [wld]; omega
    have hl2 : ((wld ca ad σ).set o (ad o, E)).length ≤ i := by simp [wld]; omega
    rw [List.getElem?_eq_none hl, List.getElem?_eq_none hl2]
theorem map_set {α β : Type} {l : List α} {f g : α → β} {j : Nat} {v : β} {q : α} (hq : l[j]? = some q) (hv : g q = v) (hn : ∀ i q', i ≠ j → l[i]? = some q' → g q' = f q') : (l.map f).set j v = l.map g := by
  refine List.ext_getElem? fun i => ?_
  by_cases he : i = j
  · subst he
    rw [List.getElem?_set_self (by simpa using (List.getElem?_eq_some_iff.mp hq).1), List.getElem?_map, hq]
    simp [hv]
  · rw [List.getElem?_set_ne (Ne.symm he), List.getElem?_map, List.getElem?_map]
    cases h : l[i]? with
    | none => rfl
    | some q' => simp [hn i q' he h]
/-- an int field is another number -/
theorem wld_putI {ca : Nat → ClassId} {ad : Nat → Nat} {σ : Mem} {o ci j kd c k : Nat} {fl : List (Nat × Nat × Nat)} {v : Int32} (ho : o < NO) (hs : shp o = .inl (ci, fl)) (hj : fl[j]? = some (kd, c, k)) (hk : kd = 0 ∨ kd = 2) : (wld ca ad σ).set o (ad o, .inr (ci, (fl.map (fv ad σ)).set j (.int v))) = wld ca ad (uI σ c k 0 v) := by
  have hown := ownI_f ho hs hj hk
  refine wld_set ho ?_ fun o' ho' hne => cel_same ho' (fun c' k' h => ?_) (fun _ _ _ => rfl) (fun _ _ _ => rfl)
  · rw [cel_o hs]
    congr 2
    refine (map_set hj ?_ ?_).symm
    · rcases hk with rfl | rfl <;> simp [fv, uI]
    · rintro i ⟨kd', c', k'⟩ hi hq
      rcases knd_f ho hs hq with rfl | rfl | rfl | rfl | rfl
      · have h2 := ownI_f ho hs hq (Or.inl rfl)
        have : ¬ (c' = c ∧ k' = k) := fun h => by rw [h.1, h.2, hown] at h2; exact hi (Prod.mk.inj (Option.some.inj h2)).2.symm
        simp only [fv, uI]
        rw [if_neg (fun h => this ⟨h.1, h.2.1⟩)]
      · rfl
      · have h2 := ownI_f ho hs hq (Or.inr rfl)
        have : ¬ (c' = c ∧ k' = k) := fun h => by rw [h.1, h.2, hown] at h2; exact hi (Prod.mk.inj (Option.some.inj h2)).2.symm
        simp only [fv, uI]
        rw [if_neg (fun h => this ⟨h.1, h.2.1⟩)]
      · rfl
      · rfl
  · funext j'
    have : ¬ (c' = c ∧ k' = k) := fun e => by rw [e.1, e.2, hown] at h; exact hne (Option.some.inj h).symm
    simp only [uI]
    rw [if_neg (fun h => this ⟨h.1, h.2.1⟩)]
theorem wld_putJ {ca : Nat → ClassId} {ad : Nat → Nat} {σ : Mem} {o ci j c k : Nat} {fl : List (Nat × Nat × Nat)} {v : Int64} (ho : o < NO) (hs : shp o = .inl (ci, fl)) (hj : fl[j]? = some (1, c, k)) : (wld ca ad σ).set o (ad o, .inr (ci, (fl.map (fv ad σ)).set j (.long v))) = wld ca ad (uJ σ c k 0 v) := by
  have hown := ownJ_f ho hs hj
  refine wld_set ho ?_ fun o' ho' hne => cel_same ho' (fun _ _ _ => rfl) (fun c' k' h => ?_) (fun _ _ _ => rfl)
  · rw [cel_o hs]
    congr 2
    refine (map_set hj ?_ ?_).symm
    · simp [fv, uJ]
    · rintro i ⟨kd', c', k'⟩ hi hq
      rcases knd_f ho hs hq with rfl | rfl | rfl | rfl | rfl
      · rfl
      · have h2 := ownJ_f ho hs hq
        have : ¬ (c' = c ∧ k' = k) := fun h => by rw [h.1, h.2, hown] at h2; exact hi (Prod.mk.inj (Option.some.inj h2)).2.symm
        simp only [fv, uJ]
        rw [if_neg (fun h => this ⟨h.1, h.2.1⟩)]
      · rfl
      · rfl
      · rfl
  · funext j'
    have : ¬ (c' = c ∧ k' = k) := fun e => by rw [e.1, e.2, hown] at h; exact hne (Option.some.inj h).symm
    simp only [uJ]
    rw [if_neg (fun h => this ⟨h.1, h.2.1⟩)]
theorem wld_putR {ca : Nat → ClassId} {ad : Nat → Nat} {σ : Mem} {o ci j c k x : Nat} {fl : List (Nat × Nat × Nat)} (ho : o < NO) (hs : shp o = .inl (ci, fl)) (hj : fl[j]? = some (5, c, k)) : (wld ca ad σ).set o (ad o, .inr (ci, (fl.map (fv ad σ)).set j (.ref (ad (69 + 4 * x))))) = wld ca ad (uR σ c k 0 (some x)) := by
  have hown := ownR_f ho hs hj
  refine wld_set ho ?_ fun o' ho' hne => cel_same ho' (fun _ _ _ => rfl) (fun _ _ _ => rfl) (fun c' k' h => ?_)
  · rw [cel_o hs]
    congr 2
    refine (map_set hj ?_ ?_).symm
    · simp [fv, uR, va_rf]
    · rintro i ⟨kd', c', k'⟩ hi hq
      rcases knd_f ho hs hq with rfl | rfl | rfl | rfl | rfl
      · rfl
      · rfl
      · rfl
      · rfl
      · have h2 := ownR_f ho hs hq
        have : ¬ (c' = c ∧ k' = k) := fun h => by rw [h.1, h.2, hown] at h2; exact hi (Prod.mk.inj (Option.some.inj h2)).2.symm
        simp only [fv, uR]
        rw [if_neg (fun h => this ⟨h.1, h.2.1⟩)]
  · funext j'
    have : ¬ (c' = c ∧ k' = k) := fun e => by rw [e.1, e.2, hown] at h; exact hne (Option.some.inj h).symm
    simp only [uR]
    rw [if_neg (fun h => this ⟨h.1, h.2.1⟩)]
/-- an array of ints (of booleans) is another one -/
theorem wld_arrI {ca : Nat → ClassId} {ad : Nat → Nat} {σ : Mem} {o kd n c k : Nat} {f : Nat → Int32} (ho : o < NO) (hs : shp o = .inr (kd, n, c, k)) (hk : kd = 0 ∨ kd = 2) : (wld ca ad σ).set o (ad o, .inl (ca (akc kd), n, .inl f)) = wld ca ad (aI σ c k f) := by
  have hown := ownI_a ho hs hk
  refine wld_set ho ?_ fun o' ho' hne => cel_same ho' (fun c' k' h => ?_) (fun _ _ _ => rfl) (fun _ _ _ => rfl)
  · rw [cel_a hs]
    congr 3
    rcases hk with rfl | rfl <;> simp [av, aI]
  · funext j'
    have : ¬ (c' = c ∧ k' = k) := fun e => by rw [e.1, e.2, hown] at h; exact hne (Option.some.inj h).symm
    simp only [aI]
    rw [if_neg this]
theorem wld_arrJ {ca : Nat → ClassId} {ad : Nat → Nat} {σ : Mem} {o n c k : Nat} {f : Nat → Int64} (ho : o < NO) (hs : shp o = .inr (1, n, c, k)) : (wld ca ad σ).set o (ad o, .inl (ca 1, n, .inr (.inl f))) = wld ca ad (aJ σ c k f) := by
  have hown := ownJ_a ho hs
  refine wld_set ho ?_ fun o' ho' hne => cel_same ho' (fun _ _ _ => rfl) (fun c' k' h => ?_) (fun _ _ _ => rfl)
  · rw [cel_a hs]
    congr 3
    simp [av, aJ]
  · funext j'
    have : ¬ (c' = c ∧ k' = k) := fun e => by rw [e.1, e.2, hown] at h; exact hne (Option.some.inj h).symm
    simp only [aJ]
    rw [if_neg this]
theorem aI_upd {σ : Mem} {c k j : Nat} {v : Int32} : aI σ c k (upd (σ.1 c k) j v) = uI σ c k j v := by
  simp only [aI, uI, Prod.mk.injEq, and_true]
  funext c' k' j'
  by_cases h : c' = c ∧ k' = k
  · obtain ⟨rfl, rfl⟩ := h
    by_cases hj : j' = j <;> simp [upd, hj]
  · rw [if_neg h, if_neg (fun h' => h ⟨h'.1, h'.2.1⟩)]
theorem aJ_upd {σ : Mem} {c k j : Nat} {v : Int64} : aJ σ c k (vp_updL (σ.2.1 c k) j v) = uJ σ c k j v := by
  simp only [aJ, uJ, Prod.mk.injEq, and_true, true_and]
  funext c' k' j'
  by_cases h : c' = c ∧ k' = k
  · obtain ⟨rfl, rfl⟩ := h
    by_cases hj : j' = j <;> simp [vp_updL, hj]
  · rw [if_neg h, if_neg (fun h' => h ⟨h'.1, h'.2.1⟩)]
theorem wld_arrR {ca : Nat → ClassId} {ad : Nat → Nat} {σ : Mem} {o n c k j x : Nat} (ho : o < NO) (hs : shp o = .inr (4, n, c, k)) : (wld ca ad σ).set o (ad o, .inl (ca 4, n, .inr (.inr (.inr (.inr (va_up (fun j => (σ.2.2 c k j).map (fun x => ad (28 + x))) j (some (ad (28 + x))))))))) = wld ca ad (uR σ c k j (some x)) := by
  have hown := ownR_a ho hs
  refine wld_set ho ?_ fun o' ho' hne => cel_same ho' (fun _ _ _ => rfl) (fun _ _ _ => rfl) (fun c' k' h => ?_)
  · rw [cel_a hs]
    congr 3
    simp only [av, uR]
    congr 4
    funext j'
    by_cases hj : j' = j <;> simp [va_up, hj]
  · funext j'
    have : ¬ (c' = c ∧ k' = k) := fun e => by rw [e.1, e.2, hown] at h; exact hne (Option.some.inj h).symm
    simp only [uR]
    rw [if_neg (fun h => this ⟨h.1, h.2.1⟩)]
end
section
def ck {α : Type} (i : Int32) (n : Nat) (o : Option α) : Option α := if i < 0 ∨ n ≤ i.toNatClampNeg then none else o
def FL (ow : String) (idx : Nat) (rf n d : String) : Prop := Cond.fieldLink ow idx rf n d ∈ tb ∨ ∃ host, Cond.fieldLinkNest ow idx rf n d host ∈ nestW
def ML (ow : String) (idx : Nat) (y : MethodName) : Prop := Cond.methodLink ow idx y ∈ tb ∨ ∃ host, Cond.methodLinkNest ow idx y host ∈ nestW
theorem nest_tab : nestW.all Cond.onTables = true := by decide +kernel
theorem nest_on {w : Cond} (h : w ∈ nestW) : w.onTables = true := List.all_eq_true.mp nest_tab w h
section ROWS
variable {ρ : Type} {K : Mem × ρ → State → Prop} {X : GX} {M : MI} {σ : Mem} {pc pc' : Nat} {lv : List (Nat × Value)} {st : List Value} {o : Option (Mem × ρ)}
theorem g_getA {b ci N idx : Nat} {fl : List (Nat × Nat × Nat)} {C : String} {T : u_T} (hs : shp b = .inl (ci, fl)) (hb : b < NO) (hc : classes[ci]? = some (C, T, N)) (hin : ∀ w ∈ u_ws C T N, w ∈ tb) (j : Nat) (hj : j < N) {q : Nat × Nat × Nat} (hq : fl[j]? = some q) {v : Value} (hv : fv (xad X) σ q = v) (lk : FL M.2.2.1 idx (T j).1 (T j).2.1 (T j).2.2.1) (d : At M.1 pc (.getfield idx) 3 pc') (kk : GS K X M σ pc' lv (v :: st) o) : GS K X M σ pc lv (.ref (xad X b) :: st) o := by
  obtain ⟨p, l, e, s, m, args, below, meth, c, D, ca, ad, t1, t2, cs, sl⟩ := X
  obtain ⟨d1, rfl⟩ := d
  intro out ho F H locs ls hP hS hl
  have hw : (wld ca ad σ)[b]? = some (ad b, .inr (ci, fl.map (fv ad σ))) := by rw [wld_at hb, cel_o hs]
  have hv' : (fl.map (fv ad σ))[j]? = some v := by rw [List.getElem?_map, hq]; exact congrArg some hv
  rcases lk with lk | ⟨host, lk⟩
  · exact va_get F.1 F.2.1 F.2.2.2.2.1 hin F.2.2.2.1 F.2.2.2.2.2.1 hP b hw hc j hj (F.2.2.2.2.1 _ lk) (fun _ h => h) hv' d1 (kk out ho F H locs ls hP hS hl)
  · exact va_getN F.1 F.2.1 F.2.2.2.2.1 hin F.2.2.2.1 F.2.2.2.2.2.1 hP b hw hc j hj (va_Nw.use (nest_on lk) (F.2.2.2.2.2.2.1 _ lk)) (fun _ h => h) hv' d1 (kk out ho F H locs ls hP hS hl)
theorem g_putA {b ci N idx : Nat} {fl : List (Nat × Nat × Nat)} {C : String} {T : u_T} {ty0 : Nat → FieldType} (hs : shp b = .inl (ci, fl)) (hb : b < NO) (hc : classes[ci]? = some (C, T, N)) (hin : ∀ w ∈ u_ws C T N, w ∈ tb) (hty : ∀ k, k < N → parseFieldDescriptor (T k).2.2.1 = some (ty0 k)) (hnm : ∀ a, a < N → ∀ b, b < N → a ≠ b → (T a).2.1 ≠ (T b).2.1) (j : Nat) (hj : j < N) (hfin : (T j).2.2.2 = false) {v : Value} (hn : narrow (ty0 j) v = v) (hfit : fits (ty0 j) v = true) (hjl : j < fl.length) {σ' : Mem} (hσ : ∀ ca ad, ad = xad X → (wld ca ad σ).set b (ad b, .inr (ci, (fl.map (fv ad σ)).set j v)) = wld ca ad σ') (lk : FL M.2.2.1 idx (T j).1 (T j).2.1 (T j).2.2.1) (d : At M.1 pc (.putfield idx) 3 pc') (kk : GS K X M σ' pc' lv st o) : GS K X M σ pc lv (v :: .ref (xad X b) :: st) o := by
  obtain ⟨p, l, e, s, m, args, below, meth, c, D, ca, ad, t1, t2, cs, sl⟩ := X
  obtain ⟨d1, rfl⟩ := d
  intro out ho F H locs ls hP hS hl
  have hw : (wld ca ad σ)[b]? = some (ad b, .inr (ci, fl.map (fv ad σ))) := by rw [wld_at hb, cel_o hs]
  have hD : va_D (AD ad) (wld ca ad σ) := F.2.2.2.2.2.2.2.2.2.2.1 σ
  have h2 := hσ ca ad rfl
  rcases lk with lk | ⟨host, lk⟩
  · exact va_put F.1 F.2.1 F.2.2.2.2.1 hin ty0 hty hnm F.2.2.2.1 F.2.2.2.2.2.1 hP hD hS b hw hc j hj (F.2.2.2.2.1 _ lk) (fun _ h => h) hfin (hty j hj) hn hfit (by simpa using hjl) d1 (fun H1 locs1 hP1 _ hS1 => kk out ho F H1 locs1 ls (by rw [h2] at hP1; exact hP1) hS1 hl)
  · exact va_putN F.1 F.2.1 F.2.2.2.2.1 hin ty0 hty hnm F.2.2.2.1 F.2.2.2.2.2.1 hP hD hS b hw hc j hj (va_Nw.use (nest_on lk) (F.2.2.2.2.2.2.1 _ lk)) (fun _ h => h) hfin (hty j hj) hn hfit (by simpa using hjl) d1 (fun H1 locs1 hP1 _ hS1 => kk out ho F H1 locs1 ls (by rw [h2] at hP1; exact hP1) hS1 hl)
theorem g_iald {b n c k : Nat} {i : Int32} (hs : shp b = .inr (0, n, c, k)) (hb : b < NO) (d : At M.1 pc .iaload 1 pc') (kk : ¬ (i < 0 ∨ n ≤ i.toNatClampNeg) → GS K X M σ pc' lv (.int (σ.1 c k i.toNatClampNeg) :: st) o) : GS K X M σ pc lv (.int i :: .ref (xad X b) :: st) (ck i n o) := by
  obtain ⟨p, l, e, s, m, args, below, meth, cd, D, ca, ad, t1, t2, cs, sl⟩ := X
  obtain ⟨d1, rfl⟩ := d
  intro out ho F H locs ls hP hS hl
  have hi : ¬ (i < 0 ∨ n ≤ i.toNatClampNeg) := fun h => by rw [ck, if_pos h] at ho; cases ho
  rw [ck, if_neg hi] at ho
  exact va_iald F.1 F.2.1 F.2.2.2.2.2.1 hP b 0 (by rw [wld_at hb, cel_a hs]; rfl) rfl hi d1 (kk hi out ho F H locs ls hP hS hl)
theorem g_zald {b n c k : Nat} {i : Int32} (hs : shp b = .inr (2, n, c, k)) (hb : b < NO) (d : At M.1 pc .baload 1 pc') (kk : ¬ (i < 0 ∨ n ≤ i.toNatClampNeg) → GS K X M σ pc' lv (.int (σ.1 c k i.toNatClampNeg) :: st) o) : GS K X M σ pc lv (.int i :: .ref (xad X b) :: st) (ck i n o) := by
  obtain ⟨p, l, e, s, m, args, below, meth, cd, D, ca, ad, t1, t2, cs, sl⟩ := X
  obtain ⟨d1, rfl⟩ := d
  intro out ho F H locs ls hP hS hl
  have hi : ¬ (i < 0 ∨ n ≤ i.toNatClampNeg) := fun h => by rw [ck, if_pos h] at ho; cases ho
  rw [ck, if_neg hi] at ho
  exact va_zald F.1 F.2.1 F.2.2.2.2.2.1 hP b 2 (by rw [wld_at hb, cel_a hs]; rfl) rfl hi d1 (kk hi out ho F H locs ls hP hS hl)
theorem g_lald {b n c k : Nat} {i : Int32} (hs : shp b = .inr (1, n, c, k)) (hb : b < NO) (d : At M.1 pc .laload 1 pc') (kk : ¬ (i < 0 ∨ n ≤ i.toNatClampNeg) → GS K X M σ pc' lv (.long (σ.2.1 c k i.toNatClampNeg) :: st) o) : GS K X M σ pc lv (.int i :: .ref (xad X b) :: st) (ck i n o) := by
  obtain ⟨p, l, e, s, m, args, below, meth, cd, D, ca, ad, t1, t2, cs, sl⟩ := X
  obtain ⟨d1, rfl⟩ := d
  intro out ho F H locs ls hP hS hl
  have hi : ¬ (i < 0 ∨ n ≤ i.toNatClampNeg) := fun h => by rw [ck, if_pos h] at ho; cases ho
  rw [ck, if_neg hi] at ho
  exact va_lald F.1 F.2.1 F.2.2.2.2.2.1 hP b 1 (by rw [wld_at hb, cel_a hs]; rfl) rfl hi d1 (kk hi out ho F H locs ls hP hS hl)
/-- references: of rows, of laws that may change, of presses, of laws that don't -/
theorem g_ald3 {b n c k : Nat} {i : Int32} (hs : shp b = .inr (3, n, c, k)) (hb : b < NO) (d : At M.1 pc .aaload 1 pc') (kk : ¬ (i < 0 ∨ n ≤ i.toNatClampNeg) → GS K X M σ pc' lv (.ref (xad X (4 + 2 * (k + i.toNatClampNeg))) :: st) o) : GS K X M σ pc lv (.int i :: .ref (xad X b) :: st) (ck i n o) := by
  obtain ⟨p, l, e, s, m, args, below, meth, cd, D, ca, ad, t1, t2, cs, sl⟩ := X
  obtain ⟨d1, rfl⟩ := d
  intro out ho F H locs ls hP hS hl
  have hi : ¬ (i < 0 ∨ n ≤ i.toNatClampNeg) := fun h => by rw [ck, if_pos h] at ho; cases ho
  rw [ck, if_neg hi] at ho
  exact va_aldq F.1 F.2.1 F.2.2.2.2.2.1 hP b 3 (C := RX4) (f := fun j => some (ad (4 + 2 * (k + j)))) (by rw [wld_at hb, cel_a hs]; rfl) rfl hi d1 (kk hi out ho F H locs ls hP hS hl)
theorem g_ald4 {b n c k : Nat} {i : Int32} (hs : shp b = .inr (4, n, c, k)) (hb : b < NO) (d : At M.1 pc .aaload 1 pc') (kk : ¬ (i < 0 ∨ n ≤ i.toNatClampNeg) → GS K X M σ pc' lv (va_rf ((σ.2.2 c k i.toNatClampNeg).map (fun x => xad X (28 + x))) :: st) o) : GS K X M σ pc lv (.int i :: .ref (xad X b) :: st) (ck i n o) := by
  obtain ⟨p, l, e, s, m, args, below, meth, cd, D, ca, ad, t1, t2, cs, sl⟩ := X
  obtain ⟨d1, rfl⟩ := d
  intro out ho F H locs ls hP hS hl
  have hi : ¬ (i < 0 ∨ n ≤ i.toNatClampNeg) := fun h => by rw [ck, if_pos h] at ho; cases ho
  rw [ck, if_neg hi] at ho
  exact va_aldq F.1 F.2.1 F.2.2.2.2.2.1 hP b 4 (C := RX1) (by rw [wld_at hb, cel_a hs]; rfl) rfl hi d1 (kk hi out ho F H locs ls hP hS hl)
theorem g_ald5 {b n c k : Nat} {i : Int32} (hs : shp b = .inr (5, n, c, k)) (hb : b < NO) (d : At M.1 pc .aaload 1 pc') (kk : ¬ (i < 0 ∨ n ≤ i.toNatClampNeg) → GS K X M σ pc' lv (.ref (xad X (69 + 4 * (k + i.toNatClampNeg))) :: st) o) : GS K X M σ pc lv (.int i :: .ref (xad X b) :: st) (ck i n o) := by
  obtain ⟨p, l, e, s, m, args, below, meth, cd, D, ca, ad, t1, t2, cs, sl⟩ := X
  obtain ⟨d1, rfl⟩ := d
  intro out ho F H locs ls hP hS hl
  have hi : ¬ (i < 0 ∨ n ≤ i.toNatClampNeg) := fun h => by rw [ck, if_pos h] at ho; cases ho
  rw [ck, if_neg hi] at ho
  exact va_aldq F.1 F.2.1 F.2.2.2.2.2.1 hP b 5 (C := RX2) (f := fun j => some (ad (69 + 4 * (k + j)))) (by rw [wld_at hb, cel_a hs]; rfl) rfl hi d1 (kk hi out ho F H locs ls hP hS hl)
theorem g_ald6 {b n c k : Nat} {i : Int32} (hs : shp b = .inr (6, n, c, k)) (hb : b < NO) (d : At M.1 pc .aaload 1 pc') (kk : ¬ (i < 0 ∨ n ≤ i.toNatClampNeg) → GS K X M σ pc' lv (.ref (xad X (28 + (k + i.toNatClampNeg))) :: st) o) : GS K X M σ pc lv (.int i :: .ref (xad X b) :: st) (ck i n o) := by
  obtain ⟨p, l, e, s, m, args, below, meth, cd, D, ca, ad, t1, t2, cs, sl⟩ := X
  obtain ⟨d1, rfl⟩ := d
  intro out ho F H locs ls hP hS hl
  have hi : ¬ (i < 0 ∨ n ≤ i.toNatClampNeg) := fun h => by rw [ck, if_pos h] at ho; cases ho
  rw [ck, if_neg hi] at ho
  exact va_aldq F.1 F.2.1 F.2.2.2.2.2.1 hP b 4 (C := RX1) (f := fun j => some (ad (28 + (k + j)))) (by rw [wld_at hb, cel_a hs]; rfl) rfl hi d1 (kk hi out ho F H locs ls hP hS hl)
theorem g_ast4 {b n c k x : Nat} {i : Int32} (hs : shp b = .inr (4, n, c, k)) (hb : b < NO) (hx : x < 41) {fl : List (Nat × Nat × Nat)} (hsx : shp (28 + x) = .inl (1, fl)) (d : At M.1 pc .aastore 1 pc') (kk : ¬ (i < 0 ∨ n ≤ i.toNatClampNeg) → GS K X M (uR σ c k i.toNatClampNeg (some x)) pc' lv st o) : GS K X M σ pc lv (.ref (xad X (28 + x)) :: .int i :: .ref (xad X b) :: st) (ck i n o) := by
  obtain ⟨p, l, e, s, m, args, below, meth, cd, D, ca, ad, t1, t2, cs, sl⟩ := X
  obtain ⟨d1, rfl⟩ := d
  intro out ho F H locs ls hP hS hl
  have hi : ¬ (i < 0 ∨ n ≤ i.toNatClampNeg) := fun h => by rw [ck, if_pos h] at ho; cases ho
  rw [ck, if_neg hi] at ho
  have hD : va_D (AD ad) (wld ca ad σ) := F.2.2.2.2.2.2.2.2.2.2.1 σ
  refine va_astq F.1 F.2.1 F.2.2.2.2.2.1 hP hD hS b 4 (28 + x) 1 (r := (RX1, TX1, 5)) (by rw [wld_at hb, cel_a hs]; rfl) rfl (by rw [wld_at (show 28 + x < NO by unfold NO; omega), cel_o hsx]) rfl hi d1 (fun H1 locs1 hP1 _ hS1 => kk hi out ho F H1 locs1 ls ?_ hS1 hl)
  rw [← wld_arrR hb hs]
  exact hP1
theorem g_iast {b n c k : Nat} {i x : Int32} (hs : shp b = .inr (0, n, c, k)) (hb : b < NO) (d : At M.1 pc .iastore 1 pc') (kk : ¬ (i < 0 ∨ n ≤ i.toNatClampNeg) → GS K X M (uI σ c k i.toNatClampNeg x) pc' lv st o) : GS K X M σ pc lv (.int x :: .int i :: .ref (xad X b) :: st) (ck i n o) := by
  obtain ⟨p, l, e, s, m, args, below, meth, cd, D, ca, ad, t1, t2, cs, sl⟩ := X
  obtain ⟨d1, rfl⟩ := d
  intro out ho F H locs ls hP hS hl
  have hi : ¬ (i < 0 ∨ n ≤ i.toNatClampNeg) := fun h => by rw [ck, if_pos h] at ho; cases ho
  rw [ck, if_neg hi] at ho
  have hD : va_D (AD ad) (wld ca ad σ) := F.2.2.2.2.2.2.2.2.2.2.1 σ
  refine va_iast F.1 F.2.1 F.2.2.2.2.2.1 hP hD hS b 0 (by rw [wld_at hb, cel_a hs]; rfl) rfl hi d1 (fun H1 locs1 hP1 _ hS1 => kk hi out ho F H1 locs1 ls ?_ hS1 hl)
  rw [← aI_upd, ← wld_arrI hb hs (Or.inl rfl)]
  exact hP1
theorem vn_bool {x : Int32} (h : x = 0 ∨ x = 1) : vp_nar .boolean x = x := by rcases h with rfl | rfl <;> rfl
theorem g_zast {b n c k : Nat} {i x : Int32} (hs : shp b = .inr (2, n, c, k)) (hb : b < NO) (d : At M.1 pc .bastore 1 pc') (kk : ¬ (i < 0 ∨ n ≤ i.toNatClampNeg) → GS K X M (uI σ c k i.toNatClampNeg x) pc' lv st o) : GS K X M σ pc lv (.int x :: .int i :: .ref (xad X b) :: st) (if x = 0 ∨ x = 1 then ck i n o else none) := by
  refine g_guard fun hx => ?_
  obtain ⟨p, l, e, s, m, args, below, meth, cd, D, ca, ad, t1, t2, cs, sl⟩ := X
  obtain ⟨d1, rfl⟩ := d
  intro out ho F H locs ls hP hS hl
  have hi : ¬ (i < 0 ∨ n ≤ i.toNatClampNeg) := fun h => by rw [ck, if_pos h] at ho; cases ho
  rw [ck, if_neg hi] at ho
  have hD : va_D (AD ad) (wld ca ad σ) := F.2.2.2.2.2.2.2.2.2.2.1 σ
  refine va_zast F.1 F.2.1 F.2.2.2.2.2.1 hP hD hS b 2 (by rw [wld_at hb, cel_a hs]; rfl) rfl hi d1 (fun H1 locs1 hP1 _ hS1 => kk hi out ho F H1 locs1 ls ?_ hS1 hl)
  rw [← aI_upd, ← wld_arrI hb hs (Or.inr rfl)]
  rw [vn_bool hx] at hP1
  exact hP1
theorem g_last {b n c k : Nat} {i : Int32} {x : Int64} (hs : shp b = .inr (1, n, c, k)) (hb : b < NO) (d : At M.1 pc .lastore 1 pc') (kk : ¬ (i < 0 ∨ n ≤ i.toNatClampNeg) → GS K X M (uJ σ c k i.toNatClampNeg x) pc' lv st o) : GS K X M σ pc lv (.long x :: .int i :: .ref (xad X b) :: st) (ck i n o) := by
  obtain ⟨p, l, e, s, m, args, below, meth, cd, D, ca, ad, t1, t2, cs, sl⟩ := X
  obtain ⟨d1, rfl⟩ := d
  intro out ho F H locs ls hP hS hl
  have hi : ¬ (i < 0 ∨ n ≤ i.toNatClampNeg) := fun h => by rw [ck, if_pos h] at ho; cases ho
  rw [ck, if_neg hi] at ho
  have hD : va_D (AD ad) (wld ca ad σ) := F.2.2.2.2.2.2.2.2.2.2.1 σ
  refine va_last F.1 F.2.1 F.2.2.2.2.2.1 hP hD hS b 1 (by rw [wld_at hb, cel_a hs]; rfl) rfl hi d1 (fun H1 locs1 hP1 _ hS1 => kk hi out ho F H1 locs1 ls ?_ hS1 hl)
  rw [← aJ_upd, ← wld_arrJ hb hs]
  exact hP1
theorem g_alen {b kd n c k : Nat} {v : Int32} (hs : shp b = .inr (kd, n, c, k)) (hb : b < NO) (hk : akc kd < 6) (hv : Int32.ofNat n = v) (d : At M.1 pc .arraylength 1 pc') (kk : GS K X M σ pc' lv (.int v :: st) o) : GS K X M σ pc lv (.ref (xad X b) :: st) o := by
  obtain ⟨p, l, e, s, m, args, below, meth, cd, D, ca, ad, t1, t2, cs, sl⟩ := X
  obtain ⟨d1, rfl⟩ := d
  intro out ho F H locs ls hP hS hl
  have ht : ∀ a, a < 6 → ∃ ty, (tys ca)[a]? = some (ca a, ty) := by
    intro a ha
    rcases (show a = 0 ∨ a = 1 ∨ a = 2 ∨ a = 3 ∨ a = 4 ∨ a = 5 by omega) with rfl | rfl | rfl | rfl | rfl | rfl <;> exact ⟨_, rfl⟩
  obtain ⟨ty, hty⟩ := ht _ hk
  exact va_alen F.1 F.2.1 F.2.2.2.2.2.1 hP b (akc kd) (by rw [wld_at hb, cel_a hs]) hty hv d1 (kk out ho F H locs ls hP hS hl)
/-- the two tables of the class -/
theorem g_gets1 {idx : Nat} (lk : FL M.2.2.1 idx RX7 "LETTERS" "[I") (d : At M.1 pc (.getstatic idx) 3 pc') (kk : GS K X M σ pc' lv (.ref (xt1 X) :: st) o) : GS K X M σ pc lv st o := by
  obtain ⟨p, l, e, s, m, args, below, meth, cd, D, ca, ad, t1, t2, cs, sl⟩ := X
  obtain ⟨d1, rfl⟩ := d
  intro out ho F H locs ls hP hS hl
  rcases lk with lk | ⟨host, lk⟩
  · exact va_gets F.1 F.2.1 F.2.2.2.2.2.2.2.1.1 hS F.2.2.2.1 (F.2.2.2.2.1 _ lk) (fun _ h => h) d1 (kk out ho F H locs ls hP hS hl)
  · exact va_getsN F.1 F.2.1 F.2.2.2.2.2.2.2.1.1 hS F.2.2.2.1 (va_Nw.use (nest_on lk) (F.2.2.2.2.2.2.1 _ lk)) (fun _ h => h) d1 (kk out ho F H locs ls hP hS hl)
theorem g_gets2 {idx : Nat} (lk : FL M.2.2.1 idx RX7 "HAVING" "[J") (d : At M.1 pc (.getstatic idx) 3 pc') (kk : GS K X M σ pc' lv (.ref (xt2 X) :: st) o) : GS K X M σ pc lv st o := by
  obtain ⟨p, l, e, s, m, args, below, meth, cd, D, ca, ad, t1, t2, cs, sl⟩ := X
  obtain ⟨d1, rfl⟩ := d
  intro out ho F H locs ls hP hS hl
  rcases lk with lk | ⟨host, lk⟩
  · exact va_gets F.1 F.2.1 F.2.2.2.2.2.2.2.1.2.2.1 hS F.2.2.2.1 (F.2.2.2.2.1 _ lk) (fun _ h => h) d1 (kk out ho F H locs ls hP hS hl)
  · exact va_getsN F.1 F.2.1 F.2.2.2.2.2.2.2.1.2.2.1 hS F.2.2.2.1 (va_Nw.use (nest_on lk) (F.2.2.2.2.2.2.1 _ lk)) (fun _ h => h) d1 (kk out ho F H locs ls hP hS hl)
theorem g_tald1 {i : Int32} (d : At M.1 pc .iaload 1 pc') (kk : ¬ (i < 0 ∨ 6 ≤ i.toNatClampNeg) → GS K X M σ pc' lv (.int (LTV i.toNatClampNeg) :: st) o) : GS K X M σ pc lv (.int i :: .ref (xt1 X) :: st) (ck i 6 o) := by
  obtain ⟨p, l, e, s, m, args, below, meth, cd, D, ca, ad, t1, t2, cs, sl⟩ := X
  obtain ⟨d1, rfl⟩ := d
  intro out ho F H locs ls hP hS hl
  have hi : ¬ (i < 0 ∨ 6 ≤ i.toNatClampNeg) := fun h => by rw [ck, if_pos h] at ho; cases ho
  rw [ck, if_neg hi] at ho
  exact va_ti F.1 F.2.1 F.2.2.2.2.2.2.2.1.2.1 hS hi rfl d1 (kk hi out ho F H locs ls hP hS hl)
theorem g_tald2 {i : Int32} (d : At M.1 pc .laload 1 pc') (kk : ¬ (i < 0 ∨ 6 ≤ i.toNatClampNeg) → GS K X M σ pc' lv (.long (HVV i.toNatClampNeg) :: st) o) : GS K X M σ pc lv (.int i :: .ref (xt2 X) :: st) (ck i 6 o) := by
  obtain ⟨p, l, e, s, m, args, below, meth, cd, D, ca, ad, t1, t2, cs, sl⟩ := X
  obtain ⟨d1, rfl⟩ := d
  intro out ho F H locs ls hP hS hl
  have hi : ¬ (i < 0 ∨ 6 ≤ i.toNatClampNeg) := fun h => by rw [ck, if_pos h] at ho; cases ho
  rw [ck, if_neg hi] at ho
  exact va_tl F.1 F.2.1 F.2.2.2.2.2.2.2.1.2.2.2 hS hi rfl d1 (kk hi out ho F H locs ls hP hS hl)
theorem g_tlen1 (d : At M.1 pc .arraylength 1 pc') (kk : GS K X M σ pc' lv (.int 6 :: st) o) : GS K X M σ pc lv (.ref (xt1 X) :: st) o := by
  obtain ⟨p, l, e, s, m, args, below, meth, cd, D, ca, ad, t1, t2, cs, sl⟩ := X
  obtain ⟨d1, rfl⟩ := d
  intro out ho F H locs ls hP hS hl
  exact va_tlen F.1 F.2.1 F.2.2.2.2.2.2.2.1.2.1 hS rfl d1 (kk out ho F H locs ls hP hS hl)
theorem g_tlen2 (d : At M.1 pc .arraylength 1 pc') (kk : GS K X M σ pc' lv (.int 6 :: st) o) : GS K X M σ pc lv (.ref (xt2 X) :: st) o := by
  obtain ⟨p, l, e, s, m, args, below, meth, cd, D, ca, ad, t1, t2, cs, sl⟩ := X
  obtain ⟨d1, rfl⟩ := d
  intro out ho F H locs ls hP hS hl
  exact va_tlen F.1 F.2.1 F.2.2.2.2.2.2.2.1.2.2.2 hS rfl d1 (kk out ho F H locs ls hP hS hl)
end ROWS
/-! ends -/
def enI (_ : Nat → Nat) (r : Int32) : Option Value := some (.int r)
def enJ (_ : Nat → Nat) (r : Int64) : Option Value := some (.long r)
def enV (_ : Nat → Nat) (_ : Unit) : Option Value := none
def enR (a m : Nat) (ad : Nat → Nat) (r : Option Nat) : Option Value := some (va_rf (r.map (fun x => ad (a + m * x))))
/-- a method's end -/
def KM {ρ : Type} (en : (Nat → Nat) → ρ → Option Value) : GX → Mem × ρ → State → Prop := fun (_, _, _, s, _, args, below, _, _, D, ca, ad, _, _, cs, sl) out => MQ below (QC D ca ad (en ad out.2) out.1) args s cs sl (AD ad)
section ENDS
variable {X : GX} {M : MI} {σ : Mem} {pc pc' : Nat} {lv : List (Nat × Value)} {st : List Value}
theorem g_iret {x : Int32} (hr : M.2.2.2.2 = some .int) (d : At M.1 pc .ireturn 1 pc') : GS (KM enI X) X M σ pc lv [.int x] (some (σ, x)) := by
  obtain ⟨p, l, e, s, m, args, below, meth, cd, D, ca, ad, t1, t2, cs, sl⟩ := X
  obtain ⟨d1, rfl⟩ := d
  intro out ho F H locs ls hP hS hl
  cases ho
  exact W.iret F.1 F.2.1 (F.2.2.2.2.2.2.2.2.2.1.trans hr) (fun t ht _ => ⟨rfl, by rw [ht]; exact hP, hS.F ht⟩) hS.2.2 d1 F.2.2.2.2.2.2.2.2.1
theorem g_zret {x : Int32} (hr : M.2.2.2.2 = some .boolean) (d : At M.1 pc .ireturn 1 pc') : GS (KM enI X) X M σ pc lv [.int x] (if x = 0 ∨ x = 1 then some (σ, x) else none) := by
  refine g_guard fun hx => ?_
  obtain ⟨p, l, e, s, m, args, below, meth, cd, D, ca, ad, t1, t2, cs, sl⟩ := X
  obtain ⟨d1, rfl⟩ := d
  intro out ho F H locs ls hP hS hl
  cases ho
  exact W.zret F.1 F.2.1 (F.2.2.2.2.2.2.2.2.2.1.trans hr) (by rcases hx with rfl | rfl <;> rfl) (fun t ht _ => ⟨rfl, by rw [ht]; exact hP, hS.F ht⟩) hS.2.2 d1 F.2.2.2.2.2.2.2.2.1
theorem g_lret {x : Int64} (hr : M.2.2.2.2 = some .long) (d : At M.1 pc .lreturn 1 pc') : GS (KM enJ X) X M σ pc lv [.long x] (some (σ, x)) := by
  obtain ⟨p, l, e, s, m, args, below, meth, cd, D, ca, ad, t1, t2, cs, sl⟩ := X
  obtain ⟨d1, rfl⟩ := d
  intro out ho F H locs ls hP hS hl
  cases ho
  exact W.lret F.1 F.2.1 (F.2.2.2.2.2.2.2.2.2.1.trans hr) (fun t ht _ => ⟨rfl, by rw [ht]; exact hP, hS.F ht⟩) hS.2.2 d1 F.2.2.2.2.2.2.2.2.1
theorem g_vret (hr : M.2.2.2.2 = none) (d : At M.1 pc .return_ 1 pc') : GS (KM enV X) X M σ pc lv [] (some (σ, ())) := by
  obtain ⟨p, l, e, s, m, args, below, meth, cd, D, ca, ad, t1, t2, cs, sl⟩ := X
  obtain ⟨d1, rfl⟩ := d
  intro out ho F H locs ls hP hS hl
  cases ho
  exact W.vret F.1 F.2.1 (F.2.2.2.2.2.2.2.2.2.1.trans hr) (fun t ht _ => ⟨rfl, by rw [ht]; exact hP, hS.F ht⟩) hS.2.2 d1 F.2.2.2.2.2.2.2.2.1
theorem g_aretN {a mm : Nat} {n : String} (hr : M.2.2.2.2 = some (.object n)) (d : At M.1 pc .areturn 1 pc') : GS (KM (enR a mm) X) X M σ pc lv [.null] (some (σ, none)) := by
  obtain ⟨p, l, e, s, m, args, below, meth, cd, D, ca, ad, t1, t2, cs, sl⟩ := X
  obtain ⟨d1, rfl⟩ := d
  intro out ho F H locs ls hP hS hl
  cases ho
  exact W.aret F.1 F.2.1 (F.2.2.2.2.2.2.2.2.2.1.trans hr) (Or.inl ⟨_, rfl⟩) (Or.inl rfl) (fun t ht _ => ⟨rfl, by rw [ht]; exact hP, hS.F ht⟩) hS.2.2 d1 F.2.2.2.2.2.2.2.2.1
theorem g_aret {a mm x : Nat} {n : String} (hr : M.2.2.2.2 = some (.object n)) (d : At M.1 pc .areturn 1 pc') : GS (KM (enR a mm) X) X M σ pc lv [.ref (xad X (a + mm * x))] (some (σ, some x)) := by
  obtain ⟨p, l, e, s, m, args, below, meth, cd, D, ca, ad, t1, t2, cs, sl⟩ := X
  obtain ⟨d1, rfl⟩ := d
  intro out ho F H locs ls hP hS hl
  cases ho
  exact W.aret F.1 F.2.1 (F.2.2.2.2.2.2.2.2.2.1.trans hr) (Or.inl ⟨_, rfl⟩) (Or.inr ⟨_, rfl⟩) (fun t ht _ => ⟨rfl, by rw [ht]; exact hP, hS.F ht⟩) hS.2.2 d1 F.2.2.2.2.2.2.2.2.1
end ENDS
/-! contracts -/
def WB (D : va_G) (ca : Nat → ClassId) (ad : Nat → Nat) (t1 t2 : Nat) (σ : Mem) (U : State) : Prop := va_P D classes (wld ca ad σ) U.heap ∧ va_K D classes (tys ca) U ∧ (∀ w ∈ nestW, va_Nw w U) ∧ ST (AD ad) t1 t2 U U.heap ∧ (∀ σ, va_D (AD ad) (wld ca ad σ))
def CT {ρ : Type} (y : MethodName) (M : MI) (en : (Nat → Nat) → ρ → Option Value) (as : (Nat → Nat) → List Value) (σ : Mem) (o : Option (Mem × ρ)) : Prop :=
  ∀ (l : Launch) (D : va_G) (ca : Nat → ClassId) (ad : Nat → Nat) (t1 t2 : Nat) (out : Mem × ρ), o = some out → Met l y (Cond.code y M.1 M.2.1 M.2.2.2.2 :: tb) M.2.2.2.1 (va_Pc (as ad) (WB D ca ad t1 t2 σ)) (QC D ca ad (en ad out.2) out.1) 0 0 (AD ad)
theorem ST.moved {A : Nat → Prop} {t1 t2 : Nat} {u U : State} {H : Heap} (hvm : u.vm.Alike U.vm) (h : ST A t1 t2 u H) : ST A t1 t2 U H := ⟨h.1.moved hvm, h.2.1.moved hvm, h.2.2.1.moved hvm, h.2.2.2.moved hvm⟩
theorem ST.kept {A : Nat → Prop} {t1 t2 : Nat} {U : State} {H H1 : Heap} (h : ST A t1 t2 U H) (hq : ∀ a : Nat, a < H.size → ¬ A a → H1[a]? = H[a]?) : ST A t1 t2 U H1 := ⟨h.1.kept hq, h.2.1.kept hq, h.2.2.1.kept hq, h.2.2.2.kept hq⟩
theorem CT.of {ρ : Type} {y : MethodName} {M : MI} {en : (Nat → Nat) → ρ → Option Value} {as : (Nat → Nat) → List Value} {σ : Mem} {o : Option (Mem × ρ)} (hy : plainName y.cls = true) (ho : y.cls = M.2.2.1) (hn : ∀ ad, (lg_sl (as ad)).length ≤ M.2.1)
    (h : ∀ X : GX, GS (KM en X) X M σ 0 (lv_args 0 (as (xad X))) [] o) : CT y M en as σ o := by
  intro l D ca ad t1 t2 out hout
  refine Met.ofW (cc := M.1) (maxL := M.2.1) (ret := M.2.2.2.2) hy rfl ?_
  intro p e s m args below meth c s₁ B hml hv
  obtain ⟨rfl, hP, hK, hN, hST, hD⟩ := hv
  have hts0 := atoms_spec B.pre
  have hts : ∀ w ∈ tb, w.before (as ad).toArray s = true := fun w hw => hts0 w (List.mem_cons_of_mem _ hw)
  have hown : s.vm.findClass M.2.2.1 = some m.cls := by rw [← ho]; exact findClass_of_methodNamed B.named
  have hl := lv_entry (as ad) (n := M.2.1) (hn ad)
  rw [lg_entry_eq]
  exact h (p, l, e, s, m, (as ad).toArray, below, meth, c, D, ca, ad, t1, t2, 0, 0) out hout ⟨B.exec, B.bytes, hml, hown, hts, hK, hN, hST, B.notSynchronized, B.returns, hD, Nat.zero_le _, Nat.zero_le _⟩ s.heap [] _ hP va_S.rf hl
theorem CT.blind {D : va_G} {ca : Nat → ClassId} {ad : Nat → Nat} {t1 t2 : Nat} {σ : Mem} {vs : List Value} : FrameBlind (va_Pc vs (WB D ca ad t1 t2 σ)) := by
  intro a U g mk q
  obtain ⟨q0, qP, qK, qN, qS, qD⟩ := q
  exact ⟨q0, qP, va_K.moved (u := U) (U := U.calling g mk a) (Vm.Alike.refl U.vm) qK, fun w hw => va_Nw.same (nest_on hw) (rfl : U.vm = (U.calling g mk a).vm) (qN w hw), ST.moved (u := U) (U := U.calling g mk a) (Vm.Alike.refl U.vm) qS, qD⟩
/-- what is known of a method that is called -/
def OKB (y : MethodName) (M : MI) (n : Nat) : Prop := Cond.code y M.1 M.2.1 M.2.2.2.2 ∈ tb ∧ Cond.initialized y.cls ∈ tb ∧ (y.cls ≠ "java/lang/invoke/MethodHandle" ∧ y.cls ≠ "java/lang/invoke/VarHandle" ∧ (parseMethodDescriptor y.desc).map (fun d => d.parameters.length) = some n) ∧ M.2.2.2.1.cells = 0 ∧ M.2.2.2.1.slots = 0
def OKV (y : MethodName) (M : MI) (n : Nat) : Prop := OKB y M n ∧ Cond.instanceMethod y ∈ tb ∧ Cond.selects y.cls y y ∈ tb
def OKS (y : MethodName) (M : MI) (n : Nat) : Prop := OKB y M n ∧ Cond.static y ∈ tb
def FIT (R' : MI) (R : MI) : Prop := R'.2.2.2.1.frames + 1 ≤ R.2.2.2.1.frames ∧ 8 + (R'.2.1 + 11) + R'.2.2.2.1.locals ≤ R.2.2.2.1.locals
section CALLS
variable {ρ ρ' : Type} {K : Mem × ρ → State → Prop} {en' : (Nat → Nat) → ρ' → Option Value} {X : GX} {M M' : MI} {σ : Mem} {pc pc' : Nat} {lv : List (Nat × Value)} {st stk : List Value} {oc : Option (Mem × ρ')} {f : Mem × ρ' → Option (Mem × ρ)} {y : MethodName} {as : (Nat → Nat) → List Value} {idx n : Nat}
theorem g_run {p : Program} {l : Launch} {e : Env} {s : State} {m : MethodId} {args : Array Value} {below : List Frame} {meth : Method} {c : Code} {D : va_G} {ca : Nat → ClassId} {ad : Nat → Nat} {H : Heap} {locs : List Loc} {ls : Array Slot} {R : Room} {Q : State → Prop} {cs sl : Nat} {a : Array Value} {v : Option Value} {σ' : Mem}
    (hr : va_Run p l e R s m args below meth c H locs cs sl 0 0 (F0 m pc ls stk) st (QC D ca ad v σ' a) (AD ad)) (hS : va_S (AD ad) s.heap H locs)
    (kk : ∀ (H1 : Heap) (locs1 : List Loc), va_P D classes (wld ca ad σ') H1 → va_S (AD ad) s.heap H1 locs1 → W p l e R s m args below meth c H1 locs1 cs sl Q (F0 m (pc + 3) ls (v.toList ++ st))) : W p l e R s m args below meth c H locs cs sl Q (F0 m pc ls stk) := by
  intro T hT XX
  obtain ⟨v', st₀, t, T', L, h0, X', hL, e1, e2, ⟨hv, hP1, hz, hk⟩, stp⟩ := hr T hT XX
  cases hv
  rw [h0] at hz hk
  obtain ⟨t2, a1, b1⟩ := kk T'.heap (locs ++ L) (by rw [e1]; exact hP1)
    ⟨Nat.le_trans hS.1 (by rw [e1]; exact hz), fun q h1 h2 => by rw [e1, hk q (Nat.lt_of_lt_of_le h1 hS.1) h2]; exact hS.2.1 q h1 h2, fun q hq => by
      rcases List.mem_append.mp hq with h | h
      · exact hS.2.2 q h
      · exact hL q h⟩ T' rfl X'
  exact ⟨t2, stp t2 a1, b1⟩
theorem fx_pre {p : Program} {l : Launch} {e : Env} {s : State} {m : MethodId} {args : Array Value} {below : List Frame} {meth : Method} {c : Code} {D : va_G} {ca : Nat → ClassId} {ad : Nat → Nat} {t1 t2 cs sl : Nat} {H : Heap} {locs : List Loc} (F : Fx M (p, l, e, s, m, args, below, meth, c, D, ca, ad, t1, t2, cs, sl)) (hP : va_P D classes (wld ca ad σ) H) (hS : va_S (AD ad) s.heap H locs) {U : State} (hU : U.heap = H) (hW : s.WarmedH U.vm) : WB D ca ad t1 t2 σ U :=
  ⟨by rw [hU]; exact hP, va_K.moved hW.alike F.2.2.2.2.2.1, fun w hw => nest_warm hw hW (F.2.2.2.2.2.2.1 w hw), by rw [hU]; exact ST.moved hW.alike (ST.kept F.2.2.2.2.2.2.2.1 hS.2.1), F.2.2.2.2.2.2.2.2.2.2.1⟩
theorem g_callV (hC : CT y M' en' as σ oc) (ok : OKV y M' n) (fit : FIT M' M) (lk : ML M.2.2.1 idx y) {b ci : Nat} {fl : List (Nat × Nat × Nat)} {q : vw_C} (hs : shp b = .inl (ci, fl)) (hb : b < NO) (hc : classes[ci]? = some q) (hq : q.1 = y.cls) (As : List Value) (has : as (xad X) = .ref (xad X b) :: As) (hst : stk = As.reverse ++ .ref (xad X b) :: st) (hn : As.length = n) (hroom : (st.map fun v => v.category).sum ≤ 8) (d : At M.1 pc (.invokevirtual idx) 3 pc')
    (kk : ∀ q, oc = some q → GS K X M q.1 pc' lv ((en' (xad X) q.2).toList ++ st) (f q)) : GS K X M σ pc lv stk (oc.bind f) := by
  obtain ⟨p, l, e, s, m, args, below, meth, cd, D, ca, ad, t1, t2, cs, sl⟩ := X
  obtain ⟨d1, rfl⟩ := d
  intro out ho F H locs ls hP hS hl
  obtain ⟨q1, hoc, hf⟩ := Option.bind_eq_some_iff.mp ho
  have hM := hC l D ca ad t1 t2 q1 hoc
  obtain ⟨⟨hcode, hini, hd, hrc, hrs⟩, hinst, hsel⟩ := ok
  have hts := F.2.2.2.2.1
  have hG := tb_tb hcode
  have hpre : PreV s H y.cls (ad b) (va_Pc (as ad) (WB D ca ad t1 t2 σ)) As := ⟨CT.blind, by
    have := va_recv F.2.2.2.2.2.1 hP hc (show (wld ca ad σ)[b]? = some (ad b, .inr (ci, fl.map (fv ad σ))) by rw [wld_at hb, cel_o hs])
    rw [hq] at this; exact this, fun U hU hW => ⟨congrArg List.toArray has.symm, fx_pre F hP hS hU hW⟩⟩
  refine g_run (v := en' ad q1.2) (σ' := q1.1) (a := (Value.ref (ad b) :: As).toArray) ?_ hS (fun H1 locs1 hP1 hS1 => kk q1 hoc out hf F H1 locs1 ls hP1 hS1 hl)
  rcases lk with lk | ⟨host, lk⟩
  · exact va_runV (Ts := tb) ⟨F.1, F.2.1, F.2.2.1, F.2.2.2.1, hts⟩ hM ⟨callB_of n hts hG rfl hrc hrs (hts _ hini) (hts _ lk) hd fit, hts _ hinst, hts _ hsel⟩ hpre rfl hn hl.1 hst (lv_room hroom) d1 F.2.2.2.2.2.2.2.2.2.2.2
  · exact va_runVN (Ts := tb) ⟨F.1, F.2.1, F.2.2.1, F.2.2.2.1, hts⟩ hM ⟨va_cnB n hts hG rfl hrc hrs (F.2.2.2.2.2.2.1 _ lk) (hts _ hini) hd fit, hts _ hinst, hts _ hsel⟩ hpre rfl hn hl.1 hst (lv_room hroom) d1 F.2.2.2.2.2.2.2.2.2.2.2
theorem g_callS (hC : CT y M' en' as σ oc) (ok : OKS y M' n) (fit : FIT M' M) (lk : ML M.2.2.1 idx y) (hst : stk = (as (xad X)).reverse ++ st) (hn : (as (xad X)).length = n) (hroom : (st.map fun v => v.category).sum ≤ 8) (d : At M.1 pc (.invokestatic idx) 3 pc')
    (kk : ∀ q, oc = some q → GS K X M q.1 pc' lv ((en' (xad X) q.2).toList ++ st) (f q)) : GS K X M σ pc lv stk (oc.bind f) := by
  obtain ⟨p, l, e, s, m, args, below, meth, cd, D, ca, ad, t1, t2, cs, sl⟩ := X
  obtain ⟨d1, rfl⟩ := d
  intro out ho F H locs ls hP hS hl
  obtain ⟨q1, hoc, hf⟩ := Option.bind_eq_some_iff.mp ho
  have hM := hC l D ca ad t1 t2 q1 hoc
  obtain ⟨⟨hcode, hini, hd, hrc, hrs⟩, hstat⟩ := ok
  have hts := F.2.2.2.2.1
  have hG := tb_tb hcode
  have hpre : PreS s H (va_Pc (as ad) (WB D ca ad t1 t2 σ)) (as ad) := ⟨CT.blind, fun U hU hW => ⟨rfl, fx_pre F hP hS hU hW⟩⟩
  refine g_run (v := en' ad q1.2) (σ' := q1.1) (a := (as ad).toArray) ?_ hS (fun H1 locs1 hP1 hS1 => kk q1 hoc out hf F H1 locs1 ls hP1 hS1 hl)
  rcases lk with lk | ⟨host, lk⟩
  · exact va_runS (Ts := tb) ⟨F.1, F.2.1, F.2.2.1, F.2.2.2.1, hts⟩ hM ⟨callB_of n hts hG rfl hrc hrs (hts _ hini) (hts _ lk) hd fit, hts _ hstat⟩ hpre rfl hn hl.1 hst (lv_room hroom) d1 F.2.2.2.2.2.2.2.2.2.2.2
  · exact va_runSN (Ts := tb) ⟨F.1, F.2.1, F.2.2.1, F.2.2.2.1, hts⟩ hM ⟨va_cnB n hts hG rfl hrc hrs (F.2.2.2.2.2.2.1 _ lk) (hts _ hini) hd fit, hts _ hstat, trivial⟩ hpre rfl hn hl.1 hst (lv_room hroom) d1 F.2.2.2.2.2.2.2.2.2.2.2
end CALLS
section JDK
variable {ρ : Type} {K : Mem × ρ → State → Prop} {X : GX} {M : MI} {σ : Mem} {pc pc' : Nat} {lv : List (Nat × Value)} {st : List Value} {o : Option (Mem × ρ)}
theorem g_mmax {idx : Nat} {x y : Int32} (lk : Cond.methodLink M.2.2.1 idx Lib.Math.max.name ∈ tb) (h1 : Cond.static Lib.Math.max.name ∈ tb) (h2 : Cond.initialized "java/lang/Math" ∈ tb) (h3 : Cond.code Lib.Math.max.name Lib.Math.max.code 2 (some .int) ∈ tb) (hf : 1 ≤ M.2.2.2.1.frames) (hl0 : (st.map fun v => v.category).sum + 13 ≤ M.2.2.2.1.locals) (d : At M.1 pc (.invokestatic idx) 3 pc') (kk : GS K X M σ pc' lv (.int (if x < y then y else x) :: st) o) : GS K X M σ pc lv (.int y :: .int x :: st) o := by
  obtain ⟨p, l, e, s, m, args, below, meth, cd, D, ca, ad, t1, t2, cs, sl⟩ := X
  obtain ⟨d1, rfl⟩ := d
  intro out ho F H locs ls hP hS hl
  have hts := F.2.2.2.2.1
  exact va_mmax F.1 F.2.1 (F.2.2.1.trans hl.1.symm) F.2.2.2.1 (hts _ lk) (hts _ h1) (hts _ h2) (hts _ h3) hf hl0 F.2.2.2.2.2.2.2.2.2.2.2.1 F.2.2.2.2.2.2.2.2.2.2.2.2 d1 (kk out ho F H locs ls hP hS hl)
theorem g_mmin {idx : Nat} {x y : Int32} (lk : Cond.methodLink M.2.2.1 idx Lib.Math.min.name ∈ tb) (h1 : Cond.static Lib.Math.min.name ∈ tb) (h2 : Cond.initialized "java/lang/Math" ∈ tb) (h3 : Cond.code Lib.Math.min.name Lib.Math.min.code 2 (some .int) ∈ tb) (hf : 1 ≤ M.2.2.2.1.frames) (hl0 : (st.map fun v => v.category).sum + 13 ≤ M.2.2.2.1.locals) (d : At M.1 pc (.invokestatic idx) 3 pc') (kk : GS K X M σ pc' lv (.int (if y < x then y else x) :: st) o) : GS K X M σ pc lv (.int y :: .int x :: st) o := by
  obtain ⟨p, l, e, s, m, args, below, meth, cd, D, ca, ad, t1, t2, cs, sl⟩ := X
  obtain ⟨d1, rfl⟩ := d
  intro out ho F H locs ls hP hS hl
  have hts := F.2.2.2.2.1
  exact va_mmin F.1 F.2.1 (F.2.2.1.trans hl.1.symm) F.2.2.2.1 (hts _ lk) (hts _ h1) (hts _ h2) (hts _ h3) hf hl0 F.2.2.2.2.2.2.2.2.2.2.2.1 F.2.2.2.2.2.2.2.2.2.2.2.2 d1 (kk out ho F H locs ls hP hS hl)
def cpok (sp dp n : Int32) (n0 n1 : Nat) : Prop := ¬ sp < 0 ∧ ¬ dp < 0 ∧ ¬ n < 0 ∧ sp.toNatClampNeg + n.toNatClampNeg ≤ n0 ∧ dp.toNatClampNeg + n.toNatClampNeg ≤ n1
def cpI {α : Type} (σ : Mem) (c0 k0 n0 : Nat) (sp : Int32) (c1 k1 n1 : Nat) (dp n : Int32) (f : Mem → Option α) : Option α := if ¬ sp < 0 ∧ ¬ dp < 0 ∧ ¬ n < 0 ∧ sp.toNatClampNeg + n.toNatClampNeg ≤ n0 ∧ dp.toNatClampNeg + n.toNatClampNeg ≤ n1 then f (aI σ c1 k1 (va_cpy (σ.1 c0 k0) (σ.1 c1 k1) sp.toNatClampNeg dp.toNatClampNeg n.toNatClampNeg)) else none
def cpJ {α : Type} (σ : Mem) (c0 k0 n0 : Nat) (sp : Int32) (c1 k1 n1 : Nat) (dp n : Int32) (f : Mem → Option α) : Option α := if ¬ sp < 0 ∧ ¬ dp < 0 ∧ ¬ n < 0 ∧ sp.toNatClampNeg + n.toNatClampNeg ≤ n0 ∧ dp.toNatClampNeg + n.toNatClampNeg ≤ n1 then f (aJ σ c1 k1 (va_cpy (σ.2.1 c0 k0) (σ.2.1 c1 k1) sp.toNatClampNeg dp.toNatClampNeg n.toNatClampNeg)) else none
theorem g_copyI {idx b0 n0 c0 k0 b1 n1 c1 k1 : Nat} {sp dp n : Int32} {f : Mem → Option (Mem × ρ)} (hs0 : shp b0 = .inr (0, n0, c0, k0)) (hb0 : b0 < NO) (hs1 : shp b1 = .inr (0, n1, c1, k1)) (hb1 : b1 < NO) (lk : Cond.methodLink M.2.2.1 idx arraycopyName ∈ tb) (h1 : Cond.native arraycopyName ∈ tb) (h2 : Cond.static arraycopyName ∈ tb) (h3 : Cond.initialized "java/lang/System" ∈ tb) (hf : 1 ≤ M.2.2.2.1.frames) (hl0 : (st.map fun v => v.category).sum + (nativeFrameWords "java/lang/System" "arraycopy" 5 + 11) ≤ M.2.2.2.1.locals) (d : At M.1 pc (.invokestatic idx) 3 pc') (kk : ∀ σ', σ' = aI σ c1 k1 (va_cpy (σ.1 c0 k0) (σ.1 c1 k1) sp.toNatClampNeg dp.toNatClampNeg n.toNatClampNeg) → GS K X M σ' pc' lv st (f σ')) : GS K X M σ pc lv (.int n :: .int dp :: .ref (xad X b1) :: .int sp :: .ref (xad X b0) :: st) (cpI σ c0 k0 n0 sp c1 k1 n1 dp n f) := by
  refine g_guard fun hg => ?_
  have kk := kk _ rfl
  obtain ⟨p, l, e, s, m, args, below, meth, cd, D, ca, ad, t1, t2, cs, sl⟩ := X
  obtain ⟨d1, rfl⟩ := d
  intro out ho F H locs ls hP hS hl
  have hts := F.2.2.2.2.1
  have hD : va_D (AD ad) (wld ca ad σ) := F.2.2.2.2.2.2.2.2.2.2.1 σ
  refine va_copyi F.1 F.2.1 (F.2.2.1.trans hl.1.symm) F.2.2.2.1 (hts _ lk) (hts _ h1) (hts _ h2) (hts _ h3) F.2.2.2.2.2.1 hP hD hS b0 b1 0 0 (ty := .int) (by rw [wld_at hb0, cel_a hs0]; rfl) (by rw [wld_at hb1, cel_a hs1]; rfl) rfl rfl rfl hg.1 hg.2.1 hg.2.2.1 hg.2.2.2.1 hg.2.2.2.2 (fun _ _ => rfl) hf hl0 d1 (fun H1 locs1 hP1 _ hS1 => kk out ho F H1 locs1 ls ?_ hS1 hl)
  rw [← wld_arrI hb1 hs1 (Or.inl rfl)]
  exact hP1
theorem g_copyJ {idx b0 n0 c0 k0 b1 n1 c1 k1 : Nat} {sp dp n : Int32} {f : Mem → Option (Mem × ρ)} (hs0 : shp b0 = .inr (1, n0, c0, k0)) (hb0 : b0 < NO) (hs1 : shp b1 = .inr (1, n1, c1, k1)) (hb1 : b1 < NO) (lk : Cond.methodLink M.2.2.1 idx arraycopyName ∈ tb) (h1 : Cond.native arraycopyName ∈ tb) (h2 : Cond.static arraycopyName ∈ tb) (h3 : Cond.initialized "java/lang/System" ∈ tb) (hf : 1 ≤ M.2.2.2.1.frames) (hl0 : (st.map fun v => v.category).sum + (nativeFrameWords "java/lang/System" "arraycopy" 5 + 11) ≤ M.2.2.2.1.locals) (d : At M.1 pc (.invokestatic idx) 3 pc') (kk : ∀ σ', σ' = aJ σ c1 k1 (va_cpy (σ.2.1 c0 k0) (σ.2.1 c1 k1) sp.toNatClampNeg dp.toNatClampNeg n.toNatClampNeg) → GS K X M σ' pc' lv st (f σ')) : GS K X M σ pc lv (.int n :: .int dp :: .ref (xad X b1) :: .int sp :: .ref (xad X b0) :: st) (cpJ σ c0 k0 n0 sp c1 k1 n1 dp n f) := by
  refine g_guard fun hg => ?_
  have kk := kk _ rfl
  obtain ⟨p, l, e, s, m, args, below, meth, cd, D, ca, ad, t1, t2, cs, sl⟩ := X
  obtain ⟨d1, rfl⟩ := d
  intro out ho F H locs ls hP hS hl
  have hts := F.2.2.2.2.1
  have hD : va_D (AD ad) (wld ca ad σ) := F.2.2.2.2.2.2.2.2.2.2.1 σ
  refine va_copyl F.1 F.2.1 (F.2.2.1.trans hl.1.symm) F.2.2.2.1 (hts _ lk) (hts _ h1) (hts _ h2) (hts _ h3) F.2.2.2.2.2.1 hP hD hS b0 b1 1 1 (ty := .long) (by rw [wld_at hb0, cel_a hs0]; rfl) (by rw [wld_at hb1, cel_a hs1]; rfl) rfl rfl rfl hg.1 hg.2.1 hg.2.2.1 hg.2.2.2.1 hg.2.2.2.2 (fun _ _ => rfl) hf hl0 d1 (fun H1 locs1 hP1 _ hS1 => kk out ho F H1 locs1 ls ?_ hS1 hl)
  rw [← wld_arrJ hb1 hs1]
  exact hP1
end JDK
end
section
section MORE
variable {ρ : Type} {K : Mem × ρ → State → Prop} {X : GX} {M : MI} {σ : Mem} {pc pc' : Nat} {lv : List (Nat × Value)} {st : List Value} {o : Option (Mem × ρ)}
theorem g_dup2 {v v2 : Value} (d : At M.1 pc .dup2 1 pc') (hv : v.category = 1) (hv2 : v2.category = 1) (k : GS K X M σ pc' lv (v :: v2 :: v :: v2 :: st) o) : GS K X M σ pc lv (v :: v2 :: st) o := by
  obtain ⟨p, l, e, s, m, args, below, meth, c, D, ca, ad, t1, t2, cs, sl⟩ := X
  obtain ⟨d1, rfl⟩ := d
  intro out ho F H locs ls hP hS hl
  exact lv_dup2_11 F.1 F.2.1 d1 hv hv2 (k out ho F H locs ls hP hS hl)
theorem g_none : GS K X M σ pc lv st none := fun out ho => by cases ho
def lt_ {α β : Type} (e : α) (f : α → β) : β := f e
theorem g_topi {e : Int32} {f : Int32 → Option (Mem × ρ)} (k : ∀ v, GS K X M σ pc lv (.int v :: st) (f v)) : GS K X M σ pc lv (.int e :: st) (lt_ e f) := k e
theorem g_topl {e : Int64} {f : Int64 → Option (Mem × ρ)} (k : ∀ v, GS K X M σ pc lv (.long v :: st) (f v)) : GS K X M σ pc lv (.long e :: st) (lt_ e f) := k e
def spl {β : Type} (r : Option Nat) (b : Nat) (o1 : Option β) (o2 : Nat → Option β) : Option β := match r with | none => o1 | some x => if x < b then o2 x else none
theorem g_spl {r : Option Nat} {b : Nat} {g : Nat → Nat} {o1 : Option (Mem × ρ)} {o2 : Nat → Option (Mem × ρ)} (k1 : GS K X M σ pc lv (.null :: st) o1) (k2 : ∀ x, x < b → GS K X M σ pc lv (.ref (g x) :: st) (o2 x)) : GS K X M σ pc lv (va_rf (r.map g) :: st) (spl r b o1 o2) := by
  cases r with
  | none => exact k1
  | some x => exact g_guard (fun h => k2 x h)
theorem g_eqc {x : Int32} (c : Int32) {o1 o2 : Option (Mem × ρ)} (k1 : GS K X M σ pc lv (.int c :: st) o1) (k2 : ¬ x = c → GS K X M σ pc lv (.int x :: st) o2) : GS K X M σ pc lv (.int x :: st) (if x = c then o1 else o2) := by
  by_cases h : x = c
  · rw [if_pos h, h]; exact k1
  · rw [if_neg h]; exact k2 h
theorem g_same {lv' : List (Nat × Value)} (h : lv = lv') (k : GS K X M σ pc lv' st o) : GS K X M σ pc lv st o := h ▸ k
end MORE
def FU : Nat := 100000
section CALL4
variable {ρ : Type} {K : Mem × ρ → State → Prop} {X : GX} {M M' : MI} {σ : Mem} {pc pc' : Nat} {lv : List (Nat × Value)} {st stk : List Value} {y : MethodName} {as : (Nat → Nat) → List Value} {idx n : Nat}
theorem g_callVI {oc : Option (Mem × Int32)} {f : Mem × Int32 → Option (Mem × ρ)} (hC : CT y M' enI as σ oc) (ok : OKV y M' n) (fit : FIT M' M) (lk : ML M.2.2.1 idx y) {b ci : Nat} {fl : List (Nat × Nat × Nat)} {q : vw_C} (hs : shp b = .inl (ci, fl)) (hb : b < NO) (hc : classes[ci]? = some q) (hq : q.1 = y.cls) (As : List Value) (has : as (xad X) = .ref (xad X b) :: As) (hst : stk = As.reverse ++ .ref (xad X b) :: st) (hn : As.length = n) (hroom : (st.map fun v => v.category).sum ≤ 8) (d : At M.1 pc (.invokevirtual idx) 3 pc')
    (kk : ∀ q, GS K X M q.1 pc' lv (.int q.2 :: st) (f q)) : GS K X M σ pc lv stk (oc.bind f) := g_callV hC ok fit lk hs hb hc hq As has hst hn hroom d (fun q _ => kk q)
theorem g_callSI {oc : Option (Mem × Int32)} {f : Mem × Int32 → Option (Mem × ρ)} (hC : CT y M' enI as σ oc) (ok : OKS y M' n) (fit : FIT M' M) (lk : ML M.2.2.1 idx y) (hst : stk = (as (xad X)).reverse ++ st) (hn : (as (xad X)).length = n) (hroom : (st.map fun v => v.category).sum ≤ 8) (d : At M.1 pc (.invokestatic idx) 3 pc')
    (kk : ∀ q, GS K X M q.1 pc' lv (.int q.2 :: st) (f q)) : GS K X M σ pc lv stk (oc.bind f) := g_callS hC ok fit lk hst hn hroom d (fun q _ => kk q)
theorem g_callVJ {oc : Option (Mem × Int64)} {f : Mem × Int64 → Option (Mem × ρ)} (hC : CT y M' enJ as σ oc) (ok : OKV y M' n) (fit : FIT M' M) (lk : ML M.2.2.1 idx y) {b ci : Nat} {fl : List (Nat × Nat × Nat)} {q : vw_C} (hs : shp b = .inl (ci, fl)) (hb : b < NO) (hc : classes[ci]? = some q) (hq : q.1 = y.cls) (As : List Value) (has : as (xad X) = .ref (xad X b) :: As) (hst : stk = As.reverse ++ .ref (xad X b) :: st) (hn : As.length = n) (hroom : (st.map fun v => v.category).sum ≤ 8) (d : At M.1 pc (.invokevirtual idx) 3 pc')
    (kk : ∀ q, GS K X M q.1 pc' lv (.long q.2 :: st) (f q)) : GS K X M σ pc lv stk (oc.bind f) := g_callV hC ok fit lk hs hb hc hq As has hst hn hroom d (fun q _ => kk q)
theorem g_callSJ {oc : Option (Mem × Int64)} {f : Mem × Int64 → Option (Mem × ρ)} (hC : CT y M' enJ as σ oc) (ok : OKS y M' n) (fit : FIT M' M) (lk : ML M.2.2.1 idx y) (hst : stk = (as (xad X)).reverse ++ st) (hn : (as (xad X)).length = n) (hroom : (st.map fun v => v.category).sum ≤ 8) (d : At M.1 pc (.invokestatic idx) 3 pc')
    (kk : ∀ q, GS K X M q.1 pc' lv (.long q.2 :: st) (f q)) : GS K X M σ pc lv stk (oc.bind f) := g_callS hC ok fit lk hst hn hroom d (fun q _ => kk q)
theorem g_callVV {oc : Option (Mem × Unit)} {f : Mem × Unit → Option (Mem × ρ)} (hC : CT y M' enV as σ oc) (ok : OKV y M' n) (fit : FIT M' M) (lk : ML M.2.2.1 idx y) {b ci : Nat} {fl : List (Nat × Nat × Nat)} {q : vw_C} (hs : shp b = .inl (ci, fl)) (hb : b < NO) (hc : classes[ci]? = some q) (hq : q.1 = y.cls) (As : List Value) (has : as (xad X) = .ref (xad X b) :: As) (hst : stk = As.reverse ++ .ref (xad X b) :: st) (hn : As.length = n) (hroom : (st.map fun v => v.category).sum ≤ 8) (d : At M.1 pc (.invokevirtual idx) 3 pc')
    (kk : ∀ q, GS K X M q.1 pc' lv (st) (f q)) : GS K X M σ pc lv stk (oc.bind f) := g_callV hC ok fit lk hs hb hc hq As has hst hn hroom d (fun q _ => kk q)
theorem g_callSV {oc : Option (Mem × Unit)} {f : Mem × Unit → Option (Mem × ρ)} (hC : CT y M' enV as σ oc) (ok : OKS y M' n) (fit : FIT M' M) (lk : ML M.2.2.1 idx y) (hst : stk = (as (xad X)).reverse ++ st) (hn : (as (xad X)).length = n) (hroom : (st.map fun v => v.category).sum ≤ 8) (d : At M.1 pc (.invokestatic idx) 3 pc')
    (kk : ∀ q, GS K X M q.1 pc' lv (st) (f q)) : GS K X M σ pc lv stk (oc.bind f) := g_callS hC ok fit lk hst hn hroom d (fun q _ => kk q)
theorem g_callVR {a mm : Nat} {oc : Option (Mem × (Option Nat))} {f : Mem × (Option Nat) → Option (Mem × ρ)} (hC : CT y M' (enR a mm) as σ oc) (ok : OKV y M' n) (fit : FIT M' M) (lk : ML M.2.2.1 idx y) {b ci : Nat} {fl : List (Nat × Nat × Nat)} {q : vw_C} (hs : shp b = .inl (ci, fl)) (hb : b < NO) (hc : classes[ci]? = some q) (hq : q.1 = y.cls) (As : List Value) (has : as (xad X) = .ref (xad X b) :: As) (hst : stk = As.reverse ++ .ref (xad X b) :: st) (hn : As.length = n) (hroom : (st.map fun v => v.category).sum ≤ 8) (d : At M.1 pc (.invokevirtual idx) 3 pc')
    (kk : ∀ q, GS K X M q.1 pc' lv (va_rf (q.2.map (fun x => xad X (a + mm * x))) :: st) (f q)) : GS K X M σ pc lv stk (oc.bind f) := g_callV hC ok fit lk hs hb hc hq As has hst hn hroom d (fun q _ => kk q)
theorem g_callSR {a mm : Nat} {oc : Option (Mem × (Option Nat))} {f : Mem × (Option Nat) → Option (Mem × ρ)} (hC : CT y M' (enR a mm) as σ oc) (ok : OKS y M' n) (fit : FIT M' M) (lk : ML M.2.2.1 idx y) (hst : stk = (as (xad X)).reverse ++ st) (hn : (as (xad X)).length = n) (hroom : (st.map fun v => v.category).sum ≤ 8) (d : At M.1 pc (.invokestatic idx) 3 pc')
    (kk : ∀ q, GS K X M q.1 pc' lv (va_rf (q.2.map (fun x => xad X (a + mm * x))) :: st) (f q)) : GS K X M σ pc lv stk (oc.bind f) := g_callS hC ok fit lk hst hn hroom d (fun q _ => kk q)
end CALL4
def rl (r : Nat) : Nat := if r < 6 then 40 else if r < 10 then 60 else 16
theorem sh_X4 {r : Nat} (h : r < 11) : shp (4 + 2 * r) = .inl (4, [(3, 5 + 2 * r, 0), (0, 401, r)]) := by
  match r, h with
  | 0, _ | 1, _ | 2, _ | 3, _ | 4, _ | 5, _ | 6, _ | 7, _ | 8, _ | 9, _ | 10, _ => rfl
  | n + 11, h => omega
theorem sh_cells {r : Nat} (h : r < 11) : shp (5 + 2 * r) = .inr (0, rl r, 400, r) := by
  match r, h with
  | 0, _ | 1, _ | 2, _ | 3, _ | 4, _ | 5, _ | 6, _ | 7, _ | 8, _ | 9, _ | 10, _ => rfl
  | n + 11, h => omega
theorem sh_X1 {r : Nat} (h : r < 41) : shp (28 + r) = .inl (1, [(0, 100, r), (0, 101, r), (0, 102, r), (0, 103, r), (2, 104, r)]) := by
  match r, h with
  | 0, _ | 1, _ | 2, _ | 3, _ | 4, _ | 5, _ | 6, _ | 7, _ | 8, _ | 9, _ | 10, _ | 11, _ | 12, _ | 13, _ | 14, _ | 15, _ | 16, _ | 17, _ | 18, _ | 19, _ | 20, _ | 21, _ | 22, _ | 23, _ | 24, _ | 25, _ | 26, _ | 27, _ | 28, _ | 29, _ | 30, _ | 31, _ | 32, _ | 33, _ | 34, _ | 35, _ | 36, _ | 37, _ | 38, _ | 39, _ | 40, _ => rfl
  | n + 41, h => omega
theorem sh_X2 {r : Nat} (h : r < 4) : shp (69 + 4 * r) = .inl (2, [(3, 70 + 4 * r, 0), (3, 71 + 4 * r, 0), (3, 72 + 4 * r, 0), (0, 203, r), (0, 204, r)]) := by
  match r, h with
  | 0, _ | 1, _ | 2, _ | 3, _ => rfl
  | n + 4, h => omega
theorem sh_plaws {r : Nat} (h : r < 4) : shp (70 + 4 * r) = .inr (4, 8, 200, r) := by
  match r, h with
  | 0, _ | 1, _ | 2, _ | 3, _ => rfl
  | n + 4, h => omega
theorem sh_pdeeds {r : Nat} (h : r < 4) : shp (71 + 4 * r) = .inr (1, 40, 201, r) := by
  match r, h with
  | 0, _ | 1, _ | 2, _ | 3, _ => rfl
  | n + 4, h => omega
theorem sh_pinks {r : Nat} (h : r < 4) : shp (72 + 4 * r) = .inr (0, 6, 202, r) := by
  match r, h with
  | 0, _ | 1, _ | 2, _ | 3, _ => rfl
  | n + 4, h => omega
theorem no_X4 {r : Nat} (h : r < 11) : 4 + 2 * r < NO := by unfold NO; omega
theorem no_cells {r : Nat} (h : r < 11) : 5 + 2 * r < NO := by unfold NO; omega
theorem no_X1 {r : Nat} (h : r < 41) : 28 + r < NO := by unfold NO; omega
theorem no_X2 {r : Nat} (h : r < 4) : 69 + 4 * r < NO := by unfold NO; omega
theorem no_plaws {r : Nat} (h : r < 4) : 70 + 4 * r < NO := by unfold NO; omega
theorem no_pdeeds {r : Nat} (h : r < 4) : 71 + 4 * r < NO := by unfold NO; omega
theorem no_pinks {r : Nat} (h : r < 4) : 72 + 4 * r < NO := by unfold NO; omega
set_option maxRecDepth 100000 in
theorem inX0 : ∀ w ∈ u_ws RX0 TX0 5, w ∈ tb := by decide +kernel
set_option maxRecDepth 100000 in
theorem inX1 : ∀ w ∈ u_ws RX1 TX1 5, w ∈ tb := by decide +kernel
set_option maxRecDepth 100000 in
theorem inX2 : ∀ w ∈ u_ws RX2 TX2 5, w ∈ tb := by decide +kernel
set_option maxRecDepth 100000 in
theorem inX3 : ∀ w ∈ u_ws RX3 TX3 2, w ∈ tb := by decide +kernel
set_option maxRecDepth 100000 in
theorem inX4 : ∀ w ∈ u_ws RX4 TX4 2, w ∈ tb := by decide +kernel
set_option maxRecDepth 100000 in
theorem inX5 : ∀ w ∈ u_ws RX5 TX5 4, w ∈ tb := by decide +kernel
set_option maxRecDepth 100000 in
theorem inX6 : ∀ w ∈ u_ws RX6 TX6 6, w ∈ tb := by decide +kernel
set_option maxRecDepth 100000 in
theorem inX7 : ∀ w ∈ u_ws RX7 TX7 16, w ∈ tb := by decide +kernel
set_option maxRecDepth 100000 in
theorem inX8 : ∀ w ∈ u_ws RX8 TX8 31, w ∈ tb := by decide +kernel
end
