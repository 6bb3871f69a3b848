section
-- ===== PART A: goes FIRST, ahead of the names: the tables' words, and 'selects' of the private methods out of them =====
/-- a private method of a class that the tables say can be made, by its rows of tables_1 -/
def lw_okq (q : MethodName × Nat) : Prop := (q.1.cls ≠ "java/lang/invoke/MethodHandle" ∧ q.1.cls ≠ "java/lang/invoke/VarHandle") ∧ Cond.instantiable q.1.cls q.2 ∈ tables_1 ∧ Cond.privateMethod q.1 ∈ tables_1 ∧ Cond.instanceMethod q.1 ∈ tables_1
theorem lw_p0 : lw_okq (⟨"LinenName$Tape", "behind", "(III)I"⟩, 6) := ⟨⟨by decide +kernel, by decide +kernel⟩, List.mem_of_getElem? (i := 31) (by decide +kernel), List.mem_of_getElem? (i := 414) (by decide +kernel), List.mem_of_getElem? (i := 415) (by decide +kernel)⟩
theorem lw_p1 : lw_okq (⟨"LinenName$Tape", "byteAt", "(I)I"⟩, 6) := ⟨⟨by decide +kernel, by decide +kernel⟩, List.mem_of_getElem? (i := 31) (by decide +kernel), List.mem_of_getElem? (i := 418) (by decide +kernel), List.mem_of_getElem? (i := 419) (by decide +kernel)⟩
theorem lw_p2 : lw_okq (⟨"LinenName$RuleReader", "readsClause", "(I)Z"⟩, 5) := ⟨⟨by decide +kernel, by decide +kernel⟩, List.mem_of_getElem? (i := 68) (by decide +kernel), List.mem_of_getElem? (i := 529) (by decide +kernel), List.mem_of_getElem? (i := 530) (by decide +kernel)⟩
theorem lw_p3 : lw_okq (⟨"LinenName$RuleReader", "readsSum", "()Z"⟩, 5) := ⟨⟨by decide +kernel, by decide +kernel⟩, List.mem_of_getElem? (i := 68) (by decide +kernel), List.mem_of_getElem? (i := 537) (by decide +kernel), List.mem_of_getElem? (i := 538) (by decide +kernel)⟩
theorem lw_p4 : lw_okq (⟨"LinenName$RuleReader", "readsValue", "()Z"⟩, 5) := ⟨⟨by decide +kernel, by decide +kernel⟩, List.mem_of_getElem? (i := 68) (by decide +kernel), List.mem_of_getElem? (i := 541) (by decide +kernel), List.mem_of_getElem? (i := 542) (by decide +kernel)⟩
theorem lw_p5 : lw_okq (⟨"LinenName$RuleReader", "writes", "(I)Z"⟩, 5) := ⟨⟨by decide +kernel, by decide +kernel⟩, List.mem_of_getElem? (i := 68) (by decide +kernel), List.mem_of_getElem? (i := 549) (by decide +kernel), List.mem_of_getElem? (i := 550) (by decide +kernel)⟩
theorem lw_p6 : lw_okq (⟨"LinenName$RuleReader", "readsTest", "(I)Z"⟩, 5) := ⟨⟨by decide +kernel, by decide +kernel⟩, List.mem_of_getElem? (i := 68) (by decide +kernel), List.mem_of_getElem? (i := 557) (by decide +kernel), List.mem_of_getElem? (i := 558) (by decide +kernel)⟩
theorem lw_p7 : lw_okq (⟨"LinenName$RuleReader", "readsPart", "(I)Z"⟩, 5) := ⟨⟨by decide +kernel, by decide +kernel⟩, List.mem_of_getElem? (i := 68) (by decide +kernel), List.mem_of_getElem? (i := 561) (by decide +kernel), List.mem_of_getElem? (i := 562) (by decide +kernel)⟩
theorem lw_p8 : lw_okq (⟨"LinenName$RuleReader", "readsFact", "(I)Z"⟩, 5) := ⟨⟨by decide +kernel, by decide +kernel⟩, List.mem_of_getElem? (i := 68) (by decide +kernel), List.mem_of_getElem? (i := 565) (by decide +kernel), List.mem_of_getElem? (i := 566) (by decide +kernel)⟩
theorem lw_p9 : lw_okq (⟨"LinenName$RuleReader", "readsWithin", "(ZI)Z"⟩, 5) := ⟨⟨by decide +kernel, by decide +kernel⟩, List.mem_of_getElem? (i := 68) (by decide +kernel), List.mem_of_getElem? (i := 570) (by decide +kernel), List.mem_of_getElem? (i := 571) (by decide +kernel)⟩
theorem lw_p10 : lw_okq (⟨"LinenName", "isLodger", "(I)Z"⟩, 14) := ⟨⟨by decide +kernel, by decide +kernel⟩, List.mem_of_getElem? (i := 23) (by decide +kernel), List.mem_of_getElem? (i := 616) (by decide +kernel), List.mem_of_getElem? (i := 617) (by decide +kernel)⟩
theorem lw_p11 : lw_okq (⟨"LinenName", "ruleOf", "(I)LLinenName$Rule;"⟩, 14) := ⟨⟨by decide +kernel, by decide +kernel⟩, List.mem_of_getElem? (i := 23) (by decide +kernel), List.mem_of_getElem? (i := 663) (by decide +kernel), List.mem_of_getElem? (i := 664) (by decide +kernel)⟩
theorem lw_p12 : lw_okq (⟨"LinenName$Laundry", "fold", "(LLinenName$House;LLinenName$Linen;LLinenName$Rule;I)V"⟩, 2) := ⟨⟨by decide +kernel, by decide +kernel⟩, List.mem_of_getElem? (i := 261) (by decide +kernel), List.mem_of_getElem? (i := 678) (by decide +kernel), List.mem_of_getElem? (i := 679) (by decide +kernel)⟩
theorem lw_p13 : lw_okq (⟨"LinenName$Laundry", "setWords", "(LLinenName$House;LLinenName$Linen;II)V"⟩, 2) := ⟨⟨by decide +kernel, by decide +kernel⟩, List.mem_of_getElem? (i := 261) (by decide +kernel), List.mem_of_getElem? (i := 690) (by decide +kernel), List.mem_of_getElem? (i := 691) (by decide +kernel)⟩
theorem lw_p14 : lw_okq (⟨"LinenName$Rule", "run", "(II[J[J)J"⟩, 2) := ⟨⟨by decide +kernel, by decide +kernel⟩, List.mem_of_getElem? (i := 579) (by decide +kernel), List.mem_of_getElem? (i := 698) (by decide +kernel), List.mem_of_getElem? (i := 699) (by decide +kernel)⟩
theorem lw_p15 : lw_okq (⟨"LinenName", "goOn", "(II)V"⟩, 14) := ⟨⟨by decide +kernel, by decide +kernel⟩, List.mem_of_getElem? (i := 23) (by decide +kernel), List.mem_of_getElem? (i := 738) (by decide +kernel), List.mem_of_getElem? (i := 739) (by decide +kernel)⟩
def lw_privs_1 : List (MethodName × Nat) := [(⟨"LinenName$Tape", "behind", "(III)I"⟩, 6), (⟨"LinenName$Tape", "byteAt", "(I)I"⟩, 6), (⟨"LinenName$RuleReader", "readsClause", "(I)Z"⟩, 5), (⟨"LinenName$RuleReader", "readsSum", "()Z"⟩, 5), (⟨"LinenName$RuleReader", "readsValue", "()Z"⟩, 5), (⟨"LinenName$RuleReader", "writes", "(I)Z"⟩, 5), (⟨"LinenName$RuleReader", "readsTest", "(I)Z"⟩, 5), (⟨"LinenName$RuleReader", "readsPart", "(I)Z"⟩, 5), (⟨"LinenName$RuleReader", "readsFact", "(I)Z"⟩, 5), (⟨"LinenName$RuleReader", "readsWithin", "(ZI)Z"⟩, 5), (⟨"LinenName", "isLodger", "(I)Z"⟩, 14), (⟨"LinenName", "ruleOf", "(I)LLinenName$Rule;"⟩, 14), (⟨"LinenName$Laundry", "fold", "(LLinenName$House;LLinenName$Linen;LLinenName$Rule;I)V"⟩, 2), (⟨"LinenName$Laundry", "setWords", "(LLinenName$House;LLinenName$Linen;II)V"⟩, 2), (⟨"LinenName$Rule", "run", "(II[J[J)J"⟩, 2), (⟨"LinenName", "goOn", "(II)V"⟩, 14)]
theorem lw_r1 : ∀ q ∈ lw_privs_1, lw_okq q := List.forall_mem_cons.mpr ⟨lw_p0, List.forall_mem_cons.mpr ⟨lw_p1, List.forall_mem_cons.mpr ⟨lw_p2, List.forall_mem_cons.mpr ⟨lw_p3, List.forall_mem_cons.mpr ⟨lw_p4, List.forall_mem_cons.mpr ⟨lw_p5, List.forall_mem_cons.mpr ⟨lw_p6, List.forall_mem_cons.mpr ⟨lw_p7, List.forall_mem_cons.mpr ⟨lw_p8, List.forall_mem_cons.mpr ⟨lw_p9, List.forall_mem_cons.mpr ⟨lw_p10, List.forall_mem_cons.mpr ⟨lw_p11, List.forall_mem_cons.mpr ⟨lw_p12, List.forall_mem_cons.mpr ⟨lw_p13, List.forall_mem_cons.mpr ⟨lw_p14, List.forall_mem_cons.mpr ⟨lw_p15, fun _ h => absurd h List.not_mem_nil⟩⟩⟩⟩⟩⟩⟩⟩⟩⟩⟩⟩⟩⟩⟩⟩
theorem lw_p16 : lw_okq (⟨"LinenName", "mixByDraws", "(II)I"⟩, 14) := ⟨⟨by decide +kernel, by decide +kernel⟩, List.mem_of_getElem? (i := 23) (by decide +kernel), List.mem_of_getElem? (i := 782) (by decide +kernel), List.mem_of_getElem? (i := 783) (by decide +kernel)⟩
theorem lw_p17 : lw_okq (⟨"LinenName", "firstOfPairs", "(IZ)I"⟩, 14) := ⟨⟨by decide +kernel, by decide +kernel⟩, List.mem_of_getElem? (i := 23) (by decide +kernel), List.mem_of_getElem? (i := 818) (by decide +kernel), List.mem_of_getElem? (i := 819) (by decide +kernel)⟩
theorem lw_p18 : lw_okq (⟨"LinenName", "betterForBoth", "(II)Z"⟩, 14) := ⟨⟨by decide +kernel, by decide +kernel⟩, List.mem_of_getElem? (i := 23) (by decide +kernel), List.mem_of_getElem? (i := 822) (by decide +kernel), List.mem_of_getElem? (i := 823) (by decide +kernel)⟩
theorem lw_p19 : lw_okq (⟨"LinenName", "whatOneHas", "(II)I"⟩, 14) := ⟨⟨by decide +kernel, by decide +kernel⟩, List.mem_of_getElem? (i := 23) (by decide +kernel), List.mem_of_getElem? (i := 826) (by decide +kernel), List.mem_of_getElem? (i := 827) (by decide +kernel)⟩
theorem lw_p20 : lw_okq (⟨"LinenName", "comesNearer", "(II)Z"⟩, 14) := ⟨⟨by decide +kernel, by decide +kernel⟩, List.mem_of_getElem? (i := 23) (by decide +kernel), List.mem_of_getElem? (i := 830) (by decide +kernel), List.mem_of_getElem? (i := 831) (by decide +kernel)⟩
theorem lw_p21 : lw_okq (⟨"LinenName$Orders", "bestSheet", "(II)I"⟩, 6) := ⟨⟨by decide +kernel, by decide +kernel⟩, List.mem_of_getElem? (i := 275) (by decide +kernel), List.mem_of_getElem? (i := 847) (by decide +kernel), List.mem_of_getElem? (i := 848) (by decide +kernel)⟩
theorem lw_p22 : lw_okq (⟨"LinenName$Orders", "letWith", "(III)I"⟩, 6) := ⟨⟨by decide +kernel, by decide +kernel⟩, List.mem_of_getElem? (i := 275) (by decide +kernel), List.mem_of_getElem? (i := 851) (by decide +kernel), List.mem_of_getElem? (i := 852) (by decide +kernel)⟩
theorem lw_p23 : lw_okq (⟨"LinenName$Orders", "laysFrom", "(III)Z"⟩, 6) := ⟨⟨by decide +kernel, by decide +kernel⟩, List.mem_of_getElem? (i := 275) (by decide +kernel), List.mem_of_getElem? (i := 868) (by decide +kernel), List.mem_of_getElem? (i := 869) (by decide +kernel)⟩
theorem lw_p24 : lw_okq (⟨"LinenName$Orders", "lays", "(IIII)Z"⟩, 6) := ⟨⟨by decide +kernel, by decide +kernel⟩, List.mem_of_getElem? (i := 275) (by decide +kernel), List.mem_of_getElem? (i := 872) (by decide +kernel), List.mem_of_getElem? (i := 873) (by decide +kernel)⟩
theorem lw_p25 : lw_okq (⟨"LinenName$Orders", "join", "(II)I"⟩, 6) := ⟨⟨by decide +kernel, by decide +kernel⟩, List.mem_of_getElem? (i := 275) (by decide +kernel), List.mem_of_getElem? (i := 877) (by decide +kernel), List.mem_of_getElem? (i := 878) (by decide +kernel)⟩
theorem lw_p26 : lw_okq (⟨"LinenName$Contest", "worth", "(II)I"⟩, 6) := ⟨⟨by decide +kernel, by decide +kernel⟩, List.mem_of_getElem? (i := 302) (by decide +kernel), List.mem_of_getElem? (i := 894) (by decide +kernel), List.mem_of_getElem? (i := 895) (by decide +kernel)⟩
theorem lw_p27 : lw_okq (⟨"LinenName$Contest", "worthBehind", "(IIII)I"⟩, 6) := ⟨⟨by decide +kernel, by decide +kernel⟩, List.mem_of_getElem? (i := 302) (by decide +kernel), List.mem_of_getElem? (i := 898) (by decide +kernel), List.mem_of_getElem? (i := 899) (by decide +kernel)⟩
theorem lw_p28 : lw_okq (⟨"LinenName", "bearsOutNotes", "(I)Z"⟩, 14) := ⟨⟨by decide +kernel, by decide +kernel⟩, List.mem_of_getElem? (i := 23) (by decide +kernel), List.mem_of_getElem? (i := 911) (by decide +kernel), List.mem_of_getElem? (i := 912) (by decide +kernel)⟩
theorem lw_p29 : lw_okq (⟨"LinenName", "tallySheets", "(II)V"⟩, 14) := ⟨⟨by decide +kernel, by decide +kernel⟩, List.mem_of_getElem? (i := 23) (by decide +kernel), List.mem_of_getElem? (i := 931) (by decide +kernel), List.mem_of_getElem? (i := 932) (by decide +kernel)⟩
theorem lw_p30 : lw_okq (⟨"LinenName", "mostAlike", "(I)I"⟩, 14) := ⟨⟨by decide +kernel, by decide +kernel⟩, List.mem_of_getElem? (i := 23) (by decide +kernel), List.mem_of_getElem? (i := 935) (by decide +kernel), List.mem_of_getElem? (i := 936) (by decide +kernel)⟩
theorem lw_p31 : lw_okq (⟨"LinenNameModel", "four", "(I)V"⟩, 42) := ⟨⟨by decide +kernel, by decide +kernel⟩, List.mem_of_getElem? (i := 958) (by decide +kernel), List.mem_of_getElem? (i := 1096) (by decide +kernel), List.mem_of_getElem? (i := 1097) (by decide +kernel)⟩
def lw_privs_2 : List (MethodName × Nat) := [(⟨"LinenName", "mixByDraws", "(II)I"⟩, 14), (⟨"LinenName", "firstOfPairs", "(IZ)I"⟩, 14), (⟨"LinenName", "betterForBoth", "(II)Z"⟩, 14), (⟨"LinenName", "whatOneHas", "(II)I"⟩, 14), (⟨"LinenName", "comesNearer", "(II)Z"⟩, 14), (⟨"LinenName$Orders", "bestSheet", "(II)I"⟩, 6), (⟨"LinenName$Orders", "letWith", "(III)I"⟩, 6), (⟨"LinenName$Orders", "laysFrom", "(III)Z"⟩, 6), (⟨"LinenName$Orders", "lays", "(IIII)Z"⟩, 6), (⟨"LinenName$Orders", "join", "(II)I"⟩, 6), (⟨"LinenName$Contest", "worth", "(II)I"⟩, 6), (⟨"LinenName$Contest", "worthBehind", "(IIII)I"⟩, 6), (⟨"LinenName", "bearsOutNotes", "(I)Z"⟩, 14), (⟨"LinenName", "tallySheets", "(II)V"⟩, 14), (⟨"LinenName", "mostAlike", "(I)I"⟩, 14), (⟨"LinenNameModel", "four", "(I)V"⟩, 42)]
theorem lw_r2 : ∀ q ∈ lw_privs_2, lw_okq q := List.forall_mem_cons.mpr ⟨lw_p16, List.forall_mem_cons.mpr ⟨lw_p17, List.forall_mem_cons.mpr ⟨lw_p18, List.forall_mem_cons.mpr ⟨lw_p19, List.forall_mem_cons.mpr ⟨lw_p20, List.forall_mem_cons.mpr ⟨lw_p21, List.forall_mem_cons.mpr ⟨lw_p22, List.forall_mem_cons.mpr ⟨lw_p23, List.forall_mem_cons.mpr ⟨lw_p24, List.forall_mem_cons.mpr ⟨lw_p25, List.forall_mem_cons.mpr ⟨lw_p26, List.forall_mem_cons.mpr ⟨lw_p27, List.forall_mem_cons.mpr ⟨lw_p28, List.forall_mem_cons.mpr ⟨lw_p29, List.forall_mem_cons.mpr ⟨lw_p30, List.forall_mem_cons.mpr ⟨lw_p31, fun _ h => absurd h List.not_mem_nil⟩⟩⟩⟩⟩⟩⟩⟩⟩⟩⟩⟩⟩⟩⟩⟩
theorem lw_p32 : lw_okq (⟨"LinenNameModel", "readsAll", "()Z"⟩, 42) := ⟨⟨by decide +kernel, by decide +kernel⟩, List.mem_of_getElem? (i := 958) (by decide +kernel), List.mem_of_getElem? (i := 1108) (by decide +kernel), List.mem_of_getElem? (i := 1109) (by decide +kernel)⟩
theorem lw_p33 : lw_okq (⟨"LinenNameModel", "clauseHere", "()Z"⟩, 42) := ⟨⟨by decide +kernel, by decide +kernel⟩, List.mem_of_getElem? (i := 958) (by decide +kernel), List.mem_of_getElem? (i := 1112) (by decide +kernel), List.mem_of_getElem? (i := 1113) (by decide +kernel)⟩
theorem lw_p34 : lw_okq (⟨"LinenNameModel", "see", "()I"⟩, 42) := ⟨⟨by decide +kernel, by decide +kernel⟩, List.mem_of_getElem? (i := 958) (by decide +kernel), List.mem_of_getElem? (i := 1116) (by decide +kernel), List.mem_of_getElem? (i := 1117) (by decide +kernel)⟩
theorem lw_p35 : lw_okq (⟨"LinenNameModel", "isHouseWord", "()Z"⟩, 42) := ⟨⟨by decide +kernel, by decide +kernel⟩, List.mem_of_getElem? (i := 958) (by decide +kernel), List.mem_of_getElem? (i := 1120) (by decide +kernel), List.mem_of_getElem? (i := 1121) (by decide +kernel)⟩
theorem lw_p36 : lw_okq (⟨"LinenNameModel", "isWord", "(J)Z"⟩, 42) := ⟨⟨by decide +kernel, by decide +kernel⟩, List.mem_of_getElem? (i := 958) (by decide +kernel), List.mem_of_getElem? (i := 1125) (by decide +kernel), List.mem_of_getElem? (i := 1126) (by decide +kernel)⟩
theorem lw_p37 : lw_okq (⟨"LinenNameModel", "isLetter", "(I)Z"⟩, 42) := ⟨⟨by decide +kernel, by decide +kernel⟩, List.mem_of_getElem? (i := 958) (by decide +kernel), List.mem_of_getElem? (i := 1129) (by decide +kernel), List.mem_of_getElem? (i := 1130) (by decide +kernel)⟩
theorem lw_p38 : lw_okq (⟨"LinenNameModel", "fails", "(II)Z"⟩, 42) := ⟨⟨by decide +kernel, by decide +kernel⟩, List.mem_of_getElem? (i := 958) (by decide +kernel), List.mem_of_getElem? (i := 1136) (by decide +kernel), List.mem_of_getElem? (i := 1137) (by decide +kernel)⟩
theorem lw_p39 : lw_okq (⟨"LinenNameModel", "houseLineHere", "(I)Z"⟩, 42) := ⟨⟨by decide +kernel, by decide +kernel⟩, List.mem_of_getElem? (i := 958) (by decide +kernel), List.mem_of_getElem? (i := 1140) (by decide +kernel), List.mem_of_getElem? (i := 1141) (by decide +kernel)⟩
theorem lw_p40 : lw_okq (⟨"LinenNameModel", "isHouseHere", "(I)Z"⟩, 42) := ⟨⟨by decide +kernel, by decide +kernel⟩, List.mem_of_getElem? (i := 958) (by decide +kernel), List.mem_of_getElem? (i := 1144) (by decide +kernel), List.mem_of_getElem? (i := 1145) (by decide +kernel)⟩
theorem lw_p41 : lw_okq (⟨"LinenNameModel", "passWord", "()V"⟩, 42) := ⟨⟨by decide +kernel, by decide +kernel⟩, List.mem_of_getElem? (i := 958) (by decide +kernel), List.mem_of_getElem? (i := 1148) (by decide +kernel), List.mem_of_getElem? (i := 1149) (by decide +kernel)⟩
theorem lw_p42 : lw_okq (⟨"LinenNameModel", "cellHere", "(III)Z"⟩, 42) := ⟨⟨by decide +kernel, by decide +kernel⟩, List.mem_of_getElem? (i := 958) (by decide +kernel), List.mem_of_getElem? (i := 1152) (by decide +kernel), List.mem_of_getElem? (i := 1153) (by decide +kernel)⟩
theorem lw_p43 : lw_okq (⟨"LinenNameModel", "numberHere", "(II)Z"⟩, 42) := ⟨⟨by decide +kernel, by decide +kernel⟩, List.mem_of_getElem? (i := 958) (by decide +kernel), List.mem_of_getElem? (i := 1156) (by decide +kernel), List.mem_of_getElem? (i := 1157) (by decide +kernel)⟩
theorem lw_p44 : lw_okq (⟨"LinenNameModel", "isDigit", "(I)Z"⟩, 42) := ⟨⟨by decide +kernel, by decide +kernel⟩, List.mem_of_getElem? (i := 958) (by decide +kernel), List.mem_of_getElem? (i := 1160) (by decide +kernel), List.mem_of_getElem? (i := 1161) (by decide +kernel)⟩
theorem lw_p45 : lw_okq (⟨"LinenNameModel", "isLodgerHere", "(I)Z"⟩, 42) := ⟨⟨by decide +kernel, by decide +kernel⟩, List.mem_of_getElem? (i := 958) (by decide +kernel), List.mem_of_getElem? (i := 1167) (by decide +kernel), List.mem_of_getElem? (i := 1168) (by decide +kernel)⟩
theorem lw_p46 : lw_okq (⟨"LinenNameModel", "isMixHere", "(I)Z"⟩, 42) := ⟨⟨by decide +kernel, by decide +kernel⟩, List.mem_of_getElem? (i := 958) (by decide +kernel), List.mem_of_getElem? (i := 1171) (by decide +kernel), List.mem_of_getElem? (i := 1172) (by decide +kernel)⟩
theorem lw_p47 : lw_okq (⟨"LinenNameModel", "isFoldHere", "()Z"⟩, 42) := ⟨⟨by decide +kernel, by decide +kernel⟩, List.mem_of_getElem? (i := 958) (by decide +kernel), List.mem_of_getElem? (i := 1175) (by decide +kernel), List.mem_of_getElem? (i := 1176) (by decide +kernel)⟩
def lw_privs_3 : List (MethodName × Nat) := [(⟨"LinenNameModel", "readsAll", "()Z"⟩, 42), (⟨"LinenNameModel", "clauseHere", "()Z"⟩, 42), (⟨"LinenNameModel", "see", "()I"⟩, 42), (⟨"LinenNameModel", "isHouseWord", "()Z"⟩, 42), (⟨"LinenNameModel", "isWord", "(J)Z"⟩, 42), (⟨"LinenNameModel", "isLetter", "(I)Z"⟩, 42), (⟨"LinenNameModel", "fails", "(II)Z"⟩, 42), (⟨"LinenNameModel", "houseLineHere", "(I)Z"⟩, 42), (⟨"LinenNameModel", "isHouseHere", "(I)Z"⟩, 42), (⟨"LinenNameModel", "passWord", "()V"⟩, 42), (⟨"LinenNameModel", "cellHere", "(III)Z"⟩, 42), (⟨"LinenNameModel", "numberHere", "(II)Z"⟩, 42), (⟨"LinenNameModel", "isDigit", "(I)Z"⟩, 42), (⟨"LinenNameModel", "isLodgerHere", "(I)Z"⟩, 42), (⟨"LinenNameModel", "isMixHere", "(I)Z"⟩, 42), (⟨"LinenNameModel", "isFoldHere", "()Z"⟩, 42)]
theorem lw_r3 : ∀ q ∈ lw_privs_3, lw_okq q := List.forall_mem_cons.mpr ⟨lw_p32, List.forall_mem_cons.mpr ⟨lw_p33, List.forall_mem_cons.mpr ⟨lw_p34, List.forall_mem_cons.mpr ⟨lw_p35, List.forall_mem_cons.mpr ⟨lw_p36, List.forall_mem_cons.mpr ⟨lw_p37, List.forall_mem_cons.mpr ⟨lw_p38, List.forall_mem_cons.mpr ⟨lw_p39, List.forall_mem_cons.mpr ⟨lw_p40, List.forall_mem_cons.mpr ⟨lw_p41, List.forall_mem_cons.mpr ⟨lw_p42, List.forall_mem_cons.mpr ⟨lw_p43, List.forall_mem_cons.mpr ⟨lw_p44, List.forall_mem_cons.mpr ⟨lw_p45, List.forall_mem_cons.mpr ⟨lw_p46, List.forall_mem_cons.mpr ⟨lw_p47, fun _ h => absurd h List.not_mem_nil⟩⟩⟩⟩⟩⟩⟩⟩⟩⟩⟩⟩⟩⟩⟩⟩
theorem lw_p48 : lw_okq (⟨"LinenNameModel", "sum", "()Z"⟩, 42) := ⟨⟨by decide +kernel, by decide +kernel⟩, List.mem_of_getElem? (i := 958) (by decide +kernel), List.mem_of_getElem? (i := 1179) (by decide +kernel), List.mem_of_getElem? (i := 1180) (by decide +kernel)⟩
theorem lw_p49 : lw_okq (⟨"LinenNameModel", "term", "()Z"⟩, 42) := ⟨⟨by decide +kernel, by decide +kernel⟩, List.mem_of_getElem? (i := 958) (by decide +kernel), List.mem_of_getElem? (i := 1183) (by decide +kernel), List.mem_of_getElem? (i := 1184) (by decide +kernel)⟩
theorem lw_p50 : lw_okq (⟨"LinenNameModel", "value", "()Z"⟩, 42) := ⟨⟨by decide +kernel, by decide +kernel⟩, List.mem_of_getElem? (i := 958) (by decide +kernel), List.mem_of_getElem? (i := 1187) (by decide +kernel), List.mem_of_getElem? (i := 1188) (by decide +kernel)⟩
theorem lw_p51 : lw_okq (⟨"LinenNameModel", "makes", "(I)Z"⟩, 42) := ⟨⟨by decide +kernel, by decide +kernel⟩, List.mem_of_getElem? (i := 958) (by decide +kernel), List.mem_of_getElem? (i := 1192) (by decide +kernel), List.mem_of_getElem? (i := 1193) (by decide +kernel)⟩
theorem lw_p52 : lw_okq (⟨"LinenNameModel", "puts", "(II)V"⟩, 42) := ⟨⟨by decide +kernel, by decide +kernel⟩, List.mem_of_getElem? (i := 958) (by decide +kernel), List.mem_of_getElem? (i := 1196) (by decide +kernel), List.mem_of_getElem? (i := 1197) (by decide +kernel)⟩
theorem lw_p53 : lw_okq (⟨"LinenNameModel", "wordHere", "()I"⟩, 42) := ⟨⟨by decide +kernel, by decide +kernel⟩, List.mem_of_getElem? (i := 958) (by decide +kernel), List.mem_of_getElem? (i := 1200) (by decide +kernel), List.mem_of_getElem? (i := 1201) (by decide +kernel)⟩
theorem lw_p54 : lw_okq (⟨"LinenNameModel", "takesWord", "(J)Z"⟩, 42) := ⟨⟨by decide +kernel, by decide +kernel⟩, List.mem_of_getElem? (i := 958) (by decide +kernel), List.mem_of_getElem? (i := 1217) (by decide +kernel), List.mem_of_getElem? (i := 1218) (by decide +kernel)⟩
theorem lw_p55 : lw_okq (⟨"LinenNameModel", "tested", "()Z"⟩, 42) := ⟨⟨by decide +kernel, by decide +kernel⟩, List.mem_of_getElem? (i := 958) (by decide +kernel), List.mem_of_getElem? (i := 1221) (by decide +kernel), List.mem_of_getElem? (i := 1222) (by decide +kernel)⟩
theorem lw_p56 : lw_okq (⟨"LinenNameModel", "fact", "()Z"⟩, 42) := ⟨⟨by decide +kernel, by decide +kernel⟩, List.mem_of_getElem? (i := 958) (by decide +kernel), List.mem_of_getElem? (i := 1225) (by decide +kernel), List.mem_of_getElem? (i := 1226) (by decide +kernel)⟩
theorem lw_p57 : lw_okq (⟨"LinenNameModel", "opens", "(I)Z"⟩, 42) := ⟨⟨by decide +kernel, by decide +kernel⟩, List.mem_of_getElem? (i := 958) (by decide +kernel), List.mem_of_getElem? (i := 1230) (by decide +kernel), List.mem_of_getElem? (i := 1231) (by decide +kernel)⟩
theorem lw_p58 : lw_okq (⟨"LinenNameModel", "compare", "()Z"⟩, 42) := ⟨⟨by decide +kernel, by decide +kernel⟩, List.mem_of_getElem? (i := 958) (by decide +kernel), List.mem_of_getElem? (i := 1234) (by decide +kernel), List.mem_of_getElem? (i := 1235) (by decide +kernel)⟩
theorem lw_p59 : lw_okq (⟨"LinenNameModel", "closes", "()V"⟩, 42) := ⟨⟨by decide +kernel, by decide +kernel⟩, List.mem_of_getElem? (i := 958) (by decide +kernel), List.mem_of_getElem? (i := 1238) (by decide +kernel), List.mem_of_getElem? (i := 1239) (by decide +kernel)⟩
theorem lw_p60 : lw_okq (⟨"LinenNameModel", "layDown", "(I)V"⟩, 42) := ⟨⟨by decide +kernel, by decide +kernel⟩, List.mem_of_getElem? (i := 958) (by decide +kernel), List.mem_of_getElem? (i := 1242) (by decide +kernel), List.mem_of_getElem? (i := 1243) (by decide +kernel)⟩
theorem lw_p61 : lw_okq (⟨"LinenNameModel", "isInside", "()Z"⟩, 42) := ⟨⟨by decide +kernel, by decide +kernel⟩, List.mem_of_getElem? (i := 958) (by decide +kernel), List.mem_of_getElem? (i := 1249) (by decide +kernel), List.mem_of_getElem? (i := 1250) (by decide +kernel)⟩
theorem lw_p62 : lw_okq (⟨"LinenNameModel", "begins", "()V"⟩, 42) := ⟨⟨by decide +kernel, by decide +kernel⟩, List.mem_of_getElem? (i := 958) (by decide +kernel), List.mem_of_getElem? (i := 1259) (by decide +kernel), List.mem_of_getElem? (i := 1260) (by decide +kernel)⟩
theorem lw_p63 : lw_okq (⟨"LinenNameModel", "isRule", "(I)Z"⟩, 42) := ⟨⟨by decide +kernel, by decide +kernel⟩, List.mem_of_getElem? (i := 958) (by decide +kernel), List.mem_of_getElem? (i := 1267) (by decide +kernel), List.mem_of_getElem? (i := 1268) (by decide +kernel)⟩
def lw_privs_4 : List (MethodName × Nat) := [(⟨"LinenNameModel", "sum", "()Z"⟩, 42), (⟨"LinenNameModel", "term", "()Z"⟩, 42), (⟨"LinenNameModel", "value", "()Z"⟩, 42), (⟨"LinenNameModel", "makes", "(I)Z"⟩, 42), (⟨"LinenNameModel", "puts", "(II)V"⟩, 42), (⟨"LinenNameModel", "wordHere", "()I"⟩, 42), (⟨"LinenNameModel", "takesWord", "(J)Z"⟩, 42), (⟨"LinenNameModel", "tested", "()Z"⟩, 42), (⟨"LinenNameModel", "fact", "()Z"⟩, 42), (⟨"LinenNameModel", "opens", "(I)Z"⟩, 42), (⟨"LinenNameModel", "compare", "()Z"⟩, 42), (⟨"LinenNameModel", "closes", "()V"⟩, 42), (⟨"LinenNameModel", "layDown", "(I)V"⟩, 42), (⟨"LinenNameModel", "isInside", "()Z"⟩, 42), (⟨"LinenNameModel", "begins", "()V"⟩, 42), (⟨"LinenNameModel", "isRule", "(I)Z"⟩, 42)]
theorem lw_r4 : ∀ q ∈ lw_privs_4, lw_okq q := List.forall_mem_cons.mpr ⟨lw_p48, List.forall_mem_cons.mpr ⟨lw_p49, List.forall_mem_cons.mpr ⟨lw_p50, List.forall_mem_cons.mpr ⟨lw_p51, List.forall_mem_cons.mpr ⟨lw_p52, List.forall_mem_cons.mpr ⟨lw_p53, List.forall_mem_cons.mpr ⟨lw_p54, List.forall_mem_cons.mpr ⟨lw_p55, List.forall_mem_cons.mpr ⟨lw_p56, List.forall_mem_cons.mpr ⟨lw_p57, List.forall_mem_cons.mpr ⟨lw_p58, List.forall_mem_cons.mpr ⟨lw_p59, List.forall_mem_cons.mpr ⟨lw_p60, List.forall_mem_cons.mpr ⟨lw_p61, List.forall_mem_cons.mpr ⟨lw_p62, List.forall_mem_cons.mpr ⟨lw_p63, fun _ h => absurd h List.not_mem_nil⟩⟩⟩⟩⟩⟩⟩⟩⟩⟩⟩⟩⟩⟩⟩⟩
theorem lw_p64 : lw_okq (⟨"LinenNameModel", "isBed", "(I)Z"⟩, 42) := ⟨⟨by decide +kernel, by decide +kernel⟩, List.mem_of_getElem? (i := 958) (by decide +kernel), List.mem_of_getElem? (i := 1275) (by decide +kernel), List.mem_of_getElem? (i := 1276) (by decide +kernel)⟩
theorem lw_p65 : lw_okq (⟨"LinenNameModel", "sheetOn", "(I)I"⟩, 42) := ⟨⟨by decide +kernel, by decide +kernel⟩, List.mem_of_getElem? (i := 958) (by decide +kernel), List.mem_of_getElem? (i := 1280) (by decide +kernel), List.mem_of_getElem? (i := 1281) (by decide +kernel)⟩
theorem lw_p66 : lw_okq (⟨"LinenNameModel", "isLet", "(I)Z"⟩, 42) := ⟨⟨by decide +kernel, by decide +kernel⟩, List.mem_of_getElem? (i := 958) (by decide +kernel), List.mem_of_getElem? (i := 1284) (by decide +kernel), List.mem_of_getElem? (i := 1285) (by decide +kernel)⟩
theorem lw_p67 : lw_okq (⟨"LinenNameModel", "gradeOn", "(I)I"⟩, 42) := ⟨⟨by decide +kernel, by decide +kernel⟩, List.mem_of_getElem? (i := 958) (by decide +kernel), List.mem_of_getElem? (i := 1288) (by decide +kernel), List.mem_of_getElem? (i := 1289) (by decide +kernel)⟩
theorem lw_p68 : lw_okq (⟨"LinenNameModel", "bedOf", "(I)I"⟩, 42) := ⟨⟨by decide +kernel, by decide +kernel⟩, List.mem_of_getElem? (i := 958) (by decide +kernel), List.mem_of_getElem? (i := 1297) (by decide +kernel), List.mem_of_getElem? (i := 1298) (by decide +kernel)⟩
theorem lw_p69 : lw_okq (⟨"LinenNameModel", "isHouse", "()Z"⟩, 42) := ⟨⟨by decide +kernel, by decide +kernel⟩, List.mem_of_getElem? (i := 958) (by decide +kernel), List.mem_of_getElem? (i := 1309) (by decide +kernel), List.mem_of_getElem? (i := 1310) (by decide +kernel)⟩
theorem lw_p70 : lw_okq (⟨"LinenNameModel", "keepsAct", "()V"⟩, 42) := ⟨⟨by decide +kernel, by decide +kernel⟩, List.mem_of_getElem? (i := 958) (by decide +kernel), List.mem_of_getElem? (i := 1313) (by decide +kernel), List.mem_of_getElem? (i := 1314) (by decide +kernel)⟩
theorem lw_p71 : lw_okq (⟨"LinenNameModel", "passes", "()I"⟩, 42) := ⟨⟨by decide +kernel, by decide +kernel⟩, List.mem_of_getElem? (i := 958) (by decide +kernel), List.mem_of_getElem? (i := 1317) (by decide +kernel), List.mem_of_getElem? (i := 1318) (by decide +kernel)⟩
theorem lw_p72 : lw_okq (⟨"LinenNameModel", "mixes", "()V"⟩, 42) := ⟨⟨by decide +kernel, by decide +kernel⟩, List.mem_of_getElem? (i := 958) (by decide +kernel), List.mem_of_getElem? (i := 1321) (by decide +kernel), List.mem_of_getElem? (i := 1322) (by decide +kernel)⟩
theorem lw_p73 : lw_okq (⟨"LinenNameModel", "changes", "(II)V"⟩, 42) := ⟨⟨by decide +kernel, by decide +kernel⟩, List.mem_of_getElem? (i := 958) (by decide +kernel), List.mem_of_getElem? (i := 1325) (by decide +kernel), List.mem_of_getElem? (i := 1326) (by decide +kernel)⟩
theorem lw_p74 : lw_okq (⟨"LinenNameModel", "folds", "()V"⟩, 42) := ⟨⟨by decide +kernel, by decide +kernel⟩, List.mem_of_getElem? (i := 958) (by decide +kernel), List.mem_of_getElem? (i := 1329) (by decide +kernel), List.mem_of_getElem? (i := 1330) (by decide +kernel)⟩
theorem lw_p75 : lw_okq (⟨"LinenNameModel", "sumOf", "(II)J"⟩, 42) := ⟨⟨by decide +kernel, by decide +kernel⟩, List.mem_of_getElem? (i := 958) (by decide +kernel), List.mem_of_getElem? (i := 1333) (by decide +kernel), List.mem_of_getElem? (i := 1334) (by decide +kernel)⟩
theorem lw_p76 : lw_okq (⟨"LinenNameModel", "homeOnes", "()I"⟩, 42) := ⟨⟨by decide +kernel, by decide +kernel⟩, List.mem_of_getElem? (i := 958) (by decide +kernel), List.mem_of_getElem? (i := 1337) (by decide +kernel), List.mem_of_getElem? (i := 1338) (by decide +kernel)⟩
theorem lw_p77 : lw_okq (⟨"LinenNameModel", "letOnes", "()I"⟩, 42) := ⟨⟨by decide +kernel, by decide +kernel⟩, List.mem_of_getElem? (i := 958) (by decide +kernel), List.mem_of_getElem? (i := 1344) (by decide +kernel), List.mem_of_getElem? (i := 1345) (by decide +kernel)⟩
theorem lw_p78 : lw_okq (⟨"LinenNameModel", "summedBy", "(I)J"⟩, 42) := ⟨⟨by decide +kernel, by decide +kernel⟩, List.mem_of_getElem? (i := 958) (by decide +kernel), List.mem_of_getElem? (i := 1348) (by decide +kernel), List.mem_of_getElem? (i := 1349) (by decide +kernel)⟩
theorem lw_p79 : lw_okq (⟨"LinenNameModel", "reckons", "(III)J"⟩, 42) := ⟨⟨by decide +kernel, by decide +kernel⟩, List.mem_of_getElem? (i := 958) (by decide +kernel), List.mem_of_getElem? (i := 1352) (by decide +kernel), List.mem_of_getElem? (i := 1353) (by decide +kernel)⟩
def lw_privs_5 : List (MethodName × Nat) := [(⟨"LinenNameModel", "isBed", "(I)Z"⟩, 42), (⟨"LinenNameModel", "sheetOn", "(I)I"⟩, 42), (⟨"LinenNameModel", "isLet", "(I)Z"⟩, 42), (⟨"LinenNameModel", "gradeOn", "(I)I"⟩, 42), (⟨"LinenNameModel", "bedOf", "(I)I"⟩, 42), (⟨"LinenNameModel", "isHouse", "()Z"⟩, 42), (⟨"LinenNameModel", "keepsAct", "()V"⟩, 42), (⟨"LinenNameModel", "passes", "()I"⟩, 42), (⟨"LinenNameModel", "mixes", "()V"⟩, 42), (⟨"LinenNameModel", "changes", "(II)V"⟩, 42), (⟨"LinenNameModel", "folds", "()V"⟩, 42), (⟨"LinenNameModel", "sumOf", "(II)J"⟩, 42), (⟨"LinenNameModel", "homeOnes", "()I"⟩, 42), (⟨"LinenNameModel", "letOnes", "()I"⟩, 42), (⟨"LinenNameModel", "summedBy", "(I)J"⟩, 42), (⟨"LinenNameModel", "reckons", "(III)J"⟩, 42)]
theorem lw_r5 : ∀ q ∈ lw_privs_5, lw_okq q := List.forall_mem_cons.mpr ⟨lw_p64, List.forall_mem_cons.mpr ⟨lw_p65, List.forall_mem_cons.mpr ⟨lw_p66, List.forall_mem_cons.mpr ⟨lw_p67, List.forall_mem_cons.mpr ⟨lw_p68, List.forall_mem_cons.mpr ⟨lw_p69, List.forall_mem_cons.mpr ⟨lw_p70, List.forall_mem_cons.mpr ⟨lw_p71, List.forall_mem_cons.mpr ⟨lw_p72, List.forall_mem_cons.mpr ⟨lw_p73, List.forall_mem_cons.mpr ⟨lw_p74, List.forall_mem_cons.mpr ⟨lw_p75, List.forall_mem_cons.mpr ⟨lw_p76, List.forall_mem_cons.mpr ⟨lw_p77, List.forall_mem_cons.mpr ⟨lw_p78, List.forall_mem_cons.mpr ⟨lw_p79, fun _ h => absurd h List.not_mem_nil⟩⟩⟩⟩⟩⟩⟩⟩⟩⟩⟩⟩⟩⟩⟩⟩
theorem lw_p80 : lw_okq (⟨"LinenNameModel", "push", "(J)V"⟩, 42) := ⟨⟨by decide +kernel, by decide +kernel⟩, List.mem_of_getElem? (i := 958) (by decide +kernel), List.mem_of_getElem? (i := 1356) (by decide +kernel), List.mem_of_getElem? (i := 1357) (by decide +kernel)⟩
theorem lw_p81 : lw_okq (⟨"LinenNameModel", "pop", "()J"⟩, 42) := ⟨⟨by decide +kernel, by decide +kernel⟩, List.mem_of_getElem? (i := 958) (by decide +kernel), List.mem_of_getElem? (i := 1360) (by decide +kernel), List.mem_of_getElem? (i := 1361) (by decide +kernel)⟩
theorem lw_p82 : lw_okq (⟨"LinenNameModel", "wears", "()V"⟩, 42) := ⟨⟨by decide +kernel, by decide +kernel⟩, List.mem_of_getElem? (i := 958) (by decide +kernel), List.mem_of_getElem? (i := 1370) (by decide +kernel), List.mem_of_getElem? (i := 1371) (by decide +kernel)⟩
theorem lw_p83 : lw_okq (⟨"LinenNameModel", "keeps", "()V"⟩, 42) := ⟨⟨by decide +kernel, by decide +kernel⟩, List.mem_of_getElem? (i := 958) (by decide +kernel), List.mem_of_getElem? (i := 1391) (by decide +kernel), List.mem_of_getElem? (i := 1392) (by decide +kernel)⟩
theorem lw_p84 : lw_okq (⟨"LinenNameModel", "passesAll", "(I)V"⟩, 42) := ⟨⟨by decide +kernel, by decide +kernel⟩, List.mem_of_getElem? (i := 958) (by decide +kernel), List.mem_of_getElem? (i := 1395) (by decide +kernel), List.mem_of_getElem? (i := 1396) (by decide +kernel)⟩
theorem lw_p85 : lw_okq (⟨"LinenNameModel", "laysBack", "()V"⟩, 42) := ⟨⟨by decide +kernel, by decide +kernel⟩, List.mem_of_getElem? (i := 958) (by decide +kernel), List.mem_of_getElem? (i := 1399) (by decide +kernel), List.mem_of_getElem? (i := 1400) (by decide +kernel)⟩
theorem lw_p86 : lw_okq (⟨"LinenNameModel", "ringOf", "(I)I"⟩, 42) := ⟨⟨by decide +kernel, by decide +kernel⟩, List.mem_of_getElem? (i := 958) (by decide +kernel), List.mem_of_getElem? (i := 1411) (by decide +kernel), List.mem_of_getElem? (i := 1412) (by decide +kernel)⟩
theorem lw_p87 : lw_okq (⟨"LinenNameModel", "rings", "()I"⟩, 42) := ⟨⟨by decide +kernel, by decide +kernel⟩, List.mem_of_getElem? (i := 958) (by decide +kernel), List.mem_of_getElem? (i := 1419) (by decide +kernel), List.mem_of_getElem? (i := 1420) (by decide +kernel)⟩
theorem lw_p88 : lw_okq (⟨"LinenNameModel", "findsOrder", "()V"⟩, 42) := ⟨⟨by decide +kernel, by decide +kernel⟩, List.mem_of_getElem? (i := 958) (by decide +kernel), List.mem_of_getElem? (i := 1433) (by decide +kernel), List.mem_of_getElem? (i := 1434) (by decide +kernel)⟩
theorem lw_p89 : lw_okq (⟨"LinenNameModel", "keepsOrder", "()V"⟩, 42) := ⟨⟨by decide +kernel, by decide +kernel⟩, List.mem_of_getElem? (i := 958) (by decide +kernel), List.mem_of_getElem? (i := 1437) (by decide +kernel), List.mem_of_getElem? (i := 1438) (by decide +kernel)⟩
theorem lw_p90 : lw_okq (⟨"LinenNameModel", "worthOfOrder", "()I"⟩, 42) := ⟨⟨by decide +kernel, by decide +kernel⟩, List.mem_of_getElem? (i := 958) (by decide +kernel), List.mem_of_getElem? (i := 1441) (by decide +kernel), List.mem_of_getElem? (i := 1442) (by decide +kernel)⟩
theorem lw_p91 : lw_okq (⟨"LinenNameModel", "letInOrder", "()I"⟩, 42) := ⟨⟨by decide +kernel, by decide +kernel⟩, List.mem_of_getElem? (i := 958) (by decide +kernel), List.mem_of_getElem? (i := 1445) (by decide +kernel), List.mem_of_getElem? (i := 1446) (by decide +kernel)⟩
theorem lw_p92 : lw_okq (⟨"LinenNameModel", "changesTo", "()I"⟩, 42) := ⟨⟨by decide +kernel, by decide +kernel⟩, List.mem_of_getElem? (i := 958) (by decide +kernel), List.mem_of_getElem? (i := 1449) (by decide +kernel), List.mem_of_getElem? (i := 1450) (by decide +kernel)⟩
theorem lw_p93 : lw_okq (⟨"LinenNameModel", "isInOrder", "(II)Z"⟩, 42) := ⟨⟨by decide +kernel, by decide +kernel⟩, List.mem_of_getElem? (i := 958) (by decide +kernel), List.mem_of_getElem? (i := 1453) (by decide +kernel), List.mem_of_getElem? (i := 1454) (by decide +kernel)⟩
theorem lw_p94 : lw_okq (⟨"LinenNameModel", "twosBy", "(ZI)I"⟩, 42) := ⟨⟨by decide +kernel, by decide +kernel⟩, List.mem_of_getElem? (i := 958) (by decide +kernel), List.mem_of_getElem? (i := 1465) (by decide +kernel), List.mem_of_getElem? (i := 1466) (by decide +kernel)⟩
theorem lw_p95 : lw_okq (⟨"LinenNameModel", "areBetterOff", "(II)Z"⟩, 42) := ⟨⟨by decide +kernel, by decide +kernel⟩, List.mem_of_getElem? (i := 958) (by decide +kernel), List.mem_of_getElem? (i := 1469) (by decide +kernel), List.mem_of_getElem? (i := 1470) (by decide +kernel)⟩
def lw_privs_6 : List (MethodName × Nat) := [(⟨"LinenNameModel", "push", "(J)V"⟩, 42), (⟨"LinenNameModel", "pop", "()J"⟩, 42), (⟨"LinenNameModel", "wears", "()V"⟩, 42), (⟨"LinenNameModel", "keeps", "()V"⟩, 42), (⟨"LinenNameModel", "passesAll", "(I)V"⟩, 42), (⟨"LinenNameModel", "laysBack", "()V"⟩, 42), (⟨"LinenNameModel", "ringOf", "(I)I"⟩, 42), (⟨"LinenNameModel", "rings", "()I"⟩, 42), (⟨"LinenNameModel", "findsOrder", "()V"⟩, 42), (⟨"LinenNameModel", "keepsOrder", "()V"⟩, 42), (⟨"LinenNameModel", "worthOfOrder", "()I"⟩, 42), (⟨"LinenNameModel", "letInOrder", "()I"⟩, 42), (⟨"LinenNameModel", "changesTo", "()I"⟩, 42), (⟨"LinenNameModel", "isInOrder", "(II)Z"⟩, 42), (⟨"LinenNameModel", "twosBy", "(ZI)I"⟩, 42), (⟨"LinenNameModel", "areBetterOff", "(II)Z"⟩, 42)]
theorem lw_r6 : ∀ q ∈ lw_privs_6, lw_okq q := List.forall_mem_cons.mpr ⟨lw_p80, List.forall_mem_cons.mpr ⟨lw_p81, List.forall_mem_cons.mpr ⟨lw_p82, List.forall_mem_cons.mpr ⟨lw_p83, List.forall_mem_cons.mpr ⟨lw_p84, List.forall_mem_cons.mpr ⟨lw_p85, List.forall_mem_cons.mpr ⟨lw_p86, List.forall_mem_cons.mpr ⟨lw_p87, List.forall_mem_cons.mpr ⟨lw_p88, List.forall_mem_cons.mpr ⟨lw_p89, List.forall_mem_cons.mpr ⟨lw_p90, List.forall_mem_cons.mpr ⟨lw_p91, List.forall_mem_cons.mpr ⟨lw_p92, List.forall_mem_cons.mpr ⟨lw_p93, List.forall_mem_cons.mpr ⟨lw_p94, List.forall_mem_cons.mpr ⟨lw_p95, fun _ h => absurd h List.not_mem_nil⟩⟩⟩⟩⟩⟩⟩⟩⟩⟩⟩⟩⟩⟩⟩⟩
theorem lw_p96 : lw_okq (⟨"LinenNameModel", "hasBy", "(II)I"⟩, 42) := ⟨⟨by decide +kernel, by decide +kernel⟩, List.mem_of_getElem? (i := 958) (by decide +kernel), List.mem_of_getElem? (i := 1473) (by decide +kernel), List.mem_of_getElem? (i := 1474) (by decide +kernel)⟩
theorem lw_p97 : lw_okq (⟨"LinenNameModel", "letIn", "(I)I"⟩, 42) := ⟨⟨by decide +kernel, by decide +kernel⟩, List.mem_of_getElem? (i := 958) (by decide +kernel), List.mem_of_getElem? (i := 1502) (by decide +kernel), List.mem_of_getElem? (i := 1503) (by decide +kernel)⟩
theorem lw_p98 : lw_okq (⟨"LinenNameModel", "wasAll", "()I"⟩, 42) := ⟨⟨by decide +kernel, by decide +kernel⟩, List.mem_of_getElem? (i := 958) (by decide +kernel), List.mem_of_getElem? (i := 1506) (by decide +kernel), List.mem_of_getElem? (i := 1507) (by decide +kernel)⟩
theorem lw_p99 : lw_okq (⟨"LinenNameModel", "plays", "(III)V"⟩, 42) := ⟨⟨by decide +kernel, by decide +kernel⟩, List.mem_of_getElem? (i := 958) (by decide +kernel), List.mem_of_getElem? (i := 1519) (by decide +kernel), List.mem_of_getElem? (i := 1520) (by decide +kernel)⟩
theorem lw_p100 : lw_okq (⟨"LinenNameModel", "beginsTurn", "(I)V"⟩, 42) := ⟨⟨by decide +kernel, by decide +kernel⟩, List.mem_of_getElem? (i := 958) (by decide +kernel), List.mem_of_getElem? (i := 1523) (by decide +kernel), List.mem_of_getElem? (i := 1524) (by decide +kernel)⟩
theorem lw_p101 : lw_okq (⟨"LinenNameModel", "doesNext", "(I)Z"⟩, 42) := ⟨⟨by decide +kernel, by decide +kernel⟩, List.mem_of_getElem? (i := 958) (by decide +kernel), List.mem_of_getElem? (i := 1527) (by decide +kernel), List.mem_of_getElem? (i := 1528) (by decide +kernel)⟩
theorem lw_p102 : lw_okq (⟨"LinenNameModel", "does", "(I)V"⟩, 42) := ⟨⟨by decide +kernel, by decide +kernel⟩, List.mem_of_getElem? (i := 958) (by decide +kernel), List.mem_of_getElem? (i := 1531) (by decide +kernel), List.mem_of_getElem? (i := 1532) (by decide +kernel)⟩
theorem lw_p103 : lw_okq (⟨"LinenNameModel", "isWorth", "(II)V"⟩, 42) := ⟨⟨by decide +kernel, by decide +kernel⟩, List.mem_of_getElem? (i := 958) (by decide +kernel), List.mem_of_getElem? (i := 1535) (by decide +kernel), List.mem_of_getElem? (i := 1536) (by decide +kernel)⟩
theorem lw_p104 : lw_okq (⟨"LinenNameModel", "fillsFits", "(I)V"⟩, 42) := ⟨⟨by decide +kernel, by decide +kernel⟩, List.mem_of_getElem? (i := 958) (by decide +kernel), List.mem_of_getElem? (i := 1547) (by decide +kernel), List.mem_of_getElem? (i := 1548) (by decide +kernel)⟩
theorem lw_p105 : lw_okq (⟨"LinenNameModel", "areNotesSo", "(I)Z"⟩, 42) := ⟨⟨by decide +kernel, by decide +kernel⟩, List.mem_of_getElem? (i := 958) (by decide +kernel), List.mem_of_getElem? (i := 1551) (by decide +kernel), List.mem_of_getElem? (i := 1552) (by decide +kernel)⟩
theorem lw_p106 : lw_okq (⟨"LinenNameModel", "alikeAt", "(I)I"⟩, 42) := ⟨⟨by decide +kernel, by decide +kernel⟩, List.mem_of_getElem? (i := 958) (by decide +kernel), List.mem_of_getElem? (i := 1559) (by decide +kernel), List.mem_of_getElem? (i := 1560) (by decide +kernel)⟩
theorem lw_p107 : lw_okq (⟨"LinenNameModel", "draw", "(I)I"⟩, 42) := ⟨⟨by decide +kernel, by decide +kernel⟩, List.mem_of_getElem? (i := 958) (by decide +kernel), List.mem_of_getElem? (i := 1572) (by decide +kernel), List.mem_of_getElem? (i := 1573) (by decide +kernel)⟩
theorem lw_p108 : lw_okq (⟨"LinenNameModel", "washes", "()V"⟩, 42) := ⟨⟨by decide +kernel, by decide +kernel⟩, List.mem_of_getElem? (i := 958) (by decide +kernel), List.mem_of_getElem? (i := 1580) (by decide +kernel), List.mem_of_getElem? (i := 1581) (by decide +kernel)⟩
def lw_privs_7 : List (MethodName × Nat) := [(⟨"LinenNameModel", "hasBy", "(II)I"⟩, 42), (⟨"LinenNameModel", "letIn", "(I)I"⟩, 42), (⟨"LinenNameModel", "wasAll", "()I"⟩, 42), (⟨"LinenNameModel", "plays", "(III)V"⟩, 42), (⟨"LinenNameModel", "beginsTurn", "(I)V"⟩, 42), (⟨"LinenNameModel", "doesNext", "(I)Z"⟩, 42), (⟨"LinenNameModel", "does", "(I)V"⟩, 42), (⟨"LinenNameModel", "isWorth", "(II)V"⟩, 42), (⟨"LinenNameModel", "fillsFits", "(I)V"⟩, 42), (⟨"LinenNameModel", "areNotesSo", "(I)Z"⟩, 42), (⟨"LinenNameModel", "alikeAt", "(I)I"⟩, 42), (⟨"LinenNameModel", "draw", "(I)I"⟩, 42), (⟨"LinenNameModel", "washes", "()V"⟩, 42)]
theorem lw_r7 : ∀ q ∈ lw_privs_7, lw_okq q := List.forall_mem_cons.mpr ⟨lw_p96, List.forall_mem_cons.mpr ⟨lw_p97, List.forall_mem_cons.mpr ⟨lw_p98, List.forall_mem_cons.mpr ⟨lw_p99, List.forall_mem_cons.mpr ⟨lw_p100, List.forall_mem_cons.mpr ⟨lw_p101, List.forall_mem_cons.mpr ⟨lw_p102, List.forall_mem_cons.mpr ⟨lw_p103, List.forall_mem_cons.mpr ⟨lw_p104, List.forall_mem_cons.mpr ⟨lw_p105, List.forall_mem_cons.mpr ⟨lw_p106, List.forall_mem_cons.mpr ⟨lw_p107, List.forall_mem_cons.mpr ⟨lw_p108, fun _ h => absurd h List.not_mem_nil⟩⟩⟩⟩⟩⟩⟩⟩⟩⟩⟩⟩⟩
def lw_privs : List (MethodName × Nat) := lw_privs_1 ++ (lw_privs_2 ++ (lw_privs_3 ++ (lw_privs_4 ++ (lw_privs_5 ++ (lw_privs_6 ++ (lw_privs_7))))))
def lw_tbl : List Cond := k2_sels lw_privs ++ tables_1
theorem lw_privs_ok : ∀ q ∈ lw_privs, lw_okq q := by
  show ∀ q ∈ lw_privs_1 ++ (lw_privs_2 ++ (lw_privs_3 ++ (lw_privs_4 ++ (lw_privs_5 ++ (lw_privs_6 ++ (lw_privs_7)))))), lw_okq q
  exact List.forall_mem_append.mpr ⟨lw_r1, List.forall_mem_append.mpr ⟨lw_r2, List.forall_mem_append.mpr ⟨lw_r3, List.forall_mem_append.mpr ⟨lw_r4, List.forall_mem_append.mpr ⟨lw_r5, List.forall_mem_append.mpr ⟨lw_r6, lw_r7⟩⟩⟩⟩⟩⟩
-- ===== end of PART A; then your names; then what follows =====
end
section
def RX0 : String := "LinenName$Contest"
def TX0 : u_T := fun k => match k with
  | 0 => ("LinenName$Contest", "linen", "LLinenName$Linen;", true)
  | 1 => ("LinenName$Contest", "lodgers", "I", false)
  | 2 => ("LinenName$Contest", "one", "I", false)
  | 3 => ("LinenName$Contest", "other", "I", false)
  | 4 => ("LinenName$Contest", "firstBed", "I", false)
  | _ => ("LinenName$Contest", "secondBed", "I", false)
def tyX0 : Nat → FieldType := fun k => match k with
  | 0 => .object "LinenName$Linen"
  | 1 => .int
  | 2 => .int
  | 3 => .int
  | 4 => .int
  | _ => .int
theorem nmX0 : ∀ a, a < 6 → ∀ b, b < 6 → a ≠ b → (TX0 a).2.1 ≠ (TX0 b).2.1 := by decide +kernel
theorem tyX0_ok : ∀ k, k < 6 → parseFieldDescriptor (TX0 k).2.2.1 = some (tyX0 k) := by decide +kernel
abbrev cX0_init : ByteArray := prog_2_method_1_code
def yX0_init : MethodName := ⟨RX0, "<init>", "()V"⟩
abbrev cX0_play : ByteArray := prog_2_method_2_code
def yX0_play : MethodName := ⟨RX0, "play", "(ILLinenName$Linen;III)I"⟩
abbrev cX0_worth : ByteArray := prog_2_method_3_code
def yX0_worth : MethodName := ⟨RX0, "worth", "(II)I"⟩
abbrev cX0_worthBehind : ByteArray := prog_2_method_4_code
def yX0_worthBehind : MethodName := ⟨RX0, "worthBehind", "(IIII)I"⟩
def RX1 : String := "LinenName$House"
def TX1 : u_T := fun k => match k with
  | 0 => ("LinenName$House", "stands", "Z", false)
  | 1 => ("LinenName$House", "lasts", "I", false)
  | 2 => ("LinenName$House", "starch", "I", false)
  | 3 => ("LinenName$House", "lodgers", "I", false)
  | 4 => ("LinenName$House", "mixes", "I", false)
  | 5 => ("LinenName$House", "grades", "[I", true)
  | 6 => ("LinenName$House", "wants", "[I", true)
  | 7 => ("LinenName$House", "mixWeeks", "[I", true)
  | 8 => ("LinenName$House", "mixOnes", "[I", true)
  | _ => ("LinenName$House", "mixOthers", "[I", true)
def tyX1 : Nat → FieldType := fun k => match k with
  | 0 => .boolean
  | 1 => .int
  | 2 => .int
  | 3 => .int
  | 4 => .int
  | 5 => .array .int
  | 6 => .array .int
  | 7 => .array .int
  | 8 => .array .int
  | _ => .array .int
theorem nmX1 : ∀ a, a < 10 → ∀ b, b < 10 → a ≠ b → (TX1 a).2.1 ≠ (TX1 b).2.1 := by decide +kernel
theorem tyX1_ok : ∀ k, k < 10 → parseFieldDescriptor (TX1 k).2.2.1 = some (tyX1 k) := by decide +kernel
abbrev cX1_init : ByteArray := prog_3_method_1_code
def yX1_init : MethodName := ⟨RX1, "<init>", "()V"⟩
abbrev cX1_clear : ByteArray := prog_3_method_2_code
def yX1_clear : MethodName := ⟨RX1, "clear", "()V"⟩
abbrev cX1_copyFrom : ByteArray := prog_3_method_3_code
def yX1_copyFrom : MethodName := ⟨RX1, "copyFrom", "(LLinenName$House;)V"⟩
abbrev cX1_lay : ByteArray := prog_3_method_4_code
def yX1_lay : MethodName := ⟨RX1, "lay", "(LLinenName$Linen;)V"⟩
def RX2 : String := "LinenName$HouseReader"
def TX2 : u_T := fun k => match k with
  | _ => ("", "", "", false)
def tyX2 : Nat → FieldType := fun k => match k with
  | _ => .int
theorem nmX2 : ∀ a, a < 0 → ∀ b, b < 0 → a ≠ b → (TX2 a).2.1 ≠ (TX2 b).2.1 := by decide +kernel
theorem tyX2_ok : ∀ k, k < 0 → parseFieldDescriptor (TX2 k).2.2.1 = some (tyX2 k) := by decide +kernel
abbrev cX2_init : ByteArray := prog_4_method_1_code
def yX2_init : MethodName := ⟨RX2, "<init>", "()V"⟩
abbrev cX2_reads : ByteArray := prog_4_method_2_code
def yX2_reads : MethodName := ⟨RX2, "reads", "(LLinenName$Tape;LLinenName$House;)Z"⟩
abbrev cX2_readsClause : ByteArray := prog_4_method_3_code
def yX2_readsClause : MethodName := ⟨RX2, "readsClause", "(LLinenName$Tape;LLinenName$House;I)Z"⟩
abbrev cX2_readsHouse : ByteArray := prog_4_method_4_code
def yX2_readsHouse : MethodName := ⟨RX2, "readsHouse", "(LLinenName$Tape;LLinenName$House;)Z"⟩
abbrev cX2_readsLodger : ByteArray := prog_4_method_5_code
def yX2_readsLodger : MethodName := ⟨RX2, "readsLodger", "(LLinenName$Tape;LLinenName$House;)Z"⟩
abbrev cX2_readsMix : ByteArray := prog_4_method_6_code
def yX2_readsMix : MethodName := ⟨RX2, "readsMix", "(LLinenName$Tape;LLinenName$House;)Z"⟩
def RX3 : String := "LinenName$Image"
def TX3 : u_T := fun k => match k with
  | 0 => ("LinenName$Image", "house", "LLinenName$House;", false)
  | 1 => ("LinenName$Image", "linen", "LLinenName$Linen;", true)
  | 2 => ("LinenName$Image", "noteWeeks", "[I", true)
  | 3 => ("LinenName$Image", "noteBeds", "[I", true)
  | 4 => ("LinenName$Image", "noteSheets", "[I", true)
  | 5 => ("LinenName$Image", "notes", "I", false)
  | 6 => ("LinenName$Image", "inForce", "I", false)
  | 7 => ("LinenName$Image", "x", "I", false)
  | _ => ("LinenName$Image", "made", "Z", false)
def tyX3 : Nat → FieldType := fun k => match k with
  | 0 => .object "LinenName$House"
  | 1 => .object "LinenName$Linen"
  | 2 => .array .int
  | 3 => .array .int
  | 4 => .array .int
  | 5 => .int
  | 6 => .int
  | 7 => .int
  | _ => .boolean
theorem nmX3 : ∀ a, a < 9 → ∀ b, b < 9 → a ≠ b → (TX3 a).2.1 ≠ (TX3 b).2.1 := by decide +kernel
theorem tyX3_ok : ∀ k, k < 9 → parseFieldDescriptor (TX3 k).2.2.1 = some (tyX3 k) := by decide +kernel
abbrev cX3_init : ByteArray := prog_5_method_1_code
def yX3_init : MethodName := ⟨RX3, "<init>", "()V"⟩
abbrev cX3_copyFrom : ByteArray := prog_5_method_2_code
def yX3_copyFrom : MethodName := ⟨RX3, "copyFrom", "(LLinenName$Image;)V"⟩
abbrev cX3_lastNoted : ByteArray := prog_5_method_3_code
def yX3_lastNoted : MethodName := ⟨RX3, "lastNoted", "()I"⟩
abbrev cX3_contradicts : ByteArray := prog_5_method_4_code
def yX3_contradicts : MethodName := ⟨RX3, "contradicts", "(ILLinenName$Linen;)Z"⟩
def RX4 : String := "LinenName$Laundry"
def TX4 : u_T := fun k => match k with
  | 0 => ("LinenName$Laundry", "words", "[J", true)
  | _ => ("LinenName$Laundry", "stack", "[J", true)
def tyX4 : Nat → FieldType := fun k => match k with
  | 0 => .array .long
  | _ => .array .long
theorem nmX4 : ∀ a, a < 2 → ∀ b, b < 2 → a ≠ b → (TX4 a).2.1 ≠ (TX4 b).2.1 := by decide +kernel
theorem tyX4_ok : ∀ k, k < 2 → parseFieldDescriptor (TX4 k).2.2.1 = some (tyX4 k) := by decide +kernel
abbrev cX4_init : ByteArray := prog_6_method_1_code
def yX4_init : MethodName := ⟨RX4, "<init>", "()V"⟩
abbrev cX4_passWeek : ByteArray := prog_6_method_2_code
def yX4_passWeek : MethodName := ⟨RX4, "passWeek", "(LLinenName$House;LLinenName$Linen;LLinenName$Rule;I)I"⟩
abbrev cX4_mixUp : ByteArray := prog_6_method_3_code
def yX4_mixUp : MethodName := ⟨RX4, "mixUp", "(LLinenName$House;LLinenName$Linen;I)V"⟩
abbrev cX4_fold : ByteArray := prog_6_method_4_code
def yX4_fold : MethodName := ⟨RX4, "fold", "(LLinenName$House;LLinenName$Linen;LLinenName$Rule;I)V"⟩
abbrev cX4_setWords : ByteArray := prog_6_method_5_code
def yX4_setWords : MethodName := ⟨RX4, "setWords", "(LLinenName$House;LLinenName$Linen;II)V"⟩
def RX5 : String := "LinenName$Linen"
def TX5 : u_T := fun k => match k with
  | 0 => ("LinenName$Linen", "on", "[I", true)
  | 1 => ("LinenName$Linen", "grade", "[I", true)
  | 2 => ("LinenName$Linen", "worn", "[I", true)
  | 3 => ("LinenName$Linen", "was", "[I", true)
  | _ => ("LinenName$Linen", "week", "I", false)
def tyX5 : Nat → FieldType := fun k => match k with
  | 0 => .array .int
  | 1 => .array .int
  | 2 => .array .int
  | 3 => .array .int
  | _ => .int
theorem nmX5 : ∀ a, a < 5 → ∀ b, b < 5 → a ≠ b → (TX5 a).2.1 ≠ (TX5 b).2.1 := by decide +kernel
theorem tyX5_ok : ∀ k, k < 5 → parseFieldDescriptor (TX5 k).2.2.1 = some (tyX5 k) := by decide +kernel
abbrev cX5_init : ByteArray := prog_7_method_1_code
def yX5_init : MethodName := ⟨RX5, "<init>", "()V"⟩
abbrev cX5_copyFrom : ByteArray := prog_7_method_2_code
def yX5_copyFrom : MethodName := ⟨RX5, "copyFrom", "(LLinenName$Linen;)V"⟩
abbrev cX5_change : ByteArray := prog_7_method_3_code
def yX5_change : MethodName := ⟨RX5, "change", "(II)V"⟩
abbrev cX5_bedOf : ByteArray := prog_7_method_4_code
def yX5_bedOf : MethodName := ⟨RX5, "bedOf", "(II)I"⟩
abbrev cX5_isLet : ByteArray := prog_7_method_5_code
def yX5_isLet : MethodName := ⟨RX5, "isLet", "(LLinenName$House;I)Z"⟩
abbrev cX5_letBits : ByteArray := prog_7_method_6_code
def yX5_letBits : MethodName := ⟨RX5, "letBits", "(LLinenName$House;)I"⟩
abbrev cX5_homeBits : ByteArray := prog_7_method_7_code
def yX5_homeBits : MethodName := ⟨RX5, "homeBits", "(I)I"⟩
abbrev cX5_allWas : ByteArray := prog_7_method_8_code
def yX5_allWas : MethodName := ⟨RX5, "allWas", "(I)I"⟩
abbrev cX5_ringBits : ByteArray := prog_7_method_9_code
def yX5_ringBits : MethodName := ⟨RX5, "ringBits", "(I)I"⟩
abbrev cX5_changesHome : ByteArray := prog_7_method_10_code
def yX5_changesHome : MethodName := ⟨RX5, "changesHome", "(I)I"⟩
abbrev cX5_endWeek : ByteArray := prog_7_method_11_code
def yX5_endWeek : MethodName := ⟨RX5, "endWeek", "(LLinenName$House;I)V"⟩
def RX6 : String := "LinenName$Orders"
def TX6 : u_T := fun k => match k with
  | 0 => ("LinenName$Orders", "order", "[I", true)
  | 1 => ("LinenName$Orders", "mostLet", "[I", true)
  | 2 => ("LinenName$Orders", "joined", "[[I", true)
  | 3 => ("LinenName$Orders", "house", "LLinenName$House;", false)
  | 4 => ("LinenName$Orders", "linen", "LLinenName$Linen;", false)
  | _ => ("LinenName$Orders", "mustBeLet", "I", false)
def tyX6 : Nat → FieldType := fun k => match k with
  | 0 => .array .int
  | 1 => .array .int
  | 2 => .array (.array .int)
  | 3 => .object "LinenName$House"
  | 4 => .object "LinenName$Linen"
  | _ => .int
theorem nmX6 : ∀ a, a < 6 → ∀ b, b < 6 → a ≠ b → (TX6 a).2.1 ≠ (TX6 b).2.1 := by decide +kernel
theorem tyX6_ok : ∀ k, k < 6 → parseFieldDescriptor (TX6 k).2.2.1 = some (tyX6 k) := by decide +kernel
abbrev cX6_init : ByteArray := prog_8_method_1_code
def yX6_init : MethodName := ⟨RX6, "<init>", "()V"⟩
abbrev cX6_tell : ByteArray := prog_8_method_2_code
def yX6_tell : MethodName := ⟨RX6, "tell", "(III)I"⟩
abbrev cX6_findMost : ByteArray := prog_8_method_3_code
def yX6_findMost : MethodName := ⟨RX6, "findMost", "(LLinenName$House;LLinenName$Linen;)I"⟩
abbrev cX6_bestSheet : ByteArray := prog_8_method_4_code
def yX6_bestSheet : MethodName := ⟨RX6, "bestSheet", "(II)I"⟩
abbrev cX6_letWith : ByteArray := prog_8_method_5_code
def yX6_letWith : MethodName := ⟨RX6, "letWith", "(III)I"⟩
abbrev cX6_findTold : ByteArray := prog_8_method_6_code
def yX6_findTold : MethodName := ⟨RX6, "findTold", "(LLinenName$House;LLinenName$Linen;I)I"⟩
abbrev cX6_laysFrom : ByteArray := prog_8_method_7_code
def yX6_laysFrom : MethodName := ⟨RX6, "laysFrom", "(III)Z"⟩
abbrev cX6_lays : ByteArray := prog_8_method_8_code
def yX6_lays : MethodName := ⟨RX6, "lays", "(IIII)Z"⟩
abbrev cX6_join : ByteArray := prog_8_method_9_code
def yX6_join : MethodName := ⟨RX6, "join", "(II)I"⟩
def RX7 : String := "LinenName$Past"
def TX7 : u_T := fun k => match k with
  | 0 => ("LinenName$Past", "kept", "[LLinenName$Linen;", true)
  | 1 => ("LinenName$Past", "newest", "I", false)
  | _ => ("LinenName$Past", "size", "I", false)
def tyX7 : Nat → FieldType := fun k => match k with
  | 0 => .array (.object "LinenName$Linen")
  | 1 => .int
  | _ => .int
theorem nmX7 : ∀ a, a < 3 → ∀ b, b < 3 → a ≠ b → (TX7 a).2.1 ≠ (TX7 b).2.1 := by decide +kernel
theorem tyX7_ok : ∀ k, k < 3 → parseFieldDescriptor (TX7 k).2.2.1 = some (tyX7 k) := by decide +kernel
abbrev cX7_init : ByteArray := prog_9_method_1_code
def yX7_init : MethodName := ⟨RX7, "<init>", "()V"⟩
abbrev cX7_keep : ByteArray := prog_9_method_2_code
def yX7_keep : MethodName := ⟨RX7, "keep", "(LLinenName$Linen;)V"⟩
abbrev cX7_bringBack : ByteArray := prog_9_method_3_code
def yX7_bringBack : MethodName := ⟨RX7, "bringBack", "(LLinenName$Linen;)V"⟩
abbrev cX7_forget : ByteArray := prog_9_method_4_code
def yX7_forget : MethodName := ⟨RX7, "forget", "()V"⟩
def RX8 : String := "LinenName$Rule"
def TX8 : u_T := fun k => match k with
  | 0 => ("LinenName$Rule", "code", "[I", true)
  | _ => ("LinenName$Rule", "ends", "[I", true)
def tyX8 : Nat → FieldType := fun k => match k with
  | 0 => .array .int
  | _ => .array .int
theorem nmX8 : ∀ a, a < 2 → ∀ b, b < 2 → a ≠ b → (TX8 a).2.1 ≠ (TX8 b).2.1 := by decide +kernel
theorem tyX8_ok : ∀ k, k < 2 → parseFieldDescriptor (TX8 k).2.2.1 = some (tyX8 k) := by decide +kernel
abbrev cX8_init : ByteArray := prog_10_method_1_code
def yX8_init : MethodName := ⟨RX8, "<init>", "([I[I)V"⟩
abbrev cX8_worth : ByteArray := prog_10_method_2_code
def yX8_worth : MethodName := ⟨RX8, "worth", "([J[J)J"⟩
abbrev cX8_run : ByteArray := prog_10_method_3_code
def yX8_run : MethodName := ⟨RX8, "run", "(II[J[J)J"⟩
abbrev cX8_joined : ByteArray := prog_10_method_4_code
def yX8_joined : MethodName := ⟨RX8, "joined", "(IJJ)J"⟩
def RX9 : String := "LinenName$RuleReader"
def TX9 : u_T := fun k => match k with
  | 0 => ("LinenName$RuleReader", "code", "[I", true)
  | 1 => ("LinenName$RuleReader", "ends", "[I", true)
  | 2 => ("LinenName$RuleReader", "tape", "LLinenName$Tape;", false)
  | 3 => ("LinenName$RuleReader", "size", "I", false)
  | _ => ("LinenName$RuleReader", "counted", "I", false)
def tyX9 : Nat → FieldType := fun k => match k with
  | 0 => .array .int
  | 1 => .array .int
  | 2 => .object "LinenName$Tape"
  | 3 => .int
  | _ => .int
theorem nmX9 : ∀ a, a < 5 → ∀ b, b < 5 → a ≠ b → (TX9 a).2.1 ≠ (TX9 b).2.1 := by decide +kernel
theorem tyX9_ok : ∀ k, k < 5 → parseFieldDescriptor (TX9 k).2.2.1 = some (tyX9 k) := by decide +kernel
abbrev cX9_init : ByteArray := prog_11_method_1_code
def yX9_init : MethodName := ⟨RX9, "<init>", "()V"⟩
abbrev cX9_read : ByteArray := prog_11_method_2_code
def yX9_read : MethodName := ⟨RX9, "read", "(LLinenName$Tape;)LLinenName$Rule;"⟩
abbrev cX9_readsClause : ByteArray := prog_11_method_3_code
def yX9_readsClause : MethodName := ⟨RX9, "readsClause", "(I)Z"⟩
abbrev cX9_readsTest : ByteArray := prog_11_method_4_code
def yX9_readsTest : MethodName := ⟨RX9, "readsTest", "(I)Z"⟩
abbrev cX9_readsPart : ByteArray := prog_11_method_5_code
def yX9_readsPart : MethodName := ⟨RX9, "readsPart", "(I)Z"⟩
abbrev cX9_readsFact : ByteArray := prog_11_method_6_code
def yX9_readsFact : MethodName := ⟨RX9, "readsFact", "(I)Z"⟩
abbrev cX9_readsWithin : ByteArray := prog_11_method_7_code
def yX9_readsWithin : MethodName := ⟨RX9, "readsWithin", "(ZI)Z"⟩
abbrev cX9_readsSum : ByteArray := prog_11_method_8_code
def yX9_readsSum : MethodName := ⟨RX9, "readsSum", "()Z"⟩
abbrev cX9_readsValue : ByteArray := prog_11_method_9_code
def yX9_readsValue : MethodName := ⟨RX9, "readsValue", "()Z"⟩
abbrev cX9_writes : ByteArray := prog_11_method_10_code
def yX9_writes : MethodName := ⟨RX9, "writes", "(I)Z"⟩
abbrev cX9_comparisonOf : ByteArray := prog_11_method_11_code
def yX9_comparisonOf : MethodName := ⟨RX9, "comparisonOf", "(I)I"⟩
abbrev cX9_operationOf : ByteArray := prog_11_method_12_code
def yX9_operationOf : MethodName := ⟨RX9, "operationOf", "(I)I"⟩
def RX10 : String := "LinenName$Tape"
def TX10 : u_T := fun k => match k with
  | 0 => ("LinenName$Tape", "bytes", "[B", true)
  | 1 => ("LinenName$Tape", "size", "I", false)
  | 2 => ("LinenName$Tape", "fault", "I", false)
  | 3 => ("LinenName$Tape", "kind", "I", false)
  | 4 => ("LinenName$Tape", "start", "I", false)
  | _ => ("LinenName$Tape", "next", "I", false)
def tyX10 : Nat → FieldType := fun k => match k with
  | 0 => .array .byte
  | 1 => .int
  | 2 => .int
  | 3 => .int
  | 4 => .int
  | _ => .int
theorem nmX10 : ∀ a, a < 6 → ∀ b, b < 6 → a ≠ b → (TX10 a).2.1 ≠ (TX10 b).2.1 := by decide +kernel
theorem tyX10_ok : ∀ k, k < 6 → parseFieldDescriptor (TX10 k).2.2.1 = some (tyX10 k) := by decide +kernel
abbrev cX10_init : ByteArray := prog_12_method_1_code
def yX10_init : MethodName := ⟨RX10, "<init>", "()V"⟩
abbrev cX10_hasRoom : ByteArray := prog_12_method_2_code
def yX10_hasRoom : MethodName := ⟨RX10, "hasRoom", "()Z"⟩
abbrev cX10_put : ByteArray := prog_12_method_3_code
def yX10_put : MethodName := ⟨RX10, "put", "(I)V"⟩
abbrev cX10_rewind : ByteArray := prog_12_method_4_code
def yX10_rewind : MethodName := ⟨RX10, "rewind", "()V"⟩
abbrev cX10_step : ByteArray := prog_12_method_5_code
def yX10_step : MethodName := ⟨RX10, "step", "()V"⟩
abbrev cX10_isWord : ByteArray := prog_12_method_6_code
def yX10_isWord : MethodName := ⟨RX10, "isWord", "(Ljava/lang/String;)Z"⟩
abbrev cX10_isWordIn : ByteArray := prog_12_method_7_code
def yX10_isWordIn : MethodName := ⟨RX10, "isWordIn", "(Ljava/lang/String;II)Z"⟩
abbrev cX10_isTooLong : ByteArray := prog_12_method_8_code
def yX10_isTooLong : MethodName := ⟨RX10, "isTooLong", "()Z"⟩
abbrev cX10_number : ByteArray := prog_12_method_9_code
def yX10_number : MethodName := ⟨RX10, "number", "()I"⟩
abbrev cX10_takeNumber : ByteArray := prog_12_method_10_code
def yX10_takeNumber : MethodName := ⟨RX10, "takeNumber", "(II)I"⟩
abbrev cX10_fail : ByteArray := prog_12_method_11_code
def yX10_fail : MethodName := ⟨RX10, "fail", "(I)Z"⟩
abbrev cX10_byteAt : ByteArray := prog_12_method_12_code
def yX10_byteAt : MethodName := ⟨RX10, "byteAt", "(I)I"⟩
abbrev cX10_behind : ByteArray := prog_12_method_13_code
def yX10_behind : MethodName := ⟨RX10, "behind", "(III)I"⟩
def RX11 : String := "LinenName"
def TX11 : u_T := fun k => match k with
  | 0 => ("LinenName", "tape", "LLinenName$Tape;", true)
  | 1 => ("LinenName", "houseReader", "LLinenName$HouseReader;", true)
  | 2 => ("LinenName", "ruleReader", "LLinenName$RuleReader;", true)
  | 3 => ("LinenName", "rules", "[LLinenName$Rule;", true)
  | 4 => ("LinenName", "now", "LLinenName$Image;", true)
  | 5 => ("LinenName", "images", "[LLinenName$Image;", true)
  | 6 => ("LinenName", "past", "LLinenName$Past;", true)
  | 7 => ("LinenName", "laundry", "LLinenName$Laundry;", true)
  | 8 => ("LinenName", "orders", "LLinenName$Orders;", true)
  | 9 => ("LinenName", "contest", "LLinenName$Contest;", true)
  | 10 => ("LinenName", "asked", "LLinenName$Linen;", true)
  | 11 => ("LinenName", "tally", "[I", true)
  | 12 => ("LinenName", "ruleCount", "I", false)
  | _ => ("LinenName", "draft", "LLinenName$House;", false)
def tyX11 : Nat → FieldType := fun k => match k with
  | 0 => .object "LinenName$Tape"
  | 1 => .object "LinenName$HouseReader"
  | 2 => .object "LinenName$RuleReader"
  | 3 => .array (.object "LinenName$Rule")
  | 4 => .object "LinenName$Image"
  | 5 => .array (.object "LinenName$Image")
  | 6 => .object "LinenName$Past"
  | 7 => .object "LinenName$Laundry"
  | 8 => .object "LinenName$Orders"
  | 9 => .object "LinenName$Contest"
  | 10 => .object "LinenName$Linen"
  | 11 => .array .int
  | 12 => .int
  | _ => .object "LinenName$House"
theorem nmX11 : ∀ a, a < 14 → ∀ b, b < 14 → a ≠ b → (TX11 a).2.1 ≠ (TX11 b).2.1 := by decide +kernel
theorem tyX11_ok : ∀ k, k < 14 → parseFieldDescriptor (TX11 k).2.2.1 = some (tyX11 k) := by decide +kernel
abbrev cX11_init : ByteArray := prog_1_method_1_code
def yX11_init : MethodName := ⟨RX11, "<init>", "()V"⟩
abbrev cX11_feed : ByteArray := prog_1_method_2_code
def yX11_feed : MethodName := ⟨RX11, "feed", "(IIIII)I"⟩
abbrev cX11_end : ByteArray := prog_1_method_3_code
def yX11_end : MethodName := ⟨RX11, "end", "(I)I"⟩
abbrev cX11_house : ByteArray := prog_1_method_4_code
def yX11_house : MethodName := ⟨RX11, "house", "()I"⟩
abbrev cX11_rule : ByteArray := prog_1_method_5_code
def yX11_rule : MethodName := ⟨RX11, "rule", "()I"⟩
abbrev cX11_force : ByteArray := prog_1_method_6_code
def yX11_force : MethodName := ⟨RX11, "force", "(I)I"⟩
abbrev cX11_lodger : ByteArray := prog_1_method_7_code
def yX11_lodger : MethodName := ⟨RX11, "lodger", "(II)I"⟩
abbrev cX11_sheet : ByteArray := prog_1_method_8_code
def yX11_sheet : MethodName := ⟨RX11, "sheet", "(II)I"⟩
abbrev cX11_count : ByteArray := prog_1_method_9_code
def yX11_count : MethodName := ⟨RX11, "count", "(I)I"⟩
abbrev cX11_week : ByteArray := prog_1_method_10_code
def yX11_week : MethodName := ⟨RX11, "week", "()I"⟩
abbrev cX11_swap : ByteArray := prog_1_method_11_code
def yX11_swap : MethodName := ⟨RX11, "swap", "(II)I"⟩
abbrev cX11_starch : ByteArray := prog_1_method_12_code
def yX11_starch : MethodName := ⟨RX11, "starch", "(I)I"⟩
abbrev cX11_darn : ByteArray := prog_1_method_13_code
def yX11_darn : MethodName := ⟨RX11, "darn", "(I)I"⟩
abbrev cX11_undo : ByteArray := prog_1_method_14_code
def yX11_undo : MethodName := ⟨RX11, "undo", "()I"⟩
abbrev cX11_ahead : ByteArray := prog_1_method_15_code
def yX11_ahead : MethodName := ⟨RX11, "ahead", "(III)I"⟩
abbrev cX11_lets : ByteArray := prog_1_method_16_code
def yX11_lets : MethodName := ⟨RX11, "lets", "(II)I"⟩
abbrev cX11_turned : ByteArray := prog_1_method_17_code
def yX11_turned : MethodName := ⟨RX11, "turned", "(I)I"⟩
abbrev cX11_thin : ByteArray := prog_1_method_18_code
def yX11_thin : MethodName := ⟨RX11, "thin", "()I"⟩
abbrev cX11_home : ByteArray := prog_1_method_19_code
def yX11_home : MethodName := ⟨RX11, "home", "()I"⟩
abbrev cX11_carves : ByteArray := prog_1_method_20_code
def yX11_carves : MethodName := ⟨RX11, "carves", "(II)I"⟩
abbrev cX11_lock : ByteArray := prog_1_method_21_code
def yX11_lock : MethodName := ⟨RX11, "lock", "(II)I"⟩
abbrev cX11_laundries : ByteArray := prog_1_method_22_code
def yX11_laundries : MethodName := ⟨RX11, "laundries", "(IIII)I"⟩
abbrev cX11_seed : ByteArray := prog_1_method_23_code
def yX11_seed : MethodName := ⟨RX11, "seed", "(I)I"⟩
abbrev cX11_ring : ByteArray := prog_1_method_24_code
def yX11_ring : MethodName := ⟨RX11, "ring", "(II)I"⟩
abbrev cX11_right : ByteArray := prog_1_method_25_code
def yX11_right : MethodName := ⟨RX11, "right", "(I)I"⟩
abbrev cX11_even : ByteArray := prog_1_method_26_code
def yX11_even : MethodName := ⟨RX11, "even", "()I"⟩
abbrev cX11_twos : ByteArray := prog_1_method_27_code
def yX11_twos : MethodName := ⟨RX11, "twos", "(I)I"⟩
abbrev cX11_nearer : ByteArray := prog_1_method_28_code
def yX11_nearer : MethodName := ⟨RX11, "nearer", "(I)I"⟩
abbrev cX11_most : ByteArray := prog_1_method_29_code
def yX11_most : MethodName := ⟨RX11, "most", "(I)I"⟩
abbrev cX11_told : ByteArray := prog_1_method_30_code
def yX11_told : MethodName := ⟨RX11, "told", "(II)I"⟩
abbrev cX11_pence : ByteArray := prog_1_method_31_code
def yX11_pence : MethodName := ⟨RX11, "pence", "(II)I"⟩
abbrev cX11_game : ByteArray := prog_1_method_32_code
def yX11_game : MethodName := ⟨RX11, "game", "(IIII)I"⟩
abbrev cX11_note : ByteArray := prog_1_method_33_code
def yX11_note : MethodName := ⟨RX11, "note", "(III)I"⟩
abbrev cX11_ruled : ByteArray := prog_1_method_34_code
def yX11_ruled : MethodName := ⟨RX11, "ruled", "(I)I"⟩
abbrev cX11_look : ByteArray := prog_1_method_35_code
def yX11_look : MethodName := ⟨RX11, "look", "(II)I"⟩
abbrev cX11_image : ByteArray := prog_1_method_36_code
def yX11_image : MethodName := ⟨RX11, "image", "(I)I"⟩
abbrev cX11_back : ByteArray := prog_1_method_37_code
def yX11_back : MethodName := ⟨RX11, "back", "(I)I"⟩
abbrev cX11_isWithin : ByteArray := prog_1_method_38_code
def yX11_isWithin : MethodName := ⟨RX11, "isWithin", "(III)Z"⟩
abbrev cX11_isLodger : ByteArray := prog_1_method_39_code
def yX11_isLodger : MethodName := ⟨RX11, "isLodger", "(I)Z"⟩
abbrev cX11_ruleOf : ByteArray := prog_1_method_40_code
def yX11_ruleOf : MethodName := ⟨RX11, "ruleOf", "(I)LLinenName$Rule;"⟩
abbrev cX11_goOn : ByteArray := prog_1_method_41_code
def yX11_goOn : MethodName := ⟨RX11, "goOn", "(II)V"⟩
abbrev cX11_firstOfPairs : ByteArray := prog_1_method_42_code
def yX11_firstOfPairs : MethodName := ⟨RX11, "firstOfPairs", "(IZ)I"⟩
abbrev cX11_betterForBoth : ByteArray := prog_1_method_43_code
def yX11_betterForBoth : MethodName := ⟨RX11, "betterForBoth", "(II)Z"⟩
abbrev cX11_whatOneHas : ByteArray := prog_1_method_44_code
def yX11_whatOneHas : MethodName := ⟨RX11, "whatOneHas", "(II)I"⟩
abbrev cX11_comesNearer : ByteArray := prog_1_method_45_code
def yX11_comesNearer : MethodName := ⟨RX11, "comesNearer", "(II)Z"⟩
abbrev cX11_nextX : ByteArray := prog_1_method_46_code
def yX11_nextX : MethodName := ⟨RX11, "nextX", "(I)I"⟩
abbrev cX11_drawOf : ByteArray := prog_1_method_47_code
def yX11_drawOf : MethodName := ⟨RX11, "drawOf", "(I)I"⟩
abbrev cX11_mixByDraws : ByteArray := prog_1_method_48_code
def yX11_mixByDraws : MethodName := ⟨RX11, "mixByDraws", "(II)I"⟩
abbrev cX11_bearsOutNotes : ByteArray := prog_1_method_49_code
def yX11_bearsOutNotes : MethodName := ⟨RX11, "bearsOutNotes", "(I)Z"⟩
abbrev cX11_tallySheets : ByteArray := prog_1_method_50_code
def yX11_tallySheets : MethodName := ⟨RX11, "tallySheets", "(II)V"⟩
abbrev cX11_mostAlike : ByteArray := prog_1_method_51_code
def yX11_mostAlike : MethodName := ⟨RX11, "mostAlike", "(I)I"⟩
def RX12 : String := "LinenNameModel"
def TX12 : u_T := fun k => match k with
  | 0 => ("LinenNameModel", "tape", "[B", true)
  | 1 => ("LinenNameModel", "taped", "I", false)
  | 2 => ("LinenNameModel", "rules", "I", false)
  | 3 => ("LinenNameModel", "sign", "[I", true)
  | 4 => ("LinenNameModel", "length", "[I", true)
  | 5 => ("LinenNameModel", "clause", "[I", true)
  | 6 => ("LinenNameModel", "clauses", "[I", true)
  | 7 => ("LinenNameModel", "read", "[I", true)
  | 8 => ("LinenNameModel", "next", "I", false)
  | 9 => ("LinenNameModel", "wrong", "I", false)
  | 10 => ("LinenNameModel", "number", "I", false)
  | 11 => ("LinenNameModel", "text", "I", false)
  | 12 => ("LinenNameModel", "made", "I", false)
  | 13 => ("LinenNameModel", "deep", "I", false)
  | 14 => ("LinenNameModel", "lines", "I", false)
  | 15 => ("LinenNameModel", "open", "[I", true)
  | 16 => ("LinenNameModel", "opened", "I", false)
  | 17 => ("LinenNameModel", "stack", "[J", true)
  | 18 => ("LinenNameModel", "top", "I", false)
  | 19 => ("LinenNameModel", "word", "[J", true)
  | 20 => ("LinenNameModel", "said", "[I", true)
  | 21 => ("LinenNameModel", "force", "I", false)
  | 22 => ("LinenNameModel", "x", "I", false)
  | 23 => ("LinenNameModel", "locked", "I", false)
  | 24 => ("LinenNameModel", "wasSaid", "[I", true)
  | 25 => ("LinenNameModel", "undone", "I", false)
  | 26 => ("LinenNameModel", "kept", "[I", true)
  | 27 => ("LinenNameModel", "order", "[I", true)
  | 28 => ("LinenNameModel", "bestOrder", "[I", true)
  | 29 => ("LinenNameModel", "bestWorth", "I", false)
  | 30 => ("LinenNameModel", "asked", "I", false)
  | 31 => ("LinenNameModel", "doneIn", "[I", true)
  | 32 => ("LinenNameModel", "bestIn", "[I", true)
  | 33 => ("LinenNameModel", "isBestIn", "[Z", true)
  | 34 => ("LinenNameModel", "firstDone", "I", false)
  | 35 => ("LinenNameModel", "isFit", "[Z", true)
  | 36 => ("LinenNameModel", "onThen", "[I", true)
  | 37 => ("LinenNameModel", "drawX", "J", false)
  | 38 => ("LinenNameModel", "images", "[I", true)
  | 39 => ("LinenNameModel", "imageForce", "[I", true)
  | 40 => ("LinenNameModel", "imageX", "[I", true)
  | _ => ("LinenNameModel", "isMade", "[Z", true)
def tyX12 : Nat → FieldType := fun k => match k with
  | 0 => .array .byte
  | 1 => .int
  | 2 => .int
  | 3 => .array .int
  | 4 => .array .int
  | 5 => .array .int
  | 6 => .array .int
  | 7 => .array .int
  | 8 => .int
  | 9 => .int
  | 10 => .int
  | 11 => .int
  | 12 => .int
  | 13 => .int
  | 14 => .int
  | 15 => .array .int
  | 16 => .int
  | 17 => .array .long
  | 18 => .int
  | 19 => .array .long
  | 20 => .array .int
  | 21 => .int
  | 22 => .int
  | 23 => .int
  | 24 => .array .int
  | 25 => .int
  | 26 => .array .int
  | 27 => .array .int
  | 28 => .array .int
  | 29 => .int
  | 30 => .int
  | 31 => .array .int
  | 32 => .array .int
  | 33 => .array .boolean
  | 34 => .int
  | 35 => .array .boolean
  | 36 => .array .int
  | 37 => .long
  | 38 => .array .int
  | 39 => .array .int
  | 40 => .array .int
  | _ => .array .boolean
theorem nmX12 : ∀ a, a < 42 → ∀ b, b < 42 → a ≠ b → (TX12 a).2.1 ≠ (TX12 b).2.1 := by decide +kernel
theorem tyX12_ok : ∀ k, k < 42 → parseFieldDescriptor (TX12 k).2.2.1 = some (tyX12 k) := by decide +kernel
abbrev cX12_init : ByteArray := prog_14_method_1_code
def yX12_init : MethodName := ⟨RX12, "<init>", "()V"⟩
abbrev cX12_in : ByteArray := prog_14_method_2_code
def yX12_in : MethodName := ⟨RX12, "in", "(JJJ)Z"⟩
abbrev cX12_isOf : ByteArray := prog_14_method_3_code
def yX12_isOf : MethodName := ⟨RX12, "isOf", "(II)Z"⟩
abbrev cX12_bits : ByteArray := prog_14_method_4_code
def yX12_bits : MethodName := ⟨RX12, "bits", "(I)I"⟩
abbrev cX12_four : ByteArray := prog_14_method_5_code
def yX12_four : MethodName := ⟨RX12, "four", "(I)V"⟩
abbrev cX12_feed : ByteArray := prog_14_method_6_code
def yX12_feed : MethodName := ⟨RX12, "feed", "(IIIII)I"⟩
abbrev cX12_end : ByteArray := prog_14_method_7_code
def yX12_end : MethodName := ⟨RX12, "end", "(I)I"⟩
abbrev cX12_fails : ByteArray := prog_14_method_8_code
def yX12_fails : MethodName := ⟨RX12, "fails", "(II)Z"⟩
abbrev cX12_see : ByteArray := prog_14_method_9_code
def yX12_see : MethodName := ⟨RX12, "see", "()I"⟩
abbrev cX12_isDigit : ByteArray := prog_14_method_10_code
def yX12_isDigit : MethodName := ⟨RX12, "isDigit", "(I)Z"⟩
abbrev cX12_isLetter : ByteArray := prog_14_method_11_code
def yX12_isLetter : MethodName := ⟨RX12, "isLetter", "(I)Z"⟩
abbrev cX12_isWord : ByteArray := prog_14_method_12_code
def yX12_isWord : MethodName := ⟨RX12, "isWord", "(J)Z"⟩
abbrev cX12_passWord : ByteArray := prog_14_method_13_code
def yX12_passWord : MethodName := ⟨RX12, "passWord", "()V"⟩
abbrev cX12_takesWord : ByteArray := prog_14_method_14_code
def yX12_takesWord : MethodName := ⟨RX12, "takesWord", "(J)Z"⟩
abbrev cX12_numberHere : ByteArray := prog_14_method_15_code
def yX12_numberHere : MethodName := ⟨RX12, "numberHere", "(II)Z"⟩
abbrev cX12_wordHere : ByteArray := prog_14_method_16_code
def yX12_wordHere : MethodName := ⟨RX12, "wordHere", "()I"⟩
abbrev cX12_puts : ByteArray := prog_14_method_17_code
def yX12_puts : MethodName := ⟨RX12, "puts", "(II)V"⟩
abbrev cX12_makes : ByteArray := prog_14_method_18_code
def yX12_makes : MethodName := ⟨RX12, "makes", "(I)Z"⟩
abbrev cX12_opens : ByteArray := prog_14_method_19_code
def yX12_opens : MethodName := ⟨RX12, "opens", "(I)Z"⟩
abbrev cX12_strength : ByteArray := prog_14_method_20_code
def yX12_strength : MethodName := ⟨RX12, "strength", "(I)I"⟩
abbrev cX12_layDown : ByteArray := prog_14_method_21_code
def yX12_layDown : MethodName := ⟨RX12, "layDown", "(I)V"⟩
abbrev cX12_value : ByteArray := prog_14_method_22_code
def yX12_value : MethodName := ⟨RX12, "value", "()Z"⟩
abbrev cX12_term : ByteArray := prog_14_method_23_code
def yX12_term : MethodName := ⟨RX12, "term", "()Z"⟩
abbrev cX12_sum : ByteArray := prog_14_method_24_code
def yX12_sum : MethodName := ⟨RX12, "sum", "()Z"⟩
abbrev cX12_compare : ByteArray := prog_14_method_25_code
def yX12_compare : MethodName := ⟨RX12, "compare", "()Z"⟩
abbrev cX12_fact : ByteArray := prog_14_method_26_code
def yX12_fact : MethodName := ⟨RX12, "fact", "()Z"⟩
abbrev cX12_isInside : ByteArray := prog_14_method_27_code
def yX12_isInside : MethodName := ⟨RX12, "isInside", "()Z"⟩
abbrev cX12_closes : ByteArray := prog_14_method_28_code
def yX12_closes : MethodName := ⟨RX12, "closes", "()V"⟩
abbrev cX12_tested : ByteArray := prog_14_method_29_code
def yX12_tested : MethodName := ⟨RX12, "tested", "()Z"⟩
abbrev cX12_isFoldHere : ByteArray := prog_14_method_30_code
def yX12_isFoldHere : MethodName := ⟨RX12, "isFoldHere", "()Z"⟩
abbrev cX12_cellHere : ByteArray := prog_14_method_31_code
def yX12_cellHere : MethodName := ⟨RX12, "cellHere", "(III)Z"⟩
abbrev cX12_isHouseHere : ByteArray := prog_14_method_32_code
def yX12_isHouseHere : MethodName := ⟨RX12, "isHouseHere", "(I)Z"⟩
abbrev cX12_isLodgerHere : ByteArray := prog_14_method_33_code
def yX12_isLodgerHere : MethodName := ⟨RX12, "isLodgerHere", "(I)Z"⟩
abbrev cX12_isMixHere : ByteArray := prog_14_method_34_code
def yX12_isMixHere : MethodName := ⟨RX12, "isMixHere", "(I)Z"⟩
abbrev cX12_houseLineHere : ByteArray := prog_14_method_35_code
def yX12_houseLineHere : MethodName := ⟨RX12, "houseLineHere", "(I)Z"⟩
abbrev cX12_isHouseWord : ByteArray := prog_14_method_36_code
def yX12_isHouseWord : MethodName := ⟨RX12, "isHouseWord", "()Z"⟩
abbrev cX12_clauseHere : ByteArray := prog_14_method_37_code
def yX12_clauseHere : MethodName := ⟨RX12, "clauseHere", "()Z"⟩
abbrev cX12_readsAll : ByteArray := prog_14_method_38_code
def yX12_readsAll : MethodName := ⟨RX12, "readsAll", "()Z"⟩
abbrev cX12_rule : ByteArray := prog_14_method_39_code
def yX12_rule : MethodName := ⟨RX12, "rule", "()I"⟩
abbrev cX12_house : ByteArray := prog_14_method_40_code
def yX12_house : MethodName := ⟨RX12, "house", "()I"⟩
abbrev cX12_isRule : ByteArray := prog_14_method_41_code
def yX12_isRule : MethodName := ⟨RX12, "isRule", "(I)Z"⟩
abbrev cX12_push : ByteArray := prog_14_method_42_code
def yX12_push : MethodName := ⟨RX12, "push", "(J)V"⟩
abbrev cX12_pop : ByteArray := prog_14_method_43_code
def yX12_pop : MethodName := ⟨RX12, "pop", "()J"⟩
abbrev cX12_one : ByteArray := prog_14_method_44_code
def yX12_one : MethodName := ⟨RX12, "one", "(IJJ)J"⟩
abbrev cX12_reckons : ByteArray := prog_14_method_45_code
def yX12_reckons : MethodName := ⟨RX12, "reckons", "(III)J"⟩
abbrev cX12_isHouse : ByteArray := prog_14_method_46_code
def yX12_isHouse : MethodName := ⟨RX12, "isHouse", "()Z"⟩
abbrev cX12_isBed : ByteArray := prog_14_method_47_code
def yX12_isBed : MethodName := ⟨RX12, "isBed", "(I)Z"⟩
abbrev cX12_sheetOn : ByteArray := prog_14_method_48_code
def yX12_sheetOn : MethodName := ⟨RX12, "sheetOn", "(I)I"⟩
abbrev cX12_bedOf : ByteArray := prog_14_method_49_code
def yX12_bedOf : MethodName := ⟨RX12, "bedOf", "(I)I"⟩
abbrev cX12_gradeOn : ByteArray := prog_14_method_50_code
def yX12_gradeOn : MethodName := ⟨RX12, "gradeOn", "(I)I"⟩
abbrev cX12_isLet : ByteArray := prog_14_method_51_code
def yX12_isLet : MethodName := ⟨RX12, "isLet", "(I)Z"⟩
abbrev cX12_letOnes : ByteArray := prog_14_method_52_code
def yX12_letOnes : MethodName := ⟨RX12, "letOnes", "()I"⟩
abbrev cX12_homeOnes : ByteArray := prog_14_method_53_code
def yX12_homeOnes : MethodName := ⟨RX12, "homeOnes", "()I"⟩
abbrev cX12_wasAll : ByteArray := prog_14_method_54_code
def yX12_wasAll : MethodName := ⟨RX12, "wasAll", "()I"⟩
abbrev cX12_begins : ByteArray := prog_14_method_55_code
def yX12_begins : MethodName := ⟨RX12, "begins", "()V"⟩
abbrev cX12_force : ByteArray := prog_14_method_56_code
def yX12_force : MethodName := ⟨RX12, "force", "(I)I"⟩
abbrev cX12_lodger : ByteArray := prog_14_method_57_code
def yX12_lodger : MethodName := ⟨RX12, "lodger", "(II)I"⟩
abbrev cX12_sheet : ByteArray := prog_14_method_58_code
def yX12_sheet : MethodName := ⟨RX12, "sheet", "(II)I"⟩
abbrev cX12_changes : ByteArray := prog_14_method_59_code
def yX12_changes : MethodName := ⟨RX12, "changes", "(II)V"⟩
abbrev cX12_summedBy : ByteArray := prog_14_method_60_code
def yX12_summedBy : MethodName := ⟨RX12, "summedBy", "(I)J"⟩
abbrev cX12_sumOf : ByteArray := prog_14_method_61_code
def yX12_sumOf : MethodName := ⟨RX12, "sumOf", "(II)J"⟩
abbrev cX12_folds : ByteArray := prog_14_method_62_code
def yX12_folds : MethodName := ⟨RX12, "folds", "()V"⟩
abbrev cX12_mixes : ByteArray := prog_14_method_63_code
def yX12_mixes : MethodName := ⟨RX12, "mixes", "()V"⟩
abbrev cX12_wears : ByteArray := prog_14_method_64_code
def yX12_wears : MethodName := ⟨RX12, "wears", "()V"⟩
abbrev cX12_passes : ByteArray := prog_14_method_65_code
def yX12_passes : MethodName := ⟨RX12, "passes", "()I"⟩
abbrev cX12_passesAll : ByteArray := prog_14_method_66_code
def yX12_passesAll : MethodName := ⟨RX12, "passesAll", "(I)V"⟩
abbrev cX12_keepsAct : ByteArray := prog_14_method_67_code
def yX12_keepsAct : MethodName := ⟨RX12, "keepsAct", "()V"⟩
abbrev cX12_undo : ByteArray := prog_14_method_68_code
def yX12_undo : MethodName := ⟨RX12, "undo", "()I"⟩
abbrev cX12_week : ByteArray := prog_14_method_69_code
def yX12_week : MethodName := ⟨RX12, "week", "()I"⟩
abbrev cX12_swap : ByteArray := prog_14_method_70_code
def yX12_swap : MethodName := ⟨RX12, "swap", "(II)I"⟩
abbrev cX12_starch : ByteArray := prog_14_method_71_code
def yX12_starch : MethodName := ⟨RX12, "starch", "(I)I"⟩
abbrev cX12_darn : ByteArray := prog_14_method_72_code
def yX12_darn : MethodName := ⟨RX12, "darn", "(I)I"⟩
abbrev cX12_keeps : ByteArray := prog_14_method_73_code
def yX12_keeps : MethodName := ⟨RX12, "keeps", "()V"⟩
abbrev cX12_laysBack : ByteArray := prog_14_method_74_code
def yX12_laysBack : MethodName := ⟨RX12, "laysBack", "()V"⟩
abbrev cX12_ahead : ByteArray := prog_14_method_75_code
def yX12_ahead : MethodName := ⟨RX12, "ahead", "(III)I"⟩
abbrev cX12_lets : ByteArray := prog_14_method_76_code
def yX12_lets : MethodName := ⟨RX12, "lets", "(II)I"⟩
abbrev cX12_ringOf : ByteArray := prog_14_method_77_code
def yX12_ringOf : MethodName := ⟨RX12, "ringOf", "(I)I"⟩
abbrev cX12_rings : ByteArray := prog_14_method_78_code
def yX12_rings : MethodName := ⟨RX12, "rings", "()I"⟩
abbrev cX12_ring : ByteArray := prog_14_method_79_code
def yX12_ring : MethodName := ⟨RX12, "ring", "(II)I"⟩
abbrev cX12_right : ByteArray := prog_14_method_80_code
def yX12_right : MethodName := ⟨RX12, "right", "(I)I"⟩
abbrev cX12_even : ByteArray := prog_14_method_81_code
def yX12_even : MethodName := ⟨RX12, "even", "()I"⟩
abbrev cX12_isInOrder : ByteArray := prog_14_method_82_code
def yX12_isInOrder : MethodName := ⟨RX12, "isInOrder", "(II)Z"⟩
abbrev cX12_letInOrder : ByteArray := prog_14_method_83_code
def yX12_letInOrder : MethodName := ⟨RX12, "letInOrder", "()I"⟩
abbrev cX12_changesTo : ByteArray := prog_14_method_84_code
def yX12_changesTo : MethodName := ⟨RX12, "changesTo", "()I"⟩
abbrev cX12_worthOfOrder : ByteArray := prog_14_method_85_code
def yX12_worthOfOrder : MethodName := ⟨RX12, "worthOfOrder", "()I"⟩
abbrev cX12_keepsOrder : ByteArray := prog_14_method_86_code
def yX12_keepsOrder : MethodName := ⟨RX12, "keepsOrder", "()V"⟩
abbrev cX12_findsOrder : ByteArray := prog_14_method_87_code
def yX12_findsOrder : MethodName := ⟨RX12, "findsOrder", "()V"⟩
abbrev cX12_most : ByteArray := prog_14_method_88_code
def yX12_most : MethodName := ⟨RX12, "most", "(I)I"⟩
abbrev cX12_told : ByteArray := prog_14_method_89_code
def yX12_told : MethodName := ⟨RX12, "told", "(II)I"⟩
abbrev cX12_hasBy : ByteArray := prog_14_method_90_code
def yX12_hasBy : MethodName := ⟨RX12, "hasBy", "(II)I"⟩
abbrev cX12_areBetterOff : ByteArray := prog_14_method_91_code
def yX12_areBetterOff : MethodName := ⟨RX12, "areBetterOff", "(II)Z"⟩
abbrev cX12_twosBy : ByteArray := prog_14_method_92_code
def yX12_twosBy : MethodName := ⟨RX12, "twosBy", "(ZI)I"⟩
abbrev cX12_twos : ByteArray := prog_14_method_93_code
def yX12_twos : MethodName := ⟨RX12, "twos", "(I)I"⟩
abbrev cX12_nearer : ByteArray := prog_14_method_94_code
def yX12_nearer : MethodName := ⟨RX12, "nearer", "(I)I"⟩
abbrev cX12_turned : ByteArray := prog_14_method_95_code
def yX12_turned : MethodName := ⟨RX12, "turned", "(I)I"⟩
abbrev cX12_thin : ByteArray := prog_14_method_96_code
def yX12_thin : MethodName := ⟨RX12, "thin", "()I"⟩
abbrev cX12_home : ByteArray := prog_14_method_97_code
def yX12_home : MethodName := ⟨RX12, "home", "()I"⟩
abbrev cX12_carves : ByteArray := prog_14_method_98_code
def yX12_carves : MethodName := ⟨RX12, "carves", "(II)I"⟩
abbrev cX12_letIn : ByteArray := prog_14_method_99_code
def yX12_letIn : MethodName := ⟨RX12, "letIn", "(I)I"⟩
abbrev cX12_lock : ByteArray := prog_14_method_100_code
def yX12_lock : MethodName := ⟨RX12, "lock", "(II)I"⟩
abbrev cX12_pence : ByteArray := prog_14_method_101_code
def yX12_pence : MethodName := ⟨RX12, "pence", "(II)I"⟩
abbrev cX12_beginsTurn : ByteArray := prog_14_method_102_code
def yX12_beginsTurn : MethodName := ⟨RX12, "beginsTurn", "(I)V"⟩
abbrev cX12_isWorth : ByteArray := prog_14_method_103_code
def yX12_isWorth : MethodName := ⟨RX12, "isWorth", "(II)V"⟩
abbrev cX12_does : ByteArray := prog_14_method_104_code
def yX12_does : MethodName := ⟨RX12, "does", "(I)V"⟩
abbrev cX12_doesNext : ByteArray := prog_14_method_105_code
def yX12_doesNext : MethodName := ⟨RX12, "doesNext", "(I)Z"⟩
abbrev cX12_plays : ByteArray := prog_14_method_106_code
def yX12_plays : MethodName := ⟨RX12, "plays", "(III)V"⟩
abbrev cX12_game : ByteArray := prog_14_method_107_code
def yX12_game : MethodName := ⟨RX12, "game", "(IIII)I"⟩
abbrev cX12_note : ByteArray := prog_14_method_108_code
def yX12_note : MethodName := ⟨RX12, "note", "(III)I"⟩
abbrev cX12_areNotesSo : ByteArray := prog_14_method_109_code
def yX12_areNotesSo : MethodName := ⟨RX12, "areNotesSo", "(I)Z"⟩
abbrev cX12_fillsFits : ByteArray := prog_14_method_110_code
def yX12_fillsFits : MethodName := ⟨RX12, "fillsFits", "(I)V"⟩
abbrev cX12_ruled : ByteArray := prog_14_method_111_code
def yX12_ruled : MethodName := ⟨RX12, "ruled", "(I)I"⟩
abbrev cX12_alikeAt : ByteArray := prog_14_method_112_code
def yX12_alikeAt : MethodName := ⟨RX12, "alikeAt", "(I)I"⟩
abbrev cX12_look : ByteArray := prog_14_method_113_code
def yX12_look : MethodName := ⟨RX12, "look", "(II)I"⟩
abbrev cX12_seed : ByteArray := prog_14_method_114_code
def yX12_seed : MethodName := ⟨RX12, "seed", "(I)I"⟩
abbrev cX12_draw : ByteArray := prog_14_method_115_code
def yX12_draw : MethodName := ⟨RX12, "draw", "(I)I"⟩
abbrev cX12_washes : ByteArray := prog_14_method_116_code
def yX12_washes : MethodName := ⟨RX12, "washes", "()V"⟩
abbrev cX12_laundries : ByteArray := prog_14_method_117_code
def yX12_laundries : MethodName := ⟨RX12, "laundries", "(IIII)I"⟩
abbrev cX12_count : ByteArray := prog_14_method_118_code
def yX12_count : MethodName := ⟨RX12, "count", "(I)I"⟩
abbrev cX12_image : ByteArray := prog_14_method_119_code
def yX12_image : MethodName := ⟨RX12, "image", "(I)I"⟩
abbrev cX12_back : ByteArray := prog_14_method_120_code
def yX12_back : MethodName := ⟨RX12, "back", "(I)I"⟩
def RJ0 : String := "java/lang/String"
abbrev cJ0_length_8abf5 : ByteArray := prog_18_method_54_code
def yJ0_length_8abf5 : MethodName := ⟨RJ0, "length", "()I"⟩
abbrev cJ0_charAt_5068e : ByteArray := prog_18_method_56_code
def yJ0_charAt_5068e : MethodName := ⟨RJ0, "charAt", "(I)C"⟩
abbrev cJ0_coder_7d493 : ByteArray := prog_18_method_152_code
def yJ0_coder_7d493 : MethodName := ⟨RJ0, "coder", "()B"⟩
abbrev cJ0_isLatin1_aae02 : ByteArray := prog_18_method_154_code
def yJ0_isLatin1_aae02 : MethodName := ⟨RJ0, "isLatin1", "()Z"⟩
abbrev cJ0_checkIndex_df160 : ByteArray := prog_18_method_155_code
def yJ0_checkIndex_df160 : MethodName := ⟨RJ0, "checkIndex", "(II)V"⟩
def RL : String := "LinenNameLaw"
abbrev cL_law : ByteArray := code
def yL_law : MethodName := ⟨RL, "law", "([I)Z"⟩
abbrev vwCl : List vw_C := [(RX0, TX0, 6), (RX1, TX1, 10), (RX2, TX2, 0), (RX3, TX3, 9), (RX4, TX4, 2), (RX5, TX5, 5), (RX6, TX6, 6), (RX7, TX7, 3), (RX8, TX8, 2), (RX9, TX9, 5), (RX10, TX10, 6), (RX11, TX11, 14), (RX12, TX12, 42)]
/-- the words of the tables that stay, whatever is linked -/
def lwG : List Cond := lw_tbl.filter goodWord
abbrev wsU (y : MethodName) (cc : ByteArray) (n : Nat) (ret : Option FieldType) : List Cond := .code y cc n ret :: lwG
theorem lw_k (i : Nat) {w : Cond} (h : lw_tbl[i]? = some w) (hg : goodWord w = true) : w ∈ lwG := List.mem_filter.mpr ⟨List.mem_of_getElem? h, hg⟩
theorem lwG_tbl {w : Cond} (h : w ∈ lwG) : w ∈ lw_tbl := (List.mem_filter.mp h).1
theorem lwG_good {w : Cond} (h : w ∈ lwG) : (w.onTables && w.keeps) = true ∨ ∃ ty, w = .arrayClass ty := good_of_word (List.mem_filter.mp h).2
theorem gI {y : MethodName} {cc : ByteArray} {n : Nat} {ret : Option FieldType} (h : Cond.code y cc n ret ∈ lwG) : GoodIn lwG (wsU y cc n ret) := fun w hw => by
  rcases List.mem_cons.mp hw with rfl | hw
  · exact ⟨h, lwG_good h⟩
  · exact ⟨hw, lwG_good hw⟩
theorem gV {own C : String} {i : Nat} {y : MethodName} {cc : ByteArray} {n : Nat} {ret : Option FieldType} (h1 : Cond.methodLink own i y ∈ lwG) (h2 : Cond.instanceMethod y ∈ lwG) (h3 : Cond.selects C y y ∈ lwG) (h4 : Cond.initialized C ∈ lwG) (h : Cond.code y cc n ret ∈ lwG) : GoodIn lwG (wsV own i C y (wsU y cc n ret)) := fun w hw => by
  rcases List.mem_append.mp hw with hw | hw
  · have hm : w ∈ lwG := by
      rcases List.mem_cons.mp hw with rfl | hw
      · exact h1
      rcases List.mem_cons.mp hw with rfl | hw
      · exact h2
      rcases List.mem_cons.mp hw with rfl | hw
      · exact h3
      rcases List.mem_cons.mp hw with rfl | hw
      · exact h4
      cases hw
    exact ⟨hm, lwG_good hm⟩
  · exact gI h w hw
theorem gS {own : String} {i : Nat} {y : MethodName} {cc : ByteArray} {n : Nat} {ret : Option FieldType} (h1 : Cond.methodLink own i y ∈ lwG) (h2 : Cond.static y ∈ lwG) (h4 : Cond.initialized own ∈ lwG) (h : Cond.code y cc n ret ∈ lwG) : GoodIn lwG (wsS own i y (wsU y cc n ret)) := fun w hw => by
  rcases List.mem_append.mp hw with hw | hw
  · have hm : w ∈ lwG := by
      rcases List.mem_cons.mp hw with rfl | hw
      · exact h1
      rcases List.mem_cons.mp hw with rfl | hw
      · exact h2
      rcases List.mem_cons.mp hw with rfl | hw
      · exact h4
      cases hw
    exact ⟨hm, lwG_good hm⟩
  · exact gI h w hw
/-- a class's field words, by their places in the tables -/
theorem lw_u {C : String} {T : u_T} {N : Nat} (ps : List Nat) (hp : ps.map (fun i => lw_tbl[i]?) = (u_ws C T N).map some) (hg : (u_ws C T N).all goodWord = true) : ∀ w ∈ u_ws C T N, w ∈ lwG := fun w hw => by
  obtain ⟨k, hk⟩ := List.getElem?_of_mem hw
  have h1 : (ps.map (fun i => lw_tbl[i]?))[k]? = some (some w) := by rw [hp, List.getElem?_map, hk]; rfl
  rw [List.getElem?_map] at h1
  cases hi : ps[k]? with
  | none => rw [hi] at h1; cases h1
  | some i => rw [hi] at h1; exact lw_k i (Option.some.inj h1) (List.all_eq_true.mp hg w hw)
theorem uX0 : ∀ w ∈ u_ws RX0 TX0 6, w ∈ lwG := lw_u [426, 428, 430, 432, 434, 436] (by decide +kernel) (by decide +kernel)
theorem vX0 : ∀ j, j < 6 → defaultValue (tyX0 j) = vp_V [.null, .int 0, .int 0, .int 0, .int 0, .int 0] j := by
  intro j hj
  rcases (show j = 0 ∨ j = 1 ∨ j = 2 ∨ j = 3 ∨ j = 4 ∨ j = 5 by omega) with rfl | rfl | rfl | rfl | rfl | rfl <;> rfl
theorem uX1 : ∀ w ∈ u_ws RX1 TX1 10, w ∈ lwG := lw_u [250, 252, 254, 256, 258, 260, 262, 264, 266, 268] (by decide +kernel) (by decide +kernel)
theorem vX1 : ∀ j, j < 10 → defaultValue (tyX1 j) = vp_V [.int 0, .int 0, .int 0, .int 0, .int 0, .null, .null, .null, .null, .null] j := by
  intro j hj
  rcases (show j = 0 ∨ j = 1 ∨ j = 2 ∨ j = 3 ∨ j = 4 ∨ j = 5 ∨ j = 6 ∨ j = 7 ∨ j = 8 ∨ j = 9 by omega) with rfl | rfl | rfl | rfl | rfl | rfl | rfl | rfl | rfl | rfl <;> rfl
theorem uX2 : ∀ w ∈ u_ws RX2 TX2 0, w ∈ lwG := lw_u [] (by decide +kernel) (by decide +kernel)
theorem vX2 : ∀ j, j < 0 → defaultValue (tyX2 j) = vp_V [] j := fun j h => absurd h (Nat.not_lt_zero j)
theorem uX3 : ∀ w ∈ u_ws RX3 TX3 9, w ∈ lwG := lw_u [329, 331, 333, 335, 337, 339, 341, 343, 345] (by decide +kernel) (by decide +kernel)
theorem vX3 : ∀ j, j < 9 → defaultValue (tyX3 j) = vp_V [.null, .null, .null, .null, .null, .int 0, .int 0, .int 0, .int 0] j := by
  intro j hj
  rcases (show j = 0 ∨ j = 1 ∨ j = 2 ∨ j = 3 ∨ j = 4 ∨ j = 5 ∨ j = 6 ∨ j = 7 ∨ j = 8 by omega) with rfl | rfl | rfl | rfl | rfl | rfl | rfl | rfl | rfl <;> rfl
theorem uX4 : ∀ w ∈ u_ws RX4 TX4 2, w ∈ lwG := lw_u [377, 379] (by decide +kernel) (by decide +kernel)
theorem vX4 : ∀ j, j < 2 → defaultValue (tyX4 j) = vp_V [.null, .null] j := by
  intro j hj
  rcases (show j = 0 ∨ j = 1 by omega) with rfl | rfl <;> rfl
theorem uX5 : ∀ w ∈ u_ws RX5 TX5 5, w ∈ lwG := lw_u [301, 303, 305, 307, 309] (by decide +kernel) (by decide +kernel)
theorem vX5 : ∀ j, j < 5 → defaultValue (tyX5 j) = vp_V [.null, .null, .null, .null, .int 0] j := by
  intro j hj
  rcases (show j = 0 ∨ j = 1 ∨ j = 2 ∨ j = 3 ∨ j = 4 by omega) with rfl | rfl | rfl | rfl | rfl <;> rfl
theorem uX6 : ∀ w ∈ u_ws RX6 TX6 6, w ∈ lwG := lw_u [397, 399, 401, 403, 405, 407] (by decide +kernel) (by decide +kernel)
theorem vX6 : ∀ j, j < 6 → defaultValue (tyX6 j) = vp_V [.null, .null, .null, .null, .null, .int 0] j := by
  intro j hj
  rcases (show j = 0 ∨ j = 1 ∨ j = 2 ∨ j = 3 ∨ j = 4 ∨ j = 5 by omega) with rfl | rfl | rfl | rfl | rfl | rfl <;> rfl
theorem uX7 : ∀ w ∈ u_ws RX7 TX7 3, w ∈ lwG := lw_u [362, 364, 366] (by decide +kernel) (by decide +kernel)
theorem vX7 : ∀ j, j < 3 → defaultValue (tyX7 j) = vp_V [.null, .int 0, .int 0] j := by
  intro j hj
  rcases (show j = 0 ∨ j = 1 ∨ j = 2 by omega) with rfl | rfl | rfl <;> rfl
theorem uX8 : ∀ w ∈ u_ws RX8 TX8 2, w ∈ lwG := lw_u [711, 713] (by decide +kernel) (by decide +kernel)
theorem vX8 : ∀ j, j < 2 → defaultValue (tyX8 j) = vp_V [.null, .null] j := by
  intro j hj
  rcases (show j = 0 ∨ j = 1 by omega) with rfl | rfl <;> rfl
theorem uX9 : ∀ w ∈ u_ws RX9 TX9 5, w ∈ lwG := lw_u [187, 189, 191, 193, 195] (by decide +kernel) (by decide +kernel)
theorem vX9 : ∀ j, j < 5 → defaultValue (tyX9 j) = vp_V [.null, .null, .null, .int 0, .int 0] j := by
  intro j hj
  rcases (show j = 0 ∨ j = 1 ∨ j = 2 ∨ j = 3 ∨ j = 4 by omega) with rfl | rfl | rfl | rfl | rfl <;> rfl
theorem uX10 : ∀ w ∈ u_ws RX10 TX10 6, w ∈ lwG := lw_u [155, 157, 159, 161, 163, 165] (by decide +kernel) (by decide +kernel)
theorem vX10 : ∀ j, j < 6 → defaultValue (tyX10 j) = vp_V [.null, .int 0, .int 0, .int 0, .int 0, .int 0] j := by
  intro j hj
  rcases (show j = 0 ∨ j = 1 ∨ j = 2 ∨ j = 3 ∨ j = 4 ∨ j = 5 by omega) with rfl | rfl | rfl | rfl | rfl | rfl <;> rfl
theorem uX11 : ∀ w ∈ u_ws RX11 TX11 14, w ∈ lwG := lw_u [457, 459, 461, 463, 465, 467, 469, 471, 473, 475, 477, 479, 481, 483] (by decide +kernel) (by decide +kernel)
theorem vX11 : ∀ j, j < 14 → defaultValue (tyX11 j) = vp_V [.null, .null, .null, .null, .null, .null, .null, .null, .null, .null, .null, .null, .int 0, .null] j := by
  intro j hj
  rcases (show j = 0 ∨ j = 1 ∨ j = 2 ∨ j = 3 ∨ j = 4 ∨ j = 5 ∨ j = 6 ∨ j = 7 ∨ j = 8 ∨ j = 9 ∨ j = 10 ∨ j = 11 ∨ j = 12 ∨ j = 13 by omega) with rfl | rfl | rfl | rfl | rfl | rfl | rfl | rfl | rfl | rfl | rfl | rfl | rfl | rfl <;> rfl
theorem uX12 : ∀ w ∈ u_ws RX12 TX12 42, w ∈ lwG := lw_u [1114, 1116, 1118, 1120, 1122, 1124, 1126, 1128, 1130, 1132, 1134, 1136, 1138, 1140, 1142, 1144, 1146, 1148, 1150, 1152, 1154, 1156, 1158, 1160, 1162, 1164, 1166, 1168, 1170, 1172, 1174, 1176, 1178, 1180, 1182, 1184, 1186, 1188, 1190, 1192, 1194, 1196] (by decide +kernel) (by decide +kernel)
theorem vX12 : ∀ j, j < 42 → defaultValue (tyX12 j) = vp_V [.null, .int 0, .int 0, .null, .null, .null, .null, .null, .int 0, .int 0, .int 0, .int 0, .int 0, .int 0, .int 0, .null, .int 0, .null, .int 0, .null, .null, .int 0, .int 0, .int 0, .null, .int 0, .null, .null, .null, .int 0, .int 0, .null, .null, .null, .int 0, .null, .null, .long 0, .null, .null, .null, .null] j := by
  intro j hj
  rcases (show j = 0 ∨ j = 1 ∨ j = 2 ∨ j = 3 ∨ j = 4 ∨ j = 5 ∨ j = 6 ∨ j = 7 ∨ j = 8 ∨ j = 9 ∨ j = 10 ∨ j = 11 ∨ j = 12 ∨ j = 13 ∨ j = 14 ∨ j = 15 ∨ j = 16 ∨ j = 17 ∨ j = 18 ∨ j = 19 ∨ j = 20 ∨ j = 21 ∨ j = 22 ∨ j = 23 ∨ j = 24 ∨ j = 25 ∨ j = 26 ∨ j = 27 ∨ j = 28 ∨ j = 29 ∨ j = 30 ∨ j = 31 ∨ j = 32 ∨ j = 33 ∨ j = 34 ∨ j = 35 ∨ j = 36 ∨ j = 37 ∨ j = 38 ∨ j = 39 ∨ j = 40 ∨ j = 41 by omega) with rfl | rfl | rfl | rfl | rfl | rfl | rfl | rfl | rfl | rfl | rfl | rfl | rfl | rfl | rfl | rfl | rfl | rfl | rfl | rfl | rfl | rfl | rfl | rfl | rfl | rfl | rfl | rfl | rfl | rfl | rfl | rfl | rfl | rfl | rfl | rfl | rfl | rfl | rfl | rfl | rfl | rfl <;> rfl
end
section
/-! the base: the array classes, the nest's words, a method's start and end -/
abbrev tyL (kA : Nat → ClassId) : List (ClassId × FieldType) := [(kA 0, .int), (kA 1, .byte), (kA 2, .long), (kA 3, .boolean), (kA 4, .object "LinenName$Rule"), (kA 5, .object "LinenName$Image"), (kA 6, .object "LinenName$Linen"), (kA 7, .array .int)]
def nwL : List Cond := [.methodLinkNest RX11 9 yX10_init RX11, .methodLinkNest RX11 18 yX2_init RX11, .methodLinkNest RX11 25 yX9_init RX11, .methodLinkNest RX11 38 yX3_init RX11, .methodLinkNest RX11 56 yX4_init RX11, .methodLinkNest RX11 63 yX6_init RX11, .methodLinkNest RX11 70 yX0_init RX11, .methodLinkNest RX11 77 yX5_init RX11, .methodLinkNest RX11 88 yX1_init RX11, .methodLinkNest RX0 11 yX5_init RX11, .methodLinkNest RX3 11 yX1_init RX11, .methodLinkNest RX3 20 yX5_init RX11, .methodLinkNest RX7 17 yX5_init RX11]
def nwM (w : Cond) : Prop := ∃ (a : String) (i : Nat) (x : MethodName) (h : String), w = .methodLinkNest a i x h
theorem nwL_ok : ∀ w ∈ nwL, nwM w := by
  intro w hw
  simp only [nwL, List.mem_cons, List.not_mem_nil, or_false] at hw
  rcases hw with h | h | h | h | h | h | h | h | h | h | h | h | h <;> exact ⟨_, _, _, _, h⟩
/-- the class of int[][], and that of its places -/
def mnP (U : State) : Prop := ∃ (cA cI : ClassId) (kA kI : Class) (cc : ClassId), U.vm.findClass "[[I" = some cA ∧ U.vm.classes[cA]? = some kA ∧ kA.kind = .array cI (.array .int) ∧ U.vm.classes[cI]? = some kI ∧ kI.kind = .array cc .int
theorem mnP.moved {u U : State} (hvm : u.vm.Alike U.vm) (h : mnP u) : mnP U := by
  obtain ⟨cA, cI, kA, kI, cc, h1, h2, h3, h4, h5⟩ := h
  obtain ⟨kA', hA', eA⟩ := hvm.2.2 _ _ h2
  obtain ⟨kI', hI', eI⟩ := hvm.2.2 _ _ h4
  exact ⟨cA, cI, kA', kI', cc, by rw [hvm.findClass]; exact h1, hA', by rw [eA]; exact h3, hI', by rw [eI]; exact h5⟩
def nwK (U : State) : Prop := (∀ w ∈ nwL, va_Nw w U) ∧ va_AO "LinenName$Rule" U ∧ va_AO "LinenName$Image" U ∧ va_AO "LinenName$Linen" U ∧ mnP U
theorem nwK.at {U : State} (h : nwK U) (i : Nat) {w : Cond} (hw : nwL[i]? = some w) : va_Nw w U := h.1 w (List.mem_of_getElem? hw)
theorem nwK.warm {s U : State} (hW : s.WarmedH U.vm) (h : nwK s) : nwK U := by
  refine ⟨fun w hw => ?_, h.2.1.moved hW.alike, h.2.2.1.moved hW.alike, h.2.2.2.1.moved hW.alike, h.2.2.2.2.moved hW.alike⟩
  obtain ⟨a, i, x, k, rfl⟩ := nwL_ok w hw
  exact va_Nw.warmM hW (h.1 _ hw)
theorem nwK.same {u U : State} (e : u.vm = U.vm) (h : nwK u) : nwK U := by
  have ha : u.vm.Alike U.vm := by rw [e]; exact Vm.Alike.refl U.vm
  refine ⟨fun w hw => ?_, h.2.1.moved ha, h.2.2.1.moved ha, h.2.2.2.1.moved ha, h.2.2.2.2.moved ha⟩
  obtain ⟨a, i, x, k, rfl⟩ := nwL_ok w hw
  exact va_Nw.same rfl e (h.1 _ hw)
/-- a method's start: its world, of which nothing else is said -/
def PW (dC : Nat → ClassId) (dI : Nat → Nat → Nat) (kA : Nat → ClassId) (ws : va_W) (sz : Nat) (U : State) : Prop := U.heap.size = sz ∧ va_P (dC, dI) vwCl ws U.heap ∧ va_K (dC, dI) vwCl (tyL kA) U ∧ nwK U ∧ va_D (fun _ => True) ws
theorem pw_bl {dC : Nat → ClassId} {dI : Nat → Nat → Nat} {kA : Nat → ClassId} {ws : va_W} {sz : Nat} {av : List Value} : FrameBlind (va_Pc av (PW dC dI kA ws sz)) := by
  intro a U g mk q
  obtain ⟨q0, q1, qP, qK, qN, qD⟩ := q
  exact ⟨q0, q1, qP, va_K.moved (u := U) (U := U.calling g mk a) (Vm.Alike.refl U.vm) qK, nwK.same (u := U) (U := U.calling g mk a) rfl qN, qD⟩
section PWs
variable {s : State} {H : Heap} {dC : Nat → ClassId} {dI : Nat → Nat → Nat} {kA : Nat → ClassId} {A : Nat → Prop} {ws wc : va_W} {As : List Value} {b : Nat}
theorem pw_s (hP : va_P (dC, dI) vwCl wc H) (hD : va_D A wc) (hK : va_K (dC, dI) vwCl (tyL kA) s) (hN : nwK s) : PreS s H (va_Pc As (PW dC dI kA wc H.size)) As :=
  ⟨pw_bl, fun U hU hW => ⟨rfl, by rw [hU], by rw [hU]; exact hP, va_K.moved hW.alike hK, nwK.warm hW hN, hD.weaken (fun _ _ _ _ => trivial)⟩⟩
theorem pw_v (hP : va_P (dC, dI) vwCl wc H) (hD : va_D A wc) (hK : va_K (dC, dI) vwCl (tyL kA) s) (hN : nwK s) (q0 ci : Nat) {q : vw_C} {fs : List Value} (hc : vwCl[ci]? = some q) (he : wc[q0]? = some (b, .inr (ci, fs))) : PreV s H q.1 b (va_Pc (.ref b :: As) (PW dC dI kA wc H.size)) As :=
  ⟨pw_bl, va_recv hK hP hc he, fun U hU hW => ⟨rfl, by rw [hU], by rw [hU]; exact hP, va_K.moved hW.alike hK, nwK.warm hW hN, hD.weaken (fun _ _ _ _ => trivial)⟩⟩
end PWs
/-- a method that changes nothing: its answer -/
def QP (v : Option Value) : Array Value → State → Outcome → State → Prop := fun _ st o t => o = .returned v ∧ t.heap = st.heap
/-- a method that changes its world: its answer, the world behind it -/
def QU (dC : Nat → ClassId) (dI : Nat → Nat → Nat) (v : Option Value) (Wp : va_W → Prop) (A : Nat → Prop) : Array Value → State → Outcome → State → Prop := fun _ st o t => (o = .returned v ∧ ∃ w1, Wp w1 ∧ va_P (dC, dI) vwCl w1 t.heap ∧ va_D A w1) ∧ va_F A st t
section BaseW
variable {p : Program} {l : Launch} {e : Env} {R : Room} {s : State} {m : MethodId} {args : Array Value} {below : List Frame} {meth : Method} {c : Code} {H : Heap} {locs : List Loc} {cells slots : Nat} {Q : State → Prop}
variable {cc : ByteArray} {pc : Nat} {ls : Array Slot} {rest : List Value} {dC : Nat → ClassId} {dI : Nat → Nat → Nat} {kA : Nat → ClassId} {A A0 : Nat → Prop} {H0 : Heap} {a : Nat} {ws wc wr w1 : va_W} {mc ms : Nat} {v : Option Value} {Wp : va_W → Prop} {st0 : List Value} {aa : Array Value}
/-- the top of the stack by another name -/
theorem lv_toc {x y : Int32} (h : x = y) (k : W p l e R s m args below meth c H locs cells slots Q (F0 m pc ls (.int y :: rest))) : W p l e R s m args below meth c H locs cells slots Q (F0 m pc ls (.int x :: rest)) := h ▸ k
theorem lv_tov {x y : Value} (h : x = y) (k : W p l e R s m args below meth c H locs cells slots Q (F0 m pc ls (y :: rest))) : W p l e R s m args below meth c H locs cells slots Q (F0 m pc ls (x :: rest)) := h ▸ k
theorem cP (hr : CallRun p l e R s m args below meth c H locs cells slots 0 0 (F0 m pc ls st0) rest (QP v aa) (fun _ => False)) (kk : W p l e R s m args below meth c H locs cells slots Q (F0 m (pc + 3) ls (v.toList ++ rest))) : W p l e R s m args below meth c H locs cells slots Q (F0 m pc ls st0) := by
  intro T hT X
  obtain ⟨v', st₀, t, T', L, h0, X', hL, e1, ⟨hv, hh⟩, st⟩ := hr T hT X
  cases hv
  obtain ⟨t2, a1, b1⟩ := kk T' (by rw [e1, hh, h0]) (Stand.forget X' (fun q h => (hL q h).elim))
  exact ⟨t2, st t2 a1, b1⟩
theorem cPn (hr : va_Run p l e R s m args below meth c H locs cells slots 0 0 (F0 m pc ls st0) rest (QP v aa) (fun _ => False)) (kk : W p l e R s m args below meth c H locs cells slots Q (F0 m (pc + 3) ls (v.toList ++ rest))) : W p l e R s m args below meth c H locs cells slots Q (F0 m pc ls st0) := by
  intro T hT X
  obtain ⟨v', st₀, t, T', L, h0, X', hL, e1, -, ⟨hv, hh⟩, st⟩ := hr T hT X
  cases hv
  obtain ⟨t2, a1, b1⟩ := kk T' (by rw [e1, hh, h0]) (Stand.forget X' (fun q h => (hL q h).elim))
  exact ⟨t2, st t2 a1, b1⟩
/-- a call that changes its world, and the rest of the caller's beside it -/
theorem cM (isC isR : List Nat) (hP : va_P (dC, dI) vwCl ws H) (hD : va_D A0 ws) (hS : va_S A0 H0 H locs) (hA : ∀ q, H0.size ≤ q → A0 q) (hC : isC.map (fun i => ws[i]?) = wc.map some) (hR : isR.map (fun i => ws[i]?) = wr.map some) (hn : va_nd isR = true) (hdis : ∀ i ∈ isR, i ∉ isC)
    (hr : va_Run p l e R s m args below meth c H locs cells slots mc ms (F0 m pc ls st0) rest (QU dC dI v Wp (va_A wc H.size) aa) (va_A wc H.size))
    (kk : ∀ (w1 : va_W) (H1 : Heap) (locs1 : List Loc), Wp w1 → va_P (dC, dI) vwCl (wr ++ w1) H1 → va_D A0 (wr ++ w1) → va_S A0 H0 H1 locs1 → W p l e R s m args below meth c H1 locs1 (cells + mc) (slots + ms) Q (F0 m (pc + 3) ls (v.toList ++ rest))) : W p l e R s m args below meth c H locs cells slots Q (F0 m pc ls st0) := by
  intro T hT X
  obtain ⟨v', st₀, t, T', L, h0, X', hL, e1, -, ⟨⟨hv, w1, hw, hP1, hD1⟩, hz, hk⟩, st⟩ := hr T hT X
  cases hv
  rw [h0] at hz hk
  have hFc := va_free hD hS hA isC hC
  obtain ⟨hP2, hD2⟩ := va_join hP hD isC isR hC hR hn hdis hk hFc hP1 hD1
  have hS2 : va_S A0 H0 t.heap (locs ++ L) := ⟨Nat.le_trans hS.1 hz, fun q h1 h2 => (hk q (Nat.lt_of_lt_of_le h1 hS.1) (fun z => h2 (hFc q z))).trans (hS.2.1 q h1 h2), fun q hq => by
    rcases List.mem_append.mp hq with h | h
    · exact hS.2.2 q h
    · exact hFc _ (hL q h)⟩
  obtain ⟨t2, a1, b1⟩ := kk w1 t.heap (locs ++ L) hw hP2 hD2 hS2 T' e1 X'
  exact ⟨t2, st t2 a1, b1⟩
theorem ra_eq {c1 c2 : ClassId} {ty : FieldType} (h1 : va_RA s c1 ty) (h2 : va_RA s c2 ty) : c1 = c2 := by
  cases ty with
  | object C =>
    obtain ⟨_, _, _, _, _, e1⟩ := h1
    obtain ⟨_, _, _, _, _, e2⟩ := h2
    exact Option.some.inj (e1.symm.trans e2)
  | _ => exact Option.some.inj (Eq.trans (Eq.symm h1) h2)
theorem k_eq {tys : List (ClassId × FieldType)} {D : va_G} {c1 c2 : ClassId} {ty : FieldType} (t0 : Nat) (ht : tys[t0]? = some (c2, ty)) (h : va_K D vwCl (tys ++ [(c1, ty)]) s) : c1 = c2 := by
  refine ra_eq (s := s) (ty := ty) (h.2 tys.length (c1, ty) (by simp)).2 (h.2 t0 (c2, ty) ?_).2
  rw [List.getElem?_append_left (List.getElem?_eq_some_iff.mp ht).1]
  exact ht
/-- new T[n], T a primitive type -/
theorem nw_a (hexec : p.tables.exec = Jvm.exec) (hb : c.code = cc) {atype : ArrayType} (harr : (Cond.arrayClass (newarray.typeOf atype)).before args s = true) {ty : FieldType} (hty : newarray.typeOf atype = ty) (hK : va_K (dC, dI) vwCl (tyL kA) s) (hP : va_P (dC, dI) vwCl ws H) (hD : va_D A ws) (hS : va_S A H0 H locs) (hA : ∀ q, H0.size ≤ q → A q) (t0 : Nat) {cA : ClassId} (ht : (tyL kA)[t0]? = some (cA, ty))
    {n : Int32} {N' : Nat} {a0 : vp_A} (ha : ∀ cA : ClassId, vp_cell cA a0 = arrV cA N' (fun _ => defaultValue ty)) (hn : ¬ n < 0) (hN : n.toNatClampNeg = N') (hbytes : N' * componentBytes ty ≤ 536870912) (hcells : cells + 1 ≤ R.cells) (hslots : slots + N' ≤ R.slots) (hdg : decode cc pc = .ok (.newarray atype, 2))
    (kk : ∀ (q : Nat) (H1 : Heap), va_P (dC, dI) vwCl (ws ++ [(q, .inl (cA, a0))]) H1 → va_D A (ws ++ [(q, .inl (cA, a0))]) → va_S A H0 H1 locs →
      W p l e R s m args below meth c H1 locs (cells + 1) (slots + N') Q (F0 m (pc + 2) ls (.ref q :: rest))) : W p l e R s m args below meth c H locs cells slots Q (F0 m pc ls (.int n :: rest)) := by
  refine va_newa hexec hb harr hty hK hP hD hS hA ha hn hN hbytes hcells hslots hdg (fun q cB H1 hK2 hP2 hD2 hS2 => ?_)
  have he : cB = cA := k_eq t0 ht hK2
  subst he
  exact kk q H1 hP2 hD2 hS2
/-- new T[n], T a class -/
theorem nw_q (hexec : p.tables.exec = Jvm.exec) (hb : c.code = cc) {own C : String} {index : Nat} (hown : s.vm.findClass own = some m.cls) (hclink : (Cond.classLink own index C).before args s = true) (hover : va_AO C s) (hK : va_K (dC, dI) vwCl (tyL kA) s) (hP : va_P (dC, dI) vwCl ws H) (hD : va_D A ws) (hS : va_S A H0 H locs) (hA : ∀ q, H0.size ≤ q → A q) (t0 : Nat) {cA : ClassId} (ht : (tyL kA)[t0]? = some (cA, .object C))
    {n : Int32} {N' : Nat} (hn : ¬ n < 0) (hN : n.toNatClampNeg = N') (hbytes : N' * 4 ≤ 536870912) (hcells : cells + 1 ≤ R.cells) (hslots : slots + N' ≤ R.slots) (hdg : decode cc pc = .ok (.anewarray index, 3))
    (kk : ∀ (q : Nat) (H1 : Heap), va_P (dC, dI) vwCl (ws ++ [(q, .inl (cA, N', .inr (.inr (.inr (.inr (fun _ => none))))))]) H1 → va_D A (ws ++ [(q, .inl (cA, N', .inr (.inr (.inr (.inr (fun _ => none))))))]) → va_S A H0 H1 locs →
      W p l e R s m args below meth c H1 locs (cells + 1) (slots + N') Q (F0 m (pc + 3) ls (.ref q :: rest))) : W p l e R s m args below meth c H locs cells slots Q (F0 m pc ls (.int n :: rest)) := by
  refine va_newq hexec hb hown hclink hover hK hP hD hS hA hn hN hbytes hcells hslots hdg (fun q cB H1 hK2 hP2 hD2 hS2 => ?_)
  have he : cB = cA := k_eq t0 ht hK2
  subst he
  exact kk q H1 hP2 hD2 hS2
/-- the ends of a method that changes its world -/
theorem rM_i {x : Int32} (hexec : p.tables.exec = Jvm.exec) (hb : c.code = cc) (hr : meth.sig.returnType = some .int) (hlocks : meth.locks = false) (hP : va_P (dC, dI) vwCl w1 H) (hD : va_D A w1) (hS : va_S A s.heap H locs) (hw : Wp w1) (hdg : decode cc pc = .ok (.ireturn, 1)) : W p l e R s m args below meth c H locs cells slots (MQ below (QU dC dI (some (.int x)) Wp A) args s cells slots A) (F0 m pc ls [.int x]) :=
  W.iret hexec hb hr (fun t ht _ => ⟨⟨rfl, w1, hw, by rw [ht]; exact hP, hD⟩, hS.F ht⟩) hS.2.2 hdg hlocks
theorem rM_z {x : Int32} (hexec : p.tables.exec = Jvm.exec) (hb : c.code = cc) (hr : meth.sig.returnType = some .boolean) (hlocks : meth.locks = false) (hn : narrow .boolean (.int x) = .int x) (hP : va_P (dC, dI) vwCl w1 H) (hD : va_D A w1) (hS : va_S A s.heap H locs) (hw : Wp w1) (hdg : decode cc pc = .ok (.ireturn, 1)) : W p l e R s m args below meth c H locs cells slots (MQ below (QU dC dI (some (.int x)) Wp A) args s cells slots A) (F0 m pc ls [.int x]) :=
  W.zret hexec hb hr hn (fun t ht _ => ⟨⟨rfl, w1, hw, by rw [ht]; exact hP, hD⟩, hS.F ht⟩) hS.2.2 hdg hlocks
theorem rM_v (hexec : p.tables.exec = Jvm.exec) (hb : c.code = cc) (hr : meth.sig.returnType = none) (hlocks : meth.locks = false) (hP : va_P (dC, dI) vwCl w1 H) (hD : va_D A w1) (hS : va_S A s.heap H locs) (hw : Wp w1) (hdg : decode cc pc = .ok (.return_, 1)) : W p l e R s m args below meth c H locs cells slots (MQ below (QU dC dI none Wp A) args s cells slots A) (F0 m pc ls []) :=
  W.vret hexec hb hr (fun t ht _ => ⟨⟨rfl, w1, hw, by rw [ht]; exact hP, hD⟩, hS.F ht⟩) hS.2.2 hdg hlocks
theorem rM_n {rt : FieldType} (hexec : p.tables.exec = Jvm.exec) (hb : c.code = cc) (hr : meth.sig.returnType = some rt) (hrt : (∃ n, rt = .object n) ∨ ∃ t, rt = .array t) (hlocks : meth.locks = false) (hP : va_P (dC, dI) vwCl w1 H) (hD : va_D A w1) (hS : va_S A s.heap H locs) (hw : Wp w1) (hdg : decode cc pc = .ok (.areturn, 1)) : W p l e R s m args below meth c H locs cells slots (MQ below (QU dC dI (some .null) Wp A) args s cells slots A) (F0 m pc ls [.null]) :=
  W.aret hexec hb hr hrt (Or.inl rfl) (fun t ht _ => ⟨⟨rfl, w1, hw, by rw [ht]; exact hP, hD⟩, hS.F ht⟩) hS.2.2 hdg hlocks
/-- the ends of a method that changes nothing -/
theorem rP_i {x : Int32} {fr : Nat → Prop} (hexec : p.tables.exec = Jvm.exec) (hb : c.code = cc) (hr : meth.sig.returnType = some .int) (hlocks : meth.locks = false) (hdg : decode cc pc = .ok (.ireturn, 1)) : W p l e R s m args below meth c s.heap [] cells slots (MQ below (QP (some (.int x))) args s cells slots fr) (F0 m pc ls [.int x]) :=
  W.iret hexec hb hr (fun t ht _ => ⟨rfl, ht⟩) (fun q h => by cases h) hdg hlocks
theorem rP_z {x : Int32} {fr : Nat → Prop} (hexec : p.tables.exec = Jvm.exec) (hb : c.code = cc) (hr : meth.sig.returnType = some .boolean) (hlocks : meth.locks = false) (hn : narrow .boolean (.int x) = .int x) (hdg : decode cc pc = .ok (.ireturn, 1)) : W p l e R s m args below meth c s.heap [] cells slots (MQ below (QP (some (.int x))) args s cells slots fr) (F0 m pc ls [.int x]) :=
  W.zret hexec hb hr hn (fun t ht _ => ⟨rfl, ht⟩) (fun q h => by cases h) hdg hlocks
end BaseW
/-- a contract of a method that changes its world, out of a walk -/
theorem met_M {l : Launch} {y : MethodName} {rm : Room} {av : List Value} {wi : va_W} {v : Option Value} {Wp : va_W → Prop} {mc ms : Nat} {cc : ByteArray} {maxL : Nat} {ret : Option FieldType} {own : String} {dC : Nat → ClassId} {dI : Nat → Nat → Nat} {kA : Nat → ClassId} {sz : Nat}
    (hy : plainName y.cls = true) (ho : y.cls = own) (hn : (lg_sl av).length ≤ maxL) 
    (body : ∀ (p : Program) (e : Env) (s : State) (m : MethodId) (below : List Frame) (meth : Method) (c : Code) (ls : Array Slot) (A : Nat → Prop), p.tables.exec = Jvm.exec → c.code = cc → meth.sig.returnType = ret → (∀ w ∈ lwG, w.before av.toArray s = true) → s.vm.findClass own = some m.cls → meth.locks = false → c.maxLocals = maxL → meth.name = y.name → va_K (dC, dI) vwCl (tyL kA) s → nwK s → (∀ q, s.heap.size ≤ q → A q) → va_P (dC, dI) vwCl wi s.heap → va_D A wi → va_S A s.heap s.heap [] → lv_has ls maxL (lv_args 0 av) →
      W p l e rm s m av.toArray below meth c s.heap [] 0 0 (MQ below (QU dC dI v Wp A) av.toArray s mc ms A) (F0 m 0 ls [])) :
    Met l y (wsU y cc maxL ret) rm (va_Pc av (PW dC dI kA wi sz)) (QU dC dI v Wp (va_A wi sz)) mc ms (va_A wi sz) := by
  refine Met.ofW (cc := cc) (maxL := maxL) (ret := ret) hy rfl ?_
  intro p e s m args below meth c s₁ B hml hv
  obtain ⟨rfl, hsz, hP, hK, hN, hD0⟩ := hv
  subst hsz
  subst ho
  have hl := lv_entry av (n := maxL) hn
  rw [lg_entry_eq]
  exact body p e s m below meth c _ (va_A wi s.heap.size) B.exec B.bytes B.returns (fun w h => atoms_spec (ws := wsU y cc maxL ret) B.pre w (List.mem_cons_of_mem _ h)) (findClass_of_methodNamed B.named) B.notSynchronized hml (name_of_methodNamed B.named B.method).1 hK hN (fun q h => Or.inr h) hP hD0.self va_S.rf hl
/-- a contract of a method that changes nothing, out of a walk -/
theorem met_P {l : Launch} {y : MethodName} {rm : Room} {av : List Value} {wi : va_W} {v : Option Value} {cc : ByteArray} {maxL : Nat} {ret : Option FieldType} {own : String} {dC : Nat → ClassId} {dI : Nat → Nat → Nat} {kA : Nat → ClassId} {sz : Nat}
    (hy : plainName y.cls = true) (ho : y.cls = own) (hn : (lg_sl av).length ≤ maxL) 
    (body : ∀ (p : Program) (e : Env) (s : State) (m : MethodId) (below : List Frame) (meth : Method) (c : Code) (ls : Array Slot), p.tables.exec = Jvm.exec → c.code = cc → meth.sig.returnType = ret → (∀ w ∈ lwG, w.before av.toArray s = true) → s.vm.findClass own = some m.cls → meth.locks = false → c.maxLocals = maxL → va_K (dC, dI) vwCl (tyL kA) s → nwK s → va_P (dC, dI) vwCl wi s.heap → va_D (fun _ => True) wi → lv_has ls maxL (lv_args 0 av) →
      W p l e rm s m av.toArray below meth c s.heap [] 0 0 (MQ below (QP v) av.toArray s 0 0 (fun _ => False)) (F0 m 0 ls [])) :
    Met l y (wsU y cc maxL ret) rm (va_Pc av (PW dC dI kA wi sz)) (QP v) 0 0 (fun _ => False) := by
  refine Met.ofW (cc := cc) (maxL := maxL) (ret := ret) hy rfl ?_
  intro p e s m args below meth c s₁ B hml hv
  obtain ⟨rfl, hsz, hP, hK, hN, hD0⟩ := hv
  subst ho
  have hl := lv_entry av (n := maxL) hn
  rw [lg_entry_eq]
  exact body p e s m below meth c _ B.exec B.bytes B.returns (fun w h => atoms_spec (ws := wsU y cc maxL ret) B.pre w (List.mem_cons_of_mem _ h)) (findClass_of_methodNamed B.named) B.notSynchronized hml hK hN hP hD0 hl
theorem va_zi (n : Nat) (ty : FieldType) (h : defaultValue ty = .int 0) (cA : ClassId) : vp_cell cA (n, .inl (fun _ => 0)) = arrV cA n (fun _ => defaultValue ty) := by
  rw [vp_cell_i, h]
theorem va_zl (n : Nat) (cA : ClassId) : vp_cell cA (n, .inr (.inl (fun _ => 0))) = arrV cA n (fun _ => defaultValue .long) := by
  rw [vp_cell_l]; rfl
theorem vpi {i : Int32} {n : Nat} (h : ¬ (i < 0 ∨ n ≤ i.toNatClampNeg)) : vp_in i n := h
end
section
/-! new int[8][7] -/
section MNA
variable {E : CtlPost} {e : Env} {d : Bool} {acts : List Action} {s : State}
theorem mn_na {c comp : ClassId} {k : Class} {ty : FieldType} {len : Nat} {init : Value} (hk : s.vm.classes[c]? = some k) (hkind : k.kind = .array comp ty) (hlimit : ¬ len > e.platform.arrayLengthLimit) (hheap : ¬ len * componentBytes ty > e.platform.maxHeapBytes) (hfit : fits ty init = true) (hdef : init.isDefault = true) {Q : Addr → Pre}
    (h1 : s.heap.size < e.platform.maxCells) (h2 : s.slotsUsed + len ≤ e.platform.maxSlots)
    (hq : Q s.heap.size d acts (s.pushCell { cls := c, slots := Array.replicate len init, vm := .none })) : wp (Jvm.newArray c len init) Q E e d acts s := by
  have ha : allocActs (Array.replicate len init) s.heap.size acts = acts := by
    unfold allocActs
    rw [if_pos (by rw [Array.all_replicate]; split <;> simp [hdef])]
  have hf : ∀ i v, (Array.replicate len init)[i]? = some v → s.fitsSlot c .none i v = true := by
    intro i v hv
    rw [Array.getElem?_replicate] at hv
    split at hv
    · cases hv
      simp [State.fitsSlot, State.slotType?, hk, hkind, hfit]
    · cases hv
  simp only [Jvm.newArray, Jvm.arrayFits, wp_bind', W.ask, W.ite, hlimit, if_false, wp_pure', W.theClass, hk, hkind, hheap, W.alloc, W.stop, Option.some.injEq, exists_eq_left', Array.size_replicate, ha]
  rw [if_neg (by omega)]
  exact ⟨h1, h2, hf, hq⟩
/-- the outer row at a, i of its places filled; a row; the state then -/
def mnO (cA : ClassId) (a : Nat) : Nat → Cell
  | 0 => { cls := cA, slots := Array.replicate 8 .null, vm := .none }
  | i + 1 => (mnO cA a i).setSlot i (.ref (a + 1 + i))
def mnR (cI : ClassId) : Cell := { cls := cI, slots := Array.replicate 7 (.int 0), vm := .none }
def mnS (T : State) (cA cI : ClassId) : Nat → State
  | 0 => T.pushCell (mnO cA T.heap.size 0)
  | i + 1 => ((mnS T cA cI i).pushCell (mnR cI)).setCell T.heap.size (mnO cA T.heap.size (i + 1))
theorem mnO_is (cA : ClassId) (a : Nat) (i : Nat) : (mnO cA a i).cls = cA ∧ (mnO cA a i).vm = .none ∧ (mnO cA a i).slots.size = 8 := by
  induction i with
  | zero => exact ⟨rfl, rfl, by simp [mnO]⟩
  | succ i ih => exact ⟨ih.1, ih.2.1, by show ((mnO cA a i).slots.setIfInBounds i _).size = 8; rw [Array.size_setIfInBounds]; exact ih.2.2⟩
theorem mnS_is (T : State) (cA cI : ClassId) (i : Nat) : (mnS T cA cI i).heap.size = T.heap.size + 1 + i ∧ (mnS T cA cI i).heap[T.heap.size]? = some (mnO cA T.heap.size i) ∧ (mnS T cA cI i).vm = T.vm ∧ (mnS T cA cI i).slotsUsed = T.slotsUsed + 8 + i * 7 ∧ ∀ a : Nat, a < T.heap.size → (mnS T cA cI i).heap[a]? = T.heap[a]? := by
  induction i with
  | zero => exact ⟨by simp [mnS], by simp [mnS], rfl, by simp [mnS, mnO], fun a h => State.heap_pushCell_of_lt _ _ h⟩
  | succ i ih =>
    obtain ⟨h1, h2, h3, h4, h5⟩ := ih
    have hlt : T.heap.size < (mnS T cA cI i).heap.size := by omega
    have hc : ((mnS T cA cI i).pushCell (mnR cI)).heap[T.heap.size]? = some (mnO cA T.heap.size i) := (State.heap_pushCell_of_lt _ _ hlt).trans h2
    refine ⟨?_, State.heap_setCell_self hc, by simp [mnS, h3], ?_, fun a ha => ?_⟩
    · show (((mnS T cA cI i).pushCell (mnR cI)).setCell _ _).heap.size = _
      rw [size_setCell, size_pushCell, h1]
      omega
    · simp [mnS, h4, mnR, Nat.succ_mul]
      omega
    · show (((mnS T cA cI i).pushCell (mnR cI)).setCell _ _).heap[a]? = _
      rw [State.heap_setCell_other (Nat.ne_of_gt ha), State.heap_pushCell_of_lt _ _ (Nat.lt_trans ha hlt)]
      exact h5 a ha
theorem mnS_top (T : State) (f : JFrame) (cA cI : ClassId) (i : Nat) : mnS (T.setTop f) cA cI i = (mnS T cA cI i).setTop f := by
  induction i with
  | zero => rfl
  | succ i ih => simp only [mnS, ih, State.heap_setTop, State.pushCell_setTop, State.setCell_setTop]
theorem mn_row {cI cc : ClassId} {kI : Class} (hk : s.vm.classes[cI]? = some kI) (hkind : kI.kind = .array cc .int) (hl : ¬ 7 > e.platform.arrayLengthLimit) (hh : ¬ 28 > e.platform.maxHeapBytes) (h1 : s.heap.size < e.platform.maxCells) (h2 : s.slotsUsed + 7 ≤ e.platform.maxSlots)
    {Q : Addr → Pre} (hq : Q s.heap.size d acts (s.pushCell (mnR cI))) : wp (multianewarray.make cI [7]) Q E e d acts s := by
  rw [multianewarray.make]
  simp only [wp_bind', W.ite, show ¬ (7 : Int32) < 0 by decide, if_false, wp_pure', W.theClass, hk, hkind, Option.some.injEq, exists_eq_left']
  exact mn_na (len := 7) hk hkind hl hh rfl rfl h1 h2 hq
theorem mn_all {cA cI cc : ClassId} {kA kI : Class} (hkA : s.vm.classes[cA]? = some kA) (hA : kA.kind = .array cI (.array .int)) (hkI : s.vm.classes[cI]? = some kI) (hI : kI.kind = .array cc .int) (hl : ¬ 8 > e.platform.arrayLengthLimit) (hh : ¬ 32 > e.platform.maxHeapBytes) (h1 : s.heap.size + 9 ≤ e.platform.maxCells) (h2 : s.slotsUsed + 64 ≤ e.platform.maxSlots)
    {Q : Addr → Pre} (hq : ∀ d' acts', Q s.heap.size d' acts' (mnS s cA cI 8)) : wp (multianewarray.make cA [8, 7]) Q E e d acts s := by
  rw [multianewarray.make]
  simp only [wp_bind', W.ite, show ¬ (8 : Int32) < 0 by decide, if_false, wp_pure', W.theClass, hkA, hA, Option.some.injEq, exists_eq_left']
  refine mn_na (len := 8) hkA hA hl hh rfl rfl (by omega) (by omega) ?_
  have hn : ([7].find? (fun x : Int32 => decide (x < 0))) = none := by decide
  simp only [hn]
  rw [ite_self, wp_bind', Std.Legacy.Range.forIn_eq_forIn_range']
  refine wp_forIn_inv (fun rest u => ∃ i, i ≤ 8 ∧ rest = List.range' i (8 - i) ∧ u = mnS s cA cI i) _ _ ⟨0, Nat.zero_le 8, rfl, rfl⟩ ?_ ?_
  · rintro x rest u d' acts' Q' ⟨i, hi, hr, rfl⟩ hn
    have hi8 : i < 8 := by
      rcases Nat.lt_or_ge i 8 with h | h
      · exact h
      · rw [show 8 - i = 0 by omega] at hr; cases hr
    rw [show 8 - i = (8 - (i + 1)) + 1 by omega, List.range'_succ] at hr
    obtain ⟨rfl, hrest⟩ := List.cons.inj hr
    obtain ⟨f1, f2, f3, f4, f5⟩ := mnS_is s cA cI x
    obtain ⟨o1, o2, o3⟩ := mnO_is cA s.heap.size x
    have hlt : s.heap.size < (mnS s cA cI x).heap.size := by omega
    simp only [wp_bind']
    refine mn_row (by rw [f3]; exact hkI) hI (by omega) (by omega) (by omega) (by rw [f4]; omega) ?_
    simp only [wp_bind', W.writeLoc, wp_pure']
    refine ⟨mnO cA s.heap.size x, (State.heap_pushCell_of_lt _ _ hlt).trans f2, by rw [o2]; simp, by rw [o3]; exact hi8, ?_, hn _ _ _ ⟨x + 1, hi8, hrest, ?_⟩⟩
    · rw [o1, o2]
      simp [State.fitsSlot, State.slotType?, f3, hkA, hA]
      rfl
    · rw [f1]; rfl
  · rintro u d' acts' ⟨i, hi, hr, rfl⟩
    have hi8 : i = 8 := by
      rcases Nat.lt_or_ge i 8 with h | h
      · rw [show 8 - i = (8 - (i + 1)) + 1 by omega, List.range'_succ] at hr; cases hr
      · omega
    subst hi8
    exact hq _ _
end MNA
section MNW
variable {p : Program} {l : Launch} {e : Env} {R : Room} {s : State} {m : MethodId} {args : Array Value} {below : List Frame} {meth : Method} {c : Code} {H : Heap} {locs : List Loc} {cells slots : Nat} {Q : State → Prop} {T : State}
variable {cc : ByteArray} {pc : Nat} {ls : Array Slot} {rest : List Value} {dC : Nat → ClassId} {dI : Nat → Nat → Nat} {A : Nat → Prop} {H0 : Heap} {ws : va_W}
theorem mn_stand (X : Stand p l e R s m args below meth c T locs cells slots) (cA cI : ClassId) (i : Nat) : Stand p l e R s m args below meth c (mnS T cA cI i) locs (cells + 1 + i) (slots + 8 + i * 7) := by
  induction i with
  | zero =>
    have h := X.pushed (mnO cA T.heap.size 0)
    rw [show (mnO cA T.heap.size 0).slots.size = 8 from (mnO_is cA T.heap.size 0).2.2] at h
    exact h
  | succ i ih =>
    obtain ⟨h1, h2, -, -, -⟩ := mnS_is T cA cI i
    have hc : ((mnS T cA cI i).pushCell (mnR cI)).heap[T.heap.size]? = some (mnO cA T.heap.size i) := (State.heap_pushCell_of_lt _ _ (show T.heap.size < (mnS T cA cI i).heap.size by rw [h1]; omega)).trans h2
    have h := (ih.pushed (mnR cI)).stored hc i (.ref (T.heap.size + 1 + i))
    rw [show (mnR cI).slots.size = 7 by simp [mnR]] at h
    have h3 := Stand.forget (extra := [⟨T.heap.size, i⟩]) h (fun y hy => by
      rcases List.mem_cons.mp hy with rfl | hy
      · exact X.heapGrown
      · cases hy)
    exact stand_widen h3 (by omega) (by omega)
/-- new int[8][7] -/
theorem nw_m (hexec : p.tables.exec = Jvm.exec) (hb : c.code = cc) {own : String} {index : Nat} (hown : s.vm.findClass own = some m.cls) (hclink : (Cond.classLink own index "[[I").before args s = true) (hmn : mnP s) (hP : va_P (dC, dI) vwCl ws H) (hD : va_D A ws) (hS : va_S A H0 H locs)
    (hcells : cells + 9 ≤ R.cells) (hslots : slots + 64 ≤ R.slots) (hdg : decode cc pc = .ok (.multianewarray index 2, 4))
    (kk : ∀ (q : Nat) (H1 : Heap), va_P (dC, dI) vwCl ws H1 → va_D A ws → va_S A H0 H1 locs →
      W p l e R s m args below meth c H1 locs (cells + 9) (slots + 64) Q (F0 m (pc + 4) ls (.ref q :: rest))) : W p l e R s m args below meth c H locs cells slots Q (F0 m pc ls (.int 7 :: .int 8 :: rest)) := by
  intro T hT X
  have hpl : e.platform.magicAccessors = ({} : Platform).magicAccessors := by rw [X.admits.platform]
  obtain ⟨cA, cI, kA, kI, cq, m1, m2, m3, m4, m5⟩ := hmn
  obtain ⟨c0, hfc0, hcl⟩ := Cond.classLink_spec hown hclink e.platform hpl
  cases m1.symm.trans hfc0
  obtain ⟨hg1, hwarm, -⟩ := State.classEntry (e := e) X.warmed hcl
  generalize T.vm.noted m.cls index (.cls cA) = vm1 at hg1 hwarm
  have X1 := X.noted hwarm
  obtain ⟨kA1, hkA1, eA⟩ := hwarm.alike.2.2 _ _ m2
  obtain ⟨kI1, hkI1, eI⟩ := hwarm.alike.2.2 _ _ m4
  obtain ⟨r1, r2⟩ := X.roomAbove hcells hslots
  have XF := mn_stand X1 cA cI 8
  obtain ⟨f1, f2, f3, f4, f5⟩ := mnS_is (T.setVm vm1) cA cI 8
  have hsz : (T.setVm vm1).heap.size = H.size := by show T.heap.size = _; rw [hT]
  have hold : ∀ a : Nat, a < H.size → (mnS (T.setVm vm1) cA cI 8).heap[a]? = H[a]? := fun a h => by
    rw [f5 a (by rw [hsz]; exact h)]
    show T.heap[a]? = _
    rw [hT]
  obtain ⟨t, a1, b1⟩ := kk T.heap.size (mnS (T.setVm vm1) cA cI 8).heap (hP.kept (fun k q hk => hold q.1 ((hP k q hk).lt))) hD ⟨Nat.le_trans hS.1 (by rw [f1, hsz]; omega), fun q h1 h2 => (hold q (Nat.lt_of_lt_of_le h1 hS.1)).trans (hS.2.1 q h1 h2), hS.2.2⟩ _ rfl (stand_widen XF (by omega) (by omega))
  refine ⟨t, ?_, b1⟩
  have hl8 : ¬ 8 > e.platform.arrayLengthLimit := by rw [Launch.admits_arrayLengthLimit X.admits]; omega
  have hh8 : ¬ 32 > e.platform.maxHeapBytes := by rw [Launch.admits_maxHeapBytes X.admits]; omega
  jvm_step X.here [hexec, hb, hdg]
  simp only [multianewarray.sem, wp_bind', W.resolveClassAt_links (t := T.setTop (F0 m pc ls (.int 7 :: .int 8 :: rest))) (mm := m) (vm' := vm1) (State.method?_setTop (F0 m pc ls (.int 7 :: .int 8 :: rest)) X.here.top) hg1]
  rw [W.popN, if_neg (by decide)]
  refine ⟨F0 m pc ls (.int 7 :: .int 8 :: rest), State.topJava?_setTop' (s := T.setVm vm1) _ X.here.top, [.int 8, .int 7], rest, rfl, rfl, ?_⟩
  simp only [List.mapM_cons, List.mapM_nil, wp_bind', wp_pure']
  refine mn_all (kA := kA1) (kI := kI1) (cc := cq) hkA1 (by rw [eA]; exact m3) hkI1 (by rw [eI]; exact m5) hl8 hh8 (by show T.heap.size + 9 ≤ _; exact r1) (by show T.slotsUsed + 64 ≤ _; exact r2) (fun d' acts' => ?_)
  have eS : ∀ f f' : JFrame, ((T.setTop f).setVm vm1).setTop f' = (T.setVm vm1).setTop f' := fun f f' => by
    show ((T.setVm vm1).setTop f).setTop f' = _
    rw [State.setTop_setTop]
  rw [eS, mnS_top]
  simp only [wp_bind', W.mark, W.pushRef, State.topJava?_setTop' _ XF.here.top, Option.some.injEq, exists_eq_left', State.setTop_setTop, State.heap_setTop]
  intro acts
  simp [jvm, XF.here.top]
  exact a1
end MNW
end
