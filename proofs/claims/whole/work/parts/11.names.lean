-- ===== PART A: goes FIRST, ahead of the names: the tables' words, and 'selects' of the private methods out of them =====
/-- a private method of a class that the tables say can be made, by its rows of tables_1 -/
def lw_okq (q : MethodName × Nat) : Prop := (q.1.cls ≠ "java/lang/invoke/MethodHandle" ∧ q.1.cls ≠ "java/lang/invoke/VarHandle") ∧ Cond.instantiable q.1.cls q.2 ∈ tables_1 ∧ Cond.privateMethod q.1 ∈ tables_1 ∧ Cond.instanceMethod q.1 ∈ tables_1
theorem lw_p0 : lw_okq (⟨"TypeAtNight$Rule", "putFirstRule", "()V"⟩, 7) := ⟨⟨by decide +kernel, by decide +kernel⟩, List.mem_of_getElem? (i := 141) (by decide +kernel), List.mem_of_getElem? (i := 147) (by decide +kernel), List.mem_of_getElem? (i := 148) (by decide +kernel)⟩
theorem lw_p1 : lw_okq (⟨"TypeAtNight$Rule", "putThing", "(I)V"⟩, 7) := ⟨⟨by decide +kernel, by decide +kernel⟩, List.mem_of_getElem? (i := 141) (by decide +kernel), List.mem_of_getElem? (i := 151) (by decide +kernel), List.mem_of_getElem? (i := 152) (by decide +kernel)⟩
theorem lw_p2 : lw_okq (⟨"TypeAtNight$Rule", "put", "(I)V"⟩, 7) := ⟨⟨by decide +kernel, by decide +kernel⟩, List.mem_of_getElem? (i := 141) (by decide +kernel), List.mem_of_getElem? (i := 155) (by decide +kernel), List.mem_of_getElem? (i := 156) (by decide +kernel)⟩
theorem lw_p3 : lw_okq (⟨"TypeAtNight", "faultOfLines", "()I"⟩, 16) := ⟨⟨by decide +kernel, by decide +kernel⟩, List.mem_of_getElem? (i := 30) (by decide +kernel), List.mem_of_getElem? (i := 351) (by decide +kernel), List.mem_of_getElem? (i := 352) (by decide +kernel)⟩
theorem lw_p4 : lw_okq (⟨"TypeAtNight", "addLines", "()I"⟩, 16) := ⟨⟨by decide +kernel, by decide +kernel⟩, List.mem_of_getElem? (i := 30) (by decide +kernel), List.mem_of_getElem? (i := 423) (by decide +kernel), List.mem_of_getElem? (i := 424) (by decide +kernel)⟩
theorem lw_p5 : lw_okq (⟨"TypeAtNight$Rule", "readExpression", "(LTypeAtNight$Text;I)Z"⟩, 7) := ⟨⟨by decide +kernel, by decide +kernel⟩, List.mem_of_getElem? (i := 141) (by decide +kernel), List.mem_of_getElem? (i := 463) (by decide +kernel), List.mem_of_getElem? (i := 464) (by decide +kernel)⟩
theorem lw_p6 : lw_okq (⟨"TypeAtNight$Rule", "readSum", "(LTypeAtNight$Text;I)Z"⟩, 7) := ⟨⟨by decide +kernel, by decide +kernel⟩, List.mem_of_getElem? (i := 141) (by decide +kernel), List.mem_of_getElem? (i := 467) (by decide +kernel), List.mem_of_getElem? (i := 468) (by decide +kernel)⟩
theorem lw_p7 : lw_okq (⟨"TypeAtNight$Rule", "readProduct", "(LTypeAtNight$Text;I)Z"⟩, 7) := ⟨⟨by decide +kernel, by decide +kernel⟩, List.mem_of_getElem? (i := 141) (by decide +kernel), List.mem_of_getElem? (i := 471) (by decide +kernel), List.mem_of_getElem? (i := 472) (by decide +kernel)⟩
theorem lw_p8 : lw_okq (⟨"TypeAtNight$Rule", "readThing", "(LTypeAtNight$Text;I)Z"⟩, 7) := ⟨⟨by decide +kernel, by decide +kernel⟩, List.mem_of_getElem? (i := 141) (by decide +kernel), List.mem_of_getElem? (i := 475) (by decide +kernel), List.mem_of_getElem? (i := 476) (by decide +kernel)⟩
theorem lw_p9 : lw_okq (⟨"TypeAtNight$Rule", "readNumber", "(LTypeAtNight$Text;)V"⟩, 7) := ⟨⟨by decide +kernel, by decide +kernel⟩, List.mem_of_getElem? (i := 141) (by decide +kernel), List.mem_of_getElem? (i := 539) (by decide +kernel), List.mem_of_getElem? (i := 540) (by decide +kernel)⟩
theorem lw_p10 : lw_okq (⟨"TypeAtNight$Rule", "readInner", "(LTypeAtNight$Text;I)Z"⟩, 7) := ⟨⟨by decide +kernel, by decide +kernel⟩, List.mem_of_getElem? (i := 141) (by decide +kernel), List.mem_of_getElem? (i := 543) (by decide +kernel), List.mem_of_getElem? (i := 544) (by decide +kernel)⟩
theorem lw_p11 : lw_okq (⟨"TypeAtNight", "readLetters", "()I"⟩, 16) := ⟨⟨by decide +kernel, by decide +kernel⟩, List.mem_of_getElem? (i := 30) (by decide +kernel), List.mem_of_getElem? (i := 566) (by decide +kernel), List.mem_of_getElem? (i := 567) (by decide +kernel)⟩
theorem lw_p12 : lw_okq (⟨"TypeAtNight$TypeCase", "whose", "([II)I"⟩, 9) := ⟨⟨by decide +kernel, by decide +kernel⟩, List.mem_of_getElem? (i := 66) (by decide +kernel), List.mem_of_getElem? (i := 589) (by decide +kernel), List.mem_of_getElem? (i := 590) (by decide +kernel)⟩
theorem lw_p13 : lw_okq (⟨"TypeAtNight$TypeCase", "leastWorn", "(I)I"⟩, 9) := ⟨⟨by decide +kernel, by decide +kernel⟩, List.mem_of_getElem? (i := 66) (by decide +kernel), List.mem_of_getElem? (i := 593) (by decide +kernel), List.mem_of_getElem? (i := 594) (by decide +kernel)⟩
theorem lw_p14 : lw_okq (⟨"TypeAtNight$TypeCase", "weighBoxes", "()V"⟩, 9) := ⟨⟨by decide +kernel, by decide +kernel⟩, List.mem_of_getElem? (i := 66) (by decide +kernel), List.mem_of_getElem? (i := 653) (by decide +kernel), List.mem_of_getElem? (i := 654) (by decide +kernel)⟩
theorem lw_p15 : lw_okq (⟨"TypeAtNight$TypeCase", "turn", "(LTypeAtNight$Rule;I)I"⟩, 9) := ⟨⟨by decide +kernel, by decide +kernel⟩, List.mem_of_getElem? (i := 66) (by decide +kernel), List.mem_of_getElem? (i := 658) (by decide +kernel), List.mem_of_getElem? (i := 659) (by decide +kernel)⟩
def lw_privs_1 : List (MethodName × Nat) := [(⟨"TypeAtNight$Rule", "putFirstRule", "()V"⟩, 7), (⟨"TypeAtNight$Rule", "putThing", "(I)V"⟩, 7), (⟨"TypeAtNight$Rule", "put", "(I)V"⟩, 7), (⟨"TypeAtNight", "faultOfLines", "()I"⟩, 16), (⟨"TypeAtNight", "addLines", "()I"⟩, 16), (⟨"TypeAtNight$Rule", "readExpression", "(LTypeAtNight$Text;I)Z"⟩, 7), (⟨"TypeAtNight$Rule", "readSum", "(LTypeAtNight$Text;I)Z"⟩, 7), (⟨"TypeAtNight$Rule", "readProduct", "(LTypeAtNight$Text;I)Z"⟩, 7), (⟨"TypeAtNight$Rule", "readThing", "(LTypeAtNight$Text;I)Z"⟩, 7), (⟨"TypeAtNight$Rule", "readNumber", "(LTypeAtNight$Text;)V"⟩, 7), (⟨"TypeAtNight$Rule", "readInner", "(LTypeAtNight$Text;I)Z"⟩, 7), (⟨"TypeAtNight", "readLetters", "()I"⟩, 16), (⟨"TypeAtNight$TypeCase", "whose", "([II)I"⟩, 9), (⟨"TypeAtNight$TypeCase", "leastWorn", "(I)I"⟩, 9), (⟨"TypeAtNight$TypeCase", "weighBoxes", "()V"⟩, 9), (⟨"TypeAtNight$TypeCase", "turn", "(LTypeAtNight$Rule;I)I"⟩, 9)]
theorem lw_r1 : ∀ q ∈ lw_privs_1, lw_okq q := List.forall_mem_cons.mpr ⟨lw_p0, List.forall_mem_cons.mpr ⟨lw_p1, List.forall_mem_cons.mpr ⟨lw_p2, List.forall_mem_cons.mpr ⟨lw_p3, List.forall_mem_cons.mpr ⟨lw_p4, List.forall_mem_cons.mpr ⟨lw_p5, List.forall_mem_cons.mpr ⟨lw_p6, List.forall_mem_cons.mpr ⟨lw_p7, List.forall_mem_cons.mpr ⟨lw_p8, List.forall_mem_cons.mpr ⟨lw_p9, List.forall_mem_cons.mpr ⟨lw_p10, List.forall_mem_cons.mpr ⟨lw_p11, List.forall_mem_cons.mpr ⟨lw_p12, List.forall_mem_cons.mpr ⟨lw_p13, List.forall_mem_cons.mpr ⟨lw_p14, List.forall_mem_cons.mpr ⟨lw_p15, fun _ h => absurd h List.not_mem_nil⟩⟩⟩⟩⟩⟩⟩⟩⟩⟩⟩⟩⟩⟩⟩⟩
theorem lw_p16 : lw_okq (⟨"TypeAtNight", "undoable", "(I)I"⟩, 16) := ⟨⟨by decide +kernel, by decide +kernel⟩, List.mem_of_getElem? (i := 30) (by decide +kernel), List.mem_of_getElem? (i := 700) (by decide +kernel), List.mem_of_getElem? (i := 701) (by decide +kernel)⟩
theorem lw_p17 : lw_okq (⟨"TypeAtNight", "faultOfWeek", "()I"⟩, 16) := ⟨⟨by decide +kernel, by decide +kernel⟩, List.mem_of_getElem? (i := 30) (by decide +kernel), List.mem_of_getElem? (i := 724) (by decide +kernel), List.mem_of_getElem? (i := 725) (by decide +kernel)⟩
theorem lw_p18 : lw_okq (⟨"TypeAtNight", "behindAct", "(II)I"⟩, 16) := ⟨⟨by decide +kernel, by decide +kernel⟩, List.mem_of_getElem? (i := 30) (by decide +kernel), List.mem_of_getElem? (i := 728) (by decide +kernel), List.mem_of_getElem? (i := 729) (by decide +kernel)⟩
theorem lw_p19 : lw_okq (⟨"TypeAtNight", "doAct", "(II)I"⟩, 16) := ⟨⟨by decide +kernel, by decide +kernel⟩, List.mem_of_getElem? (i := 30) (by decide +kernel), List.mem_of_getElem? (i := 746) (by decide +kernel), List.mem_of_getElem? (i := 747) (by decide +kernel)⟩
theorem lw_p20 : lw_okq (⟨"TypeAtNight", "setLetters", "(I)I"⟩, 16) := ⟨⟨by decide +kernel, by decide +kernel⟩, List.mem_of_getElem? (i := 30) (by decide +kernel), List.mem_of_getElem? (i := 750) (by decide +kernel), List.mem_of_getElem? (i := 751) (by decide +kernel)⟩
theorem lw_p21 : lw_okq (⟨"TypeAtNight$Words", "canBeSet", "(I)Z"⟩, 3) := ⟨⟨by decide +kernel, by decide +kernel⟩, List.mem_of_getElem? (i := 204) (by decide +kernel), List.mem_of_getElem? (i := 841) (by decide +kernel), List.mem_of_getElem? (i := 842) (by decide +kernel)⟩
theorem lw_p22 : lw_okq (⟨"TypeAtNight", "fewestToClean", "(III)I"⟩, 16) := ⟨⟨by decide +kernel, by decide +kernel⟩, List.mem_of_getElem? (i := 30) (by decide +kernel), List.mem_of_getElem? (i := 879) (by decide +kernel), List.mem_of_getElem? (i := 880) (by decide +kernel)⟩
theorem lw_p23 : lw_okq (⟨"TypeAtNight", "calms", "(IIII)Z"⟩, 16) := ⟨⟨by decide +kernel, by decide +kernel⟩, List.mem_of_getElem? (i := 30) (by decide +kernel), List.mem_of_getElem? (i := 883) (by decide +kernel), List.mem_of_getElem? (i := 884) (by decide +kernel)⟩
theorem lw_p24 : lw_okq (⟨"TypeAtNight$Boxing", "putApart", "(II)V"⟩, 2) := ⟨⟨by decide +kernel, by decide +kernel⟩, List.mem_of_getElem? (i := 220) (by decide +kernel), List.mem_of_getElem? (i := 902) (by decide +kernel), List.mem_of_getElem? (i := 903) (by decide +kernel)⟩
theorem lw_p25 : lw_okq (⟨"TypeAtNight$Mixing", "fitsAll", "(I)Z"⟩, 5) := ⟨⟨by decide +kernel, by decide +kernel⟩, List.mem_of_getElem? (i := 247) (by decide +kernel), List.mem_of_getElem? (i := 1014) (by decide +kernel), List.mem_of_getElem? (i := 1015) (by decide +kernel)⟩
theorem lw_p26 : lw_okq (⟨"TypeAtNight$Galley", "learn", "(I)V"⟩, 2) := ⟨⟨by decide +kernel, by decide +kernel⟩, List.mem_of_getElem? (i := 269) (by decide +kernel), List.mem_of_getElem? (i := 1065) (by decide +kernel), List.mem_of_getElem? (i := 1066) (by decide +kernel)⟩
theorem lw_p27 : lw_okq (⟨"java/lang/Throwable", "fillInStackTrace", "(I)Ljava/lang/Throwable;"⟩, 6) := ⟨⟨by decide +kernel, by decide +kernel⟩, List.mem_of_getElem? (i := 1181) (by decide +kernel), List.mem_of_getElem? (i := 1179) (by decide +kernel), List.mem_of_getElem? (i := 1180) (by decide +kernel)⟩
theorem lw_p28 : lw_okq (⟨"TypeAtNightModel", "beginText", "(I)V"⟩, 47) := ⟨⟨by decide +kernel, by decide +kernel⟩, List.mem_of_getElem? (i := 1242) (by decide +kernel), List.mem_of_getElem? (i := 1409) (by decide +kernel), List.mem_of_getElem? (i := 1410) (by decide +kernel)⟩
theorem lw_p29 : lw_okq (⟨"TypeAtNightModel", "begin", "([BII)V"⟩, 47) := ⟨⟨by decide +kernel, by decide +kernel⟩, List.mem_of_getElem? (i := 1242) (by decide +kernel), List.mem_of_getElem? (i := 1413) (by decide +kernel), List.mem_of_getElem? (i := 1414) (by decide +kernel)⟩
theorem lw_p30 : lw_okq (⟨"TypeAtNightModel", "fine", "()Z"⟩, 47) := ⟨⟨by decide +kernel, by decide +kernel⟩, List.mem_of_getElem? (i := 1242) (by decide +kernel), List.mem_of_getElem? (i := 1417) (by decide +kernel), List.mem_of_getElem? (i := 1418) (by decide +kernel)⟩
theorem lw_p31 : lw_okq (⟨"TypeAtNightModel", "fault", "(I)V"⟩, 47) := ⟨⟨by decide +kernel, by decide +kernel⟩, List.mem_of_getElem? (i := 1242) (by decide +kernel), List.mem_of_getElem? (i := 1421) (by decide +kernel), List.mem_of_getElem? (i := 1422) (by decide +kernel)⟩
def lw_privs_2 : List (MethodName × Nat) := [(⟨"TypeAtNight", "undoable", "(I)I"⟩, 16), (⟨"TypeAtNight", "faultOfWeek", "()I"⟩, 16), (⟨"TypeAtNight", "behindAct", "(II)I"⟩, 16), (⟨"TypeAtNight", "doAct", "(II)I"⟩, 16), (⟨"TypeAtNight", "setLetters", "(I)I"⟩, 16), (⟨"TypeAtNight$Words", "canBeSet", "(I)Z"⟩, 3), (⟨"TypeAtNight", "fewestToClean", "(III)I"⟩, 16), (⟨"TypeAtNight", "calms", "(IIII)Z"⟩, 16), (⟨"TypeAtNight$Boxing", "putApart", "(II)V"⟩, 2), (⟨"TypeAtNight$Mixing", "fitsAll", "(I)Z"⟩, 5), (⟨"TypeAtNight$Galley", "learn", "(I)V"⟩, 2), (⟨"java/lang/Throwable", "fillInStackTrace", "(I)Ljava/lang/Throwable;"⟩, 6), (⟨"TypeAtNightModel", "beginText", "(I)V"⟩, 47), (⟨"TypeAtNightModel", "begin", "([BII)V"⟩, 47), (⟨"TypeAtNightModel", "fine", "()Z"⟩, 47), (⟨"TypeAtNightModel", "fault", "(I)V"⟩, 47)]
theorem lw_r2 : ∀ q ∈ lw_privs_2, lw_okq q := List.forall_mem_cons.mpr ⟨lw_p16, List.forall_mem_cons.mpr ⟨lw_p17, List.forall_mem_cons.mpr ⟨lw_p18, List.forall_mem_cons.mpr ⟨lw_p19, List.forall_mem_cons.mpr ⟨lw_p20, List.forall_mem_cons.mpr ⟨lw_p21, List.forall_mem_cons.mpr ⟨lw_p22, List.forall_mem_cons.mpr ⟨lw_p23, List.forall_mem_cons.mpr ⟨lw_p24, List.forall_mem_cons.mpr ⟨lw_p25, List.forall_mem_cons.mpr ⟨lw_p26, List.forall_mem_cons.mpr ⟨lw_p27, List.forall_mem_cons.mpr ⟨lw_p28, List.forall_mem_cons.mpr ⟨lw_p29, List.forall_mem_cons.mpr ⟨lw_p30, List.forall_mem_cons.mpr ⟨lw_p31, fun _ h => absurd h List.not_mem_nil⟩⟩⟩⟩⟩⟩⟩⟩⟩⟩⟩⟩⟩⟩⟩⟩
theorem lw_p32 : lw_okq (⟨"TypeAtNightModel", "oneOf", "(CI)I"⟩, 47) := ⟨⟨by decide +kernel, by decide +kernel⟩, List.mem_of_getElem? (i := 1242) (by decide +kernel), List.mem_of_getElem? (i := 1425) (by decide +kernel), List.mem_of_getElem? (i := 1426) (by decide +kernel)⟩
theorem lw_p33 : lw_okq (⟨"TypeAtNightModel", "here", "()I"⟩, 47) := ⟨⟨by decide +kernel, by decide +kernel⟩, List.mem_of_getElem? (i := 1242) (by decide +kernel), List.mem_of_getElem? (i := 1429) (by decide +kernel), List.mem_of_getElem? (i := 1430) (by decide +kernel)⟩
theorem lw_p34 : lw_okq (⟨"TypeAtNightModel", "signedOf", "()I"⟩, 47) := ⟨⟨by decide +kernel, by decide +kernel⟩, List.mem_of_getElem? (i := 1242) (by decide +kernel), List.mem_of_getElem? (i := 1433) (by decide +kernel), List.mem_of_getElem? (i := 1434) (by decide +kernel)⟩
theorem lw_p35 : lw_okq (⟨"TypeAtNightModel", "passes", "(C)Z"⟩, 47) := ⟨⟨by decide +kernel, by decide +kernel⟩, List.mem_of_getElem? (i := 1242) (by decide +kernel), List.mem_of_getElem? (i := 1437) (by decide +kernel), List.mem_of_getElem? (i := 1438) (by decide +kernel)⟩
theorem lw_p36 : lw_okq (⟨"TypeAtNightModel", "wasRight", "()Z"⟩, 47) := ⟨⟨by decide +kernel, by decide +kernel⟩, List.mem_of_getElem? (i := 1242) (by decide +kernel), List.mem_of_getElem? (i := 1441) (by decide +kernel), List.mem_of_getElem? (i := 1442) (by decide +kernel)⟩
theorem lw_p37 : lw_okq (⟨"TypeAtNightModel", "readRule", "()Z"⟩, 47) := ⟨⟨by decide +kernel, by decide +kernel⟩, List.mem_of_getElem? (i := 1242) (by decide +kernel), List.mem_of_getElem? (i := 1449) (by decide +kernel), List.mem_of_getElem? (i := 1450) (by decide +kernel)⟩
theorem lw_p38 : lw_okq (⟨"TypeAtNightModel", "held", "(I)I"⟩, 47) := ⟨⟨by decide +kernel, by decide +kernel⟩, List.mem_of_getElem? (i := 1242) (by decide +kernel), List.mem_of_getElem? (i := 1453) (by decide +kernel), List.mem_of_getElem? (i := 1454) (by decide +kernel)⟩
theorem lw_p39 : lw_okq (⟨"TypeAtNightModel", "sum", "(I)I"⟩, 47) := ⟨⟨by decide +kernel, by decide +kernel⟩, List.mem_of_getElem? (i := 1242) (by decide +kernel), List.mem_of_getElem? (i := 1457) (by decide +kernel), List.mem_of_getElem? (i := 1458) (by decide +kernel)⟩
theorem lw_p40 : lw_okq (⟨"TypeAtNightModel", "product", "(I)I"⟩, 47) := ⟨⟨by decide +kernel, by decide +kernel⟩, List.mem_of_getElem? (i := 1242) (by decide +kernel), List.mem_of_getElem? (i := 1461) (by decide +kernel), List.mem_of_getElem? (i := 1462) (by decide +kernel)⟩
theorem lw_p41 : lw_okq (⟨"TypeAtNightModel", "thing", "(I)I"⟩, 47) := ⟨⟨by decide +kernel, by decide +kernel⟩, List.mem_of_getElem? (i := 1242) (by decide +kernel), List.mem_of_getElem? (i := 1465) (by decide +kernel), List.mem_of_getElem? (i := 1466) (by decide +kernel)⟩
theorem lw_p42 : lw_okq (⟨"TypeAtNightModel", "need", "(C)V"⟩, 47) := ⟨⟨by decide +kernel, by decide +kernel⟩, List.mem_of_getElem? (i := 1242) (by decide +kernel), List.mem_of_getElem? (i := 1469) (by decide +kernel), List.mem_of_getElem? (i := 1470) (by decide +kernel)⟩
theorem lw_p43 : lw_okq (⟨"TypeAtNightModel", "number", "(I)I"⟩, 47) := ⟨⟨by decide +kernel, by decide +kernel⟩, List.mem_of_getElem? (i := 1242) (by decide +kernel), List.mem_of_getElem? (i := 1473) (by decide +kernel), List.mem_of_getElem? (i := 1474) (by decide +kernel)⟩
theorem lw_p44 : lw_okq (⟨"TypeAtNightModel", "isSort", "(I)Z"⟩, 47) := ⟨⟨by decide +kernel, by decide +kernel⟩, List.mem_of_getElem? (i := 1242) (by decide +kernel), List.mem_of_getElem? (i := 1484) (by decide +kernel), List.mem_of_getElem? (i := 1485) (by decide +kernel)⟩
theorem lw_p45 : lw_okq (⟨"TypeAtNightModel", "lost", "()I"⟩, 47) := ⟨⟨by decide +kernel, by decide +kernel⟩, List.mem_of_getElem? (i := 1242) (by decide +kernel), List.mem_of_getElem? (i := 1488) (by decide +kernel), List.mem_of_getElem? (i := 1489) (by decide +kernel)⟩
theorem lw_p46 : lw_okq (⟨"TypeAtNightModel", "turnOf", "([II)I"⟩, 47) := ⟨⟨by decide +kernel, by decide +kernel⟩, List.mem_of_getElem? (i := 1242) (by decide +kernel), List.mem_of_getElem? (i := 1492) (by decide +kernel), List.mem_of_getElem? (i := 1493) (by decide +kernel)⟩
theorem lw_p47 : lw_okq (⟨"TypeAtNightModel", "inBox", "([II)I"⟩, 47) := ⟨⟨by decide +kernel, by decide +kernel⟩, List.mem_of_getElem? (i := 1242) (by decide +kernel), List.mem_of_getElem? (i := 1505) (by decide +kernel), List.mem_of_getElem? (i := 1506) (by decide +kernel)⟩
def lw_privs_3 : List (MethodName × Nat) := [(⟨"TypeAtNightModel", "oneOf", "(CI)I"⟩, 47), (⟨"TypeAtNightModel", "here", "()I"⟩, 47), (⟨"TypeAtNightModel", "signedOf", "()I"⟩, 47), (⟨"TypeAtNightModel", "passes", "(C)Z"⟩, 47), (⟨"TypeAtNightModel", "wasRight", "()Z"⟩, 47), (⟨"TypeAtNightModel", "readRule", "()Z"⟩, 47), (⟨"TypeAtNightModel", "held", "(I)I"⟩, 47), (⟨"TypeAtNightModel", "sum", "(I)I"⟩, 47), (⟨"TypeAtNightModel", "product", "(I)I"⟩, 47), (⟨"TypeAtNightModel", "thing", "(I)I"⟩, 47), (⟨"TypeAtNightModel", "need", "(C)V"⟩, 47), (⟨"TypeAtNightModel", "number", "(I)I"⟩, 47), (⟨"TypeAtNightModel", "isSort", "(I)Z"⟩, 47), (⟨"TypeAtNightModel", "lost", "()I"⟩, 47), (⟨"TypeAtNightModel", "turnOf", "([II)I"⟩, 47), (⟨"TypeAtNightModel", "inBox", "([II)I"⟩, 47)]
theorem lw_r3 : ∀ q ∈ lw_privs_3, lw_okq q := List.forall_mem_cons.mpr ⟨lw_p32, List.forall_mem_cons.mpr ⟨lw_p33, List.forall_mem_cons.mpr ⟨lw_p34, List.forall_mem_cons.mpr ⟨lw_p35, List.forall_mem_cons.mpr ⟨lw_p36, List.forall_mem_cons.mpr ⟨lw_p37, List.forall_mem_cons.mpr ⟨lw_p38, List.forall_mem_cons.mpr ⟨lw_p39, List.forall_mem_cons.mpr ⟨lw_p40, List.forall_mem_cons.mpr ⟨lw_p41, List.forall_mem_cons.mpr ⟨lw_p42, List.forall_mem_cons.mpr ⟨lw_p43, List.forall_mem_cons.mpr ⟨lw_p44, List.forall_mem_cons.mpr ⟨lw_p45, List.forall_mem_cons.mpr ⟨lw_p46, List.forall_mem_cons.mpr ⟨lw_p47, fun _ h => absurd h List.not_mem_nil⟩⟩⟩⟩⟩⟩⟩⟩⟩⟩⟩⟩⟩⟩⟩⟩
theorem lw_p48 : lw_okq (⟨"TypeAtNightModel", "moodsOf", "([II)I"⟩, 47) := ⟨⟨by decide +kernel, by decide +kernel⟩, List.mem_of_getElem? (i := 1242) (by decide +kernel), List.mem_of_getElem? (i := 1509) (by decide +kernel), List.mem_of_getElem? (i := 1510) (by decide +kernel)⟩
theorem lw_p49 : lw_okq (⟨"TypeAtNightModel", "wears", "()I"⟩, 47) := ⟨⟨by decide +kernel, by decide +kernel⟩, List.mem_of_getElem? (i := 1242) (by decide +kernel), List.mem_of_getElem? (i := 1520) (by decide +kernel), List.mem_of_getElem? (i := 1521) (by decide +kernel)⟩
theorem lw_p50 : lw_okq (⟨"TypeAtNightModel", "readLine", "()Z"⟩, 47) := ⟨⟨by decide +kernel, by decide +kernel⟩, List.mem_of_getElem? (i := 1242) (by decide +kernel), List.mem_of_getElem? (i := 1528) (by decide +kernel), List.mem_of_getElem? (i := 1529) (by decide +kernel)⟩
theorem lw_p51 : lw_okq (⟨"TypeAtNightModel", "layNeed", "()V"⟩, 47) := ⟨⟨by decide +kernel, by decide +kernel⟩, List.mem_of_getElem? (i := 1242) (by decide +kernel), List.mem_of_getElem? (i := 1532) (by decide +kernel), List.mem_of_getElem? (i := 1533) (by decide +kernel)⟩
theorem lw_p52 : lw_okq (⟨"TypeAtNightModel", "wouldTake", "()I"⟩, 47) := ⟨⟨by decide +kernel, by decide +kernel⟩, List.mem_of_getElem? (i := 1242) (by decide +kernel), List.mem_of_getElem? (i := 1536) (by decide +kernel), List.mem_of_getElem? (i := 1537) (by decide +kernel)⟩
theorem lw_p53 : lw_okq (⟨"TypeAtNightModel", "goSet", "([II)I"⟩, 47) := ⟨⟨by decide +kernel, by decide +kernel⟩, List.mem_of_getElem? (i := 1242) (by decide +kernel), List.mem_of_getElem? (i := 1543) (by decide +kernel), List.mem_of_getElem? (i := 1544) (by decide +kernel)⟩
theorem lw_p54 : lw_okq (⟨"TypeAtNightModel", "takes", "([II)I"⟩, 47) := ⟨⟨by decide +kernel, by decide +kernel⟩, List.mem_of_getElem? (i := 1242) (by decide +kernel), List.mem_of_getElem? (i := 1547) (by decide +kernel), List.mem_of_getElem? (i := 1548) (by decide +kernel)⟩
theorem lw_p55 : lw_okq (⟨"TypeAtNightModel", "remember", "([I)V"⟩, 47) := ⟨⟨by decide +kernel, by decide +kernel⟩, List.mem_of_getElem? (i := 1242) (by decide +kernel), List.mem_of_getElem? (i := 1551) (by decide +kernel), List.mem_of_getElem? (i := 1552) (by decide +kernel)⟩
theorem lw_p56 : lw_okq (⟨"TypeAtNightModel", "tell", "(J)V"⟩, 47) := ⟨⟨by decide +kernel, by decide +kernel⟩, List.mem_of_getElem? (i := 1242) (by decide +kernel), List.mem_of_getElem? (i := 1555) (by decide +kernel), List.mem_of_getElem? (i := 1556) (by decide +kernel)⟩
theorem lw_p57 : lw_okq (⟨"TypeAtNightModel", "goNights", "([II)V"⟩, 47) := ⟨⟨by decide +kernel, by decide +kernel⟩, List.mem_of_getElem? (i := 1242) (by decide +kernel), List.mem_of_getElem? (i := 1563) (by decide +kernel), List.mem_of_getElem? (i := 1564) (by decide +kernel)⟩
theorem lw_p58 : lw_okq (⟨"TypeAtNightModel", "goNight", "([I)V"⟩, 47) := ⟨⟨by decide +kernel, by decide +kernel⟩, List.mem_of_getElem? (i := 1242) (by decide +kernel), List.mem_of_getElem? (i := 1567) (by decide +kernel), List.mem_of_getElem? (i := 1568) (by decide +kernel)⟩
theorem lw_p59 : lw_okq (⟨"TypeAtNightModel", "all", "()I"⟩, 47) := ⟨⟨by decide +kernel, by decide +kernel⟩, List.mem_of_getElem? (i := 1242) (by decide +kernel), List.mem_of_getElem? (i := 1571) (by decide +kernel), List.mem_of_getElem? (i := 1572) (by decide +kernel)⟩
theorem lw_p60 : lw_okq (⟨"TypeAtNightModel", "atHome", "([I)I"⟩, 47) := ⟨⟨by decide +kernel, by decide +kernel⟩, List.mem_of_getElem? (i := 1242) (by decide +kernel), List.mem_of_getElem? (i := 1575) (by decide +kernel), List.mem_of_getElem? (i := 1576) (by decide +kernel)⟩
theorem lw_p61 : lw_okq (⟨"TypeAtNightModel", "refusesMove", "([III)I"⟩, 47) := ⟨⟨by decide +kernel, by decide +kernel⟩, List.mem_of_getElem? (i := 1242) (by decide +kernel), List.mem_of_getElem? (i := 1583) (by decide +kernel), List.mem_of_getElem? (i := 1584) (by decide +kernel)⟩
theorem lw_p62 : lw_okq (⟨"TypeAtNightModel", "refusesClean", "(I)I"⟩, 47) := ⟨⟨by decide +kernel, by decide +kernel⟩, List.mem_of_getElem? (i := 1242) (by decide +kernel), List.mem_of_getElem? (i := 1591) (by decide +kernel), List.mem_of_getElem? (i := 1592) (by decide +kernel)⟩
theorem lw_p63 : lw_okq (⟨"TypeAtNightModel", "refusesCast", "(I)I"⟩, 47) := ⟨⟨by decide +kernel, by decide +kernel⟩, List.mem_of_getElem? (i := 1242) (by decide +kernel), List.mem_of_getElem? (i := 1599) (by decide +kernel), List.mem_of_getElem? (i := 1600) (by decide +kernel)⟩
def lw_privs_4 : List (MethodName × Nat) := [(⟨"TypeAtNightModel", "moodsOf", "([II)I"⟩, 47), (⟨"TypeAtNightModel", "wears", "()I"⟩, 47), (⟨"TypeAtNightModel", "readLine", "()Z"⟩, 47), (⟨"TypeAtNightModel", "layNeed", "()V"⟩, 47), (⟨"TypeAtNightModel", "wouldTake", "()I"⟩, 47), (⟨"TypeAtNightModel", "goSet", "([II)I"⟩, 47), (⟨"TypeAtNightModel", "takes", "([II)I"⟩, 47), (⟨"TypeAtNightModel", "remember", "([I)V"⟩, 47), (⟨"TypeAtNightModel", "tell", "(J)V"⟩, 47), (⟨"TypeAtNightModel", "goNights", "([II)V"⟩, 47), (⟨"TypeAtNightModel", "goNight", "([I)V"⟩, 47), (⟨"TypeAtNightModel", "all", "()I"⟩, 47), (⟨"TypeAtNightModel", "atHome", "([I)I"⟩, 47), (⟨"TypeAtNightModel", "refusesMove", "([III)I"⟩, 47), (⟨"TypeAtNightModel", "refusesClean", "(I)I"⟩, 47), (⟨"TypeAtNightModel", "refusesCast", "(I)I"⟩, 47)]
theorem lw_r4 : ∀ q ∈ lw_privs_4, lw_okq q := List.forall_mem_cons.mpr ⟨lw_p48, List.forall_mem_cons.mpr ⟨lw_p49, List.forall_mem_cons.mpr ⟨lw_p50, List.forall_mem_cons.mpr ⟨lw_p51, List.forall_mem_cons.mpr ⟨lw_p52, List.forall_mem_cons.mpr ⟨lw_p53, List.forall_mem_cons.mpr ⟨lw_p54, List.forall_mem_cons.mpr ⟨lw_p55, List.forall_mem_cons.mpr ⟨lw_p56, List.forall_mem_cons.mpr ⟨lw_p57, List.forall_mem_cons.mpr ⟨lw_p58, List.forall_mem_cons.mpr ⟨lw_p59, List.forall_mem_cons.mpr ⟨lw_p60, List.forall_mem_cons.mpr ⟨lw_p61, List.forall_mem_cons.mpr ⟨lw_p62, List.forall_mem_cons.mpr ⟨lw_p63, fun _ h => absurd h List.not_mem_nil⟩⟩⟩⟩⟩⟩⟩⟩⟩⟩⟩⟩⟩⟩⟩⟩
theorem lw_p64 : lw_okq (⟨"TypeAtNightModel", "readAct", "(I)V"⟩, 47) := ⟨⟨by decide +kernel, by decide +kernel⟩, List.mem_of_getElem? (i := 1242) (by decide +kernel), List.mem_of_getElem? (i := 1607) (by decide +kernel), List.mem_of_getElem? (i := 1608) (by decide +kernel)⟩
theorem lw_p65 : lw_okq (⟨"TypeAtNightModel", "act", "(I)Z"⟩, 47) := ⟨⟨by decide +kernel, by decide +kernel⟩, List.mem_of_getElem? (i := 1242) (by decide +kernel), List.mem_of_getElem? (i := 1611) (by decide +kernel), List.mem_of_getElem? (i := 1612) (by decide +kernel)⟩
theorem lw_p66 : lw_okq (⟨"TypeAtNightModel", "free", "(I)I"⟩, 47) := ⟨⟨by decide +kernel, by decide +kernel⟩, List.mem_of_getElem? (i := 1242) (by decide +kernel), List.mem_of_getElem? (i := 1629) (by decide +kernel), List.mem_of_getElem? (i := 1630) (by decide +kernel)⟩
theorem lw_p67 : lw_okq (⟨"TypeAtNightModel", "isText", "(I)Z"⟩, 47) := ⟨⟨by decide +kernel, by decide +kernel⟩, List.mem_of_getElem? (i := 1242) (by decide +kernel), List.mem_of_getElem? (i := 1641) (by decide +kernel), List.mem_of_getElem? (i := 1642) (by decide +kernel)⟩
theorem lw_p68 : lw_okq (⟨"TypeAtNightModel", "canSet", "(I)Z"⟩, 47) := ⟨⟨by decide +kernel, by decide +kernel⟩, List.mem_of_getElem? (i := 1242) (by decide +kernel), List.mem_of_getElem? (i := 1653) (by decide +kernel), List.mem_of_getElem? (i := 1654) (by decide +kernel)⟩
theorem lw_p69 : lw_okq (⟨"TypeAtNightModel", "goThen", "(I)V"⟩, 47) := ⟨⟨by decide +kernel, by decide +kernel⟩, List.mem_of_getElem? (i := 1242) (by decide +kernel), List.mem_of_getElem? (i := 1661) (by decide +kernel), List.mem_of_getElem? (i := 1662) (by decide +kernel)⟩
theorem lw_p70 : lw_okq (⟨"TypeAtNightModel", "layTrail", "()V"⟩, 47) := ⟨⟨by decide +kernel, by decide +kernel⟩, List.mem_of_getElem? (i := 1242) (by decide +kernel), List.mem_of_getElem? (i := 1669) (by decide +kernel), List.mem_of_getElem? (i := 1670) (by decide +kernel)⟩
theorem lw_p71 : lw_okq (⟨"TypeAtNightModel", "areLike", "(IIII)Z"⟩, 47) := ⟨⟨by decide +kernel, by decide +kernel⟩, List.mem_of_getElem? (i := 1242) (by decide +kernel), List.mem_of_getElem? (i := 1673) (by decide +kernel), List.mem_of_getElem? (i := 1674) (by decide +kernel)⟩
theorem lw_p72 : lw_okq (⟨"TypeAtNightModel", "isCalm", "(III)Z"⟩, 47) := ⟨⟨by decide +kernel, by decide +kernel⟩, List.mem_of_getElem? (i := 1242) (by decide +kernel), List.mem_of_getElem? (i := 1690) (by decide +kernel), List.mem_of_getElem? (i := 1691) (by decide +kernel)⟩
theorem lw_p73 : lw_okq (⟨"TypeAtNightModel", "canBox", "(II)Z"⟩, 47) := ⟨⟨by decide +kernel, by decide +kernel⟩, List.mem_of_getElem? (i := 1242) (by decide +kernel), List.mem_of_getElem? (i := 1698) (by decide +kernel), List.mem_of_getElem? (i := 1699) (by decide +kernel)⟩
theorem lw_p74 : lw_okq (⟨"TypeAtNightModel", "isChord", "(I)Z"⟩, 47) := ⟨⟨by decide +kernel, by decide +kernel⟩, List.mem_of_getElem? (i := 1242) (by decide +kernel), List.mem_of_getElem? (i := 1714) (by decide +kernel), List.mem_of_getElem? (i := 1715) (by decide +kernel)⟩
theorem lw_p75 : lw_okq (⟨"TypeAtNightModel", "fitting", "()I"⟩, 47) := ⟨⟨by decide +kernel, by decide +kernel⟩, List.mem_of_getElem? (i := 1242) (by decide +kernel), List.mem_of_getElem? (i := 1733) (by decide +kernel), List.mem_of_getElem? (i := 1734) (by decide +kernel)⟩
theorem lw_p76 : lw_okq (⟨"TypeAtNightModel", "isSo", "(III)Z"⟩, 47) := ⟨⟨by decide +kernel, by decide +kernel⟩, List.mem_of_getElem? (i := 1242) (by decide +kernel), List.mem_of_getElem? (i := 1737) (by decide +kernel), List.mem_of_getElem? (i := 1738) (by decide +kernel)⟩
theorem lw_p77 : lw_okq (⟨"TypeAtNightModel", "isLaw", "(I)Z"⟩, 47) := ⟨⟨by decide +kernel, by decide +kernel⟩, List.mem_of_getElem? (i := 1242) (by decide +kernel), List.mem_of_getElem? (i := 1760) (by decide +kernel), List.mem_of_getElem? (i := 1761) (by decide +kernel)⟩
theorem lw_p78 : lw_okq (⟨"TypeAtNightModel", "farBehind5", "()I"⟩, 47) := ⟨⟨by decide +kernel, by decide +kernel⟩, List.mem_of_getElem? (i := 1242) (by decide +kernel), List.mem_of_getElem? (i := 1802) (by decide +kernel), List.mem_of_getElem? (i := 1803) (by decide +kernel)⟩
theorem lw_p79 : lw_okq (⟨"TypeAtNightModel", "draw", "(I)I"⟩, 47) := ⟨⟨by decide +kernel, by decide +kernel⟩, List.mem_of_getElem? (i := 1242) (by decide +kernel), List.mem_of_getElem? (i := 1810) (by decide +kernel), List.mem_of_getElem? (i := 1811) (by decide +kernel)⟩
def lw_privs_5 : List (MethodName × Nat) := [(⟨"TypeAtNightModel", "readAct", "(I)V"⟩, 47), (⟨"TypeAtNightModel", "act", "(I)Z"⟩, 47), (⟨"TypeAtNightModel", "free", "(I)I"⟩, 47), (⟨"TypeAtNightModel", "isText", "(I)Z"⟩, 47), (⟨"TypeAtNightModel", "canSet", "(I)Z"⟩, 47), (⟨"TypeAtNightModel", "goThen", "(I)V"⟩, 47), (⟨"TypeAtNightModel", "layTrail", "()V"⟩, 47), (⟨"TypeAtNightModel", "areLike", "(IIII)Z"⟩, 47), (⟨"TypeAtNightModel", "isCalm", "(III)Z"⟩, 47), (⟨"TypeAtNightModel", "canBox", "(II)Z"⟩, 47), (⟨"TypeAtNightModel", "isChord", "(I)Z"⟩, 47), (⟨"TypeAtNightModel", "fitting", "()I"⟩, 47), (⟨"TypeAtNightModel", "isSo", "(III)Z"⟩, 47), (⟨"TypeAtNightModel", "isLaw", "(I)Z"⟩, 47), (⟨"TypeAtNightModel", "farBehind5", "()I"⟩, 47), (⟨"TypeAtNightModel", "draw", "(I)I"⟩, 47)]
theorem lw_r5 : ∀ q ∈ lw_privs_5, lw_okq q := List.forall_mem_cons.mpr ⟨lw_p64, List.forall_mem_cons.mpr ⟨lw_p65, List.forall_mem_cons.mpr ⟨lw_p66, List.forall_mem_cons.mpr ⟨lw_p67, List.forall_mem_cons.mpr ⟨lw_p68, List.forall_mem_cons.mpr ⟨lw_p69, List.forall_mem_cons.mpr ⟨lw_p70, List.forall_mem_cons.mpr ⟨lw_p71, List.forall_mem_cons.mpr ⟨lw_p72, List.forall_mem_cons.mpr ⟨lw_p73, List.forall_mem_cons.mpr ⟨lw_p74, List.forall_mem_cons.mpr ⟨lw_p75, List.forall_mem_cons.mpr ⟨lw_p76, List.forall_mem_cons.mpr ⟨lw_p77, List.forall_mem_cons.mpr ⟨lw_p78, List.forall_mem_cons.mpr ⟨lw_p79, fun _ h => absurd h List.not_mem_nil⟩⟩⟩⟩⟩⟩⟩⟩⟩⟩⟩⟩⟩⟩⟩⟩
def lw_privs : List (MethodName × Nat) := lw_privs_1 ++ (lw_privs_2 ++ (lw_privs_3 ++ (lw_privs_4 ++ (lw_privs_5))))
def lw_tbl : List Cond := k2_sels lw_privs ++ tables_1
theorem lw_privs_ok : ∀ q ∈ lw_privs, lw_okq q := by
  show ∀ q ∈ lw_privs_1 ++ (lw_privs_2 ++ (lw_privs_3 ++ (lw_privs_4 ++ (lw_privs_5)))), lw_okq q
  exact List.forall_mem_append.mpr ⟨lw_r1, List.forall_mem_append.mpr ⟨lw_r2, List.forall_mem_append.mpr ⟨lw_r3, List.forall_mem_append.mpr ⟨lw_r4, lw_r5⟩⟩⟩⟩
/-! ===== BEGIN printed: names, fields, word lists, decode rows ===== -/
def RX0 : String := "TypeAtNight$Boxing"
def TX0 : u_T := fun k => match k with
  | 0 => ("TypeAtNight$Boxing", "place", "[I", true)
  | _ => ("TypeAtNight$Boxing", "apart", "[I", true)
def tyX0 : Nat → FieldType := fun k => match k with
  | 0 => .array .int
  | _ => .array .int
abbrev wsX00 : List Cond := u_ws RX0 TX0 2
theorem nmX0 : ∀ a, a < 2 → ∀ b, b < 2 → a ≠ b → (TX0 a).2.1 ≠ (TX0 b).2.1 := by decide +kernel
theorem tyX0_ok : ∀ k, k < 2 → parseFieldDescriptor (TX0 k).2.2.1 = some (tyX0 k) := by decide +kernel
abbrev cX0_init : ByteArray := prog_2_method_1_code
def yX0_init : MethodName := ⟨RX0, "<init>", "()V"⟩
abbrev cX0_read : ByteArray := prog_2_method_2_code
def yX0_read : MethodName := ⟨RX0, "read", "(LTypeAtNight$Text;)I"⟩
abbrev cX0_putApart : ByteArray := prog_2_method_3_code
def yX0_putApart : MethodName := ⟨RX0, "putApart", "(II)V"⟩
abbrev cX0_fewest : ByteArray := prog_2_method_4_code
def yX0_fewest : MethodName := ⟨RX0, "fewest", "()I"⟩
abbrev cX0_placeFrom : ByteArray := prog_2_method_5_code
def yX0_placeFrom : MethodName := ⟨RX0, "placeFrom", "([I[IIII)Z"⟩
abbrev cX0_mayStand : ByteArray := prog_2_method_6_code
def yX0_mayStand : MethodName := ⟨RX0, "mayStand", "([I[III)Z"⟩
def RX1 : String := "TypeAtNight$Galley"
def TX1 : u_T := fun k => match k with
  | 0 => ("TypeAtNight$Galley", "worth", "[I", true)
  | _ => ("TypeAtNight$Galley", "known", "I", false)
def tyX1 : Nat → FieldType := fun k => match k with
  | 0 => .array .int
  | _ => .int
abbrev wsX10 : List Cond := u_ws RX1 TX1 2
theorem nmX1 : ∀ a, a < 2 → ∀ b, b < 2 → a ≠ b → (TX1 a).2.1 ≠ (TX1 b).2.1 := by decide +kernel
theorem tyX1_ok : ∀ k, k < 2 → parseFieldDescriptor (TX1 k).2.2.1 = some (tyX1 k) := by decide +kernel
abbrev cX1_init : ByteArray := prog_3_method_1_code
def yX1_init : MethodName := ⟨RX1, "<init>", "()V"⟩
abbrev cX1_leftOfWin : ByteArray := prog_3_method_2_code
def yX1_leftOfWin : MethodName := ⟨RX1, "leftOfWin", "(I)I"⟩
abbrev cX1_learn : ByteArray := prog_3_method_3_code
def yX1_learn : MethodName := ⟨RX1, "learn", "(I)V"⟩
def RX2 : String := "TypeAtNight$Hearsay"
def TX2 : u_T := fun k => match k with
  | 0 => ("TypeAtNight$Hearsay", "questions", "[I", true)
  | _ => ("TypeAtNight$Hearsay", "size", "I", false)
def tyX2 : Nat → FieldType := fun k => match k with
  | 0 => .array .int
  | _ => .int
abbrev wsX20 : List Cond := u_ws RX2 TX2 2
theorem nmX2 : ∀ a, a < 2 → ∀ b, b < 2 → a ≠ b → (TX2 a).2.1 ≠ (TX2 b).2.1 := by decide +kernel
theorem tyX2_ok : ∀ k, k < 2 → parseFieldDescriptor (TX2 k).2.2.1 = some (tyX2 k) := by decide +kernel
abbrev cX2_init : ByteArray := prog_4_method_1_code
def yX2_init : MethodName := ⟨RX2, "<init>", "()V"⟩
abbrev cX2_size : ByteArray := prog_4_method_2_code
def yX2_size : MethodName := ⟨RX2, "size", "()I"⟩
abbrev cX2_hear : ByteArray := prog_4_method_3_code
def yX2_hear : MethodName := ⟨RX2, "hear", "(II)I"⟩
abbrev cX2_clear : ByteArray := prog_4_method_4_code
def yX2_clear : MethodName := ⟨RX2, "clear", "()I"⟩
abbrev cX2_mostOf : ByteArray := prog_4_method_5_code
def yX2_mostOf : MethodName := ⟨RX2, "mostOf", "(I)I"⟩
abbrev cX2_fitting : ByteArray := prog_4_method_6_code
def yX2_fitting : MethodName := ⟨RX2, "fitting", "(LTypeAtNight$TypeCase;)I"⟩
abbrev cX2_answering : ByteArray := prog_4_method_7_code
def yX2_answering : MethodName := ⟨RX2, "answering", "(LTypeAtNight$TypeCase;I)I"⟩
abbrev cX2_isSo : ByteArray := prog_4_method_8_code
def yX2_isSo : MethodName := ⟨RX2, "isSo", "(LTypeAtNight$TypeCase;III)Z"⟩
abbrev cX2_leftAtMost : ByteArray := prog_4_method_9_code
def yX2_leftAtMost : MethodName := ⟨RX2, "leftAtMost", "(LTypeAtNight$TypeCase;II)I"⟩
abbrev cX2_bestQuestion : ByteArray := prog_4_method_10_code
def yX2_bestQuestion : MethodName := ⟨RX2, "bestQuestion", "(LTypeAtNight$TypeCase;I)I"⟩
def RX3 : String := "TypeAtNight$Letters"
def TX3 : u_T := fun k => match k with
  | 0 => ("TypeAtNight$Letters", "need", "[I", true)
  | 1 => ("TypeAtNight$Letters", "size", "I", false)
  | 2 => ("TypeAtNight$Letters", "pools", "[I", true)
  | _ => ("TypeAtNight$Letters", "pool", "I", false)
def tyX3 : Nat → FieldType := fun k => match k with
  | 0 => .array .int
  | 1 => .int
  | 2 => .array .int
  | _ => .int
abbrev wsX30 : List Cond := u_ws RX3 TX3 4
theorem nmX3 : ∀ a, a < 4 → ∀ b, b < 4 → a ≠ b → (TX3 a).2.1 ≠ (TX3 b).2.1 := by decide +kernel
theorem tyX3_ok : ∀ k, k < 4 → parseFieldDescriptor (TX3 k).2.2.1 = some (tyX3 k) := by decide +kernel
abbrev cX3_init : ByteArray := prog_5_method_1_code
def yX3_init : MethodName := ⟨RX3, "<init>", "()V"⟩
abbrev cX3_read : ByteArray := prog_5_method_2_code
def yX3_read : MethodName := ⟨RX3, "read", "(LTypeAtNight$Text;II)I"⟩
abbrev cX3_gather : ByteArray := prog_5_method_3_code
def yX3_gather : MethodName := ⟨RX3, "gather", "(LTypeAtNight$TypeCase;)I"⟩
abbrev cX3_suits : ByteArray := prog_5_method_4_code
def yX3_suits : MethodName := ⟨RX3, "suits", "(I)Z"⟩
def RX4 : String := "TypeAtNight$Mixing"
def TX4 : u_T := fun k => match k with
  | 0 => ("TypeAtNight$Mixing", "moods", "[I", true)
  | 1 => ("TypeAtNight$Mixing", "besides", "[I", true)
  | 2 => ("TypeAtNight$Mixing", "outcomes", "[I", true)
  | 3 => ("TypeAtNight$Mixing", "lawsByOutcome", "[I", true)
  | _ => ("TypeAtNight$Mixing", "size", "I", false)
def tyX4 : Nat → FieldType := fun k => match k with
  | 0 => .array .int
  | 1 => .array .int
  | 2 => .array .int
  | 3 => .array .int
  | _ => .int
abbrev wsX40 : List Cond := u_ws RX4 TX4 5
theorem nmX4 : ∀ a, a < 5 → ∀ b, b < 5 → a ≠ b → (TX4 a).2.1 ≠ (TX4 b).2.1 := by decide +kernel
theorem tyX4_ok : ∀ k, k < 5 → parseFieldDescriptor (TX4 k).2.2.1 = some (tyX4 k) := by decide +kernel
abbrev cX4_init : ByteArray := prog_6_method_1_code
def yX4_init : MethodName := ⟨RX4, "<init>", "()V"⟩
abbrev cX4_size : ByteArray := prog_6_method_2_code
def yX4_size : MethodName := ⟨RX4, "size", "()I"⟩
abbrev cX4_see : ByteArray := prog_6_method_3_code
def yX4_see : MethodName := ⟨RX4, "see", "(III)I"⟩
abbrev cX4_clear : ByteArray := prog_6_method_4_code
def yX4_clear : MethodName := ⟨RX4, "clear", "()I"⟩
abbrev cX4_upperOf : ByteArray := prog_6_method_5_code
def yX4_upperOf : MethodName := ⟨RX4, "upperOf", "(I)I"⟩
abbrev cX4_lowerOf : ByteArray := prog_6_method_6_code
def yX4_lowerOf : MethodName := ⟨RX4, "lowerOf", "(I)I"⟩
abbrev cX4_becomes : ByteArray := prog_6_method_7_code
def yX4_becomes : MethodName := ⟨RX4, "becomes", "(III)I"⟩
abbrev cX4_fitting : ByteArray := prog_6_method_8_code
def yX4_fitting : MethodName := ⟨RX4, "fitting", "()I"⟩
abbrev cX4_fitsAll : ByteArray := prog_6_method_9_code
def yX4_fitsAll : MethodName := ⟨RX4, "fitsAll", "(I)Z"⟩
abbrev cX4_leftAtMost : ByteArray := prog_6_method_10_code
def yX4_leftAtMost : MethodName := ⟨RX4, "leftAtMost", "(II)I"⟩
abbrev cX4_bestLook : ByteArray := prog_6_method_11_code
def yX4_bestLook : MethodName := ⟨RX4, "bestLook", "(I)I"⟩
def RX5 : String := "TypeAtNight$Numbers"
def TX5 : u_T := fun k => match k with
  | 0 => ("TypeAtNight$Numbers", "numbers", "[J", true)
  | _ => ("TypeAtNight$Numbers", "size", "I", false)
def tyX5 : Nat → FieldType := fun k => match k with
  | 0 => .array .long
  | _ => .int
abbrev wsX50 : List Cond := u_ws RX5 TX5 2
theorem nmX5 : ∀ a, a < 2 → ∀ b, b < 2 → a ≠ b → (TX5 a).2.1 ≠ (TX5 b).2.1 := by decide +kernel
theorem tyX5_ok : ∀ k, k < 2 → parseFieldDescriptor (TX5 k).2.2.1 = some (tyX5 k) := by decide +kernel
abbrev cX5_init : ByteArray := prog_7_method_1_code
def yX5_init : MethodName := ⟨RX5, "<init>", "()V"⟩
abbrev cX5_clear : ByteArray := prog_7_method_2_code
def yX5_clear : MethodName := ⟨RX5, "clear", "()V"⟩
abbrev cX5_add : ByteArray := prog_7_method_3_code
def yX5_add : MethodName := ⟨RX5, "add", "(J)V"⟩
abbrev cX5_tell : ByteArray := prog_7_method_4_code
def yX5_tell : MethodName := ⟨RX5, "tell", "(J)V"⟩
abbrev cX5_tell_ : ByteArray := prog_7_method_5_code
def yX5_tell_ : MethodName := ⟨RX5, "tell", "(JJ)V"⟩
abbrev cX5_tell__ : ByteArray := prog_7_method_6_code
def yX5_tell__ : MethodName := ⟨RX5, "tell", "(JJJ)V"⟩
abbrev cX5_size : ByteArray := prog_7_method_7_code
def yX5_size : MethodName := ⟨RX5, "size", "()I"⟩
abbrev cX5_has : ByteArray := prog_7_method_8_code
def yX5_has : MethodName := ⟨RX5, "has", "(I)Z"⟩
abbrev cX5_at : ByteArray := prog_7_method_9_code
def yX5_at : MethodName := ⟨RX5, "at", "(I)J"⟩
def RX6 : String := "TypeAtNight$Past"
def TX6 : u_T := fun k => match k with
  | 0 => ("TypeAtNight$Past", "cases", "[LTypeAtNight$TypeCase;", true)
  | 1 => ("TypeAtNight$Past", "kept", "[LTypeAtNight$TypeCase;", true)
  | 2 => ("TypeAtNight$Past", "isKept", "[Z", true)
  | 3 => ("TypeAtNight$Past", "size", "I", false)
  | _ => ("TypeAtNight$Past", "next", "I", false)
def tyX6 : Nat → FieldType := fun k => match k with
  | 0 => .array (.object "TypeAtNight$TypeCase")
  | 1 => .array (.object "TypeAtNight$TypeCase")
  | 2 => .array .boolean
  | 3 => .int
  | _ => .int
abbrev wsX60 : List Cond := u_ws RX6 TX6 5
theorem nmX6 : ∀ a, a < 5 → ∀ b, b < 5 → a ≠ b → (TX6 a).2.1 ≠ (TX6 b).2.1 := by decide +kernel
theorem tyX6_ok : ∀ k, k < 5 → parseFieldDescriptor (TX6 k).2.2.1 = some (tyX6 k) := by decide +kernel
abbrev cX6_init : ByteArray := prog_8_method_1_code
def yX6_init : MethodName := ⟨RX6, "<init>", "()V"⟩
abbrev cX6_size : ByteArray := prog_8_method_2_code
def yX6_size : MethodName := ⟨RX6, "size", "()I"⟩
abbrev cX6_clear : ByteArray := prog_8_method_3_code
def yX6_clear : MethodName := ⟨RX6, "clear", "()V"⟩
abbrev cX6_push : ByteArray := prog_8_method_4_code
def yX6_push : MethodName := ⟨RX6, "push", "(LTypeAtNight$TypeCase;)V"⟩
abbrev cX6_pop : ByteArray := prog_8_method_5_code
def yX6_pop : MethodName := ⟨RX6, "pop", "(LTypeAtNight$TypeCase;)Z"⟩
abbrev cX6_keepUnder : ByteArray := prog_8_method_6_code
def yX6_keepUnder : MethodName := ⟨RX6, "keepUnder", "(ILTypeAtNight$TypeCase;)Z"⟩
abbrev cX6_bringBack : ByteArray := prog_8_method_7_code
def yX6_bringBack : MethodName := ⟨RX6, "bringBack", "(ILTypeAtNight$TypeCase;)Z"⟩
def RX7 : String := "TypeAtNight$Rule"
def TX7 : u_T := fun k => match k with
  | 0 => ("TypeAtNight$Rule", "things", "[I", true)
  | 1 => ("TypeAtNight$Rule", "steps", "[I", true)
  | 2 => ("TypeAtNight$Rule", "stack", "[I", true)
  | 3 => ("TypeAtNight$Rule", "size", "I", false)
  | 4 => ("TypeAtNight$Rule", "hasNight", "Z", false)
  | 5 => ("TypeAtNight$Rule", "at", "I", false)
  | _ => ("TypeAtNight$Rule", "end", "I", false)
def tyX7 : Nat → FieldType := fun k => match k with
  | 0 => .array .int
  | 1 => .array .int
  | 2 => .array .int
  | 3 => .int
  | 4 => .boolean
  | 5 => .int
  | _ => .int
abbrev wsX70 : List Cond := u_ws RX7 TX7 7
theorem nmX7 : ∀ a, a < 7 → ∀ b, b < 7 → a ≠ b → (TX7 a).2.1 ≠ (TX7 b).2.1 := by decide +kernel
theorem tyX7_ok : ∀ k, k < 7 → parseFieldDescriptor (TX7 k).2.2.1 = some (tyX7 k) := by decide +kernel
abbrev cX7_init : ByteArray := prog_9_method_1_code
def yX7_init : MethodName := ⟨RX7, "<init>", "()V"⟩
abbrev cX7_looksAtNight : ByteArray := prog_9_method_2_code
def yX7_looksAtNight : MethodName := ⟨RX7, "looksAtNight", "()Z"⟩
abbrev cX7_read : ByteArray := prog_9_method_3_code
def yX7_read : MethodName := ⟨RX7, "read", "(LTypeAtNight$Text;)I"⟩
abbrev cX7_putFirstRule : ByteArray := prog_9_method_4_code
def yX7_putFirstRule : MethodName := ⟨RX7, "putFirstRule", "()V"⟩
abbrev cX7_put : ByteArray := prog_9_method_5_code
def yX7_put : MethodName := ⟨RX7, "put", "(I)V"⟩
abbrev cX7_putThing : ByteArray := prog_9_method_6_code
def yX7_putThing : MethodName := ⟨RX7, "putThing", "(I)V"⟩
abbrev cX7_readExpression : ByteArray := prog_9_method_7_code
def yX7_readExpression : MethodName := ⟨RX7, "readExpression", "(LTypeAtNight$Text;I)Z"⟩
abbrev cX7_readSum : ByteArray := prog_9_method_8_code
def yX7_readSum : MethodName := ⟨RX7, "readSum", "(LTypeAtNight$Text;I)Z"⟩
abbrev cX7_readProduct : ByteArray := prog_9_method_9_code
def yX7_readProduct : MethodName := ⟨RX7, "readProduct", "(LTypeAtNight$Text;I)Z"⟩
abbrev cX7_readThing : ByteArray := prog_9_method_10_code
def yX7_readThing : MethodName := ⟨RX7, "readThing", "(LTypeAtNight$Text;I)Z"⟩
abbrev cX7_readNumber : ByteArray := prog_9_method_11_code
def yX7_readNumber : MethodName := ⟨RX7, "readNumber", "(LTypeAtNight$Text;)V"⟩
abbrev cX7_readInner : ByteArray := prog_9_method_12_code
def yX7_readInner : MethodName := ⟨RX7, "readInner", "(LTypeAtNight$Text;I)Z"⟩
abbrev cX7_value : ByteArray := prog_9_method_13_code
def yX7_value : MethodName := ⟨RX7, "value", "()I"⟩
def RX8 : String := "TypeAtNight$Text"
def TX8 : u_T := fun k => match k with
  | 0 => ("TypeAtNight$Text", "signs", "[C", true)
  | _ => ("TypeAtNight$Text", "size", "I", false)
def tyX8 : Nat → FieldType := fun k => match k with
  | 0 => .array .char
  | _ => .int
abbrev wsX80 : List Cond := u_ws RX8 TX8 2
theorem nmX8 : ∀ a, a < 2 → ∀ b, b < 2 → a ≠ b → (TX8 a).2.1 ≠ (TX8 b).2.1 := by decide +kernel
theorem tyX8_ok : ∀ k, k < 2 → parseFieldDescriptor (TX8 k).2.2.1 = some (tyX8 k) := by decide +kernel
abbrev cX8_init : ByteArray := prog_10_method_1_code
def yX8_init : MethodName := ⟨RX8, "<init>", "()V"⟩
abbrev cX8_append : ByteArray := prog_10_method_2_code
def yX8_append : MethodName := ⟨RX8, "append", "(I)I"⟩
abbrev cX8_cut : ByteArray := prog_10_method_3_code
def yX8_cut : MethodName := ⟨RX8, "cut", "(I)Z"⟩
abbrev cX8_clear : ByteArray := prog_10_method_4_code
def yX8_clear : MethodName := ⟨RX8, "clear", "()V"⟩
abbrev cX8_size : ByteArray := prog_10_method_5_code
def yX8_size : MethodName := ⟨RX8, "size", "()I"⟩
abbrev cX8_at : ByteArray := prog_10_method_6_code
def yX8_at : MethodName := ⟨RX8, "at", "(I)I"⟩
abbrev cX8_letterAt : ByteArray := prog_10_method_7_code
def yX8_letterAt : MethodName := ⟨RX8, "letterAt", "(I)I"⟩
abbrev cX8_digitAt : ByteArray := prog_10_method_8_code
def yX8_digitAt : MethodName := ⟨RX8, "digitAt", "(I)I"⟩
abbrev cX8_twoDigitsAt : ByteArray := prog_10_method_9_code
def yX8_twoDigitsAt : MethodName := ⟨RX8, "twoDigitsAt", "(I)I"⟩
abbrev cX8_signedDigitAt : ByteArray := prog_10_method_10_code
def yX8_signedDigitAt : MethodName := ⟨RX8, "signedDigitAt", "(I)I"⟩
abbrev cX8_misfit : ByteArray := prog_10_method_11_code
def yX8_misfit : MethodName := ⟨RX8, "misfit", "(Ljava/lang/String;II)I"⟩
abbrev cX8_stands : ByteArray := prog_10_method_12_code
def yX8_stands : MethodName := ⟨RX8, "stands", "(CI)Z"⟩
def RX9 : String := "TypeAtNight$TypeCase"
def TX9 : u_T := fun k => match k with
  | 0 => ("TypeAtNight$TypeCase", "letter", "[I", true)
  | 1 => ("TypeAtNight$TypeCase", "wear", "[I", true)
  | 2 => ("TypeAtNight$TypeCase", "mood", "[I", true)
  | 3 => ("TypeAtNight$TypeCase", "box", "[I", true)
  | 4 => ("TypeAtNight$TypeCase", "size", "I", false)
  | 5 => ("TypeAtNight$TypeCase", "standing", "I", false)
  | 6 => ("TypeAtNight$TypeCase", "night", "I", false)
  | 7 => ("TypeAtNight$TypeCase", "moodsInBox", "[I", true)
  | _ => ("TypeAtNight$TypeCase", "sortsInBox", "[I", true)
def tyX9 : Nat → FieldType := fun k => match k with
  | 0 => .array .int
  | 1 => .array .int
  | 2 => .array .int
  | 3 => .array .int
  | 4 => .int
  | 5 => .int
  | 6 => .int
  | 7 => .array .int
  | _ => .array .int
abbrev wsX90 : List Cond := u_ws RX9 TX9 9
theorem nmX9 : ∀ a, a < 9 → ∀ b, b < 9 → a ≠ b → (TX9 a).2.1 ≠ (TX9 b).2.1 := by decide +kernel
theorem tyX9_ok : ∀ k, k < 9 → parseFieldDescriptor (TX9 k).2.2.1 = some (tyX9 k) := by decide +kernel
abbrev cX9_init : ByteArray := prog_11_method_1_code
def yX9_init : MethodName := ⟨RX9, "<init>", "()V"⟩
abbrev cX9_copy : ByteArray := prog_11_method_2_code
def yX9_copy : MethodName := ⟨RX9, "copy", "(LTypeAtNight$TypeCase;)V"⟩
abbrev cX9_add : ByteArray := prog_11_method_3_code
def yX9_add : MethodName := ⟨RX9, "add", "(III)V"⟩
abbrev cX9_has : ByteArray := prog_11_method_4_code
def yX9_has : MethodName := ⟨RX9, "has", "(I)Z"⟩
abbrev cX9_all : ByteArray := prog_11_method_5_code
def yX9_all : MethodName := ⟨RX9, "all", "()I"⟩
abbrev cX9_free : ByteArray := prog_11_method_6_code
def yX9_free : MethodName := ⟨RX9, "free", "()I"⟩
abbrev cX9_ofLetter : ByteArray := prog_11_method_7_code
def yX9_ofLetter : MethodName := ⟨RX9, "ofLetter", "(I)I"⟩
abbrev cX9_freeOf : ByteArray := prog_11_method_8_code
def yX9_freeOf : MethodName := ⟨RX9, "freeOf", "(I)I"⟩
abbrev cX9_inBox : ByteArray := prog_11_method_9_code
def yX9_inBox : MethodName := ⟨RX9, "inBox", "(I)I"⟩
abbrev cX9_whose : ByteArray := prog_11_method_10_code
def yX9_whose : MethodName := ⟨RX9, "whose", "([II)I"⟩
abbrev cX9_moodsOf : ByteArray := prog_11_method_11_code
def yX9_moodsOf : MethodName := ⟨RX9, "moodsOf", "(I)I"⟩
abbrev cX9_moodsOfAll : ByteArray := prog_11_method_12_code
def yX9_moodsOfAll : MethodName := ⟨RX9, "moodsOfAll", "()I"⟩
abbrev cX9_farFromRest : ByteArray := prog_11_method_13_code
def yX9_farFromRest : MethodName := ⟨RX9, "farFromRest", "()I"⟩
abbrev cX9_wearOfAll : ByteArray := prog_11_method_14_code
def yX9_wearOfAll : MethodName := ⟨RX9, "wearOfAll", "()I"⟩
abbrev cX9_atHome : ByteArray := prog_11_method_15_code
def yX9_atHome : MethodName := ⟨RX9, "atHome", "()I"⟩
abbrev cX9_hasTwoLetters : ByteArray := prog_11_method_16_code
def yX9_hasTwoLetters : MethodName := ⟨RX9, "hasTwoLetters", "(I)Z"⟩
abbrev cX9_lettersOf : ByteArray := prog_11_method_17_code
def yX9_lettersOf : MethodName := ⟨RX9, "lettersOf", "(I)I"⟩
abbrev cX9_packedMoods : ByteArray := prog_11_method_18_code
def yX9_packedMoods : MethodName := ⟨RX9, "packedMoods", "()J"⟩
abbrev cX9_wouldTake : ByteArray := prog_11_method_19_code
def yX9_wouldTake : MethodName := ⟨RX9, "wouldTake", "(LTypeAtNight$Letters;)I"⟩
abbrev cX9_leastWorn : ByteArray := prog_11_method_20_code
def yX9_leastWorn : MethodName := ⟨RX9, "leastWorn", "(I)I"⟩
abbrev cX9_setSorts : ByteArray := prog_11_method_21_code
def yX9_setSorts : MethodName := ⟨RX9, "setSorts", "(II)V"⟩
abbrev cX9_moveTo : ByteArray := prog_11_method_22_code
def yX9_moveTo : MethodName := ⟨RX9, "moveTo", "(II)I"⟩
abbrev cX9_clean : ByteArray := prog_11_method_23_code
def yX9_clean : MethodName := ⟨RX9, "clean", "(I)I"⟩
abbrev cX9_castAnew : ByteArray := prog_11_method_24_code
def yX9_castAnew : MethodName := ⟨RX9, "castAnew", "(I)I"⟩
abbrev cX9_distribute : ByteArray := prog_11_method_25_code
def yX9_distribute : MethodName := ⟨RX9, "distribute", "()V"⟩
abbrev cX9_passNights : ByteArray := prog_11_method_26_code
def yX9_passNights : MethodName := ⟨RX9, "passNights", "(LTypeAtNight$Rule;II)V"⟩
abbrev cX9_passNight : ByteArray := prog_11_method_27_code
def yX9_passNight : MethodName := ⟨RX9, "passNight", "(LTypeAtNight$Rule;I)Z"⟩
abbrev cX9_turnNow : ByteArray := prog_11_method_28_code
def yX9_turnNow : MethodName := ⟨RX9, "turnNow", "(LTypeAtNight$Rule;I)I"⟩
abbrev cX9_weighBoxes : ByteArray := prog_11_method_29_code
def yX9_weighBoxes : MethodName := ⟨RX9, "weighBoxes", "()V"⟩
abbrev cX9_turn : ByteArray := prog_11_method_30_code
def yX9_turn : MethodName := ⟨RX9, "turn", "(LTypeAtNight$Rule;I)I"⟩
def RX10 : String := "TypeAtNight$Words"
def TX10 : u_T := fun k => match k with
  | 0 => ("TypeAtNight$Words", "need", "[I", true)
  | 1 => ("TypeAtNight$Words", "there", "[I", true)
  | _ => ("TypeAtNight$Words", "size", "I", false)
def tyX10 : Nat → FieldType := fun k => match k with
  | 0 => .array .int
  | 1 => .array .int
  | _ => .int
abbrev wsX100 : List Cond := u_ws RX10 TX10 3
theorem nmX10 : ∀ a, a < 3 → ∀ b, b < 3 → a ≠ b → (TX10 a).2.1 ≠ (TX10 b).2.1 := by decide +kernel
theorem tyX10_ok : ∀ k, k < 3 → parseFieldDescriptor (TX10 k).2.2.1 = some (tyX10 k) := by decide +kernel
abbrev cX10_init : ByteArray := prog_12_method_1_code
def yX10_init : MethodName := ⟨RX10, "<init>", "()V"⟩
abbrev cX10_read : ByteArray := prog_12_method_2_code
def yX10_read : MethodName := ⟨RX10, "read", "(LTypeAtNight$Text;)I"⟩
abbrev cX10_mostAtOnce : ByteArray := prog_12_method_3_code
def yX10_mostAtOnce : MethodName := ⟨RX10, "mostAtOnce", "(LTypeAtNight$TypeCase;)I"⟩
abbrev cX10_canBeSet : ByteArray := prog_12_method_4_code
def yX10_canBeSet : MethodName := ⟨RX10, "canBeSet", "(I)Z"⟩
def RX11 : String := "TypeAtNight"
def TX11 : u_T := fun k => match k with
  | 0 => ("TypeAtNight", "text", "LTypeAtNight$Text;", true)
  | 1 => ("TypeAtNight", "told", "LTypeAtNight$Numbers;", true)
  | 2 => ("TypeAtNight", "now", "LTypeAtNight$TypeCase;", true)
  | 3 => ("TypeAtNight", "then", "LTypeAtNight$TypeCase;", true)
  | 4 => ("TypeAtNight", "trial", "LTypeAtNight$TypeCase;", true)
  | 5 => ("TypeAtNight", "before", "LTypeAtNight$TypeCase;", true)
  | 6 => ("TypeAtNight", "past", "LTypeAtNight$Past;", true)
  | 7 => ("TypeAtNight", "ruling", "LTypeAtNight$Rule;", false)
  | 8 => ("TypeAtNight", "another", "LTypeAtNight$Rule;", false)
  | 9 => ("TypeAtNight", "letters", "LTypeAtNight$Letters;", true)
  | 10 => ("TypeAtNight", "words", "LTypeAtNight$Words;", true)
  | 11 => ("TypeAtNight", "boxing", "LTypeAtNight$Boxing;", true)
  | 12 => ("TypeAtNight", "hearsay", "LTypeAtNight$Hearsay;", true)
  | 13 => ("TypeAtNight", "mixing", "LTypeAtNight$Mixing;", true)
  | 14 => ("TypeAtNight", "galleys", "LTypeAtNight$Galley;", true)
  | _ => ("TypeAtNight", "moodsBehind", "[J", true)
def tyX11 : Nat → FieldType := fun k => match k with
  | 0 => .object "TypeAtNight$Text"
  | 1 => .object "TypeAtNight$Numbers"
  | 2 => .object "TypeAtNight$TypeCase"
  | 3 => .object "TypeAtNight$TypeCase"
  | 4 => .object "TypeAtNight$TypeCase"
  | 5 => .object "TypeAtNight$TypeCase"
  | 6 => .object "TypeAtNight$Past"
  | 7 => .object "TypeAtNight$Rule"
  | 8 => .object "TypeAtNight$Rule"
  | 9 => .object "TypeAtNight$Letters"
  | 10 => .object "TypeAtNight$Words"
  | 11 => .object "TypeAtNight$Boxing"
  | 12 => .object "TypeAtNight$Hearsay"
  | 13 => .object "TypeAtNight$Mixing"
  | 14 => .object "TypeAtNight$Galley"
  | _ => .array .long
abbrev wsX110 : List Cond := u_ws RX11 TX11 16
theorem nmX11 : ∀ a, a < 16 → ∀ b, b < 16 → a ≠ b → (TX11 a).2.1 ≠ (TX11 b).2.1 := by decide +kernel
theorem tyX11_ok : ∀ k, k < 16 → parseFieldDescriptor (TX11 k).2.2.1 = some (tyX11 k) := by decide +kernel
abbrev cX11_init : ByteArray := prog_1_method_1_code
def yX11_init : MethodName := ⟨RX11, "<init>", "()V"⟩
abbrev cX11_sign : ByteArray := prog_1_method_2_code
def yX11_sign : MethodName := ⟨RX11, "sign", "(I)I"⟩
abbrev cX11_end : ByteArray := prog_1_method_3_code
def yX11_end : MethodName := ⟨RX11, "end", "(I)Z"⟩
abbrev cX11_sorts : ByteArray := prog_1_method_4_code
def yX11_sorts : MethodName := ⟨RX11, "sorts", "()I"⟩
abbrev cX11_rule : ByteArray := prog_1_method_5_code
def yX11_rule : MethodName := ⟨RX11, "rule", "()I"⟩
abbrev cX11_sort : ByteArray := prog_1_method_6_code
def yX11_sort : MethodName := ⟨RX11, "sort", "(II)I"⟩
abbrev cX11_box : ByteArray := prog_1_method_7_code
def yX11_box : MethodName := ⟨RX11, "box", "(II)I"⟩
abbrev cX11_sheet : ByteArray := prog_1_method_8_code
def yX11_sheet : MethodName := ⟨RX11, "sheet", "(IIII)I"⟩
abbrev cX11_sets : ByteArray := prog_1_method_9_code
def yX11_sets : MethodName := ⟨RX11, "sets", "(I)I"⟩
abbrev cX11_nights : ByteArray := prog_1_method_10_code
def yX11_nights : MethodName := ⟨RX11, "nights", "(I)I"⟩
abbrev cX11_moves : ByteArray := prog_1_method_11_code
def yX11_moves : MethodName := ⟨RX11, "moves", "(II)I"⟩
abbrev cX11_cleans : ByteArray := prog_1_method_12_code
def yX11_cleans : MethodName := ⟨RX11, "cleans", "(I)I"⟩
abbrev cX11_casts : ByteArray := prog_1_method_13_code
def yX11_casts : MethodName := ⟨RX11, "casts", "(I)I"⟩
abbrev cX11_week : ByteArray := prog_1_method_14_code
def yX11_week : MethodName := ⟨RX11, "week", "()I"⟩
abbrev cX11_undo : ByteArray := prog_1_method_15_code
def yX11_undo : MethodName := ⟨RX11, "undo", "()I"⟩
abbrev cX11_tells : ByteArray := prog_1_method_16_code
def yX11_tells : MethodName := ⟨RX11, "tells", "()I"⟩
abbrev cX11_often : ByteArray := prog_1_method_17_code
def yX11_often : MethodName := ⟨RX11, "often", "()I"⟩
abbrev cX11_shortest : ByteArray := prog_1_method_18_code
def yX11_shortest : MethodName := ⟨RX11, "shortest", "()I"⟩
abbrev cX11_bears : ByteArray := prog_1_method_19_code
def yX11_bears : MethodName := ⟨RX11, "bears", "(I)I"⟩
abbrev cX11_spans : ByteArray := prog_1_method_20_code
def yX11_spans : MethodName := ⟨RX11, "spans", "()I"⟩
abbrev cX11_packs : ByteArray := prog_1_method_21_code
def yX11_packs : MethodName := ⟨RX11, "packs", "()I"⟩
abbrev cX11_later : ByteArray := prog_1_method_22_code
def yX11_later : MethodName := ⟨RX11, "later", "(II)I"⟩
abbrev cX11_settles : ByteArray := prog_1_method_23_code
def yX11_settles : MethodName := ⟨RX11, "settles", "()I"⟩
abbrev cX11_round : ByteArray := prog_1_method_24_code
def yX11_round : MethodName := ⟨RX11, "round", "()I"⟩
abbrev cX11_gravest : ByteArray := prog_1_method_25_code
def yX11_gravest : MethodName := ⟨RX11, "gravest", "(I)I"⟩
abbrev cX11_blows : ByteArray := prog_1_method_26_code
def yX11_blows : MethodName := ⟨RX11, "blows", "(II)I"⟩
abbrev cX11_parts : ByteArray := prog_1_method_27_code
def yX11_parts : MethodName := ⟨RX11, "parts", "()I"⟩
abbrev cX11_mixed : ByteArray := prog_1_method_28_code
def yX11_mixed : MethodName := ⟨RX11, "mixed", "()I"⟩
abbrev cX11_rubs : ByteArray := prog_1_method_29_code
def yX11_rubs : MethodName := ⟨RX11, "rubs", "()I"⟩
abbrev cX11_chord : ByteArray := prog_1_method_30_code
def yX11_chord : MethodName := ⟨RX11, "chord", "(I)I"⟩
abbrev cX11_heard : ByteArray := prog_1_method_31_code
def yX11_heard : MethodName := ⟨RX11, "heard", "(II)I"⟩
abbrev cX11_forget : ByteArray := prog_1_method_32_code
def yX11_forget : MethodName := ⟨RX11, "forget", "()I"⟩
abbrev cX11_fits : ByteArray := prog_1_method_33_code
def yX11_fits : MethodName := ⟨RX11, "fits", "()I"⟩
abbrev cX11_asks : ByteArray := prog_1_method_34_code
def yX11_asks : MethodName := ⟨RX11, "asks", "()I"⟩
abbrev cX11_saw : ByteArray := prog_1_method_35_code
def yX11_saw : MethodName := ⟨RX11, "saw", "(III)I"⟩
abbrev cX11_denies : ByteArray := prog_1_method_36_code
def yX11_denies : MethodName := ⟨RX11, "denies", "()I"⟩
abbrev cX11_laws : ByteArray := prog_1_method_37_code
def yX11_laws : MethodName := ⟨RX11, "laws", "()I"⟩
abbrev cX11_looks : ByteArray := prog_1_method_38_code
def yX11_looks : MethodName := ⟨RX11, "looks", "()I"⟩
abbrev cX11_reads : ByteArray := prog_1_method_39_code
def yX11_reads : MethodName := ⟨RX11, "reads", "(I)I"⟩
abbrev cX11_galley : ByteArray := prog_1_method_40_code
def yX11_galley : MethodName := ⟨RX11, "galley", "(I)I"⟩
abbrev cX11_rests : ByteArray := prog_1_method_41_code
def yX11_rests : MethodName := ⟨RX11, "rests", "(I)I"⟩
abbrev cX11_law : ByteArray := prog_1_method_42_code
def yX11_law : MethodName := ⟨RX11, "law", "()I"⟩
abbrev cX11_years : ByteArray := prog_1_method_43_code
def yX11_years : MethodName := ⟨RX11, "years", "(II)I"⟩
abbrev cX11_keep : ByteArray := prog_1_method_44_code
def yX11_keep : MethodName := ⟨RX11, "keep", "(I)Z"⟩
abbrev cX11_again : ByteArray := prog_1_method_45_code
def yX11_again : MethodName := ⟨RX11, "again", "(I)Z"⟩
abbrev cX11_count : ByteArray := prog_1_method_46_code
def yX11_count : MethodName := ⟨RX11, "count", "(I)I"⟩
abbrev cX11_row : ByteArray := prog_1_method_47_code
def yX11_row : MethodName := ⟨RX11, "row", "(I)J"⟩
abbrev cX11_isMood : ByteArray := prog_1_method_48_code
def yX11_isMood : MethodName := ⟨RX11, "isMood", "(I)Z"⟩
abbrev cX11_isBox : ByteArray := prog_1_method_49_code
def yX11_isBox : MethodName := ⟨RX11, "isBox", "(I)Z"⟩
abbrev cX11_putToMood : ByteArray := prog_1_method_50_code
def yX11_putToMood : MethodName := ⟨RX11, "putToMood", "(I)I"⟩
abbrev cX11_readLetters : ByteArray := prog_1_method_51_code
def yX11_readLetters : MethodName := ⟨RX11, "readLetters", "()I"⟩
abbrev cX11_undoable : ByteArray := prog_1_method_52_code
def yX11_undoable : MethodName := ⟨RX11, "undoable", "(I)I"⟩
abbrev cX11_faultOfLines : ByteArray := prog_1_method_53_code
def yX11_faultOfLines : MethodName := ⟨RX11, "faultOfLines", "()I"⟩
abbrev cX11_addLines : ByteArray := prog_1_method_54_code
def yX11_addLines : MethodName := ⟨RX11, "addLines", "()I"⟩
abbrev cX11_entryOf : ByteArray := prog_1_method_55_code
def yX11_entryOf : MethodName := ⟨RX11, "entryOf", "(II)I"⟩
abbrev cX11_faultOfWeek : ByteArray := prog_1_method_56_code
def yX11_faultOfWeek : MethodName := ⟨RX11, "faultOfWeek", "()I"⟩
abbrev cX11_behindAct : ByteArray := prog_1_method_57_code
def yX11_behindAct : MethodName := ⟨RX11, "behindAct", "(II)I"⟩
abbrev cX11_shapeOfAct : ByteArray := prog_1_method_58_code
def yX11_shapeOfAct : MethodName := ⟨RX11, "shapeOfAct", "(I)Ljava/lang/String;"⟩
abbrev cX11_doAct : ByteArray := prog_1_method_59_code
def yX11_doAct : MethodName := ⟨RX11, "doAct", "(II)I"⟩
abbrev cX11_setLetters : ByteArray := prog_1_method_60_code
def yX11_setLetters : MethodName := ⟨RX11, "setLetters", "(I)I"⟩
abbrev cX11_fewestToClean : ByteArray := prog_1_method_61_code
def yX11_fewestToClean : MethodName := ⟨RX11, "fewestToClean", "(III)I"⟩
abbrev cX11_calms : ByteArray := prog_1_method_62_code
def yX11_calms : MethodName := ⟨RX11, "calms", "(IIII)Z"⟩
abbrev cX11_commonDivisor : ByteArray := prog_1_method_63_code
def yX11_commonDivisor : MethodName := ⟨RX11, "commonDivisor", "(JJ)J"⟩
abbrev cX11_sells : ByteArray := prog_1_method_64_code
def yX11_sells : MethodName := ⟨RX11, "sells", "(III)I"⟩
abbrev cX11_isContent : ByteArray := prog_1_method_65_code
def yX11_isContent : MethodName := ⟨RX11, "isContent", "(III)Z"⟩
abbrev cX11_nextDraw : ByteArray := prog_1_method_66_code
def yX11_nextDraw : MethodName := ⟨RX11, "nextDraw", "(I)I"⟩
abbrev cX11_drawOf : ByteArray := prog_1_method_67_code
def yX11_drawOf : MethodName := ⟨RX11, "drawOf", "(II)I"⟩
def RX12 : String := "TypeAtNightModel"
def TX12 : u_T := fun k => match k with
  | 0 => ("TypeAtNightModel", "now", "[I", true)
  | 1 => ("TypeAtNightModel", "sorts", "I", false)
  | 2 => ("TypeAtNightModel", "letter", "[I", true)
  | 3 => ("TypeAtNightModel", "text", "[B", true)
  | 4 => ("TypeAtNightModel", "typed", "I", false)
  | 5 => ("TypeAtNightModel", "row", "[J", true)
  | 6 => ("TypeAtNightModel", "rowMany", "I", false)
  | 7 => ("TypeAtNightModel", "thrown", "I", false)
  | 8 => ("TypeAtNightModel", "read", "[B", false)
  | 9 => ("TypeAtNightModel", "length", "I", false)
  | 10 => ("TypeAtNightModel", "top", "I", false)
  | 11 => ("TypeAtNightModel", "at", "I", false)
  | 12 => ("TypeAtNightModel", "wrong", "I", false)
  | 13 => ("TypeAtNightModel", "aheadOf", "[I", true)
  | 14 => ("TypeAtNightModel", "rule", "[B", false)
  | 15 => ("TypeAtNightModel", "otherRule", "[B", false)
  | 16 => ("TypeAtNightModel", "ruleSize", "I", false)
  | 17 => ("TypeAtNightModel", "isAsked", "Z", false)
  | 18 => ("TypeAtNightModel", "asked", "[I", true)
  | 19 => ("TypeAtNightModel", "undos", "[I", true)
  | 20 => ("TypeAtNightModel", "undoMany", "I", false)
  | 21 => ("TypeAtNightModel", "aside", "[I", true)
  | 22 => ("TypeAtNightModel", "then", "[I", true)
  | 23 => ("TypeAtNightModel", "line", "[I", true)
  | 24 => ("TypeAtNightModel", "lineMany", "I", false)
  | 25 => ("TypeAtNightModel", "need", "[I", true)
  | 26 => ("TypeAtNightModel", "acts", "[I", true)
  | 27 => ("TypeAtNightModel", "letters", "[I", true)
  | 28 => ("TypeAtNightModel", "lettersMany", "I", false)
  | 29 => ("TypeAtNightModel", "worded", "[I", true)
  | 30 => ("TypeAtNightModel", "trail", "[I", true)
  | 31 => ("TypeAtNightModel", "foes", "[I", true)
  | 32 => ("TypeAtNightModel", "boxed", "[I", true)
  | 33 => ("TypeAtNightModel", "heardOf", "[I", true)
  | 34 => ("TypeAtNightModel", "heardBy", "[I", true)
  | 35 => ("TypeAtNightModel", "heardMany", "I", false)
  | 36 => ("TypeAtNightModel", "sawOf", "[I", true)
  | 37 => ("TypeAtNightModel", "sawBeside", "[I", true)
  | 38 => ("TypeAtNightModel", "sawAs", "[I", true)
  | 39 => ("TypeAtNightModel", "sawMany", "I", false)
  | 40 => ("TypeAtNightModel", "many", "[I", true)
  | 41 => ("TypeAtNightModel", "worth", "[I", true)
  | 42 => ("TypeAtNightModel", "drawn", "I", false)
  | 43 => ("TypeAtNightModel", "came", "I", false)
  | 44 => ("TypeAtNightModel", "kept", "[I", true)
  | 45 => ("TypeAtNightModel", "isKept", "[Z", true)
  | _ => ("TypeAtNightModel", "keptCame", "[I", true)
def tyX12 : Nat → FieldType := fun k => match k with
  | 0 => .array .int
  | 1 => .int
  | 2 => .array .int
  | 3 => .array .byte
  | 4 => .int
  | 5 => .array .long
  | 6 => .int
  | 7 => .int
  | 8 => .array .byte
  | 9 => .int
  | 10 => .int
  | 11 => .int
  | 12 => .int
  | 13 => .array .int
  | 14 => .array .byte
  | 15 => .array .byte
  | 16 => .int
  | 17 => .boolean
  | 18 => .array .int
  | 19 => .array .int
  | 20 => .int
  | 21 => .array .int
  | 22 => .array .int
  | 23 => .array .int
  | 24 => .int
  | 25 => .array .int
  | 26 => .array .int
  | 27 => .array .int
  | 28 => .int
  | 29 => .array .int
  | 30 => .array .int
  | 31 => .array .int
  | 32 => .array .int
  | 33 => .array .int
  | 34 => .array .int
  | 35 => .int
  | 36 => .array .int
  | 37 => .array .int
  | 38 => .array .int
  | 39 => .int
  | 40 => .array .int
  | 41 => .array .int
  | 42 => .int
  | 43 => .int
  | 44 => .array .int
  | 45 => .array .boolean
  | _ => .array .int
abbrev wsX120 : List Cond := u_ws RX12 TX12 47
theorem nmX12 : ∀ a, a < 47 → ∀ b, b < 47 → a ≠ b → (TX12 a).2.1 ≠ (TX12 b).2.1 := by decide +kernel
theorem tyX12_ok : ∀ k, k < 47 → parseFieldDescriptor (TX12 k).2.2.1 = some (tyX12 k) := by decide +kernel
abbrev cX12_init : ByteArray := prog_14_method_1_code
def yX12_init : MethodName := ⟨RX12, "<init>", "()V"⟩
abbrev cX12_thrown : ByteArray := prog_14_method_2_code
def yX12_thrown : MethodName := ⟨RX12, "thrown", "()I"⟩
abbrev cX12_in : ByteArray := prog_14_method_3_code
def yX12_in : MethodName := ⟨RX12, "in", "(III)Z"⟩
abbrev cX12_has : ByteArray := prog_14_method_4_code
def yX12_has : MethodName := ⟨RX12, "has", "(II)Z"⟩
abbrev cX12_put : ByteArray := prog_14_method_5_code
def yX12_put : MethodName := ⟨RX12, "put", "(I)I"⟩
abbrev cX12_lost : ByteArray := prog_14_method_6_code
def yX12_lost : MethodName := ⟨RX12, "lost", "()I"⟩
abbrev cX12_tell : ByteArray := prog_14_method_7_code
def yX12_tell : MethodName := ⟨RX12, "tell", "(J)V"⟩
abbrev cX12_isSort : ByteArray := prog_14_method_8_code
def yX12_isSort : MethodName := ⟨RX12, "isSort", "(I)Z"⟩
abbrev cX12_all : ByteArray := prog_14_method_9_code
def yX12_all : MethodName := ⟨RX12, "all", "()I"⟩
abbrev cX12_sign : ByteArray := prog_14_method_10_code
def yX12_sign : MethodName := ⟨RX12, "sign", "(I)I"⟩
abbrev cX12_end : ByteArray := prog_14_method_11_code
def yX12_end : MethodName := ⟨RX12, "end", "(I)Z"⟩
abbrev cX12_begin : ByteArray := prog_14_method_12_code
def yX12_begin : MethodName := ⟨RX12, "begin", "([BII)V"⟩
abbrev cX12_beginText : ByteArray := prog_14_method_13_code
def yX12_beginText : MethodName := ⟨RX12, "beginText", "(I)V"⟩
abbrev cX12_here : ByteArray := prog_14_method_14_code
def yX12_here : MethodName := ⟨RX12, "here", "()I"⟩
abbrev cX12_fine : ByteArray := prog_14_method_15_code
def yX12_fine : MethodName := ⟨RX12, "fine", "()Z"⟩
abbrev cX12_fault : ByteArray := prog_14_method_16_code
def yX12_fault : MethodName := ⟨RX12, "fault", "(I)V"⟩
abbrev cX12_passes : ByteArray := prog_14_method_17_code
def yX12_passes : MethodName := ⟨RX12, "passes", "(C)Z"⟩
abbrev cX12_need : ByteArray := prog_14_method_18_code
def yX12_need : MethodName := ⟨RX12, "need", "(C)V"⟩
abbrev cX12_oneOf : ByteArray := prog_14_method_19_code
def yX12_oneOf : MethodName := ⟨RX12, "oneOf", "(CI)I"⟩
abbrev cX12_number : ByteArray := prog_14_method_20_code
def yX12_number : MethodName := ⟨RX12, "number", "(I)I"⟩
abbrev cX12_wasRight : ByteArray := prog_14_method_21_code
def yX12_wasRight : MethodName := ⟨RX12, "wasRight", "()Z"⟩
abbrev cX12_signedOf : ByteArray := prog_14_method_22_code
def yX12_signedOf : MethodName := ⟨RX12, "signedOf", "()I"⟩
abbrev cX12_sorts : ByteArray := prog_14_method_23_code
def yX12_sorts : MethodName := ⟨RX12, "sorts", "()I"⟩
abbrev cX12_held : ByteArray := prog_14_method_24_code
def yX12_held : MethodName := ⟨RX12, "held", "(I)I"⟩
abbrev cX12_sum : ByteArray := prog_14_method_25_code
def yX12_sum : MethodName := ⟨RX12, "sum", "(I)I"⟩
abbrev cX12_product : ByteArray := prog_14_method_26_code
def yX12_product : MethodName := ⟨RX12, "product", "(I)I"⟩
abbrev cX12_letterOf : ByteArray := prog_14_method_27_code
def yX12_letterOf : MethodName := ⟨RX12, "letterOf", "(I)I"⟩
abbrev cX12_thing : ByteArray := prog_14_method_28_code
def yX12_thing : MethodName := ⟨RX12, "thing", "(I)I"⟩
abbrev cX12_readRule : ByteArray := prog_14_method_29_code
def yX12_readRule : MethodName := ⟨RX12, "readRule", "()Z"⟩
abbrev cX12_rule : ByteArray := prog_14_method_30_code
def yX12_rule : MethodName := ⟨RX12, "rule", "()I"⟩
abbrev cX12_turnOf : ByteArray := prog_14_method_31_code
def yX12_turnOf : MethodName := ⟨RX12, "turnOf", "([II)I"⟩
abbrev cX12_sort : ByteArray := prog_14_method_32_code
def yX12_sort : MethodName := ⟨RX12, "sort", "(II)I"⟩
abbrev cX12_inBox : ByteArray := prog_14_method_33_code
def yX12_inBox : MethodName := ⟨RX12, "inBox", "([II)I"⟩
abbrev cX12_moodsOf : ByteArray := prog_14_method_34_code
def yX12_moodsOf : MethodName := ⟨RX12, "moodsOf", "([II)I"⟩
abbrev cX12_box : ByteArray := prog_14_method_35_code
def yX12_box : MethodName := ⟨RX12, "box", "(II)I"⟩
abbrev cX12_wears : ByteArray := prog_14_method_36_code
def yX12_wears : MethodName := ⟨RX12, "wears", "()I"⟩
abbrev cX12_sheet : ByteArray := prog_14_method_37_code
def yX12_sheet : MethodName := ⟨RX12, "sheet", "(IIII)I"⟩
abbrev cX12_lay : ByteArray := prog_14_method_38_code
def yX12_lay : MethodName := ⟨RX12, "lay", "([I[II)V"⟩
abbrev cX12_remember : ByteArray := prog_14_method_39_code
def yX12_remember : MethodName := ⟨RX12, "remember", "([I)V"⟩
abbrev cX12_layNeed : ByteArray := prog_14_method_40_code
def yX12_layNeed : MethodName := ⟨RX12, "layNeed", "()V"⟩
abbrev cX12_readLine : ByteArray := prog_14_method_41_code
def yX12_readLine : MethodName := ⟨RX12, "readLine", "()Z"⟩
abbrev cX12_takes : ByteArray := prog_14_method_42_code
def yX12_takes : MethodName := ⟨RX12, "takes", "([II)I"⟩
abbrev cX12_goSet : ByteArray := prog_14_method_43_code
def yX12_goSet : MethodName := ⟨RX12, "goSet", "([II)I"⟩
abbrev cX12_wouldTake : ByteArray := prog_14_method_44_code
def yX12_wouldTake : MethodName := ⟨RX12, "wouldTake", "()I"⟩
abbrev cX12_sets : ByteArray := prog_14_method_45_code
def yX12_sets : MethodName := ⟨RX12, "sets", "(I)I"⟩
abbrev cX12_goNight : ByteArray := prog_14_method_46_code
def yX12_goNight : MethodName := ⟨RX12, "goNight", "([I)V"⟩
abbrev cX12_goNights : ByteArray := prog_14_method_47_code
def yX12_goNights : MethodName := ⟨RX12, "goNights", "([II)V"⟩
abbrev cX12_atHome : ByteArray := prog_14_method_48_code
def yX12_atHome : MethodName := ⟨RX12, "atHome", "([I)I"⟩
abbrev cX12_nights : ByteArray := prog_14_method_49_code
def yX12_nights : MethodName := ⟨RX12, "nights", "(I)I"⟩
abbrev cX12_refusesMove : ByteArray := prog_14_method_50_code
def yX12_refusesMove : MethodName := ⟨RX12, "refusesMove", "([III)I"⟩
abbrev cX12_moves : ByteArray := prog_14_method_51_code
def yX12_moves : MethodName := ⟨RX12, "moves", "(II)I"⟩
abbrev cX12_refusesClean : ByteArray := prog_14_method_52_code
def yX12_refusesClean : MethodName := ⟨RX12, "refusesClean", "(I)I"⟩
abbrev cX12_cleans : ByteArray := prog_14_method_53_code
def yX12_cleans : MethodName := ⟨RX12, "cleans", "(I)I"⟩
abbrev cX12_refusesCast : ByteArray := prog_14_method_54_code
def yX12_refusesCast : MethodName := ⟨RX12, "refusesCast", "(I)I"⟩
abbrev cX12_casts : ByteArray := prog_14_method_55_code
def yX12_casts : MethodName := ⟨RX12, "casts", "(I)I"⟩
abbrev cX12_week : ByteArray := prog_14_method_56_code
def yX12_week : MethodName := ⟨RX12, "week", "()I"⟩
abbrev cX12_readAct : ByteArray := prog_14_method_57_code
def yX12_readAct : MethodName := ⟨RX12, "readAct", "(I)V"⟩
abbrev cX12_act : ByteArray := prog_14_method_58_code
def yX12_act : MethodName := ⟨RX12, "act", "(I)Z"⟩
abbrev cX12_undo : ByteArray := prog_14_method_59_code
def yX12_undo : MethodName := ⟨RX12, "undo", "()I"⟩
abbrev cX12_tells : ByteArray := prog_14_method_60_code
def yX12_tells : MethodName := ⟨RX12, "tells", "()I"⟩
abbrev cX12_free : ByteArray := prog_14_method_61_code
def yX12_free : MethodName := ⟨RX12, "free", "(I)I"⟩
abbrev cX12_often : ByteArray := prog_14_method_62_code
def yX12_often : MethodName := ⟨RX12, "often", "()I"⟩
abbrev cX12_shortest : ByteArray := prog_14_method_63_code
def yX12_shortest : MethodName := ⟨RX12, "shortest", "()I"⟩
abbrev cX12_isText : ByteArray := prog_14_method_64_code
def yX12_isText : MethodName := ⟨RX12, "isText", "(I)Z"⟩
abbrev cX12_bears : ByteArray := prog_14_method_65_code
def yX12_bears : MethodName := ⟨RX12, "bears", "(I)I"⟩
abbrev cX12_spans : ByteArray := prog_14_method_66_code
def yX12_spans : MethodName := ⟨RX12, "spans", "()I"⟩
abbrev cX12_canSet : ByteArray := prog_14_method_67_code
def yX12_canSet : MethodName := ⟨RX12, "canSet", "(I)Z"⟩
abbrev cX12_packs : ByteArray := prog_14_method_68_code
def yX12_packs : MethodName := ⟨RX12, "packs", "()I"⟩
abbrev cX12_goThen : ByteArray := prog_14_method_69_code
def yX12_goThen : MethodName := ⟨RX12, "goThen", "(I)V"⟩
abbrev cX12_later : ByteArray := prog_14_method_70_code
def yX12_later : MethodName := ⟨RX12, "later", "(II)I"⟩
abbrev cX12_layTrail : ByteArray := prog_14_method_71_code
def yX12_layTrail : MethodName := ⟨RX12, "layTrail", "()V"⟩
abbrev cX12_areLike : ByteArray := prog_14_method_72_code
def yX12_areLike : MethodName := ⟨RX12, "areLike", "(IIII)Z"⟩
abbrev cX12_settles : ByteArray := prog_14_method_73_code
def yX12_settles : MethodName := ⟨RX12, "settles", "()I"⟩
abbrev cX12_round : ByteArray := prog_14_method_74_code
def yX12_round : MethodName := ⟨RX12, "round", "()I"⟩
abbrev cX12_gravest : ByteArray := prog_14_method_75_code
def yX12_gravest : MethodName := ⟨RX12, "gravest", "(I)I"⟩
abbrev cX12_isCalm : ByteArray := prog_14_method_76_code
def yX12_isCalm : MethodName := ⟨RX12, "isCalm", "(III)Z"⟩
abbrev cX12_blows : ByteArray := prog_14_method_77_code
def yX12_blows : MethodName := ⟨RX12, "blows", "(II)I"⟩
abbrev cX12_canBox : ByteArray := prog_14_method_78_code
def yX12_canBox : MethodName := ⟨RX12, "canBox", "(II)Z"⟩
abbrev cX12_parts : ByteArray := prog_14_method_79_code
def yX12_parts : MethodName := ⟨RX12, "parts", "()I"⟩
abbrev cX12_mixed : ByteArray := prog_14_method_80_code
def yX12_mixed : MethodName := ⟨RX12, "mixed", "()I"⟩
abbrev cX12_rubs : ByteArray := prog_14_method_81_code
def yX12_rubs : MethodName := ⟨RX12, "rubs", "()I"⟩
abbrev cX12_isChord : ByteArray := prog_14_method_82_code
def yX12_isChord : MethodName := ⟨RX12, "isChord", "(I)Z"⟩
abbrev cX12_chord : ByteArray := prog_14_method_83_code
def yX12_chord : MethodName := ⟨RX12, "chord", "(I)I"⟩
abbrev cX12_highOf : ByteArray := prog_14_method_84_code
def yX12_highOf : MethodName := ⟨RX12, "highOf", "(I)I"⟩
abbrev cX12_heard : ByteArray := prog_14_method_85_code
def yX12_heard : MethodName := ⟨RX12, "heard", "(II)I"⟩
abbrev cX12_forget : ByteArray := prog_14_method_86_code
def yX12_forget : MethodName := ⟨RX12, "forget", "()I"⟩
abbrev cX12_isSo : ByteArray := prog_14_method_87_code
def yX12_isSo : MethodName := ⟨RX12, "isSo", "(III)Z"⟩
abbrev cX12_fitting : ByteArray := prog_14_method_88_code
def yX12_fitting : MethodName := ⟨RX12, "fitting", "()I"⟩
abbrev cX12_fits : ByteArray := prog_14_method_89_code
def yX12_fits : MethodName := ⟨RX12, "fits", "()I"⟩
abbrev cX12_asks : ByteArray := prog_14_method_90_code
def yX12_asks : MethodName := ⟨RX12, "asks", "()I"⟩
abbrev cX12_isMood : ByteArray := prog_14_method_91_code
def yX12_isMood : MethodName := ⟨RX12, "isMood", "(I)Z"⟩
abbrev cX12_saw : ByteArray := prog_14_method_92_code
def yX12_saw : MethodName := ⟨RX12, "saw", "(III)I"⟩
abbrev cX12_denies : ByteArray := prog_14_method_93_code
def yX12_denies : MethodName := ⟨RX12, "denies", "()I"⟩
abbrev cX12_becomes : ByteArray := prog_14_method_94_code
def yX12_becomes : MethodName := ⟨RX12, "becomes", "(III)I"⟩
abbrev cX12_isLaw : ByteArray := prog_14_method_95_code
def yX12_isLaw : MethodName := ⟨RX12, "isLaw", "(I)Z"⟩
abbrev cX12_laws : ByteArray := prog_14_method_96_code
def yX12_laws : MethodName := ⟨RX12, "laws", "()I"⟩
abbrev cX12_looks : ByteArray := prog_14_method_97_code
def yX12_looks : MethodName := ⟨RX12, "looks", "()I"⟩
abbrev cX12_common : ByteArray := prog_14_method_98_code
def yX12_common : MethodName := ⟨RX12, "common", "(JJ)J"⟩
abbrev cX12_power : ByteArray := prog_14_method_99_code
def yX12_power : MethodName := ⟨RX12, "power", "(JI)J"⟩
abbrev cX12_reads : ByteArray := prog_14_method_100_code
def yX12_reads : MethodName := ⟨RX12, "reads", "(I)I"⟩
abbrev cX12_galley : ByteArray := prog_14_method_101_code
def yX12_galley : MethodName := ⟨RX12, "galley", "(I)I"⟩
abbrev cX12_gets : ByteArray := prog_14_method_102_code
def yX12_gets : MethodName := ⟨RX12, "gets", "(III)I"⟩
abbrev cX12_isBest : ByteArray := prog_14_method_103_code
def yX12_isBest : MethodName := ⟨RX12, "isBest", "(III)Z"⟩
abbrev cX12_rests : ByteArray := prog_14_method_104_code
def yX12_rests : MethodName := ⟨RX12, "rests", "(I)I"⟩
abbrev cX12_farBehind5 : ByteArray := prog_14_method_105_code
def yX12_farBehind5 : MethodName := ⟨RX12, "farBehind5", "()I"⟩
abbrev cX12_law : ByteArray := prog_14_method_106_code
def yX12_law : MethodName := ⟨RX12, "law", "()I"⟩
abbrev cX12_draw : ByteArray := prog_14_method_107_code
def yX12_draw : MethodName := ⟨RX12, "draw", "(I)I"⟩
abbrev cX12_years : ByteArray := prog_14_method_108_code
def yX12_years : MethodName := ⟨RX12, "years", "(II)I"⟩
abbrev cX12_keep : ByteArray := prog_14_method_109_code
def yX12_keep : MethodName := ⟨RX12, "keep", "(I)Z"⟩
abbrev cX12_again : ByteArray := prog_14_method_110_code
def yX12_again : MethodName := ⟨RX12, "again", "(I)Z"⟩
abbrev cX12_count : ByteArray := prog_14_method_111_code
def yX12_count : MethodName := ⟨RX12, "count", "(I)I"⟩
abbrev cX12_row : ByteArray := prog_14_method_112_code
def yX12_row : MethodName := ⟨RX12, "row", "(I)J"⟩
def RJx145de : String := "java/io/Serializable"
def TJx145de : u_T := fun k => match k with
  | _ => ("", "", "", false)
def tyJx145de : Nat → FieldType := fun k => match k with
  | _ => .int
abbrev wsJx145de0 : List Cond := u_ws RJx145de TJx145de 0
theorem nmJx145de : ∀ a, a < 0 → ∀ b, b < 0 → a ≠ b → (TJx145de a).2.1 ≠ (TJx145de b).2.1 := by decide +kernel
theorem tyJx145de_ok : ∀ k, k < 0 → parseFieldDescriptor (TJx145de k).2.2.1 = some (tyJx145de k) := by decide +kernel
def RJx9f9b0 : String := "java/lang/CharSequence"
def TJx9f9b0 : u_T := fun k => match k with
  | _ => ("", "", "", false)
def tyJx9f9b0 : Nat → FieldType := fun k => match k with
  | _ => .int
abbrev wsJx9f9b00 : List Cond := u_ws RJx9f9b0 TJx9f9b0 0
theorem nmJx9f9b0 : ∀ a, a < 0 → ∀ b, b < 0 → a ≠ b → (TJx9f9b0 a).2.1 ≠ (TJx9f9b0 b).2.1 := by decide +kernel
theorem tyJx9f9b0_ok : ∀ k, k < 0 → parseFieldDescriptor (TJx9f9b0 k).2.2.1 = some (tyJx9f9b0 k) := by decide +kernel
def RJ11 : String := "java/lang/Character"
def TJ11 : u_T := fun k => match k with
  | _ => ("", "", "", false)
def tyJ11 : Nat → FieldType := fun k => match k with
  | _ => .int
abbrev wsJ110 : List Cond := u_ws RJ11 TJ11 0
theorem nmJ11 : ∀ a, a < 0 → ∀ b, b < 0 → a ≠ b → (TJ11 a).2.1 ≠ (TJ11 b).2.1 := by decide +kernel
theorem tyJ11_ok : ∀ k, k < 0 → parseFieldDescriptor (TJ11 k).2.2.1 = some (tyJ11 k) := by decide +kernel
abbrev cJ11_isValidCodePoint_9a6ad : ByteArray := prog_17_method_11_code
def yJ11_isValidCodePoint_9a6ad : MethodName := ⟨RJ11, "isValidCodePoint", "(I)Z"⟩
abbrev cJ11_highSurrogate_5068e : ByteArray := prog_17_method_28_code
def yJ11_highSurrogate_5068e : MethodName := ⟨RJ11, "highSurrogate", "(I)C"⟩
abbrev cJ11_lowSurrogate_5068e : ByteArray := prog_17_method_29_code
def yJ11_lowSurrogate_5068e : MethodName := ⟨RJ11, "lowSurrogate", "(I)C"⟩
def RJxb160c : String := "java/lang/Comparable"
def TJxb160c : u_T := fun k => match k with
  | _ => ("", "", "", false)
def tyJxb160c : Nat → FieldType := fun k => match k with
  | _ => .int
abbrev wsJxb160c0 : List Cond := u_ws RJxb160c TJxb160c 0
theorem nmJxb160c : ∀ a, a < 0 → ∀ b, b < 0 → a ≠ b → (TJxb160c a).2.1 ≠ (TJxb160c b).2.1 := by decide +kernel
theorem tyJxb160c_ok : ∀ k, k < 0 → parseFieldDescriptor (TJxb160c k).2.2.1 = some (tyJxb160c k) := by decide +kernel
def RJ6 : String := "java/lang/Integer"
def TJ6 : u_T := fun k => match k with
  | _ => ("", "", "", false)
def tyJ6 : Nat → FieldType := fun k => match k with
  | _ => .int
abbrev wsJ60 : List Cond := u_ws RJ6 TJ6 0
theorem nmJ6 : ∀ a, a < 0 → ∀ b, b < 0 → a ≠ b → (TJ6 a).2.1 ≠ (TJ6 b).2.1 := by decide +kernel
theorem tyJ6_ok : ∀ k, k < 0 → parseFieldDescriptor (TJ6 k).2.2.1 = some (tyJ6 k) := by decide +kernel
abbrev cJ6_numberOfTrailingZeros_0f7a4 : ByteArray := prog_20_method_48_code
def yJ6_numberOfTrailingZeros_0f7a4 : MethodName := ⟨RJ6, "numberOfTrailingZeros", "(I)I"⟩
abbrev cJ6_bitCount_0f7a4 : ByteArray := prog_20_method_49_code
def yJ6_bitCount_0f7a4 : MethodName := ⟨RJ6, "bitCount", "(I)I"⟩
def RJ13 : String := "java/lang/Long"
def TJ13 : u_T := fun k => match k with
  | _ => ("", "", "", false)
def tyJ13 : Nat → FieldType := fun k => match k with
  | _ => .int
abbrev wsJ130 : List Cond := u_ws RJ13 TJ13 0
theorem nmJ13 : ∀ a, a < 0 → ∀ b, b < 0 → a ≠ b → (TJ13 a).2.1 ≠ (TJ13 b).2.1 := by decide +kernel
theorem tyJ13_ok : ∀ k, k < 0 → parseFieldDescriptor (TJ13 k).2.2.1 = some (tyJ13 k) := by decide +kernel
abbrev cJ13_numberOfTrailingZeros_95d88 : ByteArray := prog_21_method_49_code
def yJ13_numberOfTrailingZeros_95d88 : MethodName := ⟨RJ13, "numberOfTrailingZeros", "(J)I"⟩
def RJ9 : String := "java/lang/Math"
def TJ9 : u_T := fun k => match k with
  | _ => ("", "", "", false)
def tyJ9 : Nat → FieldType := fun k => match k with
  | _ => .int
abbrev wsJ90 : List Cond := u_ws RJ9 TJ9 0
theorem nmJ9 : ∀ a, a < 0 → ∀ b, b < 0 → a ≠ b → (TJ9 a).2.1 ≠ (TJ9 b).2.1 := by decide +kernel
theorem tyJ9_ok : ∀ k, k < 0 → parseFieldDescriptor (TJ9 k).2.2.1 = some (tyJ9 k) := by decide +kernel
abbrev cJ9_abs_0f7a4 : ByteArray := prog_22_method_59_code
def yJ9_abs_0f7a4 : MethodName := ⟨RJ9, "abs", "(I)I"⟩
abbrev cJ9_max_7cf53 : ByteArray := prog_22_method_65_code
def yJ9_max_7cf53 : MethodName := ⟨RJ9, "max", "(II)I"⟩
abbrev cJ9_min_7cf53 : ByteArray := prog_22_method_69_code
def yJ9_min_7cf53 : MethodName := ⟨RJ9, "min", "(II)I"⟩
def RJxd2413 : String := "java/lang/Number"
def TJxd2413 : u_T := fun k => match k with
  | _ => ("", "", "", false)
def tyJxd2413 : Nat → FieldType := fun k => match k with
  | _ => .int
abbrev wsJxd24130 : List Cond := u_ws RJxd2413 TJxd2413 0
theorem nmJxd2413 : ∀ a, a < 0 → ∀ b, b < 0 → a ≠ b → (TJxd2413 a).2.1 ≠ (TJxd2413 b).2.1 := by decide +kernel
theorem tyJxd2413_ok : ∀ k, k < 0 → parseFieldDescriptor (TJxd2413 k).2.2.1 = some (tyJxd2413 k) := by decide +kernel
def RJ0 : String := "java/lang/String"
def TJ0 : u_T := fun k => match k with
  | _ => ("", "", "", false)
def tyJ0 : Nat → FieldType := fun k => match k with
  | _ => .int
abbrev wsJ00 : List Cond := u_ws RJ0 TJ0 0
theorem nmJ0 : ∀ a, a < 0 → ∀ b, b < 0 → a ≠ b → (TJ0 a).2.1 ≠ (TJ0 b).2.1 := by decide +kernel
theorem tyJ0_ok : ∀ k, k < 0 → parseFieldDescriptor (TJ0 k).2.2.1 = some (tyJ0 k) := by decide +kernel
abbrev cJ0_length_8abf5 : ByteArray := prog_25_method_54_code
def yJ0_length_8abf5 : MethodName := ⟨RJ0, "length", "()I"⟩
abbrev cJ0_isEmpty_aae02 : ByteArray := prog_25_method_55_code
def yJ0_isEmpty_aae02 : MethodName := ⟨RJ0, "isEmpty", "()Z"⟩
abbrev cJ0_charAt_5068e : ByteArray := prog_25_method_56_code
def yJ0_charAt_5068e : MethodName := ⟨RJ0, "charAt", "(I)C"⟩
abbrev cJ0_indexOf_0f7a4 : ByteArray := prog_25_method_79_code
def yJ0_indexOf_0f7a4 : MethodName := ⟨RJ0, "indexOf", "(I)I"⟩
abbrev cJ0_indexOf_7cf53 : ByteArray := prog_25_method_80_code
def yJ0_indexOf_7cf53 : MethodName := ⟨RJ0, "indexOf", "(II)I"⟩
abbrev cJ0_coder_7d493 : ByteArray := prog_25_method_152_code
def yJ0_coder_7d493 : MethodName := ⟨RJ0, "coder", "()B"⟩
abbrev cJ0_isLatin1_aae02 : ByteArray := prog_25_method_154_code
def yJ0_isLatin1_aae02 : MethodName := ⟨RJ0, "isLatin1", "()Z"⟩
abbrev cJ0_checkIndex_df160 : ByteArray := prog_25_method_155_code
def yJ0_checkIndex_df160 : MethodName := ⟨RJ0, "checkIndex", "(II)V"⟩
abbrev cJ0_checkBoundsBeginEnd_23922 : ByteArray := prog_25_method_158_code
def yJ0_checkBoundsBeginEnd_23922 : MethodName := ⟨RJ0, "checkBoundsBeginEnd", "(III)V"⟩
def RJ1 : String := "java/lang/StringLatin1"
def TJ1 : u_T := fun k => match k with
  | _ => ("", "", "", false)
def tyJ1 : Nat → FieldType := fun k => match k with
  | _ => .int
abbrev wsJ10 : List Cond := u_ws RJ1 TJ1 0
theorem nmJ1 : ∀ a, a < 0 → ∀ b, b < 0 → a ≠ b → (TJ1 a).2.1 ≠ (TJ1 b).2.1 := by decide +kernel
theorem tyJ1_ok : ∀ k, k < 0 → parseFieldDescriptor (TJ1 k).2.2.1 = some (tyJ1 k) := by decide +kernel
abbrev cJ1_charAt_3b067 : ByteArray := prog_26_method_2_code
def yJ1_charAt_3b067 : MethodName := ⟨RJ1, "charAt", "([BI)C"⟩
abbrev cJ1_canEncode_9a6ad : ByteArray := prog_26_method_4_code
def yJ1_canEncode_9a6ad : MethodName := ⟨RJ1, "canEncode", "(I)Z"⟩
abbrev cJ1_indexOf_4cfef : ByteArray := prog_26_method_22_code
def yJ1_indexOf_4cfef : MethodName := ⟨RJ1, "indexOf", "([BIII)I"⟩
abbrev cJ1_indexOfChar_4cfef : ByteArray := prog_26_method_23_code
def yJ1_indexOfChar_4cfef : MethodName := ⟨RJ1, "indexOfChar", "([BIII)I"⟩
def RJ2 : String := "java/lang/StringUTF16"
def TJ2 : u_T := fun k => match k with
  | _ => ("", "", "", false)
def tyJ2 : Nat → FieldType := fun k => match k with
  | _ => .int
abbrev wsJ20 : List Cond := u_ws RJ2 TJ2 0
theorem nmJ2 : ∀ a, a < 0 → ∀ b, b < 0 → a ≠ b → (TJ2 a).2.1 ≠ (TJ2 b).2.1 := by decide +kernel
theorem tyJ2_ok : ∀ k, k < 0 → parseFieldDescriptor (TJ2 k).2.2.1 = some (tyJ2 k) := by decide +kernel
abbrev cJ2_getChar_3b067 : ByteArray := prog_27_method_5_code
def yJ2_getChar_3b067 : MethodName := ⟨RJ2, "getChar", "([BI)C"⟩
abbrev cJ2_length_9d52b : ByteArray := prog_27_method_6_code
def yJ2_length_9d52b : MethodName := ⟨RJ2, "length", "([B)I"⟩
abbrev cJ2_indexOf_4cfef : ByteArray := prog_27_method_40_code
def yJ2_indexOf_4cfef : MethodName := ⟨RJ2, "indexOf", "([BIII)I"⟩
abbrev cJ2_indexOfChar_4cfef : ByteArray := prog_27_method_47_code
def yJ2_indexOfChar_4cfef : MethodName := ⟨RJ2, "indexOfChar", "([BIII)I"⟩
abbrev cJ2_indexOfCharUnsafe_4cfef : ByteArray := prog_27_method_48_code
def yJ2_indexOfCharUnsafe_4cfef : MethodName := ⟨RJ2, "indexOfCharUnsafe", "([BIII)I"⟩
abbrev cJ2_indexOfSupplementary_4cfef : ByteArray := prog_27_method_49_code
def yJ2_indexOfSupplementary_4cfef : MethodName := ⟨RJ2, "indexOfSupplementary", "([BIII)I"⟩
abbrev cJ2_charAt_3b067 : ByteArray := prog_27_method_83_code
def yJ2_charAt_3b067 : MethodName := ⟨RJ2, "charAt", "([BI)C"⟩
abbrev cJ2_checkIndex_2214a : ByteArray := prog_27_method_91_code
def yJ2_checkIndex_2214a : MethodName := ⟨RJ2, "checkIndex", "(I[B)V"⟩
abbrev cJ2_checkBoundsBeginEnd_d044e : ByteArray := prog_27_method_93_code
def yJ2_checkBoundsBeginEnd_d044e : MethodName := ⟨RJ2, "checkBoundsBeginEnd", "(II[B)V"⟩
def RJ10 : String := "java/lang/System"
def TJ10 : u_T := fun k => match k with
  | _ => ("", "", "", false)
def tyJ10 : Nat → FieldType := fun k => match k with
  | _ => .int
abbrev wsJ100 : List Cond := u_ws RJ10 TJ10 0
theorem nmJ10 : ∀ a, a < 0 → ∀ b, b < 0 → a ≠ b → (TJ10 a).2.1 ≠ (TJ10 b).2.1 := by decide +kernel
theorem tyJ10_ok : ∀ k, k < 0 → parseFieldDescriptor (TJ10 k).2.2.1 = some (tyJ10 k) := by decide +kernel
def RJxfd54e : String := "java/lang/constant/Constable"
def TJxfd54e : u_T := fun k => match k with
  | _ => ("", "", "", false)
def tyJxfd54e : Nat → FieldType := fun k => match k with
  | _ => .int
abbrev wsJxfd54e0 : List Cond := u_ws RJxfd54e TJxfd54e 0
theorem nmJxfd54e : ∀ a, a < 0 → ∀ b, b < 0 → a ≠ b → (TJxfd54e a).2.1 ≠ (TJxfd54e b).2.1 := by decide +kernel
theorem tyJxfd54e_ok : ∀ k, k < 0 → parseFieldDescriptor (TJxfd54e k).2.2.1 = some (tyJxfd54e k) := by decide +kernel
def RJx3cf43 : String := "java/lang/constant/ConstantDesc"
def TJx3cf43 : u_T := fun k => match k with
  | _ => ("", "", "", false)
def tyJx3cf43 : Nat → FieldType := fun k => match k with
  | _ => .int
abbrev wsJx3cf430 : List Cond := u_ws RJx3cf43 TJx3cf43 0
theorem nmJx3cf43 : ∀ a, a < 0 → ∀ b, b < 0 → a ≠ b → (TJx3cf43 a).2.1 ≠ (TJx3cf43 b).2.1 := by decide +kernel
theorem tyJx3cf43_ok : ∀ k, k < 0 → parseFieldDescriptor (TJx3cf43 k).2.2.1 = some (tyJx3cf43 k) := by decide +kernel
def RJ7 : String := "java/util/Arrays"
def TJ7 : u_T := fun k => match k with
  | _ => ("", "", "", false)
def tyJ7 : Nat → FieldType := fun k => match k with
  | _ => .int
abbrev wsJ70 : List Cond := u_ws RJ7 TJ7 0
theorem nmJ7 : ∀ a, a < 0 → ∀ b, b < 0 → a ≠ b → (TJ7 a).2.1 ≠ (TJ7 b).2.1 := by decide +kernel
theorem tyJ7_ok : ∀ k, k < 0 → parseFieldDescriptor (TJ7 k).2.2.1 = some (tyJ7 k) := by decide +kernel
abbrev cJ7_fill_53178 : ByteArray := prog_32_method_103_code
def yJ7_fill_53178 : MethodName := ⟨RJ7, "fill", "([II)V"⟩
def RJ3 : String := "jdk/internal/util/Preconditions"
def TJ3 : u_T := fun k => match k with
  | _ => ("", "", "", false)
def tyJ3 : Nat → FieldType := fun k => match k with
  | _ => .int
abbrev wsJ30 : List Cond := u_ws RJ3 TJ3 0
theorem nmJ3 : ∀ a, a < 0 → ∀ b, b < 0 → a ≠ b → (TJ3 a).2.1 ≠ (TJ3 b).2.1 := by decide +kernel
theorem tyJ3_ok : ∀ k, k < 0 → parseFieldDescriptor (TJ3 k).2.2.1 = some (tyJ3 k) := by decide +kernel
abbrev cJ3_checkIndex_8e157 : ByteArray := prog_34_method_11_code
def yJ3_checkIndex_8e157 : MethodName := ⟨RJ3, "checkIndex", "(IILjava/util/function/BiFunction;)I"⟩
abbrev cJ3_checkFromToIndex_8c36e : ByteArray := prog_34_method_12_code
def yJ3_checkFromToIndex_8c36e : MethodName := ⟨RJ3, "checkFromToIndex", "(IIILjava/util/function/BiFunction;)I"⟩
def RL : String := "TypeAtNightLaw"
abbrev cL_sort : ByteArray := method_3_code
def yL_sort : MethodName := ⟨RL, "sort", "(LTypeAtNight;II[J)I"⟩
abbrev cL_box : ByteArray := method_4_code
def yL_box : MethodName := ⟨RL, "box", "(LTypeAtNight;II[J)I"⟩
abbrev cL_row : ByteArray := method_5_code
def yL_row : MethodName := ⟨RL, "row", "(LTypeAtNight;I[J)I"⟩
abbrev cL_law : ByteArray := code
def yL_law : MethodName := ⟨RL, "law", "([I)Z"⟩
abbrev vwCl : List vw_C := [(RX0, TX0, 2), (RX1, TX1, 2), (RX2, TX2, 2), (RX3, TX3, 4), (RX4, TX4, 5), (RX5, TX5, 2), (RX6, TX6, 5), (RX7, TX7, 7), (RX8, TX8, 2), (RX9, TX9, 9), (RX10, TX10, 3), (RX11, TX11, 16), (RX12, TX12, 47)]
abbrev g_cl : List vw_C := vwCl ++ [("java/util/NoSuchElementException", TX0, 0)]
