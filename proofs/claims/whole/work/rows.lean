section
-- ===== PART A: goes FIRST, ahead of the names: the tables' words, and 'selects' of the private methods out of them =====
/-- a private method of a class that the tables say can be made, by its rows of tables_1 -/
def lw_okq (q : MethodName × Nat) : Prop := (q.1.cls ≠ "java/lang/invoke/MethodHandle" ∧ q.1.cls ≠ "java/lang/invoke/VarHandle") ∧ Cond.instantiable q.1.cls q.2 ∈ tables_1 ∧ Cond.privateMethod q.1 ∈ tables_1 ∧ Cond.instanceMethod q.1 ∈ tables_1
theorem lw_p0 : lw_okq (⟨"BondOffice", "putOnTape", "(I)V"⟩, 12) := ⟨⟨by decide +kernel, by decide +kernel⟩, List.mem_of_getElem? (i := 35) (by decide +kernel), List.mem_of_getElem? (i := 167) (by decide +kernel), List.mem_of_getElem? (i := 168) (by decide +kernel)⟩
theorem lw_p1 : lw_okq (⟨"BondOffice", "lapseOldWins", "()V"⟩, 12) := ⟨⟨by decide +kernel, by decide +kernel⟩, List.mem_of_getElem? (i := 35) (by decide +kernel), List.mem_of_getElem? (i := 211) (by decide +kernel), List.mem_of_getElem? (i := 212) (by decide +kernel)⟩
theorem lw_p2 : lw_okq (⟨"BondOffice", "mixNoise", "(II)J"⟩, 12) := ⟨⟨by decide +kernel, by decide +kernel⟩, List.mem_of_getElem? (i := 35) (by decide +kernel), List.mem_of_getElem? (i := 261) (by decide +kernel), List.mem_of_getElem? (i := 262) (by decide +kernel)⟩
theorem lw_p3 : lw_okq (⟨"BondOffice", "awardPrizes", "(LBondOffice$Draw;LBondOffice$Rule;I)V"⟩, 12) := ⟨⟨by decide +kernel, by decide +kernel⟩, List.mem_of_getElem? (i := 35) (by decide +kernel), List.mem_of_getElem? (i := 291) (by decide +kernel), List.mem_of_getElem? (i := 292) (by decide +kernel)⟩
theorem lw_p4 : lw_okq (⟨"BondOffice", "awardPrize", "(LBondOffice$Draw;II)V"⟩, 12) := ⟨⟨by decide +kernel, by decide +kernel⟩, List.mem_of_getElem? (i := 35) (by decide +kernel), List.mem_of_getElem? (i := 312) (by decide +kernel), List.mem_of_getElem? (i := 313) (by decide +kernel)⟩
theorem lw_p5 : lw_okq (⟨"BondOffice$Ledger", "placeAmongGoing", "(I)I"⟩, 3) := ⟨⟨by decide +kernel, by decide +kernel⟩, List.mem_of_getElem? (i := 69) (by decide +kernel), List.mem_of_getElem? (i := 329) (by decide +kernel), List.mem_of_getElem? (i := 330) (by decide +kernel)⟩
theorem lw_p6 : lw_okq (⟨"java/util/ArrayList", "add", "(Ljava/lang/Object;[Ljava/lang/Object;I)V"⟩, 3) := ⟨⟨by decide +kernel, by decide +kernel⟩, List.mem_of_getElem? (i := 43) (by decide +kernel), List.mem_of_getElem? (i := 363) (by decide +kernel), List.mem_of_getElem? (i := 364) (by decide +kernel)⟩
theorem lw_p7 : lw_okq (⟨"java/util/ArrayList", "grow", "()[Ljava/lang/Object;"⟩, 3) := ⟨⟨by decide +kernel, by decide +kernel⟩, List.mem_of_getElem? (i := 43) (by decide +kernel), List.mem_of_getElem? (i := 367) (by decide +kernel), List.mem_of_getElem? (i := 368) (by decide +kernel)⟩
theorem lw_p8 : lw_okq (⟨"java/util/ArrayList", "grow", "(I)[Ljava/lang/Object;"⟩, 3) := ⟨⟨by decide +kernel, by decide +kernel⟩, List.mem_of_getElem? (i := 43) (by decide +kernel), List.mem_of_getElem? (i := 371) (by decide +kernel), List.mem_of_getElem? (i := 372) (by decide +kernel)⟩
theorem lw_p9 : lw_okq (⟨"BondOffice", "openWins", "()I"⟩, 12) := ⟨⟨by decide +kernel, by decide +kernel⟩, List.mem_of_getElem? (i := 35) (by decide +kernel), List.mem_of_getElem? (i := 427) (by decide +kernel), List.mem_of_getElem? (i := 428) (by decide +kernel)⟩
theorem lw_p10 : lw_okq (⟨"java/lang/Throwable", "fillInStackTrace", "(I)Ljava/lang/Throwable;"⟩, 6) := ⟨⟨by decide +kernel, by decide +kernel⟩, List.mem_of_getElem? (i := 477) (by decide +kernel), List.mem_of_getElem? (i := 475) (by decide +kernel), List.mem_of_getElem? (i := 476) (by decide +kernel)⟩
theorem lw_p11 : lw_okq (⟨"BondOffice", "checkHolder", "(I)V"⟩, 12) := ⟨⟨by decide +kernel, by decide +kernel⟩, List.mem_of_getElem? (i := 35) (by decide +kernel), List.mem_of_getElem? (i := 530) (by decide +kernel), List.mem_of_getElem? (i := 531) (by decide +kernel)⟩
theorem lw_p12 : lw_okq (⟨"BondOffice", "checkAlive", "(I)V"⟩, 12) := ⟨⟨by decide +kernel, by decide +kernel⟩, List.mem_of_getElem? (i := 35) (by decide +kernel), List.mem_of_getElem? (i := 567) (by decide +kernel), List.mem_of_getElem? (i := 568) (by decide +kernel)⟩
theorem lw_p13 : lw_okq (⟨"BondOffice$Ledger", "begin", "(IIII)LBondOffice$Line;"⟩, 3) := ⟨⟨by decide +kernel, by decide +kernel⟩, List.mem_of_getElem? (i := 69) (by decide +kernel), List.mem_of_getElem? (i := 577) (by decide +kernel), List.mem_of_getElem? (i := 578) (by decide +kernel)⟩
theorem lw_p14 : lw_okq (⟨"BondOffice", "checkPair", "(II)V"⟩, 12) := ⟨⟨by decide +kernel, by decide +kernel⟩, List.mem_of_getElem? (i := 35) (by decide +kernel), List.mem_of_getElem? (i := 615) (by decide +kernel), List.mem_of_getElem? (i := 616) (by decide +kernel)⟩
theorem lw_p15 : lw_okq (⟨"BondOffice$Ledger", "ownsAll", "(III)Z"⟩, 3) := ⟨⟨by decide +kernel, by decide +kernel⟩, List.mem_of_getElem? (i := 69) (by decide +kernel), List.mem_of_getElem? (i := 624) (by decide +kernel), List.mem_of_getElem? (i := 625) (by decide +kernel)⟩
def lw_privs_1 : List (MethodName × Nat) := [(⟨"BondOffice", "putOnTape", "(I)V"⟩, 12), (⟨"BondOffice", "lapseOldWins", "()V"⟩, 12), (⟨"BondOffice", "mixNoise", "(II)J"⟩, 12), (⟨"BondOffice", "awardPrizes", "(LBondOffice$Draw;LBondOffice$Rule;I)V"⟩, 12), (⟨"BondOffice", "awardPrize", "(LBondOffice$Draw;II)V"⟩, 12), (⟨"BondOffice$Ledger", "placeAmongGoing", "(I)I"⟩, 3), (⟨"java/util/ArrayList", "add", "(Ljava/lang/Object;[Ljava/lang/Object;I)V"⟩, 3), (⟨"java/util/ArrayList", "grow", "()[Ljava/lang/Object;"⟩, 3), (⟨"java/util/ArrayList", "grow", "(I)[Ljava/lang/Object;"⟩, 3), (⟨"BondOffice", "openWins", "()I"⟩, 12), (⟨"java/lang/Throwable", "fillInStackTrace", "(I)Ljava/lang/Throwable;"⟩, 6), (⟨"BondOffice", "checkHolder", "(I)V"⟩, 12), (⟨"BondOffice", "checkAlive", "(I)V"⟩, 12), (⟨"BondOffice$Ledger", "begin", "(IIII)LBondOffice$Line;"⟩, 3), (⟨"BondOffice", "checkPair", "(II)V"⟩, 12), (⟨"BondOffice$Ledger", "ownsAll", "(III)Z"⟩, 3)]
theorem lw_r1 : ∀ q ∈ lw_privs_1, lw_okq q := List.forall_mem_cons.mpr ⟨lw_p0, List.forall_mem_cons.mpr ⟨lw_p1, List.forall_mem_cons.mpr ⟨lw_p2, List.forall_mem_cons.mpr ⟨lw_p3, List.forall_mem_cons.mpr ⟨lw_p4, List.forall_mem_cons.mpr ⟨lw_p5, List.forall_mem_cons.mpr ⟨lw_p6, List.forall_mem_cons.mpr ⟨lw_p7, List.forall_mem_cons.mpr ⟨lw_p8, List.forall_mem_cons.mpr ⟨lw_p9, List.forall_mem_cons.mpr ⟨lw_p10, List.forall_mem_cons.mpr ⟨lw_p11, List.forall_mem_cons.mpr ⟨lw_p12, List.forall_mem_cons.mpr ⟨lw_p13, List.forall_mem_cons.mpr ⟨lw_p14, List.forall_mem_cons.mpr ⟨lw_p15, fun _ h => absurd h List.not_mem_nil⟩⟩⟩⟩⟩⟩⟩⟩⟩⟩⟩⟩⟩⟩⟩⟩
theorem lw_p16 : lw_okq (⟨"BondOffice$Ledger", "linesMadeByPassing", "(III)I"⟩, 3) := ⟨⟨by decide +kernel, by decide +kernel⟩, List.mem_of_getElem? (i := 69) (by decide +kernel), List.mem_of_getElem? (i := 634) (by decide +kernel), List.mem_of_getElem? (i := 635) (by decide +kernel)⟩
theorem lw_p17 : lw_okq (⟨"BondOffice$Ledger", "passOne", "(LBondOffice$Line;IIII)V"⟩, 3) := ⟨⟨by decide +kernel, by decide +kernel⟩, List.mem_of_getElem? (i := 69) (by decide +kernel), List.mem_of_getElem? (i := 642) (by decide +kernel), List.mem_of_getElem? (i := 643) (by decide +kernel)⟩
theorem lw_p18 : lw_okq (⟨"BondOffice$Ledger", "replaceAmongGoing", "(ILBondOffice$Line;LBondOffice$Line;LBondOffice$Line;)V"⟩, 3) := ⟨⟨by decide +kernel, by decide +kernel⟩, List.mem_of_getElem? (i := 69) (by decide +kernel), List.mem_of_getElem? (i := 648) (by decide +kernel), List.mem_of_getElem? (i := 649) (by decide +kernel)⟩
theorem lw_p19 : lw_okq (⟨"java/util/ArrayList", "rangeCheckForAdd", "(I)V"⟩, 3) := ⟨⟨by decide +kernel, by decide +kernel⟩, List.mem_of_getElem? (i := 43) (by decide +kernel), List.mem_of_getElem? (i := 656) (by decide +kernel), List.mem_of_getElem? (i := 657) (by decide +kernel)⟩
theorem lw_p20 : lw_okq (⟨"java/util/ArrayList", "outOfBoundsMsg", "(I)Ljava/lang/String;"⟩, 3) := ⟨⟨by decide +kernel, by decide +kernel⟩, List.mem_of_getElem? (i := 43) (by decide +kernel), List.mem_of_getElem? (i := 661) (by decide +kernel), List.mem_of_getElem? (i := 662) (by decide +kernel)⟩
theorem lw_p21 : lw_okq (⟨"java/util/ArrayList", "fastRemove", "([Ljava/lang/Object;I)V"⟩, 3) := ⟨⟨by decide +kernel, by decide +kernel⟩, List.mem_of_getElem? (i := 43) (by decide +kernel), List.mem_of_getElem? (i := 906) (by decide +kernel), List.mem_of_getElem? (i := 907) (by decide +kernel)⟩
theorem lw_p22 : lw_okq (⟨"BondOffice$RuleReader", "skipBlanks", "()V"⟩, 5) := ⟨⟨by decide +kernel, by decide +kernel⟩, List.mem_of_getElem? (i := 988) (by decide +kernel), List.mem_of_getElem? (i := 1016) (by decide +kernel), List.mem_of_getElem? (i := 1017) (by decide +kernel)⟩
theorem lw_p23 : lw_okq (⟨"BondOffice$RuleReader", "byteAt", "(I)I"⟩, 5) := ⟨⟨by decide +kernel, by decide +kernel⟩, List.mem_of_getElem? (i := 988) (by decide +kernel), List.mem_of_getElem? (i := 1020) (by decide +kernel), List.mem_of_getElem? (i := 1021) (by decide +kernel)⟩
theorem lw_p24 : lw_okq (⟨"BondOffice$RuleReader", "readClause", "(LBondOffice$Rule;)V"⟩, 5) := ⟨⟨by decide +kernel, by decide +kernel⟩, List.mem_of_getElem? (i := 988) (by decide +kernel), List.mem_of_getElem? (i := 1024) (by decide +kernel), List.mem_of_getElem? (i := 1025) (by decide +kernel)⟩
theorem lw_p25 : lw_okq (⟨"BondOffice$RuleReader", "readKind", "()LBondOffice$Kind;"⟩, 5) := ⟨⟨by decide +kernel, by decide +kernel⟩, List.mem_of_getElem? (i := 988) (by decide +kernel), List.mem_of_getElem? (i := 1028) (by decide +kernel), List.mem_of_getElem? (i := 1029) (by decide +kernel)⟩
theorem lw_p26 : lw_okq (⟨"BondOffice$RuleReader", "endOfToken", "(I)I"⟩, 5) := ⟨⟨by decide +kernel, by decide +kernel⟩, List.mem_of_getElem? (i := 988) (by decide +kernel), List.mem_of_getElem? (i := 1032) (by decide +kernel), List.mem_of_getElem? (i := 1033) (by decide +kernel)⟩
theorem lw_p27 : lw_okq (⟨"BondOffice$RuleReader", "isToken", "(IILjava/lang/String;)Z"⟩, 5) := ⟨⟨by decide +kernel, by decide +kernel⟩, List.mem_of_getElem? (i := 988) (by decide +kernel), List.mem_of_getElem? (i := 1041) (by decide +kernel), List.mem_of_getElem? (i := 1042) (by decide +kernel)⟩
theorem lw_p28 : lw_okq (⟨"BondOffice$RuleReader", "blame", "(II)V"⟩, 5) := ⟨⟨by decide +kernel, by decide +kernel⟩, List.mem_of_getElem? (i := 988) (by decide +kernel), List.mem_of_getElem? (i := 1068) (by decide +kernel), List.mem_of_getElem? (i := 1069) (by decide +kernel)⟩
theorem lw_p29 : lw_okq (⟨"BondOffice$RuleReader", "readNumber", "(II)I"⟩, 5) := ⟨⟨by decide +kernel, by decide +kernel⟩, List.mem_of_getElem? (i := 988) (by decide +kernel), List.mem_of_getElem? (i := 1073) (by decide +kernel), List.mem_of_getElem? (i := 1074) (by decide +kernel)⟩
theorem lw_p30 : lw_okq (⟨"BondOffice$RuleReader", "expect", "(Ljava/lang/String;)V"⟩, 5) := ⟨⟨by decide +kernel, by decide +kernel⟩, List.mem_of_getElem? (i := 988) (by decide +kernel), List.mem_of_getElem? (i := 1092) (by decide +kernel), List.mem_of_getElem? (i := 1093) (by decide +kernel)⟩
theorem lw_p31 : lw_okq (⟨"BondOffice", "checkWin", "(I)V"⟩, 12) := ⟨⟨by decide +kernel, by decide +kernel⟩, List.mem_of_getElem? (i := 35) (by decide +kernel), List.mem_of_getElem? (i := 1138) (by decide +kernel), List.mem_of_getElem? (i := 1139) (by decide +kernel)⟩
def lw_privs_2 : List (MethodName × Nat) := [(⟨"BondOffice$Ledger", "linesMadeByPassing", "(III)I"⟩, 3), (⟨"BondOffice$Ledger", "passOne", "(LBondOffice$Line;IIII)V"⟩, 3), (⟨"BondOffice$Ledger", "replaceAmongGoing", "(ILBondOffice$Line;LBondOffice$Line;LBondOffice$Line;)V"⟩, 3), (⟨"java/util/ArrayList", "rangeCheckForAdd", "(I)V"⟩, 3), (⟨"java/util/ArrayList", "outOfBoundsMsg", "(I)Ljava/lang/String;"⟩, 3), (⟨"java/util/ArrayList", "fastRemove", "([Ljava/lang/Object;I)V"⟩, 3), (⟨"BondOffice$RuleReader", "skipBlanks", "()V"⟩, 5), (⟨"BondOffice$RuleReader", "byteAt", "(I)I"⟩, 5), (⟨"BondOffice$RuleReader", "readClause", "(LBondOffice$Rule;)V"⟩, 5), (⟨"BondOffice$RuleReader", "readKind", "()LBondOffice$Kind;"⟩, 5), (⟨"BondOffice$RuleReader", "endOfToken", "(I)I"⟩, 5), (⟨"BondOffice$RuleReader", "isToken", "(IILjava/lang/String;)Z"⟩, 5), (⟨"BondOffice$RuleReader", "blame", "(II)V"⟩, 5), (⟨"BondOffice$RuleReader", "readNumber", "(II)I"⟩, 5), (⟨"BondOffice$RuleReader", "expect", "(Ljava/lang/String;)V"⟩, 5), (⟨"BondOffice", "checkWin", "(I)V"⟩, 12)]
theorem lw_r2 : ∀ q ∈ lw_privs_2, lw_okq q := List.forall_mem_cons.mpr ⟨lw_p16, List.forall_mem_cons.mpr ⟨lw_p17, List.forall_mem_cons.mpr ⟨lw_p18, List.forall_mem_cons.mpr ⟨lw_p19, List.forall_mem_cons.mpr ⟨lw_p20, List.forall_mem_cons.mpr ⟨lw_p21, List.forall_mem_cons.mpr ⟨lw_p22, List.forall_mem_cons.mpr ⟨lw_p23, List.forall_mem_cons.mpr ⟨lw_p24, List.forall_mem_cons.mpr ⟨lw_p25, List.forall_mem_cons.mpr ⟨lw_p26, List.forall_mem_cons.mpr ⟨lw_p27, List.forall_mem_cons.mpr ⟨lw_p28, List.forall_mem_cons.mpr ⟨lw_p29, List.forall_mem_cons.mpr ⟨lw_p30, List.forall_mem_cons.mpr ⟨lw_p31, fun _ h => absurd h List.not_mem_nil⟩⟩⟩⟩⟩⟩⟩⟩⟩⟩⟩⟩⟩⟩⟩⟩
theorem lw_p32 : lw_okq (⟨"BondOffice", "payOut", "(II)V"⟩, 12) := ⟨⟨by decide +kernel, by decide +kernel⟩, List.mem_of_getElem? (i := 35) (by decide +kernel), List.mem_of_getElem? (i := 1155) (by decide +kernel), List.mem_of_getElem? (i := 1156) (by decide +kernel)⟩
theorem lw_p33 : lw_okq (⟨"BondOfficeModel", "bad", "(ZI)Z"⟩, 37) := ⟨⟨by decide +kernel, by decide +kernel⟩, List.mem_of_getElem? (i := 1166) (by decide +kernel), List.mem_of_getElem? (i := 1294) (by decide +kernel), List.mem_of_getElem? (i := 1295) (by decide +kernel)⟩
theorem lw_p34 : lw_okq (⟨"BondOfficeModel", "isHolder", "(I)Z"⟩, 37) := ⟨⟨by decide +kernel, by decide +kernel⟩, List.mem_of_getElem? (i := 1166) (by decide +kernel), List.mem_of_getElem? (i := 1302) (by decide +kernel), List.mem_of_getElem? (i := 1303) (by decide +kernel)⟩
theorem lw_p35 : lw_okq (⟨"BondOfficeModel", "adds", "(IIII)V"⟩, 37) := ⟨⟨by decide +kernel, by decide +kernel⟩, List.mem_of_getElem? (i := 1166) (by decide +kernel), List.mem_of_getElem? (i := 1308) (by decide +kernel), List.mem_of_getElem? (i := 1309) (by decide +kernel)⟩
theorem lw_p36 : lw_okq (⟨"BondOfficeModel", "goes", "(IIII)I"⟩, 37) := ⟨⟨by decide +kernel, by decide +kernel⟩, List.mem_of_getElem? (i := 1166) (by decide +kernel), List.mem_of_getElem? (i := 1316) (by decide +kernel), List.mem_of_getElem? (i := 1317) (by decide +kernel)⟩
theorem lw_p37 : lw_okq (⟨"BondOfficeModel", "hasOf", "(III)J"⟩, 37) := ⟨⟨by decide +kernel, by decide +kernel⟩, List.mem_of_getElem? (i := 1166) (by decide +kernel), List.mem_of_getElem? (i := 1320) (by decide +kernel), List.mem_of_getElem? (i := 1321) (by decide +kernel)⟩
theorem lw_p38 : lw_okq (⟨"BondOfficeModel", "goesOn", "(II)Z"⟩, 37) := ⟨⟨by decide +kernel, by decide +kernel⟩, List.mem_of_getElem? (i := 1166) (by decide +kernel), List.mem_of_getElem? (i := 1324) (by decide +kernel), List.mem_of_getElem? (i := 1325) (by decide +kernel)⟩
theorem lw_p39 : lw_okq (⟨"BondOfficeModel", "blanks", "()V"⟩, 37) := ⟨⟨by decide +kernel, by decide +kernel⟩, List.mem_of_getElem? (i := 1166) (by decide +kernel), List.mem_of_getElem? (i := 1361) (by decide +kernel), List.mem_of_getElem? (i := 1362) (by decide +kernel)⟩
theorem lw_p40 : lw_okq (⟨"BondOfficeModel", "byteAt", "(I)I"⟩, 37) := ⟨⟨by decide +kernel, by decide +kernel⟩, List.mem_of_getElem? (i := 1166) (by decide +kernel), List.mem_of_getElem? (i := 1365) (by decide +kernel), List.mem_of_getElem? (i := 1366) (by decide +kernel)⟩
theorem lw_p41 : lw_okq (⟨"BondOfficeModel", "isWord", "(Ljava/lang/String;)Z"⟩, 37) := ⟨⟨by decide +kernel, by decide +kernel⟩, List.mem_of_getElem? (i := 1166) (by decide +kernel), List.mem_of_getElem? (i := 1370) (by decide +kernel), List.mem_of_getElem? (i := 1371) (by decide +kernel)⟩
theorem lw_p42 : lw_okq (⟨"BondOfficeModel", "wrong", "(II)V"⟩, 37) := ⟨⟨by decide +kernel, by decide +kernel⟩, List.mem_of_getElem? (i := 1166) (by decide +kernel), List.mem_of_getElem? (i := 1382) (by decide +kernel), List.mem_of_getElem? (i := 1383) (by decide +kernel)⟩
theorem lw_p43 : lw_okq (⟨"BondOfficeModel", "clause", "(I)V"⟩, 37) := ⟨⟨by decide +kernel, by decide +kernel⟩, List.mem_of_getElem? (i := 1166) (by decide +kernel), List.mem_of_getElem? (i := 1386) (by decide +kernel), List.mem_of_getElem? (i := 1387) (by decide +kernel)⟩
theorem lw_p44 : lw_okq (⟨"BondOfficeModel", "need", "(Ljava/lang/String;)V"⟩, 37) := ⟨⟨by decide +kernel, by decide +kernel⟩, List.mem_of_getElem? (i := 1166) (by decide +kernel), List.mem_of_getElem? (i := 1390) (by decide +kernel), List.mem_of_getElem? (i := 1391) (by decide +kernel)⟩
theorem lw_p45 : lw_okq (⟨"BondOfficeModel", "number", "(II)I"⟩, 37) := ⟨⟨by decide +kernel, by decide +kernel⟩, List.mem_of_getElem? (i := 1166) (by decide +kernel), List.mem_of_getElem? (i := 1395) (by decide +kernel), List.mem_of_getElem? (i := 1396) (by decide +kernel)⟩
theorem lw_p46 : lw_okq (⟨"BondOfficeModel", "sign", "(I)V"⟩, 37) := ⟨⟨by decide +kernel, by decide +kernel⟩, List.mem_of_getElem? (i := 1166) (by decide +kernel), List.mem_of_getElem? (i := 1405) (by decide +kernel), List.mem_of_getElem? (i := 1406) (by decide +kernel)⟩
theorem lw_p47 : lw_okq (⟨"BondOfficeModel", "forceOf", "(I)I"⟩, 37) := ⟨⟨by decide +kernel, by decide +kernel⟩, List.mem_of_getElem? (i := 1166) (by decide +kernel), List.mem_of_getElem? (i := 1418) (by decide +kernel), List.mem_of_getElem? (i := 1419) (by decide +kernel)⟩
def lw_privs_3 : List (MethodName × Nat) := [(⟨"BondOffice", "payOut", "(II)V"⟩, 12), (⟨"BondOfficeModel", "bad", "(ZI)Z"⟩, 37), (⟨"BondOfficeModel", "isHolder", "(I)Z"⟩, 37), (⟨"BondOfficeModel", "adds", "(IIII)V"⟩, 37), (⟨"BondOfficeModel", "goes", "(IIII)I"⟩, 37), (⟨"BondOfficeModel", "hasOf", "(III)J"⟩, 37), (⟨"BondOfficeModel", "goesOn", "(II)Z"⟩, 37), (⟨"BondOfficeModel", "blanks", "()V"⟩, 37), (⟨"BondOfficeModel", "byteAt", "(I)I"⟩, 37), (⟨"BondOfficeModel", "isWord", "(Ljava/lang/String;)Z"⟩, 37), (⟨"BondOfficeModel", "wrong", "(II)V"⟩, 37), (⟨"BondOfficeModel", "clause", "(I)V"⟩, 37), (⟨"BondOfficeModel", "need", "(Ljava/lang/String;)V"⟩, 37), (⟨"BondOfficeModel", "number", "(II)I"⟩, 37), (⟨"BondOfficeModel", "sign", "(I)V"⟩, 37), (⟨"BondOfficeModel", "forceOf", "(I)I"⟩, 37)]
theorem lw_r3 : ∀ q ∈ lw_privs_3, lw_okq q := List.forall_mem_cons.mpr ⟨lw_p32, List.forall_mem_cons.mpr ⟨lw_p33, List.forall_mem_cons.mpr ⟨lw_p34, List.forall_mem_cons.mpr ⟨lw_p35, List.forall_mem_cons.mpr ⟨lw_p36, List.forall_mem_cons.mpr ⟨lw_p37, List.forall_mem_cons.mpr ⟨lw_p38, List.forall_mem_cons.mpr ⟨lw_p39, List.forall_mem_cons.mpr ⟨lw_p40, List.forall_mem_cons.mpr ⟨lw_p41, List.forall_mem_cons.mpr ⟨lw_p42, List.forall_mem_cons.mpr ⟨lw_p43, List.forall_mem_cons.mpr ⟨lw_p44, List.forall_mem_cons.mpr ⟨lw_p45, List.forall_mem_cons.mpr ⟨lw_p46, List.forall_mem_cons.mpr ⟨lw_p47, fun _ h => absurd h List.not_mem_nil⟩⟩⟩⟩⟩⟩⟩⟩⟩⟩⟩⟩⟩⟩⟩⟩
theorem lw_p48 : lw_okq (⟨"BondOfficeModel", "sorts", "(I)J"⟩, 37) := ⟨⟨by decide +kernel, by decide +kernel⟩, List.mem_of_getElem? (i := 1166) (by decide +kernel), List.mem_of_getElem? (i := 1430) (by decide +kernel), List.mem_of_getElem? (i := 1431) (by decide +kernel)⟩
theorem lw_p49 : lw_okq (⟨"BondOfficeModel", "mix", "(JJ)J"⟩, 37) := ⟨⟨by decide +kernel, by decide +kernel⟩, List.mem_of_getElem? (i := 1166) (by decide +kernel), List.mem_of_getElem? (i := 1435) (by decide +kernel), List.mem_of_getElem? (i := 1436) (by decide +kernel)⟩
theorem lw_p50 : lw_okq (⟨"BondOfficeModel", "heldNow", "()J"⟩, 37) := ⟨⟨by decide +kernel, by decide +kernel⟩, List.mem_of_getElem? (i := 1166) (by decide +kernel), List.mem_of_getElem? (i := 1445) (by decide +kernel), List.mem_of_getElem? (i := 1446) (by decide +kernel)⟩
theorem lw_p51 : lw_okq (⟨"BondOfficeModel", "winsAt", "(JI)V"⟩, 37) := ⟨⟨by decide +kernel, by decide +kernel⟩, List.mem_of_getElem? (i := 1166) (by decide +kernel), List.mem_of_getElem? (i := 1451) (by decide +kernel), List.mem_of_getElem? (i := 1452) (by decide +kernel)⟩
theorem lw_p52 : lw_okq (⟨"BondOfficeModel", "isWin", "(I)Z"⟩, 37) := ⟨⟨by decide +kernel, by decide +kernel⟩, List.mem_of_getElem? (i := 1166) (by decide +kernel), List.mem_of_getElem? (i := 1463) (by decide +kernel), List.mem_of_getElem? (i := 1464) (by decide +kernel)⟩
def lw_privs_4 : List (MethodName × Nat) := [(⟨"BondOfficeModel", "sorts", "(I)J"⟩, 37), (⟨"BondOfficeModel", "mix", "(JJ)J"⟩, 37), (⟨"BondOfficeModel", "heldNow", "()J"⟩, 37), (⟨"BondOfficeModel", "winsAt", "(JI)V"⟩, 37), (⟨"BondOfficeModel", "isWin", "(I)Z"⟩, 37)]
theorem lw_r4 : ∀ q ∈ lw_privs_4, lw_okq q := List.forall_mem_cons.mpr ⟨lw_p48, List.forall_mem_cons.mpr ⟨lw_p49, List.forall_mem_cons.mpr ⟨lw_p50, List.forall_mem_cons.mpr ⟨lw_p51, List.forall_mem_cons.mpr ⟨lw_p52, fun _ h => absurd h List.not_mem_nil⟩⟩⟩⟩⟩
def lw_privs : List (MethodName × Nat) := lw_privs_1 ++ (lw_privs_2 ++ (lw_privs_3 ++ (lw_privs_4)))
def lw_tbl : List Cond := k2_sels lw_privs ++ tables_1
theorem lw_privs_ok : ∀ q ∈ lw_privs, lw_okq q := by
  show ∀ q ∈ lw_privs_1 ++ (lw_privs_2 ++ (lw_privs_3 ++ (lw_privs_4))), lw_okq q
  exact List.forall_mem_append.mpr ⟨lw_r1, List.forall_mem_append.mpr ⟨lw_r2, List.forall_mem_append.mpr ⟨lw_r3, lw_r4⟩⟩⟩
end
section
/-! ===== BEGIN words of one list among another's, by their places ===== -/
theorem goodIn_r {big : List Cond} (ws : List Cond) (ps : List Nat) (hp : ws = ps.filterMap (fun i => big[i]?)) (h : ws.all goodWord = true) : GoodIn big ws := by
  intro w hw
  have h1 := List.all_eq_true.mp h w hw
  rw [hp] at hw
  obtain ⟨i, -, hi⟩ := List.mem_filterMap.mp hw
  have hm : w ∈ big := by first | exact List.mem_of_getElem? hi | exact List.getElem?_mem hi
  exact ⟨hm, good_of_word h1⟩
theorem goodIn_app {big a b : List Cond} (ha : GoodIn big a) (hb : GoodIn big b) : GoodIn big (a ++ b) := fun w h => (List.mem_append.mp h).elim (ha w) (hb w)
theorem goodIn_ca {big a b : List Cond} {c : Cond} (ha : GoodIn big (c :: a)) (hb : GoodIn big b) : GoodIn big (c :: (a ++ b)) := fun w h => (List.mem_cons.mp h).elim (fun e => ha w (List.mem_cons.mpr (Or.inl e))) (fun h => (List.mem_append.mp h).elim (fun h => ha w (List.mem_cons.mpr (Or.inr h))) (hb w))
theorem goodIn_sub {big ws : List Cond} (hm : ∀ w ∈ ws, w ∈ big) (h : ws.all goodWord = true) : GoodIn big ws := fun w hw => ⟨hm w hw, good_of_word (List.all_eq_true.mp h w hw)⟩
/-! ===== END ===== -/

/-! ===== BEGIN exceptions that leave a method, and their catching by the caller (launches without stack traces) ===== -/
section VXA
/-! The laws vx_back, vx_callV, vx_callS, vx_callSW, vx_throw0, vx_throwS follow proofs of the library, with one case more: JvmDerived/Free/Laws.lean (Back.of_free), Shelf42/LK1.lean (callV, callS), Shelf/KitTraced.lean (throwNew0V, throwNewS). -/
/-- where a method has thrown q: the class by its name, the cell, what was written, the world -/
def vx_T (XC : String → State → State → Prop) (st : State) (q : Addr) (t : State) (mc ms : Nat) (free : Addr → Prop) : Prop :=
  ∃ (E : String) (ce : Cell) (L : List Loc), XC E st t ∧ t.heap[q]? = some ce ∧ ce.vm = .none ∧ st.vm.findClass E = some ce.cls ∧ st.WarmedH t.vm ∧ st.sameButNew ({ t with vm := st.vm } : State) L mc ms ∧ ∀ z ∈ L, free z.base
def vx_Q (Qc : Array Value → State → Outcome → State → Prop) (XC : String → State → State → Prop) (mc ms : Nat) (free : Addr → Prop) : Array Value → State → Outcome → State → Prop := fun a st o t =>
  (Qc a st o t ∧ ∃ L, FrameEnd st o t L mc ms ∧ ∀ q ∈ L, free q.base) ∨ ∃ q, o = .threw q ∧ vx_T XC st q t mc ms free
/-- a callee that returns or throws -/
def vx_Met (l : Launch) (y : MethodName) (ws : List Cond) (rm : Room) (Pc : Array Value → State → Prop) (Qc : Array Value → State → Outcome → State → Prop) (XC : String → State → State → Prop) (mc ms : Nat) (free : Addr → Prop) : Prop :=
  MetFree l y (headSpec ws rm) Pc (fun _ _ _ _ _ => True) (vx_Q Qc XC mc ms free)
def vx_Post (XC : String → State → State → Prop) (mc ms : Nat) (free : Addr → Prop) : Pt → Array Value → Addr → Pt → Prop := fun A a q B =>
  ∃ (g : JFrame) (mk : MethodId) (t : State) (L : List Loc) (E : String) (ce : Cell), B.U.heap = t.heap ∧ B.U.vm = t.vm ∧ XC E (A.U.calling g mk a) t ∧ t.heap[q]? = some ce ∧ ce.vm = .none ∧ A.U.vm.findClass E = some ce.cls ∧ B.locs = A.locs ++ L ∧ (∀ z ∈ L, free z.base) ∧ B.cells = A.cells + mc ∧ B.slots = A.slots + ms
def vx_Back (l : Launch) (R : Room) (p : Program) (e : Env) (below : List Frame) (s : State) (sargs : Array Value) (y : MethodName) (len W9 : Nat)
    (Pre : Pt → Array Value → Prop) (Post : Pt → Array Value → Option Value → Pt → Prop) (PostX : Pt → Array Value → Addr → Pt → Prop) : Prop :=
  ∀ (m : MethodId) (meth : Method) (c : Code) (A : Pt) (g : JFrame) (ig : Instr) (mk : MethodId) (a : Array Value),
    Stand p l e R s m sargs below meth c A.U A.locs A.cells A.slots → g.method = m → g.locals.size = c.maxLocals → decode c.code g.pc = .ok (ig, len) →
    2 * g.monitorRoom + (g.stack.map fun v => v.category).sum ≤ W9 → A.U.methodNamed? y = some mk → Pre A a →
    (∃ (v : Option Value) (B : Pt), Stand p l e R s m sargs below meth c B.U B.locs B.cells B.slots ∧ Post A a v B ∧
      Steps p.tables e below (doInvoke e (A.U.setTop g) [] mk a).1 (B.U.setTop { g with pc := g.pc + len, stack := v.toList ++ g.stack })) ∨
    (∃ (q : Addr) (B : Pt), Stand p l e R s m sargs below meth c B.U B.locs B.cells B.slots ∧ PostX A a q B ∧
      Steps p.tables e below (doInvoke e (A.U.setTop g) [] mk a).1 ((B.U.setTop g).pushFrame (.throwing q)))
section Payer
variable {l : Launch} {R : Room} {p : Program} {e : Env} {below : List Frame} {s : State} {sargs : Array Value} {y : MethodName} {len W9 : Nat}
theorem vx_back {ws : List Cond} {rm : Room} {Pc : Array Value → State → Prop} {Qc : Array Value → State → Outcome → State → Prop} {XC : String → State → State → Prop} {mc ms : Nat} {free : Addr → Prop} {bytes : ByteArray} {maxL : Nat} {ret : Option FieldType}
    (hM : vx_Met l y ws rm Pc Qc XC mc ms free) (hblind : FrameBlind Pc) (hrc : rm.cells = mc) (hrs : rm.slots = ms)
    (hframes : rm.frames + 1 ≤ R.frames) (hlocals : W9 + (maxL + 11) + rm.locals ≤ R.locals)
    (hws : ∀ w ∈ ws, ∀ a' U, s.WarmedH U.vm → w.before a' U = true) (hcode : Cond.code y bytes maxL ret ∈ ws) (hinit : ∀ a' U, s.WarmedH U.vm → (Cond.initialized y.cls).before a' U = true) :
    vx_Back l R p e below s sargs y len W9 (PreOf R mc ms Pc) (PostOf Qc mc ms free) (vx_Post XC mc ms free) := by
  intro m meth c A g ig mk a X hg hsize hdg hW hn hp
  have h1 : (headSpec ws rm).pre.before a A.U = true := atoms_intro fun w hw => hws w hw _ _ X.warmed
  have h2 : (Cond.code y bytes maxL ret).before a A.U = true := hws _ hcode _ _ X.warmed
  have h3 : (Cond.initialized y.cls).before a A.U = true := hinit _ _ X.warmed
  have h4 : A.cells + (headSpec ws rm).room.cells ≤ R.cells := by rw [show (headSpec ws rm).room.cells = mc from hrc]; exact hp.1
  have h5 : A.slots + (headSpec ws rm).room.slots ≤ R.slots := by rw [show (headSpec ws rm).room.slots = ms from hrs]; exact hp.2.1
  have hPc : Pc a (A.U.calling g mk a) := hblind _ _ _ _ hp.2.2
  obtain ⟨U, Ls, c0, s0⟩ := A
  dsimp only [Pt.U, Pt.locs, Pt.cells, Pt.slots] at h1 h2 h3 h4 h5 X hn hPc ⊢
  obtain ⟨methY, cY, hmY, hcY, -, hlY, -, -, -, -⟩ := Cond.code_spec hn h2
  obtain ⟨kY, hkY, -⟩ := className_of_methodNamed hn
  have hinitY : kY.init = .initialized := Cond.initialized_spec (findClass_of_methodNamed hn) hkY h3
  have h : At U g.method c below := by rw [hg]; exact X.here
  have hlocals9 : W9 + (maxL + 11) + (headSpec ws rm).room.locals ≤ R.locals := hlocals
  have happ : (headSpec ws rm).appliesLoose y e.platform (U.calling g mk a) = true :=
    Spec.appliesLoose_calling (g := g) h hdg hn hkY hinitY
      (X.room_calling (g := g) (R' := (headSpec ws rm).room) hsize hmY hcY hframes (by rw [hlY]; omega) h4 h5) h1
  obtain ⟨mid, hmid⟩ := h.above
  have hfr : (U.setTop g).frames = (.java g :: mid) ++ below := by rw [State.frames_setTop' g h.top, hmid]; rfl
  obtain ⟨o, s₂, hsteps, -, hend, hq⟩ := Steps.callFree hM p X.admits X.cas X.clock (acts := []) hfr happ hPc trivial
  have hq' : vx_Q Qc XC mc ms free a (U.calling g mk a) o s₂ := hq
  rw [State.frames_setTop' g h.top] at hend
  obtain ⟨g₀, hg0⟩ := Option.isSome_iff_exists.mp h.top
  obtain ⟨r, hr⟩ := State.topJava?_eq_some.mp hg0
  have hr' : (({ U with heap := s₂.heap, slotsUsed := s₂.slotsUsed } : State).setVm s₂.vm).frames = .java g₀ :: r := hr
  rcases hq' with ⟨hqc, L, hfe, hL⟩ | ⟨q, rfl, E, ce, L, hx, hce, hcv, hcl, hW₂, hsm, hL⟩
  · obtain ⟨⟨v, rfl⟩, hW₂, e2, q2, q3, q4, q5, q6⟩ := id hfe
    have e3 : s₂ = ({ (U.calling g mk a).setFrames s₂.frames with heap := s₂.heap, slotsUsed := s₂.slotsUsed } : State).setVm s₂.vm := by
      have : s₂ = ({ s₂ with vm := (U.calling g mk a).vm } : State).setVm s₂.vm := rfl
      rw [e2] at this
      exact this
    obtain ⟨c₂, i₂, len₂, hc₂, hd₂, hf₂⟩ := hend
    have hW' : U.WarmedH s₂.vm := hW₂
    have hcc : c₂ = c := by
      have h1 : s₂.code? g.method = U.code? g.method := by
        rw [State.code?_eq, State.code?_eq, hW'.alike.method?]
      exact Option.some.inj (hc₂.symm.trans (h1.trans h.code))
    subst hcc
    have hlen : len₂ = len := by rw [hdg] at hd₂; cases hd₂; rfl
    subst hlen
    have hs₂ : s₂ = (({ U with heap := s₂.heap, slotsUsed := s₂.slotsUsed } : State).setVm s₂.vm).setTop { g with pc := g.pc + len₂, stack := v.toList ++ g.stack } := by
      refine e3.trans ?_
      rw [hf₂, State.calling_eq h.top, State.setFrames_setFrames, State.setTop_of_frames _ hr', hr]
      rfl
    have hsame : U.sameButNew ({ U with heap := s₂.heap, slotsUsed := s₂.slotsUsed } : State) L mc ms := by
      refine ⟨?_, q2, q3, q4, q5, q6⟩
      obtain ⟨t, ht, -⟩ := State.frames_cons hr
      show ({ U with heap := s₂.heap, slotsUsed := s₂.slotsUsed } : State) = { U.setFrames U.frames with heap := s₂.heap, slotsUsed := s₂.slotsUsed }
      rw [State.setFrames_self ht]
    subst hg
    refine Or.inl ⟨v, ⟨(({ U with heap := s₂.heap, slotsUsed := s₂.slotsUsed } : State).setVm s₂.vm), Ls ++ L, c0 + mc, s0 + ms⟩,
      ⟨X.admits, X.cas, X.clock, X.frames, X.room, X.hears, X.method, X.code, (X.here.setHeapUsed s₂.heap s₂.slotsUsed).setVm hW'.alike, X.tail, State.WarmedH.trans X.warmed hW', X.limits, X.bytes, X.same.trans (hsame.setVm s.vm)⟩,
      ⟨g, mk, s₂, L, rfl, rfl, hqc, rfl, hL, rfl, rfl⟩, ?_⟩
    show Steps p.tables e below _ ((({ U with heap := s₂.heap, slotsUsed := s₂.slotsUsed } : State).setVm s₂.vm).setTop { g with pc := g.pc + len₂, stack := v.toList ++ g.stack })
    rw [← hs₂]
    exact hsteps
  · obtain ⟨e2, q2, q3, q4, q5, q6⟩ := id hsm
    have e3 : s₂ = ({ (U.calling g mk a).setFrames s₂.frames with heap := s₂.heap, slotsUsed := s₂.slotsUsed } : State).setVm s₂.vm := by
      have : s₂ = ({ s₂ with vm := (U.calling g mk a).vm } : State).setVm s₂.vm := rfl
      rw [e2] at this
      exact this
    have hf₂ : s₂.frames = .throwing q :: .java g :: U.frames.tail := hend
    have hW' : U.WarmedH s₂.vm := hW₂
    have hs₂ : s₂ = ((({ U with heap := s₂.heap, slotsUsed := s₂.slotsUsed } : State).setVm s₂.vm).setTop g).pushFrame (.throwing q) := by
      refine e3.trans ?_
      rw [hf₂, State.calling_eq h.top, State.setFrames_setFrames, State.pushFrame, State.frames_setTop _ hr', State.setTop_of_frames _ hr', State.setFrames_setFrames, hr]
      rfl
    have hsame : U.sameButNew ({ U with heap := s₂.heap, slotsUsed := s₂.slotsUsed } : State) L mc ms := by
      refine ⟨?_, q2, q3, q4, q5, q6⟩
      obtain ⟨t, ht, -⟩ := State.frames_cons hr
      show ({ U with heap := s₂.heap, slotsUsed := s₂.slotsUsed } : State) = { U.setFrames U.frames with heap := s₂.heap, slotsUsed := s₂.slotsUsed }
      rw [State.setFrames_self ht]
    subst hg
    refine Or.inr ⟨q, ⟨(({ U with heap := s₂.heap, slotsUsed := s₂.slotsUsed } : State).setVm s₂.vm), Ls ++ L, c0 + mc, s0 + ms⟩,
      ⟨X.admits, X.cas, X.clock, X.frames, X.room, X.hears, X.method, X.code, (X.here.setHeapUsed s₂.heap s₂.slotsUsed).setVm hW'.alike, X.tail, State.WarmedH.trans X.warmed hW', X.limits, X.bytes, X.same.trans (hsame.setVm s.vm)⟩,
      ⟨g, mk, s₂, L, E, ce, rfl, rfl, hx, hce, hcv, hcl, rfl, hL, rfl, rfl⟩, ?_⟩
    show Steps p.tables e below _ (((({ U with heap := s₂.heap, slotsUsed := s₂.slotsUsed } : State).setVm s₂.vm).setTop g).pushFrame (.throwing q))
    rw [← hs₂]
    exact hsteps
end Payer
section Calls
variable {p : Program} {l : Launch} {e : Env} {R : Room} {s : State} {m : MethodId} {args : Array Value} {below : List Frame} {meth : Method} {c : Code} {T : State} {locs : List Loc} {cells slots : Nat}
theorem vx_callV (X : Stand p l e R s m args below meth c T locs cells slots) (hexec : p.tables.exec = Jvm.exec) {own C : String} {index : Nat} {y : MethodName} {bytes : ByteArray} {maxL : Nat} {ret : Option FieldType}
    (hown : s.vm.findClass own = some m.cls) (hlink : (Cond.methodLink own index y).before args s = true) (hinst : (Cond.instanceMethod y).before args s = true) (hsel : (Cond.selects C y y).before args s = true)
    (hcode : (Cond.code y bytes maxL ret).before args s = true) (hy : y.cls ≠ "java/lang/invoke/MethodHandle" ∧ y.cls ≠ "java/lang/invoke/VarHandle")
    {W9 : Nat} {Pre : Pt → Array Value → Prop} {Post : Pt → Array Value → Option Value → Pt → Prop} {PostX : Pt → Array Value → Addr → Pt → Prop} (hK : vx_Back l R p e below s args y 3 W9 Pre Post PostX)
    {b : Addr} {cellB : Cell} (hcell : T.heap[b]? = some cellB) (hobj : cellB.vm.isStatics = false) (hcls : s.vm.findClass C = some cellB.cls)
    {g : JFrame} (hg : g.method = m) (hsize : g.locals.size = c.maxLocals) {argsL rest : List Value} (hlen : ∀ sig, parseMethodDescriptor y.desc = some sig → argsL.length = sig.parameters.length)
    (hstack : g.stack = argsL.reverse ++ .ref b :: rest) (hW : 2 * g.monitorRoom + (rest.map fun v => v.category).sum ≤ W9) (hdg : decode c.code g.pc = .ok (.invokevirtual index, 3))
    (hpre : ∀ vm₁, s.WarmedH vm₁ → Pre ⟨T.setVm vm₁, locs, cells, slots⟩ (Value.ref b :: argsL).toArray) :
    (∃ (v : Option Value) (vm₁ : Vm) (B : Pt), s.WarmedH vm₁ ∧ Stand p l e R s m args below meth c B.U B.locs B.cells B.slots ∧ Post ⟨T.setVm vm₁, locs, cells, slots⟩ (Value.ref b :: argsL).toArray v B ∧
      ∀ target, Steps p.tables e below (B.U.setTop { g with pc := g.pc + 3, stack := v.toList ++ rest }) target → Steps p.tables e below (T.setTop g) target) ∨
    (∃ (q : Addr) (vm₁ : Vm) (B : Pt), s.WarmedH vm₁ ∧ Stand p l e R s m args below meth c B.U B.locs B.cells B.slots ∧ PostX ⟨T.setVm vm₁, locs, cells, slots⟩ (Value.ref b :: argsL).toArray q B ∧
      Steps p.tables e below (T.setTop g) ((B.U.setTop { g with stack := rest }).pushFrame (.throwing q))) := by
  obtain ⟨mk, methM, hnamed, hmethM, hstM, habM⟩ := Cond.instanceMethod_spec hinst
  obtain ⟨methM', cM, hmethM', -, -, -, -, -, -, hsigM⟩ := Cond.code_spec hnamed hcode
  cases hmethM.symm.trans hmethM'
  obtain ⟨c2, r2, m2, q1, q2, q3, q4, kP, hkP, hkPi⟩ := Cond.selects_spec hsel
  cases hcls.symm.trans q1
  cases (State.methodFound?_of_named hnamed hy).symm.trans q2
  cases hnamed.symm.trans q3
  have hselP : selectMethod e.platform s.vm cellB.cls mk = .method mk := by rw [Launch.admits_selectMethod X.admits]; exact q4
  obtain ⟨vm₁, X₁, hstep₁⟩ := X.invokevirtual hexec hown hlink hnamed hmethM hstM hkP hkPi hy (a := b) (cell := cellB) hcell
    (fun z h => by rw [h] at hobj; cases hobj) hselP hmethM habM hkP hkPi (g := g) hg (argsL := argsL) (rest := rest) (hlen _ hsigM) hstack hdg
  rcases hK m meth c ⟨T.setVm vm₁, locs, cells, slots⟩ { g with stack := rest } (.invokevirtual index) mk (Value.ref b :: argsL).toArray X₁ hg hsize hdg hW (X₁.named hnamed) (hpre vm₁ X₁.warmed) with ⟨v, B, X', hpost, hsteps⟩ | ⟨q, B, X', hpost, hsteps⟩
  · exact Or.inl ⟨v, vm₁, B, X₁.warmed, X', hpost, fun target h => hstep₁ _ fun acts => by rw [doInvoke_state]; exact hsteps.trans h⟩
  · exact Or.inr ⟨q, vm₁, B, X₁.warmed, X', hpost, hstep₁ _ fun acts => by rw [doInvoke_state]; exact hsteps⟩
theorem vx_callS (X : Stand p l e R s m args below meth c T locs cells slots) (hexec : p.tables.exec = Jvm.exec) {own : String} {index : Nat} {y : MethodName} {bytes : ByteArray} {maxL : Nat} {ret : Option FieldType}
    (hown : s.vm.findClass own = some m.cls) (hlink : (Cond.methodLink own index y).before args s = true) (hstat : (Cond.static y).before args s = true) (hinit : (Cond.initialized y.cls).before args s = true)
    (hcode : (Cond.code y bytes maxL ret).before args s = true) (hy : y.cls ≠ "java/lang/invoke/MethodHandle" ∧ y.cls ≠ "java/lang/invoke/VarHandle")
    {W9 : Nat} {Pre : Pt → Array Value → Prop} {Post : Pt → Array Value → Option Value → Pt → Prop} {PostX : Pt → Array Value → Addr → Pt → Prop} (hK : vx_Back l R p e below s args y 3 W9 Pre Post PostX)
    {g : JFrame} (hg : g.method = m) (hsize : g.locals.size = c.maxLocals) {argsL rest : List Value} (hlen : ∀ sig, parseMethodDescriptor y.desc = some sig → argsL.length = sig.parameters.length)
    (hstack : g.stack = argsL.reverse ++ rest) (hW : 2 * g.monitorRoom + (rest.map fun v => v.category).sum ≤ W9) (hdg : decode c.code g.pc = .ok (.invokestatic index, 3))
    (hpre : ∀ vm₁, s.WarmedH vm₁ → Pre ⟨T.setVm vm₁, locs, cells, slots⟩ argsL.toArray) :
    (∃ (v : Option Value) (vm₁ : Vm) (B : Pt), s.WarmedH vm₁ ∧ Stand p l e R s m args below meth c B.U B.locs B.cells B.slots ∧ Post ⟨T.setVm vm₁, locs, cells, slots⟩ argsL.toArray v B ∧
      ∀ target, Steps p.tables e below (B.U.setTop { g with pc := g.pc + 3, stack := v.toList ++ rest }) target → Steps p.tables e below (T.setTop g) target) ∨
    (∃ (q : Addr) (vm₁ : Vm) (B : Pt), s.WarmedH vm₁ ∧ Stand p l e R s m args below meth c B.U B.locs B.cells B.slots ∧ PostX ⟨T.setVm vm₁, locs, cells, slots⟩ argsL.toArray q B ∧
      Steps p.tables e below (T.setTop g) ((B.U.setTop { g with stack := rest }).pushFrame (.throwing q))) := by
  obtain ⟨mk, hnamed⟩ := Cond.code_named hcode
  obtain ⟨methM, cM, hmethM, -, -, -, -, -, -, hsigM⟩ := Cond.code_spec hnamed hcode
  have hstatic : methM.isStatic = true := Cond.static_spec hnamed hmethM hstat
  obtain ⟨kP, hkP, -⟩ := className_of_methodNamed hnamed
  have hinitP : kP.init = .initialized := Cond.initialized_spec (findClass_of_methodNamed hnamed) hkP hinit
  obtain ⟨vm₁, X₁, hstep₁⟩ := X.invokestatic hexec hown hlink hnamed hmethM hstatic hkP hinitP hy (g := g) hg (argsL := argsL) (rest := rest) (hlen _ hsigM) hstack hdg
  rcases hK m meth c ⟨T.setVm vm₁, locs, cells, slots⟩ { g with stack := rest } (.invokestatic index) mk argsL.toArray X₁ hg hsize hdg hW (X₁.named hnamed) (hpre vm₁ X₁.warmed) with ⟨v, B, X', hpost, hsteps⟩ | ⟨q, B, X', hpost, hsteps⟩
  · exact Or.inl ⟨v, vm₁, B, X₁.warmed, X', hpost, fun target h => hstep₁ _ fun acts => by rw [doInvoke_state]; exact hsteps.trans h⟩
  · exact Or.inr ⟨q, vm₁, B, X₁.warmed, X', hpost, hstep₁ _ fun acts => by rw [doInvoke_state]; exact hsteps⟩
end Calls
theorem vx_cls {s : State} {T : State} {vm₁ : Vm} {E : String} {k : ClassId} (hW : s.WarmedH vm₁) (h : (T.setVm vm₁).vm.findClass E = some k) : s.vm.findClass E = some k := by
  have h1 : vm₁.findClass E = some k := h
  rw [hW.alike.findClass] at h1
  exact h1
/-- the method's frame g, with q thrown over it -/
def vx_W (p : Program) (l : Launch) (e : Env) (R : Room) (s : State) (m : MethodId) (args : Array Value) (below : List Frame) (meth : Method) (c : Code) (H : Heap) (locs : List Loc) (cells slots : Nat) (Q : State → Prop) (g : JFrame) (q : Addr) : Prop :=
  ∀ T : State, T.heap = H → Stand p l e R s m args below meth c T locs cells slots → ∃ t, Steps p.tables e below ((T.setTop g).pushFrame (.throwing q)) t ∧ Q t
def vx_Run (p : Program) (l : Launch) (e : Env) (R : Room) (s : State) (m : MethodId) (args : Array Value) (below : List Frame) (meth : Method) (c : Code) (H : Heap) (locs : List Loc) (cells slots mc ms : Nat) (g : JFrame) (rest : List Value) (Qa : State → Outcome → State → Prop) (XC : String → State → State → Prop) (free : Addr → Prop) : Prop :=
  ∀ T : State, T.heap = H → Stand p l e R s m args below meth c T locs cells slots →
    (∃ (v : Option Value) (st₀ t T' : State) (L : List Loc), st₀.heap = H ∧ Stand p l e R s m args below meth c T' (locs ++ L) (cells + mc) (slots + ms) ∧ (∀ q ∈ L, free q.base) ∧ T'.heap = t.heap ∧ T'.vm = t.vm ∧ Qa st₀ (.returned v) t ∧
      Goes p e below T g T' { g with pc := g.pc + 3, stack := v.toList ++ rest }) ∨
    (∃ (q : Addr) (st₀ t T' : State) (L : List Loc) (E : String) (ce : Cell), st₀.heap = H ∧ Stand p l e R s m args below meth c T' (locs ++ L) (cells + mc) (slots + ms) ∧ (∀ z ∈ L, free z.base) ∧ T'.heap = t.heap ∧ T'.vm = t.vm ∧ XC E st₀ t ∧ t.heap[q]? = some ce ∧ ce.vm = .none ∧ s.vm.findClass E = some ce.cls ∧
      Steps p.tables e below (T.setTop g) ((T'.setTop { g with stack := rest }).pushFrame (.throwing q)))
def vx_X {S : Type} (px : S → Prop) (B : String → S → State → Prop) (A : Nat → Prop) : String → State → State → Prop := fun E st t => ∃ u : S, px u ∧ B E u t ∧ va_F A st t
section Runs
variable {p : Program} {l : Launch} {e : Env} {R : Room} {s : State} {m : MethodId} {args : Array Value} {below : List Frame} {meth : Method} {c : Code} {H : Heap} {locs : List Loc} {cells slots : Nat}
variable {y : MethodName} {bytes cc : ByteArray} {maxL nL mc ms n index : Nat} {ret : Option FieldType} {ws : List Cond} {rm : Room} {Pc : Array Value → State → Prop} {Qc : Array Value → State → Outcome → State → Prop} {XC : String → State → State → Prop} {free : Addr → Prop} {Ts : List Cond} {own C : String} {b : Addr} {As rest : List Value} {g : JFrame}
theorem vx_callBack (cb : CallB R s args own index y bytes maxL ret ws rm mc ms n) (hM : vx_Met l y ws rm Pc Qc XC mc ms free) (hbl : FrameBlind Pc) : vx_Back l R p e below s args y 3 8 (PreOf R mc ms Pc) (PostOf Qc mc ms free) (vx_Post XC mc ms free) := by
  obtain ⟨hrc, hrs, hfr, hlo, hws, hcw, -, hini, -⟩ := cb
  exact vx_back (bytes := bytes) (maxL := maxL) (ret := ret) hM hbl hrc hrs hfr hlo hws hcw (fun a' U hW => word_at hW (Or.inl (by first | rfl | simp [Cond.onTables, Cond.keeps, Cond.steady])) hini)
theorem vx_runV (S : CallFix p m c cc nL s args Ts own) (hM : vx_Met l y ws rm Pc Qc XC mc ms free) (cw : CallW R s args own C index y bytes maxL ret ws rm mc ms n) (hp : PreV s H C b Pc As)
    (hg : g.method = m) (hn : As.length = n) (hsize : g.locals.size = nL) (hstack : g.stack = As.reverse ++ .ref b :: rest) (hW : 2 * g.monitorRoom + (rest.map fun v => v.category).sum ≤ 8) (hdg : decode cc g.pc = .ok (.invokevirtual index, 3)) (hf : cells + mc ≤ R.cells ∧ slots + ms ≤ R.slots) :
    vx_Run p l e R s m args below meth c H locs cells slots mc ms g rest (Qc (Value.ref b :: As).toArray) XC free := by
  have hK : vx_Back l R p e below s args y 3 8 (PreOf R mc ms Pc) (PostOf Qc mc ms free) (vx_Post XC mc ms free) := vx_callBack cw.1 hM hp.1
  obtain ⟨⟨-, -, -, -, -, -, hcode, -, hy, hlen, hl⟩, hin, hse⟩ := cw
  obtain ⟨hx, hb, hml, ho, -⟩ := S
  obtain ⟨-, ⟨cellB, hcB, hoB, hclB⟩, hPc⟩ := hp
  intro T hT X
  rcases vx_callV X hx (C := C) (bytes := bytes) (maxL := maxL) (ret := ret) ho hl hin hse hcode hy hK (by rw [hT]; exact hcB) hoB hclB hg (hsize.trans hml.symm) (argsL := As) (rest := rest) (fun sig h => hn.trans (hlen sig h)) hstack hW (by rw [hb]; exact hdg)
    (fun vm₁ hW₁ => ⟨hf.1, hf.2, hPc (T.setVm vm₁) hT hW₁⟩) with ⟨v, vm₁, ⟨U', l2, c2, s2⟩, hW₁, X', ⟨g', mk, t, L, e1, e2, hq, h1, hL, h2, h3⟩, st⟩ | ⟨q, vm₁, ⟨U', l2, c2, s2⟩, hW₁, X', ⟨g', mk, t, L, E, ce, e1, e2, hq, hce, hcv, hcl, h1, hL, h2, h3⟩, st⟩
  · dsimp only [Pt.U, Pt.locs, Pt.cells, Pt.slots] at X' e1 e2 h1 h2 h3 st
    subst h1; subst h2; subst h3
    exact Or.inl ⟨v, (T.setVm vm₁).calling g' mk (Value.ref b :: As).toArray, t, U', L, hT, X', hL, e1, e2, hq, st⟩
  · dsimp only [Pt.U, Pt.locs, Pt.cells, Pt.slots] at X' e1 e2 h1 h2 h3 st hcl
    subst h1; subst h2; subst h3
    exact Or.inr ⟨q, (T.setVm vm₁).calling g' mk (Value.ref b :: As).toArray, t, U', L, E, ce, hT, X', hL, e1, e2, hq, hce, hcv, vx_cls hW₁ hcl, st⟩
theorem vx_runS (S : CallFix p m c cc nL s args Ts own) (hM : vx_Met l y ws rm Pc Qc XC mc ms free) (cw : CallB R s args own index y bytes maxL ret ws rm mc ms n ∧ (Cond.static y).before args s = true) (hp : PreS s H Pc As)
    (hg : g.method = m) (hn : As.length = n) (hsize : g.locals.size = nL) (hstack : g.stack = As.reverse ++ rest) (hW : 2 * g.monitorRoom + (rest.map fun v => v.category).sum ≤ 8) (hdg : decode cc g.pc = .ok (.invokestatic index, 3)) (hf : cells + mc ≤ R.cells ∧ slots + ms ≤ R.slots) :
    vx_Run p l e R s m args below meth c H locs cells slots mc ms g rest (Qc As.toArray) XC free := by
  have hK : vx_Back l R p e below s args y 3 8 (PreOf R mc ms Pc) (PostOf Qc mc ms free) (vx_Post XC mc ms free) := vx_callBack cw.1 hM hp.1
  obtain ⟨⟨-, -, -, -, -, -, hcode, hini, hy, hlen, hl⟩, hstt⟩ := cw
  obtain ⟨hx, hb, hml, ho, -⟩ := S
  intro T hT X
  rcases vx_callS X hx (bytes := bytes) (maxL := maxL) (ret := ret) ho hl hstt hini hcode hy hK hg (hsize.trans hml.symm) (argsL := As) (rest := rest) (fun sig h => hn.trans (hlen sig h)) hstack hW (by rw [hb]; exact hdg)
    (fun vm₁ hW₁ => ⟨hf.1, hf.2, hp.2 (T.setVm vm₁) hT hW₁⟩) with ⟨v, vm₁, ⟨U', l2, c2, s2⟩, hW₁, X', ⟨g', mk, t, L, e1, e2, hq, h1, hL, h2, h3⟩, st⟩ | ⟨q, vm₁, ⟨U', l2, c2, s2⟩, hW₁, X', ⟨g', mk, t, L, E, ce, e1, e2, hq, hce, hcv, hcl, h1, hL, h2, h3⟩, st⟩
  · dsimp only [Pt.U, Pt.locs, Pt.cells, Pt.slots] at X' e1 e2 h1 h2 h3 st
    subst h1; subst h2; subst h3
    exact Or.inl ⟨v, (T.setVm vm₁).calling g' mk As.toArray, t, U', L, hT, X', hL, e1, e2, hq, st⟩
  · dsimp only [Pt.U, Pt.locs, Pt.cells, Pt.slots] at X' e1 e2 h1 h2 h3 st hcl
    subst h1; subst h2; subst h3
    exact Or.inr ⟨q, (T.setVm vm₁).calling g' mk As.toArray, t, U', L, E, ce, hT, X', hL, e1, e2, hq, hce, hcv, vx_cls hW₁ hcl, st⟩
end Runs
section Rows
variable {p : Program} {l : Launch} {e : Env} {R : Room} {s : State} {m : MethodId} {args : Array Value} {below : List Frame} {meth : Method} {c : Code} {H : Heap} {locs : List Loc} {cells slots : Nat} {Q : State → Prop}
variable {mc ms : Nat} {free : Addr → Prop} {A0 A1 : Nat → Prop} {H0 : Heap} {a : Array Value} {pc : Nat} {ls : Array Slot} {st0 rest : List Value}
theorem vx_keep {st₀ t T' : State} {L : List Loc} (h0 : st₀.heap = H) (e1 : T'.heap = t.heap) (hS : va_S A0 H0 H locs) (hA : ∀ q, q < H.size → A1 q → A0 q) (hf : ∀ q, free q → A0 q) (hL : ∀ q ∈ L, free q.base) (hF : va_F A1 st₀ t) :
    H.size ≤ T'.heap.size ∧ (∀ q : Nat, q < H.size → ¬ A1 q → T'.heap[q]? = H[q]?) ∧ va_S A0 H0 T'.heap (locs ++ L) := by
  obtain ⟨hz, hk⟩ := hF
  rw [h0] at hz hk
  exact ⟨by rw [e1]; exact hz, fun q h1 h2 => by rw [e1]; exact hk q h1 h2,
    ⟨Nat.le_trans hS.1 (by rw [e1]; exact hz), fun q h1 h2 => by rw [e1, hk q (Nat.lt_of_lt_of_le h1 hS.1) (fun z => h2 (hA q (Nat.lt_of_lt_of_le h1 hS.1) z))]; exact hS.2.1 q h1 h2, fun q hq => by
      rcases List.mem_append.mp hq with h | h
      · exact hS.2.2 q h
      · exact hf _ (hL q h)⟩⟩
theorem vx_calli {S SX : Type} {post : Int32 → S → Prop} {px : SX → Prop} {B : S → State → Prop} {BX : String → SX → State → Prop} {AX : Nat → Prop} (hr : vx_Run p l e R s m args below meth c H locs cells slots mc ms (F0 m pc ls st0) rest (va_Qi post B A1 a) (vx_X px BX AX) free) (hS : va_S A0 H0 H locs) (hA : ∀ q, q < H.size → A1 q → A0 q) (hf : ∀ q, free q → A0 q) (hAX : ∀ q, q < H.size → AX q → A0 q)
    (kx : ∀ (E : String) (ce : Cell) (q9 : Addr) (u : SX) (t : State) (H1 : Heap) (locs1 : List Loc), t.heap = H1 → s.vm.Alike t.vm → px u → BX E u t → H.size ≤ H1.size → (∀ q : Nat, q < H.size → ¬ AX q → H1[q]? = H[q]?) → va_S A0 H0 H1 locs1 → H1[q9]? = some ce → ce.vm = .none → s.vm.findClass E = some ce.cls → vx_W p l e R s m args below meth c H1 locs1 (cells + mc) (slots + ms) Q (F0 m pc ls rest) q9)
    (kk : ∀ (r : Int32) (u : S) (t : State) (H1 : Heap) (locs1 : List Loc), t.heap = H1 → s.vm.Alike t.vm → post r u → B u t → H.size ≤ H1.size → (∀ q : Nat, q < H.size → ¬ A1 q → H1[q]? = H[q]?) → va_S A0 H0 H1 locs1 → W p l e R s m args below meth c H1 locs1 (cells + mc) (slots + ms) Q (F0 m (pc + 3) ls (.int r :: rest))) : W p l e R s m args below meth c H locs cells slots Q (F0 m pc ls st0) := by
  intro T hT X
  rcases hr T hT X with ⟨v, st₀, t, T', L, h0, X', hL, e1, e2, ⟨⟨r, u, hv, hp, hb⟩, hF⟩, st⟩ | ⟨q, st₀, t, T', L, E, ce, h0, X', hL, e1, e2, ⟨u, hp, hb, hF⟩, hce, hcv, hcl, st⟩
  · cases hv
    obtain ⟨k1, k2, k3⟩ := vx_keep h0 e1 hS hA hf hL hF
    obtain ⟨t2, a1, b1⟩ := kk r u t T'.heap (locs ++ L) e1.symm (by rw [← e2]; exact X'.warmed.alike) hp hb k1 k2 k3 T' rfl X'
    exact ⟨t2, st t2 a1, b1⟩
  · obtain ⟨k1, k2, k3⟩ := vx_keep h0 e1 hS hAX hf hL hF
    obtain ⟨t2, a1, b1⟩ := kx E ce q u t T'.heap (locs ++ L) e1.symm (by rw [← e2]; exact X'.warmed.alike) hp hb k1 k2 k3 (by rw [e1]; exact hce) hcv hcl T' rfl X'
    exact ⟨t2, st.trans a1, b1⟩
theorem vx_calll {S SX : Type} {post : Int64 → S → Prop} {px : SX → Prop} {B : S → State → Prop} {BX : String → SX → State → Prop} {AX : Nat → Prop} (hr : vx_Run p l e R s m args below meth c H locs cells slots mc ms (F0 m pc ls st0) rest (va_Ql post B A1 a) (vx_X px BX AX) free) (hS : va_S A0 H0 H locs) (hA : ∀ q, q < H.size → A1 q → A0 q) (hf : ∀ q, free q → A0 q) (hAX : ∀ q, q < H.size → AX q → A0 q)
    (kx : ∀ (E : String) (ce : Cell) (q9 : Addr) (u : SX) (t : State) (H1 : Heap) (locs1 : List Loc), t.heap = H1 → s.vm.Alike t.vm → px u → BX E u t → H.size ≤ H1.size → (∀ q : Nat, q < H.size → ¬ AX q → H1[q]? = H[q]?) → va_S A0 H0 H1 locs1 → H1[q9]? = some ce → ce.vm = .none → s.vm.findClass E = some ce.cls → vx_W p l e R s m args below meth c H1 locs1 (cells + mc) (slots + ms) Q (F0 m pc ls rest) q9)
    (kk : ∀ (r : Int64) (u : S) (t : State) (H1 : Heap) (locs1 : List Loc), t.heap = H1 → s.vm.Alike t.vm → post r u → B u t → H.size ≤ H1.size → (∀ q : Nat, q < H.size → ¬ A1 q → H1[q]? = H[q]?) → va_S A0 H0 H1 locs1 → W p l e R s m args below meth c H1 locs1 (cells + mc) (slots + ms) Q (F0 m (pc + 3) ls (.long r :: rest))) : W p l e R s m args below meth c H locs cells slots Q (F0 m pc ls st0) := by
  intro T hT X
  rcases hr T hT X with ⟨v, st₀, t, T', L, h0, X', hL, e1, e2, ⟨⟨r, u, hv, hp, hb⟩, hF⟩, st⟩ | ⟨q, st₀, t, T', L, E, ce, h0, X', hL, e1, e2, ⟨u, hp, hb, hF⟩, hce, hcv, hcl, st⟩
  · cases hv
    obtain ⟨k1, k2, k3⟩ := vx_keep h0 e1 hS hA hf hL hF
    obtain ⟨t2, a1, b1⟩ := kk r u t T'.heap (locs ++ L) e1.symm (by rw [← e2]; exact X'.warmed.alike) hp hb k1 k2 k3 T' rfl X'
    exact ⟨t2, st t2 a1, b1⟩
  · obtain ⟨k1, k2, k3⟩ := vx_keep h0 e1 hS hAX hf hL hF
    obtain ⟨t2, a1, b1⟩ := kx E ce q u t T'.heap (locs ++ L) e1.symm (by rw [← e2]; exact X'.warmed.alike) hp hb k1 k2 k3 (by rw [e1]; exact hce) hcv hcl T' rfl X'
    exact ⟨t2, st.trans a1, b1⟩
theorem vx_callf {S SX : Type} {post : UInt32 → S → Prop} {px : SX → Prop} {B : S → State → Prop} {BX : String → SX → State → Prop} {AX : Nat → Prop} (hr : vx_Run p l e R s m args below meth c H locs cells slots mc ms (F0 m pc ls st0) rest (va_Qf post B A1 a) (vx_X px BX AX) free) (hS : va_S A0 H0 H locs) (hA : ∀ q, q < H.size → A1 q → A0 q) (hf : ∀ q, free q → A0 q) (hAX : ∀ q, q < H.size → AX q → A0 q)
    (kx : ∀ (E : String) (ce : Cell) (q9 : Addr) (u : SX) (t : State) (H1 : Heap) (locs1 : List Loc), t.heap = H1 → s.vm.Alike t.vm → px u → BX E u t → H.size ≤ H1.size → (∀ q : Nat, q < H.size → ¬ AX q → H1[q]? = H[q]?) → va_S A0 H0 H1 locs1 → H1[q9]? = some ce → ce.vm = .none → s.vm.findClass E = some ce.cls → vx_W p l e R s m args below meth c H1 locs1 (cells + mc) (slots + ms) Q (F0 m pc ls rest) q9)
    (kk : ∀ (r : UInt32) (u : S) (t : State) (H1 : Heap) (locs1 : List Loc), t.heap = H1 → s.vm.Alike t.vm → post r u → B u t → H.size ≤ H1.size → (∀ q : Nat, q < H.size → ¬ A1 q → H1[q]? = H[q]?) → va_S A0 H0 H1 locs1 → W p l e R s m args below meth c H1 locs1 (cells + mc) (slots + ms) Q (F0 m (pc + 3) ls (.float r :: rest))) : W p l e R s m args below meth c H locs cells slots Q (F0 m pc ls st0) := by
  intro T hT X
  rcases hr T hT X with ⟨v, st₀, t, T', L, h0, X', hL, e1, e2, ⟨⟨r, u, hv, hp, hb⟩, hF⟩, st⟩ | ⟨q, st₀, t, T', L, E, ce, h0, X', hL, e1, e2, ⟨u, hp, hb, hF⟩, hce, hcv, hcl, st⟩
  · cases hv
    obtain ⟨k1, k2, k3⟩ := vx_keep h0 e1 hS hA hf hL hF
    obtain ⟨t2, a1, b1⟩ := kk r u t T'.heap (locs ++ L) e1.symm (by rw [← e2]; exact X'.warmed.alike) hp hb k1 k2 k3 T' rfl X'
    exact ⟨t2, st t2 a1, b1⟩
  · obtain ⟨k1, k2, k3⟩ := vx_keep h0 e1 hS hAX hf hL hF
    obtain ⟨t2, a1, b1⟩ := kx E ce q u t T'.heap (locs ++ L) e1.symm (by rw [← e2]; exact X'.warmed.alike) hp hb k1 k2 k3 (by rw [e1]; exact hce) hcv hcl T' rfl X'
    exact ⟨t2, st.trans a1, b1⟩
theorem vx_calld {S SX : Type} {post : UInt64 → S → Prop} {px : SX → Prop} {B : S → State → Prop} {BX : String → SX → State → Prop} {AX : Nat → Prop} (hr : vx_Run p l e R s m args below meth c H locs cells slots mc ms (F0 m pc ls st0) rest (va_Qd post B A1 a) (vx_X px BX AX) free) (hS : va_S A0 H0 H locs) (hA : ∀ q, q < H.size → A1 q → A0 q) (hf : ∀ q, free q → A0 q) (hAX : ∀ q, q < H.size → AX q → A0 q)
    (kx : ∀ (E : String) (ce : Cell) (q9 : Addr) (u : SX) (t : State) (H1 : Heap) (locs1 : List Loc), t.heap = H1 → s.vm.Alike t.vm → px u → BX E u t → H.size ≤ H1.size → (∀ q : Nat, q < H.size → ¬ AX q → H1[q]? = H[q]?) → va_S A0 H0 H1 locs1 → H1[q9]? = some ce → ce.vm = .none → s.vm.findClass E = some ce.cls → vx_W p l e R s m args below meth c H1 locs1 (cells + mc) (slots + ms) Q (F0 m pc ls rest) q9)
    (kk : ∀ (r : UInt64) (u : S) (t : State) (H1 : Heap) (locs1 : List Loc), t.heap = H1 → s.vm.Alike t.vm → post r u → B u t → H.size ≤ H1.size → (∀ q : Nat, q < H.size → ¬ A1 q → H1[q]? = H[q]?) → va_S A0 H0 H1 locs1 → W p l e R s m args below meth c H1 locs1 (cells + mc) (slots + ms) Q (F0 m (pc + 3) ls (.double r :: rest))) : W p l e R s m args below meth c H locs cells slots Q (F0 m pc ls st0) := by
  intro T hT X
  rcases hr T hT X with ⟨v, st₀, t, T', L, h0, X', hL, e1, e2, ⟨⟨r, u, hv, hp, hb⟩, hF⟩, st⟩ | ⟨q, st₀, t, T', L, E, ce, h0, X', hL, e1, e2, ⟨u, hp, hb, hF⟩, hce, hcv, hcl, st⟩
  · cases hv
    obtain ⟨k1, k2, k3⟩ := vx_keep h0 e1 hS hA hf hL hF
    obtain ⟨t2, a1, b1⟩ := kk r u t T'.heap (locs ++ L) e1.symm (by rw [← e2]; exact X'.warmed.alike) hp hb k1 k2 k3 T' rfl X'
    exact ⟨t2, st t2 a1, b1⟩
  · obtain ⟨k1, k2, k3⟩ := vx_keep h0 e1 hS hAX hf hL hF
    obtain ⟨t2, a1, b1⟩ := kx E ce q u t T'.heap (locs ++ L) e1.symm (by rw [← e2]; exact X'.warmed.alike) hp hb k1 k2 k3 (by rw [e1]; exact hce) hcv hcl T' rfl X'
    exact ⟨t2, st.trans a1, b1⟩
theorem vx_callv {S SX : Type} {post : S → Prop} {px : SX → Prop} {B : S → State → Prop} {BX : String → SX → State → Prop} {AX : Nat → Prop} (hr : vx_Run p l e R s m args below meth c H locs cells slots mc ms (F0 m pc ls st0) rest (va_Qv post B A1 a) (vx_X px BX AX) free) (hS : va_S A0 H0 H locs) (hA : ∀ q, q < H.size → A1 q → A0 q) (hf : ∀ q, free q → A0 q) (hAX : ∀ q, q < H.size → AX q → A0 q)
    (kx : ∀ (E : String) (ce : Cell) (q9 : Addr) (u : SX) (t : State) (H1 : Heap) (locs1 : List Loc), t.heap = H1 → s.vm.Alike t.vm → px u → BX E u t → H.size ≤ H1.size → (∀ q : Nat, q < H.size → ¬ AX q → H1[q]? = H[q]?) → va_S A0 H0 H1 locs1 → H1[q9]? = some ce → ce.vm = .none → s.vm.findClass E = some ce.cls → vx_W p l e R s m args below meth c H1 locs1 (cells + mc) (slots + ms) Q (F0 m pc ls rest) q9)
    (kk : ∀ (u : S) (t : State) (H1 : Heap) (locs1 : List Loc), t.heap = H1 → s.vm.Alike t.vm → post u → B u t → H.size ≤ H1.size → (∀ q : Nat, q < H.size → ¬ A1 q → H1[q]? = H[q]?) → va_S A0 H0 H1 locs1 → W p l e R s m args below meth c H1 locs1 (cells + mc) (slots + ms) Q (F0 m (pc + 3) ls (rest))) : W p l e R s m args below meth c H locs cells slots Q (F0 m pc ls st0) := by
  intro T hT X
  rcases hr T hT X with ⟨v, st₀, t, T', L, h0, X', hL, e1, e2, ⟨⟨u, hv, hp, hb⟩, hF⟩, st⟩ | ⟨q, st₀, t, T', L, E, ce, h0, X', hL, e1, e2, ⟨u, hp, hb, hF⟩, hce, hcv, hcl, st⟩
  · cases hv
    obtain ⟨k1, k2, k3⟩ := vx_keep h0 e1 hS hA hf hL hF
    obtain ⟨t2, a1, b1⟩ := kk u t T'.heap (locs ++ L) e1.symm (by rw [← e2]; exact X'.warmed.alike) hp hb k1 k2 k3 T' rfl X'
    exact ⟨t2, st t2 a1, b1⟩
  · obtain ⟨k1, k2, k3⟩ := vx_keep h0 e1 hS hAX hf hL hF
    obtain ⟨t2, a1, b1⟩ := kx E ce q u t T'.heap (locs ++ L) e1.symm (by rw [← e2]; exact X'.warmed.alike) hp hb k1 k2 k3 (by rw [e1]; exact hce) hcv hcl T' rfl X'
    exact ⟨t2, st.trans a1, b1⟩
/-- caught by the row x of this method's table; the rows ahead don't take it -/
theorem vx_catch {own name : String} {E : String} {ce : Cell} {q : Addr} (hown : s.vm.findClass own = some m.cls) (pre : List ExceptionTableEntry) (x : ExceptionTableEntry) (suf : List ExceptionTableEntry) (hsplit : c.exceptionTable.toList = pre ++ x :: suf)
    (hpass : ∀ z ∈ pre, covers z pc = false ∨ (z.catchType ≠ 0 ∧ ∃ nm : String, (Cond.classLink own z.catchType nm).before args s = true ∧ va_Nc E nm s)) (hx : covers x pc = true) (h0 : x.catchType ≠ 0)
    (hlink : (Cond.classLink own x.catchType name).before args s = true) (hcast : (Cond.castable E name).before args s = true) (hcell : H[q]? = some ce) (hv : ce.vm = .none) (hcl : s.vm.findClass E = some ce.cls)
    (kk : W p l e R s m args below meth c H locs cells slots Q (F0 m x.handlerPc ls [.ref q])) : vx_W p l e R s m args below meth c H locs cells slots Q (F0 m pc ls rest) q := by
  intro T hT X
  have hpl : e.platform.magicAccessors = ({} : Platform).magicAccessors := by rw [X.admits.platform]
  obtain ⟨c3, c4, hc3, hc4, hasg⟩ := Cond.castable_spec hcast
  cases Option.some.inj (hc3.symm.trans hcl)
  obtain ⟨c5, hc5, hcl5⟩ := Cond.classLink_spec hown hlink e.platform hpl
  cases Option.some.inj (hc4.symm.trans hc5)
  obtain ⟨vm', X', st⟩ := Jvm.Stand.thenCaughtThrough X q (g := F0 m pc ls rest) rfl (Steps.refl _) (by rw [hT]; exact hcell) (by rw [hv]; rfl) (by obtain ⟨k9, h9, -⟩ := Vm.findClass_spec hcl; exact ⟨k9, h9⟩) pre x suf hsplit
    (fun z hz => by
      rcases hpass z hz with h | ⟨hz0, nm, hl1, hn1⟩
      · exact Or.inl h
      · obtain ⟨c6, hc6, hcl6⟩ := Cond.classLink_spec hown hl1 e.platform hpl
        obtain ⟨a8, b8, h1, h2, h3⟩ := hn1
        cases Option.some.inj (h1.symm.trans hcl)
        cases Option.some.inj (h2.symm.trans hc6)
        exact Or.inr ⟨hz0, _, hcl6, h3⟩) hx (Or.inr ⟨h0, c4, hcl5, hasg⟩)
  obtain ⟨t, a1, b1⟩ := kk (T.setVm vm') hT X'
  exact ⟨t, st.trans a1, b1⟩
end Rows
section Ends
variable {p : Program} {l : Launch} {e : Env} {R : Room} {s : State} {m : MethodId} {args : Array Value} {below : List Frame} {meth : Method} {c : Code} {H : Heap} {locs : List Loc} {cells slots : Nat} {Q : State → Prop}
variable {mc ms : Nat} {free : Addr → Prop} {A0 A1 : Nat → Prop} {H0 : Heap} {a : Array Value} {ls : Array Slot} {st0 rest : List Value}
variable {Qc : Array Value → State → Outcome → State → Prop} {XC : String → State → State → Prop}
/-- what a body that may throw owes at its end -/
def vx_MQ (below : List Frame) (Qc : Array Value → State → Outcome → State → Prop) (XC : String → State → State → Prop) (a : Array Value) (s : State) (mc ms : Nat) (free : Addr → Prop) : State → Prop := fun t =>
  ∃ o, t.status = .running ∧ Ended t below o ∧ vx_Q Qc XC mc ms free a s o t
theorem vx_ret {g : JFrame} {mc ms : Nat} (k : W p l e R s m args below meth c H locs cells slots (MQ below Qc args s mc ms free) g) : W p l e R s m args below meth c H locs cells slots (vx_MQ below Qc XC args s mc ms free) g := by
  intro T hT X
  obtain ⟨t, a1, o, b1, b2, b3, b4⟩ := k T hT X
  exact ⟨t, a1, o, b1, b2, Or.inl ⟨b3, b4⟩⟩
/-- not caught here: it goes on to the caller -/
theorem vx_widen {g : JFrame} {q : Addr} {k n : Nat} (h1 : cells ≤ k) (h2 : slots ≤ n) (kk : vx_W p l e R s m args below meth c H locs k n Q g q) : vx_W p l e R s m args below meth c H locs cells slots Q g q := fun T hT X => kk T hT (stand_widen X h1 h2)
theorem vx_out {pc : Nat} {E : String} {ce : Cell} {q : Addr} {mc ms : Nat} (hout : ∀ x ∈ c.exceptionTable.toList, covers x pc = false) (hlocks : meth.locks = false) (hcell : H[q]? = some ce) (hv : ce.vm = .none) (hcl : s.vm.findClass E = some ce.cls)
    (hx : ∀ t : State, t.heap = H → s.vm.Alike t.vm → XC E s t) (hf : ∀ z ∈ locs, free z.base) (hc : cells ≤ mc) (hs : slots ≤ ms) :
    vx_W p l e R s m args below meth c H locs cells slots (vx_MQ below Qc XC args s mc ms free) (F0 m pc ls rest) q := by
  intro T hT X
  obtain ⟨st1, hrun, hend, hW, hsm⟩ := X.leaveThrown q (g := F0 m pc ls rest) rfl rfl rfl hout hlocks
  have hcell9 : (T.setFrames (.throwing q :: below)).heap[q]? = some ce := by
    show T.heap[q]? = some ce
    rw [hT]; exact hcell
  exact ⟨_, st1, .threw q, hrun, hend, Or.inr ⟨q, rfl, E, ce, locs, hx _ hT hW.alike, hcell9, hv, hcl, hW, hsm.mono hc hs, hf⟩⟩
theorem vx_frame {U : State} {k n : Nat} (h : s.sameButNew ({ U with vm := s.vm } : State) locs k n) : s.heap.size ≤ U.heap.size ∧ ∀ q : Nat, q < s.heap.size → (∀ z ∈ locs, z.base ≠ q) → U.heap[q]? = s.heap[q]? := by
  obtain ⟨-, h2, -, -, -, h6⟩ := h
  refine ⟨h2, fun q hq hz => ?_⟩
  obtain ⟨c9, e1, e2, e3, e4⟩ := h6 q _ (Array.getElem?_eq_getElem hq)
  have hs : c9.slots = (s.heap[q]).slots := Array.ext_getElem? fun i => e4 i fun hm => hz _ hm rfl
  have h9 : c9 = s.heap[q] := by
    rw [hs] at e2
    exact e2
  have e5 : U.heap[q]? = some c9 := e1
  rw [e5, h9, Array.getElem?_eq_getElem hq]
/-- the words of a throw but the four that speak of the heap -/
def vx_no (w : Cond) : Bool := decide (w ≠ .isRef (.static Bundle.tN "UNASSIGNED_STACK" Bundle.steD)) && decide (w ≠ .isRef (.static Bundle.tN "SUPPRESSED_SENTINEL" Bundle.listD)) && decide (w ≠ .laysStatic Bundle.tN "UNASSIGNED_STACK" Bundle.steD) && decide (w ≠ .laysStatic Bundle.tN "SUPPRESSED_SENTINEL" Bundle.listD)
def vx_at0 (own : String) (ic : Nat) (X : String) (names : List String) : List Cond := (Bundle.ownAtoms0 own ic X names).filter vx_no
def vx_atS (own : String) (ic : Nat) (X : String) (names : List String) : List Cond := (Bundle.ownAtoms own ic X names).filter vx_no
/-- a word that the tables alone decide, or a good one -/
def vx_ot (w : Cond) : Bool := w.onTables || goodWord w
theorem vx_ot_at {args a' : Array Value} {s U : State} {w : Cond} (hW : s.WarmedH U.vm) (hvm : s.vm = U.vm) (hg : vx_ot w = true) (h : w.before args s = true) : w.before a' U = true := by
  simp only [vx_ot, Bool.or_eq_true] at hg
  rcases hg with hg | hg
  · exact va_tabs hg hvm h
  · exact word_at hW (good_of_word hg) h
/-- a list's words: the good ones out of the method's own list, the others by premises of their own -/
theorem vx_hat {args : Array Value} {s : State} {L B : List Cond} (h1 : ∀ w ∈ L.filter goodWord, w.before args s = true) (h2 : ∀ w ∈ L.filter (fun w => !goodWord w), w ∈ B) (h3 : ∀ w ∈ B, w.before args s = true) : ∀ w ∈ L, w.before args s = true := by
  intro w hw
  by_cases g : goodWord w = true
  · exact h1 w (List.mem_filter.mpr ⟨hw, g⟩)
  · refine h3 w (h2 w (List.mem_filter.mpr ⟨hw, ?_⟩))
    show (!goodWord w) = true
    cases hgw : goodWord w
    · rfl
    · exact absurd hgw g
theorem vx_c {args : Array Value} {s : State} {w : Cond} {B : List Cond} (h : w.before args s = true) (t : ∀ w ∈ B, w.before args s = true) : ∀ w' ∈ w :: B, w'.before args s = true := fun w' h' => (List.mem_cons.mp h').elim (fun e => by rw [e]; exact h) (t w')
theorem vx_n {args : Array Value} {s : State} : ∀ w ∈ ([] : List Cond), w.before args s = true := fun _ h => nomatch h
theorem vx_own {args : Array Value} {s : State} {L : List Cond} (h1 : ∀ w ∈ L.filter vx_no, w.before args s = true)
    (hU : (Cond.isRef (.static Bundle.tN "UNASSIGNED_STACK" Bundle.steD)).before args s = true) (hN : (Cond.isRef (.static Bundle.tN "SUPPRESSED_SENTINEL" Bundle.listD)).before args s = true)
    (lU : (Cond.laysStatic Bundle.tN "UNASSIGNED_STACK" Bundle.steD).before args s = true) (lN : (Cond.laysStatic Bundle.tN "SUPPRESSED_SENTINEL" Bundle.listD).before args s = true) : ∀ w ∈ L, w.before args s = true := by
  intro w hw
  by_cases e1 : w = .isRef (.static Bundle.tN "UNASSIGNED_STACK" Bundle.steD)
  · rw [e1]; exact hU
  · by_cases e2 : w = .isRef (.static Bundle.tN "SUPPRESSED_SENTINEL" Bundle.listD)
    · rw [e2]; exact hN
    · by_cases e3 : w = .laysStatic Bundle.tN "UNASSIGNED_STACK" Bundle.steD
      · rw [e3]; exact lU
      · by_cases e4 : w = .laysStatic Bundle.tN "SUPPRESSED_SENTINEL" Bundle.listD
        · rw [e4]; exact lN
        · exact h1 w (List.mem_filter.mpr ⟨hw, by unfold vx_no; rw [decide_eq_true e1, decide_eq_true e2, decide_eq_true e3, decide_eq_true e4]; rfl⟩)
/-- where a static field lies, its class's statics cell in H -/
def vx_L (C n d : String) (A : Nat → Prop) (U : State) (H : Heap) : Prop := ∃ (c : ClassId) (k : Class) (i : Nat) (f : Field) (a : Nat) (cell : Cell), U.vm.findClass C = some c ∧ U.fieldFound? C n d = some (c, k, i, f) ∧ f.isStatic = true ∧ k.statics = some a ∧ H[a]? = some cell ∧ cell.vm.isStatics = true ∧ cell.cls = c ∧ f.slot < cell.slots.size ∧ k.staticTypes[f.slot]? = some f.type ∧ ¬ A a
theorem vx_L.moved {C n d : String} {A : Nat → Prop} {u U : State} {H : Heap} (hvm : u.vm.Alike U.vm) (h : vx_L C n d A u H) : vx_L C n d A U H := by
  obtain ⟨c, k, i, f, a, cell, h1, h2, h3, h4, h5, h6, h7, h8, h9, h10⟩ := h
  obtain ⟨k', hi', he⟩ := State.fieldFound?_setVm hvm h2
  exact ⟨c, k', i, f, a, cell, by rw [hvm.findClass]; exact h1, hi', h3, by rw [he]; exact h4, h5, h6, h7, h8, by rw [he]; exact h9, h10⟩
theorem vx_L.kept {C n d : String} {A : Nat → Prop} {U : State} {H H1 : Heap} (h : vx_L C n d A U H) (hq : ∀ a : Nat, a < H.size → ¬ A a → H1[a]? = H[a]?) : vx_L C n d A U H1 := by
  obtain ⟨c, k, i, f, a, cell, h1, h2, h3, h4, h5, h6, h7, h8, h9, h10⟩ := h
  exact ⟨c, k, i, f, a, cell, h1, h2, h3, h4, by rw [hq a (Array.getElem?_eq_some_iff.mp h5).1 h10]; exact h5, h6, h7, h8, h9, h10⟩
theorem vx_L.narrow {C n d : String} {A B : Nat → Prop} {U : State} {H : Heap} (h : vx_L C n d A U H) (hAB : ∀ q, B q → A q) : vx_L C n d B U H := by
  obtain ⟨c, k, i, f, a, cell, h1, h2, h3, h4, h5, h6, h7, h8, h9, h10⟩ := h
  exact ⟨c, k, i, f, a, cell, h1, h2, h3, h4, h5, h6, h7, h8, h9, fun z => h10 (hAB _ z)⟩
theorem vx_L.word {C n d : String} {A : Nat → Prop} {s : State} {args : Array Value} (h : vx_L C n d A s s.heap) : (Cond.laysStatic C n d).before args s = true := by
  obtain ⟨c, k, i, f, a, cell, h1, h2, h3, h4, h5, h6, h7, h8, h9, -⟩ := h
  show (Cond.laysStatic C n d).holds args s none s [] = true
  exact Cond.laysStatic_of h1 h2 h3 h4 h5 h6 h7 h8 h9
/-- .. and what it holds: null or some reference -/
def vx_Zq (C n d : String) (A : Nat → Prop) (U : State) (H : Heap) : Prop := va_Zq C n d A U H ∧ vx_L C n d A U H
theorem vx_Zq.moved {C n d : String} {A : Nat → Prop} {u U : State} {H : Heap} (hvm : u.vm.Alike U.vm) (h : vx_Zq C n d A u H) : vx_Zq C n d A U H := ⟨va_Zq.moved hvm h.1, vx_L.moved hvm h.2⟩
theorem vx_Zq.kept {C n d : String} {A : Nat → Prop} {U : State} {H H1 : Heap} (h : vx_Zq C n d A U H) (hq : ∀ a : Nat, a < H.size → ¬ A a → H1[a]? = H[a]?) : vx_Zq C n d A U H1 := ⟨va_Zq.kept h.1 hq, vx_L.kept h.2 hq⟩
theorem vx_Zq.narrow {C n d : String} {A B : Nat → Prop} {U : State} {H : Heap} (h : vx_Zq C n d A U H) (hAB : ∀ q, B q → A q) : vx_Zq C n d B U H := ⟨va_Zq.narrow h.1 hAB, vx_L.narrow h.2 hAB⟩
theorem vx_Zqof {args : Array Value} {s : State} {C n d : String} {A : Nat → Prop} (hl : (Cond.laysStatic C n d).before args s = true) (hini : (Cond.initialized C).before args s = true) (h : (Cond.isRef (.static C n d)).before args s = true) (hA : ∀ a : Nat, a < s.heap.size → ¬ A a) : vx_Zq C n d A s s.heap := by
  refine ⟨va_Zqof hl hini h hA, ?_⟩
  obtain ⟨c, k, i, f, a, cell, h1, h2, h3, h4, h5, h6, h7, h8, h9⟩ := Cond.laysStatic_spec hl
  exact ⟨c, k, i, f, a, cell, h1, h2, h3, h4, h5, h6, h7, h8, h9, hA a (Array.getElem?_eq_some_iff.mp h5).1⟩
theorem vx_isRef {C n d : String} {v : Value} {A : Nat → Prop} {s : State} {args : Array Value} (h : va_Z C n d v A s s.heap) (hv : v.isRef = true) : (Cond.isRef (.static C n d)).before args s = true := by
  obtain ⟨cf, kf, fi, f, a, cell, h1, h2, h3, h4, h5, h6, h7, -⟩ := h
  have he : (Term.static C n d).eval args s none [] s = some v := by
    simp [Term.eval, State.fieldNamed?, h1, h2, h4, h5, h6, h7]
  simp only [Cond.before, Cond.holds, Cond.value, he]
  cases v <;> simp_all [Value.isRef]
theorem vx_isRefq {C n d : String} {A : Nat → Prop} {s : State} {args : Array Value} (h : va_Zq C n d A s s.heap) : (Cond.isRef (.static C n d)).before args s = true := by
  rcases h with h | ⟨t, h⟩
  · exact vx_isRef h rfl
  · exact vx_isRef h rfl
/-- the same frame, seen from here: as if the method were called anew in this heap -/
theorem vx_rebase {T : State} (X : Stand p l e R s m args below meth c T locs cells slots) {R' : Room} (hf : R'.frames ≤ R.frames) (hl : R'.locals ≤ R.locals) (hc : cells + R'.cells ≤ R.cells) (hs : slots + R'.slots ≤ R.slots) :
    Stand p l e R' ((T.setVm s.vm).setFrames (.invoking m args :: below)) m args below meth c T [] 0 0 := by
  have htop : (T.setVm s.vm).topJava?.isSome := X.here.top
  have hF : ((T.setVm s.vm).setFrames (.invoking m args :: below)).frames = .invoking m args :: below := State.frames_setFrames _ (State.cur_lt_of_top htop)
  obtain ⟨g₀, hg0⟩ := Option.isSome_iff_exists.mp htop
  obtain ⟨r, hr⟩ := State.topJava?_eq_some.mp hg0
  have hl9 : e.platform.stackLimits (T.setVm s.vm).me = e.platform.stackLimits s.me := X.limits
  have hb9 : (T.setVm s.vm).me.stackBytes = s.me.stackBytes := X.bytes
  refine ⟨X.admits, X.cas, X.clock, hF, ?_, X.hears, X.method, X.code, X.here, X.tail, X.warmed, ?_, ?_, ?_⟩
  · have h := X.room
    have hU : ((T.setVm s.vm).setFrames (.invoking m args :: below)).localsInUse = s.localsInUse := by
      rw [State.localsInUse_invoking hF (meth := meth) (c := c) X.method X.code, State.localsInUse_invoking X.frames X.method X.code]
    simp only [State.hasRoom, Bool.and_eq_true, decide_eq_true_eq] at h ⊢
    obtain ⟨⟨⟨⟨h1, h2, h3, h4, h5, h6⟩, h7⟩, h8⟩, h9⟩ := h
    rw [X.frames, List.length_cons] at h2 h3
    have q1 := X.heapSize
    have q2 := X.used
    simp only [hF, hU, List.length_cons, State.stackLimits_setFrames, State.stackBytes_setFrames, hl9, hb9]
    refine ⟨⟨⟨⟨by omega, by omega, by omega, by omega, by omega, h6⟩, ?_⟩, ?_⟩, X.book⟩
    · show T.heap.size + R'.cells ≤ e.platform.maxCells
      omega
    · show T.slotsUsed + R'.slots ≤ e.platform.maxSlots
      omega
  · rw [State.stackLimits_setFrames]; rfl
  · rw [State.stackBytes_setFrames]; rfl
  · refine ⟨?_, Nat.le_refl _, Nat.le_refl _, ?_, ?_, fun a c9 h9 => ⟨c9, h9, rfl, rfl, fun _ _ => rfl⟩⟩
    · obtain ⟨t, ht, -⟩ := State.frames_cons hr
      show T.setVm s.vm = { ((T.setVm s.vm).setFrames (.invoking m args :: below)).setFrames (T.setVm s.vm).frames with heap := T.heap, slotsUsed := T.slotsUsed }
      rw [State.setFrames_setFrames, State.setFrames_self ht]
      rfl
    · show T.slotsUsed = T.slotsUsed + ((T.heap.toList.drop T.heap.size).map (·.slots.size)).sum
      rw [List.drop_eq_nil_of_le (Nat.le_of_eq Array.length_toList)]
      rfl
    · show ((T.heap.toList.drop T.heap.size).map (·.slots.size)).sum ≤ 0
      rw [List.drop_eq_nil_of_le (Nat.le_of_eq Array.length_toList)]
      exact Nat.le_refl _
/-- 'throw new E()': new; dup; invokespecial; athrow -/
theorem vx_throw0 {cc : ByteArray} {pc : Nat} (hexec : p.tables.exec = Jvm.exec) (hb : c.code = cc) (hl : l.stackTraces = false) {own cls : String} {names : List String} {ik ic mc ms : Nat} {A : Nat → Prop}
    (hown : s.vm.findClass own = some m.cls) (hcls : Bundle.fit cls = true) (hnames : ∀ n ∈ names, Bundle.fit n = true)
    (hk : (Cond.classLink own ik cls).before args s = true) (hini : (Cond.initialized cls).before args s = true) (hat : ∀ w ∈ vx_at0 own ic cls names, w.before args s = true)
    (hgood : ∀ w ∈ Cond.classLink own ik cls :: Cond.initialized cls :: vx_at0 own ic cls names, vx_ot w = true)
    (hU : vx_Zq Bundle.tN "UNASSIGNED_STACK" Bundle.steD A s s.heap) (hN : vx_Zq Bundle.tN "SUPPRESSED_SENTINEL" Bundle.listD A s s.heap) (hS : va_S A s.heap H locs) (hsize : ls.size = c.maxLocals)
    (d0 : decode cc pc = .ok (.new ik, 3)) (d3 : decode cc (pc + 3) = .ok (.dup, 1)) (d4 : decode cc (pc + 4) = .ok (.invokespecial ic, 3)) (d7 : decode cc (pc + 7) = .ok (.athrow, 1))
    (hout : ∀ x ∈ c.exceptionTable.toList, covers x (pc + 7) = false)
    (hRframes : names.length + 3 < R.frames) (hRlocals : (rest.map fun v => v.category).sum + (13 * (names.length + 1) + 42) ≤ R.locals) (hRcells : cells + 1 ≤ R.cells) (hRslots : slots + 6 ≤ R.slots) (hlocks : meth.locks = false)
    (hx : ∀ t : State, s.vm.Alike t.vm → H.size ≤ t.heap.size → (∀ q : Nat, q < H.size → t.heap[q]? = H[q]?) → XC cls s t)
    (hf : ∀ z ∈ locs, free z.base) (hc : cells + 1 ≤ mc) (hs : slots + 6 ≤ ms) :
    W p l e R s m args below meth c H locs cells slots (vx_MQ below Qc XC args s mc ms free) (F0 m pc ls rest) := by
  intro T hT X
  have htr : e.platform.stackTraces = false := (show e.platform.stackTraces = l.stackTraces by rw [X.admits.platform]).trans hl
  have Y := vx_rebase X (R' := { frames := R.frames, locals := R.locals, cells := 1, slots := 6 }) (Nat.le_refl _) (Nat.le_refl _) hRcells hRslots
  obtain ⟨s', hA⟩ : ∃ z, z = (T.setVm s.vm).setFrames (.invoking m args :: below) := ⟨_, rfl⟩
  rw [← hA] at Y
  have hvm : s'.vm = s.vm := by rw [hA]; rfl
  have hhp : s'.heap = H := by rw [hA]; exact hT
  have hW0 : s.WarmedH s'.vm := by rw [hvm]; exact State.WarmedH.refl s
  have hat' : ∀ w ∈ vx_at0 own ic cls names, w.before args s' = true := fun w hw => vx_ot_at hW0 hvm.symm (hgood w (List.mem_cons_of_mem _ (List.mem_cons_of_mem _ hw))) (hat w hw)
  have hk' : (Cond.classLink own ik cls).before args s' = true := vx_ot_at hW0 hvm.symm (hgood _ List.mem_cons_self) hk
  have hini' : (Cond.initialized cls).before args s' = true := vx_ot_at hW0 hvm.symm (hgood _ (List.mem_cons_of_mem _ List.mem_cons_self)) hini
  have hU' : vx_Zq Bundle.tN "UNASSIGNED_STACK" Bundle.steD A s' s'.heap := by rw [hhp]; exact vx_Zq.moved hW0.alike (hU.kept hS.2.1)
  have hN' : vx_Zq Bundle.tN "SUPPRESSED_SENTINEL" Bundle.listD A s' s'.heap := by rw [hhp]; exact vx_Zq.moved hW0.alike (hN.kept hS.2.1)
  have h : ∀ w ∈ Bundle.ownAtoms0 own ic cls names, w.before args s' = true := vx_own hat' (vx_isRefq hU'.1) (vx_isRefq hN'.1) hU'.2.word hN'.2.word
  have hown' : s'.vm.findClass own = some m.cls := by rw [hvm]; exact hown
  have hins : (Cond.instantiable cls 6).before args s' = true := h _ (by simp [Bundle.ownAtoms0])
  obtain ⟨vm₁, cX, kX, hfX, hkX, -, -, X₁, st1⟩ := Y.newCold hexec (own := own) (C := cls) (index := ik) (n := 6) hown' hk' hins hini'
    (g := F0 m pc ls rest) rfl (by rw [hb]; exact d0) (Nat.le_refl _) (Nat.le_refl _)
  generalize hT1 : (T.setVm vm₁).pushCell { cls := cX, slots := kX.instanceTypes.map defaultValue, vm := .none } = T1 at X₁ st1
  have hcat : (Value.ref T.heap.size).category = 1 := rfl
  have hcellA : T1.heap[T.heap.size]? = some (freshCell cX kX) := by rw [← hT1]; exact State.heap_pushCell_size _ _
  have d3' : decode c.code (pc + 3) = .ok (.dup, 1) := by rw [hb]; exact d3
  obtain ⟨U, hsteps, hrun, hend, hW, hsame, ce, hce, hO⟩ := X₁.ctorThrow0 hexec htr (own := own) (cls := cls) (names := names) (ic := ic) hown' hcls hnames h (fun x hx => nomatch hx) hfX hkX hcellA (by rw [hhp, hT]; exact Nat.le_refl _)
    (g := { method := m, pc := pc + 4, locals := ls, stack := .ref T.heap.size :: .ref T.heap.size :: rest, locked := none }) rfl hsize rfl rfl (rest := rest) rfl
    (by rw [hb]; exact d4) (by rw [hb]; exact d7) hout hRframes (by simp only [List.map_cons, List.sum_cons, hcat]; omega) hlocks
  obtain ⟨f1, f2⟩ := vx_frame hsame
  rw [hhp] at f1 f2
  have hWs : s.WarmedH U.vm := State.WarmedH.trans hW0 hW
  have hcl : s.vm.findClass cls = some ce.cls := by
    have h9 := hO.cls
    rw [hvm] at h9
    exact h9
  have hall : s.sameButNew ({ U with vm := s.vm } : State) locs mc ms := by
    subst hA
    obtain ⟨e1, e2⟩ := hsame
    rw [State.setFrames_setFrames] at e1
    have h2 : (T.setVm s.vm).sameButNew ({ U with vm := s.vm } : State) [] (0 + 1) (0 + 6) := ⟨e1, e2⟩
    have h3 := X.same.trans h2
    rw [List.append_nil] at h3
    exact h3.mono hc hs
  refine ⟨U, ?_, .threw T.heap.size, hrun, hend, Or.inr ⟨T.heap.size, rfl, cls, ce, locs, hx U hWs.alike f1 (fun q hq => f2 q hq (fun z hz => nomatch hz)), hce, hO.vm, hcl, hWs, hall, hf⟩⟩
  refine st1 _ ?_
  show Steps p.tables e below (T1.setTop { method := m, pc := pc + 3, locals := ls, stack := .ref T.heap.size :: rest, locked := none }) _
  jvm_step X₁.here [X₁.here.top, hexec, d3', Value.category]
  exact hsteps
/-- 'throw new E("text")': new; dup; ldc; invokespecial; athrow -/
theorem vx_throwS {cc : ByteArray} {pc : Nat} (hexec : p.tables.exec = Jvm.exec) (hb : c.code = cc) (hl : l.stackTraces = false) {own cls text : String} {names : List String} {ik is ic mc ms sa : Nat} {A : Nat → Prop}
    (hown : s.vm.findClass own = some m.cls) (hcls : Bundle.fit cls = true) (hnames : ∀ n ∈ names, Bundle.fit n = true)
    (hk : (Cond.classLink own ik cls).before args s = true) (hini : (Cond.initialized cls).before args s = true) (hstr : vk_R own is text sa s) (hat : ∀ w ∈ vx_atS own ic cls names, w.before args s = true)
    (hgood : ∀ w ∈ Cond.classLink own ik cls :: Cond.initialized cls :: vx_atS own ic cls names, vx_ot w = true)
    (hU : vx_Zq Bundle.tN "UNASSIGNED_STACK" Bundle.steD A s s.heap) (hN : vx_Zq Bundle.tN "SUPPRESSED_SENTINEL" Bundle.listD A s s.heap) (hS : va_S A s.heap H locs) (hsize : ls.size = c.maxLocals)
    (d0 : decode cc pc = .ok (.new ik, 3)) (d3 : decode cc (pc + 3) = .ok (.dup, 1)) (d4 : decode cc (pc + 4) = .ok (.ldc is, 2)) (d6 : decode cc (pc + 6) = .ok (.invokespecial ic, 3)) (d9 : decode cc (pc + 9) = .ok (.athrow, 1))
    (hout : ∀ x ∈ c.exceptionTable.toList, covers x (pc + 9) = false)
    (hRframes : names.length + 3 < R.frames) (hRlocals : (rest.map fun v => v.category).sum + (13 * (names.length + 1) + 43) ≤ R.locals) (hRcells : cells + 1 ≤ R.cells) (hRslots : slots + 6 ≤ R.slots) (hlocks : meth.locks = false)
    (hx : ∀ t : State, s.vm.Alike t.vm → H.size ≤ t.heap.size → (∀ q : Nat, q < H.size → t.heap[q]? = H[q]?) → XC cls s t)
    (hf : ∀ z ∈ locs, free z.base) (hc : cells + 1 ≤ mc) (hs : slots + 6 ≤ ms) :
    W p l e R s m args below meth c H locs cells slots (vx_MQ below Qc XC args s mc ms free) (F0 m pc ls rest) := by
  intro T hT X
  have htr : e.platform.stackTraces = false := (show e.platform.stackTraces = l.stackTraces by rw [X.admits.platform]).trans hl
  have Y := vx_rebase X (R' := { frames := R.frames, locals := R.locals, cells := 1, slots := 6 }) (Nat.le_refl _) (Nat.le_refl _) hRcells hRslots
  obtain ⟨s', hA⟩ : ∃ z, z = (T.setVm s.vm).setFrames (.invoking m args :: below) := ⟨_, rfl⟩
  rw [← hA] at Y
  have hvm : s'.vm = s.vm := by rw [hA]; rfl
  have hhp : s'.heap = H := by rw [hA]; exact hT
  have hW0 : s.WarmedH s'.vm := by rw [hvm]; exact State.WarmedH.refl s
  have hat' : ∀ w ∈ vx_atS own ic cls names, w.before args s' = true := fun w hw => vx_ot_at hW0 hvm.symm (hgood w (List.mem_cons_of_mem _ (List.mem_cons_of_mem _ hw))) (hat w hw)
  have hk' : (Cond.classLink own ik cls).before args s' = true := vx_ot_at hW0 hvm.symm (hgood _ List.mem_cons_self) hk
  have hini' : (Cond.initialized cls).before args s' = true := vx_ot_at hW0 hvm.symm (hgood _ (List.mem_cons_of_mem _ List.mem_cons_self)) hini
  have hU' : vx_Zq Bundle.tN "UNASSIGNED_STACK" Bundle.steD A s' s'.heap := by rw [hhp]; exact vx_Zq.moved hW0.alike (hU.kept hS.2.1)
  have hN' : vx_Zq Bundle.tN "SUPPRESSED_SENTINEL" Bundle.listD A s' s'.heap := by rw [hhp]; exact vx_Zq.moved hW0.alike (hN.kept hS.2.1)
  have h : ∀ w ∈ Bundle.ownAtoms own ic cls names, w.before args s' = true := vx_own hat' (vx_isRefq hU'.1) (vx_isRefq hN'.1) hU'.2.word hN'.2.word
  have hown' : s'.vm.findClass own = some m.cls := by rw [hvm]; exact hown
  have hins : (Cond.instantiable cls 6).before args s' = true := h _ (by simp [Bundle.ownAtoms])
  obtain ⟨vm₁, cX, kX, hfX, hkX, -, -, X₁, st1⟩ := Y.newCold hexec (own := own) (C := cls) (index := ik) (n := 6) hown' hk' hins hini'
    (g := F0 m pc ls rest) rfl (by rw [hb]; exact d0) (Nat.le_refl _) (Nat.le_refl _)
  generalize hT1 : (T.setVm vm₁).pushCell { cls := cX, slots := kX.instanceTypes.map defaultValue, vm := .none } = T1 at X₁ st1
  have hcat : (Value.ref T.heap.size).category = 1 := rfl
  have hcellA : T1.heap[T.heap.size]? = some (freshCell cX kX) := by rw [← hT1]; exact State.heap_pushCell_size _ _
  have d3' : decode c.code (pc + 3) = .ok (.dup, 1) := by rw [hb]; exact d3
  have d4' : decode c.code (pc + 4) = .ok (.ldc is, 2) := by rw [hb]; exact d4
  have hstr' : vk_R own is text sa s' := vk_R.warm hW0 hstr
  obtain ⟨U, hsteps, hrun, hend, hW, hsame, ce, hce, hO⟩ := X₁.ctorThrowS hexec htr (own := own) (cls := cls) (names := names) (ic := ic) hown' hcls hnames h (fun x hx => nomatch hx) hfX hkX hcellA (by rw [hhp, hT]; exact Nat.le_refl _) (msg := .ref sa) rfl
    (g := { method := m, pc := pc + 6, locals := ls, stack := .ref sa :: .ref T.heap.size :: .ref T.heap.size :: rest, locked := none }) rfl hsize rfl rfl (rest := rest) rfl
    (by rw [hb]; exact d6) (by rw [hb]; exact d9) hout hRframes (by simp only [List.map_cons, List.sum_cons, hcat]; omega) hlocks
  obtain ⟨f1, f2⟩ := vx_frame hsame
  rw [hhp] at f1 f2
  have hWs : s.WarmedH U.vm := State.WarmedH.trans hW0 hW
  have hcl : s.vm.findClass cls = some ce.cls := by
    have h9 := hO.cls
    rw [hvm] at h9
    exact h9
  have hall : s.sameButNew ({ U with vm := s.vm } : State) locs mc ms := by
    subst hA
    obtain ⟨e1, e2⟩ := hsame
    rw [State.setFrames_setFrames] at e1
    have h2 : (T.setVm s.vm).sameButNew ({ U with vm := s.vm } : State) [] (0 + 1) (0 + 6) := ⟨e1, e2⟩
    have h3 := X.same.trans h2
    rw [List.append_nil] at h3
    exact h3.mono hc hs
  refine ⟨U, ?_, .threw T.heap.size, hrun, hend, Or.inr ⟨T.heap.size, rfl, cls, ce, locs, hx U hWs.alike f1 (fun q hq => f2 q hq (fun z hz => nomatch hz)), hce, hO.vm, hcl, hWs, hall, hf⟩⟩
  refine st1 _ ?_
  show Steps p.tables e below (T1.setTop { method := m, pc := pc + 3, locals := ls, stack := .ref T.heap.size :: rest, locked := none }) _
  jvm_step X₁.here [X₁.here.top, hexec, d3', Value.category]
  exact X₁.ldcString hexec (own := own) (text := text) (index := is) (a := sa) hown' hstr'.1 hstr'.2
    (g := { method := m, pc := pc + 4, locals := ls, stack := .ref T.heap.size :: .ref T.heap.size :: rest, locked := none }) rfl d4' _ hsteps
/-- 'throw new E("text")', the text by a wide index -/
theorem vx_throwSW {cc : ByteArray} {pc : Nat} (hexec : p.tables.exec = Jvm.exec) (hb : c.code = cc) (hl : l.stackTraces = false) {own cls text : String} {names : List String} {ik is ic mc ms sa : Nat} {A : Nat → Prop}
    (hown : s.vm.findClass own = some m.cls) (hcls : Bundle.fit cls = true) (hnames : ∀ n ∈ names, Bundle.fit n = true)
    (hk : (Cond.classLink own ik cls).before args s = true) (hini : (Cond.initialized cls).before args s = true) (hstr : vk_R own is text sa s) (hat : ∀ w ∈ vx_atS own ic cls names, w.before args s = true)
    (hgood : ∀ w ∈ Cond.classLink own ik cls :: Cond.initialized cls :: vx_atS own ic cls names, vx_ot w = true)
    (hU : vx_Zq Bundle.tN "UNASSIGNED_STACK" Bundle.steD A s s.heap) (hN : vx_Zq Bundle.tN "SUPPRESSED_SENTINEL" Bundle.listD A s s.heap) (hS : va_S A s.heap H locs) (hsize : ls.size = c.maxLocals)
    (d0 : decode cc pc = .ok (.new ik, 3)) (d3 : decode cc (pc + 3) = .ok (.dup, 1)) (d4 : decode cc (pc + 4) = .ok (.ldc_w is, 3)) (d7 : decode cc (pc + 7) = .ok (.invokespecial ic, 3)) (d10 : decode cc (pc + 10) = .ok (.athrow, 1))
    (hout : ∀ x ∈ c.exceptionTable.toList, covers x (pc + 10) = false)
    (hRframes : names.length + 3 < R.frames) (hRlocals : (rest.map fun v => v.category).sum + (13 * (names.length + 1) + 43) ≤ R.locals) (hRcells : cells + 1 ≤ R.cells) (hRslots : slots + 6 ≤ R.slots) (hlocks : meth.locks = false)
    (hx : ∀ t : State, s.vm.Alike t.vm → H.size ≤ t.heap.size → (∀ q : Nat, q < H.size → t.heap[q]? = H[q]?) → XC cls s t)
    (hf : ∀ z ∈ locs, free z.base) (hc : cells + 1 ≤ mc) (hs : slots + 6 ≤ ms) :
    W p l e R s m args below meth c H locs cells slots (vx_MQ below Qc XC args s mc ms free) (F0 m pc ls rest) := by
  intro T hT X
  have htr : e.platform.stackTraces = false := (show e.platform.stackTraces = l.stackTraces by rw [X.admits.platform]).trans hl
  have Y := vx_rebase X (R' := { frames := R.frames, locals := R.locals, cells := 1, slots := 6 }) (Nat.le_refl _) (Nat.le_refl _) hRcells hRslots
  obtain ⟨s', hA⟩ : ∃ z, z = (T.setVm s.vm).setFrames (.invoking m args :: below) := ⟨_, rfl⟩
  rw [← hA] at Y
  have hvm : s'.vm = s.vm := by rw [hA]; rfl
  have hhp : s'.heap = H := by rw [hA]; exact hT
  have hW0 : s.WarmedH s'.vm := by rw [hvm]; exact State.WarmedH.refl s
  have hat' : ∀ w ∈ vx_atS own ic cls names, w.before args s' = true := fun w hw => vx_ot_at hW0 hvm.symm (hgood w (List.mem_cons_of_mem _ (List.mem_cons_of_mem _ hw))) (hat w hw)
  have hk' : (Cond.classLink own ik cls).before args s' = true := vx_ot_at hW0 hvm.symm (hgood _ List.mem_cons_self) hk
  have hini' : (Cond.initialized cls).before args s' = true := vx_ot_at hW0 hvm.symm (hgood _ (List.mem_cons_of_mem _ List.mem_cons_self)) hini
  have hU' : vx_Zq Bundle.tN "UNASSIGNED_STACK" Bundle.steD A s' s'.heap := by rw [hhp]; exact vx_Zq.moved hW0.alike (hU.kept hS.2.1)
  have hN' : vx_Zq Bundle.tN "SUPPRESSED_SENTINEL" Bundle.listD A s' s'.heap := by rw [hhp]; exact vx_Zq.moved hW0.alike (hN.kept hS.2.1)
  have h : ∀ w ∈ Bundle.ownAtoms own ic cls names, w.before args s' = true := vx_own hat' (vx_isRefq hU'.1) (vx_isRefq hN'.1) hU'.2.word hN'.2.word
  have hown' : s'.vm.findClass own = some m.cls := by rw [hvm]; exact hown
  have hins : (Cond.instantiable cls 6).before args s' = true := h _ (by simp [Bundle.ownAtoms])
  obtain ⟨vm₁, cX, kX, hfX, hkX, -, -, X₁, st1⟩ := Y.newCold hexec (own := own) (C := cls) (index := ik) (n := 6) hown' hk' hins hini'
    (g := F0 m pc ls rest) rfl (by rw [hb]; exact d0) (Nat.le_refl _) (Nat.le_refl _)
  generalize hT1 : (T.setVm vm₁).pushCell { cls := cX, slots := kX.instanceTypes.map defaultValue, vm := .none } = T1 at X₁ st1
  have hcat : (Value.ref T.heap.size).category = 1 := rfl
  have hcellA : T1.heap[T.heap.size]? = some (freshCell cX kX) := by rw [← hT1]; exact State.heap_pushCell_size _ _
  have d3' : decode c.code (pc + 3) = .ok (.dup, 1) := by rw [hb]; exact d3
  have d4' : decode c.code (pc + 4) = .ok (.ldc_w is, 3) := by rw [hb]; exact d4
  have hstr' : vk_R own is text sa s' := vk_R.warm hW0 hstr
  obtain ⟨U, hsteps, hrun, hend, hW, hsame, ce, hce, hO⟩ := X₁.ctorThrowS hexec htr (own := own) (cls := cls) (names := names) (ic := ic) hown' hcls hnames h (fun x hx => nomatch hx) hfX hkX hcellA (by rw [hhp, hT]; exact Nat.le_refl _) (msg := .ref sa) rfl
    (g := { method := m, pc := pc + 7, locals := ls, stack := .ref sa :: .ref T.heap.size :: .ref T.heap.size :: rest, locked := none }) rfl hsize rfl rfl (rest := rest) rfl
    (by rw [hb]; exact d7) (by rw [hb]; exact d10) hout hRframes (by simp only [List.map_cons, List.sum_cons, hcat]; omega) hlocks
  obtain ⟨f1, f2⟩ := vx_frame hsame
  rw [hhp] at f1 f2
  have hWs : s.WarmedH U.vm := State.WarmedH.trans hW0 hW
  have hcl : s.vm.findClass cls = some ce.cls := by
    have h9 := hO.cls
    rw [hvm] at h9
    exact h9
  have hall : s.sameButNew ({ U with vm := s.vm } : State) locs mc ms := by
    subst hA
    obtain ⟨e1, e2⟩ := hsame
    rw [State.setFrames_setFrames] at e1
    have h2 : (T.setVm s.vm).sameButNew ({ U with vm := s.vm } : State) [] (0 + 1) (0 + 6) := ⟨e1, e2⟩
    have h3 := X.same.trans h2
    rw [List.append_nil] at h3
    exact h3.mono hc hs
  refine ⟨U, ?_, .threw T.heap.size, hrun, hend, Or.inr ⟨T.heap.size, rfl, cls, ce, locs, hx U hWs.alike f1 (fun q hq => f2 q hq (fun z hz => nomatch hz)), hce, hO.vm, hcl, hWs, hall, hf⟩⟩
  refine st1 _ ?_
  show Steps p.tables e below (T1.setTop { method := m, pc := pc + 3, locals := ls, stack := .ref T.heap.size :: rest, locked := none }) _
  jvm_step X₁.here [X₁.here.top, hexec, d3', Value.category]
  exact X₁.ldcStringW hexec (own := own) (text := text) (index := is) (a := sa) hown' hstr'.1 hstr'.2
    (g := { method := m, pc := pc + 4, locals := ls, stack := .ref T.heap.size :: .ref T.heap.size :: rest, locked := none }) rfl d4' _ hsteps
end Ends
section Bodies
variable {l : Launch}
theorem vx_ofW {y : MethodName} {ws ws' : List Cond} {rm : Room} {Pc : Array Value → State → Prop} {Qc : Array Value → State → Outcome → State → Prop} {XC : String → State → State → Prop} {mc ms : Nat} {free : Addr → Prop} {cc : ByteArray} {maxL : Nat} {ret : Option FieldType}
    (hy : plainName y.cls = true) (hw : ws = Cond.code y cc maxL ret :: ws')
    (body : ∀ p e s m args below meth c s₁, BodyLoose p l y (headSpec ws rm) cc maxL ret e s m args below meth c s₁ → c.maxLocals = maxL → (∀ x ∈ c.exceptionTable.toList, False) → Pc args s →
      W p l e (headSpec ws rm).room s m args below meth c s.heap [] 0 0 (vx_MQ below Qc XC args s mc ms free) (entryFrame m args maxL)) : vx_Met l y ws rm Pc Qc XC mc ms free := by
  refine MetFree.of_bodyS (code := cc) (maxLocals := maxL) (ret := ret) hy ?_ ?_
  · intro args s m h hn
    obtain ⟨meth, c, h1, h2, h3, h4, h5, h6, -, -⟩ := Cond.code_spec hn (atoms_spec (ws := ws) h _ (by rw [hw]; exact List.mem_cons_self))
    exact ⟨meth, c, h1, h2, h3, h4, h5, h6⟩
  · intro p e s m args below meth c s₁ B hml hP _
    have hh0 : s₁.heap = s.heap := by rw [B.state]; rfl
    have ht : ∀ x ∈ c.exceptionTable.toList, False := by
      obtain ⟨meth9, c9, h1, h2, -, -, -, -, h7, -⟩ := Cond.code_spec B.named (atoms_spec (ws := ws) B.pre _ (by rw [hw]; exact List.mem_cons_self))
      cases Option.some.inj (h1.symm.trans B.method)
      cases Option.some.inj (h2.symm.trans (Stand.of_body B).code)
      intro x hx
      rw [Array.isEmpty_iff.mp h7] at hx
      cases hx
    obtain ⟨t, a1, o, b1, b2, b3⟩ := body p e s m args below meth c s₁ B hml ht hP s₁ hh0 (Stand.of_body B)
    exact ⟨t, o, a1, b1, b2, b3⟩
/-- the table of a body with handlers -/
theorem vx_table {p : Program} {x y : MethodName} {S : Spec} {cc bytes : ByteArray} {maxL maxL' : Nat} {ret ret' : Option FieldType} {e : Env} {s s₁ : State} {m : MethodId} {args : Array Value} {below : List Frame} {meth : Method} {c : Code} {hh : List (Nat × Nat × Nat × Nat)}
    (B : BodyLoose p l y S cc maxL ret e s m args below meth c s₁) (h : (Cond.codeWith y bytes maxL' ret' hh).before args s = true) : c.exceptionTable.toList = tableOf hh := by
  obtain ⟨m9, meth9, c9, hn9, h1, h2, -, -, h6, -⟩ := Cond.codeWith_spec h
  cases Option.some.inj (hn9.symm.trans B.named)
  cases Option.some.inj (h1.symm.trans B.method)
  cases Option.some.inj (h2.symm.trans (Stand.of_body B).code)
  rw [← h6, table_eq]
end Bodies
end VXA
/-! ===== END ===== -/
/-! ===== BEGIN a static call of a method with an exception table ===== -/
section VXS
variable {p : Program} {l : Launch} {e : Env} {R : Room} {s : State} {m : MethodId} {args : Array Value} {below : List Frame} {meth : Method} {c : Code} {T : State} {H : Heap} {locs : List Loc} {cells slots : Nat}
abbrev vx_CSW (R : Room) (s : State) (args : Array Value) (own : String) (index : Nat) (y : MethodName) (bytes : ByteArray) (maxL : Nat) (ret : Option FieldType) (hh : List (Nat × Nat × Nat × Nat)) (ws : List Cond) (rm : Room) (mc ms n : Nat) : Prop :=
  (rm.cells = mc ∧ rm.slots = ms ∧ rm.frames + 1 ≤ R.frames ∧ 8 + (maxL + 11) + rm.locals ≤ R.locals ∧ (∀ w ∈ ws, ∀ (a' : Array Value) (U : State), s.WarmedH U.vm → w.before a' U = true) ∧ Cond.codeWith y bytes maxL ret hh ∈ ws) ∧
  (Cond.codeWith y bytes maxL ret hh).before args s = true ∧ (Cond.initialized y.cls).before args s = true ∧ (y.cls ≠ "java/lang/invoke/MethodHandle" ∧ y.cls ≠ "java/lang/invoke/VarHandle") ∧
  (∀ sig, parseMethodDescriptor y.desc = some sig → n = sig.parameters.length) ∧ (Cond.methodLink own index y).before args s = true ∧ (Cond.static y).before args s = true
theorem vx_cwSW {own : String} {index maxL mc ms : Nat} {y : MethodName} {bytes : ByteArray} {ret : Option FieldType} {hh : List (Nat × Nat × Nat × Nat)} {Ts ws ws' : List Cond} {rm : Room} (n : Nat) (ht : ∀ w ∈ Ts, w.before args s = true) (hT : GoodIn Ts (va_wsS own index y ws)) (hw : ws = Cond.codeWith y bytes maxL ret hh :: ws') (hrc : rm.cells = mc) (hrs : rm.slots = ms)
    (hd : y.cls ≠ "java/lang/invoke/MethodHandle" ∧ y.cls ≠ "java/lang/invoke/VarHandle" ∧ (parseMethodDescriptor y.desc).map (fun d => d.parameters.length) = some n) (hR : rm.frames + 1 ≤ R.frames ∧ 8 + (maxL + 11) + rm.locals ≤ R.locals) :
    vx_CSW R s args own index y bytes maxL ret hh ws rm mc ms n := by
  have ok : ∀ w ∈ va_wsS own index y ws, w.before args s = true := fun w h => ht w (hT w h).1
  have hG : GoodIn Ts ws := fun w h => hT w (by unfold va_wsS; exact List.mem_append_right _ h)
  have hc : Cond.codeWith y bytes maxL ret hh ∈ ws := by rw [hw]; exact List.mem_cons_self
  refine ⟨⟨hrc, hrs, hR.1, hR.2, pay_in ht hG, hc⟩, ht _ (hG _ hc).1, ok _ (by simp [va_wsS]), ⟨hd.1, hd.2.1⟩, fun sig h => ?_, ok _ (by simp [va_wsS]), ok _ (by simp [va_wsS])⟩
  have h2 := hd.2.2
  rw [h] at h2
  exact (Option.some.inj h2).symm
theorem vx_callSW (X : Stand p l e R s m args below meth c T locs cells slots) (hexec : p.tables.exec = Jvm.exec) {own : String} {index : Nat} {y : MethodName} {bytes : ByteArray} {maxL : Nat} {ret : Option FieldType} {hh : List (Nat × Nat × Nat × Nat)}
    (hown : s.vm.findClass own = some m.cls) (hlink : (Cond.methodLink own index y).before args s = true) (hstat : (Cond.static y).before args s = true) (hinit : (Cond.initialized y.cls).before args s = true)
    (hcode : (Cond.codeWith y bytes maxL ret hh).before args s = true) (hy : y.cls ≠ "java/lang/invoke/MethodHandle" ∧ y.cls ≠ "java/lang/invoke/VarHandle")
    {W9 : Nat} {Pre : Pt → Array Value → Prop} {Post : Pt → Array Value → Option Value → Pt → Prop} (hK : Back l R p e below s args y 3 W9 Pre Post)
    {g : JFrame} (hg : g.method = m) (hsize : g.locals.size = c.maxLocals) {argsL rest : List Value} (hlen : ∀ sig, parseMethodDescriptor y.desc = some sig → argsL.length = sig.parameters.length)
    (hstack : g.stack = argsL.reverse ++ rest) (hW : 2 * g.monitorRoom + (rest.map fun v => v.category).sum ≤ W9) (hdg : decode c.code g.pc = .ok (.invokestatic index, 3))
    (hpre : ∀ vm₁, s.WarmedH vm₁ → Pre ⟨T.setVm vm₁, locs, cells, slots⟩ argsL.toArray) :
    ∃ (v : Option Value) (vm₁ : Vm) (B : Pt), s.WarmedH vm₁ ∧ Stand p l e R s m args below meth c B.U B.locs B.cells B.slots ∧ Post ⟨T.setVm vm₁, locs, cells, slots⟩ argsL.toArray v B ∧
      ∀ target, Steps p.tables e below (B.U.setTop { g with pc := g.pc + 3, stack := v.toList ++ rest }) target → Steps p.tables e below (T.setTop g) target := by
  obtain ⟨mk, methM, cM, hnamed, hmethM, -, -, -, -, -, -, hsigM⟩ := Cond.codeWith_spec hcode
  have hstatic : methM.isStatic = true := Cond.static_spec hnamed hmethM hstat
  obtain ⟨kP, hkP, -⟩ := className_of_methodNamed hnamed
  have hinitP : kP.init = .initialized := Cond.initialized_spec (findClass_of_methodNamed hnamed) hkP hinit
  obtain ⟨vm₁, X₁, hstep₁⟩ := X.invokestatic hexec hown hlink hnamed hmethM hstatic hkP hinitP hy (g := g) hg (argsL := argsL) (rest := rest) (hlen _ hsigM) hstack hdg
  obtain ⟨v, B, X', hpost, hsteps⟩ := hK m meth c ⟨T.setVm vm₁, locs, cells, slots⟩ { g with stack := rest } (.invokestatic index) mk argsL.toArray X₁ hg hsize hdg hW (X₁.named hnamed) (hpre vm₁ X₁.warmed)
  exact ⟨v, vm₁, B, X₁.warmed, X', hpost, fun target h => hstep₁ _ fun acts => by rw [doInvoke_state]; exact hsteps.trans h⟩
theorem vx_runSW {y : MethodName} {bytes cc : ByteArray} {maxL nL mc ms n index : Nat} {ret : Option FieldType} {hh : List (Nat × Nat × Nat × Nat)} {ws : List Cond} {rm : Room} {Pc : Array Value → State → Prop} {Qc : Array Value → State → Outcome → State → Prop} {free : Addr → Prop} {Ts : List Cond} {own : String} {As rest : List Value} {g : JFrame}
    (S : CallFix p m c cc nL s args Ts own) (hM : Met l y ws rm Pc Qc mc ms free) (cw : vx_CSW R s args own index y bytes maxL ret hh ws rm mc ms n) (hp : PreS s H Pc As)
    (hg : g.method = m) (hn : As.length = n) (hsize : g.locals.size = nL) (hstack : g.stack = As.reverse ++ rest) (hW : 2 * g.monitorRoom + (rest.map fun v => v.category).sum ≤ 8) (hdg : decode cc g.pc = .ok (.invokestatic index, 3)) (hf : cells + mc ≤ R.cells ∧ slots + ms ≤ R.slots) :
    va_Run p l e R s m args below meth c H locs cells slots mc ms g rest (Qc As.toArray) (free) := by
  obtain ⟨⟨hrc, hrs, hfr, hlo, hws, hcw⟩, hcode, hini, hy, hlen, hl, hstt⟩ := cw
  have hK : Back l R p e below s args y 3 8 (PreOf R mc ms Pc) (PostOf Qc mc ms free) := va_backW (hh := hh) (bytes := bytes) (maxL := maxL) (ret := ret) hM hp.1 hrc hrs hfr hlo hws hcw (fun a' U hW => word_at hW (Or.inl (by first | rfl | simp [Cond.onTables, Cond.keeps, Cond.steady])) hini)
  obtain ⟨hx, hb, hml, ho, -⟩ := S
  intro T hT X
  obtain ⟨v, vm₁, ⟨U', l2, c2, s2⟩, hW₁, X', ⟨g', mk, t, L, e1, e2, hq, h1, hL, h2, h3⟩, st⟩ := vx_callSW X hx (hh := hh) (bytes := bytes) (maxL := maxL) (ret := ret) ho hl hstt hini hcode hy hK hg (hsize.trans hml.symm) (argsL := As) (rest := rest) (fun sig h => hn.trans (hlen sig h)) hstack hW (by rw [hb]; exact hdg)
    (fun vm₁ hW₁ => ⟨hf.1, hf.2, hp.2 (T.setVm vm₁) hT hW₁⟩)
  dsimp only [Pt.U, Pt.locs, Pt.cells, Pt.slots] at X' e1 e2 h1 h2 h3 st
  subst h1; subst h2; subst h3
  exact ⟨v, (T.setVm vm₁).calling g' mk As.toArray, t, U', L, hT, X', hL, e1, e2, hq, st⟩
/-- not caught here, past rows that name other classes: it goes on to the caller -/
theorem vx_outP {p : Program} {l : Launch} {e : Env} {R : Room} {s : State} {m : MethodId} {args : Array Value} {below : List Frame} {meth : Method} {c : Code} {H : Heap} {locs : List Loc} {cells slots : Nat} {free : Addr → Prop} {ls : Array Slot} {rest : List Value} {Qc : Array Value → State → Outcome → State → Prop} {XC : String → State → State → Prop}
    {pc : Nat} {own E : String} {ce : Cell} {q : Addr} {mc ms : Nat} (hown : s.vm.findClass own = some m.cls) (hlocks : meth.locks = false)
    (hpass : ∀ z ∈ c.exceptionTable.toList, covers z pc = false ∨ (z.catchType ≠ 0 ∧ ∃ nm : String, (Cond.classLink own z.catchType nm).before args s = true ∧ va_Nc E nm s)) (hcell : H[q]? = some ce) (hv : ce.vm = .none) (hcl : s.vm.findClass E = some ce.cls)
    (hx : ∀ t : State, t.heap = H → s.vm.Alike t.vm → XC E s t) (hf : ∀ z ∈ locs, free z.base) (hc : cells ≤ mc) (hs : slots ≤ ms) :
    vx_W p l e R s m args below meth c H locs cells slots (vx_MQ below Qc XC args s mc ms free) (F0 m pc ls rest) q := by
  intro T hT X
  have hpl : e.platform.magicAccessors = ({} : Platform).magicAccessors := by rw [X.admits.platform]
  obtain ⟨vm', hW', X', st⟩ := Jvm.Stand.outThrough X hlocks q (g := F0 m pc ls rest) rfl rfl rfl (cell := ce) (by rw [hT]; exact hcell) (by rw [hv]; rfl)
    (by obtain ⟨k9, h9, -⟩ := Vm.findClass_spec hcl; exact ⟨k9, h9⟩) (fun z hz => by
      rcases hpass z hz with h | ⟨hz0, nm, hl1, hn1⟩
      · exact Or.inl h
      · obtain ⟨c6, hc6, hcl6⟩ := Cond.classLink_spec hown hl1 e.platform hpl
        obtain ⟨a8, b8, h1, h2, h3⟩ := hn1
        cases Option.some.inj (h1.symm.trans hcl)
        cases Option.some.inj (h2.symm.trans hc6)
        exact Or.inr ⟨hz0, _, hcl6, h3⟩)
  obtain ⟨g₀, hfr⟩ := X'.frames_eq
  have hcell9 : ((T.setVm vm').setFrames (.throwing q :: below)).heap[q]? = some ce := by
    show T.heap[q]? = some ce
    rw [hT]; exact hcell
  have hend : Ended ((T.setVm vm').setFrames (.throwing q :: below)) below (.threw q) := State.frames_setFrames _ (State.cur_lt_of_frames hfr)
  refine ⟨(T.setVm vm').setFrames (.throwing q :: below), ?_, .threw q, X'.here.running, hend, Or.inr ⟨q, rfl, E, ce, locs, hx _ hT (X'.ends _).1.alike, hcell9, hv, hcl, (X'.ends _).1, (X'.ends _).2.mono hc hs, hf⟩⟩
  rw [X.pushThrowing_eq]
  exact st
/-- a thing of a world lies in the heap -/
theorem vx_lt {D : va_G} {cl : List vw_C} {ws : va_W} {H1 : Heap} (h : va_P D cl ws H1) {k : Nat} {q : Nat × va_E} (hk : ws[k]? = some q) : q.1 < H1.size := (h k q hk).lt
end VXS
/-! ===== END ===== -/
/-! ===== BEGIN methods with a table of their own: called by a name, returning or throwing ===== -/
section VXH
/-! vx_backW, vx_callVX, vx_callSX, vx_callVW, vx_runVW, vx_runVX, vx_runSX, vx_ofWH follow the same proofs as their sisters above (Free/Laws.lean, Shelf42/LK1.lean); vx_outP calls Shelf42/NT130.lean (outThrough). -/
section
variable {l : Launch} {R : Room} {p : Program} {e : Env} {below : List Frame} {s : State} {sargs : Array Value} {y : MethodName} {len W9 : Nat}
theorem vx_backW {ws : List Cond} {rm : Room} {Pc : Array Value → State → Prop} {Qc : Array Value → State → Outcome → State → Prop} {XC : String → State → State → Prop} {mc ms : Nat} {free : Addr → Prop} {bytes : ByteArray} {maxL : Nat} {ret : Option FieldType} {hh : List (Nat × Nat × Nat × Nat)}
    (hM : vx_Met l y ws rm Pc Qc XC mc ms free) (hblind : FrameBlind Pc) (hrc : rm.cells = mc) (hrs : rm.slots = ms)
    (hframes : rm.frames + 1 ≤ R.frames) (hlocals : W9 + (maxL + 11) + rm.locals ≤ R.locals)
    (hws : ∀ w ∈ ws, ∀ a' U, s.WarmedH U.vm → w.before a' U = true) (hcode : Cond.codeWith y bytes maxL ret hh ∈ ws) (hinit : ∀ a' U, s.WarmedH U.vm → (Cond.initialized y.cls).before a' U = true) :
    vx_Back l R p e below s sargs y len W9 (PreOf R mc ms Pc) (PostOf Qc mc ms free) (vx_Post XC mc ms free) := by
  intro m meth c A g ig mk a X hg hsize hdg hW hn hp
  have h1 : (headSpec ws rm).pre.before a A.U = true := atoms_intro fun w hw => hws w hw _ _ X.warmed
  have h2 : (Cond.codeWith y bytes maxL ret hh).before a A.U = true := hws _ hcode _ _ X.warmed
  have h3 : (Cond.initialized y.cls).before a A.U = true := hinit _ _ X.warmed
  have h4 : A.cells + (headSpec ws rm).room.cells ≤ R.cells := by rw [show (headSpec ws rm).room.cells = mc from hrc]; exact hp.1
  have h5 : A.slots + (headSpec ws rm).room.slots ≤ R.slots := by rw [show (headSpec ws rm).room.slots = ms from hrs]; exact hp.2.1
  have hPc : Pc a (A.U.calling g mk a) := hblind _ _ _ _ hp.2.2
  obtain ⟨U, Ls, c0, s0⟩ := A
  dsimp only [Pt.U, Pt.locs, Pt.cells, Pt.slots] at h1 h2 h3 h4 h5 X hn hPc ⊢
  obtain ⟨m9, methY, cY, hn9, hmY, hcY, -, hlY, -⟩ := Cond.codeWith_spec h2
  cases Option.some.inj (hn9.symm.trans hn)
  obtain ⟨kY, hkY, -⟩ := className_of_methodNamed hn
  have hinitY : kY.init = .initialized := Cond.initialized_spec (findClass_of_methodNamed hn) hkY h3
  have h : At U g.method c below := by rw [hg]; exact X.here
  have hlocals9 : W9 + (maxL + 11) + (headSpec ws rm).room.locals ≤ R.locals := hlocals
  have happ : (headSpec ws rm).appliesLoose y e.platform (U.calling g mk a) = true :=
    Spec.appliesLoose_calling (g := g) h hdg hn hkY hinitY
      (X.room_calling (g := g) (R' := (headSpec ws rm).room) hsize hmY hcY hframes (by rw [hlY]; omega) h4 h5) h1
  obtain ⟨mid, hmid⟩ := h.above
  have hfr : (U.setTop g).frames = (.java g :: mid) ++ below := by rw [State.frames_setTop' g h.top, hmid]; rfl
  obtain ⟨o, s₂, hsteps, -, hend, hq⟩ := Steps.callFree hM p X.admits X.cas X.clock (acts := []) hfr happ hPc trivial
  have hq' : vx_Q Qc XC mc ms free a (U.calling g mk a) o s₂ := hq
  rw [State.frames_setTop' g h.top] at hend
  obtain ⟨g₀, hg0⟩ := Option.isSome_iff_exists.mp h.top
  obtain ⟨r, hr⟩ := State.topJava?_eq_some.mp hg0
  have hr' : (({ U with heap := s₂.heap, slotsUsed := s₂.slotsUsed } : State).setVm s₂.vm).frames = .java g₀ :: r := hr
  rcases hq' with ⟨hqc, L, hfe, hL⟩ | ⟨q, rfl, E, ce, L, hx, hce, hcv, hcl, hW₂, hsm, hL⟩
  · obtain ⟨⟨v, rfl⟩, hW₂, e2, q2, q3, q4, q5, q6⟩ := id hfe
    have e3 : s₂ = ({ (U.calling g mk a).setFrames s₂.frames with heap := s₂.heap, slotsUsed := s₂.slotsUsed } : State).setVm s₂.vm := by
      have : s₂ = ({ s₂ with vm := (U.calling g mk a).vm } : State).setVm s₂.vm := rfl
      rw [e2] at this
      exact this
    obtain ⟨c₂, i₂, len₂, hc₂, hd₂, hf₂⟩ := hend
    have hW' : U.WarmedH s₂.vm := hW₂
    have hcc : c₂ = c := by
      have h1 : s₂.code? g.method = U.code? g.method := by
        rw [State.code?_eq, State.code?_eq, hW'.alike.method?]
      exact Option.some.inj (hc₂.symm.trans (h1.trans h.code))
    subst hcc
    have hlen : len₂ = len := by rw [hdg] at hd₂; cases hd₂; rfl
    subst hlen
    have hs₂ : s₂ = (({ U with heap := s₂.heap, slotsUsed := s₂.slotsUsed } : State).setVm s₂.vm).setTop { g with pc := g.pc + len₂, stack := v.toList ++ g.stack } := by
      refine e3.trans ?_
      rw [hf₂, State.calling_eq h.top, State.setFrames_setFrames, State.setTop_of_frames _ hr', hr]
      rfl
    have hsame : U.sameButNew ({ U with heap := s₂.heap, slotsUsed := s₂.slotsUsed } : State) L mc ms := by
      refine ⟨?_, q2, q3, q4, q5, q6⟩
      obtain ⟨t, ht, -⟩ := State.frames_cons hr
      show ({ U with heap := s₂.heap, slotsUsed := s₂.slotsUsed } : State) = { U.setFrames U.frames with heap := s₂.heap, slotsUsed := s₂.slotsUsed }
      rw [State.setFrames_self ht]
    subst hg
    refine Or.inl ⟨v, ⟨(({ U with heap := s₂.heap, slotsUsed := s₂.slotsUsed } : State).setVm s₂.vm), Ls ++ L, c0 + mc, s0 + ms⟩,
      ⟨X.admits, X.cas, X.clock, X.frames, X.room, X.hears, X.method, X.code, (X.here.setHeapUsed s₂.heap s₂.slotsUsed).setVm hW'.alike, X.tail, State.WarmedH.trans X.warmed hW', X.limits, X.bytes, X.same.trans (hsame.setVm s.vm)⟩,
      ⟨g, mk, s₂, L, rfl, rfl, hqc, rfl, hL, rfl, rfl⟩, ?_⟩
    show Steps p.tables e below _ ((({ U with heap := s₂.heap, slotsUsed := s₂.slotsUsed } : State).setVm s₂.vm).setTop { g with pc := g.pc + len₂, stack := v.toList ++ g.stack })
    rw [← hs₂]
    exact hsteps
  · obtain ⟨e2, q2, q3, q4, q5, q6⟩ := id hsm
    have e3 : s₂ = ({ (U.calling g mk a).setFrames s₂.frames with heap := s₂.heap, slotsUsed := s₂.slotsUsed } : State).setVm s₂.vm := by
      have : s₂ = ({ s₂ with vm := (U.calling g mk a).vm } : State).setVm s₂.vm := rfl
      rw [e2] at this
      exact this
    have hf₂ : s₂.frames = .throwing q :: .java g :: U.frames.tail := hend
    have hW' : U.WarmedH s₂.vm := hW₂
    have hs₂ : s₂ = ((({ U with heap := s₂.heap, slotsUsed := s₂.slotsUsed } : State).setVm s₂.vm).setTop g).pushFrame (.throwing q) := by
      refine e3.trans ?_
      rw [hf₂, State.calling_eq h.top, State.setFrames_setFrames, State.pushFrame, State.frames_setTop _ hr', State.setTop_of_frames _ hr', State.setFrames_setFrames, hr]
      rfl
    have hsame : U.sameButNew ({ U with heap := s₂.heap, slotsUsed := s₂.slotsUsed } : State) L mc ms := by
      refine ⟨?_, q2, q3, q4, q5, q6⟩
      obtain ⟨t, ht, -⟩ := State.frames_cons hr
      show ({ U with heap := s₂.heap, slotsUsed := s₂.slotsUsed } : State) = { U.setFrames U.frames with heap := s₂.heap, slotsUsed := s₂.slotsUsed }
      rw [State.setFrames_self ht]
    subst hg
    refine Or.inr ⟨q, ⟨(({ U with heap := s₂.heap, slotsUsed := s₂.slotsUsed } : State).setVm s₂.vm), Ls ++ L, c0 + mc, s0 + ms⟩,
      ⟨X.admits, X.cas, X.clock, X.frames, X.room, X.hears, X.method, X.code, (X.here.setHeapUsed s₂.heap s₂.slotsUsed).setVm hW'.alike, X.tail, State.WarmedH.trans X.warmed hW', X.limits, X.bytes, X.same.trans (hsame.setVm s.vm)⟩,
      ⟨g, mk, s₂, L, E, ce, rfl, rfl, hx, hce, hcv, hcl, rfl, hL, rfl, rfl⟩, ?_⟩
    show Steps p.tables e below _ (((({ U with heap := s₂.heap, slotsUsed := s₂.slotsUsed } : State).setVm s₂.vm).setTop g).pushFrame (.throwing q))
    rw [← hs₂]
    exact hsteps
end
variable {p : Program} {l : Launch} {e : Env} {R : Room} {s : State} {m : MethodId} {args : Array Value} {below : List Frame} {meth : Method} {c : Code} {T : State} {H : Heap} {locs : List Loc} {cells slots : Nat}
theorem vx_callVX (X : Stand p l e R s m args below meth c T locs cells slots) (hexec : p.tables.exec = Jvm.exec) {own C : String} {index : Nat} {y : MethodName} {bytes : ByteArray} {maxL : Nat} {ret : Option FieldType} {hh : List (Nat × Nat × Nat × Nat)}
    (hown : s.vm.findClass own = some m.cls) (hlink : (Cond.methodLink own index y).before args s = true) (hinst : (Cond.instanceMethod y).before args s = true) (hsel : (Cond.selects C y y).before args s = true)
    (hcode : (Cond.codeWith y bytes maxL ret hh).before args s = true) (hy : y.cls ≠ "java/lang/invoke/MethodHandle" ∧ y.cls ≠ "java/lang/invoke/VarHandle")
    {W9 : Nat} {Pre : Pt → Array Value → Prop} {Post : Pt → Array Value → Option Value → Pt → Prop} {PostX : Pt → Array Value → Addr → Pt → Prop} (hK : vx_Back l R p e below s args y 3 W9 Pre Post PostX)
    {b : Addr} {cellB : Cell} (hcell : T.heap[b]? = some cellB) (hobj : cellB.vm.isStatics = false) (hcls : s.vm.findClass C = some cellB.cls)
    {g : JFrame} (hg : g.method = m) (hsize : g.locals.size = c.maxLocals) {argsL rest : List Value} (hlen : ∀ sig, parseMethodDescriptor y.desc = some sig → argsL.length = sig.parameters.length)
    (hstack : g.stack = argsL.reverse ++ .ref b :: rest) (hW : 2 * g.monitorRoom + (rest.map fun v => v.category).sum ≤ W9) (hdg : decode c.code g.pc = .ok (.invokevirtual index, 3))
    (hpre : ∀ vm₁, s.WarmedH vm₁ → Pre ⟨T.setVm vm₁, locs, cells, slots⟩ (Value.ref b :: argsL).toArray) :
    (∃ (v : Option Value) (vm₁ : Vm) (B : Pt), s.WarmedH vm₁ ∧ Stand p l e R s m args below meth c B.U B.locs B.cells B.slots ∧ Post ⟨T.setVm vm₁, locs, cells, slots⟩ (Value.ref b :: argsL).toArray v B ∧
      ∀ target, Steps p.tables e below (B.U.setTop { g with pc := g.pc + 3, stack := v.toList ++ rest }) target → Steps p.tables e below (T.setTop g) target) ∨
    (∃ (q : Addr) (vm₁ : Vm) (B : Pt), s.WarmedH vm₁ ∧ Stand p l e R s m args below meth c B.U B.locs B.cells B.slots ∧ PostX ⟨T.setVm vm₁, locs, cells, slots⟩ (Value.ref b :: argsL).toArray q B ∧
      Steps p.tables e below (T.setTop g) ((B.U.setTop { g with stack := rest }).pushFrame (.throwing q))) := by
  obtain ⟨mk, methM, hnamed, hmethM, hstM, habM⟩ := Cond.instanceMethod_spec hinst
  obtain ⟨m8, methM', cM, hn8, hmethM', -, -, -, -, -, -, hsigM⟩ := Cond.codeWith_spec hcode
  cases Option.some.inj (hn8.symm.trans hnamed)
  cases hmethM.symm.trans hmethM'
  obtain ⟨c2, r2, m2, q1, q2, q3, q4, kP, hkP, hkPi⟩ := Cond.selects_spec hsel
  cases hcls.symm.trans q1
  cases (State.methodFound?_of_named hnamed hy).symm.trans q2
  cases hnamed.symm.trans q3
  have hselP : selectMethod e.platform s.vm cellB.cls mk = .method mk := by rw [Launch.admits_selectMethod X.admits]; exact q4
  obtain ⟨vm₁, X₁, hstep₁⟩ := X.invokevirtual hexec hown hlink hnamed hmethM hstM hkP hkPi hy (a := b) (cell := cellB) hcell
    (fun z h => by rw [h] at hobj; cases hobj) hselP hmethM habM hkP hkPi (g := g) hg (argsL := argsL) (rest := rest) (hlen _ hsigM) hstack hdg
  rcases hK m meth c ⟨T.setVm vm₁, locs, cells, slots⟩ { g with stack := rest } (.invokevirtual index) mk (Value.ref b :: argsL).toArray X₁ hg hsize hdg hW (X₁.named hnamed) (hpre vm₁ X₁.warmed) with ⟨v, B, X', hpost, hsteps⟩ | ⟨q, B, X', hpost, hsteps⟩
  · exact Or.inl ⟨v, vm₁, B, X₁.warmed, X', hpost, fun target h => hstep₁ _ fun acts => by rw [doInvoke_state]; exact hsteps.trans h⟩
  · exact Or.inr ⟨q, vm₁, B, X₁.warmed, X', hpost, hstep₁ _ fun acts => by rw [doInvoke_state]; exact hsteps⟩
theorem vx_callSX (X : Stand p l e R s m args below meth c T locs cells slots) (hexec : p.tables.exec = Jvm.exec) {own : String} {index : Nat} {y : MethodName} {bytes : ByteArray} {maxL : Nat} {ret : Option FieldType} {hh : List (Nat × Nat × Nat × Nat)}
    (hown : s.vm.findClass own = some m.cls) (hlink : (Cond.methodLink own index y).before args s = true) (hstat : (Cond.static y).before args s = true) (hinit : (Cond.initialized y.cls).before args s = true)
    (hcode : (Cond.codeWith y bytes maxL ret hh).before args s = true) (hy : y.cls ≠ "java/lang/invoke/MethodHandle" ∧ y.cls ≠ "java/lang/invoke/VarHandle")
    {W9 : Nat} {Pre : Pt → Array Value → Prop} {Post : Pt → Array Value → Option Value → Pt → Prop} {PostX : Pt → Array Value → Addr → Pt → Prop} (hK : vx_Back l R p e below s args y 3 W9 Pre Post PostX)
    {g : JFrame} (hg : g.method = m) (hsize : g.locals.size = c.maxLocals) {argsL rest : List Value} (hlen : ∀ sig, parseMethodDescriptor y.desc = some sig → argsL.length = sig.parameters.length)
    (hstack : g.stack = argsL.reverse ++ rest) (hW : 2 * g.monitorRoom + (rest.map fun v => v.category).sum ≤ W9) (hdg : decode c.code g.pc = .ok (.invokestatic index, 3))
    (hpre : ∀ vm₁, s.WarmedH vm₁ → Pre ⟨T.setVm vm₁, locs, cells, slots⟩ argsL.toArray) :
    (∃ (v : Option Value) (vm₁ : Vm) (B : Pt), s.WarmedH vm₁ ∧ Stand p l e R s m args below meth c B.U B.locs B.cells B.slots ∧ Post ⟨T.setVm vm₁, locs, cells, slots⟩ argsL.toArray v B ∧
      ∀ target, Steps p.tables e below (B.U.setTop { g with pc := g.pc + 3, stack := v.toList ++ rest }) target → Steps p.tables e below (T.setTop g) target) ∨
    (∃ (q : Addr) (vm₁ : Vm) (B : Pt), s.WarmedH vm₁ ∧ Stand p l e R s m args below meth c B.U B.locs B.cells B.slots ∧ PostX ⟨T.setVm vm₁, locs, cells, slots⟩ argsL.toArray q B ∧
      Steps p.tables e below (T.setTop g) ((B.U.setTop { g with stack := rest }).pushFrame (.throwing q))) := by
  obtain ⟨mk, methM, cM, hnamed, hmethM, -, -, -, -, -, -, hsigM⟩ := Cond.codeWith_spec hcode
  have hstatic : methM.isStatic = true := Cond.static_spec hnamed hmethM hstat
  obtain ⟨kP, hkP, -⟩ := className_of_methodNamed hnamed
  have hinitP : kP.init = .initialized := Cond.initialized_spec (findClass_of_methodNamed hnamed) hkP hinit
  obtain ⟨vm₁, X₁, hstep₁⟩ := X.invokestatic hexec hown hlink hnamed hmethM hstatic hkP hinitP hy (g := g) hg (argsL := argsL) (rest := rest) (hlen _ hsigM) hstack hdg
  rcases hK m meth c ⟨T.setVm vm₁, locs, cells, slots⟩ { g with stack := rest } (.invokestatic index) mk argsL.toArray X₁ hg hsize hdg hW (X₁.named hnamed) (hpre vm₁ X₁.warmed) with ⟨v, B, X', hpost, hsteps⟩ | ⟨q, B, X', hpost, hsteps⟩
  · exact Or.inl ⟨v, vm₁, B, X₁.warmed, X', hpost, fun target h => hstep₁ _ fun acts => by rw [doInvoke_state]; exact hsteps.trans h⟩
  · exact Or.inr ⟨q, vm₁, B, X₁.warmed, X', hpost, hstep₁ _ fun acts => by rw [doInvoke_state]; exact hsteps⟩
theorem vx_callVW (X : Stand p l e R s m args below meth c T locs cells slots) (hexec : p.tables.exec = Jvm.exec) {own C : String} {index : Nat} {y : MethodName} {bytes : ByteArray} {maxL : Nat} {ret : Option FieldType} {hh : List (Nat × Nat × Nat × Nat)}
    (hown : s.vm.findClass own = some m.cls) (hlink : (Cond.methodLink own index y).before args s = true) (hinst : (Cond.instanceMethod y).before args s = true) (hsel : (Cond.selects C y y).before args s = true)
    (hcode : (Cond.codeWith y bytes maxL ret hh).before args s = true) (hy : y.cls ≠ "java/lang/invoke/MethodHandle" ∧ y.cls ≠ "java/lang/invoke/VarHandle")
    {W9 : Nat} {Pre : Pt → Array Value → Prop} {Post : Pt → Array Value → Option Value → Pt → Prop} (hK : Back l R p e below s args y 3 W9 Pre Post)
    {b : Addr} {cellB : Cell} (hcell : T.heap[b]? = some cellB) (hobj : cellB.vm.isStatics = false) (hcls : s.vm.findClass C = some cellB.cls)
    {g : JFrame} (hg : g.method = m) (hsize : g.locals.size = c.maxLocals) {argsL rest : List Value} (hlen : ∀ sig, parseMethodDescriptor y.desc = some sig → argsL.length = sig.parameters.length)
    (hstack : g.stack = argsL.reverse ++ .ref b :: rest) (hW : 2 * g.monitorRoom + (rest.map fun v => v.category).sum ≤ W9) (hdg : decode c.code g.pc = .ok (.invokevirtual index, 3))
    (hpre : ∀ vm₁, s.WarmedH vm₁ → Pre ⟨T.setVm vm₁, locs, cells, slots⟩ (Value.ref b :: argsL).toArray) :
    ∃ (v : Option Value) (vm₁ : Vm) (B : Pt), s.WarmedH vm₁ ∧ Stand p l e R s m args below meth c B.U B.locs B.cells B.slots ∧ Post ⟨T.setVm vm₁, locs, cells, slots⟩ (Value.ref b :: argsL).toArray v B ∧
      ∀ target, Steps p.tables e below (B.U.setTop { g with pc := g.pc + 3, stack := v.toList ++ rest }) target → Steps p.tables e below (T.setTop g) target := by
  obtain ⟨mk, methM, hnamed, hmethM, hstM, habM⟩ := Cond.instanceMethod_spec hinst
  obtain ⟨m8, methM', cM, hn8, hmethM', -, -, -, -, -, -, hsigM⟩ := Cond.codeWith_spec hcode
  cases Option.some.inj (hn8.symm.trans hnamed)
  cases hmethM.symm.trans hmethM'
  obtain ⟨c2, r2, m2, q1, q2, q3, q4, kP, hkP, hkPi⟩ := Cond.selects_spec hsel
  cases hcls.symm.trans q1
  cases (State.methodFound?_of_named hnamed hy).symm.trans q2
  cases hnamed.symm.trans q3
  have hselP : selectMethod e.platform s.vm cellB.cls mk = .method mk := by rw [Launch.admits_selectMethod X.admits]; exact q4
  obtain ⟨vm₁, X₁, hstep₁⟩ := X.invokevirtual hexec hown hlink hnamed hmethM hstM hkP hkPi hy (a := b) (cell := cellB) hcell
    (fun z h => by rw [h] at hobj; cases hobj) hselP hmethM habM hkP hkPi (g := g) hg (argsL := argsL) (rest := rest) (hlen _ hsigM) hstack hdg
  obtain ⟨v, B, X', hpost, hsteps⟩ := hK m meth c ⟨T.setVm vm₁, locs, cells, slots⟩ { g with stack := rest } (.invokevirtual index) mk (Value.ref b :: argsL).toArray X₁ hg hsize hdg hW (X₁.named hnamed) (hpre vm₁ X₁.warmed)
  exact ⟨v, vm₁, B, X₁.warmed, X', hpost, fun target h => hstep₁ _ fun acts => by rw [doInvoke_state]; exact hsteps.trans h⟩
abbrev vx_CVW (R : Room) (s : State) (args : Array Value) (own C : String) (index : Nat) (y : MethodName) (bytes : ByteArray) (maxL : Nat) (ret : Option FieldType) (hh : List (Nat × Nat × Nat × Nat)) (ws : List Cond) (rm : Room) (mc ms n : Nat) : Prop :=
  (rm.cells = mc ∧ rm.slots = ms ∧ rm.frames + 1 ≤ R.frames ∧ 8 + (maxL + 11) + rm.locals ≤ R.locals ∧ (∀ w ∈ ws, ∀ (a' : Array Value) (U : State), s.WarmedH U.vm → w.before a' U = true) ∧ Cond.codeWith y bytes maxL ret hh ∈ ws) ∧
  (Cond.codeWith y bytes maxL ret hh).before args s = true ∧ (Cond.initialized y.cls).before args s = true ∧ (y.cls ≠ "java/lang/invoke/MethodHandle" ∧ y.cls ≠ "java/lang/invoke/VarHandle") ∧
  (∀ sig, parseMethodDescriptor y.desc = some sig → n = sig.parameters.length) ∧ (Cond.methodLink own index y).before args s = true ∧ (Cond.instanceMethod y).before args s = true ∧ (Cond.selects C y y).before args s = true
theorem vx_cwVW {own C : String} {index maxL mc ms : Nat} {y : MethodName} {bytes : ByteArray} {ret : Option FieldType} {hh : List (Nat × Nat × Nat × Nat)} {Ts ws ws' : List Cond} {rm : Room} (n : Nat) (ht : ∀ w ∈ Ts, w.before args s = true) (hT : GoodIn Ts (wsV own index C y ws)) (hw : ws = Cond.codeWith y bytes maxL ret hh :: ws') (hrc : rm.cells = mc) (hrs : rm.slots = ms)
    (hd : y.cls = C ∧ y.cls ≠ "java/lang/invoke/MethodHandle" ∧ y.cls ≠ "java/lang/invoke/VarHandle" ∧ (parseMethodDescriptor y.desc).map (fun d => d.parameters.length) = some n) (hR : rm.frames + 1 ≤ R.frames ∧ 8 + (maxL + 11) + rm.locals ≤ R.locals) :
    vx_CVW R s args own C index y bytes maxL ret hh ws rm mc ms n := by
  obtain ⟨hC, hd⟩ := hd
  subst hC
  have ok : ∀ w ∈ wsV own index y.cls y ws, w.before args s = true := fun w h => ht w (hT w h).1
  have hG : GoodIn Ts ws := fun w h => hT w (by unfold wsV; exact List.mem_append_right _ h)
  have hc : Cond.codeWith y bytes maxL ret hh ∈ ws := by rw [hw]; exact List.mem_cons_self
  refine ⟨⟨hrc, hrs, hR.1, hR.2, pay_in ht hG, hc⟩, ht _ (hG _ hc).1, ok _ (by simp [wsV]), ⟨hd.1, hd.2.1⟩, fun sig h => ?_, ok _ (by simp [wsV]), ok _ (by simp [wsV]), ok _ (by simp [wsV])⟩
  have h2 := hd.2.2
  rw [h] at h2
  exact (Option.some.inj h2).symm
theorem vx_runVW {y : MethodName} {bytes cc : ByteArray} {maxL nL mc ms n index : Nat} {ret : Option FieldType} {hh : List (Nat × Nat × Nat × Nat)} {ws : List Cond} {rm : Room} {Pc : Array Value → State → Prop} {Qc : Array Value → State → Outcome → State → Prop} {free : Addr → Prop} {Ts : List Cond} {own C : String} {b : Addr} {As rest : List Value} {g : JFrame}
    (S : CallFix p m c cc nL s args Ts own) (hM : Met l y ws rm Pc Qc mc ms free) (cw : vx_CVW R s args own C index y bytes maxL ret hh ws rm mc ms n) (hp : PreV s H C b Pc As)
    (hg : g.method = m) (hn : As.length = n) (hsize : g.locals.size = nL) (hstack : g.stack = As.reverse ++ .ref b :: rest) (hW : 2 * g.monitorRoom + (rest.map fun v => v.category).sum ≤ 8) (hdg : decode cc g.pc = .ok (.invokevirtual index, 3)) (hf : cells + mc ≤ R.cells ∧ slots + ms ≤ R.slots) :
    va_Run p l e R s m args below meth c H locs cells slots mc ms g rest (Qc (Value.ref b :: As).toArray) free := by
  obtain ⟨⟨hrc, hrs, hfr, hlo, hws, hcw⟩, hcode, hini, hy, hlen, hl, hin, hse⟩ := cw
  have hK : Back l R p e below s args y 3 8 (PreOf R mc ms Pc) (PostOf Qc mc ms free) := va_backW (hh := hh) (bytes := bytes) (maxL := maxL) (ret := ret) hM hp.1 hrc hrs hfr hlo hws hcw (fun a' U hW => word_at hW (Or.inl (by first | rfl | simp [Cond.onTables, Cond.keeps, Cond.steady])) hini)
  obtain ⟨hx, hb, hml, ho, -⟩ := S
  obtain ⟨-, ⟨cellB, hcB, hoB, hclB⟩, hPc⟩ := hp
  intro T hT X
  obtain ⟨v, vm₁, ⟨U', l2, c2, s2⟩, hW₁, X', ⟨g', mk, t, L, e1, e2, hq, h1, hL, h2, h3⟩, st⟩ := vx_callVW X hx (C := C) (hh := hh) (bytes := bytes) (maxL := maxL) (ret := ret) ho hl hin hse hcode hy hK (by rw [hT]; exact hcB) hoB hclB hg (hsize.trans hml.symm) (argsL := As) (rest := rest) (fun sig h => hn.trans (hlen sig h)) hstack hW (by rw [hb]; exact hdg)
    (fun vm₁ hW₁ => ⟨hf.1, hf.2, hPc (T.setVm vm₁) hT hW₁⟩)
  dsimp only [Pt.U, Pt.locs, Pt.cells, Pt.slots] at X' e1 e2 h1 h2 h3 st
  subst h1; subst h2; subst h3
  exact ⟨v, (T.setVm vm₁).calling g' mk (Value.ref b :: As).toArray, t, U', L, hT, X', hL, e1, e2, hq, st⟩
section
variable {y : MethodName} {bytes cc : ByteArray} {maxL nL mc ms n index : Nat} {ret : Option FieldType} {ws : List Cond} {rm : Room} {Pc : Array Value → State → Prop} {Qc : Array Value → State → Outcome → State → Prop} {XC : String → State → State → Prop} {free : Addr → Prop} {Ts : List Cond} {own C : String} {b : Addr} {As rest : List Value} {g : JFrame}
theorem vx_runVX {hh : List (Nat × Nat × Nat × Nat)} (S : CallFix p m c cc nL s args Ts own) (hM : vx_Met l y ws rm Pc Qc XC mc ms free) (cw : vx_CVW R s args own C index y bytes maxL ret hh ws rm mc ms n) (hp : PreV s H C b Pc As)
    (hg : g.method = m) (hn : As.length = n) (hsize : g.locals.size = nL) (hstack : g.stack = As.reverse ++ .ref b :: rest) (hW : 2 * g.monitorRoom + (rest.map fun v => v.category).sum ≤ 8) (hdg : decode cc g.pc = .ok (.invokevirtual index, 3)) (hf : cells + mc ≤ R.cells ∧ slots + ms ≤ R.slots) :
    vx_Run p l e R s m args below meth c H locs cells slots mc ms g rest (Qc (Value.ref b :: As).toArray) XC free := by
  obtain ⟨⟨hrc, hrs, hfr, hlo, hws, hcw⟩, hcode, hini, hy, hlen, hl, hin, hse⟩ := cw
  have hK : vx_Back l R p e below s args y 3 8 (PreOf R mc ms Pc) (PostOf Qc mc ms free) (vx_Post XC mc ms free) := vx_backW (hh := hh) (bytes := bytes) (maxL := maxL) (ret := ret) hM hp.1 hrc hrs hfr hlo hws hcw (fun a' U hW => word_at hW (Or.inl (by first | rfl | simp [Cond.onTables, Cond.keeps, Cond.steady])) hini)
  obtain ⟨hx, hb, hml, ho, -⟩ := S
  obtain ⟨-, ⟨cellB, hcB, hoB, hclB⟩, hPc⟩ := hp
  intro T hT X
  rcases vx_callVX X hx (C := C) (hh := hh) (bytes := bytes) (maxL := maxL) (ret := ret) ho hl hin hse hcode hy hK (by rw [hT]; exact hcB) hoB hclB hg (hsize.trans hml.symm) (argsL := As) (rest := rest) (fun sig h => hn.trans (hlen sig h)) hstack hW (by rw [hb]; exact hdg)
    (fun vm₁ hW₁ => ⟨hf.1, hf.2, hPc (T.setVm vm₁) hT hW₁⟩) with ⟨v, vm₁, ⟨U', l2, c2, s2⟩, hW₁, X', ⟨g', mk, t, L, e1, e2, hq, h1, hL, h2, h3⟩, st⟩ | ⟨q, vm₁, ⟨U', l2, c2, s2⟩, hW₁, X', ⟨g', mk, t, L, E, ce, e1, e2, hq, hce, hcv, hcl, h1, hL, h2, h3⟩, st⟩
  · dsimp only [Pt.U, Pt.locs, Pt.cells, Pt.slots] at X' e1 e2 h1 h2 h3 st
    subst h1; subst h2; subst h3
    exact Or.inl ⟨v, (T.setVm vm₁).calling g' mk (Value.ref b :: As).toArray, t, U', L, hT, X', hL, e1, e2, hq, st⟩
  · dsimp only [Pt.U, Pt.locs, Pt.cells, Pt.slots] at X' e1 e2 h1 h2 h3 st hcl
    subst h1; subst h2; subst h3
    exact Or.inr ⟨q, (T.setVm vm₁).calling g' mk (Value.ref b :: As).toArray, t, U', L, E, ce, hT, X', hL, e1, e2, hq, hce, hcv, vx_cls hW₁ hcl, st⟩
theorem vx_runSX {hh : List (Nat × Nat × Nat × Nat)} (S : CallFix p m c cc nL s args Ts own) (hM : vx_Met l y ws rm Pc Qc XC mc ms free) (cw : vx_CSW R s args own index y bytes maxL ret hh ws rm mc ms n) (hp : PreS s H Pc As)
    (hg : g.method = m) (hn : As.length = n) (hsize : g.locals.size = nL) (hstack : g.stack = As.reverse ++ rest) (hW : 2 * g.monitorRoom + (rest.map fun v => v.category).sum ≤ 8) (hdg : decode cc g.pc = .ok (.invokestatic index, 3)) (hf : cells + mc ≤ R.cells ∧ slots + ms ≤ R.slots) :
    vx_Run p l e R s m args below meth c H locs cells slots mc ms g rest (Qc As.toArray) XC free := by
  obtain ⟨⟨hrc, hrs, hfr, hlo, hws, hcw⟩, hcode, hini, hy, hlen, hl, hstt⟩ := cw
  have hK : vx_Back l R p e below s args y 3 8 (PreOf R mc ms Pc) (PostOf Qc mc ms free) (vx_Post XC mc ms free) := vx_backW (hh := hh) (bytes := bytes) (maxL := maxL) (ret := ret) hM hp.1 hrc hrs hfr hlo hws hcw (fun a' U hW => word_at hW (Or.inl (by first | rfl | simp [Cond.onTables, Cond.keeps, Cond.steady])) hini)
  obtain ⟨hx, hb, hml, ho, -⟩ := S
  intro T hT X
  rcases vx_callSX X hx (hh := hh) (bytes := bytes) (maxL := maxL) (ret := ret) ho hl hstt hini hcode hy hK hg (hsize.trans hml.symm) (argsL := As) (rest := rest) (fun sig h => hn.trans (hlen sig h)) hstack hW (by rw [hb]; exact hdg)
    (fun vm₁ hW₁ => ⟨hf.1, hf.2, hp.2 (T.setVm vm₁) hT hW₁⟩) with ⟨v, vm₁, ⟨U', l2, c2, s2⟩, hW₁, X', ⟨g', mk, t, L, e1, e2, hq, h1, hL, h2, h3⟩, st⟩ | ⟨q, vm₁, ⟨U', l2, c2, s2⟩, hW₁, X', ⟨g', mk, t, L, E, ce, e1, e2, hq, hce, hcv, hcl, h1, hL, h2, h3⟩, st⟩
  · dsimp only [Pt.U, Pt.locs, Pt.cells, Pt.slots] at X' e1 e2 h1 h2 h3 st
    subst h1; subst h2; subst h3
    exact Or.inl ⟨v, (T.setVm vm₁).calling g' mk As.toArray, t, U', L, hT, X', hL, e1, e2, hq, st⟩
  · dsimp only [Pt.U, Pt.locs, Pt.cells, Pt.slots] at X' e1 e2 h1 h2 h3 st hcl
    subst h1; subst h2; subst h3
    exact Or.inr ⟨q, (T.setVm vm₁).calling g' mk As.toArray, t, U', L, E, ce, hT, X', hL, e1, e2, hq, hce, hcv, vx_cls hW₁ hcl, st⟩
end
end VXH
theorem vx_ofWH {l : Launch} {y : MethodName} {ws ws' : List Cond} {rm : Room} {Pc : Array Value → State → Prop} {Qc : Array Value → State → Outcome → State → Prop} {XC : String → State → State → Prop} {mc ms : Nat} {free : Addr → Prop} {cc : ByteArray} {maxL : Nat} {ret : Option FieldType} {hh : List (Nat × Nat × Nat × Nat)}
    (hy : plainName y.cls = true) (hw : ws = Cond.codeWith y cc maxL ret hh :: ws')
    (body : ∀ p e s m args below meth c s₁, BodyLoose p l y (headSpec ws rm) cc maxL ret e s m args below meth c s₁ → c.maxLocals = maxL → Pc args s →
      W p l e (headSpec ws rm).room s m args below meth c s.heap [] 0 0 (vx_MQ below Qc XC args s mc ms free) (entryFrame m args maxL)) : vx_Met l y ws rm Pc Qc XC mc ms free := by
  refine MetFree.of_bodyS (code := cc) (maxLocals := maxL) (ret := ret) hy ?_ ?_
  · intro args s m h hn
    obtain ⟨m9, meth, c, hn9, h1, h2, h3, h4, -, h5, h6, -⟩ := Cond.codeWith_spec (atoms_spec (ws := ws) h _ (by rw [hw]; exact List.mem_cons_self))
    cases hn.symm.trans hn9
    exact ⟨meth, c, h1, h2, h3, h4, h5, h6⟩
  · intro p e s m args below meth c s₁ B hml hP _
    have hh0 : s₁.heap = s.heap := by rw [B.state]; rfl
    obtain ⟨t, a1, o, b1, b2, b3⟩ := body p e s m args below meth c s₁ B hml hP s₁ hh0 (Stand.of_body B)
    exact ⟨t, o, a1, b1, b2, b3⟩
/-! ===== END ===== -/
end
section
/-! names of classes, fields and methods (from the printed names) -/
def RX0 : String := "BondOffice$Clause"
def TX0 : u_T := fun k => match k with
  | 0 => ("BondOffice$Clause", "kind", "LBondOffice$Kind;", true)
  | 1 => ("BondOffice$Clause", "first", "I", true)
  | _ => ("BondOffice$Clause", "second", "I", true)
def tyX0 : Nat → FieldType := fun k => match k with
  | 0 => .object "BondOffice$Kind"
  | 1 => .int
  | _ => .int
theorem nmX0 : ∀ a, a < 3 → ∀ b, b < 3 → a ≠ b → (TX0 a).2.1 ≠ (TX0 b).2.1 := by decide +kernel
theorem tyX0_ok : ∀ k, k < 3 → parseFieldDescriptor (TX0 k).2.2.1 = some (tyX0 k) := by decide +kernel
abbrev cX0_init : ByteArray := prog_2_method_1_code
def yX0_init : MethodName := ⟨RX0, "<init>", "(LBondOffice$Kind;II)V"⟩
abbrev cX0_fundFor : ByteArray := prog_2_method_2_code
def yX0_fundFor : MethodName := ⟨RX0, "fundFor", "(J)J"⟩
abbrev cX0_prizesFrom : ByteArray := prog_2_method_3_code
def yX0_prizesFrom : MethodName := ⟨RX0, "prizesFrom", "(J)J"⟩
def RX1 : String := "BondOffice$Draw"
def TX1 : u_T := fun k => match k with
  | 0 => ("BondOffice$Draw", "day", "I", true)
  | 1 => ("BondOffice$Draw", "ruleNumber", "I", true)
  | 2 => ("BondOffice$Draw", "m", "I", true)
  | 3 => ("BondOffice$Draw", "start", "J", false)
  | 4 => ("BondOffice$Draw", "step", "J", false)
  | 5 => ("BondOffice$Draw", "fund", "J", false)
  | 6 => ("BondOffice$Draw", "winCount", "I", false)
  | 7 => ("BondOffice$Draw", "firstWin", "I", false)
  | _ => ("BondOffice$Draw", "left", "J", false)
def tyX1 : Nat → FieldType := fun k => match k with
  | 0 => .int
  | 1 => .int
  | 2 => .int
  | 3 => .long
  | 4 => .long
  | 5 => .long
  | 6 => .int
  | 7 => .int
  | _ => .long
theorem nmX1 : ∀ a, a < 9 → ∀ b, b < 9 → a ≠ b → (TX1 a).2.1 ≠ (TX1 b).2.1 := by decide +kernel
theorem tyX1_ok : ∀ k, k < 9 → parseFieldDescriptor (TX1 k).2.2.1 = some (tyX1 k) := by decide +kernel
abbrev cX1_init : ByteArray := prog_3_method_1_code
def yX1_init : MethodName := ⟨RX1, "<init>", "(III)V"⟩
abbrev cX1_placeOf : ByteArray := prog_3_method_2_code
def yX1_placeOf : MethodName := ⟨RX1, "placeOf", "(I)I"⟩
abbrev cX1_fact : ByteArray := prog_3_method_3_code
def yX1_fact : MethodName := ⟨RX1, "fact", "(I)J"⟩
def RX2 : String := "BondOffice$Holder"
def TX2 : u_T := fun k => match k with
  | 0 => ("BondOffice$Holder", "gone", "Z", false)
  | _ => ("BondOffice$Holder", "claimedSum", "J", false)
def tyX2 : Nat → FieldType := fun k => match k with
  | 0 => .boolean
  | _ => .long
theorem nmX2 : ∀ a, a < 2 → ∀ b, b < 2 → a ≠ b → (TX2 a).2.1 ≠ (TX2 b).2.1 := by decide +kernel
theorem tyX2_ok : ∀ k, k < 2 → parseFieldDescriptor (TX2 k).2.2.1 = some (tyX2 k) := by decide +kernel
abbrev cX2_init : ByteArray := prog_4_method_1_code
def yX2_init : MethodName := ⟨RX2, "<init>", "()V"⟩
def RX3 : String := "BondOffice$Kind"
def TX3 : u_T := fun k => match k with
  | _ => ("", "", "", false)
def tyX3 : Nat → FieldType := fun k => match k with
  | _ => .int
theorem nmX3 : ∀ a, a < 0 → ∀ b, b < 0 → a ≠ b → (TX3 a).2.1 ≠ (TX3 b).2.1 := by decide +kernel
theorem tyX3_ok : ∀ k, k < 0 → parseFieldDescriptor (TX3 k).2.2.1 = some (tyX3 k) := by decide +kernel
abbrev cX3_hasSecond : ByteArray := prog_5_method_4_code
def yX3_hasSecond : MethodName := ⟨RX3, "hasSecond", "()Z"⟩
def RX4 : String := "BondOffice$Ledger"
def TX4 : u_T := fun k => match k with
  | 0 => ("BondOffice$Ledger", "lines", "Ljava/util/ArrayList;", true)
  | 1 => ("BondOffice$Ledger", "going", "Ljava/util/ArrayList;", true)
  | _ => ("BondOffice$Ledger", "sold", "I", false)
def tyX4 : Nat → FieldType := fun k => match k with
  | 0 => .object "java/util/ArrayList"
  | 1 => .object "java/util/ArrayList"
  | _ => .int
theorem nmX4 : ∀ a, a < 3 → ∀ b, b < 3 → a ≠ b → (TX4 a).2.1 ≠ (TX4 b).2.1 := by decide +kernel
theorem tyX4_ok : ∀ k, k < 3 → parseFieldDescriptor (TX4 k).2.2.1 = some (tyX4 k) := by decide +kernel
abbrev cX4_init : ByteArray := prog_6_method_1_code
def yX4_init : MethodName := ⟨RX4, "<init>", "()V"⟩
abbrev cX4_sell : ByteArray := prog_6_method_2_code
def yX4_sell : MethodName := ⟨RX4, "sell", "(III)I"⟩
abbrev cX4_pass : ByteArray := prog_6_method_3_code
def yX4_pass : MethodName := ⟨RX4, "pass", "(IIIII)I"⟩
abbrev cX4_inherit : ByteArray := prog_6_method_4_code
def yX4_inherit : MethodName := ⟨RX4, "inherit", "(III)I"⟩
abbrev cX4_holderOn : ByteArray := prog_6_method_5_code
def yX4_holderOn : MethodName := ⟨RX4, "holderOn", "(II)I"⟩
abbrev cX4_holderNow : ByteArray := prog_6_method_6_code
def yX4_holderNow : MethodName := ⟨RX4, "holderNow", "(I)I"⟩
abbrev cX4_bondsOf : ByteArray := prog_6_method_7_code
def yX4_bondsOf : MethodName := ⟨RX4, "bondsOf", "(I)I"⟩
abbrev cX4_bondsHeld : ByteArray := prog_6_method_8_code
def yX4_bondsHeld : MethodName := ⟨RX4, "bondsHeld", "()I"⟩
abbrev cX4_bondsSince : ByteArray := prog_6_method_9_code
def yX4_bondsSince : MethodName := ⟨RX4, "bondsSince", "(I)I"⟩
abbrev cX4_bondAt : ByteArray := prog_6_method_10_code
def yX4_bondAt : MethodName := ⟨RX4, "bondAt", "(II)I"⟩
abbrev cX4_begin : ByteArray := prog_6_method_11_code
def yX4_begin : MethodName := ⟨RX4, "begin", "(IIII)LBondOffice$Line;"⟩
abbrev cX4_ownsAll : ByteArray := prog_6_method_12_code
def yX4_ownsAll : MethodName := ⟨RX4, "ownsAll", "(III)Z"⟩
abbrev cX4_linesMadeByPassing : ByteArray := prog_6_method_13_code
def yX4_linesMadeByPassing : MethodName := ⟨RX4, "linesMadeByPassing", "(III)I"⟩
abbrev cX4_passOne : ByteArray := prog_6_method_14_code
def yX4_passOne : MethodName := ⟨RX4, "passOne", "(LBondOffice$Line;IIII)V"⟩
abbrev cX4_placeAmongGoing : ByteArray := prog_6_method_15_code
def yX4_placeAmongGoing : MethodName := ⟨RX4, "placeAmongGoing", "(I)I"⟩
abbrev cX4_replaceAmongGoing : ByteArray := prog_6_method_16_code
def yX4_replaceAmongGoing : MethodName := ⟨RX4, "replaceAmongGoing", "(ILBondOffice$Line;LBondOffice$Line;LBondOffice$Line;)V"⟩
def RX5 : String := "BondOffice$Line"
def TX5 : u_T := fun k => match k with
  | 0 => ("BondOffice$Line", "first", "I", true)
  | 1 => ("BondOffice$Line", "last", "I", true)
  | 2 => ("BondOffice$Line", "holder", "I", true)
  | 3 => ("BondOffice$Line", "since", "I", true)
  | _ => ("BondOffice$Line", "ended", "I", false)
def tyX5 : Nat → FieldType := fun k => match k with
  | 0 => .int
  | 1 => .int
  | 2 => .int
  | 3 => .int
  | _ => .int
theorem nmX5 : ∀ a, a < 5 → ∀ b, b < 5 → a ≠ b → (TX5 a).2.1 ≠ (TX5 b).2.1 := by decide +kernel
theorem tyX5_ok : ∀ k, k < 5 → parseFieldDescriptor (TX5 k).2.2.1 = some (tyX5 k) := by decide +kernel
abbrev cX5_init : ByteArray := prog_7_method_1_code
def yX5_init : MethodName := ⟨RX5, "<init>", "(IIII)V"⟩
abbrev cX5_size : ByteArray := prog_7_method_2_code
def yX5_size : MethodName := ⟨RX5, "size", "()I"⟩
abbrev cX5_goesOn : ByteArray := prog_7_method_3_code
def yX5_goesOn : MethodName := ⟨RX5, "goesOn", "()Z"⟩
abbrev cX5_isInForceOn : ByteArray := prog_7_method_4_code
def yX5_isInForceOn : MethodName := ⟨RX5, "isInForceOn", "(I)Z"⟩
abbrev cX5_contains : ByteArray := prog_7_method_5_code
def yX5_contains : MethodName := ⟨RX5, "contains", "(I)Z"⟩
abbrev cX5_common : ByteArray := prog_7_method_6_code
def yX5_common : MethodName := ⟨RX5, "common", "(II)I"⟩
abbrev cX5_fact : ByteArray := prog_7_method_7_code
def yX5_fact : MethodName := ⟨RX5, "fact", "(I)I"⟩
def RX6 : String := "BondOffice$Rule"
def TX6 : u_T := fun k => match k with
  | 0 => ("BondOffice$Rule", "from", "I", true)
  | _ => ("BondOffice$Rule", "clauses", "Ljava/util/ArrayList;", true)
def tyX6 : Nat → FieldType := fun k => match k with
  | 0 => .int
  | _ => .object "java/util/ArrayList"
theorem nmX6 : ∀ a, a < 2 → ∀ b, b < 2 → a ≠ b → (TX6 a).2.1 ≠ (TX6 b).2.1 := by decide +kernel
theorem tyX6_ok : ∀ k, k < 2 → parseFieldDescriptor (TX6 k).2.2.1 = some (tyX6 k) := by decide +kernel
abbrev cX6_init : ByteArray := prog_8_method_1_code
def yX6_init : MethodName := ⟨RX6, "<init>", "(I)V"⟩
abbrev cX6_daysNeeded : ByteArray := prog_8_method_2_code
def yX6_daysNeeded : MethodName := ⟨RX6, "daysNeeded", "()I"⟩
abbrev cX6_fundFor : ByteArray := prog_8_method_3_code
def yX6_fundFor : MethodName := ⟨RX6, "fundFor", "(J)J"⟩
def RX7 : String := "BondOffice$RuleReader"
def TX7 : u_T := fun k => match k with
  | 0 => ("BondOffice$RuleReader", "text", "[B", true)
  | 1 => ("BondOffice$RuleReader", "length", "I", true)
  | 2 => ("BondOffice$RuleReader", "place", "I", false)
  | 3 => ("BondOffice$RuleReader", "faultKind", "I", false)
  | _ => ("BondOffice$RuleReader", "faultPlace", "I", false)
def tyX7 : Nat → FieldType := fun k => match k with
  | 0 => .array .byte
  | 1 => .int
  | 2 => .int
  | 3 => .int
  | _ => .int
theorem nmX7 : ∀ a, a < 5 → ∀ b, b < 5 → a ≠ b → (TX7 a).2.1 ≠ (TX7 b).2.1 := by decide +kernel
theorem tyX7_ok : ∀ k, k < 5 → parseFieldDescriptor (TX7 k).2.2.1 = some (tyX7 k) := by decide +kernel
abbrev cX7_init : ByteArray := prog_9_method_1_code
def yX7_init : MethodName := ⟨RX7, "<init>", "([BI)V"⟩
abbrev cX7_readInto : ByteArray := prog_9_method_2_code
def yX7_readInto : MethodName := ⟨RX7, "readInto", "(LBondOffice$Rule;)V"⟩
abbrev cX7_readClause : ByteArray := prog_9_method_3_code
def yX7_readClause : MethodName := ⟨RX7, "readClause", "(LBondOffice$Rule;)V"⟩
abbrev cX7_readKind : ByteArray := prog_9_method_4_code
def yX7_readKind : MethodName := ⟨RX7, "readKind", "()LBondOffice$Kind;"⟩
abbrev cX7_readNumber : ByteArray := prog_9_method_5_code
def yX7_readNumber : MethodName := ⟨RX7, "readNumber", "(II)I"⟩
abbrev cX7_expect : ByteArray := prog_9_method_6_code
def yX7_expect : MethodName := ⟨RX7, "expect", "(Ljava/lang/String;)V"⟩
abbrev cX7_blame : ByteArray := prog_9_method_7_code
def yX7_blame : MethodName := ⟨RX7, "blame", "(II)V"⟩
abbrev cX7_skipBlanks : ByteArray := prog_9_method_8_code
def yX7_skipBlanks : MethodName := ⟨RX7, "skipBlanks", "()V"⟩
abbrev cX7_endOfToken : ByteArray := prog_9_method_9_code
def yX7_endOfToken : MethodName := ⟨RX7, "endOfToken", "(I)I"⟩
abbrev cX7_isToken : ByteArray := prog_9_method_10_code
def yX7_isToken : MethodName := ⟨RX7, "isToken", "(IILjava/lang/String;)Z"⟩
abbrev cX7_byteAt : ByteArray := prog_9_method_11_code
def yX7_byteAt : MethodName := ⟨RX7, "byteAt", "(I)I"⟩
abbrev cX7_isDigit : ByteArray := prog_9_method_12_code
def yX7_isDigit : MethodName := ⟨RX7, "isDigit", "(I)Z"⟩
abbrev cX7_isLetter : ByteArray := prog_9_method_13_code
def yX7_isLetter : MethodName := ⟨RX7, "isLetter", "(I)Z"⟩
def RX8 : String := "BondOffice$Win"
def TX8 : u_T := fun k => match k with
  | 0 => ("BondOffice$Win", "drawNumber", "I", true)
  | 1 => ("BondOffice$Win", "drawDay", "I", true)
  | 2 => ("BondOffice$Win", "bond", "I", true)
  | 3 => ("BondOffice$Win", "holder", "I", false)
  | 4 => ("BondOffice$Win", "prize", "I", true)
  | _ => ("BondOffice$Win", "state", "I", false)
def tyX8 : Nat → FieldType := fun k => match k with
  | 0 => .int
  | 1 => .int
  | 2 => .int
  | 3 => .int
  | 4 => .int
  | _ => .int
theorem nmX8 : ∀ a, a < 6 → ∀ b, b < 6 → a ≠ b → (TX8 a).2.1 ≠ (TX8 b).2.1 := by decide +kernel
theorem tyX8_ok : ∀ k, k < 6 → parseFieldDescriptor (TX8 k).2.2.1 = some (tyX8 k) := by decide +kernel
abbrev cX8_init : ByteArray := prog_10_method_1_code
def yX8_init : MethodName := ⟨RX8, "<init>", "(IIIII)V"⟩
abbrev cX8_isTooOld : ByteArray := prog_10_method_2_code
def yX8_isTooOld : MethodName := ⟨RX8, "isTooOld", "(I)Z"⟩
abbrev cX8_fact : ByteArray := prog_10_method_3_code
def yX8_fact : MethodName := ⟨RX8, "fact", "(I)I"⟩
def RX9 : String := "BondOffice"
def TX9 : u_T := fun k => match k with
  | 0 => ("BondOffice", "holders", "Ljava/util/ArrayList;", true)
  | 1 => ("BondOffice", "ledger", "LBondOffice$Ledger;", true)
  | 2 => ("BondOffice", "tape", "[B", true)
  | 3 => ("BondOffice", "tapeSize", "I", false)
  | 4 => ("BondOffice", "rules", "Ljava/util/ArrayList;", true)
  | 5 => ("BondOffice", "faultPlace", "I", false)
  | 6 => ("BondOffice", "noises", "[I", true)
  | 7 => ("BondOffice", "noiseSize", "I", false)
  | 8 => ("BondOffice", "draws", "Ljava/util/ArrayList;", true)
  | 9 => ("BondOffice", "wins", "Ljava/util/ArrayList;", true)
  | 10 => ("BondOffice", "carriedSum", "J", false)
  | _ => ("BondOffice", "today", "I", false)
def tyX9 : Nat → FieldType := fun k => match k with
  | 0 => .object "java/util/ArrayList"
  | 1 => .object "BondOffice$Ledger"
  | 2 => .array .byte
  | 3 => .int
  | 4 => .object "java/util/ArrayList"
  | 5 => .int
  | 6 => .array .int
  | 7 => .int
  | 8 => .object "java/util/ArrayList"
  | 9 => .object "java/util/ArrayList"
  | 10 => .long
  | _ => .int
theorem nmX9 : ∀ a, a < 12 → ∀ b, b < 12 → a ≠ b → (TX9 a).2.1 ≠ (TX9 b).2.1 := by decide +kernel
theorem tyX9_ok : ∀ k, k < 12 → parseFieldDescriptor (TX9 k).2.2.1 = some (tyX9 k) := by decide +kernel
abbrev cX9_init : ByteArray := prog_1_method_1_code
def yX9_init : MethodName := ⟨RX9, "<init>", "()V"⟩
abbrev cX9_holder : ByteArray := prog_1_method_2_code
def yX9_holder : MethodName := ⟨RX9, "holder", "()I"⟩
abbrev cX9_buy : ByteArray := prog_1_method_3_code
def yX9_buy : MethodName := ⟨RX9, "buy", "(II)I"⟩
abbrev cX9_give : ByteArray := prog_1_method_4_code
def yX9_give : MethodName := ⟨RX9, "give", "(IIII)I"⟩
abbrev cX9_cash : ByteArray := prog_1_method_5_code
def yX9_cash : MethodName := ⟨RX9, "cash", "(III)I"⟩
abbrev cX9_died : ByteArray := prog_1_method_6_code
def yX9_died : MethodName := ⟨RX9, "died", "(II)I"⟩
abbrev cX9_held : ByteArray := prog_1_method_7_code
def yX9_held : MethodName := ⟨RX9, "held", "(II)I"⟩
abbrev cX9_has : ByteArray := prog_1_method_8_code
def yX9_has : MethodName := ⟨RX9, "has", "(I)I"⟩
abbrev cX9_line : ByteArray := prog_1_method_9_code
def yX9_line : MethodName := ⟨RX9, "line", "(II)I"⟩
abbrev cX9_wait : ByteArray := prog_1_method_10_code
def yX9_wait : MethodName := ⟨RX9, "wait", "(I)I"⟩
abbrev cX9_feed : ByteArray := prog_1_method_11_code
def yX9_feed : MethodName := ⟨RX9, "feed", "(IIIII)I"⟩
abbrev cX9_rule : ByteArray := prog_1_method_12_code
def yX9_rule : MethodName := ⟨RX9, "rule", "(II)I"⟩
abbrev cX9_fault : ByteArray := prog_1_method_13_code
def yX9_fault : MethodName := ⟨RX9, "fault", "()I"⟩
abbrev cX9_force : ByteArray := prog_1_method_14_code
def yX9_force : MethodName := ⟨RX9, "force", "(I)I"⟩
abbrev cX9_noise : ByteArray := prog_1_method_15_code
def yX9_noise : MethodName := ⟨RX9, "noise", "(I)I"⟩
abbrev cX9_draw : ByteArray := prog_1_method_16_code
def yX9_draw : MethodName := ⟨RX9, "draw", "()I"⟩
abbrev cX9_drawn : ByteArray := prog_1_method_17_code
def yX9_drawn : MethodName := ⟨RX9, "drawn", "(II)J"⟩
abbrev cX9_win : ByteArray := prog_1_method_18_code
def yX9_win : MethodName := ⟨RX9, "win", "(II)I"⟩
abbrev cX9_claim : ByteArray := prog_1_method_19_code
def yX9_claim : MethodName := ⟨RX9, "claim", "(I)I"⟩
abbrev cX9_paid : ByteArray := prog_1_method_20_code
def yX9_paid : MethodName := ⟨RX9, "paid", "(I)J"⟩
abbrev cX9_carried : ByteArray := prog_1_method_21_code
def yX9_carried : MethodName := ⟨RX9, "carried", "()J"⟩
abbrev cX9_count : ByteArray := prog_1_method_22_code
def yX9_count : MethodName := ⟨RX9, "count", "(I)I"⟩
abbrev cX9_checkHolder : ByteArray := prog_1_method_23_code
def yX9_checkHolder : MethodName := ⟨RX9, "checkHolder", "(I)V"⟩
abbrev cX9_checkAlive : ByteArray := prog_1_method_24_code
def yX9_checkAlive : MethodName := ⟨RX9, "checkAlive", "(I)V"⟩
abbrev cX9_checkPair : ByteArray := prog_1_method_25_code
def yX9_checkPair : MethodName := ⟨RX9, "checkPair", "(II)V"⟩
abbrev cX9_checkWin : ByteArray := prog_1_method_26_code
def yX9_checkWin : MethodName := ⟨RX9, "checkWin", "(I)V"⟩
abbrev cX9_payOut : ByteArray := prog_1_method_27_code
def yX9_payOut : MethodName := ⟨RX9, "payOut", "(II)V"⟩
abbrev cX9_putOnTape : ByteArray := prog_1_method_28_code
def yX9_putOnTape : MethodName := ⟨RX9, "putOnTape", "(I)V"⟩
abbrev cX9_openWins : ByteArray := prog_1_method_29_code
def yX9_openWins : MethodName := ⟨RX9, "openWins", "()I"⟩
abbrev cX9_lapseOldWins : ByteArray := prog_1_method_30_code
def yX9_lapseOldWins : MethodName := ⟨RX9, "lapseOldWins", "()V"⟩
abbrev cX9_mixNoise : ByteArray := prog_1_method_31_code
def yX9_mixNoise : MethodName := ⟨RX9, "mixNoise", "(II)J"⟩
abbrev cX9_nextWithoutDivisor : ByteArray := prog_1_method_32_code
def yX9_nextWithoutDivisor : MethodName := ⟨RX9, "nextWithoutDivisor", "(JI)J"⟩
abbrev cX9_greatestDivisor : ByteArray := prog_1_method_33_code
def yX9_greatestDivisor : MethodName := ⟨RX9, "greatestDivisor", "(JJ)J"⟩
abbrev cX9_cutBy : ByteArray := prog_1_method_34_code
def yX9_cutBy : MethodName := ⟨RX9, "cutBy", "(JJ)J"⟩
abbrev cX9_awardPrizes : ByteArray := prog_1_method_35_code
def yX9_awardPrizes : MethodName := ⟨RX9, "awardPrizes", "(LBondOffice$Draw;LBondOffice$Rule;I)V"⟩
abbrev cX9_awardPrize : ByteArray := prog_1_method_36_code
def yX9_awardPrize : MethodName := ⟨RX9, "awardPrize", "(LBondOffice$Draw;II)V"⟩
def RX10 : String := "BondOfficeModel"
def TX10 : u_T := fun k => match k with
  | 0 => ("BondOfficeModel", "thrown", "I", false)
  | 1 => ("BondOfficeModel", "holders", "I", false)
  | 2 => ("BondOfficeModel", "today", "I", false)
  | 3 => ("BondOfficeModel", "sold", "I", false)
  | 4 => ("BondOfficeModel", "isDead", "[Z", true)
  | 5 => ("BondOfficeModel", "paidTo", "[J", true)
  | 6 => ("BondOfficeModel", "first", "[I", true)
  | 7 => ("BondOfficeModel", "last", "[I", true)
  | 8 => ("BondOfficeModel", "whose", "[I", true)
  | 9 => ("BondOfficeModel", "since", "[I", true)
  | 10 => ("BondOfficeModel", "ended", "[I", true)
  | 11 => ("BondOfficeModel", "lines", "I", false)
  | 12 => ("BondOfficeModel", "tape", "[B", true)
  | 13 => ("BondOfficeModel", "taped", "I", false)
  | 14 => ("BondOfficeModel", "size", "I", false)
  | 15 => ("BondOfficeModel", "at", "I", false)
  | 16 => ("BondOfficeModel", "fault", "I", false)
  | 17 => ("BondOfficeModel", "place", "I", false)
  | 18 => ("BondOfficeModel", "ruleDay", "[I", true)
  | 19 => ("BondOfficeModel", "clauses", "[I", true)
  | 20 => ("BondOfficeModel", "sort", "[I", true)
  | 21 => ("BondOfficeModel", "one", "[I", true)
  | 22 => ("BondOfficeModel", "two", "[I", true)
  | 23 => ("BondOfficeModel", "rules", "I", false)
  | 24 => ("BondOfficeModel", "noise", "[I", true)
  | 25 => ("BondOfficeModel", "noises", "I", false)
  | 26 => ("BondOfficeModel", "draws", "[J", true)
  | 27 => ("BondOfficeModel", "drawMany", "I", false)
  | 28 => ("BondOfficeModel", "winDraw", "[I", true)
  | 29 => ("BondOfficeModel", "winBond", "[I", true)
  | 30 => ("BondOfficeModel", "winner", "[I", true)
  | 31 => ("BondOfficeModel", "prize", "[I", true)
  | 32 => ("BondOfficeModel", "winState", "[I", true)
  | 33 => ("BondOfficeModel", "wins", "I", false)
  | 34 => ("BondOfficeModel", "carry", "J", false)
  | 35 => ("BondOfficeModel", "may", "[I", true)
  | _ => ("BondOfficeModel", "mays", "I", false)
def tyX10 : Nat → FieldType := fun k => match k with
  | 0 => .int
  | 1 => .int
  | 2 => .int
  | 3 => .int
  | 4 => .array .boolean
  | 5 => .array .long
  | 6 => .array .int
  | 7 => .array .int
  | 8 => .array .int
  | 9 => .array .int
  | 10 => .array .int
  | 11 => .int
  | 12 => .array .byte
  | 13 => .int
  | 14 => .int
  | 15 => .int
  | 16 => .int
  | 17 => .int
  | 18 => .array .int
  | 19 => .array .int
  | 20 => .array .int
  | 21 => .array .int
  | 22 => .array .int
  | 23 => .int
  | 24 => .array .int
  | 25 => .int
  | 26 => .array .long
  | 27 => .int
  | 28 => .array .int
  | 29 => .array .int
  | 30 => .array .int
  | 31 => .array .int
  | 32 => .array .int
  | 33 => .int
  | 34 => .long
  | 35 => .array .int
  | _ => .int
theorem nmX10 : ∀ a, a < 37 → ∀ b, b < 37 → a ≠ b → (TX10 a).2.1 ≠ (TX10 b).2.1 := by decide +kernel
theorem tyX10_ok : ∀ k, k < 37 → parseFieldDescriptor (TX10 k).2.2.1 = some (tyX10 k) := by decide +kernel
abbrev cX10_init : ByteArray := prog_12_method_1_code
def yX10_init : MethodName := ⟨RX10, "<init>", "()V"⟩
abbrev cX10_thrown : ByteArray := prog_12_method_2_code
def yX10_thrown : MethodName := ⟨RX10, "thrown", "()I"⟩
abbrev cX10_bad : ByteArray := prog_12_method_3_code
def yX10_bad : MethodName := ⟨RX10, "bad", "(ZI)Z"⟩
abbrev cX10_holder : ByteArray := prog_12_method_4_code
def yX10_holder : MethodName := ⟨RX10, "holder", "()I"⟩
abbrev cX10_isHolder : ByteArray := prog_12_method_5_code
def yX10_isHolder : MethodName := ⟨RX10, "isHolder", "(I)Z"⟩
abbrev cX10_adds : ByteArray := prog_12_method_6_code
def yX10_adds : MethodName := ⟨RX10, "adds", "(IIII)V"⟩
abbrev cX10_buy : ByteArray := prog_12_method_7_code
def yX10_buy : MethodName := ⟨RX10, "buy", "(II)I"⟩
abbrev cX10_goesOn : ByteArray := prog_12_method_8_code
def yX10_goesOn : MethodName := ⟨RX10, "goesOn", "(II)Z"⟩
abbrev cX10_hasOf : ByteArray := prog_12_method_9_code
def yX10_hasOf : MethodName := ⟨RX10, "hasOf", "(III)J"⟩
abbrev cX10_goes : ByteArray := prog_12_method_10_code
def yX10_goes : MethodName := ⟨RX10, "goes", "(IIII)I"⟩
abbrev cX10_give : ByteArray := prog_12_method_11_code
def yX10_give : MethodName := ⟨RX10, "give", "(IIII)I"⟩
abbrev cX10_cash : ByteArray := prog_12_method_12_code
def yX10_cash : MethodName := ⟨RX10, "cash", "(III)I"⟩
abbrev cX10_died : ByteArray := prog_12_method_13_code
def yX10_died : MethodName := ⟨RX10, "died", "(II)I"⟩
abbrev cX10_held : ByteArray := prog_12_method_14_code
def yX10_held : MethodName := ⟨RX10, "held", "(II)I"⟩
abbrev cX10_has : ByteArray := prog_12_method_15_code
def yX10_has : MethodName := ⟨RX10, "has", "(I)I"⟩
abbrev cX10_line : ByteArray := prog_12_method_16_code
def yX10_line : MethodName := ⟨RX10, "line", "(II)I"⟩
abbrev cX10_wait : ByteArray := prog_12_method_17_code
def yX10_wait : MethodName := ⟨RX10, "wait", "(I)I"⟩
abbrev cX10_feed : ByteArray := prog_12_method_18_code
def yX10_feed : MethodName := ⟨RX10, "feed", "(IIIII)I"⟩
abbrev cX10_byteAt : ByteArray := prog_12_method_19_code
def yX10_byteAt : MethodName := ⟨RX10, "byteAt", "(I)I"⟩
abbrev cX10_blanks : ByteArray := prog_12_method_20_code
def yX10_blanks : MethodName := ⟨RX10, "blanks", "()V"⟩
abbrev cX10_isSmall : ByteArray := prog_12_method_21_code
def yX10_isSmall : MethodName := ⟨RX10, "isSmall", "(I)Z"⟩
abbrev cX10_isDigit : ByteArray := prog_12_method_22_code
def yX10_isDigit : MethodName := ⟨RX10, "isDigit", "(I)Z"⟩
abbrev cX10_wrong : ByteArray := prog_12_method_23_code
def yX10_wrong : MethodName := ⟨RX10, "wrong", "(II)V"⟩
abbrev cX10_isWord : ByteArray := prog_12_method_24_code
def yX10_isWord : MethodName := ⟨RX10, "isWord", "(Ljava/lang/String;)Z"⟩
abbrev cX10_need : ByteArray := prog_12_method_25_code
def yX10_need : MethodName := ⟨RX10, "need", "(Ljava/lang/String;)V"⟩
abbrev cX10_number : ByteArray := prog_12_method_26_code
def yX10_number : MethodName := ⟨RX10, "number", "(II)I"⟩
abbrev cX10_sign : ByteArray := prog_12_method_27_code
def yX10_sign : MethodName := ⟨RX10, "sign", "(I)V"⟩
abbrev cX10_clause : ByteArray := prog_12_method_28_code
def yX10_clause : MethodName := ⟨RX10, "clause", "(I)V"⟩
abbrev cX10_rule : ByteArray := prog_12_method_29_code
def yX10_rule : MethodName := ⟨RX10, "rule", "(II)I"⟩
abbrev cX10_fault : ByteArray := prog_12_method_30_code
def yX10_fault : MethodName := ⟨RX10, "fault", "()I"⟩
abbrev cX10_forceOf : ByteArray := prog_12_method_31_code
def yX10_forceOf : MethodName := ⟨RX10, "forceOf", "(I)I"⟩
abbrev cX10_force : ByteArray := prog_12_method_32_code
def yX10_force : MethodName := ⟨RX10, "force", "(I)I"⟩
abbrev cX10_noise : ByteArray := prog_12_method_33_code
def yX10_noise : MethodName := ⟨RX10, "noise", "(I)I"⟩
abbrev cX10_mix : ByteArray := prog_12_method_34_code
def yX10_mix : MethodName := ⟨RX10, "mix", "(JJ)J"⟩
abbrev cX10_common : ByteArray := prog_12_method_35_code
def yX10_common : MethodName := ⟨RX10, "common", "(JJ)J"⟩
abbrev cX10_sorts : ByteArray := prog_12_method_36_code
def yX10_sorts : MethodName := ⟨RX10, "sorts", "(I)J"⟩
abbrev cX10_draw : ByteArray := prog_12_method_37_code
def yX10_draw : MethodName := ⟨RX10, "draw", "()I"⟩
abbrev cX10_winsAt : ByteArray := prog_12_method_38_code
def yX10_winsAt : MethodName := ⟨RX10, "winsAt", "(JI)V"⟩
abbrev cX10_drawn : ByteArray := prog_12_method_39_code
def yX10_drawn : MethodName := ⟨RX10, "drawn", "(II)J"⟩
abbrev cX10_isWin : ByteArray := prog_12_method_40_code
def yX10_isWin : MethodName := ⟨RX10, "isWin", "(I)Z"⟩
abbrev cX10_win : ByteArray := prog_12_method_41_code
def yX10_win : MethodName := ⟨RX10, "win", "(II)I"⟩
abbrev cX10_claim : ByteArray := prog_12_method_42_code
def yX10_claim : MethodName := ⟨RX10, "claim", "(I)I"⟩
abbrev cX10_paid : ByteArray := prog_12_method_43_code
def yX10_paid : MethodName := ⟨RX10, "paid", "(I)J"⟩
abbrev cX10_carried : ByteArray := prog_12_method_44_code
def yX10_carried : MethodName := ⟨RX10, "carried", "()J"⟩
abbrev cX10_heldNow : ByteArray := prog_12_method_45_code
def yX10_heldNow : MethodName := ⟨RX10, "heldNow", "()J"⟩
abbrev cX10_count : ByteArray := prog_12_method_46_code
def yX10_count : MethodName := ⟨RX10, "count", "(I)I"⟩
def RJx145de : String := "java/io/Serializable"
def TJx145de : u_T := fun k => match k with
  | _ => ("", "", "", false)
def tyJx145de : Nat → FieldType := fun k => match k with
  | _ => .int
theorem nmJx145de : ∀ a, a < 0 → ∀ b, b < 0 → a ≠ b → (TJx145de a).2.1 ≠ (TJx145de b).2.1 := by decide +kernel
theorem tyJx145de_ok : ∀ k, k < 0 → parseFieldDescriptor (TJx145de k).2.2.1 = some (tyJx145de k) := by decide +kernel
def RJ5 : String := "java/lang/AbstractStringBuilder"
def TJ5 : u_T := fun k => match k with
  | _ => ("", "", "", false)
def tyJ5 : Nat → FieldType := fun k => match k with
  | _ => .int
theorem nmJ5 : ∀ a, a < 0 → ∀ b, b < 0 → a ≠ b → (TJ5 a).2.1 ≠ (TJ5 b).2.1 := by decide +kernel
theorem tyJ5_ok : ∀ k, k < 0 → parseFieldDescriptor (TJ5 k).2.2.1 = some (tyJ5 k) := by decide +kernel
abbrev cJ5_init_d00df : ByteArray := prog_14_method_2_code
def yJ5_init_d00df : MethodName := ⟨RJ5, "<init>", "(I)V"⟩
abbrev cJ5_length_8abf5 : ByteArray := prog_14_method_6_code
def yJ5_length_8abf5 : MethodName := ⟨RJ5, "length", "()I"⟩
abbrev cJ5_ensureCapacityInternal_d00df : ByteArray := prog_14_method_9_code
def yJ5_ensureCapacityInternal_d00df : MethodName := ⟨RJ5, "ensureCapacityInternal", "(I)V"⟩
abbrev cJ5_newCapacity_0f7a4 : ByteArray := prog_14_method_10_code
def yJ5_newCapacity_0f7a4 : MethodName := ⟨RJ5, "newCapacity", "(I)I"⟩
abbrev cJ5_inflate_da8c8 : ByteArray := prog_14_method_11_code
def yJ5_inflate_da8c8 : MethodName := ⟨RJ5, "inflate", "()V"⟩
abbrev cJ5_append_cf1ce : ByteArray := prog_14_method_22_code
def yJ5_append_cf1ce : MethodName := ⟨RJ5, "append", "(Ljava/lang/String;)Ljava/lang/AbstractStringBuilder;"⟩
abbrev cJ5_appendNull_278bc : ByteArray := prog_14_method_26_code
def yJ5_appendNull_278bc : MethodName := ⟨RJ5, "appendNull", "()Ljava/lang/AbstractStringBuilder;"⟩
abbrev cJ5_append_c97b9 : ByteArray := prog_14_method_32_code
def yJ5_append_c97b9 : MethodName := ⟨RJ5, "append", "(I)Ljava/lang/AbstractStringBuilder;"⟩
abbrev cJ5_getValue_6d5f1 : ByteArray := prog_14_method_64_code
def yJ5_getValue_6d5f1 : MethodName := ⟨RJ5, "getValue", "()[B"⟩
abbrev cJ5_isLatin1_aae02 : ByteArray := prog_14_method_68_code
def yJ5_isLatin1_aae02 : MethodName := ⟨RJ5, "isLatin1", "()Z"⟩
abbrev cJ5_inflateIfNeededFor_a7421 : ByteArray := prog_14_method_71_code
def yJ5_inflateIfNeededFor_a7421 : MethodName := ⟨RJ5, "inflateIfNeededFor", "(Ljava/lang/String;)V"⟩
abbrev cJ5_putStringAt_47b60 : ByteArray := prog_14_method_73_code
def yJ5_putStringAt_47b60 : MethodName := ⟨RJ5, "putStringAt", "(ILjava/lang/String;)V"⟩
def RJx8e188 : String := "java/lang/Cloneable"
def TJx8e188 : u_T := fun k => match k with
  | _ => ("", "", "", false)
def tyJx8e188 : Nat → FieldType := fun k => match k with
  | _ => .int
theorem nmJx8e188 : ∀ a, a < 0 → ∀ b, b < 0 → a ≠ b → (TJx8e188 a).2.1 ≠ (TJx8e188 b).2.1 := by decide +kernel
theorem tyJx8e188_ok : ∀ k, k < 0 → parseFieldDescriptor (TJx8e188 k).2.2.1 = some (tyJx8e188 k) := by decide +kernel
def RJx29ce0 : String := "java/lang/Enum"
def TJx29ce0 : u_T := fun k => match k with
  | _ => ("", "", "", false)
def tyJx29ce0 : Nat → FieldType := fun k => match k with
  | _ => .int
theorem nmJx29ce0 : ∀ a, a < 0 → ∀ b, b < 0 → a ≠ b → (TJx29ce0 a).2.1 ≠ (TJx29ce0 b).2.1 := by decide +kernel
theorem tyJx29ce0_ok : ∀ k, k < 0 → parseFieldDescriptor (TJx29ce0 k).2.2.1 = some (tyJx29ce0 k) := by decide +kernel
def RJ6 : String := "java/lang/Integer"
def TJ6 : u_T := fun k => match k with
  | _ => ("", "", "", false)
def tyJ6 : Nat → FieldType := fun k => match k with
  | _ => .int
theorem nmJ6 : ∀ a, a < 0 → ∀ b, b < 0 → a ≠ b → (TJ6 a).2.1 ≠ (TJ6 b).2.1 := by decide +kernel
theorem tyJ6_ok : ∀ k, k < 0 → parseFieldDescriptor (TJ6 k).2.2.1 = some (tyJ6 k) := by decide +kernel
abbrev cJ6_getChars_ba4f3 : ByteArray := prog_21_method_12_code
def yJ6_getChars_ba4f3 : MethodName := ⟨RJ6, "getChars", "(II[B)I"⟩
abbrev cJ6_stringSize_0f7a4 : ByteArray := prog_21_method_13_code
def yJ6_stringSize_0f7a4 : MethodName := ⟨RJ6, "stringSize", "(I)I"⟩
def RJxab1ab : String := "java/lang/Iterable"
def TJxab1ab : u_T := fun k => match k with
  | _ => ("", "", "", false)
def tyJxab1ab : Nat → FieldType := fun k => match k with
  | _ => .int
theorem nmJxab1ab : ∀ a, a < 0 → ∀ b, b < 0 → a ≠ b → (TJxab1ab a).2.1 ≠ (TJxab1ab b).2.1 := by decide +kernel
theorem tyJxab1ab_ok : ∀ k, k < 0 → parseFieldDescriptor (TJxab1ab k).2.2.1 = some (tyJxab1ab k) := by decide +kernel
def RJ9 : String := "java/lang/Math"
def TJ9 : u_T := fun k => match k with
  | _ => ("", "", "", false)
def tyJ9 : Nat → FieldType := fun k => match k with
  | _ => .int
theorem nmJ9 : ∀ a, a < 0 → ∀ b, b < 0 → a ≠ b → (TJ9 a).2.1 ≠ (TJ9 b).2.1 := by decide +kernel
theorem tyJ9_ok : ∀ k, k < 0 → parseFieldDescriptor (TJ9 k).2.2.1 = some (tyJ9 k) := by decide +kernel
abbrev cJ9_max_7cf53 : ByteArray := prog_23_method_65_code
def yJ9_max_7cf53 : MethodName := ⟨RJ9, "max", "(II)I"⟩
abbrev cJ9_min_7cf53 : ByteArray := prog_23_method_69_code
def yJ9_min_7cf53 : MethodName := ⟨RJ9, "min", "(II)I"⟩
abbrev cJ9_min_f86c9 : ByteArray := prog_23_method_70_code
def yJ9_min_f86c9 : MethodName := ⟨RJ9, "min", "(JJ)J"⟩
def RJ0 : String := "java/lang/String"
def TJ0 : u_T := fun k => match k with
  | 0 => ("java/lang/String", "value", "[B", true)
  | 1 => ("java/lang/String", "coder", "B", true)
  | 2 => ("java/lang/String", "hash", "I", false)
  | _ => ("java/lang/String", "hashIsZero", "Z", false)
def tyJ0 : Nat → FieldType := fun k => match k with
  | 0 => .array .byte
  | 1 => .byte
  | 2 => .int
  | _ => .boolean
theorem nmJ0 : ∀ a, a < 4 → ∀ b, b < 4 → a ≠ b → (TJ0 a).2.1 ≠ (TJ0 b).2.1 := by decide +kernel
theorem tyJ0_ok : ∀ k, k < 4 → parseFieldDescriptor (TJ0 k).2.2.1 = some (tyJ0 k) := by decide +kernel
abbrev cJ0_init_81219 : ByteArray := prog_25_method_53_code
def yJ0_init_81219 : MethodName := ⟨RJ0, "<init>", "(Ljava/lang/StringBuilder;)V"⟩
abbrev cJ0_length_8abf5 : ByteArray := prog_25_method_54_code
def yJ0_length_8abf5 : MethodName := ⟨RJ0, "length", "()I"⟩
abbrev cJ0_isEmpty_aae02 : ByteArray := prog_25_method_55_code
def yJ0_isEmpty_aae02 : MethodName := ⟨RJ0, "isEmpty", "()Z"⟩
abbrev cJ0_charAt_5068e : ByteArray := prog_25_method_56_code
def yJ0_charAt_5068e : MethodName := ⟨RJ0, "charAt", "(I)C"⟩
abbrev cJ0_getBytes_840e7 : ByteArray := prog_25_method_147_code
def yJ0_getBytes_840e7 : MethodName := ⟨RJ0, "getBytes", "([BIB)V"⟩
abbrev cJ0_init_db425 : ByteArray := prog_25_method_150_code
def yJ0_init_db425 : MethodName := ⟨RJ0, "<init>", "(Ljava/lang/AbstractStringBuilder;Ljava/lang/Void;)V"⟩
abbrev cJ0_coder_7d493 : ByteArray := prog_25_method_152_code
def yJ0_coder_7d493 : MethodName := ⟨RJ0, "coder", "()B"⟩
abbrev cJ0_isLatin1_aae02 : ByteArray := prog_25_method_154_code
def yJ0_isLatin1_aae02 : MethodName := ⟨RJ0, "isLatin1", "()Z"⟩
abbrev cJ0_checkIndex_df160 : ByteArray := prog_25_method_155_code
def yJ0_checkIndex_df160 : MethodName := ⟨RJ0, "checkIndex", "(II)V"⟩
abbrev cJ0_checkBoundsOffCount_cabcc : ByteArray := prog_25_method_157_code
def yJ0_checkBoundsOffCount_cabcc : MethodName := ⟨RJ0, "checkBoundsOffCount", "(III)I"⟩
abbrev cJ0_checkBoundsBeginEnd_23922 : ByteArray := prog_25_method_158_code
def yJ0_checkBoundsBeginEnd_23922 : MethodName := ⟨RJ0, "checkBoundsBeginEnd", "(III)V"⟩
def RJ4 : String := "java/lang/StringBuilder"
def TJ4 : u_T := fun k => match k with
  | 0 => ("java/lang/AbstractStringBuilder", "value", "[B", false)
  | 1 => ("java/lang/AbstractStringBuilder", "coder", "B", false)
  | 2 => ("java/lang/AbstractStringBuilder", "maybeLatin1", "Z", false)
  | _ => ("java/lang/AbstractStringBuilder", "count", "I", false)
def tyJ4 : Nat → FieldType := fun k => match k with
  | 0 => .array .byte
  | 1 => .byte
  | 2 => .boolean
  | _ => .int
theorem nmJ4 : ∀ a, a < 4 → ∀ b, b < 4 → a ≠ b → (TJ4 a).2.1 ≠ (TJ4 b).2.1 := by decide +kernel
theorem tyJ4_ok : ∀ k, k < 4 → parseFieldDescriptor (TJ4 k).2.2.1 = some (tyJ4 k) := by decide +kernel
abbrev cJ4_init_da8c8 : ByteArray := prog_26_method_1_code
def yJ4_init_da8c8 : MethodName := ⟨RJ4, "<init>", "()V"⟩
abbrev cJ4_append_15ec4 : ByteArray := prog_26_method_7_code
def yJ4_append_15ec4 : MethodName := ⟨RJ4, "append", "(Ljava/lang/String;)Ljava/lang/StringBuilder;"⟩
abbrev cJ4_append_bf812 : ByteArray := prog_26_method_15_code
def yJ4_append_bf812 : MethodName := ⟨RJ4, "append", "(I)Ljava/lang/StringBuilder;"⟩
abbrev cJ4_toString_0e30d : ByteArray := prog_26_method_42_code
def yJ4_toString_0e30d : MethodName := ⟨RJ4, "toString", "()Ljava/lang/String;"⟩
abbrev cJ4_length_8abf5 : ByteArray := prog_26_method_93_code
def yJ4_length_8abf5 : MethodName := ⟨RJ4, "length", "()I"⟩
def RJ1 : String := "java/lang/StringLatin1"
def TJ1 : u_T := fun k => match k with
  | _ => ("", "", "", false)
def tyJ1 : Nat → FieldType := fun k => match k with
  | _ => .int
theorem nmJ1 : ∀ a, a < 0 → ∀ b, b < 0 → a ≠ b → (TJ1 a).2.1 ≠ (TJ1 b).2.1 := by decide +kernel
theorem tyJ1_ok : ∀ k, k < 0 → parseFieldDescriptor (TJ1 k).2.2.1 = some (tyJ1 k) := by decide +kernel
abbrev cJ1_charAt_3b067 : ByteArray := prog_27_method_2_code
def yJ1_charAt_3b067 : MethodName := ⟨RJ1, "charAt", "([BI)C"⟩
abbrev cJ1_inflate_0e8fd : ByteArray := prog_27_method_50_code
def yJ1_inflate_0e8fd : MethodName := ⟨RJ1, "inflate", "([BI[BII)V"⟩
def RJ2 : String := "java/lang/StringUTF16"
def TJ2 : u_T := fun k => match k with
  | _ => ("", "", "", false)
def tyJ2 : Nat → FieldType := fun k => match k with
  | _ => .int
theorem nmJ2 : ∀ a, a < 0 → ∀ b, b < 0 → a ≠ b → (TJ2 a).2.1 ≠ (TJ2 b).2.1 := by decide +kernel
theorem tyJ2_ok : ∀ k, k < 0 → parseFieldDescriptor (TJ2 k).2.2.1 = some (tyJ2 k) := by decide +kernel
abbrev cJ2_newBytesFor_77867 : ByteArray := prog_28_method_2_code
def yJ2_newBytesFor_77867 : MethodName := ⟨RJ2, "newBytesFor", "(I)[B"⟩
abbrev cJ2_newBytesLength_0f7a4 : ByteArray := prog_28_method_3_code
def yJ2_newBytesLength_0f7a4 : MethodName := ⟨RJ2, "newBytesLength", "(I)I"⟩
abbrev cJ2_putChar_b72d1 : ByteArray := prog_28_method_4_code
def yJ2_putChar_b72d1 : MethodName := ⟨RJ2, "putChar", "([BII)V"⟩
abbrev cJ2_getChar_3b067 : ByteArray := prog_28_method_5_code
def yJ2_getChar_3b067 : MethodName := ⟨RJ2, "getChar", "([BI)C"⟩
abbrev cJ2_length_9d52b : ByteArray := prog_28_method_6_code
def yJ2_length_9d52b : MethodName := ⟨RJ2, "length", "([B)I"⟩
abbrev cJ2_coderFromArrayLen_85cad : ByteArray := prog_28_method_15_code
def yJ2_coderFromArrayLen_85cad : MethodName := ⟨RJ2, "coderFromArrayLen", "([BI)B"⟩
abbrev cJ2_compress_39247 : ByteArray := prog_28_method_17_code
def yJ2_compress_39247 : MethodName := ⟨RJ2, "compress", "([BII)[B"⟩
abbrev cJ2_compress_5af95 : ByteArray := prog_28_method_22_code
def yJ2_compress_5af95 : MethodName := ⟨RJ2, "compress", "([BI[BII)I"⟩
abbrev cJ2_getChars_46870 : ByteArray := prog_28_method_77_code
def yJ2_getChars_46870 : MethodName := ⟨RJ2, "getChars", "(III[B)I"⟩
abbrev cJ2_putCharsAt_cd4e5 : ByteArray := prog_28_method_81_code
def yJ2_putCharsAt_cd4e5 : MethodName := ⟨RJ2, "putCharsAt", "([BICCCC)I"⟩
abbrev cJ2_charAt_3b067 : ByteArray := prog_28_method_83_code
def yJ2_charAt_3b067 : MethodName := ⟨RJ2, "charAt", "([BI)C"⟩
abbrev cJ2_inflate_0e8fd : ByteArray := prog_28_method_86_code
def yJ2_inflate_0e8fd : MethodName := ⟨RJ2, "inflate", "([BI[BII)V"⟩
abbrev cJ2_getChars_ba4f3 : ByteArray := prog_28_method_89_code
def yJ2_getChars_ba4f3 : MethodName := ⟨RJ2, "getChars", "(II[B)I"⟩
abbrev cJ2_checkIndex_2214a : ByteArray := prog_28_method_91_code
def yJ2_checkIndex_2214a : MethodName := ⟨RJ2, "checkIndex", "(I[B)V"⟩
abbrev cJ2_checkBoundsBeginEnd_d044e : ByteArray := prog_28_method_93_code
def yJ2_checkBoundsBeginEnd_d044e : MethodName := ⟨RJ2, "checkBoundsBeginEnd", "(II[B)V"⟩
abbrev cJ2_checkBoundsOffCount_d044e : ByteArray := prog_28_method_94_code
def yJ2_checkBoundsOffCount_d044e : MethodName := ⟨RJ2, "checkBoundsOffCount", "(II[B)V"⟩
def RJ10 : String := "java/lang/System"
def TJ10 : u_T := fun k => match k with
  | _ => ("", "", "", false)
def tyJ10 : Nat → FieldType := fun k => match k with
  | _ => .int
theorem nmJ10 : ∀ a, a < 0 → ∀ b, b < 0 → a ≠ b → (TJ10 a).2.1 ≠ (TJ10 b).2.1 := by decide +kernel
theorem tyJ10_ok : ∀ k, k < 0 → parseFieldDescriptor (TJ10 k).2.2.1 = some (tyJ10 k) := by decide +kernel
def RJxa1e45 : String := "java/util/AbstractCollection"
def TJxa1e45 : u_T := fun k => match k with
  | _ => ("", "", "", false)
def tyJxa1e45 : Nat → FieldType := fun k => match k with
  | _ => .int
theorem nmJxa1e45 : ∀ a, a < 0 → ∀ b, b < 0 → a ≠ b → (TJxa1e45 a).2.1 ≠ (TJxa1e45 b).2.1 := by decide +kernel
theorem tyJxa1e45_ok : ∀ k, k < 0 → parseFieldDescriptor (TJxa1e45 k).2.2.1 = some (tyJxa1e45 k) := by decide +kernel
abbrev cJxa1e45_init_da8c8 : ByteArray := prog_31_method_1_code
def yJxa1e45_init_da8c8 : MethodName := ⟨RJxa1e45, "<init>", "()V"⟩
def RJxc12de : String := "java/util/AbstractList"
def TJxc12de : u_T := fun k => match k with
  | _ => ("", "", "", false)
def tyJxc12de : Nat → FieldType := fun k => match k with
  | _ => .int
theorem nmJxc12de : ∀ a, a < 0 → ∀ b, b < 0 → a ≠ b → (TJxc12de a).2.1 ≠ (TJxc12de b).2.1 := by decide +kernel
theorem tyJxc12de_ok : ∀ k, k < 0 → parseFieldDescriptor (TJxc12de k).2.2.1 = some (tyJxc12de k) := by decide +kernel
abbrev cJxc12de_init_da8c8 : ByteArray := prog_32_method_1_code
def yJxc12de_init_da8c8 : MethodName := ⟨RJxc12de, "<init>", "()V"⟩
def RJx4a65c : String := "java/util/ArrayList"
def TJx4a65c : u_T := fun k => match k with
  | 0 => ("java/util/AbstractList", "modCount", "I", false)
  | 1 => ("java/util/ArrayList", "elementData", "[Ljava/lang/Object;", false)
  | _ => ("java/util/ArrayList", "size", "I", false)
def tyJx4a65c : Nat → FieldType := fun k => match k with
  | 0 => .int
  | 1 => .array (.object "java/lang/Object")
  | _ => .int
theorem nmJx4a65c : ∀ a, a < 3 → ∀ b, b < 3 → a ≠ b → (TJx4a65c a).2.1 ≠ (TJx4a65c b).2.1 := by decide +kernel
theorem tyJx4a65c_ok : ∀ k, k < 3 → parseFieldDescriptor (TJx4a65c k).2.2.1 = some (tyJx4a65c k) := by decide +kernel
abbrev cJx4a65c_init_da8c8 : ByteArray := prog_33_method_2_code
def yJx4a65c_init_da8c8 : MethodName := ⟨RJx4a65c, "<init>", "()V"⟩
abbrev cJx4a65c_grow_92f84 : ByteArray := prog_33_method_6_code
def yJx4a65c_grow_92f84 : MethodName := ⟨RJx4a65c, "grow", "(I)[Ljava/lang/Object;"⟩
abbrev cJx4a65c_grow_d5877 : ByteArray := prog_33_method_7_code
def yJx4a65c_grow_d5877 : MethodName := ⟨RJx4a65c, "grow", "()[Ljava/lang/Object;"⟩
abbrev cJx4a65c_size_8abf5 : ByteArray := prog_33_method_8_code
def yJx4a65c_size_8abf5 : MethodName := ⟨RJx4a65c, "size", "()I"⟩
abbrev cJx4a65c_elementData_915e3 : ByteArray := prog_33_method_18_code
def yJx4a65c_elementData_915e3 : MethodName := ⟨RJx4a65c, "elementData", "(I)Ljava/lang/Object;"⟩
abbrev cJx4a65c_get_915e3 : ByteArray := prog_33_method_20_code
def yJx4a65c_get_915e3 : MethodName := ⟨RJx4a65c, "get", "(I)Ljava/lang/Object;"⟩
abbrev cJx4a65c_set_bcc79 : ByteArray := prog_33_method_23_code
def yJx4a65c_set_bcc79 : MethodName := ⟨RJx4a65c, "set", "(ILjava/lang/Object;)Ljava/lang/Object;"⟩
abbrev cJx4a65c_add_72be8 : ByteArray := prog_33_method_24_code
def yJx4a65c_add_72be8 : MethodName := ⟨RJx4a65c, "add", "(Ljava/lang/Object;[Ljava/lang/Object;I)V"⟩
abbrev cJx4a65c_add_9ea2d : ByteArray := prog_33_method_25_code
def yJx4a65c_add_9ea2d : MethodName := ⟨RJx4a65c, "add", "(Ljava/lang/Object;)Z"⟩
abbrev cJx4a65c_add_7a177 : ByteArray := prog_33_method_26_code
def yJx4a65c_add_7a177 : MethodName := ⟨RJx4a65c, "add", "(ILjava/lang/Object;)V"⟩
abbrev cJx4a65c_remove_915e3 : ByteArray := prog_33_method_29_code
def yJx4a65c_remove_915e3 : MethodName := ⟨RJx4a65c, "remove", "(I)Ljava/lang/Object;"⟩
abbrev cJx4a65c_fastRemove_b59b0 : ByteArray := prog_33_method_39_code
def yJx4a65c_fastRemove_b59b0 : MethodName := ⟨RJx4a65c, "fastRemove", "([Ljava/lang/Object;I)V"⟩
abbrev cJx4a65c_rangeCheckForAdd_d00df : ByteArray := prog_33_method_45_code
def yJx4a65c_rangeCheckForAdd_d00df : MethodName := ⟨RJx4a65c, "rangeCheckForAdd", "(I)V"⟩
abbrev cJx4a65c_outOfBoundsMsg_b52d3 : ByteArray := prog_33_method_46_code
def yJx4a65c_outOfBoundsMsg_b52d3 : MethodName := ⟨RJx4a65c, "outOfBoundsMsg", "(I)Ljava/lang/String;"⟩
def RJ7 : String := "java/util/Arrays"
def TJ7 : u_T := fun k => match k with
  | _ => ("", "", "", false)
def tyJ7 : Nat → FieldType := fun k => match k with
  | _ => .int
theorem nmJ7 : ∀ a, a < 0 → ∀ b, b < 0 → a ≠ b → (TJ7 a).2.1 ≠ (TJ7 b).2.1 := by decide +kernel
theorem tyJ7_ok : ∀ k, k < 0 → parseFieldDescriptor (TJ7 k).2.2.1 = some (tyJ7 k) := by decide +kernel
abbrev cJ7_copyOf_1904c : ByteArray := prog_34_method_119_code
def yJ7_copyOf_1904c : MethodName := ⟨RJ7, "copyOf", "([Ljava/lang/Object;I)[Ljava/lang/Object;"⟩
abbrev cJ7_copyOf_6403c : ByteArray := prog_34_method_120_code
def yJ7_copyOf_6403c : MethodName := ⟨RJ7, "copyOf", "([Ljava/lang/Object;ILjava/lang/Class;)[Ljava/lang/Object;"⟩
abbrev cJ7_copyOf_9075b : ByteArray := prog_34_method_121_code
def yJ7_copyOf_9075b : MethodName := ⟨RJ7, "copyOf", "([BI)[B"⟩
abbrev cJ7_checkLength_df160 : ByteArray := prog_34_method_131_code
def yJ7_checkLength_df160 : MethodName := ⟨RJ7, "checkLength", "(II)V"⟩
abbrev cJ7_copyOfRange_39247 : ByteArray := prog_34_method_132_code
def yJ7_copyOfRange_39247 : MethodName := ⟨RJ7, "copyOfRange", "([BII)[B"⟩
abbrev cJ7_copyOfRangeByte_39247 : ByteArray := prog_34_method_133_code
def yJ7_copyOfRangeByte_39247 : MethodName := ⟨RJ7, "copyOfRangeByte", "([BII)[B"⟩
def RJx5ef63 : String := "java/util/Collection"
def TJx5ef63 : u_T := fun k => match k with
  | _ => ("", "", "", false)
def tyJx5ef63 : Nat → FieldType := fun k => match k with
  | _ => .int
theorem nmJx5ef63 : ∀ a, a < 0 → ∀ b, b < 0 → a ≠ b → (TJx5ef63 a).2.1 ≠ (TJx5ef63 b).2.1 := by decide +kernel
theorem tyJx5ef63_ok : ∀ k, k < 0 → parseFieldDescriptor (TJx5ef63 k).2.2.1 = some (tyJx5ef63 k) := by decide +kernel
def RJxbd725 : String := "java/util/List"
def TJxbd725 : u_T := fun k => match k with
  | _ => ("", "", "", false)
def tyJxbd725 : Nat → FieldType := fun k => match k with
  | _ => .int
theorem nmJxbd725 : ∀ a, a < 0 → ∀ b, b < 0 → a ≠ b → (TJxbd725 a).2.1 ≠ (TJxbd725 b).2.1 := by decide +kernel
theorem tyJxbd725_ok : ∀ k, k < 0 → parseFieldDescriptor (TJxbd725 k).2.2.1 = some (tyJxbd725 k) := by decide +kernel
def RJ15 : String := "java/util/Objects"
def TJ15 : u_T := fun k => match k with
  | _ => ("", "", "", false)
def tyJ15 : Nat → FieldType := fun k => match k with
  | _ => .int
theorem nmJ15 : ∀ a, a < 0 → ∀ b, b < 0 → a ≠ b → (TJ15 a).2.1 ≠ (TJ15 b).2.1 := by decide +kernel
theorem tyJ15_ok : ∀ k, k < 0 → parseFieldDescriptor (TJ15 k).2.2.1 = some (tyJ15 k) := by decide +kernel
abbrev cJ15_checkIndex_7cf53 : ByteArray := prog_37_method_17_code
def yJ15_checkIndex_7cf53 : MethodName := ⟨RJ15, "checkIndex", "(II)I"⟩
def RJxf0a74 : String := "java/util/RandomAccess"
def TJxf0a74 : u_T := fun k => match k with
  | _ => ("", "", "", false)
def tyJxf0a74 : Nat → FieldType := fun k => match k with
  | _ => .int
theorem nmJxf0a74 : ∀ a, a < 0 → ∀ b, b < 0 → a ≠ b → (TJxf0a74 a).2.1 ≠ (TJxf0a74 b).2.1 := by decide +kernel
theorem tyJxf0a74_ok : ∀ k, k < 0 → parseFieldDescriptor (TJxf0a74 k).2.2.1 = some (tyJxf0a74 k) := by decide +kernel
def RJxa66e6 : String := "java/util/SequencedCollection"
def TJxa66e6 : u_T := fun k => match k with
  | _ => ("", "", "", false)
def tyJxa66e6 : Nat → FieldType := fun k => match k with
  | _ => .int
theorem nmJxa66e6 : ∀ a, a < 0 → ∀ b, b < 0 → a ≠ b → (TJxa66e6 a).2.1 ≠ (TJxa66e6 b).2.1 := by decide +kernel
theorem tyJxa66e6_ok : ∀ k, k < 0 → parseFieldDescriptor (TJxa66e6 k).2.2.1 = some (tyJxa66e6 k) := by decide +kernel
def RJ8 : String := "jdk/internal/util/ArraysSupport"
def TJ8 : u_T := fun k => match k with
  | _ => ("", "", "", false)
def tyJ8 : Nat → FieldType := fun k => match k with
  | _ => .int
theorem nmJ8 : ∀ a, a < 0 → ∀ b, b < 0 → a ≠ b → (TJ8 a).2.1 ≠ (TJ8 b).2.1 := by decide +kernel
theorem tyJ8_ok : ∀ k, k < 0 → parseFieldDescriptor (TJ8 k).2.2.1 = some (tyJ8 k) := by decide +kernel
abbrev cJ8_newLength_cabcc : ByteArray := prog_40_method_27_code
def yJ8_newLength_cabcc : MethodName := ⟨RJ8, "newLength", "(III)I"⟩
abbrev cJ8_hugeLength_7cf53 : ByteArray := prog_40_method_28_code
def yJ8_hugeLength_7cf53 : MethodName := ⟨RJ8, "hugeLength", "(II)I"⟩
def RJ3 : String := "jdk/internal/util/Preconditions"
def TJ3 : u_T := fun k => match k with
  | _ => ("", "", "", false)
def tyJ3 : Nat → FieldType := fun k => match k with
  | _ => .int
theorem nmJ3 : ∀ a, a < 0 → ∀ b, b < 0 → a ≠ b → (TJ3 a).2.1 ≠ (TJ3 b).2.1 := by decide +kernel
theorem tyJ3_ok : ∀ k, k < 0 → parseFieldDescriptor (TJ3 k).2.2.1 = some (tyJ3 k) := by decide +kernel
abbrev cJ3_checkIndex_8e157 : ByteArray := prog_41_method_11_code
def yJ3_checkIndex_8e157 : MethodName := ⟨RJ3, "checkIndex", "(IILjava/util/function/BiFunction;)I"⟩
abbrev cJ3_checkFromToIndex_8c36e : ByteArray := prog_41_method_12_code
def yJ3_checkFromToIndex_8c36e : MethodName := ⟨RJ3, "checkFromToIndex", "(IIILjava/util/function/BiFunction;)I"⟩
abbrev cJ3_checkFromIndexSize_8c36e : ByteArray := prog_41_method_13_code
def yJ3_checkFromIndexSize_8c36e : MethodName := ⟨RJ3, "checkFromIndexSize", "(IIILjava/util/function/BiFunction;)I"⟩
def RL : String := "BondOfficeLaw"
abbrev cL_holder : ByteArray := method_3_code
def yL_holder : MethodName := ⟨RL, "holder", "(LBondOffice;[J)I"⟩
abbrev cL_buy : ByteArray := method_4_code
def yL_buy : MethodName := ⟨RL, "buy", "(LBondOffice;II[J)I"⟩
abbrev cL_give : ByteArray := method_5_code
def yL_give : MethodName := ⟨RL, "give", "(LBondOffice;IIII[J)I"⟩
abbrev cL_cash : ByteArray := method_6_code
def yL_cash : MethodName := ⟨RL, "cash", "(LBondOffice;III[J)I"⟩
abbrev cL_died : ByteArray := method_7_code
def yL_died : MethodName := ⟨RL, "died", "(LBondOffice;II[J)I"⟩
abbrev cL_has : ByteArray := method_8_code
def yL_has : MethodName := ⟨RL, "has", "(LBondOffice;I[J)I"⟩
abbrev cL_line : ByteArray := method_9_code
def yL_line : MethodName := ⟨RL, "line", "(LBondOffice;II[J)I"⟩
abbrev cL_wait : ByteArray := method_10_code
def yL_wait : MethodName := ⟨RL, "wait", "(LBondOffice;I[J)I"⟩
abbrev cL_rule : ByteArray := method_11_code
def yL_rule : MethodName := ⟨RL, "rule", "(LBondOffice;II[J)I"⟩
abbrev cL_drawn : ByteArray := method_12_code
def yL_drawn : MethodName := ⟨RL, "drawn", "(LBondOffice;II[J)I"⟩
abbrev cL_win : ByteArray := method_13_code
def yL_win : MethodName := ⟨RL, "win", "(LBondOffice;II[J)I"⟩
abbrev cL_claim : ByteArray := method_14_code
def yL_claim : MethodName := ⟨RL, "claim", "(LBondOffice;I[J)I"⟩
abbrev cL_paid : ByteArray := method_15_code
def yL_paid : MethodName := ⟨RL, "paid", "(LBondOffice;I[J)I"⟩
abbrev cL_law : ByteArray := code
def yL_law : MethodName := ⟨RL, "law", "([I)Z"⟩
end
section
/-! the heap as a value: addresses, kinds, lengths, and what the places hold: ints, longs, references -/
abbrev hs_T : Type := List Nat × (Nat → Nat) × (Nat → Nat) × (Nat → Nat → Int32) × (Nat → Nat → Int64) × (Nat → Nat → Option Nat)
def hs_L (S : hs_T) : List Nat := S.1
def hs_K (S : hs_T) : Nat → Nat := S.2.1
def hs_N (S : hs_T) : Nat → Nat := S.2.2.1
def hs_I (S : hs_T) : Nat → Nat → Int32 := S.2.2.2.1
def hs_J (S : hs_T) : Nat → Nat → Int64 := S.2.2.2.2.1
def hs_R (S : hs_T) : Nat → Nat → Option Nat := S.2.2.2.2.2
/-- one place of one row -/
def hs_u {α : Type} (f : Nat → Nat → α) (a i : Nat) (v : α) : Nat → Nat → α := va_up f a (va_up (f a) i v)
def hs_sI (S : hs_T) (a i : Nat) (v : Int32) : hs_T := (hs_L S, hs_K S, hs_N S, hs_u (hs_I S) a i v, hs_J S, hs_R S)
def hs_sJ (S : hs_T) (a i : Nat) (v : Int64) : hs_T := (hs_L S, hs_K S, hs_N S, hs_I S, hs_u (hs_J S) a i v, hs_R S)
def hs_sR (S : hs_T) (a i : Nat) (v : Option Nat) : hs_T := (hs_L S, hs_K S, hs_N S, hs_I S, hs_J S, hs_u (hs_R S) a i v)
/-- a whole row of references -/
def hs_rR (S : hs_T) (a : Nat) (f : Nat → Option Nat) : hs_T := (hs_L S, hs_K S, hs_N S, hs_I S, hs_J S, va_up (hs_R S) a f)
def hs_new (S : hs_T) (a k n : Nat) : hs_T := (hs_L S ++ [a], va_up (hs_K S) a k, va_up (hs_N S) a n, va_up (hs_I S) a (fun _ => 0), va_up (hs_J S) a (fun _ => 0), va_up (hs_R S) a (fun _ => none))
theorem hs_u_at {α : Type} (f : Nat → Nat → α) (a i : Nat) (v : α) (b j : Nat) : hs_u f a i v b j = if b = a ∧ j = i then v else f b j := by
  unfold hs_u va_up
  by_cases h : b = a
  · subst h; by_cases h2 : j = i <;> simp [h2]
  · simp [h]
theorem hs_u_row {α : Type} (f : Nat → Nat → α) (a i : Nat) (v : α) : hs_u f a i v a = va_up (f a) i v := by simp [hs_u, va_up]
theorem hs_u_off {α : Type} (f : Nat → Nat → α) {a b : Nat} (i : Nat) (v : α) (h : b ≠ a) : hs_u f a i v b = f b := by simp [hs_u, va_up, h]
/-- the classes whose objects live there -/
abbrev hs_cl : List vw_C := [(RJx4a65c, TJx4a65c, 3), (RX0, TX0, 3), (RX1, TX1, 9), (RX2, TX2, 2), (RX4, TX4, 3), (RX5, TX5, 5), (RX6, TX6, 2), (RX7, TX7, 5), (RX8, TX8, 6), (RX9, TX9, 12), (RX10, TX10, 37)]
/-- their fields: 0 an int, 1 a long, 2 a reference -/
def hs_ft : Nat → List Nat
  | 0 => [0, 2, 0]
  | 1 => [2, 0, 0]
  | 2 => [0, 0, 0, 1, 1, 1, 0, 0, 1]
  | 3 => [0, 1]
  | 4 => [2, 2, 0]
  | 5 => [0, 0, 0, 0, 0]
  | 6 => [0, 2]
  | 7 => [2, 0, 0, 0, 0]
  | 8 => [0, 0, 0, 0, 0, 0]
  | 9 => [2, 2, 2, 0, 2, 0, 2, 0, 2, 2, 1, 0]
  | 10 => [0, 0, 0, 0, 2, 2, 2, 2, 2, 2, 2, 0, 2, 0, 0, 0, 0, 0, 2, 2, 2, 2, 2, 0, 2, 0, 2, 0, 2, 2, 2, 2, 2, 0, 1, 2, 0]
  | _ => []
def hs_V (S : hs_T) (a i : Nat) : Nat → Value
  | 0 => .int (hs_I S a i)
  | 1 => .long (hs_J S a i)
  | _ => va_rf (hs_R S a i)
def hs_fs (S : hs_T) (a : Nat) : Nat → List Nat → List Value
  | _, [] => []
  | i, t :: ts => hs_V S a i t :: hs_fs S a (i + 1) ts
def hs_E (cy : Nat → ClassId) (S : hs_T) (a : Nat) : va_E := match hs_K S a with
  | 11 => .inl (cy 0, hs_N S a, .inl (hs_I S a))
  | 12 => .inl (cy 1, hs_N S a, .inl (hs_I S a))
  | 13 => .inl (cy 2, hs_N S a, .inr (.inl (hs_J S a)))
  | 14 => .inl (cy 3, hs_N S a, .inl (hs_I S a))
  | 15 => .inl (cy 4, hs_N S a, .inr (.inr (.inr (.inr (hs_R S a)))))
  | k => .inr (k, hs_fs S a 0 (hs_ft k))
theorem hs_fs_at (S : hs_T) (a : Nat) : ∀ (ts : List Nat) (i j t : Nat), ts[j]? = some t → (hs_fs S a i ts)[j]? = some (hs_V S a (i + j) t)
  | [], i, j, t, h => by simp at h
  | x :: ts, i, 0, t, h => by
    simp at h; subst h; simp [hs_fs]
  | x :: ts, i, j + 1, t, h => by
    simp at h
    have := hs_fs_at S a ts (i + 1) j t h
    simp only [hs_fs, List.getElem?_cons_succ]
    rw [this, show i + 1 + j = i + (j + 1) by omega]
theorem hs_fs_len (S : hs_T) (a : Nat) : ∀ (ts : List Nat) (i : Nat), (hs_fs S a i ts).length = ts.length
  | [], _ => rfl
  | _ :: ts, i => by simp [hs_fs, hs_fs_len S a ts (i + 1)]
theorem hs_fs_congr {S S' : hs_T} {a : Nat} : ∀ (ts : List Nat) (i : Nat), (∀ j t, ts[j]? = some t → hs_V S a (i + j) t = hs_V S' a (i + j) t) → hs_fs S a i ts = hs_fs S' a i ts
  | [], _, _ => rfl
  | t :: ts, i, h => by
    have h0 := h 0 t rfl
    rw [Nat.add_zero] at h0
    simp only [hs_fs]
    rw [h0, hs_fs_congr (S' := S') ts (i + 1) (fun j t' hj => by have := h (j + 1) t' (by simpa using hj); rw [show i + 1 + j = i + (j + 1) by omega]; exact this)]
theorem hs_fs_set {S S' : hs_T} {a : Nat} (v : Value) : ∀ (ts : List Nat) (i k t : Nat), ts[k]? = some t → hs_V S' a (i + k) t = v → (∀ j t', j ≠ k → ts[j]? = some t' → hs_V S a (i + j) t' = hs_V S' a (i + j) t') → (hs_fs S a i ts).set k v = hs_fs S' a i ts
  | [], i, k, t, h, _, _ => by simp at h
  | x :: ts, i, 0, t, h, hv, ho => by
    simp at h; subst h
    rw [Nat.add_zero] at hv
    simp only [hs_fs, List.set_cons_zero]
    rw [hv, hs_fs_congr (S' := S') ts (i + 1) (fun j t' hj => by have := ho (j + 1) t' (by omega) (by simpa using hj); rw [show i + 1 + j = i + (j + 1) by omega]; exact this)]
  | x :: ts, i, k + 1, t, h, hv, ho => by
    simp at h
    have h0 := ho 0 x (by omega) rfl
    rw [Nat.add_zero] at h0
    simp only [hs_fs, List.set_cons_succ]
    rw [h0, hs_fs_set v ts (i + 1) k t h (by rw [show i + 1 + k = i + (k + 1) by omega]; exact hv) (fun j t' hj hjt => by have := ho (j + 1) t' (by omega) (by simpa using hjt); rw [show i + 1 + j = i + (j + 1) by omega]; exact this)]
/-- the cell depends on the rows of its own address alone -/
theorem hs_E_congr {cy : Nat → ClassId} {S S' : hs_T} {a : Nat} (hK : hs_K S a = hs_K S' a) (hN : hs_N S a = hs_N S' a) (hI : hs_I S a = hs_I S' a) (hJ : hs_J S a = hs_J S' a) (hR : hs_R S a = hs_R S' a) : hs_E cy S a = hs_E cy S' a := by
  have hV : ∀ i t, hs_V S a i t = hs_V S' a i t := fun i t => by
    unfold hs_V; split <;> simp [hI, hJ, hR]
  have hf : ∀ ts i, hs_fs S a i ts = hs_fs S' a i ts := fun ts i => hs_fs_congr ts i (fun j t _ => hV _ _)
  unfold hs_E
  rw [hK]
  split <;> simp [hN, hI, hJ, hR, hf]
theorem hs_E_obj {cy : Nat → ClassId} {S : hs_T} {a k : Nat} (hK : hs_K S a = k) (hk : k < 11) : hs_E cy S a = .inr (k, hs_fs S a 0 (hs_ft k)) := by
  unfold hs_E
  rw [hK]
  split <;> first | omega | rfl
theorem hs_E_B {cy : Nat → ClassId} {S : hs_T} {a : Nat} (hK : hs_K S a = 11) : hs_E cy S a = .inl (cy 0, hs_N S a, .inl (hs_I S a)) := by simp only [hs_E, hK]
theorem hs_E_I {cy : Nat → ClassId} {S : hs_T} {a : Nat} (hK : hs_K S a = 12) : hs_E cy S a = .inl (cy 1, hs_N S a, .inl (hs_I S a)) := by simp only [hs_E, hK]
theorem hs_E_J {cy : Nat → ClassId} {S : hs_T} {a : Nat} (hK : hs_K S a = 13) : hs_E cy S a = .inl (cy 2, hs_N S a, .inr (.inl (hs_J S a))) := by simp only [hs_E, hK]
theorem hs_E_Z {cy : Nat → ClassId} {S : hs_T} {a : Nat} (hK : hs_K S a = 14) : hs_E cy S a = .inl (cy 3, hs_N S a, .inl (hs_I S a)) := by simp only [hs_E, hK]
theorem hs_E_R {cy : Nat → ClassId} {S : hs_T} {a : Nat} (hK : hs_K S a = 15) : hs_E cy S a = .inl (cy 4, hs_N S a, .inr (.inr (.inr (.inr (hs_R S a))))) := by simp only [hs_E, hK]
/-- a cell is changed: the others stay -/
theorem hs_up {cy : Nat → ClassId} {S S' : hs_T} {a : Nat} {e : va_E} (he : hs_E cy S' a = e) (ho : ∀ b, b ≠ a → hs_E cy S b = hs_E cy S' b) (b : Nat) : va_up (hs_E cy S) a e b = hs_E cy S' b := by
  unfold va_up
  by_cases h : b = a
  · subst h; simp [he]
  · simp [h, ho b h]
theorem hs_off_sI (cy : Nat → ClassId) (S : hs_T) (a i : Nat) (v : Int32) : ∀ b, b ≠ a → hs_E cy S b = hs_E cy (hs_sI S a i v) b := fun b h => hs_E_congr rfl rfl (by show hs_I S b = hs_u (hs_I S) a i v b; rw [hs_u_off _ _ _ h]) rfl rfl
theorem hs_off_sJ (cy : Nat → ClassId) (S : hs_T) (a i : Nat) (v : Int64) : ∀ b, b ≠ a → hs_E cy S b = hs_E cy (hs_sJ S a i v) b := fun b h => hs_E_congr rfl rfl rfl (by show hs_J S b = hs_u (hs_J S) a i v b; rw [hs_u_off _ _ _ h]) rfl
theorem hs_off_sR (cy : Nat → ClassId) (S : hs_T) (a i : Nat) (v : Option Nat) : ∀ b, b ≠ a → hs_E cy S b = hs_E cy (hs_sR S a i v) b := fun b h => hs_E_congr rfl rfl rfl rfl (by show hs_R S b = hs_u (hs_R S) a i v b; rw [hs_u_off _ _ _ h])
theorem hs_off_rR (cy : Nat → ClassId) (S : hs_T) (a : Nat) (f : Nat → Option Nat) : ∀ b, b ≠ a → hs_E cy S b = hs_E cy (hs_rR S a f) b := fun b h => hs_E_congr rfl rfl rfl rfl (by show hs_R S b = va_up (hs_R S) a f b; rw [va_up_ne _ _ h])
theorem hs_off_new (cy : Nat → ClassId) (S : hs_T) (a k n : Nat) : ∀ b, b ≠ a → hs_E cy S b = hs_E cy (hs_new S a k n) b := fun b h => hs_E_congr (by show hs_K S b = va_up (hs_K S) a k b; rw [va_up_ne _ _ h]) (by show hs_N S b = va_up (hs_N S) a n b; rw [va_up_ne _ _ h]) (by show hs_I S b = va_up (hs_I S) a _ b; rw [va_up_ne _ _ h]) (by show hs_J S b = va_up (hs_J S) a _ b; rw [va_up_ne _ _ h]) (by show hs_R S b = va_up (hs_R S) a _ b; rw [va_up_ne _ _ h])
/-- what the new cell's fields hold -/
def hs_z : Nat → Value
  | 0 => .int 0
  | 1 => .long 0
  | _ => .null
def hs_zs (ts : List Nat) : List Value := ts.map hs_z
theorem hs_new_fs (S : hs_T) (a k n : Nat) : ∀ (ts : List Nat) (i : Nat), hs_fs (hs_new S a k n) a i ts = hs_zs ts
  | [], _ => rfl
  | t :: ts, i => by
    simp only [hs_fs, hs_zs, List.map_cons]
    rw [hs_new_fs S a k n ts (i + 1)]
    congr 1
    unfold hs_V hs_z
    split <;> simp [hs_new, hs_I, hs_J, hs_R, va_up, va_rf]
/-! reading after writing -/
theorem hs_L_sI (S : hs_T) (a i : Nat) (v : Int32) : hs_L (hs_sI S a i v) = hs_L S := rfl
theorem hs_L_sJ (S : hs_T) (a i : Nat) (v : Int64) : hs_L (hs_sJ S a i v) = hs_L S := rfl
theorem hs_L_sR (S : hs_T) (a i : Nat) (v : Option Nat) : hs_L (hs_sR S a i v) = hs_L S := rfl
theorem hs_L_rR (S : hs_T) (a : Nat) (f : Nat → Option Nat) : hs_L (hs_rR S a f) = hs_L S := rfl
theorem hs_L_new (S : hs_T) (a k n : Nat) : hs_L (hs_new S a k n) = hs_L S ++ [a] := rfl
theorem hs_K_sI (S : hs_T) (a i : Nat) (v : Int32) : hs_K (hs_sI S a i v) = hs_K S := rfl
theorem hs_K_sJ (S : hs_T) (a i : Nat) (v : Int64) : hs_K (hs_sJ S a i v) = hs_K S := rfl
theorem hs_K_sR (S : hs_T) (a i : Nat) (v : Option Nat) : hs_K (hs_sR S a i v) = hs_K S := rfl
theorem hs_K_rR (S : hs_T) (a : Nat) (f : Nat → Option Nat) : hs_K (hs_rR S a f) = hs_K S := rfl
theorem hs_K_new (S : hs_T) (a k n b : Nat) : hs_K (hs_new S a k n) b = if b = a then k else hs_K S b := rfl
theorem hs_N_sI (S : hs_T) (a i : Nat) (v : Int32) : hs_N (hs_sI S a i v) = hs_N S := rfl
theorem hs_N_sJ (S : hs_T) (a i : Nat) (v : Int64) : hs_N (hs_sJ S a i v) = hs_N S := rfl
theorem hs_N_sR (S : hs_T) (a i : Nat) (v : Option Nat) : hs_N (hs_sR S a i v) = hs_N S := rfl
theorem hs_N_rR (S : hs_T) (a : Nat) (f : Nat → Option Nat) : hs_N (hs_rR S a f) = hs_N S := rfl
theorem hs_N_new (S : hs_T) (a k n b : Nat) : hs_N (hs_new S a k n) b = if b = a then n else hs_N S b := rfl
theorem hs_I_sI (S : hs_T) (a i : Nat) (v : Int32) (b j : Nat) : hs_I (hs_sI S a i v) b j = if b = a ∧ j = i then v else hs_I S b j := hs_u_at _ _ _ _ _ _
theorem hs_I_sJ (S : hs_T) (a i : Nat) (v : Int64) : hs_I (hs_sJ S a i v) = hs_I S := rfl
theorem hs_I_sR (S : hs_T) (a i : Nat) (v : Option Nat) : hs_I (hs_sR S a i v) = hs_I S := rfl
theorem hs_I_rR (S : hs_T) (a : Nat) (f : Nat → Option Nat) : hs_I (hs_rR S a f) = hs_I S := rfl
theorem hs_I_new (S : hs_T) (a k n b j : Nat) : hs_I (hs_new S a k n) b j = if b = a then 0 else hs_I S b j := by
  show va_up (hs_I S) a (fun _ => 0) b j = _
  unfold va_up; split <;> rfl
theorem hs_J_sI (S : hs_T) (a i : Nat) (v : Int32) : hs_J (hs_sI S a i v) = hs_J S := rfl
theorem hs_J_sJ (S : hs_T) (a i : Nat) (v : Int64) (b j : Nat) : hs_J (hs_sJ S a i v) b j = if b = a ∧ j = i then v else hs_J S b j := hs_u_at _ _ _ _ _ _
theorem hs_J_sR (S : hs_T) (a i : Nat) (v : Option Nat) : hs_J (hs_sR S a i v) = hs_J S := rfl
theorem hs_J_rR (S : hs_T) (a : Nat) (f : Nat → Option Nat) : hs_J (hs_rR S a f) = hs_J S := rfl
theorem hs_J_new (S : hs_T) (a k n b j : Nat) : hs_J (hs_new S a k n) b j = if b = a then 0 else hs_J S b j := by
  show va_up (hs_J S) a (fun _ => 0) b j = _
  unfold va_up; split <;> rfl
theorem hs_R_sI (S : hs_T) (a i : Nat) (v : Int32) : hs_R (hs_sI S a i v) = hs_R S := rfl
theorem hs_R_sJ (S : hs_T) (a i : Nat) (v : Int64) : hs_R (hs_sJ S a i v) = hs_R S := rfl
theorem hs_R_sR (S : hs_T) (a i : Nat) (v : Option Nat) (b j : Nat) : hs_R (hs_sR S a i v) b j = if b = a ∧ j = i then v else hs_R S b j := hs_u_at _ _ _ _ _ _
theorem hs_R_rR (S : hs_T) (a : Nat) (f : Nat → Option Nat) (b j : Nat) : hs_R (hs_rR S a f) b j = if b = a then f j else hs_R S b j := by
  show va_up (hs_R S) a f b j = _
  unfold va_up; split <;> rfl
theorem hs_R_new (S : hs_T) (a k n b j : Nat) : hs_R (hs_new S a k n) b j = if b = a then none else hs_R S b j := by
  show va_up (hs_R S) a (fun _ => none) b j = _
  unfold va_up; split <;> rfl
end
section
/-! constants: statics, arrays, objects and texts that stand in the heap from the start; their addresses are numbered by ad -/
abbrev cs_V : Type := (Nat → Nat) → Value
def cs_Z : List (String × String × String × cs_V) := [("java/util/ArrayList", "DEFAULTCAPACITY_EMPTY_ELEMENTDATA", "[Ljava/lang/Object;", fun ad => .ref (ad 1)), ("BondOffice$RuleReader", "KINDS", "[LBondOffice$Kind;", fun ad => .ref (ad 2)), ("BondOffice$Kind", "FUND", "LBondOffice$Kind;", fun ad => .ref (ad 3)), ("BondOffice$Kind", "DAYS", "LBondOffice$Kind;", fun ad => .ref (ad 4)), ("BondOffice$Kind", "TIER", "LBondOffice$Kind;", fun ad => .ref (ad 5)), ("BondOffice$Kind", "SHARE", "LBondOffice$Kind;", fun ad => .ref (ad 6)), ("java/lang/String", "COMPACT_STRINGS", "Z", fun _ => .int 1)]
def cs_T : List (FieldType × Nat × Nat × ((Nat → Nat) → Nat → Value)) := [(.object "java/lang/Object", 1, 0, fun _ _ => .null), (.object "BondOffice$Kind", 2, 4, fun ad i => .ref (ad (3 + i))), (.byte, 20, 4, fun _ i => .int (([102, 117, 110, 100] : List Int32).getD i 0)), (.byte, 21, 4, fun _ i => .int (([100, 97, 121, 115] : List Int32).getD i 0)), (.byte, 22, 4, fun _ i => .int (([116, 105, 101, 114] : List Int32).getD i 0)), (.byte, 23, 5, fun _ i => .int (([115, 104, 97, 114, 101] : List Int32).getD i 0)), (.byte, 24, 0, fun _ i => .int (([] : List Int32).getD i 0)), (.byte, 25, 1, fun _ i => .int (([47] : List Int32).getD i 0)), (.byte, 26, 1, fun _ i => .int (([120] : List Int32).getD i 0)), (.byte, 27, 1, fun _ i => .int (([59] : List Int32).getD i 0))]
def cs_F : List (String × String × String × Nat × cs_V) := [("BondOffice$Kind", "word", "Ljava/lang/String;", 3, fun ad => .ref (ad 10)), ("BondOffice$Kind", "firstLeast", "I", 3, fun _ => .int 0), ("BondOffice$Kind", "firstMost", "I", 3, fun _ => .int 1000000), ("BondOffice$Kind", "joint", "Ljava/lang/String;", 3, fun ad => .ref (ad 15)), ("BondOffice$Kind", "secondLeast", "I", 3, fun _ => .int 1), ("BondOffice$Kind", "secondMost", "I", 3, fun _ => .int (1000000000)), ("BondOffice$Kind", "word", "Ljava/lang/String;", 4, fun ad => .ref (ad 11)), ("BondOffice$Kind", "firstLeast", "I", 4, fun _ => .int 0), ("BondOffice$Kind", "firstMost", "I", 4, fun _ => .int 1000000000), ("BondOffice$Kind", "joint", "Ljava/lang/String;", 4, fun ad => .ref (ad 14)), ("BondOffice$Kind", "secondLeast", "I", 4, fun _ => .int 0), ("BondOffice$Kind", "secondMost", "I", 4, fun _ => .int (-1)), ("BondOffice$Kind", "word", "Ljava/lang/String;", 5, fun ad => .ref (ad 12)), ("BondOffice$Kind", "firstLeast", "I", 5, fun _ => .int 1), ("BondOffice$Kind", "firstMost", "I", 5, fun _ => .int 1000000000), ("BondOffice$Kind", "joint", "Ljava/lang/String;", 5, fun ad => .ref (ad 16)), ("BondOffice$Kind", "secondLeast", "I", 5, fun _ => .int 0), ("BondOffice$Kind", "secondMost", "I", 5, fun _ => .int (1000000000)), ("BondOffice$Kind", "word", "Ljava/lang/String;", 6, fun ad => .ref (ad 13)), ("BondOffice$Kind", "firstLeast", "I", 6, fun _ => .int 1), ("BondOffice$Kind", "firstMost", "I", 6, fun _ => .int 1000000000), ("BondOffice$Kind", "joint", "Ljava/lang/String;", 6, fun ad => .ref (ad 14)), ("BondOffice$Kind", "secondLeast", "I", 6, fun _ => .int 0), ("BondOffice$Kind", "secondMost", "I", 6, fun _ => .int (100)), ("java/lang/String", "value", "[B", 10, fun ad => .ref (ad 20)), ("java/lang/String", "coder", "B", 10, fun _ => .int 0), ("java/lang/String", "value", "[B", 11, fun ad => .ref (ad 21)), ("java/lang/String", "coder", "B", 11, fun _ => .int 0), ("java/lang/String", "value", "[B", 12, fun ad => .ref (ad 22)), ("java/lang/String", "coder", "B", 12, fun _ => .int 0), ("java/lang/String", "value", "[B", 13, fun ad => .ref (ad 23)), ("java/lang/String", "coder", "B", 13, fun _ => .int 0), ("java/lang/String", "value", "[B", 14, fun ad => .ref (ad 24)), ("java/lang/String", "coder", "B", 14, fun _ => .int 0), ("java/lang/String", "value", "[B", 15, fun ad => .ref (ad 25)), ("java/lang/String", "coder", "B", 15, fun _ => .int 0), ("java/lang/String", "value", "[B", 16, fun ad => .ref (ad 26)), ("java/lang/String", "coder", "B", 16, fun _ => .int 0), ("java/lang/String", "value", "[B", 17, fun ad => .ref (ad 27)), ("java/lang/String", "coder", "B", 17, fun _ => .int 0)]
def cs_O : List (String × Nat) := [("BondOffice$Kind", 3), ("BondOffice$Kind", 4), ("BondOffice$Kind", 5), ("BondOffice$Kind", 6), ("java/lang/String", 10), ("java/lang/String", 11), ("java/lang/String", 12), ("java/lang/String", 13), ("java/lang/String", 14), ("java/lang/String", 15), ("java/lang/String", 16), ("java/lang/String", 17), ("[Ljava/lang/Object;", 1)]
def cs_R : List (String × Nat × String × Nat) := [("BondOffice$RuleReader", 90, ";", 17), ("BondOfficeModel", 174, "fund", 10), ("BondOfficeModel", 189, "days", 11), ("BondOfficeModel", 191, "tier", 12), ("BondOfficeModel", 195, "share", 13), ("BondOfficeModel", 193, "x", 16), ("BondOffice$Kind", 68, "days", 11), ("BondOffice$Kind", 70, "", 14), ("BondOffice$Kind", 58, "fund", 10), ("BondOffice$Kind", 61, "/", 15), ("BondOffice$Kind", 73, "tier", 12), ("BondOffice$Kind", 75, "x", 16), ("BondOffice$Kind", 78, "share", 13), ("BondOffice", 63, "there are 60 holders", 30), ("BondOffice", 255, "no such holder", 31), ("BondOffice", 82, "bonds bought are 1 to 10,000,000", 32), ("BondOffice", 257, "the holder died", 33), ("BondOffice", 259, "both holders are one", 34), ("BondOffice", 132, "no such line", 35), ("BondOffice", 135, "no such fact of a line", 36), ("BondOffice", 143, "days are 0 to 10,000, and the day is at most 100,000", 37), ("BondOffice", 148, "no such bytes on the tape, or no such day", 38), ("BondOffice", 150, "there are 20 rules", 39), ("BondOffice", 223, "no such draw", 40), ("BondOffice", 225, "no such fact of a draw", 41), ("BondOffice", 261, "no such win", 42), ("BondOffice", 233, "no such fact of a win", 43)]
def cs_N : List (String × String) := [("java/lang/IllegalStateException", "java/lang/IndexOutOfBoundsException"), ("java/lang/IllegalStateException", "java/lang/IllegalArgumentException"), ("java/lang/IndexOutOfBoundsException", "java/lang/IllegalStateException"), ("java/lang/IndexOutOfBoundsException", "java/lang/IllegalArgumentException"), ("java/lang/IllegalArgumentException", "java/lang/IllegalStateException"), ("java/lang/IllegalArgumentException", "java/lang/IndexOutOfBoundsException")]
def cs_H (ad : Nat → Nat) (A : Nat → Prop) (U : State) (H : Heap) : Prop := (∀ q ∈ cs_Z, va_Z q.1 q.2.1 q.2.2.1 (q.2.2.2 ad) A U H) ∧ (∀ q ∈ cs_T, va_T q.1 (ad q.2.1) q.2.2.1 (q.2.2.2 ad) A U H) ∧ (∀ q ∈ cs_F, va_OF q.1 q.2.1 q.2.2.1 (q.2.2.2.2 ad) (ad q.2.2.2.1) A U H) ∧ (∀ q ∈ cs_O, va_O q.1 (ad q.2) A U H) ∧ vx_Zq Bundle.tN "UNASSIGNED_STACK" Bundle.steD A U H ∧ vx_Zq Bundle.tN "SUPPRESSED_SENTINEL" Bundle.listD A U H
def cs_U (ad : Nat → Nat) (U : State) : Prop := (∀ q ∈ cs_R, vk_R q.1 q.2.1 q.2.2.1 (ad q.2.2.2) U) ∧ (∀ q ∈ cs_N, va_Nc q.1 q.2 U) ∧ va_AO "java/lang/Object" U ∧ va_Mi "[Ljava/lang/Object;" (ad 0) U
theorem cs_H.moved {ad : Nat → Nat} {A : Nat → Prop} {u U : State} {H : Heap} (h : cs_H ad A u H) (hvm : u.vm.Alike U.vm) : cs_H ad A U H := ⟨fun q hq => va_Z.moved hvm (h.1 q hq), fun q hq => va_T.moved hvm (h.2.1 q hq), fun q hq => va_OF.moved hvm (h.2.2.1 q hq), fun q hq => va_O.moved hvm (h.2.2.2.1 q hq), vx_Zq.moved hvm h.2.2.2.2.1, vx_Zq.moved hvm h.2.2.2.2.2⟩
theorem cs_H.kept {ad : Nat → Nat} {A : Nat → Prop} {U : State} {H H1 : Heap} (h : cs_H ad A U H) (hq1 : ∀ a : Nat, a < H.size → ¬ A a → H1[a]? = H[a]?) : cs_H ad A U H1 := ⟨fun q hq => va_Z.kept (h.1 q hq) hq1, fun q hq => va_T.kept (h.2.1 q hq) hq1, fun q hq => va_OF.kept (h.2.2.1 q hq) hq1, fun q hq => va_O.kept (h.2.2.2.1 q hq) hq1, h.2.2.2.2.1.kept hq1, h.2.2.2.2.2.kept hq1⟩
theorem cs_U.warm {ad : Nat → Nat} {s U : State} (h : cs_U ad s) (hW : s.WarmedH U.vm) : cs_U ad U := ⟨fun q hq => vk_R.warm hW (h.1 q hq), fun q hq => va_Nc.moved hW.alike (h.2.1 q hq), va_AO.moved hW.alike h.2.2.1, va_Mi.moved hW.alike h.2.2.2⟩
end
section
/-! a method from a place on: 'ex_W', over heaps as values; 'ex_M': its contract. What is common to all methods stands in g: launch, class numbers, slots, array classes, the first address that may change, addresses of constants -/
abbrev gl_T : Type := Launch × va_G × (Nat → ClassId) × Nat × (Nat → Nat)
abbrev mt_T : Type := MethodName × ByteArray × Nat × Option FieldType
abbrev ex_R : Type := (Option Value ⊕ String) → hs_T → Nat → Nat → Prop
def ex_NM : Nat := 601024
def ex_KM : Nat := 7293034
def ex_TB : List Cond := lw_tbl.filter goodWord
def ex_nw (w : Cond) : Bool := match w with
  | .fieldLinkNest .. => true
  | .methodLinkNest .. => true
  | .castable .. => true
  | .declares .. => true
  | _ => false
def ex_NB : List Cond := lw_tbl.filter ex_nw
def ex_A (g : gl_T) : Nat → Prop := fun q => g.2.2.2.1 ≤ q
def ex_ws (g : gl_T) (S : hs_T) : va_W := va_pl (hs_L S) (hs_E g.2.2.1 S)
def ex_ty (g : gl_T) : List (ClassId × FieldType) := [(g.2.2.1 0, .byte), (g.2.2.1 1, .int), (g.2.2.1 2, .long), (g.2.2.1 3, .boolean), (g.2.2.1 4, .object "java/lang/Object")]
/-- what holds of the tables at a state -/
def ex_KU (g : gl_T) (U : State) : Prop := (∀ w ∈ ex_TB, w.before #[] U = true) ∧ (∀ w ∈ ex_NB, va_Nw w U) ∧ va_K g.2.1 hs_cl (ex_ty g) U ∧ cs_U g.2.2.2.2 U
/-- what holds of the heap below the first address that may change -/
def ex_KH (g : gl_T) (U : State) (H : Heap) : Prop := cs_H g.2.2.2.2 (ex_A g) U H
def ex_WD (g : gl_T) (S : hs_T) (H : Heap) : Prop := va_P g.2.1 hs_cl (ex_ws g S) H ∧ va_D (ex_A g) (ex_ws g S)
theorem ex_TB_good {w : Cond} (h : w ∈ ex_TB) : goodWord w = true := (List.mem_filter.mp h).2
theorem ex_w {g : gl_T} {s : State} (hK : ex_KU g s) {w : Cond} (h : w ∈ ex_TB) (args : Array Value) : w.before args s = true := word_at (State.WarmedH.refl s) (good_of_word (ex_TB_good h)) (hK.1 w h)
theorem ex_ts {g : gl_T} {s : State} (hK : ex_KU g s) (args : Array Value) : ∀ w ∈ ex_TB, w.before args s = true := fun _ h => ex_w hK h args
theorem ex_KU.warm {g : gl_T} {s U : State} (h : ex_KU g s) (hW : s.WarmedH U.vm) : ex_KU g U := by
  obtain ⟨h1, h2, h3, h4⟩ := h
  refine ⟨fun w hw => word_at hW (good_of_word (ex_TB_good hw)) (h1 w hw), fun w hw => ?_, va_K.moved hW.alike h3, h4.warm hW⟩
  have h4 := h2 w hw
  have h5 := (List.mem_filter.mp hw).2
  unfold ex_nw at h5
  split at h5
  · exact va_Nw.warmF hW h4
  · exact va_Nw.warmM hW h4
  · exact va_Nw.warmC hW h4
  · exact va_Nw.warmD hW h4
  · cases h5
theorem ex_KH.moved {g : gl_T} {s U : State} {H : Heap} (h : ex_KH g s H) (hvm : s.vm.Alike U.vm) : ex_KH g U H := cs_H.moved h hvm
theorem ex_KH.kept {g : gl_T} {s : State} {H H1 : Heap} (h : ex_KH g s H) (hq : ∀ a : Nat, a < H.size → ¬ ex_A g a → H1[a]? = H[a]?) : ex_KH g s H1 := cs_H.kept h hq
/-- a method's start, its end -/
def ex_P (g : gl_T) (S : hs_T) (av : List Value) : Array Value → State → Prop := fun v U => v = av.toArray ∧ ex_KU g U ∧ ex_KH g U U.heap ∧ ex_WD g S U.heap ∧ g.2.2.2.1 ≤ U.heap.size
def ex_Q (g : gl_T) (Po : ex_R) (n k rc rs : Nat) : Array Value → State → Outcome → State → Prop := fun a st o t =>
  ∃ (r : Option Value ⊕ String) (S' : hs_T) (kc ks : Nat), Po r S' (n + kc) (k + ks) ∧ kc ≤ rc ∧ ks ≤ rs ∧ ex_WD g S' t.heap ∧ va_F (ex_A g) st t ∧ vx_Q (fun _ _ o _ => ∃ v, r = .inl v ∧ o = .returned v) (fun E _ _ => r = .inr E) kc ks (ex_A g) a st o t
def ex_cw (M : mt_T) : List Cond := Cond.code M.1 M.2.1 M.2.2.1 M.2.2.2 :: ex_TB
def ex_rm (d n k : Nat) : Room := { frames := d, cells := ex_NM - n, slots := ex_KM - k, locals := 64 * d }
/-- the contract of a method: at most d frames deep, from arguments av, a heap S, n cells and k slots used -/
def ex_M (g : gl_T) (d : Nat) (M : mt_T) (av : List Value) (S : hs_T) (n k : Nat) (Po : ex_R) : Prop :=
  g.1.stackTraces = false → n ≤ ex_NM → k ≤ ex_KM → MetFree g.1 M.1 (headSpec (ex_cw M) (ex_rm d n k)) (ex_P g S av) (fun _ _ _ _ _ => True) (ex_Q g Po n k (ex_NM - n) (ex_KM - k))
def ex_S (g : gl_T) (d : Nat) (M : mt_T) (p : Program) (R : Room) (s : State) (m : MethodId) (meth : Method) (c : Code) (n0 k0 : Nat) : Prop :=
  (p.tables.exec = Jvm.exec ∧ c.code = M.2.1 ∧ c.maxLocals = M.2.2.1 ∧ meth.sig.returnType = M.2.2.2 ∧ meth.locks = false) ∧
  (s.vm.findClass M.1.cls = some m.cls ∧ meth.name = M.1.name ∧ ∀ x ∈ c.exceptionTable.toList, False) ∧
  (ex_KU g s ∧ ex_KH g s s.heap ∧ g.2.2.2.1 ≤ s.heap.size ∧ g.1.stackTraces = false) ∧
  (d ≤ R.frames ∧ 64 * d ≤ R.locals ∧ R.cells = ex_NM - n0 ∧ R.slots = ex_KM - k0 ∧ n0 ≤ ex_NM ∧ k0 ≤ ex_KM)
def ex_Z (g : gl_T) (Po : ex_R) (n0 k0 : Nat) (R : Room) (below : List Frame) (a : Array Value) (s : State) : State → Prop := fun t => ∃ o, t.status = .running ∧ Ended t below o ∧ ex_Q g Po n0 k0 R.cells R.slots a s o t
/-- from this place on, with these locals (those that are known) and this stack, the method comes to an end of which Po holds -/
def ex_W (g : gl_T) (d : Nat) (M : mt_T) (Po : ex_R) (pc : Nat) (lv : List (Nat × Value)) (st : List Value) (S : hs_T) (n k : Nat) : Prop :=
  ∀ (p : Program) (e : Env) (R : Room) (s : State) (m : MethodId) (args : Array Value) (below : List Frame) (meth : Method) (c : Code) (H : Heap) (locs : List Loc) (ls : Array Slot) (cells slots n0 k0 : Nat),
    ex_S g d M p R s m meth c n0 k0 → lv_has ls M.2.2.1 lv → ex_WD g S H → va_S (ex_A g) s.heap H locs → n = n0 + cells → k = k0 + slots → n ≤ ex_NM → k ≤ ex_KM →
    W p g.1 e R s m args below meth c H locs cells slots (ex_Z g Po n0 k0 R below args s) (F0 m pc ls st)
theorem ex_Wmono {p : Program} {l : Launch} {e : Env} {R : Room} {s : State} {m : MethodId} {args : Array Value} {below : List Frame} {meth : Method} {c : Code} {H : Heap} {locs : List Loc} {cells slots : Nat} {Q Q' : State → Prop} {g : JFrame} (h : ∀ t, Q t → Q' t) (k : W p l e R s m args below meth c H locs cells slots Q g) : W p l e R s m args below meth c H locs cells slots Q' g := fun T hT X => by
  obtain ⟨t, a, b⟩ := k T hT X
  exact ⟨t, a, h t b⟩
theorem ex_lw {g : gl_T} {d : Nat} {M : mt_T} {Po Po' : ex_R} {pc : Nat} {lv : List (Nat × Value)} {st : List Value} {S : hs_T} {n k : Nat} (h : ∀ r S' n' k', Po r S' n' k' → Po' r S' n' k') (kk : ex_W g d M Po pc lv st S n k) : ex_W g d M Po' pc lv st S n k := by
  intro p e R s m args below meth c H locs ls cells slots n0 k0 C hl hW hS hn hk hN hK
  refine ex_Wmono ?_ (kk p e R s m args below meth c H locs ls cells slots n0 k0 C hl hW hS hn hk hN hK)
  rintro t ⟨o, h1, h2, r, S', kc, ks, h3, h4⟩
  exact ⟨o, h1, h2, r, S', kc, ks, h _ _ _ _ h3, h4⟩
/-- a method by its body -/
theorem ex_enter {g : gl_T} {d : Nat} {M : mt_T} {Po : ex_R} {av : List Value} {S : hs_T} {n k : Nat} (hy : plainName M.1.cls = true) (hlen : (lg_sl av).length ≤ M.2.2.1) (h : ex_W g d M Po 0 (lv_args 0 av) [] S n k) : ex_M g d M av S n k Po := by
  intro hst hn hk
  obtain ⟨y, cc, maxL, ret⟩ := M
  refine MetFree.of_bodyS (code := cc) (maxLocals := maxL) (ret := ret) hy ?_ ?_
  · intro args s m h hn
    obtain ⟨meth, c, h1, h2, h3, h4, h5, h6, -, -⟩ := Cond.code_spec hn (atoms_spec (ws := ex_cw (y, cc, maxL, ret)) h _ List.mem_cons_self)
    exact ⟨meth, c, h1, h2, h3, h4, h5, h6⟩
  · intro p e s m args below meth c s₁ B hml hP _
    have hh0 : s₁.heap = s.heap := by rw [B.state]; rfl
    have ht : ∀ x ∈ c.exceptionTable.toList, False := by
      obtain ⟨meth9, c9, h1, h2, -, -, -, -, h7, -⟩ := Cond.code_spec B.named (atoms_spec (ws := ex_cw (y, cc, maxL, ret)) B.pre _ List.mem_cons_self)
      cases Option.some.inj (h1.symm.trans B.method)
      cases Option.some.inj (h2.symm.trans (Stand.of_body B).code)
      intro x hx
      rw [Array.isEmpty_iff.mp h7] at hx
      cases hx
    obtain ⟨rfl, hKU, hKH, hWD, hbs⟩ := hP
    have C : ex_S g d (y, cc, maxL, ret) p (ex_rm d n k) s m meth c n k := ⟨⟨B.exec, B.bytes, hml, B.returns, B.notSynchronized⟩, ⟨findClass_of_methodNamed B.named, (name_of_methodNamed B.named B.method).1, ht⟩, ⟨hKU, hKH, hbs, hst⟩, ⟨Nat.le_refl _, Nat.le_refl _, rfl, rfl, hn, hk⟩⟩
    have hl := lv_entry av (n := maxL) hlen
    have K := h p e (ex_rm d n k) s m av.toArray below meth c s.heap [] _ 0 0 n k C hl hWD va_S.rf rfl rfl hn hk
    have K2 : W p g.1 e (ex_rm d n k) s m av.toArray below meth c s.heap [] 0 0 (ex_Z g Po n k (ex_rm d n k) below av.toArray s) (entryFrame m av.toArray maxL) := by
      rw [lg_entry_eq]
      exact K
    obtain ⟨t, a1, o, b1, b2, b3⟩ := K2 s₁ hh0 (Stand.of_body B)
    exact ⟨t, o, a1, b1, b2, b3⟩
/-! ends -/
theorem ex_ends {g : gl_T} {d : Nat} {M : mt_T} {Po : ex_R} {S : hs_T} {n k n0 k0 cells slots : Nat} {p : Program} {R : Room} {s : State} {m : MethodId} {args : Array Value} {below : List Frame} {meth : Method} {c : Code} {H : Heap} {locs : List Loc} {v : Option Value}
    (C : ex_S g d M p R s m meth c n0 k0) (hW : ex_WD g S H) (hS : va_S (ex_A g) s.heap H locs) (hn : n = n0 + cells) (hk : k = k0 + slots) (hN : n ≤ ex_NM) (hK : k ≤ ex_KM) (hpo : Po (.inl v) S n k) :
    ∀ t, MQ below (fun _ _ o t => o = .returned v ∧ t.heap = H) args s cells slots (ex_A g) t → ex_Z g Po n0 k0 R below args s t := by
  rintro t ⟨o, h1, h2, ⟨ho, hth⟩, L, h3, h4⟩
  obtain ⟨-, -, -, -, -, hrc, hrs, -, -⟩ := C
  refine ⟨o, h1, h2, .inl v, S, cells, slots, by rw [← hn, ← hk]; exact hpo, by rw [hrc]; omega, by rw [hrs]; omega, by rw [hth]; exact hW, hS.F hth, Or.inl ⟨⟨v, rfl, ho⟩, L, h3, h4⟩⟩
section EXR
variable {g : gl_T} {d : Nat} {M : mt_T} {Po : ex_R} {pc : Nat} {lv : List (Nat × Value)} {st : List Value} {S : hs_T} {n k : Nat}
theorem ex_iret {v : Int32} (hr : M.2.2.2 = some .int) (hdg : decode M.2.1 pc = .ok (.ireturn, 1)) (hpo : Po (.inl (some (.int v))) S n k) : ex_W g d M Po pc lv [.int v] S n k := by
  intro p e R s m args below meth c H locs ls cells slots n0 k0 C hl hW hS hn hk hN hK
  obtain ⟨⟨hx, hb, hml, hrt, hlocks⟩, -⟩ := id C
  exact ex_Wmono (ex_ends C hW hS hn hk hN hK hpo) (W.iret hx hb (hrt.trans hr) (fun t ht _ => ⟨rfl, ht⟩) hS.2.2 hdg hlocks)
theorem ex_lret {v : Int64} (hr : M.2.2.2 = some .long) (hdg : decode M.2.1 pc = .ok (.lreturn, 1)) (hpo : Po (.inl (some (.long v))) S n k) : ex_W g d M Po pc lv [.long v] S n k := by
  intro p e R s m args below meth c H locs ls cells slots n0 k0 C hl hW hS hn hk hN hK
  obtain ⟨⟨hx, hb, hml, hrt, hlocks⟩, -⟩ := id C
  exact ex_Wmono (ex_ends C hW hS hn hk hN hK hpo) (W.lret hx hb (hrt.trans hr) (fun t ht _ => ⟨rfl, ht⟩) hS.2.2 hdg hlocks)
theorem ex_vret (hr : M.2.2.2 = none) (hdg : decode M.2.1 pc = .ok (.return_, 1)) (hpo : Po (.inl none) S n k) : ex_W g d M Po pc lv [] S n k := by
  intro p e R s m args below meth c H locs ls cells slots n0 k0 C hl hW hS hn hk hN hK
  obtain ⟨⟨hx, hb, hml, hrt, hlocks⟩, -⟩ := id C
  exact ex_Wmono (ex_ends C hW hS hn hk hN hK hpo) (W.vret hx hb (hrt.trans hr) (fun t ht _ => ⟨rfl, ht⟩) hS.2.2 hdg hlocks)
theorem ex_aret {v : Option Nat} {rt : FieldType} (hr : M.2.2.2 = some rt) (hrt2 : (∃ n, rt = .object n) ∨ ∃ t, rt = .array t) (hdg : decode M.2.1 pc = .ok (.areturn, 1)) (hpo : Po (.inl (some (va_rf v))) S n k) : ex_W g d M Po pc lv [va_rf v] S n k := by
  intro p e R s m args below meth c H locs ls cells slots n0 k0 C hl hW hS hn hk hN hK
  obtain ⟨⟨hx, hb, hml, hrt, hlocks⟩, -⟩ := id C
  exact ex_Wmono (ex_ends C hW hS hn hk hN hK hpo) (W.aret hx hb (hrt.trans hr) hrt2 (by cases v <;> simp [va_rf]) (fun t ht _ => ⟨rfl, ht⟩) hS.2.2 hdg hlocks)
end EXR
end
section
/-! an instruction, a row -/
def ex_d (M : mt_T) (pc : Nat) (i : Instr) (len pc' : Nat) : Prop := decode M.2.1 pc = .ok (i, len) ∧ pc' = pc + len
section EXR2
variable {g : gl_T} {d : Nat} {M : mt_T} {Po : ex_R} {pc pc' : Nat} {lv : List (Nat × Value)} {st : List Value} {S : hs_T} {n k : Nat}
theorem ex_iconst {q : Int} {v : Int32} (h : ex_d M pc (.iconst q) 1 pc') (hv : Int32.ofInt q = v) (kk : ex_W g d M Po pc' lv (.int v :: st) S n k) : ex_W g d M Po pc lv (st) S n k := by
  intro p e R s m args below meth c H locs ls cells slots n0 k0 C hl hW hS hn hk hN hK
  obtain ⟨⟨hx, hb, hml, hrt, hlocks⟩, ⟨hown, hnm, htab⟩, ⟨hKU, hKH, hbs, hst⟩, hfr, hlo, hrc, hrs, hn0, hk0⟩ := id C
  obtain ⟨hdg, rfl⟩ := h
  exact lv_iconst hx hb hdg hv (kk p e R s m args below meth c H locs ls cells slots n0 k0 C hl hW hS hn hk hN hK)
theorem ex_bipush {q : Int} {v : Int32} (h : ex_d M pc (.bipush q) 2 pc') (hv : (Int8.ofInt q).toInt32 = v) (kk : ex_W g d M Po pc' lv (.int v :: st) S n k) : ex_W g d M Po pc lv (st) S n k := by
  intro p e R s m args below meth c H locs ls cells slots n0 k0 C hl hW hS hn hk hN hK
  obtain ⟨⟨hx, hb, hml, hrt, hlocks⟩, ⟨hown, hnm, htab⟩, ⟨hKU, hKH, hbs, hst⟩, hfr, hlo, hrc, hrs, hn0, hk0⟩ := id C
  obtain ⟨hdg, rfl⟩ := h
  exact lv_bipush hx hb hdg hv (kk p e R s m args below meth c H locs ls cells slots n0 k0 C hl hW hS hn hk hN hK)
theorem ex_sipush {q : Int} {v : Int32} (h : ex_d M pc (.sipush q) 3 pc') (hv : (Int16.ofInt q).toInt32 = v) (kk : ex_W g d M Po pc' lv (.int v :: st) S n k) : ex_W g d M Po pc lv (st) S n k := by
  intro p e R s m args below meth c H locs ls cells slots n0 k0 C hl hW hS hn hk hN hK
  obtain ⟨⟨hx, hb, hml, hrt, hlocks⟩, ⟨hown, hnm, htab⟩, ⟨hKU, hKH, hbs, hst⟩, hfr, hlo, hrc, hrs, hn0, hk0⟩ := id C
  obtain ⟨hdg, rfl⟩ := h
  exact lv_sipush hx hb hdg hv (kk p e R s m args below meth c H locs ls cells slots n0 k0 C hl hW hS hn hk hN hK)
theorem ex_lconst {q : Fin 2} {v : Int64} (h : ex_d M pc (.lconst q) 1 pc') (hv : Int64.ofNat (q : Nat) = v) (kk : ex_W g d M Po pc' lv (.long v :: st) S n k) : ex_W g d M Po pc lv (st) S n k := by
  intro p e R s m args below meth c H locs ls cells slots n0 k0 C hl hW hS hn hk hN hK
  obtain ⟨⟨hx, hb, hml, hrt, hlocks⟩, ⟨hown, hnm, htab⟩, ⟨hKU, hKH, hbs, hst⟩, hfr, hlo, hrc, hrs, hn0, hk0⟩ := id C
  obtain ⟨hdg, rfl⟩ := h
  exact lv_lconst hx hb hdg hv (kk p e R s m args below meth c H locs ls cells slots n0 k0 C hl hW hS hn hk hN hK)
theorem ex_null  (h : ex_d M pc (.aconst_null) 1 pc')  (kk : ex_W g d M Po pc' lv (.null :: st) S n k) : ex_W g d M Po pc lv (st) S n k := by
  intro p e R s m args below meth c H locs ls cells slots n0 k0 C hl hW hS hn hk hN hK
  obtain ⟨⟨hx, hb, hml, hrt, hlocks⟩, ⟨hown, hnm, htab⟩, ⟨hKU, hKH, hbs, hst⟩, hfr, hlo, hrc, hrs, hn0, hk0⟩ := id C
  obtain ⟨hdg, rfl⟩ := h
  exact lv_null hx hb hdg  (kk p e R s m args below meth c H locs ls cells slots n0 k0 C hl hW hS hn hk hN hK)
theorem ex_iadd {x y : Int32} (h : ex_d M pc (.iadd) 1 pc')  (kk : ex_W g d M Po pc' lv (.int (x + y) :: st) S n k) : ex_W g d M Po pc lv (.int y :: .int x :: st) S n k := by
  intro p e R s m args below meth c H locs ls cells slots n0 k0 C hl hW hS hn hk hN hK
  obtain ⟨⟨hx, hb, hml, hrt, hlocks⟩, ⟨hown, hnm, htab⟩, ⟨hKU, hKH, hbs, hst⟩, hfr, hlo, hrc, hrs, hn0, hk0⟩ := id C
  obtain ⟨hdg, rfl⟩ := h
  exact lv_iadd hx hb hdg  (kk p e R s m args below meth c H locs ls cells slots n0 k0 C hl hW hS hn hk hN hK)
theorem ex_isub {x y : Int32} (h : ex_d M pc (.isub) 1 pc')  (kk : ex_W g d M Po pc' lv (.int (x - y) :: st) S n k) : ex_W g d M Po pc lv (.int y :: .int x :: st) S n k := by
  intro p e R s m args below meth c H locs ls cells slots n0 k0 C hl hW hS hn hk hN hK
  obtain ⟨⟨hx, hb, hml, hrt, hlocks⟩, ⟨hown, hnm, htab⟩, ⟨hKU, hKH, hbs, hst⟩, hfr, hlo, hrc, hrs, hn0, hk0⟩ := id C
  obtain ⟨hdg, rfl⟩ := h
  exact lv_isub hx hb hdg  (kk p e R s m args below meth c H locs ls cells slots n0 k0 C hl hW hS hn hk hN hK)
theorem ex_imul {x y : Int32} (h : ex_d M pc (.imul) 1 pc')  (kk : ex_W g d M Po pc' lv (.int (x * y) :: st) S n k) : ex_W g d M Po pc lv (.int y :: .int x :: st) S n k := by
  intro p e R s m args below meth c H locs ls cells slots n0 k0 C hl hW hS hn hk hN hK
  obtain ⟨⟨hx, hb, hml, hrt, hlocks⟩, ⟨hown, hnm, htab⟩, ⟨hKU, hKH, hbs, hst⟩, hfr, hlo, hrc, hrs, hn0, hk0⟩ := id C
  obtain ⟨hdg, rfl⟩ := h
  exact lv_imul hx hb hdg  (kk p e R s m args below meth c H locs ls cells slots n0 k0 C hl hW hS hn hk hN hK)
theorem ex_iand {x y : Int32} (h : ex_d M pc (.iand) 1 pc')  (kk : ex_W g d M Po pc' lv (.int (x &&& y) :: st) S n k) : ex_W g d M Po pc lv (.int y :: .int x :: st) S n k := by
  intro p e R s m args below meth c H locs ls cells slots n0 k0 C hl hW hS hn hk hN hK
  obtain ⟨⟨hx, hb, hml, hrt, hlocks⟩, ⟨hown, hnm, htab⟩, ⟨hKU, hKH, hbs, hst⟩, hfr, hlo, hrc, hrs, hn0, hk0⟩ := id C
  obtain ⟨hdg, rfl⟩ := h
  exact lv_iand hx hb hdg  (kk p e R s m args below meth c H locs ls cells slots n0 k0 C hl hW hS hn hk hN hK)
theorem ex_ior {x y : Int32} (h : ex_d M pc (.ior) 1 pc')  (kk : ex_W g d M Po pc' lv (.int (x ||| y) :: st) S n k) : ex_W g d M Po pc lv (.int y :: .int x :: st) S n k := by
  intro p e R s m args below meth c H locs ls cells slots n0 k0 C hl hW hS hn hk hN hK
  obtain ⟨⟨hx, hb, hml, hrt, hlocks⟩, ⟨hown, hnm, htab⟩, ⟨hKU, hKH, hbs, hst⟩, hfr, hlo, hrc, hrs, hn0, hk0⟩ := id C
  obtain ⟨hdg, rfl⟩ := h
  exact lv_ior hx hb hdg  (kk p e R s m args below meth c H locs ls cells slots n0 k0 C hl hW hS hn hk hN hK)
theorem ex_ixor {x y : Int32} (h : ex_d M pc (.ixor) 1 pc')  (kk : ex_W g d M Po pc' lv (.int (x ^^^ y) :: st) S n k) : ex_W g d M Po pc lv (.int y :: .int x :: st) S n k := by
  intro p e R s m args below meth c H locs ls cells slots n0 k0 C hl hW hS hn hk hN hK
  obtain ⟨⟨hx, hb, hml, hrt, hlocks⟩, ⟨hown, hnm, htab⟩, ⟨hKU, hKH, hbs, hst⟩, hfr, hlo, hrc, hrs, hn0, hk0⟩ := id C
  obtain ⟨hdg, rfl⟩ := h
  exact lv_ixor hx hb hdg  (kk p e R s m args below meth c H locs ls cells slots n0 k0 C hl hW hS hn hk hN hK)
theorem ex_ishl {x y : Int32} (h : ex_d M pc (.ishl) 1 pc')  (kk : ex_W g d M Po pc' lv (.int (x <<< (y &&& 31)) :: st) S n k) : ex_W g d M Po pc lv (.int y :: .int x :: st) S n k := by
  intro p e R s m args below meth c H locs ls cells slots n0 k0 C hl hW hS hn hk hN hK
  obtain ⟨⟨hx, hb, hml, hrt, hlocks⟩, ⟨hown, hnm, htab⟩, ⟨hKU, hKH, hbs, hst⟩, hfr, hlo, hrc, hrs, hn0, hk0⟩ := id C
  obtain ⟨hdg, rfl⟩ := h
  exact lv_ishl hx hb hdg  (kk p e R s m args below meth c H locs ls cells slots n0 k0 C hl hW hS hn hk hN hK)
theorem ex_ishr {x y : Int32} (h : ex_d M pc (.ishr) 1 pc')  (kk : ex_W g d M Po pc' lv (.int (x >>> (y &&& 31)) :: st) S n k) : ex_W g d M Po pc lv (.int y :: .int x :: st) S n k := by
  intro p e R s m args below meth c H locs ls cells slots n0 k0 C hl hW hS hn hk hN hK
  obtain ⟨⟨hx, hb, hml, hrt, hlocks⟩, ⟨hown, hnm, htab⟩, ⟨hKU, hKH, hbs, hst⟩, hfr, hlo, hrc, hrs, hn0, hk0⟩ := id C
  obtain ⟨hdg, rfl⟩ := h
  exact lv_ishr hx hb hdg  (kk p e R s m args below meth c H locs ls cells slots n0 k0 C hl hW hS hn hk hN hK)
theorem ex_idiv {x y : Int32} (h : ex_d M pc (.idiv) 1 pc') (hne : ¬ y = 0) (kk : ex_W g d M Po pc' lv (.int (x / y) :: st) S n k) : ex_W g d M Po pc lv (.int y :: .int x :: st) S n k := by
  intro p e R s m args below meth c H locs ls cells slots n0 k0 C hl hW hS hn hk hN hK
  obtain ⟨⟨hx, hb, hml, hrt, hlocks⟩, ⟨hown, hnm, htab⟩, ⟨hKU, hKH, hbs, hst⟩, hfr, hlo, hrc, hrs, hn0, hk0⟩ := id C
  obtain ⟨hdg, rfl⟩ := h
  exact lv_idiv hx hb hdg hne (kk p e R s m args below meth c H locs ls cells slots n0 k0 C hl hW hS hn hk hN hK)
theorem ex_irem {x y : Int32} (h : ex_d M pc (.irem) 1 pc') (hne : ¬ y = 0) (kk : ex_W g d M Po pc' lv (.int (x - x / y * y) :: st) S n k) : ex_W g d M Po pc lv (.int y :: .int x :: st) S n k := by
  intro p e R s m args below meth c H locs ls cells slots n0 k0 C hl hW hS hn hk hN hK
  obtain ⟨⟨hx, hb, hml, hrt, hlocks⟩, ⟨hown, hnm, htab⟩, ⟨hKU, hKH, hbs, hst⟩, hfr, hlo, hrc, hrs, hn0, hk0⟩ := id C
  obtain ⟨hdg, rfl⟩ := h
  exact lv_irem hx hb hdg hne (kk p e R s m args below meth c H locs ls cells slots n0 k0 C hl hW hS hn hk hN hK)
theorem ex_iushr {x y : Int32} (h : ex_d M pc (.iushr) 1 pc')  (kk : ex_W g d M Po pc' lv (.int ((x.toUInt32 >>> (y.toUInt32 &&& Int32.toUInt32 31)).toInt32) :: st) S n k) : ex_W g d M Po pc lv (.int y :: .int x :: st) S n k := by
  intro p e R s m args below meth c H locs ls cells slots n0 k0 C hl hW hS hn hk hN hK
  obtain ⟨⟨hx, hb, hml, hrt, hlocks⟩, ⟨hown, hnm, htab⟩, ⟨hKU, hKH, hbs, hst⟩, hfr, hlo, hrc, hrs, hn0, hk0⟩ := id C
  obtain ⟨hdg, rfl⟩ := h
  exact lv_iushr hx hb hdg rfl (kk p e R s m args below meth c H locs ls cells slots n0 k0 C hl hW hS hn hk hN hK)
theorem ex_ladd {x y : Int64} (h : ex_d M pc (.ladd) 1 pc')  (kk : ex_W g d M Po pc' lv (.long (x + y) :: st) S n k) : ex_W g d M Po pc lv (.long y :: .long x :: st) S n k := by
  intro p e R s m args below meth c H locs ls cells slots n0 k0 C hl hW hS hn hk hN hK
  obtain ⟨⟨hx, hb, hml, hrt, hlocks⟩, ⟨hown, hnm, htab⟩, ⟨hKU, hKH, hbs, hst⟩, hfr, hlo, hrc, hrs, hn0, hk0⟩ := id C
  obtain ⟨hdg, rfl⟩ := h
  exact lv_ladd hx hb hdg  (kk p e R s m args below meth c H locs ls cells slots n0 k0 C hl hW hS hn hk hN hK)
theorem ex_lsub {x y : Int64} (h : ex_d M pc (.lsub) 1 pc')  (kk : ex_W g d M Po pc' lv (.long (x - y) :: st) S n k) : ex_W g d M Po pc lv (.long y :: .long x :: st) S n k := by
  intro p e R s m args below meth c H locs ls cells slots n0 k0 C hl hW hS hn hk hN hK
  obtain ⟨⟨hx, hb, hml, hrt, hlocks⟩, ⟨hown, hnm, htab⟩, ⟨hKU, hKH, hbs, hst⟩, hfr, hlo, hrc, hrs, hn0, hk0⟩ := id C
  obtain ⟨hdg, rfl⟩ := h
  exact lv_lsub hx hb hdg  (kk p e R s m args below meth c H locs ls cells slots n0 k0 C hl hW hS hn hk hN hK)
theorem ex_lmul {x y : Int64} (h : ex_d M pc (.lmul) 1 pc')  (kk : ex_W g d M Po pc' lv (.long (x * y) :: st) S n k) : ex_W g d M Po pc lv (.long y :: .long x :: st) S n k := by
  intro p e R s m args below meth c H locs ls cells slots n0 k0 C hl hW hS hn hk hN hK
  obtain ⟨⟨hx, hb, hml, hrt, hlocks⟩, ⟨hown, hnm, htab⟩, ⟨hKU, hKH, hbs, hst⟩, hfr, hlo, hrc, hrs, hn0, hk0⟩ := id C
  obtain ⟨hdg, rfl⟩ := h
  exact lv_lmul hx hb hdg  (kk p e R s m args below meth c H locs ls cells slots n0 k0 C hl hW hS hn hk hN hK)
theorem ex_land {x y : Int64} (h : ex_d M pc (.land) 1 pc')  (kk : ex_W g d M Po pc' lv (.long (x &&& y) :: st) S n k) : ex_W g d M Po pc lv (.long y :: .long x :: st) S n k := by
  intro p e R s m args below meth c H locs ls cells slots n0 k0 C hl hW hS hn hk hN hK
  obtain ⟨⟨hx, hb, hml, hrt, hlocks⟩, ⟨hown, hnm, htab⟩, ⟨hKU, hKH, hbs, hst⟩, hfr, hlo, hrc, hrs, hn0, hk0⟩ := id C
  obtain ⟨hdg, rfl⟩ := h
  exact lv_land hx hb hdg  (kk p e R s m args below meth c H locs ls cells slots n0 k0 C hl hW hS hn hk hN hK)
theorem ex_ldiv {x y : Int64} (h : ex_d M pc (.ldiv) 1 pc') (hne : ¬ y = 0) (kk : ex_W g d M Po pc' lv (.long (x / y) :: st) S n k) : ex_W g d M Po pc lv (.long y :: .long x :: st) S n k := by
  intro p e R s m args below meth c H locs ls cells slots n0 k0 C hl hW hS hn hk hN hK
  obtain ⟨⟨hx, hb, hml, hrt, hlocks⟩, ⟨hown, hnm, htab⟩, ⟨hKU, hKH, hbs, hst⟩, hfr, hlo, hrc, hrs, hn0, hk0⟩ := id C
  obtain ⟨hdg, rfl⟩ := h
  exact lv_ldiv hx hb hdg hne (kk p e R s m args below meth c H locs ls cells slots n0 k0 C hl hW hS hn hk hN hK)
theorem ex_lrem {x y : Int64} (h : ex_d M pc (.lrem) 1 pc') (hne : ¬ y = 0) (kk : ex_W g d M Po pc' lv (.long (x - x / y * y) :: st) S n k) : ex_W g d M Po pc lv (.long y :: .long x :: st) S n k := by
  intro p e R s m args below meth c H locs ls cells slots n0 k0 C hl hW hS hn hk hN hK
  obtain ⟨⟨hx, hb, hml, hrt, hlocks⟩, ⟨hown, hnm, htab⟩, ⟨hKU, hKH, hbs, hst⟩, hfr, hlo, hrc, hrs, hn0, hk0⟩ := id C
  obtain ⟨hdg, rfl⟩ := h
  exact lv_lrem hx hb hdg hne (kk p e R s m args below meth c H locs ls cells slots n0 k0 C hl hW hS hn hk hN hK)
theorem ex_i2l {x : Int32} (h : ex_d M pc (.i2l) 1 pc')  (kk : ex_W g d M Po pc' lv (.long x.toInt64 :: st) S n k) : ex_W g d M Po pc lv (.int x :: st) S n k := by
  intro p e R s m args below meth c H locs ls cells slots n0 k0 C hl hW hS hn hk hN hK
  obtain ⟨⟨hx, hb, hml, hrt, hlocks⟩, ⟨hown, hnm, htab⟩, ⟨hKU, hKH, hbs, hst⟩, hfr, hlo, hrc, hrs, hn0, hk0⟩ := id C
  obtain ⟨hdg, rfl⟩ := h
  exact lv_i2l hx hb hdg rfl (kk p e R s m args below meth c H locs ls cells slots n0 k0 C hl hW hS hn hk hN hK)
theorem ex_l2i {x : Int64} (h : ex_d M pc (.l2i) 1 pc')  (kk : ex_W g d M Po pc' lv (.int x.toInt32 :: st) S n k) : ex_W g d M Po pc lv (.long x :: st) S n k := by
  intro p e R s m args below meth c H locs ls cells slots n0 k0 C hl hW hS hn hk hN hK
  obtain ⟨⟨hx, hb, hml, hrt, hlocks⟩, ⟨hown, hnm, htab⟩, ⟨hKU, hKH, hbs, hst⟩, hfr, hlo, hrc, hrs, hn0, hk0⟩ := id C
  obtain ⟨hdg, rfl⟩ := h
  exact lv_l2i hx hb hdg rfl (kk p e R s m args below meth c H locs ls cells slots n0 k0 C hl hW hS hn hk hN hK)
theorem ex_i2b {x : Int32} (h : ex_d M pc (.i2b) 1 pc')  (kk : ex_W g d M Po pc' lv (.int x.toInt8.toInt32 :: st) S n k) : ex_W g d M Po pc lv (.int x :: st) S n k := by
  intro p e R s m args below meth c H locs ls cells slots n0 k0 C hl hW hS hn hk hN hK
  obtain ⟨⟨hx, hb, hml, hrt, hlocks⟩, ⟨hown, hnm, htab⟩, ⟨hKU, hKH, hbs, hst⟩, hfr, hlo, hrc, hrs, hn0, hk0⟩ := id C
  obtain ⟨hdg, rfl⟩ := h
  exact lv_i2b hx hb hdg rfl (kk p e R s m args below meth c H locs ls cells slots n0 k0 C hl hW hS hn hk hN hK)
theorem ex_i2c {x : Int32} {v : Int32} (h : ex_d M pc (.i2c) 1 pc') (hv : (x.toUInt32 % 65536).toInt32 = v) (kk : ex_W g d M Po pc' lv (.int v :: st) S n k) : ex_W g d M Po pc lv (.int x :: st) S n k := by
  intro p e R s m args below meth c H locs ls cells slots n0 k0 C hl hW hS hn hk hN hK
  obtain ⟨⟨hx, hb, hml, hrt, hlocks⟩, ⟨hown, hnm, htab⟩, ⟨hKU, hKH, hbs, hst⟩, hfr, hlo, hrc, hrs, hn0, hk0⟩ := id C
  obtain ⟨hdg, rfl⟩ := h
  exact lv_i2c hx hb hdg hv (kk p e R s m args below meth c H locs ls cells slots n0 k0 C hl hW hS hn hk hN hK)
theorem ex_dup {va : Value} (h : ex_d M pc (.dup) 1 pc') (hva : va.category = 1) (kk : ex_W g d M Po pc' lv (va :: va :: st) S n k) : ex_W g d M Po pc lv (va :: st) S n k := by
  intro p e R s m args below meth c H locs ls cells slots n0 k0 C hl hW hS hn hk hN hK
  obtain ⟨⟨hx, hb, hml, hrt, hlocks⟩, ⟨hown, hnm, htab⟩, ⟨hKU, hKH, hbs, hst⟩, hfr, hlo, hrc, hrs, hn0, hk0⟩ := id C
  obtain ⟨hdg, rfl⟩ := h
  exact lv_dup hx hb hdg hva (kk p e R s m args below meth c H locs ls cells slots n0 k0 C hl hW hS hn hk hN hK)
theorem ex_dup_x1 {va vb : Value} (h : ex_d M pc (.dup_x1) 1 pc') (hva : va.category = 1) (hvb : vb.category = 1) (kk : ex_W g d M Po pc' lv (va :: vb :: va :: st) S n k) : ex_W g d M Po pc lv (va :: vb :: st) S n k := by
  intro p e R s m args below meth c H locs ls cells slots n0 k0 C hl hW hS hn hk hN hK
  obtain ⟨⟨hx, hb, hml, hrt, hlocks⟩, ⟨hown, hnm, htab⟩, ⟨hKU, hKH, hbs, hst⟩, hfr, hlo, hrc, hrs, hn0, hk0⟩ := id C
  obtain ⟨hdg, rfl⟩ := h
  exact lv_dup_x1 hx hb hdg hva hvb (kk p e R s m args below meth c H locs ls cells slots n0 k0 C hl hW hS hn hk hN hK)
theorem ex_dup2_2 {va : Value} (h : ex_d M pc (.dup2) 1 pc') (hva : va.category = 2) (kk : ex_W g d M Po pc' lv (va :: va :: st) S n k) : ex_W g d M Po pc lv (va :: st) S n k := by
  intro p e R s m args below meth c H locs ls cells slots n0 k0 C hl hW hS hn hk hN hK
  obtain ⟨⟨hx, hb, hml, hrt, hlocks⟩, ⟨hown, hnm, htab⟩, ⟨hKU, hKH, hbs, hst⟩, hfr, hlo, hrc, hrs, hn0, hk0⟩ := id C
  obtain ⟨hdg, rfl⟩ := h
  exact lv_dup2_2 hx hb hdg hva (kk p e R s m args below meth c H locs ls cells slots n0 k0 C hl hW hS hn hk hN hK)
theorem ex_dup2_11 {va vb : Value} (h : ex_d M pc (.dup2) 1 pc') (hva : va.category = 1) (hvb : vb.category = 1) (kk : ex_W g d M Po pc' lv (va :: vb :: va :: vb :: st) S n k) : ex_W g d M Po pc lv (va :: vb :: st) S n k := by
  intro p e R s m args below meth c H locs ls cells slots n0 k0 C hl hW hS hn hk hN hK
  obtain ⟨⟨hx, hb, hml, hrt, hlocks⟩, ⟨hown, hnm, htab⟩, ⟨hKU, hKH, hbs, hst⟩, hfr, hlo, hrc, hrs, hn0, hk0⟩ := id C
  obtain ⟨hdg, rfl⟩ := h
  exact lv_dup2_11 hx hb hdg hva hvb (kk p e R s m args below meth c H locs ls cells slots n0 k0 C hl hW hS hn hk hN hK)
theorem ex_pop {va : Value} (h : ex_d M pc (.pop) 1 pc') (hva : va.category = 1) (kk : ex_W g d M Po pc' lv (st) S n k) : ex_W g d M Po pc lv (va :: st) S n k := by
  intro p e R s m args below meth c H locs ls cells slots n0 k0 C hl hW hS hn hk hN hK
  obtain ⟨⟨hx, hb, hml, hrt, hlocks⟩, ⟨hown, hnm, htab⟩, ⟨hKU, hKH, hbs, hst⟩, hfr, hlo, hrc, hrs, hn0, hk0⟩ := id C
  obtain ⟨hdg, rfl⟩ := h
  exact lv_pop hx hb hdg hva (kk p e R s m args below meth c H locs ls cells slots n0 k0 C hl hW hS hn hk hN hK)
theorem ex_iload {i : Nat} {x : Int32} (h : ex_d M pc (.iload i) 2 pc') (j : Nat) (hj : lv[j]? = some (i, .int x)) (kk : ex_W g d M Po pc' lv (.int x :: st) S n k) : ex_W g d M Po pc lv (st) S n k := by
  intro p e R s m args below meth c H locs ls cells slots n0 k0 C hl hW hS hn hk hN hK
  obtain ⟨⟨hx, hb, hml, hrt, hlocks⟩, ⟨hown, hnm, htab⟩, ⟨hKU, hKH, hbs, hst⟩, hfr, hlo, hrc, hrs, hn0, hk0⟩ := id C
  obtain ⟨hdg, rfl⟩ := h
  exact lv_iload hx hb hdg (lv_at hl j hj) (kk p e R s m args below meth c H locs ls cells slots n0 k0 C hl hW hS hn hk hN hK)
theorem ex_iload_n {q : Fin 4} {x : Int32} (h : ex_d M pc (.iload_n q) 1 pc') (j : Nat) (hj : lv[j]? = some ((q : Nat), .int x)) (kk : ex_W g d M Po pc' lv (.int x :: st) S n k) : ex_W g d M Po pc lv (st) S n k := by
  intro p e R s m args below meth c H locs ls cells slots n0 k0 C hl hW hS hn hk hN hK
  obtain ⟨⟨hx, hb, hml, hrt, hlocks⟩, ⟨hown, hnm, htab⟩, ⟨hKU, hKH, hbs, hst⟩, hfr, hlo, hrc, hrs, hn0, hk0⟩ := id C
  obtain ⟨hdg, rfl⟩ := h
  exact lv_iload_n hx hb hdg rfl (lv_at hl j hj) (kk p e R s m args below meth c H locs ls cells slots n0 k0 C hl hW hS hn hk hN hK)
theorem ex_lload {i : Nat} {x : Int64} (h : ex_d M pc (.lload i) 2 pc') (j : Nat) (hj : lv[j]? = some (i, .long x)) (kk : ex_W g d M Po pc' lv (.long x :: st) S n k) : ex_W g d M Po pc lv (st) S n k := by
  intro p e R s m args below meth c H locs ls cells slots n0 k0 C hl hW hS hn hk hN hK
  obtain ⟨⟨hx, hb, hml, hrt, hlocks⟩, ⟨hown, hnm, htab⟩, ⟨hKU, hKH, hbs, hst⟩, hfr, hlo, hrc, hrs, hn0, hk0⟩ := id C
  obtain ⟨hdg, rfl⟩ := h
  exact lv_lload hx hb hdg (lv_at hl j hj) (kk p e R s m args below meth c H locs ls cells slots n0 k0 C hl hW hS hn hk hN hK)
theorem ex_lload_n {q : Fin 4} {x : Int64} (h : ex_d M pc (.lload_n q) 1 pc') (j : Nat) (hj : lv[j]? = some ((q : Nat), .long x)) (kk : ex_W g d M Po pc' lv (.long x :: st) S n k) : ex_W g d M Po pc lv (st) S n k := by
  intro p e R s m args below meth c H locs ls cells slots n0 k0 C hl hW hS hn hk hN hK
  obtain ⟨⟨hx, hb, hml, hrt, hlocks⟩, ⟨hown, hnm, htab⟩, ⟨hKU, hKH, hbs, hst⟩, hfr, hlo, hrc, hrs, hn0, hk0⟩ := id C
  obtain ⟨hdg, rfl⟩ := h
  exact lv_lload_n hx hb hdg rfl (lv_at hl j hj) (kk p e R s m args below meth c H locs ls cells slots n0 k0 C hl hW hS hn hk hN hK)
theorem ex_aload {i : Nat} {x : Nat} (h : ex_d M pc (.aload i) 2 pc') (j : Nat) (hj : lv[j]? = some (i, .ref x)) (kk : ex_W g d M Po pc' lv (.ref x :: st) S n k) : ex_W g d M Po pc lv (st) S n k := by
  intro p e R s m args below meth c H locs ls cells slots n0 k0 C hl hW hS hn hk hN hK
  obtain ⟨⟨hx, hb, hml, hrt, hlocks⟩, ⟨hown, hnm, htab⟩, ⟨hKU, hKH, hbs, hst⟩, hfr, hlo, hrc, hrs, hn0, hk0⟩ := id C
  obtain ⟨hdg, rfl⟩ := h
  exact lv_aload hx hb hdg (lv_at hl j hj) (kk p e R s m args below meth c H locs ls cells slots n0 k0 C hl hW hS hn hk hN hK)
theorem ex_aload_n {q : Fin 4} {x : Nat} (h : ex_d M pc (.aload_n q) 1 pc') (j : Nat) (hj : lv[j]? = some ((q : Nat), .ref x)) (kk : ex_W g d M Po pc' lv (.ref x :: st) S n k) : ex_W g d M Po pc lv (st) S n k := by
  intro p e R s m args below meth c H locs ls cells slots n0 k0 C hl hW hS hn hk hN hK
  obtain ⟨⟨hx, hb, hml, hrt, hlocks⟩, ⟨hown, hnm, htab⟩, ⟨hKU, hKH, hbs, hst⟩, hfr, hlo, hrc, hrs, hn0, hk0⟩ := id C
  obtain ⟨hdg, rfl⟩ := h
  exact lv_aload_n hx hb hdg rfl (lv_at hl j hj) (kk p e R s m args below meth c H locs ls cells slots n0 k0 C hl hW hS hn hk hN hK)
theorem ex_aloadN {i : Nat} (h : ex_d M pc (.aload i) 2 pc') (j : Nat) (hj : lv[j]? = some (i, .null)) (kk : ex_W g d M Po pc' lv (.null :: st) S n k) : ex_W g d M Po pc lv (st) S n k := by
  intro p e R s m args below meth c H locs ls cells slots n0 k0 C hl hW hS hn hk hN hK
  obtain ⟨⟨hx, hb, hml, hrt, hlocks⟩, ⟨hown, hnm, htab⟩, ⟨hKU, hKH, hbs, hst⟩, hfr, hlo, hrc, hrs, hn0, hk0⟩ := id C
  obtain ⟨hdg, rfl⟩ := h
  exact lv_aloadN hx hb hdg (lv_at hl j hj) (kk p e R s m args below meth c H locs ls cells slots n0 k0 C hl hW hS hn hk hN hK)
theorem ex_aload_nN {q : Fin 4} (h : ex_d M pc (.aload_n q) 1 pc') (j : Nat) (hj : lv[j]? = some ((q : Nat), .null)) (kk : ex_W g d M Po pc' lv (.null :: st) S n k) : ex_W g d M Po pc lv (st) S n k := by
  intro p e R s m args below meth c H locs ls cells slots n0 k0 C hl hW hS hn hk hN hK
  obtain ⟨⟨hx, hb, hml, hrt, hlocks⟩, ⟨hown, hnm, htab⟩, ⟨hKU, hKH, hbs, hst⟩, hfr, hlo, hrc, hrs, hn0, hk0⟩ := id C
  obtain ⟨hdg, rfl⟩ := h
  exact lv_aload_nN hx hb hdg rfl (lv_at hl j hj) (kk p e R s m args below meth c H locs ls cells slots n0 k0 C hl hW hS hn hk hN hK)
theorem ex_aloadQ {i : Nat} {v : Option Nat} (h : ex_d M pc (.aload i) 2 pc') (j : Nat) (hj : lv[j]? = some (i, va_rf v)) (kk : ex_W g d M Po pc' lv (va_rf v :: st) S n k) : ex_W g d M Po pc lv st S n k := by
  cases v with
  | none => exact ex_aloadN h j hj kk
  | some x => exact ex_aload h j hj kk
theorem ex_aload_nQ {q : Fin 4} {v : Option Nat} (h : ex_d M pc (.aload_n q) 1 pc') (j : Nat) (hj : lv[j]? = some ((q : Nat), va_rf v)) (kk : ex_W g d M Po pc' lv (va_rf v :: st) S n k) : ex_W g d M Po pc lv st S n k := by
  cases v with
  | none => exact ex_aload_nN h j hj kk
  | some x => exact ex_aload_n h j hj kk
theorem ex_istore {i : Nat} {x : Int32} (lv' : List (Nat × Value)) (h : ex_d M pc (.istore i) 2 pc') (hi : i < M.2.2.1) (hlv : (i, Value.int x) :: lv.filter (fun z => !(z.1 == i) && !(z.1 + 1 == i && z.2.category == 2)) = lv') (kk : ex_W g d M Po pc' lv' st S n k) : ex_W g d M Po pc lv (.int x :: st) S n k := by
  intro p e R s m args below meth c H locs ls cells slots n0 k0 C hl hW hS hn hk hN hK
  obtain ⟨⟨hx, hb, hml, hrt, hlocks⟩, ⟨hown, hnm, htab⟩, ⟨hKU, hKH, hbs, hst⟩, hfr, hlo, hrc, hrs, hn0, hk0⟩ := id C
  obtain ⟨hdg, rfl⟩ := h
  exact lv_istore hx hb hdg  hl hi hlv (fun ls hl => kk p e R s m args below meth c H locs ls cells slots n0 k0 C hl hW hS hn hk hN hK)
theorem ex_istore_n {q : Fin 4} {x : Int32} (lv' : List (Nat × Value)) (h : ex_d M pc (.istore_n q) 1 pc') (hi : (q : Nat) < M.2.2.1) (hlv : ((q : Nat), Value.int x) :: lv.filter (fun z => !(z.1 == (q : Nat)) && !(z.1 + 1 == (q : Nat) && z.2.category == 2)) = lv') (kk : ex_W g d M Po pc' lv' st S n k) : ex_W g d M Po pc lv (.int x :: st) S n k := by
  intro p e R s m args below meth c H locs ls cells slots n0 k0 C hl hW hS hn hk hN hK
  obtain ⟨⟨hx, hb, hml, hrt, hlocks⟩, ⟨hown, hnm, htab⟩, ⟨hKU, hKH, hbs, hst⟩, hfr, hlo, hrc, hrs, hn0, hk0⟩ := id C
  obtain ⟨hdg, rfl⟩ := h
  exact lv_istore_n hx hb hdg rfl hl hi hlv (fun ls hl => kk p e R s m args below meth c H locs ls cells slots n0 k0 C hl hW hS hn hk hN hK)
theorem ex_lstore {i : Nat} {x : Int64} (lv' : List (Nat × Value)) (h : ex_d M pc (.lstore i) 2 pc') (hi : i + 1 < M.2.2.1) (hlv : (i, Value.long x) :: lv.filter (fun z => !(z.1 == i) && (!(z.1 == i + 1) && !(z.1 + 1 == i && z.2.category == 2))) = lv') (kk : ex_W g d M Po pc' lv' st S n k) : ex_W g d M Po pc lv (.long x :: st) S n k := by
  intro p e R s m args below meth c H locs ls cells slots n0 k0 C hl hW hS hn hk hN hK
  obtain ⟨⟨hx, hb, hml, hrt, hlocks⟩, ⟨hown, hnm, htab⟩, ⟨hKU, hKH, hbs, hst⟩, hfr, hlo, hrc, hrs, hn0, hk0⟩ := id C
  obtain ⟨hdg, rfl⟩ := h
  exact lv_lstore hx hb hdg  hl hi hlv (fun ls hl => kk p e R s m args below meth c H locs ls cells slots n0 k0 C hl hW hS hn hk hN hK)
theorem ex_lstore_n {q : Fin 4} {x : Int64} (lv' : List (Nat × Value)) (h : ex_d M pc (.lstore_n q) 1 pc') (hi : (q : Nat) + 1 < M.2.2.1) (hlv : ((q : Nat), Value.long x) :: lv.filter (fun z => !(z.1 == (q : Nat)) && (!(z.1 == (q : Nat) + 1) && !(z.1 + 1 == (q : Nat) && z.2.category == 2))) = lv') (kk : ex_W g d M Po pc' lv' st S n k) : ex_W g d M Po pc lv (.long x :: st) S n k := by
  intro p e R s m args below meth c H locs ls cells slots n0 k0 C hl hW hS hn hk hN hK
  obtain ⟨⟨hx, hb, hml, hrt, hlocks⟩, ⟨hown, hnm, htab⟩, ⟨hKU, hKH, hbs, hst⟩, hfr, hlo, hrc, hrs, hn0, hk0⟩ := id C
  obtain ⟨hdg, rfl⟩ := h
  exact lv_lstore_n hx hb hdg rfl hl hi hlv (fun ls hl => kk p e R s m args below meth c H locs ls cells slots n0 k0 C hl hW hS hn hk hN hK)
theorem ex_astore {i : Nat} {x : Nat} (lv' : List (Nat × Value)) (h : ex_d M pc (.astore i) 2 pc') (hi : i < M.2.2.1) (hlv : (i, Value.ref x) :: lv.filter (fun z => !(z.1 == i) && !(z.1 + 1 == i && z.2.category == 2)) = lv') (kk : ex_W g d M Po pc' lv' st S n k) : ex_W g d M Po pc lv (.ref x :: st) S n k := by
  intro p e R s m args below meth c H locs ls cells slots n0 k0 C hl hW hS hn hk hN hK
  obtain ⟨⟨hx, hb, hml, hrt, hlocks⟩, ⟨hown, hnm, htab⟩, ⟨hKU, hKH, hbs, hst⟩, hfr, hlo, hrc, hrs, hn0, hk0⟩ := id C
  obtain ⟨hdg, rfl⟩ := h
  exact lv_astore hx hb hdg  hl hi hlv (fun ls hl => kk p e R s m args below meth c H locs ls cells slots n0 k0 C hl hW hS hn hk hN hK)
theorem ex_astore_n {q : Fin 4} {x : Nat} (lv' : List (Nat × Value)) (h : ex_d M pc (.astore_n q) 1 pc') (hi : (q : Nat) < M.2.2.1) (hlv : ((q : Nat), Value.ref x) :: lv.filter (fun z => !(z.1 == (q : Nat)) && !(z.1 + 1 == (q : Nat) && z.2.category == 2)) = lv') (kk : ex_W g d M Po pc' lv' st S n k) : ex_W g d M Po pc lv (.ref x :: st) S n k := by
  intro p e R s m args below meth c H locs ls cells slots n0 k0 C hl hW hS hn hk hN hK
  obtain ⟨⟨hx, hb, hml, hrt, hlocks⟩, ⟨hown, hnm, htab⟩, ⟨hKU, hKH, hbs, hst⟩, hfr, hlo, hrc, hrs, hn0, hk0⟩ := id C
  obtain ⟨hdg, rfl⟩ := h
  exact lv_astore_n hx hb hdg rfl hl hi hlv (fun ls hl => kk p e R s m args below meth c H locs ls cells slots n0 k0 C hl hW hS hn hk hN hK)
theorem ex_astoreN {i : Nat} (lv' : List (Nat × Value)) (h : ex_d M pc (.astore i) 2 pc') (hi : i < M.2.2.1) (hlv : (i, Value.null) :: lv.filter (fun z => !(z.1 == i) && !(z.1 + 1 == i && z.2.category == 2)) = lv') (kk : ex_W g d M Po pc' lv' st S n k) : ex_W g d M Po pc lv (.null :: st) S n k := by
  intro p e R s m args below meth c H locs ls cells slots n0 k0 C hl hW hS hn hk hN hK
  obtain ⟨⟨hx, hb, hml, hrt, hlocks⟩, ⟨hown, hnm, htab⟩, ⟨hKU, hKH, hbs, hst⟩, hfr, hlo, hrc, hrs, hn0, hk0⟩ := id C
  obtain ⟨hdg, rfl⟩ := h
  exact lv_astoreN hx hb hdg  hl hi hlv (fun ls hl => kk p e R s m args below meth c H locs ls cells slots n0 k0 C hl hW hS hn hk hN hK)
theorem ex_astoreQ {i : Nat} {v : Option Nat} (lv' : List (Nat × Value)) (h : ex_d M pc (.astore i) 2 pc') (hi : i < M.2.2.1) (hlv : (i, va_rf v) :: lv.filter (fun z => !(z.1 == i) && !(z.1 + 1 == i && z.2.category == 2)) = lv') (kk : ex_W g d M Po pc' lv' st S n k) : ex_W g d M Po pc lv (va_rf v :: st) S n k := by
  cases v with
  | none => exact ex_astoreN lv' h hi hlv kk
  | some x => exact ex_astore lv' h hi hlv kk
theorem ex_astore_nN {q : Fin 4} (lv' : List (Nat × Value)) (h : ex_d M pc (.astore_n q) 1 pc') (hi : (q : Nat) < M.2.2.1) (hlv : ((q : Nat), Value.null) :: lv.filter (fun z => !(z.1 == (q : Nat)) && !(z.1 + 1 == (q : Nat) && z.2.category == 2)) = lv') (kk : ex_W g d M Po pc' lv' st S n k) : ex_W g d M Po pc lv (.null :: st) S n k := by
  intro p e R s m args below meth c H locs ls cells slots n0 k0 C hl hW hS hn hk hN hK
  obtain ⟨⟨hx, hb, hml, hrt, hlocks⟩, ⟨hown, hnm, htab⟩, ⟨hKU, hKH, hbs, hst⟩, hfr, hlo, hrc, hrs, hn0, hk0⟩ := id C
  obtain ⟨hdg, rfl⟩ := h
  exact lv_astore_nN hx hb hdg rfl hl hi hlv (fun ls hl => kk p e R s m args below meth c H locs ls cells slots n0 k0 C hl hW hS hn hk hN hK)
theorem ex_astore_nQ {q : Fin 4} {v : Option Nat} (lv' : List (Nat × Value)) (h : ex_d M pc (.astore_n q) 1 pc') (hi : (q : Nat) < M.2.2.1) (hlv : ((q : Nat), va_rf v) :: lv.filter (fun z => !(z.1 == (q : Nat)) && !(z.1 + 1 == (q : Nat) && z.2.category == 2)) = lv') (kk : ex_W g d M Po pc' lv' st S n k) : ex_W g d M Po pc lv (va_rf v :: st) S n k := by
  cases v with
  | none => exact ex_astore_nN lv' h hi hlv kk
  | some x => exact ex_astore_n lv' h hi hlv kk
theorem ex_iinc {i : Nat} {q : Int} {x v : Int32} (j : Nat) (lv' : List (Nat × Value)) (h : ex_d M pc (.iinc i q) 3 pc') (hj : lv[j]? = some (i, .int x)) (hv : x + Int32.ofInt q = v) (hi : i < M.2.2.1) (hlv : (i, Value.int v) :: lv.filter (fun z => !(z.1 == i) && !(z.1 + 1 == i && z.2.category == 2)) = lv') (kk : ex_W g d M Po pc' lv' st S n k) : ex_W g d M Po pc lv st S n k := by
  intro p e R s m args below meth c H locs ls cells slots n0 k0 C hl hW hS hn hk hN hK
  obtain ⟨⟨hx, hb, hml, hrt, hlocks⟩, ⟨hown, hnm, htab⟩, ⟨hKU, hKH, hbs, hst⟩, hfr, hlo, hrc, hrs, hn0, hk0⟩ := id C
  obtain ⟨hdg, rfl⟩ := h
  exact lv_iinc hx hb hdg hl hj hv hi hlv (fun ls hl => kk p e R s m args below meth c H locs ls cells slots n0 k0 C hl hW hS hn hk hN hK)
theorem ex_if_eq {x : Int32} {off : Int} {tgt : Nat} (h : ex_d M pc (.ifCond .eq off) 3 pc') (ht : (pc : Int) + off = (tgt : Int)) (kt : x = 0 → ex_W g d M Po tgt lv st S n k) (kf : ¬ x = 0 → ex_W g d M Po pc' lv st S n k) : ex_W g d M Po pc lv (.int x :: st) S n k := by
  intro p e R s m args below meth c H locs ls cells slots n0 k0 C hl hW hS hn hk hN hK
  obtain ⟨⟨hx, hb, hml, hrt, hlocks⟩, ⟨hown, hnm, htab⟩, ⟨hKU, hKH, hbs, hst⟩, hfr, hlo, hrc, hrs, hn0, hk0⟩ := id C
  obtain ⟨hdg, rfl⟩ := h
  exact lv_if_eq hx hb hdg ht (fun hc => kt hc p e R s m args below meth c H locs ls cells slots n0 k0 C hl hW hS hn hk hN hK) (fun hc => kf hc p e R s m args below meth c H locs ls cells slots n0 k0 C hl hW hS hn hk hN hK)
theorem ex_icmp_eq {x y : Int32} {off : Int} {tgt : Nat} (h : ex_d M pc (.if_icmp .eq off) 3 pc') (ht : (pc : Int) + off = (tgt : Int)) (kt : x = y → ex_W g d M Po tgt lv st S n k) (kf : ¬ x = y → ex_W g d M Po pc' lv st S n k) : ex_W g d M Po pc lv (.int y :: .int x :: st) S n k := by
  intro p e R s m args below meth c H locs ls cells slots n0 k0 C hl hW hS hn hk hN hK
  obtain ⟨⟨hx, hb, hml, hrt, hlocks⟩, ⟨hown, hnm, htab⟩, ⟨hKU, hKH, hbs, hst⟩, hfr, hlo, hrc, hrs, hn0, hk0⟩ := id C
  obtain ⟨hdg, rfl⟩ := h
  exact lv_icmp_eq hx hb hdg ht (fun hc => kt hc p e R s m args below meth c H locs ls cells slots n0 k0 C hl hW hS hn hk hN hK) (fun hc => kf hc p e R s m args below meth c H locs ls cells slots n0 k0 C hl hW hS hn hk hN hK)
theorem ex_if_ne {x : Int32} {off : Int} {tgt : Nat} (h : ex_d M pc (.ifCond .ne off) 3 pc') (ht : (pc : Int) + off = (tgt : Int)) (kt : ¬ x = 0 → ex_W g d M Po tgt lv st S n k) (kf : x = 0 → ex_W g d M Po pc' lv st S n k) : ex_W g d M Po pc lv (.int x :: st) S n k := by
  intro p e R s m args below meth c H locs ls cells slots n0 k0 C hl hW hS hn hk hN hK
  obtain ⟨⟨hx, hb, hml, hrt, hlocks⟩, ⟨hown, hnm, htab⟩, ⟨hKU, hKH, hbs, hst⟩, hfr, hlo, hrc, hrs, hn0, hk0⟩ := id C
  obtain ⟨hdg, rfl⟩ := h
  exact lv_if_ne hx hb hdg ht (fun hc => kt hc p e R s m args below meth c H locs ls cells slots n0 k0 C hl hW hS hn hk hN hK) (fun hc => kf hc p e R s m args below meth c H locs ls cells slots n0 k0 C hl hW hS hn hk hN hK)
theorem ex_icmp_ne {x y : Int32} {off : Int} {tgt : Nat} (h : ex_d M pc (.if_icmp .ne off) 3 pc') (ht : (pc : Int) + off = (tgt : Int)) (kt : ¬ x = y → ex_W g d M Po tgt lv st S n k) (kf : x = y → ex_W g d M Po pc' lv st S n k) : ex_W g d M Po pc lv (.int y :: .int x :: st) S n k := by
  intro p e R s m args below meth c H locs ls cells slots n0 k0 C hl hW hS hn hk hN hK
  obtain ⟨⟨hx, hb, hml, hrt, hlocks⟩, ⟨hown, hnm, htab⟩, ⟨hKU, hKH, hbs, hst⟩, hfr, hlo, hrc, hrs, hn0, hk0⟩ := id C
  obtain ⟨hdg, rfl⟩ := h
  exact lv_icmp_ne hx hb hdg ht (fun hc => kt hc p e R s m args below meth c H locs ls cells slots n0 k0 C hl hW hS hn hk hN hK) (fun hc => kf hc p e R s m args below meth c H locs ls cells slots n0 k0 C hl hW hS hn hk hN hK)
theorem ex_if_lt {x : Int32} {off : Int} {tgt : Nat} (h : ex_d M pc (.ifCond .lt off) 3 pc') (ht : (pc : Int) + off = (tgt : Int)) (kt : x < 0 → ex_W g d M Po tgt lv st S n k) (kf : ¬ x < 0 → ex_W g d M Po pc' lv st S n k) : ex_W g d M Po pc lv (.int x :: st) S n k := by
  intro p e R s m args below meth c H locs ls cells slots n0 k0 C hl hW hS hn hk hN hK
  obtain ⟨⟨hx, hb, hml, hrt, hlocks⟩, ⟨hown, hnm, htab⟩, ⟨hKU, hKH, hbs, hst⟩, hfr, hlo, hrc, hrs, hn0, hk0⟩ := id C
  obtain ⟨hdg, rfl⟩ := h
  exact lv_if_lt hx hb hdg ht (fun hc => kt hc p e R s m args below meth c H locs ls cells slots n0 k0 C hl hW hS hn hk hN hK) (fun hc => kf hc p e R s m args below meth c H locs ls cells slots n0 k0 C hl hW hS hn hk hN hK)
theorem ex_icmp_lt {x y : Int32} {off : Int} {tgt : Nat} (h : ex_d M pc (.if_icmp .lt off) 3 pc') (ht : (pc : Int) + off = (tgt : Int)) (kt : x < y → ex_W g d M Po tgt lv st S n k) (kf : ¬ x < y → ex_W g d M Po pc' lv st S n k) : ex_W g d M Po pc lv (.int y :: .int x :: st) S n k := by
  intro p e R s m args below meth c H locs ls cells slots n0 k0 C hl hW hS hn hk hN hK
  obtain ⟨⟨hx, hb, hml, hrt, hlocks⟩, ⟨hown, hnm, htab⟩, ⟨hKU, hKH, hbs, hst⟩, hfr, hlo, hrc, hrs, hn0, hk0⟩ := id C
  obtain ⟨hdg, rfl⟩ := h
  exact lv_icmp_lt hx hb hdg ht (fun hc => kt hc p e R s m args below meth c H locs ls cells slots n0 k0 C hl hW hS hn hk hN hK) (fun hc => kf hc p e R s m args below meth c H locs ls cells slots n0 k0 C hl hW hS hn hk hN hK)
theorem ex_if_ge {x : Int32} {off : Int} {tgt : Nat} (h : ex_d M pc (.ifCond .ge off) 3 pc') (ht : (pc : Int) + off = (tgt : Int)) (kt : 0 ≤ x → ex_W g d M Po tgt lv st S n k) (kf : ¬ 0 ≤ x → ex_W g d M Po pc' lv st S n k) : ex_W g d M Po pc lv (.int x :: st) S n k := by
  intro p e R s m args below meth c H locs ls cells slots n0 k0 C hl hW hS hn hk hN hK
  obtain ⟨⟨hx, hb, hml, hrt, hlocks⟩, ⟨hown, hnm, htab⟩, ⟨hKU, hKH, hbs, hst⟩, hfr, hlo, hrc, hrs, hn0, hk0⟩ := id C
  obtain ⟨hdg, rfl⟩ := h
  exact lv_if_ge hx hb hdg ht (fun hc => kt hc p e R s m args below meth c H locs ls cells slots n0 k0 C hl hW hS hn hk hN hK) (fun hc => kf hc p e R s m args below meth c H locs ls cells slots n0 k0 C hl hW hS hn hk hN hK)
theorem ex_icmp_ge {x y : Int32} {off : Int} {tgt : Nat} (h : ex_d M pc (.if_icmp .ge off) 3 pc') (ht : (pc : Int) + off = (tgt : Int)) (kt : y ≤ x → ex_W g d M Po tgt lv st S n k) (kf : ¬ y ≤ x → ex_W g d M Po pc' lv st S n k) : ex_W g d M Po pc lv (.int y :: .int x :: st) S n k := by
  intro p e R s m args below meth c H locs ls cells slots n0 k0 C hl hW hS hn hk hN hK
  obtain ⟨⟨hx, hb, hml, hrt, hlocks⟩, ⟨hown, hnm, htab⟩, ⟨hKU, hKH, hbs, hst⟩, hfr, hlo, hrc, hrs, hn0, hk0⟩ := id C
  obtain ⟨hdg, rfl⟩ := h
  exact lv_icmp_ge hx hb hdg ht (fun hc => kt hc p e R s m args below meth c H locs ls cells slots n0 k0 C hl hW hS hn hk hN hK) (fun hc => kf hc p e R s m args below meth c H locs ls cells slots n0 k0 C hl hW hS hn hk hN hK)
theorem ex_if_gt {x : Int32} {off : Int} {tgt : Nat} (h : ex_d M pc (.ifCond .gt off) 3 pc') (ht : (pc : Int) + off = (tgt : Int)) (kt : 0 < x → ex_W g d M Po tgt lv st S n k) (kf : ¬ 0 < x → ex_W g d M Po pc' lv st S n k) : ex_W g d M Po pc lv (.int x :: st) S n k := by
  intro p e R s m args below meth c H locs ls cells slots n0 k0 C hl hW hS hn hk hN hK
  obtain ⟨⟨hx, hb, hml, hrt, hlocks⟩, ⟨hown, hnm, htab⟩, ⟨hKU, hKH, hbs, hst⟩, hfr, hlo, hrc, hrs, hn0, hk0⟩ := id C
  obtain ⟨hdg, rfl⟩ := h
  exact lv_if_gt hx hb hdg ht (fun hc => kt hc p e R s m args below meth c H locs ls cells slots n0 k0 C hl hW hS hn hk hN hK) (fun hc => kf hc p e R s m args below meth c H locs ls cells slots n0 k0 C hl hW hS hn hk hN hK)
theorem ex_icmp_gt {x y : Int32} {off : Int} {tgt : Nat} (h : ex_d M pc (.if_icmp .gt off) 3 pc') (ht : (pc : Int) + off = (tgt : Int)) (kt : y < x → ex_W g d M Po tgt lv st S n k) (kf : ¬ y < x → ex_W g d M Po pc' lv st S n k) : ex_W g d M Po pc lv (.int y :: .int x :: st) S n k := by
  intro p e R s m args below meth c H locs ls cells slots n0 k0 C hl hW hS hn hk hN hK
  obtain ⟨⟨hx, hb, hml, hrt, hlocks⟩, ⟨hown, hnm, htab⟩, ⟨hKU, hKH, hbs, hst⟩, hfr, hlo, hrc, hrs, hn0, hk0⟩ := id C
  obtain ⟨hdg, rfl⟩ := h
  exact lv_icmp_gt hx hb hdg ht (fun hc => kt hc p e R s m args below meth c H locs ls cells slots n0 k0 C hl hW hS hn hk hN hK) (fun hc => kf hc p e R s m args below meth c H locs ls cells slots n0 k0 C hl hW hS hn hk hN hK)
theorem ex_if_le {x : Int32} {off : Int} {tgt : Nat} (h : ex_d M pc (.ifCond .le off) 3 pc') (ht : (pc : Int) + off = (tgt : Int)) (kt : x ≤ 0 → ex_W g d M Po tgt lv st S n k) (kf : ¬ x ≤ 0 → ex_W g d M Po pc' lv st S n k) : ex_W g d M Po pc lv (.int x :: st) S n k := by
  intro p e R s m args below meth c H locs ls cells slots n0 k0 C hl hW hS hn hk hN hK
  obtain ⟨⟨hx, hb, hml, hrt, hlocks⟩, ⟨hown, hnm, htab⟩, ⟨hKU, hKH, hbs, hst⟩, hfr, hlo, hrc, hrs, hn0, hk0⟩ := id C
  obtain ⟨hdg, rfl⟩ := h
  exact lv_if_le hx hb hdg ht (fun hc => kt hc p e R s m args below meth c H locs ls cells slots n0 k0 C hl hW hS hn hk hN hK) (fun hc => kf hc p e R s m args below meth c H locs ls cells slots n0 k0 C hl hW hS hn hk hN hK)
theorem ex_icmp_le {x y : Int32} {off : Int} {tgt : Nat} (h : ex_d M pc (.if_icmp .le off) 3 pc') (ht : (pc : Int) + off = (tgt : Int)) (kt : x ≤ y → ex_W g d M Po tgt lv st S n k) (kf : ¬ x ≤ y → ex_W g d M Po pc' lv st S n k) : ex_W g d M Po pc lv (.int y :: .int x :: st) S n k := by
  intro p e R s m args below meth c H locs ls cells slots n0 k0 C hl hW hS hn hk hN hK
  obtain ⟨⟨hx, hb, hml, hrt, hlocks⟩, ⟨hown, hnm, htab⟩, ⟨hKU, hKH, hbs, hst⟩, hfr, hlo, hrc, hrs, hn0, hk0⟩ := id C
  obtain ⟨hdg, rfl⟩ := h
  exact lv_icmp_le hx hb hdg ht (fun hc => kt hc p e R s m args below meth c H locs ls cells slots n0 k0 C hl hW hS hn hk hN hK) (fun hc => kf hc p e R s m args below meth c H locs ls cells slots n0 k0 C hl hW hS hn hk hN hK)
theorem ex_acmp_eq {rx ry : Option Nat} {off : Int} {tgt : Nat} (h : ex_d M pc (.if_acmp .eq off) 3 pc') (ht : (pc : Int) + off = (tgt : Int)) (kt : rx = ry → ex_W g d M Po tgt lv st S n k) (kf : ¬ rx = ry → ex_W g d M Po pc' lv st S n k) : ex_W g d M Po pc lv (va_rf ry :: va_rf rx :: st) S n k := by
  intro p e R s m args below meth c H locs ls cells slots n0 k0 C hl hW hS hn hk hN hK
  obtain ⟨⟨hx, hb, hml, hrt, hlocks⟩, ⟨hown, hnm, htab⟩, ⟨hKU, hKH, hbs, hst⟩, hfr, hlo, hrc, hrs, hn0, hk0⟩ := id C
  obtain ⟨hdg, rfl⟩ := h
  exact lv_acmp_eq hx hb hdg ht (fun hc => kt hc p e R s m args below meth c H locs ls cells slots n0 k0 C hl hW hS hn hk hN hK) (fun hc => kf hc p e R s m args below meth c H locs ls cells slots n0 k0 C hl hW hS hn hk hN hK)
theorem ex_acmp_ne {rx ry : Option Nat} {off : Int} {tgt : Nat} (h : ex_d M pc (.if_acmp .ne off) 3 pc') (ht : (pc : Int) + off = (tgt : Int)) (kt : ¬ rx = ry → ex_W g d M Po tgt lv st S n k) (kf : rx = ry → ex_W g d M Po pc' lv st S n k) : ex_W g d M Po pc lv (va_rf ry :: va_rf rx :: st) S n k := by
  intro p e R s m args below meth c H locs ls cells slots n0 k0 C hl hW hS hn hk hN hK
  obtain ⟨⟨hx, hb, hml, hrt, hlocks⟩, ⟨hown, hnm, htab⟩, ⟨hKU, hKH, hbs, hst⟩, hfr, hlo, hrc, hrs, hn0, hk0⟩ := id C
  obtain ⟨hdg, rfl⟩ := h
  exact lv_acmp_ne hx hb hdg ht (fun hc => kt hc p e R s m args below meth c H locs ls cells slots n0 k0 C hl hW hS hn hk hN hK) (fun hc => kf hc p e R s m args below meth c H locs ls cells slots n0 k0 C hl hW hS hn hk hN hK)
theorem ex_goto {off : Int} {tgt : Nat} (h : ex_d M pc (.goto off) 3 pc') (ht : (pc : Int) + off = (tgt : Int)) (kk : ex_W g d M Po tgt lv st S n k) : ex_W g d M Po pc lv st S n k := by
  intro p e R s m args below meth c H locs ls cells slots n0 k0 C hl hW hS hn hk hN hK
  obtain ⟨⟨hx, hb, hml, hrt, hlocks⟩, ⟨hown, hnm, htab⟩, ⟨hKU, hKH, hbs, hst⟩, hfr, hlo, hrc, hrs, hn0, hk0⟩ := id C
  obtain ⟨hdg, rfl⟩ := h
  exact lv_goto hx hb hdg ht (kk p e R s m args below meth c H locs ls cells slots n0 k0 C hl hW hS hn hk hN hK)
theorem ex_ifnull {x : Nat} {off : Int} (h : ex_d M pc (.ifnull off) 3 pc') (kk : ex_W g d M Po pc' lv st S n k) : ex_W g d M Po pc lv (.ref x :: st) S n k := by
  intro p e R s m args below meth c H locs ls cells slots n0 k0 C hl hW hS hn hk hN hK
  obtain ⟨⟨hx, hb, hml, hrt, hlocks⟩, ⟨hown, hnm, htab⟩, ⟨hKU, hKH, hbs, hst⟩, hfr, hlo, hrc, hrs, hn0, hk0⟩ := id C
  obtain ⟨hdg, rfl⟩ := h
  exact lv_ifnull hx hb hdg (kk p e R s m args below meth c H locs ls cells slots n0 k0 C hl hW hS hn hk hN hK)
theorem ex_ifnullN {off : Int} {tgt : Nat} (h : ex_d M pc (.ifnull off) 3 pc') (ht : (pc : Int) + off = (tgt : Int)) (kk : ex_W g d M Po tgt lv st S n k) : ex_W g d M Po pc lv (.null :: st) S n k := by
  intro p e R s m args below meth c H locs ls cells slots n0 k0 C hl hW hS hn hk hN hK
  obtain ⟨⟨hx, hb, hml, hrt, hlocks⟩, ⟨hown, hnm, htab⟩, ⟨hKU, hKH, hbs, hst⟩, hfr, hlo, hrc, hrs, hn0, hk0⟩ := id C
  obtain ⟨hdg, rfl⟩ := h
  exact lv_ifnullN hx hb hdg ht (kk p e R s m args below meth c H locs ls cells slots n0 k0 C hl hW hS hn hk hN hK)
theorem ex_ifnonnull {x : Nat} {off : Int} {tgt : Nat} (h : ex_d M pc (.ifnonnull off) 3 pc') (ht : (pc : Int) + off = (tgt : Int)) (kk : ex_W g d M Po tgt lv st S n k) : ex_W g d M Po pc lv (.ref x :: st) S n k := by
  intro p e R s m args below meth c H locs ls cells slots n0 k0 C hl hW hS hn hk hN hK
  obtain ⟨⟨hx, hb, hml, hrt, hlocks⟩, ⟨hown, hnm, htab⟩, ⟨hKU, hKH, hbs, hst⟩, hfr, hlo, hrc, hrs, hn0, hk0⟩ := id C
  obtain ⟨hdg, rfl⟩ := h
  exact lv_ifnonnull hx hb hdg ht (kk p e R s m args below meth c H locs ls cells slots n0 k0 C hl hW hS hn hk hN hK)
theorem ex_ifnonnullN {off : Int} (h : ex_d M pc (.ifnonnull off) 3 pc') (kk : ex_W g d M Po pc' lv st S n k) : ex_W g d M Po pc lv (.null :: st) S n k := by
  intro p e R s m args below meth c H locs ls cells slots n0 k0 C hl hW hS hn hk hN hK
  obtain ⟨⟨hx, hb, hml, hrt, hlocks⟩, ⟨hown, hnm, htab⟩, ⟨hKU, hKH, hbs, hst⟩, hfr, hlo, hrc, hrs, hn0, hk0⟩ := id C
  obtain ⟨hdg, rfl⟩ := h
  exact lv_ifnonnullN hx hb hdg (kk p e R s m args below meth c H locs ls cells slots n0 k0 C hl hW hS hn hk hN hK)
theorem ex_tableIn {dflt lo hi : Int} {offs : Array Int} {len : Nat} {x : Int32} {off : Int} {tgt : Nat} (h : ex_d M pc (.tableswitch dflt lo hi offs) len pc') (h1 : ¬ x.toInt < lo) (h2 : ¬ hi < x.toInt) (ho : offs[(x.toInt - lo).toNat]? = some off) (ht : (pc : Int) + off = (tgt : Int)) (kk : ex_W g d M Po tgt lv st S n k) : ex_W g d M Po pc lv (.int x :: st) S n k := by
  intro p e R s m args below meth c H locs ls cells slots n0 k0 C hl hW hS hn hk hN hK
  obtain ⟨⟨hx, hb, hml, hrt, hlocks⟩, ⟨hown, hnm, htab⟩, ⟨hKU, hKH, hbs, hst⟩, hfr, hlo, hrc, hrs, hn0, hk0⟩ := id C
  obtain ⟨hdg, rfl⟩ := h
  exact lv_tableIn hx hb hdg h1 h2 ho ht (kk p e R s m args below meth c H locs ls cells slots n0 k0 C hl hW hS hn hk hN hK)
theorem ex_tableOut {dflt lo hi : Int} {offs : Array Int} {len : Nat} {x : Int32} {tgt : Nat} (h : ex_d M pc (.tableswitch dflt lo hi offs) len pc') (h1 : x.toInt < lo ∨ hi < x.toInt) (ht : (pc : Int) + dflt = (tgt : Int)) (kk : ex_W g d M Po tgt lv st S n k) : ex_W g d M Po pc lv (.int x :: st) S n k := by
  intro p e R s m args below meth c H locs ls cells slots n0 k0 C hl hW hS hn hk hN hK
  obtain ⟨⟨hx, hb, hml, hrt, hlocks⟩, ⟨hown, hnm, htab⟩, ⟨hKU, hKH, hbs, hst⟩, hfr, hlo, hrc, hrs, hn0, hk0⟩ := id C
  obtain ⟨hdg, rfl⟩ := h
  exact lv_tableOut hx hb hdg h1 ht (kk p e R s m args below meth c H locs ls cells slots n0 k0 C hl hW hS hn hk hN hK)
theorem ex_ldc {i : Nat} {v : Int32} (h : ex_d M pc (.ldc i) 2 pc') (hw : Cond.constant M.1.cls i v ∈ ex_TB) (kk : ex_W g d M Po pc' lv (.int v :: st) S n k) : ex_W g d M Po pc lv st S n k := by
  intro p e R s m args below meth c H locs ls cells slots n0 k0 C hl hW hS hn hk hN hK
  obtain ⟨⟨hx, hb, hml, hrt, hlocks⟩, ⟨hown, hnm, htab⟩, ⟨hKU, hKH, hbs, hst⟩, hfr, hlo, hrc, hrs, hn0, hk0⟩ := id C
  obtain ⟨hdg, rfl⟩ := h
  exact lv_ldc hx hb hown (ex_w hKU hw args) hdg (kk p e R s m args below meth c H locs ls cells slots n0 k0 C hl hW hS hn hk hN hK)
theorem ex_ldcw {i : Nat} {v : Int32} (h : ex_d M pc (.ldc_w i) 3 pc') (hw : Cond.constant M.1.cls i v ∈ ex_TB) (kk : ex_W g d M Po pc' lv (.int v :: st) S n k) : ex_W g d M Po pc lv st S n k := by
  intro p e R s m args below meth c H locs ls cells slots n0 k0 C hl hW hS hn hk hN hK
  obtain ⟨⟨hx, hb, hml, hrt, hlocks⟩, ⟨hown, hnm, htab⟩, ⟨hKU, hKH, hbs, hst⟩, hfr, hlo, hrc, hrs, hn0, hk0⟩ := id C
  obtain ⟨hdg, rfl⟩ := h
  exact lv_ldcw hx hb hown (ex_w hKU hw args) hdg (kk p e R s m args below meth c H locs ls cells slots n0 k0 C hl hW hS hn hk hN hK)
theorem ex_ldc2 {i : Nat} {v : Int64} (h : ex_d M pc (.ldc2_w i) 3 pc') (hw : Cond.constantLong M.1.cls i v ∈ ex_TB) (kk : ex_W g d M Po pc' lv (.long v :: st) S n k) : ex_W g d M Po pc lv st S n k := by
  intro p e R s m args below meth c H locs ls cells slots n0 k0 C hl hW hS hn hk hN hK
  obtain ⟨⟨hx, hb, hml, hrt, hlocks⟩, ⟨hown, hnm, htab⟩, ⟨hKU, hKH, hbs, hst⟩, hfr, hlo, hrc, hrs, hn0, hk0⟩ := id C
  obtain ⟨hdg, rfl⟩ := h
  exact lv_ldc2 hx hb hown (ex_w hKU hw args) hdg (kk p e R s m args below meth c H locs ls cells slots n0 k0 C hl hW hS hn hk hN hK)
end EXR2
end
section
/-! fields -/
/-- of every kind: its words are in the tables, its fields' types, their names apart -/
def ex_ck (q : vw_C) : Prop := (∀ w ∈ u_ws q.1 q.2.1 q.2.2, w ∈ ex_TB) ∧ (∃ ty0 : Nat → FieldType, ∀ k, k < q.2.2 → parseFieldDescriptor (q.2.1 k).2.2.1 = some (ty0 k)) ∧ (∀ a, a < q.2.2 → ∀ b, b < q.2.2 → a ≠ b → (q.2.1 a).2.1 ≠ (q.2.1 b).2.1)
/-- own's entry idx is field i of kind kd, of type t: by its own class, inherited, or by a sister of the nest -/
def ex_fl (own : String) (idx kd i t : Nat) : Prop :=
  ∃ q : vw_C, hs_cl[kd]? = some q ∧ kd < 11 ∧ i < q.2.2 ∧ (hs_ft kd)[i]? = some t ∧ ex_ck q ∧
   ((∃ ref, Cond.fieldLink own idx ref (q.2.1 i).2.1 (q.2.1 i).2.2.1 ∈ ex_TB ∧ (ref = (q.2.1 i).1 ∨ Cond.sameField ref (q.2.1 i).1 (q.2.1 i).2.1 (q.2.1 i).2.2.1 ∈ ex_TB)) ∨
    ∃ host, Cond.fieldLinkNest own idx (q.2.1 i).1 (q.2.1 i).2.1 (q.2.1 i).2.2.1 host ∈ ex_NB)
/-- it may be written there, a value of type ty -/
def ex_pf (M : mt_T) (idx kd i : Nat) (ty : FieldType) : Prop :=
  ∃ q : vw_C, hs_cl[kd]? = some q ∧ parseFieldDescriptor (q.2.1 i).2.2.1 = some ty ∧ ((q.2.1 i).2.2.2 = false ∨ ((q.2.1 i).2.2.2 = true ∧ M.1.name = "<init>" ∧ (q.2.1 i).1 = M.1.cls ∧ Cond.fieldLink M.1.cls idx (q.2.1 i).1 (q.2.1 i).2.1 (q.2.1 i).2.2.1 ∈ ex_TB))
section EXF
variable {g : gl_T} {d : Nat} {M : mt_T} {Po : ex_R} {pc pc' : Nat} {lv : List (Nat × Value)} {st : List Value} {S : hs_T} {n k : Nat}
theorem ex_cell {a : Nat} {e : va_E} (hL : a ∈ hs_L S) (he : hs_E g.2.2.1 S a = e) : ∃ j : Nat, (ex_ws g S)[j]? = some (a, e) := by
  obtain ⟨j, hj⟩ := va_pl_get (X := []) (f := hs_E g.2.2.1 S) hL
  rw [he] at hj
  exact ⟨j, hj⟩
theorem ex_same {s : State} {args : Array Value} {ref own n d : String} (hKU : ex_KU g s) (h : ref = own ∨ Cond.sameField ref own n d ∈ ex_TB) : ∀ x, s.fieldFound? own n d = some x → s.fieldFound? ref n d = some x := by
  rcases h with rfl | h
  · exact fun _ h => h
  · exact fun x hx => u_same (ex_w hKU h args) x hx
theorem ex_get {kd i t idx a : Nat} (h : ex_d M pc (.getfield idx) 3 pc') (hf : ex_fl M.1.cls idx kd i t) (hL : a ∈ hs_L S) (hKd : hs_K S a = kd) (kk : ex_W g d M Po pc' lv (hs_V S a i t :: st) S n k) : ex_W g d M Po pc lv (.ref a :: st) S n k := by
  intro p e R s m args below meth c H locs ls cells slots n0 k0 C hl hW hS hn hk hN hK
  obtain ⟨⟨hx, hb, hml, hrt, hlocks⟩, ⟨hown, hnm, htab⟩, ⟨hKU, hKH, hbs, hst⟩, hfr, hlo, hrc, hrs, hn0, hk0⟩ := id C
  obtain ⟨hdg, rfl⟩ := h
  obtain ⟨⟨Cn, T, N⟩, hq, hlt, hi, hft, hck, hlk⟩ := hf
  obtain ⟨j, hj⟩ := ex_cell (g := g) hL (hs_E_obj hKd hlt)
  have hv : (hs_fs S a 0 (hs_ft kd))[i]? = some (hs_V S a i t) := by
    have := hs_fs_at S a (hs_ft kd) 0 i t hft
    rwa [Nat.zero_add] at this
  rcases hlk with ⟨ref, h1, h2⟩ | ⟨host, h1⟩
  · exact va_get hx hb (ex_ts hKU args) hck.1 hown hKU.2.2.1 hW.1 j hj hq i hi (ex_w hKU h1 args) (ex_same (args := args) hKU h2) hv hdg (kk p e R s m args below meth c H locs ls cells slots n0 k0 C hl hW hS hn hk hN hK)
  · exact va_getN hx hb (ex_ts hKU args) hck.1 hown hKU.2.2.1 hW.1 j hj hq i hi (va_Nw.use (by rfl) (hKU.2.1 _ h1)) (fun _ h => h) hv hdg (kk p e R s m args below meth c H locs ls cells slots n0 k0 C hl hW hS hn hk hN hK)
theorem ex_getI {kd i idx a : Nat} (h : ex_d M pc (.getfield idx) 3 pc') (hf : ex_fl M.1.cls idx kd i 0) (hL : a ∈ hs_L S) (hKd : hs_K S a = kd) (kk : ex_W g d M Po pc' lv (.int (hs_I S a i) :: st) S n k) : ex_W g d M Po pc lv (.ref a :: st) S n k := ex_get h hf hL hKd kk
theorem ex_getJ {kd i idx a : Nat} (h : ex_d M pc (.getfield idx) 3 pc') (hf : ex_fl M.1.cls idx kd i 1) (hL : a ∈ hs_L S) (hKd : hs_K S a = kd) (kk : ex_W g d M Po pc' lv (.long (hs_J S a i) :: st) S n k) : ex_W g d M Po pc lv (.ref a :: st) S n k := ex_get h hf hL hKd kk
theorem ex_getQ {kd i idx a : Nat} (h : ex_d M pc (.getfield idx) 3 pc') (hf : ex_fl M.1.cls idx kd i 2) (hL : a ∈ hs_L S) (hKd : hs_K S a = kd) (kk : ex_W g d M Po pc' lv (va_rf (hs_R S a i) :: st) S n k) : ex_W g d M Po pc lv (.ref a :: st) S n k := ex_get h hf hL hKd kk
theorem ex_getR {kd i idx a b : Nat} (h : ex_d M pc (.getfield idx) 3 pc') (hf : ex_fl M.1.cls idx kd i 2) (hL : a ∈ hs_L S) (hKd : hs_K S a = kd) (hv : hs_R S a i = some b) (kk : ex_W g d M Po pc' lv (.ref b :: st) S n k) : ex_W g d M Po pc lv (.ref a :: st) S n k := ex_getQ h hf hL hKd (by rw [hv]; exact kk)
/-- a cell of the world is written -/
theorem ex_set {S' : hs_T} {a j : Nat} {e e' : va_E} {H1 : Heap} (hL : a ∈ hs_L S) (hj : (ex_ws g S)[j]? = some (a, e)) (hee : hs_E g.2.2.1 S a = e) (hL' : hs_L S' = hs_L S) (he' : hs_E g.2.2.1 S' a = e') (hoff : ∀ b, b ≠ a → hs_E g.2.2.1 S b = hs_E g.2.2.1 S' b) (hD0 : va_D (ex_A g) (ex_ws g S))
    (hP : va_P g.2.1 hs_cl ((ex_ws g S).set j (a, e')) H1) (hD : va_D (ex_A g) ((ex_ws g S).set j (a, e'))) : ex_WD g S' H1 := by
  have h1 : (ex_ws g S).set j (a, e') = ex_ws g S' := by
    have hj2 : ([] ++ va_pl (hs_L S) (hs_E g.2.2.1 S))[j]? = some (a, hs_E g.2.2.1 S a) := by rw [hee]; exact hj
    have := va_pl_set (X := []) (L := hs_L S) (f := hs_E g.2.2.1 S) (e := e') hD0 hL hj2
    unfold ex_ws
    rw [hL']
    exact this.trans (va_pl_congr (hs_up he' hoff))
  rw [h1] at hP hD
  exact ⟨hP, hD⟩
theorem ex_put {S' : hs_T} {kd i t idx a : Nat} {v : Value} {ty : FieldType} (h : ex_d M pc (.putfield idx) 3 pc') (hf : ex_fl M.1.cls idx kd i t) (hp : ex_pf M idx kd i ty) (hL : a ∈ hs_L S) (hKd : hs_K S a = kd) (hL' : hs_L S' = hs_L S) (hK' : hs_K S' a = kd) (hset : (hs_fs S a 0 (hs_ft kd)).set i v = hs_fs S' a 0 (hs_ft kd)) (hoff : ∀ b, b ≠ a → hs_E g.2.2.1 S b = hs_E g.2.2.1 S' b)
    (hna : narrow ty v = v) (hfit : fits ty v = true) (kk : ex_W g d M Po pc' lv st S' n k) : ex_W g d M Po pc lv (v :: .ref a :: st) S n k := by
  intro p e R s m args below meth c H locs ls cells slots n0 k0 C hl hW hS hn hk hN hK
  obtain ⟨⟨hx, hb, hml, hrt, hlocks⟩, ⟨hown, hnm, htab⟩, ⟨hKU, hKH, hbs, hst⟩, hfr, hlo, hrc, hrs, hn0, hk0⟩ := id C
  obtain ⟨hdg, rfl⟩ := h
  obtain ⟨⟨Cn, T, N⟩, hq, hlt, hi, hft, ⟨hin, ⟨ty0, hty0⟩, hap⟩, hlk⟩ := hf
  obtain ⟨q2, hq2, hd2, hfin⟩ := hp
  cases Option.some.inj (hq2.symm.trans hq)
  have hee := hs_E_obj (cy := g.2.2.1) hKd hlt
  obtain ⟨j, hj⟩ := ex_cell (g := g) hL hee
  have hlen : i < (hs_fs S a 0 (hs_ft kd)).length := by
    rw [hs_fs_len]; exact (List.getElem?_eq_some_iff.mp hft).1
  have he' : hs_E g.2.2.1 S' a = .inr (kd, (hs_fs S a 0 (hs_ft kd)).set i v) := by rw [hs_E_obj hK' hlt, hset]
  have goal : ∀ (H1 : Heap) (locs1 : List Loc), va_P g.2.1 hs_cl ((ex_ws g S).set j (a, .inr (kd, (hs_fs S a 0 (hs_ft kd)).set i v))) H1 → va_D (ex_A g) ((ex_ws g S).set j (a, .inr (kd, (hs_fs S a 0 (hs_ft kd)).set i v))) → va_S (ex_A g) s.heap H1 locs1 → W p g.1 e R s m args below meth c H1 locs1 cells slots (ex_Z g Po n0 k0 R below args s) (F0 m (pc + 3) ls st) :=
    fun H1 locs1 hP1 hD1 hS1 => kk p e R s m args below meth c H1 locs1 ls cells slots n0 k0 C hl (ex_set hL hj hee hL' he' hoff hW.2 hP1 hD1) hS1 hn hk hN hK
  rcases hfin with hfin | ⟨hfin, hinit, hdecl, hlk2⟩
  · rcases hlk with ⟨ref, h1, h2⟩ | ⟨host, h1⟩
    · exact va_put hx hb (ex_ts hKU args) hin ty0 hty0 hap hown hKU.2.2.1 hW.1 hW.2 hS j hj hq i hi (ex_w hKU h1 args) (ex_same (args := args) hKU h2) hfin hd2 hna hfit hlen hdg goal
    · exact va_putN hx hb (ex_ts hKU args) hin ty0 hty0 hap hown hKU.2.2.1 hW.1 hW.2 hS j hj hq i hi (va_Nw.use (by rfl) (hKU.2.1 _ h1)) (fun _ h => h) hfin hd2 hna hfit hlen hdg goal
  · exact va_putF hx hb (ex_ts hKU args) hin ty0 hty0 hap hown hKU.2.2.1 hW.1 hW.2 hS j hj hq i hi (ex_w hKU hlk2 args) (fun _ h => h) hfin (hnm.trans hinit) hdecl hd2 hna hfit hlen hdg goal
theorem ex_V_sI (S : hs_T) (a i : Nat) (v : Int32) (b j t : Nat) (h : j ≠ i) : hs_V S b j t = hs_V (hs_sI S a i v) b j t := by
  unfold hs_V; split
  · rw [hs_I_sI, if_neg (fun z => h z.2)]
  · rfl
  · rfl
theorem ex_V_sJ (S : hs_T) (a i : Nat) (v : Int64) (b j t : Nat) (h : j ≠ i) : hs_V S b j t = hs_V (hs_sJ S a i v) b j t := by
  unfold hs_V; split
  · rfl
  · rw [hs_J_sJ, if_neg (fun z => h z.2)]
  · rfl
theorem ex_V_sR (S : hs_T) (a i : Nat) (v : Option Nat) (b j t : Nat) (h : j ≠ i) : hs_V S b j t = hs_V (hs_sR S a i v) b j t := by
  unfold hs_V; split
  · rfl
  · rfl
  · rw [hs_R_sR, if_neg (fun z => h z.2)]
theorem ex_putI {kd i idx a : Nat} {v : Int32} (h : ex_d M pc (.putfield idx) 3 pc') (hf : ex_fl M.1.cls idx kd i 0) (hp : ex_pf M idx kd i .int) (hL : a ∈ hs_L S) (hKd : hs_K S a = kd) (kk : ex_W g d M Po pc' lv st (hs_sI S a i v) n k) : ex_W g d M Po pc lv (.int v :: .ref a :: st) S n k := by
  have hft := hf.choose_spec.2.2.2.1
  refine ex_put (S' := hs_sI S a i v) h hf hp hL hKd rfl hKd (hs_fs_set (.int v) _ 0 i 0 hft ?_ (fun j t' hj _ => ex_V_sI S a i v a (0 + j) t' (by omega))) (hs_off_sI _ S a i v) rfl rfl kk
  simp [hs_V, hs_I_sI]
theorem ex_putZ {kd i idx a : Nat} {v : Int32} (h : ex_d M pc (.putfield idx) 3 pc') (hf : ex_fl M.1.cls idx kd i 0) (hp : ex_pf M idx kd i .boolean) (hL : a ∈ hs_L S) (hKd : hs_K S a = kd) (hv : v = 0 ∨ v = 1) (kk : ex_W g d M Po pc' lv st (hs_sI S a i v) n k) : ex_W g d M Po pc lv (.int v :: .ref a :: st) S n k := by
  have hft := hf.choose_spec.2.2.2.1
  refine ex_put (S' := hs_sI S a i v) h hf hp hL hKd rfl hKd (hs_fs_set (.int v) _ 0 i 0 hft ?_ (fun j t' hj _ => ex_V_sI S a i v a (0 + j) t' (by omega))) (hs_off_sI _ S a i v) ?_ ?_ kk
  · simp [hs_V, hs_I_sI]
  · rcases hv with rfl | rfl <;> decide +kernel
  · rcases hv with rfl | rfl <;> decide +kernel
theorem ex_putJ {kd i idx a : Nat} {v : Int64} (h : ex_d M pc (.putfield idx) 3 pc') (hf : ex_fl M.1.cls idx kd i 1) (hp : ex_pf M idx kd i .long) (hL : a ∈ hs_L S) (hKd : hs_K S a = kd) (kk : ex_W g d M Po pc' lv st (hs_sJ S a i v) n k) : ex_W g d M Po pc lv (.long v :: .ref a :: st) S n k := by
  have hft := hf.choose_spec.2.2.2.1
  refine ex_put (S' := hs_sJ S a i v) h hf hp hL hKd rfl hKd (hs_fs_set (.long v) _ 0 i 1 hft ?_ (fun j t' hj _ => ex_V_sJ S a i v a (0 + j) t' (by omega))) (hs_off_sJ _ S a i v) rfl rfl kk
  simp [hs_V, hs_J_sJ]
theorem ex_putQ {kd i idx a : Nat} {v : Option Nat} {ty : FieldType} (h : ex_d M pc (.putfield idx) 3 pc') (hf : ex_fl M.1.cls idx kd i 2) (hp : ex_pf M idx kd i ty) (hty : (∃ n, ty = .object n) ∨ ∃ t, ty = .array t) (hL : a ∈ hs_L S) (hKd : hs_K S a = kd) (kk : ex_W g d M Po pc' lv st (hs_sR S a i v) n k) : ex_W g d M Po pc lv (va_rf v :: .ref a :: st) S n k := by
  have hft := hf.choose_spec.2.2.2.1
  refine ex_put (S' := hs_sR S a i v) h hf hp hL hKd rfl hKd (hs_fs_set (va_rf v) _ 0 i 2 hft ?_ (fun j t' hj _ => ex_V_sR S a i v a (0 + j) t' (by omega))) (hs_off_sR _ S a i v) ?_ ?_ kk
  · simp [hs_V, hs_R_sR]
  · rcases hty with ⟨_, rfl⟩ | ⟨_, rfl⟩ <;> cases v <;> rfl
  · rcases hty with ⟨_, rfl⟩ | ⟨_, rfl⟩ <;> cases v <;> rfl
theorem ex_putR {kd i idx a b : Nat} {ty : FieldType} (h : ex_d M pc (.putfield idx) 3 pc') (hf : ex_fl M.1.cls idx kd i 2) (hp : ex_pf M idx kd i ty) (hty : (∃ n, ty = .object n) ∨ ∃ t, ty = .array t) (hL : a ∈ hs_L S) (hKd : hs_K S a = kd) (kk : ex_W g d M Po pc' lv st (hs_sR S a i (some b)) n k) : ex_W g d M Po pc lv (.ref b :: .ref a :: st) S n k := ex_putQ (v := some b) h hf hp hty hL hKd kk
end EXF
end
section
/-! arrays -/
section EXA
variable {g : gl_T} {d : Nat} {M : mt_T} {Po : ex_R} {pc pc' : Nat} {lv : List (Nat × Value)} {st : List Value} {S : hs_T} {n k : Nat}
theorem ex_in {x : Int32} {j N : Nat} (hx : x = nI j) (hj : j < N) (hb : j < 2 ^ 31) : vp_in x N ∧ x.toNatClampNeg = j := by
  subst hx
  exact ⟨vp_in_iff.mpr (by rw [nI_toInt hb]; omega), nI_clamp hb⟩
theorem ex_iald {x : Int32} {a j : Nat} (h : ex_d M pc (.iaload) 1 pc') (hL : a ∈ hs_L S) (hKd : hs_K S a = 12) (hi : x = nI j) (hj : j < hs_N S a) (hjb : j < 2 ^ 31) (kk : ex_W g d M Po pc' lv (.int (hs_I S a j) :: st) S n k) : ex_W g d M Po pc lv (.int x :: .ref a :: st) S n k := by
  intro p e R s m args below meth c H locs ls cells slots n0 k0 C hl hW hS hn hk hN hK
  obtain ⟨⟨hx, hb, hml, hrt, hlocks⟩, ⟨hown, hnm, htab⟩, ⟨hKU, hKH, hbs, hst⟩, hfr, hlo, hrc, hrs, hn0, hk0⟩ := id C
  obtain ⟨hdg, rfl⟩ := h
  obtain ⟨q, hq⟩ := ex_cell (g := g) hL (hs_E_I hKd)
  obtain ⟨h1, h2⟩ := ex_in hi hj hjb
  exact va_iald hx hb hKU.2.2.1 hW.1 q 1 hq rfl h1 hdg (by rw [h2]; exact kk p e R s m args below meth c H locs ls cells slots n0 k0 C hl hW hS hn hk hN hK)
theorem ex_bald {x : Int32} {a j : Nat} (h : ex_d M pc (.baload) 1 pc') (hL : a ∈ hs_L S) (hKd : hs_K S a = 11) (hi : x = nI j) (hj : j < hs_N S a) (hjb : j < 2 ^ 31) (kk : ex_W g d M Po pc' lv (.int (hs_I S a j) :: st) S n k) : ex_W g d M Po pc lv (.int x :: .ref a :: st) S n k := by
  intro p e R s m args below meth c H locs ls cells slots n0 k0 C hl hW hS hn hk hN hK
  obtain ⟨⟨hx, hb, hml, hrt, hlocks⟩, ⟨hown, hnm, htab⟩, ⟨hKU, hKH, hbs, hst⟩, hfr, hlo, hrc, hrs, hn0, hk0⟩ := id C
  obtain ⟨hdg, rfl⟩ := h
  obtain ⟨q, hq⟩ := ex_cell (g := g) hL (hs_E_B hKd)
  obtain ⟨h1, h2⟩ := ex_in hi hj hjb
  exact va_bald hx hb hKU.2.2.1 hW.1 q 0 hq rfl h1 hdg (by rw [h2]; exact kk p e R s m args below meth c H locs ls cells slots n0 k0 C hl hW hS hn hk hN hK)
theorem ex_zald {x : Int32} {a j : Nat} (h : ex_d M pc (.baload) 1 pc') (hL : a ∈ hs_L S) (hKd : hs_K S a = 14) (hi : x = nI j) (hj : j < hs_N S a) (hjb : j < 2 ^ 31) (kk : ex_W g d M Po pc' lv (.int (hs_I S a j) :: st) S n k) : ex_W g d M Po pc lv (.int x :: .ref a :: st) S n k := by
  intro p e R s m args below meth c H locs ls cells slots n0 k0 C hl hW hS hn hk hN hK
  obtain ⟨⟨hx, hb, hml, hrt, hlocks⟩, ⟨hown, hnm, htab⟩, ⟨hKU, hKH, hbs, hst⟩, hfr, hlo, hrc, hrs, hn0, hk0⟩ := id C
  obtain ⟨hdg, rfl⟩ := h
  obtain ⟨q, hq⟩ := ex_cell (g := g) hL (hs_E_Z hKd)
  obtain ⟨h1, h2⟩ := ex_in hi hj hjb
  exact va_zald hx hb hKU.2.2.1 hW.1 q 3 hq rfl h1 hdg (by rw [h2]; exact kk p e R s m args below meth c H locs ls cells slots n0 k0 C hl hW hS hn hk hN hK)
theorem ex_lald {x : Int32} {a j : Nat} (h : ex_d M pc (.laload) 1 pc') (hL : a ∈ hs_L S) (hKd : hs_K S a = 13) (hi : x = nI j) (hj : j < hs_N S a) (hjb : j < 2 ^ 31) (kk : ex_W g d M Po pc' lv (.long (hs_J S a j) :: st) S n k) : ex_W g d M Po pc lv (.int x :: .ref a :: st) S n k := by
  intro p e R s m args below meth c H locs ls cells slots n0 k0 C hl hW hS hn hk hN hK
  obtain ⟨⟨hx, hb, hml, hrt, hlocks⟩, ⟨hown, hnm, htab⟩, ⟨hKU, hKH, hbs, hst⟩, hfr, hlo, hrc, hrs, hn0, hk0⟩ := id C
  obtain ⟨hdg, rfl⟩ := h
  obtain ⟨q, hq⟩ := ex_cell (g := g) hL (hs_E_J hKd)
  obtain ⟨h1, h2⟩ := ex_in hi hj hjb
  exact va_lald hx hb hKU.2.2.1 hW.1 q 2 hq rfl h1 hdg (by rw [h2]; exact kk p e R s m args below meth c H locs ls cells slots n0 k0 C hl hW hS hn hk hN hK)
theorem ex_aaldQ {x : Int32} {a j : Nat} (h : ex_d M pc (.aaload) 1 pc') (hL : a ∈ hs_L S) (hKd : hs_K S a = 15) (hi : x = nI j) (hj : j < hs_N S a) (hjb : j < 2 ^ 31) (kk : ex_W g d M Po pc' lv (va_rf (hs_R S a j) :: st) S n k) : ex_W g d M Po pc lv (.int x :: .ref a :: st) S n k := by
  intro p e R s m args below meth c H locs ls cells slots n0 k0 C hl hW hS hn hk hN hK
  obtain ⟨⟨hx, hb, hml, hrt, hlocks⟩, ⟨hown, hnm, htab⟩, ⟨hKU, hKH, hbs, hst⟩, hfr, hlo, hrc, hrs, hn0, hk0⟩ := id C
  obtain ⟨hdg, rfl⟩ := h
  obtain ⟨q, hq⟩ := ex_cell (g := g) hL (hs_E_R hKd)
  obtain ⟨h1, h2⟩ := ex_in hi hj hjb
  exact va_aldq hx hb hKU.2.2.1 hW.1 q 4 hq rfl h1 hdg (by rw [h2]; exact kk p e R s m args below meth c H locs ls cells slots n0 k0 C hl hW hS hn hk hN hK)
theorem ex_aaldR {x : Int32} {a j b : Nat} (h : ex_d M pc (.aaload) 1 pc') (hL : a ∈ hs_L S) (hKd : hs_K S a = 15) (hi : x = nI j) (hj : j < hs_N S a) (hjb : j < 2 ^ 31) (hv : hs_R S a j = some b) (kk : ex_W g d M Po pc' lv (.ref b :: st) S n k) : ex_W g d M Po pc lv (.int x :: .ref a :: st) S n k := ex_aaldQ h hL hKd hi hj hjb (by rw [hv]; exact kk)
theorem ex_alen {a : Nat} (h : ex_d M pc (.arraylength) 1 pc') (hL : a ∈ hs_L S) (hKd : 11 ≤ hs_K S a ∧ hs_K S a ≤ 15) (kk : ex_W g d M Po pc' lv (.int (nI (hs_N S a)) :: st) S n k) : ex_W g d M Po pc lv (.ref a :: st) S n k := by
  intro p e R s m args below meth c H locs ls cells slots n0 k0 C hl hW hS hn hk hN hK
  obtain ⟨⟨hx, hb, hml, hrt, hlocks⟩, ⟨hown, hnm, htab⟩, ⟨hKU, hKH, hbs, hst⟩, hfr, hlo, hrc, hrs, hn0, hk0⟩ := id C
  obtain ⟨hdg, rfl⟩ := h
  have K := kk p e R s m args below meth c H locs ls cells slots n0 k0 C hl hW hS hn hk hN hK
  rcases (show hs_K S a = 11 ∨ hs_K S a = 12 ∨ hs_K S a = 13 ∨ hs_K S a = 14 ∨ hs_K S a = 15 by omega) with hq | hq | hq | hq | hq
  · obtain ⟨q, hj⟩ := ex_cell (g := g) hL (hs_E_B hq)
    exact va_alen hx hb hKU.2.2.1 hW.1 q 0 hj rfl rfl hdg K
  · obtain ⟨q, hj⟩ := ex_cell (g := g) hL (hs_E_I hq)
    exact va_alen hx hb hKU.2.2.1 hW.1 q 1 hj rfl rfl hdg K
  · obtain ⟨q, hj⟩ := ex_cell (g := g) hL (hs_E_J hq)
    exact va_alen hx hb hKU.2.2.1 hW.1 q 2 hj rfl rfl hdg K
  · obtain ⟨q, hj⟩ := ex_cell (g := g) hL (hs_E_Z hq)
    exact va_alen hx hb hKU.2.2.1 hW.1 q 3 hj rfl rfl hdg K
  · obtain ⟨q, hj⟩ := ex_cell (g := g) hL (hs_E_R hq)
    exact va_alen hx hb hKU.2.2.1 hW.1 q 4 hj rfl rfl hdg K
theorem ex_iast {x v : Int32} {a j : Nat} (h : ex_d M pc (.iastore) 1 pc') (hL : a ∈ hs_L S) (hKd : hs_K S a = 12) (hi : x = nI j) (hj : j < hs_N S a) (hjb : j < 2 ^ 31) (kk : ex_W g d M Po pc' lv st (hs_sI S a j v) n k) : ex_W g d M Po pc lv (.int v :: .int x :: .ref a :: st) S n k := by
  intro p e R s m args below meth c H locs ls cells slots n0 k0 C hl hW hS hn hk hN hK
  obtain ⟨⟨hx, hb, hml, hrt, hlocks⟩, ⟨hown, hnm, htab⟩, ⟨hKU, hKH, hbs, hst⟩, hfr, hlo, hrc, hrs, hn0, hk0⟩ := id C
  obtain ⟨hdg, rfl⟩ := h
  obtain ⟨q, hq⟩ := ex_cell (g := g) hL (hs_E_I hKd)
  obtain ⟨h1, h2⟩ := ex_in hi hj hjb
  refine va_iast hx hb hKU.2.2.1 hW.1 hW.2 hS q 1 hq rfl h1 hdg (fun H1 locs1 hP1 hD1 hS1 => ?_)
  refine kk p e R s m args below meth c H1 locs1 ls cells slots n0 k0 C hl (ex_set hL hq (hs_E_I hKd) rfl ?_ (hs_off_sI _ S a j v) hW.2 hP1 hD1) hS1 hn hk hN hK
  rw [hs_E_I (S := hs_sI S a j v) hKd, h2]
  show Sum.inl (_, _, Sum.inl (hs_u (hs_I S) a j v a)) = _
  rw [hs_u_row]; rfl
theorem ex_bast {x v : Int32} {a j : Nat} (h : ex_d M pc (.bastore) 1 pc') (hL : a ∈ hs_L S) (hKd : hs_K S a = 11) (hi : x = nI j) (hj : j < hs_N S a) (hjb : j < 2 ^ 31) (kk : ex_W g d M Po pc' lv st (hs_sI S a j (vp_nar .byte v)) n k) : ex_W g d M Po pc lv (.int v :: .int x :: .ref a :: st) S n k := by
  intro p e R s m args below meth c H locs ls cells slots n0 k0 C hl hW hS hn hk hN hK
  obtain ⟨⟨hx, hb, hml, hrt, hlocks⟩, ⟨hown, hnm, htab⟩, ⟨hKU, hKH, hbs, hst⟩, hfr, hlo, hrc, hrs, hn0, hk0⟩ := id C
  obtain ⟨hdg, rfl⟩ := h
  obtain ⟨q, hq⟩ := ex_cell (g := g) hL (hs_E_B hKd)
  obtain ⟨h1, h2⟩ := ex_in hi hj hjb
  refine va_bast hx hb hKU.2.2.1 hW.1 hW.2 hS q 0 hq rfl h1 hdg (fun H1 locs1 hP1 hD1 hS1 => ?_)
  refine kk p e R s m args below meth c H1 locs1 ls cells slots n0 k0 C hl (ex_set hL hq (hs_E_B hKd) rfl ?_ (hs_off_sI _ S a j _) hW.2 hP1 hD1) hS1 hn hk hN hK
  rw [hs_E_B (S := hs_sI S a j (vp_nar .byte v)) hKd, h2]
  show Sum.inl (_, _, Sum.inl (hs_u (hs_I S) a j (vp_nar .byte v) a)) = _
  rw [hs_u_row]; rfl
theorem ex_zast {x v : Int32} {a j : Nat} (h : ex_d M pc (.bastore) 1 pc') (hL : a ∈ hs_L S) (hKd : hs_K S a = 14) (hi : x = nI j) (hj : j < hs_N S a) (hjb : j < 2 ^ 31) (kk : ex_W g d M Po pc' lv st (hs_sI S a j (vp_nar .boolean v)) n k) : ex_W g d M Po pc lv (.int v :: .int x :: .ref a :: st) S n k := by
  intro p e R s m args below meth c H locs ls cells slots n0 k0 C hl hW hS hn hk hN hK
  obtain ⟨⟨hx, hb, hml, hrt, hlocks⟩, ⟨hown, hnm, htab⟩, ⟨hKU, hKH, hbs, hst⟩, hfr, hlo, hrc, hrs, hn0, hk0⟩ := id C
  obtain ⟨hdg, rfl⟩ := h
  obtain ⟨q, hq⟩ := ex_cell (g := g) hL (hs_E_Z hKd)
  obtain ⟨h1, h2⟩ := ex_in hi hj hjb
  refine va_zast hx hb hKU.2.2.1 hW.1 hW.2 hS q 3 hq rfl h1 hdg (fun H1 locs1 hP1 hD1 hS1 => ?_)
  refine kk p e R s m args below meth c H1 locs1 ls cells slots n0 k0 C hl (ex_set hL hq (hs_E_Z hKd) rfl ?_ (hs_off_sI _ S a j _) hW.2 hP1 hD1) hS1 hn hk hN hK
  rw [hs_E_Z (S := hs_sI S a j (vp_nar .boolean v)) hKd, h2]
  show Sum.inl (_, _, Sum.inl (hs_u (hs_I S) a j (vp_nar .boolean v) a)) = _
  rw [hs_u_row]; rfl
theorem ex_last {x : Int32} {v : Int64} {a j : Nat} (h : ex_d M pc (.lastore) 1 pc') (hL : a ∈ hs_L S) (hKd : hs_K S a = 13) (hi : x = nI j) (hj : j < hs_N S a) (hjb : j < 2 ^ 31) (kk : ex_W g d M Po pc' lv st (hs_sJ S a j v) n k) : ex_W g d M Po pc lv (.long v :: .int x :: .ref a :: st) S n k := by
  intro p e R s m args below meth c H locs ls cells slots n0 k0 C hl hW hS hn hk hN hK
  obtain ⟨⟨hx, hb, hml, hrt, hlocks⟩, ⟨hown, hnm, htab⟩, ⟨hKU, hKH, hbs, hst⟩, hfr, hlo, hrc, hrs, hn0, hk0⟩ := id C
  obtain ⟨hdg, rfl⟩ := h
  obtain ⟨q, hq⟩ := ex_cell (g := g) hL (hs_E_J hKd)
  obtain ⟨h1, h2⟩ := ex_in hi hj hjb
  refine va_last hx hb hKU.2.2.1 hW.1 hW.2 hS q 2 hq rfl h1 hdg (fun H1 locs1 hP1 hD1 hS1 => ?_)
  refine kk p e R s m args below meth c H1 locs1 ls cells slots n0 k0 C hl (ex_set hL hq (hs_E_J hKd) rfl ?_ (hs_off_sJ _ S a j v) hW.2 hP1 hD1) hS1 hn hk hN hK
  rw [hs_E_J (S := hs_sJ S a j v) hKd, h2]
  show Sum.inl (_, _, Sum.inr (Sum.inl (hs_u (hs_J S) a j v a))) = _
  rw [hs_u_row]; rfl
theorem ex_castW (kd : Nat) (q : vw_C) (h : hs_cl[kd]? = some q) : Cond.castable q.1 "java/lang/Object" ∈ ex_NB := by
  match kd, h with
  | 0, h => cases h; decide +kernel
  | 1, h => cases h; decide +kernel
  | 2, h => cases h; decide +kernel
  | 3, h => cases h; decide +kernel
  | 4, h => cases h; decide +kernel
  | 5, h => cases h; decide +kernel
  | 6, h => cases h; decide +kernel
  | 7, h => cases h; decide +kernel
  | 8, h => cases h; decide +kernel
  | 9, h => cases h; decide +kernel
  | 10, h => cases h; decide +kernel
  | k + 11, h => simp [hs_cl] at h
theorem ex_clsome {kd : Nat} (h : kd < 11) : ∃ q : vw_C, hs_cl[kd]? = some q := ⟨hs_cl[kd]'(by simpa [hs_cl] using h), List.getElem?_eq_getElem _⟩
theorem ex_aastR {x : Int32} {a j b : Nat} (h : ex_d M pc (.aastore) 1 pc') (hL : a ∈ hs_L S) (hKd : hs_K S a = 15) (hLb : b ∈ hs_L S) (hKb : hs_K S b < 11) (hi : x = nI j) (hj : j < hs_N S a) (hjb : j < 2 ^ 31) (kk : ex_W g d M Po pc' lv st (hs_sR S a j (some b)) n k) : ex_W g d M Po pc lv (.ref b :: .int x :: .ref a :: st) S n k := by
  intro p e R s m args below meth c H locs ls cells slots n0 k0 C hl hW hS hn hk hN hK
  obtain ⟨⟨hx, hb, hml, hrt, hlocks⟩, ⟨hown, hnm, htab⟩, ⟨hKU, hKH, hbs, hst⟩, hfr, hlo, hrc, hrs, hn0, hk0⟩ := id C
  obtain ⟨hdg, rfl⟩ := h
  obtain ⟨q, hq⟩ := ex_cell (g := g) hL (hs_E_R hKd)
  obtain ⟨q2, hq2⟩ := ex_cell (g := g) hLb (hs_E_obj rfl hKb)
  obtain ⟨r, hr⟩ := ex_clsome hKb
  obtain ⟨h1, h2⟩ := ex_in hi hj hjb
  refine va_astqO hx hb hKU.2.2.1 hW.1 hW.2 hS q 4 q2 (hs_K S b) hq rfl (hKU.2.1 _ (ex_castW _ r hr)) hq2 hr h1 hdg (fun H1 locs1 hP1 hD1 hS1 => ?_)
  refine kk p e R s m args below meth c H1 locs1 ls cells slots n0 k0 C hl (ex_set hL hq (hs_E_R hKd) rfl ?_ (hs_off_sR _ S a j _) hW.2 hP1 hD1) hS1 hn hk hN hK
  rw [hs_E_R (S := hs_sR S a j (some b)) hKd, h2]
  show Sum.inl (_, _, Sum.inr (Sum.inr (Sum.inr (Sum.inr (hs_u (hs_R S) a j (some b) a))))) = _
  rw [hs_u_row]; rfl
theorem ex_aastN {x : Int32} {a j : Nat} (h : ex_d M pc (.aastore) 1 pc') (hL : a ∈ hs_L S) (hKd : hs_K S a = 15) (hi : x = nI j) (hj : j < hs_N S a) (hjb : j < 2 ^ 31) (kk : ex_W g d M Po pc' lv st (hs_sR S a j none) n k) : ex_W g d M Po pc lv (.null :: .int x :: .ref a :: st) S n k := by
  intro p e R s m args below meth c H locs ls cells slots n0 k0 C hl hW hS hn hk hN hK
  obtain ⟨⟨hx, hb, hml, hrt, hlocks⟩, ⟨hown, hnm, htab⟩, ⟨hKU, hKH, hbs, hst⟩, hfr, hlo, hrc, hrs, hn0, hk0⟩ := id C
  obtain ⟨hdg, rfl⟩ := h
  obtain ⟨q, hq⟩ := ex_cell (g := g) hL (hs_E_R hKd)
  obtain ⟨h1, h2⟩ := ex_in hi hj hjb
  refine va_astqN hx hb hKU.2.2.1 hW.1 hW.2 hS q 4 hq rfl h1 hdg (fun H1 locs1 hP1 hD1 hS1 => ?_)
  refine kk p e R s m args below meth c H1 locs1 ls cells slots n0 k0 C hl (ex_set hL hq (hs_E_R hKd) rfl ?_ (hs_off_sR _ S a j _) hW.2 hP1 hD1) hS1 hn hk hN hK
  rw [hs_E_R (S := hs_sR S a j none) hKd, h2]
  show Sum.inl (_, _, Sum.inr (Sum.inr (Sum.inr (Sum.inr (hs_u (hs_R S) a j none a))))) = _
  rw [hs_u_row]; rfl
end EXA
end
section
/-! calls: what a contract gives at a call -/
def ex_PoB (g : gl_T) (Po : ex_R) (n k : Nat) : Pt → Array Value → Option Value → Pt → Prop := fun A _ v B =>
  ∃ (S' : hs_T) (kc ks : Nat) (L : List Loc), Po (.inl v) S' (n + kc) (k + ks) ∧ kc ≤ ex_NM - n ∧ ks ≤ ex_KM - k ∧ ex_WD g S' B.U.heap ∧ (A.U.heap.size ≤ B.U.heap.size ∧ ∀ q : Nat, q < A.U.heap.size → ¬ ex_A g q → B.U.heap[q]? = A.U.heap[q]?) ∧ B.locs = A.locs ++ L ∧ (∀ q ∈ L, ex_A g q.base) ∧ B.cells = A.cells + kc ∧ B.slots = A.slots + ks
def ex_PoX (g : gl_T) (Po : ex_R) (n k : Nat) : Pt → Array Value → Addr → Pt → Prop := fun A _ q B =>
  ∃ (E : String) (ce : Cell) (S' : hs_T) (kc ks : Nat) (L : List Loc), Po (.inr E) S' (n + kc) (k + ks) ∧ kc ≤ ex_NM - n ∧ ks ≤ ex_KM - k ∧ ex_WD g S' B.U.heap ∧ (A.U.heap.size ≤ B.U.heap.size ∧ ∀ q : Nat, q < A.U.heap.size → ¬ ex_A g q → B.U.heap[q]? = A.U.heap[q]?) ∧ B.locs = A.locs ++ L ∧ (∀ q ∈ L, ex_A g q.base) ∧ B.cells = A.cells + kc ∧ B.slots = A.slots + ks ∧ B.U.heap[q]? = some ce ∧ ce.vm = .none ∧ A.U.vm.findClass E = some ce.cls
theorem ex_blind {g : gl_T} {S : hs_T} {av : List Value} : FrameBlind (ex_P g S av) := by
  intro a U f mk h
  obtain ⟨h1, h2, h3, h4, h5⟩ := h
  exact ⟨h1, h2.warm (U := U.calling f mk a) (State.WarmedH.refl U), h3.moved (U := U.calling f mk a) (Vm.Alike.refl U.vm), h4, h5⟩
section EXB
variable {g : gl_T} {R : Room} {p : Program} {e : Env} {below : List Frame} {s : State} {sargs : Array Value} {len W9 : Nat}
theorem ex_back {d n k : Nat} {M : mt_T} {av : List Value} {S : hs_T} {Po : ex_R} (hM0 : ex_M g d M av S n k Po) (hst : g.1.stackTraces = false) (hn : n ≤ ex_NM) (hk : k ≤ ex_KM) (hcw : Cond.code M.1 M.2.1 M.2.2.1 M.2.2.2 ∈ ex_TB) (hiw : Cond.initialized M.1.cls ∈ ex_TB)
    (hframes : d + 1 ≤ R.frames) (hlocals : W9 + (M.2.2.1 + 11) + 64 * d ≤ R.locals) (hKU : ex_KU g s) :
    vx_Back g.1 R p e below s sargs M.1 len W9 (PreOf R (ex_NM - n) (ex_KM - k) (ex_P g S av)) (ex_PoB g Po n k) (ex_PoX g Po n k) := by
  have hM := hM0 hst hn hk
  obtain ⟨y, bytes, maxL, ret⟩ := M
  intro m meth c A f ig mk a X hg hsize hdg hW hnm hp
  have hKA : ex_KU g A.U := hKU.warm X.warmed
  have h1 : (headSpec (ex_cw (y, bytes, maxL, ret)) (ex_rm d n k)).pre.before a A.U = true := atoms_intro fun w hw => by
    rcases List.mem_cons.mp hw with rfl | hw
    · exact ex_w hKA hcw a
    · exact ex_w hKA hw a
  have h2 : (Cond.code y bytes maxL ret).before a A.U = true := ex_w hKA hcw a
  have h3 : (Cond.initialized y.cls).before a A.U = true := ex_w hKA hiw a
  have h4 : A.cells + (headSpec (ex_cw (y, bytes, maxL, ret)) (ex_rm d n k)).room.cells ≤ R.cells := hp.1
  have h5 : A.slots + (headSpec (ex_cw (y, bytes, maxL, ret)) (ex_rm d n k)).room.slots ≤ R.slots := hp.2.1
  have hPc : ex_P g S av a (A.U.calling f mk a) := ex_blind _ _ _ _ hp.2.2
  obtain ⟨U, Ls, c0, s0⟩ := A
  dsimp only [Pt.U, Pt.locs, Pt.cells, Pt.slots] at h1 h2 h3 h4 h5 X hnm hPc ⊢
  obtain ⟨methY, cY, hmY, hcY, -, hlY, -, -, -, -⟩ := Cond.code_spec hnm h2
  obtain ⟨kY, hkY, -⟩ := className_of_methodNamed hnm
  have hinitY : kY.init = .initialized := Cond.initialized_spec (findClass_of_methodNamed hnm) hkY h3
  have h : At U f.method c below := by rw [hg]; exact X.here
  have hlocals9 : W9 + (maxL + 11) + (headSpec (ex_cw (y, bytes, maxL, ret)) (ex_rm d n k)).room.locals ≤ R.locals := hlocals
  have happ : (headSpec (ex_cw (y, bytes, maxL, ret)) (ex_rm d n k)).appliesLoose y e.platform (U.calling f mk a) = true :=
    Spec.appliesLoose_calling (g := f) h hdg hnm hkY hinitY
      (X.room_calling (g := f) (R' := (headSpec (ex_cw (y, bytes, maxL, ret)) (ex_rm d n k)).room) hsize hmY hcY hframes (by rw [hlY]; omega) h4 h5) h1
  obtain ⟨mid, hmid⟩ := h.above
  have hfr : (U.setTop f).frames = (.java f :: mid) ++ below := by rw [State.frames_setTop' f h.top, hmid]; rfl
  obtain ⟨o, s₂, hsteps, -, hend, hq⟩ := Steps.callFree hM p X.admits X.cas X.clock (acts := []) hfr happ hPc trivial
  have hq' : ex_Q g Po n k (ex_NM - n) (ex_KM - k) a (U.calling f mk a) o s₂ := hq
  rw [State.frames_setTop' f h.top] at hend
  obtain ⟨g₀, hg0⟩ := Option.isSome_iff_exists.mp h.top
  obtain ⟨r, hr⟩ := State.topJava?_eq_some.mp hg0
  have hr' : (({ U with heap := s₂.heap, slotsUsed := s₂.slotsUsed } : State).setVm s₂.vm).frames = .java g₀ :: r := hr
  obtain ⟨rr, S', mc, ms, hPo, hmc, hms, hWD, hF, hq'⟩ := hq'
  have hF' : U.heap.size ≤ s₂.heap.size ∧ ∀ q : Nat, q < U.heap.size → ¬ ex_A g q → s₂.heap[q]? = U.heap[q]? := hF
  rcases hq' with ⟨hqc, L, hfe, hL⟩ | ⟨q, rfl, E, ce, L, hx, hce, hcv, hcl, hW₂, hsm, hL⟩
  · obtain ⟨⟨v, rfl⟩, hW₂, e2, q2, q3, q4, q5, q6⟩ := id hfe
    obtain ⟨v', hv1, hv2⟩ := hqc
    cases hv2
    subst hv1
    have e3 : s₂ = ({ (U.calling f mk a).setFrames s₂.frames with heap := s₂.heap, slotsUsed := s₂.slotsUsed } : State).setVm s₂.vm := by
      have : s₂ = ({ s₂ with vm := (U.calling f mk a).vm } : State).setVm s₂.vm := rfl
      rw [e2] at this
      exact this
    obtain ⟨c₂, i₂, len₂, hc₂, hd₂, hf₂⟩ := hend
    have hW' : U.WarmedH s₂.vm := hW₂
    have hcc : c₂ = c := by
      have h1 : s₂.code? f.method = U.code? f.method := by
        rw [State.code?_eq, State.code?_eq, hW'.alike.method?]
      exact Option.some.inj (hc₂.symm.trans (h1.trans h.code))
    subst hcc
    have hlen : len₂ = len := by rw [hdg] at hd₂; cases hd₂; rfl
    subst hlen
    have hs₂ : s₂ = (({ U with heap := s₂.heap, slotsUsed := s₂.slotsUsed } : State).setVm s₂.vm).setTop { f with pc := f.pc + len₂, stack := v.toList ++ f.stack } := by
      refine e3.trans ?_
      rw [hf₂, State.calling_eq h.top, State.setFrames_setFrames, State.setTop_of_frames _ hr', hr]
      rfl
    have hsame : U.sameButNew ({ U with heap := s₂.heap, slotsUsed := s₂.slotsUsed } : State) L mc ms := by
      refine ⟨?_, q2, q3, q4, q5, q6⟩
      obtain ⟨t, ht, -⟩ := State.frames_cons hr
      show ({ U with heap := s₂.heap, slotsUsed := s₂.slotsUsed } : State) = { U.setFrames U.frames with heap := s₂.heap, slotsUsed := s₂.slotsUsed }
      rw [State.setFrames_self ht]
    subst hg
    refine Or.inl ⟨v, ⟨(({ U with heap := s₂.heap, slotsUsed := s₂.slotsUsed } : State).setVm s₂.vm), Ls ++ L, c0 + mc, s0 + ms⟩,
      ⟨X.admits, X.cas, X.clock, X.frames, X.room, X.hears, X.method, X.code, (X.here.setHeapUsed s₂.heap s₂.slotsUsed).setVm hW'.alike, X.tail, State.WarmedH.trans X.warmed hW', X.limits, X.bytes, X.same.trans (hsame.setVm s.vm)⟩,
      ⟨S', mc, ms, L, hPo, hmc, hms, hWD, hF', rfl, hL, rfl, rfl⟩, ?_⟩
    show Steps p.tables e below _ ((({ U with heap := s₂.heap, slotsUsed := s₂.slotsUsed } : State).setVm s₂.vm).setTop { f with pc := f.pc + len₂, stack := v.toList ++ f.stack })
    rw [← hs₂]
    exact hsteps
  · subst hx
    obtain ⟨e2, q2, q3, q4, q5, q6⟩ := id hsm
    have e3 : s₂ = ({ (U.calling f mk a).setFrames s₂.frames with heap := s₂.heap, slotsUsed := s₂.slotsUsed } : State).setVm s₂.vm := by
      have : s₂ = ({ s₂ with vm := (U.calling f mk a).vm } : State).setVm s₂.vm := rfl
      rw [e2] at this
      exact this
    have hf₂ : s₂.frames = .throwing q :: .java f :: U.frames.tail := hend
    have hW' : U.WarmedH s₂.vm := hW₂
    have hs₂ : s₂ = ((({ U with heap := s₂.heap, slotsUsed := s₂.slotsUsed } : State).setVm s₂.vm).setTop f).pushFrame (.throwing q) := by
      refine e3.trans ?_
      rw [hf₂, State.calling_eq h.top, State.setFrames_setFrames, State.pushFrame, State.frames_setTop _ hr', State.setTop_of_frames _ hr', State.setFrames_setFrames, hr]
      rfl
    have hsame : U.sameButNew ({ U with heap := s₂.heap, slotsUsed := s₂.slotsUsed } : State) L mc ms := by
      refine ⟨?_, q2, q3, q4, q5, q6⟩
      obtain ⟨t, ht, -⟩ := State.frames_cons hr
      show ({ U with heap := s₂.heap, slotsUsed := s₂.slotsUsed } : State) = { U.setFrames U.frames with heap := s₂.heap, slotsUsed := s₂.slotsUsed }
      rw [State.setFrames_self ht]
    subst hg
    refine Or.inr ⟨q, ⟨(({ U with heap := s₂.heap, slotsUsed := s₂.slotsUsed } : State).setVm s₂.vm), Ls ++ L, c0 + mc, s0 + ms⟩,
      ⟨X.admits, X.cas, X.clock, X.frames, X.room, X.hears, X.method, X.code, (X.here.setHeapUsed s₂.heap s₂.slotsUsed).setVm hW'.alike, X.tail, State.WarmedH.trans X.warmed hW', X.limits, X.bytes, X.same.trans (hsame.setVm s.vm)⟩,
      ⟨E, ce, S', mc, ms, L, hPo, hmc, hms, hWD, hF', rfl, hL, rfl, rfl, hce, hcv, hcl⟩, ?_⟩
    show Steps p.tables e below _ (((({ U with heap := s₂.heap, slotsUsed := s₂.slotsUsed } : State).setVm s₂.vm).setTop f).pushFrame (.throwing q))
    rw [← hs₂]
    exact hsteps
theorem ex_backN {y : MethodName} {Pre : Pt → Array Value → Prop} {Post : Pt → Array Value → Option Value → Pt → Prop} {PostX : Pt → Array Value → Addr → Pt → Prop} {l : Launch} (h : vx_Back l R p e below s sargs y len W9 Pre Post PostX) (hno : ∀ A a q B, ¬ PostX A a q B) : Back l R p e below s sargs y len W9 Pre Post := by
  intro m meth c A f ig mk a X hg hsize hdg hW hn hp
  rcases h m meth c A f ig mk a X hg hsize hdg hW hn hp with h1 | ⟨q, B, -, h2, -⟩
  · exact h1
  · exact absurd h2 (hno _ _ _ _)
end EXB
/-- what a call needs of the tables: the callee's code, its class; the link; how it is found -/
def ex_cb (M' : mt_T) (nA : Nat) : Prop := Cond.code M'.1 M'.2.1 M'.2.2.1 M'.2.2.2 ∈ ex_TB ∧ Cond.initialized M'.1.cls ∈ ex_TB ∧ (M'.1.cls ≠ "java/lang/invoke/MethodHandle" ∧ M'.1.cls ≠ "java/lang/invoke/VarHandle") ∧ ((parseMethodDescriptor M'.1.desc).map fun q => q.parameters.length) = some nA ∧ M'.2.2.1 ≤ 45
def ex_cV (own : String) (idx : Nat) (M' : mt_T) (nA : Nat) : Prop := ex_cb M' nA ∧ Cond.methodLink own idx M'.1 ∈ ex_TB ∧ Cond.instanceMethod M'.1 ∈ ex_TB ∧ Cond.selects M'.1.cls M'.1 M'.1 ∈ ex_TB
def ex_cS (own : String) (idx : Nat) (M' : mt_T) (nA : Nat) : Prop := ex_cb M' nA ∧ (Cond.methodLink own idx M'.1 ∈ ex_TB ∨ ∃ host, Cond.methodLinkNest own idx M'.1 host ∈ ex_NB) ∧ Cond.static M'.1 ∈ ex_TB
def ex_cI (own : String) (idx : Nat) (M' : mt_T) (nA : Nat) : Prop := ex_cb M' nA ∧ (Cond.methodLink own idx M'.1 ∈ ex_TB ∨ ∃ host, Cond.methodLinkNest own idx M'.1 host ∈ ex_NB) ∧ Cond.instanceMethod M'.1 ∈ ex_TB ∧ M'.1.name = "<init>" ∧ M'.2.2.2 = none
section EXC
variable {g : gl_T} {d : Nat} {M : mt_T} {Po : ex_R} {pc pc' : Nat} {lv : List (Nat × Value)} {st : List Value} {S : hs_T} {n k : Nat}
theorem ex_P_of {s U : State} {H : Heap} {locs : List Loc} {av : List Value} (hKU : ex_KU g s) (hKH : ex_KH g s s.heap) (hbs : g.2.2.2.1 ≤ s.heap.size) (hW : ex_WD g S H) (hS : va_S (ex_A g) s.heap H locs) (hU : U.heap = H) (hWU : s.WarmedH U.vm) : ex_P g S av av.toArray U :=
  ⟨rfl, hKU.warm hWU, (hKH.kept (fun a h1 h2 => by rw [hU]; exact hS.2.1 a h1 h2)).moved hWU.alike, by rw [hU]; exact hW, by rw [hU]; exact Nat.le_trans hbs hS.1⟩
theorem ex_plen {M' : mt_T} {nA : Nat} {As : List Value} (h : ((parseMethodDescriptor M'.1.desc).map fun q => q.parameters.length) = some nA) (hn : As.length = nA) : ∀ sig, parseMethodDescriptor M'.1.desc = some sig → As.length = sig.parameters.length := by
  intro sig hs
  rw [hs] at h
  rw [hn]
  exact (Option.some.inj h).symm
/-- the way on behind a call -/
theorem ex_on {H : Heap} {s : State} {A B : Pt} {locs L : List Loc} (hS : va_S (ex_A g) s.heap H locs) (hA : A.U.heap = H) (hAl : A.locs = locs) (hF : A.U.heap.size ≤ B.U.heap.size ∧ ∀ q : Nat, q < A.U.heap.size → ¬ ex_A g q → B.U.heap[q]? = A.U.heap[q]?) (hBl : B.locs = A.locs ++ L) (hL : ∀ q ∈ L, ex_A g q.base) : va_S (ex_A g) s.heap B.U.heap B.locs := by
  rw [hA] at hF
  refine ⟨Nat.le_trans hS.1 hF.1, fun q h1 h2 => (hF.2 q (Nat.lt_of_lt_of_le h1 hS.1) h2).trans (hS.2.1 q h1 h2), fun q hq => ?_⟩
  rw [hBl, hAl] at hq
  rcases List.mem_append.mp hq with h | h
  · exact hS.2.2 q h
  · exact hL q h
theorem ex_thrown {E : String} {ce : Cell} {q : Addr} {S' : hs_T} {p : Program} {e : Env} {R : Room} {s : State} {m : MethodId} {args : Array Value} {below : List Frame} {meth : Method} {c : Code} {H : Heap} {locs : List Loc} {ls : Array Slot} {cells slots n0 k0 n' k' : Nat} {pc : Nat} {rest : List Value}
    (C : ex_S g d M p R s m meth c n0 k0) (hW : ex_WD g S' H) (hS : va_S (ex_A g) s.heap H locs) (hn : n' = n0 + cells) (hk : k' = k0 + slots) (hN : n' ≤ ex_NM) (hK : k' ≤ ex_KM) (hpo : Po (.inr E) S' n' k') (hcell : H[q]? = some ce) (hv : ce.vm = .none) (hcl : s.vm.findClass E = some ce.cls) :
    vx_W p g.1 e R s m args below meth c H locs cells slots (ex_Z g Po n0 k0 R below args s) (F0 m pc ls rest) q := by
  obtain ⟨⟨hx, hb, hml, hrt, hlocks⟩, ⟨hown, hnm, htab⟩, ⟨hKU, hKH, hbs, hst⟩, hfr, hlo, hrc, hrs, hn0, hk0⟩ := id C
  have K := vx_out (p := p) (l := g.1) (e := e) (R := R) (s := s) (m := m) (args := args) (below := below) (meth := meth) (c := c) (H := H) (locs := locs) (cells := cells) (slots := slots) (free := ex_A g) (ls := ls) (rest := rest) (pc := pc) (Qc := fun _ _ _ _ => False) (XC := fun E' _ t => E' = E ∧ t.heap = H) (mc := cells) (ms := slots) (fun x hx => (htab x hx).elim) hlocks hcell hv hcl (fun t ht _ => ⟨rfl, ht⟩) hS.2.2 (Nat.le_refl _) (Nat.le_refl _)
  intro T hT X
  obtain ⟨t, a1, o, b1, b2, b3⟩ := K T hT X
  refine ⟨t, a1, o, b1, b2, ?_⟩
  rcases b3 with ⟨h, -⟩ | ⟨q', ho, E', ce', L, ⟨hE, hth⟩, h3, h4, h5, h6, h7, h8⟩
  · exact h.elim
  · refine ⟨.inr E, S', cells, slots, by rw [← hn, ← hk]; exact hpo, by rw [hrc]; omega, by rw [hrs]; omega, by rw [hth]; exact hW, hS.F hth, Or.inr ⟨q', ho, E', ce', L, by rw [hE], h3, h4, h5, h6, h7, h8⟩⟩
/-- an instance method of its own class, public or private -/
theorem ex_callV {idx nA d' b : Nat} {M' : mt_T} {Po' : ex_R} {As : List Value} {kd : Nat} {q : vw_C} (h : ex_d M pc (.invokevirtual idx) 3 pc') (hc : ex_cV M.1.cls idx M' nA) (hM' : ex_M g d' M' (.ref b :: As) S n k Po') (hL : b ∈ hs_L S) (hKb : hs_K S b = kd) (hq : hs_cl[kd]? = some q) (hqc : q.1 = M'.1.cls) (hnA : As.length = nA) (hd : d' + 1 ≤ d) (hrest : (st.map fun v => v.category).sum ≤ 8)
    (kk : ∀ v S' n' k', Po' (.inl v) S' n' k' → ex_W g d M Po pc' lv (v.toList ++ st) S' n' k') (kx : ∀ E S' n' k', Po' (.inr E) S' n' k' → Po (.inr E) S' n' k') : ex_W g d M Po pc lv (As.reverse ++ .ref b :: st) S n k := by
  intro p e R s m args below meth c H locs ls cells slots n0 k0 C hl hW hS hn hk hN hK
  obtain ⟨⟨hx, hb, hml, hrt, hlocks⟩, ⟨hown, hnm, htab⟩, ⟨hKU, hKH, hbs, hst⟩, hfr, hlo, hrc, hrs, hn0, hk0⟩ := id C
  obtain ⟨hdg, rfl⟩ := h
  obtain ⟨⟨hcode, hini, hmh, hpar, hmax⟩, hlink, hinst, hsel⟩ := hc
  have hkd : kd < 11 := (List.getElem?_eq_some_iff.mp hq).1
  have hBk := ex_back (g := g) (R := R) (p := p) (e := e) (below := below) (s := s) (sargs := args) (len := 3) (W9 := 8) hM' hst hN hK hcode hini (by omega) (by omega) hKU
  obtain ⟨j, hj⟩ := ex_cell (g := g) hL (hs_E_obj hKb hkd)
  obtain ⟨cellB, hcB, hoB, hclB⟩ := va_recv hKU.2.2.1 hW.1 hq hj
  rw [hqc] at hclB
  intro T hT X
  rcases vx_callV X hx hown (ex_w hKU hlink args) (ex_w hKU hinst args) (ex_w hKU hsel args) (ex_w hKU hcode args) hmh hBk (by rw [hT]; exact hcB) hoB hclB (g := F0 m pc ls (As.reverse ++ .ref b :: st)) rfl (hl.1.trans hml.symm) (argsL := As) (rest := st) (ex_plen hpar hnA) rfl (lv_room hrest) (by rw [hb]; exact hdg)
    (fun vm₁ hW₁ => ⟨by show cells + (ex_NM - n) ≤ R.cells; rw [hrc]; omega, by show slots + (ex_KM - k) ≤ R.slots; rw [hrs]; omega, ex_P_of hKU hKH hbs hW hS (U := T.setVm vm₁) hT hW₁⟩) with ⟨v, vm₁, B, hW₁, X', ⟨S', kc, ks, L, hPo, hkc, hks, hWD, hF, hBl, hL', hBc, hBs⟩, st1⟩ | ⟨q', vm₁, B, hW₁, X', ⟨E, ce, S', kc, ks, L, hPo, hkc, hks, hWD, hF, hBl, hL', hBc, hBs, hce, hcv, hcl⟩, st1⟩
  · have hS' := ex_on hS (A := ⟨T.setVm vm₁, locs, cells, slots⟩) hT rfl hF hBl hL'
    obtain ⟨U', l2, c2, s2⟩ := B
    dsimp only [Pt.U, Pt.locs, Pt.cells, Pt.slots] at X' hWD hS' hBc hBs st1
    subst hBc; subst hBs
    obtain ⟨t, a1, b1⟩ := kk v S' (n + kc) (k + ks) hPo p e R s m args below meth c U'.heap l2 ls (cells + kc) (slots + ks) n0 k0 C hl hWD hS' (by omega) (by omega) (by omega) (by omega) U' rfl X'
    exact ⟨t, st1 t a1, b1⟩
  · have hS' := ex_on hS (A := ⟨T.setVm vm₁, locs, cells, slots⟩) hT rfl hF hBl hL'
    obtain ⟨U', l2, c2, s2⟩ := B
    dsimp only [Pt.U, Pt.locs, Pt.cells, Pt.slots] at X' hWD hS' hBc hBs st1 hce hcl
    subst hBc; subst hBs
    obtain ⟨t, a1, b1⟩ := ex_thrown (g := g) (Po := Po) (pc := pc) (rest := st) (ls := ls) (n' := n + kc) (k' := k + ks) C hWD hS' (by omega) (by omega) (by omega) (by omega) (kx E S' (n + kc) (k + ks) hPo) hce hcv (vx_cls hW₁ hcl) U' rfl X'
    exact ⟨t, st1.trans a1, b1⟩
/-- a static method -/
theorem ex_callS {idx nA d' : Nat} {M' : mt_T} {Po' : ex_R} {As : List Value} (h : ex_d M pc (.invokestatic idx) 3 pc') (hc : ex_cS M.1.cls idx M' nA) (hM' : ex_M g d' M' As S n k Po') (hnA : As.length = nA) (hd : d' + 1 ≤ d) (hrest : (st.map fun v => v.category).sum ≤ 8) (hno : ∀ E S' n' k', ¬ Po' (.inr E) S' n' k')
    (kk : ∀ v S' n' k', Po' (.inl v) S' n' k' → ex_W g d M Po pc' lv (v.toList ++ st) S' n' k') : ex_W g d M Po pc lv (As.reverse ++ st) S n k := by
  intro p e R s m args below meth c H locs ls cells slots n0 k0 C hl hW hS hn hk hN hK
  obtain ⟨⟨hx, hb, hml, hrt, hlocks⟩, ⟨hown, hnm, htab⟩, ⟨hKU, hKH, hbs, hst⟩, hfr, hlo, hrc, hrs, hn0, hk0⟩ := id C
  obtain ⟨hdg, rfl⟩ := h
  obtain ⟨⟨hcode, hini, hmh, hpar, hmax⟩, hlink, hstat⟩ := hc
  have hBk := ex_backN (ex_back (g := g) (R := R) (p := p) (e := e) (below := below) (s := s) (sargs := args) (len := 3) (W9 := 8) hM' hst hN hK hcode hini (by omega) (by omega) hKU) (fun A a q B ⟨E, ce, S', kc, ks, L, h1, _⟩ => hno _ _ _ _ h1)
  intro T hT X
  have hpre : ∀ vm₁, s.WarmedH vm₁ → PreOf R (ex_NM - n) (ex_KM - k) (ex_P g S As) ⟨T.setVm vm₁, locs, cells, slots⟩ As.toArray := fun vm₁ hW₁ => ⟨by show cells + (ex_NM - n) ≤ R.cells; rw [hrc]; omega, by show slots + (ex_KM - k) ≤ R.slots; rw [hrs]; omega, ex_P_of hKU hKH hbs hW hS (U := T.setVm vm₁) hT hW₁⟩
  have K : ∃ (v : Option Value) (vm₁ : Vm) (B : Pt), s.WarmedH vm₁ ∧ Stand p g.1 e R s m args below meth c B.U B.locs B.cells B.slots ∧ ex_PoB g Po' n k ⟨T.setVm vm₁, locs, cells, slots⟩ As.toArray v B ∧
      ∀ target, Steps p.tables e below (B.U.setTop { F0 m pc ls (As.reverse ++ st) with pc := pc + 3, stack := v.toList ++ st }) target → Steps p.tables e below (T.setTop (F0 m pc ls (As.reverse ++ st))) target := by
    rcases hlink with hlink | ⟨host, hlink⟩
    · exact callS X hx hown (ex_w hKU hlink args) (ex_w hKU hstat args) (ex_w hKU hini args) (ex_w hKU hcode args) hmh hBk (g := F0 m pc ls (As.reverse ++ st)) rfl (hl.1.trans hml.symm) (argsL := As) (rest := st) (ex_plen hpar hnA) rfl (lv_room hrest) (by rw [hb]; exact hdg) hpre
    · exact va_callSN X hx hown (va_Nw.use (by rfl) (hKU.2.1 _ hlink)) (ex_w hKU hstat args) (ex_w hKU hini args) (ex_w hKU hcode args) hmh hBk (g := F0 m pc ls (As.reverse ++ st)) rfl (hl.1.trans hml.symm) (argsL := As) (rest := st) (ex_plen hpar hnA) rfl (lv_room hrest) (by rw [hb]; exact hdg) hpre
  obtain ⟨v, vm₁, B, hW₁, X', ⟨S', kc, ks, L, hPo, hkc, hks, hWD, hF, hBl, hL', hBc, hBs⟩, st1⟩ := K
  have hS' := ex_on hS (A := ⟨T.setVm vm₁, locs, cells, slots⟩) hT rfl hF hBl hL'
  obtain ⟨U', l2, c2, s2⟩ := B
  dsimp only [Pt.U, Pt.locs, Pt.cells, Pt.slots] at X' hWD hS' hBc hBs st1
  subst hBc; subst hBs
  obtain ⟨t, a1, b1⟩ := kk v S' (n + kc) (k + ks) hPo p e R s m args below meth c U'.heap l2 ls (cells + kc) (slots + ks) n0 k0 C hl hWD hS' (by omega) (by omega) (by omega) (by omega) U' rfl X'
  exact ⟨t, st1 t a1, b1⟩
/-- a constructor -/
theorem ex_callI {idx nA d' b : Nat} {M' : mt_T} {Po' : ex_R} {As : List Value} (h : ex_d M pc (.invokespecial idx) 3 pc') (hc : ex_cI M.1.cls idx M' nA) (hM' : ex_M g d' M' (.ref b :: As) S n k Po') (hnA : As.length = nA) (hd : d' + 1 ≤ d) (hrest : (st.map fun v => v.category).sum ≤ 8) (hno : ∀ E S' n' k', ¬ Po' (.inr E) S' n' k')
    (kk : ∀ v S' n' k', Po' (.inl v) S' n' k' → ex_W g d M Po pc' lv (v.toList ++ st) S' n' k') : ex_W g d M Po pc lv (As.reverse ++ .ref b :: st) S n k := by
  intro p e R s m args below meth c H locs ls cells slots n0 k0 C hl hW hS hn hk hN hK
  obtain ⟨⟨hx, hb, hml, hrt, hlocks⟩, ⟨hown, hnm, htab⟩, ⟨hKU, hKH, hbs, hst⟩, hfr, hlo, hrc, hrs, hn0, hk0⟩ := id C
  obtain ⟨hdg, rfl⟩ := h
  obtain ⟨⟨hcode, hini, hmh, hpar, hmax⟩, hlink, hinst, hnm2, hret⟩ := hc
  have hBk := ex_backN (ex_back (g := g) (R := R) (p := p) (e := e) (below := below) (s := s) (sargs := args) (len := 3) (W9 := 8) hM' hst hN hK hcode hini (by omega) (by omega) hKU) (fun A a q B ⟨E, ce, S', kc, ks, L, h1, _⟩ => hno _ _ _ _ h1)
  rw [hret] at hcode
  intro T hT X
  have hpre : ∀ vm₁, s.WarmedH vm₁ → PreOf R (ex_NM - n) (ex_KM - k) (ex_P g S (.ref b :: As)) ⟨T.setVm vm₁, locs, cells, slots⟩ (Value.ref b :: As).toArray := fun vm₁ hW₁ => ⟨by show cells + (ex_NM - n) ≤ R.cells; rw [hrc]; omega, by show slots + (ex_KM - k) ≤ R.slots; rw [hrs]; omega, ex_P_of hKU hKH hbs hW hS (U := T.setVm vm₁) hT hW₁⟩
  have K : ∃ (v : Option Value) (vm₁ : Vm) (B : Pt), s.WarmedH vm₁ ∧ Stand p g.1 e R s m args below meth c B.U B.locs B.cells B.slots ∧ ex_PoB g Po' n k ⟨T.setVm vm₁, locs, cells, slots⟩ (Value.ref b :: As).toArray v B ∧
      ∀ target, Steps p.tables e below (B.U.setTop { F0 m pc ls (As.reverse ++ .ref b :: st) with pc := pc + 3, stack := v.toList ++ st }) target → Steps p.tables e below (T.setTop (F0 m pc ls (As.reverse ++ .ref b :: st))) target := by
    rcases hlink with hlink | ⟨host, hlink⟩
    · exact callI X hx hown hnm2 (ex_w hKU hlink args) (ex_w hKU hinst args) (ex_w hKU hcode args) hmh hBk (g := F0 m pc ls (As.reverse ++ .ref b :: st)) rfl (hl.1.trans hml.symm) (argsL := As) (rest := st) (ex_plen hpar hnA) rfl (lv_room hrest) (by rw [hb]; exact hdg) hpre
    · exact va_callIN X hx hown hnm2 (va_Nw.use (by rfl) (hKU.2.1 _ hlink)) (ex_w hKU hinst args) (ex_w hKU hcode args) hmh hBk (g := F0 m pc ls (As.reverse ++ .ref b :: st)) rfl (hl.1.trans hml.symm) (argsL := As) (rest := st) (ex_plen hpar hnA) rfl (lv_room hrest) (by rw [hb]; exact hdg) hpre
  obtain ⟨v, vm₁, B, hW₁, X', ⟨S', kc, ks, L, hPo, hkc, hks, hWD, hF, hBl, hL', hBc, hBs⟩, st1⟩ := K
  have hS' := ex_on hS (A := ⟨T.setVm vm₁, locs, cells, slots⟩) hT rfl hF hBl hL'
  obtain ⟨U', l2, c2, s2⟩ := B
  dsimp only [Pt.U, Pt.locs, Pt.cells, Pt.slots] at X' hWD hS' hBc hBs st1
  subst hBc; subst hBs
  obtain ⟨t, a1, b1⟩ := kk v S' (n + kc) (k + ks) hPo p e R s m args below meth c U'.heap l2 ls (cells + kc) (slots + ks) n0 k0 C hl hWD hS' (by omega) (by omega) (by omega) (by omega) U' rfl X'
  exact ⟨t, st1 t a1, b1⟩
end EXC
end
section
/-! what is made, cast, thrown; constants; the machine's own methods -/
/-- a class that is made: link, size, and what its fields begin with -/
def ex_nl (own : String) (idx kd : Nat) : Prop := ∃ q : vw_C, hs_cl[kd]? = some q ∧ kd < 11 ∧ ex_ck q ∧ Cond.classLink own idx q.1 ∈ ex_TB ∧ Cond.instantiable q.1 q.2.2 ∈ ex_TB ∧ Cond.initialized q.1 ∈ ex_TB ∧ (hs_ft kd).length = q.2.2 ∧ ∀ ty0 : Nat → FieldType, (∀ k, k < q.2.2 → parseFieldDescriptor (q.2.1 k).2.2.1 = some (ty0 k)) → ∀ j, j < q.2.2 → defaultValue (ty0 j) = vp_V (hs_zs (hs_ft kd)) j
section EXN
variable {g : gl_T} {d : Nat} {M : mt_T} {Po : ex_R} {pc pc' : Nat} {lv : List (Nat × Value)} {st : List Value} {S : hs_T} {n k : Nat}
theorem ex_pushed {q kd N : Nat} {e : va_E} {H1 : Heap} (he : hs_E g.2.2.1 (hs_new S q kd N) q = e) (hP : va_P g.2.1 hs_cl (ex_ws g S ++ [(q, e)]) H1) (hD : va_D (ex_A g) (ex_ws g S ++ [(q, e)])) : q ∉ hs_L S ∧ ex_WD g (hs_new S q kd N) H1 := by
  have hfr : q ∉ hs_L S := va_pl_fresh2 (X := []) (f := hs_E g.2.2.1 S) (e := e) hD
  have h1 : ex_ws g S ++ [(q, e)] = ex_ws g (hs_new S q kd N) := by
    unfold ex_ws
    rw [va_pl_push hfr, hs_L_new]
    exact va_pl_congr (hs_up he (hs_off_new _ S q kd N))
  rw [h1] at hP hD
  exact ⟨hfr, hP, hD⟩
theorem ex_new {idx kd N : Nat} (h : ex_d M pc (.new idx) 3 pc') (hw : ex_nl M.1.cls idx kd) (hN1 : (hs_ft kd).length = N) (hn1 : n + 1 ≤ ex_NM) (hk1 : k + N ≤ ex_KM) (kk : ∀ q, q ∉ hs_L S → ex_W g d M Po pc' lv (.ref q :: st) (hs_new S q kd 0) (n + 1) (k + N)) : ex_W g d M Po pc lv st S n k := by
  intro p e R s m args below meth c H locs ls cells slots n0 k0 C hl hW hS hn hk hN hK
  obtain ⟨⟨hx, hb, hml, hrt, hlocks⟩, ⟨hown, hnm, htab⟩, ⟨hKU, hKH, hbs, hst⟩, hfr, hlo, hrc, hrs, hn0, hk0⟩ := id C
  obtain ⟨hdg, rfl⟩ := h
  obtain ⟨⟨Cn, T, N2⟩, hq, hkd, ⟨hin, ⟨ty0, hty0⟩, hap⟩, hcl, hins, hini, hlen, hz⟩ := hw
  have hNN : N2 = N := hlen.symm.trans hN1
  subst hNN
  refine va_new hx hb (ex_ts hKU args) hin ty0 hty0 hown (ex_w hKU hcl args) (ex_w hKU hins args) (ex_w hKU hini args) hKU.2.2.1 hW.1 hW.2 hS (fun q hq => Nat.le_trans hbs hq) hq (hz ty0 hty0) (by rw [hrc]; omega) (by rw [hrs]; omega) hdg (fun q H1 hP1 hD1 hS1 => ?_)
  obtain ⟨h1, h2⟩ := ex_pushed (g := g) (S := S) (kd := kd) (N := 0) (by rw [hs_E_obj (k := kd) (by rw [hs_K_new]; simp) hkd, hs_new_fs]) hP1 hD1
  exact kk q h1 p e R s m args below meth c H1 locs ls (cells + 1) (slots + N2) n0 k0 C hl h2 hS1 (by omega) (by omega) hn1 hk1
theorem ex_arr1 {ty : FieldType} {cA : ClassId} {j : Nat} {s : State} (hK : va_K g.2.1 hs_cl (ex_ty g) s) (hj : (ex_ty g)[j]? = some (g.2.2.1 j, ty)) (hK2 : va_K g.2.1 hs_cl (ex_ty g ++ [(cA, ty)]) s) : cA = g.2.2.1 j := by
  have h1 := (hK.2 j _ hj).2
  have h2 := (hK2.2 (ex_ty g).length (cA, ty) (by simp)).2
  cases ty with
  | object C =>
    obtain ⟨_, _, -, -, -, h1⟩ := h1
    obtain ⟨_, _, -, -, -, h2⟩ := h2
    exact Option.some.inj (h2.symm.trans h1)
  | _ => exact Option.some.inj (h2.symm.trans h1)
theorem ex_newI {x : Int32} {N : Nat} (h : ex_d M pc (.newarray .int) 2 pc') (hw : Cond.arrayClass .int ∈ ex_TB) (hx1 : x = nI N) (hNb : N ≤ 100000) (hn1 : n + 1 ≤ ex_NM) (hk1 : k + N ≤ ex_KM) (kk : ∀ q, q ∉ hs_L S → ex_W g d M Po pc' lv (.ref q :: st) (hs_new S q 12 N) (n + 1) (k + N)) : ex_W g d M Po pc lv (.int x :: st) S n k := by
  intro p e R s m args below meth c H locs ls cells slots n0 k0 C hl hW hS hn hk hN hK
  obtain ⟨⟨hx, hb, hml, hrt, hlocks⟩, ⟨hown, hnm, htab⟩, ⟨hKU, hKH, hbs, hst⟩, hfr, hlo, hrc, hrs, hn0, hk0⟩ := id C
  obtain ⟨hdg, rfl⟩ := h
  subst hx1
  refine va_newa hx hb (atype := .int) (ex_w hKU hw args) rfl hKU.2.2.1 hW.1 hW.2 hS (fun q hq => Nat.le_trans hbs hq) (N' := N) (a0 := (N, .inl (fun _ => 0))) (fun cA => rfl) (nI_pos (by omega)) (nI_clamp (by omega)) (by show N * 4 ≤ _; omega) (by rw [hrc]; omega) (by rw [hrs]; omega) hdg (fun q cA H1 hK1 hP1 hD1 hS1 => ?_)
  have hcA := ex_arr1 (j := 1) hKU.2.2.1 rfl hK1
  subst hcA
  obtain ⟨h1, h2⟩ := ex_pushed (g := g) (S := S) (kd := 12) (N := N) (by rw [hs_E_I (by rw [hs_K_new]; simp)]; simp [hs_N, hs_new, hs_I, va_up]) hP1 hD1
  exact kk q h1 p e R s m args below meth c H1 locs ls (cells + 1) (slots + N) n0 k0 C hl h2 hS1 (by omega) (by omega) hn1 hk1
theorem ex_newB {x : Int32} {N : Nat} (h : ex_d M pc (.newarray .byte) 2 pc') (hw : Cond.arrayClass .byte ∈ ex_TB) (hx1 : x = nI N) (hNb : N ≤ 100000) (hn1 : n + 1 ≤ ex_NM) (hk1 : k + N ≤ ex_KM) (kk : ∀ q, q ∉ hs_L S → ex_W g d M Po pc' lv (.ref q :: st) (hs_new S q 11 N) (n + 1) (k + N)) : ex_W g d M Po pc lv (.int x :: st) S n k := by
  intro p e R s m args below meth c H locs ls cells slots n0 k0 C hl hW hS hn hk hN hK
  obtain ⟨⟨hx, hb, hml, hrt, hlocks⟩, ⟨hown, hnm, htab⟩, ⟨hKU, hKH, hbs, hst⟩, hfr, hlo, hrc, hrs, hn0, hk0⟩ := id C
  obtain ⟨hdg, rfl⟩ := h
  subst hx1
  refine va_newa hx hb (atype := .byte) (ex_w hKU hw args) rfl hKU.2.2.1 hW.1 hW.2 hS (fun q hq => Nat.le_trans hbs hq) (N' := N) (a0 := (N, .inl (fun _ => 0))) (fun cA => rfl) (nI_pos (by omega)) (nI_clamp (by omega)) (by show N * 1 ≤ _; omega) (by rw [hrc]; omega) (by rw [hrs]; omega) hdg (fun q cA H1 hK1 hP1 hD1 hS1 => ?_)
  have hcA := ex_arr1 (j := 0) hKU.2.2.1 rfl hK1
  subst hcA
  obtain ⟨h1, h2⟩ := ex_pushed (g := g) (S := S) (kd := 11) (N := N) (by rw [hs_E_B (by rw [hs_K_new]; simp)]; simp [hs_N, hs_new, hs_I, va_up]) hP1 hD1
  exact kk q h1 p e R s m args below meth c H1 locs ls (cells + 1) (slots + N) n0 k0 C hl h2 hS1 (by omega) (by omega) hn1 hk1
theorem ex_newZ {x : Int32} {N : Nat} (h : ex_d M pc (.newarray .boolean) 2 pc') (hw : Cond.arrayClass .boolean ∈ ex_TB) (hx1 : x = nI N) (hNb : N ≤ 100000) (hn1 : n + 1 ≤ ex_NM) (hk1 : k + N ≤ ex_KM) (kk : ∀ q, q ∉ hs_L S → ex_W g d M Po pc' lv (.ref q :: st) (hs_new S q 14 N) (n + 1) (k + N)) : ex_W g d M Po pc lv (.int x :: st) S n k := by
  intro p e R s m args below meth c H locs ls cells slots n0 k0 C hl hW hS hn hk hN hK
  obtain ⟨⟨hx, hb, hml, hrt, hlocks⟩, ⟨hown, hnm, htab⟩, ⟨hKU, hKH, hbs, hst⟩, hfr, hlo, hrc, hrs, hn0, hk0⟩ := id C
  obtain ⟨hdg, rfl⟩ := h
  subst hx1
  refine va_newa hx hb (atype := .boolean) (ex_w hKU hw args) rfl hKU.2.2.1 hW.1 hW.2 hS (fun q hq => Nat.le_trans hbs hq) (N' := N) (a0 := (N, .inl (fun _ => 0))) (fun cA => rfl) (nI_pos (by omega)) (nI_clamp (by omega)) (by show N * 1 ≤ _; omega) (by rw [hrc]; omega) (by rw [hrs]; omega) hdg (fun q cA H1 hK1 hP1 hD1 hS1 => ?_)
  have hcA := ex_arr1 (j := 3) hKU.2.2.1 rfl hK1
  subst hcA
  obtain ⟨h1, h2⟩ := ex_pushed (g := g) (S := S) (kd := 14) (N := N) (by rw [hs_E_Z (by rw [hs_K_new]; simp)]; simp [hs_N, hs_new, hs_I, va_up]) hP1 hD1
  exact kk q h1 p e R s m args below meth c H1 locs ls (cells + 1) (slots + N) n0 k0 C hl h2 hS1 (by omega) (by omega) hn1 hk1
theorem ex_newJ {x : Int32} {N : Nat} (h : ex_d M pc (.newarray .long) 2 pc') (hw : Cond.arrayClass .long ∈ ex_TB) (hx1 : x = nI N) (hNb : N ≤ 100000) (hn1 : n + 1 ≤ ex_NM) (hk1 : k + N ≤ ex_KM) (kk : ∀ q, q ∉ hs_L S → ex_W g d M Po pc' lv (.ref q :: st) (hs_new S q 13 N) (n + 1) (k + N)) : ex_W g d M Po pc lv (.int x :: st) S n k := by
  intro p e R s m args below meth c H locs ls cells slots n0 k0 C hl hW hS hn hk hN hK
  obtain ⟨⟨hx, hb, hml, hrt, hlocks⟩, ⟨hown, hnm, htab⟩, ⟨hKU, hKH, hbs, hst⟩, hfr, hlo, hrc, hrs, hn0, hk0⟩ := id C
  obtain ⟨hdg, rfl⟩ := h
  subst hx1
  refine va_newa hx hb (atype := .long) (ex_w hKU hw args) rfl hKU.2.2.1 hW.1 hW.2 hS (fun q hq => Nat.le_trans hbs hq) (N' := N) (a0 := (N, .inr (.inl (fun _ => 0)))) (fun cA => rfl) (nI_pos (by omega)) (nI_clamp (by omega)) (by show N * 8 ≤ _; omega) (by rw [hrc]; omega) (by rw [hrs]; omega) hdg (fun q cA H1 hK1 hP1 hD1 hS1 => ?_)
  have hcA := ex_arr1 (j := 2) hKU.2.2.1 rfl hK1
  subst hcA
  obtain ⟨h1, h2⟩ := ex_pushed (g := g) (S := S) (kd := 13) (N := N) (by rw [hs_E_J (by rw [hs_K_new]; simp)]; simp [hs_N, hs_new, hs_J, va_up]) hP1 hD1
  exact kk q h1 p e R s m args below meth c H1 locs ls (cells + 1) (slots + N) n0 k0 C hl h2 hS1 (by omega) (by omega) hn1 hk1
theorem ex_newQ {x : Int32} {idx N : Nat} (h : ex_d M pc (.anewarray idx) 3 pc') (hw : Cond.classLink M.1.cls idx "java/lang/Object" ∈ ex_TB) (hx1 : x = nI N) (hNb : N ≤ 100000) (hn1 : n + 1 ≤ ex_NM) (hk1 : k + N ≤ ex_KM) (kk : ∀ q, q ∉ hs_L S → ex_W g d M Po pc' lv (.ref q :: st) (hs_new S q 15 N) (n + 1) (k + N)) : ex_W g d M Po pc lv (.int x :: st) S n k := by
  intro p e R s m args below meth c H locs ls cells slots n0 k0 C hl hW hS hn hk hN hK
  obtain ⟨⟨hx, hb, hml, hrt, hlocks⟩, ⟨hown, hnm, htab⟩, ⟨hKU, hKH, hbs, hst⟩, hfr, hlo, hrc, hrs, hn0, hk0⟩ := id C
  obtain ⟨hdg, rfl⟩ := h
  subst hx1
  refine va_newq hx hb hown (ex_w hKU hw args) hKU.2.2.2.2.2.1 hKU.2.2.1 hW.1 hW.2 hS (fun q hq => Nat.le_trans hbs hq) (N' := N) (nI_pos (by omega)) (nI_clamp (by omega)) (by omega) (by rw [hrc]; omega) (by rw [hrs]; omega) hdg (fun q cA H1 hK1 hP1 hD1 hS1 => ?_)
  have hcA := ex_arr1 (j := 4) hKU.2.2.1 rfl hK1
  subst hcA
  obtain ⟨h1, h2⟩ := ex_pushed (g := g) (S := S) (kd := 15) (N := N) (by rw [hs_E_R (by rw [hs_K_new]; simp)]; simp [hs_N, hs_new, hs_R, va_up]) hP1 hD1
  exact kk q h1 p e R s m args below meth c H1 locs ls (cells + 1) (slots + N) n0 k0 C hl h2 hS1 (by omega) (by omega) hn1 hk1
/-- Object.<init> -/
theorem ex_objInit {idx a : Nat} (h : ex_d M pc (.invokespecial idx) 3 pc') (hw : Cond.methodLink M.1.cls idx objectInit ∈ ex_TB ∧ Cond.instanceMethod objectInit ∈ ex_TB ∧ Cond.code objectInit ⟨#[0xb1]⟩ 1 none ∈ ex_TB) (hd : 1 ≤ d) (hrest : (st.map fun v => v.category).sum ≤ 8) (kk : ex_W g d M Po pc' lv st S n k) : ex_W g d M Po pc lv (.ref a :: st) S n k := by
  intro p e R s m args below meth c H locs ls cells slots n0 k0 C hl hW hS hn hk hN hK
  obtain ⟨⟨hx, hb, hml, hrt, hlocks⟩, ⟨hown, hnm, htab⟩, ⟨hKU, hKH, hbs, hst⟩, hfr, hlo, hrc, hrs, hn0, hk0⟩ := id C
  obtain ⟨hdg, rfl⟩ := h
  have hrm : 2 * (F0 m pc ls (.ref a :: st)).monitorRoom + (st.map fun v => v.category).sum ≤ 8 := lv_room hrest
  refine W.objInit hx hb hown (ex_w hKU hw.1 args) (ex_w hKU hw.2.1 args) (ex_w hKU hw.2.2 args) rfl (by rw [hml]; exact hl.1) rfl hdg (by omega) (by omega) ?_
  exact kk p e R s m args below meth c H locs ls cells slots n0 k0 C hl hW hS hn hk hN hK
theorem ex_cast {idx a kd : Nat} {q : vw_C} (h : ex_d M pc (.checkcast idx) 3 pc') (hL : a ∈ hs_L S) (hKd : hs_K S a = kd) (hq : hs_cl[kd]? = some q) (hw : Cond.classLink M.1.cls idx q.1 ∈ ex_TB) (kk : ex_W g d M Po pc' lv (.ref a :: st) S n k) : ex_W g d M Po pc lv (.ref a :: st) S n k := by
  intro p e R s m args below meth c H locs ls cells slots n0 k0 C hl hW hS hn hk hN hK
  obtain ⟨⟨hx, hb, hml, hrt, hlocks⟩, ⟨hown, hnm, htab⟩, ⟨hKU, hKH, hbs, hst⟩, hfr, hlo, hrc, hrs, hn0, hk0⟩ := id C
  obtain ⟨hdg, rfl⟩ := h
  have hkd : kd < 11 := (List.getElem?_eq_some_iff.mp hq).1
  obtain ⟨j, hj⟩ := ex_cell (g := g) hL (hs_E_obj hKd hkd)
  exact va_castS hx hb hown (ex_w hKU hw args) (hKU.2.2.1.1 kd q hq).2 (va_recv hKU.2.2.1 hW.1 hq hj) hdg (kk p e R s m args below meth c H locs ls cells slots n0 k0 C hl hW hS hn hk hN hK)
end EXN
end
section
/-! throws; constants; the machine's own methods -/
/-- 'throw new cls(text)' of own: its words -/
def ex_th (own : String) (ik is ic : Nat) (cls text : String) (j : Nat) : Prop := Cond.classLink own ik cls ∈ ex_TB ∧ Cond.initialized cls ∈ ex_TB ∧ (own, is, text, j) ∈ cs_R ∧ Bundle.fit cls = true ∧ (∀ w ∈ vx_atS own ic cls ["java/lang/RuntimeException", "java/lang/Exception"], w ∈ ex_TB ∨ w ∈ ex_NB) ∧ (∀ w ∈ Cond.classLink own ik cls :: Cond.initialized cls :: vx_atS own ic cls ["java/lang/RuntimeException", "java/lang/Exception"], vx_ot w = true)
theorem ex_nbw {g : gl_T} {s : State} (hK : ex_KU g s) {w : Cond} (h : w ∈ ex_NB) (args : Array Value) : w.before args s = true := by
  have h2 := hK.2.1 w h
  have h5 := (List.mem_filter.mp h).2
  unfold ex_nw at h5
  split at h5 <;> first | exact va_Nw.use (by rfl) h2 | cases h5
section EXT
variable {g : gl_T} {d : Nat} {M : mt_T} {Po : ex_R} {pc pc' : Nat} {lv : List (Nat × Value)} {st : List Value} {S : hs_T} {n k : Nat}
theorem ex_throw {ik is ic j p1 p2 p3 p4 p5 : Nat} {cls text : String} (hw : ex_th M.1.cls ik is ic cls text j) (h0 : ex_d M pc (.new ik) 3 p1) (h1 : ex_d M p1 (.dup) 1 p2) (h2 : ex_d M p2 (.ldc is) 2 p3) (h3 : ex_d M p3 (.invokespecial ic) 3 p4) (h4 : ex_d M p4 (.athrow) 1 p5) (hd : 6 ≤ d) (hrest : (st.map fun v => v.category).sum ≤ 8) (hn1 : n + 1 ≤ ex_NM) (hk1 : k + 6 ≤ ex_KM) (hpo : Po (.inr cls) S (n + 1) (k + 6)) : ex_W g d M Po pc lv st S n k := by
  intro p e R s m args below meth c H locs ls cells slots n0 k0 C hl hW hS hn hk hN hK
  obtain ⟨⟨hx, hb, hml, hrt, hlocks⟩, ⟨hown, hnm, htab⟩, ⟨hKU, hKH, hbs, hst⟩, hfr, hlo, hrc, hrs, hn0, hk0⟩ := id C
  obtain ⟨d0, rfl⟩ := h0
  obtain ⟨d3, rfl⟩ := h1
  obtain ⟨d4, rfl⟩ := h2
  obtain ⟨d6, rfl⟩ := h3
  obtain ⟨d9, rfl⟩ := h4
  obtain ⟨hcl, hini, hstr, hfit, hat, hot⟩ := hw
  have hstr2 := hKU.2.2.2.1 _ hstr
  have K := vx_throwS (p := p) (l := g.1) (e := e) (R := R) (s := s) (m := m) (args := args) (below := below) (meth := meth) (c := c) (H := H) (locs := locs) (cells := cells) (slots := slots) (free := ex_A g) (ls := ls) (rest := st) (Qc := fun _ _ _ _ => False) (XC := fun E st t => E = cls ∧ ex_WD g S t.heap ∧ va_F (ex_A g) st t) (A := ex_A g) (mc := cells + 1) (ms := slots + 6) hx hb hst hown hfit (by decide +kernel) (ex_w hKU hcl args) (ex_w hKU hini args) hstr2 (fun w hw => (hat w hw).elim (fun z => ex_w hKU z args) (fun z => ex_nbw hKU z args)) hot hKH.2.2.2.2.1 hKH.2.2.2.2.2 hS (hl.1.trans hml.symm) d0 d3 d4 d6 d9 (fun x hx => (htab x hx).elim) (by show 2 + 3 < R.frames; omega) (by show (st.map fun v => v.category).sum + (13 * (2 + 1) + 43) ≤ R.locals; omega) (by rw [hrc]; omega) (by rw [hrs]; omega) hlocks
    (fun t _ h2 h3 => ⟨rfl, ⟨hW.1.kept (fun k q hk => h3 q.1 ((hW.1 k q hk).lt)), hW.2⟩, ⟨Nat.le_trans hS.1 h2, fun q h4 h5 => (h3 q (Nat.lt_of_lt_of_le h4 hS.1)).trans (hS.2.1 q h4 h5)⟩⟩) hS.2.2 (Nat.le_refl _) (Nat.le_refl _)
  refine ex_Wmono ?_ K
  rintro t ⟨o, b1, b2, b3⟩
  refine ⟨o, b1, b2, ?_⟩
  rcases b3 with ⟨h, -⟩ | ⟨q', ho, E', ce', L, ⟨hE, hth, hF⟩, h3, h4, h5, h6, h7, h8⟩
  · exact h.elim
  · refine ⟨.inr cls, S, cells + 1, slots + 6, by rw [← Nat.add_assoc, ← Nat.add_assoc, ← hn, ← hk]; exact hpo, by rw [hrc]; omega, by rw [hrs]; omega, hth, hF, Or.inr ⟨q', ho, E', ce', L, by rw [hE], h3, h4, h5, h6, h7, h8⟩⟩
/-! constants -/
theorem ex_gets {idx : Nat} {q : String × String × String × cs_V} (h : ex_d M pc (.getstatic idx) 3 pc') (hq : q ∈ cs_Z) (hw : Cond.fieldLink M.1.cls idx q.1 q.2.1 q.2.2.1 ∈ ex_TB) (kk : ex_W g d M Po pc' lv (q.2.2.2 g.2.2.2.2 :: st) S n k) : ex_W g d M Po pc lv st S n k := by
  intro p e R s m args below meth c H locs ls cells slots n0 k0 C hl hW hS hn hk hN hK
  obtain ⟨⟨hx, hb, hml, hrt, hlocks⟩, ⟨hown, hnm, htab⟩, ⟨hKU, hKH, hbs, hst⟩, hfr, hlo, hrc, hrs, hn0, hk0⟩ := id C
  obtain ⟨hdg, rfl⟩ := h
  exact va_gets hx hb (hKH.1 q hq) hS hown (ex_w hKU hw args) (fun _ h => h) hdg (kk p e R s m args below meth c H locs ls cells slots n0 k0 C hl hW hS hn hk hN hK)
theorem ex_ldcS {idx : Nat} {q : String × Nat × String × Nat} (h : ex_d M pc (.ldc idx) 2 pc') (hq : q ∈ cs_R) (h1 : q.1 = M.1.cls) (h2 : q.2.1 = idx) (kk : ex_W g d M Po pc' lv (.ref (g.2.2.2.2 q.2.2.2) :: st) S n k) : ex_W g d M Po pc lv st S n k := by
  intro p e R s m args below meth c H locs ls cells slots n0 k0 C hl hW hS hn hk hN hK
  obtain ⟨⟨hx, hb, hml, hrt, hlocks⟩, ⟨hown, hnm, htab⟩, ⟨hKU, hKH, hbs, hst⟩, hfr, hlo, hrc, hrs, hn0, hk0⟩ := id C
  obtain ⟨hdg, rfl⟩ := h
  have h3 := hKU.2.2.2.1 q hq
  rw [h1, h2] at h3
  exact va_ldcS hx hb hown h3 hdg (kk p e R s m args below meth c H locs ls cells slots n0 k0 C hl hW hS hn hk hN hK)
theorem ex_getC {idx : Nat} {q : String × String × String × Nat × cs_V} (h : ex_d M pc (.getfield idx) 3 pc') (hq : q ∈ cs_F) (hw : Cond.fieldLink M.1.cls idx q.1 q.2.1 q.2.2.1 ∈ ex_TB ∨ ∃ host, Cond.fieldLinkNest M.1.cls idx q.1 q.2.1 q.2.2.1 host ∈ ex_NB) (kk : ex_W g d M Po pc' lv (q.2.2.2.2 g.2.2.2.2 :: st) S n k) : ex_W g d M Po pc lv (.ref (g.2.2.2.2 q.2.2.2.1) :: st) S n k := by
  intro p e R s m args below meth c H locs ls cells slots n0 k0 C hl hW hS hn hk hN hK
  obtain ⟨⟨hx, hb, hml, hrt, hlocks⟩, ⟨hown, hnm, htab⟩, ⟨hKU, hKH, hbs, hst⟩, hfr, hlo, hrc, hrs, hn0, hk0⟩ := id C
  obtain ⟨hdg, rfl⟩ := h
  have K := kk p e R s m args below meth c H locs ls cells slots n0 k0 C hl hW hS hn hk hN hK
  rcases hw with hw | ⟨host, hw⟩
  · exact vk_getf hx hb (hKH.2.2.1 q hq) hS hown (ex_w hKU hw args) (fun _ h => h) hdg K
  · obtain ⟨cf, k1, i1, f1, cell, e1, e2, e3, e4, e5, e6⟩ := hKH.2.2.1 q hq
    have hlt : g.2.2.2.2 q.2.2.2.1 < s.heap.size := (Array.getElem?_eq_some_iff.mp e3).1
    exact va_Wgetf hx hb hown (ex_nbw hKU hw args) e1 e2 ((hS.2.1 _ hlt e6).trans e3) e4 e5 rfl rfl hdg K
theorem ex_alenC {q : FieldType × Nat × Nat × ((Nat → Nat) → Nat → Value)} (h : ex_d M pc (.arraylength) 1 pc') (hq : q ∈ cs_T) (kk : ex_W g d M Po pc' lv (.int (nI q.2.2.1) :: st) S n k) : ex_W g d M Po pc lv (.ref (g.2.2.2.2 q.2.1) :: st) S n k := by
  intro p e R s m args below meth c H locs ls cells slots n0 k0 C hl hW hS hn hk hN hK
  obtain ⟨⟨hx, hb, hml, hrt, hlocks⟩, ⟨hown, hnm, htab⟩, ⟨hKU, hKH, hbs, hst⟩, hfr, hlo, hrc, hrs, hn0, hk0⟩ := id C
  obtain ⟨hdg, rfl⟩ := h
  exact va_tlen hx hb (hKH.2.1 q hq) hS rfl hdg (kk p e R s m args below meth c H locs ls cells slots n0 k0 C hl hW hS hn hk hN hK)
theorem ex_aaldC {q : FieldType × Nat × Nat × ((Nat → Nat) → Nat → Value)} {C1 : String} {x : Int32} {j : Nat} (h : ex_d M pc (.aaload) 1 pc') (hq : q ∈ cs_T) (hty : q.1 = .object C1) (hi : x = nI j) (hj : j < q.2.2.1) (hjb : j < 2 ^ 31) (kk : ex_W g d M Po pc' lv (q.2.2.2 g.2.2.2.2 j :: st) S n k) : ex_W g d M Po pc lv (.int x :: .ref (g.2.2.2.2 q.2.1) :: st) S n k := by
  intro p e R s m args below meth c H locs ls cells slots n0 k0 C hl hW hS hn hk hN hK
  obtain ⟨⟨hx, hb, hml, hrt, hlocks⟩, ⟨hown, hnm, htab⟩, ⟨hKU, hKH, hbs, hst⟩, hfr, hlo, hrc, hrs, hn0, hk0⟩ := id C
  obtain ⟨hdg, rfl⟩ := h
  obtain ⟨h1, h2⟩ := ex_in hi hj hjb
  have hT := hKH.2.1 q hq
  rw [hty] at hT
  exact vb_tq hx hb hT hS h1 (by rw [h2]) hdg (kk p e R s m args below meth c H locs ls cells slots n0 k0 C hl hW hS hn hk hN hK)
theorem ex_baldC {q : FieldType × Nat × Nat × ((Nat → Nat) → Nat → Value)} {x : Int32} {j : Nat} (h : ex_d M pc (.baload) 1 pc') (hq : q ∈ cs_T) (hty : q.1 = .byte) (hi : x = nI j) (hj : j < q.2.2.1) (hjb : j < 2 ^ 31) (kk : ex_W g d M Po pc' lv (q.2.2.2 g.2.2.2.2 j :: st) S n k) : ex_W g d M Po pc lv (.int x :: .ref (g.2.2.2.2 q.2.1) :: st) S n k := by
  intro p e R s m args below meth c H locs ls cells slots n0 k0 C hl hW hS hn hk hN hK
  obtain ⟨⟨hx, hb, hml, hrt, hlocks⟩, ⟨hown, hnm, htab⟩, ⟨hKU, hKH, hbs, hst⟩, hfr, hlo, hrc, hrs, hn0, hk0⟩ := id C
  obtain ⟨hdg, rfl⟩ := h
  obtain ⟨h1, h2⟩ := ex_in hi hj hjb
  have hT := hKH.2.1 q hq
  rw [hty] at hT
  exact va_tb hx hb hT hS h1 (by rw [h2]) hdg (kk p e R s m args below meth c H locs ls cells slots n0 k0 C hl hW hS hn hk hN hK)
/-! Math, arraycopy, getClass -/
theorem ex_mmax {idx : Nat} {x y : Int32} (h : ex_d M pc (.invokestatic idx) 3 pc') (hw : Cond.methodLink M.1.cls idx Lib.Math.max.name ∈ ex_TB) (hw2 : Cond.static Lib.Math.max.name ∈ ex_TB ∧ Cond.initialized "java/lang/Math" ∈ ex_TB ∧ Cond.code Lib.Math.max.name Lib.Math.max.code 2 (some .int) ∈ ex_TB) (hd : 1 ≤ d) (hrest : (st.map fun v => v.category).sum ≤ 8) (kk : ex_W g d M Po pc' lv (.int (if x < y then y else x) :: st) S n k) : ex_W g d M Po pc lv (.int y :: .int x :: st) S n k := by
  intro p e R s m args below meth c H locs ls cells slots n0 k0 C hl hW hS hn hk hN hK
  obtain ⟨⟨hx, hb, hml, hrt, hlocks⟩, ⟨hown, hnm, htab⟩, ⟨hKU, hKH, hbs, hst⟩, hfr, hlo, hrc, hrs, hn0, hk0⟩ := id C
  obtain ⟨hdg, rfl⟩ := h
  exact va_mmax hx hb (hml.trans hl.1.symm) hown (ex_w hKU hw args) (ex_w hKU hw2.1 args) (ex_w hKU hw2.2.1 args) (ex_w hKU hw2.2.2 args) (by omega) (by omega) (by rw [hrc]; omega) (by rw [hrs]; omega) hdg (kk p e R s m args below meth c H locs ls cells slots n0 k0 C hl hW hS hn hk hN hK)
theorem ex_mmin {idx : Nat} {x y : Int32} (h : ex_d M pc (.invokestatic idx) 3 pc') (hw : Cond.methodLink M.1.cls idx Lib.Math.min.name ∈ ex_TB) (hw2 : Cond.static Lib.Math.min.name ∈ ex_TB ∧ Cond.initialized "java/lang/Math" ∈ ex_TB ∧ Cond.code Lib.Math.min.name Lib.Math.min.code 2 (some .int) ∈ ex_TB) (hd : 1 ≤ d) (hrest : (st.map fun v => v.category).sum ≤ 8) (kk : ex_W g d M Po pc' lv (.int (if y < x then y else x) :: st) S n k) : ex_W g d M Po pc lv (.int y :: .int x :: st) S n k := by
  intro p e R s m args below meth c H locs ls cells slots n0 k0 C hl hW hS hn hk hN hK
  obtain ⟨⟨hx, hb, hml, hrt, hlocks⟩, ⟨hown, hnm, htab⟩, ⟨hKU, hKH, hbs, hst⟩, hfr, hlo, hrc, hrs, hn0, hk0⟩ := id C
  obtain ⟨hdg, rfl⟩ := h
  exact va_mmin hx hb (hml.trans hl.1.symm) hown (ex_w hKU hw args) (ex_w hKU hw2.1 args) (ex_w hKU hw2.2.1 args) (ex_w hKU hw2.2.2 args) (by omega) (by omega) (by rw [hrc]; omega) (by rw [hrs]; omega) hdg (kk p e R s m args below meth c H locs ls cells slots n0 k0 C hl hW hS hn hk hN hK)
theorem ex_mminL {idx : Nat} {x y : Int64} (h : ex_d M pc (.invokestatic idx) 3 pc') (hw : Cond.methodLink M.1.cls idx Lib.MathLoose.min_long.x ∈ ex_TB) (hw2 : Cond.static Lib.MathLoose.min_long.x ∈ ex_TB ∧ Cond.initialized "java/lang/Math" ∈ ex_TB ∧ Cond.code Lib.MathLoose.min_long.x Lib.MathLoose.min_long.code 4 (some .long) ∈ ex_TB) (hd : 1 ≤ d) (hrest : (st.map fun v => v.category).sum ≤ 8) (kk : ex_W g d M Po pc' lv (.long (if y < x then y else x) :: st) S n k) : ex_W g d M Po pc lv (.long y :: .long x :: st) S n k := by
  intro p e R s m args below meth c H locs ls cells slots n0 k0 C hl hW hS hn hk hN hK
  obtain ⟨⟨hx, hb, hml, hrt, hlocks⟩, ⟨hown, hnm, htab⟩, ⟨hKU, hKH, hbs, hst⟩, hfr, hlo, hrc, hrs, hn0, hk0⟩ := id C
  obtain ⟨hdg, rfl⟩ := h
  exact va_mmin_long hx hb (hml.trans hl.1.symm) hown (ex_w hKU hw args) (ex_w hKU hw2.1 args) (ex_w hKU hw2.2.1 args) (ex_w hKU hw2.2.2 args) (by omega) (by omega) (by rw [hrc]; omega) (by rw [hrs]; omega) hdg (kk p e R s m args below meth c H locs ls cells slots n0 k0 C hl hW hS hn hk hN hK)
theorem ex_lcmp {x y : Int64} (h : ex_d M pc (.lcmp) 1 pc') (kk : ex_W g d M Po pc' lv (.int (lg_cmp x y) :: st) S n k) : ex_W g d M Po pc lv (.long y :: .long x :: st) S n k := by
  intro p e R s m args below meth c H locs ls cells slots n0 k0 C hl hW hS hn hk hN hK
  obtain ⟨⟨hx, hb, hml, hrt, hlocks⟩, -⟩ := id C
  obtain ⟨hdg, rfl⟩ := h
  exact W.lcmp hx hb hdg (kk p e R s m args below meth c H locs ls cells slots n0 k0 C hl hW hS hn hk hN hK)
/-- arraycopy between rows of references (they may be one) -/
theorem ex_copy {idx a0 a sp dp N : Nat} {xs xd xn : Int32} (h : ex_d M pc (.invokestatic idx) 3 pc') (hw : Cond.methodLink M.1.cls idx arraycopyName ∈ ex_TB) (hw2 : Cond.native arraycopyName ∈ ex_TB ∧ Cond.static arraycopyName ∈ ex_TB ∧ Cond.initialized "java/lang/System" ∈ ex_TB) (hL0 : a0 ∈ hs_L S) (hK0 : hs_K S a0 = 15) (hL : a ∈ hs_L S) (hK1 : hs_K S a = 15) (hs1 : xs = nI sp) (hd1 : xd = nI dp) (hn1 : xn = nI N) (hb1 : sp + N ≤ hs_N S a0) (hb2 : dp + N ≤ hs_N S a) (hbig : hs_N S a0 < 2 ^ 31 ∧ hs_N S a < 2 ^ 31)
    (hel : ∀ i, i < N → ∀ y, hs_R S a0 (sp + i) = some y → y ∈ hs_L S ∧ hs_K S y < 11) (hd : 1 ≤ d) (hrest : (st.map fun v => v.category).sum ≤ 8) (kk : ex_W g d M Po pc' lv st (hs_rR S a (va_cpy (hs_R S a0) (hs_R S a) sp dp N)) n k) : ex_W g d M Po pc lv (.int xn :: .int xd :: .ref a :: .int xs :: .ref a0 :: st) S n k := by
  intro p e R s m args below meth c H locs ls cells slots n0 k0 C hl hW hS hn hk hN hK
  obtain ⟨⟨hx, hb, hml, hrt, hlocks⟩, ⟨hown, hnm, htab⟩, ⟨hKU, hKH, hbs, hst⟩, hfr, hlo, hrc, hrs, hn0, hk0⟩ := id C
  obtain ⟨hdg, rfl⟩ := h
  obtain ⟨q0, hq0⟩ := ex_cell (g := g) hL0 (hs_E_R hK0)
  obtain ⟨q1, hq1⟩ := ex_cell (g := g) hL (hs_E_R hK1)
  subst hs1; subst hd1; subst hn1
  have e1 : (nI sp).toNatClampNeg = sp := nI_clamp (by omega)
  have e2 : (nI dp).toNatClampNeg = dp := nI_clamp (by omega)
  have e3 : (nI N).toNatClampNeg = N := nI_clamp (by omega)
  have h99 : nativeFrameWords "java/lang/System" "arraycopy" 5 + 11 ≤ 56 := by decide +kernel
  refine va_copyM hx hb (hml.trans hl.1.symm) hown (ex_w hKU hw args) (ex_w hKU hw2.1 args) (ex_w hKU hw2.2.1 args) (ex_w hKU hw2.2.2 args) hKU.2.2.1 hW.1 hW.2 hS q0 q1 4 4 hq0 hq1 rfl rfl (nI_pos (by omega)) (nI_pos (by omega)) (nI_pos (by omega)) (by rw [e1, e3]; exact hb1) (by rw [e2, e3]; exact hb2) ?_ (by omega) (by omega) hdg (fun H1 locs1 hP1 hD1 hS1 => ?_)
  · rw [e1, e3]
    intro i hi y hy
    obtain ⟨hLy, hKy⟩ := hel i hi y hy
    obtain ⟨qy, hqy⟩ := ex_cell (g := g) hLy (hs_E_obj rfl hKy)
    obtain ⟨r, hr⟩ := ex_clsome hKy
    refine va_rAny hKU.2.2.1 hW.1 hqy hr (fun comp c0 h1 h2 => ?_)
    obtain ⟨c3, c4, hc3, hc4, hasg⟩ := Cond.castable_spec (ex_nbw hKU (ex_castW _ r hr) args)
    cases Option.some.inj (hc3.symm.trans h2)
    cases Option.some.inj (hc4.symm.trans h1)
    exact hasg
  · refine kk p e R s m args below meth c H1 locs1 ls cells slots n0 k0 C hl (ex_set hL hq1 (hs_E_R hK1) rfl ?_ (hs_off_rR _ S a _) hW.2 hP1 hD1) hS1 hn hk hN hK
    rw [hs_E_R (S := hs_rR S a _) hK1, e1, e2, e3]
    show Sum.inl (_, _, Sum.inr (Sum.inr (Sum.inr (Sum.inr (va_up (hs_R S) a _ a))))) = _
    rw [va_up_self]; rfl
end EXT
end
