-- ===== PART A: goes FIRST, ahead of the names: the tables' words, and 'selects' of the private methods out of them =====
/-- a private method of a class that the tables say can be made, by its rows of tables_1 -/
def lw_okq (q : MethodName × Nat) : Prop := (q.1.cls ≠ "java/lang/invoke/MethodHandle" ∧ q.1.cls ≠ "java/lang/invoke/VarHandle") ∧ Cond.instantiable q.1.cls q.2 ∈ tables_1 ∧ Cond.privateMethod q.1 ∈ tables_1 ∧ Cond.instanceMethod q.1 ∈ tables_1
theorem lw_p0 : lw_okq (⟨"DebtCouncil", "goOn", "()V"⟩, 11) := ⟨⟨by decide +kernel, by decide +kernel⟩, List.mem_of_getElem? (i := 22) (by decide +kernel), List.mem_of_getElem? (i := 435) (by decide +kernel), List.mem_of_getElem? (i := 436) (by decide +kernel)⟩
theorem lw_p1 : lw_okq (⟨"DebtCouncil$Sharing", "shareIn", "(II)I"⟩, 6) := ⟨⟨by decide +kernel, by decide +kernel⟩, List.mem_of_getElem? (i := 281) (by decide +kernel), List.mem_of_getElem? (i := 511) (by decide +kernel), List.mem_of_getElem? (i := 512) (by decide +kernel)⟩
theorem lw_p2 : lw_okq (⟨"DebtCouncil", "tellLeastFrom", "(II)V"⟩, 11) := ⟨⟨by decide +kernel, by decide +kernel⟩, List.mem_of_getElem? (i := 22) (by decide +kernel), List.mem_of_getElem? (i := 607) (by decide +kernel), List.mem_of_getElem? (i := 608) (by decide +kernel)⟩
theorem lw_p3 : lw_okq (⟨"DebtCouncil", "laidTo", "(III)I"⟩, 11) := ⟨⟨by decide +kernel, by decide +kernel⟩, List.mem_of_getElem? (i := 22) (by decide +kernel), List.mem_of_getElem? (i := 617) (by decide +kernel), List.mem_of_getElem? (i := 618) (by decide +kernel)⟩
theorem lw_p4 : lw_okq (⟨"DebtCouncil", "mostHere", "(III)I"⟩, 11) := ⟨⟨by decide +kernel, by decide +kernel⟩, List.mem_of_getElem? (i := 22) (by decide +kernel), List.mem_of_getElem? (i := 621) (by decide +kernel), List.mem_of_getElem? (i := 622) (by decide +kernel)⟩
theorem lw_p5 : lw_okq (⟨"DebtCouncil$TextReader", "advance", "()V"⟩, 10) := ⟨⟨by decide +kernel, by decide +kernel⟩, List.mem_of_getElem? (i := 240) (by decide +kernel), List.mem_of_getElem? (i := 687) (by decide +kernel), List.mem_of_getElem? (i := 688) (by decide +kernel)⟩
theorem lw_p6 : lw_okq (⟨"DebtCouncil$TextReader", "readLine", "()Z"⟩, 10) := ⟨⟨by decide +kernel, by decide +kernel⟩, List.mem_of_getElem? (i := 240) (by decide +kernel), List.mem_of_getElem? (i := 697) (by decide +kernel), List.mem_of_getElem? (i := 698) (by decide +kernel)⟩
theorem lw_p7 : lw_okq (⟨"DebtCouncil$TextReader", "lineSort", "()I"⟩, 10) := ⟨⟨by decide +kernel, by decide +kernel⟩, List.mem_of_getElem? (i := 240) (by decide +kernel), List.mem_of_getElem? (i := 701) (by decide +kernel), List.mem_of_getElem? (i := 702) (by decide +kernel)⟩
theorem lw_p8 : lw_okq (⟨"DebtCouncil$TextReader", "isName", "(Ljava/lang/String;)Z"⟩, 10) := ⟨⟨by decide +kernel, by decide +kernel⟩, List.mem_of_getElem? (i := 240) (by decide +kernel), List.mem_of_getElem? (i := 706) (by decide +kernel), List.mem_of_getElem? (i := 707) (by decide +kernel)⟩
theorem lw_p9 : lw_okq (⟨"DebtCouncil$TextReader", "isNumberUpTo", "(I)Z"⟩, 10) := ⟨⟨by decide +kernel, by decide +kernel⟩, List.mem_of_getElem? (i := 240) (by decide +kernel), List.mem_of_getElem? (i := 765) (by decide +kernel), List.mem_of_getElem? (i := 766) (by decide +kernel)⟩
theorem lw_p10 : lw_okq (⟨"DebtCouncil$TextReader", "readTakeSort", "()I"⟩, 10) := ⟨⟨by decide +kernel, by decide +kernel⟩, List.mem_of_getElem? (i := 240) (by decide +kernel), List.mem_of_getElem? (i := 770) (by decide +kernel), List.mem_of_getElem? (i := 771) (by decide +kernel)⟩
theorem lw_p11 : lw_okq (⟨"DebtCouncil$TextReader", "revenueSort", "()I"⟩, 10) := ⟨⟨by decide +kernel, by decide +kernel⟩, List.mem_of_getElem? (i := 240) (by decide +kernel), List.mem_of_getElem? (i := 775) (by decide +kernel), List.mem_of_getElem? (i := 776) (by decide +kernel)⟩
theorem lw_p12 : lw_okq (⟨"DebtCouncil$TextReader", "readCond", "(I)Z"⟩, 10) := ⟨⟨by decide +kernel, by decide +kernel⟩, List.mem_of_getElem? (i := 240) (by decide +kernel), List.mem_of_getElem? (i := 786) (by decide +kernel), List.mem_of_getElem? (i := 787) (by decide +kernel)⟩
theorem lw_p13 : lw_okq (⟨"DebtCouncil$TextReader", "readAll", "(I)Z"⟩, 10) := ⟨⟨by decide +kernel, by decide +kernel⟩, List.mem_of_getElem? (i := 240) (by decide +kernel), List.mem_of_getElem? (i := 790) (by decide +kernel), List.mem_of_getElem? (i := 791) (by decide +kernel)⟩
theorem lw_p14 : lw_okq (⟨"DebtCouncil$TextReader", "readOne", "(I)Z"⟩, 10) := ⟨⟨by decide +kernel, by decide +kernel⟩, List.mem_of_getElem? (i := 240) (by decide +kernel), List.mem_of_getElem? (i := 794) (by decide +kernel), List.mem_of_getElem? (i := 795) (by decide +kernel)⟩
theorem lw_p15 : lw_okq (⟨"DebtCouncil$TextReader", "isOther", "(C)Z"⟩, 10) := ⟨⟨by decide +kernel, by decide +kernel⟩, List.mem_of_getElem? (i := 240) (by decide +kernel), List.mem_of_getElem? (i := 799) (by decide +kernel), List.mem_of_getElem? (i := 800) (by decide +kernel)⟩
def lw_privs_1 : List (MethodName × Nat) := [(⟨"DebtCouncil", "goOn", "()V"⟩, 11), (⟨"DebtCouncil$Sharing", "shareIn", "(II)I"⟩, 6), (⟨"DebtCouncil", "tellLeastFrom", "(II)V"⟩, 11), (⟨"DebtCouncil", "laidTo", "(III)I"⟩, 11), (⟨"DebtCouncil", "mostHere", "(III)I"⟩, 11), (⟨"DebtCouncil$TextReader", "advance", "()V"⟩, 10), (⟨"DebtCouncil$TextReader", "readLine", "()Z"⟩, 10), (⟨"DebtCouncil$TextReader", "lineSort", "()I"⟩, 10), (⟨"DebtCouncil$TextReader", "isName", "(Ljava/lang/String;)Z"⟩, 10), (⟨"DebtCouncil$TextReader", "isNumberUpTo", "(I)Z"⟩, 10), (⟨"DebtCouncil$TextReader", "readTakeSort", "()I"⟩, 10), (⟨"DebtCouncil$TextReader", "revenueSort", "()I"⟩, 10), (⟨"DebtCouncil$TextReader", "readCond", "(I)Z"⟩, 10), (⟨"DebtCouncil$TextReader", "readAll", "(I)Z"⟩, 10), (⟨"DebtCouncil$TextReader", "readOne", "(I)Z"⟩, 10), (⟨"DebtCouncil$TextReader", "isOther", "(C)Z"⟩, 10)]
theorem lw_r1 : ∀ q ∈ lw_privs_1, lw_okq q := List.forall_mem_cons.mpr ⟨lw_p0, List.forall_mem_cons.mpr ⟨lw_p1, List.forall_mem_cons.mpr ⟨lw_p2, List.forall_mem_cons.mpr ⟨lw_p3, List.forall_mem_cons.mpr ⟨lw_p4, List.forall_mem_cons.mpr ⟨lw_p5, List.forall_mem_cons.mpr ⟨lw_p6, List.forall_mem_cons.mpr ⟨lw_p7, List.forall_mem_cons.mpr ⟨lw_p8, List.forall_mem_cons.mpr ⟨lw_p9, List.forall_mem_cons.mpr ⟨lw_p10, List.forall_mem_cons.mpr ⟨lw_p11, List.forall_mem_cons.mpr ⟨lw_p12, List.forall_mem_cons.mpr ⟨lw_p13, List.forall_mem_cons.mpr ⟨lw_p14, List.forall_mem_cons.mpr ⟨lw_p15, fun _ h => absurd h List.not_mem_nil⟩⟩⟩⟩⟩⟩⟩⟩⟩⟩⟩⟩⟩⟩⟩⟩
theorem lw_p16 : lw_okq (⟨"DebtCouncil$TextReader", "readInner", "(I)Z"⟩, 10) := ⟨⟨by decide +kernel, by decide +kernel⟩, List.mem_of_getElem? (i := 240) (by decide +kernel), List.mem_of_getElem? (i := 803) (by decide +kernel), List.mem_of_getElem? (i := 804) (by decide +kernel)⟩
theorem lw_p17 : lw_okq (⟨"DebtCouncil$TextReader", "readPlain", "()Z"⟩, 10) := ⟨⟨by decide +kernel, by decide +kernel⟩, List.mem_of_getElem? (i := 240) (by decide +kernel), List.mem_of_getElem? (i := 807) (by decide +kernel), List.mem_of_getElem? (i := 808) (by decide +kernel)⟩
theorem lw_p18 : lw_okq (⟨"DebtCouncil$TextReader", "addStep", "(I)V"⟩, 10) := ⟨⟨by decide +kernel, by decide +kernel⟩, List.mem_of_getElem? (i := 240) (by decide +kernel), List.mem_of_getElem? (i := 814) (by decide +kernel), List.mem_of_getElem? (i := 815) (by decide +kernel)⟩
theorem lw_p19 : lw_okq (⟨"DebtCouncil$TextReader", "factNamed", "()I"⟩, 10) := ⟨⟨by decide +kernel, by decide +kernel⟩, List.mem_of_getElem? (i := 240) (by decide +kernel), List.mem_of_getElem? (i := 818) (by decide +kernel), List.mem_of_getElem? (i := 819) (by decide +kernel)⟩
theorem lw_p20 : lw_okq (⟨"DebtCouncil$Matching", "forgetSeen", "()V"⟩, 4) := ⟨⟨by decide +kernel, by decide +kernel⟩, List.mem_of_getElem? (i := 308) (by decide +kernel), List.mem_of_getElem? (i := 965) (by decide +kernel), List.mem_of_getElem? (i := 966) (by decide +kernel)⟩
theorem lw_p21 : lw_okq (⟨"DebtCouncil$Matching", "findsPartner", "(LDebtCouncil$Ledger;II)Z"⟩, 4) := ⟨⟨by decide +kernel, by decide +kernel⟩, List.mem_of_getElem? (i := 308) (by decide +kernel), List.mem_of_getElem? (i := 970) (by decide +kernel), List.mem_of_getElem? (i := 971) (by decide +kernel)⟩
theorem lw_p22 : lw_okq (⟨"DebtCouncil", "singlePapers", "()I"⟩, 11) := ⟨⟨by decide +kernel, by decide +kernel⟩, List.mem_of_getElem? (i := 22) (by decide +kernel), List.mem_of_getElem? (i := 985) (by decide +kernel), List.mem_of_getElem? (i := 986) (by decide +kernel)⟩
theorem lw_p23 : lw_okq (⟨"DebtCouncil", "leastYearOf", "(I)I"⟩, 11) := ⟨⟨by decide +kernel, by decide +kernel⟩, List.mem_of_getElem? (i := 22) (by decide +kernel), List.mem_of_getElem? (i := 1019) (by decide +kernel), List.mem_of_getElem? (i := 1020) (by decide +kernel)⟩
theorem lw_p24 : lw_okq (⟨"DebtCouncil", "leastYearWith", "(I)I"⟩, 11) := ⟨⟨by decide +kernel, by decide +kernel⟩, List.mem_of_getElem? (i := 22) (by decide +kernel), List.mem_of_getElem? (i := 1024) (by decide +kernel), List.mem_of_getElem? (i := 1025) (by decide +kernel)⟩
theorem lw_p25 : lw_okq (⟨"DebtCouncil", "sinksOf", "(I)I"⟩, 11) := ⟨⟨by decide +kernel, by decide +kernel⟩, List.mem_of_getElem? (i := 22) (by decide +kernel), List.mem_of_getElem? (i := 1028) (by decide +kernel), List.mem_of_getElem? (i := 1029) (by decide +kernel)⟩
theorem lw_p26 : lw_okq (⟨"DebtCouncil", "tellRows", "(I)V"⟩, 11) := ⟨⟨by decide +kernel, by decide +kernel⟩, List.mem_of_getElem? (i := 22) (by decide +kernel), List.mem_of_getElem? (i := 1032) (by decide +kernel), List.mem_of_getElem? (i := 1033) (by decide +kernel)⟩
theorem lw_p27 : lw_okq (⟨"DebtCouncil", "kindOn", "(I)I"⟩, 11) := ⟨⟨by decide +kernel, by decide +kernel⟩, List.mem_of_getElem? (i := 22) (by decide +kernel), List.mem_of_getElem? (i := 1091) (by decide +kernel), List.mem_of_getElem? (i := 1092) (by decide +kernel)⟩
theorem lw_p28 : lw_okq (⟨"DebtCouncil$Dealer", "run", "(IIII)I"⟩, 7) := ⟨⟨by decide +kernel, by decide +kernel⟩, List.mem_of_getElem? (i := 364) (by decide +kernel), List.mem_of_getElem? (i := 1116) (by decide +kernel), List.mem_of_getElem? (i := 1117) (by decide +kernel)⟩
theorem lw_p29 : lw_okq (⟨"DebtCouncil$Dealer", "note", "(I)V"⟩, 7) := ⟨⟨by decide +kernel, by decide +kernel⟩, List.mem_of_getElem? (i := 364) (by decide +kernel), List.mem_of_getElem? (i := 1122) (by decide +kernel), List.mem_of_getElem? (i := 1123) (by decide +kernel)⟩
theorem lw_p30 : lw_okq (⟨"DebtCouncil$Dealer", "parted", "(II)I"⟩, 7) := ⟨⟨by decide +kernel, by decide +kernel⟩, List.mem_of_getElem? (i := 364) (by decide +kernel), List.mem_of_getElem? (i := 1126) (by decide +kernel), List.mem_of_getElem? (i := 1127) (by decide +kernel)⟩
theorem lw_p31 : lw_okq (⟨"DebtCouncilModel", "isOne", "(II)Z"⟩, 75) := ⟨⟨by decide +kernel, by decide +kernel⟩, List.mem_of_getElem? (i := 1180) (by decide +kernel), List.mem_of_getElem? (i := 1425) (by decide +kernel), List.mem_of_getElem? (i := 1426) (by decide +kernel)⟩
def lw_privs_2 : List (MethodName × Nat) := [(⟨"DebtCouncil$TextReader", "readInner", "(I)Z"⟩, 10), (⟨"DebtCouncil$TextReader", "readPlain", "()Z"⟩, 10), (⟨"DebtCouncil$TextReader", "addStep", "(I)V"⟩, 10), (⟨"DebtCouncil$TextReader", "factNamed", "()I"⟩, 10), (⟨"DebtCouncil$Matching", "forgetSeen", "()V"⟩, 4), (⟨"DebtCouncil$Matching", "findsPartner", "(LDebtCouncil$Ledger;II)Z"⟩, 4), (⟨"DebtCouncil", "singlePapers", "()I"⟩, 11), (⟨"DebtCouncil", "leastYearOf", "(I)I"⟩, 11), (⟨"DebtCouncil", "leastYearWith", "(I)I"⟩, 11), (⟨"DebtCouncil", "sinksOf", "(I)I"⟩, 11), (⟨"DebtCouncil", "tellRows", "(I)V"⟩, 11), (⟨"DebtCouncil", "kindOn", "(I)I"⟩, 11), (⟨"DebtCouncil$Dealer", "run", "(IIII)I"⟩, 7), (⟨"DebtCouncil$Dealer", "note", "(I)V"⟩, 7), (⟨"DebtCouncil$Dealer", "parted", "(II)I"⟩, 7), (⟨"DebtCouncilModel", "isOne", "(II)Z"⟩, 75)]
theorem lw_r2 : ∀ q ∈ lw_privs_2, lw_okq q := List.forall_mem_cons.mpr ⟨lw_p16, List.forall_mem_cons.mpr ⟨lw_p17, List.forall_mem_cons.mpr ⟨lw_p18, List.forall_mem_cons.mpr ⟨lw_p19, List.forall_mem_cons.mpr ⟨lw_p20, List.forall_mem_cons.mpr ⟨lw_p21, List.forall_mem_cons.mpr ⟨lw_p22, List.forall_mem_cons.mpr ⟨lw_p23, List.forall_mem_cons.mpr ⟨lw_p24, List.forall_mem_cons.mpr ⟨lw_p25, List.forall_mem_cons.mpr ⟨lw_p26, List.forall_mem_cons.mpr ⟨lw_p27, List.forall_mem_cons.mpr ⟨lw_p28, List.forall_mem_cons.mpr ⟨lw_p29, List.forall_mem_cons.mpr ⟨lw_p30, List.forall_mem_cons.mpr ⟨lw_p31, fun _ h => absurd h List.not_mem_nil⟩⟩⟩⟩⟩⟩⟩⟩⟩⟩⟩⟩⟩⟩⟩⟩
theorem lw_p32 : lw_okq (⟨"DebtCouncilModel", "due", "(IIII)I"⟩, 75) := ⟨⟨by decide +kernel, by decide +kernel⟩, List.mem_of_getElem? (i := 1180) (by decide +kernel), List.mem_of_getElem? (i := 1453) (by decide +kernel), List.mem_of_getElem? (i := 1454) (by decide +kernel)⟩
theorem lw_p33 : lw_okq (⟨"DebtCouncilModel", "round", "(IIIII)I"⟩, 75) := ⟨⟨by decide +kernel, by decide +kernel⟩, List.mem_of_getElem? (i := 1180) (by decide +kernel), List.mem_of_getElem? (i := 1457) (by decide +kernel), List.mem_of_getElem? (i := 1458) (by decide +kernel)⟩
theorem lw_p34 : lw_okq (⟨"DebtCouncilModel", "gathered", "(III)I"⟩, 75) := ⟨⟨by decide +kernel, by decide +kernel⟩, List.mem_of_getElem? (i := 1180) (by decide +kernel), List.mem_of_getElem? (i := 1465) (by decide +kernel), List.mem_of_getElem? (i := 1466) (by decide +kernel)⟩
theorem lw_p35 : lw_okq (⟨"DebtCouncilModel", "isMutiny", "(I)Z"⟩, 75) := ⟨⟨by decide +kernel, by decide +kernel⟩, List.mem_of_getElem? (i := 1180) (by decide +kernel), List.mem_of_getElem? (i := 1469) (by decide +kernel), List.mem_of_getElem? (i := 1470) (by decide +kernel)⟩
theorem lw_p36 : lw_okq (⟨"DebtCouncilModel", "leastFrom", "(III)I"⟩, 75) := ⟨⟨by decide +kernel, by decide +kernel⟩, List.mem_of_getElem? (i := 1180) (by decide +kernel), List.mem_of_getElem? (i := 1477) (by decide +kernel), List.mem_of_getElem? (i := 1478) (by decide +kernel)⟩
theorem lw_p37 : lw_okq (⟨"DebtCouncilModel", "goesRound", "(III)I"⟩, 75) := ⟨⟨by decide +kernel, by decide +kernel⟩, List.mem_of_getElem? (i := 1180) (by decide +kernel), List.mem_of_getElem? (i := 1481) (by decide +kernel), List.mem_of_getElem? (i := 1482) (by decide +kernel)⟩
theorem lw_p38 : lw_okq (⟨"DebtCouncilModel", "mostAt", "(III)I"⟩, 75) := ⟨⟨by decide +kernel, by decide +kernel⟩, List.mem_of_getElem? (i := 1180) (by decide +kernel), List.mem_of_getElem? (i := 1485) (by decide +kernel), List.mem_of_getElem? (i := 1486) (by decide +kernel)⟩
theorem lw_p39 : lw_okq (⟨"DebtCouncilModel", "here", "()I"⟩, 75) := ⟨⟨by decide +kernel, by decide +kernel⟩, List.mem_of_getElem? (i := 1180) (by decide +kernel), List.mem_of_getElem? (i := 1503) (by decide +kernel), List.mem_of_getElem? (i := 1504) (by decide +kernel)⟩
theorem lw_p40 : lw_okq (⟨"DebtCouncilModel", "bad", "()Z"⟩, 75) := ⟨⟨by decide +kernel, by decide +kernel⟩, List.mem_of_getElem? (i := 1180) (by decide +kernel), List.mem_of_getElem? (i := 1507) (by decide +kernel), List.mem_of_getElem? (i := 1508) (by decide +kernel)⟩
theorem lw_p41 : lw_okq (⟨"DebtCouncilModel", "line", "(I)Z"⟩, 75) := ⟨⟨by decide +kernel, by decide +kernel⟩, List.mem_of_getElem? (i := 1180) (by decide +kernel), List.mem_of_getElem? (i := 1511) (by decide +kernel), List.mem_of_getElem? (i := 1512) (by decide +kernel)⟩
theorem lw_p42 : lw_okq (⟨"DebtCouncilModel", "takes", "(Ljava/lang/String;)Z"⟩, 75) := ⟨⟨by decide +kernel, by decide +kernel⟩, List.mem_of_getElem? (i := 1180) (by decide +kernel), List.mem_of_getElem? (i := 1516) (by decide +kernel), List.mem_of_getElem? (i := 1517) (by decide +kernel)⟩
theorem lw_p43 : lw_okq (⟨"DebtCouncilModel", "isLetter", "(I)Z"⟩, 75) := ⟨⟨by decide +kernel, by decide +kernel⟩, List.mem_of_getElem? (i := 1180) (by decide +kernel), List.mem_of_getElem? (i := 1522) (by decide +kernel), List.mem_of_getElem? (i := 1523) (by decide +kernel)⟩
theorem lw_p44 : lw_okq (⟨"DebtCouncilModel", "number", "(I)Z"⟩, 75) := ⟨⟨by decide +kernel, by decide +kernel⟩, List.mem_of_getElem? (i := 1180) (by decide +kernel), List.mem_of_getElem? (i := 1530) (by decide +kernel), List.mem_of_getElem? (i := 1531) (by decide +kernel)⟩
theorem lw_p45 : lw_okq (⟨"DebtCouncilModel", "isDigit", "(I)Z"⟩, 75) := ⟨⟨by decide +kernel, by decide +kernel⟩, List.mem_of_getElem? (i := 1180) (by decide +kernel), List.mem_of_getElem? (i := 1534) (by decide +kernel), List.mem_of_getElem? (i := 1535) (by decide +kernel)⟩
theorem lw_p46 : lw_okq (⟨"DebtCouncilModel", "sortHere", "()I"⟩, 75) := ⟨⟨by decide +kernel, by decide +kernel⟩, List.mem_of_getElem? (i := 1180) (by decide +kernel), List.mem_of_getElem? (i := 1539) (by decide +kernel), List.mem_of_getElem? (i := 1540) (by decide +kernel)⟩
theorem lw_p47 : lw_okq (⟨"DebtCouncilModel", "cond", "()Z"⟩, 75) := ⟨⟨by decide +kernel, by decide +kernel⟩, List.mem_of_getElem? (i := 1180) (by decide +kernel), List.mem_of_getElem? (i := 1547) (by decide +kernel), List.mem_of_getElem? (i := 1548) (by decide +kernel)⟩
def lw_privs_3 : List (MethodName × Nat) := [(⟨"DebtCouncilModel", "due", "(IIII)I"⟩, 75), (⟨"DebtCouncilModel", "round", "(IIIII)I"⟩, 75), (⟨"DebtCouncilModel", "gathered", "(III)I"⟩, 75), (⟨"DebtCouncilModel", "isMutiny", "(I)Z"⟩, 75), (⟨"DebtCouncilModel", "leastFrom", "(III)I"⟩, 75), (⟨"DebtCouncilModel", "goesRound", "(III)I"⟩, 75), (⟨"DebtCouncilModel", "mostAt", "(III)I"⟩, 75), (⟨"DebtCouncilModel", "here", "()I"⟩, 75), (⟨"DebtCouncilModel", "bad", "()Z"⟩, 75), (⟨"DebtCouncilModel", "line", "(I)Z"⟩, 75), (⟨"DebtCouncilModel", "takes", "(Ljava/lang/String;)Z"⟩, 75), (⟨"DebtCouncilModel", "isLetter", "(I)Z"⟩, 75), (⟨"DebtCouncilModel", "number", "(I)Z"⟩, 75), (⟨"DebtCouncilModel", "isDigit", "(I)Z"⟩, 75), (⟨"DebtCouncilModel", "sortHere", "()I"⟩, 75), (⟨"DebtCouncilModel", "cond", "()Z"⟩, 75)]
theorem lw_r3 : ∀ q ∈ lw_privs_3, lw_okq q := List.forall_mem_cons.mpr ⟨lw_p32, List.forall_mem_cons.mpr ⟨lw_p33, List.forall_mem_cons.mpr ⟨lw_p34, List.forall_mem_cons.mpr ⟨lw_p35, List.forall_mem_cons.mpr ⟨lw_p36, List.forall_mem_cons.mpr ⟨lw_p37, List.forall_mem_cons.mpr ⟨lw_p38, List.forall_mem_cons.mpr ⟨lw_p39, List.forall_mem_cons.mpr ⟨lw_p40, List.forall_mem_cons.mpr ⟨lw_p41, List.forall_mem_cons.mpr ⟨lw_p42, List.forall_mem_cons.mpr ⟨lw_p43, List.forall_mem_cons.mpr ⟨lw_p44, List.forall_mem_cons.mpr ⟨lw_p45, List.forall_mem_cons.mpr ⟨lw_p46, List.forall_mem_cons.mpr ⟨lw_p47, fun _ h => absurd h List.not_mem_nil⟩⟩⟩⟩⟩⟩⟩⟩⟩⟩⟩⟩⟩⟩⟩⟩
theorem lw_p48 : lw_okq (⟨"DebtCouncilModel", "both", "()Z"⟩, 75) := ⟨⟨by decide +kernel, by decide +kernel⟩, List.mem_of_getElem? (i := 1180) (by decide +kernel), List.mem_of_getElem? (i := 1551) (by decide +kernel), List.mem_of_getElem? (i := 1552) (by decide +kernel)⟩
theorem lw_p49 : lw_okq (⟨"DebtCouncilModel", "single", "()Z"⟩, 75) := ⟨⟨by decide +kernel, by decide +kernel⟩, List.mem_of_getElem? (i := 1180) (by decide +kernel), List.mem_of_getElem? (i := 1555) (by decide +kernel), List.mem_of_getElem? (i := 1556) (by decide +kernel)⟩
theorem lw_p50 : lw_okq (⟨"DebtCouncilModel", "plain", "()Z"⟩, 75) := ⟨⟨by decide +kernel, by decide +kernel⟩, List.mem_of_getElem? (i := 1180) (by decide +kernel), List.mem_of_getElem? (i := 1560) (by decide +kernel), List.mem_of_getElem? (i := 1561) (by decide +kernel)⟩
theorem lw_p51 : lw_okq (⟨"DebtCouncilModel", "takes", "(I)Z"⟩, 75) := ⟨⟨by decide +kernel, by decide +kernel⟩, List.mem_of_getElem? (i := 1180) (by decide +kernel), List.mem_of_getElem? (i := 1564) (by decide +kernel), List.mem_of_getElem? (i := 1565) (by decide +kernel)⟩
theorem lw_p52 : lw_okq (⟨"DebtCouncilModel", "write", "(I)V"⟩, 75) := ⟨⟨by decide +kernel, by decide +kernel⟩, List.mem_of_getElem? (i := 1180) (by decide +kernel), List.mem_of_getElem? (i := 1569) (by decide +kernel), List.mem_of_getElem? (i := 1570) (by decide +kernel)⟩
theorem lw_p53 : lw_okq (⟨"DebtCouncilModel", "factHere", "()I"⟩, 75) := ⟨⟨by decide +kernel, by decide +kernel⟩, List.mem_of_getElem? (i := 1180) (by decide +kernel), List.mem_of_getElem? (i := 1573) (by decide +kernel), List.mem_of_getElem? (i := 1574) (by decide +kernel)⟩
theorem lw_p54 : lw_okq (⟨"DebtCouncilModel", "newDebt", "(IIIII)I"⟩, 75) := ⟨⟨by decide +kernel, by decide +kernel⟩, List.mem_of_getElem? (i := 1180) (by decide +kernel), List.mem_of_getElem? (i := 1598) (by decide +kernel), List.mem_of_getElem? (i := 1599) (by decide +kernel)⟩
theorem lw_p55 : lw_okq (⟨"DebtCouncilModel", "told", "(IIII)I"⟩, 75) := ⟨⟨by decide +kernel, by decide +kernel⟩, List.mem_of_getElem? (i := 1180) (by decide +kernel), List.mem_of_getElem? (i := 1606) (by decide +kernel), List.mem_of_getElem? (i := 1607) (by decide +kernel)⟩
theorem lw_p56 : lw_okq (⟨"DebtCouncilModel", "first", "(III)I"⟩, 75) := ⟨⟨by decide +kernel, by decide +kernel⟩, List.mem_of_getElem? (i := 1180) (by decide +kernel), List.mem_of_getElem? (i := 1610) (by decide +kernel), List.mem_of_getElem? (i := 1611) (by decide +kernel)⟩
theorem lw_p57 : lw_okq (⟨"DebtCouncilModel", "statute", "(I)I"⟩, 75) := ⟨⟨by decide +kernel, by decide +kernel⟩, List.mem_of_getElem? (i := 1180) (by decide +kernel), List.mem_of_getElem? (i := 1614) (by decide +kernel), List.mem_of_getElem? (i := 1615) (by decide +kernel)⟩
theorem lw_p58 : lw_okq (⟨"DebtCouncilModel", "holds", "(IIII)Z"⟩, 75) := ⟨⟨by decide +kernel, by decide +kernel⟩, List.mem_of_getElem? (i := 1180) (by decide +kernel), List.mem_of_getElem? (i := 1618) (by decide +kernel), List.mem_of_getElem? (i := 1619) (by decide +kernel)⟩
theorem lw_p59 : lw_okq (⟨"DebtCouncilModel", "fact", "(III)I"⟩, 75) := ⟨⟨by decide +kernel, by decide +kernel⟩, List.mem_of_getElem? (i := 1180) (by decide +kernel), List.mem_of_getElem? (i := 1622) (by decide +kernel), List.mem_of_getElem? (i := 1623) (by decide +kernel)⟩
theorem lw_p60 : lw_okq (⟨"DebtCouncilModel", "falls", "(II)I"⟩, 75) := ⟨⟨by decide +kernel, by decide +kernel⟩, List.mem_of_getElem? (i := 1180) (by decide +kernel), List.mem_of_getElem? (i := 1627) (by decide +kernel), List.mem_of_getElem? (i := 1628) (by decide +kernel)⟩
theorem lw_p61 : lw_okq (⟨"DebtCouncilModel", "isOff", "(II)Z"⟩, 75) := ⟨⟨by decide +kernel, by decide +kernel⟩, List.mem_of_getElem? (i := 1180) (by decide +kernel), List.mem_of_getElem? (i := 1631) (by decide +kernel), List.mem_of_getElem? (i := 1632) (by decide +kernel)⟩
theorem lw_p62 : lw_okq (⟨"DebtCouncilModel", "spare", "(II)I"⟩, 75) := ⟨⟨by decide +kernel, by decide +kernel⟩, List.mem_of_getElem? (i := 1180) (by decide +kernel), List.mem_of_getElem? (i := 1647) (by decide +kernel), List.mem_of_getElem? (i := 1648) (by decide +kernel)⟩
theorem lw_p63 : lw_okq (⟨"DebtCouncilModel", "latest", "(III)I"⟩, 75) := ⟨⟨by decide +kernel, by decide +kernel⟩, List.mem_of_getElem? (i := 1180) (by decide +kernel), List.mem_of_getElem? (i := 1651) (by decide +kernel), List.mem_of_getElem? (i := 1652) (by decide +kernel)⟩
def lw_privs_4 : List (MethodName × Nat) := [(⟨"DebtCouncilModel", "both", "()Z"⟩, 75), (⟨"DebtCouncilModel", "single", "()Z"⟩, 75), (⟨"DebtCouncilModel", "plain", "()Z"⟩, 75), (⟨"DebtCouncilModel", "takes", "(I)Z"⟩, 75), (⟨"DebtCouncilModel", "write", "(I)V"⟩, 75), (⟨"DebtCouncilModel", "factHere", "()I"⟩, 75), (⟨"DebtCouncilModel", "newDebt", "(IIIII)I"⟩, 75), (⟨"DebtCouncilModel", "told", "(IIII)I"⟩, 75), (⟨"DebtCouncilModel", "first", "(III)I"⟩, 75), (⟨"DebtCouncilModel", "statute", "(I)I"⟩, 75), (⟨"DebtCouncilModel", "holds", "(IIII)Z"⟩, 75), (⟨"DebtCouncilModel", "fact", "(III)I"⟩, 75), (⟨"DebtCouncilModel", "falls", "(II)I"⟩, 75), (⟨"DebtCouncilModel", "isOff", "(II)Z"⟩, 75), (⟨"DebtCouncilModel", "spare", "(II)I"⟩, 75), (⟨"DebtCouncilModel", "latest", "(III)I"⟩, 75)]
theorem lw_r4 : ∀ q ∈ lw_privs_4, lw_okq q := List.forall_mem_cons.mpr ⟨lw_p48, List.forall_mem_cons.mpr ⟨lw_p49, List.forall_mem_cons.mpr ⟨lw_p50, List.forall_mem_cons.mpr ⟨lw_p51, List.forall_mem_cons.mpr ⟨lw_p52, List.forall_mem_cons.mpr ⟨lw_p53, List.forall_mem_cons.mpr ⟨lw_p54, List.forall_mem_cons.mpr ⟨lw_p55, List.forall_mem_cons.mpr ⟨lw_p56, List.forall_mem_cons.mpr ⟨lw_p57, List.forall_mem_cons.mpr ⟨lw_p58, List.forall_mem_cons.mpr ⟨lw_p59, List.forall_mem_cons.mpr ⟨lw_p60, List.forall_mem_cons.mpr ⟨lw_p61, List.forall_mem_cons.mpr ⟨lw_p62, List.forall_mem_cons.mpr ⟨lw_p63, fun _ h => absurd h List.not_mem_nil⟩⟩⟩⟩⟩⟩⟩⟩⟩⟩⟩⟩⟩⟩⟩⟩
theorem lw_p64 : lw_okq (⟨"DebtCouncilModel", "share", "(III)I"⟩, 75) := ⟨⟨by decide +kernel, by decide +kernel⟩, List.mem_of_getElem? (i := 1180) (by decide +kernel), List.mem_of_getElem? (i := 1655) (by decide +kernel), List.mem_of_getElem? (i := 1656) (by decide +kernel)⟩
theorem lw_p65 : lw_okq (⟨"DebtCouncilModel", "part", "(III)V"⟩, 75) := ⟨⟨by decide +kernel, by decide +kernel⟩, List.mem_of_getElem? (i := 1180) (by decide +kernel), List.mem_of_getElem? (i := 1659) (by decide +kernel), List.mem_of_getElem? (i := 1660) (by decide +kernel)⟩
theorem lw_p66 : lw_okq (⟨"DebtCouncilModel", "month", "()V"⟩, 75) := ⟨⟨by decide +kernel, by decide +kernel⟩, List.mem_of_getElem? (i := 1180) (by decide +kernel), List.mem_of_getElem? (i := 1667) (by decide +kernel), List.mem_of_getElem? (i := 1668) (by decide +kernel)⟩
theorem lw_p67 : lw_okq (⟨"DebtCouncilModel", "comesIn", "(I)V"⟩, 75) := ⟨⟨by decide +kernel, by decide +kernel⟩, List.mem_of_getElem? (i := 1180) (by decide +kernel), List.mem_of_getElem? (i := 1671) (by decide +kernel), List.mem_of_getElem? (i := 1672) (by decide +kernel)⟩
theorem lw_p68 : lw_okq (⟨"DebtCouncilModel", "takesIt", "(III)Z"⟩, 75) := ⟨⟨by decide +kernel, by decide +kernel⟩, List.mem_of_getElem? (i := 1180) (by decide +kernel), List.mem_of_getElem? (i := 1688) (by decide +kernel), List.mem_of_getElem? (i := 1689) (by decide +kernel)⟩
theorem lw_p69 : lw_okq (⟨"DebtCouncilModel", "earns", "(II)I"⟩, 75) := ⟨⟨by decide +kernel, by decide +kernel⟩, List.mem_of_getElem? (i := 1180) (by decide +kernel), List.mem_of_getElem? (i := 1704) (by decide +kernel), List.mem_of_getElem? (i := 1705) (by decide +kernel)⟩
theorem lw_p70 : lw_okq (⟨"DebtCouncilModel", "others", "(I)I"⟩, 75) := ⟨⟨by decide +kernel, by decide +kernel⟩, List.mem_of_getElem? (i := 1180) (by decide +kernel), List.mem_of_getElem? (i := 1716) (by decide +kernel), List.mem_of_getElem? (i := 1717) (by decide +kernel)⟩
theorem lw_p71 : lw_okq (⟨"DebtCouncilModel", "mayBeOne", "(II)Z"⟩, 75) := ⟨⟨by decide +kernel, by decide +kernel⟩, List.mem_of_getElem? (i := 1180) (by decide +kernel), List.mem_of_getElem? (i := 1720) (by decide +kernel), List.mem_of_getElem? (i := 1721) (by decide +kernel)⟩
theorem lw_p72 : lw_okq (⟨"DebtCouncilModel", "match", "()V"⟩, 75) := ⟨⟨by decide +kernel, by decide +kernel⟩, List.mem_of_getElem? (i := 1180) (by decide +kernel), List.mem_of_getElem? (i := 1724) (by decide +kernel), List.mem_of_getElem? (i := 1725) (by decide +kernel)⟩
theorem lw_p73 : lw_okq (⟨"DebtCouncilModel", "finds", "(I)Z"⟩, 75) := ⟨⟨by decide +kernel, by decide +kernel⟩, List.mem_of_getElem? (i := 1180) (by decide +kernel), List.mem_of_getElem? (i := 1728) (by decide +kernel), List.mem_of_getElem? (i := 1729) (by decide +kernel)⟩
theorem lw_p74 : lw_okq (⟨"DebtCouncilModel", "upTo", "(I)I"⟩, 75) := ⟨⟨by decide +kernel, by decide +kernel⟩, List.mem_of_getElem? (i := 1180) (by decide +kernel), List.mem_of_getElem? (i := 1740) (by decide +kernel), List.mem_of_getElem? (i := 1741) (by decide +kernel)⟩
theorem lw_p75 : lw_okq (⟨"DebtCouncilModel", "isLast", "(I)Z"⟩, 75) := ⟨⟨by decide +kernel, by decide +kernel⟩, List.mem_of_getElem? (i := 1180) (by decide +kernel), List.mem_of_getElem? (i := 1744) (by decide +kernel), List.mem_of_getElem? (i := 1745) (by decide +kernel)⟩
theorem lw_p76 : lw_okq (⟨"DebtCouncilModel", "leastYear", "(II)I"⟩, 75) := ⟨⟨by decide +kernel, by decide +kernel⟩, List.mem_of_getElem? (i := 1180) (by decide +kernel), List.mem_of_getElem? (i := 1756) (by decide +kernel), List.mem_of_getElem? (i := 1757) (by decide +kernel)⟩
theorem lw_p77 : lw_okq (⟨"DebtCouncilModel", "sunk", "(I)I"⟩, 75) := ⟨⟨by decide +kernel, by decide +kernel⟩, List.mem_of_getElem? (i := 1180) (by decide +kernel), List.mem_of_getElem? (i := 1761) (by decide +kernel), List.mem_of_getElem? (i := 1762) (by decide +kernel)⟩
theorem lw_p78 : lw_okq (⟨"DebtCouncilModel", "kindOn", "(I)I"⟩, 75) := ⟨⟨by decide +kernel, by decide +kernel⟩, List.mem_of_getElem? (i := 1180) (by decide +kernel), List.mem_of_getElem? (i := 1804) (by decide +kernel), List.mem_of_getElem? (i := 1805) (by decide +kernel)⟩
theorem lw_p79 : lw_okq (⟨"DebtCouncilModel", "pays", "(II)I"⟩, 75) := ⟨⟨by decide +kernel, by decide +kernel⟩, List.mem_of_getElem? (i := 1180) (by decide +kernel), List.mem_of_getElem? (i := 1815) (by decide +kernel), List.mem_of_getElem? (i := 1816) (by decide +kernel)⟩
def lw_privs_5 : List (MethodName × Nat) := [(⟨"DebtCouncilModel", "share", "(III)I"⟩, 75), (⟨"DebtCouncilModel", "part", "(III)V"⟩, 75), (⟨"DebtCouncilModel", "month", "()V"⟩, 75), (⟨"DebtCouncilModel", "comesIn", "(I)V"⟩, 75), (⟨"DebtCouncilModel", "takesIt", "(III)Z"⟩, 75), (⟨"DebtCouncilModel", "earns", "(II)I"⟩, 75), (⟨"DebtCouncilModel", "others", "(I)I"⟩, 75), (⟨"DebtCouncilModel", "mayBeOne", "(II)Z"⟩, 75), (⟨"DebtCouncilModel", "match", "()V"⟩, 75), (⟨"DebtCouncilModel", "finds", "(I)Z"⟩, 75), (⟨"DebtCouncilModel", "upTo", "(I)I"⟩, 75), (⟨"DebtCouncilModel", "isLast", "(I)Z"⟩, 75), (⟨"DebtCouncilModel", "leastYear", "(II)I"⟩, 75), (⟨"DebtCouncilModel", "sunk", "(I)I"⟩, 75), (⟨"DebtCouncilModel", "kindOn", "(I)I"⟩, 75), (⟨"DebtCouncilModel", "pays", "(II)I"⟩, 75)]
theorem lw_r5 : ∀ q ∈ lw_privs_5, lw_okq q := List.forall_mem_cons.mpr ⟨lw_p64, List.forall_mem_cons.mpr ⟨lw_p65, List.forall_mem_cons.mpr ⟨lw_p66, List.forall_mem_cons.mpr ⟨lw_p67, List.forall_mem_cons.mpr ⟨lw_p68, List.forall_mem_cons.mpr ⟨lw_p69, List.forall_mem_cons.mpr ⟨lw_p70, List.forall_mem_cons.mpr ⟨lw_p71, List.forall_mem_cons.mpr ⟨lw_p72, List.forall_mem_cons.mpr ⟨lw_p73, List.forall_mem_cons.mpr ⟨lw_p74, List.forall_mem_cons.mpr ⟨lw_p75, List.forall_mem_cons.mpr ⟨lw_p76, List.forall_mem_cons.mpr ⟨lw_p77, List.forall_mem_cons.mpr ⟨lw_p78, List.forall_mem_cons.mpr ⟨lw_p79, fun _ h => absurd h List.not_mem_nil⟩⟩⟩⟩⟩⟩⟩⟩⟩⟩⟩⟩⟩⟩⟩⟩
theorem lw_p80 : lw_okq (⟨"DebtCouncilModel", "begins", "(I)V"⟩, 75) := ⟨⟨by decide +kernel, by decide +kernel⟩, List.mem_of_getElem? (i := 1180) (by decide +kernel), List.mem_of_getElem? (i := 1819) (by decide +kernel), List.mem_of_getElem? (i := 1820) (by decide +kernel)⟩
theorem lw_p81 : lw_okq (⟨"DebtCouncilModel", "ranks", "(II)I"⟩, 75) := ⟨⟨by decide +kernel, by decide +kernel⟩, List.mem_of_getElem? (i := 1180) (by decide +kernel), List.mem_of_getElem? (i := 1826) (by decide +kernel), List.mem_of_getElem? (i := 1827) (by decide +kernel)⟩
theorem lw_p82 : lw_okq (⟨"DebtCouncilModel", "falls1", "(II)I"⟩, 75) := ⟨⟨by decide +kernel, by decide +kernel⟩, List.mem_of_getElem? (i := 1180) (by decide +kernel), List.mem_of_getElem? (i := 1830) (by decide +kernel), List.mem_of_getElem? (i := 1831) (by decide +kernel)⟩
theorem lw_p83 : lw_okq (⟨"DebtCouncilModel", "tells", "(II)I"⟩, 75) := ⟨⟨by decide +kernel, by decide +kernel⟩, List.mem_of_getElem? (i := 1180) (by decide +kernel), List.mem_of_getElem? (i := 1834) (by decide +kernel), List.mem_of_getElem? (i := 1835) (by decide +kernel)⟩
def lw_privs_6 : List (MethodName × Nat) := [(⟨"DebtCouncilModel", "begins", "(I)V"⟩, 75), (⟨"DebtCouncilModel", "ranks", "(II)I"⟩, 75), (⟨"DebtCouncilModel", "falls1", "(II)I"⟩, 75), (⟨"DebtCouncilModel", "tells", "(II)I"⟩, 75)]
theorem lw_r6 : ∀ q ∈ lw_privs_6, lw_okq q := List.forall_mem_cons.mpr ⟨lw_p80, List.forall_mem_cons.mpr ⟨lw_p81, List.forall_mem_cons.mpr ⟨lw_p82, List.forall_mem_cons.mpr ⟨lw_p83, fun _ h => absurd h List.not_mem_nil⟩⟩⟩⟩
def lw_privs : List (MethodName × Nat) := lw_privs_1 ++ (lw_privs_2 ++ (lw_privs_3 ++ (lw_privs_4 ++ (lw_privs_5 ++ (lw_privs_6)))))
def lw_tbl : List Cond := k2_sels lw_privs ++ tables_1
theorem lw_privs_ok : ∀ q ∈ lw_privs, lw_okq q := by
  show ∀ q ∈ lw_privs_1 ++ (lw_privs_2 ++ (lw_privs_3 ++ (lw_privs_4 ++ (lw_privs_5 ++ (lw_privs_6))))), lw_okq q
  exact List.forall_mem_append.mpr ⟨lw_r1, List.forall_mem_append.mpr ⟨lw_r2, List.forall_mem_append.mpr ⟨lw_r3, List.forall_mem_append.mpr ⟨lw_r4, List.forall_mem_append.mpr ⟨lw_r5, lw_r6⟩⟩⟩⟩⟩
def RX0 : String := "DebtCouncil$Dealer"
def TX0 : u_T := fun k => match k with
  | 0 => ("DebtCouncil$Dealer", "kind", "I", false)
  | 1 => ("DebtCouncil$Dealer", "number", "I", false)
  | 2 => ("DebtCouncil$Dealer", "house", "I", false)
  | 3 => ("DebtCouncil$Dealer", "sum", "I", false)
  | 4 => ("DebtCouncil$Dealer", "isParted", "Z", false)
  | 5 => ("DebtCouncil$Dealer", "bodies", "[I", true)
  | _ => ("DebtCouncil$Dealer", "traced", "I", false)
def tyX0 : Nat → FieldType := fun k => match k with
  | 0 => .int
  | 1 => .int
  | 2 => .int
  | 3 => .int
  | 4 => .boolean
  | 5 => .array .int
  | _ => .int
abbrev wsX00 : List Cond := u_ws RX0 TX0 7
theorem nmX0 : ∀ a, a < 7 → ∀ b, b < 7 → a ≠ b → (TX0 a).2.1 ≠ (TX0 b).2.1 := by decide +kernel
theorem tyX0_ok : ∀ k, k < 7 → parseFieldDescriptor (TX0 k).2.2.1 = some (tyX0 k) := by decide +kernel
abbrev cX0_init : ByteArray := prog_2_method_1_code
def yX0_init : MethodName := ⟨RX0, "<init>", "()V"⟩
abbrev cX0_isUnder : ByteArray := prog_2_method_2_code
def yX0_isUnder : MethodName := ⟨RX0, "isUnder", "(II)Z"⟩
abbrev cX0_turnTo : ByteArray := prog_2_method_3_code
def yX0_turnTo : MethodName := ⟨RX0, "turnTo", "(IIII)V"⟩
abbrev cX0_answer : ByteArray := prog_2_method_4_code
def yX0_answer : MethodName := ⟨RX0, "answer", "(II)I"⟩
abbrev cX0_run : ByteArray := prog_2_method_5_code
def yX0_run : MethodName := ⟨RX0, "run", "(IIII)I"⟩
abbrev cX0_parted : ByteArray := prog_2_method_6_code
def yX0_parted : MethodName := ⟨RX0, "parted", "(II)I"⟩
abbrev cX0_note : ByteArray := prog_2_method_7_code
def yX0_note : MethodName := ⟨RX0, "note", "(I)V"⟩
def RX1 : String := "DebtCouncil$Debt"
def TX1 : u_T := fun k => match k with
  | 0 => ("DebtCouncil$Debt", "house", "I", false)
  | 1 => ("DebtCouncil$Debt", "form", "I", false)
  | 2 => ("DebtCouncil$Debt", "sort", "I", false)
  | 3 => ("DebtCouncil$Debt", "sum", "I", false)
  | 4 => ("DebtCouncil$Debt", "every", "I", false)
  | 5 => ("DebtCouncil$Debt", "came", "I", false)
  | 6 => ("DebtCouncil$Debt", "owed", "I", false)
  | 7 => ("DebtCouncil$Debt", "got", "I", false)
  | 8 => ("DebtCouncil$Debt", "isVoid", "Z", false)
  | _ => ("DebtCouncil$Debt", "prices", "[I", true)
def tyX1 : Nat → FieldType := fun k => match k with
  | 0 => .int
  | 1 => .int
  | 2 => .int
  | 3 => .int
  | 4 => .int
  | 5 => .int
  | 6 => .int
  | 7 => .int
  | 8 => .boolean
  | _ => .array .int
abbrev wsX10 : List Cond := u_ws RX1 TX1 10
theorem nmX1 : ∀ a, a < 10 → ∀ b, b < 10 → a ≠ b → (TX1 a).2.1 ≠ (TX1 b).2.1 := by decide +kernel
theorem tyX1_ok : ∀ k, k < 10 → parseFieldDescriptor (TX1 k).2.2.1 = some (tyX1 k) := by decide +kernel
abbrev cX1_init : ByteArray := prog_3_method_1_code
def yX1_init : MethodName := ⟨RX1, "<init>", "()V"⟩
abbrev cX1_begin : ByteArray := prog_3_method_2_code
def yX1_begin : MethodName := ⟨RX1, "begin", "(IIIIII)V"⟩
abbrev cX1_copyFrom : ByteArray := prog_3_method_3_code
def yX1_copyFrom : MethodName := ⟨RX1, "copyFrom", "(LDebtCouncil$Debt;)V"⟩
abbrev cX1_fallsIn : ByteArray := prog_3_method_4_code
def yX1_fallsIn : MethodName := ⟨RX1, "fallsIn", "(I)Z"⟩
abbrev cX1_factOf : ByteArray := prog_3_method_5_code
def yX1_factOf : MethodName := ⟨RX1, "factOf", "(II)I"⟩
abbrev cX1_movePrice : ByteArray := prog_3_method_6_code
def yX1_movePrice : MethodName := ⟨RX1, "movePrice", "()V"⟩
abbrev cX1_kindNow : ByteArray := prog_3_method_7_code
def yX1_kindNow : MethodName := ⟨RX1, "kindNow", "()I"⟩
def RX2 : String := "DebtCouncil$Host"
def TX2 : u_T := fun k => match k with
  | 0 => ("DebtCouncil$Host", "sheetSorts", "[I", true)
  | 1 => ("DebtCouncil$Host", "sizes", "[I", true)
  | 2 => ("DebtCouncil$Host", "cells", "[[I", true)
  | 3 => ("DebtCouncil$Host", "holds", "[I", true)
  | 4 => ("DebtCouncil$Host", "numbers", "[I", true)
  | _ => ("DebtCouncil$Host", "rowSorts", "[I", true)
def tyX2 : Nat → FieldType := fun k => match k with
  | 0 => .array .int
  | 1 => .array .int
  | 2 => .array (.array .int)
  | 3 => .array .int
  | 4 => .array .int
  | _ => .array .int
abbrev wsX20 : List Cond := u_ws RX2 TX2 6
theorem nmX2 : ∀ a, a < 6 → ∀ b, b < 6 → a ≠ b → (TX2 a).2.1 ≠ (TX2 b).2.1 := by decide +kernel
theorem tyX2_ok : ∀ k, k < 6 → parseFieldDescriptor (TX2 k).2.2.1 = some (tyX2 k) := by decide +kernel
abbrev cX2_init : ByteArray := prog_4_method_1_code
def yX2_init : MethodName := ⟨RX2, "<init>", "()V"⟩
abbrev cX2_makeSheet : ByteArray := prog_4_method_2_code
def yX2_makeSheet : MethodName := ⟨RX2, "makeSheet", "(III)V"⟩
abbrev cX2_refusal : ByteArray := prog_4_method_3_code
def yX2_refusal : MethodName := ⟨RX2, "refusal", "(IIII)I"⟩
abbrev cX2_cellAt : ByteArray := prog_4_method_4_code
def yX2_cellAt : MethodName := ⟨RX2, "cellAt", "(II)I"⟩
abbrev cX2_narrowed : ByteArray := prog_4_method_5_code
def yX2_narrowed : MethodName := ⟨RX2, "narrowed", "(II)I"⟩
abbrev cX2_lay : ByteArray := prog_4_method_6_code
def yX2_lay : MethodName := ⟨RX2, "lay", "(III)I"⟩
abbrev cX2_laySheet : ByteArray := prog_4_method_7_code
def yX2_laySheet : MethodName := ⟨RX2, "laySheet", "(II)I"⟩
def RX3 : String := "DebtCouncil$Land"
def TX3 : u_T := fun k => match k with
  | 0 => ("DebtCouncil$Land", "now", "I", false)
  | 1 => ("DebtCouncil$Land", "treasury", "I", false)
  | 2 => ("DebtCouncil$Land", "rates", "[I", true)
  | 3 => ("DebtCouncil$Land", "harvests", "[I", true)
  | 4 => ("DebtCouncil$Land", "lags", "[I", true)
  | 5 => ("DebtCouncil$Land", "provinces", "[LDebtCouncil$Province;", true)
  | 6 => ("DebtCouncil$Land", "provinceCount", "I", false)
  | 7 => ("DebtCouncil$Land", "debts", "[LDebtCouncil$Debt;", true)
  | 8 => ("DebtCouncil$Land", "debtCount", "I", false)
  | 9 => ("DebtCouncil$Land", "noStatute", "LDebtCouncil$Statute;", true)
  | 10 => ("DebtCouncil$Land", "statutes", "[LDebtCouncil$Statute;", true)
  | 11 => ("DebtCouncil$Land", "statuteCount", "I", false)
  | 12 => ("DebtCouncil$Land", "railways", "LDebtCouncil$Ledger;", true)
  | 13 => ("DebtCouncil$Land", "papers", "LDebtCouncil$Ledger;", true)
  | 14 => ("DebtCouncil$Land", "takings", "LDebtCouncil$Ledger;", true)
  | _ => ("DebtCouncil$Land", "choices", "LDebtCouncil$Ledger;", true)
def tyX3 : Nat → FieldType := fun k => match k with
  | 0 => .int
  | 1 => .int
  | 2 => .array .int
  | 3 => .array .int
  | 4 => .array .int
  | 5 => .array (.object "DebtCouncil$Province")
  | 6 => .int
  | 7 => .array (.object "DebtCouncil$Debt")
  | 8 => .int
  | 9 => .object "DebtCouncil$Statute"
  | 10 => .array (.object "DebtCouncil$Statute")
  | 11 => .int
  | 12 => .object "DebtCouncil$Ledger"
  | 13 => .object "DebtCouncil$Ledger"
  | 14 => .object "DebtCouncil$Ledger"
  | _ => .object "DebtCouncil$Ledger"
abbrev wsX30 : List Cond := u_ws RX3 TX3 16
theorem nmX3 : ∀ a, a < 16 → ∀ b, b < 16 → a ≠ b → (TX3 a).2.1 ≠ (TX3 b).2.1 := by decide +kernel
theorem tyX3_ok : ∀ k, k < 16 → parseFieldDescriptor (TX3 k).2.2.1 = some (tyX3 k) := by decide +kernel
abbrev cX3_init : ByteArray := prog_5_method_1_code
def yX3_init : MethodName := ⟨RX3, "<init>", "()V"⟩
abbrev cX3_copyFrom : ByteArray := prog_5_method_2_code
def yX3_copyFrom : MethodName := ⟨RX3, "copyFrom", "(LDebtCouncil$Land;)V"⟩
abbrev cX3_hasProvince : ByteArray := prog_5_method_3_code
def yX3_hasProvince : MethodName := ⟨RX3, "hasProvince", "(I)Z"⟩
abbrev cX3_hasDebt : ByteArray := prog_5_method_4_code
def yX3_hasDebt : MethodName := ⟨RX3, "hasDebt", "(I)Z"⟩
abbrev cX3_addDebt : ByteArray := prog_5_method_5_code
def yX3_addDebt : MethodName := ⟨RX3, "addDebt", "(IIIII)I"⟩
abbrev cX3_statuteIn : ByteArray := prog_5_method_6_code
def yX3_statuteIn : MethodName := ⟨RX3, "statuteIn", "(I)LDebtCouncil$Statute;"⟩
abbrev cX3_dueOf : ByteArray := prog_5_method_7_code
def yX3_dueOf : MethodName := ⟨RX3, "dueOf", "(LDebtCouncil$Province;III)I"⟩
abbrev cX3_roundOf : ByteArray := prog_5_method_8_code
def yX3_roundOf : MethodName := ⟨RX3, "roundOf", "(III)I"⟩
abbrev cX3_gatheredOf : ByteArray := prog_5_method_9_code
def yX3_gatheredOf : MethodName := ⟨RX3, "gatheredOf", "(III)I"⟩
abbrev cX3_roundIn : ByteArray := prog_5_method_10_code
def yX3_roundIn : MethodName := ⟨RX3, "roundIn", "(III)I"⟩
abbrev cX3_addToTreasury : ByteArray := prog_5_method_11_code
def yX3_addToTreasury : MethodName := ⟨RX3, "addToTreasury", "(I)V"⟩
abbrev cX3_payGarrisons : ByteArray := prog_5_method_12_code
def yX3_payGarrisons : MethodName := ⟨RX3, "payGarrisons", "()V"⟩
abbrev cX3_movePrices : ByteArray := prog_5_method_13_code
def yX3_movePrices : MethodName := ⟨RX3, "movePrices", "()V"⟩
abbrev cX3_knownPrice : ByteArray := prog_5_method_14_code
def yX3_knownPrice : MethodName := ⟨RX3, "knownPrice", "(ILDebtCouncil$Debt;)I"⟩
abbrev cX3_worthOf : ByteArray := prog_5_method_15_code
def yX3_worthOf : MethodName := ⟨RX3, "worthOf", "(LDebtCouncil$Debt;)I"⟩
abbrev cX3_yearOfTenMiles : ByteArray := prog_5_method_16_code
def yX3_yearOfTenMiles : MethodName := ⟨RX3, "yearOfTenMiles", "(I)I"⟩
abbrev cX3_takenUpTo : ByteArray := prog_5_method_17_code
def yX3_takenUpTo : MethodName := ⟨RX3, "takenUpTo", "(I)I"⟩
abbrev cX3_mayTake : ByteArray := prog_5_method_18_code
def yX3_mayTake : MethodName := ⟨RX3, "mayTake", "(I)I"⟩
abbrev cX3_mutinies : ByteArray := prog_5_method_19_code
def yX3_mutinies : MethodName := ⟨RX3, "mutinies", "()I"⟩
abbrev cX3_voidDebts : ByteArray := prog_5_method_20_code
def yX3_voidDebts : MethodName := ⟨RX3, "voidDebts", "()I"⟩
abbrev cX3_owedInAll : ByteArray := prog_5_method_21_code
def yX3_owedInAll : MethodName := ⟨RX3, "owedInAll", "()I"⟩
def RX4 : String := "DebtCouncil$Ledger"
def TX4 : u_T := fun k => match k with
  | 0 => ("DebtCouncil$Ledger", "most", "I", true)
  | 1 => ("DebtCouncil$Ledger", "width", "I", true)
  | 2 => ("DebtCouncil$Ledger", "cells", "[I", true)
  | _ => ("DebtCouncil$Ledger", "count", "I", false)
def tyX4 : Nat → FieldType := fun k => match k with
  | 0 => .int
  | 1 => .int
  | 2 => .array .int
  | _ => .int
abbrev wsX40 : List Cond := u_ws RX4 TX4 4
theorem nmX4 : ∀ a, a < 4 → ∀ b, b < 4 → a ≠ b → (TX4 a).2.1 ≠ (TX4 b).2.1 := by decide +kernel
theorem tyX4_ok : ∀ k, k < 4 → parseFieldDescriptor (TX4 k).2.2.1 = some (tyX4 k) := by decide +kernel
abbrev cX4_init : ByteArray := prog_6_method_1_code
def yX4_init : MethodName := ⟨RX4, "<init>", "(II)V"⟩
abbrev cX4_isFull : ByteArray := prog_6_method_2_code
def yX4_isFull : MethodName := ⟨RX4, "isFull", "()Z"⟩
abbrev cX4_has : ByteArray := prog_6_method_3_code
def yX4_has : MethodName := ⟨RX4, "has", "(I)Z"⟩
abbrev cX4_begin : ByteArray := prog_6_method_4_code
def yX4_begin : MethodName := ⟨RX4, "begin", "()I"⟩
abbrev cX4_at : ByteArray := prog_6_method_5_code
def yX4_at : MethodName := ⟨RX4, "at", "(II)I"⟩
abbrev cX4_set : ByteArray := prog_6_method_6_code
def yX4_set : MethodName := ⟨RX4, "set", "(III)V"⟩
abbrev cX4_sumOf : ByteArray := prog_6_method_7_code
def yX4_sumOf : MethodName := ⟨RX4, "sumOf", "(I)I"⟩
abbrev cX4_copyFrom : ByteArray := prog_6_method_8_code
def yX4_copyFrom : MethodName := ⟨RX4, "copyFrom", "(LDebtCouncil$Ledger;)V"⟩
def RX5 : String := "DebtCouncil$Line"
def TX5 : u_T := fun k => match k with
  | 0 => ("DebtCouncil$Line", "sort", "I", true)
  | 1 => ("DebtCouncil$Line", "number", "I", true)
  | 2 => ("DebtCouncil$Line", "takeSort", "I", true)
  | _ => ("DebtCouncil$Line", "cond", "[I", true)
def tyX5 : Nat → FieldType := fun k => match k with
  | 0 => .int
  | 1 => .int
  | 2 => .int
  | _ => .array .int
abbrev wsX50 : List Cond := u_ws RX5 TX5 4
theorem nmX5 : ∀ a, a < 4 → ∀ b, b < 4 → a ≠ b → (TX5 a).2.1 ≠ (TX5 b).2.1 := by decide +kernel
theorem tyX5_ok : ∀ k, k < 4 → parseFieldDescriptor (TX5 k).2.2.1 = some (tyX5 k) := by decide +kernel
abbrev cX5_init : ByteArray := prog_7_method_1_code
def yX5_init : MethodName := ⟨RX5, "<init>", "(III[I)V"⟩
abbrev cX5_step : ByteArray := prog_7_method_2_code
def yX5_step : MethodName := ⟨RX5, "step", "(IIII)I"⟩
abbrev cX5_holds : ByteArray := prog_7_method_3_code
def yX5_holds : MethodName := ⟨RX5, "holds", "(LDebtCouncil$Debt;I)Z"⟩
abbrev cX5_compares : ByteArray := prog_7_method_4_code
def yX5_compares : MethodName := ⟨RX5, "compares", "(II)Z"⟩
def RX6 : String := "DebtCouncil$Matching"
def TX6 : u_T := fun k => match k with
  | 0 => ("DebtCouncil$Matching", "partner", "[I", true)
  | 1 => ("DebtCouncil$Matching", "seen", "[Z", true)
  | 2 => ("DebtCouncil$Matching", "pairs", "I", false)
  | _ => ("DebtCouncil$Matching", "pairedSum", "I", false)
def tyX6 : Nat → FieldType := fun k => match k with
  | 0 => .array .int
  | 1 => .array .boolean
  | 2 => .int
  | _ => .int
abbrev wsX60 : List Cond := u_ws RX6 TX6 4
theorem nmX6 : ∀ a, a < 4 → ∀ b, b < 4 → a ≠ b → (TX6 a).2.1 ≠ (TX6 b).2.1 := by decide +kernel
theorem tyX6_ok : ∀ k, k < 4 → parseFieldDescriptor (TX6 k).2.2.1 = some (tyX6 k) := by decide +kernel
abbrev cX6_init : ByteArray := prog_8_method_1_code
def yX6_init : MethodName := ⟨RX6, "<init>", "()V"⟩
abbrev cX6_mayBeOne : ByteArray := prog_8_method_2_code
def yX6_mayBeOne : MethodName := ⟨RX6, "mayBeOne", "(LDebtCouncil$Ledger;II)Z"⟩
abbrev cX6_othersOf : ByteArray := prog_8_method_3_code
def yX6_othersOf : MethodName := ⟨RX6, "othersOf", "(LDebtCouncil$Ledger;I)I"⟩
abbrev cX6_matchAll : ByteArray := prog_8_method_4_code
def yX6_matchAll : MethodName := ⟨RX6, "matchAll", "(LDebtCouncil$Ledger;)V"⟩
abbrev cX6_forgetSeen : ByteArray := prog_8_method_5_code
def yX6_forgetSeen : MethodName := ⟨RX6, "forgetSeen", "()V"⟩
abbrev cX6_findsPartner : ByteArray := prog_8_method_6_code
def yX6_findsPartner : MethodName := ⟨RX6, "findsPartner", "(LDebtCouncil$Ledger;II)Z"⟩
def RX7 : String := "DebtCouncil$Province"
def TX7 : u_T := fun k => match k with
  | 0 => ("DebtCouncil$Province", "pay", "I", false)
  | 1 => ("DebtCouncil$Province", "patience", "I", false)
  | 2 => ("DebtCouncil$Province", "late", "I", false)
  | 3 => ("DebtCouncil$Province", "guarded", "I", false)
  | _ => ("DebtCouncil$Province", "revenue", "[I", true)
def tyX7 : Nat → FieldType := fun k => match k with
  | 0 => .int
  | 1 => .int
  | 2 => .int
  | 3 => .int
  | _ => .array .int
abbrev wsX70 : List Cond := u_ws RX7 TX7 5
theorem nmX7 : ∀ a, a < 5 → ∀ b, b < 5 → a ≠ b → (TX7 a).2.1 ≠ (TX7 b).2.1 := by decide +kernel
theorem tyX7_ok : ∀ k, k < 5 → parseFieldDescriptor (TX7 k).2.2.1 = some (tyX7 k) := by decide +kernel
abbrev cX7_init : ByteArray := prog_9_method_1_code
def yX7_init : MethodName := ⟨RX7, "<init>", "()V"⟩
abbrev cX7_begin : ByteArray := prog_9_method_2_code
def yX7_begin : MethodName := ⟨RX7, "begin", "(II)V"⟩
abbrev cX7_inMutiny : ByteArray := prog_9_method_3_code
def yX7_inMutiny : MethodName := ⟨RX7, "inMutiny", "()Z"⟩
abbrev cX7_copyFrom : ByteArray := prog_9_method_4_code
def yX7_copyFrom : MethodName := ⟨RX7, "copyFrom", "(LDebtCouncil$Province;)V"⟩
def RX8 : String := "DebtCouncil$Sharing"
def TX8 : u_T := fun k => match k with
  | 0 => ("DebtCouncil$Sharing", "shares", "[Z", true)
  | 1 => ("DebtCouncil$Sharing", "ranks", "[I", true)
  | 2 => ("DebtCouncil$Sharing", "wants", "[I", true)
  | 3 => ("DebtCouncil$Sharing", "gains", "[I", true)
  | 4 => ("DebtCouncil$Sharing", "spare", "I", false)
  | _ => ("DebtCouncil$Sharing", "left", "I", false)
def tyX8 : Nat → FieldType := fun k => match k with
  | 0 => .array .boolean
  | 1 => .array .int
  | 2 => .array .int
  | 3 => .array .int
  | 4 => .int
  | _ => .int
abbrev wsX80 : List Cond := u_ws RX8 TX8 6
theorem nmX8 : ∀ a, a < 6 → ∀ b, b < 6 → a ≠ b → (TX8 a).2.1 ≠ (TX8 b).2.1 := by decide +kernel
theorem tyX8_ok : ∀ k, k < 6 → parseFieldDescriptor (TX8 k).2.2.1 = some (tyX8 k) := by decide +kernel
abbrev cX8_init : ByteArray := prog_10_method_1_code
def yX8_init : MethodName := ⟨RX8, "<init>", "()V"⟩
abbrev cX8_tellWants : ByteArray := prog_10_method_2_code
def yX8_tellWants : MethodName := ⟨RX8, "tellWants", "(LDebtCouncil$Land;II)V"⟩
abbrev cX8_share : ByteArray := prog_10_method_3_code
def yX8_share : MethodName := ⟨RX8, "share", "(I)V"⟩
abbrev cX8_shareIn : ByteArray := prog_10_method_4_code
def yX8_shareIn : MethodName := ⟨RX8, "shareIn", "(II)I"⟩
abbrev cX8_settle : ByteArray := prog_10_method_5_code
def yX8_settle : MethodName := ⟨RX8, "settle", "(LDebtCouncil$Land;)V"⟩
def RX9 : String := "DebtCouncil$Statute"
def TX9 : u_T := fun k => match k with
  | 0 => ("DebtCouncil$Statute", "month", "I", true)
  | _ => ("DebtCouncil$Statute", "lines", "[LDebtCouncil$Line;", true)
def tyX9 : Nat → FieldType := fun k => match k with
  | 0 => .int
  | _ => .array (.object "DebtCouncil$Line")
abbrev wsX90 : List Cond := u_ws RX9 TX9 2
theorem nmX9 : ∀ a, a < 2 → ∀ b, b < 2 → a ≠ b → (TX9 a).2.1 ≠ (TX9 b).2.1 := by decide +kernel
theorem tyX9_ok : ∀ k, k < 2 → parseFieldDescriptor (TX9 k).2.2.1 = some (tyX9 k) := by decide +kernel
abbrev cX9_init : ByteArray := prog_11_method_1_code
def yX9_init : MethodName := ⟨RX9, "<init>", "(I[LDebtCouncil$Line;)V"⟩
abbrev cX9_firstOf : ByteArray := prog_11_method_2_code
def yX9_firstOf : MethodName := ⟨RX9, "firstOf", "(ILDebtCouncil$Debt;I)I"⟩
abbrev cX9_rankOf : ByteArray := prog_11_method_3_code
def yX9_rankOf : MethodName := ⟨RX9, "rankOf", "(LDebtCouncil$Debt;I)I"⟩
abbrev cX9_cutOf : ByteArray := prog_11_method_4_code
def yX9_cutOf : MethodName := ⟨RX9, "cutOf", "(LDebtCouncil$Debt;I)I"⟩
abbrev cX9_bars : ByteArray := prog_11_method_5_code
def yX9_bars : MethodName := ⟨RX9, "bars", "(LDebtCouncil$Debt;I)Z"⟩
abbrev cX9_fallsOf : ByteArray := prog_11_method_6_code
def yX9_fallsOf : MethodName := ⟨RX9, "fallsOf", "(LDebtCouncil$Debt;I)I"⟩
abbrev cX9_cutSum : ByteArray := prog_11_method_7_code
def yX9_cutSum : MethodName := ⟨RX9, "cutSum", "(LDebtCouncil$Debt;I)I"⟩
abbrev cX9_latestNumber : ByteArray := prog_11_method_8_code
def yX9_latestNumber : MethodName := ⟨RX9, "latestNumber", "(II)I"⟩
def RX10 : String := "DebtCouncil$TextReader"
def TX10 : u_T := fun k => match k with
  | 0 => ("DebtCouncil$TextReader", "tape", "[B", true)
  | 1 => ("DebtCouncil$TextReader", "length", "I", false)
  | 2 => ("DebtCouncil$TextReader", "start", "I", false)
  | 3 => ("DebtCouncil$TextReader", "end", "I", false)
  | 4 => ("DebtCouncil$TextReader", "token", "I", false)
  | 5 => ("DebtCouncil$TextReader", "value", "I", false)
  | 6 => ("DebtCouncil$TextReader", "steps", "[I", true)
  | 7 => ("DebtCouncil$TextReader", "stepCount", "I", false)
  | 8 => ("DebtCouncil$TextReader", "lines", "[LDebtCouncil$Line;", true)
  | _ => ("DebtCouncil$TextReader", "lineCount", "I", false)
def tyX10 : Nat → FieldType := fun k => match k with
  | 0 => .array .byte
  | 1 => .int
  | 2 => .int
  | 3 => .int
  | 4 => .int
  | 5 => .int
  | 6 => .array .int
  | 7 => .int
  | 8 => .array (.object "DebtCouncil$Line")
  | _ => .int
abbrev wsX100 : List Cond := u_ws RX10 TX10 10
theorem nmX10 : ∀ a, a < 10 → ∀ b, b < 10 → a ≠ b → (TX10 a).2.1 ≠ (TX10 b).2.1 := by decide +kernel
theorem tyX10_ok : ∀ k, k < 10 → parseFieldDescriptor (TX10 k).2.2.1 = some (tyX10 k) := by decide +kernel
abbrev cX10_init : ByteArray := prog_12_method_1_code
def yX10_init : MethodName := ⟨RX10, "<init>", "()V"⟩
abbrev cX10_append : ByteArray := prog_12_method_2_code
def yX10_append : MethodName := ⟨RX10, "append", "(B)V"⟩
abbrev cX10_readText : ByteArray := prog_12_method_3_code
def yX10_readText : MethodName := ⟨RX10, "readText", "()Z"⟩
abbrev cX10_takeLines : ByteArray := prog_12_method_4_code
def yX10_takeLines : MethodName := ⟨RX10, "takeLines", "()[LDebtCouncil$Line;"⟩
abbrev cX10_advance : ByteArray := prog_12_method_5_code
def yX10_advance : MethodName := ⟨RX10, "advance", "()V"⟩
abbrev cX10_isLetter : ByteArray := prog_12_method_6_code
def yX10_isLetter : MethodName := ⟨RX10, "isLetter", "(B)Z"⟩
abbrev cX10_isDigit : ByteArray := prog_12_method_7_code
def yX10_isDigit : MethodName := ⟨RX10, "isDigit", "(B)Z"⟩
abbrev cX10_isName : ByteArray := prog_12_method_8_code
def yX10_isName : MethodName := ⟨RX10, "isName", "(Ljava/lang/String;)Z"⟩
abbrev cX10_isOther : ByteArray := prog_12_method_9_code
def yX10_isOther : MethodName := ⟨RX10, "isOther", "(C)Z"⟩
abbrev cX10_isNumberUpTo : ByteArray := prog_12_method_10_code
def yX10_isNumberUpTo : MethodName := ⟨RX10, "isNumberUpTo", "(I)Z"⟩
abbrev cX10_readLine : ByteArray := prog_12_method_11_code
def yX10_readLine : MethodName := ⟨RX10, "readLine", "()Z"⟩
abbrev cX10_mayHaveCond : ByteArray := prog_12_method_12_code
def yX10_mayHaveCond : MethodName := ⟨RX10, "mayHaveCond", "(I)Z"⟩
abbrev cX10_lineSort : ByteArray := prog_12_method_13_code
def yX10_lineSort : MethodName := ⟨RX10, "lineSort", "()I"⟩
abbrev cX10_mostOf : ByteArray := prog_12_method_14_code
def yX10_mostOf : MethodName := ⟨RX10, "mostOf", "(I)I"⟩
abbrev cX10_readTakeSort : ByteArray := prog_12_method_15_code
def yX10_readTakeSort : MethodName := ⟨RX10, "readTakeSort", "()I"⟩
abbrev cX10_revenueSort : ByteArray := prog_12_method_16_code
def yX10_revenueSort : MethodName := ⟨RX10, "revenueSort", "()I"⟩
abbrev cX10_factNamed : ByteArray := prog_12_method_17_code
def yX10_factNamed : MethodName := ⟨RX10, "factNamed", "()I"⟩
abbrev cX10_addStep : ByteArray := prog_12_method_18_code
def yX10_addStep : MethodName := ⟨RX10, "addStep", "(I)V"⟩
abbrev cX10_readCond : ByteArray := prog_12_method_19_code
def yX10_readCond : MethodName := ⟨RX10, "readCond", "(I)Z"⟩
abbrev cX10_readAll : ByteArray := prog_12_method_20_code
def yX10_readAll : MethodName := ⟨RX10, "readAll", "(I)Z"⟩
abbrev cX10_readOne : ByteArray := prog_12_method_21_code
def yX10_readOne : MethodName := ⟨RX10, "readOne", "(I)Z"⟩
abbrev cX10_readInner : ByteArray := prog_12_method_22_code
def yX10_readInner : MethodName := ⟨RX10, "readInner", "(I)Z"⟩
abbrev cX10_readPlain : ByteArray := prog_12_method_23_code
def yX10_readPlain : MethodName := ⟨RX10, "readPlain", "()Z"⟩
def RX11 : String := "DebtCouncil"
def TX11 : u_T := fun k => match k with
  | 0 => ("DebtCouncil", "land", "LDebtCouncil$Land;", true)
  | 1 => ("DebtCouncil", "kept", "LDebtCouncil$Land;", true)
  | 2 => ("DebtCouncil", "isKept", "Z", false)
  | 3 => ("DebtCouncil", "reader", "LDebtCouncil$TextReader;", true)
  | 4 => ("DebtCouncil", "sharing", "LDebtCouncil$Sharing;", true)
  | 5 => ("DebtCouncil", "matching", "LDebtCouncil$Matching;", true)
  | 6 => ("DebtCouncil", "rows", "LDebtCouncil$Ledger;", true)
  | 7 => ("DebtCouncil", "host", "LDebtCouncil$Host;", true)
  | 8 => ("DebtCouncil", "dealer", "LDebtCouncil$Dealer;", true)
  | 9 => ("DebtCouncil", "leastFrom", "[I", true)
  | _ => ("DebtCouncil", "brought", "[I", true)
def tyX11 : Nat → FieldType := fun k => match k with
  | 0 => .object "DebtCouncil$Land"
  | 1 => .object "DebtCouncil$Land"
  | 2 => .boolean
  | 3 => .object "DebtCouncil$TextReader"
  | 4 => .object "DebtCouncil$Sharing"
  | 5 => .object "DebtCouncil$Matching"
  | 6 => .object "DebtCouncil$Ledger"
  | 7 => .object "DebtCouncil$Host"
  | 8 => .object "DebtCouncil$Dealer"
  | 9 => .array .int
  | _ => .array .int
abbrev wsX110 : List Cond := u_ws RX11 TX11 11
theorem nmX11 : ∀ a, a < 11 → ∀ b, b < 11 → a ≠ b → (TX11 a).2.1 ≠ (TX11 b).2.1 := by decide +kernel
theorem tyX11_ok : ∀ k, k < 11 → parseFieldDescriptor (TX11 k).2.2.1 = some (tyX11 k) := by decide +kernel
abbrev cX11_init : ByteArray := prog_1_method_1_code
def yX11_init : MethodName := ⟨RX11, "<init>", "()V"⟩
abbrev cX11_within : ByteArray := prog_1_method_2_code
def yX11_within : MethodName := ⟨RX11, "within", "(III)Z"⟩
abbrev cX11_isMonth : ByteArray := prog_1_method_3_code
def yX11_isMonth : MethodName := ⟨RX11, "isMonth", "(I)Z"⟩
abbrev cX11_isSort : ByteArray := prog_1_method_4_code
def yX11_isSort : MethodName := ⟨RX11, "isSort", "(I)Z"⟩
abbrev cX11_isHouse : ByteArray := prog_1_method_5_code
def yX11_isHouse : MethodName := ⟨RX11, "isHouse", "(I)Z"⟩
abbrev cX11_isSum : ByteArray := prog_1_method_6_code
def yX11_isSum : MethodName := ⟨RX11, "isSum", "(I)Z"⟩
abbrev cX11_isEvery : ByteArray := prog_1_method_7_code
def yX11_isEvery : MethodName := ⟨RX11, "isEvery", "(I)Z"⟩
abbrev cX11_isSheet : ByteArray := prog_1_method_8_code
def yX11_isSheet : MethodName := ⟨RX11, "isSheet", "(I)Z"⟩
abbrev cX11_isShelf : ByteArray := prog_1_method_9_code
def yX11_isShelf : MethodName := ⟨RX11, "isShelf", "(I)Z"⟩
abbrev cX11_months : ByteArray := prog_1_method_10_code
def yX11_months : MethodName := ⟨RX11, "months", "(I)I"⟩
abbrev cX11_goOn : ByteArray := prog_1_method_11_code
def yX11_goOn : MethodName := ⟨RX11, "goOn", "()V"⟩
abbrev cX11_province : ByteArray := prog_1_method_12_code
def yX11_province : MethodName := ⟨RX11, "province", "(II)I"⟩
abbrev cX11_yield1 : ByteArray := prog_1_method_13_code
def yX11_yield1 : MethodName := ⟨RX11, "yield1", "(III)I"⟩
abbrev cX11_yields : ByteArray := prog_1_method_14_code
def yX11_yields : MethodName := ⟨RX11, "yields", "(III)I"⟩
abbrev cX11_guards : ByteArray := prog_1_method_15_code
def yX11_guards : MethodName := ⟨RX11, "guards", "(II)I"⟩
abbrev cX11_rate : ByteArray := prog_1_method_16_code
def yX11_rate : MethodName := ⟨RX11, "rate", "(II)I"⟩
abbrev cX11_harvest : ByteArray := prog_1_method_17_code
def yX11_harvest : MethodName := ⟨RX11, "harvest", "(II)I"⟩
abbrev cX11_gather : ByteArray := prog_1_method_18_code
def yX11_gather : MethodName := ⟨RX11, "gather", "(IIII)I"⟩
abbrev cX11_bestRate : ByteArray := prog_1_method_19_code
def yX11_bestRate : MethodName := ⟨RX11, "bestRate", "(III)I"⟩
abbrev cX11_least : ByteArray := prog_1_method_20_code
def yX11_least : MethodName := ⟨RX11, "least", "(III)I"⟩
abbrev cX11_tellLeastFrom : ByteArray := prog_1_method_21_code
def yX11_tellLeastFrom : MethodName := ⟨RX11, "tellLeastFrom", "(II)V"⟩
abbrev cX11_laidTo : ByteArray := prog_1_method_22_code
def yX11_laidTo : MethodName := ⟨RX11, "laidTo", "(III)I"⟩
abbrev cX11_mostHere : ByteArray := prog_1_method_23_code
def yX11_mostHere : MethodName := ⟨RX11, "mostHere", "(III)I"⟩
abbrev cX11_provinceOf : ByteArray := prog_1_method_24_code
def yX11_provinceOf : MethodName := ⟨RX11, "provinceOf", "(II)I"⟩
abbrev cX11_debt : ByteArray := prog_1_method_25_code
def yX11_debt : MethodName := ⟨RX11, "debt", "(III)I"⟩
abbrev cX11_debtOf : ByteArray := prog_1_method_26_code
def yX11_debtOf : MethodName := ⟨RX11, "debtOf", "(III)I"⟩
abbrev cX11_voids : ByteArray := prog_1_method_27_code
def yX11_voids : MethodName := ⟨RX11, "voids", "(I)I"⟩
abbrev cX11_feed : ByteArray := prog_1_method_28_code
def yX11_feed : MethodName := ⟨RX11, "feed", "(JI)I"⟩
abbrev cX11_read : ByteArray := prog_1_method_29_code
def yX11_read : MethodName := ⟨RX11, "read", "()I"⟩
abbrev cX11_line : ByteArray := prog_1_method_30_code
def yX11_line : MethodName := ⟨RX11, "line", "(III)I"⟩
abbrev cX11_why : ByteArray := prog_1_method_31_code
def yX11_why : MethodName := ⟨RX11, "why", "(III)I"⟩
abbrev cX11_gets : ByteArray := prog_1_method_32_code
def yX11_gets : MethodName := ⟨RX11, "gets", "(III)I"⟩
abbrev cX11_lag : ByteArray := prog_1_method_33_code
def yX11_lag : MethodName := ⟨RX11, "lag", "(II)I"⟩
abbrev cX11_knows : ByteArray := prog_1_method_34_code
def yX11_knows : MethodName := ⟨RX11, "knows", "(II)I"⟩
abbrev cX11_swap : ByteArray := prog_1_method_35_code
def yX11_swap : MethodName := ⟨RX11, "swap", "(III)I"⟩
abbrev cX11_offer : ByteArray := prog_1_method_36_code
def yX11_offer : MethodName := ⟨RX11, "offer", "(II)I"⟩
abbrev cX11_railway : ByteArray := prog_1_method_37_code
def yX11_railway : MethodName := ⟨RX11, "railway", "(III)I"⟩
abbrev cX11_railwayOf : ByteArray := prog_1_method_38_code
def yX11_railwayOf : MethodName := ⟨RX11, "railwayOf", "(II)I"⟩
abbrev cX11_bearsFrom : ByteArray := prog_1_method_39_code
def yX11_bearsFrom : MethodName := ⟨RX11, "bearsFrom", "(II)I"⟩
abbrev cX11_paper : ByteArray := prog_1_method_40_code
def yX11_paper : MethodName := ⟨RX11, "paper", "(IIII)I"⟩
abbrev cX11_bills : ByteArray := prog_1_method_41_code
def yX11_bills : MethodName := ⟨RX11, "bills", "(I)I"⟩
abbrev cX11_singlePapers : ByteArray := prog_1_method_42_code
def yX11_singlePapers : MethodName := ⟨RX11, "singlePapers", "()I"⟩
abbrev cX11_taking : ByteArray := prog_1_method_43_code
def yX11_taking : MethodName := ⟨RX11, "taking", "(II)I"⟩
abbrev cX11_takings : ByteArray := prog_1_method_44_code
def yX11_takings : MethodName := ⟨RX11, "takings", "(I)I"⟩
abbrev cX11_choice : ByteArray := prog_1_method_45_code
def yX11_choice : MethodName := ⟨RX11, "choice", "(IIII)I"⟩
abbrev cX11_choose : ByteArray := prog_1_method_46_code
def yX11_choose : MethodName := ⟨RX11, "choose", "(I)I"⟩
abbrev cX11_leastYearOf : ByteArray := prog_1_method_47_code
def yX11_leastYearOf : MethodName := ⟨RX11, "leastYearOf", "(I)I"⟩
abbrev cX11_leastYearWith : ByteArray := prog_1_method_48_code
def yX11_leastYearWith : MethodName := ⟨RX11, "leastYearWith", "(I)I"⟩
abbrev cX11_sinksOf : ByteArray := prog_1_method_49_code
def yX11_sinksOf : MethodName := ⟨RX11, "sinksOf", "(I)I"⟩
abbrev cX11_tellRows : ByteArray := prog_1_method_50_code
def yX11_tellRows : MethodName := ⟨RX11, "tellRows", "(I)V"⟩
abbrev cX11_row : ByteArray := prog_1_method_51_code
def yX11_row : MethodName := ⟨RX11, "row", "(II)I"⟩
abbrev cX11_alterRow : ByteArray := prog_1_method_52_code
def yX11_alterRow : MethodName := ⟨RX11, "alterRow", "(III)I"⟩
abbrev cX11_dropRow : ByteArray := prog_1_method_53_code
def yX11_dropRow : MethodName := ⟨RX11, "dropRow", "()I"⟩
abbrev cX11_judge : ByteArray := prog_1_method_54_code
def yX11_judge : MethodName := ⟨RX11, "judge", "(I)I"⟩
abbrev cX11_sheet : ByteArray := prog_1_method_55_code
def yX11_sheet : MethodName := ⟨RX11, "sheet", "(III)I"⟩
abbrev cX11_put : ByteArray := prog_1_method_56_code
def yX11_put : MethodName := ⟨RX11, "put", "(III)I"⟩
abbrev cX11_item : ByteArray := prog_1_method_57_code
def yX11_item : MethodName := ⟨RX11, "item", "(III)I"⟩
abbrev cX11_shelf : ByteArray := prog_1_method_58_code
def yX11_shelf : MethodName := ⟨RX11, "shelf", "(III)I"⟩
abbrev cX11_taken : ByteArray := prog_1_method_59_code
def yX11_taken : MethodName := ⟨RX11, "taken", "(II)I"⟩
abbrev cX11_kindOn : ByteArray := prog_1_method_60_code
def yX11_kindOn : MethodName := ⟨RX11, "kindOn", "(I)I"⟩
abbrev cX11_deal : ByteArray := prog_1_method_61_code
def yX11_deal : MethodName := ⟨RX11, "deal", "(III)I"⟩
abbrev cX11_trace : ByteArray := prog_1_method_62_code
def yX11_trace : MethodName := ⟨RX11, "trace", "(I)I"⟩
abbrev cX11_many : ByteArray := prog_1_method_63_code
def yX11_many : MethodName := ⟨RX11, "many", "(I)I"⟩
abbrev cX11_keep : ByteArray := prog_1_method_64_code
def yX11_keep : MethodName := ⟨RX11, "keep", "()I"⟩
abbrev cX11_again : ByteArray := prog_1_method_65_code
def yX11_again : MethodName := ⟨RX11, "again", "()I"⟩
def RX12 : String := "DebtCouncilModel"
def TX12 : u_T := fun k => match k with
  | 0 => ("DebtCouncilModel", "n", "[I", true)
  | 1 => ("DebtCouncilModel", "rate", "[I", true)
  | 2 => ("DebtCouncilModel", "harvest", "[I", true)
  | 3 => ("DebtCouncilModel", "lag", "[I", true)
  | 4 => ("DebtCouncilModel", "yields", "[I", true)
  | 5 => ("DebtCouncilModel", "guards", "[I", true)
  | 6 => ("DebtCouncilModel", "pay", "[I", true)
  | 7 => ("DebtCouncilModel", "patience", "[I", true)
  | 8 => ("DebtCouncilModel", "late", "[I", true)
  | 9 => ("DebtCouncilModel", "form", "[I", true)
  | 10 => ("DebtCouncilModel", "house", "[I", true)
  | 11 => ("DebtCouncilModel", "sort", "[I", true)
  | 12 => ("DebtCouncilModel", "sum", "[I", true)
  | 13 => ("DebtCouncilModel", "every", "[I", true)
  | 14 => ("DebtCouncilModel", "came", "[I", true)
  | 15 => ("DebtCouncilModel", "owed", "[I", true)
  | 16 => ("DebtCouncilModel", "gone", "[I", true)
  | 17 => ("DebtCouncilModel", "got", "[I", true)
  | 18 => ("DebtCouncilModel", "price", "[I", true)
  | 19 => ("DebtCouncilModel", "readIn", "[I", true)
  | 20 => ("DebtCouncilModel", "lines", "[I", true)
  | 21 => ("DebtCouncilModel", "lineSort", "[I", true)
  | 22 => ("DebtCouncilModel", "lineNumber", "[I", true)
  | 23 => ("DebtCouncilModel", "lineOf", "[I", true)
  | 24 => ("DebtCouncilModel", "codeFrom", "[I", true)
  | 25 => ("DebtCouncilModel", "codeTo", "[I", true)
  | 26 => ("DebtCouncilModel", "code", "[I", true)
  | 27 => ("DebtCouncilModel", "through", "[I", true)
  | 28 => ("DebtCouncilModel", "miles", "[I", true)
  | 29 => ("DebtCouncilModel", "guarantee", "[I", true)
  | 30 => ("DebtCouncilModel", "book", "[I", true)
  | 31 => ("DebtCouncilModel", "paperSum", "[I", true)
  | 32 => ("DebtCouncilModel", "paperHouse", "[I", true)
  | 33 => ("DebtCouncilModel", "mark", "[I", true)
  | 34 => ("DebtCouncilModel", "paperMonth", "[I", true)
  | 35 => ("DebtCouncilModel", "takingSort", "[I", true)
  | 36 => ("DebtCouncilModel", "takingSum", "[I", true)
  | 37 => ("DebtCouncilModel", "takingMonth", "[I", true)
  | 38 => ("DebtCouncilModel", "brings", "[I", true)
  | 39 => ("DebtCouncilModel", "sinks", "[I", true)
  | 40 => ("DebtCouncilModel", "all", "[[I", true)
  | 41 => ("DebtCouncilModel", "old", "[[I", true)
  | 42 => ("DebtCouncilModel", "isKept", "Z", false)
  | 43 => ("DebtCouncilModel", "tape", "[I", true)
  | 44 => ("DebtCouncilModel", "taped", "I", false)
  | 45 => ("DebtCouncilModel", "rowChoice", "[I", true)
  | 46 => ("DebtCouncilModel", "rowNumber", "[I", true)
  | 47 => ("DebtCouncilModel", "rows", "I", false)
  | 48 => ("DebtCouncilModel", "sheetItems", "[J", true)
  | 49 => ("DebtCouncilModel", "sheetSort", "[I", true)
  | 50 => ("DebtCouncilModel", "sheetSize", "[I", true)
  | 51 => ("DebtCouncilModel", "shelfWhat", "[I", true)
  | 52 => ("DebtCouncilModel", "shelfWhich", "[I", true)
  | 53 => ("DebtCouncilModel", "shelfSize", "[I", true)
  | 54 => ("DebtCouncilModel", "trace", "[I", true)
  | 55 => ("DebtCouncilModel", "traced", "I", false)
  | 56 => ("DebtCouncilModel", "laid", "[I", true)
  | 57 => ("DebtCouncilModel", "at", "I", false)
  | 58 => ("DebtCouncilModel", "fault", "I", false)
  | 59 => ("DebtCouncilModel", "open", "I", false)
  | 60 => ("DebtCouncilModel", "version", "I", false)
  | 61 => ("DebtCouncilModel", "written", "I", false)
  | 62 => ("DebtCouncilModel", "number", "I", false)
  | 63 => ("DebtCouncilModel", "pile", "[Z", true)
  | 64 => ("DebtCouncilModel", "wants", "[I", true)
  | 65 => ("DebtCouncilModel", "gives", "[I", true)
  | 66 => ("DebtCouncilModel", "rank", "[I", true)
  | 67 => ("DebtCouncilModel", "pots", "[I", true)
  | 68 => ("DebtCouncilModel", "with", "[I", true)
  | 69 => ("DebtCouncilModel", "asked", "[Z", true)
  | 70 => ("DebtCouncilModel", "kind", "I", false)
  | 71 => ("DebtCouncilModel", "dealt", "I", false)
  | 72 => ("DebtCouncilModel", "dealer", "I", false)
  | 73 => ("DebtCouncilModel", "amount", "I", false)
  | _ => ("DebtCouncilModel", "parted", "Z", false)
def tyX12 : Nat → FieldType := fun k => match k with
  | 0 => .array .int
  | 1 => .array .int
  | 2 => .array .int
  | 3 => .array .int
  | 4 => .array .int
  | 5 => .array .int
  | 6 => .array .int
  | 7 => .array .int
  | 8 => .array .int
  | 9 => .array .int
  | 10 => .array .int
  | 11 => .array .int
  | 12 => .array .int
  | 13 => .array .int
  | 14 => .array .int
  | 15 => .array .int
  | 16 => .array .int
  | 17 => .array .int
  | 18 => .array .int
  | 19 => .array .int
  | 20 => .array .int
  | 21 => .array .int
  | 22 => .array .int
  | 23 => .array .int
  | 24 => .array .int
  | 25 => .array .int
  | 26 => .array .int
  | 27 => .array .int
  | 28 => .array .int
  | 29 => .array .int
  | 30 => .array .int
  | 31 => .array .int
  | 32 => .array .int
  | 33 => .array .int
  | 34 => .array .int
  | 35 => .array .int
  | 36 => .array .int
  | 37 => .array .int
  | 38 => .array .int
  | 39 => .array .int
  | 40 => .array (.array .int)
  | 41 => .array (.array .int)
  | 42 => .boolean
  | 43 => .array .int
  | 44 => .int
  | 45 => .array .int
  | 46 => .array .int
  | 47 => .int
  | 48 => .array .long
  | 49 => .array .int
  | 50 => .array .int
  | 51 => .array .int
  | 52 => .array .int
  | 53 => .array .int
  | 54 => .array .int
  | 55 => .int
  | 56 => .array .int
  | 57 => .int
  | 58 => .int
  | 59 => .int
  | 60 => .int
  | 61 => .int
  | 62 => .int
  | 63 => .array .boolean
  | 64 => .array .int
  | 65 => .array .int
  | 66 => .array .int
  | 67 => .array .int
  | 68 => .array .int
  | 69 => .array .boolean
  | 70 => .int
  | 71 => .int
  | 72 => .int
  | 73 => .int
  | _ => .boolean
abbrev wsX120 : List Cond := u_ws RX12 TX12 75
theorem nmX12 : ∀ a, a < 75 → ∀ b, b < 75 → a ≠ b → (TX12 a).2.1 ≠ (TX12 b).2.1 := by decide +kernel
theorem tyX12_ok : ∀ k, k < 75 → parseFieldDescriptor (TX12 k).2.2.1 = some (tyX12 k) := by decide +kernel
abbrev cX12_init : ByteArray := prog_14_method_1_code
def yX12_init : MethodName := ⟨RX12, "<init>", "()V"⟩
abbrev cX12_is : ByteArray := prog_14_method_2_code
def yX12_is : MethodName := ⟨RX12, "is", "(III)Z"⟩
abbrev cX12_isMonth : ByteArray := prog_14_method_3_code
def yX12_isMonth : MethodName := ⟨RX12, "isMonth", "(I)Z"⟩
abbrev cX12_isOne : ByteArray := prog_14_method_4_code
def yX12_isOne : MethodName := ⟨RX12, "isOne", "(II)Z"⟩
abbrev cX12_isMutiny : ByteArray := prog_14_method_5_code
def yX12_isMutiny : MethodName := ⟨RX12, "isMutiny", "(I)Z"⟩
abbrev cX12_due : ByteArray := prog_14_method_6_code
def yX12_due : MethodName := ⟨RX12, "due", "(IIII)I"⟩
abbrev cX12_round : ByteArray := prog_14_method_7_code
def yX12_round : MethodName := ⟨RX12, "round", "(IIIII)I"⟩
abbrev cX12_gathered : ByteArray := prog_14_method_8_code
def yX12_gathered : MethodName := ⟨RX12, "gathered", "(III)I"⟩
abbrev cX12_province : ByteArray := prog_14_method_9_code
def yX12_province : MethodName := ⟨RX12, "province", "(II)I"⟩
abbrev cX12_yield1 : ByteArray := prog_14_method_10_code
def yX12_yield1 : MethodName := ⟨RX12, "yield1", "(III)I"⟩
abbrev cX12_yields : ByteArray := prog_14_method_11_code
def yX12_yields : MethodName := ⟨RX12, "yields", "(III)I"⟩
abbrev cX12_guards : ByteArray := prog_14_method_12_code
def yX12_guards : MethodName := ⟨RX12, "guards", "(II)I"⟩
abbrev cX12_rate : ByteArray := prog_14_method_13_code
def yX12_rate : MethodName := ⟨RX12, "rate", "(II)I"⟩
abbrev cX12_harvest : ByteArray := prog_14_method_14_code
def yX12_harvest : MethodName := ⟨RX12, "harvest", "(II)I"⟩
abbrev cX12_gather : ByteArray := prog_14_method_15_code
def yX12_gather : MethodName := ⟨RX12, "gather", "(IIII)I"⟩
abbrev cX12_bestRate : ByteArray := prog_14_method_16_code
def yX12_bestRate : MethodName := ⟨RX12, "bestRate", "(III)I"⟩
abbrev cX12_goesRound : ByteArray := prog_14_method_17_code
def yX12_goesRound : MethodName := ⟨RX12, "goesRound", "(III)I"⟩
abbrev cX12_least : ByteArray := prog_14_method_18_code
def yX12_least : MethodName := ⟨RX12, "least", "(III)I"⟩
abbrev cX12_leastFrom : ByteArray := prog_14_method_19_code
def yX12_leastFrom : MethodName := ⟨RX12, "leastFrom", "(III)I"⟩
abbrev cX12_mostAt : ByteArray := prog_14_method_20_code
def yX12_mostAt : MethodName := ⟨RX12, "mostAt", "(III)I"⟩
abbrev cX12_provinceOf : ByteArray := prog_14_method_21_code
def yX12_provinceOf : MethodName := ⟨RX12, "provinceOf", "(II)I"⟩
abbrev cX12_here : ByteArray := prog_14_method_22_code
def yX12_here : MethodName := ⟨RX12, "here", "()I"⟩
abbrev cX12_bad : ByteArray := prog_14_method_23_code
def yX12_bad : MethodName := ⟨RX12, "bad", "()Z"⟩
abbrev cX12_isLetter : ByteArray := prog_14_method_24_code
def yX12_isLetter : MethodName := ⟨RX12, "isLetter", "(I)Z"⟩
abbrev cX12_isDigit : ByteArray := prog_14_method_25_code
def yX12_isDigit : MethodName := ⟨RX12, "isDigit", "(I)Z"⟩
abbrev cX12_takes : ByteArray := prog_14_method_26_code
def yX12_takes : MethodName := ⟨RX12, "takes", "(Ljava/lang/String;)Z"⟩
abbrev cX12_takes_ : ByteArray := prog_14_method_27_code
def yX12_takes_ : MethodName := ⟨RX12, "takes", "(I)Z"⟩
abbrev cX12_number : ByteArray := prog_14_method_28_code
def yX12_number : MethodName := ⟨RX12, "number", "(I)Z"⟩
abbrev cX12_write : ByteArray := prog_14_method_29_code
def yX12_write : MethodName := ⟨RX12, "write", "(I)V"⟩
abbrev cX12_sortHere : ByteArray := prog_14_method_30_code
def yX12_sortHere : MethodName := ⟨RX12, "sortHere", "()I"⟩
abbrev cX12_factHere : ByteArray := prog_14_method_31_code
def yX12_factHere : MethodName := ⟨RX12, "factHere", "()I"⟩
abbrev cX12_cond : ByteArray := prog_14_method_32_code
def yX12_cond : MethodName := ⟨RX12, "cond", "()Z"⟩
abbrev cX12_both : ByteArray := prog_14_method_33_code
def yX12_both : MethodName := ⟨RX12, "both", "()Z"⟩
abbrev cX12_single : ByteArray := prog_14_method_34_code
def yX12_single : MethodName := ⟨RX12, "single", "()Z"⟩
abbrev cX12_plain : ByteArray := prog_14_method_35_code
def yX12_plain : MethodName := ⟨RX12, "plain", "()Z"⟩
abbrev cX12_line : ByteArray := prog_14_method_36_code
def yX12_line : MethodName := ⟨RX12, "line", "(I)Z"⟩
abbrev cX12_feed : ByteArray := prog_14_method_37_code
def yX12_feed : MethodName := ⟨RX12, "feed", "(JI)I"⟩
abbrev cX12_read : ByteArray := prog_14_method_38_code
def yX12_read : MethodName := ⟨RX12, "read", "()I"⟩
abbrev cX12_line_ : ByteArray := prog_14_method_39_code
def yX12_line_ : MethodName := ⟨RX12, "line", "(III)I"⟩
abbrev cX12_statute : ByteArray := prog_14_method_40_code
def yX12_statute : MethodName := ⟨RX12, "statute", "(I)I"⟩
abbrev cX12_fact : ByteArray := prog_14_method_41_code
def yX12_fact : MethodName := ⟨RX12, "fact", "(III)I"⟩
abbrev cX12_holds : ByteArray := prog_14_method_42_code
def yX12_holds : MethodName := ⟨RX12, "holds", "(IIII)Z"⟩
abbrev cX12_first : ByteArray := prog_14_method_43_code
def yX12_first : MethodName := ⟨RX12, "first", "(III)I"⟩
abbrev cX12_told : ByteArray := prog_14_method_44_code
def yX12_told : MethodName := ⟨RX12, "told", "(IIII)I"⟩
abbrev cX12_latest : ByteArray := prog_14_method_45_code
def yX12_latest : MethodName := ⟨RX12, "latest", "(III)I"⟩
abbrev cX12_isOff : ByteArray := prog_14_method_46_code
def yX12_isOff : MethodName := ⟨RX12, "isOff", "(II)Z"⟩
abbrev cX12_falls : ByteArray := prog_14_method_47_code
def yX12_falls : MethodName := ⟨RX12, "falls", "(II)I"⟩
abbrev cX12_newDebt : ByteArray := prog_14_method_48_code
def yX12_newDebt : MethodName := ⟨RX12, "newDebt", "(IIIII)I"⟩
abbrev cX12_debt : ByteArray := prog_14_method_49_code
def yX12_debt : MethodName := ⟨RX12, "debt", "(III)I"⟩
abbrev cX12_debtOf : ByteArray := prog_14_method_50_code
def yX12_debtOf : MethodName := ⟨RX12, "debtOf", "(III)I"⟩
abbrev cX12_voids : ByteArray := prog_14_method_51_code
def yX12_voids : MethodName := ⟨RX12, "voids", "(I)I"⟩
abbrev cX12_why : ByteArray := prog_14_method_52_code
def yX12_why : MethodName := ⟨RX12, "why", "(III)I"⟩
abbrev cX12_share : ByteArray := prog_14_method_53_code
def yX12_share : MethodName := ⟨RX12, "share", "(III)I"⟩
abbrev cX12_part : ByteArray := prog_14_method_54_code
def yX12_part : MethodName := ⟨RX12, "part", "(III)V"⟩
abbrev cX12_spare : ByteArray := prog_14_method_55_code
def yX12_spare : MethodName := ⟨RX12, "spare", "(II)I"⟩
abbrev cX12_gets : ByteArray := prog_14_method_56_code
def yX12_gets : MethodName := ⟨RX12, "gets", "(III)I"⟩
abbrev cX12_comesIn : ByteArray := prog_14_method_57_code
def yX12_comesIn : MethodName := ⟨RX12, "comesIn", "(I)V"⟩
abbrev cX12_months : ByteArray := prog_14_method_58_code
def yX12_months : MethodName := ⟨RX12, "months", "(I)I"⟩
abbrev cX12_month : ByteArray := prog_14_method_59_code
def yX12_month : MethodName := ⟨RX12, "month", "()V"⟩
abbrev cX12_lag : ByteArray := prog_14_method_60_code
def yX12_lag : MethodName := ⟨RX12, "lag", "(II)I"⟩
abbrev cX12_knows : ByteArray := prog_14_method_61_code
def yX12_knows : MethodName := ⟨RX12, "knows", "(II)I"⟩
abbrev cX12_takesIt : ByteArray := prog_14_method_62_code
def yX12_takesIt : MethodName := ⟨RX12, "takesIt", "(III)Z"⟩
abbrev cX12_swap : ByteArray := prog_14_method_63_code
def yX12_swap : MethodName := ⟨RX12, "swap", "(III)I"⟩
abbrev cX12_offer : ByteArray := prog_14_method_64_code
def yX12_offer : MethodName := ⟨RX12, "offer", "(II)I"⟩
abbrev cX12_railway : ByteArray := prog_14_method_65_code
def yX12_railway : MethodName := ⟨RX12, "railway", "(III)I"⟩
abbrev cX12_earns : ByteArray := prog_14_method_66_code
def yX12_earns : MethodName := ⟨RX12, "earns", "(II)I"⟩
abbrev cX12_railwayOf : ByteArray := prog_14_method_67_code
def yX12_railwayOf : MethodName := ⟨RX12, "railwayOf", "(II)I"⟩
abbrev cX12_paper : ByteArray := prog_14_method_68_code
def yX12_paper : MethodName := ⟨RX12, "paper", "(IIII)I"⟩
abbrev cX12_mayBeOne : ByteArray := prog_14_method_69_code
def yX12_mayBeOne : MethodName := ⟨RX12, "mayBeOne", "(II)Z"⟩
abbrev cX12_others : ByteArray := prog_14_method_70_code
def yX12_others : MethodName := ⟨RX12, "others", "(I)I"⟩
abbrev cX12_finds : ByteArray := prog_14_method_71_code
def yX12_finds : MethodName := ⟨RX12, "finds", "(I)Z"⟩
abbrev cX12_match : ByteArray := prog_14_method_72_code
def yX12_match : MethodName := ⟨RX12, "match", "()V"⟩
abbrev cX12_bills : ByteArray := prog_14_method_73_code
def yX12_bills : MethodName := ⟨RX12, "bills", "(I)I"⟩
abbrev cX12_taking : ByteArray := prog_14_method_74_code
def yX12_taking : MethodName := ⟨RX12, "taking", "(II)I"⟩
abbrev cX12_upTo : ByteArray := prog_14_method_75_code
def yX12_upTo : MethodName := ⟨RX12, "upTo", "(I)I"⟩
abbrev cX12_isLast : ByteArray := prog_14_method_76_code
def yX12_isLast : MethodName := ⟨RX12, "isLast", "(I)Z"⟩
abbrev cX12_takings : ByteArray := prog_14_method_77_code
def yX12_takings : MethodName := ⟨RX12, "takings", "(I)I"⟩
abbrev cX12_choice : ByteArray := prog_14_method_78_code
def yX12_choice : MethodName := ⟨RX12, "choice", "(IIII)I"⟩
abbrev cX12_leastYear : ByteArray := prog_14_method_79_code
def yX12_leastYear : MethodName := ⟨RX12, "leastYear", "(II)I"⟩
abbrev cX12_sunk : ByteArray := prog_14_method_80_code
def yX12_sunk : MethodName := ⟨RX12, "sunk", "(I)I"⟩
abbrev cX12_choose : ByteArray := prog_14_method_81_code
def yX12_choose : MethodName := ⟨RX12, "choose", "(I)I"⟩
abbrev cX12_row : ByteArray := prog_14_method_82_code
def yX12_row : MethodName := ⟨RX12, "row", "(II)I"⟩
abbrev cX12_alterRow : ByteArray := prog_14_method_83_code
def yX12_alterRow : MethodName := ⟨RX12, "alterRow", "(III)I"⟩
abbrev cX12_dropRow : ByteArray := prog_14_method_84_code
def yX12_dropRow : MethodName := ⟨RX12, "dropRow", "()I"⟩
abbrev cX12_judge : ByteArray := prog_14_method_85_code
def yX12_judge : MethodName := ⟨RX12, "judge", "(I)I"⟩
abbrev cX12_narrowed : ByteArray := prog_14_method_86_code
def yX12_narrowed : MethodName := ⟨RX12, "narrowed", "(II)J"⟩
abbrev cX12_sheet : ByteArray := prog_14_method_87_code
def yX12_sheet : MethodName := ⟨RX12, "sheet", "(III)I"⟩
abbrev cX12_put : ByteArray := prog_14_method_88_code
def yX12_put : MethodName := ⟨RX12, "put", "(III)I"⟩
abbrev cX12_item : ByteArray := prog_14_method_89_code
def yX12_item : MethodName := ⟨RX12, "item", "(III)I"⟩
abbrev cX12_shelf : ByteArray := prog_14_method_90_code
def yX12_shelf : MethodName := ⟨RX12, "shelf", "(III)I"⟩
abbrev cX12_kindOn : ByteArray := prog_14_method_91_code
def yX12_kindOn : MethodName := ⟨RX12, "kindOn", "(I)I"⟩
abbrev cX12_isUnder : ByteArray := prog_14_method_92_code
def yX12_isUnder : MethodName := ⟨RX12, "isUnder", "(II)Z"⟩
abbrev cX12_taken : ByteArray := prog_14_method_93_code
def yX12_taken : MethodName := ⟨RX12, "taken", "(II)I"⟩
abbrev cX12_begins : ByteArray := prog_14_method_94_code
def yX12_begins : MethodName := ⟨RX12, "begins", "(I)V"⟩
abbrev cX12_over : ByteArray := prog_14_method_95_code
def yX12_over : MethodName := ⟨RX12, "over", "(I)I"⟩
abbrev cX12_pays : ByteArray := prog_14_method_96_code
def yX12_pays : MethodName := ⟨RX12, "pays", "(II)I"⟩
abbrev cX12_ranks : ByteArray := prog_14_method_97_code
def yX12_ranks : MethodName := ⟨RX12, "ranks", "(II)I"⟩
abbrev cX12_falls1 : ByteArray := prog_14_method_98_code
def yX12_falls1 : MethodName := ⟨RX12, "falls1", "(II)I"⟩
abbrev cX12_tells : ByteArray := prog_14_method_99_code
def yX12_tells : MethodName := ⟨RX12, "tells", "(II)I"⟩
abbrev cX12_deal : ByteArray := prog_14_method_100_code
def yX12_deal : MethodName := ⟨RX12, "deal", "(III)I"⟩
abbrev cX12_trace : ByteArray := prog_14_method_101_code
def yX12_trace : MethodName := ⟨RX12, "trace", "(I)I"⟩
abbrev cX12_many : ByteArray := prog_14_method_102_code
def yX12_many : MethodName := ⟨RX12, "many", "(I)I"⟩
abbrev cX12_copied : ByteArray := prog_14_method_103_code
def yX12_copied : MethodName := ⟨RX12, "copied", "([[I[[I)V"⟩
abbrev cX12_keep : ByteArray := prog_14_method_104_code
def yX12_keep : MethodName := ⟨RX12, "keep", "()I"⟩
abbrev cX12_again : ByteArray := prog_14_method_105_code
def yX12_again : MethodName := ⟨RX12, "again", "()I"⟩
def RJx145de : String := "java/io/Serializable"
def TJx145de : u_T := fun k => match k with
  | _ => ("", "", "", false)
def tyJx145de : Nat → FieldType := fun k => match k with
  | _ => .int
abbrev wsJx145de0 : List Cond := u_ws RJx145de TJx145de 0
theorem nmJx145de : ∀ a, a < 0 → ∀ b, b < 0 → a ≠ b → (TJx145de a).2.1 ≠ (TJx145de b).2.1 := by decide +kernel
theorem tyJx145de_ok : ∀ k, k < 0 → parseFieldDescriptor (TJx145de k).2.2.1 = some (tyJx145de k) := by decide +kernel
def RJx9f9b0 : String := "java/lang/CharSequence"
def TJx9f9b0 : u_T := fun k => match k with
  | _ => ("", "", "", false)
def tyJx9f9b0 : Nat → FieldType := fun k => match k with
  | _ => .int
abbrev wsJx9f9b00 : List Cond := u_ws RJx9f9b0 TJx9f9b0 0
theorem nmJx9f9b0 : ∀ a, a < 0 → ∀ b, b < 0 → a ≠ b → (TJx9f9b0 a).2.1 ≠ (TJx9f9b0 b).2.1 := by decide +kernel
theorem tyJx9f9b0_ok : ∀ k, k < 0 → parseFieldDescriptor (TJx9f9b0 k).2.2.1 = some (tyJx9f9b0 k) := by decide +kernel
def RJx8e188 : String := "java/lang/Cloneable"
def TJx8e188 : u_T := fun k => match k with
  | _ => ("", "", "", false)
def tyJx8e188 : Nat → FieldType := fun k => match k with
  | _ => .int
abbrev wsJx8e1880 : List Cond := u_ws RJx8e188 TJx8e188 0
theorem nmJx8e188 : ∀ a, a < 0 → ∀ b, b < 0 → a ≠ b → (TJx8e188 a).2.1 ≠ (TJx8e188 b).2.1 := by decide +kernel
theorem tyJx8e188_ok : ∀ k, k < 0 → parseFieldDescriptor (TJx8e188 k).2.2.1 = some (tyJx8e188 k) := by decide +kernel
def RJxb160c : String := "java/lang/Comparable"
def TJxb160c : u_T := fun k => match k with
  | _ => ("", "", "", false)
def tyJxb160c : Nat → FieldType := fun k => match k with
  | _ => .int
abbrev wsJxb160c0 : List Cond := u_ws RJxb160c TJxb160c 0
theorem nmJxb160c : ∀ a, a < 0 → ∀ b, b < 0 → a ≠ b → (TJxb160c a).2.1 ≠ (TJxb160c b).2.1 := by decide +kernel
theorem tyJxb160c_ok : ∀ k, k < 0 → parseFieldDescriptor (TJxb160c k).2.2.1 = some (tyJxb160c k) := by decide +kernel
def RJ9 : String := "java/lang/Math"
def TJ9 : u_T := fun k => match k with
  | _ => ("", "", "", false)
def tyJ9 : Nat → FieldType := fun k => match k with
  | _ => .int
abbrev wsJ90 : List Cond := u_ws RJ9 TJ9 0
theorem nmJ9 : ∀ a, a < 0 → ∀ b, b < 0 → a ≠ b → (TJ9 a).2.1 ≠ (TJ9 b).2.1 := by decide +kernel
theorem tyJ9_ok : ∀ k, k < 0 → parseFieldDescriptor (TJ9 k).2.2.1 = some (tyJ9 k) := by decide +kernel
abbrev cJ9_abs_0f7a4 : ByteArray := prog_16_method_59_code
def yJ9_abs_0f7a4 : MethodName := ⟨RJ9, "abs", "(I)I"⟩
abbrev cJ9_max_7cf53 : ByteArray := prog_16_method_65_code
def yJ9_max_7cf53 : MethodName := ⟨RJ9, "max", "(II)I"⟩
abbrev cJ9_min_7cf53 : ByteArray := prog_16_method_69_code
def yJ9_min_7cf53 : MethodName := ⟨RJ9, "min", "(II)I"⟩
def RJ0 : String := "java/lang/String"
def TJ0 : u_T := fun k => match k with
  | _ => ("", "", "", false)
def tyJ0 : Nat → FieldType := fun k => match k with
  | _ => .int
abbrev wsJ00 : List Cond := u_ws RJ0 TJ0 0
theorem nmJ0 : ∀ a, a < 0 → ∀ b, b < 0 → a ≠ b → (TJ0 a).2.1 ≠ (TJ0 b).2.1 := by decide +kernel
theorem tyJ0_ok : ∀ k, k < 0 → parseFieldDescriptor (TJ0 k).2.2.1 = some (tyJ0 k) := by decide +kernel
abbrev cJ0_length_8abf5 : ByteArray := prog_17_method_54_code
def yJ0_length_8abf5 : MethodName := ⟨RJ0, "length", "()I"⟩
abbrev cJ0_charAt_5068e : ByteArray := prog_17_method_56_code
def yJ0_charAt_5068e : MethodName := ⟨RJ0, "charAt", "(I)C"⟩
abbrev cJ0_coder_7d493 : ByteArray := prog_17_method_152_code
def yJ0_coder_7d493 : MethodName := ⟨RJ0, "coder", "()B"⟩
abbrev cJ0_isLatin1_aae02 : ByteArray := prog_17_method_154_code
def yJ0_isLatin1_aae02 : MethodName := ⟨RJ0, "isLatin1", "()Z"⟩
abbrev cJ0_checkIndex_df160 : ByteArray := prog_17_method_155_code
def yJ0_checkIndex_df160 : MethodName := ⟨RJ0, "checkIndex", "(II)V"⟩
def RJ1 : String := "java/lang/StringLatin1"
def TJ1 : u_T := fun k => match k with
  | _ => ("", "", "", false)
def tyJ1 : Nat → FieldType := fun k => match k with
  | _ => .int
abbrev wsJ10 : List Cond := u_ws RJ1 TJ1 0
theorem nmJ1 : ∀ a, a < 0 → ∀ b, b < 0 → a ≠ b → (TJ1 a).2.1 ≠ (TJ1 b).2.1 := by decide +kernel
theorem tyJ1_ok : ∀ k, k < 0 → parseFieldDescriptor (TJ1 k).2.2.1 = some (tyJ1 k) := by decide +kernel
abbrev cJ1_charAt_3b067 : ByteArray := prog_18_method_2_code
def yJ1_charAt_3b067 : MethodName := ⟨RJ1, "charAt", "([BI)C"⟩
def RJ2 : String := "java/lang/StringUTF16"
def TJ2 : u_T := fun k => match k with
  | _ => ("", "", "", false)
def tyJ2 : Nat → FieldType := fun k => match k with
  | _ => .int
abbrev wsJ20 : List Cond := u_ws RJ2 TJ2 0
theorem nmJ2 : ∀ a, a < 0 → ∀ b, b < 0 → a ≠ b → (TJ2 a).2.1 ≠ (TJ2 b).2.1 := by decide +kernel
theorem tyJ2_ok : ∀ k, k < 0 → parseFieldDescriptor (TJ2 k).2.2.1 = some (tyJ2 k) := by decide +kernel
abbrev cJ2_getChar_3b067 : ByteArray := prog_19_method_5_code
def yJ2_getChar_3b067 : MethodName := ⟨RJ2, "getChar", "([BI)C"⟩
abbrev cJ2_length_9d52b : ByteArray := prog_19_method_6_code
def yJ2_length_9d52b : MethodName := ⟨RJ2, "length", "([B)I"⟩
abbrev cJ2_charAt_3b067 : ByteArray := prog_19_method_83_code
def yJ2_charAt_3b067 : MethodName := ⟨RJ2, "charAt", "([BI)C"⟩
abbrev cJ2_checkIndex_2214a : ByteArray := prog_19_method_91_code
def yJ2_checkIndex_2214a : MethodName := ⟨RJ2, "checkIndex", "(I[B)V"⟩
def RJ10 : String := "java/lang/System"
def TJ10 : u_T := fun k => match k with
  | _ => ("", "", "", false)
def tyJ10 : Nat → FieldType := fun k => match k with
  | _ => .int
abbrev wsJ100 : List Cond := u_ws RJ10 TJ10 0
theorem nmJ10 : ∀ a, a < 0 → ∀ b, b < 0 → a ≠ b → (TJ10 a).2.1 ≠ (TJ10 b).2.1 := by decide +kernel
theorem tyJ10_ok : ∀ k, k < 0 → parseFieldDescriptor (TJ10 k).2.2.1 = some (tyJ10 k) := by decide +kernel
def RJxfd54e : String := "java/lang/constant/Constable"
def TJxfd54e : u_T := fun k => match k with
  | _ => ("", "", "", false)
def tyJxfd54e : Nat → FieldType := fun k => match k with
  | _ => .int
abbrev wsJxfd54e0 : List Cond := u_ws RJxfd54e TJxfd54e 0
theorem nmJxfd54e : ∀ a, a < 0 → ∀ b, b < 0 → a ≠ b → (TJxfd54e a).2.1 ≠ (TJxfd54e b).2.1 := by decide +kernel
theorem tyJxfd54e_ok : ∀ k, k < 0 → parseFieldDescriptor (TJxfd54e k).2.2.1 = some (tyJxfd54e k) := by decide +kernel
def RJx3cf43 : String := "java/lang/constant/ConstantDesc"
def TJx3cf43 : u_T := fun k => match k with
  | _ => ("", "", "", false)
def tyJx3cf43 : Nat → FieldType := fun k => match k with
  | _ => .int
abbrev wsJx3cf430 : List Cond := u_ws RJx3cf43 TJx3cf43 0
theorem nmJx3cf43 : ∀ a, a < 0 → ∀ b, b < 0 → a ≠ b → (TJx3cf43 a).2.1 ≠ (TJx3cf43 b).2.1 := by decide +kernel
theorem tyJx3cf43_ok : ∀ k, k < 0 → parseFieldDescriptor (TJx3cf43 k).2.2.1 = some (tyJx3cf43 k) := by decide +kernel
def RJ7 : String := "java/util/Arrays"
def TJ7 : u_T := fun k => match k with
  | _ => ("", "", "", false)
def tyJ7 : Nat → FieldType := fun k => match k with
  | _ => .int
abbrev wsJ70 : List Cond := u_ws RJ7 TJ7 0
theorem nmJ7 : ∀ a, a < 0 → ∀ b, b < 0 → a ≠ b → (TJ7 a).2.1 ≠ (TJ7 b).2.1 := by decide +kernel
theorem tyJ7_ok : ∀ k, k < 0 → parseFieldDescriptor (TJ7 k).2.2.1 = some (tyJ7 k) := by decide +kernel
abbrev cJ7_fill_53178 : ByteArray := prog_21_method_103_code
def yJ7_fill_53178 : MethodName := ⟨RJ7, "fill", "([II)V"⟩
abbrev cJ7_copyOf_59c91 : ByteArray := prog_21_method_123_code
def yJ7_copyOf_59c91 : MethodName := ⟨RJ7, "copyOf", "([II)[I"⟩
def RJ3 : String := "jdk/internal/util/Preconditions"
def TJ3 : u_T := fun k => match k with
  | _ => ("", "", "", false)
def tyJ3 : Nat → FieldType := fun k => match k with
  | _ => .int
abbrev wsJ30 : List Cond := u_ws RJ3 TJ3 0
theorem nmJ3 : ∀ a, a < 0 → ∀ b, b < 0 → a ≠ b → (TJ3 a).2.1 ≠ (TJ3 b).2.1 := by decide +kernel
theorem tyJ3_ok : ∀ k, k < 0 → parseFieldDescriptor (TJ3 k).2.2.1 = some (tyJ3 k) := by decide +kernel
abbrev cJ3_checkIndex_8e157 : ByteArray := prog_22_method_11_code
def yJ3_checkIndex_8e157 : MethodName := ⟨RJ3, "checkIndex", "(IILjava/util/function/BiFunction;)I"⟩
def RL : String := "DebtCouncilLaw"
abbrev cL_law : ByteArray := code
def yL_law : MethodName := ⟨RL, "law", "([I)Z"⟩
abbrev vwCl : List vw_C := [(RX0, TX0, 7), (RX1, TX1, 10), (RX2, TX2, 6), (RX3, TX3, 16), (RX4, TX4, 4), (RX5, TX5, 4), (RX6, TX6, 4), (RX7, TX7, 5), (RX8, TX8, 6), (RX9, TX9, 2), (RX10, TX10, 10), (RX11, TX11, 11), (RX12, TX12, 75)]
