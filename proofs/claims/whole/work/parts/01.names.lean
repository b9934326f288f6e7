-- ===== PART A: goes FIRST, ahead of the names: the tables' words, and 'selects' of the private methods out of them =====
/-- a private method of a class that the tables say can be made, by its rows of tables_1 -/
def lw_okq (q : MethodName × Nat) : Prop := (q.1.cls ≠ "java/lang/invoke/MethodHandle" ∧ q.1.cls ≠ "java/lang/invoke/VarHandle") ∧ Cond.instantiable q.1.cls q.2 ∈ tables_1 ∧ Cond.privateMethod q.1 ∈ tables_1 ∧ Cond.instanceMethod q.1 ∈ tables_1
theorem lw_p0 : lw_okq (⟨"java/util/ArrayList", "add", "(Ljava/lang/Object;[Ljava/lang/Object;I)V"⟩, 3) := ⟨⟨by decide +kernel, by decide +kernel⟩, List.mem_of_getElem? (i := 40) (by decide +kernel), List.mem_of_getElem? (i := 428) (by decide +kernel), List.mem_of_getElem? (i := 429) (by decide +kernel)⟩
theorem lw_p1 : lw_okq (⟨"java/util/ArrayList", "grow", "()[Ljava/lang/Object;"⟩, 3) := ⟨⟨by decide +kernel, by decide +kernel⟩, List.mem_of_getElem? (i := 40) (by decide +kernel), List.mem_of_getElem? (i := 432) (by decide +kernel), List.mem_of_getElem? (i := 433) (by decide +kernel)⟩
theorem lw_p2 : lw_okq (⟨"java/util/ArrayList", "grow", "(I)[Ljava/lang/Object;"⟩, 3) := ⟨⟨by decide +kernel, by decide +kernel⟩, List.mem_of_getElem? (i := 40) (by decide +kernel), List.mem_of_getElem? (i := 436) (by decide +kernel), List.mem_of_getElem? (i := 437) (by decide +kernel)⟩
theorem lw_p3 : lw_okq (⟨"ToyHouse", "kindAt", "(I)LToyHouse$Kind;"⟩, 20) := ⟨⟨by decide +kernel, by decide +kernel⟩, List.mem_of_getElem? (i := 29) (by decide +kernel), List.mem_of_getElem? (i := 489) (by decide +kernel), List.mem_of_getElem? (i := 490) (by decide +kernel)⟩
theorem lw_p4 : lw_okq (⟨"ToyHouse", "hasToys", "(LToyHouse$Kind;)Z"⟩, 20) := ⟨⟨by decide +kernel, by decide +kernel⟩, List.mem_of_getElem? (i := 29) (by decide +kernel), List.mem_of_getElem? (i := 507) (by decide +kernel), List.mem_of_getElem? (i := 508) (by decide +kernel)⟩
theorem lw_p5 : lw_okq (⟨"ToyHouse", "toyAt", "(I)LToyHouse$Toy;"⟩, 20) := ⟨⟨by decide +kernel, by decide +kernel⟩, List.mem_of_getElem? (i := 29) (by decide +kernel), List.mem_of_getElem? (i := 643) (by decide +kernel), List.mem_of_getElem? (i := 644) (by decide +kernel)⟩
theorem lw_p6 : lw_okq (⟨"ToyHouse", "isTerm", "(II)Z"⟩, 20) := ⟨⟨by decide +kernel, by decide +kernel⟩, List.mem_of_getElem? (i := 29) (by decide +kernel), List.mem_of_getElem? (i := 647) (by decide +kernel), List.mem_of_getElem? (i := 648) (by decide +kernel)⟩
theorem lw_p7 : lw_okq (⟨"ToyHouse", "familyAt", "(I)LToyHouse$Family;"⟩, 20) := ⟨⟨by decide +kernel, by decide +kernel⟩, List.mem_of_getElem? (i := 29) (by decide +kernel), List.mem_of_getElem? (i := 651) (by decide +kernel), List.mem_of_getElem? (i := 652) (by decide +kernel)⟩
theorem lw_p8 : lw_okq (⟨"ToyHouse", "addToTape", "(I)V"⟩, 20) := ⟨⟨by decide +kernel, by decide +kernel⟩, List.mem_of_getElem? (i := 29) (by decide +kernel), List.mem_of_getElem? (i := 663) (by decide +kernel), List.mem_of_getElem? (i := 664) (by decide +kernel)⟩
theorem lw_p9 : lw_okq (⟨"ToyHouse$RuleText", "readClause", "()Z"⟩, 13) := ⟨⟨by decide +kernel, by decide +kernel⟩, List.mem_of_getElem? (i := 67) (by decide +kernel), List.mem_of_getElem? (i := 676) (by decide +kernel), List.mem_of_getElem? (i := 677) (by decide +kernel)⟩
theorem lw_p10 : lw_okq (⟨"ToyHouse$RuleText", "here", "()I"⟩, 13) := ⟨⟨by decide +kernel, by decide +kernel⟩, List.mem_of_getElem? (i := 67) (by decide +kernel), List.mem_of_getElem? (i := 680) (by decide +kernel), List.mem_of_getElem? (i := 681) (by decide +kernel)⟩
theorem lw_p11 : lw_okq (⟨"ToyHouse$RuleText", "failed", "(I)Z"⟩, 13) := ⟨⟨by decide +kernel, by decide +kernel⟩, List.mem_of_getElem? (i := 67) (by decide +kernel), List.mem_of_getElem? (i := 690) (by decide +kernel), List.mem_of_getElem? (i := 691) (by decide +kernel)⟩
theorem lw_p12 : lw_okq (⟨"ToyHouse$RuleText", "readExpression", "(I)Z"⟩, 13) := ⟨⟨by decide +kernel, by decide +kernel⟩, List.mem_of_getElem? (i := 67) (by decide +kernel), List.mem_of_getElem? (i := 694) (by decide +kernel), List.mem_of_getElem? (i := 695) (by decide +kernel)⟩
theorem lw_p13 : lw_okq (⟨"ToyHouse$RuleText", "readTerm", "(I)Z"⟩, 13) := ⟨⟨by decide +kernel, by decide +kernel⟩, List.mem_of_getElem? (i := 67) (by decide +kernel), List.mem_of_getElem? (i := 698) (by decide +kernel), List.mem_of_getElem? (i := 699) (by decide +kernel)⟩
theorem lw_p14 : lw_okq (⟨"ToyHouse$RuleText", "readFactor", "(I)Z"⟩, 13) := ⟨⟨by decide +kernel, by decide +kernel⟩, List.mem_of_getElem? (i := 67) (by decide +kernel), List.mem_of_getElem? (i := 702) (by decide +kernel), List.mem_of_getElem? (i := 703) (by decide +kernel)⟩
theorem lw_p15 : lw_okq (⟨"ToyHouse$RuleText", "readNumber", "()Z"⟩, 13) := ⟨⟨by decide +kernel, by decide +kernel⟩, List.mem_of_getElem? (i := 67) (by decide +kernel), List.mem_of_getElem? (i := 709) (by decide +kernel), List.mem_of_getElem? (i := 710) (by decide +kernel)⟩
def lw_privs_1 : List (MethodName × Nat) := [(⟨"java/util/ArrayList", "add", "(Ljava/lang/Object;[Ljava/lang/Object;I)V"⟩, 3), (⟨"java/util/ArrayList", "grow", "()[Ljava/lang/Object;"⟩, 3), (⟨"java/util/ArrayList", "grow", "(I)[Ljava/lang/Object;"⟩, 3), (⟨"ToyHouse", "kindAt", "(I)LToyHouse$Kind;"⟩, 20), (⟨"ToyHouse", "hasToys", "(LToyHouse$Kind;)Z"⟩, 20), (⟨"ToyHouse", "toyAt", "(I)LToyHouse$Toy;"⟩, 20), (⟨"ToyHouse", "isTerm", "(II)Z"⟩, 20), (⟨"ToyHouse", "familyAt", "(I)LToyHouse$Family;"⟩, 20), (⟨"ToyHouse", "addToTape", "(I)V"⟩, 20), (⟨"ToyHouse$RuleText", "readClause", "()Z"⟩, 13), (⟨"ToyHouse$RuleText", "here", "()I"⟩, 13), (⟨"ToyHouse$RuleText", "failed", "(I)Z"⟩, 13), (⟨"ToyHouse$RuleText", "readExpression", "(I)Z"⟩, 13), (⟨"ToyHouse$RuleText", "readTerm", "(I)Z"⟩, 13), (⟨"ToyHouse$RuleText", "readFactor", "(I)Z"⟩, 13), (⟨"ToyHouse$RuleText", "readNumber", "()Z"⟩, 13)]
theorem lw_r1 : ∀ q ∈ lw_privs_1, lw_okq q := List.forall_mem_cons.mpr ⟨lw_p0, List.forall_mem_cons.mpr ⟨lw_p1, List.forall_mem_cons.mpr ⟨lw_p2, List.forall_mem_cons.mpr ⟨lw_p3, List.forall_mem_cons.mpr ⟨lw_p4, List.forall_mem_cons.mpr ⟨lw_p5, List.forall_mem_cons.mpr ⟨lw_p6, List.forall_mem_cons.mpr ⟨lw_p7, List.forall_mem_cons.mpr ⟨lw_p8, List.forall_mem_cons.mpr ⟨lw_p9, List.forall_mem_cons.mpr ⟨lw_p10, List.forall_mem_cons.mpr ⟨lw_p11, List.forall_mem_cons.mpr ⟨lw_p12, List.forall_mem_cons.mpr ⟨lw_p13, List.forall_mem_cons.mpr ⟨lw_p14, List.forall_mem_cons.mpr ⟨lw_p15, fun _ h => absurd h List.not_mem_nil⟩⟩⟩⟩⟩⟩⟩⟩⟩⟩⟩⟩⟩⟩⟩⟩
theorem lw_p16 : lw_okq (⟨"ToyHouse$RuleText", "addStep", "(II)V"⟩, 13) := ⟨⟨by decide +kernel, by decide +kernel⟩, List.mem_of_getElem? (i := 67) (by decide +kernel), List.mem_of_getElem? (i := 713) (by decide +kernel), List.mem_of_getElem? (i := 714) (by decide +kernel)⟩
theorem lw_p17 : lw_okq (⟨"ToyHouse$RuleText", "readSign", "(I)Z"⟩, 13) := ⟨⟨by decide +kernel, by decide +kernel⟩, List.mem_of_getElem? (i := 67) (by decide +kernel), List.mem_of_getElem? (i := 800) (by decide +kernel), List.mem_of_getElem? (i := 801) (by decide +kernel)⟩
theorem lw_p18 : lw_okq (⟨"ToyHouse$RuleText", "readInBrackets", "(I)Z"⟩, 13) := ⟨⟨by decide +kernel, by decide +kernel⟩, List.mem_of_getElem? (i := 67) (by decide +kernel), List.mem_of_getElem? (i := 804) (by decide +kernel), List.mem_of_getElem? (i := 805) (by decide +kernel)⟩
theorem lw_p19 : lw_okq (⟨"ToyHouse$RuleText", "readCondition", "(I)Z"⟩, 13) := ⟨⟨by decide +kernel, by decide +kernel⟩, List.mem_of_getElem? (i := 67) (by decide +kernel), List.mem_of_getElem? (i := 808) (by decide +kernel), List.mem_of_getElem? (i := 809) (by decide +kernel)⟩
theorem lw_p20 : lw_okq (⟨"ToyHouse$RuleText", "readPart", "(I)Z"⟩, 13) := ⟨⟨by decide +kernel, by decide +kernel⟩, List.mem_of_getElem? (i := 67) (by decide +kernel), List.mem_of_getElem? (i := 812) (by decide +kernel), List.mem_of_getElem? (i := 813) (by decide +kernel)⟩
theorem lw_p21 : lw_okq (⟨"ToyHouse$RuleText", "readPiece", "(I)Z"⟩, 13) := ⟨⟨by decide +kernel, by decide +kernel⟩, List.mem_of_getElem? (i := 67) (by decide +kernel), List.mem_of_getElem? (i := 816) (by decide +kernel), List.mem_of_getElem? (i := 817) (by decide +kernel)⟩
theorem lw_p22 : lw_okq (⟨"ToyHouse$RuleText", "readComparison", "(I)Z"⟩, 13) := ⟨⟨by decide +kernel, by decide +kernel⟩, List.mem_of_getElem? (i := 67) (by decide +kernel), List.mem_of_getElem? (i := 820) (by decide +kernel), List.mem_of_getElem? (i := 821) (by decide +kernel)⟩
theorem lw_p23 : lw_okq (⟨"ToyHouse$RuleText", "endJump", "(I)V"⟩, 13) := ⟨⟨by decide +kernel, by decide +kernel⟩, List.mem_of_getElem? (i := 67) (by decide +kernel), List.mem_of_getElem? (i := 824) (by decide +kernel), List.mem_of_getElem? (i := 825) (by decide +kernel)⟩
theorem lw_p24 : lw_okq (⟨"ToyHouse", "firstWrongNumber", "(LToyHouse$Toy;I)I"⟩, 20) := ⟨⟨by decide +kernel, by decide +kernel⟩, List.mem_of_getElem? (i := 29) (by decide +kernel), List.mem_of_getElem? (i := 833) (by decide +kernel), List.mem_of_getElem? (i := 834) (by decide +kernel)⟩
theorem lw_p25 : lw_okq (⟨"ToyHouse", "tapeNumber", "(I)I"⟩, 20) := ⟨⟨by decide +kernel, by decide +kernel⟩, List.mem_of_getElem? (i := 29) (by decide +kernel), List.mem_of_getElem? (i := 837) (by decide +kernel), List.mem_of_getElem? (i := 838) (by decide +kernel)⟩
theorem lw_p26 : lw_okq (⟨"ToyHouse", "barrier", "(LToyHouse$Toy;LToyHouse$Family;)I"⟩, 20) := ⟨⟨by decide +kernel, by decide +kernel⟩, List.mem_of_getElem? (i := 29) (by decide +kernel), List.mem_of_getElem? (i := 845) (by decide +kernel), List.mem_of_getElem? (i := 846) (by decide +kernel)⟩
theorem lw_p27 : lw_okq (⟨"ToyHouse", "isRecalled", "(LToyHouse$Toy;)Z"⟩, 20) := ⟨⟨by decide +kernel, by decide +kernel⟩, List.mem_of_getElem? (i := 29) (by decide +kernel), List.mem_of_getElem? (i := 849) (by decide +kernel), List.mem_of_getElem? (i := 850) (by decide +kernel)⟩
theorem lw_p28 : lw_okq (⟨"ToyHouse", "writeLetters", "(LToyHouse$Kind;LToyHouse$Toy;LToyHouse$Family;I)V"⟩, 20) := ⟨⟨by decide +kernel, by decide +kernel⟩, List.mem_of_getElem? (i := 29) (by decide +kernel), List.mem_of_getElem? (i := 870) (by decide +kernel), List.mem_of_getElem? (i := 871) (by decide +kernel)⟩
theorem lw_p29 : lw_okq (⟨"ToyHouse", "toysHeldBy", "(LToyHouse$Family;)I"⟩, 20) := ⟨⟨by decide +kernel, by decide +kernel⟩, List.mem_of_getElem? (i := 29) (by decide +kernel), List.mem_of_getElem? (i := 882) (by decide +kernel), List.mem_of_getElem? (i := 883) (by decide +kernel)⟩
theorem lw_p30 : lw_okq (⟨"ToyHouse", "waitingFor", "(LToyHouse$Kind;)I"⟩, 20) := ⟨⟨by decide +kernel, by decide +kernel⟩, List.mem_of_getElem? (i := 29) (by decide +kernel), List.mem_of_getElem? (i := 895) (by decide +kernel), List.mem_of_getElem? (i := 896) (by decide +kernel)⟩
theorem lw_p31 : lw_okq (⟨"ToyHouse$Reckoner", "clauseHolds", "(I)Z"⟩, 5) := ⟨⟨by decide +kernel, by decide +kernel⟩, List.mem_of_getElem? (i := 123) (by decide +kernel), List.mem_of_getElem? (i := 904) (by decide +kernel), List.mem_of_getElem? (i := 905) (by decide +kernel)⟩
def lw_privs_2 : List (MethodName × Nat) := [(⟨"ToyHouse$RuleText", "addStep", "(II)V"⟩, 13), (⟨"ToyHouse$RuleText", "readSign", "(I)Z"⟩, 13), (⟨"ToyHouse$RuleText", "readInBrackets", "(I)Z"⟩, 13), (⟨"ToyHouse$RuleText", "readCondition", "(I)Z"⟩, 13), (⟨"ToyHouse$RuleText", "readPart", "(I)Z"⟩, 13), (⟨"ToyHouse$RuleText", "readPiece", "(I)Z"⟩, 13), (⟨"ToyHouse$RuleText", "readComparison", "(I)Z"⟩, 13), (⟨"ToyHouse$RuleText", "endJump", "(I)V"⟩, 13), (⟨"ToyHouse", "firstWrongNumber", "(LToyHouse$Toy;I)I"⟩, 20), (⟨"ToyHouse", "tapeNumber", "(I)I"⟩, 20), (⟨"ToyHouse", "barrier", "(LToyHouse$Toy;LToyHouse$Family;)I"⟩, 20), (⟨"ToyHouse", "isRecalled", "(LToyHouse$Toy;)Z"⟩, 20), (⟨"ToyHouse", "writeLetters", "(LToyHouse$Kind;LToyHouse$Toy;LToyHouse$Family;I)V"⟩, 20), (⟨"ToyHouse", "toysHeldBy", "(LToyHouse$Family;)I"⟩, 20), (⟨"ToyHouse", "waitingFor", "(LToyHouse$Kind;)I"⟩, 20), (⟨"ToyHouse$Reckoner", "clauseHolds", "(I)Z"⟩, 5)]
theorem lw_r2 : ∀ q ∈ lw_privs_2, lw_okq q := List.forall_mem_cons.mpr ⟨lw_p16, List.forall_mem_cons.mpr ⟨lw_p17, List.forall_mem_cons.mpr ⟨lw_p18, List.forall_mem_cons.mpr ⟨lw_p19, List.forall_mem_cons.mpr ⟨lw_p20, List.forall_mem_cons.mpr ⟨lw_p21, List.forall_mem_cons.mpr ⟨lw_p22, List.forall_mem_cons.mpr ⟨lw_p23, List.forall_mem_cons.mpr ⟨lw_p24, List.forall_mem_cons.mpr ⟨lw_p25, List.forall_mem_cons.mpr ⟨lw_p26, List.forall_mem_cons.mpr ⟨lw_p27, List.forall_mem_cons.mpr ⟨lw_p28, List.forall_mem_cons.mpr ⟨lw_p29, List.forall_mem_cons.mpr ⟨lw_p30, List.forall_mem_cons.mpr ⟨lw_p31, fun _ h => absurd h List.not_mem_nil⟩⟩⟩⟩⟩⟩⟩⟩⟩⟩⟩⟩⟩⟩⟩⟩
theorem lw_p32 : lw_okq (⟨"ToyHouse$Reckoner", "result", "(II)I"⟩, 5) := ⟨⟨by decide +kernel, by decide +kernel⟩, List.mem_of_getElem? (i := 123) (by decide +kernel), List.mem_of_getElem? (i := 909) (by decide +kernel), List.mem_of_getElem? (i := 910) (by decide +kernel)⟩
theorem lw_p33 : lw_okq (⟨"ToyHouse$Reckoner", "pop", "()I"⟩, 5) := ⟨⟨by decide +kernel, by decide +kernel⟩, List.mem_of_getElem? (i := 123) (by decide +kernel), List.mem_of_getElem? (i := 914) (by decide +kernel), List.mem_of_getElem? (i := 915) (by decide +kernel)⟩
theorem lw_p34 : lw_okq (⟨"ToyHouse$Reckoner", "push", "(I)V"⟩, 5) := ⟨⟨by decide +kernel, by decide +kernel⟩, List.mem_of_getElem? (i := 123) (by decide +kernel), List.mem_of_getElem? (i := 918) (by decide +kernel), List.mem_of_getElem? (i := 919) (by decide +kernel)⟩
theorem lw_p35 : lw_okq (⟨"ToyHouse$Reckoner", "take", "(II)V"⟩, 5) := ⟨⟨by decide +kernel, by decide +kernel⟩, List.mem_of_getElem? (i := 123) (by decide +kernel), List.mem_of_getElem? (i := 922) (by decide +kernel), List.mem_of_getElem? (i := 923) (by decide +kernel)⟩
theorem lw_p36 : lw_okq (⟨"ToyHouse$Reckoner", "joined", "(III)I"⟩, 5) := ⟨⟨by decide +kernel, by decide +kernel⟩, List.mem_of_getElem? (i := 123) (by decide +kernel), List.mem_of_getElem? (i := 926) (by decide +kernel), List.mem_of_getElem? (i := 927) (by decide +kernel)⟩
theorem lw_p37 : lw_okq (⟨"ToyHouse", "holderOf", "(LToyHouse$Toy;)LToyHouse$Family;"⟩, 20) := ⟨⟨by decide +kernel, by decide +kernel⟩, List.mem_of_getElem? (i := 29) (by decide +kernel), List.mem_of_getElem? (i := 959) (by decide +kernel), List.mem_of_getElem? (i := 960) (by decide +kernel)⟩
theorem lw_p38 : lw_okq (⟨"ToyHouse", "settle", "(LToyHouse$Toy;LToyHouse$Family;II)I"⟩, 20) := ⟨⟨by decide +kernel, by decide +kernel⟩, List.mem_of_getElem? (i := 29) (by decide +kernel), List.mem_of_getElem? (i := 973) (by decide +kernel), List.mem_of_getElem? (i := 974) (by decide +kernel)⟩
theorem lw_p39 : lw_okq (⟨"ToyHouse", "noteBehindFine", "(II)V"⟩, 20) := ⟨⟨by decide +kernel, by decide +kernel⟩, List.mem_of_getElem? (i := 29) (by decide +kernel), List.mem_of_getElem? (i := 978) (by decide +kernel), List.mem_of_getElem? (i := 979) (by decide +kernel)⟩
theorem lw_p40 : lw_okq (⟨"ToyHouse$Weighing", "tryFrom", "(LToyHouse$Toy;IIII)V"⟩, 11) := ⟨⟨by decide +kernel, by decide +kernel⟩, List.mem_of_getElem? (i := 172) (by decide +kernel), List.mem_of_getElem? (i := 1028) (by decide +kernel), List.mem_of_getElem? (i := 1029) (by decide +kernel)⟩
theorem lw_p41 : lw_okq (⟨"ToyHouse$Weighing", "keepAllFrom", "(III)V"⟩, 11) := ⟨⟨by decide +kernel, by decide +kernel⟩, List.mem_of_getElem? (i := 172) (by decide +kernel), List.mem_of_getElem? (i := 1033) (by decide +kernel), List.mem_of_getElem? (i := 1034) (by decide +kernel)⟩
theorem lw_p42 : lw_okq (⟨"ToyHouse", "couldBeWhole", "(LToyHouse$Kind;)I"⟩, 20) := ⟨⟨by decide +kernel, by decide +kernel⟩, List.mem_of_getElem? (i := 29) (by decide +kernel), List.mem_of_getElem? (i := 1047) (by decide +kernel), List.mem_of_getElem? (i := 1048) (by decide +kernel)⟩
theorem lw_p43 : lw_okq (⟨"ToyHouse", "isForWhole", "(LToyHouse$Toy;LToyHouse$Kind;)Z"⟩, 20) := ⟨⟨by decide +kernel, by decide +kernel⟩, List.mem_of_getElem? (i := 29) (by decide +kernel), List.mem_of_getElem? (i := 1051) (by decide +kernel), List.mem_of_getElem? (i := 1052) (by decide +kernel)⟩
theorem lw_p44 : lw_okq (⟨"ToyHouse", "piecesForWhole", "(LToyHouse$Kind;I)I"⟩, 20) := ⟨⟨by decide +kernel, by decide +kernel⟩, List.mem_of_getElem? (i := 29) (by decide +kernel), List.mem_of_getElem? (i := 1055) (by decide +kernel), List.mem_of_getElem? (i := 1056) (by decide +kernel)⟩
theorem lw_p45 : lw_okq (⟨"ToyHouse", "leastLackingSet", "(LToyHouse$Kind;I)I"⟩, 20) := ⟨⟨by decide +kernel, by decide +kernel⟩, List.mem_of_getElem? (i := 29) (by decide +kernel), List.mem_of_getElem? (i := 1060) (by decide +kernel), List.mem_of_getElem? (i := 1061) (by decide +kernel)⟩
theorem lw_p46 : lw_okq (⟨"ToyHouse", "lackingOfSet", "(I)I"⟩, 20) := ⟨⟨by decide +kernel, by decide +kernel⟩, List.mem_of_getElem? (i := 29) (by decide +kernel), List.mem_of_getElem? (i := 1064) (by decide +kernel), List.mem_of_getElem? (i := 1065) (by decide +kernel)⟩
theorem lw_p47 : lw_okq (⟨"ToyHouse", "isToWash", "(LToyHouse$Toy;)Z"⟩, 20) := ⟨⟨by decide +kernel, by decide +kernel⟩, List.mem_of_getElem? (i := 29) (by decide +kernel), List.mem_of_getElem? (i := 1081) (by decide +kernel), List.mem_of_getElem? (i := 1082) (by decide +kernel)⟩
def lw_privs_3 : List (MethodName × Nat) := [(⟨"ToyHouse$Reckoner", "result", "(II)I"⟩, 5), (⟨"ToyHouse$Reckoner", "pop", "()I"⟩, 5), (⟨"ToyHouse$Reckoner", "push", "(I)V"⟩, 5), (⟨"ToyHouse$Reckoner", "take", "(II)V"⟩, 5), (⟨"ToyHouse$Reckoner", "joined", "(III)I"⟩, 5), (⟨"ToyHouse", "holderOf", "(LToyHouse$Toy;)LToyHouse$Family;"⟩, 20), (⟨"ToyHouse", "settle", "(LToyHouse$Toy;LToyHouse$Family;II)I"⟩, 20), (⟨"ToyHouse", "noteBehindFine", "(II)V"⟩, 20), (⟨"ToyHouse$Weighing", "tryFrom", "(LToyHouse$Toy;IIII)V"⟩, 11), (⟨"ToyHouse$Weighing", "keepAllFrom", "(III)V"⟩, 11), (⟨"ToyHouse", "couldBeWhole", "(LToyHouse$Kind;)I"⟩, 20), (⟨"ToyHouse", "isForWhole", "(LToyHouse$Toy;LToyHouse$Kind;)Z"⟩, 20), (⟨"ToyHouse", "piecesForWhole", "(LToyHouse$Kind;I)I"⟩, 20), (⟨"ToyHouse", "leastLackingSet", "(LToyHouse$Kind;I)I"⟩, 20), (⟨"ToyHouse", "lackingOfSet", "(I)I"⟩, 20), (⟨"ToyHouse", "isToWash", "(LToyHouse$Toy;)Z"⟩, 20)]
theorem lw_r3 : ∀ q ∈ lw_privs_3, lw_okq q := List.forall_mem_cons.mpr ⟨lw_p32, List.forall_mem_cons.mpr ⟨lw_p33, List.forall_mem_cons.mpr ⟨lw_p34, List.forall_mem_cons.mpr ⟨lw_p35, List.forall_mem_cons.mpr ⟨lw_p36, List.forall_mem_cons.mpr ⟨lw_p37, List.forall_mem_cons.mpr ⟨lw_p38, List.forall_mem_cons.mpr ⟨lw_p39, List.forall_mem_cons.mpr ⟨lw_p40, List.forall_mem_cons.mpr ⟨lw_p41, List.forall_mem_cons.mpr ⟨lw_p42, List.forall_mem_cons.mpr ⟨lw_p43, List.forall_mem_cons.mpr ⟨lw_p44, List.forall_mem_cons.mpr ⟨lw_p45, List.forall_mem_cons.mpr ⟨lw_p46, List.forall_mem_cons.mpr ⟨lw_p47, fun _ h => absurd h List.not_mem_nil⟩⟩⟩⟩⟩⟩⟩⟩⟩⟩⟩⟩⟩⟩⟩⟩
theorem lw_p48 : lw_okq (⟨"ToyHouse", "washedAhead", "(LToyHouse$Toy;)I"⟩, 20) := ⟨⟨by decide +kernel, by decide +kernel⟩, List.mem_of_getElem? (i := 29) (by decide +kernel), List.mem_of_getElem? (i := 1085) (by decide +kernel), List.mem_of_getElem? (i := 1086) (by decide +kernel)⟩
theorem lw_p49 : lw_okq (⟨"ToyHouse", "isUnwanted", "(LToyHouse$Toy;I)Z"⟩, 20) := ⟨⟨by decide +kernel, by decide +kernel⟩, List.mem_of_getElem? (i := 29) (by decide +kernel), List.mem_of_getElem? (i := 1093) (by decide +kernel), List.mem_of_getElem? (i := 1094) (by decide +kernel)⟩
theorem lw_p50 : lw_okq (⟨"ToyHouse", "reasonUnwanted", "(LToyHouse$Toy;)I"⟩, 20) := ⟨⟨by decide +kernel, by decide +kernel⟩, List.mem_of_getElem? (i := 29) (by decide +kernel), List.mem_of_getElem? (i := 1101) (by decide +kernel), List.mem_of_getElem? (i := 1102) (by decide +kernel)⟩
theorem lw_p51 : lw_okq (⟨"ToyHouse", "isTooOldForAll", "(LToyHouse$Kind;)Z"⟩, 20) := ⟨⟨by decide +kernel, by decide +kernel⟩, List.mem_of_getElem? (i := 29) (by decide +kernel), List.mem_of_getElem? (i := 1105) (by decide +kernel), List.mem_of_getElem? (i := 1106) (by decide +kernel)⟩
theorem lw_p52 : lw_okq (⟨"ToyHouse", "isBarredForAll", "(LToyHouse$Toy;)Z"⟩, 20) := ⟨⟨by decide +kernel, by decide +kernel⟩, List.mem_of_getElem? (i := 29) (by decide +kernel), List.mem_of_getElem? (i := 1109) (by decide +kernel), List.mem_of_getElem? (i := 1110) (by decide +kernel)⟩
theorem lw_p53 : lw_okq (⟨"ToyHouse", "firstInTurn", "(LToyHouse$Kind;)LToyHouse$Family;"⟩, 20) := ⟨⟨by decide +kernel, by decide +kernel⟩, List.mem_of_getElem? (i := 29) (by decide +kernel), List.mem_of_getElem? (i := 1133) (by decide +kernel), List.mem_of_getElem? (i := 1134) (by decide +kernel)⟩
theorem lw_p54 : lw_okq (⟨"ToyHouse", "turnOf", "(LToyHouse$Family;LToyHouse$Kind;)I"⟩, 20) := ⟨⟨by decide +kernel, by decide +kernel⟩, List.mem_of_getElem? (i := 29) (by decide +kernel), List.mem_of_getElem? (i := 1137) (by decide +kernel), List.mem_of_getElem? (i := 1138) (by decide +kernel)⟩
theorem lw_p55 : lw_okq (⟨"ToyHouse", "usableToys", "(LToyHouse$Kind;)I"⟩, 20) := ⟨⟨by decide +kernel, by decide +kernel⟩, List.mem_of_getElem? (i := 29) (by decide +kernel), List.mem_of_getElem? (i := 1151) (by decide +kernel), List.mem_of_getElem? (i := 1152) (by decide +kernel)⟩
theorem lw_p56 : lw_okq (⟨"ToyHouse$Shopping", "tryFrom", "(III)V"⟩, 10) := ⟨⟨by decide +kernel, by decide +kernel⟩, List.mem_of_getElem? (i := 213) (by decide +kernel), List.mem_of_getElem? (i := 1164) (by decide +kernel), List.mem_of_getElem? (i := 1165) (by decide +kernel)⟩
theorem lw_p57 : lw_okq (⟨"ToyHouse", "takersOf", "(LToyHouse$Toy;I)I"⟩, 20) := ⟨⟨by decide +kernel, by decide +kernel⟩, List.mem_of_getElem? (i := 29) (by decide +kernel), List.mem_of_getElem? (i := 1182) (by decide +kernel), List.mem_of_getElem? (i := 1183) (by decide +kernel)⟩
theorem lw_p58 : lw_okq (⟨"ToyHouse$Pairing", "findFamily", "(II)Z"⟩, 3) := ⟨⟨by decide +kernel, by decide +kernel⟩, List.mem_of_getElem? (i := 290) (by decide +kernel), List.mem_of_getElem? (i := 1196) (by decide +kernel), List.mem_of_getElem? (i := 1197) (by decide +kernel)⟩
theorem lw_p59 : lw_okq (⟨"ToyHouse$Workshop", "tryBelow", "(IIII)V"⟩, 9) := ⟨⟨by decide +kernel, by decide +kernel⟩, List.mem_of_getElem? (i := 253) (by decide +kernel), List.mem_of_getElem? (i := 1226) (by decide +kernel), List.mem_of_getElem? (i := 1227) (by decide +kernel)⟩
theorem lw_p60 : lw_okq (⟨"ToyHouse", "begunInThreeWeeks", "(I)I"⟩, 20) := ⟨⟨by decide +kernel, by decide +kernel⟩, List.mem_of_getElem? (i := 29) (by decide +kernel), List.mem_of_getElem? (i := 1235) (by decide +kernel), List.mem_of_getElem? (i := 1236) (by decide +kernel)⟩
theorem lw_p61 : lw_okq (⟨"ToyHouse", "holdersNow", "(LToyHouse$Recall;)I"⟩, 20) := ⟨⟨by decide +kernel, by decide +kernel⟩, List.mem_of_getElem? (i := 29) (by decide +kernel), List.mem_of_getElem? (i := 1269) (by decide +kernel), List.mem_of_getElem? (i := 1270) (by decide +kernel)⟩
theorem lw_p62 : lw_okq (⟨"ToyHouse", "recallAt", "(I)LToyHouse$Recall;"⟩, 20) := ⟨⟨by decide +kernel, by decide +kernel⟩, List.mem_of_getElem? (i := 29) (by decide +kernel), List.mem_of_getElem? (i := 1277) (by decide +kernel), List.mem_of_getElem? (i := 1278) (by decide +kernel)⟩
theorem lw_p63 : lw_okq (⟨"ToyHouse", "toysOfRecall", "(LToyHouse$Recall;)I"⟩, 20) := ⟨⟨by decide +kernel, by decide +kernel⟩, List.mem_of_getElem? (i := 29) (by decide +kernel), List.mem_of_getElem? (i := 1293) (by decide +kernel), List.mem_of_getElem? (i := 1294) (by decide +kernel)⟩
def lw_privs_4 : List (MethodName × Nat) := [(⟨"ToyHouse", "washedAhead", "(LToyHouse$Toy;)I"⟩, 20), (⟨"ToyHouse", "isUnwanted", "(LToyHouse$Toy;I)Z"⟩, 20), (⟨"ToyHouse", "reasonUnwanted", "(LToyHouse$Toy;)I"⟩, 20), (⟨"ToyHouse", "isTooOldForAll", "(LToyHouse$Kind;)Z"⟩, 20), (⟨"ToyHouse", "isBarredForAll", "(LToyHouse$Toy;)Z"⟩, 20), (⟨"ToyHouse", "firstInTurn", "(LToyHouse$Kind;)LToyHouse$Family;"⟩, 20), (⟨"ToyHouse", "turnOf", "(LToyHouse$Family;LToyHouse$Kind;)I"⟩, 20), (⟨"ToyHouse", "usableToys", "(LToyHouse$Kind;)I"⟩, 20), (⟨"ToyHouse$Shopping", "tryFrom", "(III)V"⟩, 10), (⟨"ToyHouse", "takersOf", "(LToyHouse$Toy;I)I"⟩, 20), (⟨"ToyHouse$Pairing", "findFamily", "(II)Z"⟩, 3), (⟨"ToyHouse$Workshop", "tryBelow", "(IIII)V"⟩, 9), (⟨"ToyHouse", "begunInThreeWeeks", "(I)I"⟩, 20), (⟨"ToyHouse", "holdersNow", "(LToyHouse$Recall;)I"⟩, 20), (⟨"ToyHouse", "recallAt", "(I)LToyHouse$Recall;"⟩, 20), (⟨"ToyHouse", "toysOfRecall", "(LToyHouse$Recall;)I"⟩, 20)]
theorem lw_r4 : ∀ q ∈ lw_privs_4, lw_okq q := List.forall_mem_cons.mpr ⟨lw_p48, List.forall_mem_cons.mpr ⟨lw_p49, List.forall_mem_cons.mpr ⟨lw_p50, List.forall_mem_cons.mpr ⟨lw_p51, List.forall_mem_cons.mpr ⟨lw_p52, List.forall_mem_cons.mpr ⟨lw_p53, List.forall_mem_cons.mpr ⟨lw_p54, List.forall_mem_cons.mpr ⟨lw_p55, List.forall_mem_cons.mpr ⟨lw_p56, List.forall_mem_cons.mpr ⟨lw_p57, List.forall_mem_cons.mpr ⟨lw_p58, List.forall_mem_cons.mpr ⟨lw_p59, List.forall_mem_cons.mpr ⟨lw_p60, List.forall_mem_cons.mpr ⟨lw_p61, List.forall_mem_cons.mpr ⟨lw_p62, List.forall_mem_cons.mpr ⟨lw_p63, fun _ h => absurd h List.not_mem_nil⟩⟩⟩⟩⟩⟩⟩⟩⟩⟩⟩⟩⟩⟩⟩⟩
theorem lw_p64 : lw_okq (⟨"ToyHouse", "countOfOne", "(I)I"⟩, 20) := ⟨⟨by decide +kernel, by decide +kernel⟩, List.mem_of_getElem? (i := 29) (by decide +kernel), List.mem_of_getElem? (i := 1322) (by decide +kernel), List.mem_of_getElem? (i := 1323) (by decide +kernel)⟩
theorem lw_p65 : lw_okq (⟨"ToyHouseModel", "isKind", "(I)Z"⟩, 92) := ⟨⟨by decide +kernel, by decide +kernel⟩, List.mem_of_getElem? (i := 1326) (by decide +kernel), List.mem_of_getElem? (i := 1631) (by decide +kernel), List.mem_of_getElem? (i := 1632) (by decide +kernel)⟩
theorem lw_p66 : lw_okq (⟨"ToyHouseModel", "push", "(I)V"⟩, 92) := ⟨⟨by decide +kernel, by decide +kernel⟩, List.mem_of_getElem? (i := 1326) (by decide +kernel), List.mem_of_getElem? (i := 1664) (by decide +kernel), List.mem_of_getElem? (i := 1665) (by decide +kernel)⟩
theorem lw_p67 : lw_okq (⟨"ToyHouseModel", "isGood", "()Z"⟩, 92) := ⟨⟨by decide +kernel, by decide +kernel⟩, List.mem_of_getElem? (i := 1326) (by decide +kernel), List.mem_of_getElem? (i := 1673) (by decide +kernel), List.mem_of_getElem? (i := 1674) (by decide +kernel)⟩
theorem lw_p68 : lw_okq (⟨"ToyHouseModel", "clause", "()V"⟩, 92) := ⟨⟨by decide +kernel, by decide +kernel⟩, List.mem_of_getElem? (i := 1326) (by decide +kernel), List.mem_of_getElem? (i := 1677) (by decide +kernel), List.mem_of_getElem? (i := 1678) (by decide +kernel)⟩
theorem lw_p69 : lw_okq (⟨"ToyHouseModel", "here", "()I"⟩, 92) := ⟨⟨by decide +kernel, by decide +kernel⟩, List.mem_of_getElem? (i := 1326) (by decide +kernel), List.mem_of_getElem? (i := 1681) (by decide +kernel), List.mem_of_getElem? (i := 1682) (by decide +kernel)⟩
theorem lw_p70 : lw_okq (⟨"ToyHouseModel", "wrongs", "(II)V"⟩, 92) := ⟨⟨by decide +kernel, by decide +kernel⟩, List.mem_of_getElem? (i := 1326) (by decide +kernel), List.mem_of_getElem? (i := 1688) (by decide +kernel), List.mem_of_getElem? (i := 1689) (by decide +kernel)⟩
theorem lw_p71 : lw_okq (⟨"ToyHouseModel", "value", "()V"⟩, 92) := ⟨⟨by decide +kernel, by decide +kernel⟩, List.mem_of_getElem? (i := 1326) (by decide +kernel), List.mem_of_getElem? (i := 1692) (by decide +kernel), List.mem_of_getElem? (i := 1693) (by decide +kernel)⟩
theorem lw_p72 : lw_okq (⟨"ToyHouseModel", "factor", "()V"⟩, 92) := ⟨⟨by decide +kernel, by decide +kernel⟩, List.mem_of_getElem? (i := 1326) (by decide +kernel), List.mem_of_getElem? (i := 1696) (by decide +kernel), List.mem_of_getElem? (i := 1697) (by decide +kernel)⟩
theorem lw_p73 : lw_okq (⟨"ToyHouseModel", "opens", "()V"⟩, 92) := ⟨⟨by decide +kernel, by decide +kernel⟩, List.mem_of_getElem? (i := 1326) (by decide +kernel), List.mem_of_getElem? (i := 1700) (by decide +kernel), List.mem_of_getElem? (i := 1701) (by decide +kernel)⟩
theorem lw_p74 : lw_okq (⟨"ToyHouseModel", "puts", "(I)V"⟩, 92) := ⟨⟨by decide +kernel, by decide +kernel⟩, List.mem_of_getElem? (i := 1326) (by decide +kernel), List.mem_of_getElem? (i := 1704) (by decide +kernel), List.mem_of_getElem? (i := 1705) (by decide +kernel)⟩
theorem lw_p75 : lw_okq (⟨"ToyHouseModel", "seesDigit", "()Z"⟩, 92) := ⟨⟨by decide +kernel, by decide +kernel⟩, List.mem_of_getElem? (i := 1326) (by decide +kernel), List.mem_of_getElem? (i := 1708) (by decide +kernel), List.mem_of_getElem? (i := 1709) (by decide +kernel)⟩
theorem lw_p76 : lw_okq (⟨"ToyHouseModel", "reads", "()I"⟩, 92) := ⟨⟨by decide +kernel, by decide +kernel⟩, List.mem_of_getElem? (i := 1326) (by decide +kernel), List.mem_of_getElem? (i := 1714) (by decide +kernel), List.mem_of_getElem? (i := 1715) (by decide +kernel)⟩
theorem lw_p77 : lw_okq (⟨"ToyHouseModel", "emit", "(II)V"⟩, 92) := ⟨⟨by decide +kernel, by decide +kernel⟩, List.mem_of_getElem? (i := 1326) (by decide +kernel), List.mem_of_getElem? (i := 1718) (by decide +kernel), List.mem_of_getElem? (i := 1719) (by decide +kernel)⟩
theorem lw_p78 : lw_okq (⟨"ToyHouseModel", "stays", "()Z"⟩, 92) := ⟨⟨by decide +kernel, by decide +kernel⟩, List.mem_of_getElem? (i := 1326) (by decide +kernel), List.mem_of_getElem? (i := 1728) (by decide +kernel), List.mem_of_getElem? (i := 1729) (by decide +kernel)⟩
theorem lw_p79 : lw_okq (⟨"ToyHouseModel", "sums", "(Z)V"⟩, 92) := ⟨⟨by decide +kernel, by decide +kernel⟩, List.mem_of_getElem? (i := 1326) (by decide +kernel), List.mem_of_getElem? (i := 1738) (by decide +kernel), List.mem_of_getElem? (i := 1739) (by decide +kernel)⟩
def lw_privs_5 : List (MethodName × Nat) := [(⟨"ToyHouse", "countOfOne", "(I)I"⟩, 20), (⟨"ToyHouseModel", "isKind", "(I)Z"⟩, 92), (⟨"ToyHouseModel", "push", "(I)V"⟩, 92), (⟨"ToyHouseModel", "isGood", "()Z"⟩, 92), (⟨"ToyHouseModel", "clause", "()V"⟩, 92), (⟨"ToyHouseModel", "here", "()I"⟩, 92), (⟨"ToyHouseModel", "wrongs", "(II)V"⟩, 92), (⟨"ToyHouseModel", "value", "()V"⟩, 92), (⟨"ToyHouseModel", "factor", "()V"⟩, 92), (⟨"ToyHouseModel", "opens", "()V"⟩, 92), (⟨"ToyHouseModel", "puts", "(I)V"⟩, 92), (⟨"ToyHouseModel", "seesDigit", "()Z"⟩, 92), (⟨"ToyHouseModel", "reads", "()I"⟩, 92), (⟨"ToyHouseModel", "emit", "(II)V"⟩, 92), (⟨"ToyHouseModel", "stays", "()Z"⟩, 92), (⟨"ToyHouseModel", "sums", "(Z)V"⟩, 92)]
theorem lw_r5 : ∀ q ∈ lw_privs_5, lw_okq q := List.forall_mem_cons.mpr ⟨lw_p64, List.forall_mem_cons.mpr ⟨lw_p65, List.forall_mem_cons.mpr ⟨lw_p66, List.forall_mem_cons.mpr ⟨lw_p67, List.forall_mem_cons.mpr ⟨lw_p68, List.forall_mem_cons.mpr ⟨lw_p69, List.forall_mem_cons.mpr ⟨lw_p70, List.forall_mem_cons.mpr ⟨lw_p71, List.forall_mem_cons.mpr ⟨lw_p72, List.forall_mem_cons.mpr ⟨lw_p73, List.forall_mem_cons.mpr ⟨lw_p74, List.forall_mem_cons.mpr ⟨lw_p75, List.forall_mem_cons.mpr ⟨lw_p76, List.forall_mem_cons.mpr ⟨lw_p77, List.forall_mem_cons.mpr ⟨lw_p78, List.forall_mem_cons.mpr ⟨lw_p79, fun _ h => absurd h List.not_mem_nil⟩⟩⟩⟩⟩⟩⟩⟩⟩⟩⟩⟩⟩⟩⟩⟩
theorem lw_p80 : lw_okq (⟨"ToyHouseModel", "top", "()I"⟩, 92) := ⟨⟨by decide +kernel, by decide +kernel⟩, List.mem_of_getElem? (i := 1326) (by decide +kernel), List.mem_of_getElem? (i := 1742) (by decide +kernel), List.mem_of_getElem? (i := 1743) (by decide +kernel)⟩
theorem lw_p81 : lw_okq (⟨"ToyHouseModel", "condition", "()V"⟩, 92) := ⟨⟨by decide +kernel, by decide +kernel⟩, List.mem_of_getElem? (i := 1326) (by decide +kernel), List.mem_of_getElem? (i := 1746) (by decide +kernel), List.mem_of_getElem? (i := 1747) (by decide +kernel)⟩
theorem lw_p82 : lw_okq (⟨"ToyHouseModel", "pieceOfC", "()V"⟩, 92) := ⟨⟨by decide +kernel, by decide +kernel⟩, List.mem_of_getElem? (i := 1326) (by decide +kernel), List.mem_of_getElem? (i := 1750) (by decide +kernel), List.mem_of_getElem? (i := 1751) (by decide +kernel)⟩
theorem lw_p83 : lw_okq (⟨"ToyHouseModel", "ends", "()V"⟩, 92) := ⟨⟨by decide +kernel, by decide +kernel⟩, List.mem_of_getElem? (i := 1326) (by decide +kernel), List.mem_of_getElem? (i := 1757) (by decide +kernel), List.mem_of_getElem? (i := 1758) (by decide +kernel)⟩
theorem lw_p84 : lw_okq (⟨"ToyHouseModel", "goesBehind", "()Z"⟩, 92) := ⟨⟨by decide +kernel, by decide +kernel⟩, List.mem_of_getElem? (i := 1326) (by decide +kernel), List.mem_of_getElem? (i := 1761) (by decide +kernel), List.mem_of_getElem? (i := 1762) (by decide +kernel)⟩
theorem lw_p85 : lw_okq (⟨"ToyHouseModel", "joins", "(Z)V"⟩, 92) := ⟨⟨by decide +kernel, by decide +kernel⟩, List.mem_of_getElem? (i := 1326) (by decide +kernel), List.mem_of_getElem? (i := 1765) (by decide +kernel), List.mem_of_getElem? (i := 1766) (by decide +kernel)⟩
theorem lw_p86 : lw_okq (⟨"ToyHouseModel", "hadNow", "(I)I"⟩, 92) := ⟨⟨by decide +kernel, by decide +kernel⟩, List.mem_of_getElem? (i := 1326) (by decide +kernel), List.mem_of_getElem? (i := 1773) (by decide +kernel), List.mem_of_getElem? (i := 1774) (by decide +kernel)⟩
theorem lw_p87 : lw_okq (⟨"ToyHouseModel", "isOf", "(II)Z"⟩, 92) := ⟨⟨by decide +kernel, by decide +kernel⟩, List.mem_of_getElem? (i := 1326) (by decide +kernel), List.mem_of_getElem? (i := 1777) (by decide +kernel), List.mem_of_getElem? (i := 1778) (by decide +kernel)⟩
theorem lw_p88 : lw_okq (⟨"ToyHouseModel", "isRecall", "(I)Z"⟩, 92) := ⟨⟨by decide +kernel, by decide +kernel⟩, List.mem_of_getElem? (i := 1326) (by decide +kernel), List.mem_of_getElem? (i := 1785) (by decide +kernel), List.mem_of_getElem? (i := 1786) (by decide +kernel)⟩
theorem lw_p89 : lw_okq (⟨"ToyHouseModel", "isFamily", "(I)Z"⟩, 92) := ⟨⟨by decide +kernel, by decide +kernel⟩, List.mem_of_getElem? (i := 1326) (by decide +kernel), List.mem_of_getElem? (i := 1789) (by decide +kernel), List.mem_of_getElem? (i := 1790) (by decide +kernel)⟩
theorem lw_p90 : lw_okq (⟨"ToyHouseModel", "isToy", "(I)Z"⟩, 92) := ⟨⟨by decide +kernel, by decide +kernel⟩, List.mem_of_getElem? (i := 1326) (by decide +kernel), List.mem_of_getElem? (i := 1805) (by decide +kernel), List.mem_of_getElem? (i := 1806) (by decide +kernel)⟩
theorem lw_p91 : lw_okq (⟨"ToyHouseModel", "notFor", "(II)I"⟩, 92) := ⟨⟨by decide +kernel, by decide +kernel⟩, List.mem_of_getElem? (i := 1326) (by decide +kernel), List.mem_of_getElem? (i := 1816) (by decide +kernel), List.mem_of_getElem? (i := 1817) (by decide +kernel)⟩
theorem lw_p92 : lw_okq (⟨"ToyHouseModel", "isRecalled", "(I)Z"⟩, 92) := ⟨⟨by decide +kernel, by decide +kernel⟩, List.mem_of_getElem? (i := 1326) (by decide +kernel), List.mem_of_getElem? (i := 1820) (by decide +kernel), List.mem_of_getElem? (i := 1821) (by decide +kernel)⟩
theorem lw_p93 : lw_okq (⟨"ToyHouseModel", "isBarred", "(II)Z"⟩, 92) := ⟨⟨by decide +kernel, by decide +kernel⟩, List.mem_of_getElem? (i := 1326) (by decide +kernel), List.mem_of_getElem? (i := 1824) (by decide +kernel), List.mem_of_getElem? (i := 1825) (by decide +kernel)⟩
theorem lw_p94 : lw_okq (⟨"ToyHouseModel", "stands", "(IIII)V"⟩, 92) := ⟨⟨by decide +kernel, by decide +kernel⟩, List.mem_of_getElem? (i := 1326) (by decide +kernel), List.mem_of_getElem? (i := 1828) (by decide +kernel), List.mem_of_getElem? (i := 1829) (by decide +kernel)⟩
theorem lw_p95 : lw_okq (⟨"ToyHouseModel", "all", "(I)Z"⟩, 92) := ⟨⟨by decide +kernel, by decide +kernel⟩, List.mem_of_getElem? (i := 1326) (by decide +kernel), List.mem_of_getElem? (i := 1832) (by decide +kernel), List.mem_of_getElem? (i := 1833) (by decide +kernel)⟩
def lw_privs_6 : List (MethodName × Nat) := [(⟨"ToyHouseModel", "top", "()I"⟩, 92), (⟨"ToyHouseModel", "condition", "()V"⟩, 92), (⟨"ToyHouseModel", "pieceOfC", "()V"⟩, 92), (⟨"ToyHouseModel", "ends", "()V"⟩, 92), (⟨"ToyHouseModel", "goesBehind", "()Z"⟩, 92), (⟨"ToyHouseModel", "joins", "(Z)V"⟩, 92), (⟨"ToyHouseModel", "hadNow", "(I)I"⟩, 92), (⟨"ToyHouseModel", "isOf", "(II)Z"⟩, 92), (⟨"ToyHouseModel", "isRecall", "(I)Z"⟩, 92), (⟨"ToyHouseModel", "isFamily", "(I)Z"⟩, 92), (⟨"ToyHouseModel", "isToy", "(I)Z"⟩, 92), (⟨"ToyHouseModel", "notFor", "(II)I"⟩, 92), (⟨"ToyHouseModel", "isRecalled", "(I)Z"⟩, 92), (⟨"ToyHouseModel", "isBarred", "(II)Z"⟩, 92), (⟨"ToyHouseModel", "stands", "(IIII)V"⟩, 92), (⟨"ToyHouseModel", "all", "(I)Z"⟩, 92)]
theorem lw_r6 : ∀ q ∈ lw_privs_6, lw_okq q := List.forall_mem_cons.mpr ⟨lw_p80, List.forall_mem_cons.mpr ⟨lw_p81, List.forall_mem_cons.mpr ⟨lw_p82, List.forall_mem_cons.mpr ⟨lw_p83, List.forall_mem_cons.mpr ⟨lw_p84, List.forall_mem_cons.mpr ⟨lw_p85, List.forall_mem_cons.mpr ⟨lw_p86, List.forall_mem_cons.mpr ⟨lw_p87, List.forall_mem_cons.mpr ⟨lw_p88, List.forall_mem_cons.mpr ⟨lw_p89, List.forall_mem_cons.mpr ⟨lw_p90, List.forall_mem_cons.mpr ⟨lw_p91, List.forall_mem_cons.mpr ⟨lw_p92, List.forall_mem_cons.mpr ⟨lw_p93, List.forall_mem_cons.mpr ⟨lw_p94, List.forall_mem_cons.mpr ⟨lw_p95, fun _ h => absurd h List.not_mem_nil⟩⟩⟩⟩⟩⟩⟩⟩⟩⟩⟩⟩⟩⟩⟩⟩
theorem lw_p96 : lw_okq (⟨"ToyHouseModel", "holds", "(I)Z"⟩, 92) := ⟨⟨by decide +kernel, by decide +kernel⟩, List.mem_of_getElem? (i := 1326) (by decide +kernel), List.mem_of_getElem? (i := 1836) (by decide +kernel), List.mem_of_getElem? (i := 1837) (by decide +kernel)⟩
theorem lw_p97 : lw_okq (⟨"ToyHouseModel", "works", "(II)V"⟩, 92) := ⟨⟨by decide +kernel, by decide +kernel⟩, List.mem_of_getElem? (i := 1326) (by decide +kernel), List.mem_of_getElem? (i := 1840) (by decide +kernel), List.mem_of_getElem? (i := 1841) (by decide +kernel)⟩
theorem lw_p98 : lw_okq (⟨"ToyHouseModel", "does", "(II)V"⟩, 92) := ⟨⟨by decide +kernel, by decide +kernel⟩, List.mem_of_getElem? (i := 1326) (by decide +kernel), List.mem_of_getElem? (i := 1844) (by decide +kernel), List.mem_of_getElem? (i := 1845) (by decide +kernel)⟩
theorem lw_p99 : lw_okq (⟨"ToyHouseModel", "valueOf", "(I)I"⟩, 92) := ⟨⟨by decide +kernel, by decide +kernel⟩, List.mem_of_getElem? (i := 1326) (by decide +kernel), List.mem_of_getElem? (i := 1851) (by decide +kernel), List.mem_of_getElem? (i := 1852) (by decide +kernel)⟩
theorem lw_p100 : lw_okq (⟨"ToyHouseModel", "valueOfToy", "(I)I"⟩, 92) := ⟨⟨by decide +kernel, by decide +kernel⟩, List.mem_of_getElem? (i := 1326) (by decide +kernel), List.mem_of_getElem? (i := 1855) (by decide +kernel), List.mem_of_getElem? (i := 1856) (by decide +kernel)⟩
theorem lw_p101 : lw_okq (⟨"ToyHouseModel", "lackingOf", "(I)I"⟩, 92) := ⟨⟨by decide +kernel, by decide +kernel⟩, List.mem_of_getElem? (i := 1326) (by decide +kernel), List.mem_of_getElem? (i := 1859) (by decide +kernel), List.mem_of_getElem? (i := 1860) (by decide +kernel)⟩
theorem lw_p102 : lw_okq (⟨"ToyHouseModel", "hasToys", "(I)I"⟩, 92) := ⟨⟨by decide +kernel, by decide +kernel⟩, List.mem_of_getElem? (i := 1326) (by decide +kernel), List.mem_of_getElem? (i := 1863) (by decide +kernel), List.mem_of_getElem? (i := 1864) (by decide +kernel)⟩
theorem lw_p103 : lw_okq (⟨"ToyHouseModel", "waitingFor", "(I)I"⟩, 92) := ⟨⟨by decide +kernel, by decide +kernel⟩, List.mem_of_getElem? (i := 1326) (by decide +kernel), List.mem_of_getElem? (i := 1867) (by decide +kernel), List.mem_of_getElem? (i := 1868) (by decide +kernel)⟩
theorem lw_p104 : lw_okq (⟨"ToyHouseModel", "some", "(I)Z"⟩, 92) := ⟨⟨by decide +kernel, by decide +kernel⟩, List.mem_of_getElem? (i := 1326) (by decide +kernel), List.mem_of_getElem? (i := 1871) (by decide +kernel), List.mem_of_getElem? (i := 1872) (by decide +kernel)⟩
theorem lw_p105 : lw_okq (⟨"ToyHouseModel", "tells", "(IIII)I"⟩, 92) := ⟨⟨by decide +kernel, by decide +kernel⟩, List.mem_of_getElem? (i := 1326) (by decide +kernel), List.mem_of_getElem? (i := 1879) (by decide +kernel), List.mem_of_getElem? (i := 1880) (by decide +kernel)⟩
theorem lw_p106 : lw_okq (⟨"ToyHouseModel", "writes", "(II)V"⟩, 92) := ⟨⟨by decide +kernel, by decide +kernel⟩, List.mem_of_getElem? (i := 1326) (by decide +kernel), List.mem_of_getElem? (i := 1883) (by decide +kernel), List.mem_of_getElem? (i := 1884) (by decide +kernel)⟩
theorem lw_p107 : lw_okq (⟨"ToyHouseModel", "comes", "(II)V"⟩, 92) := ⟨⟨by decide +kernel, by decide +kernel⟩, List.mem_of_getElem? (i := 1326) (by decide +kernel), List.mem_of_getElem? (i := 1892) (by decide +kernel), List.mem_of_getElem? (i := 1893) (by decide +kernel)⟩
theorem lw_p108 : lw_okq (⟨"ToyHouseModel", "bagOf", "(I)I"⟩, 92) := ⟨⟨by decide +kernel, by decide +kernel⟩, List.mem_of_getElem? (i := 1326) (by decide +kernel), List.mem_of_getElem? (i := 1908) (by decide +kernel), List.mem_of_getElem? (i := 1909) (by decide +kernel)⟩
theorem lw_p109 : lw_okq (⟨"ToyHouseModel", "weighs", "(III)V"⟩, 92) := ⟨⟨by decide +kernel, by decide +kernel⟩, List.mem_of_getElem? (i := 1326) (by decide +kernel), List.mem_of_getElem? (i := 1917) (by decide +kernel), List.mem_of_getElem? (i := 1918) (by decide +kernel)⟩
theorem lw_p110 : lw_okq (⟨"ToyHouseModel", "goesOn", "(I)Z"⟩, 92) := ⟨⟨by decide +kernel, by decide +kernel⟩, List.mem_of_getElem? (i := 1326) (by decide +kernel), List.mem_of_getElem? (i := 1921) (by decide +kernel), List.mem_of_getElem? (i := 1922) (by decide +kernel)⟩
theorem lw_p111 : lw_okq (⟨"ToyHouseModel", "wholeOf", "(I)I"⟩, 92) := ⟨⟨by decide +kernel, by decide +kernel⟩, List.mem_of_getElem? (i := 1326) (by decide +kernel), List.mem_of_getElem? (i := 1930) (by decide +kernel), List.mem_of_getElem? (i := 1931) (by decide +kernel)⟩
def lw_privs_7 : List (MethodName × Nat) := [(⟨"ToyHouseModel", "holds", "(I)Z"⟩, 92), (⟨"ToyHouseModel", "works", "(II)V"⟩, 92), (⟨"ToyHouseModel", "does", "(II)V"⟩, 92), (⟨"ToyHouseModel", "valueOf", "(I)I"⟩, 92), (⟨"ToyHouseModel", "valueOfToy", "(I)I"⟩, 92), (⟨"ToyHouseModel", "lackingOf", "(I)I"⟩, 92), (⟨"ToyHouseModel", "hasToys", "(I)I"⟩, 92), (⟨"ToyHouseModel", "waitingFor", "(I)I"⟩, 92), (⟨"ToyHouseModel", "some", "(I)Z"⟩, 92), (⟨"ToyHouseModel", "tells", "(IIII)I"⟩, 92), (⟨"ToyHouseModel", "writes", "(II)V"⟩, 92), (⟨"ToyHouseModel", "comes", "(II)V"⟩, 92), (⟨"ToyHouseModel", "bagOf", "(I)I"⟩, 92), (⟨"ToyHouseModel", "weighs", "(III)V"⟩, 92), (⟨"ToyHouseModel", "goesOn", "(I)Z"⟩, 92), (⟨"ToyHouseModel", "wholeOf", "(I)I"⟩, 92)]
theorem lw_r7 : ∀ q ∈ lw_privs_7, lw_okq q := List.forall_mem_cons.mpr ⟨lw_p96, List.forall_mem_cons.mpr ⟨lw_p97, List.forall_mem_cons.mpr ⟨lw_p98, List.forall_mem_cons.mpr ⟨lw_p99, List.forall_mem_cons.mpr ⟨lw_p100, List.forall_mem_cons.mpr ⟨lw_p101, List.forall_mem_cons.mpr ⟨lw_p102, List.forall_mem_cons.mpr ⟨lw_p103, List.forall_mem_cons.mpr ⟨lw_p104, List.forall_mem_cons.mpr ⟨lw_p105, List.forall_mem_cons.mpr ⟨lw_p106, List.forall_mem_cons.mpr ⟨lw_p107, List.forall_mem_cons.mpr ⟨lw_p108, List.forall_mem_cons.mpr ⟨lw_p109, List.forall_mem_cons.mpr ⟨lw_p110, List.forall_mem_cons.mpr ⟨lw_p111, fun _ h => absurd h List.not_mem_nil⟩⟩⟩⟩⟩⟩⟩⟩⟩⟩⟩⟩⟩⟩⟩⟩
theorem lw_p112 : lw_okq (⟨"ToyHouseModel", "isSpare", "(II)Z"⟩, 92) := ⟨⟨by decide +kernel, by decide +kernel⟩, List.mem_of_getElem? (i := 1326) (by decide +kernel), List.mem_of_getElem? (i := 1934) (by decide +kernel), List.mem_of_getElem? (i := 1935) (by decide +kernel)⟩
theorem lw_p113 : lw_okq (⟨"ToyHouseModel", "turnOf", "(II)I"⟩, 92) := ⟨⟨by decide +kernel, by decide +kernel⟩, List.mem_of_getElem? (i := 1326) (by decide +kernel), List.mem_of_getElem? (i := 1951) (by decide +kernel), List.mem_of_getElem? (i := 1952) (by decide +kernel)⟩
theorem lw_p114 : lw_okq (⟨"ToyHouseModel", "servedOf", "(III)I"⟩, 92) := ⟨⟨by decide +kernel, by decide +kernel⟩, List.mem_of_getElem? (i := 1326) (by decide +kernel), List.mem_of_getElem? (i := 1961) (by decide +kernel), List.mem_of_getElem? (i := 1962) (by decide +kernel)⟩
theorem lw_p115 : lw_okq (⟨"ToyHouseModel", "thereOf", "(I)I"⟩, 92) := ⟨⟨by decide +kernel, by decide +kernel⟩, List.mem_of_getElem? (i := 1326) (by decide +kernel), List.mem_of_getElem? (i := 1965) (by decide +kernel), List.mem_of_getElem? (i := 1966) (by decide +kernel)⟩
theorem lw_p116 : lw_okq (⟨"ToyHouseModel", "pairsOf", "(II)I"⟩, 92) := ⟨⟨by decide +kernel, by decide +kernel⟩, List.mem_of_getElem? (i := 1326) (by decide +kernel), List.mem_of_getElem? (i := 1976) (by decide +kernel), List.mem_of_getElem? (i := 1977) (by decide +kernel)⟩
theorem lw_p117 : lw_okq (⟨"ToyHouseModel", "canMend", "(I)Z"⟩, 92) := ⟨⟨by decide +kernel, by decide +kernel⟩, List.mem_of_getElem? (i := 1326) (by decide +kernel), List.mem_of_getElem? (i := 1990) (by decide +kernel), List.mem_of_getElem? (i := 1991) (by decide +kernel)⟩
theorem lw_p118 : lw_okq (⟨"ToyHouseModel", "mendTime", "(I)I"⟩, 92) := ⟨⟨by decide +kernel, by decide +kernel⟩, List.mem_of_getElem? (i := 1326) (by decide +kernel), List.mem_of_getElem? (i := 1994) (by decide +kernel), List.mem_of_getElem? (i := 1995) (by decide +kernel)⟩
theorem lw_p119 : lw_okq (⟨"ToyHouseModel", "isToWash", "(I)Z"⟩, 92) := ⟨⟨by decide +kernel, by decide +kernel⟩, List.mem_of_getElem? (i := 1326) (by decide +kernel), List.mem_of_getElem? (i := 2006) (by decide +kernel), List.mem_of_getElem? (i := 2007) (by decide +kernel)⟩
theorem lw_p120 : lw_okq (⟨"ToyHouseModel", "whyOf", "(II)I"⟩, 92) := ⟨⟨by decide +kernel, by decide +kernel⟩, List.mem_of_getElem? (i := 1326) (by decide +kernel), List.mem_of_getElem? (i := 2031) (by decide +kernel), List.mem_of_getElem? (i := 2032) (by decide +kernel)⟩
theorem lw_p121 : lw_okq (⟨"ToyHouseModel", "isTooOld", "(I)Z"⟩, 92) := ⟨⟨by decide +kernel, by decide +kernel⟩, List.mem_of_getElem? (i := 1326) (by decide +kernel), List.mem_of_getElem? (i := 2035) (by decide +kernel), List.mem_of_getElem? (i := 2036) (by decide +kernel)⟩
theorem lw_p122 : lw_okq (⟨"ToyHouseModel", "isBarredForAll", "(I)Z"⟩, 92) := ⟨⟨by decide +kernel, by decide +kernel⟩, List.mem_of_getElem? (i := 1326) (by decide +kernel), List.mem_of_getElem? (i := 2039) (by decide +kernel), List.mem_of_getElem? (i := 2040) (by decide +kernel)⟩
theorem lw_p123 : lw_okq (⟨"ToyHouseModel", "numberAt", "(I)I"⟩, 92) := ⟨⟨by decide +kernel, by decide +kernel⟩, List.mem_of_getElem? (i := 1326) (by decide +kernel), List.mem_of_getElem? (i := 2059) (by decide +kernel), List.mem_of_getElem? (i := 2060) (by decide +kernel)⟩
def lw_privs_8 : List (MethodName × Nat) := [(⟨"ToyHouseModel", "isSpare", "(II)Z"⟩, 92), (⟨"ToyHouseModel", "turnOf", "(II)I"⟩, 92), (⟨"ToyHouseModel", "servedOf", "(III)I"⟩, 92), (⟨"ToyHouseModel", "thereOf", "(I)I"⟩, 92), (⟨"ToyHouseModel", "pairsOf", "(II)I"⟩, 92), (⟨"ToyHouseModel", "canMend", "(I)Z"⟩, 92), (⟨"ToyHouseModel", "mendTime", "(I)I"⟩, 92), (⟨"ToyHouseModel", "isToWash", "(I)Z"⟩, 92), (⟨"ToyHouseModel", "whyOf", "(II)I"⟩, 92), (⟨"ToyHouseModel", "isTooOld", "(I)Z"⟩, 92), (⟨"ToyHouseModel", "isBarredForAll", "(I)Z"⟩, 92), (⟨"ToyHouseModel", "numberAt", "(I)I"⟩, 92)]
theorem lw_r8 : ∀ q ∈ lw_privs_8, lw_okq q := List.forall_mem_cons.mpr ⟨lw_p112, List.forall_mem_cons.mpr ⟨lw_p113, List.forall_mem_cons.mpr ⟨lw_p114, List.forall_mem_cons.mpr ⟨lw_p115, List.forall_mem_cons.mpr ⟨lw_p116, List.forall_mem_cons.mpr ⟨lw_p117, List.forall_mem_cons.mpr ⟨lw_p118, List.forall_mem_cons.mpr ⟨lw_p119, List.forall_mem_cons.mpr ⟨lw_p120, List.forall_mem_cons.mpr ⟨lw_p121, List.forall_mem_cons.mpr ⟨lw_p122, List.forall_mem_cons.mpr ⟨lw_p123, fun _ h => absurd h List.not_mem_nil⟩⟩⟩⟩⟩⟩⟩⟩⟩⟩⟩⟩
def lw_privs : List (MethodName × Nat) := lw_privs_1 ++ (lw_privs_2 ++ (lw_privs_3 ++ (lw_privs_4 ++ (lw_privs_5 ++ (lw_privs_6 ++ (lw_privs_7 ++ (lw_privs_8)))))))
def lw_tbl : List Cond := k2_sels lw_privs ++ tables_1
theorem lw_privs_ok : ∀ q ∈ lw_privs, lw_okq q := by
  show ∀ q ∈ lw_privs_1 ++ (lw_privs_2 ++ (lw_privs_3 ++ (lw_privs_4 ++ (lw_privs_5 ++ (lw_privs_6 ++ (lw_privs_7 ++ (lw_privs_8))))))), lw_okq q
  exact List.forall_mem_append.mpr ⟨lw_r1, List.forall_mem_append.mpr ⟨lw_r2, List.forall_mem_append.mpr ⟨lw_r3, List.forall_mem_append.mpr ⟨lw_r4, List.forall_mem_append.mpr ⟨lw_r5, List.forall_mem_append.mpr ⟨lw_r6, List.forall_mem_append.mpr ⟨lw_r7, lw_r8⟩⟩⟩⟩⟩⟩⟩
/-! ===== BEGIN printed: names, fields, word lists, decode rows ===== -/
def RX0 : String := "ToyHouse$Diary"
def TX0 : u_T := fun k => match k with
  | 0 => ("ToyHouse$Diary", "toyOf", "[I", true)
  | 1 => ("ToyHouse$Diary", "dayOf", "[I", true)
  | 2 => ("ToyHouse$Diary", "knownFrom", "[I", true)
  | 3 => ("ToyHouse$Diary", "placeAfter", "[I", true)
  | 4 => ("ToyHouse$Diary", "acts", "I", false)
  | _ => ("ToyHouse$Diary", "lendings", "I", false)
def tyX0 : Nat → FieldType := fun k => match k with
  | 0 => .array .int
  | 1 => .array .int
  | 2 => .array .int
  | 3 => .array .int
  | 4 => .int
  | _ => .int
abbrev wsX00 : List Cond := u_ws RX0 TX0 6
theorem nmX0 : ∀ a, a < 6 → ∀ b, b < 6 → a ≠ b → (TX0 a).2.1 ≠ (TX0 b).2.1 := by decide +kernel
theorem tyX0_ok : ∀ k, k < 6 → parseFieldDescriptor (TX0 k).2.2.1 = some (tyX0 k) := by decide +kernel
abbrev cX0_init : ByteArray := prog_2_method_1_code
def yX0_init : MethodName := ⟨RX0, "<init>", "()V"⟩
abbrev cX0_write : ByteArray := prog_2_method_2_code
def yX0_write : MethodName := ⟨RX0, "write", "(IIII)V"⟩
abbrev cX0_placeOf : ByteArray := prog_2_method_3_code
def yX0_placeOf : MethodName := ⟨RX0, "placeOf", "(III)I"⟩
def RX1 : String := "ToyHouse$Family"
def TX1 : u_T := fun k => match k with
  | 0 => ("ToyHouse$Family", "number", "I", true)
  | 1 => ("ToyHouse$Family", "youngest", "I", true)
  | 2 => ("ToyHouse$Family", "need", "I", true)
  | 3 => ("ToyHouse$Family", "village", "I", true)
  | 4 => ("ToyHouse$Family", "waitsSince", "[I", true)
  | 5 => ("ToyHouse$Family", "owed", "I", false)
  | _ => ("ToyHouse$Family", "lastFine", "I", false)
def tyX1 : Nat → FieldType := fun k => match k with
  | 0 => .int
  | 1 => .int
  | 2 => .int
  | 3 => .int
  | 4 => .array .int
  | 5 => .int
  | _ => .int
abbrev wsX10 : List Cond := u_ws RX1 TX1 7
theorem nmX1 : ∀ a, a < 7 → ∀ b, b < 7 → a ≠ b → (TX1 a).2.1 ≠ (TX1 b).2.1 := by decide +kernel
theorem tyX1_ok : ∀ k, k < 7 → parseFieldDescriptor (TX1 k).2.2.1 = some (tyX1 k) := by decide +kernel
abbrev cX1_init : ByteArray := prog_3_method_1_code
def yX1_init : MethodName := ⟨RX1, "<init>", "(IIII)V"⟩
abbrev cX1_isWaiting : ByteArray := prog_3_method_2_code
def yX1_isWaiting : MethodName := ⟨RX1, "isWaiting", "(I)Z"⟩
abbrev cX1_daysWaited : ByteArray := prog_3_method_3_code
def yX1_daysWaited : MethodName := ⟨RX1, "daysWaited", "(II)I"⟩
abbrev cX1_startWaiting : ByteArray := prog_3_method_4_code
def yX1_startWaiting : MethodName := ⟨RX1, "startWaiting", "(II)V"⟩
abbrev cX1_stopWaiting : ByteArray := prog_3_method_5_code
def yX1_stopWaiting : MethodName := ⟨RX1, "stopWaiting", "(I)V"⟩
def RX2 : String := "ToyHouse$Kind"
def TX2 : u_T := fun k => match k with
  | 0 => ("ToyHouse$Kind", "number", "I", true)
  | 1 => ("ToyHouse$Kind", "age", "I", true)
  | 2 => ("ToyHouse$Kind", "price", "I", true)
  | 3 => ("ToyHouse$Kind", "noise", "I", true)
  | 4 => ("ToyHouse$Kind", "maker", "I", true)
  | 5 => ("ToyHouse$Kind", "bears", "I", true)
  | 6 => ("ToyHouse$Kind", "many", "[I", true)
  | _ => ("ToyHouse$Kind", "weight", "[I", true)
def tyX2 : Nat → FieldType := fun k => match k with
  | 0 => .int
  | 1 => .int
  | 2 => .int
  | 3 => .int
  | 4 => .int
  | 5 => .int
  | 6 => .array .int
  | _ => .array .int
abbrev wsX20 : List Cond := u_ws RX2 TX2 8
theorem nmX2 : ∀ a, a < 8 → ∀ b, b < 8 → a ≠ b → (TX2 a).2.1 ≠ (TX2 b).2.1 := by decide +kernel
theorem tyX2_ok : ∀ k, k < 8 → parseFieldDescriptor (TX2 k).2.2.1 = some (tyX2 k) := by decide +kernel
abbrev cX2_init : ByteArray := prog_4_method_1_code
def yX2_init : MethodName := ⟨RX2, "<init>", "(IIIIII)V"⟩
def RX3 : String := "ToyHouse$Pairing"
def TX3 : u_T := fun k => match k with
  | 0 => ("ToyHouse$Pairing", "allowed", "[I", true)
  | 1 => ("ToyHouse$Pairing", "toyOf", "[I", true)
  | _ => ("ToyHouse$Pairing", "seen", "I", false)
def tyX3 : Nat → FieldType := fun k => match k with
  | 0 => .array .int
  | 1 => .array .int
  | _ => .int
abbrev wsX30 : List Cond := u_ws RX3 TX3 3
theorem nmX3 : ∀ a, a < 3 → ∀ b, b < 3 → a ≠ b → (TX3 a).2.1 ≠ (TX3 b).2.1 := by decide +kernel
theorem tyX3_ok : ∀ k, k < 3 → parseFieldDescriptor (TX3 k).2.2.1 = some (tyX3 k) := by decide +kernel
abbrev cX3_init : ByteArray := prog_5_method_1_code
def yX3_init : MethodName := ⟨RX3, "<init>", "()V"⟩
abbrev cX3_allow : ByteArray := prog_5_method_2_code
def yX3_allow : MethodName := ⟨RX3, "allow", "(II)V"⟩
abbrev cX3_leastSet : ByteArray := prog_5_method_3_code
def yX3_leastSet : MethodName := ⟨RX3, "leastSet", "(II)I"⟩
abbrev cX3_findFamily : ByteArray := prog_5_method_4_code
def yX3_findFamily : MethodName := ⟨RX3, "findFamily", "(II)Z"⟩
def RX4 : String := "ToyHouse$Recall"
def TX4 : u_T := fun k => match k with
  | 0 => ("ToyHouse$Recall", "maker", "I", true)
  | 1 => ("ToyHouse$Recall", "from", "I", true)
  | 2 => ("ToyHouse$Recall", "to", "I", true)
  | 3 => ("ToyHouse$Recall", "day", "I", true)
  | 4 => ("ToyHouse$Recall", "toldOn", "[I", true)
  | _ => ("ToyHouse$Recall", "holdersThen", "I", false)
def tyX4 : Nat → FieldType := fun k => match k with
  | 0 => .int
  | 1 => .int
  | 2 => .int
  | 3 => .int
  | 4 => .array .int
  | _ => .int
abbrev wsX40 : List Cond := u_ws RX4 TX4 6
theorem nmX4 : ∀ a, a < 6 → ∀ b, b < 6 → a ≠ b → (TX4 a).2.1 ≠ (TX4 b).2.1 := by decide +kernel
theorem tyX4_ok : ∀ k, k < 6 → parseFieldDescriptor (TX4 k).2.2.1 = some (tyX4 k) := by decide +kernel
abbrev cX4_init : ByteArray := prog_6_method_1_code
def yX4_init : MethodName := ⟨RX4, "<init>", "(IIII)V"⟩
abbrev cX4_covers : ByteArray := prog_6_method_2_code
def yX4_covers : MethodName := ⟨RX4, "covers", "(LToyHouse$Toy;)Z"⟩
abbrev cX4_wasTold : ByteArray := prog_6_method_3_code
def yX4_wasTold : MethodName := ⟨RX4, "wasTold", "(I)Z"⟩
abbrev cX4_tell : ByteArray := prog_6_method_4_code
def yX4_tell : MethodName := ⟨RX4, "tell", "(II)V"⟩
abbrev cX4_toldSet : ByteArray := prog_6_method_5_code
def yX4_toldSet : MethodName := ⟨RX4, "toldSet", "()I"⟩
abbrev cX4_toldInTime : ByteArray := prog_6_method_6_code
def yX4_toldInTime : MethodName := ⟨RX4, "toldInTime", "()I"⟩
def RX5 : String := "ToyHouse$Reckoner"
def TX5 : u_T := fun k => match k with
  | 0 => ("ToyHouse$Reckoner", "letters", "[I", true)
  | 1 => ("ToyHouse$Reckoner", "stack", "[I", true)
  | 2 => ("ToyHouse$Reckoner", "text", "LToyHouse$RuleText;", false)
  | 3 => ("ToyHouse$Reckoner", "top", "I", false)
  | _ => ("ToyHouse$Reckoner", "refused", "Z", false)
def tyX5 : Nat → FieldType := fun k => match k with
  | 0 => .array .int
  | 1 => .array .int
  | 2 => .object "ToyHouse$RuleText"
  | 3 => .int
  | _ => .boolean
abbrev wsX50 : List Cond := u_ws RX5 TX5 5
theorem nmX5 : ∀ a, a < 5 → ∀ b, b < 5 → a ≠ b → (TX5 a).2.1 ≠ (TX5 b).2.1 := by decide +kernel
theorem tyX5_ok : ∀ k, k < 5 → parseFieldDescriptor (TX5 k).2.2.1 = some (tyX5 k) := by decide +kernel
abbrev cX5_init : ByteArray := prog_7_method_1_code
def yX5_init : MethodName := ⟨RX5, "<init>", "(LToyHouse$RuleText;)V"⟩
abbrev cX5_setLetter : ByteArray := prog_7_method_2_code
def yX5_setLetter : MethodName := ⟨RX5, "setLetter", "(CI)V"⟩
abbrev cX5_firstValue : ByteArray := prog_7_method_3_code
def yX5_firstValue : MethodName := ⟨RX5, "firstValue", "(CIII)I"⟩
abbrev cX5_someHolds : ByteArray := prog_7_method_4_code
def yX5_someHolds : MethodName := ⟨RX5, "someHolds", "(C)Z"⟩
abbrev cX5_allHold : ByteArray := prog_7_method_5_code
def yX5_allHold : MethodName := ⟨RX5, "allHold", "(C)Z"⟩
abbrev cX5_clauseHolds : ByteArray := prog_7_method_6_code
def yX5_clauseHolds : MethodName := ⟨RX5, "clauseHolds", "(I)Z"⟩
abbrev cX5_result : ByteArray := prog_7_method_7_code
def yX5_result : MethodName := ⟨RX5, "result", "(II)I"⟩
abbrev cX5_take : ByteArray := prog_7_method_8_code
def yX5_take : MethodName := ⟨RX5, "take", "(II)V"⟩
abbrev cX5_joined : ByteArray := prog_7_method_9_code
def yX5_joined : MethodName := ⟨RX5, "joined", "(III)I"⟩
abbrev cX5_push : ByteArray := prog_7_method_10_code
def yX5_push : MethodName := ⟨RX5, "push", "(I)V"⟩
abbrev cX5_pop : ByteArray := prog_7_method_11_code
def yX5_pop : MethodName := ⟨RX5, "pop", "()I"⟩
def RX6 : String := "ToyHouse$RuleText"
def TX6 : u_T := fun k => match k with
  | 0 => ("ToyHouse$RuleText", "steps", "[I", true)
  | 1 => ("ToyHouse$RuleText", "operands", "[I", true)
  | 2 => ("ToyHouse$RuleText", "letterOf", "[I", true)
  | 3 => ("ToyHouse$RuleText", "valueFrom", "[I", true)
  | 4 => ("ToyHouse$RuleText", "conditionFrom", "[I", true)
  | 5 => ("ToyHouse$RuleText", "conditionTo", "[I", true)
  | 6 => ("ToyHouse$RuleText", "signs", "[I", false)
  | 7 => ("ToyHouse$RuleText", "length", "I", false)
  | 8 => ("ToyHouse$RuleText", "at", "I", false)
  | 9 => ("ToyHouse$RuleText", "stepCount", "I", false)
  | 10 => ("ToyHouse$RuleText", "clauses", "I", false)
  | 11 => ("ToyHouse$RuleText", "fault", "I", false)
  | _ => ("ToyHouse$RuleText", "place", "I", false)
def tyX6 : Nat → FieldType := fun k => match k with
  | 0 => .array .int
  | 1 => .array .int
  | 2 => .array .int
  | 3 => .array .int
  | 4 => .array .int
  | 5 => .array .int
  | 6 => .array .int
  | 7 => .int
  | 8 => .int
  | 9 => .int
  | 10 => .int
  | 11 => .int
  | _ => .int
abbrev wsX60 : List Cond := u_ws RX6 TX6 13
theorem nmX6 : ∀ a, a < 13 → ∀ b, b < 13 → a ≠ b → (TX6 a).2.1 ≠ (TX6 b).2.1 := by decide +kernel
theorem tyX6_ok : ∀ k, k < 13 → parseFieldDescriptor (TX6 k).2.2.1 = some (tyX6 k) := by decide +kernel
abbrev cX6_init : ByteArray := prog_8_method_1_code
def yX6_init : MethodName := ⟨RX6, "<init>", "()V"⟩
abbrev cX6_read : ByteArray := prog_8_method_2_code
def yX6_read : MethodName := ⟨RX6, "read", "([II)Z"⟩
abbrev cX6_here : ByteArray := prog_8_method_3_code
def yX6_here : MethodName := ⟨RX6, "here", "()I"⟩
abbrev cX6_failed : ByteArray := prog_8_method_4_code
def yX6_failed : MethodName := ⟨RX6, "failed", "(I)Z"⟩
abbrev cX6_readSign : ByteArray := prog_8_method_5_code
def yX6_readSign : MethodName := ⟨RX6, "readSign", "(I)Z"⟩
abbrev cX6_addStep : ByteArray := prog_8_method_6_code
def yX6_addStep : MethodName := ⟨RX6, "addStep", "(II)V"⟩
abbrev cX6_endJump : ByteArray := prog_8_method_7_code
def yX6_endJump : MethodName := ⟨RX6, "endJump", "(I)V"⟩
abbrev cX6_hasValue : ByteArray := prog_8_method_8_code
def yX6_hasValue : MethodName := ⟨RX6, "hasValue", "(I)Z"⟩
abbrev cX6_hasNoValue : ByteArray := prog_8_method_9_code
def yX6_hasNoValue : MethodName := ⟨RX6, "hasNoValue", "(I)Z"⟩
abbrev cX6_readClause : ByteArray := prog_8_method_10_code
def yX6_readClause : MethodName := ⟨RX6, "readClause", "()Z"⟩
abbrev cX6_readInBrackets : ByteArray := prog_8_method_11_code
def yX6_readInBrackets : MethodName := ⟨RX6, "readInBrackets", "(I)Z"⟩
abbrev cX6_readCondition : ByteArray := prog_8_method_12_code
def yX6_readCondition : MethodName := ⟨RX6, "readCondition", "(I)Z"⟩
abbrev cX6_readPart : ByteArray := prog_8_method_13_code
def yX6_readPart : MethodName := ⟨RX6, "readPart", "(I)Z"⟩
abbrev cX6_readPiece : ByteArray := prog_8_method_14_code
def yX6_readPiece : MethodName := ⟨RX6, "readPiece", "(I)Z"⟩
abbrev cX6_readComparison : ByteArray := prog_8_method_15_code
def yX6_readComparison : MethodName := ⟨RX6, "readComparison", "(I)Z"⟩
abbrev cX6_readExpression : ByteArray := prog_8_method_16_code
def yX6_readExpression : MethodName := ⟨RX6, "readExpression", "(I)Z"⟩
abbrev cX6_readTerm : ByteArray := prog_8_method_17_code
def yX6_readTerm : MethodName := ⟨RX6, "readTerm", "(I)Z"⟩
abbrev cX6_readFactor : ByteArray := prog_8_method_18_code
def yX6_readFactor : MethodName := ⟨RX6, "readFactor", "(I)Z"⟩
abbrev cX6_readNumber : ByteArray := prog_8_method_19_code
def yX6_readNumber : MethodName := ⟨RX6, "readNumber", "()Z"⟩
abbrev cX6_isDigit : ByteArray := prog_8_method_20_code
def yX6_isDigit : MethodName := ⟨RX6, "isDigit", "(I)Z"⟩
def RX7 : String := "ToyHouse$Shopping"
def TX7 : u_T := fun k => match k with
  | 0 => ("ToyHouse$Shopping", "prices", "[I", true)
  | 1 => ("ToyHouse$Shopping", "served", "[[I", true)
  | 2 => ("ToyHouse$Shopping", "servedFrom", "[I", true)
  | 3 => ("ToyHouse$Shopping", "row", "[I", true)
  | 4 => ("ToyHouse$Shopping", "bestRow", "[I", true)
  | 5 => ("ToyHouse$Shopping", "size", "I", false)
  | 6 => ("ToyHouse$Shopping", "coin", "I", false)
  | 7 => ("ToyHouse$Shopping", "servedNow", "I", false)
  | 8 => ("ToyHouse$Shopping", "bestServed", "I", false)
  | _ => ("ToyHouse$Shopping", "bestCoin", "I", false)
def tyX7 : Nat → FieldType := fun k => match k with
  | 0 => .array .int
  | 1 => .array (.array .int)
  | 2 => .array .int
  | 3 => .array .int
  | 4 => .array .int
  | 5 => .int
  | 6 => .int
  | 7 => .int
  | 8 => .int
  | _ => .int
abbrev wsX70 : List Cond := u_ws RX7 TX7 10
theorem nmX7 : ∀ a, a < 10 → ∀ b, b < 10 → a ≠ b → (TX7 a).2.1 ≠ (TX7 b).2.1 := by decide +kernel
theorem tyX7_ok : ∀ k, k < 10 → parseFieldDescriptor (TX7 k).2.2.1 = some (tyX7 k) := by decide +kernel
abbrev cX7_init : ByteArray := prog_9_method_1_code
def yX7_init : MethodName := ⟨RX7, "<init>", "()V"⟩
abbrev cX7_begin : ByteArray := prog_9_method_2_code
def yX7_begin : MethodName := ⟨RX7, "begin", "(I)V"⟩
abbrev cX7_offer : ByteArray := prog_9_method_3_code
def yX7_offer : MethodName := ⟨RX7, "offer", "(IIII)V"⟩
abbrev cX7_search : ByteArray := prog_9_method_4_code
def yX7_search : MethodName := ⟨RX7, "search", "()V"⟩
abbrev cX7_tryFrom : ByteArray := prog_9_method_5_code
def yX7_tryFrom : MethodName := ⟨RX7, "tryFrom", "(III)V"⟩
abbrev cX7_servedMore : ByteArray := prog_9_method_6_code
def yX7_servedMore : MethodName := ⟨RX7, "servedMore", "()I"⟩
abbrev cX7_bought : ByteArray := prog_9_method_7_code
def yX7_bought : MethodName := ⟨RX7, "bought", "(I)I"⟩
def RX8 : String := "ToyHouse$Toy"
def TX8 : u_T := fun k => match k with
  | 0 => ("ToyHouse$Toy", "number", "I", true)
  | 1 => ("ToyHouse$Toy", "kind", "LToyHouse$Kind;", true)
  | 2 => ("ToyHouse$Toy", "batch", "I", true)
  | 3 => ("ToyHouse$Toy", "has", "[I", true)
  | 4 => ("ToyHouse$Toy", "terms", "[I", true)
  | 5 => ("ToyHouse$Toy", "termNumbers", "[I", true)
  | 6 => ("ToyHouse$Toy", "termCount", "I", false)
  | 7 => ("ToyHouse$Toy", "place", "I", false)
  | 8 => ("ToyHouse$Toy", "holder", "I", false)
  | 9 => ("ToyHouse$Toy", "due", "I", false)
  | 10 => ("ToyHouse$Toy", "lentOn", "I", false)
  | 11 => ("ToyHouse$Toy", "cameOn", "I", false)
  | 12 => ("ToyHouse$Toy", "wear", "I", false)
  | 13 => ("ToyHouse$Toy", "timesLent", "I", false)
  | _ => ("ToyHouse$Toy", "mustBeWashed", "Z", false)
def tyX8 : Nat → FieldType := fun k => match k with
  | 0 => .int
  | 1 => .object "ToyHouse$Kind"
  | 2 => .int
  | 3 => .array .int
  | 4 => .array .int
  | 5 => .array .int
  | 6 => .int
  | 7 => .int
  | 8 => .int
  | 9 => .int
  | 10 => .int
  | 11 => .int
  | 12 => .int
  | 13 => .int
  | _ => .boolean
abbrev wsX80 : List Cond := u_ws RX8 TX8 15
theorem nmX8 : ∀ a, a < 15 → ∀ b, b < 15 → a ≠ b → (TX8 a).2.1 ≠ (TX8 b).2.1 := by decide +kernel
theorem tyX8_ok : ∀ k, k < 15 → parseFieldDescriptor (TX8 k).2.2.1 = some (tyX8 k) := by decide +kernel
abbrev cX8_init : ByteArray := prog_10_method_1_code
def yX8_init : MethodName := ⟨RX8, "<init>", "(ILToyHouse$Kind;II)V"⟩
abbrev cX8_addTerm : ByteArray := prog_10_method_2_code
def yX8_addTerm : MethodName := ⟨RX8, "addTerm", "(II)Z"⟩
abbrev cX8_termsBar : ByteArray := prog_10_method_3_code
def yX8_termsBar : MethodName := ⟨RX8, "termsBar", "(LToyHouse$Family;I)Z"⟩
abbrev cX8_termBars : ByteArray := prog_10_method_4_code
def yX8_termBars : MethodName := ⟨RX8, "termBars", "(IILToyHouse$Family;I)Z"⟩
abbrev cX8_goOut : ByteArray := prog_10_method_5_code
def yX8_goOut : MethodName := ⟨RX8, "goOut", "(III)V"⟩
abbrev cX8_couldHave : ByteArray := prog_10_method_6_code
def yX8_couldHave : MethodName := ⟨RX8, "couldHave", "([I)Z"⟩
abbrev cX8_comeBack : ByteArray := prog_10_method_7_code
def yX8_comeBack : MethodName := ⟨RX8, "comeBack", "([II)I"⟩
abbrev cX8_leaveFamily : ByteArray := prog_10_method_8_code
def yX8_leaveFamily : MethodName := ⟨RX8, "leaveFamily", "(I)V"⟩
abbrev cX8_isWorn : ByteArray := prog_10_method_9_code
def yX8_isWorn : MethodName := ⟨RX8, "isWorn", "()Z"⟩
abbrev cX8_piecesTogether : ByteArray := prog_10_method_10_code
def yX8_piecesTogether : MethodName := ⟨RX8, "piecesTogether", "()I"⟩
abbrev cX8_lacking : ByteArray := prog_10_method_11_code
def yX8_lacking : MethodName := ⟨RX8, "lacking", "()I"⟩
abbrev cX8_weightOfPieces : ByteArray := prog_10_method_12_code
def yX8_weightOfPieces : MethodName := ⟨RX8, "weightOfPieces", "()I"⟩
abbrev cX8_minutesToMend : ByteArray := prog_10_method_13_code
def yX8_minutesToMend : MethodName := ⟨RX8, "minutesToMend", "([I)I"⟩
abbrev cX8_makeWhole : ByteArray := prog_10_method_14_code
def yX8_makeWhole : MethodName := ⟨RX8, "makeWhole", "()V"⟩
def RX9 : String := "ToyHouse$Weighing"
def TX9 : u_T := fun k => match k with
  | 0 => ("ToyHouse$Weighing", "row", "[I", true)
  | 1 => ("ToyHouse$Weighing", "fewestRow", "[I", true)
  | 2 => ("ToyHouse$Weighing", "weightFrom", "[I", true)
  | 3 => ("ToyHouse$Weighing", "waysFrom", "[I", true)
  | 4 => ("ToyHouse$Weighing", "sortsFrom", "[I", true)
  | 5 => ("ToyHouse$Weighing", "low", "I", false)
  | 6 => ("ToyHouse$Weighing", "high", "I", false)
  | 7 => ("ToyHouse$Weighing", "ways", "I", false)
  | 8 => ("ToyHouse$Weighing", "fewest", "I", false)
  | 9 => ("ToyHouse$Weighing", "lacksInSome", "I", false)
  | _ => ("ToyHouse$Weighing", "wholeInSome", "I", false)
def tyX9 : Nat → FieldType := fun k => match k with
  | 0 => .array .int
  | 1 => .array .int
  | 2 => .array .int
  | 3 => .array .int
  | 4 => .array .int
  | 5 => .int
  | 6 => .int
  | 7 => .int
  | 8 => .int
  | 9 => .int
  | _ => .int
abbrev wsX90 : List Cond := u_ws RX9 TX9 11
theorem nmX9 : ∀ a, a < 11 → ∀ b, b < 11 → a ≠ b → (TX9 a).2.1 ≠ (TX9 b).2.1 := by decide +kernel
theorem tyX9_ok : ∀ k, k < 11 → parseFieldDescriptor (TX9 k).2.2.1 = some (tyX9 k) := by decide +kernel
abbrev cX9_init : ByteArray := prog_11_method_1_code
def yX9_init : MethodName := ⟨RX9, "<init>", "()V"⟩
abbrev cX9_search : ByteArray := prog_11_method_2_code
def yX9_search : MethodName := ⟨RX9, "search", "(LToyHouse$Toy;II)V"⟩
abbrev cX9_tryFrom : ByteArray := prog_11_method_3_code
def yX9_tryFrom : MethodName := ⟨RX9, "tryFrom", "(LToyHouse$Toy;IIII)V"⟩
abbrev cX9_keepAllFrom : ByteArray := prog_11_method_4_code
def yX9_keepAllFrom : MethodName := ⟨RX9, "keepAllFrom", "(III)V"⟩
abbrev cX9_answer : ByteArray := prog_11_method_5_code
def yX9_answer : MethodName := ⟨RX9, "answer", "(I)I"⟩
def RX10 : String := "ToyHouse$Workshop"
def TX10 : u_T := fun k => match k with
  | 0 => ("ToyHouse$Workshop", "toyNumbers", "[I", true)
  | 1 => ("ToyHouse$Workshop", "minutesOf", "[I", true)
  | 2 => ("ToyHouse$Workshop", "worthOf", "[I", true)
  | 3 => ("ToyHouse$Workshop", "worthBelow", "[I", true)
  | 4 => ("ToyHouse$Workshop", "size", "I", false)
  | 5 => ("ToyHouse$Workshop", "limit", "I", false)
  | 6 => ("ToyHouse$Workshop", "bestSet", "I", false)
  | 7 => ("ToyHouse$Workshop", "bestMinutes", "I", false)
  | _ => ("ToyHouse$Workshop", "bestWorth", "I", false)
def tyX10 : Nat → FieldType := fun k => match k with
  | 0 => .array .int
  | 1 => .array .int
  | 2 => .array .int
  | 3 => .array .int
  | 4 => .int
  | 5 => .int
  | 6 => .int
  | 7 => .int
  | _ => .int
abbrev wsX100 : List Cond := u_ws RX10 TX10 9
theorem nmX10 : ∀ a, a < 9 → ∀ b, b < 9 → a ≠ b → (TX10 a).2.1 ≠ (TX10 b).2.1 := by decide +kernel
theorem tyX10_ok : ∀ k, k < 9 → parseFieldDescriptor (TX10 k).2.2.1 = some (tyX10 k) := by decide +kernel
abbrev cX10_init : ByteArray := prog_12_method_1_code
def yX10_init : MethodName := ⟨RX10, "<init>", "()V"⟩
abbrev cX10_begin : ByteArray := prog_12_method_2_code
def yX10_begin : MethodName := ⟨RX10, "begin", "(I)V"⟩
abbrev cX10_offer : ByteArray := prog_12_method_3_code
def yX10_offer : MethodName := ⟨RX10, "offer", "(III)V"⟩
abbrev cX10_search : ByteArray := prog_12_method_4_code
def yX10_search : MethodName := ⟨RX10, "search", "()V"⟩
abbrev cX10_tryBelow : ByteArray := prog_12_method_5_code
def yX10_tryBelow : MethodName := ⟨RX10, "tryBelow", "(IIII)V"⟩
def RX11 : String := "ToyHouse"
def TX11 : u_T := fun k => match k with
  | 0 => ("ToyHouse", "today", "I", false)
  | 1 => ("ToyHouse", "emptyBag", "I", false)
  | 2 => ("ToyHouse", "tellingDays", "I", false)
  | 3 => ("ToyHouse", "giftsGiven", "I", false)
  | 4 => ("ToyHouse", "tapeLength", "I", false)
  | 5 => ("ToyHouse", "spareText", "LToyHouse$RuleText;", false)
  | 6 => ("ToyHouse", "tape", "[I", true)
  | 7 => ("ToyHouse", "minutesOfSort", "[I", true)
  | 8 => ("ToyHouse", "begunInWeek", "[I", true)
  | 9 => ("ToyHouse", "behindFines", "[I", true)
  | 10 => ("ToyHouse", "kinds", "Ljava/util/ArrayList;", true)
  | 11 => ("ToyHouse", "toys", "Ljava/util/ArrayList;", true)
  | 12 => ("ToyHouse", "families", "Ljava/util/ArrayList;", true)
  | 13 => ("ToyHouse", "recalls", "Ljava/util/ArrayList;", true)
  | 14 => ("ToyHouse", "reckoner", "LToyHouse$Reckoner;", true)
  | 15 => ("ToyHouse", "diary", "LToyHouse$Diary;", true)
  | 16 => ("ToyHouse", "weighing", "LToyHouse$Weighing;", true)
  | 17 => ("ToyHouse", "shopping", "LToyHouse$Shopping;", true)
  | 18 => ("ToyHouse", "workshop", "LToyHouse$Workshop;", true)
  | _ => ("ToyHouse", "pairing", "LToyHouse$Pairing;", true)
def tyX11 : Nat → FieldType := fun k => match k with
  | 0 => .int
  | 1 => .int
  | 2 => .int
  | 3 => .int
  | 4 => .int
  | 5 => .object "ToyHouse$RuleText"
  | 6 => .array .int
  | 7 => .array .int
  | 8 => .array .int
  | 9 => .array .int
  | 10 => .object "java/util/ArrayList"
  | 11 => .object "java/util/ArrayList"
  | 12 => .object "java/util/ArrayList"
  | 13 => .object "java/util/ArrayList"
  | 14 => .object "ToyHouse$Reckoner"
  | 15 => .object "ToyHouse$Diary"
  | 16 => .object "ToyHouse$Weighing"
  | 17 => .object "ToyHouse$Shopping"
  | 18 => .object "ToyHouse$Workshop"
  | _ => .object "ToyHouse$Pairing"
abbrev wsX110 : List Cond := u_ws RX11 TX11 20
theorem nmX11 : ∀ a, a < 20 → ∀ b, b < 20 → a ≠ b → (TX11 a).2.1 ≠ (TX11 b).2.1 := by decide +kernel
theorem tyX11_ok : ∀ k, k < 20 → parseFieldDescriptor (TX11 k).2.2.1 = some (tyX11 k) := by decide +kernel
abbrev cX11_init : ByteArray := prog_1_method_1_code
def yX11_init : MethodName := ⟨RX11, "<init>", "()V"⟩
abbrev cX11_now : ByteArray := prog_1_method_2_code
def yX11_now : MethodName := ⟨RX11, "now", "(I)Z"⟩
abbrev cX11_kind : ByteArray := prog_1_method_3_code
def yX11_kind : MethodName := ⟨RX11, "kind", "(IIIII)I"⟩
abbrev cX11_pieces : ByteArray := prog_1_method_4_code
def yX11_pieces : MethodName := ⟨RX11, "pieces", "(IIII)Z"⟩
abbrev cX11_toy : ByteArray := prog_1_method_5_code
def yX11_toy : MethodName := ⟨RX11, "toy", "(II)I"⟩
abbrev cX11_family : ByteArray := prog_1_method_6_code
def yX11_family : MethodName := ⟨RX11, "family", "(III)I"⟩
abbrev cX11_bag : ByteArray := prog_1_method_7_code
def yX11_bag : MethodName := ⟨RX11, "bag", "(I)Z"⟩
abbrev cX11_telling : ByteArray := prog_1_method_8_code
def yX11_telling : MethodName := ⟨RX11, "telling", "(I)Z"⟩
abbrev cX11_minutes : ByteArray := prog_1_method_9_code
def yX11_minutes : MethodName := ⟨RX11, "minutes", "(II)Z"⟩
abbrev cX11_gift : ByteArray := prog_1_method_10_code
def yX11_gift : MethodName := ⟨RX11, "gift", "(III)Z"⟩
abbrev cX11_feed : ByteArray := prog_1_method_11_code
def yX11_feed : MethodName := ⟨RX11, "feed", "(IIIII)I"⟩
abbrev cX11_rules : ByteArray := prog_1_method_12_code
def yX11_rules : MethodName := ⟨RX11, "rules", "(I)I"⟩
abbrev cX11_check : ByteArray := prog_1_method_13_code
def yX11_check : MethodName := ⟨RX11, "check", "(II)I"⟩
abbrev cX11_not : ByteArray := prog_1_method_14_code
def yX11_not : MethodName := ⟨RX11, "not", "(II)I"⟩
abbrev cX11_lend : ByteArray := prog_1_method_15_code
def yX11_lend : MethodName := ⟨RX11, "lend", "(II)I"⟩
abbrev cX11_back : ByteArray := prog_1_method_16_code
def yX11_back : MethodName := ⟨RX11, "back", "(I)I"⟩
abbrev cX11_lost : ByteArray := prog_1_method_17_code
def yX11_lost : MethodName := ⟨RX11, "lost", "(I)I"⟩
abbrev cX11_wash : ByteArray := prog_1_method_18_code
def yX11_wash : MethodName := ⟨RX11, "wash", "(I)Z"⟩
abbrev cX11_cull : ByteArray := prog_1_method_19_code
def yX11_cull : MethodName := ⟨RX11, "cull", "(I)Z"⟩
abbrev cX11_mend : ByteArray := prog_1_method_20_code
def yX11_mend : MethodName := ⟨RX11, "mend", "(I)I"⟩
abbrev cX11_toyIs : ByteArray := prog_1_method_21_code
def yX11_toyIs : MethodName := ⟨RX11, "toyIs", "(II)I"⟩
abbrev cX11_weigh : ByteArray := prog_1_method_22_code
def yX11_weigh : MethodName := ⟨RX11, "weigh", "(IIII)I"⟩
abbrev cX11_whole : ByteArray := prog_1_method_23_code
def yX11_whole : MethodName := ⟨RX11, "whole", "(II)I"⟩
abbrev cX11_where : ByteArray := prog_1_method_24_code
def yX11_where : MethodName := ⟨RX11, "where", "(III)I"⟩
abbrev cX11_rota : ByteArray := prog_1_method_25_code
def yX11_rota : MethodName := ⟨RX11, "rota", "(II)I"⟩
abbrev cX11_unwanted : ByteArray := prog_1_method_26_code
def yX11_unwanted : MethodName := ⟨RX11, "unwanted", "(I)I"⟩
abbrev cX11_why : ByteArray := prog_1_method_27_code
def yX11_why : MethodName := ⟨RX11, "why", "(II)I"⟩
abbrev cX11_waits : ByteArray := prog_1_method_28_code
def yX11_waits : MethodName := ⟨RX11, "waits", "(II)Z"⟩
abbrev cX11_leaves : ByteArray := prog_1_method_29_code
def yX11_leaves : MethodName := ⟨RX11, "leaves", "(II)Z"⟩
abbrev cX11_next : ByteArray := prog_1_method_30_code
def yX11_next : MethodName := ⟨RX11, "next", "(II)I"⟩
abbrev cX11_buying : ByteArray := prog_1_method_31_code
def yX11_buying : MethodName := ⟨RX11, "buying", "(III)I"⟩
abbrev cX11_van : ByteArray := prog_1_method_32_code
def yX11_van : MethodName := ⟨RX11, "van", "(III)I"⟩
abbrev cX11_mending : ByteArray := prog_1_method_33_code
def yX11_mending : MethodName := ⟨RX11, "mending", "(II)I"⟩
abbrev cX11_peak : ByteArray := prog_1_method_34_code
def yX11_peak : MethodName := ⟨RX11, "peak", "(I)I"⟩
abbrev cX11_recall : ByteArray := prog_1_method_35_code
def yX11_recall : MethodName := ⟨RX11, "recall", "(III)I"⟩
abbrev cX11_told : ByteArray := prog_1_method_36_code
def yX11_told : MethodName := ⟨RX11, "told", "(II)Z"⟩
abbrev cX11_recalled : ByteArray := prog_1_method_37_code
def yX11_recalled : MethodName := ⟨RX11, "recalled", "(II)I"⟩
abbrev cX11_owes : ByteArray := prog_1_method_38_code
def yX11_owes : MethodName := ⟨RX11, "owes", "(I)I"⟩
abbrev cX11_pays : ByteArray := prog_1_method_39_code
def yX11_pays : MethodName := ⟨RX11, "pays", "(II)I"⟩
abbrev cX11_forgiving : ByteArray := prog_1_method_40_code
def yX11_forgiving : MethodName := ⟨RX11, "forgiving", "(I)I"⟩
abbrev cX11_count : ByteArray := prog_1_method_41_code
def yX11_count : MethodName := ⟨RX11, "count", "(I)I"⟩
abbrev cX11_countOfOne : ByteArray := prog_1_method_42_code
def yX11_countOfOne : MethodName := ⟨RX11, "countOfOne", "(I)I"⟩
abbrev cX11_within : ByteArray := prog_1_method_43_code
def yX11_within : MethodName := ⟨RX11, "within", "(III)Z"⟩
abbrev cX11_kindAt : ByteArray := prog_1_method_44_code
def yX11_kindAt : MethodName := ⟨RX11, "kindAt", "(I)LToyHouse$Kind;"⟩
abbrev cX11_toyAt : ByteArray := prog_1_method_45_code
def yX11_toyAt : MethodName := ⟨RX11, "toyAt", "(I)LToyHouse$Toy;"⟩
abbrev cX11_familyAt : ByteArray := prog_1_method_46_code
def yX11_familyAt : MethodName := ⟨RX11, "familyAt", "(I)LToyHouse$Family;"⟩
abbrev cX11_recallAt : ByteArray := prog_1_method_47_code
def yX11_recallAt : MethodName := ⟨RX11, "recallAt", "(I)LToyHouse$Recall;"⟩
abbrev cX11_holderOf : ByteArray := prog_1_method_48_code
def yX11_holderOf : MethodName := ⟨RX11, "holderOf", "(LToyHouse$Toy;)LToyHouse$Family;"⟩
abbrev cX11_hasToys : ByteArray := prog_1_method_49_code
def yX11_hasToys : MethodName := ⟨RX11, "hasToys", "(LToyHouse$Kind;)Z"⟩
abbrev cX11_isTerm : ByteArray := prog_1_method_50_code
def yX11_isTerm : MethodName := ⟨RX11, "isTerm", "(II)Z"⟩
abbrev cX11_waitingFor : ByteArray := prog_1_method_51_code
def yX11_waitingFor : MethodName := ⟨RX11, "waitingFor", "(LToyHouse$Kind;)I"⟩
abbrev cX11_toysHeldBy : ByteArray := prog_1_method_52_code
def yX11_toysHeldBy : MethodName := ⟨RX11, "toysHeldBy", "(LToyHouse$Family;)I"⟩
abbrev cX11_isRecalled : ByteArray := prog_1_method_53_code
def yX11_isRecalled : MethodName := ⟨RX11, "isRecalled", "(LToyHouse$Toy;)Z"⟩
abbrev cX11_usableToys : ByteArray := prog_1_method_54_code
def yX11_usableToys : MethodName := ⟨RX11, "usableToys", "(LToyHouse$Kind;)I"⟩
abbrev cX11_toysOfRecall : ByteArray := prog_1_method_55_code
def yX11_toysOfRecall : MethodName := ⟨RX11, "toysOfRecall", "(LToyHouse$Recall;)I"⟩
abbrev cX11_holdersNow : ByteArray := prog_1_method_56_code
def yX11_holdersNow : MethodName := ⟨RX11, "holdersNow", "(LToyHouse$Recall;)I"⟩
abbrev cX11_addToTape : ByteArray := prog_1_method_57_code
def yX11_addToTape : MethodName := ⟨RX11, "addToTape", "(I)V"⟩
abbrev cX11_tapeNumber : ByteArray := prog_1_method_58_code
def yX11_tapeNumber : MethodName := ⟨RX11, "tapeNumber", "(I)I"⟩
abbrev cX11_firstWrongNumber : ByteArray := prog_1_method_59_code
def yX11_firstWrongNumber : MethodName := ⟨RX11, "firstWrongNumber", "(LToyHouse$Toy;I)I"⟩
abbrev cX11_writeLetters : ByteArray := prog_1_method_60_code
def yX11_writeLetters : MethodName := ⟨RX11, "writeLetters", "(LToyHouse$Kind;LToyHouse$Toy;LToyHouse$Family;I)V"⟩
abbrev cX11_barrier : ByteArray := prog_1_method_61_code
def yX11_barrier : MethodName := ⟨RX11, "barrier", "(LToyHouse$Toy;LToyHouse$Family;)I"⟩
abbrev cX11_settle : ByteArray := prog_1_method_62_code
def yX11_settle : MethodName := ⟨RX11, "settle", "(LToyHouse$Toy;LToyHouse$Family;II)I"⟩
abbrev cX11_noteBehindFine : ByteArray := prog_1_method_63_code
def yX11_noteBehindFine : MethodName := ⟨RX11, "noteBehindFine", "(II)V"⟩
abbrev cX11_turnOf : ByteArray := prog_1_method_64_code
def yX11_turnOf : MethodName := ⟨RX11, "turnOf", "(LToyHouse$Family;LToyHouse$Kind;)I"⟩
abbrev cX11_firstInTurn : ByteArray := prog_1_method_65_code
def yX11_firstInTurn : MethodName := ⟨RX11, "firstInTurn", "(LToyHouse$Kind;)LToyHouse$Family;"⟩
abbrev cX11_takersOf : ByteArray := prog_1_method_66_code
def yX11_takersOf : MethodName := ⟨RX11, "takersOf", "(LToyHouse$Toy;I)I"⟩
abbrev cX11_isForWhole : ByteArray := prog_1_method_67_code
def yX11_isForWhole : MethodName := ⟨RX11, "isForWhole", "(LToyHouse$Toy;LToyHouse$Kind;)Z"⟩
abbrev cX11_couldBeWhole : ByteArray := prog_1_method_68_code
def yX11_couldBeWhole : MethodName := ⟨RX11, "couldBeWhole", "(LToyHouse$Kind;)I"⟩
abbrev cX11_piecesForWhole : ByteArray := prog_1_method_69_code
def yX11_piecesForWhole : MethodName := ⟨RX11, "piecesForWhole", "(LToyHouse$Kind;I)I"⟩
abbrev cX11_leastLackingSet : ByteArray := prog_1_method_70_code
def yX11_leastLackingSet : MethodName := ⟨RX11, "leastLackingSet", "(LToyHouse$Kind;I)I"⟩
abbrev cX11_lackingOfSet : ByteArray := prog_1_method_71_code
def yX11_lackingOfSet : MethodName := ⟨RX11, "lackingOfSet", "(I)I"⟩
abbrev cX11_isToWash : ByteArray := prog_1_method_72_code
def yX11_isToWash : MethodName := ⟨RX11, "isToWash", "(LToyHouse$Toy;)Z"⟩
abbrev cX11_washedAhead : ByteArray := prog_1_method_73_code
def yX11_washedAhead : MethodName := ⟨RX11, "washedAhead", "(LToyHouse$Toy;)I"⟩
abbrev cX11_weekOf : ByteArray := prog_1_method_74_code
def yX11_weekOf : MethodName := ⟨RX11, "weekOf", "(I)I"⟩
abbrev cX11_begunInThreeWeeks : ByteArray := prog_1_method_75_code
def yX11_begunInThreeWeeks : MethodName := ⟨RX11, "begunInThreeWeeks", "(I)I"⟩
abbrev cX11_isUnwanted : ByteArray := prog_1_method_76_code
def yX11_isUnwanted : MethodName := ⟨RX11, "isUnwanted", "(LToyHouse$Toy;I)Z"⟩
abbrev cX11_reasonUnwanted : ByteArray := prog_1_method_77_code
def yX11_reasonUnwanted : MethodName := ⟨RX11, "reasonUnwanted", "(LToyHouse$Toy;)I"⟩
abbrev cX11_isTooOldForAll : ByteArray := prog_1_method_78_code
def yX11_isTooOldForAll : MethodName := ⟨RX11, "isTooOldForAll", "(LToyHouse$Kind;)Z"⟩
abbrev cX11_isBarredForAll : ByteArray := prog_1_method_79_code
def yX11_isBarredForAll : MethodName := ⟨RX11, "isBarredForAll", "(LToyHouse$Toy;)Z"⟩
def RX12 : String := "ToyHouseModel"
def TX12 : u_T := fun k => match k with
  | 0 => ("ToyHouseModel", "tape", "[B", true)
  | 1 => ("ToyHouseModel", "taped", "I", false)
  | 2 => ("ToyHouseModel", "now", "I", false)
  | 3 => ("ToyHouseModel", "kinds", "I", false)
  | 4 => ("ToyHouseModel", "toys", "I", false)
  | 5 => ("ToyHouseModel", "families", "I", false)
  | 6 => ("ToyHouseModel", "emptyBag", "I", false)
  | 7 => ("ToyHouseModel", "tellingTakes", "I", false)
  | 8 => ("ToyHouseModel", "age", "[I", true)
  | 9 => ("ToyHouseModel", "price", "[I", true)
  | 10 => ("ToyHouseModel", "noise", "[I", true)
  | 11 => ("ToyHouseModel", "maker", "[I", true)
  | 12 => ("ToyHouseModel", "bears", "[I", true)
  | 13 => ("ToyHouseModel", "manyOf", "[I", true)
  | 14 => ("ToyHouseModel", "weightOf", "[I", true)
  | 15 => ("ToyHouseModel", "kindOf", "[I", true)
  | 16 => ("ToyHouseModel", "batch", "[I", true)
  | 17 => ("ToyHouseModel", "wear", "[I", true)
  | 18 => ("ToyHouseModel", "where", "[I", true)
  | 19 => ("ToyHouseModel", "holder", "[I", true)
  | 20 => ("ToyHouseModel", "due", "[I", true)
  | 21 => ("ToyHouseModel", "lentOn", "[I", true)
  | 22 => ("ToyHouseModel", "lentTimes", "[I", true)
  | 23 => ("ToyHouseModel", "cameOn", "[I", true)
  | 24 => ("ToyHouseModel", "isDirty", "[Z", true)
  | 25 => ("ToyHouseModel", "hasOf", "[I", true)
  | 26 => ("ToyHouseModel", "youngest", "[I", true)
  | 27 => ("ToyHouseModel", "need", "[I", true)
  | 28 => ("ToyHouseModel", "village", "[I", true)
  | 29 => ("ToyHouseModel", "owing", "[I", true)
  | 30 => ("ToyHouseModel", "many", "I", false)
  | 31 => ("ToyHouseModel", "clauseLetter", "[I", true)
  | 32 => ("ToyHouseModel", "sumFrom", "[I", true)
  | 33 => ("ToyHouseModel", "codeFrom", "[I", true)
  | 34 => ("ToyHouseModel", "codeTo", "[I", true)
  | 35 => ("ToyHouseModel", "code", "[I", true)
  | 36 => ("ToyHouseModel", "codeArg", "[I", true)
  | 37 => ("ToyHouseModel", "newLetter", "[I", true)
  | 38 => ("ToyHouseModel", "newSum", "[I", true)
  | 39 => ("ToyHouseModel", "newFrom", "[I", true)
  | 40 => ("ToyHouseModel", "newTo", "[I", true)
  | 41 => ("ToyHouseModel", "newCode", "[I", true)
  | 42 => ("ToyHouseModel", "newArg", "[I", true)
  | 43 => ("ToyHouseModel", "place", "I", false)
  | 44 => ("ToyHouseModel", "end", "I", false)
  | 45 => ("ToyHouseModel", "bad", "I", false)
  | 46 => ("ToyHouseModel", "clauses", "I", false)
  | 47 => ("ToyHouseModel", "codes", "I", false)
  | 48 => ("ToyHouseModel", "open", "I", false)
  | 49 => ("ToyHouseModel", "stacked", "I", false)
  | 50 => ("ToyHouseModel", "isOver", "Z", false)
  | 51 => ("ToyHouseModel", "isBehind", "Z", false)
  | 52 => ("ToyHouseModel", "stack", "[I", true)
  | 53 => ("ToyHouseModel", "askedKind", "I", false)
  | 54 => ("ToyHouseModel", "askedToy", "I", false)
  | 55 => ("ToyHouseModel", "askedFamily", "I", false)
  | 56 => ("ToyHouseModel", "askedLate", "I", false)
  | 57 => ("ToyHouseModel", "worth", "[I", true)
  | 58 => ("ToyHouseModel", "isRefused", "[Z", true)
  | 59 => ("ToyHouseModel", "recalls", "I", false)
  | 60 => ("ToyHouseModel", "gifts", "I", false)
  | 61 => ("ToyHouseModel", "recallMaker", "[I", true)
  | 62 => ("ToyHouseModel", "recallFrom", "[I", true)
  | 63 => ("ToyHouseModel", "recallTo", "[I", true)
  | 64 => ("ToyHouseModel", "recallDay", "[I", true)
  | 65 => ("ToyHouseModel", "recallHad", "[I", true)
  | 66 => ("ToyHouseModel", "toldOn", "[I", true)
  | 67 => ("ToyHouseModel", "giftToy", "[I", true)
  | 68 => ("ToyHouseModel", "giftTerm", "[I", true)
  | 69 => ("ToyHouseModel", "giftNumber", "[I", true)
  | 70 => ("ToyHouseModel", "acts", "I", false)
  | 71 => ("ToyHouseModel", "lends", "I", false)
  | 72 => ("ToyHouseModel", "actToy", "[I", true)
  | 73 => ("ToyHouseModel", "actTo", "[I", true)
  | 74 => ("ToyHouseModel", "actDay", "[I", true)
  | 75 => ("ToyHouseModel", "actTold", "[I", true)
  | 76 => ("ToyHouseModel", "actFamily", "[I", true)
  | 77 => ("ToyHouseModel", "actFine", "[I", true)
  | 78 => ("ToyHouseModel", "actBack", "[Z", true)
  | 79 => ("ToyHouseModel", "actLate", "[Z", true)
  | 80 => ("ToyHouseModel", "lacks", "[I", true)
  | 81 => ("ToyHouseModel", "leastLacks", "[I", true)
  | 82 => ("ToyHouseModel", "weighWays", "I", false)
  | 83 => ("ToyHouseModel", "weighWhole", "I", false)
  | 84 => ("ToyHouseModel", "weighLacks", "I", false)
  | 85 => ("ToyHouseModel", "weighFewest", "I", false)
  | 86 => ("ToyHouseModel", "since", "[I", true)
  | 87 => ("ToyHouseModel", "began", "[I", true)
  | 88 => ("ToyHouseModel", "served", "[I", true)
  | 89 => ("ToyHouseModel", "paired", "[Z", true)
  | 90 => ("ToyHouseModel", "could", "[I", true)
  | _ => ("ToyHouseModel", "minutesOf", "[I", true)
def tyX12 : Nat → FieldType := fun k => match k with
  | 0 => .array .byte
  | 1 => .int
  | 2 => .int
  | 3 => .int
  | 4 => .int
  | 5 => .int
  | 6 => .int
  | 7 => .int
  | 8 => .array .int
  | 9 => .array .int
  | 10 => .array .int
  | 11 => .array .int
  | 12 => .array .int
  | 13 => .array .int
  | 14 => .array .int
  | 15 => .array .int
  | 16 => .array .int
  | 17 => .array .int
  | 18 => .array .int
  | 19 => .array .int
  | 20 => .array .int
  | 21 => .array .int
  | 22 => .array .int
  | 23 => .array .int
  | 24 => .array .boolean
  | 25 => .array .int
  | 26 => .array .int
  | 27 => .array .int
  | 28 => .array .int
  | 29 => .array .int
  | 30 => .int
  | 31 => .array .int
  | 32 => .array .int
  | 33 => .array .int
  | 34 => .array .int
  | 35 => .array .int
  | 36 => .array .int
  | 37 => .array .int
  | 38 => .array .int
  | 39 => .array .int
  | 40 => .array .int
  | 41 => .array .int
  | 42 => .array .int
  | 43 => .int
  | 44 => .int
  | 45 => .int
  | 46 => .int
  | 47 => .int
  | 48 => .int
  | 49 => .int
  | 50 => .boolean
  | 51 => .boolean
  | 52 => .array .int
  | 53 => .int
  | 54 => .int
  | 55 => .int
  | 56 => .int
  | 57 => .array .int
  | 58 => .array .boolean
  | 59 => .int
  | 60 => .int
  | 61 => .array .int
  | 62 => .array .int
  | 63 => .array .int
  | 64 => .array .int
  | 65 => .array .int
  | 66 => .array .int
  | 67 => .array .int
  | 68 => .array .int
  | 69 => .array .int
  | 70 => .int
  | 71 => .int
  | 72 => .array .int
  | 73 => .array .int
  | 74 => .array .int
  | 75 => .array .int
  | 76 => .array .int
  | 77 => .array .int
  | 78 => .array .boolean
  | 79 => .array .boolean
  | 80 => .array .int
  | 81 => .array .int
  | 82 => .int
  | 83 => .int
  | 84 => .int
  | 85 => .int
  | 86 => .array .int
  | 87 => .array .int
  | 88 => .array .int
  | 89 => .array .boolean
  | 90 => .array .int
  | _ => .array .int
abbrev wsX120 : List Cond := u_ws RX12 TX12 92
theorem nmX12 : ∀ a, a < 92 → ∀ b, b < 92 → a ≠ b → (TX12 a).2.1 ≠ (TX12 b).2.1 := by decide +kernel
theorem tyX12_ok : ∀ k, k < 92 → parseFieldDescriptor (TX12 k).2.2.1 = some (tyX12 k) := by decide +kernel
abbrev cX12_init : ByteArray := prog_14_method_1_code
def yX12_init : MethodName := ⟨RX12, "<init>", "()V"⟩
abbrev cX12_lies : ByteArray := prog_14_method_2_code
def yX12_lies : MethodName := ⟨RX12, "lies", "(JJJ)Z"⟩
abbrev cX12_has : ByteArray := prog_14_method_3_code
def yX12_has : MethodName := ⟨RX12, "has", "(II)Z"⟩
abbrev cX12_sizeOf : ByteArray := prog_14_method_4_code
def yX12_sizeOf : MethodName := ⟨RX12, "sizeOf", "(I)I"⟩
abbrev cX12_isDay : ByteArray := prog_14_method_5_code
def yX12_isDay : MethodName := ⟨RX12, "isDay", "(I)Z"⟩
abbrev cX12_isKind : ByteArray := prog_14_method_6_code
def yX12_isKind : MethodName := ⟨RX12, "isKind", "(I)Z"⟩
abbrev cX12_isToy : ByteArray := prog_14_method_7_code
def yX12_isToy : MethodName := ⟨RX12, "isToy", "(I)Z"⟩
abbrev cX12_isFamily : ByteArray := prog_14_method_8_code
def yX12_isFamily : MethodName := ⟨RX12, "isFamily", "(I)Z"⟩
abbrev cX12_isSort : ByteArray := prog_14_method_9_code
def yX12_isSort : MethodName := ⟨RX12, "isSort", "(I)Z"⟩
abbrev cX12_now : ByteArray := prog_14_method_10_code
def yX12_now : MethodName := ⟨RX12, "now", "(I)Z"⟩
abbrev cX12_kind : ByteArray := prog_14_method_11_code
def yX12_kind : MethodName := ⟨RX12, "kind", "(IIIII)I"⟩
abbrev cX12_pieces : ByteArray := prog_14_method_12_code
def yX12_pieces : MethodName := ⟨RX12, "pieces", "(IIII)Z"⟩
abbrev cX12_toy : ByteArray := prog_14_method_13_code
def yX12_toy : MethodName := ⟨RX12, "toy", "(II)I"⟩
abbrev cX12_family : ByteArray := prog_14_method_14_code
def yX12_family : MethodName := ⟨RX12, "family", "(III)I"⟩
abbrev cX12_bag : ByteArray := prog_14_method_15_code
def yX12_bag : MethodName := ⟨RX12, "bag", "(I)Z"⟩
abbrev cX12_telling : ByteArray := prog_14_method_16_code
def yX12_telling : MethodName := ⟨RX12, "telling", "(I)Z"⟩
abbrev cX12_push : ByteArray := prog_14_method_17_code
def yX12_push : MethodName := ⟨RX12, "push", "(I)V"⟩
abbrev cX12_feed : ByteArray := prog_14_method_18_code
def yX12_feed : MethodName := ⟨RX12, "feed", "(IIIII)I"⟩
abbrev cX12_here : ByteArray := prog_14_method_19_code
def yX12_here : MethodName := ⟨RX12, "here", "()I"⟩
abbrev cX12_wrongs : ByteArray := prog_14_method_20_code
def yX12_wrongs : MethodName := ⟨RX12, "wrongs", "(II)V"⟩
abbrev cX12_isGood : ByteArray := prog_14_method_21_code
def yX12_isGood : MethodName := ⟨RX12, "isGood", "()Z"⟩
abbrev cX12_emit : ByteArray := prog_14_method_22_code
def yX12_emit : MethodName := ⟨RX12, "emit", "(II)V"⟩
abbrev cX12_top : ByteArray := prog_14_method_23_code
def yX12_top : MethodName := ⟨RX12, "top", "()I"⟩
abbrev cX12_puts : ByteArray := prog_14_method_24_code
def yX12_puts : MethodName := ⟨RX12, "puts", "(I)V"⟩
abbrev cX12_opens : ByteArray := prog_14_method_25_code
def yX12_opens : MethodName := ⟨RX12, "opens", "()V"⟩
abbrev cX12_seesDigit : ByteArray := prog_14_method_26_code
def yX12_seesDigit : MethodName := ⟨RX12, "seesDigit", "()Z"⟩
abbrev cX12_reads : ByteArray := prog_14_method_27_code
def yX12_reads : MethodName := ⟨RX12, "reads", "()I"⟩
abbrev cX12_isTimes : ByteArray := prog_14_method_28_code
def yX12_isTimes : MethodName := ⟨RX12, "isTimes", "(I)Z"⟩
abbrev cX12_isPlus : ByteArray := prog_14_method_29_code
def yX12_isPlus : MethodName := ⟨RX12, "isPlus", "(I)Z"⟩
abbrev cX12_isSign : ByteArray := prog_14_method_30_code
def yX12_isSign : MethodName := ⟨RX12, "isSign", "(I)Z"⟩
abbrev cX12_isAnyOfToy : ByteArray := prog_14_method_31_code
def yX12_isAnyOfToy : MethodName := ⟨RX12, "isAnyOfToy", "(I)Z"⟩
abbrev cX12_isValue : ByteArray := prog_14_method_32_code
def yX12_isValue : MethodName := ⟨RX12, "isValue", "(I)Z"⟩
abbrev cX12_sums : ByteArray := prog_14_method_33_code
def yX12_sums : MethodName := ⟨RX12, "sums", "(Z)V"⟩
abbrev cX12_joins : ByteArray := prog_14_method_34_code
def yX12_joins : MethodName := ⟨RX12, "joins", "(Z)V"⟩
abbrev cX12_ends : ByteArray := prog_14_method_35_code
def yX12_ends : MethodName := ⟨RX12, "ends", "()V"⟩
abbrev cX12_factor : ByteArray := prog_14_method_36_code
def yX12_factor : MethodName := ⟨RX12, "factor", "()V"⟩
abbrev cX12_stays : ByteArray := prog_14_method_37_code
def yX12_stays : MethodName := ⟨RX12, "stays", "()Z"⟩
abbrev cX12_value : ByteArray := prog_14_method_38_code
def yX12_value : MethodName := ⟨RX12, "value", "()V"⟩
abbrev cX12_pieceOfC : ByteArray := prog_14_method_39_code
def yX12_pieceOfC : MethodName := ⟨RX12, "pieceOfC", "()V"⟩
abbrev cX12_goesBehind : ByteArray := prog_14_method_40_code
def yX12_goesBehind : MethodName := ⟨RX12, "goesBehind", "()Z"⟩
abbrev cX12_condition : ByteArray := prog_14_method_41_code
def yX12_condition : MethodName := ⟨RX12, "condition", "()V"⟩
abbrev cX12_hasSum : ByteArray := prog_14_method_42_code
def yX12_hasSum : MethodName := ⟨RX12, "hasSum", "(I)Z"⟩
abbrev cX12_clause : ByteArray := prog_14_method_43_code
def yX12_clause : MethodName := ⟨RX12, "clause", "()V"⟩
abbrev cX12_rules : ByteArray := prog_14_method_44_code
def yX12_rules : MethodName := ⟨RX12, "rules", "(I)I"⟩
abbrev cX12_stands : ByteArray := prog_14_method_45_code
def yX12_stands : MethodName := ⟨RX12, "stands", "(IIII)V"⟩
abbrev cX12_waitingFor : ByteArray := prog_14_method_46_code
def yX12_waitingFor : MethodName := ⟨RX12, "waitingFor", "(I)I"⟩
abbrev cX12_hasToys : ByteArray := prog_14_method_47_code
def yX12_hasToys : MethodName := ⟨RX12, "hasToys", "(I)I"⟩
abbrev cX12_lackingOf : ByteArray := prog_14_method_48_code
def yX12_lackingOf : MethodName := ⟨RX12, "lackingOf", "(I)I"⟩
abbrev cX12_valueOfToy : ByteArray := prog_14_method_49_code
def yX12_valueOfToy : MethodName := ⟨RX12, "valueOfToy", "(I)I"⟩
abbrev cX12_valueOf : ByteArray := prog_14_method_50_code
def yX12_valueOf : MethodName := ⟨RX12, "valueOf", "(I)I"⟩
abbrev cX12_worked : ByteArray := prog_14_method_51_code
def yX12_worked : MethodName := ⟨RX12, "worked", "(III)I"⟩
abbrev cX12_does : ByteArray := prog_14_method_52_code
def yX12_does : MethodName := ⟨RX12, "does", "(II)V"⟩
abbrev cX12_works : ByteArray := prog_14_method_53_code
def yX12_works : MethodName := ⟨RX12, "works", "(II)V"⟩
abbrev cX12_holds : ByteArray := prog_14_method_54_code
def yX12_holds : MethodName := ⟨RX12, "holds", "(I)Z"⟩
abbrev cX12_tells : ByteArray := prog_14_method_55_code
def yX12_tells : MethodName := ⟨RX12, "tells", "(IIII)I"⟩
abbrev cX12_some : ByteArray := prog_14_method_56_code
def yX12_some : MethodName := ⟨RX12, "some", "(I)Z"⟩
abbrev cX12_all : ByteArray := prog_14_method_57_code
def yX12_all : MethodName := ⟨RX12, "all", "(I)Z"⟩
abbrev cX12_isOf : ByteArray := prog_14_method_58_code
def yX12_isOf : MethodName := ⟨RX12, "isOf", "(II)Z"⟩
abbrev cX12_isRecalled : ByteArray := prog_14_method_59_code
def yX12_isRecalled : MethodName := ⟨RX12, "isRecalled", "(I)Z"⟩
abbrev cX12_isBarred : ByteArray := prog_14_method_60_code
def yX12_isBarred : MethodName := ⟨RX12, "isBarred", "(II)Z"⟩
abbrev cX12_hadNow : ByteArray := prog_14_method_61_code
def yX12_hadNow : MethodName := ⟨RX12, "hadNow", "(I)I"⟩
abbrev cX12_recall : ByteArray := prog_14_method_62_code
def yX12_recall : MethodName := ⟨RX12, "recall", "(III)I"⟩
abbrev cX12_isRecall : ByteArray := prog_14_method_63_code
def yX12_isRecall : MethodName := ⟨RX12, "isRecall", "(I)Z"⟩
abbrev cX12_told : ByteArray := prog_14_method_64_code
def yX12_told : MethodName := ⟨RX12, "told", "(II)Z"⟩
abbrev cX12_recalled : ByteArray := prog_14_method_65_code
def yX12_recalled : MethodName := ⟨RX12, "recalled", "(II)I"⟩
abbrev cX12_gift : ByteArray := prog_14_method_66_code
def yX12_gift : MethodName := ⟨RX12, "gift", "(III)Z"⟩
abbrev cX12_writes : ByteArray := prog_14_method_67_code
def yX12_writes : MethodName := ⟨RX12, "writes", "(II)V"⟩
abbrev cX12_notFor : ByteArray := prog_14_method_68_code
def yX12_notFor : MethodName := ⟨RX12, "notFor", "(II)I"⟩
abbrev cX12_not : ByteArray := prog_14_method_69_code
def yX12_not : MethodName := ⟨RX12, "not", "(II)I"⟩
abbrev cX12_lend : ByteArray := prog_14_method_70_code
def yX12_lend : MethodName := ⟨RX12, "lend", "(II)I"⟩
abbrev cX12_back : ByteArray := prog_14_method_71_code
def yX12_back : MethodName := ⟨RX12, "back", "(I)I"⟩
abbrev cX12_comes : ByteArray := prog_14_method_72_code
def yX12_comes : MethodName := ⟨RX12, "comes", "(II)V"⟩
abbrev cX12_lost : ByteArray := prog_14_method_73_code
def yX12_lost : MethodName := ⟨RX12, "lost", "(I)I"⟩
abbrev cX12_wash : ByteArray := prog_14_method_74_code
def yX12_wash : MethodName := ⟨RX12, "wash", "(I)Z"⟩
abbrev cX12_bagOf : ByteArray := prog_14_method_75_code
def yX12_bagOf : MethodName := ⟨RX12, "bagOf", "(I)I"⟩
abbrev cX12_toyIs : ByteArray := prog_14_method_76_code
def yX12_toyIs : MethodName := ⟨RX12, "toyIs", "(II)I"⟩
abbrev cX12_goesOn : ByteArray := prog_14_method_77_code
def yX12_goesOn : MethodName := ⟨RX12, "goesOn", "(I)Z"⟩
abbrev cX12_weighs : ByteArray := prog_14_method_78_code
def yX12_weighs : MethodName := ⟨RX12, "weighs", "(III)V"⟩
abbrev cX12_weigh : ByteArray := prog_14_method_79_code
def yX12_weigh : MethodName := ⟨RX12, "weigh", "(IIII)I"⟩
abbrev cX12_isSpare : ByteArray := prog_14_method_80_code
def yX12_isSpare : MethodName := ⟨RX12, "isSpare", "(II)Z"⟩
abbrev cX12_wholeOf : ByteArray := prog_14_method_81_code
def yX12_wholeOf : MethodName := ⟨RX12, "wholeOf", "(I)I"⟩
abbrev cX12_whole : ByteArray := prog_14_method_82_code
def yX12_whole : MethodName := ⟨RX12, "whole", "(II)I"⟩
abbrev cX12_waits : ByteArray := prog_14_method_83_code
def yX12_waits : MethodName := ⟨RX12, "waits", "(II)Z"⟩
abbrev cX12_leaves : ByteArray := prog_14_method_84_code
def yX12_leaves : MethodName := ⟨RX12, "leaves", "(II)Z"⟩
abbrev cX12_turnOf : ByteArray := prog_14_method_85_code
def yX12_turnOf : MethodName := ⟨RX12, "turnOf", "(II)I"⟩
abbrev cX12_next : ByteArray := prog_14_method_86_code
def yX12_next : MethodName := ⟨RX12, "next", "(II)I"⟩
abbrev cX12_thereOf : ByteArray := prog_14_method_87_code
def yX12_thereOf : MethodName := ⟨RX12, "thereOf", "(I)I"⟩
abbrev cX12_servedOf : ByteArray := prog_14_method_88_code
def yX12_servedOf : MethodName := ⟨RX12, "servedOf", "(III)I"⟩
abbrev cX12_buying : ByteArray := prog_14_method_89_code
def yX12_buying : MethodName := ⟨RX12, "buying", "(III)I"⟩
abbrev cX12_pairsOf : ByteArray := prog_14_method_90_code
def yX12_pairsOf : MethodName := ⟨RX12, "pairsOf", "(II)I"⟩
abbrev cX12_van : ByteArray := prog_14_method_91_code
def yX12_van : MethodName := ⟨RX12, "van", "(III)I"⟩
abbrev cX12_minutes : ByteArray := prog_14_method_92_code
def yX12_minutes : MethodName := ⟨RX12, "minutes", "(II)Z"⟩
abbrev cX12_mendTime : ByteArray := prog_14_method_93_code
def yX12_mendTime : MethodName := ⟨RX12, "mendTime", "(I)I"⟩
abbrev cX12_canMend : ByteArray := prog_14_method_94_code
def yX12_canMend : MethodName := ⟨RX12, "canMend", "(I)Z"⟩
abbrev cX12_mending : ByteArray := prog_14_method_95_code
def yX12_mending : MethodName := ⟨RX12, "mending", "(II)I"⟩
abbrev cX12_mend : ByteArray := prog_14_method_96_code
def yX12_mend : MethodName := ⟨RX12, "mend", "(I)I"⟩
abbrev cX12_isToWash : ByteArray := prog_14_method_97_code
def yX12_isToWash : MethodName := ⟨RX12, "isToWash", "(I)Z"⟩
abbrev cX12_rota : ByteArray := prog_14_method_98_code
def yX12_rota : MethodName := ⟨RX12, "rota", "(II)I"⟩
abbrev cX12_owes : ByteArray := prog_14_method_99_code
def yX12_owes : MethodName := ⟨RX12, "owes", "(I)I"⟩
abbrev cX12_pays : ByteArray := prog_14_method_100_code
def yX12_pays : MethodName := ⟨RX12, "pays", "(II)I"⟩
abbrev cX12_forgiving : ByteArray := prog_14_method_101_code
def yX12_forgiving : MethodName := ⟨RX12, "forgiving", "(I)I"⟩
abbrev cX12_peak : ByteArray := prog_14_method_102_code
def yX12_peak : MethodName := ⟨RX12, "peak", "(I)I"⟩
abbrev cX12_isTooOld : ByteArray := prog_14_method_103_code
def yX12_isTooOld : MethodName := ⟨RX12, "isTooOld", "(I)Z"⟩
abbrev cX12_isBarredForAll : ByteArray := prog_14_method_104_code
def yX12_isBarredForAll : MethodName := ⟨RX12, "isBarredForAll", "(I)Z"⟩
abbrev cX12_whyOf : ByteArray := prog_14_method_105_code
def yX12_whyOf : MethodName := ⟨RX12, "whyOf", "(II)I"⟩
abbrev cX12_unwanted : ByteArray := prog_14_method_106_code
def yX12_unwanted : MethodName := ⟨RX12, "unwanted", "(I)I"⟩
abbrev cX12_why : ByteArray := prog_14_method_107_code
def yX12_why : MethodName := ⟨RX12, "why", "(II)I"⟩
abbrev cX12_cull : ByteArray := prog_14_method_108_code
def yX12_cull : MethodName := ⟨RX12, "cull", "(I)Z"⟩
abbrev cX12_where : ByteArray := prog_14_method_109_code
def yX12_where : MethodName := ⟨RX12, "where", "(III)I"⟩
abbrev cX12_numberAt : ByteArray := prog_14_method_110_code
def yX12_numberAt : MethodName := ⟨RX12, "numberAt", "(I)I"⟩
abbrev cX12_check : ByteArray := prog_14_method_111_code
def yX12_check : MethodName := ⟨RX12, "check", "(II)I"⟩
abbrev cX12_count : ByteArray := prog_14_method_112_code
def yX12_count : MethodName := ⟨RX12, "count", "(I)I"⟩
def RJx145de : String := "java/io/Serializable"
def TJx145de : u_T := fun k => match k with
  | _ => ("", "", "", false)
def tyJx145de : Nat → FieldType := fun k => match k with
  | _ => .int
abbrev wsJx145de0 : List Cond := u_ws RJx145de TJx145de 0
theorem nmJx145de : ∀ a, a < 0 → ∀ b, b < 0 → a ≠ b → (TJx145de a).2.1 ≠ (TJx145de b).2.1 := by decide +kernel
theorem tyJx145de_ok : ∀ k, k < 0 → parseFieldDescriptor (TJx145de k).2.2.1 = some (tyJx145de k) := by decide +kernel
def RJx9f9b0 : String := "java/lang/CharSequence"
def TJx9f9b0 : u_T := fun k => match k with
  | _ => ("", "", "", false)
def tyJx9f9b0 : Nat → FieldType := fun k => match k with
  | _ => .int
abbrev wsJx9f9b00 : List Cond := u_ws RJx9f9b0 TJx9f9b0 0
theorem nmJx9f9b0 : ∀ a, a < 0 → ∀ b, b < 0 → a ≠ b → (TJx9f9b0 a).2.1 ≠ (TJx9f9b0 b).2.1 := by decide +kernel
theorem tyJx9f9b0_ok : ∀ k, k < 0 → parseFieldDescriptor (TJx9f9b0 k).2.2.1 = some (tyJx9f9b0 k) := by decide +kernel
def RJ11 : String := "java/lang/Character"
def TJ11 : u_T := fun k => match k with
  | _ => ("", "", "", false)
def tyJ11 : Nat → FieldType := fun k => match k with
  | _ => .int
abbrev wsJ110 : List Cond := u_ws RJ11 TJ11 0
theorem nmJ11 : ∀ a, a < 0 → ∀ b, b < 0 → a ≠ b → (TJ11 a).2.1 ≠ (TJ11 b).2.1 := by decide +kernel
theorem tyJ11_ok : ∀ k, k < 0 → parseFieldDescriptor (TJ11 k).2.2.1 = some (tyJ11 k) := by decide +kernel
abbrev cJ11_isValidCodePoint_9a6ad : ByteArray := prog_17_method_11_code
def yJ11_isValidCodePoint_9a6ad : MethodName := ⟨RJ11, "isValidCodePoint", "(I)Z"⟩
abbrev cJ11_highSurrogate_5068e : ByteArray := prog_17_method_28_code
def yJ11_highSurrogate_5068e : MethodName := ⟨RJ11, "highSurrogate", "(I)C"⟩
abbrev cJ11_lowSurrogate_5068e : ByteArray := prog_17_method_29_code
def yJ11_lowSurrogate_5068e : MethodName := ⟨RJ11, "lowSurrogate", "(I)C"⟩
def RJx8e188 : String := "java/lang/Cloneable"
def TJx8e188 : u_T := fun k => match k with
  | _ => ("", "", "", false)
def tyJx8e188 : Nat → FieldType := fun k => match k with
  | _ => .int
abbrev wsJx8e1880 : List Cond := u_ws RJx8e188 TJx8e188 0
theorem nmJx8e188 : ∀ a, a < 0 → ∀ b, b < 0 → a ≠ b → (TJx8e188 a).2.1 ≠ (TJx8e188 b).2.1 := by decide +kernel
theorem tyJx8e188_ok : ∀ k, k < 0 → parseFieldDescriptor (TJx8e188 k).2.2.1 = some (tyJx8e188 k) := by decide +kernel
def RJxb160c : String := "java/lang/Comparable"
def TJxb160c : u_T := fun k => match k with
  | _ => ("", "", "", false)
def tyJxb160c : Nat → FieldType := fun k => match k with
  | _ => .int
abbrev wsJxb160c0 : List Cond := u_ws RJxb160c TJxb160c 0
theorem nmJxb160c : ∀ a, a < 0 → ∀ b, b < 0 → a ≠ b → (TJxb160c a).2.1 ≠ (TJxb160c b).2.1 := by decide +kernel
theorem tyJxb160c_ok : ∀ k, k < 0 → parseFieldDescriptor (TJxb160c k).2.2.1 = some (tyJxb160c k) := by decide +kernel
def RJ6 : String := "java/lang/Integer"
def TJ6 : u_T := fun k => match k with
  | _ => ("", "", "", false)
def tyJ6 : Nat → FieldType := fun k => match k with
  | _ => .int
abbrev wsJ60 : List Cond := u_ws RJ6 TJ6 0
theorem nmJ6 : ∀ a, a < 0 → ∀ b, b < 0 → a ≠ b → (TJ6 a).2.1 ≠ (TJ6 b).2.1 := by decide +kernel
theorem tyJ6_ok : ∀ k, k < 0 → parseFieldDescriptor (TJ6 k).2.2.1 = some (tyJ6 k) := by decide +kernel
abbrev cJ6_bitCount_0f7a4 : ByteArray := prog_20_method_49_code
def yJ6_bitCount_0f7a4 : MethodName := ⟨RJ6, "bitCount", "(I)I"⟩
def RJxab1ab : String := "java/lang/Iterable"
def TJxab1ab : u_T := fun k => match k with
  | _ => ("", "", "", false)
def tyJxab1ab : Nat → FieldType := fun k => match k with
  | _ => .int
abbrev wsJxab1ab0 : List Cond := u_ws RJxab1ab TJxab1ab 0
theorem nmJxab1ab : ∀ a, a < 0 → ∀ b, b < 0 → a ≠ b → (TJxab1ab a).2.1 ≠ (TJxab1ab b).2.1 := by decide +kernel
theorem tyJxab1ab_ok : ∀ k, k < 0 → parseFieldDescriptor (TJxab1ab k).2.2.1 = some (tyJxab1ab k) := by decide +kernel
def RJ9 : String := "java/lang/Math"
def TJ9 : u_T := fun k => match k with
  | _ => ("", "", "", false)
def tyJ9 : Nat → FieldType := fun k => match k with
  | _ => .int
abbrev wsJ90 : List Cond := u_ws RJ9 TJ9 0
theorem nmJ9 : ∀ a, a < 0 → ∀ b, b < 0 → a ≠ b → (TJ9 a).2.1 ≠ (TJ9 b).2.1 := by decide +kernel
theorem tyJ9_ok : ∀ k, k < 0 → parseFieldDescriptor (TJ9 k).2.2.1 = some (tyJ9 k) := by decide +kernel
abbrev cJ9_max_7cf53 : ByteArray := prog_22_method_65_code
def yJ9_max_7cf53 : MethodName := ⟨RJ9, "max", "(II)I"⟩
abbrev cJ9_min_7cf53 : ByteArray := prog_22_method_69_code
def yJ9_min_7cf53 : MethodName := ⟨RJ9, "min", "(II)I"⟩
def RJ0 : String := "java/lang/String"
def TJ0 : u_T := fun k => match k with
  | _ => ("", "", "", false)
def tyJ0 : Nat → FieldType := fun k => match k with
  | _ => .int
abbrev wsJ00 : List Cond := u_ws RJ0 TJ0 0
theorem nmJ0 : ∀ a, a < 0 → ∀ b, b < 0 → a ≠ b → (TJ0 a).2.1 ≠ (TJ0 b).2.1 := by decide +kernel
theorem tyJ0_ok : ∀ k, k < 0 → parseFieldDescriptor (TJ0 k).2.2.1 = some (tyJ0 k) := by decide +kernel
abbrev cJ0_length_8abf5 : ByteArray := prog_23_method_54_code
def yJ0_length_8abf5 : MethodName := ⟨RJ0, "length", "()I"⟩
abbrev cJ0_indexOf_0f7a4 : ByteArray := prog_23_method_79_code
def yJ0_indexOf_0f7a4 : MethodName := ⟨RJ0, "indexOf", "(I)I"⟩
abbrev cJ0_indexOf_7cf53 : ByteArray := prog_23_method_80_code
def yJ0_indexOf_7cf53 : MethodName := ⟨RJ0, "indexOf", "(II)I"⟩
abbrev cJ0_coder_7d493 : ByteArray := prog_23_method_152_code
def yJ0_coder_7d493 : MethodName := ⟨RJ0, "coder", "()B"⟩
abbrev cJ0_isLatin1_aae02 : ByteArray := prog_23_method_154_code
def yJ0_isLatin1_aae02 : MethodName := ⟨RJ0, "isLatin1", "()Z"⟩
abbrev cJ0_checkBoundsBeginEnd_23922 : ByteArray := prog_23_method_158_code
def yJ0_checkBoundsBeginEnd_23922 : MethodName := ⟨RJ0, "checkBoundsBeginEnd", "(III)V"⟩
def RJ1 : String := "java/lang/StringLatin1"
def TJ1 : u_T := fun k => match k with
  | _ => ("", "", "", false)
def tyJ1 : Nat → FieldType := fun k => match k with
  | _ => .int
abbrev wsJ10 : List Cond := u_ws RJ1 TJ1 0
theorem nmJ1 : ∀ a, a < 0 → ∀ b, b < 0 → a ≠ b → (TJ1 a).2.1 ≠ (TJ1 b).2.1 := by decide +kernel
theorem tyJ1_ok : ∀ k, k < 0 → parseFieldDescriptor (TJ1 k).2.2.1 = some (tyJ1 k) := by decide +kernel
abbrev cJ1_canEncode_9a6ad : ByteArray := prog_24_method_4_code
def yJ1_canEncode_9a6ad : MethodName := ⟨RJ1, "canEncode", "(I)Z"⟩
abbrev cJ1_indexOf_4cfef : ByteArray := prog_24_method_22_code
def yJ1_indexOf_4cfef : MethodName := ⟨RJ1, "indexOf", "([BIII)I"⟩
abbrev cJ1_indexOfChar_4cfef : ByteArray := prog_24_method_23_code
def yJ1_indexOfChar_4cfef : MethodName := ⟨RJ1, "indexOfChar", "([BIII)I"⟩
def RJ2 : String := "java/lang/StringUTF16"
def TJ2 : u_T := fun k => match k with
  | _ => ("", "", "", false)
def tyJ2 : Nat → FieldType := fun k => match k with
  | _ => .int
abbrev wsJ20 : List Cond := u_ws RJ2 TJ2 0
theorem nmJ2 : ∀ a, a < 0 → ∀ b, b < 0 → a ≠ b → (TJ2 a).2.1 ≠ (TJ2 b).2.1 := by decide +kernel
theorem tyJ2_ok : ∀ k, k < 0 → parseFieldDescriptor (TJ2 k).2.2.1 = some (tyJ2 k) := by decide +kernel
abbrev cJ2_getChar_3b067 : ByteArray := prog_25_method_5_code
def yJ2_getChar_3b067 : MethodName := ⟨RJ2, "getChar", "([BI)C"⟩
abbrev cJ2_length_9d52b : ByteArray := prog_25_method_6_code
def yJ2_length_9d52b : MethodName := ⟨RJ2, "length", "([B)I"⟩
abbrev cJ2_indexOf_4cfef : ByteArray := prog_25_method_40_code
def yJ2_indexOf_4cfef : MethodName := ⟨RJ2, "indexOf", "([BIII)I"⟩
abbrev cJ2_indexOfChar_4cfef : ByteArray := prog_25_method_47_code
def yJ2_indexOfChar_4cfef : MethodName := ⟨RJ2, "indexOfChar", "([BIII)I"⟩
abbrev cJ2_indexOfCharUnsafe_4cfef : ByteArray := prog_25_method_48_code
def yJ2_indexOfCharUnsafe_4cfef : MethodName := ⟨RJ2, "indexOfCharUnsafe", "([BIII)I"⟩
abbrev cJ2_indexOfSupplementary_4cfef : ByteArray := prog_25_method_49_code
def yJ2_indexOfSupplementary_4cfef : MethodName := ⟨RJ2, "indexOfSupplementary", "([BIII)I"⟩
abbrev cJ2_checkBoundsBeginEnd_d044e : ByteArray := prog_25_method_93_code
def yJ2_checkBoundsBeginEnd_d044e : MethodName := ⟨RJ2, "checkBoundsBeginEnd", "(II[B)V"⟩
def RJ10 : String := "java/lang/System"
def TJ10 : u_T := fun k => match k with
  | _ => ("", "", "", false)
def tyJ10 : Nat → FieldType := fun k => match k with
  | _ => .int
abbrev wsJ100 : List Cond := u_ws RJ10 TJ10 0
theorem nmJ10 : ∀ a, a < 0 → ∀ b, b < 0 → a ≠ b → (TJ10 a).2.1 ≠ (TJ10 b).2.1 := by decide +kernel
theorem tyJ10_ok : ∀ k, k < 0 → parseFieldDescriptor (TJ10 k).2.2.1 = some (tyJ10 k) := by decide +kernel
def RJxfd54e : String := "java/lang/constant/Constable"
def TJxfd54e : u_T := fun k => match k with
  | _ => ("", "", "", false)
def tyJxfd54e : Nat → FieldType := fun k => match k with
  | _ => .int
abbrev wsJxfd54e0 : List Cond := u_ws RJxfd54e TJxfd54e 0
theorem nmJxfd54e : ∀ a, a < 0 → ∀ b, b < 0 → a ≠ b → (TJxfd54e a).2.1 ≠ (TJxfd54e b).2.1 := by decide +kernel
theorem tyJxfd54e_ok : ∀ k, k < 0 → parseFieldDescriptor (TJxfd54e k).2.2.1 = some (tyJxfd54e k) := by decide +kernel
def RJx3cf43 : String := "java/lang/constant/ConstantDesc"
def TJx3cf43 : u_T := fun k => match k with
  | _ => ("", "", "", false)
def tyJx3cf43 : Nat → FieldType := fun k => match k with
  | _ => .int
abbrev wsJx3cf430 : List Cond := u_ws RJx3cf43 TJx3cf43 0
theorem nmJx3cf43 : ∀ a, a < 0 → ∀ b, b < 0 → a ≠ b → (TJx3cf43 a).2.1 ≠ (TJx3cf43 b).2.1 := by decide +kernel
theorem tyJx3cf43_ok : ∀ k, k < 0 → parseFieldDescriptor (TJx3cf43 k).2.2.1 = some (tyJx3cf43 k) := by decide +kernel
def RJxa1e45 : String := "java/util/AbstractCollection"
def TJxa1e45 : u_T := fun k => match k with
  | _ => ("", "", "", false)
def tyJxa1e45 : Nat → FieldType := fun k => match k with
  | _ => .int
abbrev wsJxa1e450 : List Cond := u_ws RJxa1e45 TJxa1e45 0
theorem nmJxa1e45 : ∀ a, a < 0 → ∀ b, b < 0 → a ≠ b → (TJxa1e45 a).2.1 ≠ (TJxa1e45 b).2.1 := by decide +kernel
theorem tyJxa1e45_ok : ∀ k, k < 0 → parseFieldDescriptor (TJxa1e45 k).2.2.1 = some (tyJxa1e45 k) := by decide +kernel
abbrev cJxa1e45_init_da8c8 : ByteArray := prog_29_method_1_code
def yJxa1e45_init_da8c8 : MethodName := ⟨RJxa1e45, "<init>", "()V"⟩
def RJxc12de : String := "java/util/AbstractList"
def TJxc12de : u_T := fun k => match k with
  | _ => ("", "", "", false)
def tyJxc12de : Nat → FieldType := fun k => match k with
  | _ => .int
abbrev wsJxc12de0 : List Cond := u_ws RJxc12de TJxc12de 0
theorem nmJxc12de : ∀ a, a < 0 → ∀ b, b < 0 → a ≠ b → (TJxc12de a).2.1 ≠ (TJxc12de b).2.1 := by decide +kernel
theorem tyJxc12de_ok : ∀ k, k < 0 → parseFieldDescriptor (TJxc12de k).2.2.1 = some (tyJxc12de k) := by decide +kernel
abbrev cJxc12de_init_da8c8 : ByteArray := prog_30_method_1_code
def yJxc12de_init_da8c8 : MethodName := ⟨RJxc12de, "<init>", "()V"⟩
def RJx4a65c : String := "java/util/ArrayList"
def TJx4a65c : u_T := fun k => match k with
  | 0 => ("java/util/AbstractList", "modCount", "I", false)
  | 1 => ("java/util/ArrayList", "elementData", "[Ljava/lang/Object;", false)
  | _ => ("java/util/ArrayList", "size", "I", false)
def tyJx4a65c : Nat → FieldType := fun k => match k with
  | 0 => .int
  | 1 => .array (.object "java/lang/Object")
  | _ => .int
abbrev wsJx4a65c0 : List Cond := u_ws RJx4a65c TJx4a65c 3
theorem nmJx4a65c : ∀ a, a < 3 → ∀ b, b < 3 → a ≠ b → (TJx4a65c a).2.1 ≠ (TJx4a65c b).2.1 := by decide +kernel
theorem tyJx4a65c_ok : ∀ k, k < 3 → parseFieldDescriptor (TJx4a65c k).2.2.1 = some (tyJx4a65c k) := by decide +kernel
abbrev cJx4a65c_init_da8c8 : ByteArray := prog_31_method_2_code
def yJx4a65c_init_da8c8 : MethodName := ⟨RJx4a65c, "<init>", "()V"⟩
abbrev cJx4a65c_grow_92f84 : ByteArray := prog_31_method_6_code
def yJx4a65c_grow_92f84 : MethodName := ⟨RJx4a65c, "grow", "(I)[Ljava/lang/Object;"⟩
abbrev cJx4a65c_grow_d5877 : ByteArray := prog_31_method_7_code
def yJx4a65c_grow_d5877 : MethodName := ⟨RJx4a65c, "grow", "()[Ljava/lang/Object;"⟩
abbrev cJx4a65c_size_8abf5 : ByteArray := prog_31_method_8_code
def yJx4a65c_size_8abf5 : MethodName := ⟨RJx4a65c, "size", "()I"⟩
abbrev cJx4a65c_elementData_915e3 : ByteArray := prog_31_method_18_code
def yJx4a65c_elementData_915e3 : MethodName := ⟨RJx4a65c, "elementData", "(I)Ljava/lang/Object;"⟩
abbrev cJx4a65c_get_915e3 : ByteArray := prog_31_method_20_code
def yJx4a65c_get_915e3 : MethodName := ⟨RJx4a65c, "get", "(I)Ljava/lang/Object;"⟩
abbrev cJx4a65c_add_72be8 : ByteArray := prog_31_method_24_code
def yJx4a65c_add_72be8 : MethodName := ⟨RJx4a65c, "add", "(Ljava/lang/Object;[Ljava/lang/Object;I)V"⟩
abbrev cJx4a65c_add_9ea2d : ByteArray := prog_31_method_25_code
def yJx4a65c_add_9ea2d : MethodName := ⟨RJx4a65c, "add", "(Ljava/lang/Object;)Z"⟩
def RJ7 : String := "java/util/Arrays"
def TJ7 : u_T := fun k => match k with
  | _ => ("", "", "", false)
def tyJ7 : Nat → FieldType := fun k => match k with
  | _ => .int
abbrev wsJ70 : List Cond := u_ws RJ7 TJ7 0
theorem nmJ7 : ∀ a, a < 0 → ∀ b, b < 0 → a ≠ b → (TJ7 a).2.1 ≠ (TJ7 b).2.1 := by decide +kernel
theorem tyJ7_ok : ∀ k, k < 0 → parseFieldDescriptor (TJ7 k).2.2.1 = some (tyJ7 k) := by decide +kernel
abbrev cJ7_fill_53178 : ByteArray := prog_32_method_103_code
def yJ7_fill_53178 : MethodName := ⟨RJ7, "fill", "([II)V"⟩
abbrev cJ7_copyOf_1904c : ByteArray := prog_32_method_119_code
def yJ7_copyOf_1904c : MethodName := ⟨RJ7, "copyOf", "([Ljava/lang/Object;I)[Ljava/lang/Object;"⟩
abbrev cJ7_copyOf_6403c : ByteArray := prog_32_method_120_code
def yJ7_copyOf_6403c : MethodName := ⟨RJ7, "copyOf", "([Ljava/lang/Object;ILjava/lang/Class;)[Ljava/lang/Object;"⟩
def RJx5ef63 : String := "java/util/Collection"
def TJx5ef63 : u_T := fun k => match k with
  | _ => ("", "", "", false)
def tyJx5ef63 : Nat → FieldType := fun k => match k with
  | _ => .int
abbrev wsJx5ef630 : List Cond := u_ws RJx5ef63 TJx5ef63 0
theorem nmJx5ef63 : ∀ a, a < 0 → ∀ b, b < 0 → a ≠ b → (TJx5ef63 a).2.1 ≠ (TJx5ef63 b).2.1 := by decide +kernel
theorem tyJx5ef63_ok : ∀ k, k < 0 → parseFieldDescriptor (TJx5ef63 k).2.2.1 = some (tyJx5ef63 k) := by decide +kernel
def RJxbd725 : String := "java/util/List"
def TJxbd725 : u_T := fun k => match k with
  | _ => ("", "", "", false)
def tyJxbd725 : Nat → FieldType := fun k => match k with
  | _ => .int
abbrev wsJxbd7250 : List Cond := u_ws RJxbd725 TJxbd725 0
theorem nmJxbd725 : ∀ a, a < 0 → ∀ b, b < 0 → a ≠ b → (TJxbd725 a).2.1 ≠ (TJxbd725 b).2.1 := by decide +kernel
theorem tyJxbd725_ok : ∀ k, k < 0 → parseFieldDescriptor (TJxbd725 k).2.2.1 = some (tyJxbd725 k) := by decide +kernel
def RJ15 : String := "java/util/Objects"
def TJ15 : u_T := fun k => match k with
  | _ => ("", "", "", false)
def tyJ15 : Nat → FieldType := fun k => match k with
  | _ => .int
abbrev wsJ150 : List Cond := u_ws RJ15 TJ15 0
theorem nmJ15 : ∀ a, a < 0 → ∀ b, b < 0 → a ≠ b → (TJ15 a).2.1 ≠ (TJ15 b).2.1 := by decide +kernel
theorem tyJ15_ok : ∀ k, k < 0 → parseFieldDescriptor (TJ15 k).2.2.1 = some (tyJ15 k) := by decide +kernel
abbrev cJ15_checkIndex_7cf53 : ByteArray := prog_35_method_17_code
def yJ15_checkIndex_7cf53 : MethodName := ⟨RJ15, "checkIndex", "(II)I"⟩
def RJxf0a74 : String := "java/util/RandomAccess"
def TJxf0a74 : u_T := fun k => match k with
  | _ => ("", "", "", false)
def tyJxf0a74 : Nat → FieldType := fun k => match k with
  | _ => .int
abbrev wsJxf0a740 : List Cond := u_ws RJxf0a74 TJxf0a74 0
theorem nmJxf0a74 : ∀ a, a < 0 → ∀ b, b < 0 → a ≠ b → (TJxf0a74 a).2.1 ≠ (TJxf0a74 b).2.1 := by decide +kernel
theorem tyJxf0a74_ok : ∀ k, k < 0 → parseFieldDescriptor (TJxf0a74 k).2.2.1 = some (tyJxf0a74 k) := by decide +kernel
def RJxa66e6 : String := "java/util/SequencedCollection"
def TJxa66e6 : u_T := fun k => match k with
  | _ => ("", "", "", false)
def tyJxa66e6 : Nat → FieldType := fun k => match k with
  | _ => .int
abbrev wsJxa66e60 : List Cond := u_ws RJxa66e6 TJxa66e6 0
theorem nmJxa66e6 : ∀ a, a < 0 → ∀ b, b < 0 → a ≠ b → (TJxa66e6 a).2.1 ≠ (TJxa66e6 b).2.1 := by decide +kernel
theorem tyJxa66e6_ok : ∀ k, k < 0 → parseFieldDescriptor (TJxa66e6 k).2.2.1 = some (tyJxa66e6 k) := by decide +kernel
def RJ8 : String := "jdk/internal/util/ArraysSupport"
def TJ8 : u_T := fun k => match k with
  | _ => ("", "", "", false)
def tyJ8 : Nat → FieldType := fun k => match k with
  | _ => .int
abbrev wsJ80 : List Cond := u_ws RJ8 TJ8 0
theorem nmJ8 : ∀ a, a < 0 → ∀ b, b < 0 → a ≠ b → (TJ8 a).2.1 ≠ (TJ8 b).2.1 := by decide +kernel
theorem tyJ8_ok : ∀ k, k < 0 → parseFieldDescriptor (TJ8 k).2.2.1 = some (tyJ8 k) := by decide +kernel
abbrev cJ8_newLength_cabcc : ByteArray := prog_38_method_27_code
def yJ8_newLength_cabcc : MethodName := ⟨RJ8, "newLength", "(III)I"⟩
abbrev cJ8_hugeLength_7cf53 : ByteArray := prog_38_method_28_code
def yJ8_hugeLength_7cf53 : MethodName := ⟨RJ8, "hugeLength", "(II)I"⟩
def RJ3 : String := "jdk/internal/util/Preconditions"
def TJ3 : u_T := fun k => match k with
  | _ => ("", "", "", false)
def tyJ3 : Nat → FieldType := fun k => match k with
  | _ => .int
abbrev wsJ30 : List Cond := u_ws RJ3 TJ3 0
theorem nmJ3 : ∀ a, a < 0 → ∀ b, b < 0 → a ≠ b → (TJ3 a).2.1 ≠ (TJ3 b).2.1 := by decide +kernel
theorem tyJ3_ok : ∀ k, k < 0 → parseFieldDescriptor (TJ3 k).2.2.1 = some (tyJ3 k) := by decide +kernel
abbrev cJ3_checkIndex_8e157 : ByteArray := prog_39_method_11_code
def yJ3_checkIndex_8e157 : MethodName := ⟨RJ3, "checkIndex", "(IILjava/util/function/BiFunction;)I"⟩
abbrev cJ3_checkFromToIndex_8c36e : ByteArray := prog_39_method_12_code
def yJ3_checkFromToIndex_8c36e : MethodName := ⟨RJ3, "checkFromToIndex", "(IIILjava/util/function/BiFunction;)I"⟩
def RL : String := "ToyHouseLaw"
abbrev cL_law : ByteArray := code
def yL_law : MethodName := ⟨RL, "law", "([I)Z"⟩
abbrev vwCl : List vw_C := [(RJx4a65c, TJx4a65c, 3), (RX0, TX0, 6), (RX1, TX1, 7), (RX2, TX2, 8), (RX3, TX3, 3), (RX4, TX4, 6), (RX5, TX5, 5), (RX6, TX6, 13), (RX7, TX7, 10), (RX8, TX8, 15), (RX9, TX9, 11), (RX10, TX10, 9), (RX11, TX11, 20), (RX12, TX12, 92)]
