-- ===== PART A: goes FIRST, ahead of the names: the tables' words, and 'selects' of the private methods out of them =====
/-- a private method of a class that the tables say can be made, by its rows of tables_1 -/
def lw_okq (q : MethodName × Nat) : Prop := (q.1.cls ≠ "java/lang/invoke/MethodHandle" ∧ q.1.cls ≠ "java/lang/invoke/VarHandle") ∧ Cond.instantiable q.1.cls q.2 ∈ tables_1 ∧ Cond.privateMethod q.1 ∈ tables_1 ∧ Cond.instanceMethod q.1 ∈ tables_1
theorem lw_p0 : lw_okq (⟨"KnockFinder", "isSeen", "(I)Z"⟩, 18) := ⟨⟨by decide +kernel, by decide +kernel⟩, List.mem_of_getElem? (i := 29) (by decide +kernel), List.mem_of_getElem? (i := 468) (by decide +kernel), List.mem_of_getElem? (i := 469) (by decide +kernel)⟩
theorem lw_p1 : lw_okq (⟨"KnockFinder", "beginAct", "()V"⟩, 18) := ⟨⟨by decide +kernel, by decide +kernel⟩, List.mem_of_getElem? (i := 29) (by decide +kernel), List.mem_of_getElem? (i := 504) (by decide +kernel), List.mem_of_getElem? (i := 505) (by decide +kernel)⟩
theorem lw_p2 : lw_okq (⟨"KnockFinder", "endAct", "()V"⟩, 18) := ⟨⟨by decide +kernel, by decide +kernel⟩, List.mem_of_getElem? (i := 29) (by decide +kernel), List.mem_of_getElem? (i := 540) (by decide +kernel), List.mem_of_getElem? (i := 541) (by decide +kernel)⟩
theorem lw_p3 : lw_okq (⟨"KnockFinder", "refresh", "()V"⟩, 18) := ⟨⟨by decide +kernel, by decide +kernel⟩, List.mem_of_getElem? (i := 29) (by decide +kernel), List.mem_of_getElem? (i := 547) (by decide +kernel), List.mem_of_getElem? (i := 548) (by decide +kernel)⟩
theorem lw_p4 : lw_okq (⟨"KnockFinder$Spans", "readSpan", "(LKnockFinder$Tape;)V"⟩, 3) := ⟨⟨by decide +kernel, by decide +kernel⟩, List.mem_of_getElem? (i := 79) (by decide +kernel), List.mem_of_getElem? (i := 626) (by decide +kernel), List.mem_of_getElem? (i := 627) (by decide +kernel)⟩
theorem lw_p5 : lw_okq (⟨"KnockFinder$Tape", "proofKnock", "()V"⟩, 7) := ⟨⟨by decide +kernel, by decide +kernel⟩, List.mem_of_getElem? (i := 37) (by decide +kernel), List.mem_of_getElem? (i := 648) (by decide +kernel), List.mem_of_getElem? (i := 649) (by decide +kernel)⟩
theorem lw_p6 : lw_okq (⟨"KnockFinder$Tape", "enterRounds", "(I)I"⟩, 7) := ⟨⟨by decide +kernel, by decide +kernel⟩, List.mem_of_getElem? (i := 37) (by decide +kernel), List.mem_of_getElem? (i := 658) (by decide +kernel), List.mem_of_getElem? (i := 659) (by decide +kernel)⟩
theorem lw_p7 : lw_okq (⟨"KnockFinder$Tape", "endRound", "(I)I"⟩, 7) := ⟨⟨by decide +kernel, by decide +kernel⟩, List.mem_of_getElem? (i := 37) (by decide +kernel), List.mem_of_getElem? (i := 662) (by decide +kernel), List.mem_of_getElem? (i := 663) (by decide +kernel)⟩
theorem lw_p8 : lw_okq (⟨"KnockFinder$Tape", "layKnock", "(LKnockFinder$Knocks;)I"⟩, 7) := ⟨⟨by decide +kernel, by decide +kernel⟩, List.mem_of_getElem? (i := 37) (by decide +kernel), List.mem_of_getElem? (i := 666) (by decide +kernel), List.mem_of_getElem? (i := 667) (by decide +kernel)⟩
theorem lw_p9 : lw_okq (⟨"KnockFinder$Steps", "readStep", "(LKnockFinder$Tape;)V"⟩, 3) := ⟨⟨by decide +kernel, by decide +kernel⟩, List.mem_of_getElem? (i := 124) (by decide +kernel), List.mem_of_getElem? (i := 685) (by decide +kernel), List.mem_of_getElem? (i := 686) (by decide +kernel)⟩
theorem lw_p10 : lw_okq (⟨"KnockFinder", "layBest", "(I)Z"⟩, 18) := ⟨⟨by decide +kernel, by decide +kernel⟩, List.mem_of_getElem? (i := 29) (by decide +kernel), List.mem_of_getElem? (i := 804) (by decide +kernel), List.mem_of_getElem? (i := 805) (by decide +kernel)⟩
theorem lw_p11 : lw_okq (⟨"KnockFinder", "findBestSeen", "(I)V"⟩, 18) := ⟨⟨by decide +kernel, by decide +kernel⟩, List.mem_of_getElem? (i := 29) (by decide +kernel), List.mem_of_getElem? (i := 808) (by decide +kernel), List.mem_of_getElem? (i := 809) (by decide +kernel)⟩
theorem lw_p12 : lw_okq (⟨"KnockFinder", "ready", "(LKnockFinder$Knocks;LKnockFinder$State;I)V"⟩, 18) := ⟨⟨by decide +kernel, by decide +kernel⟩, List.mem_of_getElem? (i := 29) (by decide +kernel), List.mem_of_getElem? (i := 812) (by decide +kernel), List.mem_of_getElem? (i := 813) (by decide +kernel)⟩
theorem lw_p13 : lw_okq (⟨"KnockFinder$Comber", "takeHit", "(IJJ)V"⟩, 14) := ⟨⟨by decide +kernel, by decide +kernel⟩, List.mem_of_getElem? (i := 227) (by decide +kernel), List.mem_of_getElem? (i := 840) (by decide +kernel), List.mem_of_getElem? (i := 841) (by decide +kernel)⟩
theorem lw_p14 : lw_okq (⟨"KnockFinder$Comber", "mostOff", "()I"⟩, 14) := ⟨⟨by decide +kernel, by decide +kernel⟩, List.mem_of_getElem? (i := 227) (by decide +kernel), List.mem_of_getElem? (i := 880) (by decide +kernel), List.mem_of_getElem? (i := 881) (by decide +kernel)⟩
theorem lw_p15 : lw_okq (⟨"KnockFinder$Masks", "together", "(ILKnockFinder$Masks;I)I"⟩, 6) := ⟨⟨by decide +kernel, by decide +kernel⟩, List.mem_of_getElem? (i := 313) (by decide +kernel), List.mem_of_getElem? (i := 916) (by decide +kernel), List.mem_of_getElem? (i := 917) (by decide +kernel)⟩
def lw_privs_1 : List (MethodName × Nat) := [(⟨"KnockFinder", "isSeen", "(I)Z"⟩, 18), (⟨"KnockFinder", "beginAct", "()V"⟩, 18), (⟨"KnockFinder", "endAct", "()V"⟩, 18), (⟨"KnockFinder", "refresh", "()V"⟩, 18), (⟨"KnockFinder$Spans", "readSpan", "(LKnockFinder$Tape;)V"⟩, 3), (⟨"KnockFinder$Tape", "proofKnock", "()V"⟩, 7), (⟨"KnockFinder$Tape", "enterRounds", "(I)I"⟩, 7), (⟨"KnockFinder$Tape", "endRound", "(I)I"⟩, 7), (⟨"KnockFinder$Tape", "layKnock", "(LKnockFinder$Knocks;)I"⟩, 7), (⟨"KnockFinder$Steps", "readStep", "(LKnockFinder$Tape;)V"⟩, 3), (⟨"KnockFinder", "layBest", "(I)Z"⟩, 18), (⟨"KnockFinder", "findBestSeen", "(I)V"⟩, 18), (⟨"KnockFinder", "ready", "(LKnockFinder$Knocks;LKnockFinder$State;I)V"⟩, 18), (⟨"KnockFinder$Comber", "takeHit", "(IJJ)V"⟩, 14), (⟨"KnockFinder$Comber", "mostOff", "()I"⟩, 14), (⟨"KnockFinder$Masks", "together", "(ILKnockFinder$Masks;I)I"⟩, 6)]
theorem lw_r1 : ∀ q ∈ lw_privs_1, lw_okq q := List.forall_mem_cons.mpr ⟨lw_p0, List.forall_mem_cons.mpr ⟨lw_p1, List.forall_mem_cons.mpr ⟨lw_p2, List.forall_mem_cons.mpr ⟨lw_p3, List.forall_mem_cons.mpr ⟨lw_p4, List.forall_mem_cons.mpr ⟨lw_p5, List.forall_mem_cons.mpr ⟨lw_p6, List.forall_mem_cons.mpr ⟨lw_p7, List.forall_mem_cons.mpr ⟨lw_p8, List.forall_mem_cons.mpr ⟨lw_p9, List.forall_mem_cons.mpr ⟨lw_p10, List.forall_mem_cons.mpr ⟨lw_p11, List.forall_mem_cons.mpr ⟨lw_p12, List.forall_mem_cons.mpr ⟨lw_p13, List.forall_mem_cons.mpr ⟨lw_p14, List.forall_mem_cons.mpr ⟨lw_p15, fun _ h => absurd h List.not_mem_nil⟩⟩⟩⟩⟩⟩⟩⟩⟩⟩⟩⟩⟩⟩⟩⟩
theorem lw_p16 : lw_okq (⟨"KnockFinder", "foldHits", "(LKnockFinder$Ratio;)V"⟩, 18) := ⟨⟨by decide +kernel, by decide +kernel⟩, List.mem_of_getElem? (i := 29) (by decide +kernel), List.mem_of_getElem? (i := 956) (by decide +kernel), List.mem_of_getElem? (i := 957) (by decide +kernel)⟩
theorem lw_p17 : lw_okq (⟨"KnockFinder", "depthOfEighths", "()I"⟩, 18) := ⟨⟨by decide +kernel, by decide +kernel⟩, List.mem_of_getElem? (i := 29) (by decide +kernel), List.mem_of_getElem? (i := 966) (by decide +kernel), List.mem_of_getElem? (i := 967) (by decide +kernel)⟩
theorem lw_p18 : lw_okq (⟨"KnockFinder$Chains", "link", "(IJII)V"⟩, 5) := ⟨⟨by decide +kernel, by decide +kernel⟩, List.mem_of_getElem? (i := 291) (by decide +kernel), List.mem_of_getElem? (i := 987) (by decide +kernel), List.mem_of_getElem? (i := 988) (by decide +kernel)⟩
theorem lw_p19 : lw_okq (⟨"KnockFinder$Chains", "nearestTo", "(JII)I"⟩, 5) := ⟨⟨by decide +kernel, by decide +kernel⟩, List.mem_of_getElem? (i := 291) (by decide +kernel), List.mem_of_getElem? (i := 991) (by decide +kernel), List.mem_of_getElem? (i := 992) (by decide +kernel)⟩
theorem lw_p20 : lw_okq (⟨"KnockFinder", "peel", "(LKnockFinder$Verdict;LKnockFinder$State;)V"⟩, 18) := ⟨⟨by decide +kernel, by decide +kernel⟩, List.mem_of_getElem? (i := 29) (by decide +kernel), List.mem_of_getElem? (i := 1026) (by decide +kernel), List.mem_of_getElem? (i := 1027) (by decide +kernel)⟩
theorem lw_p21 : lw_okq (⟨"KnockFinder", "firstAside", "(LKnockFinder$State;I)I"⟩, 18) := ⟨⟨by decide +kernel, by decide +kernel⟩, List.mem_of_getElem? (i := 29) (by decide +kernel), List.mem_of_getElem? (i := 1030) (by decide +kernel), List.mem_of_getElem? (i := 1031) (by decide +kernel)⟩
theorem lw_p22 : lw_okq (⟨"KnockFinder", "sumPairs", "(III)V"⟩, 18) := ⟨⟨by decide +kernel, by decide +kernel⟩, List.mem_of_getElem? (i := 29) (by decide +kernel), List.mem_of_getElem? (i := 1270) (by decide +kernel), List.mem_of_getElem? (i := 1271) (by decide +kernel)⟩
theorem lw_p23 : lw_okq (⟨"KnockFinder", "pairsAt", "(II)I"⟩, 18) := ⟨⟨by decide +kernel, by decide +kernel⟩, List.mem_of_getElem? (i := 29) (by decide +kernel), List.mem_of_getElem? (i := 1274) (by decide +kernel), List.mem_of_getElem? (i := 1275) (by decide +kernel)⟩
theorem lw_p24 : lw_okq (⟨"KnockFinder$Notes", "strengthOf", "(II)I"⟩, 3) := ⟨⟨by decide +kernel, by decide +kernel⟩, List.mem_of_getElem? (i := 141) (by decide +kernel), List.mem_of_getElem? (i := 1302) (by decide +kernel), List.mem_of_getElem? (i := 1303) (by decide +kernel)⟩
theorem lw_p25 : lw_okq (⟨"KnockFinder$Notes", "sumOfDays", "()J"⟩, 3) := ⟨⟨by decide +kernel, by decide +kernel⟩, List.mem_of_getElem? (i := 141) (by decide +kernel), List.mem_of_getElem? (i := 1306) (by decide +kernel), List.mem_of_getElem? (i := 1307) (by decide +kernel)⟩
theorem lw_p26 : lw_okq (⟨"KnockFinder$Notes", "sumOfStrengths", "(I)J"⟩, 3) := ⟨⟨by decide +kernel, by decide +kernel⟩, List.mem_of_getElem? (i := 141) (by decide +kernel), List.mem_of_getElem? (i := 1310) (by decide +kernel), List.mem_of_getElem? (i := 1311) (by decide +kernel)⟩
theorem lw_p27 : lw_okq (⟨"KnockFinderModel", "types", "(I)V"⟩, 54) := ⟨⟨by decide +kernel, by decide +kernel⟩, List.mem_of_getElem? (i := 1333) (by decide +kernel), List.mem_of_getElem? (i := 1510) (by decide +kernel), List.mem_of_getElem? (i := 1511) (by decide +kernel)⟩
theorem lw_p28 : lw_okq (⟨"KnockFinderModel", "remembers", "()V"⟩, 54) := ⟨⟨by decide +kernel, by decide +kernel⟩, List.mem_of_getElem? (i := 1333) (by decide +kernel), List.mem_of_getElem? (i := 1529) (by decide +kernel), List.mem_of_getElem? (i := 1530) (by decide +kernel)⟩
theorem lw_p29 : lw_okq (⟨"KnockFinderModel", "lays", "(III)V"⟩, 54) := ⟨⟨by decide +kernel, by decide +kernel⟩, List.mem_of_getElem? (i := 1333) (by decide +kernel), List.mem_of_getElem? (i := 1533) (by decide +kernel), List.mem_of_getElem? (i := 1534) (by decide +kernel)⟩
theorem lw_p30 : lw_okq (⟨"KnockFinderModel", "begins", "(III)Z"⟩, 54) := ⟨⟨by decide +kernel, by decide +kernel⟩, List.mem_of_getElem? (i := 1333) (by decide +kernel), List.mem_of_getElem? (i := 1550) (by decide +kernel), List.mem_of_getElem? (i := 1551) (by decide +kernel)⟩
theorem lw_p31 : lw_okq (⟨"KnockFinderModel", "readsSpan", "()Z"⟩, 54) := ⟨⟨by decide +kernel, by decide +kernel⟩, List.mem_of_getElem? (i := 1333) (by decide +kernel), List.mem_of_getElem? (i := 1554) (by decide +kernel), List.mem_of_getElem? (i := 1555) (by decide +kernel)⟩
def lw_privs_2 : List (MethodName × Nat) := [(⟨"KnockFinder", "foldHits", "(LKnockFinder$Ratio;)V"⟩, 18), (⟨"KnockFinder", "depthOfEighths", "()I"⟩, 18), (⟨"KnockFinder$Chains", "link", "(IJII)V"⟩, 5), (⟨"KnockFinder$Chains", "nearestTo", "(JII)I"⟩, 5), (⟨"KnockFinder", "peel", "(LKnockFinder$Verdict;LKnockFinder$State;)V"⟩, 18), (⟨"KnockFinder", "firstAside", "(LKnockFinder$State;I)I"⟩, 18), (⟨"KnockFinder", "sumPairs", "(III)V"⟩, 18), (⟨"KnockFinder", "pairsAt", "(II)I"⟩, 18), (⟨"KnockFinder$Notes", "strengthOf", "(II)I"⟩, 3), (⟨"KnockFinder$Notes", "sumOfDays", "()J"⟩, 3), (⟨"KnockFinder$Notes", "sumOfStrengths", "(I)J"⟩, 3), (⟨"KnockFinderModel", "types", "(I)V"⟩, 54), (⟨"KnockFinderModel", "remembers", "()V"⟩, 54), (⟨"KnockFinderModel", "lays", "(III)V"⟩, 54), (⟨"KnockFinderModel", "begins", "(III)Z"⟩, 54), (⟨"KnockFinderModel", "readsSpan", "()Z"⟩, 54)]
theorem lw_r2 : ∀ q ∈ lw_privs_2, lw_okq q := List.forall_mem_cons.mpr ⟨lw_p16, List.forall_mem_cons.mpr ⟨lw_p17, List.forall_mem_cons.mpr ⟨lw_p18, List.forall_mem_cons.mpr ⟨lw_p19, List.forall_mem_cons.mpr ⟨lw_p20, List.forall_mem_cons.mpr ⟨lw_p21, List.forall_mem_cons.mpr ⟨lw_p22, List.forall_mem_cons.mpr ⟨lw_p23, List.forall_mem_cons.mpr ⟨lw_p24, List.forall_mem_cons.mpr ⟨lw_p25, List.forall_mem_cons.mpr ⟨lw_p26, List.forall_mem_cons.mpr ⟨lw_p27, List.forall_mem_cons.mpr ⟨lw_p28, List.forall_mem_cons.mpr ⟨lw_p29, List.forall_mem_cons.mpr ⟨lw_p30, List.forall_mem_cons.mpr ⟨lw_p31, fun _ h => absurd h List.not_mem_nil⟩⟩⟩⟩⟩⟩⟩⟩⟩⟩⟩⟩⟩⟩⟩⟩
theorem lw_p32 : lw_okq (⟨"KnockFinderModel", "wrongAt", "(II)Z"⟩, 54) := ⟨⟨by decide +kernel, by decide +kernel⟩, List.mem_of_getElem? (i := 1333) (by decide +kernel), List.mem_of_getElem? (i := 1558) (by decide +kernel), List.mem_of_getElem? (i := 1559) (by decide +kernel)⟩
theorem lw_p33 : lw_okq (⟨"KnockFinderModel", "readsNumber", "(III)Z"⟩, 54) := ⟨⟨by decide +kernel, by decide +kernel⟩, List.mem_of_getElem? (i := 1333) (by decide +kernel), List.mem_of_getElem? (i := 1563) (by decide +kernel), List.mem_of_getElem? (i := 1564) (by decide +kernel)⟩
theorem lw_p34 : lw_okq (⟨"KnockFinderModel", "here", "()I"⟩, 54) := ⟨⟨by decide +kernel, by decide +kernel⟩, List.mem_of_getElem? (i := 1333) (by decide +kernel), List.mem_of_getElem? (i := 1567) (by decide +kernel), List.mem_of_getElem? (i := 1568) (by decide +kernel)⟩
theorem lw_p35 : lw_okq (⟨"KnockFinderModel", "takesSign", "(I)Z"⟩, 54) := ⟨⟨by decide +kernel, by decide +kernel⟩, List.mem_of_getElem? (i := 1333) (by decide +kernel), List.mem_of_getElem? (i := 1576) (by decide +kernel), List.mem_of_getElem? (i := 1577) (by decide +kernel)⟩
theorem lw_p36 : lw_okq (⟨"KnockFinderModel", "takesDraft", "(II)V"⟩, 54) := ⟨⟨by decide +kernel, by decide +kernel⟩, List.mem_of_getElem? (i := 1333) (by decide +kernel), List.mem_of_getElem? (i := 1580) (by decide +kernel), List.mem_of_getElem? (i := 1581) (by decide +kernel)⟩
theorem lw_p37 : lw_okq (⟨"KnockFinderModel", "angleOf", "(I)J"⟩, 54) := ⟨⟨by decide +kernel, by decide +kernel⟩, List.mem_of_getElem? (i := 1333) (by decide +kernel), List.mem_of_getElem? (i := 1589) (by decide +kernel), List.mem_of_getElem? (i := 1590) (by decide +kernel)⟩
theorem lw_p38 : lw_okq (⟨"KnockFinderModel", "findsRatio", "(I)V"⟩, 54) := ⟨⟨by decide +kernel, by decide +kernel⟩, List.mem_of_getElem? (i := 1333) (by decide +kernel), List.mem_of_getElem? (i := 1606) (by decide +kernel), List.mem_of_getElem? (i := 1607) (by decide +kernel)⟩
theorem lw_p39 : lw_okq (⟨"KnockFinderModel", "readsItems", "()Z"⟩, 54) := ⟨⟨by decide +kernel, by decide +kernel⟩, List.mem_of_getElem? (i := 1333) (by decide +kernel), List.mem_of_getElem? (i := 1621) (by decide +kernel), List.mem_of_getElem? (i := 1622) (by decide +kernel)⟩
theorem lw_p40 : lw_okq (⟨"KnockFinderModel", "repeats", "(II)V"⟩, 54) := ⟨⟨by decide +kernel, by decide +kernel⟩, List.mem_of_getElem? (i := 1333) (by decide +kernel), List.mem_of_getElem? (i := 1626) (by decide +kernel), List.mem_of_getElem? (i := 1627) (by decide +kernel)⟩
theorem lw_p41 : lw_okq (⟨"KnockFinderModel", "laysGap", "(II)V"⟩, 54) := ⟨⟨by decide +kernel, by decide +kernel⟩, List.mem_of_getElem? (i := 1333) (by decide +kernel), List.mem_of_getElem? (i := 1630) (by decide +kernel), List.mem_of_getElem? (i := 1631) (by decide +kernel)⟩
theorem lw_p42 : lw_okq (⟨"KnockFinderModel", "readsStep", "()Z"⟩, 54) := ⟨⟨by decide +kernel, by decide +kernel⟩, List.mem_of_getElem? (i := 1333) (by decide +kernel), List.mem_of_getElem? (i := 1645) (by decide +kernel), List.mem_of_getElem? (i := 1646) (by decide +kernel)⟩
theorem lw_p43 : lw_okq (⟨"KnockFinderModel", "sees", "()V"⟩, 54) := ⟨⟨by decide +kernel, by decide +kernel⟩, List.mem_of_getElem? (i := 1333) (by decide +kernel), List.mem_of_getElem? (i := 1652) (by decide +kernel), List.mem_of_getElem? (i := 1653) (by decide +kernel)⟩
theorem lw_p44 : lw_okq (⟨"KnockFinderModel", "goesThrough", "(II)V"⟩, 54) := ⟨⟨by decide +kernel, by decide +kernel⟩, List.mem_of_getElem? (i := 1333) (by decide +kernel), List.mem_of_getElem? (i := 1656) (by decide +kernel), List.mem_of_getElem? (i := 1657) (by decide +kernel)⟩
theorem lw_p45 : lw_okq (⟨"KnockFinderModel", "stays", "(IIII)Z"⟩, 54) := ⟨⟨by decide +kernel, by decide +kernel⟩, List.mem_of_getElem? (i := 1333) (by decide +kernel), List.mem_of_getElem? (i := 1663) (by decide +kernel), List.mem_of_getElem? (i := 1664) (by decide +kernel)⟩
theorem lw_p46 : lw_okq (⟨"KnockFinderModel", "keepsKnock", "(II)V"⟩, 54) := ⟨⟨by decide +kernel, by decide +kernel⟩, List.mem_of_getElem? (i := 1333) (by decide +kernel), List.mem_of_getElem? (i := 1667) (by decide +kernel), List.mem_of_getElem? (i := 1668) (by decide +kernel)⟩
theorem lw_p47 : lw_okq (⟨"KnockFinderModel", "lays", "(I)V"⟩, 54) := ⟨⟨by decide +kernel, by decide +kernel⟩, List.mem_of_getElem? (i := 1333) (by decide +kernel), List.mem_of_getElem? (i := 1689) (by decide +kernel), List.mem_of_getElem? (i := 1690) (by decide +kernel)⟩
def lw_privs_3 : List (MethodName × Nat) := [(⟨"KnockFinderModel", "wrongAt", "(II)Z"⟩, 54), (⟨"KnockFinderModel", "readsNumber", "(III)Z"⟩, 54), (⟨"KnockFinderModel", "here", "()I"⟩, 54), (⟨"KnockFinderModel", "takesSign", "(I)Z"⟩, 54), (⟨"KnockFinderModel", "takesDraft", "(II)V"⟩, 54), (⟨"KnockFinderModel", "angleOf", "(I)J"⟩, 54), (⟨"KnockFinderModel", "findsRatio", "(I)V"⟩, 54), (⟨"KnockFinderModel", "readsItems", "()Z"⟩, 54), (⟨"KnockFinderModel", "repeats", "(II)V"⟩, 54), (⟨"KnockFinderModel", "laysGap", "(II)V"⟩, 54), (⟨"KnockFinderModel", "readsStep", "()Z"⟩, 54), (⟨"KnockFinderModel", "sees", "()V"⟩, 54), (⟨"KnockFinderModel", "goesThrough", "(II)V"⟩, 54), (⟨"KnockFinderModel", "stays", "(IIII)Z"⟩, 54), (⟨"KnockFinderModel", "keepsKnock", "(II)V"⟩, 54), (⟨"KnockFinderModel", "lays", "(I)V"⟩, 54)]
theorem lw_r3 : ∀ q ∈ lw_privs_3, lw_okq q := List.forall_mem_cons.mpr ⟨lw_p32, List.forall_mem_cons.mpr ⟨lw_p33, List.forall_mem_cons.mpr ⟨lw_p34, List.forall_mem_cons.mpr ⟨lw_p35, List.forall_mem_cons.mpr ⟨lw_p36, List.forall_mem_cons.mpr ⟨lw_p37, List.forall_mem_cons.mpr ⟨lw_p38, List.forall_mem_cons.mpr ⟨lw_p39, List.forall_mem_cons.mpr ⟨lw_p40, List.forall_mem_cons.mpr ⟨lw_p41, List.forall_mem_cons.mpr ⟨lw_p42, List.forall_mem_cons.mpr ⟨lw_p43, List.forall_mem_cons.mpr ⟨lw_p44, List.forall_mem_cons.mpr ⟨lw_p45, List.forall_mem_cons.mpr ⟨lw_p46, List.forall_mem_cons.mpr ⟨lw_p47, fun _ h => absurd h List.not_mem_nil⟩⟩⟩⟩⟩⟩⟩⟩⟩⟩⟩⟩⟩⟩⟩⟩
theorem lw_p48 : lw_okq (⟨"KnockFinderModel", "told", "(I)I"⟩, 54) := ⟨⟨by decide +kernel, by decide +kernel⟩, List.mem_of_getElem? (i := 1333) (by decide +kernel), List.mem_of_getElem? (i := 1695) (by decide +kernel), List.mem_of_getElem? (i := 1696) (by decide +kernel)⟩
theorem lw_p49 : lw_okq (⟨"KnockFinderModel", "laysBestOf", "(I)I"⟩, 54) := ⟨⟨by decide +kernel, by decide +kernel⟩, List.mem_of_getElem? (i := 1333) (by decide +kernel), List.mem_of_getElem? (i := 1708) (by decide +kernel), List.mem_of_getElem? (i := 1709) (by decide +kernel)⟩
theorem lw_p50 : lw_okq (⟨"KnockFinderModel", "laysBest", "()I"⟩, 54) := ⟨⟨by decide +kernel, by decide +kernel⟩, List.mem_of_getElem? (i := 1333) (by decide +kernel), List.mem_of_getElem? (i := 1712) (by decide +kernel), List.mem_of_getElem? (i := 1713) (by decide +kernel)⟩
theorem lw_p51 : lw_okq (⟨"KnockFinderModel", "notesHits", "()V"⟩, 54) := ⟨⟨by decide +kernel, by decide +kernel⟩, List.mem_of_getElem? (i := 1333) (by decide +kernel), List.mem_of_getElem? (i := 1725) (by decide +kernel), List.mem_of_getElem? (i := 1726) (by decide +kernel)⟩
theorem lw_p52 : lw_okq (⟨"KnockFinderModel", "laysSets", "(II)V"⟩, 54) := ⟨⟨by decide +kernel, by decide +kernel⟩, List.mem_of_getElem? (i := 1333) (by decide +kernel), List.mem_of_getElem? (i := 1733) (by decide +kernel), List.mem_of_getElem? (i := 1734) (by decide +kernel)⟩
theorem lw_p53 : lw_okq (⟨"KnockFinderModel", "joined", "(II)I"⟩, 54) := ⟨⟨by decide +kernel, by decide +kernel⟩, List.mem_of_getElem? (i := 1333) (by decide +kernel), List.mem_of_getElem? (i := 1737) (by decide +kernel), List.mem_of_getElem? (i := 1738) (by decide +kernel)⟩
theorem lw_p54 : lw_okq (⟨"KnockFinderModel", "thins", "([Z)V"⟩, 54) := ⟨⟨by decide +kernel, by decide +kernel⟩, List.mem_of_getElem? (i := 1333) (by decide +kernel), List.mem_of_getElem? (i := 1749) (by decide +kernel), List.mem_of_getElem? (i := 1750) (by decide +kernel)⟩
theorem lw_p55 : lw_okq (⟨"KnockFinderModel", "chains", "(I)V"⟩, 54) := ⟨⟨by decide +kernel, by decide +kernel⟩, List.mem_of_getElem? (i := 1333) (by decide +kernel), List.mem_of_getElem? (i := 1757) (by decide +kernel), List.mem_of_getElem? (i := 1758) (by decide +kernel)⟩
theorem lw_p56 : lw_okq (⟨"KnockFinderModel", "nextOf", "(II)I"⟩, 54) := ⟨⟨by decide +kernel, by decide +kernel⟩, List.mem_of_getElem? (i := 1333) (by decide +kernel), List.mem_of_getElem? (i := 1761) (by decide +kernel), List.mem_of_getElem? (i := 1762) (by decide +kernel)⟩
theorem lw_p57 : lw_okq (⟨"KnockFinderModel", "toldChain", "(I)I"⟩, 54) := ⟨⟨by decide +kernel, by decide +kernel⟩, List.mem_of_getElem? (i := 1333) (by decide +kernel), List.mem_of_getElem? (i := 1765) (by decide +kernel), List.mem_of_getElem? (i := 1766) (by decide +kernel)⟩
theorem lw_p58 : lw_okq (⟨"KnockFinderModel", "folds", "()V"⟩, 54) := ⟨⟨by decide +kernel, by decide +kernel⟩, List.mem_of_getElem? (i := 1333) (by decide +kernel), List.mem_of_getElem? (i := 1777) (by decide +kernel), List.mem_of_getElem? (i := 1778) (by decide +kernel)⟩
theorem lw_p59 : lw_okq (⟨"KnockFinderModel", "depth", "()I"⟩, 54) := ⟨⟨by decide +kernel, by decide +kernel⟩, List.mem_of_getElem? (i := 1333) (by decide +kernel), List.mem_of_getElem? (i := 1781) (by decide +kernel), List.mem_of_getElem? (i := 1782) (by decide +kernel)⟩
theorem lw_p60 : lw_okq (⟨"KnockFinderModel", "ranks", "()V"⟩, 54) := ⟨⟨by decide +kernel, by decide +kernel⟩, List.mem_of_getElem? (i := 1333) (by decide +kernel), List.mem_of_getElem? (i := 1789) (by decide +kernel), List.mem_of_getElem? (i := 1790) (by decide +kernel)⟩
theorem lw_p61 : lw_okq (⟨"KnockFinderModel", "rankedAt", "(I)I"⟩, 54) := ⟨⟨by decide +kernel, by decide +kernel⟩, List.mem_of_getElem? (i := 1333) (by decide +kernel), List.mem_of_getElem? (i := 1793) (by decide +kernel), List.mem_of_getElem? (i := 1794) (by decide +kernel)⟩
theorem lw_p62 : lw_okq (⟨"KnockFinderModel", "isAhead", "(II)Z"⟩, 54) := ⟨⟨by decide +kernel, by decide +kernel⟩, List.mem_of_getElem? (i := 1333) (by decide +kernel), List.mem_of_getElem? (i := 1797) (by decide +kernel), List.mem_of_getElem? (i := 1798) (by decide +kernel)⟩
theorem lw_p63 : lw_okq (⟨"KnockFinderModel", "peels", "()V"⟩, 54) := ⟨⟨by decide +kernel, by decide +kernel⟩, List.mem_of_getElem? (i := 1333) (by decide +kernel), List.mem_of_getElem? (i := 1805) (by decide +kernel), List.mem_of_getElem? (i := 1806) (by decide +kernel)⟩
def lw_privs_4 : List (MethodName × Nat) := [(⟨"KnockFinderModel", "told", "(I)I"⟩, 54), (⟨"KnockFinderModel", "laysBestOf", "(I)I"⟩, 54), (⟨"KnockFinderModel", "laysBest", "()I"⟩, 54), (⟨"KnockFinderModel", "notesHits", "()V"⟩, 54), (⟨"KnockFinderModel", "laysSets", "(II)V"⟩, 54), (⟨"KnockFinderModel", "joined", "(II)I"⟩, 54), (⟨"KnockFinderModel", "thins", "([Z)V"⟩, 54), (⟨"KnockFinderModel", "chains", "(I)V"⟩, 54), (⟨"KnockFinderModel", "nextOf", "(II)I"⟩, 54), (⟨"KnockFinderModel", "toldChain", "(I)I"⟩, 54), (⟨"KnockFinderModel", "folds", "()V"⟩, 54), (⟨"KnockFinderModel", "depth", "()I"⟩, 54), (⟨"KnockFinderModel", "ranks", "()V"⟩, 54), (⟨"KnockFinderModel", "rankedAt", "(I)I"⟩, 54), (⟨"KnockFinderModel", "isAhead", "(II)Z"⟩, 54), (⟨"KnockFinderModel", "peels", "()V"⟩, 54)]
theorem lw_r4 : ∀ q ∈ lw_privs_4, lw_okq q := List.forall_mem_cons.mpr ⟨lw_p48, List.forall_mem_cons.mpr ⟨lw_p49, List.forall_mem_cons.mpr ⟨lw_p50, List.forall_mem_cons.mpr ⟨lw_p51, List.forall_mem_cons.mpr ⟨lw_p52, List.forall_mem_cons.mpr ⟨lw_p53, List.forall_mem_cons.mpr ⟨lw_p54, List.forall_mem_cons.mpr ⟨lw_p55, List.forall_mem_cons.mpr ⟨lw_p56, List.forall_mem_cons.mpr ⟨lw_p57, List.forall_mem_cons.mpr ⟨lw_p58, List.forall_mem_cons.mpr ⟨lw_p59, List.forall_mem_cons.mpr ⟨lw_p60, List.forall_mem_cons.mpr ⟨lw_p61, List.forall_mem_cons.mpr ⟨lw_p62, List.forall_mem_cons.mpr ⟨lw_p63, fun _ h => absurd h List.not_mem_nil⟩⟩⟩⟩⟩⟩⟩⟩⟩⟩⟩⟩⟩⟩⟩⟩
theorem lw_p64 : lw_okq (⟨"KnockFinderModel", "nextFault", "()I"⟩, 54) := ⟨⟨by decide +kernel, by decide +kernel⟩, List.mem_of_getElem? (i := 1333) (by decide +kernel), List.mem_of_getElem? (i := 1809) (by decide +kernel), List.mem_of_getElem? (i := 1810) (by decide +kernel)⟩
theorem lw_p65 : lw_okq (⟨"KnockFinderModel", "laysReport", "(I)V"⟩, 54) := ⟨⟨by decide +kernel, by decide +kernel⟩, List.mem_of_getElem? (i := 1333) (by decide +kernel), List.mem_of_getElem? (i := 1821) (by decide +kernel), List.mem_of_getElem? (i := 1822) (by decide +kernel)⟩
theorem lw_p66 : lw_okq (⟨"KnockFinderModel", "says", "(I)V"⟩, 54) := ⟨⟨by decide +kernel, by decide +kernel⟩, List.mem_of_getElem? (i := 1333) (by decide +kernel), List.mem_of_getElem? (i := 1825) (by decide +kernel), List.mem_of_getElem? (i := 1826) (by decide +kernel)⟩
theorem lw_p67 : lw_okq (⟨"KnockFinderModel", "saysNumber", "(I)V"⟩, 54) := ⟨⟨by decide +kernel, by decide +kernel⟩, List.mem_of_getElem? (i := 1333) (by decide +kernel), List.mem_of_getElem? (i := 1829) (by decide +kernel), List.mem_of_getElem? (i := 1830) (by decide +kernel)⟩
theorem lw_p68 : lw_okq (⟨"KnockFinderModel", "apartFrom", "()I"⟩, 54) := ⟨⟨by decide +kernel, by decide +kernel⟩, List.mem_of_getElem? (i := 1333) (by decide +kernel), List.mem_of_getElem? (i := 1837) (by decide +kernel), List.mem_of_getElem? (i := 1838) (by decide +kernel)⟩
theorem lw_p69 : lw_okq (⟨"KnockFinderModel", "pairsBy", "(II)I"⟩, 54) := ⟨⟨by decide +kernel, by decide +kernel⟩, List.mem_of_getElem? (i := 1333) (by decide +kernel), List.mem_of_getElem? (i := 1850) (by decide +kernel), List.mem_of_getElem? (i := 1851) (by decide +kernel)⟩
theorem lw_p70 : lw_okq (⟨"KnockFinderModel", "noteOf", "(II)I"⟩, 54) := ⟨⟨by decide +kernel, by decide +kernel⟩, List.mem_of_getElem? (i := 1333) (by decide +kernel), List.mem_of_getElem? (i := 1866) (by decide +kernel), List.mem_of_getElem? (i := 1867) (by decide +kernel)⟩
theorem lw_p71 : lw_okq (⟨"KnockFinderModel", "findsLine", "(I)V"⟩, 54) := ⟨⟨by decide +kernel, by decide +kernel⟩, List.mem_of_getElem? (i := 1333) (by decide +kernel), List.mem_of_getElem? (i := 1880) (by decide +kernel), List.mem_of_getElem? (i := 1881) (by decide +kernel)⟩
theorem lw_p72 : lw_okq (⟨"KnockFinderModel", "lineAt", "(J)J"⟩, 54) := ⟨⟨by decide +kernel, by decide +kernel⟩, List.mem_of_getElem? (i := 1333) (by decide +kernel), List.mem_of_getElem? (i := 1884) (by decide +kernel), List.mem_of_getElem? (i := 1885) (by decide +kernel)⟩
theorem lw_p73 : lw_okq (⟨"KnockFinderModel", "laysAside", "()V"⟩, 54) := ⟨⟨by decide +kernel, by decide +kernel⟩, List.mem_of_getElem? (i := 1333) (by decide +kernel), List.mem_of_getElem? (i := 1899) (by decide +kernel), List.mem_of_getElem? (i := 1900) (by decide +kernel)⟩
theorem lw_p74 : lw_okq (⟨"KnockFinderModel", "laysBack", "()V"⟩, 54) := ⟨⟨by decide +kernel, by decide +kernel⟩, List.mem_of_getElem? (i := 1333) (by decide +kernel), List.mem_of_getElem? (i := 1903) (by decide +kernel), List.mem_of_getElem? (i := 1904) (by decide +kernel)⟩
def lw_privs_5 : List (MethodName × Nat) := [(⟨"KnockFinderModel", "nextFault", "()I"⟩, 54), (⟨"KnockFinderModel", "laysReport", "(I)V"⟩, 54), (⟨"KnockFinderModel", "says", "(I)V"⟩, 54), (⟨"KnockFinderModel", "saysNumber", "(I)V"⟩, 54), (⟨"KnockFinderModel", "apartFrom", "()I"⟩, 54), (⟨"KnockFinderModel", "pairsBy", "(II)I"⟩, 54), (⟨"KnockFinderModel", "noteOf", "(II)I"⟩, 54), (⟨"KnockFinderModel", "findsLine", "(I)V"⟩, 54), (⟨"KnockFinderModel", "lineAt", "(J)J"⟩, 54), (⟨"KnockFinderModel", "laysAside", "()V"⟩, 54), (⟨"KnockFinderModel", "laysBack", "()V"⟩, 54)]
theorem lw_r5 : ∀ q ∈ lw_privs_5, lw_okq q := List.forall_mem_cons.mpr ⟨lw_p64, List.forall_mem_cons.mpr ⟨lw_p65, List.forall_mem_cons.mpr ⟨lw_p66, List.forall_mem_cons.mpr ⟨lw_p67, List.forall_mem_cons.mpr ⟨lw_p68, List.forall_mem_cons.mpr ⟨lw_p69, List.forall_mem_cons.mpr ⟨lw_p70, List.forall_mem_cons.mpr ⟨lw_p71, List.forall_mem_cons.mpr ⟨lw_p72, List.forall_mem_cons.mpr ⟨lw_p73, List.forall_mem_cons.mpr ⟨lw_p74, fun _ h => absurd h List.not_mem_nil⟩⟩⟩⟩⟩⟩⟩⟩⟩⟩⟩
def lw_privs : List (MethodName × Nat) := lw_privs_1 ++ (lw_privs_2 ++ (lw_privs_3 ++ (lw_privs_4 ++ (lw_privs_5))))
def lw_tbl : List Cond := k2_sels lw_privs ++ tables_1
theorem lw_privs_ok : ∀ q ∈ lw_privs, lw_okq q := by
  show ∀ q ∈ lw_privs_1 ++ (lw_privs_2 ++ (lw_privs_3 ++ (lw_privs_4 ++ (lw_privs_5)))), lw_okq q
  exact List.forall_mem_append.mpr ⟨lw_r1, List.forall_mem_append.mpr ⟨lw_r2, List.forall_mem_append.mpr ⟨lw_r3, List.forall_mem_append.mpr ⟨lw_r4, lw_r5⟩⟩⟩⟩

def RX0 : String := "KnockFinder$Chains"
def TX0 : u_T := fun k => match k with
  | 0 => ("KnockFinder$Chains", "count", "I", false)
  | 1 => ("KnockFinder$Chains", "sizes", "[I", true)
  | 2 => ("KnockFinder$Chains", "lasts", "[I", true)
  | 3 => ("KnockFinder$Chains", "periods", "[I", true)
  | _ => ("KnockFinder$Chains", "places", "[J", true)
def tyX0 : Nat → FieldType := fun k => match k with
  | 0 => .int
  | 1 => .array .int
  | 2 => .array .int
  | 3 => .array .int
  | _ => .array .long
abbrev wsX00 : List Cond := u_ws RX0 TX0 5
theorem nmX0 : ∀ a, a < 5 → ∀ b, b < 5 → a ≠ b → (TX0 a).2.1 ≠ (TX0 b).2.1 := by decide +kernel
theorem tyX0_ok : ∀ k, k < 5 → parseFieldDescriptor (TX0 k).2.2.1 = some (tyX0 k) := by decide +kernel
abbrev cX0_init : ByteArray := prog_2_method_1_code
def yX0_init : MethodName := ⟨RX0, "<init>", "()V"⟩
abbrev cX0_follow : ByteArray := prog_2_method_2_code
def yX0_follow : MethodName := ⟨RX0, "follow", "(LKnockFinder$Knocks;LKnockFinder$State;LKnockFinder$Ratio;)V"⟩
abbrev cX0_link : ByteArray := prog_2_method_3_code
def yX0_link : MethodName := ⟨RX0, "link", "(IJII)V"⟩
abbrev cX0_nearestTo : ByteArray := prog_2_method_4_code
def yX0_nearestTo : MethodName := ⟨RX0, "nearestTo", "(JII)I"⟩
abbrev cX0_knockOfMost : ByteArray := prog_2_method_5_code
def yX0_knockOfMost : MethodName := ⟨RX0, "knockOfMost", "()I"⟩
abbrev cX0_tell : ByteArray := prog_2_method_6_code
def yX0_tell : MethodName := ⟨RX0, "tell", "(II)I"⟩
def RX1 : String := "KnockFinder$Comber"
def TX1 : u_T := fun k => match k with
  | 0 => ("KnockFinder$Comber", "count", "I", false)
  | 1 => ("KnockFinder$Comber", "period", "J", false)
  | 2 => ("KnockFinder$Comber", "slip", "J", false)
  | 3 => ("KnockFinder$Comber", "drift", "J", false)
  | 4 => ("KnockFinder$Comber", "wholes", "[J", true)
  | 5 => ("KnockFinder$Comber", "rests", "[J", true)
  | 6 => ("KnockFinder$Comber", "hits", "I", false)
  | 7 => ("KnockFinder$Comber", "marks", "I", false)
  | 8 => ("KnockFinder$Comber", "hitKnocks", "[I", true)
  | 9 => ("KnockFinder$Comber", "hitMarks", "[J", true)
  | 10 => ("KnockFinder$Comber", "hitOffs", "[J", true)
  | 11 => ("KnockFinder$Comber", "bestKnock", "I", false)
  | 12 => ("KnockFinder$Comber", "bestHits", "I", false)
  | _ => ("KnockFinder$Comber", "bestScore", "I", false)
def tyX1 : Nat → FieldType := fun k => match k with
  | 0 => .int
  | 1 => .long
  | 2 => .long
  | 3 => .long
  | 4 => .array .long
  | 5 => .array .long
  | 6 => .int
  | 7 => .int
  | 8 => .array .int
  | 9 => .array .long
  | 10 => .array .long
  | 11 => .int
  | 12 => .int
  | _ => .int
abbrev wsX10 : List Cond := u_ws RX1 TX1 14
theorem nmX1 : ∀ a, a < 14 → ∀ b, b < 14 → a ≠ b → (TX1 a).2.1 ≠ (TX1 b).2.1 := by decide +kernel
theorem tyX1_ok : ∀ k, k < 14 → parseFieldDescriptor (TX1 k).2.2.1 = some (tyX1 k) := by decide +kernel
abbrev cX1_init : ByteArray := prog_3_method_1_code
def yX1_init : MethodName := ⟨RX1, "<init>", "()V"⟩
abbrev cX1_prepare : ByteArray := prog_3_method_2_code
def yX1_prepare : MethodName := ⟨RX1, "prepare", "(LKnockFinder$Knocks;LKnockFinder$State;LKnockFinder$Ratio;)V"⟩
abbrev cX1_marksFrom : ByteArray := prog_3_method_3_code
def yX1_marksFrom : MethodName := ⟨RX1, "marksFrom", "(I)I"⟩
abbrev cX1_lay : ByteArray := prog_3_method_4_code
def yX1_lay : MethodName := ⟨RX1, "lay", "(I)V"⟩
abbrev cX1_takeHit : ByteArray := prog_3_method_5_code
def yX1_takeHit : MethodName := ⟨RX1, "takeHit", "(IJJ)V"⟩
abbrev cX1_findBest : ByteArray := prog_3_method_6_code
def yX1_findBest : MethodName := ⟨RX1, "findBest", "()V"⟩
abbrev cX1_score : ByteArray := prog_3_method_7_code
def yX1_score : MethodName := ⟨RX1, "score", "()I"⟩
abbrev cX1_strengthsOf : ByteArray := prog_3_method_8_code
def yX1_strengthsOf : MethodName := ⟨RX1, "strengthsOf", "(LKnockFinder$Knocks;)I"⟩
abbrev cX1_tickOfHit : ByteArray := prog_3_method_9_code
def yX1_tickOfHit : MethodName := ⟨RX1, "tickOfHit", "(LKnockFinder$Knocks;I)I"⟩
abbrev cX1_knockOf : ByteArray := prog_3_method_10_code
def yX1_knockOf : MethodName := ⟨RX1, "knockOf", "(I)I"⟩
abbrev cX1_mostOff : ByteArray := prog_3_method_11_code
def yX1_mostOff : MethodName := ⟨RX1, "mostOff", "()I"⟩
abbrev cX1_tell : ByteArray := prog_3_method_12_code
def yX1_tell : MethodName := ⟨RX1, "tell", "(LKnockFinder$Knocks;I)I"⟩
def RX2 : String := "KnockFinder$Knocks"
def TX2 : u_T := fun k => match k with
  | 0 => ("KnockFinder$Knocks", "ticks", "[I", true)
  | 1 => ("KnockFinder$Knocks", "strengths", "[I", true)
  | _ => ("KnockFinder$Knocks", "count", "I", false)
def tyX2 : Nat → FieldType := fun k => match k with
  | 0 => .array .int
  | 1 => .array .int
  | _ => .int
abbrev wsX20 : List Cond := u_ws RX2 TX2 3
theorem nmX2 : ∀ a, a < 3 → ∀ b, b < 3 → a ≠ b → (TX2 a).2.1 ≠ (TX2 b).2.1 := by decide +kernel
theorem tyX2_ok : ∀ k, k < 3 → parseFieldDescriptor (TX2 k).2.2.1 = some (tyX2 k) := by decide +kernel
abbrev cX2_init : ByteArray := prog_4_method_1_code
def yX2_init : MethodName := ⟨RX2, "<init>", "()V"⟩
abbrev cX2_copy : ByteArray := prog_4_method_2_code
def yX2_copy : MethodName := ⟨RX2, "copy", "(LKnockFinder$Knocks;)V"⟩
abbrev cX2_lastTick : ByteArray := prog_4_method_3_code
def yX2_lastTick : MethodName := ⟨RX2, "lastTick", "()I"⟩
abbrev cX2_add : ByteArray := prog_4_method_4_code
def yX2_add : MethodName := ⟨RX2, "add", "(II)V"⟩
abbrev cX2_takeOut : ByteArray := prog_4_method_5_code
def yX2_takeOut : MethodName := ⟨RX2, "takeOut", "(I)V"⟩
abbrev cX2_takeOutAll : ByteArray := prog_4_method_6_code
def yX2_takeOutAll : MethodName := ⟨RX2, "takeOutAll", "([II)V"⟩
abbrev cX2_cutFrom : ByteArray := prog_4_method_7_code
def yX2_cutFrom : MethodName := ⟨RX2, "cutFrom", "(LKnockFinder$Knocks;II)V"⟩
def RX3 : String := "KnockFinder$Masks"
def TX3 : u_T := fun k => match k with
  | 0 => ("KnockFinder$Masks", "bits", "[J", true)
  | 1 => ("KnockFinder$Masks", "hits", "[I", true)
  | 2 => ("KnockFinder$Masks", "combs", "I", false)
  | 3 => ("KnockFinder$Masks", "most", "I", false)
  | 4 => ("KnockFinder$Masks", "mostRow", "I", false)
  | _ => ("KnockFinder$Masks", "mostOtherRow", "I", false)
def tyX3 : Nat → FieldType := fun k => match k with
  | 0 => .array .long
  | 1 => .array .int
  | 2 => .int
  | 3 => .int
  | 4 => .int
  | _ => .int
abbrev wsX30 : List Cond := u_ws RX3 TX3 6
theorem nmX3 : ∀ a, a < 6 → ∀ b, b < 6 → a ≠ b → (TX3 a).2.1 ≠ (TX3 b).2.1 := by decide +kernel
theorem tyX3_ok : ∀ k, k < 6 → parseFieldDescriptor (TX3 k).2.2.1 = some (tyX3 k) := by decide +kernel
abbrev cX3_init : ByteArray := prog_5_method_1_code
def yX3_init : MethodName := ⟨RX3, "<init>", "()V"⟩
abbrev cX3_put : ByteArray := prog_5_method_2_code
def yX3_put : MethodName := ⟨RX3, "put", "(ILKnockFinder$Comber;)V"⟩
abbrev cX3_putAll : ByteArray := prog_5_method_3_code
def yX3_putAll : MethodName := ⟨RX3, "putAll", "(LKnockFinder$Comber;)V"⟩
abbrev cX3_together : ByteArray := prog_5_method_4_code
def yX3_together : MethodName := ⟨RX3, "together", "(ILKnockFinder$Masks;I)I"⟩
abbrev cX3_common : ByteArray := prog_5_method_5_code
def yX3_common : MethodName := ⟨RX3, "common", "(ILKnockFinder$Masks;I)I"⟩
abbrev cX3_findPair : ByteArray := prog_5_method_6_code
def yX3_findPair : MethodName := ⟨RX3, "findPair", "(LKnockFinder$Masks;)V"⟩
def RX4 : String := "KnockFinder$Notes"
def TX4 : u_T := fun k => match k with
  | 0 => ("KnockFinder$Notes", "days", "[I", true)
  | 1 => ("KnockFinder$Notes", "told", "[I", true)
  | _ => ("KnockFinder$Notes", "count", "I", false)
def tyX4 : Nat → FieldType := fun k => match k with
  | 0 => .array .int
  | 1 => .array .int
  | _ => .int
abbrev wsX40 : List Cond := u_ws RX4 TX4 3
theorem nmX4 : ∀ a, a < 3 → ∀ b, b < 3 → a ≠ b → (TX4 a).2.1 ≠ (TX4 b).2.1 := by decide +kernel
theorem tyX4_ok : ∀ k, k < 3 → parseFieldDescriptor (TX4 k).2.2.1 = some (tyX4 k) := by decide +kernel
abbrev cX4_init : ByteArray := prog_6_method_1_code
def yX4_init : MethodName := ⟨RX4, "<init>", "()V"⟩
abbrev cX4_copy : ByteArray := prog_6_method_2_code
def yX4_copy : MethodName := ⟨RX4, "copy", "(LKnockFinder$Notes;)V"⟩
abbrev cX4_lastDay : ByteArray := prog_6_method_3_code
def yX4_lastDay : MethodName := ⟨RX4, "lastDay", "()I"⟩
abbrev cX4_begin : ByteArray := prog_6_method_4_code
def yX4_begin : MethodName := ⟨RX4, "begin", "(I)V"⟩
abbrev cX4_write : ByteArray := prog_6_method_5_code
def yX4_write : MethodName := ⟨RX4, "write", "(III)V"⟩
abbrev cX4_strengthOf : ByteArray := prog_6_method_6_code
def yX4_strengthOf : MethodName := ⟨RX4, "strengthOf", "(II)I"⟩
abbrev cX4_sumOfDays : ByteArray := prog_6_method_7_code
def yX4_sumOfDays : MethodName := ⟨RX4, "sumOfDays", "()J"⟩
abbrev cX4_sumOfStrengths : ByteArray := prog_6_method_8_code
def yX4_sumOfStrengths : MethodName := ⟨RX4, "sumOfStrengths", "(I)J"⟩
abbrev cX4_fit : ByteArray := prog_6_method_9_code
def yX4_fit : MethodName := ⟨RX4, "fit", "(ILKnockFinder$Ratio;)V"⟩
abbrev cX4_floorAtLast : ByteArray := prog_6_method_10_code
def yX4_floorAtLast : MethodName := ⟨RX4, "floorAtLast", "(ILKnockFinder$Ratio;)J"⟩
abbrev cX4_firstDayAt : ByteArray := prog_6_method_11_code
def yX4_firstDayAt : MethodName := ⟨RX4, "firstDayAt", "(IILKnockFinder$Ratio;)I"⟩
def RX5 : String := "KnockFinder$Ratio"
def TX5 : u_T := fun k => match k with
  | 0 => ("KnockFinder$Ratio", "above", "J", false)
  | _ => ("KnockFinder$Ratio", "below", "J", false)
def tyX5 : Nat → FieldType := fun k => match k with
  | 0 => .long
  | _ => .long
abbrev wsX50 : List Cond := u_ws RX5 TX5 2
theorem nmX5 : ∀ a, a < 2 → ∀ b, b < 2 → a ≠ b → (TX5 a).2.1 ≠ (TX5 b).2.1 := by decide +kernel
theorem tyX5_ok : ∀ k, k < 2 → parseFieldDescriptor (TX5 k).2.2.1 = some (tyX5 k) := by decide +kernel
abbrev cX5_init : ByteArray := prog_7_method_1_code
def yX5_init : MethodName := ⟨RX5, "<init>", "()V"⟩
abbrev cX5_become : ByteArray := prog_7_method_2_code
def yX5_become : MethodName := ⟨RX5, "become", "(JJ)V"⟩
abbrev cX5_add : ByteArray := prog_7_method_3_code
def yX5_add : MethodName := ⟨RX5, "add", "(I)Z"⟩
abbrev cX5_divisor : ByteArray := prog_7_method_4_code
def yX5_divisor : MethodName := ⟨RX5, "divisor", "(JJ)J"⟩
def RX6 : String := "KnockFinder$Spans"
def TX6 : u_T := fun k => match k with
  | 0 => ("KnockFinder$Spans", "ticks", "[I", true)
  | 1 => ("KnockFinder$Spans", "turns", "[I", true)
  | _ => ("KnockFinder$Spans", "count", "I", false)
def tyX6 : Nat → FieldType := fun k => match k with
  | 0 => .array .int
  | 1 => .array .int
  | _ => .int
abbrev wsX60 : List Cond := u_ws RX6 TX6 3
theorem nmX6 : ∀ a, a < 3 → ∀ b, b < 3 → a ≠ b → (TX6 a).2.1 ≠ (TX6 b).2.1 := by decide +kernel
theorem tyX6_ok : ∀ k, k < 3 → parseFieldDescriptor (TX6 k).2.2.1 = some (tyX6 k) := by decide +kernel
abbrev cX6_init : ByteArray := prog_8_method_1_code
def yX6_init : MethodName := ⟨RX6, "<init>", "()V"⟩
abbrev cX6_copy : ByteArray := prog_8_method_2_code
def yX6_copy : MethodName := ⟨RX6, "copy", "(LKnockFinder$Spans;)V"⟩
abbrev cX6_read : ByteArray := prog_8_method_3_code
def yX6_read : MethodName := ⟨RX6, "read", "(LKnockFinder$Tape;)V"⟩
abbrev cX6_readSpan : ByteArray := prog_8_method_4_code
def yX6_readSpan : MethodName := ⟨RX6, "readSpan", "(LKnockFinder$Tape;)V"⟩
abbrev cX6_angleOf : ByteArray := prog_8_method_5_code
def yX6_angleOf : MethodName := ⟨RX6, "angleOf", "(II)J"⟩
def RX7 : String := "KnockFinder$State"
def TX7 : u_T := fun k => match k with
  | 0 => ("KnockFinder$State", "balls", "I", false)
  | 1 => ("KnockFinder$State", "ball", "I", false)
  | 2 => ("KnockFinder$State", "ring", "I", false)
  | 3 => ("KnockFinder$State", "turn", "I", false)
  | 4 => ("KnockFinder$State", "options", "[I", true)
  | 5 => ("KnockFinder$State", "spans", "LKnockFinder$Spans;", true)
  | 6 => ("KnockFinder$State", "knocks", "LKnockFinder$Knocks;", true)
  | 7 => ("KnockFinder$State", "steps", "LKnockFinder$Steps;", true)
  | _ => ("KnockFinder$State", "notes", "LKnockFinder$Notes;", true)
def tyX7 : Nat → FieldType := fun k => match k with
  | 0 => .int
  | 1 => .int
  | 2 => .int
  | 3 => .int
  | 4 => .array .int
  | 5 => .object "KnockFinder$Spans"
  | 6 => .object "KnockFinder$Knocks"
  | 7 => .object "KnockFinder$Steps"
  | _ => .object "KnockFinder$Notes"
abbrev wsX70 : List Cond := u_ws RX7 TX7 9
theorem nmX7 : ∀ a, a < 9 → ∀ b, b < 9 → a ≠ b → (TX7 a).2.1 ≠ (TX7 b).2.1 := by decide +kernel
theorem tyX7_ok : ∀ k, k < 9 → parseFieldDescriptor (TX7 k).2.2.1 = some (tyX7 k) := by decide +kernel
abbrev cX7_init : ByteArray := prog_9_method_1_code
def yX7_init : MethodName := ⟨RX7, "<init>", "()V"⟩
abbrev cX7_copy : ByteArray := prog_9_method_2_code
def yX7_copy : MethodName := ⟨RX7, "copy", "(LKnockFinder$State;)V"⟩
abbrev cX7_measure : ByteArray := prog_9_method_3_code
def yX7_measure : MethodName := ⟨RX7, "measure", "(III)V"⟩
abbrev cX7_rate : ByteArray := prog_9_method_4_code
def yX7_rate : MethodName := ⟨RX7, "rate", "(ILKnockFinder$Ratio;)V"⟩
def RX8 : String := "KnockFinder$Steps"
def TX8 : u_T := fun k => match k with
  | 0 => ("KnockFinder$Steps", "letters", "[I", true)
  | 1 => ("KnockFinder$Steps", "numbers", "[I", true)
  | _ => ("KnockFinder$Steps", "count", "I", false)
def tyX8 : Nat → FieldType := fun k => match k with
  | 0 => .array .int
  | 1 => .array .int
  | _ => .int
abbrev wsX80 : List Cond := u_ws RX8 TX8 3
theorem nmX8 : ∀ a, a < 3 → ∀ b, b < 3 → a ≠ b → (TX8 a).2.1 ≠ (TX8 b).2.1 := by decide +kernel
theorem tyX8_ok : ∀ k, k < 3 → parseFieldDescriptor (TX8 k).2.2.1 = some (tyX8 k) := by decide +kernel
abbrev cX8_init : ByteArray := prog_10_method_1_code
def yX8_init : MethodName := ⟨RX8, "<init>", "()V"⟩
abbrev cX8_copy : ByteArray := prog_10_method_2_code
def yX8_copy : MethodName := ⟨RX8, "copy", "(LKnockFinder$Steps;)V"⟩
abbrev cX8_read : ByteArray := prog_10_method_3_code
def yX8_read : MethodName := ⟨RX8, "read", "(LKnockFinder$Tape;)V"⟩
abbrev cX8_readStep : ByteArray := prog_10_method_4_code
def yX8_readStep : MethodName := ⟨RX8, "readStep", "(LKnockFinder$Tape;)V"⟩
abbrev cX8_filter : ByteArray := prog_10_method_5_code
def yX8_filter : MethodName := ⟨RX8, "filter", "(LKnockFinder$Knocks;)V"⟩
abbrev cX8_sift : ByteArray := prog_10_method_6_code
def yX8_sift : MethodName := ⟨RX8, "sift", "(LKnockFinder$Knocks;II)V"⟩
abbrev cX8_stays : ByteArray := prog_10_method_7_code
def yX8_stays : MethodName := ⟨RX8, "stays", "(IIII)Z"⟩
abbrev cX8_merge : ByteArray := prog_10_method_8_code
def yX8_merge : MethodName := ⟨RX8, "merge", "(LKnockFinder$Knocks;I)V"⟩
abbrev cX8_strengthen : ByteArray := prog_10_method_9_code
def yX8_strengthen : MethodName := ⟨RX8, "strengthen", "(LKnockFinder$Knocks;I)V"⟩
abbrev cX8_delay : ByteArray := prog_10_method_10_code
def yX8_delay : MethodName := ⟨RX8, "delay", "(LKnockFinder$Knocks;I)V"⟩
def RX9 : String := "KnockFinder$Tape"
def TX9 : u_T := fun k => match k with
  | 0 => ("KnockFinder$Tape", "bytes", "[I", true)
  | 1 => ("KnockFinder$Tape", "count", "I", false)
  | 2 => ("KnockFinder$Tape", "length", "I", false)
  | 3 => ("KnockFinder$Tape", "place", "I", false)
  | 4 => ("KnockFinder$Tape", "fault", "I", false)
  | 5 => ("KnockFinder$Tape", "begins", "[I", true)
  | _ => ("KnockFinder$Tape", "laid", "[I", true)
def tyX9 : Nat → FieldType := fun k => match k with
  | 0 => .array .int
  | 1 => .int
  | 2 => .int
  | 3 => .int
  | 4 => .int
  | 5 => .array .int
  | _ => .array .int
abbrev wsX90 : List Cond := u_ws RX9 TX9 7
theorem nmX9 : ∀ a, a < 7 → ∀ b, b < 7 → a ≠ b → (TX9 a).2.1 ≠ (TX9 b).2.1 := by decide +kernel
theorem tyX9_ok : ∀ k, k < 7 → parseFieldDescriptor (TX9 k).2.2.1 = some (tyX9 k) := by decide +kernel
abbrev cX9_init : ByteArray := prog_11_method_1_code
def yX9_init : MethodName := ⟨RX9, "<init>", "()V"⟩
abbrev cX9_put : ByteArray := prog_11_method_2_code
def yX9_put : MethodName := ⟨RX9, "put", "(I)V"⟩
abbrev cX9_has : ByteArray := prog_11_method_3_code
def yX9_has : MethodName := ⟨RX9, "has", "(III)Z"⟩
abbrev cX9_take : ByteArray := prog_11_method_4_code
def yX9_take : MethodName := ⟨RX9, "take", "(I)V"⟩
abbrev cX9_hasEnded : ByteArray := prog_11_method_5_code
def yX9_hasEnded : MethodName := ⟨RX9, "hasEnded", "()Z"⟩
abbrev cX9_sign : ByteArray := prog_11_method_6_code
def yX9_sign : MethodName := ⟨RX9, "sign", "()I"⟩
abbrev cX9_refuse : ByteArray := prog_11_method_7_code
def yX9_refuse : MethodName := ⟨RX9, "refuse", "(II)V"⟩
abbrev cX9_isDigit : ByteArray := prog_11_method_8_code
def yX9_isDigit : MethodName := ⟨RX9, "isDigit", "(I)Z"⟩
abbrev cX9_readNumber : ByteArray := prog_11_method_9_code
def yX9_readNumber : MethodName := ⟨RX9, "readNumber", "(I)I"⟩
abbrev cX9_pass : ByteArray := prog_11_method_10_code
def yX9_pass : MethodName := ⟨RX9, "pass", "(II)V"⟩
abbrev cX9_hasPart : ByteArray := prog_11_method_11_code
def yX9_hasPart : MethodName := ⟨RX9, "hasPart", "(II)Z"⟩
abbrev cX9_proofItems : ByteArray := prog_11_method_12_code
def yX9_proofItems : MethodName := ⟨RX9, "proofItems", "()V"⟩
abbrev cX9_proofKnock : ByteArray := prog_11_method_13_code
def yX9_proofKnock : MethodName := ⟨RX9, "proofKnock", "()V"⟩
abbrev cX9_layItems : ByteArray := prog_11_method_14_code
def yX9_layItems : MethodName := ⟨RX9, "layItems", "(LKnockFinder$Knocks;)I"⟩
abbrev cX9_enterRounds : ByteArray := prog_11_method_15_code
def yX9_enterRounds : MethodName := ⟨RX9, "enterRounds", "(I)I"⟩
abbrev cX9_endRound : ByteArray := prog_11_method_16_code
def yX9_endRound : MethodName := ⟨RX9, "endRound", "(I)I"⟩
abbrev cX9_layKnock : ByteArray := prog_11_method_17_code
def yX9_layKnock : MethodName := ⟨RX9, "layKnock", "(LKnockFinder$Knocks;)I"⟩
def RX10 : String := "KnockFinder$Verdict"
def TX10 : u_T := fun k => match k with
  | 0 => ("KnockFinder$Verdict", "known", "[Z", true)
  | 1 => ("KnockFinder$Verdict", "knocks", "[I", true)
  | 2 => ("KnockFinder$Verdict", "hits", "[I", true)
  | 3 => ("KnockFinder$Verdict", "scores", "[I", true)
  | 4 => ("KnockFinder$Verdict", "peeled", "Z", false)
  | 5 => ("KnockFinder$Verdict", "count", "I", false)
  | 6 => ("KnockFinder$Verdict", "left", "I", false)
  | _ => ("KnockFinder$Verdict", "told", "[I", true)
def tyX10 : Nat → FieldType := fun k => match k with
  | 0 => .array .boolean
  | 1 => .array .int
  | 2 => .array .int
  | 3 => .array .int
  | 4 => .boolean
  | 5 => .int
  | 6 => .int
  | _ => .array .int
abbrev wsX100 : List Cond := u_ws RX10 TX10 8
theorem nmX10 : ∀ a, a < 8 → ∀ b, b < 8 → a ≠ b → (TX10 a).2.1 ≠ (TX10 b).2.1 := by decide +kernel
theorem tyX10_ok : ∀ k, k < 8 → parseFieldDescriptor (TX10 k).2.2.1 = some (tyX10 k) := by decide +kernel
abbrev cX10_init : ByteArray := prog_12_method_1_code
def yX10_init : MethodName := ⟨RX10, "<init>", "()V"⟩
abbrev cX10_forget : ByteArray := prog_12_method_2_code
def yX10_forget : MethodName := ⟨RX10, "forget", "()V"⟩
abbrev cX10_put : ByteArray := prog_12_method_3_code
def yX10_put : MethodName := ⟨RX10, "put", "(ILKnockFinder$Comber;)V"⟩
abbrev cX10_isAhead : ByteArray := prog_12_method_4_code
def yX10_isAhead : MethodName := ⟨RX10, "isAhead", "(II)Z"⟩
abbrev cX10_kindAt : ByteArray := prog_12_method_5_code
def yX10_kindAt : MethodName := ⟨RX10, "kindAt", "(I)I"⟩
abbrev cX10_add : ByteArray := prog_12_method_6_code
def yX10_add : MethodName := ⟨RX10, "add", "(ILKnockFinder$Comber;LKnockFinder$Knocks;)V"⟩
abbrev cX10_tell : ByteArray := prog_12_method_7_code
def yX10_tell : MethodName := ⟨RX10, "tell", "(II)I"⟩
abbrev cX10_write : ByteArray := prog_12_method_8_code
def yX10_write : MethodName := ⟨RX10, "write", "(ILjava/lang/StringBuilder;)V"⟩
abbrev cX10_nameOf : ByteArray := prog_12_method_9_code
def yX10_nameOf : MethodName := ⟨RX10, "nameOf", "(I)Ljava/lang/String;"⟩
def RX11 : String := "KnockFinder"
def TX11 : u_T := fun k => match k with
  | 0 => ("KnockFinder", "tape", "LKnockFinder$Tape;", true)
  | 1 => ("KnockFinder", "now", "LKnockFinder$State;", false)
  | 2 => ("KnockFinder", "draft", "LKnockFinder$State;", false)
  | 3 => ("KnockFinder", "past", "[LKnockFinder$State;", true)
  | 4 => ("KnockFinder", "pastNext", "I", false)
  | 5 => ("KnockFinder", "undoable", "I", false)
  | 6 => ("KnockFinder", "seen", "LKnockFinder$Knocks;", true)
  | 7 => ("KnockFinder", "aside", "LKnockFinder$Knocks;", true)
  | 8 => ("KnockFinder", "ratio", "LKnockFinder$Ratio;", true)
  | 9 => ("KnockFinder", "otherRatio", "LKnockFinder$Ratio;", true)
  | 10 => ("KnockFinder", "comber", "LKnockFinder$Comber;", true)
  | 11 => ("KnockFinder", "chains", "LKnockFinder$Chains;", true)
  | 12 => ("KnockFinder", "masks", "LKnockFinder$Masks;", true)
  | 13 => ("KnockFinder", "otherMasks", "LKnockFinder$Masks;", true)
  | 14 => ("KnockFinder", "verdict", "LKnockFinder$Verdict;", true)
  | 15 => ("KnockFinder", "verdictAside", "LKnockFinder$Verdict;", true)
  | 16 => ("KnockFinder", "eighths", "[I", true)
  | _ => ("KnockFinder", "pairs", "[I", true)
def tyX11 : Nat → FieldType := fun k => match k with
  | 0 => .object "KnockFinder$Tape"
  | 1 => .object "KnockFinder$State"
  | 2 => .object "KnockFinder$State"
  | 3 => .array (.object "KnockFinder$State")
  | 4 => .int
  | 5 => .int
  | 6 => .object "KnockFinder$Knocks"
  | 7 => .object "KnockFinder$Knocks"
  | 8 => .object "KnockFinder$Ratio"
  | 9 => .object "KnockFinder$Ratio"
  | 10 => .object "KnockFinder$Comber"
  | 11 => .object "KnockFinder$Chains"
  | 12 => .object "KnockFinder$Masks"
  | 13 => .object "KnockFinder$Masks"
  | 14 => .object "KnockFinder$Verdict"
  | 15 => .object "KnockFinder$Verdict"
  | 16 => .array .int
  | _ => .array .int
abbrev wsX110 : List Cond := u_ws RX11 TX11 18
theorem nmX11 : ∀ a, a < 18 → ∀ b, b < 18 → a ≠ b → (TX11 a).2.1 ≠ (TX11 b).2.1 := by decide +kernel
theorem tyX11_ok : ∀ k, k < 18 → parseFieldDescriptor (TX11 k).2.2.1 = some (tyX11 k) := by decide +kernel
abbrev cX11_init : ByteArray := prog_1_method_1_code
def yX11_init : MethodName := ⟨RX11, "<init>", "()V"⟩
abbrev cX11_feed : ByteArray := prog_1_method_2_code
def yX11_feed : MethodName := ⟨RX11, "feed", "(IIIII)I"⟩
abbrev cX11_get : ByteArray := prog_1_method_3_code
def yX11_get : MethodName := ⟨RX11, "get", "(I)I"⟩
abbrev cX11_angle : ByteArray := prog_1_method_4_code
def yX11_angle : MethodName := ⟨RX11, "angle", "(I)J"⟩
abbrev cX11_knock : ByteArray := prog_1_method_5_code
def yX11_knock : MethodName := ⟨RX11, "knock", "(II)I"⟩
abbrev cX11_ratio : ByteArray := prog_1_method_6_code
def yX11_ratio : MethodName := ⟨RX11, "ratio", "(II)I"⟩
abbrev cX11_isKind : ByteArray := prog_1_method_7_code
def yX11_isKind : MethodName := ⟨RX11, "isKind", "(I)Z"⟩
abbrev cX11_isOption : ByteArray := prog_1_method_8_code
def yX11_isOption : MethodName := ⟨RX11, "isOption", "(I)Z"⟩
abbrev cX11_isTurn : ByteArray := prog_1_method_9_code
def yX11_isTurn : MethodName := ⟨RX11, "isTurn", "(I)Z"⟩
abbrev cX11_isBearing : ByteArray := prog_1_method_10_code
def yX11_isBearing : MethodName := ⟨RX11, "isBearing", "(III)Z"⟩
abbrev cX11_isSeen : ByteArray := prog_1_method_11_code
def yX11_isSeen : MethodName := ⟨RX11, "isSeen", "(I)Z"⟩
abbrev cX11_bearing : ByteArray := prog_1_method_12_code
def yX11_bearing : MethodName := ⟨RX11, "bearing", "(III)I"⟩
abbrev cX11_turn : ByteArray := prog_1_method_13_code
def yX11_turn : MethodName := ⟨RX11, "turn", "(I)I"⟩
abbrev cX11_speeds : ByteArray := prog_1_method_14_code
def yX11_speeds : MethodName := ⟨RX11, "speeds", "(I)I"⟩
abbrev cX11_trace : ByteArray := prog_1_method_15_code
def yX11_trace : MethodName := ⟨RX11, "trace", "(I)I"⟩
abbrev cX11_filters : ByteArray := prog_1_method_16_code
def yX11_filters : MethodName := ⟨RX11, "filters", "(I)I"⟩
abbrev cX11_set : ByteArray := prog_1_method_17_code
def yX11_set : MethodName := ⟨RX11, "set", "(II)I"⟩
abbrev cX11_drop : ByteArray := prog_1_method_18_code
def yX11_drop : MethodName := ⟨RX11, "drop", "(I)I"⟩
abbrev cX11_note : ByteArray := prog_1_method_19_code
def yX11_note : MethodName := ⟨RX11, "note", "(I)I"⟩
abbrev cX11_undo : ByteArray := prog_1_method_20_code
def yX11_undo : MethodName := ⟨RX11, "undo", "()I"⟩
abbrev cX11_beginAct : ByteArray := prog_1_method_21_code
def yX11_beginAct : MethodName := ⟨RX11, "beginAct", "()V"⟩
abbrev cX11_endAct : ByteArray := prog_1_method_22_code
def yX11_endAct : MethodName := ⟨RX11, "endAct", "()V"⟩
abbrev cX11_refresh : ByteArray := prog_1_method_23_code
def yX11_refresh : MethodName := ⟨RX11, "refresh", "()V"⟩
abbrev cX11_comb : ByteArray := prog_1_method_24_code
def yX11_comb : MethodName := ⟨RX11, "comb", "(III)I"⟩
abbrev cX11_hit : ByteArray := prog_1_method_25_code
def yX11_hit : MethodName := ⟨RX11, "hit", "(III)I"⟩
abbrev cX11_best : ByteArray := prog_1_method_26_code
def yX11_best : MethodName := ⟨RX11, "best", "(II)I"⟩
abbrev cX11_side : ByteArray := prog_1_method_27_code
def yX11_side : MethodName := ⟨RX11, "side", "(II)I"⟩
abbrev cX11_shared : ByteArray := prog_1_method_28_code
def yX11_shared : MethodName := ⟨RX11, "shared", "(II)I"⟩
abbrev cX11_both : ByteArray := prog_1_method_29_code
def yX11_both : MethodName := ⟨RX11, "both", "(III)I"⟩
abbrev cX11_window : ByteArray := prog_1_method_30_code
def yX11_window : MethodName := ⟨RX11, "window", "(IIII)I"⟩
abbrev cX11_folded : ByteArray := prog_1_method_31_code
def yX11_folded : MethodName := ⟨RX11, "folded", "(III)I"⟩
abbrev cX11_foldHits : ByteArray := prog_1_method_32_code
def yX11_foldHits : MethodName := ⟨RX11, "foldHits", "(LKnockFinder$Ratio;)V"⟩
abbrev cX11_depthOfEighths : ByteArray := prog_1_method_33_code
def yX11_depthOfEighths : MethodName := ⟨RX11, "depthOfEighths", "()I"⟩
abbrev cX11_apart : ByteArray := prog_1_method_34_code
def yX11_apart : MethodName := ⟨RX11, "apart", "(II)I"⟩
abbrev cX11_ready : ByteArray := prog_1_method_35_code
def yX11_ready : MethodName := ⟨RX11, "ready", "(LKnockFinder$Knocks;LKnockFinder$State;I)V"⟩
abbrev cX11_findBestSeen : ByteArray := prog_1_method_36_code
def yX11_findBestSeen : MethodName := ⟨RX11, "findBestSeen", "(I)V"⟩
abbrev cX11_layBest : ByteArray := prog_1_method_37_code
def yX11_layBest : MethodName := ⟨RX11, "layBest", "(I)Z"⟩
abbrev cX11_chain : ByteArray := prog_1_method_38_code
def yX11_chain : MethodName := ⟨RX11, "chain", "(III)I"⟩
abbrev cX11_longest : ByteArray := prog_1_method_39_code
def yX11_longest : MethodName := ⟨RX11, "longest", "(II)I"⟩
abbrev cX11_ranked : ByteArray := prog_1_method_40_code
def yX11_ranked : MethodName := ⟨RX11, "ranked", "(I)I"⟩
abbrev cX11_faults : ByteArray := prog_1_method_41_code
def yX11_faults : MethodName := ⟨RX11, "faults", "(I)I"⟩
abbrev cX11_fault : ByteArray := prog_1_method_42_code
def yX11_fault : MethodName := ⟨RX11, "fault", "(II)I"⟩
abbrev cX11_report : ByteArray := prog_1_method_43_code
def yX11_report : MethodName := ⟨RX11, "report", "(II)I"⟩
abbrev cX11_tried : ByteArray := prog_1_method_44_code
def yX11_tried : MethodName := ⟨RX11, "tried", "(IIIII)I"⟩
abbrev cX11_bestTurn : ByteArray := prog_1_method_45_code
def yX11_bestTurn : MethodName := ⟨RX11, "bestTurn", "(IIII)I"⟩
abbrev cX11_check : ByteArray := prog_1_method_46_code
def yX11_check : MethodName := ⟨RX11, "check", "(I)I"⟩
abbrev cX11_peel : ByteArray := prog_1_method_47_code
def yX11_peel : MethodName := ⟨RX11, "peel", "(LKnockFinder$Verdict;LKnockFinder$State;)V"⟩
abbrev cX11_firstAside : ByteArray := prog_1_method_48_code
def yX11_firstAside : MethodName := ⟨RX11, "firstAside", "(LKnockFinder$State;I)I"⟩
abbrev cX11_lag : ByteArray := prog_1_method_49_code
def yX11_lag : MethodName := ⟨RX11, "lag", "(II)I"⟩
abbrev cX11_lags : ByteArray := prog_1_method_50_code
def yX11_lags : MethodName := ⟨RX11, "lags", "(IIII)I"⟩
abbrev cX11_areLags : ByteArray := prog_1_method_51_code
def yX11_areLags : MethodName := ⟨RX11, "areLags", "(III)Z"⟩
abbrev cX11_sumPairs : ByteArray := prog_1_method_52_code
def yX11_sumPairs : MethodName := ⟨RX11, "sumPairs", "(III)V"⟩
abbrev cX11_pairsAt : ByteArray := prog_1_method_53_code
def yX11_pairsAt : MethodName := ⟨RX11, "pairsAt", "(II)I"⟩
abbrev cX11_nearest : ByteArray := prog_1_method_54_code
def yX11_nearest : MethodName := ⟨RX11, "nearest", "(II)I"⟩
abbrev cX11_noteIs : ByteArray := prog_1_method_55_code
def yX11_noteIs : MethodName := ⟨RX11, "noteIs", "(II)I"⟩
abbrev cX11_line : ByteArray := prog_1_method_56_code
def yX11_line : MethodName := ⟨RX11, "line", "(II)J"⟩
abbrev cX11_due : ByteArray := prog_1_method_57_code
def yX11_due : MethodName := ⟨RX11, "due", "(II)I"⟩
def RX12 : String := "KnockFinderModel"
def TX12 : u_T := fun k => match k with
  | 0 => ("KnockFinderModel", "file", "[I", true)
  | 1 => ("KnockFinderModel", "aside", "[I", true)
  | 2 => ("KnockFinderModel", "past", "[I", true)
  | 3 => ("KnockFinderModel", "acts", "I", false)
  | 4 => ("KnockFinderModel", "tape", "[B", true)
  | 5 => ("KnockFinderModel", "taped", "I", false)
  | 6 => ("KnockFinderModel", "place0", "I", false)
  | 7 => ("KnockFinderModel", "length0", "I", false)
  | 8 => ("KnockFinderModel", "fault", "I", false)
  | 9 => ("KnockFinderModel", "number0", "I", false)
  | 10 => ("KnockFinderModel", "numberAt", "I", false)
  | 11 => ("KnockFinderModel", "draft", "[I", true)
  | 12 => ("KnockFinderModel", "drafted", "I", false)
  | 13 => ("KnockFinderModel", "up", "J", false)
  | 14 => ("KnockFinderModel", "low", "J", false)
  | 15 => ("KnockFinderModel", "gapOf", "[I", true)
  | 16 => ("KnockFinderModel", "strongOf", "[I", true)
  | 17 => ("KnockFinderModel", "openGaps", "[I", true)
  | 18 => ("KnockFinderModel", "gaps", "I", false)
  | 19 => ("KnockFinderModel", "tick", "[I", true)
  | 20 => ("KnockFinderModel", "strong", "[I", true)
  | 21 => ("KnockFinderModel", "angle", "[J", true)
  | 22 => ("KnockFinderModel", "many", "I", false)
  | 23 => ("KnockFinderModel", "markOf", "[I", true)
  | 24 => ("KnockFinderModel", "offOf", "[J", true)
  | 25 => ("KnockFinderModel", "hits", "I", false)
  | 26 => ("KnockFinderModel", "score", "I", false)
  | 27 => ("KnockFinderModel", "lastHit", "I", false)
  | 28 => ("KnockFinderModel", "strengths", "I", false)
  | 29 => ("KnockFinderModel", "marks", "J", false)
  | 30 => ("KnockFinderModel", "most", "J", false)
  | 31 => ("KnockFinderModel", "isHit", "[Z", true)
  | 32 => ("KnockFinderModel", "setOf", "[J", true)
  | 33 => ("KnockFinderModel", "hasSet", "[Z", true)
  | 34 => ("KnockFinderModel", "stay", "[Z", true)
  | 35 => ("KnockFinderModel", "chainMany", "I", false)
  | 36 => ("KnockFinderModel", "chainLast", "I", false)
  | 37 => ("KnockFinderModel", "chainPeriods", "I", false)
  | 38 => ("KnockFinderModel", "eighths", "[I", true)
  | 39 => ("KnockFinderModel", "rankHits", "[I", true)
  | 40 => ("KnockFinderModel", "rankScore", "[I", true)
  | 41 => ("KnockFinderModel", "found", "[I", true)
  | 42 => ("KnockFinderModel", "isFound", "[Z", true)
  | 43 => ("KnockFinderModel", "foundMany", "I", false)
  | 44 => ("KnockFinderModel", "line", "[B", true)
  | 45 => ("KnockFinderModel", "lineMany", "I", false)
  | 46 => ("KnockFinderModel", "words", "[B", true)
  | 47 => ("KnockFinderModel", "upOne", "J", false)
  | 48 => ("KnockFinderModel", "lowOne", "J", false)
  | 49 => ("KnockFinderModel", "notes", "J", false)
  | 50 => ("KnockFinderModel", "days", "J", false)
  | 51 => ("KnockFinderModel", "sums", "J", false)
  | 52 => ("KnockFinderModel", "rise", "J", false)
  | _ => ("KnockFinderModel", "run", "J", false)
def tyX12 : Nat → FieldType := fun k => match k with
  | 0 => .array .int
  | 1 => .array .int
  | 2 => .array .int
  | 3 => .int
  | 4 => .array .byte
  | 5 => .int
  | 6 => .int
  | 7 => .int
  | 8 => .int
  | 9 => .int
  | 10 => .int
  | 11 => .array .int
  | 12 => .int
  | 13 => .long
  | 14 => .long
  | 15 => .array .int
  | 16 => .array .int
  | 17 => .array .int
  | 18 => .int
  | 19 => .array .int
  | 20 => .array .int
  | 21 => .array .long
  | 22 => .int
  | 23 => .array .int
  | 24 => .array .long
  | 25 => .int
  | 26 => .int
  | 27 => .int
  | 28 => .int
  | 29 => .long
  | 30 => .long
  | 31 => .array .boolean
  | 32 => .array .long
  | 33 => .array .boolean
  | 34 => .array .boolean
  | 35 => .int
  | 36 => .int
  | 37 => .int
  | 38 => .array .int
  | 39 => .array .int
  | 40 => .array .int
  | 41 => .array .int
  | 42 => .array .boolean
  | 43 => .int
  | 44 => .array .byte
  | 45 => .int
  | 46 => .array .byte
  | 47 => .long
  | 48 => .long
  | 49 => .long
  | 50 => .long
  | 51 => .long
  | 52 => .long
  | _ => .long
abbrev wsX120 : List Cond := u_ws RX12 TX12 54
theorem nmX12 : ∀ a, a < 54 → ∀ b, b < 54 → a ≠ b → (TX12 a).2.1 ≠ (TX12 b).2.1 := by decide +kernel
theorem tyX12_ok : ∀ k, k < 54 → parseFieldDescriptor (TX12 k).2.2.1 = some (tyX12 k) := by decide +kernel
abbrev cX12_init : ByteArray := prog_14_method_1_code
def yX12_init : MethodName := ⟨RX12, "<init>", "()V"⟩
abbrev cX12_in : ByteArray := prog_14_method_2_code
def yX12_in : MethodName := ⟨RX12, "in", "(JJJ)Z"⟩
abbrev cX12_min : ByteArray := prog_14_method_3_code
def yX12_min : MethodName := ⟨RX12, "min", "(II)I"⟩
abbrev cX12_max : ByteArray := prog_14_method_4_code
def yX12_max : MethodName := ⟨RX12, "max", "(II)I"⟩
abbrev cX12_size : ByteArray := prog_14_method_5_code
def yX12_size : MethodName := ⟨RX12, "size", "(J)J"⟩
abbrev cX12_common : ByteArray := prog_14_method_6_code
def yX12_common : MethodName := ⟨RX12, "common", "(JJ)J"⟩
abbrev cX12_floored : ByteArray := prog_14_method_7_code
def yX12_floored : MethodName := ⟨RX12, "floored", "(JJ)J"⟩
abbrev cX12_isKind : ByteArray := prog_14_method_8_code
def yX12_isKind : MethodName := ⟨RX12, "isKind", "(I)Z"⟩
abbrev cX12_remembers : ByteArray := prog_14_method_9_code
def yX12_remembers : MethodName := ⟨RX12, "remembers", "()V"⟩
abbrev cX12_undo : ByteArray := prog_14_method_10_code
def yX12_undo : MethodName := ⟨RX12, "undo", "()I"⟩
abbrev cX12_laysAside : ByteArray := prog_14_method_11_code
def yX12_laysAside : MethodName := ⟨RX12, "laysAside", "()V"⟩
abbrev cX12_laysBack : ByteArray := prog_14_method_12_code
def yX12_laysBack : MethodName := ⟨RX12, "laysBack", "()V"⟩
abbrev cX12_types : ByteArray := prog_14_method_13_code
def yX12_types : MethodName := ⟨RX12, "types", "(I)V"⟩
abbrev cX12_feed : ByteArray := prog_14_method_14_code
def yX12_feed : MethodName := ⟨RX12, "feed", "(IIIII)I"⟩
abbrev cX12_begins : ByteArray := prog_14_method_15_code
def yX12_begins : MethodName := ⟨RX12, "begins", "(III)Z"⟩
abbrev cX12_here : ByteArray := prog_14_method_16_code
def yX12_here : MethodName := ⟨RX12, "here", "()I"⟩
abbrev cX12_wrongAt : ByteArray := prog_14_method_17_code
def yX12_wrongAt : MethodName := ⟨RX12, "wrongAt", "(II)Z"⟩
abbrev cX12_takesSign : ByteArray := prog_14_method_18_code
def yX12_takesSign : MethodName := ⟨RX12, "takesSign", "(I)Z"⟩
abbrev cX12_isDigit : ByteArray := prog_14_method_19_code
def yX12_isDigit : MethodName := ⟨RX12, "isDigit", "(I)Z"⟩
abbrev cX12_readsNumber : ByteArray := prog_14_method_20_code
def yX12_readsNumber : MethodName := ⟨RX12, "readsNumber", "(III)Z"⟩
abbrev cX12_isBearing : ByteArray := prog_14_method_21_code
def yX12_isBearing : MethodName := ⟨RX12, "isBearing", "(III)Z"⟩
abbrev cX12_isTurn : ByteArray := prog_14_method_22_code
def yX12_isTurn : MethodName := ⟨RX12, "isTurn", "(I)Z"⟩
abbrev cX12_lays : ByteArray := prog_14_method_23_code
def yX12_lays : MethodName := ⟨RX12, "lays", "(III)V"⟩
abbrev cX12_bearing : ByteArray := prog_14_method_24_code
def yX12_bearing : MethodName := ⟨RX12, "bearing", "(III)I"⟩
abbrev cX12_turn : ByteArray := prog_14_method_25_code
def yX12_turn : MethodName := ⟨RX12, "turn", "(I)I"⟩
abbrev cX12_readsSpan : ByteArray := prog_14_method_26_code
def yX12_readsSpan : MethodName := ⟨RX12, "readsSpan", "()Z"⟩
abbrev cX12_takesDraft : ByteArray := prog_14_method_27_code
def yX12_takesDraft : MethodName := ⟨RX12, "takesDraft", "(II)V"⟩
abbrev cX12_speeds : ByteArray := prog_14_method_28_code
def yX12_speeds : MethodName := ⟨RX12, "speeds", "(I)I"⟩
abbrev cX12_angleOf : ByteArray := prog_14_method_29_code
def yX12_angleOf : MethodName := ⟨RX12, "angleOf", "(I)J"⟩
abbrev cX12_angle : ByteArray := prog_14_method_30_code
def yX12_angle : MethodName := ⟨RX12, "angle", "(I)J"⟩
abbrev cX12_findsRatio : ByteArray := prog_14_method_31_code
def yX12_findsRatio : MethodName := ⟨RX12, "findsRatio", "(I)V"⟩
abbrev cX12_ratio : ByteArray := prog_14_method_32_code
def yX12_ratio : MethodName := ⟨RX12, "ratio", "(II)I"⟩
abbrev cX12_laysGap : ByteArray := prog_14_method_33_code
def yX12_laysGap : MethodName := ⟨RX12, "laysGap", "(II)V"⟩
abbrev cX12_repeats : ByteArray := prog_14_method_34_code
def yX12_repeats : MethodName := ⟨RX12, "repeats", "(II)V"⟩
abbrev cX12_readsItems : ByteArray := prog_14_method_35_code
def yX12_readsItems : MethodName := ⟨RX12, "readsItems", "()Z"⟩
abbrev cX12_trace : ByteArray := prog_14_method_36_code
def yX12_trace : MethodName := ⟨RX12, "trace", "(I)I"⟩
abbrev cX12_drop : ByteArray := prog_14_method_37_code
def yX12_drop : MethodName := ⟨RX12, "drop", "(I)I"⟩
abbrev cX12_isStep : ByteArray := prog_14_method_38_code
def yX12_isStep : MethodName := ⟨RX12, "isStep", "(I)Z"⟩
abbrev cX12_readsStep : ByteArray := prog_14_method_39_code
def yX12_readsStep : MethodName := ⟨RX12, "readsStep", "()Z"⟩
abbrev cX12_filters : ByteArray := prog_14_method_40_code
def yX12_filters : MethodName := ⟨RX12, "filters", "(I)I"⟩
abbrev cX12_keepsKnock : ByteArray := prog_14_method_41_code
def yX12_keepsKnock : MethodName := ⟨RX12, "keepsKnock", "(II)V"⟩
abbrev cX12_stays : ByteArray := prog_14_method_42_code
def yX12_stays : MethodName := ⟨RX12, "stays", "(IIII)Z"⟩
abbrev cX12_goesThrough : ByteArray := prog_14_method_43_code
def yX12_goesThrough : MethodName := ⟨RX12, "goesThrough", "(II)V"⟩
abbrev cX12_sees : ByteArray := prog_14_method_44_code
def yX12_sees : MethodName := ⟨RX12, "sees", "()V"⟩
abbrev cX12_knock : ByteArray := prog_14_method_45_code
def yX12_knock : MethodName := ⟨RX12, "knock", "(II)I"⟩
abbrev cX12_set : ByteArray := prog_14_method_46_code
def yX12_set : MethodName := ⟨RX12, "set", "(II)I"⟩
abbrev cX12_get : ByteArray := prog_14_method_47_code
def yX12_get : MethodName := ⟨RX12, "get", "(I)I"⟩
abbrev cX12_lays_ : ByteArray := prog_14_method_48_code
def yX12_lays_ : MethodName := ⟨RX12, "lays", "(I)V"⟩
abbrev cX12_told : ByteArray := prog_14_method_49_code
def yX12_told : MethodName := ⟨RX12, "told", "(I)I"⟩
abbrev cX12_laysBest : ByteArray := prog_14_method_50_code
def yX12_laysBest : MethodName := ⟨RX12, "laysBest", "()I"⟩
abbrev cX12_laysBestOf : ByteArray := prog_14_method_51_code
def yX12_laysBestOf : MethodName := ⟨RX12, "laysBestOf", "(I)I"⟩
abbrev cX12_comb : ByteArray := prog_14_method_52_code
def yX12_comb : MethodName := ⟨RX12, "comb", "(III)I"⟩
abbrev cX12_hit : ByteArray := prog_14_method_53_code
def yX12_hit : MethodName := ⟨RX12, "hit", "(III)I"⟩
abbrev cX12_best : ByteArray := prog_14_method_54_code
def yX12_best : MethodName := ⟨RX12, "best", "(II)I"⟩
abbrev cX12_side : ByteArray := prog_14_method_55_code
def yX12_side : MethodName := ⟨RX12, "side", "(II)I"⟩
abbrev cX12_notesHits : ByteArray := prog_14_method_56_code
def yX12_notesHits : MethodName := ⟨RX12, "notesHits", "()V"⟩
abbrev cX12_shared : ByteArray := prog_14_method_57_code
def yX12_shared : MethodName := ⟨RX12, "shared", "(II)I"⟩
abbrev cX12_laysSets : ByteArray := prog_14_method_58_code
def yX12_laysSets : MethodName := ⟨RX12, "laysSets", "(II)V"⟩
abbrev cX12_bits : ByteArray := prog_14_method_59_code
def yX12_bits : MethodName := ⟨RX12, "bits", "(J)I"⟩
abbrev cX12_joined : ByteArray := prog_14_method_60_code
def yX12_joined : MethodName := ⟨RX12, "joined", "(II)I"⟩
abbrev cX12_both : ByteArray := prog_14_method_61_code
def yX12_both : MethodName := ⟨RX12, "both", "(III)I"⟩
abbrev cX12_thins : ByteArray := prog_14_method_62_code
def yX12_thins : MethodName := ⟨RX12, "thins", "([Z)V"⟩
abbrev cX12_window : ByteArray := prog_14_method_63_code
def yX12_window : MethodName := ⟨RX12, "window", "(IIII)I"⟩
abbrev cX12_nextOf : ByteArray := prog_14_method_64_code
def yX12_nextOf : MethodName := ⟨RX12, "nextOf", "(II)I"⟩
abbrev cX12_chains : ByteArray := prog_14_method_65_code
def yX12_chains : MethodName := ⟨RX12, "chains", "(I)V"⟩
abbrev cX12_toldChain : ByteArray := prog_14_method_66_code
def yX12_toldChain : MethodName := ⟨RX12, "toldChain", "(I)I"⟩
abbrev cX12_chain : ByteArray := prog_14_method_67_code
def yX12_chain : MethodName := ⟨RX12, "chain", "(III)I"⟩
abbrev cX12_longest : ByteArray := prog_14_method_68_code
def yX12_longest : MethodName := ⟨RX12, "longest", "(II)I"⟩
abbrev cX12_folds : ByteArray := prog_14_method_69_code
def yX12_folds : MethodName := ⟨RX12, "folds", "()V"⟩
abbrev cX12_depth : ByteArray := prog_14_method_70_code
def yX12_depth : MethodName := ⟨RX12, "depth", "()I"⟩
abbrev cX12_folded : ByteArray := prog_14_method_71_code
def yX12_folded : MethodName := ⟨RX12, "folded", "(III)I"⟩
abbrev cX12_ranks : ByteArray := prog_14_method_72_code
def yX12_ranks : MethodName := ⟨RX12, "ranks", "()V"⟩
abbrev cX12_isAhead : ByteArray := prog_14_method_73_code
def yX12_isAhead : MethodName := ⟨RX12, "isAhead", "(II)Z"⟩
abbrev cX12_rankedAt : ByteArray := prog_14_method_74_code
def yX12_rankedAt : MethodName := ⟨RX12, "rankedAt", "(I)I"⟩
abbrev cX12_ranked : ByteArray := prog_14_method_75_code
def yX12_ranked : MethodName := ⟨RX12, "ranked", "(I)I"⟩
abbrev cX12_nextFault : ByteArray := prog_14_method_76_code
def yX12_nextFault : MethodName := ⟨RX12, "nextFault", "()I"⟩
abbrev cX12_peels : ByteArray := prog_14_method_77_code
def yX12_peels : MethodName := ⟨RX12, "peels", "()V"⟩
abbrev cX12_faults : ByteArray := prog_14_method_78_code
def yX12_faults : MethodName := ⟨RX12, "faults", "(I)I"⟩
abbrev cX12_fault : ByteArray := prog_14_method_79_code
def yX12_fault : MethodName := ⟨RX12, "fault", "(II)I"⟩
abbrev cX12_says : ByteArray := prog_14_method_80_code
def yX12_says : MethodName := ⟨RX12, "says", "(I)V"⟩
abbrev cX12_saysNumber : ByteArray := prog_14_method_81_code
def yX12_saysNumber : MethodName := ⟨RX12, "saysNumber", "(I)V"⟩
abbrev cX12_laysReport : ByteArray := prog_14_method_82_code
def yX12_laysReport : MethodName := ⟨RX12, "laysReport", "(I)V"⟩
abbrev cX12_report : ByteArray := prog_14_method_83_code
def yX12_report : MethodName := ⟨RX12, "report", "(II)I"⟩
abbrev cX12_apartFrom : ByteArray := prog_14_method_84_code
def yX12_apartFrom : MethodName := ⟨RX12, "apartFrom", "()I"⟩
abbrev cX12_apart : ByteArray := prog_14_method_85_code
def yX12_apart : MethodName := ⟨RX12, "apart", "(II)I"⟩
abbrev cX12_pairsBy : ByteArray := prog_14_method_86_code
def yX12_pairsBy : MethodName := ⟨RX12, "pairsBy", "(II)I"⟩
abbrev cX12_isLag : ByteArray := prog_14_method_87_code
def yX12_isLag : MethodName := ⟨RX12, "isLag", "(I)Z"⟩
abbrev cX12_lag : ByteArray := prog_14_method_88_code
def yX12_lag : MethodName := ⟨RX12, "lag", "(II)I"⟩
abbrev cX12_lags : ByteArray := prog_14_method_89_code
def yX12_lags : MethodName := ⟨RX12, "lags", "(IIII)I"⟩
abbrev cX12_nearest : ByteArray := prog_14_method_90_code
def yX12_nearest : MethodName := ⟨RX12, "nearest", "(II)I"⟩
abbrev cX12_noteOf : ByteArray := prog_14_method_91_code
def yX12_noteOf : MethodName := ⟨RX12, "noteOf", "(II)I"⟩
abbrev cX12_note : ByteArray := prog_14_method_92_code
def yX12_note : MethodName := ⟨RX12, "note", "(I)I"⟩
abbrev cX12_noteIs : ByteArray := prog_14_method_93_code
def yX12_noteIs : MethodName := ⟨RX12, "noteIs", "(II)I"⟩
abbrev cX12_findsLine : ByteArray := prog_14_method_94_code
def yX12_findsLine : MethodName := ⟨RX12, "findsLine", "(I)V"⟩
abbrev cX12_lineAt : ByteArray := prog_14_method_95_code
def yX12_lineAt : MethodName := ⟨RX12, "lineAt", "(J)J"⟩
abbrev cX12_line : ByteArray := prog_14_method_96_code
def yX12_line : MethodName := ⟨RX12, "line", "(II)J"⟩
abbrev cX12_due : ByteArray := prog_14_method_97_code
def yX12_due : MethodName := ⟨RX12, "due", "(II)I"⟩
abbrev cX12_tried : ByteArray := prog_14_method_98_code
def yX12_tried : MethodName := ⟨RX12, "tried", "(IIIII)I"⟩
abbrev cX12_bestTurn : ByteArray := prog_14_method_99_code
def yX12_bestTurn : MethodName := ⟨RX12, "bestTurn", "(IIII)I"⟩
abbrev cX12_check : ByteArray := prog_14_method_100_code
def yX12_check : MethodName := ⟨RX12, "check", "(I)I"⟩
def RJx145de : String := "java/io/Serializable"
def TJx145de : u_T := fun k => match k with
  | _ => ("", "", "", false)
def tyJx145de : Nat → FieldType := fun k => match k with
  | _ => .int
abbrev wsJx145de0 : List Cond := u_ws RJx145de TJx145de 0
theorem nmJx145de : ∀ a, a < 0 → ∀ b, b < 0 → a ≠ b → (TJx145de a).2.1 ≠ (TJx145de b).2.1 := by decide +kernel
theorem tyJx145de_ok : ∀ k, k < 0 → parseFieldDescriptor (TJx145de k).2.2.1 = some (tyJx145de k) := by decide +kernel
def RJ5 : String := "java/lang/AbstractStringBuilder"
def TJ5 : u_T := fun k => match k with
  | _ => ("", "", "", false)
def tyJ5 : Nat → FieldType := fun k => match k with
  | _ => .int
abbrev wsJ50 : List Cond := u_ws RJ5 TJ5 0
theorem nmJ5 : ∀ a, a < 0 → ∀ b, b < 0 → a ≠ b → (TJ5 a).2.1 ≠ (TJ5 b).2.1 := by decide +kernel
theorem tyJ5_ok : ∀ k, k < 0 → parseFieldDescriptor (TJ5 k).2.2.1 = some (tyJ5 k) := by decide +kernel
abbrev cJ5_init_d00df : ByteArray := prog_15_method_2_code
def yJ5_init_d00df : MethodName := ⟨RJ5, "<init>", "(I)V"⟩
abbrev cJ5_length_8abf5 : ByteArray := prog_15_method_6_code
def yJ5_length_8abf5 : MethodName := ⟨RJ5, "length", "()I"⟩
abbrev cJ5_ensureCapacityInternal_d00df : ByteArray := prog_15_method_9_code
def yJ5_ensureCapacityInternal_d00df : MethodName := ⟨RJ5, "ensureCapacityInternal", "(I)V"⟩
abbrev cJ5_newCapacity_0f7a4 : ByteArray := prog_15_method_10_code
def yJ5_newCapacity_0f7a4 : MethodName := ⟨RJ5, "newCapacity", "(I)I"⟩
abbrev cJ5_inflate_da8c8 : ByteArray := prog_15_method_11_code
def yJ5_inflate_da8c8 : MethodName := ⟨RJ5, "inflate", "()V"⟩
abbrev cJ5_charAt_5068e : ByteArray := prog_15_method_14_code
def yJ5_charAt_5068e : MethodName := ⟨RJ5, "charAt", "(I)C"⟩
abbrev cJ5_append_cf1ce : ByteArray := prog_15_method_22_code
def yJ5_append_cf1ce : MethodName := ⟨RJ5, "append", "(Ljava/lang/String;)Ljava/lang/AbstractStringBuilder;"⟩
abbrev cJ5_appendNull_278bc : ByteArray := prog_15_method_26_code
def yJ5_appendNull_278bc : MethodName := ⟨RJ5, "appendNull", "()Ljava/lang/AbstractStringBuilder;"⟩
abbrev cJ5_append_3fe6f : ByteArray := prog_15_method_31_code
def yJ5_append_3fe6f : MethodName := ⟨RJ5, "append", "(C)Ljava/lang/AbstractStringBuilder;"⟩
abbrev cJ5_append_c97b9 : ByteArray := prog_15_method_32_code
def yJ5_append_c97b9 : MethodName := ⟨RJ5, "append", "(I)Ljava/lang/AbstractStringBuilder;"⟩
abbrev cJ5_isLatin1_aae02 : ByteArray := prog_15_method_68_code
def yJ5_isLatin1_aae02 : MethodName := ⟨RJ5, "isLatin1", "()Z"⟩
abbrev cJ5_inflateIfNeededFor_a7421 : ByteArray := prog_15_method_71_code
def yJ5_inflateIfNeededFor_a7421 : MethodName := ⟨RJ5, "inflateIfNeededFor", "(Ljava/lang/String;)V"⟩
abbrev cJ5_putStringAt_47b60 : ByteArray := prog_15_method_73_code
def yJ5_putStringAt_47b60 : MethodName := ⟨RJ5, "putStringAt", "(ILjava/lang/String;)V"⟩
def RJx2cfe8 : String := "java/lang/Appendable"
def TJx2cfe8 : u_T := fun k => match k with
  | _ => ("", "", "", false)
def tyJx2cfe8 : Nat → FieldType := fun k => match k with
  | _ => .int
abbrev wsJx2cfe80 : List Cond := u_ws RJx2cfe8 TJx2cfe8 0
theorem nmJx2cfe8 : ∀ a, a < 0 → ∀ b, b < 0 → a ≠ b → (TJx2cfe8 a).2.1 ≠ (TJx2cfe8 b).2.1 := by decide +kernel
theorem tyJx2cfe8_ok : ∀ k, k < 0 → parseFieldDescriptor (TJx2cfe8 k).2.2.1 = some (tyJx2cfe8 k) := by decide +kernel
def RJx9f9b0 : String := "java/lang/CharSequence"
def TJx9f9b0 : u_T := fun k => match k with
  | _ => ("", "", "", false)
def tyJx9f9b0 : Nat → FieldType := fun k => match k with
  | _ => .int
abbrev wsJx9f9b00 : List Cond := u_ws RJx9f9b0 TJx9f9b0 0
theorem nmJx9f9b0 : ∀ a, a < 0 → ∀ b, b < 0 → a ≠ b → (TJx9f9b0 a).2.1 ≠ (TJx9f9b0 b).2.1 := by decide +kernel
theorem tyJx9f9b0_ok : ∀ k, k < 0 → parseFieldDescriptor (TJx9f9b0 k).2.2.1 = some (tyJx9f9b0 k) := by decide +kernel
def RJ11 : String := "java/lang/Character"
def TJ11 : u_T := fun k => match k with
  | _ => ("", "", "", false)
def tyJ11 : Nat → FieldType := fun k => match k with
  | _ => .int
abbrev wsJ110 : List Cond := u_ws RJ11 TJ11 0
theorem nmJ11 : ∀ a, a < 0 → ∀ b, b < 0 → a ≠ b → (TJ11 a).2.1 ≠ (TJ11 b).2.1 := by decide +kernel
theorem tyJ11_ok : ∀ k, k < 0 → parseFieldDescriptor (TJ11 k).2.2.1 = some (tyJ11 k) := by decide +kernel
abbrev cJ11_isValidCodePoint_9a6ad : ByteArray := prog_16_method_11_code
def yJ11_isValidCodePoint_9a6ad : MethodName := ⟨RJ11, "isValidCodePoint", "(I)Z"⟩
abbrev cJ11_highSurrogate_5068e : ByteArray := prog_16_method_28_code
def yJ11_highSurrogate_5068e : MethodName := ⟨RJ11, "highSurrogate", "(I)C"⟩
abbrev cJ11_lowSurrogate_5068e : ByteArray := prog_16_method_29_code
def yJ11_lowSurrogate_5068e : MethodName := ⟨RJ11, "lowSurrogate", "(I)C"⟩
def RJx8e188 : String := "java/lang/Cloneable"
def TJx8e188 : u_T := fun k => match k with
  | _ => ("", "", "", false)
def tyJx8e188 : Nat → FieldType := fun k => match k with
  | _ => .int
abbrev wsJx8e1880 : List Cond := u_ws RJx8e188 TJx8e188 0
theorem nmJx8e188 : ∀ a, a < 0 → ∀ b, b < 0 → a ≠ b → (TJx8e188 a).2.1 ≠ (TJx8e188 b).2.1 := by decide +kernel
theorem tyJx8e188_ok : ∀ k, k < 0 → parseFieldDescriptor (TJx8e188 k).2.2.1 = some (tyJx8e188 k) := by decide +kernel
def RJxb160c : String := "java/lang/Comparable"
def TJxb160c : u_T := fun k => match k with
  | _ => ("", "", "", false)
def tyJxb160c : Nat → FieldType := fun k => match k with
  | _ => .int
abbrev wsJxb160c0 : List Cond := u_ws RJxb160c TJxb160c 0
theorem nmJxb160c : ∀ a, a < 0 → ∀ b, b < 0 → a ≠ b → (TJxb160c a).2.1 ≠ (TJxb160c b).2.1 := by decide +kernel
theorem tyJxb160c_ok : ∀ k, k < 0 → parseFieldDescriptor (TJxb160c k).2.2.1 = some (tyJxb160c k) := by decide +kernel
def RJ6 : String := "java/lang/Integer"
def TJ6 : u_T := fun k => match k with
  | _ => ("", "", "", false)
def tyJ6 : Nat → FieldType := fun k => match k with
  | _ => .int
abbrev wsJ60 : List Cond := u_ws RJ6 TJ6 0
theorem nmJ6 : ∀ a, a < 0 → ∀ b, b < 0 → a ≠ b → (TJ6 a).2.1 ≠ (TJ6 b).2.1 := by decide +kernel
theorem tyJ6_ok : ∀ k, k < 0 → parseFieldDescriptor (TJ6 k).2.2.1 = some (tyJ6 k) := by decide +kernel
abbrev cJ6_getChars_ba4f3 : ByteArray := prog_18_method_12_code
def yJ6_getChars_ba4f3 : MethodName := ⟨RJ6, "getChars", "(II[B)I"⟩
abbrev cJ6_stringSize_0f7a4 : ByteArray := prog_18_method_13_code
def yJ6_stringSize_0f7a4 : MethodName := ⟨RJ6, "stringSize", "(I)I"⟩
def RJ13 : String := "java/lang/Long"
def TJ13 : u_T := fun k => match k with
  | _ => ("", "", "", false)
def tyJ13 : Nat → FieldType := fun k => match k with
  | _ => .int
abbrev wsJ130 : List Cond := u_ws RJ13 TJ13 0
theorem nmJ13 : ∀ a, a < 0 → ∀ b, b < 0 → a ≠ b → (TJ13 a).2.1 ≠ (TJ13 b).2.1 := by decide +kernel
theorem tyJ13_ok : ∀ k, k < 0 → parseFieldDescriptor (TJ13 k).2.2.1 = some (tyJ13 k) := by decide +kernel
abbrev cJ13_bitCount_95d88 : ByteArray := prog_19_method_50_code
def yJ13_bitCount_95d88 : MethodName := ⟨RJ13, "bitCount", "(J)I"⟩
def RJ9 : String := "java/lang/Math"
def TJ9 : u_T := fun k => match k with
  | _ => ("", "", "", false)
def tyJ9 : Nat → FieldType := fun k => match k with
  | _ => .int
abbrev wsJ90 : List Cond := u_ws RJ9 TJ9 0
theorem nmJ9 : ∀ a, a < 0 → ∀ b, b < 0 → a ≠ b → (TJ9 a).2.1 ≠ (TJ9 b).2.1 := by decide +kernel
theorem tyJ9_ok : ∀ k, k < 0 → parseFieldDescriptor (TJ9 k).2.2.1 = some (tyJ9 k) := by decide +kernel
abbrev cJ9_floorDiv_f86c9 : ByteArray := prog_20_method_49_code
def yJ9_floorDiv_f86c9 : MethodName := ⟨RJ9, "floorDiv", "(JJ)J"⟩
abbrev cJ9_abs_067f4 : ByteArray := prog_20_method_61_code
def yJ9_abs_067f4 : MethodName := ⟨RJ9, "abs", "(J)J"⟩
abbrev cJ9_max_7cf53 : ByteArray := prog_20_method_65_code
def yJ9_max_7cf53 : MethodName := ⟨RJ9, "max", "(II)I"⟩
abbrev cJ9_max_f86c9 : ByteArray := prog_20_method_66_code
def yJ9_max_f86c9 : MethodName := ⟨RJ9, "max", "(JJ)J"⟩
abbrev cJ9_min_7cf53 : ByteArray := prog_20_method_69_code
def yJ9_min_7cf53 : MethodName := ⟨RJ9, "min", "(II)I"⟩
abbrev cJ9_min_f86c9 : ByteArray := prog_20_method_70_code
def yJ9_min_f86c9 : MethodName := ⟨RJ9, "min", "(JJ)J"⟩
def RJxd2413 : String := "java/lang/Number"
def TJxd2413 : u_T := fun k => match k with
  | _ => ("", "", "", false)
def tyJxd2413 : Nat → FieldType := fun k => match k with
  | _ => .int
abbrev wsJxd24130 : List Cond := u_ws RJxd2413 TJxd2413 0
theorem nmJxd2413 : ∀ a, a < 0 → ∀ b, b < 0 → a ≠ b → (TJxd2413 a).2.1 ≠ (TJxd2413 b).2.1 := by decide +kernel
theorem tyJxd2413_ok : ∀ k, k < 0 → parseFieldDescriptor (TJxd2413 k).2.2.1 = some (tyJxd2413 k) := by decide +kernel
def RJ0 : String := "java/lang/String"
def TJ0 : u_T := fun k => match k with
  | _ => ("", "", "", false)
def tyJ0 : Nat → FieldType := fun k => match k with
  | _ => .int
abbrev wsJ00 : List Cond := u_ws RJ0 TJ0 0
theorem nmJ0 : ∀ a, a < 0 → ∀ b, b < 0 → a ≠ b → (TJ0 a).2.1 ≠ (TJ0 b).2.1 := by decide +kernel
theorem tyJ0_ok : ∀ k, k < 0 → parseFieldDescriptor (TJ0 k).2.2.1 = some (tyJ0 k) := by decide +kernel
abbrev cJ0_length_8abf5 : ByteArray := prog_22_method_54_code
def yJ0_length_8abf5 : MethodName := ⟨RJ0, "length", "()I"⟩
abbrev cJ0_indexOf_0f7a4 : ByteArray := prog_22_method_79_code
def yJ0_indexOf_0f7a4 : MethodName := ⟨RJ0, "indexOf", "(I)I"⟩
abbrev cJ0_indexOf_7cf53 : ByteArray := prog_22_method_80_code
def yJ0_indexOf_7cf53 : MethodName := ⟨RJ0, "indexOf", "(II)I"⟩
abbrev cJ0_getBytes_840e7 : ByteArray := prog_22_method_147_code
def yJ0_getBytes_840e7 : MethodName := ⟨RJ0, "getBytes", "([BIB)V"⟩
abbrev cJ0_coder_7d493 : ByteArray := prog_22_method_152_code
def yJ0_coder_7d493 : MethodName := ⟨RJ0, "coder", "()B"⟩
abbrev cJ0_isLatin1_aae02 : ByteArray := prog_22_method_154_code
def yJ0_isLatin1_aae02 : MethodName := ⟨RJ0, "isLatin1", "()Z"⟩
abbrev cJ0_checkIndex_df160 : ByteArray := prog_22_method_155_code
def yJ0_checkIndex_df160 : MethodName := ⟨RJ0, "checkIndex", "(II)V"⟩
abbrev cJ0_checkBoundsOffCount_cabcc : ByteArray := prog_22_method_157_code
def yJ0_checkBoundsOffCount_cabcc : MethodName := ⟨RJ0, "checkBoundsOffCount", "(III)I"⟩
abbrev cJ0_checkBoundsBeginEnd_23922 : ByteArray := prog_22_method_158_code
def yJ0_checkBoundsBeginEnd_23922 : MethodName := ⟨RJ0, "checkBoundsBeginEnd", "(III)V"⟩
def RJ4 : String := "java/lang/StringBuilder"
def TJ4 : u_T := fun k => match k with
  | 0 => ("java/lang/AbstractStringBuilder", "value", "[B", false)
  | 1 => ("java/lang/AbstractStringBuilder", "coder", "B", false)
  | 2 => ("java/lang/AbstractStringBuilder", "maybeLatin1", "Z", false)
  | _ => ("java/lang/AbstractStringBuilder", "count", "I", false)
def tyJ4 : Nat → FieldType := fun k => match k with
  | 0 => .array .byte
  | 1 => .byte
  | 2 => .boolean
  | _ => .int
abbrev wsJ40 : List Cond := u_ws RJ4 TJ4 4
theorem nmJ4 : ∀ a, a < 4 → ∀ b, b < 4 → a ≠ b → (TJ4 a).2.1 ≠ (TJ4 b).2.1 := by decide +kernel
theorem tyJ4_ok : ∀ k, k < 4 → parseFieldDescriptor (TJ4 k).2.2.1 = some (tyJ4 k) := by decide +kernel
abbrev cJ4_init_da8c8 : ByteArray := prog_23_method_1_code
def yJ4_init_da8c8 : MethodName := ⟨RJ4, "<init>", "()V"⟩
abbrev cJ4_append_15ec4 : ByteArray := prog_23_method_7_code
def yJ4_append_15ec4 : MethodName := ⟨RJ4, "append", "(Ljava/lang/String;)Ljava/lang/StringBuilder;"⟩
abbrev cJ4_append_cf468 : ByteArray := prog_23_method_14_code
def yJ4_append_cf468 : MethodName := ⟨RJ4, "append", "(C)Ljava/lang/StringBuilder;"⟩
abbrev cJ4_append_bf812 : ByteArray := prog_23_method_15_code
def yJ4_append_bf812 : MethodName := ⟨RJ4, "append", "(I)Ljava/lang/StringBuilder;"⟩
abbrev cJ4_charAt_5068e : ByteArray := prog_23_method_88_code
def yJ4_charAt_5068e : MethodName := ⟨RJ4, "charAt", "(I)C"⟩
abbrev cJ4_length_8abf5 : ByteArray := prog_23_method_93_code
def yJ4_length_8abf5 : MethodName := ⟨RJ4, "length", "()I"⟩
def RJ1 : String := "java/lang/StringLatin1"
def TJ1 : u_T := fun k => match k with
  | _ => ("", "", "", false)
def tyJ1 : Nat → FieldType := fun k => match k with
  | _ => .int
abbrev wsJ10 : List Cond := u_ws RJ1 TJ1 0
theorem nmJ1 : ∀ a, a < 0 → ∀ b, b < 0 → a ≠ b → (TJ1 a).2.1 ≠ (TJ1 b).2.1 := by decide +kernel
theorem tyJ1_ok : ∀ k, k < 0 → parseFieldDescriptor (TJ1 k).2.2.1 = some (tyJ1 k) := by decide +kernel
abbrev cJ1_canEncode_fc78d : ByteArray := prog_24_method_3_code
def yJ1_canEncode_fc78d : MethodName := ⟨RJ1, "canEncode", "(C)Z"⟩
abbrev cJ1_canEncode_9a6ad : ByteArray := prog_24_method_4_code
def yJ1_canEncode_9a6ad : MethodName := ⟨RJ1, "canEncode", "(I)Z"⟩
abbrev cJ1_indexOf_4cfef : ByteArray := prog_24_method_22_code
def yJ1_indexOf_4cfef : MethodName := ⟨RJ1, "indexOf", "([BIII)I"⟩
abbrev cJ1_indexOfChar_4cfef : ByteArray := prog_24_method_23_code
def yJ1_indexOfChar_4cfef : MethodName := ⟨RJ1, "indexOfChar", "([BIII)I"⟩
abbrev cJ1_inflate_0e8fd : ByteArray := prog_24_method_50_code
def yJ1_inflate_0e8fd : MethodName := ⟨RJ1, "inflate", "([BI[BII)V"⟩
def RJ2 : String := "java/lang/StringUTF16"
def TJ2 : u_T := fun k => match k with
  | _ => ("", "", "", false)
def tyJ2 : Nat → FieldType := fun k => match k with
  | _ => .int
abbrev wsJ20 : List Cond := u_ws RJ2 TJ2 0
theorem nmJ2 : ∀ a, a < 0 → ∀ b, b < 0 → a ≠ b → (TJ2 a).2.1 ≠ (TJ2 b).2.1 := by decide +kernel
theorem tyJ2_ok : ∀ k, k < 0 → parseFieldDescriptor (TJ2 k).2.2.1 = some (tyJ2 k) := by decide +kernel
abbrev cJ2_newBytesFor_77867 : ByteArray := prog_25_method_2_code
def yJ2_newBytesFor_77867 : MethodName := ⟨RJ2, "newBytesFor", "(I)[B"⟩
abbrev cJ2_newBytesLength_0f7a4 : ByteArray := prog_25_method_3_code
def yJ2_newBytesLength_0f7a4 : MethodName := ⟨RJ2, "newBytesLength", "(I)I"⟩
abbrev cJ2_putChar_b72d1 : ByteArray := prog_25_method_4_code
def yJ2_putChar_b72d1 : MethodName := ⟨RJ2, "putChar", "([BII)V"⟩
abbrev cJ2_getChar_3b067 : ByteArray := prog_25_method_5_code
def yJ2_getChar_3b067 : MethodName := ⟨RJ2, "getChar", "([BI)C"⟩
abbrev cJ2_length_9d52b : ByteArray := prog_25_method_6_code
def yJ2_length_9d52b : MethodName := ⟨RJ2, "length", "([B)I"⟩
abbrev cJ2_indexOf_4cfef : ByteArray := prog_25_method_40_code
def yJ2_indexOf_4cfef : MethodName := ⟨RJ2, "indexOf", "([BIII)I"⟩
abbrev cJ2_indexOfChar_4cfef : ByteArray := prog_25_method_47_code
def yJ2_indexOfChar_4cfef : MethodName := ⟨RJ2, "indexOfChar", "([BIII)I"⟩
abbrev cJ2_indexOfCharUnsafe_4cfef : ByteArray := prog_25_method_48_code
def yJ2_indexOfCharUnsafe_4cfef : MethodName := ⟨RJ2, "indexOfCharUnsafe", "([BIII)I"⟩
abbrev cJ2_indexOfSupplementary_4cfef : ByteArray := prog_25_method_49_code
def yJ2_indexOfSupplementary_4cfef : MethodName := ⟨RJ2, "indexOfSupplementary", "([BIII)I"⟩
abbrev cJ2_putCharSB_b72d1 : ByteArray := prog_25_method_71_code
def yJ2_putCharSB_b72d1 : MethodName := ⟨RJ2, "putCharSB", "([BII)V"⟩
abbrev cJ2_getChars_46870 : ByteArray := prog_25_method_77_code
def yJ2_getChars_46870 : MethodName := ⟨RJ2, "getChars", "(III[B)I"⟩
abbrev cJ2_putCharsAt_cd4e5 : ByteArray := prog_25_method_81_code
def yJ2_putCharsAt_cd4e5 : MethodName := ⟨RJ2, "putCharsAt", "([BICCCC)I"⟩
abbrev cJ2_inflate_0e8fd : ByteArray := prog_25_method_86_code
def yJ2_inflate_0e8fd : MethodName := ⟨RJ2, "inflate", "([BI[BII)V"⟩
abbrev cJ2_getChars_ba4f3 : ByteArray := prog_25_method_89_code
def yJ2_getChars_ba4f3 : MethodName := ⟨RJ2, "getChars", "(II[B)I"⟩
abbrev cJ2_checkIndex_2214a : ByteArray := prog_25_method_91_code
def yJ2_checkIndex_2214a : MethodName := ⟨RJ2, "checkIndex", "(I[B)V"⟩
abbrev cJ2_checkBoundsBeginEnd_d044e : ByteArray := prog_25_method_93_code
def yJ2_checkBoundsBeginEnd_d044e : MethodName := ⟨RJ2, "checkBoundsBeginEnd", "(II[B)V"⟩
abbrev cJ2_checkBoundsOffCount_d044e : ByteArray := prog_25_method_94_code
def yJ2_checkBoundsOffCount_d044e : MethodName := ⟨RJ2, "checkBoundsOffCount", "(II[B)V"⟩
def RJ10 : String := "java/lang/System"
def TJ10 : u_T := fun k => match k with
  | _ => ("", "", "", false)
def tyJ10 : Nat → FieldType := fun k => match k with
  | _ => .int
abbrev wsJ100 : List Cond := u_ws RJ10 TJ10 0
theorem nmJ10 : ∀ a, a < 0 → ∀ b, b < 0 → a ≠ b → (TJ10 a).2.1 ≠ (TJ10 b).2.1 := by decide +kernel
theorem tyJ10_ok : ∀ k, k < 0 → parseFieldDescriptor (TJ10 k).2.2.1 = some (tyJ10 k) := by decide +kernel
def RJxfd54e : String := "java/lang/constant/Constable"
def TJxfd54e : u_T := fun k => match k with
  | _ => ("", "", "", false)
def tyJxfd54e : Nat → FieldType := fun k => match k with
  | _ => .int
abbrev wsJxfd54e0 : List Cond := u_ws RJxfd54e TJxfd54e 0
theorem nmJxfd54e : ∀ a, a < 0 → ∀ b, b < 0 → a ≠ b → (TJxfd54e a).2.1 ≠ (TJxfd54e b).2.1 := by decide +kernel
theorem tyJxfd54e_ok : ∀ k, k < 0 → parseFieldDescriptor (TJxfd54e k).2.2.1 = some (tyJxfd54e k) := by decide +kernel
def RJx3cf43 : String := "java/lang/constant/ConstantDesc"
def TJx3cf43 : u_T := fun k => match k with
  | _ => ("", "", "", false)
def tyJx3cf43 : Nat → FieldType := fun k => match k with
  | _ => .int
abbrev wsJx3cf430 : List Cond := u_ws RJx3cf43 TJx3cf43 0
theorem nmJx3cf43 : ∀ a, a < 0 → ∀ b, b < 0 → a ≠ b → (TJx3cf43 a).2.1 ≠ (TJx3cf43 b).2.1 := by decide +kernel
theorem tyJx3cf43_ok : ∀ k, k < 0 → parseFieldDescriptor (TJx3cf43 k).2.2.1 = some (tyJx3cf43 k) := by decide +kernel
def RJ7 : String := "java/util/Arrays"
def TJ7 : u_T := fun k => match k with
  | _ => ("", "", "", false)
def tyJ7 : Nat → FieldType := fun k => match k with
  | _ => .int
abbrev wsJ70 : List Cond := u_ws RJ7 TJ7 0
theorem nmJ7 : ∀ a, a < 0 → ∀ b, b < 0 → a ≠ b → (TJ7 a).2.1 ≠ (TJ7 b).2.1 := by decide +kernel
theorem tyJ7_ok : ∀ k, k < 0 → parseFieldDescriptor (TJ7 k).2.2.1 = some (tyJ7 k) := by decide +kernel
abbrev cJ7_fill_53178 : ByteArray := prog_27_method_103_code
def yJ7_fill_53178 : MethodName := ⟨RJ7, "fill", "([II)V"⟩
abbrev cJ7_copyOf_9075b : ByteArray := prog_27_method_121_code
def yJ7_copyOf_9075b : MethodName := ⟨RJ7, "copyOf", "([BI)[B"⟩
def RJ8 : String := "jdk/internal/util/ArraysSupport"
def TJ8 : u_T := fun k => match k with
  | _ => ("", "", "", false)
def tyJ8 : Nat → FieldType := fun k => match k with
  | _ => .int
abbrev wsJ80 : List Cond := u_ws RJ8 TJ8 0
theorem nmJ8 : ∀ a, a < 0 → ∀ b, b < 0 → a ≠ b → (TJ8 a).2.1 ≠ (TJ8 b).2.1 := by decide +kernel
theorem tyJ8_ok : ∀ k, k < 0 → parseFieldDescriptor (TJ8 k).2.2.1 = some (tyJ8 k) := by decide +kernel
abbrev cJ8_newLength_cabcc : ByteArray := prog_28_method_27_code
def yJ8_newLength_cabcc : MethodName := ⟨RJ8, "newLength", "(III)I"⟩
abbrev cJ8_hugeLength_7cf53 : ByteArray := prog_28_method_28_code
def yJ8_hugeLength_7cf53 : MethodName := ⟨RJ8, "hugeLength", "(II)I"⟩
def RJ3 : String := "jdk/internal/util/Preconditions"
def TJ3 : u_T := fun k => match k with
  | _ => ("", "", "", false)
def tyJ3 : Nat → FieldType := fun k => match k with
  | _ => .int
abbrev wsJ30 : List Cond := u_ws RJ3 TJ3 0
theorem nmJ3 : ∀ a, a < 0 → ∀ b, b < 0 → a ≠ b → (TJ3 a).2.1 ≠ (TJ3 b).2.1 := by decide +kernel
theorem tyJ3_ok : ∀ k, k < 0 → parseFieldDescriptor (TJ3 k).2.2.1 = some (tyJ3 k) := by decide +kernel
abbrev cJ3_checkIndex_8e157 : ByteArray := prog_29_method_11_code
def yJ3_checkIndex_8e157 : MethodName := ⟨RJ3, "checkIndex", "(IILjava/util/function/BiFunction;)I"⟩
abbrev cJ3_checkFromToIndex_8c36e : ByteArray := prog_29_method_12_code
def yJ3_checkFromToIndex_8c36e : MethodName := ⟨RJ3, "checkFromToIndex", "(IIILjava/util/function/BiFunction;)I"⟩
abbrev cJ3_checkFromIndexSize_8c36e : ByteArray := prog_29_method_13_code
def yJ3_checkFromIndexSize_8c36e : MethodName := ⟨RJ3, "checkFromIndexSize", "(IIILjava/util/function/BiFunction;)I"⟩
def RL : String := "KnockFinderLaw"
abbrev cL_law : ByteArray := code
def yL_law : MethodName := ⟨RL, "law", "([I)Z"⟩
abbrev vwCl : List vw_C := [(RJ4, TJ4, 4), (RX0, TX0, 5), (RX1, TX1, 14), (RX2, TX2, 3), (RX3, TX3, 6), (RX4, TX4, 3), (RX5, TX5, 2), (RX6, TX6, 3), (RX7, TX7, 9), (RX8, TX8, 3), (RX9, TX9, 7), (RX10, TX10, 8), (RX11, TX11, 18), (RX12, TX12, 54)]
