section
-- ===== PART A: goes FIRST, ahead of the names: the tables' words, and 'selects' of the private methods out of them =====
/-- a private method of a class that the tables say can be made, by its rows of tables_1 -/
def lw_okq (q : MethodName × Nat) : Prop := (q.1.cls ≠ "java/lang/invoke/MethodHandle" ∧ q.1.cls ≠ "java/lang/invoke/VarHandle") ∧ Cond.instantiable q.1.cls q.2 ∈ tables_1 ∧ Cond.privateMethod q.1 ∈ tables_1 ∧ Cond.instanceMethod q.1 ∈ tables_1
theorem lw_p0 : lw_okq (⟨"OverHill$Reader", "readLine", "(LOverHill$Dance;)V"⟩, 4) := ⟨⟨by decide +kernel, by decide +kernel⟩, List.mem_of_getElem? (i := 31) (by decide +kernel), List.mem_of_getElem? (i := 459) (by decide +kernel), List.mem_of_getElem? (i := 460) (by decide +kernel)⟩
theorem lw_p1 : lw_okq (⟨"OverHill$Reader", "fail", "(II)V"⟩, 4) := ⟨⟨by decide +kernel, by decide +kernel⟩, List.mem_of_getElem? (i := 31) (by decide +kernel), List.mem_of_getElem? (i := 516) (by decide +kernel), List.mem_of_getElem? (i := 517) (by decide +kernel)⟩
theorem lw_p2 : lw_okq (⟨"OverHill$Reader", "readDance", "(LOverHill$Dance;)V"⟩, 4) := ⟨⟨by decide +kernel, by decide +kernel⟩, List.mem_of_getElem? (i := 31) (by decide +kernel), List.mem_of_getElem? (i := 520) (by decide +kernel), List.mem_of_getElem? (i := 521) (by decide +kernel)⟩
theorem lw_p3 : lw_okq (⟨"OverHill$Reader", "takeWord", "(Ljava/lang/String;)V"⟩, 4) := ⟨⟨by decide +kernel, by decide +kernel⟩, List.mem_of_getElem? (i := 31) (by decide +kernel), List.mem_of_getElem? (i := 526) (by decide +kernel), List.mem_of_getElem? (i := 527) (by decide +kernel)⟩
theorem lw_p4 : lw_okq (⟨"OverHill$Reader", "takeNumber", "(II)I"⟩, 4) := ⟨⟨by decide +kernel, by decide +kernel⟩, List.mem_of_getElem? (i := 31) (by decide +kernel), List.mem_of_getElem? (i := 530) (by decide +kernel), List.mem_of_getElem? (i := 531) (by decide +kernel)⟩
theorem lw_p5 : lw_okq (⟨"OverHill$Reader", "readRound", "(LOverHill$Dance;)V"⟩, 4) := ⟨⟨by decide +kernel, by decide +kernel⟩, List.mem_of_getElem? (i := 31) (by decide +kernel), List.mem_of_getElem? (i := 537) (by decide +kernel), List.mem_of_getElem? (i := 538) (by decide +kernel)⟩
theorem lw_p6 : lw_okq (⟨"OverHill$Reader", "seesNumber", "()Z"⟩, 4) := ⟨⟨by decide +kernel, by decide +kernel⟩, List.mem_of_getElem? (i := 31) (by decide +kernel), List.mem_of_getElem? (i := 542) (by decide +kernel), List.mem_of_getElem? (i := 543) (by decide +kernel)⟩
theorem lw_p7 : lw_okq (⟨"OverHill$Reader", "readAnswers", "(LOverHill$Dance;)V"⟩, 4) := ⟨⟨by decide +kernel, by decide +kernel⟩, List.mem_of_getElem? (i := 31) (by decide +kernel), List.mem_of_getElem? (i := 548) (by decide +kernel), List.mem_of_getElem? (i := 549) (by decide +kernel)⟩
theorem lw_p8 : lw_okq (⟨"OverHill$Reader", "readStumble", "(LOverHill$Dance;)V"⟩, 4) := ⟨⟨by decide +kernel, by decide +kernel⟩, List.mem_of_getElem? (i := 31) (by decide +kernel), List.mem_of_getElem? (i := 553) (by decide +kernel), List.mem_of_getElem? (i := 554) (by decide +kernel)⟩
theorem lw_p9 : lw_okq (⟨"OverHill$Reader", "beginOneOf", "(II)V"⟩, 4) := ⟨⟨by decide +kernel, by decide +kernel⟩, List.mem_of_getElem? (i := 31) (by decide +kernel), List.mem_of_getElem? (i := 557) (by decide +kernel), List.mem_of_getElem? (i := 558) (by decide +kernel)⟩
theorem lw_p10 : lw_okq (⟨"OverHill$Reader", "readMud", "(LOverHill$Dance;)V"⟩, 4) := ⟨⟨by decide +kernel, by decide +kernel⟩, List.mem_of_getElem? (i := 31) (by decide +kernel), List.mem_of_getElem? (i := 573) (by decide +kernel), List.mem_of_getElem? (i := 574) (by decide +kernel)⟩
theorem lw_p11 : lw_okq (⟨"OverHill$Reader", "readWood", "(LOverHill$Dance;)V"⟩, 4) := ⟨⟨by decide +kernel, by decide +kernel⟩, List.mem_of_getElem? (i := 31) (by decide +kernel), List.mem_of_getElem? (i := 578) (by decide +kernel), List.mem_of_getElem? (i := 579) (by decide +kernel)⟩
theorem lw_p12 : lw_okq (⟨"OverHill$Reader", "readTune", "(LOverHill$Dance;)V"⟩, 4) := ⟨⟨by decide +kernel, by decide +kernel⟩, List.mem_of_getElem? (i := 31) (by decide +kernel), List.mem_of_getElem? (i := 588) (by decide +kernel), List.mem_of_getElem? (i := 589) (by decide +kernel)⟩
theorem lw_p13 : lw_okq (⟨"OverHill$Reader", "takeSemicolon", "()V"⟩, 4) := ⟨⟨by decide +kernel, by decide +kernel⟩, List.mem_of_getElem? (i := 31) (by decide +kernel), List.mem_of_getElem? (i := 596) (by decide +kernel), List.mem_of_getElem? (i := 597) (by decide +kernel)⟩
theorem lw_p14 : lw_okq (⟨"OverHill", "has", "(II)Z"⟩, 16) := ⟨⟨by decide +kernel, by decide +kernel⟩, List.mem_of_getElem? (i := 23) (by decide +kernel), List.mem_of_getElem? (i := 653) (by decide +kernel), List.mem_of_getElem? (i := 654) (by decide +kernel)⟩
theorem lw_p15 : lw_okq (⟨"OverHill", "plainFloor", "()LOverHill$Floor;"⟩, 16) := ⟨⟨by decide +kernel, by decide +kernel⟩, List.mem_of_getElem? (i := 23) (by decide +kernel), List.mem_of_getElem? (i := 657) (by decide +kernel), List.mem_of_getElem? (i := 658) (by decide +kernel)⟩
def lw_privs_1 : List (MethodName × Nat) := [(⟨"OverHill$Reader", "readLine", "(LOverHill$Dance;)V"⟩, 4), (⟨"OverHill$Reader", "fail", "(II)V"⟩, 4), (⟨"OverHill$Reader", "readDance", "(LOverHill$Dance;)V"⟩, 4), (⟨"OverHill$Reader", "takeWord", "(Ljava/lang/String;)V"⟩, 4), (⟨"OverHill$Reader", "takeNumber", "(II)I"⟩, 4), (⟨"OverHill$Reader", "readRound", "(LOverHill$Dance;)V"⟩, 4), (⟨"OverHill$Reader", "seesNumber", "()Z"⟩, 4), (⟨"OverHill$Reader", "readAnswers", "(LOverHill$Dance;)V"⟩, 4), (⟨"OverHill$Reader", "readStumble", "(LOverHill$Dance;)V"⟩, 4), (⟨"OverHill$Reader", "beginOneOf", "(II)V"⟩, 4), (⟨"OverHill$Reader", "readMud", "(LOverHill$Dance;)V"⟩, 4), (⟨"OverHill$Reader", "readWood", "(LOverHill$Dance;)V"⟩, 4), (⟨"OverHill$Reader", "readTune", "(LOverHill$Dance;)V"⟩, 4), (⟨"OverHill$Reader", "takeSemicolon", "()V"⟩, 4), (⟨"OverHill", "has", "(II)Z"⟩, 16), (⟨"OverHill", "plainFloor", "()LOverHill$Floor;"⟩, 16)]
theorem lw_r1 : ∀ q ∈ lw_privs_1, lw_okq q := List.forall_mem_cons.mpr ⟨lw_p0, List.forall_mem_cons.mpr ⟨lw_p1, List.forall_mem_cons.mpr ⟨lw_p2, List.forall_mem_cons.mpr ⟨lw_p3, List.forall_mem_cons.mpr ⟨lw_p4, List.forall_mem_cons.mpr ⟨lw_p5, List.forall_mem_cons.mpr ⟨lw_p6, List.forall_mem_cons.mpr ⟨lw_p7, List.forall_mem_cons.mpr ⟨lw_p8, List.forall_mem_cons.mpr ⟨lw_p9, List.forall_mem_cons.mpr ⟨lw_p10, List.forall_mem_cons.mpr ⟨lw_p11, List.forall_mem_cons.mpr ⟨lw_p12, List.forall_mem_cons.mpr ⟨lw_p13, List.forall_mem_cons.mpr ⟨lw_p14, List.forall_mem_cons.mpr ⟨lw_p15, fun _ h => absurd h List.not_mem_nil⟩⟩⟩⟩⟩⟩⟩⟩⟩⟩⟩⟩⟩⟩⟩⟩
theorem lw_p16 : lw_okq (⟨"OverHill$Floor", "findStumbles", "(LOverHill$Dance;II)V"⟩, 6) := ⟨⟨by decide +kernel, by decide +kernel⟩, List.mem_of_getElem? (i := 194) (by decide +kernel), List.mem_of_getElem? (i := 665) (by decide +kernel), List.mem_of_getElem? (i := 666) (by decide +kernel)⟩
theorem lw_p17 : lw_okq (⟨"OverHill$Floor", "laySide", "(LOverHill$Dance;I)V"⟩, 6) := ⟨⟨by decide +kernel, by decide +kernel⟩, List.mem_of_getElem? (i := 194) (by decide +kernel), List.mem_of_getElem? (i := 670) (by decide +kernel), List.mem_of_getElem? (i := 671) (by decide +kernel)⟩
theorem lw_p18 : lw_okq (⟨"OverHill", "hasSpan", "(II)Z"⟩, 16) := ⟨⟨by decide +kernel, by decide +kernel⟩, List.mem_of_getElem? (i := 23) (by decide +kernel), List.mem_of_getElem? (i := 732) (by decide +kernel), List.mem_of_getElem? (i := 733) (by decide +kernel)⟩
theorem lw_p19 : lw_okq (⟨"OverHill", "hasRounds", "()Z"⟩, 16) := ⟨⟨by decide +kernel, by decide +kernel⟩, List.mem_of_getElem? (i := 23) (by decide +kernel), List.mem_of_getElem? (i := 799) (by decide +kernel), List.mem_of_getElem? (i := 800) (by decide +kernel)⟩
theorem lw_p20 : lw_okq (⟨"OverHill", "listenTo", "(II)I"⟩, 16) := ⟨⟨by decide +kernel, by decide +kernel⟩, List.mem_of_getElem? (i := 23) (by decide +kernel), List.mem_of_getElem? (i := 865) (by decide +kernel), List.mem_of_getElem? (i := 866) (by decide +kernel)⟩
theorem lw_p21 : lw_okq (⟨"OverHill$Guess", "stepBack", "(II)I"⟩, 12) := ⟨⟨by decide +kernel, by decide +kernel⟩, List.mem_of_getElem? (i := 231) (by decide +kernel), List.mem_of_getElem? (i := 908) (by decide +kernel), List.mem_of_getElem? (i := 909) (by decide +kernel)⟩
theorem lw_p22 : lw_okq (⟨"OverHill$Guess", "fitsWithout", "()Z"⟩, 12) := ⟨⟨by decide +kernel, by decide +kernel⟩, List.mem_of_getElem? (i := 231) (by decide +kernel), List.mem_of_getElem? (i := 920) (by decide +kernel), List.mem_of_getElem? (i := 921) (by decide +kernel)⟩
theorem lw_p23 : lw_okq (⟨"OverHill$Guess", "stepsThatFit", "(II)I"⟩, 12) := ⟨⟨by decide +kernel, by decide +kernel⟩, List.mem_of_getElem? (i := 231) (by decide +kernel), List.mem_of_getElem? (i := 924) (by decide +kernel), List.mem_of_getElem? (i := 925) (by decide +kernel)⟩
theorem lw_p24 : lw_okq (⟨"OverHill$Guess", "mostAlike", "(II)I"⟩, 12) := ⟨⟨by decide +kernel, by decide +kernel⟩, List.mem_of_getElem? (i := 231) (by decide +kernel), List.mem_of_getElem? (i := 959) (by decide +kernel), List.mem_of_getElem? (i := 960) (by decide +kernel)⟩
theorem lw_p25 : lw_okq (⟨"OverHill$Guess", "pass", "(I)V"⟩, 12) := ⟨⟨by decide +kernel, by decide +kernel⟩, List.mem_of_getElem? (i := 231) (by decide +kernel), List.mem_of_getElem? (i := 963) (by decide +kernel), List.mem_of_getElem? (i := 964) (by decide +kernel)⟩
theorem lw_p26 : lw_okq (⟨"OverHill$Slots", "goesRound", "(II)Z"⟩, 3) := ⟨⟨by decide +kernel, by decide +kernel⟩, List.mem_of_getElem? (i := 350) (by decide +kernel), List.mem_of_getElem? (i := 1018) (by decide +kernel), List.mem_of_getElem? (i := 1019) (by decide +kernel)⟩
theorem lw_p27 : lw_okq (⟨"OverHill", "hasSet", "(I)Z"⟩, 16) := ⟨⟨by decide +kernel, by decide +kernel⟩, List.mem_of_getElem? (i := 23) (by decide +kernel), List.mem_of_getElem? (i := 1044) (by decide +kernel), List.mem_of_getElem? (i := 1045) (by decide +kernel)⟩
theorem lw_p28 : lw_okq (⟨"OverHill$Tunes", "joinOne", "(II)V"⟩, 2) := ⟨⟨by decide +kernel, by decide +kernel⟩, List.mem_of_getElem? (i := 294) (by decide +kernel), List.mem_of_getElem? (i := 1053) (by decide +kernel), List.mem_of_getElem? (i := 1054) (by decide +kernel)⟩
theorem lw_p29 : lw_okq (⟨"OverHill$Game", "findWinning", "(LOverHill$Dance;I)I"⟩, 1) := ⟨⟨by decide +kernel, by decide +kernel⟩, List.mem_of_getElem? (i := 308) (by decide +kernel), List.mem_of_getElem? (i := 1102) (by decide +kernel), List.mem_of_getElem? (i := 1103) (by decide +kernel)⟩
theorem lw_p30 : lw_okq (⟨"OverHill", "hasNight", "(II)Z"⟩, 16) := ⟨⟨by decide +kernel, by decide +kernel⟩, List.mem_of_getElem? (i := 23) (by decide +kernel), List.mem_of_getElem? (i := 1132) (by decide +kernel), List.mem_of_getElem? (i := 1133) (by decide +kernel)⟩
theorem lw_p31 : lw_okq (⟨"OverHill$Night", "danceBeat", "(LOverHill$Dance;I)V"⟩, 7) := ⟨⟨by decide +kernel, by decide +kernel⟩, List.mem_of_getElem? (i := 318) (by decide +kernel), List.mem_of_getElem? (i := 1141) (by decide +kernel), List.mem_of_getElem? (i := 1142) (by decide +kernel)⟩
def lw_privs_2 : List (MethodName × Nat) := [(⟨"OverHill$Floor", "findStumbles", "(LOverHill$Dance;II)V"⟩, 6), (⟨"OverHill$Floor", "laySide", "(LOverHill$Dance;I)V"⟩, 6), (⟨"OverHill", "hasSpan", "(II)Z"⟩, 16), (⟨"OverHill", "hasRounds", "()Z"⟩, 16), (⟨"OverHill", "listenTo", "(II)I"⟩, 16), (⟨"OverHill$Guess", "stepBack", "(II)I"⟩, 12), (⟨"OverHill$Guess", "fitsWithout", "()Z"⟩, 12), (⟨"OverHill$Guess", "stepsThatFit", "(II)I"⟩, 12), (⟨"OverHill$Guess", "mostAlike", "(II)I"⟩, 12), (⟨"OverHill$Guess", "pass", "(I)V"⟩, 12), (⟨"OverHill$Slots", "goesRound", "(II)Z"⟩, 3), (⟨"OverHill", "hasSet", "(I)Z"⟩, 16), (⟨"OverHill$Tunes", "joinOne", "(II)V"⟩, 2), (⟨"OverHill$Game", "findWinning", "(LOverHill$Dance;I)I"⟩, 1), (⟨"OverHill", "hasNight", "(II)Z"⟩, 16), (⟨"OverHill$Night", "danceBeat", "(LOverHill$Dance;I)V"⟩, 7)]
theorem lw_r2 : ∀ q ∈ lw_privs_2, lw_okq q := List.forall_mem_cons.mpr ⟨lw_p16, List.forall_mem_cons.mpr ⟨lw_p17, List.forall_mem_cons.mpr ⟨lw_p18, List.forall_mem_cons.mpr ⟨lw_p19, List.forall_mem_cons.mpr ⟨lw_p20, List.forall_mem_cons.mpr ⟨lw_p21, List.forall_mem_cons.mpr ⟨lw_p22, List.forall_mem_cons.mpr ⟨lw_p23, List.forall_mem_cons.mpr ⟨lw_p24, List.forall_mem_cons.mpr ⟨lw_p25, List.forall_mem_cons.mpr ⟨lw_p26, List.forall_mem_cons.mpr ⟨lw_p27, List.forall_mem_cons.mpr ⟨lw_p28, List.forall_mem_cons.mpr ⟨lw_p29, List.forall_mem_cons.mpr ⟨lw_p30, List.forall_mem_cons.mpr ⟨lw_p31, fun _ h => absurd h List.not_mem_nil⟩⟩⟩⟩⟩⟩⟩⟩⟩⟩⟩⟩⟩⟩⟩⟩
theorem lw_p32 : lw_okq (⟨"OverHill$Night", "draw", "()I"⟩, 7) := ⟨⟨by decide +kernel, by decide +kernel⟩, List.mem_of_getElem? (i := 318) (by decide +kernel), List.mem_of_getElem? (i := 1145) (by decide +kernel), List.mem_of_getElem? (i := 1146) (by decide +kernel)⟩
theorem lw_p33 : lw_okq (⟨"OverHill$Night", "danceStep", "(LOverHill$Dance;I)I"⟩, 7) := ⟨⟨by decide +kernel, by decide +kernel⟩, List.mem_of_getElem? (i := 318) (by decide +kernel), List.mem_of_getElem? (i := 1154) (by decide +kernel), List.mem_of_getElem? (i := 1155) (by decide +kernel)⟩
theorem lw_p34 : lw_okq (⟨"OverHill$Night", "lookForHole", "(LOverHill$Dance;II)V"⟩, 7) := ⟨⟨by decide +kernel, by decide +kernel⟩, List.mem_of_getElem? (i := 318) (by decide +kernel), List.mem_of_getElem? (i := 1160) (by decide +kernel), List.mem_of_getElem? (i := 1161) (by decide +kernel)⟩
theorem lw_p35 : lw_okq (⟨"OverHillModel", "four", "(I)V"⟩, 45) := ⟨⟨by decide +kernel, by decide +kernel⟩, List.mem_of_getElem? (i := 1254) (by decide +kernel), List.mem_of_getElem? (i := 1423) (by decide +kernel), List.mem_of_getElem? (i := 1424) (by decide +kernel)⟩
theorem lw_p36 : lw_okq (⟨"OverHillModel", "clears", "()V"⟩, 45) := ⟨⟨by decide +kernel, by decide +kernel⟩, List.mem_of_getElem? (i := 1254) (by decide +kernel), List.mem_of_getElem? (i := 1439) (by decide +kernel), List.mem_of_getElem? (i := 1440) (by decide +kernel)⟩
theorem lw_p37 : lw_okq (⟨"OverHillModel", "reads", "(II)V"⟩, 45) := ⟨⟨by decide +kernel, by decide +kernel⟩, List.mem_of_getElem? (i := 1254) (by decide +kernel), List.mem_of_getElem? (i := 1443) (by decide +kernel), List.mem_of_getElem? (i := 1444) (by decide +kernel)⟩
theorem lw_p38 : lw_okq (⟨"OverHillModel", "begins", "()V"⟩, 45) := ⟨⟨by decide +kernel, by decide +kernel⟩, List.mem_of_getElem? (i := 1254) (by decide +kernel), List.mem_of_getElem? (i := 1447) (by decide +kernel), List.mem_of_getElem? (i := 1448) (by decide +kernel)⟩
theorem lw_p39 : lw_okq (⟨"OverHillModel", "next", "()V"⟩, 45) := ⟨⟨by decide +kernel, by decide +kernel⟩, List.mem_of_getElem? (i := 1254) (by decide +kernel), List.mem_of_getElem? (i := 1451) (by decide +kernel), List.mem_of_getElem? (i := 1452) (by decide +kernel)⟩
theorem lw_p40 : lw_okq (⟨"OverHillModel", "isByte", "(III)Z"⟩, 45) := ⟨⟨by decide +kernel, by decide +kernel⟩, List.mem_of_getElem? (i := 1254) (by decide +kernel), List.mem_of_getElem? (i := 1455) (by decide +kernel), List.mem_of_getElem? (i := 1456) (by decide +kernel)⟩
theorem lw_p41 : lw_okq (⟨"OverHillModel", "isGood", "()Z"⟩, 45) := ⟨⟨by decide +kernel, by decide +kernel⟩, List.mem_of_getElem? (i := 1254) (by decide +kernel), List.mem_of_getElem? (i := 1464) (by decide +kernel), List.mem_of_getElem? (i := 1465) (by decide +kernel)⟩
theorem lw_p42 : lw_okq (⟨"OverHillModel", "asks", "(J)V"⟩, 45) := ⟨⟨by decide +kernel, by decide +kernel⟩, List.mem_of_getElem? (i := 1254) (by decide +kernel), List.mem_of_getElem? (i := 1469) (by decide +kernel), List.mem_of_getElem? (i := 1470) (by decide +kernel)⟩
theorem lw_p43 : lw_okq (⟨"OverHillModel", "takes", "(J)Z"⟩, 45) := ⟨⟨by decide +kernel, by decide +kernel⟩, List.mem_of_getElem? (i := 1254) (by decide +kernel), List.mem_of_getElem? (i := 1473) (by decide +kernel), List.mem_of_getElem? (i := 1474) (by decide +kernel)⟩
theorem lw_p44 : lw_okq (⟨"OverHillModel", "is", "(J)Z"⟩, 45) := ⟨⟨by decide +kernel, by decide +kernel⟩, List.mem_of_getElem? (i := 1254) (by decide +kernel), List.mem_of_getElem? (i := 1477) (by decide +kernel), List.mem_of_getElem? (i := 1478) (by decide +kernel)⟩
theorem lw_p45 : lw_okq (⟨"OverHillModel", "fails", "(I)V"⟩, 45) := ⟨⟨by decide +kernel, by decide +kernel⟩, List.mem_of_getElem? (i := 1254) (by decide +kernel), List.mem_of_getElem? (i := 1481) (by decide +kernel), List.mem_of_getElem? (i := 1482) (by decide +kernel)⟩
theorem lw_p46 : lw_okq (⟨"OverHillModel", "number", "(JII)I"⟩, 45) := ⟨⟨by decide +kernel, by decide +kernel⟩, List.mem_of_getElem? (i := 1254) (by decide +kernel), List.mem_of_getElem? (i := 1486) (by decide +kernel), List.mem_of_getElem? (i := 1487) (by decide +kernel)⟩
theorem lw_p47 : lw_okq (⟨"OverHillModel", "number", "(II)I"⟩, 45) := ⟨⟨by decide +kernel, by decide +kernel⟩, List.mem_of_getElem? (i := 1254) (by decide +kernel), List.mem_of_getElem? (i := 1490) (by decide +kernel), List.mem_of_getElem? (i := 1491) (by decide +kernel)⟩
def lw_privs_3 : List (MethodName × Nat) := [(⟨"OverHill$Night", "draw", "()I"⟩, 7), (⟨"OverHill$Night", "danceStep", "(LOverHill$Dance;I)I"⟩, 7), (⟨"OverHill$Night", "lookForHole", "(LOverHill$Dance;II)V"⟩, 7), (⟨"OverHillModel", "four", "(I)V"⟩, 45), (⟨"OverHillModel", "clears", "()V"⟩, 45), (⟨"OverHillModel", "reads", "(II)V"⟩, 45), (⟨"OverHillModel", "begins", "()V"⟩, 45), (⟨"OverHillModel", "next", "()V"⟩, 45), (⟨"OverHillModel", "isByte", "(III)Z"⟩, 45), (⟨"OverHillModel", "isGood", "()Z"⟩, 45), (⟨"OverHillModel", "asks", "(J)V"⟩, 45), (⟨"OverHillModel", "takes", "(J)Z"⟩, 45), (⟨"OverHillModel", "is", "(J)Z"⟩, 45), (⟨"OverHillModel", "fails", "(I)V"⟩, 45), (⟨"OverHillModel", "number", "(JII)I"⟩, 45), (⟨"OverHillModel", "number", "(II)I"⟩, 45)]
theorem lw_r3 : ∀ q ∈ lw_privs_3, lw_okq q := List.forall_mem_cons.mpr ⟨lw_p32, List.forall_mem_cons.mpr ⟨lw_p33, List.forall_mem_cons.mpr ⟨lw_p34, List.forall_mem_cons.mpr ⟨lw_p35, List.forall_mem_cons.mpr ⟨lw_p36, List.forall_mem_cons.mpr ⟨lw_p37, List.forall_mem_cons.mpr ⟨lw_p38, List.forall_mem_cons.mpr ⟨lw_p39, List.forall_mem_cons.mpr ⟨lw_p40, List.forall_mem_cons.mpr ⟨lw_p41, List.forall_mem_cons.mpr ⟨lw_p42, List.forall_mem_cons.mpr ⟨lw_p43, List.forall_mem_cons.mpr ⟨lw_p44, List.forall_mem_cons.mpr ⟨lw_p45, List.forall_mem_cons.mpr ⟨lw_p46, List.forall_mem_cons.mpr ⟨lw_p47, fun _ h => absurd h List.not_mem_nil⟩⟩⟩⟩⟩⟩⟩⟩⟩⟩⟩⟩⟩⟩⟩⟩
theorem lw_p48 : lw_okq (⟨"OverHillModel", "line", "()V"⟩, 45) := ⟨⟨by decide +kernel, by decide +kernel⟩, List.mem_of_getElem? (i := 1254) (by decide +kernel), List.mem_of_getElem? (i := 1496) (by decide +kernel), List.mem_of_getElem? (i := 1497) (by decide +kernel)⟩
theorem lw_p49 : lw_okq (⟨"OverHillModel", "hasRead", "(I)I"⟩, 45) := ⟨⟨by decide +kernel, by decide +kernel⟩, List.mem_of_getElem? (i := 1254) (by decide +kernel), List.mem_of_getElem? (i := 1503) (by decide +kernel), List.mem_of_getElem? (i := 1504) (by decide +kernel)⟩
theorem lw_p50 : lw_okq (⟨"OverHillModel", "stumbleLine", "()V"⟩, 45) := ⟨⟨by decide +kernel, by decide +kernel⟩, List.mem_of_getElem? (i := 1254) (by decide +kernel), List.mem_of_getElem? (i := 1507) (by decide +kernel), List.mem_of_getElem? (i := 1508) (by decide +kernel)⟩
theorem lw_p51 : lw_okq (⟨"OverHillModel", "isStumbled", "(III)Z"⟩, 45) := ⟨⟨by decide +kernel, by decide +kernel⟩, List.mem_of_getElem? (i := 1254) (by decide +kernel), List.mem_of_getElem? (i := 1512) (by decide +kernel), List.mem_of_getElem? (i := 1513) (by decide +kernel)⟩
theorem lw_p52 : lw_okq (⟨"OverHillModel", "beatHere", "()I"⟩, 45) := ⟨⟨by decide +kernel, by decide +kernel⟩, List.mem_of_getElem? (i := 1254) (by decide +kernel), List.mem_of_getElem? (i := 1516) (by decide +kernel), List.mem_of_getElem? (i := 1517) (by decide +kernel)⟩
theorem lw_p53 : lw_okq (⟨"OverHillModel", "everyLine", "([III)V"⟩, 45) := ⟨⟨by decide +kernel, by decide +kernel⟩, List.mem_of_getElem? (i := 1254) (by decide +kernel), List.mem_of_getElem? (i := 1523) (by decide +kernel), List.mem_of_getElem? (i := 1524) (by decide +kernel)⟩
theorem lw_p54 : lw_okq (⟨"OverHillModel", "roundLine", "()V"⟩, 45) := ⟨⟨by decide +kernel, by decide +kernel⟩, List.mem_of_getElem? (i := 1254) (by decide +kernel), List.mem_of_getElem? (i := 1528) (by decide +kernel), List.mem_of_getElem? (i := 1529) (by decide +kernel)⟩
theorem lw_p55 : lw_okq (⟨"OverHillModel", "stepHere", "()I"⟩, 45) := ⟨⟨by decide +kernel, by decide +kernel⟩, List.mem_of_getElem? (i := 1254) (by decide +kernel), List.mem_of_getElem? (i := 1533) (by decide +kernel), List.mem_of_getElem? (i := 1534) (by decide +kernel)⟩
theorem lw_p56 : lw_okq (⟨"OverHillModel", "answersLine", "()V"⟩, 45) := ⟨⟨by decide +kernel, by decide +kernel⟩, List.mem_of_getElem? (i := 1254) (by decide +kernel), List.mem_of_getElem? (i := 1539) (by decide +kernel), List.mem_of_getElem? (i := 1540) (by decide +kernel)⟩
theorem lw_p57 : lw_okq (⟨"OverHillModel", "ends", "()V"⟩, 45) := ⟨⟨by decide +kernel, by decide +kernel⟩, List.mem_of_getElem? (i := 1254) (by decide +kernel), List.mem_of_getElem? (i := 1544) (by decide +kernel), List.mem_of_getElem? (i := 1545) (by decide +kernel)⟩
theorem lw_p58 : lw_okq (⟨"OverHillModel", "isOver", "()V"⟩, 45) := ⟨⟨by decide +kernel, by decide +kernel⟩, List.mem_of_getElem? (i := 1254) (by decide +kernel), List.mem_of_getElem? (i := 1548) (by decide +kernel), List.mem_of_getElem? (i := 1549) (by decide +kernel)⟩
theorem lw_p59 : lw_okq (⟨"OverHillModel", "copyDance", "(II)V"⟩, 45) := ⟨⟨by decide +kernel, by decide +kernel⟩, List.mem_of_getElem? (i := 1254) (by decide +kernel), List.mem_of_getElem? (i := 1552) (by decide +kernel), List.mem_of_getElem? (i := 1553) (by decide +kernel)⟩
theorem lw_p60 : lw_okq (⟨"OverHillModel", "isSide", "(I)Z"⟩, 45) := ⟨⟨by decide +kernel, by decide +kernel⟩, List.mem_of_getElem? (i := 1254) (by decide +kernel), List.mem_of_getElem? (i := 1563) (by decide +kernel), List.mem_of_getElem? (i := 1564) (by decide +kernel)⟩
theorem lw_p61 : lw_okq (⟨"OverHillModel", "isDance", "()Z"⟩, 45) := ⟨⟨by decide +kernel, by decide +kernel⟩, List.mem_of_getElem? (i := 1254) (by decide +kernel), List.mem_of_getElem? (i := 1567) (by decide +kernel), List.mem_of_getElem? (i := 1568) (by decide +kernel)⟩
theorem lw_p62 : lw_okq (⟨"OverHillModel", "lengthOf", "(I)I"⟩, 45) := ⟨⟨by decide +kernel, by decide +kernel⟩, List.mem_of_getElem? (i := 1254) (by decide +kernel), List.mem_of_getElem? (i := 1571) (by decide +kernel), List.mem_of_getElem? (i := 1572) (by decide +kernel)⟩
theorem lw_p63 : lw_okq (⟨"OverHillModel", "lays", "()V"⟩, 45) := ⟨⟨by decide +kernel, by decide +kernel⟩, List.mem_of_getElem? (i := 1254) (by decide +kernel), List.mem_of_getElem? (i := 1599) (by decide +kernel), List.mem_of_getElem? (i := 1600) (by decide +kernel)⟩
def lw_privs_4 : List (MethodName × Nat) := [(⟨"OverHillModel", "line", "()V"⟩, 45), (⟨"OverHillModel", "hasRead", "(I)I"⟩, 45), (⟨"OverHillModel", "stumbleLine", "()V"⟩, 45), (⟨"OverHillModel", "isStumbled", "(III)Z"⟩, 45), (⟨"OverHillModel", "beatHere", "()I"⟩, 45), (⟨"OverHillModel", "everyLine", "([III)V"⟩, 45), (⟨"OverHillModel", "roundLine", "()V"⟩, 45), (⟨"OverHillModel", "stepHere", "()I"⟩, 45), (⟨"OverHillModel", "answersLine", "()V"⟩, 45), (⟨"OverHillModel", "ends", "()V"⟩, 45), (⟨"OverHillModel", "isOver", "()V"⟩, 45), (⟨"OverHillModel", "copyDance", "(II)V"⟩, 45), (⟨"OverHillModel", "isSide", "(I)Z"⟩, 45), (⟨"OverHillModel", "isDance", "()Z"⟩, 45), (⟨"OverHillModel", "lengthOf", "(I)I"⟩, 45), (⟨"OverHillModel", "lays", "()V"⟩, 45)]
theorem lw_r4 : ∀ q ∈ lw_privs_4, lw_okq q := List.forall_mem_cons.mpr ⟨lw_p48, List.forall_mem_cons.mpr ⟨lw_p49, List.forall_mem_cons.mpr ⟨lw_p50, List.forall_mem_cons.mpr ⟨lw_p51, List.forall_mem_cons.mpr ⟨lw_p52, List.forall_mem_cons.mpr ⟨lw_p53, List.forall_mem_cons.mpr ⟨lw_p54, List.forall_mem_cons.mpr ⟨lw_p55, List.forall_mem_cons.mpr ⟨lw_p56, List.forall_mem_cons.mpr ⟨lw_p57, List.forall_mem_cons.mpr ⟨lw_p58, List.forall_mem_cons.mpr ⟨lw_p59, List.forall_mem_cons.mpr ⟨lw_p60, List.forall_mem_cons.mpr ⟨lw_p61, List.forall_mem_cons.mpr ⟨lw_p62, List.forall_mem_cons.mpr ⟨lw_p63, fun _ h => absurd h List.not_mem_nil⟩⟩⟩⟩⟩⟩⟩⟩⟩⟩⟩⟩⟩⟩⟩⟩
theorem lw_p64 : lw_okq (⟨"OverHillModel", "laysBut", "(I)V"⟩, 45) := ⟨⟨by decide +kernel, by decide +kernel⟩, List.mem_of_getElem? (i := 1254) (by decide +kernel), List.mem_of_getElem? (i := 1603) (by decide +kernel), List.mem_of_getElem? (i := 1604) (by decide +kernel)⟩
theorem lw_p65 : lw_okq (⟨"OverHillModel", "dances", "(IIIII)V"⟩, 45) := ⟨⟨by decide +kernel, by decide +kernel⟩, List.mem_of_getElem? (i := 1254) (by decide +kernel), List.mem_of_getElem? (i := 1607) (by decide +kernel), List.mem_of_getElem? (i := 1608) (by decide +kernel)⟩
theorem lw_p66 : lw_okq (⟨"OverHillModel", "hearsAt", "(II)I"⟩, 45) := ⟨⟨by decide +kernel, by decide +kernel⟩, List.mem_of_getElem? (i := 1254) (by decide +kernel), List.mem_of_getElem? (i := 1619) (by decide +kernel), List.mem_of_getElem? (i := 1620) (by decide +kernel)⟩
theorem lw_p67 : lw_okq (⟨"OverHillModel", "isHole", "(II)Z"⟩, 45) := ⟨⟨by decide +kernel, by decide +kernel⟩, List.mem_of_getElem? (i := 1254) (by decide +kernel), List.mem_of_getElem? (i := 1631) (by decide +kernel), List.mem_of_getElem? (i := 1632) (by decide +kernel)⟩
theorem lw_p68 : lw_okq (⟨"OverHillModel", "clashes", "(II)Z"⟩, 45) := ⟨⟨by decide +kernel, by decide +kernel⟩, List.mem_of_getElem? (i := 1254) (by decide +kernel), List.mem_of_getElem? (i := 1635) (by decide +kernel), List.mem_of_getElem? (i := 1636) (by decide +kernel)⟩
theorem lw_p69 : lw_okq (⟨"OverHillModel", "isSpan", "(II)Z"⟩, 45) := ⟨⟨by decide +kernel, by decide +kernel⟩, List.mem_of_getElem? (i := 1254) (by decide +kernel), List.mem_of_getElem? (i := 1650) (by decide +kernel), List.mem_of_getElem? (i := 1651) (by decide +kernel)⟩
theorem lw_p70 : lw_okq (⟨"OverHillModel", "holesOf", "(III)I"⟩, 45) := ⟨⟨by decide +kernel, by decide +kernel⟩, List.mem_of_getElem? (i := 1254) (by decide +kernel), List.mem_of_getElem? (i := 1654) (by decide +kernel), List.mem_of_getElem? (i := 1655) (by decide +kernel)⟩
theorem lw_p71 : lw_okq (⟨"OverHillModel", "laysRun", "(II)V"⟩, 45) := ⟨⟨by decide +kernel, by decide +kernel⟩, List.mem_of_getElem? (i := 1254) (by decide +kernel), List.mem_of_getElem? (i := 1662) (by decide +kernel), List.mem_of_getElem? (i := 1663) (by decide +kernel)⟩
theorem lw_p72 : lw_okq (⟨"OverHillModel", "allHoles", "()I"⟩, 45) := ⟨⟨by decide +kernel, by decide +kernel⟩, List.mem_of_getElem? (i := 1254) (by decide +kernel), List.mem_of_getElem? (i := 1674) (by decide +kernel), List.mem_of_getElem? (i := 1675) (by decide +kernel)⟩
theorem lw_p73 : lw_okq (⟨"OverHillModel", "areRounds", "()Z"⟩, 45) := ⟨⟨by decide +kernel, by decide +kernel⟩, List.mem_of_getElem? (i := 1254) (by decide +kernel), List.mem_of_getElem? (i := 1686) (by decide +kernel), List.mem_of_getElem? (i := 1687) (by decide +kernel)⟩
theorem lw_p74 : lw_okq (⟨"OverHillModel", "periodOf", "()I"⟩, 45) := ⟨⟨by decide +kernel, by decide +kernel⟩, List.mem_of_getElem? (i := 1254) (by decide +kernel), List.mem_of_getElem? (i := 1690) (by decide +kernel), List.mem_of_getElem? (i := 1691) (by decide +kernel)⟩
theorem lw_p75 : lw_okq (⟨"OverHillModel", "shiftedOf", "(I)I"⟩, 45) := ⟨⟨by decide +kernel, by decide +kernel⟩, List.mem_of_getElem? (i := 1254) (by decide +kernel), List.mem_of_getElem? (i := 1705) (by decide +kernel), List.mem_of_getElem? (i := 1706) (by decide +kernel)⟩
theorem lw_p76 : lw_okq (⟨"OverHillModel", "plain", "(III)I"⟩, 45) := ⟨⟨by decide +kernel, by decide +kernel⟩, List.mem_of_getElem? (i := 1254) (by decide +kernel), List.mem_of_getElem? (i := 1709) (by decide +kernel), List.mem_of_getElem? (i := 1710) (by decide +kernel)⟩
theorem lw_p77 : lw_okq (⟨"OverHillModel", "stuckOf", "(I)I"⟩, 45) := ⟨⟨by decide +kernel, by decide +kernel⟩, List.mem_of_getElem? (i := 1254) (by decide +kernel), List.mem_of_getElem? (i := 1725) (by decide +kernel), List.mem_of_getElem? (i := 1726) (by decide +kernel)⟩
theorem lw_p78 : lw_okq (⟨"OverHillModel", "mendedOf", "(II)I"⟩, 45) := ⟨⟨by decide +kernel, by decide +kernel⟩, List.mem_of_getElem? (i := 1254) (by decide +kernel), List.mem_of_getElem? (i := 1729) (by decide +kernel), List.mem_of_getElem? (i := 1730) (by decide +kernel)⟩
theorem lw_p79 : lw_okq (⟨"OverHillModel", "mayBe", "(II)I"⟩, 45) := ⟨⟨by decide +kernel, by decide +kernel⟩, List.mem_of_getElem? (i := 1254) (by decide +kernel), List.mem_of_getElem? (i := 1733) (by decide +kernel), List.mem_of_getElem? (i := 1734) (by decide +kernel)⟩
def lw_privs_5 : List (MethodName × Nat) := [(⟨"OverHillModel", "laysBut", "(I)V"⟩, 45), (⟨"OverHillModel", "dances", "(IIIII)V"⟩, 45), (⟨"OverHillModel", "hearsAt", "(II)I"⟩, 45), (⟨"OverHillModel", "isHole", "(II)Z"⟩, 45), (⟨"OverHillModel", "clashes", "(II)Z"⟩, 45), (⟨"OverHillModel", "isSpan", "(II)Z"⟩, 45), (⟨"OverHillModel", "holesOf", "(III)I"⟩, 45), (⟨"OverHillModel", "laysRun", "(II)V"⟩, 45), (⟨"OverHillModel", "allHoles", "()I"⟩, 45), (⟨"OverHillModel", "areRounds", "()Z"⟩, 45), (⟨"OverHillModel", "periodOf", "()I"⟩, 45), (⟨"OverHillModel", "shiftedOf", "(I)I"⟩, 45), (⟨"OverHillModel", "plain", "(III)I"⟩, 45), (⟨"OverHillModel", "stuckOf", "(I)I"⟩, 45), (⟨"OverHillModel", "mendedOf", "(II)I"⟩, 45), (⟨"OverHillModel", "mayBe", "(II)I"⟩, 45)]
theorem lw_r5 : ∀ q ∈ lw_privs_5, lw_okq q := List.forall_mem_cons.mpr ⟨lw_p64, List.forall_mem_cons.mpr ⟨lw_p65, List.forall_mem_cons.mpr ⟨lw_p66, List.forall_mem_cons.mpr ⟨lw_p67, List.forall_mem_cons.mpr ⟨lw_p68, List.forall_mem_cons.mpr ⟨lw_p69, List.forall_mem_cons.mpr ⟨lw_p70, List.forall_mem_cons.mpr ⟨lw_p71, List.forall_mem_cons.mpr ⟨lw_p72, List.forall_mem_cons.mpr ⟨lw_p73, List.forall_mem_cons.mpr ⟨lw_p74, List.forall_mem_cons.mpr ⟨lw_p75, List.forall_mem_cons.mpr ⟨lw_p76, List.forall_mem_cons.mpr ⟨lw_p77, List.forall_mem_cons.mpr ⟨lw_p78, List.forall_mem_cons.mpr ⟨lw_p79, fun _ h => absurd h List.not_mem_nil⟩⟩⟩⟩⟩⟩⟩⟩⟩⟩⟩⟩⟩⟩⟩⟩
theorem lw_p80 : lw_okq (⟨"OverHillModel", "whyNot", "(II)I"⟩, 45) := ⟨⟨by decide +kernel, by decide +kernel⟩, List.mem_of_getElem? (i := 1254) (by decide +kernel), List.mem_of_getElem? (i := 1749) (by decide +kernel), List.mem_of_getElem? (i := 1750) (by decide +kernel)⟩
theorem lw_p81 : lw_okq (⟨"OverHillModel", "laysFits", "(II)V"⟩, 45) := ⟨⟨by decide +kernel, by decide +kernel⟩, List.mem_of_getElem? (i := 1254) (by decide +kernel), List.mem_of_getElem? (i := 1753) (by decide +kernel), List.mem_of_getElem? (i := 1754) (by decide +kernel)⟩
theorem lw_p82 : lw_okq (⟨"OverHillModel", "isHeard", "(II)Z"⟩, 45) := ⟨⟨by decide +kernel, by decide +kernel⟩, List.mem_of_getElem? (i := 1254) (by decide +kernel), List.mem_of_getElem? (i := 1757) (by decide +kernel), List.mem_of_getElem? (i := 1758) (by decide +kernel)⟩
theorem lw_p83 : lw_okq (⟨"OverHillModel", "listens", "(II)I"⟩, 45) := ⟨⟨by decide +kernel, by decide +kernel⟩, List.mem_of_getElem? (i := 1254) (by decide +kernel), List.mem_of_getElem? (i := 1773) (by decide +kernel), List.mem_of_getElem? (i := 1774) (by decide +kernel)⟩
theorem lw_p84 : lw_okq (⟨"OverHillModel", "walks", "(II)I"⟩, 45) := ⟨⟨by decide +kernel, by decide +kernel⟩, List.mem_of_getElem? (i := 1254) (by decide +kernel), List.mem_of_getElem? (i := 1785) (by decide +kernel), List.mem_of_getElem? (i := 1786) (by decide +kernel)⟩
theorem lw_p85 : lw_okq (⟨"OverHillModel", "laysMeet", "(II)V"⟩, 45) := ⟨⟨by decide +kernel, by decide +kernel⟩, List.mem_of_getElem? (i := 1254) (by decide +kernel), List.mem_of_getElem? (i := 1800) (by decide +kernel), List.mem_of_getElem? (i := 1801) (by decide +kernel)⟩
theorem lw_p86 : lw_okq (⟨"OverHillModel", "whyNotHalf", "(I)I"⟩, 45) := ⟨⟨by decide +kernel, by decide +kernel⟩, List.mem_of_getElem? (i := 1254) (by decide +kernel), List.mem_of_getElem? (i := 1816) (by decide +kernel), List.mem_of_getElem? (i := 1817) (by decide +kernel)⟩
theorem lw_p87 : lw_okq (⟨"OverHillModel", "halfOf", "(I)I"⟩, 45) := ⟨⟨by decide +kernel, by decide +kernel⟩, List.mem_of_getElem? (i := 1254) (by decide +kernel), List.mem_of_getElem? (i := 1820) (by decide +kernel), List.mem_of_getElem? (i := 1821) (by decide +kernel)⟩
theorem lw_p88 : lw_okq (⟨"OverHillModel", "isHalf", "(II)Z"⟩, 45) := ⟨⟨by decide +kernel, by decide +kernel⟩, List.mem_of_getElem? (i := 1254) (by decide +kernel), List.mem_of_getElem? (i := 1824) (by decide +kernel), List.mem_of_getElem? (i := 1825) (by decide +kernel)⟩
theorem lw_p89 : lw_okq (⟨"OverHillModel", "isSet", "(I)Z"⟩, 45) := ⟨⟨by decide +kernel, by decide +kernel⟩, List.mem_of_getElem? (i := 1254) (by decide +kernel), List.mem_of_getElem? (i := 1840) (by decide +kernel), List.mem_of_getElem? (i := 1841) (by decide +kernel)⟩
theorem lw_p90 : lw_okq (⟨"OverHillModel", "togetherOf", "(II)J"⟩, 45) := ⟨⟨by decide +kernel, by decide +kernel⟩, List.mem_of_getElem? (i := 1254) (by decide +kernel), List.mem_of_getElem? (i := 1844) (by decide +kernel), List.mem_of_getElem? (i := 1845) (by decide +kernel)⟩
theorem lw_p91 : lw_okq (⟨"OverHillModel", "againOf", "(I)J"⟩, 45) := ⟨⟨by decide +kernel, by decide +kernel⟩, List.mem_of_getElem? (i := 1254) (by decide +kernel), List.mem_of_getElem? (i := 1856) (by decide +kernel), List.mem_of_getElem? (i := 1857) (by decide +kernel)⟩
theorem lw_p92 : lw_okq (⟨"OverHillModel", "chorusOf", "()I"⟩, 45) := ⟨⟨by decide +kernel, by decide +kernel⟩, List.mem_of_getElem? (i := 1254) (by decide +kernel), List.mem_of_getElem? (i := 1864) (by decide +kernel), List.mem_of_getElem? (i := 1865) (by decide +kernel)⟩
theorem lw_p93 : lw_okq (⟨"OverHillModel", "laysGame", "()V"⟩, 45) := ⟨⟨by decide +kernel, by decide +kernel⟩, List.mem_of_getElem? (i := 1254) (by decide +kernel), List.mem_of_getElem? (i := 1887) (by decide +kernel), List.mem_of_getElem? (i := 1888) (by decide +kernel)⟩
theorem lw_p94 : lw_okq (⟨"OverHillModel", "winsFrom", "(II)Z"⟩, 45) := ⟨⟨by decide +kernel, by decide +kernel⟩, List.mem_of_getElem? (i := 1254) (by decide +kernel), List.mem_of_getElem? (i := 1891) (by decide +kernel), List.mem_of_getElem? (i := 1892) (by decide +kernel)⟩
theorem lw_p95 : lw_okq (⟨"OverHillModel", "isPlay", "(III)Z"⟩, 45) := ⟨⟨by decide +kernel, by decide +kernel⟩, List.mem_of_getElem? (i := 1254) (by decide +kernel), List.mem_of_getElem? (i := 1895) (by decide +kernel), List.mem_of_getElem? (i := 1896) (by decide +kernel)⟩
def lw_privs_6 : List (MethodName × Nat) := [(⟨"OverHillModel", "whyNot", "(II)I"⟩, 45), (⟨"OverHillModel", "laysFits", "(II)V"⟩, 45), (⟨"OverHillModel", "isHeard", "(II)Z"⟩, 45), (⟨"OverHillModel", "listens", "(II)I"⟩, 45), (⟨"OverHillModel", "walks", "(II)I"⟩, 45), (⟨"OverHillModel", "laysMeet", "(II)V"⟩, 45), (⟨"OverHillModel", "whyNotHalf", "(I)I"⟩, 45), (⟨"OverHillModel", "halfOf", "(I)I"⟩, 45), (⟨"OverHillModel", "isHalf", "(II)Z"⟩, 45), (⟨"OverHillModel", "isSet", "(I)Z"⟩, 45), (⟨"OverHillModel", "togetherOf", "(II)J"⟩, 45), (⟨"OverHillModel", "againOf", "(I)J"⟩, 45), (⟨"OverHillModel", "chorusOf", "()I"⟩, 45), (⟨"OverHillModel", "laysGame", "()V"⟩, 45), (⟨"OverHillModel", "winsFrom", "(II)Z"⟩, 45), (⟨"OverHillModel", "isPlay", "(III)Z"⟩, 45)]
theorem lw_r6 : ∀ q ∈ lw_privs_6, lw_okq q := List.forall_mem_cons.mpr ⟨lw_p80, List.forall_mem_cons.mpr ⟨lw_p81, List.forall_mem_cons.mpr ⟨lw_p82, List.forall_mem_cons.mpr ⟨lw_p83, List.forall_mem_cons.mpr ⟨lw_p84, List.forall_mem_cons.mpr ⟨lw_p85, List.forall_mem_cons.mpr ⟨lw_p86, List.forall_mem_cons.mpr ⟨lw_p87, List.forall_mem_cons.mpr ⟨lw_p88, List.forall_mem_cons.mpr ⟨lw_p89, List.forall_mem_cons.mpr ⟨lw_p90, List.forall_mem_cons.mpr ⟨lw_p91, List.forall_mem_cons.mpr ⟨lw_p92, List.forall_mem_cons.mpr ⟨lw_p93, List.forall_mem_cons.mpr ⟨lw_p94, List.forall_mem_cons.mpr ⟨lw_p95, fun _ h => absurd h List.not_mem_nil⟩⟩⟩⟩⟩⟩⟩⟩⟩⟩⟩⟩⟩⟩⟩⟩
theorem lw_p96 : lw_okq (⟨"OverHillModel", "isRain", "(II)Z"⟩, 45) := ⟨⟨by decide +kernel, by decide +kernel⟩, List.mem_of_getElem? (i := 1254) (by decide +kernel), List.mem_of_getElem? (i := 1907) (by decide +kernel), List.mem_of_getElem? (i := 1908) (by decide +kernel)⟩
theorem lw_p97 : lw_okq (⟨"OverHillModel", "isDraw", "(II)Z"⟩, 45) := ⟨⟨by decide +kernel, by decide +kernel⟩, List.mem_of_getElem? (i := 1254) (by decide +kernel), List.mem_of_getElem? (i := 1927) (by decide +kernel), List.mem_of_getElem? (i := 1928) (by decide +kernel)⟩
theorem lw_p98 : lw_okq (⟨"OverHillModel", "draws", "(JI)V"⟩, 45) := ⟨⟨by decide +kernel, by decide +kernel⟩, List.mem_of_getElem? (i := 1254) (by decide +kernel), List.mem_of_getElem? (i := 1932) (by decide +kernel), List.mem_of_getElem? (i := 1933) (by decide +kernel)⟩
theorem lw_p99 : lw_okq (⟨"OverHillModel", "isBelow", "(I)Z"⟩, 45) := ⟨⟨by decide +kernel, by decide +kernel⟩, List.mem_of_getElem? (i := 1254) (by decide +kernel), List.mem_of_getElem? (i := 1936) (by decide +kernel), List.mem_of_getElem? (i := 1937) (by decide +kernel)⟩
theorem lw_p100 : lw_okq (⟨"OverHillModel", "slips", "(I)I"⟩, 45) := ⟨⟨by decide +kernel, by decide +kernel⟩, List.mem_of_getElem? (i := 1254) (by decide +kernel), List.mem_of_getElem? (i := 1944) (by decide +kernel), List.mem_of_getElem? (i := 1945) (by decide +kernel)⟩
theorem lw_p101 : lw_okq (⟨"OverHillModel", "changes", "(IIII)V"⟩, 45) := ⟨⟨by decide +kernel, by decide +kernel⟩, List.mem_of_getElem? (i := 1254) (by decide +kernel), List.mem_of_getElem? (i := 1957) (by decide +kernel), List.mem_of_getElem? (i := 1958) (by decide +kernel)⟩
def lw_privs_7 : List (MethodName × Nat) := [(⟨"OverHillModel", "isRain", "(II)Z"⟩, 45), (⟨"OverHillModel", "isDraw", "(II)Z"⟩, 45), (⟨"OverHillModel", "draws", "(JI)V"⟩, 45), (⟨"OverHillModel", "isBelow", "(I)Z"⟩, 45), (⟨"OverHillModel", "slips", "(I)I"⟩, 45), (⟨"OverHillModel", "changes", "(IIII)V"⟩, 45)]
theorem lw_r7 : ∀ q ∈ lw_privs_7, lw_okq q := List.forall_mem_cons.mpr ⟨lw_p96, List.forall_mem_cons.mpr ⟨lw_p97, List.forall_mem_cons.mpr ⟨lw_p98, List.forall_mem_cons.mpr ⟨lw_p99, List.forall_mem_cons.mpr ⟨lw_p100, List.forall_mem_cons.mpr ⟨lw_p101, fun _ h => absurd h List.not_mem_nil⟩⟩⟩⟩⟩⟩
def lw_privs : List (MethodName × Nat) := lw_privs_1 ++ (lw_privs_2 ++ (lw_privs_3 ++ (lw_privs_4 ++ (lw_privs_5 ++ (lw_privs_6 ++ (lw_privs_7))))))
def lw_tbl : List Cond := k2_sels lw_privs ++ tables_1
theorem lw_privs_ok : ∀ q ∈ lw_privs, lw_okq q := by
  show ∀ q ∈ lw_privs_1 ++ (lw_privs_2 ++ (lw_privs_3 ++ (lw_privs_4 ++ (lw_privs_5 ++ (lw_privs_6 ++ (lw_privs_7)))))), lw_okq q
  exact List.forall_mem_append.mpr ⟨lw_r1, List.forall_mem_append.mpr ⟨lw_r2, List.forall_mem_append.mpr ⟨lw_r3, List.forall_mem_append.mpr ⟨lw_r4, List.forall_mem_append.mpr ⟨lw_r5, List.forall_mem_append.mpr ⟨lw_r6, lw_r7⟩⟩⟩⟩⟩⟩
end
section
theorem goodIn_r {big : List Cond} (ws : List Cond) (ps : List Nat) (hp : ws = ps.filterMap (fun i => big[i]?)) (h : ws.all goodWord = true) : GoodIn big ws := by
  intro w hw
  have h1 := List.all_eq_true.mp h w hw
  rw [hp] at hw
  obtain ⟨i, -, hi⟩ := List.mem_filterMap.mp hw
  have hm : w ∈ big := by first | exact List.mem_of_getElem? hi | exact List.getElem?_mem hi
  exact ⟨hm, good_of_word h1⟩
theorem goodIn_app {big a b : List Cond} (ha : GoodIn big a) (hb : GoodIn big b) : GoodIn big (a ++ b) := fun w h => (List.mem_append.mp h).elim (ha w) (hb w)
theorem goodIn_ca {big a b : List Cond} {c : Cond} (ha : GoodIn big (c :: a)) (hb : GoodIn big b) : GoodIn big (c :: (a ++ b)) := fun w h => (List.mem_cons.mp h).elim (fun e => ha w (List.mem_cons.mpr (Or.inl e))) (fun h => (List.mem_append.mp h).elim (fun h => ha w (List.mem_cons.mpr (Or.inr h))) (hb w))
theorem goodIn_sub {big ws : List Cond} (hm : ∀ w ∈ ws, w ∈ big) (h : ws.all goodWord = true) : GoodIn big ws := fun w hw => ⟨hm w hw, good_of_word (List.all_eq_true.mp h w hw)⟩

def RX0 : String := "OverHill$Dance"
def TX0 : u_T := fun k => match k with
  | 0 => ("OverHill$Dance", "gap", "I", false)
  | 1 => ("OverHill$Dance", "odds", "I", false)
  | 2 => ("OverHill$Dance", "rain", "I", false)
  | 3 => ("OverHill$Dance", "lines", "I", false)
  | 4 => ("OverHill$Dance", "steps", "[I", true)
  | 5 => ("OverHill$Dance", "lengths", "[I", true)
  | 6 => ("OverHill$Dance", "starts", "[I", true)
  | 7 => ("OverHill$Dance", "met", "[I", true)
  | 8 => ("OverHill$Dance", "stumbles", "[I", true)
  | 9 => ("OverHill$Dance", "stumbleCount", "I", false)
  | 10 => ("OverHill$Dance", "muds", "[I", true)
  | 11 => ("OverHill$Dance", "cells", "[I", true)
  | 12 => ("OverHill$Dance", "cellCount", "I", false)
  | 13 => ("OverHill$Dance", "tunes", "[I", true)
  | 14 => ("OverHill$Dance", "tuneCount", "I", false)
  | 15 => ("OverHill$Dance", "changes", "[I", true)
  | _ => ("OverHill$Dance", "changeCount", "I", false)
def tyX0 : Nat → FieldType := fun k => match k with
  | 0 => .int
  | 1 => .int
  | 2 => .int
  | 3 => .int
  | 4 => .array .int
  | 5 => .array .int
  | 6 => .array .int
  | 7 => .array .int
  | 8 => .array .int
  | 9 => .int
  | 10 => .array .int
  | 11 => .array .int
  | 12 => .int
  | 13 => .array .int
  | 14 => .int
  | 15 => .array .int
  | _ => .int
abbrev wsX00 : List Cond := u_ws RX0 TX0 17
theorem nmX0 : ∀ a, a < 17 → ∀ b, b < 17 → a ≠ b → (TX0 a).2.1 ≠ (TX0 b).2.1 := by decide +kernel
theorem tyX0_ok : ∀ k, k < 17 → parseFieldDescriptor (TX0 k).2.2.1 = some (tyX0 k) := by decide +kernel
def yX0_init : MethodName := ⟨RX0, "<init>", "()V"⟩
abbrev cX0_stands : ByteArray := prog_2_method_4_code
def yX0_stands : MethodName := ⟨RX0, "stands", "()Z"⟩
abbrev cX0_hasPlace : ByteArray := prog_2_method_6_code
def yX0_hasPlace : MethodName := ⟨RX0, "hasPlace", "(II)Z"⟩
abbrev cX0_stepAt : ByteArray := prog_2_method_8_code
def yX0_stepAt : MethodName := ⟨RX0, "stepAt", "(II)I"⟩
def RX1 : String := "OverHill$Floor"
def TX1 : u_T := fun k => match k with
  | 0 => ("OverHill$Floor", "places", "[I", true)
  | 1 => ("OverHill$Floor", "steps", "[I", true)
  | 2 => ("OverHill$Floor", "stumbleIn", "[I", true)
  | 3 => ("OverHill$Floor", "gap", "I", false)
  | 4 => ("OverHill$Floor", "calmLength", "I", false)
  | _ => ("OverHill$Floor", "calmStart", "I", false)
def tyX1 : Nat → FieldType := fun k => match k with
  | 0 => .array .int
  | 1 => .array .int
  | 2 => .array .int
  | 3 => .int
  | 4 => .int
  | _ => .int
abbrev wsX10 : List Cond := u_ws RX1 TX1 6
theorem nmX1 : ∀ a, a < 6 → ∀ b, b < 6 → a ≠ b → (TX1 a).2.1 ≠ (TX1 b).2.1 := by decide +kernel
theorem tyX1_ok : ∀ k, k < 6 → parseFieldDescriptor (TX1 k).2.2.1 = some (tyX1 k) := by decide +kernel
def yX1_init : MethodName := ⟨RX1, "<init>", "()V"⟩
def RX2 : String := "OverHill$Game"
def TX2 : u_T := fun k => match k with
  | _ => ("OverHill$Game", "winning", "[I", true)
def tyX2 : Nat → FieldType := fun k => match k with
  | _ => .array .int
abbrev wsX20 : List Cond := u_ws RX2 TX2 1
theorem nmX2 : ∀ a, a < 1 → ∀ b, b < 1 → a ≠ b → (TX2 a).2.1 ≠ (TX2 b).2.1 := by decide +kernel
theorem tyX2_ok : ∀ k, k < 1 → parseFieldDescriptor (TX2 k).2.2.1 = some (tyX2 k) := by decide +kernel
def yX2_init : MethodName := ⟨RX2, "<init>", "()V"⟩
def RX3 : String := "OverHill$Guess"
def TX3 : u_T := fun k => match k with
  | 0 => ("OverHill$Guess", "gap", "I", false)
  | 1 => ("OverHill$Guess", "length", "I", false)
  | 2 => ("OverHill$Guess", "round", "[I", true)
  | 3 => ("OverHill$Guess", "impossible", "Z", false)
  | 4 => ("OverHill$Guess", "firstUnlike", "I", false)
  | 5 => ("OverHill$Guess", "lastUnlike", "[I", true)
  | 6 => ("OverHill$Guess", "places", "[I", true)
  | 7 => ("OverHill$Guess", "stepsIn", "[I", true)
  | 8 => ("OverHill$Guess", "passed", "[I", true)
  | 9 => ("OverHill$Guess", "classes", "[I", true)
  | 10 => ("OverHill$Guess", "bestBeat", "I", false)
  | _ => ("OverHill$Guess", "bestLeft", "I", false)
def tyX3 : Nat → FieldType := fun k => match k with
  | 0 => .int
  | 1 => .int
  | 2 => .array .int
  | 3 => .boolean
  | 4 => .int
  | 5 => .array .int
  | 6 => .array .int
  | 7 => .array .int
  | 8 => .array .int
  | 9 => .array .int
  | 10 => .int
  | _ => .int
abbrev wsX30 : List Cond := u_ws RX3 TX3 12
theorem nmX3 : ∀ a, a < 12 → ∀ b, b < 12 → a ≠ b → (TX3 a).2.1 ≠ (TX3 b).2.1 := by decide +kernel
theorem tyX3_ok : ∀ k, k < 12 → parseFieldDescriptor (TX3 k).2.2.1 = some (tyX3 k) := by decide +kernel
def yX3_init : MethodName := ⟨RX3, "<init>", "()V"⟩
def RX4 : String := "OverHill$Night"
def TX4 : u_T := fun k => match k with
  | 0 => ("OverHill$Night", "danced", "[I", true)
  | 1 => ("OverHill$Night", "places", "[I", true)
  | 2 => ("OverHill$Night", "state", "J", false)
  | 3 => ("OverHill$Night", "holeCount", "I", false)
  | 4 => ("OverHill$Night", "firstHole", "I", false)
  | 5 => ("OverHill$Night", "mudCount", "I", false)
  | _ => ("OverHill$Night", "slipCount", "I", false)
def tyX4 : Nat → FieldType := fun k => match k with
  | 0 => .array .int
  | 1 => .array .int
  | 2 => .long
  | 3 => .int
  | 4 => .int
  | 5 => .int
  | _ => .int
abbrev wsX40 : List Cond := u_ws RX4 TX4 7
theorem nmX4 : ∀ a, a < 7 → ∀ b, b < 7 → a ≠ b → (TX4 a).2.1 ≠ (TX4 b).2.1 := by decide +kernel
theorem tyX4_ok : ∀ k, k < 7 → parseFieldDescriptor (TX4 k).2.2.1 = some (tyX4 k) := by decide +kernel
def yX4_init : MethodName := ⟨RX4, "<init>", "()V"⟩
def RX5 : String := "OverHill$Reader"
def TX5 : u_T := fun k => match k with
  | 0 => ("OverHill$Reader", "tape", "LOverHill$Tape;", true)
  | 1 => ("OverHill$Reader", "numberPlace", "I", false)
  | 2 => ("OverHill$Reader", "fault", "I", false)
  | _ => ("OverHill$Reader", "faultPlace", "I", false)
def tyX5 : Nat → FieldType := fun k => match k with
  | 0 => .object "OverHill$Tape"
  | 1 => .int
  | 2 => .int
  | _ => .int
abbrev wsX50 : List Cond := u_ws RX5 TX5 4
theorem nmX5 : ∀ a, a < 4 → ∀ b, b < 4 → a ≠ b → (TX5 a).2.1 ≠ (TX5 b).2.1 := by decide +kernel
theorem tyX5_ok : ∀ k, k < 4 → parseFieldDescriptor (TX5 k).2.2.1 = some (tyX5 k) := by decide +kernel
def yX5_init : MethodName := ⟨RX5, "<init>", "()V"⟩
def RX6 : String := "OverHill$Rounds"
def TX6 : u_T := fun k => match k with
  | _ => ("OverHill$Rounds", "fits", "[I", true)
def tyX6 : Nat → FieldType := fun k => match k with
  | _ => .array .int
abbrev wsX60 : List Cond := u_ws RX6 TX6 1
theorem nmX6 : ∀ a, a < 1 → ∀ b, b < 1 → a ≠ b → (TX6 a).2.1 ≠ (TX6 b).2.1 := by decide +kernel
theorem tyX6_ok : ∀ k, k < 1 → parseFieldDescriptor (TX6 k).2.2.1 = some (tyX6 k) := by decide +kernel
def yX6_init : MethodName := ⟨RX6, "<init>", "()V"⟩
def RX7 : String := "OverHill$Slots"
def TX7 : u_T := fun k => match k with
  | 0 => ("OverHill$Slots", "widths", "[I", true)
  | 1 => ("OverHill$Slots", "sizes", "[I", true)
  | _ => ("OverHill$Slots", "numbers", "[J", true)
def tyX7 : Nat → FieldType := fun k => match k with
  | 0 => .array .int
  | 1 => .array .int
  | _ => .array .long
abbrev wsX70 : List Cond := u_ws RX7 TX7 3
theorem nmX7 : ∀ a, a < 3 → ∀ b, b < 3 → a ≠ b → (TX7 a).2.1 ≠ (TX7 b).2.1 := by decide +kernel
theorem tyX7_ok : ∀ k, k < 3 → parseFieldDescriptor (TX7 k).2.2.1 = some (tyX7 k) := by decide +kernel
def yX7_init : MethodName := ⟨RX7, "<init>", "()V"⟩
def RX8 : String := "OverHill$Tape"
def TX8 : u_T := fun k => match k with
  | 0 => ("OverHill$Tape", "bytes", "[B", true)
  | 1 => ("OverHill$Tape", "length", "I", false)
  | 2 => ("OverHill$Tape", "kind", "I", false)
  | 3 => ("OverHill$Tape", "from", "I", false)
  | 4 => ("OverHill$Tape", "upto", "I", false)
  | _ => ("OverHill$Tape", "value", "I", false)
def tyX8 : Nat → FieldType := fun k => match k with
  | 0 => .array .byte
  | 1 => .int
  | 2 => .int
  | 3 => .int
  | 4 => .int
  | _ => .int
abbrev wsX80 : List Cond := u_ws RX8 TX8 6
theorem nmX8 : ∀ a, a < 6 → ∀ b, b < 6 → a ≠ b → (TX8 a).2.1 ≠ (TX8 b).2.1 := by decide +kernel
theorem tyX8_ok : ∀ k, k < 6 → parseFieldDescriptor (TX8 k).2.2.1 = some (tyX8 k) := by decide +kernel
def yX8_init : MethodName := ⟨RX8, "<init>", "()V"⟩
def RX9 : String := "OverHill$Tunes"
def TX9 : u_T := fun k => match k with
  | 0 => ("OverHill$Tunes", "every", "J", false)
  | _ => ("OverHill$Tunes", "at", "J", false)
def tyX9 : Nat → FieldType := fun k => match k with
  | 0 => .long
  | _ => .long
abbrev wsX90 : List Cond := u_ws RX9 TX9 2
theorem nmX9 : ∀ a, a < 2 → ∀ b, b < 2 → a ≠ b → (TX9 a).2.1 ≠ (TX9 b).2.1 := by decide +kernel
theorem tyX9_ok : ∀ k, k < 2 → parseFieldDescriptor (TX9 k).2.2.1 = some (tyX9 k) := by decide +kernel
def yX9_init : MethodName := ⟨RX9, "<init>", "()V"⟩
def RX10 : String := "OverHill$Wood"
def TX10 : u_T := fun k => match k with
  | 0 => ("OverHill$Wood", "arrivals", "[I", true)
  | 1 => ("OverHill$Wood", "meetingBeat", "I", false)
  | _ => ("OverHill$Wood", "meetingCell", "I", false)
def tyX10 : Nat → FieldType := fun k => match k with
  | 0 => .array .int
  | 1 => .int
  | _ => .int
abbrev wsX100 : List Cond := u_ws RX10 TX10 3
theorem nmX10 : ∀ a, a < 3 → ∀ b, b < 3 → a ≠ b → (TX10 a).2.1 ≠ (TX10 b).2.1 := by decide +kernel
theorem tyX10_ok : ∀ k, k < 3 → parseFieldDescriptor (TX10 k).2.2.1 = some (tyX10 k) := by decide +kernel
def yX10_init : MethodName := ⟨RX10, "<init>", "()V"⟩
def RX11 : String := "OverHill"
def TX11 : u_T := fun k => match k with
  | 0 => ("OverHill", "reader", "LOverHill$Reader;", true)
  | 1 => ("OverHill", "tape", "LOverHill$Tape;", true)
  | 2 => ("OverHill", "now", "LOverHill$Dance;", false)
  | 3 => ("OverHill", "spare", "LOverHill$Dance;", false)
  | 4 => ("OverHill", "images", "[LOverHill$Dance;", true)
  | 5 => ("OverHill", "kept", "[I", true)
  | 6 => ("OverHill", "floor", "LOverHill$Floor;", true)
  | 7 => ("OverHill", "trial", "LOverHill$Floor;", true)
  | 8 => ("OverHill", "laid", "Z", false)
  | 9 => ("OverHill", "rounds", "LOverHill$Rounds;", true)
  | 10 => ("OverHill", "guess", "LOverHill$Guess;", true)
  | 11 => ("OverHill", "wood", "LOverHill$Wood;", true)
  | 12 => ("OverHill", "tunes", "LOverHill$Tunes;", true)
  | 13 => ("OverHill", "games", "LOverHill$Game;", true)
  | 14 => ("OverHill", "night", "LOverHill$Night;", true)
  | _ => ("OverHill", "slots", "LOverHill$Slots;", true)
def tyX11 : Nat → FieldType := fun k => match k with
  | 0 => .object "OverHill$Reader"
  | 1 => .object "OverHill$Tape"
  | 2 => .object "OverHill$Dance"
  | 3 => .object "OverHill$Dance"
  | 4 => .array (.object "OverHill$Dance")
  | 5 => .array .int
  | 6 => .object "OverHill$Floor"
  | 7 => .object "OverHill$Floor"
  | 8 => .boolean
  | 9 => .object "OverHill$Rounds"
  | 10 => .object "OverHill$Guess"
  | 11 => .object "OverHill$Wood"
  | 12 => .object "OverHill$Tunes"
  | 13 => .object "OverHill$Game"
  | 14 => .object "OverHill$Night"
  | _ => .object "OverHill$Slots"
abbrev wsX110 : List Cond := u_ws RX11 TX11 16
theorem nmX11 : ∀ a, a < 16 → ∀ b, b < 16 → a ≠ b → (TX11 a).2.1 ≠ (TX11 b).2.1 := by decide +kernel
theorem tyX11_ok : ∀ k, k < 16 → parseFieldDescriptor (TX11 k).2.2.1 = some (tyX11 k) := by decide +kernel
abbrev cX11_step : ByteArray := prog_1_method_6_code
def yX11_step : MethodName := ⟨RX11, "step", "(II)I"⟩
abbrev cX11_isWithin : ByteArray := prog_1_method_69_code
def yX11_isWithin : MethodName := ⟨RX11, "isWithin", "(II)Z"⟩
abbrev cX11_isSide : ByteArray := prog_1_method_70_code
def yX11_isSide : MethodName := ⟨RX11, "isSide", "(I)Z"⟩
abbrev cX11_isStep : ByteArray := prog_1_method_71_code
def yX11_isStep : MethodName := ⟨RX11, "isStep", "(I)Z"⟩
abbrev cX11_isBeat : ByteArray := prog_1_method_72_code
def yX11_isBeat : MethodName := ⟨RX11, "isBeat", "(I)Z"⟩
def yX11_wrap : MethodName := ⟨RX11, "wrap", "(II)I"⟩
def yX11_commonMultiple : MethodName := ⟨RX11, "commonMultiple", "(JJ)J"⟩
def RX12 : String := "OverHillModel"
def TX12 : u_T := fun k => match k with
  | 0 => ("OverHillModel", "thrown", "I", false)
  | 1 => ("OverHillModel", "width", "[I", true)
  | 2 => ("OverHillModel", "many", "[I", true)
  | 3 => ("OverHillModel", "cells", "[J", true)
  | 4 => ("OverHillModel", "moved", "[J", true)
  | 5 => ("OverHillModel", "tape", "[B", true)
  | 6 => ("OverHillModel", "taped", "I", false)
  | 7 => ("OverHillModel", "at", "I", false)
  | 8 => ("OverHillModel", "token", "I", false)
  | 9 => ("OverHillModel", "place", "I", false)
  | 10 => ("OverHillModel", "value", "I", false)
  | 11 => ("OverHillModel", "word", "J", false)
  | 12 => ("OverHillModel", "bad", "I", false)
  | 13 => ("OverHillModel", "badPlace", "I", false)
  | 14 => ("OverHillModel", "fault", "I", false)
  | 15 => ("OverHillModel", "faultPlace", "I", false)
  | 16 => ("OverHillModel", "lines", "[I", true)
  | 17 => ("OverHillModel", "has", "[I", true)
  | 18 => ("OverHillModel", "round", "[I", true)
  | 19 => ("OverHillModel", "meets", "[I", true)
  | 20 => ("OverHillModel", "stumble", "[I", true)
  | 21 => ("OverHillModel", "isMud", "[Z", true)
  | 22 => ("OverHillModel", "cell", "[I", true)
  | 23 => ("OverHillModel", "tune", "[I", true)
  | 24 => ("OverHillModel", "change", "[I", true)
  | 25 => ("OverHillModel", "isKept", "[Z", true)
  | 26 => ("OverHillModel", "steps", "[I", true)
  | 27 => ("OverHillModel", "places", "[I", true)
  | 28 => ("OverHillModel", "danced", "[I", true)
  | 29 => ("OverHillModel", "runMost", "I", false)
  | 30 => ("OverHillModel", "runBegins", "I", false)
  | 31 => ("OverHillModel", "heardBy", "[I", true)
  | 32 => ("OverHillModel", "fitMany", "I", false)
  | 33 => ("OverHillModel", "fitFirst", "I", false)
  | 34 => ("OverHillModel", "fitBeats", "J", false)
  | 35 => ("OverHillModel", "listenLeaves", "I", false)
  | 36 => ("OverHillModel", "there", "[I", true)
  | 37 => ("OverHillModel", "metAt", "I", false)
  | 38 => ("OverHillModel", "metIn", "I", false)
  | 39 => ("OverHillModel", "wins", "[I", true)
  | 40 => ("OverHillModel", "nightHoles", "I", false)
  | 41 => ("OverHillModel", "nightFirst", "I", false)
  | 42 => ("OverHillModel", "nightMud", "I", false)
  | 43 => ("OverHillModel", "nightSlips", "I", false)
  | _ => ("OverHillModel", "drawnNow", "J", false)
def tyX12 : Nat → FieldType := fun k => match k with
  | 0 => .int
  | 1 => .array .int
  | 2 => .array .int
  | 3 => .array .long
  | 4 => .array .long
  | 5 => .array .byte
  | 6 => .int
  | 7 => .int
  | 8 => .int
  | 9 => .int
  | 10 => .int
  | 11 => .long
  | 12 => .int
  | 13 => .int
  | 14 => .int
  | 15 => .int
  | 16 => .array .int
  | 17 => .array .int
  | 18 => .array .int
  | 19 => .array .int
  | 20 => .array .int
  | 21 => .array .boolean
  | 22 => .array .int
  | 23 => .array .int
  | 24 => .array .int
  | 25 => .array .boolean
  | 26 => .array .int
  | 27 => .array .int
  | 28 => .array .int
  | 29 => .int
  | 30 => .int
  | 31 => .array .int
  | 32 => .int
  | 33 => .int
  | 34 => .long
  | 35 => .int
  | 36 => .array .int
  | 37 => .int
  | 38 => .int
  | 39 => .array .int
  | 40 => .int
  | 41 => .int
  | 42 => .int
  | 43 => .int
  | _ => .long
abbrev wsX120 : List Cond := u_ws RX12 TX12 45
theorem nmX12 : ∀ a, a < 45 → ∀ b, b < 45 → a ≠ b → (TX12 a).2.1 ≠ (TX12 b).2.1 := by decide +kernel
theorem tyX12_ok : ∀ k, k < 45 → parseFieldDescriptor (TX12 k).2.2.1 = some (tyX12 k) := by decide +kernel
def RL : String := "OverHillLaw"
def wsX0_stands : List Cond := .code yX0_stands cX0_stands 1 (some .boolean) :: ([.fieldLink RX0 49 "OverHill$Dance" "lines" "I"] ++ wsX00)
def wsX11_isWithin : List Cond := .code yX11_isWithin cX11_isWithin 2 (some .boolean) :: ([])
def wsX11_isSide : List Cond := .code yX11_isSide cX11_isSide 1 (some .boolean) :: ([.methodLink RX11 150 yX11_isWithin, .static yX11_isWithin, .initialized RX11, .code yX11_isWithin cX11_isWithin 2 (some .boolean)])
def wsX11_step : List Cond := .code yX11_step cX11_step 3 (some .int) :: ([.fieldLink RX11 24 "OverHill" "now" "LOverHill$Dance;", .methodLink RX11 125 yX0_stands, .instanceMethod yX0_stands, .selects RX0 yX0_stands yX0_stands, .initialized RX0, .code yX0_stands cX0_stands 1 (some .boolean), .fieldLink RX0 49 "OverHill$Dance" "lines" "I", .methodLink RX11 129 yX11_isSide, .static yX11_isSide, .initialized RX11, .code yX11_isSide cX11_isSide 1 (some .boolean), .methodLink RX11 150 yX11_isWithin, .static yX11_isWithin, .code yX11_isWithin cX11_isWithin 2 (some .boolean), .methodLink RX11 133 yX0_hasPlace, .instanceMethod yX0_hasPlace, .selects RX0 yX0_hasPlace yX0_hasPlace, .code yX0_hasPlace cX0_hasPlace 3 (some .boolean), .fieldLink RX0 15 "OverHill$Dance" "lengths" "[I", .methodLink RX11 137 yX0_stepAt, .instanceMethod yX0_stepAt, .selects RX0 yX0_stepAt yX0_stepAt, .code yX0_stepAt cX0_stepAt 3 (some .int), .fieldLink RX0 9 "OverHill$Dance" "steps" "[I"] ++ wsX110 ++ wsX00)
def wsX11_isStep : List Cond := .code yX11_isStep cX11_isStep 1 (some .boolean) :: ([.methodLink RX11 150 yX11_isWithin, .static yX11_isWithin, .initialized RX11, .code yX11_isWithin cX11_isWithin 2 (some .boolean)])
def wsX11_isBeat : List Cond := .code yX11_isBeat cX11_isBeat 1 (some .boolean) :: ([.methodLink RX11 150 yX11_isWithin, .static yX11_isWithin, .initialized RX11, .code yX11_isWithin cX11_isWithin 2 (some .boolean)])
theorem dX0_stands_0 : decode cX0_stands 0 = .ok (.aload_n 0, 1) := by decide +kernel
theorem dX0_stands_1 : decode cX0_stands 1 = .ok (.getfield 49, 3) := by decide +kernel
theorem dX0_stands_4 : decode cX0_stands 4 = .ok (.ifCond .le 7, 3) := by decide +kernel
theorem dX0_stands_11 : decode cX0_stands 11 = .ok (.iconst 0, 1) := by decide +kernel
theorem dX0_stands_12 : decode cX0_stands 12 = .ok (.ireturn, 1) := by decide +kernel
set_option maxRecDepth 20000 in
theorem ggX11_step_X0_stands : GoodIn wsX11_step wsX0_stands := goodIn_r _ [6, 7, 41, 42, 43, 44, 45, 46, 47, 48, 49, 50, 51, 52, 53, 54, 55, 56, 57] (by decide +kernel) (by decide +kernel)
set_option maxRecDepth 20000 in
theorem gX11_step_X0_stands : GoodIn wsX11_step (wsV RX11 125 RX0 yX0_stands wsX0_stands) := goodIn_app (goodIn_of _ (by decide +kernel)) ggX11_step_X0_stands
theorem dX11_step_0 : decode cX11_step 0 = .ok (.aload_n 0, 1) := by decide +kernel
theorem dX11_step_1 : decode cX11_step 1 = .ok (.getfield 24, 3) := by decide +kernel
theorem dX11_step_4 : decode cX11_step 4 = .ok (.invokevirtual 125, 3) := by decide +kernel
theorem dX11_step_7 : decode cX11_step 7 = .ok (.ifCond .eq 10, 3) := by decide +kernel
theorem dX11_step_17 : decode cX11_step 17 = .ok (.bipush (-2), 2) := by decide +kernel
theorem dX11_step_19 : decode cX11_step 19 = .ok (.ireturn, 1) := by decide +kernel
theorem dX11_isWithin_0 : decode cX11_isWithin 0 = .ok (.iload_n 0, 1) := by decide +kernel
theorem dX11_isWithin_1 : decode cX11_isWithin 1 = .ok (.ifCond .lt 12, 3) := by decide +kernel
theorem dX11_isWithin_4 : decode cX11_isWithin 4 = .ok (.iload_n 0, 1) := by decide +kernel
theorem dX11_isWithin_5 : decode cX11_isWithin 5 = .ok (.iload_n 1, 1) := by decide +kernel
theorem dX11_isWithin_6 : decode cX11_isWithin 6 = .ok (.if_icmp .ge 7, 3) := by decide +kernel
theorem dX11_isWithin_9 : decode cX11_isWithin 9 = .ok (.iconst 1, 1) := by decide +kernel
theorem dX11_isWithin_10 : decode cX11_isWithin 10 = .ok (.goto 4, 3) := by decide +kernel
theorem dX11_isWithin_13 : decode cX11_isWithin 13 = .ok (.iconst 0, 1) := by decide +kernel
theorem dX11_isWithin_14 : decode cX11_isWithin 14 = .ok (.ireturn, 1) := by decide +kernel
set_option maxRecDepth 20000 in
theorem ggX11_isSide_X11_isWithin : GoodIn wsX11_isSide wsX11_isWithin := goodIn_r _ [4] (by decide +kernel) (by decide +kernel)
set_option maxRecDepth 20000 in
theorem gX11_isSide_X11_isWithin : GoodIn wsX11_isSide (va_wsS RX11 150 yX11_isWithin wsX11_isWithin) := goodIn_app (goodIn_of _ (by decide +kernel)) ggX11_isSide_X11_isWithin
theorem dX11_isSide_0 : decode cX11_isSide 0 = .ok (.iload_n 0, 1) := by decide +kernel
theorem dX11_isSide_1 : decode cX11_isSide 1 = .ok (.iconst 2, 1) := by decide +kernel
theorem dX11_isSide_2 : decode cX11_isSide 2 = .ok (.invokestatic 150, 3) := by decide +kernel
theorem dX11_isSide_5 : decode cX11_isSide 5 = .ok (.ireturn, 1) := by decide +kernel
set_option maxRecDepth 20000 in
theorem ggX11_isStep_X11_isWithin : GoodIn wsX11_isStep wsX11_isWithin := goodIn_r _ [4] (by decide +kernel) (by decide +kernel)
set_option maxRecDepth 20000 in
theorem gX11_isStep_X11_isWithin : GoodIn wsX11_isStep (va_wsS RX11 150 yX11_isWithin wsX11_isWithin) := goodIn_app (goodIn_of _ (by decide +kernel)) ggX11_isStep_X11_isWithin
theorem dX11_isStep_0 : decode cX11_isStep 0 = .ok (.iload_n 0, 1) := by decide +kernel
theorem dX11_isStep_1 : decode cX11_isStep 1 = .ok (.bipush 6, 2) := by decide +kernel
theorem dX11_isStep_3 : decode cX11_isStep 3 = .ok (.invokestatic 150, 3) := by decide +kernel
theorem dX11_isStep_6 : decode cX11_isStep 6 = .ok (.ireturn, 1) := by decide +kernel
set_option maxRecDepth 20000 in
theorem ggX11_isBeat_X11_isWithin : GoodIn wsX11_isBeat wsX11_isWithin := goodIn_r _ [4] (by decide +kernel) (by decide +kernel)
set_option maxRecDepth 20000 in
theorem gX11_isBeat_X11_isWithin : GoodIn wsX11_isBeat (va_wsS RX11 150 yX11_isWithin wsX11_isWithin) := goodIn_app (goodIn_of _ (by decide +kernel)) ggX11_isBeat_X11_isWithin
theorem dX11_isBeat_0 : decode cX11_isBeat 0 = .ok (.iload_n 0, 1) := by decide +kernel
theorem dX11_isBeat_1 : decode cX11_isBeat 1 = .ok (.sipush 200, 3) := by decide +kernel
theorem dX11_isBeat_4 : decode cX11_isBeat 4 = .ok (.invokestatic 150, 3) := by decide +kernel
theorem dX11_isBeat_7 : decode cX11_isBeat 7 = .ok (.ireturn, 1) := by decide +kernel
abbrev vwCl : List vw_C := [(RX0, TX0, 17), (RX1, TX1, 6), (RX2, TX2, 1), (RX3, TX3, 12), (RX4, TX4, 7), (RX5, TX5, 4), (RX6, TX6, 1), (RX7, TX7, 3), (RX8, TX8, 6), (RX9, TX9, 2), (RX10, TX10, 3), (RX11, TX11, 16), (RX12, TX12, 45)]
end
section
abbrev ct_nl : List (String × Nat × MethodName × String) := [(RX11, 9, yX5_init, "OverHill"), (RX5, 11, yX8_init, "OverHill"), (RX11, 23, yX0_init, "OverHill"), (RX11, 41, yX1_init, "OverHill"), (RX11, 55, yX6_init, "OverHill"), (RX11, 62, yX3_init, "OverHill"), (RX11, 69, yX10_init, "OverHill"), (RX11, 76, yX9_init, "OverHill"), (RX11, 83, yX2_init, "OverHill"), (RX11, 90, yX4_init, "OverHill"), (RX11, 97, yX7_init, "OverHill"), (RX0, 76, yX11_isWithin, "OverHill"), (RX1, 61, yX11_wrap, "OverHill"), (RX6, 20, yX11_commonMultiple, "OverHill"), (RX6, 78, yX11_wrap, "OverHill"), (RX7, 22, yX11_isWithin, "OverHill"), (RX3, 71, yX11_wrap, "OverHill"), (RX10, 24, yX11_wrap, "OverHill"), (RX7, 66, yX11_wrap, "OverHill"), (RX9, 34, yX11_commonMultiple, "OverHill"), (RX4, 66, yX11_wrap, "OverHill")]
/-! what every contract of this claim stands on: the environment (tables, nest mates), a start, an end, a call -/
abbrev ct_T (cI cJ cB cZ cO : ClassId) : List (ClassId × FieldType) := [(cI, .int), (cJ, .long), (cB, .byte), (cZ, .boolean), (cO, .object RX0)]
def ct_E (D : va_G) (T : List (ClassId × FieldType)) (U : State) : Prop := va_K D vwCl T U ∧ (∀ q ∈ ct_nl, va_Nw (.methodLinkNest q.1 q.2.1 q.2.2.1 q.2.2.2) U) ∧ va_AO RX0 U
theorem ct_E.warm {D : va_G} {T : List (ClassId × FieldType)} {s U : State} (h : ct_E D T s) (hW : s.WarmedH U.vm) : ct_E D T U :=
  ⟨va_K.moved hW.alike h.1, fun q hq => va_Nw.warmM hW (h.2.1 q hq), va_AO.moved hW.alike h.2.2⟩
theorem ct_E.call {D : va_G} {T : List (ClassId × FieldType)} {U : State} {g : JFrame} {mk : MethodId} {a : Array Value} (h : ct_E D T U) : ct_E D T (U.calling g mk a) :=
  ⟨va_K.moved (u := U) (U := U.calling g mk a) (Vm.Alike.refl U.vm) h.1, fun q hq => va_Nw.same (u := U) (U := U.calling g mk a) rfl rfl (h.2.1 q hq), va_AO.moved (u := U) (U := U.calling g mk a) (Vm.Alike.refl U.vm) h.2.2⟩
def ct_P (D : va_G) (T : List (ClassId × FieldType)) (w : va_W) (sz : Nat) (U : State) : Prop := U.heap.size = sz ∧ va_P D vwCl w U.heap ∧ ct_E D T U ∧ va_D (fun _ => True) w
abbrev ct_Q (D : va_G) (A : Nat → Prop) (w : va_W) (t : State) : Prop := va_P D vwCl w t.heap ∧ va_D A w
theorem ct_blind {D : va_G} {T : List (ClassId × FieldType)} {w : va_W} {sz : Nat} {av : List Value} : FrameBlind (va_Pc av (ct_P D T w sz)) := fun a U g mk q => by
  obtain ⟨q0, q1, qP, qE, qD⟩ := q
  exact ⟨q0, q1, qP, qE.call, qD⟩
theorem ct_sub {ws wc : va_W} {is : List Nat} (hC : is.map (fun i => ws[i]?) = wc.map some) : ∀ (k : Nat) (q : Nat × va_E), wc[k]? = some q → ∃ i, is[k]? = some i ∧ ws[i]? = some q := by
  intro k q hq
  have h1 : (is.map (fun i => ws[i]?))[k]? = some (some q) := by rw [hC, List.getElem?_map, hq]; rfl
  rw [List.getElem?_map] at h1
  cases hi : is[k]? with
  | none => rw [hi] at h1; cases h1
  | some i => rw [hi] at h1; exact ⟨i, rfl, Option.some.inj h1⟩
theorem ct_pP {D : va_G} {cl : List vw_C} {ws wc : va_W} {H : Heap} {is : List Nat} (hP : va_P D cl ws H) (hC : is.map (fun i => ws[i]?) = wc.map some) : va_P D cl wc H := fun k q hq => by
  obtain ⟨i, -, h⟩ := ct_sub hC k q hq
  exact hP i q h
theorem ct_pD {A : Nat → Prop} {ws wc : va_W} {is : List Nat} (hD : va_D A ws) (hn : va_nd is = true) (hC : is.map (fun i => ws[i]?) = wc.map some) : va_D (fun _ => True) wc := (hD.sub is hn hC).weaken (fun _ _ _ _ => trivial)
theorem ct_preS {D : va_G} {T : List (ClassId × FieldType)} {s : State} {H : Heap} {A : Nat → Prop} {ws wc : va_W} {As : List Value} (hE : ct_E D T s) (hP : va_P D vwCl ws H) (hD : va_D A ws) (is : List Nat) (hn : va_nd is = true) (hC : is.map (fun i => ws[i]?) = wc.map some) : PreS s H (va_Pc As (ct_P D T wc H.size)) As :=
  ⟨ct_blind, fun U hU hW => ⟨rfl, by rw [hU], by rw [hU]; exact ct_pP hP hC, hE.warm hW, ct_pD hD hn hC⟩⟩
theorem ct_preV {D : va_G} {T : List (ClassId × FieldType)} {s : State} {H : Heap} {A : Nat → Prop} {ws wc : va_W} {As : List Value} {b q0 ci : Nat} {q : vw_C} {fs : List Value} (hE : ct_E D T s) (hP : va_P D vwCl ws H) (hD : va_D A ws) (is : List Nat) (hn : va_nd is = true) (hC : is.map (fun i => ws[i]?) = wc.map some) (hc : vwCl[ci]? = some q) (he : ws[q0]? = some (b, .inr (ci, fs))) : PreV s H q.1 b (va_Pc (.ref b :: As) (ct_P D T wc H.size)) As :=
  ⟨ct_blind, va_recv hE.1 hP hc he, fun U hU hW => ⟨rfl, by rw [hU], by rw [hU]; exact ct_pP hP hC, hE.warm hW, ct_pD hD hn hC⟩⟩
section CTC
variable {p : Program} {l : Launch} {e : Env} {R : Room} {s : State} {m : MethodId} {args : Array Value} {below : List Frame} {meth : Method} {c : Code} {H : Heap} {locs : List Loc} {cells slots : Nat} {Q : State → Prop}
variable {pc : Nat} {ls : Array Slot} {rest st0 : List Value} {a : Array Value} {A0 : Nat → Prop} {mc ms : Nat} {D : va_G} {ws wc wr : va_W}
theorem ct_calli {S : Type} {post : Int32 → S → Prop} {w1 : S → va_W} (hr : va_Run p l e R s m args below meth c H locs cells slots mc ms (F0 m pc ls st0) rest (va_Qi post (fun u t => ct_Q D (va_A wc H.size) (w1 u) t) (va_A wc H.size) a) (va_A wc H.size)) (hP : va_P D vwCl ws H) (hD : va_D A0 ws) (hS : va_S A0 s.heap H locs) (hA : ∀ q, s.heap.size ≤ q → A0 q)
    (isC isR : List Nat) (hC : isC.map (fun i => ws[i]?) = wc.map some) (hR : isR.map (fun i => ws[i]?) = wr.map some) (hn : va_nd isR = true) (hdis : ∀ i ∈ isR, i ∉ isC)
    (kk : ∀ (r : Int32) (u : S) (H1 : Heap) (locs1 : List Loc), post r u → va_P D vwCl (wr ++ w1 u) H1 → va_D A0 (wr ++ w1 u) → va_S A0 s.heap H1 locs1 → W p l e R s m args below meth c H1 locs1 (cells + mc) (slots + ms) Q (F0 m (pc + 3) ls (.int r :: rest))) : W p l e R s m args below meth c H locs cells slots Q (F0 m pc ls st0) := by
  have hFc := va_free (wc := wc) hD hS hA isC hC
  refine va_calli hr hS (fun q _ h => hFc q h) hFc (fun r u t H1 locs1 ht hvm hw hB hz1 hk1 hS1 => ?_)
  obtain ⟨hP1, hD1⟩ := hB
  rw [ht] at hP1
  obtain ⟨hP2, hD2⟩ := va_join hP hD isC isR hC hR hn hdis hk1 hFc hP1 hD1
  exact kk r u H1 locs1 hw hP2 hD2 hS1
theorem ct_calll {S : Type} {post : Int64 → S → Prop} {w1 : S → va_W} (hr : va_Run p l e R s m args below meth c H locs cells slots mc ms (F0 m pc ls st0) rest (va_Ql post (fun u t => ct_Q D (va_A wc H.size) (w1 u) t) (va_A wc H.size) a) (va_A wc H.size)) (hP : va_P D vwCl ws H) (hD : va_D A0 ws) (hS : va_S A0 s.heap H locs) (hA : ∀ q, s.heap.size ≤ q → A0 q)
    (isC isR : List Nat) (hC : isC.map (fun i => ws[i]?) = wc.map some) (hR : isR.map (fun i => ws[i]?) = wr.map some) (hn : va_nd isR = true) (hdis : ∀ i ∈ isR, i ∉ isC)
    (kk : ∀ (r : Int64) (u : S) (H1 : Heap) (locs1 : List Loc), post r u → va_P D vwCl (wr ++ w1 u) H1 → va_D A0 (wr ++ w1 u) → va_S A0 s.heap H1 locs1 → W p l e R s m args below meth c H1 locs1 (cells + mc) (slots + ms) Q (F0 m (pc + 3) ls (.long r :: rest))) : W p l e R s m args below meth c H locs cells slots Q (F0 m pc ls st0) := by
  have hFc := va_free (wc := wc) hD hS hA isC hC
  refine va_calll hr hS (fun q _ h => hFc q h) hFc (fun r u t H1 locs1 ht hvm hw hB hz1 hk1 hS1 => ?_)
  obtain ⟨hP1, hD1⟩ := hB
  rw [ht] at hP1
  obtain ⟨hP2, hD2⟩ := va_join hP hD isC isR hC hR hn hdis hk1 hFc hP1 hD1
  exact kk r u H1 locs1 hw hP2 hD2 hS1
theorem ct_callv {S : Type} {post : S → Prop} {w1 : S → va_W} (hr : va_Run p l e R s m args below meth c H locs cells slots mc ms (F0 m pc ls st0) rest (va_Qv post (fun u t => ct_Q D (va_A wc H.size) (w1 u) t) (va_A wc H.size) a) (va_A wc H.size)) (hP : va_P D vwCl ws H) (hD : va_D A0 ws) (hS : va_S A0 s.heap H locs) (hA : ∀ q, s.heap.size ≤ q → A0 q)
    (isC isR : List Nat) (hC : isC.map (fun i => ws[i]?) = wc.map some) (hR : isR.map (fun i => ws[i]?) = wr.map some) (hn : va_nd isR = true) (hdis : ∀ i ∈ isR, i ∉ isC)
    (kk : ∀ (u : S) (H1 : Heap) (locs1 : List Loc), post u → va_P D vwCl (wr ++ w1 u) H1 → va_D A0 (wr ++ w1 u) → va_S A0 s.heap H1 locs1 → W p l e R s m args below meth c H1 locs1 (cells + mc) (slots + ms) Q (F0 m (pc + 3) ls rest)) : W p l e R s m args below meth c H locs cells slots Q (F0 m pc ls st0) := by
  have hFc := va_free (wc := wc) hD hS hA isC hC
  refine va_callv hr hS (fun q _ h => hFc q h) hFc (fun u t H1 locs1 ht hvm hw hB hz1 hk1 hS1 => ?_)
  obtain ⟨hP1, hD1⟩ := hB
  rw [ht] at hP1
  obtain ⟨hP2, hD2⟩ := va_join hP hD isC isR hC hR hn hdis hk1 hFc hP1 hD1
  exact kk u H1 locs1 hw hP2 hD2 hS1
end CTC
/-- one class of arrays of a kind -/
theorem ct_one {s : State} {D : va_G} {cl : List vw_C} {T T' : List (ClassId × FieldType)} {ty : FieldType} {cA cB : ClassId} (h : va_K D cl T s) (h' : va_K D cl T' s) (i j : Nat) (hi : T[i]? = some (cA, ty)) (hj : T'[j]? = some (cB, ty)) (ht : refKind ty = false) : cB = cA := by
  have h1 := (h.2 i _ hi).2
  have h2 := (h'.2 j _ hj).2
  cases ty <;> simp [refKind] at ht <;> exact Option.some.inj (h2.symm.trans h1)
section CTN
variable {p : Program} {l : Launch} {e : Env} {R : Room} {s : State} {m : MethodId} {args : Array Value} {below : List Frame} {meth : Method} {c : Code} {H : Heap} {locs : List Loc} {cells slots : Nat} {Q : State → Prop}
variable {cc : ByteArray} {pc : Nat} {ls : Array Slot} {rest : List Value} {D : va_G} {cl : List vw_C} {A : Nat → Prop} {T : List (ClassId × FieldType)} {ws : va_W} {H0 : Heap}
theorem ct_newi (hx : p.tables.exec = Jvm.exec) (hb : c.code = cc) (harr : (Cond.arrayClass .int).before args s = true) {cI : ClassId} (hT : T[0]? = some (cI, .int)) (hK : va_K D cl T s) (hP : va_P D cl ws H) (hD : va_D A ws) (hS : va_S A H0 H locs) (hA : ∀ q, H0.size ≤ q → A q) {n : Int32} (N' : Nat) (hn : ¬ n < 0) (hN : n.toNatClampNeg = N') (hby : N' * 4 ≤ 536870912) (hcells : cells + 1 ≤ R.cells) (hslots : slots + N' ≤ R.slots) (hdg : decode cc pc = .ok (.newarray .int, 2))
    (kk : ∀ (q : Nat) (H1 : Heap), va_P D cl (ws ++ [(q, .inl (cI, N', .inl (fun _ => 0)))]) H1 → va_D A (ws ++ [(q, .inl (cI, N', .inl (fun _ => 0)))]) → va_S A H0 H1 locs → W p l e R s m args below meth c H1 locs (cells + 1) (slots + N') Q (F0 m (pc + 2) ls (.ref q :: rest))) : W p l e R s m args below meth c H locs cells slots Q (F0 m pc ls (.int n :: rest)) := by
  refine va_newa (atype := .int) (ty := .int) (a0 := (N', .inl (fun _ => 0))) hx hb harr rfl hK hP hD hS hA (fun _ => rfl) hn hN hby hcells hslots hdg (fun q cA H1 hK1 hP1 hD1 hS1 => ?_)
  have ec : cA = cI := ct_one hK hK1 0 T.length hT (by simp) rfl
  subst ec
  exact kk q H1 hP1 hD1 hS1
theorem ct_newl (hx : p.tables.exec = Jvm.exec) (hb : c.code = cc) (harr : (Cond.arrayClass .long).before args s = true) {cI : ClassId} (hT : T[1]? = some (cI, .long)) (hK : va_K D cl T s) (hP : va_P D cl ws H) (hD : va_D A ws) (hS : va_S A H0 H locs) (hA : ∀ q, H0.size ≤ q → A q) {n : Int32} (N' : Nat) (hn : ¬ n < 0) (hN : n.toNatClampNeg = N') (hby : N' * 8 ≤ 536870912) (hcells : cells + 1 ≤ R.cells) (hslots : slots + N' ≤ R.slots) (hdg : decode cc pc = .ok (.newarray .long, 2))
    (kk : ∀ (q : Nat) (H1 : Heap), va_P D cl (ws ++ [(q, .inl (cI, N', .inr (.inl (fun _ => 0))))]) H1 → va_D A (ws ++ [(q, .inl (cI, N', .inr (.inl (fun _ => 0))))]) → va_S A H0 H1 locs → W p l e R s m args below meth c H1 locs (cells + 1) (slots + N') Q (F0 m (pc + 2) ls (.ref q :: rest))) : W p l e R s m args below meth c H locs cells slots Q (F0 m pc ls (.int n :: rest)) := by
  refine va_newa (atype := .long) (ty := .long) (a0 := (N', .inr (.inl (fun _ => 0)))) hx hb harr rfl hK hP hD hS hA (fun _ => rfl) hn hN hby hcells hslots hdg (fun q cA H1 hK1 hP1 hD1 hS1 => ?_)
  have ec : cA = cI := ct_one hK hK1 1 T.length hT (by simp) rfl
  subst ec
  exact kk q H1 hP1 hD1 hS1
theorem ct_newb (hx : p.tables.exec = Jvm.exec) (hb : c.code = cc) (harr : (Cond.arrayClass .byte).before args s = true) {cI : ClassId} (hT : T[2]? = some (cI, .byte)) (hK : va_K D cl T s) (hP : va_P D cl ws H) (hD : va_D A ws) (hS : va_S A H0 H locs) (hA : ∀ q, H0.size ≤ q → A q) {n : Int32} (N' : Nat) (hn : ¬ n < 0) (hN : n.toNatClampNeg = N') (hby : N' * 1 ≤ 536870912) (hcells : cells + 1 ≤ R.cells) (hslots : slots + N' ≤ R.slots) (hdg : decode cc pc = .ok (.newarray .byte, 2))
    (kk : ∀ (q : Nat) (H1 : Heap), va_P D cl (ws ++ [(q, .inl (cI, N', .inl (fun _ => 0)))]) H1 → va_D A (ws ++ [(q, .inl (cI, N', .inl (fun _ => 0)))]) → va_S A H0 H1 locs → W p l e R s m args below meth c H1 locs (cells + 1) (slots + N') Q (F0 m (pc + 2) ls (.ref q :: rest))) : W p l e R s m args below meth c H locs cells slots Q (F0 m pc ls (.int n :: rest)) := by
  refine va_newa (atype := .byte) (ty := .byte) (a0 := (N', .inl (fun _ => 0))) hx hb harr rfl hK hP hD hS hA (fun _ => rfl) hn hN hby hcells hslots hdg (fun q cA H1 hK1 hP1 hD1 hS1 => ?_)
  have ec : cA = cI := ct_one hK hK1 2 T.length hT (by simp) rfl
  subst ec
  exact kk q H1 hP1 hD1 hS1
theorem ct_newz (hx : p.tables.exec = Jvm.exec) (hb : c.code = cc) (harr : (Cond.arrayClass .boolean).before args s = true) {cI : ClassId} (hT : T[3]? = some (cI, .boolean)) (hK : va_K D cl T s) (hP : va_P D cl ws H) (hD : va_D A ws) (hS : va_S A H0 H locs) (hA : ∀ q, H0.size ≤ q → A q) {n : Int32} (N' : Nat) (hn : ¬ n < 0) (hN : n.toNatClampNeg = N') (hby : N' * 1 ≤ 536870912) (hcells : cells + 1 ≤ R.cells) (hslots : slots + N' ≤ R.slots) (hdg : decode cc pc = .ok (.newarray .boolean, 2))
    (kk : ∀ (q : Nat) (H1 : Heap), va_P D cl (ws ++ [(q, .inl (cI, N', .inl (fun _ => 0)))]) H1 → va_D A (ws ++ [(q, .inl (cI, N', .inl (fun _ => 0)))]) → va_S A H0 H1 locs → W p l e R s m args below meth c H1 locs (cells + 1) (slots + N') Q (F0 m (pc + 2) ls (.ref q :: rest))) : W p l e R s m args below meth c H locs cells slots Q (F0 m pc ls (.int n :: rest)) := by
  refine va_newa (atype := .boolean) (ty := .boolean) (a0 := (N', .inl (fun _ => 0))) hx hb harr rfl hK hP hD hS hA (fun _ => rfl) hn hN hby hcells hslots hdg (fun q cA H1 hK1 hP1 hD1 hS1 => ?_)
  have ec : cA = cI := ct_one hK hK1 3 T.length hT (by simp) rfl
  subst ec
  exact kk q H1 hP1 hD1 hS1
end CTN
/-! numbers: a comparison of the machine's, of its values -/
theorem tq_lt {x y : Int32} {a b : Int} (hx : x.toInt = a) (hy : y.toInt = b) (h : x < y) : a < b := by rw [← hx, ← hy]; exact Int32.lt_iff_toInt_lt.mp h
theorem tq_le {x y : Int32} {a b : Int} (hx : x.toInt = a) (hy : y.toInt = b) (h : x ≤ y) : a ≤ b := by rw [← hx, ← hy]; exact Int32.le_iff_toInt_le.mp h
theorem tq_nlt {x y : Int32} {a b : Int} (hx : x.toInt = a) (hy : y.toInt = b) (h : ¬ x < y) : b ≤ a := by rw [← hx, ← hy]; exact Int.not_lt.mp (fun q => h (Int32.lt_iff_toInt_lt.mpr q))
theorem tq_nle {x y : Int32} {a b : Int} (hx : x.toInt = a) (hy : y.toInt = b) (h : ¬ x ≤ y) : b < a := by rw [← hx, ← hy]; exact Int.not_le.mp (fun q => h (Int32.le_iff_toInt_le.mpr q))
theorem tq_eq {x y : Int32} {a b : Int} (hx : x.toInt = a) (hy : y.toInt = b) (h : x = y) : a = b := by rw [← hx, ← hy, h]
theorem tq_ne {x y : Int32} {a b : Int} (hx : x.toInt = a) (hy : y.toInt = b) (h : ¬ x = y) : a ≠ b := by rw [← hx, ← hy]; exact fun q => h (Int32.toInt_inj.mp q)
theorem tq_of {x y : Int32} {a : Int} (hx : x.toInt = a) (hy : y.toInt = a) : x = y := Int32.toInt_inj.mp (hx.trans hy.symm)
theorem tl_lt {x y : Int64} {a b : Int} (hx : x.toInt = a) (hy : y.toInt = b) (h : x < y) : a < b := by rw [← hx, ← hy]; exact Int64.lt_iff_toInt_lt.mp h
theorem tl_nlt {x y : Int64} {a b : Int} (hx : x.toInt = a) (hy : y.toInt = b) (h : ¬ x < y) : b ≤ a := by rw [← hx, ← hy]; exact Int.not_lt.mp (fun q => h (Int64.lt_iff_toInt_lt.mpr q))
theorem tl_i {x : Int32} {a : Int} (hx : x.toInt = a) : x.toInt64.toInt = a := by rw [Int32.toInt_toInt64]; exact hx
theorem ct_start {p : Program} {l : Launch} {e : Env} {R : Room} {s : State} {m : MethodId} {args : Array Value} {below : List Frame} {meth : Method} {c : Code} {H : Heap} {locs : List Loc} {cells slots : Nat} {Q : State → Prop} {g : JFrame} (h : H = s.heap) (k : W p l e R s m args below meth c H locs cells slots Q g) : W p l e R s m args below meth c s.heap locs cells slots Q g := h ▸ k
theorem ct_oneq {s : State} {D : va_G} {cl : List vw_C} {T T' : List (ClassId × FieldType)} {C : String} {cA cB : ClassId} (h : va_K D cl T s) (h' : va_K D cl T' s) (i j : Nat) (hi : T[i]? = some (cA, .object C)) (hj : T'[j]? = some (cB, .object C)) : cB = cA := by
  obtain ⟨_, _, _, _, _, h1⟩ := (h.2 i _ hi).2
  obtain ⟨_, _, _, _, _, h2⟩ := (h'.2 j _ hj).2
  exact Option.some.inj (h2.symm.trans h1)

theorem ct_df0 : ∀ j, j < 17 → defaultValue (tyX0 j) = vp_V [.int 0, .int 0, .int 0, .int 0, .null, .null, .null, .null, .null, .int 0, .null, .null, .int 0, .null, .int 0, .null, .int 0] j := fun j hj => match j, hj with
  | 0, _ => rfl
  | 1, _ => rfl
  | 2, _ => rfl
  | 3, _ => rfl
  | 4, _ => rfl
  | 5, _ => rfl
  | 6, _ => rfl
  | 7, _ => rfl
  | 8, _ => rfl
  | 9, _ => rfl
  | 10, _ => rfl
  | 11, _ => rfl
  | 12, _ => rfl
  | 13, _ => rfl
  | 14, _ => rfl
  | 15, _ => rfl
  | 16, _ => rfl
  | q + 17, hq => absurd hq (by omega)
theorem ct_df1 : ∀ j, j < 6 → defaultValue (tyX1 j) = vp_V [.null, .null, .null, .int 0, .int 0, .int 0] j := fun j hj => match j, hj with
  | 0, _ => rfl
  | 1, _ => rfl
  | 2, _ => rfl
  | 3, _ => rfl
  | 4, _ => rfl
  | 5, _ => rfl
  | q + 6, hq => absurd hq (by omega)
theorem ct_df2 : ∀ j, j < 1 → defaultValue (tyX2 j) = vp_V [.null] j := fun j hj => match j, hj with
  | 0, _ => rfl
  | q + 1, hq => absurd hq (by omega)
theorem ct_df3 : ∀ j, j < 12 → defaultValue (tyX3 j) = vp_V [.int 0, .int 0, .null, .int 0, .int 0, .null, .null, .null, .null, .null, .int 0, .int 0] j := fun j hj => match j, hj with
  | 0, _ => rfl
  | 1, _ => rfl
  | 2, _ => rfl
  | 3, _ => rfl
  | 4, _ => rfl
  | 5, _ => rfl
  | 6, _ => rfl
  | 7, _ => rfl
  | 8, _ => rfl
  | 9, _ => rfl
  | 10, _ => rfl
  | 11, _ => rfl
  | q + 12, hq => absurd hq (by omega)
theorem ct_df4 : ∀ j, j < 7 → defaultValue (tyX4 j) = vp_V [.null, .null, .long 0, .int 0, .int 0, .int 0, .int 0] j := fun j hj => match j, hj with
  | 0, _ => rfl
  | 1, _ => rfl
  | 2, _ => rfl
  | 3, _ => rfl
  | 4, _ => rfl
  | 5, _ => rfl
  | 6, _ => rfl
  | q + 7, hq => absurd hq (by omega)
theorem ct_df5 : ∀ j, j < 4 → defaultValue (tyX5 j) = vp_V [.null, .int 0, .int 0, .int 0] j := fun j hj => match j, hj with
  | 0, _ => rfl
  | 1, _ => rfl
  | 2, _ => rfl
  | 3, _ => rfl
  | q + 4, hq => absurd hq (by omega)
theorem ct_df6 : ∀ j, j < 1 → defaultValue (tyX6 j) = vp_V [.null] j := fun j hj => match j, hj with
  | 0, _ => rfl
  | q + 1, hq => absurd hq (by omega)
theorem ct_df7 : ∀ j, j < 3 → defaultValue (tyX7 j) = vp_V [.null, .null, .null] j := fun j hj => match j, hj with
  | 0, _ => rfl
  | 1, _ => rfl
  | 2, _ => rfl
  | q + 3, hq => absurd hq (by omega)
theorem ct_df8 : ∀ j, j < 6 → defaultValue (tyX8 j) = vp_V [.null, .int 0, .int 0, .int 0, .int 0, .int 0] j := fun j hj => match j, hj with
  | 0, _ => rfl
  | 1, _ => rfl
  | 2, _ => rfl
  | 3, _ => rfl
  | 4, _ => rfl
  | 5, _ => rfl
  | q + 6, hq => absurd hq (by omega)
theorem ct_df9 : ∀ j, j < 2 → defaultValue (tyX9 j) = vp_V [.long 0, .long 0] j := fun j hj => match j, hj with
  | 0, _ => rfl
  | 1, _ => rfl
  | q + 2, hq => absurd hq (by omega)
theorem ct_df10 : ∀ j, j < 3 → defaultValue (tyX10 j) = vp_V [.null, .int 0, .int 0] j := fun j hj => match j, hj with
  | 0, _ => rfl
  | 1, _ => rfl
  | 2, _ => rfl
  | q + 3, hq => absurd hq (by omega)
theorem ct_df11 : ∀ j, j < 16 → defaultValue (tyX11 j) = vp_V [.null, .null, .null, .null, .null, .null, .null, .null, .int 0, .null, .null, .null, .null, .null, .null, .null] j := fun j hj => match j, hj with
  | 0, _ => rfl
  | 1, _ => rfl
  | 2, _ => rfl
  | 3, _ => rfl
  | 4, _ => rfl
  | 5, _ => rfl
  | 6, _ => rfl
  | 7, _ => rfl
  | 8, _ => rfl
  | 9, _ => rfl
  | 10, _ => rfl
  | 11, _ => rfl
  | 12, _ => rfl
  | 13, _ => rfl
  | 14, _ => rfl
  | 15, _ => rfl
  | q + 16, hq => absurd hq (by omega)
theorem ct_df12 : ∀ j, j < 45 → defaultValue (tyX12 j) = vp_V [.int 0, .null, .null, .null, .null, .null, .int 0, .int 0, .int 0, .int 0, .int 0, .long 0, .int 0, .int 0, .int 0, .int 0, .null, .null, .null, .null, .null, .null, .null, .null, .null, .null, .null, .null, .null, .int 0, .int 0, .null, .int 0, .int 0, .long 0, .int 0, .null, .int 0, .int 0, .null, .int 0, .int 0, .int 0, .int 0, .long 0] j := fun j hj => match j, hj with
  | 0, _ => rfl
  | 1, _ => rfl
  | 2, _ => rfl
  | 3, _ => rfl
  | 4, _ => rfl
  | 5, _ => rfl
  | 6, _ => rfl
  | 7, _ => rfl
  | 8, _ => rfl
  | 9, _ => rfl
  | 10, _ => rfl
  | 11, _ => rfl
  | 12, _ => rfl
  | 13, _ => rfl
  | 14, _ => rfl
  | 15, _ => rfl
  | 16, _ => rfl
  | 17, _ => rfl
  | 18, _ => rfl
  | 19, _ => rfl
  | 20, _ => rfl
  | 21, _ => rfl
  | 22, _ => rfl
  | 23, _ => rfl
  | 24, _ => rfl
  | 25, _ => rfl
  | 26, _ => rfl
  | 27, _ => rfl
  | 28, _ => rfl
  | 29, _ => rfl
  | 30, _ => rfl
  | 31, _ => rfl
  | 32, _ => rfl
  | 33, _ => rfl
  | 34, _ => rfl
  | 35, _ => rfl
  | 36, _ => rfl
  | 37, _ => rfl
  | 38, _ => rfl
  | 39, _ => rfl
  | 40, _ => rfl
  | 41, _ => rfl
  | 42, _ => rfl
  | 43, _ => rfl
  | 44, _ => rfl
  | q + 45, hq => absurd hq (by omega)
abbrev dn (a b4 b5 b6 b7 b8 b10 b11 b13 b15 : Nat) : Nat × va_E := (a, .inr (0, [.int 0, .int 0, .int 0, .int 0, .ref b4, .ref b5, .ref b6, .ref b7, .ref b8, .int 0, .ref b10, .ref b11, .int 0, .ref b13, .int 0, .ref b15, .int 0]))
abbrev mo (h : Nat) (r : Nat → Nat) (tp bp : Int32) : Nat × va_E := (h, .inr (12, [.int 0, .ref (r 1), .ref (r 2), .ref (r 3), .ref (r 4), .ref (r 5), .int tp, .int 0, .int 0, .int 0, .int 0, .long 0, .int 0, .int bp, .int 0, .int (-1), .ref (r 16), .ref (r 17), .ref (r 18), .ref (r 19), .ref (r 20), .ref (r 21), .ref (r 22), .ref (r 23), .ref (r 24), .ref (r 25), .ref (r 26), .ref (r 27), .ref (r 28), .int 0, .int 0, .ref (r 31), .int 0, .int 0, .long 0, .int 0, .ref (r 36), .int 0, .int 0, .ref (r 39), .int 0, .int 0, .int 0, .int 0, .long 0]))
abbrev oo (h : Nat) (r : Nat → Nat) (n1 n2 : Nat) : Nat × va_E := (h, .inr (11, [.ref (r 0), .ref (r 1), .ref n1, .ref n2, .ref (r 4), .ref (r 5), .ref (r 6), .ref (r 7), .int 0, .ref (r 9), .ref (r 10), .ref (r 11), .ref (r 12), .ref (r 13), .ref (r 14), .ref (r 15)]))
end
section
abbrev w_c_X11_isWithin (cI cJ cB cZ cO : ClassId) (v : Int32) (k : Int32) (K : Int) : va_W := []
set_option maxHeartbeats 4000000 in
set_option maxRecDepth 100000 in
/-- within: from 0 on, below a number -/
theorem c_X11_isWithin (l : Launch) (D : va_G) (cI cJ cB cZ cO : ClassId) (v : Int32) (k : Int32) (K : Int) (h_k : k.toInt = K) (sz : Nat) : Met l yX11_isWithin wsX11_isWithin ({ frames := 0, cells := 0, slots := 0, locals := 0 }) (va_Pc [.int v, .int k] (ct_P D (ct_T cI cJ cB cZ cO) (w_c_X11_isWithin cI cJ cB cZ cO v k K) sz)) (va_Qi (fun (r : Int32) (u : Unit) => (r = 1 ∧ (0 ≤ v.toInt ∧ v.toInt < K)) ∨ (r = 0 ∧ ¬ (0 ≤ v.toInt ∧ v.toInt < K))) (fun (u : Unit) t => ct_Q D (va_A (w_c_X11_isWithin cI cJ cB cZ cO v k K) sz) [] t) (va_A (w_c_X11_isWithin cI cJ cB cZ cO v k K) sz)) 0 0 (va_A (w_c_X11_isWithin cI cJ cB cZ cO v k K) sz) := by
  refine Met.ofW (cc := cX11_isWithin) (maxL := 2) (ret := (some .boolean)) (by decide) rfl ?_
  intro p e s m args below meth c s₁ B hml hv
  obtain ⟨rfl, hsz, hP, hE, hD0⟩ := hv
  have hx := B.exec
  have hb := B.bytes
  have hr := B.returns
  have hts := atoms_spec (ws := wsX11_isWithin) B.pre
  have hown : s.vm.findClass RX11 = some m.cls := findClass_of_methodNamed B.named
  have hlocks := B.notSynchronized
  have hK := hE.1
  subst hsz
  have hD := hD0.self (sz := s.heap.size)
  generalize hAe : va_A (w_c_X11_isWithin cI cJ cB cZ cO v k K) s.heap.size = A at hD ⊢
  have hA : ∀ q : Nat, s.heap.size ≤ q → A q := fun q h => by rw [← hAe]; exact Or.inr h
  have hS : va_S A s.heap s.heap [] := va_S.rf
  have hP : va_P D vwCl [] s.heap := hP
  have hD : va_D A [] := hD
  have hl := lv_entry ([.int v, .int k]) (n := 2) (Nat.le_of_ble_eq_true rfl)
  rw [lg_entry_eq]
  generalize (lg_sl ([.int v, .int k]) ++ List.replicate (2 - (lg_sl ([.int v, .int k])).length) Slot.unset).toArray = ls at hl ⊢
  have hl : lv_has ls 2 [(0, .int v), (1, .int k)] := hl
  obtain ⟨H, hHe⟩ : ∃ H : Heap, H = s.heap := ⟨_, rfl⟩
  rw [← hHe] at hP
  have hS : va_S A s.heap H [] := by rw [hHe]; exact va_S.rf
  refine ct_start hHe ?_
  refine lv_iload_n hx hb dX11_isWithin_0 rfl (lv_at hl 0 rfl) ?_
  refine lv_if_lt (tgt := 13) hx hb dX11_isWithin_1 (by decide) (fun hc => ?_) (fun hc => ?_)
  · have hq1 : v.toInt < 0 := tq_lt rfl (by decide) hc
    refine lv_iconst (v := 0) hx hb dX11_isWithin_13 (by decide) ?_
    have hP9 := hP.sub (ws' := []) [] rfl
    have hD9 := hD.sub (ws' := []) [] (by decide) rfl
    exact W.zret (v := 0) (ty := .boolean) hx hb hr rfl (fun t ht hW => ⟨⟨0, (), rfl, (Or.inr (⟨rfl, by omega⟩)), by rw [ht]; exact hP9, hD9⟩, hS.F ht⟩) hS.2.2 dX11_isWithin_14
  · have hq1 : 0 ≤ v.toInt := tq_nlt rfl (by decide) hc
    refine lv_iload_n hx hb dX11_isWithin_4 rfl (lv_at hl 0 rfl) ?_
    refine lv_iload_n hx hb dX11_isWithin_5 rfl (lv_at hl 1 rfl) ?_
    refine lv_icmp_ge (tgt := 13) hx hb dX11_isWithin_6 (by decide) (fun hc => ?_) (fun hc => ?_)
    · have hq2 : K ≤ v.toInt := tq_le h_k rfl hc
      refine lv_iconst (v := 0) hx hb dX11_isWithin_13 (by decide) ?_
      have hP9 := hP.sub (ws' := []) [] rfl
      have hD9 := hD.sub (ws' := []) [] (by decide) rfl
      exact W.zret (v := 0) (ty := .boolean) hx hb hr rfl (fun t ht hW => ⟨⟨0, (), rfl, (Or.inr (⟨rfl, by omega⟩)), by rw [ht]; exact hP9, hD9⟩, hS.F ht⟩) hS.2.2 dX11_isWithin_14
    · have hq2 : v.toInt < K := tq_nle h_k rfl hc
      refine lv_iconst (v := 1) hx hb dX11_isWithin_9 (by decide) ?_
      refine lv_goto (tgt := 14) hx hb dX11_isWithin_10 (by decide) ?_
      have hP9 := hP.sub (ws' := []) [] rfl
      have hD9 := hD.sub (ws' := []) [] (by decide) rfl
      exact W.zret (v := 1) (ty := .boolean) hx hb hr rfl (fun t ht hW => ⟨⟨1, (), rfl, (Or.inl ⟨rfl, by omega⟩), by rw [ht]; exact hP9, hD9⟩, hS.F ht⟩) hS.2.2 dX11_isWithin_14
abbrev w_c_X11_isSide (cI cJ cB cZ cO : ClassId) (v : Int32) : va_W := []
set_option maxHeartbeats 4000000 in
set_option maxRecDepth 100000 in
/-- X11_isSide: 0 to 1 -/
theorem c_X11_isSide (l : Launch) (D : va_G) (cI cJ cB cZ cO : ClassId) (v : Int32) (sz : Nat) : Met l yX11_isSide wsX11_isSide ({ frames := 1, cells := 0, slots := 0, locals := 21 }) (va_Pc [.int v] (ct_P D (ct_T cI cJ cB cZ cO) (w_c_X11_isSide cI cJ cB cZ cO v) sz)) (va_Qi (fun (r : Int32) (u : Unit) => (r = 1 ∧ (0 ≤ v.toInt ∧ v.toInt < 2)) ∨ (r = 0 ∧ ¬ (0 ≤ v.toInt ∧ v.toInt < 2))) (fun (u : Unit) t => ct_Q D (va_A (w_c_X11_isSide cI cJ cB cZ cO v) sz) [] t) (va_A (w_c_X11_isSide cI cJ cB cZ cO v) sz)) 0 0 (va_A (w_c_X11_isSide cI cJ cB cZ cO v) sz) := by
  refine Met.ofW (cc := cX11_isSide) (maxL := 1) (ret := (some .boolean)) (by decide) rfl ?_
  intro p e s m args below meth c s₁ B hml hv
  obtain ⟨rfl, hsz, hP, hE, hD0⟩ := hv
  have hx := B.exec
  have hb := B.bytes
  have hr := B.returns
  have hts := atoms_spec (ws := wsX11_isSide) B.pre
  have hown : s.vm.findClass RX11 = some m.cls := findClass_of_methodNamed B.named
  have hlocks := B.notSynchronized
  have hK := hE.1
  subst hsz
  have hD := hD0.self (sz := s.heap.size)
  generalize hAe : va_A (w_c_X11_isSide cI cJ cB cZ cO v) s.heap.size = A at hD ⊢
  have hA : ∀ q : Nat, s.heap.size ≤ q → A q := fun q h => by rw [← hAe]; exact Or.inr h
  have hS : va_S A s.heap s.heap [] := va_S.rf
  have hP : va_P D vwCl [] s.heap := hP
  have hD : va_D A [] := hD
  have hl := lv_entry ([.int v]) (n := 1) (Nat.le_of_ble_eq_true rfl)
  rw [lg_entry_eq]
  generalize (lg_sl ([.int v]) ++ List.replicate (1 - (lg_sl ([.int v])).length) Slot.unset).toArray = ls at hl ⊢
  have hl : lv_has ls 1 [(0, .int v)] := hl
  obtain ⟨H, hHe⟩ : ∃ H : Heap, H = s.heap := ⟨_, rfl⟩
  rw [← hHe] at hP
  have hS : va_S A s.heap H [] := by rw [hHe]; exact va_S.rf
  refine ct_start hHe ?_
  refine lv_iload_n hx hb dX11_isSide_0 rfl (lv_at hl 0 rfl) ?_
  refine lv_iconst (v := 2) hx hb dX11_isSide_1 (by decide) ?_
  refine ct_calli (D := D) (wc := (w_c_X11_isWithin cI cJ cB cZ cO v 2 2)) (wr := []) (va_runS (As := [.int v, .int 2]) (rest := []) ⟨hx, hb, hml, hown, hts⟩ (c_X11_isWithin l D cI cJ cB cZ cO v 2 2 (by decide) H.size) (va_cwS 2 hts gX11_isSide_X11_isWithin rfl rfl rfl (by decide +kernel) ⟨Nat.le_of_ble_eq_true rfl, Nat.le_of_ble_eq_true rfl⟩) (ct_preS (T := ct_T cI cJ cB cZ cO) hE hP hD [] (by decide) rfl) rfl rfl hl.1 rfl (lv_room (Nat.le_of_ble_eq_true rfl)) dX11_isSide_2 ⟨Nat.le_of_ble_eq_true rfl, Nat.le_of_ble_eq_true rfl⟩) hP hD hS hA [] [] rfl rfl (by decide) (by decide) (fun r u H locs hw hP hD hS => ?_)
  have hP : va_P D vwCl [] H := hP
  have hD : va_D A [] := hD
  rcases hw with ⟨rfl, hq3⟩ | ⟨rfl, hq3⟩
  · have hP9 := hP.sub (ws' := []) [] rfl
    have hD9 := hD.sub (ws' := []) [] (by decide) rfl
    exact W.zret (v := 1) (ty := .boolean) hx hb hr rfl (fun t ht hW => ⟨⟨1, (), rfl, (Or.inl ⟨rfl, by omega⟩), by rw [ht]; exact hP9, hD9⟩, hS.F ht⟩) hS.2.2 dX11_isSide_5
  · have hP9 := hP.sub (ws' := []) [] rfl
    have hD9 := hD.sub (ws' := []) [] (by decide) rfl
    exact W.zret (v := 0) (ty := .boolean) hx hb hr rfl (fun t ht hW => ⟨⟨0, (), rfl, (Or.inr (⟨rfl, by omega⟩)), by rw [ht]; exact hP9, hD9⟩, hS.F ht⟩) hS.2.2 dX11_isSide_5
abbrev w_c_X11_isStep (cI cJ cB cZ cO : ClassId) (v : Int32) : va_W := []
set_option maxHeartbeats 4000000 in
set_option maxRecDepth 100000 in
/-- X11_isStep: 0 to 5 -/
theorem c_X11_isStep (l : Launch) (D : va_G) (cI cJ cB cZ cO : ClassId) (v : Int32) (sz : Nat) : Met l yX11_isStep wsX11_isStep ({ frames := 1, cells := 0, slots := 0, locals := 21 }) (va_Pc [.int v] (ct_P D (ct_T cI cJ cB cZ cO) (w_c_X11_isStep cI cJ cB cZ cO v) sz)) (va_Qi (fun (r : Int32) (u : Unit) => (r = 1 ∧ (0 ≤ v.toInt ∧ v.toInt < 6)) ∨ (r = 0 ∧ ¬ (0 ≤ v.toInt ∧ v.toInt < 6))) (fun (u : Unit) t => ct_Q D (va_A (w_c_X11_isStep cI cJ cB cZ cO v) sz) [] t) (va_A (w_c_X11_isStep cI cJ cB cZ cO v) sz)) 0 0 (va_A (w_c_X11_isStep cI cJ cB cZ cO v) sz) := by
  refine Met.ofW (cc := cX11_isStep) (maxL := 1) (ret := (some .boolean)) (by decide) rfl ?_
  intro p e s m args below meth c s₁ B hml hv
  obtain ⟨rfl, hsz, hP, hE, hD0⟩ := hv
  have hx := B.exec
  have hb := B.bytes
  have hr := B.returns
  have hts := atoms_spec (ws := wsX11_isStep) B.pre
  have hown : s.vm.findClass RX11 = some m.cls := findClass_of_methodNamed B.named
  have hlocks := B.notSynchronized
  have hK := hE.1
  subst hsz
  have hD := hD0.self (sz := s.heap.size)
  generalize hAe : va_A (w_c_X11_isStep cI cJ cB cZ cO v) s.heap.size = A at hD ⊢
  have hA : ∀ q : Nat, s.heap.size ≤ q → A q := fun q h => by rw [← hAe]; exact Or.inr h
  have hS : va_S A s.heap s.heap [] := va_S.rf
  have hP : va_P D vwCl [] s.heap := hP
  have hD : va_D A [] := hD
  have hl := lv_entry ([.int v]) (n := 1) (Nat.le_of_ble_eq_true rfl)
  rw [lg_entry_eq]
  generalize (lg_sl ([.int v]) ++ List.replicate (1 - (lg_sl ([.int v])).length) Slot.unset).toArray = ls at hl ⊢
  have hl : lv_has ls 1 [(0, .int v)] := hl
  obtain ⟨H, hHe⟩ : ∃ H : Heap, H = s.heap := ⟨_, rfl⟩
  rw [← hHe] at hP
  have hS : va_S A s.heap H [] := by rw [hHe]; exact va_S.rf
  refine ct_start hHe ?_
  refine lv_iload_n hx hb dX11_isStep_0 rfl (lv_at hl 0 rfl) ?_
  refine lv_bipush (v := 6) hx hb dX11_isStep_1 (by decide) ?_
  refine ct_calli (D := D) (wc := (w_c_X11_isWithin cI cJ cB cZ cO v 6 6)) (wr := []) (va_runS (As := [.int v, .int 6]) (rest := []) ⟨hx, hb, hml, hown, hts⟩ (c_X11_isWithin l D cI cJ cB cZ cO v 6 6 (by decide) H.size) (va_cwS 2 hts gX11_isStep_X11_isWithin rfl rfl rfl (by decide +kernel) ⟨Nat.le_of_ble_eq_true rfl, Nat.le_of_ble_eq_true rfl⟩) (ct_preS (T := ct_T cI cJ cB cZ cO) hE hP hD [] (by decide) rfl) rfl rfl hl.1 rfl (lv_room (Nat.le_of_ble_eq_true rfl)) dX11_isStep_3 ⟨Nat.le_of_ble_eq_true rfl, Nat.le_of_ble_eq_true rfl⟩) hP hD hS hA [] [] rfl rfl (by decide) (by decide) (fun r u H locs hw hP hD hS => ?_)
  have hP : va_P D vwCl [] H := hP
  have hD : va_D A [] := hD
  rcases hw with ⟨rfl, hq4⟩ | ⟨rfl, hq4⟩
  · have hP9 := hP.sub (ws' := []) [] rfl
    have hD9 := hD.sub (ws' := []) [] (by decide) rfl
    exact W.zret (v := 1) (ty := .boolean) hx hb hr rfl (fun t ht hW => ⟨⟨1, (), rfl, (Or.inl ⟨rfl, by omega⟩), by rw [ht]; exact hP9, hD9⟩, hS.F ht⟩) hS.2.2 dX11_isStep_6
  · have hP9 := hP.sub (ws' := []) [] rfl
    have hD9 := hD.sub (ws' := []) [] (by decide) rfl
    exact W.zret (v := 0) (ty := .boolean) hx hb hr rfl (fun t ht hW => ⟨⟨0, (), rfl, (Or.inr (⟨rfl, by omega⟩)), by rw [ht]; exact hP9, hD9⟩, hS.F ht⟩) hS.2.2 dX11_isStep_6
abbrev w_c_X11_isBeat (cI cJ cB cZ cO : ClassId) (v : Int32) : va_W := []
set_option maxHeartbeats 4000000 in
set_option maxRecDepth 100000 in
/-- X11_isBeat: 0 to 199 -/
theorem c_X11_isBeat (l : Launch) (D : va_G) (cI cJ cB cZ cO : ClassId) (v : Int32) (sz : Nat) : Met l yX11_isBeat wsX11_isBeat ({ frames := 1, cells := 0, slots := 0, locals := 21 }) (va_Pc [.int v] (ct_P D (ct_T cI cJ cB cZ cO) (w_c_X11_isBeat cI cJ cB cZ cO v) sz)) (va_Qi (fun (r : Int32) (u : Unit) => (r = 1 ∧ (0 ≤ v.toInt ∧ v.toInt < 200)) ∨ (r = 0 ∧ ¬ (0 ≤ v.toInt ∧ v.toInt < 200))) (fun (u : Unit) t => ct_Q D (va_A (w_c_X11_isBeat cI cJ cB cZ cO v) sz) [] t) (va_A (w_c_X11_isBeat cI cJ cB cZ cO v) sz)) 0 0 (va_A (w_c_X11_isBeat cI cJ cB cZ cO v) sz) := by
  refine Met.ofW (cc := cX11_isBeat) (maxL := 1) (ret := (some .boolean)) (by decide) rfl ?_
  intro p e s m args below meth c s₁ B hml hv
  obtain ⟨rfl, hsz, hP, hE, hD0⟩ := hv
  have hx := B.exec
  have hb := B.bytes
  have hr := B.returns
  have hts := atoms_spec (ws := wsX11_isBeat) B.pre
  have hown : s.vm.findClass RX11 = some m.cls := findClass_of_methodNamed B.named
  have hlocks := B.notSynchronized
  have hK := hE.1
  subst hsz
  have hD := hD0.self (sz := s.heap.size)
  generalize hAe : va_A (w_c_X11_isBeat cI cJ cB cZ cO v) s.heap.size = A at hD ⊢
  have hA : ∀ q : Nat, s.heap.size ≤ q → A q := fun q h => by rw [← hAe]; exact Or.inr h
  have hS : va_S A s.heap s.heap [] := va_S.rf
  have hP : va_P D vwCl [] s.heap := hP
  have hD : va_D A [] := hD
  have hl := lv_entry ([.int v]) (n := 1) (Nat.le_of_ble_eq_true rfl)
  rw [lg_entry_eq]
  generalize (lg_sl ([.int v]) ++ List.replicate (1 - (lg_sl ([.int v])).length) Slot.unset).toArray = ls at hl ⊢
  have hl : lv_has ls 1 [(0, .int v)] := hl
  obtain ⟨H, hHe⟩ : ∃ H : Heap, H = s.heap := ⟨_, rfl⟩
  rw [← hHe] at hP
  have hS : va_S A s.heap H [] := by rw [hHe]; exact va_S.rf
  refine ct_start hHe ?_
  refine lv_iload_n hx hb dX11_isBeat_0 rfl (lv_at hl 0 rfl) ?_
  refine lv_sipush (v := 200) hx hb dX11_isBeat_1 (by decide) ?_
  refine ct_calli (D := D) (wc := (w_c_X11_isWithin cI cJ cB cZ cO v 200 200)) (wr := []) (va_runS (As := [.int v, .int 200]) (rest := []) ⟨hx, hb, hml, hown, hts⟩ (c_X11_isWithin l D cI cJ cB cZ cO v 200 200 (by decide) H.size) (va_cwS 2 hts gX11_isBeat_X11_isWithin rfl rfl rfl (by decide +kernel) ⟨Nat.le_of_ble_eq_true rfl, Nat.le_of_ble_eq_true rfl⟩) (ct_preS (T := ct_T cI cJ cB cZ cO) hE hP hD [] (by decide) rfl) rfl rfl hl.1 rfl (lv_room (Nat.le_of_ble_eq_true rfl)) dX11_isBeat_4 ⟨Nat.le_of_ble_eq_true rfl, Nat.le_of_ble_eq_true rfl⟩) hP hD hS hA [] [] rfl rfl (by decide) (by decide) (fun r u H locs hw hP hD hS => ?_)
  have hP : va_P D vwCl [] H := hP
  have hD : va_D A [] := hD
  rcases hw with ⟨rfl, hq5⟩ | ⟨rfl, hq5⟩
  · have hP9 := hP.sub (ws' := []) [] rfl
    have hD9 := hD.sub (ws' := []) [] (by decide) rfl
    exact W.zret (v := 1) (ty := .boolean) hx hb hr rfl (fun t ht hW => ⟨⟨1, (), rfl, (Or.inl ⟨rfl, by omega⟩), by rw [ht]; exact hP9, hD9⟩, hS.F ht⟩) hS.2.2 dX11_isBeat_7
  · have hP9 := hP.sub (ws' := []) [] rfl
    have hD9 := hD.sub (ws' := []) [] (by decide) rfl
    exact W.zret (v := 0) (ty := .boolean) hx hb hr rfl (fun t ht hW => ⟨⟨0, (), rfl, (Or.inr (⟨rfl, by omega⟩)), by rw [ht]; exact hP9, hD9⟩, hS.F ht⟩) hS.2.2 dX11_isBeat_7
abbrev w_c_X0_stands (cI cJ cB cZ cO : ClassId) (a : Nat) (b4 : Nat) (b5 : Nat) (b6 : Nat) (b7 : Nat) (b8 : Nat) (b10 : Nat) (b11 : Nat) (b13 : Nat) (b15 : Nat) : va_W := [dn a b4 b5 b6 b7 b8 b10 b11 b13 b15]
set_option maxHeartbeats 4000000 in
set_option maxRecDepth 100000 in
/-- no DANCE stands -/
theorem c_X0_stands (l : Launch) (D : va_G) (cI cJ cB cZ cO : ClassId) (a : Nat) (b4 : Nat) (b5 : Nat) (b6 : Nat) (b7 : Nat) (b8 : Nat) (b10 : Nat) (b11 : Nat) (b13 : Nat) (b15 : Nat) (sz : Nat) : Met l yX0_stands wsX0_stands ({ frames := 0, cells := 0, slots := 0, locals := 0 }) (va_Pc [.ref a] (ct_P D (ct_T cI cJ cB cZ cO) (w_c_X0_stands cI cJ cB cZ cO a b4 b5 b6 b7 b8 b10 b11 b13 b15) sz)) (va_Qi (fun (r : Int32) (u : Unit) => (r = 0 ∧ True)) (fun (u : Unit) t => ct_Q D (va_A (w_c_X0_stands cI cJ cB cZ cO a b4 b5 b6 b7 b8 b10 b11 b13 b15) sz) [dn a b4 b5 b6 b7 b8 b10 b11 b13 b15] t) (va_A (w_c_X0_stands cI cJ cB cZ cO a b4 b5 b6 b7 b8 b10 b11 b13 b15) sz)) 0 0 (va_A (w_c_X0_stands cI cJ cB cZ cO a b4 b5 b6 b7 b8 b10 b11 b13 b15) sz) := by
  refine Met.ofW (cc := cX0_stands) (maxL := 1) (ret := (some .boolean)) (by decide) rfl ?_
  intro p e s m args below meth c s₁ B hml hv
  obtain ⟨rfl, hsz, hP, hE, hD0⟩ := hv
  have hx := B.exec
  have hb := B.bytes
  have hr := B.returns
  have hts := atoms_spec (ws := wsX0_stands) B.pre
  have hown : s.vm.findClass RX0 = some m.cls := findClass_of_methodNamed B.named
  have hlocks := B.notSynchronized
  have hK := hE.1
  have hi0 : ∀ w ∈ u_ws RX0 TX0 17, w ∈ wsX0_stands := fun w h => List.mem_cons_of_mem _ (List.mem_append_right _ h)
  subst hsz
  have hD := hD0.self (sz := s.heap.size)
  generalize hAe : va_A (w_c_X0_stands cI cJ cB cZ cO a b4 b5 b6 b7 b8 b10 b11 b13 b15) s.heap.size = A at hD ⊢
  have hA : ∀ q : Nat, s.heap.size ≤ q → A q := fun q h => by rw [← hAe]; exact Or.inr h
  have hS : va_S A s.heap s.heap [] := va_S.rf
  have hP : va_P D vwCl [dn a b4 b5 b6 b7 b8 b10 b11 b13 b15] s.heap := hP
  have hD : va_D A [dn a b4 b5 b6 b7 b8 b10 b11 b13 b15] := hD
  have hl := lv_entry ([.ref a]) (n := 1) (Nat.le_of_ble_eq_true rfl)
  rw [lg_entry_eq]
  generalize (lg_sl ([.ref a]) ++ List.replicate (1 - (lg_sl ([.ref a])).length) Slot.unset).toArray = ls at hl ⊢
  have hl : lv_has ls 1 [(0, .ref a)] := hl
  obtain ⟨H, hHe⟩ : ∃ H : Heap, H = s.heap := ⟨_, rfl⟩
  rw [← hHe] at hP
  have hS : va_S A s.heap H [] := by rw [hHe]; exact va_S.rf
  refine ct_start hHe ?_
  refine lv_aload_n hx hb dX0_stands_0 rfl (lv_at hl 0 rfl) ?_
  refine va_get (D := D) (ci := 0) (v := .int 0) (C := RX0) (T := TX0) (N := 17) hx hb hts hi0 hown hK hP 0 rfl rfl 3 (by decide) (hts (.fieldLink RX0 49 "OverHill$Dance" "lines" "I") (by decide +kernel)) (fun _ h9 => h9) rfl dX0_stands_1 ?_
  refine lv_if_le (tgt := 11) hx hb dX0_stands_4 (by decide) (fun _ => ?_) (fun hc => absurd hc (by decide))
  refine lv_iconst (v := 0) hx hb dX0_stands_11 (by decide) ?_
  have hP9 := hP.sub (ws' := [dn a b4 b5 b6 b7 b8 b10 b11 b13 b15]) [0] rfl
  have hD9 := hD.sub (ws' := [dn a b4 b5 b6 b7 b8 b10 b11 b13 b15]) [0] (by decide) rfl
  exact W.zret (v := 0) (ty := .boolean) hx hb hr rfl (fun t ht hW => ⟨⟨0, (), rfl, ⟨rfl, trivial⟩, by rw [ht]; exact hP9, hD9⟩, hS.F ht⟩) hS.2.2 dX0_stands_12
abbrev w_c_X11_step (cI cJ cB cZ cO : ClassId) (h : Nat) (r : Nat → Nat) (x1 : Int32) (x2 : Int32) : va_W := [oo h r (r 2) (r 3), dn (r 2) (r 24) (r 25) (r 26) (r 27) (r 28) (r 30) (r 31) (r 33) (r 35)]
set_option maxHeartbeats 4000000 in
set_option maxRecDepth 100000 in
/-- step, on a new object -/
theorem c_X11_step (l : Launch) (D : va_G) (cI cJ cB cZ cO : ClassId) (h : Nat) (r : Nat → Nat) (x1 : Int32) (x2 : Int32) (sz : Nat) : Met l yX11_step wsX11_step ({ frames := 1, cells := 0, slots := 0, locals := 20 }) (va_Pc [.ref h, .int x1, .int x2] (ct_P D (ct_T cI cJ cB cZ cO) (w_c_X11_step cI cJ cB cZ cO h r x1 x2) sz)) (va_Qi (fun (r : Int32) (u : Unit) => (r = (-2) ∧ True)) (fun (u : Unit) t => ct_Q D (va_A (w_c_X11_step cI cJ cB cZ cO h r x1 x2) sz) [] t) (va_A (w_c_X11_step cI cJ cB cZ cO h r x1 x2) sz)) 0 0 (va_A (w_c_X11_step cI cJ cB cZ cO h r x1 x2) sz) := by
  refine Met.ofW (cc := cX11_step) (maxL := 3) (ret := (some .int)) (by decide) rfl ?_
  intro p e s m args below meth c s₁ B hml hv
  obtain ⟨rfl, hsz, hP, hE, hD0⟩ := hv
  have hx := B.exec
  have hb := B.bytes
  have hr := B.returns
  have hts := atoms_spec (ws := wsX11_step) B.pre
  have hown : s.vm.findClass RX11 = some m.cls := findClass_of_methodNamed B.named
  have hlocks := B.notSynchronized
  have hK := hE.1
  have hi11 : ∀ w ∈ u_ws RX11 TX11 16, w ∈ wsX11_step := fun w h => List.mem_cons_of_mem _ (List.mem_append_left _ (List.mem_append_right _ h))
  subst hsz
  have hD := hD0.self (sz := s.heap.size)
  generalize hAe : va_A (w_c_X11_step cI cJ cB cZ cO h r x1 x2) s.heap.size = A at hD ⊢
  have hA : ∀ q : Nat, s.heap.size ≤ q → A q := fun q h => by rw [← hAe]; exact Or.inr h
  have hS : va_S A s.heap s.heap [] := va_S.rf
  have hP : va_P D vwCl [oo h r (r 2) (r 3), dn (r 2) (r 24) (r 25) (r 26) (r 27) (r 28) (r 30) (r 31) (r 33) (r 35)] s.heap := hP
  have hD : va_D A [oo h r (r 2) (r 3), dn (r 2) (r 24) (r 25) (r 26) (r 27) (r 28) (r 30) (r 31) (r 33) (r 35)] := hD
  have hl := lv_entry ([.ref h, .int x1, .int x2]) (n := 3) (Nat.le_of_ble_eq_true rfl)
  rw [lg_entry_eq]
  generalize (lg_sl ([.ref h, .int x1, .int x2]) ++ List.replicate (3 - (lg_sl ([.ref h, .int x1, .int x2])).length) Slot.unset).toArray = ls at hl ⊢
  have hl : lv_has ls 3 [(0, .ref h), (1, .int x1), (2, .int x2)] := hl
  obtain ⟨H, hHe⟩ : ∃ H : Heap, H = s.heap := ⟨_, rfl⟩
  rw [← hHe] at hP
  have hS : va_S A s.heap H [] := by rw [hHe]; exact va_S.rf
  refine ct_start hHe ?_
  refine lv_aload_n hx hb dX11_step_0 rfl (lv_at hl 0 rfl) ?_
  refine va_get (D := D) (ci := 11) (v := .ref (r 2)) (C := RX11) (T := TX11) (N := 16) hx hb hts hi11 hown hK hP 0 rfl rfl 2 (by decide) (hts (.fieldLink RX11 24 "OverHill" "now" "LOverHill$Dance;") (by decide +kernel)) (fun _ h9 => h9) rfl dX11_step_1 ?_
  refine ct_calli (D := D) (wc := (w_c_X0_stands cI cJ cB cZ cO (r 2) (r 24) (r 25) (r 26) (r 27) (r 28) (r 30) (r 31) (r 33) (r 35))) (wr := [oo h r (r 2) (r 3)]) (va_runV (As := []) (rest := []) ⟨hx, hb, hml, hown, hts⟩ (c_X0_stands l D cI cJ cB cZ cO (r 2) (r 24) (r 25) (r 26) (r 27) (r 28) (r 30) (r 31) (r 33) (r 35) H.size) (cwV 0 hts gX11_step_X0_stands rfl rfl rfl (by decide +kernel) ⟨Nat.le_of_ble_eq_true rfl, Nat.le_of_ble_eq_true rfl⟩) (ct_preV (T := ct_T cI cJ cB cZ cO) (ci := 0) (q0 := 1) hE hP hD [1] (by decide) rfl rfl rfl) rfl rfl hl.1 rfl (lv_room (Nat.le_of_ble_eq_true rfl)) dX11_step_4 ⟨Nat.le_of_ble_eq_true rfl, Nat.le_of_ble_eq_true rfl⟩) hP hD hS hA [1] [0] rfl rfl (by decide) (by decide) (fun r u H locs hw hP hD hS => ?_)
  have hP : va_P D vwCl [oo h r (r 2) (r 3), dn (r 2) (r 24) (r 25) (r 26) (r 27) (r 28) (r 30) (r 31) (r 33) (r 35)] H := hP
  have hD : va_D A [oo h r (r 2) (r 3), dn (r 2) (r 24) (r 25) (r 26) (r 27) (r 28) (r 30) (r 31) (r 33) (r 35)] := hD
  obtain ⟨rfl, hq6⟩ := hw
  refine lv_if_eq (tgt := 17) hx hb dX11_step_7 (by decide) (fun _ => ?_) (fun hc => absurd hc (by decide))
  refine lv_bipush (v := (-2)) hx hb dX11_step_17 (by decide) ?_
  have hP9 := hP.sub (ws' := []) [] rfl
  have hD9 := hD.sub (ws' := []) [] (by decide) rfl
  exact W.iret (v := (-2)) hx hb hr (fun t ht hW => ⟨⟨(-2), (), rfl, ⟨rfl, trivial⟩, by rw [ht]; exact hP9, hD9⟩, hS.F ht⟩) hS.2.2 dX11_step_19
end
