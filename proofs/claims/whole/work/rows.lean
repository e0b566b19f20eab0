section
-- ===== PART A: goes FIRST, ahead of the names: the tables' words, and 'selects' of the private methods out of them =====
/-- a private method of a class that the tables say can be made, by its rows of tables_1 -/
def lw_okq (q : MethodName × Nat) : Prop := (q.1.cls ≠ "java/lang/invoke/MethodHandle" ∧ q.1.cls ≠ "java/lang/invoke/VarHandle") ∧ Cond.instantiable q.1.cls q.2 ∈ tables_1 ∧ Cond.privateMethod q.1 ∈ tables_1 ∧ Cond.instanceMethod q.1 ∈ tables_1
theorem lw_p0 : lw_okq (⟨"PoolsHall$PlanReader", "readPlan", "(I)Z"⟩, 7) := ⟨⟨by decide +kernel, by decide +kernel⟩, List.mem_of_getElem? (i := 44) (by decide +kernel), List.mem_of_getElem? (i := 269) (by decide +kernel), List.mem_of_getElem? (i := 270) (by decide +kernel)⟩
theorem lw_p1 : lw_okq (⟨"PoolsHall$PlanReader", "readAlternative", "(I)Z"⟩, 7) := ⟨⟨by decide +kernel, by decide +kernel⟩, List.mem_of_getElem? (i := 44) (by decide +kernel), List.mem_of_getElem? (i := 273) (by decide +kernel), List.mem_of_getElem? (i := 274) (by decide +kernel)⟩
theorem lw_p2 : lw_okq (⟨"PoolsHall$PlanReader", "readPart", "(I)Z"⟩, 7) := ⟨⟨by decide +kernel, by decide +kernel⟩, List.mem_of_getElem? (i := 44) (by decide +kernel), List.mem_of_getElem? (i := 277) (by decide +kernel), List.mem_of_getElem? (i := 278) (by decide +kernel)⟩
theorem lw_p3 : lw_okq (⟨"PoolsHall$PlanReader", "readInBrackets", "(I)Z"⟩, 7) := ⟨⟨by decide +kernel, by decide +kernel⟩, List.mem_of_getElem? (i := 44) (by decide +kernel), List.mem_of_getElem? (i := 285) (by decide +kernel), List.mem_of_getElem? (i := 286) (by decide +kernel)⟩
theorem lw_p4 : lw_okq (⟨"PoolsHall$PlanReader", "stopAt", "(II)Z"⟩, 7) := ⟨⟨by decide +kernel, by decide +kernel⟩, List.mem_of_getElem? (i := 44) (by decide +kernel), List.mem_of_getElem? (i := 289) (by decide +kernel), List.mem_of_getElem? (i := 290) (by decide +kernel)⟩
theorem lw_p5 : lw_okq (⟨"PoolsHall$PlanReader", "readChoices", "()Z"⟩, 7) := ⟨⟨by decide +kernel, by decide +kernel⟩, List.mem_of_getElem? (i := 44) (by decide +kernel), List.mem_of_getElem? (i := 293) (by decide +kernel), List.mem_of_getElem? (i := 294) (by decide +kernel)⟩
theorem lw_p6 : lw_okq (⟨"PoolsHall$PlanReader", "digitsHere", "()I"⟩, 7) := ⟨⟨by decide +kernel, by decide +kernel⟩, List.mem_of_getElem? (i := 44) (by decide +kernel), List.mem_of_getElem? (i := 297) (by decide +kernel), List.mem_of_getElem? (i := 298) (by decide +kernel)⟩
theorem lw_p7 : lw_okq (⟨"PoolsHall$PlanReader", "readNumber", "()I"⟩, 7) := ⟨⟨by decide +kernel, by decide +kernel⟩, List.mem_of_getElem? (i := 44) (by decide +kernel), List.mem_of_getElem? (i := 304) (by decide +kernel), List.mem_of_getElem? (i := 305) (by decide +kernel)⟩
theorem lw_p8 : lw_okq (⟨"PoolsHall$PlanReader", "readMatches", "()I"⟩, 7) := ⟨⟨by decide +kernel, by decide +kernel⟩, List.mem_of_getElem? (i := 44) (by decide +kernel), List.mem_of_getElem? (i := 308) (by decide +kernel), List.mem_of_getElem? (i := 309) (by decide +kernel)⟩
theorem lw_p9 : lw_okq (⟨"PoolsHall$PlanReader", "pushChoices", "(II)V"⟩, 7) := ⟨⟨by decide +kernel, by decide +kernel⟩, List.mem_of_getElem? (i := 44) (by decide +kernel), List.mem_of_getElem? (i := 318) (by decide +kernel), List.mem_of_getElem? (i := 319) (by decide +kernel)⟩
theorem lw_p10 : lw_okq (⟨"PoolsHall$PlanReader", "combineTopTwo", "(I)V"⟩, 7) := ⟨⟨by decide +kernel, by decide +kernel⟩, List.mem_of_getElem? (i := 44) (by decide +kernel), List.mem_of_getElem? (i := 340) (by decide +kernel), List.mem_of_getElem? (i := 341) (by decide +kernel)⟩
theorem lw_p11 : lw_okq (⟨"PoolsHall$LineSet", "addJoined", "(IILPoolsHall$LineSet;)V"⟩, 1) := ⟨⟨by decide +kernel, by decide +kernel⟩, List.mem_of_getElem? (i := 321) (by decide +kernel), List.mem_of_getElem? (i := 378) (by decide +kernel), List.mem_of_getElem? (i := 379) (by decide +kernel)⟩
theorem lw_p12 : lw_okq (⟨"PoolsHall", "weighWithout", "(I)V"⟩, 9) := ⟨⟨by decide +kernel, by decide +kernel⟩, List.mem_of_getElem? (i := 20) (by decide +kernel), List.mem_of_getElem? (i := 479) (by decide +kernel), List.mem_of_getElem? (i := 480) (by decide +kernel)⟩
theorem lw_p13 : lw_okq (⟨"PoolsHall$Scale", "fillSums", "([II)V"⟩, 4) := ⟨⟨by decide +kernel, by decide +kernel⟩, List.mem_of_getElem? (i := 76) (by decide +kernel), List.mem_of_getElem? (i := 487) (by decide +kernel), List.mem_of_getElem? (i := 488) (by decide +kernel)⟩
theorem lw_p14 : lw_okq (⟨"PoolsHall$Scale", "fillLowFrom", "()V"⟩, 4) := ⟨⟨by decide +kernel, by decide +kernel⟩, List.mem_of_getElem? (i := 76) (by decide +kernel), List.mem_of_getElem? (i := 492) (by decide +kernel), List.mem_of_getElem? (i := 493) (by decide +kernel)⟩
theorem lw_p15 : lw_okq (⟨"PoolsHall$Scale", "bitsFrom", "(I)J"⟩, 4) := ⟨⟨by decide +kernel, by decide +kernel⟩, List.mem_of_getElem? (i := 76) (by decide +kernel), List.mem_of_getElem? (i := 502) (by decide +kernel), List.mem_of_getElem? (i := 503) (by decide +kernel)⟩
def lw_privs_1 : List (MethodName × Nat) := [(⟨"PoolsHall$PlanReader", "readPlan", "(I)Z"⟩, 7), (⟨"PoolsHall$PlanReader", "readAlternative", "(I)Z"⟩, 7), (⟨"PoolsHall$PlanReader", "readPart", "(I)Z"⟩, 7), (⟨"PoolsHall$PlanReader", "readInBrackets", "(I)Z"⟩, 7), (⟨"PoolsHall$PlanReader", "stopAt", "(II)Z"⟩, 7), (⟨"PoolsHall$PlanReader", "readChoices", "()Z"⟩, 7), (⟨"PoolsHall$PlanReader", "digitsHere", "()I"⟩, 7), (⟨"PoolsHall$PlanReader", "readNumber", "()I"⟩, 7), (⟨"PoolsHall$PlanReader", "readMatches", "()I"⟩, 7), (⟨"PoolsHall$PlanReader", "pushChoices", "(II)V"⟩, 7), (⟨"PoolsHall$PlanReader", "combineTopTwo", "(I)V"⟩, 7), (⟨"PoolsHall$LineSet", "addJoined", "(IILPoolsHall$LineSet;)V"⟩, 1), (⟨"PoolsHall", "weighWithout", "(I)V"⟩, 9), (⟨"PoolsHall$Scale", "fillSums", "([II)V"⟩, 4), (⟨"PoolsHall$Scale", "fillLowFrom", "()V"⟩, 4), (⟨"PoolsHall$Scale", "bitsFrom", "(I)J"⟩, 4)]
theorem lw_r1 : ∀ q ∈ lw_privs_1, lw_okq q := List.forall_mem_cons.mpr ⟨lw_p0, List.forall_mem_cons.mpr ⟨lw_p1, List.forall_mem_cons.mpr ⟨lw_p2, List.forall_mem_cons.mpr ⟨lw_p3, List.forall_mem_cons.mpr ⟨lw_p4, List.forall_mem_cons.mpr ⟨lw_p5, List.forall_mem_cons.mpr ⟨lw_p6, List.forall_mem_cons.mpr ⟨lw_p7, List.forall_mem_cons.mpr ⟨lw_p8, List.forall_mem_cons.mpr ⟨lw_p9, List.forall_mem_cons.mpr ⟨lw_p10, List.forall_mem_cons.mpr ⟨lw_p11, List.forall_mem_cons.mpr ⟨lw_p12, List.forall_mem_cons.mpr ⟨lw_p13, List.forall_mem_cons.mpr ⟨lw_p14, List.forall_mem_cons.mpr ⟨lw_p15, fun _ h => absurd h List.not_mem_nil⟩⟩⟩⟩⟩⟩⟩⟩⟩⟩⟩⟩⟩⟩⟩⟩
theorem lw_p16 : lw_okq (⟨"PoolsHall", "greatestPoints", "(II)I"⟩, 9) := ⟨⟨by decide +kernel, by decide +kernel⟩, List.mem_of_getElem? (i := 20) (by decide +kernel), List.mem_of_getElem? (i := 512) (by decide +kernel), List.mem_of_getElem? (i := 513) (by decide +kernel)⟩
theorem lw_p17 : lw_okq (⟨"PoolsHall$Scale", "greatestLow", "(J)I"⟩, 4) := ⟨⟨by decide +kernel, by decide +kernel⟩, List.mem_of_getElem? (i := 76) (by decide +kernel), List.mem_of_getElem? (i := 520) (by decide +kernel), List.mem_of_getElem? (i := 521) (by decide +kernel)⟩
theorem lw_p18 : lw_okq (⟨"PoolsHall", "mostWorth", "()I"⟩, 9) := ⟨⟨by decide +kernel, by decide +kernel⟩, List.mem_of_getElem? (i := 20) (by decide +kernel), List.mem_of_getElem? (i := 531) (by decide +kernel), List.mem_of_getElem? (i := 532) (by decide +kernel)⟩
theorem lw_p19 : lw_okq (⟨"PoolsHall", "sizeWithPoints", "(III)I"⟩, 9) := ⟨⟨by decide +kernel, by decide +kernel⟩, List.mem_of_getElem? (i := 20) (by decide +kernel), List.mem_of_getElem? (i := 540) (by decide +kernel), List.mem_of_getElem? (i := 541) (by decide +kernel)⟩
theorem lw_p20 : lw_okq (⟨"PoolsHall", "leastWorth", "()I"⟩, 9) := ⟨⟨by decide +kernel, by decide +kernel⟩, List.mem_of_getElem? (i := 20) (by decide +kernel), List.mem_of_getElem? (i := 548) (by decide +kernel), List.mem_of_getElem? (i := 549) (by decide +kernel)⟩
theorem lw_p21 : lw_okq (⟨"PoolsHall$Books", "sharesTogether", "()I"⟩, 11) := ⟨⟨by decide +kernel, by decide +kernel⟩, List.mem_of_getElem? (i := 96) (by decide +kernel), List.mem_of_getElem? (i := 570) (by decide +kernel), List.mem_of_getElem? (i := 571) (by decide +kernel)⟩
theorem lw_p22 : lw_okq (⟨"PoolsHall$Books", "openPrizes", "()V"⟩, 11) := ⟨⟨by decide +kernel, by decide +kernel⟩, List.mem_of_getElem? (i := 96) (by decide +kernel), List.mem_of_getElem? (i := 619) (by decide +kernel), List.mem_of_getElem? (i := 620) (by decide +kernel)⟩
theorem lw_p23 : lw_okq (⟨"PoolsHall$Books", "payDividend", "(ILPoolsHall$Scale;I)J"⟩, 11) := ⟨⟨by decide +kernel, by decide +kernel⟩, List.mem_of_getElem? (i := 96) (by decide +kernel), List.mem_of_getElem? (i := 623) (by decide +kernel), List.mem_of_getElem? (i := 624) (by decide +kernel)⟩
theorem lw_p24 : lw_okq (⟨"PoolsHall$Books", "winningCoins", "(IILPoolsHall$Scale;)J"⟩, 11) := ⟨⟨by decide +kernel, by decide +kernel⟩, List.mem_of_getElem? (i := 96) (by decide +kernel), List.mem_of_getElem? (i := 627) (by decide +kernel), List.mem_of_getElem? (i := 628) (by decide +kernel)⟩
theorem lw_p25 : lw_okq (⟨"PoolsHall$Books", "beginNextWeek", "()V"⟩, 11) := ⟨⟨by decide +kernel, by decide +kernel⟩, List.mem_of_getElem? (i := 96) (by decide +kernel), List.mem_of_getElem? (i := 639) (by decide +kernel), List.mem_of_getElem? (i := 640) (by decide +kernel)⟩
theorem lw_p26 : lw_okq (⟨"java/lang/Throwable", "fillInStackTrace", "(I)Ljava/lang/Throwable;"⟩, 6) := ⟨⟨by decide +kernel, by decide +kernel⟩, List.mem_of_getElem? (i := 711) (by decide +kernel), List.mem_of_getElem? (i := 709) (by decide +kernel), List.mem_of_getElem? (i := 710) (by decide +kernel)⟩
theorem lw_p27 : lw_okq (⟨"PoolsHall$LineSet", "allWordsAsOne", "()J"⟩, 1) := ⟨⟨by decide +kernel, by decide +kernel⟩, List.mem_of_getElem? (i := 321) (by decide +kernel), List.mem_of_getElem? (i := 746) (by decide +kernel), List.mem_of_getElem? (i := 747) (by decide +kernel)⟩
theorem lw_p28 : lw_okq (⟨"PoolsHallModel", "outcomeOf", "(I)I"⟩, 44) := ⟨⟨by decide +kernel, by decide +kernel⟩, List.mem_of_getElem? (i := 755) (by decide +kernel), List.mem_of_getElem? (i := 919) (by decide +kernel), List.mem_of_getElem? (i := 920) (by decide +kernel)⟩
theorem lw_p29 : lw_okq (⟨"PoolsHallModel", "lay", "(I)V"⟩, 44) := ⟨⟨by decide +kernel, by decide +kernel⟩, List.mem_of_getElem? (i := 755) (by decide +kernel), List.mem_of_getElem? (i := 932) (by decide +kernel), List.mem_of_getElem? (i := 933) (by decide +kernel)⟩
theorem lw_p30 : lw_okq (⟨"PoolsHallModel", "readPlan", "(I)Z"⟩, 44) := ⟨⟨by decide +kernel, by decide +kernel⟩, List.mem_of_getElem? (i := 755) (by decide +kernel), List.mem_of_getElem? (i := 945) (by decide +kernel), List.mem_of_getElem? (i := 946) (by decide +kernel)⟩
theorem lw_p31 : lw_okq (⟨"PoolsHallModel", "readAlt", "(I)Z"⟩, 44) := ⟨⟨by decide +kernel, by decide +kernel⟩, List.mem_of_getElem? (i := 755) (by decide +kernel), List.mem_of_getElem? (i := 949) (by decide +kernel), List.mem_of_getElem? (i := 950) (by decide +kernel)⟩
def lw_privs_2 : List (MethodName × Nat) := [(⟨"PoolsHall", "greatestPoints", "(II)I"⟩, 9), (⟨"PoolsHall$Scale", "greatestLow", "(J)I"⟩, 4), (⟨"PoolsHall", "mostWorth", "()I"⟩, 9), (⟨"PoolsHall", "sizeWithPoints", "(III)I"⟩, 9), (⟨"PoolsHall", "leastWorth", "()I"⟩, 9), (⟨"PoolsHall$Books", "sharesTogether", "()I"⟩, 11), (⟨"PoolsHall$Books", "openPrizes", "()V"⟩, 11), (⟨"PoolsHall$Books", "payDividend", "(ILPoolsHall$Scale;I)J"⟩, 11), (⟨"PoolsHall$Books", "winningCoins", "(IILPoolsHall$Scale;)J"⟩, 11), (⟨"PoolsHall$Books", "beginNextWeek", "()V"⟩, 11), (⟨"java/lang/Throwable", "fillInStackTrace", "(I)Ljava/lang/Throwable;"⟩, 6), (⟨"PoolsHall$LineSet", "allWordsAsOne", "()J"⟩, 1), (⟨"PoolsHallModel", "outcomeOf", "(I)I"⟩, 44), (⟨"PoolsHallModel", "lay", "(I)V"⟩, 44), (⟨"PoolsHallModel", "readPlan", "(I)Z"⟩, 44), (⟨"PoolsHallModel", "readAlt", "(I)Z"⟩, 44)]
theorem lw_r2 : ∀ q ∈ lw_privs_2, lw_okq q := List.forall_mem_cons.mpr ⟨lw_p16, List.forall_mem_cons.mpr ⟨lw_p17, List.forall_mem_cons.mpr ⟨lw_p18, List.forall_mem_cons.mpr ⟨lw_p19, List.forall_mem_cons.mpr ⟨lw_p20, List.forall_mem_cons.mpr ⟨lw_p21, List.forall_mem_cons.mpr ⟨lw_p22, List.forall_mem_cons.mpr ⟨lw_p23, List.forall_mem_cons.mpr ⟨lw_p24, List.forall_mem_cons.mpr ⟨lw_p25, List.forall_mem_cons.mpr ⟨lw_p26, List.forall_mem_cons.mpr ⟨lw_p27, List.forall_mem_cons.mpr ⟨lw_p28, List.forall_mem_cons.mpr ⟨lw_p29, List.forall_mem_cons.mpr ⟨lw_p30, List.forall_mem_cons.mpr ⟨lw_p31, fun _ h => absurd h List.not_mem_nil⟩⟩⟩⟩⟩⟩⟩⟩⟩⟩⟩⟩⟩⟩⟩⟩
theorem lw_p32 : lw_okq (⟨"PoolsHallModel", "readOne", "(I)Z"⟩, 44) := ⟨⟨by decide +kernel, by decide +kernel⟩, List.mem_of_getElem? (i := 755) (by decide +kernel), List.mem_of_getElem? (i := 953) (by decide +kernel), List.mem_of_getElem? (i := 954) (by decide +kernel)⟩
theorem lw_p33 : lw_okq (⟨"PoolsHallModel", "here", "()I"⟩, 44) := ⟨⟨by decide +kernel, by decide +kernel⟩, List.mem_of_getElem? (i := 755) (by decide +kernel), List.mem_of_getElem? (i := 957) (by decide +kernel), List.mem_of_getElem? (i := 958) (by decide +kernel)⟩
theorem lw_p34 : lw_okq (⟨"PoolsHallModel", "readPart", "()Z"⟩, 44) := ⟨⟨by decide +kernel, by decide +kernel⟩, List.mem_of_getElem? (i := 755) (by decide +kernel), List.mem_of_getElem? (i := 961) (by decide +kernel), List.mem_of_getElem? (i := 962) (by decide +kernel)⟩
theorem lw_p35 : lw_okq (⟨"PoolsHallModel", "isDigit", "()Z"⟩, 44) := ⟨⟨by decide +kernel, by decide +kernel⟩, List.mem_of_getElem? (i := 755) (by decide +kernel), List.mem_of_getElem? (i := 965) (by decide +kernel), List.mem_of_getElem? (i := 966) (by decide +kernel)⟩
theorem lw_p36 : lw_okq (⟨"PoolsHallModel", "fails", "(II)Z"⟩, 44) := ⟨⟨by decide +kernel, by decide +kernel⟩, List.mem_of_getElem? (i := 755) (by decide +kernel), List.mem_of_getElem? (i := 969) (by decide +kernel), List.mem_of_getElem? (i := 970) (by decide +kernel)⟩
theorem lw_p37 : lw_okq (⟨"PoolsHallModel", "number", "()I"⟩, 44) := ⟨⟨by decide +kernel, by decide +kernel⟩, List.mem_of_getElem? (i := 755) (by decide +kernel), List.mem_of_getElem? (i := 973) (by decide +kernel), List.mem_of_getElem? (i := 974) (by decide +kernel)⟩
theorem lw_p38 : lw_okq (⟨"PoolsHallModel", "put", "()V"⟩, 44) := ⟨⟨by decide +kernel, by decide +kernel⟩, List.mem_of_getElem? (i := 755) (by decide +kernel), List.mem_of_getElem? (i := 978) (by decide +kernel), List.mem_of_getElem? (i := 979) (by decide +kernel)⟩
theorem lw_p39 : lw_okq (⟨"PoolsHallModel", "count", "(I[I)I"⟩, 44) := ⟨⟨by decide +kernel, by decide +kernel⟩, List.mem_of_getElem? (i := 755) (by decide +kernel), List.mem_of_getElem? (i := 982) (by decide +kernel), List.mem_of_getElem? (i := 983) (by decide +kernel)⟩
theorem lw_p40 : lw_okq (⟨"PoolsHallModel", "join", "(I)V"⟩, 44) := ⟨⟨by decide +kernel, by decide +kernel⟩, List.mem_of_getElem? (i := 755) (by decide +kernel), List.mem_of_getElem? (i := 986) (by decide +kernel), List.mem_of_getElem? (i := 987) (by decide +kernel)⟩
theorem lw_p41 : lw_okq (⟨"PoolsHallModel", "isCoupon", "(I)Z"⟩, 44) := ⟨⟨by decide +kernel, by decide +kernel⟩, List.mem_of_getElem? (i := 755) (by decide +kernel), List.mem_of_getElem? (i := 998) (by decide +kernel), List.mem_of_getElem? (i := 999) (by decide +kernel)⟩
theorem lw_p42 : lw_okq (⟨"PoolsHallModel", "below0", "(II)I"⟩, 44) := ⟨⟨by decide +kernel, by decide +kernel⟩, List.mem_of_getElem? (i := 755) (by decide +kernel), List.mem_of_getElem? (i := 1007) (by decide +kernel), List.mem_of_getElem? (i := 1008) (by decide +kernel)⟩
theorem lw_p43 : lw_okq (⟨"PoolsHallModel", "has", "(II)Z"⟩, 44) := ⟨⟨by decide +kernel, by decide +kernel⟩, List.mem_of_getElem? (i := 755) (by decide +kernel), List.mem_of_getElem? (i := 1011) (by decide +kernel), List.mem_of_getElem? (i := 1012) (by decide +kernel)⟩
theorem lw_p44 : lw_okq (⟨"PoolsHallModel", "between", "(IIJJ)I"⟩, 44) := ⟨⟨by decide +kernel, by decide +kernel⟩, List.mem_of_getElem? (i := 755) (by decide +kernel), List.mem_of_getElem? (i := 1032) (by decide +kernel), List.mem_of_getElem? (i := 1033) (by decide +kernel)⟩
theorem lw_p45 : lw_okq (⟨"PoolsHallModel", "pointsOf", "(II)I"⟩, 44) := ⟨⟨by decide +kernel, by decide +kernel⟩, List.mem_of_getElem? (i := 755) (by decide +kernel), List.mem_of_getElem? (i := 1036) (by decide +kernel), List.mem_of_getElem? (i := 1037) (by decide +kernel)⟩
theorem lw_p46 : lw_okq (⟨"PoolsHallModel", "greatest", "(II)I"⟩, 44) := ⟨⟨by decide +kernel, by decide +kernel⟩, List.mem_of_getElem? (i := 755) (by decide +kernel), List.mem_of_getElem? (i := 1044) (by decide +kernel), List.mem_of_getElem? (i := 1045) (by decide +kernel)⟩
theorem lw_p47 : lw_okq (⟨"PoolsHallModel", "most", "()I"⟩, 44) := ⟨⟨by decide +kernel, by decide +kernel⟩, List.mem_of_getElem? (i := 755) (by decide +kernel), List.mem_of_getElem? (i := 1052) (by decide +kernel), List.mem_of_getElem? (i := 1053) (by decide +kernel)⟩
def lw_privs_3 : List (MethodName × Nat) := [(⟨"PoolsHallModel", "readOne", "(I)Z"⟩, 44), (⟨"PoolsHallModel", "here", "()I"⟩, 44), (⟨"PoolsHallModel", "readPart", "()Z"⟩, 44), (⟨"PoolsHallModel", "isDigit", "()Z"⟩, 44), (⟨"PoolsHallModel", "fails", "(II)Z"⟩, 44), (⟨"PoolsHallModel", "number", "()I"⟩, 44), (⟨"PoolsHallModel", "put", "()V"⟩, 44), (⟨"PoolsHallModel", "count", "(I[I)I"⟩, 44), (⟨"PoolsHallModel", "join", "(I)V"⟩, 44), (⟨"PoolsHallModel", "isCoupon", "(I)Z"⟩, 44), (⟨"PoolsHallModel", "below0", "(II)I"⟩, 44), (⟨"PoolsHallModel", "has", "(II)Z"⟩, 44), (⟨"PoolsHallModel", "between", "(IIJJ)I"⟩, 44), (⟨"PoolsHallModel", "pointsOf", "(II)I"⟩, 44), (⟨"PoolsHallModel", "greatest", "(II)I"⟩, 44), (⟨"PoolsHallModel", "most", "()I"⟩, 44)]
theorem lw_r3 : ∀ q ∈ lw_privs_3, lw_okq q := List.forall_mem_cons.mpr ⟨lw_p32, List.forall_mem_cons.mpr ⟨lw_p33, List.forall_mem_cons.mpr ⟨lw_p34, List.forall_mem_cons.mpr ⟨lw_p35, List.forall_mem_cons.mpr ⟨lw_p36, List.forall_mem_cons.mpr ⟨lw_p37, List.forall_mem_cons.mpr ⟨lw_p38, List.forall_mem_cons.mpr ⟨lw_p39, List.forall_mem_cons.mpr ⟨lw_p40, List.forall_mem_cons.mpr ⟨lw_p41, List.forall_mem_cons.mpr ⟨lw_p42, List.forall_mem_cons.mpr ⟨lw_p43, List.forall_mem_cons.mpr ⟨lw_p44, List.forall_mem_cons.mpr ⟨lw_p45, List.forall_mem_cons.mpr ⟨lw_p46, List.forall_mem_cons.mpr ⟨lw_p47, fun _ h => absurd h List.not_mem_nil⟩⟩⟩⟩⟩⟩⟩⟩⟩⟩⟩⟩⟩⟩⟩⟩
theorem lw_p48 : lw_okq (⟨"PoolsHallModel", "fewest", "()I"⟩, 44) := ⟨⟨by decide +kernel, by decide +kernel⟩, List.mem_of_getElem? (i := 755) (by decide +kernel), List.mem_of_getElem? (i := 1065) (by decide +kernel), List.mem_of_getElem? (i := 1066) (by decide +kernel)⟩
theorem lw_p49 : lw_okq (⟨"PoolsHallModel", "carried", "()J"⟩, 44) := ⟨⟨by decide +kernel, by decide +kernel⟩, List.mem_of_getElem? (i := 755) (by decide +kernel), List.mem_of_getElem? (i := 1083) (by decide +kernel), List.mem_of_getElem? (i := 1084) (by decide +kernel)⟩
theorem lw_p50 : lw_okq (⟨"PoolsHallModel", "keepThen", "()V"⟩, 44) := ⟨⟨by decide +kernel, by decide +kernel⟩, List.mem_of_getElem? (i := 755) (by decide +kernel), List.mem_of_getElem? (i := 1091) (by decide +kernel), List.mem_of_getElem? (i := 1092) (by decide +kernel)⟩
theorem lw_p51 : lw_okq (⟨"PoolsHallModel", "stakes", "()J"⟩, 44) := ⟨⟨by decide +kernel, by decide +kernel⟩, List.mem_of_getElem? (i := 755) (by decide +kernel), List.mem_of_getElem? (i := 1101) (by decide +kernel), List.mem_of_getElem? (i := 1102) (by decide +kernel)⟩
def lw_privs_4 : List (MethodName × Nat) := [(⟨"PoolsHallModel", "fewest", "()I"⟩, 44), (⟨"PoolsHallModel", "carried", "()J"⟩, 44), (⟨"PoolsHallModel", "keepThen", "()V"⟩, 44), (⟨"PoolsHallModel", "stakes", "()J"⟩, 44)]
theorem lw_r4 : ∀ q ∈ lw_privs_4, lw_okq q := List.forall_mem_cons.mpr ⟨lw_p48, List.forall_mem_cons.mpr ⟨lw_p49, List.forall_mem_cons.mpr ⟨lw_p50, List.forall_mem_cons.mpr ⟨lw_p51, fun _ h => absurd h List.not_mem_nil⟩⟩⟩⟩
def lw_privs : List (MethodName × Nat) := lw_privs_1 ++ (lw_privs_2 ++ (lw_privs_3 ++ (lw_privs_4)))
def lw_tbl : List Cond := k2_sels lw_privs ++ tables_1
theorem lw_privs_ok : ∀ q ∈ lw_privs, lw_okq q := by
  show ∀ q ∈ lw_privs_1 ++ (lw_privs_2 ++ (lw_privs_3 ++ (lw_privs_4))), lw_okq q
  exact List.forall_mem_append.mpr ⟨lw_r1, List.forall_mem_append.mpr ⟨lw_r2, List.forall_mem_append.mpr ⟨lw_r3, lw_r4⟩⟩⟩
end
section
def RX0 : String := "PoolsHall$Books"
def TX0 : u_T := fun k => match k with
  | 0 => ("PoolsHall$Books", "week", "I", false)
  | 1 => ("PoolsHall$Books", "hallMoney", "J", false)
  | 2 => ("PoolsHall$Books", "paidMoney", "J", false)
  | 3 => ("PoolsHall$Books", "outcomes", "[I", true)
  | 4 => ("PoolsHall$Books", "coupons", "[LPoolsHall$Coupon;", true)
  | 5 => ("PoolsHall$Books", "couponsHeld", "I", false)
  | 6 => ("PoolsHall$Books", "dividends", "[LPoolsHall$Dividend;", true)
  | 7 => ("PoolsHall$Books", "dividendsHeld", "I", false)
  | 8 => ("PoolsHall$Books", "prizes", "[J", true)
  | 9 => ("PoolsHall$Books", "prizeParts", "[I", true)
  | _ => ("PoolsHall$Books", "prizesHeld", "I", false)
def tyX0 : Nat → FieldType := fun k => match k with
  | 0 => .int
  | 1 => .long
  | 2 => .long
  | 3 => .array .int
  | 4 => .array (.object "PoolsHall$Coupon")
  | 5 => .int
  | 6 => .array (.object "PoolsHall$Dividend")
  | 7 => .int
  | 8 => .array .long
  | 9 => .array .int
  | _ => .int
theorem nmX0 : ∀ a, a < 11 → ∀ b, b < 11 → a ≠ b → (TX0 a).2.1 ≠ (TX0 b).2.1 := by decide +kernel
theorem tyX0_ok : ∀ k, k < 11 → parseFieldDescriptor (TX0 k).2.2.1 = some (tyX0 k) := by decide +kernel
abbrev cX0_init : ByteArray := prog_2_method_1_code
def yX0_init : MethodName := ⟨RX0, "<init>", "()V"⟩
abbrev cX0_copyFrom : ByteArray := prog_2_method_2_code
def yX0_copyFrom : MethodName := ⟨RX0, "copyFrom", "(LPoolsHall$Books;)V"⟩
abbrev cX0_couponAt : ByteArray := prog_2_method_3_code
def yX0_couponAt : MethodName := ⟨RX0, "couponAt", "(I)LPoolsHall$Coupon;"⟩
abbrev cX0_addCoupon : ByteArray := prog_2_method_4_code
def yX0_addCoupon : MethodName := ⟨RX0, "addCoupon", "(LPoolsHall$Coupon;)I"⟩
abbrev cX0_dividendAt : ByteArray := prog_2_method_5_code
def yX0_dividendAt : MethodName := ⟨RX0, "dividendAt", "(I)LPoolsHall$Dividend;"⟩
abbrev cX0_addDividend : ByteArray := prog_2_method_6_code
def yX0_addDividend : MethodName := ⟨RX0, "addDividend", "(III)I"⟩
abbrev cX0_sharesTogether : ByteArray := prog_2_method_7_code
def yX0_sharesTogether : MethodName := ⟨RX0, "sharesTogether", "()I"⟩
abbrev cX0_dropDividends : ByteArray := prog_2_method_8_code
def yX0_dropDividends : MethodName := ⟨RX0, "dropDividends", "()I"⟩
abbrev cX0_carriedMoney : ByteArray := prog_2_method_9_code
def yX0_carriedMoney : MethodName := ⟨RX0, "carriedMoney", "()J"⟩
abbrev cX0_matchesDecided : ByteArray := prog_2_method_10_code
def yX0_matchesDecided : MethodName := ⟨RX0, "matchesDecided", "()I"⟩
abbrev cX0_stakesInPlay : ByteArray := prog_2_method_11_code
def yX0_stakesInPlay : MethodName := ⟨RX0, "stakesInPlay", "()J"⟩
abbrev cX0_closeWeek : ByteArray := prog_2_method_12_code
def yX0_closeWeek : MethodName := ⟨RX0, "closeWeek", "(LPoolsHall$Scale;II)J"⟩
abbrev cX0_openPrizes : ByteArray := prog_2_method_13_code
def yX0_openPrizes : MethodName := ⟨RX0, "openPrizes", "()V"⟩
abbrev cX0_payDividend : ByteArray := prog_2_method_14_code
def yX0_payDividend : MethodName := ⟨RX0, "payDividend", "(ILPoolsHall$Scale;I)J"⟩
abbrev cX0_winningCoins : ByteArray := prog_2_method_15_code
def yX0_winningCoins : MethodName := ⟨RX0, "winningCoins", "(IILPoolsHall$Scale;)J"⟩
abbrev cX0_beginNextWeek : ByteArray := prog_2_method_16_code
def yX0_beginNextWeek : MethodName := ⟨RX0, "beginNextWeek", "()V"⟩
abbrev cX0_prizeTold : ByteArray := prog_2_method_17_code
def yX0_prizeTold : MethodName := ⟨RX0, "prizeTold", "(II)J"⟩
def RX1 : String := "PoolsHall$Coupon"
def TX1 : u_T := fun k => match k with
  | 0 => ("PoolsHall$Coupon", "lines", "LPoolsHall$LineSet;", true)
  | 1 => ("PoolsHall$Coupon", "size", "I", true)
  | 2 => ("PoolsHall$Coupon", "price", "I", true)
  | 3 => ("PoolsHall$Coupon", "parts", "I", true)
  | _ => ("PoolsHall$Coupon", "isVoid", "Z", false)
def tyX1 : Nat → FieldType := fun k => match k with
  | 0 => .object "PoolsHall$LineSet"
  | 1 => .int
  | 2 => .int
  | 3 => .int
  | _ => .boolean
theorem nmX1 : ∀ a, a < 5 → ∀ b, b < 5 → a ≠ b → (TX1 a).2.1 ≠ (TX1 b).2.1 := by decide +kernel
theorem tyX1_ok : ∀ k, k < 5 → parseFieldDescriptor (TX1 k).2.2.1 = some (tyX1 k) := by decide +kernel
abbrev cX1_init : ByteArray := prog_3_method_1_code
def yX1_init : MethodName := ⟨RX1, "<init>", "(LPoolsHall$LineSet;II)V"⟩
abbrev cX1_stakeInCoins : ByteArray := prog_3_method_2_code
def yX1_stakeInCoins : MethodName := ⟨RX1, "stakeInCoins", "()I"⟩
def RX2 : String := "PoolsHall$Dividend"
def TX2 : u_T := fun k => match k with
  | 0 => ("PoolsHall$Dividend", "least", "I", false)
  | 1 => ("PoolsHall$Dividend", "share", "I", false)
  | 2 => ("PoolsHall$Dividend", "ceiling", "I", false)
  | 3 => ("PoolsHall$Dividend", "carried", "J", false)
  | 4 => ("PoolsHall$Dividend", "winners", "J", false)
  | _ => ("PoolsHall$Dividend", "coin", "J", false)
def tyX2 : Nat → FieldType := fun k => match k with
  | 0 => .int
  | 1 => .int
  | 2 => .int
  | 3 => .long
  | 4 => .long
  | _ => .long
theorem nmX2 : ∀ a, a < 6 → ∀ b, b < 6 → a ≠ b → (TX2 a).2.1 ≠ (TX2 b).2.1 := by decide +kernel
theorem tyX2_ok : ∀ k, k < 6 → parseFieldDescriptor (TX2 k).2.2.1 = some (tyX2 k) := by decide +kernel
abbrev cX2_init : ByteArray := prog_4_method_1_code
def yX2_init : MethodName := ⟨RX2, "<init>", "()V"⟩
abbrev cX2_begin : ByteArray := prog_4_method_2_code
def yX2_begin : MethodName := ⟨RX2, "begin", "(III)V"⟩
abbrev cX2_copyFrom : ByteArray := prog_4_method_3_code
def yX2_copyFrom : MethodName := ⟨RX2, "copyFrom", "(LPoolsHall$Dividend;)V"⟩
abbrev cX2_pay : ByteArray := prog_4_method_4_code
def yX2_pay : MethodName := ⟨RX2, "pay", "(JI)J"⟩
def RX3 : String := "PoolsHall$LineSet"
def TX3 : u_T := fun k => match k with
  | _ => ("PoolsHall$LineSet", "words", "[J", true)
def tyX3 : Nat → FieldType := fun k => match k with
  | _ => .array .long
theorem nmX3 : ∀ a, a < 1 → ∀ b, b < 1 → a ≠ b → (TX3 a).2.1 ≠ (TX3 b).2.1 := by decide +kernel
theorem tyX3_ok : ∀ k, k < 1 → parseFieldDescriptor (TX3 k).2.2.1 = some (tyX3 k) := by decide +kernel
abbrev cX3_init : ByteArray := prog_5_method_1_code
def yX3_init : MethodName := ⟨RX3, "<init>", "()V"⟩
abbrev cX3_copyFrom : ByteArray := prog_5_method_2_code
def yX3_copyFrom : MethodName := ⟨RX3, "copyFrom", "(LPoolsHall$LineSet;)V"⟩
abbrev cX3_becomeChoices : ByteArray := prog_5_method_3_code
def yX3_becomeChoices : MethodName := ⟨RX3, "becomeChoices", "(II)V"⟩
abbrev cX3_addAll : ByteArray := prog_5_method_4_code
def yX3_addAll : MethodName := ⟨RX3, "addAll", "(LPoolsHall$LineSet;)V"⟩
abbrev cX3_keepCommon : ByteArray := prog_5_method_5_code
def yX3_keepCommon : MethodName := ⟨RX3, "keepCommon", "(LPoolsHall$LineSet;)V"⟩
abbrev cX3_takeAway : ByteArray := prog_5_method_6_code
def yX3_takeAway : MethodName := ⟨RX3, "takeAway", "(LPoolsHall$LineSet;)V"⟩
abbrev cX3_becomeJoined : ByteArray := prog_5_method_7_code
def yX3_becomeJoined : MethodName := ⟨RX3, "becomeJoined", "(LPoolsHall$LineSet;LPoolsHall$LineSet;)V"⟩
abbrev cX3_addJoined : ByteArray := prog_5_method_8_code
def yX3_addJoined : MethodName := ⟨RX3, "addJoined", "(IILPoolsHall$LineSet;)V"⟩
abbrev cX3_wordWithout : ByteArray := prog_5_method_9_code
def yX3_wordWithout : MethodName := ⟨RX3, "wordWithout", "(I)J"⟩
abbrev cX3_sizeOfAll : ByteArray := prog_5_method_10_code
def yX3_sizeOfAll : MethodName := ⟨RX3, "sizeOfAll", "()I"⟩
abbrev cX3_sizeUnder : ByteArray := prog_5_method_11_code
def yX3_sizeUnder : MethodName := ⟨RX3, "sizeUnder", "(I)I"⟩
abbrev cX3_numberAt : ByteArray := prog_5_method_12_code
def yX3_numberAt : MethodName := ⟨RX3, "numberAt", "(I)I"⟩
abbrev cX3_placeOfBit : ByteArray := prog_5_method_13_code
def yX3_placeOfBit : MethodName := ⟨RX3, "placeOfBit", "(JI)I"⟩
abbrev cX3_leastInJustOne : ByteArray := prog_5_method_14_code
def yX3_leastInJustOne : MethodName := ⟨RX3, "leastInJustOne", "(LPoolsHall$LineSet;)I"⟩
abbrev cX3_matchesInSome : ByteArray := prog_5_method_15_code
def yX3_matchesInSome : MethodName := ⟨RX3, "matchesInSome", "()I"⟩
abbrev cX3_matchesInAll : ByteArray := prog_5_method_16_code
def yX3_matchesInAll : MethodName := ⟨RX3, "matchesInAll", "()I"⟩
abbrev cX3_allWordsAsOne : ByteArray := prog_5_method_17_code
def yX3_allWordsAsOne : MethodName := ⟨RX3, "allWordsAsOne", "()J"⟩
def RX4 : String := "PoolsHall$PlanReader"
def TX4 : u_T := fun k => match k with
  | 0 => ("PoolsHall$PlanReader", "faultKind", "I", false)
  | 1 => ("PoolsHall$PlanReader", "faultPlace", "I", false)
  | 2 => ("PoolsHall$PlanReader", "tape", "LPoolsHall$Tape;", true)
  | 3 => ("PoolsHall$PlanReader", "sets", "[LPoolsHall$LineSet;", true)
  | 4 => ("PoolsHall$PlanReader", "spare", "LPoolsHall$LineSet;", false)
  | 5 => ("PoolsHall$PlanReader", "height", "I", false)
  | _ => ("PoolsHall$PlanReader", "at", "I", false)
def tyX4 : Nat → FieldType := fun k => match k with
  | 0 => .int
  | 1 => .int
  | 2 => .object "PoolsHall$Tape"
  | 3 => .array (.object "PoolsHall$LineSet")
  | 4 => .object "PoolsHall$LineSet"
  | 5 => .int
  | _ => .int
theorem nmX4 : ∀ a, a < 7 → ∀ b, b < 7 → a ≠ b → (TX4 a).2.1 ≠ (TX4 b).2.1 := by decide +kernel
theorem tyX4_ok : ∀ k, k < 7 → parseFieldDescriptor (TX4 k).2.2.1 = some (tyX4 k) := by decide +kernel
abbrev cX4_init : ByteArray := prog_6_method_1_code
def yX4_init : MethodName := ⟨RX4, "<init>", "(LPoolsHall$Tape;)V"⟩
abbrev cX4_forgetFault : ByteArray := prog_6_method_2_code
def yX4_forgetFault : MethodName := ⟨RX4, "forgetFault", "()V"⟩
abbrev cX4_readTape : ByteArray := prog_6_method_3_code
def yX4_readTape : MethodName := ⟨RX4, "readTape", "()LPoolsHall$LineSet;"⟩
abbrev cX4_readPlan : ByteArray := prog_6_method_4_code
def yX4_readPlan : MethodName := ⟨RX4, "readPlan", "(I)Z"⟩
abbrev cX4_readAlternative : ByteArray := prog_6_method_5_code
def yX4_readAlternative : MethodName := ⟨RX4, "readAlternative", "(I)Z"⟩
abbrev cX4_readPart : ByteArray := prog_6_method_6_code
def yX4_readPart : MethodName := ⟨RX4, "readPart", "(I)Z"⟩
abbrev cX4_readInBrackets : ByteArray := prog_6_method_7_code
def yX4_readInBrackets : MethodName := ⟨RX4, "readInBrackets", "(I)Z"⟩
abbrev cX4_readChoices : ByteArray := prog_6_method_8_code
def yX4_readChoices : MethodName := ⟨RX4, "readChoices", "()Z"⟩
abbrev cX4_readMatches : ByteArray := prog_6_method_9_code
def yX4_readMatches : MethodName := ⟨RX4, "readMatches", "()I"⟩
abbrev cX4_readNumber : ByteArray := prog_6_method_10_code
def yX4_readNumber : MethodName := ⟨RX4, "readNumber", "()I"⟩
abbrev cX4_digitsHere : ByteArray := prog_6_method_11_code
def yX4_digitsHere : MethodName := ⟨RX4, "digitsHere", "()I"⟩
abbrev cX4_isDigit : ByteArray := prog_6_method_12_code
def yX4_isDigit : MethodName := ⟨RX4, "isDigit", "(I)Z"⟩
abbrev cX4_isSetSign : ByteArray := prog_6_method_13_code
def yX4_isSetSign : MethodName := ⟨RX4, "isSetSign", "(I)Z"⟩
abbrev cX4_stopAt : ByteArray := prog_6_method_14_code
def yX4_stopAt : MethodName := ⟨RX4, "stopAt", "(II)Z"⟩
abbrev cX4_pushChoices : ByteArray := prog_6_method_15_code
def yX4_pushChoices : MethodName := ⟨RX4, "pushChoices", "(II)V"⟩
abbrev cX4_combineTopTwo : ByteArray := prog_6_method_16_code
def yX4_combineTopTwo : MethodName := ⟨RX4, "combineTopTwo", "(I)V"⟩
def RX5 : String := "PoolsHall$Scale"
def TX5 : u_T := fun k => match k with
  | 0 => ("PoolsHall$Scale", "weights", "[I", true)
  | 1 => ("PoolsHall$Scale", "lowSums", "[I", true)
  | 2 => ("PoolsHall$Scale", "highSums", "[I", true)
  | _ => ("PoolsHall$Scale", "lowFrom", "[J", true)
def tyX5 : Nat → FieldType := fun k => match k with
  | 0 => .array .int
  | 1 => .array .int
  | 2 => .array .int
  | _ => .array .long
theorem nmX5 : ∀ a, a < 4 → ∀ b, b < 4 → a ≠ b → (TX5 a).2.1 ≠ (TX5 b).2.1 := by decide +kernel
theorem tyX5_ok : ∀ k, k < 4 → parseFieldDescriptor (TX5 k).2.2.1 = some (tyX5 k) := by decide +kernel
abbrev cX5_init : ByteArray := prog_7_method_1_code
def yX5_init : MethodName := ⟨RX5, "<init>", "()V"⟩
abbrev cX5_weigh : ByteArray := prog_7_method_2_code
def yX5_weigh : MethodName := ⟨RX5, "weigh", "([I[II)V"⟩
abbrev cX5_fillSums : ByteArray := prog_7_method_3_code
def yX5_fillSums : MethodName := ⟨RX5, "fillSums", "([II)V"⟩
abbrev cX5_fillLowFrom : ByteArray := prog_7_method_4_code
def yX5_fillLowFrom : MethodName := ⟨RX5, "fillLowFrom", "()V"⟩
abbrev cX5_sizeFrom : ByteArray := prog_7_method_5_code
def yX5_sizeFrom : MethodName := ⟨RX5, "sizeFrom", "(LPoolsHall$LineSet;I)I"⟩
abbrev cX5_bitsFrom : ByteArray := prog_7_method_6_code
def yX5_bitsFrom : MethodName := ⟨RX5, "bitsFrom", "(I)J"⟩
abbrev cX5_greatest : ByteArray := prog_7_method_7_code
def yX5_greatest : MethodName := ⟨RX5, "greatest", "(LPoolsHall$LineSet;)I"⟩
abbrev cX5_greatestLow : ByteArray := prog_7_method_8_code
def yX5_greatestLow : MethodName := ⟨RX5, "greatestLow", "(J)I"⟩
def RX6 : String := "PoolsHall$Tape"
def TX6 : u_T := fun k => match k with
  | 0 => ("PoolsHall$Tape", "bytes", "[I", true)
  | _ => ("PoolsHall$Tape", "length", "I", false)
def tyX6 : Nat → FieldType := fun k => match k with
  | 0 => .array .int
  | _ => .int
theorem nmX6 : ∀ a, a < 2 → ∀ b, b < 2 → a ≠ b → (TX6 a).2.1 ≠ (TX6 b).2.1 := by decide +kernel
theorem tyX6_ok : ∀ k, k < 2 → parseFieldDescriptor (TX6 k).2.2.1 = some (tyX6 k) := by decide +kernel
abbrev cX6_init : ByteArray := prog_8_method_1_code
def yX6_init : MethodName := ⟨RX6, "<init>", "()V"⟩
abbrev cX6_hasRoomForFive : ByteArray := prog_8_method_2_code
def yX6_hasRoomForFive : MethodName := ⟨RX6, "hasRoomForFive", "()Z"⟩
abbrev cX6_append : ByteArray := prog_8_method_3_code
def yX6_append : MethodName := ⟨RX6, "append", "(I)V"⟩
abbrev cX6_cutTo : ByteArray := prog_8_method_4_code
def yX6_cutTo : MethodName := ⟨RX6, "cutTo", "(I)Z"⟩
abbrev cX6_byteAt : ByteArray := prog_8_method_5_code
def yX6_byteAt : MethodName := ⟨RX6, "byteAt", "(I)I"⟩
def RX7 : String := "PoolsHall"
def TX7 : u_T := fun k => match k with
  | 0 => ("PoolsHall", "tape", "LPoolsHall$Tape;", true)
  | 1 => ("PoolsHall", "reader", "LPoolsHall$PlanReader;", true)
  | 2 => ("PoolsHall", "scale", "LPoolsHall$Scale;", true)
  | 3 => ("PoolsHall", "now", "LPoolsHall$Books;", true)
  | 4 => ("PoolsHall", "earlier", "LPoolsHall$Books;", true)
  | 5 => ("PoolsHall", "worth", "[I", true)
  | 6 => ("PoolsHall", "canUndo", "Z", false)
  | 7 => ("PoolsHall", "hall", "I", false)
  | _ => ("PoolsHall", "unit", "I", false)
def tyX7 : Nat → FieldType := fun k => match k with
  | 0 => .object "PoolsHall$Tape"
  | 1 => .object "PoolsHall$PlanReader"
  | 2 => .object "PoolsHall$Scale"
  | 3 => .object "PoolsHall$Books"
  | 4 => .object "PoolsHall$Books"
  | 5 => .array .int
  | 6 => .boolean
  | 7 => .int
  | _ => .int
theorem nmX7 : ∀ a, a < 9 → ∀ b, b < 9 → a ≠ b → (TX7 a).2.1 ≠ (TX7 b).2.1 := by decide +kernel
theorem tyX7_ok : ∀ k, k < 9 → parseFieldDescriptor (TX7 k).2.2.1 = some (tyX7 k) := by decide +kernel
abbrev cX7_init : ByteArray := prog_1_method_1_code
def yX7_init : MethodName := ⟨RX7, "<init>", "()V"⟩
abbrev cX7_score : ByteArray := prog_1_method_2_code
def yX7_score : MethodName := ⟨RX7, "score", "(III)Z"⟩
abbrev cX7_panel : ByteArray := prog_1_method_3_code
def yX7_panel : MethodName := ⟨RX7, "panel", "(II)Z"⟩
abbrev cX7_outcome : ByteArray := prog_1_method_4_code
def yX7_outcome : MethodName := ⟨RX7, "outcome", "(I)I"⟩
abbrev cX7_points : ByteArray := prog_1_method_5_code
def yX7_points : MethodName := ⟨RX7, "points", "(II)Z"⟩
abbrev cX7_feed : ByteArray := prog_1_method_6_code
def yX7_feed : MethodName := ⟨RX7, "feed", "(IIIII)I"⟩
abbrev cX7_end : ByteArray := prog_1_method_7_code
def yX7_end : MethodName := ⟨RX7, "end", "(I)Z"⟩
abbrev cX7_coupon : ByteArray := prog_1_method_8_code
def yX7_coupon : MethodName := ⟨RX7, "coupon", "(II)I"⟩
abbrev cX7_fault : ByteArray := prog_1_method_9_code
def yX7_fault : MethodName := ⟨RX7, "fault", "(I)I"⟩
abbrev cX7_tear : ByteArray := prog_1_method_10_code
def yX7_tear : MethodName := ⟨RX7, "tear", "(IZ)Z"⟩
abbrev cX7_told : ByteArray := prog_1_method_11_code
def yX7_told : MethodName := ⟨RX7, "told", "(II)I"⟩
abbrev cX7_line : ByteArray := prog_1_method_12_code
def yX7_line : MethodName := ⟨RX7, "line", "(II)I"⟩
abbrev cX7_below : ByteArray := prog_1_method_13_code
def yX7_below : MethodName := ⟨RX7, "below", "(II)I"⟩
abbrev cX7_unlike : ByteArray := prog_1_method_14_code
def yX7_unlike : MethodName := ⟨RX7, "unlike", "(II)I"⟩
abbrev cX7_win : ByteArray := prog_1_method_15_code
def yX7_win : MethodName := ⟨RX7, "win", "(II)I"⟩
abbrev cX7_best : ByteArray := prog_1_method_16_code
def yX7_best : MethodName := ⟨RX7, "best", "(I)I"⟩
abbrev cX7_still : ByteArray := prog_1_method_17_code
def yX7_still : MethodName := ⟨RX7, "still", "(I)I"⟩
abbrev cX7_could : ByteArray := prog_1_method_18_code
def yX7_could : MethodName := ⟨RX7, "could", "(II)I"⟩
abbrev cX7_sure : ByteArray := prog_1_method_19_code
def yX7_sure : MethodName := ⟨RX7, "sure", "(II)I"⟩
abbrev cX7_house : ByteArray := prog_1_method_20_code
def yX7_house : MethodName := ⟨RX7, "house", "(II)I"⟩
abbrev cX7_dividend : ByteArray := prog_1_method_21_code
def yX7_dividend : MethodName := ⟨RX7, "dividend", "(III)I"⟩
abbrev cX7_repeal : ByteArray := prog_1_method_22_code
def yX7_repeal : MethodName := ⟨RX7, "repeal", "()I"⟩
abbrev cX7_settle : ByteArray := prog_1_method_23_code
def yX7_settle : MethodName := ⟨RX7, "settle", "()J"⟩
abbrev cX7_count : ByteArray := prog_1_method_24_code
def yX7_count : MethodName := ⟨RX7, "count", "(I)J"⟩
abbrev cX7_divided : ByteArray := prog_1_method_25_code
def yX7_divided : MethodName := ⟨RX7, "divided", "(II)J"⟩
abbrev cX7_prize : ByteArray := prog_1_method_26_code
def yX7_prize : MethodName := ⟨RX7, "prize", "(II)J"⟩
abbrev cX7_undo : ByteArray := prog_1_method_27_code
def yX7_undo : MethodName := ⟨RX7, "undo", "()I"⟩
abbrev cX7_isIn : ByteArray := prog_1_method_28_code
def yX7_isIn : MethodName := ⟨RX7, "isIn", "(III)Z"⟩
abbrev cX7_outcomeOfGoals : ByteArray := prog_1_method_29_code
def yX7_outcomeOfGoals : MethodName := ⟨RX7, "outcomeOfGoals", "(II)I"⟩
abbrev cX7_mostWorth : ByteArray := prog_1_method_30_code
def yX7_mostWorth : MethodName := ⟨RX7, "mostWorth", "()I"⟩
abbrev cX7_leastWorth : ByteArray := prog_1_method_31_code
def yX7_leastWorth : MethodName := ⟨RX7, "leastWorth", "()I"⟩
abbrev cX7_weighWithout : ByteArray := prog_1_method_32_code
def yX7_weighWithout : MethodName := ⟨RX7, "weighWithout", "(I)V"⟩
abbrev cX7_greatestPoints : ByteArray := prog_1_method_33_code
def yX7_greatestPoints : MethodName := ⟨RX7, "greatestPoints", "(II)I"⟩
abbrev cX7_sizeWithPoints : ByteArray := prog_1_method_34_code
def yX7_sizeWithPoints : MethodName := ⟨RX7, "sizeWithPoints", "(III)I"⟩
def RX8 : String := "PoolsHallModel"
def TX8 : u_T := fun k => match k with
  | 0 => ("PoolsHallModel", "score", "[I", true)
  | 1 => ("PoolsHallModel", "panel", "[I", true)
  | 2 => ("PoolsHallModel", "points", "[I", true)
  | 3 => ("PoolsHallModel", "tape", "[I", true)
  | 4 => ("PoolsHallModel", "taped", "I", false)
  | 5 => ("PoolsHallModel", "faultKind", "I", false)
  | 6 => ("PoolsHallModel", "faultPlace", "I", false)
  | 7 => ("PoolsHallModel", "lines", "[I", true)
  | 8 => ("PoolsHallModel", "price", "[I", true)
  | 9 => ("PoolsHallModel", "parts", "[I", true)
  | 10 => ("PoolsHallModel", "isVoid", "[Z", true)
  | 11 => ("PoolsHallModel", "coupons", "I", false)
  | 12 => ("PoolsHallModel", "hallOf", "I", false)
  | 13 => ("PoolsHallModel", "unit", "I", false)
  | 14 => ("PoolsHallModel", "dividends", "[J", true)
  | 15 => ("PoolsHallModel", "dividendMany", "I", false)
  | 16 => ("PoolsHallModel", "week", "I", false)
  | 17 => ("PoolsHallModel", "hall", "J", false)
  | 18 => ("PoolsHallModel", "paid", "J", false)
  | 19 => ("PoolsHallModel", "prizes", "[J", true)
  | 20 => ("PoolsHallModel", "prizeParts", "[I", true)
  | 21 => ("PoolsHallModel", "prizeMany", "I", false)
  | 22 => ("PoolsHallModel", "canUndo", "Z", false)
  | 23 => ("PoolsHallModel", "scoreThen", "[I", true)
  | 24 => ("PoolsHallModel", "panelThen", "[I", true)
  | 25 => ("PoolsHallModel", "linesThen", "[I", true)
  | 26 => ("PoolsHallModel", "priceThen", "[I", true)
  | 27 => ("PoolsHallModel", "partsThen", "[I", true)
  | 28 => ("PoolsHallModel", "voidThen", "[Z", true)
  | 29 => ("PoolsHallModel", "couponsThen", "I", false)
  | 30 => ("PoolsHallModel", "dividendsThen", "[J", true)
  | 31 => ("PoolsHallModel", "dividendManyThen", "I", false)
  | 32 => ("PoolsHallModel", "hallThen", "J", false)
  | 33 => ("PoolsHallModel", "paidThen", "J", false)
  | 34 => ("PoolsHallModel", "prizesThen", "[J", true)
  | 35 => ("PoolsHallModel", "prizePartsThen", "[I", true)
  | 36 => ("PoolsHallModel", "prizeManyThen", "I", false)
  | 37 => ("PoolsHallModel", "pile", "[Z", true)
  | 38 => ("PoolsHallModel", "one", "[I", true)
  | 39 => ("PoolsHallModel", "other", "[I", true)
  | 40 => ("PoolsHallModel", "high", "I", false)
  | 41 => ("PoolsHallModel", "thrown", "I", false)
  | 42 => ("PoolsHallModel", "at", "I", false)
  | _ => ("PoolsHallModel", "size", "I", false)
def tyX8 : Nat → FieldType := fun k => match k with
  | 0 => .array .int
  | 1 => .array .int
  | 2 => .array .int
  | 3 => .array .int
  | 4 => .int
  | 5 => .int
  | 6 => .int
  | 7 => .array .int
  | 8 => .array .int
  | 9 => .array .int
  | 10 => .array .boolean
  | 11 => .int
  | 12 => .int
  | 13 => .int
  | 14 => .array .long
  | 15 => .int
  | 16 => .int
  | 17 => .long
  | 18 => .long
  | 19 => .array .long
  | 20 => .array .int
  | 21 => .int
  | 22 => .boolean
  | 23 => .array .int
  | 24 => .array .int
  | 25 => .array .int
  | 26 => .array .int
  | 27 => .array .int
  | 28 => .array .boolean
  | 29 => .int
  | 30 => .array .long
  | 31 => .int
  | 32 => .long
  | 33 => .long
  | 34 => .array .long
  | 35 => .array .int
  | 36 => .int
  | 37 => .array .boolean
  | 38 => .array .int
  | 39 => .array .int
  | 40 => .int
  | 41 => .int
  | 42 => .int
  | _ => .int
theorem nmX8 : ∀ a, a < 44 → ∀ b, b < 44 → a ≠ b → (TX8 a).2.1 ≠ (TX8 b).2.1 := by decide +kernel
theorem tyX8_ok : ∀ k, k < 44 → parseFieldDescriptor (TX8 k).2.2.1 = some (tyX8 k) := by decide +kernel
abbrev cX8_init : ByteArray := prog_10_method_1_code
def yX8_init : MethodName := ⟨RX8, "<init>", "()V"⟩
abbrev cX8_thrown : ByteArray := prog_10_method_2_code
def yX8_thrown : MethodName := ⟨RX8, "thrown", "()I"⟩
abbrev cX8_in : ByteArray := prog_10_method_3_code
def yX8_in : MethodName := ⟨RX8, "in", "(JJJ)Z"⟩
abbrev cX8_score : ByteArray := prog_10_method_4_code
def yX8_score : MethodName := ⟨RX8, "score", "(III)Z"⟩
abbrev cX8_panel : ByteArray := prog_10_method_5_code
def yX8_panel : MethodName := ⟨RX8, "panel", "(II)Z"⟩
abbrev cX8_outcomeOf : ByteArray := prog_10_method_6_code
def yX8_outcomeOf : MethodName := ⟨RX8, "outcomeOf", "(I)I"⟩
abbrev cX8_outcome : ByteArray := prog_10_method_7_code
def yX8_outcome : MethodName := ⟨RX8, "outcome", "(I)I"⟩
abbrev cX8_points : ByteArray := prog_10_method_8_code
def yX8_points : MethodName := ⟨RX8, "points", "(II)Z"⟩
abbrev cX8_lay : ByteArray := prog_10_method_9_code
def yX8_lay : MethodName := ⟨RX8, "lay", "(I)V"⟩
abbrev cX8_feed : ByteArray := prog_10_method_10_code
def yX8_feed : MethodName := ⟨RX8, "feed", "(IIIII)I"⟩
abbrev cX8_end : ByteArray := prog_10_method_11_code
def yX8_end : MethodName := ⟨RX8, "end", "(I)Z"⟩
abbrev cX8_here : ByteArray := prog_10_method_12_code
def yX8_here : MethodName := ⟨RX8, "here", "()I"⟩
abbrev cX8_isDigit : ByteArray := prog_10_method_13_code
def yX8_isDigit : MethodName := ⟨RX8, "isDigit", "()Z"⟩
abbrev cX8_fails : ByteArray := prog_10_method_14_code
def yX8_fails : MethodName := ⟨RX8, "fails", "(II)Z"⟩
abbrev cX8_number : ByteArray := prog_10_method_15_code
def yX8_number : MethodName := ⟨RX8, "number", "()I"⟩
abbrev cX8_readPart : ByteArray := prog_10_method_16_code
def yX8_readPart : MethodName := ⟨RX8, "readPart", "()Z"⟩
abbrev cX8_count : ByteArray := prog_10_method_17_code
def yX8_count : MethodName := ⟨RX8, "count", "(I[I)I"⟩
abbrev cX8_put : ByteArray := prog_10_method_18_code
def yX8_put : MethodName := ⟨RX8, "put", "()V"⟩
abbrev cX8_join : ByteArray := prog_10_method_19_code
def yX8_join : MethodName := ⟨RX8, "join", "(I)V"⟩
abbrev cX8_readAlt : ByteArray := prog_10_method_20_code
def yX8_readAlt : MethodName := ⟨RX8, "readAlt", "(I)Z"⟩
abbrev cX8_readOne : ByteArray := prog_10_method_21_code
def yX8_readOne : MethodName := ⟨RX8, "readOne", "(I)Z"⟩
abbrev cX8_readPlan : ByteArray := prog_10_method_22_code
def yX8_readPlan : MethodName := ⟨RX8, "readPlan", "(I)Z"⟩
abbrev cX8_coupon : ByteArray := prog_10_method_23_code
def yX8_coupon : MethodName := ⟨RX8, "coupon", "(II)I"⟩
abbrev cX8_fault : ByteArray := prog_10_method_24_code
def yX8_fault : MethodName := ⟨RX8, "fault", "(I)I"⟩
abbrev cX8_isCoupon : ByteArray := prog_10_method_25_code
def yX8_isCoupon : MethodName := ⟨RX8, "isCoupon", "(I)Z"⟩
abbrev cX8_has : ByteArray := prog_10_method_26_code
def yX8_has : MethodName := ⟨RX8, "has", "(II)Z"⟩
abbrev cX8_below0 : ByteArray := prog_10_method_27_code
def yX8_below0 : MethodName := ⟨RX8, "below0", "(II)I"⟩
abbrev cX8_tear : ByteArray := prog_10_method_28_code
def yX8_tear : MethodName := ⟨RX8, "tear", "(IZ)Z"⟩
abbrev cX8_told : ByteArray := prog_10_method_29_code
def yX8_told : MethodName := ⟨RX8, "told", "(II)I"⟩
abbrev cX8_line : ByteArray := prog_10_method_30_code
def yX8_line : MethodName := ⟨RX8, "line", "(II)I"⟩
abbrev cX8_below : ByteArray := prog_10_method_31_code
def yX8_below : MethodName := ⟨RX8, "below", "(II)I"⟩
abbrev cX8_unlike : ByteArray := prog_10_method_32_code
def yX8_unlike : MethodName := ⟨RX8, "unlike", "(II)I"⟩
abbrev cX8_pointsOf : ByteArray := prog_10_method_33_code
def yX8_pointsOf : MethodName := ⟨RX8, "pointsOf", "(II)I"⟩
abbrev cX8_most : ByteArray := prog_10_method_34_code
def yX8_most : MethodName := ⟨RX8, "most", "()I"⟩
abbrev cX8_fewest : ByteArray := prog_10_method_35_code
def yX8_fewest : MethodName := ⟨RX8, "fewest", "()I"⟩
abbrev cX8_between : ByteArray := prog_10_method_36_code
def yX8_between : MethodName := ⟨RX8, "between", "(IIJJ)I"⟩
abbrev cX8_greatest : ByteArray := prog_10_method_37_code
def yX8_greatest : MethodName := ⟨RX8, "greatest", "(II)I"⟩
abbrev cX8_win : ByteArray := prog_10_method_38_code
def yX8_win : MethodName := ⟨RX8, "win", "(II)I"⟩
abbrev cX8_best : ByteArray := prog_10_method_39_code
def yX8_best : MethodName := ⟨RX8, "best", "(I)I"⟩
abbrev cX8_still : ByteArray := prog_10_method_40_code
def yX8_still : MethodName := ⟨RX8, "still", "(I)I"⟩
abbrev cX8_could : ByteArray := prog_10_method_41_code
def yX8_could : MethodName := ⟨RX8, "could", "(II)I"⟩
abbrev cX8_sure : ByteArray := prog_10_method_42_code
def yX8_sure : MethodName := ⟨RX8, "sure", "(II)I"⟩
abbrev cX8_house : ByteArray := prog_10_method_43_code
def yX8_house : MethodName := ⟨RX8, "house", "(II)I"⟩
abbrev cX8_dividend : ByteArray := prog_10_method_44_code
def yX8_dividend : MethodName := ⟨RX8, "dividend", "(III)I"⟩
abbrev cX8_carried : ByteArray := prog_10_method_45_code
def yX8_carried : MethodName := ⟨RX8, "carried", "()J"⟩
abbrev cX8_repeal : ByteArray := prog_10_method_46_code
def yX8_repeal : MethodName := ⟨RX8, "repeal", "()I"⟩
abbrev cX8_stakes : ByteArray := prog_10_method_47_code
def yX8_stakes : MethodName := ⟨RX8, "stakes", "()J"⟩
abbrev cX8_copy : ByteArray := prog_10_method_48_code
def yX8_copy : MethodName := ⟨RX8, "copy", "([I[I)V"⟩
abbrev cX8_copy_ : ByteArray := prog_10_method_49_code
def yX8_copy_ : MethodName := ⟨RX8, "copy", "([J[J)V"⟩
abbrev cX8_keepThen : ByteArray := prog_10_method_50_code
def yX8_keepThen : MethodName := ⟨RX8, "keepThen", "()V"⟩
abbrev cX8_settle : ByteArray := prog_10_method_51_code
def yX8_settle : MethodName := ⟨RX8, "settle", "()J"⟩
abbrev cX8_count_ : ByteArray := prog_10_method_52_code
def yX8_count_ : MethodName := ⟨RX8, "count", "(I)J"⟩
abbrev cX8_divided : ByteArray := prog_10_method_53_code
def yX8_divided : MethodName := ⟨RX8, "divided", "(II)J"⟩
abbrev cX8_prize : ByteArray := prog_10_method_54_code
def yX8_prize : MethodName := ⟨RX8, "prize", "(II)J"⟩
abbrev cX8_undo : ByteArray := prog_10_method_55_code
def yX8_undo : MethodName := ⟨RX8, "undo", "()I"⟩
def RJ6 : String := "java/lang/Integer"
def TJ6 : u_T := fun k => match k with
  | _ => ("", "", "", false)
def tyJ6 : Nat → FieldType := fun k => match k with
  | _ => .int
theorem nmJ6 : ∀ a, a < 0 → ∀ b, b < 0 → a ≠ b → (TJ6 a).2.1 ≠ (TJ6 b).2.1 := by decide +kernel
theorem tyJ6_ok : ∀ k, k < 0 → parseFieldDescriptor (TJ6 k).2.2.1 = some (tyJ6 k) := by decide +kernel
abbrev cJ6_numberOfTrailingZeros_0f7a4 : ByteArray := prog_12_method_48_code
def yJ6_numberOfTrailingZeros_0f7a4 : MethodName := ⟨RJ6, "numberOfTrailingZeros", "(I)I"⟩
abbrev cJ6_bitCount_0f7a4 : ByteArray := prog_12_method_49_code
def yJ6_bitCount_0f7a4 : MethodName := ⟨RJ6, "bitCount", "(I)I"⟩
def RJ13 : String := "java/lang/Long"
def TJ13 : u_T := fun k => match k with
  | _ => ("", "", "", false)
def tyJ13 : Nat → FieldType := fun k => match k with
  | _ => .int
theorem nmJ13 : ∀ a, a < 0 → ∀ b, b < 0 → a ≠ b → (TJ13 a).2.1 ≠ (TJ13 b).2.1 := by decide +kernel
theorem tyJ13_ok : ∀ k, k < 0 → parseFieldDescriptor (TJ13 k).2.2.1 = some (tyJ13 k) := by decide +kernel
abbrev cJ13_numberOfTrailingZeros_95d88 : ByteArray := prog_13_method_49_code
def yJ13_numberOfTrailingZeros_95d88 : MethodName := ⟨RJ13, "numberOfTrailingZeros", "(J)I"⟩
abbrev cJ13_bitCount_95d88 : ByteArray := prog_13_method_50_code
def yJ13_bitCount_95d88 : MethodName := ⟨RJ13, "bitCount", "(J)I"⟩
def RJ9 : String := "java/lang/Math"
def TJ9 : u_T := fun k => match k with
  | _ => ("", "", "", false)
def tyJ9 : Nat → FieldType := fun k => match k with
  | _ => .int
theorem nmJ9 : ∀ a, a < 0 → ∀ b, b < 0 → a ≠ b → (TJ9 a).2.1 ≠ (TJ9 b).2.1 := by decide +kernel
theorem tyJ9_ok : ∀ k, k < 0 → parseFieldDescriptor (TJ9 k).2.2.1 = some (tyJ9 k) := by decide +kernel
abbrev cJ9_max_7cf53 : ByteArray := prog_14_method_65_code
def yJ9_max_7cf53 : MethodName := ⟨RJ9, "max", "(II)I"⟩
abbrev cJ9_min_7cf53 : ByteArray := prog_14_method_69_code
def yJ9_min_7cf53 : MethodName := ⟨RJ9, "min", "(II)I"⟩
abbrev cJ9_min_f86c9 : ByteArray := prog_14_method_70_code
def yJ9_min_f86c9 : MethodName := ⟨RJ9, "min", "(JJ)J"⟩
def RJ0 : String := "java/lang/String"
def TJ0 : u_T := fun k => match k with
  | _ => ("", "", "", false)
def tyJ0 : Nat → FieldType := fun k => match k with
  | _ => .int
theorem nmJ0 : ∀ a, a < 0 → ∀ b, b < 0 → a ≠ b → (TJ0 a).2.1 ≠ (TJ0 b).2.1 := by decide +kernel
theorem tyJ0_ok : ∀ k, k < 0 → parseFieldDescriptor (TJ0 k).2.2.1 = some (tyJ0 k) := by decide +kernel
def RJ10 : String := "java/lang/System"
def TJ10 : u_T := fun k => match k with
  | _ => ("", "", "", false)
def tyJ10 : Nat → FieldType := fun k => match k with
  | _ => .int
theorem nmJ10 : ∀ a, a < 0 → ∀ b, b < 0 → a ≠ b → (TJ10 a).2.1 ≠ (TJ10 b).2.1 := by decide +kernel
theorem tyJ10_ok : ∀ k, k < 0 → parseFieldDescriptor (TJ10 k).2.2.1 = some (tyJ10 k) := by decide +kernel
def RJ7 : String := "java/util/Arrays"
def TJ7 : u_T := fun k => match k with
  | _ => ("", "", "", false)
def tyJ7 : Nat → FieldType := fun k => match k with
  | _ => .int
theorem nmJ7 : ∀ a, a < 0 → ∀ b, b < 0 → a ≠ b → (TJ7 a).2.1 ≠ (TJ7 b).2.1 := by decide +kernel
theorem tyJ7_ok : ∀ k, k < 0 → parseFieldDescriptor (TJ7 k).2.2.1 = some (tyJ7 k) := by decide +kernel
abbrev cJ7_fill_d0a16 : ByteArray := prog_19_method_101_code
def yJ7_fill_d0a16 : MethodName := ⟨RJ7, "fill", "([JJ)V"⟩
abbrev cJ7_fill_53178 : ByteArray := prog_19_method_103_code
def yJ7_fill_53178 : MethodName := ⟨RJ7, "fill", "([II)V"⟩
def RL : String := "PoolsHallLaw"
abbrev cL_told : ByteArray := method_3_code
def yL_told : MethodName := ⟨RL, "told", "(LPoolsHall;II[J)I"⟩
abbrev cL_law : ByteArray := code
def yL_law : MethodName := ⟨RL, "law", "([I)Z"⟩
abbrev vwCl : List vw_C := [(RX0, TX0, 11), (RX1, TX1, 5), (RX2, TX2, 6), (RX3, TX3, 1), (RX4, TX4, 7), (RX5, TX5, 4), (RX6, TX6, 2), (RX7, TX7, 9), (RX8, TX8, 44)]
end
section
/-! THE MACHINE, SEEN BY A PURE HEAP: cells by their addresses, counters of what was made -/
abbrev zE : Type := (Nat × vp_A) ⊕ (Nat × List Value)
abbrev zH : Type := (Nat → Option zE) × Nat × Nat
abbrev zF : Type := Launch × va_G × (Nat → ClassId) × Heap
abbrev zX : Type := Program × Env × Room × State × MethodId × Array Value × List Frame × Method × Code × (State → Prop) × Nat
abbrev zLv : Type := List (Nat × Value)
def z_e (dA : Nat → ClassId) (x : zE) : va_E := match x with
  | .inl a => .inl (dA a.1, a.2)
  | .inr o => .inr o
abbrev z_ty (dA : Nat → ClassId) : List (ClassId × FieldType) := [(dA 0, .int), (dA 1, .long), (dA 2, .boolean), (dA 3, .object RX3), (dA 4, .object RX1), (dA 5, .object RX2)]
def z_ms (H : Heap) : List Nat := H.toList.map (fun c => c.slots.size)
def z_sum (n : Nat) (H : Heap) : Nat := ((z_ms H).drop n).sum
def zR (D : va_G) (dA : Nat → ClassId) (H0 : Heap) (h : zH) (H : Heap) : Prop :=
  H.size = H0.size + h.2.1 ∧ z_sum H0.size H = h.2.2 ∧ (∀ q : Nat, q < H0.size → H[q]? = H0[q]?) ∧ ∀ (a : Nat) (x : zE), h.1 a = some x → H0.size ≤ a ∧ va_at D vwCl (a, z_e dA x) H
def z_s (h : zH) (a : Nat) (x : zE) : zH := (fun b => if b = a then some x else h.1 b, h.2)
def z_n (h : zH) (a : Nat) (x : zE) (k : Nat) : zH := (fun b => if b = a then some x else h.1 b, h.2.1 + 1, h.2.2 + k)
theorem z_s_self (h : zH) (a : Nat) (x : zE) : (z_s h a x).1 a = some x := by simp [z_s]
theorem z_s_ne {h : zH} {a b : Nat} {x : zE} (hb : b ≠ a) : (z_s h a x).1 b = h.1 b := by simp [z_s, hb]
theorem z_n_self (h : zH) (a : Nat) (x : zE) (k : Nat) : (z_n h a x k).1 a = some x := by simp [z_n]
theorem z_n_ne {h : zH} {a b k : Nat} {x : zE} (hb : b ≠ a) : (z_n h a x k).1 b = h.1 b := by simp [z_n, hb]
/-! sums of the cells' slots -/
theorem z_ms_get (H : Heap) (i : Nat) : (z_ms H)[i]? = (H[i]?).map (fun c => c.slots.size) := by simp [z_ms]
theorem z_ms_len (H : Heap) : (z_ms H).length = H.size := by simp [z_ms]
theorem z_ms_set {H H1 : Heap} {a : Nat} {c c1 : Cell} (ha : H[a]? = some c) (ha1 : H1[a]? = some c1) (hsz : H1.size = H.size) (ho : ∀ q : Nat, q ≠ a → H1[q]? = H[q]?) (he : c1.slots.size = c.slots.size) : z_ms H1 = z_ms H := by
  apply List.ext_getElem?
  intro i
  rw [z_ms_get, z_ms_get]
  by_cases hi : i = a
  · subst hi; rw [ha, ha1]; simp [he]
  · rw [ho i hi]
theorem z_ms_push {H H1 : Heap} {c : Cell} (hsz : H1.size = H.size + 1) (hc : H1[H.size]? = some c) (ho : ∀ q : Nat, q < H.size → H1[q]? = H[q]?) : z_ms H1 = z_ms H ++ [c.slots.size] := by
  apply List.ext_getElem?
  intro i
  rw [z_ms_get]
  rcases Nat.lt_trichotomy i H.size with hi | hi | hi
  · rw [ho i hi, List.getElem?_append_left (by rw [z_ms_len]; exact hi), z_ms_get]
  · subst hi; rw [hc, List.getElem?_append_right (by rw [z_ms_len]; exact Nat.le_refl _), z_ms_len]; simp
  · rw [Array.getElem?_eq_none (by omega), List.getElem?_eq_none (by simp [z_ms_len]; omega)]; rfl
theorem z_sum_set {n : Nat} {H H1 : Heap} {a : Nat} {c c1 : Cell} (ha : H[a]? = some c) (ha1 : H1[a]? = some c1) (hsz : H1.size = H.size) (ho : ∀ q : Nat, q ≠ a → H1[q]? = H[q]?) (he : c1.slots.size = c.slots.size) : z_sum n H1 = z_sum n H := by
  unfold z_sum; rw [z_ms_set ha ha1 hsz ho he]
theorem z_sum_push {n : Nat} {H H1 : Heap} {c : Cell} (hn : n ≤ H.size) (hsz : H1.size = H.size + 1) (hc : H1[H.size]? = some c) (ho : ∀ q : Nat, q < H.size → H1[q]? = H[q]?) : z_sum n H1 = z_sum n H + c.slots.size := by
  unfold z_sum; rw [z_ms_push hsz hc ho, List.drop_append_of_le_length (by rw [z_ms_len]; exact hn)]; simp
theorem z_sum_split {n : Nat} {H H1 : Heap} (hn : n ≤ H.size) (hs : H.size ≤ H1.size) (ho : ∀ q : Nat, q < H.size → (H1[q]?).map (fun c : Cell => c.slots.size) = (H[q]?).map (fun c : Cell => c.slots.size)) : z_sum n H1 = z_sum n H + z_sum H.size H1 := by
  have e : z_ms H1 = z_ms H ++ (z_ms H1).drop H.size := by
    apply List.ext_getElem?
    intro i
    rw [z_ms_get]
    by_cases hi : i < H.size
    · rw [ho i hi, List.getElem?_append_left (by rw [z_ms_len]; exact hi), z_ms_get]
    · rw [List.getElem?_append_right (by rw [z_ms_len]; omega), z_ms_len, List.getElem?_drop, z_ms_get, show H.size + (i - H.size) = i by omega]
  unfold z_sum
  rw [e, List.drop_append_of_le_length (by rw [z_ms_len]; exact hn), List.sum_append]
  congr 1
  rw [← e]
/-! the book of the cells, made tight: what was made is read off the heap -/
theorem zW_tight {p : Program} {l : Launch} {e : Env} {R : Room} {s : State} {m : MethodId} {args : Array Value} {below : List Frame} {meth : Method} {c : Code} {H : Heap} {locs : List Loc} {k n : Nat} {Q : State → Prop} {g : JFrame} (n0 : Nat) (hn0 : n0 ≤ s.heap.size)
    (kk : s.heap.size ≤ H.size → z_sum n0 s.heap ≤ z_sum n0 H → W p l e R s m args below meth c H locs (H.size - s.heap.size) (z_sum n0 H - z_sum n0 s.heap) Q g) : W p l e R s m args below meth c H locs k n Q g := by
  intro T hT X
  obtain ⟨a1, a2, a3, a4, a5, a6⟩ := X.same
  have b2 : s.heap.size ≤ H.size := by rw [← hT]; exact a2
  have b6 : ∀ q : Nat, q < s.heap.size → (H[q]?).map (fun c : Cell => c.slots.size) = (s.heap[q]?).map (fun c : Cell => c.slots.size) := by
    intro q hq
    obtain ⟨c', e1, e2, e3, e4⟩ := a6 q _ (Array.getElem?_eq_getElem hq)
    have e5 : H[q]? = some c' := by rw [← hT]; exact e1
    rw [e5, Array.getElem?_eq_getElem hq]
    simp [e3]
  have b7 := z_sum_split (n := n0) hn0 b2 b6
  have b8 : z_sum s.heap.size H = ((T.heap.toList.drop s.heap.size).map (fun c : Cell => c.slots.size)).sum := by
    unfold z_sum z_ms
    rw [hT, List.map_drop]
  refine kk b2 (by omega) T hT { X with same := ⟨a1, a2, ?_, a4, ?_, a6⟩ }
  · show T.heap.size ≤ _
    rw [hT]; omega
  · show ((T.heap.toList.drop s.heap.size).map (fun c : Cell => c.slots.size)).sum ≤ _
    rw [← b8]; omega
/-! the cells after a store, after a making -/
theorem zR.put {D : va_G} {dA : Nat → ClassId} {H0 : Heap} {h : zH} {H H1 : Heap} (r : zR D dA H0 h H) {a : Nat} {x x1 : zE} {c c1 : Cell} (hx : h.1 a = some x) (ha : H[a]? = some c) (ha1 : H1[a]? = some c1) (hsz : H1.size = H.size) (ho : ∀ q : Nat, q ≠ a → H1[q]? = H[q]?) (he : c1.slots.size = c.slots.size) (hat : va_at D vwCl (a, z_e dA x1) H1) : zR D dA H0 (z_s h a x1) H1 := by
  obtain ⟨r1, r2, r3, r4⟩ := r
  have hb := (r4 a x hx).1
  refine ⟨hsz.trans r1, (z_sum_set ha ha1 hsz ho he).trans r2, fun q hq => (ho q (by omega)).trans (r3 q hq), fun b y hy => ?_⟩
  by_cases hba : b = a
  · subst hba
    rw [z_s_self] at hy
    cases hy
    exact ⟨hb, hat⟩
  · rw [z_s_ne hba] at hy
    obtain ⟨g1, g2⟩ := r4 b y hy
    exact ⟨g1, g2.kept (ho b hba)⟩
theorem zR.fresh {D : va_G} {dA : Nat → ClassId} {H0 : Heap} {h : zH} {H : Heap} (r : zR D dA H0 h H) : h.1 H.size = none := by
  cases hx : h.1 H.size with
  | none => rfl
  | some x => exact absurd ((r.2.2.2 _ x hx).2.lt) (Nat.lt_irrefl _)
theorem zR.push {D : va_G} {dA : Nat → ClassId} {H0 : Heap} {h : zH} {H H1 : Heap} (r : zR D dA H0 h H) {x1 : zE} {c1 : Cell} {k : Nat} (ha1 : H1[H.size]? = some c1) (hsz : H1.size = H.size + 1) (ho : ∀ q : Nat, q < H.size → H1[q]? = H[q]?) (he : c1.slots.size = k) (hat : va_at D vwCl (H.size, z_e dA x1) H1) : zR D dA H0 (z_n h H.size x1 k) H1 := by
  have hfr := r.fresh
  obtain ⟨r1, r2, r3, r4⟩ := r
  refine ⟨by show H1.size = H0.size + (h.2.1 + 1); omega, ?_, fun q hq => (ho q (by omega)).trans (r3 q hq), fun b y hy => ?_⟩
  · show z_sum H0.size H1 = h.2.2 + k
    rw [z_sum_push (by omega) hsz ha1 ho, r2, he]
  · by_cases hba : b = H.size
    · subst hba
      rw [z_n_self] at hy
      cases hy
      exact ⟨by omega, hat⟩
    · rw [z_n_ne hba] at hy
      obtain ⟨g1, g2⟩ := r4 b y hy
      exact ⟨g1, g2.kept (ho b g2.lt)⟩
/-! what the tables, and the cells that were there before, say -/
def zWM (j : Nat) : Value := match j with
  | 0 => .long (-6148914691236517206)
  | 1 => .long (-3689348814741910324)
  | 2 => .long (-1085102592571150096)
  | 3 => .long (-71777214294589696)
  | 4 => .long (-281470681808896)
  | _ => .long (-4294967296)
def zK (D : va_G) (dA : Nat → ClassId) (H0 : Heap) (U : State) : Prop := va_K D vwCl (z_ty dA) U ∧ ∃ t : Nat, va_Z RX3 "WITH_MATCH" "[J" (.ref t) (fun q => H0.size ≤ q) U H0 ∧ va_T .long t 6 zWM (fun q => H0.size ≤ q) U H0
theorem zK.moved {D : va_G} {dA : Nat → ClassId} {H0 : Heap} {u U : State} (hvm : u.vm.Alike U.vm) (h : zK D dA H0 u) : zK D dA H0 U := by
  obtain ⟨h1, t, h2, h3⟩ := h
  exact ⟨h1.moved hvm, t, h2.moved hvm, h3.moved hvm⟩
def zW : List Cond := lw_tbl.filter goodWord
theorem zW_good : ∀ w ∈ zW, goodWord w = true := fun w h => (List.mem_filter.mp h).2
theorem zW_in {w : Cond} (h : w ∈ lw_tbl) (g : goodWord w = true) : w ∈ zW := List.mem_filter.mpr ⟨h, g⟩
/-! the judgement: from here on the machine comes to an end with Q -/
def zV (F : zF) (X : zX) (h : zH) (pc : Nat) (lv : zLv) (st : List Value) : Prop :=
  match F, X with
  | (l, D, dA, H0), (p, e, R, s, m, args, below, meth, c, Q, nL) => ∀ (H : Heap) (locs : List Loc) (ls : Array Slot) (k n : Nat), zR D dA H0 h H → (∀ q ∈ locs, H0.size ≤ q.base) → lv_has ls nL lv → W p l e R s m args below meth c H locs k n Q (F0 m pc ls st)
def zG (F : zF) (X : zX) (y : MethodName) (cc : ByteArray) (nL : Nat) (ret : Option FieldType) (rm : Room) (cn : Nat × Nat) : Prop :=
  match F, X with
  | (l, D, dA, H0), (p, e, R, s, m, args, below, meth, c, Q, nL') => nL' = nL ∧ R = rm ∧ p.tables.exec = Jvm.exec ∧ c.code = cc ∧ c.maxLocals = nL ∧ meth.sig.returnType = ret ∧ meth.locks = false ∧ s.vm.findClass y.cls = some m.cls ∧ meth.name = y.name ∧ (∀ w ∈ zW, w.before args s = true) ∧ zK D dA H0 s ∧ s.heap.size = H0.size + cn.1 ∧ z_sum H0.size s.heap = cn.2
def zPc (D : va_G) (dA : Nat → ClassId) (H0 : Heap) (av : List Value) (h : zH) : Array Value → State → Prop := va_Pc av (fun U => zR D dA H0 h U.heap ∧ zK D dA H0 U)
def zQc (D : va_G) (dA : Nat → ClassId) (H0 : Heap) (post : Option Value → zH → Prop) : Array Value → State → Outcome → State → Prop := fun _ _ o t => ∃ (v : Option Value) (h' : zH), o = .returned v ∧ post v h' ∧ zR D dA H0 h' t.heap
def zZ (F : zF) (X : zX) (post : Option Value → zH → Prop) (mc ms : Nat) : Prop :=
  match F, X with
  | (l, D, dA, H0), (p, e, R, s, m, args, below, meth, c, Q, nL') => Q = MQ below (zQc D dA H0 post) args s mc ms (fun q => H0.size ≤ q)
/-- a method's contract: at these arguments, over this heap -/
def zMet (F : zF) (y : MethodName) (cc : ByteArray) (nL : Nat) (ret : Option FieldType) (rm : Room) (av : List Value) (h : zH) (post : Option Value → zH → Prop) : Prop :=
  match F with
  | (l, D, dA, H0) => Met l y (Cond.code y cc nL ret :: zW) rm (zPc D dA H0 av h) (zQc D dA H0 post) rm.cells rm.slots (fun q => H0.size ≤ q)
theorem zMet_of {F : zF} {y : MethodName} {cc : ByteArray} {nL : Nat} {ret : Option FieldType} {rm : Room} {av : List Value} {lv : zLv} {h : zH} {post : Option Value → zH → Prop} (hy : plainName y.cls = true) (hn : (lg_sl av).length ≤ nL) (hlv : lv_args 0 av = lv)
    (body : ∀ X : zX, zG F X y cc nL ret rm h.2 → zZ F X post rm.cells rm.slots → zV F X h 0 lv []) : zMet F y cc nL ret rm av h post := by
  obtain ⟨l, D, dA, H0⟩ := F
  refine Met.ofW (cc := cc) (maxL := nL) (ret := ret) hy rfl ?_
  intro p e s m args below meth c s₁ B hml hv
  obtain ⟨rfl, hR, hK⟩ := hv
  have hts := atoms_spec (ws := Cond.code y cc nL ret :: zW) B.pre
  have hl := lv_entry av (n := nL) hn
  rw [lg_entry_eq]
  rw [hlv] at hl
  exact body (p, e, rm, s, m, av.toArray, below, meth, c, _, nL) ⟨rfl, rfl, B.exec, B.bytes, hml, B.returns, B.notSynchronized, findClass_of_methodNamed B.named, (name_of_methodNamed B.named B.method).1, fun w hw => hts w (List.mem_cons_of_mem _ hw), hK, hR.1, hR.2.1⟩ rfl s.heap [] _ 0 0 hR (fun q hq => by cases hq) hl
end
section
/-! straight stretches: what instructions do to locals and stack alone -/
def z_l : zLv → Nat → Option Value
  | [], _ => none
  | q :: t, i => if q.1 = i then some q.2 else z_l t i
theorem z_l_at {ls : Array Slot} {nL : Nat} : ∀ {lv : zLv} {i : Nat} {v : Value}, lv_has ls nL lv → z_l lv i = some v → ls[i]? = some (.val v)
  | [], i, v, _, h => by cases h
  | q :: t, i, v, hl, h => by
    unfold z_l at h
    by_cases hq : q.1 = i
    · rw [if_pos hq] at h
      cases h
      subst hq
      exact hl.2.2 q List.mem_cons_self
    · rw [if_neg hq] at h
      exact z_l_at ⟨hl.1, hl.2.1, fun z hz => hl.2.2 z (List.mem_cons_of_mem _ hz)⟩ h
def z_u1 (lv : zLv) (i : Nat) (v : Value) : zLv := (i, v) :: lv.filter (fun q => !(q.1 == i) && !(q.1 + 1 == i && q.2.category == 2))
def z_u2 (lv : zLv) (i : Nat) (v : Value) : zLv := (i, v) :: lv.filter (fun q => !(q.1 == i) && (!(q.1 == i + 1) && !(q.1 + 1 == i && q.2.category == 2)))
abbrev zO : Type := Option (zLv × List Value)
def z_ldI (lv : zLv) (i : Nat) (st : List Value) : zO := match z_l lv i with
  | some (.int x) => some (lv, .int x :: st)
  | _ => none
def z_ldJ (lv : zLv) (i : Nat) (st : List Value) : zO := match z_l lv i with
  | some (.long x) => some (lv, .long x :: st)
  | _ => none
def z_ldA (lv : zLv) (i : Nat) (st : List Value) : zO := match z_l lv i with
  | some (.ref x) => some (lv, .ref x :: st)
  | some .null => some (lv, .null :: st)
  | _ => none
def z_stI (nL : Nat) (lv : zLv) (i : Nat) (st : List Value) : zO := match st with
  | .int x :: r => if i < nL then some (z_u1 lv i (.int x), r) else none
  | _ => none
def z_stJ (nL : Nat) (lv : zLv) (i : Nat) (st : List Value) : zO := match st with
  | .long x :: r => if i + 1 < nL then some (z_u2 lv i (.long x), r) else none
  | _ => none
def z_stA (nL : Nat) (lv : zLv) (i : Nat) (st : List Value) : zO := match st with
  | .ref x :: r => if i < nL then some (z_u1 lv i (.ref x), r) else none
  | .null :: r => if i < nL then some (z_u1 lv i .null, r) else none
  | _ => none
def z_inc (nL : Nat) (lv : zLv) (i : Nat) (n : Int) (st : List Value) : zO := match z_l lv i with
  | some (.int x) => if i < nL then some (z_u1 lv i (.int (x + Int32.ofInt n)), st) else none
  | _ => none
def z_b (lv : zLv) (st : List Value) (f : Int32 → Int32 → Int32) : zO := match st with
  | .int y :: .int x :: r => some (lv, .int (f x y) :: r)
  | _ => none
def z_bL (lv : zLv) (st : List Value) (f : Int64 → Int64 → Int64) : zO := match st with
  | .long y :: .long x :: r => some (lv, .long (f x y) :: r)
  | _ => none
def z_bS (lv : zLv) (st : List Value) (f : Int64 → Int32 → Int64) : zO := match st with
  | .int y :: .long x :: r => some (lv, .long (f x y) :: r)
  | _ => none
def z_cmp (lv : zLv) (st : List Value) : zO := match st with
  | .long y :: .long x :: r => some (lv, .int (lg_cmp x y) :: r)
  | _ => none
def z_i2l (lv : zLv) (st : List Value) : zO := match st with
  | .int x :: r => some (lv, .long x.toInt64 :: r)
  | _ => none
def z_l2i (lv : zLv) (st : List Value) : zO := match st with
  | .long x :: r => some (lv, .int x.toInt32 :: r)
  | _ => none
def z_dup (lv : zLv) (st : List Value) : zO := match st with
  | v :: r => if v.category = 1 then some (lv, v :: v :: r) else none
  | _ => none
def z_dup2 (lv : zLv) (st : List Value) : zO := match st with
  | v :: r => if v.category = 2 then some (lv, v :: v :: r) else match r with
    | w :: r2 => if v.category = 1 ∧ w.category = 1 then some (lv, v :: w :: v :: w :: r2) else none
    | _ => none
  | _ => none
def z_pop (lv : zLv) (st : List Value) : zO := match st with
  | v :: r => if v.category = 1 then some (lv, r) else none
  | _ => none
def z_1 (nL : Nat) (i : Instr) (lv : zLv) (st : List Value) : zO := match i with
  | .iconst n => some (lv, .int (Int32.ofInt n) :: st)
  | .bipush n => some (lv, .int (Int8.ofInt n).toInt32 :: st)
  | .sipush n => some (lv, .int (Int16.ofInt n).toInt32 :: st)
  | .lconst n => some (lv, .long (Int64.ofNat (n : Nat)) :: st)
  | .aconst_null => some (lv, .null :: st)
  | .iload_n k => z_ldI lv (k : Nat) st
  | .iload k => z_ldI lv k st
  | .lload_n k => z_ldJ lv (k : Nat) st
  | .lload k => z_ldJ lv k st
  | .aload_n k => z_ldA lv (k : Nat) st
  | .aload k => z_ldA lv k st
  | .istore_n k => z_stI nL lv (k : Nat) st
  | .istore k => z_stI nL lv k st
  | .lstore_n k => z_stJ nL lv (k : Nat) st
  | .lstore k => z_stJ nL lv k st
  | .astore_n k => z_stA nL lv (k : Nat) st
  | .astore k => z_stA nL lv k st
  | .iinc k n => z_inc nL lv k n st
  | .iadd => z_b lv st (fun x y => x + y)
  | .isub => z_b lv st (fun x y => x - y)
  | .imul => z_b lv st (fun x y => x * y)
  | .iand => z_b lv st (fun x y => x &&& y)
  | .ior => z_b lv st (fun x y => x ||| y)
  | .ixor => z_b lv st (fun x y => x ^^^ y)
  | .ishl => z_b lv st (fun x y => x <<< (y &&& 31))
  | .ishr => z_b lv st (fun x y => x >>> (y &&& 31))
  | .iushr => z_b lv st (fun x y => (x.toUInt32 >>> (y.toUInt32 &&& Int32.toUInt32 31)).toInt32)
  | .ladd => z_bL lv st (fun x y => x + y)
  | .lsub => z_bL lv st (fun x y => x - y)
  | .lmul => z_bL lv st (fun x y => x * y)
  | .land => z_bL lv st (fun x y => x &&& y)
  | .lor => z_bL lv st (fun x y => x ||| y)
  | .lxor => z_bL lv st (fun x y => x ^^^ y)
  | .lshl => z_bS lv st (fun x y => x <<< (y.toInt64 &&& 63))
  | .lushr => z_bS lv st (fun x y => (x.toUInt64 >>> (y.toInt64.toUInt64 &&& Int64.toUInt64 63)).toInt64)
  | .lcmp => z_cmp lv st
  | .i2l => z_i2l lv st
  | .l2i => z_l2i lv st
  | .dup => z_dup lv st
  | .dup2 => z_dup2 lv st
  | .pop => z_pop lv st
  | _ => none
def z_len (i : Instr) : Nat := match i with
  | .bipush _ => 2
  | .sipush _ => 3
  | .iload _ => 2
  | .lload _ => 2
  | .aload _ => 2
  | .istore _ => 2
  | .lstore _ => 2
  | .astore _ => 2
  | .iinc _ _ => 3
  | _ => 1
theorem z_ldI_inv {lv lv' : zLv} {i : Nat} {st st' : List Value} (h : z_ldI lv i st = some (lv', st')) : ∃ x, z_l lv i = some (.int x) ∧ lv' = lv ∧ st' = .int x :: st := by
  unfold z_ldI at h; split at h
  · rename_i x hx; cases h; exact ⟨x, hx, rfl, rfl⟩
  · cases h
theorem z_ldJ_inv {lv lv' : zLv} {i : Nat} {st st' : List Value} (h : z_ldJ lv i st = some (lv', st')) : ∃ x, z_l lv i = some (.long x) ∧ lv' = lv ∧ st' = .long x :: st := by
  unfold z_ldJ at h; split at h
  · rename_i x hx; cases h; exact ⟨x, hx, rfl, rfl⟩
  · cases h
theorem z_ldA_inv {lv lv' : zLv} {i : Nat} {st st' : List Value} (h : z_ldA lv i st = some (lv', st')) : (∃ x, z_l lv i = some (.ref x) ∧ lv' = lv ∧ st' = .ref x :: st) ∨ (z_l lv i = some .null ∧ lv' = lv ∧ st' = .null :: st) := by
  unfold z_ldA at h; split at h
  · rename_i x hx; cases h; exact Or.inl ⟨x, hx, rfl, rfl⟩
  · rename_i hx; cases h; exact Or.inr ⟨hx, rfl, rfl⟩
  · cases h
theorem z_stI_inv {nL : Nat} {lv lv' : zLv} {i : Nat} {st st' : List Value} (h : z_stI nL lv i st = some (lv', st')) : ∃ x, st = .int x :: st' ∧ i < nL ∧ lv' = z_u1 lv i (.int x) := by
  unfold z_stI at h; split at h
  · split at h
    · cases h; exact ⟨_, rfl, by assumption, rfl⟩
    · cases h
  · cases h
theorem z_stJ_inv {nL : Nat} {lv lv' : zLv} {i : Nat} {st st' : List Value} (h : z_stJ nL lv i st = some (lv', st')) : ∃ x, st = .long x :: st' ∧ i + 1 < nL ∧ lv' = z_u2 lv i (.long x) := by
  unfold z_stJ at h; split at h
  · split at h
    · cases h; exact ⟨_, rfl, by assumption, rfl⟩
    · cases h
  · cases h
theorem z_stA_inv {nL : Nat} {lv lv' : zLv} {i : Nat} {st st' : List Value} (h : z_stA nL lv i st = some (lv', st')) : (∃ x, st = .ref x :: st' ∧ i < nL ∧ lv' = z_u1 lv i (.ref x)) ∨ (st = .null :: st' ∧ i < nL ∧ lv' = z_u1 lv i .null) := by
  unfold z_stA at h; split at h
  · split at h
    · cases h; exact Or.inl ⟨_, rfl, by assumption, rfl⟩
    · cases h
  · split at h
    · cases h; exact Or.inr ⟨rfl, by assumption, rfl⟩
    · cases h
  · cases h
theorem z_inc_inv {nL : Nat} {lv lv' : zLv} {i : Nat} {n : Int} {st st' : List Value} (h : z_inc nL lv i n st = some (lv', st')) : ∃ x, z_l lv i = some (.int x) ∧ i < nL ∧ lv' = z_u1 lv i (.int (x + Int32.ofInt n)) ∧ st' = st := by
  unfold z_inc at h; split at h
  · rename_i x hx
    split at h
    · cases h; exact ⟨x, hx, by assumption, rfl, rfl⟩
    · cases h
  · cases h
theorem z_b_inv {lv lv' : zLv} {st st' : List Value} {f : Int32 → Int32 → Int32} (h : z_b lv st f = some (lv', st')) : ∃ x y r, st = .int y :: .int x :: r ∧ lv' = lv ∧ st' = .int (f x y) :: r := by
  unfold z_b at h; split at h
  · cases h; exact ⟨_, _, _, rfl, rfl, rfl⟩
  · cases h
theorem z_bL_inv {lv lv' : zLv} {st st' : List Value} {f : Int64 → Int64 → Int64} (h : z_bL lv st f = some (lv', st')) : ∃ x y r, st = .long y :: .long x :: r ∧ lv' = lv ∧ st' = .long (f x y) :: r := by
  unfold z_bL at h; split at h
  · cases h; exact ⟨_, _, _, rfl, rfl, rfl⟩
  · cases h
theorem z_bS_inv {lv lv' : zLv} {st st' : List Value} {f : Int64 → Int32 → Int64} (h : z_bS lv st f = some (lv', st')) : ∃ x y r, st = .int y :: .long x :: r ∧ lv' = lv ∧ st' = .long (f x y) :: r := by
  unfold z_bS at h; split at h
  · cases h; exact ⟨_, _, _, rfl, rfl, rfl⟩
  · cases h
theorem z_cmp_inv {lv lv' : zLv} {st st' : List Value} (h : z_cmp lv st = some (lv', st')) : ∃ x y r, st = .long y :: .long x :: r ∧ lv' = lv ∧ st' = .int (lg_cmp x y) :: r := by
  unfold z_cmp at h; split at h
  · cases h; exact ⟨_, _, _, rfl, rfl, rfl⟩
  · cases h
theorem z_i2l_inv {lv lv' : zLv} {st st' : List Value} (h : z_i2l lv st = some (lv', st')) : ∃ x r, st = .int x :: r ∧ lv' = lv ∧ st' = .long x.toInt64 :: r := by
  unfold z_i2l at h; split at h
  · cases h; exact ⟨_, _, rfl, rfl, rfl⟩
  · cases h
theorem z_l2i_inv {lv lv' : zLv} {st st' : List Value} (h : z_l2i lv st = some (lv', st')) : ∃ x r, st = .long x :: r ∧ lv' = lv ∧ st' = .int x.toInt32 :: r := by
  unfold z_l2i at h; split at h
  · cases h; exact ⟨_, _, rfl, rfl, rfl⟩
  · cases h
theorem z_dup_inv {lv lv' : zLv} {st st' : List Value} (h : z_dup lv st = some (lv', st')) : ∃ v r, st = v :: r ∧ v.category = 1 ∧ lv' = lv ∧ st' = v :: v :: r := by
  unfold z_dup at h; split at h
  · split at h
    · cases h; exact ⟨_, _, rfl, by assumption, rfl, rfl⟩
    · cases h
  · cases h
theorem z_pop_inv {lv lv' : zLv} {st st' : List Value} (h : z_pop lv st = some (lv', st')) : ∃ v, st = v :: st' ∧ v.category = 1 ∧ lv' = lv := by
  unfold z_pop at h; split at h
  · split at h
    · cases h; exact ⟨_, rfl, by assumption, rfl⟩
    · cases h
  · cases h
theorem z_dup2_inv {lv lv' : zLv} {st st' : List Value} (h : z_dup2 lv st = some (lv', st')) : (∃ v r, st = v :: r ∧ v.category = 2 ∧ lv' = lv ∧ st' = v :: v :: r) ∨ (∃ v w r, st = v :: w :: r ∧ v.category = 1 ∧ w.category = 1 ∧ lv' = lv ∧ st' = v :: w :: v :: w :: r) := by
  unfold z_dup2 at h; split at h
  · split at h
    · cases h; exact Or.inl ⟨_, _, rfl, by assumption, rfl, rfl⟩
    · split at h
      · split at h
        · rename_i hc; cases h; exact Or.inr ⟨_, _, _, rfl, hc.1, hc.2, rfl, rfl⟩
        · cases h
      · cases h
  · cases h
section VB
variable {F : zF} {X : zX} {y : MethodName} {cc : ByteArray} {nL : Nat} {ret : Option FieldType} {rm : Room} {cn : Nat × Nat} {h : zH} {pc : Nat} {lv lv' : zLv} {st st' : List Value}
theorem v_1 (g : zG F X y cc nL ret rm cn) {i : Instr} (hd : decode cc pc = .ok (i, z_len i)) (he : z_1 nL i lv st = some (lv', st')) (kk : zV F X h (pc + z_len i) lv' st') : zV F X h pc lv st := by
  obtain ⟨l, D, dA, H0⟩ := F
  obtain ⟨p, e, R, s, m, args, below, meth, c, Q, nL'⟩ := X
  obtain ⟨rfl, -, hx, hb, -⟩ := g
  intro H locs ls k n hR hL hl
  have K := fun ls' (hl' : lv_has ls' nL' lv') => kk H locs ls' k n hR hL hl'
  clear kk
  unfold z_1 at he
  split at he
  · cases he; exact lv_iconst hx hb hd rfl (K ls hl)
  · cases he; exact lv_bipush hx hb hd rfl (K ls hl)
  · cases he; exact lv_sipush hx hb hd rfl (K ls hl)
  · cases he; exact lv_lconst hx hb hd rfl (K ls hl)
  · cases he; exact lv_null hx hb hd (K ls hl)
  · obtain ⟨x, h1, rfl, rfl⟩ := z_ldI_inv he; exact lv_iload_n hx hb hd rfl (z_l_at hl h1) (K ls hl)
  · obtain ⟨x, h1, rfl, rfl⟩ := z_ldI_inv he; exact lv_iload hx hb hd (z_l_at hl h1) (K ls hl)
  · obtain ⟨x, h1, rfl, rfl⟩ := z_ldJ_inv he; exact lv_lload_n hx hb hd rfl (z_l_at hl h1) (K ls hl)
  · obtain ⟨x, h1, rfl, rfl⟩ := z_ldJ_inv he; exact lv_lload hx hb hd (z_l_at hl h1) (K ls hl)
  · rcases z_ldA_inv he with ⟨x, h1, rfl, rfl⟩ | ⟨h1, rfl, rfl⟩
    · exact lv_aload_n hx hb hd rfl (z_l_at hl h1) (K ls hl)
    · exact lv_aload_nN hx hb hd rfl (z_l_at hl h1) (K ls hl)
  · rcases z_ldA_inv he with ⟨x, h1, rfl, rfl⟩ | ⟨h1, rfl, rfl⟩
    · exact lv_aload hx hb hd (z_l_at hl h1) (K ls hl)
    · exact lv_aloadN hx hb hd (z_l_at hl h1) (K ls hl)
  · obtain ⟨x, rfl, h2, rfl⟩ := z_stI_inv he; exact lv_istore_n hx hb hd rfl hl h2 rfl K
  · obtain ⟨x, rfl, h2, rfl⟩ := z_stI_inv he; exact lv_istore hx hb hd hl h2 rfl K
  · obtain ⟨x, rfl, h2, rfl⟩ := z_stJ_inv he; exact lv_lstore_n hx hb hd rfl hl h2 rfl K
  · obtain ⟨x, rfl, h2, rfl⟩ := z_stJ_inv he; exact lv_lstore hx hb hd hl h2 rfl K
  · rcases z_stA_inv he with ⟨x, rfl, h2, rfl⟩ | ⟨rfl, h2, rfl⟩
    · exact lv_astore_n hx hb hd rfl hl h2 rfl K
    · exact lv_astore_nN hx hb hd rfl hl h2 rfl K
  · rcases z_stA_inv he with ⟨x, rfl, h2, rfl⟩ | ⟨rfl, h2, rfl⟩
    · exact lv_astore hx hb hd hl h2 rfl K
    · exact lv_astoreN hx hb hd hl h2 rfl K
  · obtain ⟨x, h1, h2, rfl, rfl⟩ := z_inc_inv he
    have hq := z_l_at hl h1
    have hl2 : lv_has ls nL' ((_, .int x) :: lv) := ⟨hl.1, hl.2.1, fun q hq2 => (List.mem_cons.mp hq2).elim (fun e => by rw [e]; exact hq) (hl.2.2 q)⟩
    refine lv_iinc hx hb hd hl2 (k := 0) rfl rfl h2 rfl (fun ls' hl' => K ls' ⟨hl'.1, hl'.2.1, fun q hq2 => hl'.2.2 q ?_⟩)
    rcases List.mem_cons.mp hq2 with e | e
    · rw [e]; exact List.mem_cons_self
    · refine List.mem_cons_of_mem _ ?_
      rw [List.filter_cons]
      split
      · exact List.mem_cons_of_mem _ e
      · exact e
  · obtain ⟨x, y, r, rfl, rfl, rfl⟩ := z_b_inv he; exact lv_iadd hx hb hd (K ls hl)
  · obtain ⟨x, y, r, rfl, rfl, rfl⟩ := z_b_inv he; exact lv_isub hx hb hd (K ls hl)
  · obtain ⟨x, y, r, rfl, rfl, rfl⟩ := z_b_inv he; exact lv_imul hx hb hd (K ls hl)
  · obtain ⟨x, y, r, rfl, rfl, rfl⟩ := z_b_inv he; exact lv_iand hx hb hd (K ls hl)
  · obtain ⟨x, y, r, rfl, rfl, rfl⟩ := z_b_inv he; exact lv_ior hx hb hd (K ls hl)
  · obtain ⟨x, y, r, rfl, rfl, rfl⟩ := z_b_inv he; exact lv_ixor hx hb hd (K ls hl)
  · obtain ⟨x, y, r, rfl, rfl, rfl⟩ := z_b_inv he; exact lv_ishl hx hb hd (K ls hl)
  · obtain ⟨x, y, r, rfl, rfl, rfl⟩ := z_b_inv he; exact lv_ishr hx hb hd (K ls hl)
  · obtain ⟨x, y, r, rfl, rfl, rfl⟩ := z_b_inv he; exact lv_iushr hx hb hd rfl (K ls hl)
  · obtain ⟨x, y, r, rfl, rfl, rfl⟩ := z_bL_inv he; exact lv_ladd hx hb hd (K ls hl)
  · obtain ⟨x, y, r, rfl, rfl, rfl⟩ := z_bL_inv he; exact lv_lsub hx hb hd (K ls hl)
  · obtain ⟨x, y, r, rfl, rfl, rfl⟩ := z_bL_inv he; exact lv_lmul hx hb hd (K ls hl)
  · obtain ⟨x, y, r, rfl, rfl, rfl⟩ := z_bL_inv he; exact lv_land hx hb hd (K ls hl)
  · obtain ⟨x, y, r, rfl, rfl, rfl⟩ := z_bL_inv he; exact lv_lor hx hb hd (K ls hl)
  · obtain ⟨x, y, r, rfl, rfl, rfl⟩ := z_bL_inv he; exact lv_lxor hx hb hd (K ls hl)
  · obtain ⟨x, y, r, rfl, rfl, rfl⟩ := z_bS_inv he; exact lv_lshl hx hb hd rfl (K ls hl)
  · obtain ⟨x, y, r, rfl, rfl, rfl⟩ := z_bS_inv he; exact lv_lushr hx hb hd rfl (K ls hl)
  · obtain ⟨x, y, r, rfl, rfl, rfl⟩ := z_cmp_inv he; exact W.lcmp hx hb hd (K ls hl)
  · obtain ⟨x, r, rfl, rfl, rfl⟩ := z_i2l_inv he; exact lv_i2l hx hb hd rfl (K ls hl)
  · obtain ⟨x, r, rfl, rfl, rfl⟩ := z_l2i_inv he; exact lv_l2i hx hb hd rfl (K ls hl)
  · obtain ⟨v, r, rfl, h1, rfl, rfl⟩ := z_dup_inv he; exact lv_dup hx hb hd h1 (K ls hl)
  · rcases z_dup2_inv he with ⟨v, r, rfl, h1, rfl, rfl⟩ | ⟨v, w, r, rfl, h1, h2, rfl, rfl⟩
    · exact lv_dup2_2 hx hb hd h1 (K ls hl)
    · exact lv_dup2_11 hx hb hd h1 h2 (K ls hl)
  · obtain ⟨v, rfl, h1, rfl⟩ := z_pop_inv he; exact lv_pop hx hb hd h1 (K ls hl)
  · cases he
def z_run (nL : Nat) : List Instr → zLv → List Value → zO
  | [], lv, st => some (lv, st)
  | i :: is, lv, st => match z_1 nL i lv st with
    | some q => z_run nL is q.1 q.2
    | none => none
def z_pc : Nat → List Instr → Nat
  | pc, [] => pc
  | pc, i :: is => z_pc (pc + z_len i) is
def z_dec (cc : ByteArray) : Nat → List Instr → Bool
  | _, [] => true
  | pc, i :: is => decide (decode cc pc = .ok (i, z_len i)) && z_dec cc (pc + z_len i) is
theorem v_blk (g : zG F X y cc nL ret rm cn) : ∀ (is : List Instr) {pc pc' : Nat} {lv lv' : zLv} {st st' : List Value}, z_dec cc pc is = true → z_run nL is lv st = some (lv', st') → z_pc pc is = pc' → zV F X h pc' lv' st' → zV F X h pc lv st
  | [], pc, pc', lv, lv', st, st', _, he, hp, kk => by
    cases he
    cases hp
    exact kk
  | i :: is, pc, pc', lv, lv', st, st', hd, he, hp, kk => by
    unfold z_dec at hd
    rw [Bool.and_eq_true] at hd
    unfold z_run at he
    cases hq : z_1 nL i lv st with
    | none => rw [hq] at he; cases he
    | some q =>
      rw [hq] at he
      exact v_1 g (of_decide_eq_true hd.1) hq (v_blk g is hd.2 he hp kk)
/-- fewer locals, in any order: by their places -/
theorem v_lv (ks : List Nat) (hs : lv_pick lv ks = lv') (kk : zV F X h pc lv' st) : zV F X h pc lv st := by
  obtain ⟨l, D, dA, H0⟩ := F
  obtain ⟨p, e, R, s, m, args, below, meth, c, Q, nL'⟩ := X
  intro H locs ls k n hR hL hl
  exact kk H locs ls k n hR hL (lv_sub hl ks hs)
/-- a name for the heap -/
theorem v_h (kk : ∀ h' : zH, h' = h → zV F X h' pc lv st) : zV F X h pc lv st := kk h rfl
end VB
end
section
/-! rows of the judgement: branches, constants, divisions -/
section VR
variable {F : zF} {X : zX} {y : MethodName} {cc : ByteArray} {nL : Nat} {ret : Option FieldType} {rm : Room} {cn : Nat × Nat} {h : zH} {pc : Nat} {lv lv' : zLv} {st st' : List Value}
theorem v_if_eq (g : zG F X y cc nL ret rm cn) {x : Int32} {off : Int} {tgt : Nat} (hd : decode cc pc = .ok (.ifCond .eq off, 3)) (ht : (pc : Int) + off = (tgt : Int)) (kt : x = 0 → zV F X h tgt lv st) (kf : ¬ x = 0 → zV F X h (pc + 3) lv st) : zV F X h pc lv (.int x :: st) := by
  obtain ⟨l, D, dA, H0⟩ := F
  obtain ⟨p, e, R, s, m, args, below, meth, c, Q, nL'⟩ := X
  obtain ⟨rfl, rfl, hx, hb, hml, hr, hlk, hown, hnm, hts, hK, hc0, hn0⟩ := g
  intro H locs ls k9 n9 hR hL hl
  exact lv_if_eq hx hb hd ht (fun q => kt q H locs ls k9 n9 hR hL hl) (fun q => kf q H locs ls k9 n9 hR hL hl)
theorem v_if_ne (g : zG F X y cc nL ret rm cn) {x : Int32} {off : Int} {tgt : Nat} (hd : decode cc pc = .ok (.ifCond .ne off, 3)) (ht : (pc : Int) + off = (tgt : Int)) (kt : ¬ x = 0 → zV F X h tgt lv st) (kf : x = 0 → zV F X h (pc + 3) lv st) : zV F X h pc lv (.int x :: st) := by
  obtain ⟨l, D, dA, H0⟩ := F
  obtain ⟨p, e, R, s, m, args, below, meth, c, Q, nL'⟩ := X
  obtain ⟨rfl, rfl, hx, hb, hml, hr, hlk, hown, hnm, hts, hK, hc0, hn0⟩ := g
  intro H locs ls k9 n9 hR hL hl
  exact lv_if_ne hx hb hd ht (fun q => kt q H locs ls k9 n9 hR hL hl) (fun q => kf q H locs ls k9 n9 hR hL hl)
theorem v_if_lt (g : zG F X y cc nL ret rm cn) {x : Int32} {off : Int} {tgt : Nat} (hd : decode cc pc = .ok (.ifCond .lt off, 3)) (ht : (pc : Int) + off = (tgt : Int)) (kt : x < 0 → zV F X h tgt lv st) (kf : ¬ x < 0 → zV F X h (pc + 3) lv st) : zV F X h pc lv (.int x :: st) := by
  obtain ⟨l, D, dA, H0⟩ := F
  obtain ⟨p, e, R, s, m, args, below, meth, c, Q, nL'⟩ := X
  obtain ⟨rfl, rfl, hx, hb, hml, hr, hlk, hown, hnm, hts, hK, hc0, hn0⟩ := g
  intro H locs ls k9 n9 hR hL hl
  exact lv_if_lt hx hb hd ht (fun q => kt q H locs ls k9 n9 hR hL hl) (fun q => kf q H locs ls k9 n9 hR hL hl)
theorem v_if_ge (g : zG F X y cc nL ret rm cn) {x : Int32} {off : Int} {tgt : Nat} (hd : decode cc pc = .ok (.ifCond .ge off, 3)) (ht : (pc : Int) + off = (tgt : Int)) (kt : 0 ≤ x → zV F X h tgt lv st) (kf : ¬ 0 ≤ x → zV F X h (pc + 3) lv st) : zV F X h pc lv (.int x :: st) := by
  obtain ⟨l, D, dA, H0⟩ := F
  obtain ⟨p, e, R, s, m, args, below, meth, c, Q, nL'⟩ := X
  obtain ⟨rfl, rfl, hx, hb, hml, hr, hlk, hown, hnm, hts, hK, hc0, hn0⟩ := g
  intro H locs ls k9 n9 hR hL hl
  exact lv_if_ge hx hb hd ht (fun q => kt q H locs ls k9 n9 hR hL hl) (fun q => kf q H locs ls k9 n9 hR hL hl)
theorem v_if_gt (g : zG F X y cc nL ret rm cn) {x : Int32} {off : Int} {tgt : Nat} (hd : decode cc pc = .ok (.ifCond .gt off, 3)) (ht : (pc : Int) + off = (tgt : Int)) (kt : 0 < x → zV F X h tgt lv st) (kf : ¬ 0 < x → zV F X h (pc + 3) lv st) : zV F X h pc lv (.int x :: st) := by
  obtain ⟨l, D, dA, H0⟩ := F
  obtain ⟨p, e, R, s, m, args, below, meth, c, Q, nL'⟩ := X
  obtain ⟨rfl, rfl, hx, hb, hml, hr, hlk, hown, hnm, hts, hK, hc0, hn0⟩ := g
  intro H locs ls k9 n9 hR hL hl
  exact lv_if_gt hx hb hd ht (fun q => kt q H locs ls k9 n9 hR hL hl) (fun q => kf q H locs ls k9 n9 hR hL hl)
theorem v_if_le (g : zG F X y cc nL ret rm cn) {x : Int32} {off : Int} {tgt : Nat} (hd : decode cc pc = .ok (.ifCond .le off, 3)) (ht : (pc : Int) + off = (tgt : Int)) (kt : x ≤ 0 → zV F X h tgt lv st) (kf : ¬ x ≤ 0 → zV F X h (pc + 3) lv st) : zV F X h pc lv (.int x :: st) := by
  obtain ⟨l, D, dA, H0⟩ := F
  obtain ⟨p, e, R, s, m, args, below, meth, c, Q, nL'⟩ := X
  obtain ⟨rfl, rfl, hx, hb, hml, hr, hlk, hown, hnm, hts, hK, hc0, hn0⟩ := g
  intro H locs ls k9 n9 hR hL hl
  exact lv_if_le hx hb hd ht (fun q => kt q H locs ls k9 n9 hR hL hl) (fun q => kf q H locs ls k9 n9 hR hL hl)
theorem v_icmp_eq (g : zG F X y cc nL ret rm cn) {x z : Int32} {off : Int} {tgt : Nat} (hd : decode cc pc = .ok (.if_icmp .eq off, 3)) (ht : (pc : Int) + off = (tgt : Int)) (kt : x = z → zV F X h tgt lv st) (kf : ¬ x = z → zV F X h (pc + 3) lv st) : zV F X h pc lv (.int z :: .int x :: st) := by
  obtain ⟨l, D, dA, H0⟩ := F
  obtain ⟨p, e, R, s, m, args, below, meth, c, Q, nL'⟩ := X
  obtain ⟨rfl, rfl, hx, hb, hml, hr, hlk, hown, hnm, hts, hK, hc0, hn0⟩ := g
  intro H locs ls k9 n9 hR hL hl
  exact lv_icmp_eq hx hb hd ht (fun q => kt q H locs ls k9 n9 hR hL hl) (fun q => kf q H locs ls k9 n9 hR hL hl)
theorem v_icmp_ne (g : zG F X y cc nL ret rm cn) {x z : Int32} {off : Int} {tgt : Nat} (hd : decode cc pc = .ok (.if_icmp .ne off, 3)) (ht : (pc : Int) + off = (tgt : Int)) (kt : ¬ x = z → zV F X h tgt lv st) (kf : x = z → zV F X h (pc + 3) lv st) : zV F X h pc lv (.int z :: .int x :: st) := by
  obtain ⟨l, D, dA, H0⟩ := F
  obtain ⟨p, e, R, s, m, args, below, meth, c, Q, nL'⟩ := X
  obtain ⟨rfl, rfl, hx, hb, hml, hr, hlk, hown, hnm, hts, hK, hc0, hn0⟩ := g
  intro H locs ls k9 n9 hR hL hl
  exact lv_icmp_ne hx hb hd ht (fun q => kt q H locs ls k9 n9 hR hL hl) (fun q => kf q H locs ls k9 n9 hR hL hl)
theorem v_icmp_lt (g : zG F X y cc nL ret rm cn) {x z : Int32} {off : Int} {tgt : Nat} (hd : decode cc pc = .ok (.if_icmp .lt off, 3)) (ht : (pc : Int) + off = (tgt : Int)) (kt : x < z → zV F X h tgt lv st) (kf : ¬ x < z → zV F X h (pc + 3) lv st) : zV F X h pc lv (.int z :: .int x :: st) := by
  obtain ⟨l, D, dA, H0⟩ := F
  obtain ⟨p, e, R, s, m, args, below, meth, c, Q, nL'⟩ := X
  obtain ⟨rfl, rfl, hx, hb, hml, hr, hlk, hown, hnm, hts, hK, hc0, hn0⟩ := g
  intro H locs ls k9 n9 hR hL hl
  exact lv_icmp_lt hx hb hd ht (fun q => kt q H locs ls k9 n9 hR hL hl) (fun q => kf q H locs ls k9 n9 hR hL hl)
theorem v_icmp_ge (g : zG F X y cc nL ret rm cn) {x z : Int32} {off : Int} {tgt : Nat} (hd : decode cc pc = .ok (.if_icmp .ge off, 3)) (ht : (pc : Int) + off = (tgt : Int)) (kt : z ≤ x → zV F X h tgt lv st) (kf : ¬ z ≤ x → zV F X h (pc + 3) lv st) : zV F X h pc lv (.int z :: .int x :: st) := by
  obtain ⟨l, D, dA, H0⟩ := F
  obtain ⟨p, e, R, s, m, args, below, meth, c, Q, nL'⟩ := X
  obtain ⟨rfl, rfl, hx, hb, hml, hr, hlk, hown, hnm, hts, hK, hc0, hn0⟩ := g
  intro H locs ls k9 n9 hR hL hl
  exact lv_icmp_ge hx hb hd ht (fun q => kt q H locs ls k9 n9 hR hL hl) (fun q => kf q H locs ls k9 n9 hR hL hl)
theorem v_icmp_gt (g : zG F X y cc nL ret rm cn) {x z : Int32} {off : Int} {tgt : Nat} (hd : decode cc pc = .ok (.if_icmp .gt off, 3)) (ht : (pc : Int) + off = (tgt : Int)) (kt : z < x → zV F X h tgt lv st) (kf : ¬ z < x → zV F X h (pc + 3) lv st) : zV F X h pc lv (.int z :: .int x :: st) := by
  obtain ⟨l, D, dA, H0⟩ := F
  obtain ⟨p, e, R, s, m, args, below, meth, c, Q, nL'⟩ := X
  obtain ⟨rfl, rfl, hx, hb, hml, hr, hlk, hown, hnm, hts, hK, hc0, hn0⟩ := g
  intro H locs ls k9 n9 hR hL hl
  exact lv_icmp_gt hx hb hd ht (fun q => kt q H locs ls k9 n9 hR hL hl) (fun q => kf q H locs ls k9 n9 hR hL hl)
theorem v_icmp_le (g : zG F X y cc nL ret rm cn) {x z : Int32} {off : Int} {tgt : Nat} (hd : decode cc pc = .ok (.if_icmp .le off, 3)) (ht : (pc : Int) + off = (tgt : Int)) (kt : x ≤ z → zV F X h tgt lv st) (kf : ¬ x ≤ z → zV F X h (pc + 3) lv st) : zV F X h pc lv (.int z :: .int x :: st) := by
  obtain ⟨l, D, dA, H0⟩ := F
  obtain ⟨p, e, R, s, m, args, below, meth, c, Q, nL'⟩ := X
  obtain ⟨rfl, rfl, hx, hb, hml, hr, hlk, hown, hnm, hts, hK, hc0, hn0⟩ := g
  intro H locs ls k9 n9 hR hL hl
  exact lv_icmp_le hx hb hd ht (fun q => kt q H locs ls k9 n9 hR hL hl) (fun q => kf q H locs ls k9 n9 hR hL hl)
theorem v_goto (g : zG F X y cc nL ret rm cn) {off : Int} {tgt : Nat} (hd : decode cc pc = .ok (.goto off, 3)) (ht : (pc : Int) + off = (tgt : Int)) (kk : zV F X h tgt lv st) : zV F X h pc lv st := by
  obtain ⟨l, D, dA, H0⟩ := F
  obtain ⟨p, e, R, s, m, args, below, meth, c, Q, nL'⟩ := X
  obtain ⟨rfl, rfl, hx, hb, hml, hr, hlk, hown, hnm, hts, hK, hc0, hn0⟩ := g
  intro H locs ls k9 n9 hR hL hl
  exact lv_goto hx hb hd ht (kk H locs ls k9 n9 hR hL hl)
theorem v_ifnull (g : zG F X y cc nL ret rm cn) {r : Option Nat} {off : Int} {tgt : Nat} (hd : decode cc pc = .ok (.ifnull off, 3)) (ht : (pc : Int) + off = (tgt : Int)) (kt : r = none → zV F X h tgt lv st) (kf : ∀ a, r = some a → zV F X h (pc + 3) lv st) : zV F X h pc lv (va_rf r :: st) := by
  obtain ⟨l, D, dA, H0⟩ := F
  obtain ⟨p, e, R, s, m, args, below, meth, c, Q, nL'⟩ := X
  obtain ⟨rfl, rfl, hx, hb, hml, hr, hlk, hown, hnm, hts, hK, hc0, hn0⟩ := g
  intro H locs ls k9 n9 hR hL hl
  cases r with
  | none => exact lv_ifnullN hx hb hd ht (kt rfl H locs ls k9 n9 hR hL hl)
  | some a => exact lv_ifnull hx hb hd (kf a rfl H locs ls k9 n9 hR hL hl)
theorem v_ifnonnull (g : zG F X y cc nL ret rm cn) {r : Option Nat} {off : Int} {tgt : Nat} (hd : decode cc pc = .ok (.ifnonnull off, 3)) (ht : (pc : Int) + off = (tgt : Int)) (kt : ∀ a, r = some a → zV F X h tgt lv st) (kf : r = none → zV F X h (pc + 3) lv st) : zV F X h pc lv (va_rf r :: st) := by
  obtain ⟨l, D, dA, H0⟩ := F
  obtain ⟨p, e, R, s, m, args, below, meth, c, Q, nL'⟩ := X
  obtain ⟨rfl, rfl, hx, hb, hml, hr, hlk, hown, hnm, hts, hK, hc0, hn0⟩ := g
  intro H locs ls k9 n9 hR hL hl
  cases r with
  | none => exact lv_ifnonnullN hx hb hd (kf rfl H locs ls k9 n9 hR hL hl)
  | some a => exact lv_ifnonnull hx hb hd ht (kt a rfl H locs ls k9 n9 hR hL hl)
theorem v_ldc (g : zG F X y cc nL ret rm cn) {index : Nat} {v : Int32} (hw : Cond.constant y.cls index v ∈ zW) (hd : decode cc pc = .ok (.ldc index, 2)) (kk : zV F X h (pc + 2) lv (.int v :: st)) : zV F X h pc lv st := by
  obtain ⟨l, D, dA, H0⟩ := F
  obtain ⟨p, e, R, s, m, args, below, meth, c, Q, nL'⟩ := X
  obtain ⟨rfl, rfl, hx, hb, hml, hr, hlk, hown, hnm, hts, hK, hc0, hn0⟩ := g
  intro H locs ls k9 n9 hR hL hl
  exact lv_ldc hx hb hown (hts _ hw) hd (kk H locs ls k9 n9 hR hL hl)
theorem v_ldcw (g : zG F X y cc nL ret rm cn) {index : Nat} {v : Int32} (hw : Cond.constant y.cls index v ∈ zW) (hd : decode cc pc = .ok (.ldc_w index, 3)) (kk : zV F X h (pc + 3) lv (.int v :: st)) : zV F X h pc lv st := by
  obtain ⟨l, D, dA, H0⟩ := F
  obtain ⟨p, e, R, s, m, args, below, meth, c, Q, nL'⟩ := X
  obtain ⟨rfl, rfl, hx, hb, hml, hr, hlk, hown, hnm, hts, hK, hc0, hn0⟩ := g
  intro H locs ls k9 n9 hR hL hl
  exact lv_ldcw hx hb hown (hts _ hw) hd (kk H locs ls k9 n9 hR hL hl)
theorem v_ldc2 (g : zG F X y cc nL ret rm cn) {index : Nat} {v : Int64} (hw : Cond.constantLong y.cls index v ∈ zW) (hd : decode cc pc = .ok (.ldc2_w index, 3)) (kk : zV F X h (pc + 3) lv (.long v :: st)) : zV F X h pc lv st := by
  obtain ⟨l, D, dA, H0⟩ := F
  obtain ⟨p, e, R, s, m, args, below, meth, c, Q, nL'⟩ := X
  obtain ⟨rfl, rfl, hx, hb, hml, hr, hlk, hown, hnm, hts, hK, hc0, hn0⟩ := g
  intro H locs ls k9 n9 hR hL hl
  exact lv_ldc2 hx hb hown (hts _ hw) hd (kk H locs ls k9 n9 hR hL hl)
theorem v_table (g : zG F X y cc nL ret rm cn) {dflt lo hi : Int} {offs : Array Int} {len : Nat} {x : Int32} (hd : decode cc pc = .ok (.tableswitch dflt lo hi offs, len)) (ko : x.toInt < lo ∨ hi < x.toInt → zV F X h ((pc : Int) + dflt).toNat lv st) (h0 : 0 ≤ (pc : Int) + dflt) (h1 : ∀ j, ¬ (lo + (j : Nat) > hi) → ∃ off, offs[j]? = some off ∧ 0 ≤ (pc : Int) + off ∧ (x.toInt = lo + j → zV F X h ((pc : Int) + off).toNat lv st)) : zV F X h pc lv (.int x :: st) := by
  obtain ⟨l, D, dA, H0⟩ := F
  obtain ⟨p, e, R, s, m, args, below, meth, c, Q, nL'⟩ := X
  obtain ⟨rfl, rfl, hx, hb, hml, hr, hlk, hown, hnm, hts, hK, hc0, hn0⟩ := g
  intro H locs ls k9 n9 hR hL hl
  by_cases ho : x.toInt < lo ∨ hi < x.toInt
  · exact lv_tableOut hx hb hd ho (tgt := ((pc : Int) + dflt).toNat) (by omega) (ko ho H locs ls k9 n9 hR hL hl)
  · obtain ⟨off, e1, e2, e3⟩ := h1 (x.toInt - lo).toNat (by omega)
    exact lv_tableIn hx hb hd (fun q => ho (Or.inl q)) (fun q => ho (Or.inr q)) e1 (tgt := ((pc : Int) + off).toNat) (by omega) (e3 (by omega) H locs ls k9 n9 hR hL hl)
theorem v_lookup (g : zG F X y cc nL ret rm cn) {dflt : Int} {ps : Array (Int × Int)} {len : Nat} {x : Int32} {off : Int} {tgt : Nat} (hd : decode cc pc = .ok (.lookupswitch dflt ps, len)) (hp : (ps.toList.zip (ps.toList.drop 1)).all (fun (a, next) => a.1 < next.1) = true) (ho : Op.lookupswitch.offset ps.toList dflt x.toInt = off) (ht : (pc : Int) + off = (tgt : Int)) (kk : zV F X h tgt lv st) : zV F X h pc lv (.int x :: st) := by
  obtain ⟨l, D, dA, H0⟩ := F
  obtain ⟨p, e, R, s, m, args, below, meth, c, Q, nL'⟩ := X
  obtain ⟨rfl, rfl, hx, hb, hml, hr, hlk, hown, hnm, hts, hK, hc0, hn0⟩ := g
  intro H locs ls k9 n9 hR hL hl
  exact lv_lookup hx hb hd hp ho ht (kk H locs ls k9 n9 hR hL hl)
theorem v_idiv (g : zG F X y cc nL ret rm cn) {x z : Int32} (hd : decode cc pc = .ok (.idiv, 1)) (hz : ¬ z = 0) (kk : zV F X h (pc + 1) lv (.int (x / z) :: st)) : zV F X h pc lv (.int z :: .int x :: st) := by
  obtain ⟨l, D, dA, H0⟩ := F
  obtain ⟨p, e, R, s, m, args, below, meth, c, Q, nL'⟩ := X
  obtain ⟨rfl, rfl, hx, hb, hml, hr, hlk, hown, hnm, hts, hK, hc0, hn0⟩ := g
  intro H locs ls k9 n9 hR hL hl
  exact lv_idiv hx hb hd hz (kk H locs ls k9 n9 hR hL hl)
theorem v_irem (g : zG F X y cc nL ret rm cn) {x z : Int32} (hd : decode cc pc = .ok (.irem, 1)) (hz : ¬ z = 0) (kk : zV F X h (pc + 1) lv (.int (x - x / z * z) :: st)) : zV F X h pc lv (.int z :: .int x :: st) := by
  obtain ⟨l, D, dA, H0⟩ := F
  obtain ⟨p, e, R, s, m, args, below, meth, c, Q, nL'⟩ := X
  obtain ⟨rfl, rfl, hx, hb, hml, hr, hlk, hown, hnm, hts, hK, hc0, hn0⟩ := g
  intro H locs ls k9 n9 hR hL hl
  exact lv_irem hx hb hd hz (kk H locs ls k9 n9 hR hL hl)
theorem v_ldiv (g : zG F X y cc nL ret rm cn) {x z : Int64} (hd : decode cc pc = .ok (.ldiv, 1)) (hz : ¬ z = 0) (kk : zV F X h (pc + 1) lv (.long (x / z) :: st)) : zV F X h pc lv (.long z :: .long x :: st) := by
  obtain ⟨l, D, dA, H0⟩ := F
  obtain ⟨p, e, R, s, m, args, below, meth, c, Q, nL'⟩ := X
  obtain ⟨rfl, rfl, hx, hb, hml, hr, hlk, hown, hnm, hts, hK, hc0, hn0⟩ := g
  intro H locs ls k9 n9 hR hL hl
  exact lv_ldiv hx hb hd hz (kk H locs ls k9 n9 hR hL hl)
theorem v_lrem (g : zG F X y cc nL ret rm cn) {x z : Int64} (hd : decode cc pc = .ok (.lrem, 1)) (hz : ¬ z = 0) (kk : zV F X h (pc + 1) lv (.long (x - x / z * z) :: st)) : zV F X h pc lv (.long z :: .long x :: st) := by
  obtain ⟨l, D, dA, H0⟩ := F
  obtain ⟨p, e, R, s, m, args, below, meth, c, Q, nL'⟩ := X
  obtain ⟨rfl, rfl, hx, hb, hml, hr, hlk, hown, hnm, hts, hK, hc0, hn0⟩ := g
  intro H locs ls k9 n9 hR hL hl
  exact lv_lrem hx hb hd hz (kk H locs ls k9 n9 hR hL hl)
/-- the number on top gets a name -/
theorem v_topi {x : Int32} (kk : ∀ z : Int32, z = x → zV F X h pc lv (.int z :: st)) : zV F X h pc lv (.int x :: st) := kk x rfl
theorem v_topl {x : Int64} (kk : ∀ z : Int64, z = x → zV F X h pc lv (.long z :: st)) : zV F X h pc lv (.long x :: st) := kk x rfl
theorem v_st (hs : st = st') (kk : zV F X h pc lv st') : zV F X h pc lv st := hs ▸ kk
/-! returns -/
theorem v_iret (g : zG F X y cc nL ret rm cn) {post : Option Value → zH → Prop} (hZ : zZ F X post rm.cells rm.slots) {v : Int32} (hrt : ret = some .int) (hd : decode cc pc = .ok (.ireturn, 1)) (hp : post (some (.int v)) h) (hcs : h.2.1 ≤ cn.1 + rm.cells ∧ h.2.2 ≤ cn.2 + rm.slots) : zV F X h pc lv [.int v] := by
  obtain ⟨l, D, dA, H0⟩ := F
  obtain ⟨p, e, R, s, m, args, below, meth, c, Q, nL'⟩ := X
  obtain ⟨rfl, rfl, hx, hb, hml, hr, hlk, hown, hnm, hts, hK, hc0, hn0⟩ := g
  intro H locs ls k9 n9 hR hL hl
  have hZ : Q = MQ below (zQc D dA H0 post) args s R.cells R.slots (fun q => H0.size ≤ q) := hZ
  subst hZ
  refine zW_tight H0.size (by omega) (fun t1 t2 => ?_)
  refine W.widen (k := R.cells) (n := R.slots) (by have := hR.1; omega) (by have := hR.2.1; omega) ?_
  exact W.iret hx hb (hr.trans hrt) (fun t ht hW => ⟨_, h, rfl, hp, by rw [ht]; exact hR⟩) (fun q hq => hL q hq) hd hlk
theorem v_zret (g : zG F X y cc nL ret rm cn) {post : Option Value → zH → Prop} (hZ : zZ F X post rm.cells rm.slots) {v : Int32} (hrt : ret = some .boolean) (hv : v = 0 ∨ v = 1) (hd : decode cc pc = .ok (.ireturn, 1)) (hp : post (some (.int v)) h) (hcs : h.2.1 ≤ cn.1 + rm.cells ∧ h.2.2 ≤ cn.2 + rm.slots) : zV F X h pc lv [.int v] := by
  obtain ⟨l, D, dA, H0⟩ := F
  obtain ⟨p, e, R, s, m, args, below, meth, c, Q, nL'⟩ := X
  obtain ⟨rfl, rfl, hx, hb, hml, hr, hlk, hown, hnm, hts, hK, hc0, hn0⟩ := g
  intro H locs ls k9 n9 hR hL hl
  have hZ : Q = MQ below (zQc D dA H0 post) args s R.cells R.slots (fun q => H0.size ≤ q) := hZ
  subst hZ
  refine zW_tight H0.size (by omega) (fun t1 t2 => ?_)
  refine W.widen (k := R.cells) (n := R.slots) (by have := hR.1; omega) (by have := hR.2.1; omega) ?_
  exact W.zret hx hb (hr.trans hrt) (by rcases hv with rfl | rfl <;> rfl) (fun t ht hW => ⟨_, h, rfl, hp, by rw [ht]; exact hR⟩) (fun q hq => hL q hq) hd hlk
theorem v_lret (g : zG F X y cc nL ret rm cn) {post : Option Value → zH → Prop} (hZ : zZ F X post rm.cells rm.slots) {v : Int64} (hrt : ret = some .long) (hd : decode cc pc = .ok (.lreturn, 1)) (hp : post (some (.long v)) h) (hcs : h.2.1 ≤ cn.1 + rm.cells ∧ h.2.2 ≤ cn.2 + rm.slots) : zV F X h pc lv [.long v] := by
  obtain ⟨l, D, dA, H0⟩ := F
  obtain ⟨p, e, R, s, m, args, below, meth, c, Q, nL'⟩ := X
  obtain ⟨rfl, rfl, hx, hb, hml, hr, hlk, hown, hnm, hts, hK, hc0, hn0⟩ := g
  intro H locs ls k9 n9 hR hL hl
  have hZ : Q = MQ below (zQc D dA H0 post) args s R.cells R.slots (fun q => H0.size ≤ q) := hZ
  subst hZ
  refine zW_tight H0.size (by omega) (fun t1 t2 => ?_)
  refine W.widen (k := R.cells) (n := R.slots) (by have := hR.1; omega) (by have := hR.2.1; omega) ?_
  exact W.lret hx hb (hr.trans hrt) (fun t ht hW => ⟨_, h, rfl, hp, by rw [ht]; exact hR⟩) (fun q hq => hL q hq) hd hlk
theorem v_vret (g : zG F X y cc nL ret rm cn) {post : Option Value → zH → Prop} (hZ : zZ F X post rm.cells rm.slots) (hrt : ret = none) (hd : decode cc pc = .ok (.return_, 1)) (hp : post (none) h) (hcs : h.2.1 ≤ cn.1 + rm.cells ∧ h.2.2 ≤ cn.2 + rm.slots) : zV F X h pc lv [] := by
  obtain ⟨l, D, dA, H0⟩ := F
  obtain ⟨p, e, R, s, m, args, below, meth, c, Q, nL'⟩ := X
  obtain ⟨rfl, rfl, hx, hb, hml, hr, hlk, hown, hnm, hts, hK, hc0, hn0⟩ := g
  intro H locs ls k9 n9 hR hL hl
  have hZ : Q = MQ below (zQc D dA H0 post) args s R.cells R.slots (fun q => H0.size ≤ q) := hZ
  subst hZ
  refine zW_tight H0.size (by omega) (fun t1 t2 => ?_)
  refine W.widen (k := R.cells) (n := R.slots) (by have := hR.1; omega) (by have := hR.2.1; omega) ?_
  exact W.vret hx hb (hr.trans hrt) (fun t ht hW => ⟨_, h, rfl, hp, by rw [ht]; exact hR⟩) (fun q hq => hL q hq) hd hlk
theorem v_aret (g : zG F X y cc nL ret rm cn) {post : Option Value → zH → Prop} (hZ : zZ F X post rm.cells rm.slots) {r : Option Nat} {C : String} (hrt : ret = some (.object C)) (hd : decode cc pc = .ok (.areturn, 1)) (hp : post (some (va_rf r)) h) (hcs : h.2.1 ≤ cn.1 + rm.cells ∧ h.2.2 ≤ cn.2 + rm.slots) : zV F X h pc lv [va_rf r] := by
  obtain ⟨l, D, dA, H0⟩ := F
  obtain ⟨p, e, R, s, m, args, below, meth, c, Q, nL'⟩ := X
  obtain ⟨rfl, rfl, hx, hb, hml, hr, hlk, hown, hnm, hts, hK, hc0, hn0⟩ := g
  intro H locs ls k9 n9 hR hL hl
  have hZ : Q = MQ below (zQc D dA H0 post) args s R.cells R.slots (fun q => H0.size ≤ q) := hZ
  subst hZ
  refine zW_tight H0.size (by omega) (fun t1 t2 => ?_)
  refine W.widen (k := R.cells) (n := R.slots) (by have := hR.1; omega) (by have := hR.2.1; omega) ?_
  exact W.aret hx hb (hr.trans hrt) (Or.inl ⟨_, rfl⟩) (va_rf_or r) (fun t ht hW => ⟨_, h, rfl, hp, by rw [ht]; exact hR⟩) (fun q hq => hL q hq) hd hlk
end VR
end
section
/-! rows of the judgement: fields, arrays, makings -/
abbrev aI (n : Nat) (f : Nat → Int32) : zE := .inl (0, n, .inl f)
abbrev aJ (n : Nat) (f : Nat → Int64) : zE := .inl (1, n, .inr (.inl f))
abbrev aZ (n : Nat) (f : Nat → Int32) : zE := .inl (2, n, .inl f)
abbrev aQ (k n : Nat) (f : Nat → Option Nat) : zE := .inl (k, n, .inr (.inr (.inr (.inr f))))
abbrev oB (ci : Nat) (fs : List Value) : zE := .inr (ci, fs)
theorem zR.P {D : va_G} {dA : Nat → ClassId} {H0 : Heap} {h : zH} {H : Heap} (r : zR D dA H0 h H) {a : Nat} {x : zE} (ha : h.1 a = some x) : va_P D vwCl [(a, z_e dA x)] H := fun k q hk => by
  cases k with
  | zero => cases hk; exact (r.2.2.2 a x ha).2
  | succ k => simp at hk
theorem zR.ge {D : va_G} {dA : Nat → ClassId} {H0 : Heap} {h : zH} {H : Heap} (r : zR D dA H0 h H) {a : Nat} {x : zE} (ha : h.1 a = some x) : H0.size ≤ a := (r.2.2.2 a x ha).1
theorem zL_app {H0 : Heap} {locs : List Loc} {a i : Nat} (hL : ∀ q ∈ locs, H0.size ≤ q.base) (ha : H0.size ≤ a) : ∀ q ∈ locs ++ [(⟨a, i⟩ : Loc)], H0.size ≤ q.base := fun q hq => by
  rcases List.mem_append.mp hq with h | h
  · exact hL q h
  · rcases List.mem_singleton.mp h with rfl; exact ha
def zFL (own : String) (idx ci k : Nat) (t : FieldType) (fin : Bool) : Prop := ∃ (C : String) (T : u_T) (N : Nat) (ty : Nat → FieldType), vwCl[ci]? = some (C, T, N) ∧ k < N ∧ (∀ w ∈ u_ws C T N, w ∈ zW) ∧ Cond.fieldLink own idx (T k).1 (T k).2.1 (T k).2.2.1 ∈ zW ∧ (∀ j, j < N → parseFieldDescriptor (T j).2.2.1 = some (ty j)) ∧ (∀ a, a < N → ∀ b, b < N → a ≠ b → (T a).2.1 ≠ (T b).2.1) ∧ ty k = t ∧ (T k).2.2.2 = fin ∧ (T k).1 = C
def zNL (own : String) (idx ci : Nat) (fs : List Value) (N : Nat) : Prop := ∃ (C : String) (T : u_T) (ty : Nat → FieldType), vwCl[ci]? = some (C, T, N) ∧ (∀ w ∈ u_ws C T N, w ∈ zW) ∧ Cond.classLink own idx C ∈ zW ∧ Cond.instantiable C N ∈ zW ∧ Cond.initialized C ∈ zW ∧ (∀ j, j < N → parseFieldDescriptor (T j).2.2.1 = some (ty j)) ∧ (∀ j, j < N → defaultValue (ty j) = vp_V fs j)
theorem z_in {i : Int32} {j n : Nat} (hi : i = nI j) (hj : j < n) (hn : n ≤ 1000000) : vp_in i n ∧ i.toNatClampNeg = j := by
  subst hi
  exact ⟨vp_in_nI hj (by omega), nI_clamp (by omega)⟩
section VH
variable {F : zF} {X : zX} {y : MethodName} {cc : ByteArray} {nL : Nat} {ret : Option FieldType} {rm : Room} {cn : Nat × Nat} {h : zH} {pc : Nat} {lv lv' : zLv} {st st' : List Value}
theorem v_get (g : zG F X y cc nL ret rm cn) {a ci k idx : Nat} {fs : List Value} {t : FieldType} {fin : Bool} {v : Value} (ha : h.1 a = some (oB ci fs)) (L : zFL y.cls idx ci k t fin) (hv : fs[k]? = some v) (hd : decode cc pc = .ok (.getfield idx, 3)) (kk : zV F X h (pc + 3) lv (v :: st)) : zV F X h pc lv (.ref a :: st) := by
  obtain ⟨l, D, dA, H0⟩ := F
  obtain ⟨p, e, R, s, m, args, below, meth, c, Q, nL'⟩ := X
  obtain ⟨rfl, rfl, hx, hb, hml, hr, hlk, hown, hnm, hts, hK, hc0, hn0⟩ := g
  intro H locs ls k9 n9 hR hL hl
  obtain ⟨C, T, N, ty, c1, c2, c3, c4, c5, c6, c7, c8, c9⟩ := L
  exact va_get (D := D) (ci := ci) (v := v) (C := C) (T := T) (N := N) hx hb hts c3 hown hK.1 (hR.P ha) 0 rfl c1 k c2 (hts _ c4) (fun _ h9 => h9) hv hd (kk H locs ls k9 n9 hR hL hl)
theorem v_put (g : zG F X y cc nL ret rm cn) {a ci k idx : Nat} {fs fs' : List Value} {t : FieldType} {v : Value} (ha : h.1 a = some (oB ci fs)) (L : zFL y.cls idx ci k t false) (hn : narrow t v = v) (hf : fits t v = true) (hl2 : k < fs.length) (hs : fs.set k v = fs') (hd : decode cc pc = .ok (.putfield idx, 3)) (kk : zV F X (z_s h a (oB ci fs')) (pc + 3) lv st) : zV F X h pc lv (v :: .ref a :: st) := by
  obtain ⟨l, D, dA, H0⟩ := F
  obtain ⟨p, e, R, s, m, args, below, meth, c, Q, nL'⟩ := X
  obtain ⟨rfl, rfl, hx, hb, hml, hr, hlk, hown, hnm, hts, hK, hc0, hn0⟩ := g
  intro H locs ls k9 n9 hR hL hl
  subst hs
  obtain ⟨C, T, N, ty, hc, c2, hin, c4, hty, hnm2, c7, hfin, c9⟩ := L
  have hap := va_apart (own := y.cls) hts hin ty hty hnm2 hK.1 hc
  obtain ⟨r, h1, cell, q1, q2, q3, q4⟩ := (hR.2.2.2 a _ ha).2
  have hr2 : r = (C, T, N) := Option.some.inj (h1.symm.trans hc)
  subst hr2
  obtain ⟨hS, hfc, kC, hkC, hkind⟩ := hK.1.1 ci _ hc
  obtain ⟨cf, kf, fi, f, hi, hsl⟩ := hS k c2
  have hlay := hts _ (hin _ (u_in_lay c2))
  unfold u_lay at hlay
  rw [if_neg (by rw [hfin]; decide)] at hlay
  have hst := (u_facts hfc hkC (u_lays hts hin c2) hi).1
  have h6 := u_store hfc hkC hkind hlay hi ((hty k c2).trans (by rw [c7])) hn hf
  refine W.putK hx hb (f := f) ⟨hown, hts _ c4, ⟨_, _, _, hi⟩, hst⟩ (by rw [q2]; exact h6) q1 q3 (by rw [hsl]; exact k2_hasslot (q4 k c2)) rfl rfl hd fun H' e1 e2 e3 => ?_
  rw [hsl] at e1 ⊢
  refine kk H' _ ls k9 n9 (hR.put ha q1 e1 e2 e3 (by simp [Cell.setSlot]) ⟨_, hc, t_OB.to (V := updV (vp_V fs) k v) ⟨_, e1, q2, q3, t_set q4 hap c2 v⟩ (fun j _ => vp_updV_set hl2 v j)⟩) (zL_app hL (hR.ge ha)) hl
theorem v_putF (g : zG F X y cc nL ret rm cn) {a ci k idx : Nat} {fs fs' : List Value} {t : FieldType} {v : Value} (ha : h.1 a = some (oB ci fs)) (L : zFL y.cls idx ci k t true) (hin2 : y.name = "<init>") (hci : vwCl[ci]?.map (fun q => q.1) = some y.cls) (hn : narrow t v = v) (hf : fits t v = true) (hl2 : k < fs.length) (hs : fs.set k v = fs') (hd : decode cc pc = .ok (.putfield idx, 3)) (kk : zV F X (z_s h a (oB ci fs')) (pc + 3) lv st) : zV F X h pc lv (v :: .ref a :: st) := by
  obtain ⟨l, D, dA, H0⟩ := F
  obtain ⟨p, e, R, s, m, args, below, meth, c, Q, nL'⟩ := X
  obtain ⟨rfl, rfl, hx, hb, hml, hr, hlk, hown, hnm, hts, hK, hc0, hn0⟩ := g
  intro H locs ls k9 n9 hR hL hl
  subst hs
  obtain ⟨C, T, N, ty, hc, c2, hin, c4, hty, hnm2, c7, hfin, c9⟩ := L
  have hCy : C = y.cls := by rw [hc] at hci; exact Option.some.inj hci
  have hap := va_apart (own := y.cls) hts hin ty hty hnm2 hK.1 hc
  obtain ⟨r, h1, cell, q1, q2, q3, q4⟩ := (hR.2.2.2 a _ ha).2
  have hr2 : r = (C, T, N) := Option.some.inj (h1.symm.trans hc)
  subst hr2
  obtain ⟨hS, hfc, kC, hkC, hkind⟩ := hK.1.1 ci _ hc
  obtain ⟨cf, kf, fi, f, hi, hsl⟩ := hS k c2
  have hlay := hts _ (hin _ (u_in_lay c2))
  unfold u_lay at hlay
  rw [if_pos hfin] at hlay
  have hst := (u_facts hfc hkC (u_lays hts hin c2) hi).1
  have hcf : m.cls = cf := by
    obtain ⟨_, _, c', _, _, _, -, -, hf', -, -, -, hown2, -⟩ := Cond.laysFinal_spec hlay
    have e1 : c' = cf := by have := hi.symm.trans hf'; simp at this; exact this.1.symm
    rw [c9, hCy] at hown2
    rw [← e1]; exact Option.some.inj (hown.symm.trans hown2)
  have h6 := u_fits hfc hkC hkind (Or.inr hlay) hi ((hty k c2).trans (by rw [c7])) hn hf
  refine W.putFinK hx hb hown (hts _ c4) hi hst hcf (hnm.trans hin2) (by rw [q2]; exact h6) q1 q3 (by rw [hsl]; exact k2_hasslot (q4 k c2)) rfl rfl hd fun H' e1 e2 e3 => ?_
  rw [hsl] at e1 ⊢
  refine kk H' _ ls k9 n9 (hR.put ha q1 e1 e2 e3 (by simp [Cell.setSlot]) ⟨_, hc, t_OB.to (V := updV (vp_V fs) k v) ⟨_, e1, q2, q3, t_set q4 hap c2 v⟩ (fun j _ => vp_updV_set hl2 v j)⟩) (zL_app hL (hR.ge ha)) hl
theorem v_iald (g : zG F X y cc nL ret rm cn) {a n : Nat} {f : Nat → Int32} {i : Int32} (ha : h.1 a = some (aI n f)) (j : Nat) (hi : i = nI j) (hj : j < n) (hn : n ≤ 1000000) (hd : decode cc pc = .ok (.iaload, 1)) (kk : zV F X h (pc + 1) lv (.int (f j) :: st)) : zV F X h pc lv (.int i :: .ref a :: st) := by
  obtain ⟨l, D, dA, H0⟩ := F
  obtain ⟨p, e, R, s, m, args, below, meth, c, Q, nL'⟩ := X
  obtain ⟨rfl, rfl, hx, hb, hml, hr, hlk, hown, hnm, hts, hK, hc0, hn0⟩ := g
  intro H locs ls k9 n9 hR hL hl
  obtain ⟨i1, i2⟩ := z_in hi hj hn
  exact va_iald hx hb hK.1 (hR.P ha) 0 0 rfl rfl i1 hd (by rw [i2]; exact kk H locs ls k9 n9 hR hL hl)
theorem v_lald (g : zG F X y cc nL ret rm cn) {a n : Nat} {f : Nat → Int64} {i : Int32} (ha : h.1 a = some (aJ n f)) (j : Nat) (hi : i = nI j) (hj : j < n) (hn : n ≤ 1000000) (hd : decode cc pc = .ok (.laload, 1)) (kk : zV F X h (pc + 1) lv (.long (f j) :: st)) : zV F X h pc lv (.int i :: .ref a :: st) := by
  obtain ⟨l, D, dA, H0⟩ := F
  obtain ⟨p, e, R, s, m, args, below, meth, c, Q, nL'⟩ := X
  obtain ⟨rfl, rfl, hx, hb, hml, hr, hlk, hown, hnm, hts, hK, hc0, hn0⟩ := g
  intro H locs ls k9 n9 hR hL hl
  obtain ⟨i1, i2⟩ := z_in hi hj hn
  exact va_lald hx hb hK.1 (hR.P ha) 0 1 rfl rfl i1 hd (by rw [i2]; exact kk H locs ls k9 n9 hR hL hl)
theorem v_zald (g : zG F X y cc nL ret rm cn) {a n : Nat} {f : Nat → Int32} {i : Int32} (ha : h.1 a = some (aZ n f)) (j : Nat) (hi : i = nI j) (hj : j < n) (hn : n ≤ 1000000) (hd : decode cc pc = .ok (.baload, 1)) (kk : zV F X h (pc + 1) lv (.int (f j) :: st)) : zV F X h pc lv (.int i :: .ref a :: st) := by
  obtain ⟨l, D, dA, H0⟩ := F
  obtain ⟨p, e, R, s, m, args, below, meth, c, Q, nL'⟩ := X
  obtain ⟨rfl, rfl, hx, hb, hml, hr, hlk, hown, hnm, hts, hK, hc0, hn0⟩ := g
  intro H locs ls k9 n9 hR hL hl
  obtain ⟨i1, i2⟩ := z_in hi hj hn
  exact va_zald hx hb hK.1 (hR.P ha) 0 2 rfl rfl i1 hd (by rw [i2]; exact kk H locs ls k9 n9 hR hL hl)
theorem v_aald3 (g : zG F X y cc nL ret rm cn) {a n : Nat} {f : Nat → Option Nat} {i : Int32} (ha : h.1 a = some (aQ 3 n f)) (j : Nat) (hi : i = nI j) (hj : j < n) (hn : n ≤ 1000000) (hd : decode cc pc = .ok (.aaload, 1)) (kk : zV F X h (pc + 1) lv (va_rf (f j) :: st)) : zV F X h pc lv (.int i :: .ref a :: st) := by
  obtain ⟨l, D, dA, H0⟩ := F
  obtain ⟨p, e, R, s, m, args, below, meth, c, Q, nL'⟩ := X
  obtain ⟨rfl, rfl, hx, hb, hml, hr, hlk, hown, hnm, hts, hK, hc0, hn0⟩ := g
  intro H locs ls k9 n9 hR hL hl
  obtain ⟨i1, i2⟩ := z_in hi hj hn
  exact va_aldq hx hb hK.1 (hR.P ha) 0 3 rfl rfl i1 hd (by rw [i2]; exact kk H locs ls k9 n9 hR hL hl)
theorem v_aald4 (g : zG F X y cc nL ret rm cn) {a n : Nat} {f : Nat → Option Nat} {i : Int32} (ha : h.1 a = some (aQ 4 n f)) (j : Nat) (hi : i = nI j) (hj : j < n) (hn : n ≤ 1000000) (hd : decode cc pc = .ok (.aaload, 1)) (kk : zV F X h (pc + 1) lv (va_rf (f j) :: st)) : zV F X h pc lv (.int i :: .ref a :: st) := by
  obtain ⟨l, D, dA, H0⟩ := F
  obtain ⟨p, e, R, s, m, args, below, meth, c, Q, nL'⟩ := X
  obtain ⟨rfl, rfl, hx, hb, hml, hr, hlk, hown, hnm, hts, hK, hc0, hn0⟩ := g
  intro H locs ls k9 n9 hR hL hl
  obtain ⟨i1, i2⟩ := z_in hi hj hn
  exact va_aldq hx hb hK.1 (hR.P ha) 0 4 rfl rfl i1 hd (by rw [i2]; exact kk H locs ls k9 n9 hR hL hl)
theorem v_aald5 (g : zG F X y cc nL ret rm cn) {a n : Nat} {f : Nat → Option Nat} {i : Int32} (ha : h.1 a = some (aQ 5 n f)) (j : Nat) (hi : i = nI j) (hj : j < n) (hn : n ≤ 1000000) (hd : decode cc pc = .ok (.aaload, 1)) (kk : zV F X h (pc + 1) lv (va_rf (f j) :: st)) : zV F X h pc lv (.int i :: .ref a :: st) := by
  obtain ⟨l, D, dA, H0⟩ := F
  obtain ⟨p, e, R, s, m, args, below, meth, c, Q, nL'⟩ := X
  obtain ⟨rfl, rfl, hx, hb, hml, hr, hlk, hown, hnm, hts, hK, hc0, hn0⟩ := g
  intro H locs ls k9 n9 hR hL hl
  obtain ⟨i1, i2⟩ := z_in hi hj hn
  exact va_aldq hx hb hK.1 (hR.P ha) 0 5 rfl rfl i1 hd (by rw [i2]; exact kk H locs ls k9 n9 hR hL hl)
theorem v_iast (g : zG F X y cc nL ret rm cn) {a n : Nat} {f : Nat → Int32} {i : Int32} {x : Int32} (ha : h.1 a = some (aI n f)) (j : Nat) (hi : i = nI j) (hj : j < n) (hn : n ≤ 1000000) (hd : decode cc pc = .ok (.iastore, 1)) (kk : zV F X (z_s h a (aI n (upd f j x))) (pc + 1) lv st) : zV F X h pc lv (.int x :: .int i :: .ref a :: st) := by
  obtain ⟨l, D, dA, H0⟩ := F
  obtain ⟨p, e, R, s, m, args, below, meth, c, Q, nL'⟩ := X
  obtain ⟨rfl, rfl, hx, hb, hml, hr, hlk, hown, hnm, hts, hK, hc0, hn0⟩ := g
  intro H locs ls k9 n9 hR hL hl
  obtain ⟨i1, i2⟩ := z_in hi hj hn
  have hc : H[a]? = some (vp_cell _ _) := hR.P ha 0 _ rfl
  refine W.iast hx hb hc ((hK.1.2 0 _ rfl).1 n (fun j => .int (f j))) (fun q => by cases q) (by show ¬ (i < 0 ∨ (arrV _ _ _).slots.size ≤ _); rw [arrV_size]; exact i1) rfl rfl hd fun H1 e1 e2 e3 => ?_
  rw [i2] at e1 ⊢
  have e4 : H1[a]? = some (vp_cell (dA 0) (n, .inl (upd f j x))) := by
    rw [e1, vp_cell_i, vp_cell_i, arrV_store]
    congr 2
    funext q
    by_cases hq : q = j
    · subst hq
      simp [updV, upd, vp_updL]
    · simp [updV, upd, vp_updL, hq]
  exact kk H1 _ ls k9 n9 (hR.put ha hc e4 e2 e3 (by rw [vp_cell_i, vp_cell_i, arrV_size, arrV_size]) e4) (zL_app hL (hR.ge ha)) hl
theorem v_last (g : zG F X y cc nL ret rm cn) {a n : Nat} {f : Nat → Int64} {i : Int32} {x : Int64} (ha : h.1 a = some (aJ n f)) (j : Nat) (hi : i = nI j) (hj : j < n) (hn : n ≤ 1000000) (hd : decode cc pc = .ok (.lastore, 1)) (kk : zV F X (z_s h a (aJ n (vp_updL f j x))) (pc + 1) lv st) : zV F X h pc lv (.long x :: .int i :: .ref a :: st) := by
  obtain ⟨l, D, dA, H0⟩ := F
  obtain ⟨p, e, R, s, m, args, below, meth, c, Q, nL'⟩ := X
  obtain ⟨rfl, rfl, hx, hb, hml, hr, hlk, hown, hnm, hts, hK, hc0, hn0⟩ := g
  intro H locs ls k9 n9 hR hL hl
  obtain ⟨i1, i2⟩ := z_in hi hj hn
  have hc : H[a]? = some (vp_cell _ _) := hR.P ha 0 _ rfl
  refine W.last hx hb hc ((hK.1.2 1 _ rfl).1 n (fun j => .long (f j))) (fun q => by cases q) (by show ¬ (i < 0 ∨ (arrV _ _ _).slots.size ≤ _); rw [arrV_size]; exact i1) rfl rfl hd fun H1 e1 e2 e3 => ?_
  rw [i2] at e1 ⊢
  have e4 : H1[a]? = some (vp_cell (dA 1) (n, .inr <| .inl (vp_updL f j x))) := by
    rw [e1, vp_cell_l, vp_cell_l, arrV_store]
    congr 2
    funext q
    by_cases hq : q = j
    · subst hq
      simp [updV, upd, vp_updL]
    · simp [updV, upd, vp_updL, hq]
  exact kk H1 _ ls k9 n9 (hR.put ha hc e4 e2 e3 (by rw [vp_cell_l, vp_cell_l, arrV_size, arrV_size]) e4) (zL_app hL (hR.ge ha)) hl
theorem v_zast (g : zG F X y cc nL ret rm cn) {a n : Nat} {f : Nat → Int32} {i : Int32} {x : Int32} (ha : h.1 a = some (aZ n f)) (hx01 : x = 0 ∨ x = 1) (j : Nat) (hi : i = nI j) (hj : j < n) (hn : n ≤ 1000000) (hd : decode cc pc = .ok (.bastore, 1)) (kk : zV F X (z_s h a (aZ n (upd f j x))) (pc + 1) lv st) : zV F X h pc lv (.int x :: .int i :: .ref a :: st) := by
  obtain ⟨l, D, dA, H0⟩ := F
  obtain ⟨p, e, R, s, m, args, below, meth, c, Q, nL'⟩ := X
  obtain ⟨rfl, rfl, hx, hb, hml, hr, hlk, hown, hnm, hts, hK, hc0, hn0⟩ := g
  intro H locs ls k9 n9 hR hL hl
  obtain ⟨i1, i2⟩ := z_in hi hj hn
  have hc : H[a]? = some (vp_cell _ _) := hR.P ha 0 _ rfl
  refine W.zast hx hb hc ((hK.1.2 2 _ rfl).1 n (fun j => .int (f j))) (fun q => by cases q) (by show ¬ (i < 0 ∨ (arrV _ _ _).slots.size ≤ _); rw [arrV_size]; exact i1) rfl rfl hd fun H1 e1 e2 e3 => ?_
  rw [i2] at e1 ⊢
  have e4 : H1[a]? = some (vp_cell (dA 2) (n, .inl (upd f j x))) := by
    rw [e1, vp_cell_i, vp_cell_i, arrV_store]
    congr 2
    funext q
    by_cases hq : q = j
    · subst hq
      rcases hx01 with rfl | rfl <;> simp [updV, upd, narrow] <;> rfl
    · simp [updV, upd, vp_updL, hq]
  exact kk H1 _ ls k9 n9 (hR.put ha hc e4 e2 e3 (by rw [vp_cell_i, vp_cell_i, arrV_size, arrV_size]) e4) (zL_app hL (hR.ge ha)) hl
theorem v_aast3 (g : zG F X y cc nL ret rm cn) {a n : Nat} {f : Nat → Option Nat} {i : Int32} {r : Option Nat} (ha : h.1 a = some (aQ 3 n f)) (hr9 : ∀ v, r = some v → ∃ fs, h.1 v = some (oB 3 fs)) (j : Nat) (hi : i = nI j) (hj : j < n) (hn : n ≤ 1000000) (hd : decode cc pc = .ok (.aastore, 1)) (kk : zV F X (z_s h a (aQ 3 n (va_up f j r))) (pc + 1) lv st) : zV F X h pc lv (va_rf r :: .int i :: .ref a :: st) := by
  obtain ⟨l, D, dA, H0⟩ := F
  obtain ⟨p, e, R, s, m, args, below, meth, c, Q, nL'⟩ := X
  obtain ⟨rfl, rfl, hx, hb, hml, hr, hlk, hown, hnm, hts, hK, hc0, hn0⟩ := g
  intro H locs ls k9 n9 hR hL hl
  obtain ⟨i1, i2⟩ := z_in hi hj hn
  have hc : H[a]? = some (vp_cell _ _) := hR.P ha 0 _ rfl
  have fin : ∀ H1 : Heap, H1[a]? = some ((vp_cell (dA 3) (n, .inr (.inr (.inr (.inr f))))).setSlot i.toNatClampNeg (va_rf r)) → H1.size = H.size → (∀ q, q ≠ a → H1[q]? = H[q]?) → W p l e R s m args below meth c H1 (locs ++ [⟨a, i.toNatClampNeg⟩]) k9 n9 Q (F0 m (pc + 1) ls st) := by
    intro H1 e1 e2 e3
    rw [i2] at e1 ⊢
    have e4 : H1[a]? = some (vp_cell (dA 3) (n, .inr (.inr (.inr (.inr (va_up f j r)))))) := by
      rw [e1, vp_cell_q, vp_cell_q, arrV_store]
      congr 2
      funext q
      by_cases hq : q = j
      · subst hq
        simp [updV, va_up]
      · simp [updV, va_up, hq]
    exact kk H1 _ ls k9 n9 (hR.put ha hc e4 e2 e3 (by rw [vp_cell_q, vp_cell_q, arrV_size, arrV_size]) e4) (zL_app hL (hR.ge ha)) hl
  have hlt : i.toNatClampNeg < n := by omega
  cases r with
  | none => exact va_WaastN (C := RX3) hx hb hc ((hK.1.2 3 _ rfl).1 n (fun j => va_rf (f j))) (fun h => by cases h) (by show ¬ (i < 0 ∨ (arrV _ _ _).slots.size ≤ _); rw [arrV_size]; exact i1) rfl rfl hd fin
  | some v =>
    obtain ⟨fs, hv⟩ := hr9 v rfl
    obtain ⟨r', hr', cellV, g1, g2, g3, -⟩ := (hR.2.2.2 v _ hv).2
    have hcls := (hK.1.1 3 _ rfl).2
    obtain ⟨kA, comp, k1, k2, k3, -⟩ := (hK.1.2 3 _ rfl).2
    have hcomp : comp = D.1 3 := Option.some.inj (k3.symm.trans hcls.1)
    subst hcomp
    obtain ⟨kC, hkC, -⟩ := hcls.2
    exact W.aast hx hb hc (fun q h => by cases h) (fun h => by cases h) k1 k2 rfl hkC ⟨fun q => i1 (Or.inl q), by show _ < (arrV _ _ _).slots.size; rw [arrV_size]; exact hlt⟩ g1 (fun q h => by rw [g3] at h; cases h) (by rw [g2]; exact hkC) (by rw [g2]; exact va_assign hcls) rfl rfl hd fin
theorem v_aast4 (g : zG F X y cc nL ret rm cn) {a n : Nat} {f : Nat → Option Nat} {i : Int32} {r : Option Nat} (ha : h.1 a = some (aQ 4 n f)) (hr9 : ∀ v, r = some v → ∃ fs, h.1 v = some (oB 1 fs)) (j : Nat) (hi : i = nI j) (hj : j < n) (hn : n ≤ 1000000) (hd : decode cc pc = .ok (.aastore, 1)) (kk : zV F X (z_s h a (aQ 4 n (va_up f j r))) (pc + 1) lv st) : zV F X h pc lv (va_rf r :: .int i :: .ref a :: st) := by
  obtain ⟨l, D, dA, H0⟩ := F
  obtain ⟨p, e, R, s, m, args, below, meth, c, Q, nL'⟩ := X
  obtain ⟨rfl, rfl, hx, hb, hml, hr, hlk, hown, hnm, hts, hK, hc0, hn0⟩ := g
  intro H locs ls k9 n9 hR hL hl
  obtain ⟨i1, i2⟩ := z_in hi hj hn
  have hc : H[a]? = some (vp_cell _ _) := hR.P ha 0 _ rfl
  have fin : ∀ H1 : Heap, H1[a]? = some ((vp_cell (dA 4) (n, .inr (.inr (.inr (.inr f))))).setSlot i.toNatClampNeg (va_rf r)) → H1.size = H.size → (∀ q, q ≠ a → H1[q]? = H[q]?) → W p l e R s m args below meth c H1 (locs ++ [⟨a, i.toNatClampNeg⟩]) k9 n9 Q (F0 m (pc + 1) ls st) := by
    intro H1 e1 e2 e3
    rw [i2] at e1 ⊢
    have e4 : H1[a]? = some (vp_cell (dA 4) (n, .inr (.inr (.inr (.inr (va_up f j r)))))) := by
      rw [e1, vp_cell_q, vp_cell_q, arrV_store]
      congr 2
      funext q
      by_cases hq : q = j
      · subst hq
        simp [updV, va_up]
      · simp [updV, va_up, hq]
    exact kk H1 _ ls k9 n9 (hR.put ha hc e4 e2 e3 (by rw [vp_cell_q, vp_cell_q, arrV_size, arrV_size]) e4) (zL_app hL (hR.ge ha)) hl
  have hlt : i.toNatClampNeg < n := by omega
  cases r with
  | none => exact va_WaastN (C := RX1) hx hb hc ((hK.1.2 4 _ rfl).1 n (fun j => va_rf (f j))) (fun h => by cases h) (by show ¬ (i < 0 ∨ (arrV _ _ _).slots.size ≤ _); rw [arrV_size]; exact i1) rfl rfl hd fin
  | some v =>
    obtain ⟨fs, hv⟩ := hr9 v rfl
    obtain ⟨r', hr', cellV, g1, g2, g3, -⟩ := (hR.2.2.2 v _ hv).2
    have hcls := (hK.1.1 1 _ rfl).2
    obtain ⟨kA, comp, k1, k2, k3, -⟩ := (hK.1.2 4 _ rfl).2
    have hcomp : comp = D.1 1 := Option.some.inj (k3.symm.trans hcls.1)
    subst hcomp
    obtain ⟨kC, hkC, -⟩ := hcls.2
    exact W.aast hx hb hc (fun q h => by cases h) (fun h => by cases h) k1 k2 rfl hkC ⟨fun q => i1 (Or.inl q), by show _ < (arrV _ _ _).slots.size; rw [arrV_size]; exact hlt⟩ g1 (fun q h => by rw [g3] at h; cases h) (by rw [g2]; exact hkC) (by rw [g2]; exact va_assign hcls) rfl rfl hd fin
theorem v_aast5 (g : zG F X y cc nL ret rm cn) {a n : Nat} {f : Nat → Option Nat} {i : Int32} {r : Option Nat} (ha : h.1 a = some (aQ 5 n f)) (hr9 : ∀ v, r = some v → ∃ fs, h.1 v = some (oB 2 fs)) (j : Nat) (hi : i = nI j) (hj : j < n) (hn : n ≤ 1000000) (hd : decode cc pc = .ok (.aastore, 1)) (kk : zV F X (z_s h a (aQ 5 n (va_up f j r))) (pc + 1) lv st) : zV F X h pc lv (va_rf r :: .int i :: .ref a :: st) := by
  obtain ⟨l, D, dA, H0⟩ := F
  obtain ⟨p, e, R, s, m, args, below, meth, c, Q, nL'⟩ := X
  obtain ⟨rfl, rfl, hx, hb, hml, hr, hlk, hown, hnm, hts, hK, hc0, hn0⟩ := g
  intro H locs ls k9 n9 hR hL hl
  obtain ⟨i1, i2⟩ := z_in hi hj hn
  have hc : H[a]? = some (vp_cell _ _) := hR.P ha 0 _ rfl
  have fin : ∀ H1 : Heap, H1[a]? = some ((vp_cell (dA 5) (n, .inr (.inr (.inr (.inr f))))).setSlot i.toNatClampNeg (va_rf r)) → H1.size = H.size → (∀ q, q ≠ a → H1[q]? = H[q]?) → W p l e R s m args below meth c H1 (locs ++ [⟨a, i.toNatClampNeg⟩]) k9 n9 Q (F0 m (pc + 1) ls st) := by
    intro H1 e1 e2 e3
    rw [i2] at e1 ⊢
    have e4 : H1[a]? = some (vp_cell (dA 5) (n, .inr (.inr (.inr (.inr (va_up f j r)))))) := by
      rw [e1, vp_cell_q, vp_cell_q, arrV_store]
      congr 2
      funext q
      by_cases hq : q = j
      · subst hq
        simp [updV, va_up]
      · simp [updV, va_up, hq]
    exact kk H1 _ ls k9 n9 (hR.put ha hc e4 e2 e3 (by rw [vp_cell_q, vp_cell_q, arrV_size, arrV_size]) e4) (zL_app hL (hR.ge ha)) hl
  have hlt : i.toNatClampNeg < n := by omega
  cases r with
  | none => exact va_WaastN (C := RX2) hx hb hc ((hK.1.2 5 _ rfl).1 n (fun j => va_rf (f j))) (fun h => by cases h) (by show ¬ (i < 0 ∨ (arrV _ _ _).slots.size ≤ _); rw [arrV_size]; exact i1) rfl rfl hd fin
  | some v =>
    obtain ⟨fs, hv⟩ := hr9 v rfl
    obtain ⟨r', hr', cellV, g1, g2, g3, -⟩ := (hR.2.2.2 v _ hv).2
    have hcls := (hK.1.1 2 _ rfl).2
    obtain ⟨kA, comp, k1, k2, k3, -⟩ := (hK.1.2 5 _ rfl).2
    have hcomp : comp = D.1 2 := Option.some.inj (k3.symm.trans hcls.1)
    subst hcomp
    obtain ⟨kC, hkC, -⟩ := hcls.2
    exact W.aast hx hb hc (fun q h => by cases h) (fun h => by cases h) k1 k2 rfl hkC ⟨fun q => i1 (Or.inl q), by show _ < (arrV _ _ _).slots.size; rw [arrV_size]; exact hlt⟩ g1 (fun q h => by rw [g3] at h; cases h) (by rw [g2]; exact hkC) (by rw [g2]; exact va_assign hcls) rfl rfl hd fin
theorem v_alen (g : zG F X y cc nL ret rm cn) {a k : Nat} {x : vp_A} (ha : h.1 a = some (.inl (k, x))) (hk : k < 6) (hd : decode cc pc = .ok (.arraylength, 1)) (kk : zV F X h (pc + 1) lv (.int (nI x.1) :: st)) : zV F X h pc lv (.ref a :: st) := by
  obtain ⟨l, D, dA, H0⟩ := F
  obtain ⟨p, e, R, s, m, args, below, meth, c, Q, nL'⟩ := X
  obtain ⟨rfl, rfl, hx, hb, hml, hr, hlk, hown, hnm, hts, hK, hc0, hn0⟩ := g
  intro H locs ls k9 n9 hR hL hl
  have hz : ∃ ty, (z_ty dA)[k]? = some (dA k, ty) := by
    rcases (show k = 0 ∨ k = 1 ∨ k = 2 ∨ k = 3 ∨ k = 4 ∨ k = 5 by omega) with rfl | rfl | rfl | rfl | rfl | rfl <;> exact ⟨_, rfl⟩
  obtain ⟨ty, hz⟩ := hz
  exact va_alen hx hb hK.1 (hR.P ha) 0 k rfl hz rfl hd (kk H locs ls k9 n9 hR hL hl)
theorem v_new (g : zG F X y cc nL ret rm cn) {idx ci N : Nat} {fs : List Value} (L : zNL y.cls idx ci fs N) (hcs : h.2.1 + 1 ≤ cn.1 + rm.cells ∧ h.2.2 + N ≤ cn.2 + rm.slots) (hd : decode cc pc = .ok (.new idx, 3)) (kk : ∀ q : Nat, h.1 q = none → zV F X (z_n h q (oB ci fs) N) (pc + 3) lv (.ref q :: st)) : zV F X h pc lv st := by
  obtain ⟨l, D, dA, H0⟩ := F
  obtain ⟨p, e, R, s, m, args, below, meth, c, Q, nL'⟩ := X
  obtain ⟨rfl, rfl, hx, hb, hml, hr, hlk, hown, hnm, hts, hK, hc0, hn0⟩ := g
  intro H locs ls k9 n9 hR hL hl
  obtain ⟨C, T, ty, hc, hin, c3, c4, c5, hty, hfs⟩ := L
  have hKn := hK.1.1 ci _ hc
  refine zW_tight H0.size (by omega) (fun t1 t2 => ?_)
  refine W.newc hx hb hown (hts _ c3) (hts _ c4) (hts _ c5) rfl hd (by have := hR.1; omega) (by have := hR.2.1; omega) fun cC kC f1 f2 f3 f4 => ?_
  have e9 : cC = D.1 ci := Option.some.inj (f1.symm.trans hKn.2.1)
  subst e9
  generalize hH1 : H.push ({ cls := D.1 ci, slots := kC.instanceTypes.map defaultValue, vm := .none } : Cell) = H1
  have z1 : H1.size = H.size + 1 := by rw [← hH1, Array.size_push]
  have e1 : H1[H.size]? = some ({ cls := D.1 ci, slots := kC.instanceTypes.map defaultValue, vm := .none } : Cell) := by rw [← hH1, Array.getElem?_push_size]
  have o1 : ∀ q : Nat, q < H.size → H1[q]? = H[q]? := fun q hq => by rw [← hH1, Array.getElem?_push, if_neg (Nat.ne_of_lt hq)]
  exact kk H.size hR.fresh H1 _ ls _ _ (hR.push e1 z1 o1 (by simp [f4]) ⟨_, hc, (u_born ty hts hin hKn f2 e1 hty).to hfs⟩) hL hl
theorem v_newI (g : zG F X y cc nL ret rm cn) {i : Int32} (N : Nat) (hi : i = nI N) (hN : N ≤ 1000000) (hw : Cond.arrayClass .int ∈ zW) (hcs : h.2.1 + 1 ≤ cn.1 + rm.cells ∧ h.2.2 + N ≤ cn.2 + rm.slots) (hd : decode cc pc = .ok (.newarray .int, 2)) (kk : ∀ q : Nat, h.1 q = none → zV F X (z_n h q (aI N (fun _ => 0)) N) (pc + 2) lv (.ref q :: st)) : zV F X h pc lv (.int i :: st) := by
  obtain ⟨l, D, dA, H0⟩ := F
  obtain ⟨p, e, R, s, m, args, below, meth, c, Q, nL'⟩ := X
  obtain ⟨rfl, rfl, hx, hb, hml, hr, hlk, hown, hnm, hts, hK, hc0, hn0⟩ := g
  intro H locs ls k9 n9 hR hL hl
  subst hi
  refine zW_tight H0.size (by omega) (fun t1 t2 => ?_)
  refine va_newaK (atype := .int) (N := N) hx hb (hts _ hw) rfl hd rfl (nI_pos (by omega)) (nI_clamp (by omega)) (by show N * _ ≤ _; simp only [componentBytes, newarray.typeOf]; omega) (by have := hR.1; omega) (by have := hR.2.1; omega) rfl fun H1 cA e1 z1 o1 hAr hNm => ?_
  have e9 : cA = dA 0 := Option.some.inj (hNm.symm.trans (hK.1.2 0 _ rfl).2)
  subst e9
  exact kk H.size hR.fresh H1 _ ls _ _ (hR.push (x1 := aI N (fun _ => 0)) e1 z1 o1 (by rw [arrV_size]) (by show H1[H.size]? = some (vp_cell _ _); rw [vp_cell_i]; exact e1)) hL hl
theorem v_newJ (g : zG F X y cc nL ret rm cn) {i : Int32} (N : Nat) (hi : i = nI N) (hN : N ≤ 1000000) (hw : Cond.arrayClass .long ∈ zW) (hcs : h.2.1 + 1 ≤ cn.1 + rm.cells ∧ h.2.2 + N ≤ cn.2 + rm.slots) (hd : decode cc pc = .ok (.newarray .long, 2)) (kk : ∀ q : Nat, h.1 q = none → zV F X (z_n h q (aJ N (fun _ => 0)) N) (pc + 2) lv (.ref q :: st)) : zV F X h pc lv (.int i :: st) := by
  obtain ⟨l, D, dA, H0⟩ := F
  obtain ⟨p, e, R, s, m, args, below, meth, c, Q, nL'⟩ := X
  obtain ⟨rfl, rfl, hx, hb, hml, hr, hlk, hown, hnm, hts, hK, hc0, hn0⟩ := g
  intro H locs ls k9 n9 hR hL hl
  subst hi
  refine zW_tight H0.size (by omega) (fun t1 t2 => ?_)
  refine va_newaK (atype := .long) (N := N) hx hb (hts _ hw) rfl hd rfl (nI_pos (by omega)) (nI_clamp (by omega)) (by show N * _ ≤ _; simp only [componentBytes, newarray.typeOf]; omega) (by have := hR.1; omega) (by have := hR.2.1; omega) rfl fun H1 cA e1 z1 o1 hAr hNm => ?_
  have e9 : cA = dA 1 := Option.some.inj (hNm.symm.trans (hK.1.2 1 _ rfl).2)
  subst e9
  exact kk H.size hR.fresh H1 _ ls _ _ (hR.push (x1 := aJ N (fun _ => 0)) e1 z1 o1 (by rw [arrV_size]) (by show H1[H.size]? = some (vp_cell _ _); rw [vp_cell_l]; exact e1)) hL hl
theorem v_newZ (g : zG F X y cc nL ret rm cn) {i : Int32} (N : Nat) (hi : i = nI N) (hN : N ≤ 1000000) (hw : Cond.arrayClass .boolean ∈ zW) (hcs : h.2.1 + 1 ≤ cn.1 + rm.cells ∧ h.2.2 + N ≤ cn.2 + rm.slots) (hd : decode cc pc = .ok (.newarray .boolean, 2)) (kk : ∀ q : Nat, h.1 q = none → zV F X (z_n h q (aZ N (fun _ => 0)) N) (pc + 2) lv (.ref q :: st)) : zV F X h pc lv (.int i :: st) := by
  obtain ⟨l, D, dA, H0⟩ := F
  obtain ⟨p, e, R, s, m, args, below, meth, c, Q, nL'⟩ := X
  obtain ⟨rfl, rfl, hx, hb, hml, hr, hlk, hown, hnm, hts, hK, hc0, hn0⟩ := g
  intro H locs ls k9 n9 hR hL hl
  subst hi
  refine zW_tight H0.size (by omega) (fun t1 t2 => ?_)
  refine va_newaK (atype := .boolean) (N := N) hx hb (hts _ hw) rfl hd rfl (nI_pos (by omega)) (nI_clamp (by omega)) (by show N * _ ≤ _; simp only [componentBytes, newarray.typeOf]; omega) (by have := hR.1; omega) (by have := hR.2.1; omega) rfl fun H1 cA e1 z1 o1 hAr hNm => ?_
  have e9 : cA = dA 2 := Option.some.inj (hNm.symm.trans (hK.1.2 2 _ rfl).2)
  subst e9
  exact kk H.size hR.fresh H1 _ ls _ _ (hR.push (x1 := aZ N (fun _ => 0)) e1 z1 o1 (by rw [arrV_size]) (by show H1[H.size]? = some (vp_cell _ _); rw [vp_cell_i]; exact e1)) hL hl
theorem v_newQ3 (g : zG F X y cc nL ret rm cn) {i : Int32} {idx : Nat} (N : Nat) (hi : i = nI N) (hN : N ≤ 1000000) (hw : Cond.classLink y.cls idx RX3 ∈ zW) (hw2 : Cond.arrayOver (.object RX3) ∈ zW) (hcs : h.2.1 + 1 ≤ cn.1 + rm.cells ∧ h.2.2 + N ≤ cn.2 + rm.slots) (hd : decode cc pc = .ok (.anewarray idx, 3)) (kk : ∀ q : Nat, h.1 q = none → zV F X (z_n h q (aQ 3 N (fun _ => none)) N) (pc + 3) lv (.ref q :: st)) : zV F X h pc lv (.int i :: st) := by
  obtain ⟨l, D, dA, H0⟩ := F
  obtain ⟨p, e, R, s, m, args, below, meth, c, Q, nL'⟩ := X
  obtain ⟨rfl, rfl, hx, hb, hml, hr, hlk, hown, hnm, hts, hK, hc0, hn0⟩ := g
  intro H locs ls k9 n9 hR hL hl
  subst hi
  have hcl : (nI N).toNatClampNeg = N := nI_clamp (by omega)
  refine zW_tight H0.size (by omega) (fun t1 t2 => ?_)
  refine W.anew hx hb hown (hts _ hw) (hts _ hw2) rfl hd rfl (nI_pos (by omega)) (by rw [hcl]; omega) (by have := hR.1; omega) (by rw [hcl]; have := hR.2.1; omega) fun cA kA comp f1 f2 f3 f4 => ?_
  rw [hcl]
  have e9 : cA = dA 3 := by
    obtain ⟨_, _, _, _, _, k4⟩ := (hK.1.2 3 _ rfl).2
    exact Option.some.inj (f1.symm.trans k4)
  subst e9
  generalize hH1 : H.push ({ cls := dA 3, slots := Array.replicate N .null, vm := .none } : Cell) = H1
  have z1 : H1.size = H.size + 1 := by rw [← hH1, Array.size_push]
  have e1 : H1[H.size]? = some (arrV (dA 3) N (fun _ => .null)) := by rw [← hH1, Array.getElem?_push_size, ← arrV_new]
  have o1 : ∀ q : Nat, q < H.size → H1[q]? = H[q]? := fun q hq => by rw [← hH1, Array.getElem?_push, if_neg (Nat.ne_of_lt hq)]
  exact kk H.size hR.fresh H1 _ ls _ _ (hR.push (x1 := aQ 3 N (fun _ => none)) e1 z1 o1 (by rw [arrV_size]) (by show H1[H.size]? = some (vp_cell _ _); rw [vp_cell_q]; exact e1)) hL hl
theorem v_newQ4 (g : zG F X y cc nL ret rm cn) {i : Int32} {idx : Nat} (N : Nat) (hi : i = nI N) (hN : N ≤ 1000000) (hw : Cond.classLink y.cls idx RX1 ∈ zW) (hw2 : Cond.arrayOver (.object RX1) ∈ zW) (hcs : h.2.1 + 1 ≤ cn.1 + rm.cells ∧ h.2.2 + N ≤ cn.2 + rm.slots) (hd : decode cc pc = .ok (.anewarray idx, 3)) (kk : ∀ q : Nat, h.1 q = none → zV F X (z_n h q (aQ 4 N (fun _ => none)) N) (pc + 3) lv (.ref q :: st)) : zV F X h pc lv (.int i :: st) := by
  obtain ⟨l, D, dA, H0⟩ := F
  obtain ⟨p, e, R, s, m, args, below, meth, c, Q, nL'⟩ := X
  obtain ⟨rfl, rfl, hx, hb, hml, hr, hlk, hown, hnm, hts, hK, hc0, hn0⟩ := g
  intro H locs ls k9 n9 hR hL hl
  subst hi
  have hcl : (nI N).toNatClampNeg = N := nI_clamp (by omega)
  refine zW_tight H0.size (by omega) (fun t1 t2 => ?_)
  refine W.anew hx hb hown (hts _ hw) (hts _ hw2) rfl hd rfl (nI_pos (by omega)) (by rw [hcl]; omega) (by have := hR.1; omega) (by rw [hcl]; have := hR.2.1; omega) fun cA kA comp f1 f2 f3 f4 => ?_
  rw [hcl]
  have e9 : cA = dA 4 := by
    obtain ⟨_, _, _, _, _, k4⟩ := (hK.1.2 4 _ rfl).2
    exact Option.some.inj (f1.symm.trans k4)
  subst e9
  generalize hH1 : H.push ({ cls := dA 4, slots := Array.replicate N .null, vm := .none } : Cell) = H1
  have z1 : H1.size = H.size + 1 := by rw [← hH1, Array.size_push]
  have e1 : H1[H.size]? = some (arrV (dA 4) N (fun _ => .null)) := by rw [← hH1, Array.getElem?_push_size, ← arrV_new]
  have o1 : ∀ q : Nat, q < H.size → H1[q]? = H[q]? := fun q hq => by rw [← hH1, Array.getElem?_push, if_neg (Nat.ne_of_lt hq)]
  exact kk H.size hR.fresh H1 _ ls _ _ (hR.push (x1 := aQ 4 N (fun _ => none)) e1 z1 o1 (by rw [arrV_size]) (by show H1[H.size]? = some (vp_cell _ _); rw [vp_cell_q]; exact e1)) hL hl
theorem v_newQ5 (g : zG F X y cc nL ret rm cn) {i : Int32} {idx : Nat} (N : Nat) (hi : i = nI N) (hN : N ≤ 1000000) (hw : Cond.classLink y.cls idx RX2 ∈ zW) (hw2 : Cond.arrayOver (.object RX2) ∈ zW) (hcs : h.2.1 + 1 ≤ cn.1 + rm.cells ∧ h.2.2 + N ≤ cn.2 + rm.slots) (hd : decode cc pc = .ok (.anewarray idx, 3)) (kk : ∀ q : Nat, h.1 q = none → zV F X (z_n h q (aQ 5 N (fun _ => none)) N) (pc + 3) lv (.ref q :: st)) : zV F X h pc lv (.int i :: st) := by
  obtain ⟨l, D, dA, H0⟩ := F
  obtain ⟨p, e, R, s, m, args, below, meth, c, Q, nL'⟩ := X
  obtain ⟨rfl, rfl, hx, hb, hml, hr, hlk, hown, hnm, hts, hK, hc0, hn0⟩ := g
  intro H locs ls k9 n9 hR hL hl
  subst hi
  have hcl : (nI N).toNatClampNeg = N := nI_clamp (by omega)
  refine zW_tight H0.size (by omega) (fun t1 t2 => ?_)
  refine W.anew hx hb hown (hts _ hw) (hts _ hw2) rfl hd rfl (nI_pos (by omega)) (by rw [hcl]; omega) (by have := hR.1; omega) (by rw [hcl]; have := hR.2.1; omega) fun cA kA comp f1 f2 f3 f4 => ?_
  rw [hcl]
  have e9 : cA = dA 5 := by
    obtain ⟨_, _, _, _, _, k4⟩ := (hK.1.2 5 _ rfl).2
    exact Option.some.inj (f1.symm.trans k4)
  subst e9
  generalize hH1 : H.push ({ cls := dA 5, slots := Array.replicate N .null, vm := .none } : Cell) = H1
  have z1 : H1.size = H.size + 1 := by rw [← hH1, Array.size_push]
  have e1 : H1[H.size]? = some (arrV (dA 5) N (fun _ => .null)) := by rw [← hH1, Array.getElem?_push_size, ← arrV_new]
  have o1 : ∀ q : Nat, q < H.size → H1[q]? = H[q]? := fun q hq => by rw [← hH1, Array.getElem?_push, if_neg (Nat.ne_of_lt hq)]
  exact kk H.size hR.fresh H1 _ ls _ _ (hR.push (x1 := aQ 5 N (fun _ => none)) e1 z1 o1 (by rw [arrV_size]) (by show H1[H.size]? = some (vp_cell _ _); rw [vp_cell_q]; exact e1)) hL hl
end VH
end
section
/-! rows of the judgement: calls -/
def zCL (own : String) (idx : Nat) (y : MethodName) (cc : ByteArray) (nL : Nat) (ret : Option FieldType) (n : Nat) : Prop := Cond.methodLink own idx y ∈ zW ∧ Cond.initialized y.cls ∈ zW ∧ Cond.code y cc nL ret ∈ zW ∧ (y.cls ≠ "java/lang/invoke/MethodHandle" ∧ y.cls ≠ "java/lang/invoke/VarHandle" ∧ (parseMethodDescriptor y.desc).map (fun d => d.parameters.length) = some n)
def zCV (own : String) (idx : Nat) (y : MethodName) (cc : ByteArray) (nL : Nat) (ret : Option FieldType) (n : Nat) : Prop := zCL own idx y cc nL ret n ∧ Cond.instanceMethod y ∈ zW ∧ Cond.selects y.cls y y ∈ zW
def zCS (own : String) (idx : Nat) (y : MethodName) (cc : ByteArray) (nL : Nat) (ret : Option FieldType) (n : Nat) : Prop := zCL own idx y cc nL ret n ∧ Cond.static y ∈ zW
def zCI (own : String) (idx : Nat) (y : MethodName) (cc : ByteArray) (nL : Nat) (n : Nat) : Prop := zCL own idx y cc nL none n ∧ y.name = "<init>" ∧ Cond.instanceMethod y ∈ zW
theorem zGood {ws : List Cond} (h : ∀ w ∈ ws, w ∈ zW) : GoodIn zW ws := fun w hw => ⟨h w hw, good_of_word (zW_good w (h w hw))⟩
theorem zCallB {R rm : Room} {s : State} {args : Array Value} {own : String} {idx : Nat} {y : MethodName} {cc : ByteArray} {nL : Nat} {ret : Option FieldType} {n : Nat} (hts : ∀ w ∈ zW, w.before args s = true) (L : zCL own idx y cc nL ret n) (hR : rm.frames + 1 ≤ R.frames ∧ 8 + (nL + 11) + rm.locals ≤ R.locals) : CallB R s args own idx y cc nL ret (Cond.code y cc nL ret :: zW) rm rm.cells rm.slots n :=
  callB_of n hts (zGood (fun w hw => (List.mem_cons.mp hw).elim (fun e => by rw [e]; exact L.2.2.1) id)) rfl rfl rfl (hts _ L.2.1) (hts _ L.1) L.2.2.2 hR
theorem zPc_blind {D : va_G} {dA : Nat → ClassId} {H0 : Heap} {av : List Value} {h : zH} : FrameBlind (zPc D dA H0 av h) := fun a U g mk q => by
  obtain ⟨q0, q1, q2⟩ := q
  exact ⟨q0, q1, zK.moved (u := U) (U := U.calling g mk a) (Vm.Alike.refl U.vm) q2⟩
section VC
variable {F : zF} {X : zX} {y : MethodName} {cc : ByteArray} {nL : Nat} {ret : Option FieldType} {rm : Room} {cn : Nat × Nat} {h : zH} {pc : Nat} {lv lv' : zLv} {st st' : List Value}
theorem zRun_go {p : Program} {l : Launch} {e : Env} {R : Room} {s : State} {m : MethodId} {args : Array Value} {below : List Frame} {meth : Method} {c : Code} {H : Heap} {locs : List Loc} {k n mc ms : Nat} {Q : State → Prop} {ls : Array Slot} {D : va_G} {dA : Nat → ClassId} {H0 : Heap} {post : Option Value → zH → Prop} {av : Array Value} {rest st0 : List Value}
    (hr : va_Run p l e R s m args below meth c H locs k n mc ms (F0 m pc ls st0) rest (zQc D dA H0 post av) (fun q => H0.size ≤ q)) (hL : ∀ q ∈ locs, H0.size ≤ q.base)
    (kk : ∀ (v : Option Value) (h' : zH) (H1 : Heap) (locs1 : List Loc), post v h' → zR D dA H0 h' H1 → (∀ q ∈ locs1, H0.size ≤ q.base) → W p l e R s m args below meth c H1 locs1 (k + mc) (n + ms) Q (F0 m (pc + 3) ls (v.toList ++ rest))) : W p l e R s m args below meth c H locs k n Q (F0 m pc ls st0) := by
  intro T hT X
  obtain ⟨v, st₀, t, T', L, h0, X', hL2, e1, e2, ⟨v2, h', hv, hp, hR'⟩, st⟩ := hr T hT X
  cases hv
  obtain ⟨t2, a1, b1⟩ := kk v h' T'.heap (locs ++ L) hp (by rw [e1]; exact hR') (fun q hq => (List.mem_append.mp hq).elim (hL q) (hL2 q)) T' rfl X'
  exact ⟨t2, st t2 a1, b1⟩
theorem v_callV (g : zG F X y cc nL ret rm cn) {y2 : MethodName} {cc2 : ByteArray} {nL2 idx b ci : Nat} {ret2 : Option FieldType} {rm2 : Room} {As rest fs : List Value} {post : Option Value → zH → Prop} (hM : zMet F y2 cc2 nL2 ret2 rm2 (.ref b :: As) h post) (L : zCV y.cls idx y2 cc2 nL2 ret2 As.length) (hb2 : h.1 b = some (oB ci fs)) (hci : vwCl[ci]?.map (fun q => q.1) = some y2.cls) (hst : st = As.reverse ++ .ref b :: rest) (hw : (rest.map fun v => v.category).sum ≤ 8) (hd : decode cc pc = .ok (.invokevirtual idx, 3)) (hRm : rm2.frames + 1 ≤ rm.frames ∧ 8 + (nL2 + 11) + rm2.locals ≤ rm.locals) (hcs : h.2.1 + rm2.cells ≤ cn.1 + rm.cells ∧ h.2.2 + rm2.slots ≤ cn.2 + rm.slots)
    (kk : ∀ (v : Option Value) (h' : zH), post v h' → zV F X h' (pc + 3) lv (v.toList ++ rest)) : zV F X h pc lv st := by
  obtain ⟨l, D, dA, H0⟩ := F
  obtain ⟨p, e, R, s, m, args, below, meth, c, Q, nL'⟩ := X
  obtain ⟨rfl, rfl, hx, hb, hml, hr, hlk, hown, hnm, hts, hK, hc0, hn0⟩ := g
  intro H locs ls k9 n9 hR hL hl
  subst hst
  have hM : Met l y2 (Cond.code y2 cc2 nL2 ret2 :: zW) rm2 (zPc D dA H0 (.ref b :: As) h) (zQc D dA H0 post) rm2.cells rm2.slots (fun q => H0.size ≤ q) := hM
  refine zW_tight H0.size (by omega) (fun t1 t2 => ?_)
  obtain ⟨r, h1, cell, q1, q2, q3, q4⟩ := (hR.2.2.2 b _ hb2).2
  have hr1 : r.1 = y2.cls := by
    have h1' : vwCl[ci]? = some r := h1
    rw [h1'] at hci
    exact Option.some.inj hci
  have hcls := (hK.1.1 ci r h1).2.1
  rw [hr1] at hcls
  refine zRun_go (va_runV (As := As) (rest := rest) ⟨hx, hb, hml, hown, hts⟩ hM (C := y2.cls) ⟨zCallB hts L.1 hRm, hts _ L.2.1, hts _ L.2.2⟩ ⟨zPc_blind, ⟨cell, q1, by rw [q3]; rfl, by rw [hcls, q2]⟩, fun U hU hW => ⟨rfl, by rw [hU]; exact hR, hK.moved hW.alike⟩⟩ rfl rfl hl.1 rfl (lv_room hw) hd ⟨by have := hR.1; omega, by have := hR.2.1; omega⟩) hL (fun v h' H1 locs1 hp hR1 hL1 => kk v h' hp H1 locs1 ls _ _ hR1 hL1 hl)
theorem v_callS (g : zG F X y cc nL ret rm cn) {y2 : MethodName} {cc2 : ByteArray} {nL2 idx : Nat} {ret2 : Option FieldType} {rm2 : Room} {As rest : List Value} {post : Option Value → zH → Prop} (hM : zMet F y2 cc2 nL2 ret2 rm2 As h post) (L : zCS y.cls idx y2 cc2 nL2 ret2 As.length) (hst : st = As.reverse ++ rest) (hw : (rest.map fun v => v.category).sum ≤ 8) (hd : decode cc pc = .ok (.invokestatic idx, 3)) (hRm : rm2.frames + 1 ≤ rm.frames ∧ 8 + (nL2 + 11) + rm2.locals ≤ rm.locals) (hcs : h.2.1 + rm2.cells ≤ cn.1 + rm.cells ∧ h.2.2 + rm2.slots ≤ cn.2 + rm.slots)
    (kk : ∀ (v : Option Value) (h' : zH), post v h' → zV F X h' (pc + 3) lv (v.toList ++ rest)) : zV F X h pc lv st := by
  obtain ⟨l, D, dA, H0⟩ := F
  obtain ⟨p, e, R, s, m, args, below, meth, c, Q, nL'⟩ := X
  obtain ⟨rfl, rfl, hx, hb, hml, hr, hlk, hown, hnm, hts, hK, hc0, hn0⟩ := g
  intro H locs ls k9 n9 hR hL hl
  subst hst
  have hM : Met l y2 (Cond.code y2 cc2 nL2 ret2 :: zW) rm2 (zPc D dA H0 As h) (zQc D dA H0 post) rm2.cells rm2.slots (fun q => H0.size ≤ q) := hM
  refine zW_tight H0.size (by omega) (fun t1 t2 => ?_)
  refine zRun_go (va_runS (As := As) (rest := rest) ⟨hx, hb, hml, hown, hts⟩ hM ⟨zCallB hts L.1 hRm, hts _ L.2⟩ ⟨zPc_blind, fun U hU hW => ⟨rfl, by rw [hU]; exact hR, hK.moved hW.alike⟩⟩ rfl rfl hl.1 rfl (lv_room hw) hd ⟨by have := hR.1; omega, by have := hR.2.1; omega⟩) hL (fun v h' H1 locs1 hp hR1 hL1 => kk v h' hp H1 locs1 ls _ _ hR1 hL1 hl)
theorem v_callI (g : zG F X y cc nL ret rm cn) {y2 : MethodName} {cc2 : ByteArray} {nL2 idx b : Nat} {rm2 : Room} {As rest : List Value} {post : Option Value → zH → Prop} (hM : zMet F y2 cc2 nL2 none rm2 (.ref b :: As) h post) (L : zCI y.cls idx y2 cc2 nL2 As.length) (hst : st = As.reverse ++ .ref b :: rest) (hw : (rest.map fun v => v.category).sum ≤ 8) (hd : decode cc pc = .ok (.invokespecial idx, 3)) (hRm : rm2.frames + 1 ≤ rm.frames ∧ 8 + (nL2 + 11) + rm2.locals ≤ rm.locals) (hcs : h.2.1 + rm2.cells ≤ cn.1 + rm.cells ∧ h.2.2 + rm2.slots ≤ cn.2 + rm.slots)
    (kk : ∀ (v : Option Value) (h' : zH), post v h' → zV F X h' (pc + 3) lv (v.toList ++ rest)) : zV F X h pc lv st := by
  obtain ⟨l, D, dA, H0⟩ := F
  obtain ⟨p, e, R, s, m, args, below, meth, c, Q, nL'⟩ := X
  obtain ⟨rfl, rfl, hx, hb, hml, hr, hlk, hown, hnm, hts, hK, hc0, hn0⟩ := g
  intro H locs ls k9 n9 hR hL hl
  subst hst
  have hM : Met l y2 (Cond.code y2 cc2 nL2 none :: zW) rm2 (zPc D dA H0 (.ref b :: As) h) (zQc D dA H0 post) rm2.cells rm2.slots (fun q => H0.size ≤ q) := hM
  refine zW_tight H0.size (by omega) (fun t1 t2 => ?_)
  refine zRun_go (va_runI (As := As) (rest := rest) ⟨hx, hb, hml, hown, hts⟩ hM ⟨zCallB hts L.1 hRm, L.2.1, hts _ L.2.2⟩ ⟨zPc_blind, fun U hU hW => ⟨rfl, by rw [hU]; exact hR, hK.moved hW.alike⟩⟩ rfl rfl hl.1 rfl (lv_room hw) hd ⟨by have := hR.1; omega, by have := hR.2.1; omega⟩) hL (fun v h' H1 locs1 hp hR1 hL1 => kk v h' hp H1 locs1 ls _ _ hR1 hL1 hl)
/-- Object's own constructor -/
theorem v_obj (g : zG F X y cc nL ret rm cn) {idx a : Nat} (hw1 : Cond.methodLink y.cls idx Lib.objectInit ∈ zW) (hd : decode cc pc = .ok (.invokespecial idx, 3)) (hRm : 1 ≤ rm.frames ∧ 30 ≤ rm.locals) (hw : (st.map fun v => v.category).sum ≤ 8) (kk : zV F X h (pc + 3) lv st) (hw2 : Cond.instanceMethod Lib.objectInit ∈ zW) (hw3 : Cond.code Lib.objectInit ⟨#[0xb1]⟩ 1 none ∈ zW) : zV F X h pc lv (.ref a :: st) := by
  obtain ⟨l, D, dA, H0⟩ := F
  obtain ⟨p, e, R, s, m, args, below, meth, c, Q, nL'⟩ := X
  obtain ⟨rfl, rfl, hx, hb, hml, hr, hlk, hown, hnm, hts, hK, hc0, hn0⟩ := g
  intro H locs ls k9 n9 hR hL hl
  refine W.objInit hx hb hown (hts _ hw1) (hts _ hw2) (hts _ hw3) rfl (by rw [hml]; exact hl.1) rfl hd hRm.1 (by have := lv_room (m := m) (pc := pc) (ls := ls) (rest := st) hw; have h2 : 2 * (F0 m pc ls (.ref a :: st)).monitorRoom = 2 * (F0 m pc ls st).monitorRoom := rfl; omega) ?_
  exact kk H locs ls k9 n9 hR hL hl
/-- the constant table WITH_MATCH -/
theorem v_gets (g : zG F X y cc nL ret rm cn) {idx : Nat} (hw : Cond.fieldLink y.cls idx RX3 "WITH_MATCH" "[J" ∈ zW) (hd : decode cc pc = .ok (.getstatic idx, 3))
    (kk : ∀ t : Nat, (∀ (h' : zH) (pc' : Nat) (lv' : zLv) (st' : List Value) (i : Int32) (j : Nat), i = nI j → j < 6 → decode cc pc' = .ok (.laload, 1) → zV F X h' (pc' + 1) lv' (zWM j :: st') → zV F X h' pc' lv' (.int i :: .ref t :: st')) → zV F X h (pc + 3) lv (.ref t :: st)) : zV F X h pc lv st := by
  obtain ⟨l, D, dA, H0⟩ := F
  obtain ⟨p, e, R, s, m, args, below, meth, c, Q, nL'⟩ := X
  obtain ⟨rfl, rfl, hx, hb, hml, hr, hlk, hown, hnm, hts, hK, hc0, hn0⟩ := g
  intro H locs ls k9 n9 hR hL hl
  obtain ⟨-, t, hZ, hT⟩ := hK
  obtain ⟨cf, kf, fi, f, a, cell, h1, h2, h3, h4, h5, h6, h7, h8⟩ := hZ
  refine W.gets hx hb hown (hts _ hw) h1 h2 h3 h4 (by rw [hR.2.2.1 a (Array.getElem?_eq_some_iff.mp h5).1]; exact h5) (fun e => by rw [e] at h6; cases h6) h7 rfl hd ?_
  refine kk t (fun h' pc' lv' st' i j hi hj hd' k2 => ?_) H locs ls k9 n9 hR hL hl
  intro H' locs' ls' k' n' hR' hL' hl'
  obtain ⟨cell2, g1, g2, g3, g4, g5, g6, g7⟩ := hT
  obtain ⟨i1, i2⟩ := z_in hi hj (by omega)
  exact W.lald (v := zWM j) hx hb (by rw [hR'.2.2.1 t (Array.getElem?_eq_some_iff.mp g1).1]; exact g1) g2 g3 (by rw [i2]; exact fun q => q.elim (fun q => i1 (Or.inl q)) (fun q => by omega)) (by rw [i2]; exact g6 j hj) rfl rfl hd' (k2 H' locs' ls' k' n' hR' hL' hl')
end VC
end
section
theorem zz_t : Int32.ofInt 14 = 14 := rfl
theorem zz_u : (Int8.ofInt 100).toInt32 = 100 := rfl
theorem zz_v : (Int16.ofInt (-1000)).toInt32 = -1000 := rfl
end
