section
-- ===== PART A: goes FIRST, ahead of the names: the tables' words, and 'selects' of the private methods out of them =====
/-- a private method of a class that the tables say can be made, by its rows of tables_1 -/
def lw_okq (q : MethodName × Nat) : Prop := (q.1.cls ≠ "java/lang/invoke/MethodHandle" ∧ q.1.cls ≠ "java/lang/invoke/VarHandle") ∧ Cond.instantiable q.1.cls q.2 ∈ tables_1 ∧ Cond.privateMethod q.1 ∈ tables_1 ∧ Cond.instanceMethod q.1 ∈ tables_1
theorem lw_p0 : lw_okq (⟨"SnuffMill", "openText", "(II)V"⟩, 14) := ⟨⟨by decide +kernel, by decide +kernel⟩, List.mem_of_getElem? (i := 22) (by decide +kernel), List.mem_of_getElem? (i := 377) (by decide +kernel), List.mem_of_getElem? (i := 378) (by decide +kernel)⟩
theorem lw_p1 : lw_okq (⟨"SnuffMill", "need", "(Z)V"⟩, 14) := ⟨⟨by decide +kernel, by decide +kernel⟩, List.mem_of_getElem? (i := 22) (by decide +kernel), List.mem_of_getElem? (i := 387) (by decide +kernel), List.mem_of_getElem? (i := 388) (by decide +kernel)⟩
theorem lw_p2 : lw_okq (⟨"java/lang/Throwable", "fillInStackTrace", "(I)Ljava/lang/Throwable;"⟩, 6) := ⟨⟨by decide +kernel, by decide +kernel⟩, List.mem_of_getElem? (i := 428) (by decide +kernel), List.mem_of_getElem? (i := 426) (by decide +kernel), List.mem_of_getElem? (i := 427) (by decide +kernel)⟩
theorem lw_p3 : lw_okq (⟨"SnuffMill$Plan", "clear", "()V"⟩, 13) := ⟨⟨by decide +kernel, by decide +kernel⟩, List.mem_of_getElem? (i := 119) (by decide +kernel), List.mem_of_getElem? (i := 466) (by decide +kernel), List.mem_of_getElem? (i := 467) (by decide +kernel)⟩
theorem lw_p4 : lw_okq (⟨"SnuffMill$Tape", "isSpelled", "(Ljava/lang/String;III)Z"⟩, 6) := ⟨⟨by decide +kernel, by decide +kernel⟩, List.mem_of_getElem? (i := 30) (by decide +kernel), List.mem_of_getElem? (i := 540) (by decide +kernel), List.mem_of_getElem? (i := 541) (by decide +kernel)⟩
theorem lw_p5 : lw_okq (⟨"SnuffMill$Plan", "hasTooMany", "(I)Z"⟩, 13) := ⟨⟨by decide +kernel, by decide +kernel⟩, List.mem_of_getElem? (i := 119) (by decide +kernel), List.mem_of_getElem? (i := 548) (by decide +kernel), List.mem_of_getElem? (i := 549) (by decide +kernel)⟩
theorem lw_p6 : lw_okq (⟨"SnuffMill$Plan", "readClause", "(LSnuffMill$Tape;I)V"⟩, 13) := ⟨⟨by decide +kernel, by decide +kernel⟩, List.mem_of_getElem? (i := 119) (by decide +kernel), List.mem_of_getElem? (i := 554) (by decide +kernel), List.mem_of_getElem? (i := 555) (by decide +kernel)⟩
theorem lw_p7 : lw_okq (⟨"SnuffMill", "textAnswer", "(I)I"⟩, 14) := ⟨⟨by decide +kernel, by decide +kernel⟩, List.mem_of_getElem? (i := 22) (by decide +kernel), List.mem_of_getElem? (i := 588) (by decide +kernel), List.mem_of_getElem? (i := 589) (by decide +kernel)⟩
theorem lw_p8 : lw_okq (⟨"SnuffMill$Law", "readSum", "(LSnuffMill$Tape;I)V"⟩, 6) := ⟨⟨by decide +kernel, by decide +kernel⟩, List.mem_of_getElem? (i := 125) (by decide +kernel), List.mem_of_getElem? (i := 603) (by decide +kernel), List.mem_of_getElem? (i := 604) (by decide +kernel)⟩
theorem lw_p9 : lw_okq (⟨"SnuffMill$Law", "readProduct", "(LSnuffMill$Tape;I)V"⟩, 6) := ⟨⟨by decide +kernel, by decide +kernel⟩, List.mem_of_getElem? (i := 125) (by decide +kernel), List.mem_of_getElem? (i := 607) (by decide +kernel), List.mem_of_getElem? (i := 608) (by decide +kernel)⟩
theorem lw_p10 : lw_okq (⟨"SnuffMill$Law", "readUnit", "(LSnuffMill$Tape;I)V"⟩, 6) := ⟨⟨by decide +kernel, by decide +kernel⟩, List.mem_of_getElem? (i := 125) (by decide +kernel), List.mem_of_getElem? (i := 611) (by decide +kernel), List.mem_of_getElem? (i := 612) (by decide +kernel)⟩
theorem lw_p11 : lw_okq (⟨"SnuffMill$Law", "add", "(I)V"⟩, 6) := ⟨⟨by decide +kernel, by decide +kernel⟩, List.mem_of_getElem? (i := 125) (by decide +kernel), List.mem_of_getElem? (i := 617) (by decide +kernel), List.mem_of_getElem? (i := 618) (by decide +kernel)⟩
theorem lw_p12 : lw_okq (⟨"SnuffMill$Program", "readSteps", "(LSnuffMill$Tape;LSnuffMill$Plan;I)V"⟩, 5) := ⟨⟨by decide +kernel, by decide +kernel⟩, List.mem_of_getElem? (i := 84) (by decide +kernel), List.mem_of_getElem? (i := 656) (by decide +kernel), List.mem_of_getElem? (i := 657) (by decide +kernel)⟩
theorem lw_p13 : lw_okq (⟨"SnuffMill$Program", "readStep", "(LSnuffMill$Tape;LSnuffMill$Plan;II)V"⟩, 5) := ⟨⟨by decide +kernel, by decide +kernel⟩, List.mem_of_getElem? (i := 84) (by decide +kernel), List.mem_of_getElem? (i := 670) (by decide +kernel), List.mem_of_getElem? (i := 671) (by decide +kernel)⟩
theorem lw_p14 : lw_okq (⟨"SnuffMill$Program", "isDone", "(LSnuffMill$Shop;I)Z"⟩, 5) := ⟨⟨by decide +kernel, by decide +kernel⟩, List.mem_of_getElem? (i := 84) (by decide +kernel), List.mem_of_getElem? (i := 695) (by decide +kernel), List.mem_of_getElem? (i := 696) (by decide +kernel)⟩
theorem lw_p15 : lw_okq (⟨"SnuffMill$Shop", "hasRoom", "(II)Z"⟩, 2) := ⟨⟨by decide +kernel, by decide +kernel⟩, List.mem_of_getElem? (i := 211) (by decide +kernel), List.mem_of_getElem? (i := 727) (by decide +kernel), List.mem_of_getElem? (i := 728) (by decide +kernel)⟩
def lw_privs_1 : List (MethodName × Nat) := [(⟨"SnuffMill", "openText", "(II)V"⟩, 14), (⟨"SnuffMill", "need", "(Z)V"⟩, 14), (⟨"java/lang/Throwable", "fillInStackTrace", "(I)Ljava/lang/Throwable;"⟩, 6), (⟨"SnuffMill$Plan", "clear", "()V"⟩, 13), (⟨"SnuffMill$Tape", "isSpelled", "(Ljava/lang/String;III)Z"⟩, 6), (⟨"SnuffMill$Plan", "hasTooMany", "(I)Z"⟩, 13), (⟨"SnuffMill$Plan", "readClause", "(LSnuffMill$Tape;I)V"⟩, 13), (⟨"SnuffMill", "textAnswer", "(I)I"⟩, 14), (⟨"SnuffMill$Law", "readSum", "(LSnuffMill$Tape;I)V"⟩, 6), (⟨"SnuffMill$Law", "readProduct", "(LSnuffMill$Tape;I)V"⟩, 6), (⟨"SnuffMill$Law", "readUnit", "(LSnuffMill$Tape;I)V"⟩, 6), (⟨"SnuffMill$Law", "add", "(I)V"⟩, 6), (⟨"SnuffMill$Program", "readSteps", "(LSnuffMill$Tape;LSnuffMill$Plan;I)V"⟩, 5), (⟨"SnuffMill$Program", "readStep", "(LSnuffMill$Tape;LSnuffMill$Plan;II)V"⟩, 5), (⟨"SnuffMill$Program", "isDone", "(LSnuffMill$Shop;I)Z"⟩, 5), (⟨"SnuffMill$Shop", "hasRoom", "(II)Z"⟩, 2)]
theorem lw_r1 : ∀ q ∈ lw_privs_1, lw_okq q := List.forall_mem_cons.mpr ⟨lw_p0, List.forall_mem_cons.mpr ⟨lw_p1, List.forall_mem_cons.mpr ⟨lw_p2, List.forall_mem_cons.mpr ⟨lw_p3, List.forall_mem_cons.mpr ⟨lw_p4, List.forall_mem_cons.mpr ⟨lw_p5, List.forall_mem_cons.mpr ⟨lw_p6, List.forall_mem_cons.mpr ⟨lw_p7, List.forall_mem_cons.mpr ⟨lw_p8, List.forall_mem_cons.mpr ⟨lw_p9, List.forall_mem_cons.mpr ⟨lw_p10, List.forall_mem_cons.mpr ⟨lw_p11, List.forall_mem_cons.mpr ⟨lw_p12, List.forall_mem_cons.mpr ⟨lw_p13, List.forall_mem_cons.mpr ⟨lw_p14, List.forall_mem_cons.mpr ⟨lw_p15, fun _ h => absurd h List.not_mem_nil⟩⟩⟩⟩⟩⟩⟩⟩⟩⟩⟩⟩⟩⟩⟩⟩
theorem lw_p16 : lw_okq (⟨"SnuffMill$Shop", "moveGrams", "(IIII)V"⟩, 2) := ⟨⟨by decide +kernel, by decide +kernel⟩, List.mem_of_getElem? (i := 211) (by decide +kernel), List.mem_of_getElem? (i := 731) (by decide +kernel), List.mem_of_getElem? (i := 732) (by decide +kernel)⟩
theorem lw_p17 : lw_okq (⟨"SnuffMill", "needJar", "(I)V"⟩, 14) := ⟨⟨by decide +kernel, by decide +kernel⟩, List.mem_of_getElem? (i := 22) (by decide +kernel), List.mem_of_getElem? (i := 809) (by decide +kernel), List.mem_of_getElem? (i := 810) (by decide +kernel)⟩
theorem lw_p18 : lw_okq (⟨"SnuffMill", "needThere", "(Z)V"⟩, 14) := ⟨⟨by decide +kernel, by decide +kernel⟩, List.mem_of_getElem? (i := 22) (by decide +kernel), List.mem_of_getElem? (i := 813) (by decide +kernel), List.mem_of_getElem? (i := 814) (by decide +kernel)⟩
theorem lw_p19 : lw_okq (⟨"SnuffMill", "needStone", "(I)V"⟩, 14) := ⟨⟨by decide +kernel, by decide +kernel⟩, List.mem_of_getElem? (i := 22) (by decide +kernel), List.mem_of_getElem? (i := 846) (by decide +kernel), List.mem_of_getElem? (i := 847) (by decide +kernel)⟩
theorem lw_p20 : lw_okq (⟨"SnuffMill", "needSieve", "(I)V"⟩, 14) := ⟨⟨by decide +kernel, by decide +kernel⟩, List.mem_of_getElem? (i := 22) (by decide +kernel), List.mem_of_getElem? (i := 858) (by decide +kernel), List.mem_of_getElem? (i := 859) (by decide +kernel)⟩
theorem lw_p21 : lw_okq (⟨"SnuffMill", "dropHeap", "(I)I"⟩, 14) := ⟨⟨by decide +kernel, by decide +kernel⟩, List.mem_of_getElem? (i := 22) (by decide +kernel), List.mem_of_getElem? (i := 915) (by decide +kernel), List.mem_of_getElem? (i := 916) (by decide +kernel)⟩
theorem lw_p22 : lw_okq (⟨"SnuffMill", "isJars", "(I)Z"⟩, 14) := ⟨⟨by decide +kernel, by decide +kernel⟩, List.mem_of_getElem? (i := 22) (by decide +kernel), List.mem_of_getElem? (i := 927) (by decide +kernel), List.mem_of_getElem? (i := 928) (by decide +kernel)⟩
theorem lw_p23 : lw_okq (⟨"SnuffMill", "gramsIn", "(I)I"⟩, 14) := ⟨⟨by decide +kernel, by decide +kernel⟩, List.mem_of_getElem? (i := 22) (by decide +kernel), List.mem_of_getElem? (i := 931) (by decide +kernel), List.mem_of_getElem? (i := 932) (by decide +kernel)⟩
theorem lw_p24 : lw_okq (⟨"SnuffMill", "weighPowers", "()V"⟩, 14) := ⟨⟨by decide +kernel, by decide +kernel⟩, List.mem_of_getElem? (i := 22) (by decide +kernel), List.mem_of_getElem? (i := 946) (by decide +kernel), List.mem_of_getElem? (i := 947) (by decide +kernel)⟩
theorem lw_p25 : lw_okq (⟨"SnuffMill", "isBetterBox", "(II)Z"⟩, 14) := ⟨⟨by decide +kernel, by decide +kernel⟩, List.mem_of_getElem? (i := 22) (by decide +kernel), List.mem_of_getElem? (i := 950) (by decide +kernel), List.mem_of_getElem? (i := 951) (by decide +kernel)⟩
theorem lw_p26 : lw_okq (⟨"SnuffMill", "powerIn", "(I)I"⟩, 14) := ⟨⟨by decide +kernel, by decide +kernel⟩, List.mem_of_getElem? (i := 22) (by decide +kernel), List.mem_of_getElem? (i := 954) (by decide +kernel), List.mem_of_getElem? (i := 955) (by decide +kernel)⟩
theorem lw_p27 : lw_okq (⟨"SnuffMill", "gatherPairs", "()I"⟩, 14) := ⟨⟨by decide +kernel, by decide +kernel⟩, List.mem_of_getElem? (i := 22) (by decide +kernel), List.mem_of_getElem? (i := 965) (by decide +kernel), List.mem_of_getElem? (i := 966) (by decide +kernel)⟩
theorem lw_p28 : lw_okq (⟨"SnuffMill", "isByBook", "(II)Z"⟩, 14) := ⟨⟨by decide +kernel, by decide +kernel⟩, List.mem_of_getElem? (i := 22) (by decide +kernel), List.mem_of_getElem? (i := 969) (by decide +kernel), List.mem_of_getElem? (i := 970) (by decide +kernel)⟩
theorem lw_p29 : lw_okq (⟨"SnuffMill", "worstLeft", "(II)I"⟩, 14) := ⟨⟨by decide +kernel, by decide +kernel⟩, List.mem_of_getElem? (i := 22) (by decide +kernel), List.mem_of_getElem? (i := 980) (by decide +kernel), List.mem_of_getElem? (i := 981) (by decide +kernel)⟩
theorem lw_p30 : lw_okq (⟨"SnuffMill", "fallOfPair", "(II)I"⟩, 14) := ⟨⟨by decide +kernel, by decide +kernel⟩, List.mem_of_getElem? (i := 22) (by decide +kernel), List.mem_of_getElem? (i := 984) (by decide +kernel), List.mem_of_getElem? (i := 985) (by decide +kernel)⟩
theorem lw_p31 : lw_okq (⟨"SnuffMill", "givenBy", "(II)I"⟩, 14) := ⟨⟨by decide +kernel, by decide +kernel⟩, List.mem_of_getElem? (i := 22) (by decide +kernel), List.mem_of_getElem? (i := 1020) (by decide +kernel), List.mem_of_getElem? (i := 1021) (by decide +kernel)⟩
def lw_privs_2 : List (MethodName × Nat) := [(⟨"SnuffMill$Shop", "moveGrams", "(IIII)V"⟩, 2), (⟨"SnuffMill", "needJar", "(I)V"⟩, 14), (⟨"SnuffMill", "needThere", "(Z)V"⟩, 14), (⟨"SnuffMill", "needStone", "(I)V"⟩, 14), (⟨"SnuffMill", "needSieve", "(I)V"⟩, 14), (⟨"SnuffMill", "dropHeap", "(I)I"⟩, 14), (⟨"SnuffMill", "isJars", "(I)Z"⟩, 14), (⟨"SnuffMill", "gramsIn", "(I)I"⟩, 14), (⟨"SnuffMill", "weighPowers", "()V"⟩, 14), (⟨"SnuffMill", "isBetterBox", "(II)Z"⟩, 14), (⟨"SnuffMill", "powerIn", "(I)I"⟩, 14), (⟨"SnuffMill", "gatherPairs", "()I"⟩, 14), (⟨"SnuffMill", "isByBook", "(II)Z"⟩, 14), (⟨"SnuffMill", "worstLeft", "(II)I"⟩, 14), (⟨"SnuffMill", "fallOfPair", "(II)I"⟩, 14), (⟨"SnuffMill", "givenBy", "(II)I"⟩, 14)]
theorem lw_r2 : ∀ q ∈ lw_privs_2, lw_okq q := List.forall_mem_cons.mpr ⟨lw_p16, List.forall_mem_cons.mpr ⟨lw_p17, List.forall_mem_cons.mpr ⟨lw_p18, List.forall_mem_cons.mpr ⟨lw_p19, List.forall_mem_cons.mpr ⟨lw_p20, List.forall_mem_cons.mpr ⟨lw_p21, List.forall_mem_cons.mpr ⟨lw_p22, List.forall_mem_cons.mpr ⟨lw_p23, List.forall_mem_cons.mpr ⟨lw_p24, List.forall_mem_cons.mpr ⟨lw_p25, List.forall_mem_cons.mpr ⟨lw_p26, List.forall_mem_cons.mpr ⟨lw_p27, List.forall_mem_cons.mpr ⟨lw_p28, List.forall_mem_cons.mpr ⟨lw_p29, List.forall_mem_cons.mpr ⟨lw_p30, List.forall_mem_cons.mpr ⟨lw_p31, fun _ h => absurd h List.not_mem_nil⟩⟩⟩⟩⟩⟩⟩⟩⟩⟩⟩⟩⟩⟩⟩⟩
theorem lw_p32 : lw_okq (⟨"SnuffMill$Year", "draw", "(I)I"⟩, 1) := ⟨⟨by decide +kernel, by decide +kernel⟩, List.mem_of_getElem? (i := 109) (by decide +kernel), List.mem_of_getElem? (i := 1100) (by decide +kernel), List.mem_of_getElem? (i := 1101) (by decide +kernel)⟩
theorem lw_p33 : lw_okq (⟨"SnuffMillModel", "clears", "()V"⟩, 53) := ⟨⟨by decide +kernel, by decide +kernel⟩, List.mem_of_getElem? (i := 1121) (by decide +kernel), List.mem_of_getElem? (i := 1127) (by decide +kernel), List.mem_of_getElem? (i := 1128) (by decide +kernel)⟩
theorem lw_p34 : lw_okq (⟨"SnuffMillModel", "sets", "()V"⟩, 53) := ⟨⟨by decide +kernel, by decide +kernel⟩, List.mem_of_getElem? (i := 1121) (by decide +kernel), List.mem_of_getElem? (i := 1131) (by decide +kernel), List.mem_of_getElem? (i := 1132) (by decide +kernel)⟩
theorem lw_p35 : lw_okq (⟨"SnuffMillModel", "copies", "([I[II)V"⟩, 53) := ⟨⟨by decide +kernel, by decide +kernel⟩, List.mem_of_getElem? (i := 1121) (by decide +kernel), List.mem_of_getElem? (i := 1135) (by decide +kernel), List.mem_of_getElem? (i := 1136) (by decide +kernel)⟩
theorem lw_p36 : lw_okq (⟨"SnuffMillModel", "may", "(ZII)Z"⟩, 53) := ⟨⟨by decide +kernel, by decide +kernel⟩, List.mem_of_getElem? (i := 1121) (by decide +kernel), List.mem_of_getElem? (i := 1312) (by decide +kernel), List.mem_of_getElem? (i := 1313) (by decide +kernel)⟩
theorem lw_p37 : lw_okq (⟨"SnuffMillModel", "begins", "(I)V"⟩, 53) := ⟨⟨by decide +kernel, by decide +kernel⟩, List.mem_of_getElem? (i := 1121) (by decide +kernel), List.mem_of_getElem? (i := 1316) (by decide +kernel), List.mem_of_getElem? (i := 1317) (by decide +kernel)⟩
theorem lw_p38 : lw_okq (⟨"SnuffMillModel", "fine", "()Z"⟩, 53) := ⟨⟨by decide +kernel, by decide +kernel⟩, List.mem_of_getElem? (i := 1121) (by decide +kernel), List.mem_of_getElem? (i := 1320) (by decide +kernel), List.mem_of_getElem? (i := 1321) (by decide +kernel)⟩
theorem lw_p39 : lw_okq (⟨"SnuffMillModel", "isMore", "()Z"⟩, 53) := ⟨⟨by decide +kernel, by decide +kernel⟩, List.mem_of_getElem? (i := 1121) (by decide +kernel), List.mem_of_getElem? (i := 1324) (by decide +kernel), List.mem_of_getElem? (i := 1325) (by decide +kernel)⟩
theorem lw_p40 : lw_okq (⟨"SnuffMillModel", "here", "()I"⟩, 53) := ⟨⟨by decide +kernel, by decide +kernel⟩, List.mem_of_getElem? (i := 1121) (by decide +kernel), List.mem_of_getElem? (i := 1328) (by decide +kernel), List.mem_of_getElem? (i := 1329) (by decide +kernel)⟩
theorem lw_p41 : lw_okq (⟨"SnuffMillModel", "word", "()I"⟩, 53) := ⟨⟨by decide +kernel, by decide +kernel⟩, List.mem_of_getElem? (i := 1121) (by decide +kernel), List.mem_of_getElem? (i := 1332) (by decide +kernel), List.mem_of_getElem? (i := 1333) (by decide +kernel)⟩
theorem lw_p42 : lw_okq (⟨"SnuffMillModel", "wrong", "(II)V"⟩, 53) := ⟨⟨by decide +kernel, by decide +kernel⟩, List.mem_of_getElem? (i := 1121) (by decide +kernel), List.mem_of_getElem? (i := 1351) (by decide +kernel), List.mem_of_getElem? (i := 1352) (by decide +kernel)⟩
theorem lw_p43 : lw_okq (⟨"SnuffMillModel", "isFull", "(I)Z"⟩, 53) := ⟨⟨by decide +kernel, by decide +kernel⟩, List.mem_of_getElem? (i := 1121) (by decide +kernel), List.mem_of_getElem? (i := 1355) (by decide +kernel), List.mem_of_getElem? (i := 1356) (by decide +kernel)⟩
theorem lw_p44 : lw_okq (⟨"SnuffMillModel", "pass", "()V"⟩, 53) := ⟨⟨by decide +kernel, by decide +kernel⟩, List.mem_of_getElem? (i := 1121) (by decide +kernel), List.mem_of_getElem? (i := 1359) (by decide +kernel), List.mem_of_getElem? (i := 1360) (by decide +kernel)⟩
theorem lw_p45 : lw_okq (⟨"SnuffMillModel", "readRow", "(I)V"⟩, 53) := ⟨⟨by decide +kernel, by decide +kernel⟩, List.mem_of_getElem? (i := 1121) (by decide +kernel), List.mem_of_getElem? (i := 1363) (by decide +kernel), List.mem_of_getElem? (i := 1364) (by decide +kernel)⟩
theorem lw_p46 : lw_okq (⟨"SnuffMillModel", "readNumber", "(II)I"⟩, 53) := ⟨⟨by decide +kernel, by decide +kernel⟩, List.mem_of_getElem? (i := 1121) (by decide +kernel), List.mem_of_getElem? (i := 1367) (by decide +kernel), List.mem_of_getElem? (i := 1368) (by decide +kernel)⟩
theorem lw_p47 : lw_okq (⟨"SnuffMillModel", "sign", "(I)V"⟩, 53) := ⟨⟨by decide +kernel, by decide +kernel⟩, List.mem_of_getElem? (i := 1121) (by decide +kernel), List.mem_of_getElem? (i := 1374) (by decide +kernel), List.mem_of_getElem? (i := 1375) (by decide +kernel)⟩
def lw_privs_3 : List (MethodName × Nat) := [(⟨"SnuffMill$Year", "draw", "(I)I"⟩, 1), (⟨"SnuffMillModel", "clears", "()V"⟩, 53), (⟨"SnuffMillModel", "sets", "()V"⟩, 53), (⟨"SnuffMillModel", "copies", "([I[II)V"⟩, 53), (⟨"SnuffMillModel", "may", "(ZII)Z"⟩, 53), (⟨"SnuffMillModel", "begins", "(I)V"⟩, 53), (⟨"SnuffMillModel", "fine", "()Z"⟩, 53), (⟨"SnuffMillModel", "isMore", "()Z"⟩, 53), (⟨"SnuffMillModel", "here", "()I"⟩, 53), (⟨"SnuffMillModel", "word", "()I"⟩, 53), (⟨"SnuffMillModel", "wrong", "(II)V"⟩, 53), (⟨"SnuffMillModel", "isFull", "(I)Z"⟩, 53), (⟨"SnuffMillModel", "pass", "()V"⟩, 53), (⟨"SnuffMillModel", "readRow", "(I)V"⟩, 53), (⟨"SnuffMillModel", "readNumber", "(II)I"⟩, 53), (⟨"SnuffMillModel", "sign", "(I)V"⟩, 53)]
theorem lw_r3 : ∀ q ∈ lw_privs_3, lw_okq q := List.forall_mem_cons.mpr ⟨lw_p32, List.forall_mem_cons.mpr ⟨lw_p33, List.forall_mem_cons.mpr ⟨lw_p34, List.forall_mem_cons.mpr ⟨lw_p35, List.forall_mem_cons.mpr ⟨lw_p36, List.forall_mem_cons.mpr ⟨lw_p37, List.forall_mem_cons.mpr ⟨lw_p38, List.forall_mem_cons.mpr ⟨lw_p39, List.forall_mem_cons.mpr ⟨lw_p40, List.forall_mem_cons.mpr ⟨lw_p41, List.forall_mem_cons.mpr ⟨lw_p42, List.forall_mem_cons.mpr ⟨lw_p43, List.forall_mem_cons.mpr ⟨lw_p44, List.forall_mem_cons.mpr ⟨lw_p45, List.forall_mem_cons.mpr ⟨lw_p46, List.forall_mem_cons.mpr ⟨lw_p47, fun _ h => absurd h List.not_mem_nil⟩⟩⟩⟩⟩⟩⟩⟩⟩⟩⟩⟩⟩⟩⟩⟩
theorem lw_p48 : lw_okq (⟨"SnuffMillModel", "result", "(I)I"⟩, 53) := ⟨⟨by decide +kernel, by decide +kernel⟩, List.mem_of_getElem? (i := 1121) (by decide +kernel), List.mem_of_getElem? (i := 1378) (by decide +kernel), List.mem_of_getElem? (i := 1379) (by decide +kernel)⟩
theorem lw_p49 : lw_okq (⟨"SnuffMillModel", "readSum", "()V"⟩, 53) := ⟨⟨by decide +kernel, by decide +kernel⟩, List.mem_of_getElem? (i := 1121) (by decide +kernel), List.mem_of_getElem? (i := 1386) (by decide +kernel), List.mem_of_getElem? (i := 1387) (by decide +kernel)⟩
theorem lw_p50 : lw_okq (⟨"SnuffMillModel", "readProduct", "()V"⟩, 53) := ⟨⟨by decide +kernel, by decide +kernel⟩, List.mem_of_getElem? (i := 1121) (by decide +kernel), List.mem_of_getElem? (i := 1390) (by decide +kernel), List.mem_of_getElem? (i := 1391) (by decide +kernel)⟩
theorem lw_p51 : lw_okq (⟨"SnuffMillModel", "readUnit", "()V"⟩, 53) := ⟨⟨by decide +kernel, by decide +kernel⟩, List.mem_of_getElem? (i := 1121) (by decide +kernel), List.mem_of_getElem? (i := 1394) (by decide +kernel), List.mem_of_getElem? (i := 1395) (by decide +kernel)⟩
theorem lw_p52 : lw_okq (⟨"SnuffMillModel", "opensOne", "(I)V"⟩, 53) := ⟨⟨by decide +kernel, by decide +kernel⟩, List.mem_of_getElem? (i := 1121) (by decide +kernel), List.mem_of_getElem? (i := 1398) (by decide +kernel), List.mem_of_getElem? (i := 1399) (by decide +kernel)⟩
theorem lw_p53 : lw_okq (⟨"SnuffMillModel", "emit", "(II)V"⟩, 53) := ⟨⟨by decide +kernel, by decide +kernel⟩, List.mem_of_getElem? (i := 1121) (by decide +kernel), List.mem_of_getElem? (i := 1402) (by decide +kernel), List.mem_of_getElem? (i := 1403) (by decide +kernel)⟩
theorem lw_p54 : lw_okq (⟨"SnuffMillModel", "readTwo", "(II)V"⟩, 53) := ⟨⟨by decide +kernel, by decide +kernel⟩, List.mem_of_getElem? (i := 1121) (by decide +kernel), List.mem_of_getElem? (i := 1407) (by decide +kernel), List.mem_of_getElem? (i := 1408) (by decide +kernel)⟩
theorem lw_p55 : lw_okq (⟨"SnuffMillModel", "factHere", "()I"⟩, 53) := ⟨⟨by decide +kernel, by decide +kernel⟩, List.mem_of_getElem? (i := 1121) (by decide +kernel), List.mem_of_getElem? (i := 1412) (by decide +kernel), List.mem_of_getElem? (i := 1413) (by decide +kernel)⟩
theorem lw_p56 : lw_okq (⟨"SnuffMillModel", "readStep", "()V"⟩, 53) := ⟨⟨by decide +kernel, by decide +kernel⟩, List.mem_of_getElem? (i := 1121) (by decide +kernel), List.mem_of_getElem? (i := 1427) (by decide +kernel), List.mem_of_getElem? (i := 1428) (by decide +kernel)⟩
theorem lw_p57 : lw_okq (⟨"SnuffMillModel", "readAgain", "()V"⟩, 53) := ⟨⟨by decide +kernel, by decide +kernel⟩, List.mem_of_getElem? (i := 1121) (by decide +kernel), List.mem_of_getElem? (i := 1441) (by decide +kernel), List.mem_of_getElem? (i := 1442) (by decide +kernel)⟩
theorem lw_p58 : lw_okq (⟨"SnuffMillModel", "tellsStep", "(IIIII)V"⟩, 53) := ⟨⟨by decide +kernel, by decide +kernel⟩, List.mem_of_getElem? (i := 1121) (by decide +kernel), List.mem_of_getElem? (i := 1445) (by decide +kernel), List.mem_of_getElem? (i := 1446) (by decide +kernel)⟩
theorem lw_p59 : lw_okq (⟨"SnuffMillModel", "readJarNumber", "()I"⟩, 53) := ⟨⟨by decide +kernel, by decide +kernel⟩, List.mem_of_getElem? (i := 1121) (by decide +kernel), List.mem_of_getElem? (i := 1449) (by decide +kernel), List.mem_of_getElem? (i := 1450) (by decide +kernel)⟩
theorem lw_p60 : lw_okq (⟨"SnuffMillModel", "take", "()V"⟩, 53) := ⟨⟨by decide +kernel, by decide +kernel⟩, List.mem_of_getElem? (i := 1121) (by decide +kernel), List.mem_of_getElem? (i := 1453) (by decide +kernel), List.mem_of_getElem? (i := 1454) (by decide +kernel)⟩
theorem lw_p61 : lw_okq (⟨"SnuffMillModel", "goesSteps", "(II)V"⟩, 53) := ⟨⟨by decide +kernel, by decide +kernel⟩, List.mem_of_getElem? (i := 1121) (by decide +kernel), List.mem_of_getElem? (i := 1457) (by decide +kernel), List.mem_of_getElem? (i := 1458) (by decide +kernel)⟩
theorem lw_p62 : lw_okq (⟨"SnuffMillModel", "isDone", "(I)Z"⟩, 53) := ⟨⟨by decide +kernel, by decide +kernel⟩, List.mem_of_getElem? (i := 1121) (by decide +kernel), List.mem_of_getElem? (i := 1461) (by decide +kernel), List.mem_of_getElem? (i := 1462) (by decide +kernel)⟩
theorem lw_p63 : lw_okq (⟨"SnuffMillModel", "isGround", "(II)Z"⟩, 53) := ⟨⟨by decide +kernel, by decide +kernel⟩, List.mem_of_getElem? (i := 1121) (by decide +kernel), List.mem_of_getElem? (i := 1465) (by decide +kernel), List.mem_of_getElem? (i := 1466) (by decide +kernel)⟩
def lw_privs_4 : List (MethodName × Nat) := [(⟨"SnuffMillModel", "result", "(I)I"⟩, 53), (⟨"SnuffMillModel", "readSum", "()V"⟩, 53), (⟨"SnuffMillModel", "readProduct", "()V"⟩, 53), (⟨"SnuffMillModel", "readUnit", "()V"⟩, 53), (⟨"SnuffMillModel", "opensOne", "(I)V"⟩, 53), (⟨"SnuffMillModel", "emit", "(II)V"⟩, 53), (⟨"SnuffMillModel", "readTwo", "(II)V"⟩, 53), (⟨"SnuffMillModel", "factHere", "()I"⟩, 53), (⟨"SnuffMillModel", "readStep", "()V"⟩, 53), (⟨"SnuffMillModel", "readAgain", "()V"⟩, 53), (⟨"SnuffMillModel", "tellsStep", "(IIIII)V"⟩, 53), (⟨"SnuffMillModel", "readJarNumber", "()I"⟩, 53), (⟨"SnuffMillModel", "take", "()V"⟩, 53), (⟨"SnuffMillModel", "goesSteps", "(II)V"⟩, 53), (⟨"SnuffMillModel", "isDone", "(I)Z"⟩, 53), (⟨"SnuffMillModel", "isGround", "(II)Z"⟩, 53)]
theorem lw_r4 : ∀ q ∈ lw_privs_4, lw_okq q := List.forall_mem_cons.mpr ⟨lw_p48, List.forall_mem_cons.mpr ⟨lw_p49, List.forall_mem_cons.mpr ⟨lw_p50, List.forall_mem_cons.mpr ⟨lw_p51, List.forall_mem_cons.mpr ⟨lw_p52, List.forall_mem_cons.mpr ⟨lw_p53, List.forall_mem_cons.mpr ⟨lw_p54, List.forall_mem_cons.mpr ⟨lw_p55, List.forall_mem_cons.mpr ⟨lw_p56, List.forall_mem_cons.mpr ⟨lw_p57, List.forall_mem_cons.mpr ⟨lw_p58, List.forall_mem_cons.mpr ⟨lw_p59, List.forall_mem_cons.mpr ⟨lw_p60, List.forall_mem_cons.mpr ⟨lw_p61, List.forall_mem_cons.mpr ⟨lw_p62, List.forall_mem_cons.mpr ⟨lw_p63, fun _ h => absurd h List.not_mem_nil⟩⟩⟩⟩⟩⟩⟩⟩⟩⟩⟩⟩⟩⟩⟩⟩
theorem lw_p64 : lw_okq (⟨"SnuffMillModel", "gramsOf", "(I)I"⟩, 53) := ⟨⟨by decide +kernel, by decide +kernel⟩, List.mem_of_getElem? (i := 1121) (by decide +kernel), List.mem_of_getElem? (i := 1469) (by decide +kernel), List.mem_of_getElem? (i := 1470) (by decide +kernel)⟩
theorem lw_p65 : lw_okq (⟨"SnuffMillModel", "isSifted", "(IIII)Z"⟩, 53) := ⟨⟨by decide +kernel, by decide +kernel⟩, List.mem_of_getElem? (i := 1121) (by decide +kernel), List.mem_of_getElem? (i := 1473) (by decide +kernel), List.mem_of_getElem? (i := 1474) (by decide +kernel)⟩
theorem lw_p66 : lw_okq (⟨"SnuffMillModel", "fallenAll", "(II)I"⟩, 53) := ⟨⟨by decide +kernel, by decide +kernel⟩, List.mem_of_getElem? (i := 1121) (by decide +kernel), List.mem_of_getElem? (i := 1477) (by decide +kernel), List.mem_of_getElem? (i := 1478) (by decide +kernel)⟩
theorem lw_p67 : lw_okq (⟨"SnuffMillModel", "fallenOf", "(III)I"⟩, 53) := ⟨⟨by decide +kernel, by decide +kernel⟩, List.mem_of_getElem? (i := 1121) (by decide +kernel), List.mem_of_getElem? (i := 1481) (by decide +kernel), List.mem_of_getElem? (i := 1482) (by decide +kernel)⟩
theorem lw_p68 : lw_okq (⟨"SnuffMillModel", "ages", "(II)V"⟩, 53) := ⟨⟨by decide +kernel, by decide +kernel⟩, List.mem_of_getElem? (i := 1121) (by decide +kernel), List.mem_of_getElem? (i := 1485) (by decide +kernel), List.mem_of_getElem? (i := 1486) (by decide +kernel)⟩
theorem lw_p69 : lw_okq (⟨"SnuffMillModel", "empties", "(I)V"⟩, 53) := ⟨⟨by decide +kernel, by decide +kernel⟩, List.mem_of_getElem? (i := 1121) (by decide +kernel), List.mem_of_getElem? (i := 1489) (by decide +kernel), List.mem_of_getElem? (i := 1490) (by decide +kernel)⟩
theorem lw_p70 : lw_okq (⟨"SnuffMillModel", "isScooped", "(III)Z"⟩, 53) := ⟨⟨by decide +kernel, by decide +kernel⟩, List.mem_of_getElem? (i := 1121) (by decide +kernel), List.mem_of_getElem? (i := 1493) (by decide +kernel), List.mem_of_getElem? (i := 1494) (by decide +kernel)⟩
theorem lw_p71 : lw_okq (⟨"SnuffMillModel", "isSold", "(I)Z"⟩, 53) := ⟨⟨by decide +kernel, by decide +kernel⟩, List.mem_of_getElem? (i := 1121) (by decide +kernel), List.mem_of_getElem? (i := 1497) (by decide +kernel), List.mem_of_getElem? (i := 1498) (by decide +kernel)⟩
theorem lw_p72 : lw_okq (⟨"SnuffMillModel", "isRipe", "(I)Z"⟩, 53) := ⟨⟨by decide +kernel, by decide +kernel⟩, List.mem_of_getElem? (i := 1121) (by decide +kernel), List.mem_of_getElem? (i := 1501) (by decide +kernel), List.mem_of_getElem? (i := 1502) (by decide +kernel)⟩
theorem lw_p73 : lw_okq (⟨"SnuffMillModel", "sneezeBy", "(I)I"⟩, 53) := ⟨⟨by decide +kernel, by decide +kernel⟩, List.mem_of_getElem? (i := 1121) (by decide +kernel), List.mem_of_getElem? (i := 1505) (by decide +kernel), List.mem_of_getElem? (i := 1506) (by decide +kernel)⟩
theorem lw_p74 : lw_okq (⟨"SnuffMillModel", "sneezeOf", "(IIIIIII)I"⟩, 53) := ⟨⟨by decide +kernel, by decide +kernel⟩, List.mem_of_getElem? (i := 1121) (by decide +kernel), List.mem_of_getElem? (i := 1509) (by decide +kernel), List.mem_of_getElem? (i := 1510) (by decide +kernel)⟩
theorem lw_p75 : lw_okq (⟨"SnuffMillModel", "sneezeNow", "()I"⟩, 53) := ⟨⟨by decide +kernel, by decide +kernel⟩, List.mem_of_getElem? (i := 1121) (by decide +kernel), List.mem_of_getElem? (i := 1513) (by decide +kernel), List.mem_of_getElem? (i := 1514) (by decide +kernel)⟩
theorem lw_p76 : lw_okq (⟨"SnuffMillModel", "valueNow", "()I"⟩, 53) := ⟨⟨by decide +kernel, by decide +kernel⟩, List.mem_of_getElem? (i := 1121) (by decide +kernel), List.mem_of_getElem? (i := 1517) (by decide +kernel), List.mem_of_getElem? (i := 1518) (by decide +kernel)⟩
theorem lw_p77 : lw_okq (⟨"SnuffMillModel", "dayGoes", "()V"⟩, 53) := ⟨⟨by decide +kernel, by decide +kernel⟩, List.mem_of_getElem? (i := 1121) (by decide +kernel), List.mem_of_getElem? (i := 1524) (by decide +kernel), List.mem_of_getElem? (i := 1525) (by decide +kernel)⟩
theorem lw_p78 : lw_okq (⟨"SnuffMillModel", "maySmall", "(I)Z"⟩, 53) := ⟨⟨by decide +kernel, by decide +kernel⟩, List.mem_of_getElem? (i := 1121) (by decide +kernel), List.mem_of_getElem? (i := 1532) (by decide +kernel), List.mem_of_getElem? (i := 1533) (by decide +kernel)⟩
theorem lw_p79 : lw_okq (⟨"SnuffMillModel", "gramsAll", "()I"⟩, 53) := ⟨⟨by decide +kernel, by decide +kernel⟩, List.mem_of_getElem? (i := 1121) (by decide +kernel), List.mem_of_getElem? (i := 1551) (by decide +kernel), List.mem_of_getElem? (i := 1552) (by decide +kernel)⟩
def lw_privs_5 : List (MethodName × Nat) := [(⟨"SnuffMillModel", "gramsOf", "(I)I"⟩, 53), (⟨"SnuffMillModel", "isSifted", "(IIII)Z"⟩, 53), (⟨"SnuffMillModel", "fallenAll", "(II)I"⟩, 53), (⟨"SnuffMillModel", "fallenOf", "(III)I"⟩, 53), (⟨"SnuffMillModel", "ages", "(II)V"⟩, 53), (⟨"SnuffMillModel", "empties", "(I)V"⟩, 53), (⟨"SnuffMillModel", "isScooped", "(III)Z"⟩, 53), (⟨"SnuffMillModel", "isSold", "(I)Z"⟩, 53), (⟨"SnuffMillModel", "isRipe", "(I)Z"⟩, 53), (⟨"SnuffMillModel", "sneezeBy", "(I)I"⟩, 53), (⟨"SnuffMillModel", "sneezeOf", "(IIIIIII)I"⟩, 53), (⟨"SnuffMillModel", "sneezeNow", "()I"⟩, 53), (⟨"SnuffMillModel", "valueNow", "()I"⟩, 53), (⟨"SnuffMillModel", "dayGoes", "()V"⟩, 53), (⟨"SnuffMillModel", "maySmall", "(I)Z"⟩, 53), (⟨"SnuffMillModel", "gramsAll", "()I"⟩, 53)]
theorem lw_r5 : ∀ q ∈ lw_privs_5, lw_okq q := List.forall_mem_cons.mpr ⟨lw_p64, List.forall_mem_cons.mpr ⟨lw_p65, List.forall_mem_cons.mpr ⟨lw_p66, List.forall_mem_cons.mpr ⟨lw_p67, List.forall_mem_cons.mpr ⟨lw_p68, List.forall_mem_cons.mpr ⟨lw_p69, List.forall_mem_cons.mpr ⟨lw_p70, List.forall_mem_cons.mpr ⟨lw_p71, List.forall_mem_cons.mpr ⟨lw_p72, List.forall_mem_cons.mpr ⟨lw_p73, List.forall_mem_cons.mpr ⟨lw_p74, List.forall_mem_cons.mpr ⟨lw_p75, List.forall_mem_cons.mpr ⟨lw_p76, List.forall_mem_cons.mpr ⟨lw_p77, List.forall_mem_cons.mpr ⟨lw_p78, List.forall_mem_cons.mpr ⟨lw_p79, fun _ h => absurd h List.not_mem_nil⟩⟩⟩⟩⟩⟩⟩⟩⟩⟩⟩⟩⟩⟩⟩⟩
theorem lw_p80 : lw_okq (⟨"SnuffMillModel", "emptyBits", "()I"⟩, 53) := ⟨⟨by decide +kernel, by decide +kernel⟩, List.mem_of_getElem? (i := 1121) (by decide +kernel), List.mem_of_getElem? (i := 1555) (by decide +kernel), List.mem_of_getElem? (i := 1556) (by decide +kernel)⟩
theorem lw_p81 : lw_okq (⟨"SnuffMillModel", "tornBits", "()I"⟩, 53) := ⟨⟨by decide +kernel, by decide +kernel⟩, List.mem_of_getElem? (i := 1121) (by decide +kernel), List.mem_of_getElem? (i := 1559) (by decide +kernel), List.mem_of_getElem? (i := 1560) (by decide +kernel)⟩
theorem lw_p82 : lw_okq (⟨"SnuffMillModel", "isThere", "(II)Z"⟩, 53) := ⟨⟨by decide +kernel, by decide +kernel⟩, List.mem_of_getElem? (i := 1121) (by decide +kernel), List.mem_of_getElem? (i := 1567) (by decide +kernel), List.mem_of_getElem? (i := 1568) (by decide +kernel)⟩
theorem lw_p83 : lw_okq (⟨"SnuffMillModel", "fineOf", "(I)I"⟩, 53) := ⟨⟨by decide +kernel, by decide +kernel⟩, List.mem_of_getElem? (i := 1121) (by decide +kernel), List.mem_of_getElem? (i := 1571) (by decide +kernel), List.mem_of_getElem? (i := 1572) (by decide +kernel)⟩
theorem lw_p84 : lw_okq (⟨"SnuffMillModel", "isSet", "(I)Z"⟩, 53) := ⟨⟨by decide +kernel, by decide +kernel⟩, List.mem_of_getElem? (i := 1121) (by decide +kernel), List.mem_of_getElem? (i := 1611) (by decide +kernel), List.mem_of_getElem? (i := 1612) (by decide +kernel)⟩
theorem lw_p85 : lw_okq (⟨"SnuffMillModel", "apartBy", "(II)I"⟩, 53) := ⟨⟨by decide +kernel, by decide +kernel⟩, List.mem_of_getElem? (i := 1121) (by decide +kernel), List.mem_of_getElem? (i := 1615) (by decide +kernel), List.mem_of_getElem? (i := 1616) (by decide +kernel)⟩
theorem lw_p86 : lw_okq (⟨"SnuffMillModel", "gramsIn", "(I)I"⟩, 53) := ⟨⟨by decide +kernel, by decide +kernel⟩, List.mem_of_getElem? (i := 1121) (by decide +kernel), List.mem_of_getElem? (i := 1619) (by decide +kernel), List.mem_of_getElem? (i := 1620) (by decide +kernel)⟩
theorem lw_p87 : lw_okq (⟨"SnuffMillModel", "sneezesIn", "(I)I"⟩, 53) := ⟨⟨by decide +kernel, by decide +kernel⟩, List.mem_of_getElem? (i := 1121) (by decide +kernel), List.mem_of_getElem? (i := 1631) (by decide +kernel), List.mem_of_getElem? (i := 1632) (by decide +kernel)⟩
theorem lw_p88 : lw_okq (⟨"SnuffMillModel", "isFit", "(II)Z"⟩, 53) := ⟨⟨by decide +kernel, by decide +kernel⟩, List.mem_of_getElem? (i := 1121) (by decide +kernel), List.mem_of_getElem? (i := 1639) (by decide +kernel), List.mem_of_getElem? (i := 1640) (by decide +kernel)⟩
theorem lw_p89 : lw_okq (⟨"SnuffMillModel", "worstOf", "(I)I"⟩, 53) := ⟨⟨by decide +kernel, by decide +kernel⟩, List.mem_of_getElem? (i := 1121) (by decide +kernel), List.mem_of_getElem? (i := 1647) (by decide +kernel), List.mem_of_getElem? (i := 1648) (by decide +kernel)⟩
theorem lw_p90 : lw_okq (⟨"SnuffMillModel", "shelfBy", "(II)I"⟩, 53) := ⟨⟨by decide +kernel, by decide +kernel⟩, List.mem_of_getElem? (i := 1121) (by decide +kernel), List.mem_of_getElem? (i := 1670) (by decide +kernel), List.mem_of_getElem? (i := 1671) (by decide +kernel)⟩
theorem lw_p91 : lw_okq (⟨"SnuffMillModel", "bounded", "(II)I"⟩, 53) := ⟨⟨by decide +kernel, by decide +kernel⟩, List.mem_of_getElem? (i := 1121) (by decide +kernel), List.mem_of_getElem? (i := 1674) (by decide +kernel), List.mem_of_getElem? (i := 1675) (by decide +kernel)⟩
theorem lw_p92 : lw_okq (⟨"SnuffMillModel", "yearGoes", "(III)V"⟩, 53) := ⟨⟨by decide +kernel, by decide +kernel⟩, List.mem_of_getElem? (i := 1121) (by decide +kernel), List.mem_of_getElem? (i := 1733) (by decide +kernel), List.mem_of_getElem? (i := 1734) (by decide +kernel)⟩
theorem lw_p93 : lw_okq (⟨"SnuffMillModel", "draws", "(I)I"⟩, 53) := ⟨⟨by decide +kernel, by decide +kernel⟩, List.mem_of_getElem? (i := 1121) (by decide +kernel), List.mem_of_getElem? (i := 1737) (by decide +kernel), List.mem_of_getElem? (i := 1738) (by decide +kernel)⟩
theorem lw_p94 : lw_okq (⟨"SnuffMillModel", "keepsAll", "(IZ)V"⟩, 53) := ⟨⟨by decide +kernel, by decide +kernel⟩, List.mem_of_getElem? (i := 1121) (by decide +kernel), List.mem_of_getElem? (i := 1750) (by decide +kernel), List.mem_of_getElem? (i := 1751) (by decide +kernel)⟩
theorem lw_p95 : lw_okq (⟨"SnuffMillModel", "keepsRow", "(I[IIZ)I"⟩, 53) := ⟨⟨by decide +kernel, by decide +kernel⟩, List.mem_of_getElem? (i := 1121) (by decide +kernel), List.mem_of_getElem? (i := 1754) (by decide +kernel), List.mem_of_getElem? (i := 1755) (by decide +kernel)⟩
def lw_privs_6 : List (MethodName × Nat) := [(⟨"SnuffMillModel", "emptyBits", "()I"⟩, 53), (⟨"SnuffMillModel", "tornBits", "()I"⟩, 53), (⟨"SnuffMillModel", "isThere", "(II)Z"⟩, 53), (⟨"SnuffMillModel", "fineOf", "(I)I"⟩, 53), (⟨"SnuffMillModel", "isSet", "(I)Z"⟩, 53), (⟨"SnuffMillModel", "apartBy", "(II)I"⟩, 53), (⟨"SnuffMillModel", "gramsIn", "(I)I"⟩, 53), (⟨"SnuffMillModel", "sneezesIn", "(I)I"⟩, 53), (⟨"SnuffMillModel", "isFit", "(II)Z"⟩, 53), (⟨"SnuffMillModel", "worstOf", "(I)I"⟩, 53), (⟨"SnuffMillModel", "shelfBy", "(II)I"⟩, 53), (⟨"SnuffMillModel", "bounded", "(II)I"⟩, 53), (⟨"SnuffMillModel", "yearGoes", "(III)V"⟩, 53), (⟨"SnuffMillModel", "draws", "(I)I"⟩, 53), (⟨"SnuffMillModel", "keepsAll", "(IZ)V"⟩, 53), (⟨"SnuffMillModel", "keepsRow", "(I[IIZ)I"⟩, 53)]
theorem lw_r6 : ∀ q ∈ lw_privs_6, lw_okq q := List.forall_mem_cons.mpr ⟨lw_p80, List.forall_mem_cons.mpr ⟨lw_p81, List.forall_mem_cons.mpr ⟨lw_p82, List.forall_mem_cons.mpr ⟨lw_p83, List.forall_mem_cons.mpr ⟨lw_p84, List.forall_mem_cons.mpr ⟨lw_p85, List.forall_mem_cons.mpr ⟨lw_p86, List.forall_mem_cons.mpr ⟨lw_p87, List.forall_mem_cons.mpr ⟨lw_p88, List.forall_mem_cons.mpr ⟨lw_p89, List.forall_mem_cons.mpr ⟨lw_p90, List.forall_mem_cons.mpr ⟨lw_p91, List.forall_mem_cons.mpr ⟨lw_p92, List.forall_mem_cons.mpr ⟨lw_p93, List.forall_mem_cons.mpr ⟨lw_p94, List.forall_mem_cons.mpr ⟨lw_p95, fun _ h => absurd h List.not_mem_nil⟩⟩⟩⟩⟩⟩⟩⟩⟩⟩⟩⟩⟩⟩⟩⟩
def lw_privs : List (MethodName × Nat) := lw_privs_1 ++ (lw_privs_2 ++ (lw_privs_3 ++ (lw_privs_4 ++ (lw_privs_5 ++ (lw_privs_6)))))
def lw_tbl : List Cond := k2_sels lw_privs ++ tables_1
theorem lw_privs_ok : ∀ q ∈ lw_privs, lw_okq q := by
  show ∀ q ∈ lw_privs_1 ++ (lw_privs_2 ++ (lw_privs_3 ++ (lw_privs_4 ++ (lw_privs_5 ++ (lw_privs_6))))), lw_okq q
  exact List.forall_mem_append.mpr ⟨lw_r1, List.forall_mem_append.mpr ⟨lw_r2, List.forall_mem_append.mpr ⟨lw_r3, List.forall_mem_append.mpr ⟨lw_r4, List.forall_mem_append.mpr ⟨lw_r5, lw_r6⟩⟩⟩⟩⟩

/-! ===== BEGIN words of one list among another's, by their places ===== -/
theorem goodIn_r {big : List Cond} (ws : List Cond) (ps : List Nat) (hp : ws = ps.filterMap (fun i => big[i]?)) (h : ws.all goodWord = true) : GoodIn big ws := by
  intro w hw
  have h1 := List.all_eq_true.mp h w hw
  rw [hp] at hw
  obtain ⟨i, -, hi⟩ := List.mem_filterMap.mp hw
  have hm : w ∈ big := by first | exact List.mem_of_getElem? hi | exact List.getElem?_mem hi
  exact ⟨hm, good_of_word h1⟩
theorem goodIn_app {big a b : List Cond} (ha : GoodIn big a) (hb : GoodIn big b) : GoodIn big (a ++ b) := fun w h => (List.mem_append.mp h).elim (ha w) (hb w)
theorem goodIn_ca {big a b : List Cond} {c : Cond} (ha : GoodIn big (c :: a)) (hb : GoodIn big b) : GoodIn big (c :: (a ++ b)) := fun w h => (List.mem_cons.mp h).elim (fun e => ha w (List.mem_cons.mpr (Or.inl e))) (fun h => (List.mem_append.mp h).elim (fun h => ha w (List.mem_cons.mpr (Or.inr h))) (hb w))
theorem goodIn_sub {big ws : List Cond} (hm : ∀ w ∈ ws, w ∈ big) (h : ws.all goodWord = true) : GoodIn big ws := fun w hw => ⟨hm w hw, good_of_word (List.all_eq_true.mp h w hw)⟩
/-! ===== END ===== -/

/-! ===== BEGIN exceptions that leave a method, and their catching by the caller (launches without stack traces) ===== -/
section VXA
/-! The laws vx_back, vx_callV, vx_callS, vx_callSW, vx_throw0, vx_throwS follow proofs of the library, with one case more: JvmDerived/Free/Laws.lean (Back.of_free), Shelf42/LK1.lean (callV, callS), Shelf/KitTraced.lean (throwNew0V, throwNewS). -/
/-- where a method has thrown q: the class by its name, the cell, what was written, the world -/
def vx_T (XC : String → State → State → Prop) (st : State) (q : Addr) (t : State) (mc ms : Nat) (free : Addr → Prop) : Prop :=
  ∃ (E : String) (ce : Cell) (L : List Loc), XC E st t ∧ t.heap[q]? = some ce ∧ ce.vm = .none ∧ st.vm.findClass E = some ce.cls ∧ st.WarmedH t.vm ∧ st.sameButNew ({ t with vm := st.vm } : State) L mc ms ∧ ∀ z ∈ L, free z.base
def vx_Q (Qc : Array Value → State → Outcome → State → Prop) (XC : String → State → State → Prop) (mc ms : Nat) (free : Addr → Prop) : Array Value → State → Outcome → State → Prop := fun a st o t =>
  (Qc a st o t ∧ ∃ L, FrameEnd st o t L mc ms ∧ ∀ q ∈ L, free q.base) ∨ ∃ q, o = .threw q ∧ vx_T XC st q t mc ms free
/-- a callee that returns or throws -/
def vx_Met (l : Launch) (y : MethodName) (ws : List Cond) (rm : Room) (Pc : Array Value → State → Prop) (Qc : Array Value → State → Outcome → State → Prop) (XC : String → State → State → Prop) (mc ms : Nat) (free : Addr → Prop) : Prop :=
  MetFree l y (headSpec ws rm) Pc (fun _ _ _ _ _ => True) (vx_Q Qc XC mc ms free)
def vx_Post (XC : String → State → State → Prop) (mc ms : Nat) (free : Addr → Prop) : Pt → Array Value → Addr → Pt → Prop := fun A a q B =>
  ∃ (g : JFrame) (mk : MethodId) (t : State) (L : List Loc) (E : String) (ce : Cell), B.U.heap = t.heap ∧ B.U.vm = t.vm ∧ XC E (A.U.calling g mk a) t ∧ t.heap[q]? = some ce ∧ ce.vm = .none ∧ A.U.vm.findClass E = some ce.cls ∧ B.locs = A.locs ++ L ∧ (∀ z ∈ L, free z.base) ∧ B.cells = A.cells + mc ∧ B.slots = A.slots + ms
def vx_Back (l : Launch) (R : Room) (p : Program) (e : Env) (below : List Frame) (s : State) (sargs : Array Value) (y : MethodName) (len W9 : Nat)
    (Pre : Pt → Array Value → Prop) (Post : Pt → Array Value → Option Value → Pt → Prop) (PostX : Pt → Array Value → Addr → Pt → Prop) : Prop :=
  ∀ (m : MethodId) (meth : Method) (c : Code) (A : Pt) (g : JFrame) (ig : Instr) (mk : MethodId) (a : Array Value),
    Stand p l e R s m sargs below meth c A.U A.locs A.cells A.slots → g.method = m → g.locals.size = c.maxLocals → decode c.code g.pc = .ok (ig, len) →
    2 * g.monitorRoom + (g.stack.map fun v => v.category).sum ≤ W9 → A.U.methodNamed? y = some mk → Pre A a →
    (∃ (v : Option Value) (B : Pt), Stand p l e R s m sargs below meth c B.U B.locs B.cells B.slots ∧ Post A a v B ∧
      Steps p.tables e below (doInvoke e (A.U.setTop g) [] mk a).1 (B.U.setTop { g with pc := g.pc + len, stack := v.toList ++ g.stack })) ∨
    (∃ (q : Addr) (B : Pt), Stand p l e R s m sargs below meth c B.U B.locs B.cells B.slots ∧ PostX A a q B ∧
      Steps p.tables e below (doInvoke e (A.U.setTop g) [] mk a).1 ((B.U.setTop g).pushFrame (.throwing q)))
section Payer
variable {l : Launch} {R : Room} {p : Program} {e : Env} {below : List Frame} {s : State} {sargs : Array Value} {y : MethodName} {len W9 : Nat}
theorem vx_back {ws : List Cond} {rm : Room} {Pc : Array Value → State → Prop} {Qc : Array Value → State → Outcome → State → Prop} {XC : String → State → State → Prop} {mc ms : Nat} {free : Addr → Prop} {bytes : ByteArray} {maxL : Nat} {ret : Option FieldType}
    (hM : vx_Met l y ws rm Pc Qc XC mc ms free) (hblind : FrameBlind Pc) (hrc : rm.cells = mc) (hrs : rm.slots = ms)
    (hframes : rm.frames + 1 ≤ R.frames) (hlocals : W9 + (maxL + 11) + rm.locals ≤ R.locals)
    (hws : ∀ w ∈ ws, ∀ a' U, s.WarmedH U.vm → w.before a' U = true) (hcode : Cond.code y bytes maxL ret ∈ ws) (hinit : ∀ a' U, s.WarmedH U.vm → (Cond.initialized y.cls).before a' U = true) :
    vx_Back l R p e below s sargs y len W9 (PreOf R mc ms Pc) (PostOf Qc mc ms free) (vx_Post XC mc ms free) := by
  intro m meth c A g ig mk a X hg hsize hdg hW hn hp
  have h1 : (headSpec ws rm).pre.before a A.U = true := atoms_intro fun w hw => hws w hw _ _ X.warmed
  have h2 : (Cond.code y bytes maxL ret).before a A.U = true := hws _ hcode _ _ X.warmed
  have h3 : (Cond.initialized y.cls).before a A.U = true := hinit _ _ X.warmed
  have h4 : A.cells + (headSpec ws rm).room.cells ≤ R.cells := by rw [show (headSpec ws rm).room.cells = mc from hrc]; exact hp.1
  have h5 : A.slots + (headSpec ws rm).room.slots ≤ R.slots := by rw [show (headSpec ws rm).room.slots = ms from hrs]; exact hp.2.1
  have hPc : Pc a (A.U.calling g mk a) := hblind _ _ _ _ hp.2.2
  obtain ⟨U, Ls, c0, s0⟩ := A
  dsimp only [Pt.U, Pt.locs, Pt.cells, Pt.slots] at h1 h2 h3 h4 h5 X hn hPc ⊢
  obtain ⟨methY, cY, hmY, hcY, -, hlY, -, -, -, -⟩ := Cond.code_spec hn h2
  obtain ⟨kY, hkY, -⟩ := className_of_methodNamed hn
  have hinitY : kY.init = .initialized := Cond.initialized_spec (findClass_of_methodNamed hn) hkY h3
  have h : At U g.method c below := by rw [hg]; exact X.here
  have hlocals9 : W9 + (maxL + 11) + (headSpec ws rm).room.locals ≤ R.locals := hlocals
  have happ : (headSpec ws rm).appliesLoose y e.platform (U.calling g mk a) = true :=
    Spec.appliesLoose_calling (g := g) h hdg hn hkY hinitY
      (X.room_calling (g := g) (R' := (headSpec ws rm).room) hsize hmY hcY hframes (by rw [hlY]; omega) h4 h5) h1
  obtain ⟨mid, hmid⟩ := h.above
  have hfr : (U.setTop g).frames = (.java g :: mid) ++ below := by rw [State.frames_setTop' g h.top, hmid]; rfl
  obtain ⟨o, s₂, hsteps, -, hend, hq⟩ := Steps.callFree hM p X.admits X.cas X.clock (acts := []) hfr happ hPc trivial
  have hq' : vx_Q Qc XC mc ms free a (U.calling g mk a) o s₂ := hq
  rw [State.frames_setTop' g h.top] at hend
  obtain ⟨g₀, hg0⟩ := Option.isSome_iff_exists.mp h.top
  obtain ⟨r, hr⟩ := State.topJava?_eq_some.mp hg0
  have hr' : (({ U with heap := s₂.heap, slotsUsed := s₂.slotsUsed } : State).setVm s₂.vm).frames = .java g₀ :: r := hr
  rcases hq' with ⟨hqc, L, hfe, hL⟩ | ⟨q, rfl, E, ce, L, hx, hce, hcv, hcl, hW₂, hsm, hL⟩
  · obtain ⟨⟨v, rfl⟩, hW₂, e2, q2, q3, q4, q5, q6⟩ := id hfe
    have e3 : s₂ = ({ (U.calling g mk a).setFrames s₂.frames with heap := s₂.heap, slotsUsed := s₂.slotsUsed } : State).setVm s₂.vm := by
      have : s₂ = ({ s₂ with vm := (U.calling g mk a).vm } : State).setVm s₂.vm := rfl
      rw [e2] at this
      exact this
    obtain ⟨c₂, i₂, len₂, hc₂, hd₂, hf₂⟩ := hend
    have hW' : U.WarmedH s₂.vm := hW₂
    have hcc : c₂ = c := by
      have h1 : s₂.code? g.method = U.code? g.method := by
        rw [State.code?_eq, State.code?_eq, hW'.alike.method?]
      exact Option.some.inj (hc₂.symm.trans (h1.trans h.code))
    subst hcc
    have hlen : len₂ = len := by rw [hdg] at hd₂; cases hd₂; rfl
    subst hlen
    have hs₂ : s₂ = (({ U with heap := s₂.heap, slotsUsed := s₂.slotsUsed } : State).setVm s₂.vm).setTop { g with pc := g.pc + len₂, stack := v.toList ++ g.stack } := by
      refine e3.trans ?_
      rw [hf₂, State.calling_eq h.top, State.setFrames_setFrames, State.setTop_of_frames _ hr', hr]
      rfl
    have hsame : U.sameButNew ({ U with heap := s₂.heap, slotsUsed := s₂.slotsUsed } : State) L mc ms := by
      refine ⟨?_, q2, q3, q4, q5, q6⟩
      obtain ⟨t, ht, -⟩ := State.frames_cons hr
      show ({ U with heap := s₂.heap, slotsUsed := s₂.slotsUsed } : State) = { U.setFrames U.frames with heap := s₂.heap, slotsUsed := s₂.slotsUsed }
      rw [State.setFrames_self ht]
    subst hg
    refine Or.inl ⟨v, ⟨(({ U with heap := s₂.heap, slotsUsed := s₂.slotsUsed } : State).setVm s₂.vm), Ls ++ L, c0 + mc, s0 + ms⟩,
      ⟨X.admits, X.cas, X.clock, X.frames, X.room, X.hears, X.method, X.code, (X.here.setHeapUsed s₂.heap s₂.slotsUsed).setVm hW'.alike, X.tail, State.WarmedH.trans X.warmed hW', X.limits, X.bytes, X.same.trans (hsame.setVm s.vm)⟩,
      ⟨g, mk, s₂, L, rfl, rfl, hqc, rfl, hL, rfl, rfl⟩, ?_⟩
    show Steps p.tables e below _ ((({ U with heap := s₂.heap, slotsUsed := s₂.slotsUsed } : State).setVm s₂.vm).setTop { g with pc := g.pc + len₂, stack := v.toList ++ g.stack })
    rw [← hs₂]
    exact hsteps
  · obtain ⟨e2, q2, q3, q4, q5, q6⟩ := id hsm
    have e3 : s₂ = ({ (U.calling g mk a).setFrames s₂.frames with heap := s₂.heap, slotsUsed := s₂.slotsUsed } : State).setVm s₂.vm := by
      have : s₂ = ({ s₂ with vm := (U.calling g mk a).vm } : State).setVm s₂.vm := rfl
      rw [e2] at this
      exact this
    have hf₂ : s₂.frames = .throwing q :: .java g :: U.frames.tail := hend
    have hW' : U.WarmedH s₂.vm := hW₂
    have hs₂ : s₂ = ((({ U with heap := s₂.heap, slotsUsed := s₂.slotsUsed } : State).setVm s₂.vm).setTop g).pushFrame (.throwing q) := by
      refine e3.trans ?_
      rw [hf₂, State.calling_eq h.top, State.setFrames_setFrames, State.pushFrame, State.frames_setTop _ hr', State.setTop_of_frames _ hr', State.setFrames_setFrames, hr]
      rfl
    have hsame : U.sameButNew ({ U with heap := s₂.heap, slotsUsed := s₂.slotsUsed } : State) L mc ms := by
      refine ⟨?_, q2, q3, q4, q5, q6⟩
      obtain ⟨t, ht, -⟩ := State.frames_cons hr
      show ({ U with heap := s₂.heap, slotsUsed := s₂.slotsUsed } : State) = { U.setFrames U.frames with heap := s₂.heap, slotsUsed := s₂.slotsUsed }
      rw [State.setFrames_self ht]
    subst hg
    refine Or.inr ⟨q, ⟨(({ U with heap := s₂.heap, slotsUsed := s₂.slotsUsed } : State).setVm s₂.vm), Ls ++ L, c0 + mc, s0 + ms⟩,
      ⟨X.admits, X.cas, X.clock, X.frames, X.room, X.hears, X.method, X.code, (X.here.setHeapUsed s₂.heap s₂.slotsUsed).setVm hW'.alike, X.tail, State.WarmedH.trans X.warmed hW', X.limits, X.bytes, X.same.trans (hsame.setVm s.vm)⟩,
      ⟨g, mk, s₂, L, E, ce, rfl, rfl, hx, hce, hcv, hcl, rfl, hL, rfl, rfl⟩, ?_⟩
    show Steps p.tables e below _ (((({ U with heap := s₂.heap, slotsUsed := s₂.slotsUsed } : State).setVm s₂.vm).setTop g).pushFrame (.throwing q))
    rw [← hs₂]
    exact hsteps
end Payer
section Calls
variable {p : Program} {l : Launch} {e : Env} {R : Room} {s : State} {m : MethodId} {args : Array Value} {below : List Frame} {meth : Method} {c : Code} {T : State} {locs : List Loc} {cells slots : Nat}
theorem vx_callV (X : Stand p l e R s m args below meth c T locs cells slots) (hexec : p.tables.exec = Jvm.exec) {own C : String} {index : Nat} {y : MethodName} {bytes : ByteArray} {maxL : Nat} {ret : Option FieldType}
    (hown : s.vm.findClass own = some m.cls) (hlink : (Cond.methodLink own index y).before args s = true) (hinst : (Cond.instanceMethod y).before args s = true) (hsel : (Cond.selects C y y).before args s = true)
    (hcode : (Cond.code y bytes maxL ret).before args s = true) (hy : y.cls ≠ "java/lang/invoke/MethodHandle" ∧ y.cls ≠ "java/lang/invoke/VarHandle")
    {W9 : Nat} {Pre : Pt → Array Value → Prop} {Post : Pt → Array Value → Option Value → Pt → Prop} {PostX : Pt → Array Value → Addr → Pt → Prop} (hK : vx_Back l R p e below s args y 3 W9 Pre Post PostX)
    {b : Addr} {cellB : Cell} (hcell : T.heap[b]? = some cellB) (hobj : cellB.vm.isStatics = false) (hcls : s.vm.findClass C = some cellB.cls)
    {g : JFrame} (hg : g.method = m) (hsize : g.locals.size = c.maxLocals) {argsL rest : List Value} (hlen : ∀ sig, parseMethodDescriptor y.desc = some sig → argsL.length = sig.parameters.length)
    (hstack : g.stack = argsL.reverse ++ .ref b :: rest) (hW : 2 * g.monitorRoom + (rest.map fun v => v.category).sum ≤ W9) (hdg : decode c.code g.pc = .ok (.invokevirtual index, 3))
    (hpre : ∀ vm₁, s.WarmedH vm₁ → Pre ⟨T.setVm vm₁, locs, cells, slots⟩ (Value.ref b :: argsL).toArray) :
    (∃ (v : Option Value) (vm₁ : Vm) (B : Pt), s.WarmedH vm₁ ∧ Stand p l e R s m args below meth c B.U B.locs B.cells B.slots ∧ Post ⟨T.setVm vm₁, locs, cells, slots⟩ (Value.ref b :: argsL).toArray v B ∧
      ∀ target, Steps p.tables e below (B.U.setTop { g with pc := g.pc + 3, stack := v.toList ++ rest }) target → Steps p.tables e below (T.setTop g) target) ∨
    (∃ (q : Addr) (vm₁ : Vm) (B : Pt), s.WarmedH vm₁ ∧ Stand p l e R s m args below meth c B.U B.locs B.cells B.slots ∧ PostX ⟨T.setVm vm₁, locs, cells, slots⟩ (Value.ref b :: argsL).toArray q B ∧
      Steps p.tables e below (T.setTop g) ((B.U.setTop { g with stack := rest }).pushFrame (.throwing q))) := by
  obtain ⟨mk, methM, hnamed, hmethM, hstM, habM⟩ := Cond.instanceMethod_spec hinst
  obtain ⟨methM', cM, hmethM', -, -, -, -, -, -, hsigM⟩ := Cond.code_spec hnamed hcode
  cases hmethM.symm.trans hmethM'
  obtain ⟨c2, r2, m2, q1, q2, q3, q4, kP, hkP, hkPi⟩ := Cond.selects_spec hsel
  cases hcls.symm.trans q1
  cases (State.methodFound?_of_named hnamed hy).symm.trans q2
  cases hnamed.symm.trans q3
  have hselP : selectMethod e.platform s.vm cellB.cls mk = .method mk := by rw [Launch.admits_selectMethod X.admits]; exact q4
  obtain ⟨vm₁, X₁, hstep₁⟩ := X.invokevirtual hexec hown hlink hnamed hmethM hstM hkP hkPi hy (a := b) (cell := cellB) hcell
    (fun z h => by rw [h] at hobj; cases hobj) hselP hmethM habM hkP hkPi (g := g) hg (argsL := argsL) (rest := rest) (hlen _ hsigM) hstack hdg
  rcases hK m meth c ⟨T.setVm vm₁, locs, cells, slots⟩ { g with stack := rest } (.invokevirtual index) mk (Value.ref b :: argsL).toArray X₁ hg hsize hdg hW (X₁.named hnamed) (hpre vm₁ X₁.warmed) with ⟨v, B, X', hpost, hsteps⟩ | ⟨q, B, X', hpost, hsteps⟩
  · exact Or.inl ⟨v, vm₁, B, X₁.warmed, X', hpost, fun target h => hstep₁ _ fun acts => by rw [doInvoke_state]; exact hsteps.trans h⟩
  · exact Or.inr ⟨q, vm₁, B, X₁.warmed, X', hpost, hstep₁ _ fun acts => by rw [doInvoke_state]; exact hsteps⟩
theorem vx_callS (X : Stand p l e R s m args below meth c T locs cells slots) (hexec : p.tables.exec = Jvm.exec) {own : String} {index : Nat} {y : MethodName} {bytes : ByteArray} {maxL : Nat} {ret : Option FieldType}
    (hown : s.vm.findClass own = some m.cls) (hlink : (Cond.methodLink own index y).before args s = true) (hstat : (Cond.static y).before args s = true) (hinit : (Cond.initialized y.cls).before args s = true)
    (hcode : (Cond.code y bytes maxL ret).before args s = true) (hy : y.cls ≠ "java/lang/invoke/MethodHandle" ∧ y.cls ≠ "java/lang/invoke/VarHandle")
    {W9 : Nat} {Pre : Pt → Array Value → Prop} {Post : Pt → Array Value → Option Value → Pt → Prop} {PostX : Pt → Array Value → Addr → Pt → Prop} (hK : vx_Back l R p e below s args y 3 W9 Pre Post PostX)
    {g : JFrame} (hg : g.method = m) (hsize : g.locals.size = c.maxLocals) {argsL rest : List Value} (hlen : ∀ sig, parseMethodDescriptor y.desc = some sig → argsL.length = sig.parameters.length)
    (hstack : g.stack = argsL.reverse ++ rest) (hW : 2 * g.monitorRoom + (rest.map fun v => v.category).sum ≤ W9) (hdg : decode c.code g.pc = .ok (.invokestatic index, 3))
    (hpre : ∀ vm₁, s.WarmedH vm₁ → Pre ⟨T.setVm vm₁, locs, cells, slots⟩ argsL.toArray) :
    (∃ (v : Option Value) (vm₁ : Vm) (B : Pt), s.WarmedH vm₁ ∧ Stand p l e R s m args below meth c B.U B.locs B.cells B.slots ∧ Post ⟨T.setVm vm₁, locs, cells, slots⟩ argsL.toArray v B ∧
      ∀ target, Steps p.tables e below (B.U.setTop { g with pc := g.pc + 3, stack := v.toList ++ rest }) target → Steps p.tables e below (T.setTop g) target) ∨
    (∃ (q : Addr) (vm₁ : Vm) (B : Pt), s.WarmedH vm₁ ∧ Stand p l e R s m args below meth c B.U B.locs B.cells B.slots ∧ PostX ⟨T.setVm vm₁, locs, cells, slots⟩ argsL.toArray q B ∧
      Steps p.tables e below (T.setTop g) ((B.U.setTop { g with stack := rest }).pushFrame (.throwing q))) := by
  obtain ⟨mk, hnamed⟩ := Cond.code_named hcode
  obtain ⟨methM, cM, hmethM, -, -, -, -, -, -, hsigM⟩ := Cond.code_spec hnamed hcode
  have hstatic : methM.isStatic = true := Cond.static_spec hnamed hmethM hstat
  obtain ⟨kP, hkP, -⟩ := className_of_methodNamed hnamed
  have hinitP : kP.init = .initialized := Cond.initialized_spec (findClass_of_methodNamed hnamed) hkP hinit
  obtain ⟨vm₁, X₁, hstep₁⟩ := X.invokestatic hexec hown hlink hnamed hmethM hstatic hkP hinitP hy (g := g) hg (argsL := argsL) (rest := rest) (hlen _ hsigM) hstack hdg
  rcases hK m meth c ⟨T.setVm vm₁, locs, cells, slots⟩ { g with stack := rest } (.invokestatic index) mk argsL.toArray X₁ hg hsize hdg hW (X₁.named hnamed) (hpre vm₁ X₁.warmed) with ⟨v, B, X', hpost, hsteps⟩ | ⟨q, B, X', hpost, hsteps⟩
  · exact Or.inl ⟨v, vm₁, B, X₁.warmed, X', hpost, fun target h => hstep₁ _ fun acts => by rw [doInvoke_state]; exact hsteps.trans h⟩
  · exact Or.inr ⟨q, vm₁, B, X₁.warmed, X', hpost, hstep₁ _ fun acts => by rw [doInvoke_state]; exact hsteps⟩
end Calls
theorem vx_cls {s : State} {T : State} {vm₁ : Vm} {E : String} {k : ClassId} (hW : s.WarmedH vm₁) (h : (T.setVm vm₁).vm.findClass E = some k) : s.vm.findClass E = some k := by
  have h1 : vm₁.findClass E = some k := h
  rw [hW.alike.findClass] at h1
  exact h1
/-- the method's frame g, with q thrown over it -/
def vx_W (p : Program) (l : Launch) (e : Env) (R : Room) (s : State) (m : MethodId) (args : Array Value) (below : List Frame) (meth : Method) (c : Code) (H : Heap) (locs : List Loc) (cells slots : Nat) (Q : State → Prop) (g : JFrame) (q : Addr) : Prop :=
  ∀ T : State, T.heap = H → Stand p l e R s m args below meth c T locs cells slots → ∃ t, Steps p.tables e below ((T.setTop g).pushFrame (.throwing q)) t ∧ Q t
def vx_Run (p : Program) (l : Launch) (e : Env) (R : Room) (s : State) (m : MethodId) (args : Array Value) (below : List Frame) (meth : Method) (c : Code) (H : Heap) (locs : List Loc) (cells slots mc ms : Nat) (g : JFrame) (rest : List Value) (Qa : State → Outcome → State → Prop) (XC : String → State → State → Prop) (free : Addr → Prop) : Prop :=
  ∀ T : State, T.heap = H → Stand p l e R s m args below meth c T locs cells slots →
    (∃ (v : Option Value) (st₀ t T' : State) (L : List Loc), st₀.heap = H ∧ Stand p l e R s m args below meth c T' (locs ++ L) (cells + mc) (slots + ms) ∧ (∀ q ∈ L, free q.base) ∧ T'.heap = t.heap ∧ T'.vm = t.vm ∧ Qa st₀ (.returned v) t ∧
      Goes p e below T g T' { g with pc := g.pc + 3, stack := v.toList ++ rest }) ∨
    (∃ (q : Addr) (st₀ t T' : State) (L : List Loc) (E : String) (ce : Cell), st₀.heap = H ∧ Stand p l e R s m args below meth c T' (locs ++ L) (cells + mc) (slots + ms) ∧ (∀ z ∈ L, free z.base) ∧ T'.heap = t.heap ∧ T'.vm = t.vm ∧ XC E st₀ t ∧ t.heap[q]? = some ce ∧ ce.vm = .none ∧ s.vm.findClass E = some ce.cls ∧
      Steps p.tables e below (T.setTop g) ((T'.setTop { g with stack := rest }).pushFrame (.throwing q)))
def vx_X {S : Type} (px : S → Prop) (B : String → S → State → Prop) (A : Nat → Prop) : String → State → State → Prop := fun E st t => ∃ u : S, px u ∧ B E u t ∧ va_F A st t
section Runs
variable {p : Program} {l : Launch} {e : Env} {R : Room} {s : State} {m : MethodId} {args : Array Value} {below : List Frame} {meth : Method} {c : Code} {H : Heap} {locs : List Loc} {cells slots : Nat}
variable {y : MethodName} {bytes cc : ByteArray} {maxL nL mc ms n index : Nat} {ret : Option FieldType} {ws : List Cond} {rm : Room} {Pc : Array Value → State → Prop} {Qc : Array Value → State → Outcome → State → Prop} {XC : String → State → State → Prop} {free : Addr → Prop} {Ts : List Cond} {own C : String} {b : Addr} {As rest : List Value} {g : JFrame}
theorem vx_callBack (cb : CallB R s args own index y bytes maxL ret ws rm mc ms n) (hM : vx_Met l y ws rm Pc Qc XC mc ms free) (hbl : FrameBlind Pc) : vx_Back l R p e below s args y 3 8 (PreOf R mc ms Pc) (PostOf Qc mc ms free) (vx_Post XC mc ms free) := by
  obtain ⟨hrc, hrs, hfr, hlo, hws, hcw, -, hini, -⟩ := cb
  exact vx_back (bytes := bytes) (maxL := maxL) (ret := ret) hM hbl hrc hrs hfr hlo hws hcw (fun a' U hW => word_at hW (Or.inl (by first | rfl | simp [Cond.onTables, Cond.keeps, Cond.steady])) hini)
theorem vx_runV (S : CallFix p m c cc nL s args Ts own) (hM : vx_Met l y ws rm Pc Qc XC mc ms free) (cw : CallW R s args own C index y bytes maxL ret ws rm mc ms n) (hp : PreV s H C b Pc As)
    (hg : g.method = m) (hn : As.length = n) (hsize : g.locals.size = nL) (hstack : g.stack = As.reverse ++ .ref b :: rest) (hW : 2 * g.monitorRoom + (rest.map fun v => v.category).sum ≤ 8) (hdg : decode cc g.pc = .ok (.invokevirtual index, 3)) (hf : cells + mc ≤ R.cells ∧ slots + ms ≤ R.slots) :
    vx_Run p l e R s m args below meth c H locs cells slots mc ms g rest (Qc (Value.ref b :: As).toArray) XC free := by
  have hK : vx_Back l R p e below s args y 3 8 (PreOf R mc ms Pc) (PostOf Qc mc ms free) (vx_Post XC mc ms free) := vx_callBack cw.1 hM hp.1
  obtain ⟨⟨-, -, -, -, -, -, hcode, -, hy, hlen, hl⟩, hin, hse⟩ := cw
  obtain ⟨hx, hb, hml, ho, -⟩ := S
  obtain ⟨-, ⟨cellB, hcB, hoB, hclB⟩, hPc⟩ := hp
  intro T hT X
  rcases vx_callV X hx (C := C) (bytes := bytes) (maxL := maxL) (ret := ret) ho hl hin hse hcode hy hK (by rw [hT]; exact hcB) hoB hclB hg (hsize.trans hml.symm) (argsL := As) (rest := rest) (fun sig h => hn.trans (hlen sig h)) hstack hW (by rw [hb]; exact hdg)
    (fun vm₁ hW₁ => ⟨hf.1, hf.2, hPc (T.setVm vm₁) hT hW₁⟩) with ⟨v, vm₁, ⟨U', l2, c2, s2⟩, hW₁, X', ⟨g', mk, t, L, e1, e2, hq, h1, hL, h2, h3⟩, st⟩ | ⟨q, vm₁, ⟨U', l2, c2, s2⟩, hW₁, X', ⟨g', mk, t, L, E, ce, e1, e2, hq, hce, hcv, hcl, h1, hL, h2, h3⟩, st⟩
  · dsimp only [Pt.U, Pt.locs, Pt.cells, Pt.slots] at X' e1 e2 h1 h2 h3 st
    subst h1; subst h2; subst h3
    exact Or.inl ⟨v, (T.setVm vm₁).calling g' mk (Value.ref b :: As).toArray, t, U', L, hT, X', hL, e1, e2, hq, st⟩
  · dsimp only [Pt.U, Pt.locs, Pt.cells, Pt.slots] at X' e1 e2 h1 h2 h3 st hcl
    subst h1; subst h2; subst h3
    exact Or.inr ⟨q, (T.setVm vm₁).calling g' mk (Value.ref b :: As).toArray, t, U', L, E, ce, hT, X', hL, e1, e2, hq, hce, hcv, vx_cls hW₁ hcl, st⟩
theorem vx_runS (S : CallFix p m c cc nL s args Ts own) (hM : vx_Met l y ws rm Pc Qc XC mc ms free) (cw : CallB R s args own index y bytes maxL ret ws rm mc ms n ∧ (Cond.static y).before args s = true) (hp : PreS s H Pc As)
    (hg : g.method = m) (hn : As.length = n) (hsize : g.locals.size = nL) (hstack : g.stack = As.reverse ++ rest) (hW : 2 * g.monitorRoom + (rest.map fun v => v.category).sum ≤ 8) (hdg : decode cc g.pc = .ok (.invokestatic index, 3)) (hf : cells + mc ≤ R.cells ∧ slots + ms ≤ R.slots) :
    vx_Run p l e R s m args below meth c H locs cells slots mc ms g rest (Qc As.toArray) XC free := by
  have hK : vx_Back l R p e below s args y 3 8 (PreOf R mc ms Pc) (PostOf Qc mc ms free) (vx_Post XC mc ms free) := vx_callBack cw.1 hM hp.1
  obtain ⟨⟨-, -, -, -, -, -, hcode, hini, hy, hlen, hl⟩, hstt⟩ := cw
  obtain ⟨hx, hb, hml, ho, -⟩ := S
  intro T hT X
  rcases vx_callS X hx (bytes := bytes) (maxL := maxL) (ret := ret) ho hl hstt hini hcode hy hK hg (hsize.trans hml.symm) (argsL := As) (rest := rest) (fun sig h => hn.trans (hlen sig h)) hstack hW (by rw [hb]; exact hdg)
    (fun vm₁ hW₁ => ⟨hf.1, hf.2, hp.2 (T.setVm vm₁) hT hW₁⟩) with ⟨v, vm₁, ⟨U', l2, c2, s2⟩, hW₁, X', ⟨g', mk, t, L, e1, e2, hq, h1, hL, h2, h3⟩, st⟩ | ⟨q, vm₁, ⟨U', l2, c2, s2⟩, hW₁, X', ⟨g', mk, t, L, E, ce, e1, e2, hq, hce, hcv, hcl, h1, hL, h2, h3⟩, st⟩
  · dsimp only [Pt.U, Pt.locs, Pt.cells, Pt.slots] at X' e1 e2 h1 h2 h3 st
    subst h1; subst h2; subst h3
    exact Or.inl ⟨v, (T.setVm vm₁).calling g' mk As.toArray, t, U', L, hT, X', hL, e1, e2, hq, st⟩
  · dsimp only [Pt.U, Pt.locs, Pt.cells, Pt.slots] at X' e1 e2 h1 h2 h3 st hcl
    subst h1; subst h2; subst h3
    exact Or.inr ⟨q, (T.setVm vm₁).calling g' mk As.toArray, t, U', L, E, ce, hT, X', hL, e1, e2, hq, hce, hcv, vx_cls hW₁ hcl, st⟩
end Runs
section Rows
variable {p : Program} {l : Launch} {e : Env} {R : Room} {s : State} {m : MethodId} {args : Array Value} {below : List Frame} {meth : Method} {c : Code} {H : Heap} {locs : List Loc} {cells slots : Nat} {Q : State → Prop}
variable {mc ms : Nat} {free : Addr → Prop} {A0 A1 : Nat → Prop} {H0 : Heap} {a : Array Value} {pc : Nat} {ls : Array Slot} {st0 rest : List Value}
theorem vx_keep {st₀ t T' : State} {L : List Loc} (h0 : st₀.heap = H) (e1 : T'.heap = t.heap) (hS : va_S A0 H0 H locs) (hA : ∀ q, q < H.size → A1 q → A0 q) (hf : ∀ q, free q → A0 q) (hL : ∀ q ∈ L, free q.base) (hF : va_F A1 st₀ t) :
    H.size ≤ T'.heap.size ∧ (∀ q : Nat, q < H.size → ¬ A1 q → T'.heap[q]? = H[q]?) ∧ va_S A0 H0 T'.heap (locs ++ L) := by
  obtain ⟨hz, hk⟩ := hF
  rw [h0] at hz hk
  exact ⟨by rw [e1]; exact hz, fun q h1 h2 => by rw [e1]; exact hk q h1 h2,
    ⟨Nat.le_trans hS.1 (by rw [e1]; exact hz), fun q h1 h2 => by rw [e1, hk q (Nat.lt_of_lt_of_le h1 hS.1) (fun z => h2 (hA q (Nat.lt_of_lt_of_le h1 hS.1) z))]; exact hS.2.1 q h1 h2, fun q hq => by
      rcases List.mem_append.mp hq with h | h
      · exact hS.2.2 q h
      · exact hf _ (hL q h)⟩⟩
theorem vx_calli {S SX : Type} {post : Int32 → S → Prop} {px : SX → Prop} {B : S → State → Prop} {BX : String → SX → State → Prop} {AX : Nat → Prop} (hr : vx_Run p l e R s m args below meth c H locs cells slots mc ms (F0 m pc ls st0) rest (va_Qi post B A1 a) (vx_X px BX AX) free) (hS : va_S A0 H0 H locs) (hA : ∀ q, q < H.size → A1 q → A0 q) (hf : ∀ q, free q → A0 q) (hAX : ∀ q, q < H.size → AX q → A0 q)
    (kx : ∀ (E : String) (ce : Cell) (q9 : Addr) (u : SX) (t : State) (H1 : Heap) (locs1 : List Loc), t.heap = H1 → s.vm.Alike t.vm → px u → BX E u t → H.size ≤ H1.size → (∀ q : Nat, q < H.size → ¬ AX q → H1[q]? = H[q]?) → va_S A0 H0 H1 locs1 → H1[q9]? = some ce → ce.vm = .none → s.vm.findClass E = some ce.cls → vx_W p l e R s m args below meth c H1 locs1 (cells + mc) (slots + ms) Q (F0 m pc ls rest) q9)
    (kk : ∀ (r : Int32) (u : S) (t : State) (H1 : Heap) (locs1 : List Loc), t.heap = H1 → s.vm.Alike t.vm → post r u → B u t → H.size ≤ H1.size → (∀ q : Nat, q < H.size → ¬ A1 q → H1[q]? = H[q]?) → va_S A0 H0 H1 locs1 → W p l e R s m args below meth c H1 locs1 (cells + mc) (slots + ms) Q (F0 m (pc + 3) ls (.int r :: rest))) : W p l e R s m args below meth c H locs cells slots Q (F0 m pc ls st0) := by
  intro T hT X
  rcases hr T hT X with ⟨v, st₀, t, T', L, h0, X', hL, e1, e2, ⟨⟨r, u, hv, hp, hb⟩, hF⟩, st⟩ | ⟨q, st₀, t, T', L, E, ce, h0, X', hL, e1, e2, ⟨u, hp, hb, hF⟩, hce, hcv, hcl, st⟩
  · cases hv
    obtain ⟨k1, k2, k3⟩ := vx_keep h0 e1 hS hA hf hL hF
    obtain ⟨t2, a1, b1⟩ := kk r u t T'.heap (locs ++ L) e1.symm (by rw [← e2]; exact X'.warmed.alike) hp hb k1 k2 k3 T' rfl X'
    exact ⟨t2, st t2 a1, b1⟩
  · obtain ⟨k1, k2, k3⟩ := vx_keep h0 e1 hS hAX hf hL hF
    obtain ⟨t2, a1, b1⟩ := kx E ce q u t T'.heap (locs ++ L) e1.symm (by rw [← e2]; exact X'.warmed.alike) hp hb k1 k2 k3 (by rw [e1]; exact hce) hcv hcl T' rfl X'
    exact ⟨t2, st.trans a1, b1⟩
theorem vx_calll {S SX : Type} {post : Int64 → S → Prop} {px : SX → Prop} {B : S → State → Prop} {BX : String → SX → State → Prop} {AX : Nat → Prop} (hr : vx_Run p l e R s m args below meth c H locs cells slots mc ms (F0 m pc ls st0) rest (va_Ql post B A1 a) (vx_X px BX AX) free) (hS : va_S A0 H0 H locs) (hA : ∀ q, q < H.size → A1 q → A0 q) (hf : ∀ q, free q → A0 q) (hAX : ∀ q, q < H.size → AX q → A0 q)
    (kx : ∀ (E : String) (ce : Cell) (q9 : Addr) (u : SX) (t : State) (H1 : Heap) (locs1 : List Loc), t.heap = H1 → s.vm.Alike t.vm → px u → BX E u t → H.size ≤ H1.size → (∀ q : Nat, q < H.size → ¬ AX q → H1[q]? = H[q]?) → va_S A0 H0 H1 locs1 → H1[q9]? = some ce → ce.vm = .none → s.vm.findClass E = some ce.cls → vx_W p l e R s m args below meth c H1 locs1 (cells + mc) (slots + ms) Q (F0 m pc ls rest) q9)
    (kk : ∀ (r : Int64) (u : S) (t : State) (H1 : Heap) (locs1 : List Loc), t.heap = H1 → s.vm.Alike t.vm → post r u → B u t → H.size ≤ H1.size → (∀ q : Nat, q < H.size → ¬ A1 q → H1[q]? = H[q]?) → va_S A0 H0 H1 locs1 → W p l e R s m args below meth c H1 locs1 (cells + mc) (slots + ms) Q (F0 m (pc + 3) ls (.long r :: rest))) : W p l e R s m args below meth c H locs cells slots Q (F0 m pc ls st0) := by
  intro T hT X
  rcases hr T hT X with ⟨v, st₀, t, T', L, h0, X', hL, e1, e2, ⟨⟨r, u, hv, hp, hb⟩, hF⟩, st⟩ | ⟨q, st₀, t, T', L, E, ce, h0, X', hL, e1, e2, ⟨u, hp, hb, hF⟩, hce, hcv, hcl, st⟩
  · cases hv
    obtain ⟨k1, k2, k3⟩ := vx_keep h0 e1 hS hA hf hL hF
    obtain ⟨t2, a1, b1⟩ := kk r u t T'.heap (locs ++ L) e1.symm (by rw [← e2]; exact X'.warmed.alike) hp hb k1 k2 k3 T' rfl X'
    exact ⟨t2, st t2 a1, b1⟩
  · obtain ⟨k1, k2, k3⟩ := vx_keep h0 e1 hS hAX hf hL hF
    obtain ⟨t2, a1, b1⟩ := kx E ce q u t T'.heap (locs ++ L) e1.symm (by rw [← e2]; exact X'.warmed.alike) hp hb k1 k2 k3 (by rw [e1]; exact hce) hcv hcl T' rfl X'
    exact ⟨t2, st.trans a1, b1⟩
theorem vx_callf {S SX : Type} {post : UInt32 → S → Prop} {px : SX → Prop} {B : S → State → Prop} {BX : String → SX → State → Prop} {AX : Nat → Prop} (hr : vx_Run p l e R s m args below meth c H locs cells slots mc ms (F0 m pc ls st0) rest (va_Qf post B A1 a) (vx_X px BX AX) free) (hS : va_S A0 H0 H locs) (hA : ∀ q, q < H.size → A1 q → A0 q) (hf : ∀ q, free q → A0 q) (hAX : ∀ q, q < H.size → AX q → A0 q)
    (kx : ∀ (E : String) (ce : Cell) (q9 : Addr) (u : SX) (t : State) (H1 : Heap) (locs1 : List Loc), t.heap = H1 → s.vm.Alike t.vm → px u → BX E u t → H.size ≤ H1.size → (∀ q : Nat, q < H.size → ¬ AX q → H1[q]? = H[q]?) → va_S A0 H0 H1 locs1 → H1[q9]? = some ce → ce.vm = .none → s.vm.findClass E = some ce.cls → vx_W p l e R s m args below meth c H1 locs1 (cells + mc) (slots + ms) Q (F0 m pc ls rest) q9)
    (kk : ∀ (r : UInt32) (u : S) (t : State) (H1 : Heap) (locs1 : List Loc), t.heap = H1 → s.vm.Alike t.vm → post r u → B u t → H.size ≤ H1.size → (∀ q : Nat, q < H.size → ¬ A1 q → H1[q]? = H[q]?) → va_S A0 H0 H1 locs1 → W p l e R s m args below meth c H1 locs1 (cells + mc) (slots + ms) Q (F0 m (pc + 3) ls (.float r :: rest))) : W p l e R s m args below meth c H locs cells slots Q (F0 m pc ls st0) := by
  intro T hT X
  rcases hr T hT X with ⟨v, st₀, t, T', L, h0, X', hL, e1, e2, ⟨⟨r, u, hv, hp, hb⟩, hF⟩, st⟩ | ⟨q, st₀, t, T', L, E, ce, h0, X', hL, e1, e2, ⟨u, hp, hb, hF⟩, hce, hcv, hcl, st⟩
  · cases hv
    obtain ⟨k1, k2, k3⟩ := vx_keep h0 e1 hS hA hf hL hF
    obtain ⟨t2, a1, b1⟩ := kk r u t T'.heap (locs ++ L) e1.symm (by rw [← e2]; exact X'.warmed.alike) hp hb k1 k2 k3 T' rfl X'
    exact ⟨t2, st t2 a1, b1⟩
  · obtain ⟨k1, k2, k3⟩ := vx_keep h0 e1 hS hAX hf hL hF
    obtain ⟨t2, a1, b1⟩ := kx E ce q u t T'.heap (locs ++ L) e1.symm (by rw [← e2]; exact X'.warmed.alike) hp hb k1 k2 k3 (by rw [e1]; exact hce) hcv hcl T' rfl X'
    exact ⟨t2, st.trans a1, b1⟩
theorem vx_calld {S SX : Type} {post : UInt64 → S → Prop} {px : SX → Prop} {B : S → State → Prop} {BX : String → SX → State → Prop} {AX : Nat → Prop} (hr : vx_Run p l e R s m args below meth c H locs cells slots mc ms (F0 m pc ls st0) rest (va_Qd post B A1 a) (vx_X px BX AX) free) (hS : va_S A0 H0 H locs) (hA : ∀ q, q < H.size → A1 q → A0 q) (hf : ∀ q, free q → A0 q) (hAX : ∀ q, q < H.size → AX q → A0 q)
    (kx : ∀ (E : String) (ce : Cell) (q9 : Addr) (u : SX) (t : State) (H1 : Heap) (locs1 : List Loc), t.heap = H1 → s.vm.Alike t.vm → px u → BX E u t → H.size ≤ H1.size → (∀ q : Nat, q < H.size → ¬ AX q → H1[q]? = H[q]?) → va_S A0 H0 H1 locs1 → H1[q9]? = some ce → ce.vm = .none → s.vm.findClass E = some ce.cls → vx_W p l e R s m args below meth c H1 locs1 (cells + mc) (slots + ms) Q (F0 m pc ls rest) q9)
    (kk : ∀ (r : UInt64) (u : S) (t : State) (H1 : Heap) (locs1 : List Loc), t.heap = H1 → s.vm.Alike t.vm → post r u → B u t → H.size ≤ H1.size → (∀ q : Nat, q < H.size → ¬ A1 q → H1[q]? = H[q]?) → va_S A0 H0 H1 locs1 → W p l e R s m args below meth c H1 locs1 (cells + mc) (slots + ms) Q (F0 m (pc + 3) ls (.double r :: rest))) : W p l e R s m args below meth c H locs cells slots Q (F0 m pc ls st0) := by
  intro T hT X
  rcases hr T hT X with ⟨v, st₀, t, T', L, h0, X', hL, e1, e2, ⟨⟨r, u, hv, hp, hb⟩, hF⟩, st⟩ | ⟨q, st₀, t, T', L, E, ce, h0, X', hL, e1, e2, ⟨u, hp, hb, hF⟩, hce, hcv, hcl, st⟩
  · cases hv
    obtain ⟨k1, k2, k3⟩ := vx_keep h0 e1 hS hA hf hL hF
    obtain ⟨t2, a1, b1⟩ := kk r u t T'.heap (locs ++ L) e1.symm (by rw [← e2]; exact X'.warmed.alike) hp hb k1 k2 k3 T' rfl X'
    exact ⟨t2, st t2 a1, b1⟩
  · obtain ⟨k1, k2, k3⟩ := vx_keep h0 e1 hS hAX hf hL hF
    obtain ⟨t2, a1, b1⟩ := kx E ce q u t T'.heap (locs ++ L) e1.symm (by rw [← e2]; exact X'.warmed.alike) hp hb k1 k2 k3 (by rw [e1]; exact hce) hcv hcl T' rfl X'
    exact ⟨t2, st.trans a1, b1⟩
theorem vx_callv {S SX : Type} {post : S → Prop} {px : SX → Prop} {B : S → State → Prop} {BX : String → SX → State → Prop} {AX : Nat → Prop} (hr : vx_Run p l e R s m args below meth c H locs cells slots mc ms (F0 m pc ls st0) rest (va_Qv post B A1 a) (vx_X px BX AX) free) (hS : va_S A0 H0 H locs) (hA : ∀ q, q < H.size → A1 q → A0 q) (hf : ∀ q, free q → A0 q) (hAX : ∀ q, q < H.size → AX q → A0 q)
    (kx : ∀ (E : String) (ce : Cell) (q9 : Addr) (u : SX) (t : State) (H1 : Heap) (locs1 : List Loc), t.heap = H1 → s.vm.Alike t.vm → px u → BX E u t → H.size ≤ H1.size → (∀ q : Nat, q < H.size → ¬ AX q → H1[q]? = H[q]?) → va_S A0 H0 H1 locs1 → H1[q9]? = some ce → ce.vm = .none → s.vm.findClass E = some ce.cls → vx_W p l e R s m args below meth c H1 locs1 (cells + mc) (slots + ms) Q (F0 m pc ls rest) q9)
    (kk : ∀ (u : S) (t : State) (H1 : Heap) (locs1 : List Loc), t.heap = H1 → s.vm.Alike t.vm → post u → B u t → H.size ≤ H1.size → (∀ q : Nat, q < H.size → ¬ A1 q → H1[q]? = H[q]?) → va_S A0 H0 H1 locs1 → W p l e R s m args below meth c H1 locs1 (cells + mc) (slots + ms) Q (F0 m (pc + 3) ls (rest))) : W p l e R s m args below meth c H locs cells slots Q (F0 m pc ls st0) := by
  intro T hT X
  rcases hr T hT X with ⟨v, st₀, t, T', L, h0, X', hL, e1, e2, ⟨⟨u, hv, hp, hb⟩, hF⟩, st⟩ | ⟨q, st₀, t, T', L, E, ce, h0, X', hL, e1, e2, ⟨u, hp, hb, hF⟩, hce, hcv, hcl, st⟩
  · cases hv
    obtain ⟨k1, k2, k3⟩ := vx_keep h0 e1 hS hA hf hL hF
    obtain ⟨t2, a1, b1⟩ := kk u t T'.heap (locs ++ L) e1.symm (by rw [← e2]; exact X'.warmed.alike) hp hb k1 k2 k3 T' rfl X'
    exact ⟨t2, st t2 a1, b1⟩
  · obtain ⟨k1, k2, k3⟩ := vx_keep h0 e1 hS hAX hf hL hF
    obtain ⟨t2, a1, b1⟩ := kx E ce q u t T'.heap (locs ++ L) e1.symm (by rw [← e2]; exact X'.warmed.alike) hp hb k1 k2 k3 (by rw [e1]; exact hce) hcv hcl T' rfl X'
    exact ⟨t2, st.trans a1, b1⟩
/-- caught by the row x of this method's table; the rows ahead don't take it -/
theorem vx_catch {own name : String} {E : String} {ce : Cell} {q : Addr} (hown : s.vm.findClass own = some m.cls) (pre : List ExceptionTableEntry) (x : ExceptionTableEntry) (suf : List ExceptionTableEntry) (hsplit : c.exceptionTable.toList = pre ++ x :: suf)
    (hpass : ∀ z ∈ pre, covers z pc = false ∨ (z.catchType ≠ 0 ∧ ∃ nm : String, (Cond.classLink own z.catchType nm).before args s = true ∧ va_Nc E nm s)) (hx : covers x pc = true) (h0 : x.catchType ≠ 0)
    (hlink : (Cond.classLink own x.catchType name).before args s = true) (hcast : (Cond.castable E name).before args s = true) (hcell : H[q]? = some ce) (hv : ce.vm = .none) (hcl : s.vm.findClass E = some ce.cls)
    (kk : W p l e R s m args below meth c H locs cells slots Q (F0 m x.handlerPc ls [.ref q])) : vx_W p l e R s m args below meth c H locs cells slots Q (F0 m pc ls rest) q := by
  intro T hT X
  have hpl : e.platform.magicAccessors = ({} : Platform).magicAccessors := by rw [X.admits.platform]
  obtain ⟨c3, c4, hc3, hc4, hasg⟩ := Cond.castable_spec hcast
  cases Option.some.inj (hc3.symm.trans hcl)
  obtain ⟨c5, hc5, hcl5⟩ := Cond.classLink_spec hown hlink e.platform hpl
  cases Option.some.inj (hc4.symm.trans hc5)
  obtain ⟨vm', X', st⟩ := X.thenCaughtThrough q (g := F0 m pc ls rest) rfl (Steps.refl _) (by rw [hT]; exact hcell) (by rw [hv]; rfl) (by obtain ⟨k9, h9, -⟩ := Vm.findClass_spec hcl; exact ⟨k9, h9⟩) pre x suf hsplit
    (fun z hz => by
      rcases hpass z hz with h | ⟨hz0, nm, hl1, hn1⟩
      · exact Or.inl h
      · obtain ⟨c6, hc6, hcl6⟩ := Cond.classLink_spec hown hl1 e.platform hpl
        obtain ⟨a8, b8, h1, h2, h3⟩ := hn1
        cases Option.some.inj (h1.symm.trans hcl)
        cases Option.some.inj (h2.symm.trans hc6)
        exact Or.inr ⟨hz0, _, hcl6, h3⟩) hx (Or.inr ⟨h0, c4, hcl5, hasg⟩)
  obtain ⟨t, a1, b1⟩ := kk (T.setVm vm') hT X'
  exact ⟨t, st.trans a1, b1⟩
end Rows
section Ends
variable {p : Program} {l : Launch} {e : Env} {R : Room} {s : State} {m : MethodId} {args : Array Value} {below : List Frame} {meth : Method} {c : Code} {H : Heap} {locs : List Loc} {cells slots : Nat} {Q : State → Prop}
variable {mc ms : Nat} {free : Addr → Prop} {A0 A1 : Nat → Prop} {H0 : Heap} {a : Array Value} {ls : Array Slot} {st0 rest : List Value}
variable {Qc : Array Value → State → Outcome → State → Prop} {XC : String → State → State → Prop}
/-- what a body that may throw owes at its end -/
def vx_MQ (below : List Frame) (Qc : Array Value → State → Outcome → State → Prop) (XC : String → State → State → Prop) (a : Array Value) (s : State) (mc ms : Nat) (free : Addr → Prop) : State → Prop := fun t =>
  ∃ o, t.status = .running ∧ Ended t below o ∧ vx_Q Qc XC mc ms free a s o t
theorem vx_ret {g : JFrame} {mc ms : Nat} (k : W p l e R s m args below meth c H locs cells slots (MQ below Qc args s mc ms free) g) : W p l e R s m args below meth c H locs cells slots (vx_MQ below Qc XC args s mc ms free) g := by
  intro T hT X
  obtain ⟨t, a1, o, b1, b2, b3, b4⟩ := k T hT X
  exact ⟨t, a1, o, b1, b2, Or.inl ⟨b3, b4⟩⟩
/-- not caught here: it goes on to the caller -/
theorem vx_widen {g : JFrame} {q : Addr} {k n : Nat} (h1 : cells ≤ k) (h2 : slots ≤ n) (kk : vx_W p l e R s m args below meth c H locs k n Q g q) : vx_W p l e R s m args below meth c H locs cells slots Q g q := fun T hT X => kk T hT (stand_widen X h1 h2)
theorem vx_out {pc : Nat} {E : String} {ce : Cell} {q : Addr} {mc ms : Nat} (hout : ∀ x ∈ c.exceptionTable.toList, covers x pc = false) (hlocks : meth.locks = false) (hcell : H[q]? = some ce) (hv : ce.vm = .none) (hcl : s.vm.findClass E = some ce.cls)
    (hx : ∀ t : State, t.heap = H → s.vm.Alike t.vm → XC E s t) (hf : ∀ z ∈ locs, free z.base) (hc : cells ≤ mc) (hs : slots ≤ ms) :
    vx_W p l e R s m args below meth c H locs cells slots (vx_MQ below Qc XC args s mc ms free) (F0 m pc ls rest) q := by
  intro T hT X
  obtain ⟨st1, hrun, hend, hW, hsm⟩ := X.leaveThrown q (g := F0 m pc ls rest) rfl rfl rfl hout hlocks
  have hcell9 : (T.setFrames (.throwing q :: below)).heap[q]? = some ce := by
    show T.heap[q]? = some ce
    rw [hT]; exact hcell
  exact ⟨_, st1, .threw q, hrun, hend, Or.inr ⟨q, rfl, E, ce, locs, hx _ hT hW.alike, hcell9, hv, hcl, hW, hsm.mono hc hs, hf⟩⟩
theorem vx_frame {U : State} {k n : Nat} (h : s.sameButNew ({ U with vm := s.vm } : State) locs k n) : s.heap.size ≤ U.heap.size ∧ ∀ q : Nat, q < s.heap.size → (∀ z ∈ locs, z.base ≠ q) → U.heap[q]? = s.heap[q]? := by
  obtain ⟨-, h2, -, -, -, h6⟩ := h
  refine ⟨h2, fun q hq hz => ?_⟩
  obtain ⟨c9, e1, e2, e3, e4⟩ := h6 q _ (Array.getElem?_eq_getElem hq)
  have hs : c9.slots = (s.heap[q]).slots := Array.ext_getElem? fun i => e4 i fun hm => hz _ hm rfl
  have h9 : c9 = s.heap[q] := by
    rw [hs] at e2
    exact e2
  have e5 : U.heap[q]? = some c9 := e1
  rw [e5, h9, Array.getElem?_eq_getElem hq]
/-- the words of a throw but the four that speak of the heap -/
def vx_no (w : Cond) : Bool := decide (w ≠ .isRef (.static Bundle.tN "UNASSIGNED_STACK" Bundle.steD)) && decide (w ≠ .isRef (.static Bundle.tN "SUPPRESSED_SENTINEL" Bundle.listD)) && decide (w ≠ .laysStatic Bundle.tN "UNASSIGNED_STACK" Bundle.steD) && decide (w ≠ .laysStatic Bundle.tN "SUPPRESSED_SENTINEL" Bundle.listD)
def vx_at0 (own : String) (ic : Nat) (X : String) (names : List String) : List Cond := (Bundle.ownAtoms0 own ic X names).filter vx_no
def vx_atS (own : String) (ic : Nat) (X : String) (names : List String) : List Cond := (Bundle.ownAtoms own ic X names).filter vx_no
/-- a word that the tables alone decide, or a good one -/
def vx_ot (w : Cond) : Bool := w.onTables || goodWord w
theorem vx_ot_at {args a' : Array Value} {s U : State} {w : Cond} (hW : s.WarmedH U.vm) (hvm : s.vm = U.vm) (hg : vx_ot w = true) (h : w.before args s = true) : w.before a' U = true := by
  simp only [vx_ot, Bool.or_eq_true] at hg
  rcases hg with hg | hg
  · exact va_tabs hg hvm h
  · exact word_at hW (good_of_word hg) h
/-- a list's words: the good ones out of the method's own list, the others by premises of their own -/
theorem vx_hat {args : Array Value} {s : State} {L B : List Cond} (h1 : ∀ w ∈ L.filter goodWord, w.before args s = true) (h2 : ∀ w ∈ L.filter (fun w => !goodWord w), w ∈ B) (h3 : ∀ w ∈ B, w.before args s = true) : ∀ w ∈ L, w.before args s = true := by
  intro w hw
  by_cases g : goodWord w = true
  · exact h1 w (List.mem_filter.mpr ⟨hw, g⟩)
  · refine h3 w (h2 w (List.mem_filter.mpr ⟨hw, ?_⟩))
    show (!goodWord w) = true
    cases hgw : goodWord w
    · rfl
    · exact absurd hgw g
theorem vx_c {args : Array Value} {s : State} {w : Cond} {B : List Cond} (h : w.before args s = true) (t : ∀ w ∈ B, w.before args s = true) : ∀ w' ∈ w :: B, w'.before args s = true := fun w' h' => (List.mem_cons.mp h').elim (fun e => by rw [e]; exact h) (t w')
theorem vx_n {args : Array Value} {s : State} : ∀ w ∈ ([] : List Cond), w.before args s = true := fun _ h => nomatch h
theorem vx_own {args : Array Value} {s : State} {L : List Cond} (h1 : ∀ w ∈ L.filter vx_no, w.before args s = true)
    (hU : (Cond.isRef (.static Bundle.tN "UNASSIGNED_STACK" Bundle.steD)).before args s = true) (hN : (Cond.isRef (.static Bundle.tN "SUPPRESSED_SENTINEL" Bundle.listD)).before args s = true)
    (lU : (Cond.laysStatic Bundle.tN "UNASSIGNED_STACK" Bundle.steD).before args s = true) (lN : (Cond.laysStatic Bundle.tN "SUPPRESSED_SENTINEL" Bundle.listD).before args s = true) : ∀ w ∈ L, w.before args s = true := by
  intro w hw
  by_cases e1 : w = .isRef (.static Bundle.tN "UNASSIGNED_STACK" Bundle.steD)
  · rw [e1]; exact hU
  · by_cases e2 : w = .isRef (.static Bundle.tN "SUPPRESSED_SENTINEL" Bundle.listD)
    · rw [e2]; exact hN
    · by_cases e3 : w = .laysStatic Bundle.tN "UNASSIGNED_STACK" Bundle.steD
      · rw [e3]; exact lU
      · by_cases e4 : w = .laysStatic Bundle.tN "SUPPRESSED_SENTINEL" Bundle.listD
        · rw [e4]; exact lN
        · exact h1 w (List.mem_filter.mpr ⟨hw, by unfold vx_no; rw [decide_eq_true e1, decide_eq_true e2, decide_eq_true e3, decide_eq_true e4]; rfl⟩)
/-- where a static field lies, its class's statics cell in H -/
def vx_L (C n d : String) (A : Nat → Prop) (U : State) (H : Heap) : Prop := ∃ (c : ClassId) (k : Class) (i : Nat) (f : Field) (a : Nat) (cell : Cell), U.vm.findClass C = some c ∧ U.fieldFound? C n d = some (c, k, i, f) ∧ f.isStatic = true ∧ k.statics = some a ∧ H[a]? = some cell ∧ cell.vm.isStatics = true ∧ cell.cls = c ∧ f.slot < cell.slots.size ∧ k.staticTypes[f.slot]? = some f.type ∧ ¬ A a
theorem vx_L.moved {C n d : String} {A : Nat → Prop} {u U : State} {H : Heap} (hvm : u.vm.Alike U.vm) (h : vx_L C n d A u H) : vx_L C n d A U H := by
  obtain ⟨c, k, i, f, a, cell, h1, h2, h3, h4, h5, h6, h7, h8, h9, h10⟩ := h
  obtain ⟨k', hi', he⟩ := State.fieldFound?_setVm hvm h2
  exact ⟨c, k', i, f, a, cell, by rw [hvm.findClass]; exact h1, hi', h3, by rw [he]; exact h4, h5, h6, h7, h8, by rw [he]; exact h9, h10⟩
theorem vx_L.kept {C n d : String} {A : Nat → Prop} {U : State} {H H1 : Heap} (h : vx_L C n d A U H) (hq : ∀ a : Nat, a < H.size → ¬ A a → H1[a]? = H[a]?) : vx_L C n d A U H1 := by
  obtain ⟨c, k, i, f, a, cell, h1, h2, h3, h4, h5, h6, h7, h8, h9, h10⟩ := h
  exact ⟨c, k, i, f, a, cell, h1, h2, h3, h4, by rw [hq a (Array.getElem?_eq_some_iff.mp h5).1 h10]; exact h5, h6, h7, h8, h9, h10⟩
theorem vx_L.narrow {C n d : String} {A B : Nat → Prop} {U : State} {H : Heap} (h : vx_L C n d A U H) (hAB : ∀ q, B q → A q) : vx_L C n d B U H := by
  obtain ⟨c, k, i, f, a, cell, h1, h2, h3, h4, h5, h6, h7, h8, h9, h10⟩ := h
  exact ⟨c, k, i, f, a, cell, h1, h2, h3, h4, h5, h6, h7, h8, h9, fun z => h10 (hAB _ z)⟩
theorem vx_L.word {C n d : String} {A : Nat → Prop} {s : State} {args : Array Value} (h : vx_L C n d A s s.heap) : (Cond.laysStatic C n d).before args s = true := by
  obtain ⟨c, k, i, f, a, cell, h1, h2, h3, h4, h5, h6, h7, h8, h9, -⟩ := h
  show (Cond.laysStatic C n d).holds args s none s [] = true
  exact Cond.laysStatic_of h1 h2 h3 h4 h5 h6 h7 h8 h9
/-- .. and what it holds: null or some reference -/
def vx_Zq (C n d : String) (A : Nat → Prop) (U : State) (H : Heap) : Prop := va_Zq C n d A U H ∧ vx_L C n d A U H
theorem vx_Zq.moved {C n d : String} {A : Nat → Prop} {u U : State} {H : Heap} (hvm : u.vm.Alike U.vm) (h : vx_Zq C n d A u H) : vx_Zq C n d A U H := ⟨va_Zq.moved hvm h.1, vx_L.moved hvm h.2⟩
theorem vx_Zq.kept {C n d : String} {A : Nat → Prop} {U : State} {H H1 : Heap} (h : vx_Zq C n d A U H) (hq : ∀ a : Nat, a < H.size → ¬ A a → H1[a]? = H[a]?) : vx_Zq C n d A U H1 := ⟨va_Zq.kept h.1 hq, vx_L.kept h.2 hq⟩
theorem vx_Zq.narrow {C n d : String} {A B : Nat → Prop} {U : State} {H : Heap} (h : vx_Zq C n d A U H) (hAB : ∀ q, B q → A q) : vx_Zq C n d B U H := ⟨va_Zq.narrow h.1 hAB, vx_L.narrow h.2 hAB⟩
theorem vx_Zqof {args : Array Value} {s : State} {C n d : String} {A : Nat → Prop} (hl : (Cond.laysStatic C n d).before args s = true) (hini : (Cond.initialized C).before args s = true) (h : (Cond.isRef (.static C n d)).before args s = true) (hA : ∀ a : Nat, a < s.heap.size → ¬ A a) : vx_Zq C n d A s s.heap := by
  refine ⟨va_Zqof hl hini h hA, ?_⟩
  obtain ⟨c, k, i, f, a, cell, h1, h2, h3, h4, h5, h6, h7, h8, h9⟩ := Cond.laysStatic_spec hl
  exact ⟨c, k, i, f, a, cell, h1, h2, h3, h4, h5, h6, h7, h8, h9, hA a (Array.getElem?_eq_some_iff.mp h5).1⟩
theorem vx_isRef {C n d : String} {v : Value} {A : Nat → Prop} {s : State} {args : Array Value} (h : va_Z C n d v A s s.heap) (hv : v.isRef = true) : (Cond.isRef (.static C n d)).before args s = true := by
  obtain ⟨cf, kf, fi, f, a, cell, h1, h2, h3, h4, h5, h6, h7, -⟩ := h
  have he : (Term.static C n d).eval args s none [] s = some v := by
    simp [Term.eval, State.fieldNamed?, h1, h2, h4, h5, h6, h7]
  simp only [Cond.before, Cond.holds, Cond.value, he]
  cases v <;> simp_all [Value.isRef]
theorem vx_isRefq {C n d : String} {A : Nat → Prop} {s : State} {args : Array Value} (h : va_Zq C n d A s s.heap) : (Cond.isRef (.static C n d)).before args s = true := by
  rcases h with h | ⟨t, h⟩
  · exact vx_isRef h rfl
  · exact vx_isRef h rfl
/-- the same frame, seen from here: as if the method were called anew in this heap -/
theorem vx_rebase {T : State} (X : Stand p l e R s m args below meth c T locs cells slots) {R' : Room} (hf : R'.frames ≤ R.frames) (hl : R'.locals ≤ R.locals) (hc : cells + R'.cells ≤ R.cells) (hs : slots + R'.slots ≤ R.slots) :
    Stand p l e R' ((T.setVm s.vm).setFrames (.invoking m args :: below)) m args below meth c T [] 0 0 := by
  have htop : (T.setVm s.vm).topJava?.isSome := X.here.top
  have hF : ((T.setVm s.vm).setFrames (.invoking m args :: below)).frames = .invoking m args :: below := State.frames_setFrames _ (State.cur_lt_of_top htop)
  obtain ⟨g₀, hg0⟩ := Option.isSome_iff_exists.mp htop
  obtain ⟨r, hr⟩ := State.topJava?_eq_some.mp hg0
  have hl9 : e.platform.stackLimits (T.setVm s.vm).me = e.platform.stackLimits s.me := X.limits
  have hb9 : (T.setVm s.vm).me.stackBytes = s.me.stackBytes := X.bytes
  refine ⟨X.admits, X.cas, X.clock, hF, ?_, X.hears, X.method, X.code, X.here, X.tail, X.warmed, ?_, ?_, ?_⟩
  · have h := X.room
    have hU : ((T.setVm s.vm).setFrames (.invoking m args :: below)).localsInUse = s.localsInUse := by
      rw [State.localsInUse_invoking hF (meth := meth) (c := c) X.method X.code, State.localsInUse_invoking X.frames X.method X.code]
    simp only [State.hasRoom, Bool.and_eq_true, decide_eq_true_eq] at h ⊢
    obtain ⟨⟨⟨⟨h1, h2, h3, h4, h5, h6⟩, h7⟩, h8⟩, h9⟩ := h
    rw [X.frames, List.length_cons] at h2 h3
    have q1 := X.heapSize
    have q2 := X.used
    simp only [hF, hU, List.length_cons, State.stackLimits_setFrames, State.stackBytes_setFrames, hl9, hb9]
    refine ⟨⟨⟨⟨by omega, by omega, by omega, by omega, by omega, h6⟩, ?_⟩, ?_⟩, X.book⟩
    · show T.heap.size + R'.cells ≤ e.platform.maxCells
      omega
    · show T.slotsUsed + R'.slots ≤ e.platform.maxSlots
      omega
  · rw [State.stackLimits_setFrames]; rfl
  · rw [State.stackBytes_setFrames]; rfl
  · refine ⟨?_, Nat.le_refl _, Nat.le_refl _, ?_, ?_, fun a c9 h9 => ⟨c9, h9, rfl, rfl, fun _ _ => rfl⟩⟩
    · obtain ⟨t, ht, -⟩ := State.frames_cons hr
      show T.setVm s.vm = { ((T.setVm s.vm).setFrames (.invoking m args :: below)).setFrames (T.setVm s.vm).frames with heap := T.heap, slotsUsed := T.slotsUsed }
      rw [State.setFrames_setFrames, State.setFrames_self ht]
      rfl
    · show T.slotsUsed = T.slotsUsed + ((T.heap.toList.drop T.heap.size).map (·.slots.size)).sum
      rw [List.drop_eq_nil_of_le (Nat.le_of_eq Array.length_toList)]
      rfl
    · show ((T.heap.toList.drop T.heap.size).map (·.slots.size)).sum ≤ 0
      rw [List.drop_eq_nil_of_le (Nat.le_of_eq Array.length_toList)]
      exact Nat.le_refl _
/-- 'throw new E()': new; dup; invokespecial; athrow -/
theorem vx_throw0 {cc : ByteArray} {pc : Nat} (hexec : p.tables.exec = Jvm.exec) (hb : c.code = cc) (hl : l.stackTraces = false) {own cls : String} {names : List String} {ik ic mc ms : Nat} {A : Nat → Prop}
    (hown : s.vm.findClass own = some m.cls) (hcls : Bundle.fit cls = true) (hnames : ∀ n ∈ names, Bundle.fit n = true)
    (hk : (Cond.classLink own ik cls).before args s = true) (hini : (Cond.initialized cls).before args s = true) (hat : ∀ w ∈ vx_at0 own ic cls names, w.before args s = true)
    (hgood : ∀ w ∈ Cond.classLink own ik cls :: Cond.initialized cls :: vx_at0 own ic cls names, vx_ot w = true)
    (hU : vx_Zq Bundle.tN "UNASSIGNED_STACK" Bundle.steD A s s.heap) (hN : vx_Zq Bundle.tN "SUPPRESSED_SENTINEL" Bundle.listD A s s.heap) (hS : va_S A s.heap H locs) (hsize : ls.size = c.maxLocals)
    (d0 : decode cc pc = .ok (.new ik, 3)) (d3 : decode cc (pc + 3) = .ok (.dup, 1)) (d4 : decode cc (pc + 4) = .ok (.invokespecial ic, 3)) (d7 : decode cc (pc + 7) = .ok (.athrow, 1))
    (hout : ∀ x ∈ c.exceptionTable.toList, covers x (pc + 7) = false)
    (hRframes : names.length + 3 < R.frames) (hRlocals : (rest.map fun v => v.category).sum + (13 * (names.length + 1) + 42) ≤ R.locals) (hRcells : cells + 1 ≤ R.cells) (hRslots : slots + 6 ≤ R.slots) (hlocks : meth.locks = false)
    (hx : ∀ t : State, s.vm.Alike t.vm → H.size ≤ t.heap.size → (∀ q : Nat, q < H.size → t.heap[q]? = H[q]?) → XC cls s t)
    (hf : ∀ z ∈ locs, free z.base) (hc : cells + 1 ≤ mc) (hs : slots + 6 ≤ ms) :
    W p l e R s m args below meth c H locs cells slots (vx_MQ below Qc XC args s mc ms free) (F0 m pc ls rest) := by
  intro T hT X
  have htr : e.platform.stackTraces = false := (show e.platform.stackTraces = l.stackTraces by rw [X.admits.platform]).trans hl
  have Y := vx_rebase X (R' := { frames := R.frames, locals := R.locals, cells := 1, slots := 6 }) (Nat.le_refl _) (Nat.le_refl _) hRcells hRslots
  obtain ⟨s', hA⟩ : ∃ z, z = (T.setVm s.vm).setFrames (.invoking m args :: below) := ⟨_, rfl⟩
  rw [← hA] at Y
  have hvm : s'.vm = s.vm := by rw [hA]; rfl
  have hhp : s'.heap = H := by rw [hA]; exact hT
  have hW0 : s.WarmedH s'.vm := by rw [hvm]; exact State.WarmedH.refl s
  have hat' : ∀ w ∈ vx_at0 own ic cls names, w.before args s' = true := fun w hw => vx_ot_at hW0 hvm.symm (hgood w (List.mem_cons_of_mem _ (List.mem_cons_of_mem _ hw))) (hat w hw)
  have hk' : (Cond.classLink own ik cls).before args s' = true := vx_ot_at hW0 hvm.symm (hgood _ List.mem_cons_self) hk
  have hini' : (Cond.initialized cls).before args s' = true := vx_ot_at hW0 hvm.symm (hgood _ (List.mem_cons_of_mem _ List.mem_cons_self)) hini
  have hU' : vx_Zq Bundle.tN "UNASSIGNED_STACK" Bundle.steD A s' s'.heap := by rw [hhp]; exact vx_Zq.moved hW0.alike (hU.kept hS.2.1)
  have hN' : vx_Zq Bundle.tN "SUPPRESSED_SENTINEL" Bundle.listD A s' s'.heap := by rw [hhp]; exact vx_Zq.moved hW0.alike (hN.kept hS.2.1)
  have h : ∀ w ∈ Bundle.ownAtoms0 own ic cls names, w.before args s' = true := vx_own hat' (vx_isRefq hU'.1) (vx_isRefq hN'.1) hU'.2.word hN'.2.word
  have hown' : s'.vm.findClass own = some m.cls := by rw [hvm]; exact hown
  have hins : (Cond.instantiable cls 6).before args s' = true := h _ (by simp [Bundle.ownAtoms0])
  obtain ⟨vm₁, cX, kX, hfX, hkX, -, -, X₁, st1⟩ := Y.newCold hexec (own := own) (C := cls) (index := ik) (n := 6) hown' hk' hins hini'
    (g := F0 m pc ls rest) rfl (by rw [hb]; exact d0) (Nat.le_refl _) (Nat.le_refl _)
  generalize hT1 : (T.setVm vm₁).pushCell { cls := cX, slots := kX.instanceTypes.map defaultValue, vm := .none } = T1 at X₁ st1
  have hcat : (Value.ref T.heap.size).category = 1 := rfl
  have hcellA : T1.heap[T.heap.size]? = some (freshCell cX kX) := by rw [← hT1]; exact State.heap_pushCell_size _ _
  have d3' : decode c.code (pc + 3) = .ok (.dup, 1) := by rw [hb]; exact d3
  obtain ⟨U, hsteps, hrun, hend, hW, hsame, ce, hce, hO⟩ := X₁.ctorThrow0 hexec htr (own := own) (cls := cls) (names := names) (ic := ic) hown' hcls hnames h (fun x hx => nomatch hx) hfX hkX hcellA (by rw [hhp, hT]; exact Nat.le_refl _)
    (g := { method := m, pc := pc + 4, locals := ls, stack := .ref T.heap.size :: .ref T.heap.size :: rest, locked := none }) rfl hsize rfl rfl (rest := rest) rfl
    (by rw [hb]; exact d4) (by rw [hb]; exact d7) hout hRframes (by simp only [List.map_cons, List.sum_cons, hcat]; omega) hlocks
  obtain ⟨f1, f2⟩ := vx_frame hsame
  rw [hhp] at f1 f2
  have hWs : s.WarmedH U.vm := State.WarmedH.trans hW0 hW
  have hcl : s.vm.findClass cls = some ce.cls := by
    have h9 := hO.cls
    rw [hvm] at h9
    exact h9
  have hall : s.sameButNew ({ U with vm := s.vm } : State) locs mc ms := by
    subst hA
    obtain ⟨e1, e2⟩ := hsame
    rw [State.setFrames_setFrames] at e1
    have h2 : (T.setVm s.vm).sameButNew ({ U with vm := s.vm } : State) [] (0 + 1) (0 + 6) := ⟨e1, e2⟩
    have h3 := X.same.trans h2
    rw [List.append_nil] at h3
    exact h3.mono hc hs
  refine ⟨U, ?_, .threw T.heap.size, hrun, hend, Or.inr ⟨T.heap.size, rfl, cls, ce, locs, hx U hWs.alike f1 (fun q hq => f2 q hq (fun z hz => nomatch hz)), hce, hO.vm, hcl, hWs, hall, hf⟩⟩
  refine st1 _ ?_
  show Steps p.tables e below (T1.setTop { method := m, pc := pc + 3, locals := ls, stack := .ref T.heap.size :: rest, locked := none }) _
  jvm_step X₁.here [X₁.here.top, hexec, d3', Value.category]
  exact hsteps
/-- 'throw new E("text")': new; dup; ldc; invokespecial; athrow -/
theorem vx_throwS {cc : ByteArray} {pc : Nat} (hexec : p.tables.exec = Jvm.exec) (hb : c.code = cc) (hl : l.stackTraces = false) {own cls text : String} {names : List String} {ik is ic mc ms sa : Nat} {A : Nat → Prop}
    (hown : s.vm.findClass own = some m.cls) (hcls : Bundle.fit cls = true) (hnames : ∀ n ∈ names, Bundle.fit n = true)
    (hk : (Cond.classLink own ik cls).before args s = true) (hini : (Cond.initialized cls).before args s = true) (hstr : vk_R own is text sa s) (hat : ∀ w ∈ vx_atS own ic cls names, w.before args s = true)
    (hgood : ∀ w ∈ Cond.classLink own ik cls :: Cond.initialized cls :: vx_atS own ic cls names, vx_ot w = true)
    (hU : vx_Zq Bundle.tN "UNASSIGNED_STACK" Bundle.steD A s s.heap) (hN : vx_Zq Bundle.tN "SUPPRESSED_SENTINEL" Bundle.listD A s s.heap) (hS : va_S A s.heap H locs) (hsize : ls.size = c.maxLocals)
    (d0 : decode cc pc = .ok (.new ik, 3)) (d3 : decode cc (pc + 3) = .ok (.dup, 1)) (d4 : decode cc (pc + 4) = .ok (.ldc is, 2)) (d6 : decode cc (pc + 6) = .ok (.invokespecial ic, 3)) (d9 : decode cc (pc + 9) = .ok (.athrow, 1))
    (hout : ∀ x ∈ c.exceptionTable.toList, covers x (pc + 9) = false)
    (hRframes : names.length + 3 < R.frames) (hRlocals : (rest.map fun v => v.category).sum + (13 * (names.length + 1) + 43) ≤ R.locals) (hRcells : cells + 1 ≤ R.cells) (hRslots : slots + 6 ≤ R.slots) (hlocks : meth.locks = false)
    (hx : ∀ t : State, s.vm.Alike t.vm → H.size ≤ t.heap.size → (∀ q : Nat, q < H.size → t.heap[q]? = H[q]?) → XC cls s t)
    (hf : ∀ z ∈ locs, free z.base) (hc : cells + 1 ≤ mc) (hs : slots + 6 ≤ ms) :
    W p l e R s m args below meth c H locs cells slots (vx_MQ below Qc XC args s mc ms free) (F0 m pc ls rest) := by
  intro T hT X
  have htr : e.platform.stackTraces = false := (show e.platform.stackTraces = l.stackTraces by rw [X.admits.platform]).trans hl
  have Y := vx_rebase X (R' := { frames := R.frames, locals := R.locals, cells := 1, slots := 6 }) (Nat.le_refl _) (Nat.le_refl _) hRcells hRslots
  obtain ⟨s', hA⟩ : ∃ z, z = (T.setVm s.vm).setFrames (.invoking m args :: below) := ⟨_, rfl⟩
  rw [← hA] at Y
  have hvm : s'.vm = s.vm := by rw [hA]; rfl
  have hhp : s'.heap = H := by rw [hA]; exact hT
  have hW0 : s.WarmedH s'.vm := by rw [hvm]; exact State.WarmedH.refl s
  have hat' : ∀ w ∈ vx_atS own ic cls names, w.before args s' = true := fun w hw => vx_ot_at hW0 hvm.symm (hgood w (List.mem_cons_of_mem _ (List.mem_cons_of_mem _ hw))) (hat w hw)
  have hk' : (Cond.classLink own ik cls).before args s' = true := vx_ot_at hW0 hvm.symm (hgood _ List.mem_cons_self) hk
  have hini' : (Cond.initialized cls).before args s' = true := vx_ot_at hW0 hvm.symm (hgood _ (List.mem_cons_of_mem _ List.mem_cons_self)) hini
  have hU' : vx_Zq Bundle.tN "UNASSIGNED_STACK" Bundle.steD A s' s'.heap := by rw [hhp]; exact vx_Zq.moved hW0.alike (hU.kept hS.2.1)
  have hN' : vx_Zq Bundle.tN "SUPPRESSED_SENTINEL" Bundle.listD A s' s'.heap := by rw [hhp]; exact vx_Zq.moved hW0.alike (hN.kept hS.2.1)
  have h : ∀ w ∈ Bundle.ownAtoms own ic cls names, w.before args s' = true := vx_own hat' (vx_isRefq hU'.1) (vx_isRefq hN'.1) hU'.2.word hN'.2.word
  have hown' : s'.vm.findClass own = some m.cls := by rw [hvm]; exact hown
  have hins : (Cond.instantiable cls 6).before args s' = true := h _ (by simp [Bundle.ownAtoms])
  obtain ⟨vm₁, cX, kX, hfX, hkX, -, -, X₁, st1⟩ := Y.newCold hexec (own := own) (C := cls) (index := ik) (n := 6) hown' hk' hins hini'
    (g := F0 m pc ls rest) rfl (by rw [hb]; exact d0) (Nat.le_refl _) (Nat.le_refl _)
  generalize hT1 : (T.setVm vm₁).pushCell { cls := cX, slots := kX.instanceTypes.map defaultValue, vm := .none } = T1 at X₁ st1
  have hcat : (Value.ref T.heap.size).category = 1 := rfl
  have hcellA : T1.heap[T.heap.size]? = some (freshCell cX kX) := by rw [← hT1]; exact State.heap_pushCell_size _ _
  have d3' : decode c.code (pc + 3) = .ok (.dup, 1) := by rw [hb]; exact d3
  have d4' : decode c.code (pc + 4) = .ok (.ldc is, 2) := by rw [hb]; exact d4
  have hstr' : vk_R own is text sa s' := vk_R.warm hW0 hstr
  obtain ⟨U, hsteps, hrun, hend, hW, hsame, ce, hce, hO⟩ := X₁.ctorThrowS hexec htr (own := own) (cls := cls) (names := names) (ic := ic) hown' hcls hnames h (fun x hx => nomatch hx) hfX hkX hcellA (by rw [hhp, hT]; exact Nat.le_refl _) (msg := .ref sa) rfl
    (g := { method := m, pc := pc + 6, locals := ls, stack := .ref sa :: .ref T.heap.size :: .ref T.heap.size :: rest, locked := none }) rfl hsize rfl rfl (rest := rest) rfl
    (by rw [hb]; exact d6) (by rw [hb]; exact d9) hout hRframes (by simp only [List.map_cons, List.sum_cons, hcat]; omega) hlocks
  obtain ⟨f1, f2⟩ := vx_frame hsame
  rw [hhp] at f1 f2
  have hWs : s.WarmedH U.vm := State.WarmedH.trans hW0 hW
  have hcl : s.vm.findClass cls = some ce.cls := by
    have h9 := hO.cls
    rw [hvm] at h9
    exact h9
  have hall : s.sameButNew ({ U with vm := s.vm } : State) locs mc ms := by
    subst hA
    obtain ⟨e1, e2⟩ := hsame
    rw [State.setFrames_setFrames] at e1
    have h2 : (T.setVm s.vm).sameButNew ({ U with vm := s.vm } : State) [] (0 + 1) (0 + 6) := ⟨e1, e2⟩
    have h3 := X.same.trans h2
    rw [List.append_nil] at h3
    exact h3.mono hc hs
  refine ⟨U, ?_, .threw T.heap.size, hrun, hend, Or.inr ⟨T.heap.size, rfl, cls, ce, locs, hx U hWs.alike f1 (fun q hq => f2 q hq (fun z hz => nomatch hz)), hce, hO.vm, hcl, hWs, hall, hf⟩⟩
  refine st1 _ ?_
  show Steps p.tables e below (T1.setTop { method := m, pc := pc + 3, locals := ls, stack := .ref T.heap.size :: rest, locked := none }) _
  jvm_step X₁.here [X₁.here.top, hexec, d3', Value.category]
  exact X₁.ldcString hexec (own := own) (text := text) (index := is) (a := sa) hown' hstr'.1 hstr'.2
    (g := { method := m, pc := pc + 4, locals := ls, stack := .ref T.heap.size :: .ref T.heap.size :: rest, locked := none }) rfl d4' _ hsteps
/-- 'throw new E("text")', the text by a wide index -/
theorem vx_throwSW {cc : ByteArray} {pc : Nat} (hexec : p.tables.exec = Jvm.exec) (hb : c.code = cc) (hl : l.stackTraces = false) {own cls text : String} {names : List String} {ik is ic mc ms sa : Nat} {A : Nat → Prop}
    (hown : s.vm.findClass own = some m.cls) (hcls : Bundle.fit cls = true) (hnames : ∀ n ∈ names, Bundle.fit n = true)
    (hk : (Cond.classLink own ik cls).before args s = true) (hini : (Cond.initialized cls).before args s = true) (hstr : vk_R own is text sa s) (hat : ∀ w ∈ vx_atS own ic cls names, w.before args s = true)
    (hgood : ∀ w ∈ Cond.classLink own ik cls :: Cond.initialized cls :: vx_atS own ic cls names, vx_ot w = true)
    (hU : vx_Zq Bundle.tN "UNASSIGNED_STACK" Bundle.steD A s s.heap) (hN : vx_Zq Bundle.tN "SUPPRESSED_SENTINEL" Bundle.listD A s s.heap) (hS : va_S A s.heap H locs) (hsize : ls.size = c.maxLocals)
    (d0 : decode cc pc = .ok (.new ik, 3)) (d3 : decode cc (pc + 3) = .ok (.dup, 1)) (d4 : decode cc (pc + 4) = .ok (.ldc_w is, 3)) (d7 : decode cc (pc + 7) = .ok (.invokespecial ic, 3)) (d10 : decode cc (pc + 10) = .ok (.athrow, 1))
    (hout : ∀ x ∈ c.exceptionTable.toList, covers x (pc + 10) = false)
    (hRframes : names.length + 3 < R.frames) (hRlocals : (rest.map fun v => v.category).sum + (13 * (names.length + 1) + 43) ≤ R.locals) (hRcells : cells + 1 ≤ R.cells) (hRslots : slots + 6 ≤ R.slots) (hlocks : meth.locks = false)
    (hx : ∀ t : State, s.vm.Alike t.vm → H.size ≤ t.heap.size → (∀ q : Nat, q < H.size → t.heap[q]? = H[q]?) → XC cls s t)
    (hf : ∀ z ∈ locs, free z.base) (hc : cells + 1 ≤ mc) (hs : slots + 6 ≤ ms) :
    W p l e R s m args below meth c H locs cells slots (vx_MQ below Qc XC args s mc ms free) (F0 m pc ls rest) := by
  intro T hT X
  have htr : e.platform.stackTraces = false := (show e.platform.stackTraces = l.stackTraces by rw [X.admits.platform]).trans hl
  have Y := vx_rebase X (R' := { frames := R.frames, locals := R.locals, cells := 1, slots := 6 }) (Nat.le_refl _) (Nat.le_refl _) hRcells hRslots
  obtain ⟨s', hA⟩ : ∃ z, z = (T.setVm s.vm).setFrames (.invoking m args :: below) := ⟨_, rfl⟩
  rw [← hA] at Y
  have hvm : s'.vm = s.vm := by rw [hA]; rfl
  have hhp : s'.heap = H := by rw [hA]; exact hT
  have hW0 : s.WarmedH s'.vm := by rw [hvm]; exact State.WarmedH.refl s
  have hat' : ∀ w ∈ vx_atS own ic cls names, w.before args s' = true := fun w hw => vx_ot_at hW0 hvm.symm (hgood w (List.mem_cons_of_mem _ (List.mem_cons_of_mem _ hw))) (hat w hw)
  have hk' : (Cond.classLink own ik cls).before args s' = true := vx_ot_at hW0 hvm.symm (hgood _ List.mem_cons_self) hk
  have hini' : (Cond.initialized cls).before args s' = true := vx_ot_at hW0 hvm.symm (hgood _ (List.mem_cons_of_mem _ List.mem_cons_self)) hini
  have hU' : vx_Zq Bundle.tN "UNASSIGNED_STACK" Bundle.steD A s' s'.heap := by rw [hhp]; exact vx_Zq.moved hW0.alike (hU.kept hS.2.1)
  have hN' : vx_Zq Bundle.tN "SUPPRESSED_SENTINEL" Bundle.listD A s' s'.heap := by rw [hhp]; exact vx_Zq.moved hW0.alike (hN.kept hS.2.1)
  have h : ∀ w ∈ Bundle.ownAtoms own ic cls names, w.before args s' = true := vx_own hat' (vx_isRefq hU'.1) (vx_isRefq hN'.1) hU'.2.word hN'.2.word
  have hown' : s'.vm.findClass own = some m.cls := by rw [hvm]; exact hown
  have hins : (Cond.instantiable cls 6).before args s' = true := h _ (by simp [Bundle.ownAtoms])
  obtain ⟨vm₁, cX, kX, hfX, hkX, -, -, X₁, st1⟩ := Y.newCold hexec (own := own) (C := cls) (index := ik) (n := 6) hown' hk' hins hini'
    (g := F0 m pc ls rest) rfl (by rw [hb]; exact d0) (Nat.le_refl _) (Nat.le_refl _)
  generalize hT1 : (T.setVm vm₁).pushCell { cls := cX, slots := kX.instanceTypes.map defaultValue, vm := .none } = T1 at X₁ st1
  have hcat : (Value.ref T.heap.size).category = 1 := rfl
  have hcellA : T1.heap[T.heap.size]? = some (freshCell cX kX) := by rw [← hT1]; exact State.heap_pushCell_size _ _
  have d3' : decode c.code (pc + 3) = .ok (.dup, 1) := by rw [hb]; exact d3
  have d4' : decode c.code (pc + 4) = .ok (.ldc_w is, 3) := by rw [hb]; exact d4
  have hstr' : vk_R own is text sa s' := vk_R.warm hW0 hstr
  obtain ⟨U, hsteps, hrun, hend, hW, hsame, ce, hce, hO⟩ := X₁.ctorThrowS hexec htr (own := own) (cls := cls) (names := names) (ic := ic) hown' hcls hnames h (fun x hx => nomatch hx) hfX hkX hcellA (by rw [hhp, hT]; exact Nat.le_refl _) (msg := .ref sa) rfl
    (g := { method := m, pc := pc + 7, locals := ls, stack := .ref sa :: .ref T.heap.size :: .ref T.heap.size :: rest, locked := none }) rfl hsize rfl rfl (rest := rest) rfl
    (by rw [hb]; exact d7) (by rw [hb]; exact d10) hout hRframes (by simp only [List.map_cons, List.sum_cons, hcat]; omega) hlocks
  obtain ⟨f1, f2⟩ := vx_frame hsame
  rw [hhp] at f1 f2
  have hWs : s.WarmedH U.vm := State.WarmedH.trans hW0 hW
  have hcl : s.vm.findClass cls = some ce.cls := by
    have h9 := hO.cls
    rw [hvm] at h9
    exact h9
  have hall : s.sameButNew ({ U with vm := s.vm } : State) locs mc ms := by
    subst hA
    obtain ⟨e1, e2⟩ := hsame
    rw [State.setFrames_setFrames] at e1
    have h2 : (T.setVm s.vm).sameButNew ({ U with vm := s.vm } : State) [] (0 + 1) (0 + 6) := ⟨e1, e2⟩
    have h3 := X.same.trans h2
    rw [List.append_nil] at h3
    exact h3.mono hc hs
  refine ⟨U, ?_, .threw T.heap.size, hrun, hend, Or.inr ⟨T.heap.size, rfl, cls, ce, locs, hx U hWs.alike f1 (fun q hq => f2 q hq (fun z hz => nomatch hz)), hce, hO.vm, hcl, hWs, hall, hf⟩⟩
  refine st1 _ ?_
  show Steps p.tables e below (T1.setTop { method := m, pc := pc + 3, locals := ls, stack := .ref T.heap.size :: rest, locked := none }) _
  jvm_step X₁.here [X₁.here.top, hexec, d3', Value.category]
  exact X₁.ldcStringW hexec (own := own) (text := text) (index := is) (a := sa) hown' hstr'.1 hstr'.2
    (g := { method := m, pc := pc + 4, locals := ls, stack := .ref T.heap.size :: .ref T.heap.size :: rest, locked := none }) rfl d4' _ hsteps
end Ends
section Bodies
variable {l : Launch}
theorem vx_ofW {y : MethodName} {ws ws' : List Cond} {rm : Room} {Pc : Array Value → State → Prop} {Qc : Array Value → State → Outcome → State → Prop} {XC : String → State → State → Prop} {mc ms : Nat} {free : Addr → Prop} {cc : ByteArray} {maxL : Nat} {ret : Option FieldType}
    (hy : plainName y.cls = true) (hw : ws = Cond.code y cc maxL ret :: ws')
    (body : ∀ p e s m args below meth c s₁, BodyLoose p l y (headSpec ws rm) cc maxL ret e s m args below meth c s₁ → c.maxLocals = maxL → (∀ x ∈ c.exceptionTable.toList, False) → Pc args s →
      W p l e (headSpec ws rm).room s m args below meth c s.heap [] 0 0 (vx_MQ below Qc XC args s mc ms free) (entryFrame m args maxL)) : vx_Met l y ws rm Pc Qc XC mc ms free := by
  refine MetFree.of_bodyS (code := cc) (maxLocals := maxL) (ret := ret) hy ?_ ?_
  · intro args s m h hn
    obtain ⟨meth, c, h1, h2, h3, h4, h5, h6, -, -⟩ := Cond.code_spec hn (atoms_spec (ws := ws) h _ (by rw [hw]; exact List.mem_cons_self))
    exact ⟨meth, c, h1, h2, h3, h4, h5, h6⟩
  · intro p e s m args below meth c s₁ B hml hP _
    have hh0 : s₁.heap = s.heap := by rw [B.state]; rfl
    have ht : ∀ x ∈ c.exceptionTable.toList, False := by
      obtain ⟨meth9, c9, h1, h2, -, -, -, -, h7, -⟩ := Cond.code_spec B.named (atoms_spec (ws := ws) B.pre _ (by rw [hw]; exact List.mem_cons_self))
      cases Option.some.inj (h1.symm.trans B.method)
      cases Option.some.inj (h2.symm.trans (Stand.of_body B).code)
      intro x hx
      rw [Array.isEmpty_iff.mp h7] at hx
      cases hx
    obtain ⟨t, a1, o, b1, b2, b3⟩ := body p e s m args below meth c s₁ B hml ht hP s₁ hh0 (Stand.of_body B)
    exact ⟨t, o, a1, b1, b2, b3⟩
/-- the table of a body with handlers -/
theorem vx_table {p : Program} {x y : MethodName} {S : Spec} {cc bytes : ByteArray} {maxL maxL' : Nat} {ret ret' : Option FieldType} {e : Env} {s s₁ : State} {m : MethodId} {args : Array Value} {below : List Frame} {meth : Method} {c : Code} {hh : List (Nat × Nat × Nat × Nat)}
    (B : BodyLoose p l y S cc maxL ret e s m args below meth c s₁) (h : (Cond.codeWith y bytes maxL' ret' hh).before args s = true) : c.exceptionTable.toList = tableOf hh := by
  obtain ⟨m9, meth9, c9, hn9, h1, h2, -, -, h6, -⟩ := Cond.codeWith_spec h
  cases Option.some.inj (hn9.symm.trans B.named)
  cases Option.some.inj (h1.symm.trans B.method)
  cases Option.some.inj (h2.symm.trans (Stand.of_body B).code)
  rw [← h6, table_eq]
end Bodies
end VXA
/-! ===== END ===== -/
/-! ===== BEGIN a static call of a method with an exception table ===== -/
section VXS
variable {p : Program} {l : Launch} {e : Env} {R : Room} {s : State} {m : MethodId} {args : Array Value} {below : List Frame} {meth : Method} {c : Code} {T : State} {H : Heap} {locs : List Loc} {cells slots : Nat}
abbrev vx_CSW (R : Room) (s : State) (args : Array Value) (own : String) (index : Nat) (y : MethodName) (bytes : ByteArray) (maxL : Nat) (ret : Option FieldType) (hh : List (Nat × Nat × Nat × Nat)) (ws : List Cond) (rm : Room) (mc ms n : Nat) : Prop :=
  (rm.cells = mc ∧ rm.slots = ms ∧ rm.frames + 1 ≤ R.frames ∧ 8 + (maxL + 11) + rm.locals ≤ R.locals ∧ (∀ w ∈ ws, ∀ (a' : Array Value) (U : State), s.WarmedH U.vm → w.before a' U = true) ∧ Cond.codeWith y bytes maxL ret hh ∈ ws) ∧
  (Cond.codeWith y bytes maxL ret hh).before args s = true ∧ (Cond.initialized y.cls).before args s = true ∧ (y.cls ≠ "java/lang/invoke/MethodHandle" ∧ y.cls ≠ "java/lang/invoke/VarHandle") ∧
  (∀ sig, parseMethodDescriptor y.desc = some sig → n = sig.parameters.length) ∧ (Cond.methodLink own index y).before args s = true ∧ (Cond.static y).before args s = true
theorem vx_cwSW {own : String} {index maxL mc ms : Nat} {y : MethodName} {bytes : ByteArray} {ret : Option FieldType} {hh : List (Nat × Nat × Nat × Nat)} {Ts ws ws' : List Cond} {rm : Room} (n : Nat) (ht : ∀ w ∈ Ts, w.before args s = true) (hT : GoodIn Ts (va_wsS own index y ws)) (hw : ws = Cond.codeWith y bytes maxL ret hh :: ws') (hrc : rm.cells = mc) (hrs : rm.slots = ms)
    (hd : y.cls ≠ "java/lang/invoke/MethodHandle" ∧ y.cls ≠ "java/lang/invoke/VarHandle" ∧ (parseMethodDescriptor y.desc).map (fun d => d.parameters.length) = some n) (hR : rm.frames + 1 ≤ R.frames ∧ 8 + (maxL + 11) + rm.locals ≤ R.locals) :
    vx_CSW R s args own index y bytes maxL ret hh ws rm mc ms n := by
  have ok : ∀ w ∈ va_wsS own index y ws, w.before args s = true := fun w h => ht w (hT w h).1
  have hG : GoodIn Ts ws := fun w h => hT w (by unfold va_wsS; exact List.mem_append_right _ h)
  have hc : Cond.codeWith y bytes maxL ret hh ∈ ws := by rw [hw]; exact List.mem_cons_self
  refine ⟨⟨hrc, hrs, hR.1, hR.2, pay_in ht hG, hc⟩, ht _ (hG _ hc).1, ok _ (by simp [va_wsS]), ⟨hd.1, hd.2.1⟩, fun sig h => ?_, ok _ (by simp [va_wsS]), ok _ (by simp [va_wsS])⟩
  have h2 := hd.2.2
  rw [h] at h2
  exact (Option.some.inj h2).symm
theorem vx_callSW (X : Stand p l e R s m args below meth c T locs cells slots) (hexec : p.tables.exec = Jvm.exec) {own : String} {index : Nat} {y : MethodName} {bytes : ByteArray} {maxL : Nat} {ret : Option FieldType} {hh : List (Nat × Nat × Nat × Nat)}
    (hown : s.vm.findClass own = some m.cls) (hlink : (Cond.methodLink own index y).before args s = true) (hstat : (Cond.static y).before args s = true) (hinit : (Cond.initialized y.cls).before args s = true)
    (hcode : (Cond.codeWith y bytes maxL ret hh).before args s = true) (hy : y.cls ≠ "java/lang/invoke/MethodHandle" ∧ y.cls ≠ "java/lang/invoke/VarHandle")
    {W9 : Nat} {Pre : Pt → Array Value → Prop} {Post : Pt → Array Value → Option Value → Pt → Prop} (hK : Back l R p e below s args y 3 W9 Pre Post)
    {g : JFrame} (hg : g.method = m) (hsize : g.locals.size = c.maxLocals) {argsL rest : List Value} (hlen : ∀ sig, parseMethodDescriptor y.desc = some sig → argsL.length = sig.parameters.length)
    (hstack : g.stack = argsL.reverse ++ rest) (hW : 2 * g.monitorRoom + (rest.map fun v => v.category).sum ≤ W9) (hdg : decode c.code g.pc = .ok (.invokestatic index, 3))
    (hpre : ∀ vm₁, s.WarmedH vm₁ → Pre ⟨T.setVm vm₁, locs, cells, slots⟩ argsL.toArray) :
    ∃ (v : Option Value) (vm₁ : Vm) (B : Pt), s.WarmedH vm₁ ∧ Stand p l e R s m args below meth c B.U B.locs B.cells B.slots ∧ Post ⟨T.setVm vm₁, locs, cells, slots⟩ argsL.toArray v B ∧
      ∀ target, Steps p.tables e below (B.U.setTop { g with pc := g.pc + 3, stack := v.toList ++ rest }) target → Steps p.tables e below (T.setTop g) target := by
  obtain ⟨mk, methM, cM, hnamed, hmethM, -, -, -, -, -, -, hsigM⟩ := Cond.codeWith_spec hcode
  have hstatic : methM.isStatic = true := Cond.static_spec hnamed hmethM hstat
  obtain ⟨kP, hkP, -⟩ := className_of_methodNamed hnamed
  have hinitP : kP.init = .initialized := Cond.initialized_spec (findClass_of_methodNamed hnamed) hkP hinit
  obtain ⟨vm₁, X₁, hstep₁⟩ := X.invokestatic hexec hown hlink hnamed hmethM hstatic hkP hinitP hy (g := g) hg (argsL := argsL) (rest := rest) (hlen _ hsigM) hstack hdg
  obtain ⟨v, B, X', hpost, hsteps⟩ := hK m meth c ⟨T.setVm vm₁, locs, cells, slots⟩ { g with stack := rest } (.invokestatic index) mk argsL.toArray X₁ hg hsize hdg hW (X₁.named hnamed) (hpre vm₁ X₁.warmed)
  exact ⟨v, vm₁, B, X₁.warmed, X', hpost, fun target h => hstep₁ _ fun acts => by rw [doInvoke_state]; exact hsteps.trans h⟩
theorem vx_runSW {y : MethodName} {bytes cc : ByteArray} {maxL nL mc ms n index : Nat} {ret : Option FieldType} {hh : List (Nat × Nat × Nat × Nat)} {ws : List Cond} {rm : Room} {Pc : Array Value → State → Prop} {Qc : Array Value → State → Outcome → State → Prop} {free : Addr → Prop} {Ts : List Cond} {own : String} {As rest : List Value} {g : JFrame}
    (S : CallFix p m c cc nL s args Ts own) (hM : Met l y ws rm Pc Qc mc ms free) (cw : vx_CSW R s args own index y bytes maxL ret hh ws rm mc ms n) (hp : PreS s H Pc As)
    (hg : g.method = m) (hn : As.length = n) (hsize : g.locals.size = nL) (hstack : g.stack = As.reverse ++ rest) (hW : 2 * g.monitorRoom + (rest.map fun v => v.category).sum ≤ 8) (hdg : decode cc g.pc = .ok (.invokestatic index, 3)) (hf : cells + mc ≤ R.cells ∧ slots + ms ≤ R.slots) :
    va_Run p l e R s m args below meth c H locs cells slots mc ms g rest (Qc As.toArray) (free) := by
  obtain ⟨⟨hrc, hrs, hfr, hlo, hws, hcw⟩, hcode, hini, hy, hlen, hl, hstt⟩ := cw
  have hK : Back l R p e below s args y 3 8 (PreOf R mc ms Pc) (PostOf Qc mc ms free) := va_backW (hh := hh) (bytes := bytes) (maxL := maxL) (ret := ret) hM hp.1 hrc hrs hfr hlo hws hcw (fun a' U hW => word_at hW (Or.inl (by first | rfl | simp [Cond.onTables, Cond.keeps, Cond.steady])) hini)
  obtain ⟨hx, hb, hml, ho, -⟩ := S
  intro T hT X
  obtain ⟨v, vm₁, ⟨U', l2, c2, s2⟩, hW₁, X', ⟨g', mk, t, L, e1, e2, hq, h1, hL, h2, h3⟩, st⟩ := vx_callSW X hx (hh := hh) (bytes := bytes) (maxL := maxL) (ret := ret) ho hl hstt hini hcode hy hK hg (hsize.trans hml.symm) (argsL := As) (rest := rest) (fun sig h => hn.trans (hlen sig h)) hstack hW (by rw [hb]; exact hdg)
    (fun vm₁ hW₁ => ⟨hf.1, hf.2, hp.2 (T.setVm vm₁) hT hW₁⟩)
  dsimp only [Pt.U, Pt.locs, Pt.cells, Pt.slots] at X' e1 e2 h1 h2 h3 st
  subst h1; subst h2; subst h3
  exact ⟨v, (T.setVm vm₁).calling g' mk As.toArray, t, U', L, hT, X', hL, e1, e2, hq, st⟩
/-- not caught here, past rows that name other classes: it goes on to the caller -/
theorem vx_outP {p : Program} {l : Launch} {e : Env} {R : Room} {s : State} {m : MethodId} {args : Array Value} {below : List Frame} {meth : Method} {c : Code} {H : Heap} {locs : List Loc} {cells slots : Nat} {free : Addr → Prop} {ls : Array Slot} {rest : List Value} {Qc : Array Value → State → Outcome → State → Prop} {XC : String → State → State → Prop}
    {pc : Nat} {own E : String} {ce : Cell} {q : Addr} {mc ms : Nat} (hown : s.vm.findClass own = some m.cls) (hlocks : meth.locks = false)
    (hpass : ∀ z ∈ c.exceptionTable.toList, covers z pc = false ∨ (z.catchType ≠ 0 ∧ ∃ nm : String, (Cond.classLink own z.catchType nm).before args s = true ∧ va_Nc E nm s)) (hcell : H[q]? = some ce) (hv : ce.vm = .none) (hcl : s.vm.findClass E = some ce.cls)
    (hx : ∀ t : State, t.heap = H → s.vm.Alike t.vm → XC E s t) (hf : ∀ z ∈ locs, free z.base) (hc : cells ≤ mc) (hs : slots ≤ ms) :
    vx_W p l e R s m args below meth c H locs cells slots (vx_MQ below Qc XC args s mc ms free) (F0 m pc ls rest) q := by
  intro T hT X
  have hpl : e.platform.magicAccessors = ({} : Platform).magicAccessors := by rw [X.admits.platform]
  obtain ⟨vm', hW', X', st⟩ := X.outThrough hlocks q (g := F0 m pc ls rest) rfl rfl rfl (cell := ce) (by rw [hT]; exact hcell) (by rw [hv]; rfl)
    (by obtain ⟨k9, h9, -⟩ := Vm.findClass_spec hcl; exact ⟨k9, h9⟩) (fun z hz => by
      rcases hpass z hz with h | ⟨hz0, nm, hl1, hn1⟩
      · exact Or.inl h
      · obtain ⟨c6, hc6, hcl6⟩ := Cond.classLink_spec hown hl1 e.platform hpl
        obtain ⟨a8, b8, h1, h2, h3⟩ := hn1
        cases Option.some.inj (h1.symm.trans hcl)
        cases Option.some.inj (h2.symm.trans hc6)
        exact Or.inr ⟨hz0, _, hcl6, h3⟩)
  obtain ⟨g₀, hfr⟩ := X'.frames_eq
  have hcell9 : ((T.setVm vm').setFrames (.throwing q :: below)).heap[q]? = some ce := by
    show T.heap[q]? = some ce
    rw [hT]; exact hcell
  have hend : Ended ((T.setVm vm').setFrames (.throwing q :: below)) below (.threw q) := State.frames_setFrames _ (State.cur_lt_of_frames hfr)
  refine ⟨(T.setVm vm').setFrames (.throwing q :: below), ?_, .threw q, X'.here.running, hend, Or.inr ⟨q, rfl, E, ce, locs, hx _ hT (X'.ends _).1.alike, hcell9, hv, hcl, (X'.ends _).1, (X'.ends _).2.mono hc hs, hf⟩⟩
  rw [X.pushThrowing_eq]
  exact st
/-- a thing of a world lies in the heap -/
theorem vx_lt {D : va_G} {cl : List vw_C} {ws : va_W} {H1 : Heap} (h : va_P D cl ws H1) {k : Nat} {q : Nat × va_E} (hk : ws[k]? = some q) : q.1 < H1.size := (h k q hk).lt
end VXS
/-! ===== END ===== -/
/-! ===== BEGIN methods with a table of their own: called by a name, returning or throwing ===== -/
section VXH
/-! vx_backW, vx_callVX, vx_callSX, vx_callVW, vx_runVW, vx_runVX, vx_runSX, vx_ofWH follow the same proofs as their sisters above (Free/Laws.lean, Shelf42/LK1.lean); vx_outP calls Shelf42/NT130.lean (outThrough). -/
section
variable {l : Launch} {R : Room} {p : Program} {e : Env} {below : List Frame} {s : State} {sargs : Array Value} {y : MethodName} {len W9 : Nat}
theorem vx_backW {ws : List Cond} {rm : Room} {Pc : Array Value → State → Prop} {Qc : Array Value → State → Outcome → State → Prop} {XC : String → State → State → Prop} {mc ms : Nat} {free : Addr → Prop} {bytes : ByteArray} {maxL : Nat} {ret : Option FieldType} {hh : List (Nat × Nat × Nat × Nat)}
    (hM : vx_Met l y ws rm Pc Qc XC mc ms free) (hblind : FrameBlind Pc) (hrc : rm.cells = mc) (hrs : rm.slots = ms)
    (hframes : rm.frames + 1 ≤ R.frames) (hlocals : W9 + (maxL + 11) + rm.locals ≤ R.locals)
    (hws : ∀ w ∈ ws, ∀ a' U, s.WarmedH U.vm → w.before a' U = true) (hcode : Cond.codeWith y bytes maxL ret hh ∈ ws) (hinit : ∀ a' U, s.WarmedH U.vm → (Cond.initialized y.cls).before a' U = true) :
    vx_Back l R p e below s sargs y len W9 (PreOf R mc ms Pc) (PostOf Qc mc ms free) (vx_Post XC mc ms free) := by
  intro m meth c A g ig mk a X hg hsize hdg hW hn hp
  have h1 : (headSpec ws rm).pre.before a A.U = true := atoms_intro fun w hw => hws w hw _ _ X.warmed
  have h2 : (Cond.codeWith y bytes maxL ret hh).before a A.U = true := hws _ hcode _ _ X.warmed
  have h3 : (Cond.initialized y.cls).before a A.U = true := hinit _ _ X.warmed
  have h4 : A.cells + (headSpec ws rm).room.cells ≤ R.cells := by rw [show (headSpec ws rm).room.cells = mc from hrc]; exact hp.1
  have h5 : A.slots + (headSpec ws rm).room.slots ≤ R.slots := by rw [show (headSpec ws rm).room.slots = ms from hrs]; exact hp.2.1
  have hPc : Pc a (A.U.calling g mk a) := hblind _ _ _ _ hp.2.2
  obtain ⟨U, Ls, c0, s0⟩ := A
  dsimp only [Pt.U, Pt.locs, Pt.cells, Pt.slots] at h1 h2 h3 h4 h5 X hn hPc ⊢
  obtain ⟨m9, methY, cY, hn9, hmY, hcY, -, hlY, -⟩ := Cond.codeWith_spec h2
  cases Option.some.inj (hn9.symm.trans hn)
  obtain ⟨kY, hkY, -⟩ := className_of_methodNamed hn
  have hinitY : kY.init = .initialized := Cond.initialized_spec (findClass_of_methodNamed hn) hkY h3
  have h : At U g.method c below := by rw [hg]; exact X.here
  have hlocals9 : W9 + (maxL + 11) + (headSpec ws rm).room.locals ≤ R.locals := hlocals
  have happ : (headSpec ws rm).appliesLoose y e.platform (U.calling g mk a) = true :=
    Spec.appliesLoose_calling (g := g) h hdg hn hkY hinitY
      (X.room_calling (g := g) (R' := (headSpec ws rm).room) hsize hmY hcY hframes (by rw [hlY]; omega) h4 h5) h1
  obtain ⟨mid, hmid⟩ := h.above
  have hfr : (U.setTop g).frames = (.java g :: mid) ++ below := by rw [State.frames_setTop' g h.top, hmid]; rfl
  obtain ⟨o, s₂, hsteps, -, hend, hq⟩ := Steps.callFree hM p X.admits X.cas X.clock (acts := []) hfr happ hPc trivial
  have hq' : vx_Q Qc XC mc ms free a (U.calling g mk a) o s₂ := hq
  rw [State.frames_setTop' g h.top] at hend
  obtain ⟨g₀, hg0⟩ := Option.isSome_iff_exists.mp h.top
  obtain ⟨r, hr⟩ := State.topJava?_eq_some.mp hg0
  have hr' : (({ U with heap := s₂.heap, slotsUsed := s₂.slotsUsed } : State).setVm s₂.vm).frames = .java g₀ :: r := hr
  rcases hq' with ⟨hqc, L, hfe, hL⟩ | ⟨q, rfl, E, ce, L, hx, hce, hcv, hcl, hW₂, hsm, hL⟩
  · obtain ⟨⟨v, rfl⟩, hW₂, e2, q2, q3, q4, q5, q6⟩ := id hfe
    have e3 : s₂ = ({ (U.calling g mk a).setFrames s₂.frames with heap := s₂.heap, slotsUsed := s₂.slotsUsed } : State).setVm s₂.vm := by
      have : s₂ = ({ s₂ with vm := (U.calling g mk a).vm } : State).setVm s₂.vm := rfl
      rw [e2] at this
      exact this
    obtain ⟨c₂, i₂, len₂, hc₂, hd₂, hf₂⟩ := hend
    have hW' : U.WarmedH s₂.vm := hW₂
    have hcc : c₂ = c := by
      have h1 : s₂.code? g.method = U.code? g.method := by
        rw [State.code?_eq, State.code?_eq, hW'.alike.method?]
      exact Option.some.inj (hc₂.symm.trans (h1.trans h.code))
    subst hcc
    have hlen : len₂ = len := by rw [hdg] at hd₂; cases hd₂; rfl
    subst hlen
    have hs₂ : s₂ = (({ U with heap := s₂.heap, slotsUsed := s₂.slotsUsed } : State).setVm s₂.vm).setTop { g with pc := g.pc + len₂, stack := v.toList ++ g.stack } := by
      refine e3.trans ?_
      rw [hf₂, State.calling_eq h.top, State.setFrames_setFrames, State.setTop_of_frames _ hr', hr]
      rfl
    have hsame : U.sameButNew ({ U with heap := s₂.heap, slotsUsed := s₂.slotsUsed } : State) L mc ms := by
      refine ⟨?_, q2, q3, q4, q5, q6⟩
      obtain ⟨t, ht, -⟩ := State.frames_cons hr
      show ({ U with heap := s₂.heap, slotsUsed := s₂.slotsUsed } : State) = { U.setFrames U.frames with heap := s₂.heap, slotsUsed := s₂.slotsUsed }
      rw [State.setFrames_self ht]
    subst hg
    refine Or.inl ⟨v, ⟨(({ U with heap := s₂.heap, slotsUsed := s₂.slotsUsed } : State).setVm s₂.vm), Ls ++ L, c0 + mc, s0 + ms⟩,
      ⟨X.admits, X.cas, X.clock, X.frames, X.room, X.hears, X.method, X.code, (X.here.setHeapUsed s₂.heap s₂.slotsUsed).setVm hW'.alike, X.tail, State.WarmedH.trans X.warmed hW', X.limits, X.bytes, X.same.trans (hsame.setVm s.vm)⟩,
      ⟨g, mk, s₂, L, rfl, rfl, hqc, rfl, hL, rfl, rfl⟩, ?_⟩
    show Steps p.tables e below _ ((({ U with heap := s₂.heap, slotsUsed := s₂.slotsUsed } : State).setVm s₂.vm).setTop { g with pc := g.pc + len₂, stack := v.toList ++ g.stack })
    rw [← hs₂]
    exact hsteps
  · obtain ⟨e2, q2, q3, q4, q5, q6⟩ := id hsm
    have e3 : s₂ = ({ (U.calling g mk a).setFrames s₂.frames with heap := s₂.heap, slotsUsed := s₂.slotsUsed } : State).setVm s₂.vm := by
      have : s₂ = ({ s₂ with vm := (U.calling g mk a).vm } : State).setVm s₂.vm := rfl
      rw [e2] at this
      exact this
    have hf₂ : s₂.frames = .throwing q :: .java g :: U.frames.tail := hend
    have hW' : U.WarmedH s₂.vm := hW₂
    have hs₂ : s₂ = ((({ U with heap := s₂.heap, slotsUsed := s₂.slotsUsed } : State).setVm s₂.vm).setTop g).pushFrame (.throwing q) := by
      refine e3.trans ?_
      rw [hf₂, State.calling_eq h.top, State.setFrames_setFrames, State.pushFrame, State.frames_setTop _ hr', State.setTop_of_frames _ hr', State.setFrames_setFrames, hr]
      rfl
    have hsame : U.sameButNew ({ U with heap := s₂.heap, slotsUsed := s₂.slotsUsed } : State) L mc ms := by
      refine ⟨?_, q2, q3, q4, q5, q6⟩
      obtain ⟨t, ht, -⟩ := State.frames_cons hr
      show ({ U with heap := s₂.heap, slotsUsed := s₂.slotsUsed } : State) = { U.setFrames U.frames with heap := s₂.heap, slotsUsed := s₂.slotsUsed }
      rw [State.setFrames_self ht]
    subst hg
    refine Or.inr ⟨q, ⟨(({ U with heap := s₂.heap, slotsUsed := s₂.slotsUsed } : State).setVm s₂.vm), Ls ++ L, c0 + mc, s0 + ms⟩,
      ⟨X.admits, X.cas, X.clock, X.frames, X.room, X.hears, X.method, X.code, (X.here.setHeapUsed s₂.heap s₂.slotsUsed).setVm hW'.alike, X.tail, State.WarmedH.trans X.warmed hW', X.limits, X.bytes, X.same.trans (hsame.setVm s.vm)⟩,
      ⟨g, mk, s₂, L, E, ce, rfl, rfl, hx, hce, hcv, hcl, rfl, hL, rfl, rfl⟩, ?_⟩
    show Steps p.tables e below _ (((({ U with heap := s₂.heap, slotsUsed := s₂.slotsUsed } : State).setVm s₂.vm).setTop g).pushFrame (.throwing q))
    rw [← hs₂]
    exact hsteps
end
variable {p : Program} {l : Launch} {e : Env} {R : Room} {s : State} {m : MethodId} {args : Array Value} {below : List Frame} {meth : Method} {c : Code} {T : State} {H : Heap} {locs : List Loc} {cells slots : Nat}
theorem vx_callVX (X : Stand p l e R s m args below meth c T locs cells slots) (hexec : p.tables.exec = Jvm.exec) {own C : String} {index : Nat} {y : MethodName} {bytes : ByteArray} {maxL : Nat} {ret : Option FieldType} {hh : List (Nat × Nat × Nat × Nat)}
    (hown : s.vm.findClass own = some m.cls) (hlink : (Cond.methodLink own index y).before args s = true) (hinst : (Cond.instanceMethod y).before args s = true) (hsel : (Cond.selects C y y).before args s = true)
    (hcode : (Cond.codeWith y bytes maxL ret hh).before args s = true) (hy : y.cls ≠ "java/lang/invoke/MethodHandle" ∧ y.cls ≠ "java/lang/invoke/VarHandle")
    {W9 : Nat} {Pre : Pt → Array Value → Prop} {Post : Pt → Array Value → Option Value → Pt → Prop} {PostX : Pt → Array Value → Addr → Pt → Prop} (hK : vx_Back l R p e below s args y 3 W9 Pre Post PostX)
    {b : Addr} {cellB : Cell} (hcell : T.heap[b]? = some cellB) (hobj : cellB.vm.isStatics = false) (hcls : s.vm.findClass C = some cellB.cls)
    {g : JFrame} (hg : g.method = m) (hsize : g.locals.size = c.maxLocals) {argsL rest : List Value} (hlen : ∀ sig, parseMethodDescriptor y.desc = some sig → argsL.length = sig.parameters.length)
    (hstack : g.stack = argsL.reverse ++ .ref b :: rest) (hW : 2 * g.monitorRoom + (rest.map fun v => v.category).sum ≤ W9) (hdg : decode c.code g.pc = .ok (.invokevirtual index, 3))
    (hpre : ∀ vm₁, s.WarmedH vm₁ → Pre ⟨T.setVm vm₁, locs, cells, slots⟩ (Value.ref b :: argsL).toArray) :
    (∃ (v : Option Value) (vm₁ : Vm) (B : Pt), s.WarmedH vm₁ ∧ Stand p l e R s m args below meth c B.U B.locs B.cells B.slots ∧ Post ⟨T.setVm vm₁, locs, cells, slots⟩ (Value.ref b :: argsL).toArray v B ∧
      ∀ target, Steps p.tables e below (B.U.setTop { g with pc := g.pc + 3, stack := v.toList ++ rest }) target → Steps p.tables e below (T.setTop g) target) ∨
    (∃ (q : Addr) (vm₁ : Vm) (B : Pt), s.WarmedH vm₁ ∧ Stand p l e R s m args below meth c B.U B.locs B.cells B.slots ∧ PostX ⟨T.setVm vm₁, locs, cells, slots⟩ (Value.ref b :: argsL).toArray q B ∧
      Steps p.tables e below (T.setTop g) ((B.U.setTop { g with stack := rest }).pushFrame (.throwing q))) := by
  obtain ⟨mk, methM, hnamed, hmethM, hstM, habM⟩ := Cond.instanceMethod_spec hinst
  obtain ⟨m8, methM', cM, hn8, hmethM', -, -, -, -, -, -, hsigM⟩ := Cond.codeWith_spec hcode
  cases Option.some.inj (hn8.symm.trans hnamed)
  cases hmethM.symm.trans hmethM'
  obtain ⟨c2, r2, m2, q1, q2, q3, q4, kP, hkP, hkPi⟩ := Cond.selects_spec hsel
  cases hcls.symm.trans q1
  cases (State.methodFound?_of_named hnamed hy).symm.trans q2
  cases hnamed.symm.trans q3
  have hselP : selectMethod e.platform s.vm cellB.cls mk = .method mk := by rw [Launch.admits_selectMethod X.admits]; exact q4
  obtain ⟨vm₁, X₁, hstep₁⟩ := X.invokevirtual hexec hown hlink hnamed hmethM hstM hkP hkPi hy (a := b) (cell := cellB) hcell
    (fun z h => by rw [h] at hobj; cases hobj) hselP hmethM habM hkP hkPi (g := g) hg (argsL := argsL) (rest := rest) (hlen _ hsigM) hstack hdg
  rcases hK m meth c ⟨T.setVm vm₁, locs, cells, slots⟩ { g with stack := rest } (.invokevirtual index) mk (Value.ref b :: argsL).toArray X₁ hg hsize hdg hW (X₁.named hnamed) (hpre vm₁ X₁.warmed) with ⟨v, B, X', hpost, hsteps⟩ | ⟨q, B, X', hpost, hsteps⟩
  · exact Or.inl ⟨v, vm₁, B, X₁.warmed, X', hpost, fun target h => hstep₁ _ fun acts => by rw [doInvoke_state]; exact hsteps.trans h⟩
  · exact Or.inr ⟨q, vm₁, B, X₁.warmed, X', hpost, hstep₁ _ fun acts => by rw [doInvoke_state]; exact hsteps⟩
theorem vx_callSX (X : Stand p l e R s m args below meth c T locs cells slots) (hexec : p.tables.exec = Jvm.exec) {own : String} {index : Nat} {y : MethodName} {bytes : ByteArray} {maxL : Nat} {ret : Option FieldType} {hh : List (Nat × Nat × Nat × Nat)}
    (hown : s.vm.findClass own = some m.cls) (hlink : (Cond.methodLink own index y).before args s = true) (hstat : (Cond.static y).before args s = true) (hinit : (Cond.initialized y.cls).before args s = true)
    (hcode : (Cond.codeWith y bytes maxL ret hh).before args s = true) (hy : y.cls ≠ "java/lang/invoke/MethodHandle" ∧ y.cls ≠ "java/lang/invoke/VarHandle")
    {W9 : Nat} {Pre : Pt → Array Value → Prop} {Post : Pt → Array Value → Option Value → Pt → Prop} {PostX : Pt → Array Value → Addr → Pt → Prop} (hK : vx_Back l R p e below s args y 3 W9 Pre Post PostX)
    {g : JFrame} (hg : g.method = m) (hsize : g.locals.size = c.maxLocals) {argsL rest : List Value} (hlen : ∀ sig, parseMethodDescriptor y.desc = some sig → argsL.length = sig.parameters.length)
    (hstack : g.stack = argsL.reverse ++ rest) (hW : 2 * g.monitorRoom + (rest.map fun v => v.category).sum ≤ W9) (hdg : decode c.code g.pc = .ok (.invokestatic index, 3))
    (hpre : ∀ vm₁, s.WarmedH vm₁ → Pre ⟨T.setVm vm₁, locs, cells, slots⟩ argsL.toArray) :
    (∃ (v : Option Value) (vm₁ : Vm) (B : Pt), s.WarmedH vm₁ ∧ Stand p l e R s m args below meth c B.U B.locs B.cells B.slots ∧ Post ⟨T.setVm vm₁, locs, cells, slots⟩ argsL.toArray v B ∧
      ∀ target, Steps p.tables e below (B.U.setTop { g with pc := g.pc + 3, stack := v.toList ++ rest }) target → Steps p.tables e below (T.setTop g) target) ∨
    (∃ (q : Addr) (vm₁ : Vm) (B : Pt), s.WarmedH vm₁ ∧ Stand p l e R s m args below meth c B.U B.locs B.cells B.slots ∧ PostX ⟨T.setVm vm₁, locs, cells, slots⟩ argsL.toArray q B ∧
      Steps p.tables e below (T.setTop g) ((B.U.setTop { g with stack := rest }).pushFrame (.throwing q))) := by
  obtain ⟨mk, methM, cM, hnamed, hmethM, -, -, -, -, -, -, hsigM⟩ := Cond.codeWith_spec hcode
  have hstatic : methM.isStatic = true := Cond.static_spec hnamed hmethM hstat
  obtain ⟨kP, hkP, -⟩ := className_of_methodNamed hnamed
  have hinitP : kP.init = .initialized := Cond.initialized_spec (findClass_of_methodNamed hnamed) hkP hinit
  obtain ⟨vm₁, X₁, hstep₁⟩ := X.invokestatic hexec hown hlink hnamed hmethM hstatic hkP hinitP hy (g := g) hg (argsL := argsL) (rest := rest) (hlen _ hsigM) hstack hdg
  rcases hK m meth c ⟨T.setVm vm₁, locs, cells, slots⟩ { g with stack := rest } (.invokestatic index) mk argsL.toArray X₁ hg hsize hdg hW (X₁.named hnamed) (hpre vm₁ X₁.warmed) with ⟨v, B, X', hpost, hsteps⟩ | ⟨q, B, X', hpost, hsteps⟩
  · exact Or.inl ⟨v, vm₁, B, X₁.warmed, X', hpost, fun target h => hstep₁ _ fun acts => by rw [doInvoke_state]; exact hsteps.trans h⟩
  · exact Or.inr ⟨q, vm₁, B, X₁.warmed, X', hpost, hstep₁ _ fun acts => by rw [doInvoke_state]; exact hsteps⟩
theorem vx_callVW (X : Stand p l e R s m args below meth c T locs cells slots) (hexec : p.tables.exec = Jvm.exec) {own C : String} {index : Nat} {y : MethodName} {bytes : ByteArray} {maxL : Nat} {ret : Option FieldType} {hh : List (Nat × Nat × Nat × Nat)}
    (hown : s.vm.findClass own = some m.cls) (hlink : (Cond.methodLink own index y).before args s = true) (hinst : (Cond.instanceMethod y).before args s = true) (hsel : (Cond.selects C y y).before args s = true)
    (hcode : (Cond.codeWith y bytes maxL ret hh).before args s = true) (hy : y.cls ≠ "java/lang/invoke/MethodHandle" ∧ y.cls ≠ "java/lang/invoke/VarHandle")
    {W9 : Nat} {Pre : Pt → Array Value → Prop} {Post : Pt → Array Value → Option Value → Pt → Prop} (hK : Back l R p e below s args y 3 W9 Pre Post)
    {b : Addr} {cellB : Cell} (hcell : T.heap[b]? = some cellB) (hobj : cellB.vm.isStatics = false) (hcls : s.vm.findClass C = some cellB.cls)
    {g : JFrame} (hg : g.method = m) (hsize : g.locals.size = c.maxLocals) {argsL rest : List Value} (hlen : ∀ sig, parseMethodDescriptor y.desc = some sig → argsL.length = sig.parameters.length)
    (hstack : g.stack = argsL.reverse ++ .ref b :: rest) (hW : 2 * g.monitorRoom + (rest.map fun v => v.category).sum ≤ W9) (hdg : decode c.code g.pc = .ok (.invokevirtual index, 3))
    (hpre : ∀ vm₁, s.WarmedH vm₁ → Pre ⟨T.setVm vm₁, locs, cells, slots⟩ (Value.ref b :: argsL).toArray) :
    ∃ (v : Option Value) (vm₁ : Vm) (B : Pt), s.WarmedH vm₁ ∧ Stand p l e R s m args below meth c B.U B.locs B.cells B.slots ∧ Post ⟨T.setVm vm₁, locs, cells, slots⟩ (Value.ref b :: argsL).toArray v B ∧
      ∀ target, Steps p.tables e below (B.U.setTop { g with pc := g.pc + 3, stack := v.toList ++ rest }) target → Steps p.tables e below (T.setTop g) target := by
  obtain ⟨mk, methM, hnamed, hmethM, hstM, habM⟩ := Cond.instanceMethod_spec hinst
  obtain ⟨m8, methM', cM, hn8, hmethM', -, -, -, -, -, -, hsigM⟩ := Cond.codeWith_spec hcode
  cases Option.some.inj (hn8.symm.trans hnamed)
  cases hmethM.symm.trans hmethM'
  obtain ⟨c2, r2, m2, q1, q2, q3, q4, kP, hkP, hkPi⟩ := Cond.selects_spec hsel
  cases hcls.symm.trans q1
  cases (State.methodFound?_of_named hnamed hy).symm.trans q2
  cases hnamed.symm.trans q3
  have hselP : selectMethod e.platform s.vm cellB.cls mk = .method mk := by rw [Launch.admits_selectMethod X.admits]; exact q4
  obtain ⟨vm₁, X₁, hstep₁⟩ := X.invokevirtual hexec hown hlink hnamed hmethM hstM hkP hkPi hy (a := b) (cell := cellB) hcell
    (fun z h => by rw [h] at hobj; cases hobj) hselP hmethM habM hkP hkPi (g := g) hg (argsL := argsL) (rest := rest) (hlen _ hsigM) hstack hdg
  obtain ⟨v, B, X', hpost, hsteps⟩ := hK m meth c ⟨T.setVm vm₁, locs, cells, slots⟩ { g with stack := rest } (.invokevirtual index) mk (Value.ref b :: argsL).toArray X₁ hg hsize hdg hW (X₁.named hnamed) (hpre vm₁ X₁.warmed)
  exact ⟨v, vm₁, B, X₁.warmed, X', hpost, fun target h => hstep₁ _ fun acts => by rw [doInvoke_state]; exact hsteps.trans h⟩
abbrev vx_CVW (R : Room) (s : State) (args : Array Value) (own C : String) (index : Nat) (y : MethodName) (bytes : ByteArray) (maxL : Nat) (ret : Option FieldType) (hh : List (Nat × Nat × Nat × Nat)) (ws : List Cond) (rm : Room) (mc ms n : Nat) : Prop :=
  (rm.cells = mc ∧ rm.slots = ms ∧ rm.frames + 1 ≤ R.frames ∧ 8 + (maxL + 11) + rm.locals ≤ R.locals ∧ (∀ w ∈ ws, ∀ (a' : Array Value) (U : State), s.WarmedH U.vm → w.before a' U = true) ∧ Cond.codeWith y bytes maxL ret hh ∈ ws) ∧
  (Cond.codeWith y bytes maxL ret hh).before args s = true ∧ (Cond.initialized y.cls).before args s = true ∧ (y.cls ≠ "java/lang/invoke/MethodHandle" ∧ y.cls ≠ "java/lang/invoke/VarHandle") ∧
  (∀ sig, parseMethodDescriptor y.desc = some sig → n = sig.parameters.length) ∧ (Cond.methodLink own index y).before args s = true ∧ (Cond.instanceMethod y).before args s = true ∧ (Cond.selects C y y).before args s = true
theorem vx_cwVW {own C : String} {index maxL mc ms : Nat} {y : MethodName} {bytes : ByteArray} {ret : Option FieldType} {hh : List (Nat × Nat × Nat × Nat)} {Ts ws ws' : List Cond} {rm : Room} (n : Nat) (ht : ∀ w ∈ Ts, w.before args s = true) (hT : GoodIn Ts (wsV own index C y ws)) (hw : ws = Cond.codeWith y bytes maxL ret hh :: ws') (hrc : rm.cells = mc) (hrs : rm.slots = ms)
    (hd : y.cls = C ∧ y.cls ≠ "java/lang/invoke/MethodHandle" ∧ y.cls ≠ "java/lang/invoke/VarHandle" ∧ (parseMethodDescriptor y.desc).map (fun d => d.parameters.length) = some n) (hR : rm.frames + 1 ≤ R.frames ∧ 8 + (maxL + 11) + rm.locals ≤ R.locals) :
    vx_CVW R s args own C index y bytes maxL ret hh ws rm mc ms n := by
  obtain ⟨hC, hd⟩ := hd
  subst hC
  have ok : ∀ w ∈ wsV own index y.cls y ws, w.before args s = true := fun w h => ht w (hT w h).1
  have hG : GoodIn Ts ws := fun w h => hT w (by unfold wsV; exact List.mem_append_right _ h)
  have hc : Cond.codeWith y bytes maxL ret hh ∈ ws := by rw [hw]; exact List.mem_cons_self
  refine ⟨⟨hrc, hrs, hR.1, hR.2, pay_in ht hG, hc⟩, ht _ (hG _ hc).1, ok _ (by simp [wsV]), ⟨hd.1, hd.2.1⟩, fun sig h => ?_, ok _ (by simp [wsV]), ok _ (by simp [wsV]), ok _ (by simp [wsV])⟩
  have h2 := hd.2.2
  rw [h] at h2
  exact (Option.some.inj h2).symm
theorem vx_runVW {y : MethodName} {bytes cc : ByteArray} {maxL nL mc ms n index : Nat} {ret : Option FieldType} {hh : List (Nat × Nat × Nat × Nat)} {ws : List Cond} {rm : Room} {Pc : Array Value → State → Prop} {Qc : Array Value → State → Outcome → State → Prop} {free : Addr → Prop} {Ts : List Cond} {own C : String} {b : Addr} {As rest : List Value} {g : JFrame}
    (S : CallFix p m c cc nL s args Ts own) (hM : Met l y ws rm Pc Qc mc ms free) (cw : vx_CVW R s args own C index y bytes maxL ret hh ws rm mc ms n) (hp : PreV s H C b Pc As)
    (hg : g.method = m) (hn : As.length = n) (hsize : g.locals.size = nL) (hstack : g.stack = As.reverse ++ .ref b :: rest) (hW : 2 * g.monitorRoom + (rest.map fun v => v.category).sum ≤ 8) (hdg : decode cc g.pc = .ok (.invokevirtual index, 3)) (hf : cells + mc ≤ R.cells ∧ slots + ms ≤ R.slots) :
    va_Run p l e R s m args below meth c H locs cells slots mc ms g rest (Qc (Value.ref b :: As).toArray) free := by
  obtain ⟨⟨hrc, hrs, hfr, hlo, hws, hcw⟩, hcode, hini, hy, hlen, hl, hin, hse⟩ := cw
  have hK : Back l R p e below s args y 3 8 (PreOf R mc ms Pc) (PostOf Qc mc ms free) := va_backW (hh := hh) (bytes := bytes) (maxL := maxL) (ret := ret) hM hp.1 hrc hrs hfr hlo hws hcw (fun a' U hW => word_at hW (Or.inl (by first | rfl | simp [Cond.onTables, Cond.keeps, Cond.steady])) hini)
  obtain ⟨hx, hb, hml, ho, -⟩ := S
  obtain ⟨-, ⟨cellB, hcB, hoB, hclB⟩, hPc⟩ := hp
  intro T hT X
  obtain ⟨v, vm₁, ⟨U', l2, c2, s2⟩, hW₁, X', ⟨g', mk, t, L, e1, e2, hq, h1, hL, h2, h3⟩, st⟩ := vx_callVW X hx (C := C) (hh := hh) (bytes := bytes) (maxL := maxL) (ret := ret) ho hl hin hse hcode hy hK (by rw [hT]; exact hcB) hoB hclB hg (hsize.trans hml.symm) (argsL := As) (rest := rest) (fun sig h => hn.trans (hlen sig h)) hstack hW (by rw [hb]; exact hdg)
    (fun vm₁ hW₁ => ⟨hf.1, hf.2, hPc (T.setVm vm₁) hT hW₁⟩)
  dsimp only [Pt.U, Pt.locs, Pt.cells, Pt.slots] at X' e1 e2 h1 h2 h3 st
  subst h1; subst h2; subst h3
  exact ⟨v, (T.setVm vm₁).calling g' mk (Value.ref b :: As).toArray, t, U', L, hT, X', hL, e1, e2, hq, st⟩
section
variable {y : MethodName} {bytes cc : ByteArray} {maxL nL mc ms n index : Nat} {ret : Option FieldType} {ws : List Cond} {rm : Room} {Pc : Array Value → State → Prop} {Qc : Array Value → State → Outcome → State → Prop} {XC : String → State → State → Prop} {free : Addr → Prop} {Ts : List Cond} {own C : String} {b : Addr} {As rest : List Value} {g : JFrame}
theorem vx_runVX {hh : List (Nat × Nat × Nat × Nat)} (S : CallFix p m c cc nL s args Ts own) (hM : vx_Met l y ws rm Pc Qc XC mc ms free) (cw : vx_CVW R s args own C index y bytes maxL ret hh ws rm mc ms n) (hp : PreV s H C b Pc As)
    (hg : g.method = m) (hn : As.length = n) (hsize : g.locals.size = nL) (hstack : g.stack = As.reverse ++ .ref b :: rest) (hW : 2 * g.monitorRoom + (rest.map fun v => v.category).sum ≤ 8) (hdg : decode cc g.pc = .ok (.invokevirtual index, 3)) (hf : cells + mc ≤ R.cells ∧ slots + ms ≤ R.slots) :
    vx_Run p l e R s m args below meth c H locs cells slots mc ms g rest (Qc (Value.ref b :: As).toArray) XC free := by
  obtain ⟨⟨hrc, hrs, hfr, hlo, hws, hcw⟩, hcode, hini, hy, hlen, hl, hin, hse⟩ := cw
  have hK : vx_Back l R p e below s args y 3 8 (PreOf R mc ms Pc) (PostOf Qc mc ms free) (vx_Post XC mc ms free) := vx_backW (hh := hh) (bytes := bytes) (maxL := maxL) (ret := ret) hM hp.1 hrc hrs hfr hlo hws hcw (fun a' U hW => word_at hW (Or.inl (by first | rfl | simp [Cond.onTables, Cond.keeps, Cond.steady])) hini)
  obtain ⟨hx, hb, hml, ho, -⟩ := S
  obtain ⟨-, ⟨cellB, hcB, hoB, hclB⟩, hPc⟩ := hp
  intro T hT X
  rcases vx_callVX X hx (C := C) (hh := hh) (bytes := bytes) (maxL := maxL) (ret := ret) ho hl hin hse hcode hy hK (by rw [hT]; exact hcB) hoB hclB hg (hsize.trans hml.symm) (argsL := As) (rest := rest) (fun sig h => hn.trans (hlen sig h)) hstack hW (by rw [hb]; exact hdg)
    (fun vm₁ hW₁ => ⟨hf.1, hf.2, hPc (T.setVm vm₁) hT hW₁⟩) with ⟨v, vm₁, ⟨U', l2, c2, s2⟩, hW₁, X', ⟨g', mk, t, L, e1, e2, hq, h1, hL, h2, h3⟩, st⟩ | ⟨q, vm₁, ⟨U', l2, c2, s2⟩, hW₁, X', ⟨g', mk, t, L, E, ce, e1, e2, hq, hce, hcv, hcl, h1, hL, h2, h3⟩, st⟩
  · dsimp only [Pt.U, Pt.locs, Pt.cells, Pt.slots] at X' e1 e2 h1 h2 h3 st
    subst h1; subst h2; subst h3
    exact Or.inl ⟨v, (T.setVm vm₁).calling g' mk (Value.ref b :: As).toArray, t, U', L, hT, X', hL, e1, e2, hq, st⟩
  · dsimp only [Pt.U, Pt.locs, Pt.cells, Pt.slots] at X' e1 e2 h1 h2 h3 st hcl
    subst h1; subst h2; subst h3
    exact Or.inr ⟨q, (T.setVm vm₁).calling g' mk (Value.ref b :: As).toArray, t, U', L, E, ce, hT, X', hL, e1, e2, hq, hce, hcv, vx_cls hW₁ hcl, st⟩
theorem vx_runSX {hh : List (Nat × Nat × Nat × Nat)} (S : CallFix p m c cc nL s args Ts own) (hM : vx_Met l y ws rm Pc Qc XC mc ms free) (cw : vx_CSW R s args own index y bytes maxL ret hh ws rm mc ms n) (hp : PreS s H Pc As)
    (hg : g.method = m) (hn : As.length = n) (hsize : g.locals.size = nL) (hstack : g.stack = As.reverse ++ rest) (hW : 2 * g.monitorRoom + (rest.map fun v => v.category).sum ≤ 8) (hdg : decode cc g.pc = .ok (.invokestatic index, 3)) (hf : cells + mc ≤ R.cells ∧ slots + ms ≤ R.slots) :
    vx_Run p l e R s m args below meth c H locs cells slots mc ms g rest (Qc As.toArray) XC free := by
  obtain ⟨⟨hrc, hrs, hfr, hlo, hws, hcw⟩, hcode, hini, hy, hlen, hl, hstt⟩ := cw
  have hK : vx_Back l R p e below s args y 3 8 (PreOf R mc ms Pc) (PostOf Qc mc ms free) (vx_Post XC mc ms free) := vx_backW (hh := hh) (bytes := bytes) (maxL := maxL) (ret := ret) hM hp.1 hrc hrs hfr hlo hws hcw (fun a' U hW => word_at hW (Or.inl (by first | rfl | simp [Cond.onTables, Cond.keeps, Cond.steady])) hini)
  obtain ⟨hx, hb, hml, ho, -⟩ := S
  intro T hT X
  rcases vx_callSX X hx (hh := hh) (bytes := bytes) (maxL := maxL) (ret := ret) ho hl hstt hini hcode hy hK hg (hsize.trans hml.symm) (argsL := As) (rest := rest) (fun sig h => hn.trans (hlen sig h)) hstack hW (by rw [hb]; exact hdg)
    (fun vm₁ hW₁ => ⟨hf.1, hf.2, hp.2 (T.setVm vm₁) hT hW₁⟩) with ⟨v, vm₁, ⟨U', l2, c2, s2⟩, hW₁, X', ⟨g', mk, t, L, e1, e2, hq, h1, hL, h2, h3⟩, st⟩ | ⟨q, vm₁, ⟨U', l2, c2, s2⟩, hW₁, X', ⟨g', mk, t, L, E, ce, e1, e2, hq, hce, hcv, hcl, h1, hL, h2, h3⟩, st⟩
  · dsimp only [Pt.U, Pt.locs, Pt.cells, Pt.slots] at X' e1 e2 h1 h2 h3 st
    subst h1; subst h2; subst h3
    exact Or.inl ⟨v, (T.setVm vm₁).calling g' mk As.toArray, t, U', L, hT, X', hL, e1, e2, hq, st⟩
  · dsimp only [Pt.U, Pt.locs, Pt.cells, Pt.slots] at X' e1 e2 h1 h2 h3 st hcl
    subst h1; subst h2; subst h3
    exact Or.inr ⟨q, (T.setVm vm₁).calling g' mk As.toArray, t, U', L, E, ce, hT, X', hL, e1, e2, hq, hce, hcv, vx_cls hW₁ hcl, st⟩
end
end VXH
theorem vx_ofWH {l : Launch} {y : MethodName} {ws ws' : List Cond} {rm : Room} {Pc : Array Value → State → Prop} {Qc : Array Value → State → Outcome → State → Prop} {XC : String → State → State → Prop} {mc ms : Nat} {free : Addr → Prop} {cc : ByteArray} {maxL : Nat} {ret : Option FieldType} {hh : List (Nat × Nat × Nat × Nat)}
    (hy : plainName y.cls = true) (hw : ws = Cond.codeWith y cc maxL ret hh :: ws')
    (body : ∀ p e s m args below meth c s₁, BodyLoose p l y (headSpec ws rm) cc maxL ret e s m args below meth c s₁ → c.maxLocals = maxL → Pc args s →
      W p l e (headSpec ws rm).room s m args below meth c s.heap [] 0 0 (vx_MQ below Qc XC args s mc ms free) (entryFrame m args maxL)) : vx_Met l y ws rm Pc Qc XC mc ms free := by
  refine MetFree.of_bodyS (code := cc) (maxLocals := maxL) (ret := ret) hy ?_ ?_
  · intro args s m h hn
    obtain ⟨m9, meth, c, hn9, h1, h2, h3, h4, -, h5, h6, -⟩ := Cond.codeWith_spec (atoms_spec (ws := ws) h _ (by rw [hw]; exact List.mem_cons_self))
    cases hn.symm.trans hn9
    exact ⟨meth, c, h1, h2, h3, h4, h5, h6⟩
  · intro p e s m args below meth c s₁ B hml hP _
    have hh0 : s₁.heap = s.heap := by rw [B.state]; rfl
    obtain ⟨t, a1, o, b1, b2, b3⟩ := body p e s m args below meth c s₁ B hml hP s₁ hh0 (Stand.of_body B)
    exact ⟨t, o, a1, b1, b2, b3⟩
/-! ===== END ===== -/

def RX0 : String := "SnuffMill$Law"
def TX0 : u_T := fun k => match k with
  | 0 => ("SnuffMill$Law", "code", "[I", true)
  | 1 => ("SnuffMill$Law", "draft", "[I", true)
  | 2 => ("SnuffMill$Law", "pile", "[I", true)
  | 3 => ("SnuffMill$Law", "named", "[I", true)
  | 4 => ("SnuffMill$Law", "length", "I", false)
  | _ => ("SnuffMill$Law", "drafted", "I", false)
def tyX0 : Nat → FieldType := fun k => match k with
  | 0 => .array .int
  | 1 => .array .int
  | 2 => .array .int
  | 3 => .array .int
  | 4 => .int
  | _ => .int
abbrev wsX00 : List Cond := u_ws RX0 TX0 6
theorem nmX0 : ∀ a, a < 6 → ∀ b, b < 6 → a ≠ b → (TX0 a).2.1 ≠ (TX0 b).2.1 := by decide +kernel
theorem tyX0_ok : ∀ k, k < 6 → parseFieldDescriptor (TX0 k).2.2.1 = some (tyX0 k) := by decide +kernel
abbrev cX0_init : ByteArray := prog_2_method_1_code
def yX0_init : MethodName := ⟨RX0, "<init>", "()V"⟩
abbrev cX0_clear : ByteArray := prog_2_method_2_code
def yX0_clear : MethodName := ⟨RX0, "clear", "()V"⟩
abbrev cX0_readLaw : ByteArray := prog_2_method_3_code
def yX0_readLaw : MethodName := ⟨RX0, "readLaw", "(LSnuffMill$Tape;)V"⟩
abbrev cX0_readSum : ByteArray := prog_2_method_4_code
def yX0_readSum : MethodName := ⟨RX0, "readSum", "(LSnuffMill$Tape;I)V"⟩
abbrev cX0_readProduct : ByteArray := prog_2_method_5_code
def yX0_readProduct : MethodName := ⟨RX0, "readProduct", "(LSnuffMill$Tape;I)V"⟩
abbrev cX0_readUnit : ByteArray := prog_2_method_6_code
def yX0_readUnit : MethodName := ⟨RX0, "readUnit", "(LSnuffMill$Tape;I)V"⟩
abbrev cX0_add : ByteArray := prog_2_method_7_code
def yX0_add : MethodName := ⟨RX0, "add", "(I)V"⟩
abbrev cX0_power : ByteArray := prog_2_method_8_code
def yX0_power : MethodName := ⟨RX0, "power", "(IIIIIII)I"⟩
abbrev cX0_bounded : ByteArray := prog_2_method_9_code
def yX0_bounded : MethodName := ⟨RX0, "bounded", "(I)I"⟩
abbrev cX0_joined : ByteArray := prog_2_method_10_code
def yX0_joined : MethodName := ⟨RX0, "joined", "(III)I"⟩
def RX1 : String := "SnuffMill$Past"
def TX1 : u_T := fun k => match k with
  | 0 => ("SnuffMill$Past", "workRows", "[I", true)
  | 1 => ("SnuffMill$Past", "imageRows", "[I", true)
  | 2 => ("SnuffMill$Past", "imageWorks", "[I", true)
  | 3 => ("SnuffMill$Past", "works", "I", false)
  | _ => ("SnuffMill$Past", "images", "I", false)
def tyX1 : Nat → FieldType := fun k => match k with
  | 0 => .array .int
  | 1 => .array .int
  | 2 => .array .int
  | 3 => .int
  | _ => .int
abbrev wsX10 : List Cond := u_ws RX1 TX1 5
theorem nmX1 : ∀ a, a < 5 → ∀ b, b < 5 → a ≠ b → (TX1 a).2.1 ≠ (TX1 b).2.1 := by decide +kernel
theorem tyX1_ok : ∀ k, k < 5 → parseFieldDescriptor (TX1 k).2.2.1 = some (tyX1 k) := by decide +kernel
abbrev cX1_init : ByteArray := prog_3_method_1_code
def yX1_init : MethodName := ⟨RX1, "<init>", "()V"⟩
abbrev cX1_forget : ByteArray := prog_3_method_2_code
def yX1_forget : MethodName := ⟨RX1, "forget", "()V"⟩
abbrev cX1_isFull : ByteArray := prog_3_method_3_code
def yX1_isFull : MethodName := ⟨RX1, "isFull", "()Z"⟩
abbrev cX1_keepWork : ByteArray := prog_3_method_4_code
def yX1_keepWork : MethodName := ⟨RX1, "keepWork", "(LSnuffMill$Shop;)V"⟩
abbrev cX1_takeWork : ByteArray := prog_3_method_5_code
def yX1_takeWork : MethodName := ⟨RX1, "takeWork", "(LSnuffMill$Shop;)V"⟩
abbrev cX1_keepImage : ByteArray := prog_3_method_6_code
def yX1_keepImage : MethodName := ⟨RX1, "keepImage", "(LSnuffMill$Shop;)V"⟩
abbrev cX1_takeImage : ByteArray := prog_3_method_7_code
def yX1_takeImage : MethodName := ⟨RX1, "takeImage", "(LSnuffMill$Shop;)V"⟩
def RX2 : String := "SnuffMill$Plan"
def TX2 : u_T := fun k => match k with
  | 0 => ("SnuffMill$Plan", "jars", "I", false)
  | 1 => ("SnuffMill$Plan", "stones", "I", false)
  | 2 => ("SnuffMill$Plan", "sieves", "I", false)
  | 3 => ("SnuffMill$Plan", "dust", "I", false)
  | 4 => ("SnuffMill$Plan", "stacked", "I", false)
  | 5 => ("SnuffMill$Plan", "lines", "I", false)
  | 6 => ("SnuffMill$Plan", "grams", "[I", true)
  | 7 => ("SnuffMill$Plan", "shares", "[I", true)
  | 8 => ("SnuffMill$Plan", "meshes", "[I", true)
  | 9 => ("SnuffMill$Plan", "stack", "[I", true)
  | 10 => ("SnuffMill$Plan", "draft", "[I", true)
  | 11 => ("SnuffMill$Plan", "fallen", "[I", true)
  | _ => ("SnuffMill$Plan", "law", "LSnuffMill$Law;", true)
def tyX2 : Nat → FieldType := fun k => match k with
  | 0 => .int
  | 1 => .int
  | 2 => .int
  | 3 => .int
  | 4 => .int
  | 5 => .int
  | 6 => .array .int
  | 7 => .array .int
  | 8 => .array .int
  | 9 => .array .int
  | 10 => .array .int
  | 11 => .array .int
  | _ => .object "SnuffMill$Law"
abbrev wsX20 : List Cond := u_ws RX2 TX2 13
theorem nmX2 : ∀ a, a < 13 → ∀ b, b < 13 → a ≠ b → (TX2 a).2.1 ≠ (TX2 b).2.1 := by decide +kernel
theorem tyX2_ok : ∀ k, k < 13 → parseFieldDescriptor (TX2 k).2.2.1 = some (tyX2 k) := by decide +kernel
abbrev cX2_init : ByteArray := prog_4_method_1_code
def yX2_init : MethodName := ⟨RX2, "<init>", "()V"⟩
abbrev cX2_shareOf : ByteArray := prog_4_method_2_code
def yX2_shareOf : MethodName := ⟨RX2, "shareOf", "(II)I"⟩
abbrev cX2_readClauses : ByteArray := prog_4_method_3_code
def yX2_readClauses : MethodName := ⟨RX2, "readClauses", "(LSnuffMill$Tape;)V"⟩
abbrev cX2_clear : ByteArray := prog_4_method_4_code
def yX2_clear : MethodName := ⟨RX2, "clear", "()V"⟩
abbrev cX2_hasTooMany : ByteArray := prog_4_method_5_code
def yX2_hasTooMany : MethodName := ⟨RX2, "hasTooMany", "(I)Z"⟩
abbrev cX2_readClause : ByteArray := prog_4_method_6_code
def yX2_readClause : MethodName := ⟨RX2, "readClause", "(LSnuffMill$Tape;I)V"⟩
abbrev cX2_readNumbers : ByteArray := prog_4_method_7_code
def yX2_readNumbers : MethodName := ⟨RX2, "readNumbers", "(LSnuffMill$Tape;[IIII)V"⟩
abbrev cX2_readStack : ByteArray := prog_4_method_8_code
def yX2_readStack : MethodName := ⟨RX2, "readStack", "(LSnuffMill$Tape;)V"⟩
abbrev cX2_readBook : ByteArray := prog_4_method_9_code
def yX2_readBook : MethodName := ⟨RX2, "readBook", "(LSnuffMill$Tape;)V"⟩
def RX3 : String := "SnuffMill$Program"
def TX3 : u_T := fun k => match k with
  | 0 => ("SnuffMill$Program", "code", "[I", true)
  | 1 => ("SnuffMill$Program", "begun", "I", false)
  | 2 => ("SnuffMill$Program", "steps", "I", false)
  | 3 => ("SnuffMill$Program", "done", "I", false)
  | _ => ("SnuffMill$Program", "refused", "I", false)
def tyX3 : Nat → FieldType := fun k => match k with
  | 0 => .array .int
  | 1 => .int
  | 2 => .int
  | 3 => .int
  | _ => .int
abbrev wsX30 : List Cond := u_ws RX3 TX3 5
theorem nmX3 : ∀ a, a < 5 → ∀ b, b < 5 → a ≠ b → (TX3 a).2.1 ≠ (TX3 b).2.1 := by decide +kernel
theorem tyX3_ok : ∀ k, k < 5 → parseFieldDescriptor (TX3 k).2.2.1 = some (tyX3 k) := by decide +kernel
abbrev cX3_init : ByteArray := prog_5_method_1_code
def yX3_init : MethodName := ⟨RX3, "<init>", "()V"⟩
abbrev cX3_readWork : ByteArray := prog_5_method_2_code
def yX3_readWork : MethodName := ⟨RX3, "readWork", "(LSnuffMill$Tape;LSnuffMill$Plan;)V"⟩
abbrev cX3_readSteps : ByteArray := prog_5_method_3_code
def yX3_readSteps : MethodName := ⟨RX3, "readSteps", "(LSnuffMill$Tape;LSnuffMill$Plan;I)V"⟩
abbrev cX3_readStep : ByteArray := prog_5_method_4_code
def yX3_readStep : MethodName := ⟨RX3, "readStep", "(LSnuffMill$Tape;LSnuffMill$Plan;II)V"⟩
abbrev cX3_readGrams : ByteArray := prog_5_method_5_code
def yX3_readGrams : MethodName := ⟨RX3, "readGrams", "(LSnuffMill$Tape;)I"⟩
abbrev cX3_runSteps : ByteArray := prog_5_method_6_code
def yX3_runSteps : MethodName := ⟨RX3, "runSteps", "(LSnuffMill$Shop;III)V"⟩
abbrev cX3_isDone : ByteArray := prog_5_method_7_code
def yX3_isDone : MethodName := ⟨RX3, "isDone", "(LSnuffMill$Shop;I)Z"⟩
def RX4 : String := "SnuffMill$Shop"
def TX4 : u_T := fun k => match k with
  | 0 => ("SnuffMill$Shop", "row", "[I", true)
  | _ => ("SnuffMill$Shop", "plan", "LSnuffMill$Plan;", false)
def tyX4 : Nat → FieldType := fun k => match k with
  | 0 => .array .int
  | _ => .object "SnuffMill$Plan"
abbrev wsX40 : List Cond := u_ws RX4 TX4 2
theorem nmX4 : ∀ a, a < 2 → ∀ b, b < 2 → a ≠ b → (TX4 a).2.1 ≠ (TX4 b).2.1 := by decide +kernel
theorem tyX4_ok : ∀ k, k < 2 → parseFieldDescriptor (TX4 k).2.2.1 = some (tyX4 k) := by decide +kernel
abbrev cX4_init : ByteArray := prog_6_method_1_code
def yX4_init : MethodName := ⟨RX4, "<init>", "(LSnuffMill$Plan;)V"⟩
abbrev cX4_begin : ByteArray := prog_6_method_2_code
def yX4_begin : MethodName := ⟨RX4, "begin", "(LSnuffMill$Plan;)V"⟩
abbrev cX4_copyFrom : ByteArray := prog_6_method_3_code
def yX4_copyFrom : MethodName := ⟨RX4, "copyFrom", "(LSnuffMill$Shop;)V"⟩
abbrev cX4_gramsOf : ByteArray := prog_6_method_4_code
def yX4_gramsOf : MethodName := ⟨RX4, "gramsOf", "(II)I"⟩
abbrev cX4_allOf : ByteArray := prog_6_method_5_code
def yX4_allOf : MethodName := ⟨RX4, "allOf", "(I)I"⟩
abbrev cX4_ageOf : ByteArray := prog_6_method_6_code
def yX4_ageOf : MethodName := ⟨RX4, "ageOf", "(I)I"⟩
abbrev cX4_isTorn : ByteArray := prog_6_method_7_code
def yX4_isTorn : MethodName := ⟨RX4, "isTorn", "(I)Z"⟩
abbrev cX4_grainsIn : ByteArray := prog_6_method_8_code
def yX4_grainsIn : MethodName := ⟨RX4, "grainsIn", "(I)I"⟩
abbrev cX4_finenessOf : ByteArray := prog_6_method_9_code
def yX4_finenessOf : MethodName := ⟨RX4, "finenessOf", "(I)I"⟩
abbrev cX4_gramsOfAll : ByteArray := prog_6_method_10_code
def yX4_gramsOfAll : MethodName := ⟨RX4, "gramsOfAll", "()I"⟩
abbrev cX4_emptyBits : ByteArray := prog_6_method_11_code
def yX4_emptyBits : MethodName := ⟨RX4, "emptyBits", "()I"⟩
abbrev cX4_powerOf : ByteArray := prog_6_method_12_code
def yX4_powerOf : MethodName := ⟨RX4, "powerOf", "(I)I"⟩
abbrev cX4_canSell : ByteArray := prog_6_method_13_code
def yX4_canSell : MethodName := ⟨RX4, "canSell", "(I)Z"⟩
abbrev cX4_fallOfGrams : ByteArray := prog_6_method_14_code
def yX4_fallOfGrams : MethodName := ⟨RX4, "fallOfGrams", "(III)I"⟩
abbrev cX4_fallOf : ByteArray := prog_6_method_15_code
def yX4_fallOf : MethodName := ⟨RX4, "fallOf", "(III)I"⟩
abbrev cX4_fallOfAll : ByteArray := prog_6_method_16_code
def yX4_fallOfAll : MethodName := ⟨RX4, "fallOfAll", "(II)I"⟩
abbrev cX4_grindJar : ByteArray := prog_6_method_17_code
def yX4_grindJar : MethodName := ⟨RX4, "grindJar", "(II)Z"⟩
abbrev cX4_siftJar : ByteArray := prog_6_method_18_code
def yX4_siftJar : MethodName := ⟨RX4, "siftJar", "(IIII)Z"⟩
abbrev cX4_pourJar : ByteArray := prog_6_method_19_code
def yX4_pourJar : MethodName := ⟨RX4, "pourJar", "(II)Z"⟩
abbrev cX4_scoopJar : ByteArray := prog_6_method_20_code
def yX4_scoopJar : MethodName := ⟨RX4, "scoopJar", "(III)Z"⟩
abbrev cX4_tearSieve : ByteArray := prog_6_method_21_code
def yX4_tearSieve : MethodName := ⟨RX4, "tearSieve", "(I)V"⟩
abbrev cX4_sellJar : ByteArray := prog_6_method_22_code
def yX4_sellJar : MethodName := ⟨RX4, "sellJar", "(I)Z"⟩
abbrev cX4_passDay : ByteArray := prog_6_method_23_code
def yX4_passDay : MethodName := ⟨RX4, "passDay", "()Z"⟩
abbrev cX4_turnDay : ByteArray := prog_6_method_24_code
def yX4_turnDay : MethodName := ⟨RX4, "turnDay", "()V"⟩
abbrev cX4_hasRoom : ByteArray := prog_6_method_25_code
def yX4_hasRoom : MethodName := ⟨RX4, "hasRoom", "(II)Z"⟩
abbrev cX4_moveGrams : ByteArray := prog_6_method_26_code
def yX4_moveGrams : MethodName := ⟨RX4, "moveGrams", "(IIII)V"⟩
def RX5 : String := "SnuffMill$Tape"
def TX5 : u_T := fun k => match k with
  | 0 => ("SnuffMill$Tape", "bytes", "[B", true)
  | 1 => ("SnuffMill$Tape", "end", "I", false)
  | 2 => ("SnuffMill$Tape", "at", "I", false)
  | 3 => ("SnuffMill$Tape", "held", "I", false)
  | 4 => ("SnuffMill$Tape", "flaw", "I", false)
  | _ => ("SnuffMill$Tape", "place", "I", false)
def tyX5 : Nat → FieldType := fun k => match k with
  | 0 => .array .byte
  | 1 => .int
  | 2 => .int
  | 3 => .int
  | 4 => .int
  | _ => .int
abbrev wsX50 : List Cond := u_ws RX5 TX5 6
theorem nmX5 : ∀ a, a < 6 → ∀ b, b < 6 → a ≠ b → (TX5 a).2.1 ≠ (TX5 b).2.1 := by decide +kernel
theorem tyX5_ok : ∀ k, k < 6 → parseFieldDescriptor (TX5 k).2.2.1 = some (tyX5 k) := by decide +kernel
abbrev cX5_init : ByteArray := prog_7_method_1_code
def yX5_init : MethodName := ⟨RX5, "<init>", "()V"⟩
abbrev cX5_hasRoom : ByteArray := prog_7_method_2_code
def yX5_hasRoom : MethodName := ⟨RX5, "hasRoom", "(I)Z"⟩
abbrev cX5_put : ByteArray := prog_7_method_3_code
def yX5_put : MethodName := ⟨RX5, "put", "(I)V"⟩
abbrev cX5_open : ByteArray := prog_7_method_4_code
def yX5_open : MethodName := ⟨RX5, "open", "(I)V"⟩
abbrev cX5_isSound : ByteArray := prog_7_method_5_code
def yX5_isSound : MethodName := ⟨RX5, "isSound", "()Z"⟩
abbrev cX5_fail : ByteArray := prog_7_method_6_code
def yX5_fail : MethodName := ⟨RX5, "fail", "(II)V"⟩
abbrev cX5_nextPlace : ByteArray := prog_7_method_7_code
def yX5_nextPlace : MethodName := ⟨RX5, "nextPlace", "()I"⟩
abbrev cX5_nextByte : ByteArray := prog_7_method_8_code
def yX5_nextByte : MethodName := ⟨RX5, "nextByte", "()I"⟩
abbrev cX5_hasMore : ByteArray := prog_7_method_9_code
def yX5_hasMore : MethodName := ⟨RX5, "hasMore", "()Z"⟩
abbrev cX5_isDigitNext : ByteArray := prog_7_method_10_code
def yX5_isDigitNext : MethodName := ⟨RX5, "isDigitNext", "()Z"⟩
abbrev cX5_needEnd : ByteArray := prog_7_method_11_code
def yX5_needEnd : MethodName := ⟨RX5, "needEnd", "()V"⟩
abbrev cX5_takeSign : ByteArray := prog_7_method_12_code
def yX5_takeSign : MethodName := ⟨RX5, "takeSign", "(Ljava/lang/String;)I"⟩
abbrev cX5_needSign : ByteArray := prog_7_method_13_code
def yX5_needSign : MethodName := ⟨RX5, "needSign", "(Ljava/lang/String;)V"⟩
abbrev cX5_needNumber : ByteArray := prog_7_method_14_code
def yX5_needNumber : MethodName := ⟨RX5, "needNumber", "(I)I"⟩
abbrev cX5_needWord : ByteArray := prog_7_method_15_code
def yX5_needWord : MethodName := ⟨RX5, "needWord", "(Ljava/lang/String;)I"⟩
abbrev cX5_isSpelled : ByteArray := prog_7_method_16_code
def yX5_isSpelled : MethodName := ⟨RX5, "isSpelled", "(Ljava/lang/String;III)Z"⟩
def RX6 : String := "SnuffMill$Year"
def TX6 : u_T := fun k => match k with
  | _ => ("SnuffMill$Year", "seed", "I", false)
def tyX6 : Nat → FieldType := fun k => match k with
  | _ => .int
abbrev wsX60 : List Cond := u_ws RX6 TX6 1
theorem nmX6 : ∀ a, a < 1 → ∀ b, b < 1 → a ≠ b → (TX6 a).2.1 ≠ (TX6 b).2.1 := by decide +kernel
theorem tyX6_ok : ∀ k, k < 1 → parseFieldDescriptor (TX6 k).2.2.1 = some (tyX6 k) := by decide +kernel
abbrev cX6_init : ByteArray := prog_8_method_1_code
def yX6_init : MethodName := ⟨RX6, "<init>", "()V"⟩
abbrev cX6_live : ByteArray := prog_8_method_2_code
def yX6_live : MethodName := ⟨RX6, "live", "(LSnuffMill$Shop;III)V"⟩
abbrev cX6_draw : ByteArray := prog_8_method_3_code
def yX6_draw : MethodName := ⟨RX6, "draw", "(I)I"⟩
def RX7 : String := "SnuffMill"
def TX7 : u_T := fun k => match k with
  | 0 => ("SnuffMill", "tape", "LSnuffMill$Tape;", true)
  | 1 => ("SnuffMill", "past", "LSnuffMill$Past;", true)
  | 2 => ("SnuffMill", "program", "LSnuffMill$Program;", true)
  | 3 => ("SnuffMill", "year", "LSnuffMill$Year;", true)
  | 4 => ("SnuffMill", "pairs", "[I", true)
  | 5 => ("SnuffMill", "powers", "[I", true)
  | 6 => ("SnuffMill", "heap", "[I", true)
  | 7 => ("SnuffMill", "plan", "LSnuffMill$Plan;", false)
  | 8 => ("SnuffMill", "spare", "LSnuffMill$Plan;", false)
  | 9 => ("SnuffMill", "now", "LSnuffMill$Shop;", true)
  | 10 => ("SnuffMill", "trial", "LSnuffMill$Shop;", true)
  | 11 => ("SnuffMill", "refusedSteps", "I", false)
  | 12 => ("SnuffMill", "missing", "I", false)
  | _ => ("SnuffMill", "wrong", "I", false)
def tyX7 : Nat → FieldType := fun k => match k with
  | 0 => .object "SnuffMill$Tape"
  | 1 => .object "SnuffMill$Past"
  | 2 => .object "SnuffMill$Program"
  | 3 => .object "SnuffMill$Year"
  | 4 => .array .int
  | 5 => .array .int
  | 6 => .array .int
  | 7 => .object "SnuffMill$Plan"
  | 8 => .object "SnuffMill$Plan"
  | 9 => .object "SnuffMill$Shop"
  | 10 => .object "SnuffMill$Shop"
  | 11 => .int
  | 12 => .int
  | _ => .int
abbrev wsX70 : List Cond := u_ws RX7 TX7 14
theorem nmX7 : ∀ a, a < 14 → ∀ b, b < 14 → a ≠ b → (TX7 a).2.1 ≠ (TX7 b).2.1 := by decide +kernel
theorem tyX7_ok : ∀ k, k < 14 → parseFieldDescriptor (TX7 k).2.2.1 = some (tyX7 k) := by decide +kernel
abbrev cX7_init : ByteArray := prog_1_method_1_code
def yX7_init : MethodName := ⟨RX7, "<init>", "()V"⟩
abbrev cX7_feed : ByteArray := prog_1_method_2_code
def yX7_feed : MethodName := ⟨RX7, "feed", "(IIIII)I"⟩
abbrev cX7_mill : ByteArray := prog_1_method_3_code
def yX7_mill : MethodName := ⟨RX7, "mill", "(I)I"⟩
abbrev cX7_law : ByteArray := prog_1_method_4_code
def yX7_law : MethodName := ⟨RX7, "law", "(I)I"⟩
abbrev cX7_work : ByteArray := prog_1_method_5_code
def yX7_work : MethodName := ⟨RX7, "work", "(I)I"⟩
abbrev cX7_stack : ByteArray := prog_1_method_6_code
def yX7_stack : MethodName := ⟨RX7, "stack", "(I)I"⟩
abbrev cX7_book : ByteArray := prog_1_method_7_code
def yX7_book : MethodName := ⟨RX7, "book", "(I)I"⟩
abbrev cX7_fault : ByteArray := prog_1_method_8_code
def yX7_fault : MethodName := ⟨RX7, "fault", "()I"⟩
abbrev cX7_told : ByteArray := prog_1_method_9_code
def yX7_told : MethodName := ⟨RX7, "told", "(I)I"⟩
abbrev cX7_jar : ByteArray := prog_1_method_10_code
def yX7_jar : MethodName := ⟨RX7, "jar", "(II)I"⟩
abbrev cX7_stone : ByteArray := prog_1_method_11_code
def yX7_stone : MethodName := ⟨RX7, "stone", "(II)I"⟩
abbrev cX7_sieve : ByteArray := prog_1_method_12_code
def yX7_sieve : MethodName := ⟨RX7, "sieve", "(II)I"⟩
abbrev cX7_space : ByteArray := prog_1_method_13_code
def yX7_space : MethodName := ⟨RX7, "space", "(I)I"⟩
abbrev cX7_oldest : ByteArray := prog_1_method_14_code
def yX7_oldest : MethodName := ⟨RX7, "oldest", "(I)I"⟩
abbrev cX7_amount : ByteArray := prog_1_method_15_code
def yX7_amount : MethodName := ⟨RX7, "amount", "(II)I"⟩
abbrev cX7_even : ByteArray := prog_1_method_16_code
def yX7_even : MethodName := ⟨RX7, "even", "()I"⟩
abbrev cX7_like : ByteArray := prog_1_method_17_code
def yX7_like : MethodName := ⟨RX7, "like", "(I)I"⟩
abbrev cX7_sneeze : ByteArray := prog_1_method_18_code
def yX7_sneeze : MethodName := ⟨RX7, "sneeze", "(I)I"⟩
abbrev cX7_would : ByteArray := prog_1_method_19_code
def yX7_would : MethodName := ⟨RX7, "would", "(IIIIIII)I"⟩
abbrev cX7_sharpest : ByteArray := prog_1_method_20_code
def yX7_sharpest : MethodName := ⟨RX7, "sharpest", "(I)I"⟩
abbrev cX7_ripe : ByteArray := prog_1_method_21_code
def yX7_ripe : MethodName := ⟨RX7, "ripe", "()I"⟩
abbrev cX7_worth : ByteArray := prog_1_method_22_code
def yX7_worth : MethodName := ⟨RX7, "worth", "()I"⟩
abbrev cX7_blend : ByteArray := prog_1_method_23_code
def yX7_blend : MethodName := ⟨RX7, "blend", "(II)I"⟩
abbrev cX7_ripens : ByteArray := prog_1_method_24_code
def yX7_ripens : MethodName := ⟨RX7, "ripens", "(I)I"⟩
abbrev cX7_ground : ByteArray := prog_1_method_25_code
def yX7_ground : MethodName := ⟨RX7, "ground", "(III)I"⟩
abbrev cX7_falls : ByteArray := prog_1_method_26_code
def yX7_falls : MethodName := ⟨RX7, "falls", "(III)I"⟩
abbrev cX7_milled : ByteArray := prog_1_method_27_code
def yX7_milled : MethodName := ⟨RX7, "milled", "(III)I"⟩
abbrev cX7_stays : ByteArray := prog_1_method_28_code
def yX7_stays : MethodName := ⟨RX7, "stays", "(II)I"⟩
abbrev cX7_passes : ByteArray := prog_1_method_29_code
def yX7_passes : MethodName := ⟨RX7, "passes", "(I)I"⟩
abbrev cX7_through : ByteArray := prog_1_method_30_code
def yX7_through : MethodName := ⟨RX7, "through", "(II)I"⟩
abbrev cX7_halves : ByteArray := prog_1_method_31_code
def yX7_halves : MethodName := ⟨RX7, "halves", "(II)I"⟩
abbrev cX7_box : ByteArray := prog_1_method_32_code
def yX7_box : MethodName := ⟨RX7, "box", "(III)I"⟩
abbrev cX7_shelf : ByteArray := prog_1_method_33_code
def yX7_shelf : MethodName := ⟨RX7, "shelf", "(III)I"⟩
abbrev cX7_fits : ByteArray := prog_1_method_34_code
def yX7_fits : MethodName := ⟨RX7, "fits", "(I)I"⟩
abbrev cX7_look : ByteArray := prog_1_method_35_code
def yX7_look : MethodName := ⟨RX7, "look", "(I)I"⟩
abbrev cX7_fit : ByteArray := prog_1_method_36_code
def yX7_fit : MethodName := ⟨RX7, "fit", "(IIII)J"⟩
abbrev cX7_shops : ByteArray := prog_1_method_37_code
def yX7_shops : MethodName := ⟨RX7, "shops", "(III)I"⟩
abbrev cX7_year : ByteArray := prog_1_method_38_code
def yX7_year : MethodName := ⟨RX7, "year", "(IIII)I"⟩
abbrev cX7_span : ByteArray := prog_1_method_39_code
def yX7_span : MethodName := ⟨RX7, "span", "(IIIIII)I"⟩
abbrev cX7_undo : ByteArray := prog_1_method_40_code
def yX7_undo : MethodName := ⟨RX7, "undo", "()I"⟩
abbrev cX7_image : ByteArray := prog_1_method_41_code
def yX7_image : MethodName := ⟨RX7, "image", "()I"⟩
abbrev cX7_restore : ByteArray := prog_1_method_42_code
def yX7_restore : MethodName := ⟨RX7, "restore", "()I"⟩
abbrev cX7_status : ByteArray := prog_1_method_43_code
def yX7_status : MethodName := ⟨RX7, "status", "(I)I"⟩
abbrev cX7_count : ByteArray := prog_1_method_44_code
def yX7_count : MethodName := ⟨RX7, "count", "(I)I"⟩
abbrev cX7_needJar : ByteArray := prog_1_method_45_code
def yX7_needJar : MethodName := ⟨RX7, "needJar", "(I)V"⟩
abbrev cX7_needStone : ByteArray := prog_1_method_46_code
def yX7_needStone : MethodName := ⟨RX7, "needStone", "(I)V"⟩
abbrev cX7_needSieve : ByteArray := prog_1_method_47_code
def yX7_needSieve : MethodName := ⟨RX7, "needSieve", "(I)V"⟩
abbrev cX7_needThere : ByteArray := prog_1_method_48_code
def yX7_needThere : MethodName := ⟨RX7, "needThere", "(Z)V"⟩
abbrev cX7_need : ByteArray := prog_1_method_49_code
def yX7_need : MethodName := ⟨RX7, "need", "(Z)V"⟩
abbrev cX7_isJars : ByteArray := prog_1_method_50_code
def yX7_isJars : MethodName := ⟨RX7, "isJars", "(I)Z"⟩
abbrev cX7_isWithin : ByteArray := prog_1_method_51_code
def yX7_isWithin : MethodName := ⟨RX7, "isWithin", "(III)Z"⟩
abbrev cX7_openText : ByteArray := prog_1_method_52_code
def yX7_openText : MethodName := ⟨RX7, "openText", "(II)V"⟩
abbrev cX7_textAnswer : ByteArray := prog_1_method_53_code
def yX7_textAnswer : MethodName := ⟨RX7, "textAnswer", "(I)I"⟩
abbrev cX7_dropHeap : ByteArray := prog_1_method_54_code
def yX7_dropHeap : MethodName := ⟨RX7, "dropHeap", "(I)I"⟩
abbrev cX7_gramsIn : ByteArray := prog_1_method_55_code
def yX7_gramsIn : MethodName := ⟨RX7, "gramsIn", "(I)I"⟩
abbrev cX7_weighPowers : ByteArray := prog_1_method_56_code
def yX7_weighPowers : MethodName := ⟨RX7, "weighPowers", "()V"⟩
abbrev cX7_powerIn : ByteArray := prog_1_method_57_code
def yX7_powerIn : MethodName := ⟨RX7, "powerIn", "(I)I"⟩
abbrev cX7_isBetterBox : ByteArray := prog_1_method_58_code
def yX7_isBetterBox : MethodName := ⟨RX7, "isBetterBox", "(II)Z"⟩
abbrev cX7_givenBy : ByteArray := prog_1_method_59_code
def yX7_givenBy : MethodName := ⟨RX7, "givenBy", "(II)I"⟩
abbrev cX7_gatherPairs : ByteArray := prog_1_method_60_code
def yX7_gatherPairs : MethodName := ⟨RX7, "gatherPairs", "()I"⟩
abbrev cX7_isByBook : ByteArray := prog_1_method_61_code
def yX7_isByBook : MethodName := ⟨RX7, "isByBook", "(II)Z"⟩
abbrev cX7_worstLeft : ByteArray := prog_1_method_62_code
def yX7_worstLeft : MethodName := ⟨RX7, "worstLeft", "(II)I"⟩
abbrev cX7_fallOfPair : ByteArray := prog_1_method_63_code
def yX7_fallOfPair : MethodName := ⟨RX7, "fallOfPair", "(II)I"⟩
abbrev cX7_waysOf : ByteArray := prog_1_method_64_code
def yX7_waysOf : MethodName := ⟨RX7, "waysOf", "(II)J"⟩
abbrev cX7_powerTo : ByteArray := prog_1_method_65_code
def yX7_powerTo : MethodName := ⟨RX7, "powerTo", "(II)J"⟩
abbrev cX7_shareBy : ByteArray := prog_1_method_66_code
def yX7_shareBy : MethodName := ⟨RX7, "shareBy", "(IIII)I"⟩
def RX8 : String := "SnuffMillModel"
def TX8 : u_T := fun k => match k with
  | 0 => ("SnuffMillModel", "thrown", "I", false)
  | 1 => ("SnuffMillModel", "refused", "[I", true)
  | 2 => ("SnuffMillModel", "taped", "I", false)
  | 3 => ("SnuffMillModel", "size", "I", false)
  | 4 => ("SnuffMillModel", "at", "I", false)
  | 5 => ("SnuffMillModel", "bad", "I", false)
  | 6 => ("SnuffMillModel", "badKind", "I", false)
  | 7 => ("SnuffMillModel", "opens", "I", false)
  | 8 => ("SnuffMillModel", "faultAt", "I", false)
  | 9 => ("SnuffMillModel", "tape", "[I", true)
  | 10 => ("SnuffMillModel", "newJar", "[I", true)
  | 11 => ("SnuffMillModel", "newStone", "[I", true)
  | 12 => ("SnuffMillModel", "newSieve", "[I", true)
  | 13 => ("SnuffMillModel", "jar", "[I", true)
  | 14 => ("SnuffMillModel", "stone", "[I", true)
  | 15 => ("SnuffMillModel", "sieve", "[I", true)
  | 16 => ("SnuffMillModel", "newJars", "I", false)
  | 17 => ("SnuffMillModel", "newStones", "I", false)
  | 18 => ("SnuffMillModel", "newSieves", "I", false)
  | 19 => ("SnuffMillModel", "newDust", "I", false)
  | 20 => ("SnuffMillModel", "jars", "I", false)
  | 21 => ("SnuffMillModel", "stones", "I", false)
  | 22 => ("SnuffMillModel", "sieves", "I", false)
  | 23 => ("SnuffMillModel", "dust", "I", false)
  | 24 => ("SnuffMillModel", "newCode", "[I", true)
  | 25 => ("SnuffMillModel", "newOf", "[I", true)
  | 26 => ("SnuffMillModel", "code", "[I", true)
  | 27 => ("SnuffMillModel", "ofCode", "[I", true)
  | 28 => ("SnuffMillModel", "stack", "[I", true)
  | 29 => ("SnuffMillModel", "newCodes", "I", false)
  | 30 => ("SnuffMillModel", "codes", "I", false)
  | 31 => ("SnuffMillModel", "facts", "[I", true)
  | 32 => ("SnuffMillModel", "newStep", "[I", true)
  | 33 => ("SnuffMillModel", "step", "[I", true)
  | 34 => ("SnuffMillModel", "newSteps", "I", false)
  | 35 => ("SnuffMillModel", "works", "I", false)
  | 36 => ("SnuffMillModel", "refusedSteps", "I", false)
  | 37 => ("SnuffMillModel", "begun", "I", false)
  | 38 => ("SnuffMillModel", "done", "I", false)
  | 39 => ("SnuffMillModel", "refusedNow", "I", false)
  | 40 => ("SnuffMillModel", "now", "[I", true)
  | 41 => ("SnuffMillModel", "s", "[I", true)
  | 42 => ("SnuffMillModel", "past", "[I", true)
  | 43 => ("SnuffMillModel", "newStack", "[I", true)
  | 44 => ("SnuffMillModel", "pile", "[I", true)
  | 45 => ("SnuffMillModel", "newBook", "[I", true)
  | 46 => ("SnuffMillModel", "book", "[I", true)
  | 47 => ("SnuffMillModel", "stackMany", "I", false)
  | 48 => ("SnuffMillModel", "written", "I", false)
  | 49 => ("SnuffMillModel", "fitBy", "[J", true)
  | 50 => ("SnuffMillModel", "seedNow", "I", false)
  | 51 => ("SnuffMillModel", "image", "[I", true)
  | _ => ("SnuffMillModel", "images", "I", false)
def tyX8 : Nat → FieldType := fun k => match k with
  | 0 => .int
  | 1 => .array .int
  | 2 => .int
  | 3 => .int
  | 4 => .int
  | 5 => .int
  | 6 => .int
  | 7 => .int
  | 8 => .int
  | 9 => .array .int
  | 10 => .array .int
  | 11 => .array .int
  | 12 => .array .int
  | 13 => .array .int
  | 14 => .array .int
  | 15 => .array .int
  | 16 => .int
  | 17 => .int
  | 18 => .int
  | 19 => .int
  | 20 => .int
  | 21 => .int
  | 22 => .int
  | 23 => .int
  | 24 => .array .int
  | 25 => .array .int
  | 26 => .array .int
  | 27 => .array .int
  | 28 => .array .int
  | 29 => .int
  | 30 => .int
  | 31 => .array .int
  | 32 => .array .int
  | 33 => .array .int
  | 34 => .int
  | 35 => .int
  | 36 => .int
  | 37 => .int
  | 38 => .int
  | 39 => .int
  | 40 => .array .int
  | 41 => .array .int
  | 42 => .array .int
  | 43 => .array .int
  | 44 => .array .int
  | 45 => .array .int
  | 46 => .array .int
  | 47 => .int
  | 48 => .int
  | 49 => .array .long
  | 50 => .int
  | 51 => .array .int
  | _ => .int
abbrev wsX80 : List Cond := u_ws RX8 TX8 53
theorem nmX8 : ∀ a, a < 53 → ∀ b, b < 53 → a ≠ b → (TX8 a).2.1 ≠ (TX8 b).2.1 := by decide +kernel
theorem tyX8_ok : ∀ k, k < 53 → parseFieldDescriptor (TX8 k).2.2.1 = some (tyX8 k) := by decide +kernel
abbrev cX8_thrown : ByteArray := prog_10_method_1_code
def yX8_thrown : MethodName := ⟨RX8, "thrown", "()I"⟩
abbrev cX8_may : ByteArray := prog_10_method_2_code
def yX8_may : MethodName := ⟨RX8, "may", "(ZII)Z"⟩
abbrev cX8_within : ByteArray := prog_10_method_3_code
def yX8_within : MethodName := ⟨RX8, "within", "(III)Z"⟩
abbrev cX8_init : ByteArray := prog_10_method_4_code
def yX8_init : MethodName := ⟨RX8, "<init>", "()V"⟩
abbrev cX8_feed : ByteArray := prog_10_method_5_code
def yX8_feed : MethodName := ⟨RX8, "feed", "(IIIII)I"⟩
abbrev cX8_fine : ByteArray := prog_10_method_6_code
def yX8_fine : MethodName := ⟨RX8, "fine", "()Z"⟩
abbrev cX8_wrong : ByteArray := prog_10_method_7_code
def yX8_wrong : MethodName := ⟨RX8, "wrong", "(II)V"⟩
abbrev cX8_here : ByteArray := prog_10_method_8_code
def yX8_here : MethodName := ⟨RX8, "here", "()I"⟩
abbrev cX8_isSmall : ByteArray := prog_10_method_9_code
def yX8_isSmall : MethodName := ⟨RX8, "isSmall", "(I)Z"⟩
abbrev cX8_isDigit : ByteArray := prog_10_method_10_code
def yX8_isDigit : MethodName := ⟨RX8, "isDigit", "(I)Z"⟩
abbrev cX8_word : ByteArray := prog_10_method_11_code
def yX8_word : MethodName := ⟨RX8, "word", "()I"⟩
abbrev cX8_of : ByteArray := prog_10_method_12_code
def yX8_of : MethodName := ⟨RX8, "of", "(Ljava/lang/String;)I"⟩
abbrev cX8_pass : ByteArray := prog_10_method_13_code
def yX8_pass : MethodName := ⟨RX8, "pass", "()V"⟩
abbrev cX8_readNumber : ByteArray := prog_10_method_14_code
def yX8_readNumber : MethodName := ⟨RX8, "readNumber", "(II)I"⟩
abbrev cX8_sign : ByteArray := prog_10_method_15_code
def yX8_sign : MethodName := ⟨RX8, "sign", "(I)V"⟩
abbrev cX8_isMore : ByteArray := prog_10_method_16_code
def yX8_isMore : MethodName := ⟨RX8, "isMore", "()Z"⟩
abbrev cX8_begins : ByteArray := prog_10_method_17_code
def yX8_begins : MethodName := ⟨RX8, "begins", "(I)V"⟩
abbrev cX8_result : ByteArray := prog_10_method_18_code
def yX8_result : MethodName := ⟨RX8, "result", "(I)I"⟩
abbrev cX8_fault : ByteArray := prog_10_method_19_code
def yX8_fault : MethodName := ⟨RX8, "fault", "()I"⟩
abbrev cX8_copies : ByteArray := prog_10_method_20_code
def yX8_copies : MethodName := ⟨RX8, "copies", "([I[II)V"⟩
abbrev cX8_clears : ByteArray := prog_10_method_21_code
def yX8_clears : MethodName := ⟨RX8, "clears", "()V"⟩
abbrev cX8_sets : ByteArray := prog_10_method_22_code
def yX8_sets : MethodName := ⟨RX8, "sets", "()V"⟩
abbrev cX8_isRow : ByteArray := prog_10_method_23_code
def yX8_isRow : MethodName := ⟨RX8, "isRow", "(I)Z"⟩
abbrev cX8_isFull : ByteArray := prog_10_method_24_code
def yX8_isFull : MethodName := ⟨RX8, "isFull", "(I)Z"⟩
abbrev cX8_readRow : ByteArray := prog_10_method_25_code
def yX8_readRow : MethodName := ⟨RX8, "readRow", "(I)V"⟩
abbrev cX8_mill : ByteArray := prog_10_method_26_code
def yX8_mill : MethodName := ⟨RX8, "mill", "(I)I"⟩
abbrev cX8_emit : ByteArray := prog_10_method_27_code
def yX8_emit : MethodName := ⟨RX8, "emit", "(II)V"⟩
abbrev cX8_opensOne : ByteArray := prog_10_method_28_code
def yX8_opensOne : MethodName := ⟨RX8, "opensOne", "(I)V"⟩
abbrev cX8_readSum : ByteArray := prog_10_method_29_code
def yX8_readSum : MethodName := ⟨RX8, "readSum", "()V"⟩
abbrev cX8_readProduct : ByteArray := prog_10_method_30_code
def yX8_readProduct : MethodName := ⟨RX8, "readProduct", "()V"⟩
abbrev cX8_readTwo : ByteArray := prog_10_method_31_code
def yX8_readTwo : MethodName := ⟨RX8, "readTwo", "(II)V"⟩
abbrev cX8_factHere : ByteArray := prog_10_method_32_code
def yX8_factHere : MethodName := ⟨RX8, "factHere", "()I"⟩
abbrev cX8_readUnit : ByteArray := prog_10_method_33_code
def yX8_readUnit : MethodName := ⟨RX8, "readUnit", "()V"⟩
abbrev cX8_law : ByteArray := prog_10_method_34_code
def yX8_law : MethodName := ⟨RX8, "law", "(I)I"⟩
abbrev cX8_valueNow : ByteArray := prog_10_method_35_code
def yX8_valueNow : MethodName := ⟨RX8, "valueNow", "()I"⟩
abbrev cX8_both : ByteArray := prog_10_method_36_code
def yX8_both : MethodName := ⟨RX8, "both", "(III)I"⟩
abbrev cX8_sneezeNow : ByteArray := prog_10_method_37_code
def yX8_sneezeNow : MethodName := ⟨RX8, "sneezeNow", "()I"⟩
abbrev cX8_tellsStep : ByteArray := prog_10_method_38_code
def yX8_tellsStep : MethodName := ⟨RX8, "tellsStep", "(IIIII)V"⟩
abbrev cX8_stepOf : ByteArray := prog_10_method_39_code
def yX8_stepOf : MethodName := ⟨RX8, "stepOf", "(I)I"⟩
abbrev cX8_readJarNumber : ByteArray := prog_10_method_40_code
def yX8_readJarNumber : MethodName := ⟨RX8, "readJarNumber", "()I"⟩
abbrev cX8_readAgain : ByteArray := prog_10_method_41_code
def yX8_readAgain : MethodName := ⟨RX8, "readAgain", "()V"⟩
abbrev cX8_readStep : ByteArray := prog_10_method_42_code
def yX8_readStep : MethodName := ⟨RX8, "readStep", "()V"⟩
abbrev cX8_work : ByteArray := prog_10_method_43_code
def yX8_work : MethodName := ⟨RX8, "work", "(I)I"⟩
abbrev cX8_goesSteps : ByteArray := prog_10_method_44_code
def yX8_goesSteps : MethodName := ⟨RX8, "goesSteps", "(II)V"⟩
abbrev cX8_isDone : ByteArray := prog_10_method_45_code
def yX8_isDone : MethodName := ⟨RX8, "isDone", "(I)Z"⟩
abbrev cX8_take : ByteArray := prog_10_method_46_code
def yX8_take : MethodName := ⟨RX8, "take", "()V"⟩
abbrev cX8_gramsOf : ByteArray := prog_10_method_47_code
def yX8_gramsOf : MethodName := ⟨RX8, "gramsOf", "(I)I"⟩
abbrev cX8_gramsAll : ByteArray := prog_10_method_48_code
def yX8_gramsAll : MethodName := ⟨RX8, "gramsAll", "()I"⟩
abbrev cX8_fineOf : ByteArray := prog_10_method_49_code
def yX8_fineOf : MethodName := ⟨RX8, "fineOf", "(I)I"⟩
abbrev cX8_sneezeOf : ByteArray := prog_10_method_50_code
def yX8_sneezeOf : MethodName := ⟨RX8, "sneezeOf", "(IIIIIII)I"⟩
abbrev cX8_sneezeBy : ByteArray := prog_10_method_51_code
def yX8_sneezeBy : MethodName := ⟨RX8, "sneezeBy", "(I)I"⟩
abbrev cX8_empties : ByteArray := prog_10_method_52_code
def yX8_empties : MethodName := ⟨RX8, "empties", "(I)V"⟩
abbrev cX8_isGround : ByteArray := prog_10_method_53_code
def yX8_isGround : MethodName := ⟨RX8, "isGround", "(II)Z"⟩
abbrev cX8_fallenOf : ByteArray := prog_10_method_54_code
def yX8_fallenOf : MethodName := ⟨RX8, "fallenOf", "(III)I"⟩
abbrev cX8_fallenAll : ByteArray := prog_10_method_55_code
def yX8_fallenAll : MethodName := ⟨RX8, "fallenAll", "(II)I"⟩
abbrev cX8_ages : ByteArray := prog_10_method_56_code
def yX8_ages : MethodName := ⟨RX8, "ages", "(II)V"⟩
abbrev cX8_isSifted : ByteArray := prog_10_method_57_code
def yX8_isSifted : MethodName := ⟨RX8, "isSifted", "(IIII)Z"⟩
abbrev cX8_isScooped : ByteArray := prog_10_method_58_code
def yX8_isScooped : MethodName := ⟨RX8, "isScooped", "(III)Z"⟩
abbrev cX8_isRipe : ByteArray := prog_10_method_59_code
def yX8_isRipe : MethodName := ⟨RX8, "isRipe", "(I)Z"⟩
abbrev cX8_isSold : ByteArray := prog_10_method_60_code
def yX8_isSold : MethodName := ⟨RX8, "isSold", "(I)Z"⟩
abbrev cX8_dayGoes : ByteArray := prog_10_method_61_code
def yX8_dayGoes : MethodName := ⟨RX8, "dayGoes", "()V"⟩
abbrev cX8_maySmall : ByteArray := prog_10_method_62_code
def yX8_maySmall : MethodName := ⟨RX8, "maySmall", "(I)Z"⟩
abbrev cX8_stack : ByteArray := prog_10_method_63_code
def yX8_stack : MethodName := ⟨RX8, "stack", "(I)I"⟩
abbrev cX8_book : ByteArray := prog_10_method_64_code
def yX8_book : MethodName := ⟨RX8, "book", "(I)I"⟩
abbrev cX8_undo : ByteArray := prog_10_method_65_code
def yX8_undo : MethodName := ⟨RX8, "undo", "()I"⟩
abbrev cX8_emptyBits : ByteArray := prog_10_method_66_code
def yX8_emptyBits : MethodName := ⟨RX8, "emptyBits", "()I"⟩
abbrev cX8_tornBits : ByteArray := prog_10_method_67_code
def yX8_tornBits : MethodName := ⟨RX8, "tornBits", "()I"⟩
abbrev cX8_told : ByteArray := prog_10_method_68_code
def yX8_told : MethodName := ⟨RX8, "told", "(I)I"⟩
abbrev cX8_isThere : ByteArray := prog_10_method_69_code
def yX8_isThere : MethodName := ⟨RX8, "isThere", "(II)Z"⟩
abbrev cX8_jar : ByteArray := prog_10_method_70_code
def yX8_jar : MethodName := ⟨RX8, "jar", "(II)I"⟩
abbrev cX8_stone : ByteArray := prog_10_method_71_code
def yX8_stone : MethodName := ⟨RX8, "stone", "(II)I"⟩
abbrev cX8_sieve : ByteArray := prog_10_method_72_code
def yX8_sieve : MethodName := ⟨RX8, "sieve", "(II)I"⟩
abbrev cX8_sneeze : ByteArray := prog_10_method_73_code
def yX8_sneeze : MethodName := ⟨RX8, "sneeze", "(I)I"⟩
abbrev cX8_would : ByteArray := prog_10_method_74_code
def yX8_would : MethodName := ⟨RX8, "would", "(IIIIIII)I"⟩
abbrev cX8_ground : ByteArray := prog_10_method_75_code
def yX8_ground : MethodName := ⟨RX8, "ground", "(III)I"⟩
abbrev cX8_falls : ByteArray := prog_10_method_76_code
def yX8_falls : MethodName := ⟨RX8, "falls", "(III)I"⟩
abbrev cX8_milled : ByteArray := prog_10_method_77_code
def yX8_milled : MethodName := ⟨RX8, "milled", "(III)I"⟩
abbrev cX8_stays : ByteArray := prog_10_method_78_code
def yX8_stays : MethodName := ⟨RX8, "stays", "(II)I"⟩
abbrev cX8_isSet : ByteArray := prog_10_method_79_code
def yX8_isSet : MethodName := ⟨RX8, "isSet", "(I)Z"⟩
abbrev cX8_gramsIn : ByteArray := prog_10_method_80_code
def yX8_gramsIn : MethodName := ⟨RX8, "gramsIn", "(I)I"⟩
abbrev cX8_sneezesIn : ByteArray := prog_10_method_81_code
def yX8_sneezesIn : MethodName := ⟨RX8, "sneezesIn", "(I)I"⟩
abbrev cX8_size : ByteArray := prog_10_method_82_code
def yX8_size : MethodName := ⟨RX8, "size", "(I)I"⟩
abbrev cX8_halves : ByteArray := prog_10_method_83_code
def yX8_halves : MethodName := ⟨RX8, "halves", "(II)I"⟩
abbrev cX8_apartBy : ByteArray := prog_10_method_84_code
def yX8_apartBy : MethodName := ⟨RX8, "apartBy", "(II)I"⟩
abbrev cX8_box : ByteArray := prog_10_method_85_code
def yX8_box : MethodName := ⟨RX8, "box", "(III)I"⟩
abbrev cX8_isFit : ByteArray := prog_10_method_86_code
def yX8_isFit : MethodName := ⟨RX8, "isFit", "(II)Z"⟩
abbrev cX8_fits : ByteArray := prog_10_method_87_code
def yX8_fits : MethodName := ⟨RX8, "fits", "(I)I"⟩
abbrev cX8_worstOf : ByteArray := prog_10_method_88_code
def yX8_worstOf : MethodName := ⟨RX8, "worstOf", "(I)I"⟩
abbrev cX8_look : ByteArray := prog_10_method_89_code
def yX8_look : MethodName := ⟨RX8, "look", "(I)I"⟩
abbrev cX8_least : ByteArray := prog_10_method_90_code
def yX8_least : MethodName := ⟨RX8, "least", "(JJI)J"⟩
abbrev cX8_fit : ByteArray := prog_10_method_91_code
def yX8_fit : MethodName := ⟨RX8, "fit", "(IIII)J"⟩
abbrev cX8_hasBy : ByteArray := prog_10_method_92_code
def yX8_hasBy : MethodName := ⟨RX8, "hasBy", "(IIII)I"⟩
abbrev cX8_shops : ByteArray := prog_10_method_93_code
def yX8_shops : MethodName := ⟨RX8, "shops", "(III)I"⟩
abbrev cX8_bounded : ByteArray := prog_10_method_94_code
def yX8_bounded : MethodName := ⟨RX8, "bounded", "(II)I"⟩
abbrev cX8_shelfBy : ByteArray := prog_10_method_95_code
def yX8_shelfBy : MethodName := ⟨RX8, "shelfBy", "(II)I"⟩
abbrev cX8_shelf : ByteArray := prog_10_method_96_code
def yX8_shelf : MethodName := ⟨RX8, "shelf", "(III)I"⟩
abbrev cX8_sharpest : ByteArray := prog_10_method_97_code
def yX8_sharpest : MethodName := ⟨RX8, "sharpest", "(I)I"⟩
abbrev cX8_ripe : ByteArray := prog_10_method_98_code
def yX8_ripe : MethodName := ⟨RX8, "ripe", "()I"⟩
abbrev cX8_blend : ByteArray := prog_10_method_99_code
def yX8_blend : MethodName := ⟨RX8, "blend", "(II)I"⟩
abbrev cX8_even : ByteArray := prog_10_method_100_code
def yX8_even : MethodName := ⟨RX8, "even", "()I"⟩
abbrev cX8_ripens : ByteArray := prog_10_method_101_code
def yX8_ripens : MethodName := ⟨RX8, "ripens", "(I)I"⟩
abbrev cX8_space : ByteArray := prog_10_method_102_code
def yX8_space : MethodName := ⟨RX8, "space", "(I)I"⟩
abbrev cX8_oldest : ByteArray := prog_10_method_103_code
def yX8_oldest : MethodName := ⟨RX8, "oldest", "(I)I"⟩
abbrev cX8_passes : ByteArray := prog_10_method_104_code
def yX8_passes : MethodName := ⟨RX8, "passes", "(I)I"⟩
abbrev cX8_amount : ByteArray := prog_10_method_105_code
def yX8_amount : MethodName := ⟨RX8, "amount", "(II)I"⟩
abbrev cX8_worth : ByteArray := prog_10_method_106_code
def yX8_worth : MethodName := ⟨RX8, "worth", "()I"⟩
abbrev cX8_like : ByteArray := prog_10_method_107_code
def yX8_like : MethodName := ⟨RX8, "like", "(I)I"⟩
abbrev cX8_through : ByteArray := prog_10_method_108_code
def yX8_through : MethodName := ⟨RX8, "through", "(II)I"⟩
abbrev cX8_draws : ByteArray := prog_10_method_109_code
def yX8_draws : MethodName := ⟨RX8, "draws", "(I)I"⟩
abbrev cX8_yearGoes : ByteArray := prog_10_method_110_code
def yX8_yearGoes : MethodName := ⟨RX8, "yearGoes", "(III)V"⟩
abbrev cX8_isYear : ByteArray := prog_10_method_111_code
def yX8_isYear : MethodName := ⟨RX8, "isYear", "(II)Z"⟩
abbrev cX8_year : ByteArray := prog_10_method_112_code
def yX8_year : MethodName := ⟨RX8, "year", "(IIII)I"⟩
abbrev cX8_span : ByteArray := prog_10_method_113_code
def yX8_span : MethodName := ⟨RX8, "span", "(IIIIII)I"⟩
abbrev cX8_keepsRow : ByteArray := prog_10_method_114_code
def yX8_keepsRow : MethodName := ⟨RX8, "keepsRow", "(I[IIZ)I"⟩
abbrev cX8_keepsAll : ByteArray := prog_10_method_115_code
def yX8_keepsAll : MethodName := ⟨RX8, "keepsAll", "(IZ)V"⟩
abbrev cX8_image : ByteArray := prog_10_method_116_code
def yX8_image : MethodName := ⟨RX8, "image", "()I"⟩
abbrev cX8_restore : ByteArray := prog_10_method_117_code
def yX8_restore : MethodName := ⟨RX8, "restore", "()I"⟩
abbrev cX8_status : ByteArray := prog_10_method_118_code
def yX8_status : MethodName := ⟨RX8, "status", "(I)I"⟩
abbrev cX8_count : ByteArray := prog_10_method_119_code
def yX8_count : MethodName := ⟨RX8, "count", "(I)I"⟩
def RJx145de : String := "java/io/Serializable"
def TJx145de : u_T := fun k => match k with
  | _ => ("", "", "", false)
def tyJx145de : Nat → FieldType := fun k => match k with
  | _ => .int
abbrev wsJx145de0 : List Cond := u_ws RJx145de TJx145de 0
theorem nmJx145de : ∀ a, a < 0 → ∀ b, b < 0 → a ≠ b → (TJx145de a).2.1 ≠ (TJx145de b).2.1 := by decide +kernel
theorem tyJx145de_ok : ∀ k, k < 0 → parseFieldDescriptor (TJx145de k).2.2.1 = some (tyJx145de k) := by decide +kernel
def RJx9f9b0 : String := "java/lang/CharSequence"
def TJx9f9b0 : u_T := fun k => match k with
  | _ => ("", "", "", false)
def tyJx9f9b0 : Nat → FieldType := fun k => match k with
  | _ => .int
abbrev wsJx9f9b00 : List Cond := u_ws RJx9f9b0 TJx9f9b0 0
theorem nmJx9f9b0 : ∀ a, a < 0 → ∀ b, b < 0 → a ≠ b → (TJx9f9b0 a).2.1 ≠ (TJx9f9b0 b).2.1 := by decide +kernel
theorem tyJx9f9b0_ok : ∀ k, k < 0 → parseFieldDescriptor (TJx9f9b0 k).2.2.1 = some (tyJx9f9b0 k) := by decide +kernel
def RJxb160c : String := "java/lang/Comparable"
def TJxb160c : u_T := fun k => match k with
  | _ => ("", "", "", false)
def tyJxb160c : Nat → FieldType := fun k => match k with
  | _ => .int
abbrev wsJxb160c0 : List Cond := u_ws RJxb160c TJxb160c 0
theorem nmJxb160c : ∀ a, a < 0 → ∀ b, b < 0 → a ≠ b → (TJxb160c a).2.1 ≠ (TJxb160c b).2.1 := by decide +kernel
theorem tyJxb160c_ok : ∀ k, k < 0 → parseFieldDescriptor (TJxb160c k).2.2.1 = some (tyJxb160c k) := by decide +kernel
def RJ9 : String := "java/lang/Math"
def TJ9 : u_T := fun k => match k with
  | _ => ("", "", "", false)
def tyJ9 : Nat → FieldType := fun k => match k with
  | _ => .int
abbrev wsJ90 : List Cond := u_ws RJ9 TJ9 0
theorem nmJ9 : ∀ a, a < 0 → ∀ b, b < 0 → a ≠ b → (TJ9 a).2.1 ≠ (TJ9 b).2.1 := by decide +kernel
theorem tyJ9_ok : ∀ k, k < 0 → parseFieldDescriptor (TJ9 k).2.2.1 = some (tyJ9 k) := by decide +kernel
abbrev cJ9_abs_0f7a4 : ByteArray := prog_16_method_59_code
def yJ9_abs_0f7a4 : MethodName := ⟨RJ9, "abs", "(I)I"⟩
abbrev cJ9_max_7cf53 : ByteArray := prog_16_method_65_code
def yJ9_max_7cf53 : MethodName := ⟨RJ9, "max", "(II)I"⟩
abbrev cJ9_min_7cf53 : ByteArray := prog_16_method_69_code
def yJ9_min_7cf53 : MethodName := ⟨RJ9, "min", "(II)I"⟩
def RJ0 : String := "java/lang/String"
def TJ0 : u_T := fun k => match k with
  | _ => ("", "", "", false)
def tyJ0 : Nat → FieldType := fun k => match k with
  | _ => .int
abbrev wsJ00 : List Cond := u_ws RJ0 TJ0 0
theorem nmJ0 : ∀ a, a < 0 → ∀ b, b < 0 → a ≠ b → (TJ0 a).2.1 ≠ (TJ0 b).2.1 := by decide +kernel
theorem tyJ0_ok : ∀ k, k < 0 → parseFieldDescriptor (TJ0 k).2.2.1 = some (tyJ0 k) := by decide +kernel
abbrev cJ0_length_8abf5 : ByteArray := prog_18_method_54_code
def yJ0_length_8abf5 : MethodName := ⟨RJ0, "length", "()I"⟩
abbrev cJ0_charAt_5068e : ByteArray := prog_18_method_56_code
def yJ0_charAt_5068e : MethodName := ⟨RJ0, "charAt", "(I)C"⟩
abbrev cJ0_coder_7d493 : ByteArray := prog_18_method_152_code
def yJ0_coder_7d493 : MethodName := ⟨RJ0, "coder", "()B"⟩
abbrev cJ0_isLatin1_aae02 : ByteArray := prog_18_method_154_code
def yJ0_isLatin1_aae02 : MethodName := ⟨RJ0, "isLatin1", "()Z"⟩
abbrev cJ0_checkIndex_df160 : ByteArray := prog_18_method_155_code
def yJ0_checkIndex_df160 : MethodName := ⟨RJ0, "checkIndex", "(II)V"⟩
def RJ1 : String := "java/lang/StringLatin1"
def TJ1 : u_T := fun k => match k with
  | _ => ("", "", "", false)
def tyJ1 : Nat → FieldType := fun k => match k with
  | _ => .int
abbrev wsJ10 : List Cond := u_ws RJ1 TJ1 0
theorem nmJ1 : ∀ a, a < 0 → ∀ b, b < 0 → a ≠ b → (TJ1 a).2.1 ≠ (TJ1 b).2.1 := by decide +kernel
theorem tyJ1_ok : ∀ k, k < 0 → parseFieldDescriptor (TJ1 k).2.2.1 = some (tyJ1 k) := by decide +kernel
abbrev cJ1_charAt_3b067 : ByteArray := prog_19_method_2_code
def yJ1_charAt_3b067 : MethodName := ⟨RJ1, "charAt", "([BI)C"⟩
def RJ2 : String := "java/lang/StringUTF16"
def TJ2 : u_T := fun k => match k with
  | _ => ("", "", "", false)
def tyJ2 : Nat → FieldType := fun k => match k with
  | _ => .int
abbrev wsJ20 : List Cond := u_ws RJ2 TJ2 0
theorem nmJ2 : ∀ a, a < 0 → ∀ b, b < 0 → a ≠ b → (TJ2 a).2.1 ≠ (TJ2 b).2.1 := by decide +kernel
theorem tyJ2_ok : ∀ k, k < 0 → parseFieldDescriptor (TJ2 k).2.2.1 = some (tyJ2 k) := by decide +kernel
abbrev cJ2_getChar_3b067 : ByteArray := prog_20_method_5_code
def yJ2_getChar_3b067 : MethodName := ⟨RJ2, "getChar", "([BI)C"⟩
abbrev cJ2_length_9d52b : ByteArray := prog_20_method_6_code
def yJ2_length_9d52b : MethodName := ⟨RJ2, "length", "([B)I"⟩
abbrev cJ2_charAt_3b067 : ByteArray := prog_20_method_83_code
def yJ2_charAt_3b067 : MethodName := ⟨RJ2, "charAt", "([BI)C"⟩
abbrev cJ2_checkIndex_2214a : ByteArray := prog_20_method_91_code
def yJ2_checkIndex_2214a : MethodName := ⟨RJ2, "checkIndex", "(I[B)V"⟩
def RJ10 : String := "java/lang/System"
def TJ10 : u_T := fun k => match k with
  | _ => ("", "", "", false)
def tyJ10 : Nat → FieldType := fun k => match k with
  | _ => .int
abbrev wsJ100 : List Cond := u_ws RJ10 TJ10 0
theorem nmJ10 : ∀ a, a < 0 → ∀ b, b < 0 → a ≠ b → (TJ10 a).2.1 ≠ (TJ10 b).2.1 := by decide +kernel
theorem tyJ10_ok : ∀ k, k < 0 → parseFieldDescriptor (TJ10 k).2.2.1 = some (tyJ10 k) := by decide +kernel
def RJxfd54e : String := "java/lang/constant/Constable"
def TJxfd54e : u_T := fun k => match k with
  | _ => ("", "", "", false)
def tyJxfd54e : Nat → FieldType := fun k => match k with
  | _ => .int
abbrev wsJxfd54e0 : List Cond := u_ws RJxfd54e TJxfd54e 0
theorem nmJxfd54e : ∀ a, a < 0 → ∀ b, b < 0 → a ≠ b → (TJxfd54e a).2.1 ≠ (TJxfd54e b).2.1 := by decide +kernel
theorem tyJxfd54e_ok : ∀ k, k < 0 → parseFieldDescriptor (TJxfd54e k).2.2.1 = some (tyJxfd54e k) := by decide +kernel
def RJx3cf43 : String := "java/lang/constant/ConstantDesc"
def TJx3cf43 : u_T := fun k => match k with
  | _ => ("", "", "", false)
def tyJx3cf43 : Nat → FieldType := fun k => match k with
  | _ => .int
abbrev wsJx3cf430 : List Cond := u_ws RJx3cf43 TJx3cf43 0
theorem nmJx3cf43 : ∀ a, a < 0 → ∀ b, b < 0 → a ≠ b → (TJx3cf43 a).2.1 ≠ (TJx3cf43 b).2.1 := by decide +kernel
theorem tyJx3cf43_ok : ∀ k, k < 0 → parseFieldDescriptor (TJx3cf43 k).2.2.1 = some (tyJx3cf43 k) := by decide +kernel
def RJ3 : String := "jdk/internal/util/Preconditions"
def TJ3 : u_T := fun k => match k with
  | _ => ("", "", "", false)
def tyJ3 : Nat → FieldType := fun k => match k with
  | _ => .int
abbrev wsJ30 : List Cond := u_ws RJ3 TJ3 0
theorem nmJ3 : ∀ a, a < 0 → ∀ b, b < 0 → a ≠ b → (TJ3 a).2.1 ≠ (TJ3 b).2.1 := by decide +kernel
theorem tyJ3_ok : ∀ k, k < 0 → parseFieldDescriptor (TJ3 k).2.2.1 = some (tyJ3 k) := by decide +kernel
abbrev cJ3_checkIndex_8e157 : ByteArray := prog_26_method_11_code
def yJ3_checkIndex_8e157 : MethodName := ⟨RJ3, "checkIndex", "(IILjava/util/function/BiFunction;)I"⟩
def RL : String := "SnuffMillLaw"
abbrev cL_mill : ByteArray := method_3_code
def yL_mill : MethodName := ⟨RL, "mill", "(LSnuffMill;I[J)I"⟩
abbrev cL_law : ByteArray := method_4_code
def yL_law : MethodName := ⟨RL, "law", "(LSnuffMill;I[J)I"⟩
abbrev cL_work : ByteArray := method_5_code
def yL_work : MethodName := ⟨RL, "work", "(LSnuffMill;I[J)I"⟩
abbrev cL_stack : ByteArray := method_6_code
def yL_stack : MethodName := ⟨RL, "stack", "(LSnuffMill;I[J)I"⟩
abbrev cL_book : ByteArray := method_7_code
def yL_book : MethodName := ⟨RL, "book", "(LSnuffMill;I[J)I"⟩
abbrev cL_told : ByteArray := method_8_code
def yL_told : MethodName := ⟨RL, "told", "(LSnuffMill;I[J)I"⟩
abbrev cL_jar : ByteArray := method_9_code
def yL_jar : MethodName := ⟨RL, "jar", "(LSnuffMill;II[J)I"⟩
abbrev cL_stone : ByteArray := method_10_code
def yL_stone : MethodName := ⟨RL, "stone", "(LSnuffMill;II[J)I"⟩
abbrev cL_sieve : ByteArray := method_11_code
def yL_sieve : MethodName := ⟨RL, "sieve", "(LSnuffMill;II[J)I"⟩
abbrev cL_sneeze : ByteArray := method_12_code
def yL_sneeze : MethodName := ⟨RL, "sneeze", "(LSnuffMill;I[J)I"⟩
abbrev cL_would : ByteArray := method_13_code
def yL_would : MethodName := ⟨RL, "would", "(LSnuffMill;IIIIIII[J)I"⟩
abbrev cL_ground : ByteArray := method_14_code
def yL_ground : MethodName := ⟨RL, "ground", "(LSnuffMill;III[J)I"⟩
abbrev cL_falls : ByteArray := method_15_code
def yL_falls : MethodName := ⟨RL, "falls", "(LSnuffMill;III[J)I"⟩
abbrev cL_milled : ByteArray := method_16_code
def yL_milled : MethodName := ⟨RL, "milled", "(LSnuffMill;III[J)I"⟩
abbrev cL_stays : ByteArray := method_17_code
def yL_stays : MethodName := ⟨RL, "stays", "(LSnuffMill;II[J)I"⟩
abbrev cL_halves : ByteArray := method_18_code
def yL_halves : MethodName := ⟨RL, "halves", "(LSnuffMill;II[J)I"⟩
abbrev cL_box : ByteArray := method_19_code
def yL_box : MethodName := ⟨RL, "box", "(LSnuffMill;III[J)I"⟩
abbrev cL_fits : ByteArray := method_20_code
def yL_fits : MethodName := ⟨RL, "fits", "(LSnuffMill;I[J)I"⟩
abbrev cL_look : ByteArray := method_21_code
def yL_look : MethodName := ⟨RL, "look", "(LSnuffMill;I[J)I"⟩
abbrev cL_fit : ByteArray := method_22_code
def yL_fit : MethodName := ⟨RL, "fit", "(LSnuffMill;IIII[J)I"⟩
abbrev cL_shops : ByteArray := method_23_code
def yL_shops : MethodName := ⟨RL, "shops", "(LSnuffMill;III[J)I"⟩
abbrev cL_shelf : ByteArray := method_24_code
def yL_shelf : MethodName := ⟨RL, "shelf", "(LSnuffMill;III[J)I"⟩
abbrev cL_sharpest : ByteArray := method_25_code
def yL_sharpest : MethodName := ⟨RL, "sharpest", "(LSnuffMill;I[J)I"⟩
abbrev cL_blend : ByteArray := method_26_code
def yL_blend : MethodName := ⟨RL, "blend", "(LSnuffMill;II[J)I"⟩
abbrev cL_ripens : ByteArray := method_27_code
def yL_ripens : MethodName := ⟨RL, "ripens", "(LSnuffMill;I[J)I"⟩
abbrev cL_space : ByteArray := method_28_code
def yL_space : MethodName := ⟨RL, "space", "(LSnuffMill;I[J)I"⟩
abbrev cL_oldest : ByteArray := method_29_code
def yL_oldest : MethodName := ⟨RL, "oldest", "(LSnuffMill;I[J)I"⟩
abbrev cL_passes : ByteArray := method_30_code
def yL_passes : MethodName := ⟨RL, "passes", "(LSnuffMill;I[J)I"⟩
abbrev cL_amount : ByteArray := method_31_code
def yL_amount : MethodName := ⟨RL, "amount", "(LSnuffMill;II[J)I"⟩
abbrev cL_like : ByteArray := method_32_code
def yL_like : MethodName := ⟨RL, "like", "(LSnuffMill;I[J)I"⟩
abbrev cL_through : ByteArray := method_33_code
def yL_through : MethodName := ⟨RL, "through", "(LSnuffMill;II[J)I"⟩
abbrev cL_year : ByteArray := method_34_code
def yL_year : MethodName := ⟨RL, "year", "(LSnuffMill;IIII[J)I"⟩
abbrev cL_span : ByteArray := method_35_code
def yL_span : MethodName := ⟨RL, "span", "(LSnuffMill;IIIIII[J)I"⟩
abbrev cL_law_ : ByteArray := code
def yL_law_ : MethodName := ⟨RL, "law", "([I)Z"⟩
def wsJ0_coder_7d493 : List Cond := .code yJ0_coder_7d493 cJ0_coder_7d493 1 (some .byte) :: ([.fieldLink RJ0 38 "java/lang/String" "COMPACT_STRINGS" "Z", .fieldLink RJ0 15 "java/lang/String" "coder" "B"])
def wsJ0_length_8abf5 : List Cond := .code yJ0_length_8abf5 cJ0_length_8abf5 1 (some .int) :: ([.fieldLink RJ0 9 "java/lang/String" "value" "[B", .methodLink RJ0 335 yJ0_coder_7d493, .instanceMethod yJ0_coder_7d493, .selects RJ0 yJ0_coder_7d493 yJ0_coder_7d493, .initialized RJ0, .code yJ0_coder_7d493 cJ0_coder_7d493 1 (some .byte), .fieldLink RJ0 38 "java/lang/String" "COMPACT_STRINGS" "Z", .fieldLink RJ0 15 "java/lang/String" "coder" "B"])
def wsJ0_isLatin1_aae02 : List Cond := .code yJ0_isLatin1_aae02 cJ0_isLatin1_aae02 1 (some .boolean) :: ([.fieldLink RJ0 38 "java/lang/String" "COMPACT_STRINGS" "Z", .fieldLink RJ0 15 "java/lang/String" "coder" "B"])
def wsJ3_checkIndex_8e157 : List Cond := .code yJ3_checkIndex_8e157 cJ3_checkIndex_8e157 3 (some .int) :: ([])
def wsJ0_checkIndex_df160 : List Cond := .code yJ0_checkIndex_df160 cJ0_checkIndex_df160 2 none :: ([.fieldLink RJ0 1053 "jdk/internal/util/Preconditions" "SIOOBE_FORMATTER" "Ljava/util/function/BiFunction;", .methodLink RJ0 1059 yJ3_checkIndex_8e157, .static yJ3_checkIndex_8e157, .initialized RJ3, .code yJ3_checkIndex_8e157 cJ3_checkIndex_8e157 3 (some .int)])
def wsJ1_charAt_3b067 : List Cond := .code yJ1_charAt_3b067 cJ1_charAt_3b067 2 (some .char) :: ([.methodLink RJ1 9 yJ0_checkIndex_df160, .static yJ0_checkIndex_df160, .initialized RJ0, .code yJ0_checkIndex_df160 cJ0_checkIndex_df160 2 none, .fieldLink RJ0 1053 "jdk/internal/util/Preconditions" "SIOOBE_FORMATTER" "Ljava/util/function/BiFunction;", .methodLink RJ0 1059 yJ3_checkIndex_8e157, .static yJ3_checkIndex_8e157, .initialized RJ3, .code yJ3_checkIndex_8e157 cJ3_checkIndex_8e157 3 (some .int)])
def wsJ2_length_9d52b : List Cond := .code yJ2_length_9d52b cJ2_length_9d52b 1 (some .int) :: ([])
def wsJ2_checkIndex_2214a : List Cond := .code yJ2_checkIndex_2214a cJ2_checkIndex_2214a 2 none :: ([.methodLink RJ2 48 yJ2_length_9d52b, .static yJ2_length_9d52b, .initialized RJ2, .code yJ2_length_9d52b cJ2_length_9d52b 1 (some .int), .methodLink RJ2 414 yJ0_checkIndex_df160, .static yJ0_checkIndex_df160, .initialized RJ0, .code yJ0_checkIndex_df160 cJ0_checkIndex_df160 2 none, .fieldLink RJ0 1053 "jdk/internal/util/Preconditions" "SIOOBE_FORMATTER" "Ljava/util/function/BiFunction;", .methodLink RJ0 1059 yJ3_checkIndex_8e157, .static yJ3_checkIndex_8e157, .initialized RJ3, .code yJ3_checkIndex_8e157 cJ3_checkIndex_8e157 3 (some .int)])
def wsJ2_getChar_3b067 : List Cond := .code yJ2_getChar_3b067 cJ2_getChar_3b067 2 (some .char) :: ([.fieldLink RJ2 44 "java/lang/StringUTF16" "$assertionsDisabled" "Z", .fieldLink RJ2 59 "java/lang/StringUTF16" "HI_BYTE_SHIFT" "I", .fieldLink RJ2 63 "java/lang/StringUTF16" "LO_BYTE_SHIFT" "I", .methodLink RJ2 48 yJ2_length_9d52b, .static yJ2_length_9d52b, .initialized RJ2, .code yJ2_length_9d52b cJ2_length_9d52b 1 (some .int)])
def wsJ2_charAt_3b067 : List Cond := .code yJ2_charAt_3b067 cJ2_charAt_3b067 2 (some .char) :: ([.methodLink RJ2 67 yJ2_checkIndex_2214a, .static yJ2_checkIndex_2214a, .initialized RJ2, .code yJ2_checkIndex_2214a cJ2_checkIndex_2214a 2 none, .methodLink RJ2 48 yJ2_length_9d52b, .static yJ2_length_9d52b, .code yJ2_length_9d52b cJ2_length_9d52b 1 (some .int), .methodLink RJ2 414 yJ0_checkIndex_df160, .static yJ0_checkIndex_df160, .initialized RJ0, .code yJ0_checkIndex_df160 cJ0_checkIndex_df160 2 none, .fieldLink RJ0 1053 "jdk/internal/util/Preconditions" "SIOOBE_FORMATTER" "Ljava/util/function/BiFunction;", .methodLink RJ0 1059 yJ3_checkIndex_8e157, .static yJ3_checkIndex_8e157, .initialized RJ3, .code yJ3_checkIndex_8e157 cJ3_checkIndex_8e157 3 (some .int), .methodLink RJ2 71 yJ2_getChar_3b067, .static yJ2_getChar_3b067, .code yJ2_getChar_3b067 cJ2_getChar_3b067 2 (some .char), .fieldLink RJ2 44 "java/lang/StringUTF16" "$assertionsDisabled" "Z", .fieldLink RJ2 59 "java/lang/StringUTF16" "HI_BYTE_SHIFT" "I", .fieldLink RJ2 63 "java/lang/StringUTF16" "LO_BYTE_SHIFT" "I"])
def wsJ0_charAt_5068e_r1 : List Cond := [Cond.fieldLink RJ0 9 "java/lang/String" "value" "[B", Cond.methodLink RJ0 492 yJ0_isLatin1_aae02, Cond.instanceMethod yJ0_isLatin1_aae02, Cond.selects RJ0 yJ0_isLatin1_aae02 yJ0_isLatin1_aae02, Cond.initialized RJ0, Cond.code yJ0_isLatin1_aae02 cJ0_isLatin1_aae02 1 (some .boolean), Cond.fieldLink RJ0 38 "java/lang/String" "COMPACT_STRINGS" "Z", Cond.fieldLink RJ0 15 "java/lang/String" "coder" "B", Cond.methodLink RJ0 495 yJ1_charAt_3b067, Cond.static yJ1_charAt_3b067, Cond.initialized RJ1, Cond.code yJ1_charAt_3b067 cJ1_charAt_3b067 2 (some .char), Cond.methodLink RJ1 9 yJ0_checkIndex_df160, Cond.static yJ0_checkIndex_df160, Cond.code yJ0_checkIndex_df160 cJ0_checkIndex_df160 2 none, Cond.fieldLink RJ0 1053 "jdk/internal/util/Preconditions" "SIOOBE_FORMATTER" "Ljava/util/function/BiFunction;", Cond.methodLink RJ0 1059 yJ3_checkIndex_8e157, Cond.static yJ3_checkIndex_8e157, Cond.initialized RJ3, Cond.code yJ3_checkIndex_8e157 cJ3_checkIndex_8e157 3 (some .int), Cond.methodLink RJ0 498 yJ2_charAt_3b067, Cond.static yJ2_charAt_3b067, Cond.initialized RJ2, Cond.code yJ2_charAt_3b067 cJ2_charAt_3b067 2 (some .char)]
def wsJ0_charAt_5068e_r2 : List Cond := [Cond.methodLink RJ2 67 yJ2_checkIndex_2214a, Cond.static yJ2_checkIndex_2214a, Cond.code yJ2_checkIndex_2214a cJ2_checkIndex_2214a 2 none, Cond.methodLink RJ2 48 yJ2_length_9d52b, Cond.static yJ2_length_9d52b, Cond.code yJ2_length_9d52b cJ2_length_9d52b 1 (some .int), Cond.methodLink RJ2 414 yJ0_checkIndex_df160, Cond.methodLink RJ2 71 yJ2_getChar_3b067, Cond.static yJ2_getChar_3b067, Cond.code yJ2_getChar_3b067 cJ2_getChar_3b067 2 (some .char), Cond.fieldLink RJ2 44 "java/lang/StringUTF16" "$assertionsDisabled" "Z", Cond.fieldLink RJ2 59 "java/lang/StringUTF16" "HI_BYTE_SHIFT" "I", Cond.fieldLink RJ2 63 "java/lang/StringUTF16" "LO_BYTE_SHIFT" "I"]
def wsJ0_charAt_5068e : List Cond := .code yJ0_charAt_5068e cJ0_charAt_5068e 2 (some .char) :: ((wsJ0_charAt_5068e_r1 ++ wsJ0_charAt_5068e_r2))
def wsJ9_abs_0f7a4 : List Cond := .code yJ9_abs_0f7a4 cJ9_abs_0f7a4 1 (some .int) :: ([])
def wsJ9_max_7cf53 : List Cond := .code yJ9_max_7cf53 cJ9_max_7cf53 2 (some .int) :: ([])
def wsJ9_min_7cf53 : List Cond := .code yJ9_min_7cf53 cJ9_min_7cf53 2 (some .int) :: ([])
set_option maxRecDepth 20000 in
theorem ggJ0_length_8abf5_J0_coder_7d493 : GoodIn wsJ0_length_8abf5 wsJ0_coder_7d493 := goodIn_r _ [6, 7, 8] (by decide +kernel) (by decide +kernel)
set_option maxRecDepth 20000 in
theorem gJ0_length_8abf5_J0_coder_7d493 : GoodIn wsJ0_length_8abf5 (wsV RJ0 335 RJ0 yJ0_coder_7d493 wsJ0_coder_7d493) := goodIn_app (goodIn_of _ (by decide +kernel)) ggJ0_length_8abf5_J0_coder_7d493
theorem dJ0_length_8abf5_0 : decode cJ0_length_8abf5 0 = .ok (.aload_n 0, 1) := by decide +kernel
theorem dJ0_length_8abf5_1 : decode cJ0_length_8abf5 1 = .ok (.getfield 9, 3) := by decide +kernel
theorem dJ0_length_8abf5_4 : decode cJ0_length_8abf5 4 = .ok (.arraylength, 1) := by decide +kernel
theorem dJ0_length_8abf5_5 : decode cJ0_length_8abf5 5 = .ok (.aload_n 0, 1) := by decide +kernel
theorem dJ0_length_8abf5_6 : decode cJ0_length_8abf5 6 = .ok (.invokevirtual 335, 3) := by decide +kernel
theorem dJ0_length_8abf5_9 : decode cJ0_length_8abf5 9 = .ok (.ishr, 1) := by decide +kernel
theorem dJ0_length_8abf5_10 : decode cJ0_length_8abf5 10 = .ok (.ireturn, 1) := by decide +kernel
set_option maxRecDepth 20000 in
theorem ggJ0_charAt_5068e_J0_isLatin1_aae02 : GoodIn wsJ0_charAt_5068e wsJ0_isLatin1_aae02 := goodIn_r _ [6, 7, 8] (by decide +kernel) (by decide +kernel)
set_option maxRecDepth 20000 in
theorem gJ0_charAt_5068e_J0_isLatin1_aae02 : GoodIn wsJ0_charAt_5068e (wsV RJ0 492 RJ0 yJ0_isLatin1_aae02 wsJ0_isLatin1_aae02) := goodIn_app (goodIn_of _ (by decide +kernel)) ggJ0_charAt_5068e_J0_isLatin1_aae02
set_option maxRecDepth 20000 in
theorem ggJ0_charAt_5068e_J1_charAt_3b067 : GoodIn wsJ0_charAt_5068e wsJ1_charAt_3b067 := goodIn_r _ [12, 13, 14, 5, 15, 16, 17, 18, 19, 20] (by decide +kernel) (by decide +kernel)
set_option maxRecDepth 20000 in
theorem gJ0_charAt_5068e_J1_charAt_3b067 : GoodIn wsJ0_charAt_5068e (va_wsS RJ0 495 yJ1_charAt_3b067 wsJ1_charAt_3b067) := goodIn_app (goodIn_of _ (by decide +kernel)) ggJ0_charAt_5068e_J1_charAt_3b067
set_option maxRecDepth 20000 in
theorem ggJ0_charAt_5068e_J2_charAt_3b067 : GoodIn wsJ0_charAt_5068e wsJ2_charAt_3b067 := goodIn_r _ [24, 25, 26, 23, 27, 28, 29, 30, 31, 14, 5, 15, 16, 17, 18, 19, 20, 32, 33, 34, 35, 36, 37] (by decide +kernel) (by decide +kernel)
set_option maxRecDepth 20000 in
theorem gJ0_charAt_5068e_J2_charAt_3b067 : GoodIn wsJ0_charAt_5068e (va_wsS RJ0 498 yJ2_charAt_3b067 wsJ2_charAt_3b067) := goodIn_app (goodIn_of _ (by decide +kernel)) ggJ0_charAt_5068e_J2_charAt_3b067
theorem dJ0_charAt_5068e_0 : decode cJ0_charAt_5068e 0 = .ok (.aload_n 0, 1) := by decide +kernel
theorem dJ0_charAt_5068e_1 : decode cJ0_charAt_5068e 1 = .ok (.invokevirtual 492, 3) := by decide +kernel
theorem dJ0_charAt_5068e_4 : decode cJ0_charAt_5068e 4 = .ok (.ifCond .eq 12, 3) := by decide +kernel
theorem dJ0_charAt_5068e_7 : decode cJ0_charAt_5068e 7 = .ok (.aload_n 0, 1) := by decide +kernel
theorem dJ0_charAt_5068e_8 : decode cJ0_charAt_5068e 8 = .ok (.getfield 9, 3) := by decide +kernel
theorem dJ0_charAt_5068e_11 : decode cJ0_charAt_5068e 11 = .ok (.iload_n 1, 1) := by decide +kernel
theorem dJ0_charAt_5068e_12 : decode cJ0_charAt_5068e 12 = .ok (.invokestatic 495, 3) := by decide +kernel
theorem dJ0_charAt_5068e_15 : decode cJ0_charAt_5068e 15 = .ok (.ireturn, 1) := by decide +kernel
theorem dJ0_charAt_5068e_16 : decode cJ0_charAt_5068e 16 = .ok (.aload_n 0, 1) := by decide +kernel
theorem dJ0_charAt_5068e_17 : decode cJ0_charAt_5068e 17 = .ok (.getfield 9, 3) := by decide +kernel
theorem dJ0_charAt_5068e_20 : decode cJ0_charAt_5068e 20 = .ok (.iload_n 1, 1) := by decide +kernel
theorem dJ0_charAt_5068e_21 : decode cJ0_charAt_5068e 21 = .ok (.invokestatic 498, 3) := by decide +kernel
theorem dJ0_charAt_5068e_24 : decode cJ0_charAt_5068e 24 = .ok (.ireturn, 1) := by decide +kernel
theorem dJ0_coder_7d493_0 : decode cJ0_coder_7d493 0 = .ok (.getstatic 38, 3) := by decide +kernel
theorem dJ0_coder_7d493_3 : decode cJ0_coder_7d493 3 = .ok (.ifCond .eq 10, 3) := by decide +kernel
theorem dJ0_coder_7d493_6 : decode cJ0_coder_7d493 6 = .ok (.aload_n 0, 1) := by decide +kernel
theorem dJ0_coder_7d493_7 : decode cJ0_coder_7d493 7 = .ok (.getfield 15, 3) := by decide +kernel
theorem dJ0_coder_7d493_10 : decode cJ0_coder_7d493 10 = .ok (.goto 4, 3) := by decide +kernel
theorem dJ0_coder_7d493_13 : decode cJ0_coder_7d493 13 = .ok (.iconst 1, 1) := by decide +kernel
theorem dJ0_coder_7d493_14 : decode cJ0_coder_7d493 14 = .ok (.ireturn, 1) := by decide +kernel
theorem dJ0_isLatin1_aae02_0 : decode cJ0_isLatin1_aae02 0 = .ok (.getstatic 38, 3) := by decide +kernel
theorem dJ0_isLatin1_aae02_3 : decode cJ0_isLatin1_aae02 3 = .ok (.ifCond .eq 14, 3) := by decide +kernel
theorem dJ0_isLatin1_aae02_6 : decode cJ0_isLatin1_aae02 6 = .ok (.aload_n 0, 1) := by decide +kernel
theorem dJ0_isLatin1_aae02_7 : decode cJ0_isLatin1_aae02 7 = .ok (.getfield 15, 3) := by decide +kernel
theorem dJ0_isLatin1_aae02_10 : decode cJ0_isLatin1_aae02 10 = .ok (.ifCond .ne 7, 3) := by decide +kernel
theorem dJ0_isLatin1_aae02_13 : decode cJ0_isLatin1_aae02 13 = .ok (.iconst 1, 1) := by decide +kernel
theorem dJ0_isLatin1_aae02_14 : decode cJ0_isLatin1_aae02 14 = .ok (.goto 4, 3) := by decide +kernel
theorem dJ0_isLatin1_aae02_17 : decode cJ0_isLatin1_aae02 17 = .ok (.iconst 0, 1) := by decide +kernel
theorem dJ0_isLatin1_aae02_18 : decode cJ0_isLatin1_aae02 18 = .ok (.ireturn, 1) := by decide +kernel
set_option maxRecDepth 20000 in
theorem ggJ0_checkIndex_df160_J3_checkIndex_8e157 : GoodIn wsJ0_checkIndex_df160 wsJ3_checkIndex_8e157 := goodIn_r _ [5] (by decide +kernel) (by decide +kernel)
set_option maxRecDepth 20000 in
theorem gJ0_checkIndex_df160_J3_checkIndex_8e157 : GoodIn wsJ0_checkIndex_df160 (va_wsS RJ0 1059 yJ3_checkIndex_8e157 wsJ3_checkIndex_8e157) := goodIn_app (goodIn_of _ (by decide +kernel)) ggJ0_checkIndex_df160_J3_checkIndex_8e157
theorem dJ0_checkIndex_df160_0 : decode cJ0_checkIndex_df160 0 = .ok (.iload_n 0, 1) := by decide +kernel
theorem dJ0_checkIndex_df160_1 : decode cJ0_checkIndex_df160 1 = .ok (.iload_n 1, 1) := by decide +kernel
theorem dJ0_checkIndex_df160_2 : decode cJ0_checkIndex_df160 2 = .ok (.getstatic 1053, 3) := by decide +kernel
theorem dJ0_checkIndex_df160_5 : decode cJ0_checkIndex_df160 5 = .ok (.invokestatic 1059, 3) := by decide +kernel
theorem dJ0_checkIndex_df160_8 : decode cJ0_checkIndex_df160 8 = .ok (.pop, 1) := by decide +kernel
theorem dJ0_checkIndex_df160_9 : decode cJ0_checkIndex_df160 9 = .ok (.return_, 1) := by decide +kernel
set_option maxRecDepth 20000 in
theorem ggJ1_charAt_3b067_J0_checkIndex_df160 : GoodIn wsJ1_charAt_3b067 wsJ0_checkIndex_df160 := goodIn_r _ [4, 5, 6, 7, 8, 9] (by decide +kernel) (by decide +kernel)
set_option maxRecDepth 20000 in
theorem gJ1_charAt_3b067_J0_checkIndex_df160 : GoodIn wsJ1_charAt_3b067 (va_wsS RJ1 9 yJ0_checkIndex_df160 wsJ0_checkIndex_df160) := goodIn_app (goodIn_of _ (by decide +kernel)) ggJ1_charAt_3b067_J0_checkIndex_df160
theorem dJ1_charAt_3b067_0 : decode cJ1_charAt_3b067 0 = .ok (.iload_n 1, 1) := by decide +kernel
theorem dJ1_charAt_3b067_1 : decode cJ1_charAt_3b067 1 = .ok (.aload_n 0, 1) := by decide +kernel
theorem dJ1_charAt_3b067_2 : decode cJ1_charAt_3b067 2 = .ok (.arraylength, 1) := by decide +kernel
theorem dJ1_charAt_3b067_3 : decode cJ1_charAt_3b067 3 = .ok (.invokestatic 9, 3) := by decide +kernel
theorem dJ1_charAt_3b067_6 : decode cJ1_charAt_3b067 6 = .ok (.aload_n 0, 1) := by decide +kernel
theorem dJ1_charAt_3b067_7 : decode cJ1_charAt_3b067 7 = .ok (.iload_n 1, 1) := by decide +kernel
theorem dJ1_charAt_3b067_8 : decode cJ1_charAt_3b067 8 = .ok (.baload, 1) := by decide +kernel
theorem dJ1_charAt_3b067_9 : decode cJ1_charAt_3b067 9 = .ok (.sipush 255, 3) := by decide +kernel
theorem dJ1_charAt_3b067_12 : decode cJ1_charAt_3b067 12 = .ok (.iand, 1) := by decide +kernel
theorem dJ1_charAt_3b067_13 : decode cJ1_charAt_3b067 13 = .ok (.i2c, 1) := by decide +kernel
theorem dJ1_charAt_3b067_14 : decode cJ1_charAt_3b067 14 = .ok (.ireturn, 1) := by decide +kernel
set_option maxRecDepth 20000 in
theorem ggJ2_getChar_3b067_J2_length_9d52b : GoodIn wsJ2_getChar_3b067 wsJ2_length_9d52b := goodIn_r _ [7] (by decide +kernel) (by decide +kernel)
set_option maxRecDepth 20000 in
theorem gJ2_getChar_3b067_J2_length_9d52b : GoodIn wsJ2_getChar_3b067 (va_wsS RJ2 48 yJ2_length_9d52b wsJ2_length_9d52b) := goodIn_app (goodIn_of _ (by decide +kernel)) ggJ2_getChar_3b067_J2_length_9d52b
set_option maxRecDepth 20000 in
theorem ggJ2_charAt_3b067_J2_checkIndex_2214a : GoodIn wsJ2_charAt_3b067 wsJ2_checkIndex_2214a := goodIn_r _ [4, 5, 6, 3, 7, 8, 9, 10, 11, 12, 13, 14, 15, 16] (by decide +kernel) (by decide +kernel)
set_option maxRecDepth 20000 in
theorem gJ2_charAt_3b067_J2_checkIndex_2214a : GoodIn wsJ2_charAt_3b067 (va_wsS RJ2 67 yJ2_checkIndex_2214a wsJ2_checkIndex_2214a) := goodIn_app (goodIn_of _ (by decide +kernel)) ggJ2_charAt_3b067_J2_checkIndex_2214a
set_option maxRecDepth 20000 in
theorem ggJ2_charAt_3b067_J2_getChar_3b067 : GoodIn wsJ2_charAt_3b067 wsJ2_getChar_3b067 := goodIn_r _ [19, 20, 21, 22, 5, 6, 3, 7] (by decide +kernel) (by decide +kernel)
set_option maxRecDepth 20000 in
theorem gJ2_charAt_3b067_J2_getChar_3b067 : GoodIn wsJ2_charAt_3b067 (va_wsS RJ2 71 yJ2_getChar_3b067 wsJ2_getChar_3b067) := goodIn_app (goodIn_of _ (by decide +kernel)) ggJ2_charAt_3b067_J2_getChar_3b067
set_option maxRecDepth 20000 in
theorem ggJ2_checkIndex_2214a_J2_length_9d52b : GoodIn wsJ2_checkIndex_2214a wsJ2_length_9d52b := goodIn_r _ [4] (by decide +kernel) (by decide +kernel)
set_option maxRecDepth 20000 in
theorem gJ2_checkIndex_2214a_J2_length_9d52b : GoodIn wsJ2_checkIndex_2214a (va_wsS RJ2 48 yJ2_length_9d52b wsJ2_length_9d52b) := goodIn_app (goodIn_of _ (by decide +kernel)) ggJ2_checkIndex_2214a_J2_length_9d52b
set_option maxRecDepth 20000 in
theorem ggJ2_checkIndex_2214a_J0_checkIndex_df160 : GoodIn wsJ2_checkIndex_2214a wsJ0_checkIndex_df160 := goodIn_r _ [8, 9, 10, 11, 12, 13] (by decide +kernel) (by decide +kernel)
set_option maxRecDepth 20000 in
theorem gJ2_checkIndex_2214a_J0_checkIndex_df160 : GoodIn wsJ2_checkIndex_2214a (va_wsS RJ2 414 yJ0_checkIndex_df160 wsJ0_checkIndex_df160) := goodIn_app (goodIn_of _ (by decide +kernel)) ggJ2_checkIndex_2214a_J0_checkIndex_df160
theorem dJ3_checkIndex_8e157_0 : decode cJ3_checkIndex_8e157 0 = .ok (.iload_n 0, 1) := by decide +kernel
theorem dJ3_checkIndex_8e157_1 : decode cJ3_checkIndex_8e157 1 = .ok (.ifCond .lt 8, 3) := by decide +kernel
theorem dJ3_checkIndex_8e157_4 : decode cJ3_checkIndex_8e157 4 = .ok (.iload_n 0, 1) := by decide +kernel
theorem dJ3_checkIndex_8e157_5 : decode cJ3_checkIndex_8e157 5 = .ok (.iload_n 1, 1) := by decide +kernel
theorem dJ3_checkIndex_8e157_6 : decode cJ3_checkIndex_8e157 6 = .ok (.if_icmp .lt 10, 3) := by decide +kernel
theorem dJ3_checkIndex_8e157_9 : decode cJ3_checkIndex_8e157 9 = .ok (.aload_n 2, 1) := by decide +kernel
theorem dJ3_checkIndex_8e157_10 : decode cJ3_checkIndex_8e157 10 = .ok (.iload_n 0, 1) := by decide +kernel
theorem dJ3_checkIndex_8e157_11 : decode cJ3_checkIndex_8e157 11 = .ok (.iload_n 1, 1) := by decide +kernel
theorem dJ3_checkIndex_8e157_12 : decode cJ3_checkIndex_8e157 12 = .ok (.invokestatic 95, 3) := by decide +kernel
theorem dJ3_checkIndex_8e157_15 : decode cJ3_checkIndex_8e157 15 = .ok (.athrow, 1) := by decide +kernel
theorem dJ3_checkIndex_8e157_16 : decode cJ3_checkIndex_8e157 16 = .ok (.iload_n 0, 1) := by decide +kernel
theorem dJ3_checkIndex_8e157_17 : decode cJ3_checkIndex_8e157 17 = .ok (.ireturn, 1) := by decide +kernel
end
section
/-! ===== the tables of the abstract machine (a program wrote them out of the listing) ===== -/
def a_lk {α : Type} : List (Nat × α) → Nat → Option α
  | [], _ => none
  | q :: r, i => bif Nat.beq q.1 i then some q.2 else a_lk r i
theorem a_lk_mem {α : Type} {v : α} : ∀ {l : List (Nat × α)} {i : Nat}, a_lk l i = some v → (i, v) ∈ l
  | [], i, h => by cases h
  | q :: r, i, h => by
    unfold a_lk at h
    cases hb : Nat.beq q.1 i with
    | true =>
      rw [hb] at h
      have e1 : q.1 = i := Nat.eq_of_beq_eq_true hb
      have e2 : q.2 = v := Option.some.inj h
      rw [← e1, ← e2]
      exact List.mem_cons_self
    | false =>
      rw [hb] at h
      exact List.mem_cons_of_mem _ (a_lk_mem h)
/-- a method: class, name, bytes, locals, answer, handlers, code, kind (0 of an object, 1 static, 2 a constructor), parameters -/
abbrev AMI : Type := Nat × MethodName × ByteArray × Nat × Option FieldType × List (Nat × Nat × Nat × Nat) × List (Nat × Instr × Nat) × Nat × Nat
def mc_0 : List (Nat × Instr × Nat) := [(0, .aload_n 0, 1), (1, .invokespecial 3, 3), (4, .aload_n 0, 1), (5, .sipush 150, 3), (8, .newarray .int, 2), (10, .putfield 9, 3), (13, .aload_n 0, 1), (14, .sipush 150, 3), (17, .newarray .int, 2), (19, .putfield 15, 3), (22, .aload_n 0, 1), (23, .sipush 150, 3), (26, .newarray .int, 2), (28, .putfield 18, 3), (31, .aload_n 0, 1), (32, .bipush 8, 2), (34, .newarray .int, 2), (36, .putfield 21, 3), (39, .return_, 1)]
def mi_0 : AMI := (0, yX0_init, cX0_init, 1, none, [], mc_0, 2, 0)
def mc_1 : List (Nat × Instr × Nat) := [(0, .aload_n 0, 1), (1, .iconst 0, 1), (2, .putfield 24, 3), (5, .return_, 1)]
def mi_1 : AMI := (0, yX0_clear, cX0_clear, 1, none, [], mc_1, 0, 0)
def mc_2 : List (Nat × Instr × Nat) := [(0, .aload_n 0, 1), (1, .getfield 38, 3), (4, .ifCond .ne 7, 3), (7, .iconst 1, 1), (8, .goto 4, 3), (11, .iconst 0, 1), (12, .ireturn, 1)]
def mi_2 : AMI := (5, yX5_isSound, cX5_isSound, 1, (some .boolean), [], mc_2, 0, 0)
def mc_3 : List (Nat × Instr × Nat) := [(0, .aload_n 0, 1), (1, .getfield 35, 3), (4, .aload_n 0, 1), (5, .getfield 32, 3), (8, .if_icmp .ge 30, 3), (11, .aload_n 0, 1), (12, .getfield 9, 3), (15, .aload_n 0, 1), (16, .getfield 35, 3), (19, .baload, 1), (20, .bipush 32, 2), (22, .if_icmp .ne 16, 3), (25, .aload_n 0, 1), (26, .dup, 1), (27, .getfield 35, 3), (30, .iconst 1, 1), (31, .iadd, 1), (32, .putfield 35, 3), (35, .goto (-35), 3), (38, .aload_n 0, 1), (39, .getfield 35, 3), (42, .ireturn, 1)]
def mi_3 : AMI := (5, yX5_nextPlace, cX5_nextPlace, 1, (some .int), [], mc_3, 0, 0)
def mc_4 : List (Nat × Instr × Nat) := [(0, .aload_n 0, 1), (1, .invokevirtual 41, 3), (4, .istore_n 2, 1), (5, .iconst 0, 1), (6, .istore_n 3, 1), (7, .iload_n 3, 1), (8, .aload_n 1, 1), (9, .invokevirtual 56, 3), (12, .if_icmp .ge 43, 3), (15, .iload_n 2, 1), (16, .aload_n 0, 1), (17, .getfield 32, 3), (20, .if_icmp .ge 35, 3), (23, .aload_n 0, 1), (24, .getfield 9, 3), (27, .iload_n 2, 1), (28, .baload, 1), (29, .aload_n 1, 1), (30, .iload_n 3, 1), (31, .invokevirtual 61, 3), (34, .if_icmp .ne 15, 3), (37, .aload_n 0, 1), (38, .dup, 1), (39, .getfield 35, 3), (42, .iconst 1, 1), (43, .iadd, 1), (44, .putfield 35, 3), (47, .iload_n 3, 1), (48, .ireturn, 1), (49, .iinc 3 1, 3), (52, .goto (-45), 3), (55, .iconst (-1), 1), (56, .ireturn, 1)]
def mi_4 : AMI := (5, yX5_takeSign, cX5_takeSign, 4, (some .int), [], mc_4, 0, 1)
def mc_5 : List (Nat × Instr × Nat) := [(0, .aload_n 0, 1), (1, .getfield 28, 3), (4, .aload_n 0, 1), (5, .getfield 15, 3), (8, .arraylength, 1), (9, .if_icmp .ge 23, 3), (12, .aload_n 0, 1), (13, .getfield 15, 3), (16, .aload_n 0, 1), (17, .getfield 28, 3), (20, .iload_n 1, 1), (21, .iastore, 1), (22, .aload_n 0, 1), (23, .dup, 1), (24, .getfield 28, 3), (27, .iconst 1, 1), (28, .iadd, 1), (29, .putfield 28, 3), (32, .return_, 1)]
def mi_5 : AMI := (0, yX0_add, cX0_add, 2, none, [], mc_5, 0, 1)
def mc_6 : List (Nat × Instr × Nat) := [(0, .aload_n 0, 1), (1, .invokevirtual 41, 3), (4, .istore_n 1, 1), (5, .iload_n 1, 1), (6, .aload_n 0, 1), (7, .getfield 32, 3), (10, .if_icmp .ge 29, 3), (13, .aload_n 0, 1), (14, .getfield 9, 3), (17, .iload_n 1, 1), (18, .baload, 1), (19, .bipush 48, 2), (21, .if_icmp .lt 18, 3), (24, .aload_n 0, 1), (25, .getfield 9, 3), (28, .iload_n 1, 1), (29, .baload, 1), (30, .bipush 57, 2), (32, .if_icmp .gt 7, 3), (35, .iconst 1, 1), (36, .goto 4, 3), (39, .iconst 0, 1), (40, .ireturn, 1)]
def mi_6 : AMI := (5, yX5_isDigitNext, cX5_isDigitNext, 2, (some .boolean), [], mc_6, 0, 0)
def mc_7 : List (Nat × Instr × Nat) := [(0, .aload_n 0, 1), (1, .getfield 38, 3), (4, .ifCond .ne 13, 3), (7, .aload_n 0, 1), (8, .iload_n 1, 1), (9, .putfield 38, 3), (12, .aload_n 0, 1), (13, .iload_n 2, 1), (14, .putfield 15, 3), (17, .return_, 1)]
def mi_7 : AMI := (5, yX5_fail, cX5_fail, 3, none, [], mc_7, 0, 2)
def mc_8 : List (Nat × Instr × Nat) := [(0, .aload_n 0, 1), (1, .invokevirtual 45, 3), (4, .ifCond .ne 5, 3), (7, .iconst 0, 1), (8, .ireturn, 1), (9, .aload_n 0, 1), (10, .invokevirtual 69, 3), (13, .ifCond .ne 14, 3), (16, .aload_n 0, 1), (17, .iconst 1, 1), (18, .aload_n 0, 1), (19, .getfield 35, 3), (22, .invokevirtual 52, 3), (25, .iconst 0, 1), (26, .ireturn, 1), (27, .aload_n 0, 1), (28, .getfield 35, 3), (31, .istore_n 2, 1), (32, .iconst 0, 1), (33, .istore_n 3, 1), (34, .aload_n 0, 1), (35, .getfield 35, 3), (38, .aload_n 0, 1), (39, .getfield 32, 3), (42, .if_icmp .ge 67, 3), (45, .aload_n 0, 1), (46, .getfield 9, 3), (49, .aload_n 0, 1), (50, .getfield 35, 3), (53, .baload, 1), (54, .bipush 48, 2), (56, .if_icmp .lt 53, 3), (59, .aload_n 0, 1), (60, .getfield 9, 3), (63, .aload_n 0, 1), (64, .getfield 35, 3), (67, .baload, 1), (68, .bipush 57, 2), (70, .if_icmp .gt 39, 3), (73, .iload_n 3, 1), (74, .bipush 10, 2), (76, .imul, 1), (77, .aload_n 0, 1), (78, .getfield 9, 3), (81, .aload_n 0, 1), (82, .getfield 35, 3), (85, .baload, 1), (86, .iadd, 1), (87, .bipush 48, 2), (89, .isub, 1), (90, .ldc 72, 2), (92, .invokestatic 26, 3), (95, .istore_n 3, 1), (96, .aload_n 0, 1), (97, .dup, 1), (98, .getfield 35, 3), (101, .iconst 1, 1), (102, .iadd, 1), (103, .putfield 35, 3), (106, .goto (-72), 3), (109, .iload_n 3, 1), (110, .iload_n 1, 1), (111, .if_icmp .le 11, 3), (114, .aload_n 0, 1), (115, .iconst 2, 1), (116, .iload_n 2, 1), (117, .invokevirtual 52, 3), (120, .iconst 0, 1), (121, .ireturn, 1), (122, .iload_n 3, 1), (123, .ireturn, 1)]
def mi_8 : AMI := (5, yX5_needNumber, cX5_needNumber, 4, (some .int), [], mc_8, 0, 1)
def mc_9 : List (Nat × Instr × Nat) := [(0, .iconst 0, 1), (1, .istore 5, 2), (3, .iload 5, 2), (5, .iload 4, 2), (7, .if_icmp .ge 31, 3), (10, .aload_n 1, 1), (11, .iload_n 2, 1), (12, .iload 5, 2), (14, .iadd, 1), (15, .invokevirtual 61, 3), (18, .aload_n 0, 1), (19, .getfield 9, 3), (22, .iload_n 3, 1), (23, .iload 5, 2), (25, .iadd, 1), (26, .baload, 1), (27, .if_icmp .eq 5, 3), (30, .iconst 0, 1), (31, .ireturn, 1), (32, .iinc 5 1, 3), (35, .goto (-32), 3), (38, .iconst 1, 1), (39, .ireturn, 1)]
def mi_9 : AMI := (5, yX5_isSpelled, cX5_isSpelled, 6, (some .boolean), [], mc_9, 0, 4)
def mc_10 : List (Nat × Instr × Nat) := [(0, .aload_n 0, 1), (1, .invokevirtual 41, 3), (4, .istore_n 2, 1), (5, .iload_n 2, 1), (6, .istore_n 3, 1), (7, .iload_n 3, 1), (8, .aload_n 0, 1), (9, .getfield 32, 3), (12, .if_icmp .ge 31, 3), (15, .aload_n 0, 1), (16, .getfield 9, 3), (19, .iload_n 3, 1), (20, .baload, 1), (21, .bipush 97, 2), (23, .if_icmp .lt 20, 3), (26, .aload_n 0, 1), (27, .getfield 9, 3), (30, .iload_n 3, 1), (31, .baload, 1), (32, .bipush 122, 2), (34, .if_icmp .gt 9, 3), (37, .iinc 3 1, 3), (40, .goto (-33), 3), (43, .iconst 0, 1), (44, .istore 4, 2), (46, .iconst 0, 1), (47, .istore 5, 2), (49, .iconst 0, 1), (50, .istore 6, 2), (52, .iload 6, 2), (54, .aload_n 1, 1), (55, .invokevirtual 56, 3), (58, .if_icmp .gt 78, 3), (61, .aload_n 0, 1), (62, .invokevirtual 45, 3), (65, .ifCond .eq 71, 3), (68, .iload 6, 2), (70, .aload_n 1, 1), (71, .invokevirtual 56, 3), (74, .if_icmp .eq 14, 3), (77, .aload_n 1, 1), (78, .iload 6, 2), (80, .invokevirtual 61, 3), (83, .bipush 32, 2), (85, .if_icmp .ne 45, 3), (88, .iload 6, 2), (90, .iload 5, 2), (92, .isub, 1), (93, .iload_n 3, 1), (94, .iload_n 2, 1), (95, .isub, 1), (96, .if_icmp .ne 25, 3), (99, .aload_n 0, 1), (100, .aload_n 1, 1), (101, .iload 5, 2), (103, .iload_n 2, 1), (104, .iload_n 3, 1), (105, .iload_n 2, 1), (106, .isub, 1), (107, .invokevirtual 73, 3), (110, .ifCond .eq 11, 3), (113, .aload_n 0, 1), (114, .iload_n 3, 1), (115, .putfield 35, 3), (118, .iload 4, 2), (120, .ireturn, 1), (121, .iinc 4 1, 3), (124, .iload 6, 2), (126, .iconst 1, 1), (127, .iadd, 1), (128, .istore 5, 2), (130, .iinc 6 1, 3), (133, .goto (-81), 3), (136, .aload_n 0, 1), (137, .iconst 1, 1), (138, .iload_n 2, 1), (139, .invokevirtual 52, 3), (142, .iconst (-1), 1), (143, .ireturn, 1)]
def mi_10 : AMI := (5, yX5_needWord, cX5_needWord, 7, (some .int), [], mc_10, 0, 1)
def mc_11 : List (Nat × Instr × Nat) := [(0, .aload_n 0, 1), (1, .invokevirtual 45, 3), (4, .ifCond .eq 21, 3), (7, .aload_n 0, 1), (8, .aload_n 1, 1), (9, .invokevirtual 65, 3), (12, .iconst (-1), 1), (13, .if_icmp .ne 12, 3), (16, .aload_n 0, 1), (17, .iconst 1, 1), (18, .aload_n 0, 1), (19, .getfield 35, 3), (22, .invokevirtual 52, 3), (25, .return_, 1)]
def mi_11 : AMI := (5, yX5_needSign, cX5_needSign, 2, none, [], mc_11, 0, 1)
def mc_12 : List (Nat × Instr × Nat) := [(0, .aload_n 0, 1), (1, .aload_n 1, 1), (2, .iload_n 2, 1), (3, .invokevirtual 63, 3), (6, .iconst 0, 1), (7, .istore_n 3, 1), (8, .iload_n 3, 1), (9, .sipush 150, 3), (12, .if_icmp .ge 47, 3), (15, .aload_n 1, 1), (16, .invokevirtual 40, 3), (19, .ifCond .eq 40, 3), (22, .aload_n 1, 1), (23, .ldc 66, 2), (25, .invokevirtual 55, 3), (28, .istore 4, 2), (30, .iload 4, 2), (32, .iconst (-1), 1), (33, .if_icmp .ne 4, 3), (36, .return_, 1), (37, .aload_n 0, 1), (38, .aload_n 1, 1), (39, .iload_n 2, 1), (40, .invokevirtual 63, 3), (43, .aload_n 0, 1), (44, .sipush 2002, 3), (47, .iload 4, 2), (49, .iadd, 1), (50, .invokevirtual 59, 3), (53, .iinc 3 1, 3), (56, .goto (-48), 3), (59, .return_, 1)]
def mi_12 : AMI := (0, yX0_readProduct, cX0_readProduct, 5, none, [], mc_12, 0, 2)
def mc_13 : List (Nat × Instr × Nat) := [(0, .aload_n 0, 1), (1, .aload_n 1, 1), (2, .iload_n 2, 1), (3, .invokevirtual 50, 3), (6, .iconst 0, 1), (7, .istore_n 3, 1), (8, .iload_n 3, 1), (9, .sipush 150, 3), (12, .if_icmp .ge 47, 3), (15, .aload_n 1, 1), (16, .invokevirtual 40, 3), (19, .ifCond .eq 40, 3), (22, .aload_n 1, 1), (23, .ldc 53, 2), (25, .invokevirtual 55, 3), (28, .istore 4, 2), (30, .iload 4, 2), (32, .iconst (-1), 1), (33, .if_icmp .ne 4, 3), (36, .return_, 1), (37, .aload_n 0, 1), (38, .aload_n 1, 1), (39, .iload_n 2, 1), (40, .invokevirtual 50, 3), (43, .aload_n 0, 1), (44, .sipush 2000, 3), (47, .iload 4, 2), (49, .iadd, 1), (50, .invokevirtual 59, 3), (53, .iinc 3 1, 3), (56, .goto (-48), 3), (59, .return_, 1)]
def mi_13 : AMI := (0, yX0_readSum, cX0_readSum, 5, none, [], mc_13, 0, 2)
def mc_14 : List (Nat × Instr × Nat) := [(0, .aload_n 1, 1), (1, .invokevirtual 68, 3), (4, .ifCond .eq 15, 3), (7, .aload_n 0, 1), (8, .aload_n 1, 1), (9, .sipush 999, 3), (12, .invokevirtual 71, 3), (15, .invokevirtual 59, 3), (18, .return_, 1), (19, .aload_n 1, 1), (20, .invokevirtual 75, 3), (23, .istore_n 3, 1), (24, .aload_n 1, 1), (25, .ldc 79, 2), (27, .invokevirtual 55, 3), (30, .iconst (-1), 1), (31, .if_icmp .eq 7, 3), (34, .iconst 1, 1), (35, .goto 4, 3), (38, .iconst 0, 1), (39, .istore 4, 2), (41, .iload 4, 2), (43, .ifCond .eq 7, 3), (46, .iconst (-1), 1), (47, .goto 9, 3), (50, .aload_n 1, 1), (51, .ldc 81, 2), (53, .invokevirtual 83, 3), (56, .istore 5, 2), (58, .iload 5, 2), (60, .iconst (-1), 1), (61, .if_icmp .eq 21, 3), (64, .iload 5, 2), (66, .bipush 8, 2), (68, .if_icmp .ge 14, 3), (71, .aload_n 0, 1), (72, .sipush 1000, 3), (75, .iload 5, 2), (77, .iadd, 1), (78, .invokevirtual 59, 3), (81, .return_, 1), (82, .iload_n 2, 1), (83, .bipush 6, 2), (85, .if_icmp .lt 9, 3), (88, .aload_n 1, 1), (89, .iconst 3, 1), (90, .iload_n 3, 1), (91, .invokevirtual 86, 3), (94, .aload_n 1, 1), (95, .invokevirtual 40, 3), (98, .ifCond .ne 4, 3), (101, .return_, 1), (102, .iload 4, 2), (104, .ifCond .eq 20, 3), (107, .aload_n 0, 1), (108, .aload_n 1, 1), (109, .iload_n 2, 1), (110, .iconst 1, 1), (111, .iadd, 1), (112, .invokevirtual 31, 3), (115, .aload_n 1, 1), (116, .ldc 90, 2), (118, .invokevirtual 92, 3), (121, .goto 50, 3), (124, .aload_n 1, 1), (125, .ldc 96, 2), (127, .invokevirtual 92, 3), (130, .aload_n 0, 1), (131, .aload_n 1, 1), (132, .iload_n 2, 1), (133, .iconst 1, 1), (134, .iadd, 1), (135, .invokevirtual 31, 3), (138, .aload_n 1, 1), (139, .ldc 98, 2), (141, .invokevirtual 92, 3), (144, .aload_n 0, 1), (145, .aload_n 1, 1), (146, .iload_n 2, 1), (147, .iconst 1, 1), (148, .iadd, 1), (149, .invokevirtual 31, 3), (152, .aload_n 1, 1), (153, .ldc 100, 2), (155, .invokevirtual 92, 3), (158, .aload_n 0, 1), (159, .sipush 2005, 3), (162, .iload 5, 2), (164, .iadd, 1), (165, .bipush 8, 2), (167, .isub, 1), (168, .invokevirtual 59, 3), (171, .return_, 1)]
def mi_14 : AMI := (0, yX0_readUnit, cX0_readUnit, 6, none, [], mc_14, 0, 2)
def mc_15 : List (Nat × Instr × Nat) := [(0, .aload_n 0, 1), (1, .invokevirtual 45, 3), (4, .ifCond .eq 18, 3), (7, .aload_n 0, 1), (8, .invokevirtual 41, 3), (11, .aload_n 0, 1), (12, .getfield 32, 3), (15, .if_icmp .ge 7, 3), (18, .iconst 1, 1), (19, .goto 4, 3), (22, .iconst 0, 1), (23, .ireturn, 1)]
def mi_15 : AMI := (5, yX5_hasMore, cX5_hasMore, 1, (some .boolean), [], mc_15, 0, 0)
def mc_16 : List (Nat × Instr × Nat) := [(0, .aload_n 0, 1), (1, .invokevirtual 49, 3), (4, .ifCond .eq 12, 3), (7, .aload_n 0, 1), (8, .iconst 1, 1), (9, .aload_n 0, 1), (10, .getfield 35, 3), (13, .invokevirtual 52, 3), (16, .return_, 1)]
def mi_16 : AMI := (5, yX5_needEnd, cX5_needEnd, 1, none, [], mc_16, 0, 0)
def mc_17 : List (Nat × Instr × Nat) := [(0, .aload_n 0, 1), (1, .iconst 0, 1), (2, .putfield 28, 3), (5, .aload_n 0, 1), (6, .aload_n 1, 1), (7, .iconst 0, 1), (8, .invokevirtual 31, 3), (11, .aload_n 1, 1), (12, .invokevirtual 35, 3), (15, .aload_n 1, 1), (16, .invokevirtual 40, 3), (19, .ifCond .eq 27, 3), (22, .aload_n 0, 1), (23, .getfield 15, 3), (26, .iconst 0, 1), (27, .aload_n 0, 1), (28, .getfield 9, 3), (31, .iconst 0, 1), (32, .sipush 150, 3), (35, .invokestatic 44, 3), (38, .aload_n 0, 1), (39, .aload_n 0, 1), (40, .getfield 28, 3), (43, .putfield 24, 3), (46, .return_, 1)]
def mi_17 : AMI := (0, yX0_readLaw, cX0_readLaw, 2, none, [], mc_17, 0, 1)
def mc_18 : List (Nat × Instr × Nat) := [(0, .iload_n 0, 1), (1, .ifCond .ge 7, 3), (4, .iconst 0, 1), (5, .goto 15, 3), (8, .iload_n 0, 1), (9, .bipush 99, 2), (11, .if_icmp .le 8, 3), (14, .bipush 99, 2), (16, .goto 4, 3), (19, .iload_n 0, 1), (20, .ireturn, 1)]
def mi_18 : AMI := (0, yX0_bounded, cX0_bounded, 1, (some .int), [], mc_18, 1, 1)
def mc_19 : List (Nat × Instr × Nat) := [(0, .iload_n 0, 1), (1, .tableswitch 86 2000 2005 #[39, 43, 47, 51, 63, 75], 39), (40, .iload_n 1, 1), (41, .iload_n 2, 1), (42, .iadd, 1), (43, .ireturn, 1), (44, .iload_n 1, 1), (45, .iload_n 2, 1), (46, .isub, 1), (47, .ireturn, 1), (48, .iload_n 1, 1), (49, .iload_n 2, 1), (50, .imul, 1), (51, .ireturn, 1), (52, .iload_n 2, 1), (53, .ifCond .ne 7, 3), (56, .iconst 0, 1), (57, .goto 6, 3), (60, .iload_n 1, 1), (61, .iload_n 2, 1), (62, .idiv, 1), (63, .ireturn, 1), (64, .iload_n 2, 1), (65, .ifCond .ne 7, 3), (68, .iconst 0, 1), (69, .goto 6, 3), (72, .iload_n 1, 1), (73, .iload_n 2, 1), (74, .irem, 1), (75, .ireturn, 1), (76, .iload_n 1, 1), (77, .iload_n 2, 1), (78, .if_icmp .gt 7, 3), (81, .iload_n 1, 1), (82, .goto 4, 3), (85, .iload_n 2, 1), (86, .ireturn, 1), (87, .iload_n 1, 1), (88, .iload_n 2, 1), (89, .if_icmp .lt 7, 3), (92, .iload_n 1, 1), (93, .goto 4, 3), (96, .iload_n 2, 1), (97, .ireturn, 1)]
def mi_19 : AMI := (0, yX0_joined, cX0_joined, 3, (some .int), [], mc_19, 1, 3)
def mc_20_0 : List (Nat × Instr × Nat) := [(0, .iload_n 1, 1), (1, .iload_n 2, 1), (2, .iadd, 1), (3, .iload_n 3, 1), (4, .iadd, 1), (5, .iload 4, 2), (7, .iadd, 1), (8, .istore 8, 2), (10, .aload_n 0, 1), (11, .getfield 24, 3), (14, .ifCond .ne 25, 3), (17, .iload 8, 2), (19, .ifCond .lt 18, 3), (22, .iload_n 1, 1), (23, .bipush 90, 2), (25, .imul, 1), (26, .iload 8, 2), (28, .iconst 1, 1), (29, .iadd, 1), (30, .idiv, 1), (31, .invokestatic 102, 3), (34, .goto 4, 3), (37, .iconst 0, 1), (38, .ireturn, 1), (39, .aload_n 0, 1), (40, .getfield 21, 3), (43, .iconst 0, 1), (44, .iload_n 1, 1), (45, .iastore, 1), (46, .aload_n 0, 1), (47, .getfield 21, 3), (50, .iconst 1, 1), (51, .iload_n 2, 1), (52, .iastore, 1), (53, .aload_n 0, 1), (54, .getfield 21, 3), (57, .iconst 2, 1), (58, .iload_n 3, 1), (59, .iastore, 1), (60, .aload_n 0, 1), (61, .getfield 21, 3), (64, .iconst 3, 1), (65, .iload 4, 2), (67, .iastore, 1), (68, .aload_n 0, 1), (69, .getfield 21, 3), (72, .iconst 4, 1), (73, .iload 8, 2), (75, .iastore, 1), (76, .aload_n 0, 1), (77, .getfield 21, 3), (80, .iconst 5, 1), (81, .iload 5, 2), (83, .iastore, 1), (84, .aload_n 0, 1), (85, .getfield 21, 3), (88, .bipush 6, 2), (90, .iload 6, 2), (92, .iastore, 1), (93, .aload_n 0, 1), (94, .getfield 21, 3), (97, .bipush 7, 2), (99, .iload 7, 2), (101, .iastore, 1), (102, .iconst 0, 1), (103, .istore 9, 2), (105, .iconst 0, 1), (106, .istore 10, 2), (108, .iload 10, 2), (110, .aload_n 0, 1), (111, .getfield 24, 3), (114, .if_icmp .ge 102, 3), (117, .aload_n 0, 1), (118, .getfield 9, 3), (121, .iload 10, 2), (123, .iaload, 1), (124, .istore 11, 2), (126, .iload 11, 2), (128, .sipush 2000, 3), (131, .if_icmp .ge 40, 3), (134, .aload_n 0, 1), (135, .getfield 18, 3), (138, .iload 9, 2), (140, .iload 11, 2), (142, .sipush 1000, 3), (145, .if_icmp .ge 8, 3), (148, .iload 11, 2), (150, .goto 14, 3), (153, .aload_n 0, 1), (154, .getfield 21, 3), (157, .iload 11, 2), (159, .sipush 1000, 3), (162, .isub, 1), (163, .iaload, 1), (164, .iastore, 1), (165, .iinc 9 1, 3), (168, .goto 42, 3), (171, .iload 9, 2), (173, .iconst 1, 1), (174, .if_icmp .le 36, 3)]
def mc_20_1 : List (Nat × Instr × Nat) := [(177, .iinc 9 (-1), 3), (180, .aload_n 0, 1), (181, .getfield 18, 3), (184, .iload 9, 2), (186, .iconst 1, 1), (187, .isub, 1), (188, .iload 11, 2), (190, .aload_n 0, 1), (191, .getfield 18, 3), (194, .iload 9, 2), (196, .iconst 1, 1), (197, .isub, 1), (198, .iaload, 1), (199, .aload_n 0, 1), (200, .getfield 18, 3), (203, .iload 9, 2), (205, .iaload, 1), (206, .invokestatic 105, 3), (209, .iastore, 1), (210, .iinc 10 1, 3), (213, .goto (-105), 3), (216, .aload_n 0, 1), (217, .getfield 18, 3), (220, .iconst 0, 1), (221, .iaload, 1), (222, .invokestatic 102, 3), (225, .ireturn, 1)]
def mc_20 : List (Nat × Instr × Nat) := mc_20_0 ++ (mc_20_1)
def mi_20 : AMI := (0, yX0_power, cX0_power, 12, (some .int), [], mc_20, 0, 7)
def mc_21 : List (Nat × Instr × Nat) := [(0, .aload_n 0, 1), (1, .invokespecial 5, 3), (4, .aload_n 0, 1), (5, .sipush 544, 3), (8, .newarray .int, 2), (10, .putfield 11, 3), (13, .aload_n 0, 1), (14, .sipush 1734, 3), (17, .newarray .int, 2), (19, .putfield 15, 3), (22, .aload_n 0, 1), (23, .iconst 3, 1), (24, .newarray .int, 2), (26, .putfield 18, 3), (29, .return_, 1)]
def mi_21 : AMI := (1, yX1_init, cX1_init, 1, none, [], mc_21, 2, 0)
def mc_22 : List (Nat × Instr × Nat) := [(0, .aload_n 0, 1), (1, .iconst 0, 1), (2, .putfield 21, 3), (5, .aload_n 0, 1), (6, .iconst 0, 1), (7, .putfield 25, 3), (10, .return_, 1)]
def mi_22 : AMI := (1, yX1_forget, cX1_forget, 1, none, [], mc_22, 0, 0)
def mc_23 : List (Nat × Instr × Nat) := [(0, .aload_n 0, 1), (1, .getfield 21, 3), (4, .bipush 16, 2), (6, .if_icmp .lt 7, 3), (9, .iconst 1, 1), (10, .goto 4, 3), (13, .iconst 0, 1), (14, .ireturn, 1)]
def mi_23 : AMI := (1, yX1_isFull, cX1_isFull, 1, (some .boolean), [], mc_23, 0, 0)
def mc_24 : List (Nat × Instr × Nat) := [(0, .aload_n 0, 1), (1, .invokevirtual 28, 3), (4, .ifCond .ne 34, 3), (7, .aload_n 1, 1), (8, .getfield 32, 3), (11, .iconst 0, 1), (12, .aload_n 0, 1), (13, .getfield 11, 3), (16, .aload_n 0, 1), (17, .getfield 21, 3), (20, .bipush 34, 2), (22, .imul, 1), (23, .bipush 34, 2), (25, .invokestatic 35, 3), (28, .aload_n 0, 1), (29, .dup, 1), (30, .getfield 21, 3), (33, .iconst 1, 1), (34, .iadd, 1), (35, .putfield 21, 3), (38, .return_, 1)]
def mi_24 : AMI := (1, yX1_keepWork, cX1_keepWork, 2, none, [], mc_24, 0, 1)
def mc_25 : List (Nat × Instr × Nat) := [(0, .aload_n 0, 1), (1, .getfield 21, 3), (4, .ifCond .le 34, 3), (7, .aload_n 0, 1), (8, .dup, 1), (9, .getfield 21, 3), (12, .iconst 1, 1), (13, .isub, 1), (14, .putfield 21, 3), (17, .aload_n 0, 1), (18, .getfield 11, 3), (21, .aload_n 0, 1), (22, .getfield 21, 3), (25, .bipush 34, 2), (27, .imul, 1), (28, .aload_n 1, 1), (29, .getfield 32, 3), (32, .iconst 0, 1), (33, .bipush 34, 2), (35, .invokestatic 35, 3), (38, .return_, 1)]
def mi_25 : AMI := (1, yX1_takeWork, cX1_takeWork, 2, none, [], mc_25, 0, 1)
def mc_26 : List (Nat × Instr × Nat) := [(0, .aload_n 0, 1), (1, .getfield 25, 3), (4, .iconst 3, 1), (5, .if_icmp .ge 73, 3), (8, .aload_n 0, 1), (9, .getfield 25, 3), (12, .sipush 578, 3), (15, .imul, 1), (16, .istore_n 2, 1), (17, .aload_n 1, 1), (18, .getfield 32, 3), (21, .iconst 0, 1), (22, .aload_n 0, 1), (23, .getfield 15, 3), (26, .iload_n 2, 1), (27, .bipush 34, 2), (29, .invokestatic 35, 3), (32, .aload_n 0, 1), (33, .getfield 11, 3), (36, .iconst 0, 1), (37, .aload_n 0, 1), (38, .getfield 15, 3), (41, .iload_n 2, 1), (42, .bipush 34, 2), (44, .iadd, 1), (45, .aload_n 0, 1), (46, .getfield 21, 3), (49, .bipush 34, 2), (51, .imul, 1), (52, .invokestatic 35, 3), (55, .aload_n 0, 1), (56, .getfield 18, 3), (59, .aload_n 0, 1), (60, .getfield 25, 3), (63, .aload_n 0, 1), (64, .getfield 21, 3), (67, .iastore, 1), (68, .aload_n 0, 1), (69, .dup, 1), (70, .getfield 25, 3), (73, .iconst 1, 1), (74, .iadd, 1), (75, .putfield 25, 3), (78, .return_, 1)]
def mi_26 : AMI := (1, yX1_keepImage, cX1_keepImage, 3, none, [], mc_26, 0, 1)
def mc_27 : List (Nat × Instr × Nat) := [(0, .aload_n 0, 1), (1, .getfield 25, 3), (4, .ifCond .le 73, 3), (7, .aload_n 0, 1), (8, .dup, 1), (9, .getfield 25, 3), (12, .iconst 1, 1), (13, .isub, 1), (14, .putfield 25, 3), (17, .aload_n 0, 1), (18, .aload_n 0, 1), (19, .getfield 18, 3), (22, .aload_n 0, 1), (23, .getfield 25, 3), (26, .iaload, 1), (27, .putfield 21, 3), (30, .aload_n 0, 1), (31, .getfield 25, 3), (34, .sipush 578, 3), (37, .imul, 1), (38, .istore_n 2, 1), (39, .aload_n 0, 1), (40, .getfield 15, 3), (43, .iload_n 2, 1), (44, .aload_n 1, 1), (45, .getfield 32, 3), (48, .iconst 0, 1), (49, .bipush 34, 2), (51, .invokestatic 35, 3), (54, .aload_n 0, 1), (55, .getfield 15, 3), (58, .iload_n 2, 1), (59, .bipush 34, 2), (61, .iadd, 1), (62, .aload_n 0, 1), (63, .getfield 11, 3), (66, .iconst 0, 1), (67, .aload_n 0, 1), (68, .getfield 21, 3), (71, .bipush 34, 2), (73, .imul, 1), (74, .invokestatic 35, 3), (77, .return_, 1)]
def mi_27 : AMI := (1, yX1_takeImage, cX1_takeImage, 3, none, [], mc_27, 0, 1)
def mc_28 : List (Nat × Instr × Nat) := [(0, .aload_n 0, 1), (1, .invokespecial 3, 3), (4, .aload_n 0, 1), (5, .iconst 5, 1), (6, .putfield 9, 3), (9, .aload_n 0, 1), (10, .bipush 24, 2), (12, .newarray .int, 2), (14, .putfield 15, 3), (17, .aload_n 0, 1), (18, .bipush 12, 2), (20, .newarray .int, 2), (22, .putfield 19, 3), (25, .aload_n 0, 1), (26, .iconst 4, 1), (27, .newarray .int, 2), (29, .putfield 22, 3), (32, .aload_n 0, 1), (33, .bipush 8, 2), (35, .newarray .int, 2), (37, .putfield 25, 3), (40, .aload_n 0, 1), (41, .bipush 8, 2), (43, .newarray .int, 2), (45, .putfield 28, 3), (48, .aload_n 0, 1), (49, .iconst 4, 1), (50, .newarray .int, 2), (52, .dup, 1), (53, .iconst 0, 1), (54, .iconst (-1), 1), (55, .iastore, 1), (56, .dup, 1), (57, .iconst 1, 1), (58, .iconst (-1), 1), (59, .iastore, 1), (60, .dup, 1), (61, .iconst 2, 1), (62, .iconst (-1), 1), (63, .iastore, 1), (64, .dup, 1), (65, .iconst 3, 1), (66, .iconst (-1), 1), (67, .iastore, 1), (68, .putfield 31, 3), (71, .aload_n 0, 1), (72, .new 34, 3), (75, .dup, 1), (76, .invokespecial 36, 3), (79, .putfield 37, 3), (82, .return_, 1)]
def mi_28 : AMI := (2, yX2_init, cX2_init, 1, none, [], mc_28, 2, 0)
def mc_29 : List (Nat × Instr × Nat) := [(0, .aload_n 0, 1), (1, .getfield 19, 3), (4, .iload_n 1, 1), (5, .iconst 3, 1), (6, .imul, 1), (7, .iload_n 2, 1), (8, .iadd, 1), (9, .iaload, 1), (10, .ireturn, 1)]
def mi_29 : AMI := (2, yX2_shareOf, cX2_shareOf, 3, (some .int), [], mc_29, 0, 2)
def mc_30 : List (Nat × Instr × Nat) := [(0, .aload_n 0, 1), (1, .iconst 0, 1), (2, .putfield 81, 3), (5, .aload_n 0, 1), (6, .iconst 0, 1), (7, .putfield 84, 3), (10, .aload_n 0, 1), (11, .iconst 0, 1), (12, .putfield 87, 3), (15, .aload_n 0, 1), (16, .iconst 5, 1), (17, .putfield 9, 3), (20, .aload_n 0, 1), (21, .iconst 0, 1), (22, .putfield 90, 3), (25, .aload_n 0, 1), (26, .iconst 0, 1), (27, .putfield 93, 3), (30, .iconst 0, 1), (31, .istore_n 1, 1), (32, .iload_n 1, 1), (33, .iconst 4, 1), (34, .if_icmp .ge 16, 3), (37, .aload_n 0, 1), (38, .getfield 31, 3), (41, .iload_n 1, 1), (42, .iconst (-1), 1), (43, .iastore, 1), (44, .iinc 1 1, 3), (47, .goto (-15), 3), (50, .aload_n 0, 1), (51, .getfield 37, 3), (54, .invokevirtual 96, 3), (57, .return_, 1)]
def mi_30 : AMI := (2, yX2_clear, cX2_clear, 2, none, [], mc_30, 0, 0)
def mc_31 : List (Nat × Instr × Nat) := [(0, .iload_n 1, 1), (1, .tableswitch 70 0 2 #[27, 42, 56], 27), (28, .aload_n 0, 1), (29, .getfield 81, 3), (32, .bipush 6, 2), (34, .if_icmp .ne 7, 3), (37, .iconst 1, 1), (38, .goto 4, 3), (41, .iconst 0, 1), (42, .ireturn, 1), (43, .aload_n 0, 1), (44, .getfield 84, 3), (47, .iconst 4, 1), (48, .if_icmp .ne 7, 3), (51, .iconst 1, 1), (52, .goto 4, 3), (55, .iconst 0, 1), (56, .ireturn, 1), (57, .aload_n 0, 1), (58, .getfield 87, 3), (61, .iconst 4, 1), (62, .if_icmp .ne 7, 3), (65, .iconst 1, 1), (66, .goto 4, 3), (69, .iconst 0, 1), (70, .ireturn, 1), (71, .iconst 0, 1), (72, .ireturn, 1)]
def mi_31 : AMI := (2, yX2_hasTooMany, cX2_hasTooMany, 2, (some .boolean), [], mc_31, 0, 1)
def mc_32 : List (Nat × Instr × Nat) := [(0, .iload_n 2, 1), (1, .istore 5, 2), (3, .iload 5, 2), (5, .iload_n 2, 1), (6, .iload_n 3, 1), (7, .iadd, 1), (8, .if_icmp .ge 26, 3), (11, .iload 5, 2), (13, .aload_n 1, 1), (14, .arraylength, 1), (15, .if_icmp .ge 19, 3), (18, .aload_n 1, 1), (19, .iload 5, 2), (21, .aload_n 0, 1), (22, .iload 4, 2), (24, .invokevirtual 101, 3), (27, .iastore, 1), (28, .iinc 5 1, 3), (31, .goto (-28), 3), (34, .return_, 1)]
def mi_32 : AMI := (2, yX2_readNumbers, cX2_readNumbers, 6, none, [], mc_32, 1, 5)
def mc_33 : List (Nat × Instr × Nat) := [(0, .iload_n 2, 1), (1, .tableswitch 115 0 2 #[27, 58, 88], 27), (28, .aload_n 1, 1), (29, .aload_n 0, 1), (30, .getfield 15, 3), (33, .aload_n 0, 1), (34, .getfield 81, 3), (37, .iconst 4, 1), (38, .imul, 1), (39, .iconst 4, 1), (40, .sipush 999, 3), (43, .invokestatic 97, 3), (46, .aload_n 0, 1), (47, .dup, 1), (48, .getfield 81, 3), (51, .iconst 1, 1), (52, .iadd, 1), (53, .putfield 81, 3), (56, .goto 70, 3), (59, .aload_n 1, 1), (60, .aload_n 0, 1), (61, .getfield 19, 3), (64, .aload_n 0, 1), (65, .getfield 84, 3), (68, .iconst 3, 1), (69, .imul, 1), (70, .iconst 3, 1), (71, .bipush 10, 2), (73, .invokestatic 97, 3), (76, .aload_n 0, 1), (77, .dup, 1), (78, .getfield 84, 3), (81, .iconst 1, 1), (82, .iadd, 1), (83, .putfield 84, 3), (86, .goto 40, 3), (89, .aload_n 1, 1), (90, .aload_n 0, 1), (91, .getfield 22, 3), (94, .aload_n 0, 1), (95, .getfield 87, 3), (98, .iconst 1, 1), (99, .iconst 2, 1), (100, .invokestatic 97, 3), (103, .aload_n 0, 1), (104, .dup, 1), (105, .getfield 87, 3), (108, .iconst 1, 1), (109, .iadd, 1), (110, .putfield 87, 3), (113, .goto 13, 3), (116, .aload_n 0, 1), (117, .aload_n 1, 1), (118, .bipush 50, 2), (120, .invokevirtual 101, 3), (123, .putfield 9, 3), (126, .return_, 1)]
def mi_33 : AMI := (2, yX2_readClause, cX2_readClause, 3, none, [], mc_33, 0, 2)
def mc_34 : List (Nat × Instr × Nat) := [(0, .aload_n 0, 1), (1, .invokevirtual 41, 3), (4, .iconst 0, 1), (5, .istore_n 2, 1), (6, .iload_n 2, 1), (7, .bipush 60, 2), (9, .if_icmp .gt 76, 3), (12, .aload_n 1, 1), (13, .invokevirtual 44, 3), (16, .ifCond .eq 69, 3), (19, .aload_n 1, 1), (20, .invokevirtual 50, 3), (23, .istore_n 3, 1), (24, .aload_n 1, 1), (25, .ldc 54, 2), (27, .invokevirtual 56, 3), (30, .istore 4, 2), (32, .iload 4, 2), (34, .iconst (-1), 1), (35, .if_icmp .eq 24, 3), (38, .iload_n 2, 1), (39, .bipush 60, 2), (41, .if_icmp .eq 12, 3), (44, .aload_n 0, 1), (45, .iload 4, 2), (47, .invokevirtual 60, 3), (50, .ifCond .eq 9, 3), (53, .aload_n 1, 1), (54, .iconst 3, 1), (55, .iload_n 3, 1), (56, .invokevirtual 64, 3), (59, .aload_n 1, 1), (60, .invokevirtual 68, 3), (63, .ifCond .eq 10, 3), (66, .aload_n 0, 1), (67, .aload_n 1, 1), (68, .iload 4, 2), (70, .invokevirtual 71, 3), (73, .aload_n 1, 1), (74, .ldc 75, 2), (76, .invokevirtual 77, 3), (79, .iinc 2 1, 3), (82, .goto (-76), 3), (85, .return_, 1)]
def mi_34 : AMI := (2, yX2_readClauses, cX2_readClauses, 5, none, [], mc_34, 0, 1)
def mc_35 : List (Nat × Instr × Nat) := [(0, .iconst 0, 1), (1, .istore_n 2, 1), (2, .iconst 0, 1), (3, .istore_n 3, 1), (4, .iload_n 3, 1), (5, .bipush 8, 2), (7, .if_icmp .gt 68, 3), (10, .aload_n 1, 1), (11, .invokevirtual 44, 3), (14, .ifCond .eq 61, 3), (17, .aload_n 1, 1), (18, .invokevirtual 50, 3), (21, .istore 4, 2), (23, .aload_n 1, 1), (24, .aload_n 0, 1), (25, .getfield 87, 3), (28, .iconst 1, 1), (29, .isub, 1), (30, .invokevirtual 101, 3), (33, .istore 5, 2), (35, .iload_n 3, 1), (36, .bipush 8, 2), (38, .if_icmp .ne 13, 3), (41, .aload_n 1, 1), (42, .iconst 3, 1), (43, .iload 4, 2), (45, .invokevirtual 64, 3), (48, .goto 15, 3), (51, .aload_n 0, 1), (52, .getfield 28, 3), (55, .iload_n 3, 1), (56, .iload 5, 2), (58, .iastore, 1), (59, .iload_n 3, 1), (60, .iconst 1, 1), (61, .iadd, 1), (62, .istore_n 2, 1), (63, .aload_n 1, 1), (64, .ldc 75, 2), (66, .invokevirtual 77, 3), (69, .iinc 3 1, 3), (72, .goto (-68), 3), (75, .aload_n 1, 1), (76, .invokevirtual 68, 3), (79, .ifCond .eq 23, 3), (82, .aload_n 0, 1), (83, .getfield 28, 3), (86, .iconst 0, 1), (87, .aload_n 0, 1), (88, .getfield 25, 3), (91, .iconst 0, 1), (92, .bipush 8, 2), (94, .invokestatic 105, 3), (97, .aload_n 0, 1), (98, .iload_n 2, 1), (99, .putfield 90, 3), (102, .return_, 1)]
def mi_35 : AMI := (2, yX2_readStack, cX2_readStack, 6, none, [], mc_35, 0, 1)
def mc_36 : List (Nat × Instr × Nat) := [(0, .iconst 0, 1), (1, .istore_n 2, 1), (2, .iload_n 2, 1), (3, .iconst 4, 1), (4, .if_icmp .ge 16, 3), (7, .aload_n 0, 1), (8, .getfield 28, 3), (11, .iload_n 2, 1), (12, .iconst (-1), 1), (13, .iastore, 1), (14, .iinc 2 1, 3), (17, .goto (-15), 3), (20, .iconst 0, 1), (21, .istore_n 2, 1), (22, .iconst 0, 1), (23, .istore_n 3, 1), (24, .iload_n 3, 1), (25, .iconst 4, 1), (26, .if_icmp .gt 71, 3), (29, .aload_n 1, 1), (30, .invokevirtual 44, 3), (33, .ifCond .eq 64, 3), (36, .aload_n 1, 1), (37, .invokevirtual 50, 3), (40, .istore 4, 2), (42, .aload_n 1, 1), (43, .iconst 3, 1), (44, .invokevirtual 101, 3), (47, .istore 5, 2), (49, .aload_n 0, 1), (50, .getfield 28, 3), (53, .iload 5, 2), (55, .iaload, 1), (56, .iconst (-1), 1), (57, .if_icmp .eq 10, 3), (60, .aload_n 1, 1), (61, .iconst 2, 1), (62, .iload 4, 2), (64, .invokevirtual 64, 3), (67, .aload_n 0, 1), (68, .getfield 28, 3), (71, .iload 5, 2), (73, .aload_n 1, 1), (74, .sipush 9999, 3), (77, .invokevirtual 101, 3), (80, .iastore, 1), (81, .aload_n 1, 1), (82, .ldc 75, 2), (84, .invokevirtual 77, 3), (87, .iload_n 3, 1), (88, .iconst 1, 1), (89, .iadd, 1), (90, .istore_n 2, 1), (91, .iinc 3 1, 3), (94, .goto (-70), 3), (97, .aload_n 1, 1), (98, .invokevirtual 68, 3), (101, .ifCond .eq 22, 3), (104, .aload_n 0, 1), (105, .getfield 28, 3), (108, .iconst 0, 1), (109, .aload_n 0, 1), (110, .getfield 31, 3), (113, .iconst 0, 1), (114, .iconst 4, 1), (115, .invokestatic 105, 3), (118, .aload_n 0, 1), (119, .iload_n 2, 1), (120, .putfield 93, 3), (123, .return_, 1)]
def mi_36 : AMI := (2, yX2_readBook, cX2_readBook, 6, none, [], mc_36, 0, 1)
def mc_37 : List (Nat × Instr × Nat) := [(0, .aload_n 0, 1), (1, .invokespecial 3, 3), (4, .aload_n 0, 1), (5, .sipush 190, 3), (8, .newarray .int, 2), (10, .putfield 11, 3), (13, .return_, 1)]
def mi_37 : AMI := (3, yX3_init, cX3_init, 1, none, [], mc_37, 2, 0)
def mc_38 : List (Nat × Instr × Nat) := [(0, .aload_n 0, 1), (1, .invokevirtual 42, 3), (4, .istore_n 1, 1), (5, .aload_n 0, 1), (6, .sipush 999, 3), (9, .invokevirtual 73, 3), (12, .istore_n 2, 1), (13, .iload_n 2, 1), (14, .ifCond .ne 9, 3), (17, .aload_n 0, 1), (18, .iconst 2, 1), (19, .iload_n 1, 1), (20, .invokevirtual 51, 3), (23, .iload_n 2, 1), (24, .ireturn, 1)]
def mi_38 : AMI := (3, yX3_readGrams, cX3_readGrams, 3, (some .int), [], mc_38, 1, 1)
def mc_39 : List (Nat × Instr × Nat) := [(0, .aload_n 0, 1), (1, .invokevirtual 41, 3), (4, .aload_n 0, 1), (5, .getfield 32, 3), (8, .if_icmp .ge 19, 3), (11, .aload_n 0, 1), (12, .getfield 9, 3), (15, .aload_n 0, 1), (16, .getfield 35, 3), (19, .baload, 1), (20, .sipush 255, 3), (23, .iand, 1), (24, .goto 4, 3), (27, .iconst (-1), 1), (28, .ireturn, 1)]
def mi_39 : AMI := (5, yX5_nextByte, cX5_nextByte, 1, (some .int), [], mc_39, 0, 0)
def mc_40_0 : List (Nat × Instr × Nat) := [(0, .aload_n 0, 1), (1, .getfield 11, 3), (4, .iload_n 3, 1), (5, .iaload, 1), (6, .tableswitch 343 0 7 #[46, 85, 160, 199, 250, 271, 343, 292], 46), (52, .aload_n 0, 1), (53, .getfield 11, 3), (56, .iload_n 3, 1), (57, .iconst 1, 1), (58, .iadd, 1), (59, .aload_n 1, 1), (60, .aload_n 2, 1), (61, .getfield 68, 3), (64, .iconst 1, 1), (65, .isub, 1), (66, .invokevirtual 73, 3), (69, .iastore, 1), (70, .aload_n 0, 1), (71, .getfield 11, 3), (74, .iload_n 3, 1), (75, .iconst 2, 1), (76, .iadd, 1), (77, .aload_n 1, 1), (78, .aload_n 2, 1), (79, .getfield 77, 3), (82, .iconst 1, 1), (83, .isub, 1), (84, .invokevirtual 73, 3), (87, .iastore, 1), (88, .goto 261, 3), (91, .aload_n 0, 1), (92, .getfield 11, 3), (95, .iload_n 3, 1), (96, .iconst 1, 1), (97, .iadd, 1), (98, .aload_n 1, 1), (99, .aload_n 2, 1), (100, .getfield 80, 3), (103, .iconst 1, 1), (104, .isub, 1), (105, .invokevirtual 73, 3), (108, .iastore, 1), (109, .aload_n 0, 1), (110, .getfield 11, 3), (113, .iload_n 3, 1), (114, .iconst 2, 1), (115, .iadd, 1), (116, .aload_n 1, 1), (117, .aload_n 2, 1), (118, .getfield 77, 3), (121, .iconst 1, 1), (122, .isub, 1), (123, .invokevirtual 73, 3), (126, .iastore, 1), (127, .aload_n 0, 1), (128, .getfield 11, 3), (131, .iload_n 3, 1), (132, .iconst 3, 1), (133, .iadd, 1), (134, .aload_n 1, 1), (135, .aload_n 2, 1), (136, .getfield 77, 3), (139, .iconst 1, 1), (140, .isub, 1), (141, .invokevirtual 73, 3), (144, .iastore, 1), (145, .aload_n 0, 1), (146, .getfield 11, 3), (149, .iload_n 3, 1), (150, .iconst 4, 1), (151, .iadd, 1), (152, .aload_n 1, 1), (153, .aload_n 2, 1), (154, .getfield 77, 3), (157, .iconst 1, 1), (158, .isub, 1), (159, .invokevirtual 73, 3), (162, .iastore, 1), (163, .goto 186, 3), (166, .aload_n 0, 1), (167, .getfield 11, 3), (170, .iload_n 3, 1), (171, .iconst 1, 1), (172, .iadd, 1), (173, .aload_n 1, 1), (174, .aload_n 2, 1), (175, .getfield 77, 3), (178, .iconst 1, 1), (179, .isub, 1), (180, .invokevirtual 73, 3), (183, .iastore, 1), (184, .aload_n 0, 1), (185, .getfield 11, 3), (188, .iload_n 3, 1), (189, .iconst 2, 1), (190, .iadd, 1), (191, .aload_n 1, 1), (192, .aload_n 2, 1), (193, .getfield 77, 3), (196, .iconst 1, 1)]
def mc_40_1 : List (Nat × Instr × Nat) := [(197, .isub, 1), (198, .invokevirtual 73, 3), (201, .iastore, 1), (202, .goto 147, 3), (205, .aload_n 0, 1), (206, .getfield 11, 3), (209, .iload_n 3, 1), (210, .iconst 1, 1), (211, .iadd, 1), (212, .aload_n 1, 1), (213, .aload_n 2, 1), (214, .getfield 77, 3), (217, .iconst 1, 1), (218, .isub, 1), (219, .invokevirtual 73, 3), (222, .iastore, 1), (223, .aload_n 0, 1), (224, .getfield 11, 3), (227, .iload_n 3, 1), (228, .iconst 2, 1), (229, .iadd, 1), (230, .aload_n 1, 1), (231, .aload_n 2, 1), (232, .getfield 77, 3), (235, .iconst 1, 1), (236, .isub, 1), (237, .invokevirtual 73, 3), (240, .iastore, 1), (241, .aload_n 0, 1), (242, .getfield 11, 3), (245, .iload_n 3, 1), (246, .iconst 3, 1), (247, .iadd, 1), (248, .aload_n 1, 1), (249, .invokestatic 83, 3), (252, .iastore, 1), (253, .goto 96, 3), (256, .aload_n 0, 1), (257, .getfield 11, 3), (260, .iload_n 3, 1), (261, .iconst 1, 1), (262, .iadd, 1), (263, .aload_n 1, 1), (264, .aload_n 2, 1), (265, .getfield 80, 3), (268, .iconst 1, 1), (269, .isub, 1), (270, .invokevirtual 73, 3), (273, .iastore, 1), (274, .goto 75, 3), (277, .aload_n 0, 1), (278, .getfield 11, 3), (281, .iload_n 3, 1), (282, .iconst 1, 1), (283, .iadd, 1), (284, .aload_n 1, 1), (285, .aload_n 2, 1), (286, .getfield 77, 3), (289, .iconst 1, 1), (290, .isub, 1), (291, .invokevirtual 73, 3), (294, .iastore, 1), (295, .goto 54, 3), (298, .aload_n 0, 1), (299, .getfield 11, 3), (302, .iload_n 3, 1), (303, .iconst 1, 1), (304, .iadd, 1), (305, .aload_n 1, 1), (306, .bipush 40, 2), (308, .invokevirtual 73, 3), (311, .iastore, 1), (312, .aload_n 1, 1), (313, .ldc 87, 2), (315, .invokevirtual 64, 3), (318, .aload_n 0, 1), (319, .aload_n 1, 1), (320, .aload_n 2, 1), (321, .iload 4, 2), (323, .iconst 1, 1), (324, .iadd, 1), (325, .invokevirtual 28, 3), (328, .aload_n 1, 1), (329, .ldc 89, 2), (331, .invokevirtual 64, 3), (334, .aload_n 0, 1), (335, .getfield 11, 3), (338, .iload_n 3, 1), (339, .iconst 2, 1), (340, .iadd, 1), (341, .aload_n 0, 1), (342, .getfield 19, 3), (345, .iastore, 1), (346, .goto 3, 3), (349, .return_, 1)]
def mc_40 : List (Nat × Instr × Nat) := mc_40_0 ++ (mc_40_1)
def mi_40 : AMI := (3, yX3_readStep, cX3_readStep, 5, none, [], mc_40, 0, 4)
def mc_41 : List (Nat × Instr × Nat) := [(0, .iconst 0, 1), (1, .istore 4, 2), (3, .iload 4, 2), (5, .bipush 38, 2), (7, .if_icmp .ge 122, 3), (10, .aload_n 1, 1), (11, .invokevirtual 32, 3), (14, .ifCond .eq 115, 3), (17, .iload_n 3, 1), (18, .ifCond .le 13, 3), (21, .aload_n 1, 1), (22, .invokevirtual 38, 3), (25, .bipush 93, 2), (27, .if_icmp .ne 4, 3), (30, .return_, 1), (31, .aload_n 1, 1), (32, .invokevirtual 42, 3), (35, .istore 5, 2), (37, .aload_n 1, 1), (38, .ldc 45, 2), (40, .invokevirtual 47, 3), (43, .istore 6, 2), (45, .iload 6, 2), (47, .bipush 7, 2), (49, .if_icmp .ne 16, 3), (52, .iload_n 3, 1), (53, .bipush 6, 2), (55, .if_icmp .lt 10, 3), (58, .aload_n 1, 1), (59, .iconst 3, 1), (60, .iload 5, 2), (62, .invokevirtual 51, 3), (65, .aload_n 1, 1), (66, .invokevirtual 55, 3), (69, .ifCond .eq 48, 3), (72, .aload_n 0, 1), (73, .getfield 19, 3), (76, .bipush 38, 2), (78, .if_icmp .ge 39, 3), (81, .aload_n 0, 1), (82, .getfield 19, 3), (85, .iconst 5, 1), (86, .imul, 1), (87, .istore 7, 2), (89, .aload_n 0, 1), (90, .dup, 1), (91, .getfield 19, 3), (94, .iconst 1, 1), (95, .iadd, 1), (96, .putfield 19, 3), (99, .aload_n 0, 1), (100, .getfield 11, 3), (103, .iload 7, 2), (105, .iload 6, 2), (107, .iastore, 1), (108, .aload_n 0, 1), (109, .aload_n 1, 1), (110, .aload_n 2, 1), (111, .iload 7, 2), (113, .iload_n 3, 1), (114, .invokevirtual 58, 3), (117, .aload_n 1, 1), (118, .ldc 62, 2), (120, .invokevirtual 64, 3), (123, .iinc 4 1, 3), (126, .goto (-123), 3), (129, .return_, 1)]
def mi_41 : AMI := (3, yX3_readSteps, cX3_readSteps, 8, none, [], mc_41, 0, 3)
def mc_42 : List (Nat × Instr × Nat) := [(0, .aload_n 0, 1), (1, .iconst 0, 1), (2, .putfield 15, 3), (5, .aload_n 0, 1), (6, .iconst 0, 1), (7, .putfield 19, 3), (10, .aload_n 0, 1), (11, .iconst 0, 1), (12, .putfield 22, 3), (15, .aload_n 0, 1), (16, .iconst 0, 1), (17, .putfield 25, 3), (20, .aload_n 0, 1), (21, .aload_n 1, 1), (22, .aload_n 2, 1), (23, .iconst 0, 1), (24, .invokevirtual 28, 3), (27, .return_, 1)]
def mi_42 : AMI := (3, yX3_readWork, cX3_readWork, 3, none, [], mc_42, 0, 2)
def mc_43 : List (Nat × Instr × Nat) := [(0, .iload_n 1, 1), (1, .iconst 4, 1), (2, .imul, 1), (3, .istore_n 2, 1), (4, .aload_n 0, 1), (5, .getfield 11, 3), (8, .iload_n 2, 1), (9, .iaload, 1), (10, .aload_n 0, 1), (11, .getfield 11, 3), (14, .iload_n 2, 1), (15, .iconst 1, 1), (16, .iadd, 1), (17, .iaload, 1), (18, .iadd, 1), (19, .aload_n 0, 1), (20, .getfield 11, 3), (23, .iload_n 2, 1), (24, .iconst 2, 1), (25, .iadd, 1), (26, .iaload, 1), (27, .iadd, 1), (28, .aload_n 0, 1), (29, .getfield 11, 3), (32, .iload_n 2, 1), (33, .iconst 3, 1), (34, .iadd, 1), (35, .iaload, 1), (36, .iadd, 1), (37, .ireturn, 1)]
def mi_43 : AMI := (4, yX4_allOf, cX4_allOf, 3, (some .int), [], mc_43, 0, 1)
def mc_44_0 : List (Nat × Instr × Nat) := [(0, .aload_n 0, 1), (1, .iload_n 2, 1), (2, .invokevirtual 38, 3), (5, .ifCond .ne 5, 3), (8, .iconst 0, 1), (9, .ireturn, 1), (10, .iload_n 2, 1), (11, .iconst 4, 1), (12, .imul, 1), (13, .istore_n 3, 1), (14, .aload_n 0, 1), (15, .getfield 11, 3), (18, .iload_n 3, 1), (19, .iconst 1, 1), (20, .iadd, 1), (21, .iaload, 1), (22, .aload_n 0, 1), (23, .getfield 15, 3), (26, .iload_n 1, 1), (27, .iconst 0, 1), (28, .invokevirtual 72, 3), (31, .imul, 1), (32, .bipush 10, 2), (34, .idiv, 1), (35, .istore 4, 2), (37, .aload_n 0, 1), (38, .getfield 11, 3), (41, .iload_n 3, 1), (42, .iconst 2, 1), (43, .iadd, 1), (44, .iaload, 1), (45, .aload_n 0, 1), (46, .getfield 15, 3), (49, .iload_n 1, 1), (50, .iconst 1, 1), (51, .invokevirtual 72, 3), (54, .imul, 1), (55, .bipush 10, 2), (57, .idiv, 1), (58, .istore 5, 2), (60, .aload_n 0, 1), (61, .getfield 11, 3), (64, .iload_n 3, 1), (65, .iconst 3, 1), (66, .iadd, 1), (67, .iaload, 1), (68, .aload_n 0, 1), (69, .getfield 15, 3), (72, .iload_n 1, 1), (73, .iconst 2, 1), (74, .invokevirtual 72, 3), (77, .imul, 1), (78, .bipush 10, 2), (80, .idiv, 1), (81, .istore 6, 2), (83, .aload_n 0, 1), (84, .getfield 11, 3), (87, .iload_n 3, 1), (88, .dup2, 1), (89, .iaload, 1), (90, .iload 4, 2), (92, .iadd, 1), (93, .iastore, 1), (94, .aload_n 0, 1), (95, .getfield 11, 3), (98, .iload_n 3, 1), (99, .iconst 1, 1), (100, .iadd, 1), (101, .dup2, 1), (102, .iaload, 1), (103, .iload 5, 2), (105, .iload 4, 2), (107, .isub, 1), (108, .iadd, 1), (109, .iastore, 1), (110, .aload_n 0, 1), (111, .getfield 11, 3), (114, .iload_n 3, 1), (115, .iconst 2, 1), (116, .iadd, 1), (117, .dup2, 1), (118, .iaload, 1), (119, .iload 6, 2), (121, .iload 5, 2), (123, .isub, 1), (124, .iadd, 1), (125, .iastore, 1), (126, .aload_n 0, 1), (127, .getfield 11, 3), (130, .iload_n 3, 1), (131, .iconst 3, 1), (132, .iadd, 1), (133, .dup2, 1), (134, .iaload, 1), (135, .iload 6, 2), (137, .isub, 1), (138, .iastore, 1), (139, .aload_n 0, 1), (140, .getfield 11, 3), (143, .iload_n 3, 1)]
def mc_44_1 : List (Nat × Instr × Nat) := [(144, .iaload, 1), (145, .aload_n 0, 1), (146, .getfield 15, 3), (149, .getfield 75, 3), (152, .imul, 1), (153, .bipush 100, 2), (155, .idiv, 1), (156, .istore 7, 2), (158, .aload_n 0, 1), (159, .getfield 11, 3), (162, .iload_n 3, 1), (163, .dup2, 1), (164, .iaload, 1), (165, .iload 7, 2), (167, .isub, 1), (168, .iastore, 1), (169, .aload_n 0, 1), (170, .getfield 11, 3), (173, .bipush 32, 2), (175, .dup2, 1), (176, .iaload, 1), (177, .iload 7, 2), (179, .iadd, 1), (180, .iastore, 1), (181, .iconst 1, 1), (182, .ireturn, 1)]
def mc_44 : List (Nat × Instr × Nat) := mc_44_0 ++ (mc_44_1)
def mi_44 : AMI := (4, yX4_grindJar, cX4_grindJar, 8, (some .boolean), [], mc_44, 0, 2)
def mc_45 : List (Nat × Instr × Nat) := [(0, .aload_n 0, 1), (1, .getfield 11, 3), (4, .iload_n 1, 1), (5, .iconst 4, 1), (6, .imul, 1), (7, .iload_n 2, 1), (8, .iadd, 1), (9, .iaload, 1), (10, .ireturn, 1)]
def mi_45 : AMI := (4, yX4_gramsOf, cX4_gramsOf, 3, (some .int), [], mc_45, 0, 2)
def mc_46 : List (Nat × Instr × Nat) := [(0, .aload_n 0, 1), (1, .getfield 11, 3), (4, .bipush 30, 2), (6, .iaload, 1), (7, .iload_n 1, 1), (8, .ishr, 1), (9, .iconst 1, 1), (10, .iand, 1), (11, .iconst 1, 1), (12, .if_icmp .ne 7, 3), (15, .iconst 1, 1), (16, .goto 4, 3), (19, .iconst 0, 1), (20, .ireturn, 1)]
def mi_46 : AMI := (4, yX4_isTorn, cX4_isTorn, 2, (some .boolean), [], mc_46, 0, 1)
def mc_47 : List (Nat × Instr × Nat) := [(0, .aload_n 0, 1), (1, .getfield 15, 3), (4, .getfield 58, 3), (7, .iload_n 1, 1), (8, .iaload, 1), (9, .istore 4, 2), (11, .iload_n 2, 1), (12, .iload 4, 2), (14, .if_icmp .gt 5, 3), (17, .iload_n 3, 1), (18, .ireturn, 1), (19, .iload_n 2, 1), (20, .iload 4, 2), (22, .iconst 1, 1), (23, .iadd, 1), (24, .if_icmp .ne 17, 3), (27, .aload_n 0, 1), (28, .iload_n 1, 1), (29, .invokevirtual 61, 3), (32, .ifCond .eq 9, 3), (35, .iload_n 3, 1), (36, .iconst 2, 1), (37, .idiv, 1), (38, .goto 4, 3), (41, .iconst 0, 1), (42, .ireturn, 1)]
def mi_47 : AMI := (4, yX4_fallOfGrams, cX4_fallOfGrams, 5, (some .int), [], mc_47, 0, 3)
def mc_48 : List (Nat × Instr × Nat) := [(0, .aload_n 0, 1), (1, .iload_n 1, 1), (2, .iload_n 3, 1), (3, .aload_n 0, 1), (4, .iload_n 2, 1), (5, .iload_n 3, 1), (6, .invokevirtual 34, 3), (9, .invokevirtual 65, 3), (12, .ireturn, 1)]
def mi_48 : AMI := (4, yX4_fallOf, cX4_fallOf, 4, (some .int), [], mc_48, 0, 3)
def mc_49 : List (Nat × Instr × Nat) := [(0, .iconst 0, 1), (1, .istore_n 3, 1), (2, .iconst 0, 1), (3, .istore 4, 2), (5, .iload 4, 2), (7, .iconst 4, 1), (8, .if_icmp .ge 20, 3), (11, .iload_n 3, 1), (12, .aload_n 0, 1), (13, .iload_n 1, 1), (14, .iload_n 2, 1), (15, .iload 4, 2), (17, .invokevirtual 69, 3), (20, .iadd, 1), (21, .istore_n 3, 1), (22, .iinc 4 1, 3), (25, .goto (-20), 3), (28, .iload_n 3, 1), (29, .ireturn, 1)]
def mi_49 : AMI := (4, yX4_fallOfAll, cX4_fallOfAll, 5, (some .int), [], mc_49, 0, 2)
def mc_50 : List (Nat × Instr × Nat) := [(0, .aload_n 0, 1), (1, .iload_n 1, 1), (2, .invokevirtual 38, 3), (5, .iload_n 2, 1), (6, .iadd, 1), (7, .sipush 9999, 3), (10, .if_icmp .gt 7, 3), (13, .iconst 1, 1), (14, .goto 4, 3), (17, .iconst 0, 1), (18, .ireturn, 1)]
def mi_50 : AMI := (4, yX4_hasRoom, cX4_hasRoom, 3, (some .boolean), [], mc_50, 0, 2)
def mc_51 : List (Nat × Instr × Nat) := [(0, .aload_n 0, 1), (1, .getfield 11, 3), (4, .bipush 24, 2), (6, .iload_n 1, 1), (7, .iadd, 1), (8, .iaload, 1), (9, .ireturn, 1)]
def mi_51 : AMI := (4, yX4_ageOf, cX4_ageOf, 2, (some .int), [], mc_51, 0, 1)
def mc_52 : List (Nat × Instr × Nat) := [(0, .iload 4, 2), (2, .ifCond .le 55, 3), (5, .aload_n 0, 1), (6, .getfield 11, 3), (9, .iload_n 1, 1), (10, .iconst 4, 1), (11, .imul, 1), (12, .iload_n 3, 1), (13, .iadd, 1), (14, .dup2, 1), (15, .iaload, 1), (16, .iload 4, 2), (18, .isub, 1), (19, .iastore, 1), (20, .aload_n 0, 1), (21, .getfield 11, 3), (24, .iload_n 2, 1), (25, .iconst 4, 1), (26, .imul, 1), (27, .iload_n 3, 1), (28, .iadd, 1), (29, .dup2, 1), (30, .iaload, 1), (31, .iload 4, 2), (33, .iadd, 1), (34, .iastore, 1), (35, .aload_n 0, 1), (36, .getfield 11, 3), (39, .bipush 24, 2), (41, .iload_n 2, 1), (42, .iadd, 1), (43, .aload_n 0, 1), (44, .iload_n 2, 1), (45, .invokevirtual 46, 3), (48, .aload_n 0, 1), (49, .iload_n 1, 1), (50, .invokevirtual 46, 3), (53, .invokestatic 104, 3), (56, .iastore, 1), (57, .return_, 1)]
def mi_52 : AMI := (4, yX4_moveGrams, cX4_moveGrams, 5, none, [], mc_52, 0, 4)
def mc_53 : List (Nat × Instr × Nat) := [(0, .iload_n 2, 1), (1, .iload_n 3, 1), (2, .if_icmp .eq 15, 3), (5, .iload_n 2, 1), (6, .iload 4, 2), (8, .if_icmp .eq 9, 3), (11, .iload_n 3, 1), (12, .iload 4, 2), (14, .if_icmp .ne 5, 3), (17, .iconst 0, 1), (18, .ireturn, 1), (19, .aload_n 0, 1), (20, .iload_n 2, 1), (21, .invokevirtual 38, 3), (24, .istore 5, 2), (26, .aload_n 0, 1), (27, .iload_n 1, 1), (28, .iload_n 2, 1), (29, .invokevirtual 78, 3), (32, .istore 6, 2), (34, .iload 5, 2), (36, .ifCond .eq 27, 3), (39, .aload_n 0, 1), (40, .iload_n 3, 1), (41, .iload 6, 2), (43, .invokevirtual 81, 3), (46, .ifCond .eq 17, 3), (49, .aload_n 0, 1), (50, .iload 4, 2), (52, .iload 5, 2), (54, .iload 6, 2), (56, .isub, 1), (57, .invokevirtual 81, 3), (60, .ifCond .ne 5, 3), (63, .iconst 0, 1), (64, .ireturn, 1), (65, .iconst 0, 1), (66, .istore 7, 2), (68, .iload 7, 2), (70, .iconst 4, 1), (71, .if_icmp .ge 45, 3), (74, .aload_n 0, 1), (75, .iload_n 1, 1), (76, .iload_n 2, 1), (77, .iload 7, 2), (79, .invokevirtual 69, 3), (82, .istore 8, 2), (84, .aload_n 0, 1), (85, .iload_n 2, 1), (86, .iload_n 3, 1), (87, .iload 7, 2), (89, .iload 8, 2), (91, .invokevirtual 85, 3), (94, .aload_n 0, 1), (95, .iload_n 2, 1), (96, .iload 4, 2), (98, .iload 7, 2), (100, .aload_n 0, 1), (101, .iload_n 2, 1), (102, .iload 7, 2), (104, .invokevirtual 34, 3), (107, .invokevirtual 85, 3), (110, .iinc 7 1, 3), (113, .goto (-45), 3), (116, .aload_n 0, 1), (117, .getfield 11, 3), (120, .bipush 24, 2), (122, .iload_n 2, 1), (123, .iadd, 1), (124, .iconst 0, 1), (125, .iastore, 1), (126, .iconst 1, 1), (127, .ireturn, 1)]
def mi_53 : AMI := (4, yX4_siftJar, cX4_siftJar, 9, (some .boolean), [], mc_53, 0, 4)
def mc_54 : List (Nat × Instr × Nat) := [(0, .iload_n 1, 1), (1, .iload_n 2, 1), (2, .if_icmp .eq 21, 3), (5, .aload_n 0, 1), (6, .iload_n 1, 1), (7, .invokevirtual 38, 3), (10, .iload_n 3, 1), (11, .if_icmp .lt 12, 3), (14, .aload_n 0, 1), (15, .iload_n 2, 1), (16, .iload_n 3, 1), (17, .invokevirtual 81, 3), (20, .ifCond .ne 5, 3), (23, .iconst 0, 1), (24, .ireturn, 1), (25, .iload_n 3, 1), (26, .istore 4, 2), (28, .iconst 0, 1), (29, .istore 5, 2), (31, .iload 5, 2), (33, .iconst 4, 1), (34, .if_icmp .ge 40, 3), (37, .iload 4, 2), (39, .aload_n 0, 1), (40, .iload_n 1, 1), (41, .iload 5, 2), (43, .invokevirtual 34, 3), (46, .invokestatic 93, 3), (49, .istore 6, 2), (51, .aload_n 0, 1), (52, .iload_n 1, 1), (53, .iload_n 2, 1), (54, .iload 5, 2), (56, .iload 6, 2), (58, .invokevirtual 85, 3), (61, .iload 4, 2), (63, .iload 6, 2), (65, .isub, 1), (66, .istore 4, 2), (68, .iinc 5 1, 3), (71, .goto (-40), 3), (74, .aload_n 0, 1), (75, .iload_n 1, 1), (76, .invokevirtual 38, 3), (79, .ifCond .ne 13, 3), (82, .aload_n 0, 1), (83, .getfield 11, 3), (86, .bipush 24, 2), (88, .iload_n 1, 1), (89, .iadd, 1), (90, .iconst 0, 1), (91, .iastore, 1), (92, .iconst 1, 1), (93, .ireturn, 1)]
def mi_54 : AMI := (4, yX4_scoopJar, cX4_scoopJar, 7, (some .boolean), [], mc_54, 0, 3)
def mc_55 : List (Nat × Instr × Nat) := [(0, .aload_n 0, 1), (1, .iload_n 1, 1), (2, .invokevirtual 38, 3), (5, .istore_n 3, 1), (6, .iload_n 3, 1), (7, .ifCond .le 17, 3), (10, .aload_n 0, 1), (11, .iload_n 1, 1), (12, .iload_n 2, 1), (13, .iload_n 3, 1), (14, .invokevirtual 89, 3), (17, .ifCond .eq 7, 3), (20, .iconst 1, 1), (21, .goto 4, 3), (24, .iconst 0, 1), (25, .ireturn, 1)]
def mi_55 : AMI := (4, yX4_pourJar, cX4_pourJar, 4, (some .boolean), [], mc_55, 0, 2)
def mc_56 : List (Nat × Instr × Nat) := [(0, .iload_n 1, 1), (1, .iconst 4, 1), (2, .imul, 1), (3, .istore_n 2, 1), (4, .aload_n 0, 1), (5, .getfield 15, 3), (8, .getfield 42, 3), (11, .aload_n 0, 1), (12, .getfield 11, 3), (15, .iload_n 2, 1), (16, .iaload, 1), (17, .aload_n 0, 1), (18, .getfield 11, 3), (21, .iload_n 2, 1), (22, .iconst 1, 1), (23, .iadd, 1), (24, .iaload, 1), (25, .aload_n 0, 1), (26, .getfield 11, 3), (29, .iload_n 2, 1), (30, .iconst 2, 1), (31, .iadd, 1), (32, .iaload, 1), (33, .aload_n 0, 1), (34, .getfield 11, 3), (37, .iload_n 2, 1), (38, .iconst 3, 1), (39, .iadd, 1), (40, .iaload, 1), (41, .aload_n 0, 1), (42, .iload_n 1, 1), (43, .invokevirtual 46, 3), (46, .aload_n 0, 1), (47, .getfield 11, 3), (50, .bipush 31, 2), (52, .iaload, 1), (53, .iload_n 1, 1), (54, .invokevirtual 49, 3), (57, .ireturn, 1)]
def mi_56 : AMI := (4, yX4_powerOf, cX4_powerOf, 3, (some .int), [], mc_56, 0, 1)
def mc_57 : List (Nat × Instr × Nat) := [(0, .aload_n 0, 1), (1, .iload_n 1, 1), (2, .invokevirtual 38, 3), (5, .ifCond .le 17, 3), (8, .aload_n 0, 1), (9, .iload_n 1, 1), (10, .invokevirtual 55, 3), (13, .bipush 50, 2), (15, .if_icmp .lt 7, 3), (18, .iconst 1, 1), (19, .goto 4, 3), (22, .iconst 0, 1), (23, .ireturn, 1)]
def mi_57 : AMI := (4, yX4_canSell, cX4_canSell, 2, (some .boolean), [], mc_57, 0, 1)
def mc_58 : List (Nat × Instr × Nat) := [(0, .aload_n 0, 1), (1, .iload_n 1, 1), (2, .invokevirtual 98, 3), (5, .ifCond .ne 5, 3), (8, .iconst 0, 1), (9, .ireturn, 1), (10, .aload_n 0, 1), (11, .getfield 11, 3), (14, .bipush 33, 2), (16, .dup2, 1), (17, .iaload, 1), (18, .aload_n 0, 1), (19, .iload_n 1, 1), (20, .invokevirtual 38, 3), (23, .bipush 10, 2), (25, .idiv, 1), (26, .iadd, 1), (27, .iastore, 1), (28, .iconst 0, 1), (29, .istore_n 2, 1), (30, .iload_n 2, 1), (31, .iconst 4, 1), (32, .if_icmp .ge 20, 3), (35, .aload_n 0, 1), (36, .getfield 11, 3), (39, .iload_n 1, 1), (40, .iconst 4, 1), (41, .imul, 1), (42, .iload_n 2, 1), (43, .iadd, 1), (44, .iconst 0, 1), (45, .iastore, 1), (46, .iinc 2 1, 3), (49, .goto (-19), 3), (52, .aload_n 0, 1), (53, .getfield 11, 3), (56, .bipush 24, 2), (58, .iload_n 1, 1), (59, .iadd, 1), (60, .iconst 0, 1), (61, .iastore, 1), (62, .iconst 1, 1), (63, .ireturn, 1)]
def mi_58 : AMI := (4, yX4_sellJar, cX4_sellJar, 3, (some .boolean), [], mc_58, 0, 1)
def mc_59 : List (Nat × Instr × Nat) := [(0, .iconst 0, 1), (1, .istore_n 1, 1), (2, .iload_n 1, 1), (3, .aload_n 0, 1), (4, .getfield 15, 3), (7, .getfield 19, 3), (10, .if_icmp .ge 30, 3), (13, .aload_n 0, 1), (14, .iload_n 1, 1), (15, .invokevirtual 38, 3), (18, .ifCond .le 16, 3), (21, .aload_n 0, 1), (22, .getfield 11, 3), (25, .bipush 24, 2), (27, .iload_n 1, 1), (28, .iadd, 1), (29, .dup2, 1), (30, .iaload, 1), (31, .iconst 1, 1), (32, .iadd, 1), (33, .iastore, 1), (34, .iinc 1 1, 3), (37, .goto (-35), 3), (40, .aload_n 0, 1), (41, .getfield 11, 3), (44, .bipush 31, 2), (46, .dup2, 1), (47, .iaload, 1), (48, .iconst 1, 1), (49, .iadd, 1), (50, .iastore, 1), (51, .return_, 1)]
def mi_59 : AMI := (4, yX4_turnDay, cX4_turnDay, 2, none, [], mc_59, 0, 0)
def mc_60 : List (Nat × Instr × Nat) := [(0, .aload_n 0, 1), (1, .getfield 11, 3), (4, .bipush 31, 2), (6, .iaload, 1), (7, .sipush 400, 3), (10, .if_icmp .lt 5, 3), (13, .iconst 0, 1), (14, .ireturn, 1), (15, .aload_n 0, 1), (16, .invokevirtual 101, 3), (19, .iconst 1, 1), (20, .ireturn, 1)]
def mi_60 : AMI := (4, yX4_passDay, cX4_passDay, 1, (some .boolean), [], mc_60, 0, 0)
def mc_61 : List (Nat × Instr × Nat) := [(0, .aload_n 0, 1), (1, .getfield 11, 3), (4, .bipush 30, 2), (6, .dup2, 1), (7, .iaload, 1), (8, .iconst 1, 1), (9, .iload_n 1, 1), (10, .ishl, 1), (11, .ixor, 1), (12, .iastore, 1), (13, .return_, 1)]
def mi_61 : AMI := (4, yX4_tearSieve, cX4_tearSieve, 2, none, [], mc_61, 0, 1)
def mc_62 : List (Nat × Instr × Nat) := [(0, .aload_n 0, 1), (1, .getfield 11, 3), (4, .iload_n 2, 1), (5, .iconst 1, 1), (6, .iadd, 1), (7, .iaload, 1), (8, .istore_n 3, 1), (9, .aload_n 0, 1), (10, .getfield 11, 3), (13, .iload_n 2, 1), (14, .iconst 2, 1), (15, .iadd, 1), (16, .iaload, 1), (17, .istore 4, 2), (19, .aload_n 0, 1), (20, .getfield 11, 3), (23, .iload_n 2, 1), (24, .iconst 3, 1), (25, .iadd, 1), (26, .iaload, 1), (27, .istore 5, 2), (29, .aload_n 0, 1), (30, .getfield 11, 3), (33, .iload_n 2, 1), (34, .iaload, 1), (35, .tableswitch 96 0 6 #[41, 49, 67, 75, 96, 85, 91], 41), (76, .aload_n 1, 1), (77, .iload_n 3, 1), (78, .iload 4, 2), (80, .invokevirtual 105, 3), (83, .ireturn, 1), (84, .aload_n 1, 1), (85, .iload_n 3, 1), (86, .iload 4, 2), (88, .iload 5, 2), (90, .aload_n 0, 1), (91, .getfield 11, 3), (94, .iload_n 2, 1), (95, .iconst 4, 1), (96, .iadd, 1), (97, .iaload, 1), (98, .invokevirtual 111, 3), (101, .ireturn, 1), (102, .aload_n 1, 1), (103, .iload_n 3, 1), (104, .iload 4, 2), (106, .invokevirtual 115, 3), (109, .ireturn, 1), (110, .aload_n 1, 1), (111, .iload_n 3, 1), (112, .iload 4, 2), (114, .iload 5, 2), (116, .invokevirtual 118, 3), (119, .ireturn, 1), (120, .aload_n 1, 1), (121, .iload_n 3, 1), (122, .invokevirtual 122, 3), (125, .ireturn, 1), (126, .aload_n 1, 1), (127, .invokevirtual 126, 3), (130, .ireturn, 1), (131, .aload_n 1, 1), (132, .iload_n 3, 1), (133, .invokevirtual 129, 3), (136, .iconst 1, 1), (137, .ireturn, 1)]
def mi_62 : AMI := (3, yX3_isDone, cX3_isDone, 6, (some .boolean), [], mc_62, 0, 2)
def mc_63 : List (Nat × Instr × Nat) := [(0, .iload_n 2, 1), (1, .istore 5, 2), (3, .iload 5, 2), (5, .iload_n 3, 1), (6, .if_icmp .ge 156, 3), (9, .aload_n 0, 1), (10, .getfield 15, 3), (13, .sipush 200, 3), (16, .if_icmp .ge 146, 3), (19, .iload 4, 2), (21, .bipush 6, 2), (23, .if_icmp .gt 139, 3), (26, .iload 5, 2), (28, .iconst 5, 1), (29, .imul, 1), (30, .istore 6, 2), (32, .aload_n 0, 1), (33, .dup, 1), (34, .getfield 15, 3), (37, .iconst 1, 1), (38, .iadd, 1), (39, .putfield 15, 3), (42, .iinc 5 1, 3), (45, .aload_n 0, 1), (46, .getfield 11, 3), (49, .iload 6, 2), (51, .iaload, 1), (52, .bipush 7, 2), (54, .if_icmp .ne 72, 3), (57, .aload_n 0, 1), (58, .getfield 11, 3), (61, .iload 6, 2), (63, .iconst 2, 1), (64, .iadd, 1), (65, .iaload, 1), (66, .istore 7, 2), (68, .iconst 0, 1), (69, .istore 8, 2), (71, .iload 8, 2), (73, .aload_n 0, 1), (74, .getfield 11, 3), (77, .iload 6, 2), (79, .iconst 1, 1), (80, .iadd, 1), (81, .iaload, 1), (82, .if_icmp .ge 32, 3), (85, .aload_n 0, 1), (86, .getfield 15, 3), (89, .sipush 200, 3), (92, .if_icmp .ge 22, 3), (95, .aload_n 0, 1), (96, .aload_n 1, 1), (97, .iload 5, 2), (99, .iload 7, 2), (101, .iload 4, 2), (103, .iconst 1, 1), (104, .iadd, 1), (105, .invokevirtual 91, 3), (108, .iinc 8 1, 3), (111, .goto (-40), 3), (114, .iload 5, 2), (116, .iload 7, 2), (118, .invokestatic 95, 3), (121, .istore 5, 2), (123, .goto 36, 3), (126, .aload_n 0, 1), (127, .aload_n 1, 1), (128, .iload 6, 2), (130, .invokevirtual 101, 3), (133, .ifCond .eq 16, 3), (136, .aload_n 0, 1), (137, .dup, 1), (138, .getfield 22, 3), (141, .iconst 1, 1), (142, .iadd, 1), (143, .putfield 22, 3), (146, .goto 13, 3), (149, .aload_n 0, 1), (150, .dup, 1), (151, .getfield 25, 3), (154, .iconst 1, 1), (155, .iadd, 1), (156, .putfield 25, 3), (159, .goto (-156), 3), (162, .return_, 1)]
def mi_63 : AMI := (3, yX3_runSteps, cX3_runSteps, 9, none, [], mc_63, 0, 4)
def mc_64 : List (Nat × Instr × Nat) := [(0, .aload_n 0, 1), (1, .invokespecial 5, 3), (4, .aload_n 0, 1), (5, .bipush 34, 2), (7, .newarray .int, 2), (9, .putfield 11, 3), (12, .aload_n 0, 1), (13, .aload_n 1, 1), (14, .putfield 15, 3), (17, .return_, 1)]
def mi_64 : AMI := (4, yX4_init, cX4_init, 2, none, [], mc_64, 2, 1)
def mc_65 : List (Nat × Instr × Nat) := [(0, .aload_n 0, 1), (1, .aload_n 1, 1), (2, .putfield 15, 3), (5, .iconst 0, 1), (6, .istore_n 2, 1), (7, .iload_n 2, 1), (8, .bipush 34, 2), (10, .if_icmp .ge 41, 3), (13, .aload_n 0, 1), (14, .getfield 11, 3), (17, .iload_n 2, 1), (18, .iload_n 2, 1), (19, .aload_n 0, 1), (20, .getfield 15, 3), (23, .getfield 19, 3), (26, .iconst 4, 1), (27, .imul, 1), (28, .if_icmp .ge 15, 3), (31, .aload_n 0, 1), (32, .getfield 15, 3), (35, .getfield 25, 3), (38, .iload_n 2, 1), (39, .iaload, 1), (40, .goto 4, 3), (43, .iconst 0, 1), (44, .iastore, 1), (45, .iinc 2 1, 3), (48, .goto (-41), 3), (51, .return_, 1)]
def mi_65 : AMI := (4, yX4_begin, cX4_begin, 3, none, [], mc_65, 0, 1)
def mc_66 : List (Nat × Instr × Nat) := [(0, .aload_n 1, 1), (1, .getfield 11, 3), (4, .iconst 0, 1), (5, .aload_n 0, 1), (6, .getfield 11, 3), (9, .iconst 0, 1), (10, .bipush 34, 2), (12, .invokestatic 28, 3), (15, .return_, 1)]
def mi_66 : AMI := (4, yX4_copyFrom, cX4_copyFrom, 2, none, [], mc_66, 0, 1)
def mc_67 : List (Nat × Instr × Nat) := [(0, .iconst 0, 1), (1, .istore_n 2, 1), (2, .iconst 0, 1), (3, .istore_n 3, 1), (4, .iload_n 3, 1), (5, .iconst 4, 1), (6, .if_icmp .ge 26, 3), (9, .iload_n 2, 1), (10, .aload_n 0, 1), (11, .iload_n 1, 1), (12, .iload_n 3, 1), (13, .invokevirtual 34, 3), (16, .ifCond .le 7, 3), (19, .iconst 1, 1), (20, .goto 4, 3), (23, .iconst 0, 1), (24, .iadd, 1), (25, .istore_n 2, 1), (26, .iinc 3 1, 3), (29, .goto (-25), 3), (32, .iload_n 2, 1), (33, .ireturn, 1)]
def mi_67 : AMI := (4, yX4_grainsIn, cX4_grainsIn, 4, (some .int), [], mc_67, 0, 1)
def mc_68 : List (Nat × Instr × Nat) := [(0, .aload_n 0, 1), (1, .iload_n 1, 1), (2, .invokevirtual 38, 3), (5, .istore_n 2, 1), (6, .iload_n 2, 1), (7, .ifCond .le 18, 3), (10, .sipush 1000, 3), (13, .aload_n 0, 1), (14, .iload_n 1, 1), (15, .iconst 0, 1), (16, .invokevirtual 34, 3), (19, .imul, 1), (20, .iload_n 2, 1), (21, .idiv, 1), (22, .goto 4, 3), (25, .iconst 0, 1), (26, .ireturn, 1)]
def mi_68 : AMI := (4, yX4_finenessOf, cX4_finenessOf, 3, (some .int), [], mc_68, 0, 1)
def mc_69 : List (Nat × Instr × Nat) := [(0, .iconst 0, 1), (1, .istore_n 1, 1), (2, .iconst 0, 1), (3, .istore_n 2, 1), (4, .iload_n 2, 1), (5, .aload_n 0, 1), (6, .getfield 15, 3), (9, .getfield 19, 3), (12, .if_icmp .ge 17, 3), (15, .iload_n 1, 1), (16, .aload_n 0, 1), (17, .iload_n 2, 1), (18, .invokevirtual 38, 3), (21, .iadd, 1), (22, .istore_n 1, 1), (23, .iinc 2 1, 3), (26, .goto (-22), 3), (29, .iload_n 1, 1), (30, .ireturn, 1)]
def mi_69 : AMI := (4, yX4_gramsOfAll, cX4_gramsOfAll, 3, (some .int), [], mc_69, 0, 0)
def mc_70 : List (Nat × Instr × Nat) := [(0, .iconst 0, 1), (1, .istore_n 1, 1), (2, .iconst 0, 1), (3, .istore_n 2, 1), (4, .iload_n 2, 1), (5, .aload_n 0, 1), (6, .getfield 15, 3), (9, .getfield 19, 3), (12, .if_icmp .ge 23, 3), (15, .aload_n 0, 1), (16, .iload_n 2, 1), (17, .invokevirtual 38, 3), (20, .ifCond .ne 9, 3), (23, .iload_n 1, 1), (24, .iconst 1, 1), (25, .iload_n 2, 1), (26, .ishl, 1), (27, .ior, 1), (28, .istore_n 1, 1), (29, .iinc 2 1, 3), (32, .goto (-28), 3), (35, .iload_n 1, 1), (36, .ireturn, 1)]
def mi_70 : AMI := (4, yX4_emptyBits, cX4_emptyBits, 3, (some .int), [], mc_70, 0, 0)
def mc_71 : List (Nat × Instr × Nat) := [(0, .aload_n 0, 1), (1, .invokespecial 3, 3), (4, .aload_n 0, 1), (5, .sipush 600, 3), (8, .newarray .byte, 2), (10, .putfield 9, 3), (13, .aload_n 0, 1), (14, .iconst (-1), 1), (15, .putfield 15, 3), (18, .return_, 1)]
def mi_71 : AMI := (5, yX5_init, cX5_init, 1, none, [], mc_71, 2, 0)
def mc_72 : List (Nat × Instr × Nat) := [(0, .aload_n 0, 1), (1, .getfield 19, 3), (4, .iload_n 1, 1), (5, .iadd, 1), (6, .aload_n 0, 1), (7, .getfield 9, 3), (10, .arraylength, 1), (11, .if_icmp .gt 7, 3), (14, .iconst 1, 1), (15, .goto 4, 3), (18, .iconst 0, 1), (19, .ireturn, 1)]
def mi_72 : AMI := (5, yX5_hasRoom, cX5_hasRoom, 2, (some .boolean), [], mc_72, 0, 1)
def mc_73 : List (Nat × Instr × Nat) := [(0, .bipush 24, 2), (2, .istore_n 2, 1), (3, .iload_n 2, 1), (4, .ifCond .lt 40, 3), (7, .aload_n 0, 1), (8, .iconst 1, 1), (9, .invokevirtual 22, 3), (12, .ifCond .eq 32, 3), (15, .aload_n 0, 1), (16, .getfield 9, 3), (19, .aload_n 0, 1), (20, .getfield 19, 3), (23, .iload_n 1, 1), (24, .iload_n 2, 1), (25, .ishr, 1), (26, .i2b, 1), (27, .bastore, 1), (28, .aload_n 0, 1), (29, .dup, 1), (30, .getfield 19, 3), (33, .iconst 1, 1), (34, .iadd, 1), (35, .putfield 19, 3), (38, .iinc 2 (-8), 3), (41, .goto (-38), 3), (44, .return_, 1)]
def mi_73 : AMI := (5, yX5_put, cX5_put, 3, none, [], mc_73, 0, 1)
def mc_74 : List (Nat × Instr × Nat) := [(0, .aload_n 0, 1), (1, .iload_n 1, 1), (2, .aload_n 0, 1), (3, .getfield 19, 3), (6, .invokestatic 26, 3), (9, .putfield 32, 3), (12, .aload_n 0, 1), (13, .iconst 0, 1), (14, .putfield 35, 3), (17, .aload_n 0, 1), (18, .iconst 0, 1), (19, .putfield 19, 3), (22, .aload_n 0, 1), (23, .iconst 0, 1), (24, .putfield 38, 3), (27, .aload_n 0, 1), (28, .iconst (-1), 1), (29, .putfield 15, 3), (32, .return_, 1)]
def mi_74 : AMI := (5, yX5_open, cX5_open, 2, none, [], mc_74, 0, 1)
def mc_75 : List (Nat × Instr × Nat) := [(0, .aload_n 0, 1), (1, .invokespecial 1, 3), (4, .return_, 1)]
def mi_75 : AMI := (6, yX6_init, cX6_init, 1, none, [], mc_75, 2, 0)
def mc_76 : List (Nat × Instr × Nat) := [(0, .aload_n 0, 1), (1, .aload_n 0, 1), (2, .getfield 7, 3), (5, .ldc 49, 2), (7, .imul, 1), (8, .sipush 12345, 3), (11, .iadd, 1), (12, .putfield 7, 3), (15, .iload_n 1, 1), (16, .ifCond .le 19, 3), (19, .aload_n 0, 1), (20, .getfield 7, 3), (23, .bipush 16, 2), (25, .iushr, 1), (26, .sipush 32767, 3), (29, .iand, 1), (30, .iload_n 1, 1), (31, .irem, 1), (32, .goto 4, 3), (35, .iconst 0, 1), (36, .ireturn, 1)]
def mi_76 : AMI := (6, yX6_draw, cX6_draw, 2, (some .int), [], mc_76, 0, 1)
def mc_77 : List (Nat × Instr × Nat) := [(0, .aload_n 0, 1), (1, .iload_n 2, 1), (2, .putfield 7, 3), (5, .aload_n 1, 1), (6, .getfield 13, 3), (9, .getfield 19, 3), (12, .istore 5, 2), (14, .aload_n 1, 1), (15, .getfield 13, 3), (18, .getfield 24, 3), (21, .istore 6, 2), (23, .aload_n 1, 1), (24, .getfield 13, 3), (27, .getfield 27, 3), (30, .istore 7, 2), (32, .iconst 0, 1), (33, .istore 8, 2), (35, .iload 8, 2), (37, .iload 4, 2), (39, .if_icmp .ge 120, 3), (42, .iload 5, 2), (44, .ifCond .le 29, 3), (47, .iload 6, 2), (49, .ifCond .le 24, 3), (52, .aload_n 0, 1), (53, .iload 6, 2), (55, .invokevirtual 30, 3), (58, .istore 9, 2), (60, .aload_n 1, 1), (61, .iload 9, 2), (63, .aload_n 0, 1), (64, .iload 5, 2), (66, .invokevirtual 30, 3), (69, .invokevirtual 34, 3), (72, .pop, 1), (73, .iload 5, 2), (75, .iconst 3, 1), (76, .if_icmp .lt 57, 3), (79, .iload 7, 2), (81, .ifCond .le 52, 3), (84, .aload_n 0, 1), (85, .iload 7, 2), (87, .invokevirtual 30, 3), (90, .istore 9, 2), (92, .aload_n 0, 1), (93, .iload 5, 2), (95, .invokevirtual 30, 3), (98, .istore 10, 2), (100, .aload_n 0, 1), (101, .bipush 16, 2), (103, .invokevirtual 30, 3), (106, .iload_n 3, 1), (107, .if_icmp .ge 26, 3), (110, .aload_n 1, 1), (111, .iload 9, 2), (113, .iload 10, 2), (115, .iload 10, 2), (117, .iconst 1, 1), (118, .iadd, 1), (119, .iload 5, 2), (121, .irem, 1), (122, .iload 10, 2), (124, .iconst 2, 1), (125, .iadd, 1), (126, .iload 5, 2), (128, .irem, 1), (129, .invokevirtual 38, 3), (132, .pop, 1), (133, .iload 5, 2), (135, .ifCond .le 14, 3), (138, .aload_n 1, 1), (139, .aload_n 0, 1), (140, .iload 5, 2), (142, .invokevirtual 30, 3), (145, .invokevirtual 42, 3), (148, .pop, 1), (149, .aload_n 1, 1), (150, .invokevirtual 46, 3), (153, .iinc 8 1, 3), (156, .goto (-121), 3), (159, .return_, 1)]
def mi_77 : AMI := (6, yX6_live, cX6_live, 11, none, [], mc_77, 0, 4)
def mc_78 : List (Nat × Instr × Nat) := [(0, .aload_n 0, 1), (1, .invokespecial 1, 3), (4, .aload_n 0, 1), (5, .new 7, 3), (8, .dup, 1), (9, .invokespecial 9, 3), (12, .putfield 10, 3), (15, .aload_n 0, 1), (16, .new 16, 3), (19, .dup, 1), (20, .invokespecial 18, 3), (23, .putfield 19, 3), (26, .aload_n 0, 1), (27, .new 23, 3), (30, .dup, 1), (31, .invokespecial 25, 3), (34, .putfield 26, 3), (37, .aload_n 0, 1), (38, .new 30, 3), (41, .dup, 1), (42, .invokespecial 32, 3), (45, .putfield 33, 3), (48, .aload_n 0, 1), (49, .bipush 24, 2), (51, .newarray .int, 2), (53, .putfield 37, 3), (56, .aload_n 0, 1), (57, .bipush 6, 2), (59, .newarray .int, 2), (61, .putfield 41, 3), (64, .aload_n 0, 1), (65, .iconst 4, 1), (66, .newarray .int, 2), (68, .putfield 44, 3), (71, .aload_n 0, 1), (72, .new 47, 3), (75, .dup, 1), (76, .invokespecial 49, 3), (79, .putfield 50, 3), (82, .aload_n 0, 1), (83, .new 47, 3), (86, .dup, 1), (87, .invokespecial 49, 3), (90, .putfield 54, 3), (93, .aload_n 0, 1), (94, .new 57, 3), (97, .dup, 1), (98, .aload_n 0, 1), (99, .getfield 50, 3), (102, .invokespecial 59, 3), (105, .putfield 62, 3), (108, .aload_n 0, 1), (109, .new 57, 3), (112, .dup, 1), (113, .aload_n 0, 1), (114, .getfield 50, 3), (117, .invokespecial 59, 3), (120, .putfield 66, 3), (123, .return_, 1)]
def mi_78 : AMI := (7, yX7_init, cX7_init, 1, none, [], mc_78, 2, 0)
def mc_79 : List (Nat × Instr × Nat) := [(0, .aload_n 0, 1), (1, .getfield 10, 3), (4, .bipush 20, 2), (6, .invokevirtual 69, 3), (9, .ifCond .ne 5, 3), (12, .iconst (-1), 1), (13, .ireturn, 1), (14, .aload_n 0, 1), (15, .getfield 10, 3), (18, .iload_n 1, 1), (19, .invokevirtual 73, 3), (22, .aload_n 0, 1), (23, .getfield 10, 3), (26, .iload_n 2, 1), (27, .invokevirtual 73, 3), (30, .aload_n 0, 1), (31, .getfield 10, 3), (34, .iload_n 3, 1), (35, .invokevirtual 73, 3), (38, .aload_n 0, 1), (39, .getfield 10, 3), (42, .iload 4, 2), (44, .invokevirtual 73, 3), (47, .aload_n 0, 1), (48, .getfield 10, 3), (51, .iload 5, 2), (53, .invokevirtual 73, 3), (56, .aload_n 0, 1), (57, .getfield 10, 3), (60, .getfield 77, 3), (63, .ireturn, 1)]
def mi_79 : AMI := (7, yX7_feed, cX7_feed, 6, (some .int), [], mc_79, 0, 5)
def mc_80 : List (Nat × Instr × Nat) := [(0, .iload_n 0, 1), (1, .iload_n 1, 1), (2, .if_icmp .lt 12, 3), (5, .iload_n 0, 1), (6, .iload_n 2, 1), (7, .if_icmp .gt 7, 3), (10, .iconst 1, 1), (11, .goto 4, 3), (14, .iconst 0, 1), (15, .ireturn, 1)]
def mi_80 : AMI := (7, yX7_isWithin, cX7_isWithin, 3, (some .boolean), [], mc_80, 1, 3)
def mc_81 : List (Nat × Instr × Nat) := [(0, .iload_n 1, 1), (1, .ifCond .ne 24, 3), (4, .aload_n 0, 1), (5, .dup, 1), (6, .getfield 330, 3), (9, .iconst 1, 1), (10, .iadd, 1), (11, .putfield 330, 3), (14, .new 343, 3), (17, .dup, 1), (18, .ldc_w 345, 3), (21, .invokespecial 347, 3), (24, .athrow, 1), (25, .return_, 1)]
def mi_81 : AMI := (7, yX7_need, cX7_need, 2, none, [], mc_81, 0, 1)
def mc_82 : List (Nat × Instr × Nat) := [(0, .aload_n 0, 1), (1, .iload_n 1, 1), (2, .iconst 0, 1), (3, .iload_n 2, 1), (4, .aload_n 0, 1), (5, .getfield 10, 3), (8, .getfield 77, 3), (11, .invokestatic 278, 3), (14, .invokestatic 157, 3), (17, .invokevirtual 161, 3), (20, .aload_n 0, 1), (21, .getfield 10, 3), (24, .iload_n 1, 1), (25, .invokevirtual 348, 3), (28, .return_, 1)]
def mi_82 : AMI := (7, yX7_openText, cX7_openText, 3, none, [], mc_82, 0, 2)
def mc_83 : List (Nat × Instr × Nat) := [(0, .aload_n 0, 1), (1, .getfield 10, 3), (4, .invokevirtual 89, 3), (7, .ifCond .eq 7, 3), (10, .iload_n 1, 1), (11, .goto 13, 3), (14, .aload_n 0, 1), (15, .getfield 10, 3), (18, .getfield 351, 3), (21, .bipush 10, 2), (23, .isub, 1), (24, .ireturn, 1)]
def mi_83 : AMI := (7, yX7_textAnswer, cX7_textAnswer, 2, (some .int), [], mc_83, 0, 1)
def mc_84 : List (Nat × Instr × Nat) := [(0, .aload_n 0, 1), (1, .iload_n 1, 1), (2, .sipush 600, 3), (5, .invokevirtual 81, 3), (8, .aload_n 0, 1), (9, .getfield 54, 3), (12, .aload_n 0, 1), (13, .getfield 10, 3), (16, .invokevirtual 85, 3), (19, .aload_n 0, 1), (20, .getfield 10, 3), (23, .invokevirtual 89, 3), (26, .ifCond .eq 55, 3), (29, .aload_n 0, 1), (30, .getfield 50, 3), (33, .astore_n 2, 1), (34, .aload_n 0, 1), (35, .aload_n 0, 1), (36, .getfield 54, 3), (39, .putfield 50, 3), (42, .aload_n 0, 1), (43, .aload_n 2, 1), (44, .putfield 54, 3), (47, .aload_n 0, 1), (48, .getfield 62, 3), (51, .aload_n 0, 1), (52, .getfield 50, 3), (55, .invokevirtual 93, 3), (58, .aload_n 0, 1), (59, .getfield 66, 3), (62, .aload_n 0, 1), (63, .getfield 50, 3), (66, .invokevirtual 93, 3), (69, .aload_n 0, 1), (70, .getfield 19, 3), (73, .invokevirtual 96, 3), (76, .aload_n 0, 1), (77, .iconst 0, 1), (78, .putfield 99, 3), (81, .aload_n 0, 1), (82, .aload_n 0, 1), (83, .getfield 50, 3), (86, .getfield 102, 3), (89, .invokevirtual 105, 3), (92, .ireturn, 1)]
def mi_84 : AMI := (7, yX7_mill, cX7_mill, 3, (some .int), [], mc_84, 0, 1)
def mc_85 : List (Nat × Instr × Nat) := [(0, .aload_n 0, 1), (1, .iload_n 1, 1), (2, .sipush 150, 3), (5, .invokevirtual 81, 3), (8, .aload_n 0, 1), (9, .getfield 50, 3), (12, .getfield 109, 3), (15, .aload_n 0, 1), (16, .getfield 10, 3), (19, .invokevirtual 113, 3), (22, .aload_n 0, 1), (23, .iconst 1, 1), (24, .invokevirtual 105, 3), (27, .ireturn, 1)]
def mi_85 : AMI := (7, yX7_law, cX7_law, 2, (some .int), [], mc_85, 0, 1)
def mc_86 : List (Nat × Instr × Nat) := [(0, .aload_n 0, 1), (1, .iload_n 1, 1), (2, .sipush 150, 3), (5, .invokevirtual 81, 3), (8, .aload_n 0, 1), (9, .getfield 19, 3), (12, .invokevirtual 118, 3), (15, .ifCond .eq 6, 3), (18, .bipush (-20), 2), (20, .ireturn, 1), (21, .aload_n 0, 1), (22, .getfield 26, 3), (25, .aload_n 0, 1), (26, .getfield 10, 3), (29, .aload_n 0, 1), (30, .getfield 50, 3), (33, .invokevirtual 121, 3), (36, .aload_n 0, 1), (37, .getfield 10, 3), (40, .invokevirtual 89, 3), (43, .ifCond .eq 45, 3), (46, .aload_n 0, 1), (47, .getfield 19, 3), (50, .aload_n 0, 1), (51, .getfield 62, 3), (54, .invokevirtual 125, 3), (57, .aload_n 0, 1), (58, .getfield 26, 3), (61, .aload_n 0, 1), (62, .getfield 62, 3), (65, .iconst 0, 1), (66, .aload_n 0, 1), (67, .getfield 26, 3), (70, .getfield 129, 3), (73, .iconst 0, 1), (74, .invokevirtual 132, 3), (77, .aload_n 0, 1), (78, .aload_n 0, 1), (79, .getfield 26, 3), (82, .getfield 136, 3), (85, .putfield 99, 3), (88, .aload_n 0, 1), (89, .aload_n 0, 1), (90, .getfield 26, 3), (93, .getfield 139, 3), (96, .invokevirtual 105, 3), (99, .ireturn, 1)]
def mi_86 : AMI := (7, yX7_work, cX7_work, 2, (some .int), [], mc_86, 0, 1)
def mc_87 : List (Nat × Instr × Nat) := [(0, .aload_n 0, 1), (1, .iload_n 1, 1), (2, .bipush 60, 2), (4, .invokevirtual 81, 3), (7, .aload_n 0, 1), (8, .getfield 50, 3), (11, .aload_n 0, 1), (12, .getfield 10, 3), (15, .invokevirtual 142, 3), (18, .aload_n 0, 1), (19, .aload_n 0, 1), (20, .getfield 50, 3), (23, .getfield 145, 3), (26, .invokevirtual 105, 3), (29, .ireturn, 1)]
def mi_87 : AMI := (7, yX7_stack, cX7_stack, 2, (some .int), [], mc_87, 0, 1)
def mc_88 : List (Nat × Instr × Nat) := [(0, .aload_n 0, 1), (1, .iload_n 1, 1), (2, .bipush 60, 2), (4, .invokevirtual 81, 3), (7, .aload_n 0, 1), (8, .getfield 50, 3), (11, .aload_n 0, 1), (12, .getfield 10, 3), (15, .invokevirtual 148, 3), (18, .aload_n 0, 1), (19, .aload_n 0, 1), (20, .getfield 50, 3), (23, .getfield 151, 3), (26, .invokevirtual 105, 3), (29, .ireturn, 1)]
def mi_88 : AMI := (7, yX7_book, cX7_book, 2, (some .int), [], mc_88, 0, 1)
def mc_89 : List (Nat × Instr × Nat) := [(0, .aload_n 0, 1), (1, .getfield 10, 3), (4, .getfield 154, 3), (7, .ireturn, 1)]
def mi_89 : AMI := (7, yX7_fault, cX7_fault, 1, (some .int), [], mc_89, 0, 0)
def mc_90 : List (Nat × Instr × Nat) := [(0, .aload_n 0, 1), (1, .iload_n 1, 1), (2, .iconst 0, 1), (3, .bipush 12, 2), (5, .invokestatic 157, 3), (8, .invokevirtual 161, 3), (11, .iload_n 1, 1), (12, .tableswitch 169 0 11 #[64, 72, 80, 88, 96, 107, 115, 126, 137, 145, 156, 161], 64), (76, .aload_n 0, 1), (77, .getfield 50, 3), (80, .getfield 102, 3), (83, .ireturn, 1), (84, .aload_n 0, 1), (85, .getfield 50, 3), (88, .getfield 165, 3), (91, .ireturn, 1), (92, .aload_n 0, 1), (93, .getfield 50, 3), (96, .getfield 168, 3), (99, .ireturn, 1), (100, .aload_n 0, 1), (101, .getfield 50, 3), (104, .getfield 171, 3), (107, .ireturn, 1), (108, .aload_n 0, 1), (109, .getfield 62, 3), (112, .getfield 174, 3), (115, .bipush 31, 2), (117, .iaload, 1), (118, .ireturn, 1), (119, .aload_n 0, 1), (120, .getfield 62, 3), (123, .invokevirtual 177, 3), (126, .ireturn, 1), (127, .aload_n 0, 1), (128, .getfield 62, 3), (131, .getfield 174, 3), (134, .bipush 32, 2), (136, .iaload, 1), (137, .ireturn, 1), (138, .aload_n 0, 1), (139, .getfield 62, 3), (142, .getfield 174, 3), (145, .bipush 33, 2), (147, .iaload, 1), (148, .ireturn, 1), (149, .aload_n 0, 1), (150, .getfield 62, 3), (153, .invokevirtual 181, 3), (156, .ireturn, 1), (157, .aload_n 0, 1), (158, .getfield 62, 3), (161, .getfield 174, 3), (164, .bipush 30, 2), (166, .iaload, 1), (167, .ireturn, 1), (168, .aload_n 0, 1), (169, .getfield 99, 3), (172, .ireturn, 1), (173, .aload_n 0, 1), (174, .getfield 50, 3), (177, .getfield 145, 3), (180, .ireturn, 1), (181, .aload_n 0, 1), (182, .getfield 50, 3), (185, .getfield 151, 3), (188, .ireturn, 1)]
def mi_90 : AMI := (7, yX7_told, cX7_told, 2, (some .int), [], mc_90, 0, 1)
def mc_91 : List (Nat × Instr × Nat) := [(0, .iload_n 1, 1), (1, .ifCond .ne 24, 3), (4, .aload_n 0, 1), (5, .dup, 1), (6, .getfield 327, 3), (9, .iconst 1, 1), (10, .iadd, 1), (11, .putfield 327, 3), (14, .new 336, 3), (17, .dup, 1), (18, .ldc_w 338, 3), (21, .invokespecial 340, 3), (24, .athrow, 1), (25, .return_, 1)]
def mi_91 : AMI := (7, yX7_needThere, cX7_needThere, 2, none, [], mc_91, 0, 1)
def mc_92 : List (Nat × Instr × Nat) := [(0, .aload_n 0, 1), (1, .iload_n 1, 1), (2, .iconst 0, 1), (3, .aload_n 0, 1), (4, .getfield 50, 3), (7, .getfield 102, 3), (10, .iconst 1, 1), (11, .isub, 1), (12, .invokestatic 157, 3), (15, .invokevirtual 333, 3), (18, .return_, 1)]
def mi_92 : AMI := (7, yX7_needJar, cX7_needJar, 2, none, [], mc_92, 0, 1)
def mc_93 : List (Nat × Instr × Nat) := [(0, .aload_n 0, 1), (1, .iload_n 1, 1), (2, .invokevirtual 184, 3), (5, .aload_n 0, 1), (6, .iload_n 2, 1), (7, .iconst 0, 1), (8, .bipush 6, 2), (10, .invokestatic 157, 3), (13, .invokevirtual 161, 3), (16, .iload_n 2, 1), (17, .tableswitch 54 4 6 #[27, 36, 45], 27), (44, .aload_n 0, 1), (45, .getfield 62, 3), (48, .iload_n 1, 1), (49, .invokevirtual 187, 3), (52, .ireturn, 1), (53, .aload_n 0, 1), (54, .getfield 62, 3), (57, .iload_n 1, 1), (58, .invokevirtual 190, 3), (61, .ireturn, 1), (62, .aload_n 0, 1), (63, .getfield 62, 3), (66, .iload_n 1, 1), (67, .invokevirtual 193, 3), (70, .ireturn, 1), (71, .aload_n 0, 1), (72, .getfield 62, 3), (75, .iload_n 1, 1), (76, .iload_n 2, 1), (77, .invokevirtual 196, 3), (80, .ireturn, 1)]
def mi_93 : AMI := (7, yX7_jar, cX7_jar, 3, (some .int), [], mc_93, 0, 2)
def mc_94 : List (Nat × Instr × Nat) := [(0, .aload_n 0, 1), (1, .iload_n 1, 1), (2, .iconst 0, 1), (3, .aload_n 0, 1), (4, .getfield 50, 3), (7, .getfield 165, 3), (10, .iconst 1, 1), (11, .isub, 1), (12, .invokestatic 157, 3), (15, .invokevirtual 333, 3), (18, .return_, 1)]
def mi_94 : AMI := (7, yX7_needStone, cX7_needStone, 2, none, [], mc_94, 0, 1)
def mc_95 : List (Nat × Instr × Nat) := [(0, .aload_n 0, 1), (1, .iload_n 1, 1), (2, .invokevirtual 200, 3), (5, .aload_n 0, 1), (6, .iload_n 2, 1), (7, .iconst 0, 1), (8, .iconst 2, 1), (9, .invokestatic 157, 3), (12, .invokevirtual 161, 3), (15, .aload_n 0, 1), (16, .getfield 50, 3), (19, .iload_n 1, 1), (20, .iload_n 2, 1), (21, .invokevirtual 203, 3), (24, .ireturn, 1)]
def mi_95 : AMI := (7, yX7_stone, cX7_stone, 3, (some .int), [], mc_95, 0, 2)
def mc_96 : List (Nat × Instr × Nat) := [(0, .aload_n 0, 1), (1, .iload_n 1, 1), (2, .iconst 0, 1), (3, .aload_n 0, 1), (4, .getfield 50, 3), (7, .getfield 168, 3), (10, .iconst 1, 1), (11, .isub, 1), (12, .invokestatic 157, 3), (15, .invokevirtual 333, 3), (18, .return_, 1)]
def mi_96 : AMI := (7, yX7_needSieve, cX7_needSieve, 2, none, [], mc_96, 0, 1)
def mc_97 : List (Nat × Instr × Nat) := [(0, .aload_n 0, 1), (1, .iload_n 1, 1), (2, .invokevirtual 206, 3), (5, .aload_n 0, 1), (6, .iload_n 2, 1), (7, .iconst 0, 1), (8, .iconst 1, 1), (9, .invokestatic 157, 3), (12, .invokevirtual 161, 3), (15, .iload_n 2, 1), (16, .ifCond .ne 13, 3), (19, .aload_n 0, 1), (20, .getfield 50, 3), (23, .getfield 209, 3), (26, .iload_n 1, 1), (27, .iaload, 1), (28, .ireturn, 1), (29, .aload_n 0, 1), (30, .getfield 62, 3), (33, .iload_n 1, 1), (34, .invokevirtual 212, 3), (37, .ifCond .eq 7, 3), (40, .iconst 1, 1), (41, .goto 4, 3), (44, .iconst 0, 1), (45, .ireturn, 1)]
def mi_97 : AMI := (7, yX7_sieve, cX7_sieve, 3, (some .int), [], mc_97, 0, 2)
def mc_98 : List (Nat × Instr × Nat) := [(0, .aload_n 0, 1), (1, .iload_n 1, 1), (2, .invokevirtual 184, 3), (5, .sipush 9999, 3), (8, .aload_n 0, 1), (9, .getfield 62, 3), (12, .iload_n 1, 1), (13, .invokevirtual 187, 3), (16, .isub, 1), (17, .ireturn, 1)]
def mi_98 : AMI := (7, yX7_space, cX7_space, 2, (some .int), [], mc_98, 0, 1)
def mc_99 : List (Nat × Instr × Nat) := [(0, .aload_n 0, 1), (1, .iload_n 1, 1), (2, .iconst 0, 1), (3, .iconst 1, 1), (4, .invokestatic 157, 3), (7, .invokevirtual 161, 3), (10, .iconst (-1), 1), (11, .istore_n 2, 1), (12, .iconst 0, 1), (13, .istore_n 3, 1), (14, .iload_n 3, 1), (15, .aload_n 0, 1), (16, .getfield 50, 3), (19, .getfield 102, 3), (22, .if_icmp .ge 46, 3), (25, .aload_n 0, 1), (26, .getfield 62, 3), (29, .iload_n 3, 1), (30, .invokevirtual 187, 3), (33, .ifCond .le 29, 3), (36, .iload_n 2, 1), (37, .iconst (-1), 1), (38, .if_icmp .eq 22, 3), (41, .aload_n 0, 1), (42, .getfield 62, 3), (45, .iload_n 3, 1), (46, .invokevirtual 190, 3), (49, .aload_n 0, 1), (50, .getfield 62, 3), (53, .iload_n 2, 1), (54, .invokevirtual 190, 3), (57, .if_icmp .le 5, 3), (60, .iload_n 3, 1), (61, .istore_n 2, 1), (62, .iinc 3 1, 3), (65, .goto (-51), 3), (68, .iload_n 1, 1), (69, .ifCond .eq 8, 3), (72, .iload_n 2, 1), (73, .iconst (-1), 1), (74, .if_icmp .ne 7, 3), (77, .iload_n 2, 1), (78, .goto 11, 3), (81, .aload_n 0, 1), (82, .getfield 62, 3), (85, .iload_n 2, 1), (86, .invokevirtual 190, 3), (89, .ireturn, 1)]
def mi_99 : AMI := (7, yX7_oldest, cX7_oldest, 4, (some .int), [], mc_99, 0, 1)
def mc_100 : List (Nat × Instr × Nat) := [(0, .aload_n 0, 1), (1, .iload_n 1, 1), (2, .iconst 0, 1), (3, .iconst 3, 1), (4, .invokestatic 157, 3), (7, .ifCond .eq 16, 3), (10, .iload_n 2, 1), (11, .iconst 0, 1), (12, .iconst 1, 1), (13, .invokestatic 157, 3), (16, .ifCond .eq 7, 3), (19, .iconst 1, 1), (20, .goto 4, 3), (23, .iconst 0, 1), (24, .invokevirtual 161, 3), (27, .iconst 0, 1), (28, .istore_n 3, 1), (29, .iconst (-1), 1), (30, .istore 4, 2), (32, .iconst 0, 1), (33, .istore 5, 2), (35, .iconst 0, 1), (36, .istore 6, 2), (38, .iload 6, 2), (40, .aload_n 0, 1), (41, .getfield 50, 3), (44, .getfield 102, 3), (47, .if_icmp .ge 41, 3), (50, .aload_n 0, 1), (51, .getfield 62, 3), (54, .iload 6, 2), (56, .iload_n 1, 1), (57, .invokevirtual 196, 3), (60, .istore 7, 2), (62, .iload_n 3, 1), (63, .iload 7, 2), (65, .iadd, 1), (66, .istore_n 3, 1), (67, .iload 7, 2), (69, .iload 5, 2), (71, .if_icmp .le 11, 3), (74, .iload 7, 2), (76, .istore 5, 2), (78, .iload 6, 2), (80, .istore 4, 2), (82, .iinc 6 1, 3), (85, .goto (-47), 3), (88, .iload_n 2, 1), (89, .ifCond .ne 7, 3), (92, .iload_n 3, 1), (93, .goto 5, 3), (96, .iload 4, 2), (98, .ireturn, 1)]
def mi_100 : AMI := (7, yX7_amount, cX7_amount, 8, (some .int), [], mc_100, 0, 2)
def mc_101 : List (Nat × Instr × Nat) := [(0, .iconst 0, 1), (1, .istore_n 1, 1), (2, .iconst 0, 1), (3, .istore_n 2, 1), (4, .iload_n 2, 1), (5, .aload_n 0, 1), (6, .getfield 50, 3), (9, .getfield 102, 3), (12, .if_icmp .ge 27, 3), (15, .aload_n 0, 1), (16, .getfield 62, 3), (19, .iload_n 2, 1), (20, .invokevirtual 215, 3), (23, .iconst 1, 1), (24, .if_icmp .ne 9, 3), (27, .iload_n 1, 1), (28, .iconst 1, 1), (29, .iload_n 2, 1), (30, .ishl, 1), (31, .ior, 1), (32, .istore_n 1, 1), (33, .iinc 2 1, 3), (36, .goto (-32), 3), (39, .iload_n 1, 1), (40, .ireturn, 1)]
def mi_101 : AMI := (7, yX7_even, cX7_even, 3, (some .int), [], mc_101, 0, 0)
def mc_102 : List (Nat × Instr × Nat) := [(0, .aload_n 0, 1), (1, .iload_n 1, 1), (2, .invokevirtual 184, 3), (5, .iconst (-1), 1), (6, .istore_n 2, 1), (7, .iconst 0, 1), (8, .istore_n 3, 1), (9, .iconst 0, 1), (10, .istore 4, 2), (12, .iload 4, 2), (14, .aload_n 0, 1), (15, .getfield 50, 3), (18, .getfield 102, 3), (21, .if_icmp .ge 67, 3), (24, .aload_n 0, 1), (25, .getfield 62, 3), (28, .iload 4, 2), (30, .invokevirtual 193, 3), (33, .aload_n 0, 1), (34, .getfield 62, 3), (37, .iload_n 1, 1), (38, .invokevirtual 193, 3), (41, .isub, 1), (42, .invokestatic 218, 3), (45, .istore 5, 2), (47, .iload 4, 2), (49, .iload_n 1, 1), (50, .if_icmp .eq 32, 3), (53, .aload_n 0, 1), (54, .getfield 62, 3), (57, .iload 4, 2), (59, .invokevirtual 187, 3), (62, .ifCond .le 20, 3), (65, .iload_n 2, 1), (66, .iconst (-1), 1), (67, .if_icmp .eq 9, 3), (70, .iload 5, 2), (72, .iload_n 3, 1), (73, .if_icmp .ge 9, 3), (76, .iload 4, 2), (78, .istore_n 2, 1), (79, .iload 5, 2), (81, .istore_n 3, 1), (82, .iinc 4 1, 3), (85, .goto (-73), 3), (88, .iload_n 2, 1), (89, .ireturn, 1)]
def mi_102 : AMI := (7, yX7_like, cX7_like, 6, (some .int), [], mc_102, 0, 1)
def mc_103 : List (Nat × Instr × Nat) := [(0, .aload_n 0, 1), (1, .iload_n 1, 1), (2, .invokevirtual 184, 3), (5, .aload_n 0, 1), (6, .getfield 62, 3), (9, .iload_n 1, 1), (10, .invokevirtual 223, 3), (13, .ireturn, 1)]
def mi_103 : AMI := (7, yX7_sneeze, cX7_sneeze, 2, (some .int), [], mc_103, 0, 1)
def mc_104 : List (Nat × Instr × Nat) := [(0, .aload_n 0, 1), (1, .iload_n 1, 1), (2, .iconst 0, 1), (3, .sipush 9999, 3), (6, .invokestatic 157, 3), (9, .ifCond .eq 75, 3), (12, .iload_n 2, 1), (13, .iconst 0, 1), (14, .sipush 9999, 3), (17, .invokestatic 157, 3), (20, .ifCond .eq 64, 3), (23, .iload_n 3, 1), (24, .iconst 0, 1), (25, .sipush 9999, 3), (28, .invokestatic 157, 3), (31, .ifCond .eq 53, 3), (34, .iload 4, 2), (36, .iconst 0, 1), (37, .sipush 9999, 3), (40, .invokestatic 157, 3), (43, .ifCond .eq 41, 3), (46, .iload 5, 2), (48, .iconst 0, 1), (49, .sipush 400, 3), (52, .invokestatic 157, 3), (55, .ifCond .eq 29, 3), (58, .iload 6, 2), (60, .iconst 0, 1), (61, .sipush 400, 3), (64, .invokestatic 157, 3), (67, .ifCond .eq 17, 3), (70, .iload 7, 2), (72, .iconst 0, 1), (73, .iconst 5, 1), (74, .invokestatic 157, 3), (77, .ifCond .eq 7, 3), (80, .iconst 1, 1), (81, .goto 4, 3), (84, .iconst 0, 1), (85, .invokevirtual 161, 3), (88, .aload_n 0, 1), (89, .getfield 50, 3), (92, .getfield 109, 3), (95, .iload_n 1, 1), (96, .iload_n 2, 1), (97, .iload_n 3, 1), (98, .iload 4, 2), (100, .iload 5, 2), (102, .iload 6, 2), (104, .iload 7, 2), (106, .invokevirtual 226, 3), (109, .ireturn, 1)]
def mi_104 : AMI := (7, yX7_would, cX7_would, 8, (some .int), [], mc_104, 0, 7)
def mc_105 : List (Nat × Instr × Nat) := [(0, .aload_n 0, 1), (1, .iload_n 1, 1), (2, .iconst 0, 1), (3, .iconst 1, 1), (4, .invokestatic 157, 3), (7, .invokevirtual 161, 3), (10, .iconst (-1), 1), (11, .istore_n 2, 1), (12, .iconst (-1), 1), (13, .istore_n 3, 1), (14, .iconst 0, 1), (15, .istore 4, 2), (17, .iload 4, 2), (19, .aload_n 0, 1), (20, .getfield 50, 3), (23, .getfield 102, 3), (26, .if_icmp .ge 48, 3), (29, .aload_n 0, 1), (30, .getfield 62, 3), (33, .iload 4, 2), (35, .invokevirtual 187, 3), (38, .ifCond .le 15, 3), (41, .aload_n 0, 1), (42, .getfield 62, 3), (45, .iload 4, 2), (47, .invokevirtual 223, 3), (50, .goto 4, 3), (53, .iconst (-1), 1), (54, .istore 5, 2), (56, .iload 5, 2), (58, .iload_n 3, 1), (59, .if_icmp .le 9, 3), (62, .iload 5, 2), (64, .istore_n 3, 1), (65, .iload 4, 2), (67, .istore_n 2, 1), (68, .iinc 4 1, 3), (71, .goto (-54), 3), (74, .iload_n 1, 1), (75, .ifCond .ne 7, 3), (78, .iload_n 2, 1), (79, .goto 4, 3), (82, .iload_n 3, 1), (83, .ireturn, 1)]
def mi_105 : AMI := (7, yX7_sharpest, cX7_sharpest, 6, (some .int), [], mc_105, 0, 1)
def mc_106 : List (Nat × Instr × Nat) := [(0, .iconst 0, 1), (1, .istore_n 1, 1), (2, .iconst 0, 1), (3, .istore_n 2, 1), (4, .iload_n 2, 1), (5, .aload_n 0, 1), (6, .getfield 50, 3), (9, .getfield 102, 3), (12, .if_icmp .ge 26, 3), (15, .aload_n 0, 1), (16, .getfield 62, 3), (19, .iload_n 2, 1), (20, .invokevirtual 230, 3), (23, .ifCond .eq 9, 3), (26, .iload_n 1, 1), (27, .iconst 1, 1), (28, .iload_n 2, 1), (29, .ishl, 1), (30, .ior, 1), (31, .istore_n 1, 1), (32, .iinc 2 1, 3), (35, .goto (-31), 3), (38, .iload_n 1, 1), (39, .ireturn, 1)]
def mi_106 : AMI := (7, yX7_ripe, cX7_ripe, 3, (some .int), [], mc_106, 0, 0)
def mc_107 : List (Nat × Instr × Nat) := [(0, .iconst 0, 1), (1, .istore_n 1, 1), (2, .iconst 0, 1), (3, .istore_n 2, 1), (4, .iload_n 2, 1), (5, .aload_n 0, 1), (6, .getfield 50, 3), (9, .getfield 102, 3), (12, .if_icmp .ge 34, 3), (15, .aload_n 0, 1), (16, .getfield 62, 3), (19, .iload_n 2, 1), (20, .invokevirtual 230, 3), (23, .ifCond .eq 17, 3), (26, .iload_n 1, 1), (27, .aload_n 0, 1), (28, .getfield 62, 3), (31, .iload_n 2, 1), (32, .invokevirtual 187, 3), (35, .bipush 10, 2), (37, .idiv, 1), (38, .iadd, 1), (39, .istore_n 1, 1), (40, .iinc 2 1, 3), (43, .goto (-39), 3), (46, .iload_n 1, 1), (47, .ireturn, 1)]
def mi_107 : AMI := (7, yX7_worth, cX7_worth, 3, (some .int), [], mc_107, 0, 0)
def mc_108 : List (Nat × Instr × Nat) := [(0, .aload_n 0, 1), (1, .iload_n 1, 1), (2, .invokevirtual 184, 3), (5, .aload_n 0, 1), (6, .iload_n 2, 1), (7, .invokevirtual 184, 3), (10, .aload_n 0, 1), (11, .getfield 66, 3), (14, .aload_n 0, 1), (15, .getfield 62, 3), (18, .invokevirtual 233, 3), (21, .aload_n 0, 1), (22, .getfield 66, 3), (25, .iload_n 1, 1), (26, .iload_n 2, 1), (27, .invokevirtual 236, 3), (30, .ifCond .eq 14, 3), (33, .aload_n 0, 1), (34, .getfield 66, 3), (37, .iload_n 2, 1), (38, .invokevirtual 223, 3), (41, .goto 4, 3), (44, .iconst (-1), 1), (45, .ireturn, 1)]
def mi_108 : AMI := (7, yX7_blend, cX7_blend, 3, (some .int), [], mc_108, 0, 2)
def mc_109 : List (Nat × Instr × Nat) := [(0, .aload_n 0, 1), (1, .iload_n 1, 1), (2, .invokevirtual 184, 3), (5, .aload_n 0, 1), (6, .getfield 66, 3), (9, .aload_n 0, 1), (10, .getfield 62, 3), (13, .invokevirtual 233, 3), (16, .iconst 0, 1), (17, .istore_n 2, 1), (18, .iload_n 2, 1), (19, .bipush 99, 2), (21, .if_icmp .gt 34, 3), (24, .aload_n 0, 1), (25, .getfield 66, 3), (28, .iload_n 1, 1), (29, .invokevirtual 230, 3), (32, .ifCond .eq 5, 3), (35, .iload_n 2, 1), (36, .ireturn, 1), (37, .aload_n 0, 1), (38, .getfield 66, 3), (41, .invokevirtual 240, 3), (44, .ifCond .ne 5, 3), (47, .iconst (-1), 1), (48, .ireturn, 1), (49, .iinc 2 1, 3), (52, .goto (-34), 3), (55, .iconst (-1), 1), (56, .ireturn, 1)]
def mi_109 : AMI := (7, yX7_ripens, cX7_ripens, 3, (some .int), [], mc_109, 0, 1)
def mc_110 : List (Nat × Instr × Nat) := [(0, .aload_n 0, 1), (1, .iload_n 1, 1), (2, .invokevirtual 200, 3), (5, .aload_n 0, 1), (6, .iload_n 2, 1), (7, .invokevirtual 184, 3), (10, .aload_n 0, 1), (11, .iload_n 3, 1), (12, .iconst 0, 1), (13, .iconst 4, 1), (14, .invokestatic 157, 3), (17, .invokevirtual 161, 3), (20, .aload_n 0, 1), (21, .getfield 66, 3), (24, .aload_n 0, 1), (25, .getfield 62, 3), (28, .invokevirtual 233, 3), (31, .aload_n 0, 1), (32, .getfield 66, 3), (35, .iload_n 1, 1), (36, .iload_n 2, 1), (37, .invokevirtual 243, 3), (40, .pop, 1), (41, .iload_n 3, 1), (42, .iconst 4, 1), (43, .if_icmp .ne 25, 3), (46, .aload_n 0, 1), (47, .getfield 66, 3), (50, .getfield 174, 3), (53, .bipush 32, 2), (55, .iaload, 1), (56, .aload_n 0, 1), (57, .getfield 62, 3), (60, .getfield 174, 3), (63, .bipush 32, 2), (65, .iaload, 1), (66, .isub, 1), (67, .ireturn, 1), (68, .aload_n 0, 1), (69, .getfield 66, 3), (72, .iload_n 2, 1), (73, .iload_n 3, 1), (74, .invokevirtual 196, 3), (77, .ireturn, 1)]
def mi_110 : AMI := (7, yX7_ground, cX7_ground, 4, (some .int), [], mc_110, 0, 3)
def mc_111 : List (Nat × Instr × Nat) := [(0, .aload_n 0, 1), (1, .iload_n 1, 1), (2, .invokevirtual 206, 3), (5, .aload_n 0, 1), (6, .iload_n 2, 1), (7, .invokevirtual 184, 3), (10, .aload_n 0, 1), (11, .iload_n 3, 1), (12, .iconst 0, 1), (13, .iconst 4, 1), (14, .invokestatic 157, 3), (17, .invokevirtual 161, 3), (20, .iload_n 3, 1), (21, .iconst 4, 1), (22, .if_icmp .ne 15, 3), (25, .aload_n 0, 1), (26, .getfield 62, 3), (29, .iload_n 1, 1), (30, .iload_n 2, 1), (31, .invokevirtual 246, 3), (34, .goto 13, 3), (37, .aload_n 0, 1), (38, .getfield 62, 3), (41, .iload_n 1, 1), (42, .iload_n 2, 1), (43, .iload_n 3, 1), (44, .invokevirtual 249, 3), (47, .ireturn, 1)]
def mi_111 : AMI := (7, yX7_falls, cX7_falls, 4, (some .int), [], mc_111, 0, 3)
def mc_112 : List (Nat × Instr × Nat) := [(0, .aload_n 0, 1), (1, .iload_n 1, 1), (2, .invokevirtual 184, 3), (5, .aload_n 0, 1), (6, .iload_n 2, 1), (7, .invokevirtual 200, 3), (10, .aload_n 0, 1), (11, .iload_n 3, 1), (12, .iconst 0, 1), (13, .sipush 1000, 3), (16, .invokestatic 157, 3), (19, .invokevirtual 161, 3), (22, .aload_n 0, 1), (23, .getfield 62, 3), (26, .iload_n 1, 1), (27, .invokevirtual 187, 3), (30, .ifCond .ne 5, 3), (33, .iconst (-1), 1), (34, .ireturn, 1), (35, .aload_n 0, 1), (36, .getfield 66, 3), (39, .aload_n 0, 1), (40, .getfield 62, 3), (43, .invokevirtual 233, 3), (46, .iconst 0, 1), (47, .istore 4, 2), (49, .iload 4, 2), (51, .bipush 99, 2), (53, .if_icmp .gt 34, 3), (56, .aload_n 0, 1), (57, .getfield 66, 3), (60, .iload_n 1, 1), (61, .invokevirtual 193, 3), (64, .iload_n 3, 1), (65, .if_icmp .lt 6, 3), (68, .iload 4, 2), (70, .ireturn, 1), (71, .aload_n 0, 1), (72, .getfield 66, 3), (75, .iload_n 2, 1), (76, .iload_n 1, 1), (77, .invokevirtual 243, 3), (80, .pop, 1), (81, .iinc 4 1, 3), (84, .goto (-35), 3), (87, .iconst (-1), 1), (88, .ireturn, 1)]
def mi_112 : AMI := (7, yX7_milled, cX7_milled, 5, (some .int), [], mc_112, 0, 3)
def mc_113 : List (Nat × Instr × Nat) := [(0, .iconst 0, 1), (1, .istore_n 2, 1), (2, .iconst 0, 1), (3, .istore_n 3, 1), (4, .iload_n 3, 1), (5, .iconst 4, 1), (6, .if_icmp .ge 39, 3), (9, .aload_n 0, 1), (10, .getfield 44, 3), (13, .iload_n 3, 1), (14, .aload_n 0, 1), (15, .getfield 62, 3), (18, .iload_n 1, 1), (19, .iload_n 3, 1), (20, .aload_n 0, 1), (21, .getfield 44, 3), (24, .iload_n 3, 1), (25, .iaload, 1), (26, .invokevirtual 354, 3), (29, .iastore, 1), (30, .iload_n 2, 1), (31, .aload_n 0, 1), (32, .getfield 44, 3), (35, .iload_n 3, 1), (36, .iaload, 1), (37, .iadd, 1), (38, .istore_n 2, 1), (39, .iinc 3 1, 3), (42, .goto (-38), 3), (45, .iload_n 2, 1), (46, .ireturn, 1)]
def mi_113 : AMI := (7, yX7_dropHeap, cX7_dropHeap, 4, (some .int), [], mc_113, 0, 1)
def mc_114 : List (Nat × Instr × Nat) := [(0, .aload_n 0, 1), (1, .iload_n 1, 1), (2, .invokevirtual 184, 3), (5, .aload_n 0, 1), (6, .iload_n 2, 1), (7, .ifCond .lt 7, 3), (10, .iconst 1, 1), (11, .goto 4, 3), (14, .iconst 0, 1), (15, .invokevirtual 161, 3), (18, .iload_n 2, 1), (19, .aload_n 0, 1), (20, .getfield 50, 3), (23, .getfield 145, 3), (26, .if_icmp .le 5, 3), (29, .iconst (-1), 1), (30, .ireturn, 1), (31, .iconst 0, 1), (32, .istore_n 3, 1), (33, .iconst 0, 1), (34, .istore 4, 2), (36, .iload 4, 2), (38, .iconst 4, 1), (39, .if_icmp .ge 36, 3), (42, .aload_n 0, 1), (43, .getfield 44, 3), (46, .iload 4, 2), (48, .aload_n 0, 1), (49, .getfield 62, 3), (52, .iload_n 1, 1), (53, .iload 4, 2), (55, .invokevirtual 196, 3), (58, .iastore, 1), (59, .iload_n 3, 1), (60, .aload_n 0, 1), (61, .getfield 44, 3), (64, .iload 4, 2), (66, .iaload, 1), (67, .iadd, 1), (68, .istore_n 3, 1), (69, .iinc 4 1, 3), (72, .goto (-36), 3), (75, .iconst 0, 1), (76, .istore 4, 2), (78, .iconst 0, 1), (79, .istore 5, 2), (81, .iload 5, 2), (83, .iload_n 2, 1), (84, .if_icmp .gt 44, 3), (87, .iload 5, 2), (89, .aload_n 0, 1), (90, .getfield 50, 3), (93, .getfield 145, 3), (96, .if_icmp .ge 32, 3), (99, .iload_n 3, 1), (100, .aload_n 0, 1), (101, .aload_n 0, 1), (102, .getfield 50, 3), (105, .getfield 253, 3), (108, .iload 5, 2), (110, .iaload, 1), (111, .invokevirtual 256, 3), (114, .isub, 1), (115, .istore 4, 2), (117, .iload_n 3, 1), (118, .iload 4, 2), (120, .isub, 1), (121, .istore_n 3, 1), (122, .iinc 5 1, 3), (125, .goto (-44), 3), (128, .iload_n 2, 1), (129, .aload_n 0, 1), (130, .getfield 50, 3), (133, .getfield 145, 3), (136, .if_icmp .ne 7, 3), (139, .iload_n 3, 1), (140, .goto 5, 3), (143, .iload 4, 2), (145, .ireturn, 1)]
def mi_114 : AMI := (7, yX7_stays, cX7_stays, 6, (some .int), [], mc_114, 0, 2)
def mc_115 : List (Nat × Instr × Nat) := [(0, .aload_n 0, 1), (1, .iload_n 1, 1), (2, .invokevirtual 206, 3), (5, .iconst 0, 1), (6, .istore_n 2, 1), (7, .iconst 0, 1), (8, .istore_n 3, 1), (9, .iload_n 3, 1), (10, .aload_n 0, 1), (11, .getfield 50, 3), (14, .getfield 102, 3), (17, .if_icmp .ge 44, 3), (20, .aload_n 0, 1), (21, .getfield 62, 3), (24, .iload_n 3, 1), (25, .invokevirtual 187, 3), (28, .istore 4, 2), (30, .iload 4, 2), (32, .ifCond .le 23, 3), (35, .aload_n 0, 1), (36, .getfield 62, 3), (39, .iload_n 1, 1), (40, .iload_n 3, 1), (41, .invokevirtual 246, 3), (44, .iload 4, 2), (46, .if_icmp .ne 9, 3), (49, .iload_n 2, 1), (50, .iconst 1, 1), (51, .iload_n 3, 1), (52, .ishl, 1), (53, .ior, 1), (54, .istore_n 2, 1), (55, .iinc 3 1, 3), (58, .goto (-49), 3), (61, .iload_n 2, 1), (62, .ireturn, 1)]
def mi_115 : AMI := (7, yX7_passes, cX7_passes, 5, (some .int), [], mc_115, 0, 1)
def mc_116 : List (Nat × Instr × Nat) := [(0, .aload_n 0, 1), (1, .iload_n 1, 1), (2, .invokevirtual 206, 3), (5, .aload_n 0, 1), (6, .iload_n 2, 1), (7, .iconst 0, 1), (8, .iconst 1, 1), (9, .invokestatic 157, 3), (12, .invokevirtual 161, 3), (15, .iconst 0, 1), (16, .istore_n 3, 1), (17, .iconst 0, 1), (18, .istore 4, 2), (20, .iload 4, 2), (22, .aload_n 0, 1), (23, .getfield 50, 3), (26, .getfield 102, 3), (29, .if_icmp .ge 22, 3), (32, .iload_n 3, 1), (33, .aload_n 0, 1), (34, .getfield 62, 3), (37, .iload_n 1, 1), (38, .iload 4, 2), (40, .invokevirtual 246, 3), (43, .iadd, 1), (44, .istore_n 3, 1), (45, .iinc 4 1, 3), (48, .goto (-28), 3), (51, .iload_n 2, 1), (52, .ifCond .ne 7, 3), (55, .iload_n 3, 1), (56, .goto 12, 3), (59, .aload_n 0, 1), (60, .getfield 62, 3), (63, .invokevirtual 177, 3), (66, .iload_n 3, 1), (67, .isub, 1), (68, .ireturn, 1)]
def mi_116 : AMI := (7, yX7_through, cX7_through, 5, (some .int), [], mc_116, 0, 2)
def mc_117 : List (Nat × Instr × Nat) := [(0, .iload_n 1, 1), (1, .iconst 0, 1), (2, .iconst 1, 1), (3, .aload_n 0, 1), (4, .getfield 50, 3), (7, .getfield 102, 3), (10, .ishl, 1), (11, .iconst 1, 1), (12, .isub, 1), (13, .invokestatic 157, 3), (16, .ireturn, 1)]
def mi_117 : AMI := (7, yX7_isJars, cX7_isJars, 2, (some .boolean), [], mc_117, 0, 1)
def mc_118 : List (Nat × Instr × Nat) := [(0, .iconst 0, 1), (1, .istore_n 2, 1), (2, .iconst 0, 1), (3, .istore_n 3, 1), (4, .iload_n 3, 1), (5, .aload_n 0, 1), (6, .getfield 50, 3), (9, .getfield 102, 3), (12, .if_icmp .ge 29, 3), (15, .iload_n 1, 1), (16, .iload_n 3, 1), (17, .ishr, 1), (18, .iconst 1, 1), (19, .iand, 1), (20, .iconst 1, 1), (21, .if_icmp .ne 14, 3), (24, .iload_n 2, 1), (25, .aload_n 0, 1), (26, .getfield 62, 3), (29, .iload_n 3, 1), (30, .invokevirtual 187, 3), (33, .iadd, 1), (34, .istore_n 2, 1), (35, .iinc 3 1, 3), (38, .goto (-34), 3), (41, .iload_n 2, 1), (42, .ireturn, 1)]
def mi_118 : AMI := (7, yX7_gramsIn, cX7_gramsIn, 4, (some .int), [], mc_118, 0, 1)
def mc_119 : List (Nat × Instr × Nat) := [(0, .aload_n 0, 1), (1, .aload_n 0, 1), (2, .iload_n 1, 1), (3, .invokevirtual 259, 3), (6, .ifCond .eq 16, 3), (9, .iload_n 2, 1), (10, .iconst 0, 1), (11, .iconst 1, 1), (12, .invokestatic 157, 3), (15, .ifCond .eq 7, 3), (18, .iconst 1, 1), (19, .goto 4, 3), (22, .iconst 0, 1), (23, .invokevirtual 161, 3), (26, .iload_n 1, 1), (27, .iload_n 1, 1), (28, .ineg, 1), (29, .iand, 1), (30, .istore_n 3, 1), (31, .aload_n 0, 1), (32, .iload_n 1, 1), (33, .invokevirtual 262, 3), (36, .istore 4, 2), (38, .iload 4, 2), (40, .istore 5, 2), (42, .iload_n 1, 1), (43, .istore 6, 2), (45, .iconst 0, 1), (46, .istore 7, 2), (48, .iload 7, 2), (50, .iload_n 1, 1), (51, .if_icmp .gt 71, 3), (54, .iload 7, 2), (56, .iload_n 1, 1), (57, .iconst (-1), 1), (58, .ixor, 1), (59, .iand, 1), (60, .ifCond .ne 56, 3), (63, .iload 7, 2), (65, .iload_n 3, 1), (66, .iand, 1), (67, .iload_n 3, 1), (68, .if_icmp .ne 48, 3), (71, .iload 4, 2), (73, .iconst 2, 1), (74, .aload_n 0, 1), (75, .iload 7, 2), (77, .invokevirtual 262, 3), (80, .imul, 1), (81, .isub, 1), (82, .invokestatic 218, 3), (85, .istore 8, 2), (87, .iload 8, 2), (89, .iload 5, 2), (91, .if_icmp .lt 17, 3), (94, .iload 8, 2), (96, .iload 5, 2), (98, .if_icmp .ne 18, 3), (101, .iload 7, 2), (103, .iload 6, 2), (105, .if_icmp .ge 11, 3), (108, .iload 8, 2), (110, .istore 5, 2), (112, .iload 7, 2), (114, .istore 6, 2), (116, .iinc 7 1, 3), (119, .goto (-71), 3), (122, .iload_n 2, 1), (123, .ifCond .ne 8, 3), (126, .iload 5, 2), (128, .goto 5, 3), (131, .iload 6, 2), (133, .ireturn, 1)]
def mi_119 : AMI := (7, yX7_halves, cX7_halves, 9, (some .int), [], mc_119, 0, 2)
def mc_120 : List (Nat × Instr × Nat) := [(0, .iconst 0, 1), (1, .istore_n 1, 1), (2, .iload_n 1, 1), (3, .aload_n 0, 1), (4, .getfield 50, 3), (7, .getfield 102, 3), (10, .if_icmp .ge 23, 3), (13, .aload_n 0, 1), (14, .getfield 41, 3), (17, .iload_n 1, 1), (18, .aload_n 0, 1), (19, .getfield 62, 3), (22, .iload_n 1, 1), (23, .invokevirtual 223, 3), (26, .iastore, 1), (27, .iinc 1 1, 3), (30, .goto (-28), 3), (33, .return_, 1)]
def mi_120 : AMI := (7, yX7_weighPowers, cX7_weighPowers, 2, none, [], mc_120, 0, 0)
def mc_121 : List (Nat × Instr × Nat) := [(0, .iconst 0, 1), (1, .istore_n 2, 1), (2, .iconst 0, 1), (3, .istore_n 3, 1), (4, .iload_n 3, 1), (5, .aload_n 0, 1), (6, .getfield 50, 3), (9, .getfield 102, 3), (12, .if_icmp .ge 27, 3), (15, .iload_n 1, 1), (16, .iload_n 3, 1), (17, .ishr, 1), (18, .iconst 1, 1), (19, .iand, 1), (20, .iconst 1, 1), (21, .if_icmp .ne 12, 3), (24, .iload_n 2, 1), (25, .aload_n 0, 1), (26, .getfield 41, 3), (29, .iload_n 3, 1), (30, .iaload, 1), (31, .iadd, 1), (32, .istore_n 2, 1), (33, .iinc 3 1, 3), (36, .goto (-32), 3), (39, .iload_n 2, 1), (40, .ireturn, 1)]
def mi_121 : AMI := (7, yX7_powerIn, cX7_powerIn, 4, (some .int), [], mc_121, 0, 1)
def mc_122 : List (Nat × Instr × Nat) := [(0, .aload_n 0, 1), (1, .iload_n 1, 1), (2, .invokevirtual 272, 3), (5, .aload_n 0, 1), (6, .iload_n 2, 1), (7, .invokevirtual 272, 3), (10, .isub, 1), (11, .istore_n 3, 1), (12, .iload_n 3, 1), (13, .ifCond .gt 20, 3), (16, .iload_n 3, 1), (17, .ifCond .ne 20, 3), (20, .aload_n 0, 1), (21, .iload_n 1, 1), (22, .invokevirtual 262, 3), (25, .aload_n 0, 1), (26, .iload_n 2, 1), (27, .invokevirtual 262, 3), (30, .if_icmp .ge 7, 3), (33, .iconst 1, 1), (34, .goto 4, 3), (37, .iconst 0, 1), (38, .ireturn, 1)]
def mi_122 : AMI := (7, yX7_isBetterBox, cX7_isBetterBox, 4, (some .boolean), [], mc_122, 0, 2)
def mc_123 : List (Nat × Instr × Nat) := [(0, .aload_n 0, 1), (1, .aload_n 0, 1), (2, .iload_n 1, 1), (3, .invokevirtual 259, 3), (6, .ifCond .eq 27, 3), (9, .iload_n 2, 1), (10, .iconst 0, 1), (11, .ldc_w 265, 3), (14, .invokestatic 157, 3), (17, .ifCond .eq 16, 3), (20, .iload_n 3, 1), (21, .iconst 0, 1), (22, .iconst 2, 1), (23, .invokestatic 157, 3), (26, .ifCond .eq 7, 3), (29, .iconst 1, 1), (30, .goto 4, 3), (33, .iconst 0, 1), (34, .invokevirtual 161, 3), (37, .iload_n 1, 1), (38, .aload_n 0, 1), (39, .getfield 62, 3), (42, .invokevirtual 181, 3), (45, .iconst (-1), 1), (46, .ixor, 1), (47, .iand, 1), (48, .istore 4, 2), (50, .aload_n 0, 1), (51, .invokevirtual 266, 3), (54, .iconst 0, 1), (55, .istore 5, 2), (57, .iconst 1, 1), (58, .istore 6, 2), (60, .iload 6, 2), (62, .iload 4, 2), (64, .if_icmp .gt 44, 3), (67, .iload 6, 2), (69, .iload 4, 2), (71, .iconst (-1), 1), (72, .ixor, 1), (73, .iand, 1), (74, .ifCond .ne 28, 3), (77, .aload_n 0, 1), (78, .iload 6, 2), (80, .invokevirtual 262, 3), (83, .iload_n 2, 1), (84, .if_icmp .gt 18, 3), (87, .aload_n 0, 1), (88, .iload 6, 2), (90, .iload 5, 2), (92, .invokevirtual 269, 3), (95, .ifCond .eq 7, 3), (98, .iload 6, 2), (100, .istore 5, 2), (102, .iinc 6 1, 3), (105, .goto (-45), 3), (108, .iload_n 3, 1), (109, .lookupswitch 41 #[(0, 27), (1, 34)], 27), (136, .aload_n 0, 1), (137, .iload 5, 2), (139, .invokevirtual 272, 3), (142, .ireturn, 1), (143, .aload_n 0, 1), (144, .iload 5, 2), (146, .invokevirtual 262, 3), (149, .ireturn, 1), (150, .iload 5, 2), (152, .ireturn, 1)]
def mi_123 : AMI := (7, yX7_box, cX7_box, 7, (some .int), [], mc_123, 0, 3)
def mc_124 : List (Nat × Instr × Nat) := [(0, .iconst 0, 1), (1, .istore_n 3, 1), (2, .iconst 0, 1), (3, .istore 4, 2), (5, .iload 4, 2), (7, .aload_n 0, 1), (8, .getfield 50, 3), (11, .getfield 102, 3), (14, .if_icmp .ge 35, 3), (17, .iload_n 1, 1), (18, .iload 4, 2), (20, .ishr, 1), (21, .iconst 1, 1), (22, .iand, 1), (23, .iconst 1, 1), (24, .if_icmp .ne 19, 3), (27, .iload_n 3, 1), (28, .aload_n 0, 1), (29, .getfield 62, 3), (32, .iload 4, 2), (34, .invokevirtual 187, 3), (37, .iload_n 2, 1), (38, .invokestatic 278, 3), (41, .iadd, 1), (42, .istore_n 3, 1), (43, .iinc 4 1, 3), (46, .goto (-41), 3), (49, .iload_n 3, 1), (50, .ireturn, 1)]
def mi_124 : AMI := (7, yX7_givenBy, cX7_givenBy, 5, (some .int), [], mc_124, 0, 2)
def mc_125 : List (Nat × Instr × Nat) := [(0, .aload_n 0, 1), (1, .iload_n 1, 1), (2, .invokevirtual 184, 3), (5, .aload_n 0, 1), (6, .aload_n 0, 1), (7, .iload_n 2, 1), (8, .invokevirtual 259, 3), (11, .ifCond .eq 18, 3), (14, .iload_n 3, 1), (15, .iconst 0, 1), (16, .ldc_w 265, 3), (19, .invokestatic 157, 3), (22, .ifCond .eq 7, 3), (25, .iconst 1, 1), (26, .goto 4, 3), (29, .iconst 0, 1), (30, .invokevirtual 161, 3), (33, .iload_n 2, 1), (34, .iload_n 1, 1), (35, .ishr, 1), (36, .iconst 1, 1), (37, .iand, 1), (38, .ifCond .ne 5, 3), (41, .iconst 0, 1), (42, .ireturn, 1), (43, .iconst 0, 1), (44, .istore 4, 2), (46, .sipush 10000, 3), (49, .istore 5, 2), (51, .iconst 0, 1), (52, .istore 6, 2), (54, .iload 6, 2), (56, .bipush 32, 2), (58, .if_icmp .ge 49, 3), (61, .iload 5, 2), (63, .iload 4, 2), (65, .isub, 1), (66, .iconst 1, 1), (67, .if_icmp .le 40, 3), (70, .iload 4, 2), (72, .iload 5, 2), (74, .iadd, 1), (75, .iconst 2, 1), (76, .idiv, 1), (77, .istore 7, 2), (79, .aload_n 0, 1), (80, .iload_n 2, 1), (81, .iload 7, 2), (83, .invokevirtual 275, 3), (86, .iload_n 3, 1), (87, .if_icmp .gt 10, 3), (90, .iload 7, 2), (92, .istore 4, 2), (94, .goto 7, 3), (97, .iload 7, 2), (99, .istore 5, 2), (101, .iinc 6 1, 3), (104, .goto (-50), 3), (107, .aload_n 0, 1), (108, .getfield 62, 3), (111, .iload_n 1, 1), (112, .invokevirtual 187, 3), (115, .iload 4, 2), (117, .invokestatic 278, 3), (120, .ireturn, 1)]
def mi_125 : AMI := (7, yX7_shelf, cX7_shelf, 8, (some .int), [], mc_125, 0, 3)
def mc_126 : List (Nat × Instr × Nat) := [(0, .iconst 0, 1), (1, .istore_n 3, 1), (2, .iload_n 3, 1), (3, .iconst 4, 1), (4, .if_icmp .ge 43, 3), (7, .aload_n 0, 1), (8, .getfield 50, 3), (11, .getfield 284, 3), (14, .iload_n 3, 1), (15, .iaload, 1), (16, .istore 4, 2), (18, .iload 4, 2), (20, .iconst (-1), 1), (21, .if_icmp .eq 20, 3), (24, .iload 4, 2), (26, .aload_n 0, 1), (27, .getfield 62, 3), (30, .iload_n 1, 1), (31, .iload_n 2, 1), (32, .iload_n 3, 1), (33, .invokevirtual 249, 3), (36, .if_icmp .eq 5, 3), (39, .iconst 0, 1), (40, .ireturn, 1), (41, .iinc 3 1, 3), (44, .goto (-42), 3), (47, .iconst 1, 1), (48, .ireturn, 1)]
def mi_126 : AMI := (7, yX7_isByBook, cX7_isByBook, 5, (some .boolean), [], mc_126, 0, 2)
def mc_127 : List (Nat × Instr × Nat) := [(0, .iconst 0, 1), (1, .istore_n 1, 1), (2, .iconst 0, 1), (3, .istore_n 2, 1), (4, .iload_n 2, 1), (5, .aload_n 0, 1), (6, .getfield 50, 3), (9, .getfield 168, 3), (12, .if_icmp .ge 63, 3), (15, .iconst 0, 1), (16, .istore_n 3, 1), (17, .iload_n 3, 1), (18, .aload_n 0, 1), (19, .getfield 50, 3), (22, .getfield 102, 3), (25, .if_icmp .ge 44, 3), (28, .aload_n 0, 1), (29, .getfield 62, 3), (32, .iload_n 3, 1), (33, .invokevirtual 187, 3), (36, .ifCond .le 27, 3), (39, .aload_n 0, 1), (40, .iload_n 2, 1), (41, .iload_n 3, 1), (42, .invokevirtual 357, 3), (45, .ifCond .eq 18, 3), (48, .aload_n 0, 1), (49, .getfield 37, 3), (52, .iload_n 1, 1), (53, .bipush 10, 2), (55, .iload_n 2, 1), (56, .imul, 1), (57, .iload_n 3, 1), (58, .iadd, 1), (59, .iastore, 1), (60, .iinc 1 1, 3), (63, .iinc 3 1, 3), (66, .goto (-49), 3), (69, .iinc 2 1, 3), (72, .goto (-68), 3), (75, .iload_n 1, 1), (76, .ireturn, 1)]
def mi_127 : AMI := (7, yX7_gatherPairs, cX7_gatherPairs, 4, (some .int), [], mc_127, 0, 0)
def mc_128 : List (Nat × Instr × Nat) := [(0, .aload_n 0, 1), (1, .iload_n 1, 1), (2, .iconst 0, 1), (3, .iconst 1, 1), (4, .invokestatic 157, 3), (7, .invokevirtual 161, 3), (10, .aload_n 0, 1), (11, .invokevirtual 281, 3), (14, .istore_n 2, 1), (15, .iload_n 1, 1), (16, .ifCond .ne 5, 3), (19, .iload_n 2, 1), (20, .ireturn, 1), (21, .iload_n 2, 1), (22, .ifCond .le 12, 3), (25, .aload_n 0, 1), (26, .getfield 37, 3), (29, .iconst 0, 1), (30, .iaload, 1), (31, .goto 4, 3), (34, .iconst (-1), 1), (35, .ireturn, 1)]
def mi_128 : AMI := (7, yX7_fits, cX7_fits, 3, (some .int), [], mc_128, 0, 1)
def mc_129 : List (Nat × Instr × Nat) := [(0, .aload_n 0, 1), (1, .getfield 62, 3), (4, .iload_n 1, 1), (5, .bipush 10, 2), (7, .idiv, 1), (8, .iload_n 1, 1), (9, .bipush 10, 2), (11, .irem, 1), (12, .iload_n 2, 1), (13, .invokevirtual 249, 3), (16, .ireturn, 1)]
def mi_129 : AMI := (7, yX7_fallOfPair, cX7_fallOfPair, 3, (some .int), [], mc_129, 0, 2)
def mc_130 : List (Nat × Instr × Nat) := [(0, .iconst 0, 1), (1, .istore_n 3, 1), (2, .iconst 0, 1), (3, .istore 4, 2), (5, .iload 4, 2), (7, .iload_n 2, 1), (8, .if_icmp .ge 64, 3), (11, .iconst 0, 1), (12, .istore 5, 2), (14, .iconst 0, 1), (15, .istore 6, 2), (17, .iload 6, 2), (19, .iload_n 2, 1), (20, .if_icmp .ge 39, 3), (23, .aload_n 0, 1), (24, .aload_n 0, 1), (25, .getfield 37, 3), (28, .iload 4, 2), (30, .iaload, 1), (31, .iload_n 1, 1), (32, .invokevirtual 360, 3), (35, .aload_n 0, 1), (36, .aload_n 0, 1), (37, .getfield 37, 3), (40, .iload 6, 2), (42, .iaload, 1), (43, .iload_n 1, 1), (44, .invokevirtual 360, 3), (47, .if_icmp .ne 6, 3), (50, .iinc 5 1, 3), (53, .iinc 6 1, 3), (56, .goto (-39), 3), (59, .iload_n 3, 1), (60, .iload 5, 2), (62, .invokestatic 309, 3), (65, .istore_n 3, 1), (66, .iinc 4 1, 3), (69, .goto (-64), 3), (72, .iload_n 3, 1), (73, .ireturn, 1)]
def mi_130 : AMI := (7, yX7_worstLeft, cX7_worstLeft, 7, (some .int), [], mc_130, 0, 2)
def mc_131 : List (Nat × Instr × Nat) := [(0, .aload_n 0, 1), (1, .iload_n 1, 1), (2, .iconst 0, 1), (3, .iconst 1, 1), (4, .invokestatic 157, 3), (7, .invokevirtual 161, 3), (10, .aload_n 0, 1), (11, .invokevirtual 281, 3), (14, .istore_n 2, 1), (15, .iconst (-1), 1), (16, .istore_n 3, 1), (17, .iconst (-1), 1), (18, .istore 4, 2), (20, .iconst 0, 1), (21, .istore 5, 2), (23, .iload 5, 2), (25, .iconst 4, 1), (26, .if_icmp .ge 51, 3), (29, .aload_n 0, 1), (30, .getfield 50, 3), (33, .getfield 284, 3), (36, .iload 5, 2), (38, .iaload, 1), (39, .iconst (-1), 1), (40, .if_icmp .ne 31, 3), (43, .aload_n 0, 1), (44, .iload 5, 2), (46, .iload_n 2, 1), (47, .invokevirtual 287, 3), (50, .istore 6, 2), (52, .iload_n 3, 1), (53, .iconst (-1), 1), (54, .if_icmp .eq 10, 3), (57, .iload 6, 2), (59, .iload 4, 2), (61, .if_icmp .ge 10, 3), (64, .iload 5, 2), (66, .istore_n 3, 1), (67, .iload 6, 2), (69, .istore 4, 2), (71, .iinc 5 1, 3), (74, .goto (-51), 3), (77, .iload_n 1, 1), (78, .ifCond .ne 7, 3), (81, .iload_n 3, 1), (82, .goto 5, 3), (85, .iload 4, 2), (87, .ireturn, 1)]
def mi_131 : AMI := (7, yX7_look, cX7_look, 7, (some .int), [], mc_131, 0, 1)
def mc_132 : List (Nat × Instr × Nat) := [(0, .lconst 1, 1), (1, .lstore_n 2, 1), (2, .iconst 1, 1), (3, .istore 4, 2), (5, .iload 4, 2), (7, .iload_n 1, 1), (8, .if_icmp .gt 23, 3), (11, .lload_n 2, 1), (12, .iload_n 0, 1), (13, .iload_n 1, 1), (14, .isub, 1), (15, .iload 4, 2), (17, .iadd, 1), (18, .i2l, 1), (19, .lmul, 1), (20, .iload 4, 2), (22, .i2l, 1), (23, .ldiv, 1), (24, .lstore_n 2, 1), (25, .iinc 4 1, 3), (28, .goto (-23), 3), (31, .lload_n 2, 1), (32, .lreturn, 1)]
def mi_132 : AMI := (7, yX7_waysOf, cX7_waysOf, 5, (some .long), [], mc_132, 1, 2)
def mc_133 : List (Nat × Instr × Nat) := [(0, .lconst 1, 1), (1, .lstore_n 2, 1), (2, .iconst 0, 1), (3, .istore 4, 2), (5, .iload 4, 2), (7, .iload_n 1, 1), (8, .if_icmp .ge 14, 3), (11, .lload_n 2, 1), (12, .iload_n 0, 1), (13, .i2l, 1), (14, .lmul, 1), (15, .lstore_n 2, 1), (16, .iinc 4 1, 3), (19, .goto (-14), 3), (22, .lload_n 2, 1), (23, .lreturn, 1)]
def mi_133 : AMI := (7, yX7_powerTo, cX7_powerTo, 5, (some .long), [], mc_133, 1, 2)
def mc_134 : List (Nat × Instr × Nat) := [(0, .aload_n 0, 1), (1, .iload_n 1, 1), (2, .iconst 0, 1), (3, .bipush 12, 2), (5, .invokestatic 157, 3), (8, .ifCond .eq 37, 3), (11, .iload_n 2, 1), (12, .iconst 0, 1), (13, .bipush 13, 2), (15, .invokestatic 157, 3), (18, .ifCond .eq 27, 3), (21, .iload_n 3, 1), (22, .iconst 0, 1), (23, .bipush 16, 2), (25, .invokestatic 157, 3), (28, .ifCond .eq 17, 3), (31, .iload 4, 2), (33, .iconst 0, 1), (34, .iconst 1, 1), (35, .invokestatic 157, 3), (38, .ifCond .eq 7, 3), (41, .iconst 1, 1), (42, .goto 4, 3), (45, .iconst 0, 1), (46, .invokevirtual 161, 3), (49, .lconst 0, 1), (50, .lstore 5, 2), (52, .iload_n 2, 1), (53, .istore 7, 2), (55, .iload 7, 2), (57, .iload_n 1, 1), (58, .if_icmp .gt 39, 3), (61, .lload 5, 2), (63, .iload_n 1, 1), (64, .iload 7, 2), (66, .invokestatic 290, 3), (69, .iload_n 3, 1), (70, .iload 7, 2), (72, .invokestatic 294, 3), (75, .lmul, 1), (76, .bipush 16, 2), (78, .iload_n 3, 1), (79, .isub, 1), (80, .iload_n 1, 1), (81, .iload 7, 2), (83, .isub, 1), (84, .invokestatic 294, 3), (87, .lmul, 1), (88, .ladd, 1), (89, .lstore 5, 2), (91, .iinc 7 1, 3), (94, .goto (-39), 3), (97, .bipush 16, 2), (99, .iload_n 1, 1), (100, .invokestatic 294, 3), (103, .lstore 7, 2), (105, .lload 5, 2), (107, .lconst 0, 1), (108, .lcmp, 1), (109, .ifCond .ne 6, 3), (112, .lconst 1, 1), (113, .lstore 7, 2), (115, .iconst 0, 1), (116, .istore 9, 2), (118, .iload 9, 2), (120, .bipush 48, 2), (122, .if_icmp .ge 47, 3), (125, .lload 5, 2), (127, .ldc2_w 297, 3), (130, .lrem, 1), (131, .lconst 0, 1), (132, .lcmp, 1), (133, .ifCond .ne 36, 3), (136, .lload 7, 2), (138, .ldc2_w 297, 3), (141, .lrem, 1), (142, .lconst 0, 1), (143, .lcmp, 1), (144, .ifCond .ne 25, 3), (147, .lload 5, 2), (149, .ldc2_w 297, 3), (152, .ldiv, 1), (153, .lstore 5, 2), (155, .lload 7, 2), (157, .ldc2_w 297, 3), (160, .ldiv, 1), (161, .lstore 7, 2), (163, .iinc 9 1, 3), (166, .goto (-48), 3), (169, .iload 4, 2), (171, .ifCond .ne 8, 3), (174, .lload 5, 2), (176, .goto 5, 3), (179, .lload 7, 2), (181, .lreturn, 1)]
def mi_134 : AMI := (7, yX7_fit, cX7_fit, 10, (some .long), [], mc_134, 0, 4)
def mc_135 : List (Nat × Instr × Nat) := [(0, .iload_n 0, 1), (1, .ifCond .ne 7, 3), (4, .iload_n 2, 1), (5, .goto 4, 3), (8, .iload_n 3, 1), (9, .istore 4, 2), (11, .iload_n 0, 1), (12, .iload_n 1, 1), (13, .if_icmp .ne 10, 3), (16, .iload 4, 2), (18, .iconst 2, 1), (19, .idiv, 1), (20, .goto 5, 3), (23, .iload 4, 2), (25, .ireturn, 1)]
def mi_135 : AMI := (7, yX7_shareBy, cX7_shareBy, 5, (some .int), [], mc_135, 1, 4)
def mc_136 : List (Nat × Instr × Nat) := [(0, .aload_n 0, 1), (1, .iload_n 1, 1), (2, .iconst 0, 1), (3, .bipush 99, 2), (5, .invokestatic 157, 3), (8, .ifCond .eq 26, 3), (11, .iload_n 2, 1), (12, .iconst 0, 1), (13, .bipush 99, 2), (15, .invokestatic 157, 3), (18, .ifCond .eq 16, 3), (21, .iload_n 3, 1), (22, .iconst 0, 1), (23, .iconst 2, 1), (24, .invokestatic 157, 3), (27, .ifCond .eq 7, 3), (30, .iconst 1, 1), (31, .goto 4, 3), (34, .iconst 0, 1), (35, .invokevirtual 161, 3), (38, .iconst 0, 1), (39, .istore 4, 2), (41, .iconst (-1), 1), (42, .istore 5, 2), (44, .iconst 0, 1), (45, .istore 6, 2), (47, .iconst 0, 1), (48, .istore 7, 2), (50, .iload 7, 2), (52, .iconst 4, 1), (53, .if_icmp .ge 100, 3), (56, .iload 7, 2), (58, .iconst 2, 1), (59, .idiv, 1), (60, .istore 8, 2), (62, .iload 7, 2), (64, .iconst 2, 1), (65, .irem, 1), (66, .istore 9, 2), (68, .iload 8, 2), (70, .iload 9, 2), (72, .iload_n 1, 1), (73, .iload_n 2, 1), (74, .invokestatic 299, 3), (77, .istore 10, 2), (79, .iload 9, 2), (81, .iload 8, 2), (83, .iload_n 1, 1), (84, .iload_n 2, 1), (85, .invokestatic 299, 3), (88, .istore 11, 2), (90, .iconst 1, 1), (91, .iload 8, 2), (93, .isub, 1), (94, .iload 9, 2), (96, .iload_n 1, 1), (97, .iload_n 2, 1), (98, .invokestatic 299, 3), (101, .iload 10, 2), (103, .if_icmp .gt 44, 3), (106, .iconst 1, 1), (107, .iload 9, 2), (109, .isub, 1), (110, .iload 8, 2), (112, .iload_n 1, 1), (113, .iload_n 2, 1), (114, .invokestatic 299, 3), (117, .iload 11, 2), (119, .if_icmp .gt 28, 3), (122, .iload 4, 2), (124, .ifCond .ne 20, 3), (127, .bipush 10, 2), (129, .iload 8, 2), (131, .imul, 1), (132, .iload 9, 2), (134, .iadd, 1), (135, .istore 5, 2), (137, .iload 10, 2), (139, .iload 11, 2), (141, .iadd, 1), (142, .istore 6, 2), (144, .iinc 4 1, 3), (147, .iinc 7 1, 3), (150, .goto (-100), 3), (153, .iload_n 3, 1), (154, .lookupswitch 32 #[(0, 26), (1, 29)], 26), (180, .iload 4, 2), (182, .ireturn, 1), (183, .iload 5, 2), (185, .ireturn, 1), (186, .iload 6, 2), (188, .ireturn, 1)]
def mi_136 : AMI := (7, yX7_shops, cX7_shops, 12, (some .int), [], mc_136, 0, 3)
def mc_137 : List (Nat × Instr × Nat) := [(0, .aload_n 0, 1), (1, .iload_n 2, 1), (2, .iconst 0, 1), (3, .bipush 16, 2), (5, .invokestatic 157, 3), (8, .ifCond .eq 27, 3), (11, .iload_n 3, 1), (12, .iconst 1, 1), (13, .bipush 48, 2), (15, .invokestatic 157, 3), (18, .ifCond .eq 17, 3), (21, .iload 4, 2), (23, .iconst 0, 1), (24, .iconst 3, 1), (25, .invokestatic 157, 3), (28, .ifCond .eq 7, 3), (31, .iconst 1, 1), (32, .goto 4, 3), (35, .iconst 0, 1), (36, .invokevirtual 161, 3), (39, .aload_n 0, 1), (40, .getfield 66, 3), (43, .aload_n 0, 1), (44, .getfield 62, 3), (47, .invokevirtual 233, 3), (50, .aload_n 0, 1), (51, .getfield 33, 3), (54, .aload_n 0, 1), (55, .getfield 66, 3), (58, .iload_n 1, 1), (59, .iload_n 2, 1), (60, .iload_n 3, 1), (61, .invokevirtual 303, 3), (64, .iload 4, 2), (66, .tableswitch 78 0 2 #[26, 48, 56], 26), (92, .aload_n 0, 1), (93, .getfield 66, 3), (96, .getfield 174, 3), (99, .bipush 33, 2), (101, .iaload, 1), (102, .aload_n 0, 1), (103, .getfield 62, 3), (106, .getfield 174, 3), (109, .bipush 33, 2), (111, .iaload, 1), (112, .isub, 1), (113, .ireturn, 1), (114, .aload_n 0, 1), (115, .getfield 66, 3), (118, .invokevirtual 177, 3), (121, .ireturn, 1), (122, .aload_n 0, 1), (123, .getfield 66, 3), (126, .getfield 174, 3), (129, .bipush 32, 2), (131, .iaload, 1), (132, .aload_n 0, 1), (133, .getfield 62, 3), (136, .getfield 174, 3), (139, .bipush 32, 2), (141, .iaload, 1), (142, .isub, 1), (143, .ireturn, 1), (144, .aload_n 0, 1), (145, .getfield 66, 3), (148, .invokevirtual 181, 3), (151, .ireturn, 1)]
def mi_137 : AMI := (7, yX7_year, cX7_year, 5, (some .int), [], mc_137, 0, 4)
def mc_138_0 : List (Nat × Instr × Nat) := [(0, .aload_n 0, 1), (1, .iload_n 2, 1), (2, .iconst 1, 1), (3, .bipush 10, 2), (5, .invokestatic 157, 3), (8, .ifCond .eq 56, 3), (11, .iload_n 3, 1), (12, .iconst 0, 1), (13, .bipush 16, 2), (15, .invokestatic 157, 3), (18, .ifCond .eq 46, 3), (21, .iload 4, 2), (23, .iconst 1, 1), (24, .bipush 48, 2), (26, .invokestatic 157, 3), (29, .ifCond .eq 35, 3), (32, .iload 5, 2), (34, .iconst 0, 1), (35, .iconst 2, 1), (36, .invokestatic 157, 3), (39, .ifCond .eq 25, 3), (42, .iload 6, 2), (44, .iconst 0, 1), (45, .aload_n 0, 1), (46, .getfield 50, 3), (49, .getfield 102, 3), (52, .iconst 1, 1), (53, .isub, 1), (54, .invokestatic 157, 3), (57, .ifCond .eq 7, 3), (60, .iconst 1, 1), (61, .goto 4, 3), (64, .iconst 0, 1), (65, .invokevirtual 161, 3), (68, .ldc_w 308, 3), (71, .istore 7, 2), (73, .iconst 0, 1), (74, .istore 8, 2), (76, .iconst 0, 1), (77, .istore 9, 2), (79, .iconst 0, 1), (80, .istore 10, 2), (82, .iload 10, 2), (84, .iload_n 2, 1), (85, .if_icmp .ge 101, 3), (88, .aload_n 0, 1), (89, .getfield 66, 3), (92, .aload_n 0, 1), (93, .getfield 62, 3), (96, .invokevirtual 233, 3), (99, .aload_n 0, 1), (100, .getfield 33, 3), (103, .aload_n 0, 1), (104, .getfield 66, 3), (107, .iload_n 1, 1), (108, .iload 10, 2), (110, .iadd, 1), (111, .iload_n 3, 1), (112, .iload 4, 2), (114, .invokevirtual 303, 3), (117, .aload_n 0, 1), (118, .getfield 66, 3), (121, .getfield 174, 3), (124, .bipush 33, 2), (126, .iaload, 1), (127, .aload_n 0, 1), (128, .getfield 62, 3), (131, .getfield 174, 3), (134, .bipush 33, 2), (136, .iaload, 1), (137, .isub, 1), (138, .istore 11, 2), (140, .iload 7, 2), (142, .iload 11, 2), (144, .invokestatic 278, 3), (147, .istore 7, 2), (149, .iload 8, 2), (151, .iload 11, 2), (153, .invokestatic 309, 3), (156, .istore 8, 2), (158, .iload 9, 2), (160, .aload_n 0, 1), (161, .getfield 66, 3), (164, .iload 6, 2), (166, .invokevirtual 187, 3), (169, .ifCond .ne 7, 3), (172, .iconst 1, 1), (173, .goto 4, 3), (176, .iconst 0, 1), (177, .iadd, 1), (178, .istore 9, 2), (180, .iinc 10 1, 3), (183, .goto (-101), 3), (186, .iload 5, 2), (188, .lookupswitch 34 #[(0, 28), (1, 31)], 28), (216, .iload 7, 2), (218, .ireturn, 1), (219, .iload 8, 2), (221, .ireturn, 1), (222, .iload 9, 2)]
def mc_138_1 : List (Nat × Instr × Nat) := [(224, .ireturn, 1)]
def mc_138 : List (Nat × Instr × Nat) := mc_138_0 ++ (mc_138_1)
def mi_138 : AMI := (7, yX7_span, cX7_span, 12, (some .int), [], mc_138, 0, 6)
def mc_139 : List (Nat × Instr × Nat) := [(0, .aload_n 0, 1), (1, .getfield 19, 3), (4, .getfield 312, 3), (7, .ifCond .ne 5, 3), (10, .iconst (-1), 1), (11, .ireturn, 1), (12, .aload_n 0, 1), (13, .getfield 19, 3), (16, .aload_n 0, 1), (17, .getfield 62, 3), (20, .invokevirtual 315, 3), (23, .aload_n 0, 1), (24, .iconst 0, 1), (25, .putfield 99, 3), (28, .aload_n 0, 1), (29, .getfield 19, 3), (32, .getfield 312, 3), (35, .ireturn, 1)]
def mi_139 : AMI := (7, yX7_undo, cX7_undo, 1, (some .int), [], mc_139, 0, 0)
def mc_140 : List (Nat × Instr × Nat) := [(0, .aload_n 0, 1), (1, .getfield 19, 3), (4, .getfield 318, 3), (7, .iconst 3, 1), (8, .if_icmp .ne 5, 3), (11, .iconst (-1), 1), (12, .ireturn, 1), (13, .aload_n 0, 1), (14, .getfield 19, 3), (17, .aload_n 0, 1), (18, .getfield 62, 3), (21, .invokevirtual 321, 3), (24, .aload_n 0, 1), (25, .getfield 19, 3), (28, .getfield 318, 3), (31, .ireturn, 1)]
def mi_140 : AMI := (7, yX7_image, cX7_image, 1, (some .int), [], mc_140, 0, 0)
def mc_141 : List (Nat × Instr × Nat) := [(0, .aload_n 0, 1), (1, .getfield 19, 3), (4, .getfield 318, 3), (7, .ifCond .ne 5, 3), (10, .iconst (-1), 1), (11, .ireturn, 1), (12, .aload_n 0, 1), (13, .getfield 19, 3), (16, .aload_n 0, 1), (17, .getfield 62, 3), (20, .invokevirtual 324, 3), (23, .aload_n 0, 1), (24, .iconst 0, 1), (25, .putfield 99, 3), (28, .aload_n 0, 1), (29, .getfield 19, 3), (32, .getfield 318, 3), (35, .ireturn, 1)]
def mi_141 : AMI := (7, yX7_restore, cX7_restore, 1, (some .int), [], mc_141, 0, 0)
def mc_142 : List (Nat × Instr × Nat) := [(0, .iload_n 1, 1), (1, .lookupswitch 37 #[(0, 27), (1, 32)], 27), (28, .aload_n 0, 1), (29, .getfield 327, 3), (32, .ireturn, 1), (33, .aload_n 0, 1), (34, .getfield 330, 3), (37, .ireturn, 1), (38, .iconst (-1), 1), (39, .ireturn, 1)]
def mi_142 : AMI := (7, yX7_status, cX7_status, 2, (some .int), [], mc_142, 0, 1)
def mc_143 : List (Nat × Instr × Nat) := [(0, .iload_n 1, 1), (1, .tableswitch 51 0 2 #[27, 35, 43], 27), (28, .aload_n 0, 1), (29, .getfield 19, 3), (32, .getfield 318, 3), (35, .ireturn, 1), (36, .aload_n 0, 1), (37, .getfield 10, 3), (40, .getfield 77, 3), (43, .ireturn, 1), (44, .aload_n 0, 1), (45, .getfield 19, 3), (48, .getfield 312, 3), (51, .ireturn, 1), (52, .iconst (-1), 1), (53, .ireturn, 1)]
def mi_143 : AMI := (7, yX7_count, cX7_count, 2, (some .int), [], mc_143, 0, 1)
def mc_144 : List (Nat × Instr × Nat) := [(0, .aload_n 0, 1), (1, .getfield 3, 3), (4, .ireturn, 1)]
def mi_144 : AMI := (8, yX8_thrown, cX8_thrown, 1, (some .int), [], mc_144, 0, 0)
def mc_145 : List (Nat × Instr × Nat) := [(0, .iload_n 1, 1), (1, .ifCond .ne 25, 3), (4, .aload_n 0, 1), (5, .getfield 3, 3), (8, .ifCond .ne 18, 3), (11, .aload_n 0, 1), (12, .iload_n 2, 1), (13, .putfield 3, 3), (16, .aload_n 0, 1), (17, .getfield 7, 3), (20, .iload_n 3, 1), (21, .dup2, 1), (22, .iaload, 1), (23, .iconst 1, 1), (24, .iadd, 1), (25, .iastore, 1), (26, .aload_n 0, 1), (27, .getfield 3, 3), (30, .ifCond .ne 7, 3), (33, .iconst 1, 1), (34, .goto 4, 3), (37, .iconst 0, 1), (38, .ireturn, 1)]
def mi_145 : AMI := (8, yX8_may, cX8_may, 4, (some .boolean), [], mc_145, 0, 3)
def mc_146 : List (Nat × Instr × Nat) := [(0, .iload_n 0, 1), (1, .iload_n 1, 1), (2, .if_icmp .lt 12, 3), (5, .iload_n 0, 1), (6, .iload_n 2, 1), (7, .if_icmp .gt 7, 3), (10, .iconst 1, 1), (11, .goto 4, 3), (14, .iconst 0, 1), (15, .ireturn, 1)]
def mi_146 : AMI := (8, yX8_within, cX8_within, 3, (some .boolean), [], mc_146, 1, 3)
def mc_147 : List (Nat × Instr × Nat) := [(0, .aload_n 0, 1), (1, .iconst 0, 1), (2, .putfield 145, 3), (5, .aload_n 0, 1), (6, .iconst 0, 1), (7, .putfield 148, 3), (10, .aload_n 0, 1), (11, .iconst 0, 1), (12, .putfield 151, 3), (15, .aload_n 0, 1), (16, .iconst 5, 1), (17, .putfield 154, 3), (20, .return_, 1)]
def mi_147 : AMI := (8, yX8_clears, cX8_clears, 1, none, [], mc_147, 0, 0)
def mc_148 : List (Nat × Instr × Nat) := [(0, .iconst 0, 1), (1, .istore 4, 2), (3, .iload 4, 2), (5, .iload_n 3, 1), (6, .if_icmp .ge 17, 3), (9, .aload_n 2, 1), (10, .iload 4, 2), (12, .aload_n 1, 1), (13, .iload 4, 2), (15, .iaload, 1), (16, .iastore, 1), (17, .iinc 4 1, 3), (20, .goto (-17), 3), (23, .return_, 1)]
def mi_148 : AMI := (8, yX8_copies, cX8_copies, 5, none, [], mc_148, 0, 3)
def mc_149 : List (Nat × Instr × Nat) := [(0, .aload_n 0, 1), (1, .aload_n 0, 1), (2, .getfield 145, 3), (5, .putfield 157, 3), (8, .aload_n 0, 1), (9, .aload_n 0, 1), (10, .getfield 148, 3), (13, .putfield 160, 3), (16, .aload_n 0, 1), (17, .aload_n 0, 1), (18, .getfield 151, 3), (21, .putfield 163, 3), (24, .aload_n 0, 1), (25, .aload_n 0, 1), (26, .getfield 154, 3), (29, .putfield 166, 3), (32, .aload_n 0, 1), (33, .aload_n 0, 1), (34, .getfield 23, 3), (37, .aload_n 0, 1), (38, .getfield 32, 3), (41, .bipush 24, 2), (43, .invokevirtual 169, 3), (46, .aload_n 0, 1), (47, .aload_n 0, 1), (48, .getfield 26, 3), (51, .aload_n 0, 1), (52, .getfield 35, 3), (55, .bipush 12, 2), (57, .invokevirtual 169, 3), (60, .aload_n 0, 1), (61, .aload_n 0, 1), (62, .getfield 29, 3), (65, .aload_n 0, 1), (66, .getfield 38, 3), (69, .iconst 4, 1), (70, .invokevirtual 169, 3), (73, .aload_n 0, 1), (74, .iconst 0, 1), (75, .putfield 173, 3), (78, .aload_n 0, 1), (79, .iconst 0, 1), (80, .putfield 176, 3), (83, .aload_n 0, 1), (84, .iconst 0, 1), (85, .putfield 179, 3), (88, .aload_n 0, 1), (89, .iconst 0, 1), (90, .putfield 182, 3), (93, .aload_n 0, 1), (94, .iconst 0, 1), (95, .putfield 185, 3), (98, .aload_n 0, 1), (99, .iconst 0, 1), (100, .putfield 188, 3), (103, .iconst 0, 1), (104, .istore_n 1, 1), (105, .iload_n 1, 1), (106, .iconst 4, 1), (107, .if_icmp .ge 16, 3), (110, .aload_n 0, 1), (111, .getfield 83, 3), (114, .iload_n 1, 1), (115, .iconst (-1), 1), (116, .iastore, 1), (117, .iinc 1 1, 3), (120, .goto (-15), 3), (123, .iconst 0, 1), (124, .istore_n 1, 1), (125, .iload_n 1, 1), (126, .bipush 37, 2), (128, .if_icmp .ge 16, 3), (131, .aload_n 0, 1), (132, .getfield 65, 3), (135, .iload_n 1, 1), (136, .iconst 0, 1), (137, .iastore, 1), (138, .iinc 1 1, 3), (141, .goto (-16), 3), (144, .iconst 0, 1), (145, .istore_n 1, 1), (146, .iload_n 1, 1), (147, .iconst 4, 1), (148, .aload_n 0, 1), (149, .getfield 157, 3), (152, .imul, 1), (153, .if_icmp .ge 21, 3), (156, .aload_n 0, 1), (157, .getfield 65, 3), (160, .iload_n 1, 1), (161, .aload_n 0, 1), (162, .getfield 32, 3), (165, .iload_n 1, 1), (166, .iaload, 1), (167, .iastore, 1), (168, .iinc 1 1, 3), (171, .goto (-25), 3), (174, .return_, 1)]
def mi_149 : AMI := (8, yX8_sets, cX8_sets, 2, none, [], mc_149, 0, 0)
def mc_150_0 : List (Nat × Instr × Nat) := [(0, .aload_n 0, 1), (1, .invokespecial 11, 3), (4, .aload_n 0, 1), (5, .iconst 2, 1), (6, .newarray .int, 2), (8, .putfield 7, 3), (11, .aload_n 0, 1), (12, .iconst (-1), 1), (13, .putfield 17, 3), (16, .aload_n 0, 1), (17, .sipush 600, 3), (20, .newarray .int, 2), (22, .putfield 20, 3), (25, .aload_n 0, 1), (26, .bipush 24, 2), (28, .newarray .int, 2), (30, .putfield 23, 3), (33, .aload_n 0, 1), (34, .bipush 12, 2), (36, .newarray .int, 2), (38, .putfield 26, 3), (41, .aload_n 0, 1), (42, .iconst 4, 1), (43, .newarray .int, 2), (45, .putfield 29, 3), (48, .aload_n 0, 1), (49, .bipush 24, 2), (51, .newarray .int, 2), (53, .putfield 32, 3), (56, .aload_n 0, 1), (57, .bipush 12, 2), (59, .newarray .int, 2), (61, .putfield 35, 3), (64, .aload_n 0, 1), (65, .iconst 4, 1), (66, .newarray .int, 2), (68, .putfield 38, 3), (71, .aload_n 0, 1), (72, .sipush 150, 3), (75, .newarray .int, 2), (77, .putfield 41, 3), (80, .aload_n 0, 1), (81, .sipush 150, 3), (84, .newarray .int, 2), (86, .putfield 44, 3), (89, .aload_n 0, 1), (90, .sipush 150, 3), (93, .newarray .int, 2), (95, .putfield 47, 3), (98, .aload_n 0, 1), (99, .sipush 150, 3), (102, .newarray .int, 2), (104, .putfield 50, 3), (107, .aload_n 0, 1), (108, .sipush 150, 3), (111, .newarray .int, 2), (113, .putfield 53, 3), (116, .aload_n 0, 1), (117, .bipush 8, 2), (119, .newarray .int, 2), (121, .putfield 56, 3), (124, .aload_n 0, 1), (125, .sipush 250, 3), (128, .newarray .int, 2), (130, .putfield 59, 3), (133, .aload_n 0, 1), (134, .sipush 250, 3), (137, .newarray .int, 2), (139, .putfield 62, 3), (142, .aload_n 0, 1), (143, .bipush 37, 2), (145, .newarray .int, 2), (147, .putfield 65, 3), (150, .aload_n 0, 1), (151, .bipush 37, 2), (153, .newarray .int, 2), (155, .putfield 68, 3), (158, .aload_n 0, 1), (159, .sipush 592, 3), (162, .newarray .int, 2), (164, .putfield 71, 3), (167, .aload_n 0, 1), (168, .bipush 8, 2), (170, .newarray .int, 2), (172, .putfield 74, 3), (175, .aload_n 0, 1), (176, .bipush 8, 2), (178, .newarray .int, 2), (180, .putfield 77, 3), (183, .aload_n 0, 1), (184, .iconst 4, 1), (185, .newarray .int, 2), (187, .putfield 80, 3), (190, .aload_n 0, 1), (191, .iconst 4, 1), (192, .newarray .int, 2), (194, .putfield 83, 3), (197, .aload_n 0, 1), (198, .bipush 14, 2), (200, .newarray .long, 2)]
def mc_150_1 : List (Nat × Instr × Nat) := [(202, .putfield 86, 3), (205, .aload_n 0, 1), (206, .sipush 1890, 3), (209, .newarray .int, 2), (211, .putfield 90, 3), (214, .aload_n 0, 1), (215, .invokevirtual 93, 3), (218, .aload_n 0, 1), (219, .invokevirtual 96, 3), (222, .return_, 1)]
def mc_150 : List (Nat × Instr × Nat) := mc_150_0 ++ (mc_150_1)
def mi_150 : AMI := (8, yX8_init, cX8_init, 1, none, [], mc_150, 2, 0)
def mc_151 : List (Nat × Instr × Nat) := [(0, .aload_n 0, 1), (1, .iconst 0, 1), (2, .putfield 3, 3), (5, .aload_n 0, 1), (6, .getfield 99, 3), (9, .bipush 20, 2), (11, .iadd, 1), (12, .sipush 600, 3), (15, .if_icmp .le 5, 3), (18, .iconst (-1), 1), (19, .ireturn, 1), (20, .iconst 0, 1), (21, .istore 6, 2), (23, .iload 6, 2), (25, .bipush 20, 2), (27, .if_icmp .ge 93, 3), (30, .iload 6, 2), (32, .iconst 4, 1), (33, .if_icmp .ge 7, 3), (36, .iload_n 1, 1), (37, .goto 39, 3), (40, .iload 6, 2), (42, .bipush 8, 2), (44, .if_icmp .ge 7, 3), (47, .iload_n 2, 1), (48, .goto 28, 3), (51, .iload 6, 2), (53, .bipush 12, 2), (55, .if_icmp .ge 7, 3), (58, .iload_n 3, 1), (59, .goto 17, 3), (62, .iload 6, 2), (64, .bipush 16, 2), (66, .if_icmp .ge 8, 3), (69, .iload 4, 2), (71, .goto 5, 3), (74, .iload 5, 2), (76, .istore 7, 2), (78, .aload_n 0, 1), (79, .getfield 20, 3), (82, .aload_n 0, 1), (83, .getfield 99, 3), (86, .iload 7, 2), (88, .bipush 24, 2), (90, .bipush 8, 2), (92, .iload 6, 2), (94, .iconst 4, 1), (95, .irem, 1), (96, .imul, 1), (97, .isub, 1), (98, .ishr, 1), (99, .sipush 255, 3), (102, .iand, 1), (103, .iastore, 1), (104, .aload_n 0, 1), (105, .dup, 1), (106, .getfield 99, 3), (109, .iconst 1, 1), (110, .iadd, 1), (111, .putfield 99, 3), (114, .iinc 6 1, 3), (117, .goto (-94), 3), (120, .aload_n 0, 1), (121, .getfield 99, 3), (124, .ireturn, 1)]
def mi_151 : AMI := (8, yX8_feed, cX8_feed, 8, (some .int), [], mc_151, 0, 5)
def mc_152 : List (Nat × Instr × Nat) := [(0, .aload_n 0, 1), (1, .getfield 102, 3), (4, .iconst (-1), 1), (5, .if_icmp .ne 7, 3), (8, .iconst 1, 1), (9, .goto 4, 3), (12, .iconst 0, 1), (13, .ireturn, 1)]
def mi_152 : AMI := (8, yX8_fine, cX8_fine, 1, (some .boolean), [], mc_152, 0, 0)
def mc_153 : List (Nat × Instr × Nat) := [(0, .aload_n 0, 1), (1, .getfield 102, 3), (4, .iconst (-1), 1), (5, .if_icmp .eq 4, 3), (8, .return_, 1), (9, .aload_n 0, 1), (10, .iload_n 2, 1), (11, .putfield 102, 3), (14, .aload_n 0, 1), (15, .iload_n 1, 1), (16, .putfield 105, 3), (19, .return_, 1)]
def mi_153 : AMI := (8, yX8_wrong, cX8_wrong, 3, none, [], mc_153, 0, 2)
def mc_154 : List (Nat × Instr × Nat) := [(0, .aload_n 0, 1), (1, .getfield 108, 3), (4, .aload_n 0, 1), (5, .getfield 111, 3), (8, .if_icmp .ge 30, 3), (11, .aload_n 0, 1), (12, .getfield 20, 3), (15, .aload_n 0, 1), (16, .getfield 108, 3), (19, .iaload, 1), (20, .bipush 32, 2), (22, .if_icmp .ne 16, 3), (25, .aload_n 0, 1), (26, .dup, 1), (27, .getfield 108, 3), (30, .iconst 1, 1), (31, .iadd, 1), (32, .putfield 108, 3), (35, .goto (-35), 3), (38, .aload_n 0, 1), (39, .getfield 108, 3), (42, .aload_n 0, 1), (43, .getfield 111, 3), (46, .if_icmp .ge 15, 3), (49, .aload_n 0, 1), (50, .getfield 20, 3), (53, .aload_n 0, 1), (54, .getfield 108, 3), (57, .iaload, 1), (58, .goto 4, 3), (61, .iconst 0, 1), (62, .ireturn, 1)]
def mi_154 : AMI := (8, yX8_here, cX8_here, 1, (some .int), [], mc_154, 0, 0)
def mc_155 : List (Nat × Instr × Nat) := [(0, .iload_n 0, 1), (1, .bipush 97, 2), (3, .if_icmp .lt 13, 3), (6, .iload_n 0, 1), (7, .bipush 122, 2), (9, .if_icmp .gt 7, 3), (12, .iconst 1, 1), (13, .goto 4, 3), (16, .iconst 0, 1), (17, .ireturn, 1)]
def mi_155 : AMI := (8, yX8_isSmall, cX8_isSmall, 1, (some .boolean), [], mc_155, 1, 1)
def mc_156 : List (Nat × Instr × Nat) := [(0, .iload_n 0, 1), (1, .bipush 48, 2), (3, .if_icmp .lt 13, 3), (6, .iload_n 0, 1), (7, .bipush 57, 2), (9, .if_icmp .gt 7, 3), (12, .iconst 1, 1), (13, .goto 4, 3), (16, .iconst 0, 1), (17, .ireturn, 1)]
def mi_156 : AMI := (8, yX8_isDigit, cX8_isDigit, 1, (some .boolean), [], mc_156, 1, 1)
def mc_157 : List (Nat × Instr × Nat) := [(0, .aload_n 0, 1), (1, .invokevirtual 114, 3), (4, .pop, 1), (5, .iconst 0, 1), (6, .istore_n 1, 1), (7, .iconst 0, 1), (8, .istore_n 2, 1), (9, .aload_n 0, 1), (10, .getfield 108, 3), (13, .istore_n 3, 1), (14, .iload_n 3, 1), (15, .aload_n 0, 1), (16, .getfield 111, 3), (19, .if_icmp .ge 48, 3), (22, .aload_n 0, 1), (23, .getfield 20, 3), (26, .iload_n 3, 1), (27, .iaload, 1), (28, .invokestatic 118, 3), (31, .ifCond .eq 36, 3), (34, .iload_n 2, 1), (35, .bipush 6, 2), (37, .if_icmp .ge 19, 3), (40, .iload_n 1, 1), (41, .iconst 5, 1), (42, .ishl, 1), (43, .aload_n 0, 1), (44, .getfield 20, 3), (47, .iload_n 3, 1), (48, .iaload, 1), (49, .bipush 96, 2), (51, .isub, 1), (52, .ior, 1), (53, .goto 4, 3), (56, .iconst 0, 1), (57, .istore_n 1, 1), (58, .iinc 2 1, 3), (61, .iinc 3 1, 3), (64, .goto (-50), 3), (67, .iload_n 2, 1), (68, .bipush 6, 2), (70, .if_icmp .le 7, 3), (73, .iconst 0, 1), (74, .goto 4, 3), (77, .iload_n 1, 1), (78, .ireturn, 1)]
def mi_157 : AMI := (8, yX8_word, cX8_word, 4, (some .int), [], mc_157, 0, 0)
def mc_158 : List (Nat × Instr × Nat) := [(0, .iconst 0, 1), (1, .istore_n 1, 1), (2, .iconst 0, 1), (3, .istore_n 2, 1), (4, .iload_n 2, 1), (5, .aload_n 0, 1), (6, .invokevirtual 122, 3), (9, .if_icmp .ge 22, 3), (12, .iload_n 1, 1), (13, .iconst 5, 1), (14, .ishl, 1), (15, .aload_n 0, 1), (16, .iload_n 2, 1), (17, .invokevirtual 127, 3), (20, .bipush 96, 2), (22, .isub, 1), (23, .ior, 1), (24, .istore_n 1, 1), (25, .iinc 2 1, 3), (28, .goto (-24), 3), (31, .iload_n 1, 1), (32, .ireturn, 1)]
def mi_158 : AMI := (8, yX8_of, cX8_of, 3, (some .int), [], mc_158, 1, 1)
def mc_159 : List (Nat × Instr × Nat) := [(0, .aload_n 0, 1), (1, .getfield 108, 3), (4, .aload_n 0, 1), (5, .getfield 111, 3), (8, .if_icmp .ge 31, 3), (11, .aload_n 0, 1), (12, .getfield 20, 3), (15, .aload_n 0, 1), (16, .getfield 108, 3), (19, .iaload, 1), (20, .invokestatic 118, 3), (23, .ifCond .eq 16, 3), (26, .aload_n 0, 1), (27, .dup, 1), (28, .getfield 108, 3), (31, .iconst 1, 1), (32, .iadd, 1), (33, .putfield 108, 3), (36, .goto (-36), 3), (39, .return_, 1)]
def mi_159 : AMI := (8, yX8_pass, cX8_pass, 1, none, [], mc_159, 0, 0)
def mc_160 : List (Nat × Instr × Nat) := [(0, .aload_n 0, 1), (1, .invokevirtual 131, 3), (4, .ifCond .ne 5, 3), (7, .iconst 0, 1), (8, .ireturn, 1), (9, .aload_n 0, 1), (10, .invokevirtual 114, 3), (13, .istore_n 3, 1), (14, .aload_n 0, 1), (15, .getfield 108, 3), (18, .istore 4, 2), (20, .iconst 0, 1), (21, .istore 5, 2), (23, .iload_n 3, 1), (24, .invokestatic 135, 3), (27, .ifCond .ne 14, 3), (30, .aload_n 0, 1), (31, .iconst 1, 1), (32, .aload_n 0, 1), (33, .getfield 108, 3), (36, .invokevirtual 138, 3), (39, .iconst 0, 1), (40, .ireturn, 1), (41, .aload_n 0, 1), (42, .getfield 108, 3), (45, .aload_n 0, 1), (46, .getfield 111, 3), (49, .if_icmp .ge 65, 3), (52, .aload_n 0, 1), (53, .getfield 20, 3), (56, .aload_n 0, 1), (57, .getfield 108, 3), (60, .iaload, 1), (61, .invokestatic 135, 3), (64, .ifCond .eq 50, 3), (67, .iload 5, 2), (69, .sipush 9999, 3), (72, .if_icmp .le 9, 3), (75, .sipush 10000, 3), (78, .goto 21, 3), (81, .bipush 10, 2), (83, .iload 5, 2), (85, .imul, 1), (86, .aload_n 0, 1), (87, .getfield 20, 3), (90, .aload_n 0, 1), (91, .getfield 108, 3), (94, .iaload, 1), (95, .iadd, 1), (96, .bipush 48, 2), (98, .isub, 1), (99, .istore 5, 2), (101, .aload_n 0, 1), (102, .dup, 1), (103, .getfield 108, 3), (106, .iconst 1, 1), (107, .iadd, 1), (108, .putfield 108, 3), (111, .goto (-70), 3), (114, .iload 5, 2), (116, .iload_n 1, 1), (117, .if_icmp .lt 9, 3), (120, .iload 5, 2), (122, .iload_n 2, 1), (123, .if_icmp .le 12, 3), (126, .aload_n 0, 1), (127, .iconst 2, 1), (128, .iload 4, 2), (130, .invokevirtual 138, 3), (133, .iconst 0, 1), (134, .ireturn, 1), (135, .iload 5, 2), (137, .ireturn, 1)]
def mi_160 : AMI := (8, yX8_readNumber, cX8_readNumber, 6, (some .int), [], mc_160, 0, 2)
def mc_161 : List (Nat × Instr × Nat) := [(0, .aload_n 0, 1), (1, .invokevirtual 131, 3), (4, .ifCond .eq 20, 3), (7, .aload_n 0, 1), (8, .invokevirtual 114, 3), (11, .iload_n 1, 1), (12, .if_icmp .eq 12, 3), (15, .aload_n 0, 1), (16, .iconst 1, 1), (17, .aload_n 0, 1), (18, .getfield 108, 3), (21, .invokevirtual 138, 3), (24, .aload_n 0, 1), (25, .invokevirtual 131, 3), (28, .ifCond .eq 13, 3), (31, .aload_n 0, 1), (32, .dup, 1), (33, .getfield 108, 3), (36, .iconst 1, 1), (37, .iadd, 1), (38, .putfield 108, 3), (41, .return_, 1)]
def mi_161 : AMI := (8, yX8_sign, cX8_sign, 2, none, [], mc_161, 0, 1)
def mc_162 : List (Nat × Instr × Nat) := [(0, .aload_n 0, 1), (1, .invokevirtual 114, 3), (4, .pop, 1), (5, .aload_n 0, 1), (6, .getfield 108, 3), (9, .aload_n 0, 1), (10, .getfield 111, 3), (13, .if_icmp .ge 7, 3), (16, .iconst 1, 1), (17, .goto 4, 3), (20, .iconst 0, 1), (21, .ireturn, 1)]
def mi_162 : AMI := (8, yX8_isMore, cX8_isMore, 1, (some .boolean), [], mc_162, 0, 0)
def mc_163 : List (Nat × Instr × Nat) := [(0, .aload_n 0, 1), (1, .iconst 0, 1), (2, .putfield 99, 3), (5, .aload_n 0, 1), (6, .iconst (-1), 1), (7, .putfield 17, 3), (10, .aload_n 0, 1), (11, .iload_n 1, 1), (12, .putfield 111, 3), (15, .aload_n 0, 1), (16, .iconst 0, 1), (17, .putfield 108, 3), (20, .aload_n 0, 1), (21, .iconst (-1), 1), (22, .putfield 102, 3), (25, .aload_n 0, 1), (26, .iconst 0, 1), (27, .putfield 142, 3), (30, .return_, 1)]
def mi_163 : AMI := (8, yX8_begins, cX8_begins, 2, none, [], mc_163, 0, 1)
def mc_164 : List (Nat × Instr × Nat) := [(0, .aload_n 0, 1), (1, .aload_n 0, 1), (2, .getfield 102, 3), (5, .putfield 17, 3), (8, .aload_n 0, 1), (9, .invokevirtual 131, 3), (12, .ifCond .eq 7, 3), (15, .iload_n 1, 1), (16, .goto 10, 3), (19, .aload_n 0, 1), (20, .getfield 105, 3), (23, .bipush 10, 2), (25, .isub, 1), (26, .ireturn, 1)]
def mi_164 : AMI := (8, yX8_result, cX8_result, 2, (some .int), [], mc_164, 0, 1)
def mc_165 : List (Nat × Instr × Nat) := [(0, .aload_n 0, 1), (1, .iconst 0, 1), (2, .putfield 3, 3), (5, .aload_n 0, 1), (6, .getfield 17, 3), (9, .ireturn, 1)]
def mi_165 : AMI := (8, yX8_fault, cX8_fault, 1, (some .int), [], mc_165, 0, 0)
def mc_166 : List (Nat × Instr × Nat) := [(0, .iload_n 0, 1), (1, .ldc 191, 2), (3, .invokestatic 192, 3), (6, .if_icmp .eq 30, 3), (9, .iload_n 0, 1), (10, .ldc 196, 2), (12, .invokestatic 192, 3), (15, .if_icmp .eq 21, 3), (18, .iload_n 0, 1), (19, .ldc 197, 2), (21, .invokestatic 192, 3), (24, .if_icmp .eq 12, 3), (27, .iload_n 0, 1), (28, .ldc 198, 2), (30, .invokestatic 192, 3), (33, .if_icmp .ne 7, 3), (36, .iconst 1, 1), (37, .goto 4, 3), (40, .iconst 0, 1), (41, .ireturn, 1)]
def mi_166 : AMI := (8, yX8_isRow, cX8_isRow, 1, (some .boolean), [], mc_166, 1, 1)
def mc_167 : List (Nat × Instr × Nat) := [(0, .iload_n 1, 1), (1, .ldc 191, 2), (3, .invokestatic 192, 3), (6, .if_icmp .ne 20, 3), (9, .aload_n 0, 1), (10, .getfield 145, 3), (13, .bipush 6, 2), (15, .if_icmp .ne 7, 3), (18, .iconst 1, 1), (19, .goto 54, 3), (22, .iconst 0, 1), (23, .goto 50, 3), (26, .iload_n 1, 1), (27, .ldc 196, 2), (29, .invokestatic 192, 3), (32, .if_icmp .ne 19, 3), (35, .aload_n 0, 1), (36, .getfield 148, 3), (39, .iconst 4, 1), (40, .if_icmp .ne 7, 3), (43, .iconst 1, 1), (44, .goto 29, 3), (47, .iconst 0, 1), (48, .goto 25, 3), (51, .iload_n 1, 1), (52, .ldc 197, 2), (54, .invokestatic 192, 3), (57, .if_icmp .ne 15, 3), (60, .aload_n 0, 1), (61, .getfield 151, 3), (64, .iconst 4, 1), (65, .if_icmp .ne 7, 3), (68, .iconst 1, 1), (69, .goto 4, 3), (72, .iconst 0, 1), (73, .ireturn, 1)]
def mi_167 : AMI := (8, yX8_isFull, cX8_isFull, 2, (some .boolean), [], mc_167, 0, 1)
def mc_168 : List (Nat × Instr × Nat) := [(0, .iload_n 1, 1), (1, .ldc 191, 2), (3, .invokestatic 192, 3), (6, .if_icmp .ne 50, 3), (9, .iconst 0, 1), (10, .istore_n 2, 1), (11, .iload_n 2, 1), (12, .iconst 4, 1), (13, .if_icmp .ge 30, 3), (16, .aload_n 0, 1), (17, .getfield 23, 3), (20, .iconst 4, 1), (21, .aload_n 0, 1), (22, .getfield 145, 3), (25, .imul, 1), (26, .iload_n 2, 1), (27, .iadd, 1), (28, .aload_n 0, 1), (29, .iconst 0, 1), (30, .sipush 999, 3), (33, .invokevirtual 199, 3), (36, .iastore, 1), (37, .iinc 2 1, 3), (40, .goto (-29), 3), (43, .aload_n 0, 1), (44, .dup, 1), (45, .getfield 145, 3), (48, .iconst 1, 1), (49, .iadd, 1), (50, .putfield 145, 3), (53, .goto 106, 3), (56, .iload_n 1, 1), (57, .ldc 196, 2), (59, .invokestatic 192, 3), (62, .if_icmp .ne 49, 3), (65, .iconst 0, 1), (66, .istore_n 2, 1), (67, .iload_n 2, 1), (68, .iconst 3, 1), (69, .if_icmp .ge 29, 3), (72, .aload_n 0, 1), (73, .getfield 26, 3), (76, .iconst 3, 1), (77, .aload_n 0, 1), (78, .getfield 148, 3), (81, .imul, 1), (82, .iload_n 2, 1), (83, .iadd, 1), (84, .aload_n 0, 1), (85, .iconst 0, 1), (86, .bipush 10, 2), (88, .invokevirtual 199, 3), (91, .iastore, 1), (92, .iinc 2 1, 3), (95, .goto (-28), 3), (98, .aload_n 0, 1), (99, .dup, 1), (100, .getfield 148, 3), (103, .iconst 1, 1), (104, .iadd, 1), (105, .putfield 148, 3), (108, .goto 51, 3), (111, .iload_n 1, 1), (112, .ldc 197, 2), (114, .invokestatic 192, 3), (117, .if_icmp .ne 31, 3), (120, .aload_n 0, 1), (121, .getfield 29, 3), (124, .aload_n 0, 1), (125, .getfield 151, 3), (128, .aload_n 0, 1), (129, .iconst 0, 1), (130, .iconst 2, 1), (131, .invokevirtual 199, 3), (134, .iastore, 1), (135, .aload_n 0, 1), (136, .dup, 1), (137, .getfield 151, 3), (140, .iconst 1, 1), (141, .iadd, 1), (142, .putfield 151, 3), (145, .goto 14, 3), (148, .aload_n 0, 1), (149, .aload_n 0, 1), (150, .iconst 0, 1), (151, .bipush 50, 2), (153, .invokevirtual 199, 3), (156, .putfield 154, 3), (159, .return_, 1)]
def mi_168 : AMI := (8, yX8_readRow, cX8_readRow, 3, none, [], mc_168, 0, 1)
def mc_169 : List (Nat × Instr × Nat) := [(0, .aload_n 0, 1), (1, .iconst 0, 1), (2, .putfield 3, 3), (5, .aload_n 0, 1), (6, .iload_n 1, 1), (7, .ifCond .lt 15, 3), (10, .iload_n 1, 1), (11, .aload_n 0, 1), (12, .getfield 99, 3), (15, .if_icmp .gt 7, 3), (18, .iconst 1, 1), (19, .goto 4, 3), (22, .iconst 0, 1), (23, .iconst 1, 1), (24, .iconst 1, 1), (25, .invokevirtual 203, 3), (28, .ifCond .ne 5, 3), (31, .iconst 0, 1), (32, .ireturn, 1), (33, .aload_n 0, 1), (34, .iload_n 1, 1), (35, .invokevirtual 207, 3), (38, .aload_n 0, 1), (39, .invokevirtual 93, 3), (42, .iconst 0, 1), (43, .istore_n 2, 1), (44, .aload_n 0, 1), (45, .invokevirtual 131, 3), (48, .ifCond .eq 88, 3), (51, .aload_n 0, 1), (52, .invokevirtual 211, 3), (55, .ifCond .eq 81, 3), (58, .aload_n 0, 1), (59, .invokevirtual 214, 3), (62, .istore_n 3, 1), (63, .iload_n 3, 1), (64, .invokestatic 217, 3), (67, .ifCond .ne 15, 3), (70, .aload_n 0, 1), (71, .iconst 1, 1), (72, .aload_n 0, 1), (73, .getfield 108, 3), (76, .invokevirtual 138, 3), (79, .goto 26, 3), (82, .iload_n 2, 1), (83, .bipush 60, 2), (85, .if_icmp .eq 11, 3), (88, .aload_n 0, 1), (89, .iload_n 3, 1), (90, .invokevirtual 220, 3), (93, .ifCond .eq 12, 3), (96, .aload_n 0, 1), (97, .iconst 3, 1), (98, .aload_n 0, 1), (99, .getfield 108, 3), (102, .invokevirtual 138, 3), (105, .aload_n 0, 1), (106, .invokevirtual 131, 3), (109, .ifCond .ne 6, 3), (112, .goto 24, 3), (115, .aload_n 0, 1), (116, .invokevirtual 223, 3), (119, .aload_n 0, 1), (120, .iload_n 3, 1), (121, .invokevirtual 226, 3), (124, .aload_n 0, 1), (125, .bipush 59, 2), (127, .invokevirtual 229, 3), (130, .iinc 2 1, 3), (133, .goto (-89), 3), (136, .aload_n 0, 1), (137, .aload_n 0, 1), (138, .getfield 145, 3), (141, .invokevirtual 232, 3), (144, .istore_n 3, 1), (145, .aload_n 0, 1), (146, .getfield 102, 3), (149, .iconst (-1), 1), (150, .if_icmp .ne 7, 3), (153, .aload_n 0, 1), (154, .invokevirtual 96, 3), (157, .iload_n 3, 1), (158, .ireturn, 1)]
def mi_169 : AMI := (8, yX8_mill, cX8_mill, 4, (some .int), [], mc_169, 0, 1)
def mc_170 : List (Nat × Instr × Nat) := [(0, .aload_n 0, 1), (1, .invokevirtual 131, 3), (4, .ifCond .ne 4, 3), (7, .return_, 1), (8, .aload_n 0, 1), (9, .getfield 41, 3), (12, .aload_n 0, 1), (13, .getfield 236, 3), (16, .iload_n 1, 1), (17, .iastore, 1), (18, .aload_n 0, 1), (19, .getfield 44, 3), (22, .aload_n 0, 1), (23, .getfield 236, 3), (26, .iload_n 2, 1), (27, .iastore, 1), (28, .aload_n 0, 1), (29, .dup, 1), (30, .getfield 236, 3), (33, .iconst 1, 1), (34, .iadd, 1), (35, .putfield 236, 3), (38, .return_, 1)]
def mi_170 : AMI := (8, yX8_emit, cX8_emit, 3, none, [], mc_170, 0, 2)
def mc_171 : List (Nat × Instr × Nat) := [(0, .aload_n 0, 1), (1, .invokevirtual 131, 3), (4, .ifCond .eq 21, 3), (7, .aload_n 0, 1), (8, .getfield 142, 3), (11, .bipush 6, 2), (13, .if_icmp .ne 12, 3), (16, .aload_n 0, 1), (17, .iconst 3, 1), (18, .aload_n 0, 1), (19, .getfield 108, 3), (22, .invokevirtual 138, 3), (25, .aload_n 0, 1), (26, .invokevirtual 131, 3), (29, .ifCond .eq 13, 3), (32, .aload_n 0, 1), (33, .dup, 1), (34, .getfield 108, 3), (37, .iload_n 1, 1), (38, .iadd, 1), (39, .putfield 108, 3), (42, .aload_n 0, 1), (43, .dup, 1), (44, .getfield 142, 3), (47, .iconst 1, 1), (48, .iadd, 1), (49, .putfield 142, 3), (52, .return_, 1)]
def mi_171 : AMI := (8, yX8_opensOne, cX8_opensOne, 2, none, [], mc_171, 0, 1)
def mc_172 : List (Nat × Instr × Nat) := [(0, .aload_n 0, 1), (1, .invokevirtual 214, 3), (4, .istore_n 1, 1), (5, .iload_n 1, 1), (6, .ldc 254, 2), (8, .invokestatic 192, 3), (11, .if_icmp .ne 7, 3), (14, .iconst 0, 1), (15, .goto 102, 3), (18, .iload_n 1, 1), (19, .ldc 255, 2), (21, .invokestatic 192, 3), (24, .if_icmp .ne 7, 3), (27, .iconst 1, 1), (28, .goto 89, 3), (31, .iload_n 1, 1), (32, .ldc_w 257, 3), (35, .invokestatic 192, 3), (38, .if_icmp .ne 7, 3), (41, .iconst 2, 1), (42, .goto 75, 3), (45, .iload_n 1, 1), (46, .ldc_w 259, 3), (49, .invokestatic 192, 3), (52, .if_icmp .ne 7, 3), (55, .iconst 3, 1), (56, .goto 61, 3), (59, .iload_n 1, 1), (60, .ldc_w 261, 3), (63, .invokestatic 192, 3), (66, .if_icmp .ne 7, 3), (69, .iconst 4, 1), (70, .goto 47, 3), (73, .iload_n 1, 1), (74, .ldc_w 263, 3), (77, .invokestatic 192, 3), (80, .if_icmp .ne 7, 3), (83, .iconst 5, 1), (84, .goto 33, 3), (87, .iload_n 1, 1), (88, .ldc_w 265, 3), (91, .invokestatic 192, 3), (94, .if_icmp .ne 8, 3), (97, .bipush 6, 2), (99, .goto 18, 3), (102, .iload_n 1, 1), (103, .ldc 191, 2), (105, .invokestatic 192, 3), (108, .if_icmp .ne 8, 3), (111, .bipush 7, 2), (113, .goto 4, 3), (116, .iconst (-1), 1), (117, .ireturn, 1)]
def mi_172 : AMI := (8, yX8_factHere, cX8_factHere, 2, (some .int), [], mc_172, 0, 0)
def mc_173 : List (Nat × Instr × Nat) := [(0, .aload_n 0, 1), (1, .invokevirtual 245, 3), (4, .aload_n 0, 1), (5, .invokevirtual 131, 3), (8, .ifCond .eq 82, 3), (11, .aload_n 0, 1), (12, .invokevirtual 114, 3), (15, .bipush 42, 2), (17, .if_icmp .eq 21, 3), (20, .aload_n 0, 1), (21, .invokevirtual 114, 3), (24, .bipush 47, 2), (26, .if_icmp .eq 12, 3), (29, .aload_n 0, 1), (30, .invokevirtual 114, 3), (33, .bipush 37, 2), (35, .if_icmp .ne 55, 3), (38, .aload_n 0, 1), (39, .invokevirtual 114, 3), (42, .bipush 42, 2), (44, .if_icmp .ne 7, 3), (47, .iconst 4, 1), (48, .goto 18, 3), (51, .aload_n 0, 1), (52, .invokevirtual 114, 3), (55, .bipush 47, 2), (57, .if_icmp .ne 7, 3), (60, .iconst 5, 1), (61, .goto 5, 3), (64, .bipush 8, 2), (66, .istore_n 1, 1), (67, .aload_n 0, 1), (68, .dup, 1), (69, .getfield 108, 3), (72, .iconst 1, 1), (73, .iadd, 1), (74, .putfield 108, 3), (77, .aload_n 0, 1), (78, .invokevirtual 245, 3), (81, .aload_n 0, 1), (82, .iload_n 1, 1), (83, .iconst 0, 1), (84, .invokevirtual 242, 3), (87, .goto (-83), 3), (90, .return_, 1)]
def mi_173 : AMI := (8, yX8_readProduct, cX8_readProduct, 2, none, [], mc_173, 0, 0)
def mc_174 : List (Nat × Instr × Nat) := [(0, .aload_n 0, 1), (1, .invokevirtual 239, 3), (4, .aload_n 0, 1), (5, .invokevirtual 131, 3), (8, .ifCond .eq 59, 3), (11, .aload_n 0, 1), (12, .invokevirtual 114, 3), (15, .bipush 43, 2), (17, .if_icmp .eq 12, 3), (20, .aload_n 0, 1), (21, .invokevirtual 114, 3), (24, .bipush 45, 2), (26, .if_icmp .ne 41, 3), (29, .aload_n 0, 1), (30, .invokevirtual 114, 3), (33, .bipush 43, 2), (35, .if_icmp .ne 7, 3), (38, .iconst 2, 1), (39, .goto 4, 3), (42, .iconst 3, 1), (43, .istore_n 1, 1), (44, .aload_n 0, 1), (45, .dup, 1), (46, .getfield 108, 3), (49, .iconst 1, 1), (50, .iadd, 1), (51, .putfield 108, 3), (54, .aload_n 0, 1), (55, .invokevirtual 239, 3), (58, .aload_n 0, 1), (59, .iload_n 1, 1), (60, .iconst 0, 1), (61, .invokevirtual 242, 3), (64, .goto (-60), 3), (67, .return_, 1)]
def mi_174 : AMI := (8, yX8_readSum, cX8_readSum, 2, none, [], mc_174, 0, 0)
def mc_175 : List (Nat × Instr × Nat) := [(0, .aload_n 0, 1), (1, .iload_n 1, 1), (2, .invokevirtual 248, 3), (5, .aload_n 0, 1), (6, .bipush 91, 2), (8, .invokevirtual 229, 3), (11, .aload_n 0, 1), (12, .invokevirtual 251, 3), (15, .aload_n 0, 1), (16, .bipush 44, 2), (18, .invokevirtual 229, 3), (21, .aload_n 0, 1), (22, .invokevirtual 251, 3), (25, .aload_n 0, 1), (26, .bipush 93, 2), (28, .invokevirtual 229, 3), (31, .aload_n 0, 1), (32, .dup, 1), (33, .getfield 142, 3), (36, .iconst 1, 1), (37, .isub, 1), (38, .putfield 142, 3), (41, .aload_n 0, 1), (42, .iload_n 2, 1), (43, .iconst 0, 1), (44, .invokevirtual 242, 3), (47, .return_, 1)]
def mi_175 : AMI := (8, yX8_readTwo, cX8_readTwo, 3, none, [], mc_175, 0, 2)
def mc_176 : List (Nat × Instr × Nat) := [(0, .aload_n 0, 1), (1, .invokevirtual 131, 3), (4, .ifCond .ne 4, 3), (7, .return_, 1), (8, .aload_n 0, 1), (9, .invokevirtual 114, 3), (12, .bipush 40, 2), (14, .if_icmp .ne 31, 3), (17, .aload_n 0, 1), (18, .iconst 1, 1), (19, .invokevirtual 248, 3), (22, .aload_n 0, 1), (23, .invokevirtual 251, 3), (26, .aload_n 0, 1), (27, .bipush 41, 2), (29, .invokevirtual 229, 3), (32, .aload_n 0, 1), (33, .dup, 1), (34, .getfield 142, 3), (37, .iconst 1, 1), (38, .isub, 1), (39, .putfield 142, 3), (42, .goto 112, 3), (45, .aload_n 0, 1), (46, .invokevirtual 114, 3), (49, .invokestatic 135, 3), (52, .ifCond .eq 19, 3), (55, .aload_n 0, 1), (56, .iconst 0, 1), (57, .aload_n 0, 1), (58, .iconst 0, 1), (59, .sipush 999, 3), (62, .invokevirtual 199, 3), (65, .invokevirtual 242, 3), (68, .goto 86, 3), (71, .aload_n 0, 1), (72, .invokevirtual 214, 3), (75, .ldc_w 267, 3), (78, .invokestatic 192, 3), (81, .if_icmp .ne 13, 3), (84, .aload_n 0, 1), (85, .iconst 5, 1), (86, .bipush 6, 2), (88, .invokevirtual 269, 3), (91, .goto 63, 3), (94, .aload_n 0, 1), (95, .invokevirtual 214, 3), (98, .ldc_w 272, 3), (101, .invokestatic 192, 3), (104, .if_icmp .ne 13, 3), (107, .aload_n 0, 1), (108, .iconst 4, 1), (109, .bipush 7, 2), (111, .invokevirtual 269, 3), (114, .goto 40, 3), (117, .aload_n 0, 1), (118, .invokevirtual 274, 3), (121, .istore_n 1, 1), (122, .iload_n 1, 1), (123, .iconst (-1), 1), (124, .if_icmp .ne 12, 3), (127, .aload_n 0, 1), (128, .iconst 1, 1), (129, .aload_n 0, 1), (130, .getfield 108, 3), (133, .invokevirtual 138, 3), (136, .aload_n 0, 1), (137, .invokevirtual 131, 3), (140, .ifCond .ne 4, 3), (143, .return_, 1), (144, .aload_n 0, 1), (145, .invokevirtual 223, 3), (148, .aload_n 0, 1), (149, .iconst 1, 1), (150, .iload_n 1, 1), (151, .invokevirtual 242, 3), (154, .return_, 1)]
def mi_176 : AMI := (8, yX8_readUnit, cX8_readUnit, 2, none, [], mc_176, 0, 0)
def mc_177 : List (Nat × Instr × Nat) := [(0, .aload_n 0, 1), (1, .iconst 0, 1), (2, .putfield 3, 3), (5, .aload_n 0, 1), (6, .iload_n 1, 1), (7, .ifCond .lt 22, 3), (10, .iload_n 1, 1), (11, .aload_n 0, 1), (12, .getfield 99, 3), (15, .if_icmp .gt 14, 3), (18, .iload_n 1, 1), (19, .sipush 150, 3), (22, .if_icmp .gt 7, 3), (25, .iconst 1, 1), (26, .goto 4, 3), (29, .iconst 0, 1), (30, .iconst 1, 1), (31, .iconst 1, 1), (32, .invokevirtual 203, 3), (35, .ifCond .ne 5, 3), (38, .iconst 0, 1), (39, .ireturn, 1), (40, .aload_n 0, 1), (41, .iload_n 1, 1), (42, .invokevirtual 207, 3), (45, .aload_n 0, 1), (46, .iconst 0, 1), (47, .putfield 236, 3), (50, .aload_n 0, 1), (51, .invokevirtual 251, 3), (54, .aload_n 0, 1), (55, .invokevirtual 131, 3), (58, .ifCond .eq 19, 3), (61, .aload_n 0, 1), (62, .invokevirtual 211, 3), (65, .ifCond .eq 12, 3), (68, .aload_n 0, 1), (69, .iconst 1, 1), (70, .aload_n 0, 1), (71, .getfield 108, 3), (74, .invokevirtual 138, 3), (77, .aload_n 0, 1), (78, .iconst 1, 1), (79, .invokevirtual 232, 3), (82, .istore_n 2, 1), (83, .aload_n 0, 1), (84, .getfield 102, 3), (87, .iconst (-1), 1), (88, .if_icmp .eq 5, 3), (91, .iload_n 2, 1), (92, .ireturn, 1), (93, .aload_n 0, 1), (94, .aload_n 0, 1), (95, .getfield 236, 3), (98, .putfield 173, 3), (101, .aload_n 0, 1), (102, .aload_n 0, 1), (103, .getfield 41, 3), (106, .aload_n 0, 1), (107, .getfield 47, 3), (110, .aload_n 0, 1), (111, .getfield 236, 3), (114, .invokevirtual 169, 3), (117, .aload_n 0, 1), (118, .aload_n 0, 1), (119, .getfield 44, 3), (122, .aload_n 0, 1), (123, .getfield 50, 3), (126, .aload_n 0, 1), (127, .getfield 236, 3), (130, .invokevirtual 169, 3), (133, .iload_n 2, 1), (134, .ireturn, 1)]
def mi_177 : AMI := (8, yX8_law, cX8_law, 3, (some .int), [], mc_177, 0, 1)
def mc_178 : List (Nat × Instr × Nat) := [(0, .iload_n 0, 1), (1, .iconst 2, 1), (2, .if_icmp .ne 7, 3), (5, .iload_n 1, 1), (6, .iload_n 2, 1), (7, .iadd, 1), (8, .ireturn, 1), (9, .iload_n 0, 1), (10, .iconst 3, 1), (11, .if_icmp .ne 7, 3), (14, .iload_n 1, 1), (15, .iload_n 2, 1), (16, .isub, 1), (17, .ireturn, 1), (18, .iload_n 0, 1), (19, .iconst 4, 1), (20, .if_icmp .ne 7, 3), (23, .iload_n 1, 1), (24, .iload_n 2, 1), (25, .imul, 1), (26, .ireturn, 1), (27, .iload_n 0, 1), (28, .iconst 5, 1), (29, .if_icmp .eq 9, 3), (32, .iload_n 0, 1), (33, .bipush 8, 2), (35, .if_icmp .ne 26, 3), (38, .iload_n 2, 1), (39, .ifCond .ne 7, 3), (42, .iconst 0, 1), (43, .goto 17, 3), (46, .iload_n 0, 1), (47, .iconst 5, 1), (48, .if_icmp .ne 9, 3), (51, .iload_n 1, 1), (52, .iload_n 2, 1), (53, .idiv, 1), (54, .goto 6, 3), (57, .iload_n 1, 1), (58, .iload_n 2, 1), (59, .irem, 1), (60, .ireturn, 1), (61, .iload_n 1, 1), (62, .iload_n 2, 1), (63, .if_icmp .ge 7, 3), (66, .iconst 1, 1), (67, .goto 4, 3), (70, .iconst 0, 1), (71, .iload_n 0, 1), (72, .bipush 6, 2), (74, .if_icmp .ne 7, 3), (77, .iconst 1, 1), (78, .goto 4, 3), (81, .iconst 0, 1), (82, .if_icmp .ne 7, 3), (85, .iload_n 1, 1), (86, .goto 4, 3), (89, .iload_n 2, 1), (90, .ireturn, 1)]
def mi_178 : AMI := (8, yX8_both, cX8_both, 3, (some .int), [], mc_178, 1, 3)
def mc_179 : List (Nat × Instr × Nat) := [(0, .iconst 0, 1), (1, .istore_n 1, 1), (2, .iconst 0, 1), (3, .istore_n 2, 1), (4, .iload_n 2, 1), (5, .aload_n 0, 1), (6, .getfield 173, 3), (9, .if_icmp .ge 86, 3), (12, .aload_n 0, 1), (13, .getfield 47, 3), (16, .iload_n 2, 1), (17, .iaload, 1), (18, .istore_n 3, 1), (19, .iload_n 3, 1), (20, .iconst 1, 1), (21, .if_icmp .gt 39, 3), (24, .aload_n 0, 1), (25, .getfield 53, 3), (28, .iload_n 1, 1), (29, .iload_n 3, 1), (30, .ifCond .ne 12, 3), (33, .aload_n 0, 1), (34, .getfield 50, 3), (37, .iload_n 2, 1), (38, .iaload, 1), (39, .goto 14, 3), (42, .aload_n 0, 1), (43, .getfield 56, 3), (46, .aload_n 0, 1), (47, .getfield 50, 3), (50, .iload_n 2, 1), (51, .iaload, 1), (52, .iaload, 1), (53, .iastore, 1), (54, .iinc 1 1, 3), (57, .goto 32, 3), (60, .iinc 1 (-1), 3), (63, .aload_n 0, 1), (64, .getfield 53, 3), (67, .iload_n 1, 1), (68, .iconst 1, 1), (69, .isub, 1), (70, .iload_n 3, 1), (71, .aload_n 0, 1), (72, .getfield 53, 3), (75, .iload_n 1, 1), (76, .iconst 1, 1), (77, .isub, 1), (78, .iaload, 1), (79, .aload_n 0, 1), (80, .getfield 53, 3), (83, .iload_n 1, 1), (84, .iaload, 1), (85, .invokestatic 277, 3), (88, .iastore, 1), (89, .iinc 2 1, 3), (92, .goto (-88), 3), (95, .aload_n 0, 1), (96, .getfield 53, 3), (99, .iconst 0, 1), (100, .iaload, 1), (101, .ireturn, 1)]
def mi_179 : AMI := (8, yX8_valueNow, cX8_valueNow, 4, (some .int), [], mc_179, 0, 0)
def mc_180 : List (Nat × Instr × Nat) := [(0, .aload_n 0, 1), (1, .getfield 173, 3), (4, .ifCond .ne 24, 3), (7, .aload_n 0, 1), (8, .getfield 56, 3), (11, .iconst 0, 1), (12, .iaload, 1), (13, .bipush 90, 2), (15, .imul, 1), (16, .aload_n 0, 1), (17, .getfield 56, 3), (20, .iconst 4, 1), (21, .iaload, 1), (22, .iconst 1, 1), (23, .iadd, 1), (24, .idiv, 1), (25, .goto 7, 3), (28, .aload_n 0, 1), (29, .invokevirtual 281, 3), (32, .istore_n 1, 1), (33, .iload_n 1, 1), (34, .ifCond .ge 7, 3), (37, .iconst 0, 1), (38, .goto 15, 3), (41, .iload_n 1, 1), (42, .bipush 99, 2), (44, .if_icmp .le 8, 3), (47, .bipush 99, 2), (49, .goto 4, 3), (52, .iload_n 1, 1), (53, .ireturn, 1)]
def mi_180 : AMI := (8, yX8_sneezeNow, cX8_sneezeNow, 2, (some .int), [], mc_180, 0, 0)
def mc_181 : List (Nat × Instr × Nat) := [(0, .aload_n 0, 1), (1, .invokevirtual 131, 3), (4, .ifCond .ne 4, 3), (7, .return_, 1), (8, .aload_n 0, 1), (9, .getfield 59, 3), (12, .aload_n 0, 1), (13, .getfield 284, 3), (16, .iload_n 1, 1), (17, .iastore, 1), (18, .aload_n 0, 1), (19, .getfield 59, 3), (22, .aload_n 0, 1), (23, .getfield 284, 3), (26, .iconst 1, 1), (27, .iadd, 1), (28, .iload_n 2, 1), (29, .iastore, 1), (30, .aload_n 0, 1), (31, .getfield 59, 3), (34, .aload_n 0, 1), (35, .getfield 284, 3), (38, .iconst 2, 1), (39, .iadd, 1), (40, .iload_n 3, 1), (41, .iastore, 1), (42, .aload_n 0, 1), (43, .getfield 59, 3), (46, .aload_n 0, 1), (47, .getfield 284, 3), (50, .iconst 3, 1), (51, .iadd, 1), (52, .iload 4, 2), (54, .iastore, 1), (55, .aload_n 0, 1), (56, .getfield 59, 3), (59, .aload_n 0, 1), (60, .getfield 284, 3), (63, .iconst 4, 1), (64, .iadd, 1), (65, .iload 5, 2), (67, .iastore, 1), (68, .aload_n 0, 1), (69, .dup, 1), (70, .getfield 284, 3), (73, .iconst 5, 1), (74, .iadd, 1), (75, .putfield 284, 3), (78, .return_, 1)]
def mi_181 : AMI := (8, yX8_tellsStep, cX8_tellsStep, 6, none, [], mc_181, 0, 5)
def mc_182 : List (Nat × Instr × Nat) := [(0, .iload_n 0, 1), (1, .ldc_w 287, 3), (4, .invokestatic 192, 3), (7, .if_icmp .ne 7, 3), (10, .iconst 0, 1), (11, .goto 104, 3), (14, .iload_n 0, 1), (15, .ldc_w 289, 3), (18, .invokestatic 192, 3), (21, .if_icmp .ne 7, 3), (24, .iconst 1, 1), (25, .goto 90, 3), (28, .iload_n 0, 1), (29, .ldc_w 291, 3), (32, .invokestatic 192, 3), (35, .if_icmp .ne 7, 3), (38, .iconst 2, 1), (39, .goto 76, 3), (42, .iload_n 0, 1), (43, .ldc_w 293, 3), (46, .invokestatic 192, 3), (49, .if_icmp .ne 7, 3), (52, .iconst 3, 1), (53, .goto 62, 3), (56, .iload_n 0, 1), (57, .ldc_w 295, 3), (60, .invokestatic 192, 3), (63, .if_icmp .ne 7, 3), (66, .iconst 4, 1), (67, .goto 48, 3), (70, .iload_n 0, 1), (71, .ldc_w 297, 3), (74, .invokestatic 192, 3), (77, .if_icmp .ne 7, 3), (80, .iconst 5, 1), (81, .goto 34, 3), (84, .iload_n 0, 1), (85, .ldc_w 265, 3), (88, .invokestatic 192, 3), (91, .if_icmp .ne 8, 3), (94, .bipush 6, 2), (96, .goto 19, 3), (99, .iload_n 0, 1), (100, .ldc_w 299, 3), (103, .invokestatic 192, 3), (106, .if_icmp .ne 8, 3), (109, .bipush 7, 2), (111, .goto 4, 3), (114, .iconst (-1), 1), (115, .ireturn, 1)]
def mi_182 : AMI := (8, yX8_stepOf, cX8_stepOf, 1, (some .int), [], mc_182, 1, 1)
def mc_183 : List (Nat × Instr × Nat) := [(0, .aload_n 0, 1), (1, .iconst 0, 1), (2, .aload_n 0, 1), (3, .getfield 157, 3), (6, .iconst 1, 1), (7, .isub, 1), (8, .invokevirtual 199, 3), (11, .ireturn, 1)]
def mi_183 : AMI := (8, yX8_readJarNumber, cX8_readJarNumber, 1, (some .int), [], mc_183, 0, 0)
def mc_184 : List (Nat × Instr × Nat) := [(0, .aload_n 0, 1), (1, .iconst 5, 1), (2, .invokevirtual 248, 3), (5, .aload_n 0, 1), (6, .iconst 0, 1), (7, .bipush 40, 2), (9, .invokevirtual 199, 3), (12, .istore_n 1, 1), (13, .aload_n 0, 1), (14, .bipush 91, 2), (16, .invokevirtual 229, 3), (19, .aload_n 0, 1), (20, .getfield 284, 3), (23, .istore_n 2, 1), (24, .aload_n 0, 1), (25, .bipush 7, 2), (27, .iload_n 1, 1), (28, .iconst 0, 1), (29, .iconst 0, 1), (30, .iconst 0, 1), (31, .invokevirtual 301, 3), (34, .aload_n 0, 1), (35, .invokevirtual 131, 3), (38, .ifCond .eq 19, 3), (41, .aload_n 0, 1), (42, .invokevirtual 114, 3), (45, .bipush 93, 2), (47, .if_icmp .eq 10, 3), (50, .aload_n 0, 1), (51, .invokevirtual 305, 3), (54, .goto (-20), 3), (57, .aload_n 0, 1), (58, .bipush 93, 2), (60, .invokevirtual 229, 3), (63, .aload_n 0, 1), (64, .dup, 1), (65, .getfield 142, 3), (68, .iconst 1, 1), (69, .isub, 1), (70, .putfield 142, 3), (73, .aload_n 0, 1), (74, .invokevirtual 131, 3), (77, .ifCond .eq 15, 3), (80, .aload_n 0, 1), (81, .getfield 59, 3), (84, .iload_n 2, 1), (85, .iconst 2, 1), (86, .iadd, 1), (87, .aload_n 0, 1), (88, .getfield 284, 3), (91, .iastore, 1), (92, .return_, 1)]
def mi_184 : AMI := (8, yX8_readAgain, cX8_readAgain, 3, none, [], mc_184, 0, 0)
def mc_185 : List (Nat × Instr × Nat) := [(0, .aload_n 0, 1), (1, .invokevirtual 214, 3), (4, .invokestatic 308, 3), (7, .istore_n 1, 1), (8, .iload_n 1, 1), (9, .iconst (-1), 1), (10, .if_icmp .ne 15, 3), (13, .aload_n 0, 1), (14, .iconst 1, 1), (15, .aload_n 0, 1), (16, .getfield 108, 3), (19, .invokevirtual 138, 3), (22, .goto 144, 3), (25, .iload_n 1, 1), (26, .bipush 7, 2), (28, .if_icmp .ne 10, 3), (31, .aload_n 0, 1), (32, .invokevirtual 311, 3), (35, .goto 131, 3), (38, .aload_n 0, 1), (39, .invokevirtual 223, 3), (42, .iload_n 1, 1), (43, .bipush 6, 2), (45, .if_icmp .ne 7, 3), (48, .iconst 0, 1), (49, .goto 49, 3), (52, .iload_n 1, 1), (53, .ifCond .ne 17, 3), (56, .aload_n 0, 1), (57, .iconst 0, 1), (58, .aload_n 0, 1), (59, .getfield 160, 3), (62, .iconst 1, 1), (63, .isub, 1), (64, .invokevirtual 199, 3), (67, .goto 31, 3), (70, .iload_n 1, 1), (71, .iconst 1, 1), (72, .if_icmp .eq 8, 3), (75, .iload_n 1, 1), (76, .iconst 4, 1), (77, .if_icmp .ne 17, 3), (80, .aload_n 0, 1), (81, .iconst 0, 1), (82, .aload_n 0, 1), (83, .getfield 163, 3), (86, .iconst 1, 1), (87, .isub, 1), (88, .invokevirtual 199, 3), (91, .goto 7, 3), (94, .aload_n 0, 1), (95, .invokevirtual 314, 3), (98, .istore_n 2, 1), (99, .iload_n 1, 1), (100, .iconst 4, 1), (101, .if_icmp .ge 10, 3), (104, .aload_n 0, 1), (105, .invokevirtual 314, 3), (108, .goto 4, 3), (111, .iconst 0, 1), (112, .istore_n 3, 1), (113, .iload_n 1, 1), (114, .iconst 1, 1), (115, .if_icmp .ne 10, 3), (118, .aload_n 0, 1), (119, .invokevirtual 314, 3), (122, .goto 20, 3), (125, .iload_n 1, 1), (126, .iconst 3, 1), (127, .if_icmp .ne 14, 3), (130, .aload_n 0, 1), (131, .iconst 1, 1), (132, .sipush 999, 3), (135, .invokevirtual 199, 3), (138, .goto 4, 3), (141, .iconst 0, 1), (142, .istore 4, 2), (144, .aload_n 0, 1), (145, .iload_n 1, 1), (146, .iload_n 2, 1), (147, .iload_n 3, 1), (148, .iload 4, 2), (150, .iload_n 1, 1), (151, .iconst 1, 1), (152, .if_icmp .ne 10, 3), (155, .aload_n 0, 1), (156, .invokevirtual 314, 3), (159, .goto 4, 3), (162, .iconst 0, 1), (163, .invokevirtual 301, 3), (166, .aload_n 0, 1), (167, .bipush 59, 2), (169, .invokevirtual 229, 3), (172, .return_, 1)]
def mi_185 : AMI := (8, yX8_readStep, cX8_readStep, 5, none, [], mc_185, 0, 0)
def mc_186 : List (Nat × Instr × Nat) := [(0, .aload_n 0, 1), (1, .aload_n 0, 1), (2, .getfield 65, 3), (5, .aload_n 0, 1), (6, .getfield 68, 3), (9, .bipush 37, 2), (11, .invokevirtual 169, 3), (14, .return_, 1)]
def mi_186 : AMI := (8, yX8_take, cX8_take, 1, none, [], mc_186, 0, 0)
def mc_187 : List (Nat × Instr × Nat) := [(0, .iconst 0, 1), (1, .istore_n 2, 1), (2, .iconst 0, 1), (3, .istore_n 3, 1), (4, .iload_n 3, 1), (5, .iconst 4, 1), (6, .if_icmp .ge 22, 3), (9, .iload_n 2, 1), (10, .aload_n 0, 1), (11, .getfield 68, 3), (14, .iconst 4, 1), (15, .iload_n 1, 1), (16, .imul, 1), (17, .iload_n 3, 1), (18, .iadd, 1), (19, .iaload, 1), (20, .iadd, 1), (21, .istore_n 2, 1), (22, .iinc 3 1, 3), (25, .goto (-21), 3), (28, .iload_n 2, 1), (29, .ireturn, 1)]
def mi_187 : AMI := (8, yX8_gramsOf, cX8_gramsOf, 4, (some .int), [], mc_187, 0, 1)
def mc_188 : List (Nat × Instr × Nat) := [(0, .aload_n 0, 1), (1, .iload_n 2, 1), (2, .invokevirtual 343, 3), (5, .ifCond .ne 5, 3), (8, .iconst 0, 1), (9, .ireturn, 1), (10, .iconst 1, 1), (11, .istore_n 3, 1), (12, .iload_n 3, 1), (13, .iconst 4, 1), (14, .if_icmp .ge 69, 3), (17, .aload_n 0, 1), (18, .getfield 68, 3), (21, .iconst 4, 1), (22, .iload_n 2, 1), (23, .imul, 1), (24, .iload_n 3, 1), (25, .iadd, 1), (26, .iaload, 1), (27, .aload_n 0, 1), (28, .getfield 35, 3), (31, .iconst 3, 1), (32, .iload_n 1, 1), (33, .imul, 1), (34, .iload_n 3, 1), (35, .iadd, 1), (36, .iconst 1, 1), (37, .isub, 1), (38, .iaload, 1), (39, .imul, 1), (40, .bipush 10, 2), (42, .idiv, 1), (43, .istore 4, 2), (45, .aload_n 0, 1), (46, .getfield 68, 3), (49, .iconst 4, 1), (50, .iload_n 2, 1), (51, .imul, 1), (52, .iload_n 3, 1), (53, .iadd, 1), (54, .dup2, 1), (55, .iaload, 1), (56, .iload 4, 2), (58, .isub, 1), (59, .iastore, 1), (60, .aload_n 0, 1), (61, .getfield 68, 3), (64, .iconst 4, 1), (65, .iload_n 2, 1), (66, .imul, 1), (67, .iload_n 3, 1), (68, .iadd, 1), (69, .iconst 1, 1), (70, .isub, 1), (71, .dup2, 1), (72, .iaload, 1), (73, .iload 4, 2), (75, .iadd, 1), (76, .iastore, 1), (77, .iinc 3 1, 3), (80, .goto (-68), 3), (83, .aload_n 0, 1), (84, .getfield 68, 3), (87, .iconst 4, 1), (88, .iload_n 2, 1), (89, .imul, 1), (90, .iaload, 1), (91, .aload_n 0, 1), (92, .getfield 166, 3), (95, .imul, 1), (96, .bipush 100, 2), (98, .idiv, 1), (99, .istore_n 3, 1), (100, .aload_n 0, 1), (101, .getfield 68, 3), (104, .iconst 4, 1), (105, .iload_n 2, 1), (106, .imul, 1), (107, .dup2, 1), (108, .iaload, 1), (109, .iload_n 3, 1), (110, .isub, 1), (111, .iastore, 1), (112, .aload_n 0, 1), (113, .getfield 68, 3), (116, .bipush 35, 2), (118, .dup2, 1), (119, .iaload, 1), (120, .iload_n 3, 1), (121, .iadd, 1), (122, .iastore, 1), (123, .iconst 1, 1), (124, .ireturn, 1)]
def mi_188 : AMI := (8, yX8_isGround, cX8_isGround, 5, (some .boolean), [], mc_188, 0, 2)
def mc_189 : List (Nat × Instr × Nat) := [(0, .iload_n 3, 1), (1, .aload_n 0, 1), (2, .getfield 38, 3), (5, .iload_n 1, 1), (6, .iaload, 1), (7, .if_icmp .gt 16, 3), (10, .aload_n 0, 1), (11, .getfield 68, 3), (14, .iconst 4, 1), (15, .iload_n 2, 1), (16, .imul, 1), (17, .iload_n 3, 1), (18, .iadd, 1), (19, .iaload, 1), (20, .goto 44, 3), (23, .iload_n 3, 1), (24, .aload_n 0, 1), (25, .getfield 38, 3), (28, .iload_n 1, 1), (29, .iaload, 1), (30, .iconst 1, 1), (31, .iadd, 1), (32, .if_icmp .ne 31, 3), (35, .aload_n 0, 1), (36, .getfield 68, 3), (39, .bipush 30, 2), (41, .iload_n 1, 1), (42, .iadd, 1), (43, .iaload, 1), (44, .iconst 1, 1), (45, .if_icmp .ne 18, 3), (48, .aload_n 0, 1), (49, .getfield 68, 3), (52, .iconst 4, 1), (53, .iload_n 2, 1), (54, .imul, 1), (55, .iload_n 3, 1), (56, .iadd, 1), (57, .iaload, 1), (58, .iconst 2, 1), (59, .idiv, 1), (60, .goto 4, 3), (63, .iconst 0, 1), (64, .ireturn, 1)]
def mi_189 : AMI := (8, yX8_fallenOf, cX8_fallenOf, 4, (some .int), [], mc_189, 0, 3)
def mc_190 : List (Nat × Instr × Nat) := [(0, .iconst 0, 1), (1, .istore_n 3, 1), (2, .iconst 0, 1), (3, .istore 4, 2), (5, .iload 4, 2), (7, .iconst 4, 1), (8, .if_icmp .ge 20, 3), (11, .iload_n 3, 1), (12, .aload_n 0, 1), (13, .iload_n 1, 1), (14, .iload_n 2, 1), (15, .iload 4, 2), (17, .invokevirtual 363, 3), (20, .iadd, 1), (21, .istore_n 3, 1), (22, .iinc 4 1, 3), (25, .goto (-20), 3), (28, .iload_n 3, 1), (29, .ireturn, 1)]
def mi_190 : AMI := (8, yX8_fallenAll, cX8_fallenAll, 5, (some .int), [], mc_190, 0, 2)
def mc_191 : List (Nat × Instr × Nat) := [(0, .aload_n 0, 1), (1, .getfield 68, 3), (4, .bipush 24, 2), (6, .iload_n 1, 1), (7, .iadd, 1), (8, .iload_n 2, 1), (9, .aload_n 0, 1), (10, .getfield 68, 3), (13, .bipush 24, 2), (15, .iload_n 1, 1), (16, .iadd, 1), (17, .iaload, 1), (18, .if_icmp .le 7, 3), (21, .iload_n 2, 1), (22, .goto 12, 3), (25, .aload_n 0, 1), (26, .getfield 68, 3), (29, .bipush 24, 2), (31, .iload_n 1, 1), (32, .iadd, 1), (33, .iaload, 1), (34, .iastore, 1), (35, .return_, 1)]
def mi_191 : AMI := (8, yX8_ages, cX8_ages, 3, none, [], mc_191, 0, 2)
def mc_192 : List (Nat × Instr × Nat) := [(0, .iconst 0, 1), (1, .istore_n 2, 1), (2, .iload_n 2, 1), (3, .iconst 4, 1), (4, .if_icmp .ge 20, 3), (7, .aload_n 0, 1), (8, .getfield 68, 3), (11, .iconst 4, 1), (12, .iload_n 1, 1), (13, .imul, 1), (14, .iload_n 2, 1), (15, .iadd, 1), (16, .iconst 0, 1), (17, .iastore, 1), (18, .iinc 2 1, 3), (21, .goto (-19), 3), (24, .aload_n 0, 1), (25, .getfield 68, 3), (28, .bipush 24, 2), (30, .iload_n 1, 1), (31, .iadd, 1), (32, .iconst 0, 1), (33, .iastore, 1), (34, .return_, 1)]
def mi_192 : AMI := (8, yX8_empties, cX8_empties, 3, none, [], mc_192, 0, 1)
def mc_193_0 : List (Nat × Instr × Nat) := [(0, .aload_n 0, 1), (1, .iload_n 2, 1), (2, .invokevirtual 343, 3), (5, .ifCond .eq 20, 3), (8, .iload_n 2, 1), (9, .iload_n 3, 1), (10, .if_icmp .eq 15, 3), (13, .iload_n 2, 1), (14, .iload 4, 2), (16, .if_icmp .eq 9, 3), (19, .iload_n 3, 1), (20, .iload 4, 2), (22, .if_icmp .ne 5, 3), (25, .iconst 0, 1), (26, .ireturn, 1), (27, .aload_n 0, 1), (28, .iload_n 1, 1), (29, .iload_n 2, 1), (30, .invokevirtual 366, 3), (33, .istore 5, 2), (35, .aload_n 0, 1), (36, .iload_n 3, 1), (37, .invokevirtual 343, 3), (40, .iload 5, 2), (42, .iadd, 1), (43, .sipush 9999, 3), (46, .if_icmp .gt 24, 3), (49, .aload_n 0, 1), (50, .iload 4, 2), (52, .invokevirtual 343, 3), (55, .aload_n 0, 1), (56, .iload_n 2, 1), (57, .invokevirtual 343, 3), (60, .iadd, 1), (61, .iload 5, 2), (63, .isub, 1), (64, .sipush 9999, 3), (67, .if_icmp .le 5, 3), (70, .iconst 0, 1), (71, .ireturn, 1), (72, .iconst 0, 1), (73, .istore 6, 2), (75, .iload 6, 2), (77, .iconst 4, 1), (78, .if_icmp .ge 64, 3), (81, .aload_n 0, 1), (82, .iload_n 1, 1), (83, .iload_n 2, 1), (84, .iload 6, 2), (86, .invokevirtual 363, 3), (89, .istore 7, 2), (91, .aload_n 0, 1), (92, .getfield 68, 3), (95, .iconst 4, 1), (96, .iload_n 3, 1), (97, .imul, 1), (98, .iload 6, 2), (100, .iadd, 1), (101, .dup2, 1), (102, .iaload, 1), (103, .iload 7, 2), (105, .iadd, 1), (106, .iastore, 1), (107, .aload_n 0, 1), (108, .getfield 68, 3), (111, .iconst 4, 1), (112, .iload 4, 2), (114, .imul, 1), (115, .iload 6, 2), (117, .iadd, 1), (118, .dup2, 1), (119, .iaload, 1), (120, .aload_n 0, 1), (121, .getfield 68, 3), (124, .iconst 4, 1), (125, .iload_n 2, 1), (126, .imul, 1), (127, .iload 6, 2), (129, .iadd, 1), (130, .iaload, 1), (131, .iload 7, 2), (133, .isub, 1), (134, .iadd, 1), (135, .iastore, 1), (136, .iinc 6 1, 3), (139, .goto (-64), 3), (142, .iload 5, 2), (144, .ifCond .le 17, 3), (147, .aload_n 0, 1), (148, .iload_n 3, 1), (149, .aload_n 0, 1), (150, .getfield 68, 3), (153, .bipush 24, 2), (155, .iload_n 2, 1), (156, .iadd, 1), (157, .iaload, 1), (158, .invokevirtual 369, 3), (161, .iload 5, 2), (163, .aload_n 0, 1), (164, .iload_n 2, 1)]
def mc_193_1 : List (Nat × Instr × Nat) := [(165, .invokevirtual 343, 3), (168, .if_icmp .ge 18, 3), (171, .aload_n 0, 1), (172, .iload 4, 2), (174, .aload_n 0, 1), (175, .getfield 68, 3), (178, .bipush 24, 2), (180, .iload_n 2, 1), (181, .iadd, 1), (182, .iaload, 1), (183, .invokevirtual 369, 3), (186, .aload_n 0, 1), (187, .iload_n 2, 1), (188, .invokevirtual 372, 3), (191, .iconst 1, 1), (192, .ireturn, 1)]
def mc_193 : List (Nat × Instr × Nat) := mc_193_0 ++ (mc_193_1)
def mi_193 : AMI := (8, yX8_isSifted, cX8_isSifted, 8, (some .boolean), [], mc_193, 0, 4)
def mc_194 : List (Nat × Instr × Nat) := [(0, .iload_n 3, 1), (1, .ifCond .eq 30, 3), (4, .aload_n 0, 1), (5, .iload_n 1, 1), (6, .invokevirtual 343, 3), (9, .iload_n 3, 1), (10, .if_icmp .lt 21, 3), (13, .iload_n 1, 1), (14, .iload_n 2, 1), (15, .if_icmp .eq 16, 3), (18, .aload_n 0, 1), (19, .iload_n 2, 1), (20, .invokevirtual 343, 3), (23, .iload_n 3, 1), (24, .iadd, 1), (25, .sipush 9999, 3), (28, .if_icmp .le 5, 3), (31, .iconst 0, 1), (32, .ireturn, 1), (33, .iload_n 3, 1), (34, .istore 4, 2), (36, .iconst 0, 1), (37, .istore 5, 2), (39, .iload 5, 2), (41, .iconst 4, 1), (42, .if_icmp .ge 82, 3), (45, .aload_n 0, 1), (46, .getfield 68, 3), (49, .iconst 4, 1), (50, .iload_n 1, 1), (51, .imul, 1), (52, .iload 5, 2), (54, .iadd, 1), (55, .iaload, 1), (56, .iload 4, 2), (58, .if_icmp .ge 17, 3), (61, .aload_n 0, 1), (62, .getfield 68, 3), (65, .iconst 4, 1), (66, .iload_n 1, 1), (67, .imul, 1), (68, .iload 5, 2), (70, .iadd, 1), (71, .iaload, 1), (72, .goto 5, 3), (75, .iload 4, 2), (77, .istore 6, 2), (79, .aload_n 0, 1), (80, .getfield 68, 3), (83, .iconst 4, 1), (84, .iload_n 1, 1), (85, .imul, 1), (86, .iload 5, 2), (88, .iadd, 1), (89, .dup2, 1), (90, .iaload, 1), (91, .iload 6, 2), (93, .isub, 1), (94, .iastore, 1), (95, .aload_n 0, 1), (96, .getfield 68, 3), (99, .iconst 4, 1), (100, .iload_n 2, 1), (101, .imul, 1), (102, .iload 5, 2), (104, .iadd, 1), (105, .dup2, 1), (106, .iaload, 1), (107, .iload 6, 2), (109, .iadd, 1), (110, .iastore, 1), (111, .iload 4, 2), (113, .iload 6, 2), (115, .isub, 1), (116, .istore 4, 2), (118, .iinc 5 1, 3), (121, .goto (-82), 3), (124, .aload_n 0, 1), (125, .iload_n 2, 1), (126, .aload_n 0, 1), (127, .getfield 68, 3), (130, .bipush 24, 2), (132, .iload_n 1, 1), (133, .iadd, 1), (134, .iaload, 1), (135, .invokevirtual 369, 3), (138, .aload_n 0, 1), (139, .iload_n 1, 1), (140, .invokevirtual 343, 3), (143, .ifCond .ne 8, 3), (146, .aload_n 0, 1), (147, .iload_n 1, 1), (148, .invokevirtual 372, 3), (151, .iconst 1, 1), (152, .ireturn, 1)]
def mi_194 : AMI := (8, yX8_isScooped, cX8_isScooped, 7, (some .boolean), [], mc_194, 0, 3)
def mc_195 : List (Nat × Instr × Nat) := [(0, .aload_n 0, 1), (1, .getfield 56, 3), (4, .iconst 0, 1), (5, .iload_n 1, 1), (6, .iastore, 1), (7, .aload_n 0, 1), (8, .getfield 56, 3), (11, .iconst 1, 1), (12, .iload_n 2, 1), (13, .iastore, 1), (14, .aload_n 0, 1), (15, .getfield 56, 3), (18, .iconst 2, 1), (19, .iload_n 3, 1), (20, .iastore, 1), (21, .aload_n 0, 1), (22, .getfield 56, 3), (25, .iconst 3, 1), (26, .iload 4, 2), (28, .iastore, 1), (29, .aload_n 0, 1), (30, .getfield 56, 3), (33, .iconst 4, 1), (34, .iload_n 1, 1), (35, .iload_n 2, 1), (36, .iadd, 1), (37, .iload_n 3, 1), (38, .iadd, 1), (39, .iload 4, 2), (41, .iadd, 1), (42, .iastore, 1), (43, .aload_n 0, 1), (44, .getfield 56, 3), (47, .iconst 5, 1), (48, .iload 5, 2), (50, .iastore, 1), (51, .aload_n 0, 1), (52, .getfield 56, 3), (55, .bipush 6, 2), (57, .iload 6, 2), (59, .iastore, 1), (60, .aload_n 0, 1), (61, .getfield 56, 3), (64, .bipush 7, 2), (66, .iload 7, 2), (68, .iastore, 1), (69, .aload_n 0, 1), (70, .invokevirtual 356, 3), (73, .ireturn, 1)]
def mi_195 : AMI := (8, yX8_sneezeOf, cX8_sneezeOf, 8, (some .int), [], mc_195, 0, 7)
def mc_196 : List (Nat × Instr × Nat) := [(0, .aload_n 0, 1), (1, .aload_n 0, 1), (2, .getfield 68, 3), (5, .iconst 4, 1), (6, .iload_n 1, 1), (7, .imul, 1), (8, .iaload, 1), (9, .aload_n 0, 1), (10, .getfield 68, 3), (13, .iconst 4, 1), (14, .iload_n 1, 1), (15, .imul, 1), (16, .iconst 1, 1), (17, .iadd, 1), (18, .iaload, 1), (19, .aload_n 0, 1), (20, .getfield 68, 3), (23, .iconst 4, 1), (24, .iload_n 1, 1), (25, .imul, 1), (26, .iconst 2, 1), (27, .iadd, 1), (28, .iaload, 1), (29, .aload_n 0, 1), (30, .getfield 68, 3), (33, .iconst 4, 1), (34, .iload_n 1, 1), (35, .imul, 1), (36, .iconst 3, 1), (37, .iadd, 1), (38, .iaload, 1), (39, .aload_n 0, 1), (40, .getfield 68, 3), (43, .bipush 24, 2), (45, .iload_n 1, 1), (46, .iadd, 1), (47, .iaload, 1), (48, .aload_n 0, 1), (49, .getfield 68, 3), (52, .bipush 34, 2), (54, .iaload, 1), (55, .iload_n 1, 1), (56, .invokevirtual 359, 3), (59, .ireturn, 1)]
def mi_196 : AMI := (8, yX8_sneezeBy, cX8_sneezeBy, 2, (some .int), [], mc_196, 0, 1)
def mc_197 : List (Nat × Instr × Nat) := [(0, .aload_n 0, 1), (1, .iload_n 1, 1), (2, .invokevirtual 343, 3), (5, .ifCond .le 17, 3), (8, .aload_n 0, 1), (9, .iload_n 1, 1), (10, .invokevirtual 375, 3), (13, .bipush 50, 2), (15, .if_icmp .lt 7, 3), (18, .iconst 1, 1), (19, .goto 4, 3), (22, .iconst 0, 1), (23, .ireturn, 1)]
def mi_197 : AMI := (8, yX8_isRipe, cX8_isRipe, 2, (some .boolean), [], mc_197, 0, 1)
def mc_198 : List (Nat × Instr × Nat) := [(0, .aload_n 0, 1), (1, .iload_n 1, 1), (2, .invokevirtual 378, 3), (5, .ifCond .ne 5, 3), (8, .iconst 0, 1), (9, .ireturn, 1), (10, .aload_n 0, 1), (11, .getfield 68, 3), (14, .bipush 36, 2), (16, .dup2, 1), (17, .iaload, 1), (18, .aload_n 0, 1), (19, .iload_n 1, 1), (20, .invokevirtual 343, 3), (23, .bipush 10, 2), (25, .idiv, 1), (26, .iadd, 1), (27, .iastore, 1), (28, .aload_n 0, 1), (29, .iload_n 1, 1), (30, .invokevirtual 372, 3), (33, .iconst 1, 1), (34, .ireturn, 1)]
def mi_198 : AMI := (8, yX8_isSold, cX8_isSold, 2, (some .boolean), [], mc_198, 0, 1)
def mc_199 : List (Nat × Instr × Nat) := [(0, .iconst 0, 1), (1, .istore_n 1, 1), (2, .iload_n 1, 1), (3, .aload_n 0, 1), (4, .getfield 157, 3), (7, .if_icmp .ge 34, 3), (10, .aload_n 0, 1), (11, .getfield 68, 3), (14, .bipush 24, 2), (16, .iload_n 1, 1), (17, .iadd, 1), (18, .dup2, 1), (19, .iaload, 1), (20, .aload_n 0, 1), (21, .iload_n 1, 1), (22, .invokevirtual 343, 3), (25, .ifCond .le 7, 3), (28, .iconst 1, 1), (29, .goto 4, 3), (32, .iconst 0, 1), (33, .iadd, 1), (34, .iastore, 1), (35, .iinc 1 1, 3), (38, .goto (-36), 3), (41, .aload_n 0, 1), (42, .getfield 68, 3), (45, .bipush 34, 2), (47, .dup2, 1), (48, .iaload, 1), (49, .iconst 1, 1), (50, .iadd, 1), (51, .iastore, 1), (52, .return_, 1)]
def mi_199 : AMI := (8, yX8_dayGoes, cX8_dayGoes, 2, none, [], mc_199, 0, 0)
def mc_200_0 : List (Nat × Instr × Nat) := [(0, .aload_n 0, 1), (1, .getfield 62, 3), (4, .iload_n 1, 1), (5, .iaload, 1), (6, .istore_n 2, 1), (7, .aload_n 0, 1), (8, .getfield 62, 3), (11, .iload_n 1, 1), (12, .iconst 1, 1), (13, .iadd, 1), (14, .iaload, 1), (15, .istore_n 3, 1), (16, .aload_n 0, 1), (17, .getfield 62, 3), (20, .iload_n 1, 1), (21, .iconst 2, 1), (22, .iadd, 1), (23, .iaload, 1), (24, .istore 4, 2), (26, .aload_n 0, 1), (27, .getfield 62, 3), (30, .iload_n 1, 1), (31, .iconst 3, 1), (32, .iadd, 1), (33, .iaload, 1), (34, .istore 5, 2), (36, .iload_n 2, 1), (37, .ifCond .ne 11, 3), (40, .aload_n 0, 1), (41, .iload_n 3, 1), (42, .iload 4, 2), (44, .invokevirtual 335, 3), (47, .ireturn, 1), (48, .iload_n 2, 1), (49, .iconst 1, 1), (50, .if_icmp .ne 21, 3), (53, .aload_n 0, 1), (54, .iload_n 3, 1), (55, .iload 4, 2), (57, .iload 5, 2), (59, .aload_n 0, 1), (60, .getfield 62, 3), (63, .iload_n 1, 1), (64, .iconst 4, 1), (65, .iadd, 1), (66, .iaload, 1), (67, .invokevirtual 339, 3), (70, .ireturn, 1), (71, .iload_n 2, 1), (72, .iconst 2, 1), (73, .if_icmp .ne 16, 3), (76, .aload_n 0, 1), (77, .iload_n 3, 1), (78, .iload 4, 2), (80, .aload_n 0, 1), (81, .iload_n 3, 1), (82, .invokevirtual 343, 3), (85, .invokevirtual 346, 3), (88, .ireturn, 1), (89, .iload_n 2, 1), (90, .iconst 3, 1), (91, .if_icmp .ne 13, 3), (94, .aload_n 0, 1), (95, .iload_n 3, 1), (96, .iload 4, 2), (98, .iload 5, 2), (100, .invokevirtual 346, 3), (103, .ireturn, 1), (104, .iload_n 2, 1), (105, .iconst 5, 1), (106, .if_icmp .ne 9, 3), (109, .aload_n 0, 1), (110, .iload_n 3, 1), (111, .invokevirtual 350, 3), (114, .ireturn, 1), (115, .iload_n 2, 1), (116, .bipush 6, 2), (118, .if_icmp .ne 18, 3), (121, .aload_n 0, 1), (122, .getfield 68, 3), (125, .bipush 34, 2), (127, .iaload, 1), (128, .sipush 400, 3), (131, .if_icmp .lt 5, 3), (134, .iconst 0, 1), (135, .ireturn, 1), (136, .iload_n 2, 1), (137, .iconst 4, 1), (138, .if_icmp .ne 26, 3), (141, .aload_n 0, 1), (142, .getfield 68, 3), (145, .bipush 30, 2), (147, .iload_n 3, 1), (148, .iadd, 1), (149, .iconst 1, 1), (150, .aload_n 0, 1), (151, .getfield 68, 3), (154, .bipush 30, 2), (156, .iload_n 3, 1), (157, .iadd, 1)]
def mc_200_1 : List (Nat × Instr × Nat) := [(158, .iaload, 1), (159, .isub, 1), (160, .iastore, 1), (161, .goto 7, 3), (164, .aload_n 0, 1), (165, .invokevirtual 353, 3), (168, .iconst 1, 1), (169, .ireturn, 1)]
def mc_200 : List (Nat × Instr × Nat) := mc_200_0 ++ (mc_200_1)
def mi_200 : AMI := (8, yX8_isDone, cX8_isDone, 6, (some .boolean), [], mc_200, 0, 1)
def mc_201 : List (Nat × Instr × Nat) := [(0, .iload_n 1, 1), (1, .istore_n 3, 1), (2, .iload_n 3, 1), (3, .iload_n 2, 1), (4, .if_icmp .ge 128, 3), (7, .aload_n 0, 1), (8, .getfield 320, 3), (11, .sipush 200, 3), (14, .if_icmp .ge 118, 3), (17, .aload_n 0, 1), (18, .dup, 1), (19, .getfield 320, 3), (22, .iconst 1, 1), (23, .iadd, 1), (24, .putfield 320, 3), (27, .aload_n 0, 1), (28, .getfield 62, 3), (31, .iload_n 3, 1), (32, .iaload, 1), (33, .bipush 7, 2), (35, .if_icmp .ne 60, 3), (38, .aload_n 0, 1), (39, .getfield 62, 3), (42, .iload_n 3, 1), (43, .iconst 2, 1), (44, .iadd, 1), (45, .iaload, 1), (46, .istore 4, 2), (48, .iconst 0, 1), (49, .istore 5, 2), (51, .iload 5, 2), (53, .aload_n 0, 1), (54, .getfield 62, 3), (57, .iload_n 3, 1), (58, .iconst 1, 1), (59, .iadd, 1), (60, .iaload, 1), (61, .if_icmp .ge 28, 3), (64, .aload_n 0, 1), (65, .getfield 320, 3), (68, .sipush 200, 3), (71, .if_icmp .ge 18, 3), (74, .aload_n 0, 1), (75, .iload_n 3, 1), (76, .iconst 5, 1), (77, .iadd, 1), (78, .iload 4, 2), (80, .invokevirtual 329, 3), (83, .iinc 5 1, 3), (86, .goto (-35), 3), (89, .iload 4, 2), (91, .istore_n 3, 1), (92, .goto (-90), 3), (95, .aload_n 0, 1), (96, .iload_n 3, 1), (97, .invokevirtual 332, 3), (100, .ifCond .eq 16, 3), (103, .aload_n 0, 1), (104, .dup, 1), (105, .getfield 323, 3), (108, .iconst 1, 1), (109, .iadd, 1), (110, .putfield 323, 3), (113, .goto 13, 3), (116, .aload_n 0, 1), (117, .dup, 1), (118, .getfield 326, 3), (121, .iconst 1, 1), (122, .iadd, 1), (123, .putfield 326, 3), (126, .iinc 3 5, 3), (129, .goto (-127), 3), (132, .return_, 1)]
def mi_201 : AMI := (8, yX8_goesSteps, cX8_goesSteps, 6, none, [], mc_201, 0, 2)
def mc_202_0 : List (Nat × Instr × Nat) := [(0, .aload_n 0, 1), (1, .iconst 0, 1), (2, .putfield 3, 3), (5, .aload_n 0, 1), (6, .iload_n 1, 1), (7, .ifCond .lt 22, 3), (10, .iload_n 1, 1), (11, .aload_n 0, 1), (12, .getfield 99, 3), (15, .if_icmp .gt 14, 3), (18, .iload_n 1, 1), (19, .sipush 150, 3), (22, .if_icmp .gt 7, 3), (25, .iconst 1, 1), (26, .goto 4, 3), (29, .iconst 0, 1), (30, .iconst 1, 1), (31, .iconst 1, 1), (32, .invokevirtual 203, 3), (35, .ifCond .ne 5, 3), (38, .iconst 0, 1), (39, .ireturn, 1), (40, .aload_n 0, 1), (41, .iload_n 1, 1), (42, .invokevirtual 207, 3), (45, .aload_n 0, 1), (46, .getfield 182, 3), (49, .bipush 16, 2), (51, .if_icmp .ne 12, 3), (54, .aload_n 0, 1), (55, .iconst 0, 1), (56, .invokevirtual 232, 3), (59, .pop, 1), (60, .bipush (-20), 2), (62, .ireturn, 1), (63, .aload_n 0, 1), (64, .iconst 0, 1), (65, .putfield 284, 3), (68, .aload_n 0, 1), (69, .invokevirtual 131, 3), (72, .ifCond .eq 17, 3), (75, .aload_n 0, 1), (76, .invokevirtual 211, 3), (79, .ifCond .eq 10, 3), (82, .aload_n 0, 1), (83, .invokevirtual 305, 3), (86, .goto (-18), 3), (89, .aload_n 0, 1), (90, .iconst 0, 1), (91, .invokevirtual 232, 3), (94, .istore_n 2, 1), (95, .aload_n 0, 1), (96, .getfield 102, 3), (99, .iconst (-1), 1), (100, .if_icmp .eq 5, 3), (103, .iload_n 2, 1), (104, .ireturn, 1), (105, .aload_n 0, 1), (106, .aload_n 0, 1), (107, .getfield 59, 3), (110, .aload_n 0, 1), (111, .getfield 62, 3), (114, .aload_n 0, 1), (115, .getfield 284, 3), (118, .invokevirtual 169, 3), (121, .iconst 0, 1), (122, .istore_n 3, 1), (123, .iload_n 3, 1), (124, .bipush 37, 2), (126, .if_icmp .ge 29, 3), (129, .aload_n 0, 1), (130, .getfield 71, 3), (133, .bipush 37, 2), (135, .aload_n 0, 1), (136, .getfield 182, 3), (139, .imul, 1), (140, .iload_n 3, 1), (141, .iadd, 1), (142, .aload_n 0, 1), (143, .getfield 65, 3), (146, .iload_n 3, 1), (147, .iaload, 1), (148, .iastore, 1), (149, .iinc 3 1, 3), (152, .goto (-29), 3), (155, .aload_n 0, 1), (156, .dup, 1), (157, .getfield 182, 3), (160, .iconst 1, 1), (161, .iadd, 1), (162, .putfield 182, 3), (165, .aload_n 0, 1), (166, .invokevirtual 317, 3), (169, .aload_n 0, 1), (170, .iconst 0, 1), (171, .putfield 320, 3), (174, .aload_n 0, 1), (175, .iconst 0, 1), (176, .putfield 323, 3), (179, .aload_n 0, 1)]
def mc_202_1 : List (Nat × Instr × Nat) := [(180, .iconst 0, 1), (181, .putfield 326, 3), (184, .aload_n 0, 1), (185, .iconst 0, 1), (186, .aload_n 0, 1), (187, .getfield 284, 3), (190, .invokevirtual 329, 3), (193, .aload_n 0, 1), (194, .aload_n 0, 1), (195, .getfield 68, 3), (198, .aload_n 0, 1), (199, .getfield 65, 3), (202, .bipush 37, 2), (204, .invokevirtual 169, 3), (207, .aload_n 0, 1), (208, .aload_n 0, 1), (209, .getfield 326, 3), (212, .putfield 188, 3), (215, .aload_n 0, 1), (216, .getfield 323, 3), (219, .ireturn, 1)]
def mc_202 : List (Nat × Instr × Nat) := mc_202_0 ++ (mc_202_1)
def mi_202 : AMI := (8, yX8_work, cX8_work, 4, (some .int), [], mc_202, 0, 1)
def mc_203 : List (Nat × Instr × Nat) := [(0, .iconst 0, 1), (1, .istore_n 1, 1), (2, .iconst 0, 1), (3, .istore_n 2, 1), (4, .iload_n 2, 1), (5, .aload_n 0, 1), (6, .getfield 157, 3), (9, .if_icmp .ge 17, 3), (12, .iload_n 1, 1), (13, .aload_n 0, 1), (14, .iload_n 2, 1), (15, .invokevirtual 343, 3), (18, .iadd, 1), (19, .istore_n 1, 1), (20, .iinc 2 1, 3), (23, .goto (-19), 3), (26, .iload_n 1, 1), (27, .ireturn, 1)]
def mi_203 : AMI := (8, yX8_gramsAll, cX8_gramsAll, 3, (some .int), [], mc_203, 0, 0)
def mc_204 : List (Nat × Instr × Nat) := [(0, .aload_n 0, 1), (1, .iload_n 1, 1), (2, .invokevirtual 343, 3), (5, .ifCond .ne 7, 3), (8, .iconst 0, 1), (9, .goto 21, 3), (12, .sipush 1000, 3), (15, .aload_n 0, 1), (16, .getfield 68, 3), (19, .iconst 4, 1), (20, .iload_n 1, 1), (21, .imul, 1), (22, .iaload, 1), (23, .imul, 1), (24, .aload_n 0, 1), (25, .iload_n 1, 1), (26, .invokevirtual 343, 3), (29, .idiv, 1), (30, .ireturn, 1)]
def mi_204 : AMI := (8, yX8_fineOf, cX8_fineOf, 2, (some .int), [], mc_204, 0, 1)
def mc_205 : List (Nat × Instr × Nat) := [(0, .aload_n 0, 1), (1, .iload_n 1, 1), (2, .ifCond .lt 21, 3), (5, .iload_n 1, 1), (6, .aload_n 0, 1), (7, .getfield 99, 3), (10, .if_icmp .gt 13, 3), (13, .iload_n 1, 1), (14, .bipush 60, 2), (16, .if_icmp .gt 7, 3), (19, .iconst 1, 1), (20, .goto 4, 3), (23, .iconst 0, 1), (24, .iconst 1, 1), (25, .iconst 1, 1), (26, .invokevirtual 203, 3), (29, .ireturn, 1)]
def mi_205 : AMI := (8, yX8_maySmall, cX8_maySmall, 2, (some .boolean), [], mc_205, 0, 1)
def mc_206 : List (Nat × Instr × Nat) := [(0, .aload_n 0, 1), (1, .iconst 0, 1), (2, .putfield 3, 3), (5, .aload_n 0, 1), (6, .iload_n 1, 1), (7, .invokevirtual 381, 3), (10, .ifCond .ne 5, 3), (13, .iconst 0, 1), (14, .ireturn, 1), (15, .aload_n 0, 1), (16, .iload_n 1, 1), (17, .invokevirtual 207, 3), (20, .iconst 0, 1), (21, .istore_n 2, 1), (22, .aload_n 0, 1), (23, .invokevirtual 131, 3), (26, .ifCond .eq 77, 3), (29, .aload_n 0, 1), (30, .invokevirtual 211, 3), (33, .ifCond .eq 70, 3), (36, .aload_n 0, 1), (37, .getfield 108, 3), (40, .istore_n 3, 1), (41, .aload_n 0, 1), (42, .iconst 0, 1), (43, .aload_n 0, 1), (44, .getfield 163, 3), (47, .iconst 1, 1), (48, .isub, 1), (49, .invokevirtual 199, 3), (52, .istore 4, 2), (54, .aload_n 0, 1), (55, .invokevirtual 131, 3), (58, .ifCond .eq 15, 3), (61, .iload_n 2, 1), (62, .bipush 8, 2), (64, .if_icmp .ne 9, 3), (67, .aload_n 0, 1), (68, .iconst 3, 1), (69, .iload_n 3, 1), (70, .invokevirtual 138, 3), (73, .aload_n 0, 1), (74, .bipush 59, 2), (76, .invokevirtual 229, 3), (79, .aload_n 0, 1), (80, .invokevirtual 131, 3), (83, .ifCond .ne 6, 3), (86, .goto 17, 3), (89, .aload_n 0, 1), (90, .getfield 74, 3), (93, .iload_n 2, 1), (94, .iload 4, 2), (96, .iastore, 1), (97, .iinc 2 1, 3), (100, .goto (-78), 3), (103, .aload_n 0, 1), (104, .iload_n 2, 1), (105, .invokevirtual 232, 3), (108, .istore_n 3, 1), (109, .aload_n 0, 1), (110, .getfield 102, 3), (113, .iconst (-1), 1), (114, .if_icmp .eq 5, 3), (117, .iload_n 3, 1), (118, .ireturn, 1), (119, .aload_n 0, 1), (120, .iload_n 2, 1), (121, .putfield 176, 3), (124, .aload_n 0, 1), (125, .aload_n 0, 1), (126, .getfield 74, 3), (129, .aload_n 0, 1), (130, .getfield 77, 3), (133, .bipush 8, 2), (135, .invokevirtual 169, 3), (138, .iload_n 3, 1), (139, .ireturn, 1)]
def mi_206 : AMI := (8, yX8_stack, cX8_stack, 5, (some .int), [], mc_206, 0, 1)
def mc_207 : List (Nat × Instr × Nat) := [(0, .aload_n 0, 1), (1, .iconst 0, 1), (2, .putfield 3, 3), (5, .aload_n 0, 1), (6, .iload_n 1, 1), (7, .invokevirtual 381, 3), (10, .ifCond .ne 5, 3), (13, .iconst 0, 1), (14, .ireturn, 1), (15, .aload_n 0, 1), (16, .iload_n 1, 1), (17, .invokevirtual 207, 3), (20, .iconst 0, 1), (21, .istore_n 2, 1), (22, .iload_n 2, 1), (23, .iconst 4, 1), (24, .if_icmp .ge 16, 3), (27, .aload_n 0, 1), (28, .getfield 80, 3), (31, .iload_n 2, 1), (32, .iconst (-1), 1), (33, .iastore, 1), (34, .iinc 2 1, 3), (37, .goto (-15), 3), (40, .iconst 0, 1), (41, .istore_n 2, 1), (42, .aload_n 0, 1), (43, .invokevirtual 131, 3), (46, .ifCond .eq 88, 3), (49, .aload_n 0, 1), (50, .invokevirtual 211, 3), (53, .ifCond .eq 81, 3), (56, .aload_n 0, 1), (57, .getfield 108, 3), (60, .istore_n 3, 1), (61, .aload_n 0, 1), (62, .iconst 0, 1), (63, .iconst 3, 1), (64, .invokevirtual 199, 3), (67, .istore 4, 2), (69, .aload_n 0, 1), (70, .invokevirtual 131, 3), (73, .ifCond .eq 20, 3), (76, .aload_n 0, 1), (77, .getfield 80, 3), (80, .iload 4, 2), (82, .iaload, 1), (83, .iconst (-1), 1), (84, .if_icmp .eq 9, 3), (87, .aload_n 0, 1), (88, .iconst 2, 1), (89, .iload_n 3, 1), (90, .invokevirtual 138, 3), (93, .aload_n 0, 1), (94, .iconst 0, 1), (95, .sipush 9999, 3), (98, .invokevirtual 199, 3), (101, .istore 5, 2), (103, .aload_n 0, 1), (104, .bipush 59, 2), (106, .invokevirtual 229, 3), (109, .aload_n 0, 1), (110, .invokevirtual 131, 3), (113, .ifCond .ne 6, 3), (116, .goto 18, 3), (119, .aload_n 0, 1), (120, .getfield 80, 3), (123, .iload 4, 2), (125, .iload 5, 2), (127, .iastore, 1), (128, .iinc 2 1, 3), (131, .goto (-89), 3), (134, .aload_n 0, 1), (135, .iload_n 2, 1), (136, .invokevirtual 232, 3), (139, .istore_n 3, 1), (140, .aload_n 0, 1), (141, .getfield 102, 3), (144, .iconst (-1), 1), (145, .if_icmp .eq 5, 3), (148, .iload_n 3, 1), (149, .ireturn, 1), (150, .aload_n 0, 1), (151, .iload_n 2, 1), (152, .putfield 179, 3), (155, .aload_n 0, 1), (156, .aload_n 0, 1), (157, .getfield 80, 3), (160, .aload_n 0, 1), (161, .getfield 83, 3), (164, .iconst 4, 1), (165, .invokevirtual 169, 3), (168, .iload_n 3, 1), (169, .ireturn, 1)]
def mi_207 : AMI := (8, yX8_book, cX8_book, 6, (some .int), [], mc_207, 0, 1)
def mc_208 : List (Nat × Instr × Nat) := [(0, .aload_n 0, 1), (1, .iconst 0, 1), (2, .putfield 3, 3), (5, .aload_n 0, 1), (6, .getfield 182, 3), (9, .ifCond .ne 5, 3), (12, .iconst (-1), 1), (13, .ireturn, 1), (14, .aload_n 0, 1), (15, .dup, 1), (16, .getfield 182, 3), (19, .iconst 1, 1), (20, .isub, 1), (21, .putfield 182, 3), (24, .iconst 0, 1), (25, .istore_n 1, 1), (26, .iload_n 1, 1), (27, .bipush 37, 2), (29, .if_icmp .ge 29, 3), (32, .aload_n 0, 1), (33, .getfield 65, 3), (36, .iload_n 1, 1), (37, .aload_n 0, 1), (38, .getfield 71, 3), (41, .bipush 37, 2), (43, .aload_n 0, 1), (44, .getfield 182, 3), (47, .imul, 1), (48, .iload_n 1, 1), (49, .iadd, 1), (50, .iaload, 1), (51, .iastore, 1), (52, .iinc 1 1, 3), (55, .goto (-29), 3), (58, .aload_n 0, 1), (59, .iconst 0, 1), (60, .putfield 188, 3), (63, .aload_n 0, 1), (64, .getfield 182, 3), (67, .ireturn, 1)]
def mi_208 : AMI := (8, yX8_undo, cX8_undo, 2, (some .int), [], mc_208, 0, 0)
def mc_209 : List (Nat × Instr × Nat) := [(0, .iconst 0, 1), (1, .istore_n 1, 1), (2, .iconst 0, 1), (3, .istore_n 2, 1), (4, .iload_n 2, 1), (5, .aload_n 0, 1), (6, .getfield 157, 3), (9, .if_icmp .ge 27, 3), (12, .iload_n 1, 1), (13, .aload_n 0, 1), (14, .iload_n 2, 1), (15, .invokevirtual 343, 3), (18, .ifCond .ne 9, 3), (21, .iconst 1, 1), (22, .iload_n 2, 1), (23, .ishl, 1), (24, .goto 4, 3), (27, .iconst 0, 1), (28, .ior, 1), (29, .istore_n 1, 1), (30, .iinc 2 1, 3), (33, .goto (-29), 3), (36, .iload_n 1, 1), (37, .ireturn, 1)]
def mi_209 : AMI := (8, yX8_emptyBits, cX8_emptyBits, 3, (some .int), [], mc_209, 0, 0)
def mc_210 : List (Nat × Instr × Nat) := [(0, .iconst 0, 1), (1, .istore_n 1, 1), (2, .iconst 0, 1), (3, .istore_n 2, 1), (4, .iload_n 2, 1), (5, .aload_n 0, 1), (6, .getfield 163, 3), (9, .if_icmp .ge 23, 3), (12, .iload_n 1, 1), (13, .aload_n 0, 1), (14, .getfield 68, 3), (17, .bipush 30, 2), (19, .iload_n 2, 1), (20, .iadd, 1), (21, .iaload, 1), (22, .iload_n 2, 1), (23, .ishl, 1), (24, .ior, 1), (25, .istore_n 1, 1), (26, .iinc 2 1, 3), (29, .goto (-25), 3), (32, .iload_n 1, 1), (33, .ireturn, 1)]
def mi_210 : AMI := (8, yX8_tornBits, cX8_tornBits, 3, (some .int), [], mc_210, 0, 0)
def mc_211 : List (Nat × Instr × Nat) := [(0, .aload_n 0, 1), (1, .iconst 0, 1), (2, .putfield 3, 3), (5, .aload_n 0, 1), (6, .iload_n 1, 1), (7, .iconst 0, 1), (8, .bipush 12, 2), (10, .invokestatic 384, 3), (13, .iconst 1, 1), (14, .iconst 1, 1), (15, .invokevirtual 203, 3), (18, .ifCond .ne 5, 3), (21, .iconst 0, 1), (22, .ireturn, 1), (23, .aload_n 0, 1), (24, .invokevirtual 317, 3), (27, .iload_n 1, 1), (28, .iconst 4, 1), (29, .if_icmp .ge 43, 3), (32, .iload_n 1, 1), (33, .ifCond .ne 10, 3), (36, .aload_n 0, 1), (37, .getfield 157, 3), (40, .goto 31, 3), (43, .iload_n 1, 1), (44, .iconst 1, 1), (45, .if_icmp .ne 10, 3), (48, .aload_n 0, 1), (49, .getfield 160, 3), (52, .goto 19, 3), (55, .iload_n 1, 1), (56, .iconst 2, 1), (57, .if_icmp .ne 10, 3), (60, .aload_n 0, 1), (61, .getfield 163, 3), (64, .goto 7, 3), (67, .aload_n 0, 1), (68, .getfield 166, 3), (71, .ireturn, 1), (72, .iload_n 1, 1), (73, .bipush 8, 2), (75, .if_icmp .ge 44, 3), (78, .iload_n 1, 1), (79, .iconst 5, 1), (80, .if_icmp .ne 10, 3), (83, .aload_n 0, 1), (84, .invokevirtual 387, 3), (87, .goto 31, 3), (90, .aload_n 0, 1), (91, .getfield 68, 3), (94, .iload_n 1, 1), (95, .iconst 4, 1), (96, .if_icmp .ne 8, 3), (99, .bipush 34, 2), (101, .goto 16, 3), (104, .iload_n 1, 1), (105, .bipush 6, 2), (107, .if_icmp .ne 8, 3), (110, .bipush 35, 2), (112, .goto 5, 3), (115, .bipush 36, 2), (117, .iaload, 1), (118, .ireturn, 1), (119, .iload_n 1, 1), (120, .bipush 10, 2), (122, .if_icmp .ge 21, 3), (125, .iload_n 1, 1), (126, .bipush 8, 2), (128, .if_icmp .ne 10, 3), (131, .aload_n 0, 1), (132, .invokevirtual 390, 3), (135, .goto 7, 3), (138, .aload_n 0, 1), (139, .invokevirtual 393, 3), (142, .ireturn, 1), (143, .iload_n 1, 1), (144, .bipush 10, 2), (146, .if_icmp .ne 10, 3), (149, .aload_n 0, 1), (150, .getfield 188, 3), (153, .goto 20, 3), (156, .iload_n 1, 1), (157, .bipush 11, 2), (159, .if_icmp .ne 10, 3), (162, .aload_n 0, 1), (163, .getfield 176, 3), (166, .goto 7, 3), (169, .aload_n 0, 1), (170, .getfield 179, 3), (173, .ireturn, 1)]
def mi_211 : AMI := (8, yX8_told, cX8_told, 2, (some .int), [], mc_211, 0, 1)
def mc_212 : List (Nat × Instr × Nat) := [(0, .aload_n 0, 1), (1, .iload_n 1, 1), (2, .iconst 0, 1), (3, .iload_n 2, 1), (4, .iconst 1, 1), (5, .isub, 1), (6, .invokestatic 384, 3), (9, .iconst 1, 1), (10, .iconst 0, 1), (11, .invokevirtual 203, 3), (14, .ireturn, 1)]
def mi_212 : AMI := (8, yX8_isThere, cX8_isThere, 3, (some .boolean), [], mc_212, 0, 2)
def mc_213 : List (Nat × Instr × Nat) := [(0, .aload_n 0, 1), (1, .iconst 0, 1), (2, .putfield 3, 3), (5, .aload_n 0, 1), (6, .iload_n 1, 1), (7, .aload_n 0, 1), (8, .getfield 157, 3), (11, .invokevirtual 396, 3), (14, .ifCond .eq 19, 3), (17, .aload_n 0, 1), (18, .iload_n 2, 1), (19, .iconst 0, 1), (20, .bipush 6, 2), (22, .invokestatic 384, 3), (25, .iconst 2, 1), (26, .iconst 1, 1), (27, .invokevirtual 203, 3), (30, .ifCond .ne 5, 3), (33, .iconst 0, 1), (34, .ireturn, 1), (35, .aload_n 0, 1), (36, .invokevirtual 317, 3), (39, .iload_n 2, 1), (40, .iconst 4, 1), (41, .if_icmp .ge 16, 3), (44, .aload_n 0, 1), (45, .getfield 68, 3), (48, .iconst 4, 1), (49, .iload_n 1, 1), (50, .imul, 1), (51, .iload_n 2, 1), (52, .iadd, 1), (53, .iaload, 1), (54, .goto 38, 3), (57, .iload_n 2, 1), (58, .iconst 4, 1), (59, .if_icmp .ne 11, 3), (62, .aload_n 0, 1), (63, .iload_n 1, 1), (64, .invokevirtual 343, 3), (67, .goto 25, 3), (70, .iload_n 2, 1), (71, .iconst 5, 1), (72, .if_icmp .ne 15, 3), (75, .aload_n 0, 1), (76, .getfield 68, 3), (79, .bipush 24, 2), (81, .iload_n 1, 1), (82, .iadd, 1), (83, .iaload, 1), (84, .goto 8, 3), (87, .aload_n 0, 1), (88, .iload_n 1, 1), (89, .invokevirtual 399, 3), (92, .ireturn, 1)]
def mi_213 : AMI := (8, yX8_jar, cX8_jar, 3, (some .int), [], mc_213, 0, 2)
def mc_214 : List (Nat × Instr × Nat) := [(0, .aload_n 0, 1), (1, .iconst 0, 1), (2, .putfield 3, 3), (5, .aload_n 0, 1), (6, .iload_n 1, 1), (7, .aload_n 0, 1), (8, .getfield 160, 3), (11, .invokevirtual 396, 3), (14, .ifCond .eq 18, 3), (17, .aload_n 0, 1), (18, .iload_n 2, 1), (19, .iconst 0, 1), (20, .iconst 2, 1), (21, .invokestatic 384, 3), (24, .iconst 2, 1), (25, .iconst 1, 1), (26, .invokevirtual 203, 3), (29, .ifCond .ne 5, 3), (32, .iconst 0, 1), (33, .ireturn, 1), (34, .aload_n 0, 1), (35, .getfield 35, 3), (38, .iconst 3, 1), (39, .iload_n 1, 1), (40, .imul, 1), (41, .iload_n 2, 1), (42, .iadd, 1), (43, .iaload, 1), (44, .ireturn, 1)]
def mi_214 : AMI := (8, yX8_stone, cX8_stone, 3, (some .int), [], mc_214, 0, 2)
def mc_215 : List (Nat × Instr × Nat) := [(0, .aload_n 0, 1), (1, .iconst 0, 1), (2, .putfield 3, 3), (5, .aload_n 0, 1), (6, .iload_n 1, 1), (7, .aload_n 0, 1), (8, .getfield 163, 3), (11, .invokevirtual 396, 3), (14, .ifCond .eq 18, 3), (17, .aload_n 0, 1), (18, .iload_n 2, 1), (19, .iconst 0, 1), (20, .iconst 1, 1), (21, .invokestatic 384, 3), (24, .iconst 2, 1), (25, .iconst 1, 1), (26, .invokevirtual 203, 3), (29, .ifCond .ne 5, 3), (32, .iconst 0, 1), (33, .ireturn, 1), (34, .iload_n 2, 1), (35, .ifCond .ne 12, 3), (38, .aload_n 0, 1), (39, .getfield 38, 3), (42, .iload_n 1, 1), (43, .iaload, 1), (44, .goto 12, 3), (47, .aload_n 0, 1), (48, .getfield 65, 3), (51, .bipush 30, 2), (53, .iload_n 1, 1), (54, .iadd, 1), (55, .iaload, 1), (56, .ireturn, 1)]
def mi_215 : AMI := (8, yX8_sieve, cX8_sieve, 3, (some .int), [], mc_215, 0, 2)
def mc_216 : List (Nat × Instr × Nat) := [(0, .aload_n 0, 1), (1, .iconst 0, 1), (2, .putfield 3, 3), (5, .aload_n 0, 1), (6, .iload_n 1, 1), (7, .aload_n 0, 1), (8, .getfield 157, 3), (11, .invokevirtual 396, 3), (14, .ifCond .ne 5, 3), (17, .iconst 0, 1), (18, .ireturn, 1), (19, .aload_n 0, 1), (20, .invokevirtual 317, 3), (23, .aload_n 0, 1), (24, .iload_n 1, 1), (25, .invokevirtual 375, 3), (28, .ireturn, 1)]
def mi_216 : AMI := (8, yX8_sneeze, cX8_sneeze, 2, (some .int), [], mc_216, 0, 1)
def mc_217 : List (Nat × Instr × Nat) := [(0, .aload_n 0, 1), (1, .iconst 0, 1), (2, .putfield 3, 3), (5, .aload_n 0, 1), (6, .iload_n 1, 1), (7, .iconst 0, 1), (8, .sipush 9999, 3), (11, .invokestatic 384, 3), (14, .ifCond .eq 75, 3), (17, .iload_n 2, 1), (18, .iconst 0, 1), (19, .sipush 9999, 3), (22, .invokestatic 384, 3), (25, .ifCond .eq 64, 3), (28, .iload_n 3, 1), (29, .iconst 0, 1), (30, .sipush 9999, 3), (33, .invokestatic 384, 3), (36, .ifCond .eq 53, 3), (39, .iload 4, 2), (41, .iconst 0, 1), (42, .sipush 9999, 3), (45, .invokestatic 384, 3), (48, .ifCond .eq 41, 3), (51, .iload 5, 2), (53, .iconst 0, 1), (54, .sipush 400, 3), (57, .invokestatic 384, 3), (60, .ifCond .eq 29, 3), (63, .iload 6, 2), (65, .iconst 0, 1), (66, .sipush 400, 3), (69, .invokestatic 384, 3), (72, .ifCond .eq 17, 3), (75, .iload 7, 2), (77, .iconst 0, 1), (78, .iconst 5, 1), (79, .invokestatic 384, 3), (82, .ifCond .eq 7, 3), (85, .iconst 1, 1), (86, .goto 4, 3), (89, .iconst 0, 1), (90, .iconst 1, 1), (91, .iconst 1, 1), (92, .invokevirtual 203, 3), (95, .ifCond .ne 5, 3), (98, .iconst 0, 1), (99, .ireturn, 1), (100, .aload_n 0, 1), (101, .iload_n 1, 1), (102, .iload_n 2, 1), (103, .iload_n 3, 1), (104, .iload 4, 2), (106, .iload 5, 2), (108, .iload 6, 2), (110, .iload 7, 2), (112, .invokevirtual 359, 3), (115, .ireturn, 1)]
def mi_217 : AMI := (8, yX8_would, cX8_would, 8, (some .int), [], mc_217, 0, 7)
def mc_218 : List (Nat × Instr × Nat) := [(0, .aload_n 0, 1), (1, .iconst 0, 1), (2, .putfield 3, 3), (5, .aload_n 0, 1), (6, .iload_n 1, 1), (7, .aload_n 0, 1), (8, .getfield 160, 3), (11, .invokevirtual 396, 3), (14, .ifCond .eq 30, 3), (17, .aload_n 0, 1), (18, .iload_n 2, 1), (19, .aload_n 0, 1), (20, .getfield 157, 3), (23, .invokevirtual 396, 3), (26, .ifCond .eq 18, 3), (29, .aload_n 0, 1), (30, .iload_n 3, 1), (31, .iconst 0, 1), (32, .iconst 4, 1), (33, .invokestatic 384, 3), (36, .iconst 2, 1), (37, .iconst 1, 1), (38, .invokevirtual 203, 3), (41, .ifCond .ne 5, 3), (44, .iconst 0, 1), (45, .ireturn, 1), (46, .aload_n 0, 1), (47, .invokevirtual 317, 3), (50, .aload_n 0, 1), (51, .getfield 68, 3), (54, .bipush 35, 2), (56, .iaload, 1), (57, .istore 4, 2), (59, .aload_n 0, 1), (60, .iload_n 1, 1), (61, .iload_n 2, 1), (62, .invokevirtual 335, 3), (65, .pop, 1), (66, .iload_n 3, 1), (67, .iconst 4, 1), (68, .if_icmp .ne 16, 3), (71, .aload_n 0, 1), (72, .getfield 68, 3), (75, .bipush 35, 2), (77, .iaload, 1), (78, .iload 4, 2), (80, .isub, 1), (81, .goto 13, 3), (84, .aload_n 0, 1), (85, .getfield 68, 3), (88, .iconst 4, 1), (89, .iload_n 2, 1), (90, .imul, 1), (91, .iload_n 3, 1), (92, .iadd, 1), (93, .iaload, 1), (94, .ireturn, 1)]
def mi_218 : AMI := (8, yX8_ground, cX8_ground, 5, (some .int), [], mc_218, 0, 3)
def mc_219 : List (Nat × Instr × Nat) := [(0, .aload_n 0, 1), (1, .iconst 0, 1), (2, .putfield 3, 3), (5, .aload_n 0, 1), (6, .iload_n 1, 1), (7, .aload_n 0, 1), (8, .getfield 163, 3), (11, .invokevirtual 396, 3), (14, .ifCond .eq 30, 3), (17, .aload_n 0, 1), (18, .iload_n 2, 1), (19, .aload_n 0, 1), (20, .getfield 157, 3), (23, .invokevirtual 396, 3), (26, .ifCond .eq 18, 3), (29, .aload_n 0, 1), (30, .iload_n 3, 1), (31, .iconst 0, 1), (32, .iconst 4, 1), (33, .invokestatic 384, 3), (36, .iconst 2, 1), (37, .iconst 1, 1), (38, .invokevirtual 203, 3), (41, .ifCond .ne 5, 3), (44, .iconst 0, 1), (45, .ireturn, 1), (46, .aload_n 0, 1), (47, .invokevirtual 317, 3), (50, .iload_n 3, 1), (51, .iconst 4, 1), (52, .if_icmp .ne 12, 3), (55, .aload_n 0, 1), (56, .iload_n 1, 1), (57, .iload_n 2, 1), (58, .invokevirtual 366, 3), (61, .goto 10, 3), (64, .aload_n 0, 1), (65, .iload_n 1, 1), (66, .iload_n 2, 1), (67, .iload_n 3, 1), (68, .invokevirtual 363, 3), (71, .ireturn, 1)]
def mi_219 : AMI := (8, yX8_falls, cX8_falls, 4, (some .int), [], mc_219, 0, 3)
def mc_220 : List (Nat × Instr × Nat) := [(0, .aload_n 0, 1), (1, .iconst 0, 1), (2, .putfield 3, 3), (5, .aload_n 0, 1), (6, .iload_n 1, 1), (7, .aload_n 0, 1), (8, .getfield 157, 3), (11, .invokevirtual 396, 3), (14, .ifCond .eq 32, 3), (17, .aload_n 0, 1), (18, .iload_n 2, 1), (19, .aload_n 0, 1), (20, .getfield 160, 3), (23, .invokevirtual 396, 3), (26, .ifCond .eq 20, 3), (29, .aload_n 0, 1), (30, .iload_n 3, 1), (31, .iconst 0, 1), (32, .sipush 1000, 3), (35, .invokestatic 384, 3), (38, .iconst 2, 1), (39, .iconst 1, 1), (40, .invokevirtual 203, 3), (43, .ifCond .ne 5, 3), (46, .iconst 0, 1), (47, .ireturn, 1), (48, .aload_n 0, 1), (49, .invokevirtual 317, 3), (52, .iconst 0, 1), (53, .istore 4, 2), (55, .iload 4, 2), (57, .bipush 99, 2), (59, .if_icmp .gt 36, 3), (62, .aload_n 0, 1), (63, .iload_n 1, 1), (64, .invokevirtual 343, 3), (67, .ifCond .le 28, 3), (70, .aload_n 0, 1), (71, .iload_n 1, 1), (72, .invokevirtual 399, 3), (75, .iload_n 3, 1), (76, .if_icmp .lt 6, 3), (79, .iload 4, 2), (81, .ireturn, 1), (82, .aload_n 0, 1), (83, .iload_n 2, 1), (84, .iload_n 1, 1), (85, .invokevirtual 335, 3), (88, .pop, 1), (89, .iinc 4 1, 3), (92, .goto (-37), 3), (95, .iconst (-1), 1), (96, .ireturn, 1)]
def mi_220 : AMI := (8, yX8_milled, cX8_milled, 5, (some .int), [], mc_220, 0, 3)
def mc_221 : List (Nat × Instr × Nat) := [(0, .aload_n 0, 1), (1, .iconst 0, 1), (2, .putfield 3, 3), (5, .aload_n 0, 1), (6, .iload_n 1, 1), (7, .aload_n 0, 1), (8, .getfield 157, 3), (11, .invokevirtual 396, 3), (14, .ifCond .eq 21, 3), (17, .aload_n 0, 1), (18, .iload_n 2, 1), (19, .ifCond .lt 7, 3), (22, .iconst 1, 1), (23, .goto 4, 3), (26, .iconst 0, 1), (27, .iconst 2, 1), (28, .iconst 1, 1), (29, .invokevirtual 203, 3), (32, .ifCond .ne 5, 3), (35, .iconst 0, 1), (36, .ireturn, 1), (37, .iload_n 2, 1), (38, .aload_n 0, 1), (39, .getfield 176, 3), (42, .if_icmp .le 5, 3), (45, .iconst (-1), 1), (46, .ireturn, 1), (47, .aload_n 0, 1), (48, .invokevirtual 317, 3), (51, .iconst 0, 1), (52, .istore_n 3, 1), (53, .iload_n 3, 1), (54, .iload_n 2, 1), (55, .if_icmp .ge 48, 3), (58, .iconst 0, 1), (59, .istore 4, 2), (61, .iload 4, 2), (63, .iconst 4, 1), (64, .if_icmp .ge 33, 3), (67, .aload_n 0, 1), (68, .getfield 68, 3), (71, .iconst 4, 1), (72, .iload_n 1, 1), (73, .imul, 1), (74, .iload 4, 2), (76, .iadd, 1), (77, .aload_n 0, 1), (78, .aload_n 0, 1), (79, .getfield 77, 3), (82, .iload_n 3, 1), (83, .iaload, 1), (84, .iload_n 1, 1), (85, .iload 4, 2), (87, .invokevirtual 363, 3), (90, .iastore, 1), (91, .iinc 4 1, 3), (94, .goto (-33), 3), (97, .iinc 3 1, 3), (100, .goto (-47), 3), (103, .iload_n 2, 1), (104, .aload_n 0, 1), (105, .getfield 176, 3), (108, .if_icmp .ne 11, 3), (111, .aload_n 0, 1), (112, .iload_n 1, 1), (113, .invokevirtual 343, 3), (116, .goto 20, 3), (119, .aload_n 0, 1), (120, .iload_n 1, 1), (121, .invokevirtual 343, 3), (124, .aload_n 0, 1), (125, .aload_n 0, 1), (126, .getfield 77, 3), (129, .iload_n 2, 1), (130, .iaload, 1), (131, .iload_n 1, 1), (132, .invokevirtual 366, 3), (135, .isub, 1), (136, .ireturn, 1)]
def mi_221 : AMI := (8, yX8_stays, cX8_stays, 5, (some .int), [], mc_221, 0, 2)
def mc_222 : List (Nat × Instr × Nat) := [(0, .iload_n 1, 1), (1, .ifCond .lt 17, 3), (4, .iload_n 1, 1), (5, .iconst 1, 1), (6, .aload_n 0, 1), (7, .getfield 157, 3), (10, .ishl, 1), (11, .if_icmp .ge 7, 3), (14, .iconst 1, 1), (15, .goto 4, 3), (18, .iconst 0, 1), (19, .ireturn, 1)]
def mi_222 : AMI := (8, yX8_isSet, cX8_isSet, 2, (some .boolean), [], mc_222, 0, 1)
def mc_223 : List (Nat × Instr × Nat) := [(0, .iconst 0, 1), (1, .istore_n 2, 1), (2, .iconst 0, 1), (3, .istore_n 3, 1), (4, .iload_n 3, 1), (5, .aload_n 0, 1), (6, .getfield 157, 3), (9, .if_icmp .ge 23, 3), (12, .iload_n 2, 1), (13, .iload_n 1, 1), (14, .iload_n 3, 1), (15, .ishr, 1), (16, .iconst 1, 1), (17, .iand, 1), (18, .aload_n 0, 1), (19, .iload_n 3, 1), (20, .invokevirtual 343, 3), (23, .imul, 1), (24, .iadd, 1), (25, .istore_n 2, 1), (26, .iinc 3 1, 3), (29, .goto (-25), 3), (32, .iload_n 2, 1), (33, .ireturn, 1)]
def mi_223 : AMI := (8, yX8_gramsIn, cX8_gramsIn, 4, (some .int), [], mc_223, 0, 1)
def mc_224 : List (Nat × Instr × Nat) := [(0, .iconst 0, 1), (1, .istore_n 2, 1), (2, .iconst 0, 1), (3, .istore_n 3, 1), (4, .iload_n 3, 1), (5, .aload_n 0, 1), (6, .getfield 157, 3), (9, .if_icmp .ge 23, 3), (12, .iload_n 2, 1), (13, .iload_n 1, 1), (14, .iload_n 3, 1), (15, .ishr, 1), (16, .iconst 1, 1), (17, .iand, 1), (18, .aload_n 0, 1), (19, .iload_n 3, 1), (20, .invokevirtual 375, 3), (23, .imul, 1), (24, .iadd, 1), (25, .istore_n 2, 1), (26, .iinc 3 1, 3), (29, .goto (-25), 3), (32, .iload_n 2, 1), (33, .ireturn, 1)]
def mi_224 : AMI := (8, yX8_sneezesIn, cX8_sneezesIn, 4, (some .int), [], mc_224, 0, 1)
def mc_225 : List (Nat × Instr × Nat) := [(0, .iload_n 0, 1), (1, .ifCond .ge 8, 3), (4, .iload_n 0, 1), (5, .ineg, 1), (6, .goto 4, 3), (9, .iload_n 0, 1), (10, .ireturn, 1)]
def mi_225 : AMI := (8, yX8_size, cX8_size, 1, (some .int), [], mc_225, 1, 1)
def mc_226 : List (Nat × Instr × Nat) := [(0, .iconst 2, 1), (1, .aload_n 0, 1), (2, .iload_n 2, 1), (3, .invokevirtual 408, 3), (6, .imul, 1), (7, .aload_n 0, 1), (8, .iload_n 1, 1), (9, .invokevirtual 408, 3), (12, .isub, 1), (13, .invokestatic 411, 3), (16, .ireturn, 1)]
def mi_226 : AMI := (8, yX8_apartBy, cX8_apartBy, 3, (some .int), [], mc_226, 0, 2)
def mc_227 : List (Nat × Instr × Nat) := [(0, .aload_n 0, 1), (1, .iconst 0, 1), (2, .putfield 3, 3), (5, .aload_n 0, 1), (6, .aload_n 0, 1), (7, .iload_n 1, 1), (8, .invokevirtual 402, 3), (11, .ifCond .eq 16, 3), (14, .iload_n 2, 1), (15, .iconst 0, 1), (16, .iconst 1, 1), (17, .invokestatic 384, 3), (20, .ifCond .eq 7, 3), (23, .iconst 1, 1), (24, .goto 4, 3), (27, .iconst 0, 1), (28, .iconst 1, 1), (29, .iconst 1, 1), (30, .invokevirtual 203, 3), (33, .ifCond .ne 5, 3), (36, .iconst 0, 1), (37, .ireturn, 1), (38, .iload_n 1, 1), (39, .ifCond .ne 5, 3), (42, .iconst 0, 1), (43, .ireturn, 1), (44, .aload_n 0, 1), (45, .invokevirtual 317, 3), (48, .iload_n 1, 1), (49, .iload_n 1, 1), (50, .ineg, 1), (51, .iand, 1), (52, .istore_n 3, 1), (53, .iconst (-1), 1), (54, .istore 4, 2), (56, .iconst 1, 1), (57, .istore 5, 2), (59, .iload 5, 2), (61, .iload_n 1, 1), (62, .if_icmp .gt 55, 3), (65, .iload 5, 2), (67, .iload_n 1, 1), (68, .iconst (-1), 1), (69, .ixor, 1), (70, .iand, 1), (71, .ifCond .ne 40, 3), (74, .iload 5, 2), (76, .iload_n 3, 1), (77, .iand, 1), (78, .ifCond .ne 6, 3), (81, .goto 30, 3), (84, .iload 4, 2), (86, .iconst (-1), 1), (87, .if_icmp .eq 20, 3), (90, .aload_n 0, 1), (91, .iload_n 1, 1), (92, .iload 5, 2), (94, .invokevirtual 405, 3), (97, .aload_n 0, 1), (98, .iload_n 1, 1), (99, .iload 4, 2), (101, .invokevirtual 405, 3), (104, .if_icmp .ge 7, 3), (107, .iload 5, 2), (109, .istore 4, 2), (111, .iinc 5 1, 3), (114, .goto (-55), 3), (117, .iload_n 2, 1), (118, .ifCond .ne 13, 3), (121, .aload_n 0, 1), (122, .iload_n 1, 1), (123, .iload 4, 2), (125, .invokevirtual 405, 3), (128, .goto 5, 3), (131, .iload 4, 2), (133, .ireturn, 1)]
def mi_227 : AMI := (8, yX8_halves, cX8_halves, 6, (some .int), [], mc_227, 0, 2)
def mc_228 : List (Nat × Instr × Nat) := [(0, .aload_n 0, 1), (1, .iconst 0, 1), (2, .putfield 3, 3), (5, .aload_n 0, 1), (6, .aload_n 0, 1), (7, .iload_n 1, 1), (8, .invokevirtual 402, 3), (11, .ifCond .eq 27, 3), (14, .iload_n 2, 1), (15, .iconst 0, 1), (16, .ldc_w 413, 3), (19, .invokestatic 384, 3), (22, .ifCond .eq 16, 3), (25, .iload_n 3, 1), (26, .iconst 0, 1), (27, .iconst 2, 1), (28, .invokestatic 384, 3), (31, .ifCond .eq 7, 3), (34, .iconst 1, 1), (35, .goto 4, 3), (38, .iconst 0, 1), (39, .iconst 1, 1), (40, .iconst 1, 1), (41, .invokevirtual 203, 3), (44, .ifCond .ne 5, 3), (47, .iconst 0, 1), (48, .ireturn, 1), (49, .aload_n 0, 1), (50, .invokevirtual 317, 3), (53, .iload_n 1, 1), (54, .aload_n 0, 1), (55, .invokevirtual 390, 3), (58, .iconst (-1), 1), (59, .ixor, 1), (60, .iand, 1), (61, .istore 4, 2), (63, .iconst 0, 1), (64, .istore 5, 2), (66, .iconst 1, 1), (67, .istore 6, 2), (69, .iload 6, 2), (71, .iload 4, 2), (73, .if_icmp .gt 76, 3), (76, .iload 6, 2), (78, .iload 4, 2), (80, .iconst (-1), 1), (81, .ixor, 1), (82, .iand, 1), (83, .ifCond .ne 60, 3), (86, .aload_n 0, 1), (87, .iload 6, 2), (89, .invokevirtual 408, 3), (92, .iload_n 2, 1), (93, .if_icmp .le 6, 3), (96, .goto 47, 3), (99, .aload_n 0, 1), (100, .iload 6, 2), (102, .invokevirtual 414, 3), (105, .aload_n 0, 1), (106, .iload 5, 2), (108, .invokevirtual 414, 3), (111, .isub, 1), (112, .istore 7, 2), (114, .iload 7, 2), (116, .ifCond .gt 23, 3), (119, .iload 7, 2), (121, .ifCond .ne 22, 3), (124, .aload_n 0, 1), (125, .iload 6, 2), (127, .invokevirtual 408, 3), (130, .aload_n 0, 1), (131, .iload 5, 2), (133, .invokevirtual 408, 3), (136, .if_icmp .ge 7, 3), (139, .iload 6, 2), (141, .istore 5, 2), (143, .iinc 6 1, 3), (146, .goto (-77), 3), (149, .iload_n 3, 1), (150, .ifCond .ne 12, 3), (153, .aload_n 0, 1), (154, .iload 5, 2), (156, .invokevirtual 414, 3), (159, .goto 19, 3), (162, .iload_n 3, 1), (163, .iconst 1, 1), (164, .if_icmp .ne 12, 3), (167, .aload_n 0, 1), (168, .iload 5, 2), (170, .invokevirtual 408, 3), (173, .goto 5, 3), (176, .iload 5, 2), (178, .ireturn, 1)]
def mi_228 : AMI := (8, yX8_box, cX8_box, 8, (some .int), [], mc_228, 0, 3)
def mc_229 : List (Nat × Instr × Nat) := [(0, .aload_n 0, 1), (1, .iload_n 2, 1), (2, .invokevirtual 343, 3), (5, .ifCond .ne 5, 3), (8, .iconst 0, 1), (9, .ireturn, 1), (10, .iconst 0, 1), (11, .istore_n 3, 1), (12, .iload_n 3, 1), (13, .iconst 4, 1), (14, .if_icmp .ge 37, 3), (17, .aload_n 0, 1), (18, .getfield 83, 3), (21, .iload_n 3, 1), (22, .iaload, 1), (23, .iconst (-1), 1), (24, .if_icmp .eq 21, 3), (27, .aload_n 0, 1), (28, .iload_n 1, 1), (29, .iload_n 2, 1), (30, .iload_n 3, 1), (31, .invokevirtual 363, 3), (34, .aload_n 0, 1), (35, .getfield 83, 3), (38, .iload_n 3, 1), (39, .iaload, 1), (40, .if_icmp .eq 5, 3), (43, .iconst 0, 1), (44, .ireturn, 1), (45, .iinc 3 1, 3), (48, .goto (-36), 3), (51, .iconst 1, 1), (52, .ireturn, 1)]
def mi_229 : AMI := (8, yX8_isFit, cX8_isFit, 4, (some .boolean), [], mc_229, 0, 2)
def mc_230 : List (Nat × Instr × Nat) := [(0, .aload_n 0, 1), (1, .iconst 0, 1), (2, .putfield 3, 3), (5, .aload_n 0, 1), (6, .iload_n 1, 1), (7, .iconst 0, 1), (8, .iconst 1, 1), (9, .invokestatic 384, 3), (12, .iconst 1, 1), (13, .iconst 1, 1), (14, .invokevirtual 203, 3), (17, .ifCond .ne 5, 3), (20, .iconst 0, 1), (21, .ireturn, 1), (22, .aload_n 0, 1), (23, .invokevirtual 317, 3), (26, .iconst 0, 1), (27, .istore_n 2, 1), (28, .iconst (-1), 1), (29, .istore_n 3, 1), (30, .iconst 0, 1), (31, .istore 4, 2), (33, .iload 4, 2), (35, .aload_n 0, 1), (36, .getfield 163, 3), (39, .aload_n 0, 1), (40, .getfield 157, 3), (43, .imul, 1), (44, .if_icmp .ge 64, 3), (47, .aload_n 0, 1), (48, .iload 4, 2), (50, .aload_n 0, 1), (51, .getfield 157, 3), (54, .idiv, 1), (55, .iload 4, 2), (57, .aload_n 0, 1), (58, .getfield 157, 3), (61, .irem, 1), (62, .invokevirtual 417, 3), (65, .ifCond .ne 6, 3), (68, .goto 34, 3), (71, .iinc 2 1, 3), (74, .iload_n 3, 1), (75, .iconst (-1), 1), (76, .if_icmp .ne 24, 3), (79, .bipush 10, 2), (81, .iload 4, 2), (83, .aload_n 0, 1), (84, .getfield 157, 3), (87, .idiv, 1), (88, .imul, 1), (89, .iload 4, 2), (91, .aload_n 0, 1), (92, .getfield 157, 3), (95, .irem, 1), (96, .iadd, 1), (97, .goto 4, 3), (100, .iload_n 3, 1), (101, .istore_n 3, 1), (102, .iinc 4 1, 3), (105, .goto (-72), 3), (108, .iload_n 1, 1), (109, .ifCond .ne 7, 3), (112, .iload_n 2, 1), (113, .goto 4, 3), (116, .iload_n 3, 1), (117, .ireturn, 1)]
def mi_230 : AMI := (8, yX8_fits, cX8_fits, 5, (some .int), [], mc_230, 0, 1)
def mc_231 : List (Nat × Instr × Nat) := [(0, .iconst 0, 1), (1, .istore_n 2, 1), (2, .iconst 0, 1), (3, .istore_n 3, 1), (4, .iload_n 3, 1), (5, .aload_n 0, 1), (6, .getfield 163, 3), (9, .aload_n 0, 1), (10, .getfield 157, 3), (13, .imul, 1), (14, .if_icmp .ge 140, 3), (17, .aload_n 0, 1), (18, .iload_n 3, 1), (19, .aload_n 0, 1), (20, .getfield 157, 3), (23, .idiv, 1), (24, .iload_n 3, 1), (25, .aload_n 0, 1), (26, .getfield 157, 3), (29, .irem, 1), (30, .invokevirtual 417, 3), (33, .ifCond .ne 6, 3), (36, .goto 112, 3), (39, .iconst 0, 1), (40, .istore 4, 2), (42, .iconst 0, 1), (43, .istore 5, 2), (45, .iload 5, 2), (47, .aload_n 0, 1), (48, .getfield 163, 3), (51, .aload_n 0, 1), (52, .getfield 157, 3), (55, .imul, 1), (56, .if_icmp .ge 79, 3), (59, .iload 4, 2), (61, .aload_n 0, 1), (62, .iload 5, 2), (64, .aload_n 0, 1), (65, .getfield 157, 3), (68, .idiv, 1), (69, .iload 5, 2), (71, .aload_n 0, 1), (72, .getfield 157, 3), (75, .irem, 1), (76, .invokevirtual 417, 3), (79, .ifCond .eq 46, 3), (82, .aload_n 0, 1), (83, .iload 5, 2), (85, .aload_n 0, 1), (86, .getfield 157, 3), (89, .idiv, 1), (90, .iload 5, 2), (92, .aload_n 0, 1), (93, .getfield 157, 3), (96, .irem, 1), (97, .iload_n 1, 1), (98, .invokevirtual 363, 3), (101, .aload_n 0, 1), (102, .iload_n 3, 1), (103, .aload_n 0, 1), (104, .getfield 157, 3), (107, .idiv, 1), (108, .iload_n 3, 1), (109, .aload_n 0, 1), (110, .getfield 157, 3), (113, .irem, 1), (114, .iload_n 1, 1), (115, .invokevirtual 363, 3), (118, .if_icmp .ne 7, 3), (121, .iconst 1, 1), (122, .goto 4, 3), (125, .iconst 0, 1), (126, .iadd, 1), (127, .istore 4, 2), (129, .iinc 5 1, 3), (132, .goto (-87), 3), (135, .iload 4, 2), (137, .iload_n 2, 1), (138, .if_icmp .le 8, 3), (141, .iload 4, 2), (143, .goto 4, 3), (146, .iload_n 2, 1), (147, .istore_n 2, 1), (148, .iinc 3 1, 3), (151, .goto (-147), 3), (154, .iload_n 2, 1), (155, .ireturn, 1)]
def mi_231 : AMI := (8, yX8_worstOf, cX8_worstOf, 6, (some .int), [], mc_231, 0, 1)
def mc_232 : List (Nat × Instr × Nat) := [(0, .aload_n 0, 1), (1, .iconst 0, 1), (2, .putfield 3, 3), (5, .aload_n 0, 1), (6, .iload_n 1, 1), (7, .iconst 0, 1), (8, .iconst 1, 1), (9, .invokestatic 384, 3), (12, .iconst 1, 1), (13, .iconst 1, 1), (14, .invokevirtual 203, 3), (17, .ifCond .ne 5, 3), (20, .iconst 0, 1), (21, .ireturn, 1), (22, .aload_n 0, 1), (23, .invokevirtual 317, 3), (26, .iconst (-1), 1), (27, .istore_n 2, 1), (28, .iconst (-1), 1), (29, .istore_n 3, 1), (30, .iconst 0, 1), (31, .istore 4, 2), (33, .iload 4, 2), (35, .iconst 4, 1), (36, .if_icmp .ge 51, 3), (39, .aload_n 0, 1), (40, .getfield 83, 3), (43, .iload 4, 2), (45, .iaload, 1), (46, .iconst (-1), 1), (47, .if_icmp .eq 6, 3), (50, .goto 31, 3), (53, .aload_n 0, 1), (54, .iload 4, 2), (56, .invokevirtual 420, 3), (59, .istore 5, 2), (61, .iload_n 2, 1), (62, .iconst (-1), 1), (63, .if_icmp .eq 12, 3), (66, .iload 5, 2), (68, .iload_n 3, 1), (69, .if_icmp .lt 6, 3), (72, .goto 9, 3), (75, .iload 4, 2), (77, .istore_n 2, 1), (78, .iload 5, 2), (80, .istore_n 3, 1), (81, .iinc 4 1, 3), (84, .goto (-51), 3), (87, .iload_n 1, 1), (88, .ifCond .ne 7, 3), (91, .iload_n 2, 1), (92, .goto 4, 3), (95, .iload_n 3, 1), (96, .ireturn, 1)]
def mi_232 : AMI := (8, yX8_look, cX8_look, 6, (some .int), [], mc_232, 0, 1)
def mc_233 : List (Nat × Instr × Nat) := [(0, .lload_n 0, 1), (1, .lstore 5, 2), (3, .lload_n 2, 1), (4, .lstore 7, 2), (6, .lload 7, 2), (8, .lconst 0, 1), (9, .lcmp, 1), (10, .ifCond .eq 21, 3), (13, .lload 5, 2), (15, .lload 7, 2), (17, .lrem, 1), (18, .lstore 9, 2), (20, .lload 7, 2), (22, .lstore 5, 2), (24, .lload 9, 2), (26, .lstore 7, 2), (28, .goto (-22), 3), (31, .iload 4, 2), (33, .ifCond .ne 7, 3), (36, .lload_n 0, 1), (37, .goto 4, 3), (40, .lload_n 2, 1), (41, .lload 5, 2), (43, .ldiv, 1), (44, .lreturn, 1)]
def mi_233 : AMI := (8, yX8_least, cX8_least, 11, (some .long), [], mc_233, 1, 3)
def mc_234_0 : List (Nat × Instr × Nat) := [(0, .aload_n 0, 1), (1, .iconst 0, 1), (2, .putfield 3, 3), (5, .aload_n 0, 1), (6, .iload_n 1, 1), (7, .iconst 0, 1), (8, .bipush 12, 2), (10, .invokestatic 384, 3), (13, .ifCond .eq 37, 3), (16, .iload_n 2, 1), (17, .iconst 0, 1), (18, .bipush 13, 2), (20, .invokestatic 384, 3), (23, .ifCond .eq 27, 3), (26, .iload_n 3, 1), (27, .iconst 0, 1), (28, .bipush 16, 2), (30, .invokestatic 384, 3), (33, .ifCond .eq 17, 3), (36, .iload 4, 2), (38, .iconst 0, 1), (39, .iconst 1, 1), (40, .invokestatic 384, 3), (43, .ifCond .eq 7, 3), (46, .iconst 1, 1), (47, .goto 4, 3), (50, .iconst 0, 1), (51, .iconst 1, 1), (52, .iconst 1, 1), (53, .invokevirtual 203, 3), (56, .ifCond .ne 5, 3), (59, .lconst 0, 1), (60, .lreturn, 1), (61, .iconst 0, 1), (62, .istore 5, 2), (64, .iload 5, 2), (66, .bipush 14, 2), (68, .if_icmp .ge 26, 3), (71, .aload_n 0, 1), (72, .getfield 86, 3), (75, .iload 5, 2), (77, .iload 5, 2), (79, .ifCond .ne 7, 3), (82, .lconst 1, 1), (83, .goto 4, 3), (86, .lconst 0, 1), (87, .lastore, 1), (88, .iinc 5 1, 3), (91, .goto (-27), 3), (94, .lconst 1, 1), (95, .lstore 5, 2), (97, .iconst 0, 1), (98, .istore 7, 2), (100, .iload 7, 2), (102, .iload_n 1, 1), (103, .if_icmp .ge 74, 3), (106, .bipush 13, 2), (108, .istore 8, 2), (110, .iload 8, 2), (112, .ifCond .lt 51, 3), (115, .aload_n 0, 1), (116, .getfield 86, 3), (119, .iload 8, 2), (121, .aload_n 0, 1), (122, .getfield 86, 3), (125, .iload 8, 2), (127, .laload, 1), (128, .bipush 16, 2), (130, .iload_n 3, 1), (131, .isub, 1), (132, .i2l, 1), (133, .lmul, 1), (134, .iload 8, 2), (136, .ifCond .le 18, 3), (139, .aload_n 0, 1), (140, .getfield 86, 3), (143, .iload 8, 2), (145, .iconst 1, 1), (146, .isub, 1), (147, .laload, 1), (148, .iload_n 3, 1), (149, .i2l, 1), (150, .lmul, 1), (151, .goto 4, 3), (154, .lconst 0, 1), (155, .ladd, 1), (156, .lastore, 1), (157, .iinc 8 (-1), 3), (160, .goto (-50), 3), (163, .lload 5, 2), (165, .ldc2_w 423, 3), (168, .lmul, 1), (169, .lstore 5, 2), (171, .iinc 7 1, 3), (174, .goto (-74), 3), (177, .lconst 0, 1), (178, .lstore 7, 2), (180, .iload_n 2, 1), (181, .istore 9, 2), (183, .iload 9, 2)]
def mc_234_1 : List (Nat × Instr × Nat) := [(185, .bipush 14, 2), (187, .if_icmp .ge 21, 3), (190, .lload 7, 2), (192, .aload_n 0, 1), (193, .getfield 86, 3), (196, .iload 9, 2), (198, .laload, 1), (199, .ladd, 1), (200, .lstore 7, 2), (202, .iinc 9 1, 3), (205, .goto (-22), 3), (208, .lload 7, 2), (210, .lload 5, 2), (212, .iload 4, 2), (214, .invokestatic 425, 3), (217, .lreturn, 1)]
def mc_234 : List (Nat × Instr × Nat) := mc_234_0 ++ (mc_234_1)
def mi_234 : AMI := (8, yX8_fit, cX8_fit, 10, (some .long), [], mc_234, 0, 4)
def mc_235 : List (Nat × Instr × Nat) := [(0, .iload_n 0, 1), (1, .ifCond .ne 17, 3), (4, .iload_n 1, 1), (5, .ifCond .ne 9, 3), (8, .iload_n 2, 1), (9, .iconst 2, 1), (10, .idiv, 1), (11, .goto 19, 3), (14, .iload_n 2, 1), (15, .goto 15, 3), (18, .iload_n 1, 1), (19, .iconst 1, 1), (20, .if_icmp .ne 9, 3), (23, .iload_n 3, 1), (24, .iconst 2, 1), (25, .idiv, 1), (26, .goto 4, 3), (29, .iload_n 3, 1), (30, .ireturn, 1)]
def mi_235 : AMI := (8, yX8_hasBy, cX8_hasBy, 4, (some .int), [], mc_235, 1, 4)
def mc_236_0 : List (Nat × Instr × Nat) := [(0, .aload_n 0, 1), (1, .iconst 0, 1), (2, .putfield 3, 3), (5, .aload_n 0, 1), (6, .iload_n 1, 1), (7, .iconst 0, 1), (8, .bipush 99, 2), (10, .invokestatic 384, 3), (13, .ifCond .eq 26, 3), (16, .iload_n 2, 1), (17, .iconst 0, 1), (18, .bipush 99, 2), (20, .invokestatic 384, 3), (23, .ifCond .eq 16, 3), (26, .iload_n 3, 1), (27, .iconst 0, 1), (28, .iconst 2, 1), (29, .invokestatic 384, 3), (32, .ifCond .eq 7, 3), (35, .iconst 1, 1), (36, .goto 4, 3), (39, .iconst 0, 1), (40, .iconst 1, 1), (41, .iconst 1, 1), (42, .invokevirtual 203, 3), (45, .ifCond .ne 5, 3), (48, .iconst 0, 1), (49, .ireturn, 1), (50, .iconst 0, 1), (51, .istore 4, 2), (53, .iconst (-1), 1), (54, .istore 5, 2), (56, .iconst 0, 1), (57, .istore 6, 2), (59, .iload 6, 2), (61, .iconst 4, 1), (62, .if_icmp .ge 94, 3), (65, .iload 6, 2), (67, .iconst 2, 1), (68, .idiv, 1), (69, .istore 7, 2), (71, .iload 6, 2), (73, .iconst 2, 1), (74, .irem, 1), (75, .istore 8, 2), (77, .iconst 1, 1), (78, .iload 7, 2), (80, .isub, 1), (81, .iload 8, 2), (83, .iload_n 1, 1), (84, .iload_n 2, 1), (85, .invokestatic 428, 3), (88, .iload 7, 2), (90, .iload 8, 2), (92, .iload_n 1, 1), (93, .iload_n 2, 1), (94, .invokestatic 428, 3), (97, .if_icmp .gt 53, 3), (100, .iconst 1, 1), (101, .iload 8, 2), (103, .isub, 1), (104, .iload 7, 2), (106, .iload_n 1, 1), (107, .iload_n 2, 1), (108, .invokestatic 428, 3), (111, .iload 8, 2), (113, .iload 7, 2), (115, .iload_n 1, 1), (116, .iload_n 2, 1), (117, .invokestatic 428, 3), (120, .if_icmp .le 6, 3), (123, .goto 27, 3), (126, .iinc 4 1, 3), (129, .iload 5, 2), (131, .iconst (-1), 1), (132, .if_icmp .ne 14, 3), (135, .bipush 10, 2), (137, .iload 7, 2), (139, .imul, 1), (140, .iload 8, 2), (142, .iadd, 1), (143, .goto 5, 3), (146, .iload 5, 2), (148, .istore 5, 2), (150, .iinc 6 1, 3), (153, .goto (-94), 3), (156, .iload_n 3, 1), (157, .ifCond .ne 8, 3), (160, .iload 4, 2), (162, .goto 54, 3), (165, .iload_n 3, 1), (166, .iconst 1, 1), (167, .if_icmp .ne 8, 3), (170, .iload 5, 2), (172, .goto 44, 3), (175, .iload 5, 2), (177, .iconst (-1), 1), (178, .if_icmp .ne 7, 3), (181, .iconst 0, 1), (182, .goto 34, 3)]
def mc_236_1 : List (Nat × Instr × Nat) := [(185, .iload 5, 2), (187, .bipush 10, 2), (189, .idiv, 1), (190, .iload 5, 2), (192, .bipush 10, 2), (194, .irem, 1), (195, .iload_n 1, 1), (196, .iload_n 2, 1), (197, .invokestatic 428, 3), (200, .iload 5, 2), (202, .bipush 10, 2), (204, .irem, 1), (205, .iload 5, 2), (207, .bipush 10, 2), (209, .idiv, 1), (210, .iload_n 1, 1), (211, .iload_n 2, 1), (212, .invokestatic 428, 3), (215, .iadd, 1), (216, .ireturn, 1)]
def mc_236 : List (Nat × Instr × Nat) := mc_236_0 ++ (mc_236_1)
def mi_236 : AMI := (8, yX8_shops, cX8_shops, 9, (some .int), [], mc_236, 0, 3)
def mc_237 : List (Nat × Instr × Nat) := [(0, .aload_n 0, 1), (1, .iload_n 1, 1), (2, .invokevirtual 343, 3), (5, .iload_n 2, 1), (6, .if_icmp .ge 11, 3), (9, .aload_n 0, 1), (10, .iload_n 1, 1), (11, .invokevirtual 343, 3), (14, .goto 4, 3), (17, .iload_n 2, 1), (18, .ireturn, 1)]
def mi_237 : AMI := (8, yX8_bounded, cX8_bounded, 3, (some .int), [], mc_237, 0, 2)
def mc_238 : List (Nat × Instr × Nat) := [(0, .iconst 0, 1), (1, .istore_n 3, 1), (2, .iconst 0, 1), (3, .istore 4, 2), (5, .iload 4, 2), (7, .aload_n 0, 1), (8, .getfield 157, 3), (11, .if_icmp .ge 26, 3), (14, .iload_n 3, 1), (15, .iload_n 1, 1), (16, .iload 4, 2), (18, .ishr, 1), (19, .iconst 1, 1), (20, .iand, 1), (21, .aload_n 0, 1), (22, .iload 4, 2), (24, .iload_n 2, 1), (25, .invokevirtual 432, 3), (28, .imul, 1), (29, .iadd, 1), (30, .istore_n 3, 1), (31, .iinc 4 1, 3), (34, .goto (-29), 3), (37, .iload_n 3, 1), (38, .ireturn, 1)]
def mi_238 : AMI := (8, yX8_shelfBy, cX8_shelfBy, 5, (some .int), [], mc_238, 0, 2)
def mc_239 : List (Nat × Instr × Nat) := [(0, .aload_n 0, 1), (1, .iconst 0, 1), (2, .putfield 3, 3), (5, .aload_n 0, 1), (6, .iload_n 1, 1), (7, .aload_n 0, 1), (8, .getfield 157, 3), (11, .invokevirtual 396, 3), (14, .ifCond .eq 36, 3), (17, .aload_n 0, 1), (18, .aload_n 0, 1), (19, .iload_n 2, 1), (20, .invokevirtual 402, 3), (23, .ifCond .eq 18, 3), (26, .iload_n 3, 1), (27, .iconst 0, 1), (28, .ldc_w 413, 3), (31, .invokestatic 384, 3), (34, .ifCond .eq 7, 3), (37, .iconst 1, 1), (38, .goto 4, 3), (41, .iconst 0, 1), (42, .iconst 2, 1), (43, .iconst 1, 1), (44, .invokevirtual 203, 3), (47, .ifCond .ne 5, 3), (50, .iconst 0, 1), (51, .ireturn, 1), (52, .aload_n 0, 1), (53, .invokevirtual 317, 3), (56, .sipush 9999, 3), (59, .istore 4, 2), (61, .sipush 8192, 3), (64, .istore 5, 2), (66, .iload 5, 2), (68, .ifCond .le 46, 3), (71, .iload 4, 2), (73, .iload 5, 2), (75, .isub, 1), (76, .ifCond .lt 29, 3), (79, .aload_n 0, 1), (80, .iload_n 2, 1), (81, .iload 4, 2), (83, .iload 5, 2), (85, .isub, 1), (86, .iconst 1, 1), (87, .iadd, 1), (88, .invokevirtual 435, 3), (91, .iload_n 3, 1), (92, .if_icmp .le 13, 3), (95, .iload 4, 2), (97, .iload 5, 2), (99, .isub, 1), (100, .istore 4, 2), (102, .goto (-31), 3), (105, .iload 5, 2), (107, .iconst 2, 1), (108, .idiv, 1), (109, .istore 5, 2), (111, .goto (-45), 3), (114, .aload_n 0, 1), (115, .iload_n 2, 1), (116, .iload 4, 2), (118, .invokevirtual 435, 3), (121, .iload_n 3, 1), (122, .if_icmp .le 6, 3), (125, .iinc 4 (-1), 3), (128, .iload_n 2, 1), (129, .iload_n 1, 1), (130, .ishr, 1), (131, .iconst 1, 1), (132, .iand, 1), (133, .ifCond .ne 7, 3), (136, .iconst 0, 1), (137, .goto 10, 3), (140, .aload_n 0, 1), (141, .iload_n 1, 1), (142, .iload 4, 2), (144, .invokevirtual 432, 3), (147, .ireturn, 1)]
def mi_239 : AMI := (8, yX8_shelf, cX8_shelf, 6, (some .int), [], mc_239, 0, 3)
def mc_240 : List (Nat × Instr × Nat) := [(0, .aload_n 0, 1), (1, .iconst 0, 1), (2, .putfield 3, 3), (5, .aload_n 0, 1), (6, .iload_n 1, 1), (7, .iconst 0, 1), (8, .iconst 1, 1), (9, .invokestatic 384, 3), (12, .iconst 1, 1), (13, .iconst 1, 1), (14, .invokevirtual 203, 3), (17, .ifCond .ne 5, 3), (20, .iconst 0, 1), (21, .ireturn, 1), (22, .aload_n 0, 1), (23, .invokevirtual 317, 3), (26, .iconst (-1), 1), (27, .istore_n 2, 1), (28, .iconst 0, 1), (29, .istore_n 3, 1), (30, .iload_n 3, 1), (31, .aload_n 0, 1), (32, .getfield 157, 3), (35, .if_icmp .ge 37, 3), (38, .aload_n 0, 1), (39, .iload_n 3, 1), (40, .invokevirtual 343, 3), (43, .ifCond .le 23, 3), (46, .iload_n 2, 1), (47, .iconst (-1), 1), (48, .if_icmp .eq 16, 3), (51, .aload_n 0, 1), (52, .iload_n 3, 1), (53, .invokevirtual 375, 3), (56, .aload_n 0, 1), (57, .iload_n 2, 1), (58, .invokevirtual 375, 3), (61, .if_icmp .le 5, 3), (64, .iload_n 3, 1), (65, .istore_n 2, 1), (66, .iinc 3 1, 3), (69, .goto (-39), 3), (72, .iload_n 1, 1), (73, .ifCond .eq 8, 3), (76, .iload_n 2, 1), (77, .iconst (-1), 1), (78, .if_icmp .ne 7, 3), (81, .iload_n 2, 1), (82, .goto 8, 3), (85, .aload_n 0, 1), (86, .iload_n 2, 1), (87, .invokevirtual 375, 3), (90, .ireturn, 1)]
def mi_240 : AMI := (8, yX8_sharpest, cX8_sharpest, 4, (some .int), [], mc_240, 0, 1)
def mc_241 : List (Nat × Instr × Nat) := [(0, .aload_n 0, 1), (1, .iconst 0, 1), (2, .putfield 3, 3), (5, .aload_n 0, 1), (6, .invokevirtual 317, 3), (9, .iconst 0, 1), (10, .istore_n 1, 1), (11, .iconst 0, 1), (12, .istore_n 2, 1), (13, .iload_n 2, 1), (14, .aload_n 0, 1), (15, .getfield 157, 3), (18, .if_icmp .ge 27, 3), (21, .iload_n 1, 1), (22, .aload_n 0, 1), (23, .iload_n 2, 1), (24, .invokevirtual 378, 3), (27, .ifCond .eq 9, 3), (30, .iconst 1, 1), (31, .iload_n 2, 1), (32, .ishl, 1), (33, .goto 4, 3), (36, .iconst 0, 1), (37, .ior, 1), (38, .istore_n 1, 1), (39, .iinc 2 1, 3), (42, .goto (-29), 3), (45, .iload_n 1, 1), (46, .ireturn, 1)]
def mi_241 : AMI := (8, yX8_ripe, cX8_ripe, 3, (some .int), [], mc_241, 0, 0)
def mc_242 : List (Nat × Instr × Nat) := [(0, .aload_n 0, 1), (1, .iconst 0, 1), (2, .putfield 3, 3), (5, .aload_n 0, 1), (6, .iload_n 1, 1), (7, .aload_n 0, 1), (8, .getfield 157, 3), (11, .invokevirtual 396, 3), (14, .ifCond .eq 15, 3), (17, .aload_n 0, 1), (18, .iload_n 2, 1), (19, .aload_n 0, 1), (20, .getfield 157, 3), (23, .invokevirtual 396, 3), (26, .ifCond .ne 5, 3), (29, .iconst 0, 1), (30, .ireturn, 1), (31, .aload_n 0, 1), (32, .invokevirtual 317, 3), (35, .aload_n 0, 1), (36, .iload_n 1, 1), (37, .iload_n 2, 1), (38, .aload_n 0, 1), (39, .iload_n 1, 1), (40, .invokevirtual 343, 3), (43, .invokevirtual 346, 3), (46, .ifCond .eq 11, 3), (49, .aload_n 0, 1), (50, .iload_n 2, 1), (51, .invokevirtual 375, 3), (54, .goto 4, 3), (57, .iconst (-1), 1), (58, .ireturn, 1)]
def mi_242 : AMI := (8, yX8_blend, cX8_blend, 3, (some .int), [], mc_242, 0, 2)
def mc_243 : List (Nat × Instr × Nat) := [(0, .aload_n 0, 1), (1, .iconst 0, 1), (2, .putfield 3, 3), (5, .aload_n 0, 1), (6, .invokevirtual 317, 3), (9, .iconst 0, 1), (10, .istore_n 1, 1), (11, .iconst 0, 1), (12, .istore_n 2, 1), (13, .iload_n 2, 1), (14, .aload_n 0, 1), (15, .getfield 157, 3), (18, .if_icmp .ge 63, 3), (21, .iconst 0, 1), (22, .istore_n 3, 1), (23, .iconst 0, 1), (24, .istore 4, 2), (26, .iload 4, 2), (28, .iconst 4, 1), (29, .if_icmp .ge 31, 3), (32, .iload_n 3, 1), (33, .aload_n 0, 1), (34, .getfield 68, 3), (37, .iconst 4, 1), (38, .iload_n 2, 1), (39, .imul, 1), (40, .iload 4, 2), (42, .iadd, 1), (43, .iaload, 1), (44, .ifCond .le 7, 3), (47, .iconst 1, 1), (48, .goto 4, 3), (51, .iconst 0, 1), (52, .iadd, 1), (53, .istore_n 3, 1), (54, .iinc 4 1, 3), (57, .goto (-31), 3), (60, .iload_n 1, 1), (61, .iload_n 3, 1), (62, .iconst 1, 1), (63, .if_icmp .ne 9, 3), (66, .iconst 1, 1), (67, .iload_n 2, 1), (68, .ishl, 1), (69, .goto 4, 3), (72, .iconst 0, 1), (73, .ior, 1), (74, .istore_n 1, 1), (75, .iinc 2 1, 3), (78, .goto (-65), 3), (81, .iload_n 1, 1), (82, .ireturn, 1)]
def mi_243 : AMI := (8, yX8_even, cX8_even, 5, (some .int), [], mc_243, 0, 0)
def mc_244 : List (Nat × Instr × Nat) := [(0, .aload_n 0, 1), (1, .iconst 0, 1), (2, .putfield 3, 3), (5, .aload_n 0, 1), (6, .iload_n 1, 1), (7, .aload_n 0, 1), (8, .getfield 157, 3), (11, .invokevirtual 396, 3), (14, .ifCond .ne 5, 3), (17, .iconst 0, 1), (18, .ireturn, 1), (19, .aload_n 0, 1), (20, .invokevirtual 317, 3), (23, .iconst 0, 1), (24, .istore_n 2, 1), (25, .iload_n 2, 1), (26, .bipush 99, 2), (28, .if_icmp .gt 23, 3), (31, .aload_n 0, 1), (32, .iload_n 1, 1), (33, .invokevirtual 378, 3), (36, .ifCond .eq 5, 3), (39, .iload_n 2, 1), (40, .ireturn, 1), (41, .aload_n 0, 1), (42, .invokevirtual 353, 3), (45, .iinc 2 1, 3), (48, .goto (-23), 3), (51, .iconst (-1), 1), (52, .ireturn, 1)]
def mi_244 : AMI := (8, yX8_ripens, cX8_ripens, 3, (some .int), [], mc_244, 0, 1)
def mc_245 : List (Nat × Instr × Nat) := [(0, .aload_n 0, 1), (1, .iconst 0, 1), (2, .putfield 3, 3), (5, .aload_n 0, 1), (6, .iload_n 1, 1), (7, .aload_n 0, 1), (8, .getfield 157, 3), (11, .invokevirtual 396, 3), (14, .ifCond .ne 5, 3), (17, .iconst 0, 1), (18, .ireturn, 1), (19, .aload_n 0, 1), (20, .invokevirtual 317, 3), (23, .sipush 9999, 3), (26, .aload_n 0, 1), (27, .iload_n 1, 1), (28, .invokevirtual 343, 3), (31, .isub, 1), (32, .ireturn, 1)]
def mi_245 : AMI := (8, yX8_space, cX8_space, 2, (some .int), [], mc_245, 0, 1)
def mc_246 : List (Nat × Instr × Nat) := [(0, .aload_n 0, 1), (1, .iconst 0, 1), (2, .putfield 3, 3), (5, .aload_n 0, 1), (6, .iload_n 1, 1), (7, .iconst 0, 1), (8, .iconst 1, 1), (9, .invokestatic 384, 3), (12, .iconst 1, 1), (13, .iconst 1, 1), (14, .invokevirtual 203, 3), (17, .ifCond .ne 5, 3), (20, .iconst 0, 1), (21, .ireturn, 1), (22, .aload_n 0, 1), (23, .invokevirtual 317, 3), (26, .iconst (-1), 1), (27, .istore_n 2, 1), (28, .iconst 0, 1), (29, .istore_n 3, 1), (30, .iload_n 3, 1), (31, .aload_n 0, 1), (32, .getfield 157, 3), (35, .if_icmp .ge 45, 3), (38, .aload_n 0, 1), (39, .iload_n 3, 1), (40, .invokevirtual 343, 3), (43, .ifCond .le 31, 3), (46, .iload_n 2, 1), (47, .iconst (-1), 1), (48, .if_icmp .eq 24, 3), (51, .aload_n 0, 1), (52, .getfield 68, 3), (55, .bipush 24, 2), (57, .iload_n 3, 1), (58, .iadd, 1), (59, .iaload, 1), (60, .aload_n 0, 1), (61, .getfield 68, 3), (64, .bipush 24, 2), (66, .iload_n 2, 1), (67, .iadd, 1), (68, .iaload, 1), (69, .if_icmp .le 5, 3), (72, .iload_n 3, 1), (73, .istore_n 2, 1), (74, .iinc 3 1, 3), (77, .goto (-47), 3), (80, .iload_n 1, 1), (81, .ifCond .eq 8, 3), (84, .iload_n 2, 1), (85, .iconst (-1), 1), (86, .if_icmp .ne 7, 3), (89, .iload_n 2, 1), (90, .goto 12, 3), (93, .aload_n 0, 1), (94, .getfield 68, 3), (97, .bipush 24, 2), (99, .iload_n 2, 1), (100, .iadd, 1), (101, .iaload, 1), (102, .ireturn, 1)]
def mi_246 : AMI := (8, yX8_oldest, cX8_oldest, 4, (some .int), [], mc_246, 0, 1)
def mc_247 : List (Nat × Instr × Nat) := [(0, .aload_n 0, 1), (1, .iconst 0, 1), (2, .putfield 3, 3), (5, .aload_n 0, 1), (6, .iload_n 1, 1), (7, .aload_n 0, 1), (8, .getfield 163, 3), (11, .invokevirtual 396, 3), (14, .ifCond .ne 5, 3), (17, .iconst 0, 1), (18, .ireturn, 1), (19, .aload_n 0, 1), (20, .invokevirtual 317, 3), (23, .iconst 0, 1), (24, .istore_n 2, 1), (25, .iconst 0, 1), (26, .istore_n 3, 1), (27, .iload_n 3, 1), (28, .aload_n 0, 1), (29, .getfield 157, 3), (32, .if_icmp .ge 41, 3), (35, .iload_n 2, 1), (36, .aload_n 0, 1), (37, .iload_n 3, 1), (38, .invokevirtual 343, 3), (41, .ifCond .le 23, 3), (44, .aload_n 0, 1), (45, .iload_n 1, 1), (46, .iload_n 3, 1), (47, .invokevirtual 366, 3), (50, .aload_n 0, 1), (51, .iload_n 3, 1), (52, .invokevirtual 343, 3), (55, .if_icmp .ne 9, 3), (58, .iconst 1, 1), (59, .iload_n 3, 1), (60, .ishl, 1), (61, .goto 4, 3), (64, .iconst 0, 1), (65, .ior, 1), (66, .istore_n 2, 1), (67, .iinc 3 1, 3), (70, .goto (-43), 3), (73, .iload_n 2, 1), (74, .ireturn, 1)]
def mi_247 : AMI := (8, yX8_passes, cX8_passes, 4, (some .int), [], mc_247, 0, 1)
def mc_248 : List (Nat × Instr × Nat) := [(0, .aload_n 0, 1), (1, .iconst 0, 1), (2, .putfield 3, 3), (5, .aload_n 0, 1), (6, .iload_n 1, 1), (7, .iconst 0, 1), (8, .iconst 3, 1), (9, .invokestatic 384, 3), (12, .ifCond .eq 16, 3), (15, .iload_n 2, 1), (16, .iconst 0, 1), (17, .iconst 1, 1), (18, .invokestatic 384, 3), (21, .ifCond .eq 7, 3), (24, .iconst 1, 1), (25, .goto 4, 3), (28, .iconst 0, 1), (29, .iconst 1, 1), (30, .iconst 1, 1), (31, .invokevirtual 203, 3), (34, .ifCond .ne 5, 3), (37, .iconst 0, 1), (38, .ireturn, 1), (39, .iconst 0, 1), (40, .istore_n 3, 1), (41, .iconst (-1), 1), (42, .istore 4, 2), (44, .iconst 0, 1), (45, .istore 5, 2), (47, .iload 5, 2), (49, .aload_n 0, 1), (50, .getfield 157, 3), (53, .if_icmp .ge 57, 3), (56, .aload_n 0, 1), (57, .getfield 65, 3), (60, .iconst 4, 1), (61, .iload 5, 2), (63, .imul, 1), (64, .iload_n 1, 1), (65, .iadd, 1), (66, .iaload, 1), (67, .istore 6, 2), (69, .iload_n 3, 1), (70, .iload 6, 2), (72, .iadd, 1), (73, .istore_n 3, 1), (74, .iload 6, 2), (76, .iload 4, 2), (78, .iconst (-1), 1), (79, .if_icmp .ne 7, 3), (82, .iconst 0, 1), (83, .goto 14, 3), (86, .aload_n 0, 1), (87, .getfield 65, 3), (90, .iconst 4, 1), (91, .iload 4, 2), (93, .imul, 1), (94, .iload_n 1, 1), (95, .iadd, 1), (96, .iaload, 1), (97, .if_icmp .le 7, 3), (100, .iload 5, 2), (102, .istore 4, 2), (104, .iinc 5 1, 3), (107, .goto (-60), 3), (110, .iload_n 2, 1), (111, .ifCond .ne 7, 3), (114, .iload_n 3, 1), (115, .goto 5, 3), (118, .iload 4, 2), (120, .ireturn, 1)]
def mi_248 : AMI := (8, yX8_amount, cX8_amount, 7, (some .int), [], mc_248, 0, 2)
def mc_249 : List (Nat × Instr × Nat) := [(0, .aload_n 0, 1), (1, .iconst 0, 1), (2, .putfield 3, 3), (5, .aload_n 0, 1), (6, .invokevirtual 317, 3), (9, .iconst 0, 1), (10, .istore_n 1, 1), (11, .iconst 0, 1), (12, .istore_n 2, 1), (13, .iload_n 2, 1), (14, .aload_n 0, 1), (15, .getfield 157, 3), (18, .if_icmp .ge 32, 3), (21, .iload_n 1, 1), (22, .aload_n 0, 1), (23, .iload_n 2, 1), (24, .invokevirtual 378, 3), (27, .ifCond .eq 14, 3), (30, .aload_n 0, 1), (31, .iload_n 2, 1), (32, .invokevirtual 343, 3), (35, .bipush 10, 2), (37, .idiv, 1), (38, .goto 4, 3), (41, .iconst 0, 1), (42, .iadd, 1), (43, .istore_n 1, 1), (44, .iinc 2 1, 3), (47, .goto (-34), 3), (50, .iload_n 1, 1), (51, .ireturn, 1)]
def mi_249 : AMI := (8, yX8_worth, cX8_worth, 3, (some .int), [], mc_249, 0, 0)
def mc_250 : List (Nat × Instr × Nat) := [(0, .aload_n 0, 1), (1, .iconst 0, 1), (2, .putfield 3, 3), (5, .aload_n 0, 1), (6, .iload_n 1, 1), (7, .aload_n 0, 1), (8, .getfield 157, 3), (11, .invokevirtual 396, 3), (14, .ifCond .ne 5, 3), (17, .iconst 0, 1), (18, .ireturn, 1), (19, .aload_n 0, 1), (20, .invokevirtual 317, 3), (23, .iconst (-1), 1), (24, .istore_n 2, 1), (25, .iconst 0, 1), (26, .istore_n 3, 1), (27, .iload_n 3, 1), (28, .aload_n 0, 1), (29, .getfield 157, 3), (32, .if_icmp .ge 60, 3), (35, .iload_n 3, 1), (36, .iload_n 1, 1), (37, .if_icmp .eq 49, 3), (40, .aload_n 0, 1), (41, .iload_n 3, 1), (42, .invokevirtual 343, 3), (45, .ifCond .le 41, 3), (48, .iload_n 2, 1), (49, .iconst (-1), 1), (50, .if_icmp .eq 34, 3), (53, .aload_n 0, 1), (54, .iload_n 3, 1), (55, .invokevirtual 399, 3), (58, .aload_n 0, 1), (59, .iload_n 1, 1), (60, .invokevirtual 399, 3), (63, .isub, 1), (64, .invokestatic 411, 3), (67, .aload_n 0, 1), (68, .iload_n 2, 1), (69, .invokevirtual 399, 3), (72, .aload_n 0, 1), (73, .iload_n 1, 1), (74, .invokevirtual 399, 3), (77, .isub, 1), (78, .invokestatic 411, 3), (81, .if_icmp .ge 5, 3), (84, .iload_n 3, 1), (85, .istore_n 2, 1), (86, .iinc 3 1, 3), (89, .goto (-62), 3), (92, .iload_n 2, 1), (93, .ireturn, 1)]
def mi_250 : AMI := (8, yX8_like, cX8_like, 4, (some .int), [], mc_250, 0, 1)
def mc_251 : List (Nat × Instr × Nat) := [(0, .aload_n 0, 1), (1, .iconst 0, 1), (2, .putfield 3, 3), (5, .aload_n 0, 1), (6, .iload_n 1, 1), (7, .aload_n 0, 1), (8, .getfield 163, 3), (11, .invokevirtual 396, 3), (14, .ifCond .eq 18, 3), (17, .aload_n 0, 1), (18, .iload_n 2, 1), (19, .iconst 0, 1), (20, .iconst 1, 1), (21, .invokestatic 384, 3), (24, .iconst 2, 1), (25, .iconst 1, 1), (26, .invokevirtual 203, 3), (29, .ifCond .ne 5, 3), (32, .iconst 0, 1), (33, .ireturn, 1), (34, .aload_n 0, 1), (35, .invokevirtual 317, 3), (38, .iconst 0, 1), (39, .istore_n 3, 1), (40, .iconst 0, 1), (41, .istore 4, 2), (43, .iload 4, 2), (45, .aload_n 0, 1), (46, .getfield 157, 3), (49, .if_icmp .ge 19, 3), (52, .iload_n 3, 1), (53, .aload_n 0, 1), (54, .iload_n 1, 1), (55, .iload 4, 2), (57, .invokevirtual 366, 3), (60, .iadd, 1), (61, .istore_n 3, 1), (62, .iinc 4 1, 3), (65, .goto (-22), 3), (68, .iload_n 2, 1), (69, .ifCond .ne 7, 3), (72, .iload_n 3, 1), (73, .goto 9, 3), (76, .aload_n 0, 1), (77, .invokevirtual 387, 3), (80, .iload_n 3, 1), (81, .isub, 1), (82, .ireturn, 1)]
def mi_251 : AMI := (8, yX8_through, cX8_through, 5, (some .int), [], mc_251, 0, 2)
def mc_252 : List (Nat × Instr × Nat) := [(0, .aload_n 0, 1), (1, .aload_n 0, 1), (2, .getfield 438, 3), (5, .ldc_w 441, 3), (8, .imul, 1), (9, .sipush 12345, 3), (12, .iadd, 1), (13, .putfield 438, 3), (16, .aload_n 0, 1), (17, .getfield 438, 3), (20, .bipush 16, 2), (22, .ishr, 1), (23, .sipush 32767, 3), (26, .iand, 1), (27, .iload_n 1, 1), (28, .irem, 1), (29, .ireturn, 1)]
def mi_252 : AMI := (8, yX8_draws, cX8_draws, 2, (some .int), [], mc_252, 0, 1)
def mc_253 : List (Nat × Instr × Nat) := [(0, .aload_n 0, 1), (1, .invokevirtual 317, 3), (4, .aload_n 0, 1), (5, .iload_n 1, 1), (6, .putfield 438, 3), (9, .iconst 0, 1), (10, .istore 4, 2), (12, .iload 4, 2), (14, .iload_n 3, 1), (15, .if_icmp .ge 144, 3), (18, .aload_n 0, 1), (19, .getfield 157, 3), (22, .ifCond .le 35, 3), (25, .aload_n 0, 1), (26, .getfield 160, 3), (29, .ifCond .le 28, 3), (32, .aload_n 0, 1), (33, .aload_n 0, 1), (34, .getfield 160, 3), (37, .invokevirtual 442, 3), (40, .istore 5, 2), (42, .aload_n 0, 1), (43, .iload 5, 2), (45, .aload_n 0, 1), (46, .aload_n 0, 1), (47, .getfield 157, 3), (50, .invokevirtual 442, 3), (53, .invokevirtual 335, 3), (56, .pop, 1), (57, .aload_n 0, 1), (58, .getfield 157, 3), (61, .iconst 2, 1), (62, .if_icmp .le 67, 3), (65, .aload_n 0, 1), (66, .getfield 163, 3), (69, .ifCond .le 60, 3), (72, .aload_n 0, 1), (73, .aload_n 0, 1), (74, .getfield 163, 3), (77, .invokevirtual 442, 3), (80, .istore 5, 2), (82, .aload_n 0, 1), (83, .aload_n 0, 1), (84, .getfield 157, 3), (87, .invokevirtual 442, 3), (90, .istore 6, 2), (92, .aload_n 0, 1), (93, .bipush 16, 2), (95, .invokevirtual 442, 3), (98, .iload_n 2, 1), (99, .if_icmp .ge 30, 3), (102, .aload_n 0, 1), (103, .iload 5, 2), (105, .iload 6, 2), (107, .iload 6, 2), (109, .iconst 1, 1), (110, .iadd, 1), (111, .aload_n 0, 1), (112, .getfield 157, 3), (115, .irem, 1), (116, .iload 6, 2), (118, .iconst 2, 1), (119, .iadd, 1), (120, .aload_n 0, 1), (121, .getfield 157, 3), (124, .irem, 1), (125, .invokevirtual 339, 3), (128, .pop, 1), (129, .aload_n 0, 1), (130, .getfield 157, 3), (133, .ifCond .le 16, 3), (136, .aload_n 0, 1), (137, .aload_n 0, 1), (138, .aload_n 0, 1), (139, .getfield 157, 3), (142, .invokevirtual 442, 3), (145, .invokevirtual 350, 3), (148, .pop, 1), (149, .aload_n 0, 1), (150, .invokevirtual 353, 3), (153, .iinc 4 1, 3), (156, .goto (-144), 3), (159, .return_, 1)]
def mi_253 : AMI := (8, yX8_yearGoes, cX8_yearGoes, 7, none, [], mc_253, 0, 3)
def mc_254 : List (Nat × Instr × Nat) := [(0, .iload_n 0, 1), (1, .ifCond .lt 24, 3), (4, .iload_n 0, 1), (5, .bipush 16, 2), (7, .if_icmp .gt 18, 3), (10, .iload_n 1, 1), (11, .iconst 1, 1), (12, .if_icmp .lt 13, 3), (15, .iload_n 1, 1), (16, .bipush 48, 2), (18, .if_icmp .gt 7, 3), (21, .iconst 1, 1), (22, .goto 4, 3), (25, .iconst 0, 1), (26, .ireturn, 1)]
def mi_254 : AMI := (8, yX8_isYear, cX8_isYear, 2, (some .boolean), [], mc_254, 1, 2)
def mc_255 : List (Nat × Instr × Nat) := [(0, .aload_n 0, 1), (1, .iconst 0, 1), (2, .putfield 3, 3), (5, .aload_n 0, 1), (6, .iload_n 2, 1), (7, .iload_n 3, 1), (8, .invokestatic 445, 3), (11, .ifCond .eq 17, 3), (14, .iload 4, 2), (16, .iconst 0, 1), (17, .iconst 3, 1), (18, .invokestatic 384, 3), (21, .ifCond .eq 7, 3), (24, .iconst 1, 1), (25, .goto 4, 3), (28, .iconst 0, 1), (29, .iconst 1, 1), (30, .iconst 1, 1), (31, .invokevirtual 203, 3), (34, .ifCond .ne 5, 3), (37, .iconst 0, 1), (38, .ireturn, 1), (39, .aload_n 0, 1), (40, .iload_n 1, 1), (41, .iload_n 2, 1), (42, .iload_n 3, 1), (43, .invokevirtual 448, 3), (46, .iload 4, 2), (48, .ifCond .ne 21, 3), (51, .aload_n 0, 1), (52, .getfield 68, 3), (55, .bipush 36, 2), (57, .iaload, 1), (58, .aload_n 0, 1), (59, .getfield 65, 3), (62, .bipush 36, 2), (64, .iaload, 1), (65, .isub, 1), (66, .goto 44, 3), (69, .iload 4, 2), (71, .iconst 1, 1), (72, .if_icmp .ne 10, 3), (75, .aload_n 0, 1), (76, .invokevirtual 387, 3), (79, .goto 31, 3), (82, .iload 4, 2), (84, .iconst 2, 1), (85, .if_icmp .ne 21, 3), (88, .aload_n 0, 1), (89, .getfield 68, 3), (92, .bipush 35, 2), (94, .iaload, 1), (95, .aload_n 0, 1), (96, .getfield 65, 3), (99, .bipush 35, 2), (101, .iaload, 1), (102, .isub, 1), (103, .goto 7, 3), (106, .aload_n 0, 1), (107, .invokevirtual 390, 3), (110, .ireturn, 1)]
def mi_255 : AMI := (8, yX8_year, cX8_year, 5, (some .int), [], mc_255, 0, 4)
def mc_256_0 : List (Nat × Instr × Nat) := [(0, .aload_n 0, 1), (1, .iconst 0, 1), (2, .putfield 3, 3), (5, .aload_n 0, 1), (6, .iload_n 2, 1), (7, .iconst 1, 1), (8, .bipush 10, 2), (10, .invokestatic 384, 3), (13, .ifCond .eq 41, 3), (16, .iload_n 3, 1), (17, .iload 4, 2), (19, .invokestatic 445, 3), (22, .ifCond .eq 32, 3), (25, .iload 5, 2), (27, .iconst 0, 1), (28, .iconst 2, 1), (29, .invokestatic 384, 3), (32, .ifCond .eq 22, 3), (35, .iload 6, 2), (37, .iconst 0, 1), (38, .aload_n 0, 1), (39, .getfield 157, 3), (42, .iconst 1, 1), (43, .isub, 1), (44, .invokestatic 384, 3), (47, .ifCond .eq 7, 3), (50, .iconst 1, 1), (51, .goto 4, 3), (54, .iconst 0, 1), (55, .iconst 1, 1), (56, .iconst 1, 1), (57, .invokevirtual 203, 3), (60, .ifCond .ne 5, 3), (63, .iconst 0, 1), (64, .ireturn, 1), (65, .iconst (-1), 1), (66, .istore 7, 2), (68, .iconst 0, 1), (69, .istore 8, 2), (71, .iconst 0, 1), (72, .istore 9, 2), (74, .iconst 0, 1), (75, .istore 10, 2), (77, .iload 10, 2), (79, .iload_n 2, 1), (80, .if_icmp .ge 94, 3), (83, .aload_n 0, 1), (84, .iload_n 1, 1), (85, .iload 10, 2), (87, .iadd, 1), (88, .iload_n 3, 1), (89, .iload 4, 2), (91, .invokevirtual 448, 3), (94, .aload_n 0, 1), (95, .getfield 68, 3), (98, .bipush 36, 2), (100, .iaload, 1), (101, .aload_n 0, 1), (102, .getfield 65, 3), (105, .bipush 36, 2), (107, .iaload, 1), (108, .isub, 1), (109, .istore 11, 2), (111, .iload 7, 2), (113, .iconst (-1), 1), (114, .if_icmp .eq 10, 3), (117, .iload 11, 2), (119, .iload 7, 2), (121, .if_icmp .ge 8, 3), (124, .iload 11, 2), (126, .goto 5, 3), (129, .iload 7, 2), (131, .istore 7, 2), (133, .iload 11, 2), (135, .iload 8, 2), (137, .if_icmp .le 8, 3), (140, .iload 11, 2), (142, .goto 5, 3), (145, .iload 8, 2), (147, .istore 8, 2), (149, .iload 9, 2), (151, .aload_n 0, 1), (152, .iload 6, 2), (154, .invokevirtual 343, 3), (157, .ifCond .ne 7, 3), (160, .iconst 1, 1), (161, .goto 4, 3), (164, .iconst 0, 1), (165, .iadd, 1), (166, .istore 9, 2), (168, .iinc 10 1, 3), (171, .goto (-94), 3), (174, .iload 5, 2), (176, .ifCond .ne 8, 3), (179, .iload 7, 2), (181, .goto 16, 3), (184, .iload 5, 2), (186, .iconst 1, 1), (187, .if_icmp .ne 8, 3), (190, .iload 8, 2)]
def mc_256_1 : List (Nat × Instr × Nat) := [(192, .goto 5, 3), (195, .iload 9, 2), (197, .ireturn, 1)]
def mc_256 : List (Nat × Instr × Nat) := mc_256_0 ++ (mc_256_1)
def mi_256 : AMI := (8, yX8_span, cX8_span, 12, (some .int), [], mc_256, 0, 6)
def mc_257 : List (Nat × Instr × Nat) := [(0, .iconst 0, 1), (1, .istore 5, 2), (3, .iload 5, 2), (5, .iload_n 3, 1), (6, .if_icmp .ge 43, 3), (9, .iload 4, 2), (11, .ifCond .eq 19, 3), (14, .aload_n 0, 1), (15, .getfield 90, 3), (18, .iload_n 1, 1), (19, .iload 5, 2), (21, .iadd, 1), (22, .aload_n 2, 1), (23, .iload 5, 2), (25, .iaload, 1), (26, .iastore, 1), (27, .goto 16, 3), (30, .aload_n 2, 1), (31, .iload 5, 2), (33, .aload_n 0, 1), (34, .getfield 90, 3), (37, .iload_n 1, 1), (38, .iload 5, 2), (40, .iadd, 1), (41, .iaload, 1), (42, .iastore, 1), (43, .iinc 5 1, 3), (46, .goto (-43), 3), (49, .iload_n 1, 1), (50, .iload_n 3, 1), (51, .iadd, 1), (52, .ireturn, 1)]
def mi_257 : AMI := (8, yX8_keepsRow, cX8_keepsRow, 6, (some .int), [], mc_257, 0, 4)
def mc_258 : List (Nat × Instr × Nat) := [(0, .aload_n 0, 1), (1, .sipush 630, 3), (4, .iload_n 1, 1), (5, .imul, 1), (6, .aload_n 0, 1), (7, .getfield 65, 3), (10, .bipush 37, 2), (12, .iload_n 2, 1), (13, .invokevirtual 452, 3), (16, .istore_n 3, 1), (17, .aload_n 0, 1), (18, .iload_n 3, 1), (19, .aload_n 0, 1), (20, .getfield 71, 3), (23, .sipush 592, 3), (26, .iload_n 2, 1), (27, .invokevirtual 452, 3), (30, .istore_n 3, 1), (31, .iload_n 2, 1), (32, .ifCond .eq 16, 3), (35, .aload_n 0, 1), (36, .getfield 90, 3), (39, .iload_n 3, 1), (40, .aload_n 0, 1), (41, .getfield 182, 3), (44, .iastore, 1), (45, .goto 13, 3), (48, .aload_n 0, 1), (49, .aload_n 0, 1), (50, .getfield 90, 3), (53, .iload_n 3, 1), (54, .iaload, 1), (55, .putfield 182, 3), (58, .return_, 1)]
def mi_258 : AMI := (8, yX8_keepsAll, cX8_keepsAll, 4, none, [], mc_258, 0, 2)
def mc_259 : List (Nat × Instr × Nat) := [(0, .aload_n 0, 1), (1, .iconst 0, 1), (2, .putfield 3, 3), (5, .aload_n 0, 1), (6, .getfield 185, 3), (9, .iconst 3, 1), (10, .if_icmp .ne 5, 3), (13, .iconst (-1), 1), (14, .ireturn, 1), (15, .aload_n 0, 1), (16, .aload_n 0, 1), (17, .getfield 185, 3), (20, .iconst 1, 1), (21, .invokevirtual 456, 3), (24, .aload_n 0, 1), (25, .dup, 1), (26, .getfield 185, 3), (29, .iconst 1, 1), (30, .iadd, 1), (31, .putfield 185, 3), (34, .aload_n 0, 1), (35, .getfield 185, 3), (38, .ireturn, 1)]
def mi_259 : AMI := (8, yX8_image, cX8_image, 1, (some .int), [], mc_259, 0, 0)
def mc_260 : List (Nat × Instr × Nat) := [(0, .aload_n 0, 1), (1, .iconst 0, 1), (2, .putfield 3, 3), (5, .aload_n 0, 1), (6, .getfield 185, 3), (9, .ifCond .ne 5, 3), (12, .iconst (-1), 1), (13, .ireturn, 1), (14, .aload_n 0, 1), (15, .dup, 1), (16, .getfield 185, 3), (19, .iconst 1, 1), (20, .isub, 1), (21, .putfield 185, 3), (24, .aload_n 0, 1), (25, .aload_n 0, 1), (26, .getfield 185, 3), (29, .iconst 0, 1), (30, .invokevirtual 456, 3), (33, .aload_n 0, 1), (34, .iconst 0, 1), (35, .putfield 188, 3), (38, .aload_n 0, 1), (39, .getfield 185, 3), (42, .ireturn, 1)]
def mi_260 : AMI := (8, yX8_restore, cX8_restore, 1, (some .int), [], mc_260, 0, 0)
def mc_261 : List (Nat × Instr × Nat) := [(0, .aload_n 0, 1), (1, .iconst 0, 1), (2, .putfield 3, 3), (5, .iload_n 1, 1), (6, .iconst 0, 1), (7, .iconst 1, 1), (8, .invokestatic 384, 3), (11, .ifCond .eq 12, 3), (14, .aload_n 0, 1), (15, .getfield 7, 3), (18, .iload_n 1, 1), (19, .iaload, 1), (20, .goto 4, 3), (23, .iconst (-1), 1), (24, .ireturn, 1)]
def mi_261 : AMI := (8, yX8_status, cX8_status, 2, (some .int), [], mc_261, 0, 1)
def mc_262 : List (Nat × Instr × Nat) := [(0, .aload_n 0, 1), (1, .iconst 0, 1), (2, .putfield 3, 3), (5, .iload_n 1, 1), (6, .ifCond .ne 10, 3), (9, .aload_n 0, 1), (10, .getfield 185, 3), (13, .goto 28, 3), (16, .iload_n 1, 1), (17, .iconst 1, 1), (18, .if_icmp .ne 10, 3), (21, .aload_n 0, 1), (22, .getfield 99, 3), (25, .goto 16, 3), (28, .iload_n 1, 1), (29, .iconst 2, 1), (30, .if_icmp .ne 10, 3), (33, .aload_n 0, 1), (34, .getfield 182, 3), (37, .goto 4, 3), (40, .iconst (-1), 1), (41, .ireturn, 1)]
def mi_262 : AMI := (8, yX8_count, cX8_count, 2, (some .int), [], mc_262, 0, 1)
def mc_263 : List (Nat × Instr × Nat) := [(0, .aload_n 2, 1), (1, .iconst 0, 1), (2, .aload_n 0, 1), (3, .iload_n 1, 1), (4, .invokevirtual 7, 3), (7, .i2l, 1), (8, .lastore, 1), (9, .goto 6, 3), (12, .astore_n 3, 1), (13, .iconst 1, 1), (14, .ireturn, 1), (15, .iconst 0, 1), (16, .ireturn, 1)]
def mi_263 : AMI := (9, yL_mill, cL_mill, 4, (some .int), [(0, 9, 12, 13)], mc_263, 1, 3)
def mc_264 : List (Nat × Instr × Nat) := [(0, .aload_n 2, 1), (1, .iconst 0, 1), (2, .aload_n 0, 1), (3, .iload_n 1, 1), (4, .invokevirtual 15, 3), (7, .i2l, 1), (8, .lastore, 1), (9, .goto 6, 3), (12, .astore_n 3, 1), (13, .iconst 1, 1), (14, .ireturn, 1), (15, .iconst 0, 1), (16, .ireturn, 1)]
def mi_264 : AMI := (9, yL_law, cL_law, 4, (some .int), [(0, 9, 12, 13)], mc_264, 1, 3)
def mc_265 : List (Nat × Instr × Nat) := [(0, .aload_n 2, 1), (1, .iconst 0, 1), (2, .aload_n 0, 1), (3, .iload_n 1, 1), (4, .invokevirtual 18, 3), (7, .i2l, 1), (8, .lastore, 1), (9, .goto 6, 3), (12, .astore_n 3, 1), (13, .iconst 1, 1), (14, .ireturn, 1), (15, .iconst 0, 1), (16, .ireturn, 1)]
def mi_265 : AMI := (9, yL_work, cL_work, 4, (some .int), [(0, 9, 12, 13)], mc_265, 1, 3)
def mc_266 : List (Nat × Instr × Nat) := [(0, .aload_n 2, 1), (1, .iconst 0, 1), (2, .aload_n 0, 1), (3, .iload_n 1, 1), (4, .invokevirtual 21, 3), (7, .i2l, 1), (8, .lastore, 1), (9, .goto 6, 3), (12, .astore_n 3, 1), (13, .iconst 1, 1), (14, .ireturn, 1), (15, .iconst 0, 1), (16, .ireturn, 1)]
def mi_266 : AMI := (9, yL_stack, cL_stack, 4, (some .int), [(0, 9, 12, 13)], mc_266, 1, 3)
def mc_267 : List (Nat × Instr × Nat) := [(0, .aload_n 2, 1), (1, .iconst 0, 1), (2, .aload_n 0, 1), (3, .iload_n 1, 1), (4, .invokevirtual 24, 3), (7, .i2l, 1), (8, .lastore, 1), (9, .goto 6, 3), (12, .astore_n 3, 1), (13, .iconst 1, 1), (14, .ireturn, 1), (15, .iconst 0, 1), (16, .ireturn, 1)]
def mi_267 : AMI := (9, yL_book, cL_book, 4, (some .int), [(0, 9, 12, 13)], mc_267, 1, 3)
def mc_268 : List (Nat × Instr × Nat) := [(0, .aload_n 2, 1), (1, .iconst 0, 1), (2, .aload_n 0, 1), (3, .iload_n 1, 1), (4, .invokevirtual 27, 3), (7, .i2l, 1), (8, .lastore, 1), (9, .goto 6, 3), (12, .astore_n 3, 1), (13, .iconst 1, 1), (14, .ireturn, 1), (15, .iconst 0, 1), (16, .ireturn, 1)]
def mi_268 : AMI := (9, yL_told, cL_told, 4, (some .int), [(0, 9, 12, 13)], mc_268, 1, 3)
def mc_269 : List (Nat × Instr × Nat) := [(0, .aload_n 3, 1), (1, .iconst 0, 1), (2, .aload_n 0, 1), (3, .iload_n 1, 1), (4, .iload_n 2, 1), (5, .invokevirtual 30, 3), (8, .i2l, 1), (9, .lastore, 1), (10, .goto 11, 3), (13, .astore 4, 2), (15, .iconst 1, 1), (16, .ireturn, 1), (17, .astore 4, 2), (19, .iconst 2, 1), (20, .ireturn, 1), (21, .iconst 0, 1), (22, .ireturn, 1)]
def mi_269 : AMI := (9, yL_jar, cL_jar, 5, (some .int), [(0, 10, 13, 34), (0, 10, 17, 13)], mc_269, 1, 4)
def mc_270 : List (Nat × Instr × Nat) := [(0, .aload_n 3, 1), (1, .iconst 0, 1), (2, .aload_n 0, 1), (3, .iload_n 1, 1), (4, .iload_n 2, 1), (5, .invokevirtual 36, 3), (8, .i2l, 1), (9, .lastore, 1), (10, .goto 11, 3), (13, .astore 4, 2), (15, .iconst 1, 1), (16, .ireturn, 1), (17, .astore 4, 2), (19, .iconst 2, 1), (20, .ireturn, 1), (21, .iconst 0, 1), (22, .ireturn, 1)]
def mi_270 : AMI := (9, yL_stone, cL_stone, 5, (some .int), [(0, 10, 13, 34), (0, 10, 17, 13)], mc_270, 1, 4)
def mc_271 : List (Nat × Instr × Nat) := [(0, .aload_n 3, 1), (1, .iconst 0, 1), (2, .aload_n 0, 1), (3, .iload_n 1, 1), (4, .iload_n 2, 1), (5, .invokevirtual 39, 3), (8, .i2l, 1), (9, .lastore, 1), (10, .goto 11, 3), (13, .astore 4, 2), (15, .iconst 1, 1), (16, .ireturn, 1), (17, .astore 4, 2), (19, .iconst 2, 1), (20, .ireturn, 1), (21, .iconst 0, 1), (22, .ireturn, 1)]
def mi_271 : AMI := (9, yL_sieve, cL_sieve, 5, (some .int), [(0, 10, 13, 34), (0, 10, 17, 13)], mc_271, 1, 4)
def mc_272 : List (Nat × Instr × Nat) := [(0, .aload_n 2, 1), (1, .iconst 0, 1), (2, .aload_n 0, 1), (3, .iload_n 1, 1), (4, .invokevirtual 42, 3), (7, .i2l, 1), (8, .lastore, 1), (9, .goto 6, 3), (12, .astore_n 3, 1), (13, .iconst 1, 1), (14, .ireturn, 1), (15, .iconst 0, 1), (16, .ireturn, 1)]
def mi_272 : AMI := (9, yL_sneeze, cL_sneeze, 4, (some .int), [(0, 9, 12, 34)], mc_272, 1, 3)
def mc_273 : List (Nat × Instr × Nat) := [(0, .aload 8, 2), (2, .iconst 0, 1), (3, .aload_n 0, 1), (4, .iload_n 1, 1), (5, .iload_n 2, 1), (6, .iload_n 3, 1), (7, .iload 4, 2), (9, .iload 5, 2), (11, .iload 6, 2), (13, .iload 7, 2), (15, .invokevirtual 45, 3), (18, .i2l, 1), (19, .lastore, 1), (20, .goto 7, 3), (23, .astore 9, 2), (25, .iconst 1, 1), (26, .ireturn, 1), (27, .iconst 0, 1), (28, .ireturn, 1)]
def mi_273 : AMI := (9, yL_would, cL_would, 10, (some .int), [(0, 20, 23, 13)], mc_273, 1, 9)
def mc_274 : List (Nat × Instr × Nat) := [(0, .aload 4, 2), (2, .iconst 0, 1), (3, .aload_n 0, 1), (4, .iload_n 1, 1), (5, .iload_n 2, 1), (6, .iload_n 3, 1), (7, .invokevirtual 49, 3), (10, .i2l, 1), (11, .lastore, 1), (12, .goto 11, 3), (15, .astore 5, 2), (17, .iconst 1, 1), (18, .ireturn, 1), (19, .astore 5, 2), (21, .iconst 2, 1), (22, .ireturn, 1), (23, .iconst 0, 1), (24, .ireturn, 1)]
def mi_274 : AMI := (9, yL_ground, cL_ground, 6, (some .int), [(0, 12, 15, 34), (0, 12, 19, 13)], mc_274, 1, 5)
def mc_275 : List (Nat × Instr × Nat) := [(0, .aload 4, 2), (2, .iconst 0, 1), (3, .aload_n 0, 1), (4, .iload_n 1, 1), (5, .iload_n 2, 1), (6, .iload_n 3, 1), (7, .invokevirtual 53, 3), (10, .i2l, 1), (11, .lastore, 1), (12, .goto 11, 3), (15, .astore 5, 2), (17, .iconst 1, 1), (18, .ireturn, 1), (19, .astore 5, 2), (21, .iconst 2, 1), (22, .ireturn, 1), (23, .iconst 0, 1), (24, .ireturn, 1)]
def mi_275 : AMI := (9, yL_falls, cL_falls, 6, (some .int), [(0, 12, 15, 34), (0, 12, 19, 13)], mc_275, 1, 5)
def mc_276 : List (Nat × Instr × Nat) := [(0, .aload 4, 2), (2, .iconst 0, 1), (3, .aload_n 0, 1), (4, .iload_n 1, 1), (5, .iload_n 2, 1), (6, .iload_n 3, 1), (7, .invokevirtual 56, 3), (10, .i2l, 1), (11, .lastore, 1), (12, .goto 11, 3), (15, .astore 5, 2), (17, .iconst 1, 1), (18, .ireturn, 1), (19, .astore 5, 2), (21, .iconst 2, 1), (22, .ireturn, 1), (23, .iconst 0, 1), (24, .ireturn, 1)]
def mi_276 : AMI := (9, yL_milled, cL_milled, 6, (some .int), [(0, 12, 15, 34), (0, 12, 19, 13)], mc_276, 1, 5)
def mc_277 : List (Nat × Instr × Nat) := [(0, .aload_n 3, 1), (1, .iconst 0, 1), (2, .aload_n 0, 1), (3, .iload_n 1, 1), (4, .iload_n 2, 1), (5, .invokevirtual 59, 3), (8, .i2l, 1), (9, .lastore, 1), (10, .goto 11, 3), (13, .astore 4, 2), (15, .iconst 1, 1), (16, .ireturn, 1), (17, .astore 4, 2), (19, .iconst 2, 1), (20, .ireturn, 1), (21, .iconst 0, 1), (22, .ireturn, 1)]
def mi_277 : AMI := (9, yL_stays, cL_stays, 5, (some .int), [(0, 10, 13, 34), (0, 10, 17, 13)], mc_277, 1, 4)
def mc_278 : List (Nat × Instr × Nat) := [(0, .aload_n 3, 1), (1, .iconst 0, 1), (2, .aload_n 0, 1), (3, .iload_n 1, 1), (4, .iload_n 2, 1), (5, .invokevirtual 62, 3), (8, .i2l, 1), (9, .lastore, 1), (10, .goto 7, 3), (13, .astore 4, 2), (15, .iconst 1, 1), (16, .ireturn, 1), (17, .iconst 0, 1), (18, .ireturn, 1)]
def mi_278 : AMI := (9, yL_halves, cL_halves, 5, (some .int), [(0, 10, 13, 13)], mc_278, 1, 4)
def mc_279 : List (Nat × Instr × Nat) := [(0, .aload 4, 2), (2, .iconst 0, 1), (3, .aload_n 0, 1), (4, .iload_n 1, 1), (5, .iload_n 2, 1), (6, .iload_n 3, 1), (7, .invokevirtual 65, 3), (10, .i2l, 1), (11, .lastore, 1), (12, .goto 7, 3), (15, .astore 5, 2), (17, .iconst 1, 1), (18, .ireturn, 1), (19, .iconst 0, 1), (20, .ireturn, 1)]
def mi_279 : AMI := (9, yL_box, cL_box, 6, (some .int), [(0, 12, 15, 13)], mc_279, 1, 5)
def mc_280 : List (Nat × Instr × Nat) := [(0, .aload_n 2, 1), (1, .iconst 0, 1), (2, .aload_n 0, 1), (3, .iload_n 1, 1), (4, .invokevirtual 68, 3), (7, .i2l, 1), (8, .lastore, 1), (9, .goto 6, 3), (12, .astore_n 3, 1), (13, .iconst 1, 1), (14, .ireturn, 1), (15, .iconst 0, 1), (16, .ireturn, 1)]
def mi_280 : AMI := (9, yL_fits, cL_fits, 4, (some .int), [(0, 9, 12, 13)], mc_280, 1, 3)
def mc_281 : List (Nat × Instr × Nat) := [(0, .aload_n 2, 1), (1, .iconst 0, 1), (2, .aload_n 0, 1), (3, .iload_n 1, 1), (4, .invokevirtual 71, 3), (7, .i2l, 1), (8, .lastore, 1), (9, .goto 6, 3), (12, .astore_n 3, 1), (13, .iconst 1, 1), (14, .ireturn, 1), (15, .iconst 0, 1), (16, .ireturn, 1)]
def mi_281 : AMI := (9, yL_look, cL_look, 4, (some .int), [(0, 9, 12, 13)], mc_281, 1, 3)
def mc_282 : List (Nat × Instr × Nat) := [(0, .aload 5, 2), (2, .iconst 0, 1), (3, .aload_n 0, 1), (4, .iload_n 1, 1), (5, .iload_n 2, 1), (6, .iload_n 3, 1), (7, .iload 4, 2), (9, .invokevirtual 74, 3), (12, .lastore, 1), (13, .goto 7, 3), (16, .astore 6, 2), (18, .iconst 1, 1), (19, .ireturn, 1), (20, .iconst 0, 1), (21, .ireturn, 1)]
def mi_282 : AMI := (9, yL_fit, cL_fit, 7, (some .int), [(0, 13, 16, 13)], mc_282, 1, 6)
def mc_283 : List (Nat × Instr × Nat) := [(0, .aload 4, 2), (2, .iconst 0, 1), (3, .aload_n 0, 1), (4, .iload_n 1, 1), (5, .iload_n 2, 1), (6, .iload_n 3, 1), (7, .invokevirtual 78, 3), (10, .i2l, 1), (11, .lastore, 1), (12, .goto 7, 3), (15, .astore 5, 2), (17, .iconst 1, 1), (18, .ireturn, 1), (19, .iconst 0, 1), (20, .ireturn, 1)]
def mi_283 : AMI := (9, yL_shops, cL_shops, 6, (some .int), [(0, 12, 15, 13)], mc_283, 1, 5)
def mc_284 : List (Nat × Instr × Nat) := [(0, .aload 4, 2), (2, .iconst 0, 1), (3, .aload_n 0, 1), (4, .iload_n 1, 1), (5, .iload_n 2, 1), (6, .iload_n 3, 1), (7, .invokevirtual 81, 3), (10, .i2l, 1), (11, .lastore, 1), (12, .goto 11, 3), (15, .astore 5, 2), (17, .iconst 1, 1), (18, .ireturn, 1), (19, .astore 5, 2), (21, .iconst 2, 1), (22, .ireturn, 1), (23, .iconst 0, 1), (24, .ireturn, 1)]
def mi_284 : AMI := (9, yL_shelf, cL_shelf, 6, (some .int), [(0, 12, 15, 34), (0, 12, 19, 13)], mc_284, 1, 5)
def mc_285 : List (Nat × Instr × Nat) := [(0, .aload_n 2, 1), (1, .iconst 0, 1), (2, .aload_n 0, 1), (3, .iload_n 1, 1), (4, .invokevirtual 84, 3), (7, .i2l, 1), (8, .lastore, 1), (9, .goto 6, 3), (12, .astore_n 3, 1), (13, .iconst 1, 1), (14, .ireturn, 1), (15, .iconst 0, 1), (16, .ireturn, 1)]
def mi_285 : AMI := (9, yL_sharpest, cL_sharpest, 4, (some .int), [(0, 9, 12, 13)], mc_285, 1, 3)
def mc_286 : List (Nat × Instr × Nat) := [(0, .aload_n 3, 1), (1, .iconst 0, 1), (2, .aload_n 0, 1), (3, .iload_n 1, 1), (4, .iload_n 2, 1), (5, .invokevirtual 87, 3), (8, .i2l, 1), (9, .lastore, 1), (10, .goto 7, 3), (13, .astore 4, 2), (15, .iconst 1, 1), (16, .ireturn, 1), (17, .iconst 0, 1), (18, .ireturn, 1)]
def mi_286 : AMI := (9, yL_blend, cL_blend, 5, (some .int), [(0, 10, 13, 34)], mc_286, 1, 4)
def mc_287 : List (Nat × Instr × Nat) := [(0, .aload_n 2, 1), (1, .iconst 0, 1), (2, .aload_n 0, 1), (3, .iload_n 1, 1), (4, .invokevirtual 90, 3), (7, .i2l, 1), (8, .lastore, 1), (9, .goto 6, 3), (12, .astore_n 3, 1), (13, .iconst 1, 1), (14, .ireturn, 1), (15, .iconst 0, 1), (16, .ireturn, 1)]
def mi_287 : AMI := (9, yL_ripens, cL_ripens, 4, (some .int), [(0, 9, 12, 34)], mc_287, 1, 3)
def mc_288 : List (Nat × Instr × Nat) := [(0, .aload_n 2, 1), (1, .iconst 0, 1), (2, .aload_n 0, 1), (3, .iload_n 1, 1), (4, .invokevirtual 93, 3), (7, .i2l, 1), (8, .lastore, 1), (9, .goto 6, 3), (12, .astore_n 3, 1), (13, .iconst 1, 1), (14, .ireturn, 1), (15, .iconst 0, 1), (16, .ireturn, 1)]
def mi_288 : AMI := (9, yL_space, cL_space, 4, (some .int), [(0, 9, 12, 34)], mc_288, 1, 3)
def mc_289 : List (Nat × Instr × Nat) := [(0, .aload_n 2, 1), (1, .iconst 0, 1), (2, .aload_n 0, 1), (3, .iload_n 1, 1), (4, .invokevirtual 96, 3), (7, .i2l, 1), (8, .lastore, 1), (9, .goto 6, 3), (12, .astore_n 3, 1), (13, .iconst 1, 1), (14, .ireturn, 1), (15, .iconst 0, 1), (16, .ireturn, 1)]
def mi_289 : AMI := (9, yL_oldest, cL_oldest, 4, (some .int), [(0, 9, 12, 13)], mc_289, 1, 3)
def mc_290 : List (Nat × Instr × Nat) := [(0, .aload_n 2, 1), (1, .iconst 0, 1), (2, .aload_n 0, 1), (3, .iload_n 1, 1), (4, .invokevirtual 99, 3), (7, .i2l, 1), (8, .lastore, 1), (9, .goto 6, 3), (12, .astore_n 3, 1), (13, .iconst 1, 1), (14, .ireturn, 1), (15, .iconst 0, 1), (16, .ireturn, 1)]
def mi_290 : AMI := (9, yL_passes, cL_passes, 4, (some .int), [(0, 9, 12, 34)], mc_290, 1, 3)
def mc_291 : List (Nat × Instr × Nat) := [(0, .aload_n 3, 1), (1, .iconst 0, 1), (2, .aload_n 0, 1), (3, .iload_n 1, 1), (4, .iload_n 2, 1), (5, .invokevirtual 102, 3), (8, .i2l, 1), (9, .lastore, 1), (10, .goto 7, 3), (13, .astore 4, 2), (15, .iconst 1, 1), (16, .ireturn, 1), (17, .iconst 0, 1), (18, .ireturn, 1)]
def mi_291 : AMI := (9, yL_amount, cL_amount, 5, (some .int), [(0, 10, 13, 13)], mc_291, 1, 4)
def mc_292 : List (Nat × Instr × Nat) := [(0, .aload_n 2, 1), (1, .iconst 0, 1), (2, .aload_n 0, 1), (3, .iload_n 1, 1), (4, .invokevirtual 105, 3), (7, .i2l, 1), (8, .lastore, 1), (9, .goto 6, 3), (12, .astore_n 3, 1), (13, .iconst 1, 1), (14, .ireturn, 1), (15, .iconst 0, 1), (16, .ireturn, 1)]
def mi_292 : AMI := (9, yL_like, cL_like, 4, (some .int), [(0, 9, 12, 34)], mc_292, 1, 3)
def mc_293 : List (Nat × Instr × Nat) := [(0, .aload_n 3, 1), (1, .iconst 0, 1), (2, .aload_n 0, 1), (3, .iload_n 1, 1), (4, .iload_n 2, 1), (5, .invokevirtual 108, 3), (8, .i2l, 1), (9, .lastore, 1), (10, .goto 11, 3), (13, .astore 4, 2), (15, .iconst 1, 1), (16, .ireturn, 1), (17, .astore 4, 2), (19, .iconst 2, 1), (20, .ireturn, 1), (21, .iconst 0, 1), (22, .ireturn, 1)]
def mi_293 : AMI := (9, yL_through, cL_through, 5, (some .int), [(0, 10, 13, 34), (0, 10, 17, 13)], mc_293, 1, 4)
def mc_294 : List (Nat × Instr × Nat) := [(0, .aload 5, 2), (2, .iconst 0, 1), (3, .aload_n 0, 1), (4, .iload_n 1, 1), (5, .iload_n 2, 1), (6, .iload_n 3, 1), (7, .iload 4, 2), (9, .invokevirtual 111, 3), (12, .i2l, 1), (13, .lastore, 1), (14, .goto 7, 3), (17, .astore 6, 2), (19, .iconst 1, 1), (20, .ireturn, 1), (21, .iconst 0, 1), (22, .ireturn, 1)]
def mi_294 : AMI := (9, yL_year, cL_year, 7, (some .int), [(0, 14, 17, 13)], mc_294, 1, 6)
def mc_295 : List (Nat × Instr × Nat) := [(0, .aload 7, 2), (2, .iconst 0, 1), (3, .aload_n 0, 1), (4, .iload_n 1, 1), (5, .iload_n 2, 1), (6, .iload_n 3, 1), (7, .iload 4, 2), (9, .iload 5, 2), (11, .iload 6, 2), (13, .invokevirtual 115, 3), (16, .i2l, 1), (17, .lastore, 1), (18, .goto 7, 3), (21, .astore 8, 2), (23, .iconst 1, 1), (24, .ireturn, 1), (25, .iconst 0, 1), (26, .ireturn, 1)]
def mi_295 : AMI := (9, yL_span, cL_span, 9, (some .int), [(0, 18, 21, 13)], mc_295, 1, 8)
def mc_296_0 : List (Nat × Instr × Nat) := [(0, .new 8, 3), (3, .dup, 1), (4, .invokespecial 119, 3), (7, .astore_n 1, 1), (8, .new 120, 3), (11, .dup, 1), (12, .invokespecial 122, 3), (15, .astore_n 2, 1), (16, .iconst 1, 1), (17, .newarray .long, 2), (19, .astore_n 3, 1), (20, .iconst 0, 1), (21, .istore 4, 2), (23, .iload 4, 2), (25, .aload_n 0, 1), (26, .arraylength, 1), (27, .bipush 8, 2), (29, .isub, 1), (30, .if_icmp .gt 2715, 3), (33, .aload_n 0, 1), (34, .iload 4, 2), (36, .iaload, 1), (37, .bipush 63, 2), (39, .iand, 1), (40, .tableswitch 2699 0 42 #[188, 261, 317, 373, 429, 485, 541, 554, 567, 623, 691, 759, 827, 883, 1015, 1095, 1175, 1255, 1323, 1391, 1471, 1527, 1583, 1674, 1754, 1834, 1890, 1903, 1971, 1984, 2040, 2096, 2152, 2208, 2276, 2289, 2345, 2413, 2505, 2623, 2636, 2649, 2674], 188), (228, .aload_n 1, 1), (229, .aload_n 0, 1), (230, .iload 4, 2), (232, .iconst 1, 1), (233, .iadd, 1), (234, .iaload, 1), (235, .aload_n 0, 1), (236, .iload 4, 2), (238, .iconst 2, 1), (239, .iadd, 1), (240, .iaload, 1), (241, .aload_n 0, 1), (242, .iload 4, 2), (244, .iconst 3, 1), (245, .iadd, 1), (246, .iaload, 1), (247, .aload_n 0, 1), (248, .iload 4, 2), (250, .iconst 4, 1), (251, .iadd, 1), (252, .iaload, 1), (253, .aload_n 0, 1), (254, .iload 4, 2), (256, .iconst 5, 1), (257, .iadd, 1), (258, .iaload, 1), (259, .invokevirtual 123, 3), (262, .aload_n 2, 1), (263, .aload_n 0, 1), (264, .iload 4, 2), (266, .iconst 1, 1), (267, .iadd, 1), (268, .iaload, 1), (269, .aload_n 0, 1), (270, .iload 4, 2), (272, .iconst 2, 1), (273, .iadd, 1), (274, .iaload, 1), (275, .aload_n 0, 1), (276, .iload 4, 2), (278, .iconst 3, 1), (279, .iadd, 1), (280, .iaload, 1), (281, .aload_n 0, 1), (282, .iload 4, 2), (284, .iconst 4, 1), (285, .iadd, 1), (286, .iaload, 1), (287, .aload_n 0, 1), (288, .iload 4, 2), (290, .iconst 5, 1), (291, .iadd, 1), (292, .iaload, 1), (293, .invokevirtual 127, 3), (296, .if_icmp .eq 2443, 3), (299, .iconst 0, 1), (300, .ireturn, 1), (301, .aload_n 1, 1), (302, .aload_n 0, 1), (303, .iload 4, 2), (305, .iconst 1, 1), (306, .iadd, 1), (307, .iaload, 1), (308, .aload_n 3, 1), (309, .invokestatic 128, 3), (312, .istore 5, 2), (314, .aload_n 2, 1), (315, .aload_n 0, 1), (316, .iload 4, 2), (318, .iconst 1, 1), (319, .iadd, 1), (320, .iaload, 1), (321, .invokevirtual 133, 3), (324, .istore 6, 2), (326, .aload_n 2, 1)]
def mc_296_1 : List (Nat × Instr × Nat) := [(327, .invokevirtual 134, 3), (330, .iload 5, 2), (332, .if_icmp .eq 5, 3), (335, .iconst 0, 1), (336, .ireturn, 1), (337, .iload 5, 2), (339, .ifCond .ne 15, 3), (342, .aload_n 3, 1), (343, .iconst 0, 1), (344, .laload, 1), (345, .iload 6, 2), (347, .i2l, 1), (348, .lcmp, 1), (349, .ifCond .eq 5, 3), (352, .iconst 0, 1), (353, .ireturn, 1), (354, .goto 2385, 3), (357, .aload_n 1, 1), (358, .aload_n 0, 1), (359, .iload 4, 2), (361, .iconst 1, 1), (362, .iadd, 1), (363, .iaload, 1), (364, .aload_n 3, 1), (365, .invokestatic 138, 3), (368, .istore 5, 2), (370, .aload_n 2, 1), (371, .aload_n 0, 1), (372, .iload 4, 2), (374, .iconst 1, 1), (375, .iadd, 1), (376, .iaload, 1), (377, .invokevirtual 140, 3), (380, .istore 6, 2), (382, .aload_n 2, 1), (383, .invokevirtual 134, 3), (386, .iload 5, 2), (388, .if_icmp .eq 5, 3), (391, .iconst 0, 1), (392, .ireturn, 1), (393, .iload 5, 2), (395, .ifCond .ne 15, 3), (398, .aload_n 3, 1), (399, .iconst 0, 1), (400, .laload, 1), (401, .iload 6, 2), (403, .i2l, 1), (404, .lcmp, 1), (405, .ifCond .eq 5, 3), (408, .iconst 0, 1), (409, .ireturn, 1), (410, .goto 2329, 3), (413, .aload_n 1, 1), (414, .aload_n 0, 1), (415, .iload 4, 2), (417, .iconst 1, 1), (418, .iadd, 1), (419, .iaload, 1), (420, .aload_n 3, 1), (421, .invokestatic 141, 3), (424, .istore 5, 2), (426, .aload_n 2, 1), (427, .aload_n 0, 1), (428, .iload 4, 2), (430, .iconst 1, 1), (431, .iadd, 1), (432, .iaload, 1), (433, .invokevirtual 143, 3), (436, .istore 6, 2), (438, .aload_n 2, 1), (439, .invokevirtual 134, 3), (442, .iload 5, 2), (444, .if_icmp .eq 5, 3), (447, .iconst 0, 1), (448, .ireturn, 1), (449, .iload 5, 2), (451, .ifCond .ne 15, 3), (454, .aload_n 3, 1), (455, .iconst 0, 1), (456, .laload, 1), (457, .iload 6, 2), (459, .i2l, 1), (460, .lcmp, 1), (461, .ifCond .eq 5, 3), (464, .iconst 0, 1), (465, .ireturn, 1), (466, .goto 2273, 3), (469, .aload_n 1, 1), (470, .aload_n 0, 1), (471, .iload 4, 2), (473, .iconst 1, 1), (474, .iadd, 1), (475, .iaload, 1), (476, .aload_n 3, 1), (477, .invokestatic 144, 3), (480, .istore 5, 2), (482, .aload_n 2, 1), (483, .aload_n 0, 1), (484, .iload 4, 2), (486, .iconst 1, 1)]
def mc_296_2 : List (Nat × Instr × Nat) := [(487, .iadd, 1), (488, .iaload, 1), (489, .invokevirtual 146, 3), (492, .istore 6, 2), (494, .aload_n 2, 1), (495, .invokevirtual 134, 3), (498, .iload 5, 2), (500, .if_icmp .eq 5, 3), (503, .iconst 0, 1), (504, .ireturn, 1), (505, .iload 5, 2), (507, .ifCond .ne 15, 3), (510, .aload_n 3, 1), (511, .iconst 0, 1), (512, .laload, 1), (513, .iload 6, 2), (515, .i2l, 1), (516, .lcmp, 1), (517, .ifCond .eq 5, 3), (520, .iconst 0, 1), (521, .ireturn, 1), (522, .goto 2217, 3), (525, .aload_n 1, 1), (526, .aload_n 0, 1), (527, .iload 4, 2), (529, .iconst 1, 1), (530, .iadd, 1), (531, .iaload, 1), (532, .aload_n 3, 1), (533, .invokestatic 147, 3), (536, .istore 5, 2), (538, .aload_n 2, 1), (539, .aload_n 0, 1), (540, .iload 4, 2), (542, .iconst 1, 1), (543, .iadd, 1), (544, .iaload, 1), (545, .invokevirtual 149, 3), (548, .istore 6, 2), (550, .aload_n 2, 1), (551, .invokevirtual 134, 3), (554, .iload 5, 2), (556, .if_icmp .eq 5, 3), (559, .iconst 0, 1), (560, .ireturn, 1), (561, .iload 5, 2), (563, .ifCond .ne 15, 3), (566, .aload_n 3, 1), (567, .iconst 0, 1), (568, .laload, 1), (569, .iload 6, 2), (571, .i2l, 1), (572, .lcmp, 1), (573, .ifCond .eq 5, 3), (576, .iconst 0, 1), (577, .ireturn, 1), (578, .goto 2161, 3), (581, .aload_n 1, 1), (582, .invokevirtual 150, 3), (585, .aload_n 2, 1), (586, .invokevirtual 153, 3), (589, .if_icmp .eq 2150, 3), (592, .iconst 0, 1), (593, .ireturn, 1), (594, .aload_n 1, 1), (595, .invokevirtual 154, 3), (598, .aload_n 2, 1), (599, .invokevirtual 157, 3), (602, .if_icmp .eq 2137, 3), (605, .iconst 0, 1), (606, .ireturn, 1), (607, .aload_n 1, 1), (608, .aload_n 0, 1), (609, .iload 4, 2), (611, .iconst 1, 1), (612, .iadd, 1), (613, .iaload, 1), (614, .aload_n 3, 1), (615, .invokestatic 158, 3), (618, .istore 5, 2), (620, .aload_n 2, 1), (621, .aload_n 0, 1), (622, .iload 4, 2), (624, .iconst 1, 1), (625, .iadd, 1), (626, .iaload, 1), (627, .invokevirtual 160, 3), (630, .istore 6, 2), (632, .aload_n 2, 1), (633, .invokevirtual 134, 3), (636, .iload 5, 2), (638, .if_icmp .eq 5, 3), (641, .iconst 0, 1), (642, .ireturn, 1), (643, .iload 5, 2), (645, .ifCond .ne 15, 3), (648, .aload_n 3, 1), (649, .iconst 0, 1), (650, .laload, 1), (651, .iload 6, 2)]
def mc_296_3 : List (Nat × Instr × Nat) := [(653, .i2l, 1), (654, .lcmp, 1), (655, .ifCond .eq 5, 3), (658, .iconst 0, 1), (659, .ireturn, 1), (660, .goto 2079, 3), (663, .aload_n 1, 1), (664, .aload_n 0, 1), (665, .iload 4, 2), (667, .iconst 1, 1), (668, .iadd, 1), (669, .iaload, 1), (670, .aload_n 0, 1), (671, .iload 4, 2), (673, .iconst 2, 1), (674, .iadd, 1), (675, .iaload, 1), (676, .aload_n 3, 1), (677, .invokestatic 161, 3), (680, .istore 5, 2), (682, .aload_n 2, 1), (683, .aload_n 0, 1), (684, .iload 4, 2), (686, .iconst 1, 1), (687, .iadd, 1), (688, .iaload, 1), (689, .aload_n 0, 1), (690, .iload 4, 2), (692, .iconst 2, 1), (693, .iadd, 1), (694, .iaload, 1), (695, .invokevirtual 164, 3), (698, .istore 6, 2), (700, .aload_n 2, 1), (701, .invokevirtual 134, 3), (704, .iload 5, 2), (706, .if_icmp .eq 5, 3), (709, .iconst 0, 1), (710, .ireturn, 1), (711, .iload 5, 2), (713, .ifCond .ne 15, 3), (716, .aload_n 3, 1), (717, .iconst 0, 1), (718, .laload, 1), (719, .iload 6, 2), (721, .i2l, 1), (722, .lcmp, 1), (723, .ifCond .eq 5, 3), (726, .iconst 0, 1), (727, .ireturn, 1), (728, .goto 2011, 3), (731, .aload_n 1, 1), (732, .aload_n 0, 1), (733, .iload 4, 2), (735, .iconst 1, 1), (736, .iadd, 1), (737, .iaload, 1), (738, .aload_n 0, 1), (739, .iload 4, 2), (741, .iconst 2, 1), (742, .iadd, 1), (743, .iaload, 1), (744, .aload_n 3, 1), (745, .invokestatic 165, 3), (748, .istore 5, 2), (750, .aload_n 2, 1), (751, .aload_n 0, 1), (752, .iload 4, 2), (754, .iconst 1, 1), (755, .iadd, 1), (756, .iaload, 1), (757, .aload_n 0, 1), (758, .iload 4, 2), (760, .iconst 2, 1), (761, .iadd, 1), (762, .iaload, 1), (763, .invokevirtual 167, 3), (766, .istore 6, 2), (768, .aload_n 2, 1), (769, .invokevirtual 134, 3), (772, .iload 5, 2), (774, .if_icmp .eq 5, 3), (777, .iconst 0, 1), (778, .ireturn, 1), (779, .iload 5, 2), (781, .ifCond .ne 15, 3), (784, .aload_n 3, 1), (785, .iconst 0, 1), (786, .laload, 1), (787, .iload 6, 2), (789, .i2l, 1), (790, .lcmp, 1), (791, .ifCond .eq 5, 3), (794, .iconst 0, 1), (795, .ireturn, 1), (796, .goto 1943, 3), (799, .aload_n 1, 1), (800, .aload_n 0, 1), (801, .iload 4, 2), (803, .iconst 1, 1)]
def mc_296_4 : List (Nat × Instr × Nat) := [(804, .iadd, 1), (805, .iaload, 1), (806, .aload_n 0, 1), (807, .iload 4, 2), (809, .iconst 2, 1), (810, .iadd, 1), (811, .iaload, 1), (812, .aload_n 3, 1), (813, .invokestatic 168, 3), (816, .istore 5, 2), (818, .aload_n 2, 1), (819, .aload_n 0, 1), (820, .iload 4, 2), (822, .iconst 1, 1), (823, .iadd, 1), (824, .iaload, 1), (825, .aload_n 0, 1), (826, .iload 4, 2), (828, .iconst 2, 1), (829, .iadd, 1), (830, .iaload, 1), (831, .invokevirtual 170, 3), (834, .istore 6, 2), (836, .aload_n 2, 1), (837, .invokevirtual 134, 3), (840, .iload 5, 2), (842, .if_icmp .eq 5, 3), (845, .iconst 0, 1), (846, .ireturn, 1), (847, .iload 5, 2), (849, .ifCond .ne 15, 3), (852, .aload_n 3, 1), (853, .iconst 0, 1), (854, .laload, 1), (855, .iload 6, 2), (857, .i2l, 1), (858, .lcmp, 1), (859, .ifCond .eq 5, 3), (862, .iconst 0, 1), (863, .ireturn, 1), (864, .goto 1875, 3), (867, .aload_n 1, 1), (868, .aload_n 0, 1), (869, .iload 4, 2), (871, .iconst 1, 1), (872, .iadd, 1), (873, .iaload, 1), (874, .aload_n 3, 1), (875, .invokestatic 171, 3), (878, .istore 5, 2), (880, .aload_n 2, 1), (881, .aload_n 0, 1), (882, .iload 4, 2), (884, .iconst 1, 1), (885, .iadd, 1), (886, .iaload, 1), (887, .invokevirtual 173, 3), (890, .istore 6, 2), (892, .aload_n 2, 1), (893, .invokevirtual 134, 3), (896, .iload 5, 2), (898, .if_icmp .eq 5, 3), (901, .iconst 0, 1), (902, .ireturn, 1), (903, .iload 5, 2), (905, .ifCond .ne 15, 3), (908, .aload_n 3, 1), (909, .iconst 0, 1), (910, .laload, 1), (911, .iload 6, 2), (913, .i2l, 1), (914, .lcmp, 1), (915, .ifCond .eq 5, 3), (918, .iconst 0, 1), (919, .ireturn, 1), (920, .goto 1819, 3), (923, .aload_n 1, 1), (924, .aload_n 0, 1), (925, .iload 4, 2), (927, .iconst 1, 1), (928, .iadd, 1), (929, .iaload, 1), (930, .aload_n 0, 1), (931, .iload 4, 2), (933, .iconst 2, 1), (934, .iadd, 1), (935, .iaload, 1), (936, .aload_n 0, 1), (937, .iload 4, 2), (939, .iconst 3, 1), (940, .iadd, 1), (941, .iaload, 1), (942, .aload_n 0, 1), (943, .iload 4, 2), (945, .iconst 4, 1), (946, .iadd, 1), (947, .iaload, 1), (948, .aload_n 0, 1), (949, .iload 4, 2), (951, .iconst 5, 1)]
def mc_296_5 : List (Nat × Instr × Nat) := [(952, .iadd, 1), (953, .iaload, 1), (954, .aload_n 0, 1), (955, .iload 4, 2), (957, .bipush 6, 2), (959, .iadd, 1), (960, .iaload, 1), (961, .aload_n 0, 1), (962, .iload 4, 2), (964, .bipush 7, 2), (966, .iadd, 1), (967, .iaload, 1), (968, .aload_n 3, 1), (969, .invokestatic 174, 3), (972, .istore 5, 2), (974, .aload_n 2, 1), (975, .aload_n 0, 1), (976, .iload 4, 2), (978, .iconst 1, 1), (979, .iadd, 1), (980, .iaload, 1), (981, .aload_n 0, 1), (982, .iload 4, 2), (984, .iconst 2, 1), (985, .iadd, 1), (986, .iaload, 1), (987, .aload_n 0, 1), (988, .iload 4, 2), (990, .iconst 3, 1), (991, .iadd, 1), (992, .iaload, 1), (993, .aload_n 0, 1), (994, .iload 4, 2), (996, .iconst 4, 1), (997, .iadd, 1), (998, .iaload, 1), (999, .aload_n 0, 1), (1000, .iload 4, 2), (1002, .iconst 5, 1), (1003, .iadd, 1), (1004, .iaload, 1), (1005, .aload_n 0, 1), (1006, .iload 4, 2), (1008, .bipush 6, 2), (1010, .iadd, 1), (1011, .iaload, 1), (1012, .aload_n 0, 1), (1013, .iload 4, 2), (1015, .bipush 7, 2), (1017, .iadd, 1), (1018, .iaload, 1), (1019, .invokevirtual 177, 3), (1022, .istore 6, 2), (1024, .aload_n 2, 1), (1025, .invokevirtual 134, 3), (1028, .iload 5, 2), (1030, .if_icmp .eq 5, 3), (1033, .iconst 0, 1), (1034, .ireturn, 1), (1035, .iload 5, 2), (1037, .ifCond .ne 15, 3), (1040, .aload_n 3, 1), (1041, .iconst 0, 1), (1042, .laload, 1), (1043, .iload 6, 2), (1045, .i2l, 1), (1046, .lcmp, 1), (1047, .ifCond .eq 5, 3), (1050, .iconst 0, 1), (1051, .ireturn, 1), (1052, .goto 1687, 3), (1055, .aload_n 1, 1), (1056, .aload_n 0, 1), (1057, .iload 4, 2), (1059, .iconst 1, 1), (1060, .iadd, 1), (1061, .iaload, 1), (1062, .aload_n 0, 1), (1063, .iload 4, 2), (1065, .iconst 2, 1), (1066, .iadd, 1), (1067, .iaload, 1), (1068, .aload_n 0, 1), (1069, .iload 4, 2), (1071, .iconst 3, 1), (1072, .iadd, 1), (1073, .iaload, 1), (1074, .aload_n 3, 1), (1075, .invokestatic 178, 3), (1078, .istore 5, 2), (1080, .aload_n 2, 1), (1081, .aload_n 0, 1), (1082, .iload 4, 2), (1084, .iconst 1, 1), (1085, .iadd, 1), (1086, .iaload, 1), (1087, .aload_n 0, 1), (1088, .iload 4, 2), (1090, .iconst 2, 1), (1091, .iadd, 1)]
def mc_296_6 : List (Nat × Instr × Nat) := [(1092, .iaload, 1), (1093, .aload_n 0, 1), (1094, .iload 4, 2), (1096, .iconst 3, 1), (1097, .iadd, 1), (1098, .iaload, 1), (1099, .invokevirtual 181, 3), (1102, .istore 6, 2), (1104, .aload_n 2, 1), (1105, .invokevirtual 134, 3), (1108, .iload 5, 2), (1110, .if_icmp .eq 5, 3), (1113, .iconst 0, 1), (1114, .ireturn, 1), (1115, .iload 5, 2), (1117, .ifCond .ne 15, 3), (1120, .aload_n 3, 1), (1121, .iconst 0, 1), (1122, .laload, 1), (1123, .iload 6, 2), (1125, .i2l, 1), (1126, .lcmp, 1), (1127, .ifCond .eq 5, 3), (1130, .iconst 0, 1), (1131, .ireturn, 1), (1132, .goto 1607, 3), (1135, .aload_n 1, 1), (1136, .aload_n 0, 1), (1137, .iload 4, 2), (1139, .iconst 1, 1), (1140, .iadd, 1), (1141, .iaload, 1), (1142, .aload_n 0, 1), (1143, .iload 4, 2), (1145, .iconst 2, 1), (1146, .iadd, 1), (1147, .iaload, 1), (1148, .aload_n 0, 1), (1149, .iload 4, 2), (1151, .iconst 3, 1), (1152, .iadd, 1), (1153, .iaload, 1), (1154, .aload_n 3, 1), (1155, .invokestatic 182, 3), (1158, .istore 5, 2), (1160, .aload_n 2, 1), (1161, .aload_n 0, 1), (1162, .iload 4, 2), (1164, .iconst 1, 1), (1165, .iadd, 1), (1166, .iaload, 1), (1167, .aload_n 0, 1), (1168, .iload 4, 2), (1170, .iconst 2, 1), (1171, .iadd, 1), (1172, .iaload, 1), (1173, .aload_n 0, 1), (1174, .iload 4, 2), (1176, .iconst 3, 1), (1177, .iadd, 1), (1178, .iaload, 1), (1179, .invokevirtual 184, 3), (1182, .istore 6, 2), (1184, .aload_n 2, 1), (1185, .invokevirtual 134, 3), (1188, .iload 5, 2), (1190, .if_icmp .eq 5, 3), (1193, .iconst 0, 1), (1194, .ireturn, 1), (1195, .iload 5, 2), (1197, .ifCond .ne 15, 3), (1200, .aload_n 3, 1), (1201, .iconst 0, 1), (1202, .laload, 1), (1203, .iload 6, 2), (1205, .i2l, 1), (1206, .lcmp, 1), (1207, .ifCond .eq 5, 3), (1210, .iconst 0, 1), (1211, .ireturn, 1), (1212, .goto 1527, 3), (1215, .aload_n 1, 1), (1216, .aload_n 0, 1), (1217, .iload 4, 2), (1219, .iconst 1, 1), (1220, .iadd, 1), (1221, .iaload, 1), (1222, .aload_n 0, 1), (1223, .iload 4, 2), (1225, .iconst 2, 1), (1226, .iadd, 1), (1227, .iaload, 1), (1228, .aload_n 0, 1), (1229, .iload 4, 2), (1231, .iconst 3, 1), (1232, .iadd, 1), (1233, .iaload, 1), (1234, .aload_n 3, 1), (1235, .invokestatic 185, 3), (1238, .istore 5, 2)]
def mc_296_7 : List (Nat × Instr × Nat) := [(1240, .aload_n 2, 1), (1241, .aload_n 0, 1), (1242, .iload 4, 2), (1244, .iconst 1, 1), (1245, .iadd, 1), (1246, .iaload, 1), (1247, .aload_n 0, 1), (1248, .iload 4, 2), (1250, .iconst 2, 1), (1251, .iadd, 1), (1252, .iaload, 1), (1253, .aload_n 0, 1), (1254, .iload 4, 2), (1256, .iconst 3, 1), (1257, .iadd, 1), (1258, .iaload, 1), (1259, .invokevirtual 187, 3), (1262, .istore 6, 2), (1264, .aload_n 2, 1), (1265, .invokevirtual 134, 3), (1268, .iload 5, 2), (1270, .if_icmp .eq 5, 3), (1273, .iconst 0, 1), (1274, .ireturn, 1), (1275, .iload 5, 2), (1277, .ifCond .ne 15, 3), (1280, .aload_n 3, 1), (1281, .iconst 0, 1), (1282, .laload, 1), (1283, .iload 6, 2), (1285, .i2l, 1), (1286, .lcmp, 1), (1287, .ifCond .eq 5, 3), (1290, .iconst 0, 1), (1291, .ireturn, 1), (1292, .goto 1447, 3), (1295, .aload_n 1, 1), (1296, .aload_n 0, 1), (1297, .iload 4, 2), (1299, .iconst 1, 1), (1300, .iadd, 1), (1301, .iaload, 1), (1302, .aload_n 0, 1), (1303, .iload 4, 2), (1305, .iconst 2, 1), (1306, .iadd, 1), (1307, .iaload, 1), (1308, .aload_n 3, 1), (1309, .invokestatic 188, 3), (1312, .istore 5, 2), (1314, .aload_n 2, 1), (1315, .aload_n 0, 1), (1316, .iload 4, 2), (1318, .iconst 1, 1), (1319, .iadd, 1), (1320, .iaload, 1), (1321, .aload_n 0, 1), (1322, .iload 4, 2), (1324, .iconst 2, 1), (1325, .iadd, 1), (1326, .iaload, 1), (1327, .invokevirtual 190, 3), (1330, .istore 6, 2), (1332, .aload_n 2, 1), (1333, .invokevirtual 134, 3), (1336, .iload 5, 2), (1338, .if_icmp .eq 5, 3), (1341, .iconst 0, 1), (1342, .ireturn, 1), (1343, .iload 5, 2), (1345, .ifCond .ne 15, 3), (1348, .aload_n 3, 1), (1349, .iconst 0, 1), (1350, .laload, 1), (1351, .iload 6, 2), (1353, .i2l, 1), (1354, .lcmp, 1), (1355, .ifCond .eq 5, 3), (1358, .iconst 0, 1), (1359, .ireturn, 1), (1360, .goto 1379, 3), (1363, .aload_n 1, 1), (1364, .aload_n 0, 1), (1365, .iload 4, 2), (1367, .iconst 1, 1), (1368, .iadd, 1), (1369, .iaload, 1), (1370, .aload_n 0, 1), (1371, .iload 4, 2), (1373, .iconst 2, 1), (1374, .iadd, 1), (1375, .iaload, 1), (1376, .aload_n 3, 1), (1377, .invokestatic 191, 3), (1380, .istore 5, 2), (1382, .aload_n 2, 1), (1383, .aload_n 0, 1), (1384, .iload 4, 2), (1386, .iconst 1, 1), (1387, .iadd, 1)]
def mc_296_8 : List (Nat × Instr × Nat) := [(1388, .iaload, 1), (1389, .aload_n 0, 1), (1390, .iload 4, 2), (1392, .iconst 2, 1), (1393, .iadd, 1), (1394, .iaload, 1), (1395, .invokevirtual 193, 3), (1398, .istore 6, 2), (1400, .aload_n 2, 1), (1401, .invokevirtual 134, 3), (1404, .iload 5, 2), (1406, .if_icmp .eq 5, 3), (1409, .iconst 0, 1), (1410, .ireturn, 1), (1411, .iload 5, 2), (1413, .ifCond .ne 15, 3), (1416, .aload_n 3, 1), (1417, .iconst 0, 1), (1418, .laload, 1), (1419, .iload 6, 2), (1421, .i2l, 1), (1422, .lcmp, 1), (1423, .ifCond .eq 5, 3), (1426, .iconst 0, 1), (1427, .ireturn, 1), (1428, .goto 1311, 3), (1431, .aload_n 1, 1), (1432, .aload_n 0, 1), (1433, .iload 4, 2), (1435, .iconst 1, 1), (1436, .iadd, 1), (1437, .iaload, 1), (1438, .aload_n 0, 1), (1439, .iload 4, 2), (1441, .iconst 2, 1), (1442, .iadd, 1), (1443, .iaload, 1), (1444, .aload_n 0, 1), (1445, .iload 4, 2), (1447, .iconst 3, 1), (1448, .iadd, 1), (1449, .iaload, 1), (1450, .aload_n 3, 1), (1451, .invokestatic 194, 3), (1454, .istore 5, 2), (1456, .aload_n 2, 1), (1457, .aload_n 0, 1), (1458, .iload 4, 2), (1460, .iconst 1, 1), (1461, .iadd, 1), (1462, .iaload, 1), (1463, .aload_n 0, 1), (1464, .iload 4, 2), (1466, .iconst 2, 1), (1467, .iadd, 1), (1468, .iaload, 1), (1469, .aload_n 0, 1), (1470, .iload 4, 2), (1472, .iconst 3, 1), (1473, .iadd, 1), (1474, .iaload, 1), (1475, .invokevirtual 196, 3), (1478, .istore 6, 2), (1480, .aload_n 2, 1), (1481, .invokevirtual 134, 3), (1484, .iload 5, 2), (1486, .if_icmp .eq 5, 3), (1489, .iconst 0, 1), (1490, .ireturn, 1), (1491, .iload 5, 2), (1493, .ifCond .ne 15, 3), (1496, .aload_n 3, 1), (1497, .iconst 0, 1), (1498, .laload, 1), (1499, .iload 6, 2), (1501, .i2l, 1), (1502, .lcmp, 1), (1503, .ifCond .eq 5, 3), (1506, .iconst 0, 1), (1507, .ireturn, 1), (1508, .goto 1231, 3), (1511, .aload_n 1, 1), (1512, .aload_n 0, 1), (1513, .iload 4, 2), (1515, .iconst 1, 1), (1516, .iadd, 1), (1517, .iaload, 1), (1518, .aload_n 3, 1), (1519, .invokestatic 197, 3), (1522, .istore 5, 2), (1524, .aload_n 2, 1), (1525, .aload_n 0, 1), (1526, .iload 4, 2), (1528, .iconst 1, 1), (1529, .iadd, 1), (1530, .iaload, 1), (1531, .invokevirtual 199, 3), (1534, .istore 6, 2), (1536, .aload_n 2, 1), (1537, .invokevirtual 134, 3)]
def mc_296_9 : List (Nat × Instr × Nat) := [(1540, .iload 5, 2), (1542, .if_icmp .eq 5, 3), (1545, .iconst 0, 1), (1546, .ireturn, 1), (1547, .iload 5, 2), (1549, .ifCond .ne 15, 3), (1552, .aload_n 3, 1), (1553, .iconst 0, 1), (1554, .laload, 1), (1555, .iload 6, 2), (1557, .i2l, 1), (1558, .lcmp, 1), (1559, .ifCond .eq 5, 3), (1562, .iconst 0, 1), (1563, .ireturn, 1), (1564, .goto 1175, 3), (1567, .aload_n 1, 1), (1568, .aload_n 0, 1), (1569, .iload 4, 2), (1571, .iconst 1, 1), (1572, .iadd, 1), (1573, .iaload, 1), (1574, .aload_n 3, 1), (1575, .invokestatic 200, 3), (1578, .istore 5, 2), (1580, .aload_n 2, 1), (1581, .aload_n 0, 1), (1582, .iload 4, 2), (1584, .iconst 1, 1), (1585, .iadd, 1), (1586, .iaload, 1), (1587, .invokevirtual 202, 3), (1590, .istore 6, 2), (1592, .aload_n 2, 1), (1593, .invokevirtual 134, 3), (1596, .iload 5, 2), (1598, .if_icmp .eq 5, 3), (1601, .iconst 0, 1), (1602, .ireturn, 1), (1603, .iload 5, 2), (1605, .ifCond .ne 15, 3), (1608, .aload_n 3, 1), (1609, .iconst 0, 1), (1610, .laload, 1), (1611, .iload 6, 2), (1613, .i2l, 1), (1614, .lcmp, 1), (1615, .ifCond .eq 5, 3), (1618, .iconst 0, 1), (1619, .ireturn, 1), (1620, .goto 1119, 3), (1623, .aload_n 1, 1), (1624, .aload_n 0, 1), (1625, .iload 4, 2), (1627, .iconst 1, 1), (1628, .iadd, 1), (1629, .iaload, 1), (1630, .aload_n 0, 1), (1631, .iload 4, 2), (1633, .iconst 2, 1), (1634, .iadd, 1), (1635, .iaload, 1), (1636, .aload_n 0, 1), (1637, .iload 4, 2), (1639, .iconst 3, 1), (1640, .iadd, 1), (1641, .iaload, 1), (1642, .aload_n 0, 1), (1643, .iload 4, 2), (1645, .iconst 4, 1), (1646, .iadd, 1), (1647, .iaload, 1), (1648, .aload_n 3, 1), (1649, .invokestatic 203, 3), (1652, .istore 5, 2), (1654, .aload_n 2, 1), (1655, .aload_n 0, 1), (1656, .iload 4, 2), (1658, .iconst 1, 1), (1659, .iadd, 1), (1660, .iaload, 1), (1661, .aload_n 0, 1), (1662, .iload 4, 2), (1664, .iconst 2, 1), (1665, .iadd, 1), (1666, .iaload, 1), (1667, .aload_n 0, 1), (1668, .iload 4, 2), (1670, .iconst 3, 1), (1671, .iadd, 1), (1672, .iaload, 1), (1673, .aload_n 0, 1), (1674, .iload 4, 2), (1676, .iconst 4, 1), (1677, .iadd, 1), (1678, .iaload, 1), (1679, .invokevirtual 206, 3), (1682, .lstore 6, 2), (1684, .aload_n 2, 1), (1685, .invokevirtual 134, 3)]
def mc_296_10 : List (Nat × Instr × Nat) := [(1688, .iload 5, 2), (1690, .if_icmp .eq 5, 3), (1693, .iconst 0, 1), (1694, .ireturn, 1), (1695, .iload 5, 2), (1697, .ifCond .ne 14, 3), (1700, .aload_n 3, 1), (1701, .iconst 0, 1), (1702, .laload, 1), (1703, .lload 6, 2), (1705, .lcmp, 1), (1706, .ifCond .eq 5, 3), (1709, .iconst 0, 1), (1710, .ireturn, 1), (1711, .goto 1028, 3), (1714, .aload_n 1, 1), (1715, .aload_n 0, 1), (1716, .iload 4, 2), (1718, .iconst 1, 1), (1719, .iadd, 1), (1720, .iaload, 1), (1721, .aload_n 0, 1), (1722, .iload 4, 2), (1724, .iconst 2, 1), (1725, .iadd, 1), (1726, .iaload, 1), (1727, .aload_n 0, 1), (1728, .iload 4, 2), (1730, .iconst 3, 1), (1731, .iadd, 1), (1732, .iaload, 1), (1733, .aload_n 3, 1), (1734, .invokestatic 207, 3), (1737, .istore 5, 2), (1739, .aload_n 2, 1), (1740, .aload_n 0, 1), (1741, .iload 4, 2), (1743, .iconst 1, 1), (1744, .iadd, 1), (1745, .iaload, 1), (1746, .aload_n 0, 1), (1747, .iload 4, 2), (1749, .iconst 2, 1), (1750, .iadd, 1), (1751, .iaload, 1), (1752, .aload_n 0, 1), (1753, .iload 4, 2), (1755, .iconst 3, 1), (1756, .iadd, 1), (1757, .iaload, 1), (1758, .invokevirtual 209, 3), (1761, .istore 6, 2), (1763, .aload_n 2, 1), (1764, .invokevirtual 134, 3), (1767, .iload 5, 2), (1769, .if_icmp .eq 5, 3), (1772, .iconst 0, 1), (1773, .ireturn, 1), (1774, .iload 5, 2), (1776, .ifCond .ne 15, 3), (1779, .aload_n 3, 1), (1780, .iconst 0, 1), (1781, .laload, 1), (1782, .iload 6, 2), (1784, .i2l, 1), (1785, .lcmp, 1), (1786, .ifCond .eq 5, 3), (1789, .iconst 0, 1), (1790, .ireturn, 1), (1791, .goto 948, 3), (1794, .aload_n 1, 1), (1795, .aload_n 0, 1), (1796, .iload 4, 2), (1798, .iconst 1, 1), (1799, .iadd, 1), (1800, .iaload, 1), (1801, .aload_n 0, 1), (1802, .iload 4, 2), (1804, .iconst 2, 1), (1805, .iadd, 1), (1806, .iaload, 1), (1807, .aload_n 0, 1), (1808, .iload 4, 2), (1810, .iconst 3, 1), (1811, .iadd, 1), (1812, .iaload, 1), (1813, .aload_n 3, 1), (1814, .invokestatic 210, 3), (1817, .istore 5, 2), (1819, .aload_n 2, 1), (1820, .aload_n 0, 1), (1821, .iload 4, 2), (1823, .iconst 1, 1), (1824, .iadd, 1), (1825, .iaload, 1), (1826, .aload_n 0, 1), (1827, .iload 4, 2), (1829, .iconst 2, 1), (1830, .iadd, 1), (1831, .iaload, 1)]
def mc_296_11 : List (Nat × Instr × Nat) := [(1832, .aload_n 0, 1), (1833, .iload 4, 2), (1835, .iconst 3, 1), (1836, .iadd, 1), (1837, .iaload, 1), (1838, .invokevirtual 212, 3), (1841, .istore 6, 2), (1843, .aload_n 2, 1), (1844, .invokevirtual 134, 3), (1847, .iload 5, 2), (1849, .if_icmp .eq 5, 3), (1852, .iconst 0, 1), (1853, .ireturn, 1), (1854, .iload 5, 2), (1856, .ifCond .ne 15, 3), (1859, .aload_n 3, 1), (1860, .iconst 0, 1), (1861, .laload, 1), (1862, .iload 6, 2), (1864, .i2l, 1), (1865, .lcmp, 1), (1866, .ifCond .eq 5, 3), (1869, .iconst 0, 1), (1870, .ireturn, 1), (1871, .goto 868, 3), (1874, .aload_n 1, 1), (1875, .aload_n 0, 1), (1876, .iload 4, 2), (1878, .iconst 1, 1), (1879, .iadd, 1), (1880, .iaload, 1), (1881, .aload_n 3, 1), (1882, .invokestatic 213, 3), (1885, .istore 5, 2), (1887, .aload_n 2, 1), (1888, .aload_n 0, 1), (1889, .iload 4, 2), (1891, .iconst 1, 1), (1892, .iadd, 1), (1893, .iaload, 1), (1894, .invokevirtual 215, 3), (1897, .istore 6, 2), (1899, .aload_n 2, 1), (1900, .invokevirtual 134, 3), (1903, .iload 5, 2), (1905, .if_icmp .eq 5, 3), (1908, .iconst 0, 1), (1909, .ireturn, 1), (1910, .iload 5, 2), (1912, .ifCond .ne 15, 3), (1915, .aload_n 3, 1), (1916, .iconst 0, 1), (1917, .laload, 1), (1918, .iload 6, 2), (1920, .i2l, 1), (1921, .lcmp, 1), (1922, .ifCond .eq 5, 3), (1925, .iconst 0, 1), (1926, .ireturn, 1), (1927, .goto 812, 3), (1930, .aload_n 1, 1), (1931, .invokevirtual 216, 3), (1934, .aload_n 2, 1), (1935, .invokevirtual 219, 3), (1938, .if_icmp .eq 801, 3), (1941, .iconst 0, 1), (1942, .ireturn, 1), (1943, .aload_n 1, 1), (1944, .aload_n 0, 1), (1945, .iload 4, 2), (1947, .iconst 1, 1), (1948, .iadd, 1), (1949, .iaload, 1), (1950, .aload_n 0, 1), (1951, .iload 4, 2), (1953, .iconst 2, 1), (1954, .iadd, 1), (1955, .iaload, 1), (1956, .aload_n 3, 1), (1957, .invokestatic 220, 3), (1960, .istore 5, 2), (1962, .aload_n 2, 1), (1963, .aload_n 0, 1), (1964, .iload 4, 2), (1966, .iconst 1, 1), (1967, .iadd, 1), (1968, .iaload, 1), (1969, .aload_n 0, 1), (1970, .iload 4, 2), (1972, .iconst 2, 1), (1973, .iadd, 1), (1974, .iaload, 1), (1975, .invokevirtual 222, 3), (1978, .istore 6, 2), (1980, .aload_n 2, 1), (1981, .invokevirtual 134, 3), (1984, .iload 5, 2), (1986, .if_icmp .eq 5, 3), (1989, .iconst 0, 1), (1990, .ireturn, 1)]
def mc_296_12 : List (Nat × Instr × Nat) := [(1991, .iload 5, 2), (1993, .ifCond .ne 15, 3), (1996, .aload_n 3, 1), (1997, .iconst 0, 1), (1998, .laload, 1), (1999, .iload 6, 2), (2001, .i2l, 1), (2002, .lcmp, 1), (2003, .ifCond .eq 5, 3), (2006, .iconst 0, 1), (2007, .ireturn, 1), (2008, .goto 731, 3), (2011, .aload_n 1, 1), (2012, .invokevirtual 223, 3), (2015, .aload_n 2, 1), (2016, .invokevirtual 226, 3), (2019, .if_icmp .eq 720, 3), (2022, .iconst 0, 1), (2023, .ireturn, 1), (2024, .aload_n 1, 1), (2025, .aload_n 0, 1), (2026, .iload 4, 2), (2028, .iconst 1, 1), (2029, .iadd, 1), (2030, .iaload, 1), (2031, .aload_n 3, 1), (2032, .invokestatic 227, 3), (2035, .istore 5, 2), (2037, .aload_n 2, 1), (2038, .aload_n 0, 1), (2039, .iload 4, 2), (2041, .iconst 1, 1), (2042, .iadd, 1), (2043, .iaload, 1), (2044, .invokevirtual 229, 3), (2047, .istore 6, 2), (2049, .aload_n 2, 1), (2050, .invokevirtual 134, 3), (2053, .iload 5, 2), (2055, .if_icmp .eq 5, 3), (2058, .iconst 0, 1), (2059, .ireturn, 1), (2060, .iload 5, 2), (2062, .ifCond .ne 15, 3), (2065, .aload_n 3, 1), (2066, .iconst 0, 1), (2067, .laload, 1), (2068, .iload 6, 2), (2070, .i2l, 1), (2071, .lcmp, 1), (2072, .ifCond .eq 5, 3), (2075, .iconst 0, 1), (2076, .ireturn, 1), (2077, .goto 662, 3), (2080, .aload_n 1, 1), (2081, .aload_n 0, 1), (2082, .iload 4, 2), (2084, .iconst 1, 1), (2085, .iadd, 1), (2086, .iaload, 1), (2087, .aload_n 3, 1), (2088, .invokestatic 230, 3), (2091, .istore 5, 2), (2093, .aload_n 2, 1), (2094, .aload_n 0, 1), (2095, .iload 4, 2), (2097, .iconst 1, 1), (2098, .iadd, 1), (2099, .iaload, 1), (2100, .invokevirtual 232, 3), (2103, .istore 6, 2), (2105, .aload_n 2, 1), (2106, .invokevirtual 134, 3), (2109, .iload 5, 2), (2111, .if_icmp .eq 5, 3), (2114, .iconst 0, 1), (2115, .ireturn, 1), (2116, .iload 5, 2), (2118, .ifCond .ne 15, 3), (2121, .aload_n 3, 1), (2122, .iconst 0, 1), (2123, .laload, 1), (2124, .iload 6, 2), (2126, .i2l, 1), (2127, .lcmp, 1), (2128, .ifCond .eq 5, 3), (2131, .iconst 0, 1), (2132, .ireturn, 1), (2133, .goto 606, 3), (2136, .aload_n 1, 1), (2137, .aload_n 0, 1), (2138, .iload 4, 2), (2140, .iconst 1, 1), (2141, .iadd, 1), (2142, .iaload, 1), (2143, .aload_n 3, 1), (2144, .invokestatic 233, 3), (2147, .istore 5, 2), (2149, .aload_n 2, 1), (2150, .aload_n 0, 1)]
def mc_296_13 : List (Nat × Instr × Nat) := [(2151, .iload 4, 2), (2153, .iconst 1, 1), (2154, .iadd, 1), (2155, .iaload, 1), (2156, .invokevirtual 235, 3), (2159, .istore 6, 2), (2161, .aload_n 2, 1), (2162, .invokevirtual 134, 3), (2165, .iload 5, 2), (2167, .if_icmp .eq 5, 3), (2170, .iconst 0, 1), (2171, .ireturn, 1), (2172, .iload 5, 2), (2174, .ifCond .ne 15, 3), (2177, .aload_n 3, 1), (2178, .iconst 0, 1), (2179, .laload, 1), (2180, .iload 6, 2), (2182, .i2l, 1), (2183, .lcmp, 1), (2184, .ifCond .eq 5, 3), (2187, .iconst 0, 1), (2188, .ireturn, 1), (2189, .goto 550, 3), (2192, .aload_n 1, 1), (2193, .aload_n 0, 1), (2194, .iload 4, 2), (2196, .iconst 1, 1), (2197, .iadd, 1), (2198, .iaload, 1), (2199, .aload_n 3, 1), (2200, .invokestatic 236, 3), (2203, .istore 5, 2), (2205, .aload_n 2, 1), (2206, .aload_n 0, 1), (2207, .iload 4, 2), (2209, .iconst 1, 1), (2210, .iadd, 1), (2211, .iaload, 1), (2212, .invokevirtual 238, 3), (2215, .istore 6, 2), (2217, .aload_n 2, 1), (2218, .invokevirtual 134, 3), (2221, .iload 5, 2), (2223, .if_icmp .eq 5, 3), (2226, .iconst 0, 1), (2227, .ireturn, 1), (2228, .iload 5, 2), (2230, .ifCond .ne 15, 3), (2233, .aload_n 3, 1), (2234, .iconst 0, 1), (2235, .laload, 1), (2236, .iload 6, 2), (2238, .i2l, 1), (2239, .lcmp, 1), (2240, .ifCond .eq 5, 3), (2243, .iconst 0, 1), (2244, .ireturn, 1), (2245, .goto 494, 3), (2248, .aload_n 1, 1), (2249, .aload_n 0, 1), (2250, .iload 4, 2), (2252, .iconst 1, 1), (2253, .iadd, 1), (2254, .iaload, 1), (2255, .aload_n 0, 1), (2256, .iload 4, 2), (2258, .iconst 2, 1), (2259, .iadd, 1), (2260, .iaload, 1), (2261, .aload_n 3, 1), (2262, .invokestatic 239, 3), (2265, .istore 5, 2), (2267, .aload_n 2, 1), (2268, .aload_n 0, 1), (2269, .iload 4, 2), (2271, .iconst 1, 1), (2272, .iadd, 1), (2273, .iaload, 1), (2274, .aload_n 0, 1), (2275, .iload 4, 2), (2277, .iconst 2, 1), (2278, .iadd, 1), (2279, .iaload, 1), (2280, .invokevirtual 241, 3), (2283, .istore 6, 2), (2285, .aload_n 2, 1), (2286, .invokevirtual 134, 3), (2289, .iload 5, 2), (2291, .if_icmp .eq 5, 3), (2294, .iconst 0, 1), (2295, .ireturn, 1), (2296, .iload 5, 2), (2298, .ifCond .ne 15, 3), (2301, .aload_n 3, 1), (2302, .iconst 0, 1), (2303, .laload, 1), (2304, .iload 6, 2), (2306, .i2l, 1), (2307, .lcmp, 1)]
def mc_296_14 : List (Nat × Instr × Nat) := [(2308, .ifCond .eq 5, 3), (2311, .iconst 0, 1), (2312, .ireturn, 1), (2313, .goto 426, 3), (2316, .aload_n 1, 1), (2317, .invokevirtual 242, 3), (2320, .aload_n 2, 1), (2321, .invokevirtual 245, 3), (2324, .if_icmp .eq 415, 3), (2327, .iconst 0, 1), (2328, .ireturn, 1), (2329, .aload_n 1, 1), (2330, .aload_n 0, 1), (2331, .iload 4, 2), (2333, .iconst 1, 1), (2334, .iadd, 1), (2335, .iaload, 1), (2336, .aload_n 3, 1), (2337, .invokestatic 246, 3), (2340, .istore 5, 2), (2342, .aload_n 2, 1), (2343, .aload_n 0, 1), (2344, .iload 4, 2), (2346, .iconst 1, 1), (2347, .iadd, 1), (2348, .iaload, 1), (2349, .invokevirtual 248, 3), (2352, .istore 6, 2), (2354, .aload_n 2, 1), (2355, .invokevirtual 134, 3), (2358, .iload 5, 2), (2360, .if_icmp .eq 5, 3), (2363, .iconst 0, 1), (2364, .ireturn, 1), (2365, .iload 5, 2), (2367, .ifCond .ne 15, 3), (2370, .aload_n 3, 1), (2371, .iconst 0, 1), (2372, .laload, 1), (2373, .iload 6, 2), (2375, .i2l, 1), (2376, .lcmp, 1), (2377, .ifCond .eq 5, 3), (2380, .iconst 0, 1), (2381, .ireturn, 1), (2382, .goto 357, 3), (2385, .aload_n 1, 1), (2386, .aload_n 0, 1), (2387, .iload 4, 2), (2389, .iconst 1, 1), (2390, .iadd, 1), (2391, .iaload, 1), (2392, .aload_n 0, 1), (2393, .iload 4, 2), (2395, .iconst 2, 1), (2396, .iadd, 1), (2397, .iaload, 1), (2398, .aload_n 3, 1), (2399, .invokestatic 249, 3), (2402, .istore 5, 2), (2404, .aload_n 2, 1), (2405, .aload_n 0, 1), (2406, .iload 4, 2), (2408, .iconst 1, 1), (2409, .iadd, 1), (2410, .iaload, 1), (2411, .aload_n 0, 1), (2412, .iload 4, 2), (2414, .iconst 2, 1), (2415, .iadd, 1), (2416, .iaload, 1), (2417, .invokevirtual 251, 3), (2420, .istore 6, 2), (2422, .aload_n 2, 1), (2423, .invokevirtual 134, 3), (2426, .iload 5, 2), (2428, .if_icmp .eq 5, 3), (2431, .iconst 0, 1), (2432, .ireturn, 1), (2433, .iload 5, 2), (2435, .ifCond .ne 15, 3), (2438, .aload_n 3, 1), (2439, .iconst 0, 1), (2440, .laload, 1), (2441, .iload 6, 2), (2443, .i2l, 1), (2444, .lcmp, 1), (2445, .ifCond .eq 5, 3), (2448, .iconst 0, 1), (2449, .ireturn, 1), (2450, .goto 289, 3), (2453, .aload_n 1, 1), (2454, .aload_n 0, 1), (2455, .iload 4, 2), (2457, .iconst 1, 1), (2458, .iadd, 1), (2459, .iaload, 1), (2460, .aload_n 0, 1), (2461, .iload 4, 2), (2463, .iconst 2, 1)]
def mc_296_15 : List (Nat × Instr × Nat) := [(2464, .iadd, 1), (2465, .iaload, 1), (2466, .aload_n 0, 1), (2467, .iload 4, 2), (2469, .iconst 3, 1), (2470, .iadd, 1), (2471, .iaload, 1), (2472, .aload_n 0, 1), (2473, .iload 4, 2), (2475, .iconst 4, 1), (2476, .iadd, 1), (2477, .iaload, 1), (2478, .aload_n 3, 1), (2479, .invokestatic 252, 3), (2482, .istore 5, 2), (2484, .aload_n 2, 1), (2485, .aload_n 0, 1), (2486, .iload 4, 2), (2488, .iconst 1, 1), (2489, .iadd, 1), (2490, .iaload, 1), (2491, .aload_n 0, 1), (2492, .iload 4, 2), (2494, .iconst 2, 1), (2495, .iadd, 1), (2496, .iaload, 1), (2497, .aload_n 0, 1), (2498, .iload 4, 2), (2500, .iconst 3, 1), (2501, .iadd, 1), (2502, .iaload, 1), (2503, .aload_n 0, 1), (2504, .iload 4, 2), (2506, .iconst 4, 1), (2507, .iadd, 1), (2508, .iaload, 1), (2509, .invokevirtual 254, 3), (2512, .istore 6, 2), (2514, .aload_n 2, 1), (2515, .invokevirtual 134, 3), (2518, .iload 5, 2), (2520, .if_icmp .eq 5, 3), (2523, .iconst 0, 1), (2524, .ireturn, 1), (2525, .iload 5, 2), (2527, .ifCond .ne 15, 3), (2530, .aload_n 3, 1), (2531, .iconst 0, 1), (2532, .laload, 1), (2533, .iload 6, 2), (2535, .i2l, 1), (2536, .lcmp, 1), (2537, .ifCond .eq 5, 3), (2540, .iconst 0, 1), (2541, .ireturn, 1), (2542, .goto 197, 3), (2545, .aload_n 1, 1), (2546, .aload_n 0, 1), (2547, .iload 4, 2), (2549, .iconst 1, 1), (2550, .iadd, 1), (2551, .iaload, 1), (2552, .aload_n 0, 1), (2553, .iload 4, 2), (2555, .iconst 2, 1), (2556, .iadd, 1), (2557, .iaload, 1), (2558, .aload_n 0, 1), (2559, .iload 4, 2), (2561, .iconst 3, 1), (2562, .iadd, 1), (2563, .iaload, 1), (2564, .aload_n 0, 1), (2565, .iload 4, 2), (2567, .iconst 4, 1), (2568, .iadd, 1), (2569, .iaload, 1), (2570, .aload_n 0, 1), (2571, .iload 4, 2), (2573, .iconst 5, 1), (2574, .iadd, 1), (2575, .iaload, 1), (2576, .aload_n 0, 1), (2577, .iload 4, 2), (2579, .bipush 6, 2), (2581, .iadd, 1), (2582, .iaload, 1), (2583, .aload_n 3, 1), (2584, .invokestatic 255, 3), (2587, .istore 5, 2), (2589, .aload_n 2, 1), (2590, .aload_n 0, 1), (2591, .iload 4, 2), (2593, .iconst 1, 1), (2594, .iadd, 1), (2595, .iaload, 1), (2596, .aload_n 0, 1), (2597, .iload 4, 2), (2599, .iconst 2, 1), (2600, .iadd, 1)]
def mc_296_16 : List (Nat × Instr × Nat) := [(2601, .iaload, 1), (2602, .aload_n 0, 1), (2603, .iload 4, 2), (2605, .iconst 3, 1), (2606, .iadd, 1), (2607, .iaload, 1), (2608, .aload_n 0, 1), (2609, .iload 4, 2), (2611, .iconst 4, 1), (2612, .iadd, 1), (2613, .iaload, 1), (2614, .aload_n 0, 1), (2615, .iload 4, 2), (2617, .iconst 5, 1), (2618, .iadd, 1), (2619, .iaload, 1), (2620, .aload_n 0, 1), (2621, .iload 4, 2), (2623, .bipush 6, 2), (2625, .iadd, 1), (2626, .iaload, 1), (2627, .invokevirtual 258, 3), (2630, .istore 6, 2), (2632, .aload_n 2, 1), (2633, .invokevirtual 134, 3), (2636, .iload 5, 2), (2638, .if_icmp .eq 5, 3), (2641, .iconst 0, 1), (2642, .ireturn, 1), (2643, .iload 5, 2), (2645, .ifCond .ne 15, 3), (2648, .aload_n 3, 1), (2649, .iconst 0, 1), (2650, .laload, 1), (2651, .iload 6, 2), (2653, .i2l, 1), (2654, .lcmp, 1), (2655, .ifCond .eq 5, 3), (2658, .iconst 0, 1), (2659, .ireturn, 1), (2660, .goto 79, 3), (2663, .aload_n 1, 1), (2664, .invokevirtual 259, 3), (2667, .aload_n 2, 1), (2668, .invokevirtual 262, 3), (2671, .if_icmp .eq 68, 3), (2674, .iconst 0, 1), (2675, .ireturn, 1), (2676, .aload_n 1, 1), (2677, .invokevirtual 263, 3), (2680, .aload_n 2, 1), (2681, .invokevirtual 266, 3), (2684, .if_icmp .eq 55, 3), (2687, .iconst 0, 1), (2688, .ireturn, 1), (2689, .aload_n 1, 1), (2690, .aload_n 0, 1), (2691, .iload 4, 2), (2693, .iconst 1, 1), (2694, .iadd, 1), (2695, .iaload, 1), (2696, .invokevirtual 267, 3), (2699, .aload_n 2, 1), (2700, .aload_n 0, 1), (2701, .iload 4, 2), (2703, .iconst 1, 1), (2704, .iadd, 1), (2705, .iaload, 1), (2706, .invokevirtual 270, 3), (2709, .if_icmp .eq 30, 3), (2712, .iconst 0, 1), (2713, .ireturn, 1), (2714, .aload_n 1, 1), (2715, .aload_n 0, 1), (2716, .iload 4, 2), (2718, .iconst 1, 1), (2719, .iadd, 1), (2720, .iaload, 1), (2721, .invokevirtual 271, 3), (2724, .aload_n 2, 1), (2725, .aload_n 0, 1), (2726, .iload 4, 2), (2728, .iconst 1, 1), (2729, .iadd, 1), (2730, .iaload, 1), (2731, .invokevirtual 274, 3), (2734, .if_icmp .eq 5, 3), (2737, .iconst 0, 1), (2738, .ireturn, 1), (2739, .iinc 4 8, 3), (2742, .goto (-2719), 3), (2745, .iconst 1, 1), (2746, .ireturn, 1)]
def mc_296 : List (Nat × Instr × Nat) := mc_296_0 ++ (mc_296_1 ++ (mc_296_2 ++ (mc_296_3 ++ (mc_296_4 ++ (mc_296_5 ++ (mc_296_6 ++ (mc_296_7 ++ (mc_296_8 ++ (mc_296_9 ++ (mc_296_10 ++ (mc_296_11 ++ (mc_296_12 ++ (mc_296_13 ++ (mc_296_14 ++ (mc_296_15 ++ (mc_296_16))))))))))))))))
def mi_296 : AMI := (9, yL_law_, cL_law_, 8, (some .boolean), [], mc_296, 1, 1)
def mN : Nat := 297
def mG (k : Nat) : AMI := (bif Nat.ble k 147 then (bif Nat.ble k 73 then (bif Nat.ble k 36 then (bif Nat.ble k 17 then (bif Nat.ble k 8 then (bif Nat.ble k 3 then (bif Nat.ble k 1 then (bif Nat.ble k 0 then mi_0 else mi_1) else (bif Nat.ble k 2 then mi_2 else mi_3)) else (bif Nat.ble k 5 then (bif Nat.ble k 4 then mi_4 else mi_5) else (bif Nat.ble k 6 then mi_6 else (bif Nat.ble k 7 then mi_7 else mi_8)))) else (bif Nat.ble k 12 then (bif Nat.ble k 10 then (bif Nat.ble k 9 then mi_9 else mi_10) else (bif Nat.ble k 11 then mi_11 else mi_12)) else (bif Nat.ble k 14 then (bif Nat.ble k 13 then mi_13 else mi_14) else (bif Nat.ble k 15 then mi_15 else (bif Nat.ble k 16 then mi_16 else mi_17))))) else (bif Nat.ble k 26 then (bif Nat.ble k 21 then (bif Nat.ble k 19 then (bif Nat.ble k 18 then mi_18 else mi_19) else (bif Nat.ble k 20 then mi_20 else mi_21)) else (bif Nat.ble k 23 then (bif Nat.ble k 22 then mi_22 else mi_23) else (bif Nat.ble k 24 then mi_24 else (bif Nat.ble k 25 then mi_25 else mi_26)))) else (bif Nat.ble k 31 then (bif Nat.ble k 28 then (bif Nat.ble k 27 then mi_27 else mi_28) else (bif Nat.ble k 29 then mi_29 else (bif Nat.ble k 30 then mi_30 else mi_31))) else (bif Nat.ble k 33 then (bif Nat.ble k 32 then mi_32 else mi_33) else (bif Nat.ble k 34 then mi_34 else (bif Nat.ble k 35 then mi_35 else mi_36)))))) else (bif Nat.ble k 54 then (bif Nat.ble k 45 then (bif Nat.ble k 40 then (bif Nat.ble k 38 then (bif Nat.ble k 37 then mi_37 else mi_38) else (bif Nat.ble k 39 then mi_39 else mi_40)) else (bif Nat.ble k 42 then (bif Nat.ble k 41 then mi_41 else mi_42) else (bif Nat.ble k 43 then mi_43 else (bif Nat.ble k 44 then mi_44 else mi_45)))) else (bif Nat.ble k 49 then (bif Nat.ble k 47 then (bif Nat.ble k 46 then mi_46 else mi_47) else (bif Nat.ble k 48 then mi_48 else mi_49)) else (bif Nat.ble k 51 then (bif Nat.ble k 50 then mi_50 else mi_51) else (bif Nat.ble k 52 then mi_52 else (bif Nat.ble k 53 then mi_53 else mi_54))))) else (bif Nat.ble k 63 then (bif Nat.ble k 58 then (bif Nat.ble k 56 then (bif Nat.ble k 55 then mi_55 else mi_56) else (bif Nat.ble k 57 then mi_57 else mi_58)) else (bif Nat.ble k 60 then (bif Nat.ble k 59 then mi_59 else mi_60) else (bif Nat.ble k 61 then mi_61 else (bif Nat.ble k 62 then mi_62 else mi_63)))) else (bif Nat.ble k 68 then (bif Nat.ble k 65 then (bif Nat.ble k 64 then mi_64 else mi_65) else (bif Nat.ble k 66 then mi_66 else (bif Nat.ble k 67 then mi_67 else mi_68))) else (bif Nat.ble k 70 then (bif Nat.ble k 69 then mi_69 else mi_70) else (bif Nat.ble k 71 then mi_71 else (bif Nat.ble k 72 then mi_72 else mi_73))))))) else (bif Nat.ble k 110 then (bif Nat.ble k 91 then (bif Nat.ble k 82 then (bif Nat.ble k 77 then (bif Nat.ble k 75 then (bif Nat.ble k 74 then mi_74 else mi_75) else (bif Nat.ble k 76 then mi_76 else mi_77)) else (bif Nat.ble k 79 then (bif Nat.ble k 78 then mi_78 else mi_79) else (bif Nat.ble k 80 then mi_80 else (bif Nat.ble k 81 then mi_81 else mi_82)))) else (bif Nat.ble k 86 then (bif Nat.ble k 84 then (bif Nat.ble k 83 then mi_83 else mi_84) else (bif Nat.ble k 85 then mi_85 else mi_86)) else (bif Nat.ble k 88 then (bif Nat.ble k 87 then mi_87 else mi_88) else (bif Nat.ble k 89 then mi_89 else (bif Nat.ble k 90 then mi_90 else mi_91))))) else (bif Nat.ble k 100 then (bif Nat.ble k 95 then (bif Nat.ble k 93 then (bif Nat.ble k 92 then mi_92 else mi_93) else (bif Nat.ble k 94 then mi_94 else mi_95)) else (bif Nat.ble k 97 then (bif Nat.ble k 96 then mi_96 else mi_97) else (bif Nat.ble k 98 then mi_98 else (bif Nat.ble k 99 then mi_99 else mi_100)))) else (bif Nat.ble k 105 then (bif Nat.ble k 102 then (bif Nat.ble k 101 then mi_101 else mi_102) else (bif Nat.ble k 103 then mi_103 else (bif Nat.ble k 104 then mi_104 else mi_105))) else (bif Nat.ble k 107 then (bif Nat.ble k 106 then mi_106 else mi_107) else (bif Nat.ble k 108 then mi_108 else (bif Nat.ble k 109 then mi_109 else mi_110)))))) else (bif Nat.ble k 128 then (bif Nat.ble k 119 then (bif Nat.ble k 114 then (bif Nat.ble k 112 then (bif Nat.ble k 111 then mi_111 else mi_112) else (bif Nat.ble k 113 then mi_113 else mi_114)) else (bif Nat.ble k 116 then (bif Nat.ble k 115 then mi_115 else mi_116) else (bif Nat.ble k 117 then mi_117 else (bif Nat.ble k 118 then mi_118 else mi_119)))) else (bif Nat.ble k 123 then (bif Nat.ble k 121 then (bif Nat.ble k 120 then mi_120 else mi_121) else (bif Nat.ble k 122 then mi_122 else mi_123)) else (bif Nat.ble k 125 then (bif Nat.ble k 124 then mi_124 else mi_125) else (bif Nat.ble k 126 then mi_126 else (bif Nat.ble k 127 then mi_127 else mi_128))))) else (bif Nat.ble k 137 then (bif Nat.ble k 132 then (bif Nat.ble k 130 then (bif Nat.ble k 129 then mi_129 else mi_130) else (bif Nat.ble k 131 then mi_131 else mi_132)) else (bif Nat.ble k 134 then (bif Nat.ble k 133 then mi_133 else mi_134) else (bif Nat.ble k 135 then mi_135 else (bif Nat.ble k 136 then mi_136 else mi_137)))) else (bif Nat.ble k 142 then (bif Nat.ble k 139 then (bif Nat.ble k 138 then mi_138 else mi_139) else (bif Nat.ble k 140 then mi_140 else (bif Nat.ble k 141 then mi_141 else mi_142))) else (bif Nat.ble k 144 then (bif Nat.ble k 143 then mi_143 else mi_144) else (bif Nat.ble k 145 then mi_145 else (bif Nat.ble k 146 then mi_146 else mi_147)))))))) else (bif Nat.ble k 221 then (bif Nat.ble k 184 then (bif Nat.ble k 165 then (bif Nat.ble k 156 then (bif Nat.ble k 151 then (bif Nat.ble k 149 then (bif Nat.ble k 148 then mi_148 else mi_149) else (bif Nat.ble k 150 then mi_150 else mi_151)) else (bif Nat.ble k 153 then (bif Nat.ble k 152 then mi_152 else mi_153) else (bif Nat.ble k 154 then mi_154 else (bif Nat.ble k 155 then mi_155 else mi_156)))) else (bif Nat.ble k 160 then (bif Nat.ble k 158 then (bif Nat.ble k 157 then mi_157 else mi_158) else (bif Nat.ble k 159 then mi_159 else mi_160)) else (bif Nat.ble k 162 then (bif Nat.ble k 161 then mi_161 else mi_162) else (bif Nat.ble k 163 then mi_163 else (bif Nat.ble k 164 then mi_164 else mi_165))))) else (bif Nat.ble k 174 then (bif Nat.ble k 169 then (bif Nat.ble k 167 then (bif Nat.ble k 166 then mi_166 else mi_167) else (bif Nat.ble k 168 then mi_168 else mi_169)) else (bif Nat.ble k 171 then (bif Nat.ble k 170 then mi_170 else mi_171) else (bif Nat.ble k 172 then mi_172 else (bif Nat.ble k 173 then mi_173 else mi_174)))) else (bif Nat.ble k 179 then (bif Nat.ble k 176 then (bif Nat.ble k 175 then mi_175 else mi_176) else (bif Nat.ble k 177 then mi_177 else (bif Nat.ble k 178 then mi_178 else mi_179))) else (bif Nat.ble k 181 then (bif Nat.ble k 180 then mi_180 else mi_181) else (bif Nat.ble k 182 then mi_182 else (bif Nat.ble k 183 then mi_183 else mi_184)))))) else (bif Nat.ble k 202 then (bif Nat.ble k 193 then (bif Nat.ble k 188 then (bif Nat.ble k 186 then (bif Nat.ble k 185 then mi_185 else mi_186) else (bif Nat.ble k 187 then mi_187 else mi_188)) else (bif Nat.ble k 190 then (bif Nat.ble k 189 then mi_189 else mi_190) else (bif Nat.ble k 191 then mi_191 else (bif Nat.ble k 192 then mi_192 else mi_193)))) else (bif Nat.ble k 197 then (bif Nat.ble k 195 then (bif Nat.ble k 194 then mi_194 else mi_195) else (bif Nat.ble k 196 then mi_196 else mi_197)) else (bif Nat.ble k 199 then (bif Nat.ble k 198 then mi_198 else mi_199) else (bif Nat.ble k 200 then mi_200 else (bif Nat.ble k 201 then mi_201 else mi_202))))) else (bif Nat.ble k 211 then (bif Nat.ble k 206 then (bif Nat.ble k 204 then (bif Nat.ble k 203 then mi_203 else mi_204) else (bif Nat.ble k 205 then mi_205 else mi_206)) else (bif Nat.ble k 208 then (bif Nat.ble k 207 then mi_207 else mi_208) else (bif Nat.ble k 209 then mi_209 else (bif Nat.ble k 210 then mi_210 else mi_211)))) else (bif Nat.ble k 216 then (bif Nat.ble k 213 then (bif Nat.ble k 212 then mi_212 else mi_213) else (bif Nat.ble k 214 then mi_214 else (bif Nat.ble k 215 then mi_215 else mi_216))) else (bif Nat.ble k 218 then (bif Nat.ble k 217 then mi_217 else mi_218) else (bif Nat.ble k 219 then mi_219 else (bif Nat.ble k 220 then mi_220 else mi_221))))))) else (bif Nat.ble k 258 then (bif Nat.ble k 239 then (bif Nat.ble k 230 then (bif Nat.ble k 225 then (bif Nat.ble k 223 then (bif Nat.ble k 222 then mi_222 else mi_223) else (bif Nat.ble k 224 then mi_224 else mi_225)) else (bif Nat.ble k 227 then (bif Nat.ble k 226 then mi_226 else mi_227) else (bif Nat.ble k 228 then mi_228 else (bif Nat.ble k 229 then mi_229 else mi_230)))) else (bif Nat.ble k 234 then (bif Nat.ble k 232 then (bif Nat.ble k 231 then mi_231 else mi_232) else (bif Nat.ble k 233 then mi_233 else mi_234)) else (bif Nat.ble k 236 then (bif Nat.ble k 235 then mi_235 else mi_236) else (bif Nat.ble k 237 then mi_237 else (bif Nat.ble k 238 then mi_238 else mi_239))))) else (bif Nat.ble k 248 then (bif Nat.ble k 243 then (bif Nat.ble k 241 then (bif Nat.ble k 240 then mi_240 else mi_241) else (bif Nat.ble k 242 then mi_242 else mi_243)) else (bif Nat.ble k 245 then (bif Nat.ble k 244 then mi_244 else mi_245) else (bif Nat.ble k 246 then mi_246 else (bif Nat.ble k 247 then mi_247 else mi_248)))) else (bif Nat.ble k 253 then (bif Nat.ble k 250 then (bif Nat.ble k 249 then mi_249 else mi_250) else (bif Nat.ble k 251 then mi_251 else (bif Nat.ble k 252 then mi_252 else mi_253))) else (bif Nat.ble k 255 then (bif Nat.ble k 254 then mi_254 else mi_255) else (bif Nat.ble k 256 then mi_256 else (bif Nat.ble k 257 then mi_257 else mi_258)))))) else (bif Nat.ble k 277 then (bif Nat.ble k 267 then (bif Nat.ble k 262 then (bif Nat.ble k 260 then (bif Nat.ble k 259 then mi_259 else mi_260) else (bif Nat.ble k 261 then mi_261 else mi_262)) else (bif Nat.ble k 264 then (bif Nat.ble k 263 then mi_263 else mi_264) else (bif Nat.ble k 265 then mi_265 else (bif Nat.ble k 266 then mi_266 else mi_267)))) else (bif Nat.ble k 272 then (bif Nat.ble k 269 then (bif Nat.ble k 268 then mi_268 else mi_269) else (bif Nat.ble k 270 then mi_270 else (bif Nat.ble k 271 then mi_271 else mi_272))) else (bif Nat.ble k 274 then (bif Nat.ble k 273 then mi_273 else mi_274) else (bif Nat.ble k 275 then mi_275 else (bif Nat.ble k 276 then mi_276 else mi_277))))) else (bif Nat.ble k 286 then (bif Nat.ble k 281 then (bif Nat.ble k 279 then (bif Nat.ble k 278 then mi_278 else mi_279) else (bif Nat.ble k 280 then mi_280 else mi_281)) else (bif Nat.ble k 283 then (bif Nat.ble k 282 then mi_282 else mi_283) else (bif Nat.ble k 284 then mi_284 else (bif Nat.ble k 285 then mi_285 else mi_286)))) else (bif Nat.ble k 291 then (bif Nat.ble k 288 then (bif Nat.ble k 287 then mi_287 else mi_288) else (bif Nat.ble k 289 then mi_289 else (bif Nat.ble k 290 then mi_290 else mi_291))) else (bif Nat.ble k 293 then (bif Nat.ble k 292 then mi_292 else mi_293) else (bif Nat.ble k 294 then mi_294 else (bif Nat.ble k 295 then mi_295 else mi_296)))))))))
def mK (k : Nat) : Nat := (mG k).1
def mY (k : Nat) : MethodName := (mG k).2.1
def mB (k : Nat) : ByteArray := (mG k).2.2.1
def mX (k : Nat) : Nat := (mG k).2.2.2.1
def mR (k : Nat) : Option FieldType := (mG k).2.2.2.2.1
def mH (k : Nat) : List (Nat × Nat × Nat × Nat) := (mG k).2.2.2.2.2.1
def mC (k : Nat) : List (Nat × Instr × Nat) := (mG k).2.2.2.2.2.2.1
def mD (k : Nat) : Nat := (mG k).2.2.2.2.2.2.2.1
def mV (k : Nat) : Nat := (mG k).2.2.2.2.2.2.2.2
def RN (c : Nat) : String := match c with
  | 0 => RX0
  | 1 => RX1
  | 2 => RX2
  | 3 => RX3
  | 4 => RX4
  | 5 => RX5
  | 6 => RX6
  | 7 => RX7
  | 8 => RX8
  | _ => RL
def TF (c : Nat) : u_T := match c with
  | 0 => TX0
  | 1 => TX1
  | 2 => TX2
  | 3 => TX3
  | 4 => TX4
  | 5 => TX5
  | 6 => TX6
  | 7 => TX7
  | _ => TX8
def NF (c : Nat) : Nat := match c with
  | 0 => 6
  | 1 => 5
  | 2 => 13
  | 3 => 5
  | 4 => 2
  | 5 => 6
  | 6 => 1
  | 7 => 14
  | _ => 53
def YF (c : Nat) : Nat → FieldType := match c with
  | 0 => tyX0
  | 1 => tyX1
  | 2 => tyX2
  | 3 => tyX3
  | 4 => tyX4
  | 5 => tyX5
  | 6 => tyX6
  | 7 => tyX7
  | _ => tyX8
def kF_0 : List (Nat × Nat × Nat) := [(9, 0, 0), (15, 0, 1), (18, 0, 2), (21, 0, 3), (24, 0, 4), (28, 0, 5)]
def kM_0 : List (Nat × Nat × Nat) := [(3, 2, 0), (102, 0, 18), (105, 0, 19), (31, 0, 13), (50, 0, 12), (63, 0, 14), (68, 0, 6), (71, 0, 8), (59, 0, 5), (75, 0, 3), (55, 0, 4), (83, 0, 10), (86, 0, 7), (40, 0, 2), (92, 0, 11), (35, 0, 16), (44, 6, 0)]
def kX_0 : List (Nat × Nat) := []
def kI_0 : List (Nat × Int32) := []
def kL_0 : List (Nat × Int64) := []
def kF_1 : List (Nat × Nat × Nat) := [(11, 1, 0), (15, 1, 1), (18, 1, 2), (21, 1, 3), (25, 1, 4), (32, 4, 0)]
def kM_1 : List (Nat × Nat × Nat) := [(5, 2, 0), (35, 6, 0), (28, 0, 23)]
def kX_1 : List (Nat × Nat) := []
def kI_1 : List (Nat × Int32) := []
def kL_1 : List (Nat × Int64) := []
def kF_2 : List (Nat × Nat × Nat) := [(81, 2, 0), (84, 2, 1), (87, 2, 2), (9, 2, 3), (90, 2, 4), (93, 2, 5), (15, 2, 6), (19, 2, 7), (22, 2, 8), (25, 2, 9), (28, 2, 10), (31, 2, 11), (37, 2, 12)]
def kM_2 : List (Nat × Nat × Nat) := [(3, 2, 0), (36, 1, 0), (41, 0, 30), (96, 0, 1), (44, 0, 15), (50, 0, 3), (56, 0, 10), (60, 0, 31), (64, 0, 7), (68, 0, 2), (71, 0, 33), (97, 0, 32), (101, 0, 8), (77, 0, 11), (105, 6, 0)]
def kX_2 : List (Nat × Nat) := [(34, 0)]
def kI_2 : List (Nat × Int32) := []
def kL_2 : List (Nat × Int64) := []
def kF_3 : List (Nat × Nat × Nat) := [(11, 3, 0), (15, 3, 1), (19, 3, 2), (22, 3, 3), (25, 3, 4), (77, 2, 0), (68, 2, 1), (80, 2, 2)]
def kM_3 : List (Nat × Nat × Nat) := [(3, 2, 0), (28, 0, 41), (32, 0, 15), (38, 0, 39), (42, 0, 3), (47, 0, 10), (51, 0, 7), (55, 0, 2), (58, 0, 40), (73, 0, 8), (83, 0, 38), (64, 0, 11), (91, 0, 63), (95, 3, 0), (101, 0, 62), (105, 0, 44), (111, 0, 53), (115, 0, 55), (118, 0, 54), (122, 0, 58), (126, 0, 60), (129, 0, 61)]
def kX_3 : List (Nat × Nat) := []
def kI_3 : List (Nat × Int32) := []
def kL_3 : List (Nat × Int64) := []
def kF_4 : List (Nat × Nat × Nat) := [(19, 2, 0), (75, 2, 3), (25, 2, 6), (58, 2, 8), (42, 2, 12), (11, 4, 0), (15, 4, 1)]
def kM_4 : List (Nat × Nat × Nat) := [(5, 2, 0), (34, 0, 45), (38, 0, 43), (55, 0, 56), (46, 0, 51), (49, 0, 20), (72, 0, 29), (78, 0, 49), (69, 0, 48), (65, 0, 47), (61, 0, 46), (81, 0, 50), (85, 0, 52), (104, 3, 0), (89, 0, 54), (93, 4, 0), (98, 0, 57), (101, 0, 59), (28, 6, 0)]
def kX_4 : List (Nat × Nat) := []
def kI_4 : List (Nat × Int32) := []
def kL_4 : List (Nat × Int64) := []
def kF_5 : List (Nat × Nat × Nat) := [(9, 5, 0), (32, 5, 1), (35, 5, 2), (19, 5, 3), (38, 5, 4), (15, 5, 5)]
def kM_5 : List (Nat × Nat × Nat) := [(3, 2, 0), (22, 0, 72), (26, 4, 0), (45, 0, 2), (41, 0, 3), (56, 7, 0), (61, 8, 0), (73, 0, 9), (52, 0, 7), (69, 0, 6), (65, 0, 4), (49, 0, 15)]
def kX_5 : List (Nat × Nat) := []
def kI_5 : List (Nat × Int32) := [(72, 99999)]
def kL_5 : List (Nat × Int64) := []
def kF_6 : List (Nat × Nat × Nat) := [(7, 6, 0), (19, 2, 0), (24, 2, 1), (27, 2, 2), (13, 4, 1)]
def kM_6 : List (Nat × Nat × Nat) := [(1, 2, 0), (30, 0, 76), (34, 0, 44), (38, 0, 53), (42, 0, 58), (46, 0, 59)]
def kX_6 : List (Nat × Nat) := []
def kI_6 : List (Nat × Int32) := [(49, 1103515245)]
def kL_6 : List (Nat × Int64) := []
def kF_7 : List (Nat × Nat × Nat) := [(77, 5, 3), (351, 5, 4), (154, 5, 5), (312, 1, 3), (318, 1, 4), (129, 3, 2), (139, 3, 3), (136, 3, 4), (102, 2, 0), (165, 2, 1), (168, 2, 2), (171, 2, 3), (145, 2, 4), (151, 2, 5), (209, 2, 8), (253, 2, 9), (284, 2, 11), (109, 2, 12), (174, 4, 0), (10, 7, 0), (19, 7, 1), (26, 7, 2), (33, 7, 3), (37, 7, 4), (41, 7, 5), (44, 7, 6), (50, 7, 7), (54, 7, 8), (62, 7, 9), (66, 7, 10), (99, 7, 11), (327, 7, 12), (330, 7, 13)]
def kM_7 : List (Nat × Nat × Nat) := [(1, 2, 0), (9, 1, 71), (18, 1, 21), (25, 1, 37), (32, 1, 75), (49, 1, 28), (59, 0, 64), (69, 0, 72), (73, 0, 73), (215, 0, 67), (230, 0, 57), (187, 0, 43), (315, 0, 25), (321, 0, 26), (324, 0, 27), (81, 0, 82), (278, 4, 0), (157, 0, 80), (161, 0, 81), (348, 0, 74), (85, 0, 34), (89, 0, 2), (93, 0, 65), (96, 0, 22), (105, 0, 83), (113, 0, 17), (118, 0, 23), (121, 0, 42), (125, 0, 24), (132, 0, 63), (142, 0, 35), (148, 0, 36), (177, 0, 69), (181, 0, 70), (184, 0, 92), (333, 0, 91), (190, 0, 51), (193, 0, 68), (196, 0, 45), (200, 0, 94), (203, 0, 29), (206, 0, 96), (212, 0, 46), (223, 0, 56), (226, 0, 20), (233, 0, 66), (243, 0, 44), (246, 0, 49), (249, 0, 48), (256, 0, 113), (354, 0, 47), (259, 0, 117), (262, 0, 118), (218, 5, 0), (266, 0, 120), (269, 0, 122), (272, 0, 121), (281, 0, 127), (357, 0, 126), (287, 0, 130), (360, 0, 129), (309, 3, 0), (290, 0, 132), (294, 0, 133), (299, 0, 135), (275, 0, 124), (236, 0, 55), (240, 0, 60), (303, 0, 77)]
def kX_7 : List (Nat × Nat) := [(7, 5), (16, 1), (23, 3), (30, 6), (47, 2), (57, 4), (343, 101), (336, 100)]
def kI_7 : List (Nat × Int32) := [(265, 99999), (308, 2147483647)]
def kL_7 : List (Nat × Int64) := [(297, 2)]
def kF_8 : List (Nat × Nat × Nat) := [(3, 8, 0), (7, 8, 1), (99, 8, 2), (111, 8, 3), (108, 8, 4), (102, 8, 5), (105, 8, 6), (142, 8, 7), (17, 8, 8), (20, 8, 9), (23, 8, 10), (26, 8, 11), (29, 8, 12), (32, 8, 13), (35, 8, 14), (38, 8, 15), (145, 8, 16), (148, 8, 17), (151, 8, 18), (154, 8, 19), (157, 8, 20), (160, 8, 21), (163, 8, 22), (166, 8, 23), (41, 8, 24), (44, 8, 25), (47, 8, 26), (50, 8, 27), (53, 8, 28), (236, 8, 29), (173, 8, 30), (56, 8, 31), (59, 8, 32), (62, 8, 33), (284, 8, 34), (182, 8, 35), (188, 8, 36), (320, 8, 37), (323, 8, 38), (326, 8, 39), (65, 8, 40), (68, 8, 41), (71, 8, 42), (74, 8, 43), (77, 8, 44), (80, 8, 45), (83, 8, 46), (176, 8, 47), (179, 8, 48), (86, 8, 49), (438, 8, 50), (90, 8, 51), (185, 8, 52)]
def kM_8 : List (Nat × Nat × Nat) := [(11, 2, 0), (93, 0, 147), (96, 0, 149), (169, 0, 148), (203, 0, 145), (207, 0, 163), (131, 0, 152), (211, 0, 162), (114, 0, 154), (214, 0, 157), (118, 0, 155), (217, 0, 166), (192, 0, 158), (122, 7, 0), (127, 8, 0), (138, 0, 153), (220, 0, 167), (223, 0, 159), (226, 0, 168), (199, 0, 160), (135, 0, 156), (229, 0, 161), (232, 0, 164), (251, 0, 174), (239, 0, 173), (245, 0, 176), (248, 0, 171), (242, 0, 170), (269, 0, 175), (274, 0, 172), (305, 0, 185), (308, 0, 182), (311, 0, 184), (301, 0, 181), (314, 0, 183), (317, 0, 186), (329, 0, 201), (332, 0, 200), (335, 0, 188), (343, 0, 187), (339, 0, 193), (366, 0, 190), (363, 0, 189), (369, 0, 191), (372, 0, 192), (346, 0, 194), (350, 0, 198), (378, 0, 197), (375, 0, 196), (359, 0, 195), (356, 0, 180), (281, 0, 179), (277, 0, 178), (353, 0, 199), (381, 0, 205), (384, 0, 146), (387, 0, 203), (390, 0, 209), (393, 0, 210), (396, 0, 212), (399, 0, 204), (402, 0, 222), (405, 0, 226), (408, 0, 223), (411, 0, 225), (414, 0, 224), (417, 0, 229), (420, 0, 231), (425, 0, 233), (428, 0, 235), (435, 0, 238), (432, 0, 237), (445, 0, 254), (448, 0, 253), (442, 0, 252), (456, 0, 258), (452, 0, 257)]
def kX_8 : List (Nat × Nat) := []
def kI_8 : List (Nat × Int32) := [(413, 99999), (441, 1103515245)]
def kL_8 : List (Nat × Int64) := [(423, 16)]
def kF_9 : List (Nat × Nat × Nat) := []
def kM_9 : List (Nat × Nat × Nat) := [(119, 0, 78), (123, 0, 79), (150, 0, 89), (223, 0, 101), (216, 0, 106), (242, 0, 107), (154, 0, 139), (259, 0, 140), (263, 0, 141), (267, 0, 142), (271, 0, 143), (128, 0, 263), (7, 0, 84), (138, 0, 264), (15, 0, 85), (141, 0, 265), (18, 0, 86), (144, 0, 266), (21, 0, 87), (147, 0, 267), (24, 0, 88), (158, 0, 268), (27, 0, 90), (161, 0, 269), (30, 0, 93), (165, 0, 270), (36, 0, 95), (168, 0, 271), (39, 0, 97), (171, 0, 272), (42, 0, 103), (174, 0, 273), (45, 0, 104), (178, 0, 274), (49, 0, 110), (182, 0, 275), (53, 0, 111), (185, 0, 276), (56, 0, 112), (188, 0, 277), (59, 0, 114), (191, 0, 278), (62, 0, 119), (194, 0, 279), (65, 0, 123), (197, 0, 280), (68, 0, 128), (200, 0, 281), (71, 0, 131), (203, 0, 282), (74, 0, 134), (207, 0, 283), (78, 0, 136), (210, 0, 284), (81, 0, 125), (213, 0, 285), (84, 0, 105), (220, 0, 286), (87, 0, 108), (227, 0, 287), (90, 0, 109), (230, 0, 288), (93, 0, 98), (233, 0, 289), (96, 0, 99), (236, 0, 290), (99, 0, 115), (239, 0, 291), (102, 0, 100), (246, 0, 292), (105, 0, 102), (249, 0, 293), (108, 0, 116), (252, 0, 294), (111, 0, 137), (255, 0, 295), (115, 0, 138), (134, 0, 144), (122, 0, 150), (127, 0, 151), (153, 0, 165), (133, 0, 169), (140, 0, 177), (143, 0, 202), (146, 0, 206), (149, 0, 207), (157, 0, 208), (160, 0, 211), (164, 0, 213), (167, 0, 214), (170, 0, 215), (173, 0, 216), (177, 0, 217), (181, 0, 218), (184, 0, 219), (187, 0, 220), (190, 0, 221), (193, 0, 227), (196, 0, 228), (199, 0, 230), (202, 0, 232), (206, 0, 234), (209, 0, 236), (212, 0, 239), (215, 0, 240), (219, 0, 241), (222, 0, 242), (226, 0, 243), (229, 0, 244), (232, 0, 245), (235, 0, 246), (238, 0, 247), (241, 0, 248), (245, 0, 249), (248, 0, 250), (251, 0, 251), (254, 0, 255), (258, 0, 256), (262, 0, 259), (266, 0, 260), (270, 0, 261), (274, 0, 262)]
def kX_9 : List (Nat × Nat) := [(8, 7), (13, 101), (34, 100), (120, 8)]
def kI_9 : List (Nat × Int32) := []
def kL_9 : List (Nat × Int64) := []
def kS_0 : List (Nat × Nat) := [(79, 0), (81, 1), (90, 2), (96, 3), (98, 4), (100, 5), (66, 6), (53, 7)]
def kS_1 : List (Nat × Nat) := []
def kS_2 : List (Nat × Nat) := [(54, 8), (75, 9)]
def kS_3 : List (Nat × Nat) := [(45, 10), (87, 11), (89, 12), (62, 13)]
def kS_4 : List (Nat × Nat) := []
def kS_5 : List (Nat × Nat) := []
def kS_6 : List (Nat × Nat) := []
def kS_7 : List (Nat × Nat) := [(345, 14), (338, 15)]
def kS_8 : List (Nat × Nat) := [(191, 16), (196, 17), (197, 18), (198, 19), (267, 20), (272, 21), (254, 22), (255, 23), (257, 24), (259, 25), (261, 26), (263, 27), (265, 28), (287, 29), (289, 30), (291, 31), (293, 32), (295, 33), (297, 34), (299, 35)]
def kS_9 : List (Nat × Nat) := []
def kF (c : Nat) : List (Nat × Nat × Nat) := match c with
  | 0 => kF_0
  | 1 => kF_1
  | 2 => kF_2
  | 3 => kF_3
  | 4 => kF_4
  | 5 => kF_5
  | 6 => kF_6
  | 7 => kF_7
  | 8 => kF_8
  | _ => kF_9
def kM (c : Nat) : List (Nat × Nat × Nat) := match c with
  | 0 => kM_0
  | 1 => kM_1
  | 2 => kM_2
  | 3 => kM_3
  | 4 => kM_4
  | 5 => kM_5
  | 6 => kM_6
  | 7 => kM_7
  | 8 => kM_8
  | _ => kM_9
def kX (c : Nat) : List (Nat × Nat) := match c with
  | 0 => kX_0
  | 1 => kX_1
  | 2 => kX_2
  | 3 => kX_3
  | 4 => kX_4
  | 5 => kX_5
  | 6 => kX_6
  | 7 => kX_7
  | 8 => kX_8
  | _ => kX_9
def kI (c : Nat) : List (Nat × Int32) := match c with
  | 0 => kI_0
  | 1 => kI_1
  | 2 => kI_2
  | 3 => kI_3
  | 4 => kI_4
  | 5 => kI_5
  | 6 => kI_6
  | 7 => kI_7
  | 8 => kI_8
  | _ => kI_9
def kL (c : Nat) : List (Nat × Int64) := match c with
  | 0 => kL_0
  | 1 => kL_1
  | 2 => kL_2
  | 3 => kL_3
  | 4 => kL_4
  | 5 => kL_5
  | 6 => kL_6
  | 7 => kL_7
  | 8 => kL_8
  | _ => kL_9
def kS (c : Nat) : List (Nat × Nat) := match c with
  | 0 => kS_0
  | 1 => kS_1
  | 2 => kS_2
  | 3 => kS_3
  | 4 => kS_4
  | 5 => kS_5
  | 6 => kS_6
  | 7 => kS_7
  | 8 => kS_8
  | _ => kS_9
def sN : Nat := 36
def sAll : List (Nat × Nat × String × List Int32) := [(0, 79, "(", [40]), (0, 81, "fine mid coarse husk all age day jar least most", [102, 105, 110, 101, 32, 109, 105, 100, 32, 99, 111, 97, 114, 115, 101, 32, 104, 117, 115, 107, 32, 97, 108, 108, 32, 97, 103, 101, 32, 100, 97, 121, 32, 106, 97, 114, 32, 108, 101, 97, 115, 116, 32, 109, 111, 115, 116]), (0, 90, ")", [41]), (0, 96, "[", [91]), (0, 98, ",", [44]), (0, 100, "]", [93]), (0, 66, "*/%", [42, 47, 37]), (0, 53, "+-", [43, 45]), (2, 54, "jar stone sieve dust", [106, 97, 114, 32, 115, 116, 111, 110, 101, 32, 115, 105, 101, 118, 101, 32, 100, 117, 115, 116]), (2, 75, ";", [59]), (3, 45, "grind sift pour scoop tear sell day again", [103, 114, 105, 110, 100, 32, 115, 105, 102, 116, 32, 112, 111, 117, 114, 32, 115, 99, 111, 111, 112, 32, 116, 101, 97, 114, 32, 115, 101, 108, 108, 32, 100, 97, 121, 32, 97, 103, 97, 105, 110]), (3, 87, "[", [91]), (3, 89, "]", [93]), (3, 62, ";", [59]), (7, 345, "a number out of its bounds", [97, 32, 110, 117, 109, 98, 101, 114, 32, 111, 117, 116, 32, 111, 102, 32, 105, 116, 115, 32, 98, 111, 117, 110, 100, 115]), (7, 338, "no such jar, stone or sieve", [110, 111, 32, 115, 117, 99, 104, 32, 106, 97, 114, 44, 32, 115, 116, 111, 110, 101, 32, 111, 114, 32, 115, 105, 101, 118, 101]), (8, 191, "jar", [106, 97, 114]), (8, 196, "stone", [115, 116, 111, 110, 101]), (8, 197, "sieve", [115, 105, 101, 118, 101]), (8, 198, "dust", [100, 117, 115, 116]), (8, 267, "least", [108, 101, 97, 115, 116]), (8, 272, "most", [109, 111, 115, 116]), (8, 254, "fine", [102, 105, 110, 101]), (8, 255, "mid", [109, 105, 100]), (8, 257, "coarse", [99, 111, 97, 114, 115, 101]), (8, 259, "husk", [104, 117, 115, 107]), (8, 261, "all", [97, 108, 108]), (8, 263, "age", [97, 103, 101]), (8, 265, "day", [100, 97, 121]), (8, 287, "grind", [103, 114, 105, 110, 100]), (8, 289, "sift", [115, 105, 102, 116]), (8, 291, "pour", [112, 111, 117, 114]), (8, 293, "scoop", [115, 99, 111, 111, 112]), (8, 295, "tear", [116, 101, 97, 114]), (8, 297, "sell", [115, 101, 108, 108]), (8, 299, "again", [97, 103, 97, 105, 110])]
def sG (i : Nat) : Nat × Nat × String × List Int32 := sAll.getD i (0, 0, "", [])
def sC (i : Nat) : Nat := (sG i).1
def sP (i : Nat) : Nat := (sG i).2.1
def sT (i : Nat) : String := (sG i).2.2.1
def sB (i : Nat) : List Int32 := (sG i).2.2.2
def xNm (v : Nat) : String := match v with
  | 100 => "java/util/NoSuchElementException"
  | 101 => "java/lang/IllegalArgumentException"
  | v => RN v
def mW (k : Nat) : Cond := match mH k with
  | [] => .code (mY k) (mB k) (mX k) (mR k)
  | h :: hs => .codeWith (mY k) (mB k) (mX k) (mR k) (h :: hs)
def wF (c : Nat) (q : Nat × Nat × Nat) : Cond := .fieldLink (RN c) q.1 (RN q.2.1) (TF q.2.1 q.2.2).2.1 (TF q.2.1 q.2.2).2.2.1
def wM (c : Nat) (q : Nat × Nat × Nat) : Cond := match q.2.1 with
  | 0 => .methodLink (RN c) q.1 (mY q.2.2)
  | 1 => .methodLinkNest (RN c) q.1 (mY q.2.2) "SnuffMill"
  | 2 => .methodLink (RN c) q.1 objectInit
  | 3 => .methodLink (RN c) q.1 Lib.Math.max.name
  | 4 => .methodLink (RN c) q.1 Lib.Math.min.name
  | 5 => .methodLink (RN c) q.1 Lib.Math.abs.name
  | 6 => .methodLink (RN c) q.1 arraycopyName
  | 7 => .methodLink (RN c) q.1 yJ0_length_8abf5
  | _ => .methodLink (RN c) q.1 yJ0_charAt_5068e
def wD (k : Nat) : List Cond := match mD k with
  | 0 => [mW k, .instanceMethod (mY k), .selects (mY k).cls (mY k) (mY k)]
  | 1 => [mW k, .static (mY k)]
  | _ => [mW k, .instanceMethod (mY k)]
def wX (c : Nat) (q : Nat × Nat) : Cond := .classLink (RN c) q.1 (xNm q.2)
def wI (c : Nat) (q : Nat × Int32) : Cond := .constant (RN c) q.1 q.2
def wL (c : Nat) (q : Nat × Int64) : Cond := .constantLong (RN c) q.1 q.2
def AWF_of (c : Nat) : List Cond := (kF c).map (wF c)
def AWF : List Cond := (List.range 10).flatMap AWF_of
def AWM_of (c : Nat) : List Cond := ((kM c).filter fun q => !(Nat.beq q.2.1 1)).map (wM c)
def AWM : List Cond := (List.range 10).flatMap AWM_of
def AWD_of (a n : Nat) : List Cond := (List.range n).flatMap fun k => wD (a + k)
def AWC : List Cond := (List.range 10).map (fun c => .initialized (RN c)) ++ (List.range 9).flatMap (fun c => .instantiable (RN c) (NF c) :: u_ws (RN c) (TF c) (NF c))
def AWK : List Cond := (List.range 10).flatMap fun c => (kX c).map (wX c) ++ ((kI c).map (wI c) ++ (kL c).map (wL c))
def AWB : List Cond := [.instanceMethod objectInit, .code objectInit ⟨#[0xb1]⟩ 1 none, .static Lib.Math.max.name, .static Lib.Math.min.name, .static Lib.Math.abs.name, .code Lib.Math.max.name Lib.Math.max.code 2 (some .int), .code Lib.Math.min.name Lib.Math.min.code 2 (some .int), .code Lib.Math.abs.name Lib.Math.abs.code 1 (some .int), .initialized "java/lang/Math", .native arraycopyName, .static arraycopyName, .initialized "java/lang/System", .arrayClass .int, .arrayClass .byte, .arrayClass .long]
def AWJ : List Cond := [.instanceMethod yJ0_length_8abf5, .selects RJ0 yJ0_length_8abf5 yJ0_length_8abf5, .instanceMethod yJ0_charAt_5068e, .selects RJ0 yJ0_charAt_5068e yJ0_charAt_5068e, .initialized RJ0] ++ (wsJ0_length_8abf5 ++ wsJ0_charAt_5068e)
def xRt : String := "java/lang/RuntimeException"
/-- the constructor (String) of an exception: the index of its call, its bytes, the index by which the class calls it -/
def a_rj (v : Nat) : Nat := match v with | 100 => 13 | _ => 7
def a_rx (v : Nat) : ByteArray := match v with | 100 => ⟨#[0x2a, 0x2b, 0xb7, 0x00, 0x0d, 0xb1]⟩ | _ => ⟨#[0x2a, 0x2b, 0xb7, 0x00, 0x07, 0xb1]⟩
def a_ri (v : Nat) : Nat := match v with | 100 => 340 | _ => 347
def a_xc (X : String) (ix : Nat) (rx : ByteArray) : List Cond := Bundle.passSAtoms X xRt ix rx ++ Bundle.chainSAtoms xRt ["java/lang/Exception"]
def a_xAll (own : String) (ic : Nat) (X : String) (ix : Nat) (rx : ByteArray) : List Cond := Bundle.throwableAtoms ++ (Bundle.throwableSAtoms ++ (a_xc X ix rx ++
  [.methodLink own ic (Bundle.initS X), .instantiable X 6, .castable X X, .selects X Bundle.tFill0 Bundle.tFill0, .selects X Bundle.tFill Bundle.tFill,
   .lays X Bundle.tN "cause" "Ljava/lang/Throwable;", .lays X Bundle.tN "stackTrace" Bundle.steD, .lays X Bundle.tN "suppressedExceptions" Bundle.listD, .lays X Bundle.tN "detailMessage" "Ljava/lang/String;",
   .isRef (.static Bundle.tN "UNASSIGNED_STACK" Bundle.steD), .isRef (.static Bundle.tN "SUPPRESSED_SENTINEL" Bundle.listD),
   .fieldLink Bundle.tN 198 Bundle.tN "backtrace" "Ljava/lang/Object;", .lays Bundle.tN Bundle.tN "backtrace" "Ljava/lang/Object;", .lays X Bundle.tN "backtrace" "Ljava/lang/Object;"]))
def a_xw (v : Nat) : List Cond := (a_xAll RX7 (a_ri v) (xNm v) (a_rj v) (a_rx v)).filter vx_no
def AWX : List Cond := [.initialized (xNm 100), .initialized (xNm 101)] ++ ((a_xw 100).filter goodWord ++ (a_xw 101).filter goodWord)
def AWN : List Cond := ((List.range 10).flatMap fun c => ((kM c).filter fun q => Nat.beq q.2.1 1).map (wM c)) ++ ([.castable (xNm 100) (xNm 100), .castable (xNm 101) (xNm 101)] ++ ((a_xw 100).filter (fun w => !goodWord w) ++ (a_xw 101).filter (fun w => !goodWord w)))
def a_hw : Cond → Bool
  | .methodLinkNest _ _ _ _ => true | .castable _ _ => true | .declares _ => true | _ => false
end
section
/-! ===== the words of the abstract machine stand among the tables of the claim ===== -/
theorem a_gnil {big : List Cond} : GoodIn big [] := fun _ h => nomatch h
set_option maxRecDepth 100000 in
theorem g_AWF_0 : GoodIn lw_tbl (AWF_of 0) := goodIn_r _ [226, 227, 228, 229, 230, 231] (by decide +kernel) (by decide +kernel)
set_option maxRecDepth 100000 in
theorem g_AWF_1 : GoodIn lw_tbl (AWF_of 1) := goodIn_r _ [160, 161, 162, 163, 165, 313] (by decide +kernel) (by decide +kernel)
set_option maxRecDepth 100000 in
theorem g_AWF_2 : GoodIn lw_tbl (AWF_of 2) := goodIn_r _ [248, 251, 255, 258, 261, 263, 265, 267, 268, 271, 273, 274, 276] (by decide +kernel) (by decide +kernel)
set_option maxRecDepth 100000 in
theorem g_AWF_3 : GoodIn lw_tbl (AWF_of 3) := goodIn_r _ [185, 186, 187, 189, 191, 249, 252, 256] (by decide +kernel) (by decide +kernel)
set_option maxRecDepth 100000 in
theorem g_AWF_4 : GoodIn lw_tbl (AWF_of 4) := goodIn_r _ [246, 260, 266, 270, 278, 312, 315] (by decide +kernel) (by decide +kernel)
set_option maxRecDepth 100000 in
theorem g_AWF_5 : GoodIn lw_tbl (AWF_of 5) := goodIn_r _ [131, 132, 133, 134, 136, 138] (by decide +kernel) (by decide +kernel)
set_option maxRecDepth 100000 in
theorem g_AWF_6 : GoodIn lw_tbl (AWF_of 6) := goodIn_r _ [210, 245, 250, 254, 316] (by decide +kernel) (by decide +kernel)
set_option maxRecDepth 100000 in
theorem g_AWF_7 : GoodIn lw_tbl (AWF_of 7) := goodIn_r _ [135, 137, 139, 164, 166, 188, 190, 192, 247, 253, 257, 259, 262, 264, 269, 272, 275, 277, 314, 322, 323, 324, 325, 326, 327, 328, 329, 330, 331, 332, 333, 334, 335] (by decide +kernel) (by decide +kernel)
set_option maxRecDepth 100000 in
theorem g_AWF_8 : GoodIn lw_tbl (AWF_of 8) := goodIn_r _ [1234, 1235, 1236, 1237, 1238, 1239, 1240, 1241, 1242, 1243, 1244, 1245, 1246, 1247, 1248, 1249, 1250, 1251, 1252, 1253, 1254, 1255, 1256, 1257, 1258, 1259, 1260, 1261, 1262, 1263, 1264, 1265, 1266, 1267, 1268, 1269, 1270, 1271, 1272, 1273, 1274, 1275, 1276, 1277, 1278, 1279, 1280, 1281, 1282, 1283, 1284, 1285, 1286] (by decide +kernel) (by decide +kernel)
set_option maxRecDepth 100000 in
theorem g_AWF_9 : GoodIn lw_tbl (AWF_of 9) := a_gnil
set_option maxRecDepth 100000 in
theorem g_AWM_0 : GoodIn lw_tbl (AWM_of 0) := goodIn_r _ [225, 418, 421, 698, 702, 706, 710, 711, 712, 716, 718, 720, 721, 722, 724, 730, 735] (by decide +kernel) (by decide +kernel)
set_option maxRecDepth 100000 in
theorem g_AWM_1 : GoodIn lw_tbl (AWM_of 1) := goodIn_r _ [159, 437, 781] (by decide +kernel) (by decide +kernel)
set_option maxRecDepth 100000 in
theorem g_AWM_2 : GoodIn lw_tbl (AWM_of 2) := goodIn_r _ [219, 561, 565, 569, 581, 583, 643, 647, 648, 649, 653, 656, 666, 869] (by decide +kernel) (by decide +kernel)
set_option maxRecDepth 100000 in
theorem g_AWM_3 : GoodIn lw_tbl (AWM_of 3) := goodIn_r _ [184, 751, 755, 756, 760, 762, 763, 764, 765, 769, 770, 774, 786, 787, 790, 794, 802, 831, 840, 841, 846, 854] (by decide +kernel) (by decide +kernel)
set_option maxRecDepth 100000 in
theorem g_AWM_4 : GoodIn lw_tbl (AWM_of 4) := goodIn_r _ [311, 390, 402, 406, 410, 414, 798, 806, 810, 814, 818, 822, 826, 830, 835, 839, 845, 850, 985] (by decide +kernel) (by decide +kernel)
set_option maxRecDepth 100000 in
theorem g_AWM_5 : GoodIn lw_tbl (AWM_of 5) := goodIn_r _ [130, 377, 556, 573, 577, 587, 597, 635, 639, 660, 670, 734] (by decide +kernel) (by decide +kernel)
set_option maxRecDepth 100000 in
theorem g_AWM_6 : GoodIn lw_tbl (AWM_of 6) := goodIn_r _ [209, 1195, 1200, 1201, 1202, 1203] (by decide +kernel) (by decide +kernel)
set_option maxRecDepth 100000 in
theorem g_AWM_7 : GoodIn lw_tbl (AWM_of 7) := goodIn_r _ [122, 308, 369, 373, 386, 398, 428, 433, 444, 452, 472, 476, 479, 482, 552, 557, 674, 675, 679, 683, 694, 743, 747, 777, 782, 865, 877, 888, 892, 904, 908, 928, 929, 933, 941, 945, 953, 957, 965, 973, 981, 986, 994, 995, 1010, 1014, 1022, 1026, 1030, 1041, 1045, 1049, 1060, 1064, 1075, 1079, 1083, 1091, 1094, 1105, 1115, 1133, 1141, 1191] (by decide +kernel) (by decide +kernel)
set_option maxRecDepth 100000 in
theorem g_AWM_8 : GoodIn lw_tbl (AWM_of 8) := goodIn_r _ [1221, 1222, 1226, 1230, 1407, 1411, 1415, 1419, 1423, 1427, 1431, 1434, 1438, 1441, 1442, 1446, 1450, 1454, 1458, 1462, 1466, 1469, 1473, 1481, 1485, 1489, 1493, 1497, 1502, 1507, 1522, 1526, 1536, 1540, 1544, 1548, 1552, 1556, 1560, 1564, 1568, 1572, 1576, 1580, 1584, 1588, 1592, 1596, 1600, 1604, 1608, 1612, 1616, 1619, 1627, 1643, 1646, 1650, 1654, 1662, 1666, 1706, 1710, 1714, 1718, 1726, 1734, 1742, 1751, 1758, 1765, 1769, 1825, 1828, 1832, 1845, 1849] (by decide +kernel) (by decide +kernel)
set_option maxRecDepth 100000 in
theorem g_AWM_9 : GoodIn lw_tbl (AWM_of 9) := goodIn_r _ [119, 365, 378, 382, 394, 424, 429, 440, 448, 456, 460, 464, 468, 687, 690, 736, 739, 858, 861, 870, 873, 881, 884, 896, 900, 934, 937, 946, 949, 958, 961, 966, 969, 974, 977, 987, 990, 996, 999, 1003, 1006, 1015, 1018, 1033, 1036, 1053, 1056, 1068, 1071, 1084, 1087, 1098, 1101, 1108, 1111, 1119, 1122, 1126, 1129, 1134, 1137, 1142, 1145, 1149, 1152, 1156, 1159, 1163, 1166, 1170, 1173, 1177, 1180, 1184, 1187, 1204, 1207, 1212, 1218, 1395, 1399, 1403, 1477, 1518, 1623, 1631, 1635, 1639, 1658, 1670, 1674, 1678, 1682, 1686, 1690, 1694, 1698, 1702, 1721, 1730, 1738, 1746, 1754, 1761, 1773, 1777, 1781, 1785, 1789, 1793, 1797, 1801, 1805, 1809, 1813, 1817, 1821, 1837, 1841, 1853, 1857, 1861] (by decide +kernel) (by decide +kernel)
set_option maxRecDepth 100000 in
theorem g_AWD_0 : GoodIn lw_tbl (AWD_of 0 15) := goodIn_r _ [224, 223, 568, 566, 567, 576, 574, 575, 580, 578, 579, 673, 671, 672, 715, 714, 11, 663, 661, 662, 642, 640, 641, 659, 657, 658, 638, 637, 4, 586, 584, 585, 669, 667, 668, 705, 704, 9, 701, 700, 8, 709, 708, 10] (by decide +kernel) (by decide +kernel)
set_option maxRecDepth 100000 in
theorem g_AWD_15 : GoodIn lw_tbl (AWD_of 15 15) := goodIn_r _ [572, 570, 571, 733, 731, 732, 697, 695, 696, 420, 419, 423, 422, 417, 415, 416, 158, 157, 682, 680, 681, 746, 744, 745, 780, 778, 779, 436, 434, 435, 447, 445, 446, 455, 453, 454, 218, 217, 801, 799, 800] (by decide +kernel) (by decide +kernel)
set_option maxRecDepth 100000 in
theorem g_AWD_30 : GoodIn lw_tbl (AWD_of 30 15) := goodIn_r _ [564, 563, 3, 646, 645, 5, 655, 654, 652, 651, 6, 560, 558, 559, 868, 866, 867, 880, 878, 879, 183, 182, 772, 771, 759, 757, 758, 768, 767, 13, 754, 753, 12, 750, 748, 749, 405, 403, 404, 797, 795, 796] (by decide +kernel) (by decide +kernel)
set_option maxRecDepth 100000 in
theorem g_AWD_45 : GoodIn lw_tbl (AWD_of 45 15) := goodIn_r _ [393, 391, 392, 821, 819, 820, 817, 815, 816, 813, 811, 812, 809, 807, 808, 825, 824, 15, 413, 411, 412, 829, 828, 16, 805, 803, 804, 838, 836, 837, 834, 832, 833, 409, 407, 408, 401, 399, 400, 844, 842, 843, 853, 851, 852] (by decide +kernel) (by decide +kernel)
set_option maxRecDepth 100000 in
theorem g_AWD_60 : GoodIn lw_tbl (AWD_of 60 15) := goodIn_r _ [849, 847, 848, 857, 855, 856, 793, 792, 14, 785, 783, 784, 310, 309, 678, 676, 677, 984, 982, 983, 389, 387, 388, 932, 930, 931, 891, 889, 890, 895, 893, 894, 129, 128, 372, 370, 371, 376, 374, 375, 555, 553, 554] (by decide +kernel) (by decide +kernel)
set_option maxRecDepth 100000 in
theorem g_AWD_75 : GoodIn lw_tbl (AWD_of 75 15) := goodIn_r _ [208, 207, 1198, 1197, 32, 1194, 1192, 1193, 121, 120, 368, 366, 367, 481, 480, 485, 484, 1, 475, 474, 0, 686, 685, 7, 471, 469, 470, 693, 691, 692, 742, 740, 741, 864, 862, 863, 876, 874, 875, 381, 379, 380] (by decide +kernel) (by decide +kernel)
set_option maxRecDepth 100000 in
theorem g_AWD_90 : GoodIn lw_tbl (AWD_of 90 15) := goodIn_r _ [887, 885, 886, 911, 910, 18, 907, 906, 17, 903, 901, 902, 944, 943, 19, 940, 938, 939, 956, 955, 20, 952, 950, 951, 1148, 1146, 1147, 1155, 1153, 1154, 1169, 1167, 1168, 385, 383, 384, 1176, 1174, 1175, 964, 962, 963, 972, 970, 971] (by decide +kernel) (by decide +kernel)
set_option maxRecDepth 100000 in
theorem g_AWD_105 : GoodIn lw_tbl (AWD_of 105 15) := goodIn_r _ [1125, 1123, 1124, 397, 395, 396, 427, 425, 426, 1132, 1130, 1131, 1140, 1138, 1139, 980, 978, 979, 993, 991, 992, 1002, 1000, 1001, 1013, 1012, 21, 1009, 1007, 1008, 1162, 1160, 1161, 1183, 1181, 1182, 1025, 1024, 22, 1029, 1028, 23, 1021, 1019, 1020] (by decide +kernel) (by decide +kernel)
set_option maxRecDepth 100000 in
theorem g_AWD_120 : GoodIn lw_tbl (AWD_of 120 15) := goodIn_r _ [1044, 1043, 24, 1052, 1051, 26, 1048, 1047, 25, 1039, 1037, 1038, 1118, 1117, 31, 1114, 1112, 1113, 1067, 1066, 28, 1063, 1062, 27, 1059, 1057, 1058, 1082, 1081, 30, 1078, 1077, 29, 1074, 1072, 1073, 1093, 1092, 1096, 1095, 1090, 1088, 1089] (by decide +kernel) (by decide +kernel)
set_option maxRecDepth 100000 in
theorem g_AWD_135 : GoodIn lw_tbl (AWD_of 135 15) := goodIn_r _ [1107, 1106, 1104, 1102, 1103, 1190, 1188, 1189, 1210, 1208, 1209, 432, 430, 431, 443, 441, 442, 451, 449, 450, 459, 457, 458, 463, 461, 462, 1215, 1213, 1214, 1410, 1409, 36, 1645, 1644, 1225, 1224, 33, 1233, 1232, 35, 1229, 1228, 34] (by decide +kernel) (by decide +kernel)
set_option maxRecDepth 100000 in
theorem g_AWD_150 : GoodIn lw_tbl (AWD_of 150 15) := goodIn_r _ [1220, 1219, 1398, 1396, 1397, 1418, 1417, 38, 1449, 1448, 42, 1426, 1425, 40, 1433, 1432, 1468, 1467, 1430, 1429, 41, 1440, 1439, 1457, 1456, 44, 1465, 1464, 46, 1472, 1471, 47, 1422, 1421, 39, 1414, 1413, 37, 1476, 1475, 48] (by decide +kernel) (by decide +kernel)
set_option maxRecDepth 100000 in
theorem g_AWD_165 : GoodIn lw_tbl (AWD_of 165 15) := goodIn_r _ [1402, 1400, 1401, 1436, 1435, 1453, 1452, 43, 1461, 1460, 45, 1406, 1404, 1405, 1500, 1499, 53, 1496, 1495, 52, 1510, 1509, 55, 1488, 1487, 50, 1484, 1483, 49, 1505, 1504, 54, 1492, 1491, 51, 1480, 1478, 1479, 1618, 1617, 1615, 1614, 76] (by decide +kernel) (by decide +kernel)
set_option maxRecDepth 100000 in
theorem g_AWD_180 : GoodIn lw_tbl (AWD_of 180 15) := goodIn_r _ [1611, 1610, 75, 1543, 1542, 58, 1528, 1527, 1547, 1546, 59, 1539, 1538, 57, 1525, 1524, 56, 1551, 1550, 60, 1567, 1566, 64, 1563, 1562, 63, 1579, 1578, 67, 1575, 1574, 66, 1583, 1582, 68, 1587, 1586, 69, 1571, 1570, 65, 1591, 1590, 70] (by decide +kernel) (by decide +kernel)
set_option maxRecDepth 100000 in
theorem g_AWD_195 : GoodIn lw_tbl (AWD_of 195 15) := goodIn_r _ [1607, 1606, 74, 1603, 1602, 73, 1599, 1598, 72, 1595, 1594, 71, 1622, 1621, 77, 1559, 1558, 62, 1555, 1554, 61, 1521, 1519, 1520, 1649, 1648, 79, 1669, 1668, 83, 1630, 1629, 78, 1626, 1624, 1625, 1634, 1632, 1633, 1638, 1636, 1637, 1653, 1652, 80] (by decide +kernel) (by decide +kernel)
set_option maxRecDepth 100000 in
theorem g_AWD_210 : GoodIn lw_tbl (AWD_of 210 15) := goodIn_r _ [1657, 1656, 81, 1642, 1640, 1641, 1665, 1664, 82, 1661, 1659, 1660, 1673, 1671, 1672, 1677, 1675, 1676, 1681, 1679, 1680, 1685, 1683, 1684, 1689, 1687, 1688, 1693, 1691, 1692, 1697, 1695, 1696, 1701, 1699, 1700, 1709, 1708, 84, 1717, 1716, 86, 1729, 1728, 87] (by decide +kernel) (by decide +kernel)
set_option maxRecDepth 100000 in
theorem g_AWD_225 : GoodIn lw_tbl (AWD_of 225 15) := goodIn_r _ [1720, 1719, 1713, 1712, 85, 1705, 1703, 1704, 1724, 1722, 1723, 1737, 1736, 88, 1733, 1731, 1732, 1745, 1744, 89, 1741, 1739, 1740, 1753, 1752, 1749, 1747, 1748, 1760, 1759, 1757, 1755, 1756, 1772, 1771, 91, 1768, 1767, 90, 1764, 1762, 1763] (by decide +kernel) (by decide +kernel)
set_option maxRecDepth 100000 in
theorem g_AWD_240 : GoodIn lw_tbl (AWD_of 240 15) := goodIn_r _ [1776, 1774, 1775, 1780, 1778, 1779, 1784, 1782, 1783, 1788, 1786, 1787, 1792, 1790, 1791, 1796, 1794, 1795, 1800, 1798, 1799, 1804, 1802, 1803, 1808, 1806, 1807, 1812, 1810, 1811, 1816, 1814, 1815, 1820, 1818, 1819, 1835, 1834, 93, 1831, 1830, 92, 1827, 1826] (by decide +kernel) (by decide +kernel)
set_option maxRecDepth 100000 in
theorem g_AWD_255 : GoodIn lw_tbl (AWD_of 255 15) := goodIn_r _ [1824, 1822, 1823, 1840, 1838, 1839, 1852, 1851, 95, 1848, 1847, 94, 1844, 1842, 1843, 1856, 1854, 1855, 1860, 1858, 1859, 1864, 1862, 1863, 466, 465, 689, 688, 738, 737, 860, 859, 872, 871, 883, 882, 898, 897] (by decide +kernel) (by decide +kernel)
set_option maxRecDepth 100000 in
theorem g_AWD_270 : GoodIn lw_tbl (AWD_of 270 15) := goodIn_r _ [936, 935, 948, 947, 960, 959, 968, 967, 976, 975, 989, 988, 998, 997, 1005, 1004, 1017, 1016, 1035, 1034, 1055, 1054, 1070, 1069, 1086, 1085, 1100, 1099, 1110, 1109] (by decide +kernel) (by decide +kernel)
set_option maxRecDepth 100000 in
theorem g_AWD_285 : GoodIn lw_tbl (AWD_of 285 11) := goodIn_r _ [1121, 1120, 1128, 1127, 1136, 1135, 1144, 1143, 1151, 1150, 1158, 1157, 1165, 1164, 1172, 1171, 1179, 1178, 1186, 1185, 1206, 1205] (by decide +kernel) (by decide +kernel)
set_option maxRecDepth 100000 in
theorem g_AWC : GoodIn lw_tbl AWC := goodIn_r _ [103, 99, 102, 100, 104, 98, 101, 97, 105, 96, 221, 232, 234, 236, 238, 240, 242, 155, 167, 169, 171, 173, 175, 215, 279, 281, 283, 285, 287, 289, 291, 293, 295, 297, 299, 301, 303, 180, 193, 195, 197, 199, 201, 307, 317, 319, 126, 140, 142, 144, 146, 148, 150, 205, 211, 118, 336, 338, 340, 342, 344, 346, 348, 350, 352, 354, 356, 358, 360, 362, 1217, 1287, 1289, 1291, 1293, 1295, 1297, 1299, 1301, 1303, 1305, 1307, 1309, 1311, 1313, 1315, 1317, 1319, 1321, 1323, 1325, 1327, 1329, 1331, 1333, 1335, 1337, 1339, 1341, 1343, 1345, 1347, 1349, 1351, 1353, 1355, 1357, 1359, 1361, 1363, 1365, 1367, 1369, 1371, 1373, 1375, 1377, 1379, 1381, 1383, 1385, 1387, 1389, 1391] (by decide +kernel) (by decide +kernel)
set_option maxRecDepth 100000 in
theorem g_AWK : GoodIn lw_tbl AWK := goodIn_r _ [220, 664, 1199, 125, 154, 179, 204, 214, 306, 486, 912, 1040, 1211, 1097, 1725, 1836, 1750, 117, 467, 899, 1216] (by decide +kernel) (by decide +kernel)
set_option maxRecDepth 100000 in
theorem g_AWB : GoodIn lw_tbl AWB := goodIn_r _ [123, 124, 788, 477, 1031, 789, 478, 1032, 106, 439, 438, 115, 178, 153, 1394] (by decide +kernel) (by decide +kernel)
set_option maxRecDepth 100000 in
theorem g_AWJ : GoodIn lw_tbl AWJ := goodIn_r _ [588, 589, 598, 599, 111, 590, 1879, 591, 592, 593, 111, 594, 595, 1880, 600, 1879, 601, 602, 603, 111, 604, 595, 1880, 605, 606, 112, 607, 608, 609, 610, 611, 613, 614, 113, 615, 616, 617, 114, 618, 619, 620, 621, 622, 623, 624, 625, 626, 627, 628, 629, 631, 633] (by decide +kernel) (by decide +kernel)
set_option maxRecDepth 100000 in
theorem g_AWX0 : ∀ w ∈ (a_xw 100).filter goodWord, w ∈ lw_tbl := by decide +kernel
set_option maxRecDepth 100000 in
theorem g_AWX1 : ∀ w ∈ (a_xw 101).filter goodWord, w ∈ lw_tbl := by decide +kernel
set_option maxRecDepth 100000 in
theorem g_AWX2 : GoodIn lw_tbl [.initialized (xNm 100), .initialized (xNm 101)] := goodIn_of _ (by decide +kernel)
theorem g_AWX : GoodIn lw_tbl AWX := goodIn_app g_AWX2 (goodIn_app (fun w h => ⟨g_AWX0 w h, good_of_word (List.mem_filter.mp h).2⟩) (fun w h => ⟨g_AWX1 w h, good_of_word (List.mem_filter.mp h).2⟩))
set_option maxRecDepth 100000 in
theorem g_AWN : ∀ w ∈ AWN, w ∈ lw_tbl := by decide +kernel
set_option maxRecDepth 100000 in
theorem AWN_hw : AWN.all a_hw = true := by decide +kernel
theorem a_gflat {α : Type} {big : List Cond} {l : List α} {f : α → List Cond} (h : ∀ a ∈ l, GoodIn big (f a)) : GoodIn big (l.flatMap f) := fun w hw => by
  obtain ⟨a, h1, h2⟩ := List.mem_flatMap.mp hw
  exact h a h1 w h2
theorem g_AWF : GoodIn lw_tbl AWF := a_gflat fun a h => by
  have h := List.mem_range.mp h
  match a, h with
  | 0, _ => exact g_AWF_0
  | 1, _ => exact g_AWF_1
  | 2, _ => exact g_AWF_2
  | 3, _ => exact g_AWF_3
  | 4, _ => exact g_AWF_4
  | 5, _ => exact g_AWF_5
  | 6, _ => exact g_AWF_6
  | 7, _ => exact g_AWF_7
  | 8, _ => exact g_AWF_8
  | 9, _ => exact g_AWF_9
theorem g_AWM : GoodIn lw_tbl AWM := a_gflat fun a h => by
  have h := List.mem_range.mp h
  match a, h with
  | 0, _ => exact g_AWM_0
  | 1, _ => exact g_AWM_1
  | 2, _ => exact g_AWM_2
  | 3, _ => exact g_AWM_3
  | 4, _ => exact g_AWM_4
  | 5, _ => exact g_AWM_5
  | 6, _ => exact g_AWM_6
  | 7, _ => exact g_AWM_7
  | 8, _ => exact g_AWM_8
  | 9, _ => exact g_AWM_9
def AWD : List Cond := AWD_of 0 15 ++ (AWD_of 15 15 ++ (AWD_of 30 15 ++ (AWD_of 45 15 ++ (AWD_of 60 15 ++ (AWD_of 75 15 ++ (AWD_of 90 15 ++ (AWD_of 105 15 ++ (AWD_of 120 15 ++ (AWD_of 135 15 ++ (AWD_of 150 15 ++ (AWD_of 165 15 ++ (AWD_of 180 15 ++ (AWD_of 195 15 ++ (AWD_of 210 15 ++ (AWD_of 225 15 ++ (AWD_of 240 15 ++ (AWD_of 255 15 ++ (AWD_of 270 15 ++ (AWD_of 285 11)))))))))))))))))))
theorem g_AWD : GoodIn lw_tbl AWD := goodIn_app g_AWD_0 (goodIn_app g_AWD_15 (goodIn_app g_AWD_30 (goodIn_app g_AWD_45 (goodIn_app g_AWD_60 (goodIn_app g_AWD_75 (goodIn_app g_AWD_90 (goodIn_app g_AWD_105 (goodIn_app g_AWD_120 (goodIn_app g_AWD_135 (goodIn_app g_AWD_150 (goodIn_app g_AWD_165 (goodIn_app g_AWD_180 (goodIn_app g_AWD_195 (goodIn_app g_AWD_210 (goodIn_app g_AWD_225 (goodIn_app g_AWD_240 (goodIn_app g_AWD_255 (goodIn_app g_AWD_270 (g_AWD_285)))))))))))))))))))
def ALLW : List Cond := AWF ++ (AWM ++ (AWD ++ (AWC ++ (AWK ++ (AWB ++ (AWJ ++ AWX))))))
theorem g_ALLW : GoodIn lw_tbl ALLW := goodIn_app g_AWF (goodIn_app g_AWM (goodIn_app g_AWD (goodIn_app g_AWC (goodIn_app g_AWK (goodIn_app g_AWB (goodIn_app g_AWJ g_AWX))))))
theorem a_inD {k : Nat} (h : k < 296) : ∀ w ∈ wD k, w ∈ AWD := by
  intro w hw
  have key : ∀ a n : Nat, a ≤ k → k < a + n → w ∈ AWD_of a n := fun a n h1 h2 => List.mem_flatMap.mpr ⟨k - a, List.mem_range.mpr (by omega), by rw [show a + (k - a) = k from by omega]; exact hw⟩
  unfold AWD
  by_cases h0 : k < 15
  · exact List.mem_append_left _ (key 0 15 (by omega) (by omega))
  by_cases h15 : k < 30
  · exact List.mem_append_right _ (List.mem_append_left _ (key 15 15 (by omega) (by omega)))
  by_cases h30 : k < 45
  · exact List.mem_append_right _ (List.mem_append_right _ (List.mem_append_left _ (key 30 15 (by omega) (by omega))))
  by_cases h45 : k < 60
  · exact List.mem_append_right _ (List.mem_append_right _ (List.mem_append_right _ (List.mem_append_left _ (key 45 15 (by omega) (by omega)))))
  by_cases h60 : k < 75
  · exact List.mem_append_right _ (List.mem_append_right _ (List.mem_append_right _ (List.mem_append_right _ (List.mem_append_left _ (key 60 15 (by omega) (by omega))))))
  by_cases h75 : k < 90
  · exact List.mem_append_right _ (List.mem_append_right _ (List.mem_append_right _ (List.mem_append_right _ (List.mem_append_right _ (List.mem_append_left _ (key 75 15 (by omega) (by omega)))))))
  by_cases h90 : k < 105
  · exact List.mem_append_right _ (List.mem_append_right _ (List.mem_append_right _ (List.mem_append_right _ (List.mem_append_right _ (List.mem_append_right _ (List.mem_append_left _ (key 90 15 (by omega) (by omega))))))))
  by_cases h105 : k < 120
  · exact List.mem_append_right _ (List.mem_append_right _ (List.mem_append_right _ (List.mem_append_right _ (List.mem_append_right _ (List.mem_append_right _ (List.mem_append_right _ (List.mem_append_left _ (key 105 15 (by omega) (by omega)))))))))
  by_cases h120 : k < 135
  · exact List.mem_append_right _ (List.mem_append_right _ (List.mem_append_right _ (List.mem_append_right _ (List.mem_append_right _ (List.mem_append_right _ (List.mem_append_right _ (List.mem_append_right _ (List.mem_append_left _ (key 120 15 (by omega) (by omega))))))))))
  by_cases h135 : k < 150
  · exact List.mem_append_right _ (List.mem_append_right _ (List.mem_append_right _ (List.mem_append_right _ (List.mem_append_right _ (List.mem_append_right _ (List.mem_append_right _ (List.mem_append_right _ (List.mem_append_right _ (List.mem_append_left _ (key 135 15 (by omega) (by omega)))))))))))
  by_cases h150 : k < 165
  · exact List.mem_append_right _ (List.mem_append_right _ (List.mem_append_right _ (List.mem_append_right _ (List.mem_append_right _ (List.mem_append_right _ (List.mem_append_right _ (List.mem_append_right _ (List.mem_append_right _ (List.mem_append_right _ (List.mem_append_left _ (key 150 15 (by omega) (by omega))))))))))))
  by_cases h165 : k < 180
  · exact List.mem_append_right _ (List.mem_append_right _ (List.mem_append_right _ (List.mem_append_right _ (List.mem_append_right _ (List.mem_append_right _ (List.mem_append_right _ (List.mem_append_right _ (List.mem_append_right _ (List.mem_append_right _ (List.mem_append_right _ (List.mem_append_left _ (key 165 15 (by omega) (by omega)))))))))))))
  by_cases h180 : k < 195
  · exact List.mem_append_right _ (List.mem_append_right _ (List.mem_append_right _ (List.mem_append_right _ (List.mem_append_right _ (List.mem_append_right _ (List.mem_append_right _ (List.mem_append_right _ (List.mem_append_right _ (List.mem_append_right _ (List.mem_append_right _ (List.mem_append_right _ (List.mem_append_left _ (key 180 15 (by omega) (by omega))))))))))))))
  by_cases h195 : k < 210
  · exact List.mem_append_right _ (List.mem_append_right _ (List.mem_append_right _ (List.mem_append_right _ (List.mem_append_right _ (List.mem_append_right _ (List.mem_append_right _ (List.mem_append_right _ (List.mem_append_right _ (List.mem_append_right _ (List.mem_append_right _ (List.mem_append_right _ (List.mem_append_right _ (List.mem_append_left _ (key 195 15 (by omega) (by omega)))))))))))))))
  by_cases h210 : k < 225
  · exact List.mem_append_right _ (List.mem_append_right _ (List.mem_append_right _ (List.mem_append_right _ (List.mem_append_right _ (List.mem_append_right _ (List.mem_append_right _ (List.mem_append_right _ (List.mem_append_right _ (List.mem_append_right _ (List.mem_append_right _ (List.mem_append_right _ (List.mem_append_right _ (List.mem_append_right _ (List.mem_append_left _ (key 210 15 (by omega) (by omega))))))))))))))))
  by_cases h225 : k < 240
  · exact List.mem_append_right _ (List.mem_append_right _ (List.mem_append_right _ (List.mem_append_right _ (List.mem_append_right _ (List.mem_append_right _ (List.mem_append_right _ (List.mem_append_right _ (List.mem_append_right _ (List.mem_append_right _ (List.mem_append_right _ (List.mem_append_right _ (List.mem_append_right _ (List.mem_append_right _ (List.mem_append_right _ (List.mem_append_left _ (key 225 15 (by omega) (by omega)))))))))))))))))
  by_cases h240 : k < 255
  · exact List.mem_append_right _ (List.mem_append_right _ (List.mem_append_right _ (List.mem_append_right _ (List.mem_append_right _ (List.mem_append_right _ (List.mem_append_right _ (List.mem_append_right _ (List.mem_append_right _ (List.mem_append_right _ (List.mem_append_right _ (List.mem_append_right _ (List.mem_append_right _ (List.mem_append_right _ (List.mem_append_right _ (List.mem_append_right _ (List.mem_append_left _ (key 240 15 (by omega) (by omega))))))))))))))))))
  by_cases h255 : k < 270
  · exact List.mem_append_right _ (List.mem_append_right _ (List.mem_append_right _ (List.mem_append_right _ (List.mem_append_right _ (List.mem_append_right _ (List.mem_append_right _ (List.mem_append_right _ (List.mem_append_right _ (List.mem_append_right _ (List.mem_append_right _ (List.mem_append_right _ (List.mem_append_right _ (List.mem_append_right _ (List.mem_append_right _ (List.mem_append_right _ (List.mem_append_right _ (List.mem_append_left _ (key 255 15 (by omega) (by omega)))))))))))))))))))
  by_cases h270 : k < 285
  · exact List.mem_append_right _ (List.mem_append_right _ (List.mem_append_right _ (List.mem_append_right _ (List.mem_append_right _ (List.mem_append_right _ (List.mem_append_right _ (List.mem_append_right _ (List.mem_append_right _ (List.mem_append_right _ (List.mem_append_right _ (List.mem_append_right _ (List.mem_append_right _ (List.mem_append_right _ (List.mem_append_right _ (List.mem_append_right _ (List.mem_append_right _ (List.mem_append_right _ (List.mem_append_left _ (key 270 15 (by omega) (by omega))))))))))))))))))))
  exact List.mem_append_right _ (List.mem_append_right _ (List.mem_append_right _ (List.mem_append_right _ (List.mem_append_right _ (List.mem_append_right _ (List.mem_append_right _ (List.mem_append_right _ (List.mem_append_right _ (List.mem_append_right _ (List.mem_append_right _ (List.mem_append_right _ (List.mem_append_right _ (List.mem_append_right _ (List.mem_append_right _ (List.mem_append_right _ (List.mem_append_right _ (List.mem_append_right _ (List.mem_append_right _ (key 285 11 (by omega) (by omega))))))))))))))))))))
end
section
/-! ===== the code of the methods, decoded ===== -/
def mPd (k : Nat) : Bool := (mC k).all (fun q => decide (decode (mB k) q.1 = .ok q.2))
def a_len : Instr → Nat
  | .bipush _ => 2 | .sipush _ => 3 | .ldc _ => 2 | .ldc_w _ => 3 | .ldc2_w _ => 3 | .iload _ => 2 | .lload _ => 2 | .aload _ => 2 | .istore _ => 2 | .lstore _ => 2 | .astore _ => 2
  | .iinc _ _ => 3 | .ifCond _ _ => 3 | .if_icmp _ _ => 3 | .goto _ => 3 | .getfield _ => 3 | .putfield _ => 3 | .invokevirtual _ => 3 | .invokestatic _ => 3 | .invokespecial _ => 3 | .new _ => 3 | .newarray _ => 2 | _ => 1
def a_lenOk : Instr → Nat → Bool
  | .tableswitch _ _ _ _, _ => true
  | .lookupswitch _ _, _ => true
  | i, n => Nat.beq n (a_len i)
def mPb (k : Nat) : Bool := (mC k).all (fun q => a_lenOk q.2.1 q.2.2) && (plainName (mY k).cls && (decide ((mY k).cls = RN (mK k)) && (decide ((parseMethodDescriptor (mY k).desc).map (fun d => d.parameters.length) = some (mV k)) && (decide (mX k ≤ 60) && (decide ((mY k).cls ≠ "java/lang/invoke/MethodHandle" ∧ (mY k).cls ≠ "java/lang/invoke/VarHandle") && (decide (mK k < 10) && ((decide (mD k = 2) == decide ((mY k).name = "<init>")) && (!decide (mD k = 2) || decide (mR k = none)))))))))
set_option maxRecDepth 100000 in
theorem mPd_0 : ((List.range 10).all fun k => mPd (0 + k)) = true := by decide +kernel
set_option maxRecDepth 100000 in
theorem mPd_10 : ((List.range 8).all fun k => mPd (10 + k)) = true := by decide +kernel
set_option maxRecDepth 100000 in
theorem mPd_18 : ((List.range 9).all fun k => mPd (18 + k)) = true := by decide +kernel
set_option maxRecDepth 100000 in
theorem mPd_27 : ((List.range 8).all fun k => mPd (27 + k)) = true := by decide +kernel
set_option maxRecDepth 100000 in
theorem mPd_35 : ((List.range 5).all fun k => mPd (35 + k)) = true := by decide +kernel
set_option maxRecDepth 100000 in
theorem mPd_40 : ((List.range 3).all fun k => mPd (40 + k)) = true := by decide +kernel
set_option maxRecDepth 100000 in
theorem mPd_43 : ((List.range 10).all fun k => mPd (43 + k)) = true := by decide +kernel
set_option maxRecDepth 100000 in
theorem mPd_53 : ((List.range 9).all fun k => mPd (53 + k)) = true := by decide +kernel
set_option maxRecDepth 100000 in
theorem mPd_62 : ((List.range 10).all fun k => mPd (62 + k)) = true := by decide +kernel
set_option maxRecDepth 100000 in
theorem mPd_72 : ((List.range 10).all fun k => mPd (72 + k)) = true := by decide +kernel
set_option maxRecDepth 100000 in
theorem mPd_82 : ((List.range 10).all fun k => mPd (82 + k)) = true := by decide +kernel
set_option maxRecDepth 100000 in
theorem mPd_92 : ((List.range 10).all fun k => mPd (92 + k)) = true := by decide +kernel
set_option maxRecDepth 100000 in
theorem mPd_102 : ((List.range 9).all fun k => mPd (102 + k)) = true := by decide +kernel
set_option maxRecDepth 100000 in
theorem mPd_111 : ((List.range 8).all fun k => mPd (111 + k)) = true := by decide +kernel
set_option maxRecDepth 100000 in
theorem mPd_119 : ((List.range 6).all fun k => mPd (119 + k)) = true := by decide +kernel
set_option maxRecDepth 100000 in
theorem mPd_125 : ((List.range 9).all fun k => mPd (125 + k)) = true := by decide +kernel
set_option maxRecDepth 100000 in
theorem mPd_134 : ((List.range 4).all fun k => mPd (134 + k)) = true := by decide +kernel
set_option maxRecDepth 100000 in
theorem mPd_138 : ((List.range 10).all fun k => mPd (138 + k)) = true := by decide +kernel
set_option maxRecDepth 100000 in
theorem mPd_148 : ((List.range 5).all fun k => mPd (148 + k)) = true := by decide +kernel
set_option maxRecDepth 100000 in
theorem mPd_153 : ((List.range 10).all fun k => mPd (153 + k)) = true := by decide +kernel
set_option maxRecDepth 100000 in
theorem mPd_163 : ((List.range 8).all fun k => mPd (163 + k)) = true := by decide +kernel
set_option maxRecDepth 100000 in
theorem mPd_171 : ((List.range 6).all fun k => mPd (171 + k)) = true := by decide +kernel
set_option maxRecDepth 100000 in
theorem mPd_177 : ((List.range 5).all fun k => mPd (177 + k)) = true := by decide +kernel
set_option maxRecDepth 100000 in
theorem mPd_182 : ((List.range 6).all fun k => mPd (182 + k)) = true := by decide +kernel
set_option maxRecDepth 100000 in
theorem mPd_188 : ((List.range 5).all fun k => mPd (188 + k)) = true := by decide +kernel
set_option maxRecDepth 100000 in
theorem mPd_193 : ((List.range 3).all fun k => mPd (193 + k)) = true := by decide +kernel
set_option maxRecDepth 100000 in
theorem mPd_196 : ((List.range 6).all fun k => mPd (196 + k)) = true := by decide +kernel
set_option maxRecDepth 100000 in
theorem mPd_202 : ((List.range 5).all fun k => mPd (202 + k)) = true := by decide +kernel
set_option maxRecDepth 100000 in
theorem mPd_207 : ((List.range 6).all fun k => mPd (207 + k)) = true := by decide +kernel
set_option maxRecDepth 100000 in
theorem mPd_213 : ((List.range 7).all fun k => mPd (213 + k)) = true := by decide +kernel
set_option maxRecDepth 100000 in
theorem mPd_220 : ((List.range 8).all fun k => mPd (220 + k)) = true := by decide +kernel
set_option maxRecDepth 100000 in
theorem mPd_228 : ((List.range 4).all fun k => mPd (228 + k)) = true := by decide +kernel
set_option maxRecDepth 100000 in
theorem mPd_232 : ((List.range 4).all fun k => mPd (232 + k)) = true := by decide +kernel
set_option maxRecDepth 100000 in
theorem mPd_236 : ((List.range 5).all fun k => mPd (236 + k)) = true := by decide +kernel
set_option maxRecDepth 100000 in
theorem mPd_241 : ((List.range 7).all fun k => mPd (241 + k)) = true := by decide +kernel
set_option maxRecDepth 100000 in
theorem mPd_248 : ((List.range 5).all fun k => mPd (248 + k)) = true := by decide +kernel
set_option maxRecDepth 100000 in
theorem mPd_253 : ((List.range 5).all fun k => mPd (253 + k)) = true := by decide +kernel
set_option maxRecDepth 100000 in
theorem mPd_258 : ((List.range 10).all fun k => mPd (258 + k)) = true := by decide +kernel
set_option maxRecDepth 100000 in
theorem mPd_268 : ((List.range 10).all fun k => mPd (268 + k)) = true := by decide +kernel
set_option maxRecDepth 100000 in
theorem mPd_278 : ((List.range 10).all fun k => mPd (278 + k)) = true := by decide +kernel
set_option maxRecDepth 100000 in
theorem mPd_288 : ((List.range 8).all fun k => mPd (288 + k)) = true := by decide +kernel
theorem a_rng {f : Nat → Bool} {a n k : Nat} (h : ((List.range n).all fun k => f (a + k)) = true) (h1 : a ≤ k) (h2 : k < a + n) : f k = true := by
  have h3 := List.all_eq_true.mp h (k - a) (List.mem_range.mpr (by omega))
  rwa [show a + (k - a) = k from by omega] at h3
set_option maxRecDepth 100000 in
theorem mPl_0_0 : (((mc_296_0.drop 0).take 50).all (fun q => decide (decode code q.1 = .ok q.2))) = true := by decide +kernel
set_option maxRecDepth 100000 in
theorem mPl_0_1 : (((mc_296_0.drop 50).take 50).all (fun q => decide (decode code q.1 = .ok q.2))) = true := by decide +kernel
set_option maxRecDepth 100000 in
theorem mPl_1_0 : (((mc_296_1.drop 0).take 50).all (fun q => decide (decode code q.1 = .ok q.2))) = true := by decide +kernel
set_option maxRecDepth 100000 in
theorem mPl_1_1 : (((mc_296_1.drop 50).take 50).all (fun q => decide (decode code q.1 = .ok q.2))) = true := by decide +kernel
set_option maxRecDepth 100000 in
theorem mPl_2_0 : (((mc_296_2.drop 0).take 50).all (fun q => decide (decode code q.1 = .ok q.2))) = true := by decide +kernel
set_option maxRecDepth 100000 in
theorem mPl_2_1 : (((mc_296_2.drop 50).take 50).all (fun q => decide (decode code q.1 = .ok q.2))) = true := by decide +kernel
set_option maxRecDepth 100000 in
theorem mPl_3_0 : (((mc_296_3.drop 0).take 50).all (fun q => decide (decode code q.1 = .ok q.2))) = true := by decide +kernel
set_option maxRecDepth 100000 in
theorem mPl_3_1 : (((mc_296_3.drop 50).take 50).all (fun q => decide (decode code q.1 = .ok q.2))) = true := by decide +kernel
set_option maxRecDepth 100000 in
theorem mPl_4_0 : (((mc_296_4.drop 0).take 50).all (fun q => decide (decode code q.1 = .ok q.2))) = true := by decide +kernel
set_option maxRecDepth 100000 in
theorem mPl_4_1 : (((mc_296_4.drop 50).take 50).all (fun q => decide (decode code q.1 = .ok q.2))) = true := by decide +kernel
set_option maxRecDepth 100000 in
theorem mPl_5_0 : (((mc_296_5.drop 0).take 50).all (fun q => decide (decode code q.1 = .ok q.2))) = true := by decide +kernel
set_option maxRecDepth 100000 in
theorem mPl_5_1 : (((mc_296_5.drop 50).take 50).all (fun q => decide (decode code q.1 = .ok q.2))) = true := by decide +kernel
set_option maxRecDepth 100000 in
theorem mPl_6_0 : (((mc_296_6.drop 0).take 50).all (fun q => decide (decode code q.1 = .ok q.2))) = true := by decide +kernel
set_option maxRecDepth 100000 in
theorem mPl_6_1 : (((mc_296_6.drop 50).take 50).all (fun q => decide (decode code q.1 = .ok q.2))) = true := by decide +kernel
set_option maxRecDepth 100000 in
theorem mPl_7_0 : (((mc_296_7.drop 0).take 50).all (fun q => decide (decode code q.1 = .ok q.2))) = true := by decide +kernel
set_option maxRecDepth 100000 in
theorem mPl_7_1 : (((mc_296_7.drop 50).take 50).all (fun q => decide (decode code q.1 = .ok q.2))) = true := by decide +kernel
set_option maxRecDepth 100000 in
theorem mPl_8_0 : (((mc_296_8.drop 0).take 50).all (fun q => decide (decode code q.1 = .ok q.2))) = true := by decide +kernel
set_option maxRecDepth 100000 in
theorem mPl_8_1 : (((mc_296_8.drop 50).take 50).all (fun q => decide (decode code q.1 = .ok q.2))) = true := by decide +kernel
set_option maxRecDepth 100000 in
theorem mPl_9_0 : (((mc_296_9.drop 0).take 50).all (fun q => decide (decode code q.1 = .ok q.2))) = true := by decide +kernel
set_option maxRecDepth 100000 in
theorem mPl_9_1 : (((mc_296_9.drop 50).take 50).all (fun q => decide (decode code q.1 = .ok q.2))) = true := by decide +kernel
set_option maxRecDepth 100000 in
theorem mPl_10_0 : (((mc_296_10.drop 0).take 50).all (fun q => decide (decode code q.1 = .ok q.2))) = true := by decide +kernel
set_option maxRecDepth 100000 in
theorem mPl_10_1 : (((mc_296_10.drop 50).take 50).all (fun q => decide (decode code q.1 = .ok q.2))) = true := by decide +kernel
set_option maxRecDepth 100000 in
theorem mPl_11_0 : (((mc_296_11.drop 0).take 50).all (fun q => decide (decode code q.1 = .ok q.2))) = true := by decide +kernel
set_option maxRecDepth 100000 in
theorem mPl_11_1 : (((mc_296_11.drop 50).take 50).all (fun q => decide (decode code q.1 = .ok q.2))) = true := by decide +kernel
set_option maxRecDepth 100000 in
theorem mPl_12_0 : (((mc_296_12.drop 0).take 50).all (fun q => decide (decode code q.1 = .ok q.2))) = true := by decide +kernel
set_option maxRecDepth 100000 in
theorem mPl_12_1 : (((mc_296_12.drop 50).take 50).all (fun q => decide (decode code q.1 = .ok q.2))) = true := by decide +kernel
set_option maxRecDepth 100000 in
theorem mPl_13_0 : (((mc_296_13.drop 0).take 50).all (fun q => decide (decode code q.1 = .ok q.2))) = true := by decide +kernel
set_option maxRecDepth 100000 in
theorem mPl_13_1 : (((mc_296_13.drop 50).take 50).all (fun q => decide (decode code q.1 = .ok q.2))) = true := by decide +kernel
set_option maxRecDepth 100000 in
theorem mPl_14_0 : (((mc_296_14.drop 0).take 50).all (fun q => decide (decode code q.1 = .ok q.2))) = true := by decide +kernel
set_option maxRecDepth 100000 in
theorem mPl_14_1 : (((mc_296_14.drop 50).take 50).all (fun q => decide (decode code q.1 = .ok q.2))) = true := by decide +kernel
set_option maxRecDepth 100000 in
theorem mPl_15_0 : (((mc_296_15.drop 0).take 50).all (fun q => decide (decode code q.1 = .ok q.2))) = true := by decide +kernel
set_option maxRecDepth 100000 in
theorem mPl_15_1 : (((mc_296_15.drop 50).take 50).all (fun q => decide (decode code q.1 = .ok q.2))) = true := by decide +kernel
set_option maxRecDepth 100000 in
theorem mPl_16_0 : (((mc_296_16.drop 0).take 50).all (fun q => decide (decode code q.1 = .ok q.2))) = true := by decide +kernel
set_option maxRecDepth 100000 in
theorem mPl_16_1 : (((mc_296_16.drop 50).take 50).all (fun q => decide (decode code q.1 = .ok q.2))) = true := by decide +kernel
theorem a_half {α : Type} {f : α → Bool} {l : List α} (h0 : ((l.drop 0).take 50).all f = true) (h1 : ((l.drop 50).take 50).all f = true) (hl : l.length ≤ 100) : l.all f = true := by
  have e : l = ((l.drop 0).take 50) ++ ((l.drop 50).take 50) := by
    rw [List.drop_zero, List.take_of_length_le (l := l.drop 50) (by rw [List.length_drop]; omega), List.take_append_drop]
  rw [e, List.all_append, h0, h1]; rfl
theorem mPl : mPd 296 = true := by
  show (mc_296.all (fun q => decide (decode code q.1 = .ok q.2))) = true
  unfold mc_296
  simp only [List.all_append, Bool.and_eq_true]
  exact ⟨a_half mPl_0_0 mPl_0_1 (by decide), ⟨a_half mPl_1_0 mPl_1_1 (by decide), ⟨a_half mPl_2_0 mPl_2_1 (by decide), ⟨a_half mPl_3_0 mPl_3_1 (by decide), ⟨a_half mPl_4_0 mPl_4_1 (by decide), ⟨a_half mPl_5_0 mPl_5_1 (by decide), ⟨a_half mPl_6_0 mPl_6_1 (by decide), ⟨a_half mPl_7_0 mPl_7_1 (by decide), ⟨a_half mPl_8_0 mPl_8_1 (by decide), ⟨a_half mPl_9_0 mPl_9_1 (by decide), ⟨a_half mPl_10_0 mPl_10_1 (by decide), ⟨a_half mPl_11_0 mPl_11_1 (by decide), ⟨a_half mPl_12_0 mPl_12_1 (by decide), ⟨a_half mPl_13_0 mPl_13_1 (by decide), ⟨a_half mPl_14_0 mPl_14_1 (by decide), ⟨a_half mPl_15_0 mPl_15_1 (by decide), a_half mPl_16_0 mPl_16_1 (by decide)⟩⟩⟩⟩⟩⟩⟩⟩⟩⟩⟩⟩⟩⟩⟩⟩
theorem mPd_ok {k : Nat} (h : k < mN) : mPd k = true := by
  unfold mN at h
  by_cases h0 : k < 10
  · exact a_rng mPd_0 (by omega) h0
  by_cases h10 : k < 18
  · exact a_rng mPd_10 (by omega) h10
  by_cases h18 : k < 27
  · exact a_rng mPd_18 (by omega) h18
  by_cases h27 : k < 35
  · exact a_rng mPd_27 (by omega) h27
  by_cases h35 : k < 40
  · exact a_rng mPd_35 (by omega) h35
  by_cases h40 : k < 43
  · exact a_rng mPd_40 (by omega) h40
  by_cases h43 : k < 53
  · exact a_rng mPd_43 (by omega) h43
  by_cases h53 : k < 62
  · exact a_rng mPd_53 (by omega) h53
  by_cases h62 : k < 72
  · exact a_rng mPd_62 (by omega) h62
  by_cases h72 : k < 82
  · exact a_rng mPd_72 (by omega) h72
  by_cases h82 : k < 92
  · exact a_rng mPd_82 (by omega) h82
  by_cases h92 : k < 102
  · exact a_rng mPd_92 (by omega) h92
  by_cases h102 : k < 111
  · exact a_rng mPd_102 (by omega) h102
  by_cases h111 : k < 119
  · exact a_rng mPd_111 (by omega) h111
  by_cases h119 : k < 125
  · exact a_rng mPd_119 (by omega) h119
  by_cases h125 : k < 134
  · exact a_rng mPd_125 (by omega) h125
  by_cases h134 : k < 138
  · exact a_rng mPd_134 (by omega) h134
  by_cases h138 : k < 148
  · exact a_rng mPd_138 (by omega) h138
  by_cases h148 : k < 153
  · exact a_rng mPd_148 (by omega) h148
  by_cases h153 : k < 163
  · exact a_rng mPd_153 (by omega) h153
  by_cases h163 : k < 171
  · exact a_rng mPd_163 (by omega) h163
  by_cases h171 : k < 177
  · exact a_rng mPd_171 (by omega) h171
  by_cases h177 : k < 182
  · exact a_rng mPd_177 (by omega) h177
  by_cases h182 : k < 188
  · exact a_rng mPd_182 (by omega) h182
  by_cases h188 : k < 193
  · exact a_rng mPd_188 (by omega) h188
  by_cases h193 : k < 196
  · exact a_rng mPd_193 (by omega) h193
  by_cases h196 : k < 202
  · exact a_rng mPd_196 (by omega) h196
  by_cases h202 : k < 207
  · exact a_rng mPd_202 (by omega) h202
  by_cases h207 : k < 213
  · exact a_rng mPd_207 (by omega) h207
  by_cases h213 : k < 220
  · exact a_rng mPd_213 (by omega) h213
  by_cases h220 : k < 228
  · exact a_rng mPd_220 (by omega) h220
  by_cases h228 : k < 232
  · exact a_rng mPd_228 (by omega) h228
  by_cases h232 : k < 236
  · exact a_rng mPd_232 (by omega) h232
  by_cases h236 : k < 241
  · exact a_rng mPd_236 (by omega) h236
  by_cases h241 : k < 248
  · exact a_rng mPd_241 (by omega) h241
  by_cases h248 : k < 253
  · exact a_rng mPd_248 (by omega) h248
  by_cases h253 : k < 258
  · exact a_rng mPd_253 (by omega) h253
  by_cases h258 : k < 268
  · exact a_rng mPd_258 (by omega) h258
  by_cases h268 : k < 278
  · exact a_rng mPd_268 (by omega) h268
  by_cases h278 : k < 288
  · exact a_rng mPd_278 (by omega) h278
  by_cases h288 : k < 296
  · exact a_rng mPd_288 (by omega) h288
  have e : k = 296 := by omega
  rw [e]; exact mPl
set_option maxRecDepth 100000 in
theorem mPb_0 : ((List.range 30).all fun k => mPb (0 + k)) = true := by decide +kernel
set_option maxRecDepth 100000 in
theorem mPb_30 : ((List.range 30).all fun k => mPb (30 + k)) = true := by decide +kernel
set_option maxRecDepth 100000 in
theorem mPb_60 : ((List.range 30).all fun k => mPb (60 + k)) = true := by decide +kernel
set_option maxRecDepth 100000 in
theorem mPb_90 : ((List.range 30).all fun k => mPb (90 + k)) = true := by decide +kernel
set_option maxRecDepth 100000 in
theorem mPb_120 : ((List.range 30).all fun k => mPb (120 + k)) = true := by decide +kernel
set_option maxRecDepth 100000 in
theorem mPb_150 : ((List.range 30).all fun k => mPb (150 + k)) = true := by decide +kernel
set_option maxRecDepth 100000 in
theorem mPb_180 : ((List.range 30).all fun k => mPb (180 + k)) = true := by decide +kernel
set_option maxRecDepth 100000 in
theorem mPb_210 : ((List.range 30).all fun k => mPb (210 + k)) = true := by decide +kernel
set_option maxRecDepth 100000 in
theorem mPb_240 : ((List.range 30).all fun k => mPb (240 + k)) = true := by decide +kernel
set_option maxRecDepth 100000 in
theorem mPb_270 : ((List.range 27).all fun k => mPb (270 + k)) = true := by decide +kernel
theorem mPb_ok {k : Nat} (h : k < mN) : mPb k = true := by
  unfold mN at h
  by_cases h0 : k < 30
  · exact a_rng mPb_0 (by omega) h0
  by_cases h30 : k < 60
  · exact a_rng mPb_30 (by omega) h30
  by_cases h60 : k < 90
  · exact a_rng mPb_60 (by omega) h60
  by_cases h90 : k < 120
  · exact a_rng mPb_90 (by omega) h90
  by_cases h120 : k < 150
  · exact a_rng mPb_120 (by omega) h120
  by_cases h150 : k < 180
  · exact a_rng mPb_150 (by omega) h150
  by_cases h180 : k < 210
  · exact a_rng mPb_180 (by omega) h180
  by_cases h210 : k < 240
  · exact a_rng mPb_210 (by omega) h210
  by_cases h240 : k < 270
  · exact a_rng mPb_240 (by omega) h240
  by_cases h270 : k < 297
  · exact a_rng mPb_270 (by omega) h270
  omega
end
section
/-! ===== the abstract machine: the same bytecode, over a world of numbered cells ===== -/
/-- a cell: an array (0 of int, 1 of byte, 2 of long; what it holds), or an object (its class, its fields) -/
abbrev AE : Type := (Nat × (List Int32 ⊕ List Int64)) ⊕ (Nat × List Value)
abbrev AW : Type := List AE
abbrev AL : Type := List (Nat × Value)
abbrev AN : Type := Nat × AL × List Value × AW × Nat × Nat
abbrev AO : Type := (Option Value ⊕ Nat) × Nat × Nat
abbrev AC : Type := Nat × List Value × List Value
abbrev AR : Type := (Option Value ⊕ Nat) × AW × Nat × Nat
/-- from here on: the text constants; one below: the script -/
def a_SB : Nat := 1000000
def a_SC : Nat := 999999
def a_cat (st : List Value) : Nat := (st.map fun v => v.category).sum
def a_s1 (ls : AL) (i : Nat) (v : Value) : AL := (i, v) :: ls.filter (fun q => !(q.1 == i) && !(q.1 + 1 == i && q.2.category == 2))
def a_s2 (ls : AL) (i : Nat) (v : Value) : AL := (i, v) :: ls.filter (fun q => !(q.1 == i) && (!(q.1 == i + 1) && !(q.1 + 1 == i && q.2.category == 2)))
def a_nx (pc : Nat) (ls : AL) (st : List Value) (w : AW) : Option AN := some (pc, ls, st, w, 0, 0)
def a_to (pc : Nat) (off : Int) (ls : AL) (st : List Value) (w : AW) : Option AN :=
  if 0 ≤ (pc : Int) + off then a_nx ((pc : Int) + off).toNat ls st w else none
def a_jmp (c : Prop) [Decidable c] (pc : Nat) (off : Int) (ls : AL) (st : List Value) (w : AW) : Option AN :=
  if 0 ≤ (pc : Int) + off then (if c then a_nx ((pc : Int) + off).toNat ls st w else a_nx (pc + 3) ls st w) else none
def a_i1 (f : Int32 → Int32) (pc : Nat) (ls : AL) (st : List Value) (w : AW) : Option AN := match st with
  | .int x :: r => a_nx (pc + 1) ls (.int (f x) :: r) w
  | _ => none
def a_i2 (f : Int32 → Int32 → Int32) (pc : Nat) (ls : AL) (st : List Value) (w : AW) : Option AN := match st with
  | .int y :: .int x :: r => a_nx (pc + 1) ls (.int (f x y) :: r) w
  | _ => none
def a_i2z (f : Int32 → Int32 → Int32) (pc : Nat) (ls : AL) (st : List Value) (w : AW) : Option AN := match st with
  | .int y :: .int x :: r => if y = 0 then none else a_nx (pc + 1) ls (.int (f x y) :: r) w
  | _ => none
def a_l2 (f : Int64 → Int64 → Int64) (pc : Nat) (ls : AL) (st : List Value) (w : AW) : Option AN := match st with
  | .long y :: .long x :: r => a_nx (pc + 1) ls (.long (f x y) :: r) w
  | _ => none
def a_l2z (f : Int64 → Int64 → Int64) (pc : Nat) (ls : AL) (st : List Value) (w : AW) : Option AN := match st with
  | .long y :: .long x :: r => if y = 0 then none else a_nx (pc + 1) ls (.long (f x y) :: r) w
  | _ => none
def a_lcmp (pc : Nat) (ls : AL) (st : List Value) (w : AW) : Option AN := match st with
  | .long y :: .long x :: r => a_nx (pc + 1) ls (.int (lg_cmp x y) :: r) w
  | _ => none
def a_i2l (pc : Nat) (ls : AL) (st : List Value) (w : AW) : Option AN := match st with
  | .int x :: r => a_nx (pc + 1) ls (.long x.toInt64 :: r) w
  | _ => none
def a_ldI (v : Option Value) (pc : Nat) (ls : AL) (st : List Value) (w : AW) : Option AN := match v with
  | some (.int x) => a_nx pc ls (.int x :: st) w
  | _ => none
def a_ldL (v : Option Value) (pc : Nat) (ls : AL) (st : List Value) (w : AW) : Option AN := match v with
  | some (.long x) => a_nx pc ls (.long x :: st) w
  | _ => none
def a_ldA (v : Option Value) (pc : Nat) (ls : AL) (st : List Value) (w : AW) : Option AN := match v with
  | some (.ref x) => a_nx pc ls (.ref x :: st) w
  | _ => none
def a_stI (n i pc : Nat) (ls : AL) (st : List Value) (w : AW) : Option AN := match st with
  | .int x :: r => if i < n then a_nx pc (a_s1 ls i (.int x)) r w else none
  | _ => none
def a_stL (n i pc : Nat) (ls : AL) (st : List Value) (w : AW) : Option AN := match st with
  | .long x :: r => if i + 1 < n then a_nx pc (a_s2 ls i (.long x)) r w else none
  | _ => none
def a_stA (n i pc : Nat) (ls : AL) (st : List Value) (w : AW) : Option AN := match st with
  | .ref x :: r => if i < n then a_nx pc (a_s1 ls i (.ref x)) r w else none
  | _ => none
def a_inc (n i : Nat) (c : Int) (pc : Nat) (ls : AL) (st : List Value) (w : AW) : Option AN := match a_lk ls i with
  | some (.int x) => if i < n then a_nx (pc + 3) (a_s1 ls i (.int (x + Int32.ofInt c))) st w else none
  | _ => none
def a_ldc (c x pc : Nat) (ls : AL) (st : List Value) (w : AW) : Option AN := match a_lk (kI c) x with
  | some v => a_nx pc ls (.int v :: st) w
  | none => match a_lk (kS c) x with
    | some i => if i < sN then a_nx pc ls (.ref (a_SB + i) :: st) w else none
    | none => none
def a_ldc2 (c x pc : Nat) (ls : AL) (st : List Value) (w : AW) : Option AN := match a_lk (kL c) x with
  | some v => a_nx pc ls (.long v :: st) w
  | none => none
def a_dup (pc : Nat) (ls : AL) (st : List Value) (w : AW) : Option AN := match st with
  | v :: r => if v.category = 1 then a_nx (pc + 1) ls (v :: v :: r) w else none
  | _ => none
def a_pop (pc : Nat) (ls : AL) (st : List Value) (w : AW) : Option AN := match st with
  | v :: r => if v.category = 1 then a_nx (pc + 1) ls r w else none
  | _ => none
def a_dup2 (pc : Nat) (ls : AL) (st : List Value) (w : AW) : Option AN := match st with
  | u :: v :: r => if u.category = 1 ∧ v.category = 1 then a_nx (pc + 1) ls (u :: v :: u :: v :: r) w else none
  | _ => none
def a_tsw (dflt lo hi : Int) (offs : Array Int) (pc : Nat) (ls : AL) (st : List Value) (w : AW) : Option AN := match st with
  | .int x :: r => if x.toInt < lo ∨ hi < x.toInt then a_to pc dflt ls r w else match offs[(x.toInt - lo).toNat]? with
    | some off => a_to pc off ls r w
    | none => none
  | _ => none
def a_lsw (dflt : Int) (ps : Array (Int × Int)) (pc : Nat) (ls : AL) (st : List Value) (w : AW) : Option AN := match st with
  | .int x :: r => if (ps.toList.zip (ps.toList.drop 1)).all (fun (a, next) => a.1 < next.1) = true then a_to pc (Op.lookupswitch.offset ps.toList dflt x.toInt) ls r w else none
  | _ => none
def a_fit (ty : FieldType) (v : Value) : Bool := match ty, v with
  | .int, .int _ => true
  | .array _, .ref _ => true
  | .object _, .ref _ => true
  | _, _ => false
def a_get (c x pc : Nat) (ls : AL) (st : List Value) (w : AW) : Option AN := match st with
  | .ref a :: r => match a_lk (kF c) x with
    | some (ci, f) => match w[a]? with
      | some (.inr (cj, fs)) => if ci = cj then (match fs[f]? with
        | some v => a_nx (pc + 3) ls (v :: r) w
        | none => none) else none
      | _ => none
    | none => none
  | _ => none
def a_put (k x pc : Nat) (ls : AL) (st : List Value) (w : AW) : Option AN := match st with
  | v :: .ref a :: r => match a_lk (kF (mK k)) x with
    | some (ci, f) => match w[a]? with
      | some (.inr (cj, fs)) => if (ci = cj ∧ f < fs.length) ∧ (a_fit (YF ci f) v = true ∧ ((TF ci f).2.2.2 = false ∨ (mD k = 2 ∧ mK k = ci))) then a_nx (pc + 3) ls r (w.set a (.inr (cj, fs.set f v))) else none
      | _ => none
    | none => none
  | _ => none
def a_ild (t : Nat) (sc : List Int32) (pc : Nat) (ls : AL) (st : List Value) (w : AW) : Option AN := match st with
  | .int i :: .ref a :: r => if 0 ≤ i then (if a = a_SC ∧ t = 0 then (match sc[i.toNatClampNeg]? with
      | some x => a_nx (pc + 1) ls (.int x :: r) w
      | none => none) else match w[a]? with
      | some (.inl (u, .inl l)) => if u = t then (match l[i.toNatClampNeg]? with
        | some x => a_nx (pc + 1) ls (.int x :: r) w
        | none => none) else none
      | _ => none) else none
  | _ => none
def a_lld (pc : Nat) (ls : AL) (st : List Value) (w : AW) : Option AN := match st with
  | .int i :: .ref a :: r => if 0 ≤ i then (match w[a]? with
      | some (.inl (u, .inr l)) => if u = 2 then (match l[i.toNatClampNeg]? with
        | some x => a_nx (pc + 1) ls (.long x :: r) w
        | none => none) else none
      | _ => none) else none
  | _ => none
def a_ist (pc : Nat) (ls : AL) (st : List Value) (w : AW) : Option AN := match st with
  | .int x :: .int i :: .ref a :: r => if 0 ≤ i then (match w[a]? with
      | some (.inl (u, .inl l)) => if u = 0 ∧ i.toNatClampNeg < l.length then a_nx (pc + 1) ls r (w.set a (.inl (u, .inl (l.set i.toNatClampNeg x)))) else none
      | _ => none) else none
  | _ => none
def a_bst (pc : Nat) (ls : AL) (st : List Value) (w : AW) : Option AN := match st with
  | .int x :: .int i :: .ref a :: r => if 0 ≤ i then (match w[a]? with
      | some (.inl (u, .inl l)) => if u = 1 ∧ i.toNatClampNeg < l.length then a_nx (pc + 1) ls r (w.set a (.inl (u, .inl (l.set i.toNatClampNeg x.toInt8.toInt32)))) else none
      | _ => none) else none
  | _ => none
def a_lst (pc : Nat) (ls : AL) (st : List Value) (w : AW) : Option AN := match st with
  | .long x :: .int i :: .ref a :: r => if 0 ≤ i then (match w[a]? with
      | some (.inl (u, .inr l)) => if u = 2 ∧ i.toNatClampNeg < l.length then a_nx (pc + 1) ls r (w.set a (.inl (u, .inr (l.set i.toNatClampNeg x)))) else none
      | _ => none) else none
  | _ => none
def a_aln (sc : List Int32) (pc : Nat) (ls : AL) (st : List Value) (w : AW) : Option AN := match st with
  | .ref a :: r => if a = a_SC then a_nx (pc + 1) ls (.int (Int32.ofNat sc.length) :: r) w else match w[a]? with
      | some (.inl (u, .inl l)) => if u < 2 then a_nx (pc + 1) ls (.int (Int32.ofNat l.length) :: r) w else none
      | some (.inl (u, .inr l)) => if u = 2 then a_nx (pc + 1) ls (.int (Int32.ofNat l.length) :: r) w else none
      | _ => none
  | _ => none
def a_def (c : Nat) : List Value := (List.range (NF c)).map (fun j => defaultValue (YF c j))
/-- a place where the class throws an exception of its own: new, dup, ldc_w, invokespecial, athrow -/
def a_thr (k pc v : Nat) : Bool := Nat.beq (mK k) 7 && (match a_lk (mC k) (pc + 3), a_lk (mC k) (pc + 4), a_lk (mC k) (pc + 7), a_lk (mC k) (pc + 10) with
  | some (.dup, 1), some (.ldc_w x, 3), some (.invokespecial y, 3), some (.athrow, 1) => (match a_lk (kS 7) x with
    | some i => Nat.blt i sN
    | none => false) && (bif Nat.beq v 100 then Nat.beq y 340 else Nat.beq y 347)
  | _, _, _, _ => false)
def a_new (k x pc : Nat) (ls : AL) (st : List Value) (w : AW) : Option AN := match a_lk (kX (mK k)) x with
  | some v => if v < 9 ∧ w.length < a_SC then some (pc + 3, ls, .ref w.length :: st, w ++ [.inr (v, a_def v)], 1, NF v) else none
  | none => none
def a_thx (d k x pc : Nat) (st : List Value) : Option AO := match a_lk (kX (mK k)) x with
  | some v => if (v = 100 ∨ v = 101) ∧ (6 ≤ d ∧ (a_cat st ≤ 8 ∧ (a_thr k pc v = true ∧ mH k = []))) then some (.inr v, 1, 6) else none
  | none => none
def a_nwa (ty : ArrayType) (pc : Nat) (ls : AL) (st : List Value) (w : AW) : Option AN := match st with
  | .int n :: r => if (0 ≤ n ∧ n.toNatClampNeg ≤ 10000) ∧ w.length < a_SC then (match ty with
    | .int => some (pc + 2, ls, .ref w.length :: r, w ++ [.inl (0, .inl (List.replicate n.toNatClampNeg 0))], 1, n.toNatClampNeg)
    | .byte => some (pc + 2, ls, .ref w.length :: r, w ++ [.inl (1, .inl (List.replicate n.toNatClampNeg 0))], 1, n.toNatClampNeg)
    | .long => some (pc + 2, ls, .ref w.length :: r, w ++ [.inl (2, .inr (List.replicate n.toNatClampNeg 0))], 1, n.toNatClampNeg)
    | _ => none) else none
  | _ => none
def a_ret (k : Nat) (i : Instr) (st : List Value) : Option AO := match i, st, mR k with
  | .ireturn, [.int v], some .int => some (.inl (some (.int v)), 0, 0)
  | .ireturn, [.int v], some .boolean => if v = 0 ∨ v = 1 then some (.inl (some (.int v)), 0, 0) else none
  | .lreturn, [.long v], some .long => some (.inl (some (.long v)), 0, 0)
  | .return_, [], none => some (.inl none, 0, 0)
  | _, _, _ => none
/-- a call of an object's method, of a constructor (kind 2) -/
def a_cv (kd j : Nat) (st : List Value) (w : AW) : Option AC := match st.drop (mV j) with
  | .ref a :: r => (match w[a]? with
    | some (.inr (cj, _)) => if (cj = mK j ∧ mD j = kd) ∧ (j + 1 < mN ∧ (mH j = [] ∧ (a_cat r ≤ 8 ∧ a_cat (.ref a :: (st.take (mV j)).reverse) ≤ mX j))) then some (j, .ref a :: (st.take (mV j)).reverse, r) else none
    | _ => none)
  | _ => none
def a_cs (j : Nat) (st : List Value) : Option AC :=
  if (mV j ≤ st.length ∧ mD j = 1) ∧ (j + 1 < mN ∧ (a_cat (st.drop (mV j)) ≤ 8 ∧ a_cat (st.take (mV j)).reverse ≤ mX j)) then some (j, (st.take (mV j)).reverse, st.drop (mV j)) else none
def a_sln (d pc : Nat) (ls : AL) (st : List Value) (w : AW) : Option AN := match st with
  | .ref a :: r => if (6 ≤ d ∧ a_cat r ≤ 8) ∧ (a_SB ≤ a ∧ a - a_SB < sN) then a_nx (pc + 3) ls (.int (Int32.ofNat (sB (a - a_SB)).length) :: r) w else none
  | _ => none
def a_sch (d pc : Nat) (ls : AL) (st : List Value) (w : AW) : Option AN := match st with
  | .int i :: .ref a :: r => if (6 ≤ d ∧ a_cat r ≤ 8) ∧ ((a_SB ≤ a ∧ a - a_SB < sN) ∧ 0 ≤ i) then (match (sB (a - a_SB))[i.toNatClampNeg]? with
    | some x => a_nx (pc + 3) ls (.int x :: r) w
    | none => none) else none
  | _ => none
def a_mth (d : Nat) (f : Int32 → Int32 → Int32) (pc : Nat) (ls : AL) (st : List Value) (w : AW) : Option AN := match st with
  | .int y :: .int x :: r => if 1 ≤ d ∧ a_cat r ≤ 8 then a_nx (pc + 3) ls (.int (f x y) :: r) w else none
  | _ => none
def a_abs (d pc : Nat) (ls : AL) (st : List Value) (w : AW) : Option AN := match st with
  | .int x :: r => if 1 ≤ d ∧ a_cat r ≤ 8 then a_nx (pc + 3) ls (.int (if 0 ≤ x then x else 0 - x) :: r) w else none
  | _ => none
def a_cpl (f g : List Int32) (sp dp n : Nat) : List Int32 := g.take dp ++ ((f.drop sp).take n ++ g.drop (dp + n))
def a_cpy (d pc : Nat) (ls : AL) (st : List Value) (w : AW) : Option AN := match st with
  | .int n :: .int dp :: .ref a :: .int sp :: .ref a0 :: r => if (1 ≤ d ∧ a_cat r ≤ 8) ∧ (0 ≤ n ∧ (0 ≤ dp ∧ 0 ≤ sp)) then (match w[a]?, w[a0]? with
    | some (.inl (u, .inl g)), some (.inl (u0, .inl f)) => if (u = 0 ∧ u0 = 0) ∧ (sp.toNatClampNeg + n.toNatClampNeg ≤ f.length ∧ dp.toNatClampNeg + n.toNatClampNeg ≤ g.length) then
        a_nx (pc + 3) ls r (w.set a (.inl (u, .inl (a_cpl f g sp.toNatClampNeg dp.toNatClampNeg n.toNatClampNeg)))) else none
    | _, _ => none) else none
  | _ => none
def a_obj (d pc : Nat) (ls : AL) (st : List Value) (w : AW) : Option AN := match st with
  | .ref _ :: r => if 1 ≤ d ∧ a_cat r ≤ 8 then a_nx (pc + 3) ls r w else none
  | _ => none
def a_inv (d k x pc : Nat) (ls : AL) (st : List Value) (w : AW) : Option AN := match a_lk (kM (mK k)) x with
  | some (7, _) => a_sln d pc ls st w
  | some (8, _) => a_sch d pc ls st w
  | _ => none
def a_ins (d k x pc : Nat) (ls : AL) (st : List Value) (w : AW) : Option AN := match a_lk (kM (mK k)) x with
  | some (3, _) => a_mth d (fun x y => if x < y then y else x) pc ls st w
  | some (4, _) => a_mth d (fun x y => if y < x then y else x) pc ls st w
  | some (5, _) => a_abs d pc ls st w
  | some (6, _) => a_cpy d pc ls st w
  | _ => none
def a_inp (d k x pc : Nat) (ls : AL) (st : List Value) (w : AW) : Option AN := match a_lk (kM (mK k)) x with
  | some (2, _) => a_obj d pc ls st w
  | _ => none
def ins (sc : List Int32) (d k pc : Nat) (ls : AL) (st : List Value) (w : AW) (i : Instr) : Option AN := match i with
  | .iconst n => a_nx (pc + 1) ls (.int (Int32.ofInt n) :: st) w
  | .bipush n => a_nx (pc + 2) ls (.int (Int8.ofInt n).toInt32 :: st) w
  | .sipush n => a_nx (pc + 3) ls (.int (Int16.ofInt n).toInt32 :: st) w
  | .lconst n => a_nx (pc + 1) ls (.long (Int64.ofNat (n : Nat)) :: st) w
  | .ldc x => a_ldc (mK k) x (pc + 2) ls st w
  | .ldc_w x => a_ldc (mK k) x (pc + 3) ls st w
  | .ldc2_w x => a_ldc2 (mK k) x (pc + 3) ls st w
  | .iload i => a_ldI (a_lk ls i) (pc + 2) ls st w
  | .iload_n n => a_ldI (a_lk ls (n : Nat)) (pc + 1) ls st w
  | .lload i => a_ldL (a_lk ls i) (pc + 2) ls st w
  | .lload_n n => a_ldL (a_lk ls (n : Nat)) (pc + 1) ls st w
  | .aload i => a_ldA (a_lk ls i) (pc + 2) ls st w
  | .aload_n n => a_ldA (a_lk ls (n : Nat)) (pc + 1) ls st w
  | .istore i => a_stI (mX k) i (pc + 2) ls st w
  | .istore_n n => a_stI (mX k) (n : Nat) (pc + 1) ls st w
  | .lstore i => a_stL (mX k) i (pc + 2) ls st w
  | .lstore_n n => a_stL (mX k) (n : Nat) (pc + 1) ls st w
  | .astore i => a_stA (mX k) i (pc + 2) ls st w
  | .astore_n n => a_stA (mX k) (n : Nat) (pc + 1) ls st w
  | .iinc i c => a_inc (mX k) i c pc ls st w
  | .iadd => a_i2 (fun x y => x + y) pc ls st w
  | .isub => a_i2 (fun x y => x - y) pc ls st w
  | .imul => a_i2 (fun x y => x * y) pc ls st w
  | .iand => a_i2 (fun x y => x &&& y) pc ls st w
  | .ior => a_i2 (fun x y => x ||| y) pc ls st w
  | .ixor => a_i2 (fun x y => x ^^^ y) pc ls st w
  | .ishl => a_i2 (fun x y => x <<< (y &&& 31)) pc ls st w
  | .ishr => a_i2 (fun x y => x >>> (y &&& 31)) pc ls st w
  | .iushr => a_i2 (fun x y => (x.toUInt32 >>> (y.toUInt32 &&& Int32.toUInt32 31)).toInt32) pc ls st w
  | .idiv => a_i2z (fun x y => x / y) pc ls st w
  | .irem => a_i2z (fun x y => x - x / y * y) pc ls st w
  | .ineg => a_i1 (fun x => -x) pc ls st w
  | .i2b => a_i1 (fun x => x.toInt8.toInt32) pc ls st w
  | .i2l => a_i2l pc ls st w
  | .ladd => a_l2 (fun x y => x + y) pc ls st w
  | .lmul => a_l2 (fun x y => x * y) pc ls st w
  | .ldiv => a_l2z (fun x y => x / y) pc ls st w
  | .lrem => a_l2z (fun x y => x - x / y * y) pc ls st w
  | .lcmp => a_lcmp pc ls st w
  | .dup => a_dup pc ls st w
  | .dup2 => a_dup2 pc ls st w
  | .pop => a_pop pc ls st w
  | .goto off => a_to pc off ls st w
  | .ifCond .eq off => (match st with | .int x :: r => a_jmp (x = 0) pc off ls r w | _ => none)
  | .ifCond .ne off => (match st with | .int x :: r => a_jmp (¬ x = 0) pc off ls r w | _ => none)
  | .ifCond .lt off => (match st with | .int x :: r => a_jmp (x < 0) pc off ls r w | _ => none)
  | .ifCond .ge off => (match st with | .int x :: r => a_jmp (0 ≤ x) pc off ls r w | _ => none)
  | .ifCond .gt off => (match st with | .int x :: r => a_jmp (0 < x) pc off ls r w | _ => none)
  | .ifCond .le off => (match st with | .int x :: r => a_jmp (x ≤ 0) pc off ls r w | _ => none)
  | .if_icmp .eq off => (match st with | .int y :: .int x :: r => a_jmp (x = y) pc off ls r w | _ => none)
  | .if_icmp .ne off => (match st with | .int y :: .int x :: r => a_jmp (¬ x = y) pc off ls r w | _ => none)
  | .if_icmp .lt off => (match st with | .int y :: .int x :: r => a_jmp (x < y) pc off ls r w | _ => none)
  | .if_icmp .ge off => (match st with | .int y :: .int x :: r => a_jmp (y ≤ x) pc off ls r w | _ => none)
  | .if_icmp .gt off => (match st with | .int y :: .int x :: r => a_jmp (y < x) pc off ls r w | _ => none)
  | .if_icmp .le off => (match st with | .int y :: .int x :: r => a_jmp (x ≤ y) pc off ls r w | _ => none)
  | .tableswitch dflt lo hi offs => a_tsw dflt lo hi offs pc ls st w
  | .lookupswitch dflt ps => a_lsw dflt ps pc ls st w
  | .getfield x => a_get (mK k) x pc ls st w
  | .putfield x => a_put k x pc ls st w
  | .iaload => a_ild 0 sc pc ls st w
  | .baload => a_ild 1 sc pc ls st w
  | .laload => a_lld pc ls st w
  | .iastore => a_ist pc ls st w
  | .bastore => a_bst pc ls st w
  | .lastore => a_lst pc ls st w
  | .arraylength => a_aln sc pc ls st w
  | .new x => a_new k x pc ls st w
  | .newarray ty => a_nwa ty pc ls st w
  | .invokevirtual x => a_inv d k x pc ls st w
  | .invokestatic x => a_ins d k x pc ls st w
  | .invokespecial x => a_inp d k x pc ls st w
  | _ => none
/-- the end of a method: it answers, or throws -/
def fin (d k pc : Nat) (st : List Value) (i : Instr) : Option AO := match i with
  | .ireturn => a_ret k .ireturn st
  | .lreturn => a_ret k .lreturn st
  | .return_ => a_ret k .return_ st
  | .new x => a_thx d k x pc st
  | _ => none
/-- a call -/
def cal (k : Nat) (st : List Value) (w : AW) (i : Instr) : Option AC := match i with
  | .invokevirtual x => (match a_lk (kM (mK k)) x with
    | some (0, j) => a_cv 0 j st w
    | _ => none)
  | .invokestatic x => (match a_lk (kM (mK k)) x with
    | some (0, j) => a_cs j st
    | _ => none)
  | .invokespecial x => (match a_lk (kM (mK k)) x with
    | some (0, j) => a_cv 2 j st w
    | some (1, j) => a_cv 2 j st w
    | _ => none)
  | _ => none
/-- a handler of the law's own: astore, iconst, ireturn -/
def a_hc (k h : Nat) : Option Int32 := match mR k with
  | some .int => (match a_lk (mC k) h with
    | some (.astore_n n, 1) => if (n : Nat) < mX k then (match a_lk (mC k) (h + 1), a_lk (mC k) (h + 2) with
      | some (.iconst v, 1), some (.ireturn, 1) => some (Int32.ofInt v)
      | _, _ => none) else none
    | some (.astore n, 2) => if n < mX k then (match a_lk (mC k) (h + 2), a_lk (mC k) (h + 3) with
      | some (.iconst v, 1), some (.ireturn, 1) => some (Int32.ofInt v)
      | _, _ => none) else none
    | _ => none)
  | _ => none
def a_hnd (k pc v : Nat) : Option Int32 := if v = 100 ∨ v = 101 then (match mH k with
  | [(f, t, h, ct)] => if (f ≤ pc ∧ pc < t) ∧ (ct ≠ 0 ∧ a_lk (kX (mK k)) ct = some v) then a_hc k h else none
  | [(f, t, h, ct), (f2, t2, h2, ct2)] => if (f ≤ pc ∧ pc < t) ∧ (ct ≠ 0 ∧ a_lk (kX (mK k)) ct = some v) then a_hc k h
      else if ((v = 101 ∧ ct ≠ 0) ∧ a_lk (kX (mK k)) ct = some 100) ∧ ((f2 ≤ pc ∧ pc < t2) ∧ (ct2 ≠ 0 ∧ a_lk (kX (mK k)) ct2 = some v)) then a_hc k h2 else none
  | _ => none) else none
/-- what a frame does with the answer of a call (it goes on by 'go') -/
def a_bk (k pc j : Nat) (rest : List Value) (nc ns : Nat) (go : List Value → AW → Nat → Nat → Option AR) : Option AR → Option AR
  | none => none
  | some (.inl v, w, a, b) => go (v.toList ++ rest) w (nc + a) (ns + b)
  | some (.inr v, w, a, b) => if mD j = 0 then (match mH k with
    | [] => some (.inr v, w, nc + a, ns + b)
    | _ :: _ => match a_hnd k pc v with
      | some z => some (.inl (some (.int z)), w, nc + a, ns + b)
      | none => none) else none
def ev (sc : List Int32) : Nat → Nat → Nat → Nat → AL → List Value → AW → Nat → Nat → Option AR
  | 0, _, _, _, _, _, _, _, _ => none
  | n + 1, d, k, pc, ls, st, w, nc, ns => match a_lk (mC k) pc with
    | none => none
    | some (i, _) => match ins sc d k pc ls st w i with
      | some (pc', ls', st', w', a, b) => ev sc n d k pc' ls' st' w' (nc + a) (ns + b)
      | none => match fin d k pc st i with
        | some (o, a, b) => some (o, w, nc + a, ns + b)
        | none => match cal k st w i with
          | some (j, ags, rest) => (match d with
            | 0 => none
            | d' + 1 => a_bk k pc j rest nc ns (fun st' w' a b => ev sc n d k (pc + 3) ls st' w' a b) (ev sc n d' j 0 (lv_args 0 ags) [] w 0 0))
          | none => none
end
section
abbrev vwCl : List vw_C := [(RX0, TX0, 6), (RX1, TX1, 5), (RX2, TX2, 13), (RX3, TX3, 5), (RX4, TX4, 2), (RX5, TX5, 6), (RX6, TX6, 1), (RX7, TX7, 14), (RX8, TX8, 53)]
/-! ===== how the abstract machine's cells lie in the heap ===== -/
def a_V (θ : Nat → Nat) : Value → Value
  | .ref a => .ref (θ a)
  | v => v
theorem a_V_cat (θ : Nat → Nat) (v : Value) : (a_V θ v).category = v.category := by cases v <;> rfl
theorem a_cat_V (θ : Nat → Nat) (st : List Value) : a_cat (st.map (a_V θ)) = a_cat st := by
  unfold a_cat
  rw [List.map_map]
  congr 1
  exact List.map_congr_left fun v _ => a_V_cat θ v
def a_E (cA : Nat → ClassId) (θ : Nat → Nat) : AE → va_E
  | .inl (t, .inl l) => .inl (cA t, l.length, .inl (fun i => l.getD i 0))
  | .inl (t, .inr l) => .inl (cA t, l.length, .inr (.inl (fun i => l.getD i 0)))
  | .inr (c, fs) => .inr (c, fs.map (a_V θ))
def a_C (cA : Nat → ClassId) (θ : Nat → Nat) (w : AW) : va_W := w.mapIdx (fun k e => (θ k, a_E cA θ e))
theorem a_C_len {cA : Nat → ClassId} {θ : Nat → Nat} {w : AW} : (a_C cA θ w).length = w.length := by simp [a_C]
theorem a_C_at {cA : Nat → ClassId} {θ : Nat → Nat} {w : AW} (k : Nat) : (a_C cA θ w)[k]? = (w[k]?).map (fun e => (θ k, a_E cA θ e)) := by
  simp [a_C, List.getElem?_mapIdx]
theorem a_C_get {cA : Nat → ClassId} {θ : Nat → Nat} {w : AW} {k : Nat} {e : AE} (h : w[k]? = some e) : (a_C cA θ w)[k]? = some (θ k, a_E cA θ e) := by
  rw [a_C_at, h]; rfl
theorem a_C_set {cA : Nat → ClassId} {θ : Nat → Nat} {w : AW} {k : Nat} {e : AE} : a_C cA θ (w.set k e) = (a_C cA θ w).set k (θ k, a_E cA θ e) := by
  apply List.ext_getElem?
  intro i
  rw [a_C_at, List.getElem?_set, List.getElem?_set, a_C_len, a_C_at]
  by_cases hk : k = i
  · subst hk
    by_cases hl : k < w.length
    · simp [hl]
    · simp [hl]
  · simp [hk]
theorem a_C_push {cA : Nat → ClassId} {θ : Nat → Nat} {w : AW} {e : AE} : a_C cA θ (w ++ [e]) = a_C cA θ w ++ [(θ w.length, a_E cA θ e)] := by
  simp [a_C, List.mapIdx_append]
/-- a reference is known: to a cell, or to what stands apart -/
def a_rk (n : Nat) (v : Value) : Prop := ∀ a : Nat, v = .ref a → a < n ∨ a_SC ≤ a
theorem a_rk_int {n : Nat} (x : Int32) : a_rk n (.int x) := fun _ h => by cases h
theorem a_rk_long {n : Nat} (x : Int64) : a_rk n (.long x) := fun _ h => by cases h
theorem a_rk_null {n : Nat} : a_rk n .null := fun _ h => by cases h
theorem a_rk_ref {n a : Nat} (h : a < n ∨ a_SC ≤ a) : a_rk n (.ref a) := fun _ e => by cases e; exact h
theorem a_rk_mono {n n' : Nat} {v : Value} (h : a_rk n v) (hn : n ≤ n') : a_rk n' v := fun a e => (h a e).elim (fun q => Or.inl (Nat.lt_of_lt_of_le q hn)) Or.inr
def a_ex (n : Nat) (θ θ' : Nat → Nat) : Prop := ∀ x : Nat, x < n ∨ a_SC ≤ x → θ' x = θ x
theorem a_ex_rf {n : Nat} {θ : Nat → Nat} : a_ex n θ θ := fun _ _ => rfl
theorem a_ex_tr {n n' : Nat} {θ θ' θ'' : Nat → Nat} (h : a_ex n θ θ') (h' : a_ex n' θ' θ'') (hn : n ≤ n') : a_ex n θ θ'' := fun x hx => by
  rw [h' x (hx.elim (fun q => Or.inl (Nat.lt_of_lt_of_le q hn)) Or.inr), h x hx]
theorem a_V_ex {n : Nat} {θ θ' : Nat → Nat} {v : Value} (h : a_ex n θ θ') (hv : a_rk n v) : a_V θ' v = a_V θ v := by
  cases v with
  | ref a => show Value.ref (θ' a) = Value.ref (θ a); rw [h a (hv a rfl)]
  | _ => rfl
theorem a_Vs_ex {n : Nat} {θ θ' : Nat → Nat} {vs : List Value} (h : a_ex n θ θ') (hv : ∀ v ∈ vs, a_rk n v) : vs.map (a_V θ') = vs.map (a_V θ) :=
  List.map_congr_left fun v hq => a_V_ex h (hv v hq)
def a_wf (n : Nat) (w : AW) : Prop := ∀ (k c : Nat) (fs : List Value), w[k]? = some (.inr (c, fs)) → ∀ v ∈ fs, a_rk n v
theorem a_C_ex {cA : Nat → ClassId} {θ θ' : Nat → Nat} {w : AW} (h : a_ex w.length θ θ') (hw : a_wf w.length w) : a_C cA θ' w = a_C cA θ w := by
  apply List.ext_getElem?
  intro i
  rw [a_C_at, a_C_at]
  cases hi : w[i]? with
  | none => rfl
  | some e =>
    have hl : i < w.length := (List.getElem?_eq_some_iff.mp hi).1
    have e2 : a_E cA θ' e = a_E cA θ e := by
      rcases e with ⟨t, l | l⟩ | ⟨c, fs⟩
      · rfl
      · rfl
      · show Sum.inr (c, fs.map (a_V θ')) = Sum.inr (c, fs.map (a_V θ))
        rw [a_Vs_ex h (hw i c fs hi)]
    simp [h i (Or.inl hl), e2]
theorem a_wf_set {w : AW} {k : Nat} {e : AE} (hw : a_wf w.length w) (he : ∀ (c : Nat) (fs : List Value), e = .inr (c, fs) → ∀ v ∈ fs, a_rk w.length v) : a_wf (w.set k e).length (w.set k e) := by
  intro i c fs hi v hv
  rw [List.length_set]
  rw [List.getElem?_set] at hi
  by_cases hk : k = i
  · rw [if_pos hk] at hi
    split at hi
    · exact he c fs (Option.some.inj hi) v hv
    · cases hi
  · rw [if_neg hk] at hi
    exact hw i c fs hi v hv
theorem a_wf_push {w : AW} {e : AE} (hw : a_wf w.length w) (he : ∀ (c : Nat) (fs : List Value), e = .inr (c, fs) → ∀ v ∈ fs, a_rk (w.length + 1) v) : a_wf (w ++ [e]).length (w ++ [e]) := by
  intro i c fs hi v hv
  rw [List.length_append, List.length_singleton]
  rcases Nat.lt_or_ge i w.length with q | q
  · rw [List.getElem?_append_left q] at hi
    exact a_rk_mono (hw i c fs hi v hv) (Nat.le_succ _)
  · rw [List.getElem?_append_right q] at hi
    rcases Nat.eq_zero_or_pos (i - w.length) with z | z
    · rw [z] at hi
      exact he c fs (Option.some.inj hi) v hv
    · rw [List.getElem?_eq_none (by rw [List.length_singleton]; exact z)] at hi
      cases hi
def a_ty (cA : Nat → ClassId) : List (ClassId × FieldType) := [(cA 0, .int), (cA 1, .byte), (cA 2, .long)]
/-- what stands apart from the world: the text constants, the statics that are read, the nest's words, the script -/
def a_Env (adK adV : Nat → Nat) (b : Nat) (sc : List Int32) (A : Nat → Prop) (U : State) (H : Heap) : Prop :=
  (∀ i : Nat, i < sN → vk_R (RN (sC i)) (sP i) (sT i) (adK i) U ∧ vk_S 1 [(sB i).length] [sB i] (fun _ => adK i) (fun _ => adV i) A U H) ∧
  vx_Zq Bundle.tN "UNASSIGNED_STACK" Bundle.steD A U H ∧ vx_Zq Bundle.tN "SUPPRESSED_SENTINEL" Bundle.listD A U H ∧
  va_Z "java/lang/String" "COMPACT_STRINGS" "Z" (.int 1) A U H ∧ va_Zq "jdk/internal/util/Preconditions" "SIOOBE_FORMATTER" "Ljava/util/function/BiFunction;" A U H ∧
  va_Nc (xNm 101) (xNm 100) U ∧ (∀ w ∈ AWN, va_Nw w U) ∧
  va_X b sc.length (fun i => sc.getD i 0) U H ∧ b < H.size ∧ ¬ A b
theorem a_hw_warm {w : Cond} (h : a_hw w = true) {s U : State} (hW : s.WarmedH U.vm) (hZ : va_Nw w s) : va_Nw w U := by
  cases w with
  | methodLinkNest a i x h => exact va_Nw.warmM hW hZ
  | castable a b => exact va_Nw.warmC hW hZ
  | declares x => exact va_Nw.warmD hW hZ
  | _ => cases h
theorem a_Env.warm {adK adV : Nat → Nat} {b : Nat} {sc : List Int32} {A : Nat → Prop} {s U : State} {H : Heap} (hW : s.WarmedH U.vm) (h : a_Env adK adV b sc A s H) : a_Env adK adV b sc A U H := by
  obtain ⟨h1, h2, h3, h4, h5, h6, h9, h10, h11⟩ := h
  have hv := hW.alike
  exact ⟨fun i hi => ⟨vk_R.warm hW (h1 i hi).1, vk_S.moved hv (h1 i hi).2⟩, vx_Zq.moved hv h2, vx_Zq.moved hv h3, va_Z.moved hv h4, va_Zq.moved hv h5, va_Nc.moved hv h6, fun w hw => a_hw_warm (List.all_eq_true.mp AWN_hw w hw) hW (h9 w hw), va_X.moved hv h10, h11⟩
theorem a_Env.kept {adK adV : Nat → Nat} {b : Nat} {sc : List Int32} {A : Nat → Prop} {U : State} {H H1 : Heap} (h : a_Env adK adV b sc A U H) (hz : H.size ≤ H1.size) (hq : ∀ a : Nat, a < H.size → ¬ A a → H1[a]? = H[a]?) : a_Env adK adV b sc A U H1 := by
  obtain ⟨h1, h2, h3, h4, h5, h6, h9, h10, h11, h12⟩ := h
  exact ⟨fun i hi => ⟨(h1 i hi).1, (h1 i hi).2.kept hq⟩, h2.kept hq, h3.kept hq, h4.kept hq, h5.kept hq, h6, h9, h10.kept (hq b h11 h12), Nat.lt_of_lt_of_le h11 hz, h12⟩
theorem a_Env.narrow {adK adV : Nat → Nat} {b : Nat} {sc : List Int32} {A B : Nat → Prop} {U : State} {H : Heap} (h : a_Env adK adV b sc A U H) (hAB : ∀ q, B q → A q) : a_Env adK adV b sc B U H := by
  obtain ⟨h1, h2, h3, h4, h5, h6, h9, h10, h11, h12⟩ := h
  exact ⟨fun i hi => ⟨(h1 i hi).1, (h1 i hi).2.narrow hAB⟩, h2.narrow hAB, h3.narrow hAB, h4.narrow hAB, h5.narrow hAB, h6, h9, h10, h11, fun z => h12 (hAB _ z)⟩
/-- the world, where it lies now -/
def a_I (D : va_G) (cA : Nat → ClassId) (adK : Nat → Nat) (b : Nat) (A : Nat → Prop) (s : State) (H : Heap) (locs : List Loc) (θ : Nat → Nat) (w : AW) : Prop :=
  va_P D vwCl (a_C cA θ w) H ∧ va_D A (a_C cA θ w) ∧ va_S A s.heap H locs ∧ a_wf w.length w ∧ w.length ≤ a_SC ∧ θ a_SC = b ∧ ∀ i : Nat, i < sN → θ (a_SB + i) = adK i
/-- the frame's own: its locals, its stack -/
def a_F (θ : Nat → Nat) (w : AW) (n : Nat) (sl : Array Slot) (ls : AL) (st : List Value) : Prop :=
  lv_has sl n (ls.map fun q => (q.1, a_V θ q.2)) ∧ (∀ q ∈ ls, a_rk w.length q.2) ∧ ∀ v ∈ st, a_rk w.length v
/-- the room for d more calls -/
def a_lo (d : Nat) : Nat := 100 * d + 300
def a_X (adK adV : Nat → Nat) (b : Nat) (sc : List Int32) (D : va_G) (cA : Nat → ClassId) (A : Nat → Prop) (p : Program) (l : Launch) (R : Room) (s : State) (m : MethodId) (args : Array Value) (meth : Method) (c : Code) (d k : Nat) : Prop :=
  (p.tables.exec = Jvm.exec ∧ c.code = mB k ∧ c.maxLocals = mX k ∧ s.vm.findClass (RN (mK k)) = some m.cls ∧ (∀ w ∈ ALLW, w.before args s = true)) ∧ meth.locks = false ∧ l.stackTraces = false ∧ (mD k = 2 → meth.name = "<init>") ∧ c.exceptionTable.toList = tableOf (mH k) ∧
  va_K D vwCl (a_ty cA) s ∧ a_Env adK adV b sc A s s.heap ∧ (∀ q : Nat, s.heap.size ≤ q → A q) ∧ d ≤ R.frames ∧ a_lo d ≤ R.locals ∧ k < mN
theorem a_s1_map (θ : Nat → Nat) (ls : AL) (i : Nat) (v : Value) : (i, a_V θ v) :: (ls.map fun q => (q.1, a_V θ q.2)).filter (fun q => !(q.1 == i) && !(q.1 + 1 == i && q.2.category == 2)) = (a_s1 ls i v).map fun q => (q.1, a_V θ q.2) := by
  simp [a_s1, List.filter_map, Function.comp_def, a_V_cat]
theorem a_s2_map (θ : Nat → Nat) (ls : AL) (i : Nat) (v : Value) : (i, a_V θ v) :: (ls.map fun q => (q.1, a_V θ q.2)).filter (fun q => !(q.1 == i) && (!(q.1 == i + 1) && !(q.1 + 1 == i && q.2.category == 2))) = (a_s2 ls i v).map fun q => (q.1, a_V θ q.2) := by
  simp [a_s2, List.filter_map, Function.comp_def, a_V_cat]
theorem a_s1_ok {n : Nat} {ls : AL} {i : Nat} {v : Value} (h : ∀ q ∈ ls, a_rk n q.2) (hv : a_rk n v) : ∀ q ∈ a_s1 ls i v, a_rk n q.2 := by
  intro q hq
  rcases List.mem_cons.mp hq with rfl | hq
  · exact hv
  · exact h q (List.mem_filter.mp hq).1
theorem a_s2_ok {n : Nat} {ls : AL} {i : Nat} {v : Value} (h : ∀ q ∈ ls, a_rk n q.2) (hv : a_rk n v) : ∀ q ∈ a_s2 ls i v, a_rk n q.2 := by
  intro q hq
  rcases List.mem_cons.mp hq with rfl | hq
  · exact hv
  · exact h q (List.mem_filter.mp hq).1
theorem a_F.at {θ : Nat → Nat} {w : AW} {n : Nat} {sl : Array Slot} {ls : AL} {st : List Value} (h : a_F θ w n sl ls st) {i : Nat} {v : Value} (hv : a_lk ls i = some v) : sl[i]? = some (.val (a_V θ v)) :=
  h.1.2.2 (i, a_V θ v) (List.mem_map.mpr ⟨(i, v), a_lk_mem hv, rfl⟩)
theorem a_F.known {θ : Nat → Nat} {w : AW} {n : Nat} {sl : Array Slot} {ls : AL} {st : List Value} (h : a_F θ w n sl ls st) {i : Nat} {v : Value} (hv : a_lk ls i = some v) : a_rk w.length v := h.2.1 (i, v) (a_lk_mem hv)
theorem a_F.st {θ : Nat → Nat} {w : AW} {n : Nat} {sl : Array Slot} {ls : AL} {st st' : List Value} (h : a_F θ w n sl ls st) (h' : ∀ v ∈ st', a_rk w.length v) : a_F θ w n sl ls st' := ⟨h.1, h.2.1, h'⟩
theorem a_F.w {θ : Nat → Nat} {w w' : AW} {n : Nat} {sl : Array Slot} {ls : AL} {st : List Value} (h : a_F θ w n sl ls st) (e : w'.length = w.length) : a_F θ w' n sl ls st := ⟨h.1, by rw [e]; exact h.2.1, by rw [e]; exact h.2.2⟩
/-- .. seen with the addresses of later -/
theorem a_F.ex {θ θ' : Nat → Nat} {w w' : AW} {n : Nat} {sl : Array Slot} {ls : AL} {st : List Value} (h : a_F θ w n sl ls st) (e : a_ex w.length θ θ') (hl : w.length ≤ w'.length) : a_F θ' w' n sl ls st := by
  refine ⟨?_, fun q hq => a_rk_mono (h.2.1 q hq) hl, fun v hv => a_rk_mono (h.2.2 v hv) hl⟩
  have e1 : (ls.map fun q => (q.1, a_V θ' q.2)) = ls.map fun q => (q.1, a_V θ q.2) := List.map_congr_left fun q hq => by rw [a_V_ex e (h.2.1 q hq)]
  rw [e1]
  exact h.1
/-! facts of the tables -/
theorem a_vw {c : Nat} (h : c < 9) : vwCl[c]? = some (RN c, TF c, NF c) := by
  match c, h with
  | 0, _ => rfl
  | 1, _ => rfl
  | 2, _ => rfl
  | 3, _ => rfl
  | 4, _ => rfl
  | 5, _ => rfl
  | 6, _ => rfl
  | 7, _ => rfl
  | 8, _ => rfl
theorem a_tyF {c : Nat} (h : c < 9) : ∀ k : Nat, k < NF c → parseFieldDescriptor (TF c k).2.2.1 = some (YF c k) := by
  match c, h with
  | 0, _ => exact tyX0_ok
  | 1, _ => exact tyX1_ok
  | 2, _ => exact tyX2_ok
  | 3, _ => exact tyX3_ok
  | 4, _ => exact tyX4_ok
  | 5, _ => exact tyX5_ok
  | 6, _ => exact tyX6_ok
  | 7, _ => exact tyX7_ok
  | 8, _ => exact tyX8_ok
theorem a_nmF {c : Nat} (h : c < 9) : ∀ a : Nat, a < NF c → ∀ b : Nat, b < NF c → a ≠ b → (TF c a).2.1 ≠ (TF c b).2.1 := by
  match c, h with
  | 0, _ => exact nmX0
  | 1, _ => exact nmX1
  | 2, _ => exact nmX2
  | 3, _ => exact nmX3
  | 4, _ => exact nmX4
  | 5, _ => exact nmX5
  | 6, _ => exact nmX6
  | 7, _ => exact nmX7
  | 8, _ => exact nmX8
theorem a_inC : ∀ w ∈ AWC, w ∈ ALLW := fun _ h => List.mem_append_right _ (List.mem_append_right _ (List.mem_append_right _ (List.mem_append_left _ h)))
theorem a_inK : ∀ w ∈ AWK, w ∈ ALLW := fun _ h => List.mem_append_right _ (List.mem_append_right _ (List.mem_append_right _ (List.mem_append_right _ (List.mem_append_left _ h))))
theorem a_inB : ∀ w ∈ AWB, w ∈ ALLW := fun _ h => List.mem_append_right _ (List.mem_append_right _ (List.mem_append_right _ (List.mem_append_right _ (List.mem_append_right _ (List.mem_append_left _ h)))))
theorem a_inJ : ∀ w ∈ AWJ, w ∈ ALLW := fun _ h => List.mem_append_right _ (List.mem_append_right _ (List.mem_append_right _ (List.mem_append_right _ (List.mem_append_right _ (List.mem_append_right _ (List.mem_append_left _ h))))))
theorem a_inX : ∀ w ∈ AWX, w ∈ ALLW := fun _ h => List.mem_append_right _ (List.mem_append_right _ (List.mem_append_right _ (List.mem_append_right _ (List.mem_append_right _ (List.mem_append_right _ (List.mem_append_right _ h))))))
theorem a_inU {c : Nat} (h : c < 9) : ∀ w ∈ u_ws (RN c) (TF c) (NF c), w ∈ ALLW := fun w hw => a_inC _ (List.mem_append_right _ (List.mem_flatMap.mpr ⟨c, List.mem_range.mpr h, List.mem_cons_of_mem _ hw⟩))
theorem a_inI {c : Nat} (h : c < 10) : Cond.initialized (RN c) ∈ ALLW := a_inC _ (List.mem_append_left _ (List.mem_map.mpr ⟨c, List.mem_range.mpr h, rfl⟩))
theorem a_inN {c : Nat} (h : c < 9) : Cond.instantiable (RN c) (NF c) ∈ ALLW := a_inC _ (List.mem_append_right _ (List.mem_flatMap.mpr ⟨c, List.mem_range.mpr h, List.mem_cons_self⟩))
theorem a_inF {c : Nat} (h : c < 10) {q : Nat × Nat × Nat} (hq : q ∈ kF c) : wF c q ∈ ALLW := List.mem_append_left _ (List.mem_flatMap.mpr ⟨c, List.mem_range.mpr h, List.mem_map.mpr ⟨q, hq, rfl⟩⟩)
theorem a_inM {c : Nat} (h : c < 10) {q : Nat × Nat × Nat} (hq : q ∈ kM c) (ht : ¬ q.2.1 = 1) : wM c q ∈ ALLW := List.mem_append_right _ (List.mem_append_left _ (List.mem_flatMap.mpr ⟨c, List.mem_range.mpr h, List.mem_map.mpr ⟨q, List.mem_filter.mpr ⟨hq, by
  cases hb : Nat.beq q.2.1 1 with
  | true => exact absurd (Nat.eq_of_beq_eq_true hb) ht
  | false => rfl⟩, rfl⟩⟩))
theorem a_inMN {c : Nat} (h : c < 10) {q : Nat × Nat × Nat} (hq : q ∈ kM c) (ht : q.2.1 = 1) : wM c q ∈ AWN := List.mem_append_left _ (List.mem_flatMap.mpr ⟨c, List.mem_range.mpr h, List.mem_map.mpr ⟨q, List.mem_filter.mpr ⟨hq, by rw [ht]; rfl⟩, rfl⟩⟩)
theorem a_inKX {c : Nat} (h : c < 10) {q : Nat × Nat} (hq : q ∈ kX c) : wX c q ∈ ALLW := a_inK _ (List.mem_flatMap.mpr ⟨c, List.mem_range.mpr h, List.mem_append_left _ (List.mem_map.mpr ⟨q, hq, rfl⟩)⟩)
theorem a_inKI {c : Nat} (h : c < 10) {q : Nat × Int32} (hq : q ∈ kI c) : wI c q ∈ ALLW := a_inK _ (List.mem_flatMap.mpr ⟨c, List.mem_range.mpr h, List.mem_append_right _ (List.mem_append_left _ (List.mem_map.mpr ⟨q, hq, rfl⟩))⟩)
theorem a_inKL {c : Nat} (h : c < 10) {q : Nat × Int64} (hq : q ∈ kL c) : wL c q ∈ ALLW := a_inK _ (List.mem_flatMap.mpr ⟨c, List.mem_range.mpr h, List.mem_append_right _ (List.mem_append_right _ (List.mem_map.mpr ⟨q, hq, rfl⟩))⟩)
theorem a_inDW {k : Nat} (h : k + 1 < mN) : ∀ w ∈ wD k, w ∈ ALLW := fun w hw => List.mem_append_right _ (List.mem_append_right _ (List.mem_append_left _ (a_inD (by unfold mN at h; omega) w hw)))
theorem kF_ok : ((List.range 10).all fun c => (kF c).all fun q => decide (q.2.1 < 9) && (decide (q.2.2 < NF q.2.1) && decide ((TF q.2.1 q.2.2).1 = RN q.2.1))) = true := by decide +kernel
theorem a_kF {c x : Nat} {q : Nat × Nat} (hc : c < 10) (h : a_lk (kF c) x = some q) : (q.1 < 9 ∧ q.2 < NF q.1 ∧ (TF q.1 q.2).1 = RN q.1) ∧ wF c (x, q) ∈ ALLW := by
  have hm := a_lk_mem h
  refine ⟨?_, a_inF hc hm⟩
  have h1 := List.all_eq_true.mp (List.all_eq_true.mp kF_ok c (List.mem_range.mpr hc)) _ hm
  simpa using h1
theorem mPb_f {k : Nat} (h : k < mN) : (∀ q ∈ mC k, a_lenOk q.2.1 q.2.2 = true) ∧ plainName (mY k).cls = true ∧ (mY k).cls = RN (mK k) ∧ (parseMethodDescriptor (mY k).desc).map (fun d => d.parameters.length) = some (mV k) ∧ mX k ≤ 60 ∧ ((mY k).cls ≠ "java/lang/invoke/MethodHandle" ∧ (mY k).cls ≠ "java/lang/invoke/VarHandle") ∧ mK k < 10 ∧ (mD k = 2 ↔ (mY k).name = "<init>") ∧ (mD k = 2 → mR k = none) := by
  have h1 := mPb_ok h
  unfold mPb at h1
  simp only [Bool.and_eq_true, List.all_eq_true, decide_eq_true_eq] at h1
  obtain ⟨q1, q2, q3, q4, q5, q6, q7, q8, q9⟩ := h1
  refine ⟨q1, q2, q3, q4, q5, q6, q7, ?_, fun z => ?_⟩
  · have := eq_of_beq q8
    exact decide_eq_decide.mp this
  · simpa [z] using q9
theorem a_dec {k pc len : Nat} {i : Instr} (h : k < mN) (hd : a_lk (mC k) pc = some (i, len)) : decode (mB k) pc = .ok (i, len) := by
  have h1 := mPd_ok h
  unfold mPd at h1
  have h2 := List.all_eq_true.mp h1 (pc, i, len) (a_lk_mem hd)
  exact of_decide_eq_true h2
theorem a_declen {k pc len : Nat} {i : Instr} (h : k < mN) (hd : a_lk (mC k) pc = some (i, len)) : a_lenOk i len = true := (mPb_f h).1 (pc, i, len) (a_lk_mem hd)
/-- the decoded row of an instruction that is no switch -/
theorem a_dec1 {k pc len n : Nat} {i : Instr} (h : k < mN) (hd : a_lk (mC k) pc = some (i, len)) (hi : a_lenOk i len = Nat.beq len n) : decode (mB k) pc = .ok (i, n) := by
  have h1 := a_declen h hd
  rw [hi] at h1
  have h2 : len = n := Nat.eq_of_beq_eq_true h1
  rw [← h2]
  exact a_dec h hd
end
section
/-! ===== 'throw new E("text")' of an exception whose constructor calls by any index (the proofs follow the library's for index 7: BundleChainS, BundleOwnThrow, and the kit's vx_throwSW) ===== -/
theorem a_chain {args : Array Value} {s : State} {pl : Platform} (hpl : pl.magicAccessors = ({} : Platform).magicAccessors) {top : MethodId} (htop : s.methodNamed? (Bundle.initS Bundle.tN) = some top)
    {ix : Nat} {rx : ByteArray} (x0 : decode rx 0 = .ok (.aload_n 0, 1)) (x1 : decode rx 1 = .ok (.aload_n 1, 1)) (x2 : decode rx 2 = .ok (.invokespecial ix, 3)) (x5 : decode rx 5 = .ok (.return_, 1))
    {X : String} (hX : Bundle.fit X = true) (h : ∀ w ∈ a_xc X ix rx, w.before args s = true) :
    ∃ (P1 : PassC) (Ps : List PassC), Ps.length = 2 ∧ P1.LinksS pl s ∧ (∀ P, P ∈ Ps → P.LinksS pl s) ∧ s.methodNamed? (Bundle.initS X) = some P1.m ∧
      P1.sup = firstOf top (Ps.map (·.toPassT)) ∧ PassesOn top (Ps.map (·.toPassT)) := by
  obtain ⟨P, L, hm, hs⟩ := PassC.ofS_atoms (args := args) (s := s) hpl (X := X) (Y := xRt) (Bundle.fit_spec hX).1 (by decide) x0 x1 x2 x5 (fun c hc => h c (List.mem_append_left _ hc))
  obtain ⟨P', Ps, hlen, L', hL, hm', hsup, hpass⟩ := Bundle.chainS (args := args) hpl htop ["java/lang/Exception"] xRt (by decide +kernel) (by decide +kernel) (fun c hc => h c (List.mem_append_right _ hc))
  refine ⟨P, P' :: Ps, by simp [hlen], L, ?_, hm, Option.some.inj (hs.symm.trans hm'), hsup, hpass⟩
  intro Q hQ
  rcases List.mem_cons.mp hQ with rfl | hQ
  · exact L'
  · exact hL Q hQ
section ATH
variable {p : Program} {l : Launch} {e : Env} {R : Room} {s : State} {m : MethodId} {args : Array Value} {below : List Frame} {meth : Method} {c : Code} {W9 : State} {locs : List Loc} {cells slots : Nat}
set_option maxHeartbeats 1000000 in
theorem a_ctor (X : Stand p l e R s m args below meth c W9 locs cells slots) (hexec : p.tables.exec = Jvm.exec) (htr : e.platform.stackTraces = false) {own cls : String} {ic ix : Nat} {rx : ByteArray}
    (x0 : decode rx 0 = .ok (.aload_n 0, 1)) (x1 : decode rx 1 = .ok (.aload_n 1, 1)) (x2 : decode rx 2 = .ok (.invokespecial ix, 3)) (x5 : decode rx 5 = .ok (.return_, 1))
    (hown : s.vm.findClass own = some m.cls) (hcls : Bundle.fit cls = true) (h : ∀ a ∈ a_xAll own ic cls ix rx, a.before args s = true)
    (hlocs : ∀ x ∈ locs, ∀ cell, s.heap[x.base]? = some cell → cell.vm.isStatics = false)
    {a : Addr} {cX : ClassId} {kX : Class} (hfoundX : s.vm.findClass cls = some cX) (hkX : s.vm.classes[cX]? = some kX) (hcell : W9.heap[a]? = some (freshCell cX kX)) (hnew : s.heap.size ≤ a)
    {msg : Value} (hmsg : msg.isRef = true)
    {g : JFrame} (hg : g.method = m) (hsize : g.locals.size = c.maxLocals) (hlocked : g.locked = none) (hentered : g.entered = []) {rest : List Value} (hstack : g.stack = msg :: .ref a :: .ref a :: rest)
    (hd6 : decode c.code g.pc = .ok (.invokespecial ic, 3)) (hd9 : decode c.code (g.pc + 3) = .ok (.athrow, 1)) (hout : ∀ x ∈ c.exceptionTable.toList, covers x (g.pc + 3) = false)
    (hRframes : 5 < R.frames) (hRlocals : 2 * g.monitorRoom + ((Value.ref a :: rest).map fun v => v.category).sum + 81 ≤ R.locals) (hlocks : meth.locks = false) :
    ∃ U : State, Steps p.tables e below (W9.setTop g) U ∧ U.status = .running ∧ Ended U below (.threw a) ∧ s.WarmedH U.vm ∧ s.sameButNew ({ U with vm := s.vm } : State) locs cells slots ∧
      ∃ ce, U.heap[a]? = some ce ∧ s.vm.findClass cls = some ce.cls ∧ ce.vm = .none := by
  have howns : e.platform.frameOwnsMonitors = true := by rw [X.admits.platform]
  have hfin : e.platform.finalization = false := by rw [X.admits.platform]
  have hpl : e.platform.magicAccessors = ({} : Platform).magicAccessors := by rw [X.admits.platform]
  have inT : ∀ x ∈ Bundle.throwableAtoms, x ∈ a_xAll own ic cls ix rx := fun x hx => List.mem_append_left _ hx
  have inS : ∀ x ∈ Bundle.throwableSAtoms, x ∈ a_xAll own ic cls ix rx := fun x hx => List.mem_append_right _ (List.mem_append_left _ hx)
  have inC : ∀ x ∈ a_xc cls ix rx, x ∈ a_xAll own ic cls ix rx := fun x hx => List.mem_append_right _ (List.mem_append_right _ (List.mem_append_left _ hx))
  have inR : ∀ x, x ∈ _ → x ∈ a_xAll own ic cls ix rx := fun x hx => List.mem_append_right _ (List.mem_append_right _ (List.mem_append_right _ hx))
  obtain ⟨T, Z0, L, -, Y⟩ := ThrowableC.of_atoms (args := args) howns hfin hpl (fun x hx => h x (inT x hx))
  obtain ⟨Z, M, LZ, LM, hnZ⟩ := Init0T.ofS_atoms (args := args) hpl L Y (fun x hx => h x (inS x hx))
  obtain ⟨P1, Ps, hlen, L1, hL, hP1m, hlink1, hlink⟩ := a_chain (args := args) hpl hnZ x0 x1 x2 x5 hcls (fun x hx => h x (inC x hx))
  have hfound : s.vm.findClass cls = some P1.m.cls := findClass_of_methodNamed hP1m
  cases Option.some.inj (hfoundX.symm.trans hfound)
  obtain ⟨c1, kX', hc1, hk, hord, -, -, hn6⟩ := Cond.instantiable_spec (h (.instantiable cls 6) (inR _ (by simp)))
  cases Option.some.inj (hc1.symm.trans hfound)
  cases Option.some.inj (hkX.symm.trans hk)
  have hsel0 : selectMethod e.platform s.vm P1.m.cls T.fill0 = .method T.fill0 := by
    obtain ⟨c2, r2, m2, q1, q2, q3, q4, -⟩ := Cond.selects_spec (h (.selects cls Bundle.tFill0 Bundle.tFill0) (inR _ (by simp)))
    cases Option.some.inj (q1.symm.trans hfound)
    cases Option.some.inj (q2.symm.trans (State.methodFound?_of_named Y.fill0 (by decide)))
    cases Option.some.inj (q3.symm.trans Y.fill0)
    rw [Launch.admits_selectMethod X.admits]; exact q4
  have hselF : selectMethod e.platform s.vm P1.m.cls T.fill = .method T.fill := by
    obtain ⟨c2, r2, m2, q1, q2, q3, q4, -⟩ := Cond.selects_spec (h (.selects cls Bundle.tFill Bundle.tFill) (inR _ (by simp)))
    cases Option.some.inj (q1.symm.trans hfound)
    cases Option.some.inj (q2.symm.trans (State.methodFound?_of_named Y.fill (by decide)))
    cases Option.some.inj (q3.symm.trans Y.fill)
    rw [Launch.admits_selectMethod X.admits]; exact q4
  obtain ⟨cellS0, hcS0, hiss⟩ := Y.statics
  obtain ⟨u0, hu0⟩ := Cond.staticRefV Y.unassigned L.unassignedStatic L.statics hcS0 hiss (h (.isRef (.static Bundle.tN "UNASSIGNED_STACK" Bundle.steD)) (inR _ (by simp)))
  obtain ⟨sen, hsen⟩ := Cond.staticRefV Y.sentinel L.sentinelStatic L.statics hcS0 hiss (h (.isRef (.static Bundle.tN "SUPPRESSED_SENTINEL" Bundle.listD)) (inR _ (by simp)))
  obtain ⟨ci198, i198, fB, hk198, hg198, ha198, hsB, -, hnB, htB, hffB⟩ := Cond.ownField (t := .object "java/lang/Object") Y.found L.cls (by decide +kernel) (h (.fieldLink Bundle.tN 198 Bundle.tN "backtrace" "Ljava/lang/Object;") (inR _ (by simp))) (h (.lays Bundle.tN Bundle.tN "backtrace" "Ljava/lang/Object;") (inR _ (by simp))) e.platform hpl
  obtain ⟨cellS, hcS', heS, -, hkeep⟩ := X.same.2.2.2.2.2 T.aS cellS0 hcS0
  have hcellS : W9.heap[T.aS]? = some cellS := hcS'
  have hout' : ∀ i, (⟨T.aS, i⟩ : Loc) ∉ locs := fun i hmem => by
    have := hlocs _ hmem cellS0 hcS0
    rw [hiss] at this; cases this
  have hknownS : cellS.vm ≠ .unknown := by
    rw [heS]; intro hu
    rw [show cellS0.vm = .unknown from hu] at hiss
    cases hiss
  have hneS : T.aS ≠ a := Nat.ne_of_lt (Nat.lt_of_lt_of_le (Array.getElem?_eq_some_iff.mp hcS0).1 hnew)
  obtain ⟨iM, hffM⟩ := Y.msg
  obtain ⟨tyC, dC, hdC, hdnC⟩ := Cond.laysAt hfound hk Y.cause (h (.lays cls Bundle.tN "cause" "Ljava/lang/Throwable;") (inR _ (by simp)))
  obtain ⟨tyS, dS, hdS, hdnS⟩ := Cond.laysAt hfound hk Y.stack (h (.lays cls Bundle.tN "stackTrace" Bundle.steD) (inR _ (by simp)))
  obtain ⟨tyP, dP, hdP, hdnP⟩ := Cond.laysAt hfound hk Y.supp (h (.lays cls Bundle.tN "suppressedExceptions" Bundle.listD) (inR _ (by simp)))
  obtain ⟨tyM, dM, hdM, hdnM⟩ := Cond.laysAt hfound hk hffM (h (.lays cls Bundle.tN "detailMessage" "Ljava/lang/String;") (inR _ (by simp)))
  obtain ⟨tyB, dB, hdB, hdnB⟩ := Cond.laysAt hfound hk hffB (h (.lays cls Bundle.tN "backtrace" "Ljava/lang/Object;") (inR _ (by simp)))
  have bC := Cond.laysApart hdB hdC hdnB hdnC (by rw [hnB, Y.causeName]; decide)
  have bS := Cond.laysApart hdB hdS hdnB hdnS (by rw [hnB, Y.stackName]; decide)
  have bP := Cond.laysApart hdB hdP hdnB hdnP (by rw [hnB, Y.suppName]; decide)
  have hskip : SkipFacts T e.platform s (fun u => u) u0 ((preparedCellV T.toThrowableT (freshCell P1.m.cls kX) a u0 sen).withEntry W9.cur) :=
    ⟨{ ci198 := ci198, i198 := i198, fBack := fB }, ⟨hk198, hg198, ha198, hsB⟩, by
      have := fresh_default (c := P1.m.cls) tyB
      rw [htB] at this
      simpa [preparedCellV, Cell.setSlot, Cell.withEntry, Array.getElem?_setIfInBounds, bC, bS, bP, bC.symm, bS.symm, bP.symm, defaultValue] using this, fun _ _ => rfl⟩
  obtain ⟨tm, methC, cdC, kC, vm₁, hnC, -, -, -, -, -, -, -, hW₁, st1⟩ := Steps.initColdS (tb := p.tables) (e := e) (below := below) (s := s) (U := W9) X.here hexec X.warmed hpl hown (t := Bundle.initS cls) rfl rfl (Bundle.fit_spec hcls).2
    (h (.methodLink own ic (Bundle.initS cls)) (inR _ (by simp))) (h (.instanceMethod (Bundle.initS cls)) (inC _ (List.mem_append_left _ (by simp [Bundle.passSAtoms])))) (bytes := rx) (maxL := 2) (h (.code (Bundle.initS cls) rx 2 none) (inC _ (List.mem_append_left _ (by simp [Bundle.passSAtoms]))))
    (f := g) hg (a := a) (msg := msg) (rest := .ref a :: rest) hstack hd6
  cases Option.some.inj (hnC.symm.trans hP1m)
  have X₁ := X.noted hW₁
  obtain ⟨vm₂, X₂, st2⟩ := X₁.ctorMessageOffV hexec (g := { g with stack := .ref a :: rest }) hg hsize T L Z LZ M LM (P1 :: Ps)
    (fun P hP => by rcases List.mem_cons.mp hP with rfl | hP; exact L1; exact hL P hP) ⟨hlink1, hlink⟩ (u0 := u0) (sen := sen) (self := a) hmsg (cell := freshCell P1.m.cls kX) (cellS := cellS)
    hcell (fun _ => by simp) (by simp) rfl rfl hsel0 hselF hcellS hneS hknownS (by rw [hkeep _ (hout' _)]; exact hu0) (by rw [hkeep _ (hout' _)]; exact hsen)
    (Takes.of_laid hk hord tyC (by rw [Y.causeType]; rfl)) (Takes.of_laid hk hord tyS (by rw [Y.stackType]; exact fits_refV_array _ u0)) (Takes.of_laid hk hord tyP (by rw [Y.suppType]; exact fits_refV_object _ sen))
    (Takes.of_laid hk hord tyM (by rw [Y.msgType]; exact fits_refV_object _ ⟨msg, hmsg⟩)) Y.objLocals hskip htr [] hd6
    (by simp only [List.length_cons, hlen]; omega) (by simp only [List.length_cons, hlen]; exact hRlocals)
  obtain ⟨hwalk, hrun, hended, hWU, hsame⟩ := X₂.athrowLeaves hexec (g := { g with stack := .ref a :: rest, pc := g.pc + 3 }) hg hlocked hentered hout (a := a) (rest := rest) rfl hd9
  have hlt : a < ((W9.setVm vm₁).setVm vm₂).heap.size := (Array.getElem?_eq_some_iff.mp hcell).1
  have hU := heapAt_setCell_self (s := (W9.setVm vm₁).setVm vm₂) (plainBareV T.toThrowableT (freshCell P1.m.cls kX) a u0 sen msg) hlt
  refine ⟨_, st1 _ (fun acts => ?_), hrun, hended, hWU, hsame.weaken (fun y hy hlt' => ?_) (Nat.le_refl _) (Nat.le_refl _), _, hU, hfound, rfl⟩
  · rw [doInvoke_state]
    exact st2 _ hwalk
  · rcases List.mem_append.mp hy with h1 | h1
    · exact h1
    · exfalso
      have hb : y.base = a := by
        simp only [List.mem_cons, List.not_mem_nil, or_false] at h1
        rcases h1 with rfl | rfl | rfl | rfl | rfl <;> rfl
      rw [hb] at hlt'
      exact Nat.not_lt.mpr hnew hlt'
variable {H : Heap} {Q : State → Prop} {free : Addr → Prop} {ls : Array Slot} {rest : List Value} {Qc : Array Value → State → Outcome → State → Prop} {XC : String → State → State → Prop}
/-- new; dup; ldc_w; invokespecial; athrow -/
theorem a_throwSW {cc : ByteArray} {pc : Nat} (hexec : p.tables.exec = Jvm.exec) (hb : c.code = cc) (hl : l.stackTraces = false) {own cls text : String} {ik is ic ix mc ms sa : Nat} {rx : ByteArray} {A : Nat → Prop}
    (x0 : decode rx 0 = .ok (.aload_n 0, 1)) (x1 : decode rx 1 = .ok (.aload_n 1, 1)) (x2 : decode rx 2 = .ok (.invokespecial ix, 3)) (x5 : decode rx 5 = .ok (.return_, 1))
    (hown : s.vm.findClass own = some m.cls) (hcls : Bundle.fit cls = true)
    (hk : (Cond.classLink own ik cls).before args s = true) (hini : (Cond.initialized cls).before args s = true) (hstr : vk_R own is text sa s) (hat : ∀ w ∈ (a_xAll own ic cls ix rx).filter vx_no, w.before args s = true)
    (hgood : ∀ w ∈ Cond.classLink own ik cls :: Cond.initialized cls :: (a_xAll own ic cls ix rx).filter vx_no, vx_ot w = true)
    (hU : vx_Zq Bundle.tN "UNASSIGNED_STACK" Bundle.steD A s s.heap) (hN : vx_Zq Bundle.tN "SUPPRESSED_SENTINEL" Bundle.listD A s s.heap) (hS : va_S A s.heap H locs) (hsize : ls.size = c.maxLocals)
    (d0 : decode cc pc = .ok (.new ik, 3)) (d3 : decode cc (pc + 3) = .ok (.dup, 1)) (d4 : decode cc (pc + 4) = .ok (.ldc_w is, 3)) (d7 : decode cc (pc + 7) = .ok (.invokespecial ic, 3)) (d10 : decode cc (pc + 10) = .ok (.athrow, 1))
    (hout : ∀ x ∈ c.exceptionTable.toList, covers x (pc + 10) = false)
    (hRframes : 5 < R.frames) (hRlocals : (rest.map fun v => v.category).sum + 82 ≤ R.locals) (hRcells : cells + 1 ≤ R.cells) (hRslots : slots + 6 ≤ R.slots) (hlocks : meth.locks = false)
    (hx : ∀ t : State, s.vm.Alike t.vm → H.size ≤ t.heap.size → (∀ q : Nat, q < H.size → t.heap[q]? = H[q]?) → XC cls s t)
    (hf : ∀ z ∈ locs, free z.base) (hc : cells + 1 ≤ mc) (hs : slots + 6 ≤ ms) :
    W p l e R s m args below meth c H locs cells slots (vx_MQ below Qc XC args s mc ms free) (F0 m pc ls rest) := by
  intro T hT X
  have htr : e.platform.stackTraces = false := (show e.platform.stackTraces = l.stackTraces by rw [X.admits.platform]).trans hl
  have Y := vx_rebase X (R' := { frames := R.frames, locals := R.locals, cells := 1, slots := 6 }) (Nat.le_refl _) (Nat.le_refl _) hRcells hRslots
  obtain ⟨s', hA⟩ : ∃ z, z = (T.setVm s.vm).setFrames (.invoking m args :: below) := ⟨_, rfl⟩
  rw [← hA] at Y
  have hvm : s'.vm = s.vm := by rw [hA]; rfl
  have hhp : s'.heap = H := by rw [hA]; exact hT
  have hW0 : s.WarmedH s'.vm := by rw [hvm]; exact State.WarmedH.refl s
  have hat' : ∀ w ∈ (a_xAll own ic cls ix rx).filter vx_no, w.before args s' = true := fun w hw => vx_ot_at hW0 hvm.symm (hgood w (List.mem_cons_of_mem _ (List.mem_cons_of_mem _ hw))) (hat w hw)
  have hk' : (Cond.classLink own ik cls).before args s' = true := vx_ot_at hW0 hvm.symm (hgood _ List.mem_cons_self) hk
  have hini' : (Cond.initialized cls).before args s' = true := vx_ot_at hW0 hvm.symm (hgood _ (List.mem_cons_of_mem _ List.mem_cons_self)) hini
  have hU' : vx_Zq Bundle.tN "UNASSIGNED_STACK" Bundle.steD A s' s'.heap := by rw [hhp]; exact vx_Zq.moved hW0.alike (hU.kept hS.2.1)
  have hN' : vx_Zq Bundle.tN "SUPPRESSED_SENTINEL" Bundle.listD A s' s'.heap := by rw [hhp]; exact vx_Zq.moved hW0.alike (hN.kept hS.2.1)
  have h : ∀ w ∈ a_xAll own ic cls ix rx, w.before args s' = true := vx_own hat' (vx_isRefq hU'.1) (vx_isRefq hN'.1) hU'.2.word hN'.2.word
  have hown' : s'.vm.findClass own = some m.cls := by rw [hvm]; exact hown
  have hins : (Cond.instantiable cls 6).before args s' = true := h _ (List.mem_append_right _ (List.mem_append_right _ (List.mem_append_right _ (by simp))))
  obtain ⟨vm₁, cX, kX, hfX, hkX, -, -, X₁, st1⟩ := Y.newCold hexec (own := own) (C := cls) (index := ik) (n := 6) hown' hk' hins hini'
    (g := F0 m pc ls rest) rfl (by rw [hb]; exact d0) (Nat.le_refl _) (Nat.le_refl _)
  generalize hT1 : (T.setVm vm₁).pushCell { cls := cX, slots := kX.instanceTypes.map defaultValue, vm := .none } = T1 at X₁ st1
  have hcat : (Value.ref T.heap.size).category = 1 := rfl
  have hcellA : T1.heap[T.heap.size]? = some (freshCell cX kX) := by rw [← hT1]; exact State.heap_pushCell_size _ _
  have d3' : decode c.code (pc + 3) = .ok (.dup, 1) := by rw [hb]; exact d3
  have d4' : decode c.code (pc + 4) = .ok (.ldc_w is, 3) := by rw [hb]; exact d4
  have hstr' : vk_R own is text sa s' := vk_R.warm hW0 hstr
  obtain ⟨U, hsteps, hrun, hend, hW, hsame, ce, hce, hcl', hvn⟩ := a_ctor X₁ hexec htr (own := own) (cls := cls) (ic := ic) x0 x1 x2 x5 hown' hcls h (fun x hx => nomatch hx) hfX hkX hcellA (by rw [hhp, hT]; exact Nat.le_refl _) (msg := .ref sa) rfl
    (g := { method := m, pc := pc + 7, locals := ls, stack := .ref sa :: .ref T.heap.size :: .ref T.heap.size :: rest, locked := none }) rfl hsize rfl rfl (rest := rest) rfl
    (by rw [hb]; exact d7) (by rw [hb]; exact d10) hout hRframes (by simp only [List.map_cons, List.sum_cons, hcat]; show 2 * 0 + _ + 81 ≤ _; omega) hlocks
  obtain ⟨f1, f2⟩ := vx_frame hsame
  rw [hhp] at f1 f2
  have hWs : s.WarmedH U.vm := State.WarmedH.trans hW0 hW
  have hcl : s.vm.findClass cls = some ce.cls := by
    have h9 := hcl'
    rw [hvm] at h9
    exact h9
  have hall : s.sameButNew ({ U with vm := s.vm } : State) locs mc ms := by
    subst hA
    obtain ⟨e1, e2⟩ := hsame
    rw [State.setFrames_setFrames] at e1
    have h2 : (T.setVm s.vm).sameButNew ({ U with vm := s.vm } : State) [] (0 + 1) (0 + 6) := ⟨e1, e2⟩
    have h3 := X.same.trans h2
    rw [List.append_nil] at h3
    exact h3.mono hc hs
  refine ⟨U, ?_, .threw T.heap.size, hrun, hend, Or.inr ⟨T.heap.size, rfl, cls, ce, locs, hx U hWs.alike f1 (fun q hq => f2 q hq (fun z hz => nomatch hz)), hce, hvn, hcl, hWs, hall, hf⟩⟩
  refine st1 _ ?_
  show Steps p.tables e below (T1.setTop { method := m, pc := pc + 3, locals := ls, stack := .ref T.heap.size :: rest, locked := none }) _
  jvm_step X₁.here [X₁.here.top, hexec, d3', Value.category]
  exact X₁.ldcStringW hexec (own := own) (text := text) (index := is) (a := sa) hown' hstr'.1 hstr'.2
    (g := { method := m, pc := pc + 4, locals := ls, stack := .ref T.heap.size :: .ref T.heap.size :: rest, locked := none }) rfl d4' _ hsteps
end ATH
end
section
/-! ===== the text constants: length, charAt ===== -/
def st_P (q v n : Nat) (bs : List Int32) (A : Nat → Prop) (U : State) : Prop := vk_S 1 [n] [bs] (fun _ => q) (fun _ => v) A U U.heap ∧ va_Z "java/lang/String" "COMPACT_STRINGS" "Z" (.int 1) A U U.heap ∧ va_Zq "jdk/internal/util/Preconditions" "SIOOBE_FORMATTER" "Ljava/util/function/BiFunction;" A U U.heap
def st_0 : Nat → Prop := fun _ => False
theorem st_F {s t : State} {H : Heap} (h : s.heap = H) (ht : t.heap = H) : va_F st_0 s t := ⟨by rw [ht, h]; exact Nat.le_refl _, fun q _ _ => by rw [ht, h]⟩
theorem st_P.go {q v n : Nat} {bs : List Int32} {A : Nat → Prop} {s U : State} (hU : U.heap = s.heap) (hW : s.WarmedH U.vm) (h : st_P q v n bs A s) : st_P q v n bs A U := by
  obtain ⟨h1, h2, h3⟩ := h
  unfold st_P
  rw [hU]
  exact ⟨vk_S.moved hW.alike h1, va_Z.moved hW.alike h2, va_Zq.moved hW.alike h3⟩
theorem st_blind {av : List Value} {P : State → Prop} (h : ∀ (U : State) (g : JFrame) (mk : MethodId) (a : Array Value), P U → P (U.calling g mk a)) : FrameBlind (va_Pc av P) := fun a U g mk q => ⟨q.1, h U g mk a q.2⟩
set_option maxHeartbeats 4000000 in
set_option maxRecDepth 100000 in
theorem c_coder (l : Launch) (q v n : Nat) (bs : List Int32) (A : Nat → Prop) : Met l yJ0_coder_7d493 wsJ0_coder_7d493 ({ frames := 0, cells := 0, slots := 0, locals := 0 }) (va_Pc [.ref q] (st_P q v n bs A)) (va_Qi (fun (r : Int32) (_ : Unit) => r = 0) (fun _ _ => True) st_0) 0 0 st_0 := by
  refine Met.ofW (cc := cJ0_coder_7d493) (maxL := 1) (ret := some .byte) (by decide) rfl ?_
  intro p e s m args below meth c s₁ B hml hv
  obtain ⟨rfl, hE, hZ, -⟩ := hv
  have hx := B.exec
  have hb := B.bytes
  have hr := B.returns
  have hts := atoms_spec (ws := wsJ0_coder_7d493) B.pre
  have hown : s.vm.findClass RJ0 = some m.cls := findClass_of_methodNamed B.named
  have hlocks := B.notSynchronized
  have hS : va_S A s.heap s.heap [] := va_S.rf
  have hl := lv_entry ([.ref q]) (n := 1) (Nat.le_of_ble_eq_true rfl)
  rw [lg_entry_eq]
  generalize (lg_sl ([.ref q]) ++ List.replicate (1 - (lg_sl ([.ref q])).length) Slot.unset).toArray = ls at hl ⊢
  have hl : lv_has ls 1 [(0, .ref q)] := hl
  refine va_gets hx hb hZ hS hown (hts (.fieldLink RJ0 38 "java/lang/String" "COMPACT_STRINGS" "Z") (by decide +kernel)) (fun _ h9 => h9) dJ0_coder_7d493_0 ?_
  refine lv_if_eq (tgt := 13) hx hb dJ0_coder_7d493_3 (by decide) (fun h => absurd h (by decide)) (fun _ => ?_)
  refine lv_aload_n hx hb dJ0_coder_7d493_6 rfl (lv_at hl 0 rfl) ?_
  refine vk_getf hx hb (hE.1 0 (by decide)).2.1 hS hown (hts (.fieldLink RJ0 15 "java/lang/String" "coder" "B") (by decide +kernel)) (fun _ h9 => h9) dJ0_coder_7d493_7 ?_
  refine lv_goto (tgt := 14) hx hb dJ0_coder_7d493_10 (by decide) ?_
  exact W.zret hx hb hr (by decide) (fun t ht _ => ⟨⟨0, (), rfl, rfl, trivial⟩, st_F rfl ht⟩) (fun _ h => nomatch h) dJ0_coder_7d493_14
set_option maxHeartbeats 4000000 in
set_option maxRecDepth 100000 in
theorem c_isl (l : Launch) (q v n : Nat) (bs : List Int32) (A : Nat → Prop) : Met l yJ0_isLatin1_aae02 wsJ0_isLatin1_aae02 ({ frames := 0, cells := 0, slots := 0, locals := 0 }) (va_Pc [.ref q] (st_P q v n bs A)) (va_Qi (fun (r : Int32) (_ : Unit) => r = 1) (fun _ _ => True) st_0) 0 0 st_0 := by
  refine Met.ofW (cc := cJ0_isLatin1_aae02) (maxL := 1) (ret := some .boolean) (by decide) rfl ?_
  intro p e s m args below meth c s₁ B hml hv
  obtain ⟨rfl, hE, hZ, -⟩ := hv
  have hx := B.exec
  have hb := B.bytes
  have hr := B.returns
  have hts := atoms_spec (ws := wsJ0_isLatin1_aae02) B.pre
  have hown : s.vm.findClass RJ0 = some m.cls := findClass_of_methodNamed B.named
  have hlocks := B.notSynchronized
  have hS : va_S A s.heap s.heap [] := va_S.rf
  have hl := lv_entry ([.ref q]) (n := 1) (Nat.le_of_ble_eq_true rfl)
  rw [lg_entry_eq]
  generalize (lg_sl ([.ref q]) ++ List.replicate (1 - (lg_sl ([.ref q])).length) Slot.unset).toArray = ls at hl ⊢
  have hl : lv_has ls 1 [(0, .ref q)] := hl
  refine va_gets hx hb hZ hS hown (hts (.fieldLink RJ0 38 "java/lang/String" "COMPACT_STRINGS" "Z") (by decide +kernel)) (fun _ h9 => h9) dJ0_isLatin1_aae02_0 ?_
  refine lv_if_eq (tgt := 17) hx hb dJ0_isLatin1_aae02_3 (by decide) (fun h => absurd h (by decide)) (fun _ => ?_)
  refine lv_aload_n hx hb dJ0_isLatin1_aae02_6 rfl (lv_at hl 0 rfl) ?_
  refine vk_getf hx hb (hE.1 0 (by decide)).2.1 hS hown (hts (.fieldLink RJ0 15 "java/lang/String" "coder" "B") (by decide +kernel)) (fun _ h9 => h9) dJ0_isLatin1_aae02_7 ?_
  refine lv_if_ne (tgt := 17) hx hb dJ0_isLatin1_aae02_10 (by decide) (fun h => absurd rfl h) (fun _ => ?_)
  refine lv_iconst (v := 1) hx hb dJ0_isLatin1_aae02_13 (by decide) ?_
  refine lv_goto (tgt := 18) hx hb dJ0_isLatin1_aae02_14 (by decide) ?_
  exact W.zret hx hb hr (by decide) (fun t ht _ => ⟨⟨1, (), rfl, rfl, trivial⟩, st_F rfl ht⟩) (fun _ h => nomatch h) dJ0_isLatin1_aae02_18
set_option maxHeartbeats 4000000 in
set_option maxRecDepth 100000 in
theorem c_slen (l : Launch) (q v n : Nat) (bs : List Int32) (A : Nat → Prop) : Met l yJ0_length_8abf5 wsJ0_length_8abf5 ({ frames := 1, cells := 0, slots := 0, locals := 24 }) (va_Pc [.ref q] (st_P q v n bs A)) (va_Qi (fun (r : Int32) (_ : Unit) => r = Int32.ofNat n) (fun _ _ => True) st_0) 0 0 st_0 := by
  refine Met.ofW (cc := cJ0_length_8abf5) (maxL := 1) (ret := some .int) (by decide) rfl ?_
  intro p e s m args below meth c s₁ B hml hv
  obtain ⟨rfl, hE, hZ, hq⟩ := hv
  have hx := B.exec
  have hb := B.bytes
  have hr := B.returns
  have hts := atoms_spec (ws := wsJ0_length_8abf5) B.pre
  have hown : s.vm.findClass RJ0 = some m.cls := findClass_of_methodNamed B.named
  have hlocks := B.notSynchronized
  have hS : va_S A s.heap s.heap [] := va_S.rf
  have hS0 : va_S st_0 s.heap s.heap [] := va_S.rf
  have hl := lv_entry ([.ref q]) (n := 1) (Nat.le_of_ble_eq_true rfl)
  rw [lg_entry_eq]
  generalize (lg_sl ([.ref q]) ++ List.replicate (1 - (lg_sl ([.ref q])).length) Slot.unset).toArray = ls at hl ⊢
  have hl : lv_has ls 1 [(0, .ref q)] := hl
  refine lv_aload_n hx hb dJ0_length_8abf5_0 rfl (lv_at hl 0 rfl) ?_
  refine vk_getf hx hb (hE.1 0 (by decide)).2.2.1 hS hown (hts (.fieldLink RJ0 9 "java/lang/String" "value" "[B") (by decide +kernel)) (fun _ h9 => h9) dJ0_length_8abf5_1 ?_
  refine va_tlen hx hb (hE.1 0 (by decide)).2.2.2 hS rfl dJ0_length_8abf5_4 ?_
  refine lv_aload_n hx hb dJ0_length_8abf5_5 rfl (lv_at hl 0 rfl) ?_
  refine va_calli (va_runV (As := []) (rest := [.int (Int32.ofNat n)]) ⟨hx, hb, hml, hown, hts⟩ (c_coder l q v n bs A) (cwV 0 hts gJ0_length_8abf5_J0_coder_7d493 rfl rfl rfl (by decide +kernel) ⟨Nat.le_of_ble_eq_true rfl, Nat.le_of_ble_eq_true rfl⟩)
    ⟨st_blind fun U g mk a h => st_P.go rfl (State.WarmedH.refl U) h, vk_recv (i := 0) hE (by decide) hS, fun U hU hW => ⟨rfl, st_P.go hU hW ⟨hE, hZ, hq⟩⟩⟩ rfl rfl hl.1 rfl (lv_room (Nat.le_of_ble_eq_true rfl)) dJ0_length_8abf5_6 ⟨Nat.zero_le _, Nat.zero_le _⟩) hS0 (fun _ _ h => h.elim) (fun _ h => h.elim)
    (fun r u t H1 locs ht hvm hw hB hz1 hk1 hS1 => ?_)
  refine lv_ishr hx hb dJ0_length_8abf5_9 ?_
  have e1 : (Int32.ofNat n) >>> (r &&& 31) = Int32.ofNat n := by rw [show r = 0 from hw]; exact sb_shr0 _
  rw [e1]
  exact W.iret hx hb hr (fun t2 ht2 _ => ⟨⟨_, (), rfl, rfl, trivial⟩, hS1.F ht2⟩) hS1.2.2 dJ0_length_8abf5_10
set_option maxHeartbeats 4000000 in
set_option maxRecDepth 100000 in
theorem c_pre (l : Launch) (i n : Int32) (z : Option Nat) (h0 : ¬ i < 0) (h1 : i < n) : Met l yJ3_checkIndex_8e157 wsJ3_checkIndex_8e157 ({ frames := 0, cells := 0, slots := 0, locals := 0 }) (va_Pc [.int i, .int n, va_rf z] (fun _ => True)) (va_Qi (fun (r : Int32) (_ : Unit) => r = i) (fun _ _ => True) st_0) 0 0 st_0 := by
  refine Met.ofW (cc := cJ3_checkIndex_8e157) (maxL := 3) (ret := some .int) (by decide) rfl ?_
  intro p e s m args below meth c s₁ B hml hv
  obtain ⟨rfl, -⟩ := hv
  have hx := B.exec
  have hb := B.bytes
  have hr := B.returns
  have hlocks := B.notSynchronized
  have hlen : (lg_sl ([.int i, .int n, va_rf z])).length ≤ 3 := by cases z <;> exact Nat.le_of_ble_eq_true rfl
  have hl := lv_entry ([.int i, .int n, va_rf z]) (n := 3) hlen
  rw [lg_entry_eq]
  generalize (lg_sl ([.int i, .int n, va_rf z]) ++ List.replicate (3 - (lg_sl ([.int i, .int n, va_rf z])).length) Slot.unset).toArray = ls at hl ⊢
  have hl : lv_has ls 3 [(0, .int i), (1, .int n), (2, va_rf z)] := hl
  refine lv_iload_n hx hb dJ3_checkIndex_8e157_0 rfl (lv_at hl 0 rfl) ?_
  refine lv_if_lt (tgt := 9) hx hb dJ3_checkIndex_8e157_1 (by decide) (fun h => absurd h h0) (fun _ => ?_)
  refine lv_iload_n hx hb dJ3_checkIndex_8e157_4 rfl (lv_at hl 0 rfl) ?_
  refine lv_iload_n hx hb dJ3_checkIndex_8e157_5 rfl (lv_at hl 1 rfl) ?_
  refine lv_icmp_lt (tgt := 16) hx hb dJ3_checkIndex_8e157_6 (by decide) (fun _ => ?_) (fun h => absurd h1 h)
  refine lv_iload_n hx hb dJ3_checkIndex_8e157_16 rfl (lv_at hl 0 rfl) ?_
  exact W.iret hx hb hr (fun t2 ht2 _ => ⟨⟨_, (), rfl, rfl, trivial⟩, st_F rfl ht2⟩) (fun _ h => nomatch h) dJ3_checkIndex_8e157_17
set_option maxHeartbeats 4000000 in
set_option maxRecDepth 100000 in
theorem c_chk (l : Launch) (i n : Int32) (A : Nat → Prop) (h0 : ¬ i < 0) (h1 : i < n) : Met l yJ0_checkIndex_df160 wsJ0_checkIndex_df160 ({ frames := 1, cells := 0, slots := 0, locals := 24 }) (va_Pc [.int i, .int n] (fun U => va_Zq "jdk/internal/util/Preconditions" "SIOOBE_FORMATTER" "Ljava/util/function/BiFunction;" A U U.heap)) (va_Qv (fun (_ : Unit) => True) (fun _ _ => True) st_0) 0 0 st_0 := by
  refine Met.ofW (cc := cJ0_checkIndex_df160) (maxL := 2) (ret := none) (by decide) rfl ?_
  intro p e s m args below meth c s₁ B hml hv
  obtain ⟨rfl, hq⟩ := hv
  have hx := B.exec
  have hb := B.bytes
  have hr := B.returns
  have hts := atoms_spec (ws := wsJ0_checkIndex_df160) B.pre
  have hown : s.vm.findClass RJ0 = some m.cls := findClass_of_methodNamed B.named
  have hlocks := B.notSynchronized
  have hS : va_S A s.heap s.heap [] := va_S.rf
  have hS0 : va_S st_0 s.heap s.heap [] := va_S.rf
  have hl := lv_entry ([.int i, .int n]) (n := 2) (Nat.le_of_ble_eq_true rfl)
  rw [lg_entry_eq]
  generalize (lg_sl ([.int i, .int n]) ++ List.replicate (2 - (lg_sl ([.int i, .int n])).length) Slot.unset).toArray = ls at hl ⊢
  have hl : lv_has ls 2 [(0, .int i), (1, .int n)] := hl
  refine lv_iload_n hx hb dJ0_checkIndex_df160_0 rfl (lv_at hl 0 rfl) ?_
  refine lv_iload_n hx hb dJ0_checkIndex_df160_1 rfl (lv_at hl 1 rfl) ?_
  have key : ∀ z : Option Nat, W p l e (headSpec wsJ0_checkIndex_df160 ({ frames := 1, cells := 0, slots := 0, locals := 24 })).room s m #[.int i, .int n] below meth c s.heap [] 0 0 (MQ below (va_Qv (fun (_ : Unit) => True) (fun _ _ => True) st_0) #[.int i, .int n] s 0 0 st_0) (F0 m 5 ls (va_rf z :: .int n :: .int i :: [])) := by
    intro z
    refine va_calli (va_runS (As := [.int i, .int n, va_rf z]) (rest := []) ⟨hx, hb, hml, hown, hts⟩ (c_pre l i n z h0 h1) (va_cwS 3 hts gJ0_checkIndex_df160_J3_checkIndex_8e157 rfl rfl rfl (by decide +kernel) ⟨Nat.le_of_ble_eq_true rfl, Nat.le_of_ble_eq_true rfl⟩)
      ⟨st_blind fun U g mk a h => h, fun U hU hW => ⟨rfl, trivial⟩⟩ rfl rfl hl.1 rfl (lv_room (Nat.le_of_ble_eq_true rfl)) dJ0_checkIndex_df160_5 ⟨Nat.zero_le _, Nat.zero_le _⟩) hS0 (fun _ _ h => h.elim) (fun _ h => h.elim)
      (fun r u t H1 locs ht hvm hw hB hz1 hk1 hS1 => ?_)
    refine lv_pop hx hb dJ0_checkIndex_df160_8 rfl ?_
    exact W.vret hx hb hr (fun t2 ht2 _ => ⟨⟨(), rfl, trivial, trivial⟩, hS1.F ht2⟩) hS1.2.2 dJ0_checkIndex_df160_9
  rcases hq with hq | ⟨z, hq⟩
  · exact va_gets hx hb hq hS hown (hts (.fieldLink RJ0 1053 "jdk/internal/util/Preconditions" "SIOOBE_FORMATTER" "Ljava/util/function/BiFunction;") (by decide +kernel)) (fun _ h9 => h9) dJ0_checkIndex_df160_2 (key none)
  · exact va_gets hx hb hq hS hown (hts (.fieldLink RJ0 1053 "jdk/internal/util/Preconditions" "SIOOBE_FORMATTER" "Ljava/util/function/BiFunction;") (by decide +kernel)) (fun _ h9 => h9) dJ0_checkIndex_df160_2 (key (some z))
theorem st_lt {i : Int32} {n : Nat} (h : vp_in i n) (hn : n < 2 ^ 31) : ¬ i < 0 ∧ i < Int32.ofNat n := by
  obtain ⟨j, hj, rfl⟩ := vp_in_of h hn
  exact ⟨nI_pos (by omega), nI_lt hj hn⟩
set_option maxHeartbeats 4000000 in
set_option maxRecDepth 100000 in
theorem c_lat (l : Launch) (q v n : Nat) (bs : List Int32) (A : Nat → Prop) (i : Int32) (hi : vp_in i n) (hn : n < 2 ^ 31) : Met l yJ1_charAt_3b067 wsJ1_charAt_3b067 ({ frames := 2, cells := 0, slots := 0, locals := 48 }) (va_Pc [.ref v, .int i] (st_P q v n bs A)) (va_Qi (fun (r : Int32) (_ : Unit) => r = bs.getD i.toNatClampNeg 0 &&& 255) (fun _ _ => True) st_0) 0 0 st_0 := by
  refine Met.ofW (cc := cJ1_charAt_3b067) (maxL := 2) (ret := some .char) (by decide) rfl ?_
  intro p e s m args below meth c s₁ B hml hv
  obtain ⟨rfl, hE, hZ, hq⟩ := hv
  have hx := B.exec
  have hb := B.bytes
  have hr := B.returns
  have hts := atoms_spec (ws := wsJ1_charAt_3b067) B.pre
  have hown : s.vm.findClass RJ1 = some m.cls := findClass_of_methodNamed B.named
  have hlocks := B.notSynchronized
  have hS : va_S A s.heap s.heap [] := va_S.rf
  have hS0 : va_S st_0 s.heap s.heap [] := va_S.rf
  have hl := lv_entry ([.ref v, .int i]) (n := 2) (Nat.le_of_ble_eq_true rfl)
  rw [lg_entry_eq]
  generalize (lg_sl ([.ref v, .int i]) ++ List.replicate (2 - (lg_sl ([.ref v, .int i])).length) Slot.unset).toArray = ls at hl ⊢
  have hl : lv_has ls 2 [(0, .ref v), (1, .int i)] := hl
  obtain ⟨g0, g1⟩ := st_lt hi hn
  refine lv_iload_n hx hb dJ1_charAt_3b067_0 rfl (lv_at hl 1 rfl) ?_
  refine lv_aload_n hx hb dJ1_charAt_3b067_1 rfl (lv_at hl 0 rfl) ?_
  refine va_tlen hx hb (hE.1 0 (by decide)).2.2.2 hS rfl dJ1_charAt_3b067_2 ?_
  refine va_callv (va_runS (As := [.int i, .int (Int32.ofNat n)]) (rest := []) ⟨hx, hb, hml, hown, hts⟩ (c_chk l i (Int32.ofNat n) A g0 g1) (va_cwS 2 hts gJ1_charAt_3b067_J0_checkIndex_df160 rfl rfl rfl (by decide +kernel) ⟨Nat.le_of_ble_eq_true rfl, Nat.le_of_ble_eq_true rfl⟩)
    ⟨st_blind fun U g mk a h => h, fun U hU hW => ⟨rfl, by show va_Zq _ _ _ A U U.heap; rw [hU]; exact va_Zq.moved hW.alike hq⟩⟩ rfl rfl hl.1 rfl (lv_room (Nat.le_of_ble_eq_true rfl)) dJ1_charAt_3b067_3 ⟨Nat.zero_le _, Nat.zero_le _⟩) hS0 (fun _ _ h => h.elim) (fun _ h => h.elim)
    (fun u t H1 locs ht hvm hw hB hz1 hk1 hS1 => ?_)
  have hT : va_S A s.heap H1 [] := ⟨hS1.1, fun q9 h1 _ => hS1.2.1 q9 h1 (fun h => h.elim), fun _ h => nomatch h⟩
  refine lv_aload_n hx hb dJ1_charAt_3b067_6 rfl (lv_at hl 0 rfl) ?_
  refine lv_iload_n hx hb dJ1_charAt_3b067_7 rfl (lv_at hl 1 rfl) ?_
  have hT2 : va_S A s.heap H1 locs := ⟨hS1.1, fun q9 h1 _ => hS1.2.1 q9 h1 (fun h => h.elim), fun z h => (hS1.2.2 z h).elim⟩
  refine va_tb hx hb (hE.1 0 (by decide)).2.2.2 hT2 hi rfl dJ1_charAt_3b067_8 ?_
  refine lv_sipush (v := 255) hx hb dJ1_charAt_3b067_9 (by decide) ?_
  refine lv_iand hx hb dJ1_charAt_3b067_12 ?_
  refine lv_i2c hx hb dJ1_charAt_3b067_13 rfl ?_
  rw [sc_c2]
  exact W.zret hx hb hr (sc_nar _) (fun t2 ht2 _ => ⟨⟨_, (), rfl, rfl, trivial⟩, hS1.F ht2⟩) hS1.2.2 dJ1_charAt_3b067_14
set_option maxHeartbeats 4000000 in
set_option maxRecDepth 100000 in
theorem c_sch (l : Launch) (q v n : Nat) (bs : List Int32) (A : Nat → Prop) (i : Int32) (hi : vp_in i n) (hn : n < 2 ^ 31) : Met l yJ0_charAt_5068e wsJ0_charAt_5068e ({ frames := 3, cells := 0, slots := 0, locals := 72 }) (va_Pc [.ref q, .int i] (st_P q v n bs A)) (va_Qi (fun (r : Int32) (_ : Unit) => r = bs.getD i.toNatClampNeg 0 &&& 255) (fun _ _ => True) st_0) 0 0 st_0 := by
  refine Met.ofW (cc := cJ0_charAt_5068e) (maxL := 2) (ret := some .char) (by decide) rfl ?_
  intro p e s m args below meth c s₁ B hml hv
  obtain ⟨rfl, hE, hZ, hq⟩ := hv
  have hx := B.exec
  have hb := B.bytes
  have hr := B.returns
  have hts := atoms_spec (ws := wsJ0_charAt_5068e) B.pre
  have hown : s.vm.findClass RJ0 = some m.cls := findClass_of_methodNamed B.named
  have hlocks := B.notSynchronized
  have hS : va_S A s.heap s.heap [] := va_S.rf
  have hS0 : va_S st_0 s.heap s.heap [] := va_S.rf
  have hl := lv_entry ([.ref q, .int i]) (n := 2) (Nat.le_of_ble_eq_true rfl)
  rw [lg_entry_eq]
  generalize (lg_sl ([.ref q, .int i]) ++ List.replicate (2 - (lg_sl ([.ref q, .int i])).length) Slot.unset).toArray = ls at hl ⊢
  have hl : lv_has ls 2 [(0, .ref q), (1, .int i)] := hl
  refine lv_aload_n hx hb dJ0_charAt_5068e_0 rfl (lv_at hl 0 rfl) ?_
  refine va_calli (va_runV (As := []) (rest := []) ⟨hx, hb, hml, hown, hts⟩ (c_isl l q v n bs A) (cwV 0 hts gJ0_charAt_5068e_J0_isLatin1_aae02 rfl rfl rfl (by decide +kernel) ⟨Nat.le_of_ble_eq_true rfl, Nat.le_of_ble_eq_true rfl⟩)
    ⟨st_blind fun U g mk a h => st_P.go rfl (State.WarmedH.refl U) h, vk_recv (i := 0) hE (by decide) hS, fun U hU hW => ⟨rfl, st_P.go hU hW ⟨hE, hZ, hq⟩⟩⟩ rfl rfl hl.1 rfl (lv_room (Nat.le_of_ble_eq_true rfl)) dJ0_charAt_5068e_1 ⟨Nat.zero_le _, Nat.zero_le _⟩) hS0 (fun _ _ h => h.elim) (fun _ h => h.elim)
    (fun r u t H1 locs ht hvm hw hB hz1 hk1 hS1 => ?_)
  have hT : va_S A s.heap H1 locs := ⟨hS1.1, fun q9 h1 _ => hS1.2.1 q9 h1 (fun h => h.elim), fun z h => (hS1.2.2 z h).elim⟩
  refine lv_if_eq (tgt := 16) hx hb dJ0_charAt_5068e_4 (by decide) (fun h => absurd (h.symm.trans hw) (by decide)) (fun _ => ?_)
  refine lv_aload_n hx hb dJ0_charAt_5068e_7 rfl (lv_at hl 0 rfl) ?_
  refine vk_getf hx hb (hE.1 0 (by decide)).2.2.1 hT hown (hts (.fieldLink RJ0 9 "java/lang/String" "value" "[B") (by decide +kernel)) (fun _ h9 => h9) dJ0_charAt_5068e_8 ?_
  refine lv_iload_n hx hb dJ0_charAt_5068e_11 rfl (lv_at hl 1 rfl) ?_
  have hH : ∀ q9 : Nat, q9 < s.heap.size → H1[q9]? = s.heap[q9]? := fun q9 h1 => hS1.2.1 q9 h1 (fun h => h.elim)
  refine va_calli (va_runS (As := [.ref v, .int i]) (rest := []) ⟨hx, hb, hml, hown, hts⟩ (c_lat l q v n bs A i hi hn) (va_cwS 2 hts gJ0_charAt_5068e_J1_charAt_3b067 rfl rfl rfl (by decide +kernel) ⟨Nat.le_of_ble_eq_true rfl, Nat.le_of_ble_eq_true rfl⟩)
    ⟨st_blind fun U g mk a h => st_P.go rfl (State.WarmedH.refl U) h, fun U hU hW => ⟨rfl, by
      unfold st_P
      rw [hU]
      exact ⟨(vk_S.moved hW.alike hE).kept (fun q9 h1 _ => hH q9 h1), (va_Z.moved hW.alike hZ).kept (fun q9 h1 _ => hH q9 h1), (va_Zq.moved hW.alike hq).kept (fun q9 h1 _ => hH q9 h1)⟩⟩⟩ rfl rfl hl.1 rfl (lv_room (Nat.le_of_ble_eq_true rfl)) dJ0_charAt_5068e_12 ⟨Nat.zero_le _, Nat.zero_le _⟩) hS1 (fun _ _ h => h.elim) (fun _ h => h.elim)
    (fun r2 u2 t2 H2 locs2 ht2 hvm2 hw2 hB2 hz2 hk2 hS2 => ?_)
  rw [hw2]
  exact W.zret hx hb hr (sc_nar _) (fun t3 ht3 _ => ⟨⟨_, (), rfl, rfl, trivial⟩, hS2.F ht3⟩) hS2.2.2 dJ0_charAt_5068e_15
end
section
/-! ===== each instruction of the abstract machine is a step of the real one ===== -/
theorem a_kc {n : Nat} {v : Value} {r : List Value} (hv : a_rk n v) (hr : ∀ u ∈ r, a_rk n u) : ∀ u ∈ v :: r, a_rk n u := fun u hu => (List.mem_cons.mp hu).elim (fun e => by rw [e]; exact hv) (hr u)
theorem a_tl {n : Nat} {v : Value} {r : List Value} (h : ∀ u ∈ v :: r, a_rk n u) : ∀ u ∈ r, a_rk n u := fun u hu => h u (List.mem_cons_of_mem _ hu)
theorem a_hd {n : Nat} {v : Value} {r : List Value} (h : ∀ u ∈ v :: r, a_rk n u) : a_rk n v := h v List.mem_cons_self
theorem nx_inl {pc : Nat} {ls : AL} {st : List Value} {w : AW} {N : AN} (h : a_nx pc ls st w = some N) : N = (pc, ls, st, w, 0, 0) := (Option.some.inj h).symm
theorem to_inl {pc : Nat} {off : Int} {ls : AL} {st : List Value} {w : AW} {N : AN} (h : a_to pc off ls st w = some N) : ∃ t : Nat, (pc : Int) + off = (t : Int) ∧ N = (t, ls, st, w, 0, 0) := by
  unfold a_to at h
  split at h
  · rename_i h0
    exact ⟨((pc : Int) + off).toNat, (Int.toNat_of_nonneg h0).symm, nx_inl h⟩
  · cases h
theorem jmp_inl {q : Prop} [Decidable q] {pc : Nat} {off : Int} {ls : AL} {st : List Value} {w : AW} {N : AN} (h : a_jmp q pc off ls st w = some N) : ∃ t : Nat, (pc : Int) + off = (t : Int) ∧ ((q ∧ N = (t, ls, st, w, 0, 0)) ∨ (¬ q ∧ N = (pc + 3, ls, st, w, 0, 0))) := by
  unfold a_jmp at h
  split at h
  · rename_i h0
    refine ⟨((pc : Int) + off).toNat, (Int.toNat_of_nonneg h0).symm, ?_⟩
    split at h
    · rename_i h1
      exact Or.inl ⟨h1, nx_inl h⟩
    · rename_i h1
      exact Or.inr ⟨h1, nx_inl h⟩
  · cases h
theorem i1_inl {f : Int32 → Int32} {pc : Nat} {ls : AL} {st : List Value} {w : AW} {N : AN} (h : a_i1 f pc ls st w = some N) : ∃ (x : Int32) (r : List Value), st = .int x :: r ∧ N = (pc + 1, ls, .int (f x) :: r, w, 0, 0) := by
  unfold a_i1 at h
  split at h
  · exact ⟨_, _, rfl, nx_inl h⟩
  · cases h
theorem i2_inl {f : Int32 → Int32 → Int32} {pc : Nat} {ls : AL} {st : List Value} {w : AW} {N : AN} (h : a_i2 f pc ls st w = some N) : ∃ (x y : Int32) (r : List Value), st = .int y :: .int x :: r ∧ N = (pc + 1, ls, .int (f x y) :: r, w, 0, 0) := by
  unfold a_i2 at h
  split at h
  · exact ⟨_, _, _, rfl, nx_inl h⟩
  · cases h
theorem i2z_inl {f : Int32 → Int32 → Int32} {pc : Nat} {ls : AL} {st : List Value} {w : AW} {N : AN} (h : a_i2z f pc ls st w = some N) : ∃ (x y : Int32) (r : List Value), st = .int y :: .int x :: r ∧ ¬ y = 0 ∧ N = (pc + 1, ls, .int (f x y) :: r, w, 0, 0) := by
  unfold a_i2z at h
  split at h
  · split at h
    · cases h
    · rename_i h0
      exact ⟨_, _, _, rfl, h0, nx_inl h⟩
  · cases h
theorem l2_inl {f : Int64 → Int64 → Int64} {pc : Nat} {ls : AL} {st : List Value} {w : AW} {N : AN} (h : a_l2 f pc ls st w = some N) : ∃ (x y : Int64) (r : List Value), st = .long y :: .long x :: r ∧ N = (pc + 1, ls, .long (f x y) :: r, w, 0, 0) := by
  unfold a_l2 at h
  split at h
  · exact ⟨_, _, _, rfl, nx_inl h⟩
  · cases h
theorem l2z_inl {f : Int64 → Int64 → Int64} {pc : Nat} {ls : AL} {st : List Value} {w : AW} {N : AN} (h : a_l2z f pc ls st w = some N) : ∃ (x y : Int64) (r : List Value), st = .long y :: .long x :: r ∧ ¬ y = 0 ∧ N = (pc + 1, ls, .long (f x y) :: r, w, 0, 0) := by
  unfold a_l2z at h
  split at h
  · split at h
    · cases h
    · rename_i h0
      exact ⟨_, _, _, rfl, h0, nx_inl h⟩
  · cases h
abbrev a_Go (adK : Nat → Nat) (b : Nat) (D : va_G) (cA : Nat → ClassId) (A : Nat → Prop) (p : Program) (l : Launch) (e : Env) (R : Room) (s : State) (m : MethodId) (args : Array Value) (below : List Frame) (meth : Method) (c : Code) (Q : State → Prop) (k : Nat) (θ : Nat → Nat) (w : AW) (nc ns : Nat) (N : AN) : Prop :=
  ∀ (θ' : Nat → Nat) (H' : Heap) (locs' : List Loc) (sl' : Array Slot), a_ex w.length θ θ' → a_I D cA adK b A s H' locs' θ' N.2.2.2.1 → a_F θ' N.2.2.2.1 (mX k) sl' N.2.1 N.2.2.1 → W p l e R s m args below meth c H' locs' (nc + N.2.2.2.2.1) (ns + N.2.2.2.2.2) Q (F0 m N.1 sl' (N.2.2.1.map (a_V θ')))
section AINS
variable {p : Program} {l : Launch} {e : Env} {R : Room} {s : State} {m : MethodId} {args : Array Value} {below : List Frame} {meth : Method} {c : Code} {H : Heap} {locs : List Loc} {Q : State → Prop}
variable {adK adV : Nat → Nat} {b : Nat} {sc : List Int32} {D : va_G} {cA : Nat → ClassId} {A : Nat → Prop} {θ : Nat → Nat} {w : AW} {ls : AL} {st : List Value} {sl : Array Slot} {d k pc len nc ns : Nat} {N : AN}
theorem a_X.kN (hX : a_X adK adV b sc D cA A p l R s m args meth c d k) : k < mN := hX.2.2.2.2.2.2.2.2.2.2
theorem a_X.kc (hX : a_X adK adV b sc D cA A p l R s m args meth c d k) : mK k < 10 := (mPb_f hX.kN).2.2.2.2.2.2.1
theorem a_X.K (hX : a_X adK adV b sc D cA A p l R s m args meth c d k) : va_K D vwCl (a_ty cA) s := hX.2.2.2.2.2.1
theorem a_X.E (hX : a_X adK adV b sc D cA A p l R s m args meth c d k) : a_Env adK adV b sc A s s.heap := hX.2.2.2.2.2.2.1
theorem a_X.aA (hX : a_X adK adV b sc D cA A p l R s m args meth c d k) : ∀ q : Nat, s.heap.size ≤ q → A q := hX.2.2.2.2.2.2.2.1
theorem a_X.f (hX : a_X adK adV b sc D cA A p l R s m args meth c d k) : d ≤ R.frames := hX.2.2.2.2.2.2.2.2.1
theorem a_X.lo (hX : a_X adK adV b sc D cA A p l R s m args meth c d k) : a_lo d ≤ R.locals := hX.2.2.2.2.2.2.2.2.2.1
theorem s_iconst (hX : a_X adK adV b sc D cA A p l R s m args meth c d k) (hI : a_I D cA adK b A s H locs θ w) (hF : a_F θ w (mX k) sl ls st) {n : Int} (hd : a_lk (mC k) pc = some (.iconst n, len)) (h0 : ins sc d k pc ls st w (.iconst n) = some N) (hr : nc + N.2.2.2.2.1 ≤ R.cells ∧ ns + N.2.2.2.2.2 ≤ R.slots) (K : a_Go adK b D cA A p l e R s m args below meth c Q k θ w nc ns N) : W p l e R s m args below meth c H locs nc ns Q (F0 m pc sl (st.map (a_V θ))) := by
  obtain ⟨⟨hx, hb, hml, hown, hts⟩, -⟩ := id hX
  have h := nx_inl h0
  subst h
  exact lv_iconst hx hb (a_dec1 hX.kN hd rfl) rfl (K θ H locs sl a_ex_rf hI (hF.st (a_kc (a_rk_int _) hF.2.2)))
theorem s_bipush (hX : a_X adK adV b sc D cA A p l R s m args meth c d k) (hI : a_I D cA adK b A s H locs θ w) (hF : a_F θ w (mX k) sl ls st) {n : Int} (hd : a_lk (mC k) pc = some (.bipush n, len)) (h0 : ins sc d k pc ls st w (.bipush n) = some N) (hr : nc + N.2.2.2.2.1 ≤ R.cells ∧ ns + N.2.2.2.2.2 ≤ R.slots) (K : a_Go adK b D cA A p l e R s m args below meth c Q k θ w nc ns N) : W p l e R s m args below meth c H locs nc ns Q (F0 m pc sl (st.map (a_V θ))) := by
  obtain ⟨⟨hx, hb, hml, hown, hts⟩, -⟩ := id hX
  have h := nx_inl h0
  subst h
  exact lv_bipush hx hb (a_dec1 hX.kN hd rfl) rfl (K θ H locs sl a_ex_rf hI (hF.st (a_kc (a_rk_int _) hF.2.2)))
theorem s_sipush (hX : a_X adK adV b sc D cA A p l R s m args meth c d k) (hI : a_I D cA adK b A s H locs θ w) (hF : a_F θ w (mX k) sl ls st) {n : Int} (hd : a_lk (mC k) pc = some (.sipush n, len)) (h0 : ins sc d k pc ls st w (.sipush n) = some N) (hr : nc + N.2.2.2.2.1 ≤ R.cells ∧ ns + N.2.2.2.2.2 ≤ R.slots) (K : a_Go adK b D cA A p l e R s m args below meth c Q k θ w nc ns N) : W p l e R s m args below meth c H locs nc ns Q (F0 m pc sl (st.map (a_V θ))) := by
  obtain ⟨⟨hx, hb, hml, hown, hts⟩, -⟩ := id hX
  have h := nx_inl h0
  subst h
  exact lv_sipush hx hb (a_dec1 hX.kN hd rfl) rfl (K θ H locs sl a_ex_rf hI (hF.st (a_kc (a_rk_int _) hF.2.2)))
theorem s_lconst (hX : a_X adK adV b sc D cA A p l R s m args meth c d k) (hI : a_I D cA adK b A s H locs θ w) (hF : a_F θ w (mX k) sl ls st) {n : Fin 2} (hd : a_lk (mC k) pc = some (.lconst n, len)) (h0 : ins sc d k pc ls st w (.lconst n) = some N) (hr : nc + N.2.2.2.2.1 ≤ R.cells ∧ ns + N.2.2.2.2.2 ≤ R.slots) (K : a_Go adK b D cA A p l e R s m args below meth c Q k θ w nc ns N) : W p l e R s m args below meth c H locs nc ns Q (F0 m pc sl (st.map (a_V θ))) := by
  obtain ⟨⟨hx, hb, hml, hown, hts⟩, -⟩ := id hX
  have h := nx_inl h0
  subst h
  exact lv_lconst hx hb (a_dec1 hX.kN hd rfl) rfl (K θ H locs sl a_ex_rf hI (hF.st (a_kc (a_rk_long _) hF.2.2)))
theorem ldc_inl {x : Nat} (h : a_ldc (mK k) x pc ls st w = some N) : (∃ v : Int32, a_lk (kI (mK k)) x = some v ∧ N = (pc, ls, .int v :: st, w, 0, 0)) ∨ (∃ i : Nat, a_lk (kS (mK k)) x = some i ∧ i < sN ∧ N = (pc, ls, .ref (a_SB + i) :: st, w, 0, 0)) := by
  unfold a_ldc at h
  split at h
  · rename_i v hv
    exact Or.inl ⟨v, hv, nx_inl h⟩
  · split at h
    · rename_i i hi
      split at h
      · rename_i h1
        exact Or.inr ⟨i, hi, h1, nx_inl h⟩
      · cases h
    · cases h
theorem kS_ok : ((List.range 10).all fun c => (kS c).all fun q => decide (q.2 < sN) && (decide (sC q.2 = c) && decide (sP q.2 = q.1))) = true := by decide +kernel
theorem a_kS {c x i : Nat} (hc : c < 10) (h : a_lk (kS c) x = some i) : i < sN ∧ sC i = c ∧ sP i = x := by
  have hm := a_lk_mem h
  have h1 := List.all_eq_true.mp (List.all_eq_true.mp kS_ok c (List.mem_range.mpr hc)) _ hm
  simpa using h1
theorem a_str (hX : a_X adK adV b sc D cA A p l R s m args meth c d k) {x i : Nat} (h : a_lk (kS (mK k)) x = some i) : vk_R (RN (mK k)) x (sT i) (adK i) s := by
  obtain ⟨h1, h2, h3⟩ := a_kS hX.kc h
  have h4 := (hX.E.1 i h1).1
  rw [h2, h3] at h4
  exact h4
theorem va_ldcSw {cc : ByteArray} {cells slots : Nat} {ls9 : Array Slot} {rest : List Value} (hexec : p.tables.exec = Jvm.exec) (hb : c.code = cc) {own tx : String} {index q : Nat} (hown : s.vm.findClass own = some m.cls) (hZ : vk_R own index tx q s) (hdg : decode cc pc = .ok (.ldc_w index, 3))
    (kk : W p l e R s m args below meth c H locs cells slots Q (F0 m (pc + 3) ls9 (.ref q :: rest))) : W p l e R s m args below meth c H locs cells slots Q (F0 m pc ls9 rest) := by
  intro T hT X
  obtain ⟨t, a1, b1⟩ := kk T hT X
  exact ⟨t, X.ldcStringW hexec hown (text := tx) (a := q) hZ.1 hZ.2 (g := F0 m pc ls9 rest) rfl (by rw [hb]; exact hdg) t a1, b1⟩
theorem a_SBk {n i : Nat} : a_rk n (.ref (a_SB + i)) := a_rk_ref (Or.inr (by unfold a_SB a_SC; omega))
theorem s_ldc (hX : a_X adK adV b sc D cA A p l R s m args meth c d k) (hI : a_I D cA adK b A s H locs θ w) (hF : a_F θ w (mX k) sl ls st) {x : Nat} (hd : a_lk (mC k) pc = some (.ldc x, len)) (h0 : ins sc d k pc ls st w (.ldc x) = some N) (hr : nc + N.2.2.2.2.1 ≤ R.cells ∧ ns + N.2.2.2.2.2 ≤ R.slots) (K : a_Go adK b D cA A p l e R s m args below meth c Q k θ w nc ns N) : W p l e R s m args below meth c H locs nc ns Q (F0 m pc sl (st.map (a_V θ))) := by
  obtain ⟨⟨hx, hb, hml, hown, hts⟩, -⟩ := id hX
  rcases ldc_inl h0 with ⟨v, hv, rfl⟩ | ⟨i, hi, hn, rfl⟩
  · exact lv_ldc hx hb hown (hts (wI (mK k) (x, v)) (a_inKI hX.kc (a_lk_mem hv))) (a_dec1 hX.kN hd rfl) (K θ H locs sl a_ex_rf hI (hF.st (a_kc (a_rk_int _) hF.2.2)))
  · have e1 : θ (a_SB + i) = adK i := hI.2.2.2.2.2.2 i hn
    have K1 := K θ H locs sl a_ex_rf hI (hF.st (a_kc a_SBk hF.2.2))
    refine va_ldcS hx hb hown (a_str hX hi) (a_dec1 hX.kN hd rfl) ?_
    rw [← e1]
    exact K1
theorem s_ldcw (hX : a_X adK adV b sc D cA A p l R s m args meth c d k) (hI : a_I D cA adK b A s H locs θ w) (hF : a_F θ w (mX k) sl ls st) {x : Nat} (hd : a_lk (mC k) pc = some (.ldc_w x, len)) (h0 : ins sc d k pc ls st w (.ldc_w x) = some N) (hr : nc + N.2.2.2.2.1 ≤ R.cells ∧ ns + N.2.2.2.2.2 ≤ R.slots) (K : a_Go adK b D cA A p l e R s m args below meth c Q k θ w nc ns N) : W p l e R s m args below meth c H locs nc ns Q (F0 m pc sl (st.map (a_V θ))) := by
  obtain ⟨⟨hx, hb, hml, hown, hts⟩, -⟩ := id hX
  rcases ldc_inl h0 with ⟨v, hv, rfl⟩ | ⟨i, hi, hn, rfl⟩
  · exact lv_ldcw hx hb hown (hts (wI (mK k) (x, v)) (a_inKI hX.kc (a_lk_mem hv))) (a_dec1 hX.kN hd rfl) (K θ H locs sl a_ex_rf hI (hF.st (a_kc (a_rk_int _) hF.2.2)))
  · have e1 : θ (a_SB + i) = adK i := hI.2.2.2.2.2.2 i hn
    have K1 := K θ H locs sl a_ex_rf hI (hF.st (a_kc a_SBk hF.2.2))
    refine va_ldcSw hx hb hown (a_str hX hi) (a_dec1 hX.kN hd rfl) ?_
    rw [← e1]
    exact K1
theorem ldc2_inl {x : Nat} (h : a_ldc2 (mK k) x pc ls st w = some N) : ∃ v : Int64, a_lk (kL (mK k)) x = some v ∧ N = (pc, ls, .long v :: st, w, 0, 0) := by
  unfold a_ldc2 at h
  split at h
  · rename_i v hv
    exact ⟨v, hv, nx_inl h⟩
  · cases h
theorem s_ldc2 (hX : a_X adK adV b sc D cA A p l R s m args meth c d k) (hI : a_I D cA adK b A s H locs θ w) (hF : a_F θ w (mX k) sl ls st) {x : Nat} (hd : a_lk (mC k) pc = some (.ldc2_w x, len)) (h0 : ins sc d k pc ls st w (.ldc2_w x) = some N) (hr : nc + N.2.2.2.2.1 ≤ R.cells ∧ ns + N.2.2.2.2.2 ≤ R.slots) (K : a_Go adK b D cA A p l e R s m args below meth c Q k θ w nc ns N) : W p l e R s m args below meth c H locs nc ns Q (F0 m pc sl (st.map (a_V θ))) := by
  obtain ⟨⟨hx, hb, hml, hown, hts⟩, -⟩ := id hX
  obtain ⟨v, hv, rfl⟩ := ldc2_inl h0
  exact lv_ldc2 hx hb hown (hts (wL (mK k) (x, v)) (a_inKL hX.kc (a_lk_mem hv))) (a_dec1 hX.kN hd rfl) (K θ H locs sl a_ex_rf hI (hF.st (a_kc (a_rk_long _) hF.2.2)))
theorem ldI_inl {v : Option Value} (h : a_ldI v pc ls st w = some N) : ∃ x : Int32, v = some (.int x) ∧ N = (pc, ls, .int x :: st, w, 0, 0) := by
  unfold a_ldI at h
  split at h
  · exact ⟨_, rfl, nx_inl h⟩
  · cases h
theorem ldL_inl {v : Option Value} (h : a_ldL v pc ls st w = some N) : ∃ x : Int64, v = some (.long x) ∧ N = (pc, ls, .long x :: st, w, 0, 0) := by
  unfold a_ldL at h
  split at h
  · exact ⟨_, rfl, nx_inl h⟩
  · cases h
theorem ldA_inl {v : Option Value} (h : a_ldA v pc ls st w = some N) : ∃ x : Nat, v = some (.ref x) ∧ N = (pc, ls, .ref x :: st, w, 0, 0) := by
  unfold a_ldA at h
  split at h
  · exact ⟨_, rfl, nx_inl h⟩
  · cases h
theorem s_iload (hX : a_X adK adV b sc D cA A p l R s m args meth c d k) (hI : a_I D cA adK b A s H locs θ w) (hF : a_F θ w (mX k) sl ls st) {i : Nat} (hd : a_lk (mC k) pc = some (.iload i, len)) (h0 : ins sc d k pc ls st w (.iload i) = some N) (hr : nc + N.2.2.2.2.1 ≤ R.cells ∧ ns + N.2.2.2.2.2 ≤ R.slots) (K : a_Go adK b D cA A p l e R s m args below meth c Q k θ w nc ns N) : W p l e R s m args below meth c H locs nc ns Q (F0 m pc sl (st.map (a_V θ))) := by
  obtain ⟨⟨hx, hb, hml, hown, hts⟩, -⟩ := id hX
  obtain ⟨x, hv, rfl⟩ := ldI_inl h0
  exact lv_iload hx hb (a_dec1 hX.kN hd rfl) (hF.at hv) (K θ H locs sl a_ex_rf hI (hF.st (a_kc (a_rk_int _) hF.2.2)))
theorem s_iloadn (hX : a_X adK adV b sc D cA A p l R s m args meth c d k) (hI : a_I D cA adK b A s H locs θ w) (hF : a_F θ w (mX k) sl ls st) {i : Fin 4} (hd : a_lk (mC k) pc = some (.iload_n i, len)) (h0 : ins sc d k pc ls st w (.iload_n i) = some N) (hr : nc + N.2.2.2.2.1 ≤ R.cells ∧ ns + N.2.2.2.2.2 ≤ R.slots) (K : a_Go adK b D cA A p l e R s m args below meth c Q k θ w nc ns N) : W p l e R s m args below meth c H locs nc ns Q (F0 m pc sl (st.map (a_V θ))) := by
  obtain ⟨⟨hx, hb, hml, hown, hts⟩, -⟩ := id hX
  obtain ⟨x, hv, rfl⟩ := ldI_inl h0
  exact lv_iload_n hx hb (a_dec1 hX.kN hd rfl) rfl (hF.at hv) (K θ H locs sl a_ex_rf hI (hF.st (a_kc (a_rk_int _) hF.2.2)))
theorem s_lload (hX : a_X adK adV b sc D cA A p l R s m args meth c d k) (hI : a_I D cA adK b A s H locs θ w) (hF : a_F θ w (mX k) sl ls st) {i : Nat} (hd : a_lk (mC k) pc = some (.lload i, len)) (h0 : ins sc d k pc ls st w (.lload i) = some N) (hr : nc + N.2.2.2.2.1 ≤ R.cells ∧ ns + N.2.2.2.2.2 ≤ R.slots) (K : a_Go adK b D cA A p l e R s m args below meth c Q k θ w nc ns N) : W p l e R s m args below meth c H locs nc ns Q (F0 m pc sl (st.map (a_V θ))) := by
  obtain ⟨⟨hx, hb, hml, hown, hts⟩, -⟩ := id hX
  obtain ⟨x, hv, rfl⟩ := ldL_inl h0
  exact lv_lload hx hb (a_dec1 hX.kN hd rfl) (hF.at hv) (K θ H locs sl a_ex_rf hI (hF.st (a_kc (a_rk_long _) hF.2.2)))
theorem s_lloadn (hX : a_X adK adV b sc D cA A p l R s m args meth c d k) (hI : a_I D cA adK b A s H locs θ w) (hF : a_F θ w (mX k) sl ls st) {i : Fin 4} (hd : a_lk (mC k) pc = some (.lload_n i, len)) (h0 : ins sc d k pc ls st w (.lload_n i) = some N) (hr : nc + N.2.2.2.2.1 ≤ R.cells ∧ ns + N.2.2.2.2.2 ≤ R.slots) (K : a_Go adK b D cA A p l e R s m args below meth c Q k θ w nc ns N) : W p l e R s m args below meth c H locs nc ns Q (F0 m pc sl (st.map (a_V θ))) := by
  obtain ⟨⟨hx, hb, hml, hown, hts⟩, -⟩ := id hX
  obtain ⟨x, hv, rfl⟩ := ldL_inl h0
  exact lv_lload_n hx hb (a_dec1 hX.kN hd rfl) rfl (hF.at hv) (K θ H locs sl a_ex_rf hI (hF.st (a_kc (a_rk_long _) hF.2.2)))
theorem s_aload (hX : a_X adK adV b sc D cA A p l R s m args meth c d k) (hI : a_I D cA adK b A s H locs θ w) (hF : a_F θ w (mX k) sl ls st) {i : Nat} (hd : a_lk (mC k) pc = some (.aload i, len)) (h0 : ins sc d k pc ls st w (.aload i) = some N) (hr : nc + N.2.2.2.2.1 ≤ R.cells ∧ ns + N.2.2.2.2.2 ≤ R.slots) (K : a_Go adK b D cA A p l e R s m args below meth c Q k θ w nc ns N) : W p l e R s m args below meth c H locs nc ns Q (F0 m pc sl (st.map (a_V θ))) := by
  obtain ⟨⟨hx, hb, hml, hown, hts⟩, -⟩ := id hX
  obtain ⟨x, hv, rfl⟩ := ldA_inl h0
  exact lv_aload hx hb (a_dec1 hX.kN hd rfl) (hF.at hv) (K θ H locs sl a_ex_rf hI (hF.st (a_kc (hF.known hv) hF.2.2)))
theorem s_aloadn (hX : a_X adK adV b sc D cA A p l R s m args meth c d k) (hI : a_I D cA adK b A s H locs θ w) (hF : a_F θ w (mX k) sl ls st) {i : Fin 4} (hd : a_lk (mC k) pc = some (.aload_n i, len)) (h0 : ins sc d k pc ls st w (.aload_n i) = some N) (hr : nc + N.2.2.2.2.1 ≤ R.cells ∧ ns + N.2.2.2.2.2 ≤ R.slots) (K : a_Go adK b D cA A p l e R s m args below meth c Q k θ w nc ns N) : W p l e R s m args below meth c H locs nc ns Q (F0 m pc sl (st.map (a_V θ))) := by
  obtain ⟨⟨hx, hb, hml, hown, hts⟩, -⟩ := id hX
  obtain ⟨x, hv, rfl⟩ := ldA_inl h0
  exact lv_aload_n hx hb (a_dec1 hX.kN hd rfl) rfl (hF.at hv) (K θ H locs sl a_ex_rf hI (hF.st (a_kc (hF.known hv) hF.2.2)))
theorem stI_inl {n i : Nat} (h : a_stI n i pc ls st w = some N) : ∃ (x : Int32) (r : List Value), st = .int x :: r ∧ i < n ∧ N = (pc, a_s1 ls i (.int x), r, w, 0, 0) := by
  unfold a_stI at h
  split at h
  · split at h
    · rename_i h1
      exact ⟨_, _, rfl, h1, nx_inl h⟩
    · cases h
  · cases h
theorem stL_inl {n i : Nat} (h : a_stL n i pc ls st w = some N) : ∃ (x : Int64) (r : List Value), st = .long x :: r ∧ i + 1 < n ∧ N = (pc, a_s2 ls i (.long x), r, w, 0, 0) := by
  unfold a_stL at h
  split at h
  · split at h
    · rename_i h1
      exact ⟨_, _, rfl, h1, nx_inl h⟩
    · cases h
  · cases h
theorem stA_inl {n i : Nat} (h : a_stA n i pc ls st w = some N) : ∃ (x : Nat) (r : List Value), st = .ref x :: r ∧ i < n ∧ N = (pc, a_s1 ls i (.ref x), r, w, 0, 0) := by
  unfold a_stA at h
  split at h
  · split at h
    · rename_i h1
      exact ⟨_, _, rfl, h1, nx_inl h⟩
    · cases h
  · cases h
theorem s_istore (hX : a_X adK adV b sc D cA A p l R s m args meth c d k) (hI : a_I D cA adK b A s H locs θ w) (hF : a_F θ w (mX k) sl ls st) {i : Nat} (hd : a_lk (mC k) pc = some (.istore i, len)) (h0 : ins sc d k pc ls st w (.istore i) = some N) (hr : nc + N.2.2.2.2.1 ≤ R.cells ∧ ns + N.2.2.2.2.2 ≤ R.slots) (K : a_Go adK b D cA A p l e R s m args below meth c Q k θ w nc ns N) : W p l e R s m args below meth c H locs nc ns Q (F0 m pc sl (st.map (a_V θ))) := by
  obtain ⟨⟨hx, hb, hml, hown, hts⟩, -⟩ := id hX
  obtain ⟨x, r, rfl, hn, rfl⟩ := stI_inl h0
  exact lv_istore hx hb (a_dec1 hX.kN hd rfl) hF.1 hn (a_s1_map θ ls i (.int x)) (fun sl' hl' => K θ H locs sl' a_ex_rf hI ⟨hl', a_s1_ok hF.2.1 (a_hd hF.2.2), a_tl hF.2.2⟩)
theorem s_istoren (hX : a_X adK adV b sc D cA A p l R s m args meth c d k) (hI : a_I D cA adK b A s H locs θ w) (hF : a_F θ w (mX k) sl ls st) {i : Fin 4} (hd : a_lk (mC k) pc = some (.istore_n i, len)) (h0 : ins sc d k pc ls st w (.istore_n i) = some N) (hr : nc + N.2.2.2.2.1 ≤ R.cells ∧ ns + N.2.2.2.2.2 ≤ R.slots) (K : a_Go adK b D cA A p l e R s m args below meth c Q k θ w nc ns N) : W p l e R s m args below meth c H locs nc ns Q (F0 m pc sl (st.map (a_V θ))) := by
  obtain ⟨⟨hx, hb, hml, hown, hts⟩, -⟩ := id hX
  obtain ⟨x, r, rfl, hn, rfl⟩ := stI_inl h0
  exact lv_istore_n hx hb (a_dec1 hX.kN hd rfl) rfl hF.1 hn (a_s1_map θ ls (i : Nat) (.int x)) (fun sl' hl' => K θ H locs sl' a_ex_rf hI ⟨hl', a_s1_ok hF.2.1 (a_hd hF.2.2), a_tl hF.2.2⟩)
theorem s_lstore (hX : a_X adK adV b sc D cA A p l R s m args meth c d k) (hI : a_I D cA adK b A s H locs θ w) (hF : a_F θ w (mX k) sl ls st) {i : Nat} (hd : a_lk (mC k) pc = some (.lstore i, len)) (h0 : ins sc d k pc ls st w (.lstore i) = some N) (hr : nc + N.2.2.2.2.1 ≤ R.cells ∧ ns + N.2.2.2.2.2 ≤ R.slots) (K : a_Go adK b D cA A p l e R s m args below meth c Q k θ w nc ns N) : W p l e R s m args below meth c H locs nc ns Q (F0 m pc sl (st.map (a_V θ))) := by
  obtain ⟨⟨hx, hb, hml, hown, hts⟩, -⟩ := id hX
  obtain ⟨x, r, rfl, hn, rfl⟩ := stL_inl h0
  exact lv_lstore hx hb (a_dec1 hX.kN hd rfl) hF.1 hn (a_s2_map θ ls i (.long x)) (fun sl' hl' => K θ H locs sl' a_ex_rf hI ⟨hl', a_s2_ok hF.2.1 (a_hd hF.2.2), a_tl hF.2.2⟩)
theorem s_lstoren (hX : a_X adK adV b sc D cA A p l R s m args meth c d k) (hI : a_I D cA adK b A s H locs θ w) (hF : a_F θ w (mX k) sl ls st) {i : Fin 4} (hd : a_lk (mC k) pc = some (.lstore_n i, len)) (h0 : ins sc d k pc ls st w (.lstore_n i) = some N) (hr : nc + N.2.2.2.2.1 ≤ R.cells ∧ ns + N.2.2.2.2.2 ≤ R.slots) (K : a_Go adK b D cA A p l e R s m args below meth c Q k θ w nc ns N) : W p l e R s m args below meth c H locs nc ns Q (F0 m pc sl (st.map (a_V θ))) := by
  obtain ⟨⟨hx, hb, hml, hown, hts⟩, -⟩ := id hX
  obtain ⟨x, r, rfl, hn, rfl⟩ := stL_inl h0
  exact lv_lstore_n hx hb (a_dec1 hX.kN hd rfl) rfl hF.1 hn (a_s2_map θ ls (i : Nat) (.long x)) (fun sl' hl' => K θ H locs sl' a_ex_rf hI ⟨hl', a_s2_ok hF.2.1 (a_hd hF.2.2), a_tl hF.2.2⟩)
theorem s_astore (hX : a_X adK adV b sc D cA A p l R s m args meth c d k) (hI : a_I D cA adK b A s H locs θ w) (hF : a_F θ w (mX k) sl ls st) {i : Nat} (hd : a_lk (mC k) pc = some (.astore i, len)) (h0 : ins sc d k pc ls st w (.astore i) = some N) (hr : nc + N.2.2.2.2.1 ≤ R.cells ∧ ns + N.2.2.2.2.2 ≤ R.slots) (K : a_Go adK b D cA A p l e R s m args below meth c Q k θ w nc ns N) : W p l e R s m args below meth c H locs nc ns Q (F0 m pc sl (st.map (a_V θ))) := by
  obtain ⟨⟨hx, hb, hml, hown, hts⟩, -⟩ := id hX
  obtain ⟨x, r, rfl, hn, rfl⟩ := stA_inl h0
  exact lv_astore hx hb (a_dec1 hX.kN hd rfl) hF.1 hn (a_s1_map θ ls i (.ref x)) (fun sl' hl' => K θ H locs sl' a_ex_rf hI ⟨hl', a_s1_ok hF.2.1 (a_hd hF.2.2), a_tl hF.2.2⟩)
theorem s_astoren (hX : a_X adK adV b sc D cA A p l R s m args meth c d k) (hI : a_I D cA adK b A s H locs θ w) (hF : a_F θ w (mX k) sl ls st) {i : Fin 4} (hd : a_lk (mC k) pc = some (.astore_n i, len)) (h0 : ins sc d k pc ls st w (.astore_n i) = some N) (hr : nc + N.2.2.2.2.1 ≤ R.cells ∧ ns + N.2.2.2.2.2 ≤ R.slots) (K : a_Go adK b D cA A p l e R s m args below meth c Q k θ w nc ns N) : W p l e R s m args below meth c H locs nc ns Q (F0 m pc sl (st.map (a_V θ))) := by
  obtain ⟨⟨hx, hb, hml, hown, hts⟩, -⟩ := id hX
  obtain ⟨x, r, rfl, hn, rfl⟩ := stA_inl h0
  exact lv_astore_n hx hb (a_dec1 hX.kN hd rfl) rfl hF.1 hn (a_s1_map θ ls (i : Nat) (.ref x)) (fun sl' hl' => K θ H locs sl' a_ex_rf hI ⟨hl', a_s1_ok hF.2.1 (a_hd hF.2.2), a_tl hF.2.2⟩)
theorem inc_inl {n i : Nat} {z : Int} (h : a_inc n i z pc ls st w = some N) : ∃ x : Int32, a_lk ls i = some (.int x) ∧ i < n ∧ N = (pc + 3, a_s1 ls i (.int (x + Int32.ofInt z)), st, w, 0, 0) := by
  unfold a_inc at h
  split at h
  · rename_i x hx
    split at h
    · rename_i h1
      exact ⟨x, hx, h1, nx_inl h⟩
    · cases h
  · cases h
theorem s_iinc (hX : a_X adK adV b sc D cA A p l R s m args meth c d k) (hI : a_I D cA adK b A s H locs θ w) (hF : a_F θ w (mX k) sl ls st) {i : Nat} {z : Int} (hd : a_lk (mC k) pc = some (.iinc i z, len)) (h0 : ins sc d k pc ls st w (.iinc i z) = some N) (hr : nc + N.2.2.2.2.1 ≤ R.cells ∧ ns + N.2.2.2.2.2 ≤ R.slots) (K : a_Go adK b D cA A p l e R s m args below meth c Q k θ w nc ns N) : W p l e R s m args below meth c H locs nc ns Q (F0 m pc sl (st.map (a_V θ))) := by
  obtain ⟨⟨hx, hb, hml, hown, hts⟩, -⟩ := id hX
  obtain ⟨x, hv, hn, rfl⟩ := inc_inl h0
  obtain ⟨j, hj⟩ := List.getElem?_of_mem (List.mem_map.mpr ⟨(i, Value.int x), a_lk_mem hv, rfl⟩ : (i, Value.int x) ∈ ls.map fun q => (q.1, a_V θ q.2))
  exact lv_iinc (k := j) hx hb (a_dec1 hX.kN hd rfl) hF.1 hj rfl hn (a_s1_map θ ls _ (.int _)) (fun sl' hl' => K θ H locs sl' a_ex_rf hI ⟨hl', a_s1_ok hF.2.1 (a_rk_int _), hF.2.2⟩)
theorem s_iadd (hX : a_X adK adV b sc D cA A p l R s m args meth c d k) (hI : a_I D cA adK b A s H locs θ w) (hF : a_F θ w (mX k) sl ls st) (hd : a_lk (mC k) pc = some (.iadd, len)) (h0 : ins sc d k pc ls st w (.iadd) = some N) (hr : nc + N.2.2.2.2.1 ≤ R.cells ∧ ns + N.2.2.2.2.2 ≤ R.slots) (K : a_Go adK b D cA A p l e R s m args below meth c Q k θ w nc ns N) : W p l e R s m args below meth c H locs nc ns Q (F0 m pc sl (st.map (a_V θ))) := by
  obtain ⟨⟨hx, hb, hml, hown, hts⟩, -⟩ := id hX
  obtain ⟨x, y, r, rfl, rfl⟩ := i2_inl h0
  exact lv_iadd hx hb (a_dec1 hX.kN hd rfl) (K θ H locs sl a_ex_rf hI (hF.st (a_kc (a_rk_int _) (a_tl (a_tl hF.2.2)))))
theorem s_isub (hX : a_X adK adV b sc D cA A p l R s m args meth c d k) (hI : a_I D cA adK b A s H locs θ w) (hF : a_F θ w (mX k) sl ls st) (hd : a_lk (mC k) pc = some (.isub, len)) (h0 : ins sc d k pc ls st w (.isub) = some N) (hr : nc + N.2.2.2.2.1 ≤ R.cells ∧ ns + N.2.2.2.2.2 ≤ R.slots) (K : a_Go adK b D cA A p l e R s m args below meth c Q k θ w nc ns N) : W p l e R s m args below meth c H locs nc ns Q (F0 m pc sl (st.map (a_V θ))) := by
  obtain ⟨⟨hx, hb, hml, hown, hts⟩, -⟩ := id hX
  obtain ⟨x, y, r, rfl, rfl⟩ := i2_inl h0
  exact lv_isub hx hb (a_dec1 hX.kN hd rfl) (K θ H locs sl a_ex_rf hI (hF.st (a_kc (a_rk_int _) (a_tl (a_tl hF.2.2)))))
theorem s_imul (hX : a_X adK adV b sc D cA A p l R s m args meth c d k) (hI : a_I D cA adK b A s H locs θ w) (hF : a_F θ w (mX k) sl ls st) (hd : a_lk (mC k) pc = some (.imul, len)) (h0 : ins sc d k pc ls st w (.imul) = some N) (hr : nc + N.2.2.2.2.1 ≤ R.cells ∧ ns + N.2.2.2.2.2 ≤ R.slots) (K : a_Go adK b D cA A p l e R s m args below meth c Q k θ w nc ns N) : W p l e R s m args below meth c H locs nc ns Q (F0 m pc sl (st.map (a_V θ))) := by
  obtain ⟨⟨hx, hb, hml, hown, hts⟩, -⟩ := id hX
  obtain ⟨x, y, r, rfl, rfl⟩ := i2_inl h0
  exact lv_imul hx hb (a_dec1 hX.kN hd rfl) (K θ H locs sl a_ex_rf hI (hF.st (a_kc (a_rk_int _) (a_tl (a_tl hF.2.2)))))
theorem s_iand (hX : a_X adK adV b sc D cA A p l R s m args meth c d k) (hI : a_I D cA adK b A s H locs θ w) (hF : a_F θ w (mX k) sl ls st) (hd : a_lk (mC k) pc = some (.iand, len)) (h0 : ins sc d k pc ls st w (.iand) = some N) (hr : nc + N.2.2.2.2.1 ≤ R.cells ∧ ns + N.2.2.2.2.2 ≤ R.slots) (K : a_Go adK b D cA A p l e R s m args below meth c Q k θ w nc ns N) : W p l e R s m args below meth c H locs nc ns Q (F0 m pc sl (st.map (a_V θ))) := by
  obtain ⟨⟨hx, hb, hml, hown, hts⟩, -⟩ := id hX
  obtain ⟨x, y, r, rfl, rfl⟩ := i2_inl h0
  exact lv_iand hx hb (a_dec1 hX.kN hd rfl) (K θ H locs sl a_ex_rf hI (hF.st (a_kc (a_rk_int _) (a_tl (a_tl hF.2.2)))))
theorem s_ior (hX : a_X adK adV b sc D cA A p l R s m args meth c d k) (hI : a_I D cA adK b A s H locs θ w) (hF : a_F θ w (mX k) sl ls st) (hd : a_lk (mC k) pc = some (.ior, len)) (h0 : ins sc d k pc ls st w (.ior) = some N) (hr : nc + N.2.2.2.2.1 ≤ R.cells ∧ ns + N.2.2.2.2.2 ≤ R.slots) (K : a_Go adK b D cA A p l e R s m args below meth c Q k θ w nc ns N) : W p l e R s m args below meth c H locs nc ns Q (F0 m pc sl (st.map (a_V θ))) := by
  obtain ⟨⟨hx, hb, hml, hown, hts⟩, -⟩ := id hX
  obtain ⟨x, y, r, rfl, rfl⟩ := i2_inl h0
  exact lv_ior hx hb (a_dec1 hX.kN hd rfl) (K θ H locs sl a_ex_rf hI (hF.st (a_kc (a_rk_int _) (a_tl (a_tl hF.2.2)))))
theorem s_ixor (hX : a_X adK adV b sc D cA A p l R s m args meth c d k) (hI : a_I D cA adK b A s H locs θ w) (hF : a_F θ w (mX k) sl ls st) (hd : a_lk (mC k) pc = some (.ixor, len)) (h0 : ins sc d k pc ls st w (.ixor) = some N) (hr : nc + N.2.2.2.2.1 ≤ R.cells ∧ ns + N.2.2.2.2.2 ≤ R.slots) (K : a_Go adK b D cA A p l e R s m args below meth c Q k θ w nc ns N) : W p l e R s m args below meth c H locs nc ns Q (F0 m pc sl (st.map (a_V θ))) := by
  obtain ⟨⟨hx, hb, hml, hown, hts⟩, -⟩ := id hX
  obtain ⟨x, y, r, rfl, rfl⟩ := i2_inl h0
  exact lv_ixor hx hb (a_dec1 hX.kN hd rfl) (K θ H locs sl a_ex_rf hI (hF.st (a_kc (a_rk_int _) (a_tl (a_tl hF.2.2)))))
theorem s_ishl (hX : a_X adK adV b sc D cA A p l R s m args meth c d k) (hI : a_I D cA adK b A s H locs θ w) (hF : a_F θ w (mX k) sl ls st) (hd : a_lk (mC k) pc = some (.ishl, len)) (h0 : ins sc d k pc ls st w (.ishl) = some N) (hr : nc + N.2.2.2.2.1 ≤ R.cells ∧ ns + N.2.2.2.2.2 ≤ R.slots) (K : a_Go adK b D cA A p l e R s m args below meth c Q k θ w nc ns N) : W p l e R s m args below meth c H locs nc ns Q (F0 m pc sl (st.map (a_V θ))) := by
  obtain ⟨⟨hx, hb, hml, hown, hts⟩, -⟩ := id hX
  obtain ⟨x, y, r, rfl, rfl⟩ := i2_inl h0
  exact lv_ishl hx hb (a_dec1 hX.kN hd rfl) (K θ H locs sl a_ex_rf hI (hF.st (a_kc (a_rk_int _) (a_tl (a_tl hF.2.2)))))
theorem s_ishr (hX : a_X adK adV b sc D cA A p l R s m args meth c d k) (hI : a_I D cA adK b A s H locs θ w) (hF : a_F θ w (mX k) sl ls st) (hd : a_lk (mC k) pc = some (.ishr, len)) (h0 : ins sc d k pc ls st w (.ishr) = some N) (hr : nc + N.2.2.2.2.1 ≤ R.cells ∧ ns + N.2.2.2.2.2 ≤ R.slots) (K : a_Go adK b D cA A p l e R s m args below meth c Q k θ w nc ns N) : W p l e R s m args below meth c H locs nc ns Q (F0 m pc sl (st.map (a_V θ))) := by
  obtain ⟨⟨hx, hb, hml, hown, hts⟩, -⟩ := id hX
  obtain ⟨x, y, r, rfl, rfl⟩ := i2_inl h0
  exact lv_ishr hx hb (a_dec1 hX.kN hd rfl) (K θ H locs sl a_ex_rf hI (hF.st (a_kc (a_rk_int _) (a_tl (a_tl hF.2.2)))))
theorem s_iushr (hX : a_X adK adV b sc D cA A p l R s m args meth c d k) (hI : a_I D cA adK b A s H locs θ w) (hF : a_F θ w (mX k) sl ls st) (hd : a_lk (mC k) pc = some (.iushr, len)) (h0 : ins sc d k pc ls st w (.iushr) = some N) (hr : nc + N.2.2.2.2.1 ≤ R.cells ∧ ns + N.2.2.2.2.2 ≤ R.slots) (K : a_Go adK b D cA A p l e R s m args below meth c Q k θ w nc ns N) : W p l e R s m args below meth c H locs nc ns Q (F0 m pc sl (st.map (a_V θ))) := by
  obtain ⟨⟨hx, hb, hml, hown, hts⟩, -⟩ := id hX
  obtain ⟨x, y, r, rfl, rfl⟩ := i2_inl h0
  exact lv_iushr hx hb (a_dec1 hX.kN hd rfl) rfl (K θ H locs sl a_ex_rf hI (hF.st (a_kc (a_rk_int _) (a_tl (a_tl hF.2.2)))))
theorem s_idiv (hX : a_X adK adV b sc D cA A p l R s m args meth c d k) (hI : a_I D cA adK b A s H locs θ w) (hF : a_F θ w (mX k) sl ls st) (hd : a_lk (mC k) pc = some (.idiv, len)) (h0 : ins sc d k pc ls st w (.idiv) = some N) (hr : nc + N.2.2.2.2.1 ≤ R.cells ∧ ns + N.2.2.2.2.2 ≤ R.slots) (K : a_Go adK b D cA A p l e R s m args below meth c Q k θ w nc ns N) : W p l e R s m args below meth c H locs nc ns Q (F0 m pc sl (st.map (a_V θ))) := by
  obtain ⟨⟨hx, hb, hml, hown, hts⟩, -⟩ := id hX
  obtain ⟨x, y, r, rfl, hz, rfl⟩ := i2z_inl h0
  exact lv_idiv hx hb (a_dec1 hX.kN hd rfl) hz (K θ H locs sl a_ex_rf hI (hF.st (a_kc (a_rk_int _) (a_tl (a_tl hF.2.2)))))
theorem s_irem (hX : a_X adK adV b sc D cA A p l R s m args meth c d k) (hI : a_I D cA adK b A s H locs θ w) (hF : a_F θ w (mX k) sl ls st) (hd : a_lk (mC k) pc = some (.irem, len)) (h0 : ins sc d k pc ls st w (.irem) = some N) (hr : nc + N.2.2.2.2.1 ≤ R.cells ∧ ns + N.2.2.2.2.2 ≤ R.slots) (K : a_Go adK b D cA A p l e R s m args below meth c Q k θ w nc ns N) : W p l e R s m args below meth c H locs nc ns Q (F0 m pc sl (st.map (a_V θ))) := by
  obtain ⟨⟨hx, hb, hml, hown, hts⟩, -⟩ := id hX
  obtain ⟨x, y, r, rfl, hz, rfl⟩ := i2z_inl h0
  exact lv_irem hx hb (a_dec1 hX.kN hd rfl) hz (K θ H locs sl a_ex_rf hI (hF.st (a_kc (a_rk_int _) (a_tl (a_tl hF.2.2)))))
theorem s_ineg (hX : a_X adK adV b sc D cA A p l R s m args meth c d k) (hI : a_I D cA adK b A s H locs θ w) (hF : a_F θ w (mX k) sl ls st) (hd : a_lk (mC k) pc = some (.ineg, len)) (h0 : ins sc d k pc ls st w (.ineg) = some N) (hr : nc + N.2.2.2.2.1 ≤ R.cells ∧ ns + N.2.2.2.2.2 ≤ R.slots) (K : a_Go adK b D cA A p l e R s m args below meth c Q k θ w nc ns N) : W p l e R s m args below meth c H locs nc ns Q (F0 m pc sl (st.map (a_V θ))) := by
  obtain ⟨⟨hx, hb, hml, hown, hts⟩, -⟩ := id hX
  obtain ⟨x, r, rfl, rfl⟩ := i1_inl h0
  exact lv_ineg hx hb (a_dec1 hX.kN hd rfl) (K θ H locs sl a_ex_rf hI (hF.st (a_kc (a_rk_int _) (a_tl hF.2.2))))
theorem s_i2b (hX : a_X adK adV b sc D cA A p l R s m args meth c d k) (hI : a_I D cA adK b A s H locs θ w) (hF : a_F θ w (mX k) sl ls st) (hd : a_lk (mC k) pc = some (.i2b, len)) (h0 : ins sc d k pc ls st w (.i2b) = some N) (hr : nc + N.2.2.2.2.1 ≤ R.cells ∧ ns + N.2.2.2.2.2 ≤ R.slots) (K : a_Go adK b D cA A p l e R s m args below meth c Q k θ w nc ns N) : W p l e R s m args below meth c H locs nc ns Q (F0 m pc sl (st.map (a_V θ))) := by
  obtain ⟨⟨hx, hb, hml, hown, hts⟩, -⟩ := id hX
  obtain ⟨x, r, rfl, rfl⟩ := i1_inl h0
  exact lv_i2b hx hb (a_dec1 hX.kN hd rfl) rfl (K θ H locs sl a_ex_rf hI (hF.st (a_kc (a_rk_int _) (a_tl hF.2.2))))
theorem s_ladd (hX : a_X adK adV b sc D cA A p l R s m args meth c d k) (hI : a_I D cA adK b A s H locs θ w) (hF : a_F θ w (mX k) sl ls st) (hd : a_lk (mC k) pc = some (.ladd, len)) (h0 : ins sc d k pc ls st w (.ladd) = some N) (hr : nc + N.2.2.2.2.1 ≤ R.cells ∧ ns + N.2.2.2.2.2 ≤ R.slots) (K : a_Go adK b D cA A p l e R s m args below meth c Q k θ w nc ns N) : W p l e R s m args below meth c H locs nc ns Q (F0 m pc sl (st.map (a_V θ))) := by
  obtain ⟨⟨hx, hb, hml, hown, hts⟩, -⟩ := id hX
  obtain ⟨x, y, r, rfl, rfl⟩ := l2_inl h0
  exact lv_ladd hx hb (a_dec1 hX.kN hd rfl) (K θ H locs sl a_ex_rf hI (hF.st (a_kc (a_rk_long _) (a_tl (a_tl hF.2.2)))))
theorem s_lmul (hX : a_X adK adV b sc D cA A p l R s m args meth c d k) (hI : a_I D cA adK b A s H locs θ w) (hF : a_F θ w (mX k) sl ls st) (hd : a_lk (mC k) pc = some (.lmul, len)) (h0 : ins sc d k pc ls st w (.lmul) = some N) (hr : nc + N.2.2.2.2.1 ≤ R.cells ∧ ns + N.2.2.2.2.2 ≤ R.slots) (K : a_Go adK b D cA A p l e R s m args below meth c Q k θ w nc ns N) : W p l e R s m args below meth c H locs nc ns Q (F0 m pc sl (st.map (a_V θ))) := by
  obtain ⟨⟨hx, hb, hml, hown, hts⟩, -⟩ := id hX
  obtain ⟨x, y, r, rfl, rfl⟩ := l2_inl h0
  exact lv_lmul hx hb (a_dec1 hX.kN hd rfl) (K θ H locs sl a_ex_rf hI (hF.st (a_kc (a_rk_long _) (a_tl (a_tl hF.2.2)))))
theorem s_ldiv (hX : a_X adK adV b sc D cA A p l R s m args meth c d k) (hI : a_I D cA adK b A s H locs θ w) (hF : a_F θ w (mX k) sl ls st) (hd : a_lk (mC k) pc = some (.ldiv, len)) (h0 : ins sc d k pc ls st w (.ldiv) = some N) (hr : nc + N.2.2.2.2.1 ≤ R.cells ∧ ns + N.2.2.2.2.2 ≤ R.slots) (K : a_Go adK b D cA A p l e R s m args below meth c Q k θ w nc ns N) : W p l e R s m args below meth c H locs nc ns Q (F0 m pc sl (st.map (a_V θ))) := by
  obtain ⟨⟨hx, hb, hml, hown, hts⟩, -⟩ := id hX
  obtain ⟨x, y, r, rfl, hz, rfl⟩ := l2z_inl h0
  exact lv_ldiv hx hb (a_dec1 hX.kN hd rfl) hz (K θ H locs sl a_ex_rf hI (hF.st (a_kc (a_rk_long _) (a_tl (a_tl hF.2.2)))))
theorem s_lrem (hX : a_X adK adV b sc D cA A p l R s m args meth c d k) (hI : a_I D cA adK b A s H locs θ w) (hF : a_F θ w (mX k) sl ls st) (hd : a_lk (mC k) pc = some (.lrem, len)) (h0 : ins sc d k pc ls st w (.lrem) = some N) (hr : nc + N.2.2.2.2.1 ≤ R.cells ∧ ns + N.2.2.2.2.2 ≤ R.slots) (K : a_Go adK b D cA A p l e R s m args below meth c Q k θ w nc ns N) : W p l e R s m args below meth c H locs nc ns Q (F0 m pc sl (st.map (a_V θ))) := by
  obtain ⟨⟨hx, hb, hml, hown, hts⟩, -⟩ := id hX
  obtain ⟨x, y, r, rfl, hz, rfl⟩ := l2z_inl h0
  exact lv_lrem hx hb (a_dec1 hX.kN hd rfl) hz (K θ H locs sl a_ex_rf hI (hF.st (a_kc (a_rk_long _) (a_tl (a_tl hF.2.2)))))
theorem lcmp_inl (h : a_lcmp pc ls st w = some N) : ∃ (x y : Int64) (r : List Value), st = .long y :: .long x :: r ∧ N = (pc + 1, ls, .int (lg_cmp x y) :: r, w, 0, 0) := by
  unfold a_lcmp at h
  split at h
  · exact ⟨_, _, _, rfl, nx_inl h⟩
  · cases h
theorem i2l_inl (h : a_i2l pc ls st w = some N) : ∃ (x : Int32) (r : List Value), st = .int x :: r ∧ N = (pc + 1, ls, .long x.toInt64 :: r, w, 0, 0) := by
  unfold a_i2l at h
  split at h
  · exact ⟨_, _, rfl, nx_inl h⟩
  · cases h
theorem s_lcmp (hX : a_X adK adV b sc D cA A p l R s m args meth c d k) (hI : a_I D cA adK b A s H locs θ w) (hF : a_F θ w (mX k) sl ls st) (hd : a_lk (mC k) pc = some (.lcmp, len)) (h0 : ins sc d k pc ls st w (.lcmp) = some N) (hr : nc + N.2.2.2.2.1 ≤ R.cells ∧ ns + N.2.2.2.2.2 ≤ R.slots) (K : a_Go adK b D cA A p l e R s m args below meth c Q k θ w nc ns N) : W p l e R s m args below meth c H locs nc ns Q (F0 m pc sl (st.map (a_V θ))) := by
  obtain ⟨⟨hx, hb, hml, hown, hts⟩, -⟩ := id hX
  obtain ⟨x, y, r, rfl, rfl⟩ := lcmp_inl h0
  exact W.lcmp hx hb (a_dec1 hX.kN hd rfl) (K θ H locs sl a_ex_rf hI (hF.st (a_kc (a_rk_int _) (a_tl (a_tl hF.2.2)))))
theorem s_i2l (hX : a_X adK adV b sc D cA A p l R s m args meth c d k) (hI : a_I D cA adK b A s H locs θ w) (hF : a_F θ w (mX k) sl ls st) (hd : a_lk (mC k) pc = some (.i2l, len)) (h0 : ins sc d k pc ls st w (.i2l) = some N) (hr : nc + N.2.2.2.2.1 ≤ R.cells ∧ ns + N.2.2.2.2.2 ≤ R.slots) (K : a_Go adK b D cA A p l e R s m args below meth c Q k θ w nc ns N) : W p l e R s m args below meth c H locs nc ns Q (F0 m pc sl (st.map (a_V θ))) := by
  obtain ⟨⟨hx, hb, hml, hown, hts⟩, -⟩ := id hX
  obtain ⟨x, r, rfl, rfl⟩ := i2l_inl h0
  exact lv_i2l hx hb (a_dec1 hX.kN hd rfl) rfl (K θ H locs sl a_ex_rf hI (hF.st (a_kc (a_rk_long _) (a_tl hF.2.2))))
theorem dup_inl (h : a_dup pc ls st w = some N) : ∃ (v : Value) (r : List Value), st = v :: r ∧ v.category = 1 ∧ N = (pc + 1, ls, v :: v :: r, w, 0, 0) := by
  unfold a_dup at h
  split at h
  · split at h
    · rename_i h1
      exact ⟨_, _, rfl, h1, nx_inl h⟩
    · cases h
  · cases h
theorem pop_inl (h : a_pop pc ls st w = some N) : ∃ (v : Value) (r : List Value), st = v :: r ∧ v.category = 1 ∧ N = (pc + 1, ls, r, w, 0, 0) := by
  unfold a_pop at h
  split at h
  · split at h
    · rename_i h1
      exact ⟨_, _, rfl, h1, nx_inl h⟩
    · cases h
  · cases h
theorem dup2_inl (h : a_dup2 pc ls st w = some N) : ∃ (u v : Value) (r : List Value), st = u :: v :: r ∧ (u.category = 1 ∧ v.category = 1) ∧ N = (pc + 1, ls, u :: v :: u :: v :: r, w, 0, 0) := by
  unfold a_dup2 at h
  split at h
  · split at h
    · rename_i h1
      exact ⟨_, _, _, rfl, h1, nx_inl h⟩
    · cases h
  · cases h
theorem s_dup (hX : a_X adK adV b sc D cA A p l R s m args meth c d k) (hI : a_I D cA adK b A s H locs θ w) (hF : a_F θ w (mX k) sl ls st) (hd : a_lk (mC k) pc = some (.dup, len)) (h0 : ins sc d k pc ls st w (.dup) = some N) (hr : nc + N.2.2.2.2.1 ≤ R.cells ∧ ns + N.2.2.2.2.2 ≤ R.slots) (K : a_Go adK b D cA A p l e R s m args below meth c Q k θ w nc ns N) : W p l e R s m args below meth c H locs nc ns Q (F0 m pc sl (st.map (a_V θ))) := by
  obtain ⟨⟨hx, hb, hml, hown, hts⟩, -⟩ := id hX
  obtain ⟨v, r, rfl, hc, rfl⟩ := dup_inl h0
  exact lv_dup hx hb (a_dec1 hX.kN hd rfl) (by rw [a_V_cat]; exact hc) (K θ H locs sl a_ex_rf hI (hF.st (a_kc (a_hd hF.2.2) hF.2.2)))
theorem s_pop (hX : a_X adK adV b sc D cA A p l R s m args meth c d k) (hI : a_I D cA adK b A s H locs θ w) (hF : a_F θ w (mX k) sl ls st) (hd : a_lk (mC k) pc = some (.pop, len)) (h0 : ins sc d k pc ls st w (.pop) = some N) (hr : nc + N.2.2.2.2.1 ≤ R.cells ∧ ns + N.2.2.2.2.2 ≤ R.slots) (K : a_Go adK b D cA A p l e R s m args below meth c Q k θ w nc ns N) : W p l e R s m args below meth c H locs nc ns Q (F0 m pc sl (st.map (a_V θ))) := by
  obtain ⟨⟨hx, hb, hml, hown, hts⟩, -⟩ := id hX
  obtain ⟨v, r, rfl, hc, rfl⟩ := pop_inl h0
  exact lv_pop hx hb (a_dec1 hX.kN hd rfl) (by rw [a_V_cat]; exact hc) (K θ H locs sl a_ex_rf hI (hF.st (a_tl hF.2.2)))
theorem s_dup2 (hX : a_X adK adV b sc D cA A p l R s m args meth c d k) (hI : a_I D cA adK b A s H locs θ w) (hF : a_F θ w (mX k) sl ls st) (hd : a_lk (mC k) pc = some (.dup2, len)) (h0 : ins sc d k pc ls st w (.dup2) = some N) (hr : nc + N.2.2.2.2.1 ≤ R.cells ∧ ns + N.2.2.2.2.2 ≤ R.slots) (K : a_Go adK b D cA A p l e R s m args below meth c Q k θ w nc ns N) : W p l e R s m args below meth c H locs nc ns Q (F0 m pc sl (st.map (a_V θ))) := by
  obtain ⟨⟨hx, hb, hml, hown, hts⟩, -⟩ := id hX
  obtain ⟨u, v, r, rfl, hc, rfl⟩ := dup2_inl h0
  exact lv_dup2_11 hx hb (a_dec1 hX.kN hd rfl) (by rw [a_V_cat]; exact hc.1) (by rw [a_V_cat]; exact hc.2) (K θ H locs sl a_ex_rf hI (hF.st (a_kc (a_hd hF.2.2) (a_kc (a_hd (a_tl hF.2.2)) hF.2.2))))
theorem s_goto (hX : a_X adK adV b sc D cA A p l R s m args meth c d k) (hI : a_I D cA adK b A s H locs θ w) (hF : a_F θ w (mX k) sl ls st) {off : Int} (hd : a_lk (mC k) pc = some (.goto off, len)) (h0 : ins sc d k pc ls st w (.goto off) = some N) (hr : nc + N.2.2.2.2.1 ≤ R.cells ∧ ns + N.2.2.2.2.2 ≤ R.slots) (K : a_Go adK b D cA A p l e R s m args below meth c Q k θ w nc ns N) : W p l e R s m args below meth c H locs nc ns Q (F0 m pc sl (st.map (a_V θ))) := by
  obtain ⟨⟨hx, hb, hml, hown, hts⟩, -⟩ := id hX
  obtain ⟨t, ht, rfl⟩ := to_inl h0
  exact lv_goto hx hb (a_dec1 hX.kN hd rfl) ht (K θ H locs sl a_ex_rf hI (hF.st (hF.2.2)))
theorem m1_inl {f : Int32 → List Value → Option AN} (h : (match st with | .int x :: r => f x r | _ => none) = some N) : ∃ (x : Int32) (r : List Value), st = .int x :: r ∧ f x r = some N := by
  split at h
  · exact ⟨_, _, rfl, h⟩
  · cases h
theorem m2_inl {f : Int32 → Int32 → List Value → Option AN} (h : (match st with | .int y :: .int x :: r => f x y r | _ => none) = some N) : ∃ (x y : Int32) (r : List Value), st = .int y :: .int x :: r ∧ f x y r = some N := by
  split at h
  · exact ⟨_, _, _, rfl, h⟩
  · cases h
theorem s_if_eq (hX : a_X adK adV b sc D cA A p l R s m args meth c d k) (hI : a_I D cA adK b A s H locs θ w) (hF : a_F θ w (mX k) sl ls st) {off : Int} (hd : a_lk (mC k) pc = some (.ifCond .eq off, len)) (h0 : ins sc d k pc ls st w (.ifCond .eq off) = some N) (hr : nc + N.2.2.2.2.1 ≤ R.cells ∧ ns + N.2.2.2.2.2 ≤ R.slots) (K : a_Go adK b D cA A p l e R s m args below meth c Q k θ w nc ns N) : W p l e R s m args below meth c H locs nc ns Q (F0 m pc sl (st.map (a_V θ))) := by
  obtain ⟨⟨hx, hb, hml, hown, hts⟩, -⟩ := id hX
  obtain ⟨x, r, rfl, h1⟩ := m1_inl (f := fun x r => a_jmp (x = 0) pc off ls r w) h0
  obtain ⟨t, ht, ⟨hq, rfl⟩ | ⟨hq, rfl⟩⟩ := jmp_inl h1
  · exact lv_if_eq hx hb (a_dec1 hX.kN hd rfl) ht (fun _ => K θ H locs sl a_ex_rf hI (hF.st (a_tl hF.2.2))) (fun q => absurd hq q)
  · exact lv_if_eq hx hb (a_dec1 hX.kN hd rfl) ht (fun q => absurd q hq) (fun _ => K θ H locs sl a_ex_rf hI (hF.st (a_tl hF.2.2)))
theorem s_ic_eq (hX : a_X adK adV b sc D cA A p l R s m args meth c d k) (hI : a_I D cA adK b A s H locs θ w) (hF : a_F θ w (mX k) sl ls st) {off : Int} (hd : a_lk (mC k) pc = some (.if_icmp .eq off, len)) (h0 : ins sc d k pc ls st w (.if_icmp .eq off) = some N) (hr : nc + N.2.2.2.2.1 ≤ R.cells ∧ ns + N.2.2.2.2.2 ≤ R.slots) (K : a_Go adK b D cA A p l e R s m args below meth c Q k θ w nc ns N) : W p l e R s m args below meth c H locs nc ns Q (F0 m pc sl (st.map (a_V θ))) := by
  obtain ⟨⟨hx, hb, hml, hown, hts⟩, -⟩ := id hX
  obtain ⟨x, y, r, rfl, h1⟩ := m2_inl (f := fun x y r => a_jmp (x = y) pc off ls r w) h0
  obtain ⟨t, ht, ⟨hq, rfl⟩ | ⟨hq, rfl⟩⟩ := jmp_inl h1
  · exact lv_icmp_eq hx hb (a_dec1 hX.kN hd rfl) ht (fun _ => K θ H locs sl a_ex_rf hI (hF.st (a_tl (a_tl hF.2.2)))) (fun q => absurd hq q)
  · exact lv_icmp_eq hx hb (a_dec1 hX.kN hd rfl) ht (fun q => absurd q hq) (fun _ => K θ H locs sl a_ex_rf hI (hF.st (a_tl (a_tl hF.2.2))))
theorem s_if_ne (hX : a_X adK adV b sc D cA A p l R s m args meth c d k) (hI : a_I D cA adK b A s H locs θ w) (hF : a_F θ w (mX k) sl ls st) {off : Int} (hd : a_lk (mC k) pc = some (.ifCond .ne off, len)) (h0 : ins sc d k pc ls st w (.ifCond .ne off) = some N) (hr : nc + N.2.2.2.2.1 ≤ R.cells ∧ ns + N.2.2.2.2.2 ≤ R.slots) (K : a_Go adK b D cA A p l e R s m args below meth c Q k θ w nc ns N) : W p l e R s m args below meth c H locs nc ns Q (F0 m pc sl (st.map (a_V θ))) := by
  obtain ⟨⟨hx, hb, hml, hown, hts⟩, -⟩ := id hX
  obtain ⟨x, r, rfl, h1⟩ := m1_inl (f := fun x r => a_jmp (¬ x = 0) pc off ls r w) h0
  obtain ⟨t, ht, ⟨hq, rfl⟩ | ⟨hq, rfl⟩⟩ := jmp_inl h1
  · exact lv_if_ne hx hb (a_dec1 hX.kN hd rfl) ht (fun _ => K θ H locs sl a_ex_rf hI (hF.st (a_tl hF.2.2))) (fun q => absurd q hq)
  · exact lv_if_ne hx hb (a_dec1 hX.kN hd rfl) ht (fun q => absurd q hq) (fun _ => K θ H locs sl a_ex_rf hI (hF.st (a_tl hF.2.2)))
theorem s_ic_ne (hX : a_X adK adV b sc D cA A p l R s m args meth c d k) (hI : a_I D cA adK b A s H locs θ w) (hF : a_F θ w (mX k) sl ls st) {off : Int} (hd : a_lk (mC k) pc = some (.if_icmp .ne off, len)) (h0 : ins sc d k pc ls st w (.if_icmp .ne off) = some N) (hr : nc + N.2.2.2.2.1 ≤ R.cells ∧ ns + N.2.2.2.2.2 ≤ R.slots) (K : a_Go adK b D cA A p l e R s m args below meth c Q k θ w nc ns N) : W p l e R s m args below meth c H locs nc ns Q (F0 m pc sl (st.map (a_V θ))) := by
  obtain ⟨⟨hx, hb, hml, hown, hts⟩, -⟩ := id hX
  obtain ⟨x, y, r, rfl, h1⟩ := m2_inl (f := fun x y r => a_jmp (¬ x = y) pc off ls r w) h0
  obtain ⟨t, ht, ⟨hq, rfl⟩ | ⟨hq, rfl⟩⟩ := jmp_inl h1
  · exact lv_icmp_ne hx hb (a_dec1 hX.kN hd rfl) ht (fun _ => K θ H locs sl a_ex_rf hI (hF.st (a_tl (a_tl hF.2.2)))) (fun q => absurd q hq)
  · exact lv_icmp_ne hx hb (a_dec1 hX.kN hd rfl) ht (fun q => absurd q hq) (fun _ => K θ H locs sl a_ex_rf hI (hF.st (a_tl (a_tl hF.2.2))))
theorem s_if_lt (hX : a_X adK adV b sc D cA A p l R s m args meth c d k) (hI : a_I D cA adK b A s H locs θ w) (hF : a_F θ w (mX k) sl ls st) {off : Int} (hd : a_lk (mC k) pc = some (.ifCond .lt off, len)) (h0 : ins sc d k pc ls st w (.ifCond .lt off) = some N) (hr : nc + N.2.2.2.2.1 ≤ R.cells ∧ ns + N.2.2.2.2.2 ≤ R.slots) (K : a_Go adK b D cA A p l e R s m args below meth c Q k θ w nc ns N) : W p l e R s m args below meth c H locs nc ns Q (F0 m pc sl (st.map (a_V θ))) := by
  obtain ⟨⟨hx, hb, hml, hown, hts⟩, -⟩ := id hX
  obtain ⟨x, r, rfl, h1⟩ := m1_inl (f := fun x r => a_jmp (x < 0) pc off ls r w) h0
  obtain ⟨t, ht, ⟨hq, rfl⟩ | ⟨hq, rfl⟩⟩ := jmp_inl h1
  · exact lv_if_lt hx hb (a_dec1 hX.kN hd rfl) ht (fun _ => K θ H locs sl a_ex_rf hI (hF.st (a_tl hF.2.2))) (fun q => absurd hq q)
  · exact lv_if_lt hx hb (a_dec1 hX.kN hd rfl) ht (fun q => absurd q hq) (fun _ => K θ H locs sl a_ex_rf hI (hF.st (a_tl hF.2.2)))
theorem s_ic_lt (hX : a_X adK adV b sc D cA A p l R s m args meth c d k) (hI : a_I D cA adK b A s H locs θ w) (hF : a_F θ w (mX k) sl ls st) {off : Int} (hd : a_lk (mC k) pc = some (.if_icmp .lt off, len)) (h0 : ins sc d k pc ls st w (.if_icmp .lt off) = some N) (hr : nc + N.2.2.2.2.1 ≤ R.cells ∧ ns + N.2.2.2.2.2 ≤ R.slots) (K : a_Go adK b D cA A p l e R s m args below meth c Q k θ w nc ns N) : W p l e R s m args below meth c H locs nc ns Q (F0 m pc sl (st.map (a_V θ))) := by
  obtain ⟨⟨hx, hb, hml, hown, hts⟩, -⟩ := id hX
  obtain ⟨x, y, r, rfl, h1⟩ := m2_inl (f := fun x y r => a_jmp (x < y) pc off ls r w) h0
  obtain ⟨t, ht, ⟨hq, rfl⟩ | ⟨hq, rfl⟩⟩ := jmp_inl h1
  · exact lv_icmp_lt hx hb (a_dec1 hX.kN hd rfl) ht (fun _ => K θ H locs sl a_ex_rf hI (hF.st (a_tl (a_tl hF.2.2)))) (fun q => absurd hq q)
  · exact lv_icmp_lt hx hb (a_dec1 hX.kN hd rfl) ht (fun q => absurd q hq) (fun _ => K θ H locs sl a_ex_rf hI (hF.st (a_tl (a_tl hF.2.2))))
theorem s_if_ge (hX : a_X adK adV b sc D cA A p l R s m args meth c d k) (hI : a_I D cA adK b A s H locs θ w) (hF : a_F θ w (mX k) sl ls st) {off : Int} (hd : a_lk (mC k) pc = some (.ifCond .ge off, len)) (h0 : ins sc d k pc ls st w (.ifCond .ge off) = some N) (hr : nc + N.2.2.2.2.1 ≤ R.cells ∧ ns + N.2.2.2.2.2 ≤ R.slots) (K : a_Go adK b D cA A p l e R s m args below meth c Q k θ w nc ns N) : W p l e R s m args below meth c H locs nc ns Q (F0 m pc sl (st.map (a_V θ))) := by
  obtain ⟨⟨hx, hb, hml, hown, hts⟩, -⟩ := id hX
  obtain ⟨x, r, rfl, h1⟩ := m1_inl (f := fun x r => a_jmp (0 ≤ x) pc off ls r w) h0
  obtain ⟨t, ht, ⟨hq, rfl⟩ | ⟨hq, rfl⟩⟩ := jmp_inl h1
  · exact lv_if_ge hx hb (a_dec1 hX.kN hd rfl) ht (fun _ => K θ H locs sl a_ex_rf hI (hF.st (a_tl hF.2.2))) (fun q => absurd hq q)
  · exact lv_if_ge hx hb (a_dec1 hX.kN hd rfl) ht (fun q => absurd q hq) (fun _ => K θ H locs sl a_ex_rf hI (hF.st (a_tl hF.2.2)))
theorem s_ic_ge (hX : a_X adK adV b sc D cA A p l R s m args meth c d k) (hI : a_I D cA adK b A s H locs θ w) (hF : a_F θ w (mX k) sl ls st) {off : Int} (hd : a_lk (mC k) pc = some (.if_icmp .ge off, len)) (h0 : ins sc d k pc ls st w (.if_icmp .ge off) = some N) (hr : nc + N.2.2.2.2.1 ≤ R.cells ∧ ns + N.2.2.2.2.2 ≤ R.slots) (K : a_Go adK b D cA A p l e R s m args below meth c Q k θ w nc ns N) : W p l e R s m args below meth c H locs nc ns Q (F0 m pc sl (st.map (a_V θ))) := by
  obtain ⟨⟨hx, hb, hml, hown, hts⟩, -⟩ := id hX
  obtain ⟨x, y, r, rfl, h1⟩ := m2_inl (f := fun x y r => a_jmp (y ≤ x) pc off ls r w) h0
  obtain ⟨t, ht, ⟨hq, rfl⟩ | ⟨hq, rfl⟩⟩ := jmp_inl h1
  · exact lv_icmp_ge hx hb (a_dec1 hX.kN hd rfl) ht (fun _ => K θ H locs sl a_ex_rf hI (hF.st (a_tl (a_tl hF.2.2)))) (fun q => absurd hq q)
  · exact lv_icmp_ge hx hb (a_dec1 hX.kN hd rfl) ht (fun q => absurd q hq) (fun _ => K θ H locs sl a_ex_rf hI (hF.st (a_tl (a_tl hF.2.2))))
theorem s_if_gt (hX : a_X adK adV b sc D cA A p l R s m args meth c d k) (hI : a_I D cA adK b A s H locs θ w) (hF : a_F θ w (mX k) sl ls st) {off : Int} (hd : a_lk (mC k) pc = some (.ifCond .gt off, len)) (h0 : ins sc d k pc ls st w (.ifCond .gt off) = some N) (hr : nc + N.2.2.2.2.1 ≤ R.cells ∧ ns + N.2.2.2.2.2 ≤ R.slots) (K : a_Go adK b D cA A p l e R s m args below meth c Q k θ w nc ns N) : W p l e R s m args below meth c H locs nc ns Q (F0 m pc sl (st.map (a_V θ))) := by
  obtain ⟨⟨hx, hb, hml, hown, hts⟩, -⟩ := id hX
  obtain ⟨x, r, rfl, h1⟩ := m1_inl (f := fun x r => a_jmp (0 < x) pc off ls r w) h0
  obtain ⟨t, ht, ⟨hq, rfl⟩ | ⟨hq, rfl⟩⟩ := jmp_inl h1
  · exact lv_if_gt hx hb (a_dec1 hX.kN hd rfl) ht (fun _ => K θ H locs sl a_ex_rf hI (hF.st (a_tl hF.2.2))) (fun q => absurd hq q)
  · exact lv_if_gt hx hb (a_dec1 hX.kN hd rfl) ht (fun q => absurd q hq) (fun _ => K θ H locs sl a_ex_rf hI (hF.st (a_tl hF.2.2)))
theorem s_ic_gt (hX : a_X adK adV b sc D cA A p l R s m args meth c d k) (hI : a_I D cA adK b A s H locs θ w) (hF : a_F θ w (mX k) sl ls st) {off : Int} (hd : a_lk (mC k) pc = some (.if_icmp .gt off, len)) (h0 : ins sc d k pc ls st w (.if_icmp .gt off) = some N) (hr : nc + N.2.2.2.2.1 ≤ R.cells ∧ ns + N.2.2.2.2.2 ≤ R.slots) (K : a_Go adK b D cA A p l e R s m args below meth c Q k θ w nc ns N) : W p l e R s m args below meth c H locs nc ns Q (F0 m pc sl (st.map (a_V θ))) := by
  obtain ⟨⟨hx, hb, hml, hown, hts⟩, -⟩ := id hX
  obtain ⟨x, y, r, rfl, h1⟩ := m2_inl (f := fun x y r => a_jmp (y < x) pc off ls r w) h0
  obtain ⟨t, ht, ⟨hq, rfl⟩ | ⟨hq, rfl⟩⟩ := jmp_inl h1
  · exact lv_icmp_gt hx hb (a_dec1 hX.kN hd rfl) ht (fun _ => K θ H locs sl a_ex_rf hI (hF.st (a_tl (a_tl hF.2.2)))) (fun q => absurd hq q)
  · exact lv_icmp_gt hx hb (a_dec1 hX.kN hd rfl) ht (fun q => absurd q hq) (fun _ => K θ H locs sl a_ex_rf hI (hF.st (a_tl (a_tl hF.2.2))))
theorem s_if_le (hX : a_X adK adV b sc D cA A p l R s m args meth c d k) (hI : a_I D cA adK b A s H locs θ w) (hF : a_F θ w (mX k) sl ls st) {off : Int} (hd : a_lk (mC k) pc = some (.ifCond .le off, len)) (h0 : ins sc d k pc ls st w (.ifCond .le off) = some N) (hr : nc + N.2.2.2.2.1 ≤ R.cells ∧ ns + N.2.2.2.2.2 ≤ R.slots) (K : a_Go adK b D cA A p l e R s m args below meth c Q k θ w nc ns N) : W p l e R s m args below meth c H locs nc ns Q (F0 m pc sl (st.map (a_V θ))) := by
  obtain ⟨⟨hx, hb, hml, hown, hts⟩, -⟩ := id hX
  obtain ⟨x, r, rfl, h1⟩ := m1_inl (f := fun x r => a_jmp (x ≤ 0) pc off ls r w) h0
  obtain ⟨t, ht, ⟨hq, rfl⟩ | ⟨hq, rfl⟩⟩ := jmp_inl h1
  · exact lv_if_le hx hb (a_dec1 hX.kN hd rfl) ht (fun _ => K θ H locs sl a_ex_rf hI (hF.st (a_tl hF.2.2))) (fun q => absurd hq q)
  · exact lv_if_le hx hb (a_dec1 hX.kN hd rfl) ht (fun q => absurd q hq) (fun _ => K θ H locs sl a_ex_rf hI (hF.st (a_tl hF.2.2)))
theorem s_ic_le (hX : a_X adK adV b sc D cA A p l R s m args meth c d k) (hI : a_I D cA adK b A s H locs θ w) (hF : a_F θ w (mX k) sl ls st) {off : Int} (hd : a_lk (mC k) pc = some (.if_icmp .le off, len)) (h0 : ins sc d k pc ls st w (.if_icmp .le off) = some N) (hr : nc + N.2.2.2.2.1 ≤ R.cells ∧ ns + N.2.2.2.2.2 ≤ R.slots) (K : a_Go adK b D cA A p l e R s m args below meth c Q k θ w nc ns N) : W p l e R s m args below meth c H locs nc ns Q (F0 m pc sl (st.map (a_V θ))) := by
  obtain ⟨⟨hx, hb, hml, hown, hts⟩, -⟩ := id hX
  obtain ⟨x, y, r, rfl, h1⟩ := m2_inl (f := fun x y r => a_jmp (x ≤ y) pc off ls r w) h0
  obtain ⟨t, ht, ⟨hq, rfl⟩ | ⟨hq, rfl⟩⟩ := jmp_inl h1
  · exact lv_icmp_le hx hb (a_dec1 hX.kN hd rfl) ht (fun _ => K θ H locs sl a_ex_rf hI (hF.st (a_tl (a_tl hF.2.2)))) (fun q => absurd hq q)
  · exact lv_icmp_le hx hb (a_dec1 hX.kN hd rfl) ht (fun q => absurd q hq) (fun _ => K θ H locs sl a_ex_rf hI (hF.st (a_tl (a_tl hF.2.2))))
theorem tsw_inl {dflt lo hi : Int} {offs : Array Int} (h : a_tsw dflt lo hi offs pc ls st w = some N) : ∃ (x : Int32) (r : List Value), st = .int x :: r ∧ (((x.toInt < lo ∨ hi < x.toInt) ∧ a_to pc dflt ls r w = some N) ∨ (¬ (x.toInt < lo ∨ hi < x.toInt) ∧ ∃ off : Int, offs[(x.toInt - lo).toNat]? = some off ∧ a_to pc off ls r w = some N)) := by
  unfold a_tsw at h
  split at h
  · refine ⟨_, _, rfl, ?_⟩
    split at h
    · rename_i h1
      exact Or.inl ⟨h1, h⟩
    · rename_i h1
      split at h
      · rename_i off ho
        exact Or.inr ⟨h1, off, ho, h⟩
      · cases h
  · cases h
theorem lsw_inl {dflt : Int} {ps : Array (Int × Int)} (h : a_lsw dflt ps pc ls st w = some N) : ∃ (x : Int32) (r : List Value), st = .int x :: r ∧ (ps.toList.zip (ps.toList.drop 1)).all (fun (a, next) => a.1 < next.1) = true ∧ a_to pc (Op.lookupswitch.offset ps.toList dflt x.toInt) ls r w = some N := by
  unfold a_lsw at h
  split at h
  · split at h
    · rename_i h1
      exact ⟨_, _, rfl, h1, h⟩
    · cases h
  · cases h
theorem s_tsw (hX : a_X adK adV b sc D cA A p l R s m args meth c d k) (hI : a_I D cA adK b A s H locs θ w) (hF : a_F θ w (mX k) sl ls st) {dflt lo hi : Int} {offs : Array Int} (hd : a_lk (mC k) pc = some (.tableswitch dflt lo hi offs, len)) (h0 : ins sc d k pc ls st w (.tableswitch dflt lo hi offs) = some N) (hr : nc + N.2.2.2.2.1 ≤ R.cells ∧ ns + N.2.2.2.2.2 ≤ R.slots) (K : a_Go adK b D cA A p l e R s m args below meth c Q k θ w nc ns N) : W p l e R s m args below meth c H locs nc ns Q (F0 m pc sl (st.map (a_V θ))) := by
  obtain ⟨⟨hx, hb, hml, hown, hts⟩, -⟩ := id hX
  obtain ⟨x, r, rfl, h1 | h1⟩ := tsw_inl h0
  · obtain ⟨hq, h1⟩ := h1
    obtain ⟨t, ht, rfl⟩ := to_inl h1
    exact lv_tableOut hx hb (a_dec hX.kN hd) hq ht (K θ H locs sl a_ex_rf hI (hF.st (a_tl hF.2.2)))
  · obtain ⟨hq, off, ho, h1⟩ := h1
    obtain ⟨t, ht, rfl⟩ := to_inl h1
    exact lv_tableIn hx hb (a_dec hX.kN hd) (fun q => hq (Or.inl q)) (fun q => hq (Or.inr q)) ho ht (K θ H locs sl a_ex_rf hI (hF.st (a_tl hF.2.2)))
theorem s_lsw (hX : a_X adK adV b sc D cA A p l R s m args meth c d k) (hI : a_I D cA adK b A s H locs θ w) (hF : a_F θ w (mX k) sl ls st) {dflt : Int} {ps : Array (Int × Int)} (hd : a_lk (mC k) pc = some (.lookupswitch dflt ps, len)) (h0 : ins sc d k pc ls st w (.lookupswitch dflt ps) = some N) (hr : nc + N.2.2.2.2.1 ≤ R.cells ∧ ns + N.2.2.2.2.2 ≤ R.slots) (K : a_Go adK b D cA A p l e R s m args below meth c Q k θ w nc ns N) : W p l e R s m args below meth c H locs nc ns Q (F0 m pc sl (st.map (a_V θ))) := by
  obtain ⟨⟨hx, hb, hml, hown, hts⟩, -⟩ := id hX
  obtain ⟨x, r, rfl, hp, h1⟩ := lsw_inl h0
  obtain ⟨t, ht, rfl⟩ := to_inl h1
  exact lv_lookup hx hb (a_dec hX.kN hd) hp rfl ht (K θ H locs sl a_ex_rf hI (hF.st (a_tl hF.2.2)))
end AINS
end
section
/-! ===== the instructions that read and write the world ===== -/
theorem get_inl {c x pc : Nat} {ls : AL} {st : List Value} {w : AW} {N : AN} (h : a_get c x pc ls st w = some N) : ∃ (a ci f : Nat) (fs r : List Value) (v : Value), st = .ref a :: r ∧ a_lk (kF c) x = some (ci, f) ∧ w[a]? = some (.inr (ci, fs)) ∧ fs[f]? = some v ∧ N = (pc + 3, ls, v :: r, w, 0, 0) := by
  unfold a_get at h
  split at h
  · rename_i a r
    split at h
    · rename_i ci f hk
      split at h
      · rename_i cj fs hw
        split at h
        · rename_i e
          subst e
          split at h
          · rename_i v hv
            exact ⟨a, ci, f, fs, r, v, rfl, hk, hw, hv, nx_inl h⟩
          · cases h
        · cases h
      · cases h
    · cases h
  · cases h
theorem put_inl {k x pc : Nat} {ls : AL} {st : List Value} {w : AW} {N : AN} (h : a_put k x pc ls st w = some N) : ∃ (a ci f : Nat) (fs r : List Value) (v : Value), st = v :: .ref a :: r ∧ a_lk (kF (mK k)) x = some (ci, f) ∧ w[a]? = some (.inr (ci, fs)) ∧ f < fs.length ∧ a_fit (YF ci f) v = true ∧ ((TF ci f).2.2.2 = false ∨ (mD k = 2 ∧ mK k = ci)) ∧ N = (pc + 3, ls, r, w.set a (.inr (ci, fs.set f v)), 0, 0) := by
  unfold a_put at h
  split at h
  · rename_i v a r
    split at h
    · rename_i ci f hk
      split at h
      · rename_i cj fs hw
        split at h
        · rename_i e
          obtain ⟨⟨e1, e2⟩, e3, e4⟩ := e
          subst e1
          exact ⟨a, ci, f, fs, r, v, rfl, hk, hw, e2, e3, e4, nx_inl h⟩
        · cases h
      · cases h
    · cases h
  · cases h
theorem a_fit_V {ty : FieldType} {v : Value} (θ : Nat → Nat) (h : a_fit ty v = true) : narrow ty (a_V θ v) = a_V θ v ∧ fits ty (a_V θ v) = true := by
  cases ty <;> cases v <;> first | exact ⟨rfl, rfl⟩ | cases h
theorem a_in {i : Int32} {n : Nat} (h : 0 ≤ i) (h2 : i.toNatClampNeg < n) : vp_in i n := by
  unfold vp_in
  rintro (q | q)
  · exact absurd h (Int32.not_le.mpr q)
  · omega
theorem ild_inl {t pc : Nat} {sc : List Int32} {ls : AL} {st : List Value} {w : AW} {N : AN} (h : a_ild t sc pc ls st w = some N) : ∃ (i x : Int32) (a : Nat) (r : List Value), st = .int i :: .ref a :: r ∧ 0 ≤ i ∧ N = (pc + 1, ls, .int x :: r, w, 0, 0) ∧ ((a = a_SC ∧ t = 0 ∧ sc[i.toNatClampNeg]? = some x) ∨ ∃ l : List Int32, w[a]? = some (.inl (t, .inl l)) ∧ l[i.toNatClampNeg]? = some x) := by
  unfold a_ild at h
  split at h
  · rename_i i a r
    split at h
    · rename_i h0
      split at h
      · rename_i h1
        split at h
        · rename_i x hx
          exact ⟨i, x, a, r, rfl, h0, nx_inl h, Or.inl ⟨h1.1, h1.2, hx⟩⟩
        · cases h
      · split at h
        · rename_i u l hw
          split at h
          · rename_i e
            subst e
            split at h
            · rename_i x hx
              exact ⟨i, x, a, r, rfl, h0, nx_inl h, Or.inr ⟨l, hw, hx⟩⟩
            · cases h
          · cases h
        · cases h
    · cases h
  · cases h
theorem lld_inl {pc : Nat} {ls : AL} {st : List Value} {w : AW} {N : AN} (h : a_lld pc ls st w = some N) : ∃ (i : Int32) (x : Int64) (a : Nat) (r : List Value) (l : List Int64), st = .int i :: .ref a :: r ∧ 0 ≤ i ∧ N = (pc + 1, ls, .long x :: r, w, 0, 0) ∧ w[a]? = some (.inl (2, .inr l)) ∧ l[i.toNatClampNeg]? = some x := by
  unfold a_lld at h
  split at h
  · rename_i i a r
    split at h
    · rename_i h0
      split at h
      · rename_i u l hw
        split at h
        · rename_i e
          subst e
          split at h
          · rename_i x hx
            exact ⟨i, x, a, r, l, rfl, h0, nx_inl h, hw, hx⟩
          · cases h
        · cases h
      · cases h
    · cases h
  · cases h
theorem ist_inl {pc : Nat} {ls : AL} {st : List Value} {w : AW} {N : AN} (h : a_ist pc ls st w = some N) : ∃ (i x : Int32) (a : Nat) (r : List Value) (l : List Int32), st = .int x :: .int i :: .ref a :: r ∧ 0 ≤ i ∧ w[a]? = some (.inl (0, .inl l)) ∧ i.toNatClampNeg < l.length ∧ N = (pc + 1, ls, r, w.set a (.inl (0, .inl (l.set i.toNatClampNeg x))), 0, 0) := by
  unfold a_ist at h
  split at h
  · rename_i x i a r
    split at h
    · rename_i h0
      split at h
      · rename_i u l hw
        split at h
        · rename_i e
          obtain ⟨e1, e2⟩ := e
          subst e1
          exact ⟨i, x, a, r, l, rfl, h0, hw, e2, nx_inl h⟩
        · cases h
      · cases h
    · cases h
  · cases h
theorem bst_inl {pc : Nat} {ls : AL} {st : List Value} {w : AW} {N : AN} (h : a_bst pc ls st w = some N) : ∃ (i x : Int32) (a : Nat) (r : List Value) (l : List Int32), st = .int x :: .int i :: .ref a :: r ∧ 0 ≤ i ∧ w[a]? = some (.inl (1, .inl l)) ∧ i.toNatClampNeg < l.length ∧ N = (pc + 1, ls, r, w.set a (.inl (1, .inl (l.set i.toNatClampNeg x.toInt8.toInt32))), 0, 0) := by
  unfold a_bst at h
  split at h
  · rename_i x i a r
    split at h
    · rename_i h0
      split at h
      · rename_i u l hw
        split at h
        · rename_i e
          obtain ⟨e1, e2⟩ := e
          subst e1
          exact ⟨i, x, a, r, l, rfl, h0, hw, e2, nx_inl h⟩
        · cases h
      · cases h
    · cases h
  · cases h
theorem lst_inl {pc : Nat} {ls : AL} {st : List Value} {w : AW} {N : AN} (h : a_lst pc ls st w = some N) : ∃ (i : Int32) (x : Int64) (a : Nat) (r : List Value) (l : List Int64), st = .long x :: .int i :: .ref a :: r ∧ 0 ≤ i ∧ w[a]? = some (.inl (2, .inr l)) ∧ i.toNatClampNeg < l.length ∧ N = (pc + 1, ls, r, w.set a (.inl (2, .inr (l.set i.toNatClampNeg x))), 0, 0) := by
  unfold a_lst at h
  split at h
  · rename_i x i a r
    split at h
    · rename_i h0
      split at h
      · rename_i u l hw
        split at h
        · rename_i e
          obtain ⟨e1, e2⟩ := e
          subst e1
          exact ⟨i, x, a, r, l, rfl, h0, hw, e2, nx_inl h⟩
        · cases h
      · cases h
    · cases h
  · cases h
theorem aln_inl {pc : Nat} {sc : List Int32} {ls : AL} {st : List Value} {w : AW} {N : AN} (h : a_aln sc pc ls st w = some N) : ∃ (a : Nat) (r : List Value), st = .ref a :: r ∧ ((a = a_SC ∧ N = (pc + 1, ls, .int (Int32.ofNat sc.length) :: r, w, 0, 0)) ∨ (∃ (u : Nat) (l : List Int32), w[a]? = some (.inl (u, .inl l)) ∧ u < 2 ∧ N = (pc + 1, ls, .int (Int32.ofNat l.length) :: r, w, 0, 0)) ∨ ∃ l : List Int64, w[a]? = some (.inl (2, .inr l)) ∧ N = (pc + 1, ls, .int (Int32.ofNat l.length) :: r, w, 0, 0)) := by
  unfold a_aln at h
  split at h
  · rename_i a r
    refine ⟨a, r, rfl, ?_⟩
    split at h
    · rename_i e
      exact Or.inl ⟨e, nx_inl h⟩
    · split at h
      · rename_i u l hw
        split at h
        · rename_i e
          exact Or.inr (Or.inl ⟨u, l, hw, e, nx_inl h⟩)
        · cases h
      · rename_i u l hw
        split at h
        · rename_i e
          subst e
          exact Or.inr (Or.inr ⟨l, hw, nx_inl h⟩)
        · cases h
      · cases h
  · cases h
theorem a_upd {l : List Int32} {i : Nat} {x : Int32} (h : i < l.length) : upd (fun j => l.getD j 0) i x = fun j => (l.set i x).getD j 0 := by
  funext j
  unfold upd
  simp only [List.getD_eq_getElem?_getD, List.getElem?_set]
  by_cases e : j = i
  · subst e; simp [h]
  · simp [e, Ne.symm e]
theorem a_updL {l : List Int64} {i : Nat} {x : Int64} (h : i < l.length) : vp_updL (fun j => l.getD j 0) i x = fun j => (l.set i x).getD j 0 := by
  funext j
  unfold vp_updL
  simp only [List.getD_eq_getElem?_getD, List.getElem?_set]
  by_cases e : j = i
  · subst e; simp [h]
  · simp [e, Ne.symm e]
theorem a_gD {α : Type} {l : List α} {i : Nat} {x d : α} (h : l[i]? = some x) : l.getD i d = x := by simp [List.getD_eq_getElem?_getD, h]
theorem a_lt {α : Type} {l : List α} {i : Nat} {x : α} (h : l[i]? = some x) : i < l.length := (List.getElem?_eq_some_iff.mp h).1
section AHP
variable {p : Program} {l : Launch} {e : Env} {R : Room} {s : State} {m : MethodId} {args : Array Value} {below : List Frame} {meth : Method} {c : Code} {H : Heap} {locs : List Loc} {Q : State → Prop}
variable {adK adV : Nat → Nat} {b : Nat} {sc : List Int32} {D : va_G} {cA : Nat → ClassId} {A : Nat → Prop} {θ : Nat → Nat} {w : AW} {ls : AL} {st : List Value} {sl : Array Slot} {d k pc len nc ns : Nat} {N : AN}
/-- one cell has been written -/
theorem a_I.set {H1 : Heap} {locs1 : List Loc} {a : Nat} {x : AE} (hI : a_I D cA adK b A s H locs θ w) (hx : ∀ (c : Nat) (fs : List Value), x = .inr (c, fs) → ∀ v ∈ fs, a_rk w.length v) (hP : va_P D vwCl ((a_C cA θ w).set a (θ a, a_E cA θ x)) H1) (hD : va_D A ((a_C cA θ w).set a (θ a, a_E cA θ x))) (hS : va_S A s.heap H1 locs1) : a_I D cA adK b A s H1 locs1 θ (w.set a x) := by
  refine ⟨by rw [a_C_set]; exact hP, by rw [a_C_set]; exact hD, hS, a_wf_set hI.2.2.2.1 hx, by rw [List.length_set]; exact hI.2.2.2.2.1, hI.2.2.2.2.2⟩
theorem a_F.set {n a : Nat} {x : AE} {st' : List Value} (hF : a_F θ w n sl ls st) (h' : ∀ v ∈ st', a_rk w.length v) : a_F θ (w.set a x) n sl ls st' := ⟨hF.1, by rw [List.length_set]; exact hF.2.1, by rw [List.length_set]; exact h'⟩
theorem s_getfield (hX : a_X adK adV b sc D cA A p l R s m args meth c d k) (hI : a_I D cA adK b A s H locs θ w) (hF : a_F θ w (mX k) sl ls st) {x : Nat} (hd : a_lk (mC k) pc = some (.getfield x, len)) (h0 : ins sc d k pc ls st w (.getfield x) = some N) (hr : nc + N.2.2.2.2.1 ≤ R.cells ∧ ns + N.2.2.2.2.2 ≤ R.slots) (K : a_Go adK b D cA A p l e R s m args below meth c Q k θ w nc ns N) : W p l e R s m args below meth c H locs nc ns Q (F0 m pc sl (st.map (a_V θ))) := by
  obtain ⟨⟨hx, hb, hml, hown, hts⟩, -⟩ := id hX
  obtain ⟨a, ci, f, fs, r, v, rfl, hk, hw, hv, rfl⟩ := get_inl h0
  obtain ⟨⟨h1, h2, h3⟩, h4⟩ := a_kF hX.kc hk
  have hkn : a_rk w.length v := hI.2.2.2.1 a ci fs hw v (List.mem_of_getElem? hv)
  exact va_get (ref := RN ci) (D := D) (v := a_V θ v) hx hb hts (a_inU h1) hown hX.K hI.1 a (a_C_get hw) (a_vw h1) f h2 (hts _ h4) (fun z hz => by rw [h3] at hz; exact hz) (by rw [List.getElem?_map, hv]; rfl) (a_dec1 hX.kN hd rfl) (K θ H locs sl a_ex_rf hI (hF.st (a_kc hkn (a_tl hF.2.2))))
theorem s_putfield (hX : a_X adK adV b sc D cA A p l R s m args meth c d k) (hI : a_I D cA adK b A s H locs θ w) (hF : a_F θ w (mX k) sl ls st) {x : Nat} (hd : a_lk (mC k) pc = some (.putfield x, len)) (h0 : ins sc d k pc ls st w (.putfield x) = some N) (hr : nc + N.2.2.2.2.1 ≤ R.cells ∧ ns + N.2.2.2.2.2 ≤ R.slots) (K : a_Go adK b D cA A p l e R s m args below meth c Q k θ w nc ns N) : W p l e R s m args below meth c H locs nc ns Q (F0 m pc sl (st.map (a_V θ))) := by
  obtain ⟨⟨hx, hb, hml, hown, hts⟩, -, -, hin, -⟩ := id hX
  obtain ⟨a, ci, f, fs, r, v, rfl, hk, hw, hf, hfit, hfin, rfl⟩ := put_inl h0
  obtain ⟨⟨h1, h2, h3⟩, h4⟩ := a_kF hX.kc hk
  have hfv : ∀ u ∈ fs.set f v, a_rk w.length u := fun u hu => (List.mem_or_eq_of_mem_set hu).elim (fun q => hI.2.2.2.1 a ci fs hw u q) (fun q => by rw [q]; exact a_hd hF.2.2)
  have goes : ∀ (H1 : Heap) (locs1 : List Loc), va_P D vwCl ((a_C cA θ w).set a (θ a, .inr (ci, (fs.map (a_V θ)).set f (a_V θ v)))) H1 → va_D A ((a_C cA θ w).set a (θ a, .inr (ci, (fs.map (a_V θ)).set f (a_V θ v)))) → va_S A s.heap H1 locs1 → W p l e R s m args below meth c H1 locs1 nc ns Q (F0 m (pc + 3) sl (r.map (a_V θ))) := by
    intro H1 locs1 hP hD hS
    have e1 : (fs.map (a_V θ)).set f (a_V θ v) = (fs.set f v).map (a_V θ) := by rw [List.map_set]
    rw [e1] at hP hD
    exact K θ H1 locs1 sl a_ex_rf (hI.set (fun c9 fs9 q9 => by cases q9; exact hfv) hP hD hS) (hF.set (a_tl (a_tl hF.2.2)))
  rcases hfin with hfin | ⟨hd2, hkc⟩
  · exact va_put (ref := RN ci) (D := D) (v := a_V θ v) hx hb hts (a_inU h1) (YF ci) (a_tyF h1) (a_nmF h1) hown hX.K hI.1 hI.2.1 hI.2.2.1 a (a_C_get hw) (a_vw h1) f h2 (hts _ h4) (fun z hz => by rw [h3] at hz; exact hz) hfin (a_tyF h1 f h2) (a_fit_V θ hfit).1 (a_fit_V θ hfit).2 (by rw [List.length_map]; exact hf) (a_dec1 hX.kN hd rfl) goes
  · by_cases hfb : (TF ci f).2.2.2 = false
    · exact va_put (ref := RN ci) (D := D) (v := a_V θ v) hx hb hts (a_inU h1) (YF ci) (a_tyF h1) (a_nmF h1) hown hX.K hI.1 hI.2.1 hI.2.2.1 a (a_C_get hw) (a_vw h1) f h2 (hts _ h4) (fun z hz => by rw [h3] at hz; exact hz) hfb (a_tyF h1 f h2) (a_fit_V θ hfit).1 (a_fit_V θ hfit).2 (by rw [List.length_map]; exact hf) (a_dec1 hX.kN hd rfl) goes
    · exact va_putF (ref := RN ci) (D := D) (v := a_V θ v) hx hb hts (a_inU h1) (YF ci) (a_tyF h1) (a_nmF h1) hown hX.K hI.1 hI.2.1 hI.2.2.1 a (a_C_get hw) (a_vw h1) f h2 (hts _ h4) (fun z hz => by rw [h3] at hz; exact hz) (by simpa using hfb) (hin hd2) (by rw [h3, hkc]) (a_tyF h1 f h2) (a_fit_V θ hfit).1 (a_fit_V θ hfit).2 (by rw [List.length_map]; exact hf) (a_dec1 hX.kN hd rfl) goes
theorem s_iaload (hX : a_X adK adV b sc D cA A p l R s m args meth c d k) (hI : a_I D cA adK b A s H locs θ w) (hF : a_F θ w (mX k) sl ls st) (hd : a_lk (mC k) pc = some (.iaload, len)) (h0 : ins sc d k pc ls st w .iaload = some N) (hr : nc + N.2.2.2.2.1 ≤ R.cells ∧ ns + N.2.2.2.2.2 ≤ R.slots) (K : a_Go adK b D cA A p l e R s m args below meth c Q k θ w nc ns N) : W p l e R s m args below meth c H locs nc ns Q (F0 m pc sl (st.map (a_V θ))) := by
  obtain ⟨⟨hx, hb, hml, hown, hts⟩, -⟩ := id hX
  obtain ⟨i, x, a, r, rfl, hi, rfl, ⟨rfl, -, hv⟩ | ⟨l9, hw, hv⟩⟩ := ild_inl h0
  · have K1 := K θ H locs sl a_ex_rf hI (hF.st (a_kc (a_rk_int x) (a_tl (a_tl hF.2.2))))
    have hE := hX.E.2.2.2.2.2.2.2
    have e1 : θ a_SC = b := hI.2.2.2.2.2.1
    show W p l e R s m args below meth c H locs nc ns Q (F0 m pc sl (.int i :: .ref (θ a_SC) :: r.map (a_V θ)))
    rw [e1]
    refine va_sld hx hb hE.1 hE.2.1 hE.2.2 hI.2.2.1 (a_in hi (a_lt hv)) (a_dec1 hX.kN hd rfl) ?_
    rw [a_gD hv]
    exact K1
  · have K1 := K θ H locs sl a_ex_rf hI (hF.st (a_kc (a_rk_int x) (a_tl (a_tl hF.2.2))))
    refine va_iald hx hb hX.K hI.1 a 0 (a_C_get hw) rfl (a_in hi (a_lt hv)) (a_dec1 hX.kN hd rfl) ?_
    rw [a_gD hv]
    exact K1
theorem s_baload (hX : a_X adK adV b sc D cA A p l R s m args meth c d k) (hI : a_I D cA adK b A s H locs θ w) (hF : a_F θ w (mX k) sl ls st) (hd : a_lk (mC k) pc = some (.baload, len)) (h0 : ins sc d k pc ls st w .baload = some N) (hr : nc + N.2.2.2.2.1 ≤ R.cells ∧ ns + N.2.2.2.2.2 ≤ R.slots) (K : a_Go adK b D cA A p l e R s m args below meth c Q k θ w nc ns N) : W p l e R s m args below meth c H locs nc ns Q (F0 m pc sl (st.map (a_V θ))) := by
  obtain ⟨⟨hx, hb, hml, hown, hts⟩, -⟩ := id hX
  obtain ⟨i, x, a, r, rfl, hi, rfl, ⟨-, h1, -⟩ | ⟨l9, hw, hv⟩⟩ := ild_inl h0
  · cases h1
  · have K1 := K θ H locs sl a_ex_rf hI (hF.st (a_kc (a_rk_int x) (a_tl (a_tl hF.2.2))))
    refine va_bald hx hb hX.K hI.1 a 1 (a_C_get hw) rfl (a_in hi (a_lt hv)) (a_dec1 hX.kN hd rfl) ?_
    rw [a_gD hv]
    exact K1
theorem s_laload (hX : a_X adK adV b sc D cA A p l R s m args meth c d k) (hI : a_I D cA adK b A s H locs θ w) (hF : a_F θ w (mX k) sl ls st) (hd : a_lk (mC k) pc = some (.laload, len)) (h0 : ins sc d k pc ls st w .laload = some N) (hr : nc + N.2.2.2.2.1 ≤ R.cells ∧ ns + N.2.2.2.2.2 ≤ R.slots) (K : a_Go adK b D cA A p l e R s m args below meth c Q k θ w nc ns N) : W p l e R s m args below meth c H locs nc ns Q (F0 m pc sl (st.map (a_V θ))) := by
  obtain ⟨⟨hx, hb, hml, hown, hts⟩, -⟩ := id hX
  obtain ⟨i, x, a, r, l9, rfl, hi, rfl, hw, hv⟩ := lld_inl h0
  have K1 := K θ H locs sl a_ex_rf hI (hF.st (a_kc (a_rk_long x) (a_tl (a_tl hF.2.2))))
  refine va_lald hx hb hX.K hI.1 a 2 (a_C_get hw) rfl (a_in hi (a_lt hv)) (a_dec1 hX.kN hd rfl) ?_
  rw [a_gD hv]
  exact K1
theorem s_iastore (hX : a_X adK adV b sc D cA A p l R s m args meth c d k) (hI : a_I D cA adK b A s H locs θ w) (hF : a_F θ w (mX k) sl ls st) (hd : a_lk (mC k) pc = some (.iastore, len)) (h0 : ins sc d k pc ls st w .iastore = some N) (hr : nc + N.2.2.2.2.1 ≤ R.cells ∧ ns + N.2.2.2.2.2 ≤ R.slots) (K : a_Go adK b D cA A p l e R s m args below meth c Q k θ w nc ns N) : W p l e R s m args below meth c H locs nc ns Q (F0 m pc sl (st.map (a_V θ))) := by
  obtain ⟨⟨hx, hb, hml, hown, hts⟩, -⟩ := id hX
  obtain ⟨i, x, a, r, l9, rfl, hi, hw, hlt, rfl⟩ := ist_inl h0
  refine va_iast hx hb hX.K hI.1 hI.2.1 hI.2.2.1 a 0 (a_C_get hw) rfl (a_in hi hlt) (a_dec1 hX.kN hd rfl) (fun H1 locs1 hP hD hS => ?_)
  rw [a_upd hlt] at hP hD
  have e1 : (θ a, (Sum.inl (cA 0, l9.length, .inl (fun j => (l9.set i.toNatClampNeg x).getD j 0)) : va_E)) = (θ a, a_E cA θ (.inl (0, .inl (l9.set i.toNatClampNeg x)))) := by simp [a_E]
  rw [e1] at hP hD
  exact K θ H1 locs1 sl a_ex_rf (hI.set (fun c9 fs9 q9 => by cases q9) hP hD hS) (hF.set (a_tl (a_tl (a_tl hF.2.2))))
theorem s_bastore (hX : a_X adK adV b sc D cA A p l R s m args meth c d k) (hI : a_I D cA adK b A s H locs θ w) (hF : a_F θ w (mX k) sl ls st) (hd : a_lk (mC k) pc = some (.bastore, len)) (h0 : ins sc d k pc ls st w .bastore = some N) (hr : nc + N.2.2.2.2.1 ≤ R.cells ∧ ns + N.2.2.2.2.2 ≤ R.slots) (K : a_Go adK b D cA A p l e R s m args below meth c Q k θ w nc ns N) : W p l e R s m args below meth c H locs nc ns Q (F0 m pc sl (st.map (a_V θ))) := by
  obtain ⟨⟨hx, hb, hml, hown, hts⟩, -⟩ := id hX
  obtain ⟨i, x, a, r, l9, rfl, hi, hw, hlt, rfl⟩ := bst_inl h0
  refine va_bast hx hb hX.K hI.1 hI.2.1 hI.2.2.1 a 1 (a_C_get hw) rfl (a_in hi hlt) (a_dec1 hX.kN hd rfl) (fun H1 locs1 hP hD hS => ?_)
  rw [vp_nar_byte, a_upd hlt] at hP hD
  have e1 : (θ a, (Sum.inl (cA 1, l9.length, .inl (fun j => (l9.set i.toNatClampNeg x.toInt8.toInt32).getD j 0)) : va_E)) = (θ a, a_E cA θ (.inl (1, .inl (l9.set i.toNatClampNeg x.toInt8.toInt32)))) := by simp [a_E]
  rw [e1] at hP hD
  exact K θ H1 locs1 sl a_ex_rf (hI.set (fun c9 fs9 q9 => by cases q9) hP hD hS) (hF.set (a_tl (a_tl (a_tl hF.2.2))))
theorem s_lastore (hX : a_X adK adV b sc D cA A p l R s m args meth c d k) (hI : a_I D cA adK b A s H locs θ w) (hF : a_F θ w (mX k) sl ls st) (hd : a_lk (mC k) pc = some (.lastore, len)) (h0 : ins sc d k pc ls st w .lastore = some N) (hr : nc + N.2.2.2.2.1 ≤ R.cells ∧ ns + N.2.2.2.2.2 ≤ R.slots) (K : a_Go adK b D cA A p l e R s m args below meth c Q k θ w nc ns N) : W p l e R s m args below meth c H locs nc ns Q (F0 m pc sl (st.map (a_V θ))) := by
  obtain ⟨⟨hx, hb, hml, hown, hts⟩, -⟩ := id hX
  obtain ⟨i, x, a, r, l9, rfl, hi, hw, hlt, rfl⟩ := lst_inl h0
  refine va_last hx hb hX.K hI.1 hI.2.1 hI.2.2.1 a 2 (a_C_get hw) rfl (a_in hi hlt) (a_dec1 hX.kN hd rfl) (fun H1 locs1 hP hD hS => ?_)
  rw [a_updL hlt] at hP hD
  have e1 : (θ a, (Sum.inl (cA 2, l9.length, .inr (.inl (fun j => (l9.set i.toNatClampNeg x).getD j 0))) : va_E)) = (θ a, a_E cA θ (.inl (2, .inr (l9.set i.toNatClampNeg x)))) := by simp [a_E]
  rw [e1] at hP hD
  exact K θ H1 locs1 sl a_ex_rf (hI.set (fun c9 fs9 q9 => by cases q9) hP hD hS) (hF.set (a_tl (a_tl (a_tl hF.2.2))))
theorem s_arraylength (hX : a_X adK adV b sc D cA A p l R s m args meth c d k) (hI : a_I D cA adK b A s H locs θ w) (hF : a_F θ w (mX k) sl ls st) (hd : a_lk (mC k) pc = some (.arraylength, len)) (h0 : ins sc d k pc ls st w .arraylength = some N) (hr : nc + N.2.2.2.2.1 ≤ R.cells ∧ ns + N.2.2.2.2.2 ≤ R.slots) (K : a_Go adK b D cA A p l e R s m args below meth c Q k θ w nc ns N) : W p l e R s m args below meth c H locs nc ns Q (F0 m pc sl (st.map (a_V θ))) := by
  obtain ⟨⟨hx, hb, hml, hown, hts⟩, -⟩ := id hX
  obtain ⟨a, r, rfl, ⟨rfl, rfl⟩ | ⟨u, l9, hw, hu, rfl⟩ | ⟨l9, hw, rfl⟩⟩ := aln_inl h0
  · have K1 := K θ H locs sl a_ex_rf hI (hF.st (a_kc (a_rk_int _) (a_tl hF.2.2)))
    have hE := hX.E.2.2.2.2.2.2.2
    have e1 : θ a_SC = b := hI.2.2.2.2.2.1
    show W p l e R s m args below meth c H locs nc ns Q (F0 m pc sl (.ref (θ a_SC) :: r.map (a_V θ)))
    rw [e1]
    exact va_slen hx hb hE.1 hE.2.1 hE.2.2 hI.2.2.1 (a_dec1 hX.kN hd rfl) K1
  · have K1 := K θ H locs sl a_ex_rf hI (hF.st (a_kc (a_rk_int _) (a_tl hF.2.2)))
    rcases (show u = 0 ∨ u = 1 by omega) with rfl | rfl
    · exact va_alen hx hb hX.K hI.1 a 0 (a_C_get hw) rfl rfl (a_dec1 hX.kN hd rfl) K1
    · exact va_alen hx hb hX.K hI.1 a 1 (a_C_get hw) rfl rfl (a_dec1 hX.kN hd rfl) K1
  · have K1 := K θ H locs sl a_ex_rf hI (hF.st (a_kc (a_rk_int _) (a_tl hF.2.2)))
    exact va_alen hx hb hX.K hI.1 a 2 (a_C_get hw) rfl rfl (a_dec1 hX.kN hd rfl) K1
/-- one cell more -/
theorem a_I.push {H1 : Heap} {q : Nat} {x : AE} (hI : a_I D cA adK b A s H locs θ w) (hw : w.length < a_SC) (hx : ∀ (c : Nat) (fs : List Value), x = .inr (c, fs) → ∀ v ∈ fs, a_rk w.length v) (hP : va_P D vwCl (a_C cA θ w ++ [(q, a_E cA θ x)]) H1) (hD : va_D A (a_C cA θ w ++ [(q, a_E cA θ x)])) (hS : va_S A s.heap H1 locs) : a_ex w.length θ (va_up θ w.length q) ∧ a_I D cA adK b A s H1 locs (va_up θ w.length q) (w ++ [x]) := by
  have hex : a_ex w.length θ (va_up θ w.length q) := fun y hy => va_up_ne θ q (by omega)
  have e1 : a_E cA (va_up θ w.length q) x = a_E cA θ x := by
    rcases x with ⟨t, l9 | l9⟩ | ⟨c9, fs⟩
    · rfl
    · rfl
    · show Sum.inr (c9, fs.map (a_V (va_up θ w.length q))) = Sum.inr (c9, fs.map (a_V θ))
      rw [a_Vs_ex hex (hx c9 fs rfl)]
  have e2 : a_C cA (va_up θ w.length q) (w ++ [x]) = a_C cA θ w ++ [(q, a_E cA θ x)] := by
    rw [a_C_push, a_C_ex hex hI.2.2.2.1, e1, va_up_self]
  refine ⟨hex, by rw [e2]; exact hP, by rw [e2]; exact hD, hS, a_wf_push hI.2.2.2.1 (fun c9 fs9 q9 v hv => a_rk_mono (hx c9 fs9 q9 v hv) (Nat.le_succ _)), by rw [List.length_append]; exact hw, ?_, fun i hi => ?_⟩
  · rw [hex a_SC (Or.inr (Nat.le_refl _))]; exact hI.2.2.2.2.2.1
  · rw [hex _ (Or.inr (by unfold a_SB a_SC; omega))]; exact hI.2.2.2.2.2.2 i hi
theorem a_def_len (c9 : Nat) : (a_def c9).length = NF c9 := by simp [a_def]
theorem a_def_V (θ : Nat → Nat) (c9 : Nat) : (a_def c9).map (a_V θ) = a_def c9 := by
  unfold a_def
  rw [List.map_map]
  exact List.map_congr_left fun j _ => by
    show a_V θ (defaultValue (YF c9 j)) = defaultValue (YF c9 j)
    cases YF c9 j <;> rfl
theorem a_def_k {n c9 : Nat} : ∀ v ∈ a_def c9, a_rk n v := by
  intro v hv
  obtain ⟨j, -, rfl⟩ := List.mem_map.mp hv
  intro a ha
  cases hY : YF c9 j <;> rw [hY] at ha <;> cases ha
theorem new_inl {x : Nat} (h : a_new k x pc ls st w = some N) : ∃ v : Nat, a_lk (kX (mK k)) x = some v ∧ v < 9 ∧ w.length < a_SC ∧ N = (pc + 3, ls, .ref w.length :: st, w ++ [.inr (v, a_def v)], 1, NF v) := by
  unfold a_new at h
  split at h
  · rename_i v hv
    split at h
    · rename_i h1
      exact ⟨v, hv, h1.1, h1.2, (Option.some.inj h).symm⟩
    · cases h
  · cases h
theorem s_new (hX : a_X adK adV b sc D cA A p l R s m args meth c d k) (hI : a_I D cA adK b A s H locs θ w) (hF : a_F θ w (mX k) sl ls st) {x : Nat} (hd : a_lk (mC k) pc = some (.new x, len)) (h0 : ins sc d k pc ls st w (.new x) = some N) (hr : nc + N.2.2.2.2.1 ≤ R.cells ∧ ns + N.2.2.2.2.2 ≤ R.slots) (K : a_Go adK b D cA A p l e R s m args below meth c Q k θ w nc ns N) : W p l e R s m args below meth c H locs nc ns Q (F0 m pc sl (st.map (a_V θ))) := by
  obtain ⟨⟨hx, hb, hml, hown, hts⟩, -⟩ := id hX
  obtain ⟨v, hv, h1, h2, rfl⟩ := new_inl h0
  have hcl : Cond.classLink (RN (mK k)) x (RN v) ∈ ALLW := by
    have h3 := a_inKX hX.kc (a_lk_mem hv)
    have h4 : xNm v = RN v := by unfold xNm; split <;> first | omega | rfl
    unfold wX at h3
    rw [h4] at h3
    exact h3
  refine va_new (fs := a_def v) hx hb hts (a_inU h1) (YF v) (a_tyF h1) hown (hts _ hcl) (hts _ (a_inN h1)) (hts _ (a_inI (by omega))) hX.K hI.1 hI.2.1 hI.2.2.1 hX.aA (a_vw h1) (fun j hj => by simp [vp_V, a_def, hj]) hr.1 hr.2 (a_dec1 hX.kN hd rfl) (fun q H1 hP hD hS => ?_)
  have e1 : (q, (Sum.inr (v, a_def v) : va_E)) = (q, a_E cA θ (.inr (v, a_def v))) := by
    show _ = (q, Sum.inr (v, (a_def v).map (a_V θ)))
    rw [a_def_V]
  rw [e1] at hP hD
  obtain ⟨hex, hI1⟩ := hI.push h2 (fun c9 fs9 q9 => by cases q9; exact a_def_k) hP hD hS
  have K1 := K (va_up θ w.length q) H1 locs sl hex hI1 ((hF.ex hex (by simp)).st (a_kc (a_rk_ref (Or.inl (by simp))) (fun u hu => a_rk_mono (hF.2.2 u hu) (by simp))))
  have e2 : (Value.ref w.length :: st).map (a_V (va_up θ w.length q)) = .ref q :: st.map (a_V θ) := by
    rw [List.map_cons, a_Vs_ex hex hF.2.2]
    show Value.ref (va_up θ w.length q w.length) :: _ = _
    rw [va_up_self]
  rw [e2] at K1
  exact K1
theorem nwa_inl {ty : ArrayType} (h : a_nwa ty pc ls st w = some N) : ∃ (n : Int32) (r : List Value), st = .int n :: r ∧ 0 ≤ n ∧ n.toNatClampNeg ≤ 10000 ∧ w.length < a_SC ∧
    ((ty = .int ∧ N = (pc + 2, ls, .ref w.length :: r, w ++ [.inl (0, .inl (List.replicate n.toNatClampNeg 0))], 1, n.toNatClampNeg)) ∨ (ty = .byte ∧ N = (pc + 2, ls, .ref w.length :: r, w ++ [.inl (1, .inl (List.replicate n.toNatClampNeg 0))], 1, n.toNatClampNeg)) ∨ (ty = .long ∧ N = (pc + 2, ls, .ref w.length :: r, w ++ [.inl (2, .inr (List.replicate n.toNatClampNeg 0))], 1, n.toNatClampNeg))) := by
  unfold a_nwa at h
  split at h
  · rename_i n r
    split at h
    · rename_i h1
      refine ⟨n, r, rfl, h1.1.1, h1.1.2, h1.2, ?_⟩
      cases ty
      case int => exact Or.inl ⟨rfl, (Option.some.inj h).symm⟩
      case byte => exact Or.inr (Or.inl ⟨rfl, (Option.some.inj h).symm⟩)
      case long => exact Or.inr (Or.inr ⟨rfl, (Option.some.inj h).symm⟩)
      all_goals cases h
    · cases h
  · cases h
theorem a_rep {n j : Nat} {α : Type} {z : α} : (List.replicate n z).getD j z = z := by
  simp only [List.getD_eq_getElem?_getD, List.getElem?_replicate]
  split <;> rfl
theorem a_cA {t : Nat} {ty : FieldType} {q : ClassId} (h : (a_ty cA)[t]? = some (cA t, ty)) (hobj : ∀ C9, ty ≠ .object C9) (hK : va_K D vwCl (a_ty cA) s) (hK1 : va_K D vwCl (a_ty cA ++ [(q, ty)]) s) : q = cA t := by
  have h1 := (hK.2 t _ h).2
  have h2 := (hK1.2 (a_ty cA).length (q, ty) (by simp)).2
  unfold va_RA at h1 h2
  cases ty with
  | object C9 => exact absurd rfl (hobj C9)
  | _ => exact Option.some.inj (h2.symm.trans h1)
theorem a_nn {n : Int32} (h : 0 ≤ n) : ¬ n < 0 := fun q => absurd h (Int32.not_le.mpr q)
theorem s_newarray (hX : a_X adK adV b sc D cA A p l R s m args meth c d k) (hI : a_I D cA adK b A s H locs θ w) (hF : a_F θ w (mX k) sl ls st) {ty : ArrayType} (hd : a_lk (mC k) pc = some (.newarray ty, len)) (h0 : ins sc d k pc ls st w (.newarray ty) = some N) (hr : nc + N.2.2.2.2.1 ≤ R.cells ∧ ns + N.2.2.2.2.2 ≤ R.slots) (K : a_Go adK b D cA A p l e R s m args below meth c Q k θ w nc ns N) : W p l e R s m args below meth c H locs nc ns Q (F0 m pc sl (st.map (a_V θ))) := by
  obtain ⟨⟨hx, hb, hml, hown, hts⟩, -⟩ := id hX
  obtain ⟨n, r, rfl, hn, hn2, hwl, hc⟩ := nwa_inl h0
  have goes : ∀ (x : AE) (q : Nat) (H1 : Heap), (∀ (c : Nat) (fs : List Value), x = .inr (c, fs) → ∀ v ∈ fs, a_rk w.length v) → N = (pc + 2, ls, .ref w.length :: r, w ++ [x], 1, n.toNatClampNeg) → va_P D vwCl (a_C cA θ w ++ [(q, a_E cA θ x)]) H1 → va_D A (a_C cA θ w ++ [(q, a_E cA θ x)]) → va_S A s.heap H1 locs → W p l e R s m args below meth c H1 locs (nc + 1) (ns + n.toNatClampNeg) Q (F0 m (pc + 2) sl (.ref q :: r.map (a_V θ))) := by
    intro x q H1 hx9 eN hP hD hS
    subst eN
    obtain ⟨hex, hI1⟩ := hI.push hwl hx9 hP hD hS
    have K1 := K (va_up θ w.length q) H1 locs sl hex hI1 ((hF.ex hex (by simp)).st (a_kc (a_rk_ref (Or.inl (by simp))) (fun u hu => a_rk_mono (a_tl hF.2.2 u hu) (by simp))))
    have e2 : (Value.ref w.length :: r).map (a_V (va_up θ w.length q)) = .ref q :: r.map (a_V θ) := by
      rw [List.map_cons, a_Vs_ex hex (a_tl hF.2.2)]
      show Value.ref (va_up θ w.length q w.length) :: _ = _
      rw [va_up_self]
    rw [e2] at K1
    exact K1
  have hN1 : N.2.2.2.2.1 = 1 ∧ N.2.2.2.2.2 = n.toNatClampNeg := by
    rcases hc with ⟨-, rfl⟩ | ⟨-, rfl⟩ | ⟨-, rfl⟩ <;> exact ⟨rfl, rfl⟩
  rw [hN1.1, hN1.2] at hr
  rcases hc with ⟨rfl, eN⟩ | ⟨rfl, eN⟩ | ⟨rfl, eN⟩
  · refine va_newa (atype := .int) (ty := .int) (a0 := (n.toNatClampNeg, .inl (fun _ => 0))) hx hb (hts _ (a_inB _ (by simp [AWB, newarray.typeOf]))) rfl hX.K hI.1 hI.2.1 hI.2.2.1 hX.aA (fun _ => rfl) (a_nn hn) rfl (by simp only [componentBytes]; omega) hr.1 hr.2 (a_dec1 hX.kN hd rfl) (fun q cq H1 hK1 hP hD hS => ?_)
    have e0 : cq = cA 0 := a_cA (t := 0) rfl (fun _ q => by cases q) hX.K hK1
    have e1 : (q, (Sum.inl (cq, n.toNatClampNeg, .inl (fun _ => 0)) : va_E)) = (q, a_E cA θ (.inl (0, .inl (List.replicate n.toNatClampNeg 0)))) := by
      rw [e0]; simp only [a_E, List.length_replicate, a_rep]
    rw [e1] at hP hD
    exact goes _ q H1 (fun c9 fs9 q9 => by cases q9) eN hP hD hS
  · refine va_newa (atype := .byte) (ty := .byte) (a0 := (n.toNatClampNeg, .inl (fun _ => 0))) hx hb (hts _ (a_inB _ (by simp [AWB, newarray.typeOf]))) rfl hX.K hI.1 hI.2.1 hI.2.2.1 hX.aA (fun _ => rfl) (a_nn hn) rfl (by simp only [componentBytes]; omega) hr.1 hr.2 (a_dec1 hX.kN hd rfl) (fun q cq H1 hK1 hP hD hS => ?_)
    have e0 : cq = cA 1 := a_cA (t := 1) rfl (fun _ q => by cases q) hX.K hK1
    have e1 : (q, (Sum.inl (cq, n.toNatClampNeg, .inl (fun _ => 0)) : va_E)) = (q, a_E cA θ (.inl (1, .inl (List.replicate n.toNatClampNeg 0)))) := by
      rw [e0]; simp only [a_E, List.length_replicate, a_rep]
    rw [e1] at hP hD
    exact goes _ q H1 (fun c9 fs9 q9 => by cases q9) eN hP hD hS
  · refine va_newa (atype := .long) (ty := .long) (a0 := (n.toNatClampNeg, .inr (.inl (fun _ => 0)))) hx hb (hts _ (a_inB _ (by simp [AWB, newarray.typeOf]))) rfl hX.K hI.1 hI.2.1 hI.2.2.1 hX.aA (fun _ => rfl) (a_nn hn) rfl (by simp only [componentBytes]; omega) hr.1 hr.2 (a_dec1 hX.kN hd rfl) (fun q cq H1 hK1 hP hD hS => ?_)
    have e0 : cq = cA 2 := a_cA (t := 2) rfl (fun _ q => by cases q) hX.K hK1
    have e1 : (q, (Sum.inl (cq, n.toNatClampNeg, .inr (.inl (fun _ => 0))) : va_E)) = (q, a_E cA θ (.inl (2, .inr (List.replicate n.toNatClampNeg 0)))) := by
      rw [e0]; simp only [a_E, List.length_replicate, a_rep]
    rw [e1] at hP hD
    exact goes _ q H1 (fun c9 fs9 q9 => by cases q9) eN hP hD hS
end AHP
end
section
/-! ===== what the abstract machine takes whole: Math, arraycopy, a text's length and signs, Object's constructor ===== -/
theorem a_gd {ws : List Cond} (h : ∀ w ∈ ws, w ∈ ALLW) : GoodIn ALLW ws := fun w hw => ⟨h w hw, (g_ALLW w (h w hw)).2⟩
theorem a_cpl_eq {f g : List Int32} {sp dp n : Nat} (h4 : sp + n ≤ f.length) (h5 : dp + n ≤ g.length) : va_cpy (fun j => f.getD j 0) (fun j => g.getD j 0) sp dp n = fun j => (a_cpl f g sp dp n).getD j 0 := by
  funext j
  unfold va_cpy a_cpl
  have e1 : (g.take dp).length = dp := by rw [List.length_take]; omega
  have e2 : ((f.drop sp).take n).length = n := by rw [List.length_take, List.length_drop]; omega
  simp only [List.getD_eq_getElem?_getD]
  by_cases h1 : j < dp
  · rw [if_neg (by omega), List.getElem?_append_left (by omega), List.getElem?_take, if_pos h1]
  · rw [List.getElem?_append_right (by omega), e1]
    by_cases h2 : j < dp + n
    · rw [if_pos ⟨by omega, h2⟩, List.getElem?_append_left (by omega), List.getElem?_take, if_pos (by omega), List.getElem?_drop]
    · rw [if_neg (by omega), List.getElem?_append_right (by omega), e2, List.getElem?_drop, show dp + n + (j - dp - n) = j from by omega]
theorem a_cpl_len {f g : List Int32} {sp dp n : Nat} (h4 : sp + n ≤ f.length) (h5 : dp + n ≤ g.length) : (a_cpl f g sp dp n).length = g.length := by
  unfold a_cpl
  rw [List.length_append, List.length_append, List.length_take, List.length_take, List.length_drop, List.length_drop]
  omega
section AJD
variable {p : Program} {l : Launch} {e : Env} {R : Room} {s : State} {m : MethodId} {args : Array Value} {below : List Frame} {meth : Method} {c : Code} {H : Heap} {locs : List Loc} {Q : State → Prop}
variable {adK adV : Nat → Nat} {b : Nat} {sc : List Int32} {D : va_G} {cA : Nat → ClassId} {A : Nat → Prop} {θ : Nat → Nat} {w : AW} {ls : AL} {st : List Value} {sl : Array Slot} {d k pc len nc ns : Nat} {N : AN}
theorem mth_inl {f : Int32 → Int32 → Int32} (h : a_mth d f pc ls st w = some N) : ∃ (x y : Int32) (r : List Value), st = .int y :: .int x :: r ∧ (1 ≤ d ∧ a_cat r ≤ 8) ∧ N = (pc + 3, ls, .int (f x y) :: r, w, 0, 0) := by
  unfold a_mth at h
  split at h
  · split at h
    · rename_i h1
      exact ⟨_, _, _, rfl, h1, nx_inl h⟩
    · cases h
  · cases h
theorem abs_inl (h : a_abs d pc ls st w = some N) : ∃ (x : Int32) (r : List Value), st = .int x :: r ∧ (1 ≤ d ∧ a_cat r ≤ 8) ∧ N = (pc + 3, ls, .int (if 0 ≤ x then x else 0 - x) :: r, w, 0, 0) := by
  unfold a_abs at h
  split at h
  · split at h
    · rename_i h1
      exact ⟨_, _, rfl, h1, nx_inl h⟩
    · cases h
  · cases h
theorem obj_inl (h : a_obj d pc ls st w = some N) : ∃ (x : Nat) (r : List Value), st = .ref x :: r ∧ (1 ≤ d ∧ a_cat r ≤ 8) ∧ N = (pc + 3, ls, r, w, 0, 0) := by
  unfold a_obj at h
  split at h
  · split at h
    · rename_i h1
      exact ⟨_, _, rfl, h1, nx_inl h⟩
    · cases h
  · cases h
theorem cpy_inl (h : a_cpy d pc ls st w = some N) : ∃ (n dp sp : Int32) (a a0 : Nat) (r : List Value) (f g : List Int32), st = .int n :: .int dp :: .ref a :: .int sp :: .ref a0 :: r ∧ (1 ≤ d ∧ a_cat r ≤ 8) ∧ (0 ≤ n ∧ 0 ≤ dp ∧ 0 ≤ sp) ∧ w[a]? = some (.inl (0, .inl g)) ∧ w[a0]? = some (.inl (0, .inl f)) ∧ sp.toNatClampNeg + n.toNatClampNeg ≤ f.length ∧ dp.toNatClampNeg + n.toNatClampNeg ≤ g.length ∧
    N = (pc + 3, ls, r, w.set a (.inl (0, .inl (a_cpl f g sp.toNatClampNeg dp.toNatClampNeg n.toNatClampNeg))), 0, 0) := by
  unfold a_cpy at h
  split at h
  · split at h
    · rename_i h1
      split at h
      · rename_i u g u0 f hw hw0
        split at h
        · rename_i h2
          obtain ⟨⟨e1, e2⟩, e3, e4⟩ := h2
          subst e1
          subst e2
          exact ⟨_, _, _, _, _, _, f, g, rfl, h1.1, h1.2, hw, hw0, e3, e4, nx_inl h⟩
        · cases h
      · cases h
    · cases h
  · cases h
theorem sln_inl (h : a_sln d pc ls st w = some N) : ∃ (a : Nat) (r : List Value), st = .ref a :: r ∧ (6 ≤ d ∧ a_cat r ≤ 8) ∧ (a_SB ≤ a ∧ a - a_SB < sN) ∧ N = (pc + 3, ls, .int (Int32.ofNat (sB (a - a_SB)).length) :: r, w, 0, 0) := by
  unfold a_sln at h
  split at h
  · split at h
    · rename_i h1
      exact ⟨_, _, rfl, h1.1, h1.2, nx_inl h⟩
    · cases h
  · cases h
theorem sch_inl (h : a_sch d pc ls st w = some N) : ∃ (i x : Int32) (a : Nat) (r : List Value), st = .int i :: .ref a :: r ∧ (6 ≤ d ∧ a_cat r ≤ 8) ∧ (a_SB ≤ a ∧ a - a_SB < sN) ∧ 0 ≤ i ∧ (sB (a - a_SB))[i.toNatClampNeg]? = some x ∧ N = (pc + 3, ls, .int x :: r, w, 0, 0) := by
  unfold a_sch at h
  split at h
  · split at h
    · rename_i h1
      split at h
      · rename_i x hx
        exact ⟨_, x, _, _, rfl, h1.1, h1.2.1, h1.2.2, hx, nx_inl h⟩
      · cases h
    · cases h
  · cases h
theorem a_room (hX : a_X adK adV b sc D cA A p l R s m args meth c d k) {r : List Value} {z n : Nat} (h1 : z ≤ d) (h2 : a_cat r ≤ 8) (h3 : n ≤ 250) : z ≤ R.frames ∧ ((r.map (a_V θ)).map fun v => v.category).sum + n ≤ R.locals := by
  have h4 := hX.f
  have h5 := hX.lo
  have h6 := a_cat_V θ r
  unfold a_lo at h5
  unfold a_cat at h6 h2
  constructor
  · omega
  · rw [h6]; omega
theorem s_ispec (hX : a_X adK adV b sc D cA A p l R s m args meth c d k) (hI : a_I D cA adK b A s H locs θ w) (hF : a_F θ w (mX k) sl ls st) {x : Nat} (hd : a_lk (mC k) pc = some (.invokespecial x, len)) (h0 : ins sc d k pc ls st w (.invokespecial x) = some N) (hr : nc + N.2.2.2.2.1 ≤ R.cells ∧ ns + N.2.2.2.2.2 ≤ R.slots) (K : a_Go adK b D cA A p l e R s m args below meth c Q k θ w nc ns N) : W p l e R s m args below meth c H locs nc ns Q (F0 m pc sl (st.map (a_V θ))) := by
  obtain ⟨⟨hx, hb, hml, hown, hts⟩, -⟩ := id hX
  have h1 : a_inp d k x pc ls st w = some N := h0
  unfold a_inp at h1
  split at h1
  · rename_i j hj
    obtain ⟨a, r, rfl, ⟨hd1, hr1⟩, rfl⟩ := obj_inl h1
    have hw : wM (mK k) (x, 2, j) ∈ ALLW := a_inM hX.kc (a_lk_mem hj) (fun z9 => nomatch z9)
    have q1 := a_room (θ := θ) hX hd1 hr1 (n := 12) (by decide)
    refine W.objInit hx hb hown (hts _ hw) (hts _ (a_inB _ (by simp [AWB]))) (hts _ (a_inB _ (by simp [AWB]))) rfl (by rw [hml]; exact hF.1.1) rfl (a_dec1 hX.kN hd rfl) q1.1 (by show 2 * 0 + _ + 12 ≤ _; omega) ?_
    exact K θ H locs sl a_ex_rf hI (hF.st (a_tl hF.2.2))
  · cases h1
set_option maxHeartbeats 1000000 in
theorem s_istat (hX : a_X adK adV b sc D cA A p l R s m args meth c d k) (hI : a_I D cA adK b A s H locs θ w) (hF : a_F θ w (mX k) sl ls st) {x : Nat} (hd : a_lk (mC k) pc = some (.invokestatic x, len)) (h0 : ins sc d k pc ls st w (.invokestatic x) = some N) (hr : nc + N.2.2.2.2.1 ≤ R.cells ∧ ns + N.2.2.2.2.2 ≤ R.slots) (K : a_Go adK b D cA A p l e R s m args below meth c Q k θ w nc ns N) : W p l e R s m args below meth c H locs nc ns Q (F0 m pc sl (st.map (a_V θ))) := by
  obtain ⟨⟨hx, hb, hml, hown, hts⟩, -⟩ := id hX
  have h1 : a_ins d k x pc ls st w = some N := h0
  unfold a_ins at h1
  split at h1
  · rename_i j hj
    obtain ⟨u, v, r, rfl, ⟨hd1, hr1⟩, rfl⟩ := mth_inl h1
    have hw : wM (mK k) (x, 3, j) ∈ ALLW := a_inM hX.kc (a_lk_mem hj) (fun z9 => nomatch z9)
    have q1 := a_room (θ := θ) hX hd1 hr1 (n := 13) (by decide)
    exact va_mmax hx hb (by rw [hml]; exact hF.1.1.symm) hown (hts _ hw) (hts _ (a_inB _ (by simp [AWB]))) (hts _ (a_inB _ (by simp [AWB]))) (hts _ (a_inB _ (by simp [AWB]))) q1.1 q1.2 hr.1 hr.2 (a_dec1 hX.kN hd rfl) (K θ H locs sl a_ex_rf hI (hF.st (a_kc (a_rk_int _) (a_tl (a_tl hF.2.2)))))
  · rename_i j hj
    obtain ⟨u, v, r, rfl, ⟨hd1, hr1⟩, rfl⟩ := mth_inl h1
    have hw : wM (mK k) (x, 4, j) ∈ ALLW := a_inM hX.kc (a_lk_mem hj) (fun z9 => nomatch z9)
    have q1 := a_room (θ := θ) hX hd1 hr1 (n := 13) (by decide)
    exact va_mmin hx hb (by rw [hml]; exact hF.1.1.symm) hown (hts _ hw) (hts _ (a_inB _ (by simp [AWB]))) (hts _ (a_inB _ (by simp [AWB]))) (hts _ (a_inB _ (by simp [AWB]))) q1.1 q1.2 hr.1 hr.2 (a_dec1 hX.kN hd rfl) (K θ H locs sl a_ex_rf hI (hF.st (a_kc (a_rk_int _) (a_tl (a_tl hF.2.2)))))
  · rename_i j hj
    obtain ⟨u, r, rfl, ⟨hd1, hr1⟩, rfl⟩ := abs_inl h1
    have hw : wM (mK k) (x, 5, j) ∈ ALLW := a_inM hX.kc (a_lk_mem hj) (fun z9 => nomatch z9)
    have q1 := a_room (θ := θ) hX hd1 hr1 (n := 13) (by decide)
    exact va_mabs hx hb (by rw [hml]; exact hF.1.1.symm) hown (hts _ hw) (hts _ (a_inB _ (by simp [AWB]))) (hts _ (a_inB _ (by simp [AWB]))) (hts _ (a_inB _ (by simp [AWB]))) q1.1 q1.2 hr.1 hr.2 (a_dec1 hX.kN hd rfl) (K θ H locs sl a_ex_rf hI (hF.st (a_kc (a_rk_int _) (a_tl hF.2.2))))
  · rename_i j hj
    obtain ⟨n, dp, sp, a, a0, r, f, g, rfl, ⟨hd1, hr1⟩, ⟨hn, hdp, hsp⟩, hwa, hwa0, h4, h5, rfl⟩ := cpy_inl h1
    have hw : wM (mK k) (x, 6, j) ∈ ALLW := a_inM hX.kc (a_lk_mem hj) (fun z9 => nomatch z9)
    have q1 := a_room (θ := θ) hX hd1 hr1 (n := nativeFrameWords "java/lang/System" "arraycopy" 5 + 11) (by decide +kernel)
    refine va_copyi (ty := .int) hx hb (by rw [hml]; exact hF.1.1.symm) hown (hts _ hw) (hts _ (a_inB _ (by simp [AWB]))) (hts _ (a_inB _ (by simp [AWB]))) (hts _ (a_inB _ (by simp [AWB]))) hX.K hI.1 hI.2.1 hI.2.2.1 a0 a 0 0 (a_C_get hwa0) (a_C_get hwa) rfl rfl rfl (a_nn hsp) (a_nn hdp) (a_nn hn) h4 h5 (fun i _ => rfl) q1.1 q1.2 (a_dec1 hX.kN hd rfl) (fun H1 locs1 hP hD hS => ?_)
    rw [a_cpl_eq h4 h5] at hP hD
    have e1 : (θ a, (Sum.inl (cA 0, g.length, .inl (fun j => (a_cpl f g sp.toNatClampNeg dp.toNatClampNeg n.toNatClampNeg).getD j 0)) : va_E)) = (θ a, a_E cA θ (.inl (0, .inl (a_cpl f g sp.toNatClampNeg dp.toNatClampNeg n.toNatClampNeg)))) := by simp [a_E, a_cpl_len h4 h5]
    rw [e1] at hP hD
    exact K θ H1 locs1 sl a_ex_rf (hI.set (fun c9 fs9 q9 => by cases q9) hP hD hS) (hF.set (a_tl (a_tl (a_tl (a_tl (a_tl hF.2.2))))))
  · cases h1
/-- behind a call that left the world as it was -/
theorem a_I.still {H1 : Heap} {locs1 : List Loc} (hI : a_I D cA adK b A s H locs θ w) (hk : ∀ q : Nat, q < H.size → ¬ st_0 q → H1[q]? = H[q]?) (hS : va_S A s.heap H1 locs1) : a_I D cA adK b A s H1 locs1 θ w :=
  ⟨hI.1.kept (fun i q hq => hk q.1 ((hI.1 i q hq).lt) (fun h => h)), hI.2.1, hS, hI.2.2.2⟩
theorem sB_ok : ((List.range sN).all fun i => decide ((sB i).length < 2 ^ 31) && (sB i).all fun x => decide (x &&& 255 = x)) = true := by decide +kernel
theorem a_sB {i : Nat} (h : i < sN) : (sB i).length < 2 ^ 31 ∧ ∀ x ∈ sB i, x &&& 255 = x := by
  have h1 := List.all_eq_true.mp sB_ok i (List.mem_range.mpr h)
  simp only [Bool.and_eq_true, decide_eq_true_eq, List.all_eq_true] at h1
  exact h1
set_option maxHeartbeats 2000000 in
theorem s_ivirt (hX : a_X adK adV b sc D cA A p l R s m args meth c d k) (hI : a_I D cA adK b A s H locs θ w) (hF : a_F θ w (mX k) sl ls st) {x : Nat} (hd : a_lk (mC k) pc = some (.invokevirtual x, len)) (h0 : ins sc d k pc ls st w (.invokevirtual x) = some N) (hr : nc + N.2.2.2.2.1 ≤ R.cells ∧ ns + N.2.2.2.2.2 ≤ R.slots) (K : a_Go adK b D cA A p l e R s m args below meth c Q k θ w nc ns N) : W p l e R s m args below meth c H locs nc ns Q (F0 m pc sl (st.map (a_V θ))) := by
  obtain ⟨hCF, -⟩ := id hX
  have h1 : a_inv d k x pc ls st w = some N := h0
  unfold a_inv at h1
  split at h1
  · rename_i j hj
    obtain ⟨a, r, rfl, ⟨hd1, hr1⟩, ⟨ha1, ha2⟩, rfl⟩ := sln_inl h1
    have hw : wM (mK k) (x, 7, j) ∈ ALLW := a_inM hX.kc (a_lk_mem hj) (fun z9 => nomatch z9)
    have hG : GoodIn ALLW (wsV (RN (mK k)) x RJ0 yJ0_length_8abf5 wsJ0_length_8abf5) := a_gd (fun z hz => by
      rcases List.mem_append.mp hz with h | h
      · rcases List.mem_cons.mp h with rfl | h
        · exact hw
        · exact a_inJ _ (List.mem_append_left _ (by
            simp only [List.mem_cons, List.not_mem_nil, or_false] at h ⊢
            rcases h with rfl | rfl | rfl <;> simp))
      · exact a_inJ _ (List.mem_append_right _ (List.mem_append_left _ h)))
    have e1 : θ a = adK (a - a_SB) := by
      have := hI.2.2.2.2.2.2 (a - a_SB) ha2
      rwa [show a_SB + (a - a_SB) = a from by omega] at this
    have q1 := a_room (θ := θ) hX hd1 hr1 (n := 50) (by decide)
    have hE := hX.E
    obtain ⟨hS1, hS2⟩ := hE.1 _ ha2
    have K0 := K
    show W p l e R s m args below meth c H locs nc ns Q (F0 m pc sl (.ref (θ a) :: r.map (a_V θ)))
    rw [e1]
    refine va_calli (va_runV (As := []) (rest := r.map (a_V θ)) hCF (c_slen l (adK (a - a_SB)) (adV (a - a_SB)) (sB (a - a_SB)).length (sB (a - a_SB)) A) (cwV 0 hCF.2.2.2.2 hG rfl rfl rfl (by decide +kernel) ⟨by have := q1.1; show 1 + 1 ≤ _; omega, by have := q1.2; show 8 + (1 + 11) + 24 ≤ _; omega⟩)
      ⟨st_blind fun U g mk a h => st_P.go rfl (State.WarmedH.refl U) h, vk_recv (i := 0) hS2 (by decide) hI.2.2.1, fun U hU hW => ⟨rfl, by
        unfold st_P
        rw [hU]
        exact ⟨(vk_S.moved hW.alike hS2).kept (fun q9 g1 g2 => hI.2.2.1.2.1 q9 g1 g2), (va_Z.moved hW.alike hE.2.2.2.1).kept (fun q9 g1 g2 => hI.2.2.1.2.1 q9 g1 g2), (va_Zq.moved hW.alike hE.2.2.2.2.1).kept (fun q9 g1 g2 => hI.2.2.1.2.1 q9 g1 g2)⟩⟩⟩ rfl rfl hF.1.1 rfl (by have := a_cat_V θ r; unfold a_cat at this hr1; show 2 * 0 + _ ≤ 8; omega) (a_dec1 hX.kN hd rfl) ⟨hr.1, hr.2⟩) hI.2.2.1 (fun _ _ h => h.elim) (fun _ h => h.elim)
      (fun r0 u t H1 locs1 ht hvm hw9 hB hz1 hk1 hS9 => ?_)
    have K1 := K0 θ H1 locs1 sl a_ex_rf (hI.still hk1 hS9) (hF.st (a_kc (a_rk_int _) (a_tl hF.2.2)))
    rw [hw9]
    exact K1
  · rename_i j hj
    obtain ⟨i, y, a, r, rfl, ⟨hd1, hr1⟩, ⟨ha1, ha2⟩, hi, hy, rfl⟩ := sch_inl h1
    have hw : wM (mK k) (x, 8, j) ∈ ALLW := a_inM hX.kc (a_lk_mem hj) (fun z9 => nomatch z9)
    have hG : GoodIn ALLW (wsV (RN (mK k)) x RJ0 yJ0_charAt_5068e wsJ0_charAt_5068e) := a_gd (fun z hz => by
      rcases List.mem_append.mp hz with h | h
      · rcases List.mem_cons.mp h with rfl | h
        · exact hw
        · exact a_inJ _ (List.mem_append_left _ (by
            simp only [List.mem_cons, List.not_mem_nil, or_false] at h ⊢
            rcases h with rfl | rfl | rfl <;> simp))
      · exact a_inJ _ (List.mem_append_right _ (List.mem_append_right _ h)))
    have e1 : θ a = adK (a - a_SB) := by
      have := hI.2.2.2.2.2.2 (a - a_SB) ha2
      rwa [show a_SB + (a - a_SB) = a from by omega] at this
    have q1 := a_room (θ := θ) hX hd1 hr1 (n := 100) (by decide)
    have hE := hX.E
    obtain ⟨hS1, hS2⟩ := hE.1 _ ha2
    have K0 := K
    show W p l e R s m args below meth c H locs nc ns Q (F0 m pc sl (.int i :: .ref (θ a) :: r.map (a_V θ)))
    rw [e1]
    refine va_calli (va_runV (As := [.int i]) (rest := r.map (a_V θ)) hCF (c_sch l (adK (a - a_SB)) (adV (a - a_SB)) (sB (a - a_SB)).length (sB (a - a_SB)) A i (a_in hi (a_lt hy)) (a_sB ha2).1) (cwV 1 hCF.2.2.2.2 hG rfl rfl rfl (by decide +kernel) ⟨by have := q1.1; show 3 + 1 ≤ _; omega, by have := q1.2; show 8 + (2 + 11) + 72 ≤ _; omega⟩)
      ⟨st_blind fun U g mk a h => st_P.go rfl (State.WarmedH.refl U) h, vk_recv (i := 0) hS2 (by decide) hI.2.2.1, fun U hU hW => ⟨rfl, by
        unfold st_P
        rw [hU]
        exact ⟨(vk_S.moved hW.alike hS2).kept (fun q9 g1 g2 => hI.2.2.1.2.1 q9 g1 g2), (va_Z.moved hW.alike hE.2.2.2.1).kept (fun q9 g1 g2 => hI.2.2.1.2.1 q9 g1 g2), (va_Zq.moved hW.alike hE.2.2.2.2.1).kept (fun q9 g1 g2 => hI.2.2.1.2.1 q9 g1 g2)⟩⟩⟩ rfl rfl hF.1.1 rfl (by have := a_cat_V θ r; unfold a_cat at this hr1; show 2 * 0 + _ ≤ 8; omega) (a_dec1 hX.kN hd rfl) ⟨hr.1, hr.2⟩) hI.2.2.1 (fun _ _ h => h.elim) (fun _ h => h.elim)
      (fun r0 u t H1 locs1 ht hvm hw9 hB hz1 hk1 hS9 => ?_)
    have K1 := K0 θ H1 locs1 sl a_ex_rf (hI.still hk1 hS9) (hF.st (a_kc (a_rk_int _) (a_tl (a_tl hF.2.2))))
    rw [hw9, a_gD hy, (a_sB ha2).2 y (List.mem_of_getElem? hy)]
    exact K1
  · cases h1
end AJD
end
section
/-! ===== the abstract machine's runs are runs of the real one ===== -/
section AMN
variable {p : Program} {l : Launch} {e : Env} {R : Room} {s : State} {m : MethodId} {args : Array Value} {below : List Frame} {meth : Method} {c : Code} {H : Heap} {locs : List Loc} {Q : State → Prop}
variable {adK adV : Nat → Nat} {b : Nat} {sc : List Int32} {D : va_G} {cA : Nat → ClassId} {A : Nat → Prop} {θ : Nat → Nat} {w : AW} {ls : AL} {st : List Value} {sl : Array Slot} {d k pc len nc ns : Nat} {N : AN}
set_option maxHeartbeats 4000000 in
theorem ins_len {i : Instr} (h : ins sc d k pc ls st w i = some N) : w.length ≤ N.2.2.2.1.length := by
  have nx : ∀ {pc : Nat} {ls : AL} {st : List Value}, a_nx pc ls st w = some N → w.length ≤ N.2.2.2.1.length := fun h => by rw [nx_inl h]; exact Nat.le_refl _
  have to_ : ∀ {pc : Nat} {off : Int} {ls : AL} {st : List Value}, a_to pc off ls st w = some N → w.length ≤ N.2.2.2.1.length := fun h => by
    obtain ⟨t, -, rfl⟩ := to_inl h; exact Nat.le_refl _
  have jm : ∀ {q : Prop} [Decidable q] {pc : Nat} {off : Int} {ls : AL} {st : List Value}, a_jmp q pc off ls st w = some N → w.length ≤ N.2.2.2.1.length := fun h => by
    obtain ⟨t, -, ⟨-, rfl⟩ | ⟨-, rfl⟩⟩ := jmp_inl h <;> exact Nat.le_refl _
  cases i with
  | iconst n => exact nx h
  | bipush n => exact nx h
  | sipush n => exact nx h
  | lconst n => exact nx h
  | ldc x => rcases ldc_inl (show a_ldc (mK k) x (pc + 2) ls st w = some N from h) with ⟨_, _, rfl⟩ | ⟨_, _, _, rfl⟩ <;> exact Nat.le_refl _
  | ldc_w x => rcases ldc_inl (show a_ldc (mK k) x (pc + 3) ls st w = some N from h) with ⟨_, _, rfl⟩ | ⟨_, _, _, rfl⟩ <;> exact Nat.le_refl _
  | ldc2_w x => obtain ⟨_, _, rfl⟩ := ldc2_inl (show a_ldc2 (mK k) x (pc + 3) ls st w = some N from h); exact Nat.le_refl _
  | iload i => obtain ⟨_, _, rfl⟩ := ldI_inl (show a_ldI (a_lk ls i) (pc + 2) ls st w = some N from h); exact Nat.le_refl _
  | iload_n i => obtain ⟨_, _, rfl⟩ := ldI_inl (show a_ldI (a_lk ls i) (pc + 1) ls st w = some N from h); exact Nat.le_refl _
  | lload i => obtain ⟨_, _, rfl⟩ := ldL_inl (show a_ldL (a_lk ls i) (pc + 2) ls st w = some N from h); exact Nat.le_refl _
  | lload_n i => obtain ⟨_, _, rfl⟩ := ldL_inl (show a_ldL (a_lk ls i) (pc + 1) ls st w = some N from h); exact Nat.le_refl _
  | aload i => obtain ⟨_, _, rfl⟩ := ldA_inl (show a_ldA (a_lk ls i) (pc + 2) ls st w = some N from h); exact Nat.le_refl _
  | aload_n i => obtain ⟨_, _, rfl⟩ := ldA_inl (show a_ldA (a_lk ls i) (pc + 1) ls st w = some N from h); exact Nat.le_refl _
  | istore i => obtain ⟨_, _, _, _, rfl⟩ := stI_inl (show a_stI (mX k) i (pc + 2) ls st w = some N from h); exact Nat.le_refl _
  | istore_n i => obtain ⟨_, _, _, _, rfl⟩ := stI_inl (show a_stI (mX k) i (pc + 1) ls st w = some N from h); exact Nat.le_refl _
  | lstore i => obtain ⟨_, _, _, _, rfl⟩ := stL_inl (show a_stL (mX k) i (pc + 2) ls st w = some N from h); exact Nat.le_refl _
  | lstore_n i => obtain ⟨_, _, _, _, rfl⟩ := stL_inl (show a_stL (mX k) i (pc + 1) ls st w = some N from h); exact Nat.le_refl _
  | astore i => obtain ⟨_, _, _, _, rfl⟩ := stA_inl (show a_stA (mX k) i (pc + 2) ls st w = some N from h); exact Nat.le_refl _
  | astore_n i => obtain ⟨_, _, _, _, rfl⟩ := stA_inl (show a_stA (mX k) i (pc + 1) ls st w = some N from h); exact Nat.le_refl _
  | iinc i z => obtain ⟨_, _, _, rfl⟩ := inc_inl (show a_inc (mX k) i z pc ls st w = some N from h); exact Nat.le_refl _
  | iadd => obtain ⟨_, _, _, _, rfl⟩ := i2_inl (show a_i2 _ pc ls st w = some N from h); exact Nat.le_refl _
  | isub => obtain ⟨_, _, _, _, rfl⟩ := i2_inl (show a_i2 _ pc ls st w = some N from h); exact Nat.le_refl _
  | imul => obtain ⟨_, _, _, _, rfl⟩ := i2_inl (show a_i2 _ pc ls st w = some N from h); exact Nat.le_refl _
  | iand => obtain ⟨_, _, _, _, rfl⟩ := i2_inl (show a_i2 _ pc ls st w = some N from h); exact Nat.le_refl _
  | ior => obtain ⟨_, _, _, _, rfl⟩ := i2_inl (show a_i2 _ pc ls st w = some N from h); exact Nat.le_refl _
  | ixor => obtain ⟨_, _, _, _, rfl⟩ := i2_inl (show a_i2 _ pc ls st w = some N from h); exact Nat.le_refl _
  | ishl => obtain ⟨_, _, _, _, rfl⟩ := i2_inl (show a_i2 _ pc ls st w = some N from h); exact Nat.le_refl _
  | ishr => obtain ⟨_, _, _, _, rfl⟩ := i2_inl (show a_i2 _ pc ls st w = some N from h); exact Nat.le_refl _
  | iushr => obtain ⟨_, _, _, _, rfl⟩ := i2_inl (show a_i2 _ pc ls st w = some N from h); exact Nat.le_refl _
  | idiv => obtain ⟨_, _, _, _, _, rfl⟩ := i2z_inl (show a_i2z _ pc ls st w = some N from h); exact Nat.le_refl _
  | irem => obtain ⟨_, _, _, _, _, rfl⟩ := i2z_inl (show a_i2z _ pc ls st w = some N from h); exact Nat.le_refl _
  | ineg => obtain ⟨_, _, _, rfl⟩ := i1_inl (show a_i1 _ pc ls st w = some N from h); exact Nat.le_refl _
  | i2b => obtain ⟨_, _, _, rfl⟩ := i1_inl (show a_i1 _ pc ls st w = some N from h); exact Nat.le_refl _
  | i2l => obtain ⟨_, _, _, rfl⟩ := i2l_inl (show a_i2l pc ls st w = some N from h); exact Nat.le_refl _
  | ladd => obtain ⟨_, _, _, _, rfl⟩ := l2_inl (show a_l2 _ pc ls st w = some N from h); exact Nat.le_refl _
  | lmul => obtain ⟨_, _, _, _, rfl⟩ := l2_inl (show a_l2 _ pc ls st w = some N from h); exact Nat.le_refl _
  | ldiv => obtain ⟨_, _, _, _, _, rfl⟩ := l2z_inl (show a_l2z _ pc ls st w = some N from h); exact Nat.le_refl _
  | lrem => obtain ⟨_, _, _, _, _, rfl⟩ := l2z_inl (show a_l2z _ pc ls st w = some N from h); exact Nat.le_refl _
  | lcmp => obtain ⟨_, _, _, _, rfl⟩ := lcmp_inl (show a_lcmp pc ls st w = some N from h); exact Nat.le_refl _
  | dup => obtain ⟨_, _, _, _, rfl⟩ := dup_inl (show a_dup pc ls st w = some N from h); exact Nat.le_refl _
  | pop => obtain ⟨_, _, _, _, rfl⟩ := pop_inl (show a_pop pc ls st w = some N from h); exact Nat.le_refl _
  | dup2 => obtain ⟨_, _, _, _, _, rfl⟩ := dup2_inl (show a_dup2 pc ls st w = some N from h); exact Nat.le_refl _
  | goto off => exact to_ h
  | ifCond q off => cases q <;> (obtain ⟨_, _, rfl, h1⟩ := m1_inl (f := fun x r => _) h; exact jm h1)
  | if_icmp q off => cases q <;> (obtain ⟨_, _, _, rfl, h1⟩ := m2_inl (f := fun x y r => _) h; exact jm h1)
  | tableswitch dflt lo hi offs => obtain ⟨_, _, rfl, ⟨_, h1⟩ | ⟨_, _, _, h1⟩⟩ := tsw_inl (show a_tsw dflt lo hi offs pc ls st w = some N from h) <;> exact to_ h1
  | lookupswitch dflt ps => obtain ⟨_, _, rfl, _, h1⟩ := lsw_inl (show a_lsw dflt ps pc ls st w = some N from h); exact to_ h1
  | getfield x => obtain ⟨_, _, _, _, _, _, _, _, _, _, rfl⟩ := get_inl (show a_get (mK k) x pc ls st w = some N from h); exact Nat.le_refl _
  | putfield x => obtain ⟨_, _, _, _, _, _, _, _, _, _, _, _, rfl⟩ := put_inl (show a_put k x pc ls st w = some N from h); simp
  | iaload => obtain ⟨_, _, _, _, _, _, rfl, _⟩ := ild_inl (show a_ild 0 sc pc ls st w = some N from h); exact Nat.le_refl _
  | baload => obtain ⟨_, _, _, _, _, _, rfl, _⟩ := ild_inl (show a_ild 1 sc pc ls st w = some N from h); exact Nat.le_refl _
  | laload => obtain ⟨_, _, _, _, _, _, _, rfl, _⟩ := lld_inl (show a_lld pc ls st w = some N from h); exact Nat.le_refl _
  | iastore => obtain ⟨_, _, _, _, _, _, _, _, _, rfl⟩ := ist_inl (show a_ist pc ls st w = some N from h); simp
  | bastore => obtain ⟨_, _, _, _, _, _, _, _, _, rfl⟩ := bst_inl (show a_bst pc ls st w = some N from h); simp
  | lastore => obtain ⟨_, _, _, _, _, _, _, _, _, rfl⟩ := lst_inl (show a_lst pc ls st w = some N from h); simp
  | arraylength => obtain ⟨_, _, _, ⟨_, rfl⟩ | ⟨_, _, _, _, rfl⟩ | ⟨_, _, rfl⟩⟩ := aln_inl (show a_aln sc pc ls st w = some N from h) <;> exact Nat.le_refl _
  | new x => obtain ⟨_, _, _, _, rfl⟩ := new_inl (show a_new k x pc ls st w = some N from h); simp
  | newarray ty => obtain ⟨_, _, _, _, _, _, ⟨_, rfl⟩ | ⟨_, rfl⟩ | ⟨_, rfl⟩⟩ := nwa_inl (show a_nwa ty pc ls st w = some N from h) <;> simp
  | invokevirtual x =>
    have h1 : a_inv d k x pc ls st w = some N := h
    unfold a_inv at h1
    split at h1
    · obtain ⟨_, _, _, _, _, rfl⟩ := sln_inl h1; exact Nat.le_refl _
    · obtain ⟨_, _, _, _, _, _, _, _, _, rfl⟩ := sch_inl h1; exact Nat.le_refl _
    · cases h1
  | invokestatic x =>
    have h1 : a_ins d k x pc ls st w = some N := h
    unfold a_ins at h1
    split at h1
    · obtain ⟨_, _, _, _, _, rfl⟩ := mth_inl h1; exact Nat.le_refl _
    · obtain ⟨_, _, _, _, _, rfl⟩ := mth_inl h1; exact Nat.le_refl _
    · obtain ⟨_, _, _, _, rfl⟩ := abs_inl h1; exact Nat.le_refl _
    · obtain ⟨_, _, _, _, _, _, _, _, _, _, _, _, _, _, _, rfl⟩ := cpy_inl h1; simp
    · cases h1
  | invokespecial x =>
    have h1 : a_inp d k x pc ls st w = some N := h
    unfold a_inp at h1
    split at h1
    · obtain ⟨_, _, _, _, rfl⟩ := obj_inl h1; exact Nat.le_refl _
    · cases h1
  | _ => cases h
theorem s_all {i : Instr} (hX : a_X adK adV b sc D cA A p l R s m args meth c d k) (hI : a_I D cA adK b A s H locs θ w) (hF : a_F θ w (mX k) sl ls st) (hd : a_lk (mC k) pc = some (i, len)) (h0 : ins sc d k pc ls st w i = some N) (hr : nc + N.2.2.2.2.1 ≤ R.cells ∧ ns + N.2.2.2.2.2 ≤ R.slots) (K : a_Go adK b D cA A p l e R s m args below meth c Q k θ w nc ns N) : W p l e R s m args below meth c H locs nc ns Q (F0 m pc sl (st.map (a_V θ))) := by
  cases i with
  | iconst n => exact s_iconst hX hI hF hd h0 hr K
  | bipush n => exact s_bipush hX hI hF hd h0 hr K
  | sipush n => exact s_sipush hX hI hF hd h0 hr K
  | lconst n => exact s_lconst hX hI hF hd h0 hr K
  | ldc x => exact s_ldc hX hI hF hd h0 hr K
  | ldc_w x => exact s_ldcw hX hI hF hd h0 hr K
  | ldc2_w x => exact s_ldc2 hX hI hF hd h0 hr K
  | iload i => exact s_iload hX hI hF hd h0 hr K
  | iload_n i => exact s_iloadn hX hI hF hd h0 hr K
  | lload i => exact s_lload hX hI hF hd h0 hr K
  | lload_n i => exact s_lloadn hX hI hF hd h0 hr K
  | aload i => exact s_aload hX hI hF hd h0 hr K
  | aload_n i => exact s_aloadn hX hI hF hd h0 hr K
  | istore i => exact s_istore hX hI hF hd h0 hr K
  | istore_n i => exact s_istoren hX hI hF hd h0 hr K
  | lstore i => exact s_lstore hX hI hF hd h0 hr K
  | lstore_n i => exact s_lstoren hX hI hF hd h0 hr K
  | astore i => exact s_astore hX hI hF hd h0 hr K
  | astore_n i => exact s_astoren hX hI hF hd h0 hr K
  | iinc i z => exact s_iinc hX hI hF hd h0 hr K
  | iadd => exact s_iadd hX hI hF hd h0 hr K
  | isub => exact s_isub hX hI hF hd h0 hr K
  | imul => exact s_imul hX hI hF hd h0 hr K
  | iand => exact s_iand hX hI hF hd h0 hr K
  | ior => exact s_ior hX hI hF hd h0 hr K
  | ixor => exact s_ixor hX hI hF hd h0 hr K
  | ishl => exact s_ishl hX hI hF hd h0 hr K
  | ishr => exact s_ishr hX hI hF hd h0 hr K
  | iushr => exact s_iushr hX hI hF hd h0 hr K
  | idiv => exact s_idiv hX hI hF hd h0 hr K
  | irem => exact s_irem hX hI hF hd h0 hr K
  | ineg => exact s_ineg hX hI hF hd h0 hr K
  | i2b => exact s_i2b hX hI hF hd h0 hr K
  | i2l => exact s_i2l hX hI hF hd h0 hr K
  | ladd => exact s_ladd hX hI hF hd h0 hr K
  | lmul => exact s_lmul hX hI hF hd h0 hr K
  | ldiv => exact s_ldiv hX hI hF hd h0 hr K
  | lrem => exact s_lrem hX hI hF hd h0 hr K
  | lcmp => exact s_lcmp hX hI hF hd h0 hr K
  | dup => exact s_dup hX hI hF hd h0 hr K
  | pop => exact s_pop hX hI hF hd h0 hr K
  | dup2 => exact s_dup2 hX hI hF hd h0 hr K
  | goto off => exact s_goto hX hI hF hd h0 hr K
  | ifCond q off =>
    cases q with
    | eq => exact s_if_eq hX hI hF hd h0 hr K
    | ne => exact s_if_ne hX hI hF hd h0 hr K
    | lt => exact s_if_lt hX hI hF hd h0 hr K
    | ge => exact s_if_ge hX hI hF hd h0 hr K
    | gt => exact s_if_gt hX hI hF hd h0 hr K
    | le => exact s_if_le hX hI hF hd h0 hr K
  | if_icmp q off =>
    cases q with
    | eq => exact s_ic_eq hX hI hF hd h0 hr K
    | ne => exact s_ic_ne hX hI hF hd h0 hr K
    | lt => exact s_ic_lt hX hI hF hd h0 hr K
    | ge => exact s_ic_ge hX hI hF hd h0 hr K
    | gt => exact s_ic_gt hX hI hF hd h0 hr K
    | le => exact s_ic_le hX hI hF hd h0 hr K
  | tableswitch dflt lo hi offs => exact s_tsw hX hI hF hd h0 hr K
  | lookupswitch dflt ps => exact s_lsw hX hI hF hd h0 hr K
  | getfield x => exact s_getfield hX hI hF hd h0 hr K
  | putfield x => exact s_putfield hX hI hF hd h0 hr K
  | iaload => exact s_iaload hX hI hF hd h0 hr K
  | baload => exact s_baload hX hI hF hd h0 hr K
  | laload => exact s_laload hX hI hF hd h0 hr K
  | iastore => exact s_iastore hX hI hF hd h0 hr K
  | bastore => exact s_bastore hX hI hF hd h0 hr K
  | lastore => exact s_lastore hX hI hF hd h0 hr K
  | arraylength => exact s_arraylength hX hI hF hd h0 hr K
  | new x => exact s_new hX hI hF hd h0 hr K
  | newarray ty => exact s_newarray hX hI hF hd h0 hr K
  | invokevirtual x => exact s_ivirt hX hI hF hd h0 hr K
  | invokestatic x => exact s_istat hX hI hF hd h0 hr K
  | invokespecial x => exact s_ispec hX hI hF hd h0 hr K
  | _ => cases h0
end AMN
end
section
/-! ===== calls, ends, and the whole ===== -/
theorem a_argsmap (θ : Nat → Nat) : ∀ (vs : List Value) (n : Nat), lv_args n (vs.map (a_V θ)) = (lv_args n vs).map fun q => (q.1, a_V θ q.2)
  | [], n => rfl
  | v :: vs, n => by
    show (n, a_V θ v) :: lv_args (if (a_V θ v).category = 2 then n + 2 else n + 1) (vs.map (a_V θ)) = (n, a_V θ v) :: (lv_args (if v.category = 2 then n + 2 else n + 1) vs).map fun q => (q.1, a_V θ q.2)
    rw [a_V_cat, a_argsmap θ vs]
theorem a_argsk {P : Value → Prop} : ∀ (vs : List Value) (n : Nat), (∀ v ∈ vs, P v) → ∀ q ∈ lv_args n vs, P q.2
  | [], n, _, q, hq => nomatch hq
  | v :: vs, n, h, q, hq => by
    rcases List.mem_cons.mp hq with rfl | hq
    · exact h v List.mem_cons_self
    · exact a_argsk vs _ (fun u hu => h u (List.mem_cons_of_mem _ hu)) q hq
theorem a_sl_len : ∀ vs : List Value, (lg_sl vs).length = a_cat vs
  | [] => rfl
  | v :: vs => by
    have h1 := a_sl_len vs
    unfold lg_sl a_cat at h1 ⊢
    rw [List.flatMap_cons, List.length_append, h1, List.map_cons, List.sum_cons]
    rcases lv_cat v with h | h <;> simp [h]
def a_J (D : va_G) (cA : Nat → ClassId) (adK : Nat → Nat) (b : Nat) (A : Nat → Prop) (H : Heap) (θ : Nat → Nat) (w : AW) : Prop :=
  va_P D vwCl (a_C cA θ w) H ∧ va_D A (a_C cA θ w) ∧ a_wf w.length w ∧ w.length ≤ a_SC ∧ θ a_SC = b ∧ ∀ i : Nat, i < sN → θ (a_SB + i) = adK i
def a_End (adK : Nat → Nat) (b : Nat) (D : va_G) (cA : Nat → ClassId) (A : Nat → Prop) (p : Program) (l : Launch) (e : Env) (R : Room) (s : State) (m : MethodId) (args : Array Value) (below : List Frame) (meth : Method) (c : Code) (Q : State → Prop) (k n0 : Nat) (θ0 : Nat → Nat) (res : AR) : Prop :=
  (∀ v : Option Value, res.1 = .inl v → ∀ (θ' : Nat → Nat) (H' : Heap) (locs' : List Loc) (sl' : Array Slot) (pc' : Nat) (i : Instr) (st' : List Value), a_lk (mC k) pc' = some (i, 1) → a_ret k i st' = some (.inl v, 0, 0) → a_ex n0 θ0 θ' → a_I D cA adK b A s H' locs' θ' res.2.1 → W p l e R s m args below meth c H' locs' res.2.2.1 res.2.2.2 Q (F0 m pc' sl' (st'.map (a_V θ')))) ∧
  (∀ x : Nat, res.1 = .inr x → ∃ (Qc : Array Value → State → Outcome → State → Prop) (XC : String → State → State → Prop) (free : Addr → Prop), Q = vx_MQ below Qc XC args s res.2.2.1 res.2.2.2 free ∧ (∀ q, A q → free q) ∧
    ∀ (θ' : Nat → Nat) (H' : Heap) (locs' : List Loc) (t : State), a_ex n0 θ0 θ' → a_I D cA adK b A s H' locs' θ' res.2.1 → s.vm.Alike t.vm → H'.size ≤ t.heap.size → (∀ q : Nat, q < H'.size → t.heap[q]? = H'[q]?) → XC (xNm x) s t)
def a_FS (sc : List Int32) (n : Nat) : Prop := ∀ (d k pc : Nat) (ls : AL) (st : List Value) (w : AW) (nc ns : Nat) (res : AR), ev sc n d k pc ls st w nc ns = some res → nc ≤ res.2.2.1 ∧ ns ≤ res.2.2.2 ∧ w.length ≤ res.2.1.length ∧
  ∀ (p : Program) (l : Launch) (e : Env) (R : Room) (s : State) (m : MethodId) (args : Array Value) (below : List Frame) (meth : Method) (c : Code) (H : Heap) (locs : List Loc) (Q : State → Prop) (adK adV : Nat → Nat) (b : Nat) (D : va_G) (cA : Nat → ClassId) (A : Nat → Prop) (θ : Nat → Nat) (sl : Array Slot) (n0 : Nat) (θ0 : Nat → Nat),
    a_X adK adV b sc D cA A p l R s m args meth c d k → a_I D cA adK b A s H locs θ w → a_F θ w (mX k) sl ls st → a_ex n0 θ0 θ → n0 ≤ w.length → res.2.2.1 ≤ R.cells → res.2.2.2 ≤ R.slots → a_End adK b D cA A p l e R s m args below meth c Q k n0 θ0 res →
    W p l e R s m args below meth c H locs nc ns Q (F0 m pc sl (st.map (a_V θ)))
def mWs (j : Nat) : List Cond := mW j :: ALLW
def mRm (d : Nat) (res : AR) : Room := { frames := d, cells := res.2.2.1, slots := res.2.2.2, locals := a_lo d }
def a_mPc (D : va_G) (cA : Nat → ClassId) (adK adV : Nat → Nat) (b : Nat) (sc : List Int32) (θ : Nat → Nat) (w : AW) (ags : List Value) (sz : Nat) : Array Value → State → Prop :=
  va_Pc (ags.map (a_V θ)) (fun U => U.heap.size = sz ∧ va_P D vwCl (a_C cA θ w) U.heap ∧ va_K D vwCl (a_ty cA) U ∧ va_D (fun _ => True) (a_C cA θ w) ∧ a_Env adK adV b sc (va_A (a_C cA θ w) sz) U U.heap)
def a_mQc (D : va_G) (cA : Nat → ClassId) (adK : Nat → Nat) (b : Nat) (θ : Nat → Nat) (w : AW) (sz : Nat) (res : AR) : Array Value → State → Outcome → State → Prop := fun _ st oc t =>
  (∃ (v : Option Value) (θ' : Nat → Nat), res.1 = .inl v ∧ a_ex w.length θ θ' ∧ oc = .returned v ∧ a_J D cA adK b (va_A (a_C cA θ w) sz) t.heap θ' res.2.1 ∧ ∀ u ∈ v.toList, ∀ n : Nat, a_rk n u ∧ ∀ θ2 : Nat → Nat, a_V θ2 u = u) ∧ va_F (va_A (a_C cA θ w) sz) st t
def a_mXC (D : va_G) (cA : Nat → ClassId) (adK : Nat → Nat) (b : Nat) (θ : Nat → Nat) (w : AW) (sz : Nat) (res : AR) : String → State → State → Prop := fun E st t =>
  ∃ (x : Nat) (θ' : Nat → Nat), res.1 = .inr x ∧ E = xNm x ∧ a_ex w.length θ θ' ∧ a_J D cA adK b (va_A (a_C cA θ w) sz) t.heap θ' res.2.1 ∧ va_F (va_A (a_C cA θ w) sz) st t
theorem mW_n {j : Nat} (h : mH j = []) : mW j = .code (mY j) (mB j) (mX j) (mR j) := by unfold mW; rw [h]
theorem mW_h {j : Nat} {z : Nat × Nat × Nat × Nat} {zs : List (Nat × Nat × Nat × Nat)} (h : mH j = z :: zs) : mW j = .codeWith (mY j) (mB j) (mX j) (mR j) (mH j) := by unfold mW; rw [h]
theorem ret_inl {k : Nat} {i : Instr} {st : List Value} {v : Option Value} (h : a_ret k i st = some (.inl v, 0, 0)) : (∃ x : Int32, i = .ireturn ∧ st = [.int x] ∧ v = some (.int x) ∧ (mR k = some .int ∨ (mR k = some .boolean ∧ (x = 0 ∨ x = 1)))) ∨ (∃ x : Int64, i = .lreturn ∧ st = [.long x] ∧ v = some (.long x) ∧ mR k = some .long) ∨ (i = .return_ ∧ st = [] ∧ v = none ∧ mR k = none) := by
  unfold a_ret at h
  split at h
  · rename_i x hR
    cases h
    exact Or.inl ⟨x, rfl, rfl, rfl, Or.inl hR⟩
  · rename_i x hR
    split at h
    · rename_i h1
      cases h
      exact Or.inl ⟨x, rfl, rfl, rfl, Or.inr ⟨hR, h1⟩⟩
    · cases h
  · rename_i x hR
    cases h
    exact Or.inr (Or.inl ⟨x, rfl, rfl, rfl, hR⟩)
  · rename_i hR
    cases h
    exact Or.inr (Or.inr ⟨rfl, rfl, rfl, hR⟩)
  · cases h
theorem a_I.J {D : va_G} {cA : Nat → ClassId} {adK : Nat → Nat} {b : Nat} {A : Nat → Prop} {s : State} {H : Heap} {locs : List Loc} {θ : Nat → Nat} {w : AW} (h : a_I D cA adK b A s H locs θ w) : a_J D cA adK b A H θ w := ⟨h.1, h.2.1, h.2.2.2⟩
set_option maxHeartbeats 4000000 in
theorem a_met {sc : List Int32} {n d j : Nat} (IH : a_FS sc n) {ags : List Value} {w : AW} {res : AR} (h : ev sc n d j 0 (lv_args 0 ags) [] w 0 0 = some res) (hj : j + 1 < mN) (hcat : a_cat ags ≤ mX j) (hk : ∀ v ∈ ags, a_rk w.length v)
    {θ adK : Nat → Nat} {b : Nat} (hwf : a_wf w.length w) (hwl : w.length ≤ a_SC) (hbb : θ a_SC = b) (hss : ∀ i : Nat, i < sN → θ (a_SB + i) = adK i) (l : Launch) (hl : l.stackTraces = false) (D : va_G) (cA : Nat → ClassId) (adV : Nat → Nat) (sz : Nat) :
    vx_Met l (mY j) (mWs j) (mRm d res) (a_mPc D cA adK adV b sc θ w ags sz) (a_mQc D cA adK b θ w sz res) (a_mXC D cA adK b θ w sz res) res.2.2.1 res.2.2.2 (va_A (a_C cA θ w) sz) := by
  obtain ⟨f1, f2, f3, f4, f5, f6, f7, f8, f9⟩ := mPb_f (k := j) (by omega)
  have body : ∀ p e s m args below meth c s₁, BodyLoose p l (mY j) (headSpec (mWs j) (mRm d res)) (mB j) (mX j) (mR j) e s m args below meth c s₁ → c.maxLocals = mX j → c.exceptionTable.toList = tableOf (mH j) → a_mPc D cA adK adV b sc θ w ags sz args s →
      W p l e (headSpec (mWs j) (mRm d res)).room s m args below meth c s.heap [] 0 0 (vx_MQ below (a_mQc D cA adK b θ w sz res) (a_mXC D cA adK b θ w sz res) args s res.2.2.1 res.2.2.2 (va_A (a_C cA θ w) sz)) (entryFrame m args (mX j)) := by
    intro p e s m args below meth c s₁ B hml ht hv
    obtain ⟨rfl, hsz, hP, hK, hD0, hE⟩ := hv
    subst hsz
    have hts := atoms_spec (ws := mWs j) B.pre
    have hX : a_X adK adV b sc D cA (va_A (a_C cA θ w) s.heap.size) p l (headSpec (mWs j) (mRm d res)).room s m (ags.map (a_V θ)).toArray meth c d j :=
      ⟨⟨B.exec, B.bytes, hml, by rw [← f3]; exact findClass_of_methodNamed B.named, fun w hw => hts w (List.mem_cons_of_mem _ hw)⟩, B.notSynchronized, hl, fun h2 => ((name_of_methodNamed B.named B.method).1).trans (f8.mp h2), ht, hK, hE, fun q hq => Or.inr hq, Nat.le_refl _, Nat.le_refl _, by omega⟩
    rw [lg_entry_eq]
    have hl9 := lv_entry (ags.map (a_V θ)) (n := mX j) (by rw [a_sl_len, a_cat_V]; exact hcat)
    generalize (lg_sl (ags.map (a_V θ)) ++ List.replicate (mX j - (lg_sl (ags.map (a_V θ))).length) Slot.unset).toArray = sl at hl9 ⊢
    have hI : a_I D cA adK b (va_A (a_C cA θ w) s.heap.size) s s.heap [] θ w := ⟨hP, hD0.self, va_S.rf, hwf, hwl, hbb, hss⟩
    have hr := B.returns
    have hlocks := B.notSynchronized
    refine (IH d j 0 _ [] w 0 0 res h).2.2.2 p l e _ s m _ below meth c s.heap [] _ adK adV b D cA _ θ sl w.length θ hX hI ⟨by rw [← a_argsmap]; exact hl9, a_argsk ags 0 hk, fun _ q => nomatch q⟩ a_ex_rf (Nat.le_refl _) (Nat.le_refl _) (Nat.le_refl _) ⟨?_, ?_⟩
    · intro v hres θ' H' locs' sl' pc' i st' hlk hret hex hI'
      have hdg := a_dec (k := j) (by omega) hlk
      have J := hI'.J
      refine vx_ret ?_
      rcases ret_inl hret with ⟨x, rfl, rfl, rfl, hR | ⟨hR, hx01⟩⟩ | ⟨x, rfl, rfl, rfl, hR⟩ | ⟨rfl, rfl, rfl, hR⟩
      · exact W.iret (v := x) B.exec B.bytes (by rw [hr, hR]) (fun t ht2 _ => ⟨⟨_, θ', hres, hex, rfl, by rw [ht2]; exact J, fun u hu n => by simp at hu; subst hu; exact ⟨a_rk_int x, fun _ => rfl⟩⟩, hI'.2.2.1.F ht2⟩) hI'.2.2.1.2.2 hdg
      · exact W.zret (v := x) (ty := .boolean) B.exec B.bytes (by rw [hr, hR]) (by rcases hx01 with rfl | rfl <;> rfl) (fun t ht2 _ => ⟨⟨_, θ', hres, hex, rfl, by rw [ht2]; exact J, fun u hu n => by simp at hu; subst hu; exact ⟨a_rk_int x, fun _ => rfl⟩⟩, hI'.2.2.1.F ht2⟩) hI'.2.2.1.2.2 hdg
      · exact W.lret (v := x) B.exec B.bytes (by rw [hr, hR]) (fun t ht2 _ => ⟨⟨_, θ', hres, hex, rfl, by rw [ht2]; exact J, fun u hu n => by simp at hu; subst hu; exact ⟨a_rk_long x, fun _ => rfl⟩⟩, hI'.2.2.1.F ht2⟩) hI'.2.2.1.2.2 hdg
      · exact W.vret B.exec B.bytes (by rw [hr, hR]) (fun t ht2 _ => ⟨⟨_, θ', hres, hex, rfl, by rw [ht2]; exact J, fun u hu n => by simp at hu⟩, hI'.2.2.1.F ht2⟩) hI'.2.2.1.2.2 hdg
    · intro x hres
      refine ⟨_, _, _, rfl, fun q hq => hq, fun θ' H' locs' t hex hI' _ hz hq => ⟨x, θ', hres, rfl, hex, ?_, ?_⟩⟩
      · exact ⟨hI'.1.kept (fun i q9 h9 => hq q9.1 ((hI'.1 i q9 h9).lt)), hI'.2.1, hI'.2.2.2⟩
      · exact ⟨Nat.le_trans hI'.2.2.1.1 hz, fun q g1 g2 => (hq q (Nat.lt_of_lt_of_le g1 hI'.2.2.1.1)).trans (hI'.2.2.1.2.1 q g1 g2)⟩
  cases hH : mH j with
  | nil =>
    refine vx_ofW (cc := mB j) (maxL := mX j) (ret := mR j) f2 (by unfold mWs; rw [mW_n hH]) (fun p e s m args below meth c s₁ B hml ht hv => body p e s m args below meth c s₁ B hml ?_ hv)
    rw [hH]
    exact List.eq_nil_iff_forall_not_mem.mpr (fun x hx => ht x hx)
  | cons z zs =>
    refine vx_ofWH (cc := mB j) (maxL := mX j) (ret := mR j) (hh := mH j) f2 (by unfold mWs; rw [mW_h hH]) (fun p e s m args below meth c s₁ B hml hv => body p e s m args below meth c s₁ B hml ?_ hv)
    exact vx_table (x := mY j) B (atoms_spec (ws := mWs j) B.pre _ (by unfold mWs; rw [mW_h hH]; exact List.mem_cons_self))
theorem a_mBlind {D : va_G} {cA : Nat → ClassId} {adK adV : Nat → Nat} {b : Nat} {sc : List Int32} {θ : Nat → Nat} {w : AW} {ags : List Value} {sz : Nat} : FrameBlind (a_mPc D cA adK adV b sc θ w ags sz) := fun a U g mk q =>
  ⟨q.1, q.2.1, q.2.2.1, va_K.moved (u := U) (U := U.calling g mk a) (Vm.Alike.refl U.vm) q.2.2.2.1, q.2.2.2.2.1, a_Env.warm (s := U) (U := U.calling g mk a) (State.WarmedH.refl U) q.2.2.2.2.2⟩
section ACL
variable {p : Program} {l : Launch} {e : Env} {R : Room} {s : State} {m : MethodId} {args : Array Value} {below : List Frame} {meth : Method} {c : Code} {H : Heap} {locs : List Loc} {Q : State → Prop}
variable {adK adV : Nat → Nat} {b : Nat} {sc : List Int32} {D : va_G} {cA : Nat → ClassId} {A : Nat → Prop} {θ : Nat → Nat} {w : AW} {ls : AL} {st : List Value} {sl : Array Slot} {d k pc len nc ns : Nat} {N : AN}
theorem a_run {mc ms : Nat} {rest st0 : List Value} {Qa : State → Outcome → State → Prop} {XC : String → State → State → Prop} {free : Addr → Prop} (hr : vx_Run p l e R s m args below meth c H locs nc ns mc ms (F0 m pc sl st0) rest Qa XC free)
    (kk : ∀ (v : Option Value) (st₀ t : State) (L : List Loc), st₀.heap = H → s.vm.Alike t.vm → (∀ q ∈ L, free q.base) → Qa st₀ (.returned v) t → W p l e R s m args below meth c t.heap (locs ++ L) (nc + mc) (ns + ms) Q (F0 m (pc + 3) sl (v.toList ++ rest)))
    (kx : ∀ (E : String) (ce : Cell) (q : Addr) (st₀ t : State) (L : List Loc), st₀.heap = H → s.vm.Alike t.vm → (∀ z ∈ L, free z.base) → XC E st₀ t → t.heap[q]? = some ce → ce.vm = .none → s.vm.findClass E = some ce.cls → vx_W p l e R s m args below meth c t.heap (locs ++ L) (nc + mc) (ns + ms) Q (F0 m pc sl rest) q) :
    W p l e R s m args below meth c H locs nc ns Q (F0 m pc sl st0) := by
  intro T hT X
  rcases hr T hT X with ⟨v, st₀, t, T', L, h0, X', hL, e1, e2, hq, st1⟩ | ⟨q, st₀, t, T', L, E, ce, h0, X', hL, e1, e2, hq, hce, hcv, hcl, st1⟩
  · obtain ⟨t2, a1, b1⟩ := kk v st₀ t L h0 (by rw [← e2]; exact X'.warmed.alike) hL hq T' e1 X'
    exact ⟨t2, st1 t2 a1, b1⟩
  · obtain ⟨t2, a1, b1⟩ := kx E ce q st₀ t L h0 (by rw [← e2]; exact X'.warmed.alike) hL hq hce hcv hcl T' e1 X'
    exact ⟨t2, st1.trans a1, b1⟩
theorem a_runOf {mc ms : Nat} {rest st0 : List Value} {Qa : State → Outcome → State → Prop} {XC : String → State → State → Prop} {free : Addr → Prop} (hr : va_Run p l e R s m args below meth c H locs nc ns mc ms (F0 m pc sl st0) rest Qa free) : vx_Run p l e R s m args below meth c H locs nc ns mc ms (F0 m pc sl st0) rest Qa XC free := fun T hT X => Or.inl (hr T hT X)
theorem a_metOf {y : MethodName} {ws : List Cond} {rm : Room} {Pc : Array Value → State → Prop} {Qc : Array Value → State → Outcome → State → Prop} {XC : String → State → State → Prop} {mc ms : Nat} {free : Addr → Prop} (h : vx_Met l y ws rm Pc Qc XC mc ms free) (hx : ∀ E s t, ¬ XC E s t) : Met l y ws rm Pc Qc mc ms free := by
  intro p e ha hc hk s m args below hf happ hP hK
  obtain ⟨n, o, h1, h2, h3, h4⟩ := h p e ha hc hk s m args below hf happ hP hK
  refine ⟨n, o, h1, h2, h3, ?_⟩
  rcases h4 with h4 | ⟨q, -, E, ce, L, hxx, -⟩
  · exact h4
  · exact absurd hxx (hx _ _ _)
/-- the world that is handed to a callee lies where the caller may write -/
theorem a_sub (hX : a_X adK adV b sc D cA A p l R s m args meth c d k) (hI : a_I D cA adK b A s H locs θ w) : ∀ q, va_A (a_C cA θ w) H.size q → A q := by
  intro q hq
  rcases hq with ⟨i, e9, hi⟩ | hq
  · exact hI.2.1.2 i _ hi
  · exact hX.aA q (Nat.le_trans hI.2.2.1.1 hq)
theorem a_pre (hX : a_X adK adV b sc D cA A p l R s m args meth c d k) (hI : a_I D cA adK b A s H locs θ w) {ags : List Value} {U : State} (hU : U.heap = H) (hW : s.WarmedH U.vm) : a_mPc D cA adK adV b sc θ w ags H.size (ags.map (a_V θ)).toArray U := by
  refine ⟨rfl, by rw [hU], by rw [hU]; exact hI.1, va_K.moved hW.alike hX.K, hI.2.1.weaken (fun _ _ _ _ => trivial), ?_⟩
  rw [hU]
  exact ((hX.E.kept hI.2.2.1.1 hI.2.2.1.2.1).narrow (a_sub hX hI)).warm hW
theorem a_recv (hX : a_X adK adV b sc D cA A p l R s m args meth c d k) (hI : a_I D cA adK b A s H locs θ w) {a cj : Nat} {fs : List Value} (hw : w[a]? = some (.inr (cj, fs))) : cj < 9 ∧ ∃ cellB : Cell, H[θ a]? = some cellB ∧ cellB.vm.isStatics = false ∧ s.vm.findClass (RN cj) = some cellB.cls := by
  have h1 := hI.1 a _ (a_C_get hw)
  obtain ⟨r, hr, -⟩ := h1
  have h2 : cj < 9 := (List.getElem?_eq_some_iff.mp hr).1
  exact ⟨h2, va_recv hX.K hI.1 (a_vw h2) (a_C_get hw)⟩
/-- the world behind a call -/
theorem a_back (hX : a_X adK adV b sc D cA A p l R s m args meth c d k) (hI : a_I D cA adK b A s H locs θ w) {st₀ t : State} {L : List Loc} {θ' : Nat → Nat} {w' : AW} (h0 : st₀.heap = H) (hL : ∀ q ∈ L, va_A (a_C cA θ w) H.size q.base) (hJ : a_J D cA adK b (va_A (a_C cA θ w) H.size) t.heap θ' w') (hF : va_F (va_A (a_C cA θ w) H.size) st₀ t) : a_I D cA adK b A s t.heap (locs ++ L) θ' w' := by
  obtain ⟨-, -, k3⟩ := vx_keep (T' := t) h0 rfl hI.2.2.1 (fun q _ h => a_sub hX hI q h) (fun q h => a_sub hX hI q h) hL hF
  exact ⟨hJ.1, hJ.2.1.weaken (fun _ q _ h => a_sub hX hI q.1 h), k3, hJ.2.2⟩
/-- a handler of the law's own takes the exception -/
theorem a_hc_ok (hX : a_X adK adV b sc D cA A p l R s m args meth c d k) {h : Nat} {z : Int32} {q : Nat} (hz : a_hc k h = some z) (hlv : ∃ lv, lv_has sl (mX k) lv)
    (K : ∀ (pc' : Nat) (sl' : Array Slot), a_lk (mC k) pc' = some (.ireturn, 1) → mR k = some .int → W p l e R s m args below meth c H locs nc ns Q (F0 m pc' sl' [.int z])) : W p l e R s m args below meth c H locs nc ns Q (F0 m h sl [.ref q]) := by
  obtain ⟨⟨hx, hb, hml, hown, hts⟩, -⟩ := id hX
  obtain ⟨lv, hlv⟩ := hlv
  unfold a_hc at hz
  split at hz
  · rename_i hR
    split at hz
    · rename_i n hd1
      split at hz
      · rename_i hn
        split at hz
        · rename_i v hd2 hd3
          cases hz
          refine lv_astore_n hx hb (a_dec1 hX.kN hd1 rfl) rfl hlv hn rfl (fun sl' hl' => ?_)
          refine lv_iconst hx hb (a_dec1 hX.kN hd2 rfl) rfl ?_
          exact K _ sl' hd3 hR
        · cases hz
      · cases hz
    · rename_i n hd1
      split at hz
      · rename_i hn
        split at hz
        · rename_i v hd2 hd3
          cases hz
          refine lv_astore hx hb (a_dec1 hX.kN hd1 rfl) hlv hn rfl (fun sl' hl' => ?_)
          refine lv_iconst hx hb (a_dec1 hX.kN hd2 rfl) rfl ?_
          exact K _ sl' hd3 hR
        · cases hz
      · cases hz
    · cases hz
  · cases hz
theorem a_castW (hX : a_X adK adV b sc D cA A p l R s m args meth c d k) {v : Nat} (hv : v = 100 ∨ v = 101) : (Cond.castable (xNm v) (xNm v)).before args s = true := by
  have h := hX.E.2.2.2.2.2.2.1
  refine va_Nw.use rfl (h _ (List.mem_append_right _ (List.mem_append_left _ ?_)))
  rcases hv with rfl | rfl <;> simp
theorem a_linkW (hX : a_X adK adV b sc D cA A p l R s m args meth c d k) {ct v : Nat} (h : a_lk (kX (mK k)) ct = some v) : (Cond.classLink (RN (mK k)) ct (xNm v)).before args s = true := hX.1.2.2.2.2 _ (a_inKX hX.kc (a_lk_mem h))
theorem a_hnd_ok (hX : a_X adK adV b sc D cA A p l R s m args meth c d k) {v : Nat} {z : Int32} {q : Nat} {ce : Cell} {rest : List Value} (hz : a_hnd k pc v = some z) (hlv : ∃ lv, lv_has sl (mX k) lv) (hce : H[q]? = some ce) (hcv : ce.vm = .none) (hcl : s.vm.findClass (xNm v) = some ce.cls)
    (K : ∀ (pc' : Nat) (sl' : Array Slot), a_lk (mC k) pc' = some (.ireturn, 1) → mR k = some .int → W p l e R s m args below meth c H locs nc ns Q (F0 m pc' sl' [.int z])) : vx_W p l e R s m args below meth c H locs nc ns Q (F0 m pc sl rest) q := by
  obtain ⟨⟨hx, hb, hml, hown, hts⟩, -, -, -, htab, -⟩ := id hX
  unfold a_hnd at hz
  split at hz
  · rename_i hv
    split at hz
    · rename_i f t h ct hH
      rw [hH] at htab
      split at hz
      · rename_i h1
        obtain ⟨⟨h2, h3⟩, h4, h5⟩ := h1
        exact vx_catch (name := xNm v) hown [] ⟨f, t, h, ct⟩ [] htab (fun _ q9 => nomatch q9) (by simp [covers, h2, h3]) h4 (a_linkW hX h5) (a_castW hX hv) hce hcv hcl (a_hc_ok hX hz hlv K)
      · cases hz
    · rename_i f t h ct f2 t2 h2 ct2 hH
      rw [hH] at htab
      split at hz
      · rename_i h1
        obtain ⟨⟨g2, g3⟩, g4, g5⟩ := h1
        exact vx_catch (name := xNm v) hown [] ⟨f, t, h, ct⟩ [⟨f2, t2, h2, ct2⟩] htab (fun _ q9 => nomatch q9) (by simp [covers, g2, g3]) g4 (a_linkW hX g5) (a_castW hX hv) hce hcv hcl (a_hc_ok hX hz hlv K)
      · split at hz
        · rename_i h1
          obtain ⟨⟨⟨rfl, g4⟩, g5⟩, ⟨g2, g3⟩, g6, g7⟩ := h1
          refine vx_catch (name := xNm 101) hown [⟨f, t, h, ct⟩] ⟨f2, t2, h2, ct2⟩ [] htab (fun z9 q9 => ?_) (by simp [covers, g2, g3]) g6 (a_linkW hX g7) (a_castW hX hv) hce hcv hcl (a_hc_ok hX hz hlv K)
          rw [List.mem_singleton] at q9
          subst q9
          exact Or.inr ⟨g4, xNm 100, a_linkW hX g5, hX.E.2.2.2.2.2.1⟩
        · cases hz
    · cases hz
  · cases hz
end ACL
end
section
/-! ===== a call, an end, and all runs ===== -/
theorem a_split {θ : Nat → Nat} {n : Nat} {st r : List Value} {v : Value} (h : st.drop n = v :: r) : st.map (a_V θ) = (((st.take n).reverse).map (a_V θ)).reverse ++ a_V θ v :: r.map (a_V θ) := by
  rw [List.map_reverse, List.reverse_reverse, ← List.map_cons, ← List.map_append, ← h, List.take_append_drop]
theorem a_split0 {θ : Nat → Nat} {n : Nat} {st : List Value} : st.map (a_V θ) = (((st.take n).reverse).map (a_V θ)).reverse ++ (st.drop n).map (a_V θ) := by
  rw [List.map_reverse, List.reverse_reverse, ← List.map_append, List.take_append_drop]
theorem cv_inl {kd j : Nat} {st : List Value} {w : AW} {z : AC} (h : a_cv kd j st w = some z) : ∃ (a : Nat) (fs : List Value) (r : List Value), st.drop (mV j) = .ref a :: r ∧ w[a]? = some (.inr (mK j, fs)) ∧ mD j = kd ∧ j + 1 < mN ∧ mH j = [] ∧ a_cat r ≤ 8 ∧ a_cat (.ref a :: (st.take (mV j)).reverse) ≤ mX j ∧ z = (j, .ref a :: (st.take (mV j)).reverse, r) := by
  unfold a_cv at h
  split at h
  · rename_i a r hs
    split at h
    · rename_i cj fs hw
      split at h
      · rename_i h1
        obtain ⟨⟨rfl, h2⟩, h3, h4, h5, h6⟩ := h1
        exact ⟨a, fs, r, hs, hw, h2, h3, h4, h5, h6, (Option.some.inj h).symm⟩
      · cases h
    · cases h
  · cases h
theorem cs_inl {j : Nat} {st : List Value} {z : AC} (h : a_cs j st = some z) : (mV j ≤ st.length ∧ mD j = 1 ∧ j + 1 < mN ∧ a_cat (st.drop (mV j)) ≤ 8 ∧ a_cat (st.take (mV j)).reverse ≤ mX j) ∧ z = (j, (st.take (mV j)).reverse, st.drop (mV j)) := by
  unfold a_cs at h
  split at h
  · rename_i h1
    exact ⟨⟨h1.1.1, h1.1.2, h1.2⟩, (Option.some.inj h).symm⟩
  · cases h
theorem a_wD0 {j : Nat} (h : mD j = 0) : wD j = [mW j, .instanceMethod (mY j), .selects (mY j).cls (mY j) (mY j)] := by unfold wD; rw [h]; rfl
theorem a_wD1 {j : Nat} (h : mD j = 1) : wD j = [mW j, .static (mY j)] := by unfold wD; rw [h]; rfl
theorem a_wD2 {j : Nat} (h : mD j = 2) : wD j = [mW j, .instanceMethod (mY j)] := by unfold wD; rw [h]; rfl
theorem a_nw_use {w : Cond} (h : a_hw w = true) {args : Array Value} {s : State} (hZ : va_Nw w s) : w.before args s = true := by
  cases w with
  | methodLinkNest a i x h => exact va_Nw.use rfl hZ
  | castable a b => exact va_Nw.use rfl hZ
  | declares x => exact va_Nw.use rfl hZ
  | _ => cases h
theorem a_mWs_in {j : Nat} (h : mW j ∈ ALLW) : ∀ z ∈ mWs j, z ∈ ALLW := fun z hz => (List.mem_cons.mp hz).elim (fun e => by rw [e]; exact h) id
section ALLR
variable {p : Program} {l : Launch} {e : Env} {R : Room} {s : State} {m : MethodId} {args : Array Value} {below : List Frame} {meth : Method} {c : Code} {H : Heap} {locs : List Loc} {Q : State → Prop}
variable {adK adV : Nat → Nat} {b : Nat} {sc : List Int32} {D : va_G} {cA : Nat → ClassId} {A : Nat → Prop} {θ : Nat → Nat} {w : AW} {ls : AL} {st : List Value} {sl : Array Slot} {d k pc len nc ns n : Nat} {N : AN}
set_option maxHeartbeats 4000000 in
theorem a_call {i : Instr} {j : Nat} {ags rest : List Value} {res : AR} (IH : a_FS sc n) (hX : a_X adK adV b sc D cA A p l R s m args meth c (d + 1) k) (hI : a_I D cA adK b A s H locs θ w) (hF : a_F θ w (mX k) sl ls st) (hd : a_lk (mC k) pc = some (i, len)) (hc : cal k st w i = some (j, ags, rest))
    (h : ev sc n d j 0 (lv_args 0 ags) [] w 0 0 = some res) (hkd : mD j = 0 ∨ ∃ v, res.1 = .inl v) (hr : nc + res.2.2.1 ≤ R.cells ∧ ns + res.2.2.2 ≤ R.slots) :
    vx_Run p l e R s m args below meth c H locs nc ns res.2.2.1 res.2.2.2 (F0 m pc sl (st.map (a_V θ))) (rest.map (a_V θ)) (a_mQc D cA adK b θ w H.size res (ags.map (a_V θ)).toArray) (a_mXC D cA adK b θ w H.size res) (va_A (a_C cA θ w) H.size) ∧ ∀ v ∈ rest, a_rk w.length v := by
  have hCF := hX.1
  have hf := hX.f
  have hlo := hX.lo
  have hstk := hF.2.2
  have hlen : a_lo (d + 1) = a_lo d + 100 := by unfold a_lo; omega
  have met : ∀ {j : Nat} {ags : List Value}, ev sc n d j 0 (lv_args 0 ags) [] w 0 0 = some res → j + 1 < mN → a_cat ags ≤ mX j → (∀ v ∈ ags, a_rk w.length v) → vx_Met l (mY j) (mWs j) (mRm d res) (a_mPc D cA adK adV b sc θ w ags H.size) (a_mQc D cA adK b θ w H.size res) (a_mXC D cA adK b θ w H.size res) res.2.2.1 res.2.2.2 (va_A (a_C cA θ w) H.size) :=
    fun h hj hcat hk => a_met IH h hj hcat hk hI.2.2.2.1 hI.2.2.2.2.1 hI.2.2.2.2.2.1 hI.2.2.2.2.2.2 l hX.2.2.1 D cA adV H.size
  have nox : (∃ v, res.1 = .inl v) → ∀ E s0 t0, ¬ a_mXC D cA adK b θ w H.size res E s0 t0 := by
    rintro ⟨v, hv⟩ E s0 t0 ⟨x, θ', hx, -⟩
    rw [hv] at hx
    cases hx
  have catr : ∀ {r : List Value}, a_cat r ≤ 8 → 2 * (F0 m pc sl (st.map (a_V θ))).monitorRoom + ((r.map (a_V θ)).map fun v => v.category).sum ≤ 8 := fun {r} hr => by
    have := a_cat_V θ r
    unfold a_cat at this hr
    show 2 * 0 + _ ≤ 8
    omega
  have rm : ∀ {j : Nat}, mX j ≤ 60 → (mRm d res).frames + 1 ≤ R.frames ∧ 8 + (mX j + 11) + (mRm d res).locals ≤ R.locals := fun {j} h60 => by
    constructor
    · show d + 1 ≤ _
      exact hf
    · show 8 + (mX j + 11) + a_lo d ≤ _
      omega
  have kin : ∀ v ∈ st, a_rk w.length v := hstk
  cases i with
  | invokevirtual x =>
    have h1 : (match a_lk (kM (mK k)) x with
      | some (0, j) => a_cv 0 j st w
      | _ => none) = some (j, ags, rest) := hc
    split at h1
    · rename_i j0 hj
      obtain ⟨a, fs, r, hs, hw, hD, hjN, hH, hrc, hac, e0⟩ := cv_inl h1
      cases e0
      obtain ⟨f1, f2, f3, f4, f5, f6, f7, f8, f9⟩ := mPb_f (k := j) (by omega)
      have hta : ∀ v ∈ st.take (mV j), a_rk w.length v := fun v hv => kin v (List.mem_of_mem_take hv)
      have hdr : ∀ v ∈ Value.ref a :: rest, a_rk w.length v := fun v hv => kin v (List.mem_of_mem_drop (by rw [hs]; exact hv))
      refine ⟨?_, a_tl hdr⟩
      have hM := met h hjN hac (fun v hv => (List.mem_cons.mp hv).elim (fun q => by rw [q]; exact a_hd hdr) (fun q => hta v (List.mem_reverse.mp q)))
      have hdw := a_inDW hjN
      rw [a_wD0 hD] at hdw
      have hG : GoodIn ALLW (wsV (RN (mK k)) x (mY j).cls (mY j) (mWs j)) := a_gd (fun z hz => by
        rcases List.mem_append.mp hz with q | q
        · simp only [List.mem_cons, List.not_mem_nil, or_false] at q
          rcases q with rfl | rfl | rfl | rfl
          · exact a_inM hX.kc (a_lk_mem hj) (fun z9 => nomatch z9)
          · exact hdw _ (by simp)
          · exact hdw _ (by simp)
          · rw [f3]; exact a_inI f7
        · exact a_mWs_in (hdw _ (by simp)) z q)
      have hl9 : (st.take (mV j)).length = mV j := by
        have : (st.drop (mV j)).length = rest.length + 1 := by rw [hs]; rfl
        rw [List.length_drop] at this
        rw [List.length_take]; omega
      obtain ⟨-, cellB, g1, g2, g3⟩ := a_recv hX hI hw
      exact vx_runV (As := ((st.take (mV j)).reverse).map (a_V θ)) hCF hM (cwV (mV j) hCF.2.2.2.2 hG (by unfold mWs; rw [mW_n hH]) rfl rfl ⟨rfl, f6.1, f6.2, f4⟩ (rm f5))
        ⟨a_mBlind, ⟨cellB, g1, g2, by rw [f3]; exact g3⟩, fun U hU hW => a_pre hX hI hU hW⟩ rfl (by rw [List.length_map, List.length_reverse]; exact hl9) hF.1.1 (a_split hs) (catr hrc) (a_dec1 hX.kN hd rfl) hr
    · cases h1
  | invokestatic x =>
    have h1 : (match a_lk (kM (mK k)) x with
      | some (0, j) => a_cs j st
      | _ => none) = some (j, ags, rest) := hc
    split at h1
    · rename_i j0 hj
      obtain ⟨⟨hle, hD, hjN, hrc, hac⟩, e0⟩ := cs_inl h1
      cases e0
      obtain ⟨f1, f2, f3, f4, f5, f6, f7, f8, f9⟩ := mPb_f (k := j) (by omega)
      refine ⟨?_, fun v hv => kin v (List.mem_of_mem_drop hv)⟩
      have hinl : ∃ v, res.1 = .inl v := hkd.elim (fun q => by rw [hD] at q; cases q) id
      have hM := a_metOf (met h hjN hac (fun v hv => kin v (List.mem_of_mem_take (List.mem_reverse.mp hv)))) (nox hinl)
      have hdw := a_inDW hjN
      rw [a_wD1 hD] at hdw
      have hG : GoodIn ALLW (va_wsS (RN (mK k)) x (mY j) (mWs j)) := a_gd (fun z hz => by
        rcases List.mem_append.mp hz with q | q
        · simp only [List.mem_cons, List.not_mem_nil, or_false] at q
          rcases q with rfl | rfl | rfl
          · exact a_inM hX.kc (a_lk_mem hj) (fun z9 => nomatch z9)
          · exact hdw _ (by simp)
          · rw [f3]; exact a_inI f7
        · exact a_mWs_in (hdw _ (by simp)) z q)
      have hl9 : (st.take (mV j)).length = mV j := by rw [List.length_take]; omega
      cases hH : mH j with
      | nil =>
        exact a_runOf (va_runS (As := ((st.take (mV j)).reverse).map (a_V θ)) hCF hM (va_cwS (mV j) hCF.2.2.2.2 hG (by unfold mWs; rw [mW_n hH]) rfl rfl ⟨f6.1, f6.2, f4⟩ (rm f5))
          ⟨a_mBlind, fun U hU hW => a_pre hX hI hU hW⟩ rfl (by rw [List.length_map, List.length_reverse]; exact hl9) hF.1.1 a_split0 (catr hrc) (a_dec1 hX.kN hd rfl) hr)
      | cons z zs =>
        exact a_runOf (vx_runSW (As := ((st.take (mV j)).reverse).map (a_V θ)) hCF hM (vx_cwSW (mV j) hCF.2.2.2.2 hG (by unfold mWs; rw [mW_h hH]) rfl rfl ⟨f6.1, f6.2, f4⟩ (rm f5))
          ⟨a_mBlind, fun U hU hW => a_pre hX hI hU hW⟩ rfl (by rw [List.length_map, List.length_reverse]; exact hl9) hF.1.1 a_split0 (catr hrc) (a_dec1 hX.kN hd rfl) hr)
    · cases h1
  | invokespecial x =>
    have h1 : (match a_lk (kM (mK k)) x with
      | some (0, j) => a_cv 2 j st w
      | some (1, j) => a_cv 2 j st w
      | _ => none) = some (j, ags, rest) := hc
    have both : ∃ (t j0 : Nat), (t = 0 ∨ t = 1) ∧ a_lk (kM (mK k)) x = some (t, j0) ∧ a_cv 2 j0 st w = some (j, ags, rest) := by
      split at h1
      · rename_i j0 hj
        exact ⟨0, j0, Or.inl rfl, hj, h1⟩
      · rename_i j0 hj
        exact ⟨1, j0, Or.inr rfl, hj, h1⟩
      · cases h1
    obtain ⟨t, j0, ht, hj, h1⟩ := both
    obtain ⟨a, fs, r, hs, hw, hD, hjN, hH, hrc, hac, e0⟩ := cv_inl h1
    cases e0
    obtain ⟨f1, f2, f3, f4, f5, f6, f7, f8, f9⟩ := mPb_f (k := j) (by omega)
    have hta : ∀ v ∈ st.take (mV j), a_rk w.length v := fun v hv => kin v (List.mem_of_mem_take hv)
    have hdr : ∀ v ∈ Value.ref a :: rest, a_rk w.length v := fun v hv => kin v (List.mem_of_mem_drop (by rw [hs]; exact hv))
    refine ⟨?_, a_tl hdr⟩
    have hinl : ∃ v, res.1 = .inl v := hkd.elim (fun q => by rw [hD] at q; cases q) id
    have hM := a_metOf (met h hjN hac (fun v hv => (List.mem_cons.mp hv).elim (fun q => by rw [q]; exact a_hd hdr) (fun q => hta v (List.mem_reverse.mp q)))) (nox hinl)
    have hdw := a_inDW hjN
    rw [a_wD2 hD] at hdw
    have hG : GoodIn ALLW (mWs j) := a_gd (a_mWs_in (hdw _ (by simp)))
    have hini : (Cond.initialized (mY j).cls).before args s = true := by rw [f3]; exact hCF.2.2.2.2 _ (a_inI f7)
    have hin : (Cond.instanceMethod (mY j)).before args s = true := hCF.2.2.2.2 _ (hdw _ (by simp))
    have hl9 : (st.take (mV j)).length = mV j := by
      have : (st.drop (mV j)).length = rest.length + 1 := by rw [hs]; rfl
      rw [List.length_drop] at this
      rw [List.length_take]; omega
    have hw0 : mWs j = Cond.code (mY j) (mB j) (mX j) none :: ALLW := by unfold mWs; rw [mW_n hH, f9 hD]
    rcases ht with rfl | rfl
    · exact a_runOf (va_runI (As := ((st.take (mV j)).reverse).map (a_V θ)) hCF hM (cwI (mV j) hCF.2.2.2.2 hG hw0 rfl rfl hini (hCF.2.2.2.2 _ (a_inM hX.kc (a_lk_mem hj) (fun z9 => nomatch z9))) hin (f8.mp hD) ⟨f6.1, f6.2, f4⟩ (rm f5))
        ⟨a_mBlind, fun U hU hW => a_pre hX hI hU hW⟩ rfl (by rw [List.length_map, List.length_reverse]; exact hl9) hF.1.1 (a_split hs) (catr hrc) (a_dec1 hX.kN hd rfl) hr)
    · have hnw : va_Nw (.methodLinkNest (RN (mK k)) x (mY j) "SnuffMill") s := hX.E.2.2.2.2.2.2.1 _ (a_inMN (q := (x, 1, j)) hX.kc (a_lk_mem hj) rfl)
      exact a_runOf (va_runIN (As := ((st.take (mV j)).reverse).map (a_V θ)) hCF hM ⟨va_cnB (mV j) hCF.2.2.2.2 hG hw0 rfl rfl hnw hini ⟨f6.1, f6.2, f4⟩ (rm f5), f8.mp hD, hin⟩
        ⟨a_mBlind, fun U hU hW => a_pre hX hI hU hW⟩ rfl (by rw [List.length_map, List.length_reverse]; exact hl9) hF.1.1 (a_split hs) (catr hrc) (a_dec1 hX.kN hd rfl) hr)
  | _ => cases hc
theorem ret_gen {i : Instr} {o : AO} (h : a_ret k i st = some o) : ∃ v, o = (.inl v, 0, 0) := by
  unfold a_ret at h
  split at h
  · cases h; exact ⟨_, rfl⟩
  · split at h
    · cases h; exact ⟨_, rfl⟩
    · cases h
  · cases h; exact ⟨_, rfl⟩
  · cases h; exact ⟨_, rfl⟩
  · cases h
theorem thr_inl {v : Nat} (h : a_thr k pc v = true) : mK k = 7 ∧ ∃ (x y i : Nat), a_lk (mC k) (pc + 3) = some (.dup, 1) ∧ a_lk (mC k) (pc + 4) = some (.ldc_w x, 3) ∧ a_lk (mC k) (pc + 7) = some (.invokespecial y, 3) ∧ a_lk (mC k) (pc + 10) = some (.athrow, 1) ∧ a_lk (kS 7) x = some i ∧ i < sN ∧ ((v = 100 → y = 340) ∧ (¬ v = 100 → y = 347)) := by
  unfold a_thr at h
  rw [Bool.and_eq_true] at h
  obtain ⟨h1, h2⟩ := h
  refine ⟨Nat.eq_of_beq_eq_true h1, ?_⟩
  split at h2
  · rename_i x y e1 e2 e3 e4
    rw [Bool.and_eq_true] at h2
    obtain ⟨h3, h4⟩ := h2
    split at h3
    · rename_i i e5
      refine ⟨x, y, i, e1, e2, e3, e4, e5, Nat.le_of_ble_eq_true h3, fun hv => ?_, fun hv => ?_⟩
      · subst hv
        exact Nat.eq_of_beq_eq_true h4
      · have : Nat.beq v 100 = false := by
          cases hb : Nat.beq v 100 with
          | true => exact absurd (Nat.eq_of_beq_eq_true hb) hv
          | false => rfl
        rw [this] at h4
        exact Nat.eq_of_beq_eq_true h4
    · cases h3
  · cases h2
theorem xw_ok : ∀ v : Nat, v = 100 ∨ v = 101 → ∀ w ∈ Cond.classLink RX7 0 (xNm v) :: Cond.initialized (xNm v) :: a_xw v, vx_ot w = true := by
  rintro v (rfl | rfl) <;> decide +kernel
theorem xw_before (hX : a_X adK adV b sc D cA A p l R s m args meth c d k) {v : Nat} (hv : v = 100 ∨ v = 101) : ∀ w ∈ a_xw v, w.before args s = true := by
  intro w hw
  cases hg : goodWord w with
  | true =>
    refine hX.1.2.2.2.2 _ (a_inX _ (List.mem_append_right _ ?_))
    rcases hv with rfl | rfl
    · exact List.mem_append_left _ (List.mem_filter.mpr ⟨hw, hg⟩)
    · exact List.mem_append_right _ (List.mem_filter.mpr ⟨hw, hg⟩)
  | false =>
    have hm : w ∈ AWN := by
      refine List.mem_append_right _ (List.mem_append_right _ ?_)
      rcases hv with rfl | rfl
      · exact List.mem_append_left _ (List.mem_filter.mpr ⟨hw, by rw [hg]; rfl⟩)
      · exact List.mem_append_right _ (List.mem_filter.mpr ⟨hw, by rw [hg]; rfl⟩)
    exact a_nw_use (List.all_eq_true.mp AWN_hw w hm) (hX.E.2.2.2.2.2.2.1 w hm)
set_option maxHeartbeats 2000000 in
theorem s_fin {i : Instr} {o : AO} {n0 : Nat} {θ0 : Nat → Nat} (hX : a_X adK adV b sc D cA A p l R s m args meth c d k) (hI : a_I D cA adK b A s H locs θ w) (hF : a_F θ w (mX k) sl ls st) (hd : a_lk (mC k) pc = some (i, len)) (h0 : fin d k pc st i = some o) (hex : a_ex n0 θ0 θ) (hr : nc + o.2.1 ≤ R.cells ∧ ns + o.2.2 ≤ R.slots)
    (hEnd : a_End adK b D cA A p l e R s m args below meth c Q k n0 θ0 (o.1, w, nc + o.2.1, ns + o.2.2)) : W p l e R s m args below meth c H locs nc ns Q (F0 m pc sl (st.map (a_V θ))) := by
  have one : ∀ j : Instr, a_lenOk j len = Nat.beq len 1 → a_lk (mC k) pc = some (j, len) → a_lk (mC k) pc = some (j, 1) := fun j hj h9 => by
    have h1 := a_declen hX.kN h9
    rw [hj] at h1
    rw [← Nat.eq_of_beq_eq_true h1]; exact h9
  have hret : ∀ j : Instr, a_lenOk j len = Nat.beq len 1 → a_lk (mC k) pc = some (j, len) → a_ret k j st = some o → W p l e R s m args below meth c H locs nc ns Q (F0 m pc sl (st.map (a_V θ))) := fun j hj h9 hr9 => by
    obtain ⟨v, rfl⟩ := ret_gen hr9
    exact hEnd.1 v rfl θ H locs sl pc j st (one j hj h9) hr9 hex hI
  cases i with
  | ireturn => exact hret _ rfl hd h0
  | lreturn => exact hret _ rfl hd h0
  | return_ => exact hret _ rfl hd h0
  | new x =>
    have h1 : a_thx d k x pc st = some o := h0
    unfold a_thx at h1
    split at h1
    · rename_i v hv
      split at h1
      · rename_i h2
        obtain ⟨hv9, hd6, hcat, hthr, hH⟩ := h2
        cases h1
        obtain ⟨h7, x1, y, i, e1, e2, e3, e4, e5, hi, hy⟩ := thr_inl hthr
        obtain ⟨⟨hx, hb, hml, hown, hts⟩, hlocks, hl, -, htab, -⟩ := id hX
        obtain ⟨Qc, XC, free, hQ, hfree, hxc⟩ := hEnd.2 v rfl
        subst hQ
        have hE := hX.E
        have hf := hX.f
        have hlo := hX.lo
        have hkn := hX.kN
        rw [h7] at hown hv
        have hxw : a_xw v = (a_xAll RX7 y (xNm v) (a_rj v) (a_rx v)).filter vx_no := by
          rcases hv9 with rfl | rfl
          · rw [hy.1 rfl]; rfl
          · rw [hy.2 (by decide)]; rfl
        have hot := xw_ok v hv9
        refine a_throwSW (own := RX7) (cls := xNm v) (text := sT i) (ik := x) (is := x1) (ic := y) (ix := a_rj v) (rx := a_rx v) (sa := adK i) (A := A) (cc := mB k) hx hb hl ?_ ?_ ?_ ?_ hown ?_ (hts _ (a_inKX (c := 7) (by decide) (a_lk_mem hv))) (hts _ (a_inX _ (List.mem_append_left _ ?_))) ?_ ?_ ?_ hE.2.1 hE.2.2.1 hI.2.2.1 (by rw [hml]; exact hF.1.1)
          (a_dec1 hkn hd rfl) (a_dec hkn e1) (a_dec hkn e2) (a_dec hkn e3) (a_dec hkn e4) ?_ ?_ ?_ hr.1 hr.2 hlocks ?_ ?_ (Nat.le_refl _) (Nat.le_refl _)
        · rcases hv9 with rfl | rfl <;> decide +kernel
        · rcases hv9 with rfl | rfl <;> decide +kernel
        · rcases hv9 with rfl | rfl <;> decide +kernel
        · rcases hv9 with rfl | rfl <;> decide +kernel
        · rcases hv9 with rfl | rfl <;> decide +kernel
        · rcases hv9 with rfl | rfl <;> simp
        · have := a_str hX (x := x1) (i := i) (by rw [h7]; exact e5)
          rw [h7] at this
          exact this
        · rw [← hxw]; exact xw_before hX hv9
        · rw [← hxw]
          intro z hz
          rcases List.mem_cons.mp hz with rfl | hz
          · rfl
          · exact hot z (List.mem_cons_of_mem _ hz)
        · intro z hz
          rw [htab, hH] at hz
          cases hz
        · omega
        · have := a_cat_V θ st
          unfold a_cat at this hcat
          unfold a_lo at hlo
          omega
        · intro t ht hz hq
          exact hxc θ H locs t hex hI ht hz hq
        · exact fun z hz => hfree _ (hI.2.2.1.2.2 z hz)
      · cases h1
    · cases h1
  | _ => cases h0
end ALLR
end
section
/-! ===== every run of the abstract machine is a run of the class ===== -/
theorem a_ret_int {k : Nat} {z : Int32} (h : mR k = some .int) : a_ret k .ireturn [.int z] = some (.inl (some (.int z)), 0, 0) := by unfold a_ret; rw [h]
section ALLS
variable {p : Program} {l : Launch} {e : Env} {R : Room} {s : State} {m : MethodId} {args : Array Value} {below : List Frame} {meth : Method} {c : Code} {H : Heap} {locs : List Loc} {Q : State → Prop}
variable {adK adV : Nat → Nat} {b : Nat} {sc : List Int32} {D : va_G} {cA : Nat → ClassId} {A : Nat → Prop} {θ : Nat → Nat} {w : AW} {ls : AL} {st : List Value} {sl : Array Slot} {d k pc len nc ns n : Nat} {N : AN}
set_option maxHeartbeats 4000000 in
/-- a call, and what the caller does with its answer -/
theorem s_cal {i : Instr} {j n0 : Nat} {ags rest : List Value} {r res : AR} {θ0 : Nat → Nat} (IH : a_FS sc n) (hX : a_X adK adV b sc D cA A p l R s m args meth c (d + 1) k) (hI : a_I D cA adK b A s H locs θ w) (hF : a_F θ w (mX k) sl ls st) (hd : a_lk (mC k) pc = some (i, len)) (hc : cal k st w i = some (j, ags, rest))
    (h : ev sc n d j 0 (lv_args 0 ags) [] w 0 0 = some r) (hb : a_bk k pc j rest nc ns (fun st' w' a b => ev sc n (d + 1) k (pc + 3) ls st' w' a b) (some r) = some res) (hex : a_ex n0 θ0 θ) (hn0 : n0 ≤ w.length) (hrc : res.2.2.1 ≤ R.cells) (hrs : res.2.2.2 ≤ R.slots)
    (hEnd : a_End adK b D cA A p l e R s m args below meth c Q k n0 θ0 res) : W p l e R s m args below meth c H locs nc ns Q (F0 m pc sl (st.map (a_V θ))) := by
  obtain ⟨-, -, hlw, -⟩ := IH d j 0 _ [] w 0 0 r h
  obtain ⟨o, w', a, b9⟩ := r
  cases o with
  | inl v =>
    have h2 : ev sc n (d + 1) k (pc + 3) ls (v.toList ++ rest) w' (nc + a) (ns + b9) = some res := hb
    obtain ⟨i1, i2, i3, i4⟩ := IH _ _ _ _ _ _ _ _ _ h2
    obtain ⟨hrun, hkn⟩ := a_call IH hX hI hF hd hc h (Or.inr ⟨v, rfl⟩) ⟨Nat.le_trans i1 hrc, Nat.le_trans i2 hrs⟩
    refine a_run hrun (fun v0 st₀ t L h0 hv hL hQ => ?_) (fun E ce q st₀ t L h0 hv hL hQ hce hcv hcl => ?_)
    · obtain ⟨⟨v1, θ', e1, hex', e2, hJ, hval⟩, hF9⟩ := hQ
      cases e1
      cases e2
      have hI' := a_back hX hI h0 hL hJ hF9
      have hm : (v.toList ++ rest).map (a_V θ') = v.toList ++ rest.map (a_V θ) := by
        rw [List.map_append, a_Vs_ex hex' hkn]
        congr 1
        cases v with
        | none => rfl
        | some u => exact congrArg (fun z => [z]) ((hval u (by simp) 0).2 θ')
      rw [← hm]
      exact i4 p l e R s m args below meth c t.heap _ Q adK adV b D cA A θ' sl n0 θ0 hX hI' ((hF.ex hex' hlw).st (fun u hu => by
        rcases List.mem_append.mp hu with q | q
        · exact (hval u q _).1
        · exact a_rk_mono (hkn u q) hlw)) (a_ex_tr hex hex' hn0) (Nat.le_trans hn0 hlw) hrc hrs hEnd
    · obtain ⟨x, θ', e1, -⟩ := hQ
      cases e1
  | inr x =>
    have h2 : (if mD j = 0 then (match mH k with
      | [] => some (Sum.inr x, w', nc + a, ns + b9)
      | _ :: _ => match a_hnd k pc x with
        | some z => some (Sum.inl (some (.int z)), w', nc + a, ns + b9)
        | none => none) else none) = some res := hb
    split at h2
    · rename_i hD
      have hrr : nc + a ≤ R.cells ∧ ns + b9 ≤ R.slots := by
        split at h2
        · cases h2; exact ⟨hrc, hrs⟩
        · split at h2
          · cases h2; exact ⟨hrc, hrs⟩
          · cases h2
      obtain ⟨hrun, hkn⟩ := a_call IH hX hI hF hd hc h (Or.inl hD) hrr
      refine a_run hrun (fun v0 st₀ t L h0 hv hL hQ => ?_) (fun E ce q st₀ t L h0 hv hL hQ hce hcv hcl => ?_)
      · obtain ⟨⟨v1, θ', e1, -⟩, -⟩ := hQ
        cases e1
      · obtain ⟨x1, θ', e1, rfl, hex', hJ, hF9⟩ := hQ
        cases e1
        have hI' := a_back hX hI h0 hL hJ hF9
        have hex2 := a_ex_tr hex hex' hn0
        split at h2
        · rename_i hH
          cases h2
          obtain ⟨Qc, XC, free, hQ, hfree, hxc⟩ := hEnd.2 x rfl
          subst hQ
          refine vx_out (E := xNm x) (fun z hz => ?_) hX.2.1 hce hcv hcl (fun t' e9 ha => hxc θ' t.heap _ t' hex2 hI' ha (by rw [e9]; exact Nat.le_refl _) (fun q9 _ => by rw [e9])) (fun z hz => hfree _ (hI'.2.2.1.2.2 z hz)) (Nat.le_refl _) (Nat.le_refl _)
          rw [hX.2.2.2.2.1, hH] at hz
          cases hz
        · split at h2
          · rename_i z hz
            cases h2
            exact a_hnd_ok hX hz ⟨_, hF.1⟩ hce hcv hcl (fun pc' sl' hlk hmr => hEnd.1 _ rfl θ' t.heap _ sl' pc' .ireturn [.int z] hlk (a_ret_int hmr) hex2 hI')
          · cases h2
    · cases h2
end ALLS
set_option maxHeartbeats 4000000 in
theorem a_fs (sc : List Int32) : ∀ n : Nat, a_FS sc n
  | 0 => fun d k pc ls st w nc ns res h => by cases h
  | n + 1 => by
    have IH := a_fs sc n
    intro d k pc ls st w nc ns res h
    unfold ev at h
    split at h
    · cases h
    · rename_i i len hd
      split at h
      · rename_i pc' ls' st' w' a b9 hins
        obtain ⟨g1, g2, g3, g4⟩ := IH _ _ _ _ _ _ _ _ _ h
        have hl : w.length ≤ w'.length := ins_len hins
        refine ⟨by omega, by omega, Nat.le_trans hl g3, ?_⟩
        intro p l e R s m args below meth c H locs Q adK adV b D cA A θ sl n0 θ0 hX hI hF hex hn0 hrc hrs hEnd
        exact s_all hX hI hF hd hins ⟨Nat.le_trans g1 hrc, Nat.le_trans g2 hrs⟩ (fun θ' H' locs' sl' hex' hI' hF' =>
          g4 p l e R s m args below meth c H' locs' Q adK adV b D cA A θ' sl' n0 θ0 hX hI' hF' (a_ex_tr hex hex' hn0) (Nat.le_trans hn0 hl) hrc hrs hEnd)
      · split at h
        · rename_i o a b9 hfin
          cases h
          refine ⟨Nat.le_add_right _ _, Nat.le_add_right _ _, Nat.le_refl _, ?_⟩
          intro p l e R s m args below meth c H locs Q adK adV b D cA A θ sl n0 θ0 hX hI hF hex hn0 hrc hrs hEnd
          exact s_fin hX hI hF hd hfin hex ⟨hrc, hrs⟩ hEnd
        · split at h
          · rename_i j ags rest hcal
            cases d with
            | zero => cases h
            | succ d' =>
              have h1 : a_bk k pc j rest nc ns (fun st' w' a b => ev sc n (d' + 1) k (pc + 3) ls st' w' a b) (ev sc n d' j 0 (lv_args 0 ags) [] w 0 0) = some res := h
              cases hev : ev sc n d' j 0 (lv_args 0 ags) [] w 0 0 with
              | none => rw [hev] at h1; cases h1
              | some r =>
                rw [hev] at h1
                obtain ⟨q1, q2, q3, -⟩ := IH _ _ _ _ _ _ _ _ _ hev
                have key : nc ≤ res.2.2.1 ∧ ns ≤ res.2.2.2 ∧ w.length ≤ res.2.1.length := by
                  obtain ⟨o, w', a, b9⟩ := r
                  cases o with
                  | inl v =>
                    obtain ⟨i1, i2, i3, -⟩ := IH _ _ _ _ _ _ _ _ _ (show ev sc n (d' + 1) k (pc + 3) ls (v.toList ++ rest) w' (nc + a) (ns + b9) = some res from h1)
                    exact ⟨Nat.le_trans (Nat.le_add_right _ _) i1, Nat.le_trans (Nat.le_add_right _ _) i2, Nat.le_trans q3 i3⟩
                  | inr x =>
                    have h2 : (if mD j = 0 then (match mH k with
                      | [] => some (Sum.inr x, w', nc + a, ns + b9)
                      | _ :: _ => match a_hnd k pc x with
                        | some z => some (Sum.inl (some (.int z)), w', nc + a, ns + b9)
                        | none => none) else none) = some res := h1
                    split at h2
                    · split at h2
                      · cases h2; exact ⟨Nat.le_add_right _ _, Nat.le_add_right _ _, q3⟩
                      · split at h2
                        · cases h2; exact ⟨Nat.le_add_right _ _, Nat.le_add_right _ _, q3⟩
                        · cases h2
                    · cases h2
                refine ⟨key.1, key.2.1, key.2.2, ?_⟩
                intro p l e R s m args below meth c H locs Q adK adV b D cA A θ sl n0 θ0 hX hI hF hex hn0 hrc hrs hEnd
                exact s_cal IH hX hI hF hd hcal hev h1 hex hn0 hrc hrs hEnd
          · cases h
end
section
/-! THE CLAIM OUT OF ONE WALK OF THE LAW'S BODY. Your part is whole_start (and what it stands on); all else here is the same for every law, but numbers. -/
def R_law : String := "SnuffMillLaw"
def lw_P (b : Addr) (xs : List Int32) (args : Array Value) (s : State) : Prop := args = #[.ref b] ∧ s.IntsAt b xs ∧ xs.length ≤ 8 ∧ (Jvm.Cond.and given_1 narrow_1).before args s = true
def lw_Q (_ : Array Value) (s : State) (o : Outcome) (t : State) : Prop := o = .returned (some (.int 1)) ∧ Framed s o t [] 600002 7302232
def lw_Z (below : List Frame) (a : Array Value) (s : State) : State → Prop := fun t => ∃ o, t.status = .running ∧ Ended t below o ∧ lw_Q a s o t
/-- the law's own end, with 1 on the stack, nothing written that was there before, its room as the claim has it -/
theorem lw_ret {p : Program} {l : Launch} {e : Env} {s : State} {m : MethodId} {below : List Frame} {meth : Method} {c : Code} {b : Nat} (hx : p.tables.exec = Jvm.exec) (hb : c.code = code) (hr : meth.sig.returnType = ret) (hlocks : meth.locks = false) {pc : Nat} {H : Heap} {ls : Array Slot} (hdg : decode code pc = .ok (.ireturn, 1)) : W p l e room_1 s m #[Value.ref b] below meth c H [] 600002 7302232 (lw_Z below #[Value.ref b] s) (F0 m pc ls [.int 1]) := by
  intro T hT X
  obtain ⟨fs, hret, hrun, hended, hW, hframe⟩ := X.leave (v := some (.int 1)) (hlocks := hlocks) (fun h => by rw [hr] at h; cases h)
  have hmeth' : T.vm.method? m = some meth := X.method'
  refine ⟨T.setFrames fs, ?_, .returned (some (.int 1)), hrun, hended, rfl, ⟨_, rfl⟩, hW, hframe⟩
  jvm_step X.here [X.here.top, hx, hb, hdg, hmeth', hr, ret, narrow_b1]
  (try refine ⟨rfl, ?_⟩); (try refine ⟨rfl, ?_⟩)
  first | (intro acts; rw [hret _ acts rfl rfl rfl]) | rw [hret _ _ rfl rfl rfl]
  exact Steps.refl _
/-- what holds at the law's entry: the machine, the code, the tables' words (any of lw_tbl by 'hts w (by decide +kernel)'), the script of L ints xs at the cell b, what the Statement gives of the start (any of its parts by flat_of_before) -/
def lw_At (p : Program) (s : State) (m : MethodId) (meth : Method) (c : Code) (b L : Nat) (xs : Nat → Int32) : Prop :=
  p.tables.exec = Jvm.exec ∧ c.code = code ∧ meth.sig.returnType = ret ∧ c.maxLocals = 8 ∧ s.vm.findClass R_law = some m.cls ∧ (∀ w ∈ lw_tbl, w.before #[Value.ref b] s = true) ∧ va_X b L xs s s.heap ∧ b < s.heap.size ∧ meth.locks = false ∧ (Jvm.Cond.and given_1 narrow_1).before #[Value.ref b] s = true ∧ ∀ x ∈ c.exceptionTable.toList, False
/-! ===== the entry: what the tables and the start give ===== -/
def a_nW (i : Nat) : List Cond := [.exactly (.string (RN (sC i)) (sP i)) "java/lang/String", .eq (.field (.string (RN (sC i)) (sP i)) "java/lang/String" "coder" "B") (.int 0), .arrayOf (.field (.string (RN (sC i)) (sP i)) "java/lang/String" "value" "[B") .byte, .eq (.length (.field (.string (RN (sC i)) (sP i)) "java/lang/String" "value" "[B")) (.int (Int32.ofNat (sB i).length))] ++
  (List.range (sB i).length).map fun j => .eq (.elem (.field (.string (RN (sC i)) (sP i)) "java/lang/String" "value" "[B") (.int (Int32.ofNat j))) (.int ((sB i).getD j 0))
def a_nO : List Nat := [90, 95, 146, 151, 156, 161, 166, 173, 61, 85, 179, 224, 230, 236, 31, 242, 273, 280, 289, 298, 306, 315, 323, 331, 338, 348, 356, 363, 370, 377, 386, 394, 402, 411, 419, 427]
set_option maxRecDepth 100000 in
theorem a_nE_ok : ((List.range sN).all fun i => decide (a_nW i = ((flatC (Jvm.Cond.and given_1 narrow_1)).drop (a_nO.getD i 0)).take (4 + (sB i).length))) = true := by decide +kernel
theorem a_nW_ok {i : Nat} (hi : i < sN) : ∀ w ∈ a_nW i, w ∈ flatC (Jvm.Cond.and given_1 narrow_1) := by
  intro w hw
  rw [of_decide_eq_true (List.all_eq_true.mp a_nE_ok i (List.mem_range.mpr hi))] at hw
  exact List.mem_of_mem_drop (List.mem_of_mem_take hw)
set_option maxRecDepth 100000 in
theorem a_sR_ok : ((List.range sN).all fun i => decide (Cond.stringRef (RN (sC i)) (sP i) (sT i) ∈ lw_tbl)) = true := by decide +kernel
set_option maxRecDepth 100000 in
theorem a_st_ok : ([.laysStatic Bundle.tN "UNASSIGNED_STACK" Bundle.steD, .laysStatic Bundle.tN "SUPPRESSED_SENTINEL" Bundle.listD, .initialized Bundle.tN, .laysStatic "java/lang/String" "COMPACT_STRINGS" "Z", .initialized "java/lang/String", .laysStatic "jdk/internal/util/Preconditions" "SIOOBE_FORMATTER" "Ljava/util/function/BiFunction;", .initialized "jdk/internal/util/Preconditions"] : List Cond).all (fun w => decide (w ∈ lw_tbl)) = true := by decide +kernel
set_option maxRecDepth 100000 in
theorem a_gv_ok : ([.isRef (.static Bundle.tN "UNASSIGNED_STACK" Bundle.steD), .isRef (.static Bundle.tN "SUPPRESSED_SENTINEL" Bundle.listD), .eq (.static "java/lang/String" "COMPACT_STRINGS" "Z") (.int 1), .isRef (.static "jdk/internal/util/Preconditions" "SIOOBE_FORMATTER" "Ljava/util/function/BiFunction;"), .not (.castable (xNm 101) (xNm 100))] : List Cond).all (fun w => decide (w ∈ flatC (Jvm.Cond.and given_1 narrow_1))) = true := by decide +kernel
theorem a_arr {args : Array Value} {s : State} {ty : FieldType} (h : (Cond.arrayClass ty).before args s = true) (hp : ∀ C9, ty ≠ .object C9) : ∃ cA : ClassId, ArrOfT s cA ty ∧ va_RA s cA ty := by
  obtain ⟨cA, kA, comp, h1, h2, h3⟩ := Cond.arrayClass_spec h
  refine ⟨cA, fun n z => ⟨fun k h => (by cases h), kA, h2, comp, h3⟩, ?_⟩
  cases ty with
  | object C9 => exact absurd rfl (hp C9)
  | _ => exact h1
theorem a_choose {α : Type} [Inhabited α] {P : Nat → α → Prop} {n : Nat} (h : ∀ i, i < n → ∃ a, P i a) : ∃ f : Nat → α, ∀ i, i < n → P i (f i) := by
  have h0 : ∀ i, ∃ a, i < n → P i a := fun i => by
    by_cases hi : i < n
    · obtain ⟨a, ha⟩ := h i hi
      exact ⟨a, fun _ => ha⟩
    · exact ⟨default, fun h => absurd h hi⟩
  obtain ⟨f, hf⟩ := Classical.axiomOfChoice h0
  exact ⟨f, hf⟩
def a_scr (L : Nat) (xs : Nat → Int32) : List Int32 := (List.range L).map xs
theorem a_scr_len {L : Nat} {xs : Nat → Int32} : (a_scr L xs).length = L := by simp [a_scr]
theorem a_scr_get {L : Nat} {xs : Nat → Int32} {j : Nat} (h : j < L) : (a_scr L xs).getD j 0 = xs j := by simp [a_scr, List.getD_eq_getElem?_getD, h]
set_option maxHeartbeats 4000000 in
/-- from the entry: what the abstract machine answers, the law answers -/
theorem a_start {p : Program} {e : Env} {s : State} {m : MethodId} {below : List Frame} {meth : Method} {c : Code} (l : Launch) (hflags : l.flags = flags0) {b L : Nat} {xs : Nat → Int32} (C0 : lw_At p s m meth c b L xs)
    {n nc ns : Nat} {w : AW} (hev : ev (a_scr L xs) n 100 296 0 [(0, .ref a_SC)] [] [] 0 0 = some (.inl (some (.int 1)), w, nc, ns)) (hnc : nc ≤ 600002) (hns : ns ≤ 7302232) :
    W p l e room_1 s m #[Value.ref b] below meth c s.heap [] 0 0 (lw_Z below #[Value.ref b] s) (entryFrame m ([Value.ref b] : List Value).toArray 8) := by
  obtain ⟨hx, hb, hr, hml, hown, hts, hX, hbl, hlocks, hgv, htab⟩ := id C0
  have hg := flat_of_before _ hgv
  have hA : ∀ a : Nat, a < s.heap.size → ¬ (fun q : Nat => s.heap.size ≤ q) a := fun a h => Nat.not_le.mpr h
  have hall : ∀ w ∈ ALLW, w.before #[Value.ref b] s = true := fun w hw => hts w (g_ALLW w hw).1
  have hst := List.all_eq_true.mp a_st_ok
  have hgs := List.all_eq_true.mp a_gv_ok
  have T : ∀ w ∈ ([.laysStatic Bundle.tN "UNASSIGNED_STACK" Bundle.steD, .laysStatic Bundle.tN "SUPPRESSED_SENTINEL" Bundle.listD, .initialized Bundle.tN, .laysStatic "java/lang/String" "COMPACT_STRINGS" "Z", .initialized "java/lang/String", .laysStatic "jdk/internal/util/Preconditions" "SIOOBE_FORMATTER" "Ljava/util/function/BiFunction;", .initialized "jdk/internal/util/Preconditions"] : List Cond), w.before #[Value.ref b] s = true := fun w hw => hts w (of_decide_eq_true (hst w hw))
  have G : ∀ w ∈ ([.isRef (.static Bundle.tN "UNASSIGNED_STACK" Bundle.steD), .isRef (.static Bundle.tN "SUPPRESSED_SENTINEL" Bundle.listD), .eq (.static "java/lang/String" "COMPACT_STRINGS" "Z") (.int 1), .isRef (.static "jdk/internal/util/Preconditions" "SIOOBE_FORMATTER" "Ljava/util/function/BiFunction;"), .not (.castable (xNm 101) (xNm 100))] : List Cond), w.before #[Value.ref b] s = true := fun w hw => hg w (of_decide_eq_true (hgs w hw))
  obtain ⟨f, hf⟩ := a_choose (α := ClassId × (Nat → Nat)) (P := fun i q => u_Kn s (RN i) (TF i) (NF i) q.1 q.2) (n := 9) (fun i hi => by
    obtain ⟨cC, iS, h⟩ := u_known (C := RN i) (T := TF i) (N := NF i) (n := NF i) hall (a_inU hi) (hall _ (a_inN hi))
    exact ⟨(cC, iS), h⟩)
  obtain ⟨c0, h0, h0'⟩ := a_arr (hall (.arrayClass .int) (a_inB _ (by simp [AWB]))) (fun _ h => nomatch h)
  obtain ⟨c1, h1, h1'⟩ := a_arr (hall (.arrayClass .byte) (a_inB _ (by simp [AWB]))) (fun _ h => nomatch h)
  obtain ⟨c2, h2, h2'⟩ := a_arr (hall (.arrayClass .long) (a_inB _ (by simp [AWB]))) (fun _ h => nomatch h)
  have hK : va_K (fun i => (f i).1, fun i => (f i).2) vwCl (a_ty fun k => match k with | 0 => c0 | 1 => c1 | _ => c2) s := by
    refine ⟨fun i q hq => ?_, fun k q hq => ?_⟩
    · have hi : i < 9 := (List.getElem?_eq_some_iff.mp hq).1
      rw [a_vw hi] at hq
      cases hq
      exact hf i hi
    · match k, hq with
      | 0, hq => cases hq; exact ⟨h0, h0'⟩
      | 1, hq => cases hq; exact ⟨h1, h1'⟩
      | 2, hq => cases hq; exact ⟨h2, h2'⟩
      | k + 3, hq => simp [a_ty] at hq
  generalize (fun k => match k with | 0 => c0 | 1 => c1 | _ => c2 : Nat → ClassId) = cA at hK
  obtain ⟨ad, had⟩ := a_choose (α := Nat × Nat) (P := fun i q => vk_R (RN (sC i)) (sP i) (sT i) q.1 s ∧ vk_S 1 [(sB i).length] [sB i] (fun _ => q.1) (fun _ => q.2) (fun q : Nat => s.heap.size ≤ q) s s.heap) (n := sN) (fun i hi => by
    have hw : ∀ w ∈ a_nW i, w.before #[Value.ref b] s = true := fun w hw => hg w (a_nW_ok hi w hw)
    have hR := hts _ (of_decide_eq_true (List.all_eq_true.mp a_sR_ok i (List.mem_range.mpr hi)))
    obtain ⟨adK, adV, hS, hE⟩ := vk_Sof (N := 1) (tm := fun _ => .string (RN (sC i)) (sP i)) (len := [(sB i).length]) (byt := [sB i]) (args := #[Value.ref b]) (s := s) (A := fun q : Nat => s.heap.size ≤ q)
      (fun k hk => by rw [show k = 0 by omega]; exact (a_sB hi).1) (fun _ _ => hw _ (by simp [a_nW])) (fun _ _ => hw _ (by simp [a_nW])) (fun _ _ => hw _ (by simp [a_nW]))
      (fun k hk => by rw [show k = 0 by omega]; exact hw _ (by simp [a_nW]))
      (fun k hk j hj => by
        rw [show k = 0 by omega] at hj ⊢
        exact hw _ (List.mem_append_right _ (List.mem_map.mpr ⟨j, List.mem_range.mpr hj, rfl⟩)))
      (fun i j hi hj hij => absurd (show i = j by omega) hij) hA
    refine ⟨(adK 0, adV 0), vk_R.of hR (hE 0 (by omega)), ?_⟩
    refine ⟨fun k hk => ?_, fun i j hi hj _ => by omega⟩
    have := hS.1 k hk
    rw [show k = 0 by omega] at this ⊢
    exact this)
  have hE : a_Env (fun i => (ad i).1) (fun i => (ad i).2) b (a_scr L xs) (fun q : Nat => s.heap.size ≤ q) s s.heap := by
    refine ⟨had, vx_Zqof (T _ (by simp)) (T _ (by simp)) (G _ (by simp)) hA, vx_Zqof (T _ (by simp)) (T _ (by simp)) (G _ (by simp)) hA, va_Zof (T _ (by simp)) (T _ (by simp)) (va_eqt (G _ (by simp))) hA, va_Zqof (T _ (by simp)) (T _ (by simp)) (G _ (by simp)) hA, va_Nc.of (G _ (by simp)), fun w hw => ?_, ?_, hbl, hA b hbl⟩
    · have h9 := hts w (g_AWN w hw)
      have ho := List.all_eq_true.mp AWN_hw w hw
      cases w with
      | methodLinkNest a i x h => exact va_Nw.of rfl h9
      | castable a b => exact va_Nw.of rfl h9
      | declares x => exact va_Nw.of rfl h9
      | _ => cases ho
    · obtain ⟨scr, g1, g2, g3, g4, g5⟩ := hX
      exact ⟨scr, g1, g2, g3, g4.trans a_scr_len.symm, fun j hj => by
        rw [a_scr_len] at hj
        show scr.slots[j]? = some (.int ((a_scr L xs).getD j 0))
        rw [a_scr_get hj]
        exact g5 j hj⟩
  have hfl : l.stackTraces = false := by
    unfold Launch.stackTraces
    rw [hflags]
    decide
  have htab' : c.exceptionTable.toList = tableOf (mH 296) := List.eq_nil_iff_forall_not_mem.mpr (fun x hx => htab x hx)
  have hXX : a_X (fun i => (ad i).1) (fun i => (ad i).2) b (a_scr L xs) (fun i => (f i).1, fun i => (f i).2) cA (fun q : Nat => s.heap.size ≤ q) p l room_1 s m #[Value.ref b] meth c 100 296 :=
    ⟨⟨hx, hb, hml, hown, hall⟩, hlocks, hfl, fun h => absurd h (by decide +kernel), htab', hK, hE, fun _ h => h, by decide, by decide, by decide⟩
  have hl := lv_entry [.ref b] (n := 8) (Nat.le_of_ble_eq_true rfl)
  rw [lg_entry_eq]
  generalize (lg_sl [.ref b] ++ List.replicate (8 - (lg_sl [.ref b]).length) Slot.unset).toArray = sl at hl ⊢
  have hI : a_I (fun i => (f i).1, fun i => (f i).2) cA (fun i => (ad i).1) b (fun q : Nat => s.heap.size ≤ q) s s.heap [] (fun x => if x = a_SC then b else (ad (x - a_SB)).1) [] := by
    refine ⟨fun k q h => by simp [a_C] at h, ⟨fun i j p q h => by simp [a_C] at h, fun k q h => by simp [a_C] at h⟩, va_S.rf, fun k c fs h => by simp at h, Nat.zero_le _, if_pos rfl, fun i hi => ?_⟩
    show (if a_SB + i = a_SC then b else (ad (a_SB + i - a_SB)).1) = (ad i).1
    rw [if_neg (by unfold a_SB a_SC; omega), Nat.add_sub_cancel_left]
  have hF : a_F (fun x => if x = a_SC then b else (ad (x - a_SB)).1) [] (mX 296) sl [(0, .ref a_SC)] [] := by
    refine ⟨?_, fun q hq => ?_, fun v hv => nomatch hv⟩
    · show lv_has sl 8 [(0, .ref (if a_SC = a_SC then b else _))]
      rw [if_pos rfl]
      exact hl
    · rw [List.mem_singleton] at hq
      subst hq
      exact a_rk_ref (Or.inr (Nat.le_refl _))
  refine (a_fs (a_scr L xs) n _ _ _ _ _ _ _ _ _ hev).2.2.2 p l e room_1 s m #[Value.ref b] below meth c s.heap [] _ _ _ _ _ _ _ _ sl 0 _ hXX hI hF a_ex_rf (Nat.le_refl _) hnc hns ⟨?_, ?_⟩
  · intro v hv θ' H' locs' sl' pc' i st' hlk hret hex hI'
    cases hv
    rcases ret_inl hret with ⟨x, rfl, rfl, hx1, -⟩ | ⟨x, -, -, hx1, -⟩ | ⟨-, -, hx1, -⟩
    · cases hx1
      exact va_forget (fun q hq => hI'.2.2.1.2.2 q hq) (W.widen hnc hns (lw_ret hx hb hr hlocks (show decode code pc' = .ok (.ireturn, 1) from a_dec (k := 296) (by decide) hlk)))
    · cases hx1
    · cases hx1
  · intro x hx1
    cases hx1
end
section
/-! ===== runs of the abstract machine, as rules ===== -/
def Wp (sc : List Int32) (d k pc : Nat) (ls : AL) (st : List Value) (w : AW) (nc ns : Nat) (Q : AR → Prop) : Prop := ∃ (n : Nat) (r : AR), ev sc n d k pc ls st w nc ns = some r ∧ Q r
theorem bk_mono {k pc j : Nat} {rest : List Value} {nc ns : Nat} {go go' : List Value → AW → Nat → Nat → Option AR} {x x' : Option AR} {r : AR} (hg : ∀ st w a b r, go st w a b = some r → go' st w a b = some r) (hx : ∀ r, x = some r → x' = some r) (h : a_bk k pc j rest nc ns go x = some r) : a_bk k pc j rest nc ns go' x' = some r := by
  cases x with
  | none => cases h
  | some y =>
    rw [hx y rfl]
    obtain ⟨o, w', a, b⟩ := y
    cases o with
    | inl v => exact hg _ _ _ _ _ h
    | inr v => exact h
theorem ev_mono {sc : List Int32} : ∀ {n d k pc : Nat} {ls : AL} {st : List Value} {w : AW} {nc ns : Nat} {r : AR}, ev sc n d k pc ls st w nc ns = some r → ev sc (n + 1) d k pc ls st w nc ns = some r
  | 0, _, _, _, _, _, _, _, _, _, h => by cases h
  | n + 1, d, k, pc, ls, st, w, nc, ns, r, h => by
    unfold ev at h ⊢
    split at h
    · cases h
    · rename_i i len hd
      try rw [hd]
      try dsimp only
      split at h
      · rename_i pc' ls' st' w' a b hi
        try rw [hi]
        exact ev_mono h
      · rename_i hi
        try rw [hi]
        try dsimp only
        split at h
        · rename_i o a b hf
          try rw [hf]
          exact h
        · rename_i hf
          try rw [hf]
          try dsimp only
          split at h
          · rename_i j ags rest hc
            try rw [hc]
            cases d with
            | zero => cases h
            | succ d' => exact bk_mono (fun _ _ _ _ _ hh => ev_mono hh) (fun _ hh => ev_mono hh) h
          · cases h
theorem ev_le {sc : List Int32} {n d k pc : Nat} {ls : AL} {st : List Value} {w : AW} {nc ns : Nat} {r : AR} (h : ev sc n d k pc ls st w nc ns = some r) : ∀ m : Nat, ev sc (n + m) d k pc ls st w nc ns = some r
  | 0 => h
  | m + 1 => ev_mono (ev_le h m)
theorem ev_to {sc : List Int32} {n n' d k pc : Nat} {ls : AL} {st : List Value} {w : AW} {nc ns : Nat} {r : AR} (h : ev sc n d k pc ls st w nc ns = some r) (hn : n ≤ n') : ev sc n' d k pc ls st w nc ns = some r := by
  obtain ⟨m, rfl⟩ := Nat.exists_eq_add_of_le hn
  exact ev_le h m
section WPR
variable {sc : List Int32} {d k pc len nc ns : Nat} {ls : AL} {st r : List Value} {w : AW} {Q : AR → Prop}
theorem q_ins {i : Instr} {pc' a b : Nat} {ls' : AL} {st' : List Value} {w' : AW} (hd : a_lk (mC k) pc = some (i, len)) (h : ins sc d k pc ls st w i = some (pc', ls', st', w', a, b)) (K : Wp sc d k pc' ls' st' w' (nc + a) (ns + b) Q) : Wp sc d k pc ls st w nc ns Q := by
  obtain ⟨n, x, h1, h2⟩ := K
  refine ⟨n + 1, x, ?_, h2⟩
  unfold ev
  rw [hd]
  dsimp only
  rw [h]
  exact h1
theorem q_fin {i : Instr} {oo : Option Value ⊕ Nat} {a b : Nat} (hd : a_lk (mC k) pc = some (i, len)) (hi : ins sc d k pc ls st w i = none) (h : fin d k pc st i = some (oo, a, b)) (K : Q (oo, w, nc + a, ns + b)) : Wp sc d k pc ls st w nc ns Q := by
  refine ⟨1, _, ?_, K⟩
  unfold ev
  rw [hd]
  dsimp only
  rw [hi]
  dsimp only
  rw [h]
theorem q_cal0 {i : Instr} {j : Nat} {ags rest : List Value} {Q0 : AR → Prop} (hd : a_lk (mC k) pc = some (i, len)) (hi : ins sc (d + 1) k pc ls st w i = none) (hf : fin (d + 1) k pc st i = none) (hc : cal k st w i = some (j, ags, rest)) (C : Wp sc d j 0 (lv_args 0 ags) [] w 0 0 Q0)
    (K : ∀ x : AR, Q0 x → ∃ (n : Nat) (y : AR), a_bk k pc j rest nc ns (fun st' w' a b => ev sc n (d + 1) k (pc + 3) ls st' w' a b) (some x) = some y ∧ Q y) : Wp sc (d + 1) k pc ls st w nc ns Q := by
  obtain ⟨n1, x, h1, h2⟩ := C
  obtain ⟨n2, y, h3, h4⟩ := K x h2
  refine ⟨n1 + n2 + 1, y, ?_, h4⟩
  unfold ev
  rw [hd]
  dsimp only
  rw [hi]
  dsimp only
  rw [hf]
  dsimp only
  rw [hc]
  dsimp only
  refine bk_mono (fun _ _ _ _ _ hh => ev_to hh (by omega)) (fun r hh => ?_) h3
  rw [← hh]
  exact ev_to h1 (by omega)
/-- a call that answers -/
theorem q_cal {i : Instr} {j : Nat} {ags rest : List Value} {Q0 : Option Value → AW → Nat → Nat → Prop} (hd : a_lk (mC k) pc = some (i, len)) (hi : ins sc (d + 1) k pc ls st w i = none) (hf : fin (d + 1) k pc st i = none) (hc : cal k st w i = some (j, ags, rest)) (C : Wp sc d j 0 (lv_args 0 ags) [] w 0 0 (fun x => ∃ v, x.1 = .inl v ∧ Q0 v x.2.1 x.2.2.1 x.2.2.2))
    (K : ∀ (v : Option Value) (w' : AW) (a b : Nat), Q0 v w' a b → Wp sc (d + 1) k (pc + 3) ls (v.toList ++ rest) w' (nc + a) (ns + b) Q) : Wp sc (d + 1) k pc ls st w nc ns Q := by
  refine q_cal0 hd hi hf hc C ?_
  rintro ⟨o, w', a, b⟩ ⟨v, rfl, hq⟩
  obtain ⟨n, y, h1, h2⟩ := K v w' a b hq
  exact ⟨n, y, h1, h2⟩
/-- a call that throws, and is caught -/
theorem q_thr {i : Instr} {j x : Nat} {z : Int32} {ags rest : List Value} {Q0 : AW → Nat → Nat → Prop} (hd : a_lk (mC k) pc = some (i, len)) (hi : ins sc (d + 1) k pc ls st w i = none) (hf : fin (d + 1) k pc st i = none) (hc : cal k st w i = some (j, ags, rest)) (hj : mD j = 0) (hh : ∃ y ys, mH k = y :: ys) (hz : a_hnd k pc x = some z)
    (C : Wp sc d j 0 (lv_args 0 ags) [] w 0 0 (fun y => y.1 = .inr x ∧ Q0 y.2.1 y.2.2.1 y.2.2.2)) (K : ∀ (w' : AW) (a b : Nat), Q0 w' a b → Q (.inl (some (.int z)), w', nc + a, ns + b)) : Wp sc (d + 1) k pc ls st w nc ns Q := by
  refine q_cal0 hd hi hf hc C ?_
  rintro ⟨o, w', a, b⟩ ⟨h9, hq⟩
  obtain ⟨y, ys, hy⟩ := hh
  refine ⟨0, _, ?_, K w' a b hq⟩
  cases h9
  show (if mD j = 0 then _ else none) = _
  rw [if_pos hj, hy]
  dsimp only
  rw [hz]
/-- a call that throws, and goes on to the caller -/
theorem q_out {i : Instr} {j x : Nat} {ags rest : List Value} {Q0 : AW → Nat → Nat → Prop} (hd : a_lk (mC k) pc = some (i, len)) (hi : ins sc (d + 1) k pc ls st w i = none) (hf : fin (d + 1) k pc st i = none) (hc : cal k st w i = some (j, ags, rest)) (hj : mD j = 0) (hh : mH k = [])
    (C : Wp sc d j 0 (lv_args 0 ags) [] w 0 0 (fun y => y.1 = .inr x ∧ Q0 y.2.1 y.2.2.1 y.2.2.2)) (K : ∀ (w' : AW) (a b : Nat), Q0 w' a b → Q (.inr x, w', nc + a, ns + b)) : Wp sc (d + 1) k pc ls st w nc ns Q := by
  refine q_cal0 hd hi hf hc C ?_
  rintro ⟨o, w', a, b⟩ ⟨h9, hq⟩
  refine ⟨0, _, ?_, K w' a b hq⟩
  cases h9
  show (if mD j = 0 then _ else none) = _
  rw [if_pos hj, hh]
theorem Wp.post {Q' : AR → Prop} (h : Wp sc d k pc ls st w nc ns Q) (hQ : ∀ r, Q r → Q' r) : Wp sc d k pc ls st w nc ns Q' := by
  obtain ⟨n, r, h1, h2⟩ := h
  exact ⟨n, r, h1, hQ r h2⟩
theorem q_iconst {n : Int} (hd : a_lk (mC k) pc = some (.iconst n, len)) (K : Wp sc d k (pc + 1) ls (.int (Int32.ofInt n) :: st) w nc ns Q) : Wp sc d k pc ls st w nc ns Q := q_ins hd rfl K
theorem q_bipush {n : Int} (hd : a_lk (mC k) pc = some (.bipush n, len)) (K : Wp sc d k (pc + 2) ls (.int (Int8.ofInt n).toInt32 :: st) w nc ns Q) : Wp sc d k pc ls st w nc ns Q := q_ins hd rfl K
theorem q_sipush {n : Int} (hd : a_lk (mC k) pc = some (.sipush n, len)) (K : Wp sc d k (pc + 3) ls (.int (Int16.ofInt n).toInt32 :: st) w nc ns Q) : Wp sc d k pc ls st w nc ns Q := q_ins hd rfl K
theorem q_lconst {n : Fin 2} (hd : a_lk (mC k) pc = some (.lconst n, len)) (K : Wp sc d k (pc + 1) ls (.long (Int64.ofNat (n : Nat)) :: st) w nc ns Q) : Wp sc d k pc ls st w nc ns Q := q_ins hd rfl K
theorem q_iload {i : Nat} {x : Int32} (hd : a_lk (mC k) pc = some (.iload i, len)) (hv : a_lk ls i = some (.int x)) (K : Wp sc d k (pc + 2) ls (.int x :: st) w nc ns Q) : Wp sc d k pc ls st w nc ns Q := q_ins hd (show a_ldI (a_lk ls i) (pc + 2) ls st w = some (pc + 2, ls, .int x :: st, w, 0, 0) by rw [hv]; rfl) K
theorem q_iload_n {i : Fin 4} {x : Int32} (hd : a_lk (mC k) pc = some (.iload_n i, len)) (hv : a_lk ls (i : Nat) = some (.int x)) (K : Wp sc d k (pc + 1) ls (.int x :: st) w nc ns Q) : Wp sc d k pc ls st w nc ns Q := q_ins hd (show a_ldI (a_lk ls (i : Nat)) (pc + 1) ls st w = some (pc + 1, ls, .int x :: st, w, 0, 0) by rw [hv]; rfl) K
theorem q_istore {i : Nat} {x : Int32} (hd : a_lk (mC k) pc = some (.istore i, len)) (hi : i < mX k) (K : Wp sc d k (pc + 2) (a_s1 ls i (.int x)) (r) w nc ns Q) : Wp sc d k pc ls (.int x :: r) w nc ns Q := q_ins hd (show a_stI (mX k) i (pc + 2) ls (.int x :: r) w = some (pc + 2, a_s1 ls i (.int x), r, w, 0, 0) from if_pos hi) K
theorem q_istore_n {i : Fin 4} {x : Int32} (hd : a_lk (mC k) pc = some (.istore_n i, len)) (hi : (i : Nat) < mX k) (K : Wp sc d k (pc + 1) (a_s1 ls (i : Nat) (.int x)) (r) w nc ns Q) : Wp sc d k pc ls (.int x :: r) w nc ns Q := q_ins hd (show a_stI (mX k) (i : Nat) (pc + 1) ls (.int x :: r) w = some (pc + 1, a_s1 ls (i : Nat) (.int x), r, w, 0, 0) from if_pos hi) K
theorem q_lload {i : Nat} {x : Int64} (hd : a_lk (mC k) pc = some (.lload i, len)) (hv : a_lk ls i = some (.long x)) (K : Wp sc d k (pc + 2) ls (.long x :: st) w nc ns Q) : Wp sc d k pc ls st w nc ns Q := q_ins hd (show a_ldL (a_lk ls i) (pc + 2) ls st w = some (pc + 2, ls, .long x :: st, w, 0, 0) by rw [hv]; rfl) K
theorem q_lload_n {i : Fin 4} {x : Int64} (hd : a_lk (mC k) pc = some (.lload_n i, len)) (hv : a_lk ls (i : Nat) = some (.long x)) (K : Wp sc d k (pc + 1) ls (.long x :: st) w nc ns Q) : Wp sc d k pc ls st w nc ns Q := q_ins hd (show a_ldL (a_lk ls (i : Nat)) (pc + 1) ls st w = some (pc + 1, ls, .long x :: st, w, 0, 0) by rw [hv]; rfl) K
theorem q_lstore {i : Nat} {x : Int64} (hd : a_lk (mC k) pc = some (.lstore i, len)) (hi : i + 1 < mX k) (K : Wp sc d k (pc + 2) (a_s2 ls i (.long x)) (r) w nc ns Q) : Wp sc d k pc ls (.long x :: r) w nc ns Q := q_ins hd (show a_stL (mX k) i (pc + 2) ls (.long x :: r) w = some (pc + 2, a_s2 ls i (.long x), r, w, 0, 0) from if_pos hi) K
theorem q_lstore_n {i : Fin 4} {x : Int64} (hd : a_lk (mC k) pc = some (.lstore_n i, len)) (hi : (i : Nat) + 1 < mX k) (K : Wp sc d k (pc + 1) (a_s2 ls (i : Nat) (.long x)) (r) w nc ns Q) : Wp sc d k pc ls (.long x :: r) w nc ns Q := q_ins hd (show a_stL (mX k) (i : Nat) (pc + 1) ls (.long x :: r) w = some (pc + 1, a_s2 ls (i : Nat) (.long x), r, w, 0, 0) from if_pos hi) K
theorem q_aload {i : Nat} {x : Nat} (hd : a_lk (mC k) pc = some (.aload i, len)) (hv : a_lk ls i = some (.ref x)) (K : Wp sc d k (pc + 2) ls (.ref x :: st) w nc ns Q) : Wp sc d k pc ls st w nc ns Q := q_ins hd (show a_ldA (a_lk ls i) (pc + 2) ls st w = some (pc + 2, ls, .ref x :: st, w, 0, 0) by rw [hv]; rfl) K
theorem q_aload_n {i : Fin 4} {x : Nat} (hd : a_lk (mC k) pc = some (.aload_n i, len)) (hv : a_lk ls (i : Nat) = some (.ref x)) (K : Wp sc d k (pc + 1) ls (.ref x :: st) w nc ns Q) : Wp sc d k pc ls st w nc ns Q := q_ins hd (show a_ldA (a_lk ls (i : Nat)) (pc + 1) ls st w = some (pc + 1, ls, .ref x :: st, w, 0, 0) by rw [hv]; rfl) K
theorem q_astore {i : Nat} {x : Nat} (hd : a_lk (mC k) pc = some (.astore i, len)) (hi : i < mX k) (K : Wp sc d k (pc + 2) (a_s1 ls i (.ref x)) (r) w nc ns Q) : Wp sc d k pc ls (.ref x :: r) w nc ns Q := q_ins hd (show a_stA (mX k) i (pc + 2) ls (.ref x :: r) w = some (pc + 2, a_s1 ls i (.ref x), r, w, 0, 0) from if_pos hi) K
theorem q_astore_n {i : Fin 4} {x : Nat} (hd : a_lk (mC k) pc = some (.astore_n i, len)) (hi : (i : Nat) < mX k) (K : Wp sc d k (pc + 1) (a_s1 ls (i : Nat) (.ref x)) (r) w nc ns Q) : Wp sc d k pc ls (.ref x :: r) w nc ns Q := q_ins hd (show a_stA (mX k) (i : Nat) (pc + 1) ls (.ref x :: r) w = some (pc + 1, a_s1 ls (i : Nat) (.ref x), r, w, 0, 0) from if_pos hi) K
theorem q_iinc {i : Nat} {c : Int} {x : Int32} (hd : a_lk (mC k) pc = some (.iinc i c, len)) (hv : a_lk ls i = some (.int x)) (hi : i < mX k) (K : Wp sc d k (pc + 3) (a_s1 ls i (.int (x + Int32.ofInt c))) (st) w nc ns Q) : Wp sc d k pc ls st w nc ns Q := q_ins hd (show a_inc (mX k) i c pc ls st w = some (pc + 3, a_s1 ls i (.int (x + Int32.ofInt c)), st, w, 0, 0) by unfold a_inc; rw [hv]; exact if_pos hi) K
theorem q_iadd {x y : Int32} (hd : a_lk (mC k) pc = some (.iadd, len)) (K : Wp sc d k (pc + 1) ls (.int (x + y) :: r) w nc ns Q) : Wp sc d k pc ls (.int y :: .int x :: r) w nc ns Q := q_ins hd rfl K
theorem q_isub {x y : Int32} (hd : a_lk (mC k) pc = some (.isub, len)) (K : Wp sc d k (pc + 1) ls (.int (x - y) :: r) w nc ns Q) : Wp sc d k pc ls (.int y :: .int x :: r) w nc ns Q := q_ins hd rfl K
theorem q_imul {x y : Int32} (hd : a_lk (mC k) pc = some (.imul, len)) (K : Wp sc d k (pc + 1) ls (.int (x * y) :: r) w nc ns Q) : Wp sc d k pc ls (.int y :: .int x :: r) w nc ns Q := q_ins hd rfl K
theorem q_iand {x y : Int32} (hd : a_lk (mC k) pc = some (.iand, len)) (K : Wp sc d k (pc + 1) ls (.int (x &&& y) :: r) w nc ns Q) : Wp sc d k pc ls (.int y :: .int x :: r) w nc ns Q := q_ins hd rfl K
theorem q_ior {x y : Int32} (hd : a_lk (mC k) pc = some (.ior, len)) (K : Wp sc d k (pc + 1) ls (.int (x ||| y) :: r) w nc ns Q) : Wp sc d k pc ls (.int y :: .int x :: r) w nc ns Q := q_ins hd rfl K
theorem q_ixor {x y : Int32} (hd : a_lk (mC k) pc = some (.ixor, len)) (K : Wp sc d k (pc + 1) ls (.int (x ^^^ y) :: r) w nc ns Q) : Wp sc d k pc ls (.int y :: .int x :: r) w nc ns Q := q_ins hd rfl K
theorem q_ishl {x y : Int32} (hd : a_lk (mC k) pc = some (.ishl, len)) (K : Wp sc d k (pc + 1) ls (.int (x <<< (y &&& 31)) :: r) w nc ns Q) : Wp sc d k pc ls (.int y :: .int x :: r) w nc ns Q := q_ins hd rfl K
theorem q_ishr {x y : Int32} (hd : a_lk (mC k) pc = some (.ishr, len)) (K : Wp sc d k (pc + 1) ls (.int (x >>> (y &&& 31)) :: r) w nc ns Q) : Wp sc d k pc ls (.int y :: .int x :: r) w nc ns Q := q_ins hd rfl K
theorem q_iushr {x y : Int32} (hd : a_lk (mC k) pc = some (.iushr, len)) (K : Wp sc d k (pc + 1) ls (.int ((x.toUInt32 >>> (y.toUInt32 &&& Int32.toUInt32 31)).toInt32) :: r) w nc ns Q) : Wp sc d k pc ls (.int y :: .int x :: r) w nc ns Q := q_ins hd rfl K
theorem q_idiv {x y : Int32} (hd : a_lk (mC k) pc = some (.idiv, len)) (hy : ¬ y = 0) (K : Wp sc d k (pc + 1) ls (.int (x / y) :: r) w nc ns Q) : Wp sc d k pc ls (.int y :: .int x :: r) w nc ns Q := q_ins hd (show a_i2z (fun x y => x / y) pc ls (.int y :: .int x :: r) w = some (pc + 1, ls, .int (x / y) :: r, w, 0, 0) from if_neg hy) K
theorem q_irem {x y : Int32} (hd : a_lk (mC k) pc = some (.irem, len)) (hy : ¬ y = 0) (K : Wp sc d k (pc + 1) ls (.int (x - x / y * y) :: r) w nc ns Q) : Wp sc d k pc ls (.int y :: .int x :: r) w nc ns Q := q_ins hd (show a_i2z (fun x y => x - x / y * y) pc ls (.int y :: .int x :: r) w = some (pc + 1, ls, .int (x - x / y * y) :: r, w, 0, 0) from if_neg hy) K
theorem q_ineg {x : Int32} (hd : a_lk (mC k) pc = some (.ineg, len)) (K : Wp sc d k (pc + 1) ls (.int (-x) :: r) w nc ns Q) : Wp sc d k pc ls (.int x :: r) w nc ns Q := q_ins hd rfl K
theorem q_i2b {x : Int32} (hd : a_lk (mC k) pc = some (.i2b, len)) (K : Wp sc d k (pc + 1) ls (.int x.toInt8.toInt32 :: r) w nc ns Q) : Wp sc d k pc ls (.int x :: r) w nc ns Q := q_ins hd rfl K
theorem q_i2l {x : Int32} (hd : a_lk (mC k) pc = some (.i2l, len)) (K : Wp sc d k (pc + 1) ls (.long x.toInt64 :: r) w nc ns Q) : Wp sc d k pc ls (.int x :: r) w nc ns Q := q_ins hd rfl K
theorem q_ladd {x y : Int64} (hd : a_lk (mC k) pc = some (.ladd, len)) (K : Wp sc d k (pc + 1) ls (.long (x + y) :: r) w nc ns Q) : Wp sc d k pc ls (.long y :: .long x :: r) w nc ns Q := q_ins hd rfl K
theorem q_lmul {x y : Int64} (hd : a_lk (mC k) pc = some (.lmul, len)) (K : Wp sc d k (pc + 1) ls (.long (x * y) :: r) w nc ns Q) : Wp sc d k pc ls (.long y :: .long x :: r) w nc ns Q := q_ins hd rfl K
theorem q_ldiv {x y : Int64} (hd : a_lk (mC k) pc = some (.ldiv, len)) (hy : ¬ y = 0) (K : Wp sc d k (pc + 1) ls (.long (x / y) :: r) w nc ns Q) : Wp sc d k pc ls (.long y :: .long x :: r) w nc ns Q := q_ins hd (show a_l2z (fun x y => x / y) pc ls (.long y :: .long x :: r) w = some (pc + 1, ls, .long (x / y) :: r, w, 0, 0) from if_neg hy) K
theorem q_lrem {x y : Int64} (hd : a_lk (mC k) pc = some (.lrem, len)) (hy : ¬ y = 0) (K : Wp sc d k (pc + 1) ls (.long (x - x / y * y) :: r) w nc ns Q) : Wp sc d k pc ls (.long y :: .long x :: r) w nc ns Q := q_ins hd (show a_l2z (fun x y => x - x / y * y) pc ls (.long y :: .long x :: r) w = some (pc + 1, ls, .long (x - x / y * y) :: r, w, 0, 0) from if_neg hy) K
theorem q_lcmp {x y : Int64} (hd : a_lk (mC k) pc = some (.lcmp, len)) (K : Wp sc d k (pc + 1) ls (.int (lg_cmp x y) :: r) w nc ns Q) : Wp sc d k pc ls (.long y :: .long x :: r) w nc ns Q := q_ins hd rfl K
theorem q_ldc_i {x : Nat} {v : Int32} (hd : a_lk (mC k) pc = some (.ldc x, len)) (hv : a_lk (kI (mK k)) x = some v) (K : Wp sc d k (pc + 2) ls (.int v :: st) w nc ns Q) : Wp sc d k pc ls st w nc ns Q := q_ins hd (show a_ldc (mK k) x (pc + 2) ls st w = some (pc + 2, ls, .int v :: st, w, 0, 0) by unfold a_ldc; rw [hv]; rfl) K
theorem q_ldc_s {x i : Nat} (hd : a_lk (mC k) pc = some (.ldc x, len)) (hv : a_lk (kI (mK k)) x = none) (hs : a_lk (kS (mK k)) x = some i) (hi : i < sN) (K : Wp sc d k (pc + 2) ls (.ref (a_SB + i) :: st) w nc ns Q) : Wp sc d k pc ls st w nc ns Q := q_ins hd (show a_ldc (mK k) x (pc + 2) ls st w = some (pc + 2, ls, .ref (a_SB + i) :: st, w, 0, 0) by unfold a_ldc; rw [hv, hs]; exact if_pos hi) K
theorem q_ldc_w_i {x : Nat} {v : Int32} (hd : a_lk (mC k) pc = some (.ldc_w x, len)) (hv : a_lk (kI (mK k)) x = some v) (K : Wp sc d k (pc + 3) ls (.int v :: st) w nc ns Q) : Wp sc d k pc ls st w nc ns Q := q_ins hd (show a_ldc (mK k) x (pc + 3) ls st w = some (pc + 3, ls, .int v :: st, w, 0, 0) by unfold a_ldc; rw [hv]; rfl) K
theorem q_ldc_w_s {x i : Nat} (hd : a_lk (mC k) pc = some (.ldc_w x, len)) (hv : a_lk (kI (mK k)) x = none) (hs : a_lk (kS (mK k)) x = some i) (hi : i < sN) (K : Wp sc d k (pc + 3) ls (.ref (a_SB + i) :: st) w nc ns Q) : Wp sc d k pc ls st w nc ns Q := q_ins hd (show a_ldc (mK k) x (pc + 3) ls st w = some (pc + 3, ls, .ref (a_SB + i) :: st, w, 0, 0) by unfold a_ldc; rw [hv, hs]; exact if_pos hi) K
theorem q_ldc2 {x : Nat} {v : Int64} (hd : a_lk (mC k) pc = some (.ldc2_w x, len)) (hv : a_lk (kL (mK k)) x = some v) (K : Wp sc d k (pc + 3) ls (.long v :: st) w nc ns Q) : Wp sc d k pc ls st w nc ns Q := q_ins hd (show a_ldc2 (mK k) x (pc + 3) ls st w = some (pc + 3, ls, .long v :: st, w, 0, 0) by unfold a_ldc2; rw [hv]; rfl) K
theorem q_dup {v : Value} (hd : a_lk (mC k) pc = some (.dup, len)) (hv : v.category = 1) (K : Wp sc d k (pc + 1) ls (v :: v :: r) w nc ns Q) : Wp sc d k pc ls (v :: r) w nc ns Q := q_ins hd (show a_dup pc ls (v :: r) w = some (pc + 1, ls, v :: v :: r, w, 0, 0) from if_pos hv) K
theorem q_pop {v : Value} (hd : a_lk (mC k) pc = some (.pop, len)) (hv : v.category = 1) (K : Wp sc d k (pc + 1) ls (r) w nc ns Q) : Wp sc d k pc ls (v :: r) w nc ns Q := q_ins hd (show a_pop pc ls (v :: r) w = some (pc + 1, ls, r, w, 0, 0) from if_pos hv) K
theorem q_dup2 {u v : Value} (hd : a_lk (mC k) pc = some (.dup2, len)) (hv : u.category = 1 ∧ v.category = 1) (K : Wp sc d k (pc + 1) ls (u :: v :: u :: v :: r) w nc ns Q) : Wp sc d k pc ls (u :: v :: r) w nc ns Q := q_ins hd (show a_dup2 pc ls (u :: v :: r) w = some (pc + 1, ls, u :: v :: u :: v :: r, w, 0, 0) from if_pos hv) K
theorem to_of {t pc : Nat} {off : Int} (h : (pc : Int) + off = (t : Int)) : a_to pc off ls st w = some (t, ls, st, w, 0, 0) := by
  unfold a_to
  rw [h, if_pos (Int.natCast_nonneg t), Int.toNat_natCast]
  rfl
theorem jmp_t {t pc : Nat} {off : Int} {c : Prop} [Decidable c] (h : (pc : Int) + off = (t : Int)) (hc : c) : a_jmp c pc off ls st w = some (t, ls, st, w, 0, 0) := by
  unfold a_jmp
  rw [h, if_pos (Int.natCast_nonneg t), if_pos hc, Int.toNat_natCast]
  rfl
theorem jmp_f {t pc : Nat} {off : Int} {c : Prop} [Decidable c] (h : (pc : Int) + off = (t : Int)) (hc : ¬ c) : a_jmp c pc off ls st w = some (pc + 3, ls, st, w, 0, 0) := by
  unfold a_jmp
  rw [h, if_pos (Int.natCast_nonneg t), if_neg hc]
  rfl
theorem q_goto {off : Int} {t : Nat} (hd : a_lk (mC k) pc = some (.goto off, len)) (ht : (pc : Int) + off = (t : Int)) (K : Wp sc d k (t) ls (st) w nc ns Q) : Wp sc d k pc ls st w nc ns Q := q_ins hd (to_of ht) K
theorem q_if_eq_t {off : Int} {t : Nat} {x : Int32} (hd : a_lk (mC k) pc = some (.ifCond .eq off, len)) (ht : (pc : Int) + off = (t : Int)) (hc : x = 0) (K : Wp sc d k (t) ls (r) w nc ns Q) : Wp sc d k pc ls (.int x :: r) w nc ns Q := q_ins hd (jmp_t (c := x = 0) ht hc) K
theorem q_if_eq_f {off : Int} {t : Nat} {x : Int32} (hd : a_lk (mC k) pc = some (.ifCond .eq off, len)) (ht : (pc : Int) + off = (t : Int)) (hc : ¬ (x = 0)) (K : Wp sc d k (pc + 3) ls (r) w nc ns Q) : Wp sc d k pc ls (.int x :: r) w nc ns Q := q_ins hd (jmp_f (c := x = 0) ht hc) K
theorem q_if_ne_t {off : Int} {t : Nat} {x : Int32} (hd : a_lk (mC k) pc = some (.ifCond .ne off, len)) (ht : (pc : Int) + off = (t : Int)) (hc : ¬ x = 0) (K : Wp sc d k (t) ls (r) w nc ns Q) : Wp sc d k pc ls (.int x :: r) w nc ns Q := q_ins hd (jmp_t (c := ¬ x = 0) ht hc) K
theorem q_if_ne_f {off : Int} {t : Nat} {x : Int32} (hd : a_lk (mC k) pc = some (.ifCond .ne off, len)) (ht : (pc : Int) + off = (t : Int)) (hc : ¬ (¬ x = 0)) (K : Wp sc d k (pc + 3) ls (r) w nc ns Q) : Wp sc d k pc ls (.int x :: r) w nc ns Q := q_ins hd (jmp_f (c := ¬ x = 0) ht hc) K
theorem q_if_lt_t {off : Int} {t : Nat} {x : Int32} (hd : a_lk (mC k) pc = some (.ifCond .lt off, len)) (ht : (pc : Int) + off = (t : Int)) (hc : x < 0) (K : Wp sc d k (t) ls (r) w nc ns Q) : Wp sc d k pc ls (.int x :: r) w nc ns Q := q_ins hd (jmp_t (c := x < 0) ht hc) K
theorem q_if_lt_f {off : Int} {t : Nat} {x : Int32} (hd : a_lk (mC k) pc = some (.ifCond .lt off, len)) (ht : (pc : Int) + off = (t : Int)) (hc : ¬ (x < 0)) (K : Wp sc d k (pc + 3) ls (r) w nc ns Q) : Wp sc d k pc ls (.int x :: r) w nc ns Q := q_ins hd (jmp_f (c := x < 0) ht hc) K
theorem q_if_ge_t {off : Int} {t : Nat} {x : Int32} (hd : a_lk (mC k) pc = some (.ifCond .ge off, len)) (ht : (pc : Int) + off = (t : Int)) (hc : 0 ≤ x) (K : Wp sc d k (t) ls (r) w nc ns Q) : Wp sc d k pc ls (.int x :: r) w nc ns Q := q_ins hd (jmp_t (c := 0 ≤ x) ht hc) K
theorem q_if_ge_f {off : Int} {t : Nat} {x : Int32} (hd : a_lk (mC k) pc = some (.ifCond .ge off, len)) (ht : (pc : Int) + off = (t : Int)) (hc : ¬ (0 ≤ x)) (K : Wp sc d k (pc + 3) ls (r) w nc ns Q) : Wp sc d k pc ls (.int x :: r) w nc ns Q := q_ins hd (jmp_f (c := 0 ≤ x) ht hc) K
theorem q_if_gt_t {off : Int} {t : Nat} {x : Int32} (hd : a_lk (mC k) pc = some (.ifCond .gt off, len)) (ht : (pc : Int) + off = (t : Int)) (hc : 0 < x) (K : Wp sc d k (t) ls (r) w nc ns Q) : Wp sc d k pc ls (.int x :: r) w nc ns Q := q_ins hd (jmp_t (c := 0 < x) ht hc) K
theorem q_if_gt_f {off : Int} {t : Nat} {x : Int32} (hd : a_lk (mC k) pc = some (.ifCond .gt off, len)) (ht : (pc : Int) + off = (t : Int)) (hc : ¬ (0 < x)) (K : Wp sc d k (pc + 3) ls (r) w nc ns Q) : Wp sc d k pc ls (.int x :: r) w nc ns Q := q_ins hd (jmp_f (c := 0 < x) ht hc) K
theorem q_if_le_t {off : Int} {t : Nat} {x : Int32} (hd : a_lk (mC k) pc = some (.ifCond .le off, len)) (ht : (pc : Int) + off = (t : Int)) (hc : x ≤ 0) (K : Wp sc d k (t) ls (r) w nc ns Q) : Wp sc d k pc ls (.int x :: r) w nc ns Q := q_ins hd (jmp_t (c := x ≤ 0) ht hc) K
theorem q_if_le_f {off : Int} {t : Nat} {x : Int32} (hd : a_lk (mC k) pc = some (.ifCond .le off, len)) (ht : (pc : Int) + off = (t : Int)) (hc : ¬ (x ≤ 0)) (K : Wp sc d k (pc + 3) ls (r) w nc ns Q) : Wp sc d k pc ls (.int x :: r) w nc ns Q := q_ins hd (jmp_f (c := x ≤ 0) ht hc) K
theorem q_ic_eq_t {off : Int} {t : Nat} {x y : Int32} (hd : a_lk (mC k) pc = some (.if_icmp .eq off, len)) (ht : (pc : Int) + off = (t : Int)) (hc : x = y) (K : Wp sc d k (t) ls (r) w nc ns Q) : Wp sc d k pc ls (.int y :: .int x :: r) w nc ns Q := q_ins hd (jmp_t (c := x = y) ht hc) K
theorem q_ic_eq_f {off : Int} {t : Nat} {x y : Int32} (hd : a_lk (mC k) pc = some (.if_icmp .eq off, len)) (ht : (pc : Int) + off = (t : Int)) (hc : ¬ (x = y)) (K : Wp sc d k (pc + 3) ls (r) w nc ns Q) : Wp sc d k pc ls (.int y :: .int x :: r) w nc ns Q := q_ins hd (jmp_f (c := x = y) ht hc) K
theorem q_ic_ne_t {off : Int} {t : Nat} {x y : Int32} (hd : a_lk (mC k) pc = some (.if_icmp .ne off, len)) (ht : (pc : Int) + off = (t : Int)) (hc : ¬ x = y) (K : Wp sc d k (t) ls (r) w nc ns Q) : Wp sc d k pc ls (.int y :: .int x :: r) w nc ns Q := q_ins hd (jmp_t (c := ¬ x = y) ht hc) K
theorem q_ic_ne_f {off : Int} {t : Nat} {x y : Int32} (hd : a_lk (mC k) pc = some (.if_icmp .ne off, len)) (ht : (pc : Int) + off = (t : Int)) (hc : ¬ (¬ x = y)) (K : Wp sc d k (pc + 3) ls (r) w nc ns Q) : Wp sc d k pc ls (.int y :: .int x :: r) w nc ns Q := q_ins hd (jmp_f (c := ¬ x = y) ht hc) K
theorem q_ic_lt_t {off : Int} {t : Nat} {x y : Int32} (hd : a_lk (mC k) pc = some (.if_icmp .lt off, len)) (ht : (pc : Int) + off = (t : Int)) (hc : x < y) (K : Wp sc d k (t) ls (r) w nc ns Q) : Wp sc d k pc ls (.int y :: .int x :: r) w nc ns Q := q_ins hd (jmp_t (c := x < y) ht hc) K
theorem q_ic_lt_f {off : Int} {t : Nat} {x y : Int32} (hd : a_lk (mC k) pc = some (.if_icmp .lt off, len)) (ht : (pc : Int) + off = (t : Int)) (hc : ¬ (x < y)) (K : Wp sc d k (pc + 3) ls (r) w nc ns Q) : Wp sc d k pc ls (.int y :: .int x :: r) w nc ns Q := q_ins hd (jmp_f (c := x < y) ht hc) K
theorem q_ic_ge_t {off : Int} {t : Nat} {x y : Int32} (hd : a_lk (mC k) pc = some (.if_icmp .ge off, len)) (ht : (pc : Int) + off = (t : Int)) (hc : y ≤ x) (K : Wp sc d k (t) ls (r) w nc ns Q) : Wp sc d k pc ls (.int y :: .int x :: r) w nc ns Q := q_ins hd (jmp_t (c := y ≤ x) ht hc) K
theorem q_ic_ge_f {off : Int} {t : Nat} {x y : Int32} (hd : a_lk (mC k) pc = some (.if_icmp .ge off, len)) (ht : (pc : Int) + off = (t : Int)) (hc : ¬ (y ≤ x)) (K : Wp sc d k (pc + 3) ls (r) w nc ns Q) : Wp sc d k pc ls (.int y :: .int x :: r) w nc ns Q := q_ins hd (jmp_f (c := y ≤ x) ht hc) K
theorem q_ic_gt_t {off : Int} {t : Nat} {x y : Int32} (hd : a_lk (mC k) pc = some (.if_icmp .gt off, len)) (ht : (pc : Int) + off = (t : Int)) (hc : y < x) (K : Wp sc d k (t) ls (r) w nc ns Q) : Wp sc d k pc ls (.int y :: .int x :: r) w nc ns Q := q_ins hd (jmp_t (c := y < x) ht hc) K
theorem q_ic_gt_f {off : Int} {t : Nat} {x y : Int32} (hd : a_lk (mC k) pc = some (.if_icmp .gt off, len)) (ht : (pc : Int) + off = (t : Int)) (hc : ¬ (y < x)) (K : Wp sc d k (pc + 3) ls (r) w nc ns Q) : Wp sc d k pc ls (.int y :: .int x :: r) w nc ns Q := q_ins hd (jmp_f (c := y < x) ht hc) K
theorem q_ic_le_t {off : Int} {t : Nat} {x y : Int32} (hd : a_lk (mC k) pc = some (.if_icmp .le off, len)) (ht : (pc : Int) + off = (t : Int)) (hc : x ≤ y) (K : Wp sc d k (t) ls (r) w nc ns Q) : Wp sc d k pc ls (.int y :: .int x :: r) w nc ns Q := q_ins hd (jmp_t (c := x ≤ y) ht hc) K
theorem q_ic_le_f {off : Int} {t : Nat} {x y : Int32} (hd : a_lk (mC k) pc = some (.if_icmp .le off, len)) (ht : (pc : Int) + off = (t : Int)) (hc : ¬ (x ≤ y)) (K : Wp sc d k (pc + 3) ls (r) w nc ns Q) : Wp sc d k pc ls (.int y :: .int x :: r) w nc ns Q := q_ins hd (jmp_f (c := x ≤ y) ht hc) K
theorem q_tsw_o {dflt lo hi : Int} {offs : Array Int} {t : Nat} {x : Int32} (hd : a_lk (mC k) pc = some (.tableswitch dflt lo hi offs, len)) (hx : x.toInt < lo ∨ hi < x.toInt) (ht : (pc : Int) + dflt = (t : Int)) (K : Wp sc d k (t) ls (r) w nc ns Q) : Wp sc d k pc ls (.int x :: r) w nc ns Q := q_ins hd (show a_tsw dflt lo hi offs pc ls (.int x :: r) w = some (t, ls, r, w, 0, 0) by unfold a_tsw; dsimp only; rw [if_pos hx]; exact to_of ht) K
theorem q_tsw_i {dflt lo hi off : Int} {offs : Array Int} {t : Nat} {x : Int32} (hd : a_lk (mC k) pc = some (.tableswitch dflt lo hi offs, len)) (hx : ¬ (x.toInt < lo ∨ hi < x.toInt)) (ho : offs[(x.toInt - lo).toNat]? = some off) (ht : (pc : Int) + off = (t : Int)) (K : Wp sc d k (t) ls (r) w nc ns Q) : Wp sc d k pc ls (.int x :: r) w nc ns Q := q_ins hd (show a_tsw dflt lo hi offs pc ls (.int x :: r) w = some (t, ls, r, w, 0, 0) by unfold a_tsw; dsimp only; rw [if_neg hx, ho]; exact to_of ht) K
theorem q_lsw {dflt off : Int} {ps : Array (Int × Int)} {t : Nat} {x : Int32} (hd : a_lk (mC k) pc = some (.lookupswitch dflt ps, len)) (hp : (ps.toList.zip (ps.toList.drop 1)).all (fun (a, next) => a.1 < next.1) = true) (ho : Op.lookupswitch.offset ps.toList dflt x.toInt = off) (ht : (pc : Int) + off = (t : Int)) (K : Wp sc d k (t) ls (r) w nc ns Q) : Wp sc d k pc ls (.int x :: r) w nc ns Q := q_ins hd (show a_lsw dflt ps pc ls (.int x :: r) w = some (t, ls, r, w, 0, 0) by unfold a_lsw; dsimp only; rw [if_pos hp, ho]; exact to_of ht) K
theorem q_get {x a ci f : Nat} {fs : List Value} {v : Value} (hd : a_lk (mC k) pc = some (.getfield x, len)) (hk : a_lk (kF (mK k)) x = some (ci, f)) (hw : w[a]? = some (.inr (ci, fs))) (hv : fs[f]? = some v) (K : Wp sc d k (pc + 3) ls (v :: r) w nc ns Q) : Wp sc d k pc ls (.ref a :: r) w nc ns Q := q_ins hd (show a_get (mK k) x pc ls (.ref a :: r) w = some (pc + 3, ls, v :: r, w, 0, 0) by unfold a_get; dsimp only; rw [hk]; dsimp only; rw [hw]; dsimp only; rw [if_pos rfl, hv]; rfl) K
theorem q_put {x a ci f : Nat} {fs : List Value} {v : Value} (hd : a_lk (mC k) pc = some (.putfield x, len)) (hk : a_lk (kF (mK k)) x = some (ci, f)) (hw : w[a]? = some (.inr (ci, fs))) (hc : f < fs.length ∧ (a_fit (YF ci f) v = true ∧ ((TF ci f).2.2.2 = false ∨ (mD k = 2 ∧ mK k = ci)))) (K : Wp sc d k (pc + 3) ls (r) (w.set a (.inr (ci, fs.set f v))) nc ns Q) : Wp sc d k pc ls (v :: .ref a :: r) w nc ns Q := q_ins hd (show a_put k x pc ls (v :: .ref a :: r) w = some (pc + 3, ls, r, w.set a (.inr (ci, fs.set f v)), 0, 0) by unfold a_put; dsimp only; rw [hk]; dsimp only; rw [hw]; dsimp only; rw [if_pos ⟨⟨rfl, hc.1⟩, hc.2⟩]; rfl) K
theorem q_iaload {i x : Int32} {a : Nat} {l : List Int32} (hd : a_lk (mC k) pc = some (.iaload, len)) (hi : 0 ≤ i) (ha : ¬ a = a_SC) (hw : w[a]? = some (.inl (0, .inl l))) (hx : l[i.toNatClampNeg]? = some x) (K : Wp sc d k (pc + 1) ls (.int x :: r) w nc ns Q) : Wp sc d k pc ls (.int i :: .ref a :: r) w nc ns Q := q_ins hd (show a_ild 0 sc pc ls (.int i :: .ref a :: r) w = some (pc + 1, ls, .int x :: r, w, 0, 0) by unfold a_ild; dsimp only; rw [if_pos hi, if_neg (fun h => ha h.1), hw]; dsimp only; rw [if_pos rfl, hx]; rfl) K
theorem q_baload {i x : Int32} {a : Nat} {l : List Int32} (hd : a_lk (mC k) pc = some (.baload, len)) (hi : 0 ≤ i) (ha : ¬ a = a_SC) (hw : w[a]? = some (.inl (1, .inl l))) (hx : l[i.toNatClampNeg]? = some x) (K : Wp sc d k (pc + 1) ls (.int x :: r) w nc ns Q) : Wp sc d k pc ls (.int i :: .ref a :: r) w nc ns Q := q_ins hd (show a_ild 1 sc pc ls (.int i :: .ref a :: r) w = some (pc + 1, ls, .int x :: r, w, 0, 0) by unfold a_ild; dsimp only; rw [if_pos hi, if_neg (fun h => ha h.1), hw]; dsimp only; rw [if_pos rfl, hx]; rfl) K
theorem q_script {i x : Int32} (hd : a_lk (mC k) pc = some (.iaload, len)) (hi : 0 ≤ i) (hx : sc[i.toNatClampNeg]? = some x) (K : Wp sc d k (pc + 1) ls (.int x :: r) w nc ns Q) : Wp sc d k pc ls (.int i :: .ref a_SC :: r) w nc ns Q := q_ins hd (show a_ild 0 sc pc ls (.int i :: .ref a_SC :: r) w = some (pc + 1, ls, .int x :: r, w, 0, 0) by unfold a_ild; dsimp only; rw [if_pos hi, if_pos ⟨rfl, rfl⟩, hx]; rfl) K
theorem q_laload {i : Int32} {x : Int64} {a : Nat} {l : List Int64} (hd : a_lk (mC k) pc = some (.laload, len)) (hi : 0 ≤ i) (hw : w[a]? = some (.inl (2, .inr l))) (hx : l[i.toNatClampNeg]? = some x) (K : Wp sc d k (pc + 1) ls (.long x :: r) w nc ns Q) : Wp sc d k pc ls (.int i :: .ref a :: r) w nc ns Q := q_ins hd (show a_lld pc ls (.int i :: .ref a :: r) w = some (pc + 1, ls, .long x :: r, w, 0, 0) by unfold a_lld; dsimp only; rw [if_pos hi, hw]; dsimp only; rw [if_pos rfl, hx]; rfl) K
theorem q_iastore {i x : Int32} {a : Nat} {l : List Int32} (hd : a_lk (mC k) pc = some (.iastore, len)) (hi : 0 ≤ i) (hw : w[a]? = some (.inl (0, .inl l))) (hl : i.toNatClampNeg < l.length) (K : Wp sc d k (pc + 1) ls (r) (w.set a (.inl (0, .inl (l.set i.toNatClampNeg (x))))) nc ns Q) : Wp sc d k pc ls (.int x :: .int i :: .ref a :: r) w nc ns Q := q_ins hd (show a_ist pc ls (.int x :: .int i :: .ref a :: r) w = some (pc + 1, ls, r, w.set a (.inl (0, .inl (l.set i.toNatClampNeg (x)))), 0, 0) by unfold a_ist; dsimp only; rw [if_pos hi, hw]; dsimp only; rw [if_pos ⟨rfl, hl⟩]; rfl) K
theorem q_bastore {i x : Int32} {a : Nat} {l : List Int32} (hd : a_lk (mC k) pc = some (.bastore, len)) (hi : 0 ≤ i) (hw : w[a]? = some (.inl (1, .inl l))) (hl : i.toNatClampNeg < l.length) (K : Wp sc d k (pc + 1) ls (r) (w.set a (.inl (1, .inl (l.set i.toNatClampNeg (x.toInt8.toInt32))))) nc ns Q) : Wp sc d k pc ls (.int x :: .int i :: .ref a :: r) w nc ns Q := q_ins hd (show a_bst pc ls (.int x :: .int i :: .ref a :: r) w = some (pc + 1, ls, r, w.set a (.inl (1, .inl (l.set i.toNatClampNeg (x.toInt8.toInt32)))), 0, 0) by unfold a_bst; dsimp only; rw [if_pos hi, hw]; dsimp only; rw [if_pos ⟨rfl, hl⟩]; rfl) K
theorem q_lastore {i : Int32} {x : Int64} {a : Nat} {l : List Int64} (hd : a_lk (mC k) pc = some (.lastore, len)) (hi : 0 ≤ i) (hw : w[a]? = some (.inl (2, .inr l))) (hl : i.toNatClampNeg < l.length) (K : Wp sc d k (pc + 1) ls (r) (w.set a (.inl (2, .inr (l.set i.toNatClampNeg x)))) nc ns Q) : Wp sc d k pc ls (.long x :: .int i :: .ref a :: r) w nc ns Q := q_ins hd (show a_lst pc ls (.long x :: .int i :: .ref a :: r) w = some (pc + 1, ls, r, w.set a (.inl (2, .inr (l.set i.toNatClampNeg x))), 0, 0) by unfold a_lst; dsimp only; rw [if_pos hi, hw]; dsimp only; rw [if_pos ⟨rfl, hl⟩]; rfl) K
theorem q_slen (hd : a_lk (mC k) pc = some (.arraylength, len)) (K : Wp sc d k (pc + 1) ls (.int (Int32.ofNat sc.length) :: r) w nc ns Q) : Wp sc d k pc ls (.ref a_SC :: r) w nc ns Q := q_ins hd (show a_aln sc pc ls (.ref a_SC :: r) w = some (pc + 1, ls, .int (Int32.ofNat sc.length) :: r, w, 0, 0) by unfold a_aln; dsimp only; rw [if_pos rfl]; rfl) K
end WPR
end
section
/-! ===== behind the law's constructors ===== -/
/-- does the instruction look at the script? -/
def scd (st : List Value) (i : Instr) : Bool := match i, st with
  | .iaload, .int _ :: .ref a :: _ => Nat.beq a a_SC
  | .arraylength, .ref a :: _ => Nat.beq a a_SC
  | _, _ => false
theorem nb_ne {a b : Nat} (h : Nat.beq a b = false) : ¬ a = b := fun e => by rw [e, Nat.beq_refl] at h; cases h
theorem scd_ok {sc : List Int32} {d k pc : Nat} {ls : AL} {st : List Value} {w : AW} {i : Instr} (h : scd st i = false) : ins sc d k pc ls st w i = ins [] d k pc ls st w i := by
  cases i with
  | iaload =>
    show a_ild 0 sc pc ls st w = a_ild 0 [] pc ls st w
    unfold a_ild
    split
    · have h1 := nb_ne (show Nat.beq _ a_SC = false from h)
      split
      · rw [if_neg (fun q => h1 q.1), if_neg (fun q => h1 q.1)]
      · rfl
    · rfl
  | baload =>
    show a_ild 1 sc pc ls st w = a_ild 1 [] pc ls st w
    unfold a_ild
    split
    · split
      · rw [if_neg (fun q => nomatch q.2), if_neg (fun q => nomatch q.2)]
      · rfl
    · rfl
  | arraylength =>
    show a_aln sc pc ls st w = a_aln [] pc ls st w
    unfold a_aln
    split
    · have h1 := nb_ne (show Nat.beq _ a_SC = false from h)
      rw [if_neg h1, if_neg h1]
    · rfl
  | ifCond c off => cases c <;> rfl
  | if_icmp c off => cases c <;> rfl
  | _ => rfl
/-- ev, where it never looks at the script -/
def ev0 : Nat → Nat → Nat → Nat → AL → List Value → AW → Nat → Nat → Option AR
  | 0, _, _, _, _, _, _, _, _ => none
  | n + 1, d, k, pc, ls, st, w, nc, ns => match a_lk (mC k) pc with
    | none => none
    | some (i, _) => if scd st i = true then none else match ins [] d k pc ls st w i with
      | some (pc', ls', st', w', a, b) => ev0 n d k pc' ls' st' w' (nc + a) (ns + b)
      | none => match fin d k pc st i with
        | some (o, a, b) => some (o, w, nc + a, ns + b)
        | none => match cal k st w i with
          | some (j, ags, rest) => (match d with
            | 0 => none
            | d' + 1 => a_bk k pc j rest nc ns (fun st' w' a b => ev0 n d k (pc + 3) ls st' w' a b) (ev0 n d' j 0 (lv_args 0 ags) [] w 0 0))
          | none => none
theorem ev0_ev {sc : List Int32} : ∀ {n d k pc : Nat} {ls : AL} {st : List Value} {w : AW} {nc ns : Nat} {r : AR}, ev0 n d k pc ls st w nc ns = some r → ev sc n d k pc ls st w nc ns = some r
  | 0, _, _, _, _, _, _, _, _, _, h => by cases h
  | n + 1, d, k, pc, ls, st, w, nc, ns, r, h => by
    unfold ev0 at h
    unfold ev
    split at h
    · cases h
    · rename_i i len hd
      try rw [hd]
      try dsimp only
      split at h
      · cases h
      · rename_i hs
        rw [scd_ok (Bool.eq_false_iff.mpr hs)]
        split at h
        · rename_i pc' ls' st' w' a b hi
          try rw [hi]
          exact ev0_ev h
        · rename_i hi
          try rw [hi]
          try dsimp only
          split at h
          · rename_i o a b hf
            try rw [hf]
            exact h
          · rename_i hf
            try rw [hf]
            try dsimp only
            split at h
            · rename_i j ags rest hc
              try rw [hc]
              cases d with
              | zero => cases h
              | succ d' => exact bk_mono (fun _ _ _ _ _ hh => ev0_ev hh) (fun _ hh => ev0_ev hh) h
            · cases h
/-- so many instructions of one frame, its calls run through -/
def rn0 : Nat → Nat → Nat → Nat → AL → List Value → AW → Nat → Nat → Option AN
  | 0, _, _, pc, ls, st, w, nc, ns => some (pc, ls, st, w, nc, ns)
  | n + 1, d, k, pc, ls, st, w, nc, ns => match a_lk (mC k) pc with
    | none => none
    | some (i, _) => if scd st i = true then none else match ins [] d k pc ls st w i with
      | some (pc', ls', st', w', a, b) => rn0 n d k pc' ls' st' w' (nc + a) (ns + b)
      | none => match fin d k pc st i with
        | some _ => none
        | none => match cal k st w i with
          | some (j, ags, rest) => (match d with
            | 0 => none
            | d' + 1 => match ev0 1000000 d' j 0 (lv_args 0 ags) [] w 0 0 with
              | some (.inl v, w', a, b) => rn0 n d k (pc + 3) ls (v.toList ++ rest) w' (nc + a) (ns + b)
              | _ => none)
          | none => none
theorem rn0_wp {sc : List Int32} {Q : AR → Prop} : ∀ {n d k pc : Nat} {ls : AL} {st : List Value} {w : AW} {nc ns pc' : Nat} {ls' : AL} {st' : List Value} {w' : AW} {a b : Nat}, rn0 n d k pc ls st w nc ns = some (pc', ls', st', w', a, b) → Wp sc d k pc' ls' st' w' a b Q → Wp sc d k pc ls st w nc ns Q
  | 0, _, _, _, _, _, _, _, _, _, _, _, _, _, _, h, K => by cases h; exact K
  | n + 1, d, k, pc, ls, st, w, nc, ns, _, _, _, _, _, _, h, K => by
    unfold rn0 at h
    split at h
    · cases h
    · rename_i i len hd
      split at h
      · cases h
      · rename_i hs
        have hs' := scd_ok (sc := sc) (d := d) (k := k) (pc := pc) (ls := ls) (w := w) (Bool.eq_false_iff.mpr hs)
        split at h
        · rename_i pc' ls' st' w' a b hi
          exact q_ins hd (hs'.trans hi) (rn0_wp h K)
        · rename_i hi
          split at h
          · cases h
          · rename_i hf
            split at h
            · rename_i j ags rest hc
              cases d with
              | zero => cases h
              | succ d' =>
                dsimp only at h
                split at h
                · rename_i v w' a b he
                  exact q_cal (Q0 := fun v0 w0 a0 b0 => (v0, w0, a0, b0) = (v, w', a, b)) hd (hs'.trans hi) hf hc ⟨_, _, ev0_ev he, v, rfl, rfl⟩ (fun v0 w0 a0 b0 e => by cases e; exact rn0_wp h K)
                · cases h
            · cases h
def w1 : AW := [
  .inr (7, [.ref 1, .ref 3, .ref 7, .ref 9, .ref 10, .ref 11, .ref 12, .ref 13, .ref 25, .ref 37, .ref 39, .int 0, .int 0, .int 0]),
  .inr (5, [.ref 2, .int 0, .int 0, .int 0, .int 0, .int (-1)]),
  .inl (1, .inl (List.replicate 600 0)),
  .inr (1, [.ref 4, .ref 5, .ref 6, .int 0, .int 0]),
  .inl (0, .inl (List.replicate 544 0)),
  .inl (0, .inl (List.replicate 1734 0)),
  .inl (0, .inl (List.replicate 3 0)),
  .inr (3, [.ref 8, .int 0, .int 0, .int 0, .int 0]),
  .inl (0, .inl (List.replicate 190 0)),
  .inr (6, [.int 0]),
  .inl (0, .inl (List.replicate 24 0)),
  .inl (0, .inl (List.replicate 6 0)),
  .inl (0, .inl (List.replicate 4 0)),
  .inr (2, [.int 0, .int 0, .int 0, .int 5, .int 0, .int 0, .ref 14, .ref 15, .ref 16, .ref 17, .ref 18, .ref 19, .ref 20]),
  .inl (0, .inl (List.replicate 24 0)),
  .inl (0, .inl (List.replicate 12 0)),
  .inl (0, .inl (List.replicate 4 0)),
  .inl (0, .inl (List.replicate 8 0)),
  .inl (0, .inl (List.replicate 8 0)),
  .inl (0, .inl ([-1, -1, -1, -1])),
  .inr (0, [.ref 21, .ref 22, .ref 23, .ref 24, .int 0, .int 0]),
  .inl (0, .inl (List.replicate 150 0)),
  .inl (0, .inl (List.replicate 150 0)),
  .inl (0, .inl (List.replicate 150 0)),
  .inl (0, .inl (List.replicate 8 0)),
  .inr (2, [.int 0, .int 0, .int 0, .int 5, .int 0, .int 0, .ref 26, .ref 27, .ref 28, .ref 29, .ref 30, .ref 31, .ref 32]),
  .inl (0, .inl (List.replicate 24 0)),
  .inl (0, .inl (List.replicate 12 0)),
  .inl (0, .inl (List.replicate 4 0)),
  .inl (0, .inl (List.replicate 8 0)),
  .inl (0, .inl (List.replicate 8 0)),
  .inl (0, .inl ([-1, -1, -1, -1])),
  .inr (0, [.ref 33, .ref 34, .ref 35, .ref 36, .int 0, .int 0]),
  .inl (0, .inl (List.replicate 150 0)),
  .inl (0, .inl (List.replicate 150 0)),
  .inl (0, .inl (List.replicate 150 0)),
  .inl (0, .inl (List.replicate 8 0)),
  .inr (4, [.ref 38, .ref 13]),
  .inl (0, .inl (List.replicate 34 0)),
  .inr (4, [.ref 40, .ref 13]),
  .inl (0, .inl (List.replicate 34 0)),
  .inr (8, [.int 0, .ref 42, .int 0, .int 0, .int 0, .int 0, .int 0, .int 0, .int (-1), .ref 43, .ref 44, .ref 45, .ref 46, .ref 47, .ref 48, .ref 49, .int 0, .int 0, .int 0, .int 5, .int 0, .int 0, .int 0, .int 5, .ref 50, .ref 51, .ref 52, .ref 53, .ref 54, .int 0, .int 0, .ref 55, .ref 56, .ref 57, .int 0, .int 0, .int 0, .int 0, .int 0, .int 0, .ref 58, .ref 59, .ref 60, .ref 61, .ref 62, .ref 63, .ref 64, .int 0, .int 0, .ref 65, .int 0, .ref 66, .int 0]),
  .inl (0, .inl (List.replicate 2 0)),
  .inl (0, .inl (List.replicate 600 0)),
  .inl (0, .inl (List.replicate 24 0)),
  .inl (0, .inl (List.replicate 12 0)),
  .inl (0, .inl (List.replicate 4 0)),
  .inl (0, .inl (List.replicate 24 0)),
  .inl (0, .inl (List.replicate 12 0)),
  .inl (0, .inl (List.replicate 4 0)),
  .inl (0, .inl (List.replicate 150 0)),
  .inl (0, .inl (List.replicate 150 0)),
  .inl (0, .inl (List.replicate 150 0)),
  .inl (0, .inl (List.replicate 150 0)),
  .inl (0, .inl (List.replicate 150 0)),
  .inl (0, .inl (List.replicate 8 0)),
  .inl (0, .inl (List.replicate 250 0)),
  .inl (0, .inl (List.replicate 250 0)),
  .inl (0, .inl (List.replicate 37 0)),
  .inl (0, .inl (List.replicate 37 0)),
  .inl (0, .inl (List.replicate 592 0)),
  .inl (0, .inl (List.replicate 8 0)),
  .inl (0, .inl (List.replicate 8 0)),
  .inl (0, .inl (List.replicate 4 0)),
  .inl (0, .inl ([-1, -1, -1, -1])),
  .inl (2, .inr (List.replicate 14 0)),
  .inl (0, .inl (List.replicate 1890 0)),
  .inl (2, .inr (List.replicate 1 0))]
def l1 : AL := [(4, .int 0), (3, .ref 67), (2, .ref 41), (1, .ref 0), (0, .ref a_SC)]
def w1_is (x : Option AN) : Bool := match x with
  | some (pc, ls, st, w, a, b) => (Nat.beq pc 23 && (Nat.beq a 68 && Nat.beq b 8870)) && (decide (ls = l1) && (st.isEmpty && decide (w = w1)))
  | none => false
set_option maxRecDepth 1000000 in
theorem w1_b : w1_is (rn0 13 100 296 0 [(0, .ref a_SC)] [] [] 0 0) = true := by decide +kernel
theorem w1_of {x : Option AN} (h : w1_is x = true) : x = some (23, l1, [], w1, 68, 8870) := by
  unfold w1_is at h
  split at h
  · simp only [Bool.and_eq_true, decide_eq_true_eq, List.isEmpty_iff] at h
    obtain ⟨⟨h1, h2, h3⟩, h4, h5, h6⟩ := h
    rw [Nat.eq_of_beq_eq_true h1, Nat.eq_of_beq_eq_true h2, Nat.eq_of_beq_eq_true h3, h4, h5, h6]
  · cases h
theorem w1_ok : rn0 13 100 296 0 [(0, .ref a_SC)] [] [] 0 0 = some (23, l1, [], w1, 68, 8870) := w1_of w1_b
theorem q_w1 {sc : List Int32} {Q : AR → Prop} (K : Wp sc 100 296 23 l1 [] w1 68 8870 Q) : Wp sc 100 296 0 [(0, .ref a_SC)] [] [] 0 0 Q := rn0_wp w1_ok K
end
section
/-! ===== rules with the numbers worked out; calls in a row; the law's end ===== -/
theorem i_lt {x y : Int32} {a b : Int} (ha : x.toInt = a) (hb : y.toInt = b) (h : a < b) : x < y := Int32.lt_iff_toInt_lt.mpr (by rw [ha, hb]; exact h)
theorem i_le {x y : Int32} {a b : Int} (ha : x.toInt = a) (hb : y.toInt = b) (h : a ≤ b) : x ≤ y := Int32.le_iff_toInt_le.mpr (by rw [ha, hb]; exact h)
theorem i_nlt {x y : Int32} {a b : Int} (ha : x.toInt = a) (hb : y.toInt = b) (h : b ≤ a) : ¬ x < y := fun q => by have := Int32.lt_iff_toInt_lt.mp q; omega
theorem i_nle {x y : Int32} {a b : Int} (ha : x.toInt = a) (hb : y.toInt = b) (h : b < a) : ¬ x ≤ y := fun q => by have := Int32.le_iff_toInt_le.mp q; omega
theorem i_eq {x y : Int32} {a b : Int} (ha : x.toInt = a) (hb : y.toInt = b) (h : a = b) : x = y := Int32.toInt_inj.mp (by rw [ha, hb]; exact h)
theorem i_ne {x y : Int32} {a b : Int} (ha : x.toInt = a) (hb : y.toInt = b) (h : a ≠ b) : ¬ x = y := fun q => h (by rw [← ha, ← hb, q])
theorem i_nne {x y : Int32} {a b : Int} (ha : x.toInt = a) (hb : y.toInt = b) (h : a = b) : ¬ ¬ x = y := fun q => q (i_eq ha hb h)
theorem i_lt_r {x y : Int32} {a b : Int} (ha : x.toInt = a) (hb : y.toInt = b) (h : b < a) : y < x := i_lt hb ha h
theorem i_le_r {x y : Int32} {a b : Int} (ha : x.toInt = a) (hb : y.toInt = b) (h : b ≤ a) : y ≤ x := i_le hb ha h
theorem i_nlt_r {x y : Int32} {a b : Int} (ha : x.toInt = a) (hb : y.toInt = b) (h : a ≤ b) : ¬ y < x := i_nlt hb ha h
theorem i_nle_r {x y : Int32} {a b : Int} (ha : x.toInt = a) (hb : y.toInt = b) (h : a < b) : ¬ y ≤ x := i_nle hb ha h
theorem i_add {x y : Int32} {a b : Int} (ha : x.toInt = a) (hb : y.toInt = b) (h1 : -2147483648 ≤ a + b) (h2 : a + b ≤ 2147483647) : (x + y).toInt = a + b := by
  rw [Int32.toInt_add, ha, hb, Int.bmod_def]
  omega
def Bk (sc : List Int32) (d k pc j : Nat) (ls : AL) (rest : List Value) (nc ns : Nat) (Q : AR → Prop) (r : AR) : Prop :=
  (∃ v, r.1 = .inl v ∧ Wp sc (d + 1) k (pc + 3) ls (v.toList ++ rest) r.2.1 (nc + r.2.2.1) (ns + r.2.2.2) Q) ∨
  (∃ x, r.1 = .inr x ∧ mD j = 0 ∧ mH k = [] ∧ Q (.inr x, r.2.1, nc + r.2.2.1, ns + r.2.2.2)) ∨
  (∃ (x : Nat) (z : Int32), r.1 = .inr x ∧ mD j = 0 ∧ (∃ y ys, mH k = y :: ys) ∧ a_hnd k pc x = some z ∧ Q (.inl (some (.int z)), r.2.1, nc + r.2.2.1, ns + r.2.2.2))
section WPS
variable {sc : List Int32} {d k pc len nc ns : Nat} {ls : AL} {st r : List Value} {w : AW} {Q : AR → Prop}
theorem q_call {i : Instr} {j : Nat} {ags rest : List Value} (hd : a_lk (mC k) pc = some (i, len)) (hi : ins sc (d + 1) k pc ls st w i = none) (hf : fin (d + 1) k pc st i = none) (hc : cal k st w i = some (j, ags, rest)) (C : Wp sc d j 0 (lv_args 0 ags) [] w 0 0 (Bk sc d k pc j ls rest nc ns Q)) : Wp sc (d + 1) k pc ls st w nc ns Q := by
  refine q_cal0 hd hi hf hc C ?_
  rintro ⟨o, w', a, b⟩ (⟨v, rfl, n, y, h1, h2⟩ | ⟨x, rfl, hj, hh, hq⟩ | ⟨x, z, rfl, hj, ⟨y, ys, hy⟩, hz, hq⟩)
  · exact ⟨n, y, h1, h2⟩
  · refine ⟨0, _, ?_, hq⟩
    show (if mD j = 0 then _ else none) = _
    rw [if_pos hj, hh]
  · refine ⟨0, _, ?_, hq⟩
    show (if mD j = 0 then _ else none) = _
    rw [if_pos hj, hy]
    dsimp only
    rw [hz]
theorem bk_inl {j : Nat} {rest : List Value} {v : Option Value} {w' : AW} {a b : Nat} (K : Wp sc (d + 1) k (pc + 3) ls (v.toList ++ rest) w' (nc + a) (ns + b) Q) : Bk sc d k pc j ls rest nc ns Q (.inl v, w', a, b) := Or.inl ⟨v, rfl, K⟩
theorem bk_out {j : Nat} {rest : List Value} {x : Nat} {w' : AW} {a b : Nat} (hj : mD j = 0) (hh : mH k = []) (K : Q (.inr x, w', nc + a, ns + b)) : Bk sc d k pc j ls rest nc ns Q (.inr x, w', a, b) := Or.inr (Or.inl ⟨x, rfl, hj, hh, K⟩)
theorem bk_thr {j : Nat} {rest : List Value} {x : Nat} {z : Int32} {w' : AW} {a b : Nat} (hj : mD j = 0) (hh : ∃ y ys, mH k = y :: ys) (hz : a_hnd k pc x = some z) (K : Q (.inl (some (.int z)), w', nc + a, ns + b)) : Bk sc d k pc j ls rest nc ns Q (.inr x, w', a, b) := Or.inr (Or.inr ⟨x, z, rfl, hj, hh, hz, K⟩)
theorem q_iret {x : Int32} (hd : a_lk (mC k) pc = some (.ireturn, len)) (hR : mR k = some .int) (K : Q (.inl (some (.int x)), w, nc, ns)) : Wp sc d k pc ls [.int x] w nc ns Q := q_fin hd rfl (show a_ret k .ireturn [.int x] = some (.inl (some (.int x)), 0, 0) by unfold a_ret; rw [hR]) K
theorem q_zret {x : Int32} (hd : a_lk (mC k) pc = some (.ireturn, len)) (hR : mR k = some .boolean) (hx : x = 0 ∨ x = 1) (K : Q (.inl (some (.int x)), w, nc, ns)) : Wp sc d k pc ls [.int x] w nc ns Q := q_fin hd rfl (show a_ret k .ireturn [.int x] = some (.inl (some (.int x)), 0, 0) by unfold a_ret; rw [hR]; exact if_pos hx) K
theorem q_lret {x : Int64} (hd : a_lk (mC k) pc = some (.lreturn, len)) (hR : mR k = some .long) (K : Q (.inl (some (.long x)), w, nc, ns)) : Wp sc d k pc ls [.long x] w nc ns Q := q_fin hd rfl (show a_ret k .lreturn [.long x] = some (.inl (some (.long x)), 0, 0) by unfold a_ret; rw [hR]) K
theorem q_vret (hd : a_lk (mC k) pc = some (.return_, len)) (hR : mR k = none) (K : Q (.inl none, w, nc, ns)) : Wp sc d k pc ls [] w nc ns Q := q_fin hd rfl (show a_ret k .return_ [] = some (.inl none, 0, 0) by unfold a_ret; rw [hR]) K
def clo_is (x : Option AR) (v : Option Value) (w : AW) (a b : Nat) : Bool := match x with
  | some (.inl v', w', a', b') => decide (v' = v) && (Nat.beq a' a && (Nat.beq b' b && decide (w' = w)))
  | _ => false
theorem clo_of {x : Option AR} {v : Option Value} {w : AW} {a b : Nat} (h : clo_is x v w a b = true) : x = some (.inl v, w, a, b) := by
  unfold clo_is at h
  split at h
  · simp only [Bool.and_eq_true, decide_eq_true_eq] at h
    obtain ⟨h1, h2, h3, h4⟩ := h
    rw [h1, Nat.eq_of_beq_eq_true h2, Nat.eq_of_beq_eq_true h3, h4]
  · cases h
/-- a call that holds nothing of the script -/
theorem q_clo {i : Instr} {j a b : Nat} {ags rest : List Value} {v : Option Value} {w9 : AW} (hd : a_lk (mC k) pc = some (i, len)) (hi : ins sc (d + 1) k pc ls st w i = none) (hf : fin (d + 1) k pc st i = none) (hc : cal k st w i = some (j, ags, rest)) (hev : clo_is (ev0 1000000 d j 0 (lv_args 0 ags) [] w 0 0) v w9 a b = true)
    (K : Wp sc (d + 1) k (pc + 3) ls (v.toList ++ rest) w9 (nc + a) (ns + b) Q) : Wp sc (d + 1) k pc ls st w nc ns Q :=
  q_call hd hi hf hc ⟨_, _, ev0_ev (clo_of hev), bk_inl K⟩
theorem q_iconstv {n : Int} {v : Int32} (hd : a_lk (mC k) pc = some (.iconst n, len)) (hv : Int32.ofInt n = v) (K : Wp sc d k (pc + 1) ls (.int v :: st) w nc ns Q) : Wp sc d k pc ls st w nc ns Q := q_iconst hd (by rw [hv]; exact K)
theorem q_bipushv {n : Int} {v : Int32} (hd : a_lk (mC k) pc = some (.bipush n, len)) (hv : (Int8.ofInt n).toInt32 = v) (K : Wp sc d k (pc + 2) ls (.int v :: st) w nc ns Q) : Wp sc d k pc ls st w nc ns Q := q_bipush hd (by rw [hv]; exact K)
theorem q_sipushv {n : Int} {v : Int32} (hd : a_lk (mC k) pc = some (.sipush n, len)) (hv : (Int16.ofInt n).toInt32 = v) (K : Wp sc d k (pc + 3) ls (.int v :: st) w nc ns Q) : Wp sc d k pc ls st w nc ns Q := q_sipush hd (by rw [hv]; exact K)
theorem q_iincv {i : Nat} {c : Int} {x v : Int32} (hd : a_lk (mC k) pc = some (.iinc i c, len)) (hl : a_lk ls i = some (.int x)) (hi : i < mX k) (hv : x + Int32.ofInt c = v) (K : Wp sc d k (pc + 3) (a_s1 ls i (.int v)) st w nc ns Q) : Wp sc d k pc ls st w nc ns Q := q_iinc hd hl hi (by rw [hv]; exact K)
theorem q_iaddv {x y v : Int32} (hd : a_lk (mC k) pc = some (.iadd, len)) (hv : x + y = v) (K : Wp sc d k (pc + 1) ls (.int v :: r) w nc ns Q) : Wp sc d k pc ls (.int y :: .int x :: r) w nc ns Q := q_iadd hd (by rw [hv]; exact K)
theorem q_isubv {x y v : Int32} (hd : a_lk (mC k) pc = some (.isub, len)) (hv : x - y = v) (K : Wp sc d k (pc + 1) ls (.int v :: r) w nc ns Q) : Wp sc d k pc ls (.int y :: .int x :: r) w nc ns Q := q_isub hd (by rw [hv]; exact K)
theorem q_imulv {x y v : Int32} (hd : a_lk (mC k) pc = some (.imul, len)) (hv : x * y = v) (K : Wp sc d k (pc + 1) ls (.int v :: r) w nc ns Q) : Wp sc d k pc ls (.int y :: .int x :: r) w nc ns Q := q_imul hd (by rw [hv]; exact K)
theorem q_iandv {x y v : Int32} (hd : a_lk (mC k) pc = some (.iand, len)) (hv : x &&& y = v) (K : Wp sc d k (pc + 1) ls (.int v :: r) w nc ns Q) : Wp sc d k pc ls (.int y :: .int x :: r) w nc ns Q := q_iand hd (by rw [hv]; exact K)
theorem q_iorv {x y v : Int32} (hd : a_lk (mC k) pc = some (.ior, len)) (hv : x ||| y = v) (K : Wp sc d k (pc + 1) ls (.int v :: r) w nc ns Q) : Wp sc d k pc ls (.int y :: .int x :: r) w nc ns Q := q_ior hd (by rw [hv]; exact K)
theorem q_ixorv {x y v : Int32} (hd : a_lk (mC k) pc = some (.ixor, len)) (hv : x ^^^ y = v) (K : Wp sc d k (pc + 1) ls (.int v :: r) w nc ns Q) : Wp sc d k pc ls (.int y :: .int x :: r) w nc ns Q := q_ixor hd (by rw [hv]; exact K)
theorem q_ishlv {x y v : Int32} (hd : a_lk (mC k) pc = some (.ishl, len)) (hv : x <<< (y &&& 31) = v) (K : Wp sc d k (pc + 1) ls (.int v :: r) w nc ns Q) : Wp sc d k pc ls (.int y :: .int x :: r) w nc ns Q := q_ishl hd (by rw [hv]; exact K)
theorem q_ishrv {x y v : Int32} (hd : a_lk (mC k) pc = some (.ishr, len)) (hv : x >>> (y &&& 31) = v) (K : Wp sc d k (pc + 1) ls (.int v :: r) w nc ns Q) : Wp sc d k pc ls (.int y :: .int x :: r) w nc ns Q := q_ishr hd (by rw [hv]; exact K)
theorem q_iushrv {x y v : Int32} (hd : a_lk (mC k) pc = some (.iushr, len)) (hv : (x.toUInt32 >>> (y.toUInt32 &&& Int32.toUInt32 31)).toInt32 = v) (K : Wp sc d k (pc + 1) ls (.int v :: r) w nc ns Q) : Wp sc d k pc ls (.int y :: .int x :: r) w nc ns Q := q_iushr hd (by rw [hv]; exact K)
theorem q_idivv {x y v : Int32} (hd : a_lk (mC k) pc = some (.idiv, len)) (hy : ¬ y = 0) (hv : x / y = v) (K : Wp sc d k (pc + 1) ls (.int v :: r) w nc ns Q) : Wp sc d k pc ls (.int y :: .int x :: r) w nc ns Q := q_idiv hd hy (by rw [hv]; exact K)
theorem q_iremv {x y v : Int32} (hd : a_lk (mC k) pc = some (.irem, len)) (hy : ¬ y = 0) (hv : x - x / y * y = v) (K : Wp sc d k (pc + 1) ls (.int v :: r) w nc ns Q) : Wp sc d k pc ls (.int y :: .int x :: r) w nc ns Q := q_irem hd hy (by rw [hv]; exact K)
theorem q_inegv {x v : Int32} (hd : a_lk (mC k) pc = some (.ineg, len)) (hv : -x = v) (K : Wp sc d k (pc + 1) ls (.int v :: r) w nc ns Q) : Wp sc d k pc ls (.int x :: r) w nc ns Q := q_ineg hd (by rw [hv]; exact K)
theorem q_i2lv {x : Int32} {v : Int64} (hd : a_lk (mC k) pc = some (.i2l, len)) (hv : x.toInt64 = v) (K : Wp sc d k (pc + 1) ls (.long v :: r) w nc ns Q) : Wp sc d k pc ls (.int x :: r) w nc ns Q := q_i2l hd (by rw [hv]; exact K)
theorem q_lcmpv {x y : Int64} {v : Int32} (hd : a_lk (mC k) pc = some (.lcmp, len)) (hv : lg_cmp x y = v) (K : Wp sc d k (pc + 1) ls (.int v :: r) w nc ns Q) : Wp sc d k pc ls (.long y :: .long x :: r) w nc ns Q := q_lcmp hd (by rw [hv]; exact K)
theorem lcmp_self (x : Int64) : lg_cmp x x = 0 := by unfold lg_cmp; simp
theorem q_lcmp_eq {x : Int64} (hd : a_lk (mC k) pc = some (.lcmp, len)) (K : Wp sc d k (pc + 1) ls (.int 0 :: r) w nc ns Q) : Wp sc d k pc ls (.long x :: .long x :: r) w nc ns Q := q_lcmp hd (by rw [lcmp_self]; exact K)
theorem q_ialoadv {i x : Int32} {a m : Nat} {l : List Int32} (hd : a_lk (mC k) pc = some (.iaload, len)) (hi : 0 ≤ i) (ha : ¬ a = a_SC) (hw : w[a]? = some (.inl (0, .inl l))) (hm : i.toNatClampNeg = m) (hx : l[m]? = some x) (K : Wp sc d k (pc + 1) ls (.int x :: r) w nc ns Q) : Wp sc d k pc ls (.int i :: .ref a :: r) w nc ns Q := q_iaload hd hi ha hw (by rw [hm]; exact hx) K
theorem q_baloadv {i x : Int32} {a m : Nat} {l : List Int32} (hd : a_lk (mC k) pc = some (.baload, len)) (hi : 0 ≤ i) (ha : ¬ a = a_SC) (hw : w[a]? = some (.inl (1, .inl l))) (hm : i.toNatClampNeg = m) (hx : l[m]? = some x) (K : Wp sc d k (pc + 1) ls (.int x :: r) w nc ns Q) : Wp sc d k pc ls (.int i :: .ref a :: r) w nc ns Q := q_baload hd hi ha hw (by rw [hm]; exact hx) K
theorem q_laloadv {i : Int32} {x : Int64} {a m : Nat} {l : List Int64} (hd : a_lk (mC k) pc = some (.laload, len)) (hi : 0 ≤ i) (hw : w[a]? = some (.inl (2, .inr l))) (hm : i.toNatClampNeg = m) (hx : l[m]? = some x) (K : Wp sc d k (pc + 1) ls (.long x :: r) w nc ns Q) : Wp sc d k pc ls (.int i :: .ref a :: r) w nc ns Q := q_laload hd hi hw (by rw [hm]; exact hx) K
theorem q_iastorev {i x : Int32} {a m : Nat} {l : List Int32} {w9 : AW} (hd : a_lk (mC k) pc = some (.iastore, len)) (hi : 0 ≤ i) (hw : w[a]? = some (.inl (0, .inl l))) (hm : i.toNatClampNeg = m) (hl : m < l.length) (h9 : w.set a (.inl (0, .inl (l.set m x))) = w9) (K : Wp sc d k (pc + 1) ls r w9 nc ns Q) : Wp sc d k pc ls (.int x :: .int i :: .ref a :: r) w nc ns Q := q_iastore hd hi hw (by rw [hm]; exact hl) (by rw [hm, h9]; exact K)
theorem q_bastorev {i x : Int32} {a m : Nat} {l : List Int32} {w9 : AW} (hd : a_lk (mC k) pc = some (.bastore, len)) (hi : 0 ≤ i) (hw : w[a]? = some (.inl (1, .inl l))) (hm : i.toNatClampNeg = m) (hl : m < l.length) (h9 : w.set a (.inl (1, .inl (l.set m x.toInt8.toInt32))) = w9) (K : Wp sc d k (pc + 1) ls r w9 nc ns Q) : Wp sc d k pc ls (.int x :: .int i :: .ref a :: r) w nc ns Q := q_bastore hd hi hw (by rw [hm]; exact hl) (by rw [hm, h9]; exact K)
theorem q_lastorev {i : Int32} {x : Int64} {a m : Nat} {l : List Int64} {w9 : AW} (hd : a_lk (mC k) pc = some (.lastore, len)) (hi : 0 ≤ i) (hw : w[a]? = some (.inl (2, .inr l))) (hm : i.toNatClampNeg = m) (hl : m < l.length) (h9 : w.set a (.inl (2, .inr (l.set m x))) = w9) (K : Wp sc d k (pc + 1) ls r w9 nc ns Q) : Wp sc d k pc ls (.long x :: .int i :: .ref a :: r) w nc ns Q := q_lastore hd hi hw (by rw [hm]; exact hl) (by rw [hm, h9]; exact K)
theorem q_putv {x a ci f : Nat} {fs : List Value} {v : Value} {w9 : AW} (hd : a_lk (mC k) pc = some (.putfield x, len)) (hk : a_lk (kF (mK k)) x = some (ci, f)) (hw : w[a]? = some (.inr (ci, fs))) (hl : f < fs.length) (hc : a_fit (YF ci f) v = true) (hz : (TF ci f).2.2.2 = false ∨ (mD k = 2 ∧ mK k = ci)) (h9 : w.set a (.inr (ci, fs.set f v)) = w9) (K : Wp sc d k (pc + 3) ls r w9 nc ns Q) : Wp sc d k pc ls (v :: .ref a :: r) w nc ns Q := q_put hd hk hw ⟨hl, hc, hz⟩ (by rw [h9]; exact K)
theorem q_alen {a t : Nat} {l : List Int32} {v : Int32} (hd : a_lk (mC k) pc = some (.arraylength, len)) (ha : ¬ a = a_SC) (hw : w[a]? = some (.inl (t, .inl l))) (ht : t < 2) (hv : Int32.ofNat l.length = v) (K : Wp sc d k (pc + 1) ls (.int v :: r) w nc ns Q) : Wp sc d k pc ls (.ref a :: r) w nc ns Q := by
  subst hv
  exact q_ins hd (show a_aln sc pc ls (.ref a :: r) w = some (pc + 1, ls, .int (Int32.ofNat l.length) :: r, w, 0, 0) by unfold a_aln; dsimp only; rw [if_neg ha, hw]; exact if_pos ht) K
theorem q_mmax {x j : Nat} {u v z : Int32} (hd : a_lk (mC k) pc = some (.invokestatic x, len)) (hk : a_lk (kM (mK k)) x = some (3, j)) (hc : 1 ≤ d ∧ a_cat r ≤ 8) (hz : (if u < v then v else u) = z) (K : Wp sc d k (pc + 3) ls (.int z :: r) w nc ns Q) : Wp sc d k pc ls (.int v :: .int u :: r) w nc ns Q := by
  subst hz
  exact q_ins hd (show a_ins d k x pc ls (.int v :: .int u :: r) w = some (pc + 3, ls, .int (if u < v then v else u) :: r, w, 0, 0) by unfold a_ins; rw [hk]; exact if_pos hc) K
theorem q_mmin {x j : Nat} {u v z : Int32} (hd : a_lk (mC k) pc = some (.invokestatic x, len)) (hk : a_lk (kM (mK k)) x = some (4, j)) (hc : 1 ≤ d ∧ a_cat r ≤ 8) (hz : (if v < u then v else u) = z) (K : Wp sc d k (pc + 3) ls (.int z :: r) w nc ns Q) : Wp sc d k pc ls (.int v :: .int u :: r) w nc ns Q := by
  subst hz
  exact q_ins hd (show a_ins d k x pc ls (.int v :: .int u :: r) w = some (pc + 3, ls, .int (if v < u then v else u) :: r, w, 0, 0) by unfold a_ins; rw [hk]; exact if_pos hc) K
theorem q_mabs {x j : Nat} {u z : Int32} (hd : a_lk (mC k) pc = some (.invokestatic x, len)) (hk : a_lk (kM (mK k)) x = some (5, j)) (hc : 1 ≤ d ∧ a_cat r ≤ 8) (hz : (if 0 ≤ u then u else 0 - u) = z) (K : Wp sc d k (pc + 3) ls (.int z :: r) w nc ns Q) : Wp sc d k pc ls (.int u :: r) w nc ns Q := by
  subst hz
  exact q_ins hd (show a_ins d k x pc ls (.int u :: r) w = some (pc + 3, ls, .int (if 0 ≤ u then u else 0 - u) :: r, w, 0, 0) by unfold a_ins; rw [hk]; exact if_pos hc) K
end WPS
def Qlaw (r : AR) : Prop := r.1 = .inl (some (.int 1)) ∧ r.2.2.1 ≤ 600002 ∧ r.2.2.2 ≤ 7302232
set_option maxRecDepth 100000 in
theorem q_end {x0 x1 x2 x3 x4 x5 x6 x7 : Int32} {ls : AL} {w : AW} {nc ns : Nat} (h4 : a_lk ls 4 = some (.int 8)) (h0 : a_lk ls 0 = some (.ref a_SC)) (hc : nc ≤ 600002) (hs : ns ≤ 7302232) : Wp [x0, x1, x2, x3, x4, x5, x6, x7] 100 296 23 ls [] w nc ns Qlaw := by
  refine q_iload rfl h4 ?_
  refine q_aload_n rfl h0 ?_
  refine q_slen rfl ?_
  refine q_bipush rfl ?_
  refine q_isub rfl ?_
  refine q_ic_gt_t (t := 2745) rfl (by decide) (by show Int32.ofNat 8 - (Int8.ofInt 8).toInt32 < 8; decide +kernel) ?_
  refine q_iconstv (v := 1) rfl (by decide +kernel) ?_
  refine q_zret rfl rfl (by decide) ?_
  exact ⟨rfl, hc, hs⟩
end
section
/-! ===== a run needs of its slots only those that it reads ===== -/
def a_lsi : Instr → Bool
  | .iload _ => true | .iload_n _ => true | .lload _ => true | .lload_n _ => true | .aload _ => true | .aload_n _ => true
  | .istore _ => true | .istore_n _ => true | .lstore _ => true | .lstore_n _ => true | .astore _ => true | .astore_n _ => true
  | .iinc _ _ => true
  | _ => false
abbrev a_sl (ls : AL) (q : AN) : AN := (q.1, ls, q.2.2)
theorem sln_pass {d pc : Nat} {st : List Value} {w : AW} (ls : AL) : a_sln d pc ls st w = (a_sln d pc [] st w).map (a_sl ls) := by
  unfold a_sln
  split
  · rename_i a r
    by_cases h : (6 ≤ d ∧ a_cat r ≤ 8) ∧ (a_SB ≤ a ∧ a - a_SB < sN)
    · rw [if_pos h, if_pos h]; exact rfl
    · rw [if_neg h, if_neg h]; exact rfl
  · exact rfl
theorem sch_pass {d pc : Nat} {st : List Value} {w : AW} (ls : AL) : a_sch d pc ls st w = (a_sch d pc [] st w).map (a_sl ls) := by
  unfold a_sch
  split
  · rename_i i a r
    by_cases h : (6 ≤ d ∧ a_cat r ≤ 8) ∧ ((a_SB ≤ a ∧ a - a_SB < sN) ∧ 0 ≤ i)
    · rw [if_pos h, if_pos h]
      generalize (sB (a - a_SB))[i.toNatClampNeg]? = q
      cases q with
      | none => exact rfl
      | some x => exact rfl
    · rw [if_neg h, if_neg h]; exact rfl
  · exact rfl
set_option maxHeartbeats 8000000 in
theorem ins_pass {sc : List Int32} {d k pc : Nat} {st : List Value} {w : AW} {i : Instr} (hi : a_lsi i = false) (ls : AL) : ins sc d k pc ls st w i = (ins sc d k pc [] st w i).map (a_sl ls) := by
  cases i with
  | invokevirtual x =>
    show a_inv d k x pc ls st w = (a_inv d k x pc [] st w).map (a_sl ls)
    unfold a_inv
    split
    · exact sln_pass ls
    · exact sch_pass ls
    · exact rfl
  | ifCond c off => cases c <;> (simp only [ins, a_nx, a_to, a_jmp] ; repeat' (first | rfl | split))
  | if_icmp c off => cases c <;> (simp only [ins, a_nx, a_to, a_jmp] ; repeat' (first | rfl | split))
  | _ => first
    | (cases hi; done)
    | (simp only [ins, a_nx, a_to, a_jmp, a_i1, a_i2, a_i2z, a_l2, a_l2z, a_lcmp, a_i2l, a_ldc, a_ldc2, a_dup, a_pop, a_dup2, a_tsw, a_lsw, a_get, a_put, a_ild, a_lld, a_ist, a_bst, a_lst, a_aln, a_new, a_nwa, a_mth, a_abs, a_cpy, a_obj, a_ins, a_inp]
       repeat' (first | rfl | split))
    | rfl
def lsub (l2 l : AL) : Prop := ∀ q ∈ l2, a_lk l q.1 = some q.2
theorem a_lk_cons {α : Type} {q : Nat × α} {r : List (Nat × α)} {i : Nat} : a_lk (q :: r) i = if q.1 = i then some q.2 else a_lk r i := by
  show (bif Nat.beq q.1 i then some q.2 else a_lk r i) = _
  by_cases h : q.1 = i
  · rw [if_pos h, h, Nat.beq_refl]; rfl
  · rw [if_neg h]
    have : Nat.beq q.1 i = false := by
      cases hb : Nat.beq q.1 i with
      | false => rfl
      | true => exact absurd (Nat.eq_of_beq_eq_true hb) h
    rw [this]
    rfl
theorem a_lk_fil {p : Nat × Value → Bool} {i : Nat} {v : Value} : ∀ {l : AL}, a_lk l i = some v → p (i, v) = true → a_lk (l.filter p) i = some v
  | [], h, _ => by cases h
  | q :: r, h, hp => by
    rw [a_lk_cons] at h
    by_cases e : q.1 = i
    · rw [if_pos e] at h
      obtain ⟨a, b⟩ := q
      cases h
      cases e
      rw [List.filter_cons_of_pos hp, a_lk_cons, if_pos rfl]
    · rw [if_neg e] at h
      have := a_lk_fil h hp
      by_cases hq : p q = true
      · rw [List.filter_cons_of_pos hq, a_lk_cons, if_neg e, this]
      · rw [List.filter_cons_of_neg hq, this]
theorem lsub_nil {l : AL} : lsub [] l := fun _ h => nomatch h
theorem lsub_cons {l r : AL} {i : Nat} {v : Value} (h : a_lk l i = some v) (h2 : lsub r l) : lsub ((i, v) :: r) l := fun q hq => by
  cases hq with
  | head => exact h
  | tail _ h3 => exact h2 q h3
theorem lsub_lk {l2 l : AL} {i : Nat} {v : Value} (h : lsub l2 l) (e : a_lk l2 i = some v) : a_lk l i = some v := h (i, v) (a_lk_mem e)
theorem lsub_s1 {l2 l : AL} {i : Nat} {v : Value} (h : lsub l2 l) : lsub (a_s1 l2 i v) (a_s1 l i v) := fun q hq => by
  unfold a_s1 at hq ⊢
  rw [a_lk_cons]
  cases hq with
  | head => exact if_pos rfl
  | tail _ h3 =>
    obtain ⟨h4, h5⟩ := List.mem_filter.mp h3
    have h6 : ¬ i = q.1 := fun e => by
      rw [e] at h5
      simp at h5
    dsimp only
    rw [if_neg h6]
    exact a_lk_fil (h q h4) h5
theorem lsub_s2 {l2 l : AL} {i : Nat} {v : Value} (h : lsub l2 l) : lsub (a_s2 l2 i v) (a_s2 l i v) := fun q hq => by
  unfold a_s2 at hq ⊢
  rw [a_lk_cons]
  cases hq with
  | head => exact if_pos rfl
  | tail _ h3 =>
    obtain ⟨h4, h5⟩ := List.mem_filter.mp h3
    have h6 : ¬ i = q.1 := fun e => by
      rw [e] at h5
      simp at h5
    dsimp only
    rw [if_neg h6]
    exact a_lk_fil (h q h4) h5
section LSM
variable {pc pc2 a b : Nat} {l2 l l3 : AL} {st st2 : List Value} {w w2 : AW}
theorem ldI_ls {i p : Nat} (h : lsub l2 l) (e : a_ldI (a_lk l2 i) p l2 st w = some (pc2, l3, st2, w2, a, b)) : ∃ l4, a_ldI (a_lk l i) p l st w = some (pc2, l4, st2, w2, a, b) ∧ lsub l3 l4 := by
  unfold a_ldI at e ⊢
  split at e
  · rename_i x hx
    rw [lsub_lk h hx]
    cases e
    exact ⟨l, rfl, h⟩
  · cases e
theorem ldL_ls {i p : Nat} (h : lsub l2 l) (e : a_ldL (a_lk l2 i) p l2 st w = some (pc2, l3, st2, w2, a, b)) : ∃ l4, a_ldL (a_lk l i) p l st w = some (pc2, l4, st2, w2, a, b) ∧ lsub l3 l4 := by
  unfold a_ldL at e ⊢
  split at e
  · rename_i x hx
    rw [lsub_lk h hx]
    cases e
    exact ⟨l, rfl, h⟩
  · cases e
theorem ldA_ls {i p : Nat} (h : lsub l2 l) (e : a_ldA (a_lk l2 i) p l2 st w = some (pc2, l3, st2, w2, a, b)) : ∃ l4, a_ldA (a_lk l i) p l st w = some (pc2, l4, st2, w2, a, b) ∧ lsub l3 l4 := by
  unfold a_ldA at e ⊢
  split at e
  · rename_i x hx
    rw [lsub_lk h hx]
    cases e
    exact ⟨l, rfl, h⟩
  · cases e
theorem stI_ls {n i p : Nat} (h : lsub l2 l) (e : a_stI n i p l2 st w = some (pc2, l3, st2, w2, a, b)) : ∃ l4, a_stI n i p l st w = some (pc2, l4, st2, w2, a, b) ∧ lsub l3 l4 := by
  unfold a_stI at e ⊢
  split at e
  · split at e
    · rename_i hi
      cases e
      exact ⟨_, if_pos hi, lsub_s1 h⟩
    · cases e
  · cases e
theorem stL_ls {n i p : Nat} (h : lsub l2 l) (e : a_stL n i p l2 st w = some (pc2, l3, st2, w2, a, b)) : ∃ l4, a_stL n i p l st w = some (pc2, l4, st2, w2, a, b) ∧ lsub l3 l4 := by
  unfold a_stL at e ⊢
  split at e
  · split at e
    · rename_i hi
      cases e
      exact ⟨_, if_pos hi, lsub_s2 h⟩
    · cases e
  · cases e
theorem stA_ls {n i p : Nat} (h : lsub l2 l) (e : a_stA n i p l2 st w = some (pc2, l3, st2, w2, a, b)) : ∃ l4, a_stA n i p l st w = some (pc2, l4, st2, w2, a, b) ∧ lsub l3 l4 := by
  unfold a_stA at e ⊢
  split at e
  · split at e
    · rename_i hi
      cases e
      exact ⟨_, if_pos hi, lsub_s1 h⟩
    · cases e
  · cases e
theorem inc_ls {n i p : Nat} {z : Int} (h : lsub l2 l) (e : a_inc n i z p l2 st w = some (pc2, l3, st2, w2, a, b)) : ∃ l4, a_inc n i z p l st w = some (pc2, l4, st2, w2, a, b) ∧ lsub l3 l4 := by
  unfold a_inc at e ⊢
  split at e
  · rename_i x hx
    rw [lsub_lk h hx]
    dsimp only
    split at e
    · rename_i hi
      cases e
      exact ⟨_, if_pos hi, lsub_s1 h⟩
    · cases e
  · cases e
theorem ins_ls {sc : List Int32} {d k : Nat} {i : Instr} (h : lsub l2 l) (e : ins sc d k pc l2 st w i = some (pc2, l3, st2, w2, a, b)) : ∃ l4, ins sc d k pc l st w i = some (pc2, l4, st2, w2, a, b) ∧ lsub l3 l4 := by
  cases hb : a_lsi i with
  | false =>
    rw [ins_pass hb l2] at e
    rw [ins_pass hb l]
    cases hq : ins sc d k pc [] st w i with
    | none => rw [hq] at e; cases e
    | some q =>
      rw [hq] at e
      obtain ⟨q1, q2, q3, q4, q5, q6⟩ := q
      cases e
      exact ⟨l, rfl, h⟩
  | true =>
    cases i with
    | iload n => exact ldI_ls h e
    | iload_n n => exact ldI_ls h e
    | lload n => exact ldL_ls h e
    | lload_n n => exact ldL_ls h e
    | aload n => exact ldA_ls h e
    | aload_n n => exact ldA_ls h e
    | istore n => exact stI_ls h e
    | istore_n n => exact stI_ls h e
    | lstore n => exact stL_ls h e
    | lstore_n n => exact stL_ls h e
    | astore n => exact stA_ls h e
    | astore_n n => exact stA_ls h e
    | iinc n z => exact inc_ls h e
    | _ => cases hb
end LSM
theorem lsi_fc {d k pc : Nat} {st : List Value} {w : AW} {i : Instr} (h : a_lsi i = true) : fin d k pc st i = none ∧ cal k st w i = none := by
  cases i <;> first
    | exact ⟨rfl, rfl⟩
    | cases h
theorem ev_ls {sc : List Int32} : ∀ {n d k pc : Nat} {l2 l : AL} {st : List Value} {w : AW} {nc ns : Nat} {r : AR}, lsub l2 l → ev sc n d k pc l2 st w nc ns = some r → ev sc n d k pc l st w nc ns = some r
  | 0, _, _, _, _, _, _, _, _, _, _, _, h => by cases h
  | n + 1, d, k, pc, l2, l, st, w, nc, ns, r, hl, h => by
    unfold ev at h ⊢
    split at h
    · cases h
    · rename_i i len hd
      try rw [hd]
      try dsimp only
      split at h
      · rename_i pc' ls' st' w' a b hi
        obtain ⟨l4, h1, h2⟩ := ins_ls hl hi
        rw [h1]
        exact ev_ls h2 h
      · rename_i hi
        cases hb : a_lsi i with
        | true =>
          obtain ⟨h1, h2⟩ := lsi_fc (d := d) (k := k) (pc := pc) (st := st) (w := w) hb
          rw [h1] at h
          dsimp only at h
          rw [h2] at h
          cases h
        | false =>
          have hi2 : ins sc d k pc l st w i = none := by
            rw [ins_pass hb l2] at hi
            rw [ins_pass hb l]
            cases hq : ins sc d k pc [] st w i with
            | none => rfl
            | some q => rw [hq] at hi; cases hi
          rw [hi2]
          try dsimp only
          split at h
          · rename_i o a b hf
            try rw [hf]
            exact h
          · rename_i hf
            try rw [hf]
            try dsimp only
            split at h
            · rename_i j ags rest hc
              try rw [hc]
              cases d with
              | zero => cases h
              | succ d' => exact bk_mono (fun _ _ _ _ _ hh => ev_ls hl hh) (fun _ hh => hh) h
            · cases h
theorem Wp_ls {sc : List Int32} {d k pc : Nat} (l2 : AL) {l : AL} {st : List Value} {w : AW} {nc ns : Nat} {Q : AR → Prop} (h : lsub l2 l) (K : Wp sc d k pc l2 st w nc ns Q) : Wp sc d k pc l st w nc ns Q := by
  obtain ⟨n, r, h1, h2⟩ := K
  exact ⟨n, r, ev_ls h h1, h2⟩
end
section
/-! ===== flat memory: the world behind the constructors as a function of cell and place, in whole numbers ===== -/
abbrev ME : Type := Nat → Int → Int
abbrev vi (z : Int) : Value := .int (Int32.ofInt z)
abbrev vl (z : Int) : Value := .long (Int64.ofInt z)
def ar (n : Nat) (f : Int → Int) : List Int32 := (List.range n).map (fun (j : Nat) => Int32.ofInt (f (j : Int)))
def al (n : Nat) (f : Int → Int) : List Int64 := (List.range n).map (fun (j : Nat) => Int64.ofInt (f (j : Int)))
def ud (f : Int → Int) (m x : Int) : Int → Int := fun j => if j = m then x else f j
def up (c : ME) (a : Nat) (m x : Int) : ME := fun b => if b = a then ud (c a) m x else c b
/-- so many places from sp on of cell s come to cell a from dp on -/
def upc (c : ME) (s : Nat) (sp : Int) (a : Nat) (dp n : Int) : ME := fun b => if b = a then (fun j => if dp ≤ j ∧ j < dp + n then c s (sp + (j - dp)) else c a j) else c b
theorem ud_eq {f : Int → Int} {m x j : Int} (h : j = m) : ud f m x j = x := if_pos h
theorem ud_ne {f : Int → Int} {m x j : Int} (h : ¬ j = m) : ud f m x j = f j := if_neg h
theorem up_c {c : ME} {a b : Nat} {m x j : Int} (h : ¬ b = a) : up c a m x b j = c b j := by unfold up; rw [if_neg h]
theorem up_e {c : ME} {a : Nat} {m x j : Int} (h : j = m) : up c a m x a j = x := by unfold up; rw [if_pos rfl]; exact ud_eq h
theorem up_n {c : ME} {a : Nat} {m x j : Int} (h : ¬ j = m) : up c a m x a j = c a j := by unfold up; rw [if_pos rfl]; exact ud_ne h
theorem up_self {c : ME} {a : Nat} {m x : Int} : up c a m x a = ud (c a) m x := if_pos rfl
theorem up_b {c : ME} {a b : Nat} {m x j : Int} (h : ¬ b = a ∨ ¬ j = m) : up c a m x b j = c b j := by
  by_cases e : b = a
  · subst e; exact up_n (h.resolve_left (fun q => q rfl))
  · exact up_c e
theorem upc_c {c : ME} {s a b : Nat} {sp dp n j : Int} (h : ¬ b = a) : upc c s sp a dp n b j = c b j := by unfold upc; rw [if_neg h]
theorem upc_e {c : ME} {s a : Nat} {sp dp n j : Int} (h : dp ≤ j ∧ j < dp + n) : upc c s sp a dp n a j = c s (sp + (j - dp)) := by unfold upc; rw [if_pos rfl]; exact if_pos h
theorem upc_n {c : ME} {s a : Nat} {sp dp n j : Int} (h : ¬ (dp ≤ j ∧ j < dp + n)) : upc c s sp a dp n a j = c a j := by unfold upc; rw [if_pos rfl]; exact if_neg h
theorem ar_len {n : Nat} {f : Int → Int} : (ar n f).length = n := by unfold ar; rw [List.length_map, List.length_range]
theorem al_len {n : Nat} {f : Int → Int} : (al n f).length = n := by unfold al; rw [List.length_map, List.length_range]
theorem ar_get {n j : Nat} {f : Int → Int} (h : j < n) : (ar n f)[j]? = some (Int32.ofInt (f (j : Int))) := by
  unfold ar
  rw [List.getElem?_map, List.getElem?_range h]
  rfl
theorem al_get {n j : Nat} {f : Int → Int} (h : j < n) : (al n f)[j]? = some (Int64.ofInt (f (j : Int))) := by
  unfold al
  rw [List.getElem?_map, List.getElem?_range h]
  rfl
theorem ar_set {n j : Nat} {f : Int → Int} {x : Int} : (ar n f).set j (Int32.ofInt x) = ar n (ud f (j : Int) x) := by
  refine List.ext_getElem? (fun k => ?_)
  rw [List.getElem?_set, ar_len]
  by_cases hk : k < n
  · rw [ar_get hk, ar_get hk]
    by_cases e : j = k
    · subst e
      rw [if_pos rfl, if_pos hk, ud_eq rfl]
    · rw [if_neg e, ud_ne (by omega)]
  · have h1 : ∀ g : Int → Int, (ar n g)[k]? = none := fun g => List.getElem?_eq_none (by rw [ar_len]; omega)
    rw [h1, h1]
    by_cases e : j = k
    · rw [if_pos e, if_neg (by omega)]
    · rw [if_neg e]
theorem al_set {n j : Nat} {f : Int → Int} {x : Int} : (al n f).set j (Int64.ofInt x) = al n (ud f (j : Int) x) := by
  refine List.ext_getElem? (fun k => ?_)
  rw [List.getElem?_set, al_len]
  by_cases hk : k < n
  · rw [al_get hk, al_get hk]
    by_cases e : j = k
    · subst e
      rw [if_pos rfl, if_pos hk, ud_eq rfl]
    · rw [if_neg e, ud_ne (by omega)]
  · have h1 : ∀ g : Int → Int, (al n g)[k]? = none := fun g => List.getElem?_eq_none (by rw [al_len]; omega)
    rw [h1, h1]
    by_cases e : j = k
    · rw [if_pos e, if_neg (by omega)]
    · rw [if_neg e]
theorem ar_ext {n : Nat} {f g : Int → Int} (h : ∀ j : Int, 0 ≤ j → j < n → f j = g j) : ar n f = ar n g := by
  refine List.ext_getElem? (fun k => ?_)
  by_cases hk : k < n
  · rw [ar_get hk, ar_get hk, h k (by omega) (by omega)]
  · rw [List.getElem?_eq_none (by rw [ar_len]; omega), List.getElem?_eq_none (by rw [ar_len]; omega)]
theorem ar_cpl {n n0 : Nat} {f g : Int → Int} {sp dp k : Nat} (h1 : sp + k ≤ n0) (h2 : dp + k ≤ n) : a_cpl (ar n0 f) (ar n g) sp dp k = ar n (fun j => if (dp : Int) ≤ j ∧ j < (dp : Int) + k then f ((sp : Int) + (j - dp)) else g j) := by
  refine List.ext_getElem? (fun q => ?_)
  unfold a_cpl
  rw [List.getElem?_append, List.length_take, ar_len, Nat.min_eq_left (by omega)]
  by_cases hq : q < dp
  · rw [if_pos hq, List.getElem?_take, if_pos hq, ar_get (by omega), ar_get (by omega), if_neg (by omega)]
  · rw [if_neg hq, List.getElem?_append, List.length_take, List.length_drop, ar_len, Nat.min_eq_left (by omega)]
    by_cases hr : q - dp < k
    · rw [if_pos hr, List.getElem?_take, if_pos hr, List.getElem?_drop, ar_get (by omega), ar_get (by omega), if_pos (by omega)]
      have e : ((sp + (q - dp) : Nat) : Int) = (sp : Int) + ((q : Int) - dp) := by omega
      rw [e]
    · rw [if_neg hr, List.getElem?_drop]
      have e : dp + k + (q - dp - k) = q := by omega
      rw [e]
      by_cases hn : q < n
      · rw [ar_get hn, ar_get hn, if_neg (by omega)]
      · rw [List.getElem?_eq_none (by rw [ar_len]; omega), List.getElem?_eq_none (by rw [ar_len]; omega)]
/-- what a cell is: an array (its type, its length), or an object (its number; its fields: a cell, or none of an int) -/
abbrev CK : Type := (Nat × Nat) ⊕ (Nat × List (Option Nat))
/-- P the plan, Q the spare one, N the plan of the shop that is now, T that of the trial -/
def ck (P Q N T : Nat) (a : Nat) : CK := match a with
  | 0 => .inr (7, [some 1, some 3, some 7, some 9, some 10, some 11, some 12, some P, some Q, some 37, some 39, none, none, none])
  | 1 => .inr (5, [some 2, none, none, none, none, none])
  | 2 => .inl (1, 600)
  | 3 => .inr (1, [some 4, some 5, some 6, none, none])
  | 4 => .inl (0, 544)
  | 5 => .inl (0, 1734)
  | 6 => .inl (0, 3)
  | 7 => .inr (3, [some 8, none, none, none, none])
  | 8 => .inl (0, 190)
  | 9 => .inr (6, [none])
  | 10 => .inl (0, 24)
  | 11 => .inl (0, 6)
  | 12 => .inl (0, 4)
  | 13 => .inr (2, [none, none, none, none, none, none, some 14, some 15, some 16, some 17, some 18, some 19, some 20])
  | 14 => .inl (0, 24)
  | 15 => .inl (0, 12)
  | 16 => .inl (0, 4)
  | 17 => .inl (0, 8)
  | 18 => .inl (0, 8)
  | 19 => .inl (0, 4)
  | 20 => .inr (0, [some 21, some 22, some 23, some 24, none, none])
  | 21 => .inl (0, 150)
  | 22 => .inl (0, 150)
  | 23 => .inl (0, 150)
  | 24 => .inl (0, 8)
  | 25 => .inr (2, [none, none, none, none, none, none, some 26, some 27, some 28, some 29, some 30, some 31, some 32])
  | 26 => .inl (0, 24)
  | 27 => .inl (0, 12)
  | 28 => .inl (0, 4)
  | 29 => .inl (0, 8)
  | 30 => .inl (0, 8)
  | 31 => .inl (0, 4)
  | 32 => .inr (0, [some 33, some 34, some 35, some 36, none, none])
  | 33 => .inl (0, 150)
  | 34 => .inl (0, 150)
  | 35 => .inl (0, 150)
  | 36 => .inl (0, 8)
  | 37 => .inr (4, [some 38, some N])
  | 38 => .inl (0, 34)
  | 39 => .inr (4, [some 40, some T])
  | 40 => .inl (0, 34)
  | 41 => .inr (8, [none, some 42, none, none, none, none, none, none, none, some 43, some 44, some 45, some 46, some 47, some 48, some 49, none, none, none, none, none, none, none, none, some 50, some 51, some 52, some 53, some 54, none, none, some 55, some 56, some 57, none, none, none, none, none, none, some 58, some 59, some 60, some 61, some 62, some 63, some 64, none, none, some 65, none, some 66, none])
  | 42 => .inl (0, 2)
  | 43 => .inl (0, 600)
  | 44 => .inl (0, 24)
  | 45 => .inl (0, 12)
  | 46 => .inl (0, 4)
  | 47 => .inl (0, 24)
  | 48 => .inl (0, 12)
  | 49 => .inl (0, 4)
  | 50 => .inl (0, 150)
  | 51 => .inl (0, 150)
  | 52 => .inl (0, 150)
  | 53 => .inl (0, 150)
  | 54 => .inl (0, 150)
  | 55 => .inl (0, 8)
  | 56 => .inl (0, 250)
  | 57 => .inl (0, 250)
  | 58 => .inl (0, 37)
  | 59 => .inl (0, 37)
  | 60 => .inl (0, 592)
  | 61 => .inl (0, 8)
  | 62 => .inl (0, 8)
  | 63 => .inl (0, 4)
  | 64 => .inl (0, 4)
  | 65 => .inl (2, 14)
  | 66 => .inl (0, 1890)
  | 67 => .inl (2, 1)
  | _ => .inl (0, 0)
def fe (c : ME) (a : Nat) : Nat → List (Option Nat) → List Value
  | _, [] => []
  | m, none :: r => vi (c a (m : Int)) :: fe c a (m + 1) r
  | m, some t :: r => .ref t :: fe c a (m + 1) r
def ce (c : ME) (a : Nat) : CK → AE
  | .inl (t, n) => if t = 2 then .inl (2, .inr (al n (c a))) else .inl (t, .inl (ar n (c a)))
  | .inr (ci, fl) => .inr (ci, fe c a 0 fl)
def Wd (P Q N T : Nat) (c : ME) : AW := (List.range 68).map (fun a => ce c a (ck P Q N T a))
theorem fe_none {c : ME} {a : Nat} : ∀ {fl : List (Option Nat)} {m j : Nat}, fl[j]? = some none → (fe c a m fl)[j]? = some (vi (c a ((m + j : Nat) : Int)))
  | [], _, j, h => by rw [List.getElem?_nil] at h; cases h
  | none :: r, m, 0, h => rfl
  | some t :: r, m, 0, h => by cases h
  | none :: r, m, j + 1, h => by
    have := fe_none (c := c) (a := a) (fl := r) (m := m + 1) (j := j) h
    rw [Nat.add_right_comm] at this
    exact this
  | some t :: r, m, j + 1, h => by
    have := fe_none (c := c) (a := a) (fl := r) (m := m + 1) (j := j) h
    rw [Nat.add_right_comm] at this
    exact this
theorem fe_some {c : ME} {a t : Nat} : ∀ {fl : List (Option Nat)} {m j : Nat}, fl[j]? = some (some t) → (fe c a m fl)[j]? = some (.ref t)
  | [], _, j, h => by rw [List.getElem?_nil] at h; cases h
  | none :: r, m, 0, h => by cases h
  | some t9 :: r, m, 0, h => by cases h; rfl
  | none :: r, m, j + 1, h => fe_some (c := c) (a := a) (fl := r) (m := m + 1) (j := j) h
  | some t9 :: r, m, j + 1, h => fe_some (c := c) (a := a) (fl := r) (m := m + 1) (j := j) h
theorem fe_len {c : ME} {a : Nat} : ∀ {fl : List (Option Nat)} {m : Nat}, (fe c a m fl).length = fl.length
  | [], _ => rfl
  | none :: r, m => congrArg (· + 1) (fe_len (c := c) (a := a) (fl := r) (m := m + 1))
  | some t :: r, m => congrArg (· + 1) (fe_len (c := c) (a := a) (fl := r) (m := m + 1))
theorem fe_ext {c c' : ME} {a : Nat} : ∀ {fl : List (Option Nat)} {m : Nat}, (∀ j : Nat, m ≤ j → c a j = c' a j) → fe c a m fl = fe c' a m fl
  | [], _, _ => rfl
  | none :: r, m, h => by
    show vi (c a m) :: fe c a (m + 1) r = vi (c' a m) :: fe c' a (m + 1) r
    rw [h m (Nat.le_refl m), fe_ext (fun j hj => h j (by omega))]
  | some t :: r, m, h => by
    show Value.ref t :: fe c a (m + 1) r = Value.ref t :: fe c' a (m + 1) r
    rw [fe_ext (fun j hj => h j (by omega))]
theorem fe_set {c : ME} {a : Nat} {x : Int} : ∀ {fl : List (Option Nat)} {m j : Nat}, fl[j]? = some none → (fe c a m fl).set j (vi x) = fe (up c a ((m + j : Nat) : Int) x) a m fl
  | [], _, j, h => by rw [List.getElem?_nil] at h; cases h
  | none :: r, m, 0, h => by
    show vi x :: fe c a (m + 1) r = vi (up c a (m : Int) x a m) :: fe (up c a (m : Int) x) a (m + 1) r
    rw [up_e rfl, fe_ext (fun j hj => (up_n (c := c) (a := a) (x := x) (m := (m : Int)) (j := (j : Int)) (by omega)).symm)]
  | some t :: r, m, 0, h => by cases h
  | none :: r, m, j + 1, h => by
    have := fe_set (c := c) (a := a) (x := x) (fl := r) (m := m + 1) (j := j) h
    rw [Nat.add_right_comm] at this
    show vi (c a m) :: (fe c a (m + 1) r).set j (vi x) = vi (up c a _ x a m) :: fe (up c a _ x) a (m + 1) r
    rw [this, up_n (by omega)]
    rfl
  | some t :: r, m, j + 1, h => by
    have := fe_set (c := c) (a := a) (x := x) (fl := r) (m := m + 1) (j := j) h
    rw [Nat.add_right_comm] at this
    show Value.ref t :: (fe c a (m + 1) r).set j (vi x) = Value.ref t :: fe (up c a _ x) a (m + 1) r
    rw [this]
    rfl
theorem ce_ext {c c' : ME} {a : Nat} {q : CK} (h : ∀ j : Int, 0 ≤ j → c a j = c' a j) : ce c a q = ce c' a q := by
  unfold ce
  split
  · rename_i t n
    have e1 : ar n (c a) = ar n (c' a) := ar_ext (fun j hj _ => h j hj)
    have e2 : al n (c a) = al n (c' a) := by
      unfold al
      congr 1
      funext j
      rw [h j (by omega)]
    rw [e1, e2]
  · rw [fe_ext (fun j _ => h j (by omega))]
theorem wd_get {P Q N T : Nat} {c : ME} {a : Nat} (h : a < 68) : (Wd P Q N T c)[a]? = some (ce c a (ck P Q N T a)) := by
  unfold Wd
  rw [List.getElem?_map, List.getElem?_range h]
  rfl
theorem wd_set {P Q N T P' Q' N' T' : Nat} {c c' : ME} {a : Nat} {X : AE} (h : a < 68) (hX : X = ce c' a (ck P' Q' N' T' a)) (ho : ∀ b, ¬ b = a → ce c b (ck P Q N T b) = ce c' b (ck P' Q' N' T' b)) : (Wd P Q N T c).set a X = Wd P' Q' N' T' c' := by
  refine List.ext_getElem? (fun k => ?_)
  have hl : ∀ (P Q N T : Nat) (c : ME), (Wd P Q N T c).length = 68 := fun P Q N T c => by unfold Wd; rw [List.length_map, List.length_range]
  rw [List.getElem?_set, hl]
  by_cases hk : k < 68
  · rw [wd_get hk, wd_get hk]
    by_cases e : a = k
    · subst e
      rw [if_pos rfl, if_pos hk, hX]
    · rw [if_neg e, ho k (fun q => e q.symm)]
  · rw [List.getElem?_eq_none (by rw [hl]; omega), List.getElem?_eq_none (by rw [hl]; omega)]
    by_cases e : a = k
    · rw [if_pos e, if_neg (by omega)]
    · rw [if_neg e]
theorem wd_up {P Q N T : Nat} {c : ME} {a : Nat} {m x : Int} {X : AE} (h : a < 68) (hX : X = ce (up c a m x) a (ck P Q N T a)) : (Wd P Q N T c).set a X = Wd P Q N T (up c a m x) :=
  wd_set h hX (fun b hb => ce_ext (fun j _ => (up_c hb).symm))
theorem wd_len {P Q N T : Nat} {c : ME} : (Wd P Q N T c).length = 68 := by unfold Wd; rw [List.length_map, List.length_range]
/-- the memory behind the constructors -/
def c0 : ME := fun a j => match a with
  | 1 => if j = 5 then -1 else 0
  | 13 => if j = 3 then 5 else 0
  | 19 => if 0 ≤ j ∧ j < 4 then -1 else 0
  | 25 => if j = 3 then 5 else 0
  | 31 => if 0 ≤ j ∧ j < 4 then -1 else 0
  | 41 => if j = 8 then -1 else if j = 19 then 5 else if j = 23 then 5 else 0
  | 64 => if 0 ≤ j ∧ j < 4 then -1 else 0
  | _ => 0
set_option maxRecDepth 100000 in
theorem w1_wd : w1 = Wd 13 25 13 13 c0 := by decide +kernel
theorem c_lt {a b : Int} (h : -2147483648 ≤ a ∧ a < b ∧ b ≤ 2147483647) : Int32.ofInt a < Int32.ofInt b := by
  rw [Int32.lt_iff_toInt_lt, Int32.toInt_ofInt_of_le (by omega) (by omega), Int32.toInt_ofInt_of_le (by omega) (by omega)]
  exact h.2.1
theorem c_le {a b : Int} (h : -2147483648 ≤ a ∧ a ≤ b ∧ b ≤ 2147483647) : Int32.ofInt a ≤ Int32.ofInt b := by
  rw [Int32.le_iff_toInt_le, Int32.toInt_ofInt_of_le (by omega) (by omega), Int32.toInt_ofInt_of_le (by omega) (by omega)]
  exact h.2.1
theorem c_nlt {a b : Int} (h : -2147483648 ≤ b ∧ b ≤ a ∧ a ≤ 2147483647) : ¬ Int32.ofInt a < Int32.ofInt b := by
  rw [Int32.lt_iff_toInt_lt, Int32.toInt_ofInt_of_le (by omega) (by omega), Int32.toInt_ofInt_of_le (by omega) (by omega)]
  omega
theorem c_nle {a b : Int} (h : -2147483648 ≤ b ∧ b < a ∧ a ≤ 2147483647) : ¬ Int32.ofInt a ≤ Int32.ofInt b := by
  rw [Int32.le_iff_toInt_le, Int32.toInt_ofInt_of_le (by omega) (by omega), Int32.toInt_ofInt_of_le (by omega) (by omega)]
  omega
theorem c_eq {a b : Int} (h : a = b) : Int32.ofInt a = Int32.ofInt b := congrArg _ h
theorem c_ne {a b : Int} (h : ¬ a = b ∧ (-2147483648 ≤ a ∧ a ≤ 2147483647) ∧ -2147483648 ≤ b ∧ b ≤ 2147483647) : ¬ Int32.ofInt a = Int32.ofInt b := fun q => by
  have e := congrArg Int32.toInt q
  rw [Int32.toInt_ofInt_of_le (by omega) (by omega), Int32.toInt_ofInt_of_le (by omega) (by omega)] at e
  exact h.1 e
theorem c_nn {a : Int} (h : 0 ≤ a ∧ a ≤ 2147483647) : (0 : Int32) ≤ Int32.ofInt a := c_le (a := 0) ⟨by omega, h.1, h.2⟩
theorem c_nat {a : Int} (h : 0 ≤ a ∧ a ≤ 2147483647) : (Int32.ofInt a).toNatClampNeg = a.toNat := Int32.toNatClampNeg_ofInt_of_le (by omega) (by omega)
theorem c_rng (x : Int32) : -2147483648 ≤ x.toInt ∧ x.toInt ≤ 2147483647 := ⟨x.le_toInt, by have := x.toInt_lt; omega⟩
/-- the number that stands for it -/
def wr (a : Int) : Int := (Int32.ofInt a).toInt
theorem wr_rng (a : Int) : -2147483648 ≤ wr a ∧ wr a ≤ 2147483647 := c_rng _
theorem wr_of (a : Int) : Int32.ofInt (wr a) = Int32.ofInt a := Int32.ofInt_toInt _
theorem wr_id {a : Int} (h : -2147483648 ≤ a ∧ a ≤ 2147483647) : wr a = a := Int32.toInt_ofInt_of_le (by omega) (by omega)
theorem i8_of {n : Int} (h : -128 ≤ n ∧ n ≤ 127) : (Int8.ofInt n).toInt32 = Int32.ofInt n := by
  refine Int32.toInt_inj.mp ?_
  rw [Int8.toInt_toInt32, Int8.toInt_ofInt_of_le (by omega) (by omega), Int32.toInt_ofInt_of_le (by omega) (by omega)]
theorem i16_of {n : Int} (h : -32768 ≤ n ∧ n ≤ 32767) : (Int16.ofInt n).toInt32 = Int32.ofInt n := by
  refine Int32.toInt_inj.mp ?_
  rw [Int16.toInt_toInt32, Int16.toInt_ofInt_of_le (by omega) (by omega), Int32.toInt_ofInt_of_le (by omega) (by omega)]
/-- a byte of a number -/
def sb (a : Int) : Int := (Int8.ofInt a).toInt
theorem sb_rng (a : Int) : -128 ≤ sb a ∧ sb a ≤ 127 := ⟨(Int8.ofInt a).le_toInt, by have := (Int8.ofInt a).toInt_lt; unfold sb; omega⟩
theorem sb_id {a : Int} (h : -128 ≤ a ∧ a ≤ 127) : sb a = a := Int8.toInt_ofInt_of_le (by omega) (by omega)
theorem sb_of (a : Int) : (Int32.ofInt a).toInt8.toInt32 = Int32.ofInt (sb a) := by
  rw [Int32.toInt8_ofInt]
  exact (Int32.ofInt_int8ToInt _).symm
theorem c_div {a b : Int} (h : 0 ≤ a ∧ a ≤ 2147483647 ∧ 0 < b ∧ b ≤ 2147483647) : Int32.ofInt a / Int32.ofInt b = Int32.ofInt (a / b) := by
  rw [← Int.tdiv_eq_ediv_of_nonneg h.1]
  exact (Int32.ofInt_tdiv (show (-2147483648 : Int) ≤ a by omega) (show a ≤ (2147483647 : Int) by omega) (show (-2147483648 : Int) ≤ b by omega) (show b ≤ (2147483647 : Int) by omega)).symm
theorem c_rem {a b : Int} (h : 0 ≤ a ∧ a ≤ 2147483647 ∧ 0 < b ∧ b ≤ 2147483647) : Int32.ofInt a - Int32.ofInt a / Int32.ofInt b * Int32.ofInt b = Int32.ofInt (a % b) := by
  rw [c_div h, ← Int32.ofInt_mul, ← Int32.ofInt_sub]
  congr 1
  have := Int.mul_ediv_add_emod a b
  rw [Int.mul_comm] at this
  omega
theorem l_ne {a b : Int} (h : ¬ a = b ∧ (-9223372036854775808 ≤ a ∧ a ≤ 9223372036854775807) ∧ -9223372036854775808 ≤ b ∧ b ≤ 9223372036854775807) : ¬ Int64.ofInt a = Int64.ofInt b := fun q => by
  have e := congrArg Int64.toInt q
  rw [Int64.toInt_ofInt_of_le (by omega) (by omega), Int64.toInt_ofInt_of_le (by omega) (by omega)] at e
  exact h.1 e
theorem l_div {a b : Int} (h : 0 ≤ a ∧ a ≤ 9223372036854775807 ∧ 0 < b ∧ b ≤ 9223372036854775807) : Int64.ofInt a / Int64.ofInt b = Int64.ofInt (a / b) := by
  rw [← Int.tdiv_eq_ediv_of_nonneg h.1]
  exact (Int64.ofInt_tdiv (show (-9223372036854775808 : Int) ≤ a by omega) (show a ≤ (9223372036854775807 : Int) by omega) (show (-9223372036854775808 : Int) ≤ b by omega) (show b ≤ (9223372036854775807 : Int) by omega)).symm
theorem l_rem {a b : Int} (h : 0 ≤ a ∧ a ≤ 9223372036854775807 ∧ 0 < b ∧ b ≤ 9223372036854775807) : Int64.ofInt a - Int64.ofInt a / Int64.ofInt b * Int64.ofInt b = Int64.ofInt (a % b) := by
  rw [l_div h, ← Int64.ofInt_mul, ← Int64.ofInt_sub]
  congr 1
  have := Int.mul_ediv_add_emod a b
  rw [Int.mul_comm] at this
  omega
theorem l_cmp0 {a b : Int} (h : a = b) : lg_cmp (Int64.ofInt a) (Int64.ofInt b) = Int32.ofInt 0 := by rw [h]; exact lcmp_self _
theorem l_cmp1 {a b : Int} (h : -9223372036854775808 ≤ b ∧ b < a ∧ a ≤ 9223372036854775807) : lg_cmp (Int64.ofInt a) (Int64.ofInt b) = Int32.ofInt 1 := by
  have h1 : Int64.ofInt b < Int64.ofInt a := by
    rw [Int64.lt_iff_toInt_lt, Int64.toInt_ofInt_of_le (by omega) (by omega), Int64.toInt_ofInt_of_le (by omega) (by omega)]
    omega
  have h2 : ¬ Int64.ofInt a < Int64.ofInt b := by
    rw [Int64.lt_iff_toInt_lt, Int64.toInt_ofInt_of_le (by omega) (by omega), Int64.toInt_ofInt_of_le (by omega) (by omega)]
    omega
  have h3 := l_ne (a := a) (b := b) ⟨by omega, ⟨by omega, by omega⟩, by omega, by omega⟩
  unfold lg_cmp
  simp [h1, h2, h3]
theorem l_of_i {a : Int} (h : -2147483648 ≤ a ∧ a ≤ 2147483647) : (Int32.ofInt a).toInt64 = Int64.ofInt a := Int32.toInt64_ofInt (show (-2147483648 : Int) ≤ a by omega) (show a ≤ (2147483647 : Int) by omega)
def AEi (c : ME) (a n : Nat) : AE := .inl (0, .inl (ar n (c a)))
section FL
variable {sc : List Int32} {d k pc len nc ns : Nat} {ls : AL} {st r : List Value} {P Q N T : Nat} {c : ME} {Z : AR → Prop}
theorem v_bip {w : AW} {n : Int} (hd : a_lk (mC k) pc = some (.bipush n, len)) (h : -128 ≤ n ∧ n ≤ 127) (K : Wp sc d k (pc + 2) ls (vi n :: st) w nc ns Z) : Wp sc d k pc ls st w nc ns Z := q_bipush hd (by rw [i8_of h]; exact K)
theorem v_sip {w : AW} {n : Int} (hd : a_lk (mC k) pc = some (.sipush n, len)) (h : -32768 ≤ n ∧ n ≤ 32767) (K : Wp sc d k (pc + 3) ls (vi n :: st) w nc ns Z) : Wp sc d k pc ls st w nc ns Z := q_sipush hd (by rw [i16_of h]; exact K)
theorem v_ldc {w : AW} {x : Nat} {v : Int32} {n : Int} (hd : a_lk (mC k) pc = some (.ldc x, len)) (hv : a_lk (kI (mK k)) x = some v) (hn : v = Int32.ofInt n) (K : Wp sc d k (pc + 2) ls (vi n :: st) w nc ns Z) : Wp sc d k pc ls st w nc ns Z := q_ldc_i hd hv (by rw [hn]; exact K)
theorem v_ldcw {w : AW} {x : Nat} {v : Int32} {n : Int} (hd : a_lk (mC k) pc = some (.ldc_w x, len)) (hv : a_lk (kI (mK k)) x = some v) (hn : v = Int32.ofInt n) (K : Wp sc d k (pc + 3) ls (vi n :: st) w nc ns Z) : Wp sc d k pc ls st w nc ns Z := q_ldc_w_i hd hv (by rw [hn]; exact K)
theorem v_ldc2 {w : AW} {x : Nat} {v : Int64} {n : Int} (hd : a_lk (mC k) pc = some (.ldc2_w x, len)) (hv : a_lk (kL (mK k)) x = some v) (hn : v = Int64.ofInt n) (K : Wp sc d k (pc + 3) ls (vl n :: st) w nc ns Z) : Wp sc d k pc ls st w nc ns Z := q_ldc2 hd hv (by rw [hn]; exact K)
theorem v_lconst {w : AW} {n : Fin 2} {z : Int} (hd : a_lk (mC k) pc = some (.lconst n, len)) (hz : Int64.ofNat (n : Nat) = Int64.ofInt z) (K : Wp sc d k (pc + 1) ls (vl z :: st) w nc ns Z) : Wp sc d k pc ls st w nc ns Z := q_lconst hd (by rw [hz]; exact K)
theorem v_iadd {w : AW} {a b v : Int} (hd : a_lk (mC k) pc = some (.iadd, len)) (hv : a + b = v) (K : Wp sc d k (pc + 1) ls (vi v :: r) w nc ns Z) : Wp sc d k pc ls (vi b :: vi a :: r) w nc ns Z := q_iadd hd (by rw [← Int32.ofInt_add, hv]; exact K)
theorem v_isub {w : AW} {a b v : Int} (hd : a_lk (mC k) pc = some (.isub, len)) (hv : a - b = v) (K : Wp sc d k (pc + 1) ls (vi v :: r) w nc ns Z) : Wp sc d k pc ls (vi b :: vi a :: r) w nc ns Z := q_isub hd (by rw [← Int32.ofInt_sub, hv]; exact K)
theorem v_imul {w : AW} {a b v : Int} (hd : a_lk (mC k) pc = some (.imul, len)) (hv : a * b = v) (K : Wp sc d k (pc + 1) ls (vi v :: r) w nc ns Z) : Wp sc d k pc ls (vi b :: vi a :: r) w nc ns Z := q_imul hd (by rw [← Int32.ofInt_mul, hv]; exact K)
theorem v_ladd {w : AW} {a b v : Int} (hd : a_lk (mC k) pc = some (.ladd, len)) (hv : a + b = v) (K : Wp sc d k (pc + 1) ls (vl v :: r) w nc ns Z) : Wp sc d k pc ls (vl b :: vl a :: r) w nc ns Z := q_ladd hd (by rw [← Int64.ofInt_add, hv]; exact K)
theorem v_lmul {w : AW} {a b v : Int} (hd : a_lk (mC k) pc = some (.lmul, len)) (hv : a * b = v) (K : Wp sc d k (pc + 1) ls (vl v :: r) w nc ns Z) : Wp sc d k pc ls (vl b :: vl a :: r) w nc ns Z := q_lmul hd (by rw [← Int64.ofInt_mul, hv]; exact K)
theorem v_ineg {w : AW} {a v : Int} (hd : a_lk (mC k) pc = some (.ineg, len)) (hv : -a = v) (K : Wp sc d k (pc + 1) ls (vi v :: r) w nc ns Z) : Wp sc d k pc ls (vi a :: r) w nc ns Z := q_ineg hd (by rw [← Int32.ofInt_neg, hv]; exact K)
theorem v_iinc {w : AW} {i : Nat} {n a v : Int} (hd : a_lk (mC k) pc = some (.iinc i n, len)) (hl : a_lk ls i = some (vi a)) (hi : i < mX k) (hv : a + n = v) (K : Wp sc d k (pc + 3) (a_s1 ls i (vi v)) st w nc ns Z) : Wp sc d k pc ls st w nc ns Z := q_iinc hd hl hi (by rw [← Int32.ofInt_add, hv]; exact K)
theorem v_idiv {w : AW} {a b v : Int} (hd : a_lk (mC k) pc = some (.idiv, len)) (h : 0 ≤ a ∧ a ≤ 2147483647 ∧ 0 < b ∧ b ≤ 2147483647) (hv : a / b = v) (K : Wp sc d k (pc + 1) ls (vi v :: r) w nc ns Z) : Wp sc d k pc ls (vi b :: vi a :: r) w nc ns Z := q_idiv hd (c_ne (b := 0) ⟨by omega, by omega, by omega⟩) (by rw [c_div h, hv]; exact K)
theorem v_irem {w : AW} {a b v : Int} (hd : a_lk (mC k) pc = some (.irem, len)) (h : 0 ≤ a ∧ a ≤ 2147483647 ∧ 0 < b ∧ b ≤ 2147483647) (hv : a % b = v) (K : Wp sc d k (pc + 1) ls (vi v :: r) w nc ns Z) : Wp sc d k pc ls (vi b :: vi a :: r) w nc ns Z := q_irem hd (c_ne (b := 0) ⟨by omega, by omega, by omega⟩) (by rw [c_rem h, hv]; exact K)
theorem v_ldiv {w : AW} {a b v : Int} (hd : a_lk (mC k) pc = some (.ldiv, len)) (h : 0 ≤ a ∧ a ≤ 9223372036854775807 ∧ 0 < b ∧ b ≤ 9223372036854775807) (hv : a / b = v) (K : Wp sc d k (pc + 1) ls (vl v :: r) w nc ns Z) : Wp sc d k pc ls (vl b :: vl a :: r) w nc ns Z := q_ldiv hd (l_ne (b := 0) ⟨by omega, by omega, by omega⟩) (by rw [l_div h, hv]; exact K)
theorem v_lrem {w : AW} {a b v : Int} (hd : a_lk (mC k) pc = some (.lrem, len)) (h : 0 ≤ a ∧ a ≤ 9223372036854775807 ∧ 0 < b ∧ b ≤ 9223372036854775807) (hv : a % b = v) (K : Wp sc d k (pc + 1) ls (vl v :: r) w nc ns Z) : Wp sc d k pc ls (vl b :: vl a :: r) w nc ns Z := q_lrem hd (l_ne (b := 0) ⟨by omega, by omega, by omega⟩) (by rw [l_rem h, hv]; exact K)
theorem v_i2l {w : AW} {a : Int} (hd : a_lk (mC k) pc = some (.i2l, len)) (h : -2147483648 ≤ a ∧ a ≤ 2147483647) (K : Wp sc d k (pc + 1) ls (vl a :: r) w nc ns Z) : Wp sc d k pc ls (vi a :: r) w nc ns Z := q_i2l hd (by rw [l_of_i h]; exact K)
theorem v_lcmp0 {w : AW} {a b : Int} (hd : a_lk (mC k) pc = some (.lcmp, len)) (h : a = b) (K : Wp sc d k (pc + 1) ls (vi 0 :: r) w nc ns Z) : Wp sc d k pc ls (vl b :: vl a :: r) w nc ns Z := q_lcmp hd (by rw [l_cmp0 h]; exact K)
theorem v_lcmp1 {w : AW} {a b : Int} (hd : a_lk (mC k) pc = some (.lcmp, len)) (h : -9223372036854775808 ≤ b ∧ b < a ∧ a ≤ 9223372036854775807) (K : Wp sc d k (pc + 1) ls (vi 1 :: r) w nc ns Z) : Wp sc d k pc ls (vl b :: vl a :: r) w nc ns Z := q_lcmp hd (by rw [l_cmp1 h]; exact K)
theorem v_if_eq_t {w : AW} {off : Int} {t : Nat} {a : Int} (hd : a_lk (mC k) pc = some (.ifCond .eq off, len)) (ht : (pc : Int) + off = (t : Int)) (h : a = (0 : Int)) (K : Wp sc d k t ls r w nc ns Z) : Wp sc d k pc ls (vi a :: r) w nc ns Z := q_if_eq_t hd ht (c_eq (a := a) (b := 0) h) K
theorem v_ic_eq_t {w : AW} {off : Int} {t : Nat} {a b : Int} (hd : a_lk (mC k) pc = some (.if_icmp .eq off, len)) (ht : (pc : Int) + off = (t : Int)) (h : a = b) (K : Wp sc d k t ls r w nc ns Z) : Wp sc d k pc ls (vi b :: vi a :: r) w nc ns Z := q_ic_eq_t hd ht (c_eq (a := a) (b := b) h) K
theorem v_if_eq_f {w : AW} {off : Int} {t : Nat} {a : Int} (hd : a_lk (mC k) pc = some (.ifCond .eq off, len)) (ht : (pc : Int) + off = (t : Int)) (h : ¬ a = (0 : Int) ∧ (-2147483648 ≤ a ∧ a ≤ 2147483647) ∧ -2147483648 ≤ (0 : Int) ∧ (0 : Int) ≤ 2147483647) (K : Wp sc d k (pc + 3) ls r w nc ns Z) : Wp sc d k pc ls (vi a :: r) w nc ns Z := q_if_eq_f hd ht (c_ne (a := a) (b := 0) h) K
theorem v_ic_eq_f {w : AW} {off : Int} {t : Nat} {a b : Int} (hd : a_lk (mC k) pc = some (.if_icmp .eq off, len)) (ht : (pc : Int) + off = (t : Int)) (h : ¬ a = b ∧ (-2147483648 ≤ a ∧ a ≤ 2147483647) ∧ -2147483648 ≤ b ∧ b ≤ 2147483647) (K : Wp sc d k (pc + 3) ls r w nc ns Z) : Wp sc d k pc ls (vi b :: vi a :: r) w nc ns Z := q_ic_eq_f hd ht (c_ne (a := a) (b := b) h) K
theorem v_if_ne_t {w : AW} {off : Int} {t : Nat} {a : Int} (hd : a_lk (mC k) pc = some (.ifCond .ne off, len)) (ht : (pc : Int) + off = (t : Int)) (h : ¬ a = (0 : Int) ∧ (-2147483648 ≤ a ∧ a ≤ 2147483647) ∧ -2147483648 ≤ (0 : Int) ∧ (0 : Int) ≤ 2147483647) (K : Wp sc d k t ls r w nc ns Z) : Wp sc d k pc ls (vi a :: r) w nc ns Z := q_if_ne_t hd ht (c_ne (a := a) (b := 0) h) K
theorem v_ic_ne_t {w : AW} {off : Int} {t : Nat} {a b : Int} (hd : a_lk (mC k) pc = some (.if_icmp .ne off, len)) (ht : (pc : Int) + off = (t : Int)) (h : ¬ a = b ∧ (-2147483648 ≤ a ∧ a ≤ 2147483647) ∧ -2147483648 ≤ b ∧ b ≤ 2147483647) (K : Wp sc d k t ls r w nc ns Z) : Wp sc d k pc ls (vi b :: vi a :: r) w nc ns Z := q_ic_ne_t hd ht (c_ne (a := a) (b := b) h) K
theorem v_if_ne_f {w : AW} {off : Int} {t : Nat} {a : Int} (hd : a_lk (mC k) pc = some (.ifCond .ne off, len)) (ht : (pc : Int) + off = (t : Int)) (h : a = (0 : Int)) (K : Wp sc d k (pc + 3) ls r w nc ns Z) : Wp sc d k pc ls (vi a :: r) w nc ns Z := q_if_ne_f hd ht (fun q => q (c_eq (a := a) (b := 0) h)) K
theorem v_ic_ne_f {w : AW} {off : Int} {t : Nat} {a b : Int} (hd : a_lk (mC k) pc = some (.if_icmp .ne off, len)) (ht : (pc : Int) + off = (t : Int)) (h : a = b) (K : Wp sc d k (pc + 3) ls r w nc ns Z) : Wp sc d k pc ls (vi b :: vi a :: r) w nc ns Z := q_ic_ne_f hd ht (fun q => q (c_eq (a := a) (b := b) h)) K
theorem v_if_lt_t {w : AW} {off : Int} {t : Nat} {a : Int} (hd : a_lk (mC k) pc = some (.ifCond .lt off, len)) (ht : (pc : Int) + off = (t : Int)) (h : -2147483648 ≤ a ∧ a < (0 : Int) ∧ (0 : Int) ≤ 2147483647) (K : Wp sc d k t ls r w nc ns Z) : Wp sc d k pc ls (vi a :: r) w nc ns Z := q_if_lt_t hd ht (c_lt (a := a) (b := 0) h) K
theorem v_ic_lt_t {w : AW} {off : Int} {t : Nat} {a b : Int} (hd : a_lk (mC k) pc = some (.if_icmp .lt off, len)) (ht : (pc : Int) + off = (t : Int)) (h : -2147483648 ≤ a ∧ a < b ∧ b ≤ 2147483647) (K : Wp sc d k t ls r w nc ns Z) : Wp sc d k pc ls (vi b :: vi a :: r) w nc ns Z := q_ic_lt_t hd ht (c_lt (a := a) (b := b) h) K
theorem v_if_lt_f {w : AW} {off : Int} {t : Nat} {a : Int} (hd : a_lk (mC k) pc = some (.ifCond .lt off, len)) (ht : (pc : Int) + off = (t : Int)) (h : -2147483648 ≤ (0 : Int) ∧ (0 : Int) ≤ a ∧ a ≤ 2147483647) (K : Wp sc d k (pc + 3) ls r w nc ns Z) : Wp sc d k pc ls (vi a :: r) w nc ns Z := q_if_lt_f hd ht (c_nlt (a := a) (b := 0) h) K
theorem v_ic_lt_f {w : AW} {off : Int} {t : Nat} {a b : Int} (hd : a_lk (mC k) pc = some (.if_icmp .lt off, len)) (ht : (pc : Int) + off = (t : Int)) (h : -2147483648 ≤ b ∧ b ≤ a ∧ a ≤ 2147483647) (K : Wp sc d k (pc + 3) ls r w nc ns Z) : Wp sc d k pc ls (vi b :: vi a :: r) w nc ns Z := q_ic_lt_f hd ht (c_nlt (a := a) (b := b) h) K
theorem v_if_ge_t {w : AW} {off : Int} {t : Nat} {a : Int} (hd : a_lk (mC k) pc = some (.ifCond .ge off, len)) (ht : (pc : Int) + off = (t : Int)) (h : -2147483648 ≤ (0 : Int) ∧ (0 : Int) ≤ a ∧ a ≤ 2147483647) (K : Wp sc d k t ls r w nc ns Z) : Wp sc d k pc ls (vi a :: r) w nc ns Z := q_if_ge_t hd ht (c_le (a := 0) (b := a) h) K
theorem v_ic_ge_t {w : AW} {off : Int} {t : Nat} {a b : Int} (hd : a_lk (mC k) pc = some (.if_icmp .ge off, len)) (ht : (pc : Int) + off = (t : Int)) (h : -2147483648 ≤ b ∧ b ≤ a ∧ a ≤ 2147483647) (K : Wp sc d k t ls r w nc ns Z) : Wp sc d k pc ls (vi b :: vi a :: r) w nc ns Z := q_ic_ge_t hd ht (c_le (a := b) (b := a) h) K
theorem v_if_ge_f {w : AW} {off : Int} {t : Nat} {a : Int} (hd : a_lk (mC k) pc = some (.ifCond .ge off, len)) (ht : (pc : Int) + off = (t : Int)) (h : -2147483648 ≤ a ∧ a < (0 : Int) ∧ (0 : Int) ≤ 2147483647) (K : Wp sc d k (pc + 3) ls r w nc ns Z) : Wp sc d k pc ls (vi a :: r) w nc ns Z := q_if_ge_f hd ht (c_nle (a := 0) (b := a) h) K
theorem v_ic_ge_f {w : AW} {off : Int} {t : Nat} {a b : Int} (hd : a_lk (mC k) pc = some (.if_icmp .ge off, len)) (ht : (pc : Int) + off = (t : Int)) (h : -2147483648 ≤ a ∧ a < b ∧ b ≤ 2147483647) (K : Wp sc d k (pc + 3) ls r w nc ns Z) : Wp sc d k pc ls (vi b :: vi a :: r) w nc ns Z := q_ic_ge_f hd ht (c_nle (a := b) (b := a) h) K
theorem v_if_gt_t {w : AW} {off : Int} {t : Nat} {a : Int} (hd : a_lk (mC k) pc = some (.ifCond .gt off, len)) (ht : (pc : Int) + off = (t : Int)) (h : -2147483648 ≤ (0 : Int) ∧ (0 : Int) < a ∧ a ≤ 2147483647) (K : Wp sc d k t ls r w nc ns Z) : Wp sc d k pc ls (vi a :: r) w nc ns Z := q_if_gt_t hd ht (c_lt (a := 0) (b := a) h) K
theorem v_ic_gt_t {w : AW} {off : Int} {t : Nat} {a b : Int} (hd : a_lk (mC k) pc = some (.if_icmp .gt off, len)) (ht : (pc : Int) + off = (t : Int)) (h : -2147483648 ≤ b ∧ b < a ∧ a ≤ 2147483647) (K : Wp sc d k t ls r w nc ns Z) : Wp sc d k pc ls (vi b :: vi a :: r) w nc ns Z := q_ic_gt_t hd ht (c_lt (a := b) (b := a) h) K
theorem v_if_gt_f {w : AW} {off : Int} {t : Nat} {a : Int} (hd : a_lk (mC k) pc = some (.ifCond .gt off, len)) (ht : (pc : Int) + off = (t : Int)) (h : -2147483648 ≤ a ∧ a ≤ (0 : Int) ∧ (0 : Int) ≤ 2147483647) (K : Wp sc d k (pc + 3) ls r w nc ns Z) : Wp sc d k pc ls (vi a :: r) w nc ns Z := q_if_gt_f hd ht (c_nlt (a := 0) (b := a) h) K
theorem v_ic_gt_f {w : AW} {off : Int} {t : Nat} {a b : Int} (hd : a_lk (mC k) pc = some (.if_icmp .gt off, len)) (ht : (pc : Int) + off = (t : Int)) (h : -2147483648 ≤ a ∧ a ≤ b ∧ b ≤ 2147483647) (K : Wp sc d k (pc + 3) ls r w nc ns Z) : Wp sc d k pc ls (vi b :: vi a :: r) w nc ns Z := q_ic_gt_f hd ht (c_nlt (a := b) (b := a) h) K
theorem v_if_le_t {w : AW} {off : Int} {t : Nat} {a : Int} (hd : a_lk (mC k) pc = some (.ifCond .le off, len)) (ht : (pc : Int) + off = (t : Int)) (h : -2147483648 ≤ a ∧ a ≤ (0 : Int) ∧ (0 : Int) ≤ 2147483647) (K : Wp sc d k t ls r w nc ns Z) : Wp sc d k pc ls (vi a :: r) w nc ns Z := q_if_le_t hd ht (c_le (a := a) (b := 0) h) K
theorem v_ic_le_t {w : AW} {off : Int} {t : Nat} {a b : Int} (hd : a_lk (mC k) pc = some (.if_icmp .le off, len)) (ht : (pc : Int) + off = (t : Int)) (h : -2147483648 ≤ a ∧ a ≤ b ∧ b ≤ 2147483647) (K : Wp sc d k t ls r w nc ns Z) : Wp sc d k pc ls (vi b :: vi a :: r) w nc ns Z := q_ic_le_t hd ht (c_le (a := a) (b := b) h) K
theorem v_if_le_f {w : AW} {off : Int} {t : Nat} {a : Int} (hd : a_lk (mC k) pc = some (.ifCond .le off, len)) (ht : (pc : Int) + off = (t : Int)) (h : -2147483648 ≤ (0 : Int) ∧ (0 : Int) < a ∧ a ≤ 2147483647) (K : Wp sc d k (pc + 3) ls r w nc ns Z) : Wp sc d k pc ls (vi a :: r) w nc ns Z := q_if_le_f hd ht (c_nle (a := a) (b := 0) h) K
theorem v_ic_le_f {w : AW} {off : Int} {t : Nat} {a b : Int} (hd : a_lk (mC k) pc = some (.if_icmp .le off, len)) (ht : (pc : Int) + off = (t : Int)) (h : -2147483648 ≤ b ∧ b < a ∧ a ≤ 2147483647) (K : Wp sc d k (pc + 3) ls r w nc ns Z) : Wp sc d k pc ls (vi b :: vi a :: r) w nc ns Z := q_ic_le_f hd ht (c_nle (a := a) (b := b) h) K
theorem v_tsw_o {w : AW} {dflt lo hi : Int} {offs : Array Int} {t : Nat} {a : Int} (hd : a_lk (mC k) pc = some (.tableswitch dflt lo hi offs, len)) (h : (a < lo ∨ hi < a) ∧ -2147483648 ≤ a ∧ a ≤ 2147483647) (ht : (pc : Int) + dflt = (t : Int)) (K : Wp sc d k t ls r w nc ns Z) : Wp sc d k pc ls (vi a :: r) w nc ns Z := q_tsw_o hd (by rw [Int32.toInt_ofInt_of_le (by omega) (by omega)]; exact h.1) ht K
theorem v_tsw_i {w : AW} {dflt lo hi off : Int} {offs : Array Int} {t : Nat} {a : Int} (b : Int) (hd : a_lk (mC k) pc = some (.tableswitch dflt lo hi offs, len)) (hb : a = b) (h : (lo ≤ b ∧ b ≤ hi) ∧ -2147483648 ≤ b ∧ b ≤ 2147483647) (ho : offs[(b - lo).toNat]? = some off) (ht : (pc : Int) + off = (t : Int)) (K : Wp sc d k t ls r w nc ns Z) : Wp sc d k pc ls (vi a :: r) w nc ns Z := by
  subst hb
  have e : (Int32.ofInt a).toInt = a := Int32.toInt_ofInt_of_le (by omega) (by omega)
  exact q_tsw_i hd (by rw [e]; omega) (by rw [e]; exact ho) ht K
theorem v_lsw {w : AW} {dflt off : Int} {ps : Array (Int × Int)} {t : Nat} {a : Int} (b : Int) (hd : a_lk (mC k) pc = some (.lookupswitch dflt ps, len)) (hb : a = b) (h : -2147483648 ≤ b ∧ b ≤ 2147483647) (hp : (ps.toList.zip (ps.toList.drop 1)).all (fun (a, next) => a.1 < next.1) = true) (ho : Op.lookupswitch.offset ps.toList dflt b = off) (ht : (pc : Int) + off = (t : Int)) (K : Wp sc d k t ls r w nc ns Z) : Wp sc d k pc ls (vi a :: r) w nc ns Z := by
  subst hb
  have e : (Int32.ofInt a).toInt = a := Int32.toInt_ofInt_of_le (by omega) (by omega)
  exact q_lsw hd hp (by rw [e]; exact ho) ht K
theorem v_gi {x a ci m : Nat} {z v : Int} {fl : List (Option Nat)} (hd : a_lk (mC k) pc = some (.getfield x, len)) (hk : a_lk (kF (mK k)) x = some (ci, m)) (hc : ck P Q N T a = .inr (ci, fl)) (ha : a < 68) (hm : fl[m]? = some none) (hz : (m : Int) = z) (hv : c a z = v) (K : Wp sc d k (pc + 3) ls (vi v :: r) (Wd P Q N T c) nc ns Z) : Wp sc d k pc ls (.ref a :: r) (Wd P Q N T c) nc ns Z := q_get hd hk (fs := fe c a 0 fl) (by rw [wd_get ha, hc]; rfl) (fe_none hm) (by rw [Nat.zero_add, hz, hv]; exact K)
theorem v_gr {x a ci m t : Nat} {fl : List (Option Nat)} (hd : a_lk (mC k) pc = some (.getfield x, len)) (hk : a_lk (kF (mK k)) x = some (ci, m)) (hc : ck P Q N T a = .inr (ci, fl)) (ha : a < 68) (hm : fl[m]? = some (some t)) (K : Wp sc d k (pc + 3) ls (.ref t :: r) (Wd P Q N T c) nc ns Z) : Wp sc d k pc ls (.ref a :: r) (Wd P Q N T c) nc ns Z := q_get hd hk (fs := fe c a 0 fl) (by rw [wd_get ha, hc]; rfl) (fe_some hm) K
theorem v_pi {x a ci m : Nat} {z v : Int} {fl : List (Option Nat)} (hd : a_lk (mC k) pc = some (.putfield x, len)) (hk : a_lk (kF (mK k)) x = some (ci, m)) (hc : ck P Q N T a = .inr (ci, fl)) (ha : a < 68) (hm : fl[m]? = some none) (hz : (m : Int) = z) (hf : YF ci m = .int) (hq : (TF ci m).2.2.2 = false ∨ (mD k = 2 ∧ mK k = ci)) (K : Wp sc d k (pc + 3) ls r (Wd P Q N T (up c a z v)) nc ns Z) : Wp sc d k pc ls (vi v :: .ref a :: r) (Wd P Q N T c) nc ns Z := by
  subst hz
  have hl : m < fl.length := (List.getElem?_eq_some_iff.mp hm).1
  refine q_putv (fs := fe c a 0 fl) (w9 := Wd P Q N T (up c a m v)) hd hk (by rw [wd_get ha, hc]; rfl) (by rw [fe_len]; exact hl) (by rw [hf]; rfl) hq ?_ K
  refine wd_up ha ?_
  rw [hc, fe_set hm, Nat.zero_add]
  rfl
theorem v_ia {a n : Nat} {j v : Int} (hd : a_lk (mC k) pc = some (.iaload, len)) (hc : ck P Q N T a = .inl (0, n)) (ha : a < 68) (hn : n ≤ 10000) (h : 0 ≤ j ∧ j < n) (hv : c a j = v) (K : Wp sc d k (pc + 1) ls (vi v :: r) (Wd P Q N T c) nc ns Z) : Wp sc d k pc ls (vi j :: .ref a :: r) (Wd P Q N T c) nc ns Z := by
  have hj : ((j.toNat : Nat) : Int) = j := Int.toNat_of_nonneg h.1
  refine q_ialoadv hd (c_nn ⟨h.1, by omega⟩) (by show ¬ a = 999999; omega) (l := ar n (c a)) (by rw [wd_get ha, hc]; rfl) (c_nat ⟨h.1, by omega⟩) (ar_get (by omega)) ?_
  rw [hj, hv]
  exact K
theorem v_ba {a n : Nat} {j v : Int} (hd : a_lk (mC k) pc = some (.baload, len)) (hc : ck P Q N T a = .inl (1, n)) (ha : a < 68) (hn : n ≤ 10000) (h : 0 ≤ j ∧ j < n) (hv : c a j = v) (K : Wp sc d k (pc + 1) ls (vi v :: r) (Wd P Q N T c) nc ns Z) : Wp sc d k pc ls (vi j :: .ref a :: r) (Wd P Q N T c) nc ns Z := by
  have hj : ((j.toNat : Nat) : Int) = j := Int.toNat_of_nonneg h.1
  refine q_baloadv hd (c_nn ⟨h.1, by omega⟩) (by show ¬ a = 999999; omega) (l := ar n (c a)) (by rw [wd_get ha, hc]; rfl) (c_nat ⟨h.1, by omega⟩) (ar_get (by omega)) ?_
  rw [hj, hv]
  exact K
theorem v_la {a n : Nat} {j v : Int} (hd : a_lk (mC k) pc = some (.laload, len)) (hc : ck P Q N T a = .inl (2, n)) (ha : a < 68) (hn : n ≤ 10000) (h : 0 ≤ j ∧ j < n) (hv : c a j = v) (K : Wp sc d k (pc + 1) ls (vl v :: r) (Wd P Q N T c) nc ns Z) : Wp sc d k pc ls (vi j :: .ref a :: r) (Wd P Q N T c) nc ns Z := by
  have hj : ((j.toNat : Nat) : Int) = j := Int.toNat_of_nonneg h.1
  refine q_laloadv hd (c_nn ⟨h.1, by omega⟩) (l := al n (c a)) (by rw [wd_get ha, hc]; rfl) (c_nat ⟨h.1, by omega⟩) (al_get (by omega)) ?_
  rw [hj, hv]
  exact K
theorem v_is {a n : Nat} {j v : Int} (hd : a_lk (mC k) pc = some (.iastore, len)) (hc : ck P Q N T a = .inl (0, n)) (ha : a < 68) (hn : n ≤ 10000) (h : 0 ≤ j ∧ j < n) (K : Wp sc d k (pc + 1) ls r (Wd P Q N T (up c a j v)) nc ns Z) : Wp sc d k pc ls (vi v :: vi j :: .ref a :: r) (Wd P Q N T c) nc ns Z := by
  have hj : ((j.toNat : Nat) : Int) = j := Int.toNat_of_nonneg h.1
  refine q_iastorev hd (c_nn ⟨h.1, by omega⟩) (l := ar n (c a)) (w9 := Wd P Q N T (up c a j v)) (by rw [wd_get ha, hc]; rfl) (c_nat ⟨h.1, by omega⟩) (by rw [ar_len]; omega) ?_ K
  refine wd_up ha ?_
  rw [hc, ar_set, hj, show ce (up c a j v) a (.inl (0, n)) = .inl (0, .inl (ar n (up c a j v a))) from rfl, up_self]
theorem v_bs {a n : Nat} {j v : Int} (hd : a_lk (mC k) pc = some (.bastore, len)) (hc : ck P Q N T a = .inl (1, n)) (ha : a < 68) (hn : n ≤ 10000) (h : 0 ≤ j ∧ j < n) (K : Wp sc d k (pc + 1) ls r (Wd P Q N T (up c a j (sb v))) nc ns Z) : Wp sc d k pc ls (vi v :: vi j :: .ref a :: r) (Wd P Q N T c) nc ns Z := by
  have hj : ((j.toNat : Nat) : Int) = j := Int.toNat_of_nonneg h.1
  refine q_bastorev hd (c_nn ⟨h.1, by omega⟩) (l := ar n (c a)) (w9 := Wd P Q N T (up c a j (sb v))) (by rw [wd_get ha, hc]; rfl) (c_nat ⟨h.1, by omega⟩) (by rw [ar_len]; omega) ?_ K
  refine wd_up ha ?_
  rw [hc, sb_of, ar_set, hj, show ce (up c a j (sb v)) a (.inl (1, n)) = .inl (1, .inl (ar n (up c a j (sb v) a))) from rfl, up_self]
theorem v_ls {a n : Nat} {j v : Int} (hd : a_lk (mC k) pc = some (.lastore, len)) (hc : ck P Q N T a = .inl (2, n)) (ha : a < 68) (hn : n ≤ 10000) (h : 0 ≤ j ∧ j < n) (K : Wp sc d k (pc + 1) ls r (Wd P Q N T (up c a j v)) nc ns Z) : Wp sc d k pc ls (vl v :: vi j :: .ref a :: r) (Wd P Q N T c) nc ns Z := by
  have hj : ((j.toNat : Nat) : Int) = j := Int.toNat_of_nonneg h.1
  refine q_lastorev hd (c_nn ⟨h.1, by omega⟩) (l := al n (c a)) (w9 := Wd P Q N T (up c a j v)) (by rw [wd_get ha, hc]; rfl) (c_nat ⟨h.1, by omega⟩) (by rw [al_len]; omega) ?_ K
  refine wd_up ha ?_
  rw [hc, al_set, hj, show ce (up c a j v) a (.inl (2, n)) = .inl (2, .inr (al n (up c a j v a))) from rfl, up_self]
theorem v_al {a n t : Nat} (hd : a_lk (mC k) pc = some (.arraylength, len)) (hc : ck P Q N T a = .inl (t, n)) (ha : a < 68) (ht : t < 2) (K : Wp sc d k (pc + 1) ls (vi (n : Int) :: r) (Wd P Q N T c) nc ns Z) : Wp sc d k pc ls (.ref a :: r) (Wd P Q N T c) nc ns Z := by
  refine q_alen hd (l := ar n (c a)) (by show ¬ a = 999999; omega) (by rw [wd_get ha, hc]; show some (if t = 2 then _ else _) = _; rw [if_neg (by omega)]) ht (v := Int32.ofInt n) ?_ K
  rw [ar_len]
  exact Int32.ofInt_eq_ofNat.symm
theorem v_script {xs : Nat → Int32} {L j : Nat} {z : Int} (hd : a_lk (mC k) pc = some (.iaload, len)) (hz : z = (j : Int)) (hj : j < L) (hL : L ≤ 100000) (K : Wp (a_scr L xs) d k (pc + 1) ls (vi (xs j).toInt :: r) (Wd P Q N T c) nc ns Z) : Wp (a_scr L xs) d k pc ls (vi z :: .ref a_SC :: r) (Wd P Q N T c) nc ns Z := by
  subst hz
  rw [show vi (xs j).toInt = .int (xs j) from congrArg Value.int (Int32.ofInt_toInt _)] at K
  refine q_script hd (c_nn ⟨by omega, by omega⟩) ?_ K
  rw [c_nat ⟨by omega, by omega⟩, Int.toNat_natCast]
  unfold a_scr
  rw [List.getElem?_map, List.getElem?_range hj]
  rfl
/-- a call of an object's method -/
theorem v_cv {x j a ci len : Nat} {st rest : List Value} {fl : List (Option Nat)} (hd : a_lk (mC k) pc = some (.invokevirtual x, len)) (hk : a_lk (kM (mK k)) x = some (0, j)) (hst : st.drop (mV j) = .ref a :: rest) (hc : ck P Q N T a = .inr (ci, fl)) (ha : a < 68) (hj : (ci = mK j ∧ mD j = 0) ∧ (j + 1 < mN ∧ mH j = [])) (hs : a_cat rest ≤ 8) (hx : a_cat (.ref a :: (st.take (mV j)).reverse) ≤ mX j)
    (C : Wp sc d j 0 (lv_args 0 (.ref a :: (st.take (mV j)).reverse)) [] (Wd P Q N T c) 0 0 (Bk sc d k pc j ls rest nc ns Z)) : Wp sc (d + 1) k pc ls st (Wd P Q N T c) nc ns Z := by
  refine q_call hd (j := j) (ags := .ref a :: (st.take (mV j)).reverse) (rest := rest) ?_ rfl ?_ C
  · show a_inv (d + 1) k x pc ls st _ = none
    unfold a_inv
    rw [hk]
  · show (match a_lk (kM (mK k)) x with | some (0, j) => a_cv 0 j st _ | _ => none) = _
    rw [hk]
    show a_cv 0 j st _ = _
    unfold a_cv
    rw [hst]
    dsimp only
    rw [wd_get ha, hc]
    show (if _ then _ else none) = _
    rw [if_pos ⟨hj.1, hj.2.1, hj.2.2, hs, hx⟩]
theorem v_new {w : AW} {x v : Nat} (hd : a_lk (mC k) pc = some (.new x, len)) (hk : a_lk (kX (mK k)) x = some v) (hv : v = 100 ∨ v = 101) (h6 : 6 ≤ d) (hs : a_cat st ≤ 8) (ht : a_thr k pc v = true) (hh : mH k = []) (K : Z (.inr v, w, nc + 1, ns + 6)) : Wp sc d k pc ls st w nc ns Z := by
  have hn : ¬ v < 9 := by omega
  refine q_fin hd (i := .new x) (oo := .inr v) (a := 1) (b := 6) ?_ ?_ K
  · show a_new k x pc ls st w = none
    unfold a_new
    rw [hk]
    exact if_neg (fun q => hn q.1)
  · show a_thx d k x pc st = some (.inr v, 1, 6)
    unfold a_thx
    rw [hk]
    exact if_pos ⟨hv, h6, hs, ht, hh⟩
theorem v_zret {w : AW} {a : Int} (hd : a_lk (mC k) pc = some (.ireturn, len)) (hR : mR k = some .boolean) (h : a = 0 ∨ a = 1) (K : Z (.inl (some (vi a)), w, nc, ns)) : Wp sc d k pc ls [vi a] w nc ns Z := q_zret hd hR (h.elim (fun e => Or.inl (by rw [e]; rfl)) (fun e => Or.inr (by rw [e]; rfl))) K
theorem v_max_l {w : AW} {x j : Nat} {a b : Int} (hd : a_lk (mC k) pc = some (.invokestatic x, len)) (hk : a_lk (kM (mK k)) x = some (3, j)) (h1 : 1 ≤ d) (hc : a_cat r ≤ 8) (h : -2147483648 ≤ a ∧ a < b ∧ b ≤ 2147483647) (K : Wp sc d k (pc + 3) ls (vi b :: r) w nc ns Z) : Wp sc d k pc ls (vi b :: vi a :: r) w nc ns Z := q_mmax hd hk ⟨h1, hc⟩ (if_pos (c_lt h)) K
theorem v_max_g {w : AW} {x j : Nat} {a b : Int} (hd : a_lk (mC k) pc = some (.invokestatic x, len)) (hk : a_lk (kM (mK k)) x = some (3, j)) (h1 : 1 ≤ d) (hc : a_cat r ≤ 8) (h : -2147483648 ≤ b ∧ b ≤ a ∧ a ≤ 2147483647) (K : Wp sc d k (pc + 3) ls (vi a :: r) w nc ns Z) : Wp sc d k pc ls (vi b :: vi a :: r) w nc ns Z := q_mmax hd hk ⟨h1, hc⟩ (if_neg (c_nlt h)) K
theorem v_min_l {w : AW} {x j : Nat} {a b : Int} (hd : a_lk (mC k) pc = some (.invokestatic x, len)) (hk : a_lk (kM (mK k)) x = some (4, j)) (h1 : 1 ≤ d) (hc : a_cat r ≤ 8) (h : -2147483648 ≤ a ∧ a < b ∧ b ≤ 2147483647) (K : Wp sc d k (pc + 3) ls (vi a :: r) w nc ns Z) : Wp sc d k pc ls (vi b :: vi a :: r) w nc ns Z := q_mmin hd hk ⟨h1, hc⟩ (if_neg (c_nlt ⟨h.1, Int.le_of_lt h.2.1, h.2.2⟩)) K
theorem v_min_g {w : AW} {x j : Nat} {a b : Int} (hd : a_lk (mC k) pc = some (.invokestatic x, len)) (hk : a_lk (kM (mK k)) x = some (4, j)) (h1 : 1 ≤ d) (hc : a_cat r ≤ 8) (h : -2147483648 ≤ b ∧ b ≤ a ∧ a ≤ 2147483647) (K : Wp sc d k (pc + 3) ls (vi b :: r) w nc ns Z) : Wp sc d k pc ls (vi b :: vi a :: r) w nc ns Z := by
  refine q_mmin hd hk ⟨h1, hc⟩ ?_ K
  by_cases e : b = a
  · subst e
    exact ite_self _
  · exact if_pos (c_lt ⟨h.1, by omega, h.2.2⟩)
theorem v_abs_p {w : AW} {x j : Nat} {a v : Int} (hd : a_lk (mC k) pc = some (.invokestatic x, len)) (hk : a_lk (kM (mK k)) x = some (5, j)) (h1 : 1 ≤ d) (hc : a_cat r ≤ 8) (h : 0 ≤ a ∧ a ≤ 2147483647) (hv : a = v) (K : Wp sc d k (pc + 3) ls (vi v :: r) w nc ns Z) : Wp sc d k pc ls (vi a :: r) w nc ns Z := by
  subst hv
  exact q_mabs hd hk ⟨h1, hc⟩ (if_pos (c_nn h)) K
theorem v_abs_n {w : AW} {x j : Nat} {a v : Int} (hd : a_lk (mC k) pc = some (.invokestatic x, len)) (hk : a_lk (kM (mK k)) x = some (5, j)) (h1 : 1 ≤ d) (hc : a_cat r ≤ 8) (h : -2147483648 ≤ a ∧ a < 0) (hv : -a = v) (K : Wp sc d k (pc + 3) ls (vi v :: r) w nc ns Z) : Wp sc d k pc ls (vi a :: r) w nc ns Z := by
  subst hv
  refine q_mabs hd hk ⟨h1, hc⟩ (z := Int32.ofInt (-a)) ?_ K
  rw [if_neg (show ¬ (0 : Int32) ≤ Int32.ofInt a from c_nle (a := 0) (b := a) ⟨h.1, h.2, by omega⟩), Int32.ofInt_neg, Int32.zero_sub]
theorem v_cpy {x j a a0 n0 n1 : Nat} {sp dp n : Int} (hd : a_lk (mC k) pc = some (.invokestatic x, len)) (hk : a_lk (kM (mK k)) x = some (6, j)) (hc : ck P Q N T a = .inl (0, n1)) (ha : a < 68) (hc0 : ck P Q N T a0 = .inl (0, n0)) (ha0 : a0 < 68) (e1 : n1 = n1) (e0 : n0 = n0) (h1 : 1 ≤ d) (hs : a_cat r ≤ 8) (h : (0 ≤ n ∧ 0 ≤ sp ∧ 0 ≤ dp) ∧ (sp + n ≤ n0 ∧ dp + n ≤ n1) ∧ (n0 : Int) ≤ 100000 ∧ (n1 : Int) ≤ 100000)
    (K : Wp sc d k (pc + 3) ls r (Wd P Q N T (upc c a0 sp a dp n)) nc ns Z) : Wp sc d k pc ls (vi n :: vi dp :: .ref a :: vi sp :: .ref a0 :: r) (Wd P Q N T c) nc ns Z := by
  have en := c_nat (a := n) ⟨by omega, by omega⟩
  have es := c_nat (a := sp) ⟨by omega, by omega⟩
  have ed := c_nat (a := dp) ⟨by omega, by omega⟩
  have in_ := Int.toNat_of_nonneg h.1.1
  have is_ := Int.toNat_of_nonneg h.1.2.1
  have id_ := Int.toNat_of_nonneg h.1.2.2
  refine q_ins hd (pc' := pc + 3) (ls' := ls) (st' := r) (w' := Wd P Q N T (upc c a0 sp a dp n)) (a := 0) (b := 0) ?_ K
  show a_ins d k x pc ls _ _ = _
  unfold a_ins
  rw [hk]
  show a_cpy d pc ls _ _ = _
  unfold a_cpy
  dsimp only
  rw [if_pos ⟨⟨h1, hs⟩, c_nn ⟨by omega, by omega⟩, c_nn ⟨by omega, by omega⟩, c_nn ⟨by omega, by omega⟩⟩]
  rw [wd_get ha, wd_get ha0, hc, hc0]
  show (if _ then a_nx _ _ _ ((Wd P Q N T c).set a (.inl (0, .inl (a_cpl (ar n0 (c a0)) (ar n1 (c a)) _ _ _)))) else none) = _
  rw [en, es, ed]
  rw [if_pos ⟨⟨rfl, rfl⟩, by rw [ar_len]; omega, by rw [ar_len]; omega⟩]
  rw [ar_cpl (by omega) (by omega), wd_set (P' := P) (Q' := Q) (N' := N) (T' := T) (c' := upc c a0 sp a dp n) ha ?_ (fun b hb => ce_ext (fun j _ => (upc_c hb).symm))]
  · rfl
  · rw [hc]
    show _ = AEi (upc c a0 sp a dp n) a n1
    unfold AEi upc
    rw [if_pos rfl, in_, is_, id_]
theorem sln_at {w : AW} {a i : Nat} (h6 : 6 ≤ d) (hs : a_cat r ≤ 8) (h1 : a_SB ≤ a) (h2 : a - a_SB = i) (hi : i < sN) : a_sln d pc ls (.ref a :: r) w = some (pc + 3, ls, .int (Int32.ofNat (sB i).length) :: r, w, 0, 0) := by
  unfold a_sln
  dsimp only
  rw [h2, if_pos ⟨⟨h6, hs⟩, h1, hi⟩]
  exact rfl
theorem sB_at {b i : Nat} {m z : Int32} (h2 : b = i) (hz : (sB i)[m.toNatClampNeg]? = some z) : (sB b)[m.toNatClampNeg]? = some z := by
  subst h2
  exact hz
theorem sch_at {w : AW} {a : Nat} {m z : Int32} (hc : (6 ≤ d ∧ a_cat r ≤ 8) ∧ ((a_SB ≤ a ∧ a - a_SB < sN) ∧ 0 ≤ m)) (hz : (sB (a - a_SB))[m.toNatClampNeg]? = some z) (hst : st = .int m :: .ref a :: r) : a_sch d pc ls st w = some (pc + 3, ls, .int z :: r, w, 0, 0) := by
  unfold a_sch
  split
  · rename_i i9 a9 r9
    cases hst
    rw [if_pos hc]
    split
    · rename_i x hx
      cases hx.symm.trans hz
      exact rfl
    · rename_i hx
      cases hx.symm.trans hz
  · rename_i hx
    exact (hx _ _ _ hst).elim
theorem v_sln {w : AW} {x j i : Nat} (n : Nat) (hd : a_lk (mC k) pc = some (.invokevirtual x, len)) (hk : a_lk (kM (mK k)) x = some (7, j)) (h6 : 6 ≤ d) (hs : a_cat r ≤ 8) (hi : i < sN) (hn : (sB i).length = n) (K : Wp sc d k (pc + 3) ls (vi (n : Int) :: r) w nc ns Z) : Wp sc d k pc ls (.ref (a_SB + i) :: r) w nc ns Z := by
  subst hn
  rw [show vi ((sB i).length : Int) = .int (Int32.ofNat (sB i).length) from congrArg Value.int Int32.ofInt_eq_ofNat] at K
  refine q_ins hd (a := 0) (b := 0) ?_ K
  show a_inv d k x pc ls _ _ = _
  unfold a_inv
  rw [hk]
  exact sln_at h6 hs (Nat.le_add_right _ _) (Nat.add_sub_cancel_left _ _) hi
theorem v_sch {w : AW} {x j i : Nat} {m : Int} (z : Int) (hd : a_lk (mC k) pc = some (.invokevirtual x, len)) (hk : a_lk (kM (mK k)) x = some (8, j)) (h6 : 6 ≤ d) (hs : a_cat r ≤ 8) (hi : i < sN) (hm : 0 ≤ m ∧ m ≤ 2147483647) (hz : (sB i)[m.toNat]? = some (Int32.ofInt z)) (K : Wp sc d k (pc + 3) ls (vi z :: r) w nc ns Z) : Wp sc d k pc ls (vi m :: .ref (a_SB + i) :: r) w nc ns Z := by
  refine q_ins hd (a := 0) (b := 0) ?_ K
  show a_inv d k x pc ls _ _ = _
  unfold a_inv
  rw [hk]
  have e := Nat.add_sub_cancel_left a_SB i
  exact sch_at ⟨⟨h6, hs⟩, ⟨Nat.le_add_right _ _, Nat.lt_of_le_of_lt (Nat.le_of_eq e) hi⟩, c_nn hm⟩ (sB_at e (by rw [c_nat hm]; exact hz)) rfl
theorem v_lsw_o {w : AW} {dflt : Int} {ps : Array (Int × Int)} {t : Nat} {a : Int} (hd : a_lk (mC k) pc = some (.lookupswitch dflt ps, len)) (h : -2147483648 ≤ a ∧ a ≤ 2147483647) (hp : (ps.toList.zip (ps.toList.drop 1)).all (fun (a, next) => a.1 < next.1) = true) (ho : Op.lookupswitch.offset ps.toList dflt a = dflt) (ht : (pc : Int) + dflt = (t : Int)) (K : Wp sc d k t ls r w nc ns Z) : Wp sc d k pc ls (vi a :: r) w nc ns Z :=
  q_lsw hd hp (by rw [Int32.toInt_ofInt_of_le (by omega) (by omega)]; exact ho) ht K
end FL
section PL
variable {A P Q N T : Nat}
theorem ck_p0 (h : A = 13 ∨ A = 25) : ck P Q N T A = .inr (2, [none, none, none, none, none, none, some (A + 1), some (A + 2), some (A + 3), some (A + 4), some (A + 5), some (A + 6), some (A + 7)]) := by rcases h with rfl | rfl <;> rfl
theorem ck_p1 (h : A = 13 ∨ A = 25) : ck P Q N T (A + 1) = .inl (0, 24) := by rcases h with rfl | rfl <;> rfl
theorem ck_p2 (h : A = 13 ∨ A = 25) : ck P Q N T (A + 2) = .inl (0, 12) := by rcases h with rfl | rfl <;> rfl
theorem ck_p3 (h : A = 13 ∨ A = 25) : ck P Q N T (A + 3) = .inl (0, 4) := by rcases h with rfl | rfl <;> rfl
theorem ck_p4 (h : A = 13 ∨ A = 25) : ck P Q N T (A + 4) = .inl (0, 8) := by rcases h with rfl | rfl <;> rfl
theorem ck_p5 (h : A = 13 ∨ A = 25) : ck P Q N T (A + 5) = .inl (0, 8) := by rcases h with rfl | rfl <;> rfl
theorem ck_p6 (h : A = 13 ∨ A = 25) : ck P Q N T (A + 6) = .inl (0, 4) := by rcases h with rfl | rfl <;> rfl
theorem ck_p7 (h : A = 13 ∨ A = 25) : ck P Q N T (A + 7) = .inr (0, [some (A + 8), some (A + 9), some (A + 10), some (A + 11), none, none]) := by rcases h with rfl | rfl <;> rfl
theorem ck_p8 (h : A = 13 ∨ A = 25) : ck P Q N T (A + 8) = .inl (0, 150) := by rcases h with rfl | rfl <;> rfl
theorem ck_p9 (h : A = 13 ∨ A = 25) : ck P Q N T (A + 9) = .inl (0, 150) := by rcases h with rfl | rfl <;> rfl
theorem ck_p10 (h : A = 13 ∨ A = 25) : ck P Q N T (A + 10) = .inl (0, 150) := by rcases h with rfl | rfl <;> rfl
theorem ck_p11 (h : A = 13 ∨ A = 25) : ck P Q N T (A + 11) = .inl (0, 8) := by rcases h with rfl | rfl <;> rfl
end PL
theorem zv {Z : AR → Prop} {a b : Int} {w : AW} {n m : Nat} (h : a = b) (K : Z (.inl (some (vi b)), w, n, m)) : Z (.inl (some (vi a)), w, n, m) := h ▸ K
theorem zl {Z : AR → Prop} {a b : Int} {w : AW} {n m : Nat} (h : a = b) (K : Z (.inl (some (vl b)), w, n, m)) : Z (.inl (some (vl a)), w, n, m) := h ▸ K
theorem zw {Z : AR → Prop} {P Q N T : Nat} {c c2 : ME} {v : Option Value ⊕ Nat} {n m : Nat} (h : c = c2) (K : Z (v, Wd P Q N T c2, n, m)) : Z (v, Wd P Q N T c, n, m) := h ▸ K
end
section
/-! ===== fit, on both sides ===== -/
def fw (n k : Nat) : Nat → Nat
  | 0 => 1
  | i + 1 => fw n k i * (n - k + (i + 1)) / (i + 1)
/-- so many terms from h on -/
def fa (n q : Nat) : Nat → Nat → Int
  | 0, _ => 0
  | m + 1, h => (fw n h h : Int) * (q : Int) ^ h * (16 - (q : Int)) ^ (n - h) + fa n q m (h + 1)
def fh : Nat → Int → Int → Int × Int
  | 0, a, b => (a, b)
  | f + 1, a, b => if a % 2 = 0 ∧ b % 2 = 0 then fh f (a / 2) (b / 2) else (a, b)
def fcls (n k q half : Nat) : Int :=
  let a := fa n q (n + 1 - k) k
  let r := fh 48 a (if a = 0 then 1 else 16 ^ n)
  if half = 0 then r.1 else r.2
def fst_ (q : Nat) (p : Nat) : List Nat → List Nat
  | [] => []
  | x :: r => (x * (16 - q) + p * q) :: fst_ q x r
def frl (q : Nat) : Nat → List Nat
  | 0 => 1 :: List.replicate 13 0
  | i + 1 => fst_ q 0 (frl q i)
def fsum : List Nat → Nat
  | [] => 0
  | x :: r => x + fsum r
def fref (n k q half : Nat) : Int :=
  let u := fsum ((frl q n).drop k)
  let b := 16 ^ n
  (((if half = 0 then u else b) / Nat.gcd u b : Nat) : Int)
def fchk : Bool := (List.range 13).all fun n => (List.range 17).all fun q =>
  let l := frl q n
  (List.range 14).all fun k =>
    let u := fsum (l.drop k)
    let b := 16 ^ n
    let g := Nat.gcd u b
    let r := fh 48 (u : Int) (if u = 0 then 1 else (b : Int))
    Nat.ble u 1125899906842624 && (decide (fa n q (n + 1 - k) k = (u : Int)) && (decide (r.1 = ((u / g : Nat) : Int)) && decide (r.2 = ((b / g : Nat) : Int))))
set_option maxRecDepth 100000 in
theorem fchk_ok : fchk = true := by decide +kernel
def fwchk : Bool := (List.range 13).all fun n => (List.range (n + 1)).all fun h => (List.range (h + 1)).all fun i => Nat.ble (fw n h i) 100000
theorem fwchk_ok : fwchk = true := by decide +kernel
theorem fw_rng {n h i : Nat} (hn : n ≤ 12) (hh : h ≤ n) (hi : i ≤ h) : fw n h i ≤ 100000 := by
  have h1 := List.all_eq_true.mp fwchk_ok n (List.mem_range.mpr (by omega))
  have h2 := List.all_eq_true.mp h1 h (List.mem_range.mpr (by omega))
  exact Nat.le_of_ble_eq_true (List.all_eq_true.mp h2 i (List.mem_range.mpr (by omega)))
theorem f_all {n k q : Nat} (hn : n ≤ 12) (hk : k ≤ 13) (hq : q ≤ 16) : Nat.ble (fsum ((frl q n).drop k)) 1125899906842624 = true ∧ fa n q (n + 1 - k) k = (fsum ((frl q n).drop k) : Int) ∧ (fh 48 (fsum ((frl q n).drop k) : Int) (if fsum ((frl q n).drop k) = 0 then 1 else ((16 ^ n : Nat) : Int))).1 = ((fsum ((frl q n).drop k) / Nat.gcd (fsum ((frl q n).drop k)) (16 ^ n) : Nat) : Int) ∧ (fh 48 (fsum ((frl q n).drop k) : Int) (if fsum ((frl q n).drop k) = 0 then 1 else ((16 ^ n : Nat) : Int))).2 = ((16 ^ n / Nat.gcd (fsum ((frl q n).drop k)) (16 ^ n) : Nat) : Int) := by
  have h1 := List.all_eq_true.mp fchk_ok n (List.mem_range.mpr (by omega))
  have h2 := List.all_eq_true.mp h1 q (List.mem_range.mpr (by omega))
  have h3 := List.all_eq_true.mp h2 k (List.mem_range.mpr (by omega))
  simp only [Bool.and_eq_true, decide_eq_true_eq] at h3
  exact h3
theorem fa_rng {n k q : Nat} (hn : n ≤ 12) (hk : k ≤ 13) (hq : q ≤ 16) : 0 ≤ fa n q (n + 1 - k) k ∧ fa n q (n + 1 - k) k ≤ 1125899906842624 := by
  obtain ⟨h0, h1, -⟩ := f_all hn hk hq
  have := Nat.le_of_ble_eq_true h0
  rw [h1]
  omega
theorem fs_rng {n k q : Nat} (hn : n ≤ 12) (hk : k ≤ 13) (hq : q ≤ 16) : fsum ((frl q n).drop k) ≤ 1125899906842624 := Nat.le_of_ble_eq_true (f_all hn hk hq).1
theorem fp_rng {n : Nat} (hn : n ≤ 12) : (1 : Int) ≤ 16 ^ n ∧ (16 : Int) ^ n ≤ 281474976710656 := by
  match n, hn with
  | 0, _ => decide
  | 1, _ => decide
  | 2, _ => decide
  | 3, _ => decide
  | 4, _ => decide
  | 5, _ => decide
  | 6, _ => decide
  | 7, _ => decide
  | 8, _ => decide
  | 9, _ => decide
  | 10, _ => decide
  | 11, _ => decide
  | 12, _ => decide
  | n + 13, h => omega
theorem fh_out {f : Nat} {a b : Int} (h : f = 0 ∨ ¬ (a % 2 = 0 ∧ b % 2 = 0)) : fh f a b = (a, b) := by
  cases f with
  | zero => rfl
  | succ f => exact if_neg (h.resolve_left (by omega))
theorem fh_on {f g : Nat} {a b : Int} (hf : f = g + 1) (h : a % 2 = 0 ∧ b % 2 = 0) : fh f a b = fh g (a / 2) (b / 2) := by
  subst hf
  exact if_pos h
theorem fa_on {n q f g h : Nat} (hf : f = g + 1) : fa n q f h = (fw n h h : Int) * (q : Int) ^ h * (16 - (q : Int)) ^ (n - h) + fa n q g (h + 1) := by
  subst hf
  rfl
theorem f_eq {n k q half : Nat} (hn : n ≤ 12) (hk : k ≤ 13) (hq : q ≤ 16) : fcls n k q half = fref n k q half := by
  obtain ⟨-, h1, h2, h3⟩ := f_all hn hk hq
  unfold fcls fref
  rw [h1]
  have e : (if (fsum ((frl q n).drop k) : Int) = 0 then (1 : Int) else 16 ^ n) = (if fsum ((frl q n).drop k) = 0 then 1 else ((16 ^ n : Nat) : Int)) := by
    by_cases h : fsum ((frl q n).drop k) = 0
    · rw [if_pos h, if_pos (by omega)]
    · rw [if_neg h, if_neg (by omega), Int.natCast_pow]
      rfl
  dsimp only
  rw [e]
  by_cases hh : half = 0
  · rw [if_pos hh, if_pos hh, h2]
  · rw [if_neg hh, if_neg hh, h3]
end
section
/-! ===== fit: the runs ===== -/
set_option maxRecDepth 100000 in
set_option maxHeartbeats 4000000 in
theorem m_133_l {sc : List Int32} {d : Nat} {w : AW} {Z : AR → Prop} {b : Int} {e : Nat} (hb : 0 ≤ b ∧ b ≤ 16) (he : e ≤ 13) (K : Z (.inl (some (vl (b ^ e))), w, 0, 0)) : ∀ (n9 : Nat) (i : Nat) (p : Int) (h1 : i ≤ e) (hp : p = b ^ i) (_ : (e : Int) - (i : Int) < (n9 : Int)), Wp sc (d + 0) 133 5 [(0, vi b), (1, vi (e : Int)), (2, vl p), (4, vi (i : Int))] [] w 0 0 Z
  | 0, i, p, h1, hp, hn9 => by exfalso; omega
  | n9 + 1, i, p, h1, hp, hn9 => by
    refine q_iload rfl rfl ?_
    refine q_iload_n rfl rfl ?_
    by_cases h_1 : (i : Int) ≥ (e : Int)
    · refine v_ic_ge_t (t := 22) rfl (by decide) (by omega) ?_
      refine q_lload_n rfl rfl ?_
      refine q_lret rfl rfl ?_
      obtain rfl : i = e := by omega
      exact zl hp K
    · refine v_ic_ge_f (t := 22) rfl (by decide) (by omega) ?_
      refine q_lload_n rfl rfl ?_
      refine q_iload_n rfl rfl ?_
      refine v_i2l rfl (by omega) ?_
      refine v_lmul (v := (p * b)) rfl rfl ?_
      refine q_lstore_n rfl (by decide) ?_
      refine v_iinc (v := (i : Int) + 1) rfl rfl (by decide) (by omega) ?_
      refine q_goto (t := 5) rfl (by decide) ?_
      refine Wp_ls [(0, vi b), (1, vi (e : Int)), (2, vl (p * b)), (4, vi ((i : Int) + 1))] (lsub_cons rfl (lsub_cons rfl (lsub_cons rfl (lsub_cons rfl lsub_nil)))) ?_
      exact m_133_l (b := b) (e := e) hb he K n9 (i + 1) (p * b) (by omega) (by rw [hp]; exact (Int.pow_succ b i).symm) (by omega)

set_option maxRecDepth 100000 in
set_option maxHeartbeats 4000000 in
theorem m_133 {sc : List Int32} {d : Nat} {w : AW} {Z : AR → Prop} {b : Int} {x : Int} (e : Nat) (hb : 0 ≤ b ∧ b ≤ 16) (hx : x = (e : Int)) (he : e ≤ 13) (K : Z (.inl (some (vl (b ^ e))), w, 0, 0)) : Wp sc (d + 0) 133 0 [(0, vi b), (1, vi x)] [] w 0 0 Z := by
  subst hx
  refine v_lconst (z := 1) rfl (by decide) ?_
  refine q_lstore_n rfl (by decide) ?_
  refine q_iconst rfl ?_
  refine q_istore rfl (by decide) ?_
  refine Wp_ls [(0, vi b), (1, vi (e : Int)), (2, vl 1), (4, vi 0)] (lsub_cons rfl (lsub_cons rfl (lsub_cons rfl (lsub_cons rfl lsub_nil)))) ?_
  exact m_133_l (b := b) (e := e) hb he K 14 0 1 (by omega) (Int.pow_zero b).symm (by omega)

theorem fw_s {n k i : Nat} (hk : k ≤ n) : (fw n k i : Int) * ((i : Int) + (n : Int) - (k : Int) + 1) / ((i : Int) + 1) = (fw n k (i + 1) : Int) := by
  show _ = ((fw n k i * (n - k + (i + 1)) / (i + 1) : Nat) : Int)
  rw [Int.natCast_ediv, Int.natCast_mul]
  have e : ((n - k + (i + 1) : Nat) : Int) = (i : Int) + (n : Int) - (k : Int) + 1 := by omega
  rw [e]
  rfl
set_option maxRecDepth 100000 in
set_option maxHeartbeats 4000000 in
theorem m_132_l {sc : List Int32} {d : Nat} {w : AW} {Z : AR → Prop} {n : Nat} {k : Nat} (hk : k ≤ n) (hn : n ≤ 12) (K : Z (.inl (some (vl (fw n k k : Int))), w, 0, 0)) : ∀ (n9 : Nat) (i : Nat) (p : Int) (h1 : i ≤ k) (hp : p = (fw n k i : Int)) (hr : 0 ≤ p ∧ p ≤ 100000) (_ : (k : Int) - (i : Int) < (n9 : Int)), Wp sc (d + 0) 132 5 [(0, vi (n : Int)), (1, vi (k : Int)), (2, vl p), (4, vi ((i : Int) + 1))] [] w 0 0 Z
  | 0, i, p, h1, hp, hr, hn9 => by exfalso; omega
  | n9 + 1, i, p, h1, hp, hr, hn9 => by
    refine q_iload rfl rfl ?_
    refine q_iload_n rfl rfl ?_
    by_cases h_2 : (i : Int) + 1 > (k : Int)
    · refine v_ic_gt_t (t := 31) rfl (by decide) (by omega) ?_
      refine q_lload_n rfl rfl ?_
      refine q_lret rfl rfl ?_
      obtain rfl : i = k := by omega
      exact zl hp K
    · refine v_ic_gt_f (t := 31) rfl (by decide) (by omega) ?_
      refine q_lload_n rfl rfl ?_
      refine q_iload_n rfl rfl ?_
      refine q_iload_n rfl rfl ?_
      refine v_isub (v := (n : Int) - (k : Int)) rfl (by omega) ?_
      refine q_iload rfl rfl ?_
      refine v_iadd (v := (i : Int) + (n : Int) - (k : Int) + 1) rfl (by omega) ?_
      refine v_i2l rfl (by omega) ?_
      have hm : 0 ≤ p * ((i : Int) + (n : Int) - (k : Int) + 1) ∧ p * ((i : Int) + (n : Int) - (k : Int) + 1) ≤ 10000000 := ⟨Int.mul_nonneg hr.1 (by omega), Int.le_trans (Int.mul_le_mul hr.2 (show _ ≤ (100 : Int) by omega) (by omega) (by omega)) (by decide)⟩
      refine v_lmul (v := (p * ((i : Int) + (n : Int) - (k : Int) + 1))) rfl rfl ?_
      refine q_iload rfl rfl ?_
      refine v_i2l rfl (by omega) ?_
      refine v_ldiv (v := ((p * ((i : Int) + (n : Int) - (k : Int) + 1)) / ((i : Int) + 1))) rfl (by omega) rfl ?_
      refine q_lstore_n rfl (by decide) ?_
      refine v_iinc (v := (i : Int) + 2) rfl rfl (by decide) (by omega) ?_
      refine q_goto (t := 5) rfl (by decide) ?_
      refine Wp_ls [(0, vi (n : Int)), (1, vi (k : Int)), (2, vl ((p * ((i : Int) + (n : Int) - (k : Int) + 1)) / ((i : Int) + 1))), (4, vi ((i : Int) + 2))] (lsub_cons rfl (lsub_cons rfl (lsub_cons rfl (lsub_cons rfl lsub_nil)))) ?_
      exact m_132_l (n := n) (k := k) hk hn K n9 (i + 1) ((p * ((i : Int) + (n : Int) - (k : Int) + 1)) / ((i : Int) + 1)) (by omega) (by rw [hp]; exact fw_s hk) (by rw [hp, fw_s hk]; have := fw_rng (i := i + 1) hn hk (by omega); omega) (by omega)

set_option maxRecDepth 100000 in
set_option maxHeartbeats 4000000 in
theorem m_132 {sc : List Int32} {d : Nat} {w : AW} {Z : AR → Prop} {x : Int} {y : Int} (n : Nat) (k : Nat) (hx : x = (n : Int)) (hy : y = (k : Int)) (hk : k ≤ n) (hn : n ≤ 12) (K : Z (.inl (some (vl (fw n k k : Int))), w, 0, 0)) : Wp sc (d + 0) 132 0 [(0, vi x), (1, vi y)] [] w 0 0 Z := by
  subst hx
  subst hy
  refine v_lconst (z := 1) rfl (by decide) ?_
  refine q_lstore_n rfl (by decide) ?_
  refine q_iconst rfl ?_
  refine q_istore rfl (by decide) ?_
  refine Wp_ls [(0, vi (n : Int)), (1, vi (k : Int)), (2, vl 1), (4, vi 1)] (lsub_cons rfl (lsub_cons rfl (lsub_cons rfl (lsub_cons rfl lsub_nil)))) ?_
  exact m_132_l (n := n) (k := k) hk hn K 14 0 1 (by omega) rfl (by omega) (by omega)

set_option maxRecDepth 100000 in
set_option maxHeartbeats 4000000 in
theorem m_134_h {sc : List Int32} {d : Nat} {w : AW} {Z : AR → Prop} {half : Nat} {R : Int × Int} (hh : half ≤ 1) (K : Z (.inl (some (vl (if half = 0 then R.1 else R.2))), w, 0, 0)) : ∀ (n9 : Nat) (i : Nat) (A : Int) (B : Int) (h1 : i ≤ 48) (hA : 0 ≤ A ∧ A ≤ 1125899906842624) (hB : 0 ≤ B ∧ B ≤ 1125899906842624) (hf : fh (48 - i) A B = R) (_ : (48 : Int) - (i : Int) < (n9 : Int)), Wp sc (d + 0) 134 118 [(4, vi (half : Int)), (5, vl A), (7, vl B), (9, vi (i : Int))] [] w 0 0 Z
  | 0, i, A, B, h1, hA, hB, hf, hn9 => by exfalso; omega
  | n9 + 1, i, A, B, h1, hA, hB, hf, hn9 => by
    refine q_iload rfl rfl ?_
    refine v_bip rfl (by decide) ?_
    by_cases h_3 : (i : Int) ≥ 48
    · refine v_ic_ge_t (t := 169) rfl (by decide) (by omega) ?_
      have hR : R = (A, B) := hf.symm.trans (fh_out (by omega))
      refine q_iload rfl rfl ?_
      by_cases h_4 : (half : Int) ≠ 0
      · refine v_if_ne_t (t := 179) rfl (by decide) (by omega) ?_
        refine q_lload rfl rfl ?_
        refine q_lret rfl rfl ?_
        exact zl (by rw [hR, if_neg (by omega)]) K
      · refine v_if_ne_f (t := 179) rfl (by decide) (by omega) ?_
        refine q_lload rfl rfl ?_
        refine q_goto (t := 181) rfl (by decide) ?_
        refine q_lret rfl rfl ?_
        exact zl (by rw [hR, if_pos (by omega)]) K
    · refine v_ic_ge_f (t := 169) rfl (by decide) (by omega) ?_
      refine q_lload rfl rfl ?_
      refine v_ldc2 (n := 2) rfl rfl (by decide +kernel) ?_
      refine v_lrem (v := (A % 2)) rfl (by omega) rfl ?_
      refine v_lconst (z := 0) rfl (by decide) ?_
      by_cases h_5 : (A % 2) = 0
      · refine v_lcmp0 rfl (by omega) ?_
        refine v_if_ne_f (t := 169) rfl (by decide) (by omega) ?_
        refine q_lload rfl rfl ?_
        refine v_ldc2 (n := 2) rfl rfl (by decide +kernel) ?_
        refine v_lrem (v := (B % 2)) rfl (by omega) rfl ?_
        refine v_lconst (z := 0) rfl (by decide) ?_
        by_cases h_6 : (B % 2) = 0
        · refine v_lcmp0 rfl (by omega) ?_
          refine v_if_ne_f (t := 169) rfl (by decide) (by omega) ?_
          refine q_lload rfl rfl ?_
          refine v_ldc2 (n := 2) rfl rfl (by decide +kernel) ?_
          refine v_ldiv (v := (A / 2)) rfl (by omega) rfl ?_
          refine q_lstore rfl (by decide) ?_
          refine q_lload rfl rfl ?_
          refine v_ldc2 (n := 2) rfl rfl (by decide +kernel) ?_
          refine v_ldiv (v := (B / 2)) rfl (by omega) rfl ?_
          refine q_lstore rfl (by decide) ?_
          refine v_iinc (v := (i : Int) + 1) rfl rfl (by decide) (by omega) ?_
          refine q_goto (t := 118) rfl (by decide) ?_
          refine Wp_ls [(4, vi (half : Int)), (5, vl (A / 2)), (7, vl (B / 2)), (9, vi ((i : Int) + 1))] (lsub_cons rfl (lsub_cons rfl (lsub_cons rfl (lsub_cons rfl lsub_nil)))) ?_
          exact m_134_h (half := half) (R := R) hh K n9 (i + 1) (A / 2) (B / 2) (by omega) (by omega) (by omega) ((fh_on (by omega) (by omega)).symm.trans hf) (by omega)
        · refine v_lcmp1 rfl (by omega) ?_
          refine v_if_ne_t (t := 169) rfl (by decide) (by omega) ?_
          have hR : R = (A, B) := hf.symm.trans (fh_out (by omega))
          refine q_iload rfl rfl ?_
          by_cases h_7 : (half : Int) ≠ 0
          · refine v_if_ne_t (t := 179) rfl (by decide) (by omega) ?_
            refine q_lload rfl rfl ?_
            refine q_lret rfl rfl ?_
            exact zl (by rw [hR, if_neg (by omega)]) K
          · refine v_if_ne_f (t := 179) rfl (by decide) (by omega) ?_
            refine q_lload rfl rfl ?_
            refine q_goto (t := 181) rfl (by decide) ?_
            refine q_lret rfl rfl ?_
            exact zl (by rw [hR, if_pos (by omega)]) K
      · refine v_lcmp1 rfl (by omega) ?_
        refine v_if_ne_t (t := 169) rfl (by decide) (by omega) ?_
        have hR : R = (A, B) := hf.symm.trans (fh_out (by omega))
        refine q_iload rfl rfl ?_
        by_cases h_8 : (half : Int) ≠ 0
        · refine v_if_ne_t (t := 179) rfl (by decide) (by omega) ?_
          refine q_lload rfl rfl ?_
          refine q_lret rfl rfl ?_
          exact zl (by rw [hR, if_neg (by omega)]) K
        · refine v_if_ne_f (t := 179) rfl (by decide) (by omega) ?_
          refine q_lload rfl rfl ?_
          refine q_goto (t := 181) rfl (by decide) ?_
          refine q_lret rfl rfl ?_
          exact zl (by rw [hR, if_pos (by omega)]) K

set_option maxRecDepth 100000 in
set_option maxHeartbeats 4000000 in
theorem m_134_s {sc : List Int32} {d : Nat} {w : AW} {Z : AR → Prop} {n : Nat} {k : Nat} {q : Nat} {half : Nat} (hn : n ≤ 12) (hk : k ≤ 13) (hq : q ≤ 16) (hh : half ≤ 1) (K : Z (.inl (some (vl (fcls n k q half))), w, 0, 0)) : ∀ (n9 : Nat) (h : Nat) (acc : Int) (h1 : h ≤ n + 1 ∨ h = k) (h2 : h ≤ 13) (hs : acc + fa n q (n + 1 - h) h = fa n q (n + 1 - k) k) (_ : (14 : Int) - (h : Int) < (n9 : Int)), Wp sc (d + 1) 134 55 [(0, .ref 0), (1, vi (n : Int)), (2, vi (k : Int)), (3, vi (q : Int)), (4, vi (half : Int)), (5, vl acc), (7, vi (h : Int))] [] w 0 0 Z
  | 0, h, acc, h1, h2, hs, hn9 => by exfalso; omega
  | n9 + 1, h, acc, h1, h2, hs, hn9 => by
    refine q_iload rfl rfl ?_
    refine q_iload_n rfl rfl ?_
    by_cases h_9 : (h : Int) > (n : Int)
    · refine v_ic_gt_t (t := 97) rfl (by decide) (by omega) ?_
      have ha : acc = fa n q (n + 1 - k) k := by rw [show n + 1 - h = 0 by omega] at hs; rw [← hs]; exact (Int.add_zero acc).symm
      have hr := fa_rng hn hk hq
      rw [← ha] at hr
      have hp := fp_rng hn
      refine v_bip rfl (by decide) ?_
      refine q_iload_n rfl rfl ?_
      refine q_call rfl rfl rfl rfl (m_133 (b := 16) n (by omega) (by omega) (by omega) ?_)
      refine bk_inl ?_
      refine q_lstore rfl (by decide) ?_
      refine q_lload rfl rfl ?_
      refine v_lconst (z := 0) rfl (by decide) ?_
      by_cases h_10 : acc = 0
      · refine v_lcmp0 rfl (by omega) ?_
        refine v_if_ne_f (t := 115) rfl (by decide) (by omega) ?_
        refine v_lconst (z := 1) rfl (by decide) ?_
        refine q_lstore rfl (by decide) ?_
        refine q_iconst rfl ?_
        refine q_istore rfl (by decide) ?_
        refine Wp_ls [(4, vi (half : Int)), (5, vl acc), (7, vl 1), (9, vi 0)] (lsub_cons rfl (lsub_cons rfl (lsub_cons rfl (lsub_cons rfl lsub_nil)))) ?_
        exact m_134_h (half := half) (R := fh 48 acc 1) hh (show Z (.inl (some (vl (if half = 0 then (fh 48 acc 1).1 else (fh 48 acc 1).2))), w, 0, 0) from (by have K2 := K; unfold fcls at K2; rw [← ha] at K2; dsimp only at K2; rw [if_pos (show acc = 0 by omega)] at K2; exact K2)) 49 0 acc 1 (by omega) (by omega) (by omega) rfl (by omega)
      · refine v_lcmp1 rfl (by omega) ?_
        refine v_if_ne_t (t := 115) rfl (by decide) (by omega) ?_
        refine q_iconst rfl ?_
        refine q_istore rfl (by decide) ?_
        refine Wp_ls [(4, vi (half : Int)), (5, vl acc), (7, vl ((16 : Int) ^ n)), (9, vi 0)] (lsub_cons rfl (lsub_cons rfl (lsub_cons rfl (lsub_cons rfl lsub_nil)))) ?_
        exact m_134_h (half := half) (R := fh 48 acc ((16 : Int) ^ n)) hh (show Z (.inl (some (vl (if half = 0 then (fh 48 acc ((16 : Int) ^ n)).1 else (fh 48 acc ((16 : Int) ^ n)).2))), w, 0, 0) from (by have K2 := K; unfold fcls at K2; rw [← ha] at K2; dsimp only at K2; rw [if_neg (show ¬ acc = 0 by omega)] at K2; exact K2)) 49 0 acc ((16 : Int) ^ n) (by omega) (by omega) (by omega) rfl (by omega)
    · refine v_ic_gt_f (t := 97) rfl (by decide) (by omega) ?_
      refine q_lload rfl rfl ?_
      refine q_iload_n rfl rfl ?_
      refine q_iload rfl rfl ?_
      refine q_call rfl rfl rfl rfl (m_132 n h (by omega) (by omega) (by omega) (by omega) ?_)
      refine bk_inl ?_
      refine q_iload_n rfl rfl ?_
      refine q_iload rfl rfl ?_
      refine q_call rfl rfl rfl rfl (m_133 (b := (q : Int)) h (by omega) (by omega) (by omega) ?_)
      refine bk_inl ?_
      refine v_lmul (v := ((fw n h h : Int) * (((q : Int)) ^ h))) rfl rfl ?_
      refine v_bip rfl (by decide) ?_
      refine q_iload_n rfl rfl ?_
      refine v_isub (v := 16 - (q : Int)) rfl (by omega) ?_
      refine q_iload_n rfl rfl ?_
      refine q_iload rfl rfl ?_
      refine v_isub (v := (n : Int) - (h : Int)) rfl (by omega) ?_
      refine q_call rfl rfl rfl rfl (m_133 (b := (16 - (q : Int))) (n - h) (by omega) (by omega) (by omega) ?_)
      refine bk_inl ?_
      refine v_lmul (v := (((fw n h h : Int) * (((q : Int)) ^ h)) * ((16 - (q : Int)) ^ (n - h)))) rfl rfl ?_
      refine v_ladd (v := (((fw n h h : Int) * (((q : Int)) ^ h)) * ((16 - (q : Int)) ^ (n - h))) + acc) rfl (by omega) ?_
      refine q_lstore rfl (by decide) ?_
      refine v_iinc (v := (h : Int) + 1) rfl rfl (by decide) (by omega) ?_
      refine q_goto (t := 55) rfl (by decide) ?_
      refine Wp_ls [(0, .ref 0), (1, vi (n : Int)), (2, vi (k : Int)), (3, vi (q : Int)), (4, vi (half : Int)), (5, vl ((((fw n h h : Int) * (((q : Int)) ^ h)) * ((16 - (q : Int)) ^ (n - h))) + acc)), (7, vi ((h : Int) + 1))] (lsub_cons rfl (lsub_cons rfl (lsub_cons rfl (lsub_cons rfl (lsub_cons rfl (lsub_cons rfl (lsub_cons rfl lsub_nil))))))) ?_
      exact m_134_s (n := n) (k := k) (q := q) (half := half) hn hk hq hh K n9 (h + 1) ((((fw n h h : Int) * (((q : Int)) ^ h)) * ((16 - (q : Int)) ^ (n - h))) + acc) (by omega) (by omega) (by rw [← hs, fa_on (show n + 1 - h = (n + 1 - (h + 1)) + 1 by omega), Int.add_comm _ acc]; exact Int.add_assoc _ _ _) (by omega)

set_option maxRecDepth 100000 in
set_option maxHeartbeats 4000000 in
theorem m_134 {sc : List Int32} {d : Nat} {P Q N T : Nat} {Z : AR → Prop} {x1 : Int} {x2 : Int} {x3 : Int} {x4 : Int} (n : Nat) (k : Nat) (q : Nat) (half : Nat) (hx1 : x1 = (n : Int)) (hx2 : x2 = (k : Int)) (hx3 : x3 = (q : Int)) (hx4 : x4 = (half : Int)) (hn : n ≤ 12) (hk : k ≤ 13) (hq : q ≤ 16) (hh : half ≤ 1) (K : Z (.inl (some (vl (fcls n k q half))), Wd P Q N T c, 0, 0)) : Wp sc (d + 2) 134 0 [(0, .ref 0), (1, vi x1), (2, vi x2), (3, vi x3), (4, vi x4)] [] (Wd P Q N T c) 0 0 Z := by
  subst hx1 hx2 hx3 hx4
  refine q_aload_n rfl rfl ?_
  refine q_iload_n rfl rfl ?_
  refine q_iconst rfl ?_
  refine v_bip rfl (by decide) ?_
  refine q_call rfl rfl rfl rfl ?_
  refine q_iload_n rfl rfl ?_
  refine q_iload_n rfl rfl ?_
  refine v_ic_lt_f (t := 14) rfl (by decide) (by omega) ?_
  refine q_iload_n rfl rfl ?_
  refine q_iload_n rfl rfl ?_
  refine v_ic_gt_f (t := 14) rfl (by decide) (by omega) ?_
  refine q_iconst rfl ?_
  refine q_goto (t := 15) rfl (by decide) ?_
  refine v_zret rfl rfl (by omega) ?_
  refine bk_inl ?_
  refine v_if_eq_f (t := 45) rfl (by decide) (by omega) ?_
  refine q_iload_n rfl rfl ?_
  refine q_iconst rfl ?_
  refine v_bip rfl (by decide) ?_
  refine q_call rfl rfl rfl rfl ?_
  refine q_iload_n rfl rfl ?_
  refine q_iload_n rfl rfl ?_
  refine v_ic_lt_f (t := 14) rfl (by decide) (by omega) ?_
  refine q_iload_n rfl rfl ?_
  refine q_iload_n rfl rfl ?_
  refine v_ic_gt_f (t := 14) rfl (by decide) (by omega) ?_
  refine q_iconst rfl ?_
  refine q_goto (t := 15) rfl (by decide) ?_
  refine v_zret rfl rfl (by omega) ?_
  refine bk_inl ?_
  refine v_if_eq_f (t := 45) rfl (by decide) (by omega) ?_
  refine q_iload_n rfl rfl ?_
  refine q_iconst rfl ?_
  refine v_bip rfl (by decide) ?_
  refine q_call rfl rfl rfl rfl ?_
  refine q_iload_n rfl rfl ?_
  refine q_iload_n rfl rfl ?_
  refine v_ic_lt_f (t := 14) rfl (by decide) (by omega) ?_
  refine q_iload_n rfl rfl ?_
  refine q_iload_n rfl rfl ?_
  refine v_ic_gt_f (t := 14) rfl (by decide) (by omega) ?_
  refine q_iconst rfl ?_
  refine q_goto (t := 15) rfl (by decide) ?_
  refine v_zret rfl rfl (by omega) ?_
  refine bk_inl ?_
  refine v_if_eq_f (t := 45) rfl (by decide) (by omega) ?_
  refine q_iload rfl rfl ?_
  refine q_iconst rfl ?_
  refine q_iconst rfl ?_
  refine q_call rfl rfl rfl rfl ?_
  refine q_iload_n rfl rfl ?_
  refine q_iload_n rfl rfl ?_
  refine v_ic_lt_f (t := 14) rfl (by decide) (by omega) ?_
  refine q_iload_n rfl rfl ?_
  refine q_iload_n rfl rfl ?_
  refine v_ic_gt_f (t := 14) rfl (by decide) (by omega) ?_
  refine q_iconst rfl ?_
  refine q_goto (t := 15) rfl (by decide) ?_
  refine v_zret rfl rfl (by omega) ?_
  refine bk_inl ?_
  refine v_if_eq_f (t := 45) rfl (by decide) (by omega) ?_
  refine q_iconst rfl ?_
  refine q_goto (t := 46) rfl (by decide) ?_
  refine v_cv rfl rfl rfl rfl (by decide) ⟨⟨rfl, rfl⟩, by decide, rfl⟩ (by decide) (by decide) ?_
  refine q_iload_n rfl rfl ?_
  refine v_if_ne_t (t := 25) rfl (by decide) (by omega) ?_
  refine q_vret rfl rfl ?_
  refine bk_inl ?_
  refine v_lconst (z := 0) rfl (by decide) ?_
  refine q_lstore rfl (by decide) ?_
  refine q_iload_n rfl rfl ?_
  refine q_istore rfl (by decide) ?_
  refine Wp_ls [(0, .ref 0), (1, vi (n : Int)), (2, vi (k : Int)), (3, vi (q : Int)), (4, vi (half : Int)), (5, vl 0), (7, vi (k : Int))] (lsub_cons rfl (lsub_cons rfl (lsub_cons rfl (lsub_cons rfl (lsub_cons rfl (lsub_cons rfl (lsub_cons rfl lsub_nil))))))) ?_
  exact m_134_s (n := n) (k := k) (q := q) (half := half) hn hk hq hh K 15 k 0 (by omega) (by omega) (Int.zero_add _) (by omega)
end
