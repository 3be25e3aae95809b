-- ===== PART A: goes FIRST, ahead of the names: the tables' words, and 'selects' of the private methods out of them =====
/-- a private method of a class that the tables say can be made, by its rows of tables_1 -/
def lw_okq (q : MethodName × Nat) : Prop := (q.1.cls ≠ "java/lang/invoke/MethodHandle" ∧ q.1.cls ≠ "java/lang/invoke/VarHandle") ∧ Cond.instantiable q.1.cls q.2 ∈ tables_1 ∧ Cond.privateMethod q.1 ∈ tables_1 ∧ Cond.instanceMethod q.1 ∈ tables_1
theorem lw_p0 : lw_okq (⟨"Urnwright", "sumOfUrns", "(I)I"⟩, 8) := ⟨⟨by decide +kernel, by decide +kernel⟩, List.mem_of_getElem? (i := 35) (by decide +kernel), List.mem_of_getElem? (i := 145) (by decide +kernel), List.mem_of_getElem? (i := 146) (by decide +kernel)⟩
theorem lw_p1 : lw_okq (⟨"Urnwright$Urn", "countAll", "()I"⟩, 10) := ⟨⟨by decide +kernel, by decide +kernel⟩, List.mem_of_getElem? (i := 151) (by decide +kernel), List.mem_of_getElem? (i := 149) (by decide +kernel), List.mem_of_getElem? (i := 150) (by decide +kernel)⟩
theorem lw_p2 : lw_okq (⟨"Urnwright", "sumOfTilts", "()D"⟩, 8) := ⟨⟨by decide +kernel, by decide +kernel⟩, List.mem_of_getElem? (i := 35) (by decide +kernel), List.mem_of_getElem? (i := 157) (by decide +kernel), List.mem_of_getElem? (i := 158) (by decide +kernel)⟩
theorem lw_p3 : lw_okq (⟨"Urnwright$Urn", "lean", "()D"⟩, 10) := ⟨⟨by decide +kernel, by decide +kernel⟩, List.mem_of_getElem? (i := 151) (by decide +kernel), List.mem_of_getElem? (i := 161) (by decide +kernel), List.mem_of_getElem? (i := 162) (by decide +kernel)⟩
theorem lw_p4 : lw_okq (⟨"java/lang/Throwable", "fillInStackTrace", "(I)Ljava/lang/Throwable;"⟩, 6) := ⟨⟨by decide +kernel, by decide +kernel⟩, List.mem_of_getElem? (i := 208) (by decide +kernel), List.mem_of_getElem? (i := 206) (by decide +kernel), List.mem_of_getElem? (i := 207) (by decide +kernel)⟩
theorem lw_p5 : lw_okq (⟨"Urnwright", "digestOfUrn", "(JI)J"⟩, 8) := ⟨⟨by decide +kernel, by decide +kernel⟩, List.mem_of_getElem? (i := 35) (by decide +kernel), List.mem_of_getElem? (i := 238) (by decide +kernel), List.mem_of_getElem? (i := 239) (by decide +kernel)⟩
theorem lw_p6 : lw_okq (⟨"Urnwright", "urnOf", "(I)LUrnwright$Urn;"⟩, 8) := ⟨⟨by decide +kernel, by decide +kernel⟩, List.mem_of_getElem? (i := 35) (by decide +kernel), List.mem_of_getElem? (i := 246) (by decide +kernel), List.mem_of_getElem? (i := 247) (by decide +kernel)⟩
theorem lw_p7 : lw_okq (⟨"Urnwright$Urn", "mostSteps", "()I"⟩, 10) := ⟨⟨by decide +kernel, by decide +kernel⟩, List.mem_of_getElem? (i := 151) (by decide +kernel), List.mem_of_getElem? (i := 270) (by decide +kernel), List.mem_of_getElem? (i := 271) (by decide +kernel)⟩
theorem lw_p8 : lw_okq (⟨"Urnwright", "openGame", "(LUrnwright$Urn;I)V"⟩, 8) := ⟨⟨by decide +kernel, by decide +kernel⟩, List.mem_of_getElem? (i := 35) (by decide +kernel), List.mem_of_getElem? (i := 283) (by decide +kernel), List.mem_of_getElem? (i := 284) (by decide +kernel)⟩
theorem lw_p9 : lw_okq (⟨"Urnwright$Game", "open", "(LUrnwright$Urn;I)V"⟩, 9) := ⟨⟨by decide +kernel, by decide +kernel⟩, List.mem_of_getElem? (i := 47) (by decide +kernel), List.mem_of_getElem? (i := 288) (by decide +kernel), List.mem_of_getElem? (i := 289) (by decide +kernel)⟩
theorem lw_p10 : lw_okq (⟨"Urnwright$Game", "grow", "(LUrnwright$Urn;II)V"⟩, 9) := ⟨⟨by decide +kernel, by decide +kernel⟩, List.mem_of_getElem? (i := 47) (by decide +kernel), List.mem_of_getElem? (i := 304) (by decide +kernel), List.mem_of_getElem? (i := 305) (by decide +kernel)⟩
theorem lw_p11 : lw_okq (⟨"Urnwright$Game", "countAt", "(II)I"⟩, 9) := ⟨⟨by decide +kernel, by decide +kernel⟩, List.mem_of_getElem? (i := 47) (by decide +kernel), List.mem_of_getElem? (i := 314) (by decide +kernel), List.mem_of_getElem? (i := 315) (by decide +kernel)⟩
theorem lw_p12 : lw_okq (⟨"Urnwright$Urn", "addOf", "(II)I"⟩, 10) := ⟨⟨by decide +kernel, by decide +kernel⟩, List.mem_of_getElem? (i := 151) (by decide +kernel), List.mem_of_getElem? (i := 318) (by decide +kernel), List.mem_of_getElem? (i := 319) (by decide +kernel)⟩
theorem lw_p13 : lw_okq (⟨"Urnwright$Game", "waysFrom", "(I)J"⟩, 9) := ⟨⟨by decide +kernel, by decide +kernel⟩, List.mem_of_getElem? (i := 47) (by decide +kernel), List.mem_of_getElem? (i := 322) (by decide +kernel), List.mem_of_getElem? (i := 323) (by decide +kernel)⟩
theorem lw_p14 : lw_okq (⟨"Urnwright$Game", "sumOfPowers", "(I)J"⟩, 9) := ⟨⟨by decide +kernel, by decide +kernel⟩, List.mem_of_getElem? (i := 47) (by decide +kernel), List.mem_of_getElem? (i := 326) (by decide +kernel), List.mem_of_getElem? (i := 327) (by decide +kernel)⟩
theorem lw_p15 : lw_okq (⟨"Urnwright$Game", "sumOfPowersWith", "(III)J"⟩, 9) := ⟨⟨by decide +kernel, by decide +kernel⟩, List.mem_of_getElem? (i := 47) (by decide +kernel), List.mem_of_getElem? (i := 330) (by decide +kernel), List.mem_of_getElem? (i := 331) (by decide +kernel)⟩
def lw_privs_1 : List (MethodName × Nat) := [(⟨"Urnwright", "sumOfUrns", "(I)I"⟩, 8), (⟨"Urnwright$Urn", "countAll", "()I"⟩, 10), (⟨"Urnwright", "sumOfTilts", "()D"⟩, 8), (⟨"Urnwright$Urn", "lean", "()D"⟩, 10), (⟨"java/lang/Throwable", "fillInStackTrace", "(I)Ljava/lang/Throwable;"⟩, 6), (⟨"Urnwright", "digestOfUrn", "(JI)J"⟩, 8), (⟨"Urnwright", "urnOf", "(I)LUrnwright$Urn;"⟩, 8), (⟨"Urnwright$Urn", "mostSteps", "()I"⟩, 10), (⟨"Urnwright", "openGame", "(LUrnwright$Urn;I)V"⟩, 8), (⟨"Urnwright$Game", "open", "(LUrnwright$Urn;I)V"⟩, 9), (⟨"Urnwright$Game", "grow", "(LUrnwright$Urn;II)V"⟩, 9), (⟨"Urnwright$Game", "countAt", "(II)I"⟩, 9), (⟨"Urnwright$Urn", "addOf", "(II)I"⟩, 10), (⟨"Urnwright$Game", "waysFrom", "(I)J"⟩, 9), (⟨"Urnwright$Game", "sumOfPowers", "(I)J"⟩, 9), (⟨"Urnwright$Game", "sumOfPowersWith", "(III)J"⟩, 9)]
theorem lw_r1 : ∀ q ∈ lw_privs_1, lw_okq q := List.forall_mem_cons.mpr ⟨lw_p0, List.forall_mem_cons.mpr ⟨lw_p1, List.forall_mem_cons.mpr ⟨lw_p2, List.forall_mem_cons.mpr ⟨lw_p3, List.forall_mem_cons.mpr ⟨lw_p4, List.forall_mem_cons.mpr ⟨lw_p5, List.forall_mem_cons.mpr ⟨lw_p6, List.forall_mem_cons.mpr ⟨lw_p7, List.forall_mem_cons.mpr ⟨lw_p8, List.forall_mem_cons.mpr ⟨lw_p9, List.forall_mem_cons.mpr ⟨lw_p10, List.forall_mem_cons.mpr ⟨lw_p11, List.forall_mem_cons.mpr ⟨lw_p12, List.forall_mem_cons.mpr ⟨lw_p13, List.forall_mem_cons.mpr ⟨lw_p14, List.forall_mem_cons.mpr ⟨lw_p15, fun _ h => absurd h List.not_mem_nil⟩⟩⟩⟩⟩⟩⟩⟩⟩⟩⟩⟩⟩⟩⟩⟩
theorem lw_p16 : lw_okq (⟨"Urnwright$Game", "pathOfUnfair", "(LUrnwright$Urn;)I"⟩, 9) := ⟨⟨by decide +kernel, by decide +kernel⟩, List.mem_of_getElem? (i := 47) (by decide +kernel), List.mem_of_getElem? (i := 353) (by decide +kernel), List.mem_of_getElem? (i := 354) (by decide +kernel)⟩
theorem lw_p17 : lw_okq (⟨"Urnwright$Game", "pathWithOrder", "()I"⟩, 9) := ⟨⟨by decide +kernel, by decide +kernel⟩, List.mem_of_getElem? (i := 47) (by decide +kernel), List.mem_of_getElem? (i := 361) (by decide +kernel), List.mem_of_getElem? (i := 362) (by decide +kernel)⟩
theorem lw_p18 : lw_okq (⟨"Urnwright$Game", "hasOrder", "(II)Z"⟩, 9) := ⟨⟨by decide +kernel, by decide +kernel⟩, List.mem_of_getElem? (i := 47) (by decide +kernel), List.mem_of_getElem? (i := 365) (by decide +kernel), List.mem_of_getElem? (i := 366) (by decide +kernel)⟩
theorem lw_p19 : lw_okq (⟨"Urnwright$Game", "sumStopped", "(LUrnwright$Urn;Z)J"⟩, 9) := ⟨⟨by decide +kernel, by decide +kernel⟩, List.mem_of_getElem? (i := 47) (by decide +kernel), List.mem_of_getElem? (i := 373) (by decide +kernel), List.mem_of_getElem? (i := 374) (by decide +kernel)⟩
theorem lw_p20 : lw_okq (⟨"Urnwright$Urn", "isStopAt", "(II)Z"⟩, 10) := ⟨⟨by decide +kernel, by decide +kernel⟩, List.mem_of_getElem? (i := 151) (by decide +kernel), List.mem_of_getElem? (i := 381) (by decide +kernel), List.mem_of_getElem? (i := 382) (by decide +kernel)⟩
theorem lw_p21 : lw_okq (⟨"Urnwright$Urn", "isOften", "(II)Z"⟩, 10) := ⟨⟨by decide +kernel, by decide +kernel⟩, List.mem_of_getElem? (i := 151) (by decide +kernel), List.mem_of_getElem? (i := 385) (by decide +kernel), List.mem_of_getElem? (i := 386) (by decide +kernel)⟩
theorem lw_p22 : lw_okq (⟨"Urnwright$Game", "weigh", "(I)I"⟩, 9) := ⟨⟨by decide +kernel, by decide +kernel⟩, List.mem_of_getElem? (i := 47) (by decide +kernel), List.mem_of_getElem? (i := 401) (by decide +kernel), List.mem_of_getElem? (i := 402) (by decide +kernel)⟩
theorem lw_p23 : lw_okq (⟨"Urnwright$Game", "prizeAt", "(II)J"⟩, 9) := ⟨⟨by decide +kernel, by decide +kernel⟩, List.mem_of_getElem? (i := 47) (by decide +kernel), List.mem_of_getElem? (i := 405) (by decide +kernel), List.mem_of_getElem? (i := 406) (by decide +kernel)⟩
theorem lw_p24 : lw_okq (⟨"Urnwright$Game", "worthBehind", "(I)J"⟩, 9) := ⟨⟨by decide +kernel, by decide +kernel⟩, List.mem_of_getElem? (i := 47) (by decide +kernel), List.mem_of_getElem? (i := 412) (by decide +kernel), List.mem_of_getElem? (i := 413) (by decide +kernel)⟩
theorem lw_p25 : lw_okq (⟨"Urnwright", "rowOf", "(I)LUrnwright$Row;"⟩, 8) := ⟨⟨by decide +kernel, by decide +kernel⟩, List.mem_of_getElem? (i := 35) (by decide +kernel), List.mem_of_getElem? (i := 424) (by decide +kernel), List.mem_of_getElem? (i := 425) (by decide +kernel)⟩
theorem lw_p26 : lw_okq (⟨"Urnwright$Urn", "take", "(I)V"⟩, 10) := ⟨⟨by decide +kernel, by decide +kernel⟩, List.mem_of_getElem? (i := 151) (by decide +kernel), List.mem_of_getElem? (i := 559) (by decide +kernel), List.mem_of_getElem? (i := 560) (by decide +kernel)⟩
theorem lw_p27 : lw_okq (⟨"Urnwright$Urn", "takeBack", "()I"⟩, 10) := ⟨⟨by decide +kernel, by decide +kernel⟩, List.mem_of_getElem? (i := 151) (by decide +kernel), List.mem_of_getElem? (i := 572) (by decide +kernel), List.mem_of_getElem? (i := 573) (by decide +kernel)⟩
theorem lw_p28 : lw_okq (⟨"Urnwright", "openPath", "(LUrnwright$Urn;I)V"⟩, 8) := ⟨⟨by decide +kernel, by decide +kernel⟩, List.mem_of_getElem? (i := 35) (by decide +kernel), List.mem_of_getElem? (i := 611) (by decide +kernel), List.mem_of_getElem? (i := 612) (by decide +kernel)⟩
theorem lw_p29 : lw_okq (⟨"Urnwright$Game", "waysBetween", "(II)J"⟩, 9) := ⟨⟨by decide +kernel, by decide +kernel⟩, List.mem_of_getElem? (i := 47) (by decide +kernel), List.mem_of_getElem? (i := 629) (by decide +kernel), List.mem_of_getElem? (i := 630) (by decide +kernel)⟩
theorem lw_p30 : lw_okq (⟨"Urnwright$Sides", "lay", "(LUrnwright$Row;LUrnwright$Row;)V"⟩, 2) := ⟨⟨by decide +kernel, by decide +kernel⟩, List.mem_of_getElem? (i := 87) (by decide +kernel), List.mem_of_getElem? (i := 696) (by decide +kernel), List.mem_of_getElem? (i := 697) (by decide +kernel)⟩
theorem lw_p31 : lw_okq (⟨"Urnwright$Sides", "stay", "(II)I"⟩, 2) := ⟨⟨by decide +kernel, by decide +kernel⟩, List.mem_of_getElem? (i := 87) (by decide +kernel), List.mem_of_getElem? (i := 702) (by decide +kernel), List.mem_of_getElem? (i := 703) (by decide +kernel)⟩
def lw_privs_2 : List (MethodName × Nat) := [(⟨"Urnwright$Game", "pathOfUnfair", "(LUrnwright$Urn;)I"⟩, 9), (⟨"Urnwright$Game", "pathWithOrder", "()I"⟩, 9), (⟨"Urnwright$Game", "hasOrder", "(II)Z"⟩, 9), (⟨"Urnwright$Game", "sumStopped", "(LUrnwright$Urn;Z)J"⟩, 9), (⟨"Urnwright$Urn", "isStopAt", "(II)Z"⟩, 10), (⟨"Urnwright$Urn", "isOften", "(II)Z"⟩, 10), (⟨"Urnwright$Game", "weigh", "(I)I"⟩, 9), (⟨"Urnwright$Game", "prizeAt", "(II)J"⟩, 9), (⟨"Urnwright$Game", "worthBehind", "(I)J"⟩, 9), (⟨"Urnwright", "rowOf", "(I)LUrnwright$Row;"⟩, 8), (⟨"Urnwright$Urn", "take", "(I)V"⟩, 10), (⟨"Urnwright$Urn", "takeBack", "()I"⟩, 10), (⟨"Urnwright", "openPath", "(LUrnwright$Urn;I)V"⟩, 8), (⟨"Urnwright$Game", "waysBetween", "(II)J"⟩, 9), (⟨"Urnwright$Sides", "lay", "(LUrnwright$Row;LUrnwright$Row;)V"⟩, 2), (⟨"Urnwright$Sides", "stay", "(II)I"⟩, 2)]
theorem lw_r2 : ∀ q ∈ lw_privs_2, lw_okq q := List.forall_mem_cons.mpr ⟨lw_p16, List.forall_mem_cons.mpr ⟨lw_p17, List.forall_mem_cons.mpr ⟨lw_p18, List.forall_mem_cons.mpr ⟨lw_p19, List.forall_mem_cons.mpr ⟨lw_p20, List.forall_mem_cons.mpr ⟨lw_p21, List.forall_mem_cons.mpr ⟨lw_p22, List.forall_mem_cons.mpr ⟨lw_p23, List.forall_mem_cons.mpr ⟨lw_p24, List.forall_mem_cons.mpr ⟨lw_p25, List.forall_mem_cons.mpr ⟨lw_p26, List.forall_mem_cons.mpr ⟨lw_p27, List.forall_mem_cons.mpr ⟨lw_p28, List.forall_mem_cons.mpr ⟨lw_p29, List.forall_mem_cons.mpr ⟨lw_p30, List.forall_mem_cons.mpr ⟨lw_p31, fun _ h => absurd h List.not_mem_nil⟩⟩⟩⟩⟩⟩⟩⟩⟩⟩⟩⟩⟩⟩⟩⟩
theorem lw_p32 : lw_okq (⟨"Urnwright$Sides", "move", "(II)I"⟩, 2) := ⟨⟨by decide +kernel, by decide +kernel⟩, List.mem_of_getElem? (i := 87) (by decide +kernel), List.mem_of_getElem? (i := 706) (by decide +kernel), List.mem_of_getElem? (i := 707) (by decide +kernel)⟩
theorem lw_p33 : lw_okq (⟨"Urnwright$Sides", "step", "(II)I"⟩, 2) := ⟨⟨by decide +kernel, by decide +kernel⟩, List.mem_of_getElem? (i := 87) (by decide +kernel), List.mem_of_getElem? (i := 711) (by decide +kernel), List.mem_of_getElem? (i := 712) (by decide +kernel)⟩
theorem lw_p34 : lw_okq (⟨"Urnwright$Deck", "shuffle", "(II)V"⟩, 1) := ⟨⟨by decide +kernel, by decide +kernel⟩, List.mem_of_getElem? (i := 100) (by decide +kernel), List.mem_of_getElem? (i := 733) (by decide +kernel), List.mem_of_getElem? (i := 734) (by decide +kernel)⟩
theorem lw_p35 : lw_okq (⟨"Urnwright$Deck", "sumOfDifferences", "(IJJ)J"⟩, 1) := ⟨⟨by decide +kernel, by decide +kernel⟩, List.mem_of_getElem? (i := 100) (by decide +kernel), List.mem_of_getElem? (i := 739) (by decide +kernel), List.mem_of_getElem? (i := 740) (by decide +kernel)⟩
theorem lw_p36 : lw_okq (⟨"UrnwrightModel", "no", "(I)I"⟩, 4) := ⟨⟨by decide +kernel, by decide +kernel⟩, List.mem_of_getElem? (i := 1056) (by decide +kernel), List.mem_of_getElem? (i := 1112) (by decide +kernel), List.mem_of_getElem? (i := 1113) (by decide +kernel)⟩
theorem lw_p37 : lw_okq (⟨"java/util/ArrayList", "add", "(Ljava/lang/Object;[Ljava/lang/Object;I)V"⟩, 3) := ⟨⟨by decide +kernel, by decide +kernel⟩, List.mem_of_getElem? (i := 1062) (by decide +kernel), List.mem_of_getElem? (i := 1181) (by decide +kernel), List.mem_of_getElem? (i := 1182) (by decide +kernel)⟩
theorem lw_p38 : lw_okq (⟨"java/util/ArrayList", "grow", "()[Ljava/lang/Object;"⟩, 3) := ⟨⟨by decide +kernel, by decide +kernel⟩, List.mem_of_getElem? (i := 1062) (by decide +kernel), List.mem_of_getElem? (i := 1185) (by decide +kernel), List.mem_of_getElem? (i := 1186) (by decide +kernel)⟩
theorem lw_p39 : lw_okq (⟨"java/util/ArrayList", "grow", "(I)[Ljava/lang/Object;"⟩, 3) := ⟨⟨by decide +kernel, by decide +kernel⟩, List.mem_of_getElem? (i := 1062) (by decide +kernel), List.mem_of_getElem? (i := 1189) (by decide +kernel), List.mem_of_getElem? (i := 1190) (by decide +kernel)⟩
theorem lw_p40 : lw_okq (⟨"UrnwrightModel", "isUrn", "(I)Z"⟩, 4) := ⟨⟨by decide +kernel, by decide +kernel⟩, List.mem_of_getElem? (i := 1056) (by decide +kernel), List.mem_of_getElem? (i := 1230) (by decide +kernel), List.mem_of_getElem? (i := 1231) (by decide +kernel)⟩
theorem lw_p41 : lw_okq (⟨"java/util/ArrayList", "fastRemove", "([Ljava/lang/Object;I)V"⟩, 3) := ⟨⟨by decide +kernel, by decide +kernel⟩, List.mem_of_getElem? (i := 1062) (by decide +kernel), List.mem_of_getElem? (i := 1281) (by decide +kernel), List.mem_of_getElem? (i := 1282) (by decide +kernel)⟩
theorem lw_p42 : lw_okq (⟨"UrnwrightModel", "canPlay", "(II)Z"⟩, 4) := ⟨⟨by decide +kernel, by decide +kernel⟩, List.mem_of_getElem? (i := 1056) (by decide +kernel), List.mem_of_getElem? (i := 1339) (by decide +kernel), List.mem_of_getElem? (i := 1340) (by decide +kernel)⟩
theorem lw_p43 : lw_okq (⟨"UrnwrightModel", "isRow", "(I)Z"⟩, 4) := ⟨⟨by decide +kernel, by decide +kernel⟩, List.mem_of_getElem? (i := 1056) (by decide +kernel), List.mem_of_getElem? (i := 1493) (by decide +kernel), List.mem_of_getElem? (i := 1494) (by decide +kernel)⟩
theorem lw_p44 : lw_okq (⟨"UrnwrightModel", "distanceNow", "(II)LUrnwrightModel$Sum;"⟩, 4) := ⟨⟨by decide +kernel, by decide +kernel⟩, List.mem_of_getElem? (i := 1056) (by decide +kernel), List.mem_of_getElem? (i := 1497) (by decide +kernel), List.mem_of_getElem? (i := 1498) (by decide +kernel)⟩
theorem lw_p45 : lw_okq (⟨"UrnwrightModel", "manyNow", "(I)I"⟩, 4) := ⟨⟨by decide +kernel, by decide +kernel⟩, List.mem_of_getElem? (i := 1056) (by decide +kernel), List.mem_of_getElem? (i := 1557) (by decide +kernel), List.mem_of_getElem? (i := 1558) (by decide +kernel)⟩
def lw_privs_3 : List (MethodName × Nat) := [(⟨"Urnwright$Sides", "move", "(II)I"⟩, 2), (⟨"Urnwright$Sides", "step", "(II)I"⟩, 2), (⟨"Urnwright$Deck", "shuffle", "(II)V"⟩, 1), (⟨"Urnwright$Deck", "sumOfDifferences", "(IJJ)J"⟩, 1), (⟨"UrnwrightModel", "no", "(I)I"⟩, 4), (⟨"java/util/ArrayList", "add", "(Ljava/lang/Object;[Ljava/lang/Object;I)V"⟩, 3), (⟨"java/util/ArrayList", "grow", "()[Ljava/lang/Object;"⟩, 3), (⟨"java/util/ArrayList", "grow", "(I)[Ljava/lang/Object;"⟩, 3), (⟨"UrnwrightModel", "isUrn", "(I)Z"⟩, 4), (⟨"java/util/ArrayList", "fastRemove", "([Ljava/lang/Object;I)V"⟩, 3), (⟨"UrnwrightModel", "canPlay", "(II)Z"⟩, 4), (⟨"UrnwrightModel", "isRow", "(I)Z"⟩, 4), (⟨"UrnwrightModel", "distanceNow", "(II)LUrnwrightModel$Sum;"⟩, 4), (⟨"UrnwrightModel", "manyNow", "(I)I"⟩, 4)]
theorem lw_r3 : ∀ q ∈ lw_privs_3, lw_okq q := List.forall_mem_cons.mpr ⟨lw_p32, List.forall_mem_cons.mpr ⟨lw_p33, List.forall_mem_cons.mpr ⟨lw_p34, List.forall_mem_cons.mpr ⟨lw_p35, List.forall_mem_cons.mpr ⟨lw_p36, List.forall_mem_cons.mpr ⟨lw_p37, List.forall_mem_cons.mpr ⟨lw_p38, List.forall_mem_cons.mpr ⟨lw_p39, List.forall_mem_cons.mpr ⟨lw_p40, List.forall_mem_cons.mpr ⟨lw_p41, List.forall_mem_cons.mpr ⟨lw_p42, List.forall_mem_cons.mpr ⟨lw_p43, List.forall_mem_cons.mpr ⟨lw_p44, List.forall_mem_cons.mpr ⟨lw_p45, fun _ h => absurd h List.not_mem_nil⟩⟩⟩⟩⟩⟩⟩⟩⟩⟩⟩⟩⟩⟩
def lw_privs : List (MethodName × Nat) := lw_privs_1 ++ (lw_privs_2 ++ (lw_privs_3))
def lw_tbl : List Cond := k2_sels lw_privs ++ tables_1
theorem lw_privs_ok : ∀ q ∈ lw_privs, lw_okq q := by
  show ∀ q ∈ lw_privs_1 ++ (lw_privs_2 ++ (lw_privs_3)), lw_okq q
  exact List.forall_mem_append.mpr ⟨lw_r1, List.forall_mem_append.mpr ⟨lw_r2, lw_r3⟩⟩
/-- the streams that the claim lets the run draw from -/
abbrev lw_cs : List Choice := [Jvm.Choice.named "NaN.bits"]
theorem lw_bits : nanBits ∈ lw_cs := by first | decide | exact List.mem_cons_self | simp [lw_cs, nanBits]
/-! ===== BEGIN words of one list among another's, by their places ===== -/
theorem goodIn_r {big : List Cond} (ws : List Cond) (ps : List Nat) (hp : ws = ps.filterMap (fun i => big[i]?)) (h : ws.all goodWord = true) : GoodIn big ws := by
  intro w hw
  have h1 := List.all_eq_true.mp h w hw
  rw [hp] at hw
  obtain ⟨i, -, hi⟩ := List.mem_filterMap.mp hw
  have hm : w ∈ big := by first | exact List.mem_of_getElem? hi | exact List.getElem?_mem hi
  exact ⟨hm, good_of_word h1⟩
theorem goodIn_app {big a b : List Cond} (ha : GoodIn big a) (hb : GoodIn big b) : GoodIn big (a ++ b) := fun w h => (List.mem_append.mp h).elim (ha w) (hb w)
theorem goodIn_ca {big a b : List Cond} {c : Cond} (ha : GoodIn big (c :: a)) (hb : GoodIn big b) : GoodIn big (c :: (a ++ b)) := fun w h => (List.mem_cons.mp h).elim (fun e => ha w (List.mem_cons.mpr (Or.inl e))) (fun h => (List.mem_append.mp h).elim (fun h => ha w (List.mem_cons.mpr (Or.inr h))) (hb w))
theorem goodIn_sub {big ws : List Cond} (hm : ∀ w ∈ ws, w ∈ big) (h : ws.all goodWord = true) : GoodIn big ws := fun w hw => ⟨hm w hw, good_of_word (List.all_eq_true.mp h w hw)⟩
/-! ===== END ===== -/
def vx_no (w : Cond) : Bool := decide (w ≠ .isRef (.static Bundle.tN "UNASSIGNED_STACK" Bundle.steD)) && decide (w ≠ .isRef (.static Bundle.tN "SUPPRESSED_SENTINEL" Bundle.listD)) && decide (w ≠ .laysStatic Bundle.tN "UNASSIGNED_STACK" Bundle.steD) && decide (w ≠ .laysStatic Bundle.tN "SUPPRESSED_SENTINEL" Bundle.listD)
def vx_at0 (own : String) (ic : Nat) (X : String) (names : List String) : List Cond := (Bundle.ownAtoms0 own ic X names).filter vx_no
def vx_atS (own : String) (ic : Nat) (X : String) (names : List String) : List Cond := (Bundle.ownAtoms own ic X names).filter vx_no
/-! ===== BEGIN a static call of a method with an exception table ===== -/
section VXS
variable {p : Program} {l : Launch} {e : Env} {R : Room} {s : State} {m : MethodId} {args : Array Value} {below : List Frame} {meth : Method} {c : Code} {T : State} {H : Heap} {locs : List Loc} {cells slots : Nat}
abbrev vx_CSW (R : Room) (s : State) (args : Array Value) (own : String) (index : Nat) (y : MethodName) (bytes : ByteArray) (maxL : Nat) (ret : Option FieldType) (hh : List (Nat × Nat × Nat × Nat)) (ws : List Cond) (rm : Room) (mc ms n : Nat) : Prop :=
  (rm.cells = mc ∧ rm.slots = ms ∧ rm.frames + 1 ≤ R.frames ∧ 8 + (maxL + 11) + rm.locals ≤ R.locals ∧ (∀ w ∈ ws, ∀ (a' : Array Value) (U : State), s.WarmedH U.vm → w.before a' U = true) ∧ Cond.codeWith y bytes maxL ret hh ∈ ws) ∧
  (Cond.codeWith y bytes maxL ret hh).before args s = true ∧ (Cond.initialized y.cls).before args s = true ∧ (y.cls ≠ "java/lang/invoke/MethodHandle" ∧ y.cls ≠ "java/lang/invoke/VarHandle") ∧
  (∀ sig, parseMethodDescriptor y.desc = some sig → n = sig.parameters.length) ∧ (Cond.methodLink own index y).before args s = true ∧ (Cond.static y).before args s = true
theorem vx_cwSW {own : String} {index maxL mc ms : Nat} {y : MethodName} {bytes : ByteArray} {ret : Option FieldType} {hh : List (Nat × Nat × Nat × Nat)} {Ts ws ws' : List Cond} {rm : Room} (n : Nat) (ht : ∀ w ∈ Ts, w.before args s = true) (hT : GoodIn Ts (va_wsS own index y ws)) (hw : ws = Cond.codeWith y bytes maxL ret hh :: ws') (hrc : rm.cells = mc) (hrs : rm.slots = ms)
    (hd : y.cls ≠ "java/lang/invoke/MethodHandle" ∧ y.cls ≠ "java/lang/invoke/VarHandle" ∧ (parseMethodDescriptor y.desc).map (fun d => d.parameters.length) = some n) (hR : rm.frames + 1 ≤ R.frames ∧ 8 + (maxL + 11) + rm.locals ≤ R.locals) :
    vx_CSW R s args own index y bytes maxL ret hh ws rm mc ms n := by
  have ok : ∀ w ∈ va_wsS own index y ws, w.before args s = true := fun w h => ht w (hT w h).1
  have hG : GoodIn Ts ws := fun w h => hT w (by unfold va_wsS; exact List.mem_append_right _ h)
  have hc : Cond.codeWith y bytes maxL ret hh ∈ ws := by rw [hw]; exact List.mem_cons_self
  refine ⟨⟨hrc, hrs, hR.1, hR.2, pay_in ht hG, hc⟩, ht _ (hG _ hc).1, ok _ (by simp [va_wsS]), ⟨hd.1, hd.2.1⟩, fun sig h => ?_, ok _ (by simp [va_wsS]), ok _ (by simp [va_wsS])⟩
  have h2 := hd.2.2
  rw [h] at h2
  exact (Option.some.inj h2).symm
theorem vx_callSW (X : Stand p l e R s m args below meth c T locs cells slots) (hexec : p.tables.exec = Jvm.exec) {own : String} {index : Nat} {y : MethodName} {bytes : ByteArray} {maxL : Nat} {ret : Option FieldType} {hh : List (Nat × Nat × Nat × Nat)}
    (hown : s.vm.findClass own = some m.cls) (hlink : (Cond.methodLink own index y).before args s = true) (hstat : (Cond.static y).before args s = true) (hinit : (Cond.initialized y.cls).before args s = true)
    (hcode : (Cond.codeWith y bytes maxL ret hh).before args s = true) (hy : y.cls ≠ "java/lang/invoke/MethodHandle" ∧ y.cls ≠ "java/lang/invoke/VarHandle")
    {W9 : Nat} {Pre : Pt → Array Value → Prop} {Post : Pt → Array Value → Option Value → Pt → Prop} (hK : Back l R p e below s args y 3 W9 Pre Post)
    {g : JFrame} (hg : g.method = m) (hsize : g.locals.size = c.maxLocals) {argsL rest : List Value} (hlen : ∀ sig, parseMethodDescriptor y.desc = some sig → argsL.length = sig.parameters.length)
    (hstack : g.stack = argsL.reverse ++ rest) (hW : 2 * g.monitorRoom + (rest.map fun v => v.category).sum ≤ W9) (hdg : decode c.code g.pc = .ok (.invokestatic index, 3))
    (hpre : ∀ vm₁, s.WarmedH vm₁ → Pre ⟨T.setVm vm₁, locs, cells, slots⟩ argsL.toArray) :
    ∃ (v : Option Value) (vm₁ : Vm) (B : Pt), s.WarmedH vm₁ ∧ Stand p l e R s m args below meth c B.U B.locs B.cells B.slots ∧ Post ⟨T.setVm vm₁, locs, cells, slots⟩ argsL.toArray v B ∧
      ∀ target, Steps p.tables e below (B.U.setTop { g with pc := g.pc + 3, stack := v.toList ++ rest }) target → Steps p.tables e below (T.setTop g) target := by
  obtain ⟨mk, methM, cM, hnamed, hmethM, -, -, -, -, -, -, hsigM⟩ := Cond.codeWith_spec hcode
  have hstatic : methM.isStatic = true := Cond.static_spec hnamed hmethM hstat
  obtain ⟨kP, hkP, -⟩ := className_of_methodNamed hnamed
  have hinitP : kP.init = .initialized := Cond.initialized_spec (findClass_of_methodNamed hnamed) hkP hinit
  obtain ⟨vm₁, X₁, hstep₁⟩ := X.invokestatic hexec hown hlink hnamed hmethM hstatic hkP hinitP hy (g := g) hg (argsL := argsL) (rest := rest) (hlen _ hsigM) hstack hdg
  obtain ⟨v, B, X', hpost, hsteps⟩ := hK m meth c ⟨T.setVm vm₁, locs, cells, slots⟩ { g with stack := rest } (.invokestatic index) mk argsL.toArray X₁ hg hsize hdg hW (X₁.named hnamed) (hpre vm₁ X₁.warmed)
  exact ⟨v, vm₁, B, X₁.warmed, X', hpost, fun target h => hstep₁ _ fun acts => by rw [doInvoke_state]; exact hsteps.trans h⟩
theorem vx_runSW {y : MethodName} {bytes cc : ByteArray} {maxL nL mc ms n index : Nat} {ret : Option FieldType} {hh : List (Nat × Nat × Nat × Nat)} {ws : List Cond} {rm : Room} {Pc : Array Value → State → Prop} {Qc : Array Value → State → Outcome → State → Prop} {free : Addr → Prop} {Ts : List Cond} {own : String} {As rest : List Value} {g : JFrame}
    (S : CallFix p m c cc nL s args Ts own) (hM : Met l y ws rm Pc Qc mc ms free) (cw : vx_CSW R s args own index y bytes maxL ret hh ws rm mc ms n) (hp : PreS s H Pc As)
    (hg : g.method = m) (hn : As.length = n) (hsize : g.locals.size = nL) (hstack : g.stack = As.reverse ++ rest) (hW : 2 * g.monitorRoom + (rest.map fun v => v.category).sum ≤ 8) (hdg : decode cc g.pc = .ok (.invokestatic index, 3)) (hf : cells + mc ≤ R.cells ∧ slots + ms ≤ R.slots) :
    va_Run p l e R s m args below meth c H locs cells slots mc ms g rest (Qc As.toArray) (free) := by
  obtain ⟨⟨hrc, hrs, hfr, hlo, hws, hcw⟩, hcode, hini, hy, hlen, hl, hstt⟩ := cw
  have hK : Back l R p e below s args y 3 8 (PreOf R mc ms Pc) (PostOf Qc mc ms free) := va_backW (hh := hh) (bytes := bytes) (maxL := maxL) (ret := ret) hM hp.1 hrc hrs hfr hlo hws hcw (fun a' U hW => word_at hW (Or.inl (by first | rfl | simp [Cond.onTables, Cond.keeps, Cond.steady])) hini)
  obtain ⟨hx, hb, hml, ho, -⟩ := S
  intro T hT X
  obtain ⟨v, vm₁, ⟨U', l2, c2, s2⟩, hW₁, X', ⟨g', mk, t, L, e1, e2, hq, h1, hL, h2, h3⟩, st⟩ := vx_callSW X hx (hh := hh) (bytes := bytes) (maxL := maxL) (ret := ret) ho hl hstt hini hcode hy hK hg (hsize.trans hml.symm) (argsL := As) (rest := rest) (fun sig h => hn.trans (hlen sig h)) hstack hW (by rw [hb]; exact hdg)
    (fun vm₁ hW₁ => ⟨hf.1, hf.2, hp.2 (T.setVm vm₁) hT hW₁⟩)
  dsimp only [Pt.U, Pt.locs, Pt.cells, Pt.slots] at X' e1 e2 h1 h2 h3 st
  subst h1; subst h2; subst h3
  exact ⟨v, (T.setVm vm₁).calling g' mk As.toArray, t, U', L, hT, X', hL, e1, e2, hq, st⟩
end VXS
def RX0 : String := "Urnwright$Deck"
def TX0 : u_T := fun k => match k with
  | _ => ("Urnwright$Deck", "runs", "[J", true)
def tyX0 : Nat → FieldType := fun k => match k with
  | _ => .array .long
abbrev wsX00 : List Cond := u_ws RX0 TX0 1
theorem nmX0 : ∀ a, a < 1 → ∀ b, b < 1 → a ≠ b → (TX0 a).2.1 ≠ (TX0 b).2.1 := by decide +kernel
theorem tyX0_ok : ∀ k, k < 1 → parseFieldDescriptor (TX0 k).2.2.1 = some (tyX0 k) := by decide +kernel
abbrev cX0_init : ByteArray := prog_2_method_1_code
def yX0_init : MethodName := ⟨RX0, "<init>", "()V"⟩
abbrev cX0_shuffle : ByteArray := prog_2_method_2_code
def yX0_shuffle : MethodName := ⟨RX0, "shuffle", "(II)V"⟩
abbrev cX0_sumOfDifferences : ByteArray := prog_2_method_3_code
def yX0_sumOfDifferences : MethodName := ⟨RX0, "sumOfDifferences", "(IJJ)J"⟩
abbrev cX0_ordersWithEnd : ByteArray := prog_2_method_4_code
def yX0_ordersWithEnd : MethodName := ⟨RX0, "ordersWithEnd", "(II)J"⟩
def RX1 : String := "Urnwright$Game"
def TX1 : u_T := fun k => match k with
  | 0 => ("Urnwright$Game", "ways", "[J", true)
  | 1 => ("Urnwright$Game", "yields", "[I", true)
  | 2 => ("Urnwright$Game", "paths", "[I", true)
  | 3 => ("Urnwright$Game", "counts", "[I", true)
  | 4 => ("Urnwright$Game", "worths", "[J", true)
  | 5 => ("Urnwright$Game", "isOver", "[Z", true)
  | 6 => ("Urnwright$Game", "steps", "I", false)
  | 7 => ("Urnwright$Game", "total", "I", false)
  | _ => ("Urnwright$Game", "growth", "I", false)
def tyX1 : Nat → FieldType := fun k => match k with
  | 0 => .array .long
  | 1 => .array .int
  | 2 => .array .int
  | 3 => .array .int
  | 4 => .array .long
  | 5 => .array .boolean
  | 6 => .int
  | 7 => .int
  | _ => .int
abbrev wsX10 : List Cond := u_ws RX1 TX1 9
theorem nmX1 : ∀ a, a < 9 → ∀ b, b < 9 → a ≠ b → (TX1 a).2.1 ≠ (TX1 b).2.1 := by decide +kernel
theorem tyX1_ok : ∀ k, k < 9 → parseFieldDescriptor (TX1 k).2.2.1 = some (tyX1 k) := by decide +kernel
abbrev cX1_init : ByteArray := prog_3_method_1_code
def yX1_init : MethodName := ⟨RX1, "<init>", "()V"⟩
def RX2 : String := "Urnwright$Row"
def RX3 : String := "Urnwright$Sides"
def TX3 : u_T := fun k => match k with
  | 0 => ("Urnwright$Sides", "left", "[I", true)
  | _ => ("Urnwright$Sides", "itsLeft", "[I", true)
def tyX3 : Nat → FieldType := fun k => match k with
  | 0 => .array .int
  | _ => .array .int
abbrev wsX30 : List Cond := u_ws RX3 TX3 2
theorem nmX3 : ∀ a, a < 2 → ∀ b, b < 2 → a ≠ b → (TX3 a).2.1 ≠ (TX3 b).2.1 := by decide +kernel
theorem tyX3_ok : ∀ k, k < 2 → parseFieldDescriptor (TX3 k).2.2.1 = some (tyX3 k) := by decide +kernel
abbrev cX3_init : ByteArray := prog_5_method_1_code
def yX3_init : MethodName := ⟨RX3, "<init>", "()V"⟩
def RX4 : String := "Urnwright$Urn"
def RX5 : String := "Urnwright"
def TX5 : u_T := fun k => match k with
  | 0 => ("Urnwright", "urns", "[LUrnwright$Urn;", true)
  | 1 => ("Urnwright", "rows", "[LUrnwright$Row;", true)
  | 2 => ("Urnwright", "game", "LUrnwright$Game;", true)
  | 3 => ("Urnwright", "sides", "LUrnwright$Sides;", true)
  | 4 => ("Urnwright", "deck", "LUrnwright$Deck;", true)
  | 5 => ("Urnwright", "urnsTold", "I", false)
  | 6 => ("Urnwright", "rowsTold", "I", false)
  | _ => ("Urnwright", "knocks", "I", false)
def tyX5 : Nat → FieldType := fun k => match k with
  | 0 => .array (.object "Urnwright$Urn")
  | 1 => .array (.object "Urnwright$Row")
  | 2 => .object "Urnwright$Game"
  | 3 => .object "Urnwright$Sides"
  | 4 => .object "Urnwright$Deck"
  | 5 => .int
  | 6 => .int
  | _ => .int
abbrev wsX50 : List Cond := u_ws RX5 TX5 8
theorem nmX5 : ∀ a, a < 8 → ∀ b, b < 8 → a ≠ b → (TX5 a).2.1 ≠ (TX5 b).2.1 := by decide +kernel
theorem tyX5_ok : ∀ k, k < 8 → parseFieldDescriptor (TX5 k).2.2.1 = some (tyX5 k) := by decide +kernel
abbrev cX5_init : ByteArray := prog_1_method_1_code
def yX5_init : MethodName := ⟨RX5, "<init>", "()V"⟩
abbrev cX5_far : ByteArray := prog_1_method_22_code
def yX5_far : MethodName := ⟨RX5, "far", "(IIZ)J"⟩
abbrev cX5_isWithin : ByteArray := prog_1_method_40_code
def yX5_isWithin : MethodName := ⟨RX5, "isWithin", "(III)Z"⟩
abbrev cX5_at_ : ByteArray := prog_1_method_43_code
def yX5_at_ : MethodName := ⟨RX5, "at", "([JI)J"⟩
abbrev cX5_put_ : ByteArray := prog_1_method_46_code
def yX5_put_ : MethodName := ⟨RX5, "put", "([JIJ)V"⟩
abbrev cX5_part : ByteArray := prog_1_method_48_code
def yX5_part : MethodName := ⟨RX5, "part", "(JJZ)J"⟩
abbrev cX5_sharedDivisor : ByteArray := prog_1_method_49_code
def yX5_sharedDivisor : MethodName := ⟨RX5, "sharedDivisor", "(JJ)J"⟩
abbrev cX5_power : ByteArray := prog_1_method_50_code
def yX5_power : MethodName := ⟨RX5, "power", "(II)J"⟩
abbrev cX5_factorial : ByteArray := prog_1_method_51_code
def yX5_factorial : MethodName := ⟨RX5, "factorial", "(I)J"⟩
def RX6 : String := "UrnwrightLaw$Out"
def TX6 : u_T := fun k => match k with
  | 0 => ("UrnwrightLaw$Out", "n", "J", false)
  | 1 => ("UrnwrightLaw$Out", "d", "D", false)
  | _ => ("UrnwrightLaw$Out", "s", "Ljava/lang/String;", false)
def tyX6 : Nat → FieldType := fun k => match k with
  | 0 => .long
  | 1 => .double
  | _ => .object "java/lang/String"
abbrev wsX60 : List Cond := u_ws RX6 TX6 3
theorem nmX6 : ∀ a, a < 3 → ∀ b, b < 3 → a ≠ b → (TX6 a).2.1 ≠ (TX6 b).2.1 := by decide +kernel
theorem tyX6_ok : ∀ k, k < 3 → parseFieldDescriptor (TX6 k).2.2.1 = some (tyX6 k) := by decide +kernel
abbrev cX6_init : ByteArray := prog_8_method_1_code
def yX6_init : MethodName := ⟨RX6, "<init>", "()V"⟩
def RX8 : String := "UrnwrightModel$Sum"
def TX8 : u_T := fun k => match k with
  | 0 => ("UrnwrightModel$Sum", "up", "J", false)
  | _ => ("UrnwrightModel$Sum", "down", "J", false)
def tyX8 : Nat → FieldType := fun k => match k with
  | 0 => .long
  | _ => .long
abbrev wsX80 : List Cond := u_ws RX8 TX8 2
theorem nmX8 : ∀ a, a < 2 → ∀ b, b < 2 → a ≠ b → (TX8 a).2.1 ≠ (TX8 b).2.1 := by decide +kernel
theorem tyX8_ok : ∀ k, k < 2 → parseFieldDescriptor (TX8 k).2.2.1 = some (tyX8 k) := by decide +kernel
abbrev cX8_init : ByteArray := prog_11_method_1_code
def yX8_init : MethodName := ⟨RX8, "<init>", "()V"⟩
abbrev cX8_add : ByteArray := prog_11_method_2_code
def yX8_add : MethodName := ⟨RX8, "add", "(JJJ)LUrnwrightModel$Sum;"⟩
abbrev cX8_part : ByteArray := prog_11_method_5_code
def yX8_part : MethodName := ⟨RX8, "part", "(Z)J"⟩
def RX10 : String := "UrnwrightModel"
def TX10 : u_T := fun k => match k with
  | 0 => ("UrnwrightModel", "thrown", "I", false)
  | 1 => ("UrnwrightModel", "knocks", "I", false)
  | 2 => ("UrnwrightModel", "urns", "Ljava/util/List;", true)
  | _ => ("UrnwrightModel", "rows", "Ljava/util/List;", true)
def tyX10 : Nat → FieldType := fun k => match k with
  | 0 => .int
  | 1 => .int
  | 2 => .object "java/util/List"
  | _ => .object "java/util/List"
abbrev wsX100 : List Cond := u_ws RX10 TX10 4
theorem nmX10 : ∀ a, a < 4 → ∀ b, b < 4 → a ≠ b → (TX10 a).2.1 ≠ (TX10 b).2.1 := by decide +kernel
theorem tyX10_ok : ∀ k, k < 4 → parseFieldDescriptor (TX10 k).2.2.1 = some (tyX10 k) := by decide +kernel
abbrev cX10_init : ByteArray := prog_9_method_1_code
def yX10_init : MethodName := ⟨RX10, "<init>", "()V"⟩
abbrev cX10_no : ByteArray := prog_9_method_3_code
def yX10_no : MethodName := ⟨RX10, "no", "(I)I"⟩
abbrev cX10_in : ByteArray := prog_9_method_4_code
def yX10_in : MethodName := ⟨RX10, "in", "(III)Z"⟩
abbrev cX10_common : ByteArray := prog_9_method_5_code
def yX10_common : MethodName := ⟨RX10, "common", "(JJ)J"⟩
abbrev cX10_shuffled : ByteArray := prog_9_method_42_code
def yX10_shuffled : MethodName := ⟨RX10, "shuffled", "([JI)[J"⟩
abbrev cX10_far : ByteArray := prog_9_method_43_code
def yX10_far : MethodName := ⟨RX10, "far", "(IIZ)J"⟩
def RJxa1e45 : String := "java/util/AbstractCollection"
abbrev cJxa1e45_init_da8c8 : ByteArray := prog_36_method_1_code
def yJxa1e45_init_da8c8 : MethodName := ⟨RJxa1e45, "<init>", "()V"⟩
def RJxc12de : String := "java/util/AbstractList"
abbrev cJxc12de_init_da8c8 : ByteArray := prog_37_method_1_code
def yJxc12de_init_da8c8 : MethodName := ⟨RJxc12de, "<init>", "()V"⟩
def RJx4a65c : String := "java/util/ArrayList"
def TJx4a65c : u_T := fun k => match k with
  | 0 => ("java/util/AbstractList", "modCount", "I", false)
  | 1 => ("java/util/ArrayList", "elementData", "[Ljava/lang/Object;", false)
  | _ => ("java/util/ArrayList", "size", "I", false)
def tyJx4a65c : Nat → FieldType := fun k => match k with
  | 0 => .int
  | 1 => .array (.object "java/lang/Object")
  | _ => .int
abbrev wsJx4a65c0 : List Cond := u_ws RJx4a65c TJx4a65c 3
theorem nmJx4a65c : ∀ a, a < 3 → ∀ b, b < 3 → a ≠ b → (TJx4a65c a).2.1 ≠ (TJx4a65c b).2.1 := by decide +kernel
theorem tyJx4a65c_ok : ∀ k, k < 3 → parseFieldDescriptor (TJx4a65c k).2.2.1 = some (tyJx4a65c k) := by decide +kernel
abbrev cJx4a65c_init_da8c8 : ByteArray := prog_38_method_2_code
def yJx4a65c_init_da8c8 : MethodName := ⟨RJx4a65c, "<init>", "()V"⟩
def RL : String := "UrnwrightLaw"
abbrev cL_far : ByteArray := method_22_code
def yL_far : MethodName := ⟨RL, "far", "(LUrnwright;IIZLUrnwrightLaw$Out;)I"⟩
abbrev cL_law : ByteArray := code
def wsX0_init : List Cond := .code yX0_init cX0_init 1 none :: ([.methodLink RX0 3 objectInit, .instanceMethod objectInit, .code objectInit ⟨#[0xb1]⟩ 1 none, .arrayClass .long, .fieldLink RX0 9 "Urnwright$Deck" "runs" "[J"] ++ wsX00)
def wsX5_put_ : List Cond := .code yX5_put_ cX5_put_ 4 none :: ([])
def wsX5_at_ : List Cond := .code yX5_at_ cX5_at_ 2 (some .long) :: ([])
def wsX0_shuffle : List Cond := .code yX0_shuffle cX0_shuffle 5 none :: ([.fieldLink RX0 9 "Urnwright$Deck" "runs" "[J", .static yX5_put_, .initialized RX5, .code yX5_put_ cX5_put_ 4 none, .static yX5_at_, .code yX5_at_ cX5_at_ 2 (some .long)] ++ wsX00)
def wsX0_ordersWithEnd : List Cond := .code yX0_ordersWithEnd cX0_ordersWithEnd 5 (some .long) :: ([])
def wsX0_sumOfDifferences : List Cond := .code yX0_sumOfDifferences cX0_sumOfDifferences 13 (some .long) :: ([.fieldLink RX0 9 "Urnwright$Deck" "runs" "[J", .methodLink RX0 27 Lib.MathLoose.abs_long.x, .static Lib.MathLoose.abs_long.x, .initialized "java/lang/Math", .code Lib.MathLoose.abs_long.x Lib.MathLoose.abs_long.code 2 (some .long), .static yX5_at_, .initialized RX5, .code yX5_at_ cX5_at_ 2 (some .long), .methodLink RX0 23 yX0_ordersWithEnd, .static yX0_ordersWithEnd, .initialized RX0, .code yX0_ordersWithEnd cX0_ordersWithEnd 5 (some .long)] ++ wsX00)
def wsX1_init : List Cond := .code yX1_init cX1_init 1 none :: ([.methodLink RX1 3 objectInit, .instanceMethod objectInit, .code objectInit ⟨#[0xb1]⟩ 1 none, .arrayClass .long, .fieldLink RX1 9 "Urnwright$Game" "ways" "[J", .arrayClass .int, .fieldLink RX1 15 "Urnwright$Game" "yields" "[I", .fieldLink RX1 19 "Urnwright$Game" "paths" "[I", .fieldLink RX1 22 "Urnwright$Game" "counts" "[I", .fieldLink RX1 25 "Urnwright$Game" "worths" "[J", .arrayClass .boolean, .fieldLink RX1 28 "Urnwright$Game" "isOver" "[Z"] ++ wsX10)
def wsX5_isWithin : List Cond := .code yX5_isWithin cX5_isWithin 3 (some .boolean) :: ([])
def wsX5_power : List Cond := .code yX5_power cX5_power 5 (some .long) :: ([])
def wsX3_init : List Cond := .code yX3_init cX3_init 1 none :: ([.methodLink RX3 3 objectInit, .instanceMethod objectInit, .code objectInit ⟨#[0xb1]⟩ 1 none, .arrayClass .int, .fieldLink RX3 9 "Urnwright$Sides" "left" "[I", .fieldLink RX3 15 "Urnwright$Sides" "itsLeft" "[I"] ++ wsX30)
def wsX5_init_r1 : List Cond := [Cond.methodLink RX5 1 objectInit, Cond.instanceMethod objectInit, Cond.code objectInit ⟨#[0xb1]⟩ 1 none, Cond.classLink RX5 9 RX4, Cond.fieldLink RX5 11 "Urnwright" "urns" "[LUrnwright$Urn;", Cond.classLink RX5 15 RX2, Cond.fieldLink RX5 17 "Urnwright" "rows" "[LUrnwright$Row;", Cond.classLink RX5 21 RX1, Cond.instantiable RX1 9, Cond.initialized RX1, Cond.fieldLink RX5 24 "Urnwright" "game" "LUrnwright$Game;", Cond.classLink RX5 28 RX3, Cond.instantiable RX3 2, Cond.initialized RX3, Cond.fieldLink RX5 31 "Urnwright" "sides" "LUrnwright$Sides;", Cond.classLink RX5 35 RX0, Cond.instantiable RX0 1, Cond.initialized RX0, Cond.fieldLink RX5 38 "Urnwright" "deck" "LUrnwright$Deck;", Cond.instanceMethod yX1_init, Cond.code yX1_init cX1_init 1 none, Cond.methodLink RX1 3 objectInit, Cond.arrayClass .long, Cond.fieldLink RX1 9 "Urnwright$Game" "ways" "[J"]
def wsX5_init_r2 : List Cond := [Cond.arrayClass .int, Cond.fieldLink RX1 15 "Urnwright$Game" "yields" "[I", Cond.fieldLink RX1 19 "Urnwright$Game" "paths" "[I", Cond.fieldLink RX1 22 "Urnwright$Game" "counts" "[I", Cond.fieldLink RX1 25 "Urnwright$Game" "worths" "[J", Cond.arrayClass .boolean, Cond.fieldLink RX1 28 "Urnwright$Game" "isOver" "[Z", Cond.instanceMethod yX3_init, Cond.code yX3_init cX3_init 1 none, Cond.methodLink RX3 3 objectInit, Cond.fieldLink RX3 9 "Urnwright$Sides" "left" "[I", Cond.fieldLink RX3 15 "Urnwright$Sides" "itsLeft" "[I", Cond.instanceMethod yX0_init, Cond.code yX0_init cX0_init 1 none, Cond.methodLink RX0 3 objectInit, Cond.fieldLink RX0 9 "Urnwright$Deck" "runs" "[J"]
def wsX5_init : List Cond := .code yX5_init cX5_init 1 none :: ((wsX5_init_r1 ++ wsX5_init_r2) ++ wsX50 ++ wsX10 ++ wsX30 ++ wsX00)
def wsX5_sharedDivisor : List Cond := .code yX5_sharedDivisor cX5_sharedDivisor 11 (some .long) :: ([])
def wsX5_part : List Cond := .code yX5_part cX5_part 9 (some .long) :: ([.methodLink RX5 358 Lib.MathLoose.abs_long.x, .static Lib.MathLoose.abs_long.x, .initialized "java/lang/Math", .code Lib.MathLoose.abs_long.x Lib.MathLoose.abs_long.code 2 (some .long), .methodLink RX5 361 yX5_sharedDivisor, .static yX5_sharedDivisor, .initialized RX5, .code yX5_sharedDivisor cX5_sharedDivisor 11 (some .long)])
def wsX5_factorial : List Cond := .code yX5_factorial cX5_factorial 4 (some .long) :: ([])
def wsX5_far_r1 : List Cond := [Cond.classLink RX5 46 "java/lang/IllegalArgumentException", Cond.initialized "java/lang/IllegalArgumentException", Cond.fieldLink RX5 38 "Urnwright" "deck" "LUrnwright$Deck;", Cond.constantLong RX5 229 (2), Cond.methodLink RX5 42 yX5_isWithin, Cond.static yX5_isWithin, Cond.initialized RX5, Cond.code yX5_isWithin cX5_isWithin 3 (some .boolean), Cond.methodLink RX5 248 yX5_factorial, Cond.static yX5_factorial, Cond.code yX5_factorial cX5_factorial 4 (some .long), Cond.methodLink RX5 213 yX5_power, Cond.static yX5_power, Cond.code yX5_power cX5_power 5 (some .long), Cond.instanceMethod yX0_shuffle, Cond.initialized RX0, Cond.selects RX0 yX0_shuffle yX0_shuffle, Cond.code yX0_shuffle cX0_shuffle 5 none, Cond.fieldLink RX0 9 "Urnwright$Deck" "runs" "[J", Cond.static yX5_put_, Cond.code yX5_put_ cX5_put_ 4 none, Cond.static yX5_at_, Cond.code yX5_at_ cX5_at_ 2 (some .long), Cond.instanceMethod yX0_sumOfDifferences]
def wsX5_far_r2 : List Cond := [Cond.selects RX0 yX0_sumOfDifferences yX0_sumOfDifferences, Cond.code yX0_sumOfDifferences cX0_sumOfDifferences 13 (some .long), Cond.methodLink RX0 27 Lib.MathLoose.abs_long.x, Cond.static Lib.MathLoose.abs_long.x, Cond.initialized "java/lang/Math", Cond.code Lib.MathLoose.abs_long.x Lib.MathLoose.abs_long.code 2 (some .long), Cond.methodLink RX0 23 yX0_ordersWithEnd, Cond.static yX0_ordersWithEnd, Cond.code yX0_ordersWithEnd cX0_ordersWithEnd 5 (some .long), Cond.methodLink RX5 161 yX5_part, Cond.static yX5_part, Cond.code yX5_part cX5_part 9 (some .long), Cond.methodLink RX5 358 Lib.MathLoose.abs_long.x, Cond.methodLink RX5 361 yX5_sharedDivisor, Cond.static yX5_sharedDivisor, Cond.code yX5_sharedDivisor cX5_sharedDivisor 11 (some .long)]
def wsX5_far : List Cond := .code yX5_far cX5_far 8 (some .long) :: ((wsX5_far_r1 ++ wsX5_far_r2) ++ wsX50 ++ wsX00 ++ (vx_atS RX5 50 "java/lang/IllegalArgumentException" ["java/lang/RuntimeException", "java/lang/Exception"]).filter goodWord)
def wsX6_init : List Cond := .code yX6_init cX6_init 1 none :: ([.methodLink RX6 1 objectInit, .instanceMethod objectInit, .code objectInit ⟨#[0xb1]⟩ 1 none])
def wsX8_init : List Cond := .code yX8_init cX8_init 1 none :: ([.methodLink RX8 1 objectInit, .instanceMethod objectInit, .code objectInit ⟨#[0xb1]⟩ 1 none, .fieldLink RX8 7 "UrnwrightModel$Sum" "up" "J", .fieldLink RX8 13 "UrnwrightModel$Sum" "down" "J"] ++ wsX80)
def wsX10_common : List Cond := .code yX10_common cX10_common 10 (some .long) :: ([])
def wsX8_add : List Cond := .code yX8_add cX8_add 15 (some (.object "UrnwrightModel$Sum")) :: ([.fieldLink RX8 13 "UrnwrightModel$Sum" "down" "J", .fieldLink RX8 7 "UrnwrightModel$Sum" "up" "J", .methodLink RX8 22 Lib.MathLoose.abs_long.x, .static Lib.MathLoose.abs_long.x, .initialized "java/lang/Math", .code Lib.MathLoose.abs_long.x Lib.MathLoose.abs_long.code 2 (some .long), .static yX10_common, .initialized RX10, .code yX10_common cX10_common 10 (some .long)] ++ wsX80)
def wsX8_part : List Cond := .code yX8_part cX8_part 2 (some .long) :: ([.fieldLink RX8 13 "UrnwrightModel$Sum" "down" "J", .fieldLink RX8 7 "UrnwrightModel$Sum" "up" "J"] ++ wsX80)
def wsJxa1e45_init_da8c8 : List Cond := .code yJxa1e45_init_da8c8 cJxa1e45_init_da8c8 1 none :: ([.methodLink RJxa1e45 1 objectInit, .instanceMethod objectInit, .code objectInit ⟨#[0xb1]⟩ 1 none])
def wsJxc12de_init_da8c8 : List Cond := .code yJxc12de_init_da8c8 cJxc12de_init_da8c8 1 none :: ([.fieldLink RJxc12de 7 "java/util/AbstractList" "modCount" "I", .methodLink RJxc12de 1 yJxa1e45_init_da8c8, .instanceMethod yJxa1e45_init_da8c8, .initialized RJxa1e45, .code yJxa1e45_init_da8c8 cJxa1e45_init_da8c8 1 none, .methodLink RJxa1e45 1 objectInit, .instanceMethod objectInit, .code objectInit ⟨#[0xb1]⟩ 1 none] ++ wsJx4a65c0)
def wsJx4a65c_init_da8c8 : List Cond := .code yJx4a65c_init_da8c8 cJx4a65c_init_da8c8 1 none :: ([.fieldLink RJx4a65c 39 "java/util/ArrayList" "DEFAULTCAPACITY_EMPTY_ELEMENTDATA" "[Ljava/lang/Object;", .fieldLink RJx4a65c 9 "java/util/ArrayList" "elementData" "[Ljava/lang/Object;", .methodLink RJx4a65c 1 yJxc12de_init_da8c8, .instanceMethod yJxc12de_init_da8c8, .initialized RJxc12de, .code yJxc12de_init_da8c8 cJxc12de_init_da8c8 1 none, .fieldLink RJxc12de 7 "java/util/AbstractList" "modCount" "I", .methodLink RJxc12de 1 yJxa1e45_init_da8c8, .instanceMethod yJxa1e45_init_da8c8, .initialized RJxa1e45, .code yJxa1e45_init_da8c8 cJxa1e45_init_da8c8 1 none, .methodLink RJxa1e45 1 objectInit, .instanceMethod objectInit, .code objectInit ⟨#[0xb1]⟩ 1 none] ++ wsJx4a65c0)
def wsX10_in : List Cond := .code yX10_in cX10_in 3 (some .boolean) :: ([])
def wsX10_init : List Cond := .code yX10_init cX10_init 1 none :: ([.methodLink RX10 1 objectInit, .instanceMethod objectInit, .code objectInit ⟨#[0xb1]⟩ 1 none, .classLink RX10 7 RJx4a65c, .instantiable RJx4a65c 3, .initialized RJx4a65c, .fieldLink RX10 10 "UrnwrightModel" "urns" "Ljava/util/List;", .fieldLink RX10 16 "UrnwrightModel" "rows" "Ljava/util/List;", .methodLink RX10 9 yJx4a65c_init_da8c8, .instanceMethod yJx4a65c_init_da8c8, .code yJx4a65c_init_da8c8 cJx4a65c_init_da8c8 1 none, .fieldLink RJx4a65c 39 "java/util/ArrayList" "DEFAULTCAPACITY_EMPTY_ELEMENTDATA" "[Ljava/lang/Object;", .fieldLink RJx4a65c 9 "java/util/ArrayList" "elementData" "[Ljava/lang/Object;", .methodLink RJx4a65c 1 yJxc12de_init_da8c8, .instanceMethod yJxc12de_init_da8c8, .initialized RJxc12de, .code yJxc12de_init_da8c8 cJxc12de_init_da8c8 1 none, .fieldLink RJxc12de 7 "java/util/AbstractList" "modCount" "I", .methodLink RJxc12de 1 yJxa1e45_init_da8c8, .instanceMethod yJxa1e45_init_da8c8, .initialized RJxa1e45, .code yJxa1e45_init_da8c8 cJxa1e45_init_da8c8 1 none, .methodLink RJxa1e45 1 objectInit] ++ wsJx4a65c0 ++ wsX100)
def wsX10_shuffled : List Cond := .code yX10_shuffled cX10_shuffled 10 (some (.array .long)) :: ([.arrayClass .long])
def wsX10_far_r1 : List Cond := [Cond.fieldLink RX10 19 "UrnwrightModel" "thrown" "I", Cond.arrayClass .long, Cond.methodLink RX10 240 Lib.MathLoose.max_long.x, Cond.static Lib.MathLoose.max_long.x, Cond.initialized "java/lang/Math", Cond.code Lib.MathLoose.max_long.x Lib.MathLoose.max_long.code 4 (some .long), Cond.classLink RX10 108 RX8, Cond.instantiable RX8 2, Cond.initialized RX8, Cond.methodLink RX10 29 yX10_in, Cond.static yX10_in, Cond.initialized RX10, Cond.code yX10_in cX10_in 3 (some .boolean), Cond.methodLink RX10 33 yX10_no, Cond.instanceMethod yX10_no, Cond.selects RX10 yX10_no yX10_no, Cond.code yX10_no cX10_no 2 (some .int), Cond.methodLink RX10 236 yX10_shuffled, Cond.static yX10_shuffled, Cond.code yX10_shuffled cX10_shuffled 10 (some (.array .long)), Cond.instanceMethod yX8_init, Cond.code yX8_init cX8_init 1 none, Cond.methodLink RX8 1 objectInit, Cond.instanceMethod objectInit]
def wsX10_far_r2 : List Cond := [Cond.code objectInit ⟨#[0xb1]⟩ 1 none, Cond.fieldLink RX8 7 "UrnwrightModel$Sum" "up" "J", Cond.fieldLink RX8 13 "UrnwrightModel$Sum" "down" "J", Cond.methodLink RX10 114 yX8_add, Cond.instanceMethod yX8_add, Cond.selects RX8 yX8_add yX8_add, Cond.code yX8_add cX8_add 15 (some (.object "UrnwrightModel$Sum")), Cond.methodLink RX8 22 Lib.MathLoose.abs_long.x, Cond.static Lib.MathLoose.abs_long.x, Cond.code Lib.MathLoose.abs_long.x Lib.MathLoose.abs_long.code 2 (some .long), Cond.static yX10_common, Cond.code yX10_common cX10_common 10 (some .long), Cond.methodLink RX10 107 yX8_part, Cond.instanceMethod yX8_part, Cond.selects RX8 yX8_part yX8_part, Cond.code yX8_part cX8_part 2 (some .long)]
def wsX10_far : List Cond := .code yX10_far cX10_far 18 (some .long) :: ((wsX10_far_r1 ++ wsX10_far_r2) ++ wsX100 ++ wsX80)
def wsL_far_r1 : List Cond := [Cond.classLink RL 19 "java/lang/IllegalArgumentException", Cond.methodLink RL 93 yX5_far, Cond.instanceMethod yX5_far, Cond.selects RX5 yX5_far yX5_far, Cond.initialized RX5, Cond.code yX5_far cX5_far 8 (some .long), Cond.classLink RX5 46 "java/lang/IllegalArgumentException", Cond.initialized "java/lang/IllegalArgumentException", Cond.fieldLink RX5 38 "Urnwright" "deck" "LUrnwright$Deck;", Cond.constantLong RX5 229 (2), Cond.methodLink RX5 42 yX5_isWithin, Cond.static yX5_isWithin, Cond.code yX5_isWithin cX5_isWithin 3 (some .boolean), Cond.methodLink RX5 248 yX5_factorial, Cond.static yX5_factorial, Cond.code yX5_factorial cX5_factorial 4 (some .long), Cond.methodLink RX5 213 yX5_power, Cond.static yX5_power, Cond.code yX5_power cX5_power 5 (some .long), Cond.instanceMethod yX0_shuffle, Cond.initialized RX0, Cond.selects RX0 yX0_shuffle yX0_shuffle, Cond.code yX0_shuffle cX0_shuffle 5 none, Cond.fieldLink RX0 9 "Urnwright$Deck" "runs" "[J"]
def wsL_far_r2 : List Cond := [Cond.static yX5_put_, Cond.code yX5_put_ cX5_put_ 4 none, Cond.static yX5_at_, Cond.code yX5_at_ cX5_at_ 2 (some .long), Cond.instanceMethod yX0_sumOfDifferences, Cond.selects RX0 yX0_sumOfDifferences yX0_sumOfDifferences, Cond.code yX0_sumOfDifferences cX0_sumOfDifferences 13 (some .long), Cond.methodLink RX0 27 Lib.MathLoose.abs_long.x, Cond.static Lib.MathLoose.abs_long.x, Cond.initialized "java/lang/Math", Cond.code Lib.MathLoose.abs_long.x Lib.MathLoose.abs_long.code 2 (some .long), Cond.methodLink RX0 23 yX0_ordersWithEnd, Cond.static yX0_ordersWithEnd, Cond.code yX0_ordersWithEnd cX0_ordersWithEnd 5 (some .long), Cond.methodLink RX5 161 yX5_part, Cond.static yX5_part, Cond.code yX5_part cX5_part 9 (some .long), Cond.methodLink RX5 358 Lib.MathLoose.abs_long.x, Cond.methodLink RX5 361 yX5_sharedDivisor, Cond.static yX5_sharedDivisor, Cond.code yX5_sharedDivisor cX5_sharedDivisor 11 (some .long)]
def wsL_far : List Cond := .codeWith yL_far cL_far 6 (some .int) [(0, 12, 15, 19)] :: ((wsL_far_r1 ++ wsL_far_r2) ++ wsX60 ++ wsX50 ++ wsX00 ++ (vx_atS RX5 50 "java/lang/IllegalArgumentException" ["java/lang/RuntimeException", "java/lang/Exception"]).filter goodWord)
theorem dX0_init_0 : decode cX0_init 0 = .ok (.aload_n 0, 1) := by decide +kernel
theorem dX0_init_1 : decode cX0_init 1 = .ok (.invokespecial 3, 3) := by decide +kernel
theorem dX0_init_4 : decode cX0_init 4 = .ok (.aload_n 0, 1) := by decide +kernel
theorem dX0_init_5 : decode cX0_init 5 = .ok (.bipush 6, 2) := by decide +kernel
theorem dX0_init_7 : decode cX0_init 7 = .ok (.newarray .long, 2) := by decide +kernel
theorem dX0_init_9 : decode cX0_init 9 = .ok (.putfield 9, 3) := by decide +kernel
theorem dX0_init_12 : decode cX0_init 12 = .ok (.return_, 1) := by decide +kernel
set_option maxRecDepth 20000 in
theorem ggX0_shuffle_X5_put_ : GoodIn wsX0_shuffle wsX5_put_ := goodIn_r _ [4] (by decide +kernel) (by decide +kernel)
set_option maxRecDepth 20000 in
theorem gX0_shuffle_X5_put__n15 : GoodIn wsX0_shuffle (wsX5_put_) := ggX0_shuffle_X5_put_
set_option maxRecDepth 20000 in
theorem ggX0_shuffle_X5_at_ : GoodIn wsX0_shuffle wsX5_at_ := goodIn_r _ [6] (by decide +kernel) (by decide +kernel)
set_option maxRecDepth 20000 in
theorem gX0_shuffle_X5_at__n19 : GoodIn wsX0_shuffle (wsX5_at_) := ggX0_shuffle_X5_at_
theorem dX0_shuffle_0 : decode cX0_shuffle 0 = .ok (.iconst 0, 1) := by decide +kernel
theorem dX0_shuffle_1 : decode cX0_shuffle 1 = .ok (.istore_n 3, 1) := by decide +kernel
theorem dX0_shuffle_2 : decode cX0_shuffle 2 = .ok (.iload_n 3, 1) := by decide +kernel
theorem dX0_shuffle_3 : decode cX0_shuffle 3 = .ok (.iload_n 1, 1) := by decide +kernel
theorem dX0_shuffle_4 : decode cX0_shuffle 4 = .ok (.if_icmp .gt 26, 3) := by decide +kernel
theorem dX0_shuffle_7 : decode cX0_shuffle 7 = .ok (.aload_n 0, 1) := by decide +kernel
theorem dX0_shuffle_8 : decode cX0_shuffle 8 = .ok (.getfield 9, 3) := by decide +kernel
theorem dX0_shuffle_11 : decode cX0_shuffle 11 = .ok (.iload_n 3, 1) := by decide +kernel
theorem dX0_shuffle_12 : decode cX0_shuffle 12 = .ok (.iload_n 3, 1) := by decide +kernel
theorem dX0_shuffle_13 : decode cX0_shuffle 13 = .ok (.ifCond .ne 7, 3) := by decide +kernel
theorem dX0_shuffle_16 : decode cX0_shuffle 16 = .ok (.lconst 1, 1) := by decide +kernel
theorem dX0_shuffle_17 : decode cX0_shuffle 17 = .ok (.goto 4, 3) := by decide +kernel
theorem dX0_shuffle_20 : decode cX0_shuffle 20 = .ok (.lconst 0, 1) := by decide +kernel
theorem dX0_shuffle_21 : decode cX0_shuffle 21 = .ok (.invokestatic 15, 3) := by decide +kernel
theorem dX0_shuffle_24 : decode cX0_shuffle 24 = .ok (.iinc 3 1, 3) := by decide +kernel
theorem dX0_shuffle_27 : decode cX0_shuffle 27 = .ok (.goto (-25), 3) := by decide +kernel
theorem dX0_shuffle_30 : decode cX0_shuffle 30 = .ok (.iconst 0, 1) := by decide +kernel
theorem dX0_shuffle_31 : decode cX0_shuffle 31 = .ok (.istore_n 3, 1) := by decide +kernel
theorem dX0_shuffle_32 : decode cX0_shuffle 32 = .ok (.iload_n 3, 1) := by decide +kernel
theorem dX0_shuffle_33 : decode cX0_shuffle 33 = .ok (.iload_n 2, 1) := by decide +kernel
theorem dX0_shuffle_34 : decode cX0_shuffle 34 = .ok (.if_icmp .ge 66, 3) := by decide +kernel
theorem dX0_shuffle_37 : decode cX0_shuffle 37 = .ok (.iload_n 1, 1) := by decide +kernel
theorem dX0_shuffle_38 : decode cX0_shuffle 38 = .ok (.istore 4, 2) := by decide +kernel
theorem dX0_shuffle_40 : decode cX0_shuffle 40 = .ok (.iload 4, 2) := by decide +kernel
theorem dX0_shuffle_42 : decode cX0_shuffle 42 = .ok (.ifCond .le 43, 3) := by decide +kernel
theorem dX0_shuffle_45 : decode cX0_shuffle 45 = .ok (.aload_n 0, 1) := by decide +kernel
theorem dX0_shuffle_46 : decode cX0_shuffle 46 = .ok (.getfield 9, 3) := by decide +kernel
theorem dX0_shuffle_49 : decode cX0_shuffle 49 = .ok (.iload 4, 2) := by decide +kernel
theorem dX0_shuffle_51 : decode cX0_shuffle 51 = .ok (.aload_n 0, 1) := by decide +kernel
theorem dX0_shuffle_52 : decode cX0_shuffle 52 = .ok (.getfield 9, 3) := by decide +kernel
theorem dX0_shuffle_55 : decode cX0_shuffle 55 = .ok (.iload 4, 2) := by decide +kernel
theorem dX0_shuffle_57 : decode cX0_shuffle 57 = .ok (.invokestatic 19, 3) := by decide +kernel
theorem dX0_shuffle_60 : decode cX0_shuffle 60 = .ok (.iload 4, 2) := by decide +kernel
theorem dX0_shuffle_62 : decode cX0_shuffle 62 = .ok (.i2l, 1) := by decide +kernel
theorem dX0_shuffle_63 : decode cX0_shuffle 63 = .ok (.lmul, 1) := by decide +kernel
theorem dX0_shuffle_64 : decode cX0_shuffle 64 = .ok (.aload_n 0, 1) := by decide +kernel
theorem dX0_shuffle_65 : decode cX0_shuffle 65 = .ok (.getfield 9, 3) := by decide +kernel
theorem dX0_shuffle_68 : decode cX0_shuffle 68 = .ok (.iload 4, 2) := by decide +kernel
theorem dX0_shuffle_70 : decode cX0_shuffle 70 = .ok (.iconst 1, 1) := by decide +kernel
theorem dX0_shuffle_71 : decode cX0_shuffle 71 = .ok (.isub, 1) := by decide +kernel
theorem dX0_shuffle_72 : decode cX0_shuffle 72 = .ok (.invokestatic 19, 3) := by decide +kernel
theorem dX0_shuffle_75 : decode cX0_shuffle 75 = .ok (.ladd, 1) := by decide +kernel
theorem dX0_shuffle_76 : decode cX0_shuffle 76 = .ok (.invokestatic 15, 3) := by decide +kernel
theorem dX0_shuffle_79 : decode cX0_shuffle 79 = .ok (.iinc 4 (-1), 3) := by decide +kernel
theorem dX0_shuffle_82 : decode cX0_shuffle 82 = .ok (.goto (-42), 3) := by decide +kernel
theorem dX0_shuffle_85 : decode cX0_shuffle 85 = .ok (.aload_n 0, 1) := by decide +kernel
theorem dX0_shuffle_86 : decode cX0_shuffle 86 = .ok (.getfield 9, 3) := by decide +kernel
theorem dX0_shuffle_89 : decode cX0_shuffle 89 = .ok (.iconst 0, 1) := by decide +kernel
theorem dX0_shuffle_90 : decode cX0_shuffle 90 = .ok (.lconst 0, 1) := by decide +kernel
theorem dX0_shuffle_91 : decode cX0_shuffle 91 = .ok (.invokestatic 15, 3) := by decide +kernel
theorem dX0_shuffle_94 : decode cX0_shuffle 94 = .ok (.iinc 3 1, 3) := by decide +kernel
theorem dX0_shuffle_97 : decode cX0_shuffle 97 = .ok (.goto (-65), 3) := by decide +kernel
theorem dX0_shuffle_100 : decode cX0_shuffle 100 = .ok (.return_, 1) := by decide +kernel
set_option maxRecDepth 20000 in
theorem ggX0_sumOfDifferences_X5_at_ : GoodIn wsX0_sumOfDifferences wsX5_at_ := goodIn_r _ [8] (by decide +kernel) (by decide +kernel)
set_option maxRecDepth 20000 in
theorem gX0_sumOfDifferences_X5_at__n19 : GoodIn wsX0_sumOfDifferences (wsX5_at_) := ggX0_sumOfDifferences_X5_at_
set_option maxRecDepth 20000 in
theorem ggX0_sumOfDifferences_X0_ordersWithEnd : GoodIn wsX0_sumOfDifferences wsX0_ordersWithEnd := goodIn_r _ [12] (by decide +kernel) (by decide +kernel)
set_option maxRecDepth 20000 in
theorem gX0_sumOfDifferences_X0_ordersWithEnd : GoodIn wsX0_sumOfDifferences (va_wsS RX0 23 yX0_ordersWithEnd wsX0_ordersWithEnd) := goodIn_app (goodIn_of _ (by decide +kernel)) ggX0_sumOfDifferences_X0_ordersWithEnd
theorem dX0_sumOfDifferences_0 : decode cX0_sumOfDifferences 0 = .ok (.lconst 0, 1) := by decide +kernel
theorem dX0_sumOfDifferences_1 : decode cX0_sumOfDifferences 1 = .ok (.lstore 6, 2) := by decide +kernel
theorem dX0_sumOfDifferences_3 : decode cX0_sumOfDifferences 3 = .ok (.aload_n 0, 1) := by decide +kernel
theorem dX0_sumOfDifferences_4 : decode cX0_sumOfDifferences 4 = .ok (.getfield 9, 3) := by decide +kernel
theorem dX0_sumOfDifferences_7 : decode cX0_sumOfDifferences 7 = .ok (.iload_n 1, 1) := by decide +kernel
theorem dX0_sumOfDifferences_8 : decode cX0_sumOfDifferences 8 = .ok (.invokestatic 19, 3) := by decide +kernel
theorem dX0_sumOfDifferences_11 : decode cX0_sumOfDifferences 11 = .ok (.lstore 8, 2) := by decide +kernel
theorem dX0_sumOfDifferences_13 : decode cX0_sumOfDifferences 13 = .ok (.iconst 1, 1) := by decide +kernel
theorem dX0_sumOfDifferences_14 : decode cX0_sumOfDifferences 14 = .ok (.istore 10, 2) := by decide +kernel
theorem dX0_sumOfDifferences_16 : decode cX0_sumOfDifferences 16 = .ok (.iload 10, 2) := by decide +kernel
theorem dX0_sumOfDifferences_18 : decode cX0_sumOfDifferences 18 = .ok (.iload_n 1, 1) := by decide +kernel
theorem dX0_sumOfDifferences_19 : decode cX0_sumOfDifferences 19 = .ok (.if_icmp .gt 60, 3) := by decide +kernel
theorem dX0_sumOfDifferences_22 : decode cX0_sumOfDifferences 22 = .ok (.lload 8, 2) := by decide +kernel
theorem dX0_sumOfDifferences_24 : decode cX0_sumOfDifferences 24 = .ok (.aload_n 0, 1) := by decide +kernel
theorem dX0_sumOfDifferences_25 : decode cX0_sumOfDifferences 25 = .ok (.getfield 9, 3) := by decide +kernel
theorem dX0_sumOfDifferences_28 : decode cX0_sumOfDifferences 28 = .ok (.iload_n 1, 1) := by decide +kernel
theorem dX0_sumOfDifferences_29 : decode cX0_sumOfDifferences 29 = .ok (.iload 10, 2) := by decide +kernel
theorem dX0_sumOfDifferences_31 : decode cX0_sumOfDifferences 31 = .ok (.isub, 1) := by decide +kernel
theorem dX0_sumOfDifferences_32 : decode cX0_sumOfDifferences 32 = .ok (.invokestatic 19, 3) := by decide +kernel
theorem dX0_sumOfDifferences_35 : decode cX0_sumOfDifferences 35 = .ok (.ladd, 1) := by decide +kernel
theorem dX0_sumOfDifferences_36 : decode cX0_sumOfDifferences 36 = .ok (.lstore 8, 2) := by decide +kernel
theorem dX0_sumOfDifferences_38 : decode cX0_sumOfDifferences 38 = .ok (.iload_n 1, 1) := by decide +kernel
theorem dX0_sumOfDifferences_39 : decode cX0_sumOfDifferences 39 = .ok (.iload 10, 2) := by decide +kernel
theorem dX0_sumOfDifferences_41 : decode cX0_sumOfDifferences 41 = .ok (.invokestatic 23, 3) := by decide +kernel
theorem dX0_sumOfDifferences_44 : decode cX0_sumOfDifferences 44 = .ok (.iload_n 1, 1) := by decide +kernel
theorem dX0_sumOfDifferences_45 : decode cX0_sumOfDifferences 45 = .ok (.iload 10, 2) := by decide +kernel
theorem dX0_sumOfDifferences_47 : decode cX0_sumOfDifferences 47 = .ok (.iconst 1, 1) := by decide +kernel
theorem dX0_sumOfDifferences_48 : decode cX0_sumOfDifferences 48 = .ok (.iadd, 1) := by decide +kernel
theorem dX0_sumOfDifferences_49 : decode cX0_sumOfDifferences 49 = .ok (.invokestatic 23, 3) := by decide +kernel
theorem dX0_sumOfDifferences_52 : decode cX0_sumOfDifferences 52 = .ok (.lsub, 1) := by decide +kernel
theorem dX0_sumOfDifferences_53 : decode cX0_sumOfDifferences 53 = .ok (.lstore 11, 2) := by decide +kernel
theorem dX0_sumOfDifferences_55 : decode cX0_sumOfDifferences 55 = .ok (.lload 6, 2) := by decide +kernel
theorem dX0_sumOfDifferences_57 : decode cX0_sumOfDifferences 57 = .ok (.lload 11, 2) := by decide +kernel
theorem dX0_sumOfDifferences_59 : decode cX0_sumOfDifferences 59 = .ok (.lload 8, 2) := by decide +kernel
theorem dX0_sumOfDifferences_61 : decode cX0_sumOfDifferences 61 = .ok (.lload_n 2, 1) := by decide +kernel
theorem dX0_sumOfDifferences_62 : decode cX0_sumOfDifferences 62 = .ok (.lmul, 1) := by decide +kernel
theorem dX0_sumOfDifferences_63 : decode cX0_sumOfDifferences 63 = .ok (.lload 4, 2) := by decide +kernel
theorem dX0_sumOfDifferences_65 : decode cX0_sumOfDifferences 65 = .ok (.lsub, 1) := by decide +kernel
theorem dX0_sumOfDifferences_66 : decode cX0_sumOfDifferences 66 = .ok (.invokestatic 27, 3) := by decide +kernel
theorem dX0_sumOfDifferences_69 : decode cX0_sumOfDifferences 69 = .ok (.lmul, 1) := by decide +kernel
theorem dX0_sumOfDifferences_70 : decode cX0_sumOfDifferences 70 = .ok (.ladd, 1) := by decide +kernel
theorem dX0_sumOfDifferences_71 : decode cX0_sumOfDifferences 71 = .ok (.lstore 6, 2) := by decide +kernel
theorem dX0_sumOfDifferences_73 : decode cX0_sumOfDifferences 73 = .ok (.iinc 10 1, 3) := by decide +kernel
theorem dX0_sumOfDifferences_76 : decode cX0_sumOfDifferences 76 = .ok (.goto (-60), 3) := by decide +kernel
theorem dX0_sumOfDifferences_79 : decode cX0_sumOfDifferences 79 = .ok (.lload 6, 2) := by decide +kernel
theorem dX0_sumOfDifferences_81 : decode cX0_sumOfDifferences 81 = .ok (.lreturn, 1) := by decide +kernel
theorem dX0_ordersWithEnd_0 : decode cX0_ordersWithEnd 0 = .ok (.iload_n 1, 1) := by decide +kernel
theorem dX0_ordersWithEnd_1 : decode cX0_ordersWithEnd 1 = .ok (.iload_n 0, 1) := by decide +kernel
theorem dX0_ordersWithEnd_2 : decode cX0_ordersWithEnd 2 = .ok (.if_icmp .le 7, 3) := by decide +kernel
theorem dX0_ordersWithEnd_5 : decode cX0_ordersWithEnd 5 = .ok (.lconst 0, 1) := by decide +kernel
theorem dX0_ordersWithEnd_6 : decode cX0_ordersWithEnd 6 = .ok (.goto 4, 3) := by decide +kernel
theorem dX0_ordersWithEnd_9 : decode cX0_ordersWithEnd 9 = .ok (.lconst 1, 1) := by decide +kernel
theorem dX0_ordersWithEnd_10 : decode cX0_ordersWithEnd 10 = .ok (.lstore_n 2, 1) := by decide +kernel
theorem dX0_ordersWithEnd_11 : decode cX0_ordersWithEnd 11 = .ok (.iload_n 1, 1) := by decide +kernel
theorem dX0_ordersWithEnd_12 : decode cX0_ordersWithEnd 12 = .ok (.iconst 1, 1) := by decide +kernel
theorem dX0_ordersWithEnd_13 : decode cX0_ordersWithEnd 13 = .ok (.iadd, 1) := by decide +kernel
theorem dX0_ordersWithEnd_14 : decode cX0_ordersWithEnd 14 = .ok (.istore 4, 2) := by decide +kernel
theorem dX0_ordersWithEnd_16 : decode cX0_ordersWithEnd 16 = .ok (.iload 4, 2) := by decide +kernel
theorem dX0_ordersWithEnd_18 : decode cX0_ordersWithEnd 18 = .ok (.iload_n 0, 1) := by decide +kernel
theorem dX0_ordersWithEnd_19 : decode cX0_ordersWithEnd 19 = .ok (.if_icmp .gt 15, 3) := by decide +kernel
theorem dX0_ordersWithEnd_22 : decode cX0_ordersWithEnd 22 = .ok (.lload_n 2, 1) := by decide +kernel
theorem dX0_ordersWithEnd_23 : decode cX0_ordersWithEnd 23 = .ok (.iload 4, 2) := by decide +kernel
theorem dX0_ordersWithEnd_25 : decode cX0_ordersWithEnd 25 = .ok (.i2l, 1) := by decide +kernel
theorem dX0_ordersWithEnd_26 : decode cX0_ordersWithEnd 26 = .ok (.lmul, 1) := by decide +kernel
theorem dX0_ordersWithEnd_27 : decode cX0_ordersWithEnd 27 = .ok (.lstore_n 2, 1) := by decide +kernel
theorem dX0_ordersWithEnd_28 : decode cX0_ordersWithEnd 28 = .ok (.iinc 4 1, 3) := by decide +kernel
theorem dX0_ordersWithEnd_31 : decode cX0_ordersWithEnd 31 = .ok (.goto (-15), 3) := by decide +kernel
theorem dX0_ordersWithEnd_34 : decode cX0_ordersWithEnd 34 = .ok (.lload_n 2, 1) := by decide +kernel
theorem dX0_ordersWithEnd_35 : decode cX0_ordersWithEnd 35 = .ok (.lreturn, 1) := by decide +kernel
theorem dX1_init_0 : decode cX1_init 0 = .ok (.aload_n 0, 1) := by decide +kernel
theorem dX1_init_1 : decode cX1_init 1 = .ok (.invokespecial 3, 3) := by decide +kernel
theorem dX1_init_4 : decode cX1_init 4 = .ok (.aload_n 0, 1) := by decide +kernel
theorem dX1_init_5 : decode cX1_init 5 = .ok (.bipush 121, 2) := by decide +kernel
theorem dX1_init_7 : decode cX1_init 7 = .ok (.newarray .long, 2) := by decide +kernel
theorem dX1_init_9 : decode cX1_init 9 = .ok (.putfield 9, 3) := by decide +kernel
theorem dX1_init_12 : decode cX1_init 12 = .ok (.aload_n 0, 1) := by decide +kernel
theorem dX1_init_13 : decode cX1_init 13 = .ok (.bipush 121, 2) := by decide +kernel
theorem dX1_init_15 : decode cX1_init 15 = .ok (.newarray .int, 2) := by decide +kernel
theorem dX1_init_17 : decode cX1_init 17 = .ok (.putfield 15, 3) := by decide +kernel
theorem dX1_init_20 : decode cX1_init 20 = .ok (.aload_n 0, 1) := by decide +kernel
theorem dX1_init_21 : decode cX1_init 21 = .ok (.bipush 121, 2) := by decide +kernel
theorem dX1_init_23 : decode cX1_init 23 = .ok (.newarray .int, 2) := by decide +kernel
theorem dX1_init_25 : decode cX1_init 25 = .ok (.putfield 19, 3) := by decide +kernel
theorem dX1_init_28 : decode cX1_init 28 = .ok (.aload_n 0, 1) := by decide +kernel
theorem dX1_init_29 : decode cX1_init 29 = .ok (.sipush 363, 3) := by decide +kernel
theorem dX1_init_32 : decode cX1_init 32 = .ok (.newarray .int, 2) := by decide +kernel
theorem dX1_init_34 : decode cX1_init 34 = .ok (.putfield 22, 3) := by decide +kernel
theorem dX1_init_37 : decode cX1_init 37 = .ok (.aload_n 0, 1) := by decide +kernel
theorem dX1_init_38 : decode cX1_init 38 = .ok (.bipush 121, 2) := by decide +kernel
theorem dX1_init_40 : decode cX1_init 40 = .ok (.newarray .long, 2) := by decide +kernel
theorem dX1_init_42 : decode cX1_init 42 = .ok (.putfield 25, 3) := by decide +kernel
theorem dX1_init_45 : decode cX1_init 45 = .ok (.aload_n 0, 1) := by decide +kernel
theorem dX1_init_46 : decode cX1_init 46 = .ok (.bipush 121, 2) := by decide +kernel
theorem dX1_init_48 : decode cX1_init 48 = .ok (.newarray .boolean, 2) := by decide +kernel
theorem dX1_init_50 : decode cX1_init 50 = .ok (.putfield 28, 3) := by decide +kernel
theorem dX1_init_53 : decode cX1_init 53 = .ok (.return_, 1) := by decide +kernel
theorem dX3_init_0 : decode cX3_init 0 = .ok (.aload_n 0, 1) := by decide +kernel
theorem dX3_init_1 : decode cX3_init 1 = .ok (.invokespecial 3, 3) := by decide +kernel
theorem dX3_init_4 : decode cX3_init 4 = .ok (.aload_n 0, 1) := by decide +kernel
theorem dX3_init_5 : decode cX3_init 5 = .ok (.iconst 5, 1) := by decide +kernel
theorem dX3_init_6 : decode cX3_init 6 = .ok (.newarray .int, 2) := by decide +kernel
theorem dX3_init_8 : decode cX3_init 8 = .ok (.putfield 9, 3) := by decide +kernel
theorem dX3_init_11 : decode cX3_init 11 = .ok (.aload_n 0, 1) := by decide +kernel
theorem dX3_init_12 : decode cX3_init 12 = .ok (.iconst 5, 1) := by decide +kernel
theorem dX3_init_13 : decode cX3_init 13 = .ok (.newarray .int, 2) := by decide +kernel
theorem dX3_init_15 : decode cX3_init 15 = .ok (.putfield 15, 3) := by decide +kernel
theorem dX3_init_18 : decode cX3_init 18 = .ok (.return_, 1) := by decide +kernel
set_option maxRecDepth 20000 in
theorem ggX5_init_X1_init : GoodIn wsX5_init wsX1_init := goodIn_r _ [21, 22, 2, 3, 23, 24, 25, 26, 27, 28, 29, 30, 31, 49, 50, 51, 52, 53, 54, 55, 56, 57] (by decide +kernel) (by decide +kernel)
set_option maxRecDepth 20000 in
theorem gX5_init_X1_init_n23 : GoodIn wsX5_init (wsX1_init) := ggX5_init_X1_init
set_option maxRecDepth 20000 in
theorem ggX5_init_X3_init : GoodIn wsX5_init wsX3_init := goodIn_r _ [33, 34, 2, 3, 25, 35, 36, 58, 59] (by decide +kernel) (by decide +kernel)
set_option maxRecDepth 20000 in
theorem gX5_init_X3_init_n30 : GoodIn wsX5_init (wsX3_init) := ggX5_init_X3_init
set_option maxRecDepth 20000 in
theorem ggX5_init_X0_init : GoodIn wsX5_init wsX0_init := goodIn_r _ [38, 39, 2, 3, 23, 40, 60] (by decide +kernel) (by decide +kernel)
set_option maxRecDepth 20000 in
theorem gX5_init_X0_init_n37 : GoodIn wsX5_init (wsX0_init) := ggX5_init_X0_init
theorem dX5_init_0 : decode cX5_init 0 = .ok (.aload_n 0, 1) := by decide +kernel
theorem dX5_init_1 : decode cX5_init 1 = .ok (.invokespecial 1, 3) := by decide +kernel
theorem dX5_init_4 : decode cX5_init 4 = .ok (.aload_n 0, 1) := by decide +kernel
theorem dX5_init_5 : decode cX5_init 5 = .ok (.iconst 4, 1) := by decide +kernel
theorem dX5_init_6 : decode cX5_init 6 = .ok (.anewarray 9, 3) := by decide +kernel
theorem dX5_init_9 : decode cX5_init 9 = .ok (.putfield 11, 3) := by decide +kernel
theorem dX5_init_12 : decode cX5_init 12 = .ok (.aload_n 0, 1) := by decide +kernel
theorem dX5_init_13 : decode cX5_init 13 = .ok (.iconst 4, 1) := by decide +kernel
theorem dX5_init_14 : decode cX5_init 14 = .ok (.anewarray 15, 3) := by decide +kernel
theorem dX5_init_17 : decode cX5_init 17 = .ok (.putfield 17, 3) := by decide +kernel
theorem dX5_init_20 : decode cX5_init 20 = .ok (.aload_n 0, 1) := by decide +kernel
theorem dX5_init_21 : decode cX5_init 21 = .ok (.new 21, 3) := by decide +kernel
theorem dX5_init_24 : decode cX5_init 24 = .ok (.dup, 1) := by decide +kernel
theorem dX5_init_25 : decode cX5_init 25 = .ok (.invokespecial 23, 3) := by decide +kernel
theorem dX5_init_28 : decode cX5_init 28 = .ok (.putfield 24, 3) := by decide +kernel
theorem dX5_init_31 : decode cX5_init 31 = .ok (.aload_n 0, 1) := by decide +kernel
theorem dX5_init_32 : decode cX5_init 32 = .ok (.new 28, 3) := by decide +kernel
theorem dX5_init_35 : decode cX5_init 35 = .ok (.dup, 1) := by decide +kernel
theorem dX5_init_36 : decode cX5_init 36 = .ok (.invokespecial 30, 3) := by decide +kernel
theorem dX5_init_39 : decode cX5_init 39 = .ok (.putfield 31, 3) := by decide +kernel
theorem dX5_init_42 : decode cX5_init 42 = .ok (.aload_n 0, 1) := by decide +kernel
theorem dX5_init_43 : decode cX5_init 43 = .ok (.new 35, 3) := by decide +kernel
theorem dX5_init_46 : decode cX5_init 46 = .ok (.dup, 1) := by decide +kernel
theorem dX5_init_47 : decode cX5_init 47 = .ok (.invokespecial 37, 3) := by decide +kernel
theorem dX5_init_50 : decode cX5_init 50 = .ok (.putfield 38, 3) := by decide +kernel
theorem dX5_init_53 : decode cX5_init 53 = .ok (.return_, 1) := by decide +kernel
set_option maxRecDepth 20000 in
theorem ggX5_far_X5_isWithin : GoodIn wsX5_far wsX5_isWithin := goodIn_r _ [8] (by decide +kernel) (by decide +kernel)
set_option maxRecDepth 20000 in
theorem gX5_far_X5_isWithin : GoodIn wsX5_far (va_wsS RX5 42 yX5_isWithin wsX5_isWithin) := goodIn_app (goodIn_of _ (by decide +kernel)) ggX5_far_X5_isWithin
set_option maxRecDepth 20000 in
theorem ggX5_far_X5_factorial : GoodIn wsX5_far wsX5_factorial := goodIn_r _ [11] (by decide +kernel) (by decide +kernel)
set_option maxRecDepth 20000 in
theorem gX5_far_X5_factorial : GoodIn wsX5_far (va_wsS RX5 248 yX5_factorial wsX5_factorial) := goodIn_app (goodIn_of _ (by decide +kernel)) ggX5_far_X5_factorial
set_option maxRecDepth 20000 in
theorem ggX5_far_X5_power : GoodIn wsX5_far wsX5_power := goodIn_r _ [14] (by decide +kernel) (by decide +kernel)
set_option maxRecDepth 20000 in
theorem gX5_far_X5_power : GoodIn wsX5_far (va_wsS RX5 213 yX5_power wsX5_power) := goodIn_app (goodIn_of _ (by decide +kernel)) ggX5_far_X5_power
set_option maxRecDepth 20000 in
theorem ggX5_far_X0_shuffle : GoodIn wsX5_far wsX0_shuffle := goodIn_r _ [18, 19, 20, 7, 21, 22, 23, 49] (by decide +kernel) (by decide +kernel)
set_option maxRecDepth 20000 in
theorem gX5_far_X0_shuffle_n251 : GoodIn wsX5_far (wsX0_shuffle) := ggX5_far_X0_shuffle
set_option maxRecDepth 20000 in
theorem ggX5_far_X0_sumOfDifferences : GoodIn wsX5_far wsX0_sumOfDifferences := goodIn_r _ [26, 19, 27, 28, 29, 30, 22, 7, 23, 31, 32, 16, 33, 49] (by decide +kernel) (by decide +kernel)
set_option maxRecDepth 20000 in
theorem gX5_far_X0_sumOfDifferences_n255 : GoodIn wsX5_far (wsX0_sumOfDifferences) := ggX5_far_X0_sumOfDifferences
set_option maxRecDepth 20000 in
theorem ggX5_far_X5_part : GoodIn wsX5_far wsX5_part := goodIn_r _ [36, 37, 28, 29, 30, 38, 39, 7, 40] (by decide +kernel) (by decide +kernel)
set_option maxRecDepth 20000 in
theorem gX5_far_X5_part : GoodIn wsX5_far (va_wsS RX5 161 yX5_part wsX5_part) := goodIn_app (goodIn_of _ (by decide +kernel)) ggX5_far_X5_part
theorem dX5_far_0 : decode cX5_far 0 = .ok (.iload_n 1, 1) := by decide +kernel
theorem dX5_far_1 : decode cX5_far 1 = .ok (.iconst 1, 1) := by decide +kernel
theorem dX5_far_2 : decode cX5_far 2 = .ok (.iconst 5, 1) := by decide +kernel
theorem dX5_far_3 : decode cX5_far 3 = .ok (.invokestatic 42, 3) := by decide +kernel
theorem dX5_far_6 : decode cX5_far 6 = .ok (.ifCond .eq 13, 3) := by decide +kernel
theorem dX5_far_9 : decode cX5_far 9 = .ok (.iload_n 2, 1) := by decide +kernel
theorem dX5_far_10 : decode cX5_far 10 = .ok (.iconst 0, 1) := by decide +kernel
theorem dX5_far_11 : decode cX5_far 11 = .ok (.bipush 7, 2) := by decide +kernel
theorem dX5_far_13 : decode cX5_far 13 = .ok (.invokestatic 42, 3) := by decide +kernel
theorem dX5_far_16 : decode cX5_far 16 = .ok (.ifCond .ne 13, 3) := by decide +kernel
theorem dX5_far_29 : decode cX5_far 29 = .ok (.iload_n 1, 1) := by decide +kernel
theorem dX5_far_30 : decode cX5_far 30 = .ok (.invokestatic 248, 3) := by decide +kernel
theorem dX5_far_33 : decode cX5_far 33 = .ok (.lstore 4, 2) := by decide +kernel
theorem dX5_far_35 : decode cX5_far 35 = .ok (.iload_n 1, 1) := by decide +kernel
theorem dX5_far_36 : decode cX5_far 36 = .ok (.iload_n 2, 1) := by decide +kernel
theorem dX5_far_37 : decode cX5_far 37 = .ok (.invokestatic 213, 3) := by decide +kernel
theorem dX5_far_40 : decode cX5_far 40 = .ok (.lstore 6, 2) := by decide +kernel
theorem dX5_far_42 : decode cX5_far 42 = .ok (.aload_n 0, 1) := by decide +kernel
theorem dX5_far_43 : decode cX5_far 43 = .ok (.getfield 38, 3) := by decide +kernel
theorem dX5_far_46 : decode cX5_far 46 = .ok (.iload_n 1, 1) := by decide +kernel
theorem dX5_far_47 : decode cX5_far 47 = .ok (.iload_n 2, 1) := by decide +kernel
theorem dX5_far_48 : decode cX5_far 48 = .ok (.invokevirtual 251, 3) := by decide +kernel
theorem dX5_far_51 : decode cX5_far 51 = .ok (.aload_n 0, 1) := by decide +kernel
theorem dX5_far_52 : decode cX5_far 52 = .ok (.getfield 38, 3) := by decide +kernel
theorem dX5_far_55 : decode cX5_far 55 = .ok (.iload_n 1, 1) := by decide +kernel
theorem dX5_far_56 : decode cX5_far 56 = .ok (.lload 4, 2) := by decide +kernel
theorem dX5_far_58 : decode cX5_far 58 = .ok (.lload 6, 2) := by decide +kernel
theorem dX5_far_60 : decode cX5_far 60 = .ok (.invokevirtual 255, 3) := by decide +kernel
theorem dX5_far_63 : decode cX5_far 63 = .ok (.ldc2_w 229, 3) := by decide +kernel
theorem dX5_far_66 : decode cX5_far 66 = .ok (.lload 4, 2) := by decide +kernel
theorem dX5_far_68 : decode cX5_far 68 = .ok (.lmul, 1) := by decide +kernel
theorem dX5_far_69 : decode cX5_far 69 = .ok (.lload 6, 2) := by decide +kernel
theorem dX5_far_71 : decode cX5_far 71 = .ok (.lmul, 1) := by decide +kernel
theorem dX5_far_72 : decode cX5_far 72 = .ok (.iload_n 3, 1) := by decide +kernel
theorem dX5_far_73 : decode cX5_far 73 = .ok (.invokestatic 161, 3) := by decide +kernel
theorem dX5_far_76 : decode cX5_far 76 = .ok (.lreturn, 1) := by decide +kernel
theorem dX5_isWithin_0 : decode cX5_isWithin 0 = .ok (.iload_n 0, 1) := by decide +kernel
theorem dX5_isWithin_1 : decode cX5_isWithin 1 = .ok (.iload_n 1, 1) := by decide +kernel
theorem dX5_isWithin_2 : decode cX5_isWithin 2 = .ok (.if_icmp .lt 12, 3) := by decide +kernel
theorem dX5_isWithin_5 : decode cX5_isWithin 5 = .ok (.iload_n 0, 1) := by decide +kernel
theorem dX5_isWithin_6 : decode cX5_isWithin 6 = .ok (.iload_n 2, 1) := by decide +kernel
theorem dX5_isWithin_7 : decode cX5_isWithin 7 = .ok (.if_icmp .gt 7, 3) := by decide +kernel
theorem dX5_isWithin_10 : decode cX5_isWithin 10 = .ok (.iconst 1, 1) := by decide +kernel
theorem dX5_isWithin_11 : decode cX5_isWithin 11 = .ok (.goto 4, 3) := by decide +kernel
theorem dX5_isWithin_14 : decode cX5_isWithin 14 = .ok (.iconst 0, 1) := by decide +kernel
theorem dX5_isWithin_15 : decode cX5_isWithin 15 = .ok (.ireturn, 1) := by decide +kernel
theorem dX5_at__0 : decode cX5_at_ 0 = .ok (.iload_n 1, 1) := by decide +kernel
theorem dX5_at__1 : decode cX5_at_ 1 = .ok (.ifCond .lt 15, 3) := by decide +kernel
theorem dX5_at__4 : decode cX5_at_ 4 = .ok (.iload_n 1, 1) := by decide +kernel
theorem dX5_at__5 : decode cX5_at_ 5 = .ok (.aload_n 0, 1) := by decide +kernel
theorem dX5_at__6 : decode cX5_at_ 6 = .ok (.arraylength, 1) := by decide +kernel
theorem dX5_at__7 : decode cX5_at_ 7 = .ok (.if_icmp .ge 9, 3) := by decide +kernel
theorem dX5_at__10 : decode cX5_at_ 10 = .ok (.aload_n 0, 1) := by decide +kernel
theorem dX5_at__11 : decode cX5_at_ 11 = .ok (.iload_n 1, 1) := by decide +kernel
theorem dX5_at__12 : decode cX5_at_ 12 = .ok (.laload, 1) := by decide +kernel
theorem dX5_at__13 : decode cX5_at_ 13 = .ok (.goto 4, 3) := by decide +kernel
theorem dX5_at__16 : decode cX5_at_ 16 = .ok (.lconst 0, 1) := by decide +kernel
theorem dX5_at__17 : decode cX5_at_ 17 = .ok (.lreturn, 1) := by decide +kernel
theorem dX5_put__0 : decode cX5_put_ 0 = .ok (.iload_n 1, 1) := by decide +kernel
theorem dX5_put__1 : decode cX5_put_ 1 = .ok (.ifCond .lt 13, 3) := by decide +kernel
theorem dX5_put__4 : decode cX5_put_ 4 = .ok (.iload_n 1, 1) := by decide +kernel
theorem dX5_put__5 : decode cX5_put_ 5 = .ok (.aload_n 0, 1) := by decide +kernel
theorem dX5_put__6 : decode cX5_put_ 6 = .ok (.arraylength, 1) := by decide +kernel
theorem dX5_put__7 : decode cX5_put_ 7 = .ok (.if_icmp .ge 7, 3) := by decide +kernel
theorem dX5_put__10 : decode cX5_put_ 10 = .ok (.aload_n 0, 1) := by decide +kernel
theorem dX5_put__11 : decode cX5_put_ 11 = .ok (.iload_n 1, 1) := by decide +kernel
theorem dX5_put__12 : decode cX5_put_ 12 = .ok (.lload_n 2, 1) := by decide +kernel
theorem dX5_put__13 : decode cX5_put_ 13 = .ok (.lastore, 1) := by decide +kernel
theorem dX5_put__14 : decode cX5_put_ 14 = .ok (.return_, 1) := by decide +kernel
set_option maxRecDepth 20000 in
theorem ggX5_part_X5_sharedDivisor : GoodIn wsX5_part wsX5_sharedDivisor := goodIn_r _ [8] (by decide +kernel) (by decide +kernel)
set_option maxRecDepth 20000 in
theorem gX5_part_X5_sharedDivisor : GoodIn wsX5_part (va_wsS RX5 361 yX5_sharedDivisor wsX5_sharedDivisor) := goodIn_app (goodIn_of _ (by decide +kernel)) ggX5_part_X5_sharedDivisor
theorem dX5_part_0 : decode cX5_part 0 = .ok (.lload_n 0, 1) := by decide +kernel
theorem dX5_part_1 : decode cX5_part 1 = .ok (.invokestatic 358, 3) := by decide +kernel
theorem dX5_part_4 : decode cX5_part 4 = .ok (.lload_n 2, 1) := by decide +kernel
theorem dX5_part_5 : decode cX5_part 5 = .ok (.invokestatic 358, 3) := by decide +kernel
theorem dX5_part_8 : decode cX5_part 8 = .ok (.invokestatic 361, 3) := by decide +kernel
theorem dX5_part_11 : decode cX5_part 11 = .ok (.lstore 5, 2) := by decide +kernel
theorem dX5_part_13 : decode cX5_part 13 = .ok (.lload_n 2, 1) := by decide +kernel
theorem dX5_part_14 : decode cX5_part 14 = .ok (.lconst 0, 1) := by decide +kernel
theorem dX5_part_15 : decode cX5_part 15 = .ok (.lcmp, 1) := by decide +kernel
theorem dX5_part_16 : decode cX5_part 16 = .ok (.ifCond .eq 10, 3) := by decide +kernel
theorem dX5_part_19 : decode cX5_part 19 = .ok (.lload 5, 2) := by decide +kernel
theorem dX5_part_21 : decode cX5_part 21 = .ok (.lconst 0, 1) := by decide +kernel
theorem dX5_part_22 : decode cX5_part 22 = .ok (.lcmp, 1) := by decide +kernel
theorem dX5_part_23 : decode cX5_part 23 = .ok (.ifCond .ne 14, 3) := by decide +kernel
theorem dX5_part_26 : decode cX5_part 26 = .ok (.iload 4, 2) := by decide +kernel
theorem dX5_part_28 : decode cX5_part 28 = .ok (.ifCond .eq 7, 3) := by decide +kernel
theorem dX5_part_31 : decode cX5_part 31 = .ok (.lconst 1, 1) := by decide +kernel
theorem dX5_part_32 : decode cX5_part 32 = .ok (.goto 4, 3) := by decide +kernel
theorem dX5_part_35 : decode cX5_part 35 = .ok (.lconst 0, 1) := by decide +kernel
theorem dX5_part_36 : decode cX5_part 36 = .ok (.lreturn, 1) := by decide +kernel
theorem dX5_part_37 : decode cX5_part 37 = .ok (.iload 4, 2) := by decide +kernel
theorem dX5_part_39 : decode cX5_part 39 = .ok (.ifCond .eq 7, 3) := by decide +kernel
theorem dX5_part_42 : decode cX5_part 42 = .ok (.lload_n 2, 1) := by decide +kernel
theorem dX5_part_43 : decode cX5_part 43 = .ok (.goto 4, 3) := by decide +kernel
theorem dX5_part_46 : decode cX5_part 46 = .ok (.lload_n 0, 1) := by decide +kernel
theorem dX5_part_47 : decode cX5_part 47 = .ok (.lload 5, 2) := by decide +kernel
theorem dX5_part_49 : decode cX5_part 49 = .ok (.ldiv, 1) := by decide +kernel
theorem dX5_part_50 : decode cX5_part 50 = .ok (.lstore 7, 2) := by decide +kernel
theorem dX5_part_52 : decode cX5_part 52 = .ok (.lload_n 2, 1) := by decide +kernel
theorem dX5_part_53 : decode cX5_part 53 = .ok (.lconst 0, 1) := by decide +kernel
theorem dX5_part_54 : decode cX5_part 54 = .ok (.lcmp, 1) := by decide +kernel
theorem dX5_part_55 : decode cX5_part 55 = .ok (.ifCond .ge 9, 3) := by decide +kernel
theorem dX5_part_58 : decode cX5_part 58 = .ok (.lload 7, 2) := by decide +kernel
theorem dX5_part_60 : decode cX5_part 60 = .ok (.lneg, 1) := by decide +kernel
theorem dX5_part_61 : decode cX5_part 61 = .ok (.goto 5, 3) := by decide +kernel
theorem dX5_part_64 : decode cX5_part 64 = .ok (.lload 7, 2) := by decide +kernel
theorem dX5_part_66 : decode cX5_part 66 = .ok (.lreturn, 1) := by decide +kernel
theorem dX5_sharedDivisor_0 : decode cX5_sharedDivisor 0 = .ok (.lload_n 0, 1) := by decide +kernel
theorem dX5_sharedDivisor_1 : decode cX5_sharedDivisor 1 = .ok (.lstore 4, 2) := by decide +kernel
theorem dX5_sharedDivisor_3 : decode cX5_sharedDivisor 3 = .ok (.lload_n 2, 1) := by decide +kernel
theorem dX5_sharedDivisor_4 : decode cX5_sharedDivisor 4 = .ok (.lstore 6, 2) := by decide +kernel
theorem dX5_sharedDivisor_6 : decode cX5_sharedDivisor 6 = .ok (.iconst 0, 1) := by decide +kernel
theorem dX5_sharedDivisor_7 : decode cX5_sharedDivisor 7 = .ok (.istore 8, 2) := by decide +kernel
theorem dX5_sharedDivisor_9 : decode cX5_sharedDivisor 9 = .ok (.iload 8, 2) := by decide +kernel
theorem dX5_sharedDivisor_11 : decode cX5_sharedDivisor 11 = .ok (.bipush 100, 2) := by decide +kernel
theorem dX5_sharedDivisor_13 : decode cX5_sharedDivisor 13 = .ok (.if_icmp .ge 31, 3) := by decide +kernel
theorem dX5_sharedDivisor_16 : decode cX5_sharedDivisor 16 = .ok (.lload 6, 2) := by decide +kernel
theorem dX5_sharedDivisor_18 : decode cX5_sharedDivisor 18 = .ok (.lconst 0, 1) := by decide +kernel
theorem dX5_sharedDivisor_19 : decode cX5_sharedDivisor 19 = .ok (.lcmp, 1) := by decide +kernel
theorem dX5_sharedDivisor_20 : decode cX5_sharedDivisor 20 = .ok (.ifCond .eq 24, 3) := by decide +kernel
theorem dX5_sharedDivisor_23 : decode cX5_sharedDivisor 23 = .ok (.lload 4, 2) := by decide +kernel
theorem dX5_sharedDivisor_25 : decode cX5_sharedDivisor 25 = .ok (.lload 6, 2) := by decide +kernel
theorem dX5_sharedDivisor_27 : decode cX5_sharedDivisor 27 = .ok (.lrem, 1) := by decide +kernel
theorem dX5_sharedDivisor_28 : decode cX5_sharedDivisor 28 = .ok (.lstore 9, 2) := by decide +kernel
theorem dX5_sharedDivisor_30 : decode cX5_sharedDivisor 30 = .ok (.lload 6, 2) := by decide +kernel
theorem dX5_sharedDivisor_32 : decode cX5_sharedDivisor 32 = .ok (.lstore 4, 2) := by decide +kernel
theorem dX5_sharedDivisor_34 : decode cX5_sharedDivisor 34 = .ok (.lload 9, 2) := by decide +kernel
theorem dX5_sharedDivisor_36 : decode cX5_sharedDivisor 36 = .ok (.lstore 6, 2) := by decide +kernel
theorem dX5_sharedDivisor_38 : decode cX5_sharedDivisor 38 = .ok (.iinc 8 1, 3) := by decide +kernel
theorem dX5_sharedDivisor_41 : decode cX5_sharedDivisor 41 = .ok (.goto (-32), 3) := by decide +kernel
theorem dX5_sharedDivisor_44 : decode cX5_sharedDivisor 44 = .ok (.lload 4, 2) := by decide +kernel
theorem dX5_sharedDivisor_46 : decode cX5_sharedDivisor 46 = .ok (.lreturn, 1) := by decide +kernel
theorem dX5_power_0 : decode cX5_power 0 = .ok (.lconst 1, 1) := by decide +kernel
theorem dX5_power_1 : decode cX5_power 1 = .ok (.lstore_n 2, 1) := by decide +kernel
theorem dX5_power_2 : decode cX5_power 2 = .ok (.iconst 0, 1) := by decide +kernel
theorem dX5_power_3 : decode cX5_power 3 = .ok (.istore 4, 2) := by decide +kernel
theorem dX5_power_5 : decode cX5_power 5 = .ok (.iload 4, 2) := by decide +kernel
theorem dX5_power_7 : decode cX5_power 7 = .ok (.iload_n 1, 1) := by decide +kernel
theorem dX5_power_8 : decode cX5_power 8 = .ok (.if_icmp .ge 14, 3) := by decide +kernel
theorem dX5_power_11 : decode cX5_power 11 = .ok (.lload_n 2, 1) := by decide +kernel
theorem dX5_power_12 : decode cX5_power 12 = .ok (.iload_n 0, 1) := by decide +kernel
theorem dX5_power_13 : decode cX5_power 13 = .ok (.i2l, 1) := by decide +kernel
theorem dX5_power_14 : decode cX5_power 14 = .ok (.lmul, 1) := by decide +kernel
theorem dX5_power_15 : decode cX5_power 15 = .ok (.lstore_n 2, 1) := by decide +kernel
theorem dX5_power_16 : decode cX5_power 16 = .ok (.iinc 4 1, 3) := by decide +kernel
theorem dX5_power_19 : decode cX5_power 19 = .ok (.goto (-14), 3) := by decide +kernel
theorem dX5_power_22 : decode cX5_power 22 = .ok (.lload_n 2, 1) := by decide +kernel
theorem dX5_power_23 : decode cX5_power 23 = .ok (.lreturn, 1) := by decide +kernel
theorem dX5_factorial_0 : decode cX5_factorial 0 = .ok (.lconst 1, 1) := by decide +kernel
theorem dX5_factorial_1 : decode cX5_factorial 1 = .ok (.lstore_n 1, 1) := by decide +kernel
theorem dX5_factorial_2 : decode cX5_factorial 2 = .ok (.iconst 2, 1) := by decide +kernel
theorem dX5_factorial_3 : decode cX5_factorial 3 = .ok (.istore_n 3, 1) := by decide +kernel
theorem dX5_factorial_4 : decode cX5_factorial 4 = .ok (.iload_n 3, 1) := by decide +kernel
theorem dX5_factorial_5 : decode cX5_factorial 5 = .ok (.iload_n 0, 1) := by decide +kernel
theorem dX5_factorial_6 : decode cX5_factorial 6 = .ok (.if_icmp .gt 14, 3) := by decide +kernel
theorem dX5_factorial_9 : decode cX5_factorial 9 = .ok (.lload_n 1, 1) := by decide +kernel
theorem dX5_factorial_10 : decode cX5_factorial 10 = .ok (.iload_n 3, 1) := by decide +kernel
theorem dX5_factorial_11 : decode cX5_factorial 11 = .ok (.i2l, 1) := by decide +kernel
theorem dX5_factorial_12 : decode cX5_factorial 12 = .ok (.lmul, 1) := by decide +kernel
theorem dX5_factorial_13 : decode cX5_factorial 13 = .ok (.lstore_n 1, 1) := by decide +kernel
theorem dX5_factorial_14 : decode cX5_factorial 14 = .ok (.iinc 3 1, 3) := by decide +kernel
theorem dX5_factorial_17 : decode cX5_factorial 17 = .ok (.goto (-13), 3) := by decide +kernel
theorem dX5_factorial_20 : decode cX5_factorial 20 = .ok (.lload_n 1, 1) := by decide +kernel
theorem dX5_factorial_21 : decode cX5_factorial 21 = .ok (.lreturn, 1) := by decide +kernel
theorem dX6_init_0 : decode cX6_init 0 = .ok (.aload_n 0, 1) := by decide +kernel
theorem dX6_init_1 : decode cX6_init 1 = .ok (.invokespecial 1, 3) := by decide +kernel
theorem dX6_init_4 : decode cX6_init 4 = .ok (.return_, 1) := by decide +kernel
theorem dX8_init_0 : decode cX8_init 0 = .ok (.aload_n 0, 1) := by decide +kernel
theorem dX8_init_1 : decode cX8_init 1 = .ok (.invokespecial 1, 3) := by decide +kernel
theorem dX8_init_4 : decode cX8_init 4 = .ok (.aload_n 0, 1) := by decide +kernel
theorem dX8_init_5 : decode cX8_init 5 = .ok (.lconst 0, 1) := by decide +kernel
theorem dX8_init_6 : decode cX8_init 6 = .ok (.putfield 7, 3) := by decide +kernel
theorem dX8_init_9 : decode cX8_init 9 = .ok (.aload_n 0, 1) := by decide +kernel
theorem dX8_init_10 : decode cX8_init 10 = .ok (.lconst 1, 1) := by decide +kernel
theorem dX8_init_11 : decode cX8_init 11 = .ok (.putfield 13, 3) := by decide +kernel
theorem dX8_init_14 : decode cX8_init 14 = .ok (.return_, 1) := by decide +kernel
set_option maxRecDepth 20000 in
theorem ggX8_add_X10_common : GoodIn wsX8_add wsX10_common := goodIn_r _ [9] (by decide +kernel) (by decide +kernel)
set_option maxRecDepth 20000 in
theorem gX8_add_X10_common_n16 : GoodIn wsX8_add (wsX10_common) := ggX8_add_X10_common
theorem dX8_add_0 : decode cX8_add 0 = .ok (.aload_n 0, 1) := by decide +kernel
theorem dX8_add_1 : decode cX8_add 1 = .ok (.getfield 13, 3) := by decide +kernel
theorem dX8_add_4 : decode cX8_add 4 = .ok (.lload 5, 2) := by decide +kernel
theorem dX8_add_6 : decode cX8_add 6 = .ok (.invokestatic 16, 3) := by decide +kernel
theorem dX8_add_9 : decode cX8_add 9 = .ok (.lstore 7, 2) := by decide +kernel
theorem dX8_add_11 : decode cX8_add 11 = .ok (.aload_n 0, 1) := by decide +kernel
theorem dX8_add_12 : decode cX8_add 12 = .ok (.getfield 7, 3) := by decide +kernel
theorem dX8_add_15 : decode cX8_add 15 = .ok (.lload 5, 2) := by decide +kernel
theorem dX8_add_17 : decode cX8_add 17 = .ok (.lload 7, 2) := by decide +kernel
theorem dX8_add_19 : decode cX8_add 19 = .ok (.ldiv, 1) := by decide +kernel
theorem dX8_add_20 : decode cX8_add 20 = .ok (.lmul, 1) := by decide +kernel
theorem dX8_add_21 : decode cX8_add 21 = .ok (.lload_n 1, 1) := by decide +kernel
theorem dX8_add_22 : decode cX8_add 22 = .ok (.lload_n 3, 1) := by decide +kernel
theorem dX8_add_23 : decode cX8_add 23 = .ok (.lmul, 1) := by decide +kernel
theorem dX8_add_24 : decode cX8_add 24 = .ok (.aload_n 0, 1) := by decide +kernel
theorem dX8_add_25 : decode cX8_add 25 = .ok (.getfield 13, 3) := by decide +kernel
theorem dX8_add_28 : decode cX8_add 28 = .ok (.lload 7, 2) := by decide +kernel
theorem dX8_add_30 : decode cX8_add 30 = .ok (.ldiv, 1) := by decide +kernel
theorem dX8_add_31 : decode cX8_add 31 = .ok (.lmul, 1) := by decide +kernel
theorem dX8_add_32 : decode cX8_add 32 = .ok (.ladd, 1) := by decide +kernel
theorem dX8_add_33 : decode cX8_add 33 = .ok (.lstore 9, 2) := by decide +kernel
theorem dX8_add_35 : decode cX8_add 35 = .ok (.aload_n 0, 1) := by decide +kernel
theorem dX8_add_36 : decode cX8_add 36 = .ok (.getfield 13, 3) := by decide +kernel
theorem dX8_add_39 : decode cX8_add 39 = .ok (.lload 7, 2) := by decide +kernel
theorem dX8_add_41 : decode cX8_add 41 = .ok (.ldiv, 1) := by decide +kernel
theorem dX8_add_42 : decode cX8_add 42 = .ok (.lload 5, 2) := by decide +kernel
theorem dX8_add_44 : decode cX8_add 44 = .ok (.lmul, 1) := by decide +kernel
theorem dX8_add_45 : decode cX8_add 45 = .ok (.lstore 11, 2) := by decide +kernel
theorem dX8_add_47 : decode cX8_add 47 = .ok (.lload 9, 2) := by decide +kernel
theorem dX8_add_49 : decode cX8_add 49 = .ok (.invokestatic 22, 3) := by decide +kernel
theorem dX8_add_52 : decode cX8_add 52 = .ok (.lload 11, 2) := by decide +kernel
theorem dX8_add_54 : decode cX8_add 54 = .ok (.invokestatic 16, 3) := by decide +kernel
theorem dX8_add_57 : decode cX8_add 57 = .ok (.lstore 13, 2) := by decide +kernel
theorem dX8_add_59 : decode cX8_add 59 = .ok (.aload_n 0, 1) := by decide +kernel
theorem dX8_add_60 : decode cX8_add 60 = .ok (.lload 9, 2) := by decide +kernel
theorem dX8_add_62 : decode cX8_add 62 = .ok (.lload 13, 2) := by decide +kernel
theorem dX8_add_64 : decode cX8_add 64 = .ok (.ldiv, 1) := by decide +kernel
theorem dX8_add_65 : decode cX8_add 65 = .ok (.putfield 7, 3) := by decide +kernel
theorem dX8_add_68 : decode cX8_add 68 = .ok (.aload_n 0, 1) := by decide +kernel
theorem dX8_add_69 : decode cX8_add 69 = .ok (.lload 11, 2) := by decide +kernel
theorem dX8_add_71 : decode cX8_add 71 = .ok (.lload 13, 2) := by decide +kernel
theorem dX8_add_73 : decode cX8_add 73 = .ok (.ldiv, 1) := by decide +kernel
theorem dX8_add_74 : decode cX8_add 74 = .ok (.putfield 13, 3) := by decide +kernel
theorem dX8_add_77 : decode cX8_add 77 = .ok (.aload_n 0, 1) := by decide +kernel
theorem dX8_add_78 : decode cX8_add 78 = .ok (.areturn, 1) := by decide +kernel
theorem dX8_part_0 : decode cX8_part 0 = .ok (.iload_n 1, 1) := by decide +kernel
theorem dX8_part_1 : decode cX8_part 1 = .ok (.ifCond .eq 10, 3) := by decide +kernel
theorem dX8_part_4 : decode cX8_part 4 = .ok (.aload_n 0, 1) := by decide +kernel
theorem dX8_part_5 : decode cX8_part 5 = .ok (.getfield 13, 3) := by decide +kernel
theorem dX8_part_8 : decode cX8_part 8 = .ok (.goto 7, 3) := by decide +kernel
theorem dX8_part_11 : decode cX8_part 11 = .ok (.aload_n 0, 1) := by decide +kernel
theorem dX8_part_12 : decode cX8_part 12 = .ok (.getfield 7, 3) := by decide +kernel
theorem dX8_part_15 : decode cX8_part 15 = .ok (.lreturn, 1) := by decide +kernel
set_option maxRecDepth 20000 in
theorem ggX10_init_Jx4a65c_init_da8c8 : GoodIn wsX10_init wsJx4a65c_init_da8c8 := goodIn_r _ [11, 12, 13, 14, 15, 16, 17, 18, 19, 20, 21, 22, 23, 2, 3, 24, 25, 26] (by decide +kernel) (by decide +kernel)
set_option maxRecDepth 20000 in
theorem gX10_init_Jx4a65c_init_da8c8 : GoodIn wsX10_init (wsJx4a65c_init_da8c8) := ggX10_init_Jx4a65c_init_da8c8
theorem dX10_init_0 : decode cX10_init 0 = .ok (.aload_n 0, 1) := by decide +kernel
theorem dX10_init_1 : decode cX10_init 1 = .ok (.invokespecial 1, 3) := by decide +kernel
theorem dX10_init_4 : decode cX10_init 4 = .ok (.aload_n 0, 1) := by decide +kernel
theorem dX10_init_5 : decode cX10_init 5 = .ok (.new 7, 3) := by decide +kernel
theorem dX10_init_8 : decode cX10_init 8 = .ok (.dup, 1) := by decide +kernel
theorem dX10_init_9 : decode cX10_init 9 = .ok (.invokespecial 9, 3) := by decide +kernel
theorem dX10_init_12 : decode cX10_init 12 = .ok (.putfield 10, 3) := by decide +kernel
theorem dX10_init_15 : decode cX10_init 15 = .ok (.aload_n 0, 1) := by decide +kernel
theorem dX10_init_16 : decode cX10_init 16 = .ok (.new 7, 3) := by decide +kernel
theorem dX10_init_19 : decode cX10_init 19 = .ok (.dup, 1) := by decide +kernel
theorem dX10_init_20 : decode cX10_init 20 = .ok (.invokespecial 9, 3) := by decide +kernel
theorem dX10_init_23 : decode cX10_init 23 = .ok (.putfield 16, 3) := by decide +kernel
theorem dX10_init_26 : decode cX10_init 26 = .ok (.return_, 1) := by decide +kernel
theorem dX10_in_0 : decode cX10_in 0 = .ok (.iload_n 0, 1) := by decide +kernel
theorem dX10_in_1 : decode cX10_in 1 = .ok (.iload_n 1, 1) := by decide +kernel
theorem dX10_in_2 : decode cX10_in 2 = .ok (.if_icmp .lt 12, 3) := by decide +kernel
theorem dX10_in_5 : decode cX10_in 5 = .ok (.iload_n 0, 1) := by decide +kernel
theorem dX10_in_6 : decode cX10_in 6 = .ok (.iload_n 2, 1) := by decide +kernel
theorem dX10_in_7 : decode cX10_in 7 = .ok (.if_icmp .gt 7, 3) := by decide +kernel
theorem dX10_in_10 : decode cX10_in 10 = .ok (.iconst 1, 1) := by decide +kernel
theorem dX10_in_11 : decode cX10_in 11 = .ok (.goto 4, 3) := by decide +kernel
theorem dX10_in_14 : decode cX10_in 14 = .ok (.iconst 0, 1) := by decide +kernel
theorem dX10_in_15 : decode cX10_in 15 = .ok (.ireturn, 1) := by decide +kernel
theorem dX10_common_0 : decode cX10_common 0 = .ok (.lload_n 0, 1) := by decide +kernel
theorem dX10_common_1 : decode cX10_common 1 = .ok (.lstore 4, 2) := by decide +kernel
theorem dX10_common_3 : decode cX10_common 3 = .ok (.lload_n 2, 1) := by decide +kernel
theorem dX10_common_4 : decode cX10_common 4 = .ok (.lstore 6, 2) := by decide +kernel
theorem dX10_common_6 : decode cX10_common 6 = .ok (.lload 6, 2) := by decide +kernel
theorem dX10_common_8 : decode cX10_common 8 = .ok (.lconst 0, 1) := by decide +kernel
theorem dX10_common_9 : decode cX10_common 9 = .ok (.lcmp, 1) := by decide +kernel
theorem dX10_common_10 : decode cX10_common 10 = .ok (.ifCond .eq 21, 3) := by decide +kernel
theorem dX10_common_13 : decode cX10_common 13 = .ok (.lload 4, 2) := by decide +kernel
theorem dX10_common_15 : decode cX10_common 15 = .ok (.lload 6, 2) := by decide +kernel
theorem dX10_common_17 : decode cX10_common 17 = .ok (.lrem, 1) := by decide +kernel
theorem dX10_common_18 : decode cX10_common 18 = .ok (.lstore 8, 2) := by decide +kernel
theorem dX10_common_20 : decode cX10_common 20 = .ok (.lload 6, 2) := by decide +kernel
theorem dX10_common_22 : decode cX10_common 22 = .ok (.lstore 4, 2) := by decide +kernel
theorem dX10_common_24 : decode cX10_common 24 = .ok (.lload 8, 2) := by decide +kernel
theorem dX10_common_26 : decode cX10_common 26 = .ok (.lstore 6, 2) := by decide +kernel
theorem dX10_common_28 : decode cX10_common 28 = .ok (.goto (-22), 3) := by decide +kernel
theorem dX10_common_31 : decode cX10_common 31 = .ok (.lload 4, 2) := by decide +kernel
theorem dX10_common_33 : decode cX10_common 33 = .ok (.lreturn, 1) := by decide +kernel
theorem dX10_shuffled_0 : decode cX10_shuffled 0 = .ok (.aload_n 0, 1) := by decide +kernel
theorem dX10_shuffled_1 : decode cX10_shuffled 1 = .ok (.arraylength, 1) := by decide +kernel
theorem dX10_shuffled_2 : decode cX10_shuffled 2 = .ok (.newarray .long, 2) := by decide +kernel
theorem dX10_shuffled_4 : decode cX10_shuffled 4 = .ok (.astore_n 2, 1) := by decide +kernel
theorem dX10_shuffled_5 : decode cX10_shuffled 5 = .ok (.iconst 0, 1) := by decide +kernel
theorem dX10_shuffled_6 : decode cX10_shuffled 6 = .ok (.istore_n 3, 1) := by decide +kernel
theorem dX10_shuffled_7 : decode cX10_shuffled 7 = .ok (.iload_n 3, 1) := by decide +kernel
theorem dX10_shuffled_8 : decode cX10_shuffled 8 = .ok (.aload_n 0, 1) := by decide +kernel
theorem dX10_shuffled_9 : decode cX10_shuffled 9 = .ok (.arraylength, 1) := by decide +kernel
theorem dX10_shuffled_10 : decode cX10_shuffled 10 = .ok (.if_icmp .ge 89, 3) := by decide +kernel
theorem dX10_shuffled_13 : decode cX10_shuffled 13 = .ok (.aload_n 0, 1) := by decide +kernel
theorem dX10_shuffled_14 : decode cX10_shuffled 14 = .ok (.iload_n 3, 1) := by decide +kernel
theorem dX10_shuffled_15 : decode cX10_shuffled 15 = .ok (.laload, 1) := by decide +kernel
theorem dX10_shuffled_16 : decode cX10_shuffled 16 = .ok (.lconst 0, 1) := by decide +kernel
theorem dX10_shuffled_17 : decode cX10_shuffled 17 = .ok (.lcmp, 1) := by decide +kernel
theorem dX10_shuffled_18 : decode cX10_shuffled 18 = .ok (.ifCond .ne 6, 3) := by decide +kernel
theorem dX10_shuffled_21 : decode cX10_shuffled 21 = .ok (.goto 72, 3) := by decide +kernel
theorem dX10_shuffled_24 : decode cX10_shuffled 24 = .ok (.iload_n 3, 1) := by decide +kernel
theorem dX10_shuffled_25 : decode cX10_shuffled 25 = .ok (.iload_n 1, 1) := by decide +kernel
theorem dX10_shuffled_26 : decode cX10_shuffled 26 = .ok (.irem, 1) := by decide +kernel
theorem dX10_shuffled_27 : decode cX10_shuffled 27 = .ok (.istore 4, 2) := by decide +kernel
theorem dX10_shuffled_29 : decode cX10_shuffled 29 = .ok (.iload_n 3, 1) := by decide +kernel
theorem dX10_shuffled_30 : decode cX10_shuffled 30 = .ok (.iload_n 1, 1) := by decide +kernel
theorem dX10_shuffled_31 : decode cX10_shuffled 31 = .ok (.idiv, 1) := by decide +kernel
theorem dX10_shuffled_32 : decode cX10_shuffled 32 = .ok (.istore 5, 2) := by decide +kernel
theorem dX10_shuffled_34 : decode cX10_shuffled 34 = .ok (.iconst 1, 1) := by decide +kernel
theorem dX10_shuffled_35 : decode cX10_shuffled 35 = .ok (.istore 6, 2) := by decide +kernel
theorem dX10_shuffled_37 : decode cX10_shuffled 37 = .ok (.iconst 0, 1) := by decide +kernel
theorem dX10_shuffled_38 : decode cX10_shuffled 38 = .ok (.istore 7, 2) := by decide +kernel
theorem dX10_shuffled_40 : decode cX10_shuffled 40 = .ok (.iload 7, 2) := by decide +kernel
theorem dX10_shuffled_42 : decode cX10_shuffled 42 = .ok (.iload_n 1, 1) := by decide +kernel
theorem dX10_shuffled_43 : decode cX10_shuffled 43 = .ok (.if_icmp .ge 50, 3) := by decide +kernel
theorem dX10_shuffled_46 : decode cX10_shuffled 46 = .ok (.iload 5, 2) := by decide +kernel
theorem dX10_shuffled_48 : decode cX10_shuffled 48 = .ok (.iload 6, 2) := by decide +kernel
theorem dX10_shuffled_50 : decode cX10_shuffled 50 = .ok (.irem, 1) := by decide +kernel
theorem dX10_shuffled_51 : decode cX10_shuffled 51 = .ok (.istore 8, 2) := by decide +kernel
theorem dX10_shuffled_53 : decode cX10_shuffled 53 = .ok (.iload 5, 2) := by decide +kernel
theorem dX10_shuffled_55 : decode cX10_shuffled 55 = .ok (.iload 6, 2) := by decide +kernel
theorem dX10_shuffled_57 : decode cX10_shuffled 57 = .ok (.idiv, 1) := by decide +kernel
theorem dX10_shuffled_58 : decode cX10_shuffled 58 = .ok (.istore 9, 2) := by decide +kernel
theorem dX10_shuffled_60 : decode cX10_shuffled 60 = .ok (.aload_n 2, 1) := by decide +kernel
theorem dX10_shuffled_61 : decode cX10_shuffled 61 = .ok (.iload 9, 2) := by decide +kernel
theorem dX10_shuffled_63 : decode cX10_shuffled 63 = .ok (.iload_n 1, 1) := by decide +kernel
theorem dX10_shuffled_64 : decode cX10_shuffled 64 = .ok (.imul, 1) := by decide +kernel
theorem dX10_shuffled_65 : decode cX10_shuffled 65 = .ok (.iload 4, 2) := by decide +kernel
theorem dX10_shuffled_67 : decode cX10_shuffled 67 = .ok (.iadd, 1) := by decide +kernel
theorem dX10_shuffled_68 : decode cX10_shuffled 68 = .ok (.iload 6, 2) := by decide +kernel
theorem dX10_shuffled_70 : decode cX10_shuffled 70 = .ok (.imul, 1) := by decide +kernel
theorem dX10_shuffled_71 : decode cX10_shuffled 71 = .ok (.iload 8, 2) := by decide +kernel
theorem dX10_shuffled_73 : decode cX10_shuffled 73 = .ok (.iadd, 1) := by decide +kernel
theorem dX10_shuffled_74 : decode cX10_shuffled 74 = .ok (.dup2, 1) := by decide +kernel
theorem dX10_shuffled_75 : decode cX10_shuffled 75 = .ok (.laload, 1) := by decide +kernel
theorem dX10_shuffled_76 : decode cX10_shuffled 76 = .ok (.aload_n 0, 1) := by decide +kernel
theorem dX10_shuffled_77 : decode cX10_shuffled 77 = .ok (.iload_n 3, 1) := by decide +kernel
theorem dX10_shuffled_78 : decode cX10_shuffled 78 = .ok (.laload, 1) := by decide +kernel
theorem dX10_shuffled_79 : decode cX10_shuffled 79 = .ok (.ladd, 1) := by decide +kernel
theorem dX10_shuffled_80 : decode cX10_shuffled 80 = .ok (.lastore, 1) := by decide +kernel
theorem dX10_shuffled_81 : decode cX10_shuffled 81 = .ok (.iload 6, 2) := by decide +kernel
theorem dX10_shuffled_83 : decode cX10_shuffled 83 = .ok (.iload_n 1, 1) := by decide +kernel
theorem dX10_shuffled_84 : decode cX10_shuffled 84 = .ok (.imul, 1) := by decide +kernel
theorem dX10_shuffled_85 : decode cX10_shuffled 85 = .ok (.istore 6, 2) := by decide +kernel
theorem dX10_shuffled_87 : decode cX10_shuffled 87 = .ok (.iinc 7 1, 3) := by decide +kernel
theorem dX10_shuffled_90 : decode cX10_shuffled 90 = .ok (.goto (-50), 3) := by decide +kernel
theorem dX10_shuffled_93 : decode cX10_shuffled 93 = .ok (.iinc 3 1, 3) := by decide +kernel
theorem dX10_shuffled_96 : decode cX10_shuffled 96 = .ok (.goto (-89), 3) := by decide +kernel
theorem dX10_shuffled_99 : decode cX10_shuffled 99 = .ok (.aload_n 2, 1) := by decide +kernel
theorem dX10_shuffled_100 : decode cX10_shuffled 100 = .ok (.areturn, 1) := by decide +kernel
set_option maxRecDepth 20000 in
theorem ggX10_far_X10_in : GoodIn wsX10_far wsX10_in := goodIn_r _ [13] (by decide +kernel) (by decide +kernel)
set_option maxRecDepth 20000 in
theorem gX10_far_X10_in : GoodIn wsX10_far (va_wsS RX10 29 yX10_in wsX10_in) := goodIn_app (goodIn_of _ (by decide +kernel)) ggX10_far_X10_in
set_option maxRecDepth 20000 in
theorem ggX10_far_X10_shuffled : GoodIn wsX10_far wsX10_shuffled := goodIn_r _ [20, 2] (by decide +kernel) (by decide +kernel)
set_option maxRecDepth 20000 in
theorem gX10_far_X10_shuffled : GoodIn wsX10_far (va_wsS RX10 236 yX10_shuffled wsX10_shuffled) := goodIn_app (goodIn_of _ (by decide +kernel)) ggX10_far_X10_shuffled
set_option maxRecDepth 20000 in
theorem ggX10_far_X8_init : GoodIn wsX10_far wsX8_init := goodIn_r _ [22, 23, 24, 25, 26, 27, 45, 46] (by decide +kernel) (by decide +kernel)
set_option maxRecDepth 20000 in
theorem gX10_far_X8_init_n113 : GoodIn wsX10_far (wsX8_init) := ggX10_far_X8_init
set_option maxRecDepth 20000 in
theorem ggX10_far_X8_add : GoodIn wsX10_far wsX8_add := goodIn_r _ [31, 27, 26, 32, 33, 5, 34, 35, 12, 36, 45, 46] (by decide +kernel) (by decide +kernel)
set_option maxRecDepth 20000 in
theorem gX10_far_X8_add : GoodIn wsX10_far (wsV RX10 114 RX8 yX8_add wsX8_add) := goodIn_app (goodIn_of _ (by decide +kernel)) ggX10_far_X8_add
set_option maxRecDepth 20000 in
theorem ggX10_far_X8_part : GoodIn wsX10_far wsX8_part := goodIn_r _ [40, 27, 26, 45, 46] (by decide +kernel) (by decide +kernel)
set_option maxRecDepth 20000 in
theorem gX10_far_X8_part : GoodIn wsX10_far (wsV RX10 107 RX8 yX8_part wsX8_part) := goodIn_app (goodIn_of _ (by decide +kernel)) ggX10_far_X8_part
theorem dX10_far_0 : decode cX10_far 0 = .ok (.aload_n 0, 1) := by decide +kernel
theorem dX10_far_1 : decode cX10_far 1 = .ok (.iconst 0, 1) := by decide +kernel
theorem dX10_far_2 : decode cX10_far 2 = .ok (.putfield 19, 3) := by decide +kernel
theorem dX10_far_5 : decode cX10_far 5 = .ok (.iload_n 1, 1) := by decide +kernel
theorem dX10_far_6 : decode cX10_far 6 = .ok (.iconst 1, 1) := by decide +kernel
theorem dX10_far_7 : decode cX10_far 7 = .ok (.iconst 5, 1) := by decide +kernel
theorem dX10_far_8 : decode cX10_far 8 = .ok (.invokestatic 29, 3) := by decide +kernel
theorem dX10_far_11 : decode cX10_far 11 = .ok (.ifCond .eq 13, 3) := by decide +kernel
theorem dX10_far_14 : decode cX10_far 14 = .ok (.iload_n 2, 1) := by decide +kernel
theorem dX10_far_15 : decode cX10_far 15 = .ok (.iconst 0, 1) := by decide +kernel
theorem dX10_far_16 : decode cX10_far 16 = .ok (.bipush 7, 2) := by decide +kernel
theorem dX10_far_18 : decode cX10_far 18 = .ok (.invokestatic 29, 3) := by decide +kernel
theorem dX10_far_21 : decode cX10_far 21 = .ok (.ifCond .ne 10, 3) := by decide +kernel
theorem dX10_far_31 : decode cX10_far 31 = .ok (.iconst 1, 1) := by decide +kernel
theorem dX10_far_32 : decode cX10_far 32 = .ok (.istore 4, 2) := by decide +kernel
theorem dX10_far_34 : decode cX10_far 34 = .ok (.iconst 0, 1) := by decide +kernel
theorem dX10_far_35 : decode cX10_far 35 = .ok (.istore 5, 2) := by decide +kernel
theorem dX10_far_37 : decode cX10_far 37 = .ok (.lconst 1, 1) := by decide +kernel
theorem dX10_far_38 : decode cX10_far 38 = .ok (.lstore 6, 2) := by decide +kernel
theorem dX10_far_40 : decode cX10_far 40 = .ok (.iconst 0, 1) := by decide +kernel
theorem dX10_far_41 : decode cX10_far 41 = .ok (.istore 8, 2) := by decide +kernel
theorem dX10_far_43 : decode cX10_far 43 = .ok (.iload 8, 2) := by decide +kernel
theorem dX10_far_45 : decode cX10_far 45 = .ok (.iload_n 1, 1) := by decide +kernel
theorem dX10_far_46 : decode cX10_far 46 = .ok (.if_icmp .ge 35, 3) := by decide +kernel
theorem dX10_far_49 : decode cX10_far 49 = .ok (.iload 5, 2) := by decide +kernel
theorem dX10_far_51 : decode cX10_far 51 = .ok (.iload 8, 2) := by decide +kernel
theorem dX10_far_53 : decode cX10_far 53 = .ok (.iload 4, 2) := by decide +kernel
theorem dX10_far_55 : decode cX10_far 55 = .ok (.imul, 1) := by decide +kernel
theorem dX10_far_56 : decode cX10_far 56 = .ok (.iadd, 1) := by decide +kernel
theorem dX10_far_57 : decode cX10_far 57 = .ok (.istore 5, 2) := by decide +kernel
theorem dX10_far_59 : decode cX10_far 59 = .ok (.iload 4, 2) := by decide +kernel
theorem dX10_far_61 : decode cX10_far 61 = .ok (.iload_n 1, 1) := by decide +kernel
theorem dX10_far_62 : decode cX10_far 62 = .ok (.imul, 1) := by decide +kernel
theorem dX10_far_63 : decode cX10_far 63 = .ok (.istore 4, 2) := by decide +kernel
theorem dX10_far_65 : decode cX10_far 65 = .ok (.lload 6, 2) := by decide +kernel
theorem dX10_far_67 : decode cX10_far 67 = .ok (.iload 8, 2) := by decide +kernel
theorem dX10_far_69 : decode cX10_far 69 = .ok (.iconst 1, 1) := by decide +kernel
theorem dX10_far_70 : decode cX10_far 70 = .ok (.iadd, 1) := by decide +kernel
theorem dX10_far_71 : decode cX10_far 71 = .ok (.i2l, 1) := by decide +kernel
theorem dX10_far_72 : decode cX10_far 72 = .ok (.lmul, 1) := by decide +kernel
theorem dX10_far_73 : decode cX10_far 73 = .ok (.lstore 6, 2) := by decide +kernel
theorem dX10_far_75 : decode cX10_far 75 = .ok (.iinc 8 1, 3) := by decide +kernel
theorem dX10_far_78 : decode cX10_far 78 = .ok (.goto (-35), 3) := by decide +kernel
theorem dX10_far_81 : decode cX10_far 81 = .ok (.iload 4, 2) := by decide +kernel
theorem dX10_far_83 : decode cX10_far 83 = .ok (.newarray .long, 2) := by decide +kernel
theorem dX10_far_85 : decode cX10_far 85 = .ok (.astore 8, 2) := by decide +kernel
theorem dX10_far_87 : decode cX10_far 87 = .ok (.aload 8, 2) := by decide +kernel
theorem dX10_far_89 : decode cX10_far 89 = .ok (.iload 5, 2) := by decide +kernel
theorem dX10_far_91 : decode cX10_far 91 = .ok (.lconst 1, 1) := by decide +kernel
theorem dX10_far_92 : decode cX10_far 92 = .ok (.lastore, 1) := by decide +kernel
theorem dX10_far_93 : decode cX10_far 93 = .ok (.lconst 1, 1) := by decide +kernel
theorem dX10_far_94 : decode cX10_far 94 = .ok (.lstore 9, 2) := by decide +kernel
theorem dX10_far_96 : decode cX10_far 96 = .ok (.iconst 0, 1) := by decide +kernel
theorem dX10_far_97 : decode cX10_far 97 = .ok (.istore 11, 2) := by decide +kernel
theorem dX10_far_99 : decode cX10_far 99 = .ok (.iload 11, 2) := by decide +kernel
theorem dX10_far_101 : decode cX10_far 101 = .ok (.iload_n 2, 1) := by decide +kernel
theorem dX10_far_102 : decode cX10_far 102 = .ok (.if_icmp .ge 24, 3) := by decide +kernel
theorem dX10_far_105 : decode cX10_far 105 = .ok (.aload 8, 2) := by decide +kernel
theorem dX10_far_107 : decode cX10_far 107 = .ok (.iload_n 1, 1) := by decide +kernel
theorem dX10_far_108 : decode cX10_far 108 = .ok (.invokestatic 236, 3) := by decide +kernel
theorem dX10_far_111 : decode cX10_far 111 = .ok (.astore 8, 2) := by decide +kernel
theorem dX10_far_113 : decode cX10_far 113 = .ok (.lload 9, 2) := by decide +kernel
theorem dX10_far_115 : decode cX10_far 115 = .ok (.iload_n 1, 1) := by decide +kernel
theorem dX10_far_116 : decode cX10_far 116 = .ok (.i2l, 1) := by decide +kernel
theorem dX10_far_117 : decode cX10_far 117 = .ok (.lmul, 1) := by decide +kernel
theorem dX10_far_118 : decode cX10_far 118 = .ok (.lstore 9, 2) := by decide +kernel
theorem dX10_far_120 : decode cX10_far 120 = .ok (.iinc 11 1, 3) := by decide +kernel
theorem dX10_far_123 : decode cX10_far 123 = .ok (.goto (-24), 3) := by decide +kernel
theorem dX10_far_126 : decode cX10_far 126 = .ok (.lconst 0, 1) := by decide +kernel
theorem dX10_far_127 : decode cX10_far 127 = .ok (.lstore 11, 2) := by decide +kernel
theorem dX10_far_129 : decode cX10_far 129 = .ok (.aload 8, 2) := by decide +kernel
theorem dX10_far_131 : decode cX10_far 131 = .ok (.astore 13, 2) := by decide +kernel
theorem dX10_far_133 : decode cX10_far 133 = .ok (.aload 13, 2) := by decide +kernel
theorem dX10_far_135 : decode cX10_far 135 = .ok (.arraylength, 1) := by decide +kernel
theorem dX10_far_136 : decode cX10_far 136 = .ok (.istore 14, 2) := by decide +kernel
theorem dX10_far_138 : decode cX10_far 138 = .ok (.iconst 0, 1) := by decide +kernel
theorem dX10_far_139 : decode cX10_far 139 = .ok (.istore 15, 2) := by decide +kernel
theorem dX10_far_141 : decode cX10_far 141 = .ok (.iload 15, 2) := by decide +kernel
theorem dX10_far_143 : decode cX10_far 143 = .ok (.iload 14, 2) := by decide +kernel
theorem dX10_far_145 : decode cX10_far 145 = .ok (.if_icmp .ge 33, 3) := by decide +kernel
theorem dX10_far_148 : decode cX10_far 148 = .ok (.aload 13, 2) := by decide +kernel
theorem dX10_far_150 : decode cX10_far 150 = .ok (.iload 15, 2) := by decide +kernel
theorem dX10_far_152 : decode cX10_far 152 = .ok (.laload, 1) := by decide +kernel
theorem dX10_far_153 : decode cX10_far 153 = .ok (.lstore 16, 2) := by decide +kernel
theorem dX10_far_155 : decode cX10_far 155 = .ok (.lload 11, 2) := by decide +kernel
theorem dX10_far_157 : decode cX10_far 157 = .ok (.lconst 0, 1) := by decide +kernel
theorem dX10_far_158 : decode cX10_far 158 = .ok (.lload 16, 2) := by decide +kernel
theorem dX10_far_160 : decode cX10_far 160 = .ok (.lload 6, 2) := by decide +kernel
theorem dX10_far_162 : decode cX10_far 162 = .ok (.lmul, 1) := by decide +kernel
theorem dX10_far_163 : decode cX10_far 163 = .ok (.lload 9, 2) := by decide +kernel
theorem dX10_far_165 : decode cX10_far 165 = .ok (.lsub, 1) := by decide +kernel
theorem dX10_far_166 : decode cX10_far 166 = .ok (.invokestatic 240, 3) := by decide +kernel
theorem dX10_far_169 : decode cX10_far 169 = .ok (.ladd, 1) := by decide +kernel
theorem dX10_far_170 : decode cX10_far 170 = .ok (.lstore 11, 2) := by decide +kernel
theorem dX10_far_172 : decode cX10_far 172 = .ok (.iinc 15 1, 3) := by decide +kernel
theorem dX10_far_175 : decode cX10_far 175 = .ok (.goto (-34), 3) := by decide +kernel
theorem dX10_far_178 : decode cX10_far 178 = .ok (.new 108, 3) := by decide +kernel
theorem dX10_far_181 : decode cX10_far 181 = .ok (.dup, 1) := by decide +kernel
theorem dX10_far_182 : decode cX10_far 182 = .ok (.invokespecial 113, 3) := by decide +kernel
theorem dX10_far_185 : decode cX10_far 185 = .ok (.lconst 1, 1) := by decide +kernel
theorem dX10_far_186 : decode cX10_far 186 = .ok (.lload 11, 2) := by decide +kernel
theorem dX10_far_188 : decode cX10_far 188 = .ok (.lload 9, 2) := by decide +kernel
theorem dX10_far_190 : decode cX10_far 190 = .ok (.lload 6, 2) := by decide +kernel
theorem dX10_far_192 : decode cX10_far 192 = .ok (.lmul, 1) := by decide +kernel
theorem dX10_far_193 : decode cX10_far 193 = .ok (.invokevirtual 114, 3) := by decide +kernel
theorem dX10_far_196 : decode cX10_far 196 = .ok (.iload_n 3, 1) := by decide +kernel
theorem dX10_far_197 : decode cX10_far 197 = .ok (.invokevirtual 107, 3) := by decide +kernel
theorem dX10_far_200 : decode cX10_far 200 = .ok (.lreturn, 1) := by decide +kernel
theorem dJxa1e45_init_da8c8_0 : decode cJxa1e45_init_da8c8 0 = .ok (.aload_n 0, 1) := by decide +kernel
theorem dJxa1e45_init_da8c8_1 : decode cJxa1e45_init_da8c8 1 = .ok (.invokespecial 1, 3) := by decide +kernel
theorem dJxa1e45_init_da8c8_4 : decode cJxa1e45_init_da8c8 4 = .ok (.return_, 1) := by decide +kernel
set_option maxRecDepth 20000 in
theorem ggJxc12de_init_da8c8_Jxa1e45_init_da8c8 : GoodIn wsJxc12de_init_da8c8 wsJxa1e45_init_da8c8 := goodIn_r _ [5, 6, 7, 8] (by decide +kernel) (by decide +kernel)
set_option maxRecDepth 20000 in
theorem gJxc12de_init_da8c8_Jxa1e45_init_da8c8 : GoodIn wsJxc12de_init_da8c8 (wsJxa1e45_init_da8c8) := ggJxc12de_init_da8c8_Jxa1e45_init_da8c8
theorem dJxc12de_init_da8c8_0 : decode cJxc12de_init_da8c8 0 = .ok (.aload_n 0, 1) := by decide +kernel
theorem dJxc12de_init_da8c8_1 : decode cJxc12de_init_da8c8 1 = .ok (.invokespecial 1, 3) := by decide +kernel
theorem dJxc12de_init_da8c8_4 : decode cJxc12de_init_da8c8 4 = .ok (.aload_n 0, 1) := by decide +kernel
theorem dJxc12de_init_da8c8_5 : decode cJxc12de_init_da8c8 5 = .ok (.iconst 0, 1) := by decide +kernel
theorem dJxc12de_init_da8c8_6 : decode cJxc12de_init_da8c8 6 = .ok (.putfield 7, 3) := by decide +kernel
theorem dJxc12de_init_da8c8_9 : decode cJxc12de_init_da8c8 9 = .ok (.return_, 1) := by decide +kernel
set_option maxRecDepth 20000 in
theorem ggJx4a65c_init_da8c8_Jxc12de_init_da8c8 : GoodIn wsJx4a65c_init_da8c8 wsJxc12de_init_da8c8 := goodIn_r _ [6, 7, 8, 9, 10, 11, 12, 13, 14, 15, 16, 17] (by decide +kernel) (by decide +kernel)
set_option maxRecDepth 20000 in
theorem gJx4a65c_init_da8c8_Jxc12de_init_da8c8 : GoodIn wsJx4a65c_init_da8c8 (wsJxc12de_init_da8c8) := ggJx4a65c_init_da8c8_Jxc12de_init_da8c8
theorem dJx4a65c_init_da8c8_0 : decode cJx4a65c_init_da8c8 0 = .ok (.aload_n 0, 1) := by decide +kernel
theorem dJx4a65c_init_da8c8_1 : decode cJx4a65c_init_da8c8 1 = .ok (.invokespecial 1, 3) := by decide +kernel
theorem dJx4a65c_init_da8c8_4 : decode cJx4a65c_init_da8c8 4 = .ok (.aload_n 0, 1) := by decide +kernel
theorem dJx4a65c_init_da8c8_5 : decode cJx4a65c_init_da8c8 5 = .ok (.getstatic 39, 3) := by decide +kernel
theorem dJx4a65c_init_da8c8_8 : decode cJx4a65c_init_da8c8 8 = .ok (.putfield 9, 3) := by decide +kernel
theorem dJx4a65c_init_da8c8_11 : decode cJx4a65c_init_da8c8 11 = .ok (.return_, 1) := by decide +kernel
set_option maxRecDepth 20000 in
theorem ggL_far_X5_far : GoodIn wsL_far wsX5_far := goodIn_ca (goodIn_r _ [6, 7, 8, 9, 10, 11, 12, 5, 13, 14, 15, 16, 17, 18, 19, 20, 21, 22, 23, 24, 25, 26, 27, 28, 29, 30, 31, 32, 33, 34, 35, 36, 37, 38, 39, 40, 41, 42, 43, 44, 45, 49, 50, 51, 52, 53, 54, 55, 56, 57] (by decide +kernel) (by decide +kernel)) (goodIn_sub (fun _ h => List.mem_cons_of_mem _ (List.mem_append_right _ h)) (by decide +kernel))
set_option maxRecDepth 20000 in
theorem gL_far_X5_far : GoodIn wsL_far (wsV RL 93 RX5 yX5_far wsX5_far) := goodIn_app (goodIn_of _ (by decide +kernel)) ggL_far_X5_far
theorem dL_far_0 : decode cL_far 0 = .ok (.aload 4, 2) := by decide +kernel
theorem dL_far_2 : decode cL_far 2 = .ok (.aload_n 0, 1) := by decide +kernel
theorem dL_far_3 : decode cL_far 3 = .ok (.iload_n 1, 1) := by decide +kernel
theorem dL_far_4 : decode cL_far 4 = .ok (.iload_n 2, 1) := by decide +kernel
theorem dL_far_5 : decode cL_far 5 = .ok (.iload_n 3, 1) := by decide +kernel
theorem dL_far_6 : decode cL_far 6 = .ok (.invokevirtual 93, 3) := by decide +kernel
theorem dL_far_9 : decode cL_far 9 = .ok (.putfield 13, 3) := by decide +kernel
theorem dL_far_12 : decode cL_far 12 = .ok (.goto 7, 3) := by decide +kernel
theorem dL_far_19 : decode cL_far 19 = .ok (.iconst 0, 1) := by decide +kernel
theorem dL_far_20 : decode cL_far 20 = .ok (.ireturn, 1) := by decide +kernel
theorem dL_law_0 : decode cL_law 0 = .ok (.new 8, 3) := by decide +kernel
theorem dL_law_3 : decode cL_law 3 = .ok (.dup, 1) := by decide +kernel
theorem dL_law_4 : decode cL_law 4 = .ok (.invokespecial 128, 3) := by decide +kernel
theorem dL_law_7 : decode cL_law 7 = .ok (.astore_n 1, 1) := by decide +kernel
theorem dL_law_8 : decode cL_law 8 = .ok (.new 129, 3) := by decide +kernel
theorem dL_law_11 : decode cL_law 11 = .ok (.dup, 1) := by decide +kernel
theorem dL_law_12 : decode cL_law 12 = .ok (.invokespecial 131, 3) := by decide +kernel
theorem dL_law_15 : decode cL_law 15 = .ok (.astore_n 2, 1) := by decide +kernel
theorem dL_law_16 : decode cL_law 16 = .ok (.new 14, 3) := by decide +kernel
theorem dL_law_19 : decode cL_law 19 = .ok (.dup, 1) := by decide +kernel
theorem dL_law_20 : decode cL_law 20 = .ok (.invokespecial 132, 3) := by decide +kernel
theorem dL_law_23 : decode cL_law 23 = .ok (.astore_n 3, 1) := by decide +kernel
theorem dL_law_24 : decode cL_law 24 = .ok (.iconst 0, 1) := by decide +kernel
theorem dL_law_25 : decode cL_law 25 = .ok (.istore 4, 2) := by decide +kernel
theorem dL_law_27 : decode cL_law 27 = .ok (.iload 4, 2) := by decide +kernel
theorem dL_law_29 : decode cL_law 29 = .ok (.aload_n 0, 1) := by decide +kernel
theorem dL_law_30 : decode cL_law 30 = .ok (.arraylength, 1) := by decide +kernel
theorem dL_law_31 : decode cL_law 31 = .ok (.bipush 7, 2) := by decide +kernel
theorem dL_law_33 : decode cL_law 33 = .ok (.isub, 1) := by decide +kernel
theorem dL_law_34 : decode cL_law 34 = .ok (.if_icmp .gt 1897, 3) := by decide +kernel
theorem dL_law_37 : decode cL_law 37 = .ok (.aload_n 0, 1) := by decide +kernel
theorem dL_law_38 : decode cL_law 38 = .ok (.iload 4, 2) := by decide +kernel
theorem dL_law_40 : decode cL_law 40 = .ok (.iaload, 1) := by decide +kernel
theorem dL_law_41 : decode cL_law 41 = .ok (.bipush 31, 2) := by decide +kernel
theorem dL_law_43 : decode cL_law 43 = .ok (.iand, 1) := by decide +kernel
theorem dL_law_44 : decode cL_law 44 = .ok (.tableswitch 1881 0 28 #[132, 196, 272, 324, 376, 416, 444, 520, 588, 668, 764, 804, 844, 936, 1032, 1112, 1192, 1314, 1382, 1474, 1514, 1582, 1622, 1680, 1708, 1748, 1776, 1816, 1868], 132) := by decide +kernel
theorem dL_law_1558 : decode cL_law 1558 = .ok (.aload_n 1, 1) := by decide +kernel
theorem dL_law_1559 : decode cL_law 1559 = .ok (.aload_n 0, 1) := by decide +kernel
theorem dL_law_1560 : decode cL_law 1560 = .ok (.iload 4, 2) := by decide +kernel
theorem dL_law_1562 : decode cL_law 1562 = .ok (.iconst 1, 1) := by decide +kernel
theorem dL_law_1563 : decode cL_law 1563 = .ok (.iadd, 1) := by decide +kernel
theorem dL_law_1564 : decode cL_law 1564 = .ok (.iaload, 1) := by decide +kernel
theorem dL_law_1565 : decode cL_law 1565 = .ok (.aload_n 0, 1) := by decide +kernel
theorem dL_law_1566 : decode cL_law 1566 = .ok (.iload 4, 2) := by decide +kernel
theorem dL_law_1568 : decode cL_law 1568 = .ok (.iconst 2, 1) := by decide +kernel
theorem dL_law_1569 : decode cL_law 1569 = .ok (.iadd, 1) := by decide +kernel
theorem dL_law_1570 : decode cL_law 1570 = .ok (.iaload, 1) := by decide +kernel
theorem dL_law_1571 : decode cL_law 1571 = .ok (.aload_n 0, 1) := by decide +kernel
theorem dL_law_1572 : decode cL_law 1572 = .ok (.iload 4, 2) := by decide +kernel
theorem dL_law_1574 : decode cL_law 1574 = .ok (.iconst 3, 1) := by decide +kernel
theorem dL_law_1575 : decode cL_law 1575 = .ok (.iadd, 1) := by decide +kernel
theorem dL_law_1576 : decode cL_law 1576 = .ok (.iaload, 1) := by decide +kernel
theorem dL_law_1577 : decode cL_law 1577 = .ok (.ifCond .eq 7, 3) := by decide +kernel
theorem dL_law_1584 : decode cL_law 1584 = .ok (.iconst 0, 1) := by decide +kernel
theorem dL_law_1585 : decode cL_law 1585 = .ok (.aload_n 3, 1) := by decide +kernel
theorem dL_law_1586 : decode cL_law 1586 = .ok (.invokestatic 205, 3) := by decide +kernel
theorem dL_law_1589 : decode cL_law 1589 = .ok (.istore 5, 2) := by decide +kernel
theorem dL_law_1591 : decode cL_law 1591 = .ok (.aload_n 2, 1) := by decide +kernel
theorem dL_law_1592 : decode cL_law 1592 = .ok (.aload_n 0, 1) := by decide +kernel
theorem dL_law_1593 : decode cL_law 1593 = .ok (.iload 4, 2) := by decide +kernel
theorem dL_law_1595 : decode cL_law 1595 = .ok (.iconst 1, 1) := by decide +kernel
theorem dL_law_1596 : decode cL_law 1596 = .ok (.iadd, 1) := by decide +kernel
theorem dL_law_1597 : decode cL_law 1597 = .ok (.iaload, 1) := by decide +kernel
theorem dL_law_1598 : decode cL_law 1598 = .ok (.aload_n 0, 1) := by decide +kernel
theorem dL_law_1599 : decode cL_law 1599 = .ok (.iload 4, 2) := by decide +kernel
theorem dL_law_1601 : decode cL_law 1601 = .ok (.iconst 2, 1) := by decide +kernel
theorem dL_law_1602 : decode cL_law 1602 = .ok (.iadd, 1) := by decide +kernel
theorem dL_law_1603 : decode cL_law 1603 = .ok (.iaload, 1) := by decide +kernel
theorem dL_law_1604 : decode cL_law 1604 = .ok (.aload_n 0, 1) := by decide +kernel
theorem dL_law_1605 : decode cL_law 1605 = .ok (.iload 4, 2) := by decide +kernel
theorem dL_law_1607 : decode cL_law 1607 = .ok (.iconst 3, 1) := by decide +kernel
theorem dL_law_1608 : decode cL_law 1608 = .ok (.iadd, 1) := by decide +kernel
theorem dL_law_1609 : decode cL_law 1609 = .ok (.iaload, 1) := by decide +kernel
theorem dL_law_1610 : decode cL_law 1610 = .ok (.ifCond .eq 7, 3) := by decide +kernel
theorem dL_law_1617 : decode cL_law 1617 = .ok (.iconst 0, 1) := by decide +kernel
theorem dL_law_1618 : decode cL_law 1618 = .ok (.invokevirtual 207, 3) := by decide +kernel
theorem dL_law_1621 : decode cL_law 1621 = .ok (.lstore 6, 2) := by decide +kernel
theorem dL_law_1623 : decode cL_law 1623 = .ok (.goto 302, 3) := by decide +kernel
theorem dL_law_1925 : decode cL_law 1925 = .ok (.iinc 4 7, 3) := by decide +kernel
theorem dL_law_1928 : decode cL_law 1928 = .ok (.goto (-1901), 3) := by decide +kernel
theorem dL_law_1931 : decode cL_law 1931 = .ok (.iconst 1, 1) := by decide +kernel
theorem dL_law_1932 : decode cL_law 1932 = .ok (.ireturn, 1) := by decide +kernel

