section
-- ===== PART A: goes FIRST, ahead of the names: the tables' words, and 'selects' of the private methods out of them =====
/-- a private method of a class that the tables say can be made, by its rows of tables_1 -/
def lw_okq (q : MethodName × Nat) : Prop := (q.1.cls ≠ "java/lang/invoke/MethodHandle" ∧ q.1.cls ≠ "java/lang/invoke/VarHandle") ∧ Cond.instantiable q.1.cls q.2 ∈ tables_1 ∧ Cond.privateMethod q.1 ∈ tables_1 ∧ Cond.instanceMethod q.1 ∈ tables_1
theorem lw_p0 : lw_okq (⟨"Urnwright", "sumOfUrns", "(I)I"⟩, 8) := ⟨⟨by decide +kernel, by decide +kernel⟩, List.mem_of_getElem? (i := 35) (by decide +kernel), List.mem_of_getElem? (i := 145) (by decide +kernel), List.mem_of_getElem? (i := 146) (by decide +kernel)⟩
theorem lw_p1 : lw_okq (⟨"Urnwright$Urn", "countAll", "()I"⟩, 10) := ⟨⟨by decide +kernel, by decide +kernel⟩, List.mem_of_getElem? (i := 151) (by decide +kernel), List.mem_of_getElem? (i := 149) (by decide +kernel), List.mem_of_getElem? (i := 150) (by decide +kernel)⟩
theorem lw_p2 : lw_okq (⟨"Urnwright", "sumOfTilts", "()D"⟩, 8) := ⟨⟨by decide +kernel, by decide +kernel⟩, List.mem_of_getElem? (i := 35) (by decide +kernel), List.mem_of_getElem? (i := 157) (by decide +kernel), List.mem_of_getElem? (i := 158) (by decide +kernel)⟩
theorem lw_p3 : lw_okq (⟨"Urnwright$Urn", "lean", "()D"⟩, 10) := ⟨⟨by decide +kernel, by decide +kernel⟩, List.mem_of_getElem? (i := 151) (by decide +kernel), List.mem_of_getElem? (i := 161) (by decide +kernel), List.mem_of_getElem? (i := 162) (by decide +kernel)⟩
theorem lw_p4 : lw_okq (⟨"java/lang/Throwable", "fillInStackTrace", "(I)Ljava/lang/Throwable;"⟩, 6) := ⟨⟨by decide +kernel, by decide +kernel⟩, List.mem_of_getElem? (i := 208) (by decide +kernel), List.mem_of_getElem? (i := 206) (by decide +kernel), List.mem_of_getElem? (i := 207) (by decide +kernel)⟩
theorem lw_p5 : lw_okq (⟨"Urnwright", "digestOfUrn", "(JI)J"⟩, 8) := ⟨⟨by decide +kernel, by decide +kernel⟩, List.mem_of_getElem? (i := 35) (by decide +kernel), List.mem_of_getElem? (i := 238) (by decide +kernel), List.mem_of_getElem? (i := 239) (by decide +kernel)⟩
theorem lw_p6 : lw_okq (⟨"Urnwright", "urnOf", "(I)LUrnwright$Urn;"⟩, 8) := ⟨⟨by decide +kernel, by decide +kernel⟩, List.mem_of_getElem? (i := 35) (by decide +kernel), List.mem_of_getElem? (i := 246) (by decide +kernel), List.mem_of_getElem? (i := 247) (by decide +kernel)⟩
theorem lw_p7 : lw_okq (⟨"Urnwright$Urn", "mostSteps", "()I"⟩, 10) := ⟨⟨by decide +kernel, by decide +kernel⟩, List.mem_of_getElem? (i := 151) (by decide +kernel), List.mem_of_getElem? (i := 270) (by decide +kernel), List.mem_of_getElem? (i := 271) (by decide +kernel)⟩
theorem lw_p8 : lw_okq (⟨"Urnwright", "openGame", "(LUrnwright$Urn;I)V"⟩, 8) := ⟨⟨by decide +kernel, by decide +kernel⟩, List.mem_of_getElem? (i := 35) (by decide +kernel), List.mem_of_getElem? (i := 283) (by decide +kernel), List.mem_of_getElem? (i := 284) (by decide +kernel)⟩
theorem lw_p9 : lw_okq (⟨"Urnwright$Game", "open", "(LUrnwright$Urn;I)V"⟩, 9) := ⟨⟨by decide +kernel, by decide +kernel⟩, List.mem_of_getElem? (i := 47) (by decide +kernel), List.mem_of_getElem? (i := 288) (by decide +kernel), List.mem_of_getElem? (i := 289) (by decide +kernel)⟩
theorem lw_p10 : lw_okq (⟨"Urnwright$Game", "grow", "(LUrnwright$Urn;II)V"⟩, 9) := ⟨⟨by decide +kernel, by decide +kernel⟩, List.mem_of_getElem? (i := 47) (by decide +kernel), List.mem_of_getElem? (i := 304) (by decide +kernel), List.mem_of_getElem? (i := 305) (by decide +kernel)⟩
theorem lw_p11 : lw_okq (⟨"Urnwright$Game", "countAt", "(II)I"⟩, 9) := ⟨⟨by decide +kernel, by decide +kernel⟩, List.mem_of_getElem? (i := 47) (by decide +kernel), List.mem_of_getElem? (i := 314) (by decide +kernel), List.mem_of_getElem? (i := 315) (by decide +kernel)⟩
theorem lw_p12 : lw_okq (⟨"Urnwright$Urn", "addOf", "(II)I"⟩, 10) := ⟨⟨by decide +kernel, by decide +kernel⟩, List.mem_of_getElem? (i := 151) (by decide +kernel), List.mem_of_getElem? (i := 318) (by decide +kernel), List.mem_of_getElem? (i := 319) (by decide +kernel)⟩
theorem lw_p13 : lw_okq (⟨"Urnwright$Game", "waysFrom", "(I)J"⟩, 9) := ⟨⟨by decide +kernel, by decide +kernel⟩, List.mem_of_getElem? (i := 47) (by decide +kernel), List.mem_of_getElem? (i := 322) (by decide +kernel), List.mem_of_getElem? (i := 323) (by decide +kernel)⟩
theorem lw_p14 : lw_okq (⟨"Urnwright$Game", "sumOfPowers", "(I)J"⟩, 9) := ⟨⟨by decide +kernel, by decide +kernel⟩, List.mem_of_getElem? (i := 47) (by decide +kernel), List.mem_of_getElem? (i := 326) (by decide +kernel), List.mem_of_getElem? (i := 327) (by decide +kernel)⟩
theorem lw_p15 : lw_okq (⟨"Urnwright$Game", "sumOfPowersWith", "(III)J"⟩, 9) := ⟨⟨by decide +kernel, by decide +kernel⟩, List.mem_of_getElem? (i := 47) (by decide +kernel), List.mem_of_getElem? (i := 330) (by decide +kernel), List.mem_of_getElem? (i := 331) (by decide +kernel)⟩
def lw_privs_1 : List (MethodName × Nat) := [(⟨"Urnwright", "sumOfUrns", "(I)I"⟩, 8), (⟨"Urnwright$Urn", "countAll", "()I"⟩, 10), (⟨"Urnwright", "sumOfTilts", "()D"⟩, 8), (⟨"Urnwright$Urn", "lean", "()D"⟩, 10), (⟨"java/lang/Throwable", "fillInStackTrace", "(I)Ljava/lang/Throwable;"⟩, 6), (⟨"Urnwright", "digestOfUrn", "(JI)J"⟩, 8), (⟨"Urnwright", "urnOf", "(I)LUrnwright$Urn;"⟩, 8), (⟨"Urnwright$Urn", "mostSteps", "()I"⟩, 10), (⟨"Urnwright", "openGame", "(LUrnwright$Urn;I)V"⟩, 8), (⟨"Urnwright$Game", "open", "(LUrnwright$Urn;I)V"⟩, 9), (⟨"Urnwright$Game", "grow", "(LUrnwright$Urn;II)V"⟩, 9), (⟨"Urnwright$Game", "countAt", "(II)I"⟩, 9), (⟨"Urnwright$Urn", "addOf", "(II)I"⟩, 10), (⟨"Urnwright$Game", "waysFrom", "(I)J"⟩, 9), (⟨"Urnwright$Game", "sumOfPowers", "(I)J"⟩, 9), (⟨"Urnwright$Game", "sumOfPowersWith", "(III)J"⟩, 9)]
theorem lw_r1 : ∀ q ∈ lw_privs_1, lw_okq q := List.forall_mem_cons.mpr ⟨lw_p0, List.forall_mem_cons.mpr ⟨lw_p1, List.forall_mem_cons.mpr ⟨lw_p2, List.forall_mem_cons.mpr ⟨lw_p3, List.forall_mem_cons.mpr ⟨lw_p4, List.forall_mem_cons.mpr ⟨lw_p5, List.forall_mem_cons.mpr ⟨lw_p6, List.forall_mem_cons.mpr ⟨lw_p7, List.forall_mem_cons.mpr ⟨lw_p8, List.forall_mem_cons.mpr ⟨lw_p9, List.forall_mem_cons.mpr ⟨lw_p10, List.forall_mem_cons.mpr ⟨lw_p11, List.forall_mem_cons.mpr ⟨lw_p12, List.forall_mem_cons.mpr ⟨lw_p13, List.forall_mem_cons.mpr ⟨lw_p14, List.forall_mem_cons.mpr ⟨lw_p15, fun _ h => absurd h List.not_mem_nil⟩⟩⟩⟩⟩⟩⟩⟩⟩⟩⟩⟩⟩⟩⟩⟩
theorem lw_p16 : lw_okq (⟨"Urnwright$Game", "pathOfUnfair", "(LUrnwright$Urn;)I"⟩, 9) := ⟨⟨by decide +kernel, by decide +kernel⟩, List.mem_of_getElem? (i := 47) (by decide +kernel), List.mem_of_getElem? (i := 353) (by decide +kernel), List.mem_of_getElem? (i := 354) (by decide +kernel)⟩
theorem lw_p17 : lw_okq (⟨"Urnwright$Game", "pathWithOrder", "()I"⟩, 9) := ⟨⟨by decide +kernel, by decide +kernel⟩, List.mem_of_getElem? (i := 47) (by decide +kernel), List.mem_of_getElem? (i := 361) (by decide +kernel), List.mem_of_getElem? (i := 362) (by decide +kernel)⟩
theorem lw_p18 : lw_okq (⟨"Urnwright$Game", "hasOrder", "(II)Z"⟩, 9) := ⟨⟨by decide +kernel, by decide +kernel⟩, List.mem_of_getElem? (i := 47) (by decide +kernel), List.mem_of_getElem? (i := 365) (by decide +kernel), List.mem_of_getElem? (i := 366) (by decide +kernel)⟩
theorem lw_p19 : lw_okq (⟨"Urnwright$Game", "sumStopped", "(LUrnwright$Urn;Z)J"⟩, 9) := ⟨⟨by decide +kernel, by decide +kernel⟩, List.mem_of_getElem? (i := 47) (by decide +kernel), List.mem_of_getElem? (i := 373) (by decide +kernel), List.mem_of_getElem? (i := 374) (by decide +kernel)⟩
theorem lw_p20 : lw_okq (⟨"Urnwright$Urn", "isStopAt", "(II)Z"⟩, 10) := ⟨⟨by decide +kernel, by decide +kernel⟩, List.mem_of_getElem? (i := 151) (by decide +kernel), List.mem_of_getElem? (i := 381) (by decide +kernel), List.mem_of_getElem? (i := 382) (by decide +kernel)⟩
theorem lw_p21 : lw_okq (⟨"Urnwright$Urn", "isOften", "(II)Z"⟩, 10) := ⟨⟨by decide +kernel, by decide +kernel⟩, List.mem_of_getElem? (i := 151) (by decide +kernel), List.mem_of_getElem? (i := 385) (by decide +kernel), List.mem_of_getElem? (i := 386) (by decide +kernel)⟩
theorem lw_p22 : lw_okq (⟨"Urnwright$Game", "weigh", "(I)I"⟩, 9) := ⟨⟨by decide +kernel, by decide +kernel⟩, List.mem_of_getElem? (i := 47) (by decide +kernel), List.mem_of_getElem? (i := 401) (by decide +kernel), List.mem_of_getElem? (i := 402) (by decide +kernel)⟩
theorem lw_p23 : lw_okq (⟨"Urnwright$Game", "prizeAt", "(II)J"⟩, 9) := ⟨⟨by decide +kernel, by decide +kernel⟩, List.mem_of_getElem? (i := 47) (by decide +kernel), List.mem_of_getElem? (i := 405) (by decide +kernel), List.mem_of_getElem? (i := 406) (by decide +kernel)⟩
theorem lw_p24 : lw_okq (⟨"Urnwright$Game", "worthBehind", "(I)J"⟩, 9) := ⟨⟨by decide +kernel, by decide +kernel⟩, List.mem_of_getElem? (i := 47) (by decide +kernel), List.mem_of_getElem? (i := 412) (by decide +kernel), List.mem_of_getElem? (i := 413) (by decide +kernel)⟩
theorem lw_p25 : lw_okq (⟨"Urnwright", "rowOf", "(I)LUrnwright$Row;"⟩, 8) := ⟨⟨by decide +kernel, by decide +kernel⟩, List.mem_of_getElem? (i := 35) (by decide +kernel), List.mem_of_getElem? (i := 424) (by decide +kernel), List.mem_of_getElem? (i := 425) (by decide +kernel)⟩
theorem lw_p26 : lw_okq (⟨"Urnwright$Urn", "take", "(I)V"⟩, 10) := ⟨⟨by decide +kernel, by decide +kernel⟩, List.mem_of_getElem? (i := 151) (by decide +kernel), List.mem_of_getElem? (i := 559) (by decide +kernel), List.mem_of_getElem? (i := 560) (by decide +kernel)⟩
theorem lw_p27 : lw_okq (⟨"Urnwright$Urn", "takeBack", "()I"⟩, 10) := ⟨⟨by decide +kernel, by decide +kernel⟩, List.mem_of_getElem? (i := 151) (by decide +kernel), List.mem_of_getElem? (i := 572) (by decide +kernel), List.mem_of_getElem? (i := 573) (by decide +kernel)⟩
theorem lw_p28 : lw_okq (⟨"Urnwright", "openPath", "(LUrnwright$Urn;I)V"⟩, 8) := ⟨⟨by decide +kernel, by decide +kernel⟩, List.mem_of_getElem? (i := 35) (by decide +kernel), List.mem_of_getElem? (i := 611) (by decide +kernel), List.mem_of_getElem? (i := 612) (by decide +kernel)⟩
theorem lw_p29 : lw_okq (⟨"Urnwright$Game", "waysBetween", "(II)J"⟩, 9) := ⟨⟨by decide +kernel, by decide +kernel⟩, List.mem_of_getElem? (i := 47) (by decide +kernel), List.mem_of_getElem? (i := 629) (by decide +kernel), List.mem_of_getElem? (i := 630) (by decide +kernel)⟩
theorem lw_p30 : lw_okq (⟨"Urnwright$Sides", "lay", "(LUrnwright$Row;LUrnwright$Row;)V"⟩, 2) := ⟨⟨by decide +kernel, by decide +kernel⟩, List.mem_of_getElem? (i := 87) (by decide +kernel), List.mem_of_getElem? (i := 696) (by decide +kernel), List.mem_of_getElem? (i := 697) (by decide +kernel)⟩
theorem lw_p31 : lw_okq (⟨"Urnwright$Sides", "stay", "(II)I"⟩, 2) := ⟨⟨by decide +kernel, by decide +kernel⟩, List.mem_of_getElem? (i := 87) (by decide +kernel), List.mem_of_getElem? (i := 702) (by decide +kernel), List.mem_of_getElem? (i := 703) (by decide +kernel)⟩
def lw_privs_2 : List (MethodName × Nat) := [(⟨"Urnwright$Game", "pathOfUnfair", "(LUrnwright$Urn;)I"⟩, 9), (⟨"Urnwright$Game", "pathWithOrder", "()I"⟩, 9), (⟨"Urnwright$Game", "hasOrder", "(II)Z"⟩, 9), (⟨"Urnwright$Game", "sumStopped", "(LUrnwright$Urn;Z)J"⟩, 9), (⟨"Urnwright$Urn", "isStopAt", "(II)Z"⟩, 10), (⟨"Urnwright$Urn", "isOften", "(II)Z"⟩, 10), (⟨"Urnwright$Game", "weigh", "(I)I"⟩, 9), (⟨"Urnwright$Game", "prizeAt", "(II)J"⟩, 9), (⟨"Urnwright$Game", "worthBehind", "(I)J"⟩, 9), (⟨"Urnwright", "rowOf", "(I)LUrnwright$Row;"⟩, 8), (⟨"Urnwright$Urn", "take", "(I)V"⟩, 10), (⟨"Urnwright$Urn", "takeBack", "()I"⟩, 10), (⟨"Urnwright", "openPath", "(LUrnwright$Urn;I)V"⟩, 8), (⟨"Urnwright$Game", "waysBetween", "(II)J"⟩, 9), (⟨"Urnwright$Sides", "lay", "(LUrnwright$Row;LUrnwright$Row;)V"⟩, 2), (⟨"Urnwright$Sides", "stay", "(II)I"⟩, 2)]
theorem lw_r2 : ∀ q ∈ lw_privs_2, lw_okq q := List.forall_mem_cons.mpr ⟨lw_p16, List.forall_mem_cons.mpr ⟨lw_p17, List.forall_mem_cons.mpr ⟨lw_p18, List.forall_mem_cons.mpr ⟨lw_p19, List.forall_mem_cons.mpr ⟨lw_p20, List.forall_mem_cons.mpr ⟨lw_p21, List.forall_mem_cons.mpr ⟨lw_p22, List.forall_mem_cons.mpr ⟨lw_p23, List.forall_mem_cons.mpr ⟨lw_p24, List.forall_mem_cons.mpr ⟨lw_p25, List.forall_mem_cons.mpr ⟨lw_p26, List.forall_mem_cons.mpr ⟨lw_p27, List.forall_mem_cons.mpr ⟨lw_p28, List.forall_mem_cons.mpr ⟨lw_p29, List.forall_mem_cons.mpr ⟨lw_p30, List.forall_mem_cons.mpr ⟨lw_p31, fun _ h => absurd h List.not_mem_nil⟩⟩⟩⟩⟩⟩⟩⟩⟩⟩⟩⟩⟩⟩⟩⟩
theorem lw_p32 : lw_okq (⟨"Urnwright$Sides", "move", "(II)I"⟩, 2) := ⟨⟨by decide +kernel, by decide +kernel⟩, List.mem_of_getElem? (i := 87) (by decide +kernel), List.mem_of_getElem? (i := 706) (by decide +kernel), List.mem_of_getElem? (i := 707) (by decide +kernel)⟩
theorem lw_p33 : lw_okq (⟨"Urnwright$Sides", "step", "(II)I"⟩, 2) := ⟨⟨by decide +kernel, by decide +kernel⟩, List.mem_of_getElem? (i := 87) (by decide +kernel), List.mem_of_getElem? (i := 711) (by decide +kernel), List.mem_of_getElem? (i := 712) (by decide +kernel)⟩
theorem lw_p34 : lw_okq (⟨"Urnwright$Deck", "shuffle", "(II)V"⟩, 1) := ⟨⟨by decide +kernel, by decide +kernel⟩, List.mem_of_getElem? (i := 100) (by decide +kernel), List.mem_of_getElem? (i := 733) (by decide +kernel), List.mem_of_getElem? (i := 734) (by decide +kernel)⟩
theorem lw_p35 : lw_okq (⟨"Urnwright$Deck", "sumOfDifferences", "(IJJ)J"⟩, 1) := ⟨⟨by decide +kernel, by decide +kernel⟩, List.mem_of_getElem? (i := 100) (by decide +kernel), List.mem_of_getElem? (i := 739) (by decide +kernel), List.mem_of_getElem? (i := 740) (by decide +kernel)⟩
theorem lw_p36 : lw_okq (⟨"UrnwrightModel", "no", "(I)I"⟩, 4) := ⟨⟨by decide +kernel, by decide +kernel⟩, List.mem_of_getElem? (i := 1056) (by decide +kernel), List.mem_of_getElem? (i := 1112) (by decide +kernel), List.mem_of_getElem? (i := 1113) (by decide +kernel)⟩
theorem lw_p37 : lw_okq (⟨"java/util/ArrayList", "add", "(Ljava/lang/Object;[Ljava/lang/Object;I)V"⟩, 3) := ⟨⟨by decide +kernel, by decide +kernel⟩, List.mem_of_getElem? (i := 1062) (by decide +kernel), List.mem_of_getElem? (i := 1181) (by decide +kernel), List.mem_of_getElem? (i := 1182) (by decide +kernel)⟩
theorem lw_p38 : lw_okq (⟨"java/util/ArrayList", "grow", "()[Ljava/lang/Object;"⟩, 3) := ⟨⟨by decide +kernel, by decide +kernel⟩, List.mem_of_getElem? (i := 1062) (by decide +kernel), List.mem_of_getElem? (i := 1185) (by decide +kernel), List.mem_of_getElem? (i := 1186) (by decide +kernel)⟩
theorem lw_p39 : lw_okq (⟨"java/util/ArrayList", "grow", "(I)[Ljava/lang/Object;"⟩, 3) := ⟨⟨by decide +kernel, by decide +kernel⟩, List.mem_of_getElem? (i := 1062) (by decide +kernel), List.mem_of_getElem? (i := 1189) (by decide +kernel), List.mem_of_getElem? (i := 1190) (by decide +kernel)⟩
theorem lw_p40 : lw_okq (⟨"UrnwrightModel", "isUrn", "(I)Z"⟩, 4) := ⟨⟨by decide +kernel, by decide +kernel⟩, List.mem_of_getElem? (i := 1056) (by decide +kernel), List.mem_of_getElem? (i := 1230) (by decide +kernel), List.mem_of_getElem? (i := 1231) (by decide +kernel)⟩
theorem lw_p41 : lw_okq (⟨"java/util/ArrayList", "fastRemove", "([Ljava/lang/Object;I)V"⟩, 3) := ⟨⟨by decide +kernel, by decide +kernel⟩, List.mem_of_getElem? (i := 1062) (by decide +kernel), List.mem_of_getElem? (i := 1281) (by decide +kernel), List.mem_of_getElem? (i := 1282) (by decide +kernel)⟩
theorem lw_p42 : lw_okq (⟨"UrnwrightModel", "canPlay", "(II)Z"⟩, 4) := ⟨⟨by decide +kernel, by decide +kernel⟩, List.mem_of_getElem? (i := 1056) (by decide +kernel), List.mem_of_getElem? (i := 1339) (by decide +kernel), List.mem_of_getElem? (i := 1340) (by decide +kernel)⟩
theorem lw_p43 : lw_okq (⟨"UrnwrightModel", "isRow", "(I)Z"⟩, 4) := ⟨⟨by decide +kernel, by decide +kernel⟩, List.mem_of_getElem? (i := 1056) (by decide +kernel), List.mem_of_getElem? (i := 1493) (by decide +kernel), List.mem_of_getElem? (i := 1494) (by decide +kernel)⟩
theorem lw_p44 : lw_okq (⟨"UrnwrightModel", "distanceNow", "(II)LUrnwrightModel$Sum;"⟩, 4) := ⟨⟨by decide +kernel, by decide +kernel⟩, List.mem_of_getElem? (i := 1056) (by decide +kernel), List.mem_of_getElem? (i := 1497) (by decide +kernel), List.mem_of_getElem? (i := 1498) (by decide +kernel)⟩
theorem lw_p45 : lw_okq (⟨"UrnwrightModel", "manyNow", "(I)I"⟩, 4) := ⟨⟨by decide +kernel, by decide +kernel⟩, List.mem_of_getElem? (i := 1056) (by decide +kernel), List.mem_of_getElem? (i := 1557) (by decide +kernel), List.mem_of_getElem? (i := 1558) (by decide +kernel)⟩
def lw_privs_3 : List (MethodName × Nat) := [(⟨"Urnwright$Sides", "move", "(II)I"⟩, 2), (⟨"Urnwright$Sides", "step", "(II)I"⟩, 2), (⟨"Urnwright$Deck", "shuffle", "(II)V"⟩, 1), (⟨"Urnwright$Deck", "sumOfDifferences", "(IJJ)J"⟩, 1), (⟨"UrnwrightModel", "no", "(I)I"⟩, 4), (⟨"java/util/ArrayList", "add", "(Ljava/lang/Object;[Ljava/lang/Object;I)V"⟩, 3), (⟨"java/util/ArrayList", "grow", "()[Ljava/lang/Object;"⟩, 3), (⟨"java/util/ArrayList", "grow", "(I)[Ljava/lang/Object;"⟩, 3), (⟨"UrnwrightModel", "isUrn", "(I)Z"⟩, 4), (⟨"java/util/ArrayList", "fastRemove", "([Ljava/lang/Object;I)V"⟩, 3), (⟨"UrnwrightModel", "canPlay", "(II)Z"⟩, 4), (⟨"UrnwrightModel", "isRow", "(I)Z"⟩, 4), (⟨"UrnwrightModel", "distanceNow", "(II)LUrnwrightModel$Sum;"⟩, 4), (⟨"UrnwrightModel", "manyNow", "(I)I"⟩, 4)]
theorem lw_r3 : ∀ q ∈ lw_privs_3, lw_okq q := List.forall_mem_cons.mpr ⟨lw_p32, List.forall_mem_cons.mpr ⟨lw_p33, List.forall_mem_cons.mpr ⟨lw_p34, List.forall_mem_cons.mpr ⟨lw_p35, List.forall_mem_cons.mpr ⟨lw_p36, List.forall_mem_cons.mpr ⟨lw_p37, List.forall_mem_cons.mpr ⟨lw_p38, List.forall_mem_cons.mpr ⟨lw_p39, List.forall_mem_cons.mpr ⟨lw_p40, List.forall_mem_cons.mpr ⟨lw_p41, List.forall_mem_cons.mpr ⟨lw_p42, List.forall_mem_cons.mpr ⟨lw_p43, List.forall_mem_cons.mpr ⟨lw_p44, List.forall_mem_cons.mpr ⟨lw_p45, fun _ h => absurd h List.not_mem_nil⟩⟩⟩⟩⟩⟩⟩⟩⟩⟩⟩⟩⟩⟩
def lw_privs : List (MethodName × Nat) := lw_privs_1 ++ (lw_privs_2 ++ (lw_privs_3))
def lw_tbl : List Cond := k2_sels lw_privs ++ tables_1
theorem lw_privs_ok : ∀ q ∈ lw_privs, lw_okq q := by
  show ∀ q ∈ lw_privs_1 ++ (lw_privs_2 ++ (lw_privs_3)), lw_okq q
  exact List.forall_mem_append.mpr ⟨lw_r1, List.forall_mem_append.mpr ⟨lw_r2, lw_r3⟩⟩
/-- the streams that the claim lets the run draw from -/
abbrev lw_cs : List Choice := [Jvm.Choice.named "NaN.bits"]
theorem lw_bits : nanBits ∈ lw_cs := by first | decide | exact List.mem_cons_self | simp [lw_cs, nanBits]
/-! ===== BEGIN words of one list among another's, by their places ===== -/
theorem goodIn_r {big : List Cond} (ws : List Cond) (ps : List Nat) (hp : ws = ps.filterMap (fun i => big[i]?)) (h : ws.all goodWord = true) : GoodIn big ws := by
  intro w hw
  have h1 := List.all_eq_true.mp h w hw
  rw [hp] at hw
  obtain ⟨i, -, hi⟩ := List.mem_filterMap.mp hw
  have hm : w ∈ big := by first | exact List.mem_of_getElem? hi | exact List.getElem?_mem hi
  exact ⟨hm, good_of_word h1⟩
theorem goodIn_app {big a b : List Cond} (ha : GoodIn big a) (hb : GoodIn big b) : GoodIn big (a ++ b) := fun w h => (List.mem_append.mp h).elim (ha w) (hb w)
theorem goodIn_ca {big a b : List Cond} {c : Cond} (ha : GoodIn big (c :: a)) (hb : GoodIn big b) : GoodIn big (c :: (a ++ b)) := fun w h => (List.mem_cons.mp h).elim (fun e => ha w (List.mem_cons.mpr (Or.inl e))) (fun h => (List.mem_append.mp h).elim (fun h => ha w (List.mem_cons.mpr (Or.inr h))) (hb w))
theorem goodIn_sub {big ws : List Cond} (hm : ∀ w ∈ ws, w ∈ big) (h : ws.all goodWord = true) : GoodIn big ws := fun w hw => ⟨hm w hw, good_of_word (List.all_eq_true.mp h w hw)⟩
/-! ===== END ===== -/
def vx_no (w : Cond) : Bool := decide (w ≠ .isRef (.static Bundle.tN "UNASSIGNED_STACK" Bundle.steD)) && decide (w ≠ .isRef (.static Bundle.tN "SUPPRESSED_SENTINEL" Bundle.listD)) && decide (w ≠ .laysStatic Bundle.tN "UNASSIGNED_STACK" Bundle.steD) && decide (w ≠ .laysStatic Bundle.tN "SUPPRESSED_SENTINEL" Bundle.listD)
def vx_at0 (own : String) (ic : Nat) (X : String) (names : List String) : List Cond := (Bundle.ownAtoms0 own ic X names).filter vx_no
def vx_atS (own : String) (ic : Nat) (X : String) (names : List String) : List Cond := (Bundle.ownAtoms own ic X names).filter vx_no
/-! ===== BEGIN a static call of a method with an exception table ===== -/
section VXS
variable {p : Program} {l : Launch} {e : Env} {R : Room} {s : State} {m : MethodId} {args : Array Value} {below : List Frame} {meth : Method} {c : Code} {T : State} {H : Heap} {locs : List Loc} {cells slots : Nat}
abbrev vx_CSW (R : Room) (s : State) (args : Array Value) (own : String) (index : Nat) (y : MethodName) (bytes : ByteArray) (maxL : Nat) (ret : Option FieldType) (hh : List (Nat × Nat × Nat × Nat)) (ws : List Cond) (rm : Room) (mc ms n : Nat) : Prop :=
  (rm.cells = mc ∧ rm.slots = ms ∧ rm.frames + 1 ≤ R.frames ∧ 8 + (maxL + 11) + rm.locals ≤ R.locals ∧ (∀ w ∈ ws, ∀ (a' : Array Value) (U : State), s.WarmedH U.vm → w.before a' U = true) ∧ Cond.codeWith y bytes maxL ret hh ∈ ws) ∧
  (Cond.codeWith y bytes maxL ret hh).before args s = true ∧ (Cond.initialized y.cls).before args s = true ∧ (y.cls ≠ "java/lang/invoke/MethodHandle" ∧ y.cls ≠ "java/lang/invoke/VarHandle") ∧
  (∀ sig, parseMethodDescriptor y.desc = some sig → n = sig.parameters.length) ∧ (Cond.methodLink own index y).before args s = true ∧ (Cond.static y).before args s = true
theorem vx_cwSW {own : String} {index maxL mc ms : Nat} {y : MethodName} {bytes : ByteArray} {ret : Option FieldType} {hh : List (Nat × Nat × Nat × Nat)} {Ts ws ws' : List Cond} {rm : Room} (n : Nat) (ht : ∀ w ∈ Ts, w.before args s = true) (hT : GoodIn Ts (va_wsS own index y ws)) (hw : ws = Cond.codeWith y bytes maxL ret hh :: ws') (hrc : rm.cells = mc) (hrs : rm.slots = ms)
    (hd : y.cls ≠ "java/lang/invoke/MethodHandle" ∧ y.cls ≠ "java/lang/invoke/VarHandle" ∧ (parseMethodDescriptor y.desc).map (fun d => d.parameters.length) = some n) (hR : rm.frames + 1 ≤ R.frames ∧ 8 + (maxL + 11) + rm.locals ≤ R.locals) :
    vx_CSW R s args own index y bytes maxL ret hh ws rm mc ms n := by
  have ok : ∀ w ∈ va_wsS own index y ws, w.before args s = true := fun w h => ht w (hT w h).1
  have hG : GoodIn Ts ws := fun w h => hT w (by unfold va_wsS; exact List.mem_append_right _ h)
  have hc : Cond.codeWith y bytes maxL ret hh ∈ ws := by rw [hw]; exact List.mem_cons_self
  refine ⟨⟨hrc, hrs, hR.1, hR.2, pay_in ht hG, hc⟩, ht _ (hG _ hc).1, ok _ (by simp [va_wsS]), ⟨hd.1, hd.2.1⟩, fun sig h => ?_, ok _ (by simp [va_wsS]), ok _ (by simp [va_wsS])⟩
  have h2 := hd.2.2
  rw [h] at h2
  exact (Option.some.inj h2).symm
theorem vx_callSW (X : Stand p l e R s m args below meth c T locs cells slots) (hexec : p.tables.exec = Jvm.exec) {own : String} {index : Nat} {y : MethodName} {bytes : ByteArray} {maxL : Nat} {ret : Option FieldType} {hh : List (Nat × Nat × Nat × Nat)}
    (hown : s.vm.findClass own = some m.cls) (hlink : (Cond.methodLink own index y).before args s = true) (hstat : (Cond.static y).before args s = true) (hinit : (Cond.initialized y.cls).before args s = true)
    (hcode : (Cond.codeWith y bytes maxL ret hh).before args s = true) (hy : y.cls ≠ "java/lang/invoke/MethodHandle" ∧ y.cls ≠ "java/lang/invoke/VarHandle")
    {W9 : Nat} {Pre : Pt → Array Value → Prop} {Post : Pt → Array Value → Option Value → Pt → Prop} (hK : Back l R p e below s args y 3 W9 Pre Post)
    {g : JFrame} (hg : g.method = m) (hsize : g.locals.size = c.maxLocals) {argsL rest : List Value} (hlen : ∀ sig, parseMethodDescriptor y.desc = some sig → argsL.length = sig.parameters.length)
    (hstack : g.stack = argsL.reverse ++ rest) (hW : 2 * g.monitorRoom + (rest.map fun v => v.category).sum ≤ W9) (hdg : decode c.code g.pc = .ok (.invokestatic index, 3))
    (hpre : ∀ vm₁, s.WarmedH vm₁ → Pre ⟨T.setVm vm₁, locs, cells, slots⟩ argsL.toArray) :
    ∃ (v : Option Value) (vm₁ : Vm) (B : Pt), s.WarmedH vm₁ ∧ Stand p l e R s m args below meth c B.U B.locs B.cells B.slots ∧ Post ⟨T.setVm vm₁, locs, cells, slots⟩ argsL.toArray v B ∧
      ∀ target, Steps p.tables e below (B.U.setTop { g with pc := g.pc + 3, stack := v.toList ++ rest }) target → Steps p.tables e below (T.setTop g) target := by
  obtain ⟨mk, methM, cM, hnamed, hmethM, -, -, -, -, -, -, hsigM⟩ := Cond.codeWith_spec hcode
  have hstatic : methM.isStatic = true := Cond.static_spec hnamed hmethM hstat
  obtain ⟨kP, hkP, -⟩ := className_of_methodNamed hnamed
  have hinitP : kP.init = .initialized := Cond.initialized_spec (findClass_of_methodNamed hnamed) hkP hinit
  obtain ⟨vm₁, X₁, hstep₁⟩ := X.invokestatic hexec hown hlink hnamed hmethM hstatic hkP hinitP hy (g := g) hg (argsL := argsL) (rest := rest) (hlen _ hsigM) hstack hdg
  obtain ⟨v, B, X', hpost, hsteps⟩ := hK m meth c ⟨T.setVm vm₁, locs, cells, slots⟩ { g with stack := rest } (.invokestatic index) mk argsL.toArray X₁ hg hsize hdg hW (X₁.named hnamed) (hpre vm₁ X₁.warmed)
  exact ⟨v, vm₁, B, X₁.warmed, X', hpost, fun target h => hstep₁ _ fun acts => by rw [doInvoke_state]; exact hsteps.trans h⟩
theorem vx_runSW {y : MethodName} {bytes cc : ByteArray} {maxL nL mc ms n index : Nat} {ret : Option FieldType} {hh : List (Nat × Nat × Nat × Nat)} {ws : List Cond} {rm : Room} {Pc : Array Value → State → Prop} {Qc : Array Value → State → Outcome → State → Prop} {free : Addr → Prop} {Ts : List Cond} {own : String} {As rest : List Value} {g : JFrame}
    (S : CallFix p m c cc nL s args Ts own) (hM : Met l y ws rm Pc Qc mc ms free) (cw : vx_CSW R s args own index y bytes maxL ret hh ws rm mc ms n) (hp : PreS s H Pc As)
    (hg : g.method = m) (hn : As.length = n) (hsize : g.locals.size = nL) (hstack : g.stack = As.reverse ++ rest) (hW : 2 * g.monitorRoom + (rest.map fun v => v.category).sum ≤ 8) (hdg : decode cc g.pc = .ok (.invokestatic index, 3)) (hf : cells + mc ≤ R.cells ∧ slots + ms ≤ R.slots) :
    va_Run p l e R s m args below meth c H locs cells slots mc ms g rest (Qc As.toArray) (free) := by
  obtain ⟨⟨hrc, hrs, hfr, hlo, hws, hcw⟩, hcode, hini, hy, hlen, hl, hstt⟩ := cw
  have hK : Back l R p e below s args y 3 8 (PreOf R mc ms Pc) (PostOf Qc mc ms free) := va_backW (hh := hh) (bytes := bytes) (maxL := maxL) (ret := ret) hM hp.1 hrc hrs hfr hlo hws hcw (fun a' U hW => word_at hW (Or.inl (by first | rfl | simp [Cond.onTables, Cond.keeps, Cond.steady])) hini)
  obtain ⟨hx, hb, hml, ho, -⟩ := S
  intro T hT X
  obtain ⟨v, vm₁, ⟨U', l2, c2, s2⟩, hW₁, X', ⟨g', mk, t, L, e1, e2, hq, h1, hL, h2, h3⟩, st⟩ := vx_callSW X hx (hh := hh) (bytes := bytes) (maxL := maxL) (ret := ret) ho hl hstt hini hcode hy hK hg (hsize.trans hml.symm) (argsL := As) (rest := rest) (fun sig h => hn.trans (hlen sig h)) hstack hW (by rw [hb]; exact hdg)
    (fun vm₁ hW₁ => ⟨hf.1, hf.2, hp.2 (T.setVm vm₁) hT hW₁⟩)
  dsimp only [Pt.U, Pt.locs, Pt.cells, Pt.slots] at X' e1 e2 h1 h2 h3 st
  subst h1; subst h2; subst h3
  exact ⟨v, (T.setVm vm₁).calling g' mk As.toArray, t, U', L, hT, X', hL, e1, e2, hq, st⟩
end VXS
def RX0 : String := "Urnwright$Deck"
def TX0 : u_T := fun k => match k with
  | _ => ("Urnwright$Deck", "runs", "[J", true)
def tyX0 : Nat → FieldType := fun k => match k with
  | _ => .array .long
abbrev wsX00 : List Cond := u_ws RX0 TX0 1
theorem nmX0 : ∀ a, a < 1 → ∀ b, b < 1 → a ≠ b → (TX0 a).2.1 ≠ (TX0 b).2.1 := by decide +kernel
theorem tyX0_ok : ∀ k, k < 1 → parseFieldDescriptor (TX0 k).2.2.1 = some (tyX0 k) := by decide +kernel
abbrev cX0_init : ByteArray := prog_2_method_1_code
def yX0_init : MethodName := ⟨RX0, "<init>", "()V"⟩
abbrev cX0_shuffle : ByteArray := prog_2_method_2_code
def yX0_shuffle : MethodName := ⟨RX0, "shuffle", "(II)V"⟩
abbrev cX0_sumOfDifferences : ByteArray := prog_2_method_3_code
def yX0_sumOfDifferences : MethodName := ⟨RX0, "sumOfDifferences", "(IJJ)J"⟩
abbrev cX0_ordersWithEnd : ByteArray := prog_2_method_4_code
def yX0_ordersWithEnd : MethodName := ⟨RX0, "ordersWithEnd", "(II)J"⟩
def RX1 : String := "Urnwright$Game"
def TX1 : u_T := fun k => match k with
  | 0 => ("Urnwright$Game", "ways", "[J", true)
  | 1 => ("Urnwright$Game", "yields", "[I", true)
  | 2 => ("Urnwright$Game", "paths", "[I", true)
  | 3 => ("Urnwright$Game", "counts", "[I", true)
  | 4 => ("Urnwright$Game", "worths", "[J", true)
  | 5 => ("Urnwright$Game", "isOver", "[Z", true)
  | 6 => ("Urnwright$Game", "steps", "I", false)
  | 7 => ("Urnwright$Game", "total", "I", false)
  | _ => ("Urnwright$Game", "growth", "I", false)
def tyX1 : Nat → FieldType := fun k => match k with
  | 0 => .array .long
  | 1 => .array .int
  | 2 => .array .int
  | 3 => .array .int
  | 4 => .array .long
  | 5 => .array .boolean
  | 6 => .int
  | 7 => .int
  | _ => .int
abbrev wsX10 : List Cond := u_ws RX1 TX1 9
theorem nmX1 : ∀ a, a < 9 → ∀ b, b < 9 → a ≠ b → (TX1 a).2.1 ≠ (TX1 b).2.1 := by decide +kernel
theorem tyX1_ok : ∀ k, k < 9 → parseFieldDescriptor (TX1 k).2.2.1 = some (tyX1 k) := by decide +kernel
abbrev cX1_init : ByteArray := prog_3_method_1_code
def yX1_init : MethodName := ⟨RX1, "<init>", "()V"⟩
abbrev cX1_open : ByteArray := prog_3_method_2_code
def yX1_open : MethodName := ⟨RX1, "open", "(LUrnwright$Urn;I)V"⟩
abbrev cX1_grow : ByteArray := prog_3_method_3_code
def yX1_grow : MethodName := ⟨RX1, "grow", "(LUrnwright$Urn;II)V"⟩
abbrev cX1_countAt : ByteArray := prog_3_method_4_code
def yX1_countAt : MethodName := ⟨RX1, "countAt", "(II)I"⟩
abbrev cX1_waysFrom : ByteArray := prog_3_method_5_code
def yX1_waysFrom : MethodName := ⟨RX1, "waysFrom", "(I)J"⟩
abbrev cX1_waysBetween : ByteArray := prog_3_method_6_code
def yX1_waysBetween : MethodName := ⟨RX1, "waysBetween", "(II)J"⟩
abbrev cX1_sumOfPowers : ByteArray := prog_3_method_7_code
def yX1_sumOfPowers : MethodName := ⟨RX1, "sumOfPowers", "(I)J"⟩
abbrev cX1_sumOfPowersWith : ByteArray := prog_3_method_8_code
def yX1_sumOfPowersWith : MethodName := ⟨RX1, "sumOfPowersWith", "(III)J"⟩
abbrev cX1_pathOfUnfair : ByteArray := prog_3_method_9_code
def yX1_pathOfUnfair : MethodName := ⟨RX1, "pathOfUnfair", "(LUrnwright$Urn;)I"⟩
abbrev cX1_pathWithOrder : ByteArray := prog_3_method_10_code
def yX1_pathWithOrder : MethodName := ⟨RX1, "pathWithOrder", "()I"⟩
abbrev cX1_hasOrder : ByteArray := prog_3_method_11_code
def yX1_hasOrder : MethodName := ⟨RX1, "hasOrder", "(II)Z"⟩
abbrev cX1_sumStopped : ByteArray := prog_3_method_12_code
def yX1_sumStopped : MethodName := ⟨RX1, "sumStopped", "(LUrnwright$Urn;Z)J"⟩
abbrev cX1_weigh : ByteArray := prog_3_method_13_code
def yX1_weigh : MethodName := ⟨RX1, "weigh", "(I)I"⟩
abbrev cX1_prizeAt : ByteArray := prog_3_method_14_code
def yX1_prizeAt : MethodName := ⟨RX1, "prizeAt", "(II)J"⟩
abbrev cX1_worthBehind : ByteArray := prog_3_method_15_code
def yX1_worthBehind : MethodName := ⟨RX1, "worthBehind", "(I)J"⟩
def RX2 : String := "Urnwright$Row"
def TX2 : u_T := fun k => match k with
  | 0 => ("Urnwright$Row", "weights", "[I", true)
  | _ => ("Urnwright$Row", "sum", "I", true)
def tyX2 : Nat → FieldType := fun k => match k with
  | 0 => .array .int
  | _ => .int
abbrev wsX20 : List Cond := u_ws RX2 TX2 2
theorem nmX2 : ∀ a, a < 2 → ∀ b, b < 2 → a ≠ b → (TX2 a).2.1 ≠ (TX2 b).2.1 := by decide +kernel
theorem tyX2_ok : ∀ k, k < 2 → parseFieldDescriptor (TX2 k).2.2.1 = some (tyX2 k) := by decide +kernel
abbrev cX2_init : ByteArray := prog_4_method_1_code
def yX2_init : MethodName := ⟨RX2, "<init>", "(IIIII)V"⟩
def RX3 : String := "Urnwright$Sides"
def TX3 : u_T := fun k => match k with
  | 0 => ("Urnwright$Sides", "left", "[I", true)
  | _ => ("Urnwright$Sides", "itsLeft", "[I", true)
def tyX3 : Nat → FieldType := fun k => match k with
  | 0 => .array .int
  | _ => .array .int
abbrev wsX30 : List Cond := u_ws RX3 TX3 2
theorem nmX3 : ∀ a, a < 2 → ∀ b, b < 2 → a ≠ b → (TX3 a).2.1 ≠ (TX3 b).2.1 := by decide +kernel
theorem tyX3_ok : ∀ k, k < 2 → parseFieldDescriptor (TX3 k).2.2.1 = some (tyX3 k) := by decide +kernel
abbrev cX3_init : ByteArray := prog_5_method_1_code
def yX3_init : MethodName := ⟨RX3, "<init>", "()V"⟩
abbrev cX3_lay : ByteArray := prog_5_method_2_code
def yX3_lay : MethodName := ⟨RX3, "lay", "(LUrnwright$Row;LUrnwright$Row;)V"⟩
abbrev cX3_move : ByteArray := prog_5_method_3_code
def yX3_move : MethodName := ⟨RX3, "move", "(II)I"⟩
abbrev cX3_stay : ByteArray := prog_5_method_4_code
def yX3_stay : MethodName := ⟨RX3, "stay", "(II)I"⟩
abbrev cX3_step : ByteArray := prog_5_method_5_code
def yX3_step : MethodName := ⟨RX3, "step", "(II)I"⟩
def RX4 : String := "Urnwright$Urn"
def TX4 : u_T := fun k => match k with
  | 0 => ("Urnwright$Urn", "growth", "I", true)
  | 1 => ("Urnwright$Urn", "counts", "[I", true)
  | 2 => ("Urnwright$Urn", "pays", "[I", true)
  | 3 => ("Urnwright$Urn", "adds", "[I", true)
  | 4 => ("Urnwright$Urn", "countsBefore", "[I", true)
  | 5 => ("Urnwright$Urn", "stopKind", "I", false)
  | 6 => ("Urnwright$Urn", "stopNumber", "I", false)
  | 7 => ("Urnwright$Urn", "gain", "I", false)
  | 8 => ("Urnwright$Urn", "path", "I", false)
  | _ => ("Urnwright$Urn", "draws", "I", false)
def tyX4 : Nat → FieldType := fun k => match k with
  | 0 => .int
  | 1 => .array .int
  | 2 => .array .int
  | 3 => .array .int
  | 4 => .array .int
  | 5 => .int
  | 6 => .int
  | 7 => .int
  | 8 => .int
  | _ => .int
abbrev wsX40 : List Cond := u_ws RX4 TX4 10
theorem nmX4 : ∀ a, a < 10 → ∀ b, b < 10 → a ≠ b → (TX4 a).2.1 ≠ (TX4 b).2.1 := by decide +kernel
theorem tyX4_ok : ∀ k, k < 10 → parseFieldDescriptor (TX4 k).2.2.1 = some (tyX4 k) := by decide +kernel
abbrev cX4_init : ByteArray := prog_6_method_1_code
def yX4_init : MethodName := ⟨RX4, "<init>", "(IIII)V"⟩
abbrev cX4_addOf : ByteArray := prog_6_method_2_code
def yX4_addOf : MethodName := ⟨RX4, "addOf", "(II)I"⟩
abbrev cX4_countAll : ByteArray := prog_6_method_3_code
def yX4_countAll : MethodName := ⟨RX4, "countAll", "()I"⟩
abbrev cX4_mostSteps : ByteArray := prog_6_method_4_code
def yX4_mostSteps : MethodName := ⟨RX4, "mostSteps", "()I"⟩
abbrev cX4_take : ByteArray := prog_6_method_5_code
def yX4_take : MethodName := ⟨RX4, "take", "(I)V"⟩
abbrev cX4_takeBack : ByteArray := prog_6_method_6_code
def yX4_takeBack : MethodName := ⟨RX4, "takeBack", "()I"⟩
abbrev cX4_isStopAt : ByteArray := prog_6_method_7_code
def yX4_isStopAt : MethodName := ⟨RX4, "isStopAt", "(II)Z"⟩
abbrev cX4_isOften : ByteArray := prog_6_method_8_code
def yX4_isOften : MethodName := ⟨RX4, "isOften", "(II)Z"⟩
abbrev cX4_lean : ByteArray := prog_6_method_9_code
def yX4_lean : MethodName := ⟨RX4, "lean", "()D"⟩
def RX5 : String := "Urnwright"
def TX5 : u_T := fun k => match k with
  | 0 => ("Urnwright", "urns", "[LUrnwright$Urn;", true)
  | 1 => ("Urnwright", "rows", "[LUrnwright$Row;", true)
  | 2 => ("Urnwright", "game", "LUrnwright$Game;", true)
  | 3 => ("Urnwright", "sides", "LUrnwright$Sides;", true)
  | 4 => ("Urnwright", "deck", "LUrnwright$Deck;", true)
  | 5 => ("Urnwright", "urnsTold", "I", false)
  | 6 => ("Urnwright", "rowsTold", "I", false)
  | _ => ("Urnwright", "knocks", "I", false)
def tyX5 : Nat → FieldType := fun k => match k with
  | 0 => .array (.object "Urnwright$Urn")
  | 1 => .array (.object "Urnwright$Row")
  | 2 => .object "Urnwright$Game"
  | 3 => .object "Urnwright$Sides"
  | 4 => .object "Urnwright$Deck"
  | 5 => .int
  | 6 => .int
  | _ => .int
abbrev wsX50 : List Cond := u_ws RX5 TX5 8
theorem nmX5 : ∀ a, a < 8 → ∀ b, b < 8 → a ≠ b → (TX5 a).2.1 ≠ (TX5 b).2.1 := by decide +kernel
theorem tyX5_ok : ∀ k, k < 8 → parseFieldDescriptor (TX5 k).2.2.1 = some (tyX5 k) := by decide +kernel
abbrev cX5_init : ByteArray := prog_1_method_1_code
def yX5_init : MethodName := ⟨RX5, "<init>", "()V"⟩
abbrev cX5_urn : ByteArray := prog_1_method_2_code
def yX5_urn : MethodName := ⟨RX5, "urn", "(IIII)I"⟩
abbrev cX5_rule : ByteArray := prog_1_method_3_code
def yX5_rule : MethodName := ⟨RX5, "rule", "(IIIII)I"⟩
abbrev cX5_pay : ByteArray := prog_1_method_4_code
def yX5_pay : MethodName := ⟨RX5, "pay", "(III)I"⟩
abbrev cX5_stop : ByteArray := prog_1_method_5_code
def yX5_stop : MethodName := ⟨RX5, "stop", "(III)I"⟩
abbrev cX5_draw : ByteArray := prog_1_method_6_code
def yX5_draw : MethodName := ⟨RX5, "draw", "(II)I"⟩
abbrev cX5_back : ByteArray := prog_1_method_7_code
def yX5_back : MethodName := ⟨RX5, "back", "(I)I"⟩
abbrev cX5_row : ByteArray := prog_1_method_8_code
def yX5_row : MethodName := ⟨RX5, "row", "(IIIII)I"⟩
abbrev cX5_chance : ByteArray := prog_1_method_9_code
def yX5_chance : MethodName := ⟨RX5, "chance", "(IIZ)J"⟩
abbrev cX5_gains : ByteArray := prog_1_method_10_code
def yX5_gains : MethodName := ⟨RX5, "gains", "(IIIZ)J"⟩
abbrev cX5_mean : ByteArray := prog_1_method_11_code
def yX5_mean : MethodName := ⟨RX5, "mean", "(IIZZ)J"⟩
abbrev cX5_unfair : ByteArray := prog_1_method_12_code
def yX5_unfair : MethodName := ⟨RX5, "unfair", "(II)I"⟩
abbrev cX5_ordered : ByteArray := prog_1_method_13_code
def yX5_ordered : MethodName := ⟨RX5, "ordered", "(II)I"⟩
abbrev cX5_given : ByteArray := prog_1_method_14_code
def yX5_given : MethodName := ⟨RX5, "given", "(IIIIZ)J"⟩
abbrev cX5_stopped : ByteArray := prog_1_method_15_code
def yX5_stopped : MethodName := ⟨RX5, "stopped", "(IIZZ)J"⟩
abbrev cX5_worth : ByteArray := prog_1_method_16_code
def yX5_worth : MethodName := ⟨RX5, "worth", "(IIIZ)J"⟩
abbrev cX5_slack : ByteArray := prog_1_method_17_code
def yX5_slack : MethodName := ⟨RX5, "slack", "(IIIZ)J"⟩
abbrev cX5_walk : ByteArray := prog_1_method_18_code
def yX5_walk : MethodName := ⟨RX5, "walk", "(IIIIZZ)J"⟩
abbrev cX5_distance : ByteArray := prog_1_method_19_code
def yX5_distance : MethodName := ⟨RX5, "distance", "(IIZ)J"⟩
abbrev cX5_table : ByteArray := prog_1_method_20_code
def yX5_table : MethodName := ⟨RX5, "table", "(IIIIZ)I"⟩
abbrev cX5_isAbove : ByteArray := prog_1_method_21_code
def yX5_isAbove : MethodName := ⟨RX5, "isAbove", "(II)Z"⟩
abbrev cX5_far : ByteArray := prog_1_method_22_code
def yX5_far : MethodName := ⟨RX5, "far", "(IIZ)J"⟩
abbrev cX5_ofUrn : ByteArray := prog_1_method_23_code
def yX5_ofUrn : MethodName := ⟨RX5, "ofUrn", "(II)I"⟩
abbrev cX5_text : ByteArray := prog_1_method_24_code
def yX5_text : MethodName := ⟨RX5, "text", "(I)Ljava/lang/String;"⟩
abbrev cX5_tilt : ByteArray := prog_1_method_25_code
def yX5_tilt : MethodName := ⟨RX5, "tilt", "(I)D"⟩
abbrev cX5_percent : ByteArray := prog_1_method_26_code
def yX5_percent : MethodName := ⟨RX5, "percent", "(II)D"⟩
abbrev cX5_many : ByteArray := prog_1_method_27_code
def yX5_many : MethodName := ⟨RX5, "many", "(I)I"⟩
abbrev cX5_wouldGain : ByteArray := prog_1_method_28_code
def yX5_wouldGain : MethodName := ⟨RX5, "wouldGain", "(II)I"⟩
abbrev cX5_stops : ByteArray := prog_1_method_29_code
def yX5_stops : MethodName := ⟨RX5, "stops", "(III)I"⟩
abbrev cX5_digest : ByteArray := prog_1_method_30_code
def yX5_digest : MethodName := ⟨RX5, "digest", "()J"⟩
abbrev cX5_digestOfUrn : ByteArray := prog_1_method_31_code
def yX5_digestOfUrn : MethodName := ⟨RX5, "digestOfUrn", "(JI)J"⟩
abbrev cX5_urnOf : ByteArray := prog_1_method_32_code
def yX5_urnOf : MethodName := ⟨RX5, "urnOf", "(I)LUrnwright$Urn;"⟩
abbrev cX5_rowOf : ByteArray := prog_1_method_33_code
def yX5_rowOf : MethodName := ⟨RX5, "rowOf", "(I)LUrnwright$Row;"⟩
abbrev cX5_lookAtColour : ByteArray := prog_1_method_34_code
def yX5_lookAtColour : MethodName := ⟨RX5, "lookAtColour", "(I)V"⟩
abbrev cX5_lookAtStrike : ByteArray := prog_1_method_35_code
def yX5_lookAtStrike : MethodName := ⟨RX5, "lookAtStrike", "(I)V"⟩
abbrev cX5_openGame : ByteArray := prog_1_method_36_code
def yX5_openGame : MethodName := ⟨RX5, "openGame", "(LUrnwright$Urn;I)V"⟩
abbrev cX5_openPath : ByteArray := prog_1_method_37_code
def yX5_openPath : MethodName := ⟨RX5, "openPath", "(LUrnwright$Urn;I)V"⟩
abbrev cX5_sumOfUrns : ByteArray := prog_1_method_38_code
def yX5_sumOfUrns : MethodName := ⟨RX5, "sumOfUrns", "(I)I"⟩
abbrev cX5_sumOfTilts : ByteArray := prog_1_method_39_code
def yX5_sumOfTilts : MethodName := ⟨RX5, "sumOfTilts", "()D"⟩
abbrev cX5_isWithin : ByteArray := prog_1_method_40_code
def yX5_isWithin : MethodName := ⟨RX5, "isWithin", "(III)Z"⟩
abbrev cX5_isWeight : ByteArray := prog_1_method_41_code
def yX5_isWeight : MethodName := ⟨RX5, "isWeight", "(I)Z"⟩
abbrev cX5_at : ByteArray := prog_1_method_42_code
def yX5_at : MethodName := ⟨RX5, "at", "([II)I"⟩
abbrev cX5_at_ : ByteArray := prog_1_method_43_code
def yX5_at_ : MethodName := ⟨RX5, "at", "([JI)J"⟩
abbrev cX5_at__ : ByteArray := prog_1_method_44_code
def yX5_at__ : MethodName := ⟨RX5, "at", "([ZI)Z"⟩
abbrev cX5_put : ByteArray := prog_1_method_45_code
def yX5_put : MethodName := ⟨RX5, "put", "([III)V"⟩
abbrev cX5_put_ : ByteArray := prog_1_method_46_code
def yX5_put_ : MethodName := ⟨RX5, "put", "([JIJ)V"⟩
abbrev cX5_put__ : ByteArray := prog_1_method_47_code
def yX5_put__ : MethodName := ⟨RX5, "put", "([ZIZ)V"⟩
abbrev cX5_part : ByteArray := prog_1_method_48_code
def yX5_part : MethodName := ⟨RX5, "part", "(JJZ)J"⟩
abbrev cX5_sharedDivisor : ByteArray := prog_1_method_49_code
def yX5_sharedDivisor : MethodName := ⟨RX5, "sharedDivisor", "(JJ)J"⟩
abbrev cX5_power : ByteArray := prog_1_method_50_code
def yX5_power : MethodName := ⟨RX5, "power", "(II)J"⟩
abbrev cX5_factorial : ByteArray := prog_1_method_51_code
def yX5_factorial : MethodName := ⟨RX5, "factorial", "(I)J"⟩
abbrev cX5_nearestWhole : ByteArray := prog_1_method_52_code
def yX5_nearestWhole : MethodName := ⟨RX5, "nearestWhole", "(D)D"⟩
abbrev cX5_drawsOf : ByteArray := prog_1_method_53_code
def yX5_drawsOf : MethodName := ⟨RX5, "drawsOf", "(I)I"⟩
abbrev cX5_nodeOf : ByteArray := prog_1_method_54_code
def yX5_nodeOf : MethodName := ⟨RX5, "nodeOf", "(I)I"⟩
abbrev cX5_timesIn : ByteArray := prog_1_method_55_code
def yX5_timesIn : MethodName := ⟨RX5, "timesIn", "(II)I"⟩
abbrev cX5_firstWith : ByteArray := prog_1_method_56_code
def yX5_firstWith : MethodName := ⟨RX5, "firstWith", "(I)I"⟩
abbrev cX5_behind : ByteArray := prog_1_method_57_code
def yX5_behind : MethodName := ⟨RX5, "behind", "(II)I"⟩
def RX6 : String := "UrnwrightLaw$Out"
def TX6 : u_T := fun k => match k with
  | 0 => ("UrnwrightLaw$Out", "n", "J", false)
  | 1 => ("UrnwrightLaw$Out", "d", "D", false)
  | _ => ("UrnwrightLaw$Out", "s", "Ljava/lang/String;", false)
def tyX6 : Nat → FieldType := fun k => match k with
  | 0 => .long
  | 1 => .double
  | _ => .object "java/lang/String"
abbrev wsX60 : List Cond := u_ws RX6 TX6 3
theorem nmX6 : ∀ a, a < 3 → ∀ b, b < 3 → a ≠ b → (TX6 a).2.1 ≠ (TX6 b).2.1 := by decide +kernel
theorem tyX6_ok : ∀ k, k < 3 → parseFieldDescriptor (TX6 k).2.2.1 = some (tyX6 k) := by decide +kernel
abbrev cX6_init : ByteArray := prog_8_method_1_code
def yX6_init : MethodName := ⟨RX6, "<init>", "()V"⟩
def RX7 : String := "UrnwrightModel$Node"
def TX7 : u_T := fun k => match k with
  | 0 => ("UrnwrightModel$Node", "counts", "[I", true)
  | 1 => ("UrnwrightModel$Node", "drawn", "[I", true)
  | 2 => ("UrnwrightModel$Node", "from", "I", false)
  | 3 => ("UrnwrightModel$Node", "draws", "I", false)
  | 4 => ("UrnwrightModel$Node", "path", "I", false)
  | 5 => ("UrnwrightModel$Node", "gains", "I", false)
  | 6 => ("UrnwrightModel$Node", "up", "J", false)
  | 7 => ("UrnwrightModel$Node", "down", "J", false)
  | 8 => ("UrnwrightModel$Node", "isOver", "Z", false)
  | 9 => ("UrnwrightModel$Node", "worth", "LUrnwrightModel$Sum;", false)
  | _ => ("UrnwrightModel$Node", "next", "LUrnwrightModel$Sum;", false)
def tyX7 : Nat → FieldType := fun k => match k with
  | 0 => .array .int
  | 1 => .array .int
  | 2 => .int
  | 3 => .int
  | 4 => .int
  | 5 => .int
  | 6 => .long
  | 7 => .long
  | 8 => .boolean
  | 9 => .object "UrnwrightModel$Sum"
  | _ => .object "UrnwrightModel$Sum"
abbrev wsX70 : List Cond := u_ws RX7 TX7 11
theorem nmX7 : ∀ a, a < 11 → ∀ b, b < 11 → a ≠ b → (TX7 a).2.1 ≠ (TX7 b).2.1 := by decide +kernel
theorem tyX7_ok : ∀ k, k < 11 → parseFieldDescriptor (TX7 k).2.2.1 = some (tyX7 k) := by decide +kernel
abbrev cX7_init : ByteArray := prog_10_method_1_code
def yX7_init : MethodName := ⟨RX7, "<init>", "([I)V"⟩
def RX8 : String := "UrnwrightModel$Sum"
def TX8 : u_T := fun k => match k with
  | 0 => ("UrnwrightModel$Sum", "up", "J", false)
  | _ => ("UrnwrightModel$Sum", "down", "J", false)
def tyX8 : Nat → FieldType := fun k => match k with
  | 0 => .long
  | _ => .long
abbrev wsX80 : List Cond := u_ws RX8 TX8 2
theorem nmX8 : ∀ a, a < 2 → ∀ b, b < 2 → a ≠ b → (TX8 a).2.1 ≠ (TX8 b).2.1 := by decide +kernel
theorem tyX8_ok : ∀ k, k < 2 → parseFieldDescriptor (TX8 k).2.2.1 = some (tyX8 k) := by decide +kernel
abbrev cX8_init : ByteArray := prog_11_method_1_code
def yX8_init : MethodName := ⟨RX8, "<init>", "()V"⟩
abbrev cX8_add : ByteArray := prog_11_method_2_code
def yX8_add : MethodName := ⟨RX8, "add", "(JJJ)LUrnwrightModel$Sum;"⟩
abbrev cX8_times : ByteArray := prog_11_method_3_code
def yX8_times : MethodName := ⟨RX8, "times", "(JJ)LUrnwrightModel$Sum;"⟩
abbrev cX8_isBelow : ByteArray := prog_11_method_4_code
def yX8_isBelow : MethodName := ⟨RX8, "isBelow", "(LUrnwrightModel$Sum;)Z"⟩
abbrev cX8_part : ByteArray := prog_11_method_5_code
def yX8_part : MethodName := ⟨RX8, "part", "(Z)J"⟩
def RX9 : String := "UrnwrightModel$Urn"
def TX9 : u_T := fun k => match k with
  | 0 => ("UrnwrightModel$Urn", "counts", "[I", false)
  | 1 => ("UrnwrightModel$Urn", "growth", "I", true)
  | 2 => ("UrnwrightModel$Urn", "rules", "[[I", true)
  | 3 => ("UrnwrightModel$Urn", "pays", "[I", true)
  | 4 => ("UrnwrightModel$Urn", "before", "Ljava/util/List;", true)
  | 5 => ("UrnwrightModel$Urn", "path", "I", false)
  | 6 => ("UrnwrightModel$Urn", "gain", "I", false)
  | 7 => ("UrnwrightModel$Urn", "kind", "I", false)
  | _ => ("UrnwrightModel$Urn", "number", "I", false)
def tyX9 : Nat → FieldType := fun k => match k with
  | 0 => .array .int
  | 1 => .int
  | 2 => .array (.array .int)
  | 3 => .array .int
  | 4 => .object "java/util/List"
  | 5 => .int
  | 6 => .int
  | 7 => .int
  | _ => .int
abbrev wsX90 : List Cond := u_ws RX9 TX9 9
theorem nmX9 : ∀ a, a < 9 → ∀ b, b < 9 → a ≠ b → (TX9 a).2.1 ≠ (TX9 b).2.1 := by decide +kernel
theorem tyX9_ok : ∀ k, k < 9 → parseFieldDescriptor (TX9 k).2.2.1 = some (tyX9 k) := by decide +kernel
abbrev cX9_init : ByteArray := prog_12_method_1_code
def yX9_init : MethodName := ⟨RX9, "<init>", "([II)V"⟩
abbrev cX9_all : ByteArray := prog_12_method_2_code
def yX9_all : MethodName := ⟨RX9, "all", "([I)I"⟩
abbrev cX9_behind : ByteArray := prog_12_method_3_code
def yX9_behind : MethodName := ⟨RX9, "behind", "([II)[I"⟩
abbrev cX9_canPlay : ByteArray := prog_12_method_4_code
def yX9_canPlay : MethodName := ⟨RX9, "canPlay", "(I)Z"⟩
abbrev cX9_game : ByteArray := prog_12_method_5_code
def yX9_game : MethodName := ⟨RX9, "game", "(I)Ljava/util/List;"⟩
abbrev cX9_holds : ByteArray := prog_12_method_6_code
def yX9_holds : MethodName := ⟨RX9, "holds", "(LUrnwrightModel$Node;)Z"⟩
def RX10 : String := "UrnwrightModel"
def TX10 : u_T := fun k => match k with
  | 0 => ("UrnwrightModel", "thrown", "I", false)
  | 1 => ("UrnwrightModel", "knocks", "I", false)
  | 2 => ("UrnwrightModel", "urns", "Ljava/util/List;", true)
  | _ => ("UrnwrightModel", "rows", "Ljava/util/List;", true)
def tyX10 : Nat → FieldType := fun k => match k with
  | 0 => .int
  | 1 => .int
  | 2 => .object "java/util/List"
  | _ => .object "java/util/List"
abbrev wsX100 : List Cond := u_ws RX10 TX10 4
theorem nmX10 : ∀ a, a < 4 → ∀ b, b < 4 → a ≠ b → (TX10 a).2.1 ≠ (TX10 b).2.1 := by decide +kernel
theorem tyX10_ok : ∀ k, k < 4 → parseFieldDescriptor (TX10 k).2.2.1 = some (tyX10 k) := by decide +kernel
abbrev cX10_init : ByteArray := prog_9_method_1_code
def yX10_init : MethodName := ⟨RX10, "<init>", "()V"⟩
abbrev cX10_thrown : ByteArray := prog_9_method_2_code
def yX10_thrown : MethodName := ⟨RX10, "thrown", "()I"⟩
abbrev cX10_no : ByteArray := prog_9_method_3_code
def yX10_no : MethodName := ⟨RX10, "no", "(I)I"⟩
abbrev cX10_in : ByteArray := prog_9_method_4_code
def yX10_in : MethodName := ⟨RX10, "in", "(III)Z"⟩
abbrev cX10_common : ByteArray := prog_9_method_5_code
def yX10_common : MethodName := ⟨RX10, "common", "(JJ)J"⟩
abbrev cX10_isUrn : ByteArray := prog_9_method_6_code
def yX10_isUrn : MethodName := ⟨RX10, "isUrn", "(I)Z"⟩
abbrev cX10_isRow : ByteArray := prog_9_method_7_code
def yX10_isRow : MethodName := ⟨RX10, "isRow", "(I)Z"⟩
abbrev cX10_draws : ByteArray := prog_9_method_8_code
def yX10_draws : MethodName := ⟨RX10, "draws", "(I)I"⟩
abbrev cX10_urn : ByteArray := prog_9_method_9_code
def yX10_urn : MethodName := ⟨RX10, "urn", "(IIII)I"⟩
abbrev cX10_rule : ByteArray := prog_9_method_10_code
def yX10_rule : MethodName := ⟨RX10, "rule", "(IIIII)I"⟩
abbrev cX10_pay : ByteArray := prog_9_method_11_code
def yX10_pay : MethodName := ⟨RX10, "pay", "(III)I"⟩
abbrev cX10_stop : ByteArray := prog_9_method_12_code
def yX10_stop : MethodName := ⟨RX10, "stop", "(III)I"⟩
abbrev cX10_draw : ByteArray := prog_9_method_13_code
def yX10_draw : MethodName := ⟨RX10, "draw", "(II)I"⟩
abbrev cX10_back : ByteArray := prog_9_method_14_code
def yX10_back : MethodName := ⟨RX10, "back", "(I)I"⟩
abbrev cX10_row : ByteArray := prog_9_method_15_code
def yX10_row : MethodName := ⟨RX10, "row", "(IIIII)I"⟩
abbrev cX10_chance : ByteArray := prog_9_method_16_code
def yX10_chance : MethodName := ⟨RX10, "chance", "(IIZ)J"⟩
abbrev cX10_chanceOf : ByteArray := prog_9_method_17_code
def yX10_chanceOf : MethodName := ⟨RX10, "chanceOf", "(LUrnwrightModel$Urn;I)LUrnwrightModel$Sum;"⟩
abbrev cX10_canPlay : ByteArray := prog_9_method_18_code
def yX10_canPlay : MethodName := ⟨RX10, "canPlay", "(II)Z"⟩
abbrev cX10_gains : ByteArray := prog_9_method_19_code
def yX10_gains : MethodName := ⟨RX10, "gains", "(IIIZ)J"⟩
abbrev cX10_moment : ByteArray := prog_9_method_20_code
def yX10_moment : MethodName := ⟨RX10, "moment", "(Ljava/util/List;II)LUrnwrightModel$Sum;"⟩
abbrev cX10_meanNow : ByteArray := prog_9_method_21_code
def yX10_meanNow : MethodName := ⟨RX10, "meanNow", "(Ljava/util/List;IZ)LUrnwrightModel$Sum;"⟩
abbrev cX10_mean : ByteArray := prog_9_method_22_code
def yX10_mean : MethodName := ⟨RX10, "mean", "(IIZZ)J"⟩
abbrev cX10_unfairNow : ByteArray := prog_9_method_23_code
def yX10_unfairNow : MethodName := ⟨RX10, "unfairNow", "(LUrnwrightModel$Urn;Ljava/util/List;I)I"⟩
abbrev cX10_unfair : ByteArray := prog_9_method_24_code
def yX10_unfair : MethodName := ⟨RX10, "unfair", "(II)I"⟩
abbrev cX10_orderedNow : ByteArray := prog_9_method_25_code
def yX10_orderedNow : MethodName := ⟨RX10, "orderedNow", "(LUrnwrightModel$Urn;Ljava/util/List;I)I"⟩
abbrev cX10_ordered : ByteArray := prog_9_method_26_code
def yX10_ordered : MethodName := ⟨RX10, "ordered", "(II)I"⟩
abbrev cX10_given : ByteArray := prog_9_method_27_code
def yX10_given : MethodName := ⟨RX10, "given", "(IIIIZ)J"⟩
abbrev cX10_stoppedNow : ByteArray := prog_9_method_28_code
def yX10_stoppedNow : MethodName := ⟨RX10, "stoppedNow", "(LUrnwrightModel$Urn;Ljava/util/List;IZ)LUrnwrightModel$Sum;"⟩
abbrev cX10_stopped : ByteArray := prog_9_method_29_code
def yX10_stopped : MethodName := ⟨RX10, "stopped", "(IIZZ)J"⟩
abbrev cX10_play : ByteArray := prog_9_method_30_code
def yX10_play : MethodName := ⟨RX10, "play", "(Ljava/util/List;II)I"⟩
abbrev cX10_worthNow : ByteArray := prog_9_method_31_code
def yX10_worthNow : MethodName := ⟨RX10, "worthNow", "(Ljava/util/List;II)LUrnwrightModel$Sum;"⟩
abbrev cX10_worth : ByteArray := prog_9_method_32_code
def yX10_worth : MethodName := ⟨RX10, "worth", "(IIIZ)J"⟩
abbrev cX10_slack : ByteArray := prog_9_method_33_code
def yX10_slack : MethodName := ⟨RX10, "slack", "(IIIZ)J"⟩
abbrev cX10_power : ByteArray := prog_9_method_34_code
def yX10_power : MethodName := ⟨RX10, "power", "(JI)J"⟩
abbrev cX10_winning : ByteArray := prog_9_method_35_code
def yX10_winning : MethodName := ⟨RX10, "winning", "(IIII)LUrnwrightModel$Sum;"⟩
abbrev cX10_walk : ByteArray := prog_9_method_36_code
def yX10_walk : MethodName := ⟨RX10, "walk", "(IIIIZZ)J"⟩
abbrev cX10_all : ByteArray := prog_9_method_37_code
def yX10_all : MethodName := ⟨RX10, "all", "([I)I"⟩
abbrev cX10_distanceNow : ByteArray := prog_9_method_38_code
def yX10_distanceNow : MethodName := ⟨RX10, "distanceNow", "(II)LUrnwrightModel$Sum;"⟩
abbrev cX10_distance : ByteArray := prog_9_method_39_code
def yX10_distance : MethodName := ⟨RX10, "distance", "(IIZ)J"⟩
abbrev cX10_table : ByteArray := prog_9_method_40_code
def yX10_table : MethodName := ⟨RX10, "table", "(IIIIZ)I"⟩
abbrev cX10_isAbove : ByteArray := prog_9_method_41_code
def yX10_isAbove : MethodName := ⟨RX10, "isAbove", "(II)Z"⟩
abbrev cX10_shuffled : ByteArray := prog_9_method_42_code
def yX10_shuffled : MethodName := ⟨RX10, "shuffled", "([JI)[J"⟩
abbrev cX10_far : ByteArray := prog_9_method_43_code
def yX10_far : MethodName := ⟨RX10, "far", "(IIZ)J"⟩
abbrev cX10_urnNow : ByteArray := prog_9_method_44_code
def yX10_urnNow : MethodName := ⟨RX10, "urnNow", "(LUrnwrightModel$Urn;I)I"⟩
abbrev cX10_ofUrn : ByteArray := prog_9_method_45_code
def yX10_ofUrn : MethodName := ⟨RX10, "ofUrn", "(II)I"⟩
abbrev cX10_text : ByteArray := prog_9_method_46_code
def yX10_text : MethodName := ⟨RX10, "text", "(I)Ljava/lang/String;"⟩
abbrev cX10_quarters : ByteArray := prog_9_method_47_code
def yX10_quarters : MethodName := ⟨RX10, "quarters", "(LUrnwrightModel$Urn;)I"⟩
abbrev cX10_tilt : ByteArray := prog_9_method_48_code
def yX10_tilt : MethodName := ⟨RX10, "tilt", "(I)D"⟩
abbrev cX10_percent : ByteArray := prog_9_method_49_code
def yX10_percent : MethodName := ⟨RX10, "percent", "(II)D"⟩
abbrev cX10_manyNow : ByteArray := prog_9_method_50_code
def yX10_manyNow : MethodName := ⟨RX10, "manyNow", "(I)I"⟩
abbrev cX10_many : ByteArray := prog_9_method_51_code
def yX10_many : MethodName := ⟨RX10, "many", "(I)I"⟩
abbrev cX10_wouldGain : ByteArray := prog_9_method_52_code
def yX10_wouldGain : MethodName := ⟨RX10, "wouldGain", "(II)I"⟩
abbrev cX10_stops : ByteArray := prog_9_method_53_code
def yX10_stops : MethodName := ⟨RX10, "stops", "(III)I"⟩
abbrev cX10_mix : ByteArray := prog_9_method_54_code
def yX10_mix : MethodName := ⟨RX10, "mix", "(JLUrnwrightModel$Sum;)J"⟩
abbrev cX10_digest : ByteArray := prog_9_method_55_code
def yX10_digest : MethodName := ⟨RX10, "digest", "()J"⟩
def RJx145de : String := "java/io/Serializable"
def TJx145de : u_T := fun k => match k with
  | _ => ("", "", "", false)
def tyJx145de : Nat → FieldType := fun k => match k with
  | _ => .int
abbrev wsJx145de0 : List Cond := u_ws RJx145de TJx145de 0
theorem nmJx145de : ∀ a, a < 0 → ∀ b, b < 0 → a ≠ b → (TJx145de a).2.1 ≠ (TJx145de b).2.1 := by decide +kernel
theorem tyJx145de_ok : ∀ k, k < 0 → parseFieldDescriptor (TJx145de k).2.2.1 = some (tyJx145de k) := by decide +kernel
def RJ5 : String := "java/lang/AbstractStringBuilder"
def TJ5 : u_T := fun k => match k with
  | _ => ("", "", "", false)
def tyJ5 : Nat → FieldType := fun k => match k with
  | _ => .int
abbrev wsJ50 : List Cond := u_ws RJ5 TJ5 0
theorem nmJ5 : ∀ a, a < 0 → ∀ b, b < 0 → a ≠ b → (TJ5 a).2.1 ≠ (TJ5 b).2.1 := by decide +kernel
theorem tyJ5_ok : ∀ k, k < 0 → parseFieldDescriptor (TJ5 k).2.2.1 = some (tyJ5 k) := by decide +kernel
abbrev cJ5_init_d00df : ByteArray := prog_14_method_2_code
def yJ5_init_d00df : MethodName := ⟨RJ5, "<init>", "(I)V"⟩
abbrev cJ5_length_8abf5 : ByteArray := prog_14_method_6_code
def yJ5_length_8abf5 : MethodName := ⟨RJ5, "length", "()I"⟩
abbrev cJ5_ensureCapacityInternal_d00df : ByteArray := prog_14_method_9_code
def yJ5_ensureCapacityInternal_d00df : MethodName := ⟨RJ5, "ensureCapacityInternal", "(I)V"⟩
abbrev cJ5_newCapacity_0f7a4 : ByteArray := prog_14_method_10_code
def yJ5_newCapacity_0f7a4 : MethodName := ⟨RJ5, "newCapacity", "(I)I"⟩
abbrev cJ5_inflate_da8c8 : ByteArray := prog_14_method_11_code
def yJ5_inflate_da8c8 : MethodName := ⟨RJ5, "inflate", "()V"⟩
abbrev cJ5_append_cf1ce : ByteArray := prog_14_method_22_code
def yJ5_append_cf1ce : MethodName := ⟨RJ5, "append", "(Ljava/lang/String;)Ljava/lang/AbstractStringBuilder;"⟩
abbrev cJ5_appendNull_278bc : ByteArray := prog_14_method_26_code
def yJ5_appendNull_278bc : MethodName := ⟨RJ5, "appendNull", "()Ljava/lang/AbstractStringBuilder;"⟩
abbrev cJ5_append_3fe6f : ByteArray := prog_14_method_31_code
def yJ5_append_3fe6f : MethodName := ⟨RJ5, "append", "(C)Ljava/lang/AbstractStringBuilder;"⟩
abbrev cJ5_append_c97b9 : ByteArray := prog_14_method_32_code
def yJ5_append_c97b9 : MethodName := ⟨RJ5, "append", "(I)Ljava/lang/AbstractStringBuilder;"⟩
abbrev cJ5_getValue_6d5f1 : ByteArray := prog_14_method_64_code
def yJ5_getValue_6d5f1 : MethodName := ⟨RJ5, "getValue", "()[B"⟩
abbrev cJ5_isLatin1_aae02 : ByteArray := prog_14_method_68_code
def yJ5_isLatin1_aae02 : MethodName := ⟨RJ5, "isLatin1", "()Z"⟩
abbrev cJ5_inflateIfNeededFor_a7421 : ByteArray := prog_14_method_71_code
def yJ5_inflateIfNeededFor_a7421 : MethodName := ⟨RJ5, "inflateIfNeededFor", "(Ljava/lang/String;)V"⟩
abbrev cJ5_putStringAt_47b60 : ByteArray := prog_14_method_73_code
def yJ5_putStringAt_47b60 : MethodName := ⟨RJ5, "putStringAt", "(ILjava/lang/String;)V"⟩
def RJx2cfe8 : String := "java/lang/Appendable"
def TJx2cfe8 : u_T := fun k => match k with
  | _ => ("", "", "", false)
def tyJx2cfe8 : Nat → FieldType := fun k => match k with
  | _ => .int
abbrev wsJx2cfe80 : List Cond := u_ws RJx2cfe8 TJx2cfe8 0
theorem nmJx2cfe8 : ∀ a, a < 0 → ∀ b, b < 0 → a ≠ b → (TJx2cfe8 a).2.1 ≠ (TJx2cfe8 b).2.1 := by decide +kernel
theorem tyJx2cfe8_ok : ∀ k, k < 0 → parseFieldDescriptor (TJx2cfe8 k).2.2.1 = some (tyJx2cfe8 k) := by decide +kernel
def RJx9f9b0 : String := "java/lang/CharSequence"
def TJx9f9b0 : u_T := fun k => match k with
  | _ => ("", "", "", false)
def tyJx9f9b0 : Nat → FieldType := fun k => match k with
  | _ => .int
abbrev wsJx9f9b00 : List Cond := u_ws RJx9f9b0 TJx9f9b0 0
theorem nmJx9f9b0 : ∀ a, a < 0 → ∀ b, b < 0 → a ≠ b → (TJx9f9b0 a).2.1 ≠ (TJx9f9b0 b).2.1 := by decide +kernel
theorem tyJx9f9b0_ok : ∀ k, k < 0 → parseFieldDescriptor (TJx9f9b0 k).2.2.1 = some (tyJx9f9b0 k) := by decide +kernel
def RJx8e188 : String := "java/lang/Cloneable"
def TJx8e188 : u_T := fun k => match k with
  | _ => ("", "", "", false)
def tyJx8e188 : Nat → FieldType := fun k => match k with
  | _ => .int
abbrev wsJx8e1880 : List Cond := u_ws RJx8e188 TJx8e188 0
theorem nmJx8e188 : ∀ a, a < 0 → ∀ b, b < 0 → a ≠ b → (TJx8e188 a).2.1 ≠ (TJx8e188 b).2.1 := by decide +kernel
theorem tyJx8e188_ok : ∀ k, k < 0 → parseFieldDescriptor (TJx8e188 k).2.2.1 = some (tyJx8e188 k) := by decide +kernel
def RJxb160c : String := "java/lang/Comparable"
def TJxb160c : u_T := fun k => match k with
  | _ => ("", "", "", false)
def tyJxb160c : Nat → FieldType := fun k => match k with
  | _ => .int
abbrev wsJxb160c0 : List Cond := u_ws RJxb160c TJxb160c 0
theorem nmJxb160c : ∀ a, a < 0 → ∀ b, b < 0 → a ≠ b → (TJxb160c a).2.1 ≠ (TJxb160c b).2.1 := by decide +kernel
theorem tyJxb160c_ok : ∀ k, k < 0 → parseFieldDescriptor (TJxb160c k).2.2.1 = some (tyJxb160c k) := by decide +kernel
def RJ6 : String := "java/lang/Integer"
def TJ6 : u_T := fun k => match k with
  | _ => ("", "", "", false)
def tyJ6 : Nat → FieldType := fun k => match k with
  | _ => .int
abbrev wsJ60 : List Cond := u_ws RJ6 TJ6 0
theorem nmJ6 : ∀ a, a < 0 → ∀ b, b < 0 → a ≠ b → (TJ6 a).2.1 ≠ (TJ6 b).2.1 := by decide +kernel
theorem tyJ6_ok : ∀ k, k < 0 → parseFieldDescriptor (TJ6 k).2.2.1 = some (tyJ6 k) := by decide +kernel
abbrev cJ6_getChars_ba4f3 : ByteArray := prog_23_method_12_code
def yJ6_getChars_ba4f3 : MethodName := ⟨RJ6, "getChars", "(II[B)I"⟩
abbrev cJ6_stringSize_0f7a4 : ByteArray := prog_23_method_13_code
def yJ6_stringSize_0f7a4 : MethodName := ⟨RJ6, "stringSize", "(I)I"⟩
def RJxab1ab : String := "java/lang/Iterable"
def TJxab1ab : u_T := fun k => match k with
  | _ => ("", "", "", false)
def tyJxab1ab : Nat → FieldType := fun k => match k with
  | _ => .int
abbrev wsJxab1ab0 : List Cond := u_ws RJxab1ab TJxab1ab 0
theorem nmJxab1ab : ∀ a, a < 0 → ∀ b, b < 0 → a ≠ b → (TJxab1ab a).2.1 ≠ (TJxab1ab b).2.1 := by decide +kernel
theorem tyJxab1ab_ok : ∀ k, k < 0 → parseFieldDescriptor (TJxab1ab k).2.2.1 = some (tyJxab1ab k) := by decide +kernel
def RJ9 : String := "java/lang/Math"
def TJ9 : u_T := fun k => match k with
  | _ => ("", "", "", false)
def tyJ9 : Nat → FieldType := fun k => match k with
  | _ => .int
abbrev wsJ90 : List Cond := u_ws RJ9 TJ9 0
theorem nmJ9 : ∀ a, a < 0 → ∀ b, b < 0 → a ≠ b → (TJ9 a).2.1 ≠ (TJ9 b).2.1 := by decide +kernel
theorem tyJ9_ok : ∀ k, k < 0 → parseFieldDescriptor (TJ9 k).2.2.1 = some (tyJ9 k) := by decide +kernel
abbrev cJ9_abs_0f7a4 : ByteArray := prog_25_method_59_code
def yJ9_abs_0f7a4 : MethodName := ⟨RJ9, "abs", "(I)I"⟩
abbrev cJ9_abs_067f4 : ByteArray := prog_25_method_61_code
def yJ9_abs_067f4 : MethodName := ⟨RJ9, "abs", "(J)J"⟩
abbrev cJ9_max_7cf53 : ByteArray := prog_25_method_65_code
def yJ9_max_7cf53 : MethodName := ⟨RJ9, "max", "(II)I"⟩
abbrev cJ9_max_f86c9 : ByteArray := prog_25_method_66_code
def yJ9_max_f86c9 : MethodName := ⟨RJ9, "max", "(JJ)J"⟩
abbrev cJ9_min_7cf53 : ByteArray := prog_25_method_69_code
def yJ9_min_7cf53 : MethodName := ⟨RJ9, "min", "(II)I"⟩
abbrev cJ9_min_f86c9 : ByteArray := prog_25_method_70_code
def yJ9_min_f86c9 : MethodName := ⟨RJ9, "min", "(JJ)J"⟩
def RJxd2413 : String := "java/lang/Number"
def TJxd2413 : u_T := fun k => match k with
  | _ => ("", "", "", false)
def tyJxd2413 : Nat → FieldType := fun k => match k with
  | _ => .int
abbrev wsJxd24130 : List Cond := u_ws RJxd2413 TJxd2413 0
theorem nmJxd2413 : ∀ a, a < 0 → ∀ b, b < 0 → a ≠ b → (TJxd2413 a).2.1 ≠ (TJxd2413 b).2.1 := by decide +kernel
theorem tyJxd2413_ok : ∀ k, k < 0 → parseFieldDescriptor (TJxd2413 k).2.2.1 = some (tyJxd2413 k) := by decide +kernel
def RJ0 : String := "java/lang/String"
def TJ0 : u_T := fun k => match k with
  | 0 => ("java/lang/String", "value", "[B", true)
  | 1 => ("java/lang/String", "coder", "B", true)
  | 2 => ("java/lang/String", "hash", "I", false)
  | _ => ("java/lang/String", "hashIsZero", "Z", false)
def tyJ0 : Nat → FieldType := fun k => match k with
  | 0 => .array .byte
  | 1 => .byte
  | 2 => .int
  | _ => .boolean
abbrev wsJ00 : List Cond := u_ws RJ0 TJ0 4
theorem nmJ0 : ∀ a, a < 4 → ∀ b, b < 4 → a ≠ b → (TJ0 a).2.1 ≠ (TJ0 b).2.1 := by decide +kernel
theorem tyJ0_ok : ∀ k, k < 4 → parseFieldDescriptor (TJ0 k).2.2.1 = some (tyJ0 k) := by decide +kernel
abbrev cJ0_init_81219 : ByteArray := prog_28_method_53_code
def yJ0_init_81219 : MethodName := ⟨RJ0, "<init>", "(Ljava/lang/StringBuilder;)V"⟩
abbrev cJ0_length_8abf5 : ByteArray := prog_28_method_54_code
def yJ0_length_8abf5 : MethodName := ⟨RJ0, "length", "()I"⟩
abbrev cJ0_getBytes_840e7 : ByteArray := prog_28_method_147_code
def yJ0_getBytes_840e7 : MethodName := ⟨RJ0, "getBytes", "([BIB)V"⟩
abbrev cJ0_init_db425 : ByteArray := prog_28_method_150_code
def yJ0_init_db425 : MethodName := ⟨RJ0, "<init>", "(Ljava/lang/AbstractStringBuilder;Ljava/lang/Void;)V"⟩
abbrev cJ0_coder_7d493 : ByteArray := prog_28_method_152_code
def yJ0_coder_7d493 : MethodName := ⟨RJ0, "coder", "()B"⟩
abbrev cJ0_checkIndex_df160 : ByteArray := prog_28_method_155_code
def yJ0_checkIndex_df160 : MethodName := ⟨RJ0, "checkIndex", "(II)V"⟩
abbrev cJ0_checkBoundsOffCount_cabcc : ByteArray := prog_28_method_157_code
def yJ0_checkBoundsOffCount_cabcc : MethodName := ⟨RJ0, "checkBoundsOffCount", "(III)I"⟩
abbrev cJ0_checkBoundsBeginEnd_23922 : ByteArray := prog_28_method_158_code
def yJ0_checkBoundsBeginEnd_23922 : MethodName := ⟨RJ0, "checkBoundsBeginEnd", "(III)V"⟩
def RJ4 : String := "java/lang/StringBuilder"
def TJ4 : u_T := fun k => match k with
  | 0 => ("java/lang/AbstractStringBuilder", "value", "[B", false)
  | 1 => ("java/lang/AbstractStringBuilder", "coder", "B", false)
  | 2 => ("java/lang/AbstractStringBuilder", "maybeLatin1", "Z", false)
  | _ => ("java/lang/AbstractStringBuilder", "count", "I", false)
def tyJ4 : Nat → FieldType := fun k => match k with
  | 0 => .array .byte
  | 1 => .byte
  | 2 => .boolean
  | _ => .int
abbrev wsJ40 : List Cond := u_ws RJ4 TJ4 4
theorem nmJ4 : ∀ a, a < 4 → ∀ b, b < 4 → a ≠ b → (TJ4 a).2.1 ≠ (TJ4 b).2.1 := by decide +kernel
theorem tyJ4_ok : ∀ k, k < 4 → parseFieldDescriptor (TJ4 k).2.2.1 = some (tyJ4 k) := by decide +kernel
abbrev cJ4_init_da8c8 : ByteArray := prog_29_method_1_code
def yJ4_init_da8c8 : MethodName := ⟨RJ4, "<init>", "()V"⟩
abbrev cJ4_append_15ec4 : ByteArray := prog_29_method_7_code
def yJ4_append_15ec4 : MethodName := ⟨RJ4, "append", "(Ljava/lang/String;)Ljava/lang/StringBuilder;"⟩
abbrev cJ4_append_cf468 : ByteArray := prog_29_method_14_code
def yJ4_append_cf468 : MethodName := ⟨RJ4, "append", "(C)Ljava/lang/StringBuilder;"⟩
abbrev cJ4_append_bf812 : ByteArray := prog_29_method_15_code
def yJ4_append_bf812 : MethodName := ⟨RJ4, "append", "(I)Ljava/lang/StringBuilder;"⟩
abbrev cJ4_toString_0e30d : ByteArray := prog_29_method_42_code
def yJ4_toString_0e30d : MethodName := ⟨RJ4, "toString", "()Ljava/lang/String;"⟩
abbrev cJ4_length_8abf5 : ByteArray := prog_29_method_93_code
def yJ4_length_8abf5 : MethodName := ⟨RJ4, "length", "()I"⟩
def RJ1 : String := "java/lang/StringLatin1"
def TJ1 : u_T := fun k => match k with
  | _ => ("", "", "", false)
def tyJ1 : Nat → FieldType := fun k => match k with
  | _ => .int
abbrev wsJ10 : List Cond := u_ws RJ1 TJ1 0
theorem nmJ1 : ∀ a, a < 0 → ∀ b, b < 0 → a ≠ b → (TJ1 a).2.1 ≠ (TJ1 b).2.1 := by decide +kernel
theorem tyJ1_ok : ∀ k, k < 0 → parseFieldDescriptor (TJ1 k).2.2.1 = some (tyJ1 k) := by decide +kernel
abbrev cJ1_canEncode_fc78d : ByteArray := prog_30_method_3_code
def yJ1_canEncode_fc78d : MethodName := ⟨RJ1, "canEncode", "(C)Z"⟩
abbrev cJ1_inflate_0e8fd : ByteArray := prog_30_method_50_code
def yJ1_inflate_0e8fd : MethodName := ⟨RJ1, "inflate", "([BI[BII)V"⟩
def RJ2 : String := "java/lang/StringUTF16"
def TJ2 : u_T := fun k => match k with
  | _ => ("", "", "", false)
def tyJ2 : Nat → FieldType := fun k => match k with
  | _ => .int
abbrev wsJ20 : List Cond := u_ws RJ2 TJ2 0
theorem nmJ2 : ∀ a, a < 0 → ∀ b, b < 0 → a ≠ b → (TJ2 a).2.1 ≠ (TJ2 b).2.1 := by decide +kernel
theorem tyJ2_ok : ∀ k, k < 0 → parseFieldDescriptor (TJ2 k).2.2.1 = some (tyJ2 k) := by decide +kernel
abbrev cJ2_newBytesFor_77867 : ByteArray := prog_31_method_2_code
def yJ2_newBytesFor_77867 : MethodName := ⟨RJ2, "newBytesFor", "(I)[B"⟩
abbrev cJ2_newBytesLength_0f7a4 : ByteArray := prog_31_method_3_code
def yJ2_newBytesLength_0f7a4 : MethodName := ⟨RJ2, "newBytesLength", "(I)I"⟩
abbrev cJ2_putChar_b72d1 : ByteArray := prog_31_method_4_code
def yJ2_putChar_b72d1 : MethodName := ⟨RJ2, "putChar", "([BII)V"⟩
abbrev cJ2_getChar_3b067 : ByteArray := prog_31_method_5_code
def yJ2_getChar_3b067 : MethodName := ⟨RJ2, "getChar", "([BI)C"⟩
abbrev cJ2_length_9d52b : ByteArray := prog_31_method_6_code
def yJ2_length_9d52b : MethodName := ⟨RJ2, "length", "([B)I"⟩
abbrev cJ2_coderFromArrayLen_85cad : ByteArray := prog_31_method_15_code
def yJ2_coderFromArrayLen_85cad : MethodName := ⟨RJ2, "coderFromArrayLen", "([BI)B"⟩
abbrev cJ2_compress_39247 : ByteArray := prog_31_method_17_code
def yJ2_compress_39247 : MethodName := ⟨RJ2, "compress", "([BII)[B"⟩
abbrev cJ2_compress_5af95 : ByteArray := prog_31_method_22_code
def yJ2_compress_5af95 : MethodName := ⟨RJ2, "compress", "([BI[BII)I"⟩
abbrev cJ2_putCharSB_b72d1 : ByteArray := prog_31_method_71_code
def yJ2_putCharSB_b72d1 : MethodName := ⟨RJ2, "putCharSB", "([BII)V"⟩
abbrev cJ2_getChars_46870 : ByteArray := prog_31_method_77_code
def yJ2_getChars_46870 : MethodName := ⟨RJ2, "getChars", "(III[B)I"⟩
abbrev cJ2_putCharsAt_cd4e5 : ByteArray := prog_31_method_81_code
def yJ2_putCharsAt_cd4e5 : MethodName := ⟨RJ2, "putCharsAt", "([BICCCC)I"⟩
abbrev cJ2_inflate_0e8fd : ByteArray := prog_31_method_86_code
def yJ2_inflate_0e8fd : MethodName := ⟨RJ2, "inflate", "([BI[BII)V"⟩
abbrev cJ2_getChars_ba4f3 : ByteArray := prog_31_method_89_code
def yJ2_getChars_ba4f3 : MethodName := ⟨RJ2, "getChars", "(II[B)I"⟩
abbrev cJ2_checkIndex_2214a : ByteArray := prog_31_method_91_code
def yJ2_checkIndex_2214a : MethodName := ⟨RJ2, "checkIndex", "(I[B)V"⟩
abbrev cJ2_checkBoundsBeginEnd_d044e : ByteArray := prog_31_method_93_code
def yJ2_checkBoundsBeginEnd_d044e : MethodName := ⟨RJ2, "checkBoundsBeginEnd", "(II[B)V"⟩
abbrev cJ2_checkBoundsOffCount_d044e : ByteArray := prog_31_method_94_code
def yJ2_checkBoundsOffCount_d044e : MethodName := ⟨RJ2, "checkBoundsOffCount", "(II[B)V"⟩
def RJ10 : String := "java/lang/System"
def TJ10 : u_T := fun k => match k with
  | _ => ("", "", "", false)
def tyJ10 : Nat → FieldType := fun k => match k with
  | _ => .int
abbrev wsJ100 : List Cond := u_ws RJ10 TJ10 0
theorem nmJ10 : ∀ a, a < 0 → ∀ b, b < 0 → a ≠ b → (TJ10 a).2.1 ≠ (TJ10 b).2.1 := by decide +kernel
theorem tyJ10_ok : ∀ k, k < 0 → parseFieldDescriptor (TJ10 k).2.2.1 = some (tyJ10 k) := by decide +kernel
def RJxfd54e : String := "java/lang/constant/Constable"
def TJxfd54e : u_T := fun k => match k with
  | _ => ("", "", "", false)
def tyJxfd54e : Nat → FieldType := fun k => match k with
  | _ => .int
abbrev wsJxfd54e0 : List Cond := u_ws RJxfd54e TJxfd54e 0
theorem nmJxfd54e : ∀ a, a < 0 → ∀ b, b < 0 → a ≠ b → (TJxfd54e a).2.1 ≠ (TJxfd54e b).2.1 := by decide +kernel
theorem tyJxfd54e_ok : ∀ k, k < 0 → parseFieldDescriptor (TJxfd54e k).2.2.1 = some (tyJxfd54e k) := by decide +kernel
def RJx3cf43 : String := "java/lang/constant/ConstantDesc"
def TJx3cf43 : u_T := fun k => match k with
  | _ => ("", "", "", false)
def tyJx3cf43 : Nat → FieldType := fun k => match k with
  | _ => .int
abbrev wsJx3cf430 : List Cond := u_ws RJx3cf43 TJx3cf43 0
theorem nmJx3cf43 : ∀ a, a < 0 → ∀ b, b < 0 → a ≠ b → (TJx3cf43 a).2.1 ≠ (TJx3cf43 b).2.1 := by decide +kernel
theorem tyJx3cf43_ok : ∀ k, k < 0 → parseFieldDescriptor (TJx3cf43 k).2.2.1 = some (tyJx3cf43 k) := by decide +kernel
def RJxa1e45 : String := "java/util/AbstractCollection"
def TJxa1e45 : u_T := fun k => match k with
  | _ => ("", "", "", false)
def tyJxa1e45 : Nat → FieldType := fun k => match k with
  | _ => .int
abbrev wsJxa1e450 : List Cond := u_ws RJxa1e45 TJxa1e45 0
theorem nmJxa1e45 : ∀ a, a < 0 → ∀ b, b < 0 → a ≠ b → (TJxa1e45 a).2.1 ≠ (TJxa1e45 b).2.1 := by decide +kernel
theorem tyJxa1e45_ok : ∀ k, k < 0 → parseFieldDescriptor (TJxa1e45 k).2.2.1 = some (tyJxa1e45 k) := by decide +kernel
abbrev cJxa1e45_init_da8c8 : ByteArray := prog_36_method_1_code
def yJxa1e45_init_da8c8 : MethodName := ⟨RJxa1e45, "<init>", "()V"⟩
def RJxc12de : String := "java/util/AbstractList"
def TJxc12de : u_T := fun k => match k with
  | _ => ("", "", "", false)
def tyJxc12de : Nat → FieldType := fun k => match k with
  | _ => .int
abbrev wsJxc12de0 : List Cond := u_ws RJxc12de TJxc12de 0
theorem nmJxc12de : ∀ a, a < 0 → ∀ b, b < 0 → a ≠ b → (TJxc12de a).2.1 ≠ (TJxc12de b).2.1 := by decide +kernel
theorem tyJxc12de_ok : ∀ k, k < 0 → parseFieldDescriptor (TJxc12de k).2.2.1 = some (tyJxc12de k) := by decide +kernel
abbrev cJxc12de_init_da8c8 : ByteArray := prog_37_method_1_code
def yJxc12de_init_da8c8 : MethodName := ⟨RJxc12de, "<init>", "()V"⟩
def RJx4a65c : String := "java/util/ArrayList"
def TJx4a65c : u_T := fun k => match k with
  | 0 => ("java/util/AbstractList", "modCount", "I", false)
  | 1 => ("java/util/ArrayList", "elementData", "[Ljava/lang/Object;", false)
  | _ => ("java/util/ArrayList", "size", "I", false)
def tyJx4a65c : Nat → FieldType := fun k => match k with
  | 0 => .int
  | 1 => .array (.object "java/lang/Object")
  | _ => .int
abbrev wsJx4a65c0 : List Cond := u_ws RJx4a65c TJx4a65c 3
theorem nmJx4a65c : ∀ a, a < 3 → ∀ b, b < 3 → a ≠ b → (TJx4a65c a).2.1 ≠ (TJx4a65c b).2.1 := by decide +kernel
theorem tyJx4a65c_ok : ∀ k, k < 3 → parseFieldDescriptor (TJx4a65c k).2.2.1 = some (tyJx4a65c k) := by decide +kernel
abbrev cJx4a65c_init_da8c8 : ByteArray := prog_38_method_2_code
def yJx4a65c_init_da8c8 : MethodName := ⟨RJx4a65c, "<init>", "()V"⟩
abbrev cJx4a65c_grow_92f84 : ByteArray := prog_38_method_6_code
def yJx4a65c_grow_92f84 : MethodName := ⟨RJx4a65c, "grow", "(I)[Ljava/lang/Object;"⟩
abbrev cJx4a65c_grow_d5877 : ByteArray := prog_38_method_7_code
def yJx4a65c_grow_d5877 : MethodName := ⟨RJx4a65c, "grow", "()[Ljava/lang/Object;"⟩
abbrev cJx4a65c_size_8abf5 : ByteArray := prog_38_method_8_code
def yJx4a65c_size_8abf5 : MethodName := ⟨RJx4a65c, "size", "()I"⟩
abbrev cJx4a65c_elementData_915e3 : ByteArray := prog_38_method_18_code
def yJx4a65c_elementData_915e3 : MethodName := ⟨RJx4a65c, "elementData", "(I)Ljava/lang/Object;"⟩
abbrev cJx4a65c_get_915e3 : ByteArray := prog_38_method_20_code
def yJx4a65c_get_915e3 : MethodName := ⟨RJx4a65c, "get", "(I)Ljava/lang/Object;"⟩
abbrev cJx4a65c_add_72be8 : ByteArray := prog_38_method_24_code
def yJx4a65c_add_72be8 : MethodName := ⟨RJx4a65c, "add", "(Ljava/lang/Object;[Ljava/lang/Object;I)V"⟩
abbrev cJx4a65c_add_9ea2d : ByteArray := prog_38_method_25_code
def yJx4a65c_add_9ea2d : MethodName := ⟨RJx4a65c, "add", "(Ljava/lang/Object;)Z"⟩
abbrev cJx4a65c_remove_915e3 : ByteArray := prog_38_method_29_code
def yJx4a65c_remove_915e3 : MethodName := ⟨RJx4a65c, "remove", "(I)Ljava/lang/Object;"⟩
abbrev cJx4a65c_fastRemove_b59b0 : ByteArray := prog_38_method_39_code
def yJx4a65c_fastRemove_b59b0 : MethodName := ⟨RJx4a65c, "fastRemove", "([Ljava/lang/Object;I)V"⟩
def RJ7 : String := "java/util/Arrays"
def TJ7 : u_T := fun k => match k with
  | _ => ("", "", "", false)
def tyJ7 : Nat → FieldType := fun k => match k with
  | _ => .int
abbrev wsJ70 : List Cond := u_ws RJ7 TJ7 0
theorem nmJ7 : ∀ a, a < 0 → ∀ b, b < 0 → a ≠ b → (TJ7 a).2.1 ≠ (TJ7 b).2.1 := by decide +kernel
theorem tyJ7_ok : ∀ k, k < 0 → parseFieldDescriptor (TJ7 k).2.2.1 = some (tyJ7 k) := by decide +kernel
abbrev cJ7_copyOf_1904c : ByteArray := prog_39_method_119_code
def yJ7_copyOf_1904c : MethodName := ⟨RJ7, "copyOf", "([Ljava/lang/Object;I)[Ljava/lang/Object;"⟩
abbrev cJ7_copyOf_6403c : ByteArray := prog_39_method_120_code
def yJ7_copyOf_6403c : MethodName := ⟨RJ7, "copyOf", "([Ljava/lang/Object;ILjava/lang/Class;)[Ljava/lang/Object;"⟩
abbrev cJ7_copyOf_9075b : ByteArray := prog_39_method_121_code
def yJ7_copyOf_9075b : MethodName := ⟨RJ7, "copyOf", "([BI)[B"⟩
abbrev cJ7_checkLength_df160 : ByteArray := prog_39_method_131_code
def yJ7_checkLength_df160 : MethodName := ⟨RJ7, "checkLength", "(II)V"⟩
abbrev cJ7_copyOfRange_39247 : ByteArray := prog_39_method_132_code
def yJ7_copyOfRange_39247 : MethodName := ⟨RJ7, "copyOfRange", "([BII)[B"⟩
abbrev cJ7_copyOfRangeByte_39247 : ByteArray := prog_39_method_133_code
def yJ7_copyOfRangeByte_39247 : MethodName := ⟨RJ7, "copyOfRangeByte", "([BII)[B"⟩
def RJx5ef63 : String := "java/util/Collection"
def TJx5ef63 : u_T := fun k => match k with
  | _ => ("", "", "", false)
def tyJx5ef63 : Nat → FieldType := fun k => match k with
  | _ => .int
abbrev wsJx5ef630 : List Cond := u_ws RJx5ef63 TJx5ef63 0
theorem nmJx5ef63 : ∀ a, a < 0 → ∀ b, b < 0 → a ≠ b → (TJx5ef63 a).2.1 ≠ (TJx5ef63 b).2.1 := by decide +kernel
theorem tyJx5ef63_ok : ∀ k, k < 0 → parseFieldDescriptor (TJx5ef63 k).2.2.1 = some (tyJx5ef63 k) := by decide +kernel
def RJxbd725 : String := "java/util/List"
def TJxbd725 : u_T := fun k => match k with
  | _ => ("", "", "", false)
def tyJxbd725 : Nat → FieldType := fun k => match k with
  | _ => .int
abbrev wsJxbd7250 : List Cond := u_ws RJxbd725 TJxbd725 0
theorem nmJxbd725 : ∀ a, a < 0 → ∀ b, b < 0 → a ≠ b → (TJxbd725 a).2.1 ≠ (TJxbd725 b).2.1 := by decide +kernel
theorem tyJxbd725_ok : ∀ k, k < 0 → parseFieldDescriptor (TJxbd725 k).2.2.1 = some (tyJxbd725 k) := by decide +kernel
def RJ15 : String := "java/util/Objects"
def TJ15 : u_T := fun k => match k with
  | _ => ("", "", "", false)
def tyJ15 : Nat → FieldType := fun k => match k with
  | _ => .int
abbrev wsJ150 : List Cond := u_ws RJ15 TJ15 0
theorem nmJ15 : ∀ a, a < 0 → ∀ b, b < 0 → a ≠ b → (TJ15 a).2.1 ≠ (TJ15 b).2.1 := by decide +kernel
theorem tyJ15_ok : ∀ k, k < 0 → parseFieldDescriptor (TJ15 k).2.2.1 = some (tyJ15 k) := by decide +kernel
abbrev cJ15_checkIndex_7cf53 : ByteArray := prog_42_method_17_code
def yJ15_checkIndex_7cf53 : MethodName := ⟨RJ15, "checkIndex", "(II)I"⟩
def RJxf0a74 : String := "java/util/RandomAccess"
def TJxf0a74 : u_T := fun k => match k with
  | _ => ("", "", "", false)
def tyJxf0a74 : Nat → FieldType := fun k => match k with
  | _ => .int
abbrev wsJxf0a740 : List Cond := u_ws RJxf0a74 TJxf0a74 0
theorem nmJxf0a74 : ∀ a, a < 0 → ∀ b, b < 0 → a ≠ b → (TJxf0a74 a).2.1 ≠ (TJxf0a74 b).2.1 := by decide +kernel
theorem tyJxf0a74_ok : ∀ k, k < 0 → parseFieldDescriptor (TJxf0a74 k).2.2.1 = some (tyJxf0a74 k) := by decide +kernel
def RJxa66e6 : String := "java/util/SequencedCollection"
def TJxa66e6 : u_T := fun k => match k with
  | _ => ("", "", "", false)
def tyJxa66e6 : Nat → FieldType := fun k => match k with
  | _ => .int
abbrev wsJxa66e60 : List Cond := u_ws RJxa66e6 TJxa66e6 0
theorem nmJxa66e6 : ∀ a, a < 0 → ∀ b, b < 0 → a ≠ b → (TJxa66e6 a).2.1 ≠ (TJxa66e6 b).2.1 := by decide +kernel
theorem tyJxa66e6_ok : ∀ k, k < 0 → parseFieldDescriptor (TJxa66e6 k).2.2.1 = some (tyJxa66e6 k) := by decide +kernel
def RJ8 : String := "jdk/internal/util/ArraysSupport"
def TJ8 : u_T := fun k => match k with
  | _ => ("", "", "", false)
def tyJ8 : Nat → FieldType := fun k => match k with
  | _ => .int
abbrev wsJ80 : List Cond := u_ws RJ8 TJ8 0
theorem nmJ8 : ∀ a, a < 0 → ∀ b, b < 0 → a ≠ b → (TJ8 a).2.1 ≠ (TJ8 b).2.1 := by decide +kernel
theorem tyJ8_ok : ∀ k, k < 0 → parseFieldDescriptor (TJ8 k).2.2.1 = some (tyJ8 k) := by decide +kernel
abbrev cJ8_newLength_cabcc : ByteArray := prog_45_method_27_code
def yJ8_newLength_cabcc : MethodName := ⟨RJ8, "newLength", "(III)I"⟩
abbrev cJ8_hugeLength_7cf53 : ByteArray := prog_45_method_28_code
def yJ8_hugeLength_7cf53 : MethodName := ⟨RJ8, "hugeLength", "(II)I"⟩
def RJ3 : String := "jdk/internal/util/Preconditions"
def TJ3 : u_T := fun k => match k with
  | _ => ("", "", "", false)
def tyJ3 : Nat → FieldType := fun k => match k with
  | _ => .int
abbrev wsJ30 : List Cond := u_ws RJ3 TJ3 0
theorem nmJ3 : ∀ a, a < 0 → ∀ b, b < 0 → a ≠ b → (TJ3 a).2.1 ≠ (TJ3 b).2.1 := by decide +kernel
theorem tyJ3_ok : ∀ k, k < 0 → parseFieldDescriptor (TJ3 k).2.2.1 = some (tyJ3 k) := by decide +kernel
abbrev cJ3_checkIndex_8e157 : ByteArray := prog_46_method_11_code
def yJ3_checkIndex_8e157 : MethodName := ⟨RJ3, "checkIndex", "(IILjava/util/function/BiFunction;)I"⟩
abbrev cJ3_checkFromToIndex_8c36e : ByteArray := prog_46_method_12_code
def yJ3_checkFromToIndex_8c36e : MethodName := ⟨RJ3, "checkFromToIndex", "(IIILjava/util/function/BiFunction;)I"⟩
abbrev cJ3_checkFromIndexSize_8c36e : ByteArray := prog_46_method_13_code
def yJ3_checkFromIndexSize_8c36e : MethodName := ⟨RJ3, "checkFromIndexSize", "(IIILjava/util/function/BiFunction;)I"⟩
def RL : String := "UrnwrightLaw"
abbrev cL_urn : ByteArray := method_2_code
def yL_urn : MethodName := ⟨RL, "urn", "(LUrnwright;IIIILUrnwrightLaw$Out;)I"⟩
abbrev cL_rule : ByteArray := method_3_code
def yL_rule : MethodName := ⟨RL, "rule", "(LUrnwright;IIIIILUrnwrightLaw$Out;)I"⟩
abbrev cL_pay : ByteArray := method_4_code
def yL_pay : MethodName := ⟨RL, "pay", "(LUrnwright;IIILUrnwrightLaw$Out;)I"⟩
abbrev cL_stop : ByteArray := method_5_code
def yL_stop : MethodName := ⟨RL, "stop", "(LUrnwright;IIILUrnwrightLaw$Out;)I"⟩
abbrev cL_draw : ByteArray := method_6_code
def yL_draw : MethodName := ⟨RL, "draw", "(LUrnwright;IILUrnwrightLaw$Out;)I"⟩
abbrev cL_back : ByteArray := method_7_code
def yL_back : MethodName := ⟨RL, "back", "(LUrnwright;ILUrnwrightLaw$Out;)I"⟩
abbrev cL_row : ByteArray := method_8_code
def yL_row : MethodName := ⟨RL, "row", "(LUrnwright;IIIIILUrnwrightLaw$Out;)I"⟩
abbrev cL_chance : ByteArray := method_9_code
def yL_chance : MethodName := ⟨RL, "chance", "(LUrnwright;IIZLUrnwrightLaw$Out;)I"⟩
abbrev cL_gains : ByteArray := method_10_code
def yL_gains : MethodName := ⟨RL, "gains", "(LUrnwright;IIIZLUrnwrightLaw$Out;)I"⟩
abbrev cL_mean : ByteArray := method_11_code
def yL_mean : MethodName := ⟨RL, "mean", "(LUrnwright;IIZZLUrnwrightLaw$Out;)I"⟩
abbrev cL_unfair : ByteArray := method_12_code
def yL_unfair : MethodName := ⟨RL, "unfair", "(LUrnwright;IILUrnwrightLaw$Out;)I"⟩
abbrev cL_ordered : ByteArray := method_13_code
def yL_ordered : MethodName := ⟨RL, "ordered", "(LUrnwright;IILUrnwrightLaw$Out;)I"⟩
abbrev cL_given : ByteArray := method_14_code
def yL_given : MethodName := ⟨RL, "given", "(LUrnwright;IIIIZLUrnwrightLaw$Out;)I"⟩
abbrev cL_stopped : ByteArray := method_15_code
def yL_stopped : MethodName := ⟨RL, "stopped", "(LUrnwright;IIZZLUrnwrightLaw$Out;)I"⟩
abbrev cL_worth : ByteArray := method_16_code
def yL_worth : MethodName := ⟨RL, "worth", "(LUrnwright;IIIZLUrnwrightLaw$Out;)I"⟩
abbrev cL_slack : ByteArray := method_17_code
def yL_slack : MethodName := ⟨RL, "slack", "(LUrnwright;IIIZLUrnwrightLaw$Out;)I"⟩
abbrev cL_walk : ByteArray := method_18_code
def yL_walk : MethodName := ⟨RL, "walk", "(LUrnwright;IIIIZZLUrnwrightLaw$Out;)I"⟩
abbrev cL_distance : ByteArray := method_19_code
def yL_distance : MethodName := ⟨RL, "distance", "(LUrnwright;IIZLUrnwrightLaw$Out;)I"⟩
abbrev cL_table : ByteArray := method_20_code
def yL_table : MethodName := ⟨RL, "table", "(LUrnwright;IIIIZLUrnwrightLaw$Out;)I"⟩
abbrev cL_isAbove : ByteArray := method_21_code
def yL_isAbove : MethodName := ⟨RL, "isAbove", "(LUrnwright;IILUrnwrightLaw$Out;)I"⟩
abbrev cL_far : ByteArray := method_22_code
def yL_far : MethodName := ⟨RL, "far", "(LUrnwright;IIZLUrnwrightLaw$Out;)I"⟩
abbrev cL_ofUrn : ByteArray := method_23_code
def yL_ofUrn : MethodName := ⟨RL, "ofUrn", "(LUrnwright;IILUrnwrightLaw$Out;)I"⟩
abbrev cL_text : ByteArray := method_24_code
def yL_text : MethodName := ⟨RL, "text", "(LUrnwright;ILUrnwrightLaw$Out;)I"⟩
abbrev cL_tilt : ByteArray := method_25_code
def yL_tilt : MethodName := ⟨RL, "tilt", "(LUrnwright;ILUrnwrightLaw$Out;)I"⟩
abbrev cL_percent : ByteArray := method_26_code
def yL_percent : MethodName := ⟨RL, "percent", "(LUrnwright;IILUrnwrightLaw$Out;)I"⟩
abbrev cL_many : ByteArray := method_27_code
def yL_many : MethodName := ⟨RL, "many", "(LUrnwright;ILUrnwrightLaw$Out;)I"⟩
abbrev cL_wouldGain : ByteArray := method_28_code
def yL_wouldGain : MethodName := ⟨RL, "wouldGain", "(LUrnwright;IILUrnwrightLaw$Out;)I"⟩
abbrev cL_stops : ByteArray := method_29_code
def yL_stops : MethodName := ⟨RL, "stops", "(LUrnwright;IIILUrnwrightLaw$Out;)I"⟩
abbrev cL_law : ByteArray := code
def yL_law : MethodName := ⟨RL, "law", "([I)Z"⟩
def wsX0_init : List Cond := .code yX0_init cX0_init 1 none :: ([.methodLink RX0 3 objectInit, .instanceMethod objectInit, .code objectInit ⟨#[0xb1]⟩ 1 none, .arrayClass .long, .fieldLink RX0 9 "Urnwright$Deck" "runs" "[J"] ++ wsX00)
def wsX5_put_ : List Cond := .code yX5_put_ cX5_put_ 4 none :: ([])
def wsX5_at_ : List Cond := .code yX5_at_ cX5_at_ 2 (some .long) :: ([])
def wsX0_shuffle : List Cond := .code yX0_shuffle cX0_shuffle 5 none :: ([.fieldLink RX0 9 "Urnwright$Deck" "runs" "[J", .static yX5_put_, .initialized RX5, .code yX5_put_ cX5_put_ 4 none, .static yX5_at_, .code yX5_at_ cX5_at_ 2 (some .long)] ++ wsX00)
def wsX0_ordersWithEnd : List Cond := .code yX0_ordersWithEnd cX0_ordersWithEnd 5 (some .long) :: ([])
def wsX0_sumOfDifferences : List Cond := .code yX0_sumOfDifferences cX0_sumOfDifferences 13 (some .long) :: ([.fieldLink RX0 9 "Urnwright$Deck" "runs" "[J", .methodLink RX0 27 Lib.MathLoose.abs_long.x, .static Lib.MathLoose.abs_long.x, .initialized "java/lang/Math", .code Lib.MathLoose.abs_long.x Lib.MathLoose.abs_long.code 2 (some .long), .static yX5_at_, .initialized RX5, .code yX5_at_ cX5_at_ 2 (some .long), .methodLink RX0 23 yX0_ordersWithEnd, .static yX0_ordersWithEnd, .initialized RX0, .code yX0_ordersWithEnd cX0_ordersWithEnd 5 (some .long)] ++ wsX00)
def wsX1_init : List Cond := .code yX1_init cX1_init 1 none :: ([.methodLink RX1 3 objectInit, .instanceMethod objectInit, .code objectInit ⟨#[0xb1]⟩ 1 none, .arrayClass .long, .fieldLink RX1 9 "Urnwright$Game" "ways" "[J", .arrayClass .int, .fieldLink RX1 15 "Urnwright$Game" "yields" "[I", .fieldLink RX1 19 "Urnwright$Game" "paths" "[I", .fieldLink RX1 22 "Urnwright$Game" "counts" "[I", .fieldLink RX1 25 "Urnwright$Game" "worths" "[J", .arrayClass .boolean, .fieldLink RX1 28 "Urnwright$Game" "isOver" "[Z"] ++ wsX10)
def wsX5_at : List Cond := .code yX5_at cX5_at 2 (some .int) :: ([])
def wsX4_countAll : List Cond := .code yX4_countAll cX4_countAll 1 (some .int) :: ([.fieldLink RX4 9 "Urnwright$Urn" "counts" "[I", .static yX5_at, .initialized RX5, .code yX5_at cX5_at 2 (some .int)] ++ wsX40)
def wsX5_put : List Cond := .code yX5_put cX5_put 3 none :: ([])
def wsX5_firstWith : List Cond := .code yX5_firstWith cX5_firstWith 3 (some .int) :: ([])
def wsX5_behind : List Cond := .code yX5_behind cX5_behind 2 (some .int) :: ([])
def wsX1_countAt : List Cond := .code yX1_countAt cX1_countAt 3 (some .int) :: ([.fieldLink RX1 22 "Urnwright$Game" "counts" "[I", .static yX5_at, .initialized RX5, .code yX5_at cX5_at 2 (some .int)] ++ wsX10)
def wsX4_addOf : List Cond := .code yX4_addOf cX4_addOf 3 (some .int) :: ([.fieldLink RX4 18 "Urnwright$Urn" "adds" "[I", .static yX5_at, .initialized RX5, .code yX5_at cX5_at 2 (some .int)] ++ wsX40)
def wsX1_grow_r1 : List Cond := [Cond.fieldLink RX1 9 "Urnwright$Game" "ways" "[J", Cond.fieldLink RX1 15 "Urnwright$Game" "yields" "[I", Cond.fieldLink RX1 19 "Urnwright$Game" "paths" "[I", Cond.fieldLink RX1 22 "Urnwright$Game" "counts" "[I", Cond.static yX5_behind, Cond.initialized RX5, Cond.code yX5_behind cX5_behind 2 (some .int), Cond.static yX5_at_, Cond.code yX5_at_ cX5_at_ 2 (some .long), Cond.methodLink RX1 81 yX1_countAt, Cond.instanceMethod yX1_countAt, Cond.selects RX1 yX1_countAt yX1_countAt, Cond.initialized RX1, Cond.code yX1_countAt cX1_countAt 3 (some .int), Cond.static yX5_at, Cond.code yX5_at cX5_at 2 (some .int), Cond.static yX5_put_, Cond.code yX5_put_ cX5_put_ 4 none, Cond.static yX5_put, Cond.code yX5_put cX5_put 3 none, Cond.instanceMethod yX4_addOf, Cond.initialized RX4, Cond.selects RX4 yX4_addOf yX4_addOf, Cond.code yX4_addOf cX4_addOf 3 (some .int)]
def wsX1_grow_r2 : List Cond := [Cond.fieldLink RX4 18 "Urnwright$Urn" "adds" "[I"]
def wsX1_grow : List Cond := .code yX1_grow cX1_grow 6 none :: ((wsX1_grow_r1 ++ wsX1_grow_r2) ++ wsX10 ++ wsX40)
def wsX1_open_r1 : List Cond := [Cond.methodLink RX1 32 Lib.Math.min.name, Cond.static Lib.Math.min.name, Cond.initialized "java/lang/Math", Cond.code Lib.Math.min.name Lib.Math.min.code 2 (some .int), Cond.fieldLink RX1 38 "Urnwright$Game" "steps" "I", Cond.fieldLink RX1 48 "Urnwright$Game" "total" "I", Cond.fieldLink RX1 54 "Urnwright$Game" "growth" "I", Cond.fieldLink RX1 9 "Urnwright$Game" "ways" "[J", Cond.fieldLink RX1 22 "Urnwright$Game" "counts" "[I", Cond.instanceMethod yX4_countAll, Cond.initialized RX4, Cond.selects RX4 yX4_countAll yX4_countAll, Cond.code yX4_countAll cX4_countAll 1 (some .int), Cond.fieldLink RX4 9 "Urnwright$Urn" "counts" "[I", Cond.static yX5_at, Cond.initialized RX5, Cond.code yX5_at cX5_at 2 (some .int), Cond.static yX5_put_, Cond.code yX5_put_ cX5_put_ 4 none, Cond.static yX5_put, Cond.code yX5_put cX5_put 3 none, Cond.static yX5_firstWith, Cond.code yX5_firstWith cX5_firstWith 3 (some .int), Cond.methodLink RX1 71 yX1_grow]
def wsX1_open_r2 : List Cond := [Cond.instanceMethod yX1_grow, Cond.selects RX1 yX1_grow yX1_grow, Cond.initialized RX1, Cond.code yX1_grow cX1_grow 6 none, Cond.fieldLink RX1 15 "Urnwright$Game" "yields" "[I", Cond.fieldLink RX1 19 "Urnwright$Game" "paths" "[I", Cond.static yX5_behind, Cond.code yX5_behind cX5_behind 2 (some .int), Cond.static yX5_at_, Cond.code yX5_at_ cX5_at_ 2 (some .long), Cond.methodLink RX1 81 yX1_countAt, Cond.instanceMethod yX1_countAt, Cond.selects RX1 yX1_countAt yX1_countAt, Cond.code yX1_countAt cX1_countAt 3 (some .int), Cond.instanceMethod yX4_addOf, Cond.selects RX4 yX4_addOf yX4_addOf, Cond.code yX4_addOf cX4_addOf 3 (some .int), Cond.fieldLink RX4 18 "Urnwright$Urn" "adds" "[I"]
def wsX1_open : List Cond := .code yX1_open cX1_open 6 none :: ((wsX1_open_r1 ++ wsX1_open_r2) ++ wsX10 ++ wsX40)
def wsX1_waysFrom : List Cond := .code yX1_waysFrom cX1_waysFrom 5 (some .long) :: ([.fieldLink RX1 38 "Urnwright$Game" "steps" "I", .fieldLink RX1 48 "Urnwright$Game" "total" "I", .fieldLink RX1 54 "Urnwright$Game" "growth" "I"] ++ wsX10)
def wsX5_isWithin : List Cond := .code yX5_isWithin cX5_isWithin 3 (some .boolean) :: ([])
def wsX1_waysBetween : List Cond := .code yX1_waysBetween cX1_waysBetween 7 (some .long) :: ([.fieldLink RX1 38 "Urnwright$Game" "steps" "I", .fieldLink RX1 15 "Urnwright$Game" "yields" "[I", .fieldLink RX1 9 "Urnwright$Game" "ways" "[J", .static yX5_firstWith, .initialized RX5, .code yX5_firstWith cX5_firstWith 3 (some .int), .static yX5_at, .code yX5_at cX5_at 2 (some .int), .static yX5_isWithin, .code yX5_isWithin cX5_isWithin 3 (some .boolean), .static yX5_at_, .code yX5_at_ cX5_at_ 2 (some .long)] ++ wsX10)
def wsX5_timesIn : List Cond := .code yX5_timesIn cX5_timesIn 5 (some .int) :: ([])
def wsX5_power : List Cond := .code yX5_power cX5_power 5 (some .long) :: ([])
def wsX1_sumOfPowersWith : List Cond := .code yX1_sumOfPowersWith cX1_sumOfPowersWith 8 (some .long) :: ([.fieldLink RX1 38 "Urnwright$Game" "steps" "I", .fieldLink RX1 19 "Urnwright$Game" "paths" "[I", .fieldLink RX1 9 "Urnwright$Game" "ways" "[J", .fieldLink RX1 15 "Urnwright$Game" "yields" "[I", .static yX5_firstWith, .initialized RX5, .code yX5_firstWith cX5_firstWith 3 (some .int), .static yX5_at, .code yX5_at cX5_at 2 (some .int), .static yX5_timesIn, .code yX5_timesIn cX5_timesIn 5 (some .int), .static yX5_at_, .code yX5_at_ cX5_at_ 2 (some .long), .static yX5_power, .code yX5_power cX5_power 5 (some .long)] ++ wsX10)
def wsX1_sumOfPowers : List Cond := .code yX1_sumOfPowers cX1_sumOfPowers 2 (some .long) :: ([.methodLink RX1 94 yX1_sumOfPowersWith, .instanceMethod yX1_sumOfPowersWith, .selects RX1 yX1_sumOfPowersWith yX1_sumOfPowersWith, .initialized RX1, .code yX1_sumOfPowersWith cX1_sumOfPowersWith 8 (some .long), .fieldLink RX1 38 "Urnwright$Game" "steps" "I", .fieldLink RX1 19 "Urnwright$Game" "paths" "[I", .fieldLink RX1 9 "Urnwright$Game" "ways" "[J", .fieldLink RX1 15 "Urnwright$Game" "yields" "[I", .static yX5_firstWith, .initialized RX5, .code yX5_firstWith cX5_firstWith 3 (some .int), .static yX5_at, .code yX5_at cX5_at 2 (some .int), .static yX5_timesIn, .code yX5_timesIn cX5_timesIn 5 (some .int), .static yX5_at_, .code yX5_at_ cX5_at_ 2 (some .long), .static yX5_power, .code yX5_power cX5_power 5 (some .long)] ++ wsX10)
def wsX1_pathOfUnfair : List Cond := .code yX1_pathOfUnfair cX1_pathOfUnfair 6 (some .int) :: ([.fieldLink RX1 38 "Urnwright$Game" "steps" "I", .fieldLink RX1 9 "Urnwright$Game" "ways" "[J", .fieldLink RX1 19 "Urnwright$Game" "paths" "[I", .static yX5_firstWith, .initialized RX5, .code yX5_firstWith cX5_firstWith 3 (some .int), .methodLink RX1 81 yX1_countAt, .instanceMethod yX1_countAt, .selects RX1 yX1_countAt yX1_countAt, .initialized RX1, .code yX1_countAt cX1_countAt 3 (some .int), .fieldLink RX1 22 "Urnwright$Game" "counts" "[I", .static yX5_at, .code yX5_at cX5_at 2 (some .int), .static yX5_at_, .code yX5_at_ cX5_at_ 2 (some .long)] ++ wsX10 ++ wsX40)
def wsX1_hasOrder : List Cond := .code yX1_hasOrder cX1_hasOrder 9 (some .boolean) :: ([.fieldLink RX1 38 "Urnwright$Game" "steps" "I", .fieldLink RX1 9 "Urnwright$Game" "ways" "[J", .static yX5_at_, .initialized RX5, .code yX5_at_ cX5_at_ 2 (some .long)] ++ wsX10)
def wsX1_pathWithOrder : List Cond := .code yX1_pathWithOrder cX1_pathWithOrder 4 (some .int) :: ([.fieldLink RX1 38 "Urnwright$Game" "steps" "I", .fieldLink RX1 9 "Urnwright$Game" "ways" "[J", .fieldLink RX1 19 "Urnwright$Game" "paths" "[I", .static yX5_firstWith, .initialized RX5, .code yX5_firstWith cX5_firstWith 3 (some .int), .static yX5_at_, .code yX5_at_ cX5_at_ 2 (some .long), .methodLink RX1 105 yX1_hasOrder, .instanceMethod yX1_hasOrder, .selects RX1 yX1_hasOrder yX1_hasOrder, .initialized RX1, .code yX1_hasOrder cX1_hasOrder 9 (some .boolean), .static yX5_at, .code yX5_at cX5_at 2 (some .int)] ++ wsX10)
def wsX5_at__ : List Cond := .code yX5_at__ cX5_at__ 2 (some .boolean) :: ([])
def wsX4_isOften : List Cond := .code yX4_isOften cX4_isOften 3 (some .boolean) :: ([.fieldLink RX4 61 "Urnwright$Urn" "stopNumber" "I", .static yX5_timesIn, .initialized RX5, .code yX5_timesIn cX5_timesIn 5 (some .int)] ++ wsX40)
def wsX4_isStopAt : List Cond := .code yX4_isStopAt cX4_isStopAt 3 (some .boolean) :: ([.fieldLink RX4 58 "Urnwright$Urn" "stopKind" "I", .fieldLink RX4 61 "Urnwright$Urn" "stopNumber" "I", .methodLink RX4 64 yX4_isOften, .instanceMethod yX4_isOften, .selects RX4 yX4_isOften yX4_isOften, .initialized RX4, .code yX4_isOften cX4_isOften 3 (some .boolean), .static yX5_timesIn, .initialized RX5, .code yX5_timesIn cX5_timesIn 5 (some .int)] ++ wsX40)
def wsX5_put__ : List Cond := .code yX5_put__ cX5_put__ 3 none :: ([])
def wsX1_sumStopped_r1 : List Cond := [Cond.fieldLink RX1 38 "Urnwright$Game" "steps" "I", Cond.fieldLink RX1 28 "Urnwright$Game" "isOver" "[Z", Cond.fieldLink RX1 15 "Urnwright$Game" "yields" "[I", Cond.fieldLink RX1 19 "Urnwright$Game" "paths" "[I", Cond.fieldLink RX1 9 "Urnwright$Game" "ways" "[J", Cond.methodLink RX1 109 yX1_waysFrom, Cond.instanceMethod yX1_waysFrom, Cond.selects RX1 yX1_waysFrom yX1_waysFrom, Cond.initialized RX1, Cond.code yX1_waysFrom cX1_waysFrom 5 (some .long), Cond.fieldLink RX1 48 "Urnwright$Game" "total" "I", Cond.fieldLink RX1 54 "Urnwright$Game" "growth" "I", Cond.static yX5_firstWith, Cond.initialized RX5, Cond.code yX5_firstWith cX5_firstWith 3 (some .int), Cond.static yX5_at__, Cond.code yX5_at__ cX5_at__ 2 (some .boolean), Cond.static yX5_at, Cond.code yX5_at cX5_at 2 (some .int), Cond.instanceMethod yX4_isStopAt, Cond.initialized RX4, Cond.selects RX4 yX4_isStopAt yX4_isStopAt, Cond.code yX4_isStopAt cX4_isStopAt 3 (some .boolean), Cond.fieldLink RX4 58 "Urnwright$Urn" "stopKind" "I"]
def wsX1_sumStopped_r2 : List Cond := [Cond.fieldLink RX4 61 "Urnwright$Urn" "stopNumber" "I", Cond.methodLink RX4 64 yX4_isOften, Cond.instanceMethod yX4_isOften, Cond.selects RX4 yX4_isOften yX4_isOften, Cond.code yX4_isOften cX4_isOften 3 (some .boolean), Cond.static yX5_timesIn, Cond.code yX5_timesIn cX5_timesIn 5 (some .int), Cond.static yX5_put__, Cond.code yX5_put__ cX5_put__ 3 none, Cond.static yX5_at_, Cond.code yX5_at_ cX5_at_ 2 (some .long)]
def wsX1_sumStopped : List Cond := .code yX1_sumStopped cX1_sumStopped 12 (some .long) :: ((wsX1_sumStopped_r1 ++ wsX1_sumStopped_r2) ++ wsX10 ++ wsX40)
def wsX1_prizeAt : List Cond := .code yX1_prizeAt cX1_prizeAt 3 (some .long) :: ([.fieldLink RX1 15 "Urnwright$Game" "yields" "[I", .methodLink RX1 132 Lib.Math.max.name, .static Lib.Math.max.name, .initialized "java/lang/Math", .code Lib.Math.max.name Lib.Math.max.code 2 (some .int), .static yX5_at, .initialized RX5, .code yX5_at cX5_at 2 (some .int)] ++ wsX10)
def wsX1_worthBehind : List Cond := .code yX1_worthBehind cX1_worthBehind 5 (some .long) :: ([.fieldLink RX1 25 "Urnwright$Game" "worths" "[J", .methodLink RX1 81 yX1_countAt, .instanceMethod yX1_countAt, .selects RX1 yX1_countAt yX1_countAt, .initialized RX1, .code yX1_countAt cX1_countAt 3 (some .int), .fieldLink RX1 22 "Urnwright$Game" "counts" "[I", .static yX5_at, .initialized RX5, .code yX5_at cX5_at 2 (some .int), .static yX5_behind, .code yX5_behind cX5_behind 2 (some .int), .static yX5_at_, .code yX5_at_ cX5_at_ 2 (some .long)] ++ wsX10)
def wsX1_weigh_r1 : List Cond := [Cond.fieldLink RX1 38 "Urnwright$Game" "steps" "I", Cond.fieldLink RX1 25 "Urnwright$Game" "worths" "[J", Cond.methodLink RX1 128 Lib.MathLoose.max_long.x, Cond.static Lib.MathLoose.max_long.x, Cond.initialized "java/lang/Math", Cond.code Lib.MathLoose.max_long.x Lib.MathLoose.max_long.code 4 (some .long), Cond.fieldLink RX1 9 "Urnwright$Game" "ways" "[J", Cond.static yX5_firstWith, Cond.initialized RX5, Cond.code yX5_firstWith cX5_firstWith 3 (some .int), Cond.methodLink RX1 122 yX1_prizeAt, Cond.instanceMethod yX1_prizeAt, Cond.selects RX1 yX1_prizeAt yX1_prizeAt, Cond.initialized RX1, Cond.code yX1_prizeAt cX1_prizeAt 3 (some .long), Cond.fieldLink RX1 15 "Urnwright$Game" "yields" "[I", Cond.methodLink RX1 132 Lib.Math.max.name, Cond.static Lib.Math.max.name, Cond.code Lib.Math.max.name Lib.Math.max.code 2 (some .int), Cond.static yX5_at, Cond.code yX5_at cX5_at 2 (some .int), Cond.static yX5_put_, Cond.code yX5_put_ cX5_put_ 4 none, Cond.methodLink RX1 109 yX1_waysFrom]
def wsX1_weigh_r2 : List Cond := [Cond.instanceMethod yX1_waysFrom, Cond.selects RX1 yX1_waysFrom yX1_waysFrom, Cond.code yX1_waysFrom cX1_waysFrom 5 (some .long), Cond.fieldLink RX1 48 "Urnwright$Game" "total" "I", Cond.fieldLink RX1 54 "Urnwright$Game" "growth" "I", Cond.methodLink RX1 125 yX1_worthBehind, Cond.instanceMethod yX1_worthBehind, Cond.selects RX1 yX1_worthBehind yX1_worthBehind, Cond.code yX1_worthBehind cX1_worthBehind 5 (some .long), Cond.methodLink RX1 81 yX1_countAt, Cond.instanceMethod yX1_countAt, Cond.selects RX1 yX1_countAt yX1_countAt, Cond.code yX1_countAt cX1_countAt 3 (some .int), Cond.fieldLink RX1 22 "Urnwright$Game" "counts" "[I", Cond.static yX5_behind, Cond.code yX5_behind cX5_behind 2 (some .int), Cond.static yX5_at_, Cond.code yX5_at_ cX5_at_ 2 (some .long)]
def wsX1_weigh : List Cond := .code yX1_weigh cX1_weigh 13 (some .int) :: ((wsX1_weigh_r1 ++ wsX1_weigh_r2) ++ wsX10)
def wsX2_init : List Cond := .code yX2_init cX2_init 6 none :: ([.methodLink RX2 3 objectInit, .instanceMethod objectInit, .code objectInit ⟨#[0xb1]⟩ 1 none, .arrayClass .int, .fieldLink RX2 9 "Urnwright$Row" "weights" "[I", .fieldLink RX2 15 "Urnwright$Row" "sum" "I"] ++ wsX20)
def wsX3_init : List Cond := .code yX3_init cX3_init 1 none :: ([.methodLink RX3 3 objectInit, .instanceMethod objectInit, .code objectInit ⟨#[0xb1]⟩ 1 none, .arrayClass .int, .fieldLink RX3 9 "Urnwright$Sides" "left" "[I", .fieldLink RX3 15 "Urnwright$Sides" "itsLeft" "[I"] ++ wsX30)
def wsX3_lay : List Cond := .code yX3_lay cX3_lay 4 none :: ([.fieldLink RX3 9 "Urnwright$Sides" "left" "[I", .fieldLink RX3 15 "Urnwright$Sides" "itsLeft" "[I", .static yX5_at, .initialized RX5, .code yX5_at cX5_at 2 (some .int), .static yX5_put, .code yX5_put cX5_put 3 none] ++ wsX30 ++ wsX20)
def wsX3_move : List Cond := .code yX3_move cX3_move 4 (some .int) :: ([.fieldLink RX3 9 "Urnwright$Sides" "left" "[I", .fieldLink RX3 15 "Urnwright$Sides" "itsLeft" "[I", .methodLink RX3 35 Lib.Math.min.name, .static Lib.Math.min.name, .initialized "java/lang/Math", .code Lib.Math.min.name Lib.Math.min.code 2 (some .int), .static yX5_at, .initialized RX5, .code yX5_at cX5_at 2 (some .int), .static yX5_put, .code yX5_put cX5_put 3 none] ++ wsX30)
def wsX3_stay : List Cond := .code yX3_stay cX3_stay 6 (some .int) :: ([.methodLink RX3 41 yX3_move, .instanceMethod yX3_move, .selects RX3 yX3_move yX3_move, .initialized RX3, .code yX3_move cX3_move 4 (some .int), .fieldLink RX3 9 "Urnwright$Sides" "left" "[I", .fieldLink RX3 15 "Urnwright$Sides" "itsLeft" "[I", .methodLink RX3 35 Lib.Math.min.name, .static Lib.Math.min.name, .initialized "java/lang/Math", .code Lib.Math.min.name Lib.Math.min.code 2 (some .int), .static yX5_at, .initialized RX5, .code yX5_at cX5_at 2 (some .int), .static yX5_put, .code yX5_put cX5_put 3 none] ++ wsX30)
def wsX3_step : List Cond := .code yX3_step cX3_step 8 (some .int) :: ([.fieldLink RX3 9 "Urnwright$Sides" "left" "[I", .methodLink RX3 41 yX3_move, .instanceMethod yX3_move, .selects RX3 yX3_move yX3_move, .initialized RX3, .code yX3_move cX3_move 4 (some .int), .fieldLink RX3 15 "Urnwright$Sides" "itsLeft" "[I", .methodLink RX3 35 Lib.Math.min.name, .static Lib.Math.min.name, .initialized "java/lang/Math", .code Lib.Math.min.name Lib.Math.min.code 2 (some .int), .static yX5_at, .initialized RX5, .code yX5_at cX5_at 2 (some .int), .static yX5_put, .code yX5_put cX5_put 3 none] ++ wsX30)
def wsX4_init : List Cond := .code yX4_init cX4_init 5 none :: ([.methodLink RX4 3 objectInit, .instanceMethod objectInit, .code objectInit ⟨#[0xb1]⟩ 1 none, .arrayClass .int, .fieldLink RX4 9 "Urnwright$Urn" "counts" "[I", .fieldLink RX4 15 "Urnwright$Urn" "pays" "[I", .fieldLink RX4 18 "Urnwright$Urn" "adds" "[I", .fieldLink RX4 21 "Urnwright$Urn" "countsBefore" "[I", .fieldLink RX4 24 "Urnwright$Urn" "growth" "I"] ++ wsX40)
def wsX4_mostSteps : List Cond := .code yX4_mostSteps cX4_mostSteps 1 (some .int) :: ([.fieldLink RX4 24 "Urnwright$Urn" "growth" "I", .methodLink RX4 36 Lib.Math.min.name, .static Lib.Math.min.name, .initialized "java/lang/Math", .code Lib.Math.min.name Lib.Math.min.code 2 (some .int), .methodLink RX4 32 yX4_countAll, .instanceMethod yX4_countAll, .selects RX4 yX4_countAll yX4_countAll, .initialized RX4, .code yX4_countAll cX4_countAll 1 (some .int), .fieldLink RX4 9 "Urnwright$Urn" "counts" "[I", .static yX5_at, .initialized RX5, .code yX5_at cX5_at 2 (some .int)] ++ wsX40)
def wsX4_take : List Cond := .code yX4_take cX4_take 4 none :: ([.fieldLink RX4 9 "Urnwright$Urn" "counts" "[I", .fieldLink RX4 21 "Urnwright$Urn" "countsBefore" "[I", .fieldLink RX4 42 "Urnwright$Urn" "draws" "I", .fieldLink RX4 52 "Urnwright$Urn" "path" "I", .fieldLink RX4 55 "Urnwright$Urn" "gain" "I", .fieldLink RX4 15 "Urnwright$Urn" "pays" "[I", .static yX5_at, .initialized RX5, .code yX5_at cX5_at 2 (some .int), .static yX5_put, .code yX5_put cX5_put 3 none, .methodLink RX4 49 yX4_addOf, .instanceMethod yX4_addOf, .selects RX4 yX4_addOf yX4_addOf, .initialized RX4, .code yX4_addOf cX4_addOf 3 (some .int), .fieldLink RX4 18 "Urnwright$Urn" "adds" "[I"] ++ wsX40)
def wsX4_takeBack : List Cond := .code yX4_takeBack cX4_takeBack 3 (some .int) :: ([.fieldLink RX4 52 "Urnwright$Urn" "path" "I", .fieldLink RX4 42 "Urnwright$Urn" "draws" "I", .fieldLink RX4 55 "Urnwright$Urn" "gain" "I", .fieldLink RX4 15 "Urnwright$Urn" "pays" "[I", .fieldLink RX4 9 "Urnwright$Urn" "counts" "[I", .fieldLink RX4 21 "Urnwright$Urn" "countsBefore" "[I", .static yX5_at, .initialized RX5, .code yX5_at cX5_at 2 (some .int), .static yX5_put, .code yX5_put cX5_put 3 none] ++ wsX40)
def wsX4_lean : List Cond := .code yX4_lean cX4_lean 5 (some .double) :: ([.fieldLink RX4 9 "Urnwright$Urn" "counts" "[I", .methodLink RX4 71 Lib.Math.abs.name, .static Lib.Math.abs.name, .initialized "java/lang/Math", .code Lib.Math.abs.name Lib.Math.abs.code 1 (some .int), .constantDouble RX4 75 (4616189618054758400), .constantDouble RX4 77 (4609434218613702656), .fieldLink RX4 55 "Urnwright$Urn" "gain" "I", .static yX5_at, .initialized RX5, .code yX5_at cX5_at 2 (some .int)] ++ wsX40)
def wsX5_init_r1 : List Cond := [Cond.methodLink RX5 1 objectInit, Cond.instanceMethod objectInit, Cond.code objectInit ⟨#[0xb1]⟩ 1 none, Cond.classLink RX5 9 RX4, Cond.fieldLink RX5 11 "Urnwright" "urns" "[LUrnwright$Urn;", Cond.classLink RX5 15 RX2, Cond.fieldLink RX5 17 "Urnwright" "rows" "[LUrnwright$Row;", Cond.classLink RX5 21 RX1, Cond.instantiable RX1 9, Cond.initialized RX1, Cond.fieldLink RX5 24 "Urnwright" "game" "LUrnwright$Game;", Cond.classLink RX5 28 RX3, Cond.instantiable RX3 2, Cond.initialized RX3, Cond.fieldLink RX5 31 "Urnwright" "sides" "LUrnwright$Sides;", Cond.classLink RX5 35 RX0, Cond.instantiable RX0 1, Cond.initialized RX0, Cond.fieldLink RX5 38 "Urnwright" "deck" "LUrnwright$Deck;", Cond.instanceMethod yX1_init, Cond.code yX1_init cX1_init 1 none, Cond.methodLink RX1 3 objectInit, Cond.arrayClass .long, Cond.fieldLink RX1 9 "Urnwright$Game" "ways" "[J"]
def wsX5_init_r2 : List Cond := [Cond.arrayClass .int, Cond.fieldLink RX1 15 "Urnwright$Game" "yields" "[I", Cond.fieldLink RX1 19 "Urnwright$Game" "paths" "[I", Cond.fieldLink RX1 22 "Urnwright$Game" "counts" "[I", Cond.fieldLink RX1 25 "Urnwright$Game" "worths" "[J", Cond.arrayClass .boolean, Cond.fieldLink RX1 28 "Urnwright$Game" "isOver" "[Z", Cond.instanceMethod yX3_init, Cond.code yX3_init cX3_init 1 none, Cond.methodLink RX3 3 objectInit, Cond.fieldLink RX3 9 "Urnwright$Sides" "left" "[I", Cond.fieldLink RX3 15 "Urnwright$Sides" "itsLeft" "[I", Cond.instanceMethod yX0_init, Cond.code yX0_init cX0_init 1 none, Cond.methodLink RX0 3 objectInit, Cond.fieldLink RX0 9 "Urnwright$Deck" "runs" "[J"]
def wsX5_init : List Cond := .code yX5_init cX5_init 1 none :: ((wsX5_init_r1 ++ wsX5_init_r2) ++ wsX50 ++ wsX10 ++ wsX30 ++ wsX00)
def wsX5_urn : List Cond := .code yX5_urn cX5_urn 7 (some .int) :: ([.classLink RX5 46 "java/lang/IllegalArgumentException", .initialized "java/lang/IllegalArgumentException", .classLink RX5 57 "java/lang/IllegalStateException", .initialized "java/lang/IllegalStateException", .fieldLink RX5 53 "Urnwright" "urnsTold" "I", .fieldLink RX5 11 "Urnwright" "urns" "[LUrnwright$Urn;", .classLink RX5 9 RX4, .instantiable RX4 10, .initialized RX4, .methodLink RX5 42 yX5_isWithin, .static yX5_isWithin, .initialized RX5, .code yX5_isWithin cX5_isWithin 3 (some .boolean), .instanceMethod yX4_init, .code yX4_init cX4_init 5 none, .methodLink RX4 3 objectInit, .instanceMethod objectInit, .code objectInit ⟨#[0xb1]⟩ 1 none, .arrayClass .int, .fieldLink RX4 9 "Urnwright$Urn" "counts" "[I", .fieldLink RX4 15 "Urnwright$Urn" "pays" "[I", .fieldLink RX4 18 "Urnwright$Urn" "adds" "[I", .fieldLink RX4 21 "Urnwright$Urn" "countsBefore" "[I", .fieldLink RX4 24 "Urnwright$Urn" "growth" "I"] ++ wsX50 ++ wsX40 ++ (vx_atS RX5 50 "java/lang/IllegalArgumentException" ["java/lang/RuntimeException", "java/lang/Exception"]).filter goodWord ++ (vx_atS RX5 61 "java/lang/IllegalStateException" ["java/lang/RuntimeException", "java/lang/Exception"]).filter goodWord)
def wsX5_urnOf : List Cond := .code yX5_urnOf cX5_urnOf 3 (some (.object "Urnwright$Urn")) :: ([.classLink RX5 231 "java/lang/IndexOutOfBoundsException", .initialized "java/lang/IndexOutOfBoundsException", .fieldLink RX5 11 "Urnwright" "urns" "[LUrnwright$Urn;"] ++ wsX50 ++ (vx_atS RX5 235 "java/lang/IndexOutOfBoundsException" ["java/lang/RuntimeException", "java/lang/Exception"]).filter goodWord)
def wsX5_lookAtColour : List Cond := .code yX5_lookAtColour cX5_lookAtColour 1 none :: ([.classLink RX5 231 "java/lang/IndexOutOfBoundsException", .initialized "java/lang/IndexOutOfBoundsException", .methodLink RX5 42 yX5_isWithin, .static yX5_isWithin, .initialized RX5, .code yX5_isWithin cX5_isWithin 3 (some .boolean)] ++ (vx_atS RX5 235 "java/lang/IndexOutOfBoundsException" ["java/lang/RuntimeException", "java/lang/Exception"]).filter goodWord)
def wsX5_rule_r1 : List Cond := [Cond.classLink RX5 46 "java/lang/IllegalArgumentException", Cond.initialized "java/lang/IllegalArgumentException", Cond.methodLink RX5 65 yX5_urnOf, Cond.instanceMethod yX5_urnOf, Cond.selects RX5 yX5_urnOf yX5_urnOf, Cond.initialized RX5, Cond.code yX5_urnOf cX5_urnOf 3 (some (.object "Urnwright$Urn")), Cond.classLink RX5 231 "java/lang/IndexOutOfBoundsException", Cond.initialized "java/lang/IndexOutOfBoundsException", Cond.fieldLink RX5 11 "Urnwright" "urns" "[LUrnwright$Urn;", Cond.methodLink RX5 69 yX5_lookAtColour, Cond.static yX5_lookAtColour, Cond.code yX5_lookAtColour cX5_lookAtColour 1 none, Cond.methodLink RX5 42 yX5_isWithin, Cond.static yX5_isWithin, Cond.code yX5_isWithin cX5_isWithin 3 (some .boolean), Cond.instanceMethod yX4_addOf, Cond.initialized RX4, Cond.selects RX4 yX4_addOf yX4_addOf, Cond.code yX4_addOf cX4_addOf 3 (some .int), Cond.fieldLink RX4 18 "Urnwright$Urn" "adds" "[I", Cond.static yX5_at, Cond.code yX5_at cX5_at 2 (some .int), Cond.methodLink RX5 86 yX5_put]
def wsX5_rule_r2 : List Cond := [Cond.static yX5_put, Cond.code yX5_put cX5_put 3 none]
def wsX5_rule : List Cond := .code yX5_rule cX5_rule 10 (some .int) :: ((wsX5_rule_r1 ++ wsX5_rule_r2) ++ wsX40 ++ wsX50 ++ (vx_atS RX5 50 "java/lang/IllegalArgumentException" ["java/lang/RuntimeException", "java/lang/Exception"]).filter goodWord ++ (vx_atS RX5 235 "java/lang/IndexOutOfBoundsException" ["java/lang/RuntimeException", "java/lang/Exception"]).filter goodWord)
def wsX5_pay : List Cond := .code yX5_pay cX5_pay 6 (some .int) :: ([.classLink RX5 46 "java/lang/IllegalArgumentException", .initialized "java/lang/IllegalArgumentException", .methodLink RX5 65 yX5_urnOf, .instanceMethod yX5_urnOf, .selects RX5 yX5_urnOf yX5_urnOf, .initialized RX5, .code yX5_urnOf cX5_urnOf 3 (some (.object "Urnwright$Urn")), .classLink RX5 231 "java/lang/IndexOutOfBoundsException", .initialized "java/lang/IndexOutOfBoundsException", .fieldLink RX5 11 "Urnwright" "urns" "[LUrnwright$Urn;", .methodLink RX5 69 yX5_lookAtColour, .static yX5_lookAtColour, .code yX5_lookAtColour cX5_lookAtColour 1 none, .methodLink RX5 42 yX5_isWithin, .static yX5_isWithin, .code yX5_isWithin cX5_isWithin 3 (some .boolean), .methodLink RX5 95 yX5_at, .static yX5_at, .code yX5_at cX5_at 2 (some .int), .methodLink RX5 86 yX5_put, .static yX5_put, .code yX5_put cX5_put 3 none] ++ wsX40 ++ wsX50 ++ (vx_atS RX5 50 "java/lang/IllegalArgumentException" ["java/lang/RuntimeException", "java/lang/Exception"]).filter goodWord ++ (vx_atS RX5 235 "java/lang/IndexOutOfBoundsException" ["java/lang/RuntimeException", "java/lang/Exception"]).filter goodWord)
def wsX5_stop : List Cond := .code yX5_stop cX5_stop 6 (some .int) :: ([.classLink RX5 46 "java/lang/IllegalArgumentException", .initialized "java/lang/IllegalArgumentException", .methodLink RX5 65 yX5_urnOf, .instanceMethod yX5_urnOf, .selects RX5 yX5_urnOf yX5_urnOf, .initialized RX5, .code yX5_urnOf cX5_urnOf 3 (some (.object "Urnwright$Urn")), .classLink RX5 231 "java/lang/IndexOutOfBoundsException", .initialized "java/lang/IndexOutOfBoundsException", .fieldLink RX5 11 "Urnwright" "urns" "[LUrnwright$Urn;", .methodLink RX5 42 yX5_isWithin, .static yX5_isWithin, .code yX5_isWithin cX5_isWithin 3 (some .boolean)] ++ wsX40 ++ wsX50 ++ (vx_atS RX5 50 "java/lang/IllegalArgumentException" ["java/lang/RuntimeException", "java/lang/Exception"]).filter goodWord ++ (vx_atS RX5 235 "java/lang/IndexOutOfBoundsException" ["java/lang/RuntimeException", "java/lang/Exception"]).filter goodWord)
def wsX5_draw_r1 : List Cond := [Cond.classLink RX5 57 "java/lang/IllegalStateException", Cond.initialized "java/lang/IllegalStateException", Cond.methodLink RX5 65 yX5_urnOf, Cond.instanceMethod yX5_urnOf, Cond.selects RX5 yX5_urnOf yX5_urnOf, Cond.initialized RX5, Cond.code yX5_urnOf cX5_urnOf 3 (some (.object "Urnwright$Urn")), Cond.classLink RX5 231 "java/lang/IndexOutOfBoundsException", Cond.initialized "java/lang/IndexOutOfBoundsException", Cond.fieldLink RX5 11 "Urnwright" "urns" "[LUrnwright$Urn;", Cond.methodLink RX5 69 yX5_lookAtColour, Cond.static yX5_lookAtColour, Cond.code yX5_lookAtColour cX5_lookAtColour 1 none, Cond.methodLink RX5 42 yX5_isWithin, Cond.static yX5_isWithin, Cond.code yX5_isWithin cX5_isWithin 3 (some .boolean), Cond.methodLink RX5 95 yX5_at, Cond.static yX5_at, Cond.code yX5_at cX5_at 2 (some .int), Cond.instanceMethod yX4_take, Cond.initialized RX4, Cond.selects RX4 yX4_take yX4_take, Cond.code yX4_take cX4_take 4 none, Cond.fieldLink RX4 9 "Urnwright$Urn" "counts" "[I"]
def wsX5_draw_r2 : List Cond := [Cond.fieldLink RX4 21 "Urnwright$Urn" "countsBefore" "[I", Cond.fieldLink RX4 42 "Urnwright$Urn" "draws" "I", Cond.fieldLink RX4 52 "Urnwright$Urn" "path" "I", Cond.fieldLink RX4 55 "Urnwright$Urn" "gain" "I", Cond.fieldLink RX4 15 "Urnwright$Urn" "pays" "[I", Cond.static yX5_put, Cond.code yX5_put cX5_put 3 none, Cond.methodLink RX4 49 yX4_addOf, Cond.instanceMethod yX4_addOf, Cond.selects RX4 yX4_addOf yX4_addOf, Cond.code yX4_addOf cX4_addOf 3 (some .int), Cond.fieldLink RX4 18 "Urnwright$Urn" "adds" "[I"]
def wsX5_draw : List Cond := .code yX5_draw cX5_draw 4 (some .int) :: ((wsX5_draw_r1 ++ wsX5_draw_r2) ++ wsX40 ++ wsX50 ++ (vx_atS RX5 61 "java/lang/IllegalStateException" ["java/lang/RuntimeException", "java/lang/Exception"]).filter goodWord ++ (vx_atS RX5 235 "java/lang/IndexOutOfBoundsException" ["java/lang/RuntimeException", "java/lang/Exception"]).filter goodWord)
def wsX5_back : List Cond := .code yX5_back cX5_back 3 (some .int) :: ([.fieldLink RX5 121 "Urnwright" "knocks" "I", .methodLink RX5 65 yX5_urnOf, .instanceMethod yX5_urnOf, .selects RX5 yX5_urnOf yX5_urnOf, .initialized RX5, .code yX5_urnOf cX5_urnOf 3 (some (.object "Urnwright$Urn")), .classLink RX5 231 "java/lang/IndexOutOfBoundsException", .initialized "java/lang/IndexOutOfBoundsException", .fieldLink RX5 11 "Urnwright" "urns" "[LUrnwright$Urn;", .instanceMethod yX4_takeBack, .initialized RX4, .selects RX4 yX4_takeBack yX4_takeBack, .code yX4_takeBack cX4_takeBack 3 (some .int), .fieldLink RX4 52 "Urnwright$Urn" "path" "I", .fieldLink RX4 42 "Urnwright$Urn" "draws" "I", .fieldLink RX4 55 "Urnwright$Urn" "gain" "I", .fieldLink RX4 15 "Urnwright$Urn" "pays" "[I", .fieldLink RX4 9 "Urnwright$Urn" "counts" "[I", .fieldLink RX4 21 "Urnwright$Urn" "countsBefore" "[I", .static yX5_at, .code yX5_at cX5_at 2 (some .int), .static yX5_put, .code yX5_put cX5_put 3 none] ++ wsX40 ++ wsX50 ++ (vx_atS RX5 235 "java/lang/IndexOutOfBoundsException" ["java/lang/RuntimeException", "java/lang/Exception"]).filter goodWord)
def wsX5_isWeight : List Cond := .code yX5_isWeight cX5_isWeight 1 (some .boolean) :: ([.methodLink RX5 42 yX5_isWithin, .static yX5_isWithin, .initialized RX5, .code yX5_isWithin cX5_isWithin 3 (some .boolean)])
def wsX5_row : List Cond := .code yX5_row cX5_row 8 (some .int) :: ([.classLink RX5 46 "java/lang/IllegalArgumentException", .initialized "java/lang/IllegalArgumentException", .classLink RX5 57 "java/lang/IllegalStateException", .initialized "java/lang/IllegalStateException", .fieldLink RX5 134 "Urnwright" "rowsTold" "I", .fieldLink RX5 17 "Urnwright" "rows" "[LUrnwright$Row;", .classLink RX5 15 RX2, .instantiable RX2 2, .initialized RX2, .methodLink RX5 128 yX5_isWeight, .static yX5_isWeight, .initialized RX5, .code yX5_isWeight cX5_isWeight 1 (some .boolean), .methodLink RX5 42 yX5_isWithin, .static yX5_isWithin, .code yX5_isWithin cX5_isWithin 3 (some .boolean), .instanceMethod yX2_init, .code yX2_init cX2_init 6 none, .methodLink RX2 3 objectInit, .instanceMethod objectInit, .code objectInit ⟨#[0xb1]⟩ 1 none, .arrayClass .int, .fieldLink RX2 9 "Urnwright$Row" "weights" "[I", .fieldLink RX2 15 "Urnwright$Row" "sum" "I"] ++ wsX50 ++ wsX20 ++ (vx_atS RX5 50 "java/lang/IllegalArgumentException" ["java/lang/RuntimeException", "java/lang/Exception"]).filter goodWord ++ (vx_atS RX5 61 "java/lang/IllegalStateException" ["java/lang/RuntimeException", "java/lang/Exception"]).filter goodWord)
def wsX5_drawsOf : List Cond := .code yX5_drawsOf cX5_drawsOf 4 (some .int) :: ([.methodLink RX5 42 yX5_isWithin, .static yX5_isWithin, .initialized RX5, .code yX5_isWithin cX5_isWithin 3 (some .boolean)])
def wsX5_openPath_r1 : List Cond := [Cond.classLink RX5 46 "java/lang/IllegalArgumentException", Cond.initialized "java/lang/IllegalArgumentException", Cond.fieldLink RX5 24 "Urnwright" "game" "LUrnwright$Game;", Cond.methodLink RX5 353 yX5_drawsOf, Cond.static yX5_drawsOf, Cond.initialized RX5, Cond.code yX5_drawsOf cX5_drawsOf 4 (some .int), Cond.methodLink RX5 42 yX5_isWithin, Cond.static yX5_isWithin, Cond.code yX5_isWithin cX5_isWithin 3 (some .boolean), Cond.instanceMethod yX1_open, Cond.initialized RX1, Cond.selects RX1 yX1_open yX1_open, Cond.code yX1_open cX1_open 6 none, Cond.methodLink RX1 32 Lib.Math.min.name, Cond.static Lib.Math.min.name, Cond.initialized "java/lang/Math", Cond.code Lib.Math.min.name Lib.Math.min.code 2 (some .int), Cond.fieldLink RX1 38 "Urnwright$Game" "steps" "I", Cond.fieldLink RX1 48 "Urnwright$Game" "total" "I", Cond.fieldLink RX1 54 "Urnwright$Game" "growth" "I", Cond.fieldLink RX1 9 "Urnwright$Game" "ways" "[J", Cond.fieldLink RX1 22 "Urnwright$Game" "counts" "[I", Cond.instanceMethod yX4_countAll]
def wsX5_openPath_r2 : List Cond := [Cond.initialized RX4, Cond.selects RX4 yX4_countAll yX4_countAll, Cond.code yX4_countAll cX4_countAll 1 (some .int), Cond.fieldLink RX4 9 "Urnwright$Urn" "counts" "[I", Cond.static yX5_at, Cond.code yX5_at cX5_at 2 (some .int), Cond.static yX5_put_, Cond.code yX5_put_ cX5_put_ 4 none, Cond.static yX5_put, Cond.code yX5_put cX5_put 3 none, Cond.static yX5_firstWith, Cond.code yX5_firstWith cX5_firstWith 3 (some .int), Cond.methodLink RX1 71 yX1_grow, Cond.instanceMethod yX1_grow, Cond.selects RX1 yX1_grow yX1_grow, Cond.code yX1_grow cX1_grow 6 none, Cond.fieldLink RX1 15 "Urnwright$Game" "yields" "[I", Cond.fieldLink RX1 19 "Urnwright$Game" "paths" "[I", Cond.static yX5_behind, Cond.code yX5_behind cX5_behind 2 (some .int), Cond.static yX5_at_, Cond.code yX5_at_ cX5_at_ 2 (some .long), Cond.methodLink RX1 81 yX1_countAt, Cond.instanceMethod yX1_countAt]
def wsX5_openPath_r3 : List Cond := [Cond.selects RX1 yX1_countAt yX1_countAt, Cond.code yX1_countAt cX1_countAt 3 (some .int), Cond.instanceMethod yX4_addOf, Cond.selects RX4 yX4_addOf yX4_addOf, Cond.code yX4_addOf cX4_addOf 3 (some .int), Cond.fieldLink RX4 18 "Urnwright$Urn" "adds" "[I"]
def wsX5_openPath : List Cond := .code yX5_openPath cX5_openPath 4 none :: ((wsX5_openPath_r1 ++ (wsX5_openPath_r2 ++ wsX5_openPath_r3)) ++ wsX50 ++ wsX10 ++ wsX40 ++ (vx_atS RX5 50 "java/lang/IllegalArgumentException" ["java/lang/RuntimeException", "java/lang/Exception"]).filter goodWord)
def wsX5_nodeOf : List Cond := .code yX5_nodeOf cX5_nodeOf 5 (some .int) :: ([])
def wsX5_sharedDivisor : List Cond := .code yX5_sharedDivisor cX5_sharedDivisor 11 (some .long) :: ([])
def wsX5_part : List Cond := .code yX5_part cX5_part 9 (some .long) :: ([.methodLink RX5 358 Lib.MathLoose.abs_long.x, .static Lib.MathLoose.abs_long.x, .initialized "java/lang/Math", .code Lib.MathLoose.abs_long.x Lib.MathLoose.abs_long.code 2 (some .long), .methodLink RX5 361 yX5_sharedDivisor, .static yX5_sharedDivisor, .initialized RX5, .code yX5_sharedDivisor cX5_sharedDivisor 11 (some .long)])
def wsX5_chance_r1 : List Cond := [Cond.fieldLink RX5 24 "Urnwright" "game" "LUrnwright$Game;", Cond.methodLink RX5 65 yX5_urnOf, Cond.instanceMethod yX5_urnOf, Cond.selects RX5 yX5_urnOf yX5_urnOf, Cond.initialized RX5, Cond.code yX5_urnOf cX5_urnOf 3 (some (.object "Urnwright$Urn")), Cond.classLink RX5 231 "java/lang/IndexOutOfBoundsException", Cond.initialized "java/lang/IndexOutOfBoundsException", Cond.fieldLink RX5 11 "Urnwright" "urns" "[LUrnwright$Urn;", Cond.methodLink RX5 142 yX5_openPath, Cond.instanceMethod yX5_openPath, Cond.selects RX5 yX5_openPath yX5_openPath, Cond.code yX5_openPath cX5_openPath 4 none, Cond.classLink RX5 46 "java/lang/IllegalArgumentException", Cond.initialized "java/lang/IllegalArgumentException", Cond.methodLink RX5 353 yX5_drawsOf, Cond.static yX5_drawsOf, Cond.code yX5_drawsOf cX5_drawsOf 4 (some .int), Cond.methodLink RX5 42 yX5_isWithin, Cond.static yX5_isWithin, Cond.code yX5_isWithin cX5_isWithin 3 (some .boolean), Cond.instanceMethod yX1_open, Cond.initialized RX1, Cond.selects RX1 yX1_open yX1_open]
def wsX5_chance_r2 : List Cond := [Cond.code yX1_open cX1_open 6 none, Cond.methodLink RX1 32 Lib.Math.min.name, Cond.static Lib.Math.min.name, Cond.initialized "java/lang/Math", Cond.code Lib.Math.min.name Lib.Math.min.code 2 (some .int), Cond.fieldLink RX1 38 "Urnwright$Game" "steps" "I", Cond.fieldLink RX1 48 "Urnwright$Game" "total" "I", Cond.fieldLink RX1 54 "Urnwright$Game" "growth" "I", Cond.fieldLink RX1 9 "Urnwright$Game" "ways" "[J", Cond.fieldLink RX1 22 "Urnwright$Game" "counts" "[I", Cond.instanceMethod yX4_countAll, Cond.initialized RX4, Cond.selects RX4 yX4_countAll yX4_countAll, Cond.code yX4_countAll cX4_countAll 1 (some .int), Cond.fieldLink RX4 9 "Urnwright$Urn" "counts" "[I", Cond.static yX5_at, Cond.code yX5_at cX5_at 2 (some .int), Cond.static yX5_put_, Cond.code yX5_put_ cX5_put_ 4 none, Cond.static yX5_put, Cond.code yX5_put cX5_put 3 none, Cond.static yX5_firstWith, Cond.code yX5_firstWith cX5_firstWith 3 (some .int), Cond.methodLink RX1 71 yX1_grow]
def wsX5_chance_r3 : List Cond := [Cond.instanceMethod yX1_grow, Cond.selects RX1 yX1_grow yX1_grow, Cond.code yX1_grow cX1_grow 6 none, Cond.fieldLink RX1 15 "Urnwright$Game" "yields" "[I", Cond.fieldLink RX1 19 "Urnwright$Game" "paths" "[I", Cond.static yX5_behind, Cond.code yX5_behind cX5_behind 2 (some .int), Cond.static yX5_at_, Cond.code yX5_at_ cX5_at_ 2 (some .long), Cond.methodLink RX1 81 yX1_countAt, Cond.instanceMethod yX1_countAt, Cond.selects RX1 yX1_countAt yX1_countAt, Cond.code yX1_countAt cX1_countAt 3 (some .int), Cond.instanceMethod yX4_addOf, Cond.selects RX4 yX4_addOf yX4_addOf, Cond.code yX4_addOf cX4_addOf 3 (some .int), Cond.fieldLink RX4 18 "Urnwright$Urn" "adds" "[I", Cond.methodLink RX5 150 yX5_nodeOf, Cond.static yX5_nodeOf, Cond.code yX5_nodeOf cX5_nodeOf 5 (some .int), Cond.methodLink RX5 154 yX5_at_, Cond.instanceMethod yX1_waysFrom, Cond.selects RX1 yX1_waysFrom yX1_waysFrom, Cond.code yX1_waysFrom cX1_waysFrom 5 (some .long)]
def wsX5_chance_r4 : List Cond := [Cond.methodLink RX5 161 yX5_part, Cond.static yX5_part, Cond.code yX5_part cX5_part 9 (some .long), Cond.methodLink RX5 358 Lib.MathLoose.abs_long.x, Cond.static Lib.MathLoose.abs_long.x, Cond.code Lib.MathLoose.abs_long.x Lib.MathLoose.abs_long.code 2 (some .long), Cond.methodLink RX5 361 yX5_sharedDivisor, Cond.static yX5_sharedDivisor, Cond.code yX5_sharedDivisor cX5_sharedDivisor 11 (some .long)]
def wsX5_chance : List Cond := .code yX5_chance cX5_chance 7 (some .long) :: ((wsX5_chance_r1 ++ (wsX5_chance_r2 ++ (wsX5_chance_r3 ++ wsX5_chance_r4))) ++ wsX50 ++ wsX10 ++ wsX40 ++ (vx_atS RX5 235 "java/lang/IndexOutOfBoundsException" ["java/lang/RuntimeException", "java/lang/Exception"]).filter goodWord ++ (vx_atS RX5 50 "java/lang/IllegalArgumentException" ["java/lang/RuntimeException", "java/lang/Exception"]).filter goodWord)
def wsX5_openGame_r1 : List Cond := [Cond.classLink RX5 46 "java/lang/IllegalArgumentException", Cond.initialized "java/lang/IllegalArgumentException", Cond.fieldLink RX5 24 "Urnwright" "game" "LUrnwright$Game;", Cond.instanceMethod yX4_mostSteps, Cond.initialized RX4, Cond.selects RX4 yX4_mostSteps yX4_mostSteps, Cond.code yX4_mostSteps cX4_mostSteps 1 (some .int), Cond.fieldLink RX4 24 "Urnwright$Urn" "growth" "I", Cond.methodLink RX4 36 Lib.Math.min.name, Cond.static Lib.Math.min.name, Cond.initialized "java/lang/Math", Cond.code Lib.Math.min.name Lib.Math.min.code 2 (some .int), Cond.methodLink RX4 32 yX4_countAll, Cond.instanceMethod yX4_countAll, Cond.selects RX4 yX4_countAll yX4_countAll, Cond.code yX4_countAll cX4_countAll 1 (some .int), Cond.fieldLink RX4 9 "Urnwright$Urn" "counts" "[I", Cond.static yX5_at, Cond.initialized RX5, Cond.code yX5_at cX5_at 2 (some .int), Cond.methodLink RX5 42 yX5_isWithin, Cond.static yX5_isWithin, Cond.code yX5_isWithin cX5_isWithin 3 (some .boolean), Cond.instanceMethod yX1_open]
def wsX5_openGame_r2 : List Cond := [Cond.initialized RX1, Cond.selects RX1 yX1_open yX1_open, Cond.code yX1_open cX1_open 6 none, Cond.methodLink RX1 32 Lib.Math.min.name, Cond.fieldLink RX1 38 "Urnwright$Game" "steps" "I", Cond.fieldLink RX1 48 "Urnwright$Game" "total" "I", Cond.fieldLink RX1 54 "Urnwright$Game" "growth" "I", Cond.fieldLink RX1 9 "Urnwright$Game" "ways" "[J", Cond.fieldLink RX1 22 "Urnwright$Game" "counts" "[I", Cond.static yX5_put_, Cond.code yX5_put_ cX5_put_ 4 none, Cond.static yX5_put, Cond.code yX5_put cX5_put 3 none, Cond.static yX5_firstWith, Cond.code yX5_firstWith cX5_firstWith 3 (some .int), Cond.methodLink RX1 71 yX1_grow, Cond.instanceMethod yX1_grow, Cond.selects RX1 yX1_grow yX1_grow, Cond.code yX1_grow cX1_grow 6 none, Cond.fieldLink RX1 15 "Urnwright$Game" "yields" "[I", Cond.fieldLink RX1 19 "Urnwright$Game" "paths" "[I", Cond.static yX5_behind, Cond.code yX5_behind cX5_behind 2 (some .int), Cond.static yX5_at_]
def wsX5_openGame_r3 : List Cond := [Cond.code yX5_at_ cX5_at_ 2 (some .long), Cond.methodLink RX1 81 yX1_countAt, Cond.instanceMethod yX1_countAt, Cond.selects RX1 yX1_countAt yX1_countAt, Cond.code yX1_countAt cX1_countAt 3 (some .int), Cond.instanceMethod yX4_addOf, Cond.selects RX4 yX4_addOf yX4_addOf, Cond.code yX4_addOf cX4_addOf 3 (some .int), Cond.fieldLink RX4 18 "Urnwright$Urn" "adds" "[I"]
def wsX5_openGame : List Cond := .code yX5_openGame cX5_openGame 3 none :: ((wsX5_openGame_r1 ++ (wsX5_openGame_r2 ++ wsX5_openGame_r3)) ++ wsX50 ++ wsX40 ++ wsX10 ++ (vx_atS RX5 50 "java/lang/IllegalArgumentException" ["java/lang/RuntimeException", "java/lang/Exception"]).filter goodWord)
def wsX5_gains_r1 : List Cond := [Cond.fieldLink RX5 24 "Urnwright" "game" "LUrnwright$Game;", Cond.methodLink RX5 65 yX5_urnOf, Cond.instanceMethod yX5_urnOf, Cond.selects RX5 yX5_urnOf yX5_urnOf, Cond.initialized RX5, Cond.code yX5_urnOf cX5_urnOf 3 (some (.object "Urnwright$Urn")), Cond.classLink RX5 231 "java/lang/IndexOutOfBoundsException", Cond.initialized "java/lang/IndexOutOfBoundsException", Cond.fieldLink RX5 11 "Urnwright" "urns" "[LUrnwright$Urn;", Cond.methodLink RX5 165 yX5_openGame, Cond.instanceMethod yX5_openGame, Cond.selects RX5 yX5_openGame yX5_openGame, Cond.code yX5_openGame cX5_openGame 3 none, Cond.classLink RX5 46 "java/lang/IllegalArgumentException", Cond.initialized "java/lang/IllegalArgumentException", Cond.instanceMethod yX4_mostSteps, Cond.initialized RX4, Cond.selects RX4 yX4_mostSteps yX4_mostSteps, Cond.code yX4_mostSteps cX4_mostSteps 1 (some .int), Cond.fieldLink RX4 24 "Urnwright$Urn" "growth" "I", Cond.methodLink RX4 36 Lib.Math.min.name, Cond.static Lib.Math.min.name, Cond.initialized "java/lang/Math", Cond.code Lib.Math.min.name Lib.Math.min.code 2 (some .int)]
def wsX5_gains_r2 : List Cond := [Cond.methodLink RX4 32 yX4_countAll, Cond.instanceMethod yX4_countAll, Cond.selects RX4 yX4_countAll yX4_countAll, Cond.code yX4_countAll cX4_countAll 1 (some .int), Cond.fieldLink RX4 9 "Urnwright$Urn" "counts" "[I", Cond.static yX5_at, Cond.code yX5_at cX5_at 2 (some .int), Cond.methodLink RX5 42 yX5_isWithin, Cond.static yX5_isWithin, Cond.code yX5_isWithin cX5_isWithin 3 (some .boolean), Cond.instanceMethod yX1_open, Cond.initialized RX1, Cond.selects RX1 yX1_open yX1_open, Cond.code yX1_open cX1_open 6 none, Cond.methodLink RX1 32 Lib.Math.min.name, Cond.fieldLink RX1 38 "Urnwright$Game" "steps" "I", Cond.fieldLink RX1 48 "Urnwright$Game" "total" "I", Cond.fieldLink RX1 54 "Urnwright$Game" "growth" "I", Cond.fieldLink RX1 9 "Urnwright$Game" "ways" "[J", Cond.fieldLink RX1 22 "Urnwright$Game" "counts" "[I", Cond.static yX5_put_, Cond.code yX5_put_ cX5_put_ 4 none, Cond.static yX5_put, Cond.code yX5_put cX5_put 3 none]
def wsX5_gains_r3 : List Cond := [Cond.static yX5_firstWith, Cond.code yX5_firstWith cX5_firstWith 3 (some .int), Cond.methodLink RX1 71 yX1_grow, Cond.instanceMethod yX1_grow, Cond.selects RX1 yX1_grow yX1_grow, Cond.code yX1_grow cX1_grow 6 none, Cond.fieldLink RX1 15 "Urnwright$Game" "yields" "[I", Cond.fieldLink RX1 19 "Urnwright$Game" "paths" "[I", Cond.static yX5_behind, Cond.code yX5_behind cX5_behind 2 (some .int), Cond.static yX5_at_, Cond.code yX5_at_ cX5_at_ 2 (some .long), Cond.methodLink RX1 81 yX1_countAt, Cond.instanceMethod yX1_countAt, Cond.selects RX1 yX1_countAt yX1_countAt, Cond.code yX1_countAt cX1_countAt 3 (some .int), Cond.instanceMethod yX4_addOf, Cond.selects RX4 yX4_addOf yX4_addOf, Cond.code yX4_addOf cX4_addOf 3 (some .int), Cond.fieldLink RX4 18 "Urnwright$Urn" "adds" "[I", Cond.instanceMethod yX1_waysBetween, Cond.selects RX1 yX1_waysBetween yX1_waysBetween, Cond.code yX1_waysBetween cX1_waysBetween 7 (some .long), Cond.instanceMethod yX1_waysFrom]
def wsX5_gains_r4 : List Cond := [Cond.selects RX1 yX1_waysFrom yX1_waysFrom, Cond.code yX1_waysFrom cX1_waysFrom 5 (some .long), Cond.methodLink RX5 161 yX5_part, Cond.static yX5_part, Cond.code yX5_part cX5_part 9 (some .long), Cond.methodLink RX5 358 Lib.MathLoose.abs_long.x, Cond.static Lib.MathLoose.abs_long.x, Cond.code Lib.MathLoose.abs_long.x Lib.MathLoose.abs_long.code 2 (some .long), Cond.methodLink RX5 361 yX5_sharedDivisor, Cond.static yX5_sharedDivisor, Cond.code yX5_sharedDivisor cX5_sharedDivisor 11 (some .long)]
def wsX5_gains : List Cond := .code yX5_gains cX5_gains 5 (some .long) :: ((wsX5_gains_r1 ++ (wsX5_gains_r2 ++ (wsX5_gains_r3 ++ wsX5_gains_r4))) ++ wsX50 ++ wsX40 ++ wsX10 ++ (vx_atS RX5 235 "java/lang/IndexOutOfBoundsException" ["java/lang/RuntimeException", "java/lang/Exception"]).filter goodWord ++ (vx_atS RX5 50 "java/lang/IllegalArgumentException" ["java/lang/RuntimeException", "java/lang/Exception"]).filter goodWord)
def wsX5_mean_r1 : List Cond := [Cond.fieldLink RX5 24 "Urnwright" "game" "LUrnwright$Game;", Cond.methodLink RX5 65 yX5_urnOf, Cond.instanceMethod yX5_urnOf, Cond.selects RX5 yX5_urnOf yX5_urnOf, Cond.initialized RX5, Cond.code yX5_urnOf cX5_urnOf 3 (some (.object "Urnwright$Urn")), Cond.classLink RX5 231 "java/lang/IndexOutOfBoundsException", Cond.initialized "java/lang/IndexOutOfBoundsException", Cond.fieldLink RX5 11 "Urnwright" "urns" "[LUrnwright$Urn;", Cond.methodLink RX5 165 yX5_openGame, Cond.instanceMethod yX5_openGame, Cond.selects RX5 yX5_openGame yX5_openGame, Cond.code yX5_openGame cX5_openGame 3 none, Cond.classLink RX5 46 "java/lang/IllegalArgumentException", Cond.initialized "java/lang/IllegalArgumentException", Cond.instanceMethod yX4_mostSteps, Cond.initialized RX4, Cond.selects RX4 yX4_mostSteps yX4_mostSteps, Cond.code yX4_mostSteps cX4_mostSteps 1 (some .int), Cond.fieldLink RX4 24 "Urnwright$Urn" "growth" "I", Cond.methodLink RX4 36 Lib.Math.min.name, Cond.static Lib.Math.min.name, Cond.initialized "java/lang/Math", Cond.code Lib.Math.min.name Lib.Math.min.code 2 (some .int)]
def wsX5_mean_r2 : List Cond := [Cond.methodLink RX4 32 yX4_countAll, Cond.instanceMethod yX4_countAll, Cond.selects RX4 yX4_countAll yX4_countAll, Cond.code yX4_countAll cX4_countAll 1 (some .int), Cond.fieldLink RX4 9 "Urnwright$Urn" "counts" "[I", Cond.static yX5_at, Cond.code yX5_at cX5_at 2 (some .int), Cond.methodLink RX5 42 yX5_isWithin, Cond.static yX5_isWithin, Cond.code yX5_isWithin cX5_isWithin 3 (some .boolean), Cond.instanceMethod yX1_open, Cond.initialized RX1, Cond.selects RX1 yX1_open yX1_open, Cond.code yX1_open cX1_open 6 none, Cond.methodLink RX1 32 Lib.Math.min.name, Cond.fieldLink RX1 38 "Urnwright$Game" "steps" "I", Cond.fieldLink RX1 48 "Urnwright$Game" "total" "I", Cond.fieldLink RX1 54 "Urnwright$Game" "growth" "I", Cond.fieldLink RX1 9 "Urnwright$Game" "ways" "[J", Cond.fieldLink RX1 22 "Urnwright$Game" "counts" "[I", Cond.static yX5_put_, Cond.code yX5_put_ cX5_put_ 4 none, Cond.static yX5_put, Cond.code yX5_put cX5_put 3 none]
def wsX5_mean_r3 : List Cond := [Cond.static yX5_firstWith, Cond.code yX5_firstWith cX5_firstWith 3 (some .int), Cond.methodLink RX1 71 yX1_grow, Cond.instanceMethod yX1_grow, Cond.selects RX1 yX1_grow yX1_grow, Cond.code yX1_grow cX1_grow 6 none, Cond.fieldLink RX1 15 "Urnwright$Game" "yields" "[I", Cond.fieldLink RX1 19 "Urnwright$Game" "paths" "[I", Cond.static yX5_behind, Cond.code yX5_behind cX5_behind 2 (some .int), Cond.static yX5_at_, Cond.code yX5_at_ cX5_at_ 2 (some .long), Cond.methodLink RX1 81 yX1_countAt, Cond.instanceMethod yX1_countAt, Cond.selects RX1 yX1_countAt yX1_countAt, Cond.code yX1_countAt cX1_countAt 3 (some .int), Cond.instanceMethod yX4_addOf, Cond.selects RX4 yX4_addOf yX4_addOf, Cond.code yX4_addOf cX4_addOf 3 (some .int), Cond.fieldLink RX4 18 "Urnwright$Urn" "adds" "[I", Cond.instanceMethod yX1_waysFrom, Cond.selects RX1 yX1_waysFrom yX1_waysFrom, Cond.code yX1_waysFrom cX1_waysFrom 5 (some .long), Cond.instanceMethod yX1_sumOfPowers]
def wsX5_mean_r4 : List Cond := [Cond.selects RX1 yX1_sumOfPowers yX1_sumOfPowers, Cond.code yX1_sumOfPowers cX1_sumOfPowers 2 (some .long), Cond.methodLink RX1 94 yX1_sumOfPowersWith, Cond.instanceMethod yX1_sumOfPowersWith, Cond.selects RX1 yX1_sumOfPowersWith yX1_sumOfPowersWith, Cond.code yX1_sumOfPowersWith cX1_sumOfPowersWith 8 (some .long), Cond.static yX5_timesIn, Cond.code yX5_timesIn cX5_timesIn 5 (some .int), Cond.static yX5_power, Cond.code yX5_power cX5_power 5 (some .long), Cond.methodLink RX5 161 yX5_part, Cond.static yX5_part, Cond.code yX5_part cX5_part 9 (some .long), Cond.methodLink RX5 358 Lib.MathLoose.abs_long.x, Cond.static Lib.MathLoose.abs_long.x, Cond.code Lib.MathLoose.abs_long.x Lib.MathLoose.abs_long.code 2 (some .long), Cond.methodLink RX5 361 yX5_sharedDivisor, Cond.static yX5_sharedDivisor, Cond.code yX5_sharedDivisor cX5_sharedDivisor 11 (some .long)]
def wsX5_mean : List Cond := .code yX5_mean cX5_mean 9 (some .long) :: ((wsX5_mean_r1 ++ (wsX5_mean_r2 ++ (wsX5_mean_r3 ++ wsX5_mean_r4))) ++ wsX50 ++ wsX40 ++ wsX10 ++ (vx_atS RX5 235 "java/lang/IndexOutOfBoundsException" ["java/lang/RuntimeException", "java/lang/Exception"]).filter goodWord ++ (vx_atS RX5 50 "java/lang/IllegalArgumentException" ["java/lang/RuntimeException", "java/lang/Exception"]).filter goodWord)
def wsX5_unfair_r1 : List Cond := [Cond.fieldLink RX5 24 "Urnwright" "game" "LUrnwright$Game;", Cond.methodLink RX5 65 yX5_urnOf, Cond.instanceMethod yX5_urnOf, Cond.selects RX5 yX5_urnOf yX5_urnOf, Cond.initialized RX5, Cond.code yX5_urnOf cX5_urnOf 3 (some (.object "Urnwright$Urn")), Cond.classLink RX5 231 "java/lang/IndexOutOfBoundsException", Cond.initialized "java/lang/IndexOutOfBoundsException", Cond.fieldLink RX5 11 "Urnwright" "urns" "[LUrnwright$Urn;", Cond.methodLink RX5 165 yX5_openGame, Cond.instanceMethod yX5_openGame, Cond.selects RX5 yX5_openGame yX5_openGame, Cond.code yX5_openGame cX5_openGame 3 none, Cond.classLink RX5 46 "java/lang/IllegalArgumentException", Cond.initialized "java/lang/IllegalArgumentException", Cond.instanceMethod yX4_mostSteps, Cond.initialized RX4, Cond.selects RX4 yX4_mostSteps yX4_mostSteps, Cond.code yX4_mostSteps cX4_mostSteps 1 (some .int), Cond.fieldLink RX4 24 "Urnwright$Urn" "growth" "I", Cond.methodLink RX4 36 Lib.Math.min.name, Cond.static Lib.Math.min.name, Cond.initialized "java/lang/Math", Cond.code Lib.Math.min.name Lib.Math.min.code 2 (some .int)]
def wsX5_unfair_r2 : List Cond := [Cond.methodLink RX4 32 yX4_countAll, Cond.instanceMethod yX4_countAll, Cond.selects RX4 yX4_countAll yX4_countAll, Cond.code yX4_countAll cX4_countAll 1 (some .int), Cond.fieldLink RX4 9 "Urnwright$Urn" "counts" "[I", Cond.static yX5_at, Cond.code yX5_at cX5_at 2 (some .int), Cond.methodLink RX5 42 yX5_isWithin, Cond.static yX5_isWithin, Cond.code yX5_isWithin cX5_isWithin 3 (some .boolean), Cond.instanceMethod yX1_open, Cond.initialized RX1, Cond.selects RX1 yX1_open yX1_open, Cond.code yX1_open cX1_open 6 none, Cond.methodLink RX1 32 Lib.Math.min.name, Cond.fieldLink RX1 38 "Urnwright$Game" "steps" "I", Cond.fieldLink RX1 48 "Urnwright$Game" "total" "I", Cond.fieldLink RX1 54 "Urnwright$Game" "growth" "I", Cond.fieldLink RX1 9 "Urnwright$Game" "ways" "[J", Cond.fieldLink RX1 22 "Urnwright$Game" "counts" "[I", Cond.static yX5_put_, Cond.code yX5_put_ cX5_put_ 4 none, Cond.static yX5_put, Cond.code yX5_put cX5_put 3 none]
def wsX5_unfair_r3 : List Cond := [Cond.static yX5_firstWith, Cond.code yX5_firstWith cX5_firstWith 3 (some .int), Cond.methodLink RX1 71 yX1_grow, Cond.instanceMethod yX1_grow, Cond.selects RX1 yX1_grow yX1_grow, Cond.code yX1_grow cX1_grow 6 none, Cond.fieldLink RX1 15 "Urnwright$Game" "yields" "[I", Cond.fieldLink RX1 19 "Urnwright$Game" "paths" "[I", Cond.static yX5_behind, Cond.code yX5_behind cX5_behind 2 (some .int), Cond.static yX5_at_, Cond.code yX5_at_ cX5_at_ 2 (some .long), Cond.methodLink RX1 81 yX1_countAt, Cond.instanceMethod yX1_countAt, Cond.selects RX1 yX1_countAt yX1_countAt, Cond.code yX1_countAt cX1_countAt 3 (some .int), Cond.instanceMethod yX4_addOf, Cond.selects RX4 yX4_addOf yX4_addOf, Cond.code yX4_addOf cX4_addOf 3 (some .int), Cond.fieldLink RX4 18 "Urnwright$Urn" "adds" "[I", Cond.instanceMethod yX1_pathOfUnfair, Cond.selects RX1 yX1_pathOfUnfair yX1_pathOfUnfair, Cond.code yX1_pathOfUnfair cX1_pathOfUnfair 6 (some .int)]
def wsX5_unfair : List Cond := .code yX5_unfair cX5_unfair 4 (some .int) :: ((wsX5_unfair_r1 ++ (wsX5_unfair_r2 ++ wsX5_unfair_r3)) ++ wsX50 ++ wsX40 ++ wsX10 ++ (vx_atS RX5 235 "java/lang/IndexOutOfBoundsException" ["java/lang/RuntimeException", "java/lang/Exception"]).filter goodWord ++ (vx_atS RX5 50 "java/lang/IllegalArgumentException" ["java/lang/RuntimeException", "java/lang/Exception"]).filter goodWord)
def wsX5_ordered_r1 : List Cond := [Cond.fieldLink RX5 24 "Urnwright" "game" "LUrnwright$Game;", Cond.methodLink RX5 65 yX5_urnOf, Cond.instanceMethod yX5_urnOf, Cond.selects RX5 yX5_urnOf yX5_urnOf, Cond.initialized RX5, Cond.code yX5_urnOf cX5_urnOf 3 (some (.object "Urnwright$Urn")), Cond.classLink RX5 231 "java/lang/IndexOutOfBoundsException", Cond.initialized "java/lang/IndexOutOfBoundsException", Cond.fieldLink RX5 11 "Urnwright" "urns" "[LUrnwright$Urn;", Cond.methodLink RX5 165 yX5_openGame, Cond.instanceMethod yX5_openGame, Cond.selects RX5 yX5_openGame yX5_openGame, Cond.code yX5_openGame cX5_openGame 3 none, Cond.classLink RX5 46 "java/lang/IllegalArgumentException", Cond.initialized "java/lang/IllegalArgumentException", Cond.instanceMethod yX4_mostSteps, Cond.initialized RX4, Cond.selects RX4 yX4_mostSteps yX4_mostSteps, Cond.code yX4_mostSteps cX4_mostSteps 1 (some .int), Cond.fieldLink RX4 24 "Urnwright$Urn" "growth" "I", Cond.methodLink RX4 36 Lib.Math.min.name, Cond.static Lib.Math.min.name, Cond.initialized "java/lang/Math", Cond.code Lib.Math.min.name Lib.Math.min.code 2 (some .int)]
def wsX5_ordered_r2 : List Cond := [Cond.methodLink RX4 32 yX4_countAll, Cond.instanceMethod yX4_countAll, Cond.selects RX4 yX4_countAll yX4_countAll, Cond.code yX4_countAll cX4_countAll 1 (some .int), Cond.fieldLink RX4 9 "Urnwright$Urn" "counts" "[I", Cond.static yX5_at, Cond.code yX5_at cX5_at 2 (some .int), Cond.methodLink RX5 42 yX5_isWithin, Cond.static yX5_isWithin, Cond.code yX5_isWithin cX5_isWithin 3 (some .boolean), Cond.instanceMethod yX1_open, Cond.initialized RX1, Cond.selects RX1 yX1_open yX1_open, Cond.code yX1_open cX1_open 6 none, Cond.methodLink RX1 32 Lib.Math.min.name, Cond.fieldLink RX1 38 "Urnwright$Game" "steps" "I", Cond.fieldLink RX1 48 "Urnwright$Game" "total" "I", Cond.fieldLink RX1 54 "Urnwright$Game" "growth" "I", Cond.fieldLink RX1 9 "Urnwright$Game" "ways" "[J", Cond.fieldLink RX1 22 "Urnwright$Game" "counts" "[I", Cond.static yX5_put_, Cond.code yX5_put_ cX5_put_ 4 none, Cond.static yX5_put, Cond.code yX5_put cX5_put 3 none]
def wsX5_ordered_r3 : List Cond := [Cond.static yX5_firstWith, Cond.code yX5_firstWith cX5_firstWith 3 (some .int), Cond.methodLink RX1 71 yX1_grow, Cond.instanceMethod yX1_grow, Cond.selects RX1 yX1_grow yX1_grow, Cond.code yX1_grow cX1_grow 6 none, Cond.fieldLink RX1 15 "Urnwright$Game" "yields" "[I", Cond.fieldLink RX1 19 "Urnwright$Game" "paths" "[I", Cond.static yX5_behind, Cond.code yX5_behind cX5_behind 2 (some .int), Cond.static yX5_at_, Cond.code yX5_at_ cX5_at_ 2 (some .long), Cond.methodLink RX1 81 yX1_countAt, Cond.instanceMethod yX1_countAt, Cond.selects RX1 yX1_countAt yX1_countAt, Cond.code yX1_countAt cX1_countAt 3 (some .int), Cond.instanceMethod yX4_addOf, Cond.selects RX4 yX4_addOf yX4_addOf, Cond.code yX4_addOf cX4_addOf 3 (some .int), Cond.fieldLink RX4 18 "Urnwright$Urn" "adds" "[I", Cond.instanceMethod yX1_pathWithOrder, Cond.selects RX1 yX1_pathWithOrder yX1_pathWithOrder, Cond.code yX1_pathWithOrder cX1_pathWithOrder 4 (some .int), Cond.methodLink RX1 105 yX1_hasOrder]
def wsX5_ordered_r4 : List Cond := [Cond.instanceMethod yX1_hasOrder, Cond.selects RX1 yX1_hasOrder yX1_hasOrder, Cond.code yX1_hasOrder cX1_hasOrder 9 (some .boolean)]
def wsX5_ordered : List Cond := .code yX5_ordered cX5_ordered 3 (some .int) :: ((wsX5_ordered_r1 ++ (wsX5_ordered_r2 ++ (wsX5_ordered_r3 ++ wsX5_ordered_r4))) ++ wsX50 ++ wsX40 ++ wsX10 ++ (vx_atS RX5 235 "java/lang/IndexOutOfBoundsException" ["java/lang/RuntimeException", "java/lang/Exception"]).filter goodWord ++ (vx_atS RX5 50 "java/lang/IllegalArgumentException" ["java/lang/RuntimeException", "java/lang/Exception"]).filter goodWord)
def wsX5_given_r1 : List Cond := [Cond.classLink RX5 46 "java/lang/IllegalArgumentException", Cond.initialized "java/lang/IllegalArgumentException", Cond.classLink RX5 57 "java/lang/IllegalStateException", Cond.initialized "java/lang/IllegalStateException", Cond.fieldLink RX5 24 "Urnwright" "game" "LUrnwright$Game;", Cond.methodLink RX5 65 yX5_urnOf, Cond.instanceMethod yX5_urnOf, Cond.selects RX5 yX5_urnOf yX5_urnOf, Cond.initialized RX5, Cond.code yX5_urnOf cX5_urnOf 3 (some (.object "Urnwright$Urn")), Cond.classLink RX5 231 "java/lang/IndexOutOfBoundsException", Cond.initialized "java/lang/IndexOutOfBoundsException", Cond.fieldLink RX5 11 "Urnwright" "urns" "[LUrnwright$Urn;", Cond.methodLink RX5 69 yX5_lookAtColour, Cond.static yX5_lookAtColour, Cond.code yX5_lookAtColour cX5_lookAtColour 1 none, Cond.methodLink RX5 42 yX5_isWithin, Cond.static yX5_isWithin, Cond.code yX5_isWithin cX5_isWithin 3 (some .boolean), Cond.methodLink RX5 165 yX5_openGame, Cond.instanceMethod yX5_openGame, Cond.selects RX5 yX5_openGame yX5_openGame, Cond.code yX5_openGame cX5_openGame 3 none, Cond.instanceMethod yX4_mostSteps]
def wsX5_given_r2 : List Cond := [Cond.initialized RX4, Cond.selects RX4 yX4_mostSteps yX4_mostSteps, Cond.code yX4_mostSteps cX4_mostSteps 1 (some .int), Cond.fieldLink RX4 24 "Urnwright$Urn" "growth" "I", Cond.methodLink RX4 36 Lib.Math.min.name, Cond.static Lib.Math.min.name, Cond.initialized "java/lang/Math", Cond.code Lib.Math.min.name Lib.Math.min.code 2 (some .int), Cond.methodLink RX4 32 yX4_countAll, Cond.instanceMethod yX4_countAll, Cond.selects RX4 yX4_countAll yX4_countAll, Cond.code yX4_countAll cX4_countAll 1 (some .int), Cond.fieldLink RX4 9 "Urnwright$Urn" "counts" "[I", Cond.static yX5_at, Cond.code yX5_at cX5_at 2 (some .int), Cond.instanceMethod yX1_open, Cond.initialized RX1, Cond.selects RX1 yX1_open yX1_open, Cond.code yX1_open cX1_open 6 none, Cond.methodLink RX1 32 Lib.Math.min.name, Cond.fieldLink RX1 38 "Urnwright$Game" "steps" "I", Cond.fieldLink RX1 48 "Urnwright$Game" "total" "I", Cond.fieldLink RX1 54 "Urnwright$Game" "growth" "I", Cond.fieldLink RX1 9 "Urnwright$Game" "ways" "[J"]
def wsX5_given_r3 : List Cond := [Cond.fieldLink RX1 22 "Urnwright$Game" "counts" "[I", Cond.static yX5_put_, Cond.code yX5_put_ cX5_put_ 4 none, Cond.static yX5_put, Cond.code yX5_put cX5_put 3 none, Cond.static yX5_firstWith, Cond.code yX5_firstWith cX5_firstWith 3 (some .int), Cond.methodLink RX1 71 yX1_grow, Cond.instanceMethod yX1_grow, Cond.selects RX1 yX1_grow yX1_grow, Cond.code yX1_grow cX1_grow 6 none, Cond.fieldLink RX1 15 "Urnwright$Game" "yields" "[I", Cond.fieldLink RX1 19 "Urnwright$Game" "paths" "[I", Cond.static yX5_behind, Cond.code yX5_behind cX5_behind 2 (some .int), Cond.static yX5_at_, Cond.code yX5_at_ cX5_at_ 2 (some .long), Cond.methodLink RX1 81 yX1_countAt, Cond.instanceMethod yX1_countAt, Cond.selects RX1 yX1_countAt yX1_countAt, Cond.code yX1_countAt cX1_countAt 3 (some .int), Cond.instanceMethod yX4_addOf, Cond.selects RX4 yX4_addOf yX4_addOf, Cond.code yX4_addOf cX4_addOf 3 (some .int)]
def wsX5_given_r4 : List Cond := [Cond.fieldLink RX4 18 "Urnwright$Urn" "adds" "[I", Cond.instanceMethod yX1_sumOfPowersWith, Cond.selects RX1 yX1_sumOfPowersWith yX1_sumOfPowersWith, Cond.code yX1_sumOfPowersWith cX1_sumOfPowersWith 8 (some .long), Cond.static yX5_timesIn, Cond.code yX5_timesIn cX5_timesIn 5 (some .int), Cond.static yX5_power, Cond.code yX5_power cX5_power 5 (some .long), Cond.methodLink RX5 161 yX5_part, Cond.static yX5_part, Cond.code yX5_part cX5_part 9 (some .long), Cond.methodLink RX5 358 Lib.MathLoose.abs_long.x, Cond.static Lib.MathLoose.abs_long.x, Cond.code Lib.MathLoose.abs_long.x Lib.MathLoose.abs_long.code 2 (some .long), Cond.methodLink RX5 361 yX5_sharedDivisor, Cond.static yX5_sharedDivisor, Cond.code yX5_sharedDivisor cX5_sharedDivisor 11 (some .long)]
def wsX5_given : List Cond := .code yX5_given cX5_given 9 (some .long) :: ((wsX5_given_r1 ++ (wsX5_given_r2 ++ (wsX5_given_r3 ++ wsX5_given_r4))) ++ wsX50 ++ wsX40 ++ wsX10 ++ (vx_atS RX5 50 "java/lang/IllegalArgumentException" ["java/lang/RuntimeException", "java/lang/Exception"]).filter goodWord ++ (vx_atS RX5 61 "java/lang/IllegalStateException" ["java/lang/RuntimeException", "java/lang/Exception"]).filter goodWord ++ (vx_atS RX5 235 "java/lang/IndexOutOfBoundsException" ["java/lang/RuntimeException", "java/lang/Exception"]).filter goodWord)
def wsX5_stopped_r1 : List Cond := [Cond.fieldLink RX5 24 "Urnwright" "game" "LUrnwright$Game;", Cond.methodLink RX5 65 yX5_urnOf, Cond.instanceMethod yX5_urnOf, Cond.selects RX5 yX5_urnOf yX5_urnOf, Cond.initialized RX5, Cond.code yX5_urnOf cX5_urnOf 3 (some (.object "Urnwright$Urn")), Cond.classLink RX5 231 "java/lang/IndexOutOfBoundsException", Cond.initialized "java/lang/IndexOutOfBoundsException", Cond.fieldLink RX5 11 "Urnwright" "urns" "[LUrnwright$Urn;", Cond.methodLink RX5 165 yX5_openGame, Cond.instanceMethod yX5_openGame, Cond.selects RX5 yX5_openGame yX5_openGame, Cond.code yX5_openGame cX5_openGame 3 none, Cond.classLink RX5 46 "java/lang/IllegalArgumentException", Cond.initialized "java/lang/IllegalArgumentException", Cond.instanceMethod yX4_mostSteps, Cond.initialized RX4, Cond.selects RX4 yX4_mostSteps yX4_mostSteps, Cond.code yX4_mostSteps cX4_mostSteps 1 (some .int), Cond.fieldLink RX4 24 "Urnwright$Urn" "growth" "I", Cond.methodLink RX4 36 Lib.Math.min.name, Cond.static Lib.Math.min.name, Cond.initialized "java/lang/Math", Cond.code Lib.Math.min.name Lib.Math.min.code 2 (some .int)]
def wsX5_stopped_r2 : List Cond := [Cond.methodLink RX4 32 yX4_countAll, Cond.instanceMethod yX4_countAll, Cond.selects RX4 yX4_countAll yX4_countAll, Cond.code yX4_countAll cX4_countAll 1 (some .int), Cond.fieldLink RX4 9 "Urnwright$Urn" "counts" "[I", Cond.static yX5_at, Cond.code yX5_at cX5_at 2 (some .int), Cond.methodLink RX5 42 yX5_isWithin, Cond.static yX5_isWithin, Cond.code yX5_isWithin cX5_isWithin 3 (some .boolean), Cond.instanceMethod yX1_open, Cond.initialized RX1, Cond.selects RX1 yX1_open yX1_open, Cond.code yX1_open cX1_open 6 none, Cond.methodLink RX1 32 Lib.Math.min.name, Cond.fieldLink RX1 38 "Urnwright$Game" "steps" "I", Cond.fieldLink RX1 48 "Urnwright$Game" "total" "I", Cond.fieldLink RX1 54 "Urnwright$Game" "growth" "I", Cond.fieldLink RX1 9 "Urnwright$Game" "ways" "[J", Cond.fieldLink RX1 22 "Urnwright$Game" "counts" "[I", Cond.static yX5_put_, Cond.code yX5_put_ cX5_put_ 4 none, Cond.static yX5_put, Cond.code yX5_put cX5_put 3 none]
def wsX5_stopped_r3 : List Cond := [Cond.static yX5_firstWith, Cond.code yX5_firstWith cX5_firstWith 3 (some .int), Cond.methodLink RX1 71 yX1_grow, Cond.instanceMethod yX1_grow, Cond.selects RX1 yX1_grow yX1_grow, Cond.code yX1_grow cX1_grow 6 none, Cond.fieldLink RX1 15 "Urnwright$Game" "yields" "[I", Cond.fieldLink RX1 19 "Urnwright$Game" "paths" "[I", Cond.static yX5_behind, Cond.code yX5_behind cX5_behind 2 (some .int), Cond.static yX5_at_, Cond.code yX5_at_ cX5_at_ 2 (some .long), Cond.methodLink RX1 81 yX1_countAt, Cond.instanceMethod yX1_countAt, Cond.selects RX1 yX1_countAt yX1_countAt, Cond.code yX1_countAt cX1_countAt 3 (some .int), Cond.instanceMethod yX4_addOf, Cond.selects RX4 yX4_addOf yX4_addOf, Cond.code yX4_addOf cX4_addOf 3 (some .int), Cond.fieldLink RX4 18 "Urnwright$Urn" "adds" "[I", Cond.instanceMethod yX1_sumStopped, Cond.selects RX1 yX1_sumStopped yX1_sumStopped, Cond.code yX1_sumStopped cX1_sumStopped 12 (some .long), Cond.fieldLink RX1 28 "Urnwright$Game" "isOver" "[Z"]
def wsX5_stopped_r4 : List Cond := [Cond.methodLink RX1 109 yX1_waysFrom, Cond.instanceMethod yX1_waysFrom, Cond.selects RX1 yX1_waysFrom yX1_waysFrom, Cond.code yX1_waysFrom cX1_waysFrom 5 (some .long), Cond.static yX5_at__, Cond.code yX5_at__ cX5_at__ 2 (some .boolean), Cond.instanceMethod yX4_isStopAt, Cond.selects RX4 yX4_isStopAt yX4_isStopAt, Cond.code yX4_isStopAt cX4_isStopAt 3 (some .boolean), Cond.fieldLink RX4 58 "Urnwright$Urn" "stopKind" "I", Cond.fieldLink RX4 61 "Urnwright$Urn" "stopNumber" "I", Cond.methodLink RX4 64 yX4_isOften, Cond.instanceMethod yX4_isOften, Cond.selects RX4 yX4_isOften yX4_isOften, Cond.code yX4_isOften cX4_isOften 3 (some .boolean), Cond.static yX5_timesIn, Cond.code yX5_timesIn cX5_timesIn 5 (some .int), Cond.static yX5_put__, Cond.code yX5_put__ cX5_put__ 3 none, Cond.methodLink RX5 161 yX5_part, Cond.static yX5_part, Cond.code yX5_part cX5_part 9 (some .long), Cond.methodLink RX5 358 Lib.MathLoose.abs_long.x, Cond.static Lib.MathLoose.abs_long.x]
def wsX5_stopped_r5 : List Cond := [Cond.code Lib.MathLoose.abs_long.x Lib.MathLoose.abs_long.code 2 (some .long), Cond.methodLink RX5 361 yX5_sharedDivisor, Cond.static yX5_sharedDivisor, Cond.code yX5_sharedDivisor cX5_sharedDivisor 11 (some .long)]
def wsX5_stopped : List Cond := .code yX5_stopped cX5_stopped 6 (some .long) :: ((wsX5_stopped_r1 ++ (wsX5_stopped_r2 ++ (wsX5_stopped_r3 ++ (wsX5_stopped_r4 ++ wsX5_stopped_r5)))) ++ wsX50 ++ wsX40 ++ wsX10 ++ (vx_atS RX5 235 "java/lang/IndexOutOfBoundsException" ["java/lang/RuntimeException", "java/lang/Exception"]).filter goodWord ++ (vx_atS RX5 50 "java/lang/IllegalArgumentException" ["java/lang/RuntimeException", "java/lang/Exception"]).filter goodWord)
def wsX5_lookAtStrike : List Cond := .code yX5_lookAtStrike cX5_lookAtStrike 1 none :: ([.classLink RX5 46 "java/lang/IllegalArgumentException", .initialized "java/lang/IllegalArgumentException", .methodLink RX5 42 yX5_isWithin, .static yX5_isWithin, .initialized RX5, .code yX5_isWithin cX5_isWithin 3 (some .boolean)] ++ (vx_atS RX5 50 "java/lang/IllegalArgumentException" ["java/lang/RuntimeException", "java/lang/Exception"]).filter goodWord)
def wsX5_worth_r1 : List Cond := [Cond.fieldLink RX5 24 "Urnwright" "game" "LUrnwright$Game;", Cond.methodLink RX5 65 yX5_urnOf, Cond.instanceMethod yX5_urnOf, Cond.selects RX5 yX5_urnOf yX5_urnOf, Cond.initialized RX5, Cond.code yX5_urnOf cX5_urnOf 3 (some (.object "Urnwright$Urn")), Cond.classLink RX5 231 "java/lang/IndexOutOfBoundsException", Cond.initialized "java/lang/IndexOutOfBoundsException", Cond.fieldLink RX5 11 "Urnwright" "urns" "[LUrnwright$Urn;", Cond.methodLink RX5 165 yX5_openGame, Cond.instanceMethod yX5_openGame, Cond.selects RX5 yX5_openGame yX5_openGame, Cond.code yX5_openGame cX5_openGame 3 none, Cond.classLink RX5 46 "java/lang/IllegalArgumentException", Cond.initialized "java/lang/IllegalArgumentException", Cond.instanceMethod yX4_mostSteps, Cond.initialized RX4, Cond.selects RX4 yX4_mostSteps yX4_mostSteps, Cond.code yX4_mostSteps cX4_mostSteps 1 (some .int), Cond.fieldLink RX4 24 "Urnwright$Urn" "growth" "I", Cond.methodLink RX4 36 Lib.Math.min.name, Cond.static Lib.Math.min.name, Cond.initialized "java/lang/Math", Cond.code Lib.Math.min.name Lib.Math.min.code 2 (some .int)]
def wsX5_worth_r2 : List Cond := [Cond.methodLink RX4 32 yX4_countAll, Cond.instanceMethod yX4_countAll, Cond.selects RX4 yX4_countAll yX4_countAll, Cond.code yX4_countAll cX4_countAll 1 (some .int), Cond.fieldLink RX4 9 "Urnwright$Urn" "counts" "[I", Cond.static yX5_at, Cond.code yX5_at cX5_at 2 (some .int), Cond.methodLink RX5 42 yX5_isWithin, Cond.static yX5_isWithin, Cond.code yX5_isWithin cX5_isWithin 3 (some .boolean), Cond.instanceMethod yX1_open, Cond.initialized RX1, Cond.selects RX1 yX1_open yX1_open, Cond.code yX1_open cX1_open 6 none, Cond.methodLink RX1 32 Lib.Math.min.name, Cond.fieldLink RX1 38 "Urnwright$Game" "steps" "I", Cond.fieldLink RX1 48 "Urnwright$Game" "total" "I", Cond.fieldLink RX1 54 "Urnwright$Game" "growth" "I", Cond.fieldLink RX1 9 "Urnwright$Game" "ways" "[J", Cond.fieldLink RX1 22 "Urnwright$Game" "counts" "[I", Cond.static yX5_put_, Cond.code yX5_put_ cX5_put_ 4 none, Cond.static yX5_put, Cond.code yX5_put cX5_put 3 none]
def wsX5_worth_r3 : List Cond := [Cond.static yX5_firstWith, Cond.code yX5_firstWith cX5_firstWith 3 (some .int), Cond.methodLink RX1 71 yX1_grow, Cond.instanceMethod yX1_grow, Cond.selects RX1 yX1_grow yX1_grow, Cond.code yX1_grow cX1_grow 6 none, Cond.fieldLink RX1 15 "Urnwright$Game" "yields" "[I", Cond.fieldLink RX1 19 "Urnwright$Game" "paths" "[I", Cond.static yX5_behind, Cond.code yX5_behind cX5_behind 2 (some .int), Cond.static yX5_at_, Cond.code yX5_at_ cX5_at_ 2 (some .long), Cond.methodLink RX1 81 yX1_countAt, Cond.instanceMethod yX1_countAt, Cond.selects RX1 yX1_countAt yX1_countAt, Cond.code yX1_countAt cX1_countAt 3 (some .int), Cond.instanceMethod yX4_addOf, Cond.selects RX4 yX4_addOf yX4_addOf, Cond.code yX4_addOf cX4_addOf 3 (some .int), Cond.fieldLink RX4 18 "Urnwright$Urn" "adds" "[I", Cond.methodLink RX5 194 yX5_lookAtStrike, Cond.static yX5_lookAtStrike, Cond.code yX5_lookAtStrike cX5_lookAtStrike 1 none, Cond.instanceMethod yX1_weigh]
def wsX5_worth_r4 : List Cond := [Cond.selects RX1 yX1_weigh yX1_weigh, Cond.code yX1_weigh cX1_weigh 13 (some .int), Cond.fieldLink RX1 25 "Urnwright$Game" "worths" "[J", Cond.methodLink RX1 128 Lib.MathLoose.max_long.x, Cond.static Lib.MathLoose.max_long.x, Cond.code Lib.MathLoose.max_long.x Lib.MathLoose.max_long.code 4 (some .long), Cond.methodLink RX1 122 yX1_prizeAt, Cond.instanceMethod yX1_prizeAt, Cond.selects RX1 yX1_prizeAt yX1_prizeAt, Cond.code yX1_prizeAt cX1_prizeAt 3 (some .long), Cond.methodLink RX1 132 Lib.Math.max.name, Cond.static Lib.Math.max.name, Cond.code Lib.Math.max.name Lib.Math.max.code 2 (some .int), Cond.methodLink RX1 109 yX1_waysFrom, Cond.instanceMethod yX1_waysFrom, Cond.selects RX1 yX1_waysFrom yX1_waysFrom, Cond.code yX1_waysFrom cX1_waysFrom 5 (some .long), Cond.methodLink RX1 125 yX1_worthBehind, Cond.instanceMethod yX1_worthBehind, Cond.selects RX1 yX1_worthBehind yX1_worthBehind, Cond.code yX1_worthBehind cX1_worthBehind 5 (some .long), Cond.methodLink RX5 154 yX5_at_, Cond.methodLink RX5 161 yX5_part, Cond.static yX5_part]
def wsX5_worth_r5 : List Cond := [Cond.code yX5_part cX5_part 9 (some .long), Cond.methodLink RX5 358 Lib.MathLoose.abs_long.x, Cond.static Lib.MathLoose.abs_long.x, Cond.code Lib.MathLoose.abs_long.x Lib.MathLoose.abs_long.code 2 (some .long), Cond.methodLink RX5 361 yX5_sharedDivisor, Cond.static yX5_sharedDivisor, Cond.code yX5_sharedDivisor cX5_sharedDivisor 11 (some .long)]
def wsX5_worth : List Cond := .code yX5_worth cX5_worth 6 (some .long) :: ((wsX5_worth_r1 ++ (wsX5_worth_r2 ++ (wsX5_worth_r3 ++ (wsX5_worth_r4 ++ wsX5_worth_r5)))) ++ wsX50 ++ wsX10 ++ wsX40 ++ (vx_atS RX5 235 "java/lang/IndexOutOfBoundsException" ["java/lang/RuntimeException", "java/lang/Exception"]).filter goodWord ++ (vx_atS RX5 50 "java/lang/IllegalArgumentException" ["java/lang/RuntimeException", "java/lang/Exception"]).filter goodWord)
def wsX5_slack_r1 : List Cond := [Cond.classLink RX5 46 "java/lang/IllegalArgumentException", Cond.initialized "java/lang/IllegalArgumentException", Cond.fieldLink RX5 24 "Urnwright" "game" "LUrnwright$Game;", Cond.methodLink RX5 205 Lib.MathLoose.min_long.x, Cond.static Lib.MathLoose.min_long.x, Cond.initialized "java/lang/Math", Cond.code Lib.MathLoose.min_long.x Lib.MathLoose.min_long.code 4 (some .long), Cond.methodLink RX5 65 yX5_urnOf, Cond.instanceMethod yX5_urnOf, Cond.selects RX5 yX5_urnOf yX5_urnOf, Cond.initialized RX5, Cond.code yX5_urnOf cX5_urnOf 3 (some (.object "Urnwright$Urn")), Cond.classLink RX5 231 "java/lang/IndexOutOfBoundsException", Cond.initialized "java/lang/IndexOutOfBoundsException", Cond.fieldLink RX5 11 "Urnwright" "urns" "[LUrnwright$Urn;", Cond.methodLink RX5 165 yX5_openGame, Cond.instanceMethod yX5_openGame, Cond.selects RX5 yX5_openGame yX5_openGame, Cond.code yX5_openGame cX5_openGame 3 none, Cond.instanceMethod yX4_mostSteps, Cond.initialized RX4, Cond.selects RX4 yX4_mostSteps yX4_mostSteps, Cond.code yX4_mostSteps cX4_mostSteps 1 (some .int), Cond.fieldLink RX4 24 "Urnwright$Urn" "growth" "I"]
def wsX5_slack_r2 : List Cond := [Cond.methodLink RX4 36 Lib.Math.min.name, Cond.static Lib.Math.min.name, Cond.code Lib.Math.min.name Lib.Math.min.code 2 (some .int), Cond.methodLink RX4 32 yX4_countAll, Cond.instanceMethod yX4_countAll, Cond.selects RX4 yX4_countAll yX4_countAll, Cond.code yX4_countAll cX4_countAll 1 (some .int), Cond.fieldLink RX4 9 "Urnwright$Urn" "counts" "[I", Cond.static yX5_at, Cond.code yX5_at cX5_at 2 (some .int), Cond.methodLink RX5 42 yX5_isWithin, Cond.static yX5_isWithin, Cond.code yX5_isWithin cX5_isWithin 3 (some .boolean), Cond.instanceMethod yX1_open, Cond.initialized RX1, Cond.selects RX1 yX1_open yX1_open, Cond.code yX1_open cX1_open 6 none, Cond.methodLink RX1 32 Lib.Math.min.name, Cond.fieldLink RX1 38 "Urnwright$Game" "steps" "I", Cond.fieldLink RX1 48 "Urnwright$Game" "total" "I", Cond.fieldLink RX1 54 "Urnwright$Game" "growth" "I", Cond.fieldLink RX1 9 "Urnwright$Game" "ways" "[J", Cond.fieldLink RX1 22 "Urnwright$Game" "counts" "[I", Cond.static yX5_put_]
def wsX5_slack_r3 : List Cond := [Cond.code yX5_put_ cX5_put_ 4 none, Cond.static yX5_put, Cond.code yX5_put cX5_put 3 none, Cond.static yX5_firstWith, Cond.code yX5_firstWith cX5_firstWith 3 (some .int), Cond.methodLink RX1 71 yX1_grow, Cond.instanceMethod yX1_grow, Cond.selects RX1 yX1_grow yX1_grow, Cond.code yX1_grow cX1_grow 6 none, Cond.fieldLink RX1 15 "Urnwright$Game" "yields" "[I", Cond.fieldLink RX1 19 "Urnwright$Game" "paths" "[I", Cond.static yX5_behind, Cond.code yX5_behind cX5_behind 2 (some .int), Cond.static yX5_at_, Cond.code yX5_at_ cX5_at_ 2 (some .long), Cond.methodLink RX1 81 yX1_countAt, Cond.instanceMethod yX1_countAt, Cond.selects RX1 yX1_countAt yX1_countAt, Cond.code yX1_countAt cX1_countAt 3 (some .int), Cond.instanceMethod yX4_addOf, Cond.selects RX4 yX4_addOf yX4_addOf, Cond.code yX4_addOf cX4_addOf 3 (some .int), Cond.fieldLink RX4 18 "Urnwright$Urn" "adds" "[I", Cond.instanceMethod yX1_waysFrom]
def wsX5_slack_r4 : List Cond := [Cond.selects RX1 yX1_waysFrom yX1_waysFrom, Cond.code yX1_waysFrom cX1_waysFrom 5 (some .long), Cond.instanceMethod yX1_sumOfPowers, Cond.selects RX1 yX1_sumOfPowers yX1_sumOfPowers, Cond.code yX1_sumOfPowers cX1_sumOfPowers 2 (some .long), Cond.methodLink RX1 94 yX1_sumOfPowersWith, Cond.instanceMethod yX1_sumOfPowersWith, Cond.selects RX1 yX1_sumOfPowersWith yX1_sumOfPowersWith, Cond.code yX1_sumOfPowersWith cX1_sumOfPowersWith 8 (some .long), Cond.static yX5_timesIn, Cond.code yX5_timesIn cX5_timesIn 5 (some .int), Cond.static yX5_power, Cond.code yX5_power cX5_power 5 (some .long), Cond.instanceMethod yX1_waysBetween, Cond.selects RX1 yX1_waysBetween yX1_waysBetween, Cond.code yX1_waysBetween cX1_waysBetween 7 (some .long), Cond.methodLink RX5 161 yX5_part, Cond.static yX5_part, Cond.code yX5_part cX5_part 9 (some .long), Cond.methodLink RX5 358 Lib.MathLoose.abs_long.x, Cond.static Lib.MathLoose.abs_long.x, Cond.code Lib.MathLoose.abs_long.x Lib.MathLoose.abs_long.code 2 (some .long), Cond.methodLink RX5 361 yX5_sharedDivisor, Cond.static yX5_sharedDivisor]
def wsX5_slack_r5 : List Cond := [Cond.code yX5_sharedDivisor cX5_sharedDivisor 11 (some .long)]
def wsX5_slack : List Cond := .code yX5_slack cX5_slack 14 (some .long) :: ((wsX5_slack_r1 ++ (wsX5_slack_r2 ++ (wsX5_slack_r3 ++ (wsX5_slack_r4 ++ wsX5_slack_r5)))) ++ wsX50 ++ wsX40 ++ wsX10 ++ (vx_atS RX5 50 "java/lang/IllegalArgumentException" ["java/lang/RuntimeException", "java/lang/Exception"]).filter goodWord ++ (vx_atS RX5 235 "java/lang/IndexOutOfBoundsException" ["java/lang/RuntimeException", "java/lang/Exception"]).filter goodWord)
def wsX5_walk : List Cond := .code yX5_walk cX5_walk 11 (some .long) :: ([.classLink RX5 46 "java/lang/IllegalArgumentException", .initialized "java/lang/IllegalArgumentException", .methodLink RX5 42 yX5_isWithin, .static yX5_isWithin, .initialized RX5, .code yX5_isWithin cX5_isWithin 3 (some .boolean), .methodLink RX5 161 yX5_part, .static yX5_part, .code yX5_part cX5_part 9 (some .long), .methodLink RX5 358 Lib.MathLoose.abs_long.x, .static Lib.MathLoose.abs_long.x, .initialized "java/lang/Math", .code Lib.MathLoose.abs_long.x Lib.MathLoose.abs_long.code 2 (some .long), .methodLink RX5 361 yX5_sharedDivisor, .static yX5_sharedDivisor, .code yX5_sharedDivisor cX5_sharedDivisor 11 (some .long), .methodLink RX5 213 yX5_power, .static yX5_power, .code yX5_power cX5_power 5 (some .long)] ++ (vx_atS RX5 50 "java/lang/IllegalArgumentException" ["java/lang/RuntimeException", "java/lang/Exception"]).filter goodWord)
def wsX5_rowOf : List Cond := .code yX5_rowOf cX5_rowOf 3 (some (.object "Urnwright$Row")) :: ([.classLink RX5 231 "java/lang/IndexOutOfBoundsException", .initialized "java/lang/IndexOutOfBoundsException", .fieldLink RX5 17 "Urnwright" "rows" "[LUrnwright$Row;"] ++ wsX50 ++ (vx_atS RX5 235 "java/lang/IndexOutOfBoundsException" ["java/lang/RuntimeException", "java/lang/Exception"]).filter goodWord)
def wsX5_distance_r1 : List Cond := [Cond.methodLink RX5 226 Lib.Math.abs.name, Cond.static Lib.Math.abs.name, Cond.initialized "java/lang/Math", Cond.code Lib.Math.abs.name Lib.Math.abs.code 1 (some .int), Cond.constantLong RX5 229 (2), Cond.methodLink RX5 216 yX5_rowOf, Cond.instanceMethod yX5_rowOf, Cond.selects RX5 yX5_rowOf yX5_rowOf, Cond.initialized RX5, Cond.code yX5_rowOf cX5_rowOf 3 (some (.object "Urnwright$Row")), Cond.classLink RX5 231 "java/lang/IndexOutOfBoundsException", Cond.initialized "java/lang/IndexOutOfBoundsException", Cond.fieldLink RX5 17 "Urnwright" "rows" "[LUrnwright$Row;", Cond.methodLink RX5 95 yX5_at, Cond.static yX5_at, Cond.code yX5_at cX5_at 2 (some .int), Cond.methodLink RX5 161 yX5_part, Cond.static yX5_part, Cond.code yX5_part cX5_part 9 (some .long), Cond.methodLink RX5 358 Lib.MathLoose.abs_long.x, Cond.static Lib.MathLoose.abs_long.x, Cond.code Lib.MathLoose.abs_long.x Lib.MathLoose.abs_long.code 2 (some .long), Cond.methodLink RX5 361 yX5_sharedDivisor, Cond.static yX5_sharedDivisor]
def wsX5_distance_r2 : List Cond := [Cond.code yX5_sharedDivisor cX5_sharedDivisor 11 (some .long)]
def wsX5_distance : List Cond := .code yX5_distance cX5_distance 9 (some .long) :: ((wsX5_distance_r1 ++ wsX5_distance_r2) ++ wsX20 ++ wsX50 ++ (vx_atS RX5 235 "java/lang/IndexOutOfBoundsException" ["java/lang/RuntimeException", "java/lang/Exception"]).filter goodWord)
def wsX5_table_r1 : List Cond := [Cond.classLink RX5 231 "java/lang/IndexOutOfBoundsException", Cond.initialized "java/lang/IndexOutOfBoundsException", Cond.fieldLink RX5 31 "Urnwright" "sides" "LUrnwright$Sides;", Cond.methodLink RX5 216 yX5_rowOf, Cond.instanceMethod yX5_rowOf, Cond.selects RX5 yX5_rowOf yX5_rowOf, Cond.initialized RX5, Cond.code yX5_rowOf cX5_rowOf 3 (some (.object "Urnwright$Row")), Cond.fieldLink RX5 17 "Urnwright" "rows" "[LUrnwright$Row;", Cond.methodLink RX5 42 yX5_isWithin, Cond.static yX5_isWithin, Cond.code yX5_isWithin cX5_isWithin 3 (some .boolean), Cond.instanceMethod yX3_lay, Cond.initialized RX3, Cond.selects RX3 yX3_lay yX3_lay, Cond.code yX3_lay cX3_lay 4 none, Cond.fieldLink RX3 9 "Urnwright$Sides" "left" "[I", Cond.fieldLink RX3 15 "Urnwright$Sides" "itsLeft" "[I", Cond.static yX5_at, Cond.code yX5_at cX5_at 2 (some .int), Cond.static yX5_put, Cond.code yX5_put cX5_put 3 none, Cond.instanceMethod yX3_stay, Cond.selects RX3 yX3_stay yX3_stay]
def wsX5_table_r2 : List Cond := [Cond.code yX3_stay cX3_stay 6 (some .int), Cond.methodLink RX3 41 yX3_move, Cond.instanceMethod yX3_move, Cond.selects RX3 yX3_move yX3_move, Cond.code yX3_move cX3_move 4 (some .int), Cond.methodLink RX3 35 Lib.Math.min.name, Cond.static Lib.Math.min.name, Cond.initialized "java/lang/Math", Cond.code Lib.Math.min.name Lib.Math.min.code 2 (some .int), Cond.instanceMethod yX3_step, Cond.selects RX3 yX3_step yX3_step, Cond.code yX3_step cX3_step 8 (some .int)]
def wsX5_table : List Cond := .code yX5_table cX5_table 9 (some .int) :: ((wsX5_table_r1 ++ wsX5_table_r2) ++ wsX50 ++ wsX30 ++ wsX20 ++ (vx_atS RX5 235 "java/lang/IndexOutOfBoundsException" ["java/lang/RuntimeException", "java/lang/Exception"]).filter goodWord)
def wsX5_isAbove : List Cond := .code yX5_isAbove cX5_isAbove 8 (some .boolean) :: ([.methodLink RX5 216 yX5_rowOf, .instanceMethod yX5_rowOf, .selects RX5 yX5_rowOf yX5_rowOf, .initialized RX5, .code yX5_rowOf cX5_rowOf 3 (some (.object "Urnwright$Row")), .classLink RX5 231 "java/lang/IndexOutOfBoundsException", .initialized "java/lang/IndexOutOfBoundsException", .fieldLink RX5 17 "Urnwright" "rows" "[LUrnwright$Row;", .methodLink RX5 95 yX5_at, .static yX5_at, .code yX5_at cX5_at 2 (some .int)] ++ wsX20 ++ wsX50 ++ (vx_atS RX5 235 "java/lang/IndexOutOfBoundsException" ["java/lang/RuntimeException", "java/lang/Exception"]).filter goodWord)
def wsX5_factorial : List Cond := .code yX5_factorial cX5_factorial 4 (some .long) :: ([])
def wsX5_far_r1 : List Cond := [Cond.classLink RX5 46 "java/lang/IllegalArgumentException", Cond.initialized "java/lang/IllegalArgumentException", Cond.fieldLink RX5 38 "Urnwright" "deck" "LUrnwright$Deck;", Cond.constantLong RX5 229 (2), Cond.methodLink RX5 42 yX5_isWithin, Cond.static yX5_isWithin, Cond.initialized RX5, Cond.code yX5_isWithin cX5_isWithin 3 (some .boolean), Cond.methodLink RX5 248 yX5_factorial, Cond.static yX5_factorial, Cond.code yX5_factorial cX5_factorial 4 (some .long), Cond.methodLink RX5 213 yX5_power, Cond.static yX5_power, Cond.code yX5_power cX5_power 5 (some .long), Cond.instanceMethod yX0_shuffle, Cond.initialized RX0, Cond.selects RX0 yX0_shuffle yX0_shuffle, Cond.code yX0_shuffle cX0_shuffle 5 none, Cond.fieldLink RX0 9 "Urnwright$Deck" "runs" "[J", Cond.static yX5_put_, Cond.code yX5_put_ cX5_put_ 4 none, Cond.static yX5_at_, Cond.code yX5_at_ cX5_at_ 2 (some .long), Cond.instanceMethod yX0_sumOfDifferences]
def wsX5_far_r2 : List Cond := [Cond.selects RX0 yX0_sumOfDifferences yX0_sumOfDifferences, Cond.code yX0_sumOfDifferences cX0_sumOfDifferences 13 (some .long), Cond.methodLink RX0 27 Lib.MathLoose.abs_long.x, Cond.static Lib.MathLoose.abs_long.x, Cond.initialized "java/lang/Math", Cond.code Lib.MathLoose.abs_long.x Lib.MathLoose.abs_long.code 2 (some .long), Cond.methodLink RX0 23 yX0_ordersWithEnd, Cond.static yX0_ordersWithEnd, Cond.code yX0_ordersWithEnd cX0_ordersWithEnd 5 (some .long), Cond.methodLink RX5 161 yX5_part, Cond.static yX5_part, Cond.code yX5_part cX5_part 9 (some .long), Cond.methodLink RX5 358 Lib.MathLoose.abs_long.x, Cond.methodLink RX5 361 yX5_sharedDivisor, Cond.static yX5_sharedDivisor, Cond.code yX5_sharedDivisor cX5_sharedDivisor 11 (some .long)]
def wsX5_far : List Cond := .code yX5_far cX5_far 8 (some .long) :: ((wsX5_far_r1 ++ wsX5_far_r2) ++ wsX50 ++ wsX00 ++ (vx_atS RX5 50 "java/lang/IllegalArgumentException" ["java/lang/RuntimeException", "java/lang/Exception"]).filter goodWord)
def wsX5_ofUrn : List Cond := .code yX5_ofUrn cX5_ofUrn 4 (some .int) :: ([.classLink RX5 46 "java/lang/IllegalArgumentException", .initialized "java/lang/IllegalArgumentException", .methodLink RX5 65 yX5_urnOf, .instanceMethod yX5_urnOf, .selects RX5 yX5_urnOf yX5_urnOf, .initialized RX5, .code yX5_urnOf cX5_urnOf 3 (some (.object "Urnwright$Urn")), .classLink RX5 231 "java/lang/IndexOutOfBoundsException", .initialized "java/lang/IndexOutOfBoundsException", .fieldLink RX5 11 "Urnwright" "urns" "[LUrnwright$Urn;", .methodLink RX5 42 yX5_isWithin, .static yX5_isWithin, .code yX5_isWithin cX5_isWithin 3 (some .boolean), .methodLink RX5 95 yX5_at, .static yX5_at, .code yX5_at cX5_at 2 (some .int)] ++ wsX40 ++ wsX50 ++ (vx_atS RX5 50 "java/lang/IllegalArgumentException" ["java/lang/RuntimeException", "java/lang/Exception"]).filter goodWord ++ (vx_atS RX5 235 "java/lang/IndexOutOfBoundsException" ["java/lang/RuntimeException", "java/lang/Exception"]).filter goodWord)
def wsJ2_newBytesLength_0f7a4 : List Cond := .code yJ2_newBytesLength_0f7a4 cJ2_newBytesLength_0f7a4 1 (some .int) :: ([.constant RJ2 20 (1073741823)])
def wsJ2_newBytesFor_77867 : List Cond := .code yJ2_newBytesFor_77867 cJ2_newBytesFor_77867 1 (some (.array .byte)) :: ([.arrayClass .byte, .methodLink RJ2 11 yJ2_newBytesLength_0f7a4, .static yJ2_newBytesLength_0f7a4, .initialized RJ2, .code yJ2_newBytesLength_0f7a4 cJ2_newBytesLength_0f7a4 1 (some .int), .constant RJ2 20 (1073741823)])
def wsJ5_init_d00df : List Cond := .code yJ5_init_d00df cJ5_init_d00df 2 none :: ([.methodLink RJ5 3 objectInit, .instanceMethod objectInit, .code objectInit ⟨#[0xb1]⟩ 1 none, .fieldLink RJ5 18 "java/lang/String" "COMPACT_STRINGS" "Z", .arrayClass .byte, .fieldLink RJ5 15 "java/lang/AbstractStringBuilder" "value" "[B", .fieldLink RJ5 22 "java/lang/AbstractStringBuilder" "coder" "B", .methodLink RJ5 26 yJ2_newBytesFor_77867, .static yJ2_newBytesFor_77867, .initialized RJ2, .code yJ2_newBytesFor_77867 cJ2_newBytesFor_77867 1 (some (.array .byte)), .methodLink RJ2 11 yJ2_newBytesLength_0f7a4, .static yJ2_newBytesLength_0f7a4, .code yJ2_newBytesLength_0f7a4 cJ2_newBytesLength_0f7a4 1 (some .int), .constant RJ2 20 (1073741823)] ++ wsJ40)
def wsJ4_init_da8c8 : List Cond := .code yJ4_init_da8c8 cJ4_init_da8c8 1 none :: ([.methodLink RJ4 1 yJ5_init_d00df, .instanceMethod yJ5_init_d00df, .initialized RJ5, .code yJ5_init_d00df cJ5_init_d00df 2 none, .methodLink RJ5 3 objectInit, .instanceMethod objectInit, .code objectInit ⟨#[0xb1]⟩ 1 none, .fieldLink RJ5 18 "java/lang/String" "COMPACT_STRINGS" "Z", .arrayClass .byte, .fieldLink RJ5 15 "java/lang/AbstractStringBuilder" "value" "[B", .fieldLink RJ5 22 "java/lang/AbstractStringBuilder" "coder" "B", .methodLink RJ5 26 yJ2_newBytesFor_77867, .static yJ2_newBytesFor_77867, .initialized RJ2, .code yJ2_newBytesFor_77867 cJ2_newBytesFor_77867 1 (some (.array .byte)), .methodLink RJ2 11 yJ2_newBytesLength_0f7a4, .static yJ2_newBytesLength_0f7a4, .code yJ2_newBytesLength_0f7a4 cJ2_newBytesLength_0f7a4 1 (some .int), .constant RJ2 20 (1073741823)] ++ wsJ40)
def wsJ6_stringSize_0f7a4 : List Cond := .code yJ6_stringSize_0f7a4 cJ6_stringSize_0f7a4 4 (some .int) :: ([])
def wsJ8_hugeLength_7cf53 : List Cond := .code yJ8_hugeLength_7cf53 cJ8_hugeLength_7cf53 3 (some .int) :: ([.constant RJ8 200 (2147483639)])
def wsJ8_newLength_cabcc : List Cond := .code yJ8_newLength_cabcc cJ8_newLength_cabcc 4 (some .int) :: ([.methodLink RJ8 194 Lib.Math.max.name, .static Lib.Math.max.name, .initialized "java/lang/Math", .code Lib.Math.max.name Lib.Math.max.code 2 (some .int), .constant RJ8 200 (2147483639), .methodLink RJ8 201 yJ8_hugeLength_7cf53, .static yJ8_hugeLength_7cf53, .initialized RJ8, .code yJ8_hugeLength_7cf53 cJ8_hugeLength_7cf53 3 (some .int)])
def wsJ5_newCapacity_0f7a4 : List Cond := .code yJ5_newCapacity_0f7a4 cJ5_newCapacity_0f7a4 6 (some .int) :: ([.fieldLink RJ5 15 "java/lang/AbstractStringBuilder" "value" "[B", .fieldLink RJ5 22 "java/lang/AbstractStringBuilder" "coder" "B", .constant RJ5 39 (2147483647), .methodLink RJ5 114 yJ8_newLength_cabcc, .static yJ8_newLength_cabcc, .initialized RJ8, .code yJ8_newLength_cabcc cJ8_newLength_cabcc 4 (some .int), .methodLink RJ8 194 Lib.Math.max.name, .static Lib.Math.max.name, .initialized "java/lang/Math", .code Lib.Math.max.name Lib.Math.max.code 2 (some .int), .constant RJ8 200 (2147483639), .methodLink RJ8 201 yJ8_hugeLength_7cf53, .static yJ8_hugeLength_7cf53, .code yJ8_hugeLength_7cf53 cJ8_hugeLength_7cf53 3 (some .int)] ++ wsJ40)
def wsJ7_copyOf_9075b : List Cond := .code yJ7_copyOf_9075b cJ7_copyOf_9075b 3 (some (.array .byte)) :: ([.methodLink RJ7 310 ⟨"[B", "clone", "()Ljava/lang/Object;"⟩, .sameMethod "[B" "java/lang/Object" "clone" "()Ljava/lang/Object;", .native ⟨"java/lang/Object", "clone", "()Ljava/lang/Object;"⟩, .instanceMethod ⟨"java/lang/Object", "clone", "()Ljava/lang/Object;"⟩, .selects "[B" ⟨"[B", "clone", "()Ljava/lang/Object;"⟩ ⟨"java/lang/Object", "clone", "()Ljava/lang/Object;"⟩, .classLink RJ7 311 "[B", .arrayClass .byte, .methodLink RJ7 304 Lib.Math.min.name, .static Lib.Math.min.name, .initialized "java/lang/Math", .code Lib.Math.min.name Lib.Math.min.code 2 (some .int), .methodLink RJ7 150 arraycopyName, .native arraycopyName, .static arraycopyName, .initialized "java/lang/System"])
def wsJ5_ensureCapacityInternal_d00df_r1 : List Cond := [Cond.fieldLink RJ5 15 "java/lang/AbstractStringBuilder" "value" "[B", Cond.fieldLink RJ5 22 "java/lang/AbstractStringBuilder" "coder" "B", Cond.methodLink RJ5 104 ⟨"java/lang/AbstractStringBuilder", "newCapacity", "(I)I"⟩, Cond.sameMethod "java/lang/AbstractStringBuilder" "java/lang/AbstractStringBuilder" "newCapacity" "(I)I", Cond.selects RJ4 ⟨"java/lang/AbstractStringBuilder", "newCapacity", "(I)I"⟩ yJ5_newCapacity_0f7a4, Cond.instanceMethod yJ5_newCapacity_0f7a4, Cond.initialized RJ5, Cond.code yJ5_newCapacity_0f7a4 cJ5_newCapacity_0f7a4 6 (some .int), Cond.constant RJ5 39 (2147483647), Cond.methodLink RJ5 114 yJ8_newLength_cabcc, Cond.static yJ8_newLength_cabcc, Cond.initialized RJ8, Cond.code yJ8_newLength_cabcc cJ8_newLength_cabcc 4 (some .int), Cond.methodLink RJ8 194 Lib.Math.max.name, Cond.static Lib.Math.max.name, Cond.initialized "java/lang/Math", Cond.code Lib.Math.max.name Lib.Math.max.code 2 (some .int), Cond.constant RJ8 200 (2147483639), Cond.methodLink RJ8 201 yJ8_hugeLength_7cf53, Cond.static yJ8_hugeLength_7cf53, Cond.code yJ8_hugeLength_7cf53 cJ8_hugeLength_7cf53 3 (some .int), Cond.methodLink RJ5 108 yJ7_copyOf_9075b, Cond.static yJ7_copyOf_9075b, Cond.initialized RJ7]
def wsJ5_ensureCapacityInternal_d00df_r2 : List Cond := [Cond.code yJ7_copyOf_9075b cJ7_copyOf_9075b 3 (some (.array .byte)), Cond.methodLink RJ7 310 ⟨"[B", "clone", "()Ljava/lang/Object;"⟩, Cond.sameMethod "[B" "java/lang/Object" "clone" "()Ljava/lang/Object;", Cond.native ⟨"java/lang/Object", "clone", "()Ljava/lang/Object;"⟩, Cond.instanceMethod ⟨"java/lang/Object", "clone", "()Ljava/lang/Object;"⟩, Cond.selects "[B" ⟨"[B", "clone", "()Ljava/lang/Object;"⟩ ⟨"java/lang/Object", "clone", "()Ljava/lang/Object;"⟩, Cond.classLink RJ7 311 "[B", Cond.arrayClass .byte, Cond.methodLink RJ7 304 Lib.Math.min.name, Cond.static Lib.Math.min.name, Cond.code Lib.Math.min.name Lib.Math.min.code 2 (some .int), Cond.methodLink RJ7 150 arraycopyName, Cond.native arraycopyName, Cond.static arraycopyName, Cond.initialized "java/lang/System"]
def wsJ5_ensureCapacityInternal_d00df : List Cond := .code yJ5_ensureCapacityInternal_d00df cJ5_ensureCapacityInternal_d00df 3 none :: ((wsJ5_ensureCapacityInternal_d00df_r1 ++ wsJ5_ensureCapacityInternal_d00df_r2) ++ wsJ40)
def wsJ5_isLatin1_aae02 : List Cond := .code yJ5_isLatin1_aae02 cJ5_isLatin1_aae02 1 (some .boolean) :: ([.fieldLink RJ5 18 "java/lang/String" "COMPACT_STRINGS" "Z", .fieldLink RJ5 22 "java/lang/AbstractStringBuilder" "coder" "B"] ++ wsJ40)
def wsJ6_getChars_ba4f3 : List Cond := .code yJ6_getChars_ba4f3 cJ6_getChars_ba4f3 7 (some .int) :: ([.fieldLink RJ6 83 "java/lang/Integer" "DigitOnes" "[B", .fieldLink RJ6 87 "java/lang/Integer" "DigitTens" "[B"])
def wsJ2_length_9d52b : List Cond := .code yJ2_length_9d52b cJ2_length_9d52b 1 (some .int) :: ([])
def wsJ3_checkFromToIndex_8c36e : List Cond := .code yJ3_checkFromToIndex_8c36e cJ3_checkFromToIndex_8c36e 4 (some .int) :: ([])
def wsJ0_checkBoundsBeginEnd_23922 : List Cond := .code yJ0_checkBoundsBeginEnd_23922 cJ0_checkBoundsBeginEnd_23922 3 none :: ([.fieldLink RJ0 1053 "jdk/internal/util/Preconditions" "SIOOBE_FORMATTER" "Ljava/util/function/BiFunction;", .methodLink RJ0 1062 yJ3_checkFromToIndex_8c36e, .static yJ3_checkFromToIndex_8c36e, .initialized RJ3, .code yJ3_checkFromToIndex_8c36e cJ3_checkFromToIndex_8c36e 4 (some .int)])
def wsJ2_checkBoundsBeginEnd_d044e : List Cond := .code yJ2_checkBoundsBeginEnd_d044e cJ2_checkBoundsBeginEnd_d044e 3 none :: ([.methodLink RJ2 48 yJ2_length_9d52b, .static yJ2_length_9d52b, .initialized RJ2, .code yJ2_length_9d52b cJ2_length_9d52b 1 (some .int), .methodLink RJ2 241 yJ0_checkBoundsBeginEnd_23922, .static yJ0_checkBoundsBeginEnd_23922, .initialized RJ0, .code yJ0_checkBoundsBeginEnd_23922 cJ0_checkBoundsBeginEnd_23922 3 none, .fieldLink RJ0 1053 "jdk/internal/util/Preconditions" "SIOOBE_FORMATTER" "Ljava/util/function/BiFunction;", .methodLink RJ0 1062 yJ3_checkFromToIndex_8c36e, .static yJ3_checkFromToIndex_8c36e, .initialized RJ3, .code yJ3_checkFromToIndex_8c36e cJ3_checkFromToIndex_8c36e 4 (some .int)])
def wsJ2_putChar_b72d1 : List Cond := .code yJ2_putChar_b72d1 cJ2_putChar_b72d1 3 none :: ([.fieldLink RJ2 44 "java/lang/StringUTF16" "$assertionsDisabled" "Z", .fieldLink RJ2 59 "java/lang/StringUTF16" "HI_BYTE_SHIFT" "I", .fieldLink RJ2 63 "java/lang/StringUTF16" "LO_BYTE_SHIFT" "I", .methodLink RJ2 48 yJ2_length_9d52b, .static yJ2_length_9d52b, .initialized RJ2, .code yJ2_length_9d52b cJ2_length_9d52b 1 (some .int)])
def wsJ2_getChars_ba4f3 : List Cond := .code yJ2_getChars_ba4f3 cJ2_getChars_ba4f3 7 (some .int) :: ([.fieldLink RJ2 403 "java/lang/Integer" "DigitOnes" "[B", .fieldLink RJ2 407 "java/lang/Integer" "DigitTens" "[B", .methodLink RJ2 111 yJ2_putChar_b72d1, .static yJ2_putChar_b72d1, .initialized RJ2, .code yJ2_putChar_b72d1 cJ2_putChar_b72d1 3 none, .fieldLink RJ2 44 "java/lang/StringUTF16" "$assertionsDisabled" "Z", .fieldLink RJ2 59 "java/lang/StringUTF16" "HI_BYTE_SHIFT" "I", .fieldLink RJ2 63 "java/lang/StringUTF16" "LO_BYTE_SHIFT" "I", .methodLink RJ2 48 yJ2_length_9d52b, .static yJ2_length_9d52b, .code yJ2_length_9d52b cJ2_length_9d52b 1 (some .int)])
def wsJ2_getChars_46870_r1 : List Cond := [Cond.fieldLink RJ2 44 "java/lang/StringUTF16" "$assertionsDisabled" "Z", Cond.methodLink RJ2 96 yJ2_checkBoundsBeginEnd_d044e, Cond.static yJ2_checkBoundsBeginEnd_d044e, Cond.initialized RJ2, Cond.code yJ2_checkBoundsBeginEnd_d044e cJ2_checkBoundsBeginEnd_d044e 3 none, Cond.methodLink RJ2 48 yJ2_length_9d52b, Cond.static yJ2_length_9d52b, Cond.code yJ2_length_9d52b cJ2_length_9d52b 1 (some .int), Cond.methodLink RJ2 241 yJ0_checkBoundsBeginEnd_23922, Cond.static yJ0_checkBoundsBeginEnd_23922, Cond.initialized RJ0, Cond.code yJ0_checkBoundsBeginEnd_23922 cJ0_checkBoundsBeginEnd_23922 3 none, Cond.fieldLink RJ0 1053 "jdk/internal/util/Preconditions" "SIOOBE_FORMATTER" "Ljava/util/function/BiFunction;", Cond.methodLink RJ0 1062 yJ3_checkFromToIndex_8c36e, Cond.static yJ3_checkFromToIndex_8c36e, Cond.initialized RJ3, Cond.code yJ3_checkFromToIndex_8c36e cJ3_checkFromToIndex_8c36e 4 (some .int), Cond.methodLink RJ2 393 yJ2_getChars_ba4f3, Cond.static yJ2_getChars_ba4f3, Cond.code yJ2_getChars_ba4f3 cJ2_getChars_ba4f3 7 (some .int), Cond.fieldLink RJ2 403 "java/lang/Integer" "DigitOnes" "[B", Cond.fieldLink RJ2 407 "java/lang/Integer" "DigitTens" "[B", Cond.methodLink RJ2 111 yJ2_putChar_b72d1, Cond.static yJ2_putChar_b72d1]
def wsJ2_getChars_46870_r2 : List Cond := [Cond.code yJ2_putChar_b72d1 cJ2_putChar_b72d1 3 none, Cond.fieldLink RJ2 59 "java/lang/StringUTF16" "HI_BYTE_SHIFT" "I", Cond.fieldLink RJ2 63 "java/lang/StringUTF16" "LO_BYTE_SHIFT" "I"]
def wsJ2_getChars_46870 : List Cond := .code yJ2_getChars_46870 cJ2_getChars_46870 5 (some .int) :: ((wsJ2_getChars_46870_r1 ++ wsJ2_getChars_46870_r2))
def wsJ5_append_c97b9_r1 : List Cond := [Cond.fieldLink RJ5 79 "java/lang/AbstractStringBuilder" "count" "I", Cond.fieldLink RJ5 15 "java/lang/AbstractStringBuilder" "value" "[B", Cond.methodLink RJ5 245 yJ6_stringSize_0f7a4, Cond.static yJ6_stringSize_0f7a4, Cond.initialized RJ6, Cond.code yJ6_stringSize_0f7a4 cJ6_stringSize_0f7a4 4 (some .int), Cond.methodLink RJ5 100 ⟨"java/lang/AbstractStringBuilder", "ensureCapacityInternal", "(I)V"⟩, Cond.sameMethod "java/lang/AbstractStringBuilder" "java/lang/AbstractStringBuilder" "ensureCapacityInternal" "(I)V", Cond.selects RJ4 ⟨"java/lang/AbstractStringBuilder", "ensureCapacityInternal", "(I)V"⟩ yJ5_ensureCapacityInternal_d00df, Cond.instanceMethod yJ5_ensureCapacityInternal_d00df, Cond.initialized RJ5, Cond.code yJ5_ensureCapacityInternal_d00df cJ5_ensureCapacityInternal_d00df 3 none, Cond.fieldLink RJ5 22 "java/lang/AbstractStringBuilder" "coder" "B", Cond.methodLink RJ5 104 ⟨"java/lang/AbstractStringBuilder", "newCapacity", "(I)I"⟩, Cond.sameMethod "java/lang/AbstractStringBuilder" "java/lang/AbstractStringBuilder" "newCapacity" "(I)I", Cond.selects RJ4 ⟨"java/lang/AbstractStringBuilder", "newCapacity", "(I)I"⟩ yJ5_newCapacity_0f7a4, Cond.instanceMethod yJ5_newCapacity_0f7a4, Cond.code yJ5_newCapacity_0f7a4 cJ5_newCapacity_0f7a4 6 (some .int), Cond.constant RJ5 39 (2147483647), Cond.methodLink RJ5 114 yJ8_newLength_cabcc, Cond.static yJ8_newLength_cabcc, Cond.initialized RJ8, Cond.code yJ8_newLength_cabcc cJ8_newLength_cabcc 4 (some .int), Cond.methodLink RJ8 194 Lib.Math.max.name]
def wsJ5_append_c97b9_r2 : List Cond := [Cond.static Lib.Math.max.name, Cond.initialized "java/lang/Math", Cond.code Lib.Math.max.name Lib.Math.max.code 2 (some .int), Cond.constant RJ8 200 (2147483639), Cond.methodLink RJ8 201 yJ8_hugeLength_7cf53, Cond.static yJ8_hugeLength_7cf53, Cond.code yJ8_hugeLength_7cf53 cJ8_hugeLength_7cf53 3 (some .int), Cond.methodLink RJ5 108 yJ7_copyOf_9075b, Cond.static yJ7_copyOf_9075b, Cond.initialized RJ7, Cond.code yJ7_copyOf_9075b cJ7_copyOf_9075b 3 (some (.array .byte)), Cond.methodLink RJ7 310 ⟨"[B", "clone", "()Ljava/lang/Object;"⟩, Cond.sameMethod "[B" "java/lang/Object" "clone" "()Ljava/lang/Object;", Cond.native ⟨"java/lang/Object", "clone", "()Ljava/lang/Object;"⟩, Cond.instanceMethod ⟨"java/lang/Object", "clone", "()Ljava/lang/Object;"⟩, Cond.selects "[B" ⟨"[B", "clone", "()Ljava/lang/Object;"⟩ ⟨"java/lang/Object", "clone", "()Ljava/lang/Object;"⟩, Cond.classLink RJ7 311 "[B", Cond.arrayClass .byte, Cond.methodLink RJ7 304 Lib.Math.min.name, Cond.static Lib.Math.min.name, Cond.code Lib.Math.min.name Lib.Math.min.code 2 (some .int), Cond.methodLink RJ7 150 arraycopyName, Cond.native arraycopyName, Cond.static arraycopyName]
def wsJ5_append_c97b9_r3 : List Cond := [Cond.initialized "java/lang/System", Cond.methodLink RJ5 83 ⟨"java/lang/AbstractStringBuilder", "isLatin1", "()Z"⟩, Cond.sameMethod "java/lang/AbstractStringBuilder" "java/lang/AbstractStringBuilder" "isLatin1" "()Z", Cond.selects RJ4 ⟨"java/lang/AbstractStringBuilder", "isLatin1", "()Z"⟩ yJ5_isLatin1_aae02, Cond.instanceMethod yJ5_isLatin1_aae02, Cond.code yJ5_isLatin1_aae02 cJ5_isLatin1_aae02 1 (some .boolean), Cond.fieldLink RJ5 18 "java/lang/String" "COMPACT_STRINGS" "Z", Cond.methodLink RJ5 248 yJ6_getChars_ba4f3, Cond.static yJ6_getChars_ba4f3, Cond.code yJ6_getChars_ba4f3 cJ6_getChars_ba4f3 7 (some .int), Cond.fieldLink RJ6 83 "java/lang/Integer" "DigitOnes" "[B", Cond.fieldLink RJ6 87 "java/lang/Integer" "DigitTens" "[B", Cond.methodLink RJ5 251 yJ2_getChars_46870, Cond.static yJ2_getChars_46870, Cond.initialized RJ2, Cond.code yJ2_getChars_46870 cJ2_getChars_46870 5 (some .int), Cond.fieldLink RJ2 44 "java/lang/StringUTF16" "$assertionsDisabled" "Z", Cond.methodLink RJ2 96 yJ2_checkBoundsBeginEnd_d044e, Cond.static yJ2_checkBoundsBeginEnd_d044e, Cond.code yJ2_checkBoundsBeginEnd_d044e cJ2_checkBoundsBeginEnd_d044e 3 none, Cond.methodLink RJ2 48 yJ2_length_9d52b, Cond.static yJ2_length_9d52b, Cond.code yJ2_length_9d52b cJ2_length_9d52b 1 (some .int), Cond.methodLink RJ2 241 yJ0_checkBoundsBeginEnd_23922]
def wsJ5_append_c97b9_r4 : List Cond := [Cond.static yJ0_checkBoundsBeginEnd_23922, Cond.initialized RJ0, Cond.code yJ0_checkBoundsBeginEnd_23922 cJ0_checkBoundsBeginEnd_23922 3 none, Cond.fieldLink RJ0 1053 "jdk/internal/util/Preconditions" "SIOOBE_FORMATTER" "Ljava/util/function/BiFunction;", Cond.methodLink RJ0 1062 yJ3_checkFromToIndex_8c36e, Cond.static yJ3_checkFromToIndex_8c36e, Cond.initialized RJ3, Cond.code yJ3_checkFromToIndex_8c36e cJ3_checkFromToIndex_8c36e 4 (some .int), Cond.methodLink RJ2 393 yJ2_getChars_ba4f3, Cond.static yJ2_getChars_ba4f3, Cond.code yJ2_getChars_ba4f3 cJ2_getChars_ba4f3 7 (some .int), Cond.fieldLink RJ2 403 "java/lang/Integer" "DigitOnes" "[B", Cond.fieldLink RJ2 407 "java/lang/Integer" "DigitTens" "[B", Cond.methodLink RJ2 111 yJ2_putChar_b72d1, Cond.static yJ2_putChar_b72d1, Cond.code yJ2_putChar_b72d1 cJ2_putChar_b72d1 3 none, Cond.fieldLink RJ2 59 "java/lang/StringUTF16" "HI_BYTE_SHIFT" "I", Cond.fieldLink RJ2 63 "java/lang/StringUTF16" "LO_BYTE_SHIFT" "I"]
def wsJ5_append_c97b9 : List Cond := .code yJ5_append_c97b9 cJ5_append_c97b9 4 (some (.object "java/lang/AbstractStringBuilder")) :: ((wsJ5_append_c97b9_r1 ++ (wsJ5_append_c97b9_r2 ++ (wsJ5_append_c97b9_r3 ++ wsJ5_append_c97b9_r4))) ++ wsJ40)
def wsJ4_append_bf812_r1 : List Cond := [Cond.methodLink RJ4 53 yJ5_append_c97b9, Cond.sameMethod "java/lang/AbstractStringBuilder" "java/lang/AbstractStringBuilder" "append" "(I)Ljava/lang/AbstractStringBuilder;", Cond.superclass RJ4 RJ5, Cond.instanceMethod yJ5_append_c97b9, Cond.initialized RJ5, Cond.code yJ5_append_c97b9 cJ5_append_c97b9 4 (some (.object "java/lang/AbstractStringBuilder")), Cond.fieldLink RJ5 79 "java/lang/AbstractStringBuilder" "count" "I", Cond.fieldLink RJ5 15 "java/lang/AbstractStringBuilder" "value" "[B", Cond.methodLink RJ5 245 yJ6_stringSize_0f7a4, Cond.static yJ6_stringSize_0f7a4, Cond.initialized RJ6, Cond.code yJ6_stringSize_0f7a4 cJ6_stringSize_0f7a4 4 (some .int), Cond.methodLink RJ5 100 ⟨"java/lang/AbstractStringBuilder", "ensureCapacityInternal", "(I)V"⟩, Cond.sameMethod "java/lang/AbstractStringBuilder" "java/lang/AbstractStringBuilder" "ensureCapacityInternal" "(I)V", Cond.selects RJ4 ⟨"java/lang/AbstractStringBuilder", "ensureCapacityInternal", "(I)V"⟩ yJ5_ensureCapacityInternal_d00df, Cond.instanceMethod yJ5_ensureCapacityInternal_d00df, Cond.code yJ5_ensureCapacityInternal_d00df cJ5_ensureCapacityInternal_d00df 3 none, Cond.fieldLink RJ5 22 "java/lang/AbstractStringBuilder" "coder" "B", Cond.methodLink RJ5 104 ⟨"java/lang/AbstractStringBuilder", "newCapacity", "(I)I"⟩, Cond.sameMethod "java/lang/AbstractStringBuilder" "java/lang/AbstractStringBuilder" "newCapacity" "(I)I", Cond.selects RJ4 ⟨"java/lang/AbstractStringBuilder", "newCapacity", "(I)I"⟩ yJ5_newCapacity_0f7a4, Cond.instanceMethod yJ5_newCapacity_0f7a4, Cond.code yJ5_newCapacity_0f7a4 cJ5_newCapacity_0f7a4 6 (some .int), Cond.constant RJ5 39 (2147483647)]
def wsJ4_append_bf812_r2 : List Cond := [Cond.methodLink RJ5 114 yJ8_newLength_cabcc, Cond.static yJ8_newLength_cabcc, Cond.initialized RJ8, Cond.code yJ8_newLength_cabcc cJ8_newLength_cabcc 4 (some .int), Cond.methodLink RJ8 194 Lib.Math.max.name, Cond.static Lib.Math.max.name, Cond.initialized "java/lang/Math", Cond.code Lib.Math.max.name Lib.Math.max.code 2 (some .int), Cond.constant RJ8 200 (2147483639), Cond.methodLink RJ8 201 yJ8_hugeLength_7cf53, Cond.static yJ8_hugeLength_7cf53, Cond.code yJ8_hugeLength_7cf53 cJ8_hugeLength_7cf53 3 (some .int), Cond.methodLink RJ5 108 yJ7_copyOf_9075b, Cond.static yJ7_copyOf_9075b, Cond.initialized RJ7, Cond.code yJ7_copyOf_9075b cJ7_copyOf_9075b 3 (some (.array .byte)), Cond.methodLink RJ7 310 ⟨"[B", "clone", "()Ljava/lang/Object;"⟩, Cond.sameMethod "[B" "java/lang/Object" "clone" "()Ljava/lang/Object;", Cond.native ⟨"java/lang/Object", "clone", "()Ljava/lang/Object;"⟩, Cond.instanceMethod ⟨"java/lang/Object", "clone", "()Ljava/lang/Object;"⟩, Cond.selects "[B" ⟨"[B", "clone", "()Ljava/lang/Object;"⟩ ⟨"java/lang/Object", "clone", "()Ljava/lang/Object;"⟩, Cond.classLink RJ7 311 "[B", Cond.arrayClass .byte, Cond.methodLink RJ7 304 Lib.Math.min.name]
def wsJ4_append_bf812_r3 : List Cond := [Cond.static Lib.Math.min.name, Cond.code Lib.Math.min.name Lib.Math.min.code 2 (some .int), Cond.methodLink RJ7 150 arraycopyName, Cond.native arraycopyName, Cond.static arraycopyName, Cond.initialized "java/lang/System", Cond.methodLink RJ5 83 ⟨"java/lang/AbstractStringBuilder", "isLatin1", "()Z"⟩, Cond.sameMethod "java/lang/AbstractStringBuilder" "java/lang/AbstractStringBuilder" "isLatin1" "()Z", Cond.selects RJ4 ⟨"java/lang/AbstractStringBuilder", "isLatin1", "()Z"⟩ yJ5_isLatin1_aae02, Cond.instanceMethod yJ5_isLatin1_aae02, Cond.code yJ5_isLatin1_aae02 cJ5_isLatin1_aae02 1 (some .boolean), Cond.fieldLink RJ5 18 "java/lang/String" "COMPACT_STRINGS" "Z", Cond.methodLink RJ5 248 yJ6_getChars_ba4f3, Cond.static yJ6_getChars_ba4f3, Cond.code yJ6_getChars_ba4f3 cJ6_getChars_ba4f3 7 (some .int), Cond.fieldLink RJ6 83 "java/lang/Integer" "DigitOnes" "[B", Cond.fieldLink RJ6 87 "java/lang/Integer" "DigitTens" "[B", Cond.methodLink RJ5 251 yJ2_getChars_46870, Cond.static yJ2_getChars_46870, Cond.initialized RJ2, Cond.code yJ2_getChars_46870 cJ2_getChars_46870 5 (some .int), Cond.fieldLink RJ2 44 "java/lang/StringUTF16" "$assertionsDisabled" "Z", Cond.methodLink RJ2 96 yJ2_checkBoundsBeginEnd_d044e, Cond.static yJ2_checkBoundsBeginEnd_d044e]
def wsJ4_append_bf812_r4 : List Cond := [Cond.code yJ2_checkBoundsBeginEnd_d044e cJ2_checkBoundsBeginEnd_d044e 3 none, Cond.methodLink RJ2 48 yJ2_length_9d52b, Cond.static yJ2_length_9d52b, Cond.code yJ2_length_9d52b cJ2_length_9d52b 1 (some .int), Cond.methodLink RJ2 241 yJ0_checkBoundsBeginEnd_23922, Cond.static yJ0_checkBoundsBeginEnd_23922, Cond.initialized RJ0, Cond.code yJ0_checkBoundsBeginEnd_23922 cJ0_checkBoundsBeginEnd_23922 3 none, Cond.fieldLink RJ0 1053 "jdk/internal/util/Preconditions" "SIOOBE_FORMATTER" "Ljava/util/function/BiFunction;", Cond.methodLink RJ0 1062 yJ3_checkFromToIndex_8c36e, Cond.static yJ3_checkFromToIndex_8c36e, Cond.initialized RJ3, Cond.code yJ3_checkFromToIndex_8c36e cJ3_checkFromToIndex_8c36e 4 (some .int), Cond.methodLink RJ2 393 yJ2_getChars_ba4f3, Cond.static yJ2_getChars_ba4f3, Cond.code yJ2_getChars_ba4f3 cJ2_getChars_ba4f3 7 (some .int), Cond.fieldLink RJ2 403 "java/lang/Integer" "DigitOnes" "[B", Cond.fieldLink RJ2 407 "java/lang/Integer" "DigitTens" "[B", Cond.methodLink RJ2 111 yJ2_putChar_b72d1, Cond.static yJ2_putChar_b72d1, Cond.code yJ2_putChar_b72d1 cJ2_putChar_b72d1 3 none, Cond.fieldLink RJ2 59 "java/lang/StringUTF16" "HI_BYTE_SHIFT" "I", Cond.fieldLink RJ2 63 "java/lang/StringUTF16" "LO_BYTE_SHIFT" "I"]
def wsJ4_append_bf812 : List Cond := .code yJ4_append_bf812 cJ4_append_bf812 2 (some (.object "java/lang/StringBuilder")) :: ((wsJ4_append_bf812_r1 ++ (wsJ4_append_bf812_r2 ++ (wsJ4_append_bf812_r3 ++ wsJ4_append_bf812_r4))) ++ wsJ40)
def wsJ1_canEncode_fc78d : List Cond := .code yJ1_canEncode_fc78d cJ1_canEncode_fc78d 1 (some .boolean) :: ([])
def wsJ3_checkFromIndexSize_8c36e : List Cond := .code yJ3_checkFromIndexSize_8c36e cJ3_checkFromIndexSize_8c36e 4 (some .int) :: ([])
def wsJ0_checkBoundsOffCount_cabcc : List Cond := .code yJ0_checkBoundsOffCount_cabcc cJ0_checkBoundsOffCount_cabcc 3 (some .int) :: ([.fieldLink RJ0 1053 "jdk/internal/util/Preconditions" "SIOOBE_FORMATTER" "Ljava/util/function/BiFunction;", .methodLink RJ0 1065 yJ3_checkFromIndexSize_8c36e, .static yJ3_checkFromIndexSize_8c36e, .initialized RJ3, .code yJ3_checkFromIndexSize_8c36e cJ3_checkFromIndexSize_8c36e 4 (some .int)])
def wsJ2_checkBoundsOffCount_d044e : List Cond := .code yJ2_checkBoundsOffCount_d044e cJ2_checkBoundsOffCount_d044e 3 none :: ([.methodLink RJ2 48 yJ2_length_9d52b, .static yJ2_length_9d52b, .initialized RJ2, .code yJ2_length_9d52b cJ2_length_9d52b 1 (some .int), .methodLink RJ2 419 yJ0_checkBoundsOffCount_cabcc, .static yJ0_checkBoundsOffCount_cabcc, .initialized RJ0, .code yJ0_checkBoundsOffCount_cabcc cJ0_checkBoundsOffCount_cabcc 3 (some .int), .fieldLink RJ0 1053 "jdk/internal/util/Preconditions" "SIOOBE_FORMATTER" "Ljava/util/function/BiFunction;", .methodLink RJ0 1065 yJ3_checkFromIndexSize_8c36e, .static yJ3_checkFromIndexSize_8c36e, .initialized RJ3, .code yJ3_checkFromIndexSize_8c36e cJ3_checkFromIndexSize_8c36e 4 (some .int)])
def wsJ2_inflate_0e8fd : List Cond := .code yJ2_inflate_0e8fd cJ2_inflate_0e8fd 6 none :: ([.methodLink RJ2 173 yJ2_checkBoundsOffCount_d044e, .static yJ2_checkBoundsOffCount_d044e, .initialized RJ2, .code yJ2_checkBoundsOffCount_d044e cJ2_checkBoundsOffCount_d044e 3 none, .methodLink RJ2 48 yJ2_length_9d52b, .static yJ2_length_9d52b, .code yJ2_length_9d52b cJ2_length_9d52b 1 (some .int), .methodLink RJ2 419 yJ0_checkBoundsOffCount_cabcc, .static yJ0_checkBoundsOffCount_cabcc, .initialized RJ0, .code yJ0_checkBoundsOffCount_cabcc cJ0_checkBoundsOffCount_cabcc 3 (some .int), .fieldLink RJ0 1053 "jdk/internal/util/Preconditions" "SIOOBE_FORMATTER" "Ljava/util/function/BiFunction;", .methodLink RJ0 1065 yJ3_checkFromIndexSize_8c36e, .static yJ3_checkFromIndexSize_8c36e, .initialized RJ3, .code yJ3_checkFromIndexSize_8c36e cJ3_checkFromIndexSize_8c36e 4 (some .int), .methodLink RJ2 111 yJ2_putChar_b72d1, .static yJ2_putChar_b72d1, .code yJ2_putChar_b72d1 cJ2_putChar_b72d1 3 none, .fieldLink RJ2 44 "java/lang/StringUTF16" "$assertionsDisabled" "Z", .fieldLink RJ2 59 "java/lang/StringUTF16" "HI_BYTE_SHIFT" "I", .fieldLink RJ2 63 "java/lang/StringUTF16" "LO_BYTE_SHIFT" "I"])
def wsJ1_inflate_0e8fd_r1 : List Cond := [Cond.methodLink RJ1 240 yJ2_inflate_0e8fd, Cond.static yJ2_inflate_0e8fd, Cond.initialized RJ2, Cond.code yJ2_inflate_0e8fd cJ2_inflate_0e8fd 6 none, Cond.methodLink RJ2 173 yJ2_checkBoundsOffCount_d044e, Cond.static yJ2_checkBoundsOffCount_d044e, Cond.code yJ2_checkBoundsOffCount_d044e cJ2_checkBoundsOffCount_d044e 3 none, Cond.methodLink RJ2 48 yJ2_length_9d52b, Cond.static yJ2_length_9d52b, Cond.code yJ2_length_9d52b cJ2_length_9d52b 1 (some .int), Cond.methodLink RJ2 419 yJ0_checkBoundsOffCount_cabcc, Cond.static yJ0_checkBoundsOffCount_cabcc, Cond.initialized RJ0, Cond.code yJ0_checkBoundsOffCount_cabcc cJ0_checkBoundsOffCount_cabcc 3 (some .int), Cond.fieldLink RJ0 1053 "jdk/internal/util/Preconditions" "SIOOBE_FORMATTER" "Ljava/util/function/BiFunction;", Cond.methodLink RJ0 1065 yJ3_checkFromIndexSize_8c36e, Cond.static yJ3_checkFromIndexSize_8c36e, Cond.initialized RJ3, Cond.code yJ3_checkFromIndexSize_8c36e cJ3_checkFromIndexSize_8c36e 4 (some .int), Cond.methodLink RJ2 111 yJ2_putChar_b72d1, Cond.static yJ2_putChar_b72d1, Cond.code yJ2_putChar_b72d1 cJ2_putChar_b72d1 3 none, Cond.fieldLink RJ2 44 "java/lang/StringUTF16" "$assertionsDisabled" "Z", Cond.fieldLink RJ2 59 "java/lang/StringUTF16" "HI_BYTE_SHIFT" "I"]
def wsJ1_inflate_0e8fd_r2 : List Cond := [Cond.fieldLink RJ2 63 "java/lang/StringUTF16" "LO_BYTE_SHIFT" "I"]
def wsJ1_inflate_0e8fd : List Cond := .code yJ1_inflate_0e8fd cJ1_inflate_0e8fd 5 none :: ((wsJ1_inflate_0e8fd_r1 ++ wsJ1_inflate_0e8fd_r2))
def wsJ5_inflate_da8c8_r1 : List Cond := [Cond.fieldLink RJ5 15 "java/lang/AbstractStringBuilder" "value" "[B", Cond.fieldLink RJ5 79 "java/lang/AbstractStringBuilder" "count" "I", Cond.fieldLink RJ5 22 "java/lang/AbstractStringBuilder" "coder" "B", Cond.methodLink RJ5 83 ⟨"java/lang/AbstractStringBuilder", "isLatin1", "()Z"⟩, Cond.sameMethod "java/lang/AbstractStringBuilder" "java/lang/AbstractStringBuilder" "isLatin1" "()Z", Cond.selects RJ4 ⟨"java/lang/AbstractStringBuilder", "isLatin1", "()Z"⟩ yJ5_isLatin1_aae02, Cond.instanceMethod yJ5_isLatin1_aae02, Cond.initialized RJ5, Cond.code yJ5_isLatin1_aae02 cJ5_isLatin1_aae02 1 (some .boolean), Cond.fieldLink RJ5 18 "java/lang/String" "COMPACT_STRINGS" "Z", Cond.methodLink RJ5 26 yJ2_newBytesFor_77867, Cond.static yJ2_newBytesFor_77867, Cond.initialized RJ2, Cond.code yJ2_newBytesFor_77867 cJ2_newBytesFor_77867 1 (some (.array .byte)), Cond.arrayClass .byte, Cond.methodLink RJ2 11 yJ2_newBytesLength_0f7a4, Cond.static yJ2_newBytesLength_0f7a4, Cond.code yJ2_newBytesLength_0f7a4 cJ2_newBytesLength_0f7a4 1 (some .int), Cond.constant RJ2 20 (1073741823), Cond.methodLink RJ5 125 yJ1_inflate_0e8fd, Cond.static yJ1_inflate_0e8fd, Cond.initialized RJ1, Cond.code yJ1_inflate_0e8fd cJ1_inflate_0e8fd 5 none, Cond.methodLink RJ1 240 yJ2_inflate_0e8fd]
def wsJ5_inflate_da8c8_r2 : List Cond := [Cond.static yJ2_inflate_0e8fd, Cond.code yJ2_inflate_0e8fd cJ2_inflate_0e8fd 6 none, Cond.methodLink RJ2 173 yJ2_checkBoundsOffCount_d044e, Cond.static yJ2_checkBoundsOffCount_d044e, Cond.code yJ2_checkBoundsOffCount_d044e cJ2_checkBoundsOffCount_d044e 3 none, Cond.methodLink RJ2 48 yJ2_length_9d52b, Cond.static yJ2_length_9d52b, Cond.code yJ2_length_9d52b cJ2_length_9d52b 1 (some .int), Cond.methodLink RJ2 419 yJ0_checkBoundsOffCount_cabcc, Cond.static yJ0_checkBoundsOffCount_cabcc, Cond.initialized RJ0, Cond.code yJ0_checkBoundsOffCount_cabcc cJ0_checkBoundsOffCount_cabcc 3 (some .int), Cond.fieldLink RJ0 1053 "jdk/internal/util/Preconditions" "SIOOBE_FORMATTER" "Ljava/util/function/BiFunction;", Cond.methodLink RJ0 1065 yJ3_checkFromIndexSize_8c36e, Cond.static yJ3_checkFromIndexSize_8c36e, Cond.initialized RJ3, Cond.code yJ3_checkFromIndexSize_8c36e cJ3_checkFromIndexSize_8c36e 4 (some .int), Cond.methodLink RJ2 111 yJ2_putChar_b72d1, Cond.static yJ2_putChar_b72d1, Cond.code yJ2_putChar_b72d1 cJ2_putChar_b72d1 3 none, Cond.fieldLink RJ2 44 "java/lang/StringUTF16" "$assertionsDisabled" "Z", Cond.fieldLink RJ2 59 "java/lang/StringUTF16" "HI_BYTE_SHIFT" "I", Cond.fieldLink RJ2 63 "java/lang/StringUTF16" "LO_BYTE_SHIFT" "I"]
def wsJ5_inflate_da8c8 : List Cond := .code yJ5_inflate_da8c8 cJ5_inflate_da8c8 2 none :: ((wsJ5_inflate_da8c8_r1 ++ wsJ5_inflate_da8c8_r2) ++ wsJ40)
def wsJ3_checkIndex_8e157 : List Cond := .code yJ3_checkIndex_8e157 cJ3_checkIndex_8e157 3 (some .int) :: ([])
def wsJ0_checkIndex_df160 : List Cond := .code yJ0_checkIndex_df160 cJ0_checkIndex_df160 2 none :: ([.fieldLink RJ0 1053 "jdk/internal/util/Preconditions" "SIOOBE_FORMATTER" "Ljava/util/function/BiFunction;", .methodLink RJ0 1059 yJ3_checkIndex_8e157, .static yJ3_checkIndex_8e157, .initialized RJ3, .code yJ3_checkIndex_8e157 cJ3_checkIndex_8e157 3 (some .int)])
def wsJ2_checkIndex_2214a : List Cond := .code yJ2_checkIndex_2214a cJ2_checkIndex_2214a 2 none :: ([.methodLink RJ2 48 yJ2_length_9d52b, .static yJ2_length_9d52b, .initialized RJ2, .code yJ2_length_9d52b cJ2_length_9d52b 1 (some .int), .methodLink RJ2 414 yJ0_checkIndex_df160, .static yJ0_checkIndex_df160, .initialized RJ0, .code yJ0_checkIndex_df160 cJ0_checkIndex_df160 2 none, .fieldLink RJ0 1053 "jdk/internal/util/Preconditions" "SIOOBE_FORMATTER" "Ljava/util/function/BiFunction;", .methodLink RJ0 1059 yJ3_checkIndex_8e157, .static yJ3_checkIndex_8e157, .initialized RJ3, .code yJ3_checkIndex_8e157 cJ3_checkIndex_8e157 3 (some .int)])
def wsJ2_putCharSB_b72d1 : List Cond := .code yJ2_putCharSB_b72d1 cJ2_putCharSB_b72d1 3 none :: ([.methodLink RJ2 67 yJ2_checkIndex_2214a, .static yJ2_checkIndex_2214a, .initialized RJ2, .code yJ2_checkIndex_2214a cJ2_checkIndex_2214a 2 none, .methodLink RJ2 48 yJ2_length_9d52b, .static yJ2_length_9d52b, .code yJ2_length_9d52b cJ2_length_9d52b 1 (some .int), .methodLink RJ2 414 yJ0_checkIndex_df160, .static yJ0_checkIndex_df160, .initialized RJ0, .code yJ0_checkIndex_df160 cJ0_checkIndex_df160 2 none, .fieldLink RJ0 1053 "jdk/internal/util/Preconditions" "SIOOBE_FORMATTER" "Ljava/util/function/BiFunction;", .methodLink RJ0 1059 yJ3_checkIndex_8e157, .static yJ3_checkIndex_8e157, .initialized RJ3, .code yJ3_checkIndex_8e157 cJ3_checkIndex_8e157 3 (some .int), .methodLink RJ2 111 yJ2_putChar_b72d1, .static yJ2_putChar_b72d1, .code yJ2_putChar_b72d1 cJ2_putChar_b72d1 3 none, .fieldLink RJ2 44 "java/lang/StringUTF16" "$assertionsDisabled" "Z", .fieldLink RJ2 59 "java/lang/StringUTF16" "HI_BYTE_SHIFT" "I", .fieldLink RJ2 63 "java/lang/StringUTF16" "LO_BYTE_SHIFT" "I"])
def wsJ5_append_3fe6f_r1 : List Cond := [Cond.fieldLink RJ5 79 "java/lang/AbstractStringBuilder" "count" "I", Cond.fieldLink RJ5 15 "java/lang/AbstractStringBuilder" "value" "[B", Cond.methodLink RJ5 100 ⟨"java/lang/AbstractStringBuilder", "ensureCapacityInternal", "(I)V"⟩, Cond.sameMethod "java/lang/AbstractStringBuilder" "java/lang/AbstractStringBuilder" "ensureCapacityInternal" "(I)V", Cond.selects RJ4 ⟨"java/lang/AbstractStringBuilder", "ensureCapacityInternal", "(I)V"⟩ yJ5_ensureCapacityInternal_d00df, Cond.instanceMethod yJ5_ensureCapacityInternal_d00df, Cond.initialized RJ5, Cond.code yJ5_ensureCapacityInternal_d00df cJ5_ensureCapacityInternal_d00df 3 none, Cond.fieldLink RJ5 22 "java/lang/AbstractStringBuilder" "coder" "B", Cond.methodLink RJ5 104 ⟨"java/lang/AbstractStringBuilder", "newCapacity", "(I)I"⟩, Cond.sameMethod "java/lang/AbstractStringBuilder" "java/lang/AbstractStringBuilder" "newCapacity" "(I)I", Cond.selects RJ4 ⟨"java/lang/AbstractStringBuilder", "newCapacity", "(I)I"⟩ yJ5_newCapacity_0f7a4, Cond.instanceMethod yJ5_newCapacity_0f7a4, Cond.code yJ5_newCapacity_0f7a4 cJ5_newCapacity_0f7a4 6 (some .int), Cond.constant RJ5 39 (2147483647), Cond.methodLink RJ5 114 yJ8_newLength_cabcc, Cond.static yJ8_newLength_cabcc, Cond.initialized RJ8, Cond.code yJ8_newLength_cabcc cJ8_newLength_cabcc 4 (some .int), Cond.methodLink RJ8 194 Lib.Math.max.name, Cond.static Lib.Math.max.name, Cond.initialized "java/lang/Math", Cond.code Lib.Math.max.name Lib.Math.max.code 2 (some .int), Cond.constant RJ8 200 (2147483639)]
def wsJ5_append_3fe6f_r2 : List Cond := [Cond.methodLink RJ8 201 yJ8_hugeLength_7cf53, Cond.static yJ8_hugeLength_7cf53, Cond.code yJ8_hugeLength_7cf53 cJ8_hugeLength_7cf53 3 (some .int), Cond.methodLink RJ5 108 yJ7_copyOf_9075b, Cond.static yJ7_copyOf_9075b, Cond.initialized RJ7, Cond.code yJ7_copyOf_9075b cJ7_copyOf_9075b 3 (some (.array .byte)), Cond.methodLink RJ7 310 ⟨"[B", "clone", "()Ljava/lang/Object;"⟩, Cond.sameMethod "[B" "java/lang/Object" "clone" "()Ljava/lang/Object;", Cond.native ⟨"java/lang/Object", "clone", "()Ljava/lang/Object;"⟩, Cond.instanceMethod ⟨"java/lang/Object", "clone", "()Ljava/lang/Object;"⟩, Cond.selects "[B" ⟨"[B", "clone", "()Ljava/lang/Object;"⟩ ⟨"java/lang/Object", "clone", "()Ljava/lang/Object;"⟩, Cond.classLink RJ7 311 "[B", Cond.arrayClass .byte, Cond.methodLink RJ7 304 Lib.Math.min.name, Cond.static Lib.Math.min.name, Cond.code Lib.Math.min.name Lib.Math.min.code 2 (some .int), Cond.methodLink RJ7 150 arraycopyName, Cond.native arraycopyName, Cond.static arraycopyName, Cond.initialized "java/lang/System", Cond.methodLink RJ5 83 ⟨"java/lang/AbstractStringBuilder", "isLatin1", "()Z"⟩, Cond.sameMethod "java/lang/AbstractStringBuilder" "java/lang/AbstractStringBuilder" "isLatin1" "()Z", Cond.selects RJ4 ⟨"java/lang/AbstractStringBuilder", "isLatin1", "()Z"⟩ yJ5_isLatin1_aae02]
def wsJ5_append_3fe6f_r3 : List Cond := [Cond.instanceMethod yJ5_isLatin1_aae02, Cond.code yJ5_isLatin1_aae02 cJ5_isLatin1_aae02 1 (some .boolean), Cond.fieldLink RJ5 18 "java/lang/String" "COMPACT_STRINGS" "Z", Cond.methodLink RJ5 191 yJ1_canEncode_fc78d, Cond.static yJ1_canEncode_fc78d, Cond.initialized RJ1, Cond.code yJ1_canEncode_fc78d cJ1_canEncode_fc78d 1 (some .boolean), Cond.methodLink RJ5 195 ⟨"java/lang/AbstractStringBuilder", "inflate", "()V"⟩, Cond.sameMethod "java/lang/AbstractStringBuilder" "java/lang/AbstractStringBuilder" "inflate" "()V", Cond.selects RJ4 ⟨"java/lang/AbstractStringBuilder", "inflate", "()V"⟩ yJ5_inflate_da8c8, Cond.instanceMethod yJ5_inflate_da8c8, Cond.code yJ5_inflate_da8c8 cJ5_inflate_da8c8 2 none, Cond.methodLink RJ5 26 yJ2_newBytesFor_77867, Cond.static yJ2_newBytesFor_77867, Cond.initialized RJ2, Cond.code yJ2_newBytesFor_77867 cJ2_newBytesFor_77867 1 (some (.array .byte)), Cond.methodLink RJ2 11 yJ2_newBytesLength_0f7a4, Cond.static yJ2_newBytesLength_0f7a4, Cond.code yJ2_newBytesLength_0f7a4 cJ2_newBytesLength_0f7a4 1 (some .int), Cond.constant RJ2 20 (1073741823), Cond.methodLink RJ5 125 yJ1_inflate_0e8fd, Cond.static yJ1_inflate_0e8fd, Cond.code yJ1_inflate_0e8fd cJ1_inflate_0e8fd 5 none, Cond.methodLink RJ1 240 yJ2_inflate_0e8fd]
def wsJ5_append_3fe6f_r4 : List Cond := [Cond.static yJ2_inflate_0e8fd, Cond.code yJ2_inflate_0e8fd cJ2_inflate_0e8fd 6 none, Cond.methodLink RJ2 173 yJ2_checkBoundsOffCount_d044e, Cond.static yJ2_checkBoundsOffCount_d044e, Cond.code yJ2_checkBoundsOffCount_d044e cJ2_checkBoundsOffCount_d044e 3 none, Cond.methodLink RJ2 48 yJ2_length_9d52b, Cond.static yJ2_length_9d52b, Cond.code yJ2_length_9d52b cJ2_length_9d52b 1 (some .int), Cond.methodLink RJ2 419 yJ0_checkBoundsOffCount_cabcc, Cond.static yJ0_checkBoundsOffCount_cabcc, Cond.initialized RJ0, Cond.code yJ0_checkBoundsOffCount_cabcc cJ0_checkBoundsOffCount_cabcc 3 (some .int), Cond.fieldLink RJ0 1053 "jdk/internal/util/Preconditions" "SIOOBE_FORMATTER" "Ljava/util/function/BiFunction;", Cond.methodLink RJ0 1065 yJ3_checkFromIndexSize_8c36e, Cond.static yJ3_checkFromIndexSize_8c36e, Cond.initialized RJ3, Cond.code yJ3_checkFromIndexSize_8c36e cJ3_checkFromIndexSize_8c36e 4 (some .int), Cond.methodLink RJ2 111 yJ2_putChar_b72d1, Cond.static yJ2_putChar_b72d1, Cond.code yJ2_putChar_b72d1 cJ2_putChar_b72d1 3 none, Cond.fieldLink RJ2 44 "java/lang/StringUTF16" "$assertionsDisabled" "Z", Cond.fieldLink RJ2 59 "java/lang/StringUTF16" "HI_BYTE_SHIFT" "I", Cond.fieldLink RJ2 63 "java/lang/StringUTF16" "LO_BYTE_SHIFT" "I", Cond.methodLink RJ5 197 yJ2_putCharSB_b72d1]
def wsJ5_append_3fe6f_r5 : List Cond := [Cond.static yJ2_putCharSB_b72d1, Cond.code yJ2_putCharSB_b72d1 cJ2_putCharSB_b72d1 3 none, Cond.methodLink RJ2 67 yJ2_checkIndex_2214a, Cond.static yJ2_checkIndex_2214a, Cond.code yJ2_checkIndex_2214a cJ2_checkIndex_2214a 2 none, Cond.methodLink RJ2 414 yJ0_checkIndex_df160, Cond.static yJ0_checkIndex_df160, Cond.code yJ0_checkIndex_df160 cJ0_checkIndex_df160 2 none, Cond.methodLink RJ0 1059 yJ3_checkIndex_8e157, Cond.static yJ3_checkIndex_8e157, Cond.code yJ3_checkIndex_8e157 cJ3_checkIndex_8e157 3 (some .int)]
def wsJ5_append_3fe6f : List Cond := .code yJ5_append_3fe6f cJ5_append_3fe6f 2 (some (.object "java/lang/AbstractStringBuilder")) :: ((wsJ5_append_3fe6f_r1 ++ (wsJ5_append_3fe6f_r2 ++ (wsJ5_append_3fe6f_r3 ++ (wsJ5_append_3fe6f_r4 ++ wsJ5_append_3fe6f_r5)))) ++ wsJ40)
def wsJ4_append_cf468_r1 : List Cond := [Cond.methodLink RJ4 50 yJ5_append_3fe6f, Cond.sameMethod "java/lang/AbstractStringBuilder" "java/lang/AbstractStringBuilder" "append" "(C)Ljava/lang/AbstractStringBuilder;", Cond.superclass RJ4 RJ5, Cond.instanceMethod yJ5_append_3fe6f, Cond.initialized RJ5, Cond.code yJ5_append_3fe6f cJ5_append_3fe6f 2 (some (.object "java/lang/AbstractStringBuilder")), Cond.fieldLink RJ5 79 "java/lang/AbstractStringBuilder" "count" "I", Cond.fieldLink RJ5 15 "java/lang/AbstractStringBuilder" "value" "[B", Cond.methodLink RJ5 100 ⟨"java/lang/AbstractStringBuilder", "ensureCapacityInternal", "(I)V"⟩, Cond.sameMethod "java/lang/AbstractStringBuilder" "java/lang/AbstractStringBuilder" "ensureCapacityInternal" "(I)V", Cond.selects RJ4 ⟨"java/lang/AbstractStringBuilder", "ensureCapacityInternal", "(I)V"⟩ yJ5_ensureCapacityInternal_d00df, Cond.instanceMethod yJ5_ensureCapacityInternal_d00df, Cond.code yJ5_ensureCapacityInternal_d00df cJ5_ensureCapacityInternal_d00df 3 none, Cond.fieldLink RJ5 22 "java/lang/AbstractStringBuilder" "coder" "B", Cond.methodLink RJ5 104 ⟨"java/lang/AbstractStringBuilder", "newCapacity", "(I)I"⟩, Cond.sameMethod "java/lang/AbstractStringBuilder" "java/lang/AbstractStringBuilder" "newCapacity" "(I)I", Cond.selects RJ4 ⟨"java/lang/AbstractStringBuilder", "newCapacity", "(I)I"⟩ yJ5_newCapacity_0f7a4, Cond.instanceMethod yJ5_newCapacity_0f7a4, Cond.code yJ5_newCapacity_0f7a4 cJ5_newCapacity_0f7a4 6 (some .int), Cond.constant RJ5 39 (2147483647), Cond.methodLink RJ5 114 yJ8_newLength_cabcc, Cond.static yJ8_newLength_cabcc, Cond.initialized RJ8, Cond.code yJ8_newLength_cabcc cJ8_newLength_cabcc 4 (some .int)]
def wsJ4_append_cf468_r2 : List Cond := [Cond.methodLink RJ8 194 Lib.Math.max.name, Cond.static Lib.Math.max.name, Cond.initialized "java/lang/Math", Cond.code Lib.Math.max.name Lib.Math.max.code 2 (some .int), Cond.constant RJ8 200 (2147483639), Cond.methodLink RJ8 201 yJ8_hugeLength_7cf53, Cond.static yJ8_hugeLength_7cf53, Cond.code yJ8_hugeLength_7cf53 cJ8_hugeLength_7cf53 3 (some .int), Cond.methodLink RJ5 108 yJ7_copyOf_9075b, Cond.static yJ7_copyOf_9075b, Cond.initialized RJ7, Cond.code yJ7_copyOf_9075b cJ7_copyOf_9075b 3 (some (.array .byte)), Cond.methodLink RJ7 310 ⟨"[B", "clone", "()Ljava/lang/Object;"⟩, Cond.sameMethod "[B" "java/lang/Object" "clone" "()Ljava/lang/Object;", Cond.native ⟨"java/lang/Object", "clone", "()Ljava/lang/Object;"⟩, Cond.instanceMethod ⟨"java/lang/Object", "clone", "()Ljava/lang/Object;"⟩, Cond.selects "[B" ⟨"[B", "clone", "()Ljava/lang/Object;"⟩ ⟨"java/lang/Object", "clone", "()Ljava/lang/Object;"⟩, Cond.classLink RJ7 311 "[B", Cond.arrayClass .byte, Cond.methodLink RJ7 304 Lib.Math.min.name, Cond.static Lib.Math.min.name, Cond.code Lib.Math.min.name Lib.Math.min.code 2 (some .int), Cond.methodLink RJ7 150 arraycopyName, Cond.native arraycopyName]
def wsJ4_append_cf468_r3 : List Cond := [Cond.static arraycopyName, Cond.initialized "java/lang/System", Cond.methodLink RJ5 83 ⟨"java/lang/AbstractStringBuilder", "isLatin1", "()Z"⟩, Cond.sameMethod "java/lang/AbstractStringBuilder" "java/lang/AbstractStringBuilder" "isLatin1" "()Z", Cond.selects RJ4 ⟨"java/lang/AbstractStringBuilder", "isLatin1", "()Z"⟩ yJ5_isLatin1_aae02, Cond.instanceMethod yJ5_isLatin1_aae02, Cond.code yJ5_isLatin1_aae02 cJ5_isLatin1_aae02 1 (some .boolean), Cond.fieldLink RJ5 18 "java/lang/String" "COMPACT_STRINGS" "Z", Cond.methodLink RJ5 191 yJ1_canEncode_fc78d, Cond.static yJ1_canEncode_fc78d, Cond.initialized RJ1, Cond.code yJ1_canEncode_fc78d cJ1_canEncode_fc78d 1 (some .boolean), Cond.methodLink RJ5 195 ⟨"java/lang/AbstractStringBuilder", "inflate", "()V"⟩, Cond.sameMethod "java/lang/AbstractStringBuilder" "java/lang/AbstractStringBuilder" "inflate" "()V", Cond.selects RJ4 ⟨"java/lang/AbstractStringBuilder", "inflate", "()V"⟩ yJ5_inflate_da8c8, Cond.instanceMethod yJ5_inflate_da8c8, Cond.code yJ5_inflate_da8c8 cJ5_inflate_da8c8 2 none, Cond.methodLink RJ5 26 yJ2_newBytesFor_77867, Cond.static yJ2_newBytesFor_77867, Cond.initialized RJ2, Cond.code yJ2_newBytesFor_77867 cJ2_newBytesFor_77867 1 (some (.array .byte)), Cond.methodLink RJ2 11 yJ2_newBytesLength_0f7a4, Cond.static yJ2_newBytesLength_0f7a4, Cond.code yJ2_newBytesLength_0f7a4 cJ2_newBytesLength_0f7a4 1 (some .int)]
def wsJ4_append_cf468_r4 : List Cond := [Cond.constant RJ2 20 (1073741823), Cond.methodLink RJ5 125 yJ1_inflate_0e8fd, Cond.static yJ1_inflate_0e8fd, Cond.code yJ1_inflate_0e8fd cJ1_inflate_0e8fd 5 none, Cond.methodLink RJ1 240 yJ2_inflate_0e8fd, Cond.static yJ2_inflate_0e8fd, Cond.code yJ2_inflate_0e8fd cJ2_inflate_0e8fd 6 none, Cond.methodLink RJ2 173 yJ2_checkBoundsOffCount_d044e, Cond.static yJ2_checkBoundsOffCount_d044e, Cond.code yJ2_checkBoundsOffCount_d044e cJ2_checkBoundsOffCount_d044e 3 none, Cond.methodLink RJ2 48 yJ2_length_9d52b, Cond.static yJ2_length_9d52b, Cond.code yJ2_length_9d52b cJ2_length_9d52b 1 (some .int), Cond.methodLink RJ2 419 yJ0_checkBoundsOffCount_cabcc, Cond.static yJ0_checkBoundsOffCount_cabcc, Cond.initialized RJ0, Cond.code yJ0_checkBoundsOffCount_cabcc cJ0_checkBoundsOffCount_cabcc 3 (some .int), Cond.fieldLink RJ0 1053 "jdk/internal/util/Preconditions" "SIOOBE_FORMATTER" "Ljava/util/function/BiFunction;", Cond.methodLink RJ0 1065 yJ3_checkFromIndexSize_8c36e, Cond.static yJ3_checkFromIndexSize_8c36e, Cond.initialized RJ3, Cond.code yJ3_checkFromIndexSize_8c36e cJ3_checkFromIndexSize_8c36e 4 (some .int), Cond.methodLink RJ2 111 yJ2_putChar_b72d1, Cond.static yJ2_putChar_b72d1]
def wsJ4_append_cf468_r5 : List Cond := [Cond.code yJ2_putChar_b72d1 cJ2_putChar_b72d1 3 none, Cond.fieldLink RJ2 44 "java/lang/StringUTF16" "$assertionsDisabled" "Z", Cond.fieldLink RJ2 59 "java/lang/StringUTF16" "HI_BYTE_SHIFT" "I", Cond.fieldLink RJ2 63 "java/lang/StringUTF16" "LO_BYTE_SHIFT" "I", Cond.methodLink RJ5 197 yJ2_putCharSB_b72d1, Cond.static yJ2_putCharSB_b72d1, Cond.code yJ2_putCharSB_b72d1 cJ2_putCharSB_b72d1 3 none, Cond.methodLink RJ2 67 yJ2_checkIndex_2214a, Cond.static yJ2_checkIndex_2214a, Cond.code yJ2_checkIndex_2214a cJ2_checkIndex_2214a 2 none, Cond.methodLink RJ2 414 yJ0_checkIndex_df160, Cond.static yJ0_checkIndex_df160, Cond.code yJ0_checkIndex_df160 cJ0_checkIndex_df160 2 none, Cond.methodLink RJ0 1059 yJ3_checkIndex_8e157, Cond.static yJ3_checkIndex_8e157, Cond.code yJ3_checkIndex_8e157 cJ3_checkIndex_8e157 3 (some .int)]
def wsJ4_append_cf468 : List Cond := .code yJ4_append_cf468 cJ4_append_cf468 2 (some (.object "java/lang/StringBuilder")) :: ((wsJ4_append_cf468_r1 ++ (wsJ4_append_cf468_r2 ++ (wsJ4_append_cf468_r3 ++ (wsJ4_append_cf468_r4 ++ wsJ4_append_cf468_r5)))) ++ wsJ40)
def wsJ5_getValue_6d5f1 : List Cond := .code yJ5_getValue_6d5f1 cJ5_getValue_6d5f1 1 (some (.array .byte)) :: ([.fieldLink RJ5 15 "java/lang/AbstractStringBuilder" "value" "[B"] ++ wsJ40)
def wsJ5_length_8abf5 : List Cond := .code yJ5_length_8abf5 cJ5_length_8abf5 1 (some .int) :: ([.fieldLink RJ5 79 "java/lang/AbstractStringBuilder" "count" "I"] ++ wsJ40)
def wsJ4_length_8abf5 : List Cond := .code yJ4_length_8abf5 cJ4_length_8abf5 1 (some .int) :: ([.methodLink RJ4 343 yJ5_length_8abf5, .sameMethod "java/lang/AbstractStringBuilder" "java/lang/AbstractStringBuilder" "length" "()I", .superclass RJ4 RJ5, .instanceMethod yJ5_length_8abf5, .initialized RJ5, .code yJ5_length_8abf5 cJ5_length_8abf5 1 (some .int), .fieldLink RJ5 79 "java/lang/AbstractStringBuilder" "count" "I"] ++ wsJ40)
def wsJ7_checkLength_df160 : List Cond := .code yJ7_checkLength_df160 cJ7_checkLength_df160 2 none :: ([.classLink RJ7 45 RJ4, .instantiable RJ4 4, .initialized RJ4] ++ wsJ40)
def wsJ7_copyOfRangeByte_39247 : List Cond := .code yJ7_copyOfRangeByte_39247 cJ7_copyOfRangeByte_39247 5 (some (.array .byte)) :: ([.arrayClass .byte, .methodLink RJ7 304 Lib.Math.min.name, .static Lib.Math.min.name, .initialized "java/lang/Math", .code Lib.Math.min.name Lib.Math.min.code 2 (some .int), .methodLink RJ7 150 arraycopyName, .native arraycopyName, .static arraycopyName, .initialized "java/lang/System", .methodLink RJ7 343 yJ7_checkLength_df160, .static yJ7_checkLength_df160, .initialized RJ7, .code yJ7_checkLength_df160 cJ7_checkLength_df160 2 none, .classLink RJ7 45 RJ4, .instantiable RJ4 4, .initialized RJ4] ++ wsJ40)
def wsJ7_copyOfRange_39247_r1 : List Cond := [Cond.methodLink RJ7 310 ⟨"[B", "clone", "()Ljava/lang/Object;"⟩, Cond.sameMethod "[B" "java/lang/Object" "clone" "()Ljava/lang/Object;", Cond.native ⟨"java/lang/Object", "clone", "()Ljava/lang/Object;"⟩, Cond.instanceMethod ⟨"java/lang/Object", "clone", "()Ljava/lang/Object;"⟩, Cond.selects "[B" ⟨"[B", "clone", "()Ljava/lang/Object;"⟩ ⟨"java/lang/Object", "clone", "()Ljava/lang/Object;"⟩, Cond.classLink RJ7 311 "[B", Cond.methodLink RJ7 339 yJ7_copyOfRangeByte_39247, Cond.static yJ7_copyOfRangeByte_39247, Cond.initialized RJ7, Cond.code yJ7_copyOfRangeByte_39247 cJ7_copyOfRangeByte_39247 5 (some (.array .byte)), Cond.arrayClass .byte, Cond.methodLink RJ7 304 Lib.Math.min.name, Cond.static Lib.Math.min.name, Cond.initialized "java/lang/Math", Cond.code Lib.Math.min.name Lib.Math.min.code 2 (some .int), Cond.methodLink RJ7 150 arraycopyName, Cond.native arraycopyName, Cond.static arraycopyName, Cond.initialized "java/lang/System", Cond.methodLink RJ7 343 yJ7_checkLength_df160, Cond.static yJ7_checkLength_df160, Cond.code yJ7_checkLength_df160 cJ7_checkLength_df160 2 none, Cond.classLink RJ7 45 RJ4, Cond.instantiable RJ4 4]
def wsJ7_copyOfRange_39247_r2 : List Cond := [Cond.initialized RJ4]
def wsJ7_copyOfRange_39247 : List Cond := .code yJ7_copyOfRange_39247 cJ7_copyOfRange_39247 3 (some (.array .byte)) :: ((wsJ7_copyOfRange_39247_r1 ++ wsJ7_copyOfRange_39247_r2) ++ wsJ40)
def wsJ2_getChar_3b067 : List Cond := .code yJ2_getChar_3b067 cJ2_getChar_3b067 2 (some .char) :: ([.fieldLink RJ2 44 "java/lang/StringUTF16" "$assertionsDisabled" "Z", .fieldLink RJ2 59 "java/lang/StringUTF16" "HI_BYTE_SHIFT" "I", .fieldLink RJ2 63 "java/lang/StringUTF16" "LO_BYTE_SHIFT" "I", .methodLink RJ2 48 yJ2_length_9d52b, .static yJ2_length_9d52b, .initialized RJ2, .code yJ2_length_9d52b cJ2_length_9d52b 1 (some .int)])
def wsJ2_compress_5af95 : List Cond := .code yJ2_compress_5af95 cJ2_compress_5af95 7 (some .int) :: ([.methodLink RJ2 173 yJ2_checkBoundsOffCount_d044e, .static yJ2_checkBoundsOffCount_d044e, .initialized RJ2, .code yJ2_checkBoundsOffCount_d044e cJ2_checkBoundsOffCount_d044e 3 none, .methodLink RJ2 48 yJ2_length_9d52b, .static yJ2_length_9d52b, .code yJ2_length_9d52b cJ2_length_9d52b 1 (some .int), .methodLink RJ2 419 yJ0_checkBoundsOffCount_cabcc, .static yJ0_checkBoundsOffCount_cabcc, .initialized RJ0, .code yJ0_checkBoundsOffCount_cabcc cJ0_checkBoundsOffCount_cabcc 3 (some .int), .fieldLink RJ0 1053 "jdk/internal/util/Preconditions" "SIOOBE_FORMATTER" "Ljava/util/function/BiFunction;", .methodLink RJ0 1065 yJ3_checkFromIndexSize_8c36e, .static yJ3_checkFromIndexSize_8c36e, .initialized RJ3, .code yJ3_checkFromIndexSize_8c36e cJ3_checkFromIndexSize_8c36e 4 (some .int), .methodLink RJ2 71 yJ2_getChar_3b067, .static yJ2_getChar_3b067, .code yJ2_getChar_3b067 cJ2_getChar_3b067 2 (some .char), .fieldLink RJ2 44 "java/lang/StringUTF16" "$assertionsDisabled" "Z", .fieldLink RJ2 59 "java/lang/StringUTF16" "HI_BYTE_SHIFT" "I", .fieldLink RJ2 63 "java/lang/StringUTF16" "LO_BYTE_SHIFT" "I"])
def wsJ2_compress_39247_r1 : List Cond := [Cond.arrayClass .byte, Cond.methodLink RJ2 123 yJ2_compress_5af95, Cond.static yJ2_compress_5af95, Cond.initialized RJ2, Cond.code yJ2_compress_5af95 cJ2_compress_5af95 7 (some .int), Cond.methodLink RJ2 173 yJ2_checkBoundsOffCount_d044e, Cond.static yJ2_checkBoundsOffCount_d044e, Cond.code yJ2_checkBoundsOffCount_d044e cJ2_checkBoundsOffCount_d044e 3 none, Cond.methodLink RJ2 48 yJ2_length_9d52b, Cond.static yJ2_length_9d52b, Cond.code yJ2_length_9d52b cJ2_length_9d52b 1 (some .int), Cond.methodLink RJ2 419 yJ0_checkBoundsOffCount_cabcc, Cond.static yJ0_checkBoundsOffCount_cabcc, Cond.initialized RJ0, Cond.code yJ0_checkBoundsOffCount_cabcc cJ0_checkBoundsOffCount_cabcc 3 (some .int), Cond.fieldLink RJ0 1053 "jdk/internal/util/Preconditions" "SIOOBE_FORMATTER" "Ljava/util/function/BiFunction;", Cond.methodLink RJ0 1065 yJ3_checkFromIndexSize_8c36e, Cond.static yJ3_checkFromIndexSize_8c36e, Cond.initialized RJ3, Cond.code yJ3_checkFromIndexSize_8c36e cJ3_checkFromIndexSize_8c36e 4 (some .int), Cond.methodLink RJ2 71 yJ2_getChar_3b067, Cond.static yJ2_getChar_3b067, Cond.code yJ2_getChar_3b067 cJ2_getChar_3b067 2 (some .char), Cond.fieldLink RJ2 44 "java/lang/StringUTF16" "$assertionsDisabled" "Z"]
def wsJ2_compress_39247_r2 : List Cond := [Cond.fieldLink RJ2 59 "java/lang/StringUTF16" "HI_BYTE_SHIFT" "I", Cond.fieldLink RJ2 63 "java/lang/StringUTF16" "LO_BYTE_SHIFT" "I", Cond.methodLink RJ2 11 yJ2_newBytesLength_0f7a4, Cond.static yJ2_newBytesLength_0f7a4, Cond.code yJ2_newBytesLength_0f7a4 cJ2_newBytesLength_0f7a4 1 (some .int), Cond.constant RJ2 20 (1073741823), Cond.methodLink RJ2 126 yJ7_copyOfRange_39247, Cond.static yJ7_copyOfRange_39247, Cond.initialized RJ7, Cond.code yJ7_copyOfRange_39247 cJ7_copyOfRange_39247 3 (some (.array .byte)), Cond.methodLink RJ7 310 ⟨"[B", "clone", "()Ljava/lang/Object;"⟩, Cond.sameMethod "[B" "java/lang/Object" "clone" "()Ljava/lang/Object;", Cond.native ⟨"java/lang/Object", "clone", "()Ljava/lang/Object;"⟩, Cond.instanceMethod ⟨"java/lang/Object", "clone", "()Ljava/lang/Object;"⟩, Cond.selects "[B" ⟨"[B", "clone", "()Ljava/lang/Object;"⟩ ⟨"java/lang/Object", "clone", "()Ljava/lang/Object;"⟩, Cond.classLink RJ7 311 "[B", Cond.methodLink RJ7 339 yJ7_copyOfRangeByte_39247, Cond.static yJ7_copyOfRangeByte_39247, Cond.code yJ7_copyOfRangeByte_39247 cJ7_copyOfRangeByte_39247 5 (some (.array .byte)), Cond.methodLink RJ7 304 Lib.Math.min.name, Cond.static Lib.Math.min.name, Cond.initialized "java/lang/Math", Cond.code Lib.Math.min.name Lib.Math.min.code 2 (some .int), Cond.methodLink RJ7 150 arraycopyName]
def wsJ2_compress_39247_r3 : List Cond := [Cond.native arraycopyName, Cond.static arraycopyName, Cond.initialized "java/lang/System", Cond.methodLink RJ7 343 yJ7_checkLength_df160, Cond.static yJ7_checkLength_df160, Cond.code yJ7_checkLength_df160 cJ7_checkLength_df160 2 none, Cond.classLink RJ7 45 RJ4, Cond.instantiable RJ4 4, Cond.initialized RJ4]
def wsJ2_compress_39247 : List Cond := .code yJ2_compress_39247 cJ2_compress_39247 6 (some (.array .byte)) :: ((wsJ2_compress_39247_r1 ++ (wsJ2_compress_39247_r2 ++ wsJ2_compress_39247_r3)) ++ wsJ40)
def wsJ2_coderFromArrayLen_85cad : List Cond := .code yJ2_coderFromArrayLen_85cad cJ2_coderFromArrayLen_85cad 2 (some .byte) :: ([])
def wsJ0_init_db425_r1 : List Cond := [Cond.methodLink RJ0 1 objectInit, Cond.instanceMethod objectInit, Cond.code objectInit ⟨#[0xb1]⟩ 1 none, Cond.fieldLink RJ0 15 "java/lang/String" "coder" "B", Cond.fieldLink RJ0 9 "java/lang/String" "value" "[B", Cond.fieldLink RJ0 38 "java/lang/String" "COMPACT_STRINGS" "Z", Cond.fieldLink RJ0 1048 "java/lang/AbstractStringBuilder" "maybeLatin1" "Z", Cond.methodLink RJ0 552 ⟨"java/lang/AbstractStringBuilder", "getValue", "()[B"⟩, Cond.sameMethod "java/lang/AbstractStringBuilder" "java/lang/AbstractStringBuilder" "getValue" "()[B", Cond.selects RJ4 ⟨"java/lang/AbstractStringBuilder", "getValue", "()[B"⟩ yJ5_getValue_6d5f1, Cond.instanceMethod yJ5_getValue_6d5f1, Cond.initialized RJ5, Cond.code yJ5_getValue_6d5f1 cJ5_getValue_6d5f1 1 (some (.array .byte)), Cond.fieldLink RJ5 15 "java/lang/AbstractStringBuilder" "value" "[B", Cond.methodLink RJ0 549 ⟨"java/lang/AbstractStringBuilder", "length", "()I"⟩, Cond.sameMethod "java/lang/AbstractStringBuilder" "java/lang/AbstractStringBuilder" "length" "()I", Cond.instanceMethod ⟨"java/lang/AbstractStringBuilder", "length", "()I"⟩, Cond.selects RJ4 ⟨"java/lang/AbstractStringBuilder", "length", "()I"⟩ yJ4_length_8abf5, Cond.instanceMethod yJ4_length_8abf5, Cond.initialized RJ4, Cond.code yJ4_length_8abf5 cJ4_length_8abf5 1 (some .int), Cond.methodLink RJ4 343 yJ5_length_8abf5, Cond.superclass RJ4 RJ5, Cond.instanceMethod yJ5_length_8abf5]
def wsJ0_init_db425_r2 : List Cond := [Cond.code yJ5_length_8abf5 cJ5_length_8abf5 1 (some .int), Cond.fieldLink RJ5 79 "java/lang/AbstractStringBuilder" "count" "I", Cond.methodLink RJ0 1047 ⟨"java/lang/AbstractStringBuilder", "isLatin1", "()Z"⟩, Cond.sameMethod "java/lang/AbstractStringBuilder" "java/lang/AbstractStringBuilder" "isLatin1" "()Z", Cond.selects RJ4 ⟨"java/lang/AbstractStringBuilder", "isLatin1", "()Z"⟩ yJ5_isLatin1_aae02, Cond.instanceMethod yJ5_isLatin1_aae02, Cond.code yJ5_isLatin1_aae02 cJ5_isLatin1_aae02 1 (some .boolean), Cond.fieldLink RJ5 18 "java/lang/String" "COMPACT_STRINGS" "Z", Cond.fieldLink RJ5 22 "java/lang/AbstractStringBuilder" "coder" "B", Cond.methodLink RJ0 54 yJ7_copyOfRange_39247, Cond.static yJ7_copyOfRange_39247, Cond.initialized RJ7, Cond.code yJ7_copyOfRange_39247 cJ7_copyOfRange_39247 3 (some (.array .byte)), Cond.methodLink RJ7 310 ⟨"[B", "clone", "()Ljava/lang/Object;"⟩, Cond.sameMethod "[B" "java/lang/Object" "clone" "()Ljava/lang/Object;", Cond.native ⟨"java/lang/Object", "clone", "()Ljava/lang/Object;"⟩, Cond.instanceMethod ⟨"java/lang/Object", "clone", "()Ljava/lang/Object;"⟩, Cond.selects "[B" ⟨"[B", "clone", "()Ljava/lang/Object;"⟩ ⟨"java/lang/Object", "clone", "()Ljava/lang/Object;"⟩, Cond.classLink RJ7 311 "[B", Cond.methodLink RJ7 339 yJ7_copyOfRangeByte_39247, Cond.static yJ7_copyOfRangeByte_39247, Cond.code yJ7_copyOfRangeByte_39247 cJ7_copyOfRangeByte_39247 5 (some (.array .byte)), Cond.arrayClass .byte, Cond.methodLink RJ7 304 Lib.Math.min.name]
def wsJ0_init_db425_r3 : List Cond := [Cond.static Lib.Math.min.name, Cond.initialized "java/lang/Math", Cond.code Lib.Math.min.name Lib.Math.min.code 2 (some .int), Cond.methodLink RJ7 150 arraycopyName, Cond.native arraycopyName, Cond.static arraycopyName, Cond.initialized "java/lang/System", Cond.methodLink RJ7 343 yJ7_checkLength_df160, Cond.static yJ7_checkLength_df160, Cond.code yJ7_checkLength_df160 cJ7_checkLength_df160 2 none, Cond.classLink RJ7 45 RJ4, Cond.instantiable RJ4 4, Cond.methodLink RJ0 1051 yJ2_compress_39247, Cond.static yJ2_compress_39247, Cond.initialized RJ2, Cond.code yJ2_compress_39247 cJ2_compress_39247 6 (some (.array .byte)), Cond.methodLink RJ2 123 yJ2_compress_5af95, Cond.static yJ2_compress_5af95, Cond.code yJ2_compress_5af95 cJ2_compress_5af95 7 (some .int), Cond.methodLink RJ2 173 yJ2_checkBoundsOffCount_d044e, Cond.static yJ2_checkBoundsOffCount_d044e, Cond.code yJ2_checkBoundsOffCount_d044e cJ2_checkBoundsOffCount_d044e 3 none, Cond.methodLink RJ2 48 yJ2_length_9d52b, Cond.static yJ2_length_9d52b]
def wsJ0_init_db425_r4 : List Cond := [Cond.code yJ2_length_9d52b cJ2_length_9d52b 1 (some .int), Cond.methodLink RJ2 419 yJ0_checkBoundsOffCount_cabcc, Cond.static yJ0_checkBoundsOffCount_cabcc, Cond.initialized RJ0, Cond.code yJ0_checkBoundsOffCount_cabcc cJ0_checkBoundsOffCount_cabcc 3 (some .int), Cond.fieldLink RJ0 1053 "jdk/internal/util/Preconditions" "SIOOBE_FORMATTER" "Ljava/util/function/BiFunction;", Cond.methodLink RJ0 1065 yJ3_checkFromIndexSize_8c36e, Cond.static yJ3_checkFromIndexSize_8c36e, Cond.initialized RJ3, Cond.code yJ3_checkFromIndexSize_8c36e cJ3_checkFromIndexSize_8c36e 4 (some .int), Cond.methodLink RJ2 71 yJ2_getChar_3b067, Cond.static yJ2_getChar_3b067, Cond.code yJ2_getChar_3b067 cJ2_getChar_3b067 2 (some .char), Cond.fieldLink RJ2 44 "java/lang/StringUTF16" "$assertionsDisabled" "Z", Cond.fieldLink RJ2 59 "java/lang/StringUTF16" "HI_BYTE_SHIFT" "I", Cond.fieldLink RJ2 63 "java/lang/StringUTF16" "LO_BYTE_SHIFT" "I", Cond.methodLink RJ2 11 yJ2_newBytesLength_0f7a4, Cond.static yJ2_newBytesLength_0f7a4, Cond.code yJ2_newBytesLength_0f7a4 cJ2_newBytesLength_0f7a4 1 (some .int), Cond.constant RJ2 20 (1073741823), Cond.methodLink RJ2 126 yJ7_copyOfRange_39247, Cond.methodLink RJ0 47 yJ2_coderFromArrayLen_85cad, Cond.static yJ2_coderFromArrayLen_85cad, Cond.code yJ2_coderFromArrayLen_85cad cJ2_coderFromArrayLen_85cad 2 (some .byte)]
def wsJ0_init_db425 : List Cond := .code yJ0_init_db425 cJ0_init_db425 5 none :: ((wsJ0_init_db425_r1 ++ (wsJ0_init_db425_r2 ++ (wsJ0_init_db425_r3 ++ wsJ0_init_db425_r4))) ++ wsJ00 ++ wsJ40)
def wsJ0_init_81219_r1 : List Cond := [Cond.methodLink RJ0 489 yJ0_init_db425, Cond.instanceMethod yJ0_init_db425, Cond.initialized RJ0, Cond.code yJ0_init_db425 cJ0_init_db425 5 none, Cond.methodLink RJ0 1 objectInit, Cond.instanceMethod objectInit, Cond.code objectInit ⟨#[0xb1]⟩ 1 none, Cond.fieldLink RJ0 15 "java/lang/String" "coder" "B", Cond.fieldLink RJ0 9 "java/lang/String" "value" "[B", Cond.fieldLink RJ0 38 "java/lang/String" "COMPACT_STRINGS" "Z", Cond.fieldLink RJ0 1048 "java/lang/AbstractStringBuilder" "maybeLatin1" "Z", Cond.methodLink RJ0 552 ⟨"java/lang/AbstractStringBuilder", "getValue", "()[B"⟩, Cond.sameMethod "java/lang/AbstractStringBuilder" "java/lang/AbstractStringBuilder" "getValue" "()[B", Cond.selects RJ4 ⟨"java/lang/AbstractStringBuilder", "getValue", "()[B"⟩ yJ5_getValue_6d5f1, Cond.instanceMethod yJ5_getValue_6d5f1, Cond.initialized RJ5, Cond.code yJ5_getValue_6d5f1 cJ5_getValue_6d5f1 1 (some (.array .byte)), Cond.fieldLink RJ5 15 "java/lang/AbstractStringBuilder" "value" "[B", Cond.methodLink RJ0 549 ⟨"java/lang/AbstractStringBuilder", "length", "()I"⟩, Cond.sameMethod "java/lang/AbstractStringBuilder" "java/lang/AbstractStringBuilder" "length" "()I", Cond.instanceMethod ⟨"java/lang/AbstractStringBuilder", "length", "()I"⟩, Cond.selects RJ4 ⟨"java/lang/AbstractStringBuilder", "length", "()I"⟩ yJ4_length_8abf5, Cond.instanceMethod yJ4_length_8abf5, Cond.initialized RJ4]
def wsJ0_init_81219_r2 : List Cond := [Cond.code yJ4_length_8abf5 cJ4_length_8abf5 1 (some .int), Cond.methodLink RJ4 343 yJ5_length_8abf5, Cond.superclass RJ4 RJ5, Cond.instanceMethod yJ5_length_8abf5, Cond.code yJ5_length_8abf5 cJ5_length_8abf5 1 (some .int), Cond.fieldLink RJ5 79 "java/lang/AbstractStringBuilder" "count" "I", Cond.methodLink RJ0 1047 ⟨"java/lang/AbstractStringBuilder", "isLatin1", "()Z"⟩, Cond.sameMethod "java/lang/AbstractStringBuilder" "java/lang/AbstractStringBuilder" "isLatin1" "()Z", Cond.selects RJ4 ⟨"java/lang/AbstractStringBuilder", "isLatin1", "()Z"⟩ yJ5_isLatin1_aae02, Cond.instanceMethod yJ5_isLatin1_aae02, Cond.code yJ5_isLatin1_aae02 cJ5_isLatin1_aae02 1 (some .boolean), Cond.fieldLink RJ5 18 "java/lang/String" "COMPACT_STRINGS" "Z", Cond.fieldLink RJ5 22 "java/lang/AbstractStringBuilder" "coder" "B", Cond.methodLink RJ0 54 yJ7_copyOfRange_39247, Cond.static yJ7_copyOfRange_39247, Cond.initialized RJ7, Cond.code yJ7_copyOfRange_39247 cJ7_copyOfRange_39247 3 (some (.array .byte)), Cond.methodLink RJ7 310 ⟨"[B", "clone", "()Ljava/lang/Object;"⟩, Cond.sameMethod "[B" "java/lang/Object" "clone" "()Ljava/lang/Object;", Cond.native ⟨"java/lang/Object", "clone", "()Ljava/lang/Object;"⟩, Cond.instanceMethod ⟨"java/lang/Object", "clone", "()Ljava/lang/Object;"⟩, Cond.selects "[B" ⟨"[B", "clone", "()Ljava/lang/Object;"⟩ ⟨"java/lang/Object", "clone", "()Ljava/lang/Object;"⟩, Cond.classLink RJ7 311 "[B", Cond.methodLink RJ7 339 yJ7_copyOfRangeByte_39247]
def wsJ0_init_81219_r3 : List Cond := [Cond.static yJ7_copyOfRangeByte_39247, Cond.code yJ7_copyOfRangeByte_39247 cJ7_copyOfRangeByte_39247 5 (some (.array .byte)), Cond.arrayClass .byte, Cond.methodLink RJ7 304 Lib.Math.min.name, Cond.static Lib.Math.min.name, Cond.initialized "java/lang/Math", Cond.code Lib.Math.min.name Lib.Math.min.code 2 (some .int), Cond.methodLink RJ7 150 arraycopyName, Cond.native arraycopyName, Cond.static arraycopyName, Cond.initialized "java/lang/System", Cond.methodLink RJ7 343 yJ7_checkLength_df160, Cond.static yJ7_checkLength_df160, Cond.code yJ7_checkLength_df160 cJ7_checkLength_df160 2 none, Cond.classLink RJ7 45 RJ4, Cond.instantiable RJ4 4, Cond.methodLink RJ0 1051 yJ2_compress_39247, Cond.static yJ2_compress_39247, Cond.initialized RJ2, Cond.code yJ2_compress_39247 cJ2_compress_39247 6 (some (.array .byte)), Cond.methodLink RJ2 123 yJ2_compress_5af95, Cond.static yJ2_compress_5af95, Cond.code yJ2_compress_5af95 cJ2_compress_5af95 7 (some .int), Cond.methodLink RJ2 173 yJ2_checkBoundsOffCount_d044e]
def wsJ0_init_81219_r4 : List Cond := [Cond.static yJ2_checkBoundsOffCount_d044e, Cond.code yJ2_checkBoundsOffCount_d044e cJ2_checkBoundsOffCount_d044e 3 none, Cond.methodLink RJ2 48 yJ2_length_9d52b, Cond.static yJ2_length_9d52b, Cond.code yJ2_length_9d52b cJ2_length_9d52b 1 (some .int), Cond.methodLink RJ2 419 yJ0_checkBoundsOffCount_cabcc, Cond.static yJ0_checkBoundsOffCount_cabcc, Cond.code yJ0_checkBoundsOffCount_cabcc cJ0_checkBoundsOffCount_cabcc 3 (some .int), Cond.fieldLink RJ0 1053 "jdk/internal/util/Preconditions" "SIOOBE_FORMATTER" "Ljava/util/function/BiFunction;", Cond.methodLink RJ0 1065 yJ3_checkFromIndexSize_8c36e, Cond.static yJ3_checkFromIndexSize_8c36e, Cond.initialized RJ3, Cond.code yJ3_checkFromIndexSize_8c36e cJ3_checkFromIndexSize_8c36e 4 (some .int), Cond.methodLink RJ2 71 yJ2_getChar_3b067, Cond.static yJ2_getChar_3b067, Cond.code yJ2_getChar_3b067 cJ2_getChar_3b067 2 (some .char), Cond.fieldLink RJ2 44 "java/lang/StringUTF16" "$assertionsDisabled" "Z", Cond.fieldLink RJ2 59 "java/lang/StringUTF16" "HI_BYTE_SHIFT" "I", Cond.fieldLink RJ2 63 "java/lang/StringUTF16" "LO_BYTE_SHIFT" "I", Cond.methodLink RJ2 11 yJ2_newBytesLength_0f7a4, Cond.static yJ2_newBytesLength_0f7a4, Cond.code yJ2_newBytesLength_0f7a4 cJ2_newBytesLength_0f7a4 1 (some .int), Cond.constant RJ2 20 (1073741823), Cond.methodLink RJ2 126 yJ7_copyOfRange_39247]
def wsJ0_init_81219_r5 : List Cond := [Cond.methodLink RJ0 47 yJ2_coderFromArrayLen_85cad, Cond.static yJ2_coderFromArrayLen_85cad, Cond.code yJ2_coderFromArrayLen_85cad cJ2_coderFromArrayLen_85cad 2 (some .byte)]
def wsJ0_init_81219 : List Cond := .code yJ0_init_81219 cJ0_init_81219 2 none :: ((wsJ0_init_81219_r1 ++ (wsJ0_init_81219_r2 ++ (wsJ0_init_81219_r3 ++ (wsJ0_init_81219_r4 ++ wsJ0_init_81219_r5)))) ++ wsJ00 ++ wsJ40)
def wsJ4_toString_0e30d_r1 : List Cond := [Cond.classLink RJ4 18 RJ0, Cond.instantiable RJ0 4, Cond.initialized RJ0, Cond.methodLink RJ4 137 yJ0_init_81219, Cond.instanceMethod yJ0_init_81219, Cond.code yJ0_init_81219 cJ0_init_81219 2 none, Cond.methodLink RJ0 489 yJ0_init_db425, Cond.instanceMethod yJ0_init_db425, Cond.code yJ0_init_db425 cJ0_init_db425 5 none, Cond.methodLink RJ0 1 objectInit, Cond.instanceMethod objectInit, Cond.code objectInit ⟨#[0xb1]⟩ 1 none, Cond.fieldLink RJ0 15 "java/lang/String" "coder" "B", Cond.fieldLink RJ0 9 "java/lang/String" "value" "[B", Cond.fieldLink RJ0 38 "java/lang/String" "COMPACT_STRINGS" "Z", Cond.fieldLink RJ0 1048 "java/lang/AbstractStringBuilder" "maybeLatin1" "Z", Cond.methodLink RJ0 552 ⟨"java/lang/AbstractStringBuilder", "getValue", "()[B"⟩, Cond.sameMethod "java/lang/AbstractStringBuilder" "java/lang/AbstractStringBuilder" "getValue" "()[B", Cond.selects RJ4 ⟨"java/lang/AbstractStringBuilder", "getValue", "()[B"⟩ yJ5_getValue_6d5f1, Cond.instanceMethod yJ5_getValue_6d5f1, Cond.initialized RJ5, Cond.code yJ5_getValue_6d5f1 cJ5_getValue_6d5f1 1 (some (.array .byte)), Cond.fieldLink RJ5 15 "java/lang/AbstractStringBuilder" "value" "[B", Cond.methodLink RJ0 549 ⟨"java/lang/AbstractStringBuilder", "length", "()I"⟩]
def wsJ4_toString_0e30d_r2 : List Cond := [Cond.sameMethod "java/lang/AbstractStringBuilder" "java/lang/AbstractStringBuilder" "length" "()I", Cond.instanceMethod ⟨"java/lang/AbstractStringBuilder", "length", "()I"⟩, Cond.selects RJ4 ⟨"java/lang/AbstractStringBuilder", "length", "()I"⟩ yJ4_length_8abf5, Cond.instanceMethod yJ4_length_8abf5, Cond.initialized RJ4, Cond.code yJ4_length_8abf5 cJ4_length_8abf5 1 (some .int), Cond.methodLink RJ4 343 yJ5_length_8abf5, Cond.superclass RJ4 RJ5, Cond.instanceMethod yJ5_length_8abf5, Cond.code yJ5_length_8abf5 cJ5_length_8abf5 1 (some .int), Cond.fieldLink RJ5 79 "java/lang/AbstractStringBuilder" "count" "I", Cond.methodLink RJ0 1047 ⟨"java/lang/AbstractStringBuilder", "isLatin1", "()Z"⟩, Cond.sameMethod "java/lang/AbstractStringBuilder" "java/lang/AbstractStringBuilder" "isLatin1" "()Z", Cond.selects RJ4 ⟨"java/lang/AbstractStringBuilder", "isLatin1", "()Z"⟩ yJ5_isLatin1_aae02, Cond.instanceMethod yJ5_isLatin1_aae02, Cond.code yJ5_isLatin1_aae02 cJ5_isLatin1_aae02 1 (some .boolean), Cond.fieldLink RJ5 18 "java/lang/String" "COMPACT_STRINGS" "Z", Cond.fieldLink RJ5 22 "java/lang/AbstractStringBuilder" "coder" "B", Cond.methodLink RJ0 54 yJ7_copyOfRange_39247, Cond.static yJ7_copyOfRange_39247, Cond.initialized RJ7, Cond.code yJ7_copyOfRange_39247 cJ7_copyOfRange_39247 3 (some (.array .byte)), Cond.methodLink RJ7 310 ⟨"[B", "clone", "()Ljava/lang/Object;"⟩, Cond.sameMethod "[B" "java/lang/Object" "clone" "()Ljava/lang/Object;"]
def wsJ4_toString_0e30d_r3 : List Cond := [Cond.native ⟨"java/lang/Object", "clone", "()Ljava/lang/Object;"⟩, Cond.instanceMethod ⟨"java/lang/Object", "clone", "()Ljava/lang/Object;"⟩, Cond.selects "[B" ⟨"[B", "clone", "()Ljava/lang/Object;"⟩ ⟨"java/lang/Object", "clone", "()Ljava/lang/Object;"⟩, Cond.classLink RJ7 311 "[B", Cond.methodLink RJ7 339 yJ7_copyOfRangeByte_39247, Cond.static yJ7_copyOfRangeByte_39247, Cond.code yJ7_copyOfRangeByte_39247 cJ7_copyOfRangeByte_39247 5 (some (.array .byte)), Cond.arrayClass .byte, Cond.methodLink RJ7 304 Lib.Math.min.name, Cond.static Lib.Math.min.name, Cond.initialized "java/lang/Math", Cond.code Lib.Math.min.name Lib.Math.min.code 2 (some .int), Cond.methodLink RJ7 150 arraycopyName, Cond.native arraycopyName, Cond.static arraycopyName, Cond.initialized "java/lang/System", Cond.methodLink RJ7 343 yJ7_checkLength_df160, Cond.static yJ7_checkLength_df160, Cond.code yJ7_checkLength_df160 cJ7_checkLength_df160 2 none, Cond.classLink RJ7 45 RJ4, Cond.instantiable RJ4 4, Cond.methodLink RJ0 1051 yJ2_compress_39247, Cond.static yJ2_compress_39247, Cond.initialized RJ2]
def wsJ4_toString_0e30d_r4 : List Cond := [Cond.code yJ2_compress_39247 cJ2_compress_39247 6 (some (.array .byte)), Cond.methodLink RJ2 123 yJ2_compress_5af95, Cond.static yJ2_compress_5af95, Cond.code yJ2_compress_5af95 cJ2_compress_5af95 7 (some .int), Cond.methodLink RJ2 173 yJ2_checkBoundsOffCount_d044e, Cond.static yJ2_checkBoundsOffCount_d044e, Cond.code yJ2_checkBoundsOffCount_d044e cJ2_checkBoundsOffCount_d044e 3 none, Cond.methodLink RJ2 48 yJ2_length_9d52b, Cond.static yJ2_length_9d52b, Cond.code yJ2_length_9d52b cJ2_length_9d52b 1 (some .int), Cond.methodLink RJ2 419 yJ0_checkBoundsOffCount_cabcc, Cond.static yJ0_checkBoundsOffCount_cabcc, Cond.code yJ0_checkBoundsOffCount_cabcc cJ0_checkBoundsOffCount_cabcc 3 (some .int), Cond.fieldLink RJ0 1053 "jdk/internal/util/Preconditions" "SIOOBE_FORMATTER" "Ljava/util/function/BiFunction;", Cond.methodLink RJ0 1065 yJ3_checkFromIndexSize_8c36e, Cond.static yJ3_checkFromIndexSize_8c36e, Cond.initialized RJ3, Cond.code yJ3_checkFromIndexSize_8c36e cJ3_checkFromIndexSize_8c36e 4 (some .int), Cond.methodLink RJ2 71 yJ2_getChar_3b067, Cond.static yJ2_getChar_3b067, Cond.code yJ2_getChar_3b067 cJ2_getChar_3b067 2 (some .char), Cond.fieldLink RJ2 44 "java/lang/StringUTF16" "$assertionsDisabled" "Z", Cond.fieldLink RJ2 59 "java/lang/StringUTF16" "HI_BYTE_SHIFT" "I", Cond.fieldLink RJ2 63 "java/lang/StringUTF16" "LO_BYTE_SHIFT" "I"]
def wsJ4_toString_0e30d_r5 : List Cond := [Cond.methodLink RJ2 11 yJ2_newBytesLength_0f7a4, Cond.static yJ2_newBytesLength_0f7a4, Cond.code yJ2_newBytesLength_0f7a4 cJ2_newBytesLength_0f7a4 1 (some .int), Cond.constant RJ2 20 (1073741823), Cond.methodLink RJ2 126 yJ7_copyOfRange_39247, Cond.methodLink RJ0 47 yJ2_coderFromArrayLen_85cad, Cond.static yJ2_coderFromArrayLen_85cad, Cond.code yJ2_coderFromArrayLen_85cad cJ2_coderFromArrayLen_85cad 2 (some .byte)]
def wsJ4_toString_0e30d : List Cond := .code yJ4_toString_0e30d cJ4_toString_0e30d 1 (some (.object "java/lang/String")) :: ((wsJ4_toString_0e30d_r1 ++ (wsJ4_toString_0e30d_r2 ++ (wsJ4_toString_0e30d_r3 ++ (wsJ4_toString_0e30d_r4 ++ wsJ4_toString_0e30d_r5)))) ++ wsJ00 ++ wsJ40)
def wsX5_text_r1 : List Cond := [Cond.classLink RX5 264 RJ4, Cond.instantiable RJ4 4, Cond.initialized RJ4, Cond.methodLink RX5 65 yX5_urnOf, Cond.instanceMethod yX5_urnOf, Cond.selects RX5 yX5_urnOf yX5_urnOf, Cond.initialized RX5, Cond.code yX5_urnOf cX5_urnOf 3 (some (.object "Urnwright$Urn")), Cond.classLink RX5 231 "java/lang/IndexOutOfBoundsException", Cond.initialized "java/lang/IndexOutOfBoundsException", Cond.fieldLink RX5 11 "Urnwright" "urns" "[LUrnwright$Urn;", Cond.methodLink RX5 266 yJ4_init_da8c8, Cond.instanceMethod yJ4_init_da8c8, Cond.code yJ4_init_da8c8 cJ4_init_da8c8 1 none, Cond.methodLink RJ4 1 yJ5_init_d00df, Cond.instanceMethod yJ5_init_d00df, Cond.initialized RJ5, Cond.code yJ5_init_d00df cJ5_init_d00df 2 none, Cond.methodLink RJ5 3 objectInit, Cond.instanceMethod objectInit, Cond.code objectInit ⟨#[0xb1]⟩ 1 none, Cond.fieldLink RJ5 18 "java/lang/String" "COMPACT_STRINGS" "Z", Cond.arrayClass .byte, Cond.fieldLink RJ5 15 "java/lang/AbstractStringBuilder" "value" "[B"]
def wsX5_text_r2 : List Cond := [Cond.fieldLink RJ5 22 "java/lang/AbstractStringBuilder" "coder" "B", Cond.methodLink RJ5 26 yJ2_newBytesFor_77867, Cond.static yJ2_newBytesFor_77867, Cond.initialized RJ2, Cond.code yJ2_newBytesFor_77867 cJ2_newBytesFor_77867 1 (some (.array .byte)), Cond.methodLink RJ2 11 yJ2_newBytesLength_0f7a4, Cond.static yJ2_newBytesLength_0f7a4, Cond.code yJ2_newBytesLength_0f7a4 cJ2_newBytesLength_0f7a4 1 (some .int), Cond.constant RJ2 20 (1073741823), Cond.methodLink RX5 95 yX5_at, Cond.static yX5_at, Cond.code yX5_at cX5_at 2 (some .int), Cond.methodLink RX5 267 yJ4_append_bf812, Cond.instanceMethod yJ4_append_bf812, Cond.selects RJ4 yJ4_append_bf812 yJ4_append_bf812, Cond.code yJ4_append_bf812 cJ4_append_bf812 2 (some (.object "java/lang/StringBuilder")), Cond.methodLink RJ4 53 yJ5_append_c97b9, Cond.sameMethod "java/lang/AbstractStringBuilder" "java/lang/AbstractStringBuilder" "append" "(I)Ljava/lang/AbstractStringBuilder;", Cond.superclass RJ4 RJ5, Cond.instanceMethod yJ5_append_c97b9, Cond.code yJ5_append_c97b9 cJ5_append_c97b9 4 (some (.object "java/lang/AbstractStringBuilder")), Cond.fieldLink RJ5 79 "java/lang/AbstractStringBuilder" "count" "I", Cond.methodLink RJ5 245 yJ6_stringSize_0f7a4, Cond.static yJ6_stringSize_0f7a4]
def wsX5_text_r3 : List Cond := [Cond.initialized RJ6, Cond.code yJ6_stringSize_0f7a4 cJ6_stringSize_0f7a4 4 (some .int), Cond.methodLink RJ5 100 ⟨"java/lang/AbstractStringBuilder", "ensureCapacityInternal", "(I)V"⟩, Cond.sameMethod "java/lang/AbstractStringBuilder" "java/lang/AbstractStringBuilder" "ensureCapacityInternal" "(I)V", Cond.selects RJ4 ⟨"java/lang/AbstractStringBuilder", "ensureCapacityInternal", "(I)V"⟩ yJ5_ensureCapacityInternal_d00df, Cond.instanceMethod yJ5_ensureCapacityInternal_d00df, Cond.code yJ5_ensureCapacityInternal_d00df cJ5_ensureCapacityInternal_d00df 3 none, Cond.methodLink RJ5 104 ⟨"java/lang/AbstractStringBuilder", "newCapacity", "(I)I"⟩, Cond.sameMethod "java/lang/AbstractStringBuilder" "java/lang/AbstractStringBuilder" "newCapacity" "(I)I", Cond.selects RJ4 ⟨"java/lang/AbstractStringBuilder", "newCapacity", "(I)I"⟩ yJ5_newCapacity_0f7a4, Cond.instanceMethod yJ5_newCapacity_0f7a4, Cond.code yJ5_newCapacity_0f7a4 cJ5_newCapacity_0f7a4 6 (some .int), Cond.constant RJ5 39 (2147483647), Cond.methodLink RJ5 114 yJ8_newLength_cabcc, Cond.static yJ8_newLength_cabcc, Cond.initialized RJ8, Cond.code yJ8_newLength_cabcc cJ8_newLength_cabcc 4 (some .int), Cond.methodLink RJ8 194 Lib.Math.max.name, Cond.static Lib.Math.max.name, Cond.initialized "java/lang/Math", Cond.code Lib.Math.max.name Lib.Math.max.code 2 (some .int), Cond.constant RJ8 200 (2147483639), Cond.methodLink RJ8 201 yJ8_hugeLength_7cf53, Cond.static yJ8_hugeLength_7cf53]
def wsX5_text_r4 : List Cond := [Cond.code yJ8_hugeLength_7cf53 cJ8_hugeLength_7cf53 3 (some .int), Cond.methodLink RJ5 108 yJ7_copyOf_9075b, Cond.static yJ7_copyOf_9075b, Cond.initialized RJ7, Cond.code yJ7_copyOf_9075b cJ7_copyOf_9075b 3 (some (.array .byte)), Cond.methodLink RJ7 310 ⟨"[B", "clone", "()Ljava/lang/Object;"⟩, Cond.sameMethod "[B" "java/lang/Object" "clone" "()Ljava/lang/Object;", Cond.native ⟨"java/lang/Object", "clone", "()Ljava/lang/Object;"⟩, Cond.instanceMethod ⟨"java/lang/Object", "clone", "()Ljava/lang/Object;"⟩, Cond.selects "[B" ⟨"[B", "clone", "()Ljava/lang/Object;"⟩ ⟨"java/lang/Object", "clone", "()Ljava/lang/Object;"⟩, Cond.classLink RJ7 311 "[B", Cond.methodLink RJ7 304 Lib.Math.min.name, Cond.static Lib.Math.min.name, Cond.code Lib.Math.min.name Lib.Math.min.code 2 (some .int), Cond.methodLink RJ7 150 arraycopyName, Cond.native arraycopyName, Cond.static arraycopyName, Cond.initialized "java/lang/System", Cond.methodLink RJ5 83 ⟨"java/lang/AbstractStringBuilder", "isLatin1", "()Z"⟩, Cond.sameMethod "java/lang/AbstractStringBuilder" "java/lang/AbstractStringBuilder" "isLatin1" "()Z", Cond.selects RJ4 ⟨"java/lang/AbstractStringBuilder", "isLatin1", "()Z"⟩ yJ5_isLatin1_aae02, Cond.instanceMethod yJ5_isLatin1_aae02, Cond.code yJ5_isLatin1_aae02 cJ5_isLatin1_aae02 1 (some .boolean), Cond.methodLink RJ5 248 yJ6_getChars_ba4f3]
def wsX5_text_r5 : List Cond := [Cond.static yJ6_getChars_ba4f3, Cond.code yJ6_getChars_ba4f3 cJ6_getChars_ba4f3 7 (some .int), Cond.fieldLink RJ6 83 "java/lang/Integer" "DigitOnes" "[B", Cond.fieldLink RJ6 87 "java/lang/Integer" "DigitTens" "[B", Cond.methodLink RJ5 251 yJ2_getChars_46870, Cond.static yJ2_getChars_46870, Cond.code yJ2_getChars_46870 cJ2_getChars_46870 5 (some .int), Cond.fieldLink RJ2 44 "java/lang/StringUTF16" "$assertionsDisabled" "Z", Cond.methodLink RJ2 96 yJ2_checkBoundsBeginEnd_d044e, Cond.static yJ2_checkBoundsBeginEnd_d044e, Cond.code yJ2_checkBoundsBeginEnd_d044e cJ2_checkBoundsBeginEnd_d044e 3 none, Cond.methodLink RJ2 48 yJ2_length_9d52b, Cond.static yJ2_length_9d52b, Cond.code yJ2_length_9d52b cJ2_length_9d52b 1 (some .int), Cond.methodLink RJ2 241 yJ0_checkBoundsBeginEnd_23922, Cond.static yJ0_checkBoundsBeginEnd_23922, Cond.initialized RJ0, Cond.code yJ0_checkBoundsBeginEnd_23922 cJ0_checkBoundsBeginEnd_23922 3 none, Cond.fieldLink RJ0 1053 "jdk/internal/util/Preconditions" "SIOOBE_FORMATTER" "Ljava/util/function/BiFunction;", Cond.methodLink RJ0 1062 yJ3_checkFromToIndex_8c36e, Cond.static yJ3_checkFromToIndex_8c36e, Cond.initialized RJ3, Cond.code yJ3_checkFromToIndex_8c36e cJ3_checkFromToIndex_8c36e 4 (some .int), Cond.methodLink RJ2 393 yJ2_getChars_ba4f3]
def wsX5_text_r6 : List Cond := [Cond.static yJ2_getChars_ba4f3, Cond.code yJ2_getChars_ba4f3 cJ2_getChars_ba4f3 7 (some .int), Cond.fieldLink RJ2 403 "java/lang/Integer" "DigitOnes" "[B", Cond.fieldLink RJ2 407 "java/lang/Integer" "DigitTens" "[B", Cond.methodLink RJ2 111 yJ2_putChar_b72d1, Cond.static yJ2_putChar_b72d1, Cond.code yJ2_putChar_b72d1 cJ2_putChar_b72d1 3 none, Cond.fieldLink RJ2 59 "java/lang/StringUTF16" "HI_BYTE_SHIFT" "I", Cond.fieldLink RJ2 63 "java/lang/StringUTF16" "LO_BYTE_SHIFT" "I", Cond.methodLink RX5 271 yJ4_append_cf468, Cond.instanceMethod yJ4_append_cf468, Cond.selects RJ4 yJ4_append_cf468 yJ4_append_cf468, Cond.code yJ4_append_cf468 cJ4_append_cf468 2 (some (.object "java/lang/StringBuilder")), Cond.methodLink RJ4 50 yJ5_append_3fe6f, Cond.sameMethod "java/lang/AbstractStringBuilder" "java/lang/AbstractStringBuilder" "append" "(C)Ljava/lang/AbstractStringBuilder;", Cond.instanceMethod yJ5_append_3fe6f, Cond.code yJ5_append_3fe6f cJ5_append_3fe6f 2 (some (.object "java/lang/AbstractStringBuilder")), Cond.methodLink RJ5 191 yJ1_canEncode_fc78d, Cond.static yJ1_canEncode_fc78d, Cond.initialized RJ1, Cond.code yJ1_canEncode_fc78d cJ1_canEncode_fc78d 1 (some .boolean), Cond.methodLink RJ5 195 ⟨"java/lang/AbstractStringBuilder", "inflate", "()V"⟩, Cond.sameMethod "java/lang/AbstractStringBuilder" "java/lang/AbstractStringBuilder" "inflate" "()V", Cond.selects RJ4 ⟨"java/lang/AbstractStringBuilder", "inflate", "()V"⟩ yJ5_inflate_da8c8]
def wsX5_text_r7 : List Cond := [Cond.instanceMethod yJ5_inflate_da8c8, Cond.code yJ5_inflate_da8c8 cJ5_inflate_da8c8 2 none, Cond.methodLink RJ5 125 yJ1_inflate_0e8fd, Cond.static yJ1_inflate_0e8fd, Cond.code yJ1_inflate_0e8fd cJ1_inflate_0e8fd 5 none, Cond.methodLink RJ1 240 yJ2_inflate_0e8fd, Cond.static yJ2_inflate_0e8fd, Cond.code yJ2_inflate_0e8fd cJ2_inflate_0e8fd 6 none, Cond.methodLink RJ2 173 yJ2_checkBoundsOffCount_d044e, Cond.static yJ2_checkBoundsOffCount_d044e, Cond.code yJ2_checkBoundsOffCount_d044e cJ2_checkBoundsOffCount_d044e 3 none, Cond.methodLink RJ2 419 yJ0_checkBoundsOffCount_cabcc, Cond.static yJ0_checkBoundsOffCount_cabcc, Cond.code yJ0_checkBoundsOffCount_cabcc cJ0_checkBoundsOffCount_cabcc 3 (some .int), Cond.methodLink RJ0 1065 yJ3_checkFromIndexSize_8c36e, Cond.static yJ3_checkFromIndexSize_8c36e, Cond.code yJ3_checkFromIndexSize_8c36e cJ3_checkFromIndexSize_8c36e 4 (some .int), Cond.methodLink RJ5 197 yJ2_putCharSB_b72d1, Cond.static yJ2_putCharSB_b72d1, Cond.code yJ2_putCharSB_b72d1 cJ2_putCharSB_b72d1 3 none, Cond.methodLink RJ2 67 yJ2_checkIndex_2214a, Cond.static yJ2_checkIndex_2214a, Cond.code yJ2_checkIndex_2214a cJ2_checkIndex_2214a 2 none, Cond.methodLink RJ2 414 yJ0_checkIndex_df160]
def wsX5_text_r8 : List Cond := [Cond.static yJ0_checkIndex_df160, Cond.code yJ0_checkIndex_df160 cJ0_checkIndex_df160 2 none, Cond.methodLink RJ0 1059 yJ3_checkIndex_8e157, Cond.static yJ3_checkIndex_8e157, Cond.code yJ3_checkIndex_8e157 cJ3_checkIndex_8e157 3 (some .int), Cond.methodLink RX5 274 yJ4_toString_0e30d, Cond.instanceMethod yJ4_toString_0e30d, Cond.selects RJ4 yJ4_toString_0e30d yJ4_toString_0e30d, Cond.code yJ4_toString_0e30d cJ4_toString_0e30d 1 (some (.object "java/lang/String")), Cond.classLink RJ4 18 RJ0, Cond.instantiable RJ0 4, Cond.methodLink RJ4 137 yJ0_init_81219, Cond.instanceMethod yJ0_init_81219, Cond.code yJ0_init_81219 cJ0_init_81219 2 none, Cond.methodLink RJ0 489 yJ0_init_db425, Cond.instanceMethod yJ0_init_db425, Cond.code yJ0_init_db425 cJ0_init_db425 5 none, Cond.methodLink RJ0 1 objectInit, Cond.fieldLink RJ0 15 "java/lang/String" "coder" "B", Cond.fieldLink RJ0 9 "java/lang/String" "value" "[B", Cond.fieldLink RJ0 38 "java/lang/String" "COMPACT_STRINGS" "Z", Cond.fieldLink RJ0 1048 "java/lang/AbstractStringBuilder" "maybeLatin1" "Z", Cond.methodLink RJ0 552 ⟨"java/lang/AbstractStringBuilder", "getValue", "()[B"⟩, Cond.sameMethod "java/lang/AbstractStringBuilder" "java/lang/AbstractStringBuilder" "getValue" "()[B"]
def wsX5_text_r9 : List Cond := [Cond.selects RJ4 ⟨"java/lang/AbstractStringBuilder", "getValue", "()[B"⟩ yJ5_getValue_6d5f1, Cond.instanceMethod yJ5_getValue_6d5f1, Cond.code yJ5_getValue_6d5f1 cJ5_getValue_6d5f1 1 (some (.array .byte)), Cond.methodLink RJ0 549 ⟨"java/lang/AbstractStringBuilder", "length", "()I"⟩, Cond.sameMethod "java/lang/AbstractStringBuilder" "java/lang/AbstractStringBuilder" "length" "()I", Cond.instanceMethod ⟨"java/lang/AbstractStringBuilder", "length", "()I"⟩, Cond.selects RJ4 ⟨"java/lang/AbstractStringBuilder", "length", "()I"⟩ yJ4_length_8abf5, Cond.instanceMethod yJ4_length_8abf5, Cond.code yJ4_length_8abf5 cJ4_length_8abf5 1 (some .int), Cond.methodLink RJ4 343 yJ5_length_8abf5, Cond.instanceMethod yJ5_length_8abf5, Cond.code yJ5_length_8abf5 cJ5_length_8abf5 1 (some .int), Cond.methodLink RJ0 1047 ⟨"java/lang/AbstractStringBuilder", "isLatin1", "()Z"⟩, Cond.methodLink RJ0 54 yJ7_copyOfRange_39247, Cond.static yJ7_copyOfRange_39247, Cond.code yJ7_copyOfRange_39247 cJ7_copyOfRange_39247 3 (some (.array .byte)), Cond.methodLink RJ7 339 yJ7_copyOfRangeByte_39247, Cond.static yJ7_copyOfRangeByte_39247, Cond.code yJ7_copyOfRangeByte_39247 cJ7_copyOfRangeByte_39247 5 (some (.array .byte)), Cond.methodLink RJ7 343 yJ7_checkLength_df160, Cond.static yJ7_checkLength_df160, Cond.code yJ7_checkLength_df160 cJ7_checkLength_df160 2 none, Cond.classLink RJ7 45 RJ4, Cond.methodLink RJ0 1051 yJ2_compress_39247]
def wsX5_text_r10 : List Cond := [Cond.static yJ2_compress_39247, Cond.code yJ2_compress_39247 cJ2_compress_39247 6 (some (.array .byte)), Cond.methodLink RJ2 123 yJ2_compress_5af95, Cond.static yJ2_compress_5af95, Cond.code yJ2_compress_5af95 cJ2_compress_5af95 7 (some .int), Cond.methodLink RJ2 71 yJ2_getChar_3b067, Cond.static yJ2_getChar_3b067, Cond.code yJ2_getChar_3b067 cJ2_getChar_3b067 2 (some .char), Cond.methodLink RJ2 126 yJ7_copyOfRange_39247, Cond.methodLink RJ0 47 yJ2_coderFromArrayLen_85cad, Cond.static yJ2_coderFromArrayLen_85cad, Cond.code yJ2_coderFromArrayLen_85cad cJ2_coderFromArrayLen_85cad 2 (some .byte)]
def wsX5_text : List Cond := .code yX5_text cX5_text 4 (some (.object "java/lang/String")) :: ((wsX5_text_r1 ++ (wsX5_text_r2 ++ (wsX5_text_r3 ++ (wsX5_text_r4 ++ (wsX5_text_r5 ++ (wsX5_text_r6 ++ (wsX5_text_r7 ++ (wsX5_text_r8 ++ (wsX5_text_r9 ++ wsX5_text_r10))))))))) ++ wsJ40 ++ wsX40 ++ wsX50 ++ wsJ00 ++ (vx_atS RX5 235 "java/lang/IndexOutOfBoundsException" ["java/lang/RuntimeException", "java/lang/Exception"]).filter goodWord)
def wsX5_tilt : List Cond := .code yX5_tilt cX5_tilt 2 (some .double) :: ([.methodLink RX5 65 yX5_urnOf, .instanceMethod yX5_urnOf, .selects RX5 yX5_urnOf yX5_urnOf, .initialized RX5, .code yX5_urnOf cX5_urnOf 3 (some (.object "Urnwright$Urn")), .classLink RX5 231 "java/lang/IndexOutOfBoundsException", .initialized "java/lang/IndexOutOfBoundsException", .fieldLink RX5 11 "Urnwright" "urns" "[LUrnwright$Urn;", .instanceMethod yX4_lean, .initialized RX4, .selects RX4 yX4_lean yX4_lean, .code yX4_lean cX4_lean 5 (some .double), .fieldLink RX4 9 "Urnwright$Urn" "counts" "[I", .methodLink RX4 71 Lib.Math.abs.name, .static Lib.Math.abs.name, .initialized "java/lang/Math", .code Lib.Math.abs.name Lib.Math.abs.code 1 (some .int), .constantDouble RX4 75 (4616189618054758400), .constantDouble RX4 77 (4609434218613702656), .fieldLink RX4 55 "Urnwright$Urn" "gain" "I", .static yX5_at, .code yX5_at cX5_at 2 (some .int)] ++ wsX50 ++ wsX40 ++ (vx_atS RX5 235 "java/lang/IndexOutOfBoundsException" ["java/lang/RuntimeException", "java/lang/Exception"]).filter goodWord)
def wsX5_nearestWhole : List Cond := .code yX5_nearestWhole cX5_nearestWhole 6 (some .double) :: ([.constantDouble RX5 364 (4602678819172646912)])
def wsX5_percent_r1 : List Cond := [Cond.constantDouble RX5 285 (4636737291354636288), Cond.methodLink RX5 65 yX5_urnOf, Cond.instanceMethod yX5_urnOf, Cond.selects RX5 yX5_urnOf yX5_urnOf, Cond.initialized RX5, Cond.code yX5_urnOf cX5_urnOf 3 (some (.object "Urnwright$Urn")), Cond.classLink RX5 231 "java/lang/IndexOutOfBoundsException", Cond.initialized "java/lang/IndexOutOfBoundsException", Cond.fieldLink RX5 11 "Urnwright" "urns" "[LUrnwright$Urn;", Cond.methodLink RX5 69 yX5_lookAtColour, Cond.static yX5_lookAtColour, Cond.code yX5_lookAtColour cX5_lookAtColour 1 none, Cond.methodLink RX5 42 yX5_isWithin, Cond.static yX5_isWithin, Cond.code yX5_isWithin cX5_isWithin 3 (some .boolean), Cond.instanceMethod yX4_countAll, Cond.initialized RX4, Cond.selects RX4 yX4_countAll yX4_countAll, Cond.code yX4_countAll cX4_countAll 1 (some .int), Cond.fieldLink RX4 9 "Urnwright$Urn" "counts" "[I", Cond.static yX5_at, Cond.code yX5_at cX5_at 2 (some .int), Cond.methodLink RX5 95 yX5_at, Cond.methodLink RX5 287 yX5_nearestWhole]
def wsX5_percent_r2 : List Cond := [Cond.static yX5_nearestWhole, Cond.code yX5_nearestWhole cX5_nearestWhole 6 (some .double), Cond.constantDouble RX5 364 (4602678819172646912)]
def wsX5_percent : List Cond := .code yX5_percent cX5_percent 5 (some .double) :: ((wsX5_percent_r1 ++ wsX5_percent_r2) ++ wsX40 ++ wsX50 ++ (vx_atS RX5 235 "java/lang/IndexOutOfBoundsException" ["java/lang/RuntimeException", "java/lang/Exception"]).filter goodWord)
def wsX5_sumOfUrns : List Cond := .code yX5_sumOfUrns cX5_sumOfUrns 7 (some .int) :: ([.fieldLink RX5 11 "Urnwright" "urns" "[LUrnwright$Urn;", .instanceMethod yX4_countAll, .initialized RX4, .selects RX4 yX4_countAll yX4_countAll, .code yX4_countAll cX4_countAll 1 (some .int), .fieldLink RX4 9 "Urnwright$Urn" "counts" "[I", .static yX5_at, .initialized RX5, .code yX5_at cX5_at 2 (some .int)] ++ wsX50 ++ wsX40)
def wsX5_sumOfTilts : List Cond := .code yX5_sumOfTilts cX5_sumOfTilts 7 (some .double) :: ([.fieldLink RX5 11 "Urnwright" "urns" "[LUrnwright$Urn;", .instanceMethod yX4_lean, .initialized RX4, .selects RX4 yX4_lean yX4_lean, .code yX4_lean cX4_lean 5 (some .double), .fieldLink RX4 9 "Urnwright$Urn" "counts" "[I", .methodLink RX4 71 Lib.Math.abs.name, .static Lib.Math.abs.name, .initialized "java/lang/Math", .code Lib.Math.abs.name Lib.Math.abs.code 1 (some .int), .constantDouble RX4 75 (4616189618054758400), .constantDouble RX4 77 (4609434218613702656), .fieldLink RX4 55 "Urnwright$Urn" "gain" "I", .static yX5_at, .initialized RX5, .code yX5_at cX5_at 2 (some .int)] ++ wsX50 ++ wsX40)
def wsX5_many_r1 : List Cond := [Cond.classLink RX5 46 "java/lang/IllegalArgumentException", Cond.initialized "java/lang/IllegalArgumentException", Cond.fieldLink RX5 53 "Urnwright" "urnsTold" "I", Cond.fieldLink RX5 134 "Urnwright" "rowsTold" "I", Cond.fieldLink RX5 121 "Urnwright" "knocks" "I", Cond.methodLink RX5 291 yX5_sumOfUrns, Cond.instanceMethod yX5_sumOfUrns, Cond.selects RX5 yX5_sumOfUrns yX5_sumOfUrns, Cond.initialized RX5, Cond.code yX5_sumOfUrns cX5_sumOfUrns 7 (some .int), Cond.fieldLink RX5 11 "Urnwright" "urns" "[LUrnwright$Urn;", Cond.instanceMethod yX4_countAll, Cond.initialized RX4, Cond.selects RX4 yX4_countAll yX4_countAll, Cond.code yX4_countAll cX4_countAll 1 (some .int), Cond.fieldLink RX4 9 "Urnwright$Urn" "counts" "[I", Cond.static yX5_at, Cond.code yX5_at cX5_at 2 (some .int), Cond.methodLink RX5 294 yX5_sumOfTilts, Cond.instanceMethod yX5_sumOfTilts, Cond.selects RX5 yX5_sumOfTilts yX5_sumOfTilts, Cond.code yX5_sumOfTilts cX5_sumOfTilts 7 (some .double), Cond.instanceMethod yX4_lean, Cond.selects RX4 yX4_lean yX4_lean]
def wsX5_many_r2 : List Cond := [Cond.code yX4_lean cX4_lean 5 (some .double), Cond.methodLink RX4 71 Lib.Math.abs.name, Cond.static Lib.Math.abs.name, Cond.initialized "java/lang/Math", Cond.code Lib.Math.abs.name Lib.Math.abs.code 1 (some .int), Cond.constantDouble RX4 75 (4616189618054758400), Cond.constantDouble RX4 77 (4609434218613702656), Cond.fieldLink RX4 55 "Urnwright$Urn" "gain" "I"]
def wsX5_many : List Cond := .code yX5_many cX5_many 2 (some .int) :: ((wsX5_many_r1 ++ wsX5_many_r2) ++ wsX50 ++ wsX40 ++ (vx_atS RX5 50 "java/lang/IllegalArgumentException" ["java/lang/RuntimeException", "java/lang/Exception"]).filter goodWord)
def wsX5_wouldGain_r1 : List Cond := [Cond.classLink RX5 57 "java/lang/IllegalStateException", Cond.initialized "java/lang/IllegalStateException", Cond.fieldLink RX5 24 "Urnwright" "game" "LUrnwright$Game;", Cond.methodLink RX5 65 yX5_urnOf, Cond.instanceMethod yX5_urnOf, Cond.selects RX5 yX5_urnOf yX5_urnOf, Cond.initialized RX5, Cond.code yX5_urnOf cX5_urnOf 3 (some (.object "Urnwright$Urn")), Cond.classLink RX5 231 "java/lang/IndexOutOfBoundsException", Cond.initialized "java/lang/IndexOutOfBoundsException", Cond.fieldLink RX5 11 "Urnwright" "urns" "[LUrnwright$Urn;", Cond.methodLink RX5 142 yX5_openPath, Cond.instanceMethod yX5_openPath, Cond.selects RX5 yX5_openPath yX5_openPath, Cond.code yX5_openPath cX5_openPath 4 none, Cond.classLink RX5 46 "java/lang/IllegalArgumentException", Cond.initialized "java/lang/IllegalArgumentException", Cond.methodLink RX5 353 yX5_drawsOf, Cond.static yX5_drawsOf, Cond.code yX5_drawsOf cX5_drawsOf 4 (some .int), Cond.methodLink RX5 42 yX5_isWithin, Cond.static yX5_isWithin, Cond.code yX5_isWithin cX5_isWithin 3 (some .boolean), Cond.instanceMethod yX1_open]
def wsX5_wouldGain_r2 : List Cond := [Cond.initialized RX1, Cond.selects RX1 yX1_open yX1_open, Cond.code yX1_open cX1_open 6 none, Cond.methodLink RX1 32 Lib.Math.min.name, Cond.static Lib.Math.min.name, Cond.initialized "java/lang/Math", Cond.code Lib.Math.min.name Lib.Math.min.code 2 (some .int), Cond.fieldLink RX1 38 "Urnwright$Game" "steps" "I", Cond.fieldLink RX1 48 "Urnwright$Game" "total" "I", Cond.fieldLink RX1 54 "Urnwright$Game" "growth" "I", Cond.fieldLink RX1 9 "Urnwright$Game" "ways" "[J", Cond.fieldLink RX1 22 "Urnwright$Game" "counts" "[I", Cond.instanceMethod yX4_countAll, Cond.initialized RX4, Cond.selects RX4 yX4_countAll yX4_countAll, Cond.code yX4_countAll cX4_countAll 1 (some .int), Cond.fieldLink RX4 9 "Urnwright$Urn" "counts" "[I", Cond.static yX5_at, Cond.code yX5_at cX5_at 2 (some .int), Cond.static yX5_put_, Cond.code yX5_put_ cX5_put_ 4 none, Cond.static yX5_put, Cond.code yX5_put cX5_put 3 none, Cond.static yX5_firstWith]
def wsX5_wouldGain_r3 : List Cond := [Cond.code yX5_firstWith cX5_firstWith 3 (some .int), Cond.methodLink RX1 71 yX1_grow, Cond.instanceMethod yX1_grow, Cond.selects RX1 yX1_grow yX1_grow, Cond.code yX1_grow cX1_grow 6 none, Cond.fieldLink RX1 15 "Urnwright$Game" "yields" "[I", Cond.fieldLink RX1 19 "Urnwright$Game" "paths" "[I", Cond.static yX5_behind, Cond.code yX5_behind cX5_behind 2 (some .int), Cond.static yX5_at_, Cond.code yX5_at_ cX5_at_ 2 (some .long), Cond.methodLink RX1 81 yX1_countAt, Cond.instanceMethod yX1_countAt, Cond.selects RX1 yX1_countAt yX1_countAt, Cond.code yX1_countAt cX1_countAt 3 (some .int), Cond.instanceMethod yX4_addOf, Cond.selects RX4 yX4_addOf yX4_addOf, Cond.code yX4_addOf cX4_addOf 3 (some .int), Cond.fieldLink RX4 18 "Urnwright$Urn" "adds" "[I", Cond.methodLink RX5 150 yX5_nodeOf, Cond.static yX5_nodeOf, Cond.code yX5_nodeOf cX5_nodeOf 5 (some .int), Cond.methodLink RX5 154 yX5_at_, Cond.methodLink RX5 95 yX5_at]
def wsX5_wouldGain : List Cond := .code yX5_wouldGain cX5_wouldGain 5 (some .int) :: ((wsX5_wouldGain_r1 ++ (wsX5_wouldGain_r2 ++ wsX5_wouldGain_r3)) ++ wsX50 ++ wsX10 ++ wsX40 ++ (vx_atS RX5 61 "java/lang/IllegalStateException" ["java/lang/RuntimeException", "java/lang/Exception"]).filter goodWord ++ (vx_atS RX5 235 "java/lang/IndexOutOfBoundsException" ["java/lang/RuntimeException", "java/lang/Exception"]).filter goodWord ++ (vx_atS RX5 50 "java/lang/IllegalArgumentException" ["java/lang/RuntimeException", "java/lang/Exception"]).filter goodWord)
def wsX5_stops_r1 : List Cond := [Cond.fieldLink RX5 24 "Urnwright" "game" "LUrnwright$Game;", Cond.methodLink RX5 65 yX5_urnOf, Cond.instanceMethod yX5_urnOf, Cond.selects RX5 yX5_urnOf yX5_urnOf, Cond.initialized RX5, Cond.code yX5_urnOf cX5_urnOf 3 (some (.object "Urnwright$Urn")), Cond.classLink RX5 231 "java/lang/IndexOutOfBoundsException", Cond.initialized "java/lang/IndexOutOfBoundsException", Cond.fieldLink RX5 11 "Urnwright" "urns" "[LUrnwright$Urn;", Cond.methodLink RX5 165 yX5_openGame, Cond.instanceMethod yX5_openGame, Cond.selects RX5 yX5_openGame yX5_openGame, Cond.code yX5_openGame cX5_openGame 3 none, Cond.classLink RX5 46 "java/lang/IllegalArgumentException", Cond.initialized "java/lang/IllegalArgumentException", Cond.instanceMethod yX4_mostSteps, Cond.initialized RX4, Cond.selects RX4 yX4_mostSteps yX4_mostSteps, Cond.code yX4_mostSteps cX4_mostSteps 1 (some .int), Cond.fieldLink RX4 24 "Urnwright$Urn" "growth" "I", Cond.methodLink RX4 36 Lib.Math.min.name, Cond.static Lib.Math.min.name, Cond.initialized "java/lang/Math", Cond.code Lib.Math.min.name Lib.Math.min.code 2 (some .int)]
def wsX5_stops_r2 : List Cond := [Cond.methodLink RX4 32 yX4_countAll, Cond.instanceMethod yX4_countAll, Cond.selects RX4 yX4_countAll yX4_countAll, Cond.code yX4_countAll cX4_countAll 1 (some .int), Cond.fieldLink RX4 9 "Urnwright$Urn" "counts" "[I", Cond.static yX5_at, Cond.code yX5_at cX5_at 2 (some .int), Cond.methodLink RX5 42 yX5_isWithin, Cond.static yX5_isWithin, Cond.code yX5_isWithin cX5_isWithin 3 (some .boolean), Cond.instanceMethod yX1_open, Cond.initialized RX1, Cond.selects RX1 yX1_open yX1_open, Cond.code yX1_open cX1_open 6 none, Cond.methodLink RX1 32 Lib.Math.min.name, Cond.fieldLink RX1 38 "Urnwright$Game" "steps" "I", Cond.fieldLink RX1 48 "Urnwright$Game" "total" "I", Cond.fieldLink RX1 54 "Urnwright$Game" "growth" "I", Cond.fieldLink RX1 9 "Urnwright$Game" "ways" "[J", Cond.fieldLink RX1 22 "Urnwright$Game" "counts" "[I", Cond.static yX5_put_, Cond.code yX5_put_ cX5_put_ 4 none, Cond.static yX5_put, Cond.code yX5_put cX5_put 3 none]
def wsX5_stops_r3 : List Cond := [Cond.static yX5_firstWith, Cond.code yX5_firstWith cX5_firstWith 3 (some .int), Cond.methodLink RX1 71 yX1_grow, Cond.instanceMethod yX1_grow, Cond.selects RX1 yX1_grow yX1_grow, Cond.code yX1_grow cX1_grow 6 none, Cond.fieldLink RX1 15 "Urnwright$Game" "yields" "[I", Cond.fieldLink RX1 19 "Urnwright$Game" "paths" "[I", Cond.static yX5_behind, Cond.code yX5_behind cX5_behind 2 (some .int), Cond.static yX5_at_, Cond.code yX5_at_ cX5_at_ 2 (some .long), Cond.methodLink RX1 81 yX1_countAt, Cond.instanceMethod yX1_countAt, Cond.selects RX1 yX1_countAt yX1_countAt, Cond.code yX1_countAt cX1_countAt 3 (some .int), Cond.instanceMethod yX4_addOf, Cond.selects RX4 yX4_addOf yX4_addOf, Cond.code yX4_addOf cX4_addOf 3 (some .int), Cond.fieldLink RX4 18 "Urnwright$Urn" "adds" "[I", Cond.methodLink RX5 194 yX5_lookAtStrike, Cond.static yX5_lookAtStrike, Cond.code yX5_lookAtStrike cX5_lookAtStrike 1 none, Cond.instanceMethod yX1_weigh]
def wsX5_stops_r4 : List Cond := [Cond.selects RX1 yX1_weigh yX1_weigh, Cond.code yX1_weigh cX1_weigh 13 (some .int), Cond.fieldLink RX1 25 "Urnwright$Game" "worths" "[J", Cond.methodLink RX1 128 Lib.MathLoose.max_long.x, Cond.static Lib.MathLoose.max_long.x, Cond.code Lib.MathLoose.max_long.x Lib.MathLoose.max_long.code 4 (some .long), Cond.methodLink RX1 122 yX1_prizeAt, Cond.instanceMethod yX1_prizeAt, Cond.selects RX1 yX1_prizeAt yX1_prizeAt, Cond.code yX1_prizeAt cX1_prizeAt 3 (some .long), Cond.methodLink RX1 132 Lib.Math.max.name, Cond.static Lib.Math.max.name, Cond.code Lib.Math.max.name Lib.Math.max.code 2 (some .int), Cond.methodLink RX1 109 yX1_waysFrom, Cond.instanceMethod yX1_waysFrom, Cond.selects RX1 yX1_waysFrom yX1_waysFrom, Cond.code yX1_waysFrom cX1_waysFrom 5 (some .long), Cond.methodLink RX1 125 yX1_worthBehind, Cond.instanceMethod yX1_worthBehind, Cond.selects RX1 yX1_worthBehind yX1_worthBehind, Cond.code yX1_worthBehind cX1_worthBehind 5 (some .long)]
def wsX5_stops : List Cond := .code yX5_stops cX5_stops 5 (some .int) :: ((wsX5_stops_r1 ++ (wsX5_stops_r2 ++ (wsX5_stops_r3 ++ wsX5_stops_r4))) ++ wsX50 ++ wsX40 ++ wsX10 ++ (vx_atS RX5 235 "java/lang/IndexOutOfBoundsException" ["java/lang/RuntimeException", "java/lang/Exception"]).filter goodWord ++ (vx_atS RX5 50 "java/lang/IllegalArgumentException" ["java/lang/RuntimeException", "java/lang/Exception"]).filter goodWord)
def wsX5_digestOfUrn_r1 : List Cond := [Cond.constantLong RX5 302 (31), Cond.methodLink RX5 321 Lib.Math.min.name, Cond.static Lib.Math.min.name, Cond.initialized "java/lang/Math", Cond.code Lib.Math.min.name Lib.Math.min.code 2 (some .int), Cond.methodLink RX5 315 yX5_ofUrn, Cond.instanceMethod yX5_ofUrn, Cond.selects RX5 yX5_ofUrn yX5_ofUrn, Cond.initialized RX5, Cond.code yX5_ofUrn cX5_ofUrn 4 (some .int), Cond.classLink RX5 46 "java/lang/IllegalArgumentException", Cond.initialized "java/lang/IllegalArgumentException", Cond.methodLink RX5 65 yX5_urnOf, Cond.instanceMethod yX5_urnOf, Cond.selects RX5 yX5_urnOf yX5_urnOf, Cond.code yX5_urnOf cX5_urnOf 3 (some (.object "Urnwright$Urn")), Cond.classLink RX5 231 "java/lang/IndexOutOfBoundsException", Cond.initialized "java/lang/IndexOutOfBoundsException", Cond.fieldLink RX5 11 "Urnwright" "urns" "[LUrnwright$Urn;", Cond.methodLink RX5 42 yX5_isWithin, Cond.static yX5_isWithin, Cond.code yX5_isWithin cX5_isWithin 3 (some .boolean), Cond.methodLink RX5 95 yX5_at, Cond.static yX5_at]
def wsX5_digestOfUrn_r2 : List Cond := [Cond.code yX5_at cX5_at 2 (some .int), Cond.instanceMethod yX4_mostSteps, Cond.initialized RX4, Cond.selects RX4 yX4_mostSteps yX4_mostSteps, Cond.code yX4_mostSteps cX4_mostSteps 1 (some .int), Cond.fieldLink RX4 24 "Urnwright$Urn" "growth" "I", Cond.methodLink RX4 36 Lib.Math.min.name, Cond.methodLink RX4 32 yX4_countAll, Cond.instanceMethod yX4_countAll, Cond.selects RX4 yX4_countAll yX4_countAll, Cond.code yX4_countAll cX4_countAll 1 (some .int), Cond.fieldLink RX4 9 "Urnwright$Urn" "counts" "[I", Cond.methodLink RX5 323 yX5_mean, Cond.instanceMethod yX5_mean, Cond.selects RX5 yX5_mean yX5_mean, Cond.code yX5_mean cX5_mean 9 (some .long), Cond.fieldLink RX5 24 "Urnwright" "game" "LUrnwright$Game;", Cond.methodLink RX5 165 yX5_openGame, Cond.instanceMethod yX5_openGame, Cond.selects RX5 yX5_openGame yX5_openGame, Cond.code yX5_openGame cX5_openGame 3 none, Cond.instanceMethod yX1_open, Cond.initialized RX1, Cond.selects RX1 yX1_open yX1_open]
def wsX5_digestOfUrn_r3 : List Cond := [Cond.code yX1_open cX1_open 6 none, Cond.methodLink RX1 32 Lib.Math.min.name, Cond.fieldLink RX1 38 "Urnwright$Game" "steps" "I", Cond.fieldLink RX1 48 "Urnwright$Game" "total" "I", Cond.fieldLink RX1 54 "Urnwright$Game" "growth" "I", Cond.fieldLink RX1 9 "Urnwright$Game" "ways" "[J", Cond.fieldLink RX1 22 "Urnwright$Game" "counts" "[I", Cond.static yX5_put_, Cond.code yX5_put_ cX5_put_ 4 none, Cond.static yX5_put, Cond.code yX5_put cX5_put 3 none, Cond.static yX5_firstWith, Cond.code yX5_firstWith cX5_firstWith 3 (some .int), Cond.methodLink RX1 71 yX1_grow, Cond.instanceMethod yX1_grow, Cond.selects RX1 yX1_grow yX1_grow, Cond.code yX1_grow cX1_grow 6 none, Cond.fieldLink RX1 15 "Urnwright$Game" "yields" "[I", Cond.fieldLink RX1 19 "Urnwright$Game" "paths" "[I", Cond.static yX5_behind, Cond.code yX5_behind cX5_behind 2 (some .int), Cond.static yX5_at_, Cond.code yX5_at_ cX5_at_ 2 (some .long), Cond.methodLink RX1 81 yX1_countAt]
def wsX5_digestOfUrn_r4 : List Cond := [Cond.instanceMethod yX1_countAt, Cond.selects RX1 yX1_countAt yX1_countAt, Cond.code yX1_countAt cX1_countAt 3 (some .int), Cond.instanceMethod yX4_addOf, Cond.selects RX4 yX4_addOf yX4_addOf, Cond.code yX4_addOf cX4_addOf 3 (some .int), Cond.fieldLink RX4 18 "Urnwright$Urn" "adds" "[I", Cond.instanceMethod yX1_waysFrom, Cond.selects RX1 yX1_waysFrom yX1_waysFrom, Cond.code yX1_waysFrom cX1_waysFrom 5 (some .long), Cond.instanceMethod yX1_sumOfPowers, Cond.selects RX1 yX1_sumOfPowers yX1_sumOfPowers, Cond.code yX1_sumOfPowers cX1_sumOfPowers 2 (some .long), Cond.methodLink RX1 94 yX1_sumOfPowersWith, Cond.instanceMethod yX1_sumOfPowersWith, Cond.selects RX1 yX1_sumOfPowersWith yX1_sumOfPowersWith, Cond.code yX1_sumOfPowersWith cX1_sumOfPowersWith 8 (some .long), Cond.static yX5_timesIn, Cond.code yX5_timesIn cX5_timesIn 5 (some .int), Cond.static yX5_power, Cond.code yX5_power cX5_power 5 (some .long), Cond.methodLink RX5 161 yX5_part, Cond.static yX5_part, Cond.code yX5_part cX5_part 9 (some .long)]
def wsX5_digestOfUrn_r5 : List Cond := [Cond.methodLink RX5 358 Lib.MathLoose.abs_long.x, Cond.static Lib.MathLoose.abs_long.x, Cond.code Lib.MathLoose.abs_long.x Lib.MathLoose.abs_long.code 2 (some .long), Cond.methodLink RX5 361 yX5_sharedDivisor, Cond.static yX5_sharedDivisor, Cond.code yX5_sharedDivisor cX5_sharedDivisor 11 (some .long), Cond.methodLink RX5 327 yX5_unfair, Cond.instanceMethod yX5_unfair, Cond.selects RX5 yX5_unfair yX5_unfair, Cond.code yX5_unfair cX5_unfair 4 (some .int), Cond.instanceMethod yX1_pathOfUnfair, Cond.selects RX1 yX1_pathOfUnfair yX1_pathOfUnfair, Cond.code yX1_pathOfUnfair cX1_pathOfUnfair 6 (some .int), Cond.methodLink RX5 330 yX5_ordered, Cond.instanceMethod yX5_ordered, Cond.selects RX5 yX5_ordered yX5_ordered, Cond.code yX5_ordered cX5_ordered 3 (some .int), Cond.instanceMethod yX1_pathWithOrder, Cond.selects RX1 yX1_pathWithOrder yX1_pathWithOrder, Cond.code yX1_pathWithOrder cX1_pathWithOrder 4 (some .int), Cond.methodLink RX1 105 yX1_hasOrder, Cond.instanceMethod yX1_hasOrder, Cond.selects RX1 yX1_hasOrder yX1_hasOrder, Cond.code yX1_hasOrder cX1_hasOrder 9 (some .boolean)]
def wsX5_digestOfUrn_r6 : List Cond := [Cond.methodLink RX5 333 yX5_stopped, Cond.instanceMethod yX5_stopped, Cond.selects RX5 yX5_stopped yX5_stopped, Cond.code yX5_stopped cX5_stopped 6 (some .long), Cond.instanceMethod yX1_sumStopped, Cond.selects RX1 yX1_sumStopped yX1_sumStopped, Cond.code yX1_sumStopped cX1_sumStopped 12 (some .long), Cond.fieldLink RX1 28 "Urnwright$Game" "isOver" "[Z", Cond.methodLink RX1 109 yX1_waysFrom, Cond.static yX5_at__, Cond.code yX5_at__ cX5_at__ 2 (some .boolean), Cond.instanceMethod yX4_isStopAt, Cond.selects RX4 yX4_isStopAt yX4_isStopAt, Cond.code yX4_isStopAt cX4_isStopAt 3 (some .boolean), Cond.fieldLink RX4 58 "Urnwright$Urn" "stopKind" "I", Cond.fieldLink RX4 61 "Urnwright$Urn" "stopNumber" "I", Cond.methodLink RX4 64 yX4_isOften, Cond.instanceMethod yX4_isOften, Cond.selects RX4 yX4_isOften yX4_isOften, Cond.code yX4_isOften cX4_isOften 3 (some .boolean), Cond.static yX5_put__, Cond.code yX5_put__ cX5_put__ 3 none, Cond.methodLink RX5 336 yX5_worth, Cond.instanceMethod yX5_worth]
def wsX5_digestOfUrn_r7 : List Cond := [Cond.selects RX5 yX5_worth yX5_worth, Cond.code yX5_worth cX5_worth 6 (some .long), Cond.methodLink RX5 194 yX5_lookAtStrike, Cond.static yX5_lookAtStrike, Cond.code yX5_lookAtStrike cX5_lookAtStrike 1 none, Cond.instanceMethod yX1_weigh, Cond.selects RX1 yX1_weigh yX1_weigh, Cond.code yX1_weigh cX1_weigh 13 (some .int), Cond.fieldLink RX1 25 "Urnwright$Game" "worths" "[J", Cond.methodLink RX1 128 Lib.MathLoose.max_long.x, Cond.static Lib.MathLoose.max_long.x, Cond.code Lib.MathLoose.max_long.x Lib.MathLoose.max_long.code 4 (some .long), Cond.methodLink RX1 122 yX1_prizeAt, Cond.instanceMethod yX1_prizeAt, Cond.selects RX1 yX1_prizeAt yX1_prizeAt, Cond.code yX1_prizeAt cX1_prizeAt 3 (some .long), Cond.methodLink RX1 132 Lib.Math.max.name, Cond.static Lib.Math.max.name, Cond.code Lib.Math.max.name Lib.Math.max.code 2 (some .int), Cond.methodLink RX1 125 yX1_worthBehind, Cond.instanceMethod yX1_worthBehind, Cond.selects RX1 yX1_worthBehind yX1_worthBehind, Cond.code yX1_worthBehind cX1_worthBehind 5 (some .long), Cond.methodLink RX5 154 yX5_at_]
def wsX5_digestOfUrn : List Cond := .code yX5_digestOfUrn cX5_digestOfUrn 7 (some .long) :: ((wsX5_digestOfUrn_r1 ++ (wsX5_digestOfUrn_r2 ++ (wsX5_digestOfUrn_r3 ++ (wsX5_digestOfUrn_r4 ++ (wsX5_digestOfUrn_r5 ++ (wsX5_digestOfUrn_r6 ++ wsX5_digestOfUrn_r7)))))) ++ wsX40 ++ wsX50 ++ wsX10 ++ (vx_atS RX5 50 "java/lang/IllegalArgumentException" ["java/lang/RuntimeException", "java/lang/Exception"]).filter goodWord ++ (vx_atS RX5 235 "java/lang/IndexOutOfBoundsException" ["java/lang/RuntimeException", "java/lang/Exception"]).filter goodWord)
def wsX5_digest_r1 : List Cond := [Cond.constantLong RX5 300 (58240), Cond.constantLong RX5 302 (31), Cond.fieldLink RX5 53 "Urnwright" "urnsTold" "I", Cond.fieldLink RX5 134 "Urnwright" "rowsTold" "I", Cond.methodLink RX5 304 yX5_many, Cond.instanceMethod yX5_many, Cond.selects RX5 yX5_many yX5_many, Cond.initialized RX5, Cond.code yX5_many cX5_many 2 (some .int), Cond.classLink RX5 46 "java/lang/IllegalArgumentException", Cond.initialized "java/lang/IllegalArgumentException", Cond.fieldLink RX5 121 "Urnwright" "knocks" "I", Cond.methodLink RX5 291 yX5_sumOfUrns, Cond.instanceMethod yX5_sumOfUrns, Cond.selects RX5 yX5_sumOfUrns yX5_sumOfUrns, Cond.code yX5_sumOfUrns cX5_sumOfUrns 7 (some .int), Cond.fieldLink RX5 11 "Urnwright" "urns" "[LUrnwright$Urn;", Cond.instanceMethod yX4_countAll, Cond.initialized RX4, Cond.selects RX4 yX4_countAll yX4_countAll, Cond.code yX4_countAll cX4_countAll 1 (some .int), Cond.fieldLink RX4 9 "Urnwright$Urn" "counts" "[I", Cond.static yX5_at, Cond.code yX5_at cX5_at 2 (some .int)]
def wsX5_digest_r2 : List Cond := [Cond.methodLink RX5 294 yX5_sumOfTilts, Cond.instanceMethod yX5_sumOfTilts, Cond.selects RX5 yX5_sumOfTilts yX5_sumOfTilts, Cond.code yX5_sumOfTilts cX5_sumOfTilts 7 (some .double), Cond.instanceMethod yX4_lean, Cond.selects RX4 yX4_lean yX4_lean, Cond.code yX4_lean cX4_lean 5 (some .double), Cond.methodLink RX4 71 Lib.Math.abs.name, Cond.static Lib.Math.abs.name, Cond.initialized "java/lang/Math", Cond.code Lib.Math.abs.name Lib.Math.abs.code 1 (some .int), Cond.constantDouble RX4 75 (4616189618054758400), Cond.constantDouble RX4 77 (4609434218613702656), Cond.fieldLink RX4 55 "Urnwright$Urn" "gain" "I", Cond.methodLink RX5 307 yX5_digestOfUrn, Cond.instanceMethod yX5_digestOfUrn, Cond.selects RX5 yX5_digestOfUrn yX5_digestOfUrn, Cond.code yX5_digestOfUrn cX5_digestOfUrn 7 (some .long), Cond.methodLink RX5 321 Lib.Math.min.name, Cond.static Lib.Math.min.name, Cond.code Lib.Math.min.name Lib.Math.min.code 2 (some .int), Cond.methodLink RX5 315 yX5_ofUrn, Cond.instanceMethod yX5_ofUrn, Cond.selects RX5 yX5_ofUrn yX5_ofUrn]
def wsX5_digest_r3 : List Cond := [Cond.code yX5_ofUrn cX5_ofUrn 4 (some .int), Cond.methodLink RX5 65 yX5_urnOf, Cond.instanceMethod yX5_urnOf, Cond.selects RX5 yX5_urnOf yX5_urnOf, Cond.code yX5_urnOf cX5_urnOf 3 (some (.object "Urnwright$Urn")), Cond.classLink RX5 231 "java/lang/IndexOutOfBoundsException", Cond.initialized "java/lang/IndexOutOfBoundsException", Cond.methodLink RX5 42 yX5_isWithin, Cond.static yX5_isWithin, Cond.code yX5_isWithin cX5_isWithin 3 (some .boolean), Cond.methodLink RX5 95 yX5_at, Cond.instanceMethod yX4_mostSteps, Cond.selects RX4 yX4_mostSteps yX4_mostSteps, Cond.code yX4_mostSteps cX4_mostSteps 1 (some .int), Cond.fieldLink RX4 24 "Urnwright$Urn" "growth" "I", Cond.methodLink RX4 36 Lib.Math.min.name, Cond.methodLink RX4 32 yX4_countAll, Cond.methodLink RX5 323 yX5_mean, Cond.instanceMethod yX5_mean, Cond.selects RX5 yX5_mean yX5_mean, Cond.code yX5_mean cX5_mean 9 (some .long), Cond.fieldLink RX5 24 "Urnwright" "game" "LUrnwright$Game;", Cond.methodLink RX5 165 yX5_openGame, Cond.instanceMethod yX5_openGame]
def wsX5_digest_r4 : List Cond := [Cond.selects RX5 yX5_openGame yX5_openGame, Cond.code yX5_openGame cX5_openGame 3 none, Cond.instanceMethod yX1_open, Cond.initialized RX1, Cond.selects RX1 yX1_open yX1_open, Cond.code yX1_open cX1_open 6 none, Cond.methodLink RX1 32 Lib.Math.min.name, Cond.fieldLink RX1 38 "Urnwright$Game" "steps" "I", Cond.fieldLink RX1 48 "Urnwright$Game" "total" "I", Cond.fieldLink RX1 54 "Urnwright$Game" "growth" "I", Cond.fieldLink RX1 9 "Urnwright$Game" "ways" "[J", Cond.fieldLink RX1 22 "Urnwright$Game" "counts" "[I", Cond.static yX5_put_, Cond.code yX5_put_ cX5_put_ 4 none, Cond.static yX5_put, Cond.code yX5_put cX5_put 3 none, Cond.static yX5_firstWith, Cond.code yX5_firstWith cX5_firstWith 3 (some .int), Cond.methodLink RX1 71 yX1_grow, Cond.instanceMethod yX1_grow, Cond.selects RX1 yX1_grow yX1_grow, Cond.code yX1_grow cX1_grow 6 none, Cond.fieldLink RX1 15 "Urnwright$Game" "yields" "[I", Cond.fieldLink RX1 19 "Urnwright$Game" "paths" "[I"]
def wsX5_digest_r5 : List Cond := [Cond.static yX5_behind, Cond.code yX5_behind cX5_behind 2 (some .int), Cond.static yX5_at_, Cond.code yX5_at_ cX5_at_ 2 (some .long), Cond.methodLink RX1 81 yX1_countAt, Cond.instanceMethod yX1_countAt, Cond.selects RX1 yX1_countAt yX1_countAt, Cond.code yX1_countAt cX1_countAt 3 (some .int), Cond.instanceMethod yX4_addOf, Cond.selects RX4 yX4_addOf yX4_addOf, Cond.code yX4_addOf cX4_addOf 3 (some .int), Cond.fieldLink RX4 18 "Urnwright$Urn" "adds" "[I", Cond.instanceMethod yX1_waysFrom, Cond.selects RX1 yX1_waysFrom yX1_waysFrom, Cond.code yX1_waysFrom cX1_waysFrom 5 (some .long), Cond.instanceMethod yX1_sumOfPowers, Cond.selects RX1 yX1_sumOfPowers yX1_sumOfPowers, Cond.code yX1_sumOfPowers cX1_sumOfPowers 2 (some .long), Cond.methodLink RX1 94 yX1_sumOfPowersWith, Cond.instanceMethod yX1_sumOfPowersWith, Cond.selects RX1 yX1_sumOfPowersWith yX1_sumOfPowersWith, Cond.code yX1_sumOfPowersWith cX1_sumOfPowersWith 8 (some .long), Cond.static yX5_timesIn, Cond.code yX5_timesIn cX5_timesIn 5 (some .int)]
def wsX5_digest_r6 : List Cond := [Cond.static yX5_power, Cond.code yX5_power cX5_power 5 (some .long), Cond.methodLink RX5 161 yX5_part, Cond.static yX5_part, Cond.code yX5_part cX5_part 9 (some .long), Cond.methodLink RX5 358 Lib.MathLoose.abs_long.x, Cond.static Lib.MathLoose.abs_long.x, Cond.code Lib.MathLoose.abs_long.x Lib.MathLoose.abs_long.code 2 (some .long), Cond.methodLink RX5 361 yX5_sharedDivisor, Cond.static yX5_sharedDivisor, Cond.code yX5_sharedDivisor cX5_sharedDivisor 11 (some .long), Cond.methodLink RX5 327 yX5_unfair, Cond.instanceMethod yX5_unfair, Cond.selects RX5 yX5_unfair yX5_unfair, Cond.code yX5_unfair cX5_unfair 4 (some .int), Cond.instanceMethod yX1_pathOfUnfair, Cond.selects RX1 yX1_pathOfUnfair yX1_pathOfUnfair, Cond.code yX1_pathOfUnfair cX1_pathOfUnfair 6 (some .int), Cond.methodLink RX5 330 yX5_ordered, Cond.instanceMethod yX5_ordered, Cond.selects RX5 yX5_ordered yX5_ordered, Cond.code yX5_ordered cX5_ordered 3 (some .int), Cond.instanceMethod yX1_pathWithOrder, Cond.selects RX1 yX1_pathWithOrder yX1_pathWithOrder]
def wsX5_digest_r7 : List Cond := [Cond.code yX1_pathWithOrder cX1_pathWithOrder 4 (some .int), Cond.methodLink RX1 105 yX1_hasOrder, Cond.instanceMethod yX1_hasOrder, Cond.selects RX1 yX1_hasOrder yX1_hasOrder, Cond.code yX1_hasOrder cX1_hasOrder 9 (some .boolean), Cond.methodLink RX5 333 yX5_stopped, Cond.instanceMethod yX5_stopped, Cond.selects RX5 yX5_stopped yX5_stopped, Cond.code yX5_stopped cX5_stopped 6 (some .long), Cond.instanceMethod yX1_sumStopped, Cond.selects RX1 yX1_sumStopped yX1_sumStopped, Cond.code yX1_sumStopped cX1_sumStopped 12 (some .long), Cond.fieldLink RX1 28 "Urnwright$Game" "isOver" "[Z", Cond.methodLink RX1 109 yX1_waysFrom, Cond.static yX5_at__, Cond.code yX5_at__ cX5_at__ 2 (some .boolean), Cond.instanceMethod yX4_isStopAt, Cond.selects RX4 yX4_isStopAt yX4_isStopAt, Cond.code yX4_isStopAt cX4_isStopAt 3 (some .boolean), Cond.fieldLink RX4 58 "Urnwright$Urn" "stopKind" "I", Cond.fieldLink RX4 61 "Urnwright$Urn" "stopNumber" "I", Cond.methodLink RX4 64 yX4_isOften, Cond.instanceMethod yX4_isOften, Cond.selects RX4 yX4_isOften yX4_isOften]
def wsX5_digest_r8 : List Cond := [Cond.code yX4_isOften cX4_isOften 3 (some .boolean), Cond.static yX5_put__, Cond.code yX5_put__ cX5_put__ 3 none, Cond.methodLink RX5 336 yX5_worth, Cond.instanceMethod yX5_worth, Cond.selects RX5 yX5_worth yX5_worth, Cond.code yX5_worth cX5_worth 6 (some .long), Cond.methodLink RX5 194 yX5_lookAtStrike, Cond.static yX5_lookAtStrike, Cond.code yX5_lookAtStrike cX5_lookAtStrike 1 none, Cond.instanceMethod yX1_weigh, Cond.selects RX1 yX1_weigh yX1_weigh, Cond.code yX1_weigh cX1_weigh 13 (some .int), Cond.fieldLink RX1 25 "Urnwright$Game" "worths" "[J", Cond.methodLink RX1 128 Lib.MathLoose.max_long.x, Cond.static Lib.MathLoose.max_long.x, Cond.code Lib.MathLoose.max_long.x Lib.MathLoose.max_long.code 4 (some .long), Cond.methodLink RX1 122 yX1_prizeAt, Cond.instanceMethod yX1_prizeAt, Cond.selects RX1 yX1_prizeAt yX1_prizeAt, Cond.code yX1_prizeAt cX1_prizeAt 3 (some .long), Cond.methodLink RX1 132 Lib.Math.max.name, Cond.static Lib.Math.max.name, Cond.code Lib.Math.max.name Lib.Math.max.code 2 (some .int)]
def wsX5_digest_r9 : List Cond := [Cond.methodLink RX1 125 yX1_worthBehind, Cond.instanceMethod yX1_worthBehind, Cond.selects RX1 yX1_worthBehind yX1_worthBehind, Cond.code yX1_worthBehind cX1_worthBehind 5 (some .long), Cond.methodLink RX5 154 yX5_at_, Cond.methodLink RX5 311 yX5_distance, Cond.instanceMethod yX5_distance, Cond.selects RX5 yX5_distance yX5_distance, Cond.code yX5_distance cX5_distance 9 (some .long), Cond.methodLink RX5 226 Lib.Math.abs.name, Cond.constantLong RX5 229 (2), Cond.methodLink RX5 216 yX5_rowOf, Cond.instanceMethod yX5_rowOf, Cond.selects RX5 yX5_rowOf yX5_rowOf, Cond.code yX5_rowOf cX5_rowOf 3 (some (.object "Urnwright$Row")), Cond.fieldLink RX5 17 "Urnwright" "rows" "[LUrnwright$Row;"]
def wsX5_digest : List Cond := .code yX5_digest cX5_digest 5 (some .long) :: ((wsX5_digest_r1 ++ (wsX5_digest_r2 ++ (wsX5_digest_r3 ++ (wsX5_digest_r4 ++ (wsX5_digest_r5 ++ (wsX5_digest_r6 ++ (wsX5_digest_r7 ++ (wsX5_digest_r8 ++ wsX5_digest_r9)))))))) ++ wsX50 ++ wsX40 ++ wsX10 ++ wsX20 ++ (vx_atS RX5 50 "java/lang/IllegalArgumentException" ["java/lang/RuntimeException", "java/lang/Exception"]).filter goodWord ++ (vx_atS RX5 235 "java/lang/IndexOutOfBoundsException" ["java/lang/RuntimeException", "java/lang/Exception"]).filter goodWord)
def wsX6_init : List Cond := .code yX6_init cX6_init 1 none :: ([.methodLink RX6 1 objectInit, .instanceMethod objectInit, .code objectInit ⟨#[0xb1]⟩ 1 none])
def wsX8_init : List Cond := .code yX8_init cX8_init 1 none :: ([.methodLink RX8 1 objectInit, .instanceMethod objectInit, .code objectInit ⟨#[0xb1]⟩ 1 none, .fieldLink RX8 7 "UrnwrightModel$Sum" "up" "J", .fieldLink RX8 13 "UrnwrightModel$Sum" "down" "J"] ++ wsX80)
def wsX7_init : List Cond := .code yX7_init cX7_init 2 none :: ([.methodLink RX7 3 objectInit, .instanceMethod objectInit, .code objectInit ⟨#[0xb1]⟩ 1 none, .arrayClass .int, .fieldLink RX7 9 "UrnwrightModel$Node" "drawn" "[I", .fieldLink RX7 15 "UrnwrightModel$Node" "from" "I", .fieldLink RX7 19 "UrnwrightModel$Node" "up" "J", .fieldLink RX7 23 "UrnwrightModel$Node" "down" "J", .classLink RX7 26 RX8, .instantiable RX8 2, .initialized RX8, .fieldLink RX7 29 "UrnwrightModel$Node" "worth" "LUrnwrightModel$Sum;", .fieldLink RX7 33 "UrnwrightModel$Node" "next" "LUrnwrightModel$Sum;", .fieldLink RX7 36 "UrnwrightModel$Node" "counts" "[I", .instanceMethod yX8_init, .code yX8_init cX8_init 1 none, .methodLink RX8 1 objectInit, .fieldLink RX8 7 "UrnwrightModel$Sum" "up" "J", .fieldLink RX8 13 "UrnwrightModel$Sum" "down" "J"] ++ wsX70 ++ wsX80)
def wsX10_common : List Cond := .code yX10_common cX10_common 10 (some .long) :: ([])
def wsX8_add : List Cond := .code yX8_add cX8_add 15 (some (.object "UrnwrightModel$Sum")) :: ([.fieldLink RX8 13 "UrnwrightModel$Sum" "down" "J", .fieldLink RX8 7 "UrnwrightModel$Sum" "up" "J", .methodLink RX8 22 Lib.MathLoose.abs_long.x, .static Lib.MathLoose.abs_long.x, .initialized "java/lang/Math", .code Lib.MathLoose.abs_long.x Lib.MathLoose.abs_long.code 2 (some .long), .static yX10_common, .initialized RX10, .code yX10_common cX10_common 10 (some .long)] ++ wsX80)
def wsX8_times : List Cond := .code yX8_times cX8_times 9 (some (.object "UrnwrightModel$Sum")) :: ([.fieldLink RX8 7 "UrnwrightModel$Sum" "up" "J", .methodLink RX8 22 Lib.MathLoose.abs_long.x, .static Lib.MathLoose.abs_long.x, .initialized "java/lang/Math", .code Lib.MathLoose.abs_long.x Lib.MathLoose.abs_long.code 2 (some .long), .fieldLink RX8 13 "UrnwrightModel$Sum" "down" "J", .static yX10_common, .initialized RX10, .code yX10_common cX10_common 10 (some .long)] ++ wsX80)
def wsX8_isBelow : List Cond := .code yX8_isBelow cX8_isBelow 2 (some .boolean) :: ([.fieldLink RX8 7 "UrnwrightModel$Sum" "up" "J", .fieldLink RX8 13 "UrnwrightModel$Sum" "down" "J"] ++ wsX80)
def wsX8_part : List Cond := .code yX8_part cX8_part 2 (some .long) :: ([.fieldLink RX8 13 "UrnwrightModel$Sum" "down" "J", .fieldLink RX8 7 "UrnwrightModel$Sum" "up" "J"] ++ wsX80)
def wsJxa1e45_init_da8c8 : List Cond := .code yJxa1e45_init_da8c8 cJxa1e45_init_da8c8 1 none :: ([.methodLink RJxa1e45 1 objectInit, .instanceMethod objectInit, .code objectInit ⟨#[0xb1]⟩ 1 none])
def wsJxc12de_init_da8c8 : List Cond := .code yJxc12de_init_da8c8 cJxc12de_init_da8c8 1 none :: ([.fieldLink RJxc12de 7 "java/util/AbstractList" "modCount" "I", .methodLink RJxc12de 1 yJxa1e45_init_da8c8, .instanceMethod yJxa1e45_init_da8c8, .initialized RJxa1e45, .code yJxa1e45_init_da8c8 cJxa1e45_init_da8c8 1 none, .methodLink RJxa1e45 1 objectInit, .instanceMethod objectInit, .code objectInit ⟨#[0xb1]⟩ 1 none] ++ wsJx4a65c0)
def wsJx4a65c_init_da8c8 : List Cond := .code yJx4a65c_init_da8c8 cJx4a65c_init_da8c8 1 none :: ([.fieldLink RJx4a65c 39 "java/util/ArrayList" "DEFAULTCAPACITY_EMPTY_ELEMENTDATA" "[Ljava/lang/Object;", .fieldLink RJx4a65c 9 "java/util/ArrayList" "elementData" "[Ljava/lang/Object;", .methodLink RJx4a65c 1 yJxc12de_init_da8c8, .instanceMethod yJxc12de_init_da8c8, .initialized RJxc12de, .code yJxc12de_init_da8c8 cJxc12de_init_da8c8 1 none, .fieldLink RJxc12de 7 "java/util/AbstractList" "modCount" "I", .methodLink RJxc12de 1 yJxa1e45_init_da8c8, .instanceMethod yJxa1e45_init_da8c8, .initialized RJxa1e45, .code yJxa1e45_init_da8c8 cJxa1e45_init_da8c8 1 none, .methodLink RJxa1e45 1 objectInit, .instanceMethod objectInit, .code objectInit ⟨#[0xb1]⟩ 1 none] ++ wsJx4a65c0)
def wsX9_init_r1 : List Cond := [Cond.methodLink RX9 3 objectInit, Cond.instanceMethod objectInit, Cond.code objectInit ⟨#[0xb1]⟩ 1 none, Cond.classLink RX9 9 "[[I", Cond.arrayClass .int, Cond.fieldLink RX9 11 "UrnwrightModel$Urn" "rules" "[[I", Cond.fieldLink RX9 16 "UrnwrightModel$Urn" "pays" "[I", Cond.classLink RX9 20 RJx4a65c, Cond.instantiable RJx4a65c 3, Cond.initialized RJx4a65c, Cond.fieldLink RX9 23 "UrnwrightModel$Urn" "before" "Ljava/util/List;", Cond.fieldLink RX9 27 "UrnwrightModel$Urn" "number" "I", Cond.fieldLink RX9 31 "UrnwrightModel$Urn" "counts" "[I", Cond.fieldLink RX9 34 "UrnwrightModel$Urn" "growth" "I", Cond.methodLink RX9 37 Lib.Math.max.name, Cond.static Lib.Math.max.name, Cond.initialized "java/lang/Math", Cond.code Lib.Math.max.name Lib.Math.max.code 2 (some .int), Cond.methodLink RX9 22 yJx4a65c_init_da8c8, Cond.instanceMethod yJx4a65c_init_da8c8, Cond.code yJx4a65c_init_da8c8 cJx4a65c_init_da8c8 1 none, Cond.fieldLink RJx4a65c 39 "java/util/ArrayList" "DEFAULTCAPACITY_EMPTY_ELEMENTDATA" "[Ljava/lang/Object;", Cond.fieldLink RJx4a65c 9 "java/util/ArrayList" "elementData" "[Ljava/lang/Object;", Cond.methodLink RJx4a65c 1 yJxc12de_init_da8c8]
def wsX9_init_r2 : List Cond := [Cond.instanceMethod yJxc12de_init_da8c8, Cond.initialized RJxc12de, Cond.code yJxc12de_init_da8c8 cJxc12de_init_da8c8 1 none, Cond.fieldLink RJxc12de 7 "java/util/AbstractList" "modCount" "I", Cond.methodLink RJxc12de 1 yJxa1e45_init_da8c8, Cond.instanceMethod yJxa1e45_init_da8c8, Cond.initialized RJxa1e45, Cond.code yJxa1e45_init_da8c8 cJxa1e45_init_da8c8 1 none, Cond.methodLink RJxa1e45 1 objectInit]
def wsX9_init : List Cond := .code yX9_init cX9_init 4 none :: ((wsX9_init_r1 ++ wsX9_init_r2) ++ wsX90 ++ wsJx4a65c0)
def wsX9_all : List Cond := .code yX9_all cX9_all 1 (some .int) :: ([])
def wsX9_behind : List Cond := .code yX9_behind cX9_behind 5 (some (.array .int)) :: ([.arrayClass .int, .fieldLink RX9 34 "UrnwrightModel$Urn" "growth" "I", .fieldLink RX9 11 "UrnwrightModel$Urn" "rules" "[[I"] ++ wsX90)
def wsX10_in : List Cond := .code yX10_in cX10_in 3 (some .boolean) :: ([])
def wsX9_canPlay : List Cond := .code yX9_canPlay cX9_canPlay 2 (some .boolean) :: ([.fieldLink RX9 34 "UrnwrightModel$Urn" "growth" "I", .fieldLink RX9 31 "UrnwrightModel$Urn" "counts" "[I", .methodLink RX9 47 Lib.Math.min.name, .static Lib.Math.min.name, .initialized "java/lang/Math", .code Lib.Math.min.name Lib.Math.min.code 2 (some .int), .methodLink RX9 43 yX9_all, .static yX9_all, .initialized RX9, .code yX9_all cX9_all 1 (some .int), .static yX10_in, .initialized RX10, .code yX10_in cX10_in 3 (some .boolean)] ++ wsX90)
def wsJ7_copyOf_6403c : List Cond := .code yJ7_copyOf_6403c cJ7_copyOf_6403c 4 (some (.array (.object "java/lang/Object"))) :: ([.classLink RJ7 110 "[Ljava/lang/Object;", .classLink RJ7 2 "java/lang/Object", .methodLink RJ7 304 Lib.Math.min.name, .static Lib.Math.min.name, .initialized "java/lang/Math", .code Lib.Math.min.name Lib.Math.min.code 2 (some .int), .methodLink RJ7 150 arraycopyName, .native arraycopyName, .static arraycopyName, .initialized "java/lang/System"])
def wsJ7_copyOf_1904c : List Cond := .code yJ7_copyOf_1904c cJ7_copyOf_1904c 2 (some (.array (.object "java/lang/Object"))) :: ([.methodLink RJ7 86 ⟨"java/lang/Object", "getClass", "()Ljava/lang/Class;"⟩, .selects "[Ljava/lang/Object;" ⟨"java/lang/Object", "getClass", "()Ljava/lang/Class;"⟩ ⟨"java/lang/Object", "getClass", "()Ljava/lang/Class;"⟩, .instanceMethod ⟨"java/lang/Object", "getClass", "()Ljava/lang/Class;"⟩, .native ⟨"java/lang/Object", "getClass", "()Ljava/lang/Class;"⟩, .methodLink RJ7 300 yJ7_copyOf_6403c, .static yJ7_copyOf_6403c, .initialized RJ7, .code yJ7_copyOf_6403c cJ7_copyOf_6403c 4 (some (.array (.object "java/lang/Object"))), .classLink RJ7 110 "[Ljava/lang/Object;", .classLink RJ7 2 "java/lang/Object", .methodLink RJ7 304 Lib.Math.min.name, .static Lib.Math.min.name, .initialized "java/lang/Math", .code Lib.Math.min.name Lib.Math.min.code 2 (some .int), .methodLink RJ7 150 arraycopyName, .native arraycopyName, .static arraycopyName, .initialized "java/lang/System"])
def wsJx4a65c_grow_92f84_r1 : List Cond := [Cond.fieldLink RJx4a65c 9 "java/util/ArrayList" "elementData" "[Ljava/lang/Object;", Cond.fieldLink RJx4a65c 39 "java/util/ArrayList" "DEFAULTCAPACITY_EMPTY_ELEMENTDATA" "[Ljava/lang/Object;", Cond.methodLink RJx4a65c 79 Lib.Math.max.name, Cond.static Lib.Math.max.name, Cond.initialized "java/lang/Math", Cond.code Lib.Math.max.name Lib.Math.max.code 2 (some .int), Cond.classLink RJx4a65c 7 "java/lang/Object", Cond.methodLink RJx4a65c 73 yJ8_newLength_cabcc, Cond.static yJ8_newLength_cabcc, Cond.initialized RJ8, Cond.code yJ8_newLength_cabcc cJ8_newLength_cabcc 4 (some .int), Cond.methodLink RJ8 194 Lib.Math.max.name, Cond.constant RJ8 200 (2147483639), Cond.methodLink RJ8 201 yJ8_hugeLength_7cf53, Cond.static yJ8_hugeLength_7cf53, Cond.code yJ8_hugeLength_7cf53 cJ8_hugeLength_7cf53 3 (some .int), Cond.methodLink RJx4a65c 66 yJ7_copyOf_1904c, Cond.static yJ7_copyOf_1904c, Cond.initialized RJ7, Cond.code yJ7_copyOf_1904c cJ7_copyOf_1904c 2 (some (.array (.object "java/lang/Object"))), Cond.methodLink RJ7 86 ⟨"java/lang/Object", "getClass", "()Ljava/lang/Class;"⟩, Cond.selects "[Ljava/lang/Object;" ⟨"java/lang/Object", "getClass", "()Ljava/lang/Class;"⟩ ⟨"java/lang/Object", "getClass", "()Ljava/lang/Class;"⟩, Cond.instanceMethod ⟨"java/lang/Object", "getClass", "()Ljava/lang/Class;"⟩, Cond.native ⟨"java/lang/Object", "getClass", "()Ljava/lang/Class;"⟩]
def wsJx4a65c_grow_92f84_r2 : List Cond := [Cond.methodLink RJ7 300 yJ7_copyOf_6403c, Cond.static yJ7_copyOf_6403c, Cond.code yJ7_copyOf_6403c cJ7_copyOf_6403c 4 (some (.array (.object "java/lang/Object"))), Cond.classLink RJ7 110 "[Ljava/lang/Object;", Cond.classLink RJ7 2 "java/lang/Object", Cond.methodLink RJ7 304 Lib.Math.min.name, Cond.static Lib.Math.min.name, Cond.code Lib.Math.min.name Lib.Math.min.code 2 (some .int), Cond.methodLink RJ7 150 arraycopyName, Cond.native arraycopyName, Cond.static arraycopyName, Cond.initialized "java/lang/System"]
def wsJx4a65c_grow_92f84 : List Cond := .code yJx4a65c_grow_92f84 cJx4a65c_grow_92f84 4 (some (.array (.object "java/lang/Object"))) :: ((wsJx4a65c_grow_92f84_r1 ++ wsJx4a65c_grow_92f84_r2) ++ wsJx4a65c0)
def wsJx4a65c_grow_d5877_r1 : List Cond := [Cond.fieldLink RJx4a65c 48 "java/util/ArrayList" "size" "I", Cond.methodLink RJx4a65c 69 yJx4a65c_grow_92f84, Cond.instanceMethod yJx4a65c_grow_92f84, Cond.selects RJx4a65c yJx4a65c_grow_92f84 yJx4a65c_grow_92f84, Cond.initialized RJx4a65c, Cond.code yJx4a65c_grow_92f84 cJx4a65c_grow_92f84 4 (some (.array (.object "java/lang/Object"))), Cond.fieldLink RJx4a65c 9 "java/util/ArrayList" "elementData" "[Ljava/lang/Object;", Cond.fieldLink RJx4a65c 39 "java/util/ArrayList" "DEFAULTCAPACITY_EMPTY_ELEMENTDATA" "[Ljava/lang/Object;", Cond.methodLink RJx4a65c 79 Lib.Math.max.name, Cond.static Lib.Math.max.name, Cond.initialized "java/lang/Math", Cond.code Lib.Math.max.name Lib.Math.max.code 2 (some .int), Cond.classLink RJx4a65c 7 "java/lang/Object", Cond.methodLink RJx4a65c 73 yJ8_newLength_cabcc, Cond.static yJ8_newLength_cabcc, Cond.initialized RJ8, Cond.code yJ8_newLength_cabcc cJ8_newLength_cabcc 4 (some .int), Cond.methodLink RJ8 194 Lib.Math.max.name, Cond.constant RJ8 200 (2147483639), Cond.methodLink RJ8 201 yJ8_hugeLength_7cf53, Cond.static yJ8_hugeLength_7cf53, Cond.code yJ8_hugeLength_7cf53 cJ8_hugeLength_7cf53 3 (some .int), Cond.methodLink RJx4a65c 66 yJ7_copyOf_1904c, Cond.static yJ7_copyOf_1904c]
def wsJx4a65c_grow_d5877_r2 : List Cond := [Cond.initialized RJ7, Cond.code yJ7_copyOf_1904c cJ7_copyOf_1904c 2 (some (.array (.object "java/lang/Object"))), Cond.methodLink RJ7 86 ⟨"java/lang/Object", "getClass", "()Ljava/lang/Class;"⟩, Cond.selects "[Ljava/lang/Object;" ⟨"java/lang/Object", "getClass", "()Ljava/lang/Class;"⟩ ⟨"java/lang/Object", "getClass", "()Ljava/lang/Class;"⟩, Cond.instanceMethod ⟨"java/lang/Object", "getClass", "()Ljava/lang/Class;"⟩, Cond.native ⟨"java/lang/Object", "getClass", "()Ljava/lang/Class;"⟩, Cond.methodLink RJ7 300 yJ7_copyOf_6403c, Cond.static yJ7_copyOf_6403c, Cond.code yJ7_copyOf_6403c cJ7_copyOf_6403c 4 (some (.array (.object "java/lang/Object"))), Cond.classLink RJ7 110 "[Ljava/lang/Object;", Cond.classLink RJ7 2 "java/lang/Object", Cond.methodLink RJ7 304 Lib.Math.min.name, Cond.static Lib.Math.min.name, Cond.code Lib.Math.min.name Lib.Math.min.code 2 (some .int), Cond.methodLink RJ7 150 arraycopyName, Cond.native arraycopyName, Cond.static arraycopyName, Cond.initialized "java/lang/System"]
def wsJx4a65c_grow_d5877 : List Cond := .code yJx4a65c_grow_d5877 cJx4a65c_grow_d5877 1 (some (.array (.object "java/lang/Object"))) :: ((wsJx4a65c_grow_d5877_r1 ++ wsJx4a65c_grow_d5877_r2) ++ wsJx4a65c0)
def wsJx4a65c_add_72be8_r1 : List Cond := [Cond.fieldLink RJx4a65c 48 "java/util/ArrayList" "size" "I", Cond.methodLink RJx4a65c 129 yJx4a65c_grow_d5877, Cond.instanceMethod yJx4a65c_grow_d5877, Cond.selects RJx4a65c yJx4a65c_grow_d5877 yJx4a65c_grow_d5877, Cond.initialized RJx4a65c, Cond.code yJx4a65c_grow_d5877 cJx4a65c_grow_d5877 1 (some (.array (.object "java/lang/Object"))), Cond.methodLink RJx4a65c 69 yJx4a65c_grow_92f84, Cond.instanceMethod yJx4a65c_grow_92f84, Cond.selects RJx4a65c yJx4a65c_grow_92f84 yJx4a65c_grow_92f84, Cond.code yJx4a65c_grow_92f84 cJx4a65c_grow_92f84 4 (some (.array (.object "java/lang/Object"))), Cond.fieldLink RJx4a65c 9 "java/util/ArrayList" "elementData" "[Ljava/lang/Object;", Cond.fieldLink RJx4a65c 39 "java/util/ArrayList" "DEFAULTCAPACITY_EMPTY_ELEMENTDATA" "[Ljava/lang/Object;", Cond.methodLink RJx4a65c 79 Lib.Math.max.name, Cond.static Lib.Math.max.name, Cond.initialized "java/lang/Math", Cond.code Lib.Math.max.name Lib.Math.max.code 2 (some .int), Cond.classLink RJx4a65c 7 "java/lang/Object", Cond.methodLink RJx4a65c 73 yJ8_newLength_cabcc, Cond.static yJ8_newLength_cabcc, Cond.initialized RJ8, Cond.code yJ8_newLength_cabcc cJ8_newLength_cabcc 4 (some .int), Cond.methodLink RJ8 194 Lib.Math.max.name, Cond.constant RJ8 200 (2147483639), Cond.methodLink RJ8 201 yJ8_hugeLength_7cf53]
def wsJx4a65c_add_72be8_r2 : List Cond := [Cond.static yJ8_hugeLength_7cf53, Cond.code yJ8_hugeLength_7cf53 cJ8_hugeLength_7cf53 3 (some .int), Cond.methodLink RJx4a65c 66 yJ7_copyOf_1904c, Cond.static yJ7_copyOf_1904c, Cond.initialized RJ7, Cond.code yJ7_copyOf_1904c cJ7_copyOf_1904c 2 (some (.array (.object "java/lang/Object"))), Cond.methodLink RJ7 86 ⟨"java/lang/Object", "getClass", "()Ljava/lang/Class;"⟩, Cond.selects "[Ljava/lang/Object;" ⟨"java/lang/Object", "getClass", "()Ljava/lang/Class;"⟩ ⟨"java/lang/Object", "getClass", "()Ljava/lang/Class;"⟩, Cond.instanceMethod ⟨"java/lang/Object", "getClass", "()Ljava/lang/Class;"⟩, Cond.native ⟨"java/lang/Object", "getClass", "()Ljava/lang/Class;"⟩, Cond.methodLink RJ7 300 yJ7_copyOf_6403c, Cond.static yJ7_copyOf_6403c, Cond.code yJ7_copyOf_6403c cJ7_copyOf_6403c 4 (some (.array (.object "java/lang/Object"))), Cond.classLink RJ7 110 "[Ljava/lang/Object;", Cond.classLink RJ7 2 "java/lang/Object", Cond.methodLink RJ7 304 Lib.Math.min.name, Cond.static Lib.Math.min.name, Cond.code Lib.Math.min.name Lib.Math.min.code 2 (some .int), Cond.methodLink RJ7 150 arraycopyName, Cond.native arraycopyName, Cond.static arraycopyName, Cond.initialized "java/lang/System"]
def wsJx4a65c_add_72be8 : List Cond := .code yJx4a65c_add_72be8 cJx4a65c_add_72be8 4 none :: ((wsJx4a65c_add_72be8_r1 ++ wsJx4a65c_add_72be8_r2) ++ wsJx4a65c0)
def wsJx4a65c_add_9ea2d_r1 : List Cond := [Cond.fieldLink RJx4a65c 63 "java/util/ArrayList" "modCount" "I", Cond.sameField "java/util/ArrayList" "java/util/AbstractList" "modCount" "I", Cond.fieldLink RJx4a65c 9 "java/util/ArrayList" "elementData" "[Ljava/lang/Object;", Cond.fieldLink RJx4a65c 48 "java/util/ArrayList" "size" "I", Cond.methodLink RJx4a65c 131 yJx4a65c_add_72be8, Cond.instanceMethod yJx4a65c_add_72be8, Cond.selects RJx4a65c yJx4a65c_add_72be8 yJx4a65c_add_72be8, Cond.initialized RJx4a65c, Cond.code yJx4a65c_add_72be8 cJx4a65c_add_72be8 4 none, Cond.methodLink RJx4a65c 129 yJx4a65c_grow_d5877, Cond.instanceMethod yJx4a65c_grow_d5877, Cond.selects RJx4a65c yJx4a65c_grow_d5877 yJx4a65c_grow_d5877, Cond.code yJx4a65c_grow_d5877 cJx4a65c_grow_d5877 1 (some (.array (.object "java/lang/Object"))), Cond.methodLink RJx4a65c 69 yJx4a65c_grow_92f84, Cond.instanceMethod yJx4a65c_grow_92f84, Cond.selects RJx4a65c yJx4a65c_grow_92f84 yJx4a65c_grow_92f84, Cond.code yJx4a65c_grow_92f84 cJx4a65c_grow_92f84 4 (some (.array (.object "java/lang/Object"))), Cond.fieldLink RJx4a65c 39 "java/util/ArrayList" "DEFAULTCAPACITY_EMPTY_ELEMENTDATA" "[Ljava/lang/Object;", Cond.methodLink RJx4a65c 79 Lib.Math.max.name, Cond.static Lib.Math.max.name, Cond.initialized "java/lang/Math", Cond.code Lib.Math.max.name Lib.Math.max.code 2 (some .int), Cond.classLink RJx4a65c 7 "java/lang/Object", Cond.methodLink RJx4a65c 73 yJ8_newLength_cabcc]
def wsJx4a65c_add_9ea2d_r2 : List Cond := [Cond.static yJ8_newLength_cabcc, Cond.initialized RJ8, Cond.code yJ8_newLength_cabcc cJ8_newLength_cabcc 4 (some .int), Cond.methodLink RJ8 194 Lib.Math.max.name, Cond.constant RJ8 200 (2147483639), Cond.methodLink RJ8 201 yJ8_hugeLength_7cf53, Cond.static yJ8_hugeLength_7cf53, Cond.code yJ8_hugeLength_7cf53 cJ8_hugeLength_7cf53 3 (some .int), Cond.methodLink RJx4a65c 66 yJ7_copyOf_1904c, Cond.static yJ7_copyOf_1904c, Cond.initialized RJ7, Cond.code yJ7_copyOf_1904c cJ7_copyOf_1904c 2 (some (.array (.object "java/lang/Object"))), Cond.methodLink RJ7 86 ⟨"java/lang/Object", "getClass", "()Ljava/lang/Class;"⟩, Cond.selects "[Ljava/lang/Object;" ⟨"java/lang/Object", "getClass", "()Ljava/lang/Class;"⟩ ⟨"java/lang/Object", "getClass", "()Ljava/lang/Class;"⟩, Cond.instanceMethod ⟨"java/lang/Object", "getClass", "()Ljava/lang/Class;"⟩, Cond.native ⟨"java/lang/Object", "getClass", "()Ljava/lang/Class;"⟩, Cond.methodLink RJ7 300 yJ7_copyOf_6403c, Cond.static yJ7_copyOf_6403c, Cond.code yJ7_copyOf_6403c cJ7_copyOf_6403c 4 (some (.array (.object "java/lang/Object"))), Cond.classLink RJ7 110 "[Ljava/lang/Object;", Cond.classLink RJ7 2 "java/lang/Object", Cond.methodLink RJ7 304 Lib.Math.min.name, Cond.static Lib.Math.min.name, Cond.code Lib.Math.min.name Lib.Math.min.code 2 (some .int)]
def wsJx4a65c_add_9ea2d_r3 : List Cond := [Cond.methodLink RJ7 150 arraycopyName, Cond.native arraycopyName, Cond.static arraycopyName, Cond.initialized "java/lang/System"]
def wsJx4a65c_add_9ea2d : List Cond := .code yJx4a65c_add_9ea2d cJx4a65c_add_9ea2d 2 (some .boolean) :: ((wsJx4a65c_add_9ea2d_r1 ++ (wsJx4a65c_add_9ea2d_r2 ++ wsJx4a65c_add_9ea2d_r3)) ++ wsJx4a65c0)
def wsJx4a65c_size_8abf5 : List Cond := .code yJx4a65c_size_8abf5 cJx4a65c_size_8abf5 1 (some .int) :: ([.fieldLink RJx4a65c 48 "java/util/ArrayList" "size" "I"] ++ wsJx4a65c0)
def wsJ15_checkIndex_7cf53 : List Cond := .code yJ15_checkIndex_7cf53 cJ15_checkIndex_7cf53 2 (some .int) :: ([.methodLink RJ15 105 yJ3_checkIndex_8e157, .static yJ3_checkIndex_8e157, .initialized RJ3, .code yJ3_checkIndex_8e157 cJ3_checkIndex_8e157 3 (some .int)])
def wsJx4a65c_elementData_915e3 : List Cond := .code yJx4a65c_elementData_915e3 cJx4a65c_elementData_915e3 2 (some (.object "java/lang/Object")) :: ([.fieldLink RJx4a65c 9 "java/util/ArrayList" "elementData" "[Ljava/lang/Object;"] ++ wsJx4a65c0)
def wsJx4a65c_get_915e3 : List Cond := .code yJx4a65c_get_915e3 cJx4a65c_get_915e3 2 (some (.object "java/lang/Object")) :: ([.fieldLink RJx4a65c 48 "java/util/ArrayList" "size" "I", .methodLink RJx4a65c 118 yJ15_checkIndex_7cf53, .static yJ15_checkIndex_7cf53, .initialized RJ15, .code yJ15_checkIndex_7cf53 cJ15_checkIndex_7cf53 2 (some .int), .methodLink RJ15 105 yJ3_checkIndex_8e157, .static yJ3_checkIndex_8e157, .initialized RJ3, .code yJ3_checkIndex_8e157 cJ3_checkIndex_8e157 3 (some .int), .methodLink RJx4a65c 123 yJx4a65c_elementData_915e3, .instanceMethod yJx4a65c_elementData_915e3, .selects RJx4a65c yJx4a65c_elementData_915e3 yJx4a65c_elementData_915e3, .initialized RJx4a65c, .code yJx4a65c_elementData_915e3 cJx4a65c_elementData_915e3 2 (some (.object "java/lang/Object")), .fieldLink RJx4a65c 9 "java/util/ArrayList" "elementData" "[Ljava/lang/Object;"] ++ wsJx4a65c0)
def wsX9_game_r1 : List Cond := [Cond.classLink RX9 20 RJx4a65c, Cond.instantiable RJx4a65c 3, Cond.initialized RJx4a65c, Cond.classLink RX9 54 RX7, Cond.instantiable RX7 11, Cond.initialized RX7, Cond.fieldLink RX9 31 "UrnwrightModel$Urn" "counts" "[I", Cond.classLink RX9 54 "UrnwrightModel$Node", Cond.fieldLink RX9 73 "UrnwrightModel$Node" "draws" "I", Cond.fieldLink RX9 76 "UrnwrightModel$Node" "counts" "[I", Cond.fieldLink RX9 81 "UrnwrightModel$Node" "from" "I", Cond.fieldLink RX9 84 "UrnwrightModel$Node" "path" "I", Cond.fieldLink RX9 87 "UrnwrightModel$Node" "gains" "I", Cond.fieldLink RX9 16 "UrnwrightModel$Urn" "pays" "[I", Cond.fieldLink RX9 90 "UrnwrightModel$Node" "up" "J", Cond.fieldLink RX9 94 "UrnwrightModel$Node" "down" "J", Cond.fieldLink RX9 97 "UrnwrightModel$Node" "drawn" "[I", Cond.methodLink RX9 22 yJx4a65c_init_da8c8, Cond.instanceMethod yJx4a65c_init_da8c8, Cond.code yJx4a65c_init_da8c8 cJx4a65c_init_da8c8 1 none, Cond.fieldLink RJx4a65c 39 "java/util/ArrayList" "DEFAULTCAPACITY_EMPTY_ELEMENTDATA" "[Ljava/lang/Object;", Cond.fieldLink RJx4a65c 9 "java/util/ArrayList" "elementData" "[Ljava/lang/Object;", Cond.methodLink RJx4a65c 1 yJxc12de_init_da8c8, Cond.instanceMethod yJxc12de_init_da8c8]
def wsX9_game_r2 : List Cond := [Cond.initialized RJxc12de, Cond.code yJxc12de_init_da8c8 cJxc12de_init_da8c8 1 none, Cond.fieldLink RJxc12de 7 "java/util/AbstractList" "modCount" "I", Cond.methodLink RJxc12de 1 yJxa1e45_init_da8c8, Cond.instanceMethod yJxa1e45_init_da8c8, Cond.initialized RJxa1e45, Cond.code yJxa1e45_init_da8c8 cJxa1e45_init_da8c8 1 none, Cond.methodLink RJxa1e45 1 objectInit, Cond.instanceMethod objectInit, Cond.code objectInit ⟨#[0xb1]⟩ 1 none, Cond.methodLink RX9 56 yX7_init, Cond.instanceMethod yX7_init, Cond.code yX7_init cX7_init 2 none, Cond.methodLink RX7 3 objectInit, Cond.arrayClass .int, Cond.fieldLink RX7 9 "UrnwrightModel$Node" "drawn" "[I", Cond.fieldLink RX7 15 "UrnwrightModel$Node" "from" "I", Cond.fieldLink RX7 19 "UrnwrightModel$Node" "up" "J", Cond.fieldLink RX7 23 "UrnwrightModel$Node" "down" "J", Cond.classLink RX7 26 RX8, Cond.instantiable RX8 2, Cond.initialized RX8, Cond.fieldLink RX7 29 "UrnwrightModel$Node" "worth" "LUrnwrightModel$Sum;", Cond.fieldLink RX7 33 "UrnwrightModel$Node" "next" "LUrnwrightModel$Sum;"]
def wsX9_game_r3 : List Cond := [Cond.fieldLink RX7 36 "UrnwrightModel$Node" "counts" "[I", Cond.instanceMethod yX8_init, Cond.code yX8_init cX8_init 1 none, Cond.methodLink RX8 1 objectInit, Cond.fieldLink RX8 7 "UrnwrightModel$Sum" "up" "J", Cond.fieldLink RX8 13 "UrnwrightModel$Sum" "down" "J", Cond.methodLink RX9 59 ⟨"java/util/List", "add", "(Ljava/lang/Object;)Z"⟩, Cond.selects RJx4a65c ⟨"java/util/List", "add", "(Ljava/lang/Object;)Z"⟩ yJx4a65c_add_9ea2d, Cond.instanceMethod yJx4a65c_add_9ea2d, Cond.code yJx4a65c_add_9ea2d cJx4a65c_add_9ea2d 2 (some .boolean), Cond.fieldLink RJx4a65c 63 "java/util/ArrayList" "modCount" "I", Cond.sameField "java/util/ArrayList" "java/util/AbstractList" "modCount" "I", Cond.fieldLink RJx4a65c 48 "java/util/ArrayList" "size" "I", Cond.methodLink RJx4a65c 131 yJx4a65c_add_72be8, Cond.instanceMethod yJx4a65c_add_72be8, Cond.selects RJx4a65c yJx4a65c_add_72be8 yJx4a65c_add_72be8, Cond.code yJx4a65c_add_72be8 cJx4a65c_add_72be8 4 none, Cond.methodLink RJx4a65c 129 yJx4a65c_grow_d5877, Cond.instanceMethod yJx4a65c_grow_d5877, Cond.selects RJx4a65c yJx4a65c_grow_d5877 yJx4a65c_grow_d5877, Cond.code yJx4a65c_grow_d5877 cJx4a65c_grow_d5877 1 (some (.array (.object "java/lang/Object"))), Cond.methodLink RJx4a65c 69 yJx4a65c_grow_92f84, Cond.instanceMethod yJx4a65c_grow_92f84, Cond.selects RJx4a65c yJx4a65c_grow_92f84 yJx4a65c_grow_92f84]
def wsX9_game_r4 : List Cond := [Cond.code yJx4a65c_grow_92f84 cJx4a65c_grow_92f84 4 (some (.array (.object "java/lang/Object"))), Cond.methodLink RJx4a65c 79 Lib.Math.max.name, Cond.static Lib.Math.max.name, Cond.initialized "java/lang/Math", Cond.code Lib.Math.max.name Lib.Math.max.code 2 (some .int), Cond.classLink RJx4a65c 7 "java/lang/Object", Cond.methodLink RJx4a65c 73 yJ8_newLength_cabcc, Cond.static yJ8_newLength_cabcc, Cond.initialized RJ8, Cond.code yJ8_newLength_cabcc cJ8_newLength_cabcc 4 (some .int), Cond.methodLink RJ8 194 Lib.Math.max.name, Cond.constant RJ8 200 (2147483639), Cond.methodLink RJ8 201 yJ8_hugeLength_7cf53, Cond.static yJ8_hugeLength_7cf53, Cond.code yJ8_hugeLength_7cf53 cJ8_hugeLength_7cf53 3 (some .int), Cond.methodLink RJx4a65c 66 yJ7_copyOf_1904c, Cond.static yJ7_copyOf_1904c, Cond.initialized RJ7, Cond.code yJ7_copyOf_1904c cJ7_copyOf_1904c 2 (some (.array (.object "java/lang/Object"))), Cond.methodLink RJ7 86 ⟨"java/lang/Object", "getClass", "()Ljava/lang/Class;"⟩, Cond.selects "[Ljava/lang/Object;" ⟨"java/lang/Object", "getClass", "()Ljava/lang/Class;"⟩ ⟨"java/lang/Object", "getClass", "()Ljava/lang/Class;"⟩, Cond.instanceMethod ⟨"java/lang/Object", "getClass", "()Ljava/lang/Class;"⟩, Cond.native ⟨"java/lang/Object", "getClass", "()Ljava/lang/Class;"⟩, Cond.methodLink RJ7 300 yJ7_copyOf_6403c]
def wsX9_game_r5 : List Cond := [Cond.static yJ7_copyOf_6403c, Cond.code yJ7_copyOf_6403c cJ7_copyOf_6403c 4 (some (.array (.object "java/lang/Object"))), Cond.classLink RJ7 110 "[Ljava/lang/Object;", Cond.classLink RJ7 2 "java/lang/Object", Cond.methodLink RJ7 304 Lib.Math.min.name, Cond.static Lib.Math.min.name, Cond.code Lib.Math.min.name Lib.Math.min.code 2 (some .int), Cond.methodLink RJ7 150 arraycopyName, Cond.native arraycopyName, Cond.static arraycopyName, Cond.initialized "java/lang/System", Cond.methodLink RX9 65 ⟨"java/util/List", "size", "()I"⟩, Cond.selects RJx4a65c ⟨"java/util/List", "size", "()I"⟩ yJx4a65c_size_8abf5, Cond.instanceMethod yJx4a65c_size_8abf5, Cond.code yJx4a65c_size_8abf5 cJx4a65c_size_8abf5 1 (some .int), Cond.methodLink RX9 69 ⟨"java/util/List", "get", "(I)Ljava/lang/Object;"⟩, Cond.selects RJx4a65c ⟨"java/util/List", "get", "(I)Ljava/lang/Object;"⟩ yJx4a65c_get_915e3, Cond.instanceMethod yJx4a65c_get_915e3, Cond.code yJx4a65c_get_915e3 cJx4a65c_get_915e3 2 (some (.object "java/lang/Object")), Cond.methodLink RJx4a65c 118 yJ15_checkIndex_7cf53, Cond.static yJ15_checkIndex_7cf53, Cond.initialized RJ15, Cond.code yJ15_checkIndex_7cf53 cJ15_checkIndex_7cf53 2 (some .int), Cond.methodLink RJ15 105 yJ3_checkIndex_8e157]
def wsX9_game_r6 : List Cond := [Cond.static yJ3_checkIndex_8e157, Cond.initialized RJ3, Cond.code yJ3_checkIndex_8e157 cJ3_checkIndex_8e157 3 (some .int), Cond.methodLink RJx4a65c 123 yJx4a65c_elementData_915e3, Cond.instanceMethod yJx4a65c_elementData_915e3, Cond.selects RJx4a65c yJx4a65c_elementData_915e3 yJx4a65c_elementData_915e3, Cond.code yJx4a65c_elementData_915e3 cJx4a65c_elementData_915e3 2 (some (.object "java/lang/Object")), Cond.methodLink RX9 77 yX9_behind, Cond.instanceMethod yX9_behind, Cond.selects RX9 yX9_behind yX9_behind, Cond.initialized RX9, Cond.code yX9_behind cX9_behind 5 (some (.array .int)), Cond.fieldLink RX9 34 "UrnwrightModel$Urn" "growth" "I", Cond.fieldLink RX9 11 "UrnwrightModel$Urn" "rules" "[[I", Cond.methodLink RX9 43 yX9_all, Cond.static yX9_all, Cond.code yX9_all cX9_all 1 (some .int)]
def wsX9_game : List Cond := .code yX9_game cX9_game 8 (some (.object "java/util/List")) :: ((wsX9_game_r1 ++ (wsX9_game_r2 ++ (wsX9_game_r3 ++ (wsX9_game_r4 ++ (wsX9_game_r5 ++ wsX9_game_r6))))) ++ wsJx4a65c0 ++ wsX70 ++ wsX90 ++ wsX80)
def wsX9_holds : List Cond := .code yX9_holds cX9_holds 2 (some .boolean) :: ([.fieldLink RX9 100 "UrnwrightModel$Urn" "kind" "I", .fieldLink RX9 87 "UrnwrightModel$Node" "gains" "I", .fieldLink RX9 27 "UrnwrightModel$Urn" "number" "I", .fieldLink RX9 97 "UrnwrightModel$Node" "drawn" "[I", .methodLink RX9 37 Lib.Math.max.name, .static Lib.Math.max.name, .initialized "java/lang/Math", .code Lib.Math.max.name Lib.Math.max.code 2 (some .int)] ++ wsX90 ++ wsX70)
def wsX10_init : List Cond := .code yX10_init cX10_init 1 none :: ([.methodLink RX10 1 objectInit, .instanceMethod objectInit, .code objectInit ⟨#[0xb1]⟩ 1 none, .classLink RX10 7 RJx4a65c, .instantiable RJx4a65c 3, .initialized RJx4a65c, .fieldLink RX10 10 "UrnwrightModel" "urns" "Ljava/util/List;", .fieldLink RX10 16 "UrnwrightModel" "rows" "Ljava/util/List;", .methodLink RX10 9 yJx4a65c_init_da8c8, .instanceMethod yJx4a65c_init_da8c8, .code yJx4a65c_init_da8c8 cJx4a65c_init_da8c8 1 none, .fieldLink RJx4a65c 39 "java/util/ArrayList" "DEFAULTCAPACITY_EMPTY_ELEMENTDATA" "[Ljava/lang/Object;", .fieldLink RJx4a65c 9 "java/util/ArrayList" "elementData" "[Ljava/lang/Object;", .methodLink RJx4a65c 1 yJxc12de_init_da8c8, .instanceMethod yJxc12de_init_da8c8, .initialized RJxc12de, .code yJxc12de_init_da8c8 cJxc12de_init_da8c8 1 none, .fieldLink RJxc12de 7 "java/util/AbstractList" "modCount" "I", .methodLink RJxc12de 1 yJxa1e45_init_da8c8, .instanceMethod yJxa1e45_init_da8c8, .initialized RJxa1e45, .code yJxa1e45_init_da8c8 cJxa1e45_init_da8c8 1 none, .methodLink RJxa1e45 1 objectInit] ++ wsJx4a65c0 ++ wsX100)
def wsX10_thrown : List Cond := .code yX10_thrown cX10_thrown 1 (some .int) :: ([.fieldLink RX10 19 "UrnwrightModel" "thrown" "I"] ++ wsX100)
def wsX10_no : List Cond := .code yX10_no cX10_no 2 (some .int) :: ([.fieldLink RX10 19 "UrnwrightModel" "thrown" "I"] ++ wsX100)
def wsX10_isUrn : List Cond := .code yX10_isUrn cX10_isUrn 2 (some .boolean) :: ([.fieldLink RX10 10 "UrnwrightModel" "urns" "Ljava/util/List;", .methodLink RX10 23 ⟨"java/util/List", "size", "()I"⟩, .selects RJx4a65c ⟨"java/util/List", "size", "()I"⟩ yJx4a65c_size_8abf5, .instanceMethod yJx4a65c_size_8abf5, .initialized RJx4a65c, .code yJx4a65c_size_8abf5 cJx4a65c_size_8abf5 1 (some .int), .fieldLink RJx4a65c 48 "java/util/ArrayList" "size" "I", .methodLink RX10 29 yX10_in, .static yX10_in, .initialized RX10, .code yX10_in cX10_in 3 (some .boolean)] ++ wsX100 ++ wsJx4a65c0)
def wsX10_isRow : List Cond := .code yX10_isRow cX10_isRow 2 (some .boolean) :: ([.fieldLink RX10 16 "UrnwrightModel" "rows" "Ljava/util/List;", .methodLink RX10 23 ⟨"java/util/List", "size", "()I"⟩, .selects RJx4a65c ⟨"java/util/List", "size", "()I"⟩ yJx4a65c_size_8abf5, .instanceMethod yJx4a65c_size_8abf5, .initialized RJx4a65c, .code yJx4a65c_size_8abf5 cJx4a65c_size_8abf5 1 (some .int), .fieldLink RJx4a65c 48 "java/util/ArrayList" "size" "I", .methodLink RX10 29 yX10_in, .static yX10_in, .initialized RX10, .code yX10_in cX10_in 3 (some .boolean)] ++ wsX100 ++ wsJx4a65c0)
def wsX10_draws : List Cond := .code yX10_draws cX10_draws 3 (some .int) :: ([.methodLink RX10 29 yX10_in, .static yX10_in, .initialized RX10, .code yX10_in cX10_in 3 (some .boolean)])
def wsX10_urn_r1 : List Cond := [Cond.fieldLink RX10 19 "UrnwrightModel" "thrown" "I", Cond.fieldLink RX10 10 "UrnwrightModel" "urns" "Ljava/util/List;", Cond.arrayClass .int, Cond.classLink RX10 37 RX9, Cond.instantiable RX9 9, Cond.initialized RX9, Cond.methodLink RX10 29 yX10_in, Cond.static yX10_in, Cond.initialized RX10, Cond.code yX10_in cX10_in 3 (some .boolean), Cond.methodLink RX10 33 yX10_no, Cond.instanceMethod yX10_no, Cond.selects RX10 yX10_no yX10_no, Cond.code yX10_no cX10_no 2 (some .int), Cond.methodLink RX10 23 ⟨"java/util/List", "size", "()I"⟩, Cond.selects RJx4a65c ⟨"java/util/List", "size", "()I"⟩ yJx4a65c_size_8abf5, Cond.instanceMethod yJx4a65c_size_8abf5, Cond.initialized RJx4a65c, Cond.code yJx4a65c_size_8abf5 cJx4a65c_size_8abf5 1 (some .int), Cond.fieldLink RJx4a65c 48 "java/util/ArrayList" "size" "I", Cond.methodLink RX10 39 yX9_init, Cond.instanceMethod yX9_init, Cond.code yX9_init cX9_init 4 none, Cond.methodLink RX9 3 objectInit]
def wsX10_urn_r2 : List Cond := [Cond.instanceMethod objectInit, Cond.code objectInit ⟨#[0xb1]⟩ 1 none, Cond.classLink RX9 9 "[[I", Cond.fieldLink RX9 11 "UrnwrightModel$Urn" "rules" "[[I", Cond.fieldLink RX9 16 "UrnwrightModel$Urn" "pays" "[I", Cond.classLink RX9 20 RJx4a65c, Cond.instantiable RJx4a65c 3, Cond.fieldLink RX9 23 "UrnwrightModel$Urn" "before" "Ljava/util/List;", Cond.fieldLink RX9 27 "UrnwrightModel$Urn" "number" "I", Cond.fieldLink RX9 31 "UrnwrightModel$Urn" "counts" "[I", Cond.fieldLink RX9 34 "UrnwrightModel$Urn" "growth" "I", Cond.methodLink RX9 37 Lib.Math.max.name, Cond.static Lib.Math.max.name, Cond.initialized "java/lang/Math", Cond.code Lib.Math.max.name Lib.Math.max.code 2 (some .int), Cond.methodLink RX9 22 yJx4a65c_init_da8c8, Cond.instanceMethod yJx4a65c_init_da8c8, Cond.code yJx4a65c_init_da8c8 cJx4a65c_init_da8c8 1 none, Cond.fieldLink RJx4a65c 39 "java/util/ArrayList" "DEFAULTCAPACITY_EMPTY_ELEMENTDATA" "[Ljava/lang/Object;", Cond.fieldLink RJx4a65c 9 "java/util/ArrayList" "elementData" "[Ljava/lang/Object;", Cond.methodLink RJx4a65c 1 yJxc12de_init_da8c8, Cond.instanceMethod yJxc12de_init_da8c8, Cond.initialized RJxc12de, Cond.code yJxc12de_init_da8c8 cJxc12de_init_da8c8 1 none]
def wsX10_urn_r3 : List Cond := [Cond.fieldLink RJxc12de 7 "java/util/AbstractList" "modCount" "I", Cond.methodLink RJxc12de 1 yJxa1e45_init_da8c8, Cond.instanceMethod yJxa1e45_init_da8c8, Cond.initialized RJxa1e45, Cond.code yJxa1e45_init_da8c8 cJxa1e45_init_da8c8 1 none, Cond.methodLink RJxa1e45 1 objectInit, Cond.methodLink RX10 42 ⟨"java/util/List", "add", "(Ljava/lang/Object;)Z"⟩, Cond.selects RJx4a65c ⟨"java/util/List", "add", "(Ljava/lang/Object;)Z"⟩ yJx4a65c_add_9ea2d, Cond.instanceMethod yJx4a65c_add_9ea2d, Cond.code yJx4a65c_add_9ea2d cJx4a65c_add_9ea2d 2 (some .boolean), Cond.fieldLink RJx4a65c 63 "java/util/ArrayList" "modCount" "I", Cond.sameField "java/util/ArrayList" "java/util/AbstractList" "modCount" "I", Cond.methodLink RJx4a65c 131 yJx4a65c_add_72be8, Cond.instanceMethod yJx4a65c_add_72be8, Cond.selects RJx4a65c yJx4a65c_add_72be8 yJx4a65c_add_72be8, Cond.code yJx4a65c_add_72be8 cJx4a65c_add_72be8 4 none, Cond.methodLink RJx4a65c 129 yJx4a65c_grow_d5877, Cond.instanceMethod yJx4a65c_grow_d5877, Cond.selects RJx4a65c yJx4a65c_grow_d5877 yJx4a65c_grow_d5877, Cond.code yJx4a65c_grow_d5877 cJx4a65c_grow_d5877 1 (some (.array (.object "java/lang/Object"))), Cond.methodLink RJx4a65c 69 yJx4a65c_grow_92f84, Cond.instanceMethod yJx4a65c_grow_92f84, Cond.selects RJx4a65c yJx4a65c_grow_92f84 yJx4a65c_grow_92f84, Cond.code yJx4a65c_grow_92f84 cJx4a65c_grow_92f84 4 (some (.array (.object "java/lang/Object")))]
def wsX10_urn_r4 : List Cond := [Cond.methodLink RJx4a65c 79 Lib.Math.max.name, Cond.classLink RJx4a65c 7 "java/lang/Object", Cond.methodLink RJx4a65c 73 yJ8_newLength_cabcc, Cond.static yJ8_newLength_cabcc, Cond.initialized RJ8, Cond.code yJ8_newLength_cabcc cJ8_newLength_cabcc 4 (some .int), Cond.methodLink RJ8 194 Lib.Math.max.name, Cond.constant RJ8 200 (2147483639), Cond.methodLink RJ8 201 yJ8_hugeLength_7cf53, Cond.static yJ8_hugeLength_7cf53, Cond.code yJ8_hugeLength_7cf53 cJ8_hugeLength_7cf53 3 (some .int), Cond.methodLink RJx4a65c 66 yJ7_copyOf_1904c, Cond.static yJ7_copyOf_1904c, Cond.initialized RJ7, Cond.code yJ7_copyOf_1904c cJ7_copyOf_1904c 2 (some (.array (.object "java/lang/Object"))), Cond.methodLink RJ7 86 ⟨"java/lang/Object", "getClass", "()Ljava/lang/Class;"⟩, Cond.selects "[Ljava/lang/Object;" ⟨"java/lang/Object", "getClass", "()Ljava/lang/Class;"⟩ ⟨"java/lang/Object", "getClass", "()Ljava/lang/Class;"⟩, Cond.instanceMethod ⟨"java/lang/Object", "getClass", "()Ljava/lang/Class;"⟩, Cond.native ⟨"java/lang/Object", "getClass", "()Ljava/lang/Class;"⟩, Cond.methodLink RJ7 300 yJ7_copyOf_6403c, Cond.static yJ7_copyOf_6403c, Cond.code yJ7_copyOf_6403c cJ7_copyOf_6403c 4 (some (.array (.object "java/lang/Object"))), Cond.classLink RJ7 110 "[Ljava/lang/Object;", Cond.classLink RJ7 2 "java/lang/Object"]
def wsX10_urn_r5 : List Cond := [Cond.methodLink RJ7 304 Lib.Math.min.name, Cond.static Lib.Math.min.name, Cond.code Lib.Math.min.name Lib.Math.min.code 2 (some .int), Cond.methodLink RJ7 150 arraycopyName, Cond.native arraycopyName, Cond.static arraycopyName, Cond.initialized "java/lang/System"]
def wsX10_urn : List Cond := .code yX10_urn cX10_urn 6 (some .int) :: ((wsX10_urn_r1 ++ (wsX10_urn_r2 ++ (wsX10_urn_r3 ++ (wsX10_urn_r4 ++ wsX10_urn_r5)))) ++ wsX100 ++ wsX90 ++ wsJx4a65c0)
def wsX10_rule_r1 : List Cond := [Cond.fieldLink RX10 19 "UrnwrightModel" "thrown" "I", Cond.fieldLink RX10 10 "UrnwrightModel" "urns" "Ljava/util/List;", Cond.classLink RX10 37 "UrnwrightModel$Urn", Cond.fieldLink RX10 54 "UrnwrightModel$Urn" "growth" "I", Cond.fieldLink RX10 57 "UrnwrightModel$Urn" "rules" "[[I", Cond.arrayClass .int, Cond.methodLink RX10 61 arraycopyName, Cond.native arraycopyName, Cond.static arraycopyName, Cond.initialized "java/lang/System", Cond.methodLink RX10 46 yX10_isUrn, Cond.instanceMethod yX10_isUrn, Cond.selects RX10 yX10_isUrn yX10_isUrn, Cond.initialized RX10, Cond.code yX10_isUrn cX10_isUrn 2 (some .boolean), Cond.methodLink RX10 23 ⟨"java/util/List", "size", "()I"⟩, Cond.selects RJx4a65c ⟨"java/util/List", "size", "()I"⟩ yJx4a65c_size_8abf5, Cond.instanceMethod yJx4a65c_size_8abf5, Cond.initialized RJx4a65c, Cond.code yJx4a65c_size_8abf5 cJx4a65c_size_8abf5 1 (some .int), Cond.fieldLink RJx4a65c 48 "java/util/ArrayList" "size" "I", Cond.methodLink RX10 29 yX10_in, Cond.static yX10_in, Cond.code yX10_in cX10_in 3 (some .boolean)]
def wsX10_rule_r2 : List Cond := [Cond.methodLink RX10 33 yX10_no, Cond.instanceMethod yX10_no, Cond.selects RX10 yX10_no yX10_no, Cond.code yX10_no cX10_no 2 (some .int), Cond.methodLink RX10 50 ⟨"java/util/List", "get", "(I)Ljava/lang/Object;"⟩, Cond.selects RJx4a65c ⟨"java/util/List", "get", "(I)Ljava/lang/Object;"⟩ yJx4a65c_get_915e3, Cond.instanceMethod yJx4a65c_get_915e3, Cond.code yJx4a65c_get_915e3 cJx4a65c_get_915e3 2 (some (.object "java/lang/Object")), Cond.methodLink RJx4a65c 118 yJ15_checkIndex_7cf53, Cond.static yJ15_checkIndex_7cf53, Cond.initialized RJ15, Cond.code yJ15_checkIndex_7cf53 cJ15_checkIndex_7cf53 2 (some .int), Cond.methodLink RJ15 105 yJ3_checkIndex_8e157, Cond.static yJ3_checkIndex_8e157, Cond.initialized RJ3, Cond.code yJ3_checkIndex_8e157 cJ3_checkIndex_8e157 3 (some .int), Cond.methodLink RJx4a65c 123 yJx4a65c_elementData_915e3, Cond.instanceMethod yJx4a65c_elementData_915e3, Cond.selects RJx4a65c yJx4a65c_elementData_915e3 yJx4a65c_elementData_915e3, Cond.code yJx4a65c_elementData_915e3 cJx4a65c_elementData_915e3 2 (some (.object "java/lang/Object")), Cond.fieldLink RJx4a65c 9 "java/util/ArrayList" "elementData" "[Ljava/lang/Object;"]
def wsX10_rule : List Cond := .code yX10_rule cX10_rule 9 (some .int) :: ((wsX10_rule_r1 ++ wsX10_rule_r2) ++ wsX100 ++ wsX90 ++ wsJx4a65c0)
def wsX10_pay_r1 : List Cond := [Cond.fieldLink RX10 19 "UrnwrightModel" "thrown" "I", Cond.fieldLink RX10 10 "UrnwrightModel" "urns" "Ljava/util/List;", Cond.classLink RX10 37 "UrnwrightModel$Urn", Cond.fieldLink RX10 67 "UrnwrightModel$Urn" "pays" "[I", Cond.methodLink RX10 46 yX10_isUrn, Cond.instanceMethod yX10_isUrn, Cond.selects RX10 yX10_isUrn yX10_isUrn, Cond.initialized RX10, Cond.code yX10_isUrn cX10_isUrn 2 (some .boolean), Cond.methodLink RX10 23 ⟨"java/util/List", "size", "()I"⟩, Cond.selects RJx4a65c ⟨"java/util/List", "size", "()I"⟩ yJx4a65c_size_8abf5, Cond.instanceMethod yJx4a65c_size_8abf5, Cond.initialized RJx4a65c, Cond.code yJx4a65c_size_8abf5 cJx4a65c_size_8abf5 1 (some .int), Cond.fieldLink RJx4a65c 48 "java/util/ArrayList" "size" "I", Cond.methodLink RX10 29 yX10_in, Cond.static yX10_in, Cond.code yX10_in cX10_in 3 (some .boolean), Cond.methodLink RX10 33 yX10_no, Cond.instanceMethod yX10_no, Cond.selects RX10 yX10_no yX10_no, Cond.code yX10_no cX10_no 2 (some .int), Cond.methodLink RX10 50 ⟨"java/util/List", "get", "(I)Ljava/lang/Object;"⟩, Cond.selects RJx4a65c ⟨"java/util/List", "get", "(I)Ljava/lang/Object;"⟩ yJx4a65c_get_915e3]
def wsX10_pay_r2 : List Cond := [Cond.instanceMethod yJx4a65c_get_915e3, Cond.code yJx4a65c_get_915e3 cJx4a65c_get_915e3 2 (some (.object "java/lang/Object")), Cond.methodLink RJx4a65c 118 yJ15_checkIndex_7cf53, Cond.static yJ15_checkIndex_7cf53, Cond.initialized RJ15, Cond.code yJ15_checkIndex_7cf53 cJ15_checkIndex_7cf53 2 (some .int), Cond.methodLink RJ15 105 yJ3_checkIndex_8e157, Cond.static yJ3_checkIndex_8e157, Cond.initialized RJ3, Cond.code yJ3_checkIndex_8e157 cJ3_checkIndex_8e157 3 (some .int), Cond.methodLink RJx4a65c 123 yJx4a65c_elementData_915e3, Cond.instanceMethod yJx4a65c_elementData_915e3, Cond.selects RJx4a65c yJx4a65c_elementData_915e3 yJx4a65c_elementData_915e3, Cond.code yJx4a65c_elementData_915e3 cJx4a65c_elementData_915e3 2 (some (.object "java/lang/Object")), Cond.fieldLink RJx4a65c 9 "java/util/ArrayList" "elementData" "[Ljava/lang/Object;"]
def wsX10_pay : List Cond := .code yX10_pay cX10_pay 5 (some .int) :: ((wsX10_pay_r1 ++ wsX10_pay_r2) ++ wsX100 ++ wsX90 ++ wsJx4a65c0)
def wsX10_stop_r1 : List Cond := [Cond.fieldLink RX10 19 "UrnwrightModel" "thrown" "I", Cond.fieldLink RX10 10 "UrnwrightModel" "urns" "Ljava/util/List;", Cond.classLink RX10 37 "UrnwrightModel$Urn", Cond.fieldLink RX10 71 "UrnwrightModel$Urn" "kind" "I", Cond.fieldLink RX10 74 "UrnwrightModel$Urn" "number" "I", Cond.methodLink RX10 46 yX10_isUrn, Cond.instanceMethod yX10_isUrn, Cond.selects RX10 yX10_isUrn yX10_isUrn, Cond.initialized RX10, Cond.code yX10_isUrn cX10_isUrn 2 (some .boolean), Cond.methodLink RX10 23 ⟨"java/util/List", "size", "()I"⟩, Cond.selects RJx4a65c ⟨"java/util/List", "size", "()I"⟩ yJx4a65c_size_8abf5, Cond.instanceMethod yJx4a65c_size_8abf5, Cond.initialized RJx4a65c, Cond.code yJx4a65c_size_8abf5 cJx4a65c_size_8abf5 1 (some .int), Cond.fieldLink RJx4a65c 48 "java/util/ArrayList" "size" "I", Cond.methodLink RX10 29 yX10_in, Cond.static yX10_in, Cond.code yX10_in cX10_in 3 (some .boolean), Cond.methodLink RX10 33 yX10_no, Cond.instanceMethod yX10_no, Cond.selects RX10 yX10_no yX10_no, Cond.code yX10_no cX10_no 2 (some .int), Cond.methodLink RX10 50 ⟨"java/util/List", "get", "(I)Ljava/lang/Object;"⟩]
def wsX10_stop_r2 : List Cond := [Cond.selects RJx4a65c ⟨"java/util/List", "get", "(I)Ljava/lang/Object;"⟩ yJx4a65c_get_915e3, Cond.instanceMethod yJx4a65c_get_915e3, Cond.code yJx4a65c_get_915e3 cJx4a65c_get_915e3 2 (some (.object "java/lang/Object")), Cond.methodLink RJx4a65c 118 yJ15_checkIndex_7cf53, Cond.static yJ15_checkIndex_7cf53, Cond.initialized RJ15, Cond.code yJ15_checkIndex_7cf53 cJ15_checkIndex_7cf53 2 (some .int), Cond.methodLink RJ15 105 yJ3_checkIndex_8e157, Cond.static yJ3_checkIndex_8e157, Cond.initialized RJ3, Cond.code yJ3_checkIndex_8e157 cJ3_checkIndex_8e157 3 (some .int), Cond.methodLink RJx4a65c 123 yJx4a65c_elementData_915e3, Cond.instanceMethod yJx4a65c_elementData_915e3, Cond.selects RJx4a65c yJx4a65c_elementData_915e3 yJx4a65c_elementData_915e3, Cond.code yJx4a65c_elementData_915e3 cJx4a65c_elementData_915e3 2 (some (.object "java/lang/Object")), Cond.fieldLink RJx4a65c 9 "java/util/ArrayList" "elementData" "[Ljava/lang/Object;"]
def wsX10_stop : List Cond := .code yX10_stop cX10_stop 5 (some .int) :: ((wsX10_stop_r1 ++ wsX10_stop_r2) ++ wsX100 ++ wsX90 ++ wsJx4a65c0)
def wsX10_draw_r1 : List Cond := [Cond.fieldLink RX10 19 "UrnwrightModel" "thrown" "I", Cond.fieldLink RX10 10 "UrnwrightModel" "urns" "Ljava/util/List;", Cond.classLink RX10 37 "UrnwrightModel$Urn", Cond.fieldLink RX10 77 "UrnwrightModel$Urn" "counts" "[I", Cond.fieldLink RX10 80 "UrnwrightModel$Urn" "before" "Ljava/util/List;", Cond.fieldLink RX10 87 "UrnwrightModel$Urn" "path" "I", Cond.fieldLink RX10 90 "UrnwrightModel$Urn" "gain" "I", Cond.fieldLink RX10 67 "UrnwrightModel$Urn" "pays" "[I", Cond.methodLink RX10 46 yX10_isUrn, Cond.instanceMethod yX10_isUrn, Cond.selects RX10 yX10_isUrn yX10_isUrn, Cond.initialized RX10, Cond.code yX10_isUrn cX10_isUrn 2 (some .boolean), Cond.methodLink RX10 23 ⟨"java/util/List", "size", "()I"⟩, Cond.selects RJx4a65c ⟨"java/util/List", "size", "()I"⟩ yJx4a65c_size_8abf5, Cond.instanceMethod yJx4a65c_size_8abf5, Cond.initialized RJx4a65c, Cond.code yJx4a65c_size_8abf5 cJx4a65c_size_8abf5 1 (some .int), Cond.fieldLink RJx4a65c 48 "java/util/ArrayList" "size" "I", Cond.methodLink RX10 29 yX10_in, Cond.static yX10_in, Cond.code yX10_in cX10_in 3 (some .boolean), Cond.methodLink RX10 33 yX10_no, Cond.instanceMethod yX10_no]
def wsX10_draw_r2 : List Cond := [Cond.selects RX10 yX10_no yX10_no, Cond.code yX10_no cX10_no 2 (some .int), Cond.methodLink RX10 50 ⟨"java/util/List", "get", "(I)Ljava/lang/Object;"⟩, Cond.selects RJx4a65c ⟨"java/util/List", "get", "(I)Ljava/lang/Object;"⟩ yJx4a65c_get_915e3, Cond.instanceMethod yJx4a65c_get_915e3, Cond.code yJx4a65c_get_915e3 cJx4a65c_get_915e3 2 (some (.object "java/lang/Object")), Cond.methodLink RJx4a65c 118 yJ15_checkIndex_7cf53, Cond.static yJ15_checkIndex_7cf53, Cond.initialized RJ15, Cond.code yJ15_checkIndex_7cf53 cJ15_checkIndex_7cf53 2 (some .int), Cond.methodLink RJ15 105 yJ3_checkIndex_8e157, Cond.static yJ3_checkIndex_8e157, Cond.initialized RJ3, Cond.code yJ3_checkIndex_8e157 cJ3_checkIndex_8e157 3 (some .int), Cond.methodLink RJx4a65c 123 yJx4a65c_elementData_915e3, Cond.instanceMethod yJx4a65c_elementData_915e3, Cond.selects RJx4a65c yJx4a65c_elementData_915e3 yJx4a65c_elementData_915e3, Cond.code yJx4a65c_elementData_915e3 cJx4a65c_elementData_915e3 2 (some (.object "java/lang/Object")), Cond.fieldLink RJx4a65c 9 "java/util/ArrayList" "elementData" "[Ljava/lang/Object;", Cond.methodLink RX10 42 ⟨"java/util/List", "add", "(Ljava/lang/Object;)Z"⟩, Cond.selects RJx4a65c ⟨"java/util/List", "add", "(Ljava/lang/Object;)Z"⟩ yJx4a65c_add_9ea2d, Cond.instanceMethod yJx4a65c_add_9ea2d, Cond.code yJx4a65c_add_9ea2d cJx4a65c_add_9ea2d 2 (some .boolean), Cond.fieldLink RJx4a65c 63 "java/util/ArrayList" "modCount" "I"]
def wsX10_draw_r3 : List Cond := [Cond.sameField "java/util/ArrayList" "java/util/AbstractList" "modCount" "I", Cond.methodLink RJx4a65c 131 yJx4a65c_add_72be8, Cond.instanceMethod yJx4a65c_add_72be8, Cond.selects RJx4a65c yJx4a65c_add_72be8 yJx4a65c_add_72be8, Cond.code yJx4a65c_add_72be8 cJx4a65c_add_72be8 4 none, Cond.methodLink RJx4a65c 129 yJx4a65c_grow_d5877, Cond.instanceMethod yJx4a65c_grow_d5877, Cond.selects RJx4a65c yJx4a65c_grow_d5877 yJx4a65c_grow_d5877, Cond.code yJx4a65c_grow_d5877 cJx4a65c_grow_d5877 1 (some (.array (.object "java/lang/Object"))), Cond.methodLink RJx4a65c 69 yJx4a65c_grow_92f84, Cond.instanceMethod yJx4a65c_grow_92f84, Cond.selects RJx4a65c yJx4a65c_grow_92f84 yJx4a65c_grow_92f84, Cond.code yJx4a65c_grow_92f84 cJx4a65c_grow_92f84 4 (some (.array (.object "java/lang/Object"))), Cond.fieldLink RJx4a65c 39 "java/util/ArrayList" "DEFAULTCAPACITY_EMPTY_ELEMENTDATA" "[Ljava/lang/Object;", Cond.methodLink RJx4a65c 79 Lib.Math.max.name, Cond.static Lib.Math.max.name, Cond.initialized "java/lang/Math", Cond.code Lib.Math.max.name Lib.Math.max.code 2 (some .int), Cond.classLink RJx4a65c 7 "java/lang/Object", Cond.methodLink RJx4a65c 73 yJ8_newLength_cabcc, Cond.static yJ8_newLength_cabcc, Cond.initialized RJ8, Cond.code yJ8_newLength_cabcc cJ8_newLength_cabcc 4 (some .int), Cond.methodLink RJ8 194 Lib.Math.max.name]
def wsX10_draw_r4 : List Cond := [Cond.constant RJ8 200 (2147483639), Cond.methodLink RJ8 201 yJ8_hugeLength_7cf53, Cond.static yJ8_hugeLength_7cf53, Cond.code yJ8_hugeLength_7cf53 cJ8_hugeLength_7cf53 3 (some .int), Cond.methodLink RJx4a65c 66 yJ7_copyOf_1904c, Cond.static yJ7_copyOf_1904c, Cond.initialized RJ7, Cond.code yJ7_copyOf_1904c cJ7_copyOf_1904c 2 (some (.array (.object "java/lang/Object"))), Cond.methodLink RJ7 86 ⟨"java/lang/Object", "getClass", "()Ljava/lang/Class;"⟩, Cond.selects "[Ljava/lang/Object;" ⟨"java/lang/Object", "getClass", "()Ljava/lang/Class;"⟩ ⟨"java/lang/Object", "getClass", "()Ljava/lang/Class;"⟩, Cond.instanceMethod ⟨"java/lang/Object", "getClass", "()Ljava/lang/Class;"⟩, Cond.native ⟨"java/lang/Object", "getClass", "()Ljava/lang/Class;"⟩, Cond.methodLink RJ7 300 yJ7_copyOf_6403c, Cond.static yJ7_copyOf_6403c, Cond.code yJ7_copyOf_6403c cJ7_copyOf_6403c 4 (some (.array (.object "java/lang/Object"))), Cond.classLink RJ7 110 "[Ljava/lang/Object;", Cond.classLink RJ7 2 "java/lang/Object", Cond.methodLink RJ7 304 Lib.Math.min.name, Cond.static Lib.Math.min.name, Cond.code Lib.Math.min.name Lib.Math.min.code 2 (some .int), Cond.methodLink RJ7 150 arraycopyName, Cond.native arraycopyName, Cond.static arraycopyName, Cond.initialized "java/lang/System"]
def wsX10_draw_r5 : List Cond := [Cond.methodLink RX10 83 yX9_behind, Cond.instanceMethod yX9_behind, Cond.selects RX9 yX9_behind yX9_behind, Cond.initialized RX9, Cond.code yX9_behind cX9_behind 5 (some (.array .int)), Cond.arrayClass .int, Cond.fieldLink RX9 34 "UrnwrightModel$Urn" "growth" "I", Cond.fieldLink RX9 11 "UrnwrightModel$Urn" "rules" "[[I"]
def wsX10_draw : List Cond := .code yX10_draw cX10_draw 4 (some .int) :: ((wsX10_draw_r1 ++ (wsX10_draw_r2 ++ (wsX10_draw_r3 ++ (wsX10_draw_r4 ++ wsX10_draw_r5)))) ++ wsX100 ++ wsX90 ++ wsJx4a65c0)
def wsJx4a65c_fastRemove_b59b0 : List Cond := .code yJx4a65c_fastRemove_b59b0 cJx4a65c_fastRemove_b59b0 4 none :: ([.fieldLink RJx4a65c 63 "java/util/ArrayList" "modCount" "I", .sameField "java/util/ArrayList" "java/util/AbstractList" "modCount" "I", .fieldLink RJx4a65c 48 "java/util/ArrayList" "size" "I", .methodLink RJx4a65c 112 arraycopyName, .native arraycopyName, .static arraycopyName, .initialized "java/lang/System"] ++ wsJx4a65c0)
def wsJx4a65c_remove_915e3 : List Cond := .code yJx4a65c_remove_915e3 cJx4a65c_remove_915e3 4 (some (.object "java/lang/Object")) :: ([.fieldLink RJx4a65c 48 "java/util/ArrayList" "size" "I", .fieldLink RJx4a65c 9 "java/util/ArrayList" "elementData" "[Ljava/lang/Object;", .methodLink RJx4a65c 118 yJ15_checkIndex_7cf53, .static yJ15_checkIndex_7cf53, .initialized RJ15, .code yJ15_checkIndex_7cf53 cJ15_checkIndex_7cf53 2 (some .int), .methodLink RJ15 105 yJ3_checkIndex_8e157, .static yJ3_checkIndex_8e157, .initialized RJ3, .code yJ3_checkIndex_8e157 cJ3_checkIndex_8e157 3 (some .int), .methodLink RJx4a65c 144 yJx4a65c_fastRemove_b59b0, .instanceMethod yJx4a65c_fastRemove_b59b0, .selects RJx4a65c yJx4a65c_fastRemove_b59b0 yJx4a65c_fastRemove_b59b0, .initialized RJx4a65c, .code yJx4a65c_fastRemove_b59b0 cJx4a65c_fastRemove_b59b0 4 none, .fieldLink RJx4a65c 63 "java/util/ArrayList" "modCount" "I", .sameField "java/util/ArrayList" "java/util/AbstractList" "modCount" "I", .methodLink RJx4a65c 112 arraycopyName, .native arraycopyName, .static arraycopyName, .initialized "java/lang/System"] ++ wsJx4a65c0)
def wsX10_back_r1 : List Cond := [Cond.fieldLink RX10 19 "UrnwrightModel" "thrown" "I", Cond.fieldLink RX10 10 "UrnwrightModel" "urns" "Ljava/util/List;", Cond.classLink RX10 37 "UrnwrightModel$Urn", Cond.fieldLink RX10 87 "UrnwrightModel$Urn" "path" "I", Cond.fieldLink RX10 93 "UrnwrightModel" "knocks" "I", Cond.fieldLink RX10 80 "UrnwrightModel$Urn" "before" "Ljava/util/List;", Cond.classLink RX10 99 "[I", Cond.fieldLink RX10 77 "UrnwrightModel$Urn" "counts" "[I", Cond.fieldLink RX10 90 "UrnwrightModel$Urn" "gain" "I", Cond.fieldLink RX10 67 "UrnwrightModel$Urn" "pays" "[I", Cond.methodLink RX10 46 yX10_isUrn, Cond.instanceMethod yX10_isUrn, Cond.selects RX10 yX10_isUrn yX10_isUrn, Cond.initialized RX10, Cond.code yX10_isUrn cX10_isUrn 2 (some .boolean), Cond.methodLink RX10 23 ⟨"java/util/List", "size", "()I"⟩, Cond.selects RJx4a65c ⟨"java/util/List", "size", "()I"⟩ yJx4a65c_size_8abf5, Cond.instanceMethod yJx4a65c_size_8abf5, Cond.initialized RJx4a65c, Cond.code yJx4a65c_size_8abf5 cJx4a65c_size_8abf5 1 (some .int), Cond.fieldLink RJx4a65c 48 "java/util/ArrayList" "size" "I", Cond.methodLink RX10 29 yX10_in, Cond.static yX10_in, Cond.code yX10_in cX10_in 3 (some .boolean)]
def wsX10_back_r2 : List Cond := [Cond.methodLink RX10 33 yX10_no, Cond.instanceMethod yX10_no, Cond.selects RX10 yX10_no yX10_no, Cond.code yX10_no cX10_no 2 (some .int), Cond.methodLink RX10 50 ⟨"java/util/List", "get", "(I)Ljava/lang/Object;"⟩, Cond.selects RJx4a65c ⟨"java/util/List", "get", "(I)Ljava/lang/Object;"⟩ yJx4a65c_get_915e3, Cond.instanceMethod yJx4a65c_get_915e3, Cond.code yJx4a65c_get_915e3 cJx4a65c_get_915e3 2 (some (.object "java/lang/Object")), Cond.methodLink RJx4a65c 118 yJ15_checkIndex_7cf53, Cond.static yJ15_checkIndex_7cf53, Cond.initialized RJ15, Cond.code yJ15_checkIndex_7cf53 cJ15_checkIndex_7cf53 2 (some .int), Cond.methodLink RJ15 105 yJ3_checkIndex_8e157, Cond.static yJ3_checkIndex_8e157, Cond.initialized RJ3, Cond.code yJ3_checkIndex_8e157 cJ3_checkIndex_8e157 3 (some .int), Cond.methodLink RJx4a65c 123 yJx4a65c_elementData_915e3, Cond.instanceMethod yJx4a65c_elementData_915e3, Cond.selects RJx4a65c yJx4a65c_elementData_915e3 yJx4a65c_elementData_915e3, Cond.code yJx4a65c_elementData_915e3 cJx4a65c_elementData_915e3 2 (some (.object "java/lang/Object")), Cond.fieldLink RJx4a65c 9 "java/util/ArrayList" "elementData" "[Ljava/lang/Object;", Cond.methodLink RX10 96 ⟨"java/util/List", "remove", "(I)Ljava/lang/Object;"⟩, Cond.selects RJx4a65c ⟨"java/util/List", "remove", "(I)Ljava/lang/Object;"⟩ yJx4a65c_remove_915e3, Cond.instanceMethod yJx4a65c_remove_915e3]
def wsX10_back_r3 : List Cond := [Cond.code yJx4a65c_remove_915e3 cJx4a65c_remove_915e3 4 (some (.object "java/lang/Object")), Cond.methodLink RJx4a65c 144 yJx4a65c_fastRemove_b59b0, Cond.instanceMethod yJx4a65c_fastRemove_b59b0, Cond.selects RJx4a65c yJx4a65c_fastRemove_b59b0 yJx4a65c_fastRemove_b59b0, Cond.code yJx4a65c_fastRemove_b59b0 cJx4a65c_fastRemove_b59b0 4 none, Cond.fieldLink RJx4a65c 63 "java/util/ArrayList" "modCount" "I", Cond.sameField "java/util/ArrayList" "java/util/AbstractList" "modCount" "I", Cond.methodLink RJx4a65c 112 arraycopyName, Cond.native arraycopyName, Cond.static arraycopyName, Cond.initialized "java/lang/System"]
def wsX10_back : List Cond := .code yX10_back cX10_back 4 (some .int) :: ((wsX10_back_r1 ++ (wsX10_back_r2 ++ wsX10_back_r3)) ++ wsX100 ++ wsX90 ++ wsJx4a65c0)
def wsX10_row_r1 : List Cond := [Cond.fieldLink RX10 19 "UrnwrightModel" "thrown" "I", Cond.arrayClass .int, Cond.fieldLink RX10 16 "UrnwrightModel" "rows" "Ljava/util/List;", Cond.methodLink RX10 29 yX10_in, Cond.static yX10_in, Cond.initialized RX10, Cond.code yX10_in cX10_in 3 (some .boolean), Cond.methodLink RX10 33 yX10_no, Cond.instanceMethod yX10_no, Cond.selects RX10 yX10_no yX10_no, Cond.code yX10_no cX10_no 2 (some .int), Cond.methodLink RX10 23 ⟨"java/util/List", "size", "()I"⟩, Cond.selects RJx4a65c ⟨"java/util/List", "size", "()I"⟩ yJx4a65c_size_8abf5, Cond.instanceMethod yJx4a65c_size_8abf5, Cond.initialized RJx4a65c, Cond.code yJx4a65c_size_8abf5 cJx4a65c_size_8abf5 1 (some .int), Cond.fieldLink RJx4a65c 48 "java/util/ArrayList" "size" "I", Cond.methodLink RX10 42 ⟨"java/util/List", "add", "(Ljava/lang/Object;)Z"⟩, Cond.selects RJx4a65c ⟨"java/util/List", "add", "(Ljava/lang/Object;)Z"⟩ yJx4a65c_add_9ea2d, Cond.instanceMethod yJx4a65c_add_9ea2d, Cond.code yJx4a65c_add_9ea2d cJx4a65c_add_9ea2d 2 (some .boolean), Cond.fieldLink RJx4a65c 63 "java/util/ArrayList" "modCount" "I", Cond.sameField "java/util/ArrayList" "java/util/AbstractList" "modCount" "I", Cond.fieldLink RJx4a65c 9 "java/util/ArrayList" "elementData" "[Ljava/lang/Object;"]
def wsX10_row_r2 : List Cond := [Cond.methodLink RJx4a65c 131 yJx4a65c_add_72be8, Cond.instanceMethod yJx4a65c_add_72be8, Cond.selects RJx4a65c yJx4a65c_add_72be8 yJx4a65c_add_72be8, Cond.code yJx4a65c_add_72be8 cJx4a65c_add_72be8 4 none, Cond.methodLink RJx4a65c 129 yJx4a65c_grow_d5877, Cond.instanceMethod yJx4a65c_grow_d5877, Cond.selects RJx4a65c yJx4a65c_grow_d5877 yJx4a65c_grow_d5877, Cond.code yJx4a65c_grow_d5877 cJx4a65c_grow_d5877 1 (some (.array (.object "java/lang/Object"))), Cond.methodLink RJx4a65c 69 yJx4a65c_grow_92f84, Cond.instanceMethod yJx4a65c_grow_92f84, Cond.selects RJx4a65c yJx4a65c_grow_92f84 yJx4a65c_grow_92f84, Cond.code yJx4a65c_grow_92f84 cJx4a65c_grow_92f84 4 (some (.array (.object "java/lang/Object"))), Cond.fieldLink RJx4a65c 39 "java/util/ArrayList" "DEFAULTCAPACITY_EMPTY_ELEMENTDATA" "[Ljava/lang/Object;", Cond.methodLink RJx4a65c 79 Lib.Math.max.name, Cond.static Lib.Math.max.name, Cond.initialized "java/lang/Math", Cond.code Lib.Math.max.name Lib.Math.max.code 2 (some .int), Cond.classLink RJx4a65c 7 "java/lang/Object", Cond.methodLink RJx4a65c 73 yJ8_newLength_cabcc, Cond.static yJ8_newLength_cabcc, Cond.initialized RJ8, Cond.code yJ8_newLength_cabcc cJ8_newLength_cabcc 4 (some .int), Cond.methodLink RJ8 194 Lib.Math.max.name, Cond.constant RJ8 200 (2147483639)]
def wsX10_row_r3 : List Cond := [Cond.methodLink RJ8 201 yJ8_hugeLength_7cf53, Cond.static yJ8_hugeLength_7cf53, Cond.code yJ8_hugeLength_7cf53 cJ8_hugeLength_7cf53 3 (some .int), Cond.methodLink RJx4a65c 66 yJ7_copyOf_1904c, Cond.static yJ7_copyOf_1904c, Cond.initialized RJ7, Cond.code yJ7_copyOf_1904c cJ7_copyOf_1904c 2 (some (.array (.object "java/lang/Object"))), Cond.methodLink RJ7 86 ⟨"java/lang/Object", "getClass", "()Ljava/lang/Class;"⟩, Cond.selects "[Ljava/lang/Object;" ⟨"java/lang/Object", "getClass", "()Ljava/lang/Class;"⟩ ⟨"java/lang/Object", "getClass", "()Ljava/lang/Class;"⟩, Cond.instanceMethod ⟨"java/lang/Object", "getClass", "()Ljava/lang/Class;"⟩, Cond.native ⟨"java/lang/Object", "getClass", "()Ljava/lang/Class;"⟩, Cond.methodLink RJ7 300 yJ7_copyOf_6403c, Cond.static yJ7_copyOf_6403c, Cond.code yJ7_copyOf_6403c cJ7_copyOf_6403c 4 (some (.array (.object "java/lang/Object"))), Cond.classLink RJ7 110 "[Ljava/lang/Object;", Cond.classLink RJ7 2 "java/lang/Object", Cond.methodLink RJ7 304 Lib.Math.min.name, Cond.static Lib.Math.min.name, Cond.code Lib.Math.min.name Lib.Math.min.code 2 (some .int), Cond.methodLink RJ7 150 arraycopyName, Cond.native arraycopyName, Cond.static arraycopyName, Cond.initialized "java/lang/System"]
def wsX10_row : List Cond := .code yX10_row cX10_row 12 (some .int) :: ((wsX10_row_r1 ++ (wsX10_row_r2 ++ wsX10_row_r3)) ++ wsX100 ++ wsJx4a65c0)
def wsX10_chanceOf_r1 : List Cond := [Cond.classLink RX10 108 RX8, Cond.instantiable RX8 2, Cond.initialized RX8, Cond.fieldLink RX10 77 "UrnwrightModel$Urn" "counts" "[I", Cond.instanceMethod yX8_init, Cond.code yX8_init cX8_init 1 none, Cond.methodLink RX8 1 objectInit, Cond.instanceMethod objectInit, Cond.code objectInit ⟨#[0xb1]⟩ 1 none, Cond.fieldLink RX8 7 "UrnwrightModel$Sum" "up" "J", Cond.fieldLink RX8 13 "UrnwrightModel$Sum" "down" "J", Cond.methodLink RX10 114 yX8_add, Cond.instanceMethod yX8_add, Cond.selects RX8 yX8_add yX8_add, Cond.code yX8_add cX8_add 15 (some (.object "UrnwrightModel$Sum")), Cond.methodLink RX8 22 Lib.MathLoose.abs_long.x, Cond.static Lib.MathLoose.abs_long.x, Cond.initialized "java/lang/Math", Cond.code Lib.MathLoose.abs_long.x Lib.MathLoose.abs_long.code 2 (some .long), Cond.static yX10_common, Cond.initialized RX10, Cond.code yX10_common cX10_common 10 (some .long), Cond.methodLink RX10 117 yX9_all, Cond.static yX9_all]
def wsX10_chanceOf_r2 : List Cond := [Cond.initialized RX9, Cond.code yX9_all cX9_all 1 (some .int), Cond.methodLink RX10 121 yX8_times, Cond.instanceMethod yX8_times, Cond.selects RX8 yX8_times yX8_times, Cond.code yX8_times cX8_times 9 (some (.object "UrnwrightModel$Sum")), Cond.methodLink RX10 83 yX9_behind, Cond.instanceMethod yX9_behind, Cond.selects RX9 yX9_behind yX9_behind, Cond.code yX9_behind cX9_behind 5 (some (.array .int)), Cond.arrayClass .int, Cond.fieldLink RX9 34 "UrnwrightModel$Urn" "growth" "I", Cond.fieldLink RX9 11 "UrnwrightModel$Urn" "rules" "[[I"]
def wsX10_chanceOf : List Cond := .code yX10_chanceOf cX10_chanceOf 6 (some (.object "UrnwrightModel$Sum")) :: ((wsX10_chanceOf_r1 ++ wsX10_chanceOf_r2) ++ wsX80 ++ wsX90)
def wsX10_chance_r1 : List Cond := [Cond.fieldLink RX10 19 "UrnwrightModel" "thrown" "I", Cond.fieldLink RX10 10 "UrnwrightModel" "urns" "Ljava/util/List;", Cond.classLink RX10 37 "UrnwrightModel$Urn", Cond.methodLink RX10 46 yX10_isUrn, Cond.instanceMethod yX10_isUrn, Cond.selects RX10 yX10_isUrn yX10_isUrn, Cond.initialized RX10, Cond.code yX10_isUrn cX10_isUrn 2 (some .boolean), Cond.methodLink RX10 23 ⟨"java/util/List", "size", "()I"⟩, Cond.selects RJx4a65c ⟨"java/util/List", "size", "()I"⟩ yJx4a65c_size_8abf5, Cond.instanceMethod yJx4a65c_size_8abf5, Cond.initialized RJx4a65c, Cond.code yJx4a65c_size_8abf5 cJx4a65c_size_8abf5 1 (some .int), Cond.fieldLink RJx4a65c 48 "java/util/ArrayList" "size" "I", Cond.methodLink RX10 29 yX10_in, Cond.static yX10_in, Cond.code yX10_in cX10_in 3 (some .boolean), Cond.methodLink RX10 33 yX10_no, Cond.instanceMethod yX10_no, Cond.selects RX10 yX10_no yX10_no, Cond.code yX10_no cX10_no 2 (some .int), Cond.methodLink RX10 100 yX10_draws, Cond.static yX10_draws, Cond.code yX10_draws cX10_draws 3 (some .int)]
def wsX10_chance_r2 : List Cond := [Cond.methodLink RX10 50 ⟨"java/util/List", "get", "(I)Ljava/lang/Object;"⟩, Cond.selects RJx4a65c ⟨"java/util/List", "get", "(I)Ljava/lang/Object;"⟩ yJx4a65c_get_915e3, Cond.instanceMethod yJx4a65c_get_915e3, Cond.code yJx4a65c_get_915e3 cJx4a65c_get_915e3 2 (some (.object "java/lang/Object")), Cond.methodLink RJx4a65c 118 yJ15_checkIndex_7cf53, Cond.static yJ15_checkIndex_7cf53, Cond.initialized RJ15, Cond.code yJ15_checkIndex_7cf53 cJ15_checkIndex_7cf53 2 (some .int), Cond.methodLink RJ15 105 yJ3_checkIndex_8e157, Cond.static yJ3_checkIndex_8e157, Cond.initialized RJ3, Cond.code yJ3_checkIndex_8e157 cJ3_checkIndex_8e157 3 (some .int), Cond.methodLink RJx4a65c 123 yJx4a65c_elementData_915e3, Cond.instanceMethod yJx4a65c_elementData_915e3, Cond.selects RJx4a65c yJx4a65c_elementData_915e3 yJx4a65c_elementData_915e3, Cond.code yJx4a65c_elementData_915e3 cJx4a65c_elementData_915e3 2 (some (.object "java/lang/Object")), Cond.fieldLink RJx4a65c 9 "java/util/ArrayList" "elementData" "[Ljava/lang/Object;", Cond.methodLink RX10 103 yX10_chanceOf, Cond.static yX10_chanceOf, Cond.code yX10_chanceOf cX10_chanceOf 6 (some (.object "UrnwrightModel$Sum")), Cond.classLink RX10 108 RX8, Cond.instantiable RX8 2, Cond.initialized RX8, Cond.fieldLink RX10 77 "UrnwrightModel$Urn" "counts" "[I"]
def wsX10_chance_r3 : List Cond := [Cond.instanceMethod yX8_init, Cond.code yX8_init cX8_init 1 none, Cond.methodLink RX8 1 objectInit, Cond.instanceMethod objectInit, Cond.code objectInit ⟨#[0xb1]⟩ 1 none, Cond.fieldLink RX8 7 "UrnwrightModel$Sum" "up" "J", Cond.fieldLink RX8 13 "UrnwrightModel$Sum" "down" "J", Cond.methodLink RX10 114 yX8_add, Cond.instanceMethod yX8_add, Cond.selects RX8 yX8_add yX8_add, Cond.code yX8_add cX8_add 15 (some (.object "UrnwrightModel$Sum")), Cond.methodLink RX8 22 Lib.MathLoose.abs_long.x, Cond.static Lib.MathLoose.abs_long.x, Cond.initialized "java/lang/Math", Cond.code Lib.MathLoose.abs_long.x Lib.MathLoose.abs_long.code 2 (some .long), Cond.static yX10_common, Cond.code yX10_common cX10_common 10 (some .long), Cond.methodLink RX10 117 yX9_all, Cond.static yX9_all, Cond.initialized RX9, Cond.code yX9_all cX9_all 1 (some .int), Cond.methodLink RX10 121 yX8_times, Cond.instanceMethod yX8_times, Cond.selects RX8 yX8_times yX8_times]
def wsX10_chance_r4 : List Cond := [Cond.code yX8_times cX8_times 9 (some (.object "UrnwrightModel$Sum")), Cond.methodLink RX10 83 yX9_behind, Cond.instanceMethod yX9_behind, Cond.selects RX9 yX9_behind yX9_behind, Cond.code yX9_behind cX9_behind 5 (some (.array .int)), Cond.arrayClass .int, Cond.fieldLink RX9 34 "UrnwrightModel$Urn" "growth" "I", Cond.fieldLink RX9 11 "UrnwrightModel$Urn" "rules" "[[I", Cond.methodLink RX10 107 yX8_part, Cond.instanceMethod yX8_part, Cond.selects RX8 yX8_part yX8_part, Cond.code yX8_part cX8_part 2 (some .long)]
def wsX10_chance : List Cond := .code yX10_chance cX10_chance 4 (some .long) :: ((wsX10_chance_r1 ++ (wsX10_chance_r2 ++ (wsX10_chance_r3 ++ wsX10_chance_r4))) ++ wsX100 ++ wsJx4a65c0 ++ wsX80 ++ wsX90)
def wsX10_canPlay_r1 : List Cond := [Cond.fieldLink RX10 10 "UrnwrightModel" "urns" "Ljava/util/List;", Cond.classLink RX10 37 "UrnwrightModel$Urn", Cond.fieldLink RX10 19 "UrnwrightModel" "thrown" "I", Cond.methodLink RX10 46 yX10_isUrn, Cond.instanceMethod yX10_isUrn, Cond.selects RX10 yX10_isUrn yX10_isUrn, Cond.initialized RX10, Cond.code yX10_isUrn cX10_isUrn 2 (some .boolean), Cond.methodLink RX10 23 ⟨"java/util/List", "size", "()I"⟩, Cond.selects RJx4a65c ⟨"java/util/List", "size", "()I"⟩ yJx4a65c_size_8abf5, Cond.instanceMethod yJx4a65c_size_8abf5, Cond.initialized RJx4a65c, Cond.code yJx4a65c_size_8abf5 cJx4a65c_size_8abf5 1 (some .int), Cond.fieldLink RJx4a65c 48 "java/util/ArrayList" "size" "I", Cond.methodLink RX10 29 yX10_in, Cond.static yX10_in, Cond.code yX10_in cX10_in 3 (some .boolean), Cond.methodLink RX10 50 ⟨"java/util/List", "get", "(I)Ljava/lang/Object;"⟩, Cond.selects RJx4a65c ⟨"java/util/List", "get", "(I)Ljava/lang/Object;"⟩ yJx4a65c_get_915e3, Cond.instanceMethod yJx4a65c_get_915e3, Cond.code yJx4a65c_get_915e3 cJx4a65c_get_915e3 2 (some (.object "java/lang/Object")), Cond.methodLink RJx4a65c 118 yJ15_checkIndex_7cf53, Cond.static yJ15_checkIndex_7cf53, Cond.initialized RJ15]
def wsX10_canPlay_r2 : List Cond := [Cond.code yJ15_checkIndex_7cf53 cJ15_checkIndex_7cf53 2 (some .int), Cond.methodLink RJ15 105 yJ3_checkIndex_8e157, Cond.static yJ3_checkIndex_8e157, Cond.initialized RJ3, Cond.code yJ3_checkIndex_8e157 cJ3_checkIndex_8e157 3 (some .int), Cond.methodLink RJx4a65c 123 yJx4a65c_elementData_915e3, Cond.instanceMethod yJx4a65c_elementData_915e3, Cond.selects RJx4a65c yJx4a65c_elementData_915e3 yJx4a65c_elementData_915e3, Cond.code yJx4a65c_elementData_915e3 cJx4a65c_elementData_915e3 2 (some (.object "java/lang/Object")), Cond.fieldLink RJx4a65c 9 "java/util/ArrayList" "elementData" "[Ljava/lang/Object;", Cond.methodLink RX10 125 yX9_canPlay, Cond.instanceMethod yX9_canPlay, Cond.selects RX9 yX9_canPlay yX9_canPlay, Cond.initialized RX9, Cond.code yX9_canPlay cX9_canPlay 2 (some .boolean), Cond.fieldLink RX9 34 "UrnwrightModel$Urn" "growth" "I", Cond.fieldLink RX9 31 "UrnwrightModel$Urn" "counts" "[I", Cond.methodLink RX9 47 Lib.Math.min.name, Cond.static Lib.Math.min.name, Cond.initialized "java/lang/Math", Cond.code Lib.Math.min.name Lib.Math.min.code 2 (some .int), Cond.methodLink RX9 43 yX9_all, Cond.static yX9_all, Cond.code yX9_all cX9_all 1 (some .int)]
def wsX10_canPlay : List Cond := .code yX10_canPlay cX10_canPlay 3 (some .boolean) :: ((wsX10_canPlay_r1 ++ wsX10_canPlay_r2) ++ wsX100 ++ wsJx4a65c0 ++ wsX90)
def wsX10_gains_r1 : List Cond := [Cond.classLink RX10 108 RX8, Cond.instantiable RX8 2, Cond.initialized RX8, Cond.fieldLink RX10 10 "UrnwrightModel" "urns" "Ljava/util/List;", Cond.classLink RX10 37 "UrnwrightModel$Urn", Cond.classLink RX10 135 "UrnwrightModel$Node", Cond.fieldLink RX10 137 "UrnwrightModel$Node" "draws" "I", Cond.fieldLink RX10 139 "UrnwrightModel$Node" "gains" "I", Cond.fieldLink RX10 142 "UrnwrightModel$Node" "up" "J", Cond.fieldLink RX10 146 "UrnwrightModel$Node" "down" "J", Cond.methodLink RX10 128 yX10_canPlay, Cond.instanceMethod yX10_canPlay, Cond.selects RX10 yX10_canPlay yX10_canPlay, Cond.initialized RX10, Cond.code yX10_canPlay cX10_canPlay 3 (some .boolean), Cond.fieldLink RX10 19 "UrnwrightModel" "thrown" "I", Cond.methodLink RX10 46 yX10_isUrn, Cond.instanceMethod yX10_isUrn, Cond.selects RX10 yX10_isUrn yX10_isUrn, Cond.code yX10_isUrn cX10_isUrn 2 (some .boolean), Cond.methodLink RX10 23 ⟨"java/util/List", "size", "()I"⟩, Cond.selects RJx4a65c ⟨"java/util/List", "size", "()I"⟩ yJx4a65c_size_8abf5, Cond.instanceMethod yJx4a65c_size_8abf5, Cond.initialized RJx4a65c]
def wsX10_gains_r2 : List Cond := [Cond.code yJx4a65c_size_8abf5 cJx4a65c_size_8abf5 1 (some .int), Cond.fieldLink RJx4a65c 48 "java/util/ArrayList" "size" "I", Cond.methodLink RX10 29 yX10_in, Cond.static yX10_in, Cond.code yX10_in cX10_in 3 (some .boolean), Cond.methodLink RX10 50 ⟨"java/util/List", "get", "(I)Ljava/lang/Object;"⟩, Cond.selects RJx4a65c ⟨"java/util/List", "get", "(I)Ljava/lang/Object;"⟩ yJx4a65c_get_915e3, Cond.instanceMethod yJx4a65c_get_915e3, Cond.code yJx4a65c_get_915e3 cJx4a65c_get_915e3 2 (some (.object "java/lang/Object")), Cond.methodLink RJx4a65c 118 yJ15_checkIndex_7cf53, Cond.static yJ15_checkIndex_7cf53, Cond.initialized RJ15, Cond.code yJ15_checkIndex_7cf53 cJ15_checkIndex_7cf53 2 (some .int), Cond.methodLink RJ15 105 yJ3_checkIndex_8e157, Cond.static yJ3_checkIndex_8e157, Cond.initialized RJ3, Cond.code yJ3_checkIndex_8e157 cJ3_checkIndex_8e157 3 (some .int), Cond.methodLink RJx4a65c 123 yJx4a65c_elementData_915e3, Cond.instanceMethod yJx4a65c_elementData_915e3, Cond.selects RJx4a65c yJx4a65c_elementData_915e3 yJx4a65c_elementData_915e3, Cond.code yJx4a65c_elementData_915e3 cJx4a65c_elementData_915e3 2 (some (.object "java/lang/Object")), Cond.fieldLink RJx4a65c 9 "java/util/ArrayList" "elementData" "[Ljava/lang/Object;", Cond.methodLink RX10 125 yX9_canPlay, Cond.instanceMethod yX9_canPlay]
def wsX10_gains_r3 : List Cond := [Cond.selects RX9 yX9_canPlay yX9_canPlay, Cond.initialized RX9, Cond.code yX9_canPlay cX9_canPlay 2 (some .boolean), Cond.fieldLink RX9 34 "UrnwrightModel$Urn" "growth" "I", Cond.fieldLink RX9 31 "UrnwrightModel$Urn" "counts" "[I", Cond.methodLink RX9 47 Lib.Math.min.name, Cond.static Lib.Math.min.name, Cond.initialized "java/lang/Math", Cond.code Lib.Math.min.name Lib.Math.min.code 2 (some .int), Cond.methodLink RX9 43 yX9_all, Cond.static yX9_all, Cond.code yX9_all cX9_all 1 (some .int), Cond.instanceMethod yX8_init, Cond.code yX8_init cX8_init 1 none, Cond.methodLink RX8 1 objectInit, Cond.instanceMethod objectInit, Cond.code objectInit ⟨#[0xb1]⟩ 1 none, Cond.fieldLink RX8 7 "UrnwrightModel$Sum" "up" "J", Cond.fieldLink RX8 13 "UrnwrightModel$Sum" "down" "J", Cond.methodLink RX10 131 yX9_game, Cond.instanceMethod yX9_game, Cond.selects RX9 yX9_game yX9_game, Cond.code yX9_game cX9_game 8 (some (.object "java/util/List")), Cond.classLink RX9 20 RJx4a65c]
def wsX10_gains_r4 : List Cond := [Cond.instantiable RJx4a65c 3, Cond.classLink RX9 54 RX7, Cond.instantiable RX7 11, Cond.initialized RX7, Cond.classLink RX9 54 "UrnwrightModel$Node", Cond.fieldLink RX9 73 "UrnwrightModel$Node" "draws" "I", Cond.fieldLink RX9 76 "UrnwrightModel$Node" "counts" "[I", Cond.fieldLink RX9 81 "UrnwrightModel$Node" "from" "I", Cond.fieldLink RX9 84 "UrnwrightModel$Node" "path" "I", Cond.fieldLink RX9 87 "UrnwrightModel$Node" "gains" "I", Cond.fieldLink RX9 16 "UrnwrightModel$Urn" "pays" "[I", Cond.fieldLink RX9 90 "UrnwrightModel$Node" "up" "J", Cond.fieldLink RX9 94 "UrnwrightModel$Node" "down" "J", Cond.fieldLink RX9 97 "UrnwrightModel$Node" "drawn" "[I", Cond.methodLink RX9 22 yJx4a65c_init_da8c8, Cond.instanceMethod yJx4a65c_init_da8c8, Cond.code yJx4a65c_init_da8c8 cJx4a65c_init_da8c8 1 none, Cond.fieldLink RJx4a65c 39 "java/util/ArrayList" "DEFAULTCAPACITY_EMPTY_ELEMENTDATA" "[Ljava/lang/Object;", Cond.methodLink RJx4a65c 1 yJxc12de_init_da8c8, Cond.instanceMethod yJxc12de_init_da8c8, Cond.initialized RJxc12de, Cond.code yJxc12de_init_da8c8 cJxc12de_init_da8c8 1 none, Cond.fieldLink RJxc12de 7 "java/util/AbstractList" "modCount" "I", Cond.methodLink RJxc12de 1 yJxa1e45_init_da8c8]
def wsX10_gains_r5 : List Cond := [Cond.instanceMethod yJxa1e45_init_da8c8, Cond.initialized RJxa1e45, Cond.code yJxa1e45_init_da8c8 cJxa1e45_init_da8c8 1 none, Cond.methodLink RJxa1e45 1 objectInit, Cond.methodLink RX9 56 yX7_init, Cond.instanceMethod yX7_init, Cond.code yX7_init cX7_init 2 none, Cond.methodLink RX7 3 objectInit, Cond.arrayClass .int, Cond.fieldLink RX7 9 "UrnwrightModel$Node" "drawn" "[I", Cond.fieldLink RX7 15 "UrnwrightModel$Node" "from" "I", Cond.fieldLink RX7 19 "UrnwrightModel$Node" "up" "J", Cond.fieldLink RX7 23 "UrnwrightModel$Node" "down" "J", Cond.classLink RX7 26 RX8, Cond.fieldLink RX7 29 "UrnwrightModel$Node" "worth" "LUrnwrightModel$Sum;", Cond.fieldLink RX7 33 "UrnwrightModel$Node" "next" "LUrnwrightModel$Sum;", Cond.fieldLink RX7 36 "UrnwrightModel$Node" "counts" "[I", Cond.methodLink RX9 59 ⟨"java/util/List", "add", "(Ljava/lang/Object;)Z"⟩, Cond.selects RJx4a65c ⟨"java/util/List", "add", "(Ljava/lang/Object;)Z"⟩ yJx4a65c_add_9ea2d, Cond.instanceMethod yJx4a65c_add_9ea2d, Cond.code yJx4a65c_add_9ea2d cJx4a65c_add_9ea2d 2 (some .boolean), Cond.fieldLink RJx4a65c 63 "java/util/ArrayList" "modCount" "I", Cond.sameField "java/util/ArrayList" "java/util/AbstractList" "modCount" "I", Cond.methodLink RJx4a65c 131 yJx4a65c_add_72be8]
def wsX10_gains_r6 : List Cond := [Cond.instanceMethod yJx4a65c_add_72be8, Cond.selects RJx4a65c yJx4a65c_add_72be8 yJx4a65c_add_72be8, Cond.code yJx4a65c_add_72be8 cJx4a65c_add_72be8 4 none, Cond.methodLink RJx4a65c 129 yJx4a65c_grow_d5877, Cond.instanceMethod yJx4a65c_grow_d5877, Cond.selects RJx4a65c yJx4a65c_grow_d5877 yJx4a65c_grow_d5877, Cond.code yJx4a65c_grow_d5877 cJx4a65c_grow_d5877 1 (some (.array (.object "java/lang/Object"))), Cond.methodLink RJx4a65c 69 yJx4a65c_grow_92f84, Cond.instanceMethod yJx4a65c_grow_92f84, Cond.selects RJx4a65c yJx4a65c_grow_92f84 yJx4a65c_grow_92f84, Cond.code yJx4a65c_grow_92f84 cJx4a65c_grow_92f84 4 (some (.array (.object "java/lang/Object"))), Cond.methodLink RJx4a65c 79 Lib.Math.max.name, Cond.static Lib.Math.max.name, Cond.code Lib.Math.max.name Lib.Math.max.code 2 (some .int), Cond.classLink RJx4a65c 7 "java/lang/Object", Cond.methodLink RJx4a65c 73 yJ8_newLength_cabcc, Cond.static yJ8_newLength_cabcc, Cond.initialized RJ8, Cond.code yJ8_newLength_cabcc cJ8_newLength_cabcc 4 (some .int), Cond.methodLink RJ8 194 Lib.Math.max.name, Cond.constant RJ8 200 (2147483639), Cond.methodLink RJ8 201 yJ8_hugeLength_7cf53, Cond.static yJ8_hugeLength_7cf53, Cond.code yJ8_hugeLength_7cf53 cJ8_hugeLength_7cf53 3 (some .int)]
def wsX10_gains_r7 : List Cond := [Cond.methodLink RJx4a65c 66 yJ7_copyOf_1904c, Cond.static yJ7_copyOf_1904c, Cond.initialized RJ7, Cond.code yJ7_copyOf_1904c cJ7_copyOf_1904c 2 (some (.array (.object "java/lang/Object"))), Cond.methodLink RJ7 86 ⟨"java/lang/Object", "getClass", "()Ljava/lang/Class;"⟩, Cond.selects "[Ljava/lang/Object;" ⟨"java/lang/Object", "getClass", "()Ljava/lang/Class;"⟩ ⟨"java/lang/Object", "getClass", "()Ljava/lang/Class;"⟩, Cond.instanceMethod ⟨"java/lang/Object", "getClass", "()Ljava/lang/Class;"⟩, Cond.native ⟨"java/lang/Object", "getClass", "()Ljava/lang/Class;"⟩, Cond.methodLink RJ7 300 yJ7_copyOf_6403c, Cond.static yJ7_copyOf_6403c, Cond.code yJ7_copyOf_6403c cJ7_copyOf_6403c 4 (some (.array (.object "java/lang/Object"))), Cond.classLink RJ7 110 "[Ljava/lang/Object;", Cond.classLink RJ7 2 "java/lang/Object", Cond.methodLink RJ7 304 Lib.Math.min.name, Cond.methodLink RJ7 150 arraycopyName, Cond.native arraycopyName, Cond.static arraycopyName, Cond.initialized "java/lang/System", Cond.methodLink RX9 65 ⟨"java/util/List", "size", "()I"⟩, Cond.methodLink RX9 69 ⟨"java/util/List", "get", "(I)Ljava/lang/Object;"⟩, Cond.methodLink RX9 77 yX9_behind, Cond.instanceMethod yX9_behind, Cond.selects RX9 yX9_behind yX9_behind, Cond.code yX9_behind cX9_behind 5 (some (.array .int))]
def wsX10_gains_r8 : List Cond := [Cond.fieldLink RX9 11 "UrnwrightModel$Urn" "rules" "[[I", Cond.methodLink RX10 114 yX8_add, Cond.instanceMethod yX8_add, Cond.selects RX8 yX8_add yX8_add, Cond.code yX8_add cX8_add 15 (some (.object "UrnwrightModel$Sum")), Cond.methodLink RX8 22 Lib.MathLoose.abs_long.x, Cond.static Lib.MathLoose.abs_long.x, Cond.code Lib.MathLoose.abs_long.x Lib.MathLoose.abs_long.code 2 (some .long), Cond.static yX10_common, Cond.code yX10_common cX10_common 10 (some .long), Cond.methodLink RX10 107 yX8_part, Cond.instanceMethod yX8_part, Cond.selects RX8 yX8_part yX8_part, Cond.code yX8_part cX8_part 2 (some .long)]
def wsX10_gains : List Cond := .code yX10_gains cX10_gains 8 (some .long) :: ((wsX10_gains_r1 ++ (wsX10_gains_r2 ++ (wsX10_gains_r3 ++ (wsX10_gains_r4 ++ (wsX10_gains_r5 ++ (wsX10_gains_r6 ++ (wsX10_gains_r7 ++ wsX10_gains_r8))))))) ++ wsX80 ++ wsX100 ++ wsX70 ++ wsJx4a65c0 ++ wsX90)
def wsX10_moment_r1 : List Cond := [Cond.classLink RX10 108 RX8, Cond.instantiable RX8 2, Cond.initialized RX8, Cond.classLink RX10 135 "UrnwrightModel$Node", Cond.fieldLink RX10 137 "UrnwrightModel$Node" "draws" "I", Cond.fieldLink RX10 139 "UrnwrightModel$Node" "gains" "I", Cond.fieldLink RX10 142 "UrnwrightModel$Node" "up" "J", Cond.fieldLink RX10 146 "UrnwrightModel$Node" "down" "J", Cond.instanceMethod yX8_init, Cond.code yX8_init cX8_init 1 none, Cond.methodLink RX8 1 objectInit, Cond.instanceMethod objectInit, Cond.code objectInit ⟨#[0xb1]⟩ 1 none, Cond.fieldLink RX8 7 "UrnwrightModel$Sum" "up" "J", Cond.fieldLink RX8 13 "UrnwrightModel$Sum" "down" "J", Cond.methodLink RX10 23 ⟨"java/util/List", "size", "()I"⟩, Cond.selects RJx4a65c ⟨"java/util/List", "size", "()I"⟩ yJx4a65c_size_8abf5, Cond.instanceMethod yJx4a65c_size_8abf5, Cond.initialized RJx4a65c, Cond.code yJx4a65c_size_8abf5 cJx4a65c_size_8abf5 1 (some .int), Cond.fieldLink RJx4a65c 48 "java/util/ArrayList" "size" "I", Cond.methodLink RX10 50 ⟨"java/util/List", "get", "(I)Ljava/lang/Object;"⟩, Cond.selects RJx4a65c ⟨"java/util/List", "get", "(I)Ljava/lang/Object;"⟩ yJx4a65c_get_915e3, Cond.instanceMethod yJx4a65c_get_915e3]
def wsX10_moment_r2 : List Cond := [Cond.code yJx4a65c_get_915e3 cJx4a65c_get_915e3 2 (some (.object "java/lang/Object")), Cond.methodLink RJx4a65c 118 yJ15_checkIndex_7cf53, Cond.static yJ15_checkIndex_7cf53, Cond.initialized RJ15, Cond.code yJ15_checkIndex_7cf53 cJ15_checkIndex_7cf53 2 (some .int), Cond.methodLink RJ15 105 yJ3_checkIndex_8e157, Cond.static yJ3_checkIndex_8e157, Cond.initialized RJ3, Cond.code yJ3_checkIndex_8e157 cJ3_checkIndex_8e157 3 (some .int), Cond.methodLink RJx4a65c 123 yJx4a65c_elementData_915e3, Cond.instanceMethod yJx4a65c_elementData_915e3, Cond.selects RJx4a65c yJx4a65c_elementData_915e3 yJx4a65c_elementData_915e3, Cond.code yJx4a65c_elementData_915e3 cJx4a65c_elementData_915e3 2 (some (.object "java/lang/Object")), Cond.fieldLink RJx4a65c 9 "java/util/ArrayList" "elementData" "[Ljava/lang/Object;", Cond.methodLink RX10 114 yX8_add, Cond.instanceMethod yX8_add, Cond.selects RX8 yX8_add yX8_add, Cond.code yX8_add cX8_add 15 (some (.object "UrnwrightModel$Sum")), Cond.methodLink RX8 22 Lib.MathLoose.abs_long.x, Cond.static Lib.MathLoose.abs_long.x, Cond.initialized "java/lang/Math", Cond.code Lib.MathLoose.abs_long.x Lib.MathLoose.abs_long.code 2 (some .long), Cond.static yX10_common, Cond.initialized RX10]
def wsX10_moment_r3 : List Cond := [Cond.code yX10_common cX10_common 10 (some .long)]
def wsX10_moment : List Cond := .code yX10_moment cX10_moment 6 (some (.object "UrnwrightModel$Sum")) :: ((wsX10_moment_r1 ++ (wsX10_moment_r2 ++ wsX10_moment_r3)) ++ wsX80 ++ wsX70 ++ wsJx4a65c0)
def wsX10_meanNow_r1 : List Cond := [Cond.constantLong RX10 153 (-1), Cond.methodLink RX10 149 yX10_moment, Cond.static yX10_moment, Cond.initialized RX10, Cond.code yX10_moment cX10_moment 6 (some (.object "UrnwrightModel$Sum")), Cond.classLink RX10 108 RX8, Cond.instantiable RX8 2, Cond.initialized RX8, Cond.classLink RX10 135 "UrnwrightModel$Node", Cond.fieldLink RX10 137 "UrnwrightModel$Node" "draws" "I", Cond.fieldLink RX10 139 "UrnwrightModel$Node" "gains" "I", Cond.fieldLink RX10 142 "UrnwrightModel$Node" "up" "J", Cond.fieldLink RX10 146 "UrnwrightModel$Node" "down" "J", Cond.instanceMethod yX8_init, Cond.code yX8_init cX8_init 1 none, Cond.methodLink RX8 1 objectInit, Cond.instanceMethod objectInit, Cond.code objectInit ⟨#[0xb1]⟩ 1 none, Cond.fieldLink RX8 7 "UrnwrightModel$Sum" "up" "J", Cond.fieldLink RX8 13 "UrnwrightModel$Sum" "down" "J", Cond.methodLink RX10 23 ⟨"java/util/List", "size", "()I"⟩, Cond.selects RJx4a65c ⟨"java/util/List", "size", "()I"⟩ yJx4a65c_size_8abf5, Cond.instanceMethod yJx4a65c_size_8abf5, Cond.initialized RJx4a65c]
def wsX10_meanNow_r2 : List Cond := [Cond.code yJx4a65c_size_8abf5 cJx4a65c_size_8abf5 1 (some .int), Cond.fieldLink RJx4a65c 48 "java/util/ArrayList" "size" "I", Cond.methodLink RX10 50 ⟨"java/util/List", "get", "(I)Ljava/lang/Object;"⟩, Cond.selects RJx4a65c ⟨"java/util/List", "get", "(I)Ljava/lang/Object;"⟩ yJx4a65c_get_915e3, Cond.instanceMethod yJx4a65c_get_915e3, Cond.code yJx4a65c_get_915e3 cJx4a65c_get_915e3 2 (some (.object "java/lang/Object")), Cond.methodLink RJx4a65c 118 yJ15_checkIndex_7cf53, Cond.static yJ15_checkIndex_7cf53, Cond.initialized RJ15, Cond.code yJ15_checkIndex_7cf53 cJ15_checkIndex_7cf53 2 (some .int), Cond.methodLink RJ15 105 yJ3_checkIndex_8e157, Cond.static yJ3_checkIndex_8e157, Cond.initialized RJ3, Cond.code yJ3_checkIndex_8e157 cJ3_checkIndex_8e157 3 (some .int), Cond.methodLink RJx4a65c 123 yJx4a65c_elementData_915e3, Cond.instanceMethod yJx4a65c_elementData_915e3, Cond.selects RJx4a65c yJx4a65c_elementData_915e3 yJx4a65c_elementData_915e3, Cond.code yJx4a65c_elementData_915e3 cJx4a65c_elementData_915e3 2 (some (.object "java/lang/Object")), Cond.fieldLink RJx4a65c 9 "java/util/ArrayList" "elementData" "[Ljava/lang/Object;", Cond.methodLink RX10 114 yX8_add, Cond.instanceMethod yX8_add, Cond.selects RX8 yX8_add yX8_add, Cond.code yX8_add cX8_add 15 (some (.object "UrnwrightModel$Sum")), Cond.methodLink RX8 22 Lib.MathLoose.abs_long.x]
def wsX10_meanNow_r3 : List Cond := [Cond.static Lib.MathLoose.abs_long.x, Cond.initialized "java/lang/Math", Cond.code Lib.MathLoose.abs_long.x Lib.MathLoose.abs_long.code 2 (some .long), Cond.static yX10_common, Cond.code yX10_common cX10_common 10 (some .long)]
def wsX10_meanNow : List Cond := .code yX10_meanNow cX10_meanNow 4 (some (.object "UrnwrightModel$Sum")) :: ((wsX10_meanNow_r1 ++ (wsX10_meanNow_r2 ++ wsX10_meanNow_r3)) ++ wsX80 ++ wsX70 ++ wsJx4a65c0)
def wsX10_mean_r1 : List Cond := [Cond.fieldLink RX10 10 "UrnwrightModel" "urns" "Ljava/util/List;", Cond.classLink RX10 37 "UrnwrightModel$Urn", Cond.methodLink RX10 128 yX10_canPlay, Cond.instanceMethod yX10_canPlay, Cond.selects RX10 yX10_canPlay yX10_canPlay, Cond.initialized RX10, Cond.code yX10_canPlay cX10_canPlay 3 (some .boolean), Cond.fieldLink RX10 19 "UrnwrightModel" "thrown" "I", Cond.methodLink RX10 46 yX10_isUrn, Cond.instanceMethod yX10_isUrn, Cond.selects RX10 yX10_isUrn yX10_isUrn, Cond.code yX10_isUrn cX10_isUrn 2 (some .boolean), Cond.methodLink RX10 23 ⟨"java/util/List", "size", "()I"⟩, Cond.selects RJx4a65c ⟨"java/util/List", "size", "()I"⟩ yJx4a65c_size_8abf5, Cond.instanceMethod yJx4a65c_size_8abf5, Cond.initialized RJx4a65c, Cond.code yJx4a65c_size_8abf5 cJx4a65c_size_8abf5 1 (some .int), Cond.fieldLink RJx4a65c 48 "java/util/ArrayList" "size" "I", Cond.methodLink RX10 29 yX10_in, Cond.static yX10_in, Cond.code yX10_in cX10_in 3 (some .boolean), Cond.methodLink RX10 50 ⟨"java/util/List", "get", "(I)Ljava/lang/Object;"⟩, Cond.selects RJx4a65c ⟨"java/util/List", "get", "(I)Ljava/lang/Object;"⟩ yJx4a65c_get_915e3, Cond.instanceMethod yJx4a65c_get_915e3]
def wsX10_mean_r2 : List Cond := [Cond.code yJx4a65c_get_915e3 cJx4a65c_get_915e3 2 (some (.object "java/lang/Object")), Cond.methodLink RJx4a65c 118 yJ15_checkIndex_7cf53, Cond.static yJ15_checkIndex_7cf53, Cond.initialized RJ15, Cond.code yJ15_checkIndex_7cf53 cJ15_checkIndex_7cf53 2 (some .int), Cond.methodLink RJ15 105 yJ3_checkIndex_8e157, Cond.static yJ3_checkIndex_8e157, Cond.initialized RJ3, Cond.code yJ3_checkIndex_8e157 cJ3_checkIndex_8e157 3 (some .int), Cond.methodLink RJx4a65c 123 yJx4a65c_elementData_915e3, Cond.instanceMethod yJx4a65c_elementData_915e3, Cond.selects RJx4a65c yJx4a65c_elementData_915e3 yJx4a65c_elementData_915e3, Cond.code yJx4a65c_elementData_915e3 cJx4a65c_elementData_915e3 2 (some (.object "java/lang/Object")), Cond.fieldLink RJx4a65c 9 "java/util/ArrayList" "elementData" "[Ljava/lang/Object;", Cond.methodLink RX10 125 yX9_canPlay, Cond.instanceMethod yX9_canPlay, Cond.selects RX9 yX9_canPlay yX9_canPlay, Cond.initialized RX9, Cond.code yX9_canPlay cX9_canPlay 2 (some .boolean), Cond.fieldLink RX9 34 "UrnwrightModel$Urn" "growth" "I", Cond.fieldLink RX9 31 "UrnwrightModel$Urn" "counts" "[I", Cond.methodLink RX9 47 Lib.Math.min.name, Cond.static Lib.Math.min.name, Cond.initialized "java/lang/Math"]
def wsX10_mean_r3 : List Cond := [Cond.code Lib.Math.min.name Lib.Math.min.code 2 (some .int), Cond.methodLink RX9 43 yX9_all, Cond.static yX9_all, Cond.code yX9_all cX9_all 1 (some .int), Cond.methodLink RX10 131 yX9_game, Cond.instanceMethod yX9_game, Cond.selects RX9 yX9_game yX9_game, Cond.code yX9_game cX9_game 8 (some (.object "java/util/List")), Cond.classLink RX9 20 RJx4a65c, Cond.instantiable RJx4a65c 3, Cond.classLink RX9 54 RX7, Cond.instantiable RX7 11, Cond.initialized RX7, Cond.classLink RX9 54 "UrnwrightModel$Node", Cond.fieldLink RX9 73 "UrnwrightModel$Node" "draws" "I", Cond.fieldLink RX9 76 "UrnwrightModel$Node" "counts" "[I", Cond.fieldLink RX9 81 "UrnwrightModel$Node" "from" "I", Cond.fieldLink RX9 84 "UrnwrightModel$Node" "path" "I", Cond.fieldLink RX9 87 "UrnwrightModel$Node" "gains" "I", Cond.fieldLink RX9 16 "UrnwrightModel$Urn" "pays" "[I", Cond.fieldLink RX9 90 "UrnwrightModel$Node" "up" "J", Cond.fieldLink RX9 94 "UrnwrightModel$Node" "down" "J", Cond.fieldLink RX9 97 "UrnwrightModel$Node" "drawn" "[I", Cond.methodLink RX9 22 yJx4a65c_init_da8c8]
def wsX10_mean_r4 : List Cond := [Cond.instanceMethod yJx4a65c_init_da8c8, Cond.code yJx4a65c_init_da8c8 cJx4a65c_init_da8c8 1 none, Cond.fieldLink RJx4a65c 39 "java/util/ArrayList" "DEFAULTCAPACITY_EMPTY_ELEMENTDATA" "[Ljava/lang/Object;", Cond.methodLink RJx4a65c 1 yJxc12de_init_da8c8, Cond.instanceMethod yJxc12de_init_da8c8, Cond.initialized RJxc12de, Cond.code yJxc12de_init_da8c8 cJxc12de_init_da8c8 1 none, Cond.fieldLink RJxc12de 7 "java/util/AbstractList" "modCount" "I", Cond.methodLink RJxc12de 1 yJxa1e45_init_da8c8, Cond.instanceMethod yJxa1e45_init_da8c8, Cond.initialized RJxa1e45, Cond.code yJxa1e45_init_da8c8 cJxa1e45_init_da8c8 1 none, Cond.methodLink RJxa1e45 1 objectInit, Cond.instanceMethod objectInit, Cond.code objectInit ⟨#[0xb1]⟩ 1 none, Cond.methodLink RX9 56 yX7_init, Cond.instanceMethod yX7_init, Cond.code yX7_init cX7_init 2 none, Cond.methodLink RX7 3 objectInit, Cond.arrayClass .int, Cond.fieldLink RX7 9 "UrnwrightModel$Node" "drawn" "[I", Cond.fieldLink RX7 15 "UrnwrightModel$Node" "from" "I", Cond.fieldLink RX7 19 "UrnwrightModel$Node" "up" "J", Cond.fieldLink RX7 23 "UrnwrightModel$Node" "down" "J"]
def wsX10_mean_r5 : List Cond := [Cond.classLink RX7 26 RX8, Cond.instantiable RX8 2, Cond.initialized RX8, Cond.fieldLink RX7 29 "UrnwrightModel$Node" "worth" "LUrnwrightModel$Sum;", Cond.fieldLink RX7 33 "UrnwrightModel$Node" "next" "LUrnwrightModel$Sum;", Cond.fieldLink RX7 36 "UrnwrightModel$Node" "counts" "[I", Cond.instanceMethod yX8_init, Cond.code yX8_init cX8_init 1 none, Cond.methodLink RX8 1 objectInit, Cond.fieldLink RX8 7 "UrnwrightModel$Sum" "up" "J", Cond.fieldLink RX8 13 "UrnwrightModel$Sum" "down" "J", Cond.methodLink RX9 59 ⟨"java/util/List", "add", "(Ljava/lang/Object;)Z"⟩, Cond.selects RJx4a65c ⟨"java/util/List", "add", "(Ljava/lang/Object;)Z"⟩ yJx4a65c_add_9ea2d, Cond.instanceMethod yJx4a65c_add_9ea2d, Cond.code yJx4a65c_add_9ea2d cJx4a65c_add_9ea2d 2 (some .boolean), Cond.fieldLink RJx4a65c 63 "java/util/ArrayList" "modCount" "I", Cond.sameField "java/util/ArrayList" "java/util/AbstractList" "modCount" "I", Cond.methodLink RJx4a65c 131 yJx4a65c_add_72be8, Cond.instanceMethod yJx4a65c_add_72be8, Cond.selects RJx4a65c yJx4a65c_add_72be8 yJx4a65c_add_72be8, Cond.code yJx4a65c_add_72be8 cJx4a65c_add_72be8 4 none, Cond.methodLink RJx4a65c 129 yJx4a65c_grow_d5877, Cond.instanceMethod yJx4a65c_grow_d5877, Cond.selects RJx4a65c yJx4a65c_grow_d5877 yJx4a65c_grow_d5877]
def wsX10_mean_r6 : List Cond := [Cond.code yJx4a65c_grow_d5877 cJx4a65c_grow_d5877 1 (some (.array (.object "java/lang/Object"))), Cond.methodLink RJx4a65c 69 yJx4a65c_grow_92f84, Cond.instanceMethod yJx4a65c_grow_92f84, Cond.selects RJx4a65c yJx4a65c_grow_92f84 yJx4a65c_grow_92f84, Cond.code yJx4a65c_grow_92f84 cJx4a65c_grow_92f84 4 (some (.array (.object "java/lang/Object"))), Cond.methodLink RJx4a65c 79 Lib.Math.max.name, Cond.static Lib.Math.max.name, Cond.code Lib.Math.max.name Lib.Math.max.code 2 (some .int), Cond.classLink RJx4a65c 7 "java/lang/Object", Cond.methodLink RJx4a65c 73 yJ8_newLength_cabcc, Cond.static yJ8_newLength_cabcc, Cond.initialized RJ8, Cond.code yJ8_newLength_cabcc cJ8_newLength_cabcc 4 (some .int), Cond.methodLink RJ8 194 Lib.Math.max.name, Cond.constant RJ8 200 (2147483639), Cond.methodLink RJ8 201 yJ8_hugeLength_7cf53, Cond.static yJ8_hugeLength_7cf53, Cond.code yJ8_hugeLength_7cf53 cJ8_hugeLength_7cf53 3 (some .int), Cond.methodLink RJx4a65c 66 yJ7_copyOf_1904c, Cond.static yJ7_copyOf_1904c, Cond.initialized RJ7, Cond.code yJ7_copyOf_1904c cJ7_copyOf_1904c 2 (some (.array (.object "java/lang/Object"))), Cond.methodLink RJ7 86 ⟨"java/lang/Object", "getClass", "()Ljava/lang/Class;"⟩, Cond.selects "[Ljava/lang/Object;" ⟨"java/lang/Object", "getClass", "()Ljava/lang/Class;"⟩ ⟨"java/lang/Object", "getClass", "()Ljava/lang/Class;"⟩]
def wsX10_mean_r7 : List Cond := [Cond.instanceMethod ⟨"java/lang/Object", "getClass", "()Ljava/lang/Class;"⟩, Cond.native ⟨"java/lang/Object", "getClass", "()Ljava/lang/Class;"⟩, Cond.methodLink RJ7 300 yJ7_copyOf_6403c, Cond.static yJ7_copyOf_6403c, Cond.code yJ7_copyOf_6403c cJ7_copyOf_6403c 4 (some (.array (.object "java/lang/Object"))), Cond.classLink RJ7 110 "[Ljava/lang/Object;", Cond.classLink RJ7 2 "java/lang/Object", Cond.methodLink RJ7 304 Lib.Math.min.name, Cond.methodLink RJ7 150 arraycopyName, Cond.native arraycopyName, Cond.static arraycopyName, Cond.initialized "java/lang/System", Cond.methodLink RX9 65 ⟨"java/util/List", "size", "()I"⟩, Cond.methodLink RX9 69 ⟨"java/util/List", "get", "(I)Ljava/lang/Object;"⟩, Cond.methodLink RX9 77 yX9_behind, Cond.instanceMethod yX9_behind, Cond.selects RX9 yX9_behind yX9_behind, Cond.code yX9_behind cX9_behind 5 (some (.array .int)), Cond.fieldLink RX9 11 "UrnwrightModel$Urn" "rules" "[[I", Cond.methodLink RX10 157 yX10_meanNow, Cond.static yX10_meanNow, Cond.code yX10_meanNow cX10_meanNow 4 (some (.object "UrnwrightModel$Sum")), Cond.constantLong RX10 153 (-1), Cond.methodLink RX10 149 yX10_moment]
def wsX10_mean_r8 : List Cond := [Cond.static yX10_moment, Cond.code yX10_moment cX10_moment 6 (some (.object "UrnwrightModel$Sum")), Cond.classLink RX10 108 RX8, Cond.classLink RX10 135 "UrnwrightModel$Node", Cond.fieldLink RX10 137 "UrnwrightModel$Node" "draws" "I", Cond.fieldLink RX10 139 "UrnwrightModel$Node" "gains" "I", Cond.fieldLink RX10 142 "UrnwrightModel$Node" "up" "J", Cond.fieldLink RX10 146 "UrnwrightModel$Node" "down" "J", Cond.methodLink RX10 114 yX8_add, Cond.instanceMethod yX8_add, Cond.selects RX8 yX8_add yX8_add, Cond.code yX8_add cX8_add 15 (some (.object "UrnwrightModel$Sum")), Cond.methodLink RX8 22 Lib.MathLoose.abs_long.x, Cond.static Lib.MathLoose.abs_long.x, Cond.code Lib.MathLoose.abs_long.x Lib.MathLoose.abs_long.code 2 (some .long), Cond.static yX10_common, Cond.code yX10_common cX10_common 10 (some .long), Cond.methodLink RX10 107 yX8_part, Cond.instanceMethod yX8_part, Cond.selects RX8 yX8_part yX8_part, Cond.code yX8_part cX8_part 2 (some .long)]
def wsX10_mean : List Cond := .code yX10_mean cX10_mean 5 (some .long) :: ((wsX10_mean_r1 ++ (wsX10_mean_r2 ++ (wsX10_mean_r3 ++ (wsX10_mean_r4 ++ (wsX10_mean_r5 ++ (wsX10_mean_r6 ++ (wsX10_mean_r7 ++ wsX10_mean_r8))))))) ++ wsX100 ++ wsJx4a65c0 ++ wsX90 ++ wsX70 ++ wsX80)
def wsX10_unfairNow_r1 : List Cond := [Cond.classLink RX10 135 "UrnwrightModel$Node", Cond.fieldLink RX10 161 "UrnwrightModel$Node" "counts" "[I", Cond.fieldLink RX10 67 "UrnwrightModel$Urn" "pays" "[I", Cond.fieldLink RX10 137 "UrnwrightModel$Node" "draws" "I", Cond.fieldLink RX10 162 "UrnwrightModel$Node" "path" "I", Cond.methodLink RX10 23 ⟨"java/util/List", "size", "()I"⟩, Cond.selects RJx4a65c ⟨"java/util/List", "size", "()I"⟩ yJx4a65c_size_8abf5, Cond.instanceMethod yJx4a65c_size_8abf5, Cond.initialized RJx4a65c, Cond.code yJx4a65c_size_8abf5 cJx4a65c_size_8abf5 1 (some .int), Cond.fieldLink RJx4a65c 48 "java/util/ArrayList" "size" "I", Cond.methodLink RX10 50 ⟨"java/util/List", "get", "(I)Ljava/lang/Object;"⟩, Cond.selects RJx4a65c ⟨"java/util/List", "get", "(I)Ljava/lang/Object;"⟩ yJx4a65c_get_915e3, Cond.instanceMethod yJx4a65c_get_915e3, Cond.code yJx4a65c_get_915e3 cJx4a65c_get_915e3 2 (some (.object "java/lang/Object")), Cond.methodLink RJx4a65c 118 yJ15_checkIndex_7cf53, Cond.static yJ15_checkIndex_7cf53, Cond.initialized RJ15, Cond.code yJ15_checkIndex_7cf53 cJ15_checkIndex_7cf53 2 (some .int), Cond.methodLink RJ15 105 yJ3_checkIndex_8e157, Cond.static yJ3_checkIndex_8e157, Cond.initialized RJ3, Cond.code yJ3_checkIndex_8e157 cJ3_checkIndex_8e157 3 (some .int), Cond.methodLink RJx4a65c 123 yJx4a65c_elementData_915e3]
def wsX10_unfairNow_r2 : List Cond := [Cond.instanceMethod yJx4a65c_elementData_915e3, Cond.selects RJx4a65c yJx4a65c_elementData_915e3 yJx4a65c_elementData_915e3, Cond.code yJx4a65c_elementData_915e3 cJx4a65c_elementData_915e3 2 (some (.object "java/lang/Object")), Cond.fieldLink RJx4a65c 9 "java/util/ArrayList" "elementData" "[Ljava/lang/Object;"]
def wsX10_unfairNow : List Cond := .code yX10_unfairNow cX10_unfairNow 7 (some .int) :: ((wsX10_unfairNow_r1 ++ wsX10_unfairNow_r2) ++ wsX70 ++ wsX90 ++ wsJx4a65c0)
def wsX10_unfair_r1 : List Cond := [Cond.fieldLink RX10 10 "UrnwrightModel" "urns" "Ljava/util/List;", Cond.classLink RX10 37 "UrnwrightModel$Urn", Cond.methodLink RX10 128 yX10_canPlay, Cond.instanceMethod yX10_canPlay, Cond.selects RX10 yX10_canPlay yX10_canPlay, Cond.initialized RX10, Cond.code yX10_canPlay cX10_canPlay 3 (some .boolean), Cond.fieldLink RX10 19 "UrnwrightModel" "thrown" "I", Cond.methodLink RX10 46 yX10_isUrn, Cond.instanceMethod yX10_isUrn, Cond.selects RX10 yX10_isUrn yX10_isUrn, Cond.code yX10_isUrn cX10_isUrn 2 (some .boolean), Cond.methodLink RX10 23 ⟨"java/util/List", "size", "()I"⟩, Cond.selects RJx4a65c ⟨"java/util/List", "size", "()I"⟩ yJx4a65c_size_8abf5, Cond.instanceMethod yJx4a65c_size_8abf5, Cond.initialized RJx4a65c, Cond.code yJx4a65c_size_8abf5 cJx4a65c_size_8abf5 1 (some .int), Cond.fieldLink RJx4a65c 48 "java/util/ArrayList" "size" "I", Cond.methodLink RX10 29 yX10_in, Cond.static yX10_in, Cond.code yX10_in cX10_in 3 (some .boolean), Cond.methodLink RX10 50 ⟨"java/util/List", "get", "(I)Ljava/lang/Object;"⟩, Cond.selects RJx4a65c ⟨"java/util/List", "get", "(I)Ljava/lang/Object;"⟩ yJx4a65c_get_915e3, Cond.instanceMethod yJx4a65c_get_915e3]
def wsX10_unfair_r2 : List Cond := [Cond.code yJx4a65c_get_915e3 cJx4a65c_get_915e3 2 (some (.object "java/lang/Object")), Cond.methodLink RJx4a65c 118 yJ15_checkIndex_7cf53, Cond.static yJ15_checkIndex_7cf53, Cond.initialized RJ15, Cond.code yJ15_checkIndex_7cf53 cJ15_checkIndex_7cf53 2 (some .int), Cond.methodLink RJ15 105 yJ3_checkIndex_8e157, Cond.static yJ3_checkIndex_8e157, Cond.initialized RJ3, Cond.code yJ3_checkIndex_8e157 cJ3_checkIndex_8e157 3 (some .int), Cond.methodLink RJx4a65c 123 yJx4a65c_elementData_915e3, Cond.instanceMethod yJx4a65c_elementData_915e3, Cond.selects RJx4a65c yJx4a65c_elementData_915e3 yJx4a65c_elementData_915e3, Cond.code yJx4a65c_elementData_915e3 cJx4a65c_elementData_915e3 2 (some (.object "java/lang/Object")), Cond.fieldLink RJx4a65c 9 "java/util/ArrayList" "elementData" "[Ljava/lang/Object;", Cond.methodLink RX10 125 yX9_canPlay, Cond.instanceMethod yX9_canPlay, Cond.selects RX9 yX9_canPlay yX9_canPlay, Cond.initialized RX9, Cond.code yX9_canPlay cX9_canPlay 2 (some .boolean), Cond.fieldLink RX9 34 "UrnwrightModel$Urn" "growth" "I", Cond.fieldLink RX9 31 "UrnwrightModel$Urn" "counts" "[I", Cond.methodLink RX9 47 Lib.Math.min.name, Cond.static Lib.Math.min.name, Cond.initialized "java/lang/Math"]
def wsX10_unfair_r3 : List Cond := [Cond.code Lib.Math.min.name Lib.Math.min.code 2 (some .int), Cond.methodLink RX9 43 yX9_all, Cond.static yX9_all, Cond.code yX9_all cX9_all 1 (some .int), Cond.methodLink RX10 131 yX9_game, Cond.instanceMethod yX9_game, Cond.selects RX9 yX9_game yX9_game, Cond.code yX9_game cX9_game 8 (some (.object "java/util/List")), Cond.classLink RX9 20 RJx4a65c, Cond.instantiable RJx4a65c 3, Cond.classLink RX9 54 RX7, Cond.instantiable RX7 11, Cond.initialized RX7, Cond.classLink RX9 54 "UrnwrightModel$Node", Cond.fieldLink RX9 73 "UrnwrightModel$Node" "draws" "I", Cond.fieldLink RX9 76 "UrnwrightModel$Node" "counts" "[I", Cond.fieldLink RX9 81 "UrnwrightModel$Node" "from" "I", Cond.fieldLink RX9 84 "UrnwrightModel$Node" "path" "I", Cond.fieldLink RX9 87 "UrnwrightModel$Node" "gains" "I", Cond.fieldLink RX9 16 "UrnwrightModel$Urn" "pays" "[I", Cond.fieldLink RX9 90 "UrnwrightModel$Node" "up" "J", Cond.fieldLink RX9 94 "UrnwrightModel$Node" "down" "J", Cond.fieldLink RX9 97 "UrnwrightModel$Node" "drawn" "[I", Cond.methodLink RX9 22 yJx4a65c_init_da8c8]
def wsX10_unfair_r4 : List Cond := [Cond.instanceMethod yJx4a65c_init_da8c8, Cond.code yJx4a65c_init_da8c8 cJx4a65c_init_da8c8 1 none, Cond.fieldLink RJx4a65c 39 "java/util/ArrayList" "DEFAULTCAPACITY_EMPTY_ELEMENTDATA" "[Ljava/lang/Object;", Cond.methodLink RJx4a65c 1 yJxc12de_init_da8c8, Cond.instanceMethod yJxc12de_init_da8c8, Cond.initialized RJxc12de, Cond.code yJxc12de_init_da8c8 cJxc12de_init_da8c8 1 none, Cond.fieldLink RJxc12de 7 "java/util/AbstractList" "modCount" "I", Cond.methodLink RJxc12de 1 yJxa1e45_init_da8c8, Cond.instanceMethod yJxa1e45_init_da8c8, Cond.initialized RJxa1e45, Cond.code yJxa1e45_init_da8c8 cJxa1e45_init_da8c8 1 none, Cond.methodLink RJxa1e45 1 objectInit, Cond.instanceMethod objectInit, Cond.code objectInit ⟨#[0xb1]⟩ 1 none, Cond.methodLink RX9 56 yX7_init, Cond.instanceMethod yX7_init, Cond.code yX7_init cX7_init 2 none, Cond.methodLink RX7 3 objectInit, Cond.arrayClass .int, Cond.fieldLink RX7 9 "UrnwrightModel$Node" "drawn" "[I", Cond.fieldLink RX7 15 "UrnwrightModel$Node" "from" "I", Cond.fieldLink RX7 19 "UrnwrightModel$Node" "up" "J", Cond.fieldLink RX7 23 "UrnwrightModel$Node" "down" "J"]
def wsX10_unfair_r5 : List Cond := [Cond.classLink RX7 26 RX8, Cond.instantiable RX8 2, Cond.initialized RX8, Cond.fieldLink RX7 29 "UrnwrightModel$Node" "worth" "LUrnwrightModel$Sum;", Cond.fieldLink RX7 33 "UrnwrightModel$Node" "next" "LUrnwrightModel$Sum;", Cond.fieldLink RX7 36 "UrnwrightModel$Node" "counts" "[I", Cond.instanceMethod yX8_init, Cond.code yX8_init cX8_init 1 none, Cond.methodLink RX8 1 objectInit, Cond.fieldLink RX8 7 "UrnwrightModel$Sum" "up" "J", Cond.fieldLink RX8 13 "UrnwrightModel$Sum" "down" "J", Cond.methodLink RX9 59 ⟨"java/util/List", "add", "(Ljava/lang/Object;)Z"⟩, Cond.selects RJx4a65c ⟨"java/util/List", "add", "(Ljava/lang/Object;)Z"⟩ yJx4a65c_add_9ea2d, Cond.instanceMethod yJx4a65c_add_9ea2d, Cond.code yJx4a65c_add_9ea2d cJx4a65c_add_9ea2d 2 (some .boolean), Cond.fieldLink RJx4a65c 63 "java/util/ArrayList" "modCount" "I", Cond.sameField "java/util/ArrayList" "java/util/AbstractList" "modCount" "I", Cond.methodLink RJx4a65c 131 yJx4a65c_add_72be8, Cond.instanceMethod yJx4a65c_add_72be8, Cond.selects RJx4a65c yJx4a65c_add_72be8 yJx4a65c_add_72be8, Cond.code yJx4a65c_add_72be8 cJx4a65c_add_72be8 4 none, Cond.methodLink RJx4a65c 129 yJx4a65c_grow_d5877, Cond.instanceMethod yJx4a65c_grow_d5877, Cond.selects RJx4a65c yJx4a65c_grow_d5877 yJx4a65c_grow_d5877]
def wsX10_unfair_r6 : List Cond := [Cond.code yJx4a65c_grow_d5877 cJx4a65c_grow_d5877 1 (some (.array (.object "java/lang/Object"))), Cond.methodLink RJx4a65c 69 yJx4a65c_grow_92f84, Cond.instanceMethod yJx4a65c_grow_92f84, Cond.selects RJx4a65c yJx4a65c_grow_92f84 yJx4a65c_grow_92f84, Cond.code yJx4a65c_grow_92f84 cJx4a65c_grow_92f84 4 (some (.array (.object "java/lang/Object"))), Cond.methodLink RJx4a65c 79 Lib.Math.max.name, Cond.static Lib.Math.max.name, Cond.code Lib.Math.max.name Lib.Math.max.code 2 (some .int), Cond.classLink RJx4a65c 7 "java/lang/Object", Cond.methodLink RJx4a65c 73 yJ8_newLength_cabcc, Cond.static yJ8_newLength_cabcc, Cond.initialized RJ8, Cond.code yJ8_newLength_cabcc cJ8_newLength_cabcc 4 (some .int), Cond.methodLink RJ8 194 Lib.Math.max.name, Cond.constant RJ8 200 (2147483639), Cond.methodLink RJ8 201 yJ8_hugeLength_7cf53, Cond.static yJ8_hugeLength_7cf53, Cond.code yJ8_hugeLength_7cf53 cJ8_hugeLength_7cf53 3 (some .int), Cond.methodLink RJx4a65c 66 yJ7_copyOf_1904c, Cond.static yJ7_copyOf_1904c, Cond.initialized RJ7, Cond.code yJ7_copyOf_1904c cJ7_copyOf_1904c 2 (some (.array (.object "java/lang/Object"))), Cond.methodLink RJ7 86 ⟨"java/lang/Object", "getClass", "()Ljava/lang/Class;"⟩, Cond.selects "[Ljava/lang/Object;" ⟨"java/lang/Object", "getClass", "()Ljava/lang/Class;"⟩ ⟨"java/lang/Object", "getClass", "()Ljava/lang/Class;"⟩]
def wsX10_unfair_r7 : List Cond := [Cond.instanceMethod ⟨"java/lang/Object", "getClass", "()Ljava/lang/Class;"⟩, Cond.native ⟨"java/lang/Object", "getClass", "()Ljava/lang/Class;"⟩, Cond.methodLink RJ7 300 yJ7_copyOf_6403c, Cond.static yJ7_copyOf_6403c, Cond.code yJ7_copyOf_6403c cJ7_copyOf_6403c 4 (some (.array (.object "java/lang/Object"))), Cond.classLink RJ7 110 "[Ljava/lang/Object;", Cond.classLink RJ7 2 "java/lang/Object", Cond.methodLink RJ7 304 Lib.Math.min.name, Cond.methodLink RJ7 150 arraycopyName, Cond.native arraycopyName, Cond.static arraycopyName, Cond.initialized "java/lang/System", Cond.methodLink RX9 65 ⟨"java/util/List", "size", "()I"⟩, Cond.methodLink RX9 69 ⟨"java/util/List", "get", "(I)Ljava/lang/Object;"⟩, Cond.methodLink RX9 77 yX9_behind, Cond.instanceMethod yX9_behind, Cond.selects RX9 yX9_behind yX9_behind, Cond.code yX9_behind cX9_behind 5 (some (.array .int)), Cond.fieldLink RX9 11 "UrnwrightModel$Urn" "rules" "[[I", Cond.methodLink RX10 163 yX10_unfairNow, Cond.static yX10_unfairNow, Cond.code yX10_unfairNow cX10_unfairNow 7 (some .int), Cond.classLink RX10 135 "UrnwrightModel$Node", Cond.fieldLink RX10 161 "UrnwrightModel$Node" "counts" "[I"]
def wsX10_unfair_r8 : List Cond := [Cond.fieldLink RX10 67 "UrnwrightModel$Urn" "pays" "[I", Cond.fieldLink RX10 137 "UrnwrightModel$Node" "draws" "I", Cond.fieldLink RX10 162 "UrnwrightModel$Node" "path" "I"]
def wsX10_unfair : List Cond := .code yX10_unfair cX10_unfair 3 (some .int) :: ((wsX10_unfair_r1 ++ (wsX10_unfair_r2 ++ (wsX10_unfair_r3 ++ (wsX10_unfair_r4 ++ (wsX10_unfair_r5 ++ (wsX10_unfair_r6 ++ (wsX10_unfair_r7 ++ wsX10_unfair_r8))))))) ++ wsX100 ++ wsJx4a65c0 ++ wsX90 ++ wsX70 ++ wsX80)
def wsX10_orderedNow_r1 : List Cond := [Cond.classLink RX10 135 "UrnwrightModel$Node", Cond.fieldLink RX10 137 "UrnwrightModel$Node" "draws" "I", Cond.classLink RX10 108 RX8, Cond.instantiable RX8 2, Cond.initialized RX8, Cond.fieldLink RX10 142 "UrnwrightModel$Node" "up" "J", Cond.fieldLink RX10 146 "UrnwrightModel$Node" "down" "J", Cond.fieldLink RX10 162 "UrnwrightModel$Node" "path" "I", Cond.methodLink RX10 23 ⟨"java/util/List", "size", "()I"⟩, Cond.selects RJx4a65c ⟨"java/util/List", "size", "()I"⟩ yJx4a65c_size_8abf5, Cond.instanceMethod yJx4a65c_size_8abf5, Cond.initialized RJx4a65c, Cond.code yJx4a65c_size_8abf5 cJx4a65c_size_8abf5 1 (some .int), Cond.fieldLink RJx4a65c 48 "java/util/ArrayList" "size" "I", Cond.methodLink RX10 50 ⟨"java/util/List", "get", "(I)Ljava/lang/Object;"⟩, Cond.selects RJx4a65c ⟨"java/util/List", "get", "(I)Ljava/lang/Object;"⟩ yJx4a65c_get_915e3, Cond.instanceMethod yJx4a65c_get_915e3, Cond.code yJx4a65c_get_915e3 cJx4a65c_get_915e3 2 (some (.object "java/lang/Object")), Cond.methodLink RJx4a65c 118 yJ15_checkIndex_7cf53, Cond.static yJ15_checkIndex_7cf53, Cond.initialized RJ15, Cond.code yJ15_checkIndex_7cf53 cJ15_checkIndex_7cf53 2 (some .int), Cond.methodLink RJ15 105 yJ3_checkIndex_8e157, Cond.static yJ3_checkIndex_8e157]
def wsX10_orderedNow_r2 : List Cond := [Cond.initialized RJ3, Cond.code yJ3_checkIndex_8e157 cJ3_checkIndex_8e157 3 (some .int), Cond.methodLink RJx4a65c 123 yJx4a65c_elementData_915e3, Cond.instanceMethod yJx4a65c_elementData_915e3, Cond.selects RJx4a65c yJx4a65c_elementData_915e3 yJx4a65c_elementData_915e3, Cond.code yJx4a65c_elementData_915e3 cJx4a65c_elementData_915e3 2 (some (.object "java/lang/Object")), Cond.fieldLink RJx4a65c 9 "java/util/ArrayList" "elementData" "[Ljava/lang/Object;", Cond.instanceMethod yX8_init, Cond.code yX8_init cX8_init 1 none, Cond.methodLink RX8 1 objectInit, Cond.instanceMethod objectInit, Cond.code objectInit ⟨#[0xb1]⟩ 1 none, Cond.fieldLink RX8 7 "UrnwrightModel$Sum" "up" "J", Cond.fieldLink RX8 13 "UrnwrightModel$Sum" "down" "J", Cond.methodLink RX10 114 yX8_add, Cond.instanceMethod yX8_add, Cond.selects RX8 yX8_add yX8_add, Cond.code yX8_add cX8_add 15 (some (.object "UrnwrightModel$Sum")), Cond.methodLink RX8 22 Lib.MathLoose.abs_long.x, Cond.static Lib.MathLoose.abs_long.x, Cond.initialized "java/lang/Math", Cond.code Lib.MathLoose.abs_long.x Lib.MathLoose.abs_long.code 2 (some .long), Cond.static yX10_common, Cond.initialized RX10]
def wsX10_orderedNow_r3 : List Cond := [Cond.code yX10_common cX10_common 10 (some .long), Cond.methodLink RX10 103 yX10_chanceOf, Cond.static yX10_chanceOf, Cond.code yX10_chanceOf cX10_chanceOf 6 (some (.object "UrnwrightModel$Sum")), Cond.fieldLink RX10 77 "UrnwrightModel$Urn" "counts" "[I", Cond.methodLink RX10 117 yX9_all, Cond.static yX9_all, Cond.initialized RX9, Cond.code yX9_all cX9_all 1 (some .int), Cond.methodLink RX10 121 yX8_times, Cond.instanceMethod yX8_times, Cond.selects RX8 yX8_times yX8_times, Cond.code yX8_times cX8_times 9 (some (.object "UrnwrightModel$Sum")), Cond.methodLink RX10 83 yX9_behind, Cond.instanceMethod yX9_behind, Cond.selects RX9 yX9_behind yX9_behind, Cond.code yX9_behind cX9_behind 5 (some (.array .int)), Cond.arrayClass .int, Cond.fieldLink RX9 34 "UrnwrightModel$Urn" "growth" "I", Cond.fieldLink RX9 11 "UrnwrightModel$Urn" "rules" "[[I"]
def wsX10_orderedNow : List Cond := .code yX10_orderedNow cX10_orderedNow 9 (some .int) :: ((wsX10_orderedNow_r1 ++ (wsX10_orderedNow_r2 ++ wsX10_orderedNow_r3)) ++ wsX70 ++ wsX80 ++ wsJx4a65c0 ++ wsX90)
def wsX10_ordered_r1 : List Cond := [Cond.fieldLink RX10 10 "UrnwrightModel" "urns" "Ljava/util/List;", Cond.classLink RX10 37 "UrnwrightModel$Urn", Cond.methodLink RX10 128 yX10_canPlay, Cond.instanceMethod yX10_canPlay, Cond.selects RX10 yX10_canPlay yX10_canPlay, Cond.initialized RX10, Cond.code yX10_canPlay cX10_canPlay 3 (some .boolean), Cond.fieldLink RX10 19 "UrnwrightModel" "thrown" "I", Cond.methodLink RX10 46 yX10_isUrn, Cond.instanceMethod yX10_isUrn, Cond.selects RX10 yX10_isUrn yX10_isUrn, Cond.code yX10_isUrn cX10_isUrn 2 (some .boolean), Cond.methodLink RX10 23 ⟨"java/util/List", "size", "()I"⟩, Cond.selects RJx4a65c ⟨"java/util/List", "size", "()I"⟩ yJx4a65c_size_8abf5, Cond.instanceMethod yJx4a65c_size_8abf5, Cond.initialized RJx4a65c, Cond.code yJx4a65c_size_8abf5 cJx4a65c_size_8abf5 1 (some .int), Cond.fieldLink RJx4a65c 48 "java/util/ArrayList" "size" "I", Cond.methodLink RX10 29 yX10_in, Cond.static yX10_in, Cond.code yX10_in cX10_in 3 (some .boolean), Cond.methodLink RX10 50 ⟨"java/util/List", "get", "(I)Ljava/lang/Object;"⟩, Cond.selects RJx4a65c ⟨"java/util/List", "get", "(I)Ljava/lang/Object;"⟩ yJx4a65c_get_915e3, Cond.instanceMethod yJx4a65c_get_915e3]
def wsX10_ordered_r2 : List Cond := [Cond.code yJx4a65c_get_915e3 cJx4a65c_get_915e3 2 (some (.object "java/lang/Object")), Cond.methodLink RJx4a65c 118 yJ15_checkIndex_7cf53, Cond.static yJ15_checkIndex_7cf53, Cond.initialized RJ15, Cond.code yJ15_checkIndex_7cf53 cJ15_checkIndex_7cf53 2 (some .int), Cond.methodLink RJ15 105 yJ3_checkIndex_8e157, Cond.static yJ3_checkIndex_8e157, Cond.initialized RJ3, Cond.code yJ3_checkIndex_8e157 cJ3_checkIndex_8e157 3 (some .int), Cond.methodLink RJx4a65c 123 yJx4a65c_elementData_915e3, Cond.instanceMethod yJx4a65c_elementData_915e3, Cond.selects RJx4a65c yJx4a65c_elementData_915e3 yJx4a65c_elementData_915e3, Cond.code yJx4a65c_elementData_915e3 cJx4a65c_elementData_915e3 2 (some (.object "java/lang/Object")), Cond.fieldLink RJx4a65c 9 "java/util/ArrayList" "elementData" "[Ljava/lang/Object;", Cond.methodLink RX10 125 yX9_canPlay, Cond.instanceMethod yX9_canPlay, Cond.selects RX9 yX9_canPlay yX9_canPlay, Cond.initialized RX9, Cond.code yX9_canPlay cX9_canPlay 2 (some .boolean), Cond.fieldLink RX9 34 "UrnwrightModel$Urn" "growth" "I", Cond.fieldLink RX9 31 "UrnwrightModel$Urn" "counts" "[I", Cond.methodLink RX9 47 Lib.Math.min.name, Cond.static Lib.Math.min.name, Cond.initialized "java/lang/Math"]
def wsX10_ordered_r3 : List Cond := [Cond.code Lib.Math.min.name Lib.Math.min.code 2 (some .int), Cond.methodLink RX9 43 yX9_all, Cond.static yX9_all, Cond.code yX9_all cX9_all 1 (some .int), Cond.methodLink RX10 131 yX9_game, Cond.instanceMethod yX9_game, Cond.selects RX9 yX9_game yX9_game, Cond.code yX9_game cX9_game 8 (some (.object "java/util/List")), Cond.classLink RX9 20 RJx4a65c, Cond.instantiable RJx4a65c 3, Cond.classLink RX9 54 RX7, Cond.instantiable RX7 11, Cond.initialized RX7, Cond.classLink RX9 54 "UrnwrightModel$Node", Cond.fieldLink RX9 73 "UrnwrightModel$Node" "draws" "I", Cond.fieldLink RX9 76 "UrnwrightModel$Node" "counts" "[I", Cond.fieldLink RX9 81 "UrnwrightModel$Node" "from" "I", Cond.fieldLink RX9 84 "UrnwrightModel$Node" "path" "I", Cond.fieldLink RX9 87 "UrnwrightModel$Node" "gains" "I", Cond.fieldLink RX9 16 "UrnwrightModel$Urn" "pays" "[I", Cond.fieldLink RX9 90 "UrnwrightModel$Node" "up" "J", Cond.fieldLink RX9 94 "UrnwrightModel$Node" "down" "J", Cond.fieldLink RX9 97 "UrnwrightModel$Node" "drawn" "[I", Cond.methodLink RX9 22 yJx4a65c_init_da8c8]
def wsX10_ordered_r4 : List Cond := [Cond.instanceMethod yJx4a65c_init_da8c8, Cond.code yJx4a65c_init_da8c8 cJx4a65c_init_da8c8 1 none, Cond.fieldLink RJx4a65c 39 "java/util/ArrayList" "DEFAULTCAPACITY_EMPTY_ELEMENTDATA" "[Ljava/lang/Object;", Cond.methodLink RJx4a65c 1 yJxc12de_init_da8c8, Cond.instanceMethod yJxc12de_init_da8c8, Cond.initialized RJxc12de, Cond.code yJxc12de_init_da8c8 cJxc12de_init_da8c8 1 none, Cond.fieldLink RJxc12de 7 "java/util/AbstractList" "modCount" "I", Cond.methodLink RJxc12de 1 yJxa1e45_init_da8c8, Cond.instanceMethod yJxa1e45_init_da8c8, Cond.initialized RJxa1e45, Cond.code yJxa1e45_init_da8c8 cJxa1e45_init_da8c8 1 none, Cond.methodLink RJxa1e45 1 objectInit, Cond.instanceMethod objectInit, Cond.code objectInit ⟨#[0xb1]⟩ 1 none, Cond.methodLink RX9 56 yX7_init, Cond.instanceMethod yX7_init, Cond.code yX7_init cX7_init 2 none, Cond.methodLink RX7 3 objectInit, Cond.arrayClass .int, Cond.fieldLink RX7 9 "UrnwrightModel$Node" "drawn" "[I", Cond.fieldLink RX7 15 "UrnwrightModel$Node" "from" "I", Cond.fieldLink RX7 19 "UrnwrightModel$Node" "up" "J", Cond.fieldLink RX7 23 "UrnwrightModel$Node" "down" "J"]
def wsX10_ordered_r5 : List Cond := [Cond.classLink RX7 26 RX8, Cond.instantiable RX8 2, Cond.initialized RX8, Cond.fieldLink RX7 29 "UrnwrightModel$Node" "worth" "LUrnwrightModel$Sum;", Cond.fieldLink RX7 33 "UrnwrightModel$Node" "next" "LUrnwrightModel$Sum;", Cond.fieldLink RX7 36 "UrnwrightModel$Node" "counts" "[I", Cond.instanceMethod yX8_init, Cond.code yX8_init cX8_init 1 none, Cond.methodLink RX8 1 objectInit, Cond.fieldLink RX8 7 "UrnwrightModel$Sum" "up" "J", Cond.fieldLink RX8 13 "UrnwrightModel$Sum" "down" "J", Cond.methodLink RX9 59 ⟨"java/util/List", "add", "(Ljava/lang/Object;)Z"⟩, Cond.selects RJx4a65c ⟨"java/util/List", "add", "(Ljava/lang/Object;)Z"⟩ yJx4a65c_add_9ea2d, Cond.instanceMethod yJx4a65c_add_9ea2d, Cond.code yJx4a65c_add_9ea2d cJx4a65c_add_9ea2d 2 (some .boolean), Cond.fieldLink RJx4a65c 63 "java/util/ArrayList" "modCount" "I", Cond.sameField "java/util/ArrayList" "java/util/AbstractList" "modCount" "I", Cond.methodLink RJx4a65c 131 yJx4a65c_add_72be8, Cond.instanceMethod yJx4a65c_add_72be8, Cond.selects RJx4a65c yJx4a65c_add_72be8 yJx4a65c_add_72be8, Cond.code yJx4a65c_add_72be8 cJx4a65c_add_72be8 4 none, Cond.methodLink RJx4a65c 129 yJx4a65c_grow_d5877, Cond.instanceMethod yJx4a65c_grow_d5877, Cond.selects RJx4a65c yJx4a65c_grow_d5877 yJx4a65c_grow_d5877]
def wsX10_ordered_r6 : List Cond := [Cond.code yJx4a65c_grow_d5877 cJx4a65c_grow_d5877 1 (some (.array (.object "java/lang/Object"))), Cond.methodLink RJx4a65c 69 yJx4a65c_grow_92f84, Cond.instanceMethod yJx4a65c_grow_92f84, Cond.selects RJx4a65c yJx4a65c_grow_92f84 yJx4a65c_grow_92f84, Cond.code yJx4a65c_grow_92f84 cJx4a65c_grow_92f84 4 (some (.array (.object "java/lang/Object"))), Cond.methodLink RJx4a65c 79 Lib.Math.max.name, Cond.static Lib.Math.max.name, Cond.code Lib.Math.max.name Lib.Math.max.code 2 (some .int), Cond.classLink RJx4a65c 7 "java/lang/Object", Cond.methodLink RJx4a65c 73 yJ8_newLength_cabcc, Cond.static yJ8_newLength_cabcc, Cond.initialized RJ8, Cond.code yJ8_newLength_cabcc cJ8_newLength_cabcc 4 (some .int), Cond.methodLink RJ8 194 Lib.Math.max.name, Cond.constant RJ8 200 (2147483639), Cond.methodLink RJ8 201 yJ8_hugeLength_7cf53, Cond.static yJ8_hugeLength_7cf53, Cond.code yJ8_hugeLength_7cf53 cJ8_hugeLength_7cf53 3 (some .int), Cond.methodLink RJx4a65c 66 yJ7_copyOf_1904c, Cond.static yJ7_copyOf_1904c, Cond.initialized RJ7, Cond.code yJ7_copyOf_1904c cJ7_copyOf_1904c 2 (some (.array (.object "java/lang/Object"))), Cond.methodLink RJ7 86 ⟨"java/lang/Object", "getClass", "()Ljava/lang/Class;"⟩, Cond.selects "[Ljava/lang/Object;" ⟨"java/lang/Object", "getClass", "()Ljava/lang/Class;"⟩ ⟨"java/lang/Object", "getClass", "()Ljava/lang/Class;"⟩]
def wsX10_ordered_r7 : List Cond := [Cond.instanceMethod ⟨"java/lang/Object", "getClass", "()Ljava/lang/Class;"⟩, Cond.native ⟨"java/lang/Object", "getClass", "()Ljava/lang/Class;"⟩, Cond.methodLink RJ7 300 yJ7_copyOf_6403c, Cond.static yJ7_copyOf_6403c, Cond.code yJ7_copyOf_6403c cJ7_copyOf_6403c 4 (some (.array (.object "java/lang/Object"))), Cond.classLink RJ7 110 "[Ljava/lang/Object;", Cond.classLink RJ7 2 "java/lang/Object", Cond.methodLink RJ7 304 Lib.Math.min.name, Cond.methodLink RJ7 150 arraycopyName, Cond.native arraycopyName, Cond.static arraycopyName, Cond.initialized "java/lang/System", Cond.methodLink RX9 65 ⟨"java/util/List", "size", "()I"⟩, Cond.methodLink RX9 69 ⟨"java/util/List", "get", "(I)Ljava/lang/Object;"⟩, Cond.methodLink RX9 77 yX9_behind, Cond.instanceMethod yX9_behind, Cond.selects RX9 yX9_behind yX9_behind, Cond.code yX9_behind cX9_behind 5 (some (.array .int)), Cond.fieldLink RX9 11 "UrnwrightModel$Urn" "rules" "[[I", Cond.methodLink RX10 167 yX10_orderedNow, Cond.static yX10_orderedNow, Cond.code yX10_orderedNow cX10_orderedNow 9 (some .int), Cond.classLink RX10 135 "UrnwrightModel$Node", Cond.fieldLink RX10 137 "UrnwrightModel$Node" "draws" "I"]
def wsX10_ordered_r8 : List Cond := [Cond.classLink RX10 108 RX8, Cond.fieldLink RX10 142 "UrnwrightModel$Node" "up" "J", Cond.fieldLink RX10 146 "UrnwrightModel$Node" "down" "J", Cond.fieldLink RX10 162 "UrnwrightModel$Node" "path" "I", Cond.methodLink RX10 114 yX8_add, Cond.instanceMethod yX8_add, Cond.selects RX8 yX8_add yX8_add, Cond.code yX8_add cX8_add 15 (some (.object "UrnwrightModel$Sum")), Cond.methodLink RX8 22 Lib.MathLoose.abs_long.x, Cond.static Lib.MathLoose.abs_long.x, Cond.code Lib.MathLoose.abs_long.x Lib.MathLoose.abs_long.code 2 (some .long), Cond.static yX10_common, Cond.code yX10_common cX10_common 10 (some .long), Cond.methodLink RX10 103 yX10_chanceOf, Cond.static yX10_chanceOf, Cond.code yX10_chanceOf cX10_chanceOf 6 (some (.object "UrnwrightModel$Sum")), Cond.fieldLink RX10 77 "UrnwrightModel$Urn" "counts" "[I", Cond.methodLink RX10 117 yX9_all, Cond.methodLink RX10 121 yX8_times, Cond.instanceMethod yX8_times, Cond.selects RX8 yX8_times yX8_times, Cond.code yX8_times cX8_times 9 (some (.object "UrnwrightModel$Sum")), Cond.methodLink RX10 83 yX9_behind]
def wsX10_ordered : List Cond := .code yX10_ordered cX10_ordered 3 (some .int) :: ((wsX10_ordered_r1 ++ (wsX10_ordered_r2 ++ (wsX10_ordered_r3 ++ (wsX10_ordered_r4 ++ (wsX10_ordered_r5 ++ (wsX10_ordered_r6 ++ (wsX10_ordered_r7 ++ wsX10_ordered_r8))))))) ++ wsX100 ++ wsJx4a65c0 ++ wsX90 ++ wsX70 ++ wsX80)
def wsX10_given_r1 : List Cond := [Cond.fieldLink RX10 19 "UrnwrightModel" "thrown" "I", Cond.fieldLink RX10 10 "UrnwrightModel" "urns" "Ljava/util/List;", Cond.classLink RX10 37 "UrnwrightModel$Urn", Cond.classLink RX10 108 RX8, Cond.instantiable RX8 2, Cond.initialized RX8, Cond.classLink RX10 135 "UrnwrightModel$Node", Cond.fieldLink RX10 137 "UrnwrightModel$Node" "draws" "I", Cond.fieldLink RX10 170 "UrnwrightModel$Node" "drawn" "[I", Cond.fieldLink RX10 142 "UrnwrightModel$Node" "up" "J", Cond.fieldLink RX10 146 "UrnwrightModel$Node" "down" "J", Cond.fieldLink RX10 139 "UrnwrightModel$Node" "gains" "I", Cond.methodLink RX10 46 yX10_isUrn, Cond.instanceMethod yX10_isUrn, Cond.selects RX10 yX10_isUrn yX10_isUrn, Cond.initialized RX10, Cond.code yX10_isUrn cX10_isUrn 2 (some .boolean), Cond.methodLink RX10 23 ⟨"java/util/List", "size", "()I"⟩, Cond.selects RJx4a65c ⟨"java/util/List", "size", "()I"⟩ yJx4a65c_size_8abf5, Cond.instanceMethod yJx4a65c_size_8abf5, Cond.initialized RJx4a65c, Cond.code yJx4a65c_size_8abf5 cJx4a65c_size_8abf5 1 (some .int), Cond.fieldLink RJx4a65c 48 "java/util/ArrayList" "size" "I", Cond.methodLink RX10 29 yX10_in]
def wsX10_given_r2 : List Cond := [Cond.static yX10_in, Cond.code yX10_in cX10_in 3 (some .boolean), Cond.methodLink RX10 33 yX10_no, Cond.instanceMethod yX10_no, Cond.selects RX10 yX10_no yX10_no, Cond.code yX10_no cX10_no 2 (some .int), Cond.methodLink RX10 50 ⟨"java/util/List", "get", "(I)Ljava/lang/Object;"⟩, Cond.selects RJx4a65c ⟨"java/util/List", "get", "(I)Ljava/lang/Object;"⟩ yJx4a65c_get_915e3, Cond.instanceMethod yJx4a65c_get_915e3, Cond.code yJx4a65c_get_915e3 cJx4a65c_get_915e3 2 (some (.object "java/lang/Object")), Cond.methodLink RJx4a65c 118 yJ15_checkIndex_7cf53, Cond.static yJ15_checkIndex_7cf53, Cond.initialized RJ15, Cond.code yJ15_checkIndex_7cf53 cJ15_checkIndex_7cf53 2 (some .int), Cond.methodLink RJ15 105 yJ3_checkIndex_8e157, Cond.static yJ3_checkIndex_8e157, Cond.initialized RJ3, Cond.code yJ3_checkIndex_8e157 cJ3_checkIndex_8e157 3 (some .int), Cond.methodLink RJx4a65c 123 yJx4a65c_elementData_915e3, Cond.instanceMethod yJx4a65c_elementData_915e3, Cond.selects RJx4a65c yJx4a65c_elementData_915e3 yJx4a65c_elementData_915e3, Cond.code yJx4a65c_elementData_915e3 cJx4a65c_elementData_915e3 2 (some (.object "java/lang/Object")), Cond.fieldLink RJx4a65c 9 "java/util/ArrayList" "elementData" "[Ljava/lang/Object;", Cond.methodLink RX10 125 yX9_canPlay]
def wsX10_given_r3 : List Cond := [Cond.instanceMethod yX9_canPlay, Cond.selects RX9 yX9_canPlay yX9_canPlay, Cond.initialized RX9, Cond.code yX9_canPlay cX9_canPlay 2 (some .boolean), Cond.fieldLink RX9 34 "UrnwrightModel$Urn" "growth" "I", Cond.fieldLink RX9 31 "UrnwrightModel$Urn" "counts" "[I", Cond.methodLink RX9 47 Lib.Math.min.name, Cond.static Lib.Math.min.name, Cond.initialized "java/lang/Math", Cond.code Lib.Math.min.name Lib.Math.min.code 2 (some .int), Cond.methodLink RX9 43 yX9_all, Cond.static yX9_all, Cond.code yX9_all cX9_all 1 (some .int), Cond.instanceMethod yX8_init, Cond.code yX8_init cX8_init 1 none, Cond.methodLink RX8 1 objectInit, Cond.instanceMethod objectInit, Cond.code objectInit ⟨#[0xb1]⟩ 1 none, Cond.fieldLink RX8 7 "UrnwrightModel$Sum" "up" "J", Cond.fieldLink RX8 13 "UrnwrightModel$Sum" "down" "J", Cond.methodLink RX10 131 yX9_game, Cond.instanceMethod yX9_game, Cond.selects RX9 yX9_game yX9_game, Cond.code yX9_game cX9_game 8 (some (.object "java/util/List"))]
def wsX10_given_r4 : List Cond := [Cond.classLink RX9 20 RJx4a65c, Cond.instantiable RJx4a65c 3, Cond.classLink RX9 54 RX7, Cond.instantiable RX7 11, Cond.initialized RX7, Cond.classLink RX9 54 "UrnwrightModel$Node", Cond.fieldLink RX9 73 "UrnwrightModel$Node" "draws" "I", Cond.fieldLink RX9 76 "UrnwrightModel$Node" "counts" "[I", Cond.fieldLink RX9 81 "UrnwrightModel$Node" "from" "I", Cond.fieldLink RX9 84 "UrnwrightModel$Node" "path" "I", Cond.fieldLink RX9 87 "UrnwrightModel$Node" "gains" "I", Cond.fieldLink RX9 16 "UrnwrightModel$Urn" "pays" "[I", Cond.fieldLink RX9 90 "UrnwrightModel$Node" "up" "J", Cond.fieldLink RX9 94 "UrnwrightModel$Node" "down" "J", Cond.fieldLink RX9 97 "UrnwrightModel$Node" "drawn" "[I", Cond.methodLink RX9 22 yJx4a65c_init_da8c8, Cond.instanceMethod yJx4a65c_init_da8c8, Cond.code yJx4a65c_init_da8c8 cJx4a65c_init_da8c8 1 none, Cond.fieldLink RJx4a65c 39 "java/util/ArrayList" "DEFAULTCAPACITY_EMPTY_ELEMENTDATA" "[Ljava/lang/Object;", Cond.methodLink RJx4a65c 1 yJxc12de_init_da8c8, Cond.instanceMethod yJxc12de_init_da8c8, Cond.initialized RJxc12de, Cond.code yJxc12de_init_da8c8 cJxc12de_init_da8c8 1 none, Cond.fieldLink RJxc12de 7 "java/util/AbstractList" "modCount" "I"]
def wsX10_given_r5 : List Cond := [Cond.methodLink RJxc12de 1 yJxa1e45_init_da8c8, Cond.instanceMethod yJxa1e45_init_da8c8, Cond.initialized RJxa1e45, Cond.code yJxa1e45_init_da8c8 cJxa1e45_init_da8c8 1 none, Cond.methodLink RJxa1e45 1 objectInit, Cond.methodLink RX9 56 yX7_init, Cond.instanceMethod yX7_init, Cond.code yX7_init cX7_init 2 none, Cond.methodLink RX7 3 objectInit, Cond.arrayClass .int, Cond.fieldLink RX7 9 "UrnwrightModel$Node" "drawn" "[I", Cond.fieldLink RX7 15 "UrnwrightModel$Node" "from" "I", Cond.fieldLink RX7 19 "UrnwrightModel$Node" "up" "J", Cond.fieldLink RX7 23 "UrnwrightModel$Node" "down" "J", Cond.classLink RX7 26 RX8, Cond.fieldLink RX7 29 "UrnwrightModel$Node" "worth" "LUrnwrightModel$Sum;", Cond.fieldLink RX7 33 "UrnwrightModel$Node" "next" "LUrnwrightModel$Sum;", Cond.fieldLink RX7 36 "UrnwrightModel$Node" "counts" "[I", Cond.methodLink RX9 59 ⟨"java/util/List", "add", "(Ljava/lang/Object;)Z"⟩, Cond.selects RJx4a65c ⟨"java/util/List", "add", "(Ljava/lang/Object;)Z"⟩ yJx4a65c_add_9ea2d, Cond.instanceMethod yJx4a65c_add_9ea2d, Cond.code yJx4a65c_add_9ea2d cJx4a65c_add_9ea2d 2 (some .boolean), Cond.fieldLink RJx4a65c 63 "java/util/ArrayList" "modCount" "I", Cond.sameField "java/util/ArrayList" "java/util/AbstractList" "modCount" "I"]
def wsX10_given_r6 : List Cond := [Cond.methodLink RJx4a65c 131 yJx4a65c_add_72be8, Cond.instanceMethod yJx4a65c_add_72be8, Cond.selects RJx4a65c yJx4a65c_add_72be8 yJx4a65c_add_72be8, Cond.code yJx4a65c_add_72be8 cJx4a65c_add_72be8 4 none, Cond.methodLink RJx4a65c 129 yJx4a65c_grow_d5877, Cond.instanceMethod yJx4a65c_grow_d5877, Cond.selects RJx4a65c yJx4a65c_grow_d5877 yJx4a65c_grow_d5877, Cond.code yJx4a65c_grow_d5877 cJx4a65c_grow_d5877 1 (some (.array (.object "java/lang/Object"))), Cond.methodLink RJx4a65c 69 yJx4a65c_grow_92f84, Cond.instanceMethod yJx4a65c_grow_92f84, Cond.selects RJx4a65c yJx4a65c_grow_92f84 yJx4a65c_grow_92f84, Cond.code yJx4a65c_grow_92f84 cJx4a65c_grow_92f84 4 (some (.array (.object "java/lang/Object"))), Cond.methodLink RJx4a65c 79 Lib.Math.max.name, Cond.static Lib.Math.max.name, Cond.code Lib.Math.max.name Lib.Math.max.code 2 (some .int), Cond.classLink RJx4a65c 7 "java/lang/Object", Cond.methodLink RJx4a65c 73 yJ8_newLength_cabcc, Cond.static yJ8_newLength_cabcc, Cond.initialized RJ8, Cond.code yJ8_newLength_cabcc cJ8_newLength_cabcc 4 (some .int), Cond.methodLink RJ8 194 Lib.Math.max.name, Cond.constant RJ8 200 (2147483639), Cond.methodLink RJ8 201 yJ8_hugeLength_7cf53, Cond.static yJ8_hugeLength_7cf53]
def wsX10_given_r7 : List Cond := [Cond.code yJ8_hugeLength_7cf53 cJ8_hugeLength_7cf53 3 (some .int), Cond.methodLink RJx4a65c 66 yJ7_copyOf_1904c, Cond.static yJ7_copyOf_1904c, Cond.initialized RJ7, Cond.code yJ7_copyOf_1904c cJ7_copyOf_1904c 2 (some (.array (.object "java/lang/Object"))), Cond.methodLink RJ7 86 ⟨"java/lang/Object", "getClass", "()Ljava/lang/Class;"⟩, Cond.selects "[Ljava/lang/Object;" ⟨"java/lang/Object", "getClass", "()Ljava/lang/Class;"⟩ ⟨"java/lang/Object", "getClass", "()Ljava/lang/Class;"⟩, Cond.instanceMethod ⟨"java/lang/Object", "getClass", "()Ljava/lang/Class;"⟩, Cond.native ⟨"java/lang/Object", "getClass", "()Ljava/lang/Class;"⟩, Cond.methodLink RJ7 300 yJ7_copyOf_6403c, Cond.static yJ7_copyOf_6403c, Cond.code yJ7_copyOf_6403c cJ7_copyOf_6403c 4 (some (.array (.object "java/lang/Object"))), Cond.classLink RJ7 110 "[Ljava/lang/Object;", Cond.classLink RJ7 2 "java/lang/Object", Cond.methodLink RJ7 304 Lib.Math.min.name, Cond.methodLink RJ7 150 arraycopyName, Cond.native arraycopyName, Cond.static arraycopyName, Cond.initialized "java/lang/System", Cond.methodLink RX9 65 ⟨"java/util/List", "size", "()I"⟩, Cond.methodLink RX9 69 ⟨"java/util/List", "get", "(I)Ljava/lang/Object;"⟩, Cond.methodLink RX9 77 yX9_behind, Cond.instanceMethod yX9_behind, Cond.selects RX9 yX9_behind yX9_behind]
def wsX10_given_r8 : List Cond := [Cond.code yX9_behind cX9_behind 5 (some (.array .int)), Cond.fieldLink RX9 11 "UrnwrightModel$Urn" "rules" "[[I", Cond.methodLink RX10 114 yX8_add, Cond.instanceMethod yX8_add, Cond.selects RX8 yX8_add yX8_add, Cond.code yX8_add cX8_add 15 (some (.object "UrnwrightModel$Sum")), Cond.methodLink RX8 22 Lib.MathLoose.abs_long.x, Cond.static Lib.MathLoose.abs_long.x, Cond.code Lib.MathLoose.abs_long.x Lib.MathLoose.abs_long.code 2 (some .long), Cond.static yX10_common, Cond.code yX10_common cX10_common 10 (some .long), Cond.methodLink RX10 121 yX8_times, Cond.instanceMethod yX8_times, Cond.selects RX8 yX8_times yX8_times, Cond.code yX8_times cX8_times 9 (some (.object "UrnwrightModel$Sum")), Cond.methodLink RX10 107 yX8_part, Cond.instanceMethod yX8_part, Cond.selects RX8 yX8_part yX8_part, Cond.code yX8_part cX8_part 2 (some .long)]
def wsX10_given : List Cond := .code yX10_given cX10_given 11 (some .long) :: ((wsX10_given_r1 ++ (wsX10_given_r2 ++ (wsX10_given_r3 ++ (wsX10_given_r4 ++ (wsX10_given_r5 ++ (wsX10_given_r6 ++ (wsX10_given_r7 ++ wsX10_given_r8))))))) ++ wsX100 ++ wsX80 ++ wsX70 ++ wsJx4a65c0 ++ wsX90)
def wsX10_stoppedNow_r1 : List Cond := [Cond.classLink RX10 108 RX8, Cond.instantiable RX8 2, Cond.initialized RX8, Cond.classLink RX10 135 "UrnwrightModel$Node", Cond.fieldLink RX10 173 "UrnwrightModel$Node" "from" "I", Cond.fieldLink RX10 176 "UrnwrightModel$Node" "isOver" "Z", Cond.fieldLink RX10 137 "UrnwrightModel$Node" "draws" "I", Cond.fieldLink RX10 139 "UrnwrightModel$Node" "gains" "I", Cond.fieldLink RX10 142 "UrnwrightModel$Node" "up" "J", Cond.fieldLink RX10 146 "UrnwrightModel$Node" "down" "J", Cond.instanceMethod yX8_init, Cond.code yX8_init cX8_init 1 none, Cond.methodLink RX8 1 objectInit, Cond.instanceMethod objectInit, Cond.code objectInit ⟨#[0xb1]⟩ 1 none, Cond.fieldLink RX8 7 "UrnwrightModel$Sum" "up" "J", Cond.fieldLink RX8 13 "UrnwrightModel$Sum" "down" "J", Cond.methodLink RX10 23 ⟨"java/util/List", "size", "()I"⟩, Cond.selects RJx4a65c ⟨"java/util/List", "size", "()I"⟩ yJx4a65c_size_8abf5, Cond.instanceMethod yJx4a65c_size_8abf5, Cond.initialized RJx4a65c, Cond.code yJx4a65c_size_8abf5 cJx4a65c_size_8abf5 1 (some .int), Cond.fieldLink RJx4a65c 48 "java/util/ArrayList" "size" "I", Cond.methodLink RX10 50 ⟨"java/util/List", "get", "(I)Ljava/lang/Object;"⟩]
def wsX10_stoppedNow_r2 : List Cond := [Cond.selects RJx4a65c ⟨"java/util/List", "get", "(I)Ljava/lang/Object;"⟩ yJx4a65c_get_915e3, Cond.instanceMethod yJx4a65c_get_915e3, Cond.code yJx4a65c_get_915e3 cJx4a65c_get_915e3 2 (some (.object "java/lang/Object")), Cond.methodLink RJx4a65c 118 yJ15_checkIndex_7cf53, Cond.static yJ15_checkIndex_7cf53, Cond.initialized RJ15, Cond.code yJ15_checkIndex_7cf53 cJ15_checkIndex_7cf53 2 (some .int), Cond.methodLink RJ15 105 yJ3_checkIndex_8e157, Cond.static yJ3_checkIndex_8e157, Cond.initialized RJ3, Cond.code yJ3_checkIndex_8e157 cJ3_checkIndex_8e157 3 (some .int), Cond.methodLink RJx4a65c 123 yJx4a65c_elementData_915e3, Cond.instanceMethod yJx4a65c_elementData_915e3, Cond.selects RJx4a65c yJx4a65c_elementData_915e3 yJx4a65c_elementData_915e3, Cond.code yJx4a65c_elementData_915e3 cJx4a65c_elementData_915e3 2 (some (.object "java/lang/Object")), Cond.fieldLink RJx4a65c 9 "java/util/ArrayList" "elementData" "[Ljava/lang/Object;", Cond.methodLink RX10 180 yX9_holds, Cond.instanceMethod yX9_holds, Cond.selects RX9 yX9_holds yX9_holds, Cond.initialized RX9, Cond.code yX9_holds cX9_holds 2 (some .boolean), Cond.fieldLink RX9 100 "UrnwrightModel$Urn" "kind" "I", Cond.fieldLink RX9 87 "UrnwrightModel$Node" "gains" "I", Cond.fieldLink RX9 27 "UrnwrightModel$Urn" "number" "I"]
def wsX10_stoppedNow_r3 : List Cond := [Cond.fieldLink RX9 97 "UrnwrightModel$Node" "drawn" "[I", Cond.methodLink RX9 37 Lib.Math.max.name, Cond.static Lib.Math.max.name, Cond.initialized "java/lang/Math", Cond.code Lib.Math.max.name Lib.Math.max.code 2 (some .int), Cond.methodLink RX10 114 yX8_add, Cond.instanceMethod yX8_add, Cond.selects RX8 yX8_add yX8_add, Cond.code yX8_add cX8_add 15 (some (.object "UrnwrightModel$Sum")), Cond.methodLink RX8 22 Lib.MathLoose.abs_long.x, Cond.static Lib.MathLoose.abs_long.x, Cond.code Lib.MathLoose.abs_long.x Lib.MathLoose.abs_long.code 2 (some .long), Cond.static yX10_common, Cond.initialized RX10, Cond.code yX10_common cX10_common 10 (some .long)]
def wsX10_stoppedNow : List Cond := .code yX10_stoppedNow cX10_stoppedNow 7 (some (.object "UrnwrightModel$Sum")) :: ((wsX10_stoppedNow_r1 ++ (wsX10_stoppedNow_r2 ++ wsX10_stoppedNow_r3)) ++ wsX80 ++ wsX70 ++ wsJx4a65c0 ++ wsX90)
def wsX10_stopped_r1 : List Cond := [Cond.fieldLink RX10 10 "UrnwrightModel" "urns" "Ljava/util/List;", Cond.classLink RX10 37 "UrnwrightModel$Urn", Cond.methodLink RX10 128 yX10_canPlay, Cond.instanceMethod yX10_canPlay, Cond.selects RX10 yX10_canPlay yX10_canPlay, Cond.initialized RX10, Cond.code yX10_canPlay cX10_canPlay 3 (some .boolean), Cond.fieldLink RX10 19 "UrnwrightModel" "thrown" "I", Cond.methodLink RX10 46 yX10_isUrn, Cond.instanceMethod yX10_isUrn, Cond.selects RX10 yX10_isUrn yX10_isUrn, Cond.code yX10_isUrn cX10_isUrn 2 (some .boolean), Cond.methodLink RX10 23 ⟨"java/util/List", "size", "()I"⟩, Cond.selects RJx4a65c ⟨"java/util/List", "size", "()I"⟩ yJx4a65c_size_8abf5, Cond.instanceMethod yJx4a65c_size_8abf5, Cond.initialized RJx4a65c, Cond.code yJx4a65c_size_8abf5 cJx4a65c_size_8abf5 1 (some .int), Cond.fieldLink RJx4a65c 48 "java/util/ArrayList" "size" "I", Cond.methodLink RX10 29 yX10_in, Cond.static yX10_in, Cond.code yX10_in cX10_in 3 (some .boolean), Cond.methodLink RX10 50 ⟨"java/util/List", "get", "(I)Ljava/lang/Object;"⟩, Cond.selects RJx4a65c ⟨"java/util/List", "get", "(I)Ljava/lang/Object;"⟩ yJx4a65c_get_915e3, Cond.instanceMethod yJx4a65c_get_915e3]
def wsX10_stopped_r2 : List Cond := [Cond.code yJx4a65c_get_915e3 cJx4a65c_get_915e3 2 (some (.object "java/lang/Object")), Cond.methodLink RJx4a65c 118 yJ15_checkIndex_7cf53, Cond.static yJ15_checkIndex_7cf53, Cond.initialized RJ15, Cond.code yJ15_checkIndex_7cf53 cJ15_checkIndex_7cf53 2 (some .int), Cond.methodLink RJ15 105 yJ3_checkIndex_8e157, Cond.static yJ3_checkIndex_8e157, Cond.initialized RJ3, Cond.code yJ3_checkIndex_8e157 cJ3_checkIndex_8e157 3 (some .int), Cond.methodLink RJx4a65c 123 yJx4a65c_elementData_915e3, Cond.instanceMethod yJx4a65c_elementData_915e3, Cond.selects RJx4a65c yJx4a65c_elementData_915e3 yJx4a65c_elementData_915e3, Cond.code yJx4a65c_elementData_915e3 cJx4a65c_elementData_915e3 2 (some (.object "java/lang/Object")), Cond.fieldLink RJx4a65c 9 "java/util/ArrayList" "elementData" "[Ljava/lang/Object;", Cond.methodLink RX10 125 yX9_canPlay, Cond.instanceMethod yX9_canPlay, Cond.selects RX9 yX9_canPlay yX9_canPlay, Cond.initialized RX9, Cond.code yX9_canPlay cX9_canPlay 2 (some .boolean), Cond.fieldLink RX9 34 "UrnwrightModel$Urn" "growth" "I", Cond.fieldLink RX9 31 "UrnwrightModel$Urn" "counts" "[I", Cond.methodLink RX9 47 Lib.Math.min.name, Cond.static Lib.Math.min.name, Cond.initialized "java/lang/Math"]
def wsX10_stopped_r3 : List Cond := [Cond.code Lib.Math.min.name Lib.Math.min.code 2 (some .int), Cond.methodLink RX9 43 yX9_all, Cond.static yX9_all, Cond.code yX9_all cX9_all 1 (some .int), Cond.methodLink RX10 131 yX9_game, Cond.instanceMethod yX9_game, Cond.selects RX9 yX9_game yX9_game, Cond.code yX9_game cX9_game 8 (some (.object "java/util/List")), Cond.classLink RX9 20 RJx4a65c, Cond.instantiable RJx4a65c 3, Cond.classLink RX9 54 RX7, Cond.instantiable RX7 11, Cond.initialized RX7, Cond.classLink RX9 54 "UrnwrightModel$Node", Cond.fieldLink RX9 73 "UrnwrightModel$Node" "draws" "I", Cond.fieldLink RX9 76 "UrnwrightModel$Node" "counts" "[I", Cond.fieldLink RX9 81 "UrnwrightModel$Node" "from" "I", Cond.fieldLink RX9 84 "UrnwrightModel$Node" "path" "I", Cond.fieldLink RX9 87 "UrnwrightModel$Node" "gains" "I", Cond.fieldLink RX9 16 "UrnwrightModel$Urn" "pays" "[I", Cond.fieldLink RX9 90 "UrnwrightModel$Node" "up" "J", Cond.fieldLink RX9 94 "UrnwrightModel$Node" "down" "J", Cond.fieldLink RX9 97 "UrnwrightModel$Node" "drawn" "[I", Cond.methodLink RX9 22 yJx4a65c_init_da8c8]
def wsX10_stopped_r4 : List Cond := [Cond.instanceMethod yJx4a65c_init_da8c8, Cond.code yJx4a65c_init_da8c8 cJx4a65c_init_da8c8 1 none, Cond.fieldLink RJx4a65c 39 "java/util/ArrayList" "DEFAULTCAPACITY_EMPTY_ELEMENTDATA" "[Ljava/lang/Object;", Cond.methodLink RJx4a65c 1 yJxc12de_init_da8c8, Cond.instanceMethod yJxc12de_init_da8c8, Cond.initialized RJxc12de, Cond.code yJxc12de_init_da8c8 cJxc12de_init_da8c8 1 none, Cond.fieldLink RJxc12de 7 "java/util/AbstractList" "modCount" "I", Cond.methodLink RJxc12de 1 yJxa1e45_init_da8c8, Cond.instanceMethod yJxa1e45_init_da8c8, Cond.initialized RJxa1e45, Cond.code yJxa1e45_init_da8c8 cJxa1e45_init_da8c8 1 none, Cond.methodLink RJxa1e45 1 objectInit, Cond.instanceMethod objectInit, Cond.code objectInit ⟨#[0xb1]⟩ 1 none, Cond.methodLink RX9 56 yX7_init, Cond.instanceMethod yX7_init, Cond.code yX7_init cX7_init 2 none, Cond.methodLink RX7 3 objectInit, Cond.arrayClass .int, Cond.fieldLink RX7 9 "UrnwrightModel$Node" "drawn" "[I", Cond.fieldLink RX7 15 "UrnwrightModel$Node" "from" "I", Cond.fieldLink RX7 19 "UrnwrightModel$Node" "up" "J", Cond.fieldLink RX7 23 "UrnwrightModel$Node" "down" "J"]
def wsX10_stopped_r5 : List Cond := [Cond.classLink RX7 26 RX8, Cond.instantiable RX8 2, Cond.initialized RX8, Cond.fieldLink RX7 29 "UrnwrightModel$Node" "worth" "LUrnwrightModel$Sum;", Cond.fieldLink RX7 33 "UrnwrightModel$Node" "next" "LUrnwrightModel$Sum;", Cond.fieldLink RX7 36 "UrnwrightModel$Node" "counts" "[I", Cond.instanceMethod yX8_init, Cond.code yX8_init cX8_init 1 none, Cond.methodLink RX8 1 objectInit, Cond.fieldLink RX8 7 "UrnwrightModel$Sum" "up" "J", Cond.fieldLink RX8 13 "UrnwrightModel$Sum" "down" "J", Cond.methodLink RX9 59 ⟨"java/util/List", "add", "(Ljava/lang/Object;)Z"⟩, Cond.selects RJx4a65c ⟨"java/util/List", "add", "(Ljava/lang/Object;)Z"⟩ yJx4a65c_add_9ea2d, Cond.instanceMethod yJx4a65c_add_9ea2d, Cond.code yJx4a65c_add_9ea2d cJx4a65c_add_9ea2d 2 (some .boolean), Cond.fieldLink RJx4a65c 63 "java/util/ArrayList" "modCount" "I", Cond.sameField "java/util/ArrayList" "java/util/AbstractList" "modCount" "I", Cond.methodLink RJx4a65c 131 yJx4a65c_add_72be8, Cond.instanceMethod yJx4a65c_add_72be8, Cond.selects RJx4a65c yJx4a65c_add_72be8 yJx4a65c_add_72be8, Cond.code yJx4a65c_add_72be8 cJx4a65c_add_72be8 4 none, Cond.methodLink RJx4a65c 129 yJx4a65c_grow_d5877, Cond.instanceMethod yJx4a65c_grow_d5877, Cond.selects RJx4a65c yJx4a65c_grow_d5877 yJx4a65c_grow_d5877]
def wsX10_stopped_r6 : List Cond := [Cond.code yJx4a65c_grow_d5877 cJx4a65c_grow_d5877 1 (some (.array (.object "java/lang/Object"))), Cond.methodLink RJx4a65c 69 yJx4a65c_grow_92f84, Cond.instanceMethod yJx4a65c_grow_92f84, Cond.selects RJx4a65c yJx4a65c_grow_92f84 yJx4a65c_grow_92f84, Cond.code yJx4a65c_grow_92f84 cJx4a65c_grow_92f84 4 (some (.array (.object "java/lang/Object"))), Cond.methodLink RJx4a65c 79 Lib.Math.max.name, Cond.static Lib.Math.max.name, Cond.code Lib.Math.max.name Lib.Math.max.code 2 (some .int), Cond.classLink RJx4a65c 7 "java/lang/Object", Cond.methodLink RJx4a65c 73 yJ8_newLength_cabcc, Cond.static yJ8_newLength_cabcc, Cond.initialized RJ8, Cond.code yJ8_newLength_cabcc cJ8_newLength_cabcc 4 (some .int), Cond.methodLink RJ8 194 Lib.Math.max.name, Cond.constant RJ8 200 (2147483639), Cond.methodLink RJ8 201 yJ8_hugeLength_7cf53, Cond.static yJ8_hugeLength_7cf53, Cond.code yJ8_hugeLength_7cf53 cJ8_hugeLength_7cf53 3 (some .int), Cond.methodLink RJx4a65c 66 yJ7_copyOf_1904c, Cond.static yJ7_copyOf_1904c, Cond.initialized RJ7, Cond.code yJ7_copyOf_1904c cJ7_copyOf_1904c 2 (some (.array (.object "java/lang/Object"))), Cond.methodLink RJ7 86 ⟨"java/lang/Object", "getClass", "()Ljava/lang/Class;"⟩, Cond.selects "[Ljava/lang/Object;" ⟨"java/lang/Object", "getClass", "()Ljava/lang/Class;"⟩ ⟨"java/lang/Object", "getClass", "()Ljava/lang/Class;"⟩]
def wsX10_stopped_r7 : List Cond := [Cond.instanceMethod ⟨"java/lang/Object", "getClass", "()Ljava/lang/Class;"⟩, Cond.native ⟨"java/lang/Object", "getClass", "()Ljava/lang/Class;"⟩, Cond.methodLink RJ7 300 yJ7_copyOf_6403c, Cond.static yJ7_copyOf_6403c, Cond.code yJ7_copyOf_6403c cJ7_copyOf_6403c 4 (some (.array (.object "java/lang/Object"))), Cond.classLink RJ7 110 "[Ljava/lang/Object;", Cond.classLink RJ7 2 "java/lang/Object", Cond.methodLink RJ7 304 Lib.Math.min.name, Cond.methodLink RJ7 150 arraycopyName, Cond.native arraycopyName, Cond.static arraycopyName, Cond.initialized "java/lang/System", Cond.methodLink RX9 65 ⟨"java/util/List", "size", "()I"⟩, Cond.methodLink RX9 69 ⟨"java/util/List", "get", "(I)Ljava/lang/Object;"⟩, Cond.methodLink RX9 77 yX9_behind, Cond.instanceMethod yX9_behind, Cond.selects RX9 yX9_behind yX9_behind, Cond.code yX9_behind cX9_behind 5 (some (.array .int)), Cond.fieldLink RX9 11 "UrnwrightModel$Urn" "rules" "[[I", Cond.methodLink RX10 184 yX10_stoppedNow, Cond.static yX10_stoppedNow, Cond.code yX10_stoppedNow cX10_stoppedNow 7 (some (.object "UrnwrightModel$Sum")), Cond.classLink RX10 108 RX8, Cond.classLink RX10 135 "UrnwrightModel$Node"]
def wsX10_stopped_r8 : List Cond := [Cond.fieldLink RX10 173 "UrnwrightModel$Node" "from" "I", Cond.fieldLink RX10 176 "UrnwrightModel$Node" "isOver" "Z", Cond.fieldLink RX10 137 "UrnwrightModel$Node" "draws" "I", Cond.fieldLink RX10 139 "UrnwrightModel$Node" "gains" "I", Cond.fieldLink RX10 142 "UrnwrightModel$Node" "up" "J", Cond.fieldLink RX10 146 "UrnwrightModel$Node" "down" "J", Cond.methodLink RX10 180 yX9_holds, Cond.instanceMethod yX9_holds, Cond.selects RX9 yX9_holds yX9_holds, Cond.code yX9_holds cX9_holds 2 (some .boolean), Cond.fieldLink RX9 100 "UrnwrightModel$Urn" "kind" "I", Cond.fieldLink RX9 27 "UrnwrightModel$Urn" "number" "I", Cond.methodLink RX9 37 Lib.Math.max.name, Cond.methodLink RX10 114 yX8_add, Cond.instanceMethod yX8_add, Cond.selects RX8 yX8_add yX8_add, Cond.code yX8_add cX8_add 15 (some (.object "UrnwrightModel$Sum")), Cond.methodLink RX8 22 Lib.MathLoose.abs_long.x, Cond.static Lib.MathLoose.abs_long.x, Cond.code Lib.MathLoose.abs_long.x Lib.MathLoose.abs_long.code 2 (some .long), Cond.static yX10_common, Cond.code yX10_common cX10_common 10 (some .long), Cond.methodLink RX10 107 yX8_part, Cond.instanceMethod yX8_part]
def wsX10_stopped_r9 : List Cond := [Cond.selects RX8 yX8_part yX8_part, Cond.code yX8_part cX8_part 2 (some .long)]
def wsX10_stopped : List Cond := .code yX10_stopped cX10_stopped 5 (some .long) :: ((wsX10_stopped_r1 ++ (wsX10_stopped_r2 ++ (wsX10_stopped_r3 ++ (wsX10_stopped_r4 ++ (wsX10_stopped_r5 ++ (wsX10_stopped_r6 ++ (wsX10_stopped_r7 ++ (wsX10_stopped_r8 ++ wsX10_stopped_r9)))))))) ++ wsX100 ++ wsJx4a65c0 ++ wsX90 ++ wsX70 ++ wsX80)
def wsX10_play_r1 : List Cond := [Cond.classLink RX10 135 "UrnwrightModel$Node", Cond.classLink RX10 108 RX8, Cond.instantiable RX8 2, Cond.initialized RX8, Cond.fieldLink RX10 139 "UrnwrightModel$Node" "gains" "I", Cond.methodLink RX10 188 Lib.Math.max.name, Cond.static Lib.Math.max.name, Cond.initialized "java/lang/Math", Cond.code Lib.Math.max.name Lib.Math.max.code 2 (some .int), Cond.fieldLink RX10 137 "UrnwrightModel$Node" "draws" "I", Cond.fieldLink RX10 194 "UrnwrightModel$Node" "next" "LUrnwrightModel$Sum;", Cond.fieldLink RX10 202 "UrnwrightModel$Node" "worth" "LUrnwrightModel$Sum;", Cond.fieldLink RX10 173 "UrnwrightModel$Node" "from" "I", Cond.fieldLink RX10 162 "UrnwrightModel$Node" "path" "I", Cond.fieldLink RX10 161 "UrnwrightModel$Node" "counts" "[I", Cond.methodLink RX10 23 ⟨"java/util/List", "size", "()I"⟩, Cond.selects RJx4a65c ⟨"java/util/List", "size", "()I"⟩ yJx4a65c_size_8abf5, Cond.instanceMethod yJx4a65c_size_8abf5, Cond.initialized RJx4a65c, Cond.code yJx4a65c_size_8abf5 cJx4a65c_size_8abf5 1 (some .int), Cond.fieldLink RJx4a65c 48 "java/util/ArrayList" "size" "I", Cond.methodLink RX10 50 ⟨"java/util/List", "get", "(I)Ljava/lang/Object;"⟩, Cond.selects RJx4a65c ⟨"java/util/List", "get", "(I)Ljava/lang/Object;"⟩ yJx4a65c_get_915e3, Cond.instanceMethod yJx4a65c_get_915e3]
def wsX10_play_r2 : List Cond := [Cond.code yJx4a65c_get_915e3 cJx4a65c_get_915e3 2 (some (.object "java/lang/Object")), Cond.methodLink RJx4a65c 118 yJ15_checkIndex_7cf53, Cond.static yJ15_checkIndex_7cf53, Cond.initialized RJ15, Cond.code yJ15_checkIndex_7cf53 cJ15_checkIndex_7cf53 2 (some .int), Cond.methodLink RJ15 105 yJ3_checkIndex_8e157, Cond.static yJ3_checkIndex_8e157, Cond.initialized RJ3, Cond.code yJ3_checkIndex_8e157 cJ3_checkIndex_8e157 3 (some .int), Cond.methodLink RJx4a65c 123 yJx4a65c_elementData_915e3, Cond.instanceMethod yJx4a65c_elementData_915e3, Cond.selects RJx4a65c yJx4a65c_elementData_915e3 yJx4a65c_elementData_915e3, Cond.code yJx4a65c_elementData_915e3 cJx4a65c_elementData_915e3 2 (some (.object "java/lang/Object")), Cond.fieldLink RJx4a65c 9 "java/util/ArrayList" "elementData" "[Ljava/lang/Object;", Cond.instanceMethod yX8_init, Cond.code yX8_init cX8_init 1 none, Cond.methodLink RX8 1 objectInit, Cond.instanceMethod objectInit, Cond.code objectInit ⟨#[0xb1]⟩ 1 none, Cond.fieldLink RX8 7 "UrnwrightModel$Sum" "up" "J", Cond.fieldLink RX8 13 "UrnwrightModel$Sum" "down" "J", Cond.methodLink RX10 114 yX8_add, Cond.instanceMethod yX8_add, Cond.selects RX8 yX8_add yX8_add]
def wsX10_play_r3 : List Cond := [Cond.code yX8_add cX8_add 15 (some (.object "UrnwrightModel$Sum")), Cond.methodLink RX8 22 Lib.MathLoose.abs_long.x, Cond.static Lib.MathLoose.abs_long.x, Cond.code Lib.MathLoose.abs_long.x Lib.MathLoose.abs_long.code 2 (some .long), Cond.static yX10_common, Cond.initialized RX10, Cond.code yX10_common cX10_common 10 (some .long), Cond.methodLink RX10 198 yX8_isBelow, Cond.instanceMethod yX8_isBelow, Cond.selects RX8 yX8_isBelow yX8_isBelow, Cond.code yX8_isBelow cX8_isBelow 2 (some .boolean), Cond.methodLink RX10 117 yX9_all, Cond.static yX9_all, Cond.initialized RX9, Cond.code yX9_all cX9_all 1 (some .int)]
def wsX10_play : List Cond := .code yX10_play cX10_play 10 (some .int) :: ((wsX10_play_r1 ++ (wsX10_play_r2 ++ wsX10_play_r3)) ++ wsX80 ++ wsX70 ++ wsJx4a65c0)
def wsX10_worthNow_r1 : List Cond := [Cond.classLink RX10 135 "UrnwrightModel$Node", Cond.fieldLink RX10 202 "UrnwrightModel$Node" "worth" "LUrnwrightModel$Sum;", Cond.methodLink RX10 205 yX10_play, Cond.static yX10_play, Cond.initialized RX10, Cond.code yX10_play cX10_play 10 (some .int), Cond.classLink RX10 108 RX8, Cond.instantiable RX8 2, Cond.initialized RX8, Cond.fieldLink RX10 139 "UrnwrightModel$Node" "gains" "I", Cond.methodLink RX10 188 Lib.Math.max.name, Cond.static Lib.Math.max.name, Cond.initialized "java/lang/Math", Cond.code Lib.Math.max.name Lib.Math.max.code 2 (some .int), Cond.fieldLink RX10 137 "UrnwrightModel$Node" "draws" "I", Cond.fieldLink RX10 194 "UrnwrightModel$Node" "next" "LUrnwrightModel$Sum;", Cond.fieldLink RX10 173 "UrnwrightModel$Node" "from" "I", Cond.fieldLink RX10 162 "UrnwrightModel$Node" "path" "I", Cond.fieldLink RX10 161 "UrnwrightModel$Node" "counts" "[I", Cond.methodLink RX10 23 ⟨"java/util/List", "size", "()I"⟩, Cond.selects RJx4a65c ⟨"java/util/List", "size", "()I"⟩ yJx4a65c_size_8abf5, Cond.instanceMethod yJx4a65c_size_8abf5, Cond.initialized RJx4a65c, Cond.code yJx4a65c_size_8abf5 cJx4a65c_size_8abf5 1 (some .int)]
def wsX10_worthNow_r2 : List Cond := [Cond.fieldLink RJx4a65c 48 "java/util/ArrayList" "size" "I", Cond.methodLink RX10 50 ⟨"java/util/List", "get", "(I)Ljava/lang/Object;"⟩, Cond.selects RJx4a65c ⟨"java/util/List", "get", "(I)Ljava/lang/Object;"⟩ yJx4a65c_get_915e3, Cond.instanceMethod yJx4a65c_get_915e3, Cond.code yJx4a65c_get_915e3 cJx4a65c_get_915e3 2 (some (.object "java/lang/Object")), Cond.methodLink RJx4a65c 118 yJ15_checkIndex_7cf53, Cond.static yJ15_checkIndex_7cf53, Cond.initialized RJ15, Cond.code yJ15_checkIndex_7cf53 cJ15_checkIndex_7cf53 2 (some .int), Cond.methodLink RJ15 105 yJ3_checkIndex_8e157, Cond.static yJ3_checkIndex_8e157, Cond.initialized RJ3, Cond.code yJ3_checkIndex_8e157 cJ3_checkIndex_8e157 3 (some .int), Cond.methodLink RJx4a65c 123 yJx4a65c_elementData_915e3, Cond.instanceMethod yJx4a65c_elementData_915e3, Cond.selects RJx4a65c yJx4a65c_elementData_915e3 yJx4a65c_elementData_915e3, Cond.code yJx4a65c_elementData_915e3 cJx4a65c_elementData_915e3 2 (some (.object "java/lang/Object")), Cond.fieldLink RJx4a65c 9 "java/util/ArrayList" "elementData" "[Ljava/lang/Object;", Cond.instanceMethod yX8_init, Cond.code yX8_init cX8_init 1 none, Cond.methodLink RX8 1 objectInit, Cond.instanceMethod objectInit, Cond.code objectInit ⟨#[0xb1]⟩ 1 none, Cond.fieldLink RX8 7 "UrnwrightModel$Sum" "up" "J"]
def wsX10_worthNow_r3 : List Cond := [Cond.fieldLink RX8 13 "UrnwrightModel$Sum" "down" "J", Cond.methodLink RX10 114 yX8_add, Cond.instanceMethod yX8_add, Cond.selects RX8 yX8_add yX8_add, Cond.code yX8_add cX8_add 15 (some (.object "UrnwrightModel$Sum")), Cond.methodLink RX8 22 Lib.MathLoose.abs_long.x, Cond.static Lib.MathLoose.abs_long.x, Cond.code Lib.MathLoose.abs_long.x Lib.MathLoose.abs_long.code 2 (some .long), Cond.static yX10_common, Cond.code yX10_common cX10_common 10 (some .long), Cond.methodLink RX10 198 yX8_isBelow, Cond.instanceMethod yX8_isBelow, Cond.selects RX8 yX8_isBelow yX8_isBelow, Cond.code yX8_isBelow cX8_isBelow 2 (some .boolean), Cond.methodLink RX10 117 yX9_all, Cond.static yX9_all, Cond.initialized RX9, Cond.code yX9_all cX9_all 1 (some .int)]
def wsX10_worthNow : List Cond := .code yX10_worthNow cX10_worthNow 3 (some (.object "UrnwrightModel$Sum")) :: ((wsX10_worthNow_r1 ++ (wsX10_worthNow_r2 ++ wsX10_worthNow_r3)) ++ wsX70 ++ wsX80 ++ wsJx4a65c0)
def wsX10_worth_r1 : List Cond := [Cond.fieldLink RX10 10 "UrnwrightModel" "urns" "Ljava/util/List;", Cond.classLink RX10 37 "UrnwrightModel$Urn", Cond.methodLink RX10 128 yX10_canPlay, Cond.instanceMethod yX10_canPlay, Cond.selects RX10 yX10_canPlay yX10_canPlay, Cond.initialized RX10, Cond.code yX10_canPlay cX10_canPlay 3 (some .boolean), Cond.fieldLink RX10 19 "UrnwrightModel" "thrown" "I", Cond.methodLink RX10 46 yX10_isUrn, Cond.instanceMethod yX10_isUrn, Cond.selects RX10 yX10_isUrn yX10_isUrn, Cond.code yX10_isUrn cX10_isUrn 2 (some .boolean), Cond.methodLink RX10 23 ⟨"java/util/List", "size", "()I"⟩, Cond.selects RJx4a65c ⟨"java/util/List", "size", "()I"⟩ yJx4a65c_size_8abf5, Cond.instanceMethod yJx4a65c_size_8abf5, Cond.initialized RJx4a65c, Cond.code yJx4a65c_size_8abf5 cJx4a65c_size_8abf5 1 (some .int), Cond.fieldLink RJx4a65c 48 "java/util/ArrayList" "size" "I", Cond.methodLink RX10 29 yX10_in, Cond.static yX10_in, Cond.code yX10_in cX10_in 3 (some .boolean), Cond.methodLink RX10 50 ⟨"java/util/List", "get", "(I)Ljava/lang/Object;"⟩, Cond.selects RJx4a65c ⟨"java/util/List", "get", "(I)Ljava/lang/Object;"⟩ yJx4a65c_get_915e3, Cond.instanceMethod yJx4a65c_get_915e3]
def wsX10_worth_r2 : List Cond := [Cond.code yJx4a65c_get_915e3 cJx4a65c_get_915e3 2 (some (.object "java/lang/Object")), Cond.methodLink RJx4a65c 118 yJ15_checkIndex_7cf53, Cond.static yJ15_checkIndex_7cf53, Cond.initialized RJ15, Cond.code yJ15_checkIndex_7cf53 cJ15_checkIndex_7cf53 2 (some .int), Cond.methodLink RJ15 105 yJ3_checkIndex_8e157, Cond.static yJ3_checkIndex_8e157, Cond.initialized RJ3, Cond.code yJ3_checkIndex_8e157 cJ3_checkIndex_8e157 3 (some .int), Cond.methodLink RJx4a65c 123 yJx4a65c_elementData_915e3, Cond.instanceMethod yJx4a65c_elementData_915e3, Cond.selects RJx4a65c yJx4a65c_elementData_915e3 yJx4a65c_elementData_915e3, Cond.code yJx4a65c_elementData_915e3 cJx4a65c_elementData_915e3 2 (some (.object "java/lang/Object")), Cond.fieldLink RJx4a65c 9 "java/util/ArrayList" "elementData" "[Ljava/lang/Object;", Cond.methodLink RX10 125 yX9_canPlay, Cond.instanceMethod yX9_canPlay, Cond.selects RX9 yX9_canPlay yX9_canPlay, Cond.initialized RX9, Cond.code yX9_canPlay cX9_canPlay 2 (some .boolean), Cond.fieldLink RX9 34 "UrnwrightModel$Urn" "growth" "I", Cond.fieldLink RX9 31 "UrnwrightModel$Urn" "counts" "[I", Cond.methodLink RX9 47 Lib.Math.min.name, Cond.static Lib.Math.min.name, Cond.initialized "java/lang/Math"]
def wsX10_worth_r3 : List Cond := [Cond.code Lib.Math.min.name Lib.Math.min.code 2 (some .int), Cond.methodLink RX9 43 yX9_all, Cond.static yX9_all, Cond.code yX9_all cX9_all 1 (some .int), Cond.methodLink RX10 33 yX10_no, Cond.instanceMethod yX10_no, Cond.selects RX10 yX10_no yX10_no, Cond.code yX10_no cX10_no 2 (some .int), Cond.methodLink RX10 131 yX9_game, Cond.instanceMethod yX9_game, Cond.selects RX9 yX9_game yX9_game, Cond.code yX9_game cX9_game 8 (some (.object "java/util/List")), Cond.classLink RX9 20 RJx4a65c, Cond.instantiable RJx4a65c 3, Cond.classLink RX9 54 RX7, Cond.instantiable RX7 11, Cond.initialized RX7, Cond.classLink RX9 54 "UrnwrightModel$Node", Cond.fieldLink RX9 73 "UrnwrightModel$Node" "draws" "I", Cond.fieldLink RX9 76 "UrnwrightModel$Node" "counts" "[I", Cond.fieldLink RX9 81 "UrnwrightModel$Node" "from" "I", Cond.fieldLink RX9 84 "UrnwrightModel$Node" "path" "I", Cond.fieldLink RX9 87 "UrnwrightModel$Node" "gains" "I", Cond.fieldLink RX9 16 "UrnwrightModel$Urn" "pays" "[I"]
def wsX10_worth_r4 : List Cond := [Cond.fieldLink RX9 90 "UrnwrightModel$Node" "up" "J", Cond.fieldLink RX9 94 "UrnwrightModel$Node" "down" "J", Cond.fieldLink RX9 97 "UrnwrightModel$Node" "drawn" "[I", Cond.methodLink RX9 22 yJx4a65c_init_da8c8, Cond.instanceMethod yJx4a65c_init_da8c8, Cond.code yJx4a65c_init_da8c8 cJx4a65c_init_da8c8 1 none, Cond.fieldLink RJx4a65c 39 "java/util/ArrayList" "DEFAULTCAPACITY_EMPTY_ELEMENTDATA" "[Ljava/lang/Object;", Cond.methodLink RJx4a65c 1 yJxc12de_init_da8c8, Cond.instanceMethod yJxc12de_init_da8c8, Cond.initialized RJxc12de, Cond.code yJxc12de_init_da8c8 cJxc12de_init_da8c8 1 none, Cond.fieldLink RJxc12de 7 "java/util/AbstractList" "modCount" "I", Cond.methodLink RJxc12de 1 yJxa1e45_init_da8c8, Cond.instanceMethod yJxa1e45_init_da8c8, Cond.initialized RJxa1e45, Cond.code yJxa1e45_init_da8c8 cJxa1e45_init_da8c8 1 none, Cond.methodLink RJxa1e45 1 objectInit, Cond.instanceMethod objectInit, Cond.code objectInit ⟨#[0xb1]⟩ 1 none, Cond.methodLink RX9 56 yX7_init, Cond.instanceMethod yX7_init, Cond.code yX7_init cX7_init 2 none, Cond.methodLink RX7 3 objectInit, Cond.arrayClass .int]
def wsX10_worth_r5 : List Cond := [Cond.fieldLink RX7 9 "UrnwrightModel$Node" "drawn" "[I", Cond.fieldLink RX7 15 "UrnwrightModel$Node" "from" "I", Cond.fieldLink RX7 19 "UrnwrightModel$Node" "up" "J", Cond.fieldLink RX7 23 "UrnwrightModel$Node" "down" "J", Cond.classLink RX7 26 RX8, Cond.instantiable RX8 2, Cond.initialized RX8, Cond.fieldLink RX7 29 "UrnwrightModel$Node" "worth" "LUrnwrightModel$Sum;", Cond.fieldLink RX7 33 "UrnwrightModel$Node" "next" "LUrnwrightModel$Sum;", Cond.fieldLink RX7 36 "UrnwrightModel$Node" "counts" "[I", Cond.instanceMethod yX8_init, Cond.code yX8_init cX8_init 1 none, Cond.methodLink RX8 1 objectInit, Cond.fieldLink RX8 7 "UrnwrightModel$Sum" "up" "J", Cond.fieldLink RX8 13 "UrnwrightModel$Sum" "down" "J", Cond.methodLink RX9 59 ⟨"java/util/List", "add", "(Ljava/lang/Object;)Z"⟩, Cond.selects RJx4a65c ⟨"java/util/List", "add", "(Ljava/lang/Object;)Z"⟩ yJx4a65c_add_9ea2d, Cond.instanceMethod yJx4a65c_add_9ea2d, Cond.code yJx4a65c_add_9ea2d cJx4a65c_add_9ea2d 2 (some .boolean), Cond.fieldLink RJx4a65c 63 "java/util/ArrayList" "modCount" "I", Cond.sameField "java/util/ArrayList" "java/util/AbstractList" "modCount" "I", Cond.methodLink RJx4a65c 131 yJx4a65c_add_72be8, Cond.instanceMethod yJx4a65c_add_72be8, Cond.selects RJx4a65c yJx4a65c_add_72be8 yJx4a65c_add_72be8]
def wsX10_worth_r6 : List Cond := [Cond.code yJx4a65c_add_72be8 cJx4a65c_add_72be8 4 none, Cond.methodLink RJx4a65c 129 yJx4a65c_grow_d5877, Cond.instanceMethod yJx4a65c_grow_d5877, Cond.selects RJx4a65c yJx4a65c_grow_d5877 yJx4a65c_grow_d5877, Cond.code yJx4a65c_grow_d5877 cJx4a65c_grow_d5877 1 (some (.array (.object "java/lang/Object"))), Cond.methodLink RJx4a65c 69 yJx4a65c_grow_92f84, Cond.instanceMethod yJx4a65c_grow_92f84, Cond.selects RJx4a65c yJx4a65c_grow_92f84 yJx4a65c_grow_92f84, Cond.code yJx4a65c_grow_92f84 cJx4a65c_grow_92f84 4 (some (.array (.object "java/lang/Object"))), Cond.methodLink RJx4a65c 79 Lib.Math.max.name, Cond.static Lib.Math.max.name, Cond.code Lib.Math.max.name Lib.Math.max.code 2 (some .int), Cond.classLink RJx4a65c 7 "java/lang/Object", Cond.methodLink RJx4a65c 73 yJ8_newLength_cabcc, Cond.static yJ8_newLength_cabcc, Cond.initialized RJ8, Cond.code yJ8_newLength_cabcc cJ8_newLength_cabcc 4 (some .int), Cond.methodLink RJ8 194 Lib.Math.max.name, Cond.constant RJ8 200 (2147483639), Cond.methodLink RJ8 201 yJ8_hugeLength_7cf53, Cond.static yJ8_hugeLength_7cf53, Cond.code yJ8_hugeLength_7cf53 cJ8_hugeLength_7cf53 3 (some .int), Cond.methodLink RJx4a65c 66 yJ7_copyOf_1904c, Cond.static yJ7_copyOf_1904c]
def wsX10_worth_r7 : List Cond := [Cond.initialized RJ7, Cond.code yJ7_copyOf_1904c cJ7_copyOf_1904c 2 (some (.array (.object "java/lang/Object"))), Cond.methodLink RJ7 86 ⟨"java/lang/Object", "getClass", "()Ljava/lang/Class;"⟩, Cond.selects "[Ljava/lang/Object;" ⟨"java/lang/Object", "getClass", "()Ljava/lang/Class;"⟩ ⟨"java/lang/Object", "getClass", "()Ljava/lang/Class;"⟩, Cond.instanceMethod ⟨"java/lang/Object", "getClass", "()Ljava/lang/Class;"⟩, Cond.native ⟨"java/lang/Object", "getClass", "()Ljava/lang/Class;"⟩, Cond.methodLink RJ7 300 yJ7_copyOf_6403c, Cond.static yJ7_copyOf_6403c, Cond.code yJ7_copyOf_6403c cJ7_copyOf_6403c 4 (some (.array (.object "java/lang/Object"))), Cond.classLink RJ7 110 "[Ljava/lang/Object;", Cond.classLink RJ7 2 "java/lang/Object", Cond.methodLink RJ7 304 Lib.Math.min.name, Cond.methodLink RJ7 150 arraycopyName, Cond.native arraycopyName, Cond.static arraycopyName, Cond.initialized "java/lang/System", Cond.methodLink RX9 65 ⟨"java/util/List", "size", "()I"⟩, Cond.methodLink RX9 69 ⟨"java/util/List", "get", "(I)Ljava/lang/Object;"⟩, Cond.methodLink RX9 77 yX9_behind, Cond.instanceMethod yX9_behind, Cond.selects RX9 yX9_behind yX9_behind, Cond.code yX9_behind cX9_behind 5 (some (.array .int)), Cond.fieldLink RX9 11 "UrnwrightModel$Urn" "rules" "[[I", Cond.methodLink RX10 209 yX10_worthNow]
def wsX10_worth_r8 : List Cond := [Cond.static yX10_worthNow, Cond.code yX10_worthNow cX10_worthNow 3 (some (.object "UrnwrightModel$Sum")), Cond.classLink RX10 135 "UrnwrightModel$Node", Cond.fieldLink RX10 202 "UrnwrightModel$Node" "worth" "LUrnwrightModel$Sum;", Cond.methodLink RX10 205 yX10_play, Cond.static yX10_play, Cond.code yX10_play cX10_play 10 (some .int), Cond.classLink RX10 108 RX8, Cond.fieldLink RX10 139 "UrnwrightModel$Node" "gains" "I", Cond.methodLink RX10 188 Lib.Math.max.name, Cond.fieldLink RX10 137 "UrnwrightModel$Node" "draws" "I", Cond.fieldLink RX10 194 "UrnwrightModel$Node" "next" "LUrnwrightModel$Sum;", Cond.fieldLink RX10 173 "UrnwrightModel$Node" "from" "I", Cond.fieldLink RX10 162 "UrnwrightModel$Node" "path" "I", Cond.fieldLink RX10 161 "UrnwrightModel$Node" "counts" "[I", Cond.methodLink RX10 114 yX8_add, Cond.instanceMethod yX8_add, Cond.selects RX8 yX8_add yX8_add, Cond.code yX8_add cX8_add 15 (some (.object "UrnwrightModel$Sum")), Cond.methodLink RX8 22 Lib.MathLoose.abs_long.x, Cond.static Lib.MathLoose.abs_long.x, Cond.code Lib.MathLoose.abs_long.x Lib.MathLoose.abs_long.code 2 (some .long), Cond.static yX10_common, Cond.code yX10_common cX10_common 10 (some .long)]
def wsX10_worth_r9 : List Cond := [Cond.methodLink RX10 198 yX8_isBelow, Cond.instanceMethod yX8_isBelow, Cond.selects RX8 yX8_isBelow yX8_isBelow, Cond.code yX8_isBelow cX8_isBelow 2 (some .boolean), Cond.methodLink RX10 117 yX9_all, Cond.methodLink RX10 107 yX8_part, Cond.instanceMethod yX8_part, Cond.selects RX8 yX8_part yX8_part, Cond.code yX8_part cX8_part 2 (some .long)]
def wsX10_worth : List Cond := .code yX10_worth cX10_worth 5 (some .long) :: ((wsX10_worth_r1 ++ (wsX10_worth_r2 ++ (wsX10_worth_r3 ++ (wsX10_worth_r4 ++ (wsX10_worth_r5 ++ (wsX10_worth_r6 ++ (wsX10_worth_r7 ++ (wsX10_worth_r8 ++ wsX10_worth_r9)))))))) ++ wsX100 ++ wsJx4a65c0 ++ wsX90 ++ wsX70 ++ wsX80)
def wsX10_slack_r1 : List Cond := [Cond.fieldLink RX10 10 "UrnwrightModel" "urns" "Ljava/util/List;", Cond.classLink RX10 37 "UrnwrightModel$Urn", Cond.classLink RX10 108 RX8, Cond.instantiable RX8 2, Cond.initialized RX8, Cond.classLink RX10 135 "UrnwrightModel$Node", Cond.fieldLink RX10 137 "UrnwrightModel$Node" "draws" "I", Cond.fieldLink RX10 139 "UrnwrightModel$Node" "gains" "I", Cond.methodLink RX10 212 Lib.Math.abs.name, Cond.static Lib.Math.abs.name, Cond.initialized "java/lang/Math", Cond.code Lib.Math.abs.name Lib.Math.abs.code 1 (some .int), Cond.constantLong RX10 153 (-1), Cond.fieldLink RX10 142 "UrnwrightModel$Node" "up" "J", Cond.fieldLink RX10 146 "UrnwrightModel$Node" "down" "J", Cond.methodLink RX10 128 yX10_canPlay, Cond.instanceMethod yX10_canPlay, Cond.selects RX10 yX10_canPlay yX10_canPlay, Cond.initialized RX10, Cond.code yX10_canPlay cX10_canPlay 3 (some .boolean), Cond.fieldLink RX10 19 "UrnwrightModel" "thrown" "I", Cond.methodLink RX10 46 yX10_isUrn, Cond.instanceMethod yX10_isUrn, Cond.selects RX10 yX10_isUrn yX10_isUrn]
def wsX10_slack_r2 : List Cond := [Cond.code yX10_isUrn cX10_isUrn 2 (some .boolean), Cond.methodLink RX10 23 ⟨"java/util/List", "size", "()I"⟩, Cond.selects RJx4a65c ⟨"java/util/List", "size", "()I"⟩ yJx4a65c_size_8abf5, Cond.instanceMethod yJx4a65c_size_8abf5, Cond.initialized RJx4a65c, Cond.code yJx4a65c_size_8abf5 cJx4a65c_size_8abf5 1 (some .int), Cond.fieldLink RJx4a65c 48 "java/util/ArrayList" "size" "I", Cond.methodLink RX10 29 yX10_in, Cond.static yX10_in, Cond.code yX10_in cX10_in 3 (some .boolean), Cond.methodLink RX10 50 ⟨"java/util/List", "get", "(I)Ljava/lang/Object;"⟩, Cond.selects RJx4a65c ⟨"java/util/List", "get", "(I)Ljava/lang/Object;"⟩ yJx4a65c_get_915e3, Cond.instanceMethod yJx4a65c_get_915e3, Cond.code yJx4a65c_get_915e3 cJx4a65c_get_915e3 2 (some (.object "java/lang/Object")), Cond.methodLink RJx4a65c 118 yJ15_checkIndex_7cf53, Cond.static yJ15_checkIndex_7cf53, Cond.initialized RJ15, Cond.code yJ15_checkIndex_7cf53 cJ15_checkIndex_7cf53 2 (some .int), Cond.methodLink RJ15 105 yJ3_checkIndex_8e157, Cond.static yJ3_checkIndex_8e157, Cond.initialized RJ3, Cond.code yJ3_checkIndex_8e157 cJ3_checkIndex_8e157 3 (some .int), Cond.methodLink RJx4a65c 123 yJx4a65c_elementData_915e3, Cond.instanceMethod yJx4a65c_elementData_915e3]
def wsX10_slack_r3 : List Cond := [Cond.selects RJx4a65c yJx4a65c_elementData_915e3 yJx4a65c_elementData_915e3, Cond.code yJx4a65c_elementData_915e3 cJx4a65c_elementData_915e3 2 (some (.object "java/lang/Object")), Cond.fieldLink RJx4a65c 9 "java/util/ArrayList" "elementData" "[Ljava/lang/Object;", Cond.methodLink RX10 125 yX9_canPlay, Cond.instanceMethod yX9_canPlay, Cond.selects RX9 yX9_canPlay yX9_canPlay, Cond.initialized RX9, Cond.code yX9_canPlay cX9_canPlay 2 (some .boolean), Cond.fieldLink RX9 34 "UrnwrightModel$Urn" "growth" "I", Cond.fieldLink RX9 31 "UrnwrightModel$Urn" "counts" "[I", Cond.methodLink RX9 47 Lib.Math.min.name, Cond.static Lib.Math.min.name, Cond.code Lib.Math.min.name Lib.Math.min.code 2 (some .int), Cond.methodLink RX9 43 yX9_all, Cond.static yX9_all, Cond.code yX9_all cX9_all 1 (some .int), Cond.methodLink RX10 33 yX10_no, Cond.instanceMethod yX10_no, Cond.selects RX10 yX10_no yX10_no, Cond.code yX10_no cX10_no 2 (some .int), Cond.methodLink RX10 131 yX9_game, Cond.instanceMethod yX9_game, Cond.selects RX9 yX9_game yX9_game, Cond.code yX9_game cX9_game 8 (some (.object "java/util/List"))]
def wsX10_slack_r4 : List Cond := [Cond.classLink RX9 20 RJx4a65c, Cond.instantiable RJx4a65c 3, Cond.classLink RX9 54 RX7, Cond.instantiable RX7 11, Cond.initialized RX7, Cond.classLink RX9 54 "UrnwrightModel$Node", Cond.fieldLink RX9 73 "UrnwrightModel$Node" "draws" "I", Cond.fieldLink RX9 76 "UrnwrightModel$Node" "counts" "[I", Cond.fieldLink RX9 81 "UrnwrightModel$Node" "from" "I", Cond.fieldLink RX9 84 "UrnwrightModel$Node" "path" "I", Cond.fieldLink RX9 87 "UrnwrightModel$Node" "gains" "I", Cond.fieldLink RX9 16 "UrnwrightModel$Urn" "pays" "[I", Cond.fieldLink RX9 90 "UrnwrightModel$Node" "up" "J", Cond.fieldLink RX9 94 "UrnwrightModel$Node" "down" "J", Cond.fieldLink RX9 97 "UrnwrightModel$Node" "drawn" "[I", Cond.methodLink RX9 22 yJx4a65c_init_da8c8, Cond.instanceMethod yJx4a65c_init_da8c8, Cond.code yJx4a65c_init_da8c8 cJx4a65c_init_da8c8 1 none, Cond.fieldLink RJx4a65c 39 "java/util/ArrayList" "DEFAULTCAPACITY_EMPTY_ELEMENTDATA" "[Ljava/lang/Object;", Cond.methodLink RJx4a65c 1 yJxc12de_init_da8c8, Cond.instanceMethod yJxc12de_init_da8c8, Cond.initialized RJxc12de, Cond.code yJxc12de_init_da8c8 cJxc12de_init_da8c8 1 none, Cond.fieldLink RJxc12de 7 "java/util/AbstractList" "modCount" "I"]
def wsX10_slack_r5 : List Cond := [Cond.methodLink RJxc12de 1 yJxa1e45_init_da8c8, Cond.instanceMethod yJxa1e45_init_da8c8, Cond.initialized RJxa1e45, Cond.code yJxa1e45_init_da8c8 cJxa1e45_init_da8c8 1 none, Cond.methodLink RJxa1e45 1 objectInit, Cond.instanceMethod objectInit, Cond.code objectInit ⟨#[0xb1]⟩ 1 none, Cond.methodLink RX9 56 yX7_init, Cond.instanceMethod yX7_init, Cond.code yX7_init cX7_init 2 none, Cond.methodLink RX7 3 objectInit, Cond.arrayClass .int, Cond.fieldLink RX7 9 "UrnwrightModel$Node" "drawn" "[I", Cond.fieldLink RX7 15 "UrnwrightModel$Node" "from" "I", Cond.fieldLink RX7 19 "UrnwrightModel$Node" "up" "J", Cond.fieldLink RX7 23 "UrnwrightModel$Node" "down" "J", Cond.classLink RX7 26 RX8, Cond.fieldLink RX7 29 "UrnwrightModel$Node" "worth" "LUrnwrightModel$Sum;", Cond.fieldLink RX7 33 "UrnwrightModel$Node" "next" "LUrnwrightModel$Sum;", Cond.fieldLink RX7 36 "UrnwrightModel$Node" "counts" "[I", Cond.instanceMethod yX8_init, Cond.code yX8_init cX8_init 1 none, Cond.methodLink RX8 1 objectInit, Cond.fieldLink RX8 7 "UrnwrightModel$Sum" "up" "J"]
def wsX10_slack_r6 : List Cond := [Cond.fieldLink RX8 13 "UrnwrightModel$Sum" "down" "J", Cond.methodLink RX9 59 ⟨"java/util/List", "add", "(Ljava/lang/Object;)Z"⟩, Cond.selects RJx4a65c ⟨"java/util/List", "add", "(Ljava/lang/Object;)Z"⟩ yJx4a65c_add_9ea2d, Cond.instanceMethod yJx4a65c_add_9ea2d, Cond.code yJx4a65c_add_9ea2d cJx4a65c_add_9ea2d 2 (some .boolean), Cond.fieldLink RJx4a65c 63 "java/util/ArrayList" "modCount" "I", Cond.sameField "java/util/ArrayList" "java/util/AbstractList" "modCount" "I", Cond.methodLink RJx4a65c 131 yJx4a65c_add_72be8, Cond.instanceMethod yJx4a65c_add_72be8, Cond.selects RJx4a65c yJx4a65c_add_72be8 yJx4a65c_add_72be8, Cond.code yJx4a65c_add_72be8 cJx4a65c_add_72be8 4 none, Cond.methodLink RJx4a65c 129 yJx4a65c_grow_d5877, Cond.instanceMethod yJx4a65c_grow_d5877, Cond.selects RJx4a65c yJx4a65c_grow_d5877 yJx4a65c_grow_d5877, Cond.code yJx4a65c_grow_d5877 cJx4a65c_grow_d5877 1 (some (.array (.object "java/lang/Object"))), Cond.methodLink RJx4a65c 69 yJx4a65c_grow_92f84, Cond.instanceMethod yJx4a65c_grow_92f84, Cond.selects RJx4a65c yJx4a65c_grow_92f84 yJx4a65c_grow_92f84, Cond.code yJx4a65c_grow_92f84 cJx4a65c_grow_92f84 4 (some (.array (.object "java/lang/Object"))), Cond.methodLink RJx4a65c 79 Lib.Math.max.name, Cond.static Lib.Math.max.name, Cond.code Lib.Math.max.name Lib.Math.max.code 2 (some .int), Cond.classLink RJx4a65c 7 "java/lang/Object", Cond.methodLink RJx4a65c 73 yJ8_newLength_cabcc]
def wsX10_slack_r7 : List Cond := [Cond.static yJ8_newLength_cabcc, Cond.initialized RJ8, Cond.code yJ8_newLength_cabcc cJ8_newLength_cabcc 4 (some .int), Cond.methodLink RJ8 194 Lib.Math.max.name, Cond.constant RJ8 200 (2147483639), Cond.methodLink RJ8 201 yJ8_hugeLength_7cf53, Cond.static yJ8_hugeLength_7cf53, Cond.code yJ8_hugeLength_7cf53 cJ8_hugeLength_7cf53 3 (some .int), Cond.methodLink RJx4a65c 66 yJ7_copyOf_1904c, Cond.static yJ7_copyOf_1904c, Cond.initialized RJ7, Cond.code yJ7_copyOf_1904c cJ7_copyOf_1904c 2 (some (.array (.object "java/lang/Object"))), Cond.methodLink RJ7 86 ⟨"java/lang/Object", "getClass", "()Ljava/lang/Class;"⟩, Cond.selects "[Ljava/lang/Object;" ⟨"java/lang/Object", "getClass", "()Ljava/lang/Class;"⟩ ⟨"java/lang/Object", "getClass", "()Ljava/lang/Class;"⟩, Cond.instanceMethod ⟨"java/lang/Object", "getClass", "()Ljava/lang/Class;"⟩, Cond.native ⟨"java/lang/Object", "getClass", "()Ljava/lang/Class;"⟩, Cond.methodLink RJ7 300 yJ7_copyOf_6403c, Cond.static yJ7_copyOf_6403c, Cond.code yJ7_copyOf_6403c cJ7_copyOf_6403c 4 (some (.array (.object "java/lang/Object"))), Cond.classLink RJ7 110 "[Ljava/lang/Object;", Cond.classLink RJ7 2 "java/lang/Object", Cond.methodLink RJ7 304 Lib.Math.min.name, Cond.methodLink RJ7 150 arraycopyName, Cond.native arraycopyName]
def wsX10_slack_r8 : List Cond := [Cond.static arraycopyName, Cond.initialized "java/lang/System", Cond.methodLink RX9 65 ⟨"java/util/List", "size", "()I"⟩, Cond.methodLink RX9 69 ⟨"java/util/List", "get", "(I)Ljava/lang/Object;"⟩, Cond.methodLink RX9 77 yX9_behind, Cond.instanceMethod yX9_behind, Cond.selects RX9 yX9_behind yX9_behind, Cond.code yX9_behind cX9_behind 5 (some (.array .int)), Cond.fieldLink RX9 11 "UrnwrightModel$Urn" "rules" "[[I", Cond.methodLink RX10 149 yX10_moment, Cond.static yX10_moment, Cond.code yX10_moment cX10_moment 6 (some (.object "UrnwrightModel$Sum")), Cond.methodLink RX10 114 yX8_add, Cond.instanceMethod yX8_add, Cond.selects RX8 yX8_add yX8_add, Cond.code yX8_add cX8_add 15 (some (.object "UrnwrightModel$Sum")), Cond.methodLink RX8 22 Lib.MathLoose.abs_long.x, Cond.static Lib.MathLoose.abs_long.x, Cond.code Lib.MathLoose.abs_long.x Lib.MathLoose.abs_long.code 2 (some .long), Cond.static yX10_common, Cond.code yX10_common cX10_common 10 (some .long), Cond.methodLink RX10 121 yX8_times, Cond.instanceMethod yX8_times, Cond.selects RX8 yX8_times yX8_times]
def wsX10_slack_r9 : List Cond := [Cond.code yX8_times cX8_times 9 (some (.object "UrnwrightModel$Sum")), Cond.methodLink RX10 107 yX8_part, Cond.instanceMethod yX8_part, Cond.selects RX8 yX8_part yX8_part, Cond.code yX8_part cX8_part 2 (some .long)]
def wsX10_slack : List Cond := .code yX10_slack cX10_slack 9 (some .long) :: ((wsX10_slack_r1 ++ (wsX10_slack_r2 ++ (wsX10_slack_r3 ++ (wsX10_slack_r4 ++ (wsX10_slack_r5 ++ (wsX10_slack_r6 ++ (wsX10_slack_r7 ++ (wsX10_slack_r8 ++ wsX10_slack_r9)))))))) ++ wsX100 ++ wsX80 ++ wsX70 ++ wsJx4a65c0 ++ wsX90)
def wsX10_power : List Cond := .code yX10_power cX10_power 3 (some .long) :: ([.methodLink RX10 215 yX10_power, .static yX10_power, .initialized RX10])
def wsX10_winning : List Cond := .code yX10_winning cX10_winning 11 (some (.object "UrnwrightModel$Sum")) :: ([.classLink RX10 108 RX8, .instantiable RX8 2, .initialized RX8, .methodLink RX10 215 yX10_power, .static yX10_power, .initialized RX10, .code yX10_power cX10_power 3 (some .long), .instanceMethod yX8_init, .code yX8_init cX8_init 1 none, .methodLink RX8 1 objectInit, .instanceMethod objectInit, .code objectInit ⟨#[0xb1]⟩ 1 none, .fieldLink RX8 7 "UrnwrightModel$Sum" "up" "J", .fieldLink RX8 13 "UrnwrightModel$Sum" "down" "J", .methodLink RX10 114 yX8_add, .instanceMethod yX8_add, .selects RX8 yX8_add yX8_add, .code yX8_add cX8_add 15 (some (.object "UrnwrightModel$Sum")), .methodLink RX8 22 Lib.MathLoose.abs_long.x, .static Lib.MathLoose.abs_long.x, .initialized "java/lang/Math", .code Lib.MathLoose.abs_long.x Lib.MathLoose.abs_long.code 2 (some .long), .static yX10_common, .code yX10_common cX10_common 10 (some .long)] ++ wsX80)
def wsX10_walk_r1 : List Cond := [Cond.fieldLink RX10 19 "UrnwrightModel" "thrown" "I", Cond.classLink RX10 108 RX8, Cond.instantiable RX8 2, Cond.initialized RX8, Cond.methodLink RX10 212 Lib.Math.abs.name, Cond.static Lib.Math.abs.name, Cond.initialized "java/lang/Math", Cond.code Lib.Math.abs.name Lib.Math.abs.code 1 (some .int), Cond.methodLink RX10 29 yX10_in, Cond.static yX10_in, Cond.initialized RX10, Cond.code yX10_in cX10_in 3 (some .boolean), Cond.methodLink RX10 33 yX10_no, Cond.instanceMethod yX10_no, Cond.selects RX10 yX10_no yX10_no, Cond.code yX10_no cX10_no 2 (some .int), Cond.methodLink RX10 219 yX10_winning, Cond.static yX10_winning, Cond.code yX10_winning cX10_winning 11 (some (.object "UrnwrightModel$Sum")), Cond.methodLink RX10 215 yX10_power, Cond.static yX10_power, Cond.code yX10_power cX10_power 3 (some .long), Cond.instanceMethod yX8_init, Cond.code yX8_init cX8_init 1 none]
def wsX10_walk_r2 : List Cond := [Cond.methodLink RX8 1 objectInit, Cond.instanceMethod objectInit, Cond.code objectInit ⟨#[0xb1]⟩ 1 none, Cond.fieldLink RX8 7 "UrnwrightModel$Sum" "up" "J", Cond.fieldLink RX8 13 "UrnwrightModel$Sum" "down" "J", Cond.methodLink RX10 114 yX8_add, Cond.instanceMethod yX8_add, Cond.selects RX8 yX8_add yX8_add, Cond.code yX8_add cX8_add 15 (some (.object "UrnwrightModel$Sum")), Cond.methodLink RX8 22 Lib.MathLoose.abs_long.x, Cond.static Lib.MathLoose.abs_long.x, Cond.code Lib.MathLoose.abs_long.x Lib.MathLoose.abs_long.code 2 (some .long), Cond.static yX10_common, Cond.code yX10_common cX10_common 10 (some .long), Cond.methodLink RX10 107 yX8_part, Cond.instanceMethod yX8_part, Cond.selects RX8 yX8_part yX8_part, Cond.code yX8_part cX8_part 2 (some .long), Cond.methodLink RX10 121 yX8_times, Cond.instanceMethod yX8_times, Cond.selects RX8 yX8_times yX8_times, Cond.code yX8_times cX8_times 9 (some (.object "UrnwrightModel$Sum"))]
def wsX10_walk : List Cond := .code yX10_walk cX10_walk 9 (some .long) :: ((wsX10_walk_r1 ++ wsX10_walk_r2) ++ wsX100 ++ wsX80)
def wsX10_all : List Cond := .code yX10_all cX10_all 1 (some .int) :: ([])
def wsX10_distanceNow_r1 : List Cond := [Cond.fieldLink RX10 16 "UrnwrightModel" "rows" "Ljava/util/List;", Cond.classLink RX10 99 "[I", Cond.methodLink RX10 212 Lib.Math.abs.name, Cond.static Lib.Math.abs.name, Cond.initialized "java/lang/Math", Cond.code Lib.Math.abs.name Lib.Math.abs.code 1 (some .int), Cond.classLink RX10 108 RX8, Cond.instantiable RX8 2, Cond.initialized RX8, Cond.constantLong RX10 224 (2), Cond.methodLink RX10 50 ⟨"java/util/List", "get", "(I)Ljava/lang/Object;"⟩, Cond.selects RJx4a65c ⟨"java/util/List", "get", "(I)Ljava/lang/Object;"⟩ yJx4a65c_get_915e3, Cond.instanceMethod yJx4a65c_get_915e3, Cond.initialized RJx4a65c, Cond.code yJx4a65c_get_915e3 cJx4a65c_get_915e3 2 (some (.object "java/lang/Object")), Cond.fieldLink RJx4a65c 48 "java/util/ArrayList" "size" "I", Cond.methodLink RJx4a65c 118 yJ15_checkIndex_7cf53, Cond.static yJ15_checkIndex_7cf53, Cond.initialized RJ15, Cond.code yJ15_checkIndex_7cf53 cJ15_checkIndex_7cf53 2 (some .int), Cond.methodLink RJ15 105 yJ3_checkIndex_8e157, Cond.static yJ3_checkIndex_8e157, Cond.initialized RJ3, Cond.code yJ3_checkIndex_8e157 cJ3_checkIndex_8e157 3 (some .int)]
def wsX10_distanceNow_r2 : List Cond := [Cond.methodLink RJx4a65c 123 yJx4a65c_elementData_915e3, Cond.instanceMethod yJx4a65c_elementData_915e3, Cond.selects RJx4a65c yJx4a65c_elementData_915e3 yJx4a65c_elementData_915e3, Cond.code yJx4a65c_elementData_915e3 cJx4a65c_elementData_915e3 2 (some (.object "java/lang/Object")), Cond.fieldLink RJx4a65c 9 "java/util/ArrayList" "elementData" "[Ljava/lang/Object;", Cond.methodLink RX10 223 yX10_all, Cond.static yX10_all, Cond.initialized RX10, Cond.code yX10_all cX10_all 1 (some .int), Cond.instanceMethod yX8_init, Cond.code yX8_init cX8_init 1 none, Cond.methodLink RX8 1 objectInit, Cond.instanceMethod objectInit, Cond.code objectInit ⟨#[0xb1]⟩ 1 none, Cond.fieldLink RX8 7 "UrnwrightModel$Sum" "up" "J", Cond.fieldLink RX8 13 "UrnwrightModel$Sum" "down" "J", Cond.methodLink RX10 114 yX8_add, Cond.instanceMethod yX8_add, Cond.selects RX8 yX8_add yX8_add, Cond.code yX8_add cX8_add 15 (some (.object "UrnwrightModel$Sum")), Cond.methodLink RX8 22 Lib.MathLoose.abs_long.x, Cond.static Lib.MathLoose.abs_long.x, Cond.code Lib.MathLoose.abs_long.x Lib.MathLoose.abs_long.code 2 (some .long), Cond.static yX10_common]
def wsX10_distanceNow_r3 : List Cond := [Cond.code yX10_common cX10_common 10 (some .long)]
def wsX10_distanceNow : List Cond := .code yX10_distanceNow cX10_distanceNow 7 (some (.object "UrnwrightModel$Sum")) :: ((wsX10_distanceNow_r1 ++ (wsX10_distanceNow_r2 ++ wsX10_distanceNow_r3)) ++ wsX100 ++ wsX80 ++ wsJx4a65c0)
def wsX10_distance_r1 : List Cond := [Cond.fieldLink RX10 19 "UrnwrightModel" "thrown" "I", Cond.methodLink RX10 226 yX10_isRow, Cond.instanceMethod yX10_isRow, Cond.selects RX10 yX10_isRow yX10_isRow, Cond.initialized RX10, Cond.code yX10_isRow cX10_isRow 2 (some .boolean), Cond.fieldLink RX10 16 "UrnwrightModel" "rows" "Ljava/util/List;", Cond.methodLink RX10 23 ⟨"java/util/List", "size", "()I"⟩, Cond.selects RJx4a65c ⟨"java/util/List", "size", "()I"⟩ yJx4a65c_size_8abf5, Cond.instanceMethod yJx4a65c_size_8abf5, Cond.initialized RJx4a65c, Cond.code yJx4a65c_size_8abf5 cJx4a65c_size_8abf5 1 (some .int), Cond.fieldLink RJx4a65c 48 "java/util/ArrayList" "size" "I", Cond.methodLink RX10 29 yX10_in, Cond.static yX10_in, Cond.code yX10_in cX10_in 3 (some .boolean), Cond.methodLink RX10 33 yX10_no, Cond.instanceMethod yX10_no, Cond.selects RX10 yX10_no yX10_no, Cond.code yX10_no cX10_no 2 (some .int), Cond.methodLink RX10 229 yX10_distanceNow, Cond.instanceMethod yX10_distanceNow, Cond.selects RX10 yX10_distanceNow yX10_distanceNow, Cond.code yX10_distanceNow cX10_distanceNow 7 (some (.object "UrnwrightModel$Sum"))]
def wsX10_distance_r2 : List Cond := [Cond.classLink RX10 99 "[I", Cond.methodLink RX10 212 Lib.Math.abs.name, Cond.static Lib.Math.abs.name, Cond.initialized "java/lang/Math", Cond.code Lib.Math.abs.name Lib.Math.abs.code 1 (some .int), Cond.classLink RX10 108 RX8, Cond.instantiable RX8 2, Cond.initialized RX8, Cond.constantLong RX10 224 (2), Cond.methodLink RX10 50 ⟨"java/util/List", "get", "(I)Ljava/lang/Object;"⟩, Cond.selects RJx4a65c ⟨"java/util/List", "get", "(I)Ljava/lang/Object;"⟩ yJx4a65c_get_915e3, Cond.instanceMethod yJx4a65c_get_915e3, Cond.code yJx4a65c_get_915e3 cJx4a65c_get_915e3 2 (some (.object "java/lang/Object")), Cond.methodLink RJx4a65c 118 yJ15_checkIndex_7cf53, Cond.static yJ15_checkIndex_7cf53, Cond.initialized RJ15, Cond.code yJ15_checkIndex_7cf53 cJ15_checkIndex_7cf53 2 (some .int), Cond.methodLink RJ15 105 yJ3_checkIndex_8e157, Cond.static yJ3_checkIndex_8e157, Cond.initialized RJ3, Cond.code yJ3_checkIndex_8e157 cJ3_checkIndex_8e157 3 (some .int), Cond.methodLink RJx4a65c 123 yJx4a65c_elementData_915e3, Cond.instanceMethod yJx4a65c_elementData_915e3, Cond.selects RJx4a65c yJx4a65c_elementData_915e3 yJx4a65c_elementData_915e3]
def wsX10_distance_r3 : List Cond := [Cond.code yJx4a65c_elementData_915e3 cJx4a65c_elementData_915e3 2 (some (.object "java/lang/Object")), Cond.fieldLink RJx4a65c 9 "java/util/ArrayList" "elementData" "[Ljava/lang/Object;", Cond.methodLink RX10 223 yX10_all, Cond.static yX10_all, Cond.code yX10_all cX10_all 1 (some .int), Cond.instanceMethod yX8_init, Cond.code yX8_init cX8_init 1 none, Cond.methodLink RX8 1 objectInit, Cond.instanceMethod objectInit, Cond.code objectInit ⟨#[0xb1]⟩ 1 none, Cond.fieldLink RX8 7 "UrnwrightModel$Sum" "up" "J", Cond.fieldLink RX8 13 "UrnwrightModel$Sum" "down" "J", Cond.methodLink RX10 114 yX8_add, Cond.instanceMethod yX8_add, Cond.selects RX8 yX8_add yX8_add, Cond.code yX8_add cX8_add 15 (some (.object "UrnwrightModel$Sum")), Cond.methodLink RX8 22 Lib.MathLoose.abs_long.x, Cond.static Lib.MathLoose.abs_long.x, Cond.code Lib.MathLoose.abs_long.x Lib.MathLoose.abs_long.code 2 (some .long), Cond.static yX10_common, Cond.code yX10_common cX10_common 10 (some .long), Cond.methodLink RX10 107 yX8_part, Cond.instanceMethod yX8_part, Cond.selects RX8 yX8_part yX8_part]
def wsX10_distance_r4 : List Cond := [Cond.code yX8_part cX8_part 2 (some .long)]
def wsX10_distance : List Cond := .code yX10_distance cX10_distance 4 (some .long) :: ((wsX10_distance_r1 ++ (wsX10_distance_r2 ++ (wsX10_distance_r3 ++ wsX10_distance_r4))) ++ wsX100 ++ wsJx4a65c0 ++ wsX80)
def wsX10_table_r1 : List Cond := [Cond.fieldLink RX10 19 "UrnwrightModel" "thrown" "I", Cond.arrayClass .int, Cond.fieldLink RX10 16 "UrnwrightModel" "rows" "Ljava/util/List;", Cond.classLink RX10 99 "[I", Cond.methodLink RX10 233 Lib.Math.min.name, Cond.static Lib.Math.min.name, Cond.initialized "java/lang/Math", Cond.code Lib.Math.min.name Lib.Math.min.code 2 (some .int), Cond.methodLink RX10 226 yX10_isRow, Cond.instanceMethod yX10_isRow, Cond.selects RX10 yX10_isRow yX10_isRow, Cond.initialized RX10, Cond.code yX10_isRow cX10_isRow 2 (some .boolean), Cond.methodLink RX10 23 ⟨"java/util/List", "size", "()I"⟩, Cond.selects RJx4a65c ⟨"java/util/List", "size", "()I"⟩ yJx4a65c_size_8abf5, Cond.instanceMethod yJx4a65c_size_8abf5, Cond.initialized RJx4a65c, Cond.code yJx4a65c_size_8abf5 cJx4a65c_size_8abf5 1 (some .int), Cond.fieldLink RJx4a65c 48 "java/util/ArrayList" "size" "I", Cond.methodLink RX10 29 yX10_in, Cond.static yX10_in, Cond.code yX10_in cX10_in 3 (some .boolean), Cond.methodLink RX10 33 yX10_no, Cond.instanceMethod yX10_no]
def wsX10_table_r2 : List Cond := [Cond.selects RX10 yX10_no yX10_no, Cond.code yX10_no cX10_no 2 (some .int), Cond.methodLink RX10 50 ⟨"java/util/List", "get", "(I)Ljava/lang/Object;"⟩, Cond.selects RJx4a65c ⟨"java/util/List", "get", "(I)Ljava/lang/Object;"⟩ yJx4a65c_get_915e3, Cond.instanceMethod yJx4a65c_get_915e3, Cond.code yJx4a65c_get_915e3 cJx4a65c_get_915e3 2 (some (.object "java/lang/Object")), Cond.methodLink RJx4a65c 118 yJ15_checkIndex_7cf53, Cond.static yJ15_checkIndex_7cf53, Cond.initialized RJ15, Cond.code yJ15_checkIndex_7cf53 cJ15_checkIndex_7cf53 2 (some .int), Cond.methodLink RJ15 105 yJ3_checkIndex_8e157, Cond.static yJ3_checkIndex_8e157, Cond.initialized RJ3, Cond.code yJ3_checkIndex_8e157 cJ3_checkIndex_8e157 3 (some .int), Cond.methodLink RJx4a65c 123 yJx4a65c_elementData_915e3, Cond.instanceMethod yJx4a65c_elementData_915e3, Cond.selects RJx4a65c yJx4a65c_elementData_915e3 yJx4a65c_elementData_915e3, Cond.code yJx4a65c_elementData_915e3 cJx4a65c_elementData_915e3 2 (some (.object "java/lang/Object")), Cond.fieldLink RJx4a65c 9 "java/util/ArrayList" "elementData" "[Ljava/lang/Object;", Cond.methodLink RX10 223 yX10_all, Cond.static yX10_all, Cond.code yX10_all cX10_all 1 (some .int)]
def wsX10_table : List Cond := .code yX10_table cX10_table 12 (some .int) :: ((wsX10_table_r1 ++ wsX10_table_r2) ++ wsX100 ++ wsJx4a65c0)
def wsX10_isAbove_r1 : List Cond := [Cond.fieldLink RX10 19 "UrnwrightModel" "thrown" "I", Cond.fieldLink RX10 16 "UrnwrightModel" "rows" "Ljava/util/List;", Cond.classLink RX10 99 "[I", Cond.methodLink RX10 226 yX10_isRow, Cond.instanceMethod yX10_isRow, Cond.selects RX10 yX10_isRow yX10_isRow, Cond.initialized RX10, Cond.code yX10_isRow cX10_isRow 2 (some .boolean), Cond.methodLink RX10 23 ⟨"java/util/List", "size", "()I"⟩, Cond.selects RJx4a65c ⟨"java/util/List", "size", "()I"⟩ yJx4a65c_size_8abf5, Cond.instanceMethod yJx4a65c_size_8abf5, Cond.initialized RJx4a65c, Cond.code yJx4a65c_size_8abf5 cJx4a65c_size_8abf5 1 (some .int), Cond.fieldLink RJx4a65c 48 "java/util/ArrayList" "size" "I", Cond.methodLink RX10 29 yX10_in, Cond.static yX10_in, Cond.code yX10_in cX10_in 3 (some .boolean), Cond.methodLink RX10 33 yX10_no, Cond.instanceMethod yX10_no, Cond.selects RX10 yX10_no yX10_no, Cond.code yX10_no cX10_no 2 (some .int), Cond.methodLink RX10 50 ⟨"java/util/List", "get", "(I)Ljava/lang/Object;"⟩, Cond.selects RJx4a65c ⟨"java/util/List", "get", "(I)Ljava/lang/Object;"⟩ yJx4a65c_get_915e3, Cond.instanceMethod yJx4a65c_get_915e3]
def wsX10_isAbove_r2 : List Cond := [Cond.code yJx4a65c_get_915e3 cJx4a65c_get_915e3 2 (some (.object "java/lang/Object")), Cond.methodLink RJx4a65c 118 yJ15_checkIndex_7cf53, Cond.static yJ15_checkIndex_7cf53, Cond.initialized RJ15, Cond.code yJ15_checkIndex_7cf53 cJ15_checkIndex_7cf53 2 (some .int), Cond.methodLink RJ15 105 yJ3_checkIndex_8e157, Cond.static yJ3_checkIndex_8e157, Cond.initialized RJ3, Cond.code yJ3_checkIndex_8e157 cJ3_checkIndex_8e157 3 (some .int), Cond.methodLink RJx4a65c 123 yJx4a65c_elementData_915e3, Cond.instanceMethod yJx4a65c_elementData_915e3, Cond.selects RJx4a65c yJx4a65c_elementData_915e3 yJx4a65c_elementData_915e3, Cond.code yJx4a65c_elementData_915e3 cJx4a65c_elementData_915e3 2 (some (.object "java/lang/Object")), Cond.fieldLink RJx4a65c 9 "java/util/ArrayList" "elementData" "[Ljava/lang/Object;", Cond.methodLink RX10 223 yX10_all, Cond.static yX10_all, Cond.code yX10_all cX10_all 1 (some .int)]
def wsX10_isAbove : List Cond := .code yX10_isAbove cX10_isAbove 7 (some .boolean) :: ((wsX10_isAbove_r1 ++ wsX10_isAbove_r2) ++ wsX100 ++ wsJx4a65c0)
def wsX10_shuffled : List Cond := .code yX10_shuffled cX10_shuffled 10 (some (.array .long)) :: ([.arrayClass .long])
def wsX10_far_r1 : List Cond := [Cond.fieldLink RX10 19 "UrnwrightModel" "thrown" "I", Cond.arrayClass .long, Cond.methodLink RX10 240 Lib.MathLoose.max_long.x, Cond.static Lib.MathLoose.max_long.x, Cond.initialized "java/lang/Math", Cond.code Lib.MathLoose.max_long.x Lib.MathLoose.max_long.code 4 (some .long), Cond.classLink RX10 108 RX8, Cond.instantiable RX8 2, Cond.initialized RX8, Cond.methodLink RX10 29 yX10_in, Cond.static yX10_in, Cond.initialized RX10, Cond.code yX10_in cX10_in 3 (some .boolean), Cond.methodLink RX10 33 yX10_no, Cond.instanceMethod yX10_no, Cond.selects RX10 yX10_no yX10_no, Cond.code yX10_no cX10_no 2 (some .int), Cond.methodLink RX10 236 yX10_shuffled, Cond.static yX10_shuffled, Cond.code yX10_shuffled cX10_shuffled 10 (some (.array .long)), Cond.instanceMethod yX8_init, Cond.code yX8_init cX8_init 1 none, Cond.methodLink RX8 1 objectInit, Cond.instanceMethod objectInit]
def wsX10_far_r2 : List Cond := [Cond.code objectInit ⟨#[0xb1]⟩ 1 none, Cond.fieldLink RX8 7 "UrnwrightModel$Sum" "up" "J", Cond.fieldLink RX8 13 "UrnwrightModel$Sum" "down" "J", Cond.methodLink RX10 114 yX8_add, Cond.instanceMethod yX8_add, Cond.selects RX8 yX8_add yX8_add, Cond.code yX8_add cX8_add 15 (some (.object "UrnwrightModel$Sum")), Cond.methodLink RX8 22 Lib.MathLoose.abs_long.x, Cond.static Lib.MathLoose.abs_long.x, Cond.code Lib.MathLoose.abs_long.x Lib.MathLoose.abs_long.code 2 (some .long), Cond.static yX10_common, Cond.code yX10_common cX10_common 10 (some .long), Cond.methodLink RX10 107 yX8_part, Cond.instanceMethod yX8_part, Cond.selects RX8 yX8_part yX8_part, Cond.code yX8_part cX8_part 2 (some .long)]
def wsX10_far : List Cond := .code yX10_far cX10_far 18 (some .long) :: ((wsX10_far_r1 ++ wsX10_far_r2) ++ wsX100 ++ wsX80)
def wsX10_urnNow : List Cond := .code yX10_urnNow cX10_urnNow 3 (some .int) :: ([.arrayClass .int, .fieldLink RX10 77 "UrnwrightModel$Urn" "counts" "[I", .fieldLink RX10 54 "UrnwrightModel$Urn" "growth" "I", .fieldLink RX10 90 "UrnwrightModel$Urn" "gain" "I", .fieldLink RX10 87 "UrnwrightModel$Urn" "path" "I", .fieldLink RX10 71 "UrnwrightModel$Urn" "kind" "I", .fieldLink RX10 67 "UrnwrightModel$Urn" "pays" "[I"] ++ wsX90)
def wsX10_ofUrn_r1 : List Cond := [Cond.fieldLink RX10 19 "UrnwrightModel" "thrown" "I", Cond.fieldLink RX10 10 "UrnwrightModel" "urns" "Ljava/util/List;", Cond.classLink RX10 37 "UrnwrightModel$Urn", Cond.methodLink RX10 46 yX10_isUrn, Cond.instanceMethod yX10_isUrn, Cond.selects RX10 yX10_isUrn yX10_isUrn, Cond.initialized RX10, Cond.code yX10_isUrn cX10_isUrn 2 (some .boolean), Cond.methodLink RX10 23 ⟨"java/util/List", "size", "()I"⟩, Cond.selects RJx4a65c ⟨"java/util/List", "size", "()I"⟩ yJx4a65c_size_8abf5, Cond.instanceMethod yJx4a65c_size_8abf5, Cond.initialized RJx4a65c, Cond.code yJx4a65c_size_8abf5 cJx4a65c_size_8abf5 1 (some .int), Cond.fieldLink RJx4a65c 48 "java/util/ArrayList" "size" "I", Cond.methodLink RX10 29 yX10_in, Cond.static yX10_in, Cond.code yX10_in cX10_in 3 (some .boolean), Cond.methodLink RX10 33 yX10_no, Cond.instanceMethod yX10_no, Cond.selects RX10 yX10_no yX10_no, Cond.code yX10_no cX10_no 2 (some .int), Cond.methodLink RX10 50 ⟨"java/util/List", "get", "(I)Ljava/lang/Object;"⟩, Cond.selects RJx4a65c ⟨"java/util/List", "get", "(I)Ljava/lang/Object;"⟩ yJx4a65c_get_915e3, Cond.instanceMethod yJx4a65c_get_915e3]
def wsX10_ofUrn_r2 : List Cond := [Cond.code yJx4a65c_get_915e3 cJx4a65c_get_915e3 2 (some (.object "java/lang/Object")), Cond.methodLink RJx4a65c 118 yJ15_checkIndex_7cf53, Cond.static yJ15_checkIndex_7cf53, Cond.initialized RJ15, Cond.code yJ15_checkIndex_7cf53 cJ15_checkIndex_7cf53 2 (some .int), Cond.methodLink RJ15 105 yJ3_checkIndex_8e157, Cond.static yJ3_checkIndex_8e157, Cond.initialized RJ3, Cond.code yJ3_checkIndex_8e157 cJ3_checkIndex_8e157 3 (some .int), Cond.methodLink RJx4a65c 123 yJx4a65c_elementData_915e3, Cond.instanceMethod yJx4a65c_elementData_915e3, Cond.selects RJx4a65c yJx4a65c_elementData_915e3 yJx4a65c_elementData_915e3, Cond.code yJx4a65c_elementData_915e3 cJx4a65c_elementData_915e3 2 (some (.object "java/lang/Object")), Cond.fieldLink RJx4a65c 9 "java/util/ArrayList" "elementData" "[Ljava/lang/Object;", Cond.methodLink RX10 243 yX10_urnNow, Cond.static yX10_urnNow, Cond.code yX10_urnNow cX10_urnNow 3 (some .int), Cond.arrayClass .int, Cond.fieldLink RX10 77 "UrnwrightModel$Urn" "counts" "[I", Cond.fieldLink RX10 54 "UrnwrightModel$Urn" "growth" "I", Cond.fieldLink RX10 90 "UrnwrightModel$Urn" "gain" "I", Cond.fieldLink RX10 87 "UrnwrightModel$Urn" "path" "I", Cond.fieldLink RX10 71 "UrnwrightModel$Urn" "kind" "I", Cond.fieldLink RX10 67 "UrnwrightModel$Urn" "pays" "[I"]
def wsX10_ofUrn : List Cond := .code yX10_ofUrn cX10_ofUrn 3 (some .int) :: ((wsX10_ofUrn_r1 ++ wsX10_ofUrn_r2) ++ wsX100 ++ wsJx4a65c0 ++ wsX90)
def wsJ2_putCharsAt_cd4e5 : List Cond := .code yJ2_putCharsAt_cd4e5 cJ2_putCharsAt_cd4e5 7 (some .int) :: ([.fieldLink RJ2 44 "java/lang/StringUTF16" "$assertionsDisabled" "Z", .methodLink RJ2 96 yJ2_checkBoundsBeginEnd_d044e, .static yJ2_checkBoundsBeginEnd_d044e, .initialized RJ2, .code yJ2_checkBoundsBeginEnd_d044e cJ2_checkBoundsBeginEnd_d044e 3 none, .methodLink RJ2 48 yJ2_length_9d52b, .static yJ2_length_9d52b, .code yJ2_length_9d52b cJ2_length_9d52b 1 (some .int), .methodLink RJ2 241 yJ0_checkBoundsBeginEnd_23922, .static yJ0_checkBoundsBeginEnd_23922, .initialized RJ0, .code yJ0_checkBoundsBeginEnd_23922 cJ0_checkBoundsBeginEnd_23922 3 none, .fieldLink RJ0 1053 "jdk/internal/util/Preconditions" "SIOOBE_FORMATTER" "Ljava/util/function/BiFunction;", .methodLink RJ0 1062 yJ3_checkFromToIndex_8c36e, .static yJ3_checkFromToIndex_8c36e, .initialized RJ3, .code yJ3_checkFromToIndex_8c36e cJ3_checkFromToIndex_8c36e 4 (some .int), .methodLink RJ2 111 yJ2_putChar_b72d1, .static yJ2_putChar_b72d1, .code yJ2_putChar_b72d1 cJ2_putChar_b72d1 3 none, .fieldLink RJ2 59 "java/lang/StringUTF16" "HI_BYTE_SHIFT" "I", .fieldLink RJ2 63 "java/lang/StringUTF16" "LO_BYTE_SHIFT" "I"])
def wsJ5_appendNull_278bc_r1 : List Cond := [Cond.fieldLink RJ5 79 "java/lang/AbstractStringBuilder" "count" "I", Cond.fieldLink RJ5 15 "java/lang/AbstractStringBuilder" "value" "[B", Cond.methodLink RJ5 100 ⟨"java/lang/AbstractStringBuilder", "ensureCapacityInternal", "(I)V"⟩, Cond.sameMethod "java/lang/AbstractStringBuilder" "java/lang/AbstractStringBuilder" "ensureCapacityInternal" "(I)V", Cond.selects RJ4 ⟨"java/lang/AbstractStringBuilder", "ensureCapacityInternal", "(I)V"⟩ yJ5_ensureCapacityInternal_d00df, Cond.instanceMethod yJ5_ensureCapacityInternal_d00df, Cond.initialized RJ5, Cond.code yJ5_ensureCapacityInternal_d00df cJ5_ensureCapacityInternal_d00df 3 none, Cond.fieldLink RJ5 22 "java/lang/AbstractStringBuilder" "coder" "B", Cond.methodLink RJ5 104 ⟨"java/lang/AbstractStringBuilder", "newCapacity", "(I)I"⟩, Cond.sameMethod "java/lang/AbstractStringBuilder" "java/lang/AbstractStringBuilder" "newCapacity" "(I)I", Cond.selects RJ4 ⟨"java/lang/AbstractStringBuilder", "newCapacity", "(I)I"⟩ yJ5_newCapacity_0f7a4, Cond.instanceMethod yJ5_newCapacity_0f7a4, Cond.code yJ5_newCapacity_0f7a4 cJ5_newCapacity_0f7a4 6 (some .int), Cond.constant RJ5 39 (2147483647), Cond.methodLink RJ5 114 yJ8_newLength_cabcc, Cond.static yJ8_newLength_cabcc, Cond.initialized RJ8, Cond.code yJ8_newLength_cabcc cJ8_newLength_cabcc 4 (some .int), Cond.methodLink RJ8 194 Lib.Math.max.name, Cond.static Lib.Math.max.name, Cond.initialized "java/lang/Math", Cond.code Lib.Math.max.name Lib.Math.max.code 2 (some .int), Cond.constant RJ8 200 (2147483639)]
def wsJ5_appendNull_278bc_r2 : List Cond := [Cond.methodLink RJ8 201 yJ8_hugeLength_7cf53, Cond.static yJ8_hugeLength_7cf53, Cond.code yJ8_hugeLength_7cf53 cJ8_hugeLength_7cf53 3 (some .int), Cond.methodLink RJ5 108 yJ7_copyOf_9075b, Cond.static yJ7_copyOf_9075b, Cond.initialized RJ7, Cond.code yJ7_copyOf_9075b cJ7_copyOf_9075b 3 (some (.array .byte)), Cond.methodLink RJ7 310 ⟨"[B", "clone", "()Ljava/lang/Object;"⟩, Cond.sameMethod "[B" "java/lang/Object" "clone" "()Ljava/lang/Object;", Cond.native ⟨"java/lang/Object", "clone", "()Ljava/lang/Object;"⟩, Cond.instanceMethod ⟨"java/lang/Object", "clone", "()Ljava/lang/Object;"⟩, Cond.selects "[B" ⟨"[B", "clone", "()Ljava/lang/Object;"⟩ ⟨"java/lang/Object", "clone", "()Ljava/lang/Object;"⟩, Cond.classLink RJ7 311 "[B", Cond.arrayClass .byte, Cond.methodLink RJ7 304 Lib.Math.min.name, Cond.static Lib.Math.min.name, Cond.code Lib.Math.min.name Lib.Math.min.code 2 (some .int), Cond.methodLink RJ7 150 arraycopyName, Cond.native arraycopyName, Cond.static arraycopyName, Cond.initialized "java/lang/System", Cond.methodLink RJ5 83 ⟨"java/lang/AbstractStringBuilder", "isLatin1", "()Z"⟩, Cond.sameMethod "java/lang/AbstractStringBuilder" "java/lang/AbstractStringBuilder" "isLatin1" "()Z", Cond.selects RJ4 ⟨"java/lang/AbstractStringBuilder", "isLatin1", "()Z"⟩ yJ5_isLatin1_aae02]
def wsJ5_appendNull_278bc_r3 : List Cond := [Cond.instanceMethod yJ5_isLatin1_aae02, Cond.code yJ5_isLatin1_aae02 cJ5_isLatin1_aae02 1 (some .boolean), Cond.fieldLink RJ5 18 "java/lang/String" "COMPACT_STRINGS" "Z", Cond.methodLink RJ5 226 yJ2_putCharsAt_cd4e5, Cond.static yJ2_putCharsAt_cd4e5, Cond.initialized RJ2, Cond.code yJ2_putCharsAt_cd4e5 cJ2_putCharsAt_cd4e5 7 (some .int), Cond.fieldLink RJ2 44 "java/lang/StringUTF16" "$assertionsDisabled" "Z", Cond.methodLink RJ2 96 yJ2_checkBoundsBeginEnd_d044e, Cond.static yJ2_checkBoundsBeginEnd_d044e, Cond.code yJ2_checkBoundsBeginEnd_d044e cJ2_checkBoundsBeginEnd_d044e 3 none, Cond.methodLink RJ2 48 yJ2_length_9d52b, Cond.static yJ2_length_9d52b, Cond.code yJ2_length_9d52b cJ2_length_9d52b 1 (some .int), Cond.methodLink RJ2 241 yJ0_checkBoundsBeginEnd_23922, Cond.static yJ0_checkBoundsBeginEnd_23922, Cond.initialized RJ0, Cond.code yJ0_checkBoundsBeginEnd_23922 cJ0_checkBoundsBeginEnd_23922 3 none, Cond.fieldLink RJ0 1053 "jdk/internal/util/Preconditions" "SIOOBE_FORMATTER" "Ljava/util/function/BiFunction;", Cond.methodLink RJ0 1062 yJ3_checkFromToIndex_8c36e, Cond.static yJ3_checkFromToIndex_8c36e, Cond.initialized RJ3, Cond.code yJ3_checkFromToIndex_8c36e cJ3_checkFromToIndex_8c36e 4 (some .int), Cond.methodLink RJ2 111 yJ2_putChar_b72d1]
def wsJ5_appendNull_278bc_r4 : List Cond := [Cond.static yJ2_putChar_b72d1, Cond.code yJ2_putChar_b72d1 cJ2_putChar_b72d1 3 none, Cond.fieldLink RJ2 59 "java/lang/StringUTF16" "HI_BYTE_SHIFT" "I", Cond.fieldLink RJ2 63 "java/lang/StringUTF16" "LO_BYTE_SHIFT" "I"]
def wsJ5_appendNull_278bc : List Cond := .code yJ5_appendNull_278bc cJ5_appendNull_278bc 3 (some (.object "java/lang/AbstractStringBuilder")) :: ((wsJ5_appendNull_278bc_r1 ++ (wsJ5_appendNull_278bc_r2 ++ (wsJ5_appendNull_278bc_r3 ++ wsJ5_appendNull_278bc_r4))) ++ wsJ40)
def wsJ0_coder_7d493 : List Cond := .code yJ0_coder_7d493 cJ0_coder_7d493 1 (some .byte) :: ([.fieldLink RJ0 38 "java/lang/String" "COMPACT_STRINGS" "Z", .fieldLink RJ0 15 "java/lang/String" "coder" "B"] ++ wsJ00)
def wsJ0_length_8abf5 : List Cond := .code yJ0_length_8abf5 cJ0_length_8abf5 1 (some .int) :: ([.fieldLink RJ0 9 "java/lang/String" "value" "[B", .methodLink RJ0 335 yJ0_coder_7d493, .instanceMethod yJ0_coder_7d493, .selects RJ0 yJ0_coder_7d493 yJ0_coder_7d493, .initialized RJ0, .code yJ0_coder_7d493 cJ0_coder_7d493 1 (some .byte), .fieldLink RJ0 38 "java/lang/String" "COMPACT_STRINGS" "Z", .fieldLink RJ0 15 "java/lang/String" "coder" "B"] ++ wsJ00)
def wsJ5_inflateIfNeededFor_a7421_r1 : List Cond := [Cond.fieldLink RJ5 18 "java/lang/String" "COMPACT_STRINGS" "Z", Cond.fieldLink RJ5 22 "java/lang/AbstractStringBuilder" "coder" "B", Cond.methodLink RJ5 40 yJ0_coder_7d493, Cond.instanceMethod yJ0_coder_7d493, Cond.selects RJ0 yJ0_coder_7d493 yJ0_coder_7d493, Cond.initialized RJ0, Cond.code yJ0_coder_7d493 cJ0_coder_7d493 1 (some .byte), Cond.fieldLink RJ0 38 "java/lang/String" "COMPACT_STRINGS" "Z", Cond.fieldLink RJ0 15 "java/lang/String" "coder" "B", Cond.methodLink RJ5 195 ⟨"java/lang/AbstractStringBuilder", "inflate", "()V"⟩, Cond.sameMethod "java/lang/AbstractStringBuilder" "java/lang/AbstractStringBuilder" "inflate" "()V", Cond.selects RJ4 ⟨"java/lang/AbstractStringBuilder", "inflate", "()V"⟩ yJ5_inflate_da8c8, Cond.instanceMethod yJ5_inflate_da8c8, Cond.initialized RJ5, Cond.code yJ5_inflate_da8c8 cJ5_inflate_da8c8 2 none, Cond.fieldLink RJ5 15 "java/lang/AbstractStringBuilder" "value" "[B", Cond.fieldLink RJ5 79 "java/lang/AbstractStringBuilder" "count" "I", Cond.methodLink RJ5 83 ⟨"java/lang/AbstractStringBuilder", "isLatin1", "()Z"⟩, Cond.sameMethod "java/lang/AbstractStringBuilder" "java/lang/AbstractStringBuilder" "isLatin1" "()Z", Cond.selects RJ4 ⟨"java/lang/AbstractStringBuilder", "isLatin1", "()Z"⟩ yJ5_isLatin1_aae02, Cond.instanceMethod yJ5_isLatin1_aae02, Cond.code yJ5_isLatin1_aae02 cJ5_isLatin1_aae02 1 (some .boolean), Cond.methodLink RJ5 26 yJ2_newBytesFor_77867, Cond.static yJ2_newBytesFor_77867]
def wsJ5_inflateIfNeededFor_a7421_r2 : List Cond := [Cond.initialized RJ2, Cond.code yJ2_newBytesFor_77867 cJ2_newBytesFor_77867 1 (some (.array .byte)), Cond.arrayClass .byte, Cond.methodLink RJ2 11 yJ2_newBytesLength_0f7a4, Cond.static yJ2_newBytesLength_0f7a4, Cond.code yJ2_newBytesLength_0f7a4 cJ2_newBytesLength_0f7a4 1 (some .int), Cond.constant RJ2 20 (1073741823), Cond.methodLink RJ5 125 yJ1_inflate_0e8fd, Cond.static yJ1_inflate_0e8fd, Cond.initialized RJ1, Cond.code yJ1_inflate_0e8fd cJ1_inflate_0e8fd 5 none, Cond.methodLink RJ1 240 yJ2_inflate_0e8fd, Cond.static yJ2_inflate_0e8fd, Cond.code yJ2_inflate_0e8fd cJ2_inflate_0e8fd 6 none, Cond.methodLink RJ2 173 yJ2_checkBoundsOffCount_d044e, Cond.static yJ2_checkBoundsOffCount_d044e, Cond.code yJ2_checkBoundsOffCount_d044e cJ2_checkBoundsOffCount_d044e 3 none, Cond.methodLink RJ2 48 yJ2_length_9d52b, Cond.static yJ2_length_9d52b, Cond.code yJ2_length_9d52b cJ2_length_9d52b 1 (some .int), Cond.methodLink RJ2 419 yJ0_checkBoundsOffCount_cabcc, Cond.static yJ0_checkBoundsOffCount_cabcc, Cond.code yJ0_checkBoundsOffCount_cabcc cJ0_checkBoundsOffCount_cabcc 3 (some .int), Cond.fieldLink RJ0 1053 "jdk/internal/util/Preconditions" "SIOOBE_FORMATTER" "Ljava/util/function/BiFunction;"]
def wsJ5_inflateIfNeededFor_a7421_r3 : List Cond := [Cond.methodLink RJ0 1065 yJ3_checkFromIndexSize_8c36e, Cond.static yJ3_checkFromIndexSize_8c36e, Cond.initialized RJ3, Cond.code yJ3_checkFromIndexSize_8c36e cJ3_checkFromIndexSize_8c36e 4 (some .int), Cond.methodLink RJ2 111 yJ2_putChar_b72d1, Cond.static yJ2_putChar_b72d1, Cond.code yJ2_putChar_b72d1 cJ2_putChar_b72d1 3 none, Cond.fieldLink RJ2 44 "java/lang/StringUTF16" "$assertionsDisabled" "Z", Cond.fieldLink RJ2 59 "java/lang/StringUTF16" "HI_BYTE_SHIFT" "I", Cond.fieldLink RJ2 63 "java/lang/StringUTF16" "LO_BYTE_SHIFT" "I"]
def wsJ5_inflateIfNeededFor_a7421 : List Cond := .code yJ5_inflateIfNeededFor_a7421 cJ5_inflateIfNeededFor_a7421 2 none :: ((wsJ5_inflateIfNeededFor_a7421_r1 ++ (wsJ5_inflateIfNeededFor_a7421_r2 ++ wsJ5_inflateIfNeededFor_a7421_r3)) ++ wsJ40 ++ wsJ00)
def wsJ0_getBytes_840e7_r1 : List Cond := [Cond.fieldLink RJ0 9 "java/lang/String" "value" "[B", Cond.methodLink RJ0 212 arraycopyName, Cond.native arraycopyName, Cond.static arraycopyName, Cond.initialized "java/lang/System", Cond.methodLink RJ0 335 yJ0_coder_7d493, Cond.instanceMethod yJ0_coder_7d493, Cond.selects RJ0 yJ0_coder_7d493 yJ0_coder_7d493, Cond.initialized RJ0, Cond.code yJ0_coder_7d493 cJ0_coder_7d493 1 (some .byte), Cond.fieldLink RJ0 38 "java/lang/String" "COMPACT_STRINGS" "Z", Cond.fieldLink RJ0 15 "java/lang/String" "coder" "B", Cond.methodLink RJ0 106 yJ1_inflate_0e8fd, Cond.static yJ1_inflate_0e8fd, Cond.initialized RJ1, Cond.code yJ1_inflate_0e8fd cJ1_inflate_0e8fd 5 none, Cond.methodLink RJ1 240 yJ2_inflate_0e8fd, Cond.static yJ2_inflate_0e8fd, Cond.initialized RJ2, Cond.code yJ2_inflate_0e8fd cJ2_inflate_0e8fd 6 none, Cond.methodLink RJ2 173 yJ2_checkBoundsOffCount_d044e, Cond.static yJ2_checkBoundsOffCount_d044e, Cond.code yJ2_checkBoundsOffCount_d044e cJ2_checkBoundsOffCount_d044e 3 none, Cond.methodLink RJ2 48 yJ2_length_9d52b]
def wsJ0_getBytes_840e7_r2 : List Cond := [Cond.static yJ2_length_9d52b, Cond.code yJ2_length_9d52b cJ2_length_9d52b 1 (some .int), Cond.methodLink RJ2 419 yJ0_checkBoundsOffCount_cabcc, Cond.static yJ0_checkBoundsOffCount_cabcc, Cond.code yJ0_checkBoundsOffCount_cabcc cJ0_checkBoundsOffCount_cabcc 3 (some .int), Cond.fieldLink RJ0 1053 "jdk/internal/util/Preconditions" "SIOOBE_FORMATTER" "Ljava/util/function/BiFunction;", Cond.methodLink RJ0 1065 yJ3_checkFromIndexSize_8c36e, Cond.static yJ3_checkFromIndexSize_8c36e, Cond.initialized RJ3, Cond.code yJ3_checkFromIndexSize_8c36e cJ3_checkFromIndexSize_8c36e 4 (some .int), Cond.methodLink RJ2 111 yJ2_putChar_b72d1, Cond.static yJ2_putChar_b72d1, Cond.code yJ2_putChar_b72d1 cJ2_putChar_b72d1 3 none, Cond.fieldLink RJ2 44 "java/lang/StringUTF16" "$assertionsDisabled" "Z", Cond.fieldLink RJ2 59 "java/lang/StringUTF16" "HI_BYTE_SHIFT" "I", Cond.fieldLink RJ2 63 "java/lang/StringUTF16" "LO_BYTE_SHIFT" "I"]
def wsJ0_getBytes_840e7 : List Cond := .code yJ0_getBytes_840e7 cJ0_getBytes_840e7 4 none :: ((wsJ0_getBytes_840e7_r1 ++ wsJ0_getBytes_840e7_r2) ++ wsJ00)
def wsJ5_putStringAt_47b60_r1 : List Cond := [Cond.fieldLink RJ5 15 "java/lang/AbstractStringBuilder" "value" "[B", Cond.fieldLink RJ5 22 "java/lang/AbstractStringBuilder" "coder" "B", Cond.methodLink RJ5 397 ⟨"java/lang/AbstractStringBuilder", "inflateIfNeededFor", "(Ljava/lang/String;)V"⟩, Cond.sameMethod "java/lang/AbstractStringBuilder" "java/lang/AbstractStringBuilder" "inflateIfNeededFor" "(Ljava/lang/String;)V", Cond.selects RJ4 ⟨"java/lang/AbstractStringBuilder", "inflateIfNeededFor", "(Ljava/lang/String;)V"⟩ yJ5_inflateIfNeededFor_a7421, Cond.instanceMethod yJ5_inflateIfNeededFor_a7421, Cond.initialized RJ5, Cond.code yJ5_inflateIfNeededFor_a7421 cJ5_inflateIfNeededFor_a7421 2 none, Cond.fieldLink RJ5 18 "java/lang/String" "COMPACT_STRINGS" "Z", Cond.methodLink RJ5 40 yJ0_coder_7d493, Cond.instanceMethod yJ0_coder_7d493, Cond.selects RJ0 yJ0_coder_7d493 yJ0_coder_7d493, Cond.initialized RJ0, Cond.code yJ0_coder_7d493 cJ0_coder_7d493 1 (some .byte), Cond.fieldLink RJ0 38 "java/lang/String" "COMPACT_STRINGS" "Z", Cond.fieldLink RJ0 15 "java/lang/String" "coder" "B", Cond.methodLink RJ5 195 ⟨"java/lang/AbstractStringBuilder", "inflate", "()V"⟩, Cond.sameMethod "java/lang/AbstractStringBuilder" "java/lang/AbstractStringBuilder" "inflate" "()V", Cond.selects RJ4 ⟨"java/lang/AbstractStringBuilder", "inflate", "()V"⟩ yJ5_inflate_da8c8, Cond.instanceMethod yJ5_inflate_da8c8, Cond.code yJ5_inflate_da8c8 cJ5_inflate_da8c8 2 none, Cond.fieldLink RJ5 79 "java/lang/AbstractStringBuilder" "count" "I", Cond.methodLink RJ5 83 ⟨"java/lang/AbstractStringBuilder", "isLatin1", "()Z"⟩, Cond.sameMethod "java/lang/AbstractStringBuilder" "java/lang/AbstractStringBuilder" "isLatin1" "()Z"]
def wsJ5_putStringAt_47b60_r2 : List Cond := [Cond.selects RJ4 ⟨"java/lang/AbstractStringBuilder", "isLatin1", "()Z"⟩ yJ5_isLatin1_aae02, Cond.instanceMethod yJ5_isLatin1_aae02, Cond.code yJ5_isLatin1_aae02 cJ5_isLatin1_aae02 1 (some .boolean), Cond.methodLink RJ5 26 yJ2_newBytesFor_77867, Cond.static yJ2_newBytesFor_77867, Cond.initialized RJ2, Cond.code yJ2_newBytesFor_77867 cJ2_newBytesFor_77867 1 (some (.array .byte)), Cond.arrayClass .byte, Cond.methodLink RJ2 11 yJ2_newBytesLength_0f7a4, Cond.static yJ2_newBytesLength_0f7a4, Cond.code yJ2_newBytesLength_0f7a4 cJ2_newBytesLength_0f7a4 1 (some .int), Cond.constant RJ2 20 (1073741823), Cond.methodLink RJ5 125 yJ1_inflate_0e8fd, Cond.static yJ1_inflate_0e8fd, Cond.initialized RJ1, Cond.code yJ1_inflate_0e8fd cJ1_inflate_0e8fd 5 none, Cond.methodLink RJ1 240 yJ2_inflate_0e8fd, Cond.static yJ2_inflate_0e8fd, Cond.code yJ2_inflate_0e8fd cJ2_inflate_0e8fd 6 none, Cond.methodLink RJ2 173 yJ2_checkBoundsOffCount_d044e, Cond.static yJ2_checkBoundsOffCount_d044e, Cond.code yJ2_checkBoundsOffCount_d044e cJ2_checkBoundsOffCount_d044e 3 none, Cond.methodLink RJ2 48 yJ2_length_9d52b, Cond.static yJ2_length_9d52b]
def wsJ5_putStringAt_47b60_r3 : List Cond := [Cond.code yJ2_length_9d52b cJ2_length_9d52b 1 (some .int), Cond.methodLink RJ2 419 yJ0_checkBoundsOffCount_cabcc, Cond.static yJ0_checkBoundsOffCount_cabcc, Cond.code yJ0_checkBoundsOffCount_cabcc cJ0_checkBoundsOffCount_cabcc 3 (some .int), Cond.fieldLink RJ0 1053 "jdk/internal/util/Preconditions" "SIOOBE_FORMATTER" "Ljava/util/function/BiFunction;", Cond.methodLink RJ0 1065 yJ3_checkFromIndexSize_8c36e, Cond.static yJ3_checkFromIndexSize_8c36e, Cond.initialized RJ3, Cond.code yJ3_checkFromIndexSize_8c36e cJ3_checkFromIndexSize_8c36e 4 (some .int), Cond.methodLink RJ2 111 yJ2_putChar_b72d1, Cond.static yJ2_putChar_b72d1, Cond.code yJ2_putChar_b72d1 cJ2_putChar_b72d1 3 none, Cond.fieldLink RJ2 44 "java/lang/StringUTF16" "$assertionsDisabled" "Z", Cond.fieldLink RJ2 59 "java/lang/StringUTF16" "HI_BYTE_SHIFT" "I", Cond.fieldLink RJ2 63 "java/lang/StringUTF16" "LO_BYTE_SHIFT" "I", Cond.methodLink RJ5 399 yJ0_getBytes_840e7, Cond.instanceMethod yJ0_getBytes_840e7, Cond.selects RJ0 yJ0_getBytes_840e7 yJ0_getBytes_840e7, Cond.code yJ0_getBytes_840e7 cJ0_getBytes_840e7 4 none, Cond.fieldLink RJ0 9 "java/lang/String" "value" "[B", Cond.methodLink RJ0 212 arraycopyName, Cond.native arraycopyName, Cond.static arraycopyName, Cond.initialized "java/lang/System"]
def wsJ5_putStringAt_47b60_r4 : List Cond := [Cond.methodLink RJ0 335 yJ0_coder_7d493, Cond.methodLink RJ0 106 yJ1_inflate_0e8fd]
def wsJ5_putStringAt_47b60 : List Cond := .code yJ5_putStringAt_47b60 cJ5_putStringAt_47b60 3 none :: ((wsJ5_putStringAt_47b60_r1 ++ (wsJ5_putStringAt_47b60_r2 ++ (wsJ5_putStringAt_47b60_r3 ++ wsJ5_putStringAt_47b60_r4))) ++ wsJ40 ++ wsJ00)
def wsJ5_append_cf1ce_r1 : List Cond := [Cond.fieldLink RJ5 79 "java/lang/AbstractStringBuilder" "count" "I", Cond.methodLink RJ5 204 ⟨"java/lang/AbstractStringBuilder", "appendNull", "()Ljava/lang/AbstractStringBuilder;"⟩, Cond.sameMethod "java/lang/AbstractStringBuilder" "java/lang/AbstractStringBuilder" "appendNull" "()Ljava/lang/AbstractStringBuilder;", Cond.selects RJ4 ⟨"java/lang/AbstractStringBuilder", "appendNull", "()Ljava/lang/AbstractStringBuilder;"⟩ yJ5_appendNull_278bc, Cond.instanceMethod yJ5_appendNull_278bc, Cond.initialized RJ5, Cond.code yJ5_appendNull_278bc cJ5_appendNull_278bc 3 (some (.object "java/lang/AbstractStringBuilder")), Cond.fieldLink RJ5 15 "java/lang/AbstractStringBuilder" "value" "[B", Cond.methodLink RJ5 100 ⟨"java/lang/AbstractStringBuilder", "ensureCapacityInternal", "(I)V"⟩, Cond.sameMethod "java/lang/AbstractStringBuilder" "java/lang/AbstractStringBuilder" "ensureCapacityInternal" "(I)V", Cond.selects RJ4 ⟨"java/lang/AbstractStringBuilder", "ensureCapacityInternal", "(I)V"⟩ yJ5_ensureCapacityInternal_d00df, Cond.instanceMethod yJ5_ensureCapacityInternal_d00df, Cond.code yJ5_ensureCapacityInternal_d00df cJ5_ensureCapacityInternal_d00df 3 none, Cond.fieldLink RJ5 22 "java/lang/AbstractStringBuilder" "coder" "B", Cond.methodLink RJ5 104 ⟨"java/lang/AbstractStringBuilder", "newCapacity", "(I)I"⟩, Cond.sameMethod "java/lang/AbstractStringBuilder" "java/lang/AbstractStringBuilder" "newCapacity" "(I)I", Cond.selects RJ4 ⟨"java/lang/AbstractStringBuilder", "newCapacity", "(I)I"⟩ yJ5_newCapacity_0f7a4, Cond.instanceMethod yJ5_newCapacity_0f7a4, Cond.code yJ5_newCapacity_0f7a4 cJ5_newCapacity_0f7a4 6 (some .int), Cond.constant RJ5 39 (2147483647), Cond.methodLink RJ5 114 yJ8_newLength_cabcc, Cond.static yJ8_newLength_cabcc, Cond.initialized RJ8, Cond.code yJ8_newLength_cabcc cJ8_newLength_cabcc 4 (some .int)]
def wsJ5_append_cf1ce_r2 : List Cond := [Cond.methodLink RJ8 194 Lib.Math.max.name, Cond.static Lib.Math.max.name, Cond.initialized "java/lang/Math", Cond.code Lib.Math.max.name Lib.Math.max.code 2 (some .int), Cond.constant RJ8 200 (2147483639), Cond.methodLink RJ8 201 yJ8_hugeLength_7cf53, Cond.static yJ8_hugeLength_7cf53, Cond.code yJ8_hugeLength_7cf53 cJ8_hugeLength_7cf53 3 (some .int), Cond.methodLink RJ5 108 yJ7_copyOf_9075b, Cond.static yJ7_copyOf_9075b, Cond.initialized RJ7, Cond.code yJ7_copyOf_9075b cJ7_copyOf_9075b 3 (some (.array .byte)), Cond.methodLink RJ7 310 ⟨"[B", "clone", "()Ljava/lang/Object;"⟩, Cond.sameMethod "[B" "java/lang/Object" "clone" "()Ljava/lang/Object;", Cond.native ⟨"java/lang/Object", "clone", "()Ljava/lang/Object;"⟩, Cond.instanceMethod ⟨"java/lang/Object", "clone", "()Ljava/lang/Object;"⟩, Cond.selects "[B" ⟨"[B", "clone", "()Ljava/lang/Object;"⟩ ⟨"java/lang/Object", "clone", "()Ljava/lang/Object;"⟩, Cond.classLink RJ7 311 "[B", Cond.arrayClass .byte, Cond.methodLink RJ7 304 Lib.Math.min.name, Cond.static Lib.Math.min.name, Cond.code Lib.Math.min.name Lib.Math.min.code 2 (some .int), Cond.methodLink RJ7 150 arraycopyName, Cond.native arraycopyName]
def wsJ5_append_cf1ce_r3 : List Cond := [Cond.static arraycopyName, Cond.initialized "java/lang/System", Cond.methodLink RJ5 83 ⟨"java/lang/AbstractStringBuilder", "isLatin1", "()Z"⟩, Cond.sameMethod "java/lang/AbstractStringBuilder" "java/lang/AbstractStringBuilder" "isLatin1" "()Z", Cond.selects RJ4 ⟨"java/lang/AbstractStringBuilder", "isLatin1", "()Z"⟩ yJ5_isLatin1_aae02, Cond.instanceMethod yJ5_isLatin1_aae02, Cond.code yJ5_isLatin1_aae02 cJ5_isLatin1_aae02 1 (some .boolean), Cond.fieldLink RJ5 18 "java/lang/String" "COMPACT_STRINGS" "Z", Cond.methodLink RJ5 226 yJ2_putCharsAt_cd4e5, Cond.static yJ2_putCharsAt_cd4e5, Cond.initialized RJ2, Cond.code yJ2_putCharsAt_cd4e5 cJ2_putCharsAt_cd4e5 7 (some .int), Cond.fieldLink RJ2 44 "java/lang/StringUTF16" "$assertionsDisabled" "Z", Cond.methodLink RJ2 96 yJ2_checkBoundsBeginEnd_d044e, Cond.static yJ2_checkBoundsBeginEnd_d044e, Cond.code yJ2_checkBoundsBeginEnd_d044e cJ2_checkBoundsBeginEnd_d044e 3 none, Cond.methodLink RJ2 48 yJ2_length_9d52b, Cond.static yJ2_length_9d52b, Cond.code yJ2_length_9d52b cJ2_length_9d52b 1 (some .int), Cond.methodLink RJ2 241 yJ0_checkBoundsBeginEnd_23922, Cond.static yJ0_checkBoundsBeginEnd_23922, Cond.initialized RJ0, Cond.code yJ0_checkBoundsBeginEnd_23922 cJ0_checkBoundsBeginEnd_23922 3 none, Cond.fieldLink RJ0 1053 "jdk/internal/util/Preconditions" "SIOOBE_FORMATTER" "Ljava/util/function/BiFunction;"]
def wsJ5_append_cf1ce_r4 : List Cond := [Cond.methodLink RJ0 1062 yJ3_checkFromToIndex_8c36e, Cond.static yJ3_checkFromToIndex_8c36e, Cond.initialized RJ3, Cond.code yJ3_checkFromToIndex_8c36e cJ3_checkFromToIndex_8c36e 4 (some .int), Cond.methodLink RJ2 111 yJ2_putChar_b72d1, Cond.static yJ2_putChar_b72d1, Cond.code yJ2_putChar_b72d1 cJ2_putChar_b72d1 3 none, Cond.fieldLink RJ2 59 "java/lang/StringUTF16" "HI_BYTE_SHIFT" "I", Cond.fieldLink RJ2 63 "java/lang/StringUTF16" "LO_BYTE_SHIFT" "I", Cond.methodLink RJ5 32 yJ0_length_8abf5, Cond.instanceMethod yJ0_length_8abf5, Cond.selects RJ0 yJ0_length_8abf5 yJ0_length_8abf5, Cond.code yJ0_length_8abf5 cJ0_length_8abf5 1 (some .int), Cond.fieldLink RJ0 9 "java/lang/String" "value" "[B", Cond.methodLink RJ0 335 yJ0_coder_7d493, Cond.instanceMethod yJ0_coder_7d493, Cond.selects RJ0 yJ0_coder_7d493 yJ0_coder_7d493, Cond.code yJ0_coder_7d493 cJ0_coder_7d493 1 (some .byte), Cond.fieldLink RJ0 38 "java/lang/String" "COMPACT_STRINGS" "Z", Cond.fieldLink RJ0 15 "java/lang/String" "coder" "B", Cond.methodLink RJ5 208 ⟨"java/lang/AbstractStringBuilder", "putStringAt", "(ILjava/lang/String;)V"⟩, Cond.sameMethod "java/lang/AbstractStringBuilder" "java/lang/AbstractStringBuilder" "putStringAt" "(ILjava/lang/String;)V", Cond.selects RJ4 ⟨"java/lang/AbstractStringBuilder", "putStringAt", "(ILjava/lang/String;)V"⟩ yJ5_putStringAt_47b60, Cond.instanceMethod yJ5_putStringAt_47b60]
def wsJ5_append_cf1ce_r5 : List Cond := [Cond.code yJ5_putStringAt_47b60 cJ5_putStringAt_47b60 3 none, Cond.methodLink RJ5 397 ⟨"java/lang/AbstractStringBuilder", "inflateIfNeededFor", "(Ljava/lang/String;)V"⟩, Cond.sameMethod "java/lang/AbstractStringBuilder" "java/lang/AbstractStringBuilder" "inflateIfNeededFor" "(Ljava/lang/String;)V", Cond.selects RJ4 ⟨"java/lang/AbstractStringBuilder", "inflateIfNeededFor", "(Ljava/lang/String;)V"⟩ yJ5_inflateIfNeededFor_a7421, Cond.instanceMethod yJ5_inflateIfNeededFor_a7421, Cond.code yJ5_inflateIfNeededFor_a7421 cJ5_inflateIfNeededFor_a7421 2 none, Cond.methodLink RJ5 40 yJ0_coder_7d493, Cond.methodLink RJ5 195 ⟨"java/lang/AbstractStringBuilder", "inflate", "()V"⟩, Cond.sameMethod "java/lang/AbstractStringBuilder" "java/lang/AbstractStringBuilder" "inflate" "()V", Cond.selects RJ4 ⟨"java/lang/AbstractStringBuilder", "inflate", "()V"⟩ yJ5_inflate_da8c8, Cond.instanceMethod yJ5_inflate_da8c8, Cond.code yJ5_inflate_da8c8 cJ5_inflate_da8c8 2 none, Cond.methodLink RJ5 26 yJ2_newBytesFor_77867, Cond.static yJ2_newBytesFor_77867, Cond.code yJ2_newBytesFor_77867 cJ2_newBytesFor_77867 1 (some (.array .byte)), Cond.methodLink RJ2 11 yJ2_newBytesLength_0f7a4, Cond.static yJ2_newBytesLength_0f7a4, Cond.code yJ2_newBytesLength_0f7a4 cJ2_newBytesLength_0f7a4 1 (some .int), Cond.constant RJ2 20 (1073741823), Cond.methodLink RJ5 125 yJ1_inflate_0e8fd, Cond.static yJ1_inflate_0e8fd, Cond.initialized RJ1, Cond.code yJ1_inflate_0e8fd cJ1_inflate_0e8fd 5 none, Cond.methodLink RJ1 240 yJ2_inflate_0e8fd]
def wsJ5_append_cf1ce_r6 : List Cond := [Cond.static yJ2_inflate_0e8fd, Cond.code yJ2_inflate_0e8fd cJ2_inflate_0e8fd 6 none, Cond.methodLink RJ2 173 yJ2_checkBoundsOffCount_d044e, Cond.static yJ2_checkBoundsOffCount_d044e, Cond.code yJ2_checkBoundsOffCount_d044e cJ2_checkBoundsOffCount_d044e 3 none, Cond.methodLink RJ2 419 yJ0_checkBoundsOffCount_cabcc, Cond.static yJ0_checkBoundsOffCount_cabcc, Cond.code yJ0_checkBoundsOffCount_cabcc cJ0_checkBoundsOffCount_cabcc 3 (some .int), Cond.methodLink RJ0 1065 yJ3_checkFromIndexSize_8c36e, Cond.static yJ3_checkFromIndexSize_8c36e, Cond.code yJ3_checkFromIndexSize_8c36e cJ3_checkFromIndexSize_8c36e 4 (some .int), Cond.methodLink RJ5 399 yJ0_getBytes_840e7, Cond.instanceMethod yJ0_getBytes_840e7, Cond.selects RJ0 yJ0_getBytes_840e7 yJ0_getBytes_840e7, Cond.code yJ0_getBytes_840e7 cJ0_getBytes_840e7 4 none, Cond.methodLink RJ0 212 arraycopyName, Cond.methodLink RJ0 106 yJ1_inflate_0e8fd]
def wsJ5_append_cf1ce : List Cond := .code yJ5_append_cf1ce cJ5_append_cf1ce 3 (some (.object "java/lang/AbstractStringBuilder")) :: ((wsJ5_append_cf1ce_r1 ++ (wsJ5_append_cf1ce_r2 ++ (wsJ5_append_cf1ce_r3 ++ (wsJ5_append_cf1ce_r4 ++ (wsJ5_append_cf1ce_r5 ++ wsJ5_append_cf1ce_r6))))) ++ wsJ40 ++ wsJ00)
def wsJ4_append_15ec4_r1 : List Cond := [Cond.methodLink RJ4 29 yJ5_append_cf1ce, Cond.sameMethod "java/lang/AbstractStringBuilder" "java/lang/AbstractStringBuilder" "append" "(Ljava/lang/String;)Ljava/lang/AbstractStringBuilder;", Cond.superclass RJ4 RJ5, Cond.instanceMethod yJ5_append_cf1ce, Cond.initialized RJ5, Cond.code yJ5_append_cf1ce cJ5_append_cf1ce 3 (some (.object "java/lang/AbstractStringBuilder")), Cond.fieldLink RJ5 79 "java/lang/AbstractStringBuilder" "count" "I", Cond.methodLink RJ5 204 ⟨"java/lang/AbstractStringBuilder", "appendNull", "()Ljava/lang/AbstractStringBuilder;"⟩, Cond.sameMethod "java/lang/AbstractStringBuilder" "java/lang/AbstractStringBuilder" "appendNull" "()Ljava/lang/AbstractStringBuilder;", Cond.selects RJ4 ⟨"java/lang/AbstractStringBuilder", "appendNull", "()Ljava/lang/AbstractStringBuilder;"⟩ yJ5_appendNull_278bc, Cond.instanceMethod yJ5_appendNull_278bc, Cond.code yJ5_appendNull_278bc cJ5_appendNull_278bc 3 (some (.object "java/lang/AbstractStringBuilder")), Cond.fieldLink RJ5 15 "java/lang/AbstractStringBuilder" "value" "[B", Cond.methodLink RJ5 100 ⟨"java/lang/AbstractStringBuilder", "ensureCapacityInternal", "(I)V"⟩, Cond.sameMethod "java/lang/AbstractStringBuilder" "java/lang/AbstractStringBuilder" "ensureCapacityInternal" "(I)V", Cond.selects RJ4 ⟨"java/lang/AbstractStringBuilder", "ensureCapacityInternal", "(I)V"⟩ yJ5_ensureCapacityInternal_d00df, Cond.instanceMethod yJ5_ensureCapacityInternal_d00df, Cond.code yJ5_ensureCapacityInternal_d00df cJ5_ensureCapacityInternal_d00df 3 none, Cond.fieldLink RJ5 22 "java/lang/AbstractStringBuilder" "coder" "B", Cond.methodLink RJ5 104 ⟨"java/lang/AbstractStringBuilder", "newCapacity", "(I)I"⟩, Cond.sameMethod "java/lang/AbstractStringBuilder" "java/lang/AbstractStringBuilder" "newCapacity" "(I)I", Cond.selects RJ4 ⟨"java/lang/AbstractStringBuilder", "newCapacity", "(I)I"⟩ yJ5_newCapacity_0f7a4, Cond.instanceMethod yJ5_newCapacity_0f7a4, Cond.code yJ5_newCapacity_0f7a4 cJ5_newCapacity_0f7a4 6 (some .int)]
def wsJ4_append_15ec4_r2 : List Cond := [Cond.constant RJ5 39 (2147483647), Cond.methodLink RJ5 114 yJ8_newLength_cabcc, Cond.static yJ8_newLength_cabcc, Cond.initialized RJ8, Cond.code yJ8_newLength_cabcc cJ8_newLength_cabcc 4 (some .int), Cond.methodLink RJ8 194 Lib.Math.max.name, Cond.static Lib.Math.max.name, Cond.initialized "java/lang/Math", Cond.code Lib.Math.max.name Lib.Math.max.code 2 (some .int), Cond.constant RJ8 200 (2147483639), Cond.methodLink RJ8 201 yJ8_hugeLength_7cf53, Cond.static yJ8_hugeLength_7cf53, Cond.code yJ8_hugeLength_7cf53 cJ8_hugeLength_7cf53 3 (some .int), Cond.methodLink RJ5 108 yJ7_copyOf_9075b, Cond.static yJ7_copyOf_9075b, Cond.initialized RJ7, Cond.code yJ7_copyOf_9075b cJ7_copyOf_9075b 3 (some (.array .byte)), Cond.methodLink RJ7 310 ⟨"[B", "clone", "()Ljava/lang/Object;"⟩, Cond.sameMethod "[B" "java/lang/Object" "clone" "()Ljava/lang/Object;", Cond.native ⟨"java/lang/Object", "clone", "()Ljava/lang/Object;"⟩, Cond.instanceMethod ⟨"java/lang/Object", "clone", "()Ljava/lang/Object;"⟩, Cond.selects "[B" ⟨"[B", "clone", "()Ljava/lang/Object;"⟩ ⟨"java/lang/Object", "clone", "()Ljava/lang/Object;"⟩, Cond.classLink RJ7 311 "[B", Cond.arrayClass .byte]
def wsJ4_append_15ec4_r3 : List Cond := [Cond.methodLink RJ7 304 Lib.Math.min.name, Cond.static Lib.Math.min.name, Cond.code Lib.Math.min.name Lib.Math.min.code 2 (some .int), Cond.methodLink RJ7 150 arraycopyName, Cond.native arraycopyName, Cond.static arraycopyName, Cond.initialized "java/lang/System", Cond.methodLink RJ5 83 ⟨"java/lang/AbstractStringBuilder", "isLatin1", "()Z"⟩, Cond.sameMethod "java/lang/AbstractStringBuilder" "java/lang/AbstractStringBuilder" "isLatin1" "()Z", Cond.selects RJ4 ⟨"java/lang/AbstractStringBuilder", "isLatin1", "()Z"⟩ yJ5_isLatin1_aae02, Cond.instanceMethod yJ5_isLatin1_aae02, Cond.code yJ5_isLatin1_aae02 cJ5_isLatin1_aae02 1 (some .boolean), Cond.fieldLink RJ5 18 "java/lang/String" "COMPACT_STRINGS" "Z", Cond.methodLink RJ5 226 yJ2_putCharsAt_cd4e5, Cond.static yJ2_putCharsAt_cd4e5, Cond.initialized RJ2, Cond.code yJ2_putCharsAt_cd4e5 cJ2_putCharsAt_cd4e5 7 (some .int), Cond.fieldLink RJ2 44 "java/lang/StringUTF16" "$assertionsDisabled" "Z", Cond.methodLink RJ2 96 yJ2_checkBoundsBeginEnd_d044e, Cond.static yJ2_checkBoundsBeginEnd_d044e, Cond.code yJ2_checkBoundsBeginEnd_d044e cJ2_checkBoundsBeginEnd_d044e 3 none, Cond.methodLink RJ2 48 yJ2_length_9d52b, Cond.static yJ2_length_9d52b, Cond.code yJ2_length_9d52b cJ2_length_9d52b 1 (some .int)]
def wsJ4_append_15ec4_r4 : List Cond := [Cond.methodLink RJ2 241 yJ0_checkBoundsBeginEnd_23922, Cond.static yJ0_checkBoundsBeginEnd_23922, Cond.initialized RJ0, Cond.code yJ0_checkBoundsBeginEnd_23922 cJ0_checkBoundsBeginEnd_23922 3 none, Cond.fieldLink RJ0 1053 "jdk/internal/util/Preconditions" "SIOOBE_FORMATTER" "Ljava/util/function/BiFunction;", Cond.methodLink RJ0 1062 yJ3_checkFromToIndex_8c36e, Cond.static yJ3_checkFromToIndex_8c36e, Cond.initialized RJ3, Cond.code yJ3_checkFromToIndex_8c36e cJ3_checkFromToIndex_8c36e 4 (some .int), Cond.methodLink RJ2 111 yJ2_putChar_b72d1, Cond.static yJ2_putChar_b72d1, Cond.code yJ2_putChar_b72d1 cJ2_putChar_b72d1 3 none, Cond.fieldLink RJ2 59 "java/lang/StringUTF16" "HI_BYTE_SHIFT" "I", Cond.fieldLink RJ2 63 "java/lang/StringUTF16" "LO_BYTE_SHIFT" "I", Cond.methodLink RJ5 32 yJ0_length_8abf5, Cond.instanceMethod yJ0_length_8abf5, Cond.selects RJ0 yJ0_length_8abf5 yJ0_length_8abf5, Cond.code yJ0_length_8abf5 cJ0_length_8abf5 1 (some .int), Cond.fieldLink RJ0 9 "java/lang/String" "value" "[B", Cond.methodLink RJ0 335 yJ0_coder_7d493, Cond.instanceMethod yJ0_coder_7d493, Cond.selects RJ0 yJ0_coder_7d493 yJ0_coder_7d493, Cond.code yJ0_coder_7d493 cJ0_coder_7d493 1 (some .byte), Cond.fieldLink RJ0 38 "java/lang/String" "COMPACT_STRINGS" "Z"]
def wsJ4_append_15ec4_r5 : List Cond := [Cond.fieldLink RJ0 15 "java/lang/String" "coder" "B", Cond.methodLink RJ5 208 ⟨"java/lang/AbstractStringBuilder", "putStringAt", "(ILjava/lang/String;)V"⟩, Cond.sameMethod "java/lang/AbstractStringBuilder" "java/lang/AbstractStringBuilder" "putStringAt" "(ILjava/lang/String;)V", Cond.selects RJ4 ⟨"java/lang/AbstractStringBuilder", "putStringAt", "(ILjava/lang/String;)V"⟩ yJ5_putStringAt_47b60, Cond.instanceMethod yJ5_putStringAt_47b60, Cond.code yJ5_putStringAt_47b60 cJ5_putStringAt_47b60 3 none, Cond.methodLink RJ5 397 ⟨"java/lang/AbstractStringBuilder", "inflateIfNeededFor", "(Ljava/lang/String;)V"⟩, Cond.sameMethod "java/lang/AbstractStringBuilder" "java/lang/AbstractStringBuilder" "inflateIfNeededFor" "(Ljava/lang/String;)V", Cond.selects RJ4 ⟨"java/lang/AbstractStringBuilder", "inflateIfNeededFor", "(Ljava/lang/String;)V"⟩ yJ5_inflateIfNeededFor_a7421, Cond.instanceMethod yJ5_inflateIfNeededFor_a7421, Cond.code yJ5_inflateIfNeededFor_a7421 cJ5_inflateIfNeededFor_a7421 2 none, Cond.methodLink RJ5 40 yJ0_coder_7d493, Cond.methodLink RJ5 195 ⟨"java/lang/AbstractStringBuilder", "inflate", "()V"⟩, Cond.sameMethod "java/lang/AbstractStringBuilder" "java/lang/AbstractStringBuilder" "inflate" "()V", Cond.selects RJ4 ⟨"java/lang/AbstractStringBuilder", "inflate", "()V"⟩ yJ5_inflate_da8c8, Cond.instanceMethod yJ5_inflate_da8c8, Cond.code yJ5_inflate_da8c8 cJ5_inflate_da8c8 2 none, Cond.methodLink RJ5 26 yJ2_newBytesFor_77867, Cond.static yJ2_newBytesFor_77867, Cond.code yJ2_newBytesFor_77867 cJ2_newBytesFor_77867 1 (some (.array .byte)), Cond.methodLink RJ2 11 yJ2_newBytesLength_0f7a4, Cond.static yJ2_newBytesLength_0f7a4, Cond.code yJ2_newBytesLength_0f7a4 cJ2_newBytesLength_0f7a4 1 (some .int), Cond.constant RJ2 20 (1073741823)]
def wsJ4_append_15ec4_r6 : List Cond := [Cond.methodLink RJ5 125 yJ1_inflate_0e8fd, Cond.static yJ1_inflate_0e8fd, Cond.initialized RJ1, Cond.code yJ1_inflate_0e8fd cJ1_inflate_0e8fd 5 none, Cond.methodLink RJ1 240 yJ2_inflate_0e8fd, Cond.static yJ2_inflate_0e8fd, Cond.code yJ2_inflate_0e8fd cJ2_inflate_0e8fd 6 none, Cond.methodLink RJ2 173 yJ2_checkBoundsOffCount_d044e, Cond.static yJ2_checkBoundsOffCount_d044e, Cond.code yJ2_checkBoundsOffCount_d044e cJ2_checkBoundsOffCount_d044e 3 none, Cond.methodLink RJ2 419 yJ0_checkBoundsOffCount_cabcc, Cond.static yJ0_checkBoundsOffCount_cabcc, Cond.code yJ0_checkBoundsOffCount_cabcc cJ0_checkBoundsOffCount_cabcc 3 (some .int), Cond.methodLink RJ0 1065 yJ3_checkFromIndexSize_8c36e, Cond.static yJ3_checkFromIndexSize_8c36e, Cond.code yJ3_checkFromIndexSize_8c36e cJ3_checkFromIndexSize_8c36e 4 (some .int), Cond.methodLink RJ5 399 yJ0_getBytes_840e7, Cond.instanceMethod yJ0_getBytes_840e7, Cond.selects RJ0 yJ0_getBytes_840e7 yJ0_getBytes_840e7, Cond.code yJ0_getBytes_840e7 cJ0_getBytes_840e7 4 none, Cond.methodLink RJ0 212 arraycopyName, Cond.methodLink RJ0 106 yJ1_inflate_0e8fd]
def wsJ4_append_15ec4 : List Cond := .code yJ4_append_15ec4 cJ4_append_15ec4 2 (some (.object "java/lang/StringBuilder")) :: ((wsJ4_append_15ec4_r1 ++ (wsJ4_append_15ec4_r2 ++ (wsJ4_append_15ec4_r3 ++ (wsJ4_append_15ec4_r4 ++ (wsJ4_append_15ec4_r5 ++ wsJ4_append_15ec4_r6))))) ++ wsJ40 ++ wsJ00)
def wsX10_text_r1 : List Cond := [Cond.fieldLink RX10 19 "UrnwrightModel" "thrown" "I", Cond.fieldLink RX10 10 "UrnwrightModel" "urns" "Ljava/util/List;", Cond.classLink RX10 37 "UrnwrightModel$Urn", Cond.classLink RX10 249 RJ4, Cond.instantiable RJ4 4, Cond.initialized RJ4, Cond.fieldLink RX10 77 "UrnwrightModel$Urn" "counts" "[I", Cond.fieldLink RX10 90 "UrnwrightModel$Urn" "gain" "I", Cond.methodLink RX10 46 yX10_isUrn, Cond.instanceMethod yX10_isUrn, Cond.selects RX10 yX10_isUrn yX10_isUrn, Cond.initialized RX10, Cond.code yX10_isUrn cX10_isUrn 2 (some .boolean), Cond.methodLink RX10 23 ⟨"java/util/List", "size", "()I"⟩, Cond.selects RJx4a65c ⟨"java/util/List", "size", "()I"⟩ yJx4a65c_size_8abf5, Cond.instanceMethod yJx4a65c_size_8abf5, Cond.initialized RJx4a65c, Cond.code yJx4a65c_size_8abf5 cJx4a65c_size_8abf5 1 (some .int), Cond.fieldLink RJx4a65c 48 "java/util/ArrayList" "size" "I", Cond.methodLink RX10 29 yX10_in, Cond.static yX10_in, Cond.code yX10_in cX10_in 3 (some .boolean), Cond.methodLink RX10 50 ⟨"java/util/List", "get", "(I)Ljava/lang/Object;"⟩, Cond.selects RJx4a65c ⟨"java/util/List", "get", "(I)Ljava/lang/Object;"⟩ yJx4a65c_get_915e3]
def wsX10_text_r2 : List Cond := [Cond.instanceMethod yJx4a65c_get_915e3, Cond.code yJx4a65c_get_915e3 cJx4a65c_get_915e3 2 (some (.object "java/lang/Object")), Cond.methodLink RJx4a65c 118 yJ15_checkIndex_7cf53, Cond.static yJ15_checkIndex_7cf53, Cond.initialized RJ15, Cond.code yJ15_checkIndex_7cf53 cJ15_checkIndex_7cf53 2 (some .int), Cond.methodLink RJ15 105 yJ3_checkIndex_8e157, Cond.static yJ3_checkIndex_8e157, Cond.initialized RJ3, Cond.code yJ3_checkIndex_8e157 cJ3_checkIndex_8e157 3 (some .int), Cond.methodLink RJx4a65c 123 yJx4a65c_elementData_915e3, Cond.instanceMethod yJx4a65c_elementData_915e3, Cond.selects RJx4a65c yJx4a65c_elementData_915e3 yJx4a65c_elementData_915e3, Cond.code yJx4a65c_elementData_915e3 cJx4a65c_elementData_915e3 2 (some (.object "java/lang/Object")), Cond.fieldLink RJx4a65c 9 "java/util/ArrayList" "elementData" "[Ljava/lang/Object;", Cond.methodLink RX10 251 yJ4_init_da8c8, Cond.instanceMethod yJ4_init_da8c8, Cond.code yJ4_init_da8c8 cJ4_init_da8c8 1 none, Cond.methodLink RJ4 1 yJ5_init_d00df, Cond.instanceMethod yJ5_init_d00df, Cond.initialized RJ5, Cond.code yJ5_init_d00df cJ5_init_d00df 2 none, Cond.methodLink RJ5 3 objectInit, Cond.instanceMethod objectInit]
def wsX10_text_r3 : List Cond := [Cond.code objectInit ⟨#[0xb1]⟩ 1 none, Cond.fieldLink RJ5 18 "java/lang/String" "COMPACT_STRINGS" "Z", Cond.arrayClass .byte, Cond.fieldLink RJ5 15 "java/lang/AbstractStringBuilder" "value" "[B", Cond.fieldLink RJ5 22 "java/lang/AbstractStringBuilder" "coder" "B", Cond.methodLink RJ5 26 yJ2_newBytesFor_77867, Cond.static yJ2_newBytesFor_77867, Cond.initialized RJ2, Cond.code yJ2_newBytesFor_77867 cJ2_newBytesFor_77867 1 (some (.array .byte)), Cond.methodLink RJ2 11 yJ2_newBytesLength_0f7a4, Cond.static yJ2_newBytesLength_0f7a4, Cond.code yJ2_newBytesLength_0f7a4 cJ2_newBytesLength_0f7a4 1 (some .int), Cond.constant RJ2 20 (1073741823), Cond.methodLink RX10 252 yJ4_append_bf812, Cond.instanceMethod yJ4_append_bf812, Cond.selects RJ4 yJ4_append_bf812 yJ4_append_bf812, Cond.code yJ4_append_bf812 cJ4_append_bf812 2 (some (.object "java/lang/StringBuilder")), Cond.methodLink RJ4 53 yJ5_append_c97b9, Cond.sameMethod "java/lang/AbstractStringBuilder" "java/lang/AbstractStringBuilder" "append" "(I)Ljava/lang/AbstractStringBuilder;", Cond.superclass RJ4 RJ5, Cond.instanceMethod yJ5_append_c97b9, Cond.code yJ5_append_c97b9 cJ5_append_c97b9 4 (some (.object "java/lang/AbstractStringBuilder")), Cond.fieldLink RJ5 79 "java/lang/AbstractStringBuilder" "count" "I", Cond.methodLink RJ5 245 yJ6_stringSize_0f7a4]
def wsX10_text_r4 : List Cond := [Cond.static yJ6_stringSize_0f7a4, Cond.initialized RJ6, Cond.code yJ6_stringSize_0f7a4 cJ6_stringSize_0f7a4 4 (some .int), Cond.methodLink RJ5 100 ⟨"java/lang/AbstractStringBuilder", "ensureCapacityInternal", "(I)V"⟩, Cond.sameMethod "java/lang/AbstractStringBuilder" "java/lang/AbstractStringBuilder" "ensureCapacityInternal" "(I)V", Cond.selects RJ4 ⟨"java/lang/AbstractStringBuilder", "ensureCapacityInternal", "(I)V"⟩ yJ5_ensureCapacityInternal_d00df, Cond.instanceMethod yJ5_ensureCapacityInternal_d00df, Cond.code yJ5_ensureCapacityInternal_d00df cJ5_ensureCapacityInternal_d00df 3 none, Cond.methodLink RJ5 104 ⟨"java/lang/AbstractStringBuilder", "newCapacity", "(I)I"⟩, Cond.sameMethod "java/lang/AbstractStringBuilder" "java/lang/AbstractStringBuilder" "newCapacity" "(I)I", Cond.selects RJ4 ⟨"java/lang/AbstractStringBuilder", "newCapacity", "(I)I"⟩ yJ5_newCapacity_0f7a4, Cond.instanceMethod yJ5_newCapacity_0f7a4, Cond.code yJ5_newCapacity_0f7a4 cJ5_newCapacity_0f7a4 6 (some .int), Cond.constant RJ5 39 (2147483647), Cond.methodLink RJ5 114 yJ8_newLength_cabcc, Cond.static yJ8_newLength_cabcc, Cond.initialized RJ8, Cond.code yJ8_newLength_cabcc cJ8_newLength_cabcc 4 (some .int), Cond.methodLink RJ8 194 Lib.Math.max.name, Cond.static Lib.Math.max.name, Cond.initialized "java/lang/Math", Cond.code Lib.Math.max.name Lib.Math.max.code 2 (some .int), Cond.constant RJ8 200 (2147483639), Cond.methodLink RJ8 201 yJ8_hugeLength_7cf53]
def wsX10_text_r5 : List Cond := [Cond.static yJ8_hugeLength_7cf53, Cond.code yJ8_hugeLength_7cf53 cJ8_hugeLength_7cf53 3 (some .int), Cond.methodLink RJ5 108 yJ7_copyOf_9075b, Cond.static yJ7_copyOf_9075b, Cond.initialized RJ7, Cond.code yJ7_copyOf_9075b cJ7_copyOf_9075b 3 (some (.array .byte)), Cond.methodLink RJ7 310 ⟨"[B", "clone", "()Ljava/lang/Object;"⟩, Cond.sameMethod "[B" "java/lang/Object" "clone" "()Ljava/lang/Object;", Cond.native ⟨"java/lang/Object", "clone", "()Ljava/lang/Object;"⟩, Cond.instanceMethod ⟨"java/lang/Object", "clone", "()Ljava/lang/Object;"⟩, Cond.selects "[B" ⟨"[B", "clone", "()Ljava/lang/Object;"⟩ ⟨"java/lang/Object", "clone", "()Ljava/lang/Object;"⟩, Cond.classLink RJ7 311 "[B", Cond.methodLink RJ7 304 Lib.Math.min.name, Cond.static Lib.Math.min.name, Cond.code Lib.Math.min.name Lib.Math.min.code 2 (some .int), Cond.methodLink RJ7 150 arraycopyName, Cond.native arraycopyName, Cond.static arraycopyName, Cond.initialized "java/lang/System", Cond.methodLink RJ5 83 ⟨"java/lang/AbstractStringBuilder", "isLatin1", "()Z"⟩, Cond.sameMethod "java/lang/AbstractStringBuilder" "java/lang/AbstractStringBuilder" "isLatin1" "()Z", Cond.selects RJ4 ⟨"java/lang/AbstractStringBuilder", "isLatin1", "()Z"⟩ yJ5_isLatin1_aae02, Cond.instanceMethod yJ5_isLatin1_aae02, Cond.code yJ5_isLatin1_aae02 cJ5_isLatin1_aae02 1 (some .boolean)]
def wsX10_text_r6 : List Cond := [Cond.methodLink RJ5 248 yJ6_getChars_ba4f3, Cond.static yJ6_getChars_ba4f3, Cond.code yJ6_getChars_ba4f3 cJ6_getChars_ba4f3 7 (some .int), Cond.fieldLink RJ6 83 "java/lang/Integer" "DigitOnes" "[B", Cond.fieldLink RJ6 87 "java/lang/Integer" "DigitTens" "[B", Cond.methodLink RJ5 251 yJ2_getChars_46870, Cond.static yJ2_getChars_46870, Cond.code yJ2_getChars_46870 cJ2_getChars_46870 5 (some .int), Cond.fieldLink RJ2 44 "java/lang/StringUTF16" "$assertionsDisabled" "Z", Cond.methodLink RJ2 96 yJ2_checkBoundsBeginEnd_d044e, Cond.static yJ2_checkBoundsBeginEnd_d044e, Cond.code yJ2_checkBoundsBeginEnd_d044e cJ2_checkBoundsBeginEnd_d044e 3 none, Cond.methodLink RJ2 48 yJ2_length_9d52b, Cond.static yJ2_length_9d52b, Cond.code yJ2_length_9d52b cJ2_length_9d52b 1 (some .int), Cond.methodLink RJ2 241 yJ0_checkBoundsBeginEnd_23922, Cond.static yJ0_checkBoundsBeginEnd_23922, Cond.initialized RJ0, Cond.code yJ0_checkBoundsBeginEnd_23922 cJ0_checkBoundsBeginEnd_23922 3 none, Cond.fieldLink RJ0 1053 "jdk/internal/util/Preconditions" "SIOOBE_FORMATTER" "Ljava/util/function/BiFunction;", Cond.methodLink RJ0 1062 yJ3_checkFromToIndex_8c36e, Cond.static yJ3_checkFromToIndex_8c36e, Cond.code yJ3_checkFromToIndex_8c36e cJ3_checkFromToIndex_8c36e 4 (some .int), Cond.methodLink RJ2 393 yJ2_getChars_ba4f3]
def wsX10_text_r7 : List Cond := [Cond.static yJ2_getChars_ba4f3, Cond.code yJ2_getChars_ba4f3 cJ2_getChars_ba4f3 7 (some .int), Cond.fieldLink RJ2 403 "java/lang/Integer" "DigitOnes" "[B", Cond.fieldLink RJ2 407 "java/lang/Integer" "DigitTens" "[B", Cond.methodLink RJ2 111 yJ2_putChar_b72d1, Cond.static yJ2_putChar_b72d1, Cond.code yJ2_putChar_b72d1 cJ2_putChar_b72d1 3 none, Cond.fieldLink RJ2 59 "java/lang/StringUTF16" "HI_BYTE_SHIFT" "I", Cond.fieldLink RJ2 63 "java/lang/StringUTF16" "LO_BYTE_SHIFT" "I", Cond.methodLink RX10 258 yJ4_append_15ec4, Cond.instanceMethod yJ4_append_15ec4, Cond.selects RJ4 yJ4_append_15ec4 yJ4_append_15ec4, Cond.code yJ4_append_15ec4 cJ4_append_15ec4 2 (some (.object "java/lang/StringBuilder")), Cond.methodLink RJ4 29 yJ5_append_cf1ce, Cond.sameMethod "java/lang/AbstractStringBuilder" "java/lang/AbstractStringBuilder" "append" "(Ljava/lang/String;)Ljava/lang/AbstractStringBuilder;", Cond.instanceMethod yJ5_append_cf1ce, Cond.code yJ5_append_cf1ce cJ5_append_cf1ce 3 (some (.object "java/lang/AbstractStringBuilder")), Cond.methodLink RJ5 204 ⟨"java/lang/AbstractStringBuilder", "appendNull", "()Ljava/lang/AbstractStringBuilder;"⟩, Cond.sameMethod "java/lang/AbstractStringBuilder" "java/lang/AbstractStringBuilder" "appendNull" "()Ljava/lang/AbstractStringBuilder;", Cond.selects RJ4 ⟨"java/lang/AbstractStringBuilder", "appendNull", "()Ljava/lang/AbstractStringBuilder;"⟩ yJ5_appendNull_278bc, Cond.instanceMethod yJ5_appendNull_278bc, Cond.code yJ5_appendNull_278bc cJ5_appendNull_278bc 3 (some (.object "java/lang/AbstractStringBuilder")), Cond.methodLink RJ5 226 yJ2_putCharsAt_cd4e5, Cond.static yJ2_putCharsAt_cd4e5]
def wsX10_text_r8 : List Cond := [Cond.code yJ2_putCharsAt_cd4e5 cJ2_putCharsAt_cd4e5 7 (some .int), Cond.methodLink RJ5 32 yJ0_length_8abf5, Cond.instanceMethod yJ0_length_8abf5, Cond.selects RJ0 yJ0_length_8abf5 yJ0_length_8abf5, Cond.code yJ0_length_8abf5 cJ0_length_8abf5 1 (some .int), Cond.fieldLink RJ0 9 "java/lang/String" "value" "[B", Cond.methodLink RJ0 335 yJ0_coder_7d493, Cond.instanceMethod yJ0_coder_7d493, Cond.selects RJ0 yJ0_coder_7d493 yJ0_coder_7d493, Cond.code yJ0_coder_7d493 cJ0_coder_7d493 1 (some .byte), Cond.fieldLink RJ0 38 "java/lang/String" "COMPACT_STRINGS" "Z", Cond.fieldLink RJ0 15 "java/lang/String" "coder" "B", Cond.methodLink RJ5 208 ⟨"java/lang/AbstractStringBuilder", "putStringAt", "(ILjava/lang/String;)V"⟩, Cond.sameMethod "java/lang/AbstractStringBuilder" "java/lang/AbstractStringBuilder" "putStringAt" "(ILjava/lang/String;)V", Cond.selects RJ4 ⟨"java/lang/AbstractStringBuilder", "putStringAt", "(ILjava/lang/String;)V"⟩ yJ5_putStringAt_47b60, Cond.instanceMethod yJ5_putStringAt_47b60, Cond.code yJ5_putStringAt_47b60 cJ5_putStringAt_47b60 3 none, Cond.methodLink RJ5 397 ⟨"java/lang/AbstractStringBuilder", "inflateIfNeededFor", "(Ljava/lang/String;)V"⟩, Cond.sameMethod "java/lang/AbstractStringBuilder" "java/lang/AbstractStringBuilder" "inflateIfNeededFor" "(Ljava/lang/String;)V", Cond.selects RJ4 ⟨"java/lang/AbstractStringBuilder", "inflateIfNeededFor", "(Ljava/lang/String;)V"⟩ yJ5_inflateIfNeededFor_a7421, Cond.instanceMethod yJ5_inflateIfNeededFor_a7421, Cond.code yJ5_inflateIfNeededFor_a7421 cJ5_inflateIfNeededFor_a7421 2 none, Cond.methodLink RJ5 40 yJ0_coder_7d493, Cond.methodLink RJ5 195 ⟨"java/lang/AbstractStringBuilder", "inflate", "()V"⟩]
def wsX10_text_r9 : List Cond := [Cond.sameMethod "java/lang/AbstractStringBuilder" "java/lang/AbstractStringBuilder" "inflate" "()V", Cond.selects RJ4 ⟨"java/lang/AbstractStringBuilder", "inflate", "()V"⟩ yJ5_inflate_da8c8, Cond.instanceMethod yJ5_inflate_da8c8, Cond.code yJ5_inflate_da8c8 cJ5_inflate_da8c8 2 none, Cond.methodLink RJ5 125 yJ1_inflate_0e8fd, Cond.static yJ1_inflate_0e8fd, Cond.initialized RJ1, Cond.code yJ1_inflate_0e8fd cJ1_inflate_0e8fd 5 none, Cond.methodLink RJ1 240 yJ2_inflate_0e8fd, Cond.static yJ2_inflate_0e8fd, Cond.code yJ2_inflate_0e8fd cJ2_inflate_0e8fd 6 none, Cond.methodLink RJ2 173 yJ2_checkBoundsOffCount_d044e, Cond.static yJ2_checkBoundsOffCount_d044e, Cond.code yJ2_checkBoundsOffCount_d044e cJ2_checkBoundsOffCount_d044e 3 none, Cond.methodLink RJ2 419 yJ0_checkBoundsOffCount_cabcc, Cond.static yJ0_checkBoundsOffCount_cabcc, Cond.code yJ0_checkBoundsOffCount_cabcc cJ0_checkBoundsOffCount_cabcc 3 (some .int), Cond.methodLink RJ0 1065 yJ3_checkFromIndexSize_8c36e, Cond.static yJ3_checkFromIndexSize_8c36e, Cond.code yJ3_checkFromIndexSize_8c36e cJ3_checkFromIndexSize_8c36e 4 (some .int), Cond.methodLink RJ5 399 yJ0_getBytes_840e7, Cond.instanceMethod yJ0_getBytes_840e7, Cond.selects RJ0 yJ0_getBytes_840e7 yJ0_getBytes_840e7, Cond.code yJ0_getBytes_840e7 cJ0_getBytes_840e7 4 none]
def wsX10_text_r10 : List Cond := [Cond.methodLink RJ0 212 arraycopyName, Cond.methodLink RJ0 106 yJ1_inflate_0e8fd, Cond.methodLink RX10 263 yJ4_toString_0e30d, Cond.instanceMethod yJ4_toString_0e30d, Cond.selects RJ4 yJ4_toString_0e30d yJ4_toString_0e30d, Cond.code yJ4_toString_0e30d cJ4_toString_0e30d 1 (some (.object "java/lang/String")), Cond.classLink RJ4 18 RJ0, Cond.instantiable RJ0 4, Cond.methodLink RJ4 137 yJ0_init_81219, Cond.instanceMethod yJ0_init_81219, Cond.code yJ0_init_81219 cJ0_init_81219 2 none, Cond.methodLink RJ0 489 yJ0_init_db425, Cond.instanceMethod yJ0_init_db425, Cond.code yJ0_init_db425 cJ0_init_db425 5 none, Cond.methodLink RJ0 1 objectInit, Cond.fieldLink RJ0 1048 "java/lang/AbstractStringBuilder" "maybeLatin1" "Z", Cond.methodLink RJ0 552 ⟨"java/lang/AbstractStringBuilder", "getValue", "()[B"⟩, Cond.sameMethod "java/lang/AbstractStringBuilder" "java/lang/AbstractStringBuilder" "getValue" "()[B", Cond.selects RJ4 ⟨"java/lang/AbstractStringBuilder", "getValue", "()[B"⟩ yJ5_getValue_6d5f1, Cond.instanceMethod yJ5_getValue_6d5f1, Cond.code yJ5_getValue_6d5f1 cJ5_getValue_6d5f1 1 (some (.array .byte)), Cond.methodLink RJ0 549 ⟨"java/lang/AbstractStringBuilder", "length", "()I"⟩, Cond.sameMethod "java/lang/AbstractStringBuilder" "java/lang/AbstractStringBuilder" "length" "()I", Cond.instanceMethod ⟨"java/lang/AbstractStringBuilder", "length", "()I"⟩]
def wsX10_text_r11 : List Cond := [Cond.selects RJ4 ⟨"java/lang/AbstractStringBuilder", "length", "()I"⟩ yJ4_length_8abf5, Cond.instanceMethod yJ4_length_8abf5, Cond.code yJ4_length_8abf5 cJ4_length_8abf5 1 (some .int), Cond.methodLink RJ4 343 yJ5_length_8abf5, Cond.instanceMethod yJ5_length_8abf5, Cond.code yJ5_length_8abf5 cJ5_length_8abf5 1 (some .int), Cond.methodLink RJ0 1047 ⟨"java/lang/AbstractStringBuilder", "isLatin1", "()Z"⟩, Cond.methodLink RJ0 54 yJ7_copyOfRange_39247, Cond.static yJ7_copyOfRange_39247, Cond.code yJ7_copyOfRange_39247 cJ7_copyOfRange_39247 3 (some (.array .byte)), Cond.methodLink RJ7 339 yJ7_copyOfRangeByte_39247, Cond.static yJ7_copyOfRangeByte_39247, Cond.code yJ7_copyOfRangeByte_39247 cJ7_copyOfRangeByte_39247 5 (some (.array .byte)), Cond.methodLink RJ7 343 yJ7_checkLength_df160, Cond.static yJ7_checkLength_df160, Cond.code yJ7_checkLength_df160 cJ7_checkLength_df160 2 none, Cond.classLink RJ7 45 RJ4, Cond.methodLink RJ0 1051 yJ2_compress_39247, Cond.static yJ2_compress_39247, Cond.code yJ2_compress_39247 cJ2_compress_39247 6 (some (.array .byte)), Cond.methodLink RJ2 123 yJ2_compress_5af95, Cond.static yJ2_compress_5af95, Cond.code yJ2_compress_5af95 cJ2_compress_5af95 7 (some .int), Cond.methodLink RJ2 71 yJ2_getChar_3b067]
def wsX10_text_r12 : List Cond := [Cond.static yJ2_getChar_3b067, Cond.code yJ2_getChar_3b067 cJ2_getChar_3b067 2 (some .char), Cond.methodLink RJ2 126 yJ7_copyOfRange_39247, Cond.methodLink RJ0 47 yJ2_coderFromArrayLen_85cad, Cond.static yJ2_coderFromArrayLen_85cad, Cond.code yJ2_coderFromArrayLen_85cad cJ2_coderFromArrayLen_85cad 2 (some .byte)]
def wsX10_text : List Cond := .code yX10_text cX10_text 3 (some (.object "java/lang/String")) :: ((wsX10_text_r1 ++ (wsX10_text_r2 ++ (wsX10_text_r3 ++ (wsX10_text_r4 ++ (wsX10_text_r5 ++ (wsX10_text_r6 ++ (wsX10_text_r7 ++ (wsX10_text_r8 ++ (wsX10_text_r9 ++ (wsX10_text_r10 ++ (wsX10_text_r11 ++ wsX10_text_r12))))))))))) ++ wsX100 ++ wsJ40 ++ wsX90 ++ wsJx4a65c0 ++ wsJ00)
def wsX10_quarters : List Cond := .code yX10_quarters cX10_quarters 3 (some .int) :: ([.fieldLink RX10 77 "UrnwrightModel$Urn" "counts" "[I", .methodLink RX10 212 Lib.Math.abs.name, .static Lib.Math.abs.name, .initialized "java/lang/Math", .code Lib.Math.abs.name Lib.Math.abs.code 1 (some .int), .methodLink RX10 233 Lib.Math.min.name, .static Lib.Math.min.name, .code Lib.Math.min.name Lib.Math.min.code 2 (some .int), .fieldLink RX10 90 "UrnwrightModel$Urn" "gain" "I"] ++ wsX90)
def wsX10_tilt_r1 : List Cond := [Cond.fieldLink RX10 19 "UrnwrightModel" "thrown" "I", Cond.fieldLink RX10 10 "UrnwrightModel" "urns" "Ljava/util/List;", Cond.classLink RX10 37 "UrnwrightModel$Urn", Cond.constantDouble RX10 271 (4616189618054758400), Cond.methodLink RX10 46 yX10_isUrn, Cond.instanceMethod yX10_isUrn, Cond.selects RX10 yX10_isUrn yX10_isUrn, Cond.initialized RX10, Cond.code yX10_isUrn cX10_isUrn 2 (some .boolean), Cond.methodLink RX10 23 ⟨"java/util/List", "size", "()I"⟩, Cond.selects RJx4a65c ⟨"java/util/List", "size", "()I"⟩ yJx4a65c_size_8abf5, Cond.instanceMethod yJx4a65c_size_8abf5, Cond.initialized RJx4a65c, Cond.code yJx4a65c_size_8abf5 cJx4a65c_size_8abf5 1 (some .int), Cond.fieldLink RJx4a65c 48 "java/util/ArrayList" "size" "I", Cond.methodLink RX10 29 yX10_in, Cond.static yX10_in, Cond.code yX10_in cX10_in 3 (some .boolean), Cond.methodLink RX10 50 ⟨"java/util/List", "get", "(I)Ljava/lang/Object;"⟩, Cond.selects RJx4a65c ⟨"java/util/List", "get", "(I)Ljava/lang/Object;"⟩ yJx4a65c_get_915e3, Cond.instanceMethod yJx4a65c_get_915e3, Cond.code yJx4a65c_get_915e3 cJx4a65c_get_915e3 2 (some (.object "java/lang/Object")), Cond.methodLink RJx4a65c 118 yJ15_checkIndex_7cf53, Cond.static yJ15_checkIndex_7cf53]
def wsX10_tilt_r2 : List Cond := [Cond.initialized RJ15, Cond.code yJ15_checkIndex_7cf53 cJ15_checkIndex_7cf53 2 (some .int), Cond.methodLink RJ15 105 yJ3_checkIndex_8e157, Cond.static yJ3_checkIndex_8e157, Cond.initialized RJ3, Cond.code yJ3_checkIndex_8e157 cJ3_checkIndex_8e157 3 (some .int), Cond.methodLink RJx4a65c 123 yJx4a65c_elementData_915e3, Cond.instanceMethod yJx4a65c_elementData_915e3, Cond.selects RJx4a65c yJx4a65c_elementData_915e3 yJx4a65c_elementData_915e3, Cond.code yJx4a65c_elementData_915e3 cJx4a65c_elementData_915e3 2 (some (.object "java/lang/Object")), Cond.fieldLink RJx4a65c 9 "java/util/ArrayList" "elementData" "[Ljava/lang/Object;", Cond.methodLink RX10 267 yX10_quarters, Cond.static yX10_quarters, Cond.code yX10_quarters cX10_quarters 3 (some .int), Cond.fieldLink RX10 77 "UrnwrightModel$Urn" "counts" "[I", Cond.methodLink RX10 212 Lib.Math.abs.name, Cond.static Lib.Math.abs.name, Cond.initialized "java/lang/Math", Cond.code Lib.Math.abs.name Lib.Math.abs.code 1 (some .int), Cond.methodLink RX10 233 Lib.Math.min.name, Cond.static Lib.Math.min.name, Cond.code Lib.Math.min.name Lib.Math.min.code 2 (some .int), Cond.fieldLink RX10 90 "UrnwrightModel$Urn" "gain" "I"]
def wsX10_tilt : List Cond := .code yX10_tilt cX10_tilt 2 (some .double) :: ((wsX10_tilt_r1 ++ wsX10_tilt_r2) ++ wsX100 ++ wsJx4a65c0 ++ wsX90)
def wsX10_percent_r1 : List Cond := [Cond.fieldLink RX10 19 "UrnwrightModel" "thrown" "I", Cond.fieldLink RX10 10 "UrnwrightModel" "urns" "Ljava/util/List;", Cond.classLink RX10 37 "UrnwrightModel$Urn", Cond.fieldLink RX10 77 "UrnwrightModel$Urn" "counts" "[I", Cond.methodLink RX10 46 yX10_isUrn, Cond.instanceMethod yX10_isUrn, Cond.selects RX10 yX10_isUrn yX10_isUrn, Cond.initialized RX10, Cond.code yX10_isUrn cX10_isUrn 2 (some .boolean), Cond.methodLink RX10 23 ⟨"java/util/List", "size", "()I"⟩, Cond.selects RJx4a65c ⟨"java/util/List", "size", "()I"⟩ yJx4a65c_size_8abf5, Cond.instanceMethod yJx4a65c_size_8abf5, Cond.initialized RJx4a65c, Cond.code yJx4a65c_size_8abf5 cJx4a65c_size_8abf5 1 (some .int), Cond.fieldLink RJx4a65c 48 "java/util/ArrayList" "size" "I", Cond.methodLink RX10 29 yX10_in, Cond.static yX10_in, Cond.code yX10_in cX10_in 3 (some .boolean), Cond.methodLink RX10 50 ⟨"java/util/List", "get", "(I)Ljava/lang/Object;"⟩, Cond.selects RJx4a65c ⟨"java/util/List", "get", "(I)Ljava/lang/Object;"⟩ yJx4a65c_get_915e3, Cond.instanceMethod yJx4a65c_get_915e3, Cond.code yJx4a65c_get_915e3 cJx4a65c_get_915e3 2 (some (.object "java/lang/Object")), Cond.methodLink RJx4a65c 118 yJ15_checkIndex_7cf53, Cond.static yJ15_checkIndex_7cf53]
def wsX10_percent_r2 : List Cond := [Cond.initialized RJ15, Cond.code yJ15_checkIndex_7cf53 cJ15_checkIndex_7cf53 2 (some .int), Cond.methodLink RJ15 105 yJ3_checkIndex_8e157, Cond.static yJ3_checkIndex_8e157, Cond.initialized RJ3, Cond.code yJ3_checkIndex_8e157 cJ3_checkIndex_8e157 3 (some .int), Cond.methodLink RJx4a65c 123 yJx4a65c_elementData_915e3, Cond.instanceMethod yJx4a65c_elementData_915e3, Cond.selects RJx4a65c yJx4a65c_elementData_915e3 yJx4a65c_elementData_915e3, Cond.code yJx4a65c_elementData_915e3 cJx4a65c_elementData_915e3 2 (some (.object "java/lang/Object")), Cond.fieldLink RJx4a65c 9 "java/util/ArrayList" "elementData" "[Ljava/lang/Object;", Cond.methodLink RX10 117 yX9_all, Cond.static yX9_all, Cond.initialized RX9, Cond.code yX9_all cX9_all 1 (some .int)]
def wsX10_percent : List Cond := .code yX10_percent cX10_percent 7 (some .double) :: ((wsX10_percent_r1 ++ wsX10_percent_r2) ++ wsX100 ++ wsX90 ++ wsJx4a65c0)
def wsX10_manyNow_r1 : List Cond := [Cond.arrayClass .int, Cond.fieldLink RX10 10 "UrnwrightModel" "urns" "Ljava/util/List;", Cond.classLink RX10 37 "UrnwrightModel$Urn", Cond.fieldLink RX10 77 "UrnwrightModel$Urn" "counts" "[I", Cond.fieldLink RX10 90 "UrnwrightModel$Urn" "gain" "I", Cond.fieldLink RX10 80 "UrnwrightModel$Urn" "before" "Ljava/util/List;", Cond.fieldLink RX10 16 "UrnwrightModel" "rows" "Ljava/util/List;", Cond.fieldLink RX10 93 "UrnwrightModel" "knocks" "I", Cond.methodLink RX10 23 ⟨"java/util/List", "size", "()I"⟩, Cond.selects RJx4a65c ⟨"java/util/List", "size", "()I"⟩ yJx4a65c_size_8abf5, Cond.instanceMethod yJx4a65c_size_8abf5, Cond.initialized RJx4a65c, Cond.code yJx4a65c_size_8abf5 cJx4a65c_size_8abf5 1 (some .int), Cond.fieldLink RJx4a65c 48 "java/util/ArrayList" "size" "I", Cond.methodLink RX10 50 ⟨"java/util/List", "get", "(I)Ljava/lang/Object;"⟩, Cond.selects RJx4a65c ⟨"java/util/List", "get", "(I)Ljava/lang/Object;"⟩ yJx4a65c_get_915e3, Cond.instanceMethod yJx4a65c_get_915e3, Cond.code yJx4a65c_get_915e3 cJx4a65c_get_915e3 2 (some (.object "java/lang/Object")), Cond.methodLink RJx4a65c 118 yJ15_checkIndex_7cf53, Cond.static yJ15_checkIndex_7cf53, Cond.initialized RJ15, Cond.code yJ15_checkIndex_7cf53 cJ15_checkIndex_7cf53 2 (some .int), Cond.methodLink RJ15 105 yJ3_checkIndex_8e157, Cond.static yJ3_checkIndex_8e157]
def wsX10_manyNow_r2 : List Cond := [Cond.initialized RJ3, Cond.code yJ3_checkIndex_8e157 cJ3_checkIndex_8e157 3 (some .int), Cond.methodLink RJx4a65c 123 yJx4a65c_elementData_915e3, Cond.instanceMethod yJx4a65c_elementData_915e3, Cond.selects RJx4a65c yJx4a65c_elementData_915e3 yJx4a65c_elementData_915e3, Cond.code yJx4a65c_elementData_915e3 cJx4a65c_elementData_915e3 2 (some (.object "java/lang/Object")), Cond.fieldLink RJx4a65c 9 "java/util/ArrayList" "elementData" "[Ljava/lang/Object;", Cond.methodLink RX10 117 yX9_all, Cond.static yX9_all, Cond.initialized RX9, Cond.code yX9_all cX9_all 1 (some .int), Cond.methodLink RX10 267 yX10_quarters, Cond.static yX10_quarters, Cond.initialized RX10, Cond.code yX10_quarters cX10_quarters 3 (some .int), Cond.methodLink RX10 212 Lib.Math.abs.name, Cond.static Lib.Math.abs.name, Cond.initialized "java/lang/Math", Cond.code Lib.Math.abs.name Lib.Math.abs.code 1 (some .int), Cond.methodLink RX10 233 Lib.Math.min.name, Cond.static Lib.Math.min.name, Cond.code Lib.Math.min.name Lib.Math.min.code 2 (some .int)]
def wsX10_manyNow : List Cond := .code yX10_manyNow cX10_manyNow 5 (some .int) :: ((wsX10_manyNow_r1 ++ wsX10_manyNow_r2) ++ wsX100 ++ wsX90 ++ wsJx4a65c0)
def wsX10_many_r1 : List Cond := [Cond.fieldLink RX10 19 "UrnwrightModel" "thrown" "I", Cond.methodLink RX10 29 yX10_in, Cond.static yX10_in, Cond.initialized RX10, Cond.code yX10_in cX10_in 3 (some .boolean), Cond.methodLink RX10 33 yX10_no, Cond.instanceMethod yX10_no, Cond.selects RX10 yX10_no yX10_no, Cond.code yX10_no cX10_no 2 (some .int), Cond.methodLink RX10 273 yX10_manyNow, Cond.instanceMethod yX10_manyNow, Cond.selects RX10 yX10_manyNow yX10_manyNow, Cond.code yX10_manyNow cX10_manyNow 5 (some .int), Cond.arrayClass .int, Cond.fieldLink RX10 10 "UrnwrightModel" "urns" "Ljava/util/List;", Cond.classLink RX10 37 "UrnwrightModel$Urn", Cond.fieldLink RX10 77 "UrnwrightModel$Urn" "counts" "[I", Cond.fieldLink RX10 90 "UrnwrightModel$Urn" "gain" "I", Cond.fieldLink RX10 80 "UrnwrightModel$Urn" "before" "Ljava/util/List;", Cond.fieldLink RX10 16 "UrnwrightModel" "rows" "Ljava/util/List;", Cond.fieldLink RX10 93 "UrnwrightModel" "knocks" "I", Cond.methodLink RX10 23 ⟨"java/util/List", "size", "()I"⟩, Cond.selects RJx4a65c ⟨"java/util/List", "size", "()I"⟩ yJx4a65c_size_8abf5, Cond.instanceMethod yJx4a65c_size_8abf5]
def wsX10_many_r2 : List Cond := [Cond.initialized RJx4a65c, Cond.code yJx4a65c_size_8abf5 cJx4a65c_size_8abf5 1 (some .int), Cond.fieldLink RJx4a65c 48 "java/util/ArrayList" "size" "I", Cond.methodLink RX10 50 ⟨"java/util/List", "get", "(I)Ljava/lang/Object;"⟩, Cond.selects RJx4a65c ⟨"java/util/List", "get", "(I)Ljava/lang/Object;"⟩ yJx4a65c_get_915e3, Cond.instanceMethod yJx4a65c_get_915e3, Cond.code yJx4a65c_get_915e3 cJx4a65c_get_915e3 2 (some (.object "java/lang/Object")), Cond.methodLink RJx4a65c 118 yJ15_checkIndex_7cf53, Cond.static yJ15_checkIndex_7cf53, Cond.initialized RJ15, Cond.code yJ15_checkIndex_7cf53 cJ15_checkIndex_7cf53 2 (some .int), Cond.methodLink RJ15 105 yJ3_checkIndex_8e157, Cond.static yJ3_checkIndex_8e157, Cond.initialized RJ3, Cond.code yJ3_checkIndex_8e157 cJ3_checkIndex_8e157 3 (some .int), Cond.methodLink RJx4a65c 123 yJx4a65c_elementData_915e3, Cond.instanceMethod yJx4a65c_elementData_915e3, Cond.selects RJx4a65c yJx4a65c_elementData_915e3 yJx4a65c_elementData_915e3, Cond.code yJx4a65c_elementData_915e3 cJx4a65c_elementData_915e3 2 (some (.object "java/lang/Object")), Cond.fieldLink RJx4a65c 9 "java/util/ArrayList" "elementData" "[Ljava/lang/Object;", Cond.methodLink RX10 117 yX9_all, Cond.static yX9_all, Cond.initialized RX9, Cond.code yX9_all cX9_all 1 (some .int)]
def wsX10_many_r3 : List Cond := [Cond.methodLink RX10 267 yX10_quarters, Cond.static yX10_quarters, Cond.code yX10_quarters cX10_quarters 3 (some .int), Cond.methodLink RX10 212 Lib.Math.abs.name, Cond.static Lib.Math.abs.name, Cond.initialized "java/lang/Math", Cond.code Lib.Math.abs.name Lib.Math.abs.code 1 (some .int), Cond.methodLink RX10 233 Lib.Math.min.name, Cond.static Lib.Math.min.name, Cond.code Lib.Math.min.name Lib.Math.min.code 2 (some .int)]
def wsX10_many : List Cond := .code yX10_many cX10_many 2 (some .int) :: ((wsX10_many_r1 ++ (wsX10_many_r2 ++ wsX10_many_r3)) ++ wsX100 ++ wsX90 ++ wsJx4a65c0)
def wsX10_wouldGain_r1 : List Cond := [Cond.fieldLink RX10 19 "UrnwrightModel" "thrown" "I", Cond.fieldLink RX10 10 "UrnwrightModel" "urns" "Ljava/util/List;", Cond.classLink RX10 37 "UrnwrightModel$Urn", Cond.fieldLink RX10 90 "UrnwrightModel$Urn" "gain" "I", Cond.fieldLink RX10 67 "UrnwrightModel$Urn" "pays" "[I", Cond.methodLink RX10 46 yX10_isUrn, Cond.instanceMethod yX10_isUrn, Cond.selects RX10 yX10_isUrn yX10_isUrn, Cond.initialized RX10, Cond.code yX10_isUrn cX10_isUrn 2 (some .boolean), Cond.methodLink RX10 23 ⟨"java/util/List", "size", "()I"⟩, Cond.selects RJx4a65c ⟨"java/util/List", "size", "()I"⟩ yJx4a65c_size_8abf5, Cond.instanceMethod yJx4a65c_size_8abf5, Cond.initialized RJx4a65c, Cond.code yJx4a65c_size_8abf5 cJx4a65c_size_8abf5 1 (some .int), Cond.fieldLink RJx4a65c 48 "java/util/ArrayList" "size" "I", Cond.methodLink RX10 29 yX10_in, Cond.static yX10_in, Cond.code yX10_in cX10_in 3 (some .boolean), Cond.methodLink RX10 33 yX10_no, Cond.instanceMethod yX10_no, Cond.selects RX10 yX10_no yX10_no, Cond.code yX10_no cX10_no 2 (some .int), Cond.methodLink RX10 100 yX10_draws]
def wsX10_wouldGain_r2 : List Cond := [Cond.static yX10_draws, Cond.code yX10_draws cX10_draws 3 (some .int), Cond.methodLink RX10 50 ⟨"java/util/List", "get", "(I)Ljava/lang/Object;"⟩, Cond.selects RJx4a65c ⟨"java/util/List", "get", "(I)Ljava/lang/Object;"⟩ yJx4a65c_get_915e3, Cond.instanceMethod yJx4a65c_get_915e3, Cond.code yJx4a65c_get_915e3 cJx4a65c_get_915e3 2 (some (.object "java/lang/Object")), Cond.methodLink RJx4a65c 118 yJ15_checkIndex_7cf53, Cond.static yJ15_checkIndex_7cf53, Cond.initialized RJ15, Cond.code yJ15_checkIndex_7cf53 cJ15_checkIndex_7cf53 2 (some .int), Cond.methodLink RJ15 105 yJ3_checkIndex_8e157, Cond.static yJ3_checkIndex_8e157, Cond.initialized RJ3, Cond.code yJ3_checkIndex_8e157 cJ3_checkIndex_8e157 3 (some .int), Cond.methodLink RJx4a65c 123 yJx4a65c_elementData_915e3, Cond.instanceMethod yJx4a65c_elementData_915e3, Cond.selects RJx4a65c yJx4a65c_elementData_915e3 yJx4a65c_elementData_915e3, Cond.code yJx4a65c_elementData_915e3 cJx4a65c_elementData_915e3 2 (some (.object "java/lang/Object")), Cond.fieldLink RJx4a65c 9 "java/util/ArrayList" "elementData" "[Ljava/lang/Object;", Cond.methodLink RX10 103 yX10_chanceOf, Cond.static yX10_chanceOf, Cond.code yX10_chanceOf cX10_chanceOf 6 (some (.object "UrnwrightModel$Sum")), Cond.classLink RX10 108 RX8, Cond.instantiable RX8 2]
def wsX10_wouldGain_r3 : List Cond := [Cond.initialized RX8, Cond.fieldLink RX10 77 "UrnwrightModel$Urn" "counts" "[I", Cond.instanceMethod yX8_init, Cond.code yX8_init cX8_init 1 none, Cond.methodLink RX8 1 objectInit, Cond.instanceMethod objectInit, Cond.code objectInit ⟨#[0xb1]⟩ 1 none, Cond.fieldLink RX8 7 "UrnwrightModel$Sum" "up" "J", Cond.fieldLink RX8 13 "UrnwrightModel$Sum" "down" "J", Cond.methodLink RX10 114 yX8_add, Cond.instanceMethod yX8_add, Cond.selects RX8 yX8_add yX8_add, Cond.code yX8_add cX8_add 15 (some (.object "UrnwrightModel$Sum")), Cond.methodLink RX8 22 Lib.MathLoose.abs_long.x, Cond.static Lib.MathLoose.abs_long.x, Cond.initialized "java/lang/Math", Cond.code Lib.MathLoose.abs_long.x Lib.MathLoose.abs_long.code 2 (some .long), Cond.static yX10_common, Cond.code yX10_common cX10_common 10 (some .long), Cond.methodLink RX10 117 yX9_all, Cond.static yX9_all, Cond.initialized RX9, Cond.code yX9_all cX9_all 1 (some .int), Cond.methodLink RX10 121 yX8_times]
def wsX10_wouldGain_r4 : List Cond := [Cond.instanceMethod yX8_times, Cond.selects RX8 yX8_times yX8_times, Cond.code yX8_times cX8_times 9 (some (.object "UrnwrightModel$Sum")), Cond.methodLink RX10 83 yX9_behind, Cond.instanceMethod yX9_behind, Cond.selects RX9 yX9_behind yX9_behind, Cond.code yX9_behind cX9_behind 5 (some (.array .int)), Cond.arrayClass .int, Cond.fieldLink RX9 34 "UrnwrightModel$Urn" "growth" "I", Cond.fieldLink RX9 11 "UrnwrightModel$Urn" "rules" "[[I"]
def wsX10_wouldGain : List Cond := .code yX10_wouldGain cX10_wouldGain 6 (some .int) :: ((wsX10_wouldGain_r1 ++ (wsX10_wouldGain_r2 ++ (wsX10_wouldGain_r3 ++ wsX10_wouldGain_r4))) ++ wsX100 ++ wsX80 ++ wsX90 ++ wsJx4a65c0)
def wsX10_stops_r1 : List Cond := [Cond.fieldLink RX10 10 "UrnwrightModel" "urns" "Ljava/util/List;", Cond.classLink RX10 37 "UrnwrightModel$Urn", Cond.methodLink RX10 128 yX10_canPlay, Cond.instanceMethod yX10_canPlay, Cond.selects RX10 yX10_canPlay yX10_canPlay, Cond.initialized RX10, Cond.code yX10_canPlay cX10_canPlay 3 (some .boolean), Cond.fieldLink RX10 19 "UrnwrightModel" "thrown" "I", Cond.methodLink RX10 46 yX10_isUrn, Cond.instanceMethod yX10_isUrn, Cond.selects RX10 yX10_isUrn yX10_isUrn, Cond.code yX10_isUrn cX10_isUrn 2 (some .boolean), Cond.methodLink RX10 23 ⟨"java/util/List", "size", "()I"⟩, Cond.selects RJx4a65c ⟨"java/util/List", "size", "()I"⟩ yJx4a65c_size_8abf5, Cond.instanceMethod yJx4a65c_size_8abf5, Cond.initialized RJx4a65c, Cond.code yJx4a65c_size_8abf5 cJx4a65c_size_8abf5 1 (some .int), Cond.fieldLink RJx4a65c 48 "java/util/ArrayList" "size" "I", Cond.methodLink RX10 29 yX10_in, Cond.static yX10_in, Cond.code yX10_in cX10_in 3 (some .boolean), Cond.methodLink RX10 50 ⟨"java/util/List", "get", "(I)Ljava/lang/Object;"⟩, Cond.selects RJx4a65c ⟨"java/util/List", "get", "(I)Ljava/lang/Object;"⟩ yJx4a65c_get_915e3, Cond.instanceMethod yJx4a65c_get_915e3]
def wsX10_stops_r2 : List Cond := [Cond.code yJx4a65c_get_915e3 cJx4a65c_get_915e3 2 (some (.object "java/lang/Object")), Cond.methodLink RJx4a65c 118 yJ15_checkIndex_7cf53, Cond.static yJ15_checkIndex_7cf53, Cond.initialized RJ15, Cond.code yJ15_checkIndex_7cf53 cJ15_checkIndex_7cf53 2 (some .int), Cond.methodLink RJ15 105 yJ3_checkIndex_8e157, Cond.static yJ3_checkIndex_8e157, Cond.initialized RJ3, Cond.code yJ3_checkIndex_8e157 cJ3_checkIndex_8e157 3 (some .int), Cond.methodLink RJx4a65c 123 yJx4a65c_elementData_915e3, Cond.instanceMethod yJx4a65c_elementData_915e3, Cond.selects RJx4a65c yJx4a65c_elementData_915e3 yJx4a65c_elementData_915e3, Cond.code yJx4a65c_elementData_915e3 cJx4a65c_elementData_915e3 2 (some (.object "java/lang/Object")), Cond.fieldLink RJx4a65c 9 "java/util/ArrayList" "elementData" "[Ljava/lang/Object;", Cond.methodLink RX10 125 yX9_canPlay, Cond.instanceMethod yX9_canPlay, Cond.selects RX9 yX9_canPlay yX9_canPlay, Cond.initialized RX9, Cond.code yX9_canPlay cX9_canPlay 2 (some .boolean), Cond.fieldLink RX9 34 "UrnwrightModel$Urn" "growth" "I", Cond.fieldLink RX9 31 "UrnwrightModel$Urn" "counts" "[I", Cond.methodLink RX9 47 Lib.Math.min.name, Cond.static Lib.Math.min.name, Cond.initialized "java/lang/Math"]
def wsX10_stops_r3 : List Cond := [Cond.code Lib.Math.min.name Lib.Math.min.code 2 (some .int), Cond.methodLink RX9 43 yX9_all, Cond.static yX9_all, Cond.code yX9_all cX9_all 1 (some .int), Cond.methodLink RX10 33 yX10_no, Cond.instanceMethod yX10_no, Cond.selects RX10 yX10_no yX10_no, Cond.code yX10_no cX10_no 2 (some .int), Cond.methodLink RX10 131 yX9_game, Cond.instanceMethod yX9_game, Cond.selects RX9 yX9_game yX9_game, Cond.code yX9_game cX9_game 8 (some (.object "java/util/List")), Cond.classLink RX9 20 RJx4a65c, Cond.instantiable RJx4a65c 3, Cond.classLink RX9 54 RX7, Cond.instantiable RX7 11, Cond.initialized RX7, Cond.classLink RX9 54 "UrnwrightModel$Node", Cond.fieldLink RX9 73 "UrnwrightModel$Node" "draws" "I", Cond.fieldLink RX9 76 "UrnwrightModel$Node" "counts" "[I", Cond.fieldLink RX9 81 "UrnwrightModel$Node" "from" "I", Cond.fieldLink RX9 84 "UrnwrightModel$Node" "path" "I", Cond.fieldLink RX9 87 "UrnwrightModel$Node" "gains" "I", Cond.fieldLink RX9 16 "UrnwrightModel$Urn" "pays" "[I"]
def wsX10_stops_r4 : List Cond := [Cond.fieldLink RX9 90 "UrnwrightModel$Node" "up" "J", Cond.fieldLink RX9 94 "UrnwrightModel$Node" "down" "J", Cond.fieldLink RX9 97 "UrnwrightModel$Node" "drawn" "[I", Cond.methodLink RX9 22 yJx4a65c_init_da8c8, Cond.instanceMethod yJx4a65c_init_da8c8, Cond.code yJx4a65c_init_da8c8 cJx4a65c_init_da8c8 1 none, Cond.fieldLink RJx4a65c 39 "java/util/ArrayList" "DEFAULTCAPACITY_EMPTY_ELEMENTDATA" "[Ljava/lang/Object;", Cond.methodLink RJx4a65c 1 yJxc12de_init_da8c8, Cond.instanceMethod yJxc12de_init_da8c8, Cond.initialized RJxc12de, Cond.code yJxc12de_init_da8c8 cJxc12de_init_da8c8 1 none, Cond.fieldLink RJxc12de 7 "java/util/AbstractList" "modCount" "I", Cond.methodLink RJxc12de 1 yJxa1e45_init_da8c8, Cond.instanceMethod yJxa1e45_init_da8c8, Cond.initialized RJxa1e45, Cond.code yJxa1e45_init_da8c8 cJxa1e45_init_da8c8 1 none, Cond.methodLink RJxa1e45 1 objectInit, Cond.instanceMethod objectInit, Cond.code objectInit ⟨#[0xb1]⟩ 1 none, Cond.methodLink RX9 56 yX7_init, Cond.instanceMethod yX7_init, Cond.code yX7_init cX7_init 2 none, Cond.methodLink RX7 3 objectInit, Cond.arrayClass .int]
def wsX10_stops_r5 : List Cond := [Cond.fieldLink RX7 9 "UrnwrightModel$Node" "drawn" "[I", Cond.fieldLink RX7 15 "UrnwrightModel$Node" "from" "I", Cond.fieldLink RX7 19 "UrnwrightModel$Node" "up" "J", Cond.fieldLink RX7 23 "UrnwrightModel$Node" "down" "J", Cond.classLink RX7 26 RX8, Cond.instantiable RX8 2, Cond.initialized RX8, Cond.fieldLink RX7 29 "UrnwrightModel$Node" "worth" "LUrnwrightModel$Sum;", Cond.fieldLink RX7 33 "UrnwrightModel$Node" "next" "LUrnwrightModel$Sum;", Cond.fieldLink RX7 36 "UrnwrightModel$Node" "counts" "[I", Cond.instanceMethod yX8_init, Cond.code yX8_init cX8_init 1 none, Cond.methodLink RX8 1 objectInit, Cond.fieldLink RX8 7 "UrnwrightModel$Sum" "up" "J", Cond.fieldLink RX8 13 "UrnwrightModel$Sum" "down" "J", Cond.methodLink RX9 59 ⟨"java/util/List", "add", "(Ljava/lang/Object;)Z"⟩, Cond.selects RJx4a65c ⟨"java/util/List", "add", "(Ljava/lang/Object;)Z"⟩ yJx4a65c_add_9ea2d, Cond.instanceMethod yJx4a65c_add_9ea2d, Cond.code yJx4a65c_add_9ea2d cJx4a65c_add_9ea2d 2 (some .boolean), Cond.fieldLink RJx4a65c 63 "java/util/ArrayList" "modCount" "I", Cond.sameField "java/util/ArrayList" "java/util/AbstractList" "modCount" "I", Cond.methodLink RJx4a65c 131 yJx4a65c_add_72be8, Cond.instanceMethod yJx4a65c_add_72be8, Cond.selects RJx4a65c yJx4a65c_add_72be8 yJx4a65c_add_72be8]
def wsX10_stops_r6 : List Cond := [Cond.code yJx4a65c_add_72be8 cJx4a65c_add_72be8 4 none, Cond.methodLink RJx4a65c 129 yJx4a65c_grow_d5877, Cond.instanceMethod yJx4a65c_grow_d5877, Cond.selects RJx4a65c yJx4a65c_grow_d5877 yJx4a65c_grow_d5877, Cond.code yJx4a65c_grow_d5877 cJx4a65c_grow_d5877 1 (some (.array (.object "java/lang/Object"))), Cond.methodLink RJx4a65c 69 yJx4a65c_grow_92f84, Cond.instanceMethod yJx4a65c_grow_92f84, Cond.selects RJx4a65c yJx4a65c_grow_92f84 yJx4a65c_grow_92f84, Cond.code yJx4a65c_grow_92f84 cJx4a65c_grow_92f84 4 (some (.array (.object "java/lang/Object"))), Cond.methodLink RJx4a65c 79 Lib.Math.max.name, Cond.static Lib.Math.max.name, Cond.code Lib.Math.max.name Lib.Math.max.code 2 (some .int), Cond.classLink RJx4a65c 7 "java/lang/Object", Cond.methodLink RJx4a65c 73 yJ8_newLength_cabcc, Cond.static yJ8_newLength_cabcc, Cond.initialized RJ8, Cond.code yJ8_newLength_cabcc cJ8_newLength_cabcc 4 (some .int), Cond.methodLink RJ8 194 Lib.Math.max.name, Cond.constant RJ8 200 (2147483639), Cond.methodLink RJ8 201 yJ8_hugeLength_7cf53, Cond.static yJ8_hugeLength_7cf53, Cond.code yJ8_hugeLength_7cf53 cJ8_hugeLength_7cf53 3 (some .int), Cond.methodLink RJx4a65c 66 yJ7_copyOf_1904c, Cond.static yJ7_copyOf_1904c]
def wsX10_stops_r7 : List Cond := [Cond.initialized RJ7, Cond.code yJ7_copyOf_1904c cJ7_copyOf_1904c 2 (some (.array (.object "java/lang/Object"))), Cond.methodLink RJ7 86 ⟨"java/lang/Object", "getClass", "()Ljava/lang/Class;"⟩, Cond.selects "[Ljava/lang/Object;" ⟨"java/lang/Object", "getClass", "()Ljava/lang/Class;"⟩ ⟨"java/lang/Object", "getClass", "()Ljava/lang/Class;"⟩, Cond.instanceMethod ⟨"java/lang/Object", "getClass", "()Ljava/lang/Class;"⟩, Cond.native ⟨"java/lang/Object", "getClass", "()Ljava/lang/Class;"⟩, Cond.methodLink RJ7 300 yJ7_copyOf_6403c, Cond.static yJ7_copyOf_6403c, Cond.code yJ7_copyOf_6403c cJ7_copyOf_6403c 4 (some (.array (.object "java/lang/Object"))), Cond.classLink RJ7 110 "[Ljava/lang/Object;", Cond.classLink RJ7 2 "java/lang/Object", Cond.methodLink RJ7 304 Lib.Math.min.name, Cond.methodLink RJ7 150 arraycopyName, Cond.native arraycopyName, Cond.static arraycopyName, Cond.initialized "java/lang/System", Cond.methodLink RX9 65 ⟨"java/util/List", "size", "()I"⟩, Cond.methodLink RX9 69 ⟨"java/util/List", "get", "(I)Ljava/lang/Object;"⟩, Cond.methodLink RX9 77 yX9_behind, Cond.instanceMethod yX9_behind, Cond.selects RX9 yX9_behind yX9_behind, Cond.code yX9_behind cX9_behind 5 (some (.array .int)), Cond.fieldLink RX9 11 "UrnwrightModel$Urn" "rules" "[[I", Cond.methodLink RX10 205 yX10_play]
def wsX10_stops_r8 : List Cond := [Cond.static yX10_play, Cond.code yX10_play cX10_play 10 (some .int), Cond.classLink RX10 135 "UrnwrightModel$Node", Cond.classLink RX10 108 RX8, Cond.fieldLink RX10 139 "UrnwrightModel$Node" "gains" "I", Cond.methodLink RX10 188 Lib.Math.max.name, Cond.fieldLink RX10 137 "UrnwrightModel$Node" "draws" "I", Cond.fieldLink RX10 194 "UrnwrightModel$Node" "next" "LUrnwrightModel$Sum;", Cond.fieldLink RX10 202 "UrnwrightModel$Node" "worth" "LUrnwrightModel$Sum;", Cond.fieldLink RX10 173 "UrnwrightModel$Node" "from" "I", Cond.fieldLink RX10 162 "UrnwrightModel$Node" "path" "I", Cond.fieldLink RX10 161 "UrnwrightModel$Node" "counts" "[I", Cond.methodLink RX10 114 yX8_add, Cond.instanceMethod yX8_add, Cond.selects RX8 yX8_add yX8_add, Cond.code yX8_add cX8_add 15 (some (.object "UrnwrightModel$Sum")), Cond.methodLink RX8 22 Lib.MathLoose.abs_long.x, Cond.static Lib.MathLoose.abs_long.x, Cond.code Lib.MathLoose.abs_long.x Lib.MathLoose.abs_long.code 2 (some .long), Cond.static yX10_common, Cond.code yX10_common cX10_common 10 (some .long), Cond.methodLink RX10 198 yX8_isBelow, Cond.instanceMethod yX8_isBelow, Cond.selects RX8 yX8_isBelow yX8_isBelow]
def wsX10_stops_r9 : List Cond := [Cond.code yX8_isBelow cX8_isBelow 2 (some .boolean), Cond.methodLink RX10 117 yX9_all]
def wsX10_stops : List Cond := .code yX10_stops cX10_stops 4 (some .int) :: ((wsX10_stops_r1 ++ (wsX10_stops_r2 ++ (wsX10_stops_r3 ++ (wsX10_stops_r4 ++ (wsX10_stops_r5 ++ (wsX10_stops_r6 ++ (wsX10_stops_r7 ++ (wsX10_stops_r8 ++ wsX10_stops_r9)))))))) ++ wsX100 ++ wsJx4a65c0 ++ wsX90 ++ wsX70 ++ wsX80)
def wsX10_mix : List Cond := .code yX10_mix cX10_mix 3 (some .long) :: ([.constantLong RX10 276 (31)] ++ wsX80)
def wsX10_digest_r1 : List Cond := [Cond.fieldLink RX10 19 "UrnwrightModel" "thrown" "I", Cond.constantLong RX10 278 (58240), Cond.constantLong RX10 276 (31), Cond.fieldLink RX10 10 "UrnwrightModel" "urns" "Ljava/util/List;", Cond.classLink RX10 37 "UrnwrightModel$Urn", Cond.fieldLink RX10 54 "UrnwrightModel$Urn" "growth" "I", Cond.fieldLink RX10 77 "UrnwrightModel$Urn" "counts" "[I", Cond.methodLink RX10 233 Lib.Math.min.name, Cond.static Lib.Math.min.name, Cond.initialized "java/lang/Math", Cond.code Lib.Math.min.name Lib.Math.min.code 2 (some .int), Cond.fieldLink RX10 16 "UrnwrightModel" "rows" "Ljava/util/List;", Cond.methodLink RX10 273 yX10_manyNow, Cond.instanceMethod yX10_manyNow, Cond.selects RX10 yX10_manyNow yX10_manyNow, Cond.initialized RX10, Cond.code yX10_manyNow cX10_manyNow 5 (some .int), Cond.arrayClass .int, Cond.fieldLink RX10 90 "UrnwrightModel$Urn" "gain" "I", Cond.fieldLink RX10 80 "UrnwrightModel$Urn" "before" "Ljava/util/List;", Cond.fieldLink RX10 93 "UrnwrightModel" "knocks" "I", Cond.methodLink RX10 23 ⟨"java/util/List", "size", "()I"⟩, Cond.selects RJx4a65c ⟨"java/util/List", "size", "()I"⟩ yJx4a65c_size_8abf5, Cond.instanceMethod yJx4a65c_size_8abf5]
def wsX10_digest_r2 : List Cond := [Cond.initialized RJx4a65c, Cond.code yJx4a65c_size_8abf5 cJx4a65c_size_8abf5 1 (some .int), Cond.fieldLink RJx4a65c 48 "java/util/ArrayList" "size" "I", Cond.methodLink RX10 50 ⟨"java/util/List", "get", "(I)Ljava/lang/Object;"⟩, Cond.selects RJx4a65c ⟨"java/util/List", "get", "(I)Ljava/lang/Object;"⟩ yJx4a65c_get_915e3, Cond.instanceMethod yJx4a65c_get_915e3, Cond.code yJx4a65c_get_915e3 cJx4a65c_get_915e3 2 (some (.object "java/lang/Object")), Cond.methodLink RJx4a65c 118 yJ15_checkIndex_7cf53, Cond.static yJ15_checkIndex_7cf53, Cond.initialized RJ15, Cond.code yJ15_checkIndex_7cf53 cJ15_checkIndex_7cf53 2 (some .int), Cond.methodLink RJ15 105 yJ3_checkIndex_8e157, Cond.static yJ3_checkIndex_8e157, Cond.initialized RJ3, Cond.code yJ3_checkIndex_8e157 cJ3_checkIndex_8e157 3 (some .int), Cond.methodLink RJx4a65c 123 yJx4a65c_elementData_915e3, Cond.instanceMethod yJx4a65c_elementData_915e3, Cond.selects RJx4a65c yJx4a65c_elementData_915e3 yJx4a65c_elementData_915e3, Cond.code yJx4a65c_elementData_915e3 cJx4a65c_elementData_915e3 2 (some (.object "java/lang/Object")), Cond.fieldLink RJx4a65c 9 "java/util/ArrayList" "elementData" "[Ljava/lang/Object;", Cond.methodLink RX10 117 yX9_all, Cond.static yX9_all, Cond.initialized RX9, Cond.code yX9_all cX9_all 1 (some .int)]
def wsX10_digest_r3 : List Cond := [Cond.methodLink RX10 267 yX10_quarters, Cond.static yX10_quarters, Cond.code yX10_quarters cX10_quarters 3 (some .int), Cond.methodLink RX10 212 Lib.Math.abs.name, Cond.static Lib.Math.abs.name, Cond.code Lib.Math.abs.name Lib.Math.abs.code 1 (some .int), Cond.methodLink RX10 243 yX10_urnNow, Cond.static yX10_urnNow, Cond.code yX10_urnNow cX10_urnNow 3 (some .int), Cond.fieldLink RX10 87 "UrnwrightModel$Urn" "path" "I", Cond.fieldLink RX10 71 "UrnwrightModel$Urn" "kind" "I", Cond.fieldLink RX10 67 "UrnwrightModel$Urn" "pays" "[I", Cond.methodLink RX10 131 yX9_game, Cond.instanceMethod yX9_game, Cond.selects RX9 yX9_game yX9_game, Cond.code yX9_game cX9_game 8 (some (.object "java/util/List")), Cond.classLink RX9 20 RJx4a65c, Cond.instantiable RJx4a65c 3, Cond.classLink RX9 54 RX7, Cond.instantiable RX7 11, Cond.initialized RX7, Cond.fieldLink RX9 31 "UrnwrightModel$Urn" "counts" "[I", Cond.classLink RX9 54 "UrnwrightModel$Node", Cond.fieldLink RX9 73 "UrnwrightModel$Node" "draws" "I"]
def wsX10_digest_r4 : List Cond := [Cond.fieldLink RX9 76 "UrnwrightModel$Node" "counts" "[I", Cond.fieldLink RX9 81 "UrnwrightModel$Node" "from" "I", Cond.fieldLink RX9 84 "UrnwrightModel$Node" "path" "I", Cond.fieldLink RX9 87 "UrnwrightModel$Node" "gains" "I", Cond.fieldLink RX9 16 "UrnwrightModel$Urn" "pays" "[I", Cond.fieldLink RX9 90 "UrnwrightModel$Node" "up" "J", Cond.fieldLink RX9 94 "UrnwrightModel$Node" "down" "J", Cond.fieldLink RX9 97 "UrnwrightModel$Node" "drawn" "[I", Cond.methodLink RX9 22 yJx4a65c_init_da8c8, Cond.instanceMethod yJx4a65c_init_da8c8, Cond.code yJx4a65c_init_da8c8 cJx4a65c_init_da8c8 1 none, Cond.fieldLink RJx4a65c 39 "java/util/ArrayList" "DEFAULTCAPACITY_EMPTY_ELEMENTDATA" "[Ljava/lang/Object;", Cond.methodLink RJx4a65c 1 yJxc12de_init_da8c8, Cond.instanceMethod yJxc12de_init_da8c8, Cond.initialized RJxc12de, Cond.code yJxc12de_init_da8c8 cJxc12de_init_da8c8 1 none, Cond.fieldLink RJxc12de 7 "java/util/AbstractList" "modCount" "I", Cond.methodLink RJxc12de 1 yJxa1e45_init_da8c8, Cond.instanceMethod yJxa1e45_init_da8c8, Cond.initialized RJxa1e45, Cond.code yJxa1e45_init_da8c8 cJxa1e45_init_da8c8 1 none, Cond.methodLink RJxa1e45 1 objectInit, Cond.instanceMethod objectInit, Cond.code objectInit ⟨#[0xb1]⟩ 1 none]
def wsX10_digest_r5 : List Cond := [Cond.methodLink RX9 56 yX7_init, Cond.instanceMethod yX7_init, Cond.code yX7_init cX7_init 2 none, Cond.methodLink RX7 3 objectInit, Cond.fieldLink RX7 9 "UrnwrightModel$Node" "drawn" "[I", Cond.fieldLink RX7 15 "UrnwrightModel$Node" "from" "I", Cond.fieldLink RX7 19 "UrnwrightModel$Node" "up" "J", Cond.fieldLink RX7 23 "UrnwrightModel$Node" "down" "J", Cond.classLink RX7 26 RX8, Cond.instantiable RX8 2, Cond.initialized RX8, Cond.fieldLink RX7 29 "UrnwrightModel$Node" "worth" "LUrnwrightModel$Sum;", Cond.fieldLink RX7 33 "UrnwrightModel$Node" "next" "LUrnwrightModel$Sum;", Cond.fieldLink RX7 36 "UrnwrightModel$Node" "counts" "[I", Cond.instanceMethod yX8_init, Cond.code yX8_init cX8_init 1 none, Cond.methodLink RX8 1 objectInit, Cond.fieldLink RX8 7 "UrnwrightModel$Sum" "up" "J", Cond.fieldLink RX8 13 "UrnwrightModel$Sum" "down" "J", Cond.methodLink RX9 59 ⟨"java/util/List", "add", "(Ljava/lang/Object;)Z"⟩, Cond.selects RJx4a65c ⟨"java/util/List", "add", "(Ljava/lang/Object;)Z"⟩ yJx4a65c_add_9ea2d, Cond.instanceMethod yJx4a65c_add_9ea2d, Cond.code yJx4a65c_add_9ea2d cJx4a65c_add_9ea2d 2 (some .boolean), Cond.fieldLink RJx4a65c 63 "java/util/ArrayList" "modCount" "I"]
def wsX10_digest_r6 : List Cond := [Cond.sameField "java/util/ArrayList" "java/util/AbstractList" "modCount" "I", Cond.methodLink RJx4a65c 131 yJx4a65c_add_72be8, Cond.instanceMethod yJx4a65c_add_72be8, Cond.selects RJx4a65c yJx4a65c_add_72be8 yJx4a65c_add_72be8, Cond.code yJx4a65c_add_72be8 cJx4a65c_add_72be8 4 none, Cond.methodLink RJx4a65c 129 yJx4a65c_grow_d5877, Cond.instanceMethod yJx4a65c_grow_d5877, Cond.selects RJx4a65c yJx4a65c_grow_d5877 yJx4a65c_grow_d5877, Cond.code yJx4a65c_grow_d5877 cJx4a65c_grow_d5877 1 (some (.array (.object "java/lang/Object"))), Cond.methodLink RJx4a65c 69 yJx4a65c_grow_92f84, Cond.instanceMethod yJx4a65c_grow_92f84, Cond.selects RJx4a65c yJx4a65c_grow_92f84 yJx4a65c_grow_92f84, Cond.code yJx4a65c_grow_92f84 cJx4a65c_grow_92f84 4 (some (.array (.object "java/lang/Object"))), Cond.methodLink RJx4a65c 79 Lib.Math.max.name, Cond.static Lib.Math.max.name, Cond.code Lib.Math.max.name Lib.Math.max.code 2 (some .int), Cond.classLink RJx4a65c 7 "java/lang/Object", Cond.methodLink RJx4a65c 73 yJ8_newLength_cabcc, Cond.static yJ8_newLength_cabcc, Cond.initialized RJ8, Cond.code yJ8_newLength_cabcc cJ8_newLength_cabcc 4 (some .int), Cond.methodLink RJ8 194 Lib.Math.max.name, Cond.constant RJ8 200 (2147483639), Cond.methodLink RJ8 201 yJ8_hugeLength_7cf53]
def wsX10_digest_r7 : List Cond := [Cond.static yJ8_hugeLength_7cf53, Cond.code yJ8_hugeLength_7cf53 cJ8_hugeLength_7cf53 3 (some .int), Cond.methodLink RJx4a65c 66 yJ7_copyOf_1904c, Cond.static yJ7_copyOf_1904c, Cond.initialized RJ7, Cond.code yJ7_copyOf_1904c cJ7_copyOf_1904c 2 (some (.array (.object "java/lang/Object"))), Cond.methodLink RJ7 86 ⟨"java/lang/Object", "getClass", "()Ljava/lang/Class;"⟩, Cond.selects "[Ljava/lang/Object;" ⟨"java/lang/Object", "getClass", "()Ljava/lang/Class;"⟩ ⟨"java/lang/Object", "getClass", "()Ljava/lang/Class;"⟩, Cond.instanceMethod ⟨"java/lang/Object", "getClass", "()Ljava/lang/Class;"⟩, Cond.native ⟨"java/lang/Object", "getClass", "()Ljava/lang/Class;"⟩, Cond.methodLink RJ7 300 yJ7_copyOf_6403c, Cond.static yJ7_copyOf_6403c, Cond.code yJ7_copyOf_6403c cJ7_copyOf_6403c 4 (some (.array (.object "java/lang/Object"))), Cond.classLink RJ7 110 "[Ljava/lang/Object;", Cond.classLink RJ7 2 "java/lang/Object", Cond.methodLink RJ7 304 Lib.Math.min.name, Cond.methodLink RJ7 150 arraycopyName, Cond.native arraycopyName, Cond.static arraycopyName, Cond.initialized "java/lang/System", Cond.methodLink RX9 65 ⟨"java/util/List", "size", "()I"⟩, Cond.methodLink RX9 69 ⟨"java/util/List", "get", "(I)Ljava/lang/Object;"⟩, Cond.methodLink RX9 77 yX9_behind, Cond.instanceMethod yX9_behind]
def wsX10_digest_r8 : List Cond := [Cond.selects RX9 yX9_behind yX9_behind, Cond.code yX9_behind cX9_behind 5 (some (.array .int)), Cond.fieldLink RX9 34 "UrnwrightModel$Urn" "growth" "I", Cond.fieldLink RX9 11 "UrnwrightModel$Urn" "rules" "[[I", Cond.methodLink RX9 43 yX9_all, Cond.methodLink RX10 157 yX10_meanNow, Cond.static yX10_meanNow, Cond.code yX10_meanNow cX10_meanNow 4 (some (.object "UrnwrightModel$Sum")), Cond.constantLong RX10 153 (-1), Cond.methodLink RX10 149 yX10_moment, Cond.static yX10_moment, Cond.code yX10_moment cX10_moment 6 (some (.object "UrnwrightModel$Sum")), Cond.classLink RX10 108 RX8, Cond.classLink RX10 135 "UrnwrightModel$Node", Cond.fieldLink RX10 137 "UrnwrightModel$Node" "draws" "I", Cond.fieldLink RX10 139 "UrnwrightModel$Node" "gains" "I", Cond.fieldLink RX10 142 "UrnwrightModel$Node" "up" "J", Cond.fieldLink RX10 146 "UrnwrightModel$Node" "down" "J", Cond.methodLink RX10 114 yX8_add, Cond.instanceMethod yX8_add, Cond.selects RX8 yX8_add yX8_add, Cond.code yX8_add cX8_add 15 (some (.object "UrnwrightModel$Sum")), Cond.methodLink RX8 22 Lib.MathLoose.abs_long.x, Cond.static Lib.MathLoose.abs_long.x]
def wsX10_digest_r9 : List Cond := [Cond.code Lib.MathLoose.abs_long.x Lib.MathLoose.abs_long.code 2 (some .long), Cond.static yX10_common, Cond.code yX10_common cX10_common 10 (some .long), Cond.methodLink RX10 280 yX10_mix, Cond.static yX10_mix, Cond.code yX10_mix cX10_mix 3 (some .long), Cond.methodLink RX10 163 yX10_unfairNow, Cond.static yX10_unfairNow, Cond.code yX10_unfairNow cX10_unfairNow 7 (some .int), Cond.fieldLink RX10 161 "UrnwrightModel$Node" "counts" "[I", Cond.fieldLink RX10 162 "UrnwrightModel$Node" "path" "I", Cond.methodLink RX10 167 yX10_orderedNow, Cond.static yX10_orderedNow, Cond.code yX10_orderedNow cX10_orderedNow 9 (some .int), Cond.methodLink RX10 103 yX10_chanceOf, Cond.static yX10_chanceOf, Cond.code yX10_chanceOf cX10_chanceOf 6 (some (.object "UrnwrightModel$Sum")), Cond.methodLink RX10 121 yX8_times, Cond.instanceMethod yX8_times, Cond.selects RX8 yX8_times yX8_times, Cond.code yX8_times cX8_times 9 (some (.object "UrnwrightModel$Sum")), Cond.methodLink RX10 83 yX9_behind, Cond.methodLink RX10 184 yX10_stoppedNow, Cond.static yX10_stoppedNow]
def wsX10_digest_r10 : List Cond := [Cond.code yX10_stoppedNow cX10_stoppedNow 7 (some (.object "UrnwrightModel$Sum")), Cond.fieldLink RX10 173 "UrnwrightModel$Node" "from" "I", Cond.fieldLink RX10 176 "UrnwrightModel$Node" "isOver" "Z", Cond.methodLink RX10 180 yX9_holds, Cond.instanceMethod yX9_holds, Cond.selects RX9 yX9_holds yX9_holds, Cond.code yX9_holds cX9_holds 2 (some .boolean), Cond.fieldLink RX9 100 "UrnwrightModel$Urn" "kind" "I", Cond.fieldLink RX9 27 "UrnwrightModel$Urn" "number" "I", Cond.methodLink RX9 37 Lib.Math.max.name, Cond.methodLink RX10 209 yX10_worthNow, Cond.static yX10_worthNow, Cond.code yX10_worthNow cX10_worthNow 3 (some (.object "UrnwrightModel$Sum")), Cond.fieldLink RX10 202 "UrnwrightModel$Node" "worth" "LUrnwrightModel$Sum;", Cond.methodLink RX10 205 yX10_play, Cond.static yX10_play, Cond.code yX10_play cX10_play 10 (some .int), Cond.methodLink RX10 188 Lib.Math.max.name, Cond.fieldLink RX10 194 "UrnwrightModel$Node" "next" "LUrnwrightModel$Sum;", Cond.methodLink RX10 198 yX8_isBelow, Cond.instanceMethod yX8_isBelow, Cond.selects RX8 yX8_isBelow yX8_isBelow, Cond.code yX8_isBelow cX8_isBelow 2 (some .boolean), Cond.methodLink RX10 229 yX10_distanceNow]
def wsX10_digest_r11 : List Cond := [Cond.instanceMethod yX10_distanceNow, Cond.selects RX10 yX10_distanceNow yX10_distanceNow, Cond.code yX10_distanceNow cX10_distanceNow 7 (some (.object "UrnwrightModel$Sum")), Cond.classLink RX10 99 "[I", Cond.constantLong RX10 224 (2), Cond.methodLink RX10 223 yX10_all, Cond.static yX10_all, Cond.code yX10_all cX10_all 1 (some .int)]
def wsX10_digest : List Cond := .code yX10_digest cX10_digest 7 (some .long) :: ((wsX10_digest_r1 ++ (wsX10_digest_r2 ++ (wsX10_digest_r3 ++ (wsX10_digest_r4 ++ (wsX10_digest_r5 ++ (wsX10_digest_r6 ++ (wsX10_digest_r7 ++ (wsX10_digest_r8 ++ (wsX10_digest_r9 ++ (wsX10_digest_r10 ++ wsX10_digest_r11)))))))))) ++ wsX100 ++ wsX90 ++ wsJx4a65c0 ++ wsX70 ++ wsX80)
def wsJ9_abs_0f7a4 : List Cond := .code yJ9_abs_0f7a4 cJ9_abs_0f7a4 1 (some .int) :: ([])
def wsJ9_abs_067f4 : List Cond := .code yJ9_abs_067f4 cJ9_abs_067f4 2 (some .long) :: ([])
def wsJ9_max_7cf53 : List Cond := .code yJ9_max_7cf53 cJ9_max_7cf53 2 (some .int) :: ([])
def wsJ9_max_f86c9 : List Cond := .code yJ9_max_f86c9 cJ9_max_f86c9 4 (some .long) :: ([])
def wsJ9_min_7cf53 : List Cond := .code yJ9_min_7cf53 cJ9_min_7cf53 2 (some .int) :: ([])
def wsJ9_min_f86c9 : List Cond := .code yJ9_min_f86c9 cJ9_min_f86c9 4 (some .long) :: ([])
def wsL_far_r1 : List Cond := [Cond.classLink RL 19 "java/lang/IllegalArgumentException", Cond.methodLink RL 93 yX5_far, Cond.instanceMethod yX5_far, Cond.selects RX5 yX5_far yX5_far, Cond.initialized RX5, Cond.code yX5_far cX5_far 8 (some .long), Cond.classLink RX5 46 "java/lang/IllegalArgumentException", Cond.initialized "java/lang/IllegalArgumentException", Cond.fieldLink RX5 38 "Urnwright" "deck" "LUrnwright$Deck;", Cond.constantLong RX5 229 (2), Cond.methodLink RX5 42 yX5_isWithin, Cond.static yX5_isWithin, Cond.code yX5_isWithin cX5_isWithin 3 (some .boolean), Cond.methodLink RX5 248 yX5_factorial, Cond.static yX5_factorial, Cond.code yX5_factorial cX5_factorial 4 (some .long), Cond.methodLink RX5 213 yX5_power, Cond.static yX5_power, Cond.code yX5_power cX5_power 5 (some .long), Cond.instanceMethod yX0_shuffle, Cond.initialized RX0, Cond.selects RX0 yX0_shuffle yX0_shuffle, Cond.code yX0_shuffle cX0_shuffle 5 none, Cond.fieldLink RX0 9 "Urnwright$Deck" "runs" "[J"]
def wsL_far_r2 : List Cond := [Cond.static yX5_put_, Cond.code yX5_put_ cX5_put_ 4 none, Cond.static yX5_at_, Cond.code yX5_at_ cX5_at_ 2 (some .long), Cond.instanceMethod yX0_sumOfDifferences, Cond.selects RX0 yX0_sumOfDifferences yX0_sumOfDifferences, Cond.code yX0_sumOfDifferences cX0_sumOfDifferences 13 (some .long), Cond.methodLink RX0 27 Lib.MathLoose.abs_long.x, Cond.static Lib.MathLoose.abs_long.x, Cond.initialized "java/lang/Math", Cond.code Lib.MathLoose.abs_long.x Lib.MathLoose.abs_long.code 2 (some .long), Cond.methodLink RX0 23 yX0_ordersWithEnd, Cond.static yX0_ordersWithEnd, Cond.code yX0_ordersWithEnd cX0_ordersWithEnd 5 (some .long), Cond.methodLink RX5 161 yX5_part, Cond.static yX5_part, Cond.code yX5_part cX5_part 9 (some .long), Cond.methodLink RX5 358 Lib.MathLoose.abs_long.x, Cond.methodLink RX5 361 yX5_sharedDivisor, Cond.static yX5_sharedDivisor, Cond.code yX5_sharedDivisor cX5_sharedDivisor 11 (some .long)]
def wsL_far : List Cond := .codeWith yL_far cL_far 6 (some .int) [(0, 12, 15, 19)] :: ((wsL_far_r1 ++ wsL_far_r2) ++ wsX60 ++ wsX50 ++ wsX00 ++ (vx_atS RX5 50 "java/lang/IllegalArgumentException" ["java/lang/RuntimeException", "java/lang/Exception"]).filter goodWord)
theorem dX0_init_0 : decode cX0_init 0 = .ok (.aload_n 0, 1) := by decide +kernel
theorem dX0_init_1 : decode cX0_init 1 = .ok (.invokespecial 3, 3) := by decide +kernel
theorem dX0_init_4 : decode cX0_init 4 = .ok (.aload_n 0, 1) := by decide +kernel
theorem dX0_init_5 : decode cX0_init 5 = .ok (.bipush 6, 2) := by decide +kernel
theorem dX0_init_7 : decode cX0_init 7 = .ok (.newarray .long, 2) := by decide +kernel
theorem dX0_init_9 : decode cX0_init 9 = .ok (.putfield 9, 3) := by decide +kernel
theorem dX0_init_12 : decode cX0_init 12 = .ok (.return_, 1) := by decide +kernel
set_option maxRecDepth 20000 in
theorem ggX0_shuffle_X5_put_ : GoodIn wsX0_shuffle wsX5_put_ := goodIn_r _ [4] (by decide +kernel) (by decide +kernel)
set_option maxRecDepth 20000 in
theorem gX0_shuffle_X5_put__n15 : GoodIn wsX0_shuffle (wsX5_put_) := ggX0_shuffle_X5_put_
set_option maxRecDepth 20000 in
theorem ggX0_shuffle_X5_at_ : GoodIn wsX0_shuffle wsX5_at_ := goodIn_r _ [6] (by decide +kernel) (by decide +kernel)
set_option maxRecDepth 20000 in
theorem gX0_shuffle_X5_at__n19 : GoodIn wsX0_shuffle (wsX5_at_) := ggX0_shuffle_X5_at_
theorem dX0_shuffle_0 : decode cX0_shuffle 0 = .ok (.iconst 0, 1) := by decide +kernel
theorem dX0_shuffle_1 : decode cX0_shuffle 1 = .ok (.istore_n 3, 1) := by decide +kernel
theorem dX0_shuffle_2 : decode cX0_shuffle 2 = .ok (.iload_n 3, 1) := by decide +kernel
theorem dX0_shuffle_3 : decode cX0_shuffle 3 = .ok (.iload_n 1, 1) := by decide +kernel
theorem dX0_shuffle_4 : decode cX0_shuffle 4 = .ok (.if_icmp .gt 26, 3) := by decide +kernel
theorem dX0_shuffle_7 : decode cX0_shuffle 7 = .ok (.aload_n 0, 1) := by decide +kernel
theorem dX0_shuffle_8 : decode cX0_shuffle 8 = .ok (.getfield 9, 3) := by decide +kernel
theorem dX0_shuffle_11 : decode cX0_shuffle 11 = .ok (.iload_n 3, 1) := by decide +kernel
theorem dX0_shuffle_12 : decode cX0_shuffle 12 = .ok (.iload_n 3, 1) := by decide +kernel
theorem dX0_shuffle_13 : decode cX0_shuffle 13 = .ok (.ifCond .ne 7, 3) := by decide +kernel
theorem dX0_shuffle_16 : decode cX0_shuffle 16 = .ok (.lconst 1, 1) := by decide +kernel
theorem dX0_shuffle_17 : decode cX0_shuffle 17 = .ok (.goto 4, 3) := by decide +kernel
theorem dX0_shuffle_20 : decode cX0_shuffle 20 = .ok (.lconst 0, 1) := by decide +kernel
theorem dX0_shuffle_21 : decode cX0_shuffle 21 = .ok (.invokestatic 15, 3) := by decide +kernel
theorem dX0_shuffle_24 : decode cX0_shuffle 24 = .ok (.iinc 3 1, 3) := by decide +kernel
theorem dX0_shuffle_27 : decode cX0_shuffle 27 = .ok (.goto (-25), 3) := by decide +kernel
theorem dX0_shuffle_30 : decode cX0_shuffle 30 = .ok (.iconst 0, 1) := by decide +kernel
theorem dX0_shuffle_31 : decode cX0_shuffle 31 = .ok (.istore_n 3, 1) := by decide +kernel
theorem dX0_shuffle_32 : decode cX0_shuffle 32 = .ok (.iload_n 3, 1) := by decide +kernel
theorem dX0_shuffle_33 : decode cX0_shuffle 33 = .ok (.iload_n 2, 1) := by decide +kernel
theorem dX0_shuffle_34 : decode cX0_shuffle 34 = .ok (.if_icmp .ge 66, 3) := by decide +kernel
theorem dX0_shuffle_37 : decode cX0_shuffle 37 = .ok (.iload_n 1, 1) := by decide +kernel
theorem dX0_shuffle_38 : decode cX0_shuffle 38 = .ok (.istore 4, 2) := by decide +kernel
theorem dX0_shuffle_40 : decode cX0_shuffle 40 = .ok (.iload 4, 2) := by decide +kernel
theorem dX0_shuffle_42 : decode cX0_shuffle 42 = .ok (.ifCond .le 43, 3) := by decide +kernel
theorem dX0_shuffle_45 : decode cX0_shuffle 45 = .ok (.aload_n 0, 1) := by decide +kernel
theorem dX0_shuffle_46 : decode cX0_shuffle 46 = .ok (.getfield 9, 3) := by decide +kernel
theorem dX0_shuffle_49 : decode cX0_shuffle 49 = .ok (.iload 4, 2) := by decide +kernel
theorem dX0_shuffle_51 : decode cX0_shuffle 51 = .ok (.aload_n 0, 1) := by decide +kernel
theorem dX0_shuffle_52 : decode cX0_shuffle 52 = .ok (.getfield 9, 3) := by decide +kernel
theorem dX0_shuffle_55 : decode cX0_shuffle 55 = .ok (.iload 4, 2) := by decide +kernel
theorem dX0_shuffle_57 : decode cX0_shuffle 57 = .ok (.invokestatic 19, 3) := by decide +kernel
theorem dX0_shuffle_60 : decode cX0_shuffle 60 = .ok (.iload 4, 2) := by decide +kernel
theorem dX0_shuffle_62 : decode cX0_shuffle 62 = .ok (.i2l, 1) := by decide +kernel
theorem dX0_shuffle_63 : decode cX0_shuffle 63 = .ok (.lmul, 1) := by decide +kernel
theorem dX0_shuffle_64 : decode cX0_shuffle 64 = .ok (.aload_n 0, 1) := by decide +kernel
theorem dX0_shuffle_65 : decode cX0_shuffle 65 = .ok (.getfield 9, 3) := by decide +kernel
theorem dX0_shuffle_68 : decode cX0_shuffle 68 = .ok (.iload 4, 2) := by decide +kernel
theorem dX0_shuffle_70 : decode cX0_shuffle 70 = .ok (.iconst 1, 1) := by decide +kernel
theorem dX0_shuffle_71 : decode cX0_shuffle 71 = .ok (.isub, 1) := by decide +kernel
theorem dX0_shuffle_72 : decode cX0_shuffle 72 = .ok (.invokestatic 19, 3) := by decide +kernel
theorem dX0_shuffle_75 : decode cX0_shuffle 75 = .ok (.ladd, 1) := by decide +kernel
theorem dX0_shuffle_76 : decode cX0_shuffle 76 = .ok (.invokestatic 15, 3) := by decide +kernel
theorem dX0_shuffle_79 : decode cX0_shuffle 79 = .ok (.iinc 4 (-1), 3) := by decide +kernel
theorem dX0_shuffle_82 : decode cX0_shuffle 82 = .ok (.goto (-42), 3) := by decide +kernel
theorem dX0_shuffle_85 : decode cX0_shuffle 85 = .ok (.aload_n 0, 1) := by decide +kernel
theorem dX0_shuffle_86 : decode cX0_shuffle 86 = .ok (.getfield 9, 3) := by decide +kernel
theorem dX0_shuffle_89 : decode cX0_shuffle 89 = .ok (.iconst 0, 1) := by decide +kernel
theorem dX0_shuffle_90 : decode cX0_shuffle 90 = .ok (.lconst 0, 1) := by decide +kernel
theorem dX0_shuffle_91 : decode cX0_shuffle 91 = .ok (.invokestatic 15, 3) := by decide +kernel
theorem dX0_shuffle_94 : decode cX0_shuffle 94 = .ok (.iinc 3 1, 3) := by decide +kernel
theorem dX0_shuffle_97 : decode cX0_shuffle 97 = .ok (.goto (-65), 3) := by decide +kernel
theorem dX0_shuffle_100 : decode cX0_shuffle 100 = .ok (.return_, 1) := by decide +kernel
set_option maxRecDepth 20000 in
theorem ggX0_sumOfDifferences_X5_at_ : GoodIn wsX0_sumOfDifferences wsX5_at_ := goodIn_r _ [8] (by decide +kernel) (by decide +kernel)
set_option maxRecDepth 20000 in
theorem gX0_sumOfDifferences_X5_at__n19 : GoodIn wsX0_sumOfDifferences (wsX5_at_) := ggX0_sumOfDifferences_X5_at_
set_option maxRecDepth 20000 in
theorem ggX0_sumOfDifferences_X0_ordersWithEnd : GoodIn wsX0_sumOfDifferences wsX0_ordersWithEnd := goodIn_r _ [12] (by decide +kernel) (by decide +kernel)
set_option maxRecDepth 20000 in
theorem gX0_sumOfDifferences_X0_ordersWithEnd : GoodIn wsX0_sumOfDifferences (va_wsS RX0 23 yX0_ordersWithEnd wsX0_ordersWithEnd) := goodIn_app (goodIn_of _ (by decide +kernel)) ggX0_sumOfDifferences_X0_ordersWithEnd
theorem dX0_sumOfDifferences_0 : decode cX0_sumOfDifferences 0 = .ok (.lconst 0, 1) := by decide +kernel
theorem dX0_sumOfDifferences_1 : decode cX0_sumOfDifferences 1 = .ok (.lstore 6, 2) := by decide +kernel
theorem dX0_sumOfDifferences_3 : decode cX0_sumOfDifferences 3 = .ok (.aload_n 0, 1) := by decide +kernel
theorem dX0_sumOfDifferences_4 : decode cX0_sumOfDifferences 4 = .ok (.getfield 9, 3) := by decide +kernel
theorem dX0_sumOfDifferences_7 : decode cX0_sumOfDifferences 7 = .ok (.iload_n 1, 1) := by decide +kernel
theorem dX0_sumOfDifferences_8 : decode cX0_sumOfDifferences 8 = .ok (.invokestatic 19, 3) := by decide +kernel
theorem dX0_sumOfDifferences_11 : decode cX0_sumOfDifferences 11 = .ok (.lstore 8, 2) := by decide +kernel
theorem dX0_sumOfDifferences_13 : decode cX0_sumOfDifferences 13 = .ok (.iconst 1, 1) := by decide +kernel
theorem dX0_sumOfDifferences_14 : decode cX0_sumOfDifferences 14 = .ok (.istore 10, 2) := by decide +kernel
theorem dX0_sumOfDifferences_16 : decode cX0_sumOfDifferences 16 = .ok (.iload 10, 2) := by decide +kernel
theorem dX0_sumOfDifferences_18 : decode cX0_sumOfDifferences 18 = .ok (.iload_n 1, 1) := by decide +kernel
theorem dX0_sumOfDifferences_19 : decode cX0_sumOfDifferences 19 = .ok (.if_icmp .gt 60, 3) := by decide +kernel
theorem dX0_sumOfDifferences_22 : decode cX0_sumOfDifferences 22 = .ok (.lload 8, 2) := by decide +kernel
theorem dX0_sumOfDifferences_24 : decode cX0_sumOfDifferences 24 = .ok (.aload_n 0, 1) := by decide +kernel
theorem dX0_sumOfDifferences_25 : decode cX0_sumOfDifferences 25 = .ok (.getfield 9, 3) := by decide +kernel
theorem dX0_sumOfDifferences_28 : decode cX0_sumOfDifferences 28 = .ok (.iload_n 1, 1) := by decide +kernel
theorem dX0_sumOfDifferences_29 : decode cX0_sumOfDifferences 29 = .ok (.iload 10, 2) := by decide +kernel
theorem dX0_sumOfDifferences_31 : decode cX0_sumOfDifferences 31 = .ok (.isub, 1) := by decide +kernel
theorem dX0_sumOfDifferences_32 : decode cX0_sumOfDifferences 32 = .ok (.invokestatic 19, 3) := by decide +kernel
theorem dX0_sumOfDifferences_35 : decode cX0_sumOfDifferences 35 = .ok (.ladd, 1) := by decide +kernel
theorem dX0_sumOfDifferences_36 : decode cX0_sumOfDifferences 36 = .ok (.lstore 8, 2) := by decide +kernel
theorem dX0_sumOfDifferences_38 : decode cX0_sumOfDifferences 38 = .ok (.iload_n 1, 1) := by decide +kernel
theorem dX0_sumOfDifferences_39 : decode cX0_sumOfDifferences 39 = .ok (.iload 10, 2) := by decide +kernel
theorem dX0_sumOfDifferences_41 : decode cX0_sumOfDifferences 41 = .ok (.invokestatic 23, 3) := by decide +kernel
theorem dX0_sumOfDifferences_44 : decode cX0_sumOfDifferences 44 = .ok (.iload_n 1, 1) := by decide +kernel
theorem dX0_sumOfDifferences_45 : decode cX0_sumOfDifferences 45 = .ok (.iload 10, 2) := by decide +kernel
theorem dX0_sumOfDifferences_47 : decode cX0_sumOfDifferences 47 = .ok (.iconst 1, 1) := by decide +kernel
theorem dX0_sumOfDifferences_48 : decode cX0_sumOfDifferences 48 = .ok (.iadd, 1) := by decide +kernel
theorem dX0_sumOfDifferences_49 : decode cX0_sumOfDifferences 49 = .ok (.invokestatic 23, 3) := by decide +kernel
theorem dX0_sumOfDifferences_52 : decode cX0_sumOfDifferences 52 = .ok (.lsub, 1) := by decide +kernel
theorem dX0_sumOfDifferences_53 : decode cX0_sumOfDifferences 53 = .ok (.lstore 11, 2) := by decide +kernel
theorem dX0_sumOfDifferences_55 : decode cX0_sumOfDifferences 55 = .ok (.lload 6, 2) := by decide +kernel
theorem dX0_sumOfDifferences_57 : decode cX0_sumOfDifferences 57 = .ok (.lload 11, 2) := by decide +kernel
theorem dX0_sumOfDifferences_59 : decode cX0_sumOfDifferences 59 = .ok (.lload 8, 2) := by decide +kernel
theorem dX0_sumOfDifferences_61 : decode cX0_sumOfDifferences 61 = .ok (.lload_n 2, 1) := by decide +kernel
theorem dX0_sumOfDifferences_62 : decode cX0_sumOfDifferences 62 = .ok (.lmul, 1) := by decide +kernel
theorem dX0_sumOfDifferences_63 : decode cX0_sumOfDifferences 63 = .ok (.lload 4, 2) := by decide +kernel
theorem dX0_sumOfDifferences_65 : decode cX0_sumOfDifferences 65 = .ok (.lsub, 1) := by decide +kernel
theorem dX0_sumOfDifferences_66 : decode cX0_sumOfDifferences 66 = .ok (.invokestatic 27, 3) := by decide +kernel
theorem dX0_sumOfDifferences_69 : decode cX0_sumOfDifferences 69 = .ok (.lmul, 1) := by decide +kernel
theorem dX0_sumOfDifferences_70 : decode cX0_sumOfDifferences 70 = .ok (.ladd, 1) := by decide +kernel
theorem dX0_sumOfDifferences_71 : decode cX0_sumOfDifferences 71 = .ok (.lstore 6, 2) := by decide +kernel
theorem dX0_sumOfDifferences_73 : decode cX0_sumOfDifferences 73 = .ok (.iinc 10 1, 3) := by decide +kernel
theorem dX0_sumOfDifferences_76 : decode cX0_sumOfDifferences 76 = .ok (.goto (-60), 3) := by decide +kernel
theorem dX0_sumOfDifferences_79 : decode cX0_sumOfDifferences 79 = .ok (.lload 6, 2) := by decide +kernel
theorem dX0_sumOfDifferences_81 : decode cX0_sumOfDifferences 81 = .ok (.lreturn, 1) := by decide +kernel
theorem dX0_ordersWithEnd_0 : decode cX0_ordersWithEnd 0 = .ok (.iload_n 1, 1) := by decide +kernel
theorem dX0_ordersWithEnd_1 : decode cX0_ordersWithEnd 1 = .ok (.iload_n 0, 1) := by decide +kernel
theorem dX0_ordersWithEnd_2 : decode cX0_ordersWithEnd 2 = .ok (.if_icmp .le 7, 3) := by decide +kernel
theorem dX0_ordersWithEnd_5 : decode cX0_ordersWithEnd 5 = .ok (.lconst 0, 1) := by decide +kernel
theorem dX0_ordersWithEnd_6 : decode cX0_ordersWithEnd 6 = .ok (.goto 4, 3) := by decide +kernel
theorem dX0_ordersWithEnd_9 : decode cX0_ordersWithEnd 9 = .ok (.lconst 1, 1) := by decide +kernel
theorem dX0_ordersWithEnd_10 : decode cX0_ordersWithEnd 10 = .ok (.lstore_n 2, 1) := by decide +kernel
theorem dX0_ordersWithEnd_11 : decode cX0_ordersWithEnd 11 = .ok (.iload_n 1, 1) := by decide +kernel
theorem dX0_ordersWithEnd_12 : decode cX0_ordersWithEnd 12 = .ok (.iconst 1, 1) := by decide +kernel
theorem dX0_ordersWithEnd_13 : decode cX0_ordersWithEnd 13 = .ok (.iadd, 1) := by decide +kernel
theorem dX0_ordersWithEnd_14 : decode cX0_ordersWithEnd 14 = .ok (.istore 4, 2) := by decide +kernel
theorem dX0_ordersWithEnd_16 : decode cX0_ordersWithEnd 16 = .ok (.iload 4, 2) := by decide +kernel
theorem dX0_ordersWithEnd_18 : decode cX0_ordersWithEnd 18 = .ok (.iload_n 0, 1) := by decide +kernel
theorem dX0_ordersWithEnd_19 : decode cX0_ordersWithEnd 19 = .ok (.if_icmp .gt 15, 3) := by decide +kernel
theorem dX0_ordersWithEnd_22 : decode cX0_ordersWithEnd 22 = .ok (.lload_n 2, 1) := by decide +kernel
theorem dX0_ordersWithEnd_23 : decode cX0_ordersWithEnd 23 = .ok (.iload 4, 2) := by decide +kernel
theorem dX0_ordersWithEnd_25 : decode cX0_ordersWithEnd 25 = .ok (.i2l, 1) := by decide +kernel
theorem dX0_ordersWithEnd_26 : decode cX0_ordersWithEnd 26 = .ok (.lmul, 1) := by decide +kernel
theorem dX0_ordersWithEnd_27 : decode cX0_ordersWithEnd 27 = .ok (.lstore_n 2, 1) := by decide +kernel
theorem dX0_ordersWithEnd_28 : decode cX0_ordersWithEnd 28 = .ok (.iinc 4 1, 3) := by decide +kernel
theorem dX0_ordersWithEnd_31 : decode cX0_ordersWithEnd 31 = .ok (.goto (-15), 3) := by decide +kernel
theorem dX0_ordersWithEnd_34 : decode cX0_ordersWithEnd 34 = .ok (.lload_n 2, 1) := by decide +kernel
theorem dX0_ordersWithEnd_35 : decode cX0_ordersWithEnd 35 = .ok (.lreturn, 1) := by decide +kernel
theorem dX1_init_0 : decode cX1_init 0 = .ok (.aload_n 0, 1) := by decide +kernel
theorem dX1_init_1 : decode cX1_init 1 = .ok (.invokespecial 3, 3) := by decide +kernel
theorem dX1_init_4 : decode cX1_init 4 = .ok (.aload_n 0, 1) := by decide +kernel
theorem dX1_init_5 : decode cX1_init 5 = .ok (.bipush 121, 2) := by decide +kernel
theorem dX1_init_7 : decode cX1_init 7 = .ok (.newarray .long, 2) := by decide +kernel
theorem dX1_init_9 : decode cX1_init 9 = .ok (.putfield 9, 3) := by decide +kernel
theorem dX1_init_12 : decode cX1_init 12 = .ok (.aload_n 0, 1) := by decide +kernel
theorem dX1_init_13 : decode cX1_init 13 = .ok (.bipush 121, 2) := by decide +kernel
theorem dX1_init_15 : decode cX1_init 15 = .ok (.newarray .int, 2) := by decide +kernel
theorem dX1_init_17 : decode cX1_init 17 = .ok (.putfield 15, 3) := by decide +kernel
theorem dX1_init_20 : decode cX1_init 20 = .ok (.aload_n 0, 1) := by decide +kernel
theorem dX1_init_21 : decode cX1_init 21 = .ok (.bipush 121, 2) := by decide +kernel
theorem dX1_init_23 : decode cX1_init 23 = .ok (.newarray .int, 2) := by decide +kernel
theorem dX1_init_25 : decode cX1_init 25 = .ok (.putfield 19, 3) := by decide +kernel
theorem dX1_init_28 : decode cX1_init 28 = .ok (.aload_n 0, 1) := by decide +kernel
theorem dX1_init_29 : decode cX1_init 29 = .ok (.sipush 363, 3) := by decide +kernel
theorem dX1_init_32 : decode cX1_init 32 = .ok (.newarray .int, 2) := by decide +kernel
theorem dX1_init_34 : decode cX1_init 34 = .ok (.putfield 22, 3) := by decide +kernel
theorem dX1_init_37 : decode cX1_init 37 = .ok (.aload_n 0, 1) := by decide +kernel
theorem dX1_init_38 : decode cX1_init 38 = .ok (.bipush 121, 2) := by decide +kernel
theorem dX1_init_40 : decode cX1_init 40 = .ok (.newarray .long, 2) := by decide +kernel
theorem dX1_init_42 : decode cX1_init 42 = .ok (.putfield 25, 3) := by decide +kernel
theorem dX1_init_45 : decode cX1_init 45 = .ok (.aload_n 0, 1) := by decide +kernel
theorem dX1_init_46 : decode cX1_init 46 = .ok (.bipush 121, 2) := by decide +kernel
theorem dX1_init_48 : decode cX1_init 48 = .ok (.newarray .boolean, 2) := by decide +kernel
theorem dX1_init_50 : decode cX1_init 50 = .ok (.putfield 28, 3) := by decide +kernel
theorem dX1_init_53 : decode cX1_init 53 = .ok (.return_, 1) := by decide +kernel
theorem dX3_init_0 : decode cX3_init 0 = .ok (.aload_n 0, 1) := by decide +kernel
theorem dX3_init_1 : decode cX3_init 1 = .ok (.invokespecial 3, 3) := by decide +kernel
theorem dX3_init_4 : decode cX3_init 4 = .ok (.aload_n 0, 1) := by decide +kernel
theorem dX3_init_5 : decode cX3_init 5 = .ok (.iconst 5, 1) := by decide +kernel
theorem dX3_init_6 : decode cX3_init 6 = .ok (.newarray .int, 2) := by decide +kernel
theorem dX3_init_8 : decode cX3_init 8 = .ok (.putfield 9, 3) := by decide +kernel
theorem dX3_init_11 : decode cX3_init 11 = .ok (.aload_n 0, 1) := by decide +kernel
theorem dX3_init_12 : decode cX3_init 12 = .ok (.iconst 5, 1) := by decide +kernel
theorem dX3_init_13 : decode cX3_init 13 = .ok (.newarray .int, 2) := by decide +kernel
theorem dX3_init_15 : decode cX3_init 15 = .ok (.putfield 15, 3) := by decide +kernel
theorem dX3_init_18 : decode cX3_init 18 = .ok (.return_, 1) := by decide +kernel
set_option maxRecDepth 20000 in
theorem ggX5_init_X1_init : GoodIn wsX5_init wsX1_init := goodIn_r _ [21, 22, 2, 3, 23, 24, 25, 26, 27, 28, 29, 30, 31, 49, 50, 51, 52, 53, 54, 55, 56, 57] (by decide +kernel) (by decide +kernel)
set_option maxRecDepth 20000 in
theorem gX5_init_X1_init_n23 : GoodIn wsX5_init (wsX1_init) := ggX5_init_X1_init
set_option maxRecDepth 20000 in
theorem ggX5_init_X3_init : GoodIn wsX5_init wsX3_init := goodIn_r _ [33, 34, 2, 3, 25, 35, 36, 58, 59] (by decide +kernel) (by decide +kernel)
set_option maxRecDepth 20000 in
theorem gX5_init_X3_init_n30 : GoodIn wsX5_init (wsX3_init) := ggX5_init_X3_init
set_option maxRecDepth 20000 in
theorem ggX5_init_X0_init : GoodIn wsX5_init wsX0_init := goodIn_r _ [38, 39, 2, 3, 23, 40, 60] (by decide +kernel) (by decide +kernel)
set_option maxRecDepth 20000 in
theorem gX5_init_X0_init_n37 : GoodIn wsX5_init (wsX0_init) := ggX5_init_X0_init
theorem dX5_init_0 : decode cX5_init 0 = .ok (.aload_n 0, 1) := by decide +kernel
theorem dX5_init_1 : decode cX5_init 1 = .ok (.invokespecial 1, 3) := by decide +kernel
theorem dX5_init_4 : decode cX5_init 4 = .ok (.aload_n 0, 1) := by decide +kernel
theorem dX5_init_5 : decode cX5_init 5 = .ok (.iconst 4, 1) := by decide +kernel
theorem dX5_init_6 : decode cX5_init 6 = .ok (.anewarray 9, 3) := by decide +kernel
theorem dX5_init_9 : decode cX5_init 9 = .ok (.putfield 11, 3) := by decide +kernel
theorem dX5_init_12 : decode cX5_init 12 = .ok (.aload_n 0, 1) := by decide +kernel
theorem dX5_init_13 : decode cX5_init 13 = .ok (.iconst 4, 1) := by decide +kernel
theorem dX5_init_14 : decode cX5_init 14 = .ok (.anewarray 15, 3) := by decide +kernel
theorem dX5_init_17 : decode cX5_init 17 = .ok (.putfield 17, 3) := by decide +kernel
theorem dX5_init_20 : decode cX5_init 20 = .ok (.aload_n 0, 1) := by decide +kernel
theorem dX5_init_21 : decode cX5_init 21 = .ok (.new 21, 3) := by decide +kernel
theorem dX5_init_24 : decode cX5_init 24 = .ok (.dup, 1) := by decide +kernel
theorem dX5_init_25 : decode cX5_init 25 = .ok (.invokespecial 23, 3) := by decide +kernel
theorem dX5_init_28 : decode cX5_init 28 = .ok (.putfield 24, 3) := by decide +kernel
theorem dX5_init_31 : decode cX5_init 31 = .ok (.aload_n 0, 1) := by decide +kernel
theorem dX5_init_32 : decode cX5_init 32 = .ok (.new 28, 3) := by decide +kernel
theorem dX5_init_35 : decode cX5_init 35 = .ok (.dup, 1) := by decide +kernel
theorem dX5_init_36 : decode cX5_init 36 = .ok (.invokespecial 30, 3) := by decide +kernel
theorem dX5_init_39 : decode cX5_init 39 = .ok (.putfield 31, 3) := by decide +kernel
theorem dX5_init_42 : decode cX5_init 42 = .ok (.aload_n 0, 1) := by decide +kernel
theorem dX5_init_43 : decode cX5_init 43 = .ok (.new 35, 3) := by decide +kernel
theorem dX5_init_46 : decode cX5_init 46 = .ok (.dup, 1) := by decide +kernel
theorem dX5_init_47 : decode cX5_init 47 = .ok (.invokespecial 37, 3) := by decide +kernel
theorem dX5_init_50 : decode cX5_init 50 = .ok (.putfield 38, 3) := by decide +kernel
theorem dX5_init_53 : decode cX5_init 53 = .ok (.return_, 1) := by decide +kernel
set_option maxRecDepth 20000 in
theorem ggX5_far_X5_isWithin : GoodIn wsX5_far wsX5_isWithin := goodIn_r _ [8] (by decide +kernel) (by decide +kernel)
set_option maxRecDepth 20000 in
theorem gX5_far_X5_isWithin : GoodIn wsX5_far (va_wsS RX5 42 yX5_isWithin wsX5_isWithin) := goodIn_app (goodIn_of _ (by decide +kernel)) ggX5_far_X5_isWithin
set_option maxRecDepth 20000 in
theorem ggX5_far_X5_factorial : GoodIn wsX5_far wsX5_factorial := goodIn_r _ [11] (by decide +kernel) (by decide +kernel)
set_option maxRecDepth 20000 in
theorem gX5_far_X5_factorial : GoodIn wsX5_far (va_wsS RX5 248 yX5_factorial wsX5_factorial) := goodIn_app (goodIn_of _ (by decide +kernel)) ggX5_far_X5_factorial
set_option maxRecDepth 20000 in
theorem ggX5_far_X5_power : GoodIn wsX5_far wsX5_power := goodIn_r _ [14] (by decide +kernel) (by decide +kernel)
set_option maxRecDepth 20000 in
theorem gX5_far_X5_power : GoodIn wsX5_far (va_wsS RX5 213 yX5_power wsX5_power) := goodIn_app (goodIn_of _ (by decide +kernel)) ggX5_far_X5_power
set_option maxRecDepth 20000 in
theorem ggX5_far_X0_shuffle : GoodIn wsX5_far wsX0_shuffle := goodIn_r _ [18, 19, 20, 7, 21, 22, 23, 49] (by decide +kernel) (by decide +kernel)
set_option maxRecDepth 20000 in
theorem gX5_far_X0_shuffle_n251 : GoodIn wsX5_far (wsX0_shuffle) := ggX5_far_X0_shuffle
set_option maxRecDepth 20000 in
theorem ggX5_far_X0_sumOfDifferences : GoodIn wsX5_far wsX0_sumOfDifferences := goodIn_r _ [26, 19, 27, 28, 29, 30, 22, 7, 23, 31, 32, 16, 33, 49] (by decide +kernel) (by decide +kernel)
set_option maxRecDepth 20000 in
theorem gX5_far_X0_sumOfDifferences_n255 : GoodIn wsX5_far (wsX0_sumOfDifferences) := ggX5_far_X0_sumOfDifferences
set_option maxRecDepth 20000 in
theorem ggX5_far_X5_part : GoodIn wsX5_far wsX5_part := goodIn_r _ [36, 37, 28, 29, 30, 38, 39, 7, 40] (by decide +kernel) (by decide +kernel)
set_option maxRecDepth 20000 in
theorem gX5_far_X5_part : GoodIn wsX5_far (va_wsS RX5 161 yX5_part wsX5_part) := goodIn_app (goodIn_of _ (by decide +kernel)) ggX5_far_X5_part
theorem dX5_far_0 : decode cX5_far 0 = .ok (.iload_n 1, 1) := by decide +kernel
theorem dX5_far_1 : decode cX5_far 1 = .ok (.iconst 1, 1) := by decide +kernel
theorem dX5_far_2 : decode cX5_far 2 = .ok (.iconst 5, 1) := by decide +kernel
theorem dX5_far_3 : decode cX5_far 3 = .ok (.invokestatic 42, 3) := by decide +kernel
theorem dX5_far_6 : decode cX5_far 6 = .ok (.ifCond .eq 13, 3) := by decide +kernel
theorem dX5_far_9 : decode cX5_far 9 = .ok (.iload_n 2, 1) := by decide +kernel
theorem dX5_far_10 : decode cX5_far 10 = .ok (.iconst 0, 1) := by decide +kernel
theorem dX5_far_11 : decode cX5_far 11 = .ok (.bipush 7, 2) := by decide +kernel
theorem dX5_far_13 : decode cX5_far 13 = .ok (.invokestatic 42, 3) := by decide +kernel
theorem dX5_far_16 : decode cX5_far 16 = .ok (.ifCond .ne 13, 3) := by decide +kernel
theorem dX5_far_19 : decode cX5_far 19 = .ok (.new 46, 3) := by decide +kernel
theorem dX5_far_22 : decode cX5_far 22 = .ok (.dup, 1) := by decide +kernel
theorem dX5_far_23 : decode cX5_far 23 = .ok (.ldc 246, 2) := by decide +kernel
theorem dX5_far_25 : decode cX5_far 25 = .ok (.invokespecial 50, 3) := by decide +kernel
theorem dX5_far_28 : decode cX5_far 28 = .ok (.athrow, 1) := by decide +kernel
theorem dX5_far_29 : decode cX5_far 29 = .ok (.iload_n 1, 1) := by decide +kernel
theorem dX5_far_30 : decode cX5_far 30 = .ok (.invokestatic 248, 3) := by decide +kernel
theorem dX5_far_33 : decode cX5_far 33 = .ok (.lstore 4, 2) := by decide +kernel
theorem dX5_far_35 : decode cX5_far 35 = .ok (.iload_n 1, 1) := by decide +kernel
theorem dX5_far_36 : decode cX5_far 36 = .ok (.iload_n 2, 1) := by decide +kernel
theorem dX5_far_37 : decode cX5_far 37 = .ok (.invokestatic 213, 3) := by decide +kernel
theorem dX5_far_40 : decode cX5_far 40 = .ok (.lstore 6, 2) := by decide +kernel
theorem dX5_far_42 : decode cX5_far 42 = .ok (.aload_n 0, 1) := by decide +kernel
theorem dX5_far_43 : decode cX5_far 43 = .ok (.getfield 38, 3) := by decide +kernel
theorem dX5_far_46 : decode cX5_far 46 = .ok (.iload_n 1, 1) := by decide +kernel
theorem dX5_far_47 : decode cX5_far 47 = .ok (.iload_n 2, 1) := by decide +kernel
theorem dX5_far_48 : decode cX5_far 48 = .ok (.invokevirtual 251, 3) := by decide +kernel
theorem dX5_far_51 : decode cX5_far 51 = .ok (.aload_n 0, 1) := by decide +kernel
theorem dX5_far_52 : decode cX5_far 52 = .ok (.getfield 38, 3) := by decide +kernel
theorem dX5_far_55 : decode cX5_far 55 = .ok (.iload_n 1, 1) := by decide +kernel
theorem dX5_far_56 : decode cX5_far 56 = .ok (.lload 4, 2) := by decide +kernel
theorem dX5_far_58 : decode cX5_far 58 = .ok (.lload 6, 2) := by decide +kernel
theorem dX5_far_60 : decode cX5_far 60 = .ok (.invokevirtual 255, 3) := by decide +kernel
theorem dX5_far_63 : decode cX5_far 63 = .ok (.ldc2_w 229, 3) := by decide +kernel
theorem dX5_far_66 : decode cX5_far 66 = .ok (.lload 4, 2) := by decide +kernel
theorem dX5_far_68 : decode cX5_far 68 = .ok (.lmul, 1) := by decide +kernel
theorem dX5_far_69 : decode cX5_far 69 = .ok (.lload 6, 2) := by decide +kernel
theorem dX5_far_71 : decode cX5_far 71 = .ok (.lmul, 1) := by decide +kernel
theorem dX5_far_72 : decode cX5_far 72 = .ok (.iload_n 3, 1) := by decide +kernel
theorem dX5_far_73 : decode cX5_far 73 = .ok (.invokestatic 161, 3) := by decide +kernel
theorem dX5_far_76 : decode cX5_far 76 = .ok (.lreturn, 1) := by decide +kernel
theorem dX5_isWithin_0 : decode cX5_isWithin 0 = .ok (.iload_n 0, 1) := by decide +kernel
theorem dX5_isWithin_1 : decode cX5_isWithin 1 = .ok (.iload_n 1, 1) := by decide +kernel
theorem dX5_isWithin_2 : decode cX5_isWithin 2 = .ok (.if_icmp .lt 12, 3) := by decide +kernel
theorem dX5_isWithin_5 : decode cX5_isWithin 5 = .ok (.iload_n 0, 1) := by decide +kernel
theorem dX5_isWithin_6 : decode cX5_isWithin 6 = .ok (.iload_n 2, 1) := by decide +kernel
theorem dX5_isWithin_7 : decode cX5_isWithin 7 = .ok (.if_icmp .gt 7, 3) := by decide +kernel
theorem dX5_isWithin_10 : decode cX5_isWithin 10 = .ok (.iconst 1, 1) := by decide +kernel
theorem dX5_isWithin_11 : decode cX5_isWithin 11 = .ok (.goto 4, 3) := by decide +kernel
theorem dX5_isWithin_14 : decode cX5_isWithin 14 = .ok (.iconst 0, 1) := by decide +kernel
theorem dX5_isWithin_15 : decode cX5_isWithin 15 = .ok (.ireturn, 1) := by decide +kernel
theorem dX5_at__0 : decode cX5_at_ 0 = .ok (.iload_n 1, 1) := by decide +kernel
theorem dX5_at__1 : decode cX5_at_ 1 = .ok (.ifCond .lt 15, 3) := by decide +kernel
theorem dX5_at__4 : decode cX5_at_ 4 = .ok (.iload_n 1, 1) := by decide +kernel
theorem dX5_at__5 : decode cX5_at_ 5 = .ok (.aload_n 0, 1) := by decide +kernel
theorem dX5_at__6 : decode cX5_at_ 6 = .ok (.arraylength, 1) := by decide +kernel
theorem dX5_at__7 : decode cX5_at_ 7 = .ok (.if_icmp .ge 9, 3) := by decide +kernel
theorem dX5_at__10 : decode cX5_at_ 10 = .ok (.aload_n 0, 1) := by decide +kernel
theorem dX5_at__11 : decode cX5_at_ 11 = .ok (.iload_n 1, 1) := by decide +kernel
theorem dX5_at__12 : decode cX5_at_ 12 = .ok (.laload, 1) := by decide +kernel
theorem dX5_at__13 : decode cX5_at_ 13 = .ok (.goto 4, 3) := by decide +kernel
theorem dX5_at__16 : decode cX5_at_ 16 = .ok (.lconst 0, 1) := by decide +kernel
theorem dX5_at__17 : decode cX5_at_ 17 = .ok (.lreturn, 1) := by decide +kernel
theorem dX5_put__0 : decode cX5_put_ 0 = .ok (.iload_n 1, 1) := by decide +kernel
theorem dX5_put__1 : decode cX5_put_ 1 = .ok (.ifCond .lt 13, 3) := by decide +kernel
theorem dX5_put__4 : decode cX5_put_ 4 = .ok (.iload_n 1, 1) := by decide +kernel
theorem dX5_put__5 : decode cX5_put_ 5 = .ok (.aload_n 0, 1) := by decide +kernel
theorem dX5_put__6 : decode cX5_put_ 6 = .ok (.arraylength, 1) := by decide +kernel
theorem dX5_put__7 : decode cX5_put_ 7 = .ok (.if_icmp .ge 7, 3) := by decide +kernel
theorem dX5_put__10 : decode cX5_put_ 10 = .ok (.aload_n 0, 1) := by decide +kernel
theorem dX5_put__11 : decode cX5_put_ 11 = .ok (.iload_n 1, 1) := by decide +kernel
theorem dX5_put__12 : decode cX5_put_ 12 = .ok (.lload_n 2, 1) := by decide +kernel
theorem dX5_put__13 : decode cX5_put_ 13 = .ok (.lastore, 1) := by decide +kernel
theorem dX5_put__14 : decode cX5_put_ 14 = .ok (.return_, 1) := by decide +kernel
set_option maxRecDepth 20000 in
theorem ggX5_part_X5_sharedDivisor : GoodIn wsX5_part wsX5_sharedDivisor := goodIn_r _ [8] (by decide +kernel) (by decide +kernel)
set_option maxRecDepth 20000 in
theorem gX5_part_X5_sharedDivisor : GoodIn wsX5_part (va_wsS RX5 361 yX5_sharedDivisor wsX5_sharedDivisor) := goodIn_app (goodIn_of _ (by decide +kernel)) ggX5_part_X5_sharedDivisor
theorem dX5_part_0 : decode cX5_part 0 = .ok (.lload_n 0, 1) := by decide +kernel
theorem dX5_part_1 : decode cX5_part 1 = .ok (.invokestatic 358, 3) := by decide +kernel
theorem dX5_part_4 : decode cX5_part 4 = .ok (.lload_n 2, 1) := by decide +kernel
theorem dX5_part_5 : decode cX5_part 5 = .ok (.invokestatic 358, 3) := by decide +kernel
theorem dX5_part_8 : decode cX5_part 8 = .ok (.invokestatic 361, 3) := by decide +kernel
theorem dX5_part_11 : decode cX5_part 11 = .ok (.lstore 5, 2) := by decide +kernel
theorem dX5_part_13 : decode cX5_part 13 = .ok (.lload_n 2, 1) := by decide +kernel
theorem dX5_part_14 : decode cX5_part 14 = .ok (.lconst 0, 1) := by decide +kernel
theorem dX5_part_15 : decode cX5_part 15 = .ok (.lcmp, 1) := by decide +kernel
theorem dX5_part_16 : decode cX5_part 16 = .ok (.ifCond .eq 10, 3) := by decide +kernel
theorem dX5_part_19 : decode cX5_part 19 = .ok (.lload 5, 2) := by decide +kernel
theorem dX5_part_21 : decode cX5_part 21 = .ok (.lconst 0, 1) := by decide +kernel
theorem dX5_part_22 : decode cX5_part 22 = .ok (.lcmp, 1) := by decide +kernel
theorem dX5_part_23 : decode cX5_part 23 = .ok (.ifCond .ne 14, 3) := by decide +kernel
theorem dX5_part_26 : decode cX5_part 26 = .ok (.iload 4, 2) := by decide +kernel
theorem dX5_part_28 : decode cX5_part 28 = .ok (.ifCond .eq 7, 3) := by decide +kernel
theorem dX5_part_31 : decode cX5_part 31 = .ok (.lconst 1, 1) := by decide +kernel
theorem dX5_part_32 : decode cX5_part 32 = .ok (.goto 4, 3) := by decide +kernel
theorem dX5_part_35 : decode cX5_part 35 = .ok (.lconst 0, 1) := by decide +kernel
theorem dX5_part_36 : decode cX5_part 36 = .ok (.lreturn, 1) := by decide +kernel
theorem dX5_part_37 : decode cX5_part 37 = .ok (.iload 4, 2) := by decide +kernel
theorem dX5_part_39 : decode cX5_part 39 = .ok (.ifCond .eq 7, 3) := by decide +kernel
theorem dX5_part_42 : decode cX5_part 42 = .ok (.lload_n 2, 1) := by decide +kernel
theorem dX5_part_43 : decode cX5_part 43 = .ok (.goto 4, 3) := by decide +kernel
theorem dX5_part_46 : decode cX5_part 46 = .ok (.lload_n 0, 1) := by decide +kernel
theorem dX5_part_47 : decode cX5_part 47 = .ok (.lload 5, 2) := by decide +kernel
theorem dX5_part_49 : decode cX5_part 49 = .ok (.ldiv, 1) := by decide +kernel
theorem dX5_part_50 : decode cX5_part 50 = .ok (.lstore 7, 2) := by decide +kernel
theorem dX5_part_52 : decode cX5_part 52 = .ok (.lload_n 2, 1) := by decide +kernel
theorem dX5_part_53 : decode cX5_part 53 = .ok (.lconst 0, 1) := by decide +kernel
theorem dX5_part_54 : decode cX5_part 54 = .ok (.lcmp, 1) := by decide +kernel
theorem dX5_part_55 : decode cX5_part 55 = .ok (.ifCond .ge 9, 3) := by decide +kernel
theorem dX5_part_58 : decode cX5_part 58 = .ok (.lload 7, 2) := by decide +kernel
theorem dX5_part_60 : decode cX5_part 60 = .ok (.lneg, 1) := by decide +kernel
theorem dX5_part_61 : decode cX5_part 61 = .ok (.goto 5, 3) := by decide +kernel
theorem dX5_part_64 : decode cX5_part 64 = .ok (.lload 7, 2) := by decide +kernel
theorem dX5_part_66 : decode cX5_part 66 = .ok (.lreturn, 1) := by decide +kernel
theorem dX5_sharedDivisor_0 : decode cX5_sharedDivisor 0 = .ok (.lload_n 0, 1) := by decide +kernel
theorem dX5_sharedDivisor_1 : decode cX5_sharedDivisor 1 = .ok (.lstore 4, 2) := by decide +kernel
theorem dX5_sharedDivisor_3 : decode cX5_sharedDivisor 3 = .ok (.lload_n 2, 1) := by decide +kernel
theorem dX5_sharedDivisor_4 : decode cX5_sharedDivisor 4 = .ok (.lstore 6, 2) := by decide +kernel
theorem dX5_sharedDivisor_6 : decode cX5_sharedDivisor 6 = .ok (.iconst 0, 1) := by decide +kernel
theorem dX5_sharedDivisor_7 : decode cX5_sharedDivisor 7 = .ok (.istore 8, 2) := by decide +kernel
theorem dX5_sharedDivisor_9 : decode cX5_sharedDivisor 9 = .ok (.iload 8, 2) := by decide +kernel
theorem dX5_sharedDivisor_11 : decode cX5_sharedDivisor 11 = .ok (.bipush 100, 2) := by decide +kernel
theorem dX5_sharedDivisor_13 : decode cX5_sharedDivisor 13 = .ok (.if_icmp .ge 31, 3) := by decide +kernel
theorem dX5_sharedDivisor_16 : decode cX5_sharedDivisor 16 = .ok (.lload 6, 2) := by decide +kernel
theorem dX5_sharedDivisor_18 : decode cX5_sharedDivisor 18 = .ok (.lconst 0, 1) := by decide +kernel
theorem dX5_sharedDivisor_19 : decode cX5_sharedDivisor 19 = .ok (.lcmp, 1) := by decide +kernel
theorem dX5_sharedDivisor_20 : decode cX5_sharedDivisor 20 = .ok (.ifCond .eq 24, 3) := by decide +kernel
theorem dX5_sharedDivisor_23 : decode cX5_sharedDivisor 23 = .ok (.lload 4, 2) := by decide +kernel
theorem dX5_sharedDivisor_25 : decode cX5_sharedDivisor 25 = .ok (.lload 6, 2) := by decide +kernel
theorem dX5_sharedDivisor_27 : decode cX5_sharedDivisor 27 = .ok (.lrem, 1) := by decide +kernel
theorem dX5_sharedDivisor_28 : decode cX5_sharedDivisor 28 = .ok (.lstore 9, 2) := by decide +kernel
theorem dX5_sharedDivisor_30 : decode cX5_sharedDivisor 30 = .ok (.lload 6, 2) := by decide +kernel
theorem dX5_sharedDivisor_32 : decode cX5_sharedDivisor 32 = .ok (.lstore 4, 2) := by decide +kernel
theorem dX5_sharedDivisor_34 : decode cX5_sharedDivisor 34 = .ok (.lload 9, 2) := by decide +kernel
theorem dX5_sharedDivisor_36 : decode cX5_sharedDivisor 36 = .ok (.lstore 6, 2) := by decide +kernel
theorem dX5_sharedDivisor_38 : decode cX5_sharedDivisor 38 = .ok (.iinc 8 1, 3) := by decide +kernel
theorem dX5_sharedDivisor_41 : decode cX5_sharedDivisor 41 = .ok (.goto (-32), 3) := by decide +kernel
theorem dX5_sharedDivisor_44 : decode cX5_sharedDivisor 44 = .ok (.lload 4, 2) := by decide +kernel
theorem dX5_sharedDivisor_46 : decode cX5_sharedDivisor 46 = .ok (.lreturn, 1) := by decide +kernel
theorem dX5_power_0 : decode cX5_power 0 = .ok (.lconst 1, 1) := by decide +kernel
theorem dX5_power_1 : decode cX5_power 1 = .ok (.lstore_n 2, 1) := by decide +kernel
theorem dX5_power_2 : decode cX5_power 2 = .ok (.iconst 0, 1) := by decide +kernel
theorem dX5_power_3 : decode cX5_power 3 = .ok (.istore 4, 2) := by decide +kernel
theorem dX5_power_5 : decode cX5_power 5 = .ok (.iload 4, 2) := by decide +kernel
theorem dX5_power_7 : decode cX5_power 7 = .ok (.iload_n 1, 1) := by decide +kernel
theorem dX5_power_8 : decode cX5_power 8 = .ok (.if_icmp .ge 14, 3) := by decide +kernel
theorem dX5_power_11 : decode cX5_power 11 = .ok (.lload_n 2, 1) := by decide +kernel
theorem dX5_power_12 : decode cX5_power 12 = .ok (.iload_n 0, 1) := by decide +kernel
theorem dX5_power_13 : decode cX5_power 13 = .ok (.i2l, 1) := by decide +kernel
theorem dX5_power_14 : decode cX5_power 14 = .ok (.lmul, 1) := by decide +kernel
theorem dX5_power_15 : decode cX5_power 15 = .ok (.lstore_n 2, 1) := by decide +kernel
theorem dX5_power_16 : decode cX5_power 16 = .ok (.iinc 4 1, 3) := by decide +kernel
theorem dX5_power_19 : decode cX5_power 19 = .ok (.goto (-14), 3) := by decide +kernel
theorem dX5_power_22 : decode cX5_power 22 = .ok (.lload_n 2, 1) := by decide +kernel
theorem dX5_power_23 : decode cX5_power 23 = .ok (.lreturn, 1) := by decide +kernel
theorem dX5_factorial_0 : decode cX5_factorial 0 = .ok (.lconst 1, 1) := by decide +kernel
theorem dX5_factorial_1 : decode cX5_factorial 1 = .ok (.lstore_n 1, 1) := by decide +kernel
theorem dX5_factorial_2 : decode cX5_factorial 2 = .ok (.iconst 2, 1) := by decide +kernel
theorem dX5_factorial_3 : decode cX5_factorial 3 = .ok (.istore_n 3, 1) := by decide +kernel
theorem dX5_factorial_4 : decode cX5_factorial 4 = .ok (.iload_n 3, 1) := by decide +kernel
theorem dX5_factorial_5 : decode cX5_factorial 5 = .ok (.iload_n 0, 1) := by decide +kernel
theorem dX5_factorial_6 : decode cX5_factorial 6 = .ok (.if_icmp .gt 14, 3) := by decide +kernel
theorem dX5_factorial_9 : decode cX5_factorial 9 = .ok (.lload_n 1, 1) := by decide +kernel
theorem dX5_factorial_10 : decode cX5_factorial 10 = .ok (.iload_n 3, 1) := by decide +kernel
theorem dX5_factorial_11 : decode cX5_factorial 11 = .ok (.i2l, 1) := by decide +kernel
theorem dX5_factorial_12 : decode cX5_factorial 12 = .ok (.lmul, 1) := by decide +kernel
theorem dX5_factorial_13 : decode cX5_factorial 13 = .ok (.lstore_n 1, 1) := by decide +kernel
theorem dX5_factorial_14 : decode cX5_factorial 14 = .ok (.iinc 3 1, 3) := by decide +kernel
theorem dX5_factorial_17 : decode cX5_factorial 17 = .ok (.goto (-13), 3) := by decide +kernel
theorem dX5_factorial_20 : decode cX5_factorial 20 = .ok (.lload_n 1, 1) := by decide +kernel
theorem dX5_factorial_21 : decode cX5_factorial 21 = .ok (.lreturn, 1) := by decide +kernel
theorem dX6_init_0 : decode cX6_init 0 = .ok (.aload_n 0, 1) := by decide +kernel
theorem dX6_init_1 : decode cX6_init 1 = .ok (.invokespecial 1, 3) := by decide +kernel
theorem dX6_init_4 : decode cX6_init 4 = .ok (.return_, 1) := by decide +kernel
theorem dX8_init_0 : decode cX8_init 0 = .ok (.aload_n 0, 1) := by decide +kernel
theorem dX8_init_1 : decode cX8_init 1 = .ok (.invokespecial 1, 3) := by decide +kernel
theorem dX8_init_4 : decode cX8_init 4 = .ok (.aload_n 0, 1) := by decide +kernel
theorem dX8_init_5 : decode cX8_init 5 = .ok (.lconst 0, 1) := by decide +kernel
theorem dX8_init_6 : decode cX8_init 6 = .ok (.putfield 7, 3) := by decide +kernel
theorem dX8_init_9 : decode cX8_init 9 = .ok (.aload_n 0, 1) := by decide +kernel
theorem dX8_init_10 : decode cX8_init 10 = .ok (.lconst 1, 1) := by decide +kernel
theorem dX8_init_11 : decode cX8_init 11 = .ok (.putfield 13, 3) := by decide +kernel
theorem dX8_init_14 : decode cX8_init 14 = .ok (.return_, 1) := by decide +kernel
set_option maxRecDepth 20000 in
theorem ggX8_add_X10_common : GoodIn wsX8_add wsX10_common := goodIn_r _ [9] (by decide +kernel) (by decide +kernel)
set_option maxRecDepth 20000 in
theorem gX8_add_X10_common_n16 : GoodIn wsX8_add (wsX10_common) := ggX8_add_X10_common
theorem dX8_add_0 : decode cX8_add 0 = .ok (.aload_n 0, 1) := by decide +kernel
theorem dX8_add_1 : decode cX8_add 1 = .ok (.getfield 13, 3) := by decide +kernel
theorem dX8_add_4 : decode cX8_add 4 = .ok (.lload 5, 2) := by decide +kernel
theorem dX8_add_6 : decode cX8_add 6 = .ok (.invokestatic 16, 3) := by decide +kernel
theorem dX8_add_9 : decode cX8_add 9 = .ok (.lstore 7, 2) := by decide +kernel
theorem dX8_add_11 : decode cX8_add 11 = .ok (.aload_n 0, 1) := by decide +kernel
theorem dX8_add_12 : decode cX8_add 12 = .ok (.getfield 7, 3) := by decide +kernel
theorem dX8_add_15 : decode cX8_add 15 = .ok (.lload 5, 2) := by decide +kernel
theorem dX8_add_17 : decode cX8_add 17 = .ok (.lload 7, 2) := by decide +kernel
theorem dX8_add_19 : decode cX8_add 19 = .ok (.ldiv, 1) := by decide +kernel
theorem dX8_add_20 : decode cX8_add 20 = .ok (.lmul, 1) := by decide +kernel
theorem dX8_add_21 : decode cX8_add 21 = .ok (.lload_n 1, 1) := by decide +kernel
theorem dX8_add_22 : decode cX8_add 22 = .ok (.lload_n 3, 1) := by decide +kernel
theorem dX8_add_23 : decode cX8_add 23 = .ok (.lmul, 1) := by decide +kernel
theorem dX8_add_24 : decode cX8_add 24 = .ok (.aload_n 0, 1) := by decide +kernel
theorem dX8_add_25 : decode cX8_add 25 = .ok (.getfield 13, 3) := by decide +kernel
theorem dX8_add_28 : decode cX8_add 28 = .ok (.lload 7, 2) := by decide +kernel
theorem dX8_add_30 : decode cX8_add 30 = .ok (.ldiv, 1) := by decide +kernel
theorem dX8_add_31 : decode cX8_add 31 = .ok (.lmul, 1) := by decide +kernel
theorem dX8_add_32 : decode cX8_add 32 = .ok (.ladd, 1) := by decide +kernel
theorem dX8_add_33 : decode cX8_add 33 = .ok (.lstore 9, 2) := by decide +kernel
theorem dX8_add_35 : decode cX8_add 35 = .ok (.aload_n 0, 1) := by decide +kernel
theorem dX8_add_36 : decode cX8_add 36 = .ok (.getfield 13, 3) := by decide +kernel
theorem dX8_add_39 : decode cX8_add 39 = .ok (.lload 7, 2) := by decide +kernel
theorem dX8_add_41 : decode cX8_add 41 = .ok (.ldiv, 1) := by decide +kernel
theorem dX8_add_42 : decode cX8_add 42 = .ok (.lload 5, 2) := by decide +kernel
theorem dX8_add_44 : decode cX8_add 44 = .ok (.lmul, 1) := by decide +kernel
theorem dX8_add_45 : decode cX8_add 45 = .ok (.lstore 11, 2) := by decide +kernel
theorem dX8_add_47 : decode cX8_add 47 = .ok (.lload 9, 2) := by decide +kernel
theorem dX8_add_49 : decode cX8_add 49 = .ok (.invokestatic 22, 3) := by decide +kernel
theorem dX8_add_52 : decode cX8_add 52 = .ok (.lload 11, 2) := by decide +kernel
theorem dX8_add_54 : decode cX8_add 54 = .ok (.invokestatic 16, 3) := by decide +kernel
theorem dX8_add_57 : decode cX8_add 57 = .ok (.lstore 13, 2) := by decide +kernel
theorem dX8_add_59 : decode cX8_add 59 = .ok (.aload_n 0, 1) := by decide +kernel
theorem dX8_add_60 : decode cX8_add 60 = .ok (.lload 9, 2) := by decide +kernel
theorem dX8_add_62 : decode cX8_add 62 = .ok (.lload 13, 2) := by decide +kernel
theorem dX8_add_64 : decode cX8_add 64 = .ok (.ldiv, 1) := by decide +kernel
theorem dX8_add_65 : decode cX8_add 65 = .ok (.putfield 7, 3) := by decide +kernel
theorem dX8_add_68 : decode cX8_add 68 = .ok (.aload_n 0, 1) := by decide +kernel
theorem dX8_add_69 : decode cX8_add 69 = .ok (.lload 11, 2) := by decide +kernel
theorem dX8_add_71 : decode cX8_add 71 = .ok (.lload 13, 2) := by decide +kernel
theorem dX8_add_73 : decode cX8_add 73 = .ok (.ldiv, 1) := by decide +kernel
theorem dX8_add_74 : decode cX8_add 74 = .ok (.putfield 13, 3) := by decide +kernel
theorem dX8_add_77 : decode cX8_add 77 = .ok (.aload_n 0, 1) := by decide +kernel
theorem dX8_add_78 : decode cX8_add 78 = .ok (.areturn, 1) := by decide +kernel
theorem dX8_part_0 : decode cX8_part 0 = .ok (.iload_n 1, 1) := by decide +kernel
theorem dX8_part_1 : decode cX8_part 1 = .ok (.ifCond .eq 10, 3) := by decide +kernel
theorem dX8_part_4 : decode cX8_part 4 = .ok (.aload_n 0, 1) := by decide +kernel
theorem dX8_part_5 : decode cX8_part 5 = .ok (.getfield 13, 3) := by decide +kernel
theorem dX8_part_8 : decode cX8_part 8 = .ok (.goto 7, 3) := by decide +kernel
theorem dX8_part_11 : decode cX8_part 11 = .ok (.aload_n 0, 1) := by decide +kernel
theorem dX8_part_12 : decode cX8_part 12 = .ok (.getfield 7, 3) := by decide +kernel
theorem dX8_part_15 : decode cX8_part 15 = .ok (.lreturn, 1) := by decide +kernel
set_option maxRecDepth 20000 in
theorem ggX10_init_Jx4a65c_init_da8c8 : GoodIn wsX10_init wsJx4a65c_init_da8c8 := goodIn_r _ [11, 12, 13, 14, 15, 16, 17, 18, 19, 20, 21, 22, 23, 2, 3, 24, 25, 26] (by decide +kernel) (by decide +kernel)
set_option maxRecDepth 20000 in
theorem gX10_init_Jx4a65c_init_da8c8 : GoodIn wsX10_init (wsJx4a65c_init_da8c8) := ggX10_init_Jx4a65c_init_da8c8
theorem dX10_init_0 : decode cX10_init 0 = .ok (.aload_n 0, 1) := by decide +kernel
theorem dX10_init_1 : decode cX10_init 1 = .ok (.invokespecial 1, 3) := by decide +kernel
theorem dX10_init_4 : decode cX10_init 4 = .ok (.aload_n 0, 1) := by decide +kernel
theorem dX10_init_5 : decode cX10_init 5 = .ok (.new 7, 3) := by decide +kernel
theorem dX10_init_8 : decode cX10_init 8 = .ok (.dup, 1) := by decide +kernel
theorem dX10_init_9 : decode cX10_init 9 = .ok (.invokespecial 9, 3) := by decide +kernel
theorem dX10_init_12 : decode cX10_init 12 = .ok (.putfield 10, 3) := by decide +kernel
theorem dX10_init_15 : decode cX10_init 15 = .ok (.aload_n 0, 1) := by decide +kernel
theorem dX10_init_16 : decode cX10_init 16 = .ok (.new 7, 3) := by decide +kernel
theorem dX10_init_19 : decode cX10_init 19 = .ok (.dup, 1) := by decide +kernel
theorem dX10_init_20 : decode cX10_init 20 = .ok (.invokespecial 9, 3) := by decide +kernel
theorem dX10_init_23 : decode cX10_init 23 = .ok (.putfield 16, 3) := by decide +kernel
theorem dX10_init_26 : decode cX10_init 26 = .ok (.return_, 1) := by decide +kernel
theorem dX10_in_0 : decode cX10_in 0 = .ok (.iload_n 0, 1) := by decide +kernel
theorem dX10_in_1 : decode cX10_in 1 = .ok (.iload_n 1, 1) := by decide +kernel
theorem dX10_in_2 : decode cX10_in 2 = .ok (.if_icmp .lt 12, 3) := by decide +kernel
theorem dX10_in_5 : decode cX10_in 5 = .ok (.iload_n 0, 1) := by decide +kernel
theorem dX10_in_6 : decode cX10_in 6 = .ok (.iload_n 2, 1) := by decide +kernel
theorem dX10_in_7 : decode cX10_in 7 = .ok (.if_icmp .gt 7, 3) := by decide +kernel
theorem dX10_in_10 : decode cX10_in 10 = .ok (.iconst 1, 1) := by decide +kernel
theorem dX10_in_11 : decode cX10_in 11 = .ok (.goto 4, 3) := by decide +kernel
theorem dX10_in_14 : decode cX10_in 14 = .ok (.iconst 0, 1) := by decide +kernel
theorem dX10_in_15 : decode cX10_in 15 = .ok (.ireturn, 1) := by decide +kernel
theorem dX10_common_0 : decode cX10_common 0 = .ok (.lload_n 0, 1) := by decide +kernel
theorem dX10_common_1 : decode cX10_common 1 = .ok (.lstore 4, 2) := by decide +kernel
theorem dX10_common_3 : decode cX10_common 3 = .ok (.lload_n 2, 1) := by decide +kernel
theorem dX10_common_4 : decode cX10_common 4 = .ok (.lstore 6, 2) := by decide +kernel
theorem dX10_common_6 : decode cX10_common 6 = .ok (.lload 6, 2) := by decide +kernel
theorem dX10_common_8 : decode cX10_common 8 = .ok (.lconst 0, 1) := by decide +kernel
theorem dX10_common_9 : decode cX10_common 9 = .ok (.lcmp, 1) := by decide +kernel
theorem dX10_common_10 : decode cX10_common 10 = .ok (.ifCond .eq 21, 3) := by decide +kernel
theorem dX10_common_13 : decode cX10_common 13 = .ok (.lload 4, 2) := by decide +kernel
theorem dX10_common_15 : decode cX10_common 15 = .ok (.lload 6, 2) := by decide +kernel
theorem dX10_common_17 : decode cX10_common 17 = .ok (.lrem, 1) := by decide +kernel
theorem dX10_common_18 : decode cX10_common 18 = .ok (.lstore 8, 2) := by decide +kernel
theorem dX10_common_20 : decode cX10_common 20 = .ok (.lload 6, 2) := by decide +kernel
theorem dX10_common_22 : decode cX10_common 22 = .ok (.lstore 4, 2) := by decide +kernel
theorem dX10_common_24 : decode cX10_common 24 = .ok (.lload 8, 2) := by decide +kernel
theorem dX10_common_26 : decode cX10_common 26 = .ok (.lstore 6, 2) := by decide +kernel
theorem dX10_common_28 : decode cX10_common 28 = .ok (.goto (-22), 3) := by decide +kernel
theorem dX10_common_31 : decode cX10_common 31 = .ok (.lload 4, 2) := by decide +kernel
theorem dX10_common_33 : decode cX10_common 33 = .ok (.lreturn, 1) := by decide +kernel
theorem dX10_shuffled_0 : decode cX10_shuffled 0 = .ok (.aload_n 0, 1) := by decide +kernel
theorem dX10_shuffled_1 : decode cX10_shuffled 1 = .ok (.arraylength, 1) := by decide +kernel
theorem dX10_shuffled_2 : decode cX10_shuffled 2 = .ok (.newarray .long, 2) := by decide +kernel
theorem dX10_shuffled_4 : decode cX10_shuffled 4 = .ok (.astore_n 2, 1) := by decide +kernel
theorem dX10_shuffled_5 : decode cX10_shuffled 5 = .ok (.iconst 0, 1) := by decide +kernel
theorem dX10_shuffled_6 : decode cX10_shuffled 6 = .ok (.istore_n 3, 1) := by decide +kernel
theorem dX10_shuffled_7 : decode cX10_shuffled 7 = .ok (.iload_n 3, 1) := by decide +kernel
theorem dX10_shuffled_8 : decode cX10_shuffled 8 = .ok (.aload_n 0, 1) := by decide +kernel
theorem dX10_shuffled_9 : decode cX10_shuffled 9 = .ok (.arraylength, 1) := by decide +kernel
theorem dX10_shuffled_10 : decode cX10_shuffled 10 = .ok (.if_icmp .ge 89, 3) := by decide +kernel
theorem dX10_shuffled_13 : decode cX10_shuffled 13 = .ok (.aload_n 0, 1) := by decide +kernel
theorem dX10_shuffled_14 : decode cX10_shuffled 14 = .ok (.iload_n 3, 1) := by decide +kernel
theorem dX10_shuffled_15 : decode cX10_shuffled 15 = .ok (.laload, 1) := by decide +kernel
theorem dX10_shuffled_16 : decode cX10_shuffled 16 = .ok (.lconst 0, 1) := by decide +kernel
theorem dX10_shuffled_17 : decode cX10_shuffled 17 = .ok (.lcmp, 1) := by decide +kernel
theorem dX10_shuffled_18 : decode cX10_shuffled 18 = .ok (.ifCond .ne 6, 3) := by decide +kernel
theorem dX10_shuffled_21 : decode cX10_shuffled 21 = .ok (.goto 72, 3) := by decide +kernel
theorem dX10_shuffled_24 : decode cX10_shuffled 24 = .ok (.iload_n 3, 1) := by decide +kernel
theorem dX10_shuffled_25 : decode cX10_shuffled 25 = .ok (.iload_n 1, 1) := by decide +kernel
theorem dX10_shuffled_26 : decode cX10_shuffled 26 = .ok (.irem, 1) := by decide +kernel
theorem dX10_shuffled_27 : decode cX10_shuffled 27 = .ok (.istore 4, 2) := by decide +kernel
theorem dX10_shuffled_29 : decode cX10_shuffled 29 = .ok (.iload_n 3, 1) := by decide +kernel
theorem dX10_shuffled_30 : decode cX10_shuffled 30 = .ok (.iload_n 1, 1) := by decide +kernel
theorem dX10_shuffled_31 : decode cX10_shuffled 31 = .ok (.idiv, 1) := by decide +kernel
theorem dX10_shuffled_32 : decode cX10_shuffled 32 = .ok (.istore 5, 2) := by decide +kernel
theorem dX10_shuffled_34 : decode cX10_shuffled 34 = .ok (.iconst 1, 1) := by decide +kernel
theorem dX10_shuffled_35 : decode cX10_shuffled 35 = .ok (.istore 6, 2) := by decide +kernel
theorem dX10_shuffled_37 : decode cX10_shuffled 37 = .ok (.iconst 0, 1) := by decide +kernel
theorem dX10_shuffled_38 : decode cX10_shuffled 38 = .ok (.istore 7, 2) := by decide +kernel
theorem dX10_shuffled_40 : decode cX10_shuffled 40 = .ok (.iload 7, 2) := by decide +kernel
theorem dX10_shuffled_42 : decode cX10_shuffled 42 = .ok (.iload_n 1, 1) := by decide +kernel
theorem dX10_shuffled_43 : decode cX10_shuffled 43 = .ok (.if_icmp .ge 50, 3) := by decide +kernel
theorem dX10_shuffled_46 : decode cX10_shuffled 46 = .ok (.iload 5, 2) := by decide +kernel
theorem dX10_shuffled_48 : decode cX10_shuffled 48 = .ok (.iload 6, 2) := by decide +kernel
theorem dX10_shuffled_50 : decode cX10_shuffled 50 = .ok (.irem, 1) := by decide +kernel
theorem dX10_shuffled_51 : decode cX10_shuffled 51 = .ok (.istore 8, 2) := by decide +kernel
theorem dX10_shuffled_53 : decode cX10_shuffled 53 = .ok (.iload 5, 2) := by decide +kernel
theorem dX10_shuffled_55 : decode cX10_shuffled 55 = .ok (.iload 6, 2) := by decide +kernel
theorem dX10_shuffled_57 : decode cX10_shuffled 57 = .ok (.idiv, 1) := by decide +kernel
theorem dX10_shuffled_58 : decode cX10_shuffled 58 = .ok (.istore 9, 2) := by decide +kernel
theorem dX10_shuffled_60 : decode cX10_shuffled 60 = .ok (.aload_n 2, 1) := by decide +kernel
theorem dX10_shuffled_61 : decode cX10_shuffled 61 = .ok (.iload 9, 2) := by decide +kernel
theorem dX10_shuffled_63 : decode cX10_shuffled 63 = .ok (.iload_n 1, 1) := by decide +kernel
theorem dX10_shuffled_64 : decode cX10_shuffled 64 = .ok (.imul, 1) := by decide +kernel
theorem dX10_shuffled_65 : decode cX10_shuffled 65 = .ok (.iload 4, 2) := by decide +kernel
theorem dX10_shuffled_67 : decode cX10_shuffled 67 = .ok (.iadd, 1) := by decide +kernel
theorem dX10_shuffled_68 : decode cX10_shuffled 68 = .ok (.iload 6, 2) := by decide +kernel
theorem dX10_shuffled_70 : decode cX10_shuffled 70 = .ok (.imul, 1) := by decide +kernel
theorem dX10_shuffled_71 : decode cX10_shuffled 71 = .ok (.iload 8, 2) := by decide +kernel
theorem dX10_shuffled_73 : decode cX10_shuffled 73 = .ok (.iadd, 1) := by decide +kernel
theorem dX10_shuffled_74 : decode cX10_shuffled 74 = .ok (.dup2, 1) := by decide +kernel
theorem dX10_shuffled_75 : decode cX10_shuffled 75 = .ok (.laload, 1) := by decide +kernel
theorem dX10_shuffled_76 : decode cX10_shuffled 76 = .ok (.aload_n 0, 1) := by decide +kernel
theorem dX10_shuffled_77 : decode cX10_shuffled 77 = .ok (.iload_n 3, 1) := by decide +kernel
theorem dX10_shuffled_78 : decode cX10_shuffled 78 = .ok (.laload, 1) := by decide +kernel
theorem dX10_shuffled_79 : decode cX10_shuffled 79 = .ok (.ladd, 1) := by decide +kernel
theorem dX10_shuffled_80 : decode cX10_shuffled 80 = .ok (.lastore, 1) := by decide +kernel
theorem dX10_shuffled_81 : decode cX10_shuffled 81 = .ok (.iload 6, 2) := by decide +kernel
theorem dX10_shuffled_83 : decode cX10_shuffled 83 = .ok (.iload_n 1, 1) := by decide +kernel
theorem dX10_shuffled_84 : decode cX10_shuffled 84 = .ok (.imul, 1) := by decide +kernel
theorem dX10_shuffled_85 : decode cX10_shuffled 85 = .ok (.istore 6, 2) := by decide +kernel
theorem dX10_shuffled_87 : decode cX10_shuffled 87 = .ok (.iinc 7 1, 3) := by decide +kernel
theorem dX10_shuffled_90 : decode cX10_shuffled 90 = .ok (.goto (-50), 3) := by decide +kernel
theorem dX10_shuffled_93 : decode cX10_shuffled 93 = .ok (.iinc 3 1, 3) := by decide +kernel
theorem dX10_shuffled_96 : decode cX10_shuffled 96 = .ok (.goto (-89), 3) := by decide +kernel
theorem dX10_shuffled_99 : decode cX10_shuffled 99 = .ok (.aload_n 2, 1) := by decide +kernel
theorem dX10_shuffled_100 : decode cX10_shuffled 100 = .ok (.areturn, 1) := by decide +kernel
set_option maxRecDepth 20000 in
theorem ggX10_far_X10_in : GoodIn wsX10_far wsX10_in := goodIn_r _ [13] (by decide +kernel) (by decide +kernel)
set_option maxRecDepth 20000 in
theorem gX10_far_X10_in : GoodIn wsX10_far (va_wsS RX10 29 yX10_in wsX10_in) := goodIn_app (goodIn_of _ (by decide +kernel)) ggX10_far_X10_in
set_option maxRecDepth 20000 in
theorem ggX10_far_X10_shuffled : GoodIn wsX10_far wsX10_shuffled := goodIn_r _ [20, 2] (by decide +kernel) (by decide +kernel)
set_option maxRecDepth 20000 in
theorem gX10_far_X10_shuffled : GoodIn wsX10_far (va_wsS RX10 236 yX10_shuffled wsX10_shuffled) := goodIn_app (goodIn_of _ (by decide +kernel)) ggX10_far_X10_shuffled
set_option maxRecDepth 20000 in
theorem ggX10_far_X8_init : GoodIn wsX10_far wsX8_init := goodIn_r _ [22, 23, 24, 25, 26, 27, 45, 46] (by decide +kernel) (by decide +kernel)
set_option maxRecDepth 20000 in
theorem gX10_far_X8_init_n113 : GoodIn wsX10_far (wsX8_init) := ggX10_far_X8_init
set_option maxRecDepth 20000 in
theorem ggX10_far_X8_add : GoodIn wsX10_far wsX8_add := goodIn_r _ [31, 27, 26, 32, 33, 5, 34, 35, 12, 36, 45, 46] (by decide +kernel) (by decide +kernel)
set_option maxRecDepth 20000 in
theorem gX10_far_X8_add : GoodIn wsX10_far (wsV RX10 114 RX8 yX8_add wsX8_add) := goodIn_app (goodIn_of _ (by decide +kernel)) ggX10_far_X8_add
set_option maxRecDepth 20000 in
theorem ggX10_far_X8_part : GoodIn wsX10_far wsX8_part := goodIn_r _ [40, 27, 26, 45, 46] (by decide +kernel) (by decide +kernel)
set_option maxRecDepth 20000 in
theorem gX10_far_X8_part : GoodIn wsX10_far (wsV RX10 107 RX8 yX8_part wsX8_part) := goodIn_app (goodIn_of _ (by decide +kernel)) ggX10_far_X8_part
theorem dX10_far_0 : decode cX10_far 0 = .ok (.aload_n 0, 1) := by decide +kernel
theorem dX10_far_1 : decode cX10_far 1 = .ok (.iconst 0, 1) := by decide +kernel
theorem dX10_far_2 : decode cX10_far 2 = .ok (.putfield 19, 3) := by decide +kernel
theorem dX10_far_5 : decode cX10_far 5 = .ok (.iload_n 1, 1) := by decide +kernel
theorem dX10_far_6 : decode cX10_far 6 = .ok (.iconst 1, 1) := by decide +kernel
theorem dX10_far_7 : decode cX10_far 7 = .ok (.iconst 5, 1) := by decide +kernel
theorem dX10_far_8 : decode cX10_far 8 = .ok (.invokestatic 29, 3) := by decide +kernel
theorem dX10_far_11 : decode cX10_far 11 = .ok (.ifCond .eq 13, 3) := by decide +kernel
theorem dX10_far_14 : decode cX10_far 14 = .ok (.iload_n 2, 1) := by decide +kernel
theorem dX10_far_15 : decode cX10_far 15 = .ok (.iconst 0, 1) := by decide +kernel
theorem dX10_far_16 : decode cX10_far 16 = .ok (.bipush 7, 2) := by decide +kernel
theorem dX10_far_18 : decode cX10_far 18 = .ok (.invokestatic 29, 3) := by decide +kernel
theorem dX10_far_21 : decode cX10_far 21 = .ok (.ifCond .ne 10, 3) := by decide +kernel
theorem dX10_far_24 : decode cX10_far 24 = .ok (.aload_n 0, 1) := by decide +kernel
theorem dX10_far_25 : decode cX10_far 25 = .ok (.iconst 1, 1) := by decide +kernel
theorem dX10_far_26 : decode cX10_far 26 = .ok (.invokevirtual 33, 3) := by decide +kernel
theorem dX10_far_29 : decode cX10_far 29 = .ok (.i2l, 1) := by decide +kernel
theorem dX10_far_30 : decode cX10_far 30 = .ok (.lreturn, 1) := by decide +kernel
theorem dX10_far_31 : decode cX10_far 31 = .ok (.iconst 1, 1) := by decide +kernel
theorem dX10_far_32 : decode cX10_far 32 = .ok (.istore 4, 2) := by decide +kernel
theorem dX10_far_34 : decode cX10_far 34 = .ok (.iconst 0, 1) := by decide +kernel
theorem dX10_far_35 : decode cX10_far 35 = .ok (.istore 5, 2) := by decide +kernel
theorem dX10_far_37 : decode cX10_far 37 = .ok (.lconst 1, 1) := by decide +kernel
theorem dX10_far_38 : decode cX10_far 38 = .ok (.lstore 6, 2) := by decide +kernel
theorem dX10_far_40 : decode cX10_far 40 = .ok (.iconst 0, 1) := by decide +kernel
theorem dX10_far_41 : decode cX10_far 41 = .ok (.istore 8, 2) := by decide +kernel
theorem dX10_far_43 : decode cX10_far 43 = .ok (.iload 8, 2) := by decide +kernel
theorem dX10_far_45 : decode cX10_far 45 = .ok (.iload_n 1, 1) := by decide +kernel
theorem dX10_far_46 : decode cX10_far 46 = .ok (.if_icmp .ge 35, 3) := by decide +kernel
theorem dX10_far_49 : decode cX10_far 49 = .ok (.iload 5, 2) := by decide +kernel
theorem dX10_far_51 : decode cX10_far 51 = .ok (.iload 8, 2) := by decide +kernel
theorem dX10_far_53 : decode cX10_far 53 = .ok (.iload 4, 2) := by decide +kernel
theorem dX10_far_55 : decode cX10_far 55 = .ok (.imul, 1) := by decide +kernel
theorem dX10_far_56 : decode cX10_far 56 = .ok (.iadd, 1) := by decide +kernel
theorem dX10_far_57 : decode cX10_far 57 = .ok (.istore 5, 2) := by decide +kernel
theorem dX10_far_59 : decode cX10_far 59 = .ok (.iload 4, 2) := by decide +kernel
theorem dX10_far_61 : decode cX10_far 61 = .ok (.iload_n 1, 1) := by decide +kernel
theorem dX10_far_62 : decode cX10_far 62 = .ok (.imul, 1) := by decide +kernel
theorem dX10_far_63 : decode cX10_far 63 = .ok (.istore 4, 2) := by decide +kernel
theorem dX10_far_65 : decode cX10_far 65 = .ok (.lload 6, 2) := by decide +kernel
theorem dX10_far_67 : decode cX10_far 67 = .ok (.iload 8, 2) := by decide +kernel
theorem dX10_far_69 : decode cX10_far 69 = .ok (.iconst 1, 1) := by decide +kernel
theorem dX10_far_70 : decode cX10_far 70 = .ok (.iadd, 1) := by decide +kernel
theorem dX10_far_71 : decode cX10_far 71 = .ok (.i2l, 1) := by decide +kernel
theorem dX10_far_72 : decode cX10_far 72 = .ok (.lmul, 1) := by decide +kernel
theorem dX10_far_73 : decode cX10_far 73 = .ok (.lstore 6, 2) := by decide +kernel
theorem dX10_far_75 : decode cX10_far 75 = .ok (.iinc 8 1, 3) := by decide +kernel
theorem dX10_far_78 : decode cX10_far 78 = .ok (.goto (-35), 3) := by decide +kernel
theorem dX10_far_81 : decode cX10_far 81 = .ok (.iload 4, 2) := by decide +kernel
theorem dX10_far_83 : decode cX10_far 83 = .ok (.newarray .long, 2) := by decide +kernel
theorem dX10_far_85 : decode cX10_far 85 = .ok (.astore 8, 2) := by decide +kernel
theorem dX10_far_87 : decode cX10_far 87 = .ok (.aload 8, 2) := by decide +kernel
theorem dX10_far_89 : decode cX10_far 89 = .ok (.iload 5, 2) := by decide +kernel
theorem dX10_far_91 : decode cX10_far 91 = .ok (.lconst 1, 1) := by decide +kernel
theorem dX10_far_92 : decode cX10_far 92 = .ok (.lastore, 1) := by decide +kernel
theorem dX10_far_93 : decode cX10_far 93 = .ok (.lconst 1, 1) := by decide +kernel
theorem dX10_far_94 : decode cX10_far 94 = .ok (.lstore 9, 2) := by decide +kernel
theorem dX10_far_96 : decode cX10_far 96 = .ok (.iconst 0, 1) := by decide +kernel
theorem dX10_far_97 : decode cX10_far 97 = .ok (.istore 11, 2) := by decide +kernel
theorem dX10_far_99 : decode cX10_far 99 = .ok (.iload 11, 2) := by decide +kernel
theorem dX10_far_101 : decode cX10_far 101 = .ok (.iload_n 2, 1) := by decide +kernel
theorem dX10_far_102 : decode cX10_far 102 = .ok (.if_icmp .ge 24, 3) := by decide +kernel
theorem dX10_far_105 : decode cX10_far 105 = .ok (.aload 8, 2) := by decide +kernel
theorem dX10_far_107 : decode cX10_far 107 = .ok (.iload_n 1, 1) := by decide +kernel
theorem dX10_far_108 : decode cX10_far 108 = .ok (.invokestatic 236, 3) := by decide +kernel
theorem dX10_far_111 : decode cX10_far 111 = .ok (.astore 8, 2) := by decide +kernel
theorem dX10_far_113 : decode cX10_far 113 = .ok (.lload 9, 2) := by decide +kernel
theorem dX10_far_115 : decode cX10_far 115 = .ok (.iload_n 1, 1) := by decide +kernel
theorem dX10_far_116 : decode cX10_far 116 = .ok (.i2l, 1) := by decide +kernel
theorem dX10_far_117 : decode cX10_far 117 = .ok (.lmul, 1) := by decide +kernel
theorem dX10_far_118 : decode cX10_far 118 = .ok (.lstore 9, 2) := by decide +kernel
theorem dX10_far_120 : decode cX10_far 120 = .ok (.iinc 11 1, 3) := by decide +kernel
theorem dX10_far_123 : decode cX10_far 123 = .ok (.goto (-24), 3) := by decide +kernel
theorem dX10_far_126 : decode cX10_far 126 = .ok (.lconst 0, 1) := by decide +kernel
theorem dX10_far_127 : decode cX10_far 127 = .ok (.lstore 11, 2) := by decide +kernel
theorem dX10_far_129 : decode cX10_far 129 = .ok (.aload 8, 2) := by decide +kernel
theorem dX10_far_131 : decode cX10_far 131 = .ok (.astore 13, 2) := by decide +kernel
theorem dX10_far_133 : decode cX10_far 133 = .ok (.aload 13, 2) := by decide +kernel
theorem dX10_far_135 : decode cX10_far 135 = .ok (.arraylength, 1) := by decide +kernel
theorem dX10_far_136 : decode cX10_far 136 = .ok (.istore 14, 2) := by decide +kernel
theorem dX10_far_138 : decode cX10_far 138 = .ok (.iconst 0, 1) := by decide +kernel
theorem dX10_far_139 : decode cX10_far 139 = .ok (.istore 15, 2) := by decide +kernel
theorem dX10_far_141 : decode cX10_far 141 = .ok (.iload 15, 2) := by decide +kernel
theorem dX10_far_143 : decode cX10_far 143 = .ok (.iload 14, 2) := by decide +kernel
theorem dX10_far_145 : decode cX10_far 145 = .ok (.if_icmp .ge 33, 3) := by decide +kernel
theorem dX10_far_148 : decode cX10_far 148 = .ok (.aload 13, 2) := by decide +kernel
theorem dX10_far_150 : decode cX10_far 150 = .ok (.iload 15, 2) := by decide +kernel
theorem dX10_far_152 : decode cX10_far 152 = .ok (.laload, 1) := by decide +kernel
theorem dX10_far_153 : decode cX10_far 153 = .ok (.lstore 16, 2) := by decide +kernel
theorem dX10_far_155 : decode cX10_far 155 = .ok (.lload 11, 2) := by decide +kernel
theorem dX10_far_157 : decode cX10_far 157 = .ok (.lconst 0, 1) := by decide +kernel
theorem dX10_far_158 : decode cX10_far 158 = .ok (.lload 16, 2) := by decide +kernel
theorem dX10_far_160 : decode cX10_far 160 = .ok (.lload 6, 2) := by decide +kernel
theorem dX10_far_162 : decode cX10_far 162 = .ok (.lmul, 1) := by decide +kernel
theorem dX10_far_163 : decode cX10_far 163 = .ok (.lload 9, 2) := by decide +kernel
theorem dX10_far_165 : decode cX10_far 165 = .ok (.lsub, 1) := by decide +kernel
theorem dX10_far_166 : decode cX10_far 166 = .ok (.invokestatic 240, 3) := by decide +kernel
theorem dX10_far_169 : decode cX10_far 169 = .ok (.ladd, 1) := by decide +kernel
theorem dX10_far_170 : decode cX10_far 170 = .ok (.lstore 11, 2) := by decide +kernel
theorem dX10_far_172 : decode cX10_far 172 = .ok (.iinc 15 1, 3) := by decide +kernel
theorem dX10_far_175 : decode cX10_far 175 = .ok (.goto (-34), 3) := by decide +kernel
theorem dX10_far_178 : decode cX10_far 178 = .ok (.new 108, 3) := by decide +kernel
theorem dX10_far_181 : decode cX10_far 181 = .ok (.dup, 1) := by decide +kernel
theorem dX10_far_182 : decode cX10_far 182 = .ok (.invokespecial 113, 3) := by decide +kernel
theorem dX10_far_185 : decode cX10_far 185 = .ok (.lconst 1, 1) := by decide +kernel
theorem dX10_far_186 : decode cX10_far 186 = .ok (.lload 11, 2) := by decide +kernel
theorem dX10_far_188 : decode cX10_far 188 = .ok (.lload 9, 2) := by decide +kernel
theorem dX10_far_190 : decode cX10_far 190 = .ok (.lload 6, 2) := by decide +kernel
theorem dX10_far_192 : decode cX10_far 192 = .ok (.lmul, 1) := by decide +kernel
theorem dX10_far_193 : decode cX10_far 193 = .ok (.invokevirtual 114, 3) := by decide +kernel
theorem dX10_far_196 : decode cX10_far 196 = .ok (.iload_n 3, 1) := by decide +kernel
theorem dX10_far_197 : decode cX10_far 197 = .ok (.invokevirtual 107, 3) := by decide +kernel
theorem dX10_far_200 : decode cX10_far 200 = .ok (.lreturn, 1) := by decide +kernel
theorem dJxa1e45_init_da8c8_0 : decode cJxa1e45_init_da8c8 0 = .ok (.aload_n 0, 1) := by decide +kernel
theorem dJxa1e45_init_da8c8_1 : decode cJxa1e45_init_da8c8 1 = .ok (.invokespecial 1, 3) := by decide +kernel
theorem dJxa1e45_init_da8c8_4 : decode cJxa1e45_init_da8c8 4 = .ok (.return_, 1) := by decide +kernel
set_option maxRecDepth 20000 in
theorem ggJxc12de_init_da8c8_Jxa1e45_init_da8c8 : GoodIn wsJxc12de_init_da8c8 wsJxa1e45_init_da8c8 := goodIn_r _ [5, 6, 7, 8] (by decide +kernel) (by decide +kernel)
set_option maxRecDepth 20000 in
theorem gJxc12de_init_da8c8_Jxa1e45_init_da8c8 : GoodIn wsJxc12de_init_da8c8 (wsJxa1e45_init_da8c8) := ggJxc12de_init_da8c8_Jxa1e45_init_da8c8
theorem dJxc12de_init_da8c8_0 : decode cJxc12de_init_da8c8 0 = .ok (.aload_n 0, 1) := by decide +kernel
theorem dJxc12de_init_da8c8_1 : decode cJxc12de_init_da8c8 1 = .ok (.invokespecial 1, 3) := by decide +kernel
theorem dJxc12de_init_da8c8_4 : decode cJxc12de_init_da8c8 4 = .ok (.aload_n 0, 1) := by decide +kernel
theorem dJxc12de_init_da8c8_5 : decode cJxc12de_init_da8c8 5 = .ok (.iconst 0, 1) := by decide +kernel
theorem dJxc12de_init_da8c8_6 : decode cJxc12de_init_da8c8 6 = .ok (.putfield 7, 3) := by decide +kernel
theorem dJxc12de_init_da8c8_9 : decode cJxc12de_init_da8c8 9 = .ok (.return_, 1) := by decide +kernel
set_option maxRecDepth 20000 in
theorem ggJx4a65c_init_da8c8_Jxc12de_init_da8c8 : GoodIn wsJx4a65c_init_da8c8 wsJxc12de_init_da8c8 := goodIn_r _ [6, 7, 8, 9, 10, 11, 12, 13, 14, 15, 16, 17] (by decide +kernel) (by decide +kernel)
set_option maxRecDepth 20000 in
theorem gJx4a65c_init_da8c8_Jxc12de_init_da8c8 : GoodIn wsJx4a65c_init_da8c8 (wsJxc12de_init_da8c8) := ggJx4a65c_init_da8c8_Jxc12de_init_da8c8
theorem dJx4a65c_init_da8c8_0 : decode cJx4a65c_init_da8c8 0 = .ok (.aload_n 0, 1) := by decide +kernel
theorem dJx4a65c_init_da8c8_1 : decode cJx4a65c_init_da8c8 1 = .ok (.invokespecial 1, 3) := by decide +kernel
theorem dJx4a65c_init_da8c8_4 : decode cJx4a65c_init_da8c8 4 = .ok (.aload_n 0, 1) := by decide +kernel
theorem dJx4a65c_init_da8c8_5 : decode cJx4a65c_init_da8c8 5 = .ok (.getstatic 39, 3) := by decide +kernel
theorem dJx4a65c_init_da8c8_8 : decode cJx4a65c_init_da8c8 8 = .ok (.putfield 9, 3) := by decide +kernel
theorem dJx4a65c_init_da8c8_11 : decode cJx4a65c_init_da8c8 11 = .ok (.return_, 1) := by decide +kernel
set_option maxRecDepth 20000 in
theorem ggL_far_X5_far : GoodIn wsL_far wsX5_far := goodIn_ca (goodIn_r _ [6, 7, 8, 9, 10, 11, 12, 5, 13, 14, 15, 16, 17, 18, 19, 20, 21, 22, 23, 24, 25, 26, 27, 28, 29, 30, 31, 32, 33, 34, 35, 36, 37, 38, 39, 40, 41, 42, 43, 44, 45, 49, 50, 51, 52, 53, 54, 55, 56, 57] (by decide +kernel) (by decide +kernel)) (goodIn_sub (fun _ h => List.mem_cons_of_mem _ (List.mem_append_right _ h)) (by decide +kernel))
set_option maxRecDepth 20000 in
theorem gL_far_X5_far : GoodIn wsL_far (wsV RL 93 RX5 yX5_far wsX5_far) := goodIn_app (goodIn_of _ (by decide +kernel)) ggL_far_X5_far
theorem dL_far_0 : decode cL_far 0 = .ok (.aload 4, 2) := by decide +kernel
theorem dL_far_2 : decode cL_far 2 = .ok (.aload_n 0, 1) := by decide +kernel
theorem dL_far_3 : decode cL_far 3 = .ok (.iload_n 1, 1) := by decide +kernel
theorem dL_far_4 : decode cL_far 4 = .ok (.iload_n 2, 1) := by decide +kernel
theorem dL_far_5 : decode cL_far 5 = .ok (.iload_n 3, 1) := by decide +kernel
theorem dL_far_6 : decode cL_far 6 = .ok (.invokevirtual 93, 3) := by decide +kernel
theorem dL_far_9 : decode cL_far 9 = .ok (.putfield 13, 3) := by decide +kernel
theorem dL_far_12 : decode cL_far 12 = .ok (.goto 7, 3) := by decide +kernel
theorem dL_far_15 : decode cL_far 15 = .ok (.astore 5, 2) := by decide +kernel
theorem dL_far_17 : decode cL_far 17 = .ok (.iconst 1, 1) := by decide +kernel
theorem dL_far_18 : decode cL_far 18 = .ok (.ireturn, 1) := by decide +kernel
theorem dL_far_19 : decode cL_far 19 = .ok (.iconst 0, 1) := by decide +kernel
theorem dL_far_20 : decode cL_far 20 = .ok (.ireturn, 1) := by decide +kernel
theorem dL_law_0 : decode cL_law 0 = .ok (.new 8, 3) := by decide +kernel
theorem dL_law_3 : decode cL_law 3 = .ok (.dup, 1) := by decide +kernel
theorem dL_law_4 : decode cL_law 4 = .ok (.invokespecial 128, 3) := by decide +kernel
theorem dL_law_7 : decode cL_law 7 = .ok (.astore_n 1, 1) := by decide +kernel
theorem dL_law_8 : decode cL_law 8 = .ok (.new 129, 3) := by decide +kernel
theorem dL_law_11 : decode cL_law 11 = .ok (.dup, 1) := by decide +kernel
theorem dL_law_12 : decode cL_law 12 = .ok (.invokespecial 131, 3) := by decide +kernel
theorem dL_law_15 : decode cL_law 15 = .ok (.astore_n 2, 1) := by decide +kernel
theorem dL_law_16 : decode cL_law 16 = .ok (.new 14, 3) := by decide +kernel
theorem dL_law_19 : decode cL_law 19 = .ok (.dup, 1) := by decide +kernel
theorem dL_law_20 : decode cL_law 20 = .ok (.invokespecial 132, 3) := by decide +kernel
theorem dL_law_23 : decode cL_law 23 = .ok (.astore_n 3, 1) := by decide +kernel
theorem dL_law_24 : decode cL_law 24 = .ok (.iconst 0, 1) := by decide +kernel
theorem dL_law_25 : decode cL_law 25 = .ok (.istore 4, 2) := by decide +kernel
theorem dL_law_27 : decode cL_law 27 = .ok (.iload 4, 2) := by decide +kernel
theorem dL_law_29 : decode cL_law 29 = .ok (.aload_n 0, 1) := by decide +kernel
theorem dL_law_30 : decode cL_law 30 = .ok (.arraylength, 1) := by decide +kernel
theorem dL_law_31 : decode cL_law 31 = .ok (.bipush 7, 2) := by decide +kernel
theorem dL_law_33 : decode cL_law 33 = .ok (.isub, 1) := by decide +kernel
theorem dL_law_34 : decode cL_law 34 = .ok (.if_icmp .gt 1896, 3) := by decide +kernel
theorem dL_law_37 : decode cL_law 37 = .ok (.aload_n 0, 1) := by decide +kernel
theorem dL_law_38 : decode cL_law 38 = .ok (.iload 4, 2) := by decide +kernel
theorem dL_law_40 : decode cL_law 40 = .ok (.iaload, 1) := by decide +kernel
theorem dL_law_41 : decode cL_law 41 = .ok (.bipush 31, 2) := by decide +kernel
theorem dL_law_43 : decode cL_law 43 = .ok (.iand, 1) := by decide +kernel
theorem dL_law_44 : decode cL_law 44 = .ok (.tableswitch 1880 0 28 #[132, 225, 301, 353, 405, 445, 473, 549, 617, 697, 793, 833, 873, 965, 1061, 1141, 1221, 1343, 1411, 1503, 1543, 1611, 1651, 1679, 1707, 1747, 1775, 1815, 1867], 132) := by decide +kernel
theorem dL_law_1587 : decode cL_law 1587 = .ok (.aload_n 1, 1) := by decide +kernel
theorem dL_law_1588 : decode cL_law 1588 = .ok (.aload_n 0, 1) := by decide +kernel
theorem dL_law_1589 : decode cL_law 1589 = .ok (.iload 4, 2) := by decide +kernel
theorem dL_law_1591 : decode cL_law 1591 = .ok (.iconst 1, 1) := by decide +kernel
theorem dL_law_1592 : decode cL_law 1592 = .ok (.iadd, 1) := by decide +kernel
theorem dL_law_1593 : decode cL_law 1593 = .ok (.iaload, 1) := by decide +kernel
theorem dL_law_1594 : decode cL_law 1594 = .ok (.aload_n 0, 1) := by decide +kernel
theorem dL_law_1595 : decode cL_law 1595 = .ok (.iload 4, 2) := by decide +kernel
theorem dL_law_1597 : decode cL_law 1597 = .ok (.iconst 2, 1) := by decide +kernel
theorem dL_law_1598 : decode cL_law 1598 = .ok (.iadd, 1) := by decide +kernel
theorem dL_law_1599 : decode cL_law 1599 = .ok (.iaload, 1) := by decide +kernel
theorem dL_law_1600 : decode cL_law 1600 = .ok (.aload_n 0, 1) := by decide +kernel
theorem dL_law_1601 : decode cL_law 1601 = .ok (.iload 4, 2) := by decide +kernel
theorem dL_law_1603 : decode cL_law 1603 = .ok (.iconst 3, 1) := by decide +kernel
theorem dL_law_1604 : decode cL_law 1604 = .ok (.iadd, 1) := by decide +kernel
theorem dL_law_1605 : decode cL_law 1605 = .ok (.iaload, 1) := by decide +kernel
theorem dL_law_1606 : decode cL_law 1606 = .ok (.ifCond .eq 7, 3) := by decide +kernel
theorem dL_law_1609 : decode cL_law 1609 = .ok (.iconst 1, 1) := by decide +kernel
theorem dL_law_1610 : decode cL_law 1610 = .ok (.goto 4, 3) := by decide +kernel
theorem dL_law_1613 : decode cL_law 1613 = .ok (.iconst 0, 1) := by decide +kernel
theorem dL_law_1614 : decode cL_law 1614 = .ok (.aload_n 3, 1) := by decide +kernel
theorem dL_law_1615 : decode cL_law 1615 = .ok (.invokestatic 209, 3) := by decide +kernel
theorem dL_law_1618 : decode cL_law 1618 = .ok (.istore 5, 2) := by decide +kernel
theorem dL_law_1620 : decode cL_law 1620 = .ok (.aload_n 2, 1) := by decide +kernel
theorem dL_law_1621 : decode cL_law 1621 = .ok (.aload_n 0, 1) := by decide +kernel
theorem dL_law_1622 : decode cL_law 1622 = .ok (.iload 4, 2) := by decide +kernel
theorem dL_law_1624 : decode cL_law 1624 = .ok (.iconst 1, 1) := by decide +kernel
theorem dL_law_1625 : decode cL_law 1625 = .ok (.iadd, 1) := by decide +kernel
theorem dL_law_1626 : decode cL_law 1626 = .ok (.iaload, 1) := by decide +kernel
theorem dL_law_1627 : decode cL_law 1627 = .ok (.aload_n 0, 1) := by decide +kernel
theorem dL_law_1628 : decode cL_law 1628 = .ok (.iload 4, 2) := by decide +kernel
theorem dL_law_1630 : decode cL_law 1630 = .ok (.iconst 2, 1) := by decide +kernel
theorem dL_law_1631 : decode cL_law 1631 = .ok (.iadd, 1) := by decide +kernel
theorem dL_law_1632 : decode cL_law 1632 = .ok (.iaload, 1) := by decide +kernel
theorem dL_law_1633 : decode cL_law 1633 = .ok (.aload_n 0, 1) := by decide +kernel
theorem dL_law_1634 : decode cL_law 1634 = .ok (.iload 4, 2) := by decide +kernel
theorem dL_law_1636 : decode cL_law 1636 = .ok (.iconst 3, 1) := by decide +kernel
theorem dL_law_1637 : decode cL_law 1637 = .ok (.iadd, 1) := by decide +kernel
theorem dL_law_1638 : decode cL_law 1638 = .ok (.iaload, 1) := by decide +kernel
theorem dL_law_1639 : decode cL_law 1639 = .ok (.ifCond .eq 7, 3) := by decide +kernel
theorem dL_law_1642 : decode cL_law 1642 = .ok (.iconst 1, 1) := by decide +kernel
theorem dL_law_1643 : decode cL_law 1643 = .ok (.goto 4, 3) := by decide +kernel
theorem dL_law_1646 : decode cL_law 1646 = .ok (.iconst 0, 1) := by decide +kernel
theorem dL_law_1647 : decode cL_law 1647 = .ok (.invokevirtual 211, 3) := by decide +kernel
theorem dL_law_1650 : decode cL_law 1650 = .ok (.lstore 6, 2) := by decide +kernel
theorem dL_law_1652 : decode cL_law 1652 = .ok (.goto 272, 3) := by decide +kernel
theorem dL_law_1924 : decode cL_law 1924 = .ok (.iinc 4 7, 3) := by decide +kernel
theorem dL_law_1927 : decode cL_law 1927 = .ok (.goto (-1900), 3) := by decide +kernel
theorem dL_law_1930 : decode cL_law 1930 = .ok (.iconst 1, 1) := by decide +kernel
theorem dL_law_1931 : decode cL_law 1931 = .ok (.ireturn, 1) := by decide +kernel
end
section
/-! the classes whose objects the walk of far's calls needs, and the words that the heap's frame does not carry -/
abbrev fxCl : List vw_C := [(RX0, TX0, 1), (RX1, TX1, 9), (RX3, TX3, 2), (RX5, TX5, 8), (RX6, TX6, 3), (RX8, TX8, 2), (RX10, TX10, 4), (RJx4a65c, TJx4a65c, 3)]
theorem fx_gt {k n : Nat} (c : ¬ nI n < nI k) (hn : n < 2 ^ 31) (hk : k < 2 ^ 31) : k ≤ n := by
  rcases Nat.lt_or_ge n k with h | h
  · exact absurd ((nI_ltI hn hk).mpr h) c
  · exact h
theorem fx_ge {k n : Nat} (c : ¬ nI n ≤ nI k) (hn : n < 2 ^ 31) (hk : k < 2 ^ 31) : k < n := by
  rcases Nat.lt_or_ge k n with h | h
  · exact h
  · exact absurd ((nI_leI hn hk).mpr h) c
theorem fx_dec {k : Nat} (h : 0 < k) : nI k + Int32.ofInt (-1) = nI (k - 1) := by
  cases k with
  | zero => omega
  | succ j =>
    show nI (j + 1) + Int32.ofInt (-1) = nI j
    rw [← nI_pred j, Int32.sub_eq_add_neg]
    rfl
theorem fx_sub {k : Nat} (h : 0 < k) : nI k - 1 = nI (k - 1) := by
  cases k with
  | zero => omega
  | succ j => exact nI_pred j
theorem fx_lc {x y : Int64} (h : ¬ lg_cmp x y = 0) : ¬ x = y := fun e => h ((lg_cmp_eq x y).mpr e)
theorem fx_lt1 {x y : Int64} (h : lg_cmp x y = 0) : x = y := (lg_cmp_eq x y).mp h
theorem fx_bmod {z : Int} (h1 : -9223372036854775808 ≤ z) (h2 : z < 9223372036854775808) : z.bmod (2 ^ 64) = z := by
  rw [Int.bmod_def]
  split <;> omega
/-- the rest is nearer to 0 than the divisor -/
theorem fx_rem {a b : Int64} (hb : ¬ b = 0) : (a - a / b * b).toInt.natAbs < b.toInt.natAbs := by
  have h0 : ¬ b.toInt = 0 := fun e => hb (Int64.toInt_inj.mp (by rw [e]; rfl))
  have e1 : a - a / b * b = a % b := by
    apply Int64.toInt_inj.mp
    rw [Int64.toInt_sub, Int64.toInt_mul, Int64.toInt_div, Int64.toInt_mod]
    have h1 : a.toInt.tdiv b.toInt * b.toInt = a.toInt - a.toInt.tmod b.toInt := by
      have := Int.tmod_add_tdiv_mul a.toInt b.toInt
      omega
    rw [Int.bmod_mul_bmod, Int.sub_bmod_bmod, h1]
    rw [show a.toInt - (a.toInt - a.toInt.tmod b.toInt) = a.toInt.tmod b.toInt by omega]
    apply fx_bmod
    · have h3 := Int.natAbs_tmod a.toInt b.toInt
      have h4 := Nat.mod_lt a.toInt.natAbs (show b.toInt.natAbs > 0 by omega)
      have h5 := Int64.le_toInt b
      have h6 := Int64.toInt_lt b
      omega
    · have h3 := Int.natAbs_tmod a.toInt b.toInt
      have h4 := Nat.mod_lt a.toInt.natAbs (show b.toInt.natAbs > 0 by omega)
      have h5 := Int64.le_toInt b
      have h6 := Int64.toInt_lt b
      omega
  rw [e1, Int64.toInt_mod, Int.natAbs_tmod]
  exact Nat.mod_lt _ (by omega)
set_option maxHeartbeats 4000000 in
set_option maxRecDepth 100000 in
/-- X5_isWithin: 1 between the bounds -/
theorem c_X5_isWithin (l : Launch) (a b c0 : Int32) : Met l yX5_isWithin wsX5_isWithin ({ frames := 0, cells := 0, slots := 0, locals := 0 } : Room) (fun v _ => v = ([.int a, .int b, .int c0] : List Value).toArray) (vp_Si (fun r => b ≤ a → a ≤ c0 → r = 1)) 0 0 (fun _ => False) := by
  refine Met.ofW (cc := cX5_isWithin) (maxL := 3) (ret := (some .boolean)) (by decide) rfl ?_
  intro p e s m args below meth c s₁ B hml hv
  obtain rfl := hv
  have hx := B.exec
  have hb := B.bytes
  have hr := B.returns
  have hts := atoms_spec (ws := wsX5_isWithin) B.pre
  have hown : s.vm.findClass RX5 = some m.cls := findClass_of_methodNamed B.named
  have hlocks := B.notSynchronized
  have hl := lv_entry ([.int a, .int b, .int c0]) (n := 3) (Nat.le_of_ble_eq_true rfl)
  rw [lg_entry_eq]
  generalize (lg_sl ([.int a, .int b, .int c0]) ++ List.replicate (3 - (lg_sl ([.int a, .int b, .int c0])).length) Slot.unset).toArray = ls at hl ⊢
  have hl : lv_has ls 3 [(0, .int a), (1, .int b), (2, .int c0)] := hl
  refine lv_iload_n hx hb dX5_isWithin_0 rfl (lv_at hl 0 rfl) ?_
  refine lv_iload_n hx hb dX5_isWithin_1 rfl (lv_at hl 1 rfl) ?_
  refine lv_icmp_lt (tgt := 14) hx hb dX5_isWithin_2 (by decide) (fun c_1 => ?_) (fun c_1 => ?_)
  · skip
    refine lv_iconst (v := 0) hx hb dX5_isWithin_14 (by decide) ?_
    exact W.zret (v := 0) (ty := .boolean) hx hb hr (by decide +kernel) (fun t ht hW => ⟨0, rfl, fun h _ => absurd h (Int32.not_le.mpr c_1), ht⟩) (fun _ h => by cases h) dX5_isWithin_15
  · skip
    refine lv_iload_n hx hb dX5_isWithin_5 rfl (lv_at hl 0 rfl) ?_
    refine lv_iload_n hx hb dX5_isWithin_6 rfl (lv_at hl 2 rfl) ?_
    refine lv_icmp_gt (tgt := 14) hx hb dX5_isWithin_7 (by decide) (fun c_2 => ?_) (fun c_2 => ?_)
    · skip
      refine lv_iconst (v := 0) hx hb dX5_isWithin_14 (by decide) ?_
      exact W.zret (v := 0) (ty := .boolean) hx hb hr (by decide +kernel) (fun t ht hW => ⟨0, rfl, fun _ h => absurd h (Int32.not_le.mpr c_2), ht⟩) (fun _ h => by cases h) dX5_isWithin_15
    · skip
      refine lv_iconst (v := 1) hx hb dX5_isWithin_10 (by decide) ?_
      refine lv_goto (tgt := 15) hx hb dX5_isWithin_11 (by decide) ?_
      exact W.zret (v := 1) (ty := .boolean) hx hb hr (by decide +kernel) (fun t ht hW => ⟨1, rfl, fun _ _ => rfl, ht⟩) (fun _ h => by cases h) dX5_isWithin_15
set_option maxHeartbeats 4000000 in
set_option maxRecDepth 100000 in
/-- X10_in: 1 between the bounds -/
theorem c_X10_in (l : Launch) (a b c0 : Int32) : Met l yX10_in wsX10_in ({ frames := 0, cells := 0, slots := 0, locals := 0 } : Room) (fun v _ => v = ([.int a, .int b, .int c0] : List Value).toArray) (vp_Si (fun r => b ≤ a → a ≤ c0 → r = 1)) 0 0 (fun _ => False) := by
  refine Met.ofW (cc := cX10_in) (maxL := 3) (ret := (some .boolean)) (by decide) rfl ?_
  intro p e s m args below meth c s₁ B hml hv
  obtain rfl := hv
  have hx := B.exec
  have hb := B.bytes
  have hr := B.returns
  have hts := atoms_spec (ws := wsX10_in) B.pre
  have hown : s.vm.findClass RX10 = some m.cls := findClass_of_methodNamed B.named
  have hlocks := B.notSynchronized
  have hl := lv_entry ([.int a, .int b, .int c0]) (n := 3) (Nat.le_of_ble_eq_true rfl)
  rw [lg_entry_eq]
  generalize (lg_sl ([.int a, .int b, .int c0]) ++ List.replicate (3 - (lg_sl ([.int a, .int b, .int c0])).length) Slot.unset).toArray = ls at hl ⊢
  have hl : lv_has ls 3 [(0, .int a), (1, .int b), (2, .int c0)] := hl
  refine lv_iload_n hx hb dX10_in_0 rfl (lv_at hl 0 rfl) ?_
  refine lv_iload_n hx hb dX10_in_1 rfl (lv_at hl 1 rfl) ?_
  refine lv_icmp_lt (tgt := 14) hx hb dX10_in_2 (by decide) (fun c_1 => ?_) (fun c_1 => ?_)
  · skip
    refine lv_iconst (v := 0) hx hb dX10_in_14 (by decide) ?_
    exact W.zret (v := 0) (ty := .boolean) hx hb hr (by decide +kernel) (fun t ht hW => ⟨0, rfl, fun h _ => absurd h (Int32.not_le.mpr c_1), ht⟩) (fun _ h => by cases h) dX10_in_15
  · skip
    refine lv_iload_n hx hb dX10_in_5 rfl (lv_at hl 0 rfl) ?_
    refine lv_iload_n hx hb dX10_in_6 rfl (lv_at hl 2 rfl) ?_
    refine lv_icmp_gt (tgt := 14) hx hb dX10_in_7 (by decide) (fun c_2 => ?_) (fun c_2 => ?_)
    · skip
      refine lv_iconst (v := 0) hx hb dX10_in_14 (by decide) ?_
      exact W.zret (v := 0) (ty := .boolean) hx hb hr (by decide +kernel) (fun t ht hW => ⟨0, rfl, fun _ h => absurd h (Int32.not_le.mpr c_2), ht⟩) (fun _ h => by cases h) dX10_in_15
    · skip
      refine lv_iconst (v := 1) hx hb dX10_in_10 (by decide) ?_
      refine lv_goto (tgt := 15) hx hb dX10_in_11 (by decide) ?_
      exact W.zret (v := 1) (ty := .boolean) hx hb hr (by decide +kernel) (fun t ht hW => ⟨1, rfl, fun _ _ => rfl, ht⟩) (fun _ h => by cases h) dX10_in_15
set_option maxHeartbeats 4000000 in
set_option maxRecDepth 100000 in
/-- factorial(5) -/
theorem c_X5_factorial (l : Launch) : Met l yX5_factorial wsX5_factorial ({ frames := 0, cells := 0, slots := 0, locals := 0 } : Room) (fun v _ => v = ([.int 5] : List Value).toArray) (vp_Sl (fun r => r = 120)) 0 0 (fun _ => False) := by
  refine Met.ofW (cc := cX5_factorial) (maxL := 4) (ret := (some .long)) (by decide) rfl ?_
  intro p e s m args below meth c s₁ B hml hv
  obtain rfl := hv
  have hx := B.exec
  have hb := B.bytes
  have hr := B.returns
  have hts := atoms_spec (ws := wsX5_factorial) B.pre
  have hown : s.vm.findClass RX5 = some m.cls := findClass_of_methodNamed B.named
  have hlocks := B.notSynchronized
  have hl := lv_entry ([.int 5]) (n := 4) (Nat.le_of_ble_eq_true rfl)
  rw [lg_entry_eq]
  generalize (lg_sl ([.int 5]) ++ List.replicate (4 - (lg_sl ([.int 5])).length) Slot.unset).toArray = ls at hl ⊢
  have hl : lv_has ls 4 [(0, .int 5)] := hl
  refine lv_lconst (v := 1) hx hb dX5_factorial_0 (by decide) ?_
  refine lv_lstore_n (lv' := [(1, .long 1), (0, .int 5)]) hx hb dX5_factorial_1 rfl hl (by decide) rfl (fun ls hl => ?_)
  refine lv_iconst (v := 2) hx hb dX5_factorial_2 (by decide) ?_
  refine lv_istore_n (lv' := [(3, .int 2), (1, .long 1), (0, .int 5)]) hx hb dX5_factorial_3 rfl hl (by decide) rfl (fun ls hl => ?_)
  refine lv_iload_n hx hb dX5_factorial_4 rfl (lv_at hl 0 rfl) ?_
  refine lv_iload_n hx hb dX5_factorial_5 rfl (lv_at hl 2 rfl) ?_
  refine lv_icmp_gt (tgt := 20) hx hb dX5_factorial_6 (by decide) (fun c => absurd c (by decide)) (fun _ => ?_)
  refine lv_lload_n hx hb dX5_factorial_9 rfl (lv_at hl 1 rfl) ?_
  refine lv_iload_n hx hb dX5_factorial_10 rfl (lv_at hl 0 rfl) ?_
  refine lv_i2l (v := 2) hx hb dX5_factorial_11 (by decide) ?_
  refine lv_lmul hx hb dX5_factorial_12 ?_
  refine lv_topl (fun x_1 ex_1 => ?_)
  obtain rfl : x_1 = (2 : Int64) := ex_1.trans (by decide)
  refine lv_lstore_n (lv' := [(1, .long 2), (3, .int 2), (0, .int 5)]) hx hb dX5_factorial_13 rfl hl (by decide) rfl (fun ls hl => ?_)
  refine lv_iinc (v := 3) (lv' := [(3, .int 3), (1, .long 2), (0, .int 5)]) hx hb dX5_factorial_14 hl (k := 1) rfl (by decide) (by decide) rfl (fun ls hl => ?_)
  refine lv_goto (tgt := 4) hx hb dX5_factorial_17 (by decide) ?_
  refine lv_iload_n hx hb dX5_factorial_4 rfl (lv_at hl 0 rfl) ?_
  refine lv_iload_n hx hb dX5_factorial_5 rfl (lv_at hl 2 rfl) ?_
  refine lv_icmp_gt (tgt := 20) hx hb dX5_factorial_6 (by decide) (fun c => absurd c (by decide)) (fun _ => ?_)
  refine lv_lload_n hx hb dX5_factorial_9 rfl (lv_at hl 1 rfl) ?_
  refine lv_iload_n hx hb dX5_factorial_10 rfl (lv_at hl 0 rfl) ?_
  refine lv_i2l (v := 3) hx hb dX5_factorial_11 (by decide) ?_
  refine lv_lmul hx hb dX5_factorial_12 ?_
  refine lv_topl (fun x_2 ex_2 => ?_)
  obtain rfl : x_2 = (6 : Int64) := ex_2.trans (by decide)
  refine lv_lstore_n (lv' := [(1, .long 6), (3, .int 3), (0, .int 5)]) hx hb dX5_factorial_13 rfl hl (by decide) rfl (fun ls hl => ?_)
  refine lv_iinc (v := 4) (lv' := [(3, .int 4), (1, .long 6), (0, .int 5)]) hx hb dX5_factorial_14 hl (k := 1) rfl (by decide) (by decide) rfl (fun ls hl => ?_)
  refine lv_goto (tgt := 4) hx hb dX5_factorial_17 (by decide) ?_
  refine lv_iload_n hx hb dX5_factorial_4 rfl (lv_at hl 0 rfl) ?_
  refine lv_iload_n hx hb dX5_factorial_5 rfl (lv_at hl 2 rfl) ?_
  refine lv_icmp_gt (tgt := 20) hx hb dX5_factorial_6 (by decide) (fun c => absurd c (by decide)) (fun _ => ?_)
  refine lv_lload_n hx hb dX5_factorial_9 rfl (lv_at hl 1 rfl) ?_
  refine lv_iload_n hx hb dX5_factorial_10 rfl (lv_at hl 0 rfl) ?_
  refine lv_i2l (v := 4) hx hb dX5_factorial_11 (by decide) ?_
  refine lv_lmul hx hb dX5_factorial_12 ?_
  refine lv_topl (fun x_3 ex_3 => ?_)
  obtain rfl : x_3 = (24 : Int64) := ex_3.trans (by decide)
  refine lv_lstore_n (lv' := [(1, .long 24), (3, .int 4), (0, .int 5)]) hx hb dX5_factorial_13 rfl hl (by decide) rfl (fun ls hl => ?_)
  refine lv_iinc (v := 5) (lv' := [(3, .int 5), (1, .long 24), (0, .int 5)]) hx hb dX5_factorial_14 hl (k := 1) rfl (by decide) (by decide) rfl (fun ls hl => ?_)
  refine lv_goto (tgt := 4) hx hb dX5_factorial_17 (by decide) ?_
  refine lv_iload_n hx hb dX5_factorial_4 rfl (lv_at hl 0 rfl) ?_
  refine lv_iload_n hx hb dX5_factorial_5 rfl (lv_at hl 2 rfl) ?_
  refine lv_icmp_gt (tgt := 20) hx hb dX5_factorial_6 (by decide) (fun c => absurd c (by decide)) (fun _ => ?_)
  refine lv_lload_n hx hb dX5_factorial_9 rfl (lv_at hl 1 rfl) ?_
  refine lv_iload_n hx hb dX5_factorial_10 rfl (lv_at hl 0 rfl) ?_
  refine lv_i2l (v := 5) hx hb dX5_factorial_11 (by decide) ?_
  refine lv_lmul hx hb dX5_factorial_12 ?_
  refine lv_topl (fun x_4 ex_4 => ?_)
  obtain rfl : x_4 = (120 : Int64) := ex_4.trans (by decide)
  refine lv_lstore_n (lv' := [(1, .long 120), (3, .int 5), (0, .int 5)]) hx hb dX5_factorial_13 rfl hl (by decide) rfl (fun ls hl => ?_)
  refine lv_iinc (v := 6) (lv' := [(3, .int 6), (1, .long 120), (0, .int 5)]) hx hb dX5_factorial_14 hl (k := 1) rfl (by decide) (by decide) rfl (fun ls hl => ?_)
  refine lv_goto (tgt := 4) hx hb dX5_factorial_17 (by decide) ?_
  refine lv_iload_n hx hb dX5_factorial_4 rfl (lv_at hl 0 rfl) ?_
  refine lv_iload_n hx hb dX5_factorial_5 rfl (lv_at hl 2 rfl) ?_
  refine lv_icmp_gt (tgt := 20) hx hb dX5_factorial_6 (by decide) (fun _ => ?_) (fun c => absurd (by decide) c)
  refine lv_lload_n hx hb dX5_factorial_20 rfl (lv_at hl 1 rfl) ?_
  exact W.lret (v := 120) hx hb hr (fun t ht hW => ⟨120, rfl, rfl, ht⟩) (fun _ h => by cases h) dX5_factorial_21
set_option maxHeartbeats 4000000 in
set_option maxRecDepth 100000 in
/-- power(5, 7) -/
theorem c_X5_power (l : Launch) : Met l yX5_power wsX5_power ({ frames := 0, cells := 0, slots := 0, locals := 0 } : Room) (fun v _ => v = ([.int 5, .int 7] : List Value).toArray) (vp_Sl (fun r => r = 78125)) 0 0 (fun _ => False) := by
  refine Met.ofW (cc := cX5_power) (maxL := 5) (ret := (some .long)) (by decide) rfl ?_
  intro p e s m args below meth c s₁ B hml hv
  obtain rfl := hv
  have hx := B.exec
  have hb := B.bytes
  have hr := B.returns
  have hts := atoms_spec (ws := wsX5_power) B.pre
  have hown : s.vm.findClass RX5 = some m.cls := findClass_of_methodNamed B.named
  have hlocks := B.notSynchronized
  have hl := lv_entry ([.int 5, .int 7]) (n := 5) (Nat.le_of_ble_eq_true rfl)
  rw [lg_entry_eq]
  generalize (lg_sl ([.int 5, .int 7]) ++ List.replicate (5 - (lg_sl ([.int 5, .int 7])).length) Slot.unset).toArray = ls at hl ⊢
  have hl : lv_has ls 5 [(0, .int 5), (1, .int 7)] := hl
  refine lv_lconst (v := 1) hx hb dX5_power_0 (by decide) ?_
  refine lv_lstore_n (lv' := [(2, .long 1), (0, .int 5), (1, .int 7)]) hx hb dX5_power_1 rfl hl (by decide) rfl (fun ls hl => ?_)
  refine lv_iconst (v := 0) hx hb dX5_power_2 (by decide) ?_
  refine lv_istore (lv' := [(4, .int 0), (2, .long 1), (0, .int 5), (1, .int 7)]) hx hb dX5_power_3 hl (by decide) rfl (fun ls hl => ?_)
  refine lv_iload hx hb dX5_power_5 (lv_at hl 0 rfl) ?_
  refine lv_iload_n hx hb dX5_power_7 rfl (lv_at hl 3 rfl) ?_
  refine lv_icmp_ge (tgt := 22) hx hb dX5_power_8 (by decide) (fun c => absurd c (by decide)) (fun _ => ?_)
  refine lv_lload_n hx hb dX5_power_11 rfl (lv_at hl 1 rfl) ?_
  refine lv_iload_n hx hb dX5_power_12 rfl (lv_at hl 2 rfl) ?_
  refine lv_i2l (v := 5) hx hb dX5_power_13 (by decide) ?_
  refine lv_lmul hx hb dX5_power_14 ?_
  refine lv_topl (fun x_1 ex_1 => ?_)
  obtain rfl : x_1 = (5 : Int64) := ex_1.trans (by decide)
  refine lv_lstore_n (lv' := [(2, .long 5), (4, .int 0), (0, .int 5), (1, .int 7)]) hx hb dX5_power_15 rfl hl (by decide) rfl (fun ls hl => ?_)
  refine lv_iinc (v := 1) (lv' := [(4, .int 1), (2, .long 5), (0, .int 5), (1, .int 7)]) hx hb dX5_power_16 hl (k := 1) rfl (by decide) (by decide) rfl (fun ls hl => ?_)
  refine lv_goto (tgt := 5) hx hb dX5_power_19 (by decide) ?_
  refine lv_iload hx hb dX5_power_5 (lv_at hl 0 rfl) ?_
  refine lv_iload_n hx hb dX5_power_7 rfl (lv_at hl 3 rfl) ?_
  refine lv_icmp_ge (tgt := 22) hx hb dX5_power_8 (by decide) (fun c => absurd c (by decide)) (fun _ => ?_)
  refine lv_lload_n hx hb dX5_power_11 rfl (lv_at hl 1 rfl) ?_
  refine lv_iload_n hx hb dX5_power_12 rfl (lv_at hl 2 rfl) ?_
  refine lv_i2l (v := 5) hx hb dX5_power_13 (by decide) ?_
  refine lv_lmul hx hb dX5_power_14 ?_
  refine lv_topl (fun x_2 ex_2 => ?_)
  obtain rfl : x_2 = (25 : Int64) := ex_2.trans (by decide)
  refine lv_lstore_n (lv' := [(2, .long 25), (4, .int 1), (0, .int 5), (1, .int 7)]) hx hb dX5_power_15 rfl hl (by decide) rfl (fun ls hl => ?_)
  refine lv_iinc (v := 2) (lv' := [(4, .int 2), (2, .long 25), (0, .int 5), (1, .int 7)]) hx hb dX5_power_16 hl (k := 1) rfl (by decide) (by decide) rfl (fun ls hl => ?_)
  refine lv_goto (tgt := 5) hx hb dX5_power_19 (by decide) ?_
  refine lv_iload hx hb dX5_power_5 (lv_at hl 0 rfl) ?_
  refine lv_iload_n hx hb dX5_power_7 rfl (lv_at hl 3 rfl) ?_
  refine lv_icmp_ge (tgt := 22) hx hb dX5_power_8 (by decide) (fun c => absurd c (by decide)) (fun _ => ?_)
  refine lv_lload_n hx hb dX5_power_11 rfl (lv_at hl 1 rfl) ?_
  refine lv_iload_n hx hb dX5_power_12 rfl (lv_at hl 2 rfl) ?_
  refine lv_i2l (v := 5) hx hb dX5_power_13 (by decide) ?_
  refine lv_lmul hx hb dX5_power_14 ?_
  refine lv_topl (fun x_3 ex_3 => ?_)
  obtain rfl : x_3 = (125 : Int64) := ex_3.trans (by decide)
  refine lv_lstore_n (lv' := [(2, .long 125), (4, .int 2), (0, .int 5), (1, .int 7)]) hx hb dX5_power_15 rfl hl (by decide) rfl (fun ls hl => ?_)
  refine lv_iinc (v := 3) (lv' := [(4, .int 3), (2, .long 125), (0, .int 5), (1, .int 7)]) hx hb dX5_power_16 hl (k := 1) rfl (by decide) (by decide) rfl (fun ls hl => ?_)
  refine lv_goto (tgt := 5) hx hb dX5_power_19 (by decide) ?_
  refine lv_iload hx hb dX5_power_5 (lv_at hl 0 rfl) ?_
  refine lv_iload_n hx hb dX5_power_7 rfl (lv_at hl 3 rfl) ?_
  refine lv_icmp_ge (tgt := 22) hx hb dX5_power_8 (by decide) (fun c => absurd c (by decide)) (fun _ => ?_)
  refine lv_lload_n hx hb dX5_power_11 rfl (lv_at hl 1 rfl) ?_
  refine lv_iload_n hx hb dX5_power_12 rfl (lv_at hl 2 rfl) ?_
  refine lv_i2l (v := 5) hx hb dX5_power_13 (by decide) ?_
  refine lv_lmul hx hb dX5_power_14 ?_
  refine lv_topl (fun x_4 ex_4 => ?_)
  obtain rfl : x_4 = (625 : Int64) := ex_4.trans (by decide)
  refine lv_lstore_n (lv' := [(2, .long 625), (4, .int 3), (0, .int 5), (1, .int 7)]) hx hb dX5_power_15 rfl hl (by decide) rfl (fun ls hl => ?_)
  refine lv_iinc (v := 4) (lv' := [(4, .int 4), (2, .long 625), (0, .int 5), (1, .int 7)]) hx hb dX5_power_16 hl (k := 1) rfl (by decide) (by decide) rfl (fun ls hl => ?_)
  refine lv_goto (tgt := 5) hx hb dX5_power_19 (by decide) ?_
  refine lv_iload hx hb dX5_power_5 (lv_at hl 0 rfl) ?_
  refine lv_iload_n hx hb dX5_power_7 rfl (lv_at hl 3 rfl) ?_
  refine lv_icmp_ge (tgt := 22) hx hb dX5_power_8 (by decide) (fun c => absurd c (by decide)) (fun _ => ?_)
  refine lv_lload_n hx hb dX5_power_11 rfl (lv_at hl 1 rfl) ?_
  refine lv_iload_n hx hb dX5_power_12 rfl (lv_at hl 2 rfl) ?_
  refine lv_i2l (v := 5) hx hb dX5_power_13 (by decide) ?_
  refine lv_lmul hx hb dX5_power_14 ?_
  refine lv_topl (fun x_5 ex_5 => ?_)
  obtain rfl : x_5 = (3125 : Int64) := ex_5.trans (by decide)
  refine lv_lstore_n (lv' := [(2, .long 3125), (4, .int 4), (0, .int 5), (1, .int 7)]) hx hb dX5_power_15 rfl hl (by decide) rfl (fun ls hl => ?_)
  refine lv_iinc (v := 5) (lv' := [(4, .int 5), (2, .long 3125), (0, .int 5), (1, .int 7)]) hx hb dX5_power_16 hl (k := 1) rfl (by decide) (by decide) rfl (fun ls hl => ?_)
  refine lv_goto (tgt := 5) hx hb dX5_power_19 (by decide) ?_
  refine lv_iload hx hb dX5_power_5 (lv_at hl 0 rfl) ?_
  refine lv_iload_n hx hb dX5_power_7 rfl (lv_at hl 3 rfl) ?_
  refine lv_icmp_ge (tgt := 22) hx hb dX5_power_8 (by decide) (fun c => absurd c (by decide)) (fun _ => ?_)
  refine lv_lload_n hx hb dX5_power_11 rfl (lv_at hl 1 rfl) ?_
  refine lv_iload_n hx hb dX5_power_12 rfl (lv_at hl 2 rfl) ?_
  refine lv_i2l (v := 5) hx hb dX5_power_13 (by decide) ?_
  refine lv_lmul hx hb dX5_power_14 ?_
  refine lv_topl (fun x_6 ex_6 => ?_)
  obtain rfl : x_6 = (15625 : Int64) := ex_6.trans (by decide)
  refine lv_lstore_n (lv' := [(2, .long 15625), (4, .int 5), (0, .int 5), (1, .int 7)]) hx hb dX5_power_15 rfl hl (by decide) rfl (fun ls hl => ?_)
  refine lv_iinc (v := 6) (lv' := [(4, .int 6), (2, .long 15625), (0, .int 5), (1, .int 7)]) hx hb dX5_power_16 hl (k := 1) rfl (by decide) (by decide) rfl (fun ls hl => ?_)
  refine lv_goto (tgt := 5) hx hb dX5_power_19 (by decide) ?_
  refine lv_iload hx hb dX5_power_5 (lv_at hl 0 rfl) ?_
  refine lv_iload_n hx hb dX5_power_7 rfl (lv_at hl 3 rfl) ?_
  refine lv_icmp_ge (tgt := 22) hx hb dX5_power_8 (by decide) (fun c => absurd c (by decide)) (fun _ => ?_)
  refine lv_lload_n hx hb dX5_power_11 rfl (lv_at hl 1 rfl) ?_
  refine lv_iload_n hx hb dX5_power_12 rfl (lv_at hl 2 rfl) ?_
  refine lv_i2l (v := 5) hx hb dX5_power_13 (by decide) ?_
  refine lv_lmul hx hb dX5_power_14 ?_
  refine lv_topl (fun x_7 ex_7 => ?_)
  obtain rfl : x_7 = (78125 : Int64) := ex_7.trans (by decide)
  refine lv_lstore_n (lv' := [(2, .long 78125), (4, .int 6), (0, .int 5), (1, .int 7)]) hx hb dX5_power_15 rfl hl (by decide) rfl (fun ls hl => ?_)
  refine lv_iinc (v := 7) (lv' := [(4, .int 7), (2, .long 78125), (0, .int 5), (1, .int 7)]) hx hb dX5_power_16 hl (k := 1) rfl (by decide) (by decide) rfl (fun ls hl => ?_)
  refine lv_goto (tgt := 5) hx hb dX5_power_19 (by decide) ?_
  refine lv_iload hx hb dX5_power_5 (lv_at hl 0 rfl) ?_
  refine lv_iload_n hx hb dX5_power_7 rfl (lv_at hl 3 rfl) ?_
  refine lv_icmp_ge (tgt := 22) hx hb dX5_power_8 (by decide) (fun _ => ?_) (fun c => absurd (by decide) c)
  refine lv_lload_n hx hb dX5_power_22 rfl (lv_at hl 1 rfl) ?_
  exact W.lret (v := 78125) hx hb hr (fun t ht hW => ⟨78125, rfl, rfl, ht⟩) (fun _ h => by cases h) dX5_power_23
set_option maxHeartbeats 4000000 in
set_option maxRecDepth 100000 in
/-- ordersWithEnd(5, k) -/
theorem c_X0_ordersWithEnd (l : Launch) (k : Nat) (hk : k < 40) : Met l yX0_ordersWithEnd wsX0_ordersWithEnd ({ frames := 0, cells := 0, slots := 0, locals := 0 } : Room) (fun v _ => v = ([.int 5, .int (nI k)] : List Value).toArray) (vp_Sl (fun r => True)) 0 0 (fun _ => False) := by
  refine Met.ofW (cc := cX0_ordersWithEnd) (maxL := 5) (ret := (some .long)) (by decide) rfl ?_
  intro p e s m args below meth c s₁ B hml hv
  obtain rfl := hv
  have hx := B.exec
  have hb := B.bytes
  have hr := B.returns
  have hts := atoms_spec (ws := wsX0_ordersWithEnd) B.pre
  have hown : s.vm.findClass RX0 = some m.cls := findClass_of_methodNamed B.named
  have hlocks := B.notSynchronized
  have hl := lv_entry ([.int 5, .int (nI k)]) (n := 5) (Nat.le_of_ble_eq_true rfl)
  rw [lg_entry_eq]
  generalize (lg_sl ([.int 5, .int (nI k)]) ++ List.replicate (5 - (lg_sl ([.int 5, .int (nI k)])).length) Slot.unset).toArray = ls at hl ⊢
  have hl : lv_has ls 5 [(0, .int 5), (1, .int (nI k))] := hl
  have loop_16 : ∀ (n : Nat) (j : Nat) (x4 : Int32) (z : Int64) (ls : Array Slot), 100 - j < n → j < 50 ∧ x4 = nI j → lv_has ls 5 [(4, .int x4), (2, .long z), (0, .int 5), (1, .int (nI k))] → W p l e (headSpec wsX0_ordersWithEnd ({ frames := 0, cells := 0, slots := 0, locals := 0 } : Room)).room s m ([.int 5, .int (nI k)] : List Value).toArray below meth c s.heap [] 0 0 (MQ below (vp_Sl (fun r => True)) ([.int 5, .int (nI k)] : List Value).toArray s 0 0 (fun _ => False)) (F0 m 16 ls []) := by
    intro n
    induction n with
    | zero => intro j x4 z ls hn; exact absurd hn (Nat.not_lt_zero _)
    | succ n ih =>
      intro j x4 z ls hn hinv hl
      obtain ⟨hj, hj4⟩ := hinv
      refine lv_iload hx hb dX0_ordersWithEnd_16 (lv_at hl 0 rfl) ?_
      refine lv_iload_n hx hb dX0_ordersWithEnd_18 rfl (lv_at hl 2 rfl) ?_
      refine lv_icmp_gt (tgt := 34) hx hb dX0_ordersWithEnd_19 (by decide) (fun c_1 => ?_) (fun c_1 => ?_)
      · skip
        refine lv_lload_n hx hb dX0_ordersWithEnd_34 rfl (lv_at hl 1 rfl) ?_
        exact W.lret (v := z) hx hb hr (fun t ht hW => ⟨z, rfl, trivial, ht⟩) (fun _ h => by cases h) dX0_ordersWithEnd_35
      · skip
        refine lv_lload_n hx hb dX0_ordersWithEnd_22 rfl (lv_at hl 1 rfl) ?_
        refine lv_iload hx hb dX0_ordersWithEnd_23 (lv_at hl 0 rfl) ?_
        obtain ⟨x_2, ex_2⟩ : ∃ y : Int64, y = x4.toInt64 := ⟨_, rfl⟩
        refine lv_i2l (v := x_2) hx hb dX0_ordersWithEnd_25 ex_2.symm ?_
        refine lv_lmul hx hb dX0_ordersWithEnd_26 ?_
        refine lv_topl (fun x_3 ex_3 => ?_)
        refine lv_lstore_n (lv' := [(2, .long x_3), (4, .int x4), (0, .int 5), (1, .int (nI k))]) hx hb dX0_ordersWithEnd_27 rfl hl (by decide) rfl (fun ls hl => ?_)
        obtain ⟨x_4, ex_4⟩ : ∃ y : Int32, y = x4 + Int32.ofInt 1 := ⟨_, rfl⟩
        refine lv_iinc (v := x_4) (lv' := [(4, .int x_4), (2, .long x_3), (0, .int 5), (1, .int (nI k))]) hx hb dX0_ordersWithEnd_28 hl (k := 1) rfl ex_4.symm (by decide) rfl (fun ls hl => ?_)
        refine lv_goto (tgt := 16) hx hb dX0_ordersWithEnd_31 (by decide) ?_
        have hlt : j ≤ 5 := fx_gt (n := 5) (by rw [← hj4]; exact c_1) (by decide) (by omega)
        exact ih (j + 1) x_4 x_3 ls (by omega) ⟨by omega, by rw [ex_4, hj4]; exact nI_1 j⟩ (lv_sub hl [0, 1, 2, 3] rfl)
  refine lv_iload_n hx hb dX0_ordersWithEnd_0 rfl (lv_at hl 1 rfl) ?_
  refine lv_iload_n hx hb dX0_ordersWithEnd_1 rfl (lv_at hl 0 rfl) ?_
  refine lv_icmp_le (tgt := 9) hx hb dX0_ordersWithEnd_2 (by decide) (fun c_5 => ?_) (fun c_5 => ?_)
  · skip
    refine lv_lconst (v := 1) hx hb dX0_ordersWithEnd_9 (by decide) ?_
    refine lv_lstore_n (lv' := [(2, .long 1), (0, .int 5), (1, .int (nI k))]) hx hb dX0_ordersWithEnd_10 rfl hl (by decide) rfl (fun ls hl => ?_)
    refine lv_iload_n hx hb dX0_ordersWithEnd_11 rfl (lv_at hl 2 rfl) ?_
    refine lv_iconst (v := 1) hx hb dX0_ordersWithEnd_12 (by decide) ?_
    refine lv_iadd hx hb dX0_ordersWithEnd_13 ?_
    refine lv_topi (fun x_6 ex_6 => ?_)
    obtain rfl : x_6 = nI (k + 1) := ex_6.trans (nI_add k 1)
    refine lv_istore (lv' := [(4, .int (nI (k + 1))), (2, .long 1), (0, .int 5), (1, .int (nI k))]) hx hb dX0_ordersWithEnd_14 hl (by decide) rfl (fun ls hl => ?_)
    exact loop_16 101 (k + 1) (nI (k + 1)) 1 ls (by omega) ⟨by omega, rfl⟩ (lv_sub hl [0, 1, 2, 3] rfl)
  · skip
    refine lv_lconst (v := 0) hx hb dX0_ordersWithEnd_5 (by decide) ?_
    refine lv_goto (tgt := 10) hx hb dX0_ordersWithEnd_6 (by decide) ?_
    refine lv_lstore_n (lv' := [(2, .long 0), (0, .int 5), (1, .int (nI k))]) hx hb dX0_ordersWithEnd_10 rfl hl (by decide) rfl (fun ls hl => ?_)
    refine lv_iload_n hx hb dX0_ordersWithEnd_11 rfl (lv_at hl 2 rfl) ?_
    refine lv_iconst (v := 1) hx hb dX0_ordersWithEnd_12 (by decide) ?_
    refine lv_iadd hx hb dX0_ordersWithEnd_13 ?_
    refine lv_topi (fun x_7 ex_7 => ?_)
    obtain rfl : x_7 = nI (k + 1) := ex_7.trans (nI_add k 1)
    refine lv_istore (lv' := [(4, .int (nI (k + 1))), (2, .long 0), (0, .int 5), (1, .int (nI k))]) hx hb dX0_ordersWithEnd_14 hl (by decide) rfl (fun ls hl => ?_)
    exact loop_16 101 (k + 1) (nI (k + 1)) 0 ls (by omega) ⟨by omega, rfl⟩ (lv_sub hl [0, 1, 2, 3] rfl)
set_option maxHeartbeats 4000000 in
set_option maxRecDepth 100000 in
/-- sharedDivisor(a, b) -/
theorem c_X5_sharedDivisor (l : Launch) (a b : Int64) : Met l yX5_sharedDivisor wsX5_sharedDivisor ({ frames := 0, cells := 0, slots := 0, locals := 0 } : Room) (fun v _ => v = ([.long a, .long b] : List Value).toArray) (vp_Sl (fun r => True)) 0 0 (fun _ => False) := by
  refine Met.ofW (cc := cX5_sharedDivisor) (maxL := 11) (ret := (some .long)) (by decide) rfl ?_
  intro p e s m args below meth c s₁ B hml hv
  obtain rfl := hv
  have hx := B.exec
  have hb := B.bytes
  have hr := B.returns
  have hts := atoms_spec (ws := wsX5_sharedDivisor) B.pre
  have hown : s.vm.findClass RX5 = some m.cls := findClass_of_methodNamed B.named
  have hlocks := B.notSynchronized
  have hl := lv_entry ([.long a, .long b]) (n := 11) (Nat.le_of_ble_eq_true rfl)
  rw [lg_entry_eq]
  generalize (lg_sl ([.long a, .long b]) ++ List.replicate (11 - (lg_sl ([.long a, .long b])).length) Slot.unset).toArray = ls at hl ⊢
  have hl : lv_has ls 11 [(0, .long a), (2, .long b)] := hl
  have loop_9 : ∀ (n : Nat) (j : Nat) (x8 : Int32) (z6 z4 : Int64) (ls : Array Slot), 200 - j < n → j < 150 ∧ x8 = nI j → lv_has ls 11 [(8, .int x8), (6, .long z6), (4, .long z4)] → W p l e (headSpec wsX5_sharedDivisor ({ frames := 0, cells := 0, slots := 0, locals := 0 } : Room)).room s m ([.long a, .long b] : List Value).toArray below meth c s.heap [] 0 0 (MQ below (vp_Sl (fun r => True)) ([.long a, .long b] : List Value).toArray s 0 0 (fun _ => False)) (F0 m 9 ls []) := by
    intro n
    induction n with
    | zero => intro j x8 z6 z4 ls hn; exact absurd hn (Nat.not_lt_zero _)
    | succ n ih =>
      intro j x8 z6 z4 ls hn hinv hl
      obtain ⟨hj, hj8⟩ := hinv
      refine lv_iload hx hb dX5_sharedDivisor_9 (lv_at hl 0 rfl) ?_
      refine lv_bipush (v := 100) hx hb dX5_sharedDivisor_11 (by decide) ?_
      refine lv_icmp_ge (tgt := 44) hx hb dX5_sharedDivisor_13 (by decide) (fun c_1 => ?_) (fun c_1 => ?_)
      · skip
        refine lv_lload hx hb dX5_sharedDivisor_44 (lv_at hl 2 rfl) ?_
        exact W.lret (v := z4) hx hb hr (fun t ht hW => ⟨z4, rfl, trivial, ht⟩) (fun _ h => by cases h) dX5_sharedDivisor_46
      · skip
        refine lv_lload hx hb dX5_sharedDivisor_16 (lv_at hl 1 rfl) ?_
        refine lv_lconst (v := 0) hx hb dX5_sharedDivisor_18 (by decide) ?_
        refine W.lcmp hx hb dX5_sharedDivisor_19 ?_
        refine lv_if_eq (tgt := 44) hx hb dX5_sharedDivisor_20 (by decide) (fun c_2 => ?_) (fun c_2 => ?_)
        · skip
          refine lv_lload hx hb dX5_sharedDivisor_44 (lv_at hl 2 rfl) ?_
          exact W.lret (v := z4) hx hb hr (fun t ht hW => ⟨z4, rfl, trivial, ht⟩) (fun _ h => by cases h) dX5_sharedDivisor_46
        · skip
          refine lv_lload hx hb dX5_sharedDivisor_23 (lv_at hl 2 rfl) ?_
          refine lv_lload hx hb dX5_sharedDivisor_25 (lv_at hl 1 rfl) ?_
          refine lv_lrem hx hb dX5_sharedDivisor_27 (fun e9 => c_2 (by rw [e9]; decide)) ?_
          refine lv_topl (fun x_3 ex_3 => ?_)
          refine lv_lstore (lv' := [(9, .long x_3), (8, .int x8), (6, .long z6), (4, .long z4)]) hx hb dX5_sharedDivisor_28 hl (by decide) rfl (fun ls hl => ?_)
          refine lv_lload hx hb dX5_sharedDivisor_30 (lv_at hl 2 rfl) ?_
          refine lv_lstore (lv' := [(4, .long z6), (9, .long x_3), (8, .int x8), (6, .long z6)]) hx hb dX5_sharedDivisor_32 hl (by decide) rfl (fun ls hl => ?_)
          refine lv_lload hx hb dX5_sharedDivisor_34 (lv_at hl 1 rfl) ?_
          refine lv_lstore (lv' := [(6, .long x_3), (4, .long z6), (9, .long x_3), (8, .int x8)]) hx hb dX5_sharedDivisor_36 hl (by decide) rfl (fun ls hl => ?_)
          obtain ⟨x_4, ex_4⟩ : ∃ y : Int32, y = x8 + Int32.ofInt 1 := ⟨_, rfl⟩
          refine lv_iinc (v := x_4) (lv' := [(8, .int x_4), (6, .long x_3), (4, .long z6), (9, .long x_3)]) hx hb dX5_sharedDivisor_38 hl (k := 3) rfl ex_4.symm (by decide) rfl (fun ls hl => ?_)
          refine lv_goto (tgt := 9) hx hb dX5_sharedDivisor_41 (by decide) ?_
          have hlt : j < 100 := fx_ge (n := 100) (by rw [← hj8]; exact c_1) (by decide) (by omega)
          exact ih (j + 1) x_4 x_3 z6 ls (by omega) ⟨by omega, by rw [ex_4, hj8]; exact nI_1 j⟩ (lv_sub hl [0, 1, 2] rfl)
  refine lv_lload_n hx hb dX5_sharedDivisor_0 rfl (lv_at hl 0 rfl) ?_
  refine lv_lstore (lv' := [(4, .long a), (0, .long a), (2, .long b)]) hx hb dX5_sharedDivisor_1 hl (by decide) rfl (fun ls hl => ?_)
  refine lv_lload_n hx hb dX5_sharedDivisor_3 rfl (lv_at hl 2 rfl) ?_
  refine lv_lstore (lv' := [(6, .long b), (4, .long a), (0, .long a), (2, .long b)]) hx hb dX5_sharedDivisor_4 hl (by decide) rfl (fun ls hl => ?_)
  refine lv_iconst (v := 0) hx hb dX5_sharedDivisor_6 (by decide) ?_
  refine lv_istore (lv' := [(8, .int 0), (6, .long b), (4, .long a), (0, .long a), (2, .long b)]) hx hb dX5_sharedDivisor_7 hl (by decide) rfl (fun ls hl => ?_)
  exact loop_9 201 0 0 b a ls (by omega) ⟨by omega, rfl⟩ (lv_sub hl [0, 1, 2] rfl)
set_option maxHeartbeats 4000000 in
set_option maxRecDepth 100000 in
/-- common(a, b), by an invariant -/
theorem c_X10_common (l : Launch) (a b : Int64) (Inv : Int64 → Int64 → Prop) (Pr : Int64 → Prop) (h0 : Inv a b) (h1 : ∀ x y, Inv x y → ¬ y = 0 → Inv y (x - x / y * y)) (h2 : ∀ x, Inv x 0 → Pr x) : Met l yX10_common wsX10_common ({ frames := 0, cells := 0, slots := 0, locals := 0 } : Room) (fun v _ => v = ([.long a, .long b] : List Value).toArray) (vp_Sl (fun r => Pr r)) 0 0 (fun _ => False) := by
  refine Met.ofW (cc := cX10_common) (maxL := 10) (ret := (some .long)) (by decide) rfl ?_
  intro p e s m args below meth c s₁ B hml hv
  obtain rfl := hv
  have hx := B.exec
  have hb := B.bytes
  have hr := B.returns
  have hts := atoms_spec (ws := wsX10_common) B.pre
  have hown : s.vm.findClass RX10 = some m.cls := findClass_of_methodNamed B.named
  have hlocks := B.notSynchronized
  have hl := lv_entry ([.long a, .long b]) (n := 10) (Nat.le_of_ble_eq_true rfl)
  rw [lg_entry_eq]
  generalize (lg_sl ([.long a, .long b]) ++ List.replicate (10 - (lg_sl ([.long a, .long b])).length) Slot.unset).toArray = ls at hl ⊢
  have hl : lv_has ls 10 [(0, .long a), (2, .long b)] := hl
  have loop_6 : ∀ (n : Nat) (z6 z4 : Int64) (ls : Array Slot), z6.toInt.natAbs < n → Inv z4 z6 → lv_has ls 10 [(6, .long z6), (4, .long z4)] → W p l e (headSpec wsX10_common ({ frames := 0, cells := 0, slots := 0, locals := 0 } : Room)).room s m ([.long a, .long b] : List Value).toArray below meth c s.heap [] 0 0 (MQ below (vp_Sl (fun r => Pr r)) ([.long a, .long b] : List Value).toArray s 0 0 (fun _ => False)) (F0 m 6 ls []) := by
    intro n
    induction n with
    | zero => intro z6 z4 ls hn; exact absurd hn (Nat.not_lt_zero _)
    | succ n ih =>
      intro z6 z4 ls hn hinv hl
      refine lv_lload hx hb dX10_common_6 (lv_at hl 0 rfl) ?_
      refine lv_lconst (v := 0) hx hb dX10_common_8 (by decide) ?_
      refine W.lcmp hx hb dX10_common_9 ?_
      refine lv_if_eq (tgt := 31) hx hb dX10_common_10 (by decide) (fun c_1 => ?_) (fun c_1 => ?_)
      · skip
        refine lv_lload hx hb dX10_common_31 (lv_at hl 1 rfl) ?_
        have hz : z6 = 0 := fx_lt1 c_1
        exact W.lret (v := z4) hx hb hr (fun t ht hW => ⟨z4, rfl, h2 z4 (by rw [← hz]; exact hinv), ht⟩) (fun _ h => by cases h) dX10_common_33
      · skip
        refine lv_lload hx hb dX10_common_13 (lv_at hl 1 rfl) ?_
        refine lv_lload hx hb dX10_common_15 (lv_at hl 0 rfl) ?_
        have hne : ¬ z6 = 0 := fx_lc c_1
        refine lv_lrem hx hb dX10_common_17 hne ?_
        refine lv_topl (fun x_2 ex_2 => ?_)
        refine lv_lstore (lv' := [(8, .long x_2), (6, .long z6), (4, .long z4)]) hx hb dX10_common_18 hl (by decide) rfl (fun ls hl => ?_)
        refine lv_lload hx hb dX10_common_20 (lv_at hl 1 rfl) ?_
        refine lv_lstore (lv' := [(4, .long z6), (8, .long x_2), (6, .long z6)]) hx hb dX10_common_22 hl (by decide) rfl (fun ls hl => ?_)
        refine lv_lload hx hb dX10_common_24 (lv_at hl 1 rfl) ?_
        refine lv_lstore (lv' := [(6, .long x_2), (4, .long z6), (8, .long x_2)]) hx hb dX10_common_26 hl (by decide) rfl (fun ls hl => ?_)
        refine lv_goto (tgt := 6) hx hb dX10_common_28 (by decide) ?_
        exact ih x_2 z6 ls (by rw [ex_2]; have := fx_rem (a := z4) hne; omega) (by rw [ex_2]; exact h1 z4 z6 hinv hne) (lv_sub hl [0, 1] rfl)
  refine lv_lload_n hx hb dX10_common_0 rfl (lv_at hl 0 rfl) ?_
  refine lv_lstore (lv' := [(4, .long a), (0, .long a), (2, .long b)]) hx hb dX10_common_1 hl (by decide) rfl (fun ls hl => ?_)
  refine lv_lload_n hx hb dX10_common_3 rfl (lv_at hl 2 rfl) ?_
  refine lv_lstore (lv' := [(6, .long b), (4, .long a), (0, .long a), (2, .long b)]) hx hb dX10_common_4 hl (by decide) rfl (fun ls hl => ?_)
  exact loop_6 (b.toInt.natAbs + 1) b a ls (Nat.lt_succ_self _) h0 (lv_sub hl [0, 1] rfl)
set_option maxHeartbeats 4000000 in
set_option maxRecDepth 100000 in
/-- part(a, b, z) -/
theorem c_X5_part (l : Launch) (a b : Int64) (z : Int32) : Met l yX5_part wsX5_part ({ frames := 2, cells := 0, slots := 0, locals := 60 } : Room) (fun v _ => v = ([.long a, .long b, .int z] : List Value).toArray) (vp_Sl (fun r => True)) 0 0 (fun _ => False) := by
  refine Met.ofW (cc := cX5_part) (maxL := 9) (ret := (some .long)) (by decide) rfl ?_
  intro p e s m args below meth c s₁ B hml hv
  obtain rfl := hv
  have hx := B.exec
  have hb := B.bytes
  have hr := B.returns
  have hts := atoms_spec (ws := wsX5_part) B.pre
  have hown : s.vm.findClass RX5 = some m.cls := findClass_of_methodNamed B.named
  have hlocks := B.notSynchronized
  have hl := lv_entry ([.long a, .long b, .int z]) (n := 9) (Nat.le_of_ble_eq_true rfl)
  rw [lg_entry_eq]
  generalize (lg_sl ([.long a, .long b, .int z]) ++ List.replicate (9 - (lg_sl ([.long a, .long b, .int z])).length) Slot.unset).toArray = ls at hl ⊢
  have hl : lv_has ls 9 [(0, .long a), (2, .long b), (4, .int z)] := hl
  refine lv_lload_n hx hb dX5_part_0 rfl (lv_at hl 0 rfl) ?_
  refine va_mabs_long hx hb (hml.trans hl.1.symm) hown (hts (.methodLink RX5 358 Lib.MathLoose.abs_long.x) (by decide +kernel)) (hts (.static Lib.MathLoose.abs_long.x) (by decide +kernel)) (hts (.initialized "java/lang/Math") (by decide +kernel)) (hts (.code Lib.MathLoose.abs_long.x Lib.MathLoose.abs_long.code 2 (some .long)) (by decide +kernel)) (Nat.le_of_ble_eq_true rfl) (Nat.le_of_ble_eq_true rfl) (Nat.le_of_ble_eq_true rfl) (Nat.le_of_ble_eq_true rfl) dX5_part_1 ?_
  refine lv_topl (fun x_1 ex_1 => ?_)
  refine lv_lload_n hx hb dX5_part_4 rfl (lv_at hl 1 rfl) ?_
  refine va_mabs_long hx hb (hml.trans hl.1.symm) hown (hts (.methodLink RX5 358 Lib.MathLoose.abs_long.x) (by decide +kernel)) (hts (.static Lib.MathLoose.abs_long.x) (by decide +kernel)) (hts (.initialized "java/lang/Math") (by decide +kernel)) (hts (.code Lib.MathLoose.abs_long.x Lib.MathLoose.abs_long.code 2 (some .long)) (by decide +kernel)) (Nat.le_of_ble_eq_true rfl) (Nat.le_of_ble_eq_true rfl) (Nat.le_of_ble_eq_true rfl) (Nat.le_of_ble_eq_true rfl) dX5_part_5 ?_
  refine lv_topl (fun x_2 ex_2 => ?_)
  refine vp_callSl (W.runS (As := [.long x_1, .long x_2]) (rest := []) ⟨hx, hb, hml, hown, hts⟩ (c_X5_sharedDivisor l x_1 x_2) (va_cwS 2 hts gX5_part_X5_sharedDivisor rfl rfl rfl (by decide +kernel) ⟨Nat.le_of_ble_eq_true rfl, Nat.le_of_ble_eq_true rfl⟩) preEq rfl rfl hl.1 rfl (lv_room (Nat.le_of_ble_eq_true rfl)) dX5_part_8 ⟨Nat.le_of_ble_eq_true rfl, Nat.le_of_ble_eq_true rfl⟩) (fun r_3 hr_3 => ?_)
  refine lv_lstore (lv' := [(5, .long r_3), (0, .long a), (2, .long b), (4, .int z)]) hx hb dX5_part_11 hl (by decide) rfl (fun ls hl => ?_)
  refine lv_lload_n hx hb dX5_part_13 rfl (lv_at hl 2 rfl) ?_
  refine lv_lconst (v := 0) hx hb dX5_part_14 (by decide) ?_
  refine W.lcmp hx hb dX5_part_15 ?_
  refine lv_if_eq (tgt := 26) hx hb dX5_part_16 (by decide) (fun c_4 => ?_) (fun c_4 => ?_)
  · skip
    refine lv_iload hx hb dX5_part_26 (lv_at hl 3 rfl) ?_
    refine lv_if_eq (tgt := 35) hx hb dX5_part_28 (by decide) (fun c_5 => ?_) (fun c_5 => ?_)
    · skip
      refine lv_lconst (v := 0) hx hb dX5_part_35 (by decide) ?_
      exact W.lret (v := 0) hx hb hr (fun t ht hW => ⟨0, rfl, trivial, ht⟩) (fun _ h => by cases h) dX5_part_36
    · skip
      refine lv_lconst (v := 1) hx hb dX5_part_31 (by decide) ?_
      refine lv_goto (tgt := 36) hx hb dX5_part_32 (by decide) ?_
      exact W.lret (v := 1) hx hb hr (fun t ht hW => ⟨1, rfl, trivial, ht⟩) (fun _ h => by cases h) dX5_part_36
  · skip
    refine lv_lload hx hb dX5_part_19 (lv_at hl 0 rfl) ?_
    refine lv_lconst (v := 0) hx hb dX5_part_21 (by decide) ?_
    refine W.lcmp hx hb dX5_part_22 ?_
    refine lv_if_ne (tgt := 37) hx hb dX5_part_23 (by decide) (fun c_6 => ?_) (fun c_6 => ?_)
    · skip
      refine lv_iload hx hb dX5_part_37 (lv_at hl 3 rfl) ?_
      refine lv_if_eq (tgt := 46) hx hb dX5_part_39 (by decide) (fun c_7 => ?_) (fun c_7 => ?_)
      · skip
        refine lv_lload_n hx hb dX5_part_46 rfl (lv_at hl 1 rfl) ?_
        refine lv_lload hx hb dX5_part_47 (lv_at hl 0 rfl) ?_
        refine lv_ldiv hx hb dX5_part_49 (fx_lc c_6) ?_
        refine lv_topl (fun x_8 ex_8 => ?_)
        refine lv_lstore (lv' := [(7, .long x_8), (5, .long r_3), (0, .long a), (2, .long b), (4, .int z)]) hx hb dX5_part_50 hl (by decide) rfl (fun ls hl => ?_)
        refine lv_lload_n hx hb dX5_part_52 rfl (lv_at hl 3 rfl) ?_
        refine lv_lconst (v := 0) hx hb dX5_part_53 (by decide) ?_
        refine W.lcmp hx hb dX5_part_54 ?_
        refine lv_if_ge (tgt := 64) hx hb dX5_part_55 (by decide) (fun c_9 => ?_) (fun c_9 => ?_)
        · skip
          refine lv_lload hx hb dX5_part_64 (lv_at hl 0 rfl) ?_
          exact W.lret (v := x_8) hx hb hr (fun t ht hW => ⟨x_8, rfl, trivial, ht⟩) (fun _ h => by cases h) dX5_part_66
        · skip
          refine lv_lload hx hb dX5_part_58 (lv_at hl 0 rfl) ?_
          refine lv_lneg hx hb dX5_part_60 ?_
          refine lv_topl (fun x_10 ex_10 => ?_)
          refine lv_goto (tgt := 66) hx hb dX5_part_61 (by decide) ?_
          exact W.lret (v := x_10) hx hb hr (fun t ht hW => ⟨x_10, rfl, trivial, ht⟩) (fun _ h => by cases h) dX5_part_66
      · skip
        refine lv_lload_n hx hb dX5_part_42 rfl (lv_at hl 2 rfl) ?_
        refine lv_goto (tgt := 47) hx hb dX5_part_43 (by decide) ?_
        refine lv_lload hx hb dX5_part_47 (lv_at hl 0 rfl) ?_
        refine lv_ldiv hx hb dX5_part_49 (fx_lc c_6) ?_
        refine lv_topl (fun x_11 ex_11 => ?_)
        refine lv_lstore (lv' := [(7, .long x_11), (5, .long r_3), (0, .long a), (2, .long b), (4, .int z)]) hx hb dX5_part_50 hl (by decide) rfl (fun ls hl => ?_)
        refine lv_lload_n hx hb dX5_part_52 rfl (lv_at hl 3 rfl) ?_
        refine lv_lconst (v := 0) hx hb dX5_part_53 (by decide) ?_
        refine W.lcmp hx hb dX5_part_54 ?_
        refine lv_if_ge (tgt := 64) hx hb dX5_part_55 (by decide) (fun c_12 => ?_) (fun c_12 => ?_)
        · skip
          refine lv_lload hx hb dX5_part_64 (lv_at hl 0 rfl) ?_
          exact W.lret (v := x_11) hx hb hr (fun t ht hW => ⟨x_11, rfl, trivial, ht⟩) (fun _ h => by cases h) dX5_part_66
        · skip
          refine lv_lload hx hb dX5_part_58 (lv_at hl 0 rfl) ?_
          refine lv_lneg hx hb dX5_part_60 ?_
          refine lv_topl (fun x_13 ex_13 => ?_)
          refine lv_goto (tgt := 66) hx hb dX5_part_61 (by decide) ?_
          exact W.lret (v := x_13) hx hb hr (fun t ht hW => ⟨x_13, rfl, trivial, ht⟩) (fun _ h => by cases h) dX5_part_66
    · skip
      refine lv_iload hx hb dX5_part_26 (lv_at hl 3 rfl) ?_
      refine lv_if_eq (tgt := 35) hx hb dX5_part_28 (by decide) (fun c_14 => ?_) (fun c_14 => ?_)
      · skip
        refine lv_lconst (v := 0) hx hb dX5_part_35 (by decide) ?_
        exact W.lret (v := 0) hx hb hr (fun t ht hW => ⟨0, rfl, trivial, ht⟩) (fun _ h => by cases h) dX5_part_36
      · skip
        refine lv_lconst (v := 1) hx hb dX5_part_31 (by decide) ?_
        refine lv_goto (tgt := 36) hx hb dX5_part_32 (by decide) ?_
        exact W.lret (v := 1) hx hb hr (fun t ht hW => ⟨1, rfl, trivial, ht⟩) (fun _ h => by cases h) dX5_part_36
end
section
/-! the nest mates' links and the classes of arrays of references: the words that the lists of words do not carry -/
def fx_nw (U : State) : Prop := va_Nw (.methodLinkNest RX5 23 yX1_init RX5) U ∧ va_Nw (.methodLinkNest RX5 30 yX3_init RX5) U ∧ va_Nw (.methodLinkNest RX5 37 yX0_init RX5) U ∧ va_Nw (.methodLinkNest RX5 251 yX0_shuffle RX5) U ∧ va_Nw (.methodLinkNest RX5 255 yX0_sumOfDifferences RX5) U ∧ va_Nw (.methodLinkNest RX0 15 yX5_put_ RX5) U ∧ va_Nw (.methodLinkNest RX0 19 yX5_at_ RX5) U ∧ va_Nw (.methodLinkNest RX10 113 yX8_init RX10) U ∧ va_Nw (.methodLinkNest RX8 16 yX10_common RX10) U ∧ va_Nw (.methodLinkNest RL 132 yX6_init RL) U ∧ va_Nw (.fieldLinkNest RL 13 RX6 "n" "J" RL) U ∧ va_AO RX4 U ∧ va_AO RX2 U
theorem fx_nw.same {u U : State} (h : u.vm = U.vm) (q : fx_nw u) : fx_nw U := by
  obtain ⟨q0, q1, q2, q3, q4, q5, q6, q7, q8, q9, q10, q11, q12⟩ := q
  exact ⟨va_Nw.same rfl h q0, va_Nw.same rfl h q1, va_Nw.same rfl h q2, va_Nw.same rfl h q3, va_Nw.same rfl h q4, va_Nw.same rfl h q5, va_Nw.same rfl h q6, va_Nw.same rfl h q7, va_Nw.same rfl h q8, va_Nw.same rfl h q9, va_Nw.same rfl h q10, va_AO.moved (h ▸ Vm.Alike.refl _) q11, va_AO.moved (h ▸ Vm.Alike.refl _) q12⟩
theorem fx_nw.warm {u U : State} (hW : u.WarmedH U.vm) (q : fx_nw u) : fx_nw U := by
  obtain ⟨q0, q1, q2, q3, q4, q5, q6, q7, q8, q9, q10, q11, q12⟩ := q
  exact ⟨va_Nw.warmM hW q0, va_Nw.warmM hW q1, va_Nw.warmM hW q2, va_Nw.warmM hW q3, va_Nw.warmM hW q4, va_Nw.warmM hW q5, va_Nw.warmM hW q6, va_Nw.warmM hW q7, va_Nw.warmM hW q8, va_Nw.warmM hW q9, va_Nw.warmF hW q10, va_AO.moved hW.alike q11, va_AO.moved hW.alike q12⟩
theorem fx_h {p : Program} {l : Launch} {e : Env} {R : Room} {s : State} {m : MethodId} {args : Array Value} {below : List Frame} {meth : Method} {c : Code} {H H' : Heap} {locs : List Loc} {cells slots : Nat} {Q : State → Prop} {g : JFrame} (h : H = H') (k : W p l e R s m args below meth c H locs cells slots Q g) : W p l e R s m args below meth c H' locs cells slots Q g := h ▸ k
/-- a start: the heap's size, a world, the classes, the links -/
def fx_st (dC : Nat → ClassId) (dI : Nat → Nat → Nat) (ws : va_W) (tys : List (ClassId × FieldType)) (sz : Nat) (U : State) : Prop := U.heap.size = sz ∧ va_P (dC, dI) fxCl ws U.heap ∧ va_K (dC, dI) fxCl tys U ∧ va_D (fun _ => True) ws ∧ fx_nw U
/-- an end -/
abbrev fx_en (dC : Nat → ClassId) (dI : Nat → Nat → Nat) (A : Nat → Prop) (ws : va_W) (tys : List (ClassId × FieldType)) (t : State) : Prop := va_P (dC, dI) fxCl ws t.heap ∧ va_K (dC, dI) fxCl tys t ∧ va_D A ws
theorem fx_blind {dC : Nat → ClassId} {dI : Nat → Nat → Nat} {ws : va_W} {tys : List (ClassId × FieldType)} {sz : Nat} {As : List Value} : FrameBlind (va_Pc As (fx_st dC dI ws tys sz)) := fun a U g mk q => by
  obtain ⟨q0, q1, q2, q3, q4, q5⟩ := q
  exact ⟨q0, q1, q2, va_K.moved (u := U) (U := U.calling g mk a) (Vm.Alike.refl U.vm) q3, q4, fx_nw.same (u := U) (U := U.calling g mk a) rfl q5⟩
theorem fx_preS {dC : Nat → ClassId} {dI : Nat → Nat → Nat} {wc : va_W} {tys : List (ClassId × FieldType)} {s : State} {H : Heap} {A : Nat → Prop} {As : List Value} (hP : va_P (dC, dI) fxCl wc H) (hK : va_K (dC, dI) fxCl tys s) (hD : va_D A wc) (hnw : fx_nw s) : PreS s H (va_Pc As (fx_st dC dI wc tys H.size)) As :=
  ⟨fx_blind, fun U hU hW => ⟨rfl, by rw [hU], by rw [hU]; exact hP, va_K.moved hW.alike hK, hD.weaken (fun _ _ _ _ => trivial), fx_nw.warm hW hnw⟩⟩
theorem fx_preV {dC : Nat → ClassId} {dI : Nat → Nat → Nat} {wc : va_W} {tys : List (ClassId × FieldType)} {s : State} {H : Heap} {A : Nat → Prop} {As : List Value} {a ci : Nat} {q : vw_C} {fs : List Value} (hP : va_P (dC, dI) fxCl wc H) (hK : va_K (dC, dI) fxCl tys s) (hD : va_D A wc) (hnw : fx_nw s) (hc : fxCl[ci]? = some q) (he : wc[0]? = some (a, .inr (ci, fs))) : PreV s H q.1 a (va_Pc (.ref a :: As) (fx_st dC dI wc tys H.size)) As :=
  ⟨fx_blind, va_recv hK hP hc he, fun U hU hW => ⟨rfl, by rw [hU], by rw [hU]; exact hP, va_K.moved hW.alike hK, hD.weaken (fun _ _ _ _ => trivial), fx_nw.warm hW hnw⟩⟩
theorem fx_in6 {i : Int32} (h1 : ¬ i < 0) (h2 : ¬ (6 : Int32) ≤ i) : vp_in i 6 := vp_in_iff.mpr ⟨by rw [Int32.lt_iff_toInt_lt] at h1; have : (0 : Int32).toInt = 0 := rfl; omega, by rw [Int32.le_iff_toInt_le] at h2; have : (6 : Int32).toInt = 6 := rfl; omega⟩
set_option maxHeartbeats 4000000 in
set_option maxRecDepth 100000 in
/-- at(row, place), for a row of 6 -/
theorem c_X5_at_ (l : Launch) (dC : Nat → ClassId) (dI : Nat → Nat → Nat) (q : Nat) (cA : ClassId) (i : Int32) (f : Nat → Int64) (sz : Nat) : Met l yX5_at_ wsX5_at_ ({ frames := 0, cells := 0, slots := 0, locals := 0 } : Room) (va_Pc [.ref q, .int i] (fx_st dC dI [(q, .inl (cA, 6, .inr (.inl f)))] [(cA, .long)] sz)) (vp_Sl (fun _ => True)) 0 0 (fun _ => False) := by
  refine Met.ofW (cc := cX5_at_) (maxL := 2) (ret := (some .long)) (by decide) rfl ?_
  intro p e s m args below meth c s₁ B hml hv
  obtain ⟨rfl, hsz, hP, hK, hD0, hnw⟩ := hv
  have hx := B.exec
  have hb := B.bytes
  have hr := B.returns
  have hts := atoms_spec (ws := wsX5_at_) B.pre
  have hown : s.vm.findClass RX5 = some m.cls := findClass_of_methodNamed B.named
  have hlocks := B.notSynchronized
  subst hsz
  have hD := hD0
  generalize hHe : s.heap = H at hP ⊢
  have hK : va_K (dC, dI) fxCl [(cA, .long)] s := hK
  have hl := lv_entry ([.ref q, .int i]) (n := 2) (Nat.le_of_ble_eq_true rfl)
  rw [lg_entry_eq]
  generalize (lg_sl ([.ref q, .int i]) ++ List.replicate (2 - (lg_sl ([.ref q, .int i])).length) Slot.unset).toArray = ls at hl ⊢
  have hl : lv_has ls 2 [(0, .ref q), (1, .int i)] := hl
  refine lv_iload_n hx hb dX5_at__0 rfl (lv_at hl 1 rfl) ?_
  refine lv_if_lt (tgt := 16) hx hb dX5_at__1 (by decide) (fun c_1 => ?_) (fun c_1 => ?_)
  · skip
    refine lv_lconst (v := 0) hx hb dX5_at__16 (by decide) ?_
    exact W.lret (v := 0) hx hb hr (fun t ht hW => ⟨0, rfl, trivial, ht.trans hHe.symm⟩) (fun _ h => by cases h) dX5_at__17
  · skip
    refine lv_iload_n hx hb dX5_at__4 rfl (lv_at hl 1 rfl) ?_
    refine lv_aload_n hx hb dX5_at__5 rfl (lv_at hl 0 rfl) ?_
    refine va_alen (v := 6) hx hb hK hP 0 0 rfl rfl rfl dX5_at__6 ?_
    refine lv_icmp_ge (tgt := 16) hx hb dX5_at__7 (by decide) (fun c_2 => ?_) (fun c_2 => ?_)
    · skip
      refine lv_lconst (v := 0) hx hb dX5_at__16 (by decide) ?_
      exact W.lret (v := 0) hx hb hr (fun t ht hW => ⟨0, rfl, trivial, ht.trans hHe.symm⟩) (fun _ h => by cases h) dX5_at__17
    · skip
      refine lv_aload_n hx hb dX5_at__10 rfl (lv_at hl 0 rfl) ?_
      refine lv_iload_n hx hb dX5_at__11 rfl (lv_at hl 1 rfl) ?_
      refine va_lald hx hb hK hP 0 0 rfl rfl (fx_in6 c_1 c_2) dX5_at__12 ?_
      refine lv_topl (fun x_3 ex_3 => ?_)
      refine lv_goto (tgt := 17) hx hb dX5_at__13 (by decide) ?_
      exact W.lret (v := x_3) hx hb hr (fun t ht hW => ⟨x_3, rfl, trivial, ht.trans hHe.symm⟩) (fun _ h => by cases h) dX5_at__17
set_option maxHeartbeats 4000000 in
set_option maxRecDepth 100000 in
/-- put(row, place, z), for a row of 6 -/
theorem c_X5_put_ (l : Launch) (dC : Nat → ClassId) (dI : Nat → Nat → Nat) (q : Nat) (cA : ClassId) (i : Int32) (z : Int64) (f : Nat → Int64) (sz : Nat) : Met l yX5_put_ wsX5_put_ ({ frames := 0, cells := 0, slots := 0, locals := 0 } : Room) (va_Pc [.ref q, .int i, .long z] (fx_st dC dI [(q, .inl (cA, 6, .inr (.inl f)))] [(cA, .long)] sz)) (va_Qv (fun _ : Unit => True) (fun _ t => ∃ g : Nat → Int64, fx_en dC dI (va_A [(q, .inl (cA, 6, .inr (.inl f)))] sz) [(q, .inl (cA, 6, .inr (.inl g)))] [(cA, .long)] t) (va_A [(q, .inl (cA, 6, .inr (.inl f)))] sz)) 0 0 (va_A [(q, .inl (cA, 6, .inr (.inl f)))] sz) := by
  refine Met.ofW (cc := cX5_put_) (maxL := 4) (ret := none) (by decide) rfl ?_
  intro p e s m args below meth c s₁ B hml hv
  obtain ⟨rfl, hsz, hP, hK, hD0, hnw⟩ := hv
  have hx := B.exec
  have hb := B.bytes
  have hr := B.returns
  have hts := atoms_spec (ws := wsX5_put_) B.pre
  have hown : s.vm.findClass RX5 = some m.cls := findClass_of_methodNamed B.named
  have hlocks := B.notSynchronized
  subst hsz
  have hD := hD0.self (sz := s.heap.size)
  generalize hAe : va_A [(q, .inl (cA, 6, .inr (.inl f)))] s.heap.size = A at hD ⊢
  have hA : ∀ q : Nat, s.heap.size ≤ q → A q := fun q h => by rw [← hAe]; exact Or.inr h
  obtain ⟨H, hHe⟩ : ∃ H, H = s.heap := ⟨_, rfl⟩
  have hS : va_S A s.heap H [] := by rw [hHe]; exact va_S.rf
  have hP : va_P (dC, dI) fxCl [(q, .inl (cA, 6, .inr (.inl f)))] H := by rw [hHe]; exact hP
  refine fx_h hHe ?_
  have hl := lv_entry ([.ref q, .int i, .long z]) (n := 4) (Nat.le_of_ble_eq_true rfl)
  rw [lg_entry_eq]
  generalize (lg_sl ([.ref q, .int i, .long z]) ++ List.replicate (4 - (lg_sl ([.ref q, .int i, .long z])).length) Slot.unset).toArray = ls at hl ⊢
  have hl : lv_has ls 4 [(0, .ref q), (1, .int i), (2, .long z)] := hl
  refine lv_iload_n hx hb dX5_put__0 rfl (lv_at hl 1 rfl) ?_
  refine lv_if_lt (tgt := 14) hx hb dX5_put__1 (by decide) (fun c_1 => ?_) (fun c_1 => ?_)
  · skip
    have hP9 := hP.sub (ws' := [(q, .inl (cA, 6, .inr (.inl f)))]) [0] rfl
    have hD9 := hD.sub (ws' := [(q, .inl (cA, 6, .inr (.inl f)))]) [0] (by decide) rfl
    have hK9 := hK.sub (tys' := [(cA, .long)]) [0] rfl
    exact W.vret hx hb hr (fun t ht hW => ⟨⟨(), rfl, trivial, f, by rw [ht]; exact hP9, va_K.moved hW.alike hK9, hD9⟩, hS.F ht⟩) hS.2.2 dX5_put__14
  · skip
    refine lv_iload_n hx hb dX5_put__4 rfl (lv_at hl 1 rfl) ?_
    refine lv_aload_n hx hb dX5_put__5 rfl (lv_at hl 0 rfl) ?_
    refine va_alen (v := 6) hx hb hK hP 0 0 rfl rfl rfl dX5_put__6 ?_
    refine lv_icmp_ge (tgt := 14) hx hb dX5_put__7 (by decide) (fun c_2 => ?_) (fun c_2 => ?_)
    · skip
      have hP9 := hP.sub (ws' := [(q, .inl (cA, 6, .inr (.inl f)))]) [0] rfl
      have hD9 := hD.sub (ws' := [(q, .inl (cA, 6, .inr (.inl f)))]) [0] (by decide) rfl
      have hK9 := hK.sub (tys' := [(cA, .long)]) [0] rfl
      exact W.vret hx hb hr (fun t ht hW => ⟨⟨(), rfl, trivial, f, by rw [ht]; exact hP9, va_K.moved hW.alike hK9, hD9⟩, hS.F ht⟩) hS.2.2 dX5_put__14
    · skip
      refine lv_aload_n hx hb dX5_put__10 rfl (lv_at hl 0 rfl) ?_
      refine lv_iload_n hx hb dX5_put__11 rfl (lv_at hl 1 rfl) ?_
      refine lv_lload_n hx hb dX5_put__12 rfl (lv_at hl 2 rfl) ?_
      refine va_last hx hb hK hP hD hS 0 0 rfl rfl (fx_in6 c_1 c_2) dX5_put__13 (fun H locs hP hD hS => ?_)
      obtain ⟨f_3, ef_3⟩ : ∃ g9 : Nat → Int64, g9 = vp_updL f i.toNatClampNeg z := ⟨_, rfl⟩
      rw [← ef_3] at hP hD
      have hP : va_P (dC, dI) fxCl [(q, .inl (cA, 6, .inr (.inl f_3)))] H := hP
      have hD : va_D A [(q, .inl (cA, 6, .inr (.inl f_3)))] := hD
      have hP9 := hP.sub (ws' := [(q, .inl (cA, 6, .inr (.inl f_3)))]) [0] rfl
      have hD9 := hD.sub (ws' := [(q, .inl (cA, 6, .inr (.inl f_3)))]) [0] (by decide) rfl
      have hK9 := hK.sub (tys' := [(cA, .long)]) [0] rfl
      exact W.vret hx hb hr (fun t ht hW => ⟨⟨(), rfl, trivial, f_3, by rw [ht]; exact hP9, va_K.moved hW.alike hK9, hD9⟩, hS.F ht⟩) hS.2.2 dX5_put__14
set_option maxHeartbeats 4000000 in
set_option maxRecDepth 100000 in
/-- Deck() -/
theorem c_X0_init (l : Launch) (dC : Nat → ClassId) (dI : Nat → Nat → Nat) (h0 : Nat) (sz : Nat) : Met l yX0_init wsX0_init ({ frames := 1, cells := 1, slots := 6, locals := 40 } : Room) (va_Pc [.ref h0] (fx_st dC dI [(h0, .inr (0, [.null]))] [] sz)) (va_Qv (fun _ : Unit => True) (fun _ t => ∃ (q : Nat) (cA : ClassId) (f : Nat → Int64), fx_en dC dI (va_A [(h0, .inr (0, [.null]))] sz) [(h0, .inr (0, [.ref q])), (q, .inl (cA, 6, .inr (.inl f)))] [(cA, .long)] t) (va_A [(h0, .inr (0, [.null]))] sz)) 1 6 (va_A [(h0, .inr (0, [.null]))] sz) := by
  refine Met.ofW (cc := cX0_init) (maxL := 1) (ret := none) (by decide) rfl ?_
  intro p e s m args below meth c s₁ B hml hv
  obtain ⟨rfl, hsz, hP, hK, hD0, hnw⟩ := hv
  have hx := B.exec
  have hb := B.bytes
  have hr := B.returns
  have hts := atoms_spec (ws := wsX0_init) B.pre
  have hown : s.vm.findClass RX0 = some m.cls := findClass_of_methodNamed B.named
  have hlocks := B.notSynchronized
  have hin : meth.name = "<init>" := (name_of_methodNamed B.named B.method).1
  subst hsz
  have hD := hD0.self (sz := s.heap.size)
  generalize hAe : va_A [(h0, .inr (0, [.null]))] s.heap.size = A at hD ⊢
  have hA : ∀ q : Nat, s.heap.size ≤ q → A q := fun q h => by rw [← hAe]; exact Or.inr h
  obtain ⟨H, hHe⟩ : ∃ H, H = s.heap := ⟨_, rfl⟩
  have hS : va_S A s.heap H [] := by rw [hHe]; exact va_S.rf
  have hP : va_P (dC, dI) fxCl [(h0, .inr (0, [.null]))] H := by rw [hHe]; exact hP
  refine fx_h hHe ?_
  have hl := lv_entry ([.ref h0]) (n := 1) (Nat.le_of_ble_eq_true rfl)
  rw [lg_entry_eq]
  generalize (lg_sl ([.ref h0]) ++ List.replicate (1 - (lg_sl ([.ref h0])).length) Slot.unset).toArray = ls at hl ⊢
  have hl : lv_has ls 1 [(0, .ref h0)] := hl
  refine lv_aload_n hx hb dX0_init_0 rfl (lv_at hl 0 rfl) ?_
  refine W.objInit hx hb hown (hts (.methodLink RX0 3 objectInit) (by decide +kernel)) (hts (.instanceMethod objectInit) (by decide +kernel)) (hts (.code objectInit ⟨#[0xb1]⟩ 1 none) (by decide +kernel)) rfl (by rw [hml]; exact hl.1) rfl dX0_init_1 (Nat.le_of_ble_eq_true rfl) (Nat.le_of_ble_eq_true rfl) ?_
  refine W.eq (g2 := F0 m 4 ls []) rfl ?_
  refine lv_aload_n hx hb dX0_init_4 rfl (lv_at hl 0 rfl) ?_
  refine lv_bipush (v := 6) hx hb dX0_init_5 (by decide) ?_
  refine va_newa (atype := .long) (ty := .long) (N' := 6) (a0 := (6, .inr (.inl fun _ => 0))) hx hb (hts (.arrayClass .long) (by decide +kernel)) rfl hK hP hD hS hA (fun _ => rfl) (by decide) (by decide) (Nat.le_of_ble_eq_true rfl) (Nat.le_of_ble_eq_true rfl) (Nat.le_of_ble_eq_true rfl) dX0_init_7 (fun q_1 cA_2 H hK hP hD hS => ?_)
  refine W.widen (k := 1) (n := 6) (Nat.le_of_ble_eq_true rfl) (Nat.le_of_ble_eq_true rfl) ?_
  have hP : va_P (dC, dI) fxCl [(h0, .inr (0, [.null])), (q_1, .inl (cA_2, 6, .inr (.inl (fun _ => 0))))] H := hP
  have hD : va_D A [(h0, .inr (0, [.null])), (q_1, .inl (cA_2, 6, .inr (.inl (fun _ => 0))))] := hD
  have hK : va_K (dC, dI) fxCl [(cA_2, .long)] s := hK
  refine va_putF (D := (dC, dI)) (ci := 0) (v := .ref q_1) (ty := .array .long) (C := RX0) (T := TX0) (N := 1) hx hb hts (by decide +kernel) tyX0 tyX0_ok nmX0 hown hK hP hD hS 0 rfl rfl 0 (by decide) (hts (.fieldLink RX0 9 "Urnwright$Deck" "runs" "[J") (by decide +kernel)) (fun _ h9 => h9) rfl hin rfl (by decide +kernel) rfl rfl (Nat.le_of_ble_eq_true rfl) dX0_init_9 (fun H locs hP hD hS => ?_)
  have hP : va_P (dC, dI) fxCl [(h0, .inr (0, [.ref q_1])), (q_1, .inl (cA_2, 6, .inr (.inl (fun _ => 0))))] H := hP
  have hD : va_D A [(h0, .inr (0, [.ref q_1])), (q_1, .inl (cA_2, 6, .inr (.inl (fun _ => 0))))] := hD
  have hP9 := hP.sub (ws' := [(h0, .inr (0, [.ref q_1])), (q_1, .inl (cA_2, 6, .inr (.inl (fun _ => 0))))]) [0, 1] rfl
  have hD9 := hD.sub (ws' := [(h0, .inr (0, [.ref q_1])), (q_1, .inl (cA_2, 6, .inr (.inl (fun _ => 0))))]) [0, 1] (by decide) rfl
  have hK9 := hK.sub (tys' := [(cA_2, .long)]) [0] rfl
  refine W.widen (k := 1) (n := 6) (Nat.le_of_ble_eq_true rfl) (Nat.le_of_ble_eq_true rfl) ?_
  exact W.vret hx hb hr (fun t ht hW => ⟨⟨(), rfl, trivial, q_1, cA_2, fun _ => 0, by rw [ht]; exact hP9, va_K.moved hW.alike hK9, hD9⟩, hS.F ht⟩) hS.2.2 dX0_init_12
set_option maxHeartbeats 4000000 in
set_option maxRecDepth 100000 in
/-- Sides() -/
theorem c_X3_init (l : Launch) (dC : Nat → ClassId) (dI : Nat → Nat → Nat) (h0 : Nat) (sz : Nat) : Met l yX3_init wsX3_init ({ frames := 1, cells := 2, slots := 10, locals := 40 } : Room) (va_Pc [.ref h0] (fx_st dC dI [(h0, .inr (2, [.null, .null]))] [] sz)) (va_Qv (fun _ : Unit => True) (fun _ t => ∃ (q1 q2 : Nat), fx_en dC dI (va_A [(h0, .inr (2, [.null, .null]))] sz) [(h0, .inr (2, [.ref q1, .ref q2]))] [] t) (va_A [(h0, .inr (2, [.null, .null]))] sz)) 2 10 (va_A [(h0, .inr (2, [.null, .null]))] sz) := by
  refine Met.ofW (cc := cX3_init) (maxL := 1) (ret := none) (by decide) rfl ?_
  intro p e s m args below meth c s₁ B hml hv
  obtain ⟨rfl, hsz, hP, hK, hD0, hnw⟩ := hv
  have hx := B.exec
  have hb := B.bytes
  have hr := B.returns
  have hts := atoms_spec (ws := wsX3_init) B.pre
  have hown : s.vm.findClass RX3 = some m.cls := findClass_of_methodNamed B.named
  have hlocks := B.notSynchronized
  have hin : meth.name = "<init>" := (name_of_methodNamed B.named B.method).1
  subst hsz
  have hD := hD0.self (sz := s.heap.size)
  generalize hAe : va_A [(h0, .inr (2, [.null, .null]))] s.heap.size = A at hD ⊢
  have hA : ∀ q : Nat, s.heap.size ≤ q → A q := fun q h => by rw [← hAe]; exact Or.inr h
  obtain ⟨H, hHe⟩ : ∃ H, H = s.heap := ⟨_, rfl⟩
  have hS : va_S A s.heap H [] := by rw [hHe]; exact va_S.rf
  have hP : va_P (dC, dI) fxCl [(h0, .inr (2, [.null, .null]))] H := by rw [hHe]; exact hP
  refine fx_h hHe ?_
  have hl := lv_entry ([.ref h0]) (n := 1) (Nat.le_of_ble_eq_true rfl)
  rw [lg_entry_eq]
  generalize (lg_sl ([.ref h0]) ++ List.replicate (1 - (lg_sl ([.ref h0])).length) Slot.unset).toArray = ls at hl ⊢
  have hl : lv_has ls 1 [(0, .ref h0)] := hl
  refine lv_aload_n hx hb dX3_init_0 rfl (lv_at hl 0 rfl) ?_
  refine W.objInit hx hb hown (hts (.methodLink RX3 3 objectInit) (by decide +kernel)) (hts (.instanceMethod objectInit) (by decide +kernel)) (hts (.code objectInit ⟨#[0xb1]⟩ 1 none) (by decide +kernel)) rfl (by rw [hml]; exact hl.1) rfl dX3_init_1 (Nat.le_of_ble_eq_true rfl) (Nat.le_of_ble_eq_true rfl) ?_
  refine W.eq (g2 := F0 m 4 ls []) rfl ?_
  refine lv_aload_n hx hb dX3_init_4 rfl (lv_at hl 0 rfl) ?_
  refine lv_iconst (v := 5) hx hb dX3_init_5 (by decide) ?_
  refine va_newa (atype := .int) (ty := .int) (N' := 5) (a0 := (5, .inl fun _ => 0)) hx hb (hts (.arrayClass .int) (by decide +kernel)) rfl hK hP hD hS hA (fun _ => rfl) (by decide) (by decide) (Nat.le_of_ble_eq_true rfl) (Nat.le_of_ble_eq_true rfl) (Nat.le_of_ble_eq_true rfl) dX3_init_6 (fun q_1 cA_2 H hK hP hD hS => ?_)
  refine W.widen (k := 1) (n := 5) (Nat.le_of_ble_eq_true rfl) (Nat.le_of_ble_eq_true rfl) ?_
  have hP : va_P (dC, dI) fxCl [(h0, .inr (2, [.null, .null])), (q_1, .inl (cA_2, 5, .inl (fun _ => 0)))] H := hP
  have hD : va_D A [(h0, .inr (2, [.null, .null])), (q_1, .inl (cA_2, 5, .inl (fun _ => 0)))] := hD
  have hK : va_K (dC, dI) fxCl [(cA_2, .int)] s := hK
  refine va_putF (D := (dC, dI)) (ci := 2) (v := .ref q_1) (ty := .array .int) (C := RX3) (T := TX3) (N := 2) hx hb hts (by decide +kernel) tyX3 tyX3_ok nmX3 hown hK hP hD hS 0 rfl rfl 0 (by decide) (hts (.fieldLink RX3 9 "Urnwright$Sides" "left" "[I") (by decide +kernel)) (fun _ h9 => h9) rfl hin rfl (by decide +kernel) rfl rfl (Nat.le_of_ble_eq_true rfl) dX3_init_8 (fun H locs hP hD hS => ?_)
  have hP : va_P (dC, dI) fxCl [(h0, .inr (2, [.ref q_1, .null])), (q_1, .inl (cA_2, 5, .inl (fun _ => 0)))] H := hP
  have hD : va_D A [(h0, .inr (2, [.ref q_1, .null])), (q_1, .inl (cA_2, 5, .inl (fun _ => 0)))] := hD
  refine lv_aload_n hx hb dX3_init_11 rfl (lv_at hl 0 rfl) ?_
  refine lv_iconst (v := 5) hx hb dX3_init_12 (by decide) ?_
  refine va_newa (atype := .int) (ty := .int) (N' := 5) (a0 := (5, .inl fun _ => 0)) hx hb (hts (.arrayClass .int) (by decide +kernel)) rfl hK hP hD hS hA (fun _ => rfl) (by decide) (by decide) (Nat.le_of_ble_eq_true rfl) (Nat.le_of_ble_eq_true rfl) (Nat.le_of_ble_eq_true rfl) dX3_init_13 (fun q_3 cA_4 H hK hP hD hS => ?_)
  refine W.widen (k := 2) (n := 10) (Nat.le_of_ble_eq_true rfl) (Nat.le_of_ble_eq_true rfl) ?_
  have hP : va_P (dC, dI) fxCl [(h0, .inr (2, [.ref q_1, .null])), (q_1, .inl (cA_2, 5, .inl (fun _ => 0))), (q_3, .inl (cA_4, 5, .inl (fun _ => 0)))] H := hP
  have hD : va_D A [(h0, .inr (2, [.ref q_1, .null])), (q_1, .inl (cA_2, 5, .inl (fun _ => 0))), (q_3, .inl (cA_4, 5, .inl (fun _ => 0)))] := hD
  have hK : va_K (dC, dI) fxCl [(cA_2, .int), (cA_4, .int)] s := hK
  refine va_putF (D := (dC, dI)) (ci := 2) (v := .ref q_3) (ty := .array .int) (C := RX3) (T := TX3) (N := 2) hx hb hts (by decide +kernel) tyX3 tyX3_ok nmX3 hown hK hP hD hS 0 rfl rfl 1 (by decide) (hts (.fieldLink RX3 15 "Urnwright$Sides" "itsLeft" "[I") (by decide +kernel)) (fun _ h9 => h9) rfl hin rfl (by decide +kernel) rfl rfl (Nat.le_of_ble_eq_true rfl) dX3_init_15 (fun H locs hP hD hS => ?_)
  have hP : va_P (dC, dI) fxCl [(h0, .inr (2, [.ref q_1, .ref q_3])), (q_1, .inl (cA_2, 5, .inl (fun _ => 0))), (q_3, .inl (cA_4, 5, .inl (fun _ => 0)))] H := hP
  have hD : va_D A [(h0, .inr (2, [.ref q_1, .ref q_3])), (q_1, .inl (cA_2, 5, .inl (fun _ => 0))), (q_3, .inl (cA_4, 5, .inl (fun _ => 0)))] := hD
  have hP9 := hP.sub (ws' := [(h0, .inr (2, [.ref q_1, .ref q_3]))]) [0] rfl
  have hD9 := hD.sub (ws' := [(h0, .inr (2, [.ref q_1, .ref q_3]))]) [0] (by decide) rfl
  have hK9 := hK.sub (tys' := []) [] rfl
  refine W.widen (k := 2) (n := 10) (Nat.le_of_ble_eq_true rfl) (Nat.le_of_ble_eq_true rfl) ?_
  exact W.vret hx hb hr (fun t ht hW => ⟨⟨(), rfl, trivial, q_1, q_3, by rw [ht]; exact hP9, va_K.moved hW.alike hK9, hD9⟩, hS.F ht⟩) hS.2.2 dX3_init_18
set_option maxHeartbeats 4000000 in
set_option maxRecDepth 100000 in
/-- Game() -/
theorem c_X1_init (l : Launch) (dC : Nat → ClassId) (dI : Nat → Nat → Nat) (h0 : Nat) (sz : Nat) : Met l yX1_init wsX1_init ({ frames := 1, cells := 6, slots := 968, locals := 40 } : Room) (va_Pc [.ref h0] (fx_st dC dI [(h0, .inr (1, [.null, .null, .null, .null, .null, .null, .int 0, .int 0, .int 0]))] [] sz)) (va_Qv (fun _ : Unit => True) (fun _ t => ∃ (q1 q2 q3 q4 q5 q6 : Nat), fx_en dC dI (va_A [(h0, .inr (1, [.null, .null, .null, .null, .null, .null, .int 0, .int 0, .int 0]))] sz) [(h0, .inr (1, [.ref q1, .ref q2, .ref q3, .ref q4, .ref q5, .ref q6, .int 0, .int 0, .int 0]))] [] t) (va_A [(h0, .inr (1, [.null, .null, .null, .null, .null, .null, .int 0, .int 0, .int 0]))] sz)) 6 968 (va_A [(h0, .inr (1, [.null, .null, .null, .null, .null, .null, .int 0, .int 0, .int 0]))] sz) := by
  refine Met.ofW (cc := cX1_init) (maxL := 1) (ret := none) (by decide) rfl ?_
  intro p e s m args below meth c s₁ B hml hv
  obtain ⟨rfl, hsz, hP, hK, hD0, hnw⟩ := hv
  have hx := B.exec
  have hb := B.bytes
  have hr := B.returns
  have hts := atoms_spec (ws := wsX1_init) B.pre
  have hown : s.vm.findClass RX1 = some m.cls := findClass_of_methodNamed B.named
  have hlocks := B.notSynchronized
  have hin : meth.name = "<init>" := (name_of_methodNamed B.named B.method).1
  subst hsz
  have hD := hD0.self (sz := s.heap.size)
  generalize hAe : va_A [(h0, .inr (1, [.null, .null, .null, .null, .null, .null, .int 0, .int 0, .int 0]))] s.heap.size = A at hD ⊢
  have hA : ∀ q : Nat, s.heap.size ≤ q → A q := fun q h => by rw [← hAe]; exact Or.inr h
  obtain ⟨H, hHe⟩ : ∃ H, H = s.heap := ⟨_, rfl⟩
  have hS : va_S A s.heap H [] := by rw [hHe]; exact va_S.rf
  have hP : va_P (dC, dI) fxCl [(h0, .inr (1, [.null, .null, .null, .null, .null, .null, .int 0, .int 0, .int 0]))] H := by rw [hHe]; exact hP
  refine fx_h hHe ?_
  have hl := lv_entry ([.ref h0]) (n := 1) (Nat.le_of_ble_eq_true rfl)
  rw [lg_entry_eq]
  generalize (lg_sl ([.ref h0]) ++ List.replicate (1 - (lg_sl ([.ref h0])).length) Slot.unset).toArray = ls at hl ⊢
  have hl : lv_has ls 1 [(0, .ref h0)] := hl
  refine lv_aload_n hx hb dX1_init_0 rfl (lv_at hl 0 rfl) ?_
  refine W.objInit hx hb hown (hts (.methodLink RX1 3 objectInit) (by decide +kernel)) (hts (.instanceMethod objectInit) (by decide +kernel)) (hts (.code objectInit ⟨#[0xb1]⟩ 1 none) (by decide +kernel)) rfl (by rw [hml]; exact hl.1) rfl dX1_init_1 (Nat.le_of_ble_eq_true rfl) (Nat.le_of_ble_eq_true rfl) ?_
  refine W.eq (g2 := F0 m 4 ls []) rfl ?_
  refine lv_aload_n hx hb dX1_init_4 rfl (lv_at hl 0 rfl) ?_
  refine lv_bipush (v := 121) hx hb dX1_init_5 (by decide) ?_
  refine va_newa (atype := .long) (ty := .long) (N' := 121) (a0 := (121, .inr (.inl fun _ => 0))) hx hb (hts (.arrayClass .long) (by decide +kernel)) rfl hK hP hD hS hA (fun _ => rfl) (by decide) (by decide) (Nat.le_of_ble_eq_true rfl) (Nat.le_of_ble_eq_true rfl) (Nat.le_of_ble_eq_true rfl) dX1_init_7 (fun q_1 cA_2 H hK hP hD hS => ?_)
  refine W.widen (k := 1) (n := 121) (Nat.le_of_ble_eq_true rfl) (Nat.le_of_ble_eq_true rfl) ?_
  have hP : va_P (dC, dI) fxCl [(h0, .inr (1, [.null, .null, .null, .null, .null, .null, .int 0, .int 0, .int 0])), (q_1, .inl (cA_2, 121, .inr (.inl (fun _ => 0))))] H := hP
  have hD : va_D A [(h0, .inr (1, [.null, .null, .null, .null, .null, .null, .int 0, .int 0, .int 0])), (q_1, .inl (cA_2, 121, .inr (.inl (fun _ => 0))))] := hD
  have hK : va_K (dC, dI) fxCl [(cA_2, .long)] s := hK
  refine va_putF (D := (dC, dI)) (ci := 1) (v := .ref q_1) (ty := .array .long) (C := RX1) (T := TX1) (N := 9) hx hb hts (by decide +kernel) tyX1 tyX1_ok nmX1 hown hK hP hD hS 0 rfl rfl 0 (by decide) (hts (.fieldLink RX1 9 "Urnwright$Game" "ways" "[J") (by decide +kernel)) (fun _ h9 => h9) rfl hin rfl (by decide +kernel) rfl rfl (Nat.le_of_ble_eq_true rfl) dX1_init_9 (fun H locs hP hD hS => ?_)
  have hP : va_P (dC, dI) fxCl [(h0, .inr (1, [.ref q_1, .null, .null, .null, .null, .null, .int 0, .int 0, .int 0])), (q_1, .inl (cA_2, 121, .inr (.inl (fun _ => 0))))] H := hP
  have hD : va_D A [(h0, .inr (1, [.ref q_1, .null, .null, .null, .null, .null, .int 0, .int 0, .int 0])), (q_1, .inl (cA_2, 121, .inr (.inl (fun _ => 0))))] := hD
  refine lv_aload_n hx hb dX1_init_12 rfl (lv_at hl 0 rfl) ?_
  refine lv_bipush (v := 121) hx hb dX1_init_13 (by decide) ?_
  refine va_newa (atype := .int) (ty := .int) (N' := 121) (a0 := (121, .inl fun _ => 0)) hx hb (hts (.arrayClass .int) (by decide +kernel)) rfl hK hP hD hS hA (fun _ => rfl) (by decide) (by decide) (Nat.le_of_ble_eq_true rfl) (Nat.le_of_ble_eq_true rfl) (Nat.le_of_ble_eq_true rfl) dX1_init_15 (fun q_3 cA_4 H hK hP hD hS => ?_)
  refine W.widen (k := 2) (n := 242) (Nat.le_of_ble_eq_true rfl) (Nat.le_of_ble_eq_true rfl) ?_
  have hP : va_P (dC, dI) fxCl [(h0, .inr (1, [.ref q_1, .null, .null, .null, .null, .null, .int 0, .int 0, .int 0])), (q_1, .inl (cA_2, 121, .inr (.inl (fun _ => 0)))), (q_3, .inl (cA_4, 121, .inl (fun _ => 0)))] H := hP
  have hD : va_D A [(h0, .inr (1, [.ref q_1, .null, .null, .null, .null, .null, .int 0, .int 0, .int 0])), (q_1, .inl (cA_2, 121, .inr (.inl (fun _ => 0)))), (q_3, .inl (cA_4, 121, .inl (fun _ => 0)))] := hD
  have hK : va_K (dC, dI) fxCl [(cA_2, .long), (cA_4, .int)] s := hK
  refine va_putF (D := (dC, dI)) (ci := 1) (v := .ref q_3) (ty := .array .int) (C := RX1) (T := TX1) (N := 9) hx hb hts (by decide +kernel) tyX1 tyX1_ok nmX1 hown hK hP hD hS 0 rfl rfl 1 (by decide) (hts (.fieldLink RX1 15 "Urnwright$Game" "yields" "[I") (by decide +kernel)) (fun _ h9 => h9) rfl hin rfl (by decide +kernel) rfl rfl (Nat.le_of_ble_eq_true rfl) dX1_init_17 (fun H locs hP hD hS => ?_)
  have hP : va_P (dC, dI) fxCl [(h0, .inr (1, [.ref q_1, .ref q_3, .null, .null, .null, .null, .int 0, .int 0, .int 0])), (q_1, .inl (cA_2, 121, .inr (.inl (fun _ => 0)))), (q_3, .inl (cA_4, 121, .inl (fun _ => 0)))] H := hP
  have hD : va_D A [(h0, .inr (1, [.ref q_1, .ref q_3, .null, .null, .null, .null, .int 0, .int 0, .int 0])), (q_1, .inl (cA_2, 121, .inr (.inl (fun _ => 0)))), (q_3, .inl (cA_4, 121, .inl (fun _ => 0)))] := hD
  refine lv_aload_n hx hb dX1_init_20 rfl (lv_at hl 0 rfl) ?_
  refine lv_bipush (v := 121) hx hb dX1_init_21 (by decide) ?_
  refine va_newa (atype := .int) (ty := .int) (N' := 121) (a0 := (121, .inl fun _ => 0)) hx hb (hts (.arrayClass .int) (by decide +kernel)) rfl hK hP hD hS hA (fun _ => rfl) (by decide) (by decide) (Nat.le_of_ble_eq_true rfl) (Nat.le_of_ble_eq_true rfl) (Nat.le_of_ble_eq_true rfl) dX1_init_23 (fun q_5 cA_6 H hK hP hD hS => ?_)
  refine W.widen (k := 3) (n := 363) (Nat.le_of_ble_eq_true rfl) (Nat.le_of_ble_eq_true rfl) ?_
  have hP : va_P (dC, dI) fxCl [(h0, .inr (1, [.ref q_1, .ref q_3, .null, .null, .null, .null, .int 0, .int 0, .int 0])), (q_1, .inl (cA_2, 121, .inr (.inl (fun _ => 0)))), (q_3, .inl (cA_4, 121, .inl (fun _ => 0))), (q_5, .inl (cA_6, 121, .inl (fun _ => 0)))] H := hP
  have hD : va_D A [(h0, .inr (1, [.ref q_1, .ref q_3, .null, .null, .null, .null, .int 0, .int 0, .int 0])), (q_1, .inl (cA_2, 121, .inr (.inl (fun _ => 0)))), (q_3, .inl (cA_4, 121, .inl (fun _ => 0))), (q_5, .inl (cA_6, 121, .inl (fun _ => 0)))] := hD
  have hK : va_K (dC, dI) fxCl [(cA_2, .long), (cA_4, .int), (cA_6, .int)] s := hK
  refine va_putF (D := (dC, dI)) (ci := 1) (v := .ref q_5) (ty := .array .int) (C := RX1) (T := TX1) (N := 9) hx hb hts (by decide +kernel) tyX1 tyX1_ok nmX1 hown hK hP hD hS 0 rfl rfl 2 (by decide) (hts (.fieldLink RX1 19 "Urnwright$Game" "paths" "[I") (by decide +kernel)) (fun _ h9 => h9) rfl hin rfl (by decide +kernel) rfl rfl (Nat.le_of_ble_eq_true rfl) dX1_init_25 (fun H locs hP hD hS => ?_)
  have hP : va_P (dC, dI) fxCl [(h0, .inr (1, [.ref q_1, .ref q_3, .ref q_5, .null, .null, .null, .int 0, .int 0, .int 0])), (q_1, .inl (cA_2, 121, .inr (.inl (fun _ => 0)))), (q_3, .inl (cA_4, 121, .inl (fun _ => 0))), (q_5, .inl (cA_6, 121, .inl (fun _ => 0)))] H := hP
  have hD : va_D A [(h0, .inr (1, [.ref q_1, .ref q_3, .ref q_5, .null, .null, .null, .int 0, .int 0, .int 0])), (q_1, .inl (cA_2, 121, .inr (.inl (fun _ => 0)))), (q_3, .inl (cA_4, 121, .inl (fun _ => 0))), (q_5, .inl (cA_6, 121, .inl (fun _ => 0)))] := hD
  refine lv_aload_n hx hb dX1_init_28 rfl (lv_at hl 0 rfl) ?_
  refine lv_sipush (v := 363) hx hb dX1_init_29 (by decide) ?_
  refine va_newa (atype := .int) (ty := .int) (N' := 363) (a0 := (363, .inl fun _ => 0)) hx hb (hts (.arrayClass .int) (by decide +kernel)) rfl hK hP hD hS hA (fun _ => rfl) (by decide) (by decide) (Nat.le_of_ble_eq_true rfl) (Nat.le_of_ble_eq_true rfl) (Nat.le_of_ble_eq_true rfl) dX1_init_32 (fun q_7 cA_8 H hK hP hD hS => ?_)
  refine W.widen (k := 4) (n := 726) (Nat.le_of_ble_eq_true rfl) (Nat.le_of_ble_eq_true rfl) ?_
  have hP : va_P (dC, dI) fxCl [(h0, .inr (1, [.ref q_1, .ref q_3, .ref q_5, .null, .null, .null, .int 0, .int 0, .int 0])), (q_1, .inl (cA_2, 121, .inr (.inl (fun _ => 0)))), (q_3, .inl (cA_4, 121, .inl (fun _ => 0))), (q_5, .inl (cA_6, 121, .inl (fun _ => 0))), (q_7, .inl (cA_8, 363, .inl (fun _ => 0)))] H := hP
  have hD : va_D A [(h0, .inr (1, [.ref q_1, .ref q_3, .ref q_5, .null, .null, .null, .int 0, .int 0, .int 0])), (q_1, .inl (cA_2, 121, .inr (.inl (fun _ => 0)))), (q_3, .inl (cA_4, 121, .inl (fun _ => 0))), (q_5, .inl (cA_6, 121, .inl (fun _ => 0))), (q_7, .inl (cA_8, 363, .inl (fun _ => 0)))] := hD
  have hK : va_K (dC, dI) fxCl [(cA_2, .long), (cA_4, .int), (cA_6, .int), (cA_8, .int)] s := hK
  refine va_putF (D := (dC, dI)) (ci := 1) (v := .ref q_7) (ty := .array .int) (C := RX1) (T := TX1) (N := 9) hx hb hts (by decide +kernel) tyX1 tyX1_ok nmX1 hown hK hP hD hS 0 rfl rfl 3 (by decide) (hts (.fieldLink RX1 22 "Urnwright$Game" "counts" "[I") (by decide +kernel)) (fun _ h9 => h9) rfl hin rfl (by decide +kernel) rfl rfl (Nat.le_of_ble_eq_true rfl) dX1_init_34 (fun H locs hP hD hS => ?_)
  have hP : va_P (dC, dI) fxCl [(h0, .inr (1, [.ref q_1, .ref q_3, .ref q_5, .ref q_7, .null, .null, .int 0, .int 0, .int 0])), (q_1, .inl (cA_2, 121, .inr (.inl (fun _ => 0)))), (q_3, .inl (cA_4, 121, .inl (fun _ => 0))), (q_5, .inl (cA_6, 121, .inl (fun _ => 0))), (q_7, .inl (cA_8, 363, .inl (fun _ => 0)))] H := hP
  have hD : va_D A [(h0, .inr (1, [.ref q_1, .ref q_3, .ref q_5, .ref q_7, .null, .null, .int 0, .int 0, .int 0])), (q_1, .inl (cA_2, 121, .inr (.inl (fun _ => 0)))), (q_3, .inl (cA_4, 121, .inl (fun _ => 0))), (q_5, .inl (cA_6, 121, .inl (fun _ => 0))), (q_7, .inl (cA_8, 363, .inl (fun _ => 0)))] := hD
  refine lv_aload_n hx hb dX1_init_37 rfl (lv_at hl 0 rfl) ?_
  refine lv_bipush (v := 121) hx hb dX1_init_38 (by decide) ?_
  refine va_newa (atype := .long) (ty := .long) (N' := 121) (a0 := (121, .inr (.inl fun _ => 0))) hx hb (hts (.arrayClass .long) (by decide +kernel)) rfl hK hP hD hS hA (fun _ => rfl) (by decide) (by decide) (Nat.le_of_ble_eq_true rfl) (Nat.le_of_ble_eq_true rfl) (Nat.le_of_ble_eq_true rfl) dX1_init_40 (fun q_9 cA_10 H hK hP hD hS => ?_)
  refine W.widen (k := 5) (n := 847) (Nat.le_of_ble_eq_true rfl) (Nat.le_of_ble_eq_true rfl) ?_
  have hP : va_P (dC, dI) fxCl [(h0, .inr (1, [.ref q_1, .ref q_3, .ref q_5, .ref q_7, .null, .null, .int 0, .int 0, .int 0])), (q_1, .inl (cA_2, 121, .inr (.inl (fun _ => 0)))), (q_3, .inl (cA_4, 121, .inl (fun _ => 0))), (q_5, .inl (cA_6, 121, .inl (fun _ => 0))), (q_7, .inl (cA_8, 363, .inl (fun _ => 0))), (q_9, .inl (cA_10, 121, .inr (.inl (fun _ => 0))))] H := hP
  have hD : va_D A [(h0, .inr (1, [.ref q_1, .ref q_3, .ref q_5, .ref q_7, .null, .null, .int 0, .int 0, .int 0])), (q_1, .inl (cA_2, 121, .inr (.inl (fun _ => 0)))), (q_3, .inl (cA_4, 121, .inl (fun _ => 0))), (q_5, .inl (cA_6, 121, .inl (fun _ => 0))), (q_7, .inl (cA_8, 363, .inl (fun _ => 0))), (q_9, .inl (cA_10, 121, .inr (.inl (fun _ => 0))))] := hD
  have hK : va_K (dC, dI) fxCl [(cA_2, .long), (cA_4, .int), (cA_6, .int), (cA_8, .int), (cA_10, .long)] s := hK
  refine va_putF (D := (dC, dI)) (ci := 1) (v := .ref q_9) (ty := .array .long) (C := RX1) (T := TX1) (N := 9) hx hb hts (by decide +kernel) tyX1 tyX1_ok nmX1 hown hK hP hD hS 0 rfl rfl 4 (by decide) (hts (.fieldLink RX1 25 "Urnwright$Game" "worths" "[J") (by decide +kernel)) (fun _ h9 => h9) rfl hin rfl (by decide +kernel) rfl rfl (Nat.le_of_ble_eq_true rfl) dX1_init_42 (fun H locs hP hD hS => ?_)
  have hP : va_P (dC, dI) fxCl [(h0, .inr (1, [.ref q_1, .ref q_3, .ref q_5, .ref q_7, .ref q_9, .null, .int 0, .int 0, .int 0])), (q_1, .inl (cA_2, 121, .inr (.inl (fun _ => 0)))), (q_3, .inl (cA_4, 121, .inl (fun _ => 0))), (q_5, .inl (cA_6, 121, .inl (fun _ => 0))), (q_7, .inl (cA_8, 363, .inl (fun _ => 0))), (q_9, .inl (cA_10, 121, .inr (.inl (fun _ => 0))))] H := hP
  have hD : va_D A [(h0, .inr (1, [.ref q_1, .ref q_3, .ref q_5, .ref q_7, .ref q_9, .null, .int 0, .int 0, .int 0])), (q_1, .inl (cA_2, 121, .inr (.inl (fun _ => 0)))), (q_3, .inl (cA_4, 121, .inl (fun _ => 0))), (q_5, .inl (cA_6, 121, .inl (fun _ => 0))), (q_7, .inl (cA_8, 363, .inl (fun _ => 0))), (q_9, .inl (cA_10, 121, .inr (.inl (fun _ => 0))))] := hD
  refine lv_aload_n hx hb dX1_init_45 rfl (lv_at hl 0 rfl) ?_
  refine lv_bipush (v := 121) hx hb dX1_init_46 (by decide) ?_
  refine va_newa (atype := .boolean) (ty := .boolean) (N' := 121) (a0 := (121, .inl fun _ => 0)) hx hb (hts (.arrayClass .boolean) (by decide +kernel)) rfl hK hP hD hS hA (fun _ => rfl) (by decide) (by decide) (Nat.le_of_ble_eq_true rfl) (Nat.le_of_ble_eq_true rfl) (Nat.le_of_ble_eq_true rfl) dX1_init_48 (fun q_11 cA_12 H hK hP hD hS => ?_)
  refine W.widen (k := 6) (n := 968) (Nat.le_of_ble_eq_true rfl) (Nat.le_of_ble_eq_true rfl) ?_
  have hP : va_P (dC, dI) fxCl [(h0, .inr (1, [.ref q_1, .ref q_3, .ref q_5, .ref q_7, .ref q_9, .null, .int 0, .int 0, .int 0])), (q_1, .inl (cA_2, 121, .inr (.inl (fun _ => 0)))), (q_3, .inl (cA_4, 121, .inl (fun _ => 0))), (q_5, .inl (cA_6, 121, .inl (fun _ => 0))), (q_7, .inl (cA_8, 363, .inl (fun _ => 0))), (q_9, .inl (cA_10, 121, .inr (.inl (fun _ => 0)))), (q_11, .inl (cA_12, 121, .inl (fun _ => 0)))] H := hP
  have hD : va_D A [(h0, .inr (1, [.ref q_1, .ref q_3, .ref q_5, .ref q_7, .ref q_9, .null, .int 0, .int 0, .int 0])), (q_1, .inl (cA_2, 121, .inr (.inl (fun _ => 0)))), (q_3, .inl (cA_4, 121, .inl (fun _ => 0))), (q_5, .inl (cA_6, 121, .inl (fun _ => 0))), (q_7, .inl (cA_8, 363, .inl (fun _ => 0))), (q_9, .inl (cA_10, 121, .inr (.inl (fun _ => 0)))), (q_11, .inl (cA_12, 121, .inl (fun _ => 0)))] := hD
  have hK : va_K (dC, dI) fxCl [(cA_2, .long), (cA_4, .int), (cA_6, .int), (cA_8, .int), (cA_10, .long), (cA_12, .boolean)] s := hK
  refine va_putF (D := (dC, dI)) (ci := 1) (v := .ref q_11) (ty := .array .boolean) (C := RX1) (T := TX1) (N := 9) hx hb hts (by decide +kernel) tyX1 tyX1_ok nmX1 hown hK hP hD hS 0 rfl rfl 5 (by decide) (hts (.fieldLink RX1 28 "Urnwright$Game" "isOver" "[Z") (by decide +kernel)) (fun _ h9 => h9) rfl hin rfl (by decide +kernel) rfl rfl (Nat.le_of_ble_eq_true rfl) dX1_init_50 (fun H locs hP hD hS => ?_)
  have hP : va_P (dC, dI) fxCl [(h0, .inr (1, [.ref q_1, .ref q_3, .ref q_5, .ref q_7, .ref q_9, .ref q_11, .int 0, .int 0, .int 0])), (q_1, .inl (cA_2, 121, .inr (.inl (fun _ => 0)))), (q_3, .inl (cA_4, 121, .inl (fun _ => 0))), (q_5, .inl (cA_6, 121, .inl (fun _ => 0))), (q_7, .inl (cA_8, 363, .inl (fun _ => 0))), (q_9, .inl (cA_10, 121, .inr (.inl (fun _ => 0)))), (q_11, .inl (cA_12, 121, .inl (fun _ => 0)))] H := hP
  have hD : va_D A [(h0, .inr (1, [.ref q_1, .ref q_3, .ref q_5, .ref q_7, .ref q_9, .ref q_11, .int 0, .int 0, .int 0])), (q_1, .inl (cA_2, 121, .inr (.inl (fun _ => 0)))), (q_3, .inl (cA_4, 121, .inl (fun _ => 0))), (q_5, .inl (cA_6, 121, .inl (fun _ => 0))), (q_7, .inl (cA_8, 363, .inl (fun _ => 0))), (q_9, .inl (cA_10, 121, .inr (.inl (fun _ => 0)))), (q_11, .inl (cA_12, 121, .inl (fun _ => 0)))] := hD
  have hP9 := hP.sub (ws' := [(h0, .inr (1, [.ref q_1, .ref q_3, .ref q_5, .ref q_7, .ref q_9, .ref q_11, .int 0, .int 0, .int 0]))]) [0] rfl
  have hD9 := hD.sub (ws' := [(h0, .inr (1, [.ref q_1, .ref q_3, .ref q_5, .ref q_7, .ref q_9, .ref q_11, .int 0, .int 0, .int 0]))]) [0] (by decide) rfl
  have hK9 := hK.sub (tys' := []) [] rfl
  refine W.widen (k := 6) (n := 968) (Nat.le_of_ble_eq_true rfl) (Nat.le_of_ble_eq_true rfl) ?_
  exact W.vret hx hb hr (fun t ht hW => ⟨⟨(), rfl, trivial, q_1, q_3, q_5, q_7, q_9, q_11, by rw [ht]; exact hP9, va_K.moved hW.alike hK9, hD9⟩, hS.F ht⟩) hS.2.2 dX1_init_53
set_option maxHeartbeats 4000000 in
set_option maxRecDepth 100000 in
/-- shuffle(5, 7) -/
theorem c_X0_shuffle (l : Launch) (dC : Nat → ClassId) (dI : Nat → Nat → Nat) (h0 q : Nat) (cA : ClassId) (f : Nat → Int64) (sz : Nat) : Met l yX0_shuffle wsX0_shuffle ({ frames := 2, cells := 0, slots := 0, locals := 60 } : Room) (va_Pc [.ref h0, .int 5, .int 7] (fx_st dC dI [(h0, .inr (0, [.ref q])), (q, .inl (cA, 6, .inr (.inl f)))] [(cA, .long)] sz)) (va_Qv (fun _ : Unit => True) (fun _ t => ∃ g : Nat → Int64, fx_en dC dI (va_A [(h0, .inr (0, [.ref q])), (q, .inl (cA, 6, .inr (.inl f)))] sz) [(h0, .inr (0, [.ref q])), (q, .inl (cA, 6, .inr (.inl g)))] [(cA, .long)] t) (va_A [(h0, .inr (0, [.ref q])), (q, .inl (cA, 6, .inr (.inl f)))] sz)) 0 0 (va_A [(h0, .inr (0, [.ref q])), (q, .inl (cA, 6, .inr (.inl f)))] sz) := by
  refine Met.ofW (cc := cX0_shuffle) (maxL := 5) (ret := none) (by decide) rfl ?_
  intro p e s m args below meth c s₁ B hml hv
  obtain ⟨rfl, hsz, hP, hK, hD0, hnw⟩ := hv
  have hx := B.exec
  have hb := B.bytes
  have hr := B.returns
  have hts := atoms_spec (ws := wsX0_shuffle) B.pre
  have hown : s.vm.findClass RX0 = some m.cls := findClass_of_methodNamed B.named
  have hlocks := B.notSynchronized
  subst hsz
  have hD := hD0.self (sz := s.heap.size)
  generalize hAe : va_A [(h0, .inr (0, [.ref q])), (q, .inl (cA, 6, .inr (.inl f)))] s.heap.size = A at hD ⊢
  have hA : ∀ q : Nat, s.heap.size ≤ q → A q := fun q h => by rw [← hAe]; exact Or.inr h
  obtain ⟨H, hHe⟩ : ∃ H, H = s.heap := ⟨_, rfl⟩
  have hS : va_S A s.heap H [] := by rw [hHe]; exact va_S.rf
  have hP : va_P (dC, dI) fxCl [(h0, .inr (0, [.ref q])), (q, .inl (cA, 6, .inr (.inl f)))] H := by rw [hHe]; exact hP
  refine fx_h hHe ?_
  have hl := lv_entry ([.ref h0, .int 5, .int 7]) (n := 5) (Nat.le_of_ble_eq_true rfl)
  rw [lg_entry_eq]
  generalize (lg_sl ([.ref h0, .int 5, .int 7]) ++ List.replicate (5 - (lg_sl ([.ref h0, .int 5, .int 7])).length) Slot.unset).toArray = ls at hl ⊢
  have hl : lv_has ls 5 [(0, .ref h0), (1, .int 5), (2, .int 7)] := hl
  have loop_32 : ∀ (n_loop_32 : Nat) (j : Nat) (f : Nat → Int64) (H : Heap) (locs : List Loc) (ls : Array Slot), 10 - j < n_loop_32 → j ≤ 7 → va_P (dC, dI) fxCl [(h0, .inr (0, [.ref q])), (q, .inl (cA, 6, .inr (.inl f)))] H → va_D A [(h0, .inr (0, [.ref q])), (q, .inl (cA, 6, .inr (.inl f)))] → va_S A s.heap H locs → lv_has ls 5 [(3, .int (nI j)), (0, .ref h0), (1, .int 5), (2, .int 7)] → W p l e (headSpec wsX0_shuffle ({ frames := 2, cells := 0, slots := 0, locals := 60 } : Room)).room s m ([.ref h0, .int 5, .int 7] : List Value).toArray below meth c H locs 0 0 (MQ below (va_Qv (fun _ : Unit => True) (fun _ t => ∃ g : Nat → Int64, fx_en dC dI (A) [(h0, .inr (0, [.ref q])), (q, .inl (cA, 6, .inr (.inl g)))] [(cA, .long)] t) (A)) ([.ref h0, .int 5, .int 7] : List Value).toArray s 0 0 A) (F0 m 32 ls []) := by
    intro n_loop_32
    induction n_loop_32 with
    | zero => intro j f H locs ls hn; exact absurd hn (Nat.not_lt_zero _)
    | succ n_loop_32 ih_loop_32 =>
      intro j f H locs ls hn_loop_32 hinv_loop_32 hP hD hS hl
      have loop_40 (c_32 : ¬ (7 : Int32) ≤ nI j) : ∀ (n_loop_40 : Nat) (k : Nat) (f : Nat → Int64) (H : Heap) (locs : List Loc) (ls : Array Slot), k < n_loop_40 → k ≤ 5 → va_P (dC, dI) fxCl [(h0, .inr (0, [.ref q])), (q, .inl (cA, 6, .inr (.inl f)))] H → va_D A [(h0, .inr (0, [.ref q])), (q, .inl (cA, 6, .inr (.inl f)))] → va_S A s.heap H locs → lv_has ls 5 [(4, .int (nI k)), (3, .int (nI j)), (0, .ref h0), (1, .int 5), (2, .int 7)] → W p l e (headSpec wsX0_shuffle ({ frames := 2, cells := 0, slots := 0, locals := 60 } : Room)).room s m ([.ref h0, .int 5, .int 7] : List Value).toArray below meth c H locs 0 0 (MQ below (va_Qv (fun _ : Unit => True) (fun _ t => ∃ g : Nat → Int64, fx_en dC dI (A) [(h0, .inr (0, [.ref q])), (q, .inl (cA, 6, .inr (.inl g)))] [(cA, .long)] t) (A)) ([.ref h0, .int 5, .int 7] : List Value).toArray s 0 0 A) (F0 m 40 ls []) := by
        intro n_loop_40
        induction n_loop_40 with
        | zero => intro k f H locs ls hn; exact absurd hn (Nat.not_lt_zero _)
        | succ n_loop_40 ih_loop_40 =>
          intro k f H locs ls hn_loop_40 hinv_loop_40 hP hD hS hl
          refine lv_iload hx hb dX0_shuffle_40 (lv_at hl 0 rfl) ?_
          refine lv_if_le (tgt := 85) hx hb dX0_shuffle_42 (by decide) (fun c_40 => ?_) (fun c_40 => ?_)
          · skip
            refine lv_aload_n hx hb dX0_shuffle_85 rfl (lv_at hl 2 rfl) ?_
            refine va_get (D := (dC, dI)) (ci := 0) (v := .ref q) (C := RX0) (T := TX0) (N := 1) hx hb hts (by decide +kernel) hown hK hP 0 rfl rfl 0 (by decide) (hts (.fieldLink RX0 9 "Urnwright$Deck" "runs" "[J") (by decide +kernel)) (fun _ h9 => h9) rfl dX0_shuffle_86 ?_
            refine lv_iconst (v := 0) hx hb dX0_shuffle_89 (by decide) ?_
            refine lv_lconst (v := 0) hx hb dX0_shuffle_90 (by decide) ?_
            have hPc := hP.sub (ws' := [(q, .inl (cA, 6, .inr (.inl f)))]) [1] rfl
            have hDc := hD.sub (ws' := [(q, .inl (cA, 6, .inr (.inl f)))]) [1] (by decide) rfl
            have hKc := hK.sub (tys' := [(cA, .long)]) [0] rfl
            have hFc := va_free (wc := [(q, .inl (cA, 6, .inr (.inl f)))]) hD hS hA [1] rfl
            refine va_callv (va_runSN (As := [.ref q, .int 0, .long 0]) (rest := []) ⟨hx, hb, hml, hown, hts⟩ (c_X5_put_ l dC dI q cA 0 0 f H.size) ⟨va_cnB 3 hts gX0_shuffle_X5_put__n15 rfl rfl rfl (hnw.2.2.2.2.2.1) (hts (.initialized RX5) (by decide +kernel)) (by decide +kernel) ⟨Nat.le_of_ble_eq_true rfl, Nat.le_of_ble_eq_true rfl⟩, hts (.static yX5_put_) (by decide +kernel), trivial⟩ (fx_preS hPc hKc hDc hnw) rfl rfl hl.1 rfl (lv_room (Nat.le_of_ble_eq_true rfl)) dX0_shuffle_91 ⟨(Nat.le_of_ble_eq_true rfl), (Nat.le_of_ble_eq_true rfl)⟩) hS (fun q _ h => hFc q h) hFc (fun u t H1 locs ht hvm hw hB hz1 hk1 hS => ?_)
            obtain ⟨f_1, hP1, hK1, hD1⟩ := hB
            rw [ht] at hP1
            have hK1 := va_K.moved hvm.symm hK1
            obtain ⟨hP, hD⟩ := va_join (wr := [(h0, .inr (0, [.ref q]))]) (w1 := [(q, .inl (cA, 6, .inr (.inl f_1)))]) hP hD [1] [0] rfl rfl (by decide) (by decide) hk1 hFc hP1 hD1
            have hK := (hK.sub (tys' := []) [] rfl).app hK1
            generalize H1 = H at hP hS ⊢
            have hP : va_P (dC, dI) fxCl [(h0, .inr (0, [.ref q])), (q, .inl (cA, 6, .inr (.inl f_1)))] H := hP
            have hD : va_D A [(h0, .inr (0, [.ref q])), (q, .inl (cA, 6, .inr (.inl f_1)))] := hD
            have hK : va_K (dC, dI) fxCl [(cA, .long)] s := hK
            refine lv_iinc (v := nI (j + 1)) (lv' := [(3, .int (nI (j + 1))), (4, .int (nI k)), (0, .ref h0), (1, .int 5), (2, .int 7)]) hx hb dX0_shuffle_94 hl (k := 1) rfl (nI_add j 1) (by decide) rfl (fun ls hl => ?_)
            refine lv_goto (tgt := 32) hx hb dX0_shuffle_97 (by decide) ?_
            have hlt32 : j < 7 := fx_ge (n := 7) c_32 (by decide) (by omega)
            exact ih_loop_32 (j + 1) f_1 H locs ls (by omega) (by omega) (hP.sub [0, 1] rfl) (hD.sub [0, 1] (by decide) rfl) hS (lv_sub hl [0, 2, 3, 4] rfl)
          · skip
            have hk0 : 0 < k := by
              rcases Nat.eq_zero_or_pos k with h | h
              · exact absurd (by rw [h]; decide) c_40
              · exact h
            refine lv_aload_n hx hb dX0_shuffle_45 rfl (lv_at hl 2 rfl) ?_
            refine va_get (D := (dC, dI)) (ci := 0) (v := .ref q) (C := RX0) (T := TX0) (N := 1) hx hb hts (by decide +kernel) hown hK hP 0 rfl rfl 0 (by decide) (hts (.fieldLink RX0 9 "Urnwright$Deck" "runs" "[J") (by decide +kernel)) (fun _ h9 => h9) rfl dX0_shuffle_46 ?_
            refine lv_iload hx hb dX0_shuffle_49 (lv_at hl 0 rfl) ?_
            refine lv_aload_n hx hb dX0_shuffle_51 rfl (lv_at hl 2 rfl) ?_
            refine va_get (D := (dC, dI)) (ci := 0) (v := .ref q) (C := RX0) (T := TX0) (N := 1) hx hb hts (by decide +kernel) hown hK hP 0 rfl rfl 0 (by decide) (hts (.fieldLink RX0 9 "Urnwright$Deck" "runs" "[J") (by decide +kernel)) (fun _ h9 => h9) rfl dX0_shuffle_52 ?_
            refine lv_iload hx hb dX0_shuffle_55 (lv_at hl 0 rfl) ?_
            have hPc := hP.sub (ws' := [(q, .inl (cA, 6, .inr (.inl f)))]) [1] rfl
            have hDc := hD.sub (ws' := [(q, .inl (cA, 6, .inr (.inl f)))]) [1] (by decide) rfl
            have hKc := hK.sub (tys' := [(cA, .long)]) [0] rfl
            refine vp_callSl ((va_runSN (As := [.ref q, .int (nI k)]) (rest := [.int (nI k), .ref q]) ⟨hx, hb, hml, hown, hts⟩ (c_X5_at_ l dC dI q cA (nI k) f H.size) ⟨va_cnB 2 hts gX0_shuffle_X5_at__n19 rfl rfl rfl (hnw.2.2.2.2.2.2.1) (hts (.initialized RX5) (by decide +kernel)) (by decide +kernel) ⟨Nat.le_of_ble_eq_true rfl, Nat.le_of_ble_eq_true rfl⟩, hts (.static yX5_at_) (by decide +kernel), trivial⟩ (fx_preS hPc hKc hDc hnw) rfl rfl hl.1 rfl (lv_room (Nat.le_of_ble_eq_true rfl)) dX0_shuffle_57 ⟨(Nat.le_of_ble_eq_true rfl), (Nat.le_of_ble_eq_true rfl)⟩).run) (fun r_2 hr_2 => ?_)
            refine lv_iload hx hb dX0_shuffle_60 (lv_at hl 0 rfl) ?_
            obtain ⟨x_3, ex_3⟩ : ∃ y : Int64, y = (nI k).toInt64 := ⟨_, rfl⟩
            refine lv_i2l (v := x_3) hx hb dX0_shuffle_62 ex_3.symm ?_
            refine lv_lmul hx hb dX0_shuffle_63 ?_
            refine lv_topl (fun x_4 ex_4 => ?_)
            refine lv_aload_n hx hb dX0_shuffle_64 rfl (lv_at hl 2 rfl) ?_
            refine va_get (D := (dC, dI)) (ci := 0) (v := .ref q) (C := RX0) (T := TX0) (N := 1) hx hb hts (by decide +kernel) hown hK hP 0 rfl rfl 0 (by decide) (hts (.fieldLink RX0 9 "Urnwright$Deck" "runs" "[J") (by decide +kernel)) (fun _ h9 => h9) rfl dX0_shuffle_65 ?_
            refine lv_iload hx hb dX0_shuffle_68 (lv_at hl 0 rfl) ?_
            refine lv_iconst (v := 1) hx hb dX0_shuffle_70 (by decide) ?_
            refine lv_isub hx hb dX0_shuffle_71 ?_
            refine lv_topi (fun x_5 ex_5 => ?_)
            obtain rfl : x_5 = nI (k - 1) := ex_5.trans (fx_sub (by omega))
            have hPc := hP.sub (ws' := [(q, .inl (cA, 6, .inr (.inl f)))]) [1] rfl
            have hDc := hD.sub (ws' := [(q, .inl (cA, 6, .inr (.inl f)))]) [1] (by decide) rfl
            have hKc := hK.sub (tys' := [(cA, .long)]) [0] rfl
            refine vp_callSl ((va_runSN (As := [.ref q, .int (nI (k - 1))]) (rest := [.long x_4, .int (nI k), .ref q]) ⟨hx, hb, hml, hown, hts⟩ (c_X5_at_ l dC dI q cA (nI (k - 1)) f H.size) ⟨va_cnB 2 hts gX0_shuffle_X5_at__n19 rfl rfl rfl (hnw.2.2.2.2.2.2.1) (hts (.initialized RX5) (by decide +kernel)) (by decide +kernel) ⟨Nat.le_of_ble_eq_true rfl, Nat.le_of_ble_eq_true rfl⟩, hts (.static yX5_at_) (by decide +kernel), trivial⟩ (fx_preS hPc hKc hDc hnw) rfl rfl hl.1 rfl (lv_room (Nat.le_of_ble_eq_true rfl)) dX0_shuffle_72 ⟨(Nat.le_of_ble_eq_true rfl), (Nat.le_of_ble_eq_true rfl)⟩).run) (fun r_6 hr_6 => ?_)
            refine lv_ladd hx hb dX0_shuffle_75 ?_
            refine lv_topl (fun x_7 ex_7 => ?_)
            have hPc := hP.sub (ws' := [(q, .inl (cA, 6, .inr (.inl f)))]) [1] rfl
            have hDc := hD.sub (ws' := [(q, .inl (cA, 6, .inr (.inl f)))]) [1] (by decide) rfl
            have hKc := hK.sub (tys' := [(cA, .long)]) [0] rfl
            have hFc := va_free (wc := [(q, .inl (cA, 6, .inr (.inl f)))]) hD hS hA [1] rfl
            refine va_callv (va_runSN (As := [.ref q, .int (nI k), .long x_7]) (rest := []) ⟨hx, hb, hml, hown, hts⟩ (c_X5_put_ l dC dI q cA (nI k) x_7 f H.size) ⟨va_cnB 3 hts gX0_shuffle_X5_put__n15 rfl rfl rfl (hnw.2.2.2.2.2.1) (hts (.initialized RX5) (by decide +kernel)) (by decide +kernel) ⟨Nat.le_of_ble_eq_true rfl, Nat.le_of_ble_eq_true rfl⟩, hts (.static yX5_put_) (by decide +kernel), trivial⟩ (fx_preS hPc hKc hDc hnw) rfl rfl hl.1 rfl (lv_room (Nat.le_of_ble_eq_true rfl)) dX0_shuffle_76 ⟨(Nat.le_of_ble_eq_true rfl), (Nat.le_of_ble_eq_true rfl)⟩) hS (fun q _ h => hFc q h) hFc (fun u t H1 locs ht hvm hw hB hz1 hk1 hS => ?_)
            obtain ⟨f_8, hP1, hK1, hD1⟩ := hB
            rw [ht] at hP1
            have hK1 := va_K.moved hvm.symm hK1
            obtain ⟨hP, hD⟩ := va_join (wr := [(h0, .inr (0, [.ref q]))]) (w1 := [(q, .inl (cA, 6, .inr (.inl f_8)))]) hP hD [1] [0] rfl rfl (by decide) (by decide) hk1 hFc hP1 hD1
            have hK := (hK.sub (tys' := []) [] rfl).app hK1
            generalize H1 = H at hP hS ⊢
            have hP : va_P (dC, dI) fxCl [(h0, .inr (0, [.ref q])), (q, .inl (cA, 6, .inr (.inl f_8)))] H := hP
            have hD : va_D A [(h0, .inr (0, [.ref q])), (q, .inl (cA, 6, .inr (.inl f_8)))] := hD
            have hK : va_K (dC, dI) fxCl [(cA, .long)] s := hK
            refine lv_iinc (v := nI (k - 1)) (lv' := [(4, .int (nI (k - 1))), (3, .int (nI j)), (0, .ref h0), (1, .int 5), (2, .int 7)]) hx hb dX0_shuffle_79 hl (k := 0) rfl (fx_dec (by omega)) (by decide) rfl (fun ls hl => ?_)
            refine lv_goto (tgt := 40) hx hb dX0_shuffle_82 (by decide) ?_
            exact ih_loop_40 (k - 1) f_8 H locs ls (by omega) (by omega) (hP.sub [0, 1] rfl) (hD.sub [0, 1] (by decide) rfl) hS (lv_sub hl [0, 1, 2, 3, 4] rfl)
      refine lv_iload_n hx hb dX0_shuffle_32 rfl (lv_at hl 0 rfl) ?_
      refine lv_iload_n hx hb dX0_shuffle_33 rfl (lv_at hl 3 rfl) ?_
      refine lv_icmp_ge (tgt := 100) hx hb dX0_shuffle_34 (by decide) (fun c_32 => ?_) (fun c_32 => ?_)
      · skip
        have hP9 := hP.sub (ws' := [(h0, .inr (0, [.ref q])), (q, .inl (cA, 6, .inr (.inl f)))]) [0, 1] rfl
        have hD9 := hD.sub (ws' := [(h0, .inr (0, [.ref q])), (q, .inl (cA, 6, .inr (.inl f)))]) [0, 1] (by decide) rfl
        have hK9 := hK.sub (tys' := [(cA, .long)]) [0] rfl
        exact W.vret hx hb hr (fun t ht hW => ⟨⟨(), rfl, trivial, f, by rw [ht]; exact hP9, va_K.moved hW.alike hK9, hD9⟩, hS.F ht⟩) hS.2.2 dX0_shuffle_100
      · skip
        refine lv_iload_n hx hb dX0_shuffle_37 rfl (lv_at hl 2 rfl) ?_
        refine lv_istore (lv' := [(4, .int 5), (3, .int (nI j)), (0, .ref h0), (1, .int 5), (2, .int 7)]) hx hb dX0_shuffle_38 hl (by decide) rfl (fun ls hl => ?_)
        exact loop_40 c_32 6 5 f H locs ls (by omega) (by omega) (hP.sub [0, 1] rfl) (hD.sub [0, 1] (by decide) rfl) hS (lv_sub hl [0, 1, 2, 3, 4] rfl)
  have loop_2 : ∀ (n_loop_2 : Nat) (j : Nat) (f : Nat → Int64) (H : Heap) (locs : List Loc) (ls : Array Slot), 10 - j < n_loop_2 → j ≤ 6 → va_P (dC, dI) fxCl [(h0, .inr (0, [.ref q])), (q, .inl (cA, 6, .inr (.inl f)))] H → va_D A [(h0, .inr (0, [.ref q])), (q, .inl (cA, 6, .inr (.inl f)))] → va_S A s.heap H locs → lv_has ls 5 [(3, .int (nI j)), (0, .ref h0), (1, .int 5), (2, .int 7)] → W p l e (headSpec wsX0_shuffle ({ frames := 2, cells := 0, slots := 0, locals := 60 } : Room)).room s m ([.ref h0, .int 5, .int 7] : List Value).toArray below meth c H locs 0 0 (MQ below (va_Qv (fun _ : Unit => True) (fun _ t => ∃ g : Nat → Int64, fx_en dC dI (A) [(h0, .inr (0, [.ref q])), (q, .inl (cA, 6, .inr (.inl g)))] [(cA, .long)] t) (A)) ([.ref h0, .int 5, .int 7] : List Value).toArray s 0 0 A) (F0 m 2 ls []) := by
    intro n_loop_2
    induction n_loop_2 with
    | zero => intro j f H locs ls hn; exact absurd hn (Nat.not_lt_zero _)
    | succ n_loop_2 ih_loop_2 =>
      intro j f H locs ls hn_loop_2 hinv_loop_2 hP hD hS hl
      refine lv_iload_n hx hb dX0_shuffle_2 rfl (lv_at hl 0 rfl) ?_
      refine lv_iload_n hx hb dX0_shuffle_3 rfl (lv_at hl 2 rfl) ?_
      refine lv_icmp_gt (tgt := 30) hx hb dX0_shuffle_4 (by decide) (fun c_9 => ?_) (fun c_9 => ?_)
      · skip
        refine lv_iconst (v := 0) hx hb dX0_shuffle_30 (by decide) ?_
        refine lv_istore_n (lv' := [(3, .int 0), (0, .ref h0), (1, .int 5), (2, .int 7)]) hx hb dX0_shuffle_31 rfl hl (by decide) rfl (fun ls hl => ?_)
        exact loop_32 11 0 f H locs ls (by omega) (by omega) (hP.sub [0, 1] rfl) (hD.sub [0, 1] (by decide) rfl) hS (lv_sub hl [0, 1, 2, 3] rfl)
      · skip
        refine lv_aload_n hx hb dX0_shuffle_7 rfl (lv_at hl 1 rfl) ?_
        refine va_get (D := (dC, dI)) (ci := 0) (v := .ref q) (C := RX0) (T := TX0) (N := 1) hx hb hts (by decide +kernel) hown hK hP 0 rfl rfl 0 (by decide) (hts (.fieldLink RX0 9 "Urnwright$Deck" "runs" "[J") (by decide +kernel)) (fun _ h9 => h9) rfl dX0_shuffle_8 ?_
        refine lv_iload_n hx hb dX0_shuffle_11 rfl (lv_at hl 0 rfl) ?_
        refine lv_iload_n hx hb dX0_shuffle_12 rfl (lv_at hl 0 rfl) ?_
        refine lv_if_ne (tgt := 20) hx hb dX0_shuffle_13 (by decide) (fun c_10 => ?_) (fun c_10 => ?_)
        · skip
          refine lv_lconst (v := 0) hx hb dX0_shuffle_20 (by decide) ?_
          have hPc := hP.sub (ws' := [(q, .inl (cA, 6, .inr (.inl f)))]) [1] rfl
          have hDc := hD.sub (ws' := [(q, .inl (cA, 6, .inr (.inl f)))]) [1] (by decide) rfl
          have hKc := hK.sub (tys' := [(cA, .long)]) [0] rfl
          have hFc := va_free (wc := [(q, .inl (cA, 6, .inr (.inl f)))]) hD hS hA [1] rfl
          refine va_callv (va_runSN (As := [.ref q, .int (nI j), .long 0]) (rest := []) ⟨hx, hb, hml, hown, hts⟩ (c_X5_put_ l dC dI q cA (nI j) 0 f H.size) ⟨va_cnB 3 hts gX0_shuffle_X5_put__n15 rfl rfl rfl (hnw.2.2.2.2.2.1) (hts (.initialized RX5) (by decide +kernel)) (by decide +kernel) ⟨Nat.le_of_ble_eq_true rfl, Nat.le_of_ble_eq_true rfl⟩, hts (.static yX5_put_) (by decide +kernel), trivial⟩ (fx_preS hPc hKc hDc hnw) rfl rfl hl.1 rfl (lv_room (Nat.le_of_ble_eq_true rfl)) dX0_shuffle_21 ⟨(Nat.le_of_ble_eq_true rfl), (Nat.le_of_ble_eq_true rfl)⟩) hS (fun q _ h => hFc q h) hFc (fun u t H1 locs ht hvm hw hB hz1 hk1 hS => ?_)
          obtain ⟨f_11, hP1, hK1, hD1⟩ := hB
          rw [ht] at hP1
          have hK1 := va_K.moved hvm.symm hK1
          obtain ⟨hP, hD⟩ := va_join (wr := [(h0, .inr (0, [.ref q]))]) (w1 := [(q, .inl (cA, 6, .inr (.inl f_11)))]) hP hD [1] [0] rfl rfl (by decide) (by decide) hk1 hFc hP1 hD1
          have hK := (hK.sub (tys' := []) [] rfl).app hK1
          generalize H1 = H at hP hS ⊢
          have hP : va_P (dC, dI) fxCl [(h0, .inr (0, [.ref q])), (q, .inl (cA, 6, .inr (.inl f_11)))] H := hP
          have hD : va_D A [(h0, .inr (0, [.ref q])), (q, .inl (cA, 6, .inr (.inl f_11)))] := hD
          have hK : va_K (dC, dI) fxCl [(cA, .long)] s := hK
          refine lv_iinc (v := nI (j + 1)) (lv' := [(3, .int (nI (j + 1))), (0, .ref h0), (1, .int 5), (2, .int 7)]) hx hb dX0_shuffle_24 hl (k := 0) rfl (nI_add j 1) (by decide) rfl (fun ls hl => ?_)
          refine lv_goto (tgt := 2) hx hb dX0_shuffle_27 (by decide) ?_
          have hlt2 : j ≤ 5 := fx_gt (n := 5) c_9 (by decide) (by omega)
          exact ih_loop_2 (j + 1) f_11 H locs ls (by omega) (by omega) (hP.sub [0, 1] rfl) (hD.sub [0, 1] (by decide) rfl) hS (lv_sub hl [0, 1, 2, 3] rfl)
        · skip
          refine lv_lconst (v := 1) hx hb dX0_shuffle_16 (by decide) ?_
          refine lv_goto (tgt := 21) hx hb dX0_shuffle_17 (by decide) ?_
          have hPc := hP.sub (ws' := [(q, .inl (cA, 6, .inr (.inl f)))]) [1] rfl
          have hDc := hD.sub (ws' := [(q, .inl (cA, 6, .inr (.inl f)))]) [1] (by decide) rfl
          have hKc := hK.sub (tys' := [(cA, .long)]) [0] rfl
          have hFc := va_free (wc := [(q, .inl (cA, 6, .inr (.inl f)))]) hD hS hA [1] rfl
          refine va_callv (va_runSN (As := [.ref q, .int (nI j), .long 1]) (rest := []) ⟨hx, hb, hml, hown, hts⟩ (c_X5_put_ l dC dI q cA (nI j) 1 f H.size) ⟨va_cnB 3 hts gX0_shuffle_X5_put__n15 rfl rfl rfl (hnw.2.2.2.2.2.1) (hts (.initialized RX5) (by decide +kernel)) (by decide +kernel) ⟨Nat.le_of_ble_eq_true rfl, Nat.le_of_ble_eq_true rfl⟩, hts (.static yX5_put_) (by decide +kernel), trivial⟩ (fx_preS hPc hKc hDc hnw) rfl rfl hl.1 rfl (lv_room (Nat.le_of_ble_eq_true rfl)) dX0_shuffle_21 ⟨(Nat.le_of_ble_eq_true rfl), (Nat.le_of_ble_eq_true rfl)⟩) hS (fun q _ h => hFc q h) hFc (fun u t H1 locs ht hvm hw hB hz1 hk1 hS => ?_)
          obtain ⟨f_12, hP1, hK1, hD1⟩ := hB
          rw [ht] at hP1
          have hK1 := va_K.moved hvm.symm hK1
          obtain ⟨hP, hD⟩ := va_join (wr := [(h0, .inr (0, [.ref q]))]) (w1 := [(q, .inl (cA, 6, .inr (.inl f_12)))]) hP hD [1] [0] rfl rfl (by decide) (by decide) hk1 hFc hP1 hD1
          have hK := (hK.sub (tys' := []) [] rfl).app hK1
          generalize H1 = H at hP hS ⊢
          have hP : va_P (dC, dI) fxCl [(h0, .inr (0, [.ref q])), (q, .inl (cA, 6, .inr (.inl f_12)))] H := hP
          have hD : va_D A [(h0, .inr (0, [.ref q])), (q, .inl (cA, 6, .inr (.inl f_12)))] := hD
          have hK : va_K (dC, dI) fxCl [(cA, .long)] s := hK
          refine lv_iinc (v := nI (j + 1)) (lv' := [(3, .int (nI (j + 1))), (0, .ref h0), (1, .int 5), (2, .int 7)]) hx hb dX0_shuffle_24 hl (k := 0) rfl (nI_add j 1) (by decide) rfl (fun ls hl => ?_)
          refine lv_goto (tgt := 2) hx hb dX0_shuffle_27 (by decide) ?_
          have hlt2 : j ≤ 5 := fx_gt (n := 5) c_9 (by decide) (by omega)
          exact ih_loop_2 (j + 1) f_12 H locs ls (by omega) (by omega) (hP.sub [0, 1] rfl) (hD.sub [0, 1] (by decide) rfl) hS (lv_sub hl [0, 1, 2, 3] rfl)
  refine lv_iconst (v := 0) hx hb dX0_shuffle_0 (by decide) ?_
  refine lv_istore_n (lv' := [(3, .int 0), (0, .ref h0), (1, .int 5), (2, .int 7)]) hx hb dX0_shuffle_1 rfl hl (by decide) rfl (fun ls hl => ?_)
  exact loop_2 11 0 f H [] ls (by omega) (by omega) (hP.sub [0, 1] rfl) (hD.sub [0, 1] (by decide) rfl) hS (lv_sub hl [0, 1, 2, 3] rfl)
set_option maxHeartbeats 4000000 in
set_option maxRecDepth 100000 in
/-- sumOfDifferences(5, o, u) -/
theorem c_X0_sumOfDifferences (l : Launch) (dC : Nat → ClassId) (dI : Nat → Nat → Nat) (h0 q : Nat) (cA : ClassId) (f : Nat → Int64) (o u : Int64) (sz : Nat) : Met l yX0_sumOfDifferences wsX0_sumOfDifferences ({ frames := 2, cells := 0, slots := 0, locals := 60 } : Room) (va_Pc [.ref h0, .int 5, .long o, .long u] (fx_st dC dI [(h0, .inr (0, [.ref q])), (q, .inl (cA, 6, .inr (.inl f)))] [(cA, .long)] sz)) (vp_Sl (fun _ => True)) 0 0 (fun _ => False) := by
  refine Met.ofW (cc := cX0_sumOfDifferences) (maxL := 13) (ret := (some .long)) (by decide) rfl ?_
  intro p e s m args below meth c s₁ B hml hv
  obtain ⟨rfl, hsz, hP, hK, hD0, hnw⟩ := hv
  have hx := B.exec
  have hb := B.bytes
  have hr := B.returns
  have hts := atoms_spec (ws := wsX0_sumOfDifferences) B.pre
  have hown : s.vm.findClass RX0 = some m.cls := findClass_of_methodNamed B.named
  have hlocks := B.notSynchronized
  subst hsz
  have hD := hD0
  generalize hHe : s.heap = H at hP ⊢
  have hK : va_K (dC, dI) fxCl [(cA, .long)] s := hK
  have hl := lv_entry ([.ref h0, .int 5, .long o, .long u]) (n := 13) (Nat.le_of_ble_eq_true rfl)
  rw [lg_entry_eq]
  generalize (lg_sl ([.ref h0, .int 5, .long o, .long u]) ++ List.replicate (13 - (lg_sl ([.ref h0, .int 5, .long o, .long u])).length) Slot.unset).toArray = ls at hl ⊢
  have hl : lv_has ls 13 [(0, .ref h0), (1, .int 5), (2, .long o), (4, .long u)] := hl
  have loop_16 : ∀ (n : Nat) (j : Nat) (z6 z8 : Int64) (ls : Array Slot), 10 - j < n → j ≤ 6 → lv_has ls 13 [(10, .int (nI j)), (6, .long z6), (8, .long z8), (0, .ref h0), (1, .int 5), (2, .long o), (4, .long u)] → W p l e (headSpec wsX0_sumOfDifferences ({ frames := 2, cells := 0, slots := 0, locals := 60 } : Room)).room s m ([.ref h0, .int 5, .long o, .long u] : List Value).toArray below meth c H [] 0 0 (MQ below (vp_Sl (fun _ => True)) ([.ref h0, .int 5, .long o, .long u] : List Value).toArray s 0 0 (fun _ => False)) (F0 m 16 ls []) := by
    intro n
    induction n with
    | zero => intro j z6 z8 ls hn; exact absurd hn (Nat.not_lt_zero _)
    | succ n ih =>
      intro j z6 z8 ls hn hj hl
      refine lv_iload hx hb dX0_sumOfDifferences_16 (lv_at hl 0 rfl) ?_
      refine lv_iload_n hx hb dX0_sumOfDifferences_18 rfl (lv_at hl 4 rfl) ?_
      refine lv_icmp_gt (tgt := 79) hx hb dX0_sumOfDifferences_19 (by decide) (fun c_1 => ?_) (fun c_1 => ?_)
      · skip
        refine lv_lload hx hb dX0_sumOfDifferences_79 (lv_at hl 1 rfl) ?_
        exact W.lret (v := z6) hx hb hr (fun t ht hW => ⟨z6, rfl, trivial, ht.trans hHe.symm⟩) (fun _ h => by cases h) dX0_sumOfDifferences_81
      · skip
        refine lv_lload hx hb dX0_sumOfDifferences_22 (lv_at hl 2 rfl) ?_
        refine lv_aload_n hx hb dX0_sumOfDifferences_24 rfl (lv_at hl 3 rfl) ?_
        refine va_get (D := (dC, dI)) (ci := 0) (v := .ref q) (C := RX0) (T := TX0) (N := 1) hx hb hts (by decide +kernel) hown hK hP 0 rfl rfl 0 (by decide) (hts (.fieldLink RX0 9 "Urnwright$Deck" "runs" "[J") (by decide +kernel)) (fun _ h9 => h9) rfl dX0_sumOfDifferences_25 ?_
        refine lv_iload_n hx hb dX0_sumOfDifferences_28 rfl (lv_at hl 4 rfl) ?_
        refine lv_iload hx hb dX0_sumOfDifferences_29 (lv_at hl 0 rfl) ?_
        refine lv_isub hx hb dX0_sumOfDifferences_31 ?_
        refine lv_topi (fun x_2 ex_2 => ?_)
        have hPc := hP.sub (ws' := [(q, .inl (cA, 6, .inr (.inl f)))]) [1] rfl
        have hDc := hD.sub (ws' := [(q, .inl (cA, 6, .inr (.inl f)))]) [1] (by decide) rfl
        have hKc := hK.sub (tys' := [(cA, .long)]) [0] rfl
        refine vp_callSl ((va_runSN (As := [.ref q, .int x_2]) (rest := [.long z8]) ⟨hx, hb, hml, hown, hts⟩ (c_X5_at_ l dC dI q cA x_2 f H.size) ⟨va_cnB 2 hts gX0_sumOfDifferences_X5_at__n19 rfl rfl rfl (hnw.2.2.2.2.2.2.1) (hts (.initialized RX5) (by decide +kernel)) (by decide +kernel) ⟨Nat.le_of_ble_eq_true rfl, Nat.le_of_ble_eq_true rfl⟩, hts (.static yX5_at_) (by decide +kernel), trivial⟩ (fx_preS hPc hKc hDc hnw) rfl rfl hl.1 rfl (lv_room (Nat.le_of_ble_eq_true rfl)) dX0_sumOfDifferences_32 ⟨(Nat.le_of_ble_eq_true rfl), (Nat.le_of_ble_eq_true rfl)⟩).run) (fun r_3 hr_3 => ?_)
        refine lv_ladd hx hb dX0_sumOfDifferences_35 ?_
        refine lv_topl (fun x_4 ex_4 => ?_)
        refine lv_lstore (lv' := [(8, .long x_4), (10, .int (nI j)), (6, .long z6), (0, .ref h0), (1, .int 5), (2, .long o), (4, .long u)]) hx hb dX0_sumOfDifferences_36 hl (by decide) rfl (fun ls hl => ?_)
        refine lv_iload_n hx hb dX0_sumOfDifferences_38 rfl (lv_at hl 4 rfl) ?_
        refine lv_iload hx hb dX0_sumOfDifferences_39 (lv_at hl 1 rfl) ?_
        refine vp_callSl (W.runS (As := [.int 5, .int (nI j)]) (rest := []) ⟨hx, hb, hml, hown, hts⟩ (c_X0_ordersWithEnd l (j) (by omega)) (va_cwS 2 hts gX0_sumOfDifferences_X0_ordersWithEnd rfl rfl rfl (by decide +kernel) ⟨Nat.le_of_ble_eq_true rfl, Nat.le_of_ble_eq_true rfl⟩) preEq rfl rfl hl.1 rfl (lv_room (Nat.le_of_ble_eq_true rfl)) dX0_sumOfDifferences_41 ⟨Nat.le_of_ble_eq_true rfl, Nat.le_of_ble_eq_true rfl⟩) (fun r_5 hr_5 => ?_)
        refine lv_iload_n hx hb dX0_sumOfDifferences_44 rfl (lv_at hl 4 rfl) ?_
        refine lv_iload hx hb dX0_sumOfDifferences_45 (lv_at hl 1 rfl) ?_
        refine lv_iconst (v := 1) hx hb dX0_sumOfDifferences_47 (by decide) ?_
        refine lv_iadd hx hb dX0_sumOfDifferences_48 ?_
        refine lv_topi (fun x_6 ex_6 => ?_)
        obtain rfl : x_6 = nI (j + 1) := ex_6.trans (nI_add j 1)
        refine vp_callSl (W.runS (As := [.int 5, .int (nI (j + 1))]) (rest := [.long r_5]) ⟨hx, hb, hml, hown, hts⟩ (c_X0_ordersWithEnd l (j + 1) (by omega)) (va_cwS 2 hts gX0_sumOfDifferences_X0_ordersWithEnd rfl rfl rfl (by decide +kernel) ⟨Nat.le_of_ble_eq_true rfl, Nat.le_of_ble_eq_true rfl⟩) preEq rfl rfl hl.1 rfl (lv_room (Nat.le_of_ble_eq_true rfl)) dX0_sumOfDifferences_49 ⟨Nat.le_of_ble_eq_true rfl, Nat.le_of_ble_eq_true rfl⟩) (fun r_7 hr_7 => ?_)
        refine lv_lsub hx hb dX0_sumOfDifferences_52 ?_
        refine lv_topl (fun x_8 ex_8 => ?_)
        refine lv_lstore (lv' := [(11, .long x_8), (8, .long x_4), (10, .int (nI j)), (6, .long z6), (0, .ref h0), (1, .int 5), (2, .long o), (4, .long u)]) hx hb dX0_sumOfDifferences_53 hl (by decide) rfl (fun ls hl => ?_)
        refine lv_lload hx hb dX0_sumOfDifferences_55 (lv_at hl 3 rfl) ?_
        refine lv_lload hx hb dX0_sumOfDifferences_57 (lv_at hl 0 rfl) ?_
        refine lv_lload hx hb dX0_sumOfDifferences_59 (lv_at hl 1 rfl) ?_
        refine lv_lload_n hx hb dX0_sumOfDifferences_61 rfl (lv_at hl 6 rfl) ?_
        refine lv_lmul hx hb dX0_sumOfDifferences_62 ?_
        refine lv_topl (fun x_9 ex_9 => ?_)
        refine lv_lload hx hb dX0_sumOfDifferences_63 (lv_at hl 7 rfl) ?_
        refine lv_lsub hx hb dX0_sumOfDifferences_65 ?_
        refine lv_topl (fun x_10 ex_10 => ?_)
        refine va_mabs_long hx hb (hml.trans hl.1.symm) hown (hts (.methodLink RX0 27 Lib.MathLoose.abs_long.x) (by decide +kernel)) (hts (.static Lib.MathLoose.abs_long.x) (by decide +kernel)) (hts (.initialized "java/lang/Math") (by decide +kernel)) (hts (.code Lib.MathLoose.abs_long.x Lib.MathLoose.abs_long.code 2 (some .long)) (by decide +kernel)) (Nat.le_of_ble_eq_true rfl) (Nat.le_of_ble_eq_true rfl) (Nat.le_of_ble_eq_true rfl) (Nat.le_of_ble_eq_true rfl) dX0_sumOfDifferences_66 ?_
        refine lv_topl (fun x_11 ex_11 => ?_)
        refine lv_lmul hx hb dX0_sumOfDifferences_69 ?_
        refine lv_topl (fun x_12 ex_12 => ?_)
        refine lv_ladd hx hb dX0_sumOfDifferences_70 ?_
        refine lv_topl (fun x_13 ex_13 => ?_)
        refine lv_lstore (lv' := [(6, .long x_13), (11, .long x_8), (8, .long x_4), (10, .int (nI j)), (0, .ref h0), (1, .int 5), (2, .long o), (4, .long u)]) hx hb dX0_sumOfDifferences_71 hl (by decide) rfl (fun ls hl => ?_)
        refine lv_iinc (v := nI (j + 1)) (lv' := [(10, .int (nI (j + 1))), (6, .long x_13), (11, .long x_8), (8, .long x_4), (0, .ref h0), (1, .int 5), (2, .long o), (4, .long u)]) hx hb dX0_sumOfDifferences_73 hl (k := 3) rfl (nI_add j 1) (by decide) rfl (fun ls hl => ?_)
        refine lv_goto (tgt := 16) hx hb dX0_sumOfDifferences_76 (by decide) ?_
        have hlt : j ≤ 5 := fx_gt (n := 5) c_1 (by decide) (by omega)
        exact ih (j + 1) x_13 x_4 ls (by omega) (by omega) (lv_sub hl [0, 1, 3, 4, 5, 6, 7] rfl)
  refine lv_lconst (v := 0) hx hb dX0_sumOfDifferences_0 (by decide) ?_
  refine lv_lstore (lv' := [(6, .long 0), (0, .ref h0), (1, .int 5), (2, .long o), (4, .long u)]) hx hb dX0_sumOfDifferences_1 hl (by decide) rfl (fun ls hl => ?_)
  refine lv_aload_n hx hb dX0_sumOfDifferences_3 rfl (lv_at hl 1 rfl) ?_
  refine va_get (D := (dC, dI)) (ci := 0) (v := .ref q) (C := RX0) (T := TX0) (N := 1) hx hb hts (by decide +kernel) hown hK hP 0 rfl rfl 0 (by decide) (hts (.fieldLink RX0 9 "Urnwright$Deck" "runs" "[J") (by decide +kernel)) (fun _ h9 => h9) rfl dX0_sumOfDifferences_4 ?_
  refine lv_iload_n hx hb dX0_sumOfDifferences_7 rfl (lv_at hl 2 rfl) ?_
  have hPc := hP.sub (ws' := [(q, .inl (cA, 6, .inr (.inl f)))]) [1] rfl
  have hDc := hD.sub (ws' := [(q, .inl (cA, 6, .inr (.inl f)))]) [1] (by decide) rfl
  have hKc := hK.sub (tys' := [(cA, .long)]) [0] rfl
  refine vp_callSl ((va_runSN (As := [.ref q, .int 5]) (rest := []) ⟨hx, hb, hml, hown, hts⟩ (c_X5_at_ l dC dI q cA 5 f H.size) ⟨va_cnB 2 hts gX0_sumOfDifferences_X5_at__n19 rfl rfl rfl (hnw.2.2.2.2.2.2.1) (hts (.initialized RX5) (by decide +kernel)) (by decide +kernel) ⟨Nat.le_of_ble_eq_true rfl, Nat.le_of_ble_eq_true rfl⟩, hts (.static yX5_at_) (by decide +kernel), trivial⟩ (fx_preS hPc hKc hDc hnw) rfl rfl hl.1 rfl (lv_room (Nat.le_of_ble_eq_true rfl)) dX0_sumOfDifferences_8 ⟨(Nat.le_of_ble_eq_true rfl), (Nat.le_of_ble_eq_true rfl)⟩).run) (fun r_14 hr_14 => ?_)
  refine lv_lstore (lv' := [(8, .long r_14), (6, .long 0), (0, .ref h0), (1, .int 5), (2, .long o), (4, .long u)]) hx hb dX0_sumOfDifferences_11 hl (by decide) rfl (fun ls hl => ?_)
  refine lv_iconst (v := 1) hx hb dX0_sumOfDifferences_13 (by decide) ?_
  refine lv_istore (lv' := [(10, .int 1), (8, .long r_14), (6, .long 0), (0, .ref h0), (1, .int 5), (2, .long o), (4, .long u)]) hx hb dX0_sumOfDifferences_14 hl (by decide) rfl (fun ls hl => ?_)
  exact loop_16 11 1 0 r_14 ls (by omega) (by omega) (lv_sub hl [0, 2, 1, 3, 4, 5, 6] rfl)
set_option maxHeartbeats 4000000 in
set_option maxRecDepth 100000 in
/-- Urnwright() -/
theorem c_X5_init (l : Launch) (dC : Nat → ClassId) (dI : Nat → Nat → Nat) (h0 : Nat) (sz : Nat) : Met l yX5_init wsX5_init ({ frames := 3, cells := 14, slots := 1004, locals := 100 } : Room) (va_Pc [.ref h0] (fx_st dC dI [(h0, .inr (3, [.null, .null, .null, .null, .null, .int 0, .int 0, .int 0]))] [] sz)) (va_Qv (fun _ : Unit => True) (fun _ t => ∃ (u1 u2 u3 u4 qd q : Nat) (cA : ClassId) (f : Nat → Int64), fx_en dC dI (va_A [(h0, .inr (3, [.null, .null, .null, .null, .null, .int 0, .int 0, .int 0]))] sz) [(h0, .inr (3, [.ref u1, .ref u2, .ref u3, .ref u4, .ref qd, .int 0, .int 0, .int 0])), (qd, .inr (0, [.ref q])), (q, .inl (cA, 6, .inr (.inl f)))] [(cA, .long)] t) (va_A [(h0, .inr (3, [.null, .null, .null, .null, .null, .int 0, .int 0, .int 0]))] sz)) 14 1004 (va_A [(h0, .inr (3, [.null, .null, .null, .null, .null, .int 0, .int 0, .int 0]))] sz) := by
  refine Met.ofW (cc := cX5_init) (maxL := 1) (ret := none) (by decide) rfl ?_
  intro p e s m args below meth c s₁ B hml hv
  obtain ⟨rfl, hsz, hP, hK, hD0, hnw⟩ := hv
  have hx := B.exec
  have hb := B.bytes
  have hr := B.returns
  have hts := atoms_spec (ws := wsX5_init) B.pre
  have hown : s.vm.findClass RX5 = some m.cls := findClass_of_methodNamed B.named
  have hlocks := B.notSynchronized
  have hin : meth.name = "<init>" := (name_of_methodNamed B.named B.method).1
  subst hsz
  have hD := hD0.self (sz := s.heap.size)
  generalize hAe : va_A [(h0, .inr (3, [.null, .null, .null, .null, .null, .int 0, .int 0, .int 0]))] s.heap.size = A at hD ⊢
  have hA : ∀ q : Nat, s.heap.size ≤ q → A q := fun q h => by rw [← hAe]; exact Or.inr h
  obtain ⟨H, hHe⟩ : ∃ H, H = s.heap := ⟨_, rfl⟩
  have hS : va_S A s.heap H [] := by rw [hHe]; exact va_S.rf
  have hP : va_P (dC, dI) fxCl [(h0, .inr (3, [.null, .null, .null, .null, .null, .int 0, .int 0, .int 0]))] H := by rw [hHe]; exact hP
  refine fx_h hHe ?_
  have hl := lv_entry ([.ref h0]) (n := 1) (Nat.le_of_ble_eq_true rfl)
  rw [lg_entry_eq]
  generalize (lg_sl ([.ref h0]) ++ List.replicate (1 - (lg_sl ([.ref h0])).length) Slot.unset).toArray = ls at hl ⊢
  have hl : lv_has ls 1 [(0, .ref h0)] := hl
  refine lv_aload_n hx hb dX5_init_0 rfl (lv_at hl 0 rfl) ?_
  refine W.objInit hx hb hown (hts (.methodLink RX5 1 objectInit) (by decide +kernel)) (hts (.instanceMethod objectInit) (by decide +kernel)) (hts (.code objectInit ⟨#[0xb1]⟩ 1 none) (by decide +kernel)) rfl (by rw [hml]; exact hl.1) rfl dX5_init_1 (Nat.le_of_ble_eq_true rfl) (Nat.le_of_ble_eq_true rfl) ?_
  refine W.eq (g2 := F0 m 4 ls []) rfl ?_
  refine lv_aload_n hx hb dX5_init_4 rfl (lv_at hl 0 rfl) ?_
  refine lv_iconst (v := 4) hx hb dX5_init_5 (by decide) ?_
  refine va_newq (C := RX4) (N' := 4) hx hb hown (hts (.classLink RX5 9 RX4) (by decide +kernel)) hnw.2.2.2.2.2.2.2.2.2.2.2.1 hK hP hD hS hA (by decide) (by decide) (Nat.le_of_ble_eq_true rfl) (Nat.le_of_ble_eq_true rfl) (Nat.le_of_ble_eq_true rfl) dX5_init_6 (fun q_1 cA_2 H hK hP hD hS => ?_)
  refine W.widen (k := 1) (n := 4) (Nat.le_of_ble_eq_true rfl) (Nat.le_of_ble_eq_true rfl) ?_
  have hP : va_P (dC, dI) fxCl [(h0, .inr (3, [.null, .null, .null, .null, .null, .int 0, .int 0, .int 0])), (q_1, .inl (cA_2, 4, .inr (.inr (.inr (.inr (fun _ => none))))))] H := hP
  have hD : va_D A [(h0, .inr (3, [.null, .null, .null, .null, .null, .int 0, .int 0, .int 0])), (q_1, .inl (cA_2, 4, .inr (.inr (.inr (.inr (fun _ => none))))))] := hD
  have hK : va_K (dC, dI) fxCl [(cA_2, .object RX4)] s := hK
  refine va_putF (D := (dC, dI)) (ci := 3) (v := .ref q_1) (ty := .array (.object "Urnwright$Urn")) (C := RX5) (T := TX5) (N := 8) hx hb hts (by decide +kernel) tyX5 tyX5_ok nmX5 hown hK hP hD hS 0 rfl rfl 0 (by decide) (hts (.fieldLink RX5 11 "Urnwright" "urns" "[LUrnwright$Urn;") (by decide +kernel)) (fun _ h9 => h9) rfl hin rfl (by decide +kernel) rfl rfl (Nat.le_of_ble_eq_true rfl) dX5_init_9 (fun H locs hP hD hS => ?_)
  have hP : va_P (dC, dI) fxCl [(h0, .inr (3, [.ref q_1, .null, .null, .null, .null, .int 0, .int 0, .int 0])), (q_1, .inl (cA_2, 4, .inr (.inr (.inr (.inr (fun _ => none))))))] H := hP
  have hD : va_D A [(h0, .inr (3, [.ref q_1, .null, .null, .null, .null, .int 0, .int 0, .int 0])), (q_1, .inl (cA_2, 4, .inr (.inr (.inr (.inr (fun _ => none))))))] := hD
  refine lv_aload_n hx hb dX5_init_12 rfl (lv_at hl 0 rfl) ?_
  refine lv_iconst (v := 4) hx hb dX5_init_13 (by decide) ?_
  refine va_newq (C := RX2) (N' := 4) hx hb hown (hts (.classLink RX5 15 RX2) (by decide +kernel)) hnw.2.2.2.2.2.2.2.2.2.2.2.2 hK hP hD hS hA (by decide) (by decide) (Nat.le_of_ble_eq_true rfl) (Nat.le_of_ble_eq_true rfl) (Nat.le_of_ble_eq_true rfl) dX5_init_14 (fun q_3 cA_4 H hK hP hD hS => ?_)
  refine W.widen (k := 2) (n := 8) (Nat.le_of_ble_eq_true rfl) (Nat.le_of_ble_eq_true rfl) ?_
  have hP : va_P (dC, dI) fxCl [(h0, .inr (3, [.ref q_1, .null, .null, .null, .null, .int 0, .int 0, .int 0])), (q_1, .inl (cA_2, 4, .inr (.inr (.inr (.inr (fun _ => none)))))), (q_3, .inl (cA_4, 4, .inr (.inr (.inr (.inr (fun _ => none))))))] H := hP
  have hD : va_D A [(h0, .inr (3, [.ref q_1, .null, .null, .null, .null, .int 0, .int 0, .int 0])), (q_1, .inl (cA_2, 4, .inr (.inr (.inr (.inr (fun _ => none)))))), (q_3, .inl (cA_4, 4, .inr (.inr (.inr (.inr (fun _ => none))))))] := hD
  have hK : va_K (dC, dI) fxCl [(cA_2, .object RX4), (cA_4, .object RX2)] s := hK
  refine va_putF (D := (dC, dI)) (ci := 3) (v := .ref q_3) (ty := .array (.object "Urnwright$Row")) (C := RX5) (T := TX5) (N := 8) hx hb hts (by decide +kernel) tyX5 tyX5_ok nmX5 hown hK hP hD hS 0 rfl rfl 1 (by decide) (hts (.fieldLink RX5 17 "Urnwright" "rows" "[LUrnwright$Row;") (by decide +kernel)) (fun _ h9 => h9) rfl hin rfl (by decide +kernel) rfl rfl (Nat.le_of_ble_eq_true rfl) dX5_init_17 (fun H locs hP hD hS => ?_)
  have hP : va_P (dC, dI) fxCl [(h0, .inr (3, [.ref q_1, .ref q_3, .null, .null, .null, .int 0, .int 0, .int 0])), (q_1, .inl (cA_2, 4, .inr (.inr (.inr (.inr (fun _ => none)))))), (q_3, .inl (cA_4, 4, .inr (.inr (.inr (.inr (fun _ => none))))))] H := hP
  have hD : va_D A [(h0, .inr (3, [.ref q_1, .ref q_3, .null, .null, .null, .int 0, .int 0, .int 0])), (q_1, .inl (cA_2, 4, .inr (.inr (.inr (.inr (fun _ => none)))))), (q_3, .inl (cA_4, 4, .inr (.inr (.inr (.inr (fun _ => none))))))] := hD
  refine lv_aload_n hx hb dX5_init_20 rfl (lv_at hl 0 rfl) ?_
  refine va_new (ci := 1) (fs := [.null, .null, .null, .null, .null, .null, .int 0, .int 0, .int 0]) (C := RX1) (T := TX1) (N := 9) hx hb hts (by decide +kernel) tyX1 tyX1_ok hown (hts (.classLink RX5 21 RX1) (by decide +kernel)) (hts (.instantiable RX1 9) (by decide +kernel)) (hts (.initialized RX1) (by decide +kernel)) hK hP hD hS hA rfl (fun j hj => by rcases (show j = 0 ∨ j = 1 ∨ j = 2 ∨ j = 3 ∨ j = 4 ∨ j = 5 ∨ j = 6 ∨ j = 7 ∨ j = 8 by omega) with rfl | rfl | rfl | rfl | rfl | rfl | rfl | rfl | rfl <;> rfl) (Nat.le_of_ble_eq_true rfl) (Nat.le_of_ble_eq_true rfl) dX5_init_21 (fun q_5 H hP hD hS => ?_)
  refine W.widen (k := 3) (n := 17) (Nat.le_of_ble_eq_true rfl) (Nat.le_of_ble_eq_true rfl) ?_
  have hP : va_P (dC, dI) fxCl [(h0, .inr (3, [.ref q_1, .ref q_3, .null, .null, .null, .int 0, .int 0, .int 0])), (q_1, .inl (cA_2, 4, .inr (.inr (.inr (.inr (fun _ => none)))))), (q_3, .inl (cA_4, 4, .inr (.inr (.inr (.inr (fun _ => none)))))), (q_5, .inr (1, [.null, .null, .null, .null, .null, .null, .int 0, .int 0, .int 0]))] H := hP
  have hD : va_D A [(h0, .inr (3, [.ref q_1, .ref q_3, .null, .null, .null, .int 0, .int 0, .int 0])), (q_1, .inl (cA_2, 4, .inr (.inr (.inr (.inr (fun _ => none)))))), (q_3, .inl (cA_4, 4, .inr (.inr (.inr (.inr (fun _ => none)))))), (q_5, .inr (1, [.null, .null, .null, .null, .null, .null, .int 0, .int 0, .int 0]))] := hD
  refine lv_dup hx hb dX5_init_24 rfl ?_
  have hPc := hP.sub (ws' := [(q_5, .inr (1, [.null, .null, .null, .null, .null, .null, .int 0, .int 0, .int 0]))]) [3] rfl
  have hDc := hD.sub (ws' := [(q_5, .inr (1, [.null, .null, .null, .null, .null, .null, .int 0, .int 0, .int 0]))]) [3] (by decide) rfl
  have hKc := hK.sub (tys' := []) [] rfl
  have hFc := va_free (wc := [(q_5, .inr (1, [.null, .null, .null, .null, .null, .null, .int 0, .int 0, .int 0]))]) hD hS hA [3] rfl
  refine va_callv (va_runIN (As := []) (rest := [.ref q_5, .ref h0]) ⟨hx, hb, hml, hown, hts⟩ (c_X1_init l dC dI q_5 H.size) ⟨va_cnB 0 hts gX5_init_X1_init_n23 rfl rfl rfl (hnw.1) (hts (.initialized RX1) (by decide +kernel)) (by decide +kernel) ⟨Nat.le_of_ble_eq_true rfl, Nat.le_of_ble_eq_true rfl⟩, rfl, hts (.instanceMethod yX1_init) (by decide +kernel)⟩ (fx_preS hPc hKc hDc hnw) rfl rfl hl.1 rfl (lv_room (Nat.le_of_ble_eq_true rfl)) dX5_init_25 ⟨(Nat.le_of_ble_eq_true rfl), (Nat.le_of_ble_eq_true rfl)⟩) hS (fun q _ h => hFc q h) hFc (fun u t H1 locs ht hvm hw hB hz1 hk1 hS => ?_)
  obtain ⟨u_6, u_7, u_8, u_9, u_10, u_11, hP1, hK1, hD1⟩ := hB
  rw [ht] at hP1
  have hK1 := va_K.moved hvm.symm hK1
  obtain ⟨hP, hD⟩ := va_join (wr := [(h0, .inr (3, [.ref q_1, .ref q_3, .null, .null, .null, .int 0, .int 0, .int 0])), (q_1, .inl (cA_2, 4, .inr (.inr (.inr (.inr (fun _ => none)))))), (q_3, .inl (cA_4, 4, .inr (.inr (.inr (.inr (fun _ => none))))))]) (w1 := [(q_5, .inr (1, [.ref u_6, .ref u_7, .ref u_8, .ref u_9, .ref u_10, .ref u_11, .int 0, .int 0, .int 0]))]) hP hD [3] [0, 1, 2] rfl rfl (by decide) (by decide) hk1 hFc hP1 hD1
  have hK := (hK.sub (tys' := [(cA_2, .object RX4), (cA_4, .object RX2)]) [0, 1] rfl).app hK1
  generalize H1 = H at hP hS ⊢
  have hP : va_P (dC, dI) fxCl [(h0, .inr (3, [.ref q_1, .ref q_3, .null, .null, .null, .int 0, .int 0, .int 0])), (q_1, .inl (cA_2, 4, .inr (.inr (.inr (.inr (fun _ => none)))))), (q_3, .inl (cA_4, 4, .inr (.inr (.inr (.inr (fun _ => none)))))), (q_5, .inr (1, [.ref u_6, .ref u_7, .ref u_8, .ref u_9, .ref u_10, .ref u_11, .int 0, .int 0, .int 0]))] H := hP
  have hD : va_D A [(h0, .inr (3, [.ref q_1, .ref q_3, .null, .null, .null, .int 0, .int 0, .int 0])), (q_1, .inl (cA_2, 4, .inr (.inr (.inr (.inr (fun _ => none)))))), (q_3, .inl (cA_4, 4, .inr (.inr (.inr (.inr (fun _ => none)))))), (q_5, .inr (1, [.ref u_6, .ref u_7, .ref u_8, .ref u_9, .ref u_10, .ref u_11, .int 0, .int 0, .int 0]))] := hD
  have hK : va_K (dC, dI) fxCl [(cA_2, .object RX4), (cA_4, .object RX2)] s := hK
  refine W.widen (k := 9) (n := 985) (Nat.le_of_ble_eq_true rfl) (Nat.le_of_ble_eq_true rfl) ?_
  refine va_putF (D := (dC, dI)) (ci := 3) (v := .ref q_5) (ty := .object "Urnwright$Game") (C := RX5) (T := TX5) (N := 8) hx hb hts (by decide +kernel) tyX5 tyX5_ok nmX5 hown hK hP hD hS 0 rfl rfl 2 (by decide) (hts (.fieldLink RX5 24 "Urnwright" "game" "LUrnwright$Game;") (by decide +kernel)) (fun _ h9 => h9) rfl hin rfl (by decide +kernel) rfl rfl (Nat.le_of_ble_eq_true rfl) dX5_init_28 (fun H locs hP hD hS => ?_)
  have hP : va_P (dC, dI) fxCl [(h0, .inr (3, [.ref q_1, .ref q_3, .ref q_5, .null, .null, .int 0, .int 0, .int 0])), (q_1, .inl (cA_2, 4, .inr (.inr (.inr (.inr (fun _ => none)))))), (q_3, .inl (cA_4, 4, .inr (.inr (.inr (.inr (fun _ => none)))))), (q_5, .inr (1, [.ref u_6, .ref u_7, .ref u_8, .ref u_9, .ref u_10, .ref u_11, .int 0, .int 0, .int 0]))] H := hP
  have hD : va_D A [(h0, .inr (3, [.ref q_1, .ref q_3, .ref q_5, .null, .null, .int 0, .int 0, .int 0])), (q_1, .inl (cA_2, 4, .inr (.inr (.inr (.inr (fun _ => none)))))), (q_3, .inl (cA_4, 4, .inr (.inr (.inr (.inr (fun _ => none)))))), (q_5, .inr (1, [.ref u_6, .ref u_7, .ref u_8, .ref u_9, .ref u_10, .ref u_11, .int 0, .int 0, .int 0]))] := hD
  refine lv_aload_n hx hb dX5_init_31 rfl (lv_at hl 0 rfl) ?_
  refine va_new (ci := 2) (fs := [.null, .null]) (C := RX3) (T := TX3) (N := 2) hx hb hts (by decide +kernel) tyX3 tyX3_ok hown (hts (.classLink RX5 28 RX3) (by decide +kernel)) (hts (.instantiable RX3 2) (by decide +kernel)) (hts (.initialized RX3) (by decide +kernel)) hK hP hD hS hA rfl (fun j hj => by rcases (show j = 0 ∨ j = 1 by omega) with rfl | rfl <;> rfl) (Nat.le_of_ble_eq_true rfl) (Nat.le_of_ble_eq_true rfl) dX5_init_32 (fun q_12 H hP hD hS => ?_)
  refine W.widen (k := 10) (n := 987) (Nat.le_of_ble_eq_true rfl) (Nat.le_of_ble_eq_true rfl) ?_
  have hP : va_P (dC, dI) fxCl [(h0, .inr (3, [.ref q_1, .ref q_3, .ref q_5, .null, .null, .int 0, .int 0, .int 0])), (q_1, .inl (cA_2, 4, .inr (.inr (.inr (.inr (fun _ => none)))))), (q_3, .inl (cA_4, 4, .inr (.inr (.inr (.inr (fun _ => none)))))), (q_5, .inr (1, [.ref u_6, .ref u_7, .ref u_8, .ref u_9, .ref u_10, .ref u_11, .int 0, .int 0, .int 0])), (q_12, .inr (2, [.null, .null]))] H := hP
  have hD : va_D A [(h0, .inr (3, [.ref q_1, .ref q_3, .ref q_5, .null, .null, .int 0, .int 0, .int 0])), (q_1, .inl (cA_2, 4, .inr (.inr (.inr (.inr (fun _ => none)))))), (q_3, .inl (cA_4, 4, .inr (.inr (.inr (.inr (fun _ => none)))))), (q_5, .inr (1, [.ref u_6, .ref u_7, .ref u_8, .ref u_9, .ref u_10, .ref u_11, .int 0, .int 0, .int 0])), (q_12, .inr (2, [.null, .null]))] := hD
  refine lv_dup hx hb dX5_init_35 rfl ?_
  have hPc := hP.sub (ws' := [(q_12, .inr (2, [.null, .null]))]) [4] rfl
  have hDc := hD.sub (ws' := [(q_12, .inr (2, [.null, .null]))]) [4] (by decide) rfl
  have hKc := hK.sub (tys' := []) [] rfl
  have hFc := va_free (wc := [(q_12, .inr (2, [.null, .null]))]) hD hS hA [4] rfl
  refine va_callv (va_runIN (As := []) (rest := [.ref q_12, .ref h0]) ⟨hx, hb, hml, hown, hts⟩ (c_X3_init l dC dI q_12 H.size) ⟨va_cnB 0 hts gX5_init_X3_init_n30 rfl rfl rfl (hnw.2.1) (hts (.initialized RX3) (by decide +kernel)) (by decide +kernel) ⟨Nat.le_of_ble_eq_true rfl, Nat.le_of_ble_eq_true rfl⟩, rfl, hts (.instanceMethod yX3_init) (by decide +kernel)⟩ (fx_preS hPc hKc hDc hnw) rfl rfl hl.1 rfl (lv_room (Nat.le_of_ble_eq_true rfl)) dX5_init_36 ⟨(Nat.le_of_ble_eq_true rfl), (Nat.le_of_ble_eq_true rfl)⟩) hS (fun q _ h => hFc q h) hFc (fun u t H1 locs ht hvm hw hB hz1 hk1 hS => ?_)
  obtain ⟨u_13, u_14, hP1, hK1, hD1⟩ := hB
  rw [ht] at hP1
  have hK1 := va_K.moved hvm.symm hK1
  obtain ⟨hP, hD⟩ := va_join (wr := [(h0, .inr (3, [.ref q_1, .ref q_3, .ref q_5, .null, .null, .int 0, .int 0, .int 0])), (q_1, .inl (cA_2, 4, .inr (.inr (.inr (.inr (fun _ => none)))))), (q_3, .inl (cA_4, 4, .inr (.inr (.inr (.inr (fun _ => none)))))), (q_5, .inr (1, [.ref u_6, .ref u_7, .ref u_8, .ref u_9, .ref u_10, .ref u_11, .int 0, .int 0, .int 0]))]) (w1 := [(q_12, .inr (2, [.ref u_13, .ref u_14]))]) hP hD [4] [0, 1, 2, 3] rfl rfl (by decide) (by decide) hk1 hFc hP1 hD1
  have hK := (hK.sub (tys' := [(cA_2, .object RX4), (cA_4, .object RX2)]) [0, 1] rfl).app hK1
  generalize H1 = H at hP hS ⊢
  have hP : va_P (dC, dI) fxCl [(h0, .inr (3, [.ref q_1, .ref q_3, .ref q_5, .null, .null, .int 0, .int 0, .int 0])), (q_1, .inl (cA_2, 4, .inr (.inr (.inr (.inr (fun _ => none)))))), (q_3, .inl (cA_4, 4, .inr (.inr (.inr (.inr (fun _ => none)))))), (q_5, .inr (1, [.ref u_6, .ref u_7, .ref u_8, .ref u_9, .ref u_10, .ref u_11, .int 0, .int 0, .int 0])), (q_12, .inr (2, [.ref u_13, .ref u_14]))] H := hP
  have hD : va_D A [(h0, .inr (3, [.ref q_1, .ref q_3, .ref q_5, .null, .null, .int 0, .int 0, .int 0])), (q_1, .inl (cA_2, 4, .inr (.inr (.inr (.inr (fun _ => none)))))), (q_3, .inl (cA_4, 4, .inr (.inr (.inr (.inr (fun _ => none)))))), (q_5, .inr (1, [.ref u_6, .ref u_7, .ref u_8, .ref u_9, .ref u_10, .ref u_11, .int 0, .int 0, .int 0])), (q_12, .inr (2, [.ref u_13, .ref u_14]))] := hD
  have hK : va_K (dC, dI) fxCl [(cA_2, .object RX4), (cA_4, .object RX2)] s := hK
  refine W.widen (k := 12) (n := 997) (Nat.le_of_ble_eq_true rfl) (Nat.le_of_ble_eq_true rfl) ?_
  refine va_putF (D := (dC, dI)) (ci := 3) (v := .ref q_12) (ty := .object "Urnwright$Sides") (C := RX5) (T := TX5) (N := 8) hx hb hts (by decide +kernel) tyX5 tyX5_ok nmX5 hown hK hP hD hS 0 rfl rfl 3 (by decide) (hts (.fieldLink RX5 31 "Urnwright" "sides" "LUrnwright$Sides;") (by decide +kernel)) (fun _ h9 => h9) rfl hin rfl (by decide +kernel) rfl rfl (Nat.le_of_ble_eq_true rfl) dX5_init_39 (fun H locs hP hD hS => ?_)
  have hP : va_P (dC, dI) fxCl [(h0, .inr (3, [.ref q_1, .ref q_3, .ref q_5, .ref q_12, .null, .int 0, .int 0, .int 0])), (q_1, .inl (cA_2, 4, .inr (.inr (.inr (.inr (fun _ => none)))))), (q_3, .inl (cA_4, 4, .inr (.inr (.inr (.inr (fun _ => none)))))), (q_5, .inr (1, [.ref u_6, .ref u_7, .ref u_8, .ref u_9, .ref u_10, .ref u_11, .int 0, .int 0, .int 0])), (q_12, .inr (2, [.ref u_13, .ref u_14]))] H := hP
  have hD : va_D A [(h0, .inr (3, [.ref q_1, .ref q_3, .ref q_5, .ref q_12, .null, .int 0, .int 0, .int 0])), (q_1, .inl (cA_2, 4, .inr (.inr (.inr (.inr (fun _ => none)))))), (q_3, .inl (cA_4, 4, .inr (.inr (.inr (.inr (fun _ => none)))))), (q_5, .inr (1, [.ref u_6, .ref u_7, .ref u_8, .ref u_9, .ref u_10, .ref u_11, .int 0, .int 0, .int 0])), (q_12, .inr (2, [.ref u_13, .ref u_14]))] := hD
  refine lv_aload_n hx hb dX5_init_42 rfl (lv_at hl 0 rfl) ?_
  refine va_new (ci := 0) (fs := [.null]) (C := RX0) (T := TX0) (N := 1) hx hb hts (by decide +kernel) tyX0 tyX0_ok hown (hts (.classLink RX5 35 RX0) (by decide +kernel)) (hts (.instantiable RX0 1) (by decide +kernel)) (hts (.initialized RX0) (by decide +kernel)) hK hP hD hS hA rfl (fun j hj => by rcases (show j = 0 by omega) with rfl <;> rfl) (Nat.le_of_ble_eq_true rfl) (Nat.le_of_ble_eq_true rfl) dX5_init_43 (fun q_15 H hP hD hS => ?_)
  refine W.widen (k := 13) (n := 998) (Nat.le_of_ble_eq_true rfl) (Nat.le_of_ble_eq_true rfl) ?_
  have hP : va_P (dC, dI) fxCl [(h0, .inr (3, [.ref q_1, .ref q_3, .ref q_5, .ref q_12, .null, .int 0, .int 0, .int 0])), (q_1, .inl (cA_2, 4, .inr (.inr (.inr (.inr (fun _ => none)))))), (q_3, .inl (cA_4, 4, .inr (.inr (.inr (.inr (fun _ => none)))))), (q_5, .inr (1, [.ref u_6, .ref u_7, .ref u_8, .ref u_9, .ref u_10, .ref u_11, .int 0, .int 0, .int 0])), (q_12, .inr (2, [.ref u_13, .ref u_14])), (q_15, .inr (0, [.null]))] H := hP
  have hD : va_D A [(h0, .inr (3, [.ref q_1, .ref q_3, .ref q_5, .ref q_12, .null, .int 0, .int 0, .int 0])), (q_1, .inl (cA_2, 4, .inr (.inr (.inr (.inr (fun _ => none)))))), (q_3, .inl (cA_4, 4, .inr (.inr (.inr (.inr (fun _ => none)))))), (q_5, .inr (1, [.ref u_6, .ref u_7, .ref u_8, .ref u_9, .ref u_10, .ref u_11, .int 0, .int 0, .int 0])), (q_12, .inr (2, [.ref u_13, .ref u_14])), (q_15, .inr (0, [.null]))] := hD
  refine lv_dup hx hb dX5_init_46 rfl ?_
  have hPc := hP.sub (ws' := [(q_15, .inr (0, [.null]))]) [5] rfl
  have hDc := hD.sub (ws' := [(q_15, .inr (0, [.null]))]) [5] (by decide) rfl
  have hKc := hK.sub (tys' := []) [] rfl
  have hFc := va_free (wc := [(q_15, .inr (0, [.null]))]) hD hS hA [5] rfl
  refine va_callv (va_runIN (As := []) (rest := [.ref q_15, .ref h0]) ⟨hx, hb, hml, hown, hts⟩ (c_X0_init l dC dI q_15 H.size) ⟨va_cnB 0 hts gX5_init_X0_init_n37 rfl rfl rfl (hnw.2.2.1) (hts (.initialized RX0) (by decide +kernel)) (by decide +kernel) ⟨Nat.le_of_ble_eq_true rfl, Nat.le_of_ble_eq_true rfl⟩, rfl, hts (.instanceMethod yX0_init) (by decide +kernel)⟩ (fx_preS hPc hKc hDc hnw) rfl rfl hl.1 rfl (lv_room (Nat.le_of_ble_eq_true rfl)) dX5_init_47 ⟨(Nat.le_of_ble_eq_true rfl), (Nat.le_of_ble_eq_true rfl)⟩) hS (fun q _ h => hFc q h) hFc (fun u t H1 locs ht hvm hw hB hz1 hk1 hS => ?_)
  obtain ⟨q_16, cA_17, f_18, hP1, hK1, hD1⟩ := hB
  rw [ht] at hP1
  have hK1 := va_K.moved hvm.symm hK1
  obtain ⟨hP, hD⟩ := va_join (wr := [(h0, .inr (3, [.ref q_1, .ref q_3, .ref q_5, .ref q_12, .null, .int 0, .int 0, .int 0])), (q_1, .inl (cA_2, 4, .inr (.inr (.inr (.inr (fun _ => none)))))), (q_3, .inl (cA_4, 4, .inr (.inr (.inr (.inr (fun _ => none)))))), (q_5, .inr (1, [.ref u_6, .ref u_7, .ref u_8, .ref u_9, .ref u_10, .ref u_11, .int 0, .int 0, .int 0])), (q_12, .inr (2, [.ref u_13, .ref u_14]))]) (w1 := [(q_15, .inr (0, [.ref q_16])), (q_16, .inl (cA_17, 6, .inr (.inl f_18)))]) hP hD [5] [0, 1, 2, 3, 4] rfl rfl (by decide) (by decide) hk1 hFc hP1 hD1
  have hK := (hK.sub (tys' := [(cA_2, .object RX4), (cA_4, .object RX2)]) [0, 1] rfl).app hK1
  generalize H1 = H at hP hS ⊢
  have hP : va_P (dC, dI) fxCl [(h0, .inr (3, [.ref q_1, .ref q_3, .ref q_5, .ref q_12, .null, .int 0, .int 0, .int 0])), (q_1, .inl (cA_2, 4, .inr (.inr (.inr (.inr (fun _ => none)))))), (q_3, .inl (cA_4, 4, .inr (.inr (.inr (.inr (fun _ => none)))))), (q_5, .inr (1, [.ref u_6, .ref u_7, .ref u_8, .ref u_9, .ref u_10, .ref u_11, .int 0, .int 0, .int 0])), (q_12, .inr (2, [.ref u_13, .ref u_14])), (q_15, .inr (0, [.ref q_16])), (q_16, .inl (cA_17, 6, .inr (.inl f_18)))] H := hP
  have hD : va_D A [(h0, .inr (3, [.ref q_1, .ref q_3, .ref q_5, .ref q_12, .null, .int 0, .int 0, .int 0])), (q_1, .inl (cA_2, 4, .inr (.inr (.inr (.inr (fun _ => none)))))), (q_3, .inl (cA_4, 4, .inr (.inr (.inr (.inr (fun _ => none)))))), (q_5, .inr (1, [.ref u_6, .ref u_7, .ref u_8, .ref u_9, .ref u_10, .ref u_11, .int 0, .int 0, .int 0])), (q_12, .inr (2, [.ref u_13, .ref u_14])), (q_15, .inr (0, [.ref q_16])), (q_16, .inl (cA_17, 6, .inr (.inl f_18)))] := hD
  have hK : va_K (dC, dI) fxCl [(cA_2, .object RX4), (cA_4, .object RX2), (cA_17, .long)] s := hK
  refine W.widen (k := 14) (n := 1004) (Nat.le_of_ble_eq_true rfl) (Nat.le_of_ble_eq_true rfl) ?_
  refine va_putF (D := (dC, dI)) (ci := 3) (v := .ref q_15) (ty := .object "Urnwright$Deck") (C := RX5) (T := TX5) (N := 8) hx hb hts (by decide +kernel) tyX5 tyX5_ok nmX5 hown hK hP hD hS 0 rfl rfl 4 (by decide) (hts (.fieldLink RX5 38 "Urnwright" "deck" "LUrnwright$Deck;") (by decide +kernel)) (fun _ h9 => h9) rfl hin rfl (by decide +kernel) rfl rfl (Nat.le_of_ble_eq_true rfl) dX5_init_50 (fun H locs hP hD hS => ?_)
  have hP : va_P (dC, dI) fxCl [(h0, .inr (3, [.ref q_1, .ref q_3, .ref q_5, .ref q_12, .ref q_15, .int 0, .int 0, .int 0])), (q_1, .inl (cA_2, 4, .inr (.inr (.inr (.inr (fun _ => none)))))), (q_3, .inl (cA_4, 4, .inr (.inr (.inr (.inr (fun _ => none)))))), (q_5, .inr (1, [.ref u_6, .ref u_7, .ref u_8, .ref u_9, .ref u_10, .ref u_11, .int 0, .int 0, .int 0])), (q_12, .inr (2, [.ref u_13, .ref u_14])), (q_15, .inr (0, [.ref q_16])), (q_16, .inl (cA_17, 6, .inr (.inl f_18)))] H := hP
  have hD : va_D A [(h0, .inr (3, [.ref q_1, .ref q_3, .ref q_5, .ref q_12, .ref q_15, .int 0, .int 0, .int 0])), (q_1, .inl (cA_2, 4, .inr (.inr (.inr (.inr (fun _ => none)))))), (q_3, .inl (cA_4, 4, .inr (.inr (.inr (.inr (fun _ => none)))))), (q_5, .inr (1, [.ref u_6, .ref u_7, .ref u_8, .ref u_9, .ref u_10, .ref u_11, .int 0, .int 0, .int 0])), (q_12, .inr (2, [.ref u_13, .ref u_14])), (q_15, .inr (0, [.ref q_16])), (q_16, .inl (cA_17, 6, .inr (.inl f_18)))] := hD
  have hP9 := hP.sub (ws' := [(h0, .inr (3, [.ref q_1, .ref q_3, .ref q_5, .ref q_12, .ref q_15, .int 0, .int 0, .int 0])), (q_15, .inr (0, [.ref q_16])), (q_16, .inl (cA_17, 6, .inr (.inl f_18)))]) [0, 5, 6] rfl
  have hD9 := hD.sub (ws' := [(h0, .inr (3, [.ref q_1, .ref q_3, .ref q_5, .ref q_12, .ref q_15, .int 0, .int 0, .int 0])), (q_15, .inr (0, [.ref q_16])), (q_16, .inl (cA_17, 6, .inr (.inl f_18)))]) [0, 5, 6] (by decide) rfl
  have hK9 := hK.sub (tys' := [(cA_17, .long)]) [2] rfl
  refine W.widen (k := 14) (n := 1004) (Nat.le_of_ble_eq_true rfl) (Nat.le_of_ble_eq_true rfl) ?_
  exact W.vret hx hb hr (fun t ht hW => ⟨⟨(), rfl, trivial, q_1, q_3, q_5, q_12, q_15, q_16, cA_17, f_18, by rw [ht]; exact hP9, va_K.moved hW.alike hK9, hD9⟩, hS.F ht⟩) hS.2.2 dX5_init_53
set_option maxHeartbeats 4000000 in
set_option maxRecDepth 100000 in
/-- far(5, 7, z) of the class -/
theorem c_X5_far (l : Launch) (dC : Nat → ClassId) (dI : Nat → Nat → Nat) (h0 qd q u1 u2 u3 u4 : Nat) (k1 k2 k3 z : Int32) (cA : ClassId) (f : Nat → Int64) (sz : Nat) : Met l yX5_far wsX5_far ({ frames := 4, cells := 0, slots := 0, locals := 120 } : Room) (va_Pc [.ref h0, .int 5, .int 7, .int z] (fx_st dC dI [(h0, .inr (3, [.ref u1, .ref u2, .ref u3, .ref u4, .ref qd, .int k1, .int k2, .int k3])), (qd, .inr (0, [.ref q])), (q, .inl (cA, 6, .inr (.inl f)))] [(cA, .long)] sz)) (va_Ql (fun (_ : Int64) (_ : Unit) => True) (fun _ t => ∃ g : Nat → Int64, fx_en dC dI (va_A [(h0, .inr (3, [.ref u1, .ref u2, .ref u3, .ref u4, .ref qd, .int k1, .int k2, .int k3])), (qd, .inr (0, [.ref q])), (q, .inl (cA, 6, .inr (.inl f)))] sz) [(h0, .inr (3, [.ref u1, .ref u2, .ref u3, .ref u4, .ref qd, .int k1, .int k2, .int k3])), (qd, .inr (0, [.ref q])), (q, .inl (cA, 6, .inr (.inl g)))] [(cA, .long)] t) (va_A [(h0, .inr (3, [.ref u1, .ref u2, .ref u3, .ref u4, .ref qd, .int k1, .int k2, .int k3])), (qd, .inr (0, [.ref q])), (q, .inl (cA, 6, .inr (.inl f)))] sz)) 0 0 (va_A [(h0, .inr (3, [.ref u1, .ref u2, .ref u3, .ref u4, .ref qd, .int k1, .int k2, .int k3])), (qd, .inr (0, [.ref q])), (q, .inl (cA, 6, .inr (.inl f)))] sz) := by
  refine Met.ofW (cc := cX5_far) (maxL := 8) (ret := (some .long)) (by decide) rfl ?_
  intro p e s m args below meth c s₁ B hml hv
  obtain ⟨rfl, hsz, hP, hK, hD0, hnw⟩ := hv
  have hx := B.exec
  have hb := B.bytes
  have hr := B.returns
  have hts := atoms_spec (ws := wsX5_far) B.pre
  have hown : s.vm.findClass RX5 = some m.cls := findClass_of_methodNamed B.named
  have hlocks := B.notSynchronized
  subst hsz
  have hD := hD0.self (sz := s.heap.size)
  generalize hAe : va_A [(h0, .inr (3, [.ref u1, .ref u2, .ref u3, .ref u4, .ref qd, .int k1, .int k2, .int k3])), (qd, .inr (0, [.ref q])), (q, .inl (cA, 6, .inr (.inl f)))] s.heap.size = A at hD ⊢
  have hA : ∀ q : Nat, s.heap.size ≤ q → A q := fun q h => by rw [← hAe]; exact Or.inr h
  obtain ⟨H, hHe⟩ : ∃ H, H = s.heap := ⟨_, rfl⟩
  have hS : va_S A s.heap H [] := by rw [hHe]; exact va_S.rf
  have hP : va_P (dC, dI) fxCl [(h0, .inr (3, [.ref u1, .ref u2, .ref u3, .ref u4, .ref qd, .int k1, .int k2, .int k3])), (qd, .inr (0, [.ref q])), (q, .inl (cA, 6, .inr (.inl f)))] H := by rw [hHe]; exact hP
  refine fx_h hHe ?_
  have hl := lv_entry ([.ref h0, .int 5, .int 7, .int z]) (n := 8) (Nat.le_of_ble_eq_true rfl)
  rw [lg_entry_eq]
  generalize (lg_sl ([.ref h0, .int 5, .int 7, .int z]) ++ List.replicate (8 - (lg_sl ([.ref h0, .int 5, .int 7, .int z])).length) Slot.unset).toArray = ls at hl ⊢
  have hl : lv_has ls 8 [(0, .ref h0), (1, .int 5), (2, .int 7), (3, .int z)] := hl
  refine lv_iload_n hx hb dX5_far_0 rfl (lv_at hl 1 rfl) ?_
  refine lv_iconst (v := 1) hx hb dX5_far_1 (by decide) ?_
  refine lv_iconst (v := 5) hx hb dX5_far_2 (by decide) ?_
  refine vp_callSi (W.runS (As := [.int 5, .int 1, .int 5]) (rest := []) ⟨hx, hb, hml, hown, hts⟩ (c_X5_isWithin l 5 1 5) (va_cwS 3 hts gX5_far_X5_isWithin rfl rfl rfl (by decide +kernel) ⟨Nat.le_of_ble_eq_true rfl, Nat.le_of_ble_eq_true rfl⟩) preEq rfl rfl hl.1 rfl (lv_room (Nat.le_of_ble_eq_true rfl)) dX5_far_3 ⟨Nat.le_of_ble_eq_true rfl, Nat.le_of_ble_eq_true rfl⟩) (fun r_1 hr_1 => ?_)
  obtain rfl : r_1 = (1 : Int32) := hr_1 (by decide) (by decide)
  refine lv_if_eq (tgt := 19) hx hb dX5_far_6 (by decide) (fun c => absurd c (by decide)) (fun _ => ?_)
  refine lv_iload_n hx hb dX5_far_9 rfl (lv_at hl 2 rfl) ?_
  refine lv_iconst (v := 0) hx hb dX5_far_10 (by decide) ?_
  refine lv_bipush (v := 7) hx hb dX5_far_11 (by decide) ?_
  refine vp_callSi (W.runS (As := [.int 7, .int 0, .int 7]) (rest := []) ⟨hx, hb, hml, hown, hts⟩ (c_X5_isWithin l 7 0 7) (va_cwS 3 hts gX5_far_X5_isWithin rfl rfl rfl (by decide +kernel) ⟨Nat.le_of_ble_eq_true rfl, Nat.le_of_ble_eq_true rfl⟩) preEq rfl rfl hl.1 rfl (lv_room (Nat.le_of_ble_eq_true rfl)) dX5_far_13 ⟨Nat.le_of_ble_eq_true rfl, Nat.le_of_ble_eq_true rfl⟩) (fun r_2 hr_2 => ?_)
  obtain rfl : r_2 = (1 : Int32) := hr_2 (by decide) (by decide)
  refine lv_if_ne (tgt := 29) hx hb dX5_far_16 (by decide) (fun _ => ?_) (fun c => absurd c (by decide))
  refine lv_iload_n hx hb dX5_far_29 rfl (lv_at hl 1 rfl) ?_
  refine vp_callSl (W.runS (As := [.int 5]) (rest := []) ⟨hx, hb, hml, hown, hts⟩ (c_X5_factorial l ) (va_cwS 1 hts gX5_far_X5_factorial rfl rfl rfl (by decide +kernel) ⟨Nat.le_of_ble_eq_true rfl, Nat.le_of_ble_eq_true rfl⟩) preEq rfl rfl hl.1 rfl (lv_room (Nat.le_of_ble_eq_true rfl)) dX5_far_30 ⟨Nat.le_of_ble_eq_true rfl, Nat.le_of_ble_eq_true rfl⟩) (fun r_3 hr_3 => ?_)
  obtain rfl : r_3 = (120 : Int64) := hr_3
  refine lv_lstore (lv' := [(4, .long 120), (0, .ref h0), (1, .int 5), (2, .int 7), (3, .int z)]) hx hb dX5_far_33 hl (by decide) rfl (fun ls hl => ?_)
  refine lv_iload_n hx hb dX5_far_35 rfl (lv_at hl 2 rfl) ?_
  refine lv_iload_n hx hb dX5_far_36 rfl (lv_at hl 3 rfl) ?_
  refine vp_callSl (W.runS (As := [.int 5, .int 7]) (rest := []) ⟨hx, hb, hml, hown, hts⟩ (c_X5_power l ) (va_cwS 2 hts gX5_far_X5_power rfl rfl rfl (by decide +kernel) ⟨Nat.le_of_ble_eq_true rfl, Nat.le_of_ble_eq_true rfl⟩) preEq rfl rfl hl.1 rfl (lv_room (Nat.le_of_ble_eq_true rfl)) dX5_far_37 ⟨Nat.le_of_ble_eq_true rfl, Nat.le_of_ble_eq_true rfl⟩) (fun r_4 hr_4 => ?_)
  obtain rfl : r_4 = (78125 : Int64) := hr_4
  refine lv_lstore (lv' := [(6, .long 78125), (4, .long 120), (0, .ref h0), (1, .int 5), (2, .int 7), (3, .int z)]) hx hb dX5_far_40 hl (by decide) rfl (fun ls hl => ?_)
  refine lv_aload_n hx hb dX5_far_42 rfl (lv_at hl 2 rfl) ?_
  refine va_get (D := (dC, dI)) (ci := 3) (v := .ref qd) (C := RX5) (T := TX5) (N := 8) hx hb hts (by decide +kernel) hown hK hP 0 rfl rfl 4 (by decide) (hts (.fieldLink RX5 38 "Urnwright" "deck" "LUrnwright$Deck;") (by decide +kernel)) (fun _ h9 => h9) rfl dX5_far_43 ?_
  refine lv_iload_n hx hb dX5_far_46 rfl (lv_at hl 3 rfl) ?_
  refine lv_iload_n hx hb dX5_far_47 rfl (lv_at hl 4 rfl) ?_
  have hPc := hP.sub (ws' := [(qd, .inr (0, [.ref q])), (q, .inl (cA, 6, .inr (.inl f)))]) [1, 2] rfl
  have hDc := hD.sub (ws' := [(qd, .inr (0, [.ref q])), (q, .inl (cA, 6, .inr (.inl f)))]) [1, 2] (by decide) rfl
  have hKc := hK.sub (tys' := [(cA, .long)]) [0] rfl
  have hFc := va_free (wc := [(qd, .inr (0, [.ref q])), (q, .inl (cA, 6, .inr (.inl f)))]) hD hS hA [1, 2] rfl
  refine va_callv (va_runVN (As := [.int 5, .int 7]) (rest := []) ⟨hx, hb, hml, hown, hts⟩ (c_X0_shuffle l dC dI qd q cA f H.size) ⟨va_cnB 2 hts gX5_far_X0_shuffle_n251 rfl rfl rfl (hnw.2.2.2.1) (hts (.initialized RX0) (by decide +kernel)) (by decide +kernel) ⟨Nat.le_of_ble_eq_true rfl, Nat.le_of_ble_eq_true rfl⟩, hts (.instanceMethod yX0_shuffle) (by decide +kernel), hts (.selects RX0 yX0_shuffle yX0_shuffle) (by decide +kernel)⟩ (fx_preV hPc hKc hDc hnw rfl rfl) rfl rfl hl.1 rfl (lv_room (Nat.le_of_ble_eq_true rfl)) dX5_far_48 ⟨(Nat.le_of_ble_eq_true rfl), (Nat.le_of_ble_eq_true rfl)⟩) hS (fun q _ h => hFc q h) hFc (fun u t H1 locs ht hvm hw hB hz1 hk1 hS => ?_)
  obtain ⟨f_5, hP1, hK1, hD1⟩ := hB
  rw [ht] at hP1
  have hK1 := va_K.moved hvm.symm hK1
  obtain ⟨hP, hD⟩ := va_join (wr := [(h0, .inr (3, [.ref u1, .ref u2, .ref u3, .ref u4, .ref qd, .int k1, .int k2, .int k3]))]) (w1 := [(qd, .inr (0, [.ref q])), (q, .inl (cA, 6, .inr (.inl f_5)))]) hP hD [1, 2] [0] rfl rfl (by decide) (by decide) hk1 hFc hP1 hD1
  have hK := (hK.sub (tys' := []) [] rfl).app hK1
  generalize H1 = H at hP hS ⊢
  have hP : va_P (dC, dI) fxCl [(h0, .inr (3, [.ref u1, .ref u2, .ref u3, .ref u4, .ref qd, .int k1, .int k2, .int k3])), (qd, .inr (0, [.ref q])), (q, .inl (cA, 6, .inr (.inl f_5)))] H := hP
  have hD : va_D A [(h0, .inr (3, [.ref u1, .ref u2, .ref u3, .ref u4, .ref qd, .int k1, .int k2, .int k3])), (qd, .inr (0, [.ref q])), (q, .inl (cA, 6, .inr (.inl f_5)))] := hD
  have hK : va_K (dC, dI) fxCl [(cA, .long)] s := hK
  refine lv_aload_n hx hb dX5_far_51 rfl (lv_at hl 2 rfl) ?_
  refine va_get (D := (dC, dI)) (ci := 3) (v := .ref qd) (C := RX5) (T := TX5) (N := 8) hx hb hts (by decide +kernel) hown hK hP 0 rfl rfl 4 (by decide) (hts (.fieldLink RX5 38 "Urnwright" "deck" "LUrnwright$Deck;") (by decide +kernel)) (fun _ h9 => h9) rfl dX5_far_52 ?_
  refine lv_iload_n hx hb dX5_far_55 rfl (lv_at hl 3 rfl) ?_
  refine lv_lload hx hb dX5_far_56 (lv_at hl 1 rfl) ?_
  refine lv_lload hx hb dX5_far_58 (lv_at hl 0 rfl) ?_
  have hPc := hP.sub (ws' := [(qd, .inr (0, [.ref q])), (q, .inl (cA, 6, .inr (.inl f_5)))]) [1, 2] rfl
  have hDc := hD.sub (ws' := [(qd, .inr (0, [.ref q])), (q, .inl (cA, 6, .inr (.inl f_5)))]) [1, 2] (by decide) rfl
  have hKc := hK.sub (tys' := [(cA, .long)]) [0] rfl
  refine vp_callSl ((va_runVN (As := [.int 5, .long 120, .long 78125]) (rest := []) ⟨hx, hb, hml, hown, hts⟩ (c_X0_sumOfDifferences l dC dI qd q cA f_5 120 78125 H.size) ⟨va_cnB 3 hts gX5_far_X0_sumOfDifferences_n255 rfl rfl rfl (hnw.2.2.2.2.1) (hts (.initialized RX0) (by decide +kernel)) (by decide +kernel) ⟨Nat.le_of_ble_eq_true rfl, Nat.le_of_ble_eq_true rfl⟩, hts (.instanceMethod yX0_sumOfDifferences) (by decide +kernel), hts (.selects RX0 yX0_sumOfDifferences yX0_sumOfDifferences) (by decide +kernel)⟩ (fx_preV hPc hKc hDc hnw rfl rfl) rfl rfl hl.1 rfl (lv_room (Nat.le_of_ble_eq_true rfl)) dX5_far_60 ⟨(Nat.le_of_ble_eq_true rfl), (Nat.le_of_ble_eq_true rfl)⟩).run) (fun r_6 hr_6 => ?_)
  refine lv_ldc2 (v := 2) hx hb hown (hts (.constantLong RX5 229 (2)) (by decide +kernel)) dX5_far_63 ?_
  refine lv_lload hx hb dX5_far_66 (lv_at hl 1 rfl) ?_
  refine lv_lmul hx hb dX5_far_68 ?_
  refine lv_topl (fun x_7 ex_7 => ?_)
  obtain rfl : x_7 = (240 : Int64) := ex_7.trans (by decide)
  refine lv_lload hx hb dX5_far_69 (lv_at hl 0 rfl) ?_
  refine lv_lmul hx hb dX5_far_71 ?_
  refine lv_topl (fun x_8 ex_8 => ?_)
  obtain rfl : x_8 = (18750000 : Int64) := ex_8.trans (by decide)
  refine lv_iload_n hx hb dX5_far_72 rfl (lv_at hl 5 rfl) ?_
  refine vp_callSl (W.runS (As := [.long r_6, .long 18750000, .int z]) (rest := []) ⟨hx, hb, hml, hown, hts⟩ (c_X5_part l r_6 18750000 z) (va_cwS 3 hts gX5_far_X5_part rfl rfl rfl (by decide +kernel) ⟨Nat.le_of_ble_eq_true rfl, Nat.le_of_ble_eq_true rfl⟩) preEq rfl rfl hl.1 rfl (lv_room (Nat.le_of_ble_eq_true rfl)) dX5_far_73 ⟨Nat.le_of_ble_eq_true rfl, Nat.le_of_ble_eq_true rfl⟩) (fun r_9 hr_9 => ?_)
  have hP9 := hP.sub (ws' := [(h0, .inr (3, [.ref u1, .ref u2, .ref u3, .ref u4, .ref qd, .int k1, .int k2, .int k3])), (qd, .inr (0, [.ref q])), (q, .inl (cA, 6, .inr (.inl f_5)))]) [0, 1, 2] rfl
  have hD9 := hD.sub (ws' := [(h0, .inr (3, [.ref u1, .ref u2, .ref u3, .ref u4, .ref qd, .int k1, .int k2, .int k3])), (qd, .inr (0, [.ref q])), (q, .inl (cA, 6, .inr (.inl f_5)))]) [0, 1, 2] (by decide) rfl
  have hK9 := hK.sub (tys' := [(cA, .long)]) [0] rfl
  exact W.lret (v := r_9) hx hb hr (fun t ht hW => ⟨⟨r_9, (), rfl, trivial, f_5, by rw [ht]; exact hP9, va_K.moved hW.alike hK9, hD9⟩, hS.F ht⟩) hS.2.2 dX5_far_76
end
section
/-- a start that knows ArrayList's static, too -/
def fx_stZ (v : Value) (dC : Nat → ClassId) (dI : Nat → Nat → Nat) (ws : va_W) (tys : List (ClassId × FieldType)) (sz : Nat) (U : State) : Prop := fx_st dC dI ws tys sz U ∧ va_Z "java/util/ArrayList" "DEFAULTCAPACITY_EMPTY_ELEMENTDATA" "[Ljava/lang/Object;" v (va_A ws sz) U U.heap
theorem fx_preZ {v : Value} {dC : Nat → ClassId} {dI : Nat → Nat → Nat} {wc : va_W} {tys : List (ClassId × FieldType)} {s : State} {H H0 : Heap} {locs : List Loc} {A : Nat → Prop} {As : List Value} (hP : va_P (dC, dI) fxCl wc H) (hK : va_K (dC, dI) fxCl tys s) (hD : va_D A wc) (hnw : fx_nw s) (hZ : va_Z "java/util/ArrayList" "DEFAULTCAPACITY_EMPTY_ELEMENTDATA" "[Ljava/lang/Object;" v A s H0) (hS : va_S A H0 H locs) (hF : ∀ q, va_A wc H.size q → A q) : PreS s H (va_Pc As (fx_stZ v dC dI wc tys H.size)) As :=
  ⟨fun a U g mk q => by
    obtain ⟨q0, q1, q2⟩ := q
    exact ⟨q0, (fx_blind (As := As) a U g mk ⟨q0, q1⟩).2, va_Z.moved (u := U) (U := U.calling g mk a) (Vm.Alike.refl U.vm) q2⟩,
   fun U hU hW => ⟨rfl, ((fx_preS (As := As) hP hK hD hnw).2 U hU hW).2, by
    rw [hU]
    exact va_Z.moved hW.alike ((hZ.kept (fun a h1 h2 => hS.2.1 a h1 h2)).narrow hF)⟩⟩
/-- cells of 3125 slots, apart, from sz on -/
def fx_big (sz : Nat) (H : Heap) (L : List Nat) : Prop := L.Nodup ∧ ∀ q ∈ L, sz ≤ q ∧ ∃ cell : Cell, H[q]? = some cell ∧ cell.slots.size = 3125
theorem fx_bigof {dC : Nat → ClassId} {dI : Nat → Nat → Nat} {A : Nat → Prop} {h0 sz : Nat} {e0 e1 : va_E} {rest : va_W} {H : Heap} (hAe : va_A [(h0, e0)] sz = A) (hD : va_D A ((h0, e1) :: rest)) (hP : va_P (dC, dI) fxCl ((h0, e1) :: rest) H) (hr : ∀ x ∈ rest, ∃ (c : ClassId) (f : Nat → Int64), x.2 = .inl (c, 3125, .inr (.inl f))) : fx_big sz H (rest.map (·.1)) := by
  constructor
  · rw [List.nodup_iff_pairwise_ne, List.pairwise_iff_getElem]
    intro i j hi hj hij he
    simp only [List.length_map] at hi hj
    simp only [List.getElem_map] at he
    have h := hD.1 (i + 1) (j + 1) (rest[i]) (rest[j]) (by simp [hi]) (by simp [hj]) he
    omega
  · intro q hq
    obtain ⟨x, hx, rfl⟩ := List.mem_map.mp hq
    obtain ⟨i, hi, rfl⟩ := List.getElem_of_mem hx
    have hi1 : ((h0, e1) :: rest)[i + 1]? = some rest[i] := by simp [hi]
    refine ⟨?_, ?_⟩
    · have hA := hD.2 (i + 1) _ hi1
      rw [← hAe] at hA
      rcases hA with ⟨k, e, hk⟩ | hA
      · cases k with
        | zero =>
          simp at hk
          have h := hD.1 0 (i + 1) (h0, e1) rest[i] rfl hi1 hk.1
          omega
        | succ k => simp at hk
      · exact hA
    · obtain ⟨c, f, he⟩ := hr _ hx
      have h := hP (i + 1) _ hi1
      have h2 : H[(rest[i]).1]? = some (vp_cell c (3125, .inr (.inl f))) := by
        have h3 := h
        unfold va_at at h3
        rw [he] at h3
        exact h3
      exact ⟨_, h2, by rw [vp_cell_l, arrV_size]⟩
theorem fx_ten {k t : Nat} (h : t = 5 ^ k) (hk : k < 5) : t = 1 ∨ t = 5 ∨ t = 25 ∨ t = 125 ∨ t = 625 := by
  rcases (show k = 0 ∨ k = 1 ∨ k = 2 ∨ k = 3 ∨ k = 4 by omega) with e | e | e | e | e <;> rw [e] at h <;> simp at h <;> simp [h]
def fx_I1 (a b : Int64) : Prop := (a = 1 ∧ b = 9375000) ∨ (a = 9375000 ∧ b = 1) ∨ (a = 1 ∧ b = 0)
theorem fx_I1s (x y : Int64) (h : fx_I1 x y) (hy : ¬ y = 0) : fx_I1 y (x - x / y * y) := by
  rcases h with ⟨rfl, rfl⟩ | ⟨rfl, rfl⟩ | ⟨rfl, rfl⟩
  · exact Or.inr (Or.inl ⟨rfl, by decide⟩)
  · exact Or.inr (Or.inr ⟨rfl, by decide⟩)
  · exact absurd rfl hy
theorem fx_I1e (x : Int64) (h : fx_I1 x 0) : x = 1 := by
  rcases h with ⟨rfl, h⟩ | ⟨rfl, h⟩ | ⟨rfl, h⟩
  · rfl
  · exact absurd h (by decide)
  · rfl
set_option maxHeartbeats 4000000 in
set_option maxRecDepth 100000 in
/-- AbstractCollection() on an ArrayList -/
theorem c_Jxa1e45_init_da8c8 (l : Launch) (dC : Nat → ClassId) (dI : Nat → Nat → Nat) (h0 : Nat) (sz : Nat) : Met l yJxa1e45_init_da8c8 wsJxa1e45_init_da8c8 ({ frames := 1, cells := 0, slots := 0, locals := 40 } : Room) (va_Pc [.ref h0] (fx_st dC dI [(h0, .inr (7, [.int 0, .null, .int 0]))] [] sz)) (va_Qv (fun _ : Unit => True) (fun _ t => fx_en dC dI (va_A [(h0, .inr (7, [.int 0, .null, .int 0]))] sz) [(h0, .inr (7, [.int 0, .null, .int 0]))] [] t) (va_A [(h0, .inr (7, [.int 0, .null, .int 0]))] sz)) 0 0 (va_A [(h0, .inr (7, [.int 0, .null, .int 0]))] sz) := by
  refine Met.ofW (cc := cJxa1e45_init_da8c8) (maxL := 1) (ret := none) (by decide) rfl ?_
  intro p e s m args below meth c s₁ B hml hv
  obtain ⟨rfl, hsz, hP, hK, hD0, hnw⟩ := hv
  have hx := B.exec
  have hb := B.bytes
  have hr := B.returns
  have hts := atoms_spec (ws := wsJxa1e45_init_da8c8) B.pre
  have hown : s.vm.findClass RJxa1e45 = some m.cls := findClass_of_methodNamed B.named
  have hlocks := B.notSynchronized
  have hin : meth.name = "<init>" := (name_of_methodNamed B.named B.method).1
  subst hsz
  have hD := hD0.self (sz := s.heap.size)
  generalize hAe : va_A [(h0, .inr (7, [.int 0, .null, .int 0]))] s.heap.size = A at hD ⊢
  have hA : ∀ q : Nat, s.heap.size ≤ q → A q := fun q h => by rw [← hAe]; exact Or.inr h
  obtain ⟨H, hHe⟩ : ∃ H, H = s.heap := ⟨_, rfl⟩
  have hS : va_S A s.heap H [] := by rw [hHe]; exact va_S.rf
  have hP : va_P (dC, dI) fxCl [(h0, .inr (7, [.int 0, .null, .int 0]))] H := by rw [hHe]; exact hP
  refine fx_h hHe ?_
  have hl := lv_entry ([.ref h0]) (n := 1) (Nat.le_of_ble_eq_true rfl)
  rw [lg_entry_eq]
  generalize (lg_sl ([.ref h0]) ++ List.replicate (1 - (lg_sl ([.ref h0])).length) Slot.unset).toArray = ls at hl ⊢
  have hl : lv_has ls 1 [(0, .ref h0)] := hl
  refine lv_aload_n hx hb dJxa1e45_init_da8c8_0 rfl (lv_at hl 0 rfl) ?_
  refine W.objInit hx hb hown (hts (.methodLink RJxa1e45 1 objectInit) (by decide +kernel)) (hts (.instanceMethod objectInit) (by decide +kernel)) (hts (.code objectInit ⟨#[0xb1]⟩ 1 none) (by decide +kernel)) rfl (by rw [hml]; exact hl.1) rfl dJxa1e45_init_da8c8_1 (Nat.le_of_ble_eq_true rfl) (Nat.le_of_ble_eq_true rfl) ?_
  refine W.eq (g2 := F0 m 4 ls []) rfl ?_
  have hP9 := hP.sub (ws' := [(h0, .inr (7, [.int 0, .null, .int 0]))]) [0] rfl
  have hD9 := hD.sub (ws' := [(h0, .inr (7, [.int 0, .null, .int 0]))]) [0] (by decide) rfl
  have hK9 := hK.sub (tys' := []) [] rfl
  exact W.vret hx hb hr (fun t ht hW => ⟨⟨(), rfl, trivial, by rw [ht]; exact hP9, va_K.moved hW.alike hK9, hD9⟩, hS.F ht⟩) hS.2.2 dJxa1e45_init_da8c8_4
set_option maxHeartbeats 4000000 in
set_option maxRecDepth 100000 in
/-- AbstractList() on an ArrayList -/
theorem c_Jxc12de_init_da8c8 (l : Launch) (dC : Nat → ClassId) (dI : Nat → Nat → Nat) (h0 : Nat) (sz : Nat) : Met l yJxc12de_init_da8c8 wsJxc12de_init_da8c8 ({ frames := 2, cells := 0, slots := 0, locals := 80 } : Room) (va_Pc [.ref h0] (fx_st dC dI [(h0, .inr (7, [.int 0, .null, .int 0]))] [] sz)) (va_Qv (fun _ : Unit => True) (fun _ t => fx_en dC dI (va_A [(h0, .inr (7, [.int 0, .null, .int 0]))] sz) [(h0, .inr (7, [.int 0, .null, .int 0]))] [] t) (va_A [(h0, .inr (7, [.int 0, .null, .int 0]))] sz)) 0 0 (va_A [(h0, .inr (7, [.int 0, .null, .int 0]))] sz) := by
  refine Met.ofW (cc := cJxc12de_init_da8c8) (maxL := 1) (ret := none) (by decide) rfl ?_
  intro p e s m args below meth c s₁ B hml hv
  obtain ⟨rfl, hsz, hP, hK, hD0, hnw⟩ := hv
  have hx := B.exec
  have hb := B.bytes
  have hr := B.returns
  have hts := atoms_spec (ws := wsJxc12de_init_da8c8) B.pre
  have hown : s.vm.findClass RJxc12de = some m.cls := findClass_of_methodNamed B.named
  have hlocks := B.notSynchronized
  have hin : meth.name = "<init>" := (name_of_methodNamed B.named B.method).1
  subst hsz
  have hD := hD0.self (sz := s.heap.size)
  generalize hAe : va_A [(h0, .inr (7, [.int 0, .null, .int 0]))] s.heap.size = A at hD ⊢
  have hA : ∀ q : Nat, s.heap.size ≤ q → A q := fun q h => by rw [← hAe]; exact Or.inr h
  obtain ⟨H, hHe⟩ : ∃ H, H = s.heap := ⟨_, rfl⟩
  have hS : va_S A s.heap H [] := by rw [hHe]; exact va_S.rf
  have hP : va_P (dC, dI) fxCl [(h0, .inr (7, [.int 0, .null, .int 0]))] H := by rw [hHe]; exact hP
  refine fx_h hHe ?_
  have hl := lv_entry ([.ref h0]) (n := 1) (Nat.le_of_ble_eq_true rfl)
  rw [lg_entry_eq]
  generalize (lg_sl ([.ref h0]) ++ List.replicate (1 - (lg_sl ([.ref h0])).length) Slot.unset).toArray = ls at hl ⊢
  have hl : lv_has ls 1 [(0, .ref h0)] := hl
  refine lv_aload_n hx hb dJxc12de_init_da8c8_0 rfl (lv_at hl 0 rfl) ?_
  have hPc := hP.sub (ws' := [(h0, .inr (7, [.int 0, .null, .int 0]))]) [0] rfl
  have hDc := hD.sub (ws' := [(h0, .inr (7, [.int 0, .null, .int 0]))]) [0] (by decide) rfl
  have hKc := hK.sub (tys' := []) [] rfl
  have hFc := va_free (wc := [(h0, .inr (7, [.int 0, .null, .int 0]))]) hD hS hA [0] rfl
  refine va_callv (va_runI (As := []) (rest := []) ⟨hx, hb, hml, hown, hts⟩ (c_Jxa1e45_init_da8c8 l dC dI h0 H.size) (cwI 0 hts gJxc12de_init_da8c8_Jxa1e45_init_da8c8 rfl rfl rfl (hts (.initialized RJxa1e45) (by decide +kernel)) (hts (.methodLink RJxc12de 1 yJxa1e45_init_da8c8) (by decide +kernel)) (hts (.instanceMethod yJxa1e45_init_da8c8) (by decide +kernel)) rfl (by decide +kernel) ⟨Nat.le_of_ble_eq_true rfl, Nat.le_of_ble_eq_true rfl⟩) (fx_preS hPc hKc hDc hnw) rfl rfl hl.1 rfl (lv_room (Nat.le_of_ble_eq_true rfl)) dJxc12de_init_da8c8_1 ⟨(Nat.le_of_ble_eq_true rfl), (Nat.le_of_ble_eq_true rfl)⟩) hS (fun q _ h => hFc q h) hFc (fun u t H1 locs ht hvm hw hB hz1 hk1 hS => ?_)
  obtain ⟨hP1, hK1, hD1⟩ := hB
  rw [ht] at hP1
  have hK1 := va_K.moved hvm.symm hK1
  obtain ⟨hP, hD⟩ := va_join (wr := []) (w1 := [(h0, .inr (7, [.int 0, .null, .int 0]))]) hP hD [0] [] rfl rfl (by decide) (by decide) hk1 hFc hP1 hD1
  have hK := (hK.sub (tys' := []) [] rfl).app hK1
  generalize H1 = H at hP hS ⊢
  have hP : va_P (dC, dI) fxCl [(h0, .inr (7, [.int 0, .null, .int 0]))] H := hP
  have hD : va_D A [(h0, .inr (7, [.int 0, .null, .int 0]))] := hD
  have hK : va_K (dC, dI) fxCl [] s := hK
  refine lv_aload_n hx hb dJxc12de_init_da8c8_4 rfl (lv_at hl 0 rfl) ?_
  refine lv_iconst (v := 0) hx hb dJxc12de_init_da8c8_5 (by decide) ?_
  refine va_put (D := (dC, dI)) (ci := 7) (v := .int 0) (ty := .int) (C := RJx4a65c) (T := TJx4a65c) (N := 3) hx hb hts (by decide +kernel) tyJx4a65c tyJx4a65c_ok nmJx4a65c hown hK hP hD hS 0 rfl rfl 0 (by decide) (hts (.fieldLink RJxc12de 7 "java/util/AbstractList" "modCount" "I") (by decide +kernel)) (fun _ h9 => h9) rfl (by decide +kernel) rfl rfl (Nat.le_of_ble_eq_true rfl) dJxc12de_init_da8c8_6 (fun H locs hP hD hS => ?_)
  have hP : va_P (dC, dI) fxCl [(h0, .inr (7, [.int 0, .null, .int 0]))] H := hP
  have hD : va_D A [(h0, .inr (7, [.int 0, .null, .int 0]))] := hD
  have hP9 := hP.sub (ws' := [(h0, .inr (7, [.int 0, .null, .int 0]))]) [0] rfl
  have hD9 := hD.sub (ws' := [(h0, .inr (7, [.int 0, .null, .int 0]))]) [0] (by decide) rfl
  have hK9 := hK.sub (tys' := []) [] rfl
  exact W.vret hx hb hr (fun t ht hW => ⟨⟨(), rfl, trivial, by rw [ht]; exact hP9, va_K.moved hW.alike hK9, hD9⟩, hS.F ht⟩) hS.2.2 dJxc12de_init_da8c8_9
set_option maxHeartbeats 4000000 in
set_option maxRecDepth 100000 in
/-- ArrayList() -/
theorem c_Jx4a65c_init_da8c8_n (l : Launch) (dC : Nat → ClassId) (dI : Nat → Nat → Nat) (h0 : Nat) (sz : Nat) : Met l yJx4a65c_init_da8c8 wsJx4a65c_init_da8c8 ({ frames := 3, cells := 0, slots := 0, locals := 120 } : Room) (va_Pc [.ref h0] (fx_stZ (.null) dC dI [(h0, .inr (7, [.int 0, .null, .int 0]))] [] sz)) (va_Qv (fun _ : Unit => True) (fun _ t => fx_en dC dI (va_A [(h0, .inr (7, [.int 0, .null, .int 0]))] sz) [(h0, .inr (7, [.int 0, .null, .int 0]))] [] t) (va_A [(h0, .inr (7, [.int 0, .null, .int 0]))] sz)) 0 0 (va_A [(h0, .inr (7, [.int 0, .null, .int 0]))] sz) := by
  refine Met.ofW (cc := cJx4a65c_init_da8c8) (maxL := 1) (ret := none) (by decide) rfl ?_
  intro p e s m args below meth c s₁ B hml hv
  obtain ⟨rfl, ⟨hsz, hP, hK, hD0, hnw⟩, hZ⟩ := hv
  have hx := B.exec
  have hb := B.bytes
  have hr := B.returns
  have hts := atoms_spec (ws := wsJx4a65c_init_da8c8) B.pre
  have hown : s.vm.findClass RJx4a65c = some m.cls := findClass_of_methodNamed B.named
  have hlocks := B.notSynchronized
  have hin : meth.name = "<init>" := (name_of_methodNamed B.named B.method).1
  subst hsz
  have hD := hD0.self (sz := s.heap.size)
  generalize hAe : va_A [(h0, .inr (7, [.int 0, .null, .int 0]))] s.heap.size = A at hD hZ ⊢
  have hA : ∀ q : Nat, s.heap.size ≤ q → A q := fun q h => by rw [← hAe]; exact Or.inr h
  obtain ⟨H, hHe⟩ : ∃ H, H = s.heap := ⟨_, rfl⟩
  have hS : va_S A s.heap H [] := by rw [hHe]; exact va_S.rf
  have hP : va_P (dC, dI) fxCl [(h0, .inr (7, [.int 0, .null, .int 0]))] H := by rw [hHe]; exact hP
  refine fx_h hHe ?_
  have hl := lv_entry ([.ref h0]) (n := 1) (Nat.le_of_ble_eq_true rfl)
  rw [lg_entry_eq]
  generalize (lg_sl ([.ref h0]) ++ List.replicate (1 - (lg_sl ([.ref h0])).length) Slot.unset).toArray = ls at hl ⊢
  have hl : lv_has ls 1 [(0, .ref h0)] := hl
  refine lv_aload_n hx hb dJx4a65c_init_da8c8_0 rfl (lv_at hl 0 rfl) ?_
  have hPc := hP.sub (ws' := [(h0, .inr (7, [.int 0, .null, .int 0]))]) [0] rfl
  have hDc := hD.sub (ws' := [(h0, .inr (7, [.int 0, .null, .int 0]))]) [0] (by decide) rfl
  have hKc := hK.sub (tys' := []) [] rfl
  have hFc := va_free (wc := [(h0, .inr (7, [.int 0, .null, .int 0]))]) hD hS hA [0] rfl
  refine va_callv (va_runI (As := []) (rest := []) ⟨hx, hb, hml, hown, hts⟩ (c_Jxc12de_init_da8c8 l dC dI h0 H.size) (cwI 0 hts gJx4a65c_init_da8c8_Jxc12de_init_da8c8 rfl rfl rfl (hts (.initialized RJxc12de) (by decide +kernel)) (hts (.methodLink RJx4a65c 1 yJxc12de_init_da8c8) (by decide +kernel)) (hts (.instanceMethod yJxc12de_init_da8c8) (by decide +kernel)) rfl (by decide +kernel) ⟨Nat.le_of_ble_eq_true rfl, Nat.le_of_ble_eq_true rfl⟩) (fx_preS hPc hKc hDc hnw) rfl rfl hl.1 rfl (lv_room (Nat.le_of_ble_eq_true rfl)) dJx4a65c_init_da8c8_1 ⟨(Nat.le_of_ble_eq_true rfl), (Nat.le_of_ble_eq_true rfl)⟩) hS (fun q _ h => hFc q h) hFc (fun u t H1 locs ht hvm hw hB hz1 hk1 hS => ?_)
  obtain ⟨hP1, hK1, hD1⟩ := hB
  rw [ht] at hP1
  have hK1 := va_K.moved hvm.symm hK1
  obtain ⟨hP, hD⟩ := va_join (wr := []) (w1 := [(h0, .inr (7, [.int 0, .null, .int 0]))]) hP hD [0] [] rfl rfl (by decide) (by decide) hk1 hFc hP1 hD1
  have hK := (hK.sub (tys' := []) [] rfl).app hK1
  generalize H1 = H at hP hS ⊢
  have hP : va_P (dC, dI) fxCl [(h0, .inr (7, [.int 0, .null, .int 0]))] H := hP
  have hD : va_D A [(h0, .inr (7, [.int 0, .null, .int 0]))] := hD
  have hK : va_K (dC, dI) fxCl [] s := hK
  refine lv_aload_n hx hb dJx4a65c_init_da8c8_4 rfl (lv_at hl 0 rfl) ?_
  refine va_gets hx hb hZ hS hown (hts (.fieldLink RJx4a65c 39 "java/util/ArrayList" "DEFAULTCAPACITY_EMPTY_ELEMENTDATA" "[Ljava/lang/Object;") (by decide +kernel)) (fun _ h9 => h9) dJx4a65c_init_da8c8_5 ?_
  refine va_put (D := (dC, dI)) (ci := 7) (v := .null) (ty := .array (.object "java/lang/Object")) (C := RJx4a65c) (T := TJx4a65c) (N := 3) hx hb hts (by decide +kernel) tyJx4a65c tyJx4a65c_ok nmJx4a65c hown hK hP hD hS 0 rfl rfl 1 (by decide) (hts (.fieldLink RJx4a65c 9 "java/util/ArrayList" "elementData" "[Ljava/lang/Object;") (by decide +kernel)) (fun _ h9 => h9) rfl (by decide +kernel) rfl rfl (Nat.le_of_ble_eq_true rfl) dJx4a65c_init_da8c8_8 (fun H locs hP hD hS => ?_)
  have hP : va_P (dC, dI) fxCl [(h0, .inr (7, [.int 0, .null, .int 0]))] H := hP
  have hD : va_D A [(h0, .inr (7, [.int 0, .null, .int 0]))] := hD
  have hP9 := hP.sub (ws' := [(h0, .inr (7, [.int 0, .null, .int 0]))]) [0] rfl
  have hD9 := hD.sub (ws' := [(h0, .inr (7, [.int 0, .null, .int 0]))]) [0] (by decide) rfl
  have hK9 := hK.sub (tys' := []) [] rfl
  exact W.vret hx hb hr (fun t ht hW => ⟨⟨(), rfl, trivial, by rw [ht]; exact hP9, va_K.moved hW.alike hK9, hD9⟩, hS.F ht⟩) hS.2.2 dJx4a65c_init_da8c8_11
set_option maxHeartbeats 4000000 in
set_option maxRecDepth 100000 in
/-- ArrayList() -/
theorem c_Jx4a65c_init_da8c8_r (l : Launch) (dC : Nat → ClassId) (dI : Nat → Nat → Nat) (h0 tz : Nat) (sz : Nat) : Met l yJx4a65c_init_da8c8 wsJx4a65c_init_da8c8 ({ frames := 3, cells := 0, slots := 0, locals := 120 } : Room) (va_Pc [.ref h0] (fx_stZ (.ref tz) dC dI [(h0, .inr (7, [.int 0, .null, .int 0]))] [] sz)) (va_Qv (fun _ : Unit => True) (fun _ t => fx_en dC dI (va_A [(h0, .inr (7, [.int 0, .null, .int 0]))] sz) [(h0, .inr (7, [.int 0, .ref tz, .int 0]))] [] t) (va_A [(h0, .inr (7, [.int 0, .null, .int 0]))] sz)) 0 0 (va_A [(h0, .inr (7, [.int 0, .null, .int 0]))] sz) := by
  refine Met.ofW (cc := cJx4a65c_init_da8c8) (maxL := 1) (ret := none) (by decide) rfl ?_
  intro p e s m args below meth c s₁ B hml hv
  obtain ⟨rfl, ⟨hsz, hP, hK, hD0, hnw⟩, hZ⟩ := hv
  have hx := B.exec
  have hb := B.bytes
  have hr := B.returns
  have hts := atoms_spec (ws := wsJx4a65c_init_da8c8) B.pre
  have hown : s.vm.findClass RJx4a65c = some m.cls := findClass_of_methodNamed B.named
  have hlocks := B.notSynchronized
  have hin : meth.name = "<init>" := (name_of_methodNamed B.named B.method).1
  subst hsz
  have hD := hD0.self (sz := s.heap.size)
  generalize hAe : va_A [(h0, .inr (7, [.int 0, .null, .int 0]))] s.heap.size = A at hD hZ ⊢
  have hA : ∀ q : Nat, s.heap.size ≤ q → A q := fun q h => by rw [← hAe]; exact Or.inr h
  obtain ⟨H, hHe⟩ : ∃ H, H = s.heap := ⟨_, rfl⟩
  have hS : va_S A s.heap H [] := by rw [hHe]; exact va_S.rf
  have hP : va_P (dC, dI) fxCl [(h0, .inr (7, [.int 0, .null, .int 0]))] H := by rw [hHe]; exact hP
  refine fx_h hHe ?_
  have hl := lv_entry ([.ref h0]) (n := 1) (Nat.le_of_ble_eq_true rfl)
  rw [lg_entry_eq]
  generalize (lg_sl ([.ref h0]) ++ List.replicate (1 - (lg_sl ([.ref h0])).length) Slot.unset).toArray = ls at hl ⊢
  have hl : lv_has ls 1 [(0, .ref h0)] := hl
  refine lv_aload_n hx hb dJx4a65c_init_da8c8_0 rfl (lv_at hl 0 rfl) ?_
  have hPc := hP.sub (ws' := [(h0, .inr (7, [.int 0, .null, .int 0]))]) [0] rfl
  have hDc := hD.sub (ws' := [(h0, .inr (7, [.int 0, .null, .int 0]))]) [0] (by decide) rfl
  have hKc := hK.sub (tys' := []) [] rfl
  have hFc := va_free (wc := [(h0, .inr (7, [.int 0, .null, .int 0]))]) hD hS hA [0] rfl
  refine va_callv (va_runI (As := []) (rest := []) ⟨hx, hb, hml, hown, hts⟩ (c_Jxc12de_init_da8c8 l dC dI h0 H.size) (cwI 0 hts gJx4a65c_init_da8c8_Jxc12de_init_da8c8 rfl rfl rfl (hts (.initialized RJxc12de) (by decide +kernel)) (hts (.methodLink RJx4a65c 1 yJxc12de_init_da8c8) (by decide +kernel)) (hts (.instanceMethod yJxc12de_init_da8c8) (by decide +kernel)) rfl (by decide +kernel) ⟨Nat.le_of_ble_eq_true rfl, Nat.le_of_ble_eq_true rfl⟩) (fx_preS hPc hKc hDc hnw) rfl rfl hl.1 rfl (lv_room (Nat.le_of_ble_eq_true rfl)) dJx4a65c_init_da8c8_1 ⟨(Nat.le_of_ble_eq_true rfl), (Nat.le_of_ble_eq_true rfl)⟩) hS (fun q _ h => hFc q h) hFc (fun u t H1 locs ht hvm hw hB hz1 hk1 hS => ?_)
  obtain ⟨hP1, hK1, hD1⟩ := hB
  rw [ht] at hP1
  have hK1 := va_K.moved hvm.symm hK1
  obtain ⟨hP, hD⟩ := va_join (wr := []) (w1 := [(h0, .inr (7, [.int 0, .null, .int 0]))]) hP hD [0] [] rfl rfl (by decide) (by decide) hk1 hFc hP1 hD1
  have hK := (hK.sub (tys' := []) [] rfl).app hK1
  generalize H1 = H at hP hS ⊢
  have hP : va_P (dC, dI) fxCl [(h0, .inr (7, [.int 0, .null, .int 0]))] H := hP
  have hD : va_D A [(h0, .inr (7, [.int 0, .null, .int 0]))] := hD
  have hK : va_K (dC, dI) fxCl [] s := hK
  refine lv_aload_n hx hb dJx4a65c_init_da8c8_4 rfl (lv_at hl 0 rfl) ?_
  refine va_gets hx hb hZ hS hown (hts (.fieldLink RJx4a65c 39 "java/util/ArrayList" "DEFAULTCAPACITY_EMPTY_ELEMENTDATA" "[Ljava/lang/Object;") (by decide +kernel)) (fun _ h9 => h9) dJx4a65c_init_da8c8_5 ?_
  refine va_put (D := (dC, dI)) (ci := 7) (v := .ref tz) (ty := .array (.object "java/lang/Object")) (C := RJx4a65c) (T := TJx4a65c) (N := 3) hx hb hts (by decide +kernel) tyJx4a65c tyJx4a65c_ok nmJx4a65c hown hK hP hD hS 0 rfl rfl 1 (by decide) (hts (.fieldLink RJx4a65c 9 "java/util/ArrayList" "elementData" "[Ljava/lang/Object;") (by decide +kernel)) (fun _ h9 => h9) rfl (by decide +kernel) rfl rfl (Nat.le_of_ble_eq_true rfl) dJx4a65c_init_da8c8_8 (fun H locs hP hD hS => ?_)
  have hP : va_P (dC, dI) fxCl [(h0, .inr (7, [.int 0, .ref tz, .int 0]))] H := hP
  have hD : va_D A [(h0, .inr (7, [.int 0, .ref tz, .int 0]))] := hD
  have hP9 := hP.sub (ws' := [(h0, .inr (7, [.int 0, .ref tz, .int 0]))]) [0] rfl
  have hD9 := hD.sub (ws' := [(h0, .inr (7, [.int 0, .ref tz, .int 0]))]) [0] (by decide) rfl
  have hK9 := hK.sub (tys' := []) [] rfl
  exact W.vret hx hb hr (fun t ht hW => ⟨⟨(), rfl, trivial, by rw [ht]; exact hP9, va_K.moved hW.alike hK9, hD9⟩, hS.F ht⟩) hS.2.2 dJx4a65c_init_da8c8_11
set_option maxHeartbeats 4000000 in
set_option maxRecDepth 100000 in
/-- UrnwrightModel() -/
theorem c_X10_init_n (l : Launch) (dC : Nat → ClassId) (dI : Nat → Nat → Nat) (h0 : Nat) (sz : Nat) : Met l yX10_init wsX10_init ({ frames := 4, cells := 2, slots := 6, locals := 160 } : Room) (va_Pc [.ref h0] (fx_stZ (.null) dC dI [(h0, .inr (6, [.int 0, .int 0, .null, .null]))] [] sz)) (va_Qv (fun _ : Unit => True) (fun _ t => ∃ (u1 u2 : Nat), fx_en dC dI (va_A [(h0, .inr (6, [.int 0, .int 0, .null, .null]))] sz) [(h0, .inr (6, [.int 0, .int 0, .ref u1, .ref u2]))] [] t) (va_A [(h0, .inr (6, [.int 0, .int 0, .null, .null]))] sz)) 2 6 (va_A [(h0, .inr (6, [.int 0, .int 0, .null, .null]))] sz) := by
  refine Met.ofW (cc := cX10_init) (maxL := 1) (ret := none) (by decide) rfl ?_
  intro p e s m args below meth c s₁ B hml hv
  obtain ⟨rfl, ⟨hsz, hP, hK, hD0, hnw⟩, hZ⟩ := hv
  have hx := B.exec
  have hb := B.bytes
  have hr := B.returns
  have hts := atoms_spec (ws := wsX10_init) B.pre
  have hown : s.vm.findClass RX10 = some m.cls := findClass_of_methodNamed B.named
  have hlocks := B.notSynchronized
  have hin : meth.name = "<init>" := (name_of_methodNamed B.named B.method).1
  subst hsz
  have hD := hD0.self (sz := s.heap.size)
  generalize hAe : va_A [(h0, .inr (6, [.int 0, .int 0, .null, .null]))] s.heap.size = A at hD hZ ⊢
  have hA : ∀ q : Nat, s.heap.size ≤ q → A q := fun q h => by rw [← hAe]; exact Or.inr h
  obtain ⟨H, hHe⟩ : ∃ H, H = s.heap := ⟨_, rfl⟩
  have hS : va_S A s.heap H [] := by rw [hHe]; exact va_S.rf
  have hP : va_P (dC, dI) fxCl [(h0, .inr (6, [.int 0, .int 0, .null, .null]))] H := by rw [hHe]; exact hP
  refine fx_h hHe ?_
  have hl := lv_entry ([.ref h0]) (n := 1) (Nat.le_of_ble_eq_true rfl)
  rw [lg_entry_eq]
  generalize (lg_sl ([.ref h0]) ++ List.replicate (1 - (lg_sl ([.ref h0])).length) Slot.unset).toArray = ls at hl ⊢
  have hl : lv_has ls 1 [(0, .ref h0)] := hl
  refine lv_aload_n hx hb dX10_init_0 rfl (lv_at hl 0 rfl) ?_
  refine W.objInit hx hb hown (hts (.methodLink RX10 1 objectInit) (by decide +kernel)) (hts (.instanceMethod objectInit) (by decide +kernel)) (hts (.code objectInit ⟨#[0xb1]⟩ 1 none) (by decide +kernel)) rfl (by rw [hml]; exact hl.1) rfl dX10_init_1 (Nat.le_of_ble_eq_true rfl) (Nat.le_of_ble_eq_true rfl) ?_
  refine W.eq (g2 := F0 m 4 ls []) rfl ?_
  refine lv_aload_n hx hb dX10_init_4 rfl (lv_at hl 0 rfl) ?_
  refine va_new (ci := 7) (fs := [.int 0, .null, .int 0]) (C := RJx4a65c) (T := TJx4a65c) (N := 3) hx hb hts (by decide +kernel) tyJx4a65c tyJx4a65c_ok hown (hts (.classLink RX10 7 RJx4a65c) (by decide +kernel)) (hts (.instantiable RJx4a65c 3) (by decide +kernel)) (hts (.initialized RJx4a65c) (by decide +kernel)) hK hP hD hS hA rfl (fun j hj => by rcases (show j = 0 ∨ j = 1 ∨ j = 2 by omega) with rfl | rfl | rfl <;> rfl) (Nat.le_of_ble_eq_true rfl) (Nat.le_of_ble_eq_true rfl) dX10_init_5 (fun q_1 H hP hD hS => ?_)
  refine W.widen (k := 1) (n := 3) (Nat.le_of_ble_eq_true rfl) (Nat.le_of_ble_eq_true rfl) ?_
  have hP : va_P (dC, dI) fxCl [(h0, .inr (6, [.int 0, .int 0, .null, .null])), (q_1, .inr (7, [.int 0, .null, .int 0]))] H := hP
  have hD : va_D A [(h0, .inr (6, [.int 0, .int 0, .null, .null])), (q_1, .inr (7, [.int 0, .null, .int 0]))] := hD
  refine lv_dup hx hb dX10_init_8 rfl ?_
  have hPc := hP.sub (ws' := [(q_1, .inr (7, [.int 0, .null, .int 0]))]) [1] rfl
  have hDc := hD.sub (ws' := [(q_1, .inr (7, [.int 0, .null, .int 0]))]) [1] (by decide) rfl
  have hKc := hK.sub (tys' := []) [] rfl
  have hFc := va_free (wc := [(q_1, .inr (7, [.int 0, .null, .int 0]))]) hD hS hA [1] rfl
  refine va_callv (va_runI (As := []) (rest := [.ref q_1, .ref h0]) ⟨hx, hb, hml, hown, hts⟩ (c_Jx4a65c_init_da8c8_n l dC dI q_1 H.size) (cwI 0 hts gX10_init_Jx4a65c_init_da8c8 rfl rfl rfl (hts (.initialized RJx4a65c) (by decide +kernel)) (hts (.methodLink RX10 9 yJx4a65c_init_da8c8) (by decide +kernel)) (hts (.instanceMethod yJx4a65c_init_da8c8) (by decide +kernel)) rfl (by decide +kernel) ⟨Nat.le_of_ble_eq_true rfl, Nat.le_of_ble_eq_true rfl⟩) (fx_preZ hPc hKc hDc hnw hZ hS hFc) rfl rfl hl.1 rfl (lv_room (Nat.le_of_ble_eq_true rfl)) dX10_init_9 ⟨(Nat.le_of_ble_eq_true rfl), (Nat.le_of_ble_eq_true rfl)⟩) hS (fun q _ h => hFc q h) hFc (fun u t H1 locs ht hvm hw hB hz1 hk1 hS => ?_)
  obtain ⟨hP1, hK1, hD1⟩ := hB
  rw [ht] at hP1
  have hK1 := va_K.moved hvm.symm hK1
  obtain ⟨hP, hD⟩ := va_join (wr := [(h0, .inr (6, [.int 0, .int 0, .null, .null]))]) (w1 := [(q_1, .inr (7, [.int 0, .null, .int 0]))]) hP hD [1] [0] rfl rfl (by decide) (by decide) hk1 hFc hP1 hD1
  have hK := (hK.sub (tys' := []) [] rfl).app hK1
  generalize H1 = H at hP hS ⊢
  have hP : va_P (dC, dI) fxCl [(h0, .inr (6, [.int 0, .int 0, .null, .null])), (q_1, .inr (7, [.int 0, .null, .int 0]))] H := hP
  have hD : va_D A [(h0, .inr (6, [.int 0, .int 0, .null, .null])), (q_1, .inr (7, [.int 0, .null, .int 0]))] := hD
  have hK : va_K (dC, dI) fxCl [] s := hK
  refine va_putF (D := (dC, dI)) (ci := 6) (v := .ref q_1) (ty := .object "java/util/List") (C := RX10) (T := TX10) (N := 4) hx hb hts (by decide +kernel) tyX10 tyX10_ok nmX10 hown hK hP hD hS 0 rfl rfl 2 (by decide) (hts (.fieldLink RX10 10 "UrnwrightModel" "urns" "Ljava/util/List;") (by decide +kernel)) (fun _ h9 => h9) rfl hin rfl (by decide +kernel) rfl rfl (Nat.le_of_ble_eq_true rfl) dX10_init_12 (fun H locs hP hD hS => ?_)
  have hP : va_P (dC, dI) fxCl [(h0, .inr (6, [.int 0, .int 0, .ref q_1, .null])), (q_1, .inr (7, [.int 0, .null, .int 0]))] H := hP
  have hD : va_D A [(h0, .inr (6, [.int 0, .int 0, .ref q_1, .null])), (q_1, .inr (7, [.int 0, .null, .int 0]))] := hD
  refine lv_aload_n hx hb dX10_init_15 rfl (lv_at hl 0 rfl) ?_
  refine va_new (ci := 7) (fs := [.int 0, .null, .int 0]) (C := RJx4a65c) (T := TJx4a65c) (N := 3) hx hb hts (by decide +kernel) tyJx4a65c tyJx4a65c_ok hown (hts (.classLink RX10 7 RJx4a65c) (by decide +kernel)) (hts (.instantiable RJx4a65c 3) (by decide +kernel)) (hts (.initialized RJx4a65c) (by decide +kernel)) hK hP hD hS hA rfl (fun j hj => by rcases (show j = 0 ∨ j = 1 ∨ j = 2 by omega) with rfl | rfl | rfl <;> rfl) (Nat.le_of_ble_eq_true rfl) (Nat.le_of_ble_eq_true rfl) dX10_init_16 (fun q_2 H hP hD hS => ?_)
  refine W.widen (k := 2) (n := 6) (Nat.le_of_ble_eq_true rfl) (Nat.le_of_ble_eq_true rfl) ?_
  have hP : va_P (dC, dI) fxCl [(h0, .inr (6, [.int 0, .int 0, .ref q_1, .null])), (q_1, .inr (7, [.int 0, .null, .int 0])), (q_2, .inr (7, [.int 0, .null, .int 0]))] H := hP
  have hD : va_D A [(h0, .inr (6, [.int 0, .int 0, .ref q_1, .null])), (q_1, .inr (7, [.int 0, .null, .int 0])), (q_2, .inr (7, [.int 0, .null, .int 0]))] := hD
  refine lv_dup hx hb dX10_init_19 rfl ?_
  have hPc := hP.sub (ws' := [(q_2, .inr (7, [.int 0, .null, .int 0]))]) [2] rfl
  have hDc := hD.sub (ws' := [(q_2, .inr (7, [.int 0, .null, .int 0]))]) [2] (by decide) rfl
  have hKc := hK.sub (tys' := []) [] rfl
  have hFc := va_free (wc := [(q_2, .inr (7, [.int 0, .null, .int 0]))]) hD hS hA [2] rfl
  refine va_callv (va_runI (As := []) (rest := [.ref q_2, .ref h0]) ⟨hx, hb, hml, hown, hts⟩ (c_Jx4a65c_init_da8c8_n l dC dI q_2 H.size) (cwI 0 hts gX10_init_Jx4a65c_init_da8c8 rfl rfl rfl (hts (.initialized RJx4a65c) (by decide +kernel)) (hts (.methodLink RX10 9 yJx4a65c_init_da8c8) (by decide +kernel)) (hts (.instanceMethod yJx4a65c_init_da8c8) (by decide +kernel)) rfl (by decide +kernel) ⟨Nat.le_of_ble_eq_true rfl, Nat.le_of_ble_eq_true rfl⟩) (fx_preZ hPc hKc hDc hnw hZ hS hFc) rfl rfl hl.1 rfl (lv_room (Nat.le_of_ble_eq_true rfl)) dX10_init_20 ⟨(Nat.le_of_ble_eq_true rfl), (Nat.le_of_ble_eq_true rfl)⟩) hS (fun q _ h => hFc q h) hFc (fun u t H1 locs ht hvm hw hB hz1 hk1 hS => ?_)
  obtain ⟨hP1, hK1, hD1⟩ := hB
  rw [ht] at hP1
  have hK1 := va_K.moved hvm.symm hK1
  obtain ⟨hP, hD⟩ := va_join (wr := [(h0, .inr (6, [.int 0, .int 0, .ref q_1, .null])), (q_1, .inr (7, [.int 0, .null, .int 0]))]) (w1 := [(q_2, .inr (7, [.int 0, .null, .int 0]))]) hP hD [2] [0, 1] rfl rfl (by decide) (by decide) hk1 hFc hP1 hD1
  have hK := (hK.sub (tys' := []) [] rfl).app hK1
  generalize H1 = H at hP hS ⊢
  have hP : va_P (dC, dI) fxCl [(h0, .inr (6, [.int 0, .int 0, .ref q_1, .null])), (q_1, .inr (7, [.int 0, .null, .int 0])), (q_2, .inr (7, [.int 0, .null, .int 0]))] H := hP
  have hD : va_D A [(h0, .inr (6, [.int 0, .int 0, .ref q_1, .null])), (q_1, .inr (7, [.int 0, .null, .int 0])), (q_2, .inr (7, [.int 0, .null, .int 0]))] := hD
  have hK : va_K (dC, dI) fxCl [] s := hK
  refine va_putF (D := (dC, dI)) (ci := 6) (v := .ref q_2) (ty := .object "java/util/List") (C := RX10) (T := TX10) (N := 4) hx hb hts (by decide +kernel) tyX10 tyX10_ok nmX10 hown hK hP hD hS 0 rfl rfl 3 (by decide) (hts (.fieldLink RX10 16 "UrnwrightModel" "rows" "Ljava/util/List;") (by decide +kernel)) (fun _ h9 => h9) rfl hin rfl (by decide +kernel) rfl rfl (Nat.le_of_ble_eq_true rfl) dX10_init_23 (fun H locs hP hD hS => ?_)
  have hP : va_P (dC, dI) fxCl [(h0, .inr (6, [.int 0, .int 0, .ref q_1, .ref q_2])), (q_1, .inr (7, [.int 0, .null, .int 0])), (q_2, .inr (7, [.int 0, .null, .int 0]))] H := hP
  have hD : va_D A [(h0, .inr (6, [.int 0, .int 0, .ref q_1, .ref q_2])), (q_1, .inr (7, [.int 0, .null, .int 0])), (q_2, .inr (7, [.int 0, .null, .int 0]))] := hD
  have hP9 := hP.sub (ws' := [(h0, .inr (6, [.int 0, .int 0, .ref q_1, .ref q_2]))]) [0] rfl
  have hD9 := hD.sub (ws' := [(h0, .inr (6, [.int 0, .int 0, .ref q_1, .ref q_2]))]) [0] (by decide) rfl
  have hK9 := hK.sub (tys' := []) [] rfl
  refine W.widen (k := 2) (n := 6) (Nat.le_of_ble_eq_true rfl) (Nat.le_of_ble_eq_true rfl) ?_
  exact W.vret hx hb hr (fun t ht hW => ⟨⟨(), rfl, trivial, q_1, q_2, by rw [ht]; exact hP9, va_K.moved hW.alike hK9, hD9⟩, hS.F ht⟩) hS.2.2 dX10_init_26
set_option maxHeartbeats 4000000 in
set_option maxRecDepth 100000 in
/-- UrnwrightModel() -/
theorem c_X10_init_r (l : Launch) (dC : Nat → ClassId) (dI : Nat → Nat → Nat) (h0 tz : Nat) (sz : Nat) : Met l yX10_init wsX10_init ({ frames := 4, cells := 2, slots := 6, locals := 160 } : Room) (va_Pc [.ref h0] (fx_stZ (.ref tz) dC dI [(h0, .inr (6, [.int 0, .int 0, .null, .null]))] [] sz)) (va_Qv (fun _ : Unit => True) (fun _ t => ∃ (u1 u2 : Nat), fx_en dC dI (va_A [(h0, .inr (6, [.int 0, .int 0, .null, .null]))] sz) [(h0, .inr (6, [.int 0, .int 0, .ref u1, .ref u2]))] [] t) (va_A [(h0, .inr (6, [.int 0, .int 0, .null, .null]))] sz)) 2 6 (va_A [(h0, .inr (6, [.int 0, .int 0, .null, .null]))] sz) := by
  refine Met.ofW (cc := cX10_init) (maxL := 1) (ret := none) (by decide) rfl ?_
  intro p e s m args below meth c s₁ B hml hv
  obtain ⟨rfl, ⟨hsz, hP, hK, hD0, hnw⟩, hZ⟩ := hv
  have hx := B.exec
  have hb := B.bytes
  have hr := B.returns
  have hts := atoms_spec (ws := wsX10_init) B.pre
  have hown : s.vm.findClass RX10 = some m.cls := findClass_of_methodNamed B.named
  have hlocks := B.notSynchronized
  have hin : meth.name = "<init>" := (name_of_methodNamed B.named B.method).1
  subst hsz
  have hD := hD0.self (sz := s.heap.size)
  generalize hAe : va_A [(h0, .inr (6, [.int 0, .int 0, .null, .null]))] s.heap.size = A at hD hZ ⊢
  have hA : ∀ q : Nat, s.heap.size ≤ q → A q := fun q h => by rw [← hAe]; exact Or.inr h
  obtain ⟨H, hHe⟩ : ∃ H, H = s.heap := ⟨_, rfl⟩
  have hS : va_S A s.heap H [] := by rw [hHe]; exact va_S.rf
  have hP : va_P (dC, dI) fxCl [(h0, .inr (6, [.int 0, .int 0, .null, .null]))] H := by rw [hHe]; exact hP
  refine fx_h hHe ?_
  have hl := lv_entry ([.ref h0]) (n := 1) (Nat.le_of_ble_eq_true rfl)
  rw [lg_entry_eq]
  generalize (lg_sl ([.ref h0]) ++ List.replicate (1 - (lg_sl ([.ref h0])).length) Slot.unset).toArray = ls at hl ⊢
  have hl : lv_has ls 1 [(0, .ref h0)] := hl
  refine lv_aload_n hx hb dX10_init_0 rfl (lv_at hl 0 rfl) ?_
  refine W.objInit hx hb hown (hts (.methodLink RX10 1 objectInit) (by decide +kernel)) (hts (.instanceMethod objectInit) (by decide +kernel)) (hts (.code objectInit ⟨#[0xb1]⟩ 1 none) (by decide +kernel)) rfl (by rw [hml]; exact hl.1) rfl dX10_init_1 (Nat.le_of_ble_eq_true rfl) (Nat.le_of_ble_eq_true rfl) ?_
  refine W.eq (g2 := F0 m 4 ls []) rfl ?_
  refine lv_aload_n hx hb dX10_init_4 rfl (lv_at hl 0 rfl) ?_
  refine va_new (ci := 7) (fs := [.int 0, .null, .int 0]) (C := RJx4a65c) (T := TJx4a65c) (N := 3) hx hb hts (by decide +kernel) tyJx4a65c tyJx4a65c_ok hown (hts (.classLink RX10 7 RJx4a65c) (by decide +kernel)) (hts (.instantiable RJx4a65c 3) (by decide +kernel)) (hts (.initialized RJx4a65c) (by decide +kernel)) hK hP hD hS hA rfl (fun j hj => by rcases (show j = 0 ∨ j = 1 ∨ j = 2 by omega) with rfl | rfl | rfl <;> rfl) (Nat.le_of_ble_eq_true rfl) (Nat.le_of_ble_eq_true rfl) dX10_init_5 (fun q_1 H hP hD hS => ?_)
  refine W.widen (k := 1) (n := 3) (Nat.le_of_ble_eq_true rfl) (Nat.le_of_ble_eq_true rfl) ?_
  have hP : va_P (dC, dI) fxCl [(h0, .inr (6, [.int 0, .int 0, .null, .null])), (q_1, .inr (7, [.int 0, .null, .int 0]))] H := hP
  have hD : va_D A [(h0, .inr (6, [.int 0, .int 0, .null, .null])), (q_1, .inr (7, [.int 0, .null, .int 0]))] := hD
  refine lv_dup hx hb dX10_init_8 rfl ?_
  have hPc := hP.sub (ws' := [(q_1, .inr (7, [.int 0, .null, .int 0]))]) [1] rfl
  have hDc := hD.sub (ws' := [(q_1, .inr (7, [.int 0, .null, .int 0]))]) [1] (by decide) rfl
  have hKc := hK.sub (tys' := []) [] rfl
  have hFc := va_free (wc := [(q_1, .inr (7, [.int 0, .null, .int 0]))]) hD hS hA [1] rfl
  refine va_callv (va_runI (As := []) (rest := [.ref q_1, .ref h0]) ⟨hx, hb, hml, hown, hts⟩ (c_Jx4a65c_init_da8c8_r l dC dI q_1 tz H.size) (cwI 0 hts gX10_init_Jx4a65c_init_da8c8 rfl rfl rfl (hts (.initialized RJx4a65c) (by decide +kernel)) (hts (.methodLink RX10 9 yJx4a65c_init_da8c8) (by decide +kernel)) (hts (.instanceMethod yJx4a65c_init_da8c8) (by decide +kernel)) rfl (by decide +kernel) ⟨Nat.le_of_ble_eq_true rfl, Nat.le_of_ble_eq_true rfl⟩) (fx_preZ hPc hKc hDc hnw hZ hS hFc) rfl rfl hl.1 rfl (lv_room (Nat.le_of_ble_eq_true rfl)) dX10_init_9 ⟨(Nat.le_of_ble_eq_true rfl), (Nat.le_of_ble_eq_true rfl)⟩) hS (fun q _ h => hFc q h) hFc (fun u t H1 locs ht hvm hw hB hz1 hk1 hS => ?_)
  obtain ⟨hP1, hK1, hD1⟩ := hB
  rw [ht] at hP1
  have hK1 := va_K.moved hvm.symm hK1
  obtain ⟨hP, hD⟩ := va_join (wr := [(h0, .inr (6, [.int 0, .int 0, .null, .null]))]) (w1 := [(q_1, .inr (7, [.int 0, .ref tz, .int 0]))]) hP hD [1] [0] rfl rfl (by decide) (by decide) hk1 hFc hP1 hD1
  have hK := (hK.sub (tys' := []) [] rfl).app hK1
  generalize H1 = H at hP hS ⊢
  have hP : va_P (dC, dI) fxCl [(h0, .inr (6, [.int 0, .int 0, .null, .null])), (q_1, .inr (7, [.int 0, .ref tz, .int 0]))] H := hP
  have hD : va_D A [(h0, .inr (6, [.int 0, .int 0, .null, .null])), (q_1, .inr (7, [.int 0, .ref tz, .int 0]))] := hD
  have hK : va_K (dC, dI) fxCl [] s := hK
  refine va_putF (D := (dC, dI)) (ci := 6) (v := .ref q_1) (ty := .object "java/util/List") (C := RX10) (T := TX10) (N := 4) hx hb hts (by decide +kernel) tyX10 tyX10_ok nmX10 hown hK hP hD hS 0 rfl rfl 2 (by decide) (hts (.fieldLink RX10 10 "UrnwrightModel" "urns" "Ljava/util/List;") (by decide +kernel)) (fun _ h9 => h9) rfl hin rfl (by decide +kernel) rfl rfl (Nat.le_of_ble_eq_true rfl) dX10_init_12 (fun H locs hP hD hS => ?_)
  have hP : va_P (dC, dI) fxCl [(h0, .inr (6, [.int 0, .int 0, .ref q_1, .null])), (q_1, .inr (7, [.int 0, .ref tz, .int 0]))] H := hP
  have hD : va_D A [(h0, .inr (6, [.int 0, .int 0, .ref q_1, .null])), (q_1, .inr (7, [.int 0, .ref tz, .int 0]))] := hD
  refine lv_aload_n hx hb dX10_init_15 rfl (lv_at hl 0 rfl) ?_
  refine va_new (ci := 7) (fs := [.int 0, .null, .int 0]) (C := RJx4a65c) (T := TJx4a65c) (N := 3) hx hb hts (by decide +kernel) tyJx4a65c tyJx4a65c_ok hown (hts (.classLink RX10 7 RJx4a65c) (by decide +kernel)) (hts (.instantiable RJx4a65c 3) (by decide +kernel)) (hts (.initialized RJx4a65c) (by decide +kernel)) hK hP hD hS hA rfl (fun j hj => by rcases (show j = 0 ∨ j = 1 ∨ j = 2 by omega) with rfl | rfl | rfl <;> rfl) (Nat.le_of_ble_eq_true rfl) (Nat.le_of_ble_eq_true rfl) dX10_init_16 (fun q_2 H hP hD hS => ?_)
  refine W.widen (k := 2) (n := 6) (Nat.le_of_ble_eq_true rfl) (Nat.le_of_ble_eq_true rfl) ?_
  have hP : va_P (dC, dI) fxCl [(h0, .inr (6, [.int 0, .int 0, .ref q_1, .null])), (q_1, .inr (7, [.int 0, .ref tz, .int 0])), (q_2, .inr (7, [.int 0, .null, .int 0]))] H := hP
  have hD : va_D A [(h0, .inr (6, [.int 0, .int 0, .ref q_1, .null])), (q_1, .inr (7, [.int 0, .ref tz, .int 0])), (q_2, .inr (7, [.int 0, .null, .int 0]))] := hD
  refine lv_dup hx hb dX10_init_19 rfl ?_
  have hPc := hP.sub (ws' := [(q_2, .inr (7, [.int 0, .null, .int 0]))]) [2] rfl
  have hDc := hD.sub (ws' := [(q_2, .inr (7, [.int 0, .null, .int 0]))]) [2] (by decide) rfl
  have hKc := hK.sub (tys' := []) [] rfl
  have hFc := va_free (wc := [(q_2, .inr (7, [.int 0, .null, .int 0]))]) hD hS hA [2] rfl
  refine va_callv (va_runI (As := []) (rest := [.ref q_2, .ref h0]) ⟨hx, hb, hml, hown, hts⟩ (c_Jx4a65c_init_da8c8_r l dC dI q_2 tz H.size) (cwI 0 hts gX10_init_Jx4a65c_init_da8c8 rfl rfl rfl (hts (.initialized RJx4a65c) (by decide +kernel)) (hts (.methodLink RX10 9 yJx4a65c_init_da8c8) (by decide +kernel)) (hts (.instanceMethod yJx4a65c_init_da8c8) (by decide +kernel)) rfl (by decide +kernel) ⟨Nat.le_of_ble_eq_true rfl, Nat.le_of_ble_eq_true rfl⟩) (fx_preZ hPc hKc hDc hnw hZ hS hFc) rfl rfl hl.1 rfl (lv_room (Nat.le_of_ble_eq_true rfl)) dX10_init_20 ⟨(Nat.le_of_ble_eq_true rfl), (Nat.le_of_ble_eq_true rfl)⟩) hS (fun q _ h => hFc q h) hFc (fun u t H1 locs ht hvm hw hB hz1 hk1 hS => ?_)
  obtain ⟨hP1, hK1, hD1⟩ := hB
  rw [ht] at hP1
  have hK1 := va_K.moved hvm.symm hK1
  obtain ⟨hP, hD⟩ := va_join (wr := [(h0, .inr (6, [.int 0, .int 0, .ref q_1, .null])), (q_1, .inr (7, [.int 0, .ref tz, .int 0]))]) (w1 := [(q_2, .inr (7, [.int 0, .ref tz, .int 0]))]) hP hD [2] [0, 1] rfl rfl (by decide) (by decide) hk1 hFc hP1 hD1
  have hK := (hK.sub (tys' := []) [] rfl).app hK1
  generalize H1 = H at hP hS ⊢
  have hP : va_P (dC, dI) fxCl [(h0, .inr (6, [.int 0, .int 0, .ref q_1, .null])), (q_1, .inr (7, [.int 0, .ref tz, .int 0])), (q_2, .inr (7, [.int 0, .ref tz, .int 0]))] H := hP
  have hD : va_D A [(h0, .inr (6, [.int 0, .int 0, .ref q_1, .null])), (q_1, .inr (7, [.int 0, .ref tz, .int 0])), (q_2, .inr (7, [.int 0, .ref tz, .int 0]))] := hD
  have hK : va_K (dC, dI) fxCl [] s := hK
  refine va_putF (D := (dC, dI)) (ci := 6) (v := .ref q_2) (ty := .object "java/util/List") (C := RX10) (T := TX10) (N := 4) hx hb hts (by decide +kernel) tyX10 tyX10_ok nmX10 hown hK hP hD hS 0 rfl rfl 3 (by decide) (hts (.fieldLink RX10 16 "UrnwrightModel" "rows" "Ljava/util/List;") (by decide +kernel)) (fun _ h9 => h9) rfl hin rfl (by decide +kernel) rfl rfl (Nat.le_of_ble_eq_true rfl) dX10_init_23 (fun H locs hP hD hS => ?_)
  have hP : va_P (dC, dI) fxCl [(h0, .inr (6, [.int 0, .int 0, .ref q_1, .ref q_2])), (q_1, .inr (7, [.int 0, .ref tz, .int 0])), (q_2, .inr (7, [.int 0, .ref tz, .int 0]))] H := hP
  have hD : va_D A [(h0, .inr (6, [.int 0, .int 0, .ref q_1, .ref q_2])), (q_1, .inr (7, [.int 0, .ref tz, .int 0])), (q_2, .inr (7, [.int 0, .ref tz, .int 0]))] := hD
  have hP9 := hP.sub (ws' := [(h0, .inr (6, [.int 0, .int 0, .ref q_1, .ref q_2]))]) [0] rfl
  have hD9 := hD.sub (ws' := [(h0, .inr (6, [.int 0, .int 0, .ref q_1, .ref q_2]))]) [0] (by decide) rfl
  have hK9 := hK.sub (tys' := []) [] rfl
  refine W.widen (k := 2) (n := 6) (Nat.le_of_ble_eq_true rfl) (Nat.le_of_ble_eq_true rfl) ?_
  exact W.vret hx hb hr (fun t ht hW => ⟨⟨(), rfl, trivial, q_1, q_2, by rw [ht]; exact hP9, va_K.moved hW.alike hK9, hD9⟩, hS.F ht⟩) hS.2.2 dX10_init_26
set_option maxHeartbeats 4000000 in
set_option maxRecDepth 100000 in
/-- Sum() -/
theorem c_X8_init (l : Launch) (dC : Nat → ClassId) (dI : Nat → Nat → Nat) (h0 : Nat) (sz : Nat) : Met l yX8_init wsX8_init ({ frames := 1, cells := 0, slots := 0, locals := 40 } : Room) (va_Pc [.ref h0] (fx_st dC dI [(h0, .inr (5, [.long 0, .long 0]))] [] sz)) (va_Qv (fun _ : Unit => True) (fun _ t => fx_en dC dI (va_A [(h0, .inr (5, [.long 0, .long 0]))] sz) [(h0, .inr (5, [.long 0, .long 1]))] [] t) (va_A [(h0, .inr (5, [.long 0, .long 0]))] sz)) 0 0 (va_A [(h0, .inr (5, [.long 0, .long 0]))] sz) := by
  refine Met.ofW (cc := cX8_init) (maxL := 1) (ret := none) (by decide) rfl ?_
  intro p e s m args below meth c s₁ B hml hv
  obtain ⟨rfl, hsz, hP, hK, hD0, hnw⟩ := hv
  have hx := B.exec
  have hb := B.bytes
  have hr := B.returns
  have hts := atoms_spec (ws := wsX8_init) B.pre
  have hown : s.vm.findClass RX8 = some m.cls := findClass_of_methodNamed B.named
  have hlocks := B.notSynchronized
  have hin : meth.name = "<init>" := (name_of_methodNamed B.named B.method).1
  subst hsz
  have hD := hD0.self (sz := s.heap.size)
  generalize hAe : va_A [(h0, .inr (5, [.long 0, .long 0]))] s.heap.size = A at hD ⊢
  have hA : ∀ q : Nat, s.heap.size ≤ q → A q := fun q h => by rw [← hAe]; exact Or.inr h
  obtain ⟨H, hHe⟩ : ∃ H, H = s.heap := ⟨_, rfl⟩
  have hS : va_S A s.heap H [] := by rw [hHe]; exact va_S.rf
  have hP : va_P (dC, dI) fxCl [(h0, .inr (5, [.long 0, .long 0]))] H := by rw [hHe]; exact hP
  refine fx_h hHe ?_
  have hl := lv_entry ([.ref h0]) (n := 1) (Nat.le_of_ble_eq_true rfl)
  rw [lg_entry_eq]
  generalize (lg_sl ([.ref h0]) ++ List.replicate (1 - (lg_sl ([.ref h0])).length) Slot.unset).toArray = ls at hl ⊢
  have hl : lv_has ls 1 [(0, .ref h0)] := hl
  refine lv_aload_n hx hb dX8_init_0 rfl (lv_at hl 0 rfl) ?_
  refine W.objInit hx hb hown (hts (.methodLink RX8 1 objectInit) (by decide +kernel)) (hts (.instanceMethod objectInit) (by decide +kernel)) (hts (.code objectInit ⟨#[0xb1]⟩ 1 none) (by decide +kernel)) rfl (by rw [hml]; exact hl.1) rfl dX8_init_1 (Nat.le_of_ble_eq_true rfl) (Nat.le_of_ble_eq_true rfl) ?_
  refine W.eq (g2 := F0 m 4 ls []) rfl ?_
  refine lv_aload_n hx hb dX8_init_4 rfl (lv_at hl 0 rfl) ?_
  refine lv_lconst (v := 0) hx hb dX8_init_5 (by decide) ?_
  refine va_put (D := (dC, dI)) (ci := 5) (v := .long 0) (ty := .long) (C := RX8) (T := TX8) (N := 2) hx hb hts (by decide +kernel) tyX8 tyX8_ok nmX8 hown hK hP hD hS 0 rfl rfl 0 (by decide) (hts (.fieldLink RX8 7 "UrnwrightModel$Sum" "up" "J") (by decide +kernel)) (fun _ h9 => h9) rfl (by decide +kernel) rfl rfl (Nat.le_of_ble_eq_true rfl) dX8_init_6 (fun H locs hP hD hS => ?_)
  have hP : va_P (dC, dI) fxCl [(h0, .inr (5, [.long 0, .long 0]))] H := hP
  have hD : va_D A [(h0, .inr (5, [.long 0, .long 0]))] := hD
  refine lv_aload_n hx hb dX8_init_9 rfl (lv_at hl 0 rfl) ?_
  refine lv_lconst (v := 1) hx hb dX8_init_10 (by decide) ?_
  refine va_put (D := (dC, dI)) (ci := 5) (v := .long 1) (ty := .long) (C := RX8) (T := TX8) (N := 2) hx hb hts (by decide +kernel) tyX8 tyX8_ok nmX8 hown hK hP hD hS 0 rfl rfl 1 (by decide) (hts (.fieldLink RX8 13 "UrnwrightModel$Sum" "down" "J") (by decide +kernel)) (fun _ h9 => h9) rfl (by decide +kernel) rfl rfl (Nat.le_of_ble_eq_true rfl) dX8_init_11 (fun H locs hP hD hS => ?_)
  have hP : va_P (dC, dI) fxCl [(h0, .inr (5, [.long 0, .long 1]))] H := hP
  have hD : va_D A [(h0, .inr (5, [.long 0, .long 1]))] := hD
  have hP9 := hP.sub (ws' := [(h0, .inr (5, [.long 0, .long 1]))]) [0] rfl
  have hD9 := hD.sub (ws' := [(h0, .inr (5, [.long 0, .long 1]))]) [0] (by decide) rfl
  have hK9 := hK.sub (tys' := []) [] rfl
  exact W.vret hx hb hr (fun t ht hW => ⟨⟨(), rfl, trivial, by rw [ht]; exact hP9, va_K.moved hW.alike hK9, hD9⟩, hS.F ht⟩) hS.2.2 dX8_init_14
set_option maxHeartbeats 4000000 in
set_option maxRecDepth 100000 in
/-- add(1, a, 9375000) to a fresh sum -/
theorem c_X8_add (l : Launch) (dC : Nat → ClassId) (dI : Nat → Nat → Nat) (h0 : Nat) (a : Int64) (sz : Nat) : Met l yX8_add wsX8_add ({ frames := 2, cells := 0, slots := 0, locals := 80 } : Room) (va_Pc [.ref h0, .long 1, .long a, .long 9375000] (fx_st dC dI [(h0, .inr (5, [.long 0, .long 1]))] [] sz)) (va_Qr (fun _ : Unit => True) (fun _ ra t => h0 = ra ∧ ∃ (x y : Int64), fx_en dC dI (va_A [(h0, .inr (5, [.long 0, .long 1]))] sz) [(h0, .inr (5, [.long x, .long y]))] [] t) (va_A [(h0, .inr (5, [.long 0, .long 1]))] sz)) 0 0 (va_A [(h0, .inr (5, [.long 0, .long 1]))] sz) := by
  refine Met.ofW (cc := cX8_add) (maxL := 15) (ret := (some (.object "UrnwrightModel$Sum"))) (by decide) rfl ?_
  intro p e s m args below meth c s₁ B hml hv
  obtain ⟨rfl, hsz, hP, hK, hD0, hnw⟩ := hv
  have hx := B.exec
  have hb := B.bytes
  have hr := B.returns
  have hts := atoms_spec (ws := wsX8_add) B.pre
  have hown : s.vm.findClass RX8 = some m.cls := findClass_of_methodNamed B.named
  have hlocks := B.notSynchronized
  subst hsz
  have hD := hD0.self (sz := s.heap.size)
  generalize hAe : va_A [(h0, .inr (5, [.long 0, .long 1]))] s.heap.size = A at hD ⊢
  have hA : ∀ q : Nat, s.heap.size ≤ q → A q := fun q h => by rw [← hAe]; exact Or.inr h
  obtain ⟨H, hHe⟩ : ∃ H, H = s.heap := ⟨_, rfl⟩
  have hS : va_S A s.heap H [] := by rw [hHe]; exact va_S.rf
  have hP : va_P (dC, dI) fxCl [(h0, .inr (5, [.long 0, .long 1]))] H := by rw [hHe]; exact hP
  refine fx_h hHe ?_
  have hl := lv_entry ([.ref h0, .long 1, .long a, .long 9375000]) (n := 15) (Nat.le_of_ble_eq_true rfl)
  rw [lg_entry_eq]
  generalize (lg_sl ([.ref h0, .long 1, .long a, .long 9375000]) ++ List.replicate (15 - (lg_sl ([.ref h0, .long 1, .long a, .long 9375000])).length) Slot.unset).toArray = ls at hl ⊢
  have hl : lv_has ls 15 [(0, .ref h0), (1, .long 1), (3, .long a), (5, .long 9375000)] := hl
  refine lv_aload_n hx hb dX8_add_0 rfl (lv_at hl 0 rfl) ?_
  refine va_get (D := (dC, dI)) (ci := 5) (v := .long 1) (C := RX8) (T := TX8) (N := 2) hx hb hts (by decide +kernel) hown hK hP 0 rfl rfl 1 (by decide) (hts (.fieldLink RX8 13 "UrnwrightModel$Sum" "down" "J") (by decide +kernel)) (fun _ h9 => h9) rfl dX8_add_1 ?_
  refine lv_lload hx hb dX8_add_4 (lv_at hl 3 rfl) ?_
  refine vp_callSl ((va_runSN (As := [.long 1, .long 9375000]) (rest := []) ⟨hx, hb, hml, hown, hts⟩ (c_X10_common l 1 9375000 fx_I1 (fun r => r = 1) (Or.inl ⟨rfl, rfl⟩) fx_I1s fx_I1e) ⟨va_cnB 2 hts gX8_add_X10_common_n16 rfl rfl rfl (hnw.2.2.2.2.2.2.2.2.1) (hts (.initialized RX10) (by decide +kernel)) (by decide +kernel) ⟨Nat.le_of_ble_eq_true rfl, Nat.le_of_ble_eq_true rfl⟩, hts (.static yX10_common) (by decide +kernel), trivial⟩ preEq rfl rfl hl.1 rfl (lv_room (Nat.le_of_ble_eq_true rfl)) dX8_add_6 ⟨Nat.le_of_ble_eq_true rfl, Nat.le_of_ble_eq_true rfl⟩).run) (fun r_1 hr_1 => ?_)
  obtain rfl : r_1 = (1 : Int64) := hr_1
  refine lv_lstore (lv' := [(7, .long 1), (0, .ref h0), (1, .long 1), (3, .long a), (5, .long 9375000)]) hx hb dX8_add_9 hl (by decide) rfl (fun ls hl => ?_)
  refine lv_aload_n hx hb dX8_add_11 rfl (lv_at hl 1 rfl) ?_
  refine va_get (D := (dC, dI)) (ci := 5) (v := .long 0) (C := RX8) (T := TX8) (N := 2) hx hb hts (by decide +kernel) hown hK hP 0 rfl rfl 0 (by decide) (hts (.fieldLink RX8 7 "UrnwrightModel$Sum" "up" "J") (by decide +kernel)) (fun _ h9 => h9) rfl dX8_add_12 ?_
  refine lv_lload hx hb dX8_add_15 (lv_at hl 4 rfl) ?_
  refine lv_lload hx hb dX8_add_17 (lv_at hl 0 rfl) ?_
  refine lv_ldiv hx hb dX8_add_19 (by decide) ?_
  refine lv_topl (fun x_2 ex_2 => ?_)
  obtain rfl : x_2 = (9375000 : Int64) := ex_2.trans (by decide)
  refine lv_lmul hx hb dX8_add_20 ?_
  refine lv_topl (fun x_3 ex_3 => ?_)
  obtain rfl : x_3 = (0 : Int64) := ex_3.trans (by decide)
  refine lv_lload_n hx hb dX8_add_21 rfl (lv_at hl 2 rfl) ?_
  refine lv_lload_n hx hb dX8_add_22 rfl (lv_at hl 3 rfl) ?_
  refine lv_lmul hx hb dX8_add_23 ?_
  refine lv_topl (fun x_4 ex_4 => ?_)
  refine lv_aload_n hx hb dX8_add_24 rfl (lv_at hl 1 rfl) ?_
  refine va_get (D := (dC, dI)) (ci := 5) (v := .long 1) (C := RX8) (T := TX8) (N := 2) hx hb hts (by decide +kernel) hown hK hP 0 rfl rfl 1 (by decide) (hts (.fieldLink RX8 13 "UrnwrightModel$Sum" "down" "J") (by decide +kernel)) (fun _ h9 => h9) rfl dX8_add_25 ?_
  refine lv_lload hx hb dX8_add_28 (lv_at hl 0 rfl) ?_
  refine lv_ldiv hx hb dX8_add_30 (by decide) ?_
  refine lv_topl (fun x_5 ex_5 => ?_)
  obtain rfl : x_5 = (1 : Int64) := ex_5.trans (by decide)
  refine lv_lmul hx hb dX8_add_31 ?_
  refine lv_topl (fun x_6 ex_6 => ?_)
  refine lv_ladd hx hb dX8_add_32 ?_
  refine lv_topl (fun x_7 ex_7 => ?_)
  refine lv_lstore (lv' := [(9, .long x_7), (7, .long 1), (0, .ref h0), (1, .long 1), (3, .long a), (5, .long 9375000)]) hx hb dX8_add_33 hl (by decide) rfl (fun ls hl => ?_)
  refine lv_aload_n hx hb dX8_add_35 rfl (lv_at hl 2 rfl) ?_
  refine va_get (D := (dC, dI)) (ci := 5) (v := .long 1) (C := RX8) (T := TX8) (N := 2) hx hb hts (by decide +kernel) hown hK hP 0 rfl rfl 1 (by decide) (hts (.fieldLink RX8 13 "UrnwrightModel$Sum" "down" "J") (by decide +kernel)) (fun _ h9 => h9) rfl dX8_add_36 ?_
  refine lv_lload hx hb dX8_add_39 (lv_at hl 1 rfl) ?_
  refine lv_ldiv hx hb dX8_add_41 (by decide) ?_
  refine lv_topl (fun x_8 ex_8 => ?_)
  obtain rfl : x_8 = (1 : Int64) := ex_8.trans (by decide)
  refine lv_lload hx hb dX8_add_42 (lv_at hl 5 rfl) ?_
  refine lv_lmul hx hb dX8_add_44 ?_
  refine lv_topl (fun x_9 ex_9 => ?_)
  obtain rfl : x_9 = (9375000 : Int64) := ex_9.trans (by decide)
  refine lv_lstore (lv' := [(11, .long 9375000), (9, .long x_7), (7, .long 1), (0, .ref h0), (1, .long 1), (3, .long a), (5, .long 9375000)]) hx hb dX8_add_45 hl (by decide) rfl (fun ls hl => ?_)
  refine lv_lload hx hb dX8_add_47 (lv_at hl 1 rfl) ?_
  refine va_mabs_long hx hb (hml.trans hl.1.symm) hown (hts (.methodLink RX8 22 Lib.MathLoose.abs_long.x) (by decide +kernel)) (hts (.static Lib.MathLoose.abs_long.x) (by decide +kernel)) (hts (.initialized "java/lang/Math") (by decide +kernel)) (hts (.code Lib.MathLoose.abs_long.x Lib.MathLoose.abs_long.code 2 (some .long)) (by decide +kernel)) (Nat.le_of_ble_eq_true rfl) (Nat.le_of_ble_eq_true rfl) (Nat.le_of_ble_eq_true rfl) (Nat.le_of_ble_eq_true rfl) dX8_add_49 ?_
  refine lv_topl (fun x_10 ex_10 => ?_)
  refine lv_lload hx hb dX8_add_52 (lv_at hl 0 rfl) ?_
  refine vp_callSl ((va_runSN (As := [.long x_10, .long 9375000]) (rest := []) ⟨hx, hb, hml, hown, hts⟩ (c_X10_common l x_10 9375000 (fun a b => ¬ a = 0 ∨ ¬ b = 0) (fun r => ¬ r = 0) (Or.inr (by decide)) (fun _ _ _ h => Or.inl h) (fun _ h => h.elim id (fun q => absurd rfl q))) ⟨va_cnB 2 hts gX8_add_X10_common_n16 rfl rfl rfl (hnw.2.2.2.2.2.2.2.2.1) (hts (.initialized RX10) (by decide +kernel)) (by decide +kernel) ⟨Nat.le_of_ble_eq_true rfl, Nat.le_of_ble_eq_true rfl⟩, hts (.static yX10_common) (by decide +kernel), trivial⟩ preEq rfl rfl hl.1 rfl (lv_room (Nat.le_of_ble_eq_true rfl)) dX8_add_54 ⟨Nat.le_of_ble_eq_true rfl, Nat.le_of_ble_eq_true rfl⟩).run) (fun r_11 hr_11 => ?_)
  refine lv_lstore (lv' := [(13, .long r_11), (11, .long 9375000), (9, .long x_7), (7, .long 1), (0, .ref h0), (1, .long 1), (3, .long a), (5, .long 9375000)]) hx hb dX8_add_57 hl (by decide) rfl (fun ls hl => ?_)
  refine lv_aload_n hx hb dX8_add_59 rfl (lv_at hl 4 rfl) ?_
  refine lv_lload hx hb dX8_add_60 (lv_at hl 2 rfl) ?_
  refine lv_lload hx hb dX8_add_62 (lv_at hl 0 rfl) ?_
  refine lv_ldiv hx hb dX8_add_64 hr_11 ?_
  refine lv_topl (fun x_12 ex_12 => ?_)
  refine va_put (D := (dC, dI)) (ci := 5) (v := .long x_12) (ty := .long) (C := RX8) (T := TX8) (N := 2) hx hb hts (by decide +kernel) tyX8 tyX8_ok nmX8 hown hK hP hD hS 0 rfl rfl 0 (by decide) (hts (.fieldLink RX8 7 "UrnwrightModel$Sum" "up" "J") (by decide +kernel)) (fun _ h9 => h9) rfl (by decide +kernel) rfl rfl (Nat.le_of_ble_eq_true rfl) dX8_add_65 (fun H locs hP hD hS => ?_)
  have hP : va_P (dC, dI) fxCl [(h0, .inr (5, [.long x_12, .long 1]))] H := hP
  have hD : va_D A [(h0, .inr (5, [.long x_12, .long 1]))] := hD
  refine lv_aload_n hx hb dX8_add_68 rfl (lv_at hl 4 rfl) ?_
  refine lv_lload hx hb dX8_add_69 (lv_at hl 1 rfl) ?_
  refine lv_lload hx hb dX8_add_71 (lv_at hl 0 rfl) ?_
  refine lv_ldiv hx hb dX8_add_73 hr_11 ?_
  refine lv_topl (fun x_13 ex_13 => ?_)
  refine va_put (D := (dC, dI)) (ci := 5) (v := .long x_13) (ty := .long) (C := RX8) (T := TX8) (N := 2) hx hb hts (by decide +kernel) tyX8 tyX8_ok nmX8 hown hK hP hD hS 0 rfl rfl 1 (by decide) (hts (.fieldLink RX8 13 "UrnwrightModel$Sum" "down" "J") (by decide +kernel)) (fun _ h9 => h9) rfl (by decide +kernel) rfl rfl (Nat.le_of_ble_eq_true rfl) dX8_add_74 (fun H locs hP hD hS => ?_)
  have hP : va_P (dC, dI) fxCl [(h0, .inr (5, [.long x_12, .long x_13]))] H := hP
  have hD : va_D A [(h0, .inr (5, [.long x_12, .long x_13]))] := hD
  refine lv_aload_n hx hb dX8_add_77 rfl (lv_at hl 4 rfl) ?_
  have hP9 := hP.sub (ws' := [(h0, .inr (5, [.long x_12, .long x_13]))]) [0] rfl
  have hD9 := hD.sub (ws' := [(h0, .inr (5, [.long x_12, .long x_13]))]) [0] (by decide) rfl
  have hK9 := hK.sub (tys' := []) [] rfl
  exact W.aret (v := .ref h0) hx hb hr (by first | exact Or.inl ⟨_, rfl⟩ | exact Or.inr ⟨_, rfl⟩) (Or.inr ⟨_, rfl⟩) (fun t ht hW => ⟨⟨(), h0, rfl, trivial, rfl, x_12, x_13, by rw [ht]; exact hP9, va_K.moved hW.alike hK9, hD9⟩, hS.F ht⟩) hS.2.2 dX8_add_78
set_option maxHeartbeats 4000000 in
set_option maxRecDepth 100000 in
/-- part(z) -/
theorem c_X8_part (l : Launch) (dC : Nat → ClassId) (dI : Nat → Nat → Nat) (h0 : Nat) (z : Int32) (x y : Int64) (sz : Nat) : Met l yX8_part wsX8_part ({ frames := 0, cells := 0, slots := 0, locals := 0 } : Room) (va_Pc [.ref h0, .int z] (fx_st dC dI [(h0, .inr (5, [.long x, .long y]))] [] sz)) (vp_Sl (fun _ => True)) 0 0 (fun _ => False) := by
  refine Met.ofW (cc := cX8_part) (maxL := 2) (ret := (some .long)) (by decide) rfl ?_
  intro p e s m args below meth c s₁ B hml hv
  obtain ⟨rfl, hsz, hP, hK, hD0, hnw⟩ := hv
  have hx := B.exec
  have hb := B.bytes
  have hr := B.returns
  have hts := atoms_spec (ws := wsX8_part) B.pre
  have hown : s.vm.findClass RX8 = some m.cls := findClass_of_methodNamed B.named
  have hlocks := B.notSynchronized
  subst hsz
  have hD := hD0
  generalize hHe : s.heap = H at hP ⊢
  have hK : va_K (dC, dI) fxCl [] s := hK
  have hl := lv_entry ([.ref h0, .int z]) (n := 2) (Nat.le_of_ble_eq_true rfl)
  rw [lg_entry_eq]
  generalize (lg_sl ([.ref h0, .int z]) ++ List.replicate (2 - (lg_sl ([.ref h0, .int z])).length) Slot.unset).toArray = ls at hl ⊢
  have hl : lv_has ls 2 [(0, .ref h0), (1, .int z)] := hl
  refine lv_iload_n hx hb dX8_part_0 rfl (lv_at hl 1 rfl) ?_
  refine lv_if_eq (tgt := 11) hx hb dX8_part_1 (by decide) (fun c_1 => ?_) (fun c_1 => ?_)
  · skip
    refine lv_aload_n hx hb dX8_part_11 rfl (lv_at hl 0 rfl) ?_
    refine va_get (D := (dC, dI)) (ci := 5) (v := .long x) (C := RX8) (T := TX8) (N := 2) hx hb hts (by decide +kernel) hown hK hP 0 rfl rfl 0 (by decide) (hts (.fieldLink RX8 7 "UrnwrightModel$Sum" "up" "J") (by decide +kernel)) (fun _ h9 => h9) rfl dX8_part_12 ?_
    exact W.lret (v := x) hx hb hr (fun t ht hW => ⟨x, rfl, trivial, ht.trans hHe.symm⟩) (fun _ h => by cases h) dX8_part_15
  · skip
    refine lv_aload_n hx hb dX8_part_4 rfl (lv_at hl 0 rfl) ?_
    refine va_get (D := (dC, dI)) (ci := 5) (v := .long y) (C := RX8) (T := TX8) (N := 2) hx hb hts (by decide +kernel) hown hK hP 0 rfl rfl 1 (by decide) (hts (.fieldLink RX8 13 "UrnwrightModel$Sum" "down" "J") (by decide +kernel)) (fun _ h9 => h9) rfl dX8_part_5 ?_
    refine lv_goto (tgt := 15) hx hb dX8_part_8 (by decide) ?_
    exact W.lret (v := y) hx hb hr (fun t ht hW => ⟨y, rfl, trivial, ht.trans hHe.symm⟩) (fun _ h => by cases h) dX8_part_15
set_option maxHeartbeats 4000000 in
set_option maxRecDepth 100000 in
/-- shuffled(ways, 5) -/
theorem c_X10_shuffled (l : Launch) (dC : Nat → ClassId) (dI : Nat → Nat → Nat) (q : Nat) (cA : ClassId) (f : Nat → Int64) (sz : Nat) : Met l yX10_shuffled wsX10_shuffled ({ frames := 0, cells := 1, slots := 3125, locals := 0 } : Room) (va_Pc [.ref q, .int 5] (fx_st dC dI [(q, .inl (cA, 3125, .inr (.inl f)))] [(cA, .long)] sz)) (va_Qr (fun _ : Unit => True) (fun _ q2 t => ∃ (cB : ClassId) (g : Nat → Int64), fx_en dC dI (va_A [(q, .inl (cA, 3125, .inr (.inl f)))] sz) [(q, .inl (cA, 3125, .inr (.inl f))), (q2, .inl (cB, 3125, .inr (.inl g)))] [(cA, .long), (cB, .long)] t) (va_A [(q, .inl (cA, 3125, .inr (.inl f)))] sz)) 1 3125 (va_A [(q, .inl (cA, 3125, .inr (.inl f)))] sz) := by
  refine Met.ofW (cc := cX10_shuffled) (maxL := 10) (ret := (some (.array .long))) (by decide) rfl ?_
  intro p e s m args below meth c s₁ B hml hv
  obtain ⟨rfl, hsz, hP, hK, hD0, hnw⟩ := hv
  have hx := B.exec
  have hb := B.bytes
  have hr := B.returns
  have hts := atoms_spec (ws := wsX10_shuffled) B.pre
  have hown : s.vm.findClass RX10 = some m.cls := findClass_of_methodNamed B.named
  have hlocks := B.notSynchronized
  subst hsz
  have hD := hD0.self (sz := s.heap.size)
  generalize hAe : va_A [(q, .inl (cA, 3125, .inr (.inl f)))] s.heap.size = A at hD ⊢
  have hA : ∀ q : Nat, s.heap.size ≤ q → A q := fun q h => by rw [← hAe]; exact Or.inr h
  obtain ⟨H, hHe⟩ : ∃ H, H = s.heap := ⟨_, rfl⟩
  have hS : va_S A s.heap H [] := by rw [hHe]; exact va_S.rf
  have hP : va_P (dC, dI) fxCl [(q, .inl (cA, 3125, .inr (.inl f)))] H := by rw [hHe]; exact hP
  refine fx_h hHe ?_
  have hl := lv_entry ([.ref q, .int 5]) (n := 10) (Nat.le_of_ble_eq_true rfl)
  rw [lg_entry_eq]
  generalize (lg_sl ([.ref q, .int 5]) ++ List.replicate (10 - (lg_sl ([.ref q, .int 5])).length) Slot.unset).toArray = ls at hl ⊢
  have hl : lv_has ls 10 [(0, .ref q), (1, .int 5)] := hl
  refine lv_aload_n hx hb dX10_shuffled_0 rfl (lv_at hl 0 rfl) ?_
  refine va_alen (v := 3125) hx hb hK hP 0 0 rfl rfl rfl dX10_shuffled_1 ?_
  refine va_newa (atype := .long) (ty := .long) (N' := 3125) (a0 := (3125, .inr (.inl fun _ => 0))) hx hb (hts (.arrayClass .long) (by decide +kernel)) rfl hK hP hD hS hA (fun _ => rfl) (by decide) (by decide) (Nat.le_of_ble_eq_true rfl) (Nat.le_of_ble_eq_true rfl) (Nat.le_of_ble_eq_true rfl) dX10_shuffled_2 (fun q_1 cA_2 H hK hP hD hS => ?_)
  refine W.widen (k := 1) (n := 3125) (Nat.le_of_ble_eq_true rfl) (Nat.le_of_ble_eq_true rfl) ?_
  have hP : va_P (dC, dI) fxCl [(q, .inl (cA, 3125, .inr (.inl f))), (q_1, .inl (cA_2, 3125, .inr (.inl (fun _ => 0))))] H := hP
  have hD : va_D A [(q, .inl (cA, 3125, .inr (.inl f))), (q_1, .inl (cA_2, 3125, .inr (.inl (fun _ => 0))))] := hD
  have hK : va_K (dC, dI) fxCl [(cA, .long), (cA_2, .long)] s := hK
  refine lv_astore_n (lv' := [(2, .ref q_1), (0, .ref q), (1, .int 5)]) hx hb dX10_shuffled_4 rfl hl (by decide) rfl (fun ls hl => ?_)
  refine lv_iconst (v := 0) hx hb dX10_shuffled_5 (by decide) ?_
  refine lv_istore_n (lv' := [(3, .int 0), (2, .ref q_1), (0, .ref q), (1, .int 5)]) hx hb dX10_shuffled_6 rfl hl (by decide) rfl (fun ls hl => ?_)
  have loop_7 : ∀ (n_loop_7 : Nat) (j : Nat) (g : Nat → Int64) (H : Heap) (locs : List Loc) (ls : Array Slot), 4000 - j < n_loop_7 → j ≤ 3125 → va_P (dC, dI) fxCl [(q, .inl (cA, 3125, .inr (.inl f))), (q_1, .inl (cA_2, 3125, .inr (.inl g)))] H → va_D A [(q, .inl (cA, 3125, .inr (.inl f))), (q_1, .inl (cA_2, 3125, .inr (.inl g)))] → va_S A s.heap H locs → lv_has ls 10 [(3, .int (nI j)), (2, .ref q_1), (0, .ref q), (1, .int 5)] → W p l e (headSpec wsX10_shuffled ({ frames := 0, cells := 1, slots := 3125, locals := 0 } : Room)).room s m ([.ref q, .int 5] : List Value).toArray below meth c H locs 1 3125 (MQ below (va_Qr (fun _ : Unit => True) (fun _ q2 t => ∃ (cB : ClassId) (g : Nat → Int64), fx_en dC dI (A) [(q, .inl (cA, 3125, .inr (.inl f))), (q2, .inl (cB, 3125, .inr (.inl g)))] [(cA, .long), (cB, .long)] t) (A)) ([.ref q, .int 5] : List Value).toArray s 1 3125 A) (F0 m 7 ls []) := by
    intro n_loop_7
    induction n_loop_7 with
    | zero => intro j g H locs ls hn; exact absurd hn (Nat.not_lt_zero _)
    | succ n_loop_7 ih_loop_7 =>
      intro j g H locs ls hn_loop_7 hinv_loop_7 hP hD hS hl
      refine lv_iload_n hx hb dX10_shuffled_7 rfl (lv_at hl 0 rfl) ?_
      refine lv_aload_n hx hb dX10_shuffled_8 rfl (lv_at hl 2 rfl) ?_
      refine va_alen (v := 3125) hx hb hK hP 0 0 rfl rfl rfl dX10_shuffled_9 ?_
      refine lv_icmp_ge (tgt := 99) hx hb dX10_shuffled_10 (by decide) (fun c_7 => ?_) (fun c_7 => ?_)
      · skip
        refine lv_aload_n hx hb dX10_shuffled_99 rfl (lv_at hl 1 rfl) ?_
        have hP9 := hP.sub (ws' := [(q, .inl (cA, 3125, .inr (.inl f))), (q_1, .inl (cA_2, 3125, .inr (.inl g)))]) [0, 1] rfl
        have hD9 := hD.sub (ws' := [(q, .inl (cA, 3125, .inr (.inl f))), (q_1, .inl (cA_2, 3125, .inr (.inl g)))]) [0, 1] (by decide) rfl
        have hK9 := hK.sub (tys' := [(cA, .long), (cA_2, .long)]) [0, 1] rfl
        refine W.widen (k := 1) (n := 3125) (Nat.le_of_ble_eq_true rfl) (Nat.le_of_ble_eq_true rfl) ?_
        exact W.aret (v := .ref q_1) hx hb hr (by first | exact Or.inl ⟨_, rfl⟩ | exact Or.inr ⟨_, rfl⟩) (Or.inr ⟨_, rfl⟩) (fun t ht hW => ⟨⟨(), q_1, rfl, trivial, cA_2, g, by rw [ht]; exact hP9, va_K.moved hW.alike hK9, hD9⟩, hS.F ht⟩) hS.2.2 dX10_shuffled_100
      · skip
        have hj5 : j < 3125 := fx_ge (n := 3125) c_7 (by decide) (by omega)
        refine lv_aload_n hx hb dX10_shuffled_13 rfl (lv_at hl 2 rfl) ?_
        refine lv_iload_n hx hb dX10_shuffled_14 rfl (lv_at hl 0 rfl) ?_
        refine va_lald hx hb hK hP 0 0 rfl rfl (vp_in_nI (N := 3125) hj5 (by decide)) dX10_shuffled_15 ?_
        refine lv_topl (fun x_3 ex_3 => ?_)
        refine lv_lconst (v := 0) hx hb dX10_shuffled_16 (by decide) ?_
        refine W.lcmp hx hb dX10_shuffled_17 ?_
        refine lv_if_ne (tgt := 24) hx hb dX10_shuffled_18 (by decide) (fun c_4 => ?_) (fun c_4 => ?_)
        · skip
          refine lv_iload_n hx hb dX10_shuffled_24 rfl (lv_at hl 0 rfl) ?_
          refine lv_iload_n hx hb dX10_shuffled_25 rfl (lv_at hl 3 rfl) ?_
          refine lv_irem hx hb dX10_shuffled_26 (by decide) ?_
          refine lv_topi (fun x_5 ex_5 => ?_)
          obtain rfl : x_5 = nI (j % 5) := ex_5.trans (pk_rem (a := j) (d := 5) (by omega) (by omega) (by omega))
          refine lv_istore (lv' := [(4, .int (nI (j % 5))), (3, .int (nI j)), (2, .ref q_1), (0, .ref q), (1, .int 5)]) hx hb dX10_shuffled_27 hl (by decide) rfl (fun ls hl => ?_)
          refine lv_iload_n hx hb dX10_shuffled_29 rfl (lv_at hl 1 rfl) ?_
          refine lv_iload_n hx hb dX10_shuffled_30 rfl (lv_at hl 4 rfl) ?_
          refine lv_idiv hx hb dX10_shuffled_31 (by decide) ?_
          refine lv_topi (fun x_6 ex_6 => ?_)
          obtain rfl : x_6 = nI (j / 5) := ex_6.trans (pk_div (a := j) (d := 5) (by omega) (by omega) (by omega))
          refine lv_istore (lv' := [(5, .int (nI (j / 5))), (4, .int (nI (j % 5))), (3, .int (nI j)), (2, .ref q_1), (0, .ref q), (1, .int 5)]) hx hb dX10_shuffled_32 hl (by decide) rfl (fun ls hl => ?_)
          refine lv_iconst (v := 1) hx hb dX10_shuffled_34 (by decide) ?_
          refine lv_istore (lv' := [(6, .int 1), (5, .int (nI (j / 5))), (4, .int (nI (j % 5))), (3, .int (nI j)), (2, .ref q_1), (0, .ref q), (1, .int 5)]) hx hb dX10_shuffled_35 hl (by decide) rfl (fun ls hl => ?_)
          refine lv_iconst (v := 0) hx hb dX10_shuffled_37 (by decide) ?_
          refine lv_istore (lv' := [(7, .int 0), (6, .int 1), (5, .int (nI (j / 5))), (4, .int (nI (j % 5))), (3, .int (nI j)), (2, .ref q_1), (0, .ref q), (1, .int 5)]) hx hb dX10_shuffled_38 hl (by decide) rfl (fun ls hl => ?_)
          have loop_40 : ∀ (n_loop_40 : Nat) (k t : Nat) (g : Nat → Int64) (H : Heap) (locs : List Loc) (ls : Array Slot), 10 - k < n_loop_40 → (k ≤ 5 ∧ t = 5 ^ k) → va_P (dC, dI) fxCl [(q, .inl (cA, 3125, .inr (.inl f))), (q_1, .inl (cA_2, 3125, .inr (.inl g)))] H → va_D A [(q, .inl (cA, 3125, .inr (.inl f))), (q_1, .inl (cA_2, 3125, .inr (.inl g)))] → va_S A s.heap H locs → lv_has ls 10 [(7, .int (nI k)), (6, .int (nI t)), (4, .int (nI (j % 5))), (5, .int (nI (j / 5))), (3, .int (nI j)), (2, .ref q_1), (0, .ref q), (1, .int 5)] → W p l e (headSpec wsX10_shuffled ({ frames := 0, cells := 1, slots := 3125, locals := 0 } : Room)).room s m ([.ref q, .int 5] : List Value).toArray below meth c H locs 1 3125 (MQ below (va_Qr (fun _ : Unit => True) (fun _ q2 t => ∃ (cB : ClassId) (g : Nat → Int64), fx_en dC dI (A) [(q, .inl (cA, 3125, .inr (.inl f))), (q2, .inl (cB, 3125, .inr (.inl g)))] [(cA, .long), (cB, .long)] t) (A)) ([.ref q, .int 5] : List Value).toArray s 1 3125 A) (F0 m 40 ls []) := by
            intro n_loop_40
            induction n_loop_40 with
            | zero => intro k t g H locs ls hn; exact absurd hn (Nat.not_lt_zero _)
            | succ n_loop_40 ih_loop_40 =>
              intro k t g H locs ls hn_loop_40 hinv_loop_40 hP hD hS hl
              refine lv_iload hx hb dX10_shuffled_40 (lv_at hl 0 rfl) ?_
              refine lv_iload_n hx hb dX10_shuffled_42 rfl (lv_at hl 7 rfl) ?_
              refine lv_icmp_ge (tgt := 93) hx hb dX10_shuffled_43 (by decide) (fun c_40 => ?_) (fun c_40 => ?_)
              · skip
                refine lv_iinc (v := nI (j + 1)) (lv' := [(3, .int (nI (j + 1))), (7, .int (nI k)), (6, .int (nI t)), (4, .int (nI (j % 5))), (5, .int (nI (j / 5))), (2, .ref q_1), (0, .ref q), (1, .int 5)]) hx hb dX10_shuffled_93 hl (k := 4) rfl (nI_add j 1) (by decide) rfl (fun ls hl => ?_)
                refine lv_goto (tgt := 7) hx hb dX10_shuffled_96 (by decide) ?_
                exact ih_loop_7 (j + 1) g H locs ls (by omega) (by omega) (hP.sub [0, 1] rfl) (hD.sub [0, 1] (by decide) rfl) hS (lv_sub hl [0, 5, 6, 7] rfl)
              · skip
                have hk5 : k < 5 := fx_ge (n := 5) c_40 (by decide) (by omega)
                have h10 := fx_ten hinv_loop_40.2 hk5
                have htp : 0 < t ∧ t ≤ 625 := by omega
                have hB : (j / 5 / t * 5 + j % 5) * t + j / 5 % t < 3125 := by
                  rcases h10 with e | e | e | e | e <;> rw [e] <;> omega
                refine lv_iload hx hb dX10_shuffled_46 (lv_at hl 3 rfl) ?_
                refine lv_iload hx hb dX10_shuffled_48 (lv_at hl 1 rfl) ?_
                refine lv_irem hx hb dX10_shuffled_50 (nI_ne0 htp.1 (by omega)) ?_
                refine lv_topi (fun x_7 ex_7 => ?_)
                obtain rfl : x_7 = nI ((j / 5) % t) := ex_7.trans (pk_rem (a := j / 5) (d := t) (by omega) (by omega) (by omega))
                refine lv_istore (lv' := [(8, .int (nI ((j / 5) % t))), (7, .int (nI k)), (6, .int (nI t)), (4, .int (nI (j % 5))), (5, .int (nI (j / 5))), (3, .int (nI j)), (2, .ref q_1), (0, .ref q), (1, .int 5)]) hx hb dX10_shuffled_51 hl (by decide) rfl (fun ls hl => ?_)
                refine lv_iload hx hb dX10_shuffled_53 (lv_at hl 4 rfl) ?_
                refine lv_iload hx hb dX10_shuffled_55 (lv_at hl 2 rfl) ?_
                refine lv_idiv hx hb dX10_shuffled_57 (nI_ne0 htp.1 (by omega)) ?_
                refine lv_topi (fun x_8 ex_8 => ?_)
                obtain rfl : x_8 = nI ((j / 5) / t) := ex_8.trans (pk_div (a := j / 5) (d := t) (by omega) (by omega) (by omega))
                refine lv_istore (lv' := [(9, .int (nI ((j / 5) / t))), (8, .int (nI ((j / 5) % t))), (7, .int (nI k)), (6, .int (nI t)), (4, .int (nI (j % 5))), (5, .int (nI (j / 5))), (3, .int (nI j)), (2, .ref q_1), (0, .ref q), (1, .int 5)]) hx hb dX10_shuffled_58 hl (by decide) rfl (fun ls hl => ?_)
                refine lv_aload_n hx hb dX10_shuffled_60 rfl (lv_at hl 7 rfl) ?_
                refine lv_iload hx hb dX10_shuffled_61 (lv_at hl 0 rfl) ?_
                refine lv_iload_n hx hb dX10_shuffled_63 rfl (lv_at hl 9 rfl) ?_
                refine lv_imul hx hb dX10_shuffled_64 ?_
                refine lv_topi (fun x_9 ex_9 => ?_)
                obtain rfl : x_9 = nI (((j / 5) / t) * 5) := ex_9.trans (pk_mul ((j / 5) / t) 5)
                refine lv_iload hx hb dX10_shuffled_65 (lv_at hl 4 rfl) ?_
                refine lv_iadd hx hb dX10_shuffled_67 ?_
                refine lv_topi (fun x_10 ex_10 => ?_)
                obtain rfl : x_10 = nI ((((j / 5) / t) * 5) + (j % 5)) := ex_10.trans (nI_add (((j / 5) / t) * 5) (j % 5))
                refine lv_iload hx hb dX10_shuffled_68 (lv_at hl 3 rfl) ?_
                refine lv_imul hx hb dX10_shuffled_70 ?_
                refine lv_topi (fun x_11 ex_11 => ?_)
                obtain rfl : x_11 = nI (((((j / 5) / t) * 5) + (j % 5)) * t) := ex_11.trans (pk_mul ((((j / 5) / t) * 5) + (j % 5)) t)
                refine lv_iload hx hb dX10_shuffled_71 (lv_at hl 1 rfl) ?_
                refine lv_iadd hx hb dX10_shuffled_73 ?_
                refine lv_topi (fun x_12 ex_12 => ?_)
                obtain rfl : x_12 = nI ((((((j / 5) / t) * 5) + (j % 5)) * t) + ((j / 5) % t)) := ex_12.trans (nI_add (((((j / 5) / t) * 5) + (j % 5)) * t) ((j / 5) % t))
                refine lv_dup2_11 hx hb dX10_shuffled_74 rfl rfl ?_
                refine va_lald hx hb hK hP 1 1 rfl rfl (vp_in_nI (N := 3125) hB (by decide)) dX10_shuffled_75 ?_
                refine lv_topl (fun x_13 ex_13 => ?_)
                refine lv_aload_n hx hb dX10_shuffled_76 rfl (lv_at hl 8 rfl) ?_
                refine lv_iload_n hx hb dX10_shuffled_77 rfl (lv_at hl 6 rfl) ?_
                refine va_lald hx hb hK hP 0 0 rfl rfl (vp_in_nI (N := 3125) hj5 (by decide)) dX10_shuffled_78 ?_
                refine lv_topl (fun x_14 ex_14 => ?_)
                refine lv_ladd hx hb dX10_shuffled_79 ?_
                refine lv_topl (fun x_15 ex_15 => ?_)
                refine va_last hx hb hK hP hD hS 1 1 rfl rfl (vp_in_nI (N := 3125) hB (by decide)) dX10_shuffled_80 (fun H locs hP hD hS => ?_)
                obtain ⟨f_16, ef_16⟩ : ∃ g9 : Nat → Int64, g9 = vp_updL g (nI ((((((j / 5) / t) * 5) + (j % 5)) * t) + ((j / 5) % t))).toNatClampNeg x_15 := ⟨_, rfl⟩
                rw [← ef_16] at hP hD
                have hP : va_P (dC, dI) fxCl [(q, .inl (cA, 3125, .inr (.inl f))), (q_1, .inl (cA_2, 3125, .inr (.inl f_16)))] H := hP
                have hD : va_D A [(q, .inl (cA, 3125, .inr (.inl f))), (q_1, .inl (cA_2, 3125, .inr (.inl f_16)))] := hD
                refine lv_iload hx hb dX10_shuffled_81 (lv_at hl 3 rfl) ?_
                refine lv_iload_n hx hb dX10_shuffled_83 rfl (lv_at hl 9 rfl) ?_
                refine lv_imul hx hb dX10_shuffled_84 ?_
                refine lv_topi (fun x_17 ex_17 => ?_)
                obtain rfl : x_17 = nI (t * 5) := ex_17.trans (pk_mul t 5)
                refine lv_istore (lv' := [(6, .int (nI (t * 5))), (9, .int (nI ((j / 5) / t))), (8, .int (nI ((j / 5) % t))), (7, .int (nI k)), (4, .int (nI (j % 5))), (5, .int (nI (j / 5))), (3, .int (nI j)), (2, .ref q_1), (0, .ref q), (1, .int 5)]) hx hb dX10_shuffled_85 hl (by decide) rfl (fun ls hl => ?_)
                refine lv_iinc (v := nI (k + 1)) (lv' := [(7, .int (nI (k + 1))), (6, .int (nI (t * 5))), (9, .int (nI ((j / 5) / t))), (8, .int (nI ((j / 5) % t))), (4, .int (nI (j % 5))), (5, .int (nI (j / 5))), (3, .int (nI j)), (2, .ref q_1), (0, .ref q), (1, .int 5)]) hx hb dX10_shuffled_87 hl (k := 3) rfl (nI_add k 1) (by decide) rfl (fun ls hl => ?_)
                refine lv_goto (tgt := 40) hx hb dX10_shuffled_90 (by decide) ?_
                exact ih_loop_40 (k + 1) (t * 5) f_16 H locs ls (by omega) ⟨by omega, by rw [hinv_loop_40.2, Nat.pow_succ]⟩ (hP.sub [0, 1] rfl) (hD.sub [0, 1] (by decide) rfl) hS (lv_sub hl [0, 1, 4, 5, 6, 7, 8, 9] rfl)
          exact loop_40 11 0 1 g H locs ls (by omega) ⟨by omega, rfl⟩ (hP.sub [0, 1] rfl) (hD.sub [0, 1] (by decide) rfl) hS (lv_sub hl [0, 1, 3, 2, 4, 5, 6, 7] rfl)
        · skip
          refine lv_goto (tgt := 93) hx hb dX10_shuffled_21 (by decide) ?_
          refine lv_iinc (v := nI (j + 1)) (lv' := [(3, .int (nI (j + 1))), (2, .ref q_1), (0, .ref q), (1, .int 5)]) hx hb dX10_shuffled_93 hl (k := 0) rfl (nI_add j 1) (by decide) rfl (fun ls hl => ?_)
          refine lv_goto (tgt := 7) hx hb dX10_shuffled_96 (by decide) ?_
          exact ih_loop_7 (j + 1) g H locs ls (by omega) (by omega) (hP.sub [0, 1] rfl) (hD.sub [0, 1] (by decide) rfl) hS (lv_sub hl [0, 1, 2, 3] rfl)
  exact loop_7 4001 0 (fun _ => 0) H _ ls (by omega) (by omega) (hP.sub [0, 1] rfl) (hD.sub [0, 1] (by decide) rfl) hS (lv_sub hl [0, 1, 2, 3] rfl)
end
section
set_option maxHeartbeats 4000000 in
set_option maxRecDepth 100000 in
/-- far(5, 7, z) of the reference: eight rows of 3125 longs -/
theorem c_X10_far (l : Launch) (dC : Nat → ClassId) (dI : Nat → Nat → Nat) (h0 u1 u2 : Nat) (th kn z : Int32) (sz : Nat) : Met l yX10_far wsX10_far ({ frames := 3, cells := 9, slots := 25002, locals := 200 } : Room) (va_Pc [.ref h0, .int 5, .int 7, .int z] (fx_st dC dI [(h0, .inr (6, [.int th, .int kn, .ref u1, .ref u2]))] [] sz)) (va_Ql (fun (_ : Int64) (_ : Unit) => True) (fun _ t => ∃ L8 : List Nat, L8.length = 8 ∧ fx_big sz t.heap L8 ∧ fx_en dC dI (va_A [(h0, .inr (6, [.int th, .int kn, .ref u1, .ref u2]))] sz) [(h0, .inr (6, [.int 0, .int kn, .ref u1, .ref u2]))] [] t) (va_A [(h0, .inr (6, [.int th, .int kn, .ref u1, .ref u2]))] sz)) 9 25002 (va_A [(h0, .inr (6, [.int th, .int kn, .ref u1, .ref u2]))] sz) := by
  refine Met.ofW (cc := cX10_far) (maxL := 18) (ret := (some .long)) (by decide) rfl ?_
  intro p e s m args below meth c s₁ B hml hv
  obtain ⟨rfl, hsz, hP, hK, hD0, hnw⟩ := hv
  have hx := B.exec
  have hb := B.bytes
  have hr := B.returns
  have hts := atoms_spec (ws := wsX10_far) B.pre
  have hown : s.vm.findClass RX10 = some m.cls := findClass_of_methodNamed B.named
  have hlocks := B.notSynchronized
  subst hsz
  have hD := hD0.self (sz := s.heap.size)
  generalize hAe : va_A [(h0, .inr (6, [.int th, .int kn, .ref u1, .ref u2]))] s.heap.size = A at hD ⊢
  have hA : ∀ q : Nat, s.heap.size ≤ q → A q := fun q h => by rw [← hAe]; exact Or.inr h
  obtain ⟨H, hHe⟩ : ∃ H, H = s.heap := ⟨_, rfl⟩
  have hS : va_S A s.heap H [] := by rw [hHe]; exact va_S.rf
  have hP : va_P (dC, dI) fxCl [(h0, .inr (6, [.int th, .int kn, .ref u1, .ref u2]))] H := by rw [hHe]; exact hP
  refine fx_h hHe ?_
  have hl := lv_entry ([.ref h0, .int 5, .int 7, .int z]) (n := 18) (Nat.le_of_ble_eq_true rfl)
  rw [lg_entry_eq]
  generalize (lg_sl ([.ref h0, .int 5, .int 7, .int z]) ++ List.replicate (18 - (lg_sl ([.ref h0, .int 5, .int 7, .int z])).length) Slot.unset).toArray = ls at hl ⊢
  have hl : lv_has ls 18 [(0, .ref h0), (1, .int 5), (2, .int 7), (3, .int z)] := hl
  refine lv_aload_n hx hb dX10_far_0 rfl (lv_at hl 0 rfl) ?_
  refine lv_iconst (v := 0) hx hb dX10_far_1 (by decide) ?_
  refine va_put (D := (dC, dI)) (ci := 6) (v := .int 0) (ty := .int) (C := RX10) (T := TX10) (N := 4) hx hb hts (by decide +kernel) tyX10 tyX10_ok nmX10 hown hK hP hD hS 0 rfl rfl 0 (by decide) (hts (.fieldLink RX10 19 "UrnwrightModel" "thrown" "I") (by decide +kernel)) (fun _ h9 => h9) rfl (by decide +kernel) rfl rfl (Nat.le_of_ble_eq_true rfl) dX10_far_2 (fun H locs hP hD hS => ?_)
  have hP : va_P (dC, dI) fxCl [(h0, .inr (6, [.int 0, .int kn, .ref u1, .ref u2]))] H := hP
  have hD : va_D A [(h0, .inr (6, [.int 0, .int kn, .ref u1, .ref u2]))] := hD
  refine lv_iload_n hx hb dX10_far_5 rfl (lv_at hl 1 rfl) ?_
  refine lv_iconst (v := 1) hx hb dX10_far_6 (by decide) ?_
  refine lv_iconst (v := 5) hx hb dX10_far_7 (by decide) ?_
  refine vp_callSi (W.runS (As := [.int 5, .int 1, .int 5]) (rest := []) ⟨hx, hb, hml, hown, hts⟩ (c_X10_in l 5 1 5) (va_cwS 3 hts gX10_far_X10_in rfl rfl rfl (by decide +kernel) ⟨Nat.le_of_ble_eq_true rfl, Nat.le_of_ble_eq_true rfl⟩) preEq rfl rfl hl.1 rfl (lv_room (Nat.le_of_ble_eq_true rfl)) dX10_far_8 ⟨Nat.le_of_ble_eq_true rfl, Nat.le_of_ble_eq_true rfl⟩) (fun r_1 hr_1 => ?_)
  obtain rfl : r_1 = (1 : Int32) := hr_1 (by decide) (by decide)
  refine lv_if_eq (tgt := 24) hx hb dX10_far_11 (by decide) (fun c => absurd c (by decide)) (fun _ => ?_)
  refine lv_iload_n hx hb dX10_far_14 rfl (lv_at hl 2 rfl) ?_
  refine lv_iconst (v := 0) hx hb dX10_far_15 (by decide) ?_
  refine lv_bipush (v := 7) hx hb dX10_far_16 (by decide) ?_
  refine vp_callSi (W.runS (As := [.int 7, .int 0, .int 7]) (rest := []) ⟨hx, hb, hml, hown, hts⟩ (c_X10_in l 7 0 7) (va_cwS 3 hts gX10_far_X10_in rfl rfl rfl (by decide +kernel) ⟨Nat.le_of_ble_eq_true rfl, Nat.le_of_ble_eq_true rfl⟩) preEq rfl rfl hl.1 rfl (lv_room (Nat.le_of_ble_eq_true rfl)) dX10_far_18 ⟨Nat.le_of_ble_eq_true rfl, Nat.le_of_ble_eq_true rfl⟩) (fun r_2 hr_2 => ?_)
  obtain rfl : r_2 = (1 : Int32) := hr_2 (by decide) (by decide)
  refine lv_if_ne (tgt := 31) hx hb dX10_far_21 (by decide) (fun _ => ?_) (fun c => absurd c (by decide))
  refine lv_iconst (v := 1) hx hb dX10_far_31 (by decide) ?_
  refine lv_istore (lv' := [(4, .int 1), (0, .ref h0), (1, .int 5), (2, .int 7), (3, .int z)]) hx hb dX10_far_32 hl (by decide) rfl (fun ls hl => ?_)
  refine lv_iconst (v := 0) hx hb dX10_far_34 (by decide) ?_
  refine lv_istore (lv' := [(5, .int 0), (4, .int 1), (0, .ref h0), (1, .int 5), (2, .int 7), (3, .int z)]) hx hb dX10_far_35 hl (by decide) rfl (fun ls hl => ?_)
  refine lv_lconst (v := 1) hx hb dX10_far_37 (by decide) ?_
  refine lv_lstore (lv' := [(6, .long 1), (5, .int 0), (4, .int 1), (0, .ref h0), (1, .int 5), (2, .int 7), (3, .int z)]) hx hb dX10_far_38 hl (by decide) rfl (fun ls hl => ?_)
  refine lv_iconst (v := 0) hx hb dX10_far_40 (by decide) ?_
  refine lv_istore (lv' := [(8, .int 0), (6, .long 1), (5, .int 0), (4, .int 1), (0, .ref h0), (1, .int 5), (2, .int 7), (3, .int z)]) hx hb dX10_far_41 hl (by decide) rfl (fun ls hl => ?_)
  refine lv_iload hx hb dX10_far_43 (lv_at hl 0 rfl) ?_
  refine lv_iload_n hx hb dX10_far_45 rfl (lv_at hl 5 rfl) ?_
  refine lv_icmp_ge (tgt := 81) hx hb dX10_far_46 (by decide) (fun c => absurd c (by decide)) (fun _ => ?_)
  refine lv_iload hx hb dX10_far_49 (lv_at hl 2 rfl) ?_
  refine lv_iload hx hb dX10_far_51 (lv_at hl 0 rfl) ?_
  refine lv_iload hx hb dX10_far_53 (lv_at hl 3 rfl) ?_
  refine lv_imul hx hb dX10_far_55 ?_
  refine lv_topi (fun x_3 ex_3 => ?_)
  obtain rfl : x_3 = (0 : Int32) := ex_3.trans (by decide)
  refine lv_iadd hx hb dX10_far_56 ?_
  refine lv_topi (fun x_4 ex_4 => ?_)
  obtain rfl : x_4 = (0 : Int32) := ex_4.trans (by decide)
  refine lv_istore (lv' := [(5, .int 0), (8, .int 0), (6, .long 1), (4, .int 1), (0, .ref h0), (1, .int 5), (2, .int 7), (3, .int z)]) hx hb dX10_far_57 hl (by decide) rfl (fun ls hl => ?_)
  refine lv_iload hx hb dX10_far_59 (lv_at hl 3 rfl) ?_
  refine lv_iload_n hx hb dX10_far_61 rfl (lv_at hl 5 rfl) ?_
  refine lv_imul hx hb dX10_far_62 ?_
  refine lv_topi (fun x_5 ex_5 => ?_)
  obtain rfl : x_5 = (5 : Int32) := ex_5.trans (by decide)
  refine lv_istore (lv' := [(4, .int 5), (5, .int 0), (8, .int 0), (6, .long 1), (0, .ref h0), (1, .int 5), (2, .int 7), (3, .int z)]) hx hb dX10_far_63 hl (by decide) rfl (fun ls hl => ?_)
  refine lv_lload hx hb dX10_far_65 (lv_at hl 3 rfl) ?_
  refine lv_iload hx hb dX10_far_67 (lv_at hl 2 rfl) ?_
  refine lv_iconst (v := 1) hx hb dX10_far_69 (by decide) ?_
  refine lv_iadd hx hb dX10_far_70 ?_
  refine lv_topi (fun x_6 ex_6 => ?_)
  obtain rfl : x_6 = (1 : Int32) := ex_6.trans (by decide)
  refine lv_i2l (v := 1) hx hb dX10_far_71 (by decide) ?_
  refine lv_lmul hx hb dX10_far_72 ?_
  refine lv_topl (fun x_7 ex_7 => ?_)
  obtain rfl : x_7 = (1 : Int64) := ex_7.trans (by decide)
  refine lv_lstore (lv' := [(6, .long 1), (4, .int 5), (5, .int 0), (8, .int 0), (0, .ref h0), (1, .int 5), (2, .int 7), (3, .int z)]) hx hb dX10_far_73 hl (by decide) rfl (fun ls hl => ?_)
  refine lv_iinc (v := 1) (lv' := [(8, .int 1), (6, .long 1), (4, .int 5), (5, .int 0), (0, .ref h0), (1, .int 5), (2, .int 7), (3, .int z)]) hx hb dX10_far_75 hl (k := 3) rfl (by decide) (by decide) rfl (fun ls hl => ?_)
  refine lv_goto (tgt := 43) hx hb dX10_far_78 (by decide) ?_
  refine lv_iload hx hb dX10_far_43 (lv_at hl 0 rfl) ?_
  refine lv_iload_n hx hb dX10_far_45 rfl (lv_at hl 5 rfl) ?_
  refine lv_icmp_ge (tgt := 81) hx hb dX10_far_46 (by decide) (fun c => absurd c (by decide)) (fun _ => ?_)
  refine lv_iload hx hb dX10_far_49 (lv_at hl 3 rfl) ?_
  refine lv_iload hx hb dX10_far_51 (lv_at hl 0 rfl) ?_
  refine lv_iload hx hb dX10_far_53 (lv_at hl 2 rfl) ?_
  refine lv_imul hx hb dX10_far_55 ?_
  refine lv_topi (fun x_8 ex_8 => ?_)
  obtain rfl : x_8 = (5 : Int32) := ex_8.trans (by decide)
  refine lv_iadd hx hb dX10_far_56 ?_
  refine lv_topi (fun x_9 ex_9 => ?_)
  obtain rfl : x_9 = (5 : Int32) := ex_9.trans (by decide)
  refine lv_istore (lv' := [(5, .int 5), (8, .int 1), (6, .long 1), (4, .int 5), (0, .ref h0), (1, .int 5), (2, .int 7), (3, .int z)]) hx hb dX10_far_57 hl (by decide) rfl (fun ls hl => ?_)
  refine lv_iload hx hb dX10_far_59 (lv_at hl 3 rfl) ?_
  refine lv_iload_n hx hb dX10_far_61 rfl (lv_at hl 5 rfl) ?_
  refine lv_imul hx hb dX10_far_62 ?_
  refine lv_topi (fun x_10 ex_10 => ?_)
  obtain rfl : x_10 = (25 : Int32) := ex_10.trans (by decide)
  refine lv_istore (lv' := [(4, .int 25), (5, .int 5), (8, .int 1), (6, .long 1), (0, .ref h0), (1, .int 5), (2, .int 7), (3, .int z)]) hx hb dX10_far_63 hl (by decide) rfl (fun ls hl => ?_)
  refine lv_lload hx hb dX10_far_65 (lv_at hl 3 rfl) ?_
  refine lv_iload hx hb dX10_far_67 (lv_at hl 2 rfl) ?_
  refine lv_iconst (v := 1) hx hb dX10_far_69 (by decide) ?_
  refine lv_iadd hx hb dX10_far_70 ?_
  refine lv_topi (fun x_11 ex_11 => ?_)
  obtain rfl : x_11 = (2 : Int32) := ex_11.trans (by decide)
  refine lv_i2l (v := 2) hx hb dX10_far_71 (by decide) ?_
  refine lv_lmul hx hb dX10_far_72 ?_
  refine lv_topl (fun x_12 ex_12 => ?_)
  obtain rfl : x_12 = (2 : Int64) := ex_12.trans (by decide)
  refine lv_lstore (lv' := [(6, .long 2), (4, .int 25), (5, .int 5), (8, .int 1), (0, .ref h0), (1, .int 5), (2, .int 7), (3, .int z)]) hx hb dX10_far_73 hl (by decide) rfl (fun ls hl => ?_)
  refine lv_iinc (v := 2) (lv' := [(8, .int 2), (6, .long 2), (4, .int 25), (5, .int 5), (0, .ref h0), (1, .int 5), (2, .int 7), (3, .int z)]) hx hb dX10_far_75 hl (k := 3) rfl (by decide) (by decide) rfl (fun ls hl => ?_)
  refine lv_goto (tgt := 43) hx hb dX10_far_78 (by decide) ?_
  refine lv_iload hx hb dX10_far_43 (lv_at hl 0 rfl) ?_
  refine lv_iload_n hx hb dX10_far_45 rfl (lv_at hl 5 rfl) ?_
  refine lv_icmp_ge (tgt := 81) hx hb dX10_far_46 (by decide) (fun c => absurd c (by decide)) (fun _ => ?_)
  refine lv_iload hx hb dX10_far_49 (lv_at hl 3 rfl) ?_
  refine lv_iload hx hb dX10_far_51 (lv_at hl 0 rfl) ?_
  refine lv_iload hx hb dX10_far_53 (lv_at hl 2 rfl) ?_
  refine lv_imul hx hb dX10_far_55 ?_
  refine lv_topi (fun x_13 ex_13 => ?_)
  obtain rfl : x_13 = (50 : Int32) := ex_13.trans (by decide)
  refine lv_iadd hx hb dX10_far_56 ?_
  refine lv_topi (fun x_14 ex_14 => ?_)
  obtain rfl : x_14 = (55 : Int32) := ex_14.trans (by decide)
  refine lv_istore (lv' := [(5, .int 55), (8, .int 2), (6, .long 2), (4, .int 25), (0, .ref h0), (1, .int 5), (2, .int 7), (3, .int z)]) hx hb dX10_far_57 hl (by decide) rfl (fun ls hl => ?_)
  refine lv_iload hx hb dX10_far_59 (lv_at hl 3 rfl) ?_
  refine lv_iload_n hx hb dX10_far_61 rfl (lv_at hl 5 rfl) ?_
  refine lv_imul hx hb dX10_far_62 ?_
  refine lv_topi (fun x_15 ex_15 => ?_)
  obtain rfl : x_15 = (125 : Int32) := ex_15.trans (by decide)
  refine lv_istore (lv' := [(4, .int 125), (5, .int 55), (8, .int 2), (6, .long 2), (0, .ref h0), (1, .int 5), (2, .int 7), (3, .int z)]) hx hb dX10_far_63 hl (by decide) rfl (fun ls hl => ?_)
  refine lv_lload hx hb dX10_far_65 (lv_at hl 3 rfl) ?_
  refine lv_iload hx hb dX10_far_67 (lv_at hl 2 rfl) ?_
  refine lv_iconst (v := 1) hx hb dX10_far_69 (by decide) ?_
  refine lv_iadd hx hb dX10_far_70 ?_
  refine lv_topi (fun x_16 ex_16 => ?_)
  obtain rfl : x_16 = (3 : Int32) := ex_16.trans (by decide)
  refine lv_i2l (v := 3) hx hb dX10_far_71 (by decide) ?_
  refine lv_lmul hx hb dX10_far_72 ?_
  refine lv_topl (fun x_17 ex_17 => ?_)
  obtain rfl : x_17 = (6 : Int64) := ex_17.trans (by decide)
  refine lv_lstore (lv' := [(6, .long 6), (4, .int 125), (5, .int 55), (8, .int 2), (0, .ref h0), (1, .int 5), (2, .int 7), (3, .int z)]) hx hb dX10_far_73 hl (by decide) rfl (fun ls hl => ?_)
  refine lv_iinc (v := 3) (lv' := [(8, .int 3), (6, .long 6), (4, .int 125), (5, .int 55), (0, .ref h0), (1, .int 5), (2, .int 7), (3, .int z)]) hx hb dX10_far_75 hl (k := 3) rfl (by decide) (by decide) rfl (fun ls hl => ?_)
  refine lv_goto (tgt := 43) hx hb dX10_far_78 (by decide) ?_
  refine lv_iload hx hb dX10_far_43 (lv_at hl 0 rfl) ?_
  refine lv_iload_n hx hb dX10_far_45 rfl (lv_at hl 5 rfl) ?_
  refine lv_icmp_ge (tgt := 81) hx hb dX10_far_46 (by decide) (fun c => absurd c (by decide)) (fun _ => ?_)
  refine lv_iload hx hb dX10_far_49 (lv_at hl 3 rfl) ?_
  refine lv_iload hx hb dX10_far_51 (lv_at hl 0 rfl) ?_
  refine lv_iload hx hb dX10_far_53 (lv_at hl 2 rfl) ?_
  refine lv_imul hx hb dX10_far_55 ?_
  refine lv_topi (fun x_18 ex_18 => ?_)
  obtain rfl : x_18 = (375 : Int32) := ex_18.trans (by decide)
  refine lv_iadd hx hb dX10_far_56 ?_
  refine lv_topi (fun x_19 ex_19 => ?_)
  obtain rfl : x_19 = (430 : Int32) := ex_19.trans (by decide)
  refine lv_istore (lv' := [(5, .int 430), (8, .int 3), (6, .long 6), (4, .int 125), (0, .ref h0), (1, .int 5), (2, .int 7), (3, .int z)]) hx hb dX10_far_57 hl (by decide) rfl (fun ls hl => ?_)
  refine lv_iload hx hb dX10_far_59 (lv_at hl 3 rfl) ?_
  refine lv_iload_n hx hb dX10_far_61 rfl (lv_at hl 5 rfl) ?_
  refine lv_imul hx hb dX10_far_62 ?_
  refine lv_topi (fun x_20 ex_20 => ?_)
  obtain rfl : x_20 = (625 : Int32) := ex_20.trans (by decide)
  refine lv_istore (lv' := [(4, .int 625), (5, .int 430), (8, .int 3), (6, .long 6), (0, .ref h0), (1, .int 5), (2, .int 7), (3, .int z)]) hx hb dX10_far_63 hl (by decide) rfl (fun ls hl => ?_)
  refine lv_lload hx hb dX10_far_65 (lv_at hl 3 rfl) ?_
  refine lv_iload hx hb dX10_far_67 (lv_at hl 2 rfl) ?_
  refine lv_iconst (v := 1) hx hb dX10_far_69 (by decide) ?_
  refine lv_iadd hx hb dX10_far_70 ?_
  refine lv_topi (fun x_21 ex_21 => ?_)
  obtain rfl : x_21 = (4 : Int32) := ex_21.trans (by decide)
  refine lv_i2l (v := 4) hx hb dX10_far_71 (by decide) ?_
  refine lv_lmul hx hb dX10_far_72 ?_
  refine lv_topl (fun x_22 ex_22 => ?_)
  obtain rfl : x_22 = (24 : Int64) := ex_22.trans (by decide)
  refine lv_lstore (lv' := [(6, .long 24), (4, .int 625), (5, .int 430), (8, .int 3), (0, .ref h0), (1, .int 5), (2, .int 7), (3, .int z)]) hx hb dX10_far_73 hl (by decide) rfl (fun ls hl => ?_)
  refine lv_iinc (v := 4) (lv' := [(8, .int 4), (6, .long 24), (4, .int 625), (5, .int 430), (0, .ref h0), (1, .int 5), (2, .int 7), (3, .int z)]) hx hb dX10_far_75 hl (k := 3) rfl (by decide) (by decide) rfl (fun ls hl => ?_)
  refine lv_goto (tgt := 43) hx hb dX10_far_78 (by decide) ?_
  refine lv_iload hx hb dX10_far_43 (lv_at hl 0 rfl) ?_
  refine lv_iload_n hx hb dX10_far_45 rfl (lv_at hl 5 rfl) ?_
  refine lv_icmp_ge (tgt := 81) hx hb dX10_far_46 (by decide) (fun c => absurd c (by decide)) (fun _ => ?_)
  refine lv_iload hx hb dX10_far_49 (lv_at hl 3 rfl) ?_
  refine lv_iload hx hb dX10_far_51 (lv_at hl 0 rfl) ?_
  refine lv_iload hx hb dX10_far_53 (lv_at hl 2 rfl) ?_
  refine lv_imul hx hb dX10_far_55 ?_
  refine lv_topi (fun x_23 ex_23 => ?_)
  obtain rfl : x_23 = (2500 : Int32) := ex_23.trans (by decide)
  refine lv_iadd hx hb dX10_far_56 ?_
  refine lv_topi (fun x_24 ex_24 => ?_)
  obtain rfl : x_24 = (2930 : Int32) := ex_24.trans (by decide)
  refine lv_istore (lv' := [(5, .int 2930), (8, .int 4), (6, .long 24), (4, .int 625), (0, .ref h0), (1, .int 5), (2, .int 7), (3, .int z)]) hx hb dX10_far_57 hl (by decide) rfl (fun ls hl => ?_)
  refine lv_iload hx hb dX10_far_59 (lv_at hl 3 rfl) ?_
  refine lv_iload_n hx hb dX10_far_61 rfl (lv_at hl 5 rfl) ?_
  refine lv_imul hx hb dX10_far_62 ?_
  refine lv_topi (fun x_25 ex_25 => ?_)
  obtain rfl : x_25 = (3125 : Int32) := ex_25.trans (by decide)
  refine lv_istore (lv' := [(4, .int 3125), (5, .int 2930), (8, .int 4), (6, .long 24), (0, .ref h0), (1, .int 5), (2, .int 7), (3, .int z)]) hx hb dX10_far_63 hl (by decide) rfl (fun ls hl => ?_)
  refine lv_lload hx hb dX10_far_65 (lv_at hl 3 rfl) ?_
  refine lv_iload hx hb dX10_far_67 (lv_at hl 2 rfl) ?_
  refine lv_iconst (v := 1) hx hb dX10_far_69 (by decide) ?_
  refine lv_iadd hx hb dX10_far_70 ?_
  refine lv_topi (fun x_26 ex_26 => ?_)
  obtain rfl : x_26 = (5 : Int32) := ex_26.trans (by decide)
  refine lv_i2l (v := 5) hx hb dX10_far_71 (by decide) ?_
  refine lv_lmul hx hb dX10_far_72 ?_
  refine lv_topl (fun x_27 ex_27 => ?_)
  obtain rfl : x_27 = (120 : Int64) := ex_27.trans (by decide)
  refine lv_lstore (lv' := [(6, .long 120), (4, .int 3125), (5, .int 2930), (8, .int 4), (0, .ref h0), (1, .int 5), (2, .int 7), (3, .int z)]) hx hb dX10_far_73 hl (by decide) rfl (fun ls hl => ?_)
  refine lv_iinc (v := 5) (lv' := [(8, .int 5), (6, .long 120), (4, .int 3125), (5, .int 2930), (0, .ref h0), (1, .int 5), (2, .int 7), (3, .int z)]) hx hb dX10_far_75 hl (k := 3) rfl (by decide) (by decide) rfl (fun ls hl => ?_)
  refine lv_goto (tgt := 43) hx hb dX10_far_78 (by decide) ?_
  refine lv_iload hx hb dX10_far_43 (lv_at hl 0 rfl) ?_
  refine lv_iload_n hx hb dX10_far_45 rfl (lv_at hl 5 rfl) ?_
  refine lv_icmp_ge (tgt := 81) hx hb dX10_far_46 (by decide) (fun _ => ?_) (fun c => absurd (by decide) c)
  refine lv_iload hx hb dX10_far_81 (lv_at hl 2 rfl) ?_
  refine va_newa (atype := .long) (ty := .long) (N' := 3125) (a0 := (3125, .inr (.inl fun _ => 0))) hx hb (hts (.arrayClass .long) (by decide +kernel)) rfl hK hP hD hS hA (fun _ => rfl) (by decide) (by decide) (Nat.le_of_ble_eq_true rfl) (Nat.le_of_ble_eq_true rfl) (Nat.le_of_ble_eq_true rfl) dX10_far_83 (fun q_28 cA_29 H hK hP hD hS => ?_)
  refine W.widen (k := 1) (n := 3125) (Nat.le_of_ble_eq_true rfl) (Nat.le_of_ble_eq_true rfl) ?_
  have hP : va_P (dC, dI) fxCl [(h0, .inr (6, [.int 0, .int kn, .ref u1, .ref u2])), (q_28, .inl (cA_29, 3125, .inr (.inl (fun _ => 0))))] H := hP
  have hD : va_D A [(h0, .inr (6, [.int 0, .int kn, .ref u1, .ref u2])), (q_28, .inl (cA_29, 3125, .inr (.inl (fun _ => 0))))] := hD
  have hK : va_K (dC, dI) fxCl [(cA_29, .long)] s := hK
  refine lv_astore (lv' := [(8, .ref q_28), (6, .long 120), (4, .int 3125), (5, .int 2930), (0, .ref h0), (1, .int 5), (2, .int 7), (3, .int z)]) hx hb dX10_far_85 hl (by decide) rfl (fun ls hl => ?_)
  refine lv_aload hx hb dX10_far_87 (lv_at hl 0 rfl) ?_
  refine lv_iload hx hb dX10_far_89 (lv_at hl 3 rfl) ?_
  refine lv_lconst (v := 1) hx hb dX10_far_91 (by decide) ?_
  refine va_last hx hb hK hP hD hS 1 0 rfl rfl (show vp_in 2930 3125 from by unfold vp_in; decide) dX10_far_92 (fun H locs hP hD hS => ?_)
  obtain ⟨f_30, ef_30⟩ : ∃ g9 : Nat → Int64, g9 = vp_updL (fun _ => 0) (2930 : Int32).toNatClampNeg 1 := ⟨_, rfl⟩
  rw [← ef_30] at hP hD
  have hP : va_P (dC, dI) fxCl [(h0, .inr (6, [.int 0, .int kn, .ref u1, .ref u2])), (q_28, .inl (cA_29, 3125, .inr (.inl f_30)))] H := hP
  have hD : va_D A [(h0, .inr (6, [.int 0, .int kn, .ref u1, .ref u2])), (q_28, .inl (cA_29, 3125, .inr (.inl f_30)))] := hD
  refine lv_lconst (v := 1) hx hb dX10_far_93 (by decide) ?_
  refine lv_lstore (lv' := [(9, .long 1), (8, .ref q_28), (6, .long 120), (4, .int 3125), (5, .int 2930), (0, .ref h0), (1, .int 5), (2, .int 7), (3, .int z)]) hx hb dX10_far_94 hl (by decide) rfl (fun ls hl => ?_)
  refine lv_iconst (v := 0) hx hb dX10_far_96 (by decide) ?_
  refine lv_istore (lv' := [(11, .int 0), (9, .long 1), (8, .ref q_28), (6, .long 120), (4, .int 3125), (5, .int 2930), (0, .ref h0), (1, .int 5), (2, .int 7), (3, .int z)]) hx hb dX10_far_97 hl (by decide) rfl (fun ls hl => ?_)
  refine lv_iload hx hb dX10_far_99 (lv_at hl 0 rfl) ?_
  refine lv_iload_n hx hb dX10_far_101 rfl (lv_at hl 8 rfl) ?_
  refine lv_icmp_ge (tgt := 126) hx hb dX10_far_102 (by decide) (fun c => absurd c (by decide)) (fun _ => ?_)
  refine lv_aload hx hb dX10_far_105 (lv_at hl 2 rfl) ?_
  refine lv_iload_n hx hb dX10_far_107 rfl (lv_at hl 7 rfl) ?_
  have hPc := hP.sub (ws' := [(q_28, .inl (cA_29, 3125, .inr (.inl f_30)))]) [1] rfl
  have hDc := hD.sub (ws' := [(q_28, .inl (cA_29, 3125, .inr (.inl f_30)))]) [1] (by decide) rfl
  have hKc := hK.sub (tys' := [(cA_29, .long)]) [0] rfl
  have hFc := va_free (wc := [(q_28, .inl (cA_29, 3125, .inr (.inl f_30)))]) hD hS hA [1] rfl
  refine va_callr (va_runS (As := [.ref q_28, .int 5]) (rest := []) ⟨hx, hb, hml, hown, hts⟩ (c_X10_shuffled l dC dI q_28 cA_29 f_30 H.size) (va_cwS 2 hts gX10_far_X10_shuffled rfl rfl rfl (by decide +kernel) ⟨Nat.le_of_ble_eq_true rfl, Nat.le_of_ble_eq_true rfl⟩) (fx_preS hPc hKc hDc hnw) rfl rfl hl.1 rfl (lv_room (Nat.le_of_ble_eq_true rfl)) dX10_far_108 ⟨(Nat.le_of_ble_eq_true rfl), (Nat.le_of_ble_eq_true rfl)⟩) hS (fun q _ h => hFc q h) hFc (fun u q_33 t H1 locs ht hvm hw hB hz1 hk1 hS => ?_)
  obtain ⟨cA_31, f_32, hP1, hK1, hD1⟩ := hB
  rw [ht] at hP1
  have hK1 := va_K.moved hvm.symm hK1
  obtain ⟨hP, hD⟩ := va_join (wr := [(h0, .inr (6, [.int 0, .int kn, .ref u1, .ref u2]))]) (w1 := [(q_28, .inl (cA_29, 3125, .inr (.inl f_30))), (q_33, .inl (cA_31, 3125, .inr (.inl f_32)))]) hP hD [1] [0] rfl rfl (by decide) (by decide) hk1 hFc hP1 hD1
  have hK := (hK.sub (tys' := []) [] rfl).app hK1
  generalize H1 = H at hP hS ⊢
  have hP : va_P (dC, dI) fxCl [(h0, .inr (6, [.int 0, .int kn, .ref u1, .ref u2])), (q_28, .inl (cA_29, 3125, .inr (.inl f_30))), (q_33, .inl (cA_31, 3125, .inr (.inl f_32)))] H := hP
  have hD : va_D A [(h0, .inr (6, [.int 0, .int kn, .ref u1, .ref u2])), (q_28, .inl (cA_29, 3125, .inr (.inl f_30))), (q_33, .inl (cA_31, 3125, .inr (.inl f_32)))] := hD
  have hK : va_K (dC, dI) fxCl [(cA_29, .long), (cA_31, .long)] s := hK
  refine W.widen (k := 2) (n := 6250) (Nat.le_of_ble_eq_true rfl) (Nat.le_of_ble_eq_true rfl) ?_
  refine lv_astore (lv' := [(8, .ref q_33), (11, .int 0), (9, .long 1), (6, .long 120), (4, .int 3125), (5, .int 2930), (0, .ref h0), (1, .int 5), (2, .int 7), (3, .int z)]) hx hb dX10_far_111 hl (by decide) rfl (fun ls hl => ?_)
  refine lv_lload hx hb dX10_far_113 (lv_at hl 2 rfl) ?_
  refine lv_iload_n hx hb dX10_far_115 rfl (lv_at hl 7 rfl) ?_
  refine lv_i2l (v := 5) hx hb dX10_far_116 (by decide) ?_
  refine lv_lmul hx hb dX10_far_117 ?_
  refine lv_topl (fun x_34 ex_34 => ?_)
  obtain rfl : x_34 = (5 : Int64) := ex_34.trans (by decide)
  refine lv_lstore (lv' := [(9, .long 5), (8, .ref q_33), (11, .int 0), (6, .long 120), (4, .int 3125), (5, .int 2930), (0, .ref h0), (1, .int 5), (2, .int 7), (3, .int z)]) hx hb dX10_far_118 hl (by decide) rfl (fun ls hl => ?_)
  refine lv_iinc (v := 1) (lv' := [(11, .int 1), (9, .long 5), (8, .ref q_33), (6, .long 120), (4, .int 3125), (5, .int 2930), (0, .ref h0), (1, .int 5), (2, .int 7), (3, .int z)]) hx hb dX10_far_120 hl (k := 2) rfl (by decide) (by decide) rfl (fun ls hl => ?_)
  refine lv_goto (tgt := 99) hx hb dX10_far_123 (by decide) ?_
  refine lv_iload hx hb dX10_far_99 (lv_at hl 0 rfl) ?_
  refine lv_iload_n hx hb dX10_far_101 rfl (lv_at hl 8 rfl) ?_
  refine lv_icmp_ge (tgt := 126) hx hb dX10_far_102 (by decide) (fun c => absurd c (by decide)) (fun _ => ?_)
  refine lv_aload hx hb dX10_far_105 (lv_at hl 2 rfl) ?_
  refine lv_iload_n hx hb dX10_far_107 rfl (lv_at hl 7 rfl) ?_
  have hPc := hP.sub (ws' := [(q_33, .inl (cA_31, 3125, .inr (.inl f_32)))]) [2] rfl
  have hDc := hD.sub (ws' := [(q_33, .inl (cA_31, 3125, .inr (.inl f_32)))]) [2] (by decide) rfl
  have hKc := hK.sub (tys' := [(cA_31, .long)]) [1] rfl
  have hFc := va_free (wc := [(q_33, .inl (cA_31, 3125, .inr (.inl f_32)))]) hD hS hA [2] rfl
  refine va_callr (va_runS (As := [.ref q_33, .int 5]) (rest := []) ⟨hx, hb, hml, hown, hts⟩ (c_X10_shuffled l dC dI q_33 cA_31 f_32 H.size) (va_cwS 2 hts gX10_far_X10_shuffled rfl rfl rfl (by decide +kernel) ⟨Nat.le_of_ble_eq_true rfl, Nat.le_of_ble_eq_true rfl⟩) (fx_preS hPc hKc hDc hnw) rfl rfl hl.1 rfl (lv_room (Nat.le_of_ble_eq_true rfl)) dX10_far_108 ⟨(Nat.le_of_ble_eq_true rfl), (Nat.le_of_ble_eq_true rfl)⟩) hS (fun q _ h => hFc q h) hFc (fun u q_37 t H1 locs ht hvm hw hB hz1 hk1 hS => ?_)
  obtain ⟨cA_35, f_36, hP1, hK1, hD1⟩ := hB
  rw [ht] at hP1
  have hK1 := va_K.moved hvm.symm hK1
  obtain ⟨hP, hD⟩ := va_join (wr := [(h0, .inr (6, [.int 0, .int kn, .ref u1, .ref u2])), (q_28, .inl (cA_29, 3125, .inr (.inl f_30)))]) (w1 := [(q_33, .inl (cA_31, 3125, .inr (.inl f_32))), (q_37, .inl (cA_35, 3125, .inr (.inl f_36)))]) hP hD [2] [0, 1] rfl rfl (by decide) (by decide) hk1 hFc hP1 hD1
  have hK := (hK.sub (tys' := [(cA_29, .long)]) [0] rfl).app hK1
  generalize H1 = H at hP hS ⊢
  have hP : va_P (dC, dI) fxCl [(h0, .inr (6, [.int 0, .int kn, .ref u1, .ref u2])), (q_28, .inl (cA_29, 3125, .inr (.inl f_30))), (q_33, .inl (cA_31, 3125, .inr (.inl f_32))), (q_37, .inl (cA_35, 3125, .inr (.inl f_36)))] H := hP
  have hD : va_D A [(h0, .inr (6, [.int 0, .int kn, .ref u1, .ref u2])), (q_28, .inl (cA_29, 3125, .inr (.inl f_30))), (q_33, .inl (cA_31, 3125, .inr (.inl f_32))), (q_37, .inl (cA_35, 3125, .inr (.inl f_36)))] := hD
  have hK : va_K (dC, dI) fxCl [(cA_29, .long), (cA_31, .long), (cA_35, .long)] s := hK
  refine W.widen (k := 3) (n := 9375) (Nat.le_of_ble_eq_true rfl) (Nat.le_of_ble_eq_true rfl) ?_
  refine lv_astore (lv' := [(8, .ref q_37), (11, .int 1), (9, .long 5), (6, .long 120), (4, .int 3125), (5, .int 2930), (0, .ref h0), (1, .int 5), (2, .int 7), (3, .int z)]) hx hb dX10_far_111 hl (by decide) rfl (fun ls hl => ?_)
  refine lv_lload hx hb dX10_far_113 (lv_at hl 2 rfl) ?_
  refine lv_iload_n hx hb dX10_far_115 rfl (lv_at hl 7 rfl) ?_
  refine lv_i2l (v := 5) hx hb dX10_far_116 (by decide) ?_
  refine lv_lmul hx hb dX10_far_117 ?_
  refine lv_topl (fun x_38 ex_38 => ?_)
  obtain rfl : x_38 = (25 : Int64) := ex_38.trans (by decide)
  refine lv_lstore (lv' := [(9, .long 25), (8, .ref q_37), (11, .int 1), (6, .long 120), (4, .int 3125), (5, .int 2930), (0, .ref h0), (1, .int 5), (2, .int 7), (3, .int z)]) hx hb dX10_far_118 hl (by decide) rfl (fun ls hl => ?_)
  refine lv_iinc (v := 2) (lv' := [(11, .int 2), (9, .long 25), (8, .ref q_37), (6, .long 120), (4, .int 3125), (5, .int 2930), (0, .ref h0), (1, .int 5), (2, .int 7), (3, .int z)]) hx hb dX10_far_120 hl (k := 2) rfl (by decide) (by decide) rfl (fun ls hl => ?_)
  refine lv_goto (tgt := 99) hx hb dX10_far_123 (by decide) ?_
  refine lv_iload hx hb dX10_far_99 (lv_at hl 0 rfl) ?_
  refine lv_iload_n hx hb dX10_far_101 rfl (lv_at hl 8 rfl) ?_
  refine lv_icmp_ge (tgt := 126) hx hb dX10_far_102 (by decide) (fun c => absurd c (by decide)) (fun _ => ?_)
  refine lv_aload hx hb dX10_far_105 (lv_at hl 2 rfl) ?_
  refine lv_iload_n hx hb dX10_far_107 rfl (lv_at hl 7 rfl) ?_
  have hPc := hP.sub (ws' := [(q_37, .inl (cA_35, 3125, .inr (.inl f_36)))]) [3] rfl
  have hDc := hD.sub (ws' := [(q_37, .inl (cA_35, 3125, .inr (.inl f_36)))]) [3] (by decide) rfl
  have hKc := hK.sub (tys' := [(cA_35, .long)]) [2] rfl
  have hFc := va_free (wc := [(q_37, .inl (cA_35, 3125, .inr (.inl f_36)))]) hD hS hA [3] rfl
  refine va_callr (va_runS (As := [.ref q_37, .int 5]) (rest := []) ⟨hx, hb, hml, hown, hts⟩ (c_X10_shuffled l dC dI q_37 cA_35 f_36 H.size) (va_cwS 2 hts gX10_far_X10_shuffled rfl rfl rfl (by decide +kernel) ⟨Nat.le_of_ble_eq_true rfl, Nat.le_of_ble_eq_true rfl⟩) (fx_preS hPc hKc hDc hnw) rfl rfl hl.1 rfl (lv_room (Nat.le_of_ble_eq_true rfl)) dX10_far_108 ⟨(Nat.le_of_ble_eq_true rfl), (Nat.le_of_ble_eq_true rfl)⟩) hS (fun q _ h => hFc q h) hFc (fun u q_41 t H1 locs ht hvm hw hB hz1 hk1 hS => ?_)
  obtain ⟨cA_39, f_40, hP1, hK1, hD1⟩ := hB
  rw [ht] at hP1
  have hK1 := va_K.moved hvm.symm hK1
  obtain ⟨hP, hD⟩ := va_join (wr := [(h0, .inr (6, [.int 0, .int kn, .ref u1, .ref u2])), (q_28, .inl (cA_29, 3125, .inr (.inl f_30))), (q_33, .inl (cA_31, 3125, .inr (.inl f_32)))]) (w1 := [(q_37, .inl (cA_35, 3125, .inr (.inl f_36))), (q_41, .inl (cA_39, 3125, .inr (.inl f_40)))]) hP hD [3] [0, 1, 2] rfl rfl (by decide) (by decide) hk1 hFc hP1 hD1
  have hK := (hK.sub (tys' := [(cA_29, .long), (cA_31, .long)]) [0, 1] rfl).app hK1
  generalize H1 = H at hP hS ⊢
  have hP : va_P (dC, dI) fxCl [(h0, .inr (6, [.int 0, .int kn, .ref u1, .ref u2])), (q_28, .inl (cA_29, 3125, .inr (.inl f_30))), (q_33, .inl (cA_31, 3125, .inr (.inl f_32))), (q_37, .inl (cA_35, 3125, .inr (.inl f_36))), (q_41, .inl (cA_39, 3125, .inr (.inl f_40)))] H := hP
  have hD : va_D A [(h0, .inr (6, [.int 0, .int kn, .ref u1, .ref u2])), (q_28, .inl (cA_29, 3125, .inr (.inl f_30))), (q_33, .inl (cA_31, 3125, .inr (.inl f_32))), (q_37, .inl (cA_35, 3125, .inr (.inl f_36))), (q_41, .inl (cA_39, 3125, .inr (.inl f_40)))] := hD
  have hK : va_K (dC, dI) fxCl [(cA_29, .long), (cA_31, .long), (cA_35, .long), (cA_39, .long)] s := hK
  refine W.widen (k := 4) (n := 12500) (Nat.le_of_ble_eq_true rfl) (Nat.le_of_ble_eq_true rfl) ?_
  refine lv_astore (lv' := [(8, .ref q_41), (11, .int 2), (9, .long 25), (6, .long 120), (4, .int 3125), (5, .int 2930), (0, .ref h0), (1, .int 5), (2, .int 7), (3, .int z)]) hx hb dX10_far_111 hl (by decide) rfl (fun ls hl => ?_)
  refine lv_lload hx hb dX10_far_113 (lv_at hl 2 rfl) ?_
  refine lv_iload_n hx hb dX10_far_115 rfl (lv_at hl 7 rfl) ?_
  refine lv_i2l (v := 5) hx hb dX10_far_116 (by decide) ?_
  refine lv_lmul hx hb dX10_far_117 ?_
  refine lv_topl (fun x_42 ex_42 => ?_)
  obtain rfl : x_42 = (125 : Int64) := ex_42.trans (by decide)
  refine lv_lstore (lv' := [(9, .long 125), (8, .ref q_41), (11, .int 2), (6, .long 120), (4, .int 3125), (5, .int 2930), (0, .ref h0), (1, .int 5), (2, .int 7), (3, .int z)]) hx hb dX10_far_118 hl (by decide) rfl (fun ls hl => ?_)
  refine lv_iinc (v := 3) (lv' := [(11, .int 3), (9, .long 125), (8, .ref q_41), (6, .long 120), (4, .int 3125), (5, .int 2930), (0, .ref h0), (1, .int 5), (2, .int 7), (3, .int z)]) hx hb dX10_far_120 hl (k := 2) rfl (by decide) (by decide) rfl (fun ls hl => ?_)
  refine lv_goto (tgt := 99) hx hb dX10_far_123 (by decide) ?_
  refine lv_iload hx hb dX10_far_99 (lv_at hl 0 rfl) ?_
  refine lv_iload_n hx hb dX10_far_101 rfl (lv_at hl 8 rfl) ?_
  refine lv_icmp_ge (tgt := 126) hx hb dX10_far_102 (by decide) (fun c => absurd c (by decide)) (fun _ => ?_)
  refine lv_aload hx hb dX10_far_105 (lv_at hl 2 rfl) ?_
  refine lv_iload_n hx hb dX10_far_107 rfl (lv_at hl 7 rfl) ?_
  have hPc := hP.sub (ws' := [(q_41, .inl (cA_39, 3125, .inr (.inl f_40)))]) [4] rfl
  have hDc := hD.sub (ws' := [(q_41, .inl (cA_39, 3125, .inr (.inl f_40)))]) [4] (by decide) rfl
  have hKc := hK.sub (tys' := [(cA_39, .long)]) [3] rfl
  have hFc := va_free (wc := [(q_41, .inl (cA_39, 3125, .inr (.inl f_40)))]) hD hS hA [4] rfl
  refine va_callr (va_runS (As := [.ref q_41, .int 5]) (rest := []) ⟨hx, hb, hml, hown, hts⟩ (c_X10_shuffled l dC dI q_41 cA_39 f_40 H.size) (va_cwS 2 hts gX10_far_X10_shuffled rfl rfl rfl (by decide +kernel) ⟨Nat.le_of_ble_eq_true rfl, Nat.le_of_ble_eq_true rfl⟩) (fx_preS hPc hKc hDc hnw) rfl rfl hl.1 rfl (lv_room (Nat.le_of_ble_eq_true rfl)) dX10_far_108 ⟨(Nat.le_of_ble_eq_true rfl), (Nat.le_of_ble_eq_true rfl)⟩) hS (fun q _ h => hFc q h) hFc (fun u q_45 t H1 locs ht hvm hw hB hz1 hk1 hS => ?_)
  obtain ⟨cA_43, f_44, hP1, hK1, hD1⟩ := hB
  rw [ht] at hP1
  have hK1 := va_K.moved hvm.symm hK1
  obtain ⟨hP, hD⟩ := va_join (wr := [(h0, .inr (6, [.int 0, .int kn, .ref u1, .ref u2])), (q_28, .inl (cA_29, 3125, .inr (.inl f_30))), (q_33, .inl (cA_31, 3125, .inr (.inl f_32))), (q_37, .inl (cA_35, 3125, .inr (.inl f_36)))]) (w1 := [(q_41, .inl (cA_39, 3125, .inr (.inl f_40))), (q_45, .inl (cA_43, 3125, .inr (.inl f_44)))]) hP hD [4] [0, 1, 2, 3] rfl rfl (by decide) (by decide) hk1 hFc hP1 hD1
  have hK := (hK.sub (tys' := [(cA_29, .long), (cA_31, .long), (cA_35, .long)]) [0, 1, 2] rfl).app hK1
  generalize H1 = H at hP hS ⊢
  have hP : va_P (dC, dI) fxCl [(h0, .inr (6, [.int 0, .int kn, .ref u1, .ref u2])), (q_28, .inl (cA_29, 3125, .inr (.inl f_30))), (q_33, .inl (cA_31, 3125, .inr (.inl f_32))), (q_37, .inl (cA_35, 3125, .inr (.inl f_36))), (q_41, .inl (cA_39, 3125, .inr (.inl f_40))), (q_45, .inl (cA_43, 3125, .inr (.inl f_44)))] H := hP
  have hD : va_D A [(h0, .inr (6, [.int 0, .int kn, .ref u1, .ref u2])), (q_28, .inl (cA_29, 3125, .inr (.inl f_30))), (q_33, .inl (cA_31, 3125, .inr (.inl f_32))), (q_37, .inl (cA_35, 3125, .inr (.inl f_36))), (q_41, .inl (cA_39, 3125, .inr (.inl f_40))), (q_45, .inl (cA_43, 3125, .inr (.inl f_44)))] := hD
  have hK : va_K (dC, dI) fxCl [(cA_29, .long), (cA_31, .long), (cA_35, .long), (cA_39, .long), (cA_43, .long)] s := hK
  refine W.widen (k := 5) (n := 15625) (Nat.le_of_ble_eq_true rfl) (Nat.le_of_ble_eq_true rfl) ?_
  refine lv_astore (lv' := [(8, .ref q_45), (11, .int 3), (9, .long 125), (6, .long 120), (4, .int 3125), (5, .int 2930), (0, .ref h0), (1, .int 5), (2, .int 7), (3, .int z)]) hx hb dX10_far_111 hl (by decide) rfl (fun ls hl => ?_)
  refine lv_lload hx hb dX10_far_113 (lv_at hl 2 rfl) ?_
  refine lv_iload_n hx hb dX10_far_115 rfl (lv_at hl 7 rfl) ?_
  refine lv_i2l (v := 5) hx hb dX10_far_116 (by decide) ?_
  refine lv_lmul hx hb dX10_far_117 ?_
  refine lv_topl (fun x_46 ex_46 => ?_)
  obtain rfl : x_46 = (625 : Int64) := ex_46.trans (by decide)
  refine lv_lstore (lv' := [(9, .long 625), (8, .ref q_45), (11, .int 3), (6, .long 120), (4, .int 3125), (5, .int 2930), (0, .ref h0), (1, .int 5), (2, .int 7), (3, .int z)]) hx hb dX10_far_118 hl (by decide) rfl (fun ls hl => ?_)
  refine lv_iinc (v := 4) (lv' := [(11, .int 4), (9, .long 625), (8, .ref q_45), (6, .long 120), (4, .int 3125), (5, .int 2930), (0, .ref h0), (1, .int 5), (2, .int 7), (3, .int z)]) hx hb dX10_far_120 hl (k := 2) rfl (by decide) (by decide) rfl (fun ls hl => ?_)
  refine lv_goto (tgt := 99) hx hb dX10_far_123 (by decide) ?_
  refine lv_iload hx hb dX10_far_99 (lv_at hl 0 rfl) ?_
  refine lv_iload_n hx hb dX10_far_101 rfl (lv_at hl 8 rfl) ?_
  refine lv_icmp_ge (tgt := 126) hx hb dX10_far_102 (by decide) (fun c => absurd c (by decide)) (fun _ => ?_)
  refine lv_aload hx hb dX10_far_105 (lv_at hl 2 rfl) ?_
  refine lv_iload_n hx hb dX10_far_107 rfl (lv_at hl 7 rfl) ?_
  have hPc := hP.sub (ws' := [(q_45, .inl (cA_43, 3125, .inr (.inl f_44)))]) [5] rfl
  have hDc := hD.sub (ws' := [(q_45, .inl (cA_43, 3125, .inr (.inl f_44)))]) [5] (by decide) rfl
  have hKc := hK.sub (tys' := [(cA_43, .long)]) [4] rfl
  have hFc := va_free (wc := [(q_45, .inl (cA_43, 3125, .inr (.inl f_44)))]) hD hS hA [5] rfl
  refine va_callr (va_runS (As := [.ref q_45, .int 5]) (rest := []) ⟨hx, hb, hml, hown, hts⟩ (c_X10_shuffled l dC dI q_45 cA_43 f_44 H.size) (va_cwS 2 hts gX10_far_X10_shuffled rfl rfl rfl (by decide +kernel) ⟨Nat.le_of_ble_eq_true rfl, Nat.le_of_ble_eq_true rfl⟩) (fx_preS hPc hKc hDc hnw) rfl rfl hl.1 rfl (lv_room (Nat.le_of_ble_eq_true rfl)) dX10_far_108 ⟨(Nat.le_of_ble_eq_true rfl), (Nat.le_of_ble_eq_true rfl)⟩) hS (fun q _ h => hFc q h) hFc (fun u q_49 t H1 locs ht hvm hw hB hz1 hk1 hS => ?_)
  obtain ⟨cA_47, f_48, hP1, hK1, hD1⟩ := hB
  rw [ht] at hP1
  have hK1 := va_K.moved hvm.symm hK1
  obtain ⟨hP, hD⟩ := va_join (wr := [(h0, .inr (6, [.int 0, .int kn, .ref u1, .ref u2])), (q_28, .inl (cA_29, 3125, .inr (.inl f_30))), (q_33, .inl (cA_31, 3125, .inr (.inl f_32))), (q_37, .inl (cA_35, 3125, .inr (.inl f_36))), (q_41, .inl (cA_39, 3125, .inr (.inl f_40)))]) (w1 := [(q_45, .inl (cA_43, 3125, .inr (.inl f_44))), (q_49, .inl (cA_47, 3125, .inr (.inl f_48)))]) hP hD [5] [0, 1, 2, 3, 4] rfl rfl (by decide) (by decide) hk1 hFc hP1 hD1
  have hK := (hK.sub (tys' := [(cA_29, .long), (cA_31, .long), (cA_35, .long), (cA_39, .long)]) [0, 1, 2, 3] rfl).app hK1
  generalize H1 = H at hP hS ⊢
  have hP : va_P (dC, dI) fxCl [(h0, .inr (6, [.int 0, .int kn, .ref u1, .ref u2])), (q_28, .inl (cA_29, 3125, .inr (.inl f_30))), (q_33, .inl (cA_31, 3125, .inr (.inl f_32))), (q_37, .inl (cA_35, 3125, .inr (.inl f_36))), (q_41, .inl (cA_39, 3125, .inr (.inl f_40))), (q_45, .inl (cA_43, 3125, .inr (.inl f_44))), (q_49, .inl (cA_47, 3125, .inr (.inl f_48)))] H := hP
  have hD : va_D A [(h0, .inr (6, [.int 0, .int kn, .ref u1, .ref u2])), (q_28, .inl (cA_29, 3125, .inr (.inl f_30))), (q_33, .inl (cA_31, 3125, .inr (.inl f_32))), (q_37, .inl (cA_35, 3125, .inr (.inl f_36))), (q_41, .inl (cA_39, 3125, .inr (.inl f_40))), (q_45, .inl (cA_43, 3125, .inr (.inl f_44))), (q_49, .inl (cA_47, 3125, .inr (.inl f_48)))] := hD
  have hK : va_K (dC, dI) fxCl [(cA_29, .long), (cA_31, .long), (cA_35, .long), (cA_39, .long), (cA_43, .long), (cA_47, .long)] s := hK
  refine W.widen (k := 6) (n := 18750) (Nat.le_of_ble_eq_true rfl) (Nat.le_of_ble_eq_true rfl) ?_
  refine lv_astore (lv' := [(8, .ref q_49), (11, .int 4), (9, .long 625), (6, .long 120), (4, .int 3125), (5, .int 2930), (0, .ref h0), (1, .int 5), (2, .int 7), (3, .int z)]) hx hb dX10_far_111 hl (by decide) rfl (fun ls hl => ?_)
  refine lv_lload hx hb dX10_far_113 (lv_at hl 2 rfl) ?_
  refine lv_iload_n hx hb dX10_far_115 rfl (lv_at hl 7 rfl) ?_
  refine lv_i2l (v := 5) hx hb dX10_far_116 (by decide) ?_
  refine lv_lmul hx hb dX10_far_117 ?_
  refine lv_topl (fun x_50 ex_50 => ?_)
  obtain rfl : x_50 = (3125 : Int64) := ex_50.trans (by decide)
  refine lv_lstore (lv' := [(9, .long 3125), (8, .ref q_49), (11, .int 4), (6, .long 120), (4, .int 3125), (5, .int 2930), (0, .ref h0), (1, .int 5), (2, .int 7), (3, .int z)]) hx hb dX10_far_118 hl (by decide) rfl (fun ls hl => ?_)
  refine lv_iinc (v := 5) (lv' := [(11, .int 5), (9, .long 3125), (8, .ref q_49), (6, .long 120), (4, .int 3125), (5, .int 2930), (0, .ref h0), (1, .int 5), (2, .int 7), (3, .int z)]) hx hb dX10_far_120 hl (k := 2) rfl (by decide) (by decide) rfl (fun ls hl => ?_)
  refine lv_goto (tgt := 99) hx hb dX10_far_123 (by decide) ?_
  refine lv_iload hx hb dX10_far_99 (lv_at hl 0 rfl) ?_
  refine lv_iload_n hx hb dX10_far_101 rfl (lv_at hl 8 rfl) ?_
  refine lv_icmp_ge (tgt := 126) hx hb dX10_far_102 (by decide) (fun c => absurd c (by decide)) (fun _ => ?_)
  refine lv_aload hx hb dX10_far_105 (lv_at hl 2 rfl) ?_
  refine lv_iload_n hx hb dX10_far_107 rfl (lv_at hl 7 rfl) ?_
  have hPc := hP.sub (ws' := [(q_49, .inl (cA_47, 3125, .inr (.inl f_48)))]) [6] rfl
  have hDc := hD.sub (ws' := [(q_49, .inl (cA_47, 3125, .inr (.inl f_48)))]) [6] (by decide) rfl
  have hKc := hK.sub (tys' := [(cA_47, .long)]) [5] rfl
  have hFc := va_free (wc := [(q_49, .inl (cA_47, 3125, .inr (.inl f_48)))]) hD hS hA [6] rfl
  refine va_callr (va_runS (As := [.ref q_49, .int 5]) (rest := []) ⟨hx, hb, hml, hown, hts⟩ (c_X10_shuffled l dC dI q_49 cA_47 f_48 H.size) (va_cwS 2 hts gX10_far_X10_shuffled rfl rfl rfl (by decide +kernel) ⟨Nat.le_of_ble_eq_true rfl, Nat.le_of_ble_eq_true rfl⟩) (fx_preS hPc hKc hDc hnw) rfl rfl hl.1 rfl (lv_room (Nat.le_of_ble_eq_true rfl)) dX10_far_108 ⟨(Nat.le_of_ble_eq_true rfl), (Nat.le_of_ble_eq_true rfl)⟩) hS (fun q _ h => hFc q h) hFc (fun u q_53 t H1 locs ht hvm hw hB hz1 hk1 hS => ?_)
  obtain ⟨cA_51, f_52, hP1, hK1, hD1⟩ := hB
  rw [ht] at hP1
  have hK1 := va_K.moved hvm.symm hK1
  obtain ⟨hP, hD⟩ := va_join (wr := [(h0, .inr (6, [.int 0, .int kn, .ref u1, .ref u2])), (q_28, .inl (cA_29, 3125, .inr (.inl f_30))), (q_33, .inl (cA_31, 3125, .inr (.inl f_32))), (q_37, .inl (cA_35, 3125, .inr (.inl f_36))), (q_41, .inl (cA_39, 3125, .inr (.inl f_40))), (q_45, .inl (cA_43, 3125, .inr (.inl f_44)))]) (w1 := [(q_49, .inl (cA_47, 3125, .inr (.inl f_48))), (q_53, .inl (cA_51, 3125, .inr (.inl f_52)))]) hP hD [6] [0, 1, 2, 3, 4, 5] rfl rfl (by decide) (by decide) hk1 hFc hP1 hD1
  have hK := (hK.sub (tys' := [(cA_29, .long), (cA_31, .long), (cA_35, .long), (cA_39, .long), (cA_43, .long)]) [0, 1, 2, 3, 4] rfl).app hK1
  generalize H1 = H at hP hS ⊢
  have hP : va_P (dC, dI) fxCl [(h0, .inr (6, [.int 0, .int kn, .ref u1, .ref u2])), (q_28, .inl (cA_29, 3125, .inr (.inl f_30))), (q_33, .inl (cA_31, 3125, .inr (.inl f_32))), (q_37, .inl (cA_35, 3125, .inr (.inl f_36))), (q_41, .inl (cA_39, 3125, .inr (.inl f_40))), (q_45, .inl (cA_43, 3125, .inr (.inl f_44))), (q_49, .inl (cA_47, 3125, .inr (.inl f_48))), (q_53, .inl (cA_51, 3125, .inr (.inl f_52)))] H := hP
  have hD : va_D A [(h0, .inr (6, [.int 0, .int kn, .ref u1, .ref u2])), (q_28, .inl (cA_29, 3125, .inr (.inl f_30))), (q_33, .inl (cA_31, 3125, .inr (.inl f_32))), (q_37, .inl (cA_35, 3125, .inr (.inl f_36))), (q_41, .inl (cA_39, 3125, .inr (.inl f_40))), (q_45, .inl (cA_43, 3125, .inr (.inl f_44))), (q_49, .inl (cA_47, 3125, .inr (.inl f_48))), (q_53, .inl (cA_51, 3125, .inr (.inl f_52)))] := hD
  have hK : va_K (dC, dI) fxCl [(cA_29, .long), (cA_31, .long), (cA_35, .long), (cA_39, .long), (cA_43, .long), (cA_47, .long), (cA_51, .long)] s := hK
  refine W.widen (k := 7) (n := 21875) (Nat.le_of_ble_eq_true rfl) (Nat.le_of_ble_eq_true rfl) ?_
  refine lv_astore (lv' := [(8, .ref q_53), (11, .int 5), (9, .long 3125), (6, .long 120), (4, .int 3125), (5, .int 2930), (0, .ref h0), (1, .int 5), (2, .int 7), (3, .int z)]) hx hb dX10_far_111 hl (by decide) rfl (fun ls hl => ?_)
  refine lv_lload hx hb dX10_far_113 (lv_at hl 2 rfl) ?_
  refine lv_iload_n hx hb dX10_far_115 rfl (lv_at hl 7 rfl) ?_
  refine lv_i2l (v := 5) hx hb dX10_far_116 (by decide) ?_
  refine lv_lmul hx hb dX10_far_117 ?_
  refine lv_topl (fun x_54 ex_54 => ?_)
  obtain rfl : x_54 = (15625 : Int64) := ex_54.trans (by decide)
  refine lv_lstore (lv' := [(9, .long 15625), (8, .ref q_53), (11, .int 5), (6, .long 120), (4, .int 3125), (5, .int 2930), (0, .ref h0), (1, .int 5), (2, .int 7), (3, .int z)]) hx hb dX10_far_118 hl (by decide) rfl (fun ls hl => ?_)
  refine lv_iinc (v := 6) (lv' := [(11, .int 6), (9, .long 15625), (8, .ref q_53), (6, .long 120), (4, .int 3125), (5, .int 2930), (0, .ref h0), (1, .int 5), (2, .int 7), (3, .int z)]) hx hb dX10_far_120 hl (k := 2) rfl (by decide) (by decide) rfl (fun ls hl => ?_)
  refine lv_goto (tgt := 99) hx hb dX10_far_123 (by decide) ?_
  refine lv_iload hx hb dX10_far_99 (lv_at hl 0 rfl) ?_
  refine lv_iload_n hx hb dX10_far_101 rfl (lv_at hl 8 rfl) ?_
  refine lv_icmp_ge (tgt := 126) hx hb dX10_far_102 (by decide) (fun c => absurd c (by decide)) (fun _ => ?_)
  refine lv_aload hx hb dX10_far_105 (lv_at hl 2 rfl) ?_
  refine lv_iload_n hx hb dX10_far_107 rfl (lv_at hl 7 rfl) ?_
  have hPc := hP.sub (ws' := [(q_53, .inl (cA_51, 3125, .inr (.inl f_52)))]) [7] rfl
  have hDc := hD.sub (ws' := [(q_53, .inl (cA_51, 3125, .inr (.inl f_52)))]) [7] (by decide) rfl
  have hKc := hK.sub (tys' := [(cA_51, .long)]) [6] rfl
  have hFc := va_free (wc := [(q_53, .inl (cA_51, 3125, .inr (.inl f_52)))]) hD hS hA [7] rfl
  refine va_callr (va_runS (As := [.ref q_53, .int 5]) (rest := []) ⟨hx, hb, hml, hown, hts⟩ (c_X10_shuffled l dC dI q_53 cA_51 f_52 H.size) (va_cwS 2 hts gX10_far_X10_shuffled rfl rfl rfl (by decide +kernel) ⟨Nat.le_of_ble_eq_true rfl, Nat.le_of_ble_eq_true rfl⟩) (fx_preS hPc hKc hDc hnw) rfl rfl hl.1 rfl (lv_room (Nat.le_of_ble_eq_true rfl)) dX10_far_108 ⟨(Nat.le_of_ble_eq_true rfl), (Nat.le_of_ble_eq_true rfl)⟩) hS (fun q _ h => hFc q h) hFc (fun u q_57 t H1 locs ht hvm hw hB hz1 hk1 hS => ?_)
  obtain ⟨cA_55, f_56, hP1, hK1, hD1⟩ := hB
  rw [ht] at hP1
  have hK1 := va_K.moved hvm.symm hK1
  obtain ⟨hP, hD⟩ := va_join (wr := [(h0, .inr (6, [.int 0, .int kn, .ref u1, .ref u2])), (q_28, .inl (cA_29, 3125, .inr (.inl f_30))), (q_33, .inl (cA_31, 3125, .inr (.inl f_32))), (q_37, .inl (cA_35, 3125, .inr (.inl f_36))), (q_41, .inl (cA_39, 3125, .inr (.inl f_40))), (q_45, .inl (cA_43, 3125, .inr (.inl f_44))), (q_49, .inl (cA_47, 3125, .inr (.inl f_48)))]) (w1 := [(q_53, .inl (cA_51, 3125, .inr (.inl f_52))), (q_57, .inl (cA_55, 3125, .inr (.inl f_56)))]) hP hD [7] [0, 1, 2, 3, 4, 5, 6] rfl rfl (by decide) (by decide) hk1 hFc hP1 hD1
  have hK := (hK.sub (tys' := [(cA_29, .long), (cA_31, .long), (cA_35, .long), (cA_39, .long), (cA_43, .long), (cA_47, .long)]) [0, 1, 2, 3, 4, 5] rfl).app hK1
  generalize H1 = H at hP hS ⊢
  have hP : va_P (dC, dI) fxCl [(h0, .inr (6, [.int 0, .int kn, .ref u1, .ref u2])), (q_28, .inl (cA_29, 3125, .inr (.inl f_30))), (q_33, .inl (cA_31, 3125, .inr (.inl f_32))), (q_37, .inl (cA_35, 3125, .inr (.inl f_36))), (q_41, .inl (cA_39, 3125, .inr (.inl f_40))), (q_45, .inl (cA_43, 3125, .inr (.inl f_44))), (q_49, .inl (cA_47, 3125, .inr (.inl f_48))), (q_53, .inl (cA_51, 3125, .inr (.inl f_52))), (q_57, .inl (cA_55, 3125, .inr (.inl f_56)))] H := hP
  have hD : va_D A [(h0, .inr (6, [.int 0, .int kn, .ref u1, .ref u2])), (q_28, .inl (cA_29, 3125, .inr (.inl f_30))), (q_33, .inl (cA_31, 3125, .inr (.inl f_32))), (q_37, .inl (cA_35, 3125, .inr (.inl f_36))), (q_41, .inl (cA_39, 3125, .inr (.inl f_40))), (q_45, .inl (cA_43, 3125, .inr (.inl f_44))), (q_49, .inl (cA_47, 3125, .inr (.inl f_48))), (q_53, .inl (cA_51, 3125, .inr (.inl f_52))), (q_57, .inl (cA_55, 3125, .inr (.inl f_56)))] := hD
  have hK : va_K (dC, dI) fxCl [(cA_29, .long), (cA_31, .long), (cA_35, .long), (cA_39, .long), (cA_43, .long), (cA_47, .long), (cA_51, .long), (cA_55, .long)] s := hK
  refine W.widen (k := 8) (n := 25000) (Nat.le_of_ble_eq_true rfl) (Nat.le_of_ble_eq_true rfl) ?_
  refine lv_astore (lv' := [(8, .ref q_57), (11, .int 6), (9, .long 15625), (6, .long 120), (4, .int 3125), (5, .int 2930), (0, .ref h0), (1, .int 5), (2, .int 7), (3, .int z)]) hx hb dX10_far_111 hl (by decide) rfl (fun ls hl => ?_)
  refine lv_lload hx hb dX10_far_113 (lv_at hl 2 rfl) ?_
  refine lv_iload_n hx hb dX10_far_115 rfl (lv_at hl 7 rfl) ?_
  refine lv_i2l (v := 5) hx hb dX10_far_116 (by decide) ?_
  refine lv_lmul hx hb dX10_far_117 ?_
  refine lv_topl (fun x_58 ex_58 => ?_)
  obtain rfl : x_58 = (78125 : Int64) := ex_58.trans (by decide)
  refine lv_lstore (lv' := [(9, .long 78125), (8, .ref q_57), (11, .int 6), (6, .long 120), (4, .int 3125), (5, .int 2930), (0, .ref h0), (1, .int 5), (2, .int 7), (3, .int z)]) hx hb dX10_far_118 hl (by decide) rfl (fun ls hl => ?_)
  refine lv_iinc (v := 7) (lv' := [(11, .int 7), (9, .long 78125), (8, .ref q_57), (6, .long 120), (4, .int 3125), (5, .int 2930), (0, .ref h0), (1, .int 5), (2, .int 7), (3, .int z)]) hx hb dX10_far_120 hl (k := 2) rfl (by decide) (by decide) rfl (fun ls hl => ?_)
  refine lv_goto (tgt := 99) hx hb dX10_far_123 (by decide) ?_
  refine lv_iload hx hb dX10_far_99 (lv_at hl 0 rfl) ?_
  refine lv_iload_n hx hb dX10_far_101 rfl (lv_at hl 8 rfl) ?_
  refine lv_icmp_ge (tgt := 126) hx hb dX10_far_102 (by decide) (fun _ => ?_) (fun c => absurd (by decide) c)
  refine lv_lconst (v := 0) hx hb dX10_far_126 (by decide) ?_
  refine lv_lstore (lv' := [(11, .long 0), (9, .long 78125), (8, .ref q_57), (6, .long 120), (4, .int 3125), (5, .int 2930), (0, .ref h0), (1, .int 5), (2, .int 7), (3, .int z)]) hx hb dX10_far_127 hl (by decide) rfl (fun ls hl => ?_)
  refine lv_aload hx hb dX10_far_129 (lv_at hl 2 rfl) ?_
  refine lv_astore (lv' := [(13, .ref q_57), (11, .long 0), (9, .long 78125), (8, .ref q_57), (6, .long 120), (4, .int 3125), (5, .int 2930), (0, .ref h0), (1, .int 5), (2, .int 7), (3, .int z)]) hx hb dX10_far_131 hl (by decide) rfl (fun ls hl => ?_)
  refine lv_aload hx hb dX10_far_133 (lv_at hl 0 rfl) ?_
  refine va_alen (v := 3125) hx hb hK hP 8 7 rfl rfl rfl dX10_far_135 ?_
  refine lv_istore (lv' := [(14, .int 3125), (13, .ref q_57), (11, .long 0), (9, .long 78125), (8, .ref q_57), (6, .long 120), (4, .int 3125), (5, .int 2930), (0, .ref h0), (1, .int 5), (2, .int 7), (3, .int z)]) hx hb dX10_far_136 hl (by decide) rfl (fun ls hl => ?_)
  refine lv_iconst (v := 0) hx hb dX10_far_138 (by decide) ?_
  refine lv_istore (lv' := [(15, .int 0), (14, .int 3125), (13, .ref q_57), (11, .long 0), (9, .long 78125), (8, .ref q_57), (6, .long 120), (4, .int 3125), (5, .int 2930), (0, .ref h0), (1, .int 5), (2, .int 7), (3, .int z)]) hx hb dX10_far_139 hl (by decide) rfl (fun ls hl => ?_)
  have loop_141 : ∀ (n : Nat) (j : Nat) (zz : Int64) (ls : Array Slot), 4000 - j < n → j ≤ 3125 → lv_has ls 18 [(15, .int (nI j)), (11, .long zz), (0, .ref h0), (1, .int 5), (2, .int 7), (3, .int z), (4, .int 3125), (5, .int 2930), (6, .long 120), (8, .ref q_57), (9, .long 78125), (13, .ref q_57), (14, .int 3125)] → W p l e (headSpec wsX10_far ({ frames := 3, cells := 9, slots := 25002, locals := 200 } : Room)).room s m ([.ref h0, .int 5, .int 7, .int z] : List Value).toArray below meth c H locs 8 25000 (MQ below (va_Ql (fun (_ : Int64) (_ : Unit) => True) (fun _ t => ∃ L8 : List Nat, L8.length = 8 ∧ fx_big s.heap.size t.heap L8 ∧ fx_en dC dI (A) [(h0, .inr (6, [.int 0, .int kn, .ref u1, .ref u2]))] [] t) (A)) ([.ref h0, .int 5, .int 7, .int z] : List Value).toArray s 9 25002 A) (F0 m 141 ls []) := by
    intro n
    induction n with
    | zero => intro j zz ls hn; exact absurd hn (Nat.not_lt_zero _)
    | succ n ih =>
      intro j zz ls hn hj hl
      refine lv_iload hx hb dX10_far_141 (lv_at hl 0 rfl) ?_
      refine lv_iload hx hb dX10_far_143 (lv_at hl 12 rfl) ?_
      refine lv_icmp_ge (tgt := 178) hx hb dX10_far_145 (by decide) (fun c_141 => ?_) (fun c_141 => ?_)
      · skip
        refine va_new (ci := 5) (fs := [.long 0, .long 0]) (C := RX8) (T := TX8) (N := 2) hx hb hts (by decide +kernel) tyX8 tyX8_ok hown (hts (.classLink RX10 108 RX8) (by decide +kernel)) (hts (.instantiable RX8 2) (by decide +kernel)) (hts (.initialized RX8) (by decide +kernel)) hK hP hD hS hA rfl (fun j hj => by rcases (show j = 0 ∨ j = 1 by omega) with rfl | rfl <;> rfl) (Nat.le_of_ble_eq_true rfl) (Nat.le_of_ble_eq_true rfl) dX10_far_178 (fun q_59 H hP hD hS => ?_)
        refine W.widen (k := 9) (n := 25002) (Nat.le_of_ble_eq_true rfl) (Nat.le_of_ble_eq_true rfl) ?_
        have hP : va_P (dC, dI) fxCl [(h0, .inr (6, [.int 0, .int kn, .ref u1, .ref u2])), (q_28, .inl (cA_29, 3125, .inr (.inl f_30))), (q_33, .inl (cA_31, 3125, .inr (.inl f_32))), (q_37, .inl (cA_35, 3125, .inr (.inl f_36))), (q_41, .inl (cA_39, 3125, .inr (.inl f_40))), (q_45, .inl (cA_43, 3125, .inr (.inl f_44))), (q_49, .inl (cA_47, 3125, .inr (.inl f_48))), (q_53, .inl (cA_51, 3125, .inr (.inl f_52))), (q_57, .inl (cA_55, 3125, .inr (.inl f_56))), (q_59, .inr (5, [.long 0, .long 0]))] H := hP
        have hD : va_D A [(h0, .inr (6, [.int 0, .int kn, .ref u1, .ref u2])), (q_28, .inl (cA_29, 3125, .inr (.inl f_30))), (q_33, .inl (cA_31, 3125, .inr (.inl f_32))), (q_37, .inl (cA_35, 3125, .inr (.inl f_36))), (q_41, .inl (cA_39, 3125, .inr (.inl f_40))), (q_45, .inl (cA_43, 3125, .inr (.inl f_44))), (q_49, .inl (cA_47, 3125, .inr (.inl f_48))), (q_53, .inl (cA_51, 3125, .inr (.inl f_52))), (q_57, .inl (cA_55, 3125, .inr (.inl f_56))), (q_59, .inr (5, [.long 0, .long 0]))] := hD
        refine lv_dup hx hb dX10_far_181 rfl ?_
        have hPc := hP.sub (ws' := [(q_59, .inr (5, [.long 0, .long 0]))]) [9] rfl
        have hDc := hD.sub (ws' := [(q_59, .inr (5, [.long 0, .long 0]))]) [9] (by decide) rfl
        have hKc := hK.sub (tys' := []) [] rfl
        have hFc := va_free (wc := [(q_59, .inr (5, [.long 0, .long 0]))]) hD hS hA [9] rfl
        refine va_callv (va_runIN (As := []) (rest := [.ref q_59]) ⟨hx, hb, hml, hown, hts⟩ (c_X8_init l dC dI q_59 H.size) ⟨va_cnB 0 hts gX10_far_X8_init_n113 rfl rfl rfl (hnw.2.2.2.2.2.2.2.1) (hts (.initialized RX8) (by decide +kernel)) (by decide +kernel) ⟨Nat.le_of_ble_eq_true rfl, Nat.le_of_ble_eq_true rfl⟩, rfl, hts (.instanceMethod yX8_init) (by decide +kernel)⟩ (fx_preS hPc hKc hDc hnw) rfl rfl hl.1 rfl (lv_room (Nat.le_of_ble_eq_true rfl)) dX10_far_182 ⟨(Nat.le_of_ble_eq_true rfl), (Nat.le_of_ble_eq_true rfl)⟩) hS (fun q _ h => hFc q h) hFc (fun u t H1 locs ht hvm hw hB hz1 hk1 hS => ?_)
        obtain ⟨hP1, hK1, hD1⟩ := hB
        rw [ht] at hP1
        have hK1 := va_K.moved hvm.symm hK1
        obtain ⟨hP, hD⟩ := va_join (wr := [(h0, .inr (6, [.int 0, .int kn, .ref u1, .ref u2])), (q_28, .inl (cA_29, 3125, .inr (.inl f_30))), (q_33, .inl (cA_31, 3125, .inr (.inl f_32))), (q_37, .inl (cA_35, 3125, .inr (.inl f_36))), (q_41, .inl (cA_39, 3125, .inr (.inl f_40))), (q_45, .inl (cA_43, 3125, .inr (.inl f_44))), (q_49, .inl (cA_47, 3125, .inr (.inl f_48))), (q_53, .inl (cA_51, 3125, .inr (.inl f_52))), (q_57, .inl (cA_55, 3125, .inr (.inl f_56)))]) (w1 := [(q_59, .inr (5, [.long 0, .long 1]))]) hP hD [9] [0, 1, 2, 3, 4, 5, 6, 7, 8] rfl rfl (by decide) (by decide) hk1 hFc hP1 hD1
        have hK := (hK.sub (tys' := [(cA_29, .long), (cA_31, .long), (cA_35, .long), (cA_39, .long), (cA_43, .long), (cA_47, .long), (cA_51, .long), (cA_55, .long)]) [0, 1, 2, 3, 4, 5, 6, 7] rfl).app hK1
        generalize H1 = H at hP hS ⊢
        have hP : va_P (dC, dI) fxCl [(h0, .inr (6, [.int 0, .int kn, .ref u1, .ref u2])), (q_28, .inl (cA_29, 3125, .inr (.inl f_30))), (q_33, .inl (cA_31, 3125, .inr (.inl f_32))), (q_37, .inl (cA_35, 3125, .inr (.inl f_36))), (q_41, .inl (cA_39, 3125, .inr (.inl f_40))), (q_45, .inl (cA_43, 3125, .inr (.inl f_44))), (q_49, .inl (cA_47, 3125, .inr (.inl f_48))), (q_53, .inl (cA_51, 3125, .inr (.inl f_52))), (q_57, .inl (cA_55, 3125, .inr (.inl f_56))), (q_59, .inr (5, [.long 0, .long 1]))] H := hP
        have hD : va_D A [(h0, .inr (6, [.int 0, .int kn, .ref u1, .ref u2])), (q_28, .inl (cA_29, 3125, .inr (.inl f_30))), (q_33, .inl (cA_31, 3125, .inr (.inl f_32))), (q_37, .inl (cA_35, 3125, .inr (.inl f_36))), (q_41, .inl (cA_39, 3125, .inr (.inl f_40))), (q_45, .inl (cA_43, 3125, .inr (.inl f_44))), (q_49, .inl (cA_47, 3125, .inr (.inl f_48))), (q_53, .inl (cA_51, 3125, .inr (.inl f_52))), (q_57, .inl (cA_55, 3125, .inr (.inl f_56))), (q_59, .inr (5, [.long 0, .long 1]))] := hD
        have hK : va_K (dC, dI) fxCl [(cA_29, .long), (cA_31, .long), (cA_35, .long), (cA_39, .long), (cA_43, .long), (cA_47, .long), (cA_51, .long), (cA_55, .long)] s := hK
        refine lv_lconst (v := 1) hx hb dX10_far_185 (by decide) ?_
        refine lv_lload hx hb dX10_far_186 (lv_at hl 1 rfl) ?_
        refine lv_lload hx hb dX10_far_188 (lv_at hl 10 rfl) ?_
        refine lv_lload hx hb dX10_far_190 (lv_at hl 8 rfl) ?_
        refine lv_lmul hx hb dX10_far_192 ?_
        refine lv_topl (fun x_60 ex_60 => ?_)
        obtain rfl : x_60 = (9375000 : Int64) := ex_60.trans (by decide)
        have hPc := hP.sub (ws' := [(q_59, .inr (5, [.long 0, .long 1]))]) [9] rfl
        have hDc := hD.sub (ws' := [(q_59, .inr (5, [.long 0, .long 1]))]) [9] (by decide) rfl
        have hKc := hK.sub (tys' := []) [] rfl
        have hFc := va_free (wc := [(q_59, .inr (5, [.long 0, .long 1]))]) hD hS hA [9] rfl
        refine va_callr (va_runV (As := [.long 1, .long zz, .long 9375000]) (rest := []) ⟨hx, hb, hml, hown, hts⟩ (c_X8_add l dC dI q_59 zz H.size) (cwV 3 hts gX10_far_X8_add rfl rfl rfl (by decide +kernel) ⟨Nat.le_of_ble_eq_true rfl, Nat.le_of_ble_eq_true rfl⟩) (fx_preV hPc hKc hDc hnw rfl rfl) rfl rfl hl.1 rfl (lv_room (Nat.le_of_ble_eq_true rfl)) dX10_far_193 ⟨(Nat.le_of_ble_eq_true rfl), (Nat.le_of_ble_eq_true rfl)⟩) hS (fun q _ h => hFc q h) hFc (fun u q_63 t H1 locs ht hvm hw hB hz1 hk1 hS => ?_)
        obtain ⟨hra, y_61, y_62, hP1, hK1, hD1⟩ := hB
        subst hra
        rw [ht] at hP1
        have hK1 := va_K.moved hvm.symm hK1
        obtain ⟨hP, hD⟩ := va_join (wr := [(h0, .inr (6, [.int 0, .int kn, .ref u1, .ref u2])), (q_28, .inl (cA_29, 3125, .inr (.inl f_30))), (q_33, .inl (cA_31, 3125, .inr (.inl f_32))), (q_37, .inl (cA_35, 3125, .inr (.inl f_36))), (q_41, .inl (cA_39, 3125, .inr (.inl f_40))), (q_45, .inl (cA_43, 3125, .inr (.inl f_44))), (q_49, .inl (cA_47, 3125, .inr (.inl f_48))), (q_53, .inl (cA_51, 3125, .inr (.inl f_52))), (q_57, .inl (cA_55, 3125, .inr (.inl f_56)))]) (w1 := [(q_59, .inr (5, [.long y_61, .long y_62]))]) hP hD [9] [0, 1, 2, 3, 4, 5, 6, 7, 8] rfl rfl (by decide) (by decide) hk1 hFc hP1 hD1
        have hK := (hK.sub (tys' := [(cA_29, .long), (cA_31, .long), (cA_35, .long), (cA_39, .long), (cA_43, .long), (cA_47, .long), (cA_51, .long), (cA_55, .long)]) [0, 1, 2, 3, 4, 5, 6, 7] rfl).app hK1
        generalize H1 = H at hP hS ⊢
        have hP : va_P (dC, dI) fxCl [(h0, .inr (6, [.int 0, .int kn, .ref u1, .ref u2])), (q_28, .inl (cA_29, 3125, .inr (.inl f_30))), (q_33, .inl (cA_31, 3125, .inr (.inl f_32))), (q_37, .inl (cA_35, 3125, .inr (.inl f_36))), (q_41, .inl (cA_39, 3125, .inr (.inl f_40))), (q_45, .inl (cA_43, 3125, .inr (.inl f_44))), (q_49, .inl (cA_47, 3125, .inr (.inl f_48))), (q_53, .inl (cA_51, 3125, .inr (.inl f_52))), (q_57, .inl (cA_55, 3125, .inr (.inl f_56))), (q_59, .inr (5, [.long y_61, .long y_62]))] H := hP
        have hD : va_D A [(h0, .inr (6, [.int 0, .int kn, .ref u1, .ref u2])), (q_28, .inl (cA_29, 3125, .inr (.inl f_30))), (q_33, .inl (cA_31, 3125, .inr (.inl f_32))), (q_37, .inl (cA_35, 3125, .inr (.inl f_36))), (q_41, .inl (cA_39, 3125, .inr (.inl f_40))), (q_45, .inl (cA_43, 3125, .inr (.inl f_44))), (q_49, .inl (cA_47, 3125, .inr (.inl f_48))), (q_53, .inl (cA_51, 3125, .inr (.inl f_52))), (q_57, .inl (cA_55, 3125, .inr (.inl f_56))), (q_59, .inr (5, [.long y_61, .long y_62]))] := hD
        have hK : va_K (dC, dI) fxCl [(cA_29, .long), (cA_31, .long), (cA_35, .long), (cA_39, .long), (cA_43, .long), (cA_47, .long), (cA_51, .long), (cA_55, .long)] s := hK
        refine lv_iload_n hx hb dX10_far_196 rfl (lv_at hl 5 rfl) ?_
        have hPc := hP.sub (ws' := [(q_59, .inr (5, [.long y_61, .long y_62]))]) [9] rfl
        have hDc := hD.sub (ws' := [(q_59, .inr (5, [.long y_61, .long y_62]))]) [9] (by decide) rfl
        have hKc := hK.sub (tys' := []) [] rfl
        refine vp_callSl ((va_runV (As := [.int z]) (rest := []) ⟨hx, hb, hml, hown, hts⟩ (c_X8_part l dC dI q_59 z y_61 y_62 H.size) (cwV 1 hts gX10_far_X8_part rfl rfl rfl (by decide +kernel) ⟨Nat.le_of_ble_eq_true rfl, Nat.le_of_ble_eq_true rfl⟩) (fx_preV hPc hKc hDc hnw rfl rfl) rfl rfl hl.1 rfl (lv_room (Nat.le_of_ble_eq_true rfl)) dX10_far_197 ⟨(Nat.le_of_ble_eq_true rfl), (Nat.le_of_ble_eq_true rfl)⟩).run) (fun r_64 hr_64 => ?_)
        have hPb := hP.sub (ws' := [(h0, .inr (6, [.int 0, .int kn, .ref u1, .ref u2])), (q_28, .inl (cA_29, 3125, .inr (.inl f_30))), (q_33, .inl (cA_31, 3125, .inr (.inl f_32))), (q_37, .inl (cA_35, 3125, .inr (.inl f_36))), (q_41, .inl (cA_39, 3125, .inr (.inl f_40))), (q_45, .inl (cA_43, 3125, .inr (.inl f_44))), (q_49, .inl (cA_47, 3125, .inr (.inl f_48))), (q_53, .inl (cA_51, 3125, .inr (.inl f_52))), (q_57, .inl (cA_55, 3125, .inr (.inl f_56)))]) [0, 1, 2, 3, 4, 5, 6, 7, 8] rfl
        have hDb := hD.sub (ws' := [(h0, .inr (6, [.int 0, .int kn, .ref u1, .ref u2])), (q_28, .inl (cA_29, 3125, .inr (.inl f_30))), (q_33, .inl (cA_31, 3125, .inr (.inl f_32))), (q_37, .inl (cA_35, 3125, .inr (.inl f_36))), (q_41, .inl (cA_39, 3125, .inr (.inl f_40))), (q_45, .inl (cA_43, 3125, .inr (.inl f_44))), (q_49, .inl (cA_47, 3125, .inr (.inl f_48))), (q_53, .inl (cA_51, 3125, .inr (.inl f_52))), (q_57, .inl (cA_55, 3125, .inr (.inl f_56)))]) [0, 1, 2, 3, 4, 5, 6, 7, 8] (by decide) rfl
        have hbig := fx_bigof hAe hDb hPb (by
          intro x hx
          simp only [List.mem_cons, List.not_mem_nil, or_false] at hx
          rcases hx with rfl | rfl | rfl | rfl | rfl | rfl | rfl | rfl <;> exact ⟨_, _, rfl⟩)
        have hP9 := hP.sub (ws' := [(h0, .inr (6, [.int 0, .int kn, .ref u1, .ref u2]))]) [0] rfl
        have hD9 := hD.sub (ws' := [(h0, .inr (6, [.int 0, .int kn, .ref u1, .ref u2]))]) [0] (by decide) rfl
        have hK9 := hK.sub (tys' := []) [] rfl
        refine W.widen (k := 9) (n := 25002) (Nat.le_of_ble_eq_true rfl) (Nat.le_of_ble_eq_true rfl) ?_
        exact W.lret (v := r_64) hx hb hr (fun t ht hW => ⟨⟨r_64, (), rfl, trivial, [q_28, q_33, q_37, q_41, q_45, q_49, q_53, q_57], rfl, by rw [ht]; exact hbig, by rw [ht]; exact hP9, va_K.moved hW.alike hK9, hD9⟩, hS.F ht⟩) hS.2.2 dX10_far_200
      · skip
        have hj5 : j < 3125 := fx_ge (n := 3125) c_141 (by decide) (by omega)
        refine lv_aload hx hb dX10_far_148 (lv_at hl 11 rfl) ?_
        refine lv_iload hx hb dX10_far_150 (lv_at hl 0 rfl) ?_
        refine va_lald hx hb hK hP 8 7 rfl rfl (vp_in_nI (N := 3125) hj5 (by decide)) dX10_far_152 ?_
        refine lv_topl (fun x_65 ex_65 => ?_)
        refine lv_lstore (lv' := [(16, .long x_65), (15, .int (nI j)), (11, .long zz), (0, .ref h0), (1, .int 5), (2, .int 7), (3, .int z), (4, .int 3125), (5, .int 2930), (6, .long 120), (8, .ref q_57), (9, .long 78125), (13, .ref q_57), (14, .int 3125)]) hx hb dX10_far_153 hl (by decide) rfl (fun ls hl => ?_)
        refine lv_lload hx hb dX10_far_155 (lv_at hl 2 rfl) ?_
        refine lv_lconst (v := 0) hx hb dX10_far_157 (by decide) ?_
        refine lv_lload hx hb dX10_far_158 (lv_at hl 0 rfl) ?_
        refine lv_lload hx hb dX10_far_160 (lv_at hl 9 rfl) ?_
        refine lv_lmul hx hb dX10_far_162 ?_
        refine lv_topl (fun x_66 ex_66 => ?_)
        refine lv_lload hx hb dX10_far_163 (lv_at hl 11 rfl) ?_
        refine lv_lsub hx hb dX10_far_165 ?_
        refine lv_topl (fun x_67 ex_67 => ?_)
        refine va_mmax_long hx hb (hml.trans hl.1.symm) hown (hts (.methodLink RX10 240 Lib.MathLoose.max_long.x) (by decide +kernel)) (hts (.static Lib.MathLoose.max_long.x) (by decide +kernel)) (hts (.initialized "java/lang/Math") (by decide +kernel)) (hts (.code Lib.MathLoose.max_long.x Lib.MathLoose.max_long.code 4 (some .long)) (by decide +kernel)) (Nat.le_of_ble_eq_true rfl) (Nat.le_of_ble_eq_true rfl) (Nat.le_of_ble_eq_true rfl) (Nat.le_of_ble_eq_true rfl) dX10_far_166 ?_
        refine lv_topl (fun x_68 ex_68 => ?_)
        refine lv_ladd hx hb dX10_far_169 ?_
        refine lv_topl (fun x_69 ex_69 => ?_)
        refine lv_lstore (lv' := [(11, .long x_69), (16, .long x_65), (15, .int (nI j)), (0, .ref h0), (1, .int 5), (2, .int 7), (3, .int z), (4, .int 3125), (5, .int 2930), (6, .long 120), (8, .ref q_57), (9, .long 78125), (13, .ref q_57), (14, .int 3125)]) hx hb dX10_far_170 hl (by decide) rfl (fun ls hl => ?_)
        refine lv_iinc (v := nI (j + 1)) (lv' := [(15, .int (nI (j + 1))), (11, .long x_69), (16, .long x_65), (0, .ref h0), (1, .int 5), (2, .int 7), (3, .int z), (4, .int 3125), (5, .int 2930), (6, .long 120), (8, .ref q_57), (9, .long 78125), (13, .ref q_57), (14, .int 3125)]) hx hb dX10_far_172 hl (k := 2) rfl (nI_add j 1) (by decide) rfl (fun ls hl => ?_)
        refine lv_goto (tgt := 141) hx hb dX10_far_175 (by decide) ?_
        exact ih (j + 1) x_69 ls (by omega) (by omega) (lv_sub hl [0, 1, 3, 4, 5, 6, 7, 8, 9, 10, 11, 12, 13] rfl)
  exact loop_141 4001 0 0 ls (by omega) (by omega) (lv_sub hl [0, 3, 9, 10, 11, 12, 7, 8, 6, 5, 4, 2, 1] rfl)
end
section
set_option maxHeartbeats 4000000 in
set_option maxRecDepth 100000 in
/-- Out() -/
theorem c_X6_init (l : Launch) (dC : Nat → ClassId) (dI : Nat → Nat → Nat) (h0 : Nat) (sz : Nat) : Met l yX6_init wsX6_init ({ frames := 1, cells := 0, slots := 0, locals := 40 } : Room) (va_Pc [.ref h0] (fx_st dC dI [(h0, .inr (4, [.long 0, .double 0, .null]))] [] sz)) (va_Qv (fun _ : Unit => True) (fun _ t => fx_en dC dI (va_A [(h0, .inr (4, [.long 0, .double 0, .null]))] sz) [(h0, .inr (4, [.long 0, .double 0, .null]))] [] t) (va_A [(h0, .inr (4, [.long 0, .double 0, .null]))] sz)) 0 0 (va_A [(h0, .inr (4, [.long 0, .double 0, .null]))] sz) := by
  refine Met.ofW (cc := cX6_init) (maxL := 1) (ret := none) (by decide) rfl ?_
  intro p e s m args below meth c s₁ B hml hv
  obtain ⟨rfl, hsz, hP, hK, hD0, hnw⟩ := hv
  have hx := B.exec
  have hb := B.bytes
  have hr := B.returns
  have hts := atoms_spec (ws := wsX6_init) B.pre
  have hown : s.vm.findClass RX6 = some m.cls := findClass_of_methodNamed B.named
  have hlocks := B.notSynchronized
  have hin : meth.name = "<init>" := (name_of_methodNamed B.named B.method).1
  subst hsz
  have hD := hD0.self (sz := s.heap.size)
  generalize hAe : va_A [(h0, .inr (4, [.long 0, .double 0, .null]))] s.heap.size = A at hD ⊢
  have hA : ∀ q : Nat, s.heap.size ≤ q → A q := fun q h => by rw [← hAe]; exact Or.inr h
  obtain ⟨H, hHe⟩ : ∃ H, H = s.heap := ⟨_, rfl⟩
  have hS : va_S A s.heap H [] := by rw [hHe]; exact va_S.rf
  have hP : va_P (dC, dI) fxCl [(h0, .inr (4, [.long 0, .double 0, .null]))] H := by rw [hHe]; exact hP
  refine fx_h hHe ?_
  have hl := lv_entry ([.ref h0]) (n := 1) (Nat.le_of_ble_eq_true rfl)
  rw [lg_entry_eq]
  generalize (lg_sl ([.ref h0]) ++ List.replicate (1 - (lg_sl ([.ref h0])).length) Slot.unset).toArray = ls at hl ⊢
  have hl : lv_has ls 1 [(0, .ref h0)] := hl
  refine lv_aload_n hx hb dX6_init_0 rfl (lv_at hl 0 rfl) ?_
  refine W.objInit hx hb hown (hts (.methodLink RX6 1 objectInit) (by decide +kernel)) (hts (.instanceMethod objectInit) (by decide +kernel)) (hts (.code objectInit ⟨#[0xb1]⟩ 1 none) (by decide +kernel)) rfl (by rw [hml]; exact hl.1) rfl dX6_init_1 (Nat.le_of_ble_eq_true rfl) (Nat.le_of_ble_eq_true rfl) ?_
  refine W.eq (g2 := F0 m 4 ls []) rfl ?_
  have hP9 := hP.sub (ws' := [(h0, .inr (4, [.long 0, .double 0, .null]))]) [0] rfl
  have hD9 := hD.sub (ws' := [(h0, .inr (4, [.long 0, .double 0, .null]))]) [0] (by decide) rfl
  have hK9 := hK.sub (tys' := []) [] rfl
  exact W.vret hx hb hr (fun t ht hW => ⟨⟨(), rfl, trivial, by rw [ht]; exact hP9, va_K.moved hW.alike hK9, hD9⟩, hS.F ht⟩) hS.2.2 dX6_init_4
set_option maxHeartbeats 4000000 in
set_option maxRecDepth 100000 in
/-- the law's far: it returns 0 -/
theorem c_L_far (l : Launch) (dC : Nat → ClassId) (dI : Nat → Nat → Nat) (x qd q o u1 u2 u3 u4 : Nat) (z : Int32) (n : Int64) (cA : ClassId) (f : Nat → Int64) (sz : Nat) : Met l yL_far wsL_far ({ frames := 5, cells := 0, slots := 0, locals := 160 } : Room) (va_Pc [.ref x, .int 5, .int 7, .int z, .ref o] (fx_st dC dI [(x, .inr (3, [.ref u1, .ref u2, .ref u3, .ref u4, .ref qd, .int 0, .int 0, .int 0])), (qd, .inr (0, [.ref q])), (q, .inl (cA, 6, .inr (.inl f))), (o, .inr (4, [.long n, .double 0, .null]))] [(cA, .long)] sz)) (va_Qi (fun (r : Int32) (_ : Unit) => r = 0) (fun _ t => ∃ (k : Int64) (g : Nat → Int64), fx_en dC dI (va_A [(x, .inr (3, [.ref u1, .ref u2, .ref u3, .ref u4, .ref qd, .int 0, .int 0, .int 0])), (qd, .inr (0, [.ref q])), (q, .inl (cA, 6, .inr (.inl f))), (o, .inr (4, [.long n, .double 0, .null]))] sz) [(x, .inr (3, [.ref u1, .ref u2, .ref u3, .ref u4, .ref qd, .int 0, .int 0, .int 0])), (qd, .inr (0, [.ref q])), (q, .inl (cA, 6, .inr (.inl g))), (o, .inr (4, [.long k, .double 0, .null]))] [(cA, .long)] t) (va_A [(x, .inr (3, [.ref u1, .ref u2, .ref u3, .ref u4, .ref qd, .int 0, .int 0, .int 0])), (qd, .inr (0, [.ref q])), (q, .inl (cA, 6, .inr (.inl f))), (o, .inr (4, [.long n, .double 0, .null]))] sz)) 0 0 (va_A [(x, .inr (3, [.ref u1, .ref u2, .ref u3, .ref u4, .ref qd, .int 0, .int 0, .int 0])), (qd, .inr (0, [.ref q])), (q, .inl (cA, 6, .inr (.inl f))), (o, .inr (4, [.long n, .double 0, .null]))] sz) := by
  refine va_MetW (cc := cL_far) (maxL := 6) (ret := (some .int)) (by decide) rfl ?_
  intro p e s m args below meth c s₁ B hml hv
  obtain ⟨rfl, hsz, hP, hK, hD0, hnw⟩ := hv
  have hx := B.exec
  have hb := B.bytes
  have hr := B.returns
  have hts := atoms_spec (ws := wsL_far) B.pre
  have hown : s.vm.findClass RL = some m.cls := findClass_of_methodNamed B.named
  have hlocks := B.notSynchronized
  subst hsz
  have hD := hD0.self (sz := s.heap.size)
  generalize hAe : va_A [(x, .inr (3, [.ref u1, .ref u2, .ref u3, .ref u4, .ref qd, .int 0, .int 0, .int 0])), (qd, .inr (0, [.ref q])), (q, .inl (cA, 6, .inr (.inl f))), (o, .inr (4, [.long n, .double 0, .null]))] s.heap.size = A at hD ⊢
  have hA : ∀ q : Nat, s.heap.size ≤ q → A q := fun q h => by rw [← hAe]; exact Or.inr h
  obtain ⟨H, hHe⟩ : ∃ H, H = s.heap := ⟨_, rfl⟩
  have hS : va_S A s.heap H [] := by rw [hHe]; exact va_S.rf
  have hP : va_P (dC, dI) fxCl [(x, .inr (3, [.ref u1, .ref u2, .ref u3, .ref u4, .ref qd, .int 0, .int 0, .int 0])), (qd, .inr (0, [.ref q])), (q, .inl (cA, 6, .inr (.inl f))), (o, .inr (4, [.long n, .double 0, .null]))] H := by rw [hHe]; exact hP
  refine fx_h hHe ?_
  have hl := lv_entry ([.ref x, .int 5, .int 7, .int z, .ref o]) (n := 6) (Nat.le_of_ble_eq_true rfl)
  rw [lg_entry_eq]
  generalize (lg_sl ([.ref x, .int 5, .int 7, .int z, .ref o]) ++ List.replicate (6 - (lg_sl ([.ref x, .int 5, .int 7, .int z, .ref o])).length) Slot.unset).toArray = ls at hl ⊢
  have hl : lv_has ls 6 [(0, .ref x), (1, .int 5), (2, .int 7), (3, .int z), (4, .ref o)] := hl
  refine lv_aload hx hb dL_far_0 (lv_at hl 4 rfl) ?_
  refine lv_aload_n hx hb dL_far_2 rfl (lv_at hl 0 rfl) ?_
  refine lv_iload_n hx hb dL_far_3 rfl (lv_at hl 1 rfl) ?_
  refine lv_iload_n hx hb dL_far_4 rfl (lv_at hl 2 rfl) ?_
  refine lv_iload_n hx hb dL_far_5 rfl (lv_at hl 3 rfl) ?_
  have hPc := hP.sub (ws' := [(x, .inr (3, [.ref u1, .ref u2, .ref u3, .ref u4, .ref qd, .int 0, .int 0, .int 0])), (qd, .inr (0, [.ref q])), (q, .inl (cA, 6, .inr (.inl f)))]) [0, 1, 2] rfl
  have hDc := hD.sub (ws' := [(x, .inr (3, [.ref u1, .ref u2, .ref u3, .ref u4, .ref qd, .int 0, .int 0, .int 0])), (qd, .inr (0, [.ref q])), (q, .inl (cA, 6, .inr (.inl f)))]) [0, 1, 2] (by decide) rfl
  have hKc := hK.sub (tys' := [(cA, .long)]) [0] rfl
  have hFc := va_free (wc := [(x, .inr (3, [.ref u1, .ref u2, .ref u3, .ref u4, .ref qd, .int 0, .int 0, .int 0])), (qd, .inr (0, [.ref q])), (q, .inl (cA, 6, .inr (.inl f)))]) hD hS hA [0, 1, 2] rfl
  refine va_calll (va_runV (As := [.int 5, .int 7, .int z]) (rest := [.ref o]) ⟨hx, hb, hml, hown, hts⟩ (c_X5_far l dC dI x qd q u1 u2 u3 u4 0 0 0 z cA f H.size) (cwV 3 hts gL_far_X5_far rfl rfl rfl (by decide +kernel) ⟨Nat.le_of_ble_eq_true rfl, Nat.le_of_ble_eq_true rfl⟩) (fx_preV hPc hKc hDc hnw rfl rfl) rfl rfl hl.1 rfl (lv_room (Nat.le_of_ble_eq_true rfl)) dL_far_6 ⟨(Nat.le_of_ble_eq_true rfl), (Nat.le_of_ble_eq_true rfl)⟩) hS (fun q _ h => hFc q h) hFc (fun r_2 u t H1 locs ht hvm hw hB hz1 hk1 hS => ?_)
  obtain ⟨f_1, hP1, hK1, hD1⟩ := hB
  rw [ht] at hP1
  have hK1 := va_K.moved hvm.symm hK1
  obtain ⟨hP, hD⟩ := va_join (wr := [(o, .inr (4, [.long n, .double 0, .null]))]) (w1 := [(x, .inr (3, [.ref u1, .ref u2, .ref u3, .ref u4, .ref qd, .int 0, .int 0, .int 0])), (qd, .inr (0, [.ref q])), (q, .inl (cA, 6, .inr (.inl f_1)))]) hP hD [0, 1, 2] [3] rfl rfl (by decide) (by decide) hk1 hFc hP1 hD1
  have hK := (hK.sub (tys' := []) [] rfl).app hK1
  generalize H1 = H at hP hS ⊢
  have hP : va_P (dC, dI) fxCl [(o, .inr (4, [.long n, .double 0, .null])), (x, .inr (3, [.ref u1, .ref u2, .ref u3, .ref u4, .ref qd, .int 0, .int 0, .int 0])), (qd, .inr (0, [.ref q])), (q, .inl (cA, 6, .inr (.inl f_1)))] H := hP
  have hD : va_D A [(o, .inr (4, [.long n, .double 0, .null])), (x, .inr (3, [.ref u1, .ref u2, .ref u3, .ref u4, .ref qd, .int 0, .int 0, .int 0])), (qd, .inr (0, [.ref q])), (q, .inl (cA, 6, .inr (.inl f_1)))] := hD
  have hK : va_K (dC, dI) fxCl [(cA, .long)] s := hK
  refine va_putN (D := (dC, dI)) (ci := 4) (v := .long r_2) (ty := .long) (C := RX6) (T := TX6) (N := 3) hx hb hts (by decide +kernel) tyX6 tyX6_ok nmX6 hown hK hP hD hS 0 rfl rfl 0 (by decide) (va_Nw.use rfl (hnw.2.2.2.2.2.2.2.2.2.2.1)) (fun _ h9 => h9) rfl (by decide +kernel) rfl rfl (Nat.le_of_ble_eq_true rfl) dL_far_9 (fun H locs hP hD hS => ?_)
  have hP : va_P (dC, dI) fxCl [(o, .inr (4, [.long r_2, .double 0, .null])), (x, .inr (3, [.ref u1, .ref u2, .ref u3, .ref u4, .ref qd, .int 0, .int 0, .int 0])), (qd, .inr (0, [.ref q])), (q, .inl (cA, 6, .inr (.inl f_1)))] H := hP
  have hD : va_D A [(o, .inr (4, [.long r_2, .double 0, .null])), (x, .inr (3, [.ref u1, .ref u2, .ref u3, .ref u4, .ref qd, .int 0, .int 0, .int 0])), (qd, .inr (0, [.ref q])), (q, .inl (cA, 6, .inr (.inl f_1)))] := hD
  refine lv_goto (tgt := 19) hx hb dL_far_12 (by decide) ?_
  refine lv_iconst (v := 0) hx hb dL_far_19 (by decide) ?_
  have hP9 := hP.sub (ws' := [(x, .inr (3, [.ref u1, .ref u2, .ref u3, .ref u4, .ref qd, .int 0, .int 0, .int 0])), (qd, .inr (0, [.ref q])), (q, .inl (cA, 6, .inr (.inl f_1))), (o, .inr (4, [.long r_2, .double 0, .null]))]) [1, 2, 3, 0] rfl
  have hD9 := hD.sub (ws' := [(x, .inr (3, [.ref u1, .ref u2, .ref u3, .ref u4, .ref qd, .int 0, .int 0, .int 0])), (qd, .inr (0, [.ref q])), (q, .inl (cA, 6, .inr (.inl f_1))), (o, .inr (4, [.long r_2, .double 0, .null]))]) [1, 2, 3, 0] (by decide) rfl
  have hK9 := hK.sub (tys' := [(cA, .long)]) [0] rfl
  exact W.iret (v := 0) hx hb hr (fun t ht hW => ⟨⟨0, (), rfl, rfl, r_2, f_1, by rw [ht]; exact hP9, va_K.moved hW.alike hK9, hD9⟩, hS.F ht⟩) hS.2.2 dL_far_20
end
section
/-! the callees' words among those of the tables -/
set_option maxRecDepth 20000 in
theorem fx_gX5_init : GoodIn lw_tbl (wsX5_init) := goodIn_p (wsX5_init) [84, 87, 96, 136, 149] (by decide +kernel) (by decide +kernel)
set_option maxRecDepth 20000 in
theorem fx_gX10_init : GoodIn lw_tbl (wsX10_init) := goodIn_p (wsX10_init) [1105, 87, 1111, 1114, 1117] (by decide +kernel) (by decide +kernel)
set_option maxRecDepth 20000 in
theorem fx_gX6_init : GoodIn lw_tbl (wsX6_init) := goodIn_p (wsX6_init) [480, 87] (by decide +kernel) (by decide +kernel)
set_option maxRecDepth 20000 in
theorem fx_gL_far : GoodIn lw_tbl (va_wsS RL 209 yL_far wsL_far) := by
  have hE : GoodIn lw_tbl ((vx_atS RX5 50 "java/lang/IllegalArgumentException" ["java/lang/RuntimeException", "java/lang/Exception"]).filter goodWord) := goodIn_sub (by decide +kernel) (by decide +kernel)
  have h1 : GoodIn lw_tbl (([.methodLink RL 209 yL_far, .static yL_far, .initialized yL_far.cls] : List Cond) ++ (.codeWith yL_far cL_far 6 (some .int) [(0, 12, 15, 19)] :: ((wsL_far_r1 ++ wsL_far_r2) ++ wsX60 ++ wsX50 ++ wsX00))) := goodIn_p _ [773, 313, 777, 384, 781, 341, 358, 787, 390, 790, 387, 393] (by decide +kernel) (by decide +kernel)
  have e : va_wsS RL 209 yL_far wsL_far = (([.methodLink RL 209 yL_far, .static yL_far, .initialized yL_far.cls] : List Cond) ++ (.codeWith yL_far cL_far 6 (some .int) [(0, 12, 15, 19)] :: ((wsL_far_r1 ++ wsL_far_r2) ++ wsX60 ++ wsX50 ++ wsX00))) ++ (vx_atS RX5 50 "java/lang/IllegalArgumentException" ["java/lang/RuntimeException", "java/lang/Exception"]).filter goodWord := by
    show ([.methodLink RL 209 yL_far, .static yL_far, .initialized yL_far.cls] : List Cond) ++ (.codeWith yL_far cL_far 6 (some .int) [(0, 12, 15, 19)] :: (((wsL_far_r1 ++ wsL_far_r2) ++ wsX60 ++ wsX50 ++ wsX00) ++ (vx_atS RX5 50 "java/lang/IllegalArgumentException" ["java/lang/RuntimeException", "java/lang/Exception"]).filter goodWord)) = _
    rw [← List.cons_append, ← List.append_assoc]
  rw [e]
  exact goodIn_app h1 hE
set_option maxRecDepth 20000 in
theorem fx_gX10_far : GoodIn lw_tbl (wsV RL 211 RX10 yX10_far wsX10_far) := goodIn_p (wsV RL 211 RX10 yX10_far wsX10_far) [1562, 463, 1156, 1160, 1565, 1350, 87, 1364, 390, 1367, 1379] (by decide +kernel) (by decide +kernel)
set_option maxRecDepth 20000 in
theorem fx_iX0 : ∀ w ∈ wsX00, w ∈ lw_tbl := by decide +kernel
set_option maxRecDepth 20000 in
theorem fx_iX1 : ∀ w ∈ wsX10, w ∈ lw_tbl := by decide +kernel
set_option maxRecDepth 20000 in
theorem fx_iX3 : ∀ w ∈ wsX30, w ∈ lw_tbl := by decide +kernel
set_option maxRecDepth 20000 in
theorem fx_iX5 : ∀ w ∈ wsX50, w ∈ lw_tbl := by decide +kernel
set_option maxRecDepth 20000 in
theorem fx_iX6 : ∀ w ∈ wsX60, w ∈ lw_tbl := by decide +kernel
set_option maxRecDepth 20000 in
theorem fx_iX8 : ∀ w ∈ wsX80, w ∈ lw_tbl := by decide +kernel
set_option maxRecDepth 20000 in
theorem fx_iX10 : ∀ w ∈ wsX100, w ∈ lw_tbl := by decide +kernel
set_option maxRecDepth 20000 in
theorem fx_iJx4a65c : ∀ w ∈ wsJx4a65c0, w ∈ lw_tbl := by decide +kernel
set_option maxRecDepth 20000 in
theorem fx_nwof {args : Array Value} {s : State} (hts : ∀ w ∈ lw_tbl, w.before args s = true) : fx_nw s := ⟨va_Nw.of rfl (hts (.methodLinkNest RX5 23 yX1_init RX5) (by decide +kernel)), va_Nw.of rfl (hts (.methodLinkNest RX5 30 yX3_init RX5) (by decide +kernel)), va_Nw.of rfl (hts (.methodLinkNest RX5 37 yX0_init RX5) (by decide +kernel)), va_Nw.of rfl (hts (.methodLinkNest RX5 251 yX0_shuffle RX5) (by decide +kernel)), va_Nw.of rfl (hts (.methodLinkNest RX5 255 yX0_sumOfDifferences RX5) (by decide +kernel)), va_Nw.of rfl (hts (.methodLinkNest RX0 15 yX5_put_ RX5) (by decide +kernel)), va_Nw.of rfl (hts (.methodLinkNest RX0 19 yX5_at_ RX5) (by decide +kernel)), va_Nw.of rfl (hts (.methodLinkNest RX10 113 yX8_init RX10) (by decide +kernel)), va_Nw.of rfl (hts (.methodLinkNest RX8 16 yX10_common RX10) (by decide +kernel)), va_Nw.of rfl (hts (.methodLinkNest RL 132 yX6_init RL) (by decide +kernel)), va_Nw.of rfl (hts (.fieldLinkNest RL 13 RX6 "n" "J" RL) (by decide +kernel)), va_AO.of (hts (.arrayOver (.object RX4)) (by decide +kernel)), va_AO.of (hts (.arrayOver (.object RX2)) (by decide +kernel))⟩
set_option maxRecDepth 20000 in
theorem fx_Zof {args : Array Value} {s : State} (hts : ∀ w ∈ lw_tbl, w.before args s = true) (hgv : (Jvm.Cond.and given_1 narrow_1).before args s = true) : va_Zq "java/util/ArrayList" "DEFAULTCAPACITY_EMPTY_ELEMENTDATA" "[Ljava/lang/Object;" (fun q : Nat => s.heap.size ≤ q) s s.heap :=
  va_Zqof (hts (.laysStatic "java/util/ArrayList" "DEFAULTCAPACITY_EMPTY_ELEMENTDATA" "[Ljava/lang/Object;") (by decide +kernel)) (hts (.initialized "java/util/ArrayList") (by decide +kernel)) (flat_of_before _ hgv (.isRef (.static "java/util/ArrayList" "DEFAULTCAPACITY_EMPTY_ELEMENTDATA" "[Ljava/lang/Object;")) (by decide +kernel)) (fun _ h => Nat.not_le.mpr h)
end
section
/-! the law's walk over a script of 300 calls of far(5, 7, false) -/
def fx_room : Room := { frames := 2048, cells := 20000, slots := 13000000, locals := 84000 }
def fx_Z (below : List Frame) (s : State) : State → Prop := fun t => ∃ o, t.status = .running ∧ Ended t below o ∧ ∃ L : List Nat, L.length = 2400 ∧ fx_big s.heap.size t.heap L
theorem fx_keep {sz : Nat} {H H1 : Heap} {L : List Nat} {wc : va_W} (h : fx_big sz H L) (hk : ∀ q : Nat, q < H.size → ¬ va_A wc H.size q → H1[q]? = H[q]?) (hd : ∀ q ∈ L, q ∉ wc.map (·.1)) : fx_big sz H1 L := by
  refine ⟨h.1, fun q hq => ?_⟩
  obtain ⟨h1, cell, h2, h3⟩ := h.2 q hq
  have hlt : q < H.size := (Array.getElem?_eq_some_iff.mp h2).1
  refine ⟨h1, cell, ?_, h3⟩
  rw [hk q hlt, h2]
  rintro (⟨k, e, hk⟩ | hk)
  · exact hd q hq (List.mem_map.mpr ⟨(q, e), List.mem_of_getElem? hk, rfl⟩)
  · omega
theorem fx_app {sz sz2 : Nat} {H H1 : Heap} {L L2 : List Nat} (h0 : fx_big sz H L) (h1 : fx_big sz H1 L) (h2 : fx_big sz2 H1 L2) (hsz : H.size = sz2) (hle : sz ≤ sz2) : fx_big sz H1 (L ++ L2) := by
  have hlt : ∀ q ∈ L, q < sz2 := fun q hq => by
    obtain ⟨-, cell, h3, -⟩ := h0.2 q hq
    rw [← hsz]
    exact (Array.getElem?_eq_some_iff.mp h3).1
  refine ⟨List.nodup_append.mpr ⟨h1.1, h2.1, fun a ha b hb e => ?_⟩, fun q hq => ?_⟩
  · have h3 := hlt a ha
    have h4 := (h2.2 b hb).1
    omega
  · rcases List.mem_append.mp hq with hq | hq
    · exact h1.2 q hq
    · obtain ⟨h3, h4⟩ := h2.2 q hq
      exact ⟨Nat.le_trans hle h3, h4⟩
theorem fx_ret {p : Program} {l : Launch} {e : Env} {s : State} {m : MethodId} {below : List Frame} {meth : Method} {c : Code} {b cells slots : Nat} {locs : List Loc} (hx : p.tables.exec = Jvm.exec) (hb : c.code = code) (hr : meth.sig.returnType = ret) (hlocks : meth.locks = false) {pc : Nat} {H : Heap} {ls : Array Slot} (hdg : decode code pc = .ok (.ireturn, 1)) (L : List Nat) (hL : L.length = 2400) (hbig : fx_big s.heap.size H L) : W p l e fx_room s m #[Value.ref b] below meth c H locs cells slots (fx_Z below s) (F0 m pc ls [.int 1]) := by
  intro T hT X
  obtain ⟨fs, hret, hrun, hended, hW, hframe⟩ := X.leave (v := some (.int 1)) (hlocks := hlocks) (fun h => by rw [hr] at h; cases h)
  have hmeth' : T.vm.method? m = some meth := X.method'
  have hbig2 : fx_big s.heap.size (T.setFrames fs).heap L := by
    have e1 : (T.setFrames fs).heap = H := hT
    rw [e1]; exact hbig
  refine ⟨T.setFrames fs, ?_, .returned (some (.int 1)), hrun, hended, L, hL, hbig2⟩
  jvm_step X.here [X.here.top, hx, hb, hdg, hmeth', hr, ret, narrow_b1]
  (try refine ⟨rfl, ?_⟩); (try refine ⟨rfl, ?_⟩)
  first | (intro acts; rw [hret _ acts rfl rfl rfl]) | rw [hret _ _ rfl rfl rfl]
  exact Steps.refl _
set_option maxHeartbeats 8000000 in
set_option maxRecDepth 100000 in
theorem fx_loop {p : Program} {e : Env} {s : State} {m : MethodId} {below : List Frame} {meth : Method} {c : Code} (l : Launch) {b : Nat} {xs : Nat → Int32} (dC : Nat → ClassId) (dI : Nat → Nat → Nat) (hx : p.tables.exec = Jvm.exec) (hb : c.code = code) (hr : meth.sig.returnType = ret) (hml : c.maxLocals = 8) (hown : s.vm.findClass RL = some m.cls) (hts : ∀ w ∈ lw_tbl, w.before #[Value.ref b] s = true) (hX : va_X b 2100 xs s s.heap) (hbl : b < s.heap.size) (hlocks : meth.locks = false) (hxs : ∀ k, k < 300 → xs (7 * k) = 20 ∧ xs (7 * k + 1) = 5 ∧ xs (7 * k + 2) = 7 ∧ xs (7 * k + 3) = 0) (hnw : fx_nw s) : ∀ (n k : Nat) (L : List Nat) (x qd q mo o u1 u2 u3 u4 v1 v2 : Nat) (cA : ClassId) (f : Nat → Int64) (kk : Int64) (th : Int32) (H : Heap) (locs : List Loc) (ls : Array Slot), 600 - k < n → k ≤ 300 → L.length = 8 * k → fx_big s.heap.size H L → (∀ y ∈ L, y ∉ [x, qd, q, mo, o]) → va_K (dC, dI) fxCl [(cA, .long)] s → va_P (dC, dI) fxCl [(x, .inr (3, [.ref u1, .ref u2, .ref u3, .ref u4, .ref qd, .int 0, .int 0, .int 0])), (qd, .inr (0, [.ref q])), (q, .inl (cA, 6, .inr (.inl f))), (mo, .inr (6, [.int th, .int 0, .ref v1, .ref v2])), (o, .inr (4, [.long kk, .double 0, .null]))] H → va_D (fun q : Nat => s.heap.size ≤ q) [(x, .inr (3, [.ref u1, .ref u2, .ref u3, .ref u4, .ref qd, .int 0, .int 0, .int 0])), (qd, .inr (0, [.ref q])), (q, .inl (cA, 6, .inr (.inl f))), (mo, .inr (6, [.int th, .int 0, .ref v1, .ref v2])), (o, .inr (4, [.long kk, .double 0, .null]))] → va_S (fun q : Nat => s.heap.size ≤ q) s.heap H locs → lv_has ls 8 [(4, .int (nI (7 * k))), (0, .ref b), (1, .ref x), (2, .ref mo), (3, .ref o)] → W p l e fx_room s m #[Value.ref b] below meth c H locs (30 + 9 * k) (1100 + 25002 * k) (fx_Z below s) (F0 m 27 ls []) := by
  have hA : ∀ q : Nat, s.heap.size ≤ q → (fun q : Nat => s.heap.size ≤ q) q := fun _ h => h
  have hbA : ¬ (fun q : Nat => s.heap.size ≤ q) b := Nat.not_le.mpr hbl
  intro n
  induction n with
  | zero => intro k L x qd q mo o u1 u2 u3 u4 v1 v2 cA f kk th H locs ls hn; exact absurd hn (Nat.not_lt_zero _)
  | succ n ih =>
    intro k L x qd q mo o u1 u2 u3 u4 v1 v2 cA f kk th H locs ls hn hk hL hbig hdis hK hP hD hS hl
    refine lv_iload hx hb dL_law_27 (lv_at hl 0 rfl) ?_
    refine lv_aload_n hx hb dL_law_29 rfl (lv_at hl 1 rfl) ?_
    refine va_slen hx hb hX hbl hbA hS dL_law_30 ?_
    refine lv_bipush (v := 7) hx hb dL_law_31 (by decide) ?_
    refine lv_isub hx hb dL_law_33 ?_
    refine lv_topi (fun x_1 ex_1 => ?_)
    obtain rfl : x_1 = nI 2093 := ex_1.trans (by decide)
    refine lv_icmp_gt (tgt := 1930) hx hb dL_law_34 (by decide) (fun c_0 => ?_) (fun c_0 => ?_)
    · skip
      have hk9 : k = 300 := by
        have h := (nI_ltI (a := 2093) (b := 7 * k) (by decide) (by omega)).mp c_0
        omega
      refine lv_iconst (v := 1) hx hb dL_law_1930 (by decide) ?_
      exact fx_ret hx hb hr hlocks dL_law_1931 L (by omega) hbig
    · skip
      have hk5 : k < 300 := by
        have h := fx_gt (n := 2093) (k := 7 * k) c_0 (by decide) (by omega)
        omega
      refine lv_aload_n hx hb dL_law_37 rfl (lv_at hl 1 rfl) ?_
      refine lv_iload hx hb dL_law_38 (lv_at hl 0 rfl) ?_
      refine va_sld hx hb hX hbl hbA hS (vp_in_nI (N := 2100) (by omega) (by decide)) dL_law_40 ?_
      refine lv_topi (fun x_2 ex_2 => ?_)
      obtain rfl : x_2 = (20 : Int32) := ex_2.trans (by rw [nI_clamp (by omega)]; exact (hxs k hk5).1)
      refine lv_bipush (v := 31) hx hb dL_law_41 (by decide) ?_
      refine lv_iand hx hb dL_law_43 ?_
      refine lv_topi (fun x_3 ex_3 => ?_)
      obtain rfl : x_3 = (20 : Int32) := ex_3.trans (by decide)
      refine lv_tableIn (off := 1543) (tgt := 1587) hx hb dL_law_44 (by decide) (by decide) (by decide) (by decide) ?_
      refine lv_aload_n hx hb dL_law_1587 rfl (lv_at hl 2 rfl) ?_
      refine lv_aload_n hx hb dL_law_1588 rfl (lv_at hl 1 rfl) ?_
      refine lv_iload hx hb dL_law_1589 (lv_at hl 0 rfl) ?_
      refine lv_iconst (v := 1) hx hb dL_law_1591 (by decide) ?_
      refine lv_iadd hx hb dL_law_1592 ?_
      refine lv_topi (fun x_4 ex_4 => ?_)
      obtain rfl : x_4 = nI ((7 * k) + 1) := ex_4.trans (nI_add (7 * k) 1)
      refine va_sld hx hb hX hbl hbA hS (vp_in_nI (N := 2100) (by omega) (by decide)) dL_law_1593 ?_
      refine lv_topi (fun x_5 ex_5 => ?_)
      obtain rfl : x_5 = (5 : Int32) := ex_5.trans (by rw [nI_clamp (by omega)]; exact (hxs k hk5).2.1)
      refine lv_aload_n hx hb dL_law_1594 rfl (lv_at hl 1 rfl) ?_
      refine lv_iload hx hb dL_law_1595 (lv_at hl 0 rfl) ?_
      refine lv_iconst (v := 2) hx hb dL_law_1597 (by decide) ?_
      refine lv_iadd hx hb dL_law_1598 ?_
      refine lv_topi (fun x_6 ex_6 => ?_)
      obtain rfl : x_6 = nI ((7 * k) + 2) := ex_6.trans (nI_add (7 * k) 2)
      refine va_sld hx hb hX hbl hbA hS (vp_in_nI (N := 2100) (by omega) (by decide)) dL_law_1599 ?_
      refine lv_topi (fun x_7 ex_7 => ?_)
      obtain rfl : x_7 = (7 : Int32) := ex_7.trans (by rw [nI_clamp (by omega)]; exact (hxs k hk5).2.2.1)
      refine lv_aload_n hx hb dL_law_1600 rfl (lv_at hl 1 rfl) ?_
      refine lv_iload hx hb dL_law_1601 (lv_at hl 0 rfl) ?_
      refine lv_iconst (v := 3) hx hb dL_law_1603 (by decide) ?_
      refine lv_iadd hx hb dL_law_1604 ?_
      refine lv_topi (fun x_8 ex_8 => ?_)
      obtain rfl : x_8 = nI ((7 * k) + 3) := ex_8.trans (nI_add (7 * k) 3)
      refine va_sld hx hb hX hbl hbA hS (vp_in_nI (N := 2100) (by omega) (by decide)) dL_law_1605 ?_
      refine lv_topi (fun x_9 ex_9 => ?_)
      obtain rfl : x_9 = (0 : Int32) := ex_9.trans (by rw [nI_clamp (by omega)]; exact (hxs k hk5).2.2.2)
      refine lv_if_eq (tgt := 1613) hx hb dL_law_1606 (by decide) (fun _ => ?_) (fun c => absurd (by decide) c)
      refine lv_iconst (v := 0) hx hb dL_law_1613 (by decide) ?_
      refine lv_aload_n hx hb dL_law_1614 rfl (lv_at hl 4 rfl) ?_
      have hPc := hP.sub (ws' := [(x, .inr (3, [.ref u1, .ref u2, .ref u3, .ref u4, .ref qd, .int 0, .int 0, .int 0])), (qd, .inr (0, [.ref q])), (q, .inl (cA, 6, .inr (.inl f))), (o, .inr (4, [.long kk, .double 0, .null]))]) [0, 1, 2, 4] rfl
      have hDc := hD.sub (ws' := [(x, .inr (3, [.ref u1, .ref u2, .ref u3, .ref u4, .ref qd, .int 0, .int 0, .int 0])), (qd, .inr (0, [.ref q])), (q, .inl (cA, 6, .inr (.inl f))), (o, .inr (4, [.long kk, .double 0, .null]))]) [0, 1, 2, 4] (by decide) rfl
      have hKc := hK.sub (tys' := [(cA, .long)]) [0] rfl
      have hFc := va_free (wc := [(x, .inr (3, [.ref u1, .ref u2, .ref u3, .ref u4, .ref qd, .int 0, .int 0, .int 0])), (qd, .inr (0, [.ref q])), (q, .inl (cA, 6, .inr (.inl f))), (o, .inr (4, [.long kk, .double 0, .null]))]) hD hS hA [0, 1, 2, 4] rfl
      refine va_calli (vx_runSW (As := [.ref x, .int 5, .int 7, .int 0, .ref o]) (rest := []) ⟨hx, hb, hml, hown, hts⟩ (c_L_far l dC dI x qd q o u1 u2 u3 u4 0 kk cA f H.size) (vx_cwSW (hh := [(0, 12, 15, 19)]) 5 hts fx_gL_far rfl rfl rfl (by decide +kernel) ⟨Nat.le_of_ble_eq_true rfl, Nat.le_of_ble_eq_true rfl⟩) (fx_preS hPc hKc hDc hnw) rfl rfl hl.1 rfl (lv_room (Nat.le_of_ble_eq_true rfl)) dL_law_1615 ⟨(show _ ≤ 20000 from by omega), (show _ ≤ 13000000 from by omega)⟩) hS (fun q _ h => hFc q h) hFc (fun r_12 u t H1 locs ht hvm hw hB hz1 hk1 hS => ?_)
      obtain ⟨k_10, f_11, hP1, hK1, hD1⟩ := hB
      rw [ht] at hP1
      have hK1 := va_K.moved hvm.symm hK1
      obtain ⟨hP, hD⟩ := va_join (wr := [(mo, .inr (6, [.int th, .int 0, .ref v1, .ref v2]))]) (w1 := [(x, .inr (3, [.ref u1, .ref u2, .ref u3, .ref u4, .ref qd, .int 0, .int 0, .int 0])), (qd, .inr (0, [.ref q])), (q, .inl (cA, 6, .inr (.inl f_11))), (o, .inr (4, [.long k_10, .double 0, .null]))]) hP hD [0, 1, 2, 4] [3] rfl rfl (by decide) (by decide) hk1 hFc hP1 hD1
      have hK := (hK.sub (tys' := []) [] rfl).app hK1
      have hbig := fx_keep hbig hk1 (fun y hy => by
        have h := hdis y hy
        simp only [List.mem_cons, List.not_mem_nil, or_false, not_or, List.map_cons, List.map_nil] at h ⊢
        omega)
      generalize H1 = H at hP hS hbig ⊢
      have hP : va_P (dC, dI) fxCl [(mo, .inr (6, [.int th, .int 0, .ref v1, .ref v2])), (x, .inr (3, [.ref u1, .ref u2, .ref u3, .ref u4, .ref qd, .int 0, .int 0, .int 0])), (qd, .inr (0, [.ref q])), (q, .inl (cA, 6, .inr (.inl f_11))), (o, .inr (4, [.long k_10, .double 0, .null]))] H := hP
      have hD : va_D (fun q : Nat => s.heap.size ≤ q) [(mo, .inr (6, [.int th, .int 0, .ref v1, .ref v2])), (x, .inr (3, [.ref u1, .ref u2, .ref u3, .ref u4, .ref qd, .int 0, .int 0, .int 0])), (qd, .inr (0, [.ref q])), (q, .inl (cA, 6, .inr (.inl f_11))), (o, .inr (4, [.long k_10, .double 0, .null]))] := hD
      have hK : va_K (dC, dI) fxCl [(cA, .long)] s := hK
      refine lv_istore (lv' := [(5, .int r_12), (4, .int (nI (7 * k))), (0, .ref b), (1, .ref x), (2, .ref mo), (3, .ref o)]) hx hb dL_law_1618 hl (by decide) rfl (fun ls hl => ?_)
      refine lv_aload_n hx hb dL_law_1620 rfl (lv_at hl 4 rfl) ?_
      refine lv_aload_n hx hb dL_law_1621 rfl (lv_at hl 2 rfl) ?_
      refine lv_iload hx hb dL_law_1622 (lv_at hl 1 rfl) ?_
      refine lv_iconst (v := 1) hx hb dL_law_1624 (by decide) ?_
      refine lv_iadd hx hb dL_law_1625 ?_
      refine lv_topi (fun x_13 ex_13 => ?_)
      obtain rfl : x_13 = nI ((7 * k) + 1) := ex_13.trans (nI_add (7 * k) 1)
      refine va_sld hx hb hX hbl hbA hS (vp_in_nI (N := 2100) (by omega) (by decide)) dL_law_1626 ?_
      refine lv_topi (fun x_14 ex_14 => ?_)
      obtain rfl : x_14 = (5 : Int32) := ex_14.trans (by rw [nI_clamp (by omega)]; exact (hxs k hk5).2.1)
      refine lv_aload_n hx hb dL_law_1627 rfl (lv_at hl 2 rfl) ?_
      refine lv_iload hx hb dL_law_1628 (lv_at hl 1 rfl) ?_
      refine lv_iconst (v := 2) hx hb dL_law_1630 (by decide) ?_
      refine lv_iadd hx hb dL_law_1631 ?_
      refine lv_topi (fun x_15 ex_15 => ?_)
      obtain rfl : x_15 = nI ((7 * k) + 2) := ex_15.trans (nI_add (7 * k) 2)
      refine va_sld hx hb hX hbl hbA hS (vp_in_nI (N := 2100) (by omega) (by decide)) dL_law_1632 ?_
      refine lv_topi (fun x_16 ex_16 => ?_)
      obtain rfl : x_16 = (7 : Int32) := ex_16.trans (by rw [nI_clamp (by omega)]; exact (hxs k hk5).2.2.1)
      refine lv_aload_n hx hb dL_law_1633 rfl (lv_at hl 2 rfl) ?_
      refine lv_iload hx hb dL_law_1634 (lv_at hl 1 rfl) ?_
      refine lv_iconst (v := 3) hx hb dL_law_1636 (by decide) ?_
      refine lv_iadd hx hb dL_law_1637 ?_
      refine lv_topi (fun x_17 ex_17 => ?_)
      obtain rfl : x_17 = nI ((7 * k) + 3) := ex_17.trans (nI_add (7 * k) 3)
      refine va_sld hx hb hX hbl hbA hS (vp_in_nI (N := 2100) (by omega) (by decide)) dL_law_1638 ?_
      refine lv_topi (fun x_18 ex_18 => ?_)
      obtain rfl : x_18 = (0 : Int32) := ex_18.trans (by rw [nI_clamp (by omega)]; exact (hxs k hk5).2.2.2)
      refine lv_if_eq (tgt := 1646) hx hb dL_law_1639 (by decide) (fun _ => ?_) (fun c => absurd (by decide) c)
      refine lv_iconst (v := 0) hx hb dL_law_1646 (by decide) ?_
      have hszle : s.heap.size ≤ H.size := hS.1
      have hlt_x : x < H.size := (hP 1 _ rfl).lt
      have hlt_qd : qd < H.size := (hP 2 _ rfl).lt
      have hlt_q : q < H.size := (hP 3 _ rfl).lt
      have hlt_mo : mo < H.size := (hP 0 _ rfl).lt
      have hlt_o : o < H.size := (hP 4 _ rfl).lt
      have hPc := hP.sub (ws' := [(mo, .inr (6, [.int th, .int 0, .ref v1, .ref v2]))]) [0] rfl
      have hDc := hD.sub (ws' := [(mo, .inr (6, [.int th, .int 0, .ref v1, .ref v2]))]) [0] (by decide) rfl
      have hKc := hK.sub (tys' := []) [] rfl
      have hFc := va_free (wc := [(mo, .inr (6, [.int th, .int 0, .ref v1, .ref v2]))]) hD hS hA [0] rfl
      refine va_calll (va_runV (As := [.int 5, .int 7, .int 0]) (rest := []) ⟨hx, hb, hml, hown, hts⟩ (c_X10_far l dC dI mo v1 v2 th 0 0 H.size) (cwV 3 hts fx_gX10_far rfl rfl rfl (by decide +kernel) ⟨Nat.le_of_ble_eq_true rfl, Nat.le_of_ble_eq_true rfl⟩) (fx_preV hPc hKc hDc hnw rfl rfl) rfl rfl hl.1 rfl (lv_room (Nat.le_of_ble_eq_true rfl)) dL_law_1647 ⟨(show _ ≤ 20000 from by omega), (show _ ≤ 13000000 from by omega)⟩) hS (fun q _ h => hFc q h) hFc (fun r_22 u t H1 locs ht hvm hw hB hz1 hk1 hS => ?_)
      obtain ⟨L_19, hl_20, hg_21, hP1, hK1, hD1⟩ := hB
      rw [ht] at hP1
      have hK1 := va_K.moved hvm.symm hK1
      obtain ⟨hP, hD⟩ := va_join (wr := [(x, .inr (3, [.ref u1, .ref u2, .ref u3, .ref u4, .ref qd, .int 0, .int 0, .int 0])), (qd, .inr (0, [.ref q])), (q, .inl (cA, 6, .inr (.inl f_11))), (o, .inr (4, [.long k_10, .double 0, .null]))]) (w1 := [(mo, .inr (6, [.int 0, .int 0, .ref v1, .ref v2]))]) hP hD [0] [1, 2, 3, 4] rfl rfl (by decide) (by decide) hk1 hFc hP1 hD1
      have hK := (hK.sub (tys' := [(cA, .long)]) [0] rfl).app hK1
      rw [ht] at hg_21
      have hbig := fx_app hbig (fx_keep hbig hk1 (fun y hy => by
        have h := hdis y hy
        simp only [List.mem_cons, List.not_mem_nil, or_false, not_or, List.map_cons, List.map_nil] at h ⊢
        omega)) hg_21 rfl hszle
      have hdis2 : ∀ y ∈ L ++ L_19, y ∉ [x, qd, q, mo, o] := fun y hy => by
        rcases List.mem_append.mp hy with hy | hy
        · exact hdis y hy
        · have h8 := (hg_21.2 y hy).1
          simp only [List.mem_cons, List.not_mem_nil, or_false, not_or]
          omega
      generalize H1 = H at hP hS hbig ⊢
      have hP : va_P (dC, dI) fxCl [(x, .inr (3, [.ref u1, .ref u2, .ref u3, .ref u4, .ref qd, .int 0, .int 0, .int 0])), (qd, .inr (0, [.ref q])), (q, .inl (cA, 6, .inr (.inl f_11))), (o, .inr (4, [.long k_10, .double 0, .null])), (mo, .inr (6, [.int 0, .int 0, .ref v1, .ref v2]))] H := hP
      have hD : va_D (fun q : Nat => s.heap.size ≤ q) [(x, .inr (3, [.ref u1, .ref u2, .ref u3, .ref u4, .ref qd, .int 0, .int 0, .int 0])), (qd, .inr (0, [.ref q])), (q, .inl (cA, 6, .inr (.inl f_11))), (o, .inr (4, [.long k_10, .double 0, .null])), (mo, .inr (6, [.int 0, .int 0, .ref v1, .ref v2]))] := hD
      have hK : va_K (dC, dI) fxCl [(cA, .long)] s := hK
      refine W.widen (k := 30 + 9 * (k + 1)) (n := 1100 + 25002 * (k + 1)) (by omega) (by omega) ?_
      refine lv_lstore (lv' := [(6, .long r_22), (5, .int r_12), (4, .int (nI (7 * k))), (0, .ref b), (1, .ref x), (2, .ref mo), (3, .ref o)]) hx hb dL_law_1650 hl (by decide) rfl (fun ls hl => ?_)
      refine lv_goto (tgt := 1924) hx hb dL_law_1652 (by decide) ?_
      refine lv_iinc (v := nI ((7 * k) + 7)) (lv' := [(4, .int (nI ((7 * k) + 7))), (6, .long r_22), (5, .int r_12), (0, .ref b), (1, .ref x), (2, .ref mo), (3, .ref o)]) hx hb dL_law_1924 hl (k := 2) rfl (nI_add (7 * k) 7) (by decide) rfl (fun ls hl => ?_)
      refine lv_goto (tgt := 27) hx hb dL_law_1927 (by decide) ?_
      exact ih (k + 1) (L ++ L_19) x qd q mo o u1 u2 u3 u4 v1 v2 cA f_11 k_10 0 H locs ls (by omega) (by omega) (by rw [List.length_append, hl_20]; omega) hbig hdis2 (hK.sub [0] rfl) (hP.sub [0, 1, 2, 4, 3] rfl) (hD.sub [0, 1, 2, 4, 3] (by decide) rfl) hS (lv_sub hl [0, 3, 4, 5, 6] rfl)
set_option maxHeartbeats 8000000 in
set_option maxRecDepth 100000 in
theorem fx_start {p : Program} {e : Env} {s : State} {m : MethodId} {below : List Frame} {meth : Method} {c : Code} (l : Launch) {b : Nat} {xs : Nat → Int32} (hx : p.tables.exec = Jvm.exec) (hb : c.code = code) (hr : meth.sig.returnType = ret) (hml : c.maxLocals = 8) (hown : s.vm.findClass RL = some m.cls) (hts : ∀ w ∈ lw_tbl, w.before #[Value.ref b] s = true) (hX : va_X b 2100 xs s s.heap) (hbl : b < s.heap.size) (hlocks : meth.locks = false) (hxs : ∀ k, k < 300 → xs (7 * k) = 20 ∧ xs (7 * k + 1) = 5 ∧ xs (7 * k + 2) = 7 ∧ xs (7 * k + 3) = 0) (hgv : (Jvm.Cond.and given_1 narrow_1).before #[Value.ref b] s = true) : W p l e fx_room s m #[Value.ref b] below meth c s.heap [] 0 0 (fx_Z below s) (entryFrame m ([Value.ref b] : List Value).toArray 8) := by
  have hnw := fx_nwof hts
  have hA : ∀ q : Nat, s.heap.size ≤ q → (fun q : Nat => s.heap.size ≤ q) q := fun _ h => h
  obtain ⟨c0, iS0, hKn0⟩ := u_known (C := RX0) (T := TX0) (N := 1) (n := 1) hts fx_iX0 (hts (.instantiable RX0 1) (by decide +kernel))
  obtain ⟨c1, iS1, hKn1⟩ := u_known (C := RX1) (T := TX1) (N := 9) (n := 9) hts fx_iX1 (hts (.instantiable RX1 9) (by decide +kernel))
  obtain ⟨c2, iS2, hKn2⟩ := u_known (C := RX3) (T := TX3) (N := 2) (n := 2) hts fx_iX3 (hts (.instantiable RX3 2) (by decide +kernel))
  obtain ⟨c3, iS3, hKn3⟩ := u_known (C := RX5) (T := TX5) (N := 8) (n := 8) hts fx_iX5 (hts (.instantiable RX5 8) (by decide +kernel))
  obtain ⟨c4, iS4, hKn4⟩ := u_known (C := RX6) (T := TX6) (N := 3) (n := 3) hts fx_iX6 (hts (.instantiable RX6 3) (by decide +kernel))
  obtain ⟨c5, iS5, hKn5⟩ := u_known (C := RX8) (T := TX8) (N := 2) (n := 2) hts fx_iX8 (hts (.instantiable RX8 2) (by decide +kernel))
  obtain ⟨c6, iS6, hKn6⟩ := u_known (C := RX10) (T := TX10) (N := 4) (n := 4) hts fx_iX10 (hts (.instantiable RX10 4) (by decide +kernel))
  obtain ⟨c7, iS7, hKn7⟩ := u_known (C := RJx4a65c) (T := TJx4a65c) (N := 3) (n := 3) hts fx_iJx4a65c (hts (.instantiable RJx4a65c 3) (by decide +kernel))
  obtain ⟨dC, dI, hKc⟩ : ∃ (dC : Nat → ClassId) (dI : Nat → Nat → Nat), ∀ (k : Nat) (q : vw_C), fxCl[k]? = some q → u_Kn s q.1 q.2.1 q.2.2 (dC k) (dI k) := by
    refine ⟨fun k => match k with | 0 => c0 | 1 => c1 | 2 => c2 | 3 => c3 | 4 => c4 | 5 => c5 | 6 => c6 | _ => c7, fun k => match k with | 0 => iS0 | 1 => iS1 | 2 => iS2 | 3 => iS3 | 4 => iS4 | 5 => iS5 | 6 => iS6 | _ => iS7, ?_⟩
    intro k q hq
    match k, hq with
    | 0, hq => cases hq; exact hKn0
    | 1, hq => cases hq; exact hKn1
    | 2, hq => cases hq; exact hKn2
    | 3, hq => cases hq; exact hKn3
    | 4, hq => cases hq; exact hKn4
    | 5, hq => cases hq; exact hKn5
    | 6, hq => cases hq; exact hKn6
    | 7, hq => cases hq; exact hKn7
    | k + 8, hq => simp [fxCl] at hq
  obtain ⟨H, hHe⟩ : ∃ H, H = s.heap := ⟨_, rfl⟩
  refine fx_h hHe ?_
  have hS : va_S (fun q : Nat => s.heap.size ≤ q) s.heap H [] := by rw [hHe]; exact va_S.rf
  have hK : va_K (dC, dI) fxCl [] s := ⟨hKc, fun k q h => by simp at h⟩
  have hP : va_P (dC, dI) fxCl [] H := fun k q h => by simp at h
  have hD : va_D (fun q : Nat => s.heap.size ≤ q) [] := ⟨fun i j p q h => by simp at h, fun k q h => by simp at h⟩
  have hl := lv_entry ([.ref b]) (n := 8) (Nat.le_of_ble_eq_true rfl)
  rw [lg_entry_eq]
  generalize (lg_sl ([.ref b]) ++ List.replicate (8 - (lg_sl ([.ref b])).length) Slot.unset).toArray = ls at hl ⊢
  have hl : lv_has ls 8 [(0, .ref b)] := hl
  rcases fx_Zof hts hgv with hZ | ⟨tz, hZ⟩
  · refine va_new (ci := 3) (fs := [.null, .null, .null, .null, .null, .int 0, .int 0, .int 0]) (C := RX5) (T := TX5) (N := 8) hx hb hts fx_iX5 tyX5 tyX5_ok hown (hts (.classLink RL 8 RX5) (by decide +kernel)) (hts (.instantiable RX5 8) (by decide +kernel)) (hts (.initialized RX5) (by decide +kernel)) hK hP hD hS hA rfl (fun j hj => by rcases (show j = 0 ∨ j = 1 ∨ j = 2 ∨ j = 3 ∨ j = 4 ∨ j = 5 ∨ j = 6 ∨ j = 7 by omega) with rfl | rfl | rfl | rfl | rfl | rfl | rfl | rfl <;> rfl) (Nat.le_of_ble_eq_true rfl) (Nat.le_of_ble_eq_true rfl) dL_law_0 (fun q_1 H hP hD hS => ?_)
    refine W.widen (k := 1) (n := 8) (Nat.le_of_ble_eq_true rfl) (Nat.le_of_ble_eq_true rfl) ?_
    have hP : va_P (dC, dI) fxCl [(q_1, .inr (3, [.null, .null, .null, .null, .null, .int 0, .int 0, .int 0]))] H := hP
    have hD : va_D (fun q : Nat => s.heap.size ≤ q) [(q_1, .inr (3, [.null, .null, .null, .null, .null, .int 0, .int 0, .int 0]))] := hD
    refine lv_dup hx hb dL_law_3 rfl ?_
    have hPc := hP.sub (ws' := [(q_1, .inr (3, [.null, .null, .null, .null, .null, .int 0, .int 0, .int 0]))]) [0] rfl
    have hDc := hD.sub (ws' := [(q_1, .inr (3, [.null, .null, .null, .null, .null, .int 0, .int 0, .int 0]))]) [0] (by decide) rfl
    have hKc := hK.sub (tys' := []) [] rfl
    have hFc := va_free (wc := [(q_1, .inr (3, [.null, .null, .null, .null, .null, .int 0, .int 0, .int 0]))]) hD hS hA [0] rfl
    refine va_callv (va_runI (As := []) (rest := [.ref q_1]) ⟨hx, hb, hml, hown, hts⟩ (c_X5_init l dC dI q_1 H.size) (cwI 0 hts fx_gX5_init rfl rfl rfl (hts (.initialized RX5) (by decide +kernel)) (hts (.methodLink RL 128 yX5_init) (by decide +kernel)) (hts (.instanceMethod yX5_init) (by decide +kernel)) rfl (by decide +kernel) ⟨Nat.le_of_ble_eq_true rfl, Nat.le_of_ble_eq_true rfl⟩) (fx_preS hPc hKc hDc hnw) rfl rfl hl.1 rfl (lv_room (Nat.le_of_ble_eq_true rfl)) dL_law_4 ⟨(Nat.le_of_ble_eq_true rfl), (Nat.le_of_ble_eq_true rfl)⟩) hS (fun q _ h => hFc q h) hFc (fun u t H1 locs ht hvm hw hB hz1 hk1 hS => ?_)
    obtain ⟨u_2, u_3, u_4, u_5, qd_6, q_7, cA_8, f_9, hP1, hK1, hD1⟩ := hB
    rw [ht] at hP1
    have hK1 := va_K.moved hvm.symm hK1
    obtain ⟨hP, hD⟩ := va_join (wr := []) (w1 := [(q_1, .inr (3, [.ref u_2, .ref u_3, .ref u_4, .ref u_5, .ref qd_6, .int 0, .int 0, .int 0])), (qd_6, .inr (0, [.ref q_7])), (q_7, .inl (cA_8, 6, .inr (.inl f_9)))]) hP hD [0] [] rfl rfl (by decide) (by decide) hk1 hFc hP1 hD1
    have hK := (hK.sub (tys' := []) [] rfl).app hK1
    generalize H1 = H at hP hS ⊢
    have hP : va_P (dC, dI) fxCl [(q_1, .inr (3, [.ref u_2, .ref u_3, .ref u_4, .ref u_5, .ref qd_6, .int 0, .int 0, .int 0])), (qd_6, .inr (0, [.ref q_7])), (q_7, .inl (cA_8, 6, .inr (.inl f_9)))] H := hP
    have hD : va_D (fun q : Nat => s.heap.size ≤ q) [(q_1, .inr (3, [.ref u_2, .ref u_3, .ref u_4, .ref u_5, .ref qd_6, .int 0, .int 0, .int 0])), (qd_6, .inr (0, [.ref q_7])), (q_7, .inl (cA_8, 6, .inr (.inl f_9)))] := hD
    have hK : va_K (dC, dI) fxCl [(cA_8, .long)] s := hK
    refine W.widen (k := 15) (n := 1012) (Nat.le_of_ble_eq_true rfl) (Nat.le_of_ble_eq_true rfl) ?_
    refine lv_astore_n (lv' := [(1, .ref q_1), (0, .ref b)]) hx hb dL_law_7 rfl hl (by decide) rfl (fun ls hl => ?_)
    refine va_new (ci := 6) (fs := [.int 0, .int 0, .null, .null]) (C := RX10) (T := TX10) (N := 4) hx hb hts fx_iX10 tyX10 tyX10_ok hown (hts (.classLink RL 129 RX10) (by decide +kernel)) (hts (.instantiable RX10 4) (by decide +kernel)) (hts (.initialized RX10) (by decide +kernel)) hK hP hD hS hA rfl (fun j hj => by rcases (show j = 0 ∨ j = 1 ∨ j = 2 ∨ j = 3 by omega) with rfl | rfl | rfl | rfl <;> rfl) (Nat.le_of_ble_eq_true rfl) (Nat.le_of_ble_eq_true rfl) dL_law_8 (fun q_10 H hP hD hS => ?_)
    refine W.widen (k := 16) (n := 1016) (Nat.le_of_ble_eq_true rfl) (Nat.le_of_ble_eq_true rfl) ?_
    have hP : va_P (dC, dI) fxCl [(q_1, .inr (3, [.ref u_2, .ref u_3, .ref u_4, .ref u_5, .ref qd_6, .int 0, .int 0, .int 0])), (qd_6, .inr (0, [.ref q_7])), (q_7, .inl (cA_8, 6, .inr (.inl f_9))), (q_10, .inr (6, [.int 0, .int 0, .null, .null]))] H := hP
    have hD : va_D (fun q : Nat => s.heap.size ≤ q) [(q_1, .inr (3, [.ref u_2, .ref u_3, .ref u_4, .ref u_5, .ref qd_6, .int 0, .int 0, .int 0])), (qd_6, .inr (0, [.ref q_7])), (q_7, .inl (cA_8, 6, .inr (.inl f_9))), (q_10, .inr (6, [.int 0, .int 0, .null, .null]))] := hD
    refine lv_dup hx hb dL_law_11 rfl ?_
    have hPc := hP.sub (ws' := [(q_10, .inr (6, [.int 0, .int 0, .null, .null]))]) [3] rfl
    have hDc := hD.sub (ws' := [(q_10, .inr (6, [.int 0, .int 0, .null, .null]))]) [3] (by decide) rfl
    have hKc := hK.sub (tys' := []) [] rfl
    have hFc := va_free (wc := [(q_10, .inr (6, [.int 0, .int 0, .null, .null]))]) hD hS hA [3] rfl
    refine va_callv (va_runI (As := []) (rest := [.ref q_10]) ⟨hx, hb, hml, hown, hts⟩ (c_X10_init_n l dC dI q_10 H.size) (cwI 0 hts fx_gX10_init rfl rfl rfl (hts (.initialized RX10) (by decide +kernel)) (hts (.methodLink RL 131 yX10_init) (by decide +kernel)) (hts (.instanceMethod yX10_init) (by decide +kernel)) rfl (by decide +kernel) ⟨Nat.le_of_ble_eq_true rfl, Nat.le_of_ble_eq_true rfl⟩) (fx_preZ hPc hKc hDc hnw hZ hS hFc) rfl rfl hl.1 rfl (lv_room (Nat.le_of_ble_eq_true rfl)) dL_law_12 ⟨(Nat.le_of_ble_eq_true rfl), (Nat.le_of_ble_eq_true rfl)⟩) hS (fun q _ h => hFc q h) hFc (fun u t H1 locs ht hvm hw hB hz1 hk1 hS => ?_)
    obtain ⟨v_11, v_12, hP1, hK1, hD1⟩ := hB
    rw [ht] at hP1
    have hK1 := va_K.moved hvm.symm hK1
    obtain ⟨hP, hD⟩ := va_join (wr := [(q_1, .inr (3, [.ref u_2, .ref u_3, .ref u_4, .ref u_5, .ref qd_6, .int 0, .int 0, .int 0])), (qd_6, .inr (0, [.ref q_7])), (q_7, .inl (cA_8, 6, .inr (.inl f_9)))]) (w1 := [(q_10, .inr (6, [.int 0, .int 0, .ref v_11, .ref v_12]))]) hP hD [3] [0, 1, 2] rfl rfl (by decide) (by decide) hk1 hFc hP1 hD1
    have hK := (hK.sub (tys' := [(cA_8, .long)]) [0] rfl).app hK1
    generalize H1 = H at hP hS ⊢
    have hP : va_P (dC, dI) fxCl [(q_1, .inr (3, [.ref u_2, .ref u_3, .ref u_4, .ref u_5, .ref qd_6, .int 0, .int 0, .int 0])), (qd_6, .inr (0, [.ref q_7])), (q_7, .inl (cA_8, 6, .inr (.inl f_9))), (q_10, .inr (6, [.int 0, .int 0, .ref v_11, .ref v_12]))] H := hP
    have hD : va_D (fun q : Nat => s.heap.size ≤ q) [(q_1, .inr (3, [.ref u_2, .ref u_3, .ref u_4, .ref u_5, .ref qd_6, .int 0, .int 0, .int 0])), (qd_6, .inr (0, [.ref q_7])), (q_7, .inl (cA_8, 6, .inr (.inl f_9))), (q_10, .inr (6, [.int 0, .int 0, .ref v_11, .ref v_12]))] := hD
    have hK : va_K (dC, dI) fxCl [(cA_8, .long)] s := hK
    refine W.widen (k := 18) (n := 1022) (Nat.le_of_ble_eq_true rfl) (Nat.le_of_ble_eq_true rfl) ?_
    refine lv_astore_n (lv' := [(2, .ref q_10), (1, .ref q_1), (0, .ref b)]) hx hb dL_law_15 rfl hl (by decide) rfl (fun ls hl => ?_)
    refine va_new (ci := 4) (fs := [.long 0, .double 0, .null]) (C := RX6) (T := TX6) (N := 3) hx hb hts fx_iX6 tyX6 tyX6_ok hown (hts (.classLink RL 14 RX6) (by decide +kernel)) (hts (.instantiable RX6 3) (by decide +kernel)) (hts (.initialized RX6) (by decide +kernel)) hK hP hD hS hA rfl (fun j hj => by rcases (show j = 0 ∨ j = 1 ∨ j = 2 by omega) with rfl | rfl | rfl <;> rfl) (Nat.le_of_ble_eq_true rfl) (Nat.le_of_ble_eq_true rfl) dL_law_16 (fun q_13 H hP hD hS => ?_)
    refine W.widen (k := 19) (n := 1025) (Nat.le_of_ble_eq_true rfl) (Nat.le_of_ble_eq_true rfl) ?_
    have hP : va_P (dC, dI) fxCl [(q_1, .inr (3, [.ref u_2, .ref u_3, .ref u_4, .ref u_5, .ref qd_6, .int 0, .int 0, .int 0])), (qd_6, .inr (0, [.ref q_7])), (q_7, .inl (cA_8, 6, .inr (.inl f_9))), (q_10, .inr (6, [.int 0, .int 0, .ref v_11, .ref v_12])), (q_13, .inr (4, [.long 0, .double 0, .null]))] H := hP
    have hD : va_D (fun q : Nat => s.heap.size ≤ q) [(q_1, .inr (3, [.ref u_2, .ref u_3, .ref u_4, .ref u_5, .ref qd_6, .int 0, .int 0, .int 0])), (qd_6, .inr (0, [.ref q_7])), (q_7, .inl (cA_8, 6, .inr (.inl f_9))), (q_10, .inr (6, [.int 0, .int 0, .ref v_11, .ref v_12])), (q_13, .inr (4, [.long 0, .double 0, .null]))] := hD
    refine lv_dup hx hb dL_law_19 rfl ?_
    have hPc := hP.sub (ws' := [(q_13, .inr (4, [.long 0, .double 0, .null]))]) [4] rfl
    have hDc := hD.sub (ws' := [(q_13, .inr (4, [.long 0, .double 0, .null]))]) [4] (by decide) rfl
    have hKc := hK.sub (tys' := []) [] rfl
    have hFc := va_free (wc := [(q_13, .inr (4, [.long 0, .double 0, .null]))]) hD hS hA [4] rfl
    refine va_callv (va_runIN (As := []) (rest := [.ref q_13]) ⟨hx, hb, hml, hown, hts⟩ (c_X6_init l dC dI q_13 H.size) ⟨va_cnB 0 hts fx_gX6_init rfl rfl rfl (hnw.2.2.2.2.2.2.2.2.2.1) (hts (.initialized RX6) (by decide +kernel)) (by decide +kernel) ⟨Nat.le_of_ble_eq_true rfl, Nat.le_of_ble_eq_true rfl⟩, rfl, hts (.instanceMethod yX6_init) (by decide +kernel)⟩ (fx_preS hPc hKc hDc hnw) rfl rfl hl.1 rfl (lv_room (Nat.le_of_ble_eq_true rfl)) dL_law_20 ⟨(Nat.le_of_ble_eq_true rfl), (Nat.le_of_ble_eq_true rfl)⟩) hS (fun q _ h => hFc q h) hFc (fun u t H1 locs ht hvm hw hB hz1 hk1 hS => ?_)
    obtain ⟨hP1, hK1, hD1⟩ := hB
    rw [ht] at hP1
    have hK1 := va_K.moved hvm.symm hK1
    obtain ⟨hP, hD⟩ := va_join (wr := [(q_1, .inr (3, [.ref u_2, .ref u_3, .ref u_4, .ref u_5, .ref qd_6, .int 0, .int 0, .int 0])), (qd_6, .inr (0, [.ref q_7])), (q_7, .inl (cA_8, 6, .inr (.inl f_9))), (q_10, .inr (6, [.int 0, .int 0, .ref v_11, .ref v_12]))]) (w1 := [(q_13, .inr (4, [.long 0, .double 0, .null]))]) hP hD [4] [0, 1, 2, 3] rfl rfl (by decide) (by decide) hk1 hFc hP1 hD1
    have hK := (hK.sub (tys' := [(cA_8, .long)]) [0] rfl).app hK1
    generalize H1 = H at hP hS ⊢
    have hP : va_P (dC, dI) fxCl [(q_1, .inr (3, [.ref u_2, .ref u_3, .ref u_4, .ref u_5, .ref qd_6, .int 0, .int 0, .int 0])), (qd_6, .inr (0, [.ref q_7])), (q_7, .inl (cA_8, 6, .inr (.inl f_9))), (q_10, .inr (6, [.int 0, .int 0, .ref v_11, .ref v_12])), (q_13, .inr (4, [.long 0, .double 0, .null]))] H := hP
    have hD : va_D (fun q : Nat => s.heap.size ≤ q) [(q_1, .inr (3, [.ref u_2, .ref u_3, .ref u_4, .ref u_5, .ref qd_6, .int 0, .int 0, .int 0])), (qd_6, .inr (0, [.ref q_7])), (q_7, .inl (cA_8, 6, .inr (.inl f_9))), (q_10, .inr (6, [.int 0, .int 0, .ref v_11, .ref v_12])), (q_13, .inr (4, [.long 0, .double 0, .null]))] := hD
    have hK : va_K (dC, dI) fxCl [(cA_8, .long)] s := hK
    refine lv_astore_n (lv' := [(3, .ref q_13), (2, .ref q_10), (1, .ref q_1), (0, .ref b)]) hx hb dL_law_23 rfl hl (by decide) rfl (fun ls hl => ?_)
    refine lv_iconst (v := 0) hx hb dL_law_24 (by decide) ?_
    refine lv_istore (lv' := [(4, .int 0), (3, .ref q_13), (2, .ref q_10), (1, .ref q_1), (0, .ref b)]) hx hb dL_law_25 hl (by decide) rfl (fun ls hl => ?_)
    refine W.widen (k := 30 + 9 * 0) (n := 1100 + 25002 * 0) (Nat.le_of_ble_eq_true rfl) (Nat.le_of_ble_eq_true rfl) ?_
    exact fx_loop l dC dI hx hb hr hml hown hts hX hbl hlocks hxs hnw 601 0 [] q_1 qd_6 q_7 q_10 q_13 u_2 u_3 u_4 u_5 v_11 v_12 cA_8 f_9 0 0 H _ ls (by omega) (by omega) rfl ⟨List.nodup_nil, fun _ h => absurd h List.not_mem_nil⟩ (fun _ h => absurd h List.not_mem_nil) (hK.sub [0] rfl) (hP.sub [0, 1, 2, 3, 4] rfl) (hD.sub [0, 1, 2, 3, 4] (by decide) rfl) hS (lv_sub hl [0, 4, 3, 2, 1] rfl)
  · refine va_new (ci := 3) (fs := [.null, .null, .null, .null, .null, .int 0, .int 0, .int 0]) (C := RX5) (T := TX5) (N := 8) hx hb hts fx_iX5 tyX5 tyX5_ok hown (hts (.classLink RL 8 RX5) (by decide +kernel)) (hts (.instantiable RX5 8) (by decide +kernel)) (hts (.initialized RX5) (by decide +kernel)) hK hP hD hS hA rfl (fun j hj => by rcases (show j = 0 ∨ j = 1 ∨ j = 2 ∨ j = 3 ∨ j = 4 ∨ j = 5 ∨ j = 6 ∨ j = 7 by omega) with rfl | rfl | rfl | rfl | rfl | rfl | rfl | rfl <;> rfl) (Nat.le_of_ble_eq_true rfl) (Nat.le_of_ble_eq_true rfl) dL_law_0 (fun q_1 H hP hD hS => ?_)
    refine W.widen (k := 1) (n := 8) (Nat.le_of_ble_eq_true rfl) (Nat.le_of_ble_eq_true rfl) ?_
    have hP : va_P (dC, dI) fxCl [(q_1, .inr (3, [.null, .null, .null, .null, .null, .int 0, .int 0, .int 0]))] H := hP
    have hD : va_D (fun q : Nat => s.heap.size ≤ q) [(q_1, .inr (3, [.null, .null, .null, .null, .null, .int 0, .int 0, .int 0]))] := hD
    refine lv_dup hx hb dL_law_3 rfl ?_
    have hPc := hP.sub (ws' := [(q_1, .inr (3, [.null, .null, .null, .null, .null, .int 0, .int 0, .int 0]))]) [0] rfl
    have hDc := hD.sub (ws' := [(q_1, .inr (3, [.null, .null, .null, .null, .null, .int 0, .int 0, .int 0]))]) [0] (by decide) rfl
    have hKc := hK.sub (tys' := []) [] rfl
    have hFc := va_free (wc := [(q_1, .inr (3, [.null, .null, .null, .null, .null, .int 0, .int 0, .int 0]))]) hD hS hA [0] rfl
    refine va_callv (va_runI (As := []) (rest := [.ref q_1]) ⟨hx, hb, hml, hown, hts⟩ (c_X5_init l dC dI q_1 H.size) (cwI 0 hts fx_gX5_init rfl rfl rfl (hts (.initialized RX5) (by decide +kernel)) (hts (.methodLink RL 128 yX5_init) (by decide +kernel)) (hts (.instanceMethod yX5_init) (by decide +kernel)) rfl (by decide +kernel) ⟨Nat.le_of_ble_eq_true rfl, Nat.le_of_ble_eq_true rfl⟩) (fx_preS hPc hKc hDc hnw) rfl rfl hl.1 rfl (lv_room (Nat.le_of_ble_eq_true rfl)) dL_law_4 ⟨(Nat.le_of_ble_eq_true rfl), (Nat.le_of_ble_eq_true rfl)⟩) hS (fun q _ h => hFc q h) hFc (fun u t H1 locs ht hvm hw hB hz1 hk1 hS => ?_)
    obtain ⟨u_2, u_3, u_4, u_5, qd_6, q_7, cA_8, f_9, hP1, hK1, hD1⟩ := hB
    rw [ht] at hP1
    have hK1 := va_K.moved hvm.symm hK1
    obtain ⟨hP, hD⟩ := va_join (wr := []) (w1 := [(q_1, .inr (3, [.ref u_2, .ref u_3, .ref u_4, .ref u_5, .ref qd_6, .int 0, .int 0, .int 0])), (qd_6, .inr (0, [.ref q_7])), (q_7, .inl (cA_8, 6, .inr (.inl f_9)))]) hP hD [0] [] rfl rfl (by decide) (by decide) hk1 hFc hP1 hD1
    have hK := (hK.sub (tys' := []) [] rfl).app hK1
    generalize H1 = H at hP hS ⊢
    have hP : va_P (dC, dI) fxCl [(q_1, .inr (3, [.ref u_2, .ref u_3, .ref u_4, .ref u_5, .ref qd_6, .int 0, .int 0, .int 0])), (qd_6, .inr (0, [.ref q_7])), (q_7, .inl (cA_8, 6, .inr (.inl f_9)))] H := hP
    have hD : va_D (fun q : Nat => s.heap.size ≤ q) [(q_1, .inr (3, [.ref u_2, .ref u_3, .ref u_4, .ref u_5, .ref qd_6, .int 0, .int 0, .int 0])), (qd_6, .inr (0, [.ref q_7])), (q_7, .inl (cA_8, 6, .inr (.inl f_9)))] := hD
    have hK : va_K (dC, dI) fxCl [(cA_8, .long)] s := hK
    refine W.widen (k := 15) (n := 1012) (Nat.le_of_ble_eq_true rfl) (Nat.le_of_ble_eq_true rfl) ?_
    refine lv_astore_n (lv' := [(1, .ref q_1), (0, .ref b)]) hx hb dL_law_7 rfl hl (by decide) rfl (fun ls hl => ?_)
    refine va_new (ci := 6) (fs := [.int 0, .int 0, .null, .null]) (C := RX10) (T := TX10) (N := 4) hx hb hts fx_iX10 tyX10 tyX10_ok hown (hts (.classLink RL 129 RX10) (by decide +kernel)) (hts (.instantiable RX10 4) (by decide +kernel)) (hts (.initialized RX10) (by decide +kernel)) hK hP hD hS hA rfl (fun j hj => by rcases (show j = 0 ∨ j = 1 ∨ j = 2 ∨ j = 3 by omega) with rfl | rfl | rfl | rfl <;> rfl) (Nat.le_of_ble_eq_true rfl) (Nat.le_of_ble_eq_true rfl) dL_law_8 (fun q_10 H hP hD hS => ?_)
    refine W.widen (k := 16) (n := 1016) (Nat.le_of_ble_eq_true rfl) (Nat.le_of_ble_eq_true rfl) ?_
    have hP : va_P (dC, dI) fxCl [(q_1, .inr (3, [.ref u_2, .ref u_3, .ref u_4, .ref u_5, .ref qd_6, .int 0, .int 0, .int 0])), (qd_6, .inr (0, [.ref q_7])), (q_7, .inl (cA_8, 6, .inr (.inl f_9))), (q_10, .inr (6, [.int 0, .int 0, .null, .null]))] H := hP
    have hD : va_D (fun q : Nat => s.heap.size ≤ q) [(q_1, .inr (3, [.ref u_2, .ref u_3, .ref u_4, .ref u_5, .ref qd_6, .int 0, .int 0, .int 0])), (qd_6, .inr (0, [.ref q_7])), (q_7, .inl (cA_8, 6, .inr (.inl f_9))), (q_10, .inr (6, [.int 0, .int 0, .null, .null]))] := hD
    refine lv_dup hx hb dL_law_11 rfl ?_
    have hPc := hP.sub (ws' := [(q_10, .inr (6, [.int 0, .int 0, .null, .null]))]) [3] rfl
    have hDc := hD.sub (ws' := [(q_10, .inr (6, [.int 0, .int 0, .null, .null]))]) [3] (by decide) rfl
    have hKc := hK.sub (tys' := []) [] rfl
    have hFc := va_free (wc := [(q_10, .inr (6, [.int 0, .int 0, .null, .null]))]) hD hS hA [3] rfl
    refine va_callv (va_runI (As := []) (rest := [.ref q_10]) ⟨hx, hb, hml, hown, hts⟩ (c_X10_init_r l dC dI q_10 tz H.size) (cwI 0 hts fx_gX10_init rfl rfl rfl (hts (.initialized RX10) (by decide +kernel)) (hts (.methodLink RL 131 yX10_init) (by decide +kernel)) (hts (.instanceMethod yX10_init) (by decide +kernel)) rfl (by decide +kernel) ⟨Nat.le_of_ble_eq_true rfl, Nat.le_of_ble_eq_true rfl⟩) (fx_preZ hPc hKc hDc hnw hZ hS hFc) rfl rfl hl.1 rfl (lv_room (Nat.le_of_ble_eq_true rfl)) dL_law_12 ⟨(Nat.le_of_ble_eq_true rfl), (Nat.le_of_ble_eq_true rfl)⟩) hS (fun q _ h => hFc q h) hFc (fun u t H1 locs ht hvm hw hB hz1 hk1 hS => ?_)
    obtain ⟨v_11, v_12, hP1, hK1, hD1⟩ := hB
    rw [ht] at hP1
    have hK1 := va_K.moved hvm.symm hK1
    obtain ⟨hP, hD⟩ := va_join (wr := [(q_1, .inr (3, [.ref u_2, .ref u_3, .ref u_4, .ref u_5, .ref qd_6, .int 0, .int 0, .int 0])), (qd_6, .inr (0, [.ref q_7])), (q_7, .inl (cA_8, 6, .inr (.inl f_9)))]) (w1 := [(q_10, .inr (6, [.int 0, .int 0, .ref v_11, .ref v_12]))]) hP hD [3] [0, 1, 2] rfl rfl (by decide) (by decide) hk1 hFc hP1 hD1
    have hK := (hK.sub (tys' := [(cA_8, .long)]) [0] rfl).app hK1
    generalize H1 = H at hP hS ⊢
    have hP : va_P (dC, dI) fxCl [(q_1, .inr (3, [.ref u_2, .ref u_3, .ref u_4, .ref u_5, .ref qd_6, .int 0, .int 0, .int 0])), (qd_6, .inr (0, [.ref q_7])), (q_7, .inl (cA_8, 6, .inr (.inl f_9))), (q_10, .inr (6, [.int 0, .int 0, .ref v_11, .ref v_12]))] H := hP
    have hD : va_D (fun q : Nat => s.heap.size ≤ q) [(q_1, .inr (3, [.ref u_2, .ref u_3, .ref u_4, .ref u_5, .ref qd_6, .int 0, .int 0, .int 0])), (qd_6, .inr (0, [.ref q_7])), (q_7, .inl (cA_8, 6, .inr (.inl f_9))), (q_10, .inr (6, [.int 0, .int 0, .ref v_11, .ref v_12]))] := hD
    have hK : va_K (dC, dI) fxCl [(cA_8, .long)] s := hK
    refine W.widen (k := 18) (n := 1022) (Nat.le_of_ble_eq_true rfl) (Nat.le_of_ble_eq_true rfl) ?_
    refine lv_astore_n (lv' := [(2, .ref q_10), (1, .ref q_1), (0, .ref b)]) hx hb dL_law_15 rfl hl (by decide) rfl (fun ls hl => ?_)
    refine va_new (ci := 4) (fs := [.long 0, .double 0, .null]) (C := RX6) (T := TX6) (N := 3) hx hb hts fx_iX6 tyX6 tyX6_ok hown (hts (.classLink RL 14 RX6) (by decide +kernel)) (hts (.instantiable RX6 3) (by decide +kernel)) (hts (.initialized RX6) (by decide +kernel)) hK hP hD hS hA rfl (fun j hj => by rcases (show j = 0 ∨ j = 1 ∨ j = 2 by omega) with rfl | rfl | rfl <;> rfl) (Nat.le_of_ble_eq_true rfl) (Nat.le_of_ble_eq_true rfl) dL_law_16 (fun q_13 H hP hD hS => ?_)
    refine W.widen (k := 19) (n := 1025) (Nat.le_of_ble_eq_true rfl) (Nat.le_of_ble_eq_true rfl) ?_
    have hP : va_P (dC, dI) fxCl [(q_1, .inr (3, [.ref u_2, .ref u_3, .ref u_4, .ref u_5, .ref qd_6, .int 0, .int 0, .int 0])), (qd_6, .inr (0, [.ref q_7])), (q_7, .inl (cA_8, 6, .inr (.inl f_9))), (q_10, .inr (6, [.int 0, .int 0, .ref v_11, .ref v_12])), (q_13, .inr (4, [.long 0, .double 0, .null]))] H := hP
    have hD : va_D (fun q : Nat => s.heap.size ≤ q) [(q_1, .inr (3, [.ref u_2, .ref u_3, .ref u_4, .ref u_5, .ref qd_6, .int 0, .int 0, .int 0])), (qd_6, .inr (0, [.ref q_7])), (q_7, .inl (cA_8, 6, .inr (.inl f_9))), (q_10, .inr (6, [.int 0, .int 0, .ref v_11, .ref v_12])), (q_13, .inr (4, [.long 0, .double 0, .null]))] := hD
    refine lv_dup hx hb dL_law_19 rfl ?_
    have hPc := hP.sub (ws' := [(q_13, .inr (4, [.long 0, .double 0, .null]))]) [4] rfl
    have hDc := hD.sub (ws' := [(q_13, .inr (4, [.long 0, .double 0, .null]))]) [4] (by decide) rfl
    have hKc := hK.sub (tys' := []) [] rfl
    have hFc := va_free (wc := [(q_13, .inr (4, [.long 0, .double 0, .null]))]) hD hS hA [4] rfl
    refine va_callv (va_runIN (As := []) (rest := [.ref q_13]) ⟨hx, hb, hml, hown, hts⟩ (c_X6_init l dC dI q_13 H.size) ⟨va_cnB 0 hts fx_gX6_init rfl rfl rfl (hnw.2.2.2.2.2.2.2.2.2.1) (hts (.initialized RX6) (by decide +kernel)) (by decide +kernel) ⟨Nat.le_of_ble_eq_true rfl, Nat.le_of_ble_eq_true rfl⟩, rfl, hts (.instanceMethod yX6_init) (by decide +kernel)⟩ (fx_preS hPc hKc hDc hnw) rfl rfl hl.1 rfl (lv_room (Nat.le_of_ble_eq_true rfl)) dL_law_20 ⟨(Nat.le_of_ble_eq_true rfl), (Nat.le_of_ble_eq_true rfl)⟩) hS (fun q _ h => hFc q h) hFc (fun u t H1 locs ht hvm hw hB hz1 hk1 hS => ?_)
    obtain ⟨hP1, hK1, hD1⟩ := hB
    rw [ht] at hP1
    have hK1 := va_K.moved hvm.symm hK1
    obtain ⟨hP, hD⟩ := va_join (wr := [(q_1, .inr (3, [.ref u_2, .ref u_3, .ref u_4, .ref u_5, .ref qd_6, .int 0, .int 0, .int 0])), (qd_6, .inr (0, [.ref q_7])), (q_7, .inl (cA_8, 6, .inr (.inl f_9))), (q_10, .inr (6, [.int 0, .int 0, .ref v_11, .ref v_12]))]) (w1 := [(q_13, .inr (4, [.long 0, .double 0, .null]))]) hP hD [4] [0, 1, 2, 3] rfl rfl (by decide) (by decide) hk1 hFc hP1 hD1
    have hK := (hK.sub (tys' := [(cA_8, .long)]) [0] rfl).app hK1
    generalize H1 = H at hP hS ⊢
    have hP : va_P (dC, dI) fxCl [(q_1, .inr (3, [.ref u_2, .ref u_3, .ref u_4, .ref u_5, .ref qd_6, .int 0, .int 0, .int 0])), (qd_6, .inr (0, [.ref q_7])), (q_7, .inl (cA_8, 6, .inr (.inl f_9))), (q_10, .inr (6, [.int 0, .int 0, .ref v_11, .ref v_12])), (q_13, .inr (4, [.long 0, .double 0, .null]))] H := hP
    have hD : va_D (fun q : Nat => s.heap.size ≤ q) [(q_1, .inr (3, [.ref u_2, .ref u_3, .ref u_4, .ref u_5, .ref qd_6, .int 0, .int 0, .int 0])), (qd_6, .inr (0, [.ref q_7])), (q_7, .inl (cA_8, 6, .inr (.inl f_9))), (q_10, .inr (6, [.int 0, .int 0, .ref v_11, .ref v_12])), (q_13, .inr (4, [.long 0, .double 0, .null]))] := hD
    have hK : va_K (dC, dI) fxCl [(cA_8, .long)] s := hK
    refine lv_astore_n (lv' := [(3, .ref q_13), (2, .ref q_10), (1, .ref q_1), (0, .ref b)]) hx hb dL_law_23 rfl hl (by decide) rfl (fun ls hl => ?_)
    refine lv_iconst (v := 0) hx hb dL_law_24 (by decide) ?_
    refine lv_istore (lv' := [(4, .int 0), (3, .ref q_13), (2, .ref q_10), (1, .ref q_1), (0, .ref b)]) hx hb dL_law_25 hl (by decide) rfl (fun ls hl => ?_)
    refine W.widen (k := 30 + 9 * 0) (n := 1100 + 25002 * 0) (Nat.le_of_ble_eq_true rfl) (Nat.le_of_ble_eq_true rfl) ?_
    exact fx_loop l dC dI hx hb hr hml hown hts hX hbl hlocks hxs hnw 601 0 [] q_1 qd_6 q_7 q_10 q_13 u_2 u_3 u_4 u_5 v_11 v_12 cA_8 f_9 0 0 H _ ls (by omega) (by omega) rfl ⟨List.nodup_nil, fun _ h => absurd h List.not_mem_nil⟩ (fun _ h => absurd h List.not_mem_nil) (hK.sub [0] rfl) (hP.sub [0, 1, 2, 3, 4] rfl) (hD.sub [0, 1, 2, 3, 4] (by decide) rfl) hS (lv_sub hl [0, 4, 3, 2, 1] rfl)
end
section
/-! the script: 300 times far(5, 7, false) -/
def fx_w : List Int32 := [20, 5, 7, 0, 0, 0, 0]
def fx_xs : List Int32 := (List.replicate 300 fx_w).flatten
theorem fx_rep : ∀ (n k j : Nat), k < n → j < 7 → ((List.replicate n fx_w).flatten)[7 * k + j]? = fx_w[j]? := by
  intro n
  induction n with
  | zero => intro k j h; omega
  | succ n ih =>
    intro k j hk hj
    rw [List.replicate_succ, List.flatten_cons]
    cases k with
    | zero =>
      rw [List.getElem?_append_left (by show 7 * 0 + j < 7; omega)]
      rw [show 7 * 0 + j = j by omega]
    | succ k =>
      rw [List.getElem?_append_right (by show 7 ≤ 7 * (k + 1) + j; omega)]
      rw [show 7 * (k + 1) + j - fx_w.length = 7 * k + j by show 7 * (k + 1) + j - 7 = 7 * k + j; omega]
      exact ih k j (by omega) hj
theorem fx_len0 : ∀ n : Nat, ((List.replicate n fx_w).flatten).length = 7 * n := by
  intro n
  induction n with
  | zero => rfl
  | succ n ih =>
    rw [List.replicate_succ, List.flatten_cons, List.length_append, ih]
    show 7 + 7 * n = 7 * (n + 1)
    omega
theorem fx_len : fx_xs.length = 2100 := fx_len0 300
theorem fx_at (k : Nat) (hk : k < 300) : fx_xs.getD (7 * k) 0 = 20 ∧ fx_xs.getD (7 * k + 1) 0 = 5 ∧ fx_xs.getD (7 * k + 2) 0 = 7 ∧ fx_xs.getD (7 * k + 3) 0 = 0 := by
  have h : ∀ j, j < 7 → fx_xs.getD (7 * k + j) 0 = (fx_w[j]?).getD 0 := fun j hj => by
    rw [List.getD_eq_getElem?_getD]
    unfold fx_xs
    rw [fx_rep 300 k j hk hj]
  exact ⟨h 0 (by decide), h 1 (by decide), h 2 (by decide), h 3 (by decide)⟩
/-- places apart, at each the same number: so much at least is the sum -/
theorem fx_sum (z : Nat) : ∀ (xs ps : List Nat), ps.Nodup → (∀ p ∈ ps, xs[p]? = some z) → ps.length * z ≤ xs.sum := by
  intro xs
  induction xs with
  | nil =>
    intro ps _ h
    cases ps with
    | nil => simp
    | cons p ps => exact absurd (h p List.mem_cons_self) (by simp)
  | cons a xs ih =>
    intro ps hn h
    have hmap : ∀ qs : List Nat, qs.Nodup → (∀ p ∈ qs, 0 < p ∧ p ∈ ps) → qs.length * z ≤ xs.sum := by
      intro qs hq h2
      have h3 := ih (qs.map (· - 1)) (by
        rw [List.nodup_iff_pairwise_ne, List.pairwise_map]
        rw [List.nodup_iff_pairwise_ne] at hq
        refine List.Pairwise.imp_of_mem ?_ hq
        intro a b ha hb hab
        have h4 := (h2 a ha).1
        have h5 := (h2 b hb).1
        omega) (by
        intro p hp
        obtain ⟨q, hq1, rfl⟩ := List.mem_map.mp hp
        obtain ⟨h4, h5⟩ := h2 q hq1
        have h6 := h q h5
        cases q with
        | zero => omega
        | succ q => simpa using h6)
      rwa [List.length_map] at h3
    rw [List.sum_cons]
    by_cases h0 : 0 ∈ ps
    · have ha : a = z := by simpa using h 0 h0
      have h1 := hmap (ps.erase 0) (hn.erase 0) (fun p hp => by
        have h2 := (hn.mem_erase_iff).mp hp
        exact ⟨Nat.pos_of_ne_zero h2.1, h2.2⟩)
      rw [List.length_erase_of_mem h0] at h1
      have hpos : 0 < ps.length := List.length_pos_of_mem h0
      have e : ps.length * z = (ps.length - 1) * z + z := by
        conv => lhs; rw [show ps.length = (ps.length - 1) + 1 by omega]
        rw [Nat.add_mul, Nat.one_mul]
      omega
    · have h1 := hmap ps hn (fun p hp => ⟨Nat.pos_of_ne_zero (fun e => h0 (e ▸ hp)), hp⟩)
      omega
theorem fx_much {sz : Nat} {H : Heap} {L : List Nat} (h : fx_big sz H L) : L.length * 3125 ≤ ((H.toList.drop sz).map (·.slots.size)).sum := by
  have h1 := fx_sum 3125 ((H.toList.drop sz).map (·.slots.size)) (L.map (· - sz)) (by
    rw [List.nodup_iff_pairwise_ne, List.pairwise_map]
    have hq := h.1
    rw [List.nodup_iff_pairwise_ne] at hq
    refine List.Pairwise.imp_of_mem ?_ hq
    intro a b ha hb hab
    have h4 := (h.2 a ha).1
    have h5 := (h.2 b hb).1
    omega) (by
    intro p hp
    obtain ⟨q, hq1, rfl⟩ := List.mem_map.mp hp
    obtain ⟨h4, cell, h5, h6⟩ := h.2 q hq1
    rw [List.getElem?_map, List.getElem?_drop, show sz + (q - sz) = q by omega, Array.getElem?_toList, h5]
    simp [h6])
  rwa [List.length_map] at h1
set_option maxHeartbeats 4000000 in
theorem fx_walk (l : Launch) (b : Addr) : MetFree l x (headSpec (Jvm.Cond.code x code maxLocals ret :: tables_1) fx_room) (fun args s => args = #[.ref b] ∧ s.IntsAt b fx_xs ∧ (Jvm.Cond.and given_1 narrow_1).before args s = true) (fun _ _ _ _ _ => True) (fun _ s o t => ∃ L : List Nat, L.length = 2400 ∧ fx_big s.heap.size t.heap L) := by
  refine MetFree.of_bodyS (code := code) (maxLocals := maxLocals) (ret := ret) (by decide) ?_ ?_
  · intro args s m h hn
    obtain ⟨meth, c, h1, h2, h3, h4, h5, h6, -, -⟩ := Cond.code_spec hn (atoms_spec (ws := Jvm.Cond.code x code maxLocals ret :: tables_1) h _ List.mem_cons_self)
    exact ⟨meth, c, h1, h2, h3, h4, h5, h6⟩
  · intro p e s m args below meth c s₁ B hml0 hP _
    obtain ⟨rfl, hx, hgv⟩ := hP
    obtain ⟨scr, harrAt, hlist, hof, hsmall⟩ := hx
    obtain ⟨hcb, hkn, -, -⟩ := State.arrayAt?_spec harrAt
    have hown : s.vm.findClass RL = some m.cls := findClass_of_methodNamed B.named
    have hts0 : ∀ c ∈ (Jvm.Cond.code x code maxLocals ret :: tables_1), c.before #[Value.ref b] s = true := atoms_spec (ws := Jvm.Cond.code x code maxLocals ret :: tables_1) B.pre
    have hts : ∀ w ∈ lw_tbl, w.before #[Value.ref b] s = true := k2_hts_sels lw_privs (fun w hw => hts0 w (List.mem_cons_of_mem _ hw)) lw_privs_ok
    have hml : c.maxLocals = 8 := B.maxLocals_eq (hts0 _ List.mem_cons_self)
    have X₀ : Stand p l e fx_room s m #[Value.ref b] below meth c s₁ [] 0 0 := Stand.of_body B
    have hh0 : s₁.heap = s.heap := by rw [B.state]; rfl
    have hsz : scr.slots.size = 2100 := by rw [← Array.length_toList, hlist, List.length_map, fx_len]
    have hval : ∀ j : Nat, j < 2100 → scr.slots[j]? = some (.int (fx_xs.getD j 0)) := fun j hj => by
      rw [← Array.getElem?_toList, hlist]
      have h9 : j < fx_xs.length := by rw [fx_len]; exact hj
      simp [h9]
    have hbl : b < s.heap.size := (Array.getElem?_eq_some_iff.mp hcb).1
    have hX : va_X b 2100 (fun j => fx_xs.getD j 0) s s.heap := ⟨scr, hcb, hof, hkn, hsz, hval⟩
    have K : W p l e fx_room s m #[Value.ref b] below meth c s₁.heap [] 0 0 (fx_Z below s) (entryFrame m ([Value.ref b] : List Value).toArray 8) := by
      rw [hh0]
      exact fx_start l B.exec B.bytes B.returns hml hown hts hX hbl B.notSynchronized fx_at hgv
    obtain ⟨t, a1, o, b1, b2, b3⟩ := K s₁ rfl X₀
    exact ⟨t, o, a1, b1, b2, b3⟩
set_option maxHeartbeats 4000000 in
/-- THE ROOM: at a start with that script, on a machine with room enough, the law ends with more new slots than the claim allows -/
theorem fx_refute {l : Launch} {p : Program} {e : Env} {s : State} {m : MethodId} {b : Addr} {below : List Frame} (hflags : l.flags = flags0) (hlists : Lists l classFile x code maxLocals ret tables_1 room_1) (hadm : l.admits e) (hcas : FairCas e.choices) (hclk : FairClock e.choices)
    (hf : s.frames = Frame.invoking m #[Value.ref b] :: below) (hfit : argsFit s.vm m #[Value.ref b] = true) (hheap : heapFits s = true) (happ1 : (headSpec (Jvm.Cond.code x code maxLocals ret :: tables_1) room_1).applies x e.platform s = true)
    (happ2 : (headSpec (Jvm.Cond.code x code maxLocals ret :: tables_1) fx_room).applies x e.platform s = true) (hrest : rest_1_c.before #[Value.ref b] s = true) (hpre : (Jvm.Cond.and given_1 narrow_1).before #[Value.ref b] s = true) (hints : s.IntsAt b fx_xs) : ¬ Claimed_1_1 := by
  intro hC
  obtain ⟨n, o, h1, h2, h3, h4⟩ := hC l hflags hlists trivial p e hadm hcas hclk s m #[Value.ref b] below hf hfit hheap happ1 ⟨trivial, hrest, hpre⟩
  obtain ⟨n', o', g1, g2, g3, L, gL, gbig⟩ := fx_walk l b p e hadm hcas hclk s m _ below hf ((Spec.applies_iff_loose hf).mp happ2).1 ⟨rfl, hints, hpre⟩ trivial
  obtain ⟨rfl, rfl⟩ := the_end_unique h1 h3 g1 g3
  have hF := h4.2.1
  have hsum := hF.2.2.2.2.2.2.1
  have hm := fx_much gbig
  rw [gL] at hm
  have hm2 : 2400 * 3125 ≤ 7110249 := Nat.le_trans hm hsum
  omega
end
section
theorem zz_last : True := trivial
end
