section
-- ===== PART A: goes FIRST, ahead of the names: the tables' words, and 'selects' of the private methods out of them =====
/-- a private method of a class that the tables say can be made, by its rows of tables_1 -/
def lw_okq (q : MethodName × Nat) : Prop := (q.1.cls ≠ "java/lang/invoke/MethodHandle" ∧ q.1.cls ≠ "java/lang/invoke/VarHandle") ∧ Cond.instantiable q.1.cls q.2 ∈ tables_1 ∧ Cond.privateMethod q.1 ∈ tables_1 ∧ Cond.instanceMethod q.1 ∈ tables_1
theorem lw_p0 : lw_okq (⟨"PursesByLot$Script", "append", "(IJ)V"⟩, 2) := ⟨⟨by decide +kernel, by decide +kernel⟩, List.mem_of_getElem? (i := 24) (by decide +kernel), List.mem_of_getElem? (i := 339) (by decide +kernel), List.mem_of_getElem? (i := 340) (by decide +kernel)⟩
theorem lw_p1 : lw_okq (⟨"PursesByLot$ItemReader", "readAll", "(LPursesByLot$Script;LPursesByLot$Sheet;)I"⟩, 5) := ⟨⟨by decide +kernel, by decide +kernel⟩, List.mem_of_getElem? (i := 40) (by decide +kernel), List.mem_of_getElem? (i := 351) (by decide +kernel), List.mem_of_getElem? (i := 352) (by decide +kernel)⟩
theorem lw_p2 : lw_okq (⟨"PursesByLot$Sheet", "clear", "()V"⟩, 16) := ⟨⟨by decide +kernel, by decide +kernel⟩, List.mem_of_getElem? (i := 67) (by decide +kernel), List.mem_of_getElem? (i := 355) (by decide +kernel), List.mem_of_getElem? (i := 356) (by decide +kernel)⟩
theorem lw_p3 : lw_okq (⟨"PursesByLot$ItemReader", "readItem", "(LPursesByLot$Script;I)I"⟩, 5) := ⟨⟨by decide +kernel, by decide +kernel⟩, List.mem_of_getElem? (i := 40) (by decide +kernel), List.mem_of_getElem? (i := 362) (by decide +kernel), List.mem_of_getElem? (i := 363) (by decide +kernel)⟩
theorem lw_p4 : lw_okq (⟨"PursesByLot$Script", "byteAt", "(I)I"⟩, 2) := ⟨⟨by decide +kernel, by decide +kernel⟩, List.mem_of_getElem? (i := 24) (by decide +kernel), List.mem_of_getElem? (i := 366) (by decide +kernel), List.mem_of_getElem? (i := 367) (by decide +kernel)⟩
theorem lw_p5 : lw_okq (⟨"PursesByLot$ItemReader", "readNumber", "(LPursesByLot$Script;I)I"⟩, 5) := ⟨⟨by decide +kernel, by decide +kernel⟩, List.mem_of_getElem? (i := 40) (by decide +kernel), List.mem_of_getElem? (i := 370) (by decide +kernel), List.mem_of_getElem? (i := 371) (by decide +kernel)⟩
theorem lw_p6 : lw_okq (⟨"PursesByLot$ItemReader", "addNumber", "(I)V"⟩, 5) := ⟨⟨by decide +kernel, by decide +kernel⟩, List.mem_of_getElem? (i := 40) (by decide +kernel), List.mem_of_getElem? (i := 375) (by decide +kernel), List.mem_of_getElem? (i := 376) (by decide +kernel)⟩
theorem lw_p7 : lw_okq (⟨"PursesByLot$Sheet", "take", "(LPursesByLot$ItemReader;)Z"⟩, 16) := ⟨⟨by decide +kernel, by decide +kernel⟩, List.mem_of_getElem? (i := 67) (by decide +kernel), List.mem_of_getElem? (i := 379) (by decide +kernel), List.mem_of_getElem? (i := 380) (by decide +kernel)⟩
theorem lw_p8 : lw_okq (⟨"PursesByLot$Sheet", "takePlan", "(III)Z"⟩, 16) := ⟨⟨by decide +kernel, by decide +kernel⟩, List.mem_of_getElem? (i := 67) (by decide +kernel), List.mem_of_getElem? (i := 383) (by decide +kernel), List.mem_of_getElem? (i := 384) (by decide +kernel)⟩
theorem lw_p9 : lw_okq (⟨"PursesByLot$Sheet", "takeJudge", "(III)Z"⟩, 16) := ⟨⟨by decide +kernel, by decide +kernel⟩, List.mem_of_getElem? (i := 67) (by decide +kernel), List.mem_of_getElem? (i := 387) (by decide +kernel), List.mem_of_getElem? (i := 388) (by decide +kernel)⟩
theorem lw_p10 : lw_okq (⟨"PursesByLot$Sheet", "takePurse", "(III)Z"⟩, 16) := ⟨⟨by decide +kernel, by decide +kernel⟩, List.mem_of_getElem? (i := 67) (by decide +kernel), List.mem_of_getElem? (i := 391) (by decide +kernel), List.mem_of_getElem? (i := 392) (by decide +kernel)⟩
theorem lw_p11 : lw_okq (⟨"PursesByLot$Sheet", "takeCoin", "(I)Z"⟩, 16) := ⟨⟨by decide +kernel, by decide +kernel⟩, List.mem_of_getElem? (i := 67) (by decide +kernel), List.mem_of_getElem? (i := 395) (by decide +kernel), List.mem_of_getElem? (i := 396) (by decide +kernel)⟩
theorem lw_p12 : lw_okq (⟨"PursesByLot$Sheet", "takeHours", "(II)Z"⟩, 16) := ⟨⟨by decide +kernel, by decide +kernel⟩, List.mem_of_getElem? (i := 67) (by decide +kernel), List.mem_of_getElem? (i := 399) (by decide +kernel), List.mem_of_getElem? (i := 400) (by decide +kernel)⟩
theorem lw_p13 : lw_okq (⟨"PursesByLot$Sheet", "takeHad", "(II)Z"⟩, 16) := ⟨⟨by decide +kernel, by decide +kernel⟩, List.mem_of_getElem? (i := 67) (by decide +kernel), List.mem_of_getElem? (i := 403) (by decide +kernel), List.mem_of_getElem? (i := 404) (by decide +kernel)⟩
theorem lw_p14 : lw_okq (⟨"PursesByLot$Sheet", "takePatience", "(I)Z"⟩, 16) := ⟨⟨by decide +kernel, by decide +kernel⟩, List.mem_of_getElem? (i := 67) (by decide +kernel), List.mem_of_getElem? (i := 407) (by decide +kernel), List.mem_of_getElem? (i := 408) (by decide +kernel)⟩
theorem lw_p15 : lw_okq (⟨"PursesByLot$Times", "begin", "(LPursesByLot$Sheet;)V"⟩, 5) := ⟨⟨by decide +kernel, by decide +kernel⟩, List.mem_of_getElem? (i := 139) (by decide +kernel), List.mem_of_getElem? (i := 415) (by decide +kernel), List.mem_of_getElem? (i := 416) (by decide +kernel)⟩
def lw_privs_1 : List (MethodName × Nat) := [(⟨"PursesByLot$Script", "append", "(IJ)V"⟩, 2), (⟨"PursesByLot$ItemReader", "readAll", "(LPursesByLot$Script;LPursesByLot$Sheet;)I"⟩, 5), (⟨"PursesByLot$Sheet", "clear", "()V"⟩, 16), (⟨"PursesByLot$ItemReader", "readItem", "(LPursesByLot$Script;I)I"⟩, 5), (⟨"PursesByLot$Script", "byteAt", "(I)I"⟩, 2), (⟨"PursesByLot$ItemReader", "readNumber", "(LPursesByLot$Script;I)I"⟩, 5), (⟨"PursesByLot$ItemReader", "addNumber", "(I)V"⟩, 5), (⟨"PursesByLot$Sheet", "take", "(LPursesByLot$ItemReader;)Z"⟩, 16), (⟨"PursesByLot$Sheet", "takePlan", "(III)Z"⟩, 16), (⟨"PursesByLot$Sheet", "takeJudge", "(III)Z"⟩, 16), (⟨"PursesByLot$Sheet", "takePurse", "(III)Z"⟩, 16), (⟨"PursesByLot$Sheet", "takeCoin", "(I)Z"⟩, 16), (⟨"PursesByLot$Sheet", "takeHours", "(II)Z"⟩, 16), (⟨"PursesByLot$Sheet", "takeHad", "(II)Z"⟩, 16), (⟨"PursesByLot$Sheet", "takePatience", "(I)Z"⟩, 16), (⟨"PursesByLot$Times", "begin", "(LPursesByLot$Sheet;)V"⟩, 5)]
theorem lw_r1 : ∀ q ∈ lw_privs_1, lw_okq q := List.forall_mem_cons.mpr ⟨lw_p0, List.forall_mem_cons.mpr ⟨lw_p1, List.forall_mem_cons.mpr ⟨lw_p2, List.forall_mem_cons.mpr ⟨lw_p3, List.forall_mem_cons.mpr ⟨lw_p4, List.forall_mem_cons.mpr ⟨lw_p5, List.forall_mem_cons.mpr ⟨lw_p6, List.forall_mem_cons.mpr ⟨lw_p7, List.forall_mem_cons.mpr ⟨lw_p8, List.forall_mem_cons.mpr ⟨lw_p9, List.forall_mem_cons.mpr ⟨lw_p10, List.forall_mem_cons.mpr ⟨lw_p11, List.forall_mem_cons.mpr ⟨lw_p12, List.forall_mem_cons.mpr ⟨lw_p13, List.forall_mem_cons.mpr ⟨lw_p14, List.forall_mem_cons.mpr ⟨lw_p15, fun _ h => absurd h List.not_mem_nil⟩⟩⟩⟩⟩⟩⟩⟩⟩⟩⟩⟩⟩⟩⟩⟩
theorem lw_p16 : lw_okq (⟨"PursesByLot", "isPlan", "(I)Z"⟩, 17) := ⟨⟨by decide +kernel, by decide +kernel⟩, List.mem_of_getElem? (i := 16) (by decide +kernel), List.mem_of_getElem? (i := 424) (by decide +kernel), List.mem_of_getElem? (i := 425) (by decide +kernel)⟩
theorem lw_p17 : lw_okq (⟨"PursesByLot", "isJudge", "(I)Z"⟩, 17) := ⟨⟨by decide +kernel, by decide +kernel⟩, List.mem_of_getElem? (i := 16) (by decide +kernel), List.mem_of_getElem? (i := 428) (by decide +kernel), List.mem_of_getElem? (i := 429) (by decide +kernel)⟩
theorem lw_p18 : lw_okq (⟨"PursesByLot$Times", "hadBy", "(I)I"⟩, 5) := ⟨⟨by decide +kernel, by decide +kernel⟩, List.mem_of_getElem? (i := 139) (by decide +kernel), List.mem_of_getElem? (i := 435) (by decide +kernel), List.mem_of_getElem? (i := 436) (by decide +kernel)⟩
theorem lw_p19 : lw_okq (⟨"PursesByLot$Sheet", "markOf", "(IIII)I"⟩, 16) := ⟨⟨by decide +kernel, by decide +kernel⟩, List.mem_of_getElem? (i := 67) (by decide +kernel), List.mem_of_getElem? (i := 439) (by decide +kernel), List.mem_of_getElem? (i := 440) (by decide +kernel)⟩
theorem lw_p20 : lw_okq (⟨"PursesByLot", "isPanel", "(I)Z"⟩, 17) := ⟨⟨by decide +kernel, by decide +kernel⟩, List.mem_of_getElem? (i := 16) (by decide +kernel), List.mem_of_getElem? (i := 447) (by decide +kernel), List.mem_of_getElem? (i := 448) (by decide +kernel)⟩
theorem lw_p21 : lw_okq (⟨"PursesByLot$Ranking", "arrange", "(LPursesByLot$Sheet;LPursesByLot$Times;IIZ)V"⟩, 4) := ⟨⟨by decide +kernel, by decide +kernel⟩, List.mem_of_getElem? (i := 167) (by decide +kernel), List.mem_of_getElem? (i := 451) (by decide +kernel), List.mem_of_getElem? (i := 452) (by decide +kernel)⟩
theorem lw_p22 : lw_okq (⟨"PursesByLot$Times", "isHere", "(I)Z"⟩, 5) := ⟨⟨by decide +kernel, by decide +kernel⟩, List.mem_of_getElem? (i := 139) (by decide +kernel), List.mem_of_getElem? (i := 456) (by decide +kernel), List.mem_of_getElem? (i := 457) (by decide +kernel)⟩
theorem lw_p23 : lw_okq (⟨"PursesByLot$Ranking", "enter", "(II)V"⟩, 4) := ⟨⟨by decide +kernel, by decide +kernel⟩, List.mem_of_getElem? (i := 167) (by decide +kernel), List.mem_of_getElem? (i := 465) (by decide +kernel), List.mem_of_getElem? (i := 466) (by decide +kernel)⟩
theorem lw_p24 : lw_okq (⟨"PursesByLot$Ranking", "planAt", "(I)I"⟩, 4) := ⟨⟨by decide +kernel, by decide +kernel⟩, List.mem_of_getElem? (i := 167) (by decide +kernel), List.mem_of_getElem? (i := 469) (by decide +kernel), List.mem_of_getElem? (i := 470) (by decide +kernel)⟩
theorem lw_p25 : lw_okq (⟨"PursesByLot", "areTwoOrders", "(IIII)Z"⟩, 17) := ⟨⟨by decide +kernel, by decide +kernel⟩, List.mem_of_getElem? (i := 16) (by decide +kernel), List.mem_of_getElem? (i := 477) (by decide +kernel), List.mem_of_getElem? (i := 478) (by decide +kernel)⟩
theorem lw_p26 : lw_okq (⟨"PursesByLot", "arrangeTwo", "(IIII)V"⟩, 17) := ⟨⟨by decide +kernel, by decide +kernel⟩, List.mem_of_getElem? (i := 16) (by decide +kernel), List.mem_of_getElem? (i := 481) (by decide +kernel), List.mem_of_getElem? (i := 482) (by decide +kernel)⟩
theorem lw_p27 : lw_okq (⟨"PursesByLot$Stretch", "alikePairs", "(LPursesByLot$Ranking;LPursesByLot$Ranking;)I"⟩, 2) := ⟨⟨by decide +kernel, by decide +kernel⟩, List.mem_of_getElem? (i := 221) (by decide +kernel), List.mem_of_getElem? (i := 485) (by decide +kernel), List.mem_of_getElem? (i := 486) (by decide +kernel)⟩
theorem lw_p28 : lw_okq (⟨"PursesByLot$Ranking", "rankThere", "(LPursesByLot$Ranking;I)I"⟩, 4) := ⟨⟨by decide +kernel, by decide +kernel⟩, List.mem_of_getElem? (i := 167) (by decide +kernel), List.mem_of_getElem? (i := 492) (by decide +kernel), List.mem_of_getElem? (i := 493) (by decide +kernel)⟩
theorem lw_p29 : lw_okq (⟨"PursesByLot$Ranking", "rankOf", "(I)I"⟩, 4) := ⟨⟨by decide +kernel, by decide +kernel⟩, List.mem_of_getElem? (i := 167) (by decide +kernel), List.mem_of_getElem? (i := 497) (by decide +kernel), List.mem_of_getElem? (i := 498) (by decide +kernel)⟩
theorem lw_p30 : lw_okq (⟨"PursesByLot$Ranking", "inFirstOfBoth", "(LPursesByLot$Ranking;I)I"⟩, 4) := ⟨⟨by decide +kernel, by decide +kernel⟩, List.mem_of_getElem? (i := 167) (by decide +kernel), List.mem_of_getElem? (i := 508) (by decide +kernel), List.mem_of_getElem? (i := 509) (by decide +kernel)⟩
theorem lw_p31 : lw_okq (⟨"PursesByLot$Ratio", "reduce", "(II)V"⟩, 2) := ⟨⟨by decide +kernel, by decide +kernel⟩, List.mem_of_getElem? (i := 236) (by decide +kernel), List.mem_of_getElem? (i := 513) (by decide +kernel), List.mem_of_getElem? (i := 514) (by decide +kernel)⟩
def lw_privs_2 : List (MethodName × Nat) := [(⟨"PursesByLot", "isPlan", "(I)Z"⟩, 17), (⟨"PursesByLot", "isJudge", "(I)Z"⟩, 17), (⟨"PursesByLot$Times", "hadBy", "(I)I"⟩, 5), (⟨"PursesByLot$Sheet", "markOf", "(IIII)I"⟩, 16), (⟨"PursesByLot", "isPanel", "(I)Z"⟩, 17), (⟨"PursesByLot$Ranking", "arrange", "(LPursesByLot$Sheet;LPursesByLot$Times;IIZ)V"⟩, 4), (⟨"PursesByLot$Times", "isHere", "(I)Z"⟩, 5), (⟨"PursesByLot$Ranking", "enter", "(II)V"⟩, 4), (⟨"PursesByLot$Ranking", "planAt", "(I)I"⟩, 4), (⟨"PursesByLot", "areTwoOrders", "(IIII)Z"⟩, 17), (⟨"PursesByLot", "arrangeTwo", "(IIII)V"⟩, 17), (⟨"PursesByLot$Stretch", "alikePairs", "(LPursesByLot$Ranking;LPursesByLot$Ranking;)I"⟩, 2), (⟨"PursesByLot$Ranking", "rankThere", "(LPursesByLot$Ranking;I)I"⟩, 4), (⟨"PursesByLot$Ranking", "rankOf", "(I)I"⟩, 4), (⟨"PursesByLot$Ranking", "inFirstOfBoth", "(LPursesByLot$Ranking;I)I"⟩, 4), (⟨"PursesByLot$Ratio", "reduce", "(II)V"⟩, 2)]
theorem lw_r2 : ∀ q ∈ lw_privs_2, lw_okq q := List.forall_mem_cons.mpr ⟨lw_p16, List.forall_mem_cons.mpr ⟨lw_p17, List.forall_mem_cons.mpr ⟨lw_p18, List.forall_mem_cons.mpr ⟨lw_p19, List.forall_mem_cons.mpr ⟨lw_p20, List.forall_mem_cons.mpr ⟨lw_p21, List.forall_mem_cons.mpr ⟨lw_p22, List.forall_mem_cons.mpr ⟨lw_p23, List.forall_mem_cons.mpr ⟨lw_p24, List.forall_mem_cons.mpr ⟨lw_p25, List.forall_mem_cons.mpr ⟨lw_p26, List.forall_mem_cons.mpr ⟨lw_p27, List.forall_mem_cons.mpr ⟨lw_p28, List.forall_mem_cons.mpr ⟨lw_p29, List.forall_mem_cons.mpr ⟨lw_p30, List.forall_mem_cons.mpr ⟨lw_p31, fun _ h => absurd h List.not_mem_nil⟩⟩⟩⟩⟩⟩⟩⟩⟩⟩⟩⟩⟩⟩⟩⟩
theorem lw_p32 : lw_okq (⟨"PursesByLot$Stretch", "findLongest", "(LPursesByLot$Ranking;LPursesByLot$Ranking;)V"⟩, 2) := ⟨⟨by decide +kernel, by decide +kernel⟩, List.mem_of_getElem? (i := 221) (by decide +kernel), List.mem_of_getElem? (i := 527) (by decide +kernel), List.mem_of_getElem? (i := 528) (by decide +kernel)⟩
theorem lw_p33 : lw_okq (⟨"PursesByLot", "splitOrder", "(II)V"⟩, 17) := ⟨⟨by decide +kernel, by decide +kernel⟩, List.mem_of_getElem? (i := 16) (by decide +kernel), List.mem_of_getElem? (i := 535) (by decide +kernel), List.mem_of_getElem? (i := 536) (by decide +kernel)⟩
theorem lw_p34 : lw_okq (⟨"PursesByLot$Split", "divide", "(LPursesByLot$Sheet;I)V"⟩, 7) := ⟨⟨by decide +kernel, by decide +kernel⟩, List.mem_of_getElem? (i := 189) (by decide +kernel), List.mem_of_getElem? (i := 539) (by decide +kernel), List.mem_of_getElem? (i := 540) (by decide +kernel)⟩
theorem lw_p35 : lw_okq (⟨"PursesByLot$Split", "fillLot", "(LPursesByLot$Ranking;)V"⟩, 7) := ⟨⟨by decide +kernel, by decide +kernel⟩, List.mem_of_getElem? (i := 189) (by decide +kernel), List.mem_of_getElem? (i := 544) (by decide +kernel), List.mem_of_getElem? (i := 545) (by decide +kernel)⟩
theorem lw_p36 : lw_okq (⟨"PursesByLot$Split", "takeOne", "(II)I"⟩, 7) := ⟨⟨by decide +kernel, by decide +kernel⟩, List.mem_of_getElem? (i := 189) (by decide +kernel), List.mem_of_getElem? (i := 549) (by decide +kernel), List.mem_of_getElem? (i := 550) (by decide +kernel)⟩
theorem lw_p37 : lw_okq (⟨"PursesByLot$Split", "chanceOf", "(ILPursesByLot$Ratio;)V"⟩, 7) := ⟨⟨by decide +kernel, by decide +kernel⟩, List.mem_of_getElem? (i := 189) (by decide +kernel), List.mem_of_getElem? (i := 561) (by decide +kernel), List.mem_of_getElem? (i := 562) (by decide +kernel)⟩
theorem lw_p38 : lw_okq (⟨"PursesByLot$Split", "weigh", "(LPursesByLot$Sheet;LPursesByLot$Ranking;)V"⟩, 7) := ⟨⟨by decide +kernel, by decide +kernel⟩, List.mem_of_getElem? (i := 189) (by decide +kernel), List.mem_of_getElem? (i := 570) (by decide +kernel), List.mem_of_getElem? (i := 571) (by decide +kernel)⟩
theorem lw_p39 : lw_okq (⟨"PursesByLot$Sheet", "worthOf", "(I)I"⟩, 16) := ⟨⟨by decide +kernel, by decide +kernel⟩, List.mem_of_getElem? (i := 67) (by decide +kernel), List.mem_of_getElem? (i := 574) (by decide +kernel), List.mem_of_getElem? (i := 575) (by decide +kernel)⟩
theorem lw_p40 : lw_okq (⟨"PursesByLot$Split", "lotWorth", "(II)I"⟩, 7) := ⟨⟨by decide +kernel, by decide +kernel⟩, List.mem_of_getElem? (i := 189) (by decide +kernel), List.mem_of_getElem? (i := 578) (by decide +kernel), List.mem_of_getElem? (i := 579) (by decide +kernel)⟩
theorem lw_p41 : lw_okq (⟨"PursesByLot$Split", "meanWorth", "(LPursesByLot$Ratio;)V"⟩, 7) := ⟨⟨by decide +kernel, by decide +kernel⟩, List.mem_of_getElem? (i := 189) (by decide +kernel), List.mem_of_getElem? (i := 585) (by decide +kernel), List.mem_of_getElem? (i := 586) (by decide +kernel)⟩
theorem lw_p42 : lw_okq (⟨"PursesByLot$Sheet", "costOf", "(III)I"⟩, 16) := ⟨⟨by decide +kernel, by decide +kernel⟩, List.mem_of_getElem? (i := 67) (by decide +kernel), List.mem_of_getElem? (i := 601) (by decide +kernel), List.mem_of_getElem? (i := 602) (by decide +kernel)⟩
theorem lw_p43 : lw_okq (⟨"PursesByLot$Border", "findBest", "(LPursesByLot$Sheet;LPursesByLot$Ranking;II)V"⟩, 6) := ⟨⟨by decide +kernel, by decide +kernel⟩, List.mem_of_getElem? (i := 251) (by decide +kernel), List.mem_of_getElem? (i := 610) (by decide +kernel), List.mem_of_getElem? (i := 611) (by decide +kernel)⟩
theorem lw_p44 : lw_okq (⟨"PursesByLot$Border", "sumWorth", "(LPursesByLot$Sheet;LPursesByLot$Ranking;)V"⟩, 6) := ⟨⟨by decide +kernel, by decide +kernel⟩, List.mem_of_getElem? (i := 251) (by decide +kernel), List.mem_of_getElem? (i := 614) (by decide +kernel), List.mem_of_getElem? (i := 615) (by decide +kernel)⟩
theorem lw_p45 : lw_okq (⟨"PursesByLot$Border", "worthOfFirst", "(I)I"⟩, 6) := ⟨⟨by decide +kernel, by decide +kernel⟩, List.mem_of_getElem? (i := 251) (by decide +kernel), List.mem_of_getElem? (i := 622) (by decide +kernel), List.mem_of_getElem? (i := 623) (by decide +kernel)⟩
theorem lw_p46 : lw_okq (⟨"PursesByLot$Border", "offer", "(IIII)V"⟩, 6) := ⟨⟨by decide +kernel, by decide +kernel⟩, List.mem_of_getElem? (i := 251) (by decide +kernel), List.mem_of_getElem? (i := 627) (by decide +kernel), List.mem_of_getElem? (i := 628) (by decide +kernel)⟩
theorem lw_p47 : lw_okq (⟨"PursesByLot$Times", "takingPart", "(LPursesByLot$Sheet;)I"⟩, 5) := ⟨⟨by decide +kernel, by decide +kernel⟩, List.mem_of_getElem? (i := 139) (by decide +kernel), List.mem_of_getElem? (i := 635) (by decide +kernel), List.mem_of_getElem? (i := 636) (by decide +kernel)⟩
def lw_privs_3 : List (MethodName × Nat) := [(⟨"PursesByLot$Stretch", "findLongest", "(LPursesByLot$Ranking;LPursesByLot$Ranking;)V"⟩, 2), (⟨"PursesByLot", "splitOrder", "(II)V"⟩, 17), (⟨"PursesByLot$Split", "divide", "(LPursesByLot$Sheet;I)V"⟩, 7), (⟨"PursesByLot$Split", "fillLot", "(LPursesByLot$Ranking;)V"⟩, 7), (⟨"PursesByLot$Split", "takeOne", "(II)I"⟩, 7), (⟨"PursesByLot$Split", "chanceOf", "(ILPursesByLot$Ratio;)V"⟩, 7), (⟨"PursesByLot$Split", "weigh", "(LPursesByLot$Sheet;LPursesByLot$Ranking;)V"⟩, 7), (⟨"PursesByLot$Sheet", "worthOf", "(I)I"⟩, 16), (⟨"PursesByLot$Split", "lotWorth", "(II)I"⟩, 7), (⟨"PursesByLot$Split", "meanWorth", "(LPursesByLot$Ratio;)V"⟩, 7), (⟨"PursesByLot$Sheet", "costOf", "(III)I"⟩, 16), (⟨"PursesByLot$Border", "findBest", "(LPursesByLot$Sheet;LPursesByLot$Ranking;II)V"⟩, 6), (⟨"PursesByLot$Border", "sumWorth", "(LPursesByLot$Sheet;LPursesByLot$Ranking;)V"⟩, 6), (⟨"PursesByLot$Border", "worthOfFirst", "(I)I"⟩, 6), (⟨"PursesByLot$Border", "offer", "(IIII)V"⟩, 6), (⟨"PursesByLot$Times", "takingPart", "(LPursesByLot$Sheet;)I"⟩, 5)]
theorem lw_r3 : ∀ q ∈ lw_privs_3, lw_okq q := List.forall_mem_cons.mpr ⟨lw_p32, List.forall_mem_cons.mpr ⟨lw_p33, List.forall_mem_cons.mpr ⟨lw_p34, List.forall_mem_cons.mpr ⟨lw_p35, List.forall_mem_cons.mpr ⟨lw_p36, List.forall_mem_cons.mpr ⟨lw_p37, List.forall_mem_cons.mpr ⟨lw_p38, List.forall_mem_cons.mpr ⟨lw_p39, List.forall_mem_cons.mpr ⟨lw_p40, List.forall_mem_cons.mpr ⟨lw_p41, List.forall_mem_cons.mpr ⟨lw_p42, List.forall_mem_cons.mpr ⟨lw_p43, List.forall_mem_cons.mpr ⟨lw_p44, List.forall_mem_cons.mpr ⟨lw_p45, List.forall_mem_cons.mpr ⟨lw_p46, List.forall_mem_cons.mpr ⟨lw_p47, fun _ h => absurd h List.not_mem_nil⟩⟩⟩⟩⟩⟩⟩⟩⟩⟩⟩⟩⟩⟩⟩⟩
theorem lw_p48 : lw_okq (⟨"PursesByLot", "laterOfRanks", "(II)I"⟩, 17) := ⟨⟨by decide +kernel, by decide +kernel⟩, List.mem_of_getElem? (i := 16) (by decide +kernel), List.mem_of_getElem? (i := 648) (by decide +kernel), List.mem_of_getElem? (i := 649) (by decide +kernel)⟩
theorem lw_p49 : lw_okq (⟨"PursesByLot", "rightDraws", "(IIII)I"⟩, 17) := ⟨⟨by decide +kernel, by decide +kernel⟩, List.mem_of_getElem? (i := 16) (by decide +kernel), List.mem_of_getElem? (i := 656) (by decide +kernel), List.mem_of_getElem? (i := 657) (by decide +kernel)⟩
theorem lw_p50 : lw_okq (⟨"PursesByLot$Ranking", "firstNotAmong", "(LPursesByLot$Ranking;I)I"⟩, 4) := ⟨⟨by decide +kernel, by decide +kernel⟩, List.mem_of_getElem? (i := 167) (by decide +kernel), List.mem_of_getElem? (i := 660) (by decide +kernel), List.mem_of_getElem? (i := 661) (by decide +kernel)⟩
theorem lw_p51 : lw_okq (⟨"PursesByLot", "passYear", "(LPursesByLot$Times;IZ)I"⟩, 17) := ⟨⟨by decide +kernel, by decide +kernel⟩, List.mem_of_getElem? (i := 16) (by decide +kernel), List.mem_of_getElem? (i := 669) (by decide +kernel), List.mem_of_getElem? (i := 670) (by decide +kernel)⟩
theorem lw_p52 : lw_okq (⟨"PursesByLot$Split", "allPaid", "(LPursesByLot$Ranking;I)I"⟩, 7) := ⟨⟨by decide +kernel, by decide +kernel⟩, List.mem_of_getElem? (i := 189) (by decide +kernel), List.mem_of_getElem? (i := 673) (by decide +kernel), List.mem_of_getElem? (i := 674) (by decide +kernel)⟩
theorem lw_p53 : lw_okq (⟨"PursesByLot$Times", "passWith", "(LPursesByLot$Sheet;I)V"⟩, 5) := ⟨⟨by decide +kernel, by decide +kernel⟩, List.mem_of_getElem? (i := 139) (by decide +kernel), List.mem_of_getElem? (i := 679) (by decide +kernel), List.mem_of_getElem? (i := 680) (by decide +kernel)⟩
theorem lw_p54 : lw_okq (⟨"PursesByLot$Times", "plansOf", "(LPursesByLot$Sheet;I)I"⟩, 5) := ⟨⟨by decide +kernel, by decide +kernel⟩, List.mem_of_getElem? (i := 139) (by decide +kernel), List.mem_of_getElem? (i := 683) (by decide +kernel), List.mem_of_getElem? (i := 684) (by decide +kernel)⟩
theorem lw_p55 : lw_okq (⟨"PursesByLot$Times", "copyFrom", "(LPursesByLot$Times;)V"⟩, 5) := ⟨⟨by decide +kernel, by decide +kernel⟩, List.mem_of_getElem? (i := 139) (by decide +kernel), List.mem_of_getElem? (i := 701) (by decide +kernel), List.mem_of_getElem? (i := 702) (by decide +kernel)⟩
theorem lw_p56 : lw_okq (⟨"PursesByLot", "keptAt", "(I)LPursesByLot$Times;"⟩, 17) := ⟨⟨by decide +kernel, by decide +kernel⟩, List.mem_of_getElem? (i := 16) (by decide +kernel), List.mem_of_getElem? (i := 709) (by decide +kernel), List.mem_of_getElem? (i := 710) (by decide +kernel)⟩
theorem lw_p57 : lw_okq (⟨"PursesByLot$Times", "goneWriters", "()I"⟩, 5) := ⟨⟨by decide +kernel, by decide +kernel⟩, List.mem_of_getElem? (i := 139) (by decide +kernel), List.mem_of_getElem? (i := 721) (by decide +kernel), List.mem_of_getElem? (i := 722) (by decide +kernel)⟩
theorem lw_p58 : lw_okq (⟨"PursesByLotModel", "isItem", "()Z"⟩, 33) := ⟨⟨by decide +kernel, by decide +kernel⟩, List.mem_of_getElem? (i := 725) (by decide +kernel), List.mem_of_getElem? (i := 847) (by decide +kernel), List.mem_of_getElem? (i := 848) (by decide +kernel)⟩
theorem lw_p59 : lw_okq (⟨"PursesByLotModel", "number", "(I)I"⟩, 33) := ⟨⟨by decide +kernel, by decide +kernel⟩, List.mem_of_getElem? (i := 725) (by decide +kernel), List.mem_of_getElem? (i := 851) (by decide +kernel), List.mem_of_getElem? (i := 852) (by decide +kernel)⟩
theorem lw_p60 : lw_okq (⟨"PursesByLotModel", "more", "(I)I"⟩, 33) := ⟨⟨by decide +kernel, by decide +kernel⟩, List.mem_of_getElem? (i := 725) (by decide +kernel), List.mem_of_getElem? (i := 858) (by decide +kernel), List.mem_of_getElem? (i := 859) (by decide +kernel)⟩
theorem lw_p61 : lw_okq (⟨"PursesByLotModel", "puts", "(IIII)V"⟩, 33) := ⟨⟨by decide +kernel, by decide +kernel⟩, List.mem_of_getElem? (i := 725) (by decide +kernel), List.mem_of_getElem? (i := 862) (by decide +kernel), List.mem_of_getElem? (i := 863) (by decide +kernel)⟩
theorem lw_p62 : lw_okq (⟨"PursesByLotModel", "isPlan", "(I)Z"⟩, 33) := ⟨⟨by decide +kernel, by decide +kernel⟩, List.mem_of_getElem? (i := 725) (by decide +kernel), List.mem_of_getElem? (i := 875) (by decide +kernel), List.mem_of_getElem? (i := 876) (by decide +kernel)⟩
theorem lw_p63 : lw_okq (⟨"PursesByLotModel", "isJudge", "(I)Z"⟩, 33) := ⟨⟨by decide +kernel, by decide +kernel⟩, List.mem_of_getElem? (i := 725) (by decide +kernel), List.mem_of_getElem? (i := 879) (by decide +kernel), List.mem_of_getElem? (i := 880) (by decide +kernel)⟩
def lw_privs_4 : List (MethodName × Nat) := [(⟨"PursesByLot", "laterOfRanks", "(II)I"⟩, 17), (⟨"PursesByLot", "rightDraws", "(IIII)I"⟩, 17), (⟨"PursesByLot$Ranking", "firstNotAmong", "(LPursesByLot$Ranking;I)I"⟩, 4), (⟨"PursesByLot", "passYear", "(LPursesByLot$Times;IZ)I"⟩, 17), (⟨"PursesByLot$Split", "allPaid", "(LPursesByLot$Ranking;I)I"⟩, 7), (⟨"PursesByLot$Times", "passWith", "(LPursesByLot$Sheet;I)V"⟩, 5), (⟨"PursesByLot$Times", "plansOf", "(LPursesByLot$Sheet;I)I"⟩, 5), (⟨"PursesByLot$Times", "copyFrom", "(LPursesByLot$Times;)V"⟩, 5), (⟨"PursesByLot", "keptAt", "(I)LPursesByLot$Times;"⟩, 17), (⟨"PursesByLot$Times", "goneWriters", "()I"⟩, 5), (⟨"PursesByLotModel", "isItem", "()Z"⟩, 33), (⟨"PursesByLotModel", "number", "(I)I"⟩, 33), (⟨"PursesByLotModel", "more", "(I)I"⟩, 33), (⟨"PursesByLotModel", "puts", "(IIII)V"⟩, 33), (⟨"PursesByLotModel", "isPlan", "(I)Z"⟩, 33), (⟨"PursesByLotModel", "isJudge", "(I)Z"⟩, 33)]
theorem lw_r4 : ∀ q ∈ lw_privs_4, lw_okq q := List.forall_mem_cons.mpr ⟨lw_p48, List.forall_mem_cons.mpr ⟨lw_p49, List.forall_mem_cons.mpr ⟨lw_p50, List.forall_mem_cons.mpr ⟨lw_p51, List.forall_mem_cons.mpr ⟨lw_p52, List.forall_mem_cons.mpr ⟨lw_p53, List.forall_mem_cons.mpr ⟨lw_p54, List.forall_mem_cons.mpr ⟨lw_p55, List.forall_mem_cons.mpr ⟨lw_p56, List.forall_mem_cons.mpr ⟨lw_p57, List.forall_mem_cons.mpr ⟨lw_p58, List.forall_mem_cons.mpr ⟨lw_p59, List.forall_mem_cons.mpr ⟨lw_p60, List.forall_mem_cons.mpr ⟨lw_p61, List.forall_mem_cons.mpr ⟨lw_p62, List.forall_mem_cons.mpr ⟨lw_p63, fun _ h => absurd h List.not_mem_nil⟩⟩⟩⟩⟩⟩⟩⟩⟩⟩⟩⟩⟩⟩⟩⟩
theorem lw_p64 : lw_okq (⟨"PursesByLotModel", "markOf", "(IIIIZ)I"⟩, 33) := ⟨⟨by decide +kernel, by decide +kernel⟩, List.mem_of_getElem? (i := 725) (by decide +kernel), List.mem_of_getElem? (i := 887) (by decide +kernel), List.mem_of_getElem? (i := 888) (by decide +kernel)⟩
theorem lw_p65 : lw_okq (⟨"PursesByLotModel", "isPanel", "(I)Z"⟩, 33) := ⟨⟨by decide +kernel, by decide +kernel⟩, List.mem_of_getElem? (i := 725) (by decide +kernel), List.mem_of_getElem? (i := 895) (by decide +kernel), List.mem_of_getElem? (i := 896) (by decide +kernel)⟩
theorem lw_p66 : lw_okq (⟨"PursesByLotModel", "laysNow", "(II)V"⟩, 33) := ⟨⟨by decide +kernel, by decide +kernel⟩, List.mem_of_getElem? (i := 725) (by decide +kernel), List.mem_of_getElem? (i := 899) (by decide +kernel), List.mem_of_getElem? (i := 900) (by decide +kernel)⟩
theorem lw_p67 : lw_okq (⟨"PursesByLotModel", "lays", "(IIIIZ)V"⟩, 33) := ⟨⟨by decide +kernel, by decide +kernel⟩, List.mem_of_getElem? (i := 725) (by decide +kernel), List.mem_of_getElem? (i := 903) (by decide +kernel), List.mem_of_getElem? (i := 904) (by decide +kernel)⟩
theorem lw_p68 : lw_okq (⟨"PursesByLotModel", "takesPart", "(II)Z"⟩, 33) := ⟨⟨by decide +kernel, by decide +kernel⟩, List.mem_of_getElem? (i := 725) (by decide +kernel), List.mem_of_getElem? (i := 907) (by decide +kernel), List.mem_of_getElem? (i := 908) (by decide +kernel)⟩
theorem lw_p69 : lw_okq (⟨"PursesByLotModel", "shares", "()V"⟩, 33) := ⟨⟨by decide +kernel, by decide +kernel⟩, List.mem_of_getElem? (i := 725) (by decide +kernel), List.mem_of_getElem? (i := 914) (by decide +kernel), List.mem_of_getElem? (i := 915) (by decide +kernel)⟩
theorem lw_p70 : lw_okq (⟨"PursesByLotModel", "areTwo", "(IIII)Z"⟩, 33) := ⟨⟨by decide +kernel, by decide +kernel⟩, List.mem_of_getElem? (i := 725) (by decide +kernel), List.mem_of_getElem? (i := 925) (by decide +kernel), List.mem_of_getElem? (i := 926) (by decide +kernel)⟩
theorem lw_p71 : lw_okq (⟨"PursesByLotModel", "two", "(IIII)V"⟩, 33) := ⟨⟨by decide +kernel, by decide +kernel⟩, List.mem_of_getElem? (i := 725) (by decide +kernel), List.mem_of_getElem? (i := 929) (by decide +kernel), List.mem_of_getElem? (i := 930) (by decide +kernel)⟩
theorem lw_p72 : lw_okq (⟨"PursesByLotModel", "alike", "(II)I"⟩, 33) := ⟨⟨by decide +kernel, by decide +kernel⟩, List.mem_of_getElem? (i := 725) (by decide +kernel), List.mem_of_getElem? (i := 933) (by decide +kernel), List.mem_of_getElem? (i := 934) (by decide +kernel)⟩
theorem lw_p73 : lw_okq (⟨"PursesByLotModel", "lowest", "(JJ)V"⟩, 33) := ⟨⟨by decide +kernel, by decide +kernel⟩, List.mem_of_getElem? (i := 725) (by decide +kernel), List.mem_of_getElem? (i := 943) (by decide +kernel), List.mem_of_getElem? (i := 944) (by decide +kernel)⟩
theorem lw_p74 : lw_okq (⟨"PursesByLotModel", "waits", "()V"⟩, 33) := ⟨⟨by decide +kernel, by decide +kernel⟩, List.mem_of_getElem? (i := 725) (by decide +kernel), List.mem_of_getElem? (i := 956) (by decide +kernel), List.mem_of_getElem? (i := 957) (by decide +kernel)⟩
theorem lw_p75 : lw_okq (⟨"PursesByLotModel", "nextDrawn", "(II)I"⟩, 33) := ⟨⟨by decide +kernel, by decide +kernel⟩, List.mem_of_getElem? (i := 725) (by decide +kernel), List.mem_of_getElem? (i := 960) (by decide +kernel), List.mem_of_getElem? (i := 961) (by decide +kernel)⟩
theorem lw_p76 : lw_okq (⟨"PursesByLotModel", "worths", "(II)I"⟩, 33) := ⟨⟨by decide +kernel, by decide +kernel⟩, List.mem_of_getElem? (i := 725) (by decide +kernel), List.mem_of_getElem? (i := 972) (by decide +kernel), List.mem_of_getElem? (i := 973) (by decide +kernel)⟩
theorem lw_p77 : lw_okq (⟨"PursesByLotModel", "drawnWorth", "(Z)I"⟩, 33) := ⟨⟨by decide +kernel, by decide +kernel⟩, List.mem_of_getElem? (i := 725) (by decide +kernel), List.mem_of_getElem? (i := 976) (by decide +kernel), List.mem_of_getElem? (i := 977) (by decide +kernel)⟩
theorem lw_p78 : lw_okq (⟨"PursesByLotModel", "costOf", "(III)I"⟩, 33) := ⟨⟨by decide +kernel, by decide +kernel⟩, List.mem_of_getElem? (i := 725) (by decide +kernel), List.mem_of_getElem? (i := 985) (by decide +kernel), List.mem_of_getElem? (i := 986) (by decide +kernel)⟩
theorem lw_p79 : lw_okq (⟨"PursesByLotModel", "judgesOf", "(I)I"⟩, 33) := ⟨⟨by decide +kernel, by decide +kernel⟩, List.mem_of_getElem? (i := 725) (by decide +kernel), List.mem_of_getElem? (i := 989) (by decide +kernel), List.mem_of_getElem? (i := 990) (by decide +kernel)⟩
def lw_privs_5 : List (MethodName × Nat) := [(⟨"PursesByLotModel", "markOf", "(IIIIZ)I"⟩, 33), (⟨"PursesByLotModel", "isPanel", "(I)Z"⟩, 33), (⟨"PursesByLotModel", "laysNow", "(II)V"⟩, 33), (⟨"PursesByLotModel", "lays", "(IIIIZ)V"⟩, 33), (⟨"PursesByLotModel", "takesPart", "(II)Z"⟩, 33), (⟨"PursesByLotModel", "shares", "()V"⟩, 33), (⟨"PursesByLotModel", "areTwo", "(IIII)Z"⟩, 33), (⟨"PursesByLotModel", "two", "(IIII)V"⟩, 33), (⟨"PursesByLotModel", "alike", "(II)I"⟩, 33), (⟨"PursesByLotModel", "lowest", "(JJ)V"⟩, 33), (⟨"PursesByLotModel", "waits", "()V"⟩, 33), (⟨"PursesByLotModel", "nextDrawn", "(II)I"⟩, 33), (⟨"PursesByLotModel", "worths", "(II)I"⟩, 33), (⟨"PursesByLotModel", "drawnWorth", "(Z)I"⟩, 33), (⟨"PursesByLotModel", "costOf", "(III)I"⟩, 33), (⟨"PursesByLotModel", "judgesOf", "(I)I"⟩, 33)]
theorem lw_r5 : ∀ q ∈ lw_privs_5, lw_okq q := List.forall_mem_cons.mpr ⟨lw_p64, List.forall_mem_cons.mpr ⟨lw_p65, List.forall_mem_cons.mpr ⟨lw_p66, List.forall_mem_cons.mpr ⟨lw_p67, List.forall_mem_cons.mpr ⟨lw_p68, List.forall_mem_cons.mpr ⟨lw_p69, List.forall_mem_cons.mpr ⟨lw_p70, List.forall_mem_cons.mpr ⟨lw_p71, List.forall_mem_cons.mpr ⟨lw_p72, List.forall_mem_cons.mpr ⟨lw_p73, List.forall_mem_cons.mpr ⟨lw_p74, List.forall_mem_cons.mpr ⟨lw_p75, List.forall_mem_cons.mpr ⟨lw_p76, List.forall_mem_cons.mpr ⟨lw_p77, List.forall_mem_cons.mpr ⟨lw_p78, List.forall_mem_cons.mpr ⟨lw_p79, fun _ h => absurd h List.not_mem_nil⟩⟩⟩⟩⟩⟩⟩⟩⟩⟩⟩⟩⟩⟩⟩⟩
theorem lw_p80 : lw_okq (⟨"PursesByLotModel", "goes", "(IIZ)I"⟩, 33) := ⟨⟨by decide +kernel, by decide +kernel⟩, List.mem_of_getElem? (i := 725) (by decide +kernel), List.mem_of_getElem? (i := 1022) (by decide +kernel), List.mem_of_getElem? (i := 1023) (by decide +kernel)⟩
theorem lw_p81 : lw_okq (⟨"PursesByLotModel", "copies", "(II)V"⟩, 33) := ⟨⟨by decide +kernel, by decide +kernel⟩, List.mem_of_getElem? (i := 725) (by decide +kernel), List.mem_of_getElem? (i := 1040) (by decide +kernel), List.mem_of_getElem? (i := 1041) (by decide +kernel)⟩
def lw_privs_6 : List (MethodName × Nat) := [(⟨"PursesByLotModel", "goes", "(IIZ)I"⟩, 33), (⟨"PursesByLotModel", "copies", "(II)V"⟩, 33)]
theorem lw_r6 : ∀ q ∈ lw_privs_6, lw_okq q := List.forall_mem_cons.mpr ⟨lw_p80, List.forall_mem_cons.mpr ⟨lw_p81, fun _ h => absurd h List.not_mem_nil⟩⟩
def lw_privs : List (MethodName × Nat) := lw_privs_1 ++ (lw_privs_2 ++ (lw_privs_3 ++ (lw_privs_4 ++ (lw_privs_5 ++ (lw_privs_6)))))
def lw_tbl : List Cond := k2_sels lw_privs ++ tables_1
theorem lw_privs_ok : ∀ q ∈ lw_privs, lw_okq q := by
  show ∀ q ∈ lw_privs_1 ++ (lw_privs_2 ++ (lw_privs_3 ++ (lw_privs_4 ++ (lw_privs_5 ++ (lw_privs_6))))), lw_okq q
  exact List.forall_mem_append.mpr ⟨lw_r1, List.forall_mem_append.mpr ⟨lw_r2, List.forall_mem_append.mpr ⟨lw_r3, List.forall_mem_append.mpr ⟨lw_r4, List.forall_mem_append.mpr ⟨lw_r5, lw_r6⟩⟩⟩⟩⟩
end
section
-- static tables of the claim, written by wip/whole/gen02.py
def zr0 : String := "PursesByLot$Border"
def zt0 : u_T := fun k => match k with
  | 0 => ("PursesByLot$Border", "bestSure", "I", false)
  | 1 => ("PursesByLot$Border", "bestLot", "I", false)
  | 2 => ("PursesByLot$Border", "bestAbove", "I", false)
  | 3 => ("PursesByLot$Border", "bestBelow", "I", false)
  | 4 => ("PursesByLot$Border", "found", "Z", false)
  | _ => ("PursesByLot$Border", "worthBefore", "[I", true)
def zy0 : Nat → FieldType := fun k => match k with
  | 0 => .int
  | 1 => .int
  | 2 => .int
  | 3 => .int
  | 4 => .boolean
  | _ => (.array .int)
theorem zn0 : ∀ a, a < 6 → ∀ b, b < 6 → a ≠ b → (zt0 a).2.1 ≠ (zt0 b).2.1 := by decide +kernel
theorem zp0 : ∀ k, k < 6 → parseFieldDescriptor (zt0 k).2.2.1 = some (zy0 k) := by decide +kernel
def zr1 : String := "PursesByLot$ItemReader"
def zt1 : u_T := fun k => match k with
  | 0 => ("PursesByLot$ItemReader", "letter", "I", false)
  | 1 => ("PursesByLot$ItemReader", "amount", "I", false)
  | 2 => ("PursesByLot$ItemReader", "first", "I", false)
  | 3 => ("PursesByLot$ItemReader", "second", "I", false)
  | _ => ("PursesByLot$ItemReader", "third", "I", false)
def zy1 : Nat → FieldType := fun k => match k with
  | 0 => .int
  | 1 => .int
  | 2 => .int
  | 3 => .int
  | _ => .int
theorem zn1 : ∀ a, a < 5 → ∀ b, b < 5 → a ≠ b → (zt1 a).2.1 ≠ (zt1 b).2.1 := by decide +kernel
theorem zp1 : ∀ k, k < 5 → parseFieldDescriptor (zt1 k).2.2.1 = some (zy1 k) := by decide +kernel
def zr2 : String := "PursesByLot$Ranking"
def zt2 : u_T := fun k => match k with
  | 0 => ("PursesByLot$Ranking", "size", "I", false)
  | 1 => ("PursesByLot$Ranking", "plan", "[I", true)
  | 2 => ("PursesByLot$Ranking", "points", "[I", true)
  | _ => ("PursesByLot$Ranking", "rank", "[I", true)
def zy2 : Nat → FieldType := fun k => match k with
  | 0 => .int
  | 1 => (.array .int)
  | 2 => (.array .int)
  | _ => (.array .int)
theorem zn2 : ∀ a, a < 4 → ∀ b, b < 4 → a ≠ b → (zt2 a).2.1 ≠ (zt2 b).2.1 := by decide +kernel
theorem zp2 : ∀ k, k < 4 → parseFieldDescriptor (zt2 k).2.2.1 = some (zy2 k) := by decide +kernel
def zr3 : String := "PursesByLot$Ratio"
def zt3 : u_T := fun k => match k with
  | 0 => ("PursesByLot$Ratio", "above", "I", false)
  | _ => ("PursesByLot$Ratio", "below", "I", false)
def zy3 : Nat → FieldType := fun k => match k with
  | 0 => .int
  | _ => .int
theorem zn3 : ∀ a, a < 2 → ∀ b, b < 2 → a ≠ b → (zt3 a).2.1 ≠ (zt3 b).2.1 := by decide +kernel
theorem zp3 : ∀ k, k < 2 → parseFieldDescriptor (zt3 k).2.2.1 = some (zy3 k) := by decide +kernel
def zr4 : String := "PursesByLot$Script"
def zt4 : u_T := fun k => match k with
  | 0 => ("PursesByLot$Script", "bytes", "[B", true)
  | _ => ("PursesByLot$Script", "length", "I", false)
def zy4 : Nat → FieldType := fun k => match k with
  | 0 => (.array .byte)
  | _ => .int
theorem zn4 : ∀ a, a < 2 → ∀ b, b < 2 → a ≠ b → (zt4 a).2.1 ≠ (zt4 b).2.1 := by decide +kernel
theorem zp4 : ∀ k, k < 2 → parseFieldDescriptor (zt4 k).2.2.1 = some (zy4 k) := by decide +kernel
def zr5 : String := "PursesByLot$Sheet"
def zt5 : u_T := fun k => match k with
  | 0 => ("PursesByLot$Sheet", "plans", "I", false)
  | 1 => ("PursesByLot$Sheet", "worth", "[I", true)
  | 2 => ("PursesByLot$Sheet", "safe", "[I", true)
  | 3 => ("PursesByLot$Sheet", "author", "[I", true)
  | 4 => ("PursesByLot$Sheet", "judges", "I", false)
  | 5 => ("PursesByLot$Sheet", "lean", "[I", true)
  | 6 => ("PursesByLot$Sheet", "fond", "[I", true)
  | 7 => ("PursesByLot$Sheet", "rough", "[I", true)
  | 8 => ("PursesByLot$Sheet", "sure", "I", false)
  | 9 => ("PursesByLot$Sheet", "inLot", "I", false)
  | 10 => ("PursesByLot$Sheet", "prizes", "I", false)
  | 11 => ("PursesByLot$Sheet", "coinEach", "I", false)
  | 12 => ("PursesByLot$Sheet", "hoursOfWriter", "I", false)
  | 13 => ("PursesByLot$Sheet", "hoursOfJudge", "I", false)
  | 14 => ("PursesByLot$Sheet", "hadAtFirst", "[I", true)
  | _ => ("PursesByLot$Sheet", "patience", "I", false)
def zy5 : Nat → FieldType := fun k => match k with
  | 0 => .int
  | 1 => (.array .int)
  | 2 => (.array .int)
  | 3 => (.array .int)
  | 4 => .int
  | 5 => (.array .int)
  | 6 => (.array .int)
  | 7 => (.array .int)
  | 8 => .int
  | 9 => .int
  | 10 => .int
  | 11 => .int
  | 12 => .int
  | 13 => .int
  | 14 => (.array .int)
  | _ => .int
theorem zn5 : ∀ a, a < 16 → ∀ b, b < 16 → a ≠ b → (zt5 a).2.1 ≠ (zt5 b).2.1 := by decide +kernel
theorem zp5 : ∀ k, k < 16 → parseFieldDescriptor (zt5 k).2.2.1 = some (zy5 k) := by decide +kernel
def zr6 : String := "PursesByLot$Split"
def zt6 : u_T := fun k => match k with
  | 0 => ("PursesByLot$Split", "sure", "I", false)
  | 1 => ("PursesByLot$Split", "inLot", "I", false)
  | 2 => ("PursesByLot$Split", "prizes", "I", false)
  | 3 => ("PursesByLot$Split", "sureWorth", "I", false)
  | 4 => ("PursesByLot$Split", "undrawn", "I", false)
  | 5 => ("PursesByLot$Split", "lot", "[I", true)
  | _ => ("PursesByLot$Split", "worths", "[I", true)
def zy6 : Nat → FieldType := fun k => match k with
  | 0 => .int
  | 1 => .int
  | 2 => .int
  | 3 => .int
  | 4 => .int
  | 5 => (.array .int)
  | _ => (.array .int)
theorem zn6 : ∀ a, a < 7 → ∀ b, b < 7 → a ≠ b → (zt6 a).2.1 ≠ (zt6 b).2.1 := by decide +kernel
theorem zp6 : ∀ k, k < 7 → parseFieldDescriptor (zt6 k).2.2.1 = some (zy6 k) := by decide +kernel
def zr7 : String := "PursesByLot$Stretch"
def zt7 : u_T := fun k => match k with
  | 0 => ("PursesByLot$Stretch", "first", "I", false)
  | _ => ("PursesByLot$Stretch", "longest", "I", false)
def zy7 : Nat → FieldType := fun k => match k with
  | 0 => .int
  | _ => .int
theorem zn7 : ∀ a, a < 2 → ∀ b, b < 2 → a ≠ b → (zt7 a).2.1 ≠ (zt7 b).2.1 := by decide +kernel
theorem zp7 : ∀ k, k < 2 → parseFieldDescriptor (zt7 k).2.2.1 = some (zy7 k) := by decide +kernel
def zr8 : String := "PursesByLot$Times"
def zt8 : u_T := fun k => match k with
  | 0 => ("PursesByLot$Times", "had", "[I", true)
  | 1 => ("PursesByLot$Times", "running", "[I", true)
  | 2 => ("PursesByLot$Times", "gone", "[Z", true)
  | 3 => ("PursesByLot$Times", "yearNumber", "I", false)
  | _ => ("PursesByLot$Times", "brought", "I", false)
def zy8 : Nat → FieldType := fun k => match k with
  | 0 => (.array .int)
  | 1 => (.array .int)
  | 2 => (.array .boolean)
  | 3 => .int
  | _ => .int
theorem zn8 : ∀ a, a < 5 → ∀ b, b < 5 → a ≠ b → (zt8 a).2.1 ≠ (zt8 b).2.1 := by decide +kernel
theorem zp8 : ∀ k, k < 5 → parseFieldDescriptor (zt8 k).2.2.1 = some (zy8 k) := by decide +kernel
def zr9 : String := "PursesByLot"
def zt9 : u_T := fun k => match k with
  | 0 => ("PursesByLot", "script", "LPursesByLot$Script;", true)
  | 1 => ("PursesByLot", "reader", "LPursesByLot$ItemReader;", true)
  | 2 => ("PursesByLot", "laid", "LPursesByLot$Sheet;", false)
  | 3 => ("PursesByLot", "draft", "LPursesByLot$Sheet;", false)
  | 4 => ("PursesByLot", "laterOf", "[I", true)
  | 5 => ("PursesByLot", "times", "LPursesByLot$Times;", true)
  | 6 => ("PursesByLot", "trial", "LPursesByLot$Times;", true)
  | 7 => ("PursesByLot", "keptFirst", "LPursesByLot$Times;", true)
  | 8 => ("PursesByLot", "keptSecond", "LPursesByLot$Times;", true)
  | 9 => ("PursesByLot", "kept", "I", false)
  | 10 => ("PursesByLot", "ranking", "LPursesByLot$Ranking;", true)
  | 11 => ("PursesByLot", "other", "LPursesByLot$Ranking;", true)
  | 12 => ("PursesByLot", "split", "LPursesByLot$Split;", true)
  | 13 => ("PursesByLot", "stretch", "LPursesByLot$Stretch;", true)
  | 14 => ("PursesByLot", "ratio", "LPursesByLot$Ratio;", true)
  | 15 => ("PursesByLot", "border", "LPursesByLot$Border;", true)
  | _ => ("PursesByLot", "paidAhead", "[I", true)
def zy9 : Nat → FieldType := fun k => match k with
  | 0 => (.object "PursesByLot$Script")
  | 1 => (.object "PursesByLot$ItemReader")
  | 2 => (.object "PursesByLot$Sheet")
  | 3 => (.object "PursesByLot$Sheet")
  | 4 => (.array .int)
  | 5 => (.object "PursesByLot$Times")
  | 6 => (.object "PursesByLot$Times")
  | 7 => (.object "PursesByLot$Times")
  | 8 => (.object "PursesByLot$Times")
  | 9 => .int
  | 10 => (.object "PursesByLot$Ranking")
  | 11 => (.object "PursesByLot$Ranking")
  | 12 => (.object "PursesByLot$Split")
  | 13 => (.object "PursesByLot$Stretch")
  | 14 => (.object "PursesByLot$Ratio")
  | 15 => (.object "PursesByLot$Border")
  | _ => (.array .int)
theorem zn9 : ∀ a, a < 17 → ∀ b, b < 17 → a ≠ b → (zt9 a).2.1 ≠ (zt9 b).2.1 := by decide +kernel
theorem zp9 : ∀ k, k < 17 → parseFieldDescriptor (zt9 k).2.2.1 = some (zy9 k) := by decide +kernel
def zr10 : String := "PursesByLotModel"
def zt10 : u_T := fun k => match k with
  | 0 => ("PursesByLotModel", "length", "I", false)
  | 1 => ("PursesByLotModel", "text", "[B", true)
  | 2 => ("PursesByLotModel", "at", "I", false)
  | 3 => ("PursesByLotModel", "readPlans", "I", false)
  | 4 => ("PursesByLotModel", "readPlan", "[I", true)
  | 5 => ("PursesByLotModel", "readJudges", "I", false)
  | 6 => ("PursesByLotModel", "readJudge", "[I", true)
  | 7 => ("PursesByLotModel", "readRest", "[I", true)
  | 8 => ("PursesByLotModel", "readHad", "[I", true)
  | 9 => ("PursesByLotModel", "plans", "I", false)
  | 10 => ("PursesByLotModel", "plan", "[I", true)
  | 11 => ("PursesByLotModel", "judges", "I", false)
  | 12 => ("PursesByLotModel", "judge", "[I", true)
  | 13 => ("PursesByLotModel", "rest", "[I", true)
  | 14 => ("PursesByLotModel", "later", "[I", true)
  | 15 => ("PursesByLotModel", "kept", "I", false)
  | 16 => ("PursesByLotModel", "had", "[I", true)
  | 17 => ("PursesByLotModel", "running", "[I", true)
  | 18 => ("PursesByLotModel", "left", "[Z", true)
  | 19 => ("PursesByLotModel", "year", "[I", true)
  | 20 => ("PursesByLotModel", "brought", "[I", true)
  | 21 => ("PursesByLotModel", "many", "[I", true)
  | 22 => ("PursesByLotModel", "order", "[I", true)
  | 23 => ("PursesByLotModel", "rank", "[I", true)
  | 24 => ("PursesByLotModel", "marks", "[I", true)
  | 25 => ("PursesByLotModel", "sure", "I", false)
  | 26 => ("PursesByLotModel", "lot", "I", false)
  | 27 => ("PursesByLotModel", "draws", "I", false)
  | 28 => ("PursesByLotModel", "waiting", "[I", true)
  | 29 => ("PursesByLotModel", "paid", "[Z", true)
  | 30 => ("PursesByLotModel", "paidAlso", "[Z", true)
  | 31 => ("PursesByLotModel", "above", "J", false)
  | _ => ("PursesByLotModel", "below", "J", false)
def zy10 : Nat → FieldType := fun k => match k with
  | 0 => .int
  | 1 => (.array .byte)
  | 2 => .int
  | 3 => .int
  | 4 => (.array .int)
  | 5 => .int
  | 6 => (.array .int)
  | 7 => (.array .int)
  | 8 => (.array .int)
  | 9 => .int
  | 10 => (.array .int)
  | 11 => .int
  | 12 => (.array .int)
  | 13 => (.array .int)
  | 14 => (.array .int)
  | 15 => .int
  | 16 => (.array .int)
  | 17 => (.array .int)
  | 18 => (.array .boolean)
  | 19 => (.array .int)
  | 20 => (.array .int)
  | 21 => (.array .int)
  | 22 => (.array .int)
  | 23 => (.array .int)
  | 24 => (.array .int)
  | 25 => .int
  | 26 => .int
  | 27 => .int
  | 28 => (.array .int)
  | 29 => (.array .boolean)
  | 30 => (.array .boolean)
  | 31 => .long
  | _ => .long
theorem zn10 : ∀ a, a < 33 → ∀ b, b < 33 → a ≠ b → (zt10 a).2.1 ≠ (zt10 b).2.1 := by decide +kernel
theorem zp10 : ∀ k, k < 33 → parseFieldDescriptor (zt10 k).2.2.1 = some (zy10 k) := by decide +kernel
abbrev zcls : List vw_C := [(zr0, zt0, 6), (zr1, zt1, 5), (zr2, zt2, 4), (zr3, zt3, 2), (zr4, zt4, 2), (zr5, zt5, 16), (zr6, zt6, 7), (zr7, zt7, 2), (zr8, zt8, 5), (zr9, zt9, 17), (zr10, zt10, 33)]
def zty : Nat → Nat → FieldType := fun c => match c with
  | 0 => zy0
  | 1 => zy1
  | 2 => zy2
  | 3 => zy3
  | 4 => zy4
  | 5 => zy5
  | 6 => zy6
  | 7 => zy7
  | 8 => zy8
  | 9 => zy9
  | _ => zy10
/-- the default fields of a new object -/
def zdf : Nat → List Value := fun c => match c with
  | 0 => [.int 0, .int 0, .int 0, .int 0, .int 0, .null]
  | 1 => [.int 0, .int 0, .int 0, .int 0, .int 0]
  | 2 => [.int 0, .null, .null, .null]
  | 3 => [.int 0, .int 0]
  | 4 => [.null, .int 0]
  | 5 => [.int 0, .null, .null, .null, .int 0, .null, .null, .null, .int 0, .int 0, .int 0, .int 0, .int 0, .int 0, .null, .int 0]
  | 6 => [.int 0, .int 0, .int 0, .int 0, .int 0, .null, .null]
  | 7 => [.int 0, .int 0]
  | 8 => [.null, .null, .null, .int 0, .int 0]
  | 9 => [.null, .null, .null, .null, .null, .null, .null, .null, .null, .int 0, .null, .null, .null, .null, .null, .null, .null]
  | _ => [.int 0, .null, .int 0, .int 0, .null, .int 0, .null, .null, .null, .int 0, .null, .int 0, .null, .null, .null, .int 0, .null, .null, .null, .null, .null, .null, .null, .null, .null, .int 0, .int 0, .int 0, .null, .null, .null, .long 0, .long 0]
/-- class names by number -/
def zcn : List String := ["PursesByLot$Border", "PursesByLot$ItemReader", "PursesByLot$Ranking", "PursesByLot$Ratio", "PursesByLot$Script", "PursesByLot$Sheet", "PursesByLot$Split", "PursesByLot$Stretch", "PursesByLot$Times", "PursesByLot", "PursesByLotModel", "PursesByLotLaw", "java/lang/Integer", "java/lang/Math", "java/util/Arrays", "java/lang/Object"]
/-- a method: name, bytes, locals, what it returns, room, locals that hold longs, number of its class, 1 if static, how many parameters, place of its code word -/
abbrev ZM : Type := MethodName × ByteArray × Nat × Option FieldType × Room × List Nat × Nat × Nat × Nat × Nat
def zm0 : ZM := (⟨"PursesByLotLaw", "law", "([I)Z"⟩, code, 4, (some .boolean), { frames := 8, cells := 75, slots := 2047, locals := 276 }, [], 11, 1, 1, 0)
def zm1 : ZM := (⟨"PursesByLot", "<init>", "()V"⟩, prog_1_method_1_code, 1, none, { frames := 2, cells := 52, slots := 1047, locals := 40 }, [], 9, 0, 0, 101)
def zm2 : ZM := (⟨"java/lang/Object", "<init>", "()V"⟩, object_method_1_code, 1, none, { frames := 0, cells := 0, slots := 0, locals := 0 }, [], 15, 0, 0, 104)
def zm3 : ZM := (⟨"PursesByLot$Script", "<init>", "()V"⟩, prog_6_method_1_code, 1, none, { frames := 1, cells := 1, slots := 400, locals := 20 }, [], 4, 0, 0, 109)
def zm4 : ZM := (⟨"PursesByLot$ItemReader", "<init>", "()V"⟩, prog_3_method_1_code, 1, none, { frames := 1, cells := 0, slots := 0, locals := 20 }, [], 1, 0, 0, 125)
def zm5 : ZM := (⟨"PursesByLot$Sheet", "<init>", "()V"⟩, prog_7_method_1_code, 1, none, { frames := 1, cells := 7, slots := 98, locals := 20 }, [], 5, 0, 0, 152)
def zm6 : ZM := (⟨"PursesByLot$Times", "<init>", "()V"⟩, prog_10_method_1_code, 1, none, { frames := 1, cells := 3, slots := 24, locals := 20 }, [], 8, 0, 0, 224)
def zm7 : ZM := (⟨"PursesByLot$Ranking", "<init>", "()V"⟩, prog_4_method_1_code, 1, none, { frames := 1, cells := 3, slots := 72, locals := 20 }, [], 2, 0, 0, 252)
def zm8 : ZM := (⟨"PursesByLot$Split", "<init>", "()V"⟩, prog_8_method_1_code, 1, none, { frames := 1, cells := 2, slots := 48, locals := 20 }, [], 6, 0, 0, 274)
def zm9 : ZM := (⟨"PursesByLot$Stretch", "<init>", "()V"⟩, prog_9_method_1_code, 1, none, { frames := 1, cells := 0, slots := 0, locals := 20 }, [], 7, 0, 0, 306)
def zm10 : ZM := (⟨"PursesByLot$Ratio", "<init>", "()V"⟩, prog_5_method_1_code, 1, none, { frames := 1, cells := 0, slots := 0, locals := 20 }, [], 3, 0, 0, 321)
def zm11 : ZM := (⟨"PursesByLot$Border", "<init>", "()V"⟩, prog_2_method_1_code, 1, none, { frames := 1, cells := 1, slots := 25, locals := 20 }, [], 0, 0, 0, 336)
def zm12 : ZM := (⟨"PursesByLot", "write", "(IJ)I"⟩, prog_1_method_2_code, 4, (some .int), { frames := 1, cells := 0, slots := 0, locals := 24 }, [2], 9, 0, 2, 416)
def zm13 : ZM := (⟨"PursesByLot", "within", "(III)Z"⟩, prog_1_method_27_code, 3, (some .boolean), { frames := 0, cells := 0, slots := 0, locals := 0 }, [], 9, 1, 3, 419)
def zm14 : ZM := (⟨"PursesByLot$Script", "append", "(IJ)V"⟩, prog_6_method_2_code, 5, none, { frames := 0, cells := 0, slots := 0, locals := 0 }, [2], 4, 0, 2, 423)
def zm15 : ZM := (⟨"PursesByLot", "wipe", "()I"⟩, prog_1_method_3_code, 2, (some .int), { frames := 0, cells := 0, slots := 0, locals := 0 }, [], 9, 0, 0, 427)
def zm16 : ZM := (⟨"PursesByLot", "fault", "()I"⟩, prog_1_method_4_code, 1, (some .int), { frames := 4, cells := 0, slots := 0, locals := 98 }, [], 9, 0, 0, 431)
def zm17 : ZM := (⟨"PursesByLot$ItemReader", "readAll", "(LPursesByLot$Script;LPursesByLot$Sheet;)I"⟩, prog_3_method_2_code, 6, (some .int), { frames := 3, cells := 0, slots := 0, locals := 73 }, [], 1, 0, 2, 435)
def zm18 : ZM := (⟨"PursesByLot$Sheet", "clear", "()V"⟩, prog_7_method_2_code, 1, none, { frames := 1, cells := 0, slots := 0, locals := 23 }, [], 5, 0, 0, 439)
def zm19 : ZM := (⟨"java/util/Arrays", "fill", "([II)V"⟩, prog_15_method_103_code, 4, none, { frames := 0, cells := 0, slots := 0, locals := 0 }, [], 14, 1, 2, 442)
def zm20 : ZM := (⟨"PursesByLot$ItemReader", "readItem", "(LPursesByLot$Script;I)I"⟩, prog_3_method_3_code, 6, (some .int), { frames := 2, cells := 0, slots := 0, locals := 48 }, [], 1, 0, 2, 446)
def zm21 : ZM := (⟨"PursesByLot$Script", "byteAt", "(I)I"⟩, prog_6_method_3_code, 2, (some .int), { frames := 0, cells := 0, slots := 0, locals := 0 }, [], 4, 0, 1, 450)
def zm22 : ZM := (⟨"PursesByLot$ItemReader", "readNumber", "(LPursesByLot$Script;I)I"⟩, prog_3_method_4_code, 7, (some .int), { frames := 1, cells := 0, slots := 0, locals := 22 }, [], 1, 0, 2, 454)
def zm23 : ZM := (⟨"PursesByLot$ItemReader", "addNumber", "(I)V"⟩, prog_3_method_5_code, 2, none, { frames := 0, cells := 0, slots := 0, locals := 0 }, [], 1, 0, 1, 459)
def zm24 : ZM := (⟨"PursesByLot$Sheet", "take", "(LPursesByLot$ItemReader;)Z"⟩, prog_7_method_3_code, 2, (some .boolean), { frames := 1, cells := 0, slots := 0, locals := 23 }, [], 5, 0, 1, 463)
def zm25 : ZM := (⟨"PursesByLot$Sheet", "takePlan", "(III)Z"⟩, prog_7_method_4_code, 4, (some .boolean), { frames := 0, cells := 0, slots := 0, locals := 0 }, [], 5, 0, 3, 467)
def zm26 : ZM := (⟨"PursesByLot$Sheet", "takeJudge", "(III)Z"⟩, prog_7_method_5_code, 4, (some .boolean), { frames := 0, cells := 0, slots := 0, locals := 0 }, [], 5, 0, 3, 471)
def zm27 : ZM := (⟨"PursesByLot$Sheet", "takePurse", "(III)Z"⟩, prog_7_method_6_code, 4, (some .boolean), { frames := 0, cells := 0, slots := 0, locals := 0 }, [], 5, 0, 3, 475)
def zm28 : ZM := (⟨"PursesByLot$Sheet", "takeCoin", "(I)Z"⟩, prog_7_method_7_code, 2, (some .boolean), { frames := 0, cells := 0, slots := 0, locals := 0 }, [], 5, 0, 1, 479)
def zm29 : ZM := (⟨"PursesByLot$Sheet", "takeHours", "(II)Z"⟩, prog_7_method_8_code, 3, (some .boolean), { frames := 0, cells := 0, slots := 0, locals := 0 }, [], 5, 0, 2, 483)
def zm30 : ZM := (⟨"PursesByLot$Sheet", "takeHad", "(II)Z"⟩, prog_7_method_9_code, 3, (some .boolean), { frames := 0, cells := 0, slots := 0, locals := 0 }, [], 5, 0, 2, 487)
def zm31 : ZM := (⟨"PursesByLot$Sheet", "takePatience", "(I)Z"⟩, prog_7_method_10_code, 2, (some .boolean), { frames := 0, cells := 0, slots := 0, locals := 0 }, [], 5, 0, 1, 491)
def zm32 : ZM := (⟨"PursesByLot", "lay", "()I"⟩, prog_1_method_5_code, 2, (some .int), { frames := 4, cells := 0, slots := 0, locals := 98 }, [], 9, 0, 0, 495)
def zm33 : ZM := (⟨"PursesByLot$Times", "begin", "(LPursesByLot$Sheet;)V"⟩, prog_10_method_2_code, 3, none, { frames := 0, cells := 0, slots := 0, locals := 0 }, [], 8, 0, 1, 499)
def zm34 : ZM := (⟨"PursesByLot", "mark", "(III)I"⟩, prog_1_method_6_code, 4, (some .int), { frames := 1, cells := 0, slots := 0, locals := 27 }, [], 9, 0, 3, 504)
def zm35 : ZM := (⟨"PursesByLot", "isPlan", "(I)Z"⟩, prog_1_method_28_code, 2, (some .boolean), { frames := 0, cells := 0, slots := 0, locals := 0 }, [], 9, 0, 1, 508)
def zm36 : ZM := (⟨"PursesByLot", "isJudge", "(I)Z"⟩, prog_1_method_29_code, 2, (some .boolean), { frames := 0, cells := 0, slots := 0, locals := 0 }, [], 9, 0, 1, 512)
def zm37 : ZM := (⟨"PursesByLot", "isDraw", "(I)Z"⟩, prog_1_method_31_code, 1, (some .boolean), { frames := 0, cells := 0, slots := 0, locals := 0 }, [], 9, 1, 1, 515)
def zm38 : ZM := (⟨"PursesByLot$Times", "hadBy", "(I)I"⟩, prog_10_method_4_code, 2, (some .int), { frames := 0, cells := 0, slots := 0, locals := 0 }, [], 8, 0, 1, 519)
def zm39 : ZM := (⟨"PursesByLot$Sheet", "markOf", "(IIII)I"⟩, prog_7_method_11_code, 8, (some .int), { frames := 0, cells := 0, slots := 0, locals := 0 }, [], 5, 0, 4, 523)
def zm40 : ZM := (⟨"PursesByLot", "order", "(III)I"⟩, prog_1_method_7_code, 4, (some .int), { frames := 3, cells := 0, slots := 0, locals := 81 }, [], 9, 0, 3, 527)
def zm41 : ZM := (⟨"PursesByLot", "isPanel", "(I)Z"⟩, prog_1_method_30_code, 2, (some .boolean), { frames := 0, cells := 0, slots := 0, locals := 0 }, [], 9, 0, 1, 531)
def zm42 : ZM := (⟨"PursesByLot$Ranking", "arrange", "(LPursesByLot$Sheet;LPursesByLot$Times;IIZ)V"⟩, prog_4_method_2_code, 9, none, { frames := 2, cells := 0, slots := 0, locals := 53 }, [], 2, 0, 5, 535)
def zm43 : ZM := (⟨"PursesByLot$Times", "isHere", "(I)Z"⟩, prog_10_method_5_code, 2, (some .boolean), { frames := 0, cells := 0, slots := 0, locals := 0 }, [], 8, 0, 1, 540)
def zm44 : ZM := (⟨"PursesByLot$Ranking", "panelMark", "(LPursesByLot$Sheet;IIII)I"⟩, prog_4_method_3_code, 7, (some .int), { frames := 1, cells := 0, slots := 0, locals := 27 }, [], 2, 1, 5, 544)
def zm45 : ZM := (⟨"PursesByLot$Ranking", "enter", "(II)V"⟩, prog_4_method_4_code, 4, none, { frames := 0, cells := 0, slots := 0, locals := 0 }, [], 2, 0, 2, 549)
def zm46 : ZM := (⟨"PursesByLot$Ranking", "planAt", "(I)I"⟩, prog_4_method_5_code, 2, (some .int), { frames := 0, cells := 0, slots := 0, locals := 0 }, [], 2, 0, 1, 553)
def zm47 : ZM := (⟨"PursesByLot", "tell", "(IIIII)I"⟩, prog_1_method_8_code, 7, (some .int), { frames := 4, cells := 0, slots := 0, locals := 105 }, [], 9, 0, 5, 557)
def zm48 : ZM := (⟨"PursesByLot", "areTwoOrders", "(IIII)Z"⟩, prog_1_method_32_code, 5, (some .boolean), { frames := 1, cells := 0, slots := 0, locals := 21 }, [], 9, 0, 4, 561)
def zm49 : ZM := (⟨"PursesByLot", "arrangeTwo", "(IIII)V"⟩, prog_1_method_33_code, 5, none, { frames := 3, cells := 0, slots := 0, locals := 81 }, [], 9, 0, 4, 565)
def zm50 : ZM := (⟨"PursesByLot$Stretch", "alikePairs", "(LPursesByLot$Ranking;LPursesByLot$Ranking;)I"⟩, prog_9_method_2_code, 5, (some .int), { frames := 3, cells := 0, slots := 0, locals := 69 }, [], 7, 0, 2, 569)
def zm51 : ZM := (⟨"PursesByLot$Stretch", "alikeWith", "(LPursesByLot$Ranking;LPursesByLot$Ranking;II)I"⟩, prog_9_method_3_code, 7, (some .int), { frames := 2, cells := 0, slots := 0, locals := 43 }, [], 7, 1, 4, 572)
def zm52 : ZM := (⟨"PursesByLot$Ranking", "rankThere", "(LPursesByLot$Ranking;I)I"⟩, prog_4_method_7_code, 3, (some .int), { frames := 1, cells := 0, slots := 0, locals := 21 }, [], 2, 0, 2, 576)
def zm53 : ZM := (⟨"PursesByLot$Ranking", "rankOf", "(I)I"⟩, prog_4_method_6_code, 2, (some .int), { frames := 0, cells := 0, slots := 0, locals := 0 }, [], 2, 0, 1, 581)
def zm54 : ZM := (⟨"PursesByLot", "both", "(IIIIII)I"⟩, prog_1_method_9_code, 8, (some .int), { frames := 4, cells := 0, slots := 0, locals := 105 }, [], 9, 0, 6, 585)
def zm55 : ZM := (⟨"java/lang/Math", "min", "(II)I"⟩, prog_14_method_69_code, 2, (some .int), { frames := 0, cells := 0, slots := 0, locals := 0 }, [], 13, 1, 2, 588)
def zm56 : ZM := (⟨"PursesByLot$Ranking", "inFirstOfBoth", "(LPursesByLot$Ranking;I)I"⟩, prog_4_method_8_code, 5, (some .int), { frames := 2, cells := 0, slots := 0, locals := 43 }, [], 2, 0, 2, 592)
def zm57 : ZM := (⟨"PursesByLot$Ratio", "reduce", "(II)V"⟩, prog_5_method_2_code, 4, none, { frames := 1, cells := 0, slots := 0, locals := 25 }, [], 3, 0, 2, 597)
def zm58 : ZM := (⟨"java/lang/Math", "abs", "(I)I"⟩, prog_14_method_59_code, 1, (some .int), { frames := 0, cells := 0, slots := 0, locals := 0 }, [], 13, 1, 1, 600)
def zm59 : ZM := (⟨"PursesByLot$Ratio", "commonDivisor", "(II)I"⟩, prog_5_method_3_code, 6, (some .int), { frames := 0, cells := 0, slots := 0, locals := 0 }, [], 3, 1, 2, 603)
def zm60 : ZM := (⟨"PursesByLot", "coin", "(IIIII)I"⟩, prog_1_method_10_code, 6, (some .int), { frames := 4, cells := 0, slots := 0, locals := 105 }, [], 9, 0, 5, 607)
def zm61 : ZM := (⟨"PursesByLot$Stretch", "findLongest", "(LPursesByLot$Ranking;LPursesByLot$Ranking;)V"⟩, prog_9_method_4_code, 8, none, { frames := 3, cells := 0, slots := 0, locals := 69 }, [], 7, 0, 2, 611)
def zm62 : ZM := (⟨"PursesByLot", "drawn", "(IIII)I"⟩, prog_1_method_11_code, 7, (some .int), { frames := 4, cells := 0, slots := 0, locals := 103 }, [], 9, 0, 4, 615)
def zm63 : ZM := (⟨"PursesByLot", "splitOrder", "(II)V"⟩, prog_1_method_34_code, 3, none, { frames := 3, cells := 0, slots := 0, locals := 81 }, [], 9, 0, 2, 619)
def zm64 : ZM := (⟨"PursesByLot$Split", "divide", "(LPursesByLot$Sheet;I)V"⟩, prog_8_method_2_code, 3, none, { frames := 1, cells := 0, slots := 0, locals := 21 }, [], 6, 0, 2, 623)
def zm65 : ZM := (⟨"PursesByLot$Split", "fillLot", "(LPursesByLot$Ranking;)V"⟩, prog_8_method_3_code, 3, none, { frames := 1, cells := 0, slots := 0, locals := 21 }, [], 6, 0, 1, 628)
def zm66 : ZM := (⟨"PursesByLot$Split", "takeOne", "(II)I"⟩, prog_8_method_4_code, 6, (some .int), { frames := 1, cells := 0, slots := 0, locals := 22 }, [], 6, 0, 2, 633)
def zm67 : ZM := (⟨"java/lang/Math", "floorMod", "(II)I"⟩, prog_14_method_50_code, 3, (some .int), { frames := 0, cells := 0, slots := 0, locals := 0 }, [], 13, 1, 2, 636)
def zm68 : ZM := (⟨"PursesByLot", "chance", "(IIII)I"⟩, prog_1_method_12_code, 6, (some .int), { frames := 4, cells := 0, slots := 0, locals := 103 }, [], 9, 0, 4, 640)
def zm69 : ZM := (⟨"PursesByLot$Split", "chanceOf", "(ILPursesByLot$Ratio;)V"⟩, prog_8_method_6_code, 3, none, { frames := 2, cells := 0, slots := 0, locals := 48 }, [], 6, 0, 2, 645)
def zm70 : ZM := (⟨"PursesByLot", "brings", "(III)I"⟩, prog_1_method_13_code, 4, (some .int), { frames := 4, cells := 0, slots := 0, locals := 103 }, [], 9, 0, 3, 650)
def zm71 : ZM := (⟨"PursesByLot$Split", "weigh", "(LPursesByLot$Sheet;LPursesByLot$Ranking;)V"⟩, prog_8_method_7_code, 6, none, { frames := 1, cells := 0, slots := 0, locals := 21 }, [], 6, 0, 2, 654)
def zm72 : ZM := (⟨"PursesByLot$Sheet", "worthOf", "(I)I"⟩, prog_7_method_12_code, 2, (some .int), { frames := 0, cells := 0, slots := 0, locals := 0 }, [], 5, 0, 1, 658)
def zm73 : ZM := (⟨"PursesByLot$Split", "lotWorth", "(II)I"⟩, prog_8_method_8_code, 5, (some .int), { frames := 1, cells := 0, slots := 0, locals := 21 }, [], 6, 0, 2, 662)
def zm74 : ZM := (⟨"java/lang/Math", "max", "(II)I"⟩, prog_14_method_65_code, 2, (some .int), { frames := 0, cells := 0, slots := 0, locals := 0 }, [], 13, 1, 2, 665)
def zm75 : ZM := (⟨"PursesByLot$Split", "meanWorth", "(LPursesByLot$Ratio;)V"⟩, prog_8_method_9_code, 3, none, { frames := 2, cells := 0, slots := 0, locals := 48 }, [], 6, 0, 1, 669)
def zm76 : ZM := (⟨"PursesByLot", "cost", "(III)I"⟩, prog_1_method_14_code, 5, (some .int), { frames := 4, cells := 0, slots := 0, locals := 103 }, [], 9, 0, 3, 674)
def zm77 : ZM := (⟨"java/lang/Integer", "bitCount", "(I)I"⟩, prog_13_method_49_code, 1, (some .int), { frames := 0, cells := 0, slots := 0, locals := 0 }, [], 12, 1, 1, 678)
def zm78 : ZM := (⟨"PursesByLot$Sheet", "costOf", "(III)I"⟩, prog_7_method_13_code, 4, (some .int), { frames := 0, cells := 0, slots := 0, locals := 0 }, [], 5, 0, 3, 685)
def zm79 : ZM := (⟨"PursesByLot", "line", "(IIII)I"⟩, prog_1_method_15_code, 5, (some .int), { frames := 3, cells := 0, slots := 0, locals := 81 }, [], 9, 0, 4, 689)
def zm80 : ZM := (⟨"PursesByLot$Border", "findBest", "(LPursesByLot$Sheet;LPursesByLot$Ranking;II)V"⟩, prog_2_method_2_code, 13, none, { frames := 2, cells := 0, slots := 0, locals := 46 }, [], 0, 0, 4, 694)
def zm81 : ZM := (⟨"PursesByLot$Border", "sumWorth", "(LPursesByLot$Sheet;LPursesByLot$Ranking;)V"⟩, prog_2_method_3_code, 4, none, { frames := 1, cells := 0, slots := 0, locals := 23 }, [], 0, 0, 2, 698)
def zm82 : ZM := (⟨"PursesByLot$Border", "worthOfFirst", "(I)I"⟩, prog_2_method_4_code, 2, (some .int), { frames := 0, cells := 0, slots := 0, locals := 0 }, [], 0, 0, 1, 706)
def zm83 : ZM := (⟨"PursesByLot$Border", "offer", "(IIII)V"⟩, prog_2_method_5_code, 5, none, { frames := 0, cells := 0, slots := 0, locals := 0 }, [], 0, 0, 4, 711)
def zm84 : ZM := (⟨"PursesByLot", "even", "(I)I"⟩, prog_1_method_16_code, 5, (some .int), { frames := 2, cells := 0, slots := 0, locals := 44 }, [], 9, 0, 1, 715)
def zm85 : ZM := (⟨"PursesByLot$Times", "takingPart", "(LPursesByLot$Sheet;)I"⟩, prog_10_method_6_code, 4, (some .int), { frames := 1, cells := 0, slots := 0, locals := 21 }, [], 8, 0, 1, 719)
def zm86 : ZM := (⟨"PursesByLot", "later", "(II)I"⟩, prog_1_method_17_code, 4, (some .int), { frames := 1, cells := 0, slots := 0, locals := 22 }, [], 9, 0, 2, 724)
def zm87 : ZM := (⟨"PursesByLot", "hair", "(IIII)I"⟩, prog_1_method_18_code, 5, (some .int), { frames := 3, cells := 0, slots := 0, locals := 81 }, [], 9, 0, 4, 728)
def zm88 : ZM := (⟨"PursesByLot", "laterOfRanks", "(II)I"⟩, prog_1_method_35_code, 6, (some .int), { frames := 1, cells := 0, slots := 0, locals := 21 }, [], 9, 0, 2, 732)
def zm89 : ZM := (⟨"PursesByLot", "golden", "(IIIII)I"⟩, prog_1_method_19_code, 6, (some .int), { frames := 4, cells := 0, slots := 0, locals := 108 }, [], 9, 0, 5, 736)
def zm90 : ZM := (⟨"PursesByLot", "rightDraws", "(IIII)I"⟩, prog_1_method_36_code, 8, (some .int), { frames := 3, cells := 0, slots := 0, locals := 81 }, [], 9, 0, 4, 740)
def zm91 : ZM := (⟨"PursesByLot$Ranking", "firstNotAmong", "(LPursesByLot$Ranking;I)I"⟩, prog_4_method_9_code, 4, (some .int), { frames := 2, cells := 0, slots := 0, locals := 43 }, [], 2, 0, 2, 744)
def zm92 : ZM := (⟨"PursesByLot", "year", "(I)I"⟩, prog_1_method_20_code, 2, (some .int), { frames := 4, cells := 0, slots := 0, locals := 105 }, [], 9, 0, 1, 749)
def zm93 : ZM := (⟨"PursesByLot", "passYear", "(LPursesByLot$Times;IZ)I"⟩, prog_1_method_37_code, 5, (some .int), { frames := 3, cells := 0, slots := 0, locals := 81 }, [], 9, 0, 3, 753)
def zm94 : ZM := (⟨"PursesByLot$Split", "allPaid", "(LPursesByLot$Ranking;I)I"⟩, prog_8_method_5_code, 5, (some .int), { frames := 2, cells := 0, slots := 0, locals := 47 }, [], 6, 0, 2, 757)
def zm95 : ZM := (⟨"PursesByLot$Times", "passWith", "(LPursesByLot$Sheet;I)V"⟩, prog_10_method_8_code, 6, none, { frames := 2, cells := 0, slots := 0, locals := 45 }, [], 8, 0, 2, 763)
def zm96 : ZM := (⟨"PursesByLot$Times", "plansOf", "(LPursesByLot$Sheet;I)I"⟩, prog_10_method_9_code, 5, (some .int), { frames := 1, cells := 0, slots := 0, locals := 21 }, [], 8, 0, 2, 767)
def zm97 : ZM := (⟨"PursesByLot", "writer", "(II)I"⟩, prog_1_method_21_code, 3, (some .int), { frames := 1, cells := 0, slots := 0, locals := 22 }, [], 9, 0, 2, 773)
def zm98 : ZM := (⟨"PursesByLot", "now", "(I)I"⟩, prog_1_method_22_code, 2, (some .int), { frames := 1, cells := 0, slots := 0, locals := 22 }, [], 9, 0, 1, 777)
def zm99 : ZM := (⟨"PursesByLot", "having", "(II)I"⟩, prog_1_method_23_code, 5, (some .int), { frames := 4, cells := 0, slots := 0, locals := 105 }, [], 9, 0, 2, 781)
def zm100 : ZM := (⟨"PursesByLot$Times", "copyFrom", "(LPursesByLot$Times;)V"⟩, prog_10_method_3_code, 3, none, { frames := 0, cells := 0, slots := 0, locals := 0 }, [], 8, 0, 1, 785)
def zm101 : ZM := (⟨"PursesByLot", "keep", "()I"⟩, prog_1_method_24_code, 1, (some .int), { frames := 1, cells := 0, slots := 0, locals := 22 }, [], 9, 0, 0, 789)
def zm102 : ZM := (⟨"PursesByLot", "keptAt", "(I)LPursesByLot$Times;"⟩, prog_1_method_38_code, 2, (some (.object "PursesByLot$Times")), { frames := 0, cells := 0, slots := 0, locals := 0 }, [], 9, 0, 1, 793)
def zm103 : ZM := (⟨"PursesByLot", "back", "()I"⟩, prog_1_method_25_code, 1, (some .int), { frames := 1, cells := 0, slots := 0, locals := 22 }, [], 9, 0, 0, 797)
def zm104 : ZM := (⟨"PursesByLot", "count", "(I)I"⟩, prog_1_method_26_code, 2, (some .int), { frames := 1, cells := 0, slots := 0, locals := 22 }, [], 9, 0, 1, 801)
def zm105 : ZM := (⟨"PursesByLot$Times", "goneWriters", "()I"⟩, prog_10_method_7_code, 3, (some .int), { frames := 0, cells := 0, slots := 0, locals := 0 }, [], 8, 0, 0, 805)
def zm106 : ZM := (⟨"PursesByLotModel", "<init>", "()V"⟩, prog_12_method_1_code, 1, none, { frames := 1, cells := 21, slots := 950, locals := 20 }, [], 10, 0, 0, 810)
def zm107 : ZM := (⟨"PursesByLotModel", "write", "(IJ)I"⟩, prog_12_method_5_code, 5, (some .int), { frames := 1, cells := 0, slots := 0, locals := 25 }, [2], 10, 0, 2, 915)
def zm108 : ZM := (⟨"PursesByLotModel", "in", "(JJJ)Z"⟩, prog_12_method_2_code, 6, (some .boolean), { frames := 0, cells := 0, slots := 0, locals := 0 }, [0, 2, 4], 10, 1, 3, 919)
def zm109 : ZM := (⟨"PursesByLotModel", "wipe", "()I"⟩, prog_12_method_6_code, 2, (some .int), { frames := 0, cells := 0, slots := 0, locals := 0 }, [], 10, 0, 0, 923)
def zm110 : ZM := (⟨"PursesByLotModel", "fault", "()I"⟩, prog_12_method_11_code, 2, (some .int), { frames := 4, cells := 0, slots := 0, locals := 94 }, [], 10, 0, 0, 927)
def zm111 : ZM := (⟨"PursesByLotModel", "isItem", "()Z"⟩, prog_12_method_9_code, 6, (some .boolean), { frames := 3, cells := 0, slots := 0, locals := 69 }, [], 10, 0, 0, 931)
def zm112 : ZM := (⟨"PursesByLotModel", "number", "(I)I"⟩, prog_12_method_7_code, 4, (some .int), { frames := 1, cells := 0, slots := 0, locals := 25 }, [], 10, 0, 1, 935)
def zm113 : ZM := (⟨"PursesByLotModel", "more", "(I)I"⟩, prog_12_method_8_code, 2, (some .int), { frames := 2, cells := 0, slots := 0, locals := 48 }, [], 10, 0, 1, 942)
def zm114 : ZM := (⟨"PursesByLotModel", "puts", "(IIII)V"⟩, prog_12_method_10_code, 5, none, { frames := 0, cells := 0, slots := 0, locals := 0 }, [], 10, 0, 4, 946)
def zm115 : ZM := (⟨"PursesByLotModel", "lay", "()I"⟩, prog_12_method_12_code, 2, (some .int), { frames := 5, cells := 0, slots := 0, locals := 115 }, [], 10, 0, 0, 950)
def zm116 : ZM := (⟨"PursesByLotModel", "mark", "(III)I"⟩, prog_12_method_19_code, 4, (some .int), { frames := 2, cells := 0, slots := 0, locals := 46 }, [], 10, 0, 3, 955)
def zm117 : ZM := (⟨"PursesByLotModel", "isPlan", "(I)Z"⟩, prog_12_method_13_code, 2, (some .boolean), { frames := 1, cells := 0, slots := 0, locals := 25 }, [], 10, 0, 1, 959)
def zm118 : ZM := (⟨"PursesByLotModel", "isJudge", "(I)Z"⟩, prog_12_method_14_code, 2, (some .boolean), { frames := 1, cells := 0, slots := 0, locals := 25 }, [], 10, 0, 1, 963)
def zm119 : ZM := (⟨"PursesByLotModel", "isDraw", "(I)Z"⟩, prog_12_method_16_code, 1, (some .boolean), { frames := 1, cells := 0, slots := 0, locals := 25 }, [], 10, 1, 1, 966)
def zm120 : ZM := (⟨"PursesByLotModel", "markOf", "(IIIIZ)I"⟩, prog_12_method_18_code, 9, (some .int), { frames := 0, cells := 0, slots := 0, locals := 0 }, [], 10, 0, 5, 971)
def zm121 : ZM := (⟨"PursesByLotModel", "order", "(III)I"⟩, prog_12_method_21_code, 4, (some .int), { frames := 3, cells := 0, slots := 0, locals := 78 }, [], 10, 0, 3, 975)
def zm122 : ZM := (⟨"PursesByLotModel", "isPanel", "(I)Z"⟩, prog_12_method_15_code, 2, (some .boolean), { frames := 0, cells := 0, slots := 0, locals := 0 }, [], 10, 0, 1, 979)
def zm123 : ZM := (⟨"PursesByLotModel", "laysNow", "(II)V"⟩, prog_12_method_30_code, 3, none, { frames := 2, cells := 0, slots := 0, locals := 56 }, [], 10, 0, 2, 983)
def zm124 : ZM := (⟨"PursesByLotModel", "lays", "(IIIIZ)V"⟩, prog_12_method_20_code, 9, none, { frames := 1, cells := 0, slots := 0, locals := 28 }, [], 10, 0, 5, 987)
def zm125 : ZM := (⟨"PursesByLotModel", "takesPart", "(II)Z"⟩, prog_12_method_17_code, 3, (some .boolean), { frames := 0, cells := 0, slots := 0, locals := 0 }, [], 10, 0, 2, 991)
def zm126 : ZM := (⟨"PursesByLotModel", "has", "(II)Z"⟩, prog_12_method_3_code, 2, (some .boolean), { frames := 0, cells := 0, slots := 0, locals := 0 }, [], 10, 1, 2, 994)
def zm127 : ZM := (⟨"PursesByLotModel", "shares", "()V"⟩, prog_12_method_29_code, 1, none, { frames := 1, cells := 0, slots := 0, locals := 21 }, [], 10, 0, 0, 998)
def zm128 : ZM := (⟨"PursesByLotModel", "least", "(II)I"⟩, prog_12_method_4_code, 2, (some .int), { frames := 0, cells := 0, slots := 0, locals := 0 }, [], 10, 1, 2, 1001)
def zm129 : ZM := (⟨"PursesByLotModel", "tell", "(IIIII)I"⟩, prog_12_method_25_code, 8, (some .int), { frames := 3, cells := 0, slots := 0, locals := 80 }, [], 10, 0, 5, 1005)
def zm130 : ZM := (⟨"PursesByLotModel", "areTwo", "(IIII)Z"⟩, prog_12_method_22_code, 5, (some .boolean), { frames := 2, cells := 0, slots := 0, locals := 45 }, [], 10, 0, 4, 1009)
def zm131 : ZM := (⟨"PursesByLotModel", "two", "(IIII)V"⟩, prog_12_method_23_code, 5, none, { frames := 2, cells := 0, slots := 0, locals := 56 }, [], 10, 0, 4, 1013)
def zm132 : ZM := (⟨"PursesByLotModel", "alike", "(II)I"⟩, prog_12_method_24_code, 6, (some .int), { frames := 0, cells := 0, slots := 0, locals := 0 }, [], 10, 0, 2, 1017)
def zm133 : ZM := (⟨"PursesByLotModel", "both", "(IIIIII)I"⟩, prog_12_method_27_code, 11, (some .int), { frames := 3, cells := 0, slots := 0, locals := 80 }, [], 10, 0, 6, 1021)
def zm134 : ZM := (⟨"PursesByLotModel", "lowest", "(JJ)V"⟩, prog_12_method_26_code, 11, none, { frames := 0, cells := 0, slots := 0, locals := 0 }, [1, 3, 5, 7, 9], 10, 0, 2, 1027)
def zm135 : ZM := (⟨"PursesByLotModel", "coin", "(IIIII)I"⟩, prog_12_method_28_code, 8, (some .int), { frames := 3, cells := 0, slots := 0, locals := 80 }, [], 10, 0, 5, 1031)
def zm136 : ZM := (⟨"PursesByLotModel", "drawn", "(IIII)I"⟩, prog_12_method_33_code, 7, (some .int), { frames := 3, cells := 0, slots := 0, locals := 78 }, [], 10, 0, 4, 1035)
def zm137 : ZM := (⟨"PursesByLotModel", "waits", "()V"⟩, prog_12_method_32_code, 2, none, { frames := 0, cells := 0, slots := 0, locals := 0 }, [], 10, 0, 0, 1040)
def zm138 : ZM := (⟨"PursesByLotModel", "nextDrawn", "(II)I"⟩, prog_12_method_31_code, 7, (some .int), { frames := 0, cells := 0, slots := 0, locals := 0 }, [], 10, 0, 2, 1044)
def zm139 : ZM := (⟨"PursesByLotModel", "chance", "(IIII)I"⟩, prog_12_method_34_code, 6, (some .int), { frames := 3, cells := 0, slots := 0, locals := 78 }, [], 10, 0, 4, 1048)
def zm140 : ZM := (⟨"PursesByLotModel", "brings", "(III)I"⟩, prog_12_method_37_code, 5, (some .int), { frames := 3, cells := 0, slots := 0, locals := 78 }, [], 10, 0, 3, 1052)
def zm141 : ZM := (⟨"PursesByLotModel", "worths", "(II)I"⟩, prog_12_method_35_code, 5, (some .int), { frames := 0, cells := 0, slots := 0, locals := 0 }, [], 10, 0, 2, 1056)
def zm142 : ZM := (⟨"PursesByLotModel", "drawnWorth", "(Z)I"⟩, prog_12_method_36_code, 8, (some .int), { frames := 1, cells := 0, slots := 0, locals := 21 }, [], 10, 0, 1, 1060)
def zm143 : ZM := (⟨"PursesByLotModel", "cost", "(III)I"⟩, prog_12_method_40_code, 5, (some .int), { frames := 3, cells := 0, slots := 0, locals := 78 }, [], 10, 0, 3, 1064)
def zm144 : ZM := (⟨"PursesByLotModel", "costOf", "(III)I"⟩, prog_12_method_39_code, 4, (some .int), { frames := 2, cells := 0, slots := 0, locals := 44 }, [], 10, 0, 3, 1069)
def zm145 : ZM := (⟨"PursesByLotModel", "judgesOf", "(I)I"⟩, prog_12_method_38_code, 4, (some .int), { frames := 1, cells := 0, slots := 0, locals := 21 }, [], 10, 0, 1, 1073)
def zm146 : ZM := (⟨"PursesByLotModel", "line", "(IIII)I"⟩, prog_12_method_41_code, 19, (some .int), { frames := 3, cells := 0, slots := 0, locals := 78 }, [8, 10, 15, 17], 10, 0, 4, 1077)
def zm147 : ZM := (⟨"PursesByLotModel", "even", "(I)I"⟩, prog_12_method_42_code, 3, (some .int), { frames := 3, cells := 0, slots := 0, locals := 78 }, [], 10, 0, 1, 1082)
def zm148 : ZM := (⟨"PursesByLotModel", "later", "(II)I"⟩, prog_12_method_43_code, 4, (some .int), { frames := 2, cells := 0, slots := 0, locals := 46 }, [], 10, 0, 2, 1086)
def zm149 : ZM := (⟨"PursesByLotModel", "hair", "(IIII)I"⟩, prog_12_method_44_code, 7, (some .int), { frames := 3, cells := 0, slots := 0, locals := 78 }, [], 10, 0, 4, 1091)
def zm150 : ZM := (⟨"PursesByLotModel", "golden", "(IIIII)I"⟩, prog_12_method_45_code, 10, (some .int), { frames := 2, cells := 0, slots := 0, locals := 56 }, [], 10, 0, 5, 1096)
def zm151 : ZM := (⟨"PursesByLotModel", "year", "(I)I"⟩, prog_12_method_47_code, 2, (some .int), { frames := 3, cells := 0, slots := 0, locals := 85 }, [], 10, 0, 1, 1102)
def zm152 : ZM := (⟨"PursesByLotModel", "goes", "(IIZ)I"⟩, prog_12_method_46_code, 10, (some .int), { frames := 2, cells := 0, slots := 0, locals := 56 }, [], 10, 0, 3, 1106)
def zm153 : ZM := (⟨"PursesByLotModel", "writer", "(II)I"⟩, prog_12_method_48_code, 3, (some .int), { frames := 1, cells := 0, slots := 0, locals := 25 }, [], 10, 0, 2, 1110)
def zm154 : ZM := (⟨"PursesByLotModel", "now", "(I)I"⟩, prog_12_method_49_code, 2, (some .int), { frames := 0, cells := 0, slots := 0, locals := 0 }, [], 10, 0, 1, 1115)
def zm155 : ZM := (⟨"PursesByLotModel", "having", "(II)I"⟩, prog_12_method_51_code, 6, (some .int), { frames := 3, cells := 0, slots := 0, locals := 85 }, [], 10, 0, 2, 1119)
def zm156 : ZM := (⟨"PursesByLotModel", "copies", "(II)V"⟩, prog_12_method_50_code, 4, none, { frames := 0, cells := 0, slots := 0, locals := 0 }, [], 10, 0, 2, 1124)
def zm157 : ZM := (⟨"PursesByLotModel", "keep", "()I"⟩, prog_12_method_52_code, 1, (some .int), { frames := 1, cells := 0, slots := 0, locals := 23 }, [], 10, 0, 0, 1128)
def zm158 : ZM := (⟨"PursesByLotModel", "back", "()I"⟩, prog_12_method_53_code, 1, (some .int), { frames := 1, cells := 0, slots := 0, locals := 23 }, [], 10, 0, 0, 1132)
def zm159 : ZM := (⟨"PursesByLotModel", "count", "(I)I"⟩, prog_12_method_54_code, 4, (some .int), { frames := 0, cells := 0, slots := 0, locals := 0 }, [], 10, 0, 1, 1136)
def zms : List ZM := [zm0, zm1, zm2, zm3, zm4, zm5, zm6, zm7, zm8, zm9, zm10, zm11, zm12, zm13, zm14, zm15, zm16, zm17, zm18, zm19, zm20, zm21, zm22, zm23, zm24, zm25, zm26, zm27, zm28, zm29, zm30, zm31, zm32, zm33, zm34, zm35, zm36, zm37, zm38, zm39, zm40, zm41, zm42, zm43, zm44, zm45, zm46, zm47, zm48, zm49, zm50, zm51, zm52, zm53, zm54, zm55, zm56, zm57, zm58, zm59, zm60, zm61, zm62, zm63, zm64, zm65, zm66, zm67, zm68, zm69, zm70, zm71, zm72, zm73, zm74, zm75, zm76, zm77, zm78, zm79, zm80, zm81, zm82, zm83, zm84, zm85, zm86, zm87, zm88, zm89, zm90, zm91, zm92, zm93, zm94, zm95, zm96, zm97, zm98, zm99, zm100, zm101, zm102, zm103, zm104, zm105, zm106, zm107, zm108, zm109, zm110, zm111, zm112, zm113, zm114, zm115, zm116, zm117, zm118, zm119, zm120, zm121, zm122, zm123, zm124, zm125, zm126, zm127, zm128, zm129, zm130, zm131, zm132, zm133, zm134, zm135, zm136, zm137, zm138, zm139, zm140, zm141, zm142, zm143, zm144, zm145, zm146, zm147, zm148, zm149, zm150, zm151, zm152, zm153, zm154, zm155, zm156, zm157, zm158, zm159]
def zm (y : Nat) : ZM := zms.getD y zm0
def mN (y : Nat) : MethodName := (zm y).1
def mB (y : Nat) : ByteArray := (zm y).2.1
def mL (y : Nat) : Nat := (zm y).2.2.1
def mR (y : Nat) : Option FieldType := (zm y).2.2.2.1
def mRm (y : Nat) : Room := (zm y).2.2.2.2.1
def mLs (y : Nat) : List Nat := (zm y).2.2.2.2.2.1
def mC (y : Nat) : Nat := (zm y).2.2.2.2.2.2.1
def mSt (y : Nat) : Nat := (zm y).2.2.2.2.2.2.2.1
def mPn (y : Nat) : Nat := (zm y).2.2.2.2.2.2.2.2.1
def mCp (y : Nat) : Nat := (zm y).2.2.2.2.2.2.2.2.2
/-- field links: class and index to (class number, field, nest, place of the word) -/
def zfl : List ((Nat × Nat) × (Nat × Nat × Bool × Nat)) := [((0, 9), (0, 5, false, 347)), ((0, 19), (0, 4, false, 346)), ((0, 23), (2, 0, true, 256)), ((0, 61), (0, 3, false, 344)), ((0, 64), (0, 2, false, 342)), ((0, 67), (0, 0, false, 338)), ((0, 70), (0, 1, false, 340)), ((1, 14), (4, 1, true, 114)), ((1, 34), (1, 0, false, 128)), ((1, 37), (1, 1, false, 129)), ((1, 51), (1, 2, false, 132)), ((1, 54), (1, 3, false, 134)), ((1, 57), (1, 4, false, 136)), ((2, 9), (2, 1, false, 258)), ((2, 15), (2, 2, false, 259)), ((2, 18), (2, 3, false, 260)), ((2, 21), (2, 0, false, 254)), ((2, 31), (5, 0, true, 155)), ((2, 36), (5, 3, true, 163)), ((2, 49), (5, 1, true, 159)), ((2, 60), (5, 4, true, 167)), ((3, 7), (3, 0, false, 323)), ((3, 13), (3, 1, false, 325)), ((4, 9), (4, 0, false, 111)), ((4, 15), (4, 1, false, 112)), ((5, 9), (5, 1, false, 158)), ((5, 15), (5, 2, false, 161)), ((5, 18), (5, 3, false, 162)), ((5, 21), (5, 5, false, 169)), ((5, 24), (5, 6, false, 170)), ((5, 27), (5, 7, false, 171)), ((5, 30), (5, 11, false, 178)), ((5, 34), (5, 14, false, 182)), ((5, 37), (5, 0, false, 154)), ((5, 40), (5, 4, false, 166)), ((5, 43), (5, 8, false, 173)), ((5, 46), (5, 9, false, 175)), ((5, 49), (5, 10, false, 176)), ((5, 52), (5, 12, false, 180)), ((5, 55), (5, 13, false, 181)), ((5, 64), (5, 15, false, 184)), ((5, 67), (1, 0, true, 127)), ((5, 72), (1, 1, true, 130)), ((5, 75), (1, 2, true, 131)), ((5, 78), (1, 3, true, 133)), ((5, 81), (1, 4, true, 135)), ((6, 9), (6, 5, false, 285)), ((6, 15), (6, 6, false, 286)), ((6, 18), (5, 8, true, 172)), ((6, 30), (6, 0, false, 276)), ((6, 31), (5, 9, true, 174)), ((6, 34), (6, 1, false, 278)), ((6, 35), (5, 10, true, 177)), ((6, 38), (6, 2, false, 280)), ((6, 39), (6, 4, false, 284)), ((6, 64), (6, 3, false, 282)), ((7, 7), (2, 0, true, 255)), ((7, 23), (7, 0, false, 308)), ((7, 26), (7, 1, false, 310)), ((8, 9), (8, 0, false, 226)), ((8, 15), (8, 1, false, 228)), ((8, 18), (8, 2, false, 230)), ((8, 22), (5, 14, true, 183)), ((8, 27), (8, 3, false, 232)), ((8, 31), (8, 4, false, 234)), ((8, 34), (5, 0, true, 157)), ((8, 37), (5, 3, true, 164)), ((8, 60), (5, 15, true, 185)), ((8, 63), (5, 1, true, 160)), ((9, 10), (9, 0, false, 361)), ((9, 19), (9, 1, false, 362)), ((9, 26), (9, 2, false, 363)), ((9, 30), (9, 3, false, 364)), ((9, 33), (9, 4, false, 365)), ((9, 40), (9, 5, false, 366)), ((9, 44), (9, 6, false, 367)), ((9, 47), (9, 7, false, 368)), ((9, 50), (9, 8, false, 369)), ((9, 53), (9, 9, false, 370)), ((9, 60), (9, 10, false, 371)), ((9, 64), (9, 11, false, 372)), ((9, 70), (9, 12, false, 373)), ((9, 77), (9, 13, false, 374)), ((9, 84), (9, 14, false, 375)), ((9, 91), (9, 15, false, 376)), ((9, 95), (9, 16, false, 377)), ((9, 102), (4, 1, true, 113)), ((9, 123), (5, 0, true, 156)), ((9, 136), (5, 3, true, 165)), ((9, 154), (2, 0, true, 257)), ((9, 186), (3, 0, true, 324)), ((9, 189), (3, 1, true, 326)), ((9, 196), (7, 1, true, 311)), ((9, 199), (7, 0, true, 309)), ((9, 205), (6, 2, true, 281)), ((9, 226), (6, 3, true, 283)), ((9, 232), (6, 1, true, 279)), ((9, 249), (5, 11, true, 179)), ((9, 252), (6, 0, true, 277)), ((9, 260), (0, 0, true, 339)), ((9, 263), (0, 1, true, 341)), ((9, 266), (0, 2, true, 343)), ((9, 269), (0, 3, true, 345)), ((9, 286), (8, 0, true, 227)), ((9, 289), (8, 1, true, 229)), ((9, 292), (8, 2, true, 231)), ((9, 296), (8, 3, true, 233)), ((9, 299), (8, 4, true, 235)), ((9, 310), (5, 4, true, 168)), ((10, 7), (10, 1, false, 813)), ((10, 13), (10, 4, false, 816)), ((10, 17), (10, 6, false, 818)), ((10, 20), (10, 7, false, 819)), ((10, 23), (10, 8, false, 820)), ((10, 26), (10, 10, false, 822)), ((10, 29), (10, 12, false, 824)), ((10, 32), (10, 13, false, 825)), ((10, 35), (10, 14, false, 826)), ((10, 38), (10, 16, false, 828)), ((10, 41), (10, 17, false, 829)), ((10, 44), (10, 18, false, 830)), ((10, 48), (10, 19, false, 831)), ((10, 51), (10, 20, false, 832)), ((10, 54), (10, 21, false, 833)), ((10, 57), (10, 22, false, 834)), ((10, 60), (10, 23, false, 835)), ((10, 63), (10, 24, false, 836)), ((10, 66), (10, 28, false, 840)), ((10, 69), (10, 29, false, 841)), ((10, 72), (10, 30, false, 842)), ((10, 81), (10, 0, false, 812)), ((10, 85), (10, 2, false, 814)), ((10, 101), (10, 3, false, 815)), ((10, 104), (10, 5, false, 817)), ((10, 119), (10, 9, false, 821)), ((10, 122), (10, 11, false, 823)), ((10, 125), (10, 15, false, 827)), ((10, 173), (10, 31, false, 843)), ((10, 177), (10, 32, false, 844)), ((10, 191), (10, 25, false, 837)), ((10, 194), (10, 26, false, 838)), ((10, 197), (10, 27, false, 839))]
def zml : List ((Nat × Nat) × (Nat × Bool × Nat)) := [((0, 15), (81, false, 695)), ((0, 29), (74, false, 702)), ((0, 35), (82, false, 703)), ((0, 39), (78, true, 707)), ((0, 45), (83, false, 708)), ((0, 49), (19, false, 699)), ((0, 55), (46, true, 700)), ((0, 58), (72, true, 701)), ((1, 9), (18, true, 436)), ((1, 20), (20, false, 443)), ((1, 26), (24, true, 460)), ((1, 30), (21, true, 447)), ((1, 40), (22, false, 451)), ((1, 43), (13, true, 455)), ((1, 47), (23, false, 456)), ((2, 25), (19, false, 536)), ((2, 39), (43, true, 537)), ((2, 45), (38, true, 541)), ((2, 52), (44, false, 542)), ((2, 56), (45, false, 546)), ((2, 63), (39, true, 545)), ((2, 67), (46, false, 577)), ((2, 70), (53, false, 578)), ((2, 73), (52, false, 593)), ((3, 16), (58, false, 598)), ((3, 22), (59, false, 601)), ((5, 58), (19, false, 440)), ((5, 84), (25, false, 464)), ((5, 88), (26, false, 468)), ((5, 91), (27, false, 472)), ((5, 94), (28, false, 476)), ((5, 98), (29, false, 480)), ((5, 102), (30, false, 484)), ((5, 105), (31, false, 488)), ((6, 24), (55, false, 624)), ((6, 42), (46, true, 629)), ((6, 48), (67, false, 634)), ((6, 51), (65, false, 758)), ((6, 55), (66, false, 759)), ((6, 58), (57, true, 646)), ((6, 67), (72, true, 655)), ((6, 70), (74, false, 663)), ((6, 73), (73, false, 670)), ((7, 13), (51, false, 570)), ((7, 19), (52, true, 573)), ((8, 40), (43, false, 720)), ((8, 44), (96, false, 764)), ((8, 48), (77, false, 768)), ((8, 54), (55, false, 769)), ((9, 9), (3, true, 107)), ((9, 18), (4, true, 123)), ((9, 25), (5, true, 150)), ((9, 39), (6, true, 222)), ((9, 59), (7, true, 250)), ((9, 69), (8, true, 272)), ((9, 76), (9, true, 304)), ((9, 83), (10, true, 319)), ((9, 90), (11, true, 334)), ((9, 98), (13, false, 417)), ((9, 105), (14, true, 420)), ((9, 109), (17, true, 432)), ((9, 113), (33, true, 496)), ((9, 117), (19, false, 500)), ((9, 126), (35, false, 505)), ((9, 130), (36, false, 509)), ((9, 133), (37, false, 513)), ((9, 139), (38, true, 516)), ((9, 143), (39, true, 520)), ((9, 147), (41, false, 528)), ((9, 150), (42, true, 532)), ((9, 157), (46, true, 550)), ((9, 160), (48, false, 558)), ((9, 164), (49, false, 562)), ((9, 168), (50, true, 566)), ((9, 172), (55, false, 586)), ((9, 178), (56, true, 589)), ((9, 182), (57, true, 594)), ((9, 192), (61, true, 608)), ((9, 202), (63, false, 616)), ((9, 208), (65, true, 625)), ((9, 212), (66, true, 630)), ((9, 215), (53, true, 641)), ((9, 218), (69, true, 642)), ((9, 222), (71, true, 651)), ((9, 229), (73, true, 659)), ((9, 235), (75, true, 666)), ((9, 240), (77, false, 676)), ((9, 245), (78, true, 682)), ((9, 256), (80, true, 691)), ((9, 272), (85, true, 716)), ((9, 276), (88, false, 729)), ((9, 279), (90, false, 737)), ((9, 282), (93, false, 750)), ((9, 302), (100, true, 782)), ((9, 306), (102, false, 790)), ((9, 313), (105, true, 802)), ((9, 317), (64, true, 620)), ((9, 321), (91, true, 741)), ((9, 324), (72, true, 745)), ((9, 327), (94, true, 754)), ((9, 330), (95, true, 760)), ((10, 77), (108, false, 917)), ((10, 94), (112, false, 932)), ((10, 98), (113, false, 939)), ((10, 107), (114, false, 943)), ((10, 111), (111, false, 928)), ((10, 115), (110, false, 951)), ((10, 130), (117, false, 956)), ((10, 134), (118, false, 960)), ((10, 137), (119, false, 964)), ((10, 140), (120, false, 968)), ((10, 144), (125, false, 988)), ((10, 148), (126, false, 992)), ((10, 151), (122, false, 976)), ((10, 154), (123, false, 980)), ((10, 158), (124, false, 984)), ((10, 162), (130, false, 1006)), ((10, 166), (131, false, 1010)), ((10, 169), (132, false, 1014)), ((10, 184), (128, false, 999)), ((10, 187), (134, false, 1024)), ((10, 200), (127, false, 995)), ((10, 205), (137, false, 1037)), ((10, 208), (138, false, 1041)), ((10, 211), (141, false, 1053)), ((10, 214), (142, false, 1057)), ((10, 218), (145, false, 1070)), ((10, 222), (144, false, 1066)), ((10, 235), (152, false, 1103)), ((10, 243), (156, false, 1121)), ((11, 9), (1, false, 99)), ((11, 12), (106, false, 808)), ((11, 15), (12, false, 413)), ((11, 19), (107, false, 912)), ((11, 20), (15, false, 424)), ((11, 24), (109, false, 920)), ((11, 25), (16, false, 428)), ((11, 28), (110, false, 924)), ((11, 29), (32, false, 492)), ((11, 32), (115, false, 947)), ((11, 33), (34, false, 501)), ((11, 37), (116, false, 952)), ((11, 38), (40, false, 524)), ((11, 41), (121, false, 972)), ((11, 42), (47, false, 554)), ((11, 46), (129, false, 1002)), ((11, 47), (54, false, 582)), ((11, 51), (133, false, 1018)), ((11, 52), (60, false, 604)), ((11, 55), (135, false, 1028)), ((11, 56), (62, false, 612)), ((11, 60), (136, false, 1032)), ((11, 61), (68, false, 637)), ((11, 64), (139, false, 1045)), ((11, 65), (70, false, 647)), ((11, 68), (140, false, 1049)), ((11, 69), (76, false, 671)), ((11, 72), (143, false, 1061)), ((11, 73), (79, false, 686)), ((11, 76), (146, false, 1074)), ((11, 77), (84, false, 712)), ((11, 81), (147, false, 1079)), ((11, 82), (86, false, 721)), ((11, 86), (148, false, 1083)), ((11, 87), (87, false, 725)), ((11, 90), (149, false, 1088)), ((11, 91), (89, false, 733)), ((11, 94), (150, false, 1093)), ((11, 95), (92, false, 746)), ((11, 98), (151, false, 1099)), ((11, 99), (97, false, 770)), ((11, 102), (153, false, 1107)), ((11, 103), (98, false, 774)), ((11, 106), (154, false, 1112)), ((11, 107), (99, false, 778)), ((11, 110), (155, false, 1116)), ((11, 111), (101, false, 786)), ((11, 114), (157, false, 1125)), ((11, 115), (103, false, 794)), ((11, 118), (158, false, 1129)), ((11, 119), (104, false, 798)), ((11, 122), (159, false, 1133))]
def zol : List ((Nat × Nat) × Nat) := [((0, 3), 337), ((1, 3), 126), ((2, 3), 253), ((3, 1), 322), ((4, 3), 110), ((5, 3), 153), ((6, 3), 275), ((7, 1), 307), ((8, 3), 225), ((9, 1), 102), ((10, 1), 811)]
def zcl : List ((Nat × Nat) × (Nat × Nat)) := [((9, 7), (4, 105)), ((9, 16), (1, 121)), ((9, 23), (5, 148)), ((9, 37), (8, 220)), ((9, 57), (2, 248)), ((9, 67), (6, 270)), ((9, 74), (7, 302)), ((9, 81), (3, 317)), ((9, 88), (0, 332)), ((11, 7), (9, 97)), ((11, 10), (10, 806))]
def zki : List ((Nat × Nat) × (Int32 × Nat)) := [((9, 239), ((-1000000 : Int32), 675)), ((9, 255), ((-1000002 : Int32), 690)), ((10, 221), ((-1000000 : Int32), 1065)), ((10, 226), ((-1000002 : Int32), 1078)), ((12, 265), ((1431655765 : Int32), 679)), ((12, 266), ((858993459 : Int32), 680)), ((12, 267), ((252645135 : Int32), 681))]
def zkl : List ((Nat × Nat) × (Int64 × Nat)) := [((10, 75), ((8 : Int64), 916)), ((10, 88), ((48 : Int64), 936)), ((10, 90), ((57 : Int64), 937)), ((10, 92), ((3 : Int64), 938)), ((10, 128), ((99 : Int64), 967)), ((10, 180), ((24 : Int64), 1022)), ((10, 182), ((2 : Int64), 1023)), ((10, 203), ((9999 : Int64), 1036)), ((10, 227), ((999 : Int64), 1087)), ((10, 229), ((12 : Int64), 1092)), ((10, 231), ((23 : Int64), 1097)), ((10, 233), ((100 : Int64), 1098)), ((10, 239), ((7 : Int64), 1111)), ((10, 241), ((30 : Int64), 1120)), ((11, 13), ((4294967295 : Int64), 1137))]
end
section
-- an interpreter of the claim's code over plain data: cells by number, no tables; part 04, 05 tie it to the machine
/-- a cell: an array (kind, length, contents), or an object (number of its class, fields) -/
abbrev zC : Type := (FieldType × Nat × (Nat → Int32)) ⊕ (Nat × List Value)
abbrev zH : Type := Nat → zC
/-- how many cells there are; cells and slots that the running method has made -/
abbrev zN : Type := Nat × Nat × Nat
abbrev zL : Type := List (Option Value)
/-- method, place, locals, stack, counts, heap -/
abbrev zF : Type := Nat × Nat × zL × List Value × zN × zH
abbrev zR : Type := Option Value × Nat × zH
/-- what an instruction does: goes on; calls (and goes on with the answer); returns; none: the interpreter has no word on it -/
abbrev zA : Type := Option (zF ⊕ ((zF × (zR → zF)) ⊕ zR))
def zdead : zC := .inr (1000, [])
def zgo (y pc : Nat) (L : zL) (st : List Value) (w : zN) (h : zH) : zA := some (.inl (y, pc, L, st, w, h))
def zif (b : Bool) (a : zA) : zA := if b = true then a else none
def zjmp (pc : Nat) (off : Int) (f : Nat → zA) : zA := if 0 ≤ (pc : Int) + off then f ((pc : Int) + off).toNat else none
/-- a store into a local spoils no long before it -/
def zst (y i : Nat) : Bool := decide (i < mL y) && (mLs y).all (fun j => j + 1 != i)
def zcw (st : List Value) : Nat := (st.map fun v => v.category).sum
/-- a value for a field of a type -/
def zfit (ty : FieldType) (v : Value) : Bool := match ty, v with
  | .int, .int _ => true
  | .long, .long _ => true
  | .boolean, .int x => x == 0 || x == 1
  | .object _, .ref _ => true
  | .array _, .ref _ => true
  | _, _ => false
def zTT (ci : Nat) : u_T := match zcls[ci]? with
  | some q => q.2.1
  | none => zt0
def zTn (ci : Nat) : Nat := match zcls[ci]? with
  | some q => q.2.2
  | none => 0
/-- a final field is put in a constructor of its own class alone -/
def zfin (y : Nat) (f : Nat × Nat × Bool × Nat) : Bool := !(zTT f.1 f.2.1).2.2.2 || (!f.2.2.1 && (mN y).name == "<init>" && (zTT f.1 f.2.1).1 == zcn.getD (mC y) "")
def zfl? (c i : Nat) : Option (Nat × Nat × Bool × Nat) := zfl.lookup (c, i)
def zml? (c i : Nat) : Option (Nat × Bool × Nat) := zml.lookup (c, i)
def zol? (c i : Nat) : Option Nat := zol.lookup (c, i)
def zcl? (c i : Nat) : Option (Nat × Nat) := zcl.lookup (c, i)
def zki? (c i : Nat) : Option (Int32 × Nat) := zki.lookup (c, i)
def zkl? (c i : Nat) : Option (Int64 × Nat) := zkl.lookup (c, i)
/-- the locals at a method's entry: arguments, a long takes two places -/
def zargs : List Value → zL
  | [] => []
  | v :: l => if v.category = 2 then some v :: none :: zargs l else some v :: zargs l
def zentry (z : Nat) (as : List Value) : zL := zargs as ++ List.replicate (mL z - (zargs as).length) none
/-- longs stand where the table says -/
def zlok (z : Nat) (L : zL) : Bool := (List.range L.length).all fun i => match L[i]? with
  | some (some v) => v.category != 2 || (mLs z).contains i
  | _ => true
/-- a call of z with arguments as (the first is the deepest), rest below -/
def zcall (y pc : Nat) (L : zL) (rest : List Value) (w : zN) (h : zH) (z : Nat) (as : List Value) : zA :=
  if decide (zcw rest ≤ 8) && decide ((mRm z).frames + 1 ≤ (mRm y).frames) && decide (8 + (mL z + 11) + (mRm z).locals ≤ (mRm y).locals) && decide (w.2.1 + (mRm z).cells ≤ (mRm y).cells) && decide (w.2.2 + (mRm z).slots ≤ (mRm y).slots) && decide ((zargs as).length ≤ mL z) && zlok z (zentry z as) && decide (z ≠ 0) && decide (z ≠ 2) && decide (z < 160) = true then
    some (.inr (.inl ((z, 0, zentry z as, [], (w.1, 0, 0), h), fun r => (y, pc + 3, L, r.1.toList ++ rest, (r.2.1, w.2.1 + (mRm z).cells, w.2.2 + (mRm z).slots), r.2.2))))
  else none
def zld (y pc len : Nat) (L : zL) (st : List Value) (w : zN) (h : zH) (v : Option Value) : zA := match v with
  | some v => zgo y (pc + len) L (v :: st) w h
  | none => none
def zint (L : zL) (i : Nat) : Option Value := match L[i]? with
  | some (some (.int x)) => some (.int x)
  | _ => none
def zlong (L : zL) (i : Nat) : Option Value := match L[i]? with
  | some (some (.long x)) => some (.long x)
  | _ => none
def zref (L : zL) (i : Nat) : Option Value := match L[i]? with
  | some (some (.ref x)) => some (.ref x)
  | some (some (.retAddr x)) => some (.retAddr x)
  | _ => none
def zist (y pc len : Nat) (L : zL) (st : List Value) (w : zN) (h : zH) (i : Nat) : zA := match st with
  | .int x :: st => zif (zst y i) (zgo y (pc + len) (L.set i (some (.int x))) st w h)
  | _ => none
def zast (y pc len : Nat) (L : zL) (st : List Value) (w : zN) (h : zH) (i : Nat) : zA := match st with
  | .ref x :: st => zif (zst y i) (zgo y (pc + len) (L.set i (some (.ref x))) st w h)
  | _ => none
def zlst (y pc len : Nat) (L : zL) (st : List Value) (w : zN) (h : zH) (i : Nat) : zA := match st with
  | .long x :: st => zif (zst y i && decide (i + 1 < mL y) && (mLs y).contains i) (zgo y (pc + len) ((L.set i (some (.long x))).set (i + 1) none) st w h)
  | _ => none
def zi2 (y pc : Nat) (L : zL) (st : List Value) (w : zN) (h : zH) (f : Int32 → Int32 → Int32) : zA := match st with
  | .int b :: .int a :: st => zgo y (pc + 1) L (.int (f a b) :: st) w h
  | _ => none
def zl2 (y pc : Nat) (L : zL) (st : List Value) (w : zN) (h : zH) (f : Int64 → Int64 → Int64) : zA := match st with
  | .long b :: .long a :: st => zgo y (pc + 1) L (.long (f a b) :: st) w h
  | _ => none
def zbr (y pc : Nat) (L : zL) (st : List Value) (w : zN) (h : zH) (c : Prop) [Decidable c] (off : Int) : zA :=
  zjmp pc off (fun t => if c then zgo y t L st w h else zgo y (pc + 3) L st w h)
def zcond1 (c : Jvm.ClassFile.Cond) (x : Int32) : Bool := match c with
  | .eq => decide (x = 0)
  | .ne => decide (¬ x = 0)
  | .lt => decide (x < 0)
  | .ge => decide (0 ≤ x)
  | .gt => decide (0 < x)
  | .le => decide (x ≤ 0)
def zcond2 (c : Jvm.ClassFile.Cond) (x y : Int32) : Bool := match c with
  | .eq => decide (x = y)
  | .ne => decide (¬ x = y)
  | .lt => decide (x < y)
  | .ge => decide (y ≤ x)
  | .gt => decide (y < x)
  | .le => decide (x ≤ y)
def zI (X : Nat × (Nat → Int32)) (y pc : Nat) (L : zL) (st : List Value) (w : zN) (h : zH) (i : Instr) (len : Nat) : zA :=
  match i with
  | .iconst n => zif (len == 1) (zgo y (pc + 1) L (.int (Int32.ofInt n) :: st) w h)
  | .bipush n => zif (len == 2) (zgo y (pc + 2) L (.int (Int8.ofInt n).toInt32 :: st) w h)
  | .sipush n => zif (len == 3) (zgo y (pc + 3) L (.int (Int16.ofInt n).toInt32 :: st) w h)
  | .lconst n => zif (len == 1) (zgo y (pc + 1) L (.long (Int64.ofNat n) :: st) w h)
  | .ldc k => zif (len == 2) (match zki? (mC y) k with
    | some v => zgo y (pc + 2) L (.int v.1 :: st) w h
    | none => none)
  | .ldc_w k => zif (len == 3) (match zki? (mC y) k with
    | some v => zgo y (pc + 3) L (.int v.1 :: st) w h
    | none => none)
  | .ldc2_w k => zif (len == 3) (match zkl? (mC y) k with
    | some v => zgo y (pc + 3) L (.long v.1 :: st) w h
    | none => none)
  | .iload_n k => zif (len == 1) (zld y pc 1 L st w h (zint L k))
  | .iload k => zif (len == 2) (zld y pc 2 L st w h (zint L k))
  | .lload_n k => zif (len == 1) (zld y pc 1 L st w h (zlong L k))
  | .lload k => zif (len == 2) (zld y pc 2 L st w h (zlong L k))
  | .aload_n k => zif (len == 1) (zld y pc 1 L st w h (zref L k))
  | .aload k => zif (len == 2) (zld y pc 2 L st w h (zref L k))
  | .istore_n k => zif (len == 1) (zist y pc 1 L st w h k)
  | .istore k => zif (len == 2) (zist y pc 2 L st w h k)
  | .lstore k => zif (len == 2) (zlst y pc 2 L st w h k)
  | .astore_n k => zif (len == 1) (zast y pc 1 L st w h k)
  | .iinc k n => zif (len == 3) (match L[k]? with
    | some (some (.int x)) => zif (zst y k) (zgo y (pc + 3) (L.set k (some (.int (x + Int32.ofInt n)))) st w h)
    | _ => none)
  | .iadd => zif (len == 1) (zi2 y pc L st w h (fun a b => a + b))
  | .isub => zif (len == 1) (zi2 y pc L st w h (fun a b => a - b))
  | .imul => zif (len == 1) (zi2 y pc L st w h (fun a b => a * b))
  | .iand => zif (len == 1) (zi2 y pc L st w h (fun a b => a &&& b))
  | .ior => zif (len == 1) (zi2 y pc L st w h (fun a b => a ||| b))
  | .ixor => zif (len == 1) (zi2 y pc L st w h (fun a b => a ^^^ b))
  | .ishl => zif (len == 1) (zi2 y pc L st w h (fun a b => a <<< (b &&& 31)))
  | .ishr => zif (len == 1) (zi2 y pc L st w h (fun a b => a >>> (b &&& 31)))
  | .iushr => zif (len == 1) (zi2 y pc L st w h (fun a b => (a.toUInt32 >>> (b.toUInt32 &&& Int32.toUInt32 31)).toInt32))
  | .idiv => zif (len == 1) (match st with
    | .int b :: .int a :: st => if b = 0 then none else zgo y (pc + 1) L (.int (a / b) :: st) w h
    | _ => none)
  | .irem => zif (len == 1) (match st with
    | .int b :: .int a :: st => if b = 0 then none else zgo y (pc + 1) L (.int (a - a / b * b) :: st) w h
    | _ => none)
  | .ineg => zif (len == 1) (match st with
    | .int a :: st => zgo y (pc + 1) L (.int (-a) :: st) w h
    | _ => none)
  | .ladd => zif (len == 1) (zl2 y pc L st w h (fun a b => a + b))
  | .lmul => zif (len == 1) (zl2 y pc L st w h (fun a b => a * b))
  | .land => zif (len == 1) (zl2 y pc L st w h (fun a b => a &&& b))
  | .lor => zif (len == 1) (zl2 y pc L st w h (fun a b => a ||| b))
  | .ldiv => zif (len == 1) (match st with
    | .long b :: .long a :: st => if b = 0 then none else zgo y (pc + 1) L (.long (a / b) :: st) w h
    | _ => none)
  | .lrem => zif (len == 1) (match st with
    | .long b :: .long a :: st => if b = 0 then none else zgo y (pc + 1) L (.long (a - a / b * b) :: st) w h
    | _ => none)
  | .lneg => zif (len == 1) (match st with
    | .long a :: st => zgo y (pc + 1) L (.long (-a) :: st) w h
    | _ => none)
  | .lshl => zif (len == 1) (match st with
    | .int b :: .long a :: st => zgo y (pc + 1) L (.long (a <<< (b.toInt64 &&& 63)) :: st) w h
    | _ => none)
  | .lshr => zif (len == 1) (match st with
    | .int b :: .long a :: st => zgo y (pc + 1) L (.long (a >>> (b.toInt64 &&& 63)) :: st) w h
    | _ => none)
  | .lcmp => zif (len == 1) (match st with
    | .long b :: .long a :: st => zgo y (pc + 1) L (.int (lg_cmp a b) :: st) w h
    | _ => none)
  | .i2l => zif (len == 1) (match st with
    | .int a :: st => zgo y (pc + 1) L (.long a.toInt64 :: st) w h
    | _ => none)
  | .l2i => zif (len == 1) (match st with
    | .long a :: st => zgo y (pc + 1) L (.int a.toInt32 :: st) w h
    | _ => none)
  | .i2b => zif (len == 1) (match st with
    | .int a :: st => zgo y (pc + 1) L (.int a.toInt8.toInt32 :: st) w h
    | _ => none)
  | .dup => zif (len == 1) (match st with
    | a :: st => zif (a.category == 1) (zgo y (pc + 1) L (a :: a :: st) w h)
    | _ => none)
  | .dup2 => zif (len == 1) (match st with
    | a :: b :: st => zif (a.category == 1 && b.category == 1) (zgo y (pc + 1) L (a :: b :: a :: b :: st) w h)
    | _ => none)
  | .pop => zif (len == 1) (match st with
    | a :: st => zif (a.category == 1) (zgo y (pc + 1) L st w h)
    | _ => none)
  | .ifCond c off => zif (len == 3) (match st with
    | .int x :: st => zbr y pc L st w h (zcond1 c x = true) off
    | _ => none)
  | .if_icmp c off => zif (len == 3) (match st with
    | .int b :: .int a :: st => zbr y pc L st w h (zcond2 c a b = true) off
    | _ => none)
  | .goto off => zif (len == 3) (zjmp pc off (fun t => zgo y t L st w h))
  | .tableswitch d lo hi offs => match st with
    | .int x :: st => if x.toInt < lo ∨ hi < x.toInt then zjmp pc d (fun t => zgo y t L st w h) else
      match offs[(x.toInt - lo).toNat]? with
      | some off => zjmp pc off (fun t => zgo y t L st w h)
      | none => none
    | _ => none
  | .getfield k => zif (len == 3) (match zfl? (mC y) k, st with
    | some f, .ref a :: st => match h a with
      | .inr (c, fs) => if c = f.1 then match fs[f.2.1]? with
        | some v => zgo y (pc + 3) L (v :: st) w h
        | none => none
        else none
      | .inl _ => none
    | _, _ => none)
  | .putfield k => zif (len == 3) (match zfl? (mC y) k, st with
    | some f, v :: .ref a :: st => match h a with
      | .inr (c, fs) => zif (decide (c = f.1) && decide (f.2.1 < fs.length) && zfit (zty f.1 f.2.1) v && zfin y f) (zgo y (pc + 3) L st w (va_up h a (.inr (c, fs.set f.2.1 v))))
      | .inl _ => none
    | _, _ => none)
  | .iaload => zif (len == 1) (match st with
    | .int i :: .ref a :: st => match h a with
      | .inl (ty, n, f) => if ty = .int ∧ ¬ (i < 0 ∨ n ≤ i.toNatClampNeg) then zgo y (pc + 1) L (.int (f i.toNatClampNeg) :: st) w h else none
      | .inr _ => none
    | .int i :: .retAddr _ :: st => if y = 0 ∧ ¬ (i < 0 ∨ X.1 ≤ i.toNatClampNeg) then zgo y (pc + 1) L (.int (X.2 i.toNatClampNeg) :: st) w h else none
    | _ => none)
  | .baload => zif (len == 1) (match st with
    | .int i :: .ref a :: st => match h a with
      | .inl (ty, n, f) => if (ty = .byte ∨ ty = .boolean) ∧ ¬ (i < 0 ∨ n ≤ i.toNatClampNeg) then zgo y (pc + 1) L (.int (f i.toNatClampNeg) :: st) w h else none
      | .inr _ => none
    | _ => none)
  | .iastore => zif (len == 1) (match st with
    | .int x :: .int i :: .ref a :: st => match h a with
      | .inl (ty, n, f) => if ty = .int ∧ ¬ (i < 0 ∨ n ≤ i.toNatClampNeg) then zgo y (pc + 1) L st w (va_up h a (.inl (ty, n, upd f i.toNatClampNeg x))) else none
      | .inr _ => none
    | _ => none)
  | .bastore => zif (len == 1) (match st with
    | .int x :: .int i :: .ref a :: st => match h a with
      | .inl (ty, n, f) => if (ty = .byte ∨ ty = .boolean) ∧ ¬ (i < 0 ∨ n ≤ i.toNatClampNeg) then zgo y (pc + 1) L st w (va_up h a (.inl (ty, n, upd f i.toNatClampNeg (vp_nar ty x)))) else none
      | .inr _ => none
    | _ => none)
  | .arraylength => zif (len == 1) (match st with
    | .ref a :: st => match h a with
      | .inl (_, n, _) => zgo y (pc + 1) L (.int (Int32.ofNat n) :: st) w h
      | .inr _ => none
    | .retAddr _ :: st => if y = 0 then zgo y (pc + 1) L (.int (Int32.ofNat X.1) :: st) w h else none
    | _ => none)
  | .new k => zif (len == 3) (match zcl? (mC y) k with
    | some c => zif (decide (w.2.1 + 1 ≤ (mRm y).cells) && decide (w.2.2 + (zdf c.1).length ≤ (mRm y).slots)) (zgo y (pc + 3) L (.ref w.1 :: st) (w.1 + 1, w.2.1 + 1, w.2.2 + (zdf c.1).length) (va_up h w.1 (.inr (c.1, zdf c.1))))
    | none => none)
  | .newarray t => zif (len == 2) (match st with
    | .int n :: st => zif ((newarray.typeOf t == .int || newarray.typeOf t == .byte || newarray.typeOf t == .boolean) && decide (¬ n < 0) && decide (n.toNatClampNeg ≤ 1000) && decide (w.2.1 + 1 ≤ (mRm y).cells) && decide (w.2.2 + n.toNatClampNeg ≤ (mRm y).slots))
      (zgo y (pc + 2) L (.ref w.1 :: st) (w.1 + 1, w.2.1 + 1, w.2.2 + n.toNatClampNeg) (va_up h w.1 (.inl (newarray.typeOf t, n.toNatClampNeg, fun _ => 0))))
    | _ => none)
  | .invokestatic k => zif (len == 3) (match zml? (mC y) k with
    | some z => zif (decide (mSt z.1 = 1) && decide (mPn z.1 ≤ st.length)) (zcall y pc L (st.drop (mPn z.1)) w h z.1 (st.take (mPn z.1)).reverse)
    | none => none)
  | .invokevirtual k => zif (len == 3) (match zml? (mC y) k, st.drop ((zml? (mC y) k).elim 0 (fun z => mPn z.1)) with
    | some z, .ref a :: rest => match h a with
      | .inr (c, _) => zif (decide (mSt z.1 = 0) && decide (c = mC z.1) && decide ((mN z.1).name ≠ "<init>")) (zcall y pc L rest w h z.1 (.ref a :: (st.take (mPn z.1)).reverse))
      | .inl _ => none
    | _, _ => none)
  | .invokespecial k => zif (len == 3) (match zml? (mC y) k, st with
    | some z, .ref a :: rest => zif (decide (mSt z.1 = 0) && decide (mPn z.1 = 0) && decide ((mN z.1).name = "<init>")) (zcall y pc L rest w h z.1 [.ref a])
    | none, .ref _ :: rest => match zol? (mC y) k with
      | some _ => zif (decide (1 ≤ (mRm y).frames) && decide (zcw rest + 12 ≤ (mRm y).locals)) (zgo y (pc + 3) L rest w h)
      | none => none
    | _, _ => none)
  | .ireturn => zif (len == 1) (match st with
    | [.int x] => zif (mR y == some .int || (mR y == some .boolean && (x == 0 || x == 1))) (some (.inr (.inr (some (.int x), w.1, h))))
    | _ => none)
  | .areturn => zif (len == 1) (match st with
    | [.ref a] => zif (match mR y with
      | some (.object _) => true
      | _ => false) (some (.inr (.inr (some (.ref a), w.1, h))))
    | _ => none)
  | .return_ => zif (len == 1) (match st with
    | [] => zif (mR y == none) (some (.inr (.inr (none, w.1, h))))
    | _ => none)
  | _ => none
def zS (X : Nat × (Nat → Int32)) (c : zF) : zA := match decode (mB c.1) c.2.1 with
  | .ok (i, len) => zI X c.1 c.2.1 c.2.2.1 c.2.2.2.1 c.2.2.2.2.1 c.2.2.2.2.2 i len
  | .error _ => none
def zrun (X : Nat × (Nat → Int32)) : Nat → zF → Option zR
  | 0, _ => none
  | n + 1, c => match zS X c with
    | none => none
    | some (.inl c') => zrun X n c'
    | some (.inr (.inl (c1, k))) => match zrun X n c1 with
      | none => none
      | some r => zrun X n (k r)
    | some (.inr (.inr r)) => some r
/-- from here the interpreter comes to a return, with Q -/
def zE (X : Nat × (Nat → Int32)) (y pc : Nat) (L : zL) (st : List Value) (w : zN) (h : zH) (Q : Option Value → Nat → zH → Prop) : Prop := ∃ (n : Nat) (r : zR), zrun X n (y, pc, L, st, w, h) = some r ∧ Q r.1 r.2.1 r.2.2
theorem zrun_mono (X : Nat × (Nat → Int32)) : ∀ (n : Nat) (c : zF) (r : zR), zrun X n c = some r → zrun X (n + 1) c = some r := by
  intro n
  induction n with
  | zero => intro c r h; simp [zrun] at h
  | succ n ih =>
    intro c r h
    rw [zrun] at h ⊢
    split at h
    · cases h
    · next c' e => exact ih _ _ h
    · next c1 k e =>
      split at h
      · cases h
      · next r1 e1 => rw [ih _ _ e1]; exact ih _ _ h
    · exact h
theorem zrun_le (X : Nat × (Nat → Int32)) {n k : Nat} (hk : n ≤ k) {c : zF} {r : zR} (h : zrun X n c = some r) : zrun X k c = some r := by
  induction hk with
  | refl => exact h
  | step _ ih => exact zrun_mono X _ _ _ ih
section ZE
variable {X : Nat × (Nat → Int32)} {y pc : Nat} {L : zL} {st : List Value} {w : zN} {h : zH} {Q : Option Value → Nat → zH → Prop}
theorem zE_go {y' pc' : Nat} {L' : zL} {st' : List Value} {w' : zN} {h' : zH} (e : zS X (y, pc, L, st, w, h) = zgo y' pc' L' st' w' h') : zE X y pc L st w h Q = zE X y' pc' L' st' w' h' Q := by
  apply propext
  constructor
  · rintro ⟨n, r, h1, h2⟩
    cases n with
    | zero => simp [zrun] at h1
    | succ n => rw [zrun, e] at h1; exact ⟨n, r, h1, h2⟩
  · rintro ⟨n, r, h1, h2⟩
    exact ⟨n + 1, r, by rw [zrun, e]; exact h1, h2⟩
theorem zE_ret {r : zR} (e : zS X (y, pc, L, st, w, h) = some (.inr (.inr r))) : zE X y pc L st w h Q = Q r.1 r.2.1 r.2.2 := by
  apply propext
  constructor
  · rintro ⟨n, r', h1, h2⟩
    cases n with
    | zero => simp [zrun] at h1
    | succ n => rw [zrun, e] at h1; cases h1; exact h2
  · intro h2
    exact ⟨1, r, by rw [zrun, e], h2⟩
theorem zE_none (e : zS X (y, pc, L, st, w, h) = none) : zE X y pc L st w h Q = False := by
  apply propext
  constructor
  · rintro ⟨n, r', h1, h2⟩
    cases n with
    | zero => simp [zrun] at h1
    | succ n => rw [zrun, e] at h1; cases h1
  · exact False.elim
theorem zE_call {y1 pc1 : Nat} {L1 : zL} {st1 : List Value} {w1 : zN} {h1 : zH} {y2 pc2 : Nat} {L2 : zL} {st2 : zR → List Value} {w2 : zR → zN} {h2 : zR → zH} (e : zS X (y, pc, L, st, w, h) = some (.inr (.inl ((y1, pc1, L1, st1, w1, h1), fun r => (y2, pc2, L2, st2 r, w2 r, h2 r))))) :
    zE X y pc L st w h Q = zE X y1 pc1 L1 st1 w1 h1 (fun v N' h' => zE X y2 pc2 L2 (st2 (v, N', h')) (w2 (v, N', h')) (h2 (v, N', h')) Q) := by
  apply propext
  constructor
  · rintro ⟨n, r, g1, g2⟩
    cases n with
    | zero => simp [zrun] at g1
    | succ n =>
      rw [zrun, e] at g1
      dsimp only at g1
      split at g1
      · cases g1
      · next r1 e1 => exact ⟨n, r1, e1, n, r, g1, g2⟩
  · rintro ⟨n, r1, g1, k, r, g2, g3⟩
    refine ⟨max n k + 1, r, ?_, g3⟩
    rw [zrun, e]
    dsimp only
    rw [zrun_le X (Nat.le_max_left n k) g1]
    exact zrun_le X (Nat.le_max_right n k) g2
end ZE
end
section
-- the interpreter's heap as a world of the machine
def zrv (b base : Nat) : Value → Value
  | .ref i => .ref (base + i)
  | .retAddr _ => .ref b
  | v => v
theorem zrv_cat (b base : Nat) (v : Value) : (zrv b base v).category = v.category := by cases v <;> rfl
def zce (b base : Nat) (ca : FieldType → ClassId) : zC → va_E
  | .inl (ty, n, f) => .inl (ca ty, n, .inl f)
  | .inr (c, fs) => .inr (c, fs.map (zrv b base))
def zrw (b base : Nat) (ca : FieldType → ClassId) (N : Nat) (h : zH) : va_W := (List.range N).map (fun i => (base + i, zce b base ca (h i)))
theorem zrw_at {b base : Nat} {ca : FieldType → ClassId} {N : Nat} {h : zH} {i : Nat} (hi : i < N) : (zrw b base ca N h)[i]? = some (base + i, zce b base ca (h i)) := by
  simp [zrw, hi]
theorem zrw_len {b base : Nat} {ca : FieldType → ClassId} {N : Nat} {h : zH} : (zrw b base ca N h).length = N := by simp [zrw]
theorem zrw_inv {b base : Nat} {ca : FieldType → ClassId} {N : Nat} {h : zH} {i : Nat} {q : Nat × va_E} (hq : (zrw b base ca N h)[i]? = some q) : i < N ∧ q = (base + i, zce b base ca (h i)) := by
  have hi : i < N := by
    have := (List.getElem?_eq_some_iff.mp hq).1
    rwa [zrw_len] at this
  rw [zrw_at hi] at hq
  exact ⟨hi, (Option.some.inj hq).symm⟩
theorem zrw_set {b base : Nat} {ca : FieldType → ClassId} {N : Nat} {h : zH} {i : Nat} {c : zC} (hi : i < N) : (zrw b base ca N h).set i (base + i, zce b base ca c) = zrw b base ca N (va_up h i c) := by
  apply List.ext_getElem?
  intro j
  by_cases hj : j < N
  · rw [zrw_at hj]
    by_cases hij : i = j
    · subst hij
      rw [List.getElem?_set_self (by rw [zrw_len]; exact hi), va_up_self]
    · rw [List.getElem?_set_ne hij, zrw_at hj, va_up_ne _ _ (fun e => hij e.symm)]
  · rw [List.getElem?_eq_none (by rw [List.length_set, zrw_len]; omega), List.getElem?_eq_none (by rw [zrw_len]; omega)]
theorem zrw_push {b base : Nat} {ca : FieldType → ClassId} {N : Nat} {h : zH} {c : zC} : zrw b base ca N h ++ [(base + N, zce b base ca c)] = zrw b base ca (N + 1) (va_up h N c) := by
  apply List.ext_getElem?
  intro j
  by_cases hj : j < N
  · rw [List.getElem?_append_left (by rw [zrw_len]; exact hj), zrw_at hj, zrw_at (by omega), va_up_ne _ _ (by omega)]
  · by_cases hj2 : j = N
    · subst hj2
      rw [List.getElem?_append_right (by rw [zrw_len]; omega), zrw_len, Nat.sub_self, zrw_at (by omega), va_up_self]
      rfl
    · rw [List.getElem?_eq_none (by simp [zrw_len]; omega), List.getElem?_eq_none (by rw [zrw_len]; omega)]
theorem zrw_D (b base : Nat) (ca : FieldType → ClassId) (N : Nat) (h : zH) : va_D (fun q => base ≤ q) (zrw b base ca N h) := by
  refine ⟨fun i j p q hi hj e => ?_, fun k q hk => ?_⟩
  · obtain ⟨-, rfl⟩ := zrw_inv hi
    obtain ⟨-, rfl⟩ := zrw_inv hj
    dsimp only at e
    omega
  · obtain ⟨-, rfl⟩ := zrw_inv hk
    exact Nat.le_add_right _ _
/-- words of the tables that hold in every state of the run -/
def ztw : Cond → Bool
  | .fieldLinkNest .. => true
  | .methodLinkNest .. => true
  | w => w.onTables && w.keeps
def zT (U : State) : Prop := ∀ w ∈ lw_tbl, ztw w = true → va_Nw w U
theorem ztw_on {w : Cond} (h : ztw w = true) : w.onTables = true := by
  cases w <;> first | rfl | (simp only [ztw, Bool.and_eq_true] at h; exact h.1)
theorem zT.same {u U : State} (h : u.vm = U.vm) (hT : zT u) : zT U := fun w hw hk => va_Nw.same (ztw_on hk) h (hT w hw hk)
theorem zT.warm {s U : State} (hW : s.WarmedH U.vm) (hT : zT s) : zT U := by
  intro w hw hk
  have h0 := hT w hw hk
  by_cases hn : (w.onTables && w.keeps) = true
  · exact word_at hW (Or.inl hn) h0
  · cases w <;> first | exact va_Nw.warmF hW h0 | exact va_Nw.warmM hW h0 | exact absurd hk hn
theorem zT.use {w : Cond} {s : State} (hT : zT s) (hw : w ∈ lw_tbl) (hk : ztw w = true) (a : Array Value) : w.before a s = true := va_Nw.use (ztw_on hk) (hT w hw hk)
/-- the array classes -/
def zK (ca : FieldType → ClassId) (U : State) : Prop := ∀ ty, ty = FieldType.int ∨ ty = .byte ∨ ty = .boolean → ArrOfT U (ca ty) ty ∧ va_RA U (ca ty) ty
theorem zK.moved {ca : FieldType → ClassId} {u U : State} (hvm : u.vm.Alike U.vm) (h : zK ca u) : zK ca U := fun ty hy => ⟨arrOfT_moved hvm (h ty hy).1, (h ty hy).2.moved hvm⟩
/-- the world: the cells stand in the heap, one behind another from base on; nothing lies behind them -/
def zW (D : va_G) (b base : Nat) (ca : FieldType → ClassId) (N : Nat) (h : zH) (U : State) (H : Heap) : Prop :=
  va_P D zcls (zrw b base ca N h) H ∧ va_K D zcls [] U ∧ zK ca U ∧ H.size = base + N ∧ (∀ i, N ≤ i → h i = zdead) ∧ ∀ i ty n f, h i = .inl (ty, n, f) → ty = FieldType.int ∨ ty = .byte ∨ ty = .boolean
theorem zW.moved {D : va_G} {b base : Nat} {ca : FieldType → ClassId} {N : Nat} {h : zH} {u U : State} {H : Heap} (hvm : u.vm.Alike U.vm) (hw : zW D b base ca N h u H) : zW D b base ca N h U H := ⟨hw.1, va_K.moved hvm hw.2.1, hw.2.2.1.moved hvm, hw.2.2.2⟩
theorem zW.arr_lt {D : va_G} {b base : Nat} {ca : FieldType → ClassId} {N : Nat} {h : zH} {U : State} {H : Heap} (hw : zW D b base ca N h U H) {i : Nat} {a : FieldType × Nat × (Nat → Int32)} (ha : h i = .inl a) : i < N := by
  rcases Nat.lt_or_ge i N with q | q
  · exact q
  · have := hw.2.2.2.2.1 i q
    rw [ha] at this
    cases this
theorem zW.obj_lt {D : va_G} {b base : Nat} {ca : FieldType → ClassId} {N : Nat} {h : zH} {U : State} {H : Heap} (hw : zW D b base ca N h U H) {i c : Nat} {fs : List Value} (ha : h i = .inr (c, fs)) (hc : c ≠ 1000) : i < N := by
  rcases Nat.lt_or_ge i N with q | q
  · exact q
  · have := hw.2.2.2.2.1 i q
    rw [ha] at this
    cases this
    exact absurd rfl hc
theorem zW.arr {D : va_G} {b base : Nat} {ca : FieldType → ClassId} {N : Nat} {h : zH} {U : State} {H : Heap} (hw : zW D b base ca N h U H) {i n : Nat} {ty : FieldType} {f : Nat → Int32} (ha : h i = .inl (ty, n, f)) : (zrw b base ca N h)[i]? = some (base + i, .inl (ca ty, n, .inl f)) ∧ va_K D zcls [(ca ty, ty)] U := by
  refine ⟨by rw [zrw_at (hw.arr_lt ha), ha]; rfl, hw.2.1.1, fun k q hk => ?_⟩
  have hk0 : k < 1 := (List.getElem?_eq_some_iff.mp hk).1
  rw [show k = 0 by omega] at hk
  cases hk
  exact hw.2.2.1 ty (hw.2.2.2.2.2 i ty n f ha)
theorem zW.obj {D : va_G} {b base : Nat} {ca : FieldType → ClassId} {N : Nat} {h : zH} {U : State} {H : Heap} (hw : zW D b base ca N h U H) {i c : Nat} {fs : List Value} (ha : h i = .inr (c, fs)) (hc : c ≠ 1000) : (zrw b base ca N h)[i]? = some (base + i, .inr (c, fs.map (zrv b base))) := by
  rw [zrw_at (hw.obj_lt ha hc), ha]; rfl
/-- a cell is written -/
theorem zW.put {D : va_G} {b base : Nat} {ca : FieldType → ClassId} {N : Nat} {h : zH} {U : State} {H H1 : Heap} (hw : zW D b base ca N h U H) {i : Nat} {c : zC} (hi : i < N) (hc : ∀ ty n f, c = .inl (ty, n, f) → ty = FieldType.int ∨ ty = .byte ∨ ty = .boolean) (hz : H1.size = H.size) (hP : va_P D zcls ((zrw b base ca N h).set i (base + i, zce b base ca c)) H1) : zW D b base ca N (va_up h i c) U H1 := by
  rw [zrw_set hi] at hP
  refine ⟨hP, hw.2.1, hw.2.2.1, by rw [hz]; exact hw.2.2.2.1, fun j hj => ?_, fun j ty n f hj => ?_⟩
  · rw [va_up_ne _ _ (by omega)]; exact hw.2.2.2.2.1 j hj
  · by_cases hji : j = i
    · subst hji; rw [va_up_self] at hj; exact hc ty n f hj
    · rw [va_up_ne _ _ hji] at hj; exact hw.2.2.2.2.2 j ty n f hj
/-- a cell is made -/
theorem zW.push {D : va_G} {b base : Nat} {ca : FieldType → ClassId} {N : Nat} {h : zH} {U : State} {H H1 : Heap} (hw : zW D b base ca N h U H) {c : zC} (hc : ∀ ty n f, c = .inl (ty, n, f) → ty = FieldType.int ∨ ty = .byte ∨ ty = .boolean) (hz : H1.size = H.size + 1) (hP : va_P D zcls (zrw b base ca N h ++ [(base + N, zce b base ca c)]) H1) : zW D b base ca (N + 1) (va_up h N c) U H1 := by
  rw [zrw_push] at hP
  refine ⟨hP, hw.2.1, hw.2.2.1, by rw [hz, hw.2.2.2.1]; omega, fun j hj => ?_, fun j ty n f hj => ?_⟩
  · rw [va_up_ne _ _ (by omega)]; exact hw.2.2.2.2.1 j (by omega)
  · by_cases hji : j = N
    · subst hji; rw [va_up_self] at hj; exact hc ty n f hj
    · rw [va_up_ne _ _ hji] at hj; exact hw.2.2.2.2.2 j ty n f hj
/-- the locals that are known, as the kit's rows have them -/
def zlv (b base : Nat) (L : zL) : List (Nat × Value) := (List.range L.length).filterMap (fun i => match L[i]? with
  | some (some v) => some (i, zrv b base v)
  | _ => none)
theorem zlv_mem {b base : Nat} {L : zL} {q : Nat × Value} : q ∈ zlv b base L ↔ ∃ v, L[q.1]? = some (some v) ∧ q.2 = zrv b base v := by
  unfold zlv
  rw [List.mem_filterMap]
  constructor
  · rintro ⟨i, hi, h⟩
    split at h
    · next v hv => cases h; exact ⟨v, hv, rfl⟩
    · cases h
  · rintro ⟨v, hv, hq⟩
    refine ⟨q.1, List.mem_range.mpr (List.getElem?_eq_some_iff.mp hv).1, ?_⟩
    rw [hv]
    simp [← hq]
theorem zlv_get {b base nL : Nat} {L : zL} {ls : Array Slot} (hl : lv_has ls nL (zlv b base L)) {i : Nat} {v : Value} (hv : L[i]? = some (some v)) : ls[i]? = some (.val (zrv b base v)) := hl.2.2 (i, zrv b base v) (zlv_mem.mpr ⟨v, hv, rfl⟩)
theorem zlv_of {nL : Nat} {ls : Array Slot} {l l' : List (Nat × Value)} (h : lv_has ls nL l) (hs : ∀ q ∈ l', q ∈ l) : lv_has ls nL l' := ⟨h.1, h.2.1, fun q hq => h.2.2 q (hs q hq)⟩
/-- no long stands where the method's table has none -/
def zlt (y : Nat) (L : zL) : Prop := ∀ i v, L[i]? = some (some v) → v.category = 2 → i ∈ mLs y
theorem zst_spec {y i : Nat} (h : zst y i = true) : i < mL y ∧ ∀ j ∈ mLs y, j + 1 ≠ i := by
  simp only [zst, Bool.and_eq_true, decide_eq_true_eq, List.all_eq_true, bne_iff_ne] at h
  exact h
theorem zset1 {b base y i : Nat} {L : zL} {v : Value} (hv : v.category = 1) (hL : zlt y L) (hs : zst y i = true) : (∀ q ∈ zlv b base (L.set i (some v)), q ∈ (i, zrv b base v) :: (zlv b base L).filter (fun q => !(q.1 == i) && !(q.1 + 1 == i && q.2.category == 2))) ∧ zlt y (L.set i (some v)) := by
  refine ⟨fun q hq => ?_, fun j u hj hu => ?_⟩
  · obtain ⟨u, h1, h2⟩ := zlv_mem.mp hq
    by_cases hqi : q.1 = i
    · have hlt : q.1 < L.length := by
        have := (List.getElem?_eq_some_iff.mp h1).1
        rwa [List.length_set] at this
      rw [hqi] at h1 hlt
      rw [List.getElem?_set_self hlt] at h1
      cases h1
      have : q = (i, zrv b base v) := by rw [← hqi, ← h2]
      rw [this]; exact List.mem_cons_self
    · rw [List.getElem?_set_ne (fun e => hqi e.symm)] at h1
      refine List.mem_cons_of_mem _ (List.mem_filter.mpr ⟨zlv_mem.mpr ⟨u, h1, h2⟩, ?_⟩)
      have h3 : ¬ (q.1 + 1 = i ∧ q.2.category = 2) := fun ⟨e1, e2⟩ => by
        rw [h2, zrv_cat] at e2
        exact (zst_spec hs).2 _ (hL _ _ h1 e2) e1
      have h4 : (q.1 + 1 == i && q.2.category == 2) = false := by
        rw [Bool.eq_false_iff]; intro h; simp only [Bool.and_eq_true, beq_iff_eq] at h; exact h3 h
      simp [hqi, h4]
  · by_cases hji : j = i
    · subst hji
      have hlt : j < L.length := by
        have := (List.getElem?_eq_some_iff.mp hj).1
        rwa [List.length_set] at this
      rw [List.getElem?_set_self hlt] at hj
      cases hj
      omega
    · rw [List.getElem?_set_ne (fun e => hji e.symm)] at hj
      exact hL j u hj hu
theorem zset2 {b base y i : Nat} {L : zL} {v : Value} (hL : zlt y L) (hs : zst y i = true) (hi : i ∈ mLs y) : (∀ q ∈ zlv b base ((L.set i (some v)).set (i + 1) none), q ∈ (i, zrv b base v) :: (zlv b base L).filter (fun q => !(q.1 == i) && (!(q.1 == i + 1) && !(q.1 + 1 == i && q.2.category == 2)))) ∧ zlt y ((L.set i (some v)).set (i + 1) none) := by
  have key : ∀ j u, ((L.set i (some v)).set (i + 1) none)[j]? = some (some u) → j ≠ i + 1 ∧ ((j = i ∧ u = v) ∨ (j ≠ i ∧ L[j]? = some (some u))) := by
    intro j u hj
    by_cases h1 : j = i + 1
    · subst h1
      have hlt : i + 1 < (L.set i (some v)).length := by
        have := (List.getElem?_eq_some_iff.mp hj).1
        rwa [List.length_set] at this
      rw [List.getElem?_set_self hlt] at hj
      cases hj
    · rw [List.getElem?_set_ne (fun e => h1 e.symm)] at hj
      refine ⟨h1, ?_⟩
      by_cases h2 : j = i
      · subst h2
        have hlt : j < L.length := by
          have := (List.getElem?_eq_some_iff.mp hj).1
          rwa [List.length_set] at this
        rw [List.getElem?_set_self hlt] at hj
        cases hj
        exact Or.inl ⟨rfl, rfl⟩
      · rw [List.getElem?_set_ne (fun e => h2 e.symm)] at hj
        exact Or.inr ⟨h2, hj⟩
  refine ⟨fun q hq => ?_, fun j u hj hu => ?_⟩
  · obtain ⟨u, h1, h2⟩ := zlv_mem.mp hq
    obtain ⟨k1, ⟨k2, k3⟩ | ⟨k2, k3⟩⟩ := key _ _ h1
    · subst k3
      have : q = (i, zrv b base u) := by rw [← k2, ← h2]
      rw [this]; exact List.mem_cons_self
    · refine List.mem_cons_of_mem _ (List.mem_filter.mpr ⟨zlv_mem.mpr ⟨u, k3, h2⟩, ?_⟩)
      have h3 : ¬ (q.1 + 1 = i ∧ q.2.category = 2) := fun ⟨e1, e2⟩ => by
        rw [h2, zrv_cat] at e2
        exact (zst_spec hs).2 _ (hL _ _ k3 e2) e1
      have h4 : (q.1 + 1 == i && q.2.category == 2) = false := by
        rw [Bool.eq_false_iff]; intro h; simp only [Bool.and_eq_true, beq_iff_eq] at h; exact h3 h
      simp [k2, k1, h4]
  · obtain ⟨k1, ⟨k2, k3⟩ | ⟨k2, k3⟩⟩ := key _ _ hj
    · rw [k2]; exact hi
    · exact hL j u k3 hu
end
section
-- rows of stores and of makings that also tell the heap's size
section ZVA
variable {p : Program} {l : Launch} {e : Env} {R : Room} {s : State} {m : MethodId} {args : Array Value} {below : List Frame} {meth : Method} {c : Code} {H : Heap} {locs : List Loc} {cells slots : Nat} {Q : State → Prop}
variable {cc : ByteArray} {pc : Nat} {ls : Array Slot} {rest : List Value} {D : va_G} {cl : List vw_C} {A : Nat → Prop} {a : Nat} {tys : List (ClassId × FieldType)} {ws : va_W} {H0 : Heap}
theorem zput (nest : Bool) (hexec : p.tables.exec = Jvm.exec) (hb : c.code = cc) {own C host : String} {T : u_T} {N ci index : Nat} {Ts : List Cond} (hts : ∀ w ∈ Ts, w.before args s = true) (hin : ∀ w ∈ u_ws C T N, w ∈ Ts) (ty0 : Nat → FieldType) (hty : ∀ k, k < N → parseFieldDescriptor (T k).2.2.1 = some (ty0 k)) (hnm : ∀ a, a < N → ∀ b, b < N → a ≠ b → (T a).2.1 ≠ (T b).2.1) (hown : s.vm.findClass own = some m.cls) (hK : va_K D cl tys s) (hP : va_P D cl ws H) (hD : va_D A ws) (hS0 : va_S A H0 H locs) (q0 : Nat) {fs : List Value} (he : ws[q0]? = some (a, .inr (ci, fs))) (hc : cl[ci]? = some (C, T, N)) (k : Nat) (hk : k < N)
    (hlink : (if nest = true then Cond.fieldLinkNest own index (T k).1 (T k).2.1 (T k).2.2.1 host else Cond.fieldLink own index (T k).1 (T k).2.1 (T k).2.2.1).before args s = true)
    (hfin : (T k).2.2.2 = false ∨ (nest = false ∧ (T k).2.2.2 = true ∧ meth.name = "<init>" ∧ (T k).1 = own)) {v : Value} (hn : narrow (ty0 k) v = v) (hfit : fits (ty0 k) v = true) (hl : k < fs.length)
    (hdg : decode cc pc = .ok (.putfield index, 3)) (kk : ∀ (H1 : Heap) (locs1 : List Loc), H1.size = H.size → va_P D cl (ws.set q0 (a, .inr (ci, fs.set k v))) H1 → va_S A H0 H1 locs1 → W p l e R s m args below meth c H1 locs1 cells slots Q (F0 m (pc + 3) ls rest)) : W p l e R s m args below meth c H locs cells slots Q (F0 m pc ls (v :: .ref a :: rest)) := by
  have hap := va_apart (own := own) hts hin ty0 hty hnm hK hc
  have hd := hty k hk
  obtain ⟨r, h1, cell, q1, q2, q3, q4⟩ := hP q0 _ he
  have hr : r = (C, T, N) := Option.some.inj (h1.symm.trans hc)
  subst hr
  obtain ⟨hS, hfc, kC, hkC, hkind⟩ := hK.1 ci _ hc
  obtain ⟨cf, kf, fi, f, hi, hsl⟩ := hS k hk
  have hlay := hts _ (hin _ (u_in_lay hk))
  unfold u_lay at hlay
  have hst := (u_facts hfc hkC (u_lays hts hin hk) hi).1
  have fin : ∀ H' : Heap, H'[a]? = some (cell.setSlot f.slot v) → H'.size = H.size → (∀ q, q ≠ a → H'[q]? = H[q]?) → W p l e R s m args below meth c H' (locs ++ [⟨a, f.slot⟩]) cells slots Q (F0 m (pc + 3) ls rest) := by
    intro H' e1 e2 e3
    rw [hsl] at e1 ⊢
    exact kk H' _ e2 (hP.set hD he ⟨_, hc, t_OB.to (V := updV (vp_V fs) k v) ⟨_, e1, q2, q3, t_set q4 hap hk v⟩ (fun j _ => vp_updV_set hl v j)⟩ e3) (hS0.put e2 e3 (hD.2 q0 _ he))
  rcases hfin with hfin | ⟨hne, hfin, hin2, hdecl⟩
  · rw [if_neg (by rw [hfin]; decide)] at hlay
    have h6 := u_store hfc hkC hkind hlay hi hd hn hfit
    cases nest with
    | true =>
      rw [if_pos rfl] at hlink
      exact va_WputK hexec hb (f := f) hown hlink hi hst (by rw [q2]; exact h6) q1 q3 (by rw [hsl]; exact k2_hasslot (q4 k hk)) rfl rfl hdg fin
    | false =>
      rw [if_neg (by decide)] at hlink
      exact W.putK hexec hb (f := f) ⟨hown, hlink, ⟨_, _, _, hi⟩, hst⟩ (by rw [q2]; exact h6) q1 q3 (by rw [hsl]; exact k2_hasslot (q4 k hk)) rfl rfl hdg fin
  · subst hne
    rw [if_neg (by decide)] at hlink
    rw [if_pos hfin] at hlay
    have hcf : m.cls = cf := by
      obtain ⟨_, _, c', _, _, _, -, -, hf', -, -, -, hown2, -⟩ := Cond.laysFinal_spec hlay
      have e1 : c' = cf := by have := hi.symm.trans hf'; simp at this; exact this.1.symm
      rw [hdecl] at hown2
      rw [← e1]; exact Option.some.inj (hown.symm.trans hown2)
    have h6 := u_fits hfc hkC hkind (Or.inr hlay) hi hd hn hfit
    exact W.putFinK hexec hb hown hlink hi hst hcf hin2 (by rw [q2]; exact h6) q1 q3 (by rw [hsl]; exact k2_hasslot (q4 k hk)) rfl rfl hdg fin
theorem zarr_eq {cA : ClassId} {n : Nat} {f : Nat → Int32} {j : Nat} {x : Int32} : (vp_cell cA (n, .inl f)).setSlot j (.int x) = vp_cell cA (n, .inl (upd f j x)) := by
  rw [vp_cell_i, vp_cell_i, arrV_store]
  congr 1
  funext q
  by_cases hq : q = j
  · subst hq; simp [updV, upd]
  · simp [updV, upd, hq]
end ZVA
section ZVW
variable {p : Program} {l : Launch} {e : Env} {R : Room} {s : State} {m : MethodId} {args : Array Value} {below : List Frame} {meth : Method} {c : Code} {H : Heap} {locs : List Loc} {cells slots : Nat} {Q : State → Prop}
variable {cc : ByteArray} {pc : Nat} {ls : Array Slot} {rest : List Value} {D : va_G} {b base : Nat} {ca : FieldType → ClassId} {N : Nat} {h : zH}
/-- what a store into an array leaves -/
theorem zW.stored (hw : zW D b base ca N h s H) (hS : va_S (fun q => base ≤ q) s.heap H locs) {a n : Nat} {ty : FieldType} {f : Nat → Int32} (ha : h a = .inl (ty, n, f)) {j k : Nat} {x : Int32} {H1 : Heap} (e1 : H1[base + a]? = some ((vp_cell (ca ty) (n, .inl f)).setSlot j (.int x))) (e2 : H1.size = H.size) (e3 : ∀ q : Nat, q ≠ base + a → H1[q]? = H[q]?) :
    zW D b base ca N (va_up h a (.inl (ty, n, upd f j x))) s H1 ∧ va_S (fun q => base ≤ q) s.heap H1 (locs ++ [⟨base + a, k⟩]) := by
  obtain ⟨g1, -⟩ := hw.arr ha
  refine ⟨hw.put (hw.arr_lt ha) (fun ty' n' f' he => ?_) e2 (hw.1.set (zrw_D b base ca N h) g1 ?_ e3), hS.put e2 e3 (Nat.le_add_right _ _)⟩
  · cases he; exact hw.2.2.2.2.2 a _ _ _ ha
  · show H1[base + a]? = some (vp_cell (ca ty) (n, .inl (upd f j x)))
    rw [e1, zarr_eq]
theorem ziast (hexec : p.tables.exec = Jvm.exec) (hb : c.code = cc) (hw : zW D b base ca N h s H) (hS : va_S (fun q => base ≤ q) s.heap H locs) {a n : Nat} {f : Nat → Int32} (ha : h a = .inl (.int, n, f)) {i x : Int32} (hin : ¬ (i < 0 ∨ n ≤ i.toNatClampNeg)) (hdg : decode cc pc = .ok (.iastore, 1))
    (kk : ∀ (H1 : Heap) (locs1 : List Loc), zW D b base ca N (va_up h a (.inl (.int, n, upd f i.toNatClampNeg x))) s H1 → va_S (fun q => base ≤ q) s.heap H1 locs1 → W p l e R s m args below meth c H1 locs1 cells slots Q (F0 m (pc + 1) ls rest)) : W p l e R s m args below meth c H locs cells slots Q (F0 m pc ls (.int x :: .int i :: .ref (base + a) :: rest)) := by
  obtain ⟨g1, g2⟩ := hw.arr ha
  refine W.iast hexec hb (hw.1 a _ g1) ((g2.2 0 _ rfl).1 n (fun j => .int (f j))) (fun q => by cases q) (by show ¬ (i < 0 ∨ (arrV _ _ _).slots.size ≤ _); rw [arrV_size]; exact hin) rfl rfl hdg fun H1 e1 e2 e3 => ?_
  obtain ⟨k1, k2⟩ := hw.stored hS ha (k := i.toNatClampNeg) e1 e2 e3
  exact kk H1 _ k1 k2
theorem zbast (hexec : p.tables.exec = Jvm.exec) (hb : c.code = cc) (hw : zW D b base ca N h s H) (hS : va_S (fun q => base ≤ q) s.heap H locs) {a n : Nat} {ty : FieldType} {f : Nat → Int32} (hty : ty = .byte ∨ ty = .boolean) (ha : h a = .inl (ty, n, f)) {i x : Int32} (hin : ¬ (i < 0 ∨ n ≤ i.toNatClampNeg)) (hdg : decode cc pc = .ok (.bastore, 1))
    (kk : ∀ (H1 : Heap) (locs1 : List Loc), zW D b base ca N (va_up h a (.inl (ty, n, upd f i.toNatClampNeg (vp_nar ty x)))) s H1 → va_S (fun q => base ≤ q) s.heap H1 locs1 → W p l e R s m args below meth c H1 locs1 cells slots Q (F0 m (pc + 1) ls rest)) : W p l e R s m args below meth c H locs cells slots Q (F0 m pc ls (.int x :: .int i :: .ref (base + a) :: rest)) := by
  obtain ⟨g1, g2⟩ := hw.arr ha
  rcases hty with rfl | rfl
  · refine W.bast hexec hb (hw.1 a _ g1) ((g2.2 0 _ rfl).1 n (fun j => .int (f j))) (fun q => by cases q) (by show ¬ (i < 0 ∨ (arrV _ _ _).slots.size ≤ _); rw [arrV_size]; exact hin) rfl rfl hdg fun H1 e1 e2 e3 => ?_
    obtain ⟨k1, k2⟩ := hw.stored hS ha (x := vp_nar .byte x) (k := i.toNatClampNeg) e1 e2 e3
    exact kk H1 _ k1 k2
  · refine W.zast hexec hb (hw.1 a _ g1) ((g2.2 0 _ rfl).1 n (fun j => .int (f j))) (fun q => by cases q) (by show ¬ (i < 0 ∨ (arrV _ _ _).slots.size ≤ _); rw [arrV_size]; exact hin) rfl rfl hdg fun H1 e1 e2 e3 => ?_
    obtain ⟨k1, k2⟩ := hw.stored hS ha (x := vp_nar .boolean x) (k := i.toNatClampNeg) e1 e2 e3
    exact kk H1 _ k1 k2
theorem zpushed (hw : zW D b base ca N h s H) (hS : va_S (fun q => base ≤ q) s.heap H locs) {cl : zC} (hc : ∀ ty n f, cl = .inl (ty, n, f) → ty = FieldType.int ∨ ty = .byte ∨ ty = .boolean) {H1 : Heap} (e1 : va_at D zcls (H.size, zce b base ca cl) H1) (e2 : H1.size = H.size + 1) (e3 : ∀ q : Nat, q < H.size → H1[q]? = H[q]?) :
    zW D b base ca (N + 1) (va_up h N cl) s H1 ∧ va_S (fun q => base ≤ q) s.heap H1 locs := by
  have hk : ∀ (k : Nat) (x : Nat × va_E), (zrw b base ca N h)[k]? = some x → H1[x.1]? = H[x.1]? := fun k x hx => e3 x.1 ((hw.1 k x hx).lt)
  refine ⟨hw.push hc e2 ((hw.1.kept hk).app (fun k x hx => ?_)), ⟨Nat.le_trans hS.1 (by omega), fun x h1 h2 => (e3 x (Nat.lt_of_lt_of_le h1 hS.1)).trans (hS.2.1 x h1 h2), hS.2.2⟩⟩
  have hz : k < 1 := (List.getElem?_eq_some_iff.mp hx).1
  rw [show k = 0 by omega] at hx
  cases hx
  rw [← hw.2.2.2.1]
  exact e1
theorem znewa (hexec : p.tables.exec = Jvm.exec) (hb : c.code = cc) {atype : ArrayType} (hty : newarray.typeOf atype = FieldType.int ∨ newarray.typeOf atype = .byte ∨ newarray.typeOf atype = .boolean) (harr : (Cond.arrayClass (newarray.typeOf atype)).before args s = true) (hw : zW D b base ca N h s H) (hS : va_S (fun q => base ≤ q) s.heap H locs)
    {n : Int32} (hn : ¬ n < 0) (hsm : n.toNatClampNeg ≤ 1000) (hcells : cells + 1 ≤ R.cells) (hslots : slots + n.toNatClampNeg ≤ R.slots) (hdg : decode cc pc = .ok (.newarray atype, 2))
    (kk : ∀ (H1 : Heap), zW D b base ca (N + 1) (va_up h N (.inl (newarray.typeOf atype, n.toNatClampNeg, fun _ => 0))) s H1 → va_S (fun q => base ≤ q) s.heap H1 locs → W p l e R s m args below meth c H1 locs (cells + 1) (slots + n.toNatClampNeg) Q (F0 m (pc + 2) ls (.ref (base + N) :: rest))) : W p l e R s m args below meth c H locs cells slots Q (F0 m pc ls (.int n :: rest)) := by
  have hbytes : n.toNatClampNeg * componentBytes (newarray.typeOf atype) ≤ 536870912 := by
    have h8 : componentBytes (newarray.typeOf atype) ≤ 8 := by rcases hty with h | h | h <;> rw [h] <;> decide
    have := Nat.mul_le_mul hsm h8
    omega
  refine va_newaK hexec hb harr rfl hdg rfl hn rfl hbytes hcells hslots rfl fun H1 cA e1 z1 o1 hAr hNm => ?_
  have hca : ca (newarray.typeOf atype) = cA := by
    have h2 := (hw.2.2.1 _ hty).2
    have h3 : s.vm.findClass ("[" ++ (newarray.typeOf atype).toString) = some (ca (newarray.typeOf atype)) := by
      rcases hty with h | h | h <;> rw [h] at h2 ⊢ <;> exact h2
    exact Option.some.inj (h3.symm.trans hNm)
  have hat : va_at D zcls (H.size, zce b base ca (.inl (newarray.typeOf atype, n.toNatClampNeg, fun _ => 0))) H1 := by
    show H1[H.size]? = some (vp_cell (ca (newarray.typeOf atype)) (n.toNatClampNeg, .inl fun _ => 0))
    rw [e1, hca, vp_cell_i]
    congr 2
    rcases hty with h | h | h <;> rw [h] <;> rfl
  obtain ⟨k1, k2⟩ := zpushed hw hS (fun ty n f he => by cases he; exact hty) hat z1 o1
  rw [hw.2.2.2.1]
  exact kk H1 k1 k2
theorem znew (hexec : p.tables.exec = Jvm.exec) (hb : c.code = cc) {own C : String} {T : u_T} {M ci index : Nat} {Ts : List Cond} (hts : ∀ w ∈ Ts, w.before args s = true) (hin : ∀ w ∈ u_ws C T M, w ∈ Ts) (ty : Nat → FieldType) (hty : ∀ k, k < M → parseFieldDescriptor (T k).2.2.1 = some (ty k)) (hown : s.vm.findClass own = some m.cls) (hcl : (Cond.classLink own index C).before args s = true) (hinst : (Cond.instantiable C M).before args s = true) (hini : (Cond.initialized C).before args s = true)
    (hw : zW D b base ca N h s H) (hS : va_S (fun q => base ≤ q) s.heap H locs) (hc : zcls[ci]? = some (C, T, M)) {fs : List Value} (hfs : ∀ j, j < M → defaultValue (ty j) = vp_V (fs.map (zrv b base)) j) (hcells : cells + 1 ≤ R.cells) (hslots : slots + M ≤ R.slots) (hdg : decode cc pc = .ok (.new index, 3))
    (kk : ∀ (H1 : Heap), zW D b base ca (N + 1) (va_up h N (.inr (ci, fs))) s H1 → va_S (fun q => base ≤ q) s.heap H1 locs → W p l e R s m args below meth c H1 locs (cells + 1) (slots + M) Q (F0 m (pc + 3) ls (.ref (base + N) :: rest))) : W p l e R s m args below meth c H locs cells slots Q (F0 m pc ls rest) := by
  have hKn := hw.2.1.1 ci _ hc
  refine W.newcK hexec hb hown hcl hinst hini rfl hdg hcells hslots hKn.2.1 rfl fun H1 kC hkC e1 z1 o1 => ?_
  have hat : va_at D zcls (H.size, zce b base ca (.inr (ci, fs))) H1 := ⟨_, hc, (u_born ty hts hin hKn hkC e1 hty).to hfs⟩
  obtain ⟨k1, k2⟩ := zpushed hw hS (fun ty n f he => by cases he) hat z1 o1
  rw [hw.2.2.2.1]
  exact kk H1 k1 k2
end ZVW
end
section
-- static facts of the tables, written by wip/whole/gen06.py
theorem zlk {α β : Type} [BEq α] [LawfulBEq α] : ∀ (l : List (α × β)) (a : α) (b : β), l.lookup a = some b → (a, b) ∈ l
  | [], _, _, h => by cases h
  | (c, d) :: l, a, b, h => by
    rw [List.lookup_cons] at h
    split at h
    · next hb => cases h; rw [eq_of_beq hb]; exact List.mem_cons_self
    · exact List.mem_cons_of_mem _ (zlk l a b h)
def zfw (c i : Nat) (f : Nat × Nat × Bool × Nat) : Cond := if f.2.2.1 = true then .fieldLinkNest (zcn.getD c "") i (zTT f.1 f.2.1).1 (zTT f.1 f.2.1).2.1 (zTT f.1 f.2.1).2.2.1 "PursesByLot" else .fieldLink (zcn.getD c "") i (zTT f.1 f.2.1).1 (zTT f.1 f.2.1).2.1 (zTT f.1 f.2.1).2.2.1
theorem zfl_all : zfl.all (fun e => decide (lw_tbl[e.2.2.2.2]? = some (zfw e.1.1 e.1.2 e.2)) && ztw (zfw e.1.1 e.1.2 e.2) && decide (e.2.1 < 11) && decide (e.2.2.1 < zTn e.2.1)) = true := by decide +kernel
def zmw (c i : Nat) (z : Nat × Bool × Nat) : Cond := if z.2.1 = true then .methodLinkNest (zcn.getD c "") i (mN z.1) "PursesByLot" else .methodLink (zcn.getD c "") i (mN z.1)
theorem zml_all : zml.all (fun e => decide (lw_tbl[e.2.2.2]? = some (zmw e.1.1 e.1.2 e.2)) && ztw (zmw e.1.1 e.1.2 e.2)) = true := by decide +kernel
theorem zol_all : zol.all (fun e => decide (lw_tbl[e.2]? = some (Cond.methodLink (zcn.getD e.1.1 "") e.1.2 objectInit)) && ztw (Cond.methodLink (zcn.getD e.1.1 "") e.1.2 objectInit)) = true := by decide +kernel
theorem zcl_all : zcl.all (fun e => decide (lw_tbl[e.2.2]? = some (Cond.classLink (zcn.getD e.1.1 "") e.1.2 (zcn.getD e.2.1 ""))) && ztw (Cond.classLink (zcn.getD e.1.1 "") e.1.2 (zcn.getD e.2.1 "")) && decide (e.2.1 < 11)) = true := by decide +kernel
theorem zki_all : zki.all (fun e => decide (lw_tbl[e.2.2]? = some (Cond.constant (zcn.getD e.1.1 "") e.1.2 e.2.1)) && ztw (Cond.constant (zcn.getD e.1.1 "") e.1.2 e.2.1)) = true := by decide +kernel
theorem zkl_all : zkl.all (fun e => decide (lw_tbl[e.2.2]? = some (Cond.constantLong (zcn.getD e.1.1 "") e.1.2 e.2.1)) && ztw (Cond.constantLong (zcn.getD e.1.1 "") e.1.2 e.2.1)) = true := by decide +kernel
theorem zo1 : Cond.instanceMethod objectInit ∈ lw_tbl := List.mem_of_getElem? (i := 103) (by decide +kernel)
theorem zo2 : Cond.code objectInit ⟨#[0xb1]⟩ 1 none ∈ lw_tbl := List.mem_of_getElem? (i := 104) rfl
theorem zo3 : ztw (Cond.instanceMethod objectInit) = true := rfl
theorem zo4 : ztw (Cond.code objectInit ⟨#[0xb1]⟩ 1 none) = true := rfl
theorem za_int : Cond.arrayClass .int ∈ lw_tbl := List.mem_of_getElem? (i := 219) (by decide +kernel)
theorem za_byte : Cond.arrayClass .byte ∈ lw_tbl := List.mem_of_getElem? (i := 120) (by decide +kernel)
theorem za_boolean : Cond.arrayClass .boolean ∈ lw_tbl := List.mem_of_getElem? (i := 247) (by decide +kernel)
theorem zcw0 : ∀ w ∈ u_ws zr0 zt0 6, w ∈ lw_tbl ∧ ztw w = true := by
  have h : (u_ws zr0 zt0 6) = ([348, 350, 352, 354, 356, 358] : List Nat).filterMap (fun i => lw_tbl[i]?) := by decide +kernel
  have h2 : (u_ws zr0 zt0 6).all ztw = true := by decide +kernel
  intro w hw
  refine ⟨?_, List.all_eq_true.mp h2 w hw⟩
  rw [h] at hw
  obtain ⟨i, -, hi⟩ := List.mem_filterMap.mp hw
  exact List.mem_of_getElem? hi
theorem zcw1 : ∀ w ∈ u_ws zr1 zt1 5, w ∈ lw_tbl ∧ ztw w = true := by
  have h : (u_ws zr1 zt1 5) = ([137, 139, 141, 143, 145] : List Nat).filterMap (fun i => lw_tbl[i]?) := by decide +kernel
  have h2 : (u_ws zr1 zt1 5).all ztw = true := by decide +kernel
  intro w hw
  refine ⟨?_, List.all_eq_true.mp h2 w hw⟩
  rw [h] at hw
  obtain ⟨i, -, hi⟩ := List.mem_filterMap.mp hw
  exact List.mem_of_getElem? hi
theorem zcw2 : ∀ w ∈ u_ws zr2 zt2 4, w ∈ lw_tbl ∧ ztw w = true := by
  have h : (u_ws zr2 zt2 4) = ([261, 263, 265, 267] : List Nat).filterMap (fun i => lw_tbl[i]?) := by decide +kernel
  have h2 : (u_ws zr2 zt2 4).all ztw = true := by decide +kernel
  intro w hw
  refine ⟨?_, List.all_eq_true.mp h2 w hw⟩
  rw [h] at hw
  obtain ⟨i, -, hi⟩ := List.mem_filterMap.mp hw
  exact List.mem_of_getElem? hi
theorem zcw3 : ∀ w ∈ u_ws zr3 zt3 2, w ∈ lw_tbl ∧ ztw w = true := by
  have h : (u_ws zr3 zt3 2) = ([327, 329] : List Nat).filterMap (fun i => lw_tbl[i]?) := by decide +kernel
  have h2 : (u_ws zr3 zt3 2).all ztw = true := by decide +kernel
  intro w hw
  refine ⟨?_, List.all_eq_true.mp h2 w hw⟩
  rw [h] at hw
  obtain ⟨i, -, hi⟩ := List.mem_filterMap.mp hw
  exact List.mem_of_getElem? hi
theorem zcw4 : ∀ w ∈ u_ws zr4 zt4 2, w ∈ lw_tbl ∧ ztw w = true := by
  have h : (u_ws zr4 zt4 2) = ([115, 117] : List Nat).filterMap (fun i => lw_tbl[i]?) := by decide +kernel
  have h2 : (u_ws zr4 zt4 2).all ztw = true := by decide +kernel
  intro w hw
  refine ⟨?_, List.all_eq_true.mp h2 w hw⟩
  rw [h] at hw
  obtain ⟨i, -, hi⟩ := List.mem_filterMap.mp hw
  exact List.mem_of_getElem? hi
theorem zcw5 : ∀ w ∈ u_ws zr5 zt5 16, w ∈ lw_tbl ∧ ztw w = true := by
  have h : (u_ws zr5 zt5 16) = ([186, 188, 190, 192, 194, 196, 198, 200, 202, 204, 206, 208, 210, 212, 214, 216] : List Nat).filterMap (fun i => lw_tbl[i]?) := by decide +kernel
  have h2 : (u_ws zr5 zt5 16).all ztw = true := by decide +kernel
  intro w hw
  refine ⟨?_, List.all_eq_true.mp h2 w hw⟩
  rw [h] at hw
  obtain ⟨i, -, hi⟩ := List.mem_filterMap.mp hw
  exact List.mem_of_getElem? hi
theorem zcw6 : ∀ w ∈ u_ws zr6 zt6 7, w ∈ lw_tbl ∧ ztw w = true := by
  have h : (u_ws zr6 zt6 7) = ([287, 289, 291, 293, 295, 297, 299] : List Nat).filterMap (fun i => lw_tbl[i]?) := by decide +kernel
  have h2 : (u_ws zr6 zt6 7).all ztw = true := by decide +kernel
  intro w hw
  refine ⟨?_, List.all_eq_true.mp h2 w hw⟩
  rw [h] at hw
  obtain ⟨i, -, hi⟩ := List.mem_filterMap.mp hw
  exact List.mem_of_getElem? hi
theorem zcw7 : ∀ w ∈ u_ws zr7 zt7 2, w ∈ lw_tbl ∧ ztw w = true := by
  have h : (u_ws zr7 zt7 2) = ([312, 314] : List Nat).filterMap (fun i => lw_tbl[i]?) := by decide +kernel
  have h2 : (u_ws zr7 zt7 2).all ztw = true := by decide +kernel
  intro w hw
  refine ⟨?_, List.all_eq_true.mp h2 w hw⟩
  rw [h] at hw
  obtain ⟨i, -, hi⟩ := List.mem_filterMap.mp hw
  exact List.mem_of_getElem? hi
theorem zcw8 : ∀ w ∈ u_ws zr8 zt8 5, w ∈ lw_tbl ∧ ztw w = true := by
  have h : (u_ws zr8 zt8 5) = ([236, 238, 240, 242, 244] : List Nat).filterMap (fun i => lw_tbl[i]?) := by decide +kernel
  have h2 : (u_ws zr8 zt8 5).all ztw = true := by decide +kernel
  intro w hw
  refine ⟨?_, List.all_eq_true.mp h2 w hw⟩
  rw [h] at hw
  obtain ⟨i, -, hi⟩ := List.mem_filterMap.mp hw
  exact List.mem_of_getElem? hi
theorem zcw9 : ∀ w ∈ u_ws zr9 zt9 17, w ∈ lw_tbl ∧ ztw w = true := by
  have h : (u_ws zr9 zt9 17) = ([378, 380, 382, 384, 386, 388, 390, 392, 394, 396, 398, 400, 402, 404, 406, 408, 410] : List Nat).filterMap (fun i => lw_tbl[i]?) := by decide +kernel
  have h2 : (u_ws zr9 zt9 17).all ztw = true := by decide +kernel
  intro w hw
  refine ⟨?_, List.all_eq_true.mp h2 w hw⟩
  rw [h] at hw
  obtain ⟨i, -, hi⟩ := List.mem_filterMap.mp hw
  exact List.mem_of_getElem? hi
theorem zcw10 : ∀ w ∈ u_ws zr10 zt10 33, w ∈ lw_tbl ∧ ztw w = true := by
  have h : (u_ws zr10 zt10 33) = ([845, 847, 849, 851, 853, 855, 857, 859, 861, 863, 865, 867, 869, 871, 873, 875, 877, 879, 881, 883, 885, 887, 889, 891, 893, 895, 897, 899, 901, 903, 905, 907, 909] : List Nat).filterMap (fun i => lw_tbl[i]?) := by decide +kernel
  have h2 : (u_ws zr10 zt10 33).all ztw = true := by decide +kernel
  intro w hw
  refine ⟨?_, List.all_eq_true.mp h2 w hw⟩
  rw [h] at hw
  obtain ⟨i, -, hi⟩ := List.mem_filterMap.mp hw
  exact List.mem_of_getElem? hi
/-- what is known of a class by its number -/
def zcOk (ci : Nat) : Prop := zcls[ci]? = some (zcn.getD ci "", zTT ci, zTn ci) ∧ (∀ w ∈ u_ws (zcn.getD ci "") (zTT ci) (zTn ci), w ∈ lw_tbl ∧ ztw w = true) ∧ (∀ k, k < zTn ci → parseFieldDescriptor (zTT ci k).2.2.1 = some (zty ci k)) ∧ (∀ a, a < zTn ci → ∀ b, b < zTn ci → a ≠ b → (zTT ci a).2.1 ≠ (zTT ci b).2.1) ∧ (zdf ci).length = zTn ci ∧ (∀ j, j < zTn ci → some (defaultValue (zty ci j)) = (zdf ci)[j]?) ∧ (∀ j, j < zTn ci → ∀ b base, zrv b base (defaultValue (zty ci j)) = defaultValue (zty ci j)) ∧ Cond.instantiable (zcn.getD ci "") (zTn ci) ∈ lw_tbl ∧ Cond.initialized (zcn.getD ci "") ∈ lw_tbl
theorem zcok0 : zcOk 0 := ⟨rfl, zcw0, zp0, zn0, rfl, by decide +kernel, fun j hj b base => by
    have : defaultValue (zty 0 j) = .null ∨ defaultValue (zty 0 j) = .int 0 ∨ defaultValue (zty 0 j) = .long 0 := (by decide +kernel : ∀ j, j < 6 → (defaultValue (zty 0 j) = .null ∨ defaultValue (zty 0 j) = .int 0 ∨ defaultValue (zty 0 j) = .long 0)) j hj
    rcases this with h | h | h <;> rw [h] <;> rfl, List.mem_of_getElem? (i := 333) (by decide +kernel), List.mem_of_getElem? (i := 92) (by decide +kernel)⟩
theorem zcok1 : zcOk 1 := ⟨rfl, zcw1, zp1, zn1, rfl, by decide +kernel, fun j hj b base => by
    have : defaultValue (zty 1 j) = .null ∨ defaultValue (zty 1 j) = .int 0 ∨ defaultValue (zty 1 j) = .long 0 := (by decide +kernel : ∀ j, j < 5 → (defaultValue (zty 1 j) = .null ∨ defaultValue (zty 1 j) = .int 0 ∨ defaultValue (zty 1 j) = .long 0)) j hj
    rcases this with h | h | h <;> rw [h] <;> rfl, List.mem_of_getElem? (i := 122) (by decide +kernel), List.mem_of_getElem? (i := 85) (by decide +kernel)⟩
theorem zcok2 : zcOk 2 := ⟨rfl, zcw2, zp2, zn2, rfl, by decide +kernel, fun j hj b base => by
    have : defaultValue (zty 2 j) = .null ∨ defaultValue (zty 2 j) = .int 0 ∨ defaultValue (zty 2 j) = .long 0 := (by decide +kernel : ∀ j, j < 4 → (defaultValue (zty 2 j) = .null ∨ defaultValue (zty 2 j) = .int 0 ∨ defaultValue (zty 2 j) = .long 0)) j hj
    rcases this with h | h | h <;> rw [h] <;> rfl, List.mem_of_getElem? (i := 249) (by decide +kernel), List.mem_of_getElem? (i := 88) (by decide +kernel)⟩
theorem zcok3 : zcOk 3 := ⟨rfl, zcw3, zp3, zn3, rfl, by decide +kernel, fun j hj b base => by
    have : defaultValue (zty 3 j) = .null ∨ defaultValue (zty 3 j) = .int 0 ∨ defaultValue (zty 3 j) = .long 0 := (by decide +kernel : ∀ j, j < 2 → (defaultValue (zty 3 j) = .null ∨ defaultValue (zty 3 j) = .int 0 ∨ defaultValue (zty 3 j) = .long 0)) j hj
    rcases this with h | h | h <;> rw [h] <;> rfl, List.mem_of_getElem? (i := 318) (by decide +kernel), List.mem_of_getElem? (i := 91) (by decide +kernel)⟩
theorem zcok4 : zcOk 4 := ⟨rfl, zcw4, zp4, zn4, rfl, by decide +kernel, fun j hj b base => by
    have : defaultValue (zty 4 j) = .null ∨ defaultValue (zty 4 j) = .int 0 ∨ defaultValue (zty 4 j) = .long 0 := (by decide +kernel : ∀ j, j < 2 → (defaultValue (zty 4 j) = .null ∨ defaultValue (zty 4 j) = .int 0 ∨ defaultValue (zty 4 j) = .long 0)) j hj
    rcases this with h | h | h <;> rw [h] <;> rfl, List.mem_of_getElem? (i := 106) (by decide +kernel), List.mem_of_getElem? (i := 84) (by decide +kernel)⟩
theorem zcok5 : zcOk 5 := ⟨rfl, zcw5, zp5, zn5, rfl, by decide +kernel, fun j hj b base => by
    have : defaultValue (zty 5 j) = .null ∨ defaultValue (zty 5 j) = .int 0 ∨ defaultValue (zty 5 j) = .long 0 := (by decide +kernel : ∀ j, j < 16 → (defaultValue (zty 5 j) = .null ∨ defaultValue (zty 5 j) = .int 0 ∨ defaultValue (zty 5 j) = .long 0)) j hj
    rcases this with h | h | h <;> rw [h] <;> rfl, List.mem_of_getElem? (i := 149) (by decide +kernel), List.mem_of_getElem? (i := 86) (by decide +kernel)⟩
theorem zcok6 : zcOk 6 := ⟨rfl, zcw6, zp6, zn6, rfl, by decide +kernel, fun j hj b base => by
    have : defaultValue (zty 6 j) = .null ∨ defaultValue (zty 6 j) = .int 0 ∨ defaultValue (zty 6 j) = .long 0 := (by decide +kernel : ∀ j, j < 7 → (defaultValue (zty 6 j) = .null ∨ defaultValue (zty 6 j) = .int 0 ∨ defaultValue (zty 6 j) = .long 0)) j hj
    rcases this with h | h | h <;> rw [h] <;> rfl, List.mem_of_getElem? (i := 271) (by decide +kernel), List.mem_of_getElem? (i := 89) (by decide +kernel)⟩
theorem zcok7 : zcOk 7 := ⟨rfl, zcw7, zp7, zn7, rfl, by decide +kernel, fun j hj b base => by
    have : defaultValue (zty 7 j) = .null ∨ defaultValue (zty 7 j) = .int 0 ∨ defaultValue (zty 7 j) = .long 0 := (by decide +kernel : ∀ j, j < 2 → (defaultValue (zty 7 j) = .null ∨ defaultValue (zty 7 j) = .int 0 ∨ defaultValue (zty 7 j) = .long 0)) j hj
    rcases this with h | h | h <;> rw [h] <;> rfl, List.mem_of_getElem? (i := 303) (by decide +kernel), List.mem_of_getElem? (i := 90) (by decide +kernel)⟩
theorem zcok8 : zcOk 8 := ⟨rfl, zcw8, zp8, zn8, rfl, by decide +kernel, fun j hj b base => by
    have : defaultValue (zty 8 j) = .null ∨ defaultValue (zty 8 j) = .int 0 ∨ defaultValue (zty 8 j) = .long 0 := (by decide +kernel : ∀ j, j < 5 → (defaultValue (zty 8 j) = .null ∨ defaultValue (zty 8 j) = .int 0 ∨ defaultValue (zty 8 j) = .long 0)) j hj
    rcases this with h | h | h <;> rw [h] <;> rfl, List.mem_of_getElem? (i := 221) (by decide +kernel), List.mem_of_getElem? (i := 87) (by decide +kernel)⟩
theorem zcok9 : zcOk 9 := ⟨rfl, zcw9, zp9, zn9, rfl, by decide +kernel, fun j hj b base => by
    have : defaultValue (zty 9 j) = .null ∨ defaultValue (zty 9 j) = .int 0 ∨ defaultValue (zty 9 j) = .long 0 := (by decide +kernel : ∀ j, j < 17 → (defaultValue (zty 9 j) = .null ∨ defaultValue (zty 9 j) = .int 0 ∨ defaultValue (zty 9 j) = .long 0)) j hj
    rcases this with h | h | h <;> rw [h] <;> rfl, List.mem_of_getElem? (i := 98) (by decide +kernel), List.mem_of_getElem? (i := 83) (by decide +kernel)⟩
theorem zcok10 : zcOk 10 := ⟨rfl, zcw10, zp10, zn10, rfl, by decide +kernel, fun j hj b base => by
    have : defaultValue (zty 10 j) = .null ∨ defaultValue (zty 10 j) = .int 0 ∨ defaultValue (zty 10 j) = .long 0 := (by decide +kernel : ∀ j, j < 33 → (defaultValue (zty 10 j) = .null ∨ defaultValue (zty 10 j) = .int 0 ∨ defaultValue (zty 10 j) = .long 0)) j hj
    rcases this with h | h | h <;> rw [h] <;> rfl, List.mem_of_getElem? (i := 807) (by decide +kernel), List.mem_of_getElem? (i := 93) (by decide +kernel)⟩
theorem zcok : ∀ ci, ci < 11 → zcOk ci := by
  have h : ∀ ci ∈ List.range 11, zcOk ci := by
    show ∀ ci ∈ [0, 1, 2, 3, 4, 5, 6, 7, 8, 9, 10], zcOk ci
    exact List.forall_mem_cons.mpr ⟨zcok0, List.forall_mem_cons.mpr ⟨zcok1, List.forall_mem_cons.mpr ⟨zcok2, List.forall_mem_cons.mpr ⟨zcok3, List.forall_mem_cons.mpr ⟨zcok4, List.forall_mem_cons.mpr ⟨zcok5, List.forall_mem_cons.mpr ⟨zcok6, List.forall_mem_cons.mpr ⟨zcok7, List.forall_mem_cons.mpr ⟨zcok8, List.forall_mem_cons.mpr ⟨zcok9, List.forall_mem_cons.mpr ⟨zcok10, fun _ h => absurd h List.not_mem_nil⟩⟩⟩⟩⟩⟩⟩⟩⟩⟩⟩
  exact fun ci hc => h ci (List.mem_range.mpr hc)
/-- what is known of a method by its number -/
def zmOk (z : Nat) : Prop := lw_tbl[mCp z]? = some (.code (mN z) (mB z) (mL z) (mR z))
def zmq : List (Nat × Nat × Nat) := [(0, 0, 0), (100, 0, 83), (103, 0, 0), (108, 0, 84), (124, 0, 85), (151, 0, 86), (223, 0, 87), (251, 0, 88), (273, 0, 89), (305, 0, 90), (320, 0, 91), (335, 0, 92), (414, 415, 83), (418, 0, 83), (422, 0, 84), (425, 426, 83), (429, 430, 83), (434, 1, 85), (438, 2, 86), (441, 0, 94), (445, 3, 85), (449, 4, 84), (453, 5, 85), (458, 6, 85), (462, 7, 86), (466, 8, 86), (470, 9, 86), (474, 10, 86), (478, 11, 86), (482, 12, 86), (486, 13, 86), (490, 14, 86), (493, 494, 83), (498, 15, 87), (502, 503, 83), (507, 16, 83), (511, 17, 83), (514, 0, 83), (518, 18, 87), (522, 19, 86), (525, 526, 83), (530, 20, 83), (534, 21, 88), (539, 22, 87), (543, 0, 88), (548, 23, 88), (552, 24, 88), (555, 556, 83), (560, 25, 83), (564, 26, 83), (568, 27, 90), (571, 0, 90), (575, 28, 88), (580, 29, 88), (583, 584, 83), (587, 0, 95), (591, 30, 88), (596, 31, 91), (599, 0, 95), (602, 0, 91), (605, 606, 83), (610, 32, 90), (613, 614, 83), (618, 33, 83), (622, 34, 89), (627, 35, 89), (632, 36, 89), (635, 0, 95), (638, 639, 83), (644, 37, 89), (648, 649, 83), (653, 38, 89), (657, 39, 86), (661, 40, 89), (664, 0, 95), (668, 41, 89), (672, 673, 83), (677, 0, 96), (684, 42, 86), (687, 688, 83), (693, 43, 92), (697, 44, 92), (705, 45, 92), (710, 46, 92), (713, 714, 83), (718, 47, 87), (722, 723, 83), (726, 727, 83), (731, 48, 83), (734, 735, 83), (739, 49, 83), (743, 50, 88), (747, 748, 83), (752, 51, 83), (756, 52, 89), (762, 53, 87), (766, 54, 87), (771, 772, 83), (775, 776, 83), (779, 780, 83), (784, 55, 87), (787, 788, 83), (792, 56, 83), (795, 796, 83), (799, 800, 83), (804, 57, 87), (809, 0, 93), (913, 914, 93), (918, 0, 93), (921, 922, 93), (925, 926, 93), (930, 58, 93), (934, 59, 93), (941, 60, 93), (945, 61, 93), (948, 949, 93), (953, 954, 93), (958, 62, 93), (962, 63, 93), (965, 0, 93), (970, 64, 93), (973, 974, 93), (978, 65, 93), (982, 66, 93), (986, 67, 93), (990, 68, 93), (993, 0, 93), (997, 69, 93), (1000, 0, 93), (1003, 1004, 93), (1008, 70, 93), (1012, 71, 93), (1016, 72, 93), (1019, 1020, 93), (1026, 73, 93), (1029, 1030, 93), (1033, 1034, 93), (1039, 74, 93), (1043, 75, 93), (1046, 1047, 93), (1050, 1051, 93), (1055, 76, 93), (1059, 77, 93), (1062, 1063, 93), (1068, 78, 93), (1072, 79, 93), (1075, 1076, 93), (1080, 1081, 93), (1084, 1085, 93), (1089, 1090, 93), (1094, 1095, 93), (1100, 1101, 93), (1105, 80, 93), (1108, 1109, 93), (1113, 1114, 93), (1117, 1118, 93), (1123, 81, 93), (1126, 1127, 93), (1130, 1131, 93), (1134, 1135, 93)]
def zmc (z : Nat) : Bool := plainFor (mN z) && decide ((mN z).cls ≠ "java/lang/invoke/MethodHandle") && decide ((mN z).cls ≠ "java/lang/invoke/VarHandle") && decide ((parseMethodDescriptor (mN z).desc).map (fun d => d.parameters.length) = some (mPn z)) && decide (zcn.getD (mC z) "" = (mN z).cls) && decide (lw_tbl[(zmq.getD z (0, 0, 0)).1]? = some (if mSt z = 1 then Cond.static (mN z) else Cond.instanceMethod (mN z))) && (decide (mSt z = 1) || decide ((mN z).name = "<init>") || decide (lw_tbl[(zmq.getD z (0, 0, 0)).2.1]? = some (Cond.selects (mN z).cls (mN z) (mN z)))) && decide (lw_tbl[(zmq.getD z (0, 0, 0)).2.2]? = some (Cond.initialized (mN z).cls)) && ((decide (mSt z = 1)) || decide (mC z < 11))
theorem zmc_all : (List.range 160).all (fun z => z == 0 || z == 2 || zmc z) = true := by decide +kernel
set_option maxRecDepth 100000 in
theorem zq1 : zmOk 1 := rfl
set_option maxRecDepth 100000 in
theorem zq2 : zmOk 2 := rfl
set_option maxRecDepth 100000 in
theorem zq3 : zmOk 3 := rfl
set_option maxRecDepth 100000 in
theorem zq4 : zmOk 4 := rfl
set_option maxRecDepth 100000 in
theorem zq5 : zmOk 5 := rfl
set_option maxRecDepth 100000 in
theorem zq6 : zmOk 6 := rfl
set_option maxRecDepth 100000 in
theorem zq7 : zmOk 7 := rfl
set_option maxRecDepth 100000 in
theorem zq8 : zmOk 8 := rfl
set_option maxRecDepth 100000 in
theorem zq9 : zmOk 9 := rfl
set_option maxRecDepth 100000 in
theorem zq10 : zmOk 10 := rfl
set_option maxRecDepth 100000 in
theorem zq11 : zmOk 11 := rfl
set_option maxRecDepth 100000 in
theorem zq12 : zmOk 12 := rfl
set_option maxRecDepth 100000 in
theorem zq13 : zmOk 13 := rfl
set_option maxRecDepth 100000 in
theorem zq14 : zmOk 14 := rfl
set_option maxRecDepth 100000 in
theorem zq15 : zmOk 15 := rfl
set_option maxRecDepth 100000 in
theorem zq16 : zmOk 16 := rfl
set_option maxRecDepth 100000 in
theorem zq17 : zmOk 17 := rfl
set_option maxRecDepth 100000 in
theorem zq18 : zmOk 18 := rfl
set_option maxRecDepth 100000 in
theorem zq19 : zmOk 19 := rfl
set_option maxRecDepth 100000 in
theorem zq20 : zmOk 20 := rfl
set_option maxRecDepth 100000 in
theorem zq21 : zmOk 21 := rfl
set_option maxRecDepth 100000 in
theorem zq22 : zmOk 22 := rfl
set_option maxRecDepth 100000 in
theorem zq23 : zmOk 23 := rfl
set_option maxRecDepth 100000 in
theorem zq24 : zmOk 24 := rfl
set_option maxRecDepth 100000 in
theorem zq25 : zmOk 25 := rfl
set_option maxRecDepth 100000 in
theorem zq26 : zmOk 26 := rfl
set_option maxRecDepth 100000 in
theorem zq27 : zmOk 27 := rfl
set_option maxRecDepth 100000 in
theorem zq28 : zmOk 28 := rfl
set_option maxRecDepth 100000 in
theorem zq29 : zmOk 29 := rfl
set_option maxRecDepth 100000 in
theorem zq30 : zmOk 30 := rfl
set_option maxRecDepth 100000 in
theorem zq31 : zmOk 31 := rfl
set_option maxRecDepth 100000 in
theorem zq32 : zmOk 32 := rfl
set_option maxRecDepth 100000 in
theorem zq33 : zmOk 33 := rfl
set_option maxRecDepth 100000 in
theorem zq34 : zmOk 34 := rfl
set_option maxRecDepth 100000 in
theorem zq35 : zmOk 35 := rfl
set_option maxRecDepth 100000 in
theorem zq36 : zmOk 36 := rfl
set_option maxRecDepth 100000 in
theorem zq37 : zmOk 37 := rfl
set_option maxRecDepth 100000 in
theorem zq38 : zmOk 38 := rfl
set_option maxRecDepth 100000 in
theorem zq39 : zmOk 39 := rfl
set_option maxRecDepth 100000 in
theorem zq40 : zmOk 40 := rfl
set_option maxRecDepth 100000 in
theorem zq41 : zmOk 41 := rfl
set_option maxRecDepth 100000 in
theorem zq42 : zmOk 42 := rfl
set_option maxRecDepth 100000 in
theorem zq43 : zmOk 43 := rfl
set_option maxRecDepth 100000 in
theorem zq44 : zmOk 44 := rfl
set_option maxRecDepth 100000 in
theorem zq45 : zmOk 45 := rfl
set_option maxRecDepth 100000 in
theorem zq46 : zmOk 46 := rfl
set_option maxRecDepth 100000 in
theorem zq47 : zmOk 47 := rfl
set_option maxRecDepth 100000 in
theorem zq48 : zmOk 48 := rfl
set_option maxRecDepth 100000 in
theorem zq49 : zmOk 49 := rfl
set_option maxRecDepth 100000 in
theorem zq50 : zmOk 50 := rfl
set_option maxRecDepth 100000 in
theorem zq51 : zmOk 51 := rfl
set_option maxRecDepth 100000 in
theorem zq52 : zmOk 52 := rfl
set_option maxRecDepth 100000 in
theorem zq53 : zmOk 53 := rfl
set_option maxRecDepth 100000 in
theorem zq54 : zmOk 54 := rfl
set_option maxRecDepth 100000 in
theorem zq55 : zmOk 55 := rfl
set_option maxRecDepth 100000 in
theorem zq56 : zmOk 56 := rfl
set_option maxRecDepth 100000 in
theorem zq57 : zmOk 57 := rfl
set_option maxRecDepth 100000 in
theorem zq58 : zmOk 58 := rfl
set_option maxRecDepth 100000 in
theorem zq59 : zmOk 59 := rfl
set_option maxRecDepth 100000 in
theorem zq60 : zmOk 60 := rfl
set_option maxRecDepth 100000 in
theorem zq61 : zmOk 61 := rfl
set_option maxRecDepth 100000 in
theorem zq62 : zmOk 62 := rfl
set_option maxRecDepth 100000 in
theorem zq63 : zmOk 63 := rfl
set_option maxRecDepth 100000 in
theorem zq64 : zmOk 64 := rfl
set_option maxRecDepth 100000 in
theorem zq65 : zmOk 65 := rfl
set_option maxRecDepth 100000 in
theorem zq66 : zmOk 66 := rfl
set_option maxRecDepth 100000 in
theorem zq67 : zmOk 67 := rfl
set_option maxRecDepth 100000 in
theorem zq68 : zmOk 68 := rfl
set_option maxRecDepth 100000 in
theorem zq69 : zmOk 69 := rfl
set_option maxRecDepth 100000 in
theorem zq70 : zmOk 70 := rfl
set_option maxRecDepth 100000 in
theorem zq71 : zmOk 71 := rfl
set_option maxRecDepth 100000 in
theorem zq72 : zmOk 72 := rfl
set_option maxRecDepth 100000 in
theorem zq73 : zmOk 73 := rfl
set_option maxRecDepth 100000 in
theorem zq74 : zmOk 74 := rfl
set_option maxRecDepth 100000 in
theorem zq75 : zmOk 75 := rfl
set_option maxRecDepth 100000 in
theorem zq76 : zmOk 76 := rfl
set_option maxRecDepth 100000 in
theorem zq77 : zmOk 77 := rfl
set_option maxRecDepth 100000 in
theorem zq78 : zmOk 78 := rfl
set_option maxRecDepth 100000 in
theorem zq79 : zmOk 79 := rfl
set_option maxRecDepth 100000 in
theorem zq80 : zmOk 80 := rfl
set_option maxRecDepth 100000 in
theorem zq81 : zmOk 81 := rfl
set_option maxRecDepth 100000 in
theorem zq82 : zmOk 82 := rfl
set_option maxRecDepth 100000 in
theorem zq83 : zmOk 83 := rfl
set_option maxRecDepth 100000 in
theorem zq84 : zmOk 84 := rfl
set_option maxRecDepth 100000 in
theorem zq85 : zmOk 85 := rfl
set_option maxRecDepth 100000 in
theorem zq86 : zmOk 86 := rfl
set_option maxRecDepth 100000 in
theorem zq87 : zmOk 87 := rfl
set_option maxRecDepth 100000 in
theorem zq88 : zmOk 88 := rfl
set_option maxRecDepth 100000 in
theorem zq89 : zmOk 89 := rfl
set_option maxRecDepth 100000 in
theorem zq90 : zmOk 90 := rfl
set_option maxRecDepth 100000 in
theorem zq91 : zmOk 91 := rfl
set_option maxRecDepth 100000 in
theorem zq92 : zmOk 92 := rfl
set_option maxRecDepth 100000 in
theorem zq93 : zmOk 93 := rfl
set_option maxRecDepth 100000 in
theorem zq94 : zmOk 94 := rfl
set_option maxRecDepth 100000 in
theorem zq95 : zmOk 95 := rfl
set_option maxRecDepth 100000 in
theorem zq96 : zmOk 96 := rfl
set_option maxRecDepth 100000 in
theorem zq97 : zmOk 97 := rfl
set_option maxRecDepth 100000 in
theorem zq98 : zmOk 98 := rfl
set_option maxRecDepth 100000 in
theorem zq99 : zmOk 99 := rfl
set_option maxRecDepth 100000 in
theorem zq100 : zmOk 100 := rfl
set_option maxRecDepth 100000 in
theorem zq101 : zmOk 101 := rfl
set_option maxRecDepth 100000 in
theorem zq102 : zmOk 102 := rfl
set_option maxRecDepth 100000 in
theorem zq103 : zmOk 103 := rfl
set_option maxRecDepth 100000 in
theorem zq104 : zmOk 104 := rfl
set_option maxRecDepth 100000 in
theorem zq105 : zmOk 105 := rfl
set_option maxRecDepth 100000 in
theorem zq106 : zmOk 106 := rfl
set_option maxRecDepth 100000 in
theorem zq107 : zmOk 107 := rfl
set_option maxRecDepth 100000 in
theorem zq108 : zmOk 108 := rfl
set_option maxRecDepth 100000 in
theorem zq109 : zmOk 109 := rfl
set_option maxRecDepth 100000 in
theorem zq110 : zmOk 110 := rfl
set_option maxRecDepth 100000 in
theorem zq111 : zmOk 111 := rfl
set_option maxRecDepth 100000 in
theorem zq112 : zmOk 112 := rfl
set_option maxRecDepth 100000 in
theorem zq113 : zmOk 113 := rfl
set_option maxRecDepth 100000 in
theorem zq114 : zmOk 114 := rfl
set_option maxRecDepth 100000 in
theorem zq115 : zmOk 115 := rfl
set_option maxRecDepth 100000 in
theorem zq116 : zmOk 116 := rfl
set_option maxRecDepth 100000 in
theorem zq117 : zmOk 117 := rfl
set_option maxRecDepth 100000 in
theorem zq118 : zmOk 118 := rfl
set_option maxRecDepth 100000 in
theorem zq119 : zmOk 119 := rfl
set_option maxRecDepth 100000 in
theorem zq120 : zmOk 120 := rfl
set_option maxRecDepth 100000 in
theorem zq121 : zmOk 121 := rfl
set_option maxRecDepth 100000 in
theorem zq122 : zmOk 122 := rfl
set_option maxRecDepth 100000 in
theorem zq123 : zmOk 123 := rfl
set_option maxRecDepth 100000 in
theorem zq124 : zmOk 124 := rfl
set_option maxRecDepth 100000 in
theorem zq125 : zmOk 125 := rfl
set_option maxRecDepth 100000 in
theorem zq126 : zmOk 126 := rfl
set_option maxRecDepth 100000 in
theorem zq127 : zmOk 127 := rfl
set_option maxRecDepth 100000 in
theorem zq128 : zmOk 128 := rfl
set_option maxRecDepth 100000 in
theorem zq129 : zmOk 129 := rfl
set_option maxRecDepth 100000 in
theorem zq130 : zmOk 130 := rfl
set_option maxRecDepth 100000 in
theorem zq131 : zmOk 131 := rfl
set_option maxRecDepth 100000 in
theorem zq132 : zmOk 132 := rfl
set_option maxRecDepth 100000 in
theorem zq133 : zmOk 133 := rfl
set_option maxRecDepth 100000 in
theorem zq134 : zmOk 134 := rfl
set_option maxRecDepth 100000 in
theorem zq135 : zmOk 135 := rfl
set_option maxRecDepth 100000 in
theorem zq136 : zmOk 136 := rfl
set_option maxRecDepth 100000 in
theorem zq137 : zmOk 137 := rfl
set_option maxRecDepth 100000 in
theorem zq138 : zmOk 138 := rfl
set_option maxRecDepth 100000 in
theorem zq139 : zmOk 139 := rfl
set_option maxRecDepth 100000 in
theorem zq140 : zmOk 140 := rfl
set_option maxRecDepth 100000 in
theorem zq141 : zmOk 141 := rfl
set_option maxRecDepth 100000 in
theorem zq142 : zmOk 142 := rfl
set_option maxRecDepth 100000 in
theorem zq143 : zmOk 143 := rfl
set_option maxRecDepth 100000 in
theorem zq144 : zmOk 144 := rfl
set_option maxRecDepth 100000 in
theorem zq145 : zmOk 145 := rfl
set_option maxRecDepth 100000 in
theorem zq146 : zmOk 146 := rfl
set_option maxRecDepth 100000 in
theorem zq147 : zmOk 147 := rfl
set_option maxRecDepth 100000 in
theorem zq148 : zmOk 148 := rfl
set_option maxRecDepth 100000 in
theorem zq149 : zmOk 149 := rfl
set_option maxRecDepth 100000 in
theorem zq150 : zmOk 150 := rfl
set_option maxRecDepth 100000 in
theorem zq151 : zmOk 151 := rfl
set_option maxRecDepth 100000 in
theorem zq152 : zmOk 152 := rfl
set_option maxRecDepth 100000 in
theorem zq153 : zmOk 153 := rfl
set_option maxRecDepth 100000 in
theorem zq154 : zmOk 154 := rfl
set_option maxRecDepth 100000 in
theorem zq155 : zmOk 155 := rfl
set_option maxRecDepth 100000 in
theorem zq156 : zmOk 156 := rfl
set_option maxRecDepth 100000 in
theorem zq157 : zmOk 157 := rfl
set_option maxRecDepth 100000 in
theorem zq158 : zmOk 158 := rfl
set_option maxRecDepth 100000 in
theorem zq159 : zmOk 159 := rfl
theorem zq : ∀ z, z < 160 → z ≠ 0 → zmOk z := by
  have h0_ : ∀ z ∈ [1, 2, 3, 4, 5, 6, 7, 8, 9, 10, 11, 12, 13, 14, 15, 16, 17, 18, 19, 20, 21, 22, 23, 24, 25, 26, 27, 28, 29, 30, 31, 32, 33, 34, 35, 36, 37, 38, 39, 40], zmOk z := List.forall_mem_cons.mpr ⟨zq1, List.forall_mem_cons.mpr ⟨zq2, List.forall_mem_cons.mpr ⟨zq3, List.forall_mem_cons.mpr ⟨zq4, List.forall_mem_cons.mpr ⟨zq5, List.forall_mem_cons.mpr ⟨zq6, List.forall_mem_cons.mpr ⟨zq7, List.forall_mem_cons.mpr ⟨zq8, List.forall_mem_cons.mpr ⟨zq9, List.forall_mem_cons.mpr ⟨zq10, List.forall_mem_cons.mpr ⟨zq11, List.forall_mem_cons.mpr ⟨zq12, List.forall_mem_cons.mpr ⟨zq13, List.forall_mem_cons.mpr ⟨zq14, List.forall_mem_cons.mpr ⟨zq15, List.forall_mem_cons.mpr ⟨zq16, List.forall_mem_cons.mpr ⟨zq17, List.forall_mem_cons.mpr ⟨zq18, List.forall_mem_cons.mpr ⟨zq19, List.forall_mem_cons.mpr ⟨zq20, List.forall_mem_cons.mpr ⟨zq21, List.forall_mem_cons.mpr ⟨zq22, List.forall_mem_cons.mpr ⟨zq23, List.forall_mem_cons.mpr ⟨zq24, List.forall_mem_cons.mpr ⟨zq25, List.forall_mem_cons.mpr ⟨zq26, List.forall_mem_cons.mpr ⟨zq27, List.forall_mem_cons.mpr ⟨zq28, List.forall_mem_cons.mpr ⟨zq29, List.forall_mem_cons.mpr ⟨zq30, List.forall_mem_cons.mpr ⟨zq31, List.forall_mem_cons.mpr ⟨zq32, List.forall_mem_cons.mpr ⟨zq33, List.forall_mem_cons.mpr ⟨zq34, List.forall_mem_cons.mpr ⟨zq35, List.forall_mem_cons.mpr ⟨zq36, List.forall_mem_cons.mpr ⟨zq37, List.forall_mem_cons.mpr ⟨zq38, List.forall_mem_cons.mpr ⟨zq39, List.forall_mem_cons.mpr ⟨zq40, fun _ h => absurd h List.not_mem_nil⟩⟩⟩⟩⟩⟩⟩⟩⟩⟩⟩⟩⟩⟩⟩⟩⟩⟩⟩⟩⟩⟩⟩⟩⟩⟩⟩⟩⟩⟩⟩⟩⟩⟩⟩⟩⟩⟩⟩⟩
  have h1 : ∀ z ∈ [41, 42, 43, 44, 45, 46, 47, 48, 49, 50, 51, 52, 53, 54, 55, 56, 57, 58, 59, 60, 61, 62, 63, 64, 65, 66, 67, 68, 69, 70, 71, 72, 73, 74, 75, 76, 77, 78, 79, 80], zmOk z := List.forall_mem_cons.mpr ⟨zq41, List.forall_mem_cons.mpr ⟨zq42, List.forall_mem_cons.mpr ⟨zq43, List.forall_mem_cons.mpr ⟨zq44, List.forall_mem_cons.mpr ⟨zq45, List.forall_mem_cons.mpr ⟨zq46, List.forall_mem_cons.mpr ⟨zq47, List.forall_mem_cons.mpr ⟨zq48, List.forall_mem_cons.mpr ⟨zq49, List.forall_mem_cons.mpr ⟨zq50, List.forall_mem_cons.mpr ⟨zq51, List.forall_mem_cons.mpr ⟨zq52, List.forall_mem_cons.mpr ⟨zq53, List.forall_mem_cons.mpr ⟨zq54, List.forall_mem_cons.mpr ⟨zq55, List.forall_mem_cons.mpr ⟨zq56, List.forall_mem_cons.mpr ⟨zq57, List.forall_mem_cons.mpr ⟨zq58, List.forall_mem_cons.mpr ⟨zq59, List.forall_mem_cons.mpr ⟨zq60, List.forall_mem_cons.mpr ⟨zq61, List.forall_mem_cons.mpr ⟨zq62, List.forall_mem_cons.mpr ⟨zq63, List.forall_mem_cons.mpr ⟨zq64, List.forall_mem_cons.mpr ⟨zq65, List.forall_mem_cons.mpr ⟨zq66, List.forall_mem_cons.mpr ⟨zq67, List.forall_mem_cons.mpr ⟨zq68, List.forall_mem_cons.mpr ⟨zq69, List.forall_mem_cons.mpr ⟨zq70, List.forall_mem_cons.mpr ⟨zq71, List.forall_mem_cons.mpr ⟨zq72, List.forall_mem_cons.mpr ⟨zq73, List.forall_mem_cons.mpr ⟨zq74, List.forall_mem_cons.mpr ⟨zq75, List.forall_mem_cons.mpr ⟨zq76, List.forall_mem_cons.mpr ⟨zq77, List.forall_mem_cons.mpr ⟨zq78, List.forall_mem_cons.mpr ⟨zq79, List.forall_mem_cons.mpr ⟨zq80, fun _ h => absurd h List.not_mem_nil⟩⟩⟩⟩⟩⟩⟩⟩⟩⟩⟩⟩⟩⟩⟩⟩⟩⟩⟩⟩⟩⟩⟩⟩⟩⟩⟩⟩⟩⟩⟩⟩⟩⟩⟩⟩⟩⟩⟩⟩
  have h2 : ∀ z ∈ [81, 82, 83, 84, 85, 86, 87, 88, 89, 90, 91, 92, 93, 94, 95, 96, 97, 98, 99, 100, 101, 102, 103, 104, 105, 106, 107, 108, 109, 110, 111, 112, 113, 114, 115, 116, 117, 118, 119, 120], zmOk z := List.forall_mem_cons.mpr ⟨zq81, List.forall_mem_cons.mpr ⟨zq82, List.forall_mem_cons.mpr ⟨zq83, List.forall_mem_cons.mpr ⟨zq84, List.forall_mem_cons.mpr ⟨zq85, List.forall_mem_cons.mpr ⟨zq86, List.forall_mem_cons.mpr ⟨zq87, List.forall_mem_cons.mpr ⟨zq88, List.forall_mem_cons.mpr ⟨zq89, List.forall_mem_cons.mpr ⟨zq90, List.forall_mem_cons.mpr ⟨zq91, List.forall_mem_cons.mpr ⟨zq92, List.forall_mem_cons.mpr ⟨zq93, List.forall_mem_cons.mpr ⟨zq94, List.forall_mem_cons.mpr ⟨zq95, List.forall_mem_cons.mpr ⟨zq96, List.forall_mem_cons.mpr ⟨zq97, List.forall_mem_cons.mpr ⟨zq98, List.forall_mem_cons.mpr ⟨zq99, List.forall_mem_cons.mpr ⟨zq100, List.forall_mem_cons.mpr ⟨zq101, List.forall_mem_cons.mpr ⟨zq102, List.forall_mem_cons.mpr ⟨zq103, List.forall_mem_cons.mpr ⟨zq104, List.forall_mem_cons.mpr ⟨zq105, List.forall_mem_cons.mpr ⟨zq106, List.forall_mem_cons.mpr ⟨zq107, List.forall_mem_cons.mpr ⟨zq108, List.forall_mem_cons.mpr ⟨zq109, List.forall_mem_cons.mpr ⟨zq110, List.forall_mem_cons.mpr ⟨zq111, List.forall_mem_cons.mpr ⟨zq112, List.forall_mem_cons.mpr ⟨zq113, List.forall_mem_cons.mpr ⟨zq114, List.forall_mem_cons.mpr ⟨zq115, List.forall_mem_cons.mpr ⟨zq116, List.forall_mem_cons.mpr ⟨zq117, List.forall_mem_cons.mpr ⟨zq118, List.forall_mem_cons.mpr ⟨zq119, List.forall_mem_cons.mpr ⟨zq120, fun _ h => absurd h List.not_mem_nil⟩⟩⟩⟩⟩⟩⟩⟩⟩⟩⟩⟩⟩⟩⟩⟩⟩⟩⟩⟩⟩⟩⟩⟩⟩⟩⟩⟩⟩⟩⟩⟩⟩⟩⟩⟩⟩⟩⟩⟩
  have h3 : ∀ z ∈ [121, 122, 123, 124, 125, 126, 127, 128, 129, 130, 131, 132, 133, 134, 135, 136, 137, 138, 139, 140, 141, 142, 143, 144, 145, 146, 147, 148, 149, 150, 151, 152, 153, 154, 155, 156, 157, 158, 159], zmOk z := List.forall_mem_cons.mpr ⟨zq121, List.forall_mem_cons.mpr ⟨zq122, List.forall_mem_cons.mpr ⟨zq123, List.forall_mem_cons.mpr ⟨zq124, List.forall_mem_cons.mpr ⟨zq125, List.forall_mem_cons.mpr ⟨zq126, List.forall_mem_cons.mpr ⟨zq127, List.forall_mem_cons.mpr ⟨zq128, List.forall_mem_cons.mpr ⟨zq129, List.forall_mem_cons.mpr ⟨zq130, List.forall_mem_cons.mpr ⟨zq131, List.forall_mem_cons.mpr ⟨zq132, List.forall_mem_cons.mpr ⟨zq133, List.forall_mem_cons.mpr ⟨zq134, List.forall_mem_cons.mpr ⟨zq135, List.forall_mem_cons.mpr ⟨zq136, List.forall_mem_cons.mpr ⟨zq137, List.forall_mem_cons.mpr ⟨zq138, List.forall_mem_cons.mpr ⟨zq139, List.forall_mem_cons.mpr ⟨zq140, List.forall_mem_cons.mpr ⟨zq141, List.forall_mem_cons.mpr ⟨zq142, List.forall_mem_cons.mpr ⟨zq143, List.forall_mem_cons.mpr ⟨zq144, List.forall_mem_cons.mpr ⟨zq145, List.forall_mem_cons.mpr ⟨zq146, List.forall_mem_cons.mpr ⟨zq147, List.forall_mem_cons.mpr ⟨zq148, List.forall_mem_cons.mpr ⟨zq149, List.forall_mem_cons.mpr ⟨zq150, List.forall_mem_cons.mpr ⟨zq151, List.forall_mem_cons.mpr ⟨zq152, List.forall_mem_cons.mpr ⟨zq153, List.forall_mem_cons.mpr ⟨zq154, List.forall_mem_cons.mpr ⟨zq155, List.forall_mem_cons.mpr ⟨zq156, List.forall_mem_cons.mpr ⟨zq157, List.forall_mem_cons.mpr ⟨zq158, List.forall_mem_cons.mpr ⟨zq159, fun _ h => absurd h List.not_mem_nil⟩⟩⟩⟩⟩⟩⟩⟩⟩⟩⟩⟩⟩⟩⟩⟩⟩⟩⟩⟩⟩⟩⟩⟩⟩⟩⟩⟩⟩⟩⟩⟩⟩⟩⟩⟩⟩⟩⟩
  intro z hz h0
  have hm : z ∈ [1, 2, 3, 4, 5, 6, 7, 8, 9, 10, 11, 12, 13, 14, 15, 16, 17, 18, 19, 20, 21, 22, 23, 24, 25, 26, 27, 28, 29, 30, 31, 32, 33, 34, 35, 36, 37, 38, 39, 40] ++ ([41, 42, 43, 44, 45, 46, 47, 48, 49, 50, 51, 52, 53, 54, 55, 56, 57, 58, 59, 60, 61, 62, 63, 64, 65, 66, 67, 68, 69, 70, 71, 72, 73, 74, 75, 76, 77, 78, 79, 80] ++ ([81, 82, 83, 84, 85, 86, 87, 88, 89, 90, 91, 92, 93, 94, 95, 96, 97, 98, 99, 100, 101, 102, 103, 104, 105, 106, 107, 108, 109, 110, 111, 112, 113, 114, 115, 116, 117, 118, 119, 120] ++ ([121, 122, 123, 124, 125, 126, 127, 128, 129, 130, 131, 132, 133, 134, 135, 136, 137, 138, 139, 140, 141, 142, 143, 144, 145, 146, 147, 148, 149, 150, 151, 152, 153, 154, 155, 156, 157, 158, 159]))) := by
    have h : ∀ k ∈ List.range 160, k ≠ 0 → k ∈ [1, 2, 3, 4, 5, 6, 7, 8, 9, 10, 11, 12, 13, 14, 15, 16, 17, 18, 19, 20, 21, 22, 23, 24, 25, 26, 27, 28, 29, 30, 31, 32, 33, 34, 35, 36, 37, 38, 39, 40] ++ ([41, 42, 43, 44, 45, 46, 47, 48, 49, 50, 51, 52, 53, 54, 55, 56, 57, 58, 59, 60, 61, 62, 63, 64, 65, 66, 67, 68, 69, 70, 71, 72, 73, 74, 75, 76, 77, 78, 79, 80] ++ ([81, 82, 83, 84, 85, 86, 87, 88, 89, 90, 91, 92, 93, 94, 95, 96, 97, 98, 99, 100, 101, 102, 103, 104, 105, 106, 107, 108, 109, 110, 111, 112, 113, 114, 115, 116, 117, 118, 119, 120] ++ ([121, 122, 123, 124, 125, 126, 127, 128, 129, 130, 131, 132, 133, 134, 135, 136, 137, 138, 139, 140, 141, 142, 143, 144, 145, 146, 147, 148, 149, 150, 151, 152, 153, 154, 155, 156, 157, 158, 159]))) := by decide +kernel
    exact h z (List.mem_range.mpr hz) h0
  rcases List.mem_append.mp hm with h | hm
  · exact h0_ z h
  rcases List.mem_append.mp hm with h | hm
  · exact h1 z h
  rcases List.mem_append.mp hm with h | h
  · exact h2 z h
  · exact h3 z h
end
section
-- the interpreter's steps are the machine's
/-- what holds of the running method -/
def zX (p : Program) (s : State) (m : MethodId) (args : Array Value) (meth : Method) (cd : Code) (b base : Nat) (X : Nat × (Nat → Int32)) (y : Nat) : Prop :=
  p.tables.exec = Jvm.exec ∧ cd.code = mB y ∧ cd.maxLocals = mL y ∧ meth.sig.returnType = mR y ∧ meth.locks = false ∧ s.vm.findClass (zcn.getD (mC y) "") = some m.cls ∧ zT s ∧ (∀ ty, ty = FieldType.int ∨ ty = .byte ∨ ty = .boolean → (Cond.arrayClass ty).before args s = true) ∧ ((mN y).name = "<init>" → meth.name = "<init>") ∧ (y = 0 → va_X b X.1 X.2 s s.heap ∧ b < s.heap.size ∧ b < base)
/-- from this frame the machine comes to Q, over every heap that holds the interpreter's -/
def zG (p : Program) (l : Launch) (e : Env) (s : State) (m : MethodId) (args : Array Value) (below : List Frame) (meth : Method) (cd : Code) (Q : State → Prop) (D : va_G) (b base : Nat) (ca : FieldType → ClassId) (y pc : Nat) (L : zL) (st : List Value) (w : zN) (h : zH) : Prop :=
  ∀ (ls : Array Slot) (H : Heap) (locs : List Loc), lv_has ls (mL y) (zlv b base L) → zlt y L → zW D b base ca w.1 h s H → va_S (fun q => base ≤ q) s.heap H locs → w.2.1 ≤ (mRm y).cells → w.2.2 ≤ (mRm y).slots →
    W p l e (mRm y) s m args below meth cd H locs w.2.1 w.2.2 Q (F0 m pc ls (st.map (zrv b base)))
theorem zif_some {c : Bool} {a : zA} {r : zF ⊕ ((zF × (zR → zF)) ⊕ zR)} (h : zif c a = some r) : c = true ∧ a = some r := by
  unfold zif at h
  split at h
  · next hc => exact ⟨hc, h⟩
  · cases h
theorem zgo_some {y pc : Nat} {L : zL} {st : List Value} {w : zN} {h : zH} {r : zF ⊕ ((zF × (zR → zF)) ⊕ zR)} (e : zgo y pc L st w h = some r) : r = .inl (y, pc, L, st, w, h) := (Option.some.inj e).symm
theorem zjmp_some {pc : Nat} {off : Int} {f : Nat → zA} {r : zF ⊕ ((zF × (zR → zF)) ⊕ zR)} (h : zjmp pc off f = some r) : ∃ t : Nat, (pc : Int) + off = (t : Int) ∧ f t = some r := by
  unfold zjmp at h
  split at h
  · next hc => exact ⟨((pc : Int) + off).toNat, (Int.toNat_of_nonneg hc).symm, h⟩
  · cases h
section ZSS
variable {p : Program} {l : Launch} {e : Env} {s : State} {m : MethodId} {args : Array Value} {below : List Frame} {meth : Method} {cd : Code} {Q : State → Prop} {D : va_G} {b base : Nat} {ca : FieldType → ClassId} {X : Nat × (Nat → Int32)} {y pc len : Nat} {L : zL} {st : List Value} {w : zN} {h : zH} {r : zF ⊕ ((zF × (zR → zF)) ⊕ zR)}
/-- the step's own claim: it goes on in the same method, and what is good there is good here -/
def zOK (p : Program) (l : Launch) (e : Env) (s : State) (m : MethodId) (args : Array Value) (below : List Frame) (meth : Method) (cd : Code) (Q : State → Prop) (D : va_G) (b base : Nat) (ca : FieldType → ClassId) (y pc : Nat) (L : zL) (st : List Value) (w : zN) (h : zH) (r : zF ⊕ ((zF × (zR → zF)) ⊕ zR)) : Prop :=
  ∃ (pc' : Nat) (L' : zL) (st' : List Value) (w' : zN) (h' : zH), r = .inl (y, pc', L', st', w', h') ∧ (zG p l e s m args below meth cd Q D b base ca y pc' L' st' w' h' → zG p l e s m args below meth cd Q D b base ca y pc L st w h)
theorem zs_push {n : Nat} {v : Value} (hs : zgo y (pc + n) L (v :: st) w h = some r) (row : ∀ {H : Heap} {locs : List Loc} {ls : Array Slot} {rest : List Value}, W p l e (mRm y) s m args below meth cd H locs w.2.1 w.2.2 Q (F0 m (pc + n) ls (zrv b base v :: rest)) → W p l e (mRm y) s m args below meth cd H locs w.2.1 w.2.2 Q (F0 m pc ls rest)) : zOK p l e s m args below meth cd Q D b base ca y pc L st w h r := by
  rw [zgo_some hs]
  exact ⟨_, _, _, _, _, rfl, fun k ls H locs h1 h2 h3 h4 h5 h6 => row (k ls H locs h1 h2 h3 h4 h5 h6)⟩
theorem zs_i2 {f : Int32 → Int32 → Int32} (hs : zi2 y pc L st w h f = some r) (row : ∀ {H : Heap} {locs : List Loc} {ls : Array Slot} {rest : List Value} {a c : Int32}, W p l e (mRm y) s m args below meth cd H locs w.2.1 w.2.2 Q (F0 m (pc + 1) ls (.int (f a c) :: rest)) → W p l e (mRm y) s m args below meth cd H locs w.2.1 w.2.2 Q (F0 m pc ls (.int c :: .int a :: rest))) : zOK p l e s m args below meth cd Q D b base ca y pc L st w h r := by
  unfold zi2 at hs
  split at hs
  · rw [zgo_some hs]
    exact ⟨_, _, _, _, _, rfl, fun k ls H locs h1 h2 h3 h4 h5 h6 => row (k ls H locs h1 h2 h3 h4 h5 h6)⟩
  · cases hs
theorem zs_l2 {f : Int64 → Int64 → Int64} (hs : zl2 y pc L st w h f = some r) (row : ∀ {H : Heap} {locs : List Loc} {ls : Array Slot} {rest : List Value} {a c : Int64}, W p l e (mRm y) s m args below meth cd H locs w.2.1 w.2.2 Q (F0 m (pc + 1) ls (.long (f a c) :: rest)) → W p l e (mRm y) s m args below meth cd H locs w.2.1 w.2.2 Q (F0 m pc ls (.long c :: .long a :: rest))) : zOK p l e s m args below meth cd Q D b base ca y pc L st w h r := by
  unfold zl2 at hs
  split at hs
  · rw [zgo_some hs]
    exact ⟨_, _, _, _, _, rfl, fun k ls H locs h1 h2 h3 h4 h5 h6 => row (k ls H locs h1 h2 h3 h4 h5 h6)⟩
  · cases hs
/-- a load of a local -/
theorem zs_ld {n i : Nat} {v : Value} (hv : L[i]? = some (some v)) (hs : zgo y (pc + n) L (v :: st) w h = some r) (row : ∀ {H : Heap} {locs : List Loc} {ls : Array Slot} {rest : List Value}, ls[i]? = some (.val (zrv b base v)) → W p l e (mRm y) s m args below meth cd H locs w.2.1 w.2.2 Q (F0 m (pc + n) ls (zrv b base v :: rest)) → W p l e (mRm y) s m args below meth cd H locs w.2.1 w.2.2 Q (F0 m pc ls rest)) : zOK p l e s m args below meth cd Q D b base ca y pc L st w h r := by
  rw [zgo_some hs]
  exact ⟨_, _, _, _, _, rfl, fun k ls H locs h1 h2 h3 h4 h5 h6 => row (zlv_get h1 hv) (k ls H locs h1 h2 h3 h4 h5 h6)⟩
/-- a store into a local, of one place -/
theorem zs_st {n i : Nat} {v : Value} {st0 : List Value} (hc : v.category = 1) (hi : zst y i = true) (hs : zgo y (pc + n) (L.set i (some v)) st0 w h = some r) (hst : st = v :: st0) (row : ∀ {H : Heap} {locs : List Loc} {ls : Array Slot} {rest : List Value} {lv' : List (Nat × Value)}, lv_has ls (mL y) (zlv b base L) → i < mL y → (i, zrv b base v) :: (zlv b base L).filter (fun q => !(q.1 == i) && !(q.1 + 1 == i && q.2.category == 2)) = lv' → (∀ ls' : Array Slot, lv_has ls' (mL y) lv' → W p l e (mRm y) s m args below meth cd H locs w.2.1 w.2.2 Q (F0 m (pc + n) ls' rest)) → W p l e (mRm y) s m args below meth cd H locs w.2.1 w.2.2 Q (F0 m pc ls (zrv b base v :: rest))) : zOK p l e s m args below meth cd Q D b base ca y pc L st w h r := by
  subst hst
  rw [zgo_some hs]
  refine ⟨_, _, _, _, _, rfl, fun k ls H locs h1 h2 h3 h4 h5 h6 => row h1 (zst_spec hi).1 rfl (fun ls' hl' => ?_)⟩
  obtain ⟨g1, g2⟩ := zset1 (b := b) (base := base) (v := v) hc h2 hi
  exact k ls' H locs (zlv_of hl' g1) g2 h3 h4 h5 h6
theorem zs_br {off : Int} {c : Prop} [Decidable c] {st0 : List Value} (hs : zbr y pc L st0 w h c off = some r) (row : ∀ {H : Heap} {locs : List Loc} {ls : Array Slot} {tgt : Nat}, (pc : Int) + off = (tgt : Int) → (c → W p l e (mRm y) s m args below meth cd H locs w.2.1 w.2.2 Q (F0 m tgt ls (st0.map (zrv b base)))) → (¬ c → W p l e (mRm y) s m args below meth cd H locs w.2.1 w.2.2 Q (F0 m (pc + 3) ls (st0.map (zrv b base)))) → W p l e (mRm y) s m args below meth cd H locs w.2.1 w.2.2 Q (F0 m pc ls (st.map (zrv b base)))) : zOK p l e s m args below meth cd Q D b base ca y pc L st w h r := by
  unfold zbr at hs
  obtain ⟨t, ht, hs⟩ := zjmp_some hs
  split at hs
  · next hc =>
    rw [zgo_some hs]
    exact ⟨_, _, _, _, _, rfl, fun k ls H locs h1 h2 h3 h4 h5 h6 => row ht (fun _ => k ls H locs h1 h2 h3 h4 h5 h6) (fun hn => absurd hc hn)⟩
  · next hc =>
    rw [zgo_some hs]
    exact ⟨_, _, _, _, _, rfl, fun k ls H locs h1 h2 h3 h4 h5 h6 => row ht (fun hn => absurd hn hc) (fun _ => k ls H locs h1 h2 h3 h4 h5 h6)⟩
end ZSS
theorem zki_ok {c i : Nat} {v : Int32 × Nat} (hv : zki? c i = some v) : Cond.constant (zcn.getD c "") i v.1 ∈ lw_tbl ∧ ztw (Cond.constant (zcn.getD c "") i v.1) = true := by
  have h := List.all_eq_true.mp zki_all _ (zlk _ _ _ hv)
  simp only [Bool.and_eq_true, decide_eq_true_eq] at h
  exact ⟨List.mem_of_getElem? h.1, h.2⟩
theorem zkl_ok {c i : Nat} {v : Int64 × Nat} (hv : zkl? c i = some v) : Cond.constantLong (zcn.getD c "") i v.1 ∈ lw_tbl ∧ ztw (Cond.constantLong (zcn.getD c "") i v.1) = true := by
  have h := List.all_eq_true.mp zkl_all _ (zlk _ _ _ hv)
  simp only [Bool.and_eq_true, decide_eq_true_eq] at h
  exact ⟨List.mem_of_getElem? h.1, h.2⟩
theorem zol_ok {c i v : Nat} (hv : zol? c i = some v) : Cond.methodLink (zcn.getD c "") i objectInit ∈ lw_tbl ∧ ztw (Cond.methodLink (zcn.getD c "") i objectInit) = true := by
  have h := List.all_eq_true.mp zol_all _ (zlk _ _ _ hv)
  simp only [Bool.and_eq_true, decide_eq_true_eq] at h
  exact ⟨List.mem_of_getElem? h.1, h.2⟩
theorem zcl_ok {c i : Nat} {v : Nat × Nat} (hv : zcl? c i = some v) : Cond.classLink (zcn.getD c "") i (zcn.getD v.1 "") ∈ lw_tbl ∧ ztw (Cond.classLink (zcn.getD c "") i (zcn.getD v.1 "")) = true ∧ v.1 < 11 := by
  have h := List.all_eq_true.mp zcl_all _ (zlk _ _ _ hv)
  simp only [Bool.and_eq_true, decide_eq_true_eq] at h
  exact ⟨List.mem_of_getElem? h.1.1, h.1.2, h.2⟩
theorem zfl_ok {c i : Nat} {f : Nat × Nat × Bool × Nat} (hv : zfl? c i = some f) : zfw c i f ∈ lw_tbl ∧ ztw (zfw c i f) = true ∧ f.1 < 11 ∧ f.2.1 < zTn f.1 := by
  have h := List.all_eq_true.mp zfl_all _ (zlk _ _ _ hv)
  simp only [Bool.and_eq_true, decide_eq_true_eq] at h
  exact ⟨List.mem_of_getElem? h.1.1.1, h.1.1.2, h.1.2, h.2⟩
theorem zint_some {L : zL} {i : Nat} {v : Value} (h : zint L i = some v) : ∃ x, v = .int x ∧ L[i]? = some (some (.int x)) := by
  unfold zint at h
  split at h
  · next x hx => cases h; exact ⟨x, rfl, hx⟩
  · cases h
theorem zlong_some {L : zL} {i : Nat} {v : Value} (h : zlong L i = some v) : ∃ x, v = .long x ∧ L[i]? = some (some (.long x)) := by
  unfold zlong at h
  split at h
  · next x hx => cases h; exact ⟨x, rfl, hx⟩
  · cases h
theorem zref_some {L : zL} {i : Nat} {v : Value} (h : zref L i = some v) (b base : Nat) : (∃ a, zrv b base v = .ref a) ∧ L[i]? = some (some v) := by
  unfold zref at h
  split at h
  · next x hx => cases h; exact ⟨⟨_, rfl⟩, hx⟩
  · next x hx => cases h; exact ⟨⟨_, rfl⟩, hx⟩
  · cases h
theorem zld_some {y pc n : Nat} {L : zL} {st : List Value} {w : zN} {h : zH} {v : Option Value} {r : zF ⊕ ((zF × (zR → zF)) ⊕ zR)} (hs : zld y pc n L st w h v = some r) : ∃ v', v = some v' ∧ zgo y (pc + n) L (v' :: st) w h = some r := by
  unfold zld at hs
  split at hs
  · exact ⟨_, rfl, hs⟩
  · cases hs
/-- all words that hold -/
def zTs : List Cond := lw_tbl.filter ztw
theorem zTs_in {w : Cond} (h : w ∈ lw_tbl ∧ ztw w = true) : w ∈ zTs := List.mem_filter.mpr h
theorem zT.all {s : State} (hT : zT s) (args : Array Value) : ∀ w ∈ zTs, w.before args s = true := fun w hw => hT.use (List.mem_filter.mp hw).1 (List.mem_filter.mp hw).2 args
theorem zfit_spec {ty : FieldType} {v : Value} (h : zfit ty v = true) (b base : Nat) : narrow ty (zrv b base v) = zrv b base v ∧ fits ty (zrv b base v) = true := by
  unfold zfit at h
  split at h
  · exact ⟨rfl, rfl⟩
  · exact ⟨rfl, rfl⟩
  · next x =>
    simp only [Bool.or_eq_true, beq_iff_eq] at h
    rcases h with rfl | rfl <;> exact ⟨rfl, rfl⟩
  · exact ⟨rfl, rfl⟩
  · exact ⟨rfl, rfl⟩
  · cases h
section ZSG
variable {p : Program} {l : Launch} {e : Env} {s : State} {m : MethodId} {args : Array Value} {below : List Frame} {meth : Method} {cd : Code} {Q : State → Prop} {D : va_G} {b base : Nat} {ca : FieldType → ClassId} {X : Nat × (Nat → Int32)} {y pc len : Nat} {L : zL} {st : List Value} {w : zN} {h : zH} {r : zF ⊕ ((zF × (zR → zF)) ⊕ zR)}
theorem zs_getfield (C : zX p s m args meth cd b base X y) {k : Nat} (hd : decode (mB y) pc = .ok (.getfield k, 3)) {f : Nat × Nat × Bool × Nat} (hf : zfl? (mC y) k = some f) {a : Nat} {st0 : List Value} {fs : List Value} {v : Value} (ha : h a = .inr (f.1, fs)) (hv : fs[f.2.1]? = some v) (hst : st = .ref a :: st0) (hs : zgo y (pc + 3) L (v :: st0) w h = some r) : zOK p l e s m args below meth cd Q D b base ca y pc L st w h r := by
  subst hst
  obtain ⟨hx, hb, hml, hr, hlk, hown, hT, harr, hnm, h0⟩ := C
  obtain ⟨g1, g2, g3, g4⟩ := zfl_ok hf
  obtain ⟨c1, c2, c3, c4, c5, c6, c7, c8, c9⟩ := zcok f.1 g3
  rw [zgo_some hs]
  refine ⟨_, _, _, _, _, rfl, fun kk ls H locs h1 h2 h3 h4 h5 h6 => ?_⟩
  have hv' : (fs.map (zrv b base))[f.2.1]? = some (zrv b base v) := by rw [List.getElem?_map, hv]; rfl
  have hlink := hT.use g1 g2 args
  unfold zfw at hlink
  split at hlink
  · exact va_getN (D := D) (tys := []) hx hb (hT.all args) (fun w hw => zTs_in (c2 w hw)) hown h3.2.1 h3.1 a (h3.obj ha (by omega)) c1 f.2.1 g4 hlink (fun _ h9 => h9) hv' hd (kk ls H locs h1 h2 h3 h4 h5 h6)
  · exact va_get (D := D) (tys := []) hx hb (hT.all args) (fun w hw => zTs_in (c2 w hw)) hown h3.2.1 h3.1 a (h3.obj ha (by omega)) c1 f.2.1 g4 hlink (fun _ h9 => h9) hv' hd (kk ls H locs h1 h2 h3 h4 h5 h6)
theorem zs_putfield (C : zX p s m args meth cd b base X y) {k : Nat} (hd : decode (mB y) pc = .ok (.putfield k, 3)) {f : Nat × Nat × Bool × Nat} (hf : zfl? (mC y) k = some f) {a : Nat} {st0 : List Value} {fs : List Value} {v : Value} (ha : h a = .inr (f.1, fs)) (hl : f.2.1 < fs.length) (hfit : zfit (zty f.1 f.2.1) v = true) (hfin : (zTT f.1 f.2.1).2.2.2 = false ∨ (f.2.2.1 = false ∧ (zTT f.1 f.2.1).2.2.2 = true ∧ (mN y).name = "<init>" ∧ (zTT f.1 f.2.1).1 = zcn.getD (mC y) "")) (hst : st = v :: .ref a :: st0) (hs : zgo y (pc + 3) L st0 w (va_up h a (.inr (f.1, fs.set f.2.1 v))) = some r) : zOK p l e s m args below meth cd Q D b base ca y pc L st w h r := by
  subst hst
  obtain ⟨hx, hb, hml, hr, hlk, hown, hT, harr, hnm, h0⟩ := C
  obtain ⟨g1, g2, g3, g4⟩ := zfl_ok hf
  obtain ⟨c1, c2, c3, c4, c5, c6, c7, c8, c9⟩ := zcok f.1 g3
  rw [zgo_some hs]
  refine ⟨_, _, _, _, _, rfl, fun kk ls H locs h1 h2 h3 h4 h5 h6 => ?_⟩
  have hlink := hT.use g1 g2 args
  unfold zfw at hlink
  obtain ⟨n1, n2⟩ := zfit_spec hfit b base
  refine zput (D := D) (tys := []) f.2.2.1 hx hb (hT.all args) (fun w hw => zTs_in (c2 w hw)) (zty f.1) c3 c4 hown h3.2.1 h3.1 (zrw_D b base ca w.1 h) h4 a (h3.obj ha (by omega)) c1 f.2.1 g4 hlink ?_ n1 n2 (by rw [List.length_map]; exact hl) hd (fun H1 locs1 z1 z2 z3 => ?_)
  · rcases hfin with q | ⟨q1, q2, q3, q4⟩
    · exact Or.inl q
    · exact Or.inr ⟨q1, q2, hnm q3, q4⟩
  · refine kk ls H1 locs1 h1 h2 (h3.put (h3.obj_lt ha (by omega)) (fun ty n f' he => by cases he) z1 ?_) z3 h5 h6
    rw [← List.map_set] at z2
    exact z2
theorem zs_iaload (C : zX p s m args meth cd b base X y) (hd : decode (mB y) pc = .ok (.iaload, 1)) {a n : Nat} {st0 : List Value} {f : Nat → Int32} {i : Int32} (ha : h a = .inl (.int, n, f)) (hin : ¬ (i < 0 ∨ n ≤ i.toNatClampNeg)) (hst : st = .int i :: .ref a :: st0) (hs : zgo y (pc + 1) L (.int (f i.toNatClampNeg) :: st0) w h = some r) : zOK p l e s m args below meth cd Q D b base ca y pc L st w h r := by
  subst hst
  obtain ⟨hx, hb, -⟩ := C
  rw [zgo_some hs]
  refine ⟨_, _, _, _, _, rfl, fun kk ls H locs h1 h2 h3 h4 h5 h6 => ?_⟩
  obtain ⟨g1, g2⟩ := h3.arr ha
  exact va_iald hx hb g2 h3.1 a 0 g1 rfl hin hd (kk ls H locs h1 h2 h3 h4 h5 h6)
theorem zs_baload (C : zX p s m args meth cd b base X y) (hd : decode (mB y) pc = .ok (.baload, 1)) {a n : Nat} {st0 : List Value} {ty : FieldType} (hty : ty = .byte ∨ ty = .boolean) {f : Nat → Int32} {i : Int32} (ha : h a = .inl (ty, n, f)) (hin : ¬ (i < 0 ∨ n ≤ i.toNatClampNeg)) (hst : st = .int i :: .ref a :: st0) (hs : zgo y (pc + 1) L (.int (f i.toNatClampNeg) :: st0) w h = some r) : zOK p l e s m args below meth cd Q D b base ca y pc L st w h r := by
  subst hst
  obtain ⟨hx, hb, -⟩ := C
  rw [zgo_some hs]
  refine ⟨_, _, _, _, _, rfl, fun kk ls H locs h1 h2 h3 h4 h5 h6 => ?_⟩
  obtain ⟨g1, g2⟩ := h3.arr ha
  rcases hty with rfl | rfl
  · exact va_bald hx hb g2 h3.1 a 0 g1 rfl hin hd (kk ls H locs h1 h2 h3 h4 h5 h6)
  · exact va_zald hx hb g2 h3.1 a 0 g1 rfl hin hd (kk ls H locs h1 h2 h3 h4 h5 h6)
theorem zs_alen (C : zX p s m args meth cd b base X y) (hd : decode (mB y) pc = .ok (.arraylength, 1)) {a n : Nat} {st0 : List Value} {ty : FieldType} {f : Nat → Int32} (ha : h a = .inl (ty, n, f)) (hst : st = .ref a :: st0) (hs : zgo y (pc + 1) L (.int (Int32.ofNat n) :: st0) w h = some r) : zOK p l e s m args below meth cd Q D b base ca y pc L st w h r := by
  subst hst
  obtain ⟨hx, hb, -⟩ := C
  rw [zgo_some hs]
  refine ⟨_, _, _, _, _, rfl, fun kk ls H locs h1 h2 h3 h4 h5 h6 => ?_⟩
  obtain ⟨g1, g2⟩ := h3.arr ha
  exact va_alen hx hb g2 h3.1 a 0 g1 rfl rfl hd (kk ls H locs h1 h2 h3 h4 h5 h6)
theorem zs_iastore (C : zX p s m args meth cd b base X y) (hd : decode (mB y) pc = .ok (.iastore, 1)) {a n : Nat} {st0 : List Value} {f : Nat → Int32} {i x : Int32} (ha : h a = .inl (.int, n, f)) (hin : ¬ (i < 0 ∨ n ≤ i.toNatClampNeg)) (hst : st = .int x :: .int i :: .ref a :: st0) (hs : zgo y (pc + 1) L st0 w (va_up h a (.inl (.int, n, upd f i.toNatClampNeg x))) = some r) : zOK p l e s m args below meth cd Q D b base ca y pc L st w h r := by
  subst hst
  obtain ⟨hx, hb, -⟩ := C
  rw [zgo_some hs]
  exact ⟨_, _, _, _, _, rfl, fun kk ls H locs h1 h2 h3 h4 h5 h6 => ziast hx hb h3 h4 ha hin hd (fun H1 locs1 z1 z2 => kk ls H1 locs1 h1 h2 z1 z2 h5 h6)⟩
theorem zs_bastore (C : zX p s m args meth cd b base X y) (hd : decode (mB y) pc = .ok (.bastore, 1)) {a n : Nat} {st0 : List Value} {ty : FieldType} (hty : ty = .byte ∨ ty = .boolean) {f : Nat → Int32} {i x : Int32} (ha : h a = .inl (ty, n, f)) (hin : ¬ (i < 0 ∨ n ≤ i.toNatClampNeg)) (hst : st = .int x :: .int i :: .ref a :: st0) (hs : zgo y (pc + 1) L st0 w (va_up h a (.inl (ty, n, upd f i.toNatClampNeg (vp_nar ty x)))) = some r) : zOK p l e s m args below meth cd Q D b base ca y pc L st w h r := by
  subst hst
  obtain ⟨hx, hb, -⟩ := C
  rw [zgo_some hs]
  exact ⟨_, _, _, _, _, rfl, fun kk ls H locs h1 h2 h3 h4 h5 h6 => zbast hx hb h3 h4 hty ha hin hd (fun H1 locs1 z1 z2 => kk ls H1 locs1 h1 h2 z1 z2 h5 h6)⟩
theorem zs_new (C : zX p s m args meth cd b base X y) {k : Nat} (hd : decode (mB y) pc = .ok (.new k, 3)) {c : Nat × Nat} (hc : zcl? (mC y) k = some c) (hcs : w.2.1 + 1 ≤ (mRm y).cells) (hss : w.2.2 + (zdf c.1).length ≤ (mRm y).slots) (hs : zgo y (pc + 3) L (.ref w.1 :: st) (w.1 + 1, w.2.1 + 1, w.2.2 + (zdf c.1).length) (va_up h w.1 (.inr (c.1, zdf c.1))) = some r) : zOK p l e s m args below meth cd Q D b base ca y pc L st w h r := by
  obtain ⟨hx, hb, hml, hr, hlk, hown, hT, harr, hnm, h0⟩ := C
  obtain ⟨g1, g2, g3⟩ := zcl_ok hc
  obtain ⟨c1, c2, c3, c4, c5, c6, c7, c8, c9⟩ := zcok c.1 g3
  rw [zgo_some hs]
  refine ⟨_, _, _, _, _, rfl, fun kk ls H locs h1 h2 h3 h4 h5 h6 => ?_⟩
  refine znew (M := zTn c.1) (ci := c.1) (fs := zdf c.1) hx hb (hT.all args) (fun w hw => zTs_in (c2 w hw)) (zty c.1) c3 hown (hT.use g1 g2 args) (hT.use c8 rfl args) (hT.use c9 rfl args) h3 h4 c1 (fun j hj => ?_) hcs (by rw [← c5]; exact hss) hd (fun H1 z1 z2 => ?_)
  · have e1 := c6 j hj
    unfold vp_V
    rw [List.getD_eq_getElem?_getD, List.getElem?_map, ← e1]
    exact (c7 j hj b base).symm
  · have := kk ls H1 locs h1 h2 z1 z2 hcs hss
    rw [c5] at this
    exact this
theorem zs_newarray (C : zX p s m args meth cd b base X y) {t : ArrayType} (hd : decode (mB y) pc = .ok (.newarray t, 2)) {n : Int32} {st0 : List Value} (hty : newarray.typeOf t = FieldType.int ∨ newarray.typeOf t = .byte ∨ newarray.typeOf t = .boolean) (hn : ¬ n < 0) (hsm : n.toNatClampNeg ≤ 1000) (hcs : w.2.1 + 1 ≤ (mRm y).cells) (hss : w.2.2 + n.toNatClampNeg ≤ (mRm y).slots) (hst : st = .int n :: st0) (hs : zgo y (pc + 2) L (.ref w.1 :: st0) (w.1 + 1, w.2.1 + 1, w.2.2 + n.toNatClampNeg) (va_up h w.1 (.inl (newarray.typeOf t, n.toNatClampNeg, fun _ => 0))) = some r) : zOK p l e s m args below meth cd Q D b base ca y pc L st w h r := by
  subst hst
  obtain ⟨hx, hb, hml, hr, hlk, hown, hT, harr, hnm, h0⟩ := C
  rw [zgo_some hs]
  exact ⟨_, _, _, _, _, rfl, fun kk ls H locs h1 h2 h3 h4 h5 h6 => znewa hx hb hty (harr _ hty) h3 h4 hn hsm hcs hss hd (fun H1 z1 z2 => kk ls H1 locs h1 h2 z1 z2 hcs hss)⟩
theorem zs_objinit (C : zX p s m args meth cd b base X y) {k : Nat} (hd : decode (mB y) pc = .ok (.invokespecial k, 3)) {q a : Nat} (hq : zol? (mC y) k = some q) {st0 : List Value} (hfr : 1 ≤ (mRm y).frames) (hlo : zcw st0 + 12 ≤ (mRm y).locals) (hst : st = .ref a :: st0) (hs : zgo y (pc + 3) L st0 w h = some r) : zOK p l e s m args below meth cd Q D b base ca y pc L st w h r := by
  subst hst
  obtain ⟨hx, hb, hml, hr, hlk, hown, hT, harr, hnm, h0⟩ := C
  obtain ⟨g1, g2⟩ := zol_ok hq
  rw [zgo_some hs]
  refine ⟨_, _, _, _, _, rfl, fun kk ls H locs h1 h2 h3 h4 h5 h6 => ?_⟩
  have hcat : ((st0.map (zrv b base)).map fun v => v.category).sum = zcw st0 := by
    unfold zcw
    rw [List.map_map]
    congr 1
    apply List.map_congr_left
    intro v _
    exact zrv_cat b base v
  refine W.objInit hx hb hown (hT.use g1 g2 args) (hT.use zo1 zo3 args) (hT.use zo2 zo4 args) rfl (by rw [hml]; exact h1.1) rfl hd hfr ?_ ?_
  · show 2 * 0 + ((st0.map (zrv b base)).map fun v => v.category).sum + 12 ≤ _
    rw [hcat]; omega
  · exact kk ls H locs h1 h2 h3 h4 h5 h6
end ZSG
end
section
-- every step; calls; the whole run
section ZSA
variable {p : Program} {l : Launch} {e : Env} {s : State} {m : MethodId} {args : Array Value} {below : List Frame} {meth : Method} {cd : Code} {Q : State → Prop} {D : va_G} {b base : Nat} {ca : FieldType → ClassId} {X : Nat × (Nat → Int32)} {y pc len : Nat} {L : zL} {st : List Value} {w : zN} {h : zH} {c' : zF}
theorem zs_if (C : zX p s m args meth cd b base X y) {cn : Jvm.ClassFile.Cond} {off : Int} {x : Int32} {st0 : List Value} (hd : decode (mB y) pc = .ok (.ifCond cn off, 3)) (hs : zbr y pc L st0 w h (zcond1 cn x = true) off = some (.inl c')) : zOK p l e s m args below meth cd Q D b base ca y pc L (.int x :: st0) w h (.inl c') := by
  obtain ⟨hx, hb, -⟩ := C
  cases cn
  · exact zs_br hs (fun ht kt kf => lv_if_eq hx hb hd ht (fun hc => kt (decide_eq_true hc)) (fun hc => kf (fun hn => hc (of_decide_eq_true hn))))
  · exact zs_br hs (fun ht kt kf => lv_if_ne hx hb hd ht (fun hc => kt (decide_eq_true hc)) (fun hc => kf (fun hn => of_decide_eq_true hn hc)))
  · exact zs_br hs (fun ht kt kf => lv_if_lt hx hb hd ht (fun hc => kt (decide_eq_true hc)) (fun hc => kf (fun hn => hc (of_decide_eq_true hn))))
  · exact zs_br hs (fun ht kt kf => lv_if_ge hx hb hd ht (fun hc => kt (decide_eq_true hc)) (fun hc => kf (fun hn => hc (of_decide_eq_true hn))))
  · exact zs_br hs (fun ht kt kf => lv_if_gt hx hb hd ht (fun hc => kt (decide_eq_true hc)) (fun hc => kf (fun hn => hc (of_decide_eq_true hn))))
  · exact zs_br hs (fun ht kt kf => lv_if_le hx hb hd ht (fun hc => kt (decide_eq_true hc)) (fun hc => kf (fun hn => hc (of_decide_eq_true hn))))
theorem zs_icmp (C : zX p s m args meth cd b base X y) {cn : Jvm.ClassFile.Cond} {off : Int} {x z : Int32} {st0 : List Value} (hd : decode (mB y) pc = .ok (.if_icmp cn off, 3)) (hs : zbr y pc L st0 w h (zcond2 cn x z = true) off = some (.inl c')) : zOK p l e s m args below meth cd Q D b base ca y pc L (.int z :: .int x :: st0) w h (.inl c') := by
  obtain ⟨hx, hb, -⟩ := C
  cases cn
  · exact zs_br hs (fun ht kt kf => lv_icmp_eq hx hb hd ht (fun hc => kt (decide_eq_true hc)) (fun hc => kf (fun hn => hc (of_decide_eq_true hn))))
  · exact zs_br hs (fun ht kt kf => lv_icmp_ne hx hb hd ht (fun hc => kt (decide_eq_true hc)) (fun hc => kf (fun hn => of_decide_eq_true hn hc)))
  · exact zs_br hs (fun ht kt kf => lv_icmp_lt hx hb hd ht (fun hc => kt (decide_eq_true hc)) (fun hc => kf (fun hn => hc (of_decide_eq_true hn))))
  · exact zs_br hs (fun ht kt kf => lv_icmp_ge hx hb hd ht (fun hc => kt (decide_eq_true hc)) (fun hc => kf (fun hn => hc (of_decide_eq_true hn))))
  · exact zs_br hs (fun ht kt kf => lv_icmp_gt hx hb hd ht (fun hc => kt (decide_eq_true hc)) (fun hc => kf (fun hn => hc (of_decide_eq_true hn))))
  · exact zs_br hs (fun ht kt kf => lv_icmp_le hx hb hd ht (fun hc => kt (decide_eq_true hc)) (fun hc => kf (fun hn => hc (of_decide_eq_true hn))))
theorem zcall_inl {rest as : List Value} {z : Nat} (hs : zcall y pc L rest w h z as = some (.inl c')) : False := by
  unfold zcall at hs
  split at hs <;> cases hs
set_option maxHeartbeats 4000000 in
theorem zs_go (C : zX p s m args meth cd b base X y) {i : Instr} (hd : decode (mB y) pc = .ok (i, len)) (hs : zI X y pc L st w h i len = some (.inl c')) : zOK p l e s m args below meth cd Q D b base ca y pc L st w h (.inl c') := by
  have C0 := C
  obtain ⟨hx, hb, hml, hr, hlk, hown, hT, harr, hnm, h0⟩ := C
  cases i with
  | iconst n =>
    obtain ⟨hl, hs0⟩ := zif_some hs; clear hs; have hs := hs0; clear hs0
    obtain rfl := eq_of_beq hl
    exact zs_push hs (fun k => lv_iconst hx hb hd rfl k)
  | bipush n =>
    obtain ⟨hl, hs0⟩ := zif_some hs; clear hs; have hs := hs0; clear hs0
    obtain rfl := eq_of_beq hl
    exact zs_push hs (fun k => lv_bipush hx hb hd rfl k)
  | sipush n =>
    obtain ⟨hl, hs0⟩ := zif_some hs; clear hs; have hs := hs0; clear hs0
    obtain rfl := eq_of_beq hl
    exact zs_push hs (fun k => lv_sipush hx hb hd rfl k)
  | lconst n =>
    obtain ⟨hl, hs0⟩ := zif_some hs; clear hs; have hs := hs0; clear hs0
    obtain rfl := eq_of_beq hl
    exact zs_push hs (fun k => lv_lconst hx hb hd rfl k)
  | ldc k =>
    obtain ⟨hl, hs0⟩ := zif_some hs; clear hs; have hs := hs0; clear hs0
    obtain rfl := eq_of_beq hl
    split at hs
    · next v hv => exact zs_push hs (fun k => lv_ldc hx hb hown (hT.use (zki_ok hv).1 (zki_ok hv).2 args) hd k)
    · cases hs
  | ldc_w k =>
    obtain ⟨hl, hs0⟩ := zif_some hs; clear hs; have hs := hs0; clear hs0
    obtain rfl := eq_of_beq hl
    split at hs
    · next v hv => exact zs_push hs (fun k => lv_ldcw hx hb hown (hT.use (zki_ok hv).1 (zki_ok hv).2 args) hd k)
    · cases hs
  | ldc2_w k =>
    obtain ⟨hl, hs0⟩ := zif_some hs; clear hs; have hs := hs0; clear hs0
    obtain rfl := eq_of_beq hl
    split at hs
    · next v hv => exact zs_push hs (fun k => lv_ldc2 hx hb hown (hT.use (zkl_ok hv).1 (zkl_ok hv).2 args) hd k)
    · cases hs
  | iload_n k =>
    obtain ⟨hl, hs0⟩ := zif_some hs; clear hs; have hs := hs0; clear hs0
    obtain rfl := eq_of_beq hl
    obtain ⟨v, hv0, hs⟩ := zld_some hs
    obtain ⟨x, rfl, hv⟩ := zint_some hv0
    exact zs_ld hv hs (fun hl k => lv_iload_n hx hb hd rfl hl k)
  | iload k =>
    obtain ⟨hl, hs0⟩ := zif_some hs; clear hs; have hs := hs0; clear hs0
    obtain rfl := eq_of_beq hl
    obtain ⟨v, hv0, hs⟩ := zld_some hs
    obtain ⟨x, rfl, hv⟩ := zint_some hv0
    exact zs_ld hv hs (fun hl k => lv_iload hx hb hd hl k)
  | lload_n k =>
    obtain ⟨hl, hs0⟩ := zif_some hs; clear hs; have hs := hs0; clear hs0
    obtain rfl := eq_of_beq hl
    obtain ⟨v, hv0, hs⟩ := zld_some hs
    obtain ⟨x, rfl, hv⟩ := zlong_some hv0
    exact zs_ld hv hs (fun hl k => lv_lload_n hx hb hd rfl hl k)
  | lload k =>
    obtain ⟨hl, hs0⟩ := zif_some hs; clear hs; have hs := hs0; clear hs0
    obtain rfl := eq_of_beq hl
    obtain ⟨v, hv0, hs⟩ := zld_some hs
    obtain ⟨x, rfl, hv⟩ := zlong_some hv0
    exact zs_ld hv hs (fun hl k => lv_lload hx hb hd hl k)
  | aload_n k =>
    obtain ⟨hl, hs0⟩ := zif_some hs; clear hs; have hs := hs0; clear hs0
    obtain rfl := eq_of_beq hl
    obtain ⟨v, hv0, hs⟩ := zld_some hs
    obtain ⟨⟨a, ha⟩, hv⟩ := zref_some hv0 b base
    exact zs_ld hv hs (fun hl k => by rw [ha] at hl k; exact lv_aload_n hx hb hd rfl hl k)
  | aload k =>
    obtain ⟨hl, hs0⟩ := zif_some hs; clear hs; have hs := hs0; clear hs0
    obtain rfl := eq_of_beq hl
    obtain ⟨v, hv0, hs⟩ := zld_some hs
    obtain ⟨⟨a, ha⟩, hv⟩ := zref_some hv0 b base
    exact zs_ld hv hs (fun hl k => by rw [ha] at hl k; exact lv_aload hx hb hd hl k)
  | istore_n k =>
    obtain ⟨hl, hs0⟩ := zif_some hs; clear hs; have hs := hs0; clear hs0
    obtain rfl := eq_of_beq hl
    unfold zist at hs
    split at hs
    · obtain ⟨hi, hs⟩ := zif_some hs
      exact zs_st (v := .int _) rfl hi hs rfl (fun g1 g2 g3 g4 => lv_istore_n hx hb hd rfl g1 g2 g3 g4)
    · cases hs
  | istore k =>
    obtain ⟨hl, hs0⟩ := zif_some hs; clear hs; have hs := hs0; clear hs0
    obtain rfl := eq_of_beq hl
    unfold zist at hs
    split at hs
    · obtain ⟨hi, hs⟩ := zif_some hs
      exact zs_st (v := .int _) rfl hi hs rfl (fun g1 g2 g3 g4 => lv_istore hx hb hd g1 g2 g3 g4)
    · cases hs
  | astore_n k =>
    obtain ⟨hl, hs0⟩ := zif_some hs; clear hs; have hs := hs0; clear hs0
    obtain rfl := eq_of_beq hl
    unfold zast at hs
    split at hs
    · obtain ⟨hi, hs⟩ := zif_some hs
      exact zs_st (v := .ref _) rfl hi hs rfl (fun g1 g2 g3 g4 => lv_astore_n hx hb hd rfl g1 g2 g3 g4)
    · cases hs
  | lstore k =>
    obtain ⟨hl, hs0⟩ := zif_some hs; clear hs; have hs := hs0; clear hs0
    obtain rfl := eq_of_beq hl
    unfold zlst at hs
    split at hs
    · next x st0 =>
      obtain ⟨hi, hs⟩ := zif_some hs
      simp only [Bool.and_eq_true, decide_eq_true_eq, List.contains_iff_mem] at hi
      rw [zgo_some hs]
      refine ⟨_, _, _, _, _, rfl, fun kk ls H locs h1 h2 h3 h4 h5 h6 => lv_lstore hx hb hd h1 hi.1.2 rfl (fun ls' hl' => ?_)⟩
      obtain ⟨g1, g2⟩ := zset2 (b := b) (base := base) (v := .long x) h2 hi.1.1 hi.2
      exact kk ls' H locs (zlv_of hl' g1) g2 h3 h4 h5 h6
    · cases hs
  | iinc k n =>
    obtain ⟨hl, hs0⟩ := zif_some hs; clear hs; have hs := hs0; clear hs0
    obtain rfl := eq_of_beq hl
    split at hs
    · next x hk =>
      obtain ⟨hi, hs⟩ := zif_some hs
      rw [zgo_some hs]
      refine ⟨_, _, _, _, _, rfl, fun kk ls H locs h1 h2 h3 h4 h5 h6 => ?_⟩
      obtain ⟨j, hj⟩ := List.getElem?_of_mem (zlv_mem (b := b) (base := base) (q := (k, .int x)).mpr ⟨.int x, hk, rfl⟩)
      refine lv_iinc hx hb hd h1 hj rfl (zst_spec hi).1 rfl (fun ls' hl' => ?_)
      obtain ⟨g1, g2⟩ := zset1 (b := b) (base := base) (v := .int (x + Int32.ofInt n)) rfl h2 hi
      exact kk ls' H locs (zlv_of hl' g1) g2 h3 h4 h5 h6
    · cases hs
  | iadd => obtain ⟨hl, hs0⟩ := zif_some hs; clear hs; have hs := hs0; clear hs0; obtain rfl := eq_of_beq hl; exact zs_i2 hs (fun k => lv_iadd hx hb hd k)
  | isub => obtain ⟨hl, hs0⟩ := zif_some hs; clear hs; have hs := hs0; clear hs0; obtain rfl := eq_of_beq hl; exact zs_i2 hs (fun k => lv_isub hx hb hd k)
  | imul => obtain ⟨hl, hs0⟩ := zif_some hs; clear hs; have hs := hs0; clear hs0; obtain rfl := eq_of_beq hl; exact zs_i2 hs (fun k => lv_imul hx hb hd k)
  | iand => obtain ⟨hl, hs0⟩ := zif_some hs; clear hs; have hs := hs0; clear hs0; obtain rfl := eq_of_beq hl; exact zs_i2 hs (fun k => lv_iand hx hb hd k)
  | ior => obtain ⟨hl, hs0⟩ := zif_some hs; clear hs; have hs := hs0; clear hs0; obtain rfl := eq_of_beq hl; exact zs_i2 hs (fun k => lv_ior hx hb hd k)
  | ixor => obtain ⟨hl, hs0⟩ := zif_some hs; clear hs; have hs := hs0; clear hs0; obtain rfl := eq_of_beq hl; exact zs_i2 hs (fun k => lv_ixor hx hb hd k)
  | ishl => obtain ⟨hl, hs0⟩ := zif_some hs; clear hs; have hs := hs0; clear hs0; obtain rfl := eq_of_beq hl; exact zs_i2 hs (fun k => lv_ishl hx hb hd k)
  | ishr => obtain ⟨hl, hs0⟩ := zif_some hs; clear hs; have hs := hs0; clear hs0; obtain rfl := eq_of_beq hl; exact zs_i2 hs (fun k => lv_ishr hx hb hd k)
  | iushr => obtain ⟨hl, hs0⟩ := zif_some hs; clear hs; have hs := hs0; clear hs0; obtain rfl := eq_of_beq hl; exact zs_i2 hs (fun k => lv_iushr hx hb hd rfl k)
  | ladd => obtain ⟨hl, hs0⟩ := zif_some hs; clear hs; have hs := hs0; clear hs0; obtain rfl := eq_of_beq hl; exact zs_l2 hs (fun k => lv_ladd hx hb hd k)
  | lmul => obtain ⟨hl, hs0⟩ := zif_some hs; clear hs; have hs := hs0; clear hs0; obtain rfl := eq_of_beq hl; exact zs_l2 hs (fun k => lv_lmul hx hb hd k)
  | land => obtain ⟨hl, hs0⟩ := zif_some hs; clear hs; have hs := hs0; clear hs0; obtain rfl := eq_of_beq hl; exact zs_l2 hs (fun k => lv_land hx hb hd k)
  | lor => obtain ⟨hl, hs0⟩ := zif_some hs; clear hs; have hs := hs0; clear hs0; obtain rfl := eq_of_beq hl; exact zs_l2 hs (fun k => lv_lor hx hb hd k)
  | idiv =>
    obtain ⟨hl, hs0⟩ := zif_some hs; clear hs; have hs := hs0; clear hs0; obtain rfl := eq_of_beq hl
    split at hs
    · split at hs
      · cases hs
      · next hz => rw [zgo_some hs]; exact ⟨_, _, _, _, _, rfl, fun k ls H locs h1 h2 h3 h4 h5 h6 => lv_idiv hx hb hd hz (k ls H locs h1 h2 h3 h4 h5 h6)⟩
    · cases hs
  | irem =>
    obtain ⟨hl, hs0⟩ := zif_some hs; clear hs; have hs := hs0; clear hs0; obtain rfl := eq_of_beq hl
    split at hs
    · split at hs
      · cases hs
      · next hz => rw [zgo_some hs]; exact ⟨_, _, _, _, _, rfl, fun k ls H locs h1 h2 h3 h4 h5 h6 => lv_irem hx hb hd hz (k ls H locs h1 h2 h3 h4 h5 h6)⟩
    · cases hs
  | ldiv =>
    obtain ⟨hl, hs0⟩ := zif_some hs; clear hs; have hs := hs0; clear hs0; obtain rfl := eq_of_beq hl
    split at hs
    · split at hs
      · cases hs
      · next hz => rw [zgo_some hs]; exact ⟨_, _, _, _, _, rfl, fun k ls H locs h1 h2 h3 h4 h5 h6 => lv_ldiv hx hb hd hz (k ls H locs h1 h2 h3 h4 h5 h6)⟩
    · cases hs
  | lrem =>
    obtain ⟨hl, hs0⟩ := zif_some hs; clear hs; have hs := hs0; clear hs0; obtain rfl := eq_of_beq hl
    split at hs
    · split at hs
      · cases hs
      · next hz => rw [zgo_some hs]; exact ⟨_, _, _, _, _, rfl, fun k ls H locs h1 h2 h3 h4 h5 h6 => lv_lrem hx hb hd hz (k ls H locs h1 h2 h3 h4 h5 h6)⟩
    · cases hs
  | ineg =>
    obtain ⟨hl, hs0⟩ := zif_some hs; clear hs; have hs := hs0; clear hs0; obtain rfl := eq_of_beq hl
    split at hs
    · rw [zgo_some hs]; exact ⟨_, _, _, _, _, rfl, fun k ls H locs h1 h2 h3 h4 h5 h6 => lv_ineg hx hb hd (k ls H locs h1 h2 h3 h4 h5 h6)⟩
    · cases hs
  | lneg =>
    obtain ⟨hl, hs0⟩ := zif_some hs; clear hs; have hs := hs0; clear hs0; obtain rfl := eq_of_beq hl
    split at hs
    · rw [zgo_some hs]; exact ⟨_, _, _, _, _, rfl, fun k ls H locs h1 h2 h3 h4 h5 h6 => lv_lneg hx hb hd (k ls H locs h1 h2 h3 h4 h5 h6)⟩
    · cases hs
  | lshl =>
    obtain ⟨hl, hs0⟩ := zif_some hs; clear hs; have hs := hs0; clear hs0; obtain rfl := eq_of_beq hl
    split at hs
    · rw [zgo_some hs]; exact ⟨_, _, _, _, _, rfl, fun k ls H locs h1 h2 h3 h4 h5 h6 => lv_lshl hx hb hd rfl (k ls H locs h1 h2 h3 h4 h5 h6)⟩
    · cases hs
  | lshr =>
    obtain ⟨hl, hs0⟩ := zif_some hs; clear hs; have hs := hs0; clear hs0; obtain rfl := eq_of_beq hl
    split at hs
    · rw [zgo_some hs]; exact ⟨_, _, _, _, _, rfl, fun k ls H locs h1 h2 h3 h4 h5 h6 => lv_lshr hx hb hd rfl (k ls H locs h1 h2 h3 h4 h5 h6)⟩
    · cases hs
  | lcmp =>
    obtain ⟨hl, hs0⟩ := zif_some hs; clear hs; have hs := hs0; clear hs0; obtain rfl := eq_of_beq hl
    split at hs
    · rw [zgo_some hs]; exact ⟨_, _, _, _, _, rfl, fun k ls H locs h1 h2 h3 h4 h5 h6 => W.lcmp hx hb hd (k ls H locs h1 h2 h3 h4 h5 h6)⟩
    · cases hs
  | i2l =>
    obtain ⟨hl, hs0⟩ := zif_some hs; clear hs; have hs := hs0; clear hs0; obtain rfl := eq_of_beq hl
    split at hs
    · rw [zgo_some hs]; exact ⟨_, _, _, _, _, rfl, fun k ls H locs h1 h2 h3 h4 h5 h6 => lv_i2l hx hb hd rfl (k ls H locs h1 h2 h3 h4 h5 h6)⟩
    · cases hs
  | l2i =>
    obtain ⟨hl, hs0⟩ := zif_some hs; clear hs; have hs := hs0; clear hs0; obtain rfl := eq_of_beq hl
    split at hs
    · rw [zgo_some hs]; exact ⟨_, _, _, _, _, rfl, fun k ls H locs h1 h2 h3 h4 h5 h6 => lv_l2i hx hb hd rfl (k ls H locs h1 h2 h3 h4 h5 h6)⟩
    · cases hs
  | i2b =>
    obtain ⟨hl, hs0⟩ := zif_some hs; clear hs; have hs := hs0; clear hs0; obtain rfl := eq_of_beq hl
    split at hs
    · rw [zgo_some hs]; exact ⟨_, _, _, _, _, rfl, fun k ls H locs h1 h2 h3 h4 h5 h6 => lv_i2b hx hb hd rfl (k ls H locs h1 h2 h3 h4 h5 h6)⟩
    · cases hs
  | dup =>
    obtain ⟨hl, hs0⟩ := zif_some hs; clear hs; have hs := hs0; clear hs0; obtain rfl := eq_of_beq hl
    split at hs
    · obtain ⟨hc, hs⟩ := zif_some hs
      rw [zgo_some hs]; exact ⟨_, _, _, _, _, rfl, fun k ls H locs h1 h2 h3 h4 h5 h6 => lv_dup hx hb hd (by rw [zrv_cat]; exact eq_of_beq hc) (k ls H locs h1 h2 h3 h4 h5 h6)⟩
    · cases hs
  | dup2 =>
    obtain ⟨hl, hs0⟩ := zif_some hs; clear hs; have hs := hs0; clear hs0; obtain rfl := eq_of_beq hl
    split at hs
    · obtain ⟨hc, hs⟩ := zif_some hs
      rw [Bool.and_eq_true] at hc
      rw [zgo_some hs]; exact ⟨_, _, _, _, _, rfl, fun k ls H locs h1 h2 h3 h4 h5 h6 => lv_dup2_11 hx hb hd (by rw [zrv_cat]; exact eq_of_beq hc.1) (by rw [zrv_cat]; exact eq_of_beq hc.2) (k ls H locs h1 h2 h3 h4 h5 h6)⟩
    · cases hs
  | pop =>
    obtain ⟨hl, hs0⟩ := zif_some hs; clear hs; have hs := hs0; clear hs0; obtain rfl := eq_of_beq hl
    split at hs
    · next va st0 =>
      obtain ⟨hc, hs⟩ := zif_some hs
      rw [zgo_some hs]; exact ⟨_, _, _, _, _, rfl, fun k ls H locs h1 h2 h3 h4 h5 h6 => lv_pop (va := zrv b base va) hx hb hd (by rw [zrv_cat]; exact eq_of_beq hc) (k ls H locs h1 h2 h3 h4 h5 h6)⟩
    · cases hs
  | ifCond c off =>
    obtain ⟨hl, hs0⟩ := zif_some hs; clear hs; have hs := hs0; clear hs0; obtain rfl := eq_of_beq hl
    split at hs
    · exact zs_if C0 hd hs
    · cases hs
  | if_icmp c off =>
    obtain ⟨hl, hs0⟩ := zif_some hs; clear hs; have hs := hs0; clear hs0; obtain rfl := eq_of_beq hl
    split at hs
    · exact zs_icmp C0 hd hs
    · cases hs
  | goto off =>
    obtain ⟨hl, hs0⟩ := zif_some hs; clear hs; have hs := hs0; clear hs0; obtain rfl := eq_of_beq hl
    obtain ⟨t, ht, hs⟩ := zjmp_some hs
    rw [zgo_some hs]; exact ⟨_, _, _, _, _, rfl, fun k ls H locs h1 h2 h3 h4 h5 h6 => lv_goto hx hb hd ht (k ls H locs h1 h2 h3 h4 h5 h6)⟩
  | tableswitch d lo hi offs =>
    simp only [zI] at hs
    split at hs
    · split at hs
      · next hc =>
        obtain ⟨t, ht, hs⟩ := zjmp_some hs
        rw [zgo_some hs]; exact ⟨_, _, _, _, _, rfl, fun k ls H locs h1 h2 h3 h4 h5 h6 => lv_tableOut hx hb hd hc ht (k ls H locs h1 h2 h3 h4 h5 h6)⟩
      · next hc =>
        split at hs
        · next off ho =>
          obtain ⟨t, ht, hs⟩ := zjmp_some hs
          rw [zgo_some hs]; exact ⟨_, _, _, _, _, rfl, fun k ls H locs h1 h2 h3 h4 h5 h6 => lv_tableIn hx hb hd (fun q => hc (Or.inl q)) (fun q => hc (Or.inr q)) ho ht (k ls H locs h1 h2 h3 h4 h5 h6)⟩
        · cases hs
    · cases hs
  | getfield k =>
    obtain ⟨hl, hs0⟩ := zif_some hs; clear hs; have hs := hs0; clear hs0; obtain rfl := eq_of_beq hl
    split at hs
    · next f a st0 hf =>
      split at hs
      · next c fs ha =>
        split at hs
        · next hc =>
          subst hc
          split at hs
          · next v hv => exact zs_getfield C0 hd hf ha hv rfl hs
          · cases hs
        · cases hs
      · cases hs
    · cases hs
  | putfield k =>
    obtain ⟨hl, hs0⟩ := zif_some hs; clear hs; have hs := hs0; clear hs0; obtain rfl := eq_of_beq hl
    split at hs
    · next f v a st0 hf =>
      split at hs
      · next c fs ha =>
        obtain ⟨hc, hs⟩ := zif_some hs
        simp only [Bool.and_eq_true, decide_eq_true_eq] at hc
        obtain ⟨⟨⟨rfl, hc2⟩, hc3⟩, hc4⟩ := hc
        refine zs_putfield C0 hd hf ha hc2 hc3 ?_ rfl hs
        simp only [zfin, Bool.or_eq_true, Bool.and_eq_true, Bool.not_eq_true', beq_iff_eq] at hc4
        rcases hc4 with q | ⟨⟨q1, q2⟩, q3⟩
        · exact Or.inl q
        · rcases hq : (zTT f.1 f.2.1).2.2.2 with _ | _
          · exact Or.inl rfl
          · exact Or.inr ⟨q1, rfl, q2, q3⟩
      · cases hs
    · cases hs
  | iaload =>
    obtain ⟨hl, hs0⟩ := zif_some hs; clear hs; have hs := hs0; clear hs0; obtain rfl := eq_of_beq hl
    split at hs
    · next i a st0 =>
      split at hs
      · next ty n f ha =>
        split at hs
        · next hc => obtain ⟨rfl, hc⟩ := hc; exact zs_iaload C0 hd ha hc rfl hs
        · cases hs
      · cases hs
    · split at hs
      · next hc =>
        obtain ⟨q1, q2, q3⟩ := h0 hc.1
        rw [zgo_some hs]; exact ⟨_, _, _, _, _, rfl, fun k ls H locs h1 h2 h3 h4 h5 h6 => va_sld hx hb q1 q2 (Nat.not_le.mpr q3) h4 hc.2 hd (k ls H locs h1 h2 h3 h4 h5 h6)⟩
      · cases hs
    · cases hs
  | baload =>
    obtain ⟨hl, hs0⟩ := zif_some hs; clear hs; have hs := hs0; clear hs0; obtain rfl := eq_of_beq hl
    split at hs
    · split at hs
      · next ty n f ha =>
        split at hs
        · next hc => exact zs_baload C0 hd hc.1 ha hc.2 rfl hs
        · cases hs
      · cases hs
    · cases hs
  | iastore =>
    obtain ⟨hl, hs0⟩ := zif_some hs; clear hs; have hs := hs0; clear hs0; obtain rfl := eq_of_beq hl
    split at hs
    · split at hs
      · next ty n f ha =>
        split at hs
        · next hc => obtain ⟨rfl, hc⟩ := hc; exact zs_iastore C0 hd ha hc rfl hs
        · cases hs
      · cases hs
    · cases hs
  | bastore =>
    obtain ⟨hl, hs0⟩ := zif_some hs; clear hs; have hs := hs0; clear hs0; obtain rfl := eq_of_beq hl
    split at hs
    · split at hs
      · next ty n f ha =>
        split at hs
        · next hc => exact zs_bastore C0 hd hc.1 ha hc.2 rfl hs
        · cases hs
      · cases hs
    · cases hs
  | arraylength =>
    obtain ⟨hl, hs0⟩ := zif_some hs; clear hs; have hs := hs0; clear hs0; obtain rfl := eq_of_beq hl
    split at hs
    · split at hs
      · next ty n f ha => exact zs_alen C0 hd ha rfl hs
      · cases hs
    · split at hs
      · next hc =>
        obtain ⟨q1, q2, q3⟩ := h0 hc
        rw [zgo_some hs]; exact ⟨_, _, _, _, _, rfl, fun k ls H locs h1 h2 h3 h4 h5 h6 => va_slen hx hb q1 q2 (Nat.not_le.mpr q3) h4 hd (k ls H locs h1 h2 h3 h4 h5 h6)⟩
      · cases hs
    · cases hs
  | new k =>
    obtain ⟨hl, hs0⟩ := zif_some hs; clear hs; have hs := hs0; clear hs0; obtain rfl := eq_of_beq hl
    split at hs
    · next c hc =>
      obtain ⟨hq, hs⟩ := zif_some hs
      simp only [Bool.and_eq_true, decide_eq_true_eq] at hq
      exact zs_new C0 hd hc hq.1 hq.2 hs
    · cases hs
  | newarray t =>
    obtain ⟨hl, hs0⟩ := zif_some hs; clear hs; have hs := hs0; clear hs0; obtain rfl := eq_of_beq hl
    split at hs
    · obtain ⟨hq, hs⟩ := zif_some hs
      simp only [Bool.and_eq_true, Bool.or_eq_true, beq_iff_eq, decide_eq_true_eq] at hq
      obtain ⟨⟨⟨⟨q1, q2⟩, q3⟩, q4⟩, q5⟩ := hq
      refine zs_newarray C0 hd ?_ q2 q3 q4 q5 rfl hs
      rcases q1 with (q | q) | q
      · exact Or.inl q
      · exact Or.inr (Or.inl q)
      · exact Or.inr (Or.inr q)
    · cases hs
  | invokestatic k =>
    obtain ⟨hl, hs0⟩ := zif_some hs; clear hs; have hs := hs0; clear hs0
    split at hs
    · obtain ⟨hq, hs⟩ := zif_some hs
      exact (zcall_inl hs).elim
    · cases hs
  | invokevirtual k =>
    obtain ⟨hl, hs0⟩ := zif_some hs; clear hs; have hs := hs0; clear hs0
    split at hs
    · split at hs
      · obtain ⟨hq, hs⟩ := zif_some hs
        exact (zcall_inl hs).elim
      · cases hs
    · cases hs
  | invokespecial k =>
    obtain ⟨hl, hs0⟩ := zif_some hs; clear hs; have hs := hs0; clear hs0; obtain rfl := eq_of_beq hl
    split at hs
    · obtain ⟨hq, hs⟩ := zif_some hs
      exact (zcall_inl hs).elim
    · split at hs
      · next q hq =>
        obtain ⟨g, hs⟩ := zif_some hs
        simp only [Bool.and_eq_true, decide_eq_true_eq] at g
        exact zs_objinit C0 hd hq g.1 g.2 rfl hs
      · cases hs
    · cases hs
  | ireturn =>
    obtain ⟨hl, hs0⟩ := zif_some hs; clear hs; have hs := hs0; clear hs0
    split at hs
    · obtain ⟨hq, hs⟩ := zif_some hs; cases hs
    · cases hs
  | areturn =>
    obtain ⟨hl, hs0⟩ := zif_some hs; clear hs; have hs := hs0; clear hs0
    split at hs
    · obtain ⟨hq, hs⟩ := zif_some hs; cases hs
    · cases hs
  | return_ =>
    obtain ⟨hl, hs0⟩ := zif_some hs; clear hs; have hs := hs0; clear hs0
    split at hs
    · obtain ⟨hq, hs⟩ := zif_some hs; cases hs
    · cases hs
  | _ => simp [zI] at hs
end ZSA
end
section
-- calls, returns, the whole run
theorem zml_ok {c i : Nat} {z : Nat × Bool × Nat} (hv : zml? c i = some z) : zmw c i z ∈ lw_tbl ∧ ztw (zmw c i z) = true := by
  have h := List.all_eq_true.mp zml_all _ (zlk _ _ _ hv)
  simp only [Bool.and_eq_true, decide_eq_true_eq] at h
  exact ⟨List.mem_of_getElem? h.1, h.2⟩
/-- a method's facts -/
theorem zm_ok {z : Nat} (hz : z < 160) (h0 : z ≠ 0) (h2 : z ≠ 2) : plainFor (mN z) = true ∧ ((mN z).cls ≠ "java/lang/invoke/MethodHandle" ∧ (mN z).cls ≠ "java/lang/invoke/VarHandle" ∧ (parseMethodDescriptor (mN z).desc).map (fun d => d.parameters.length) = some (mPn z)) ∧ zcn.getD (mC z) "" = (mN z).cls ∧ (if mSt z = 1 then Cond.static (mN z) else Cond.instanceMethod (mN z)) ∈ lw_tbl ∧ (mSt z = 1 ∨ (mN z).name = "<init>" ∨ Cond.selects (mN z).cls (mN z) (mN z) ∈ lw_tbl) ∧ Cond.initialized (mN z).cls ∈ lw_tbl ∧ (mSt z = 1 ∨ mC z < 11) ∧ Cond.code (mN z) (mB z) (mL z) (mR z) ∈ lw_tbl := by
  have h := List.all_eq_true.mp zmc_all z (List.mem_range.mpr hz)
  have e0 : (z == 0) = false := by simpa using h0
  have e2 : (z == 2) = false := by simpa using h2
  rw [e0, e2] at h
  simp only [Bool.false_or, zmc, Bool.and_eq_true, Bool.or_eq_true, decide_eq_true_eq] at h
  obtain ⟨⟨⟨⟨⟨⟨⟨⟨a1, a2⟩, a3⟩, a4⟩, a5⟩, a6⟩, a7⟩, a8⟩, a9⟩ := h
  refine ⟨a1, ⟨a2, a3, a4⟩, a5, List.mem_of_getElem? a6, ?_, List.mem_of_getElem? a8, a9, List.mem_of_getElem? (zq z hz h0)⟩
  rcases a7 with (q | q) | q
  · exact Or.inl q
  · exact Or.inr (Or.inl q)
  · exact Or.inr (Or.inr (List.mem_of_getElem? q))
theorem zinit_ret {z : Nat} (hz : z < 160) (hn : (mN z).name = "<init>") : mR z = none := by
  have h : (List.range 160).all (fun z => decide ((mN z).name ≠ "<init>") || decide (mR z = none)) = true := by decide +kernel
  have h := List.all_eq_true.mp h z (List.mem_range.mpr hz)
  simp only [Bool.or_eq_true, decide_eq_true_eq] at h
  rcases h with q | q
  · exact absurd hn q
  · exact q
def zws (z : Nat) : List Cond := [.code (mN z) (mB z) (mL z) (mR z), .arrayClass .int, .arrayClass .byte, .arrayClass .boolean]
def zTa : List Cond := zTs ++ [.arrayClass .int, .arrayClass .byte, .arrayClass .boolean]
theorem zTa_all {s : State} {args : Array Value} (hT : zT s) (harr : ∀ ty, ty = FieldType.int ∨ ty = .byte ∨ ty = .boolean → (Cond.arrayClass ty).before args s = true) : ∀ w ∈ zTa, w.before args s = true := by
  intro w hw
  rcases List.mem_append.mp hw with h | h
  · exact hT.all args w h
  · simp only [List.mem_cons, List.not_mem_nil, or_false] at h
    rcases h with rfl | rfl | rfl
    · exact harr _ (Or.inl rfl)
    · exact harr _ (Or.inr (Or.inl rfl))
    · exact harr _ (Or.inr (Or.inr rfl))
theorem zws_good {z : Nat} (hc : Cond.code (mN z) (mB z) (mL z) (mR z) ∈ lw_tbl) : GoodIn zTa (zws z) := by
  intro w hw
  simp only [zws, List.mem_cons, List.not_mem_nil, or_false] at hw
  rcases hw with rfl | rfl | rfl | rfl
  · exact ⟨List.mem_append_left _ (zTs_in ⟨hc, rfl⟩), Or.inl rfl⟩
  · exact ⟨List.mem_append_right _ (by simp), Or.inr ⟨_, rfl⟩⟩
  · exact ⟨List.mem_append_right _ (by simp), Or.inr ⟨_, rfl⟩⟩
  · exact ⟨List.mem_append_right _ (by simp), Or.inr ⟨_, rfl⟩⟩
/-- a method's start and end, by the interpreter -/
def zPc (D : va_G) (b base : Nat) (ca : FieldType → ClassId) (N : Nat) (h : zH) (as : List Value) : Array Value → State → Prop := va_Pc (as.map (zrv b base)) (fun U => zT U ∧ zW D b base ca N h U U.heap)
def zQc (D : va_G) (b base : Nat) (ca : FieldType → ClassId) (r : zR) : Array Value → State → Outcome → State → Prop := fun _ st oc t => (oc = .returned (r.1.map (zrv b base)) ∧ zW D b base ca r.2.1 r.2.2 t t.heap) ∧ va_F (fun q => base ≤ q) st t
theorem zPc_blind {D : va_G} {b base : Nat} {ca : FieldType → ClassId} {N : Nat} {h : zH} {as : List Value} : FrameBlind (zPc D b base ca N h as) := by
  intro a U g mk q
  obtain ⟨q1, q2, q3⟩ := q
  exact ⟨q1, zT.same (u := U) rfl q2, zW.moved (u := U) (U := U.calling g mk a) (Vm.Alike.refl U.vm) q3⟩
def zMet (l : Launch) (D : va_G) (b base : Nat) (ca : FieldType → ClassId) (N : Nat) (h : zH) (z : Nat) (as : List Value) (r : zR) : Prop := Met l (mN z) (zws z) (mRm z) (zPc D b base ca N h as) (zQc D b base ca r) (mRm z).cells (mRm z).slots (fun q => base ≤ q)
section ZCA
variable {p : Program} {l : Launch} {e : Env} {s : State} {m : MethodId} {args : Array Value} {below : List Frame} {meth : Method} {cd : Code} {Q : State → Prop} {D : va_G} {b base : Nat} {ca : FieldType → ClassId} {X : Nat × (Nat → Int32)} {y pc len : Nat} {L : zL} {st : List Value} {w : zN} {h : zH}
theorem zcont {R : Room} {H : Heap} {locs : List Loc} {cells slots mc ms : Nat} {ls : Array Slot} {st0 rest : List Value} {r1 : zR} {a : Array Value} (hr : va_Run p l e R s m args below meth cd H locs cells slots mc ms (F0 m pc ls st0) rest (zQc D b base ca r1 a) (fun q => base ≤ q)) (hS : va_S (fun q => base ≤ q) s.heap H locs)
    (kk : ∀ (H1 : Heap) (locs1 : List Loc), zW D b base ca r1.2.1 r1.2.2 s H1 → va_S (fun q => base ≤ q) s.heap H1 locs1 → W p l e R s m args below meth cd H1 locs1 (cells + mc) (slots + ms) Q (F0 m (pc + 3) ls ((r1.1.map (zrv b base)).toList ++ rest))) : W p l e R s m args below meth cd H locs cells slots Q (F0 m pc ls st0) := by
  intro T hT X
  obtain ⟨v, st₀, t, T', L, h0, X', hL, e1, e2, ⟨⟨hv, hw⟩, hz, hk⟩, st⟩ := hr T hT X
  cases hv
  rw [h0] at hz hk
  have hal : t.vm.Alike s.vm := by rw [← e2]; exact X'.warmed.alike.symm
  have hw' : zW D b base ca r1.2.1 r1.2.2 s T'.heap := by rw [e1]; exact hw.moved hal
  obtain ⟨t2, a1, b1⟩ := kk T'.heap (locs ++ L) hw'
    ⟨Nat.le_trans hS.1 (by rw [e1]; exact hz), fun q h1 h2 => by rw [e1, hk q (Nat.lt_of_lt_of_le h1 hS.1) h2]; exact hS.2.1 q h1 h2, fun q hq => by
      rcases List.mem_append.mp hq with h | h
      · exact hS.2.2 q h
      · exact hL q h⟩ T' rfl X'
  exact ⟨t2, st t2 a1, b1⟩
theorem zcat {st0 : List Value} (b base : Nat) : ((st0.map (zrv b base)).map fun v => v.category).sum = zcw st0 := by
  unfold zcw
  rw [List.map_map]
  congr 1
  apply List.map_congr_left
  intro v _
  exact zrv_cat b base v
theorem zcall_some {rest as : List Value} {z : Nat} {q : zF × (zR → zF)} (hs : zcall y pc L rest w h z as = some (.inr (.inl q))) :
    (zcw rest ≤ 8 ∧ (mRm z).frames + 1 ≤ (mRm y).frames ∧ 8 + (mL z + 11) + (mRm z).locals ≤ (mRm y).locals ∧ w.2.1 + (mRm z).cells ≤ (mRm y).cells ∧ w.2.2 + (mRm z).slots ≤ (mRm y).slots ∧ (zargs as).length ≤ mL z ∧ zlok z (zentry z as) = true ∧ z ≠ 0 ∧ z ≠ 2 ∧ z < 160) ∧
    q = ((z, 0, zentry z as, [], (w.1, 0, 0), h), fun r => (y, pc + 3, L, r.1.toList ++ rest, (r.2.1, w.2.1 + (mRm z).cells, w.2.2 + (mRm z).slots), r.2.2)) := by
  unfold zcall at hs
  split at hs
  · next hc =>
    simp only [Bool.and_eq_true, decide_eq_true_eq] at hc
    obtain ⟨⟨⟨⟨⟨⟨⟨⟨⟨a1, a2⟩, a3⟩, a4⟩, a5⟩, a6⟩, a7⟩, a8⟩, a9⟩, a10⟩ := hc
    exact ⟨⟨a1, a2, a3, a4, a5, a6, a7, a8, a9, a10⟩, (Sum.inl.inj (Sum.inr.inj (Option.some.inj hs))).symm⟩
  · cases hs
theorem zstk {r : Option Value} {rest : List Value} : (r.map (zrv b base)).toList ++ rest.map (zrv b base) = (r.toList ++ rest).map (zrv b base) := by
  cases r <;> simp
theorem zgo_inr {y pc : Nat} {L : zL} {st : List Value} {w : zN} {h : zH} {x : (zF × (zR → zF)) ⊕ zR} (e : zgo y pc L st w h = some (.inr x)) : False := by cases e
theorem zI_call {i : Instr} {q : zF × (zR → zF)} (hs : zI X y pc L st w h i len = some (.inr (.inl q))) : (∃ k, i = .invokestatic k) ∨ (∃ k, i = .invokevirtual k) ∨ ∃ k, i = .invokespecial k := by
  cases i <;> first | exact Or.inl ⟨_, rfl⟩ | exact Or.inr (Or.inl ⟨_, rfl⟩) | exact Or.inr (Or.inr ⟨_, rfl⟩) | (exfalso; revert hs; simp only [zI, zif, zgo, zld, zist, zast, zlst, zi2, zl2, zbr, zjmp]; repeat' split) <;> simp
theorem zI_ret {i : Instr} {q : zR} (hs : zI X y pc L st w h i len = some (.inr (.inr q))) : i = .ireturn ∨ i = .areturn ∨ i = .return_ := by
  cases i <;> first | exact Or.inl rfl | exact Or.inr (Or.inl rfl) | exact Or.inr (Or.inr rfl) | (exfalso; revert hs; simp only [zI, zif, zgo, zld, zist, zast, zlst, zi2, zl2, zbr, zjmp, zcall]; repeat' split) <;> simp
/-- what a call needs, and what it gives -/
def zCl (p : Program) (l : Launch) (e : Env) (s : State) (m : MethodId) (args : Array Value) (below : List Frame) (meth : Method) (cd : Code) (Q : State → Prop) (D : va_G) (b base : Nat) (ca : FieldType → ClassId) (y pc : Nat) (L : zL) (st : List Value) (w : zN) (h : zH) (c1 : zF) (k : zR → zF) : Prop :=
  ∃ (z : Nat) (as rest : List Value), z ≠ 0 ∧ z ≠ 2 ∧ z < 160 ∧ (zargs as).length ≤ mL z ∧ zlok z (zentry z as) = true ∧ c1 = (z, 0, zentry z as, [], (w.1, 0, 0), h) ∧
    (k = fun r => (y, pc + 3, L, r.1.toList ++ rest, (r.2.1, w.2.1 + (mRm z).cells, w.2.2 + (mRm z).slots), r.2.2)) ∧
    ∀ r1 : zR, zMet l D b base ca w.1 h z as r1 → zG p l e s m args below meth cd Q D b base ca y (pc + 3) L (r1.1.toList ++ rest) (r1.2.1, w.2.1 + (mRm z).cells, w.2.2 + (mRm z).slots) r1.2.2 → zG p l e s m args below meth cd Q D b base ca y pc L st w h
/-- the call itself, by the kind of its link -/
theorem zs_callc (C : zX p s m args meth cd b base X y) {z : Nat} {as rest : List Value} {c1 : zF} {k : zR → zF} (hs : zcall y pc L rest w h z as = some (.inr (.inl (c1, k))))
    (row : ∀ (r1 : zR) (ls : Array Slot) (H : Heap) (locs : List Loc), zMet l D b base ca w.1 h z as r1 → z < 160 → z ≠ 0 → z ≠ 2 → zcw rest ≤ 8 → (mRm z).frames + 1 ≤ (mRm y).frames ∧ 8 + (mL z + 11) + (mRm z).locals ≤ (mRm y).locals → w.2.1 + (mRm z).cells ≤ (mRm y).cells ∧ w.2.2 + (mRm z).slots ≤ (mRm y).slots → ls.size = mL y → zW D b base ca w.1 h s H →
      ∃ a, va_Run p l e (mRm y) s m args below meth cd H locs w.2.1 w.2.2 (mRm z).cells (mRm z).slots (F0 m pc ls (st.map (zrv b base))) (rest.map (zrv b base)) (zQc D b base ca r1 a) (fun q => base ≤ q)) :
    zCl p l e s m args below meth cd Q D b base ca y pc L st w h c1 k := by
  obtain ⟨⟨a1, a2, a3, a4, a5, a6, a7, a8, a9, a10⟩, hq⟩ := zcall_some hs
  cases hq
  refine ⟨z, as, rest, a8, a9, a10, a6, a7, rfl, rfl, fun r1 hM kk ls H locs h1 h2 h3 h4 h5 h6 => ?_⟩
  obtain ⟨a, hrun⟩ := row r1 ls H locs hM a10 a8 a9 a1 ⟨a2, a3⟩ ⟨a4, a5⟩ h1.1 h3
  refine zcont hrun h4 (fun H1 locs1 z1 z2 => ?_)
  rw [zstk]
  exact kk ls H1 locs1 h1 h2 z1 z2 a4 a5
set_option maxHeartbeats 1000000 in
theorem zs_call (C : zX p s m args meth cd b base X y) {i : Instr} (hd : decode (mB y) pc = .ok (i, len)) {c1 : zF} {k : zR → zF} (hs : zI X y pc L st w h i len = some (.inr (.inl (c1, k)))) : zCl p l e s m args below meth cd Q D b base ca y pc L st w h c1 k := by
  have C0 := C
  obtain ⟨hx, hb, hml, hr, hlk, hown, hT, harr, hnm, h0⟩ := C
  cases i with
  | invokestatic idx =>
    obtain ⟨hl, hs0⟩ := zif_some hs; clear hs; have hs := hs0; clear hs0; obtain rfl := eq_of_beq hl
    split at hs
    · next z hz =>
      obtain ⟨hq, hs⟩ := zif_some hs
      simp only [Bool.and_eq_true, decide_eq_true_eq] at hq
      obtain ⟨g1, g2⟩ := zml_ok hz
      refine zs_callc C0 hs (fun r1 ls H locs hM hz1 hz0 hz2 hcw hR hf hsz hW => ?_)
      obtain ⟨m1, m2, m3, m4, m5, m6, m7, m8⟩ := zm_ok hz1 hz0 hz2
      rw [if_pos hq.1] at m4
      have hlen : (((st.take (mPn z.1)).reverse).map (zrv b base)).length = mPn z.1 := by simp [hq.2]
      have hstk : st.map (zrv b base) = (((st.take (mPn z.1)).reverse).map (zrv b base)).reverse ++ (st.drop (mPn z.1)).map (zrv b base) := by
        rw [List.map_reverse, List.reverse_reverse, ← List.map_append, List.take_append_drop]
      have hp : PreS s H (zPc D b base ca w.1 h (st.take (mPn z.1)).reverse) (((st.take (mPn z.1)).reverse).map (zrv b base)) := ⟨zPc_blind, fun U hU hW' => ⟨rfl, hT.warm hW', by rw [hU]; exact hW.moved hW'.alike⟩⟩
      have hlink := hT.use g1 g2 args
      unfold zmw at hlink g1 g2
      split at hlink
      · next hn =>
        rw [if_pos hn] at g1 g2
        exact ⟨_, va_runSN (Ts := zTa) ⟨hx, hb, hml, hown, zTa_all hT harr⟩ hM ⟨va_cnB (mPn z.1) (zTa_all hT harr) (zws_good m8) rfl rfl rfl (hT _ g1 g2) (hT.use m6 rfl args) m2 hR, hT.use m4 rfl args, trivial⟩ hp rfl hlen hsz hstk (lv_room (by rw [zcat]; exact hcw)) hd hf⟩
      · next hn =>
        exact ⟨_, va_runS (Ts := zTa) ⟨hx, hb, hml, hown, zTa_all hT harr⟩ hM ⟨callB_of (mPn z.1) (zTa_all hT harr) (zws_good m8) rfl rfl rfl (hT.use m6 rfl args) hlink m2 hR, hT.use m4 rfl args⟩ hp rfl hlen hsz hstk (lv_room (by rw [zcat]; exact hcw)) hd hf⟩
    · cases hs
  | invokevirtual idx =>
    obtain ⟨hl, hs0⟩ := zif_some hs; clear hs; have hs := hs0; clear hs0; obtain rfl := eq_of_beq hl
    split at hs
    · next z a rest hz hdrop =>
      rw [hz] at hdrop
      simp only [Option.elim_some] at hdrop
      split at hs
      · next c fs ha =>
        obtain ⟨hq, hs⟩ := zif_some hs
        simp only [Bool.and_eq_true, decide_eq_true_eq] at hq
        obtain ⟨⟨q1, q2⟩, q3⟩ := hq
        obtain ⟨g1, g2⟩ := zml_ok hz
        refine zs_callc C0 hs (fun r1 ls H locs hM hz1 hz0 hz2 hcw hR hf hsz hW => ?_)
        obtain ⟨m1, m2, m3, m4, m5, m6, m7, m8⟩ := zm_ok hz1 hz0 hz2
        rw [if_neg (by omega)] at m4
        have m7 : mC z.1 < 11 := by rcases m7 with q | q
                                    · omega
                                    · exact q
        have m5 : Cond.selects (mN z.1).cls (mN z.1) (mN z.1) ∈ lw_tbl := by
          rcases m5 with q | q | q
          · omega
          · exact absurd q q3
          · exact q
        have hlt : mPn z.1 < st.length := by
          rcases Nat.lt_or_ge (mPn z.1) st.length with q | q
          · exact q
          · rw [List.drop_eq_nil_of_le q] at hdrop; cases hdrop
        have hlen : (((st.take (mPn z.1)).reverse).map (zrv b base)).length = mPn z.1 := by simp; omega
        have hstk : st.map (zrv b base) = (((st.take (mPn z.1)).reverse).map (zrv b base)).reverse ++ .ref (base + a) :: rest.map (zrv b base) := by
          rw [List.map_reverse, List.reverse_reverse]
          conv => lhs; rw [← List.take_append_drop (mPn z.1) st, hdrop, List.map_append]
          rfl
        obtain ⟨c1, -⟩ := zcok (mC z.1) m7
        subst q2
        have hrecv := va_recv hW.2.1 hW.1 c1 (hW.obj ha (by omega))
        rw [show (zcn.getD (mC z.1) "", zTT (mC z.1), zTn (mC z.1)).1 = (mN z.1).cls from m3] at hrecv
        have hp : PreV s H (mN z.1).cls (base + a) (zPc D b base ca w.1 h (.ref a :: (st.take (mPn z.1)).reverse)) (((st.take (mPn z.1)).reverse).map (zrv b base)) := ⟨zPc_blind, hrecv, fun U hU hW' => ⟨rfl, hT.warm hW', by rw [hU]; exact hW.moved hW'.alike⟩⟩
        have hlink := hT.use g1 g2 args
        unfold zmw at hlink g1 g2
        split at hlink
        · next hn =>
          rw [if_pos hn] at g1 g2
          exact ⟨_, va_runVN (Ts := zTa) ⟨hx, hb, hml, hown, zTa_all hT harr⟩ hM ⟨va_cnB (mPn z.1) (zTa_all hT harr) (zws_good m8) rfl rfl rfl (hT _ g1 g2) (hT.use m6 rfl args) m2 hR, hT.use m4 rfl args, hT.use m5 rfl args⟩ hp rfl hlen hsz hstk (lv_room (by rw [zcat]; exact hcw)) hd hf⟩
        · next hn =>
          exact ⟨_, va_runV (Ts := zTa) ⟨hx, hb, hml, hown, zTa_all hT harr⟩ hM ⟨callB_of (mPn z.1) (zTa_all hT harr) (zws_good m8) rfl rfl rfl (hT.use m6 rfl args) hlink m2 hR, hT.use m4 rfl args, hT.use m5 rfl args⟩ hp rfl hlen hsz hstk (lv_room (by rw [zcat]; exact hcw)) hd hf⟩
      · cases hs
    · cases hs
  | invokespecial idx =>
    obtain ⟨hl, hs0⟩ := zif_some hs; clear hs; have hs := hs0; clear hs0; obtain rfl := eq_of_beq hl
    split at hs
    · next z a rest hz =>
      obtain ⟨hq, hs⟩ := zif_some hs
      simp only [Bool.and_eq_true, decide_eq_true_eq] at hq
      obtain ⟨⟨q1, q2⟩, q3⟩ := hq
      obtain ⟨g1, g2⟩ := zml_ok hz
      refine zs_callc C0 hs (fun r1 ls H locs hM hz1 hz0 hz2 hcw hR hf hsz hW => ?_)
      obtain ⟨m1, m2, m3, m4, m5, m6, m7, m8⟩ := zm_ok hz1 hz0 hz2
      rw [if_neg (by omega)] at m4
      rw [q2] at m2
      have hret : mR z.1 = none := zinit_ret hz1 q3
      have hp : PreS s H (zPc D b base ca w.1 h [.ref a]) [.ref (base + a)] := ⟨zPc_blind, fun U hU hW' => ⟨rfl, hT.warm hW', by rw [hU]; exact hW.moved hW'.alike⟩⟩
      have hlink := hT.use g1 g2 args
      have hwsz : zws z.1 = Cond.code (mN z.1) (mB z.1) (mL z.1) none :: [.arrayClass .int, .arrayClass .byte, .arrayClass .boolean] := by rw [zws, hret]
      unfold zmw at hlink g1 g2
      split at hlink
      · next hn =>
        rw [if_pos hn] at g1 g2
        exact ⟨_, va_runIN (Ts := zTa) (As := []) ⟨hx, hb, hml, hown, zTa_all hT harr⟩ hM ⟨va_cnB 0 (zTa_all hT harr) (zws_good m8) hwsz rfl rfl (hT _ g1 g2) (hT.use m6 rfl args) m2 hR, q3, hT.use m4 rfl args⟩ hp rfl rfl hsz rfl (lv_room (by rw [zcat]; exact hcw)) hd hf⟩
      · next hn =>
        exact ⟨_, va_runI (Ts := zTa) (As := []) ⟨hx, hb, hml, hown, zTa_all hT harr⟩ hM ⟨callB_of 0 (zTa_all hT harr) (zws_good m8) hwsz rfl rfl (hT.use m6 rfl args) hlink m2 hR, q3, hT.use m4 rfl args⟩ hp rfl rfl hsz rfl (lv_room (by rw [zcat]; exact hcw)) hd hf⟩
    · split at hs
      · obtain ⟨g, hs⟩ := zif_some hs; cases hs
      · cases hs
    · cases hs
  | _ => rcases zI_call hs with ⟨_, e⟩ | ⟨_, e⟩ | ⟨_, e⟩ <;> cases e
end ZCA
end
section
-- returns; a method's contract out of its run; the law's walk out of the interpreter's
section ZRE
variable {p : Program} {l : Launch} {e : Env} {s : State} {m : MethodId} {args : Array Value} {below : List Frame} {meth : Method} {cd : Code} {D : va_G} {b base : Nat} {ca : FieldType → ClassId} {X : Nat × (Nat → Int32)} {y pc : Nat} {L : zL} {st : List Value} {w : zN} {h : zH}
theorem zs_ret (C : zX p s m args meth cd b base X y) {r : zR} (hs : zS X (y, pc, L, st, w, h) = some (.inr (.inr r))) : zG p l e s m args below meth cd (MQ below (zQc D b base ca r) args s (mRm y).cells (mRm y).slots (fun q => base ≤ q)) D b base ca y pc L st w h := by
  obtain ⟨hx, hb, hml, hr, hlk, hown, hT, harr, hnm, h0⟩ := C
  unfold zS at hs
  dsimp only at hs
  split at hs
  · next i len hd =>
    rcases zI_ret hs with rfl | rfl | rfl
    · obtain ⟨hl, hs0⟩ := zif_some hs; clear hs; have hs := hs0; clear hs0; obtain rfl := eq_of_beq hl
      split at hs
      · next x =>
        obtain ⟨hq, hs⟩ := zif_some hs
        cases hs
        intro ls H locs h1 h2 h3 h4 h5 h6
        refine W.widen h5 h6 ?_
        simp only [Bool.or_eq_true, Bool.and_eq_true, beq_iff_eq] at hq
        rcases hq with q | ⟨q1, q2⟩
        · exact W.iret hx hb (by rw [hr, q]) (fun t ht hW => ⟨⟨rfl, by rw [ht]; exact h3.moved hW.alike⟩, h4.F ht⟩) h4.2.2 hd
        · exact W.zret (ty := .boolean) hx hb (by rw [hr, q1]) (by rcases q2 with rfl | rfl <;> rfl) (fun t ht hW => ⟨⟨rfl, by rw [ht]; exact h3.moved hW.alike⟩, h4.F ht⟩) h4.2.2 hd
      · cases hs
    · obtain ⟨hl, hs0⟩ := zif_some hs; clear hs; have hs := hs0; clear hs0; obtain rfl := eq_of_beq hl
      split at hs
      · next a =>
        obtain ⟨hq, hs⟩ := zif_some hs
        cases hs
        intro ls H locs h1 h2 h3 h4 h5 h6
        refine W.widen h5 h6 ?_
        split at hq
        · next nm hnm2 => exact W.aret (v := .ref (base + a)) hx hb (by rw [hr, hnm2]) (Or.inl ⟨_, rfl⟩) (Or.inr ⟨_, rfl⟩) (fun t ht hW => ⟨⟨rfl, by rw [ht]; exact h3.moved hW.alike⟩, h4.F ht⟩) h4.2.2 hd
        · cases hq
      · cases hs
    · obtain ⟨hl, hs0⟩ := zif_some hs; clear hs; have hs := hs0; clear hs0; obtain rfl := eq_of_beq hl
      split at hs
      · obtain ⟨hq, hs⟩ := zif_some hs
        cases hs
        intro ls H locs h1 h2 h3 h4 h5 h6
        refine W.widen h5 h6 ?_
        exact W.vret hx hb (by rw [hr]; exact eq_of_beq hq) (fun t ht hW => ⟨⟨rfl, by rw [ht]; exact h3.moved hW.alike⟩, h4.F ht⟩) h4.2.2 hd
      · cases hs
  · cases hs
end ZRE
theorem zsl_len (b base : Nat) : ∀ as : List Value, (lg_sl (as.map (zrv b base))).length = (zargs as).length
  | [] => rfl
  | v :: as => by
    have ih := zsl_len b base as
    simp only [lg_sl, List.map_cons, List.flatMap_cons, List.length_append] at ih ⊢
    rw [ih, zargs, zrv_cat]
    split <;> simp <;> omega
theorem zargs_lv (b base : Nat) : ∀ (as : List Value) (k j : Nat) (v : Value), (zargs as)[j]? = some (some v) → (k + j, zrv b base v) ∈ lv_args k (as.map (zrv b base))
  | [], k, j, v, h => by simp [zargs] at h
  | u :: as, k, j, v, h => by
    simp only [List.map_cons, lv_args, zrv_cat]
    rw [zargs] at h
    split at h
    · next hc =>
      rw [if_pos hc]
      cases j with
      | zero => simp at h; subst h; exact List.mem_cons_self
      | succ j =>
        cases j with
        | zero => simp at h
        | succ j =>
          simp at h
          have := zargs_lv b base as (k + 2) j v h
          rw [show k + (j + 1 + 1) = k + 2 + j by omega]
          exact List.mem_cons_of_mem _ this
    · next hc =>
      rw [if_neg hc]
      cases j with
      | zero => simp at h; subst h; exact List.mem_cons_self
      | succ j =>
        simp at h
        have := zargs_lv b base as (k + 1) j v h
        rw [show k + (j + 1) = k + 1 + j by omega]
        exact List.mem_cons_of_mem _ this
theorem zentry_get {z : Nat} {as : List Value} {j : Nat} {v : Value} (h : (zentry z as)[j]? = some (some v)) : (zargs as)[j]? = some (some v) := by
  unfold zentry at h
  by_cases hj : j < (zargs as).length
  · rwa [List.getElem?_append_left hj] at h
  · rw [List.getElem?_append_right (by omega)] at h
    have := List.mem_of_getElem? h
    rw [List.mem_replicate] at this
    cases this.2
theorem zlok_lt {z : Nat} {L : zL} (h : zlok z L = true) : zlt z L := by
  intro i v hi hc
  have hlt := (List.getElem?_eq_some_iff.mp hi).1
  have := List.all_eq_true.mp h i (List.mem_range.mpr hlt)
  rw [hi] at this
  simp only [Bool.or_eq_true, bne_iff_ne, List.contains_iff_mem] at this
  rcases this with q | q
  · exact absurd hc q
  · exact q
theorem zMet_of {l : Launch} {D : va_G} {b base : Nat} {ca : FieldType → ClassId} {X : Nat × (Nat → Int32)} {N : Nat} {h : zH} {z : Nat} {as : List Value} {r : zR} (hz : z < 160) (h0 : z ≠ 0) (h2 : z ≠ 2) (ha : (zargs as).length ≤ mL z) (hk : zlok z (zentry z as) = true)
    (run : ∀ (p : Program) (e : Env) (s : State) (m : MethodId) (args : Array Value) (below : List Frame) (meth : Method) (cd : Code), zX p s m args meth cd b base X z → zG p l e s m args below meth cd (MQ below (zQc D b base ca r) args s (mRm z).cells (mRm z).slots (fun q => base ≤ q)) D b base ca z 0 (zentry z as) [] (N, 0, 0) h) : zMet l D b base ca N h z as r := by
  obtain ⟨m1, m2, m3, m4, m5, m6, m7, m8⟩ := zm_ok hz h0 h2
  unfold zMet
  refine MetFree.of_bodySF (code := mB z) (maxLocals := mL z) (ret := mR z) m1 ?_ ?_
  · intro args s m hp hn
    obtain ⟨meth, c, g1, g2, g3, g4, g5, g6, -, -⟩ := Cond.code_spec hn (atoms_spec (ws := zws z) hp _ List.mem_cons_self)
    exact ⟨meth, c, g1, g2, g3, g4, g5, g6⟩
  · intro p e s m args below meth c s₁ B hml hP _
    have hh0 : s₁.heap = s.heap := by rw [B.state]; rfl
    obtain ⟨rfl, hT, hW⟩ := hP
    have hts := atoms_spec (ws := zws z) B.pre
    have C : zX p s m (as.map (zrv b base)).toArray meth c b base X z := by
      refine ⟨B.exec, B.bytes, hml, B.returns, B.notSynchronized, ?_, hT, ?_, fun hn => (name_of_methodNamed B.named B.method).1.trans hn, fun q => absurd q h0⟩
      · rw [m3]; exact findClass_of_methodNamed B.named
      · intro ty hy
        rcases hy with rfl | rfl | rfl <;> exact hts _ (by simp [zws])
    have hl := lv_entry (as.map (zrv b base)) (n := mL z) (by rw [zsl_len]; exact ha)
    have key := run p e s m _ below meth c C
    have hlv : lv_has ((lg_sl (as.map (zrv b base)) ++ List.replicate (mL z - (lg_sl (as.map (zrv b base))).length) Slot.unset).toArray) (mL z) (zlv b base (zentry z as)) := by
      refine zlv_of hl (fun q hq => ?_)
      obtain ⟨v, e1, e2⟩ := zlv_mem.mp hq
      have := zargs_lv b base as 0 q.1 v (zentry_get e1)
      rw [Nat.zero_add, ← e2] at this
      exact this
    have hw0 := key _ s.heap [] hlv (zlok_lt hk) hW va_S.rf (Nat.zero_le _) (Nat.zero_le _)
    have hw1 : W p l e (headSpec (zws z) (mRm z)).room s m (as.map (zrv b base)).toArray below meth c s.heap [] 0 0 (MQ below (zQc D b base ca r) (as.map (zrv b base)).toArray s (mRm z).cells (mRm z).slots (fun q => base ≤ q)) (entryFrame m (as.map (zrv b base)).toArray (mL z)) := by
      rw [lg_entry_eq]
      exact hw0
    obtain ⟨t, a1, o, b1, b2, b3⟩ := hw1 s₁ hh0 (Stand.of_body B)
    exact ⟨t, o, a1, b1, b2, ⟨b3.1, b3.2⟩⟩
/-- THE INTERPRETER IS THE MACHINE'S: a run of it to a return r, from a frame of a method that stands so, is one of the machine's -/
theorem zsound (X : Nat × (Nat → Int32)) (l : Launch) (D : va_G) (b base : Nat) (ca : FieldType → ClassId) : ∀ (n : Nat) (y pc : Nat) (L : zL) (st : List Value) (w : zN) (h : zH) (r : zR), zrun X n (y, pc, L, st, w, h) = some r → ∀ (p : Program) (e : Env) (s : State) (m : MethodId) (args : Array Value) (below : List Frame) (meth : Method) (cd : Code) (Q : State → Prop), zX p s m args meth cd b base X y →
    (∀ pc' L' st' w' h', zS X (y, pc', L', st', w', h') = some (.inr (.inr r)) → zG p l e s m args below meth cd Q D b base ca y pc' L' st' w' h') → zG p l e s m args below meth cd Q D b base ca y pc L st w h := by
  intro n
  induction n with
  | zero => intro y pc L st w h r hr; cases hr
  | succ n ih =>
    intro y pc L st w h r hr p e s m args below meth cd Q C fin
    rw [zrun] at hr
    split at hr
    · cases hr
    · next c' hc =>
      have hc0 := hc
      unfold zS at hc
      dsimp only at hc
      split at hc
      · next i len hd =>
        obtain ⟨pc', L', st', w', h', e1, e2⟩ := zs_go (l := l) (e := e) (below := below) (Q := Q) (D := D) (ca := ca) C hd hc
        cases e1
        exact e2 (ih y pc' L' st' w' h' r hr p e s m args below meth cd Q C fin)
      · cases hc
    · next c1 k hc =>
      unfold zS at hc
      dsimp only at hc
      split at hc
      · next i len hd =>
        obtain ⟨z, as, rest, z0, z2, z3, z4, z5, rfl, rfl, hgo⟩ := zs_call (l := l) (e := e) (below := below) (Q := Q) (D := D) (ca := ca) C hd hc
        split at hr
        · cases hr
        · next r1 hr1 =>
          refine hgo r1 (zMet_of (X := X) z3 z0 z2 z4 z5 (fun p' e' s' m' args' below' meth' cd' C' => ?_)) (ih y _ _ _ _ _ r hr p e s m args below meth cd Q C fin)
          exact ih z 0 (zentry z as) [] (w.1, 0, 0) h r1 hr1 p' e' s' m' args' below' meth' cd' _ C' (fun pc' L' st' w' h' hs => zs_ret C' hs)
      · cases hc
    · next r' hc =>
      cases hr
      exact fin pc L st w h hc
/-! THE CLAIM OUT OF ONE WALK OF THE LAW'S BODY. Your part is whole_start (and what it stands on); all else here is the same for every law, but numbers. -/
def R_law : String := "PursesByLotLaw"
def lw_P (b : Addr) (xs : List Int32) (args : Array Value) (s : State) : Prop := args = #[.ref b] ∧ s.IntsAt b xs ∧ xs.length ≤ 3584 ∧ (Jvm.Cond.and given_1 narrow_1).before args s = true
def lw_Q (_ : Array Value) (s : State) (o : Outcome) (t : State) : Prop := o = .returned (some (.int 1)) ∧ Framed s o t [] 75 2047
def lw_Z (below : List Frame) (a : Array Value) (s : State) : State → Prop := fun t => ∃ o, t.status = .running ∧ Ended t below o ∧ lw_Q a s o t
/-- the law's own end, with 1 on the stack, nothing written that was there before, its room as the claim has it -/
theorem lw_ret {p : Program} {l : Launch} {e : Env} {s : State} {m : MethodId} {below : List Frame} {meth : Method} {c : Code} {b : Nat} (hx : p.tables.exec = Jvm.exec) (hb : c.code = code) (hr : meth.sig.returnType = ret) (hlocks : meth.locks = false) {pc : Nat} {H : Heap} {ls : Array Slot} (hdg : decode code pc = .ok (.ireturn, 1)) : W p l e room_1 s m #[Value.ref b] below meth c H [] 75 2047 (lw_Z below #[Value.ref b] s) (F0 m pc ls [.int 1]) := by
  intro T hT X
  obtain ⟨fs, hret, hrun, hended, hW, hframe⟩ := X.leave (v := some (.int 1)) (hlocks := hlocks) (fun h => by rw [hr] at h; cases h)
  have hmeth' : T.vm.method? m = some meth := X.method'
  refine ⟨T.setFrames fs, ?_, .returned (some (.int 1)), hrun, hended, rfl, ⟨_, rfl⟩, hW, hframe⟩
  jvm_step X.here [X.here.top, hx, hb, hdg, hmeth', hr, ret, narrow_b1]
  (try refine ⟨rfl, ?_⟩); (try refine ⟨rfl, ?_⟩)
  first | (intro acts; rw [hret _ acts rfl rfl rfl]) | rw [hret _ _ rfl rfl rfl]
  exact Steps.refl _
/-- what holds at the law's entry: the machine, the code, the tables' words (any of lw_tbl by 'hts w (by decide +kernel)'), the script of L ints xs at the cell b, what the Statement gives of the start (any of its parts by flat_of_before) -/
def lw_At (p : Program) (s : State) (m : MethodId) (meth : Method) (c : Code) (b L : Nat) (xs : Nat → Int32) : Prop :=
  p.tables.exec = Jvm.exec ∧ c.code = code ∧ meth.sig.returnType = ret ∧ c.maxLocals = 4 ∧ s.vm.findClass R_law = some m.cls ∧ (∀ w ∈ lw_tbl, w.before #[Value.ref b] s = true) ∧ va_X b L xs s s.heap ∧ b < s.heap.size ∧ meth.locks = false ∧ (Jvm.Cond.and given_1 narrow_1).before #[Value.ref b] s = true
/-- the law's walk, out of the interpreter's -/
theorem zstart {p : Program} {e : Env} {s : State} {m : MethodId} {below : List Frame} {meth : Method} {c : Code} (l : Launch) {b L : Nat} {xs : Nat → Int32} (C0 : lw_At p s m meth c b L xs)
    (hE : zE (L, xs) 0 0 [some (.retAddr 0), none, none, none] [] (0, 0, 0) (fun _ => zdead) (fun v _ _ => v = some (.int 1))) : W p l e room_1 s m #[Value.ref b] below meth c s.heap [] 0 0 (lw_Z below #[Value.ref b] s) (entryFrame m ([Value.ref b] : List Value).toArray 4) := by
  obtain ⟨hx, hb, hr, hml, hown, hts, hX, hbl, hlocks, hgv⟩ := id C0
  have hT : zT s := fun w hw hk => va_Nw.of (ztw_on hk) (hts w hw)
  have harr : ∀ ty, ty = FieldType.int ∨ ty = .byte ∨ ty = .boolean → (Cond.arrayClass ty).before #[Value.ref b] s = true := by
    intro ty hy
    rcases hy with rfl | rfl | rfl
    · exact hts _ za_int
    · exact hts _ za_byte
    · exact hts _ za_boolean
  have hca : ∀ ty, ∃ cA : ClassId, (ty = FieldType.int ∨ ty = .byte ∨ ty = .boolean) → ArrOfT s cA ty ∧ va_RA s cA ty := by
    intro ty
    by_cases hy : ty = FieldType.int ∨ ty = .byte ∨ ty = .boolean
    · obtain ⟨cA, kA, comp, h1, h2, h3⟩ := Cond.arrayClass_spec (harr ty hy)
      refine ⟨cA, fun _ => ⟨fun n z => ⟨fun k h => (by cases h), kA, h2, comp, h3⟩, ?_⟩⟩
      rcases hy with rfl | rfl | rfl <;> exact h1
    · exact ⟨0, fun h => absurd h hy⟩
  obtain ⟨ca, hca⟩ := Classical.axiomOfChoice hca
  have hkn : ∀ ci, ∃ q : ClassId × (Nat → Nat), ci < 11 → u_Kn s (zcn.getD ci "") (zTT ci) (zTn ci) q.1 q.2 := by
    intro ci
    by_cases hc : ci < 11
    · obtain ⟨c1, c2, c3, c4, c5, c6, c7, c8, c9⟩ := zcok ci hc
      obtain ⟨cC, iS, hk⟩ := u_known (C := zcn.getD ci "") (T := zTT ci) (N := zTn ci) (n := zTn ci) (hT.all #[Value.ref b]) (fun w hw => zTs_in (c2 w hw)) (hT.use c8 rfl _)
      exact ⟨(cC, iS), fun _ => hk⟩
    · exact ⟨(0, fun _ => 0), fun h => absurd h hc⟩
  obtain ⟨f, hf⟩ := Classical.axiomOfChoice hkn
  have hK : va_K (fun ci => (f ci).1, fun ci => (f ci).2) zcls [] s := by
    refine ⟨fun ci q hq => ?_, fun k q h => by simp at h⟩
    have hc : ci < 11 := (List.getElem?_eq_some_iff.mp hq).1
    rw [(zcok ci hc).1] at hq
    cases hq
    exact hf ci hc
  have C : zX p s m #[Value.ref b] meth c b s.heap.size (L, xs) 0 := ⟨hx, hb, hml, hr, hlocks, hown, hT, harr, fun hn => absurd hn (by decide), fun _ => ⟨hX, hbl, hbl⟩⟩
  obtain ⟨n, r, h1, h2⟩ := hE
  have hW : zW (fun ci => (f ci).1, fun ci => (f ci).2) b s.heap.size ca 0 (fun _ => zdead) s s.heap := ⟨fun k q h => by simp [zrw] at h, hK, fun ty hy => hca ty hy, rfl, fun _ _ => rfl, fun i ty n f h => by cases h⟩
  have key := zsound (L, xs) l (fun ci => (f ci).1, fun ci => (f ci).2) b s.heap.size ca n 0 0 _ [] (0, 0, 0) _ r h1 p e s m #[Value.ref b] below meth c (lw_Z below #[Value.ref b] s) C (fun pc' L' st' w' h' hs => ?_)
  · have hl := lv_entry ([Value.ref b]) (n := 4) (Nat.le_of_ble_eq_true rfl)
    rw [lg_entry_eq]
    refine key _ s.heap [] (zlv_of hl (fun q hq => ?_)) (by intro i v hi hc; match i, hi with
      | 0, hi => cases hi; cases hc
      | 1, hi => cases hi
      | 2, hi => cases hi
      | 3, hi => cases hi
      | i + 4, hi => simp at hi) hW va_S.rf (Nat.zero_le _) (Nat.zero_le _)
    obtain ⟨v, e1, e2⟩ := zlv_mem.mp hq
    match q, e1, e2 with
    | (0, q2), e1, e2 => cases e1; cases e2; exact List.mem_cons_self
    | (1, q2), e1, e2 => cases e1
    | (2, q2), e1, e2 => cases e1
    | (3, q2), e1, e2 => cases e1
    | (i + 4, q2), e1, e2 => simp at e1
  · unfold zS at hs
    dsimp only at hs
    split at hs
    · next i len hd =>
      rcases zI_ret hs with rfl | rfl | rfl
      · obtain ⟨hl, hs0⟩ := zif_some hs; clear hs; have hs := hs0; clear hs0; obtain rfl := eq_of_beq hl
        split at hs
        · next x =>
          obtain ⟨hq, hs⟩ := zif_some hs
          cases hs
          cases h2
          intro ls H locs h1 h2 h3 h4 h5 h6
          refine va_forget (fun q hq => h4.2.2 q hq) ?_
          refine W.widen (k := 75) (n := 2047) h5 h6 ?_
          exact lw_ret hx hb hr hlocks hd
        · cases hs
      · obtain ⟨hl, hs0⟩ := zif_some hs; clear hs; have hs := hs0; clear hs0; obtain rfl := eq_of_beq hl
        split at hs
        · obtain ⟨hq, hs⟩ := zif_some hs
          cases hs
          cases h2
        · cases hs
      · obtain ⟨hl, hs0⟩ := zif_some hs; clear hs; have hs := hs0; clear hs0; obtain rfl := eq_of_beq hl
        split at hs
        · obtain ⟨hq, hs⟩ := zif_some hs
          cases hs
          cases h2
        · cases hs
    · cases hs
end
section
-- the interpreter's run, an equation an instruction
section ZEQ
variable {X : Nat × (Nat → Int32)} {y pc : Nat} {L : zL} {st : List Value} {w : zN} {h : zH} {Q : Option Value → Nat → zH → Prop}
theorem zS_of {i : Instr} {len : Nat} (hd : decode (mB y) pc = .ok (i, len)) : zS X (y, pc, L, st, w, h) = zI X y pc L st w h i len := by
  unfold zS
  dsimp only
  rw [hd]
theorem zE_iconst {n : Int} {v : Int32} (hd : decode (mB y) pc = .ok (.iconst n, 1)) (hv : Int32.ofInt n = v) : zE X y pc L st w h Q = zE X y (pc + 1) L (.int v :: st) w h Q := by subst hv; exact zE_go (by rw [zS_of hd]; rfl)
theorem zE_bipush {n : Int} {v : Int32} (hd : decode (mB y) pc = .ok (.bipush n, 2)) (hv : (Int8.ofInt n).toInt32 = v) : zE X y pc L st w h Q = zE X y (pc + 2) L (.int v :: st) w h Q := by subst hv; exact zE_go (by rw [zS_of hd]; rfl)
theorem zE_sipush {n : Int} {v : Int32} (hd : decode (mB y) pc = .ok (.sipush n, 3)) (hv : (Int16.ofInt n).toInt32 = v) : zE X y pc L st w h Q = zE X y (pc + 3) L (.int v :: st) w h Q := by subst hv; exact zE_go (by rw [zS_of hd]; rfl)
theorem zE_lconst {n : Fin 2} {v : Int64} (hd : decode (mB y) pc = .ok (.lconst n, 1)) (hv : Int64.ofNat n = v) : zE X y pc L st w h Q = zE X y (pc + 1) L (.long v :: st) w h Q := by subst hv; exact zE_go (by rw [zS_of hd]; rfl)
theorem zE_ldc {k q : Nat} {v : Int32} (hd : decode (mB y) pc = .ok (.ldc k, 2)) (hk : zki? (mC y) k = some (v, q)) : zE X y pc L st w h Q = zE X y (pc + 2) L (.int v :: st) w h Q := zE_go (by rw [zS_of hd]; simp only [zI, hk]; rfl)
theorem zE_ldcw {k q : Nat} {v : Int32} (hd : decode (mB y) pc = .ok (.ldc_w k, 3)) (hk : zki? (mC y) k = some (v, q)) : zE X y pc L st w h Q = zE X y (pc + 3) L (.int v :: st) w h Q := zE_go (by rw [zS_of hd]; simp only [zI, hk]; rfl)
theorem zE_ldc2 {k q : Nat} {v : Int64} (hd : decode (mB y) pc = .ok (.ldc2_w k, 3)) (hk : zkl? (mC y) k = some (v, q)) : zE X y pc L st w h Q = zE X y (pc + 3) L (.long v :: st) w h Q := zE_go (by rw [zS_of hd]; simp only [zI, hk]; rfl)
theorem zE_iload_n {k : Fin 4} {x : Int32} (hd : decode (mB y) pc = .ok (.iload_n k, 1)) (hl : L[k.val]? = some (some (.int x))) : zE X y pc L st w h Q = zE X y (pc + 1) L (.int x :: st) w h Q := zE_go (by rw [zS_of hd]; simp only [zI, zint, hl]; rfl)
theorem zE_iload {k : Nat} {x : Int32} (hd : decode (mB y) pc = .ok (.iload k, 2)) (hl : L[k]? = some (some (.int x))) : zE X y pc L st w h Q = zE X y (pc + 2) L (.int x :: st) w h Q := zE_go (by rw [zS_of hd]; simp only [zI, zint, hl]; rfl)
theorem zE_lload_n {k : Fin 4} {x : Int64} (hd : decode (mB y) pc = .ok (.lload_n k, 1)) (hl : L[k.val]? = some (some (.long x))) : zE X y pc L st w h Q = zE X y (pc + 1) L (.long x :: st) w h Q := zE_go (by rw [zS_of hd]; simp only [zI, zlong, hl]; rfl)
theorem zE_lload {k : Nat} {x : Int64} (hd : decode (mB y) pc = .ok (.lload k, 2)) (hl : L[k]? = some (some (.long x))) : zE X y pc L st w h Q = zE X y (pc + 2) L (.long x :: st) w h Q := zE_go (by rw [zS_of hd]; simp only [zI, zlong, hl]; rfl)
theorem zE_aload_n {k : Fin 4} {x : Nat} (hd : decode (mB y) pc = .ok (.aload_n k, 1)) (hl : L[k.val]? = some (some (.ref x))) : zE X y pc L st w h Q = zE X y (pc + 1) L (.ref x :: st) w h Q := zE_go (by rw [zS_of hd]; simp only [zI, zref, hl]; rfl)
theorem zE_aload {k : Nat} {x : Nat} (hd : decode (mB y) pc = .ok (.aload k, 2)) (hl : L[k]? = some (some (.ref x))) : zE X y pc L st w h Q = zE X y (pc + 2) L (.ref x :: st) w h Q := zE_go (by rw [zS_of hd]; simp only [zI, zref, hl]; rfl)
theorem zE_aload_s {k : Fin 4} {x : Nat} (hd : decode (mB y) pc = .ok (.aload_n k, 1)) (hl : L[k.val]? = some (some (.retAddr x))) : zE X y pc L st w h Q = zE X y (pc + 1) L (.retAddr x :: st) w h Q := zE_go (by rw [zS_of hd]; simp only [zI, zref, hl]; rfl)
theorem zE_istore_n {k : Fin 4} {x : Int32} {L' : zL} (hd : decode (mB y) pc = .ok (.istore_n k, 1)) (hi : zst y k = true) (hl : L.set k.val (some (.int x)) = L') : zE X y pc L (.int x :: st) w h Q = zE X y (pc + 1) L' st w h Q := by subst hl; exact zE_go (by rw [zS_of hd]; simp only [zI, zist, hi]; rfl)
theorem zE_istore {k : Nat} {x : Int32} {L' : zL} (hd : decode (mB y) pc = .ok (.istore k, 2)) (hi : zst y k = true) (hl : L.set k (some (.int x)) = L') : zE X y pc L (.int x :: st) w h Q = zE X y (pc + 2) L' st w h Q := by subst hl; exact zE_go (by rw [zS_of hd]; simp only [zI, zist, hi]; rfl)
theorem zE_astore_n {k : Fin 4} {x : Nat} {L' : zL} (hd : decode (mB y) pc = .ok (.astore_n k, 1)) (hi : zst y k = true) (hl : L.set k.val (some (.ref x)) = L') : zE X y pc L (.ref x :: st) w h Q = zE X y (pc + 1) L' st w h Q := by subst hl; exact zE_go (by rw [zS_of hd]; simp only [zI, zast, hi]; rfl)
theorem zE_lstore {k : Nat} {x : Int64} {L' : zL} (hd : decode (mB y) pc = .ok (.lstore k, 2)) (hi : (zst y k && decide (k + 1 < mL y) && (mLs y).contains k) = true) (hl : (L.set k (some (.long x))).set (k + 1) none = L') : zE X y pc L (.long x :: st) w h Q = zE X y (pc + 2) L' st w h Q := by subst hl; exact zE_go (by rw [zS_of hd]; simp only [zI, zlst, hi]; rfl)
theorem zE_iinc {k : Nat} {n : Int} {x v : Int32} {L' : zL} (hd : decode (mB y) pc = .ok (.iinc k n, 3)) (hi : zst y k = true) (hk : L[k]? = some (some (.int x))) (hv : Int32.ofInt n = v) (hl : L.set k (some (.int (x + v))) = L') : zE X y pc L st w h Q = zE X y (pc + 3) L' st w h Q := by subst hv; subst hl; exact zE_go (by rw [zS_of hd]; simp only [zI, hk, hi]; rfl)
theorem zE_iadd {a b : Int32} (hd : decode (mB y) pc = .ok (.iadd, 1)) : zE X y pc L (.int b :: .int a :: st) w h Q = zE X y (pc + 1) L (.int (a + b) :: st) w h Q := zE_go (by rw [zS_of hd]; rfl)
theorem zE_isub {a b : Int32} (hd : decode (mB y) pc = .ok (.isub, 1)) : zE X y pc L (.int b :: .int a :: st) w h Q = zE X y (pc + 1) L (.int (a - b) :: st) w h Q := zE_go (by rw [zS_of hd]; rfl)
theorem zE_imul {a b : Int32} (hd : decode (mB y) pc = .ok (.imul, 1)) : zE X y pc L (.int b :: .int a :: st) w h Q = zE X y (pc + 1) L (.int (a * b) :: st) w h Q := zE_go (by rw [zS_of hd]; rfl)
theorem zE_iand {a b : Int32} (hd : decode (mB y) pc = .ok (.iand, 1)) : zE X y pc L (.int b :: .int a :: st) w h Q = zE X y (pc + 1) L (.int (a &&& b) :: st) w h Q := zE_go (by rw [zS_of hd]; rfl)
theorem zE_ior {a b : Int32} (hd : decode (mB y) pc = .ok (.ior, 1)) : zE X y pc L (.int b :: .int a :: st) w h Q = zE X y (pc + 1) L (.int (a ||| b) :: st) w h Q := zE_go (by rw [zS_of hd]; rfl)
theorem zE_ixor {a b : Int32} (hd : decode (mB y) pc = .ok (.ixor, 1)) : zE X y pc L (.int b :: .int a :: st) w h Q = zE X y (pc + 1) L (.int (a ^^^ b) :: st) w h Q := zE_go (by rw [zS_of hd]; rfl)
theorem zE_ishl {a b : Int32} (hd : decode (mB y) pc = .ok (.ishl, 1)) : zE X y pc L (.int b :: .int a :: st) w h Q = zE X y (pc + 1) L (.int (a <<< (b &&& 31)) :: st) w h Q := zE_go (by rw [zS_of hd]; rfl)
theorem zE_ishr {a b : Int32} (hd : decode (mB y) pc = .ok (.ishr, 1)) : zE X y pc L (.int b :: .int a :: st) w h Q = zE X y (pc + 1) L (.int (a >>> (b &&& 31)) :: st) w h Q := zE_go (by rw [zS_of hd]; rfl)
theorem zE_iushr {a b : Int32} (hd : decode (mB y) pc = .ok (.iushr, 1)) : zE X y pc L (.int b :: .int a :: st) w h Q = zE X y (pc + 1) L (.int (a.toUInt32 >>> (b.toUInt32 &&& Int32.toUInt32 31)).toInt32 :: st) w h Q := zE_go (by rw [zS_of hd]; rfl)
theorem zE_idiv {a b : Int32} (hd : decode (mB y) pc = .ok (.idiv, 1)) : zE X y pc L (.int b :: .int a :: st) w h Q = if b = 0 then False else zE X y (pc + 1) L (.int (a / b) :: st) w h Q := by
  split
  · next hb => exact zE_none (by rw [zS_of hd]; simp only [zI, hb]; rfl)
  · next hb => exact zE_go (by rw [zS_of hd]; simp only [zI, hb]; rfl)
theorem zE_irem {a b : Int32} (hd : decode (mB y) pc = .ok (.irem, 1)) : zE X y pc L (.int b :: .int a :: st) w h Q = if b = 0 then False else zE X y (pc + 1) L (.int (a - a / b * b) :: st) w h Q := by
  split
  · next hb => exact zE_none (by rw [zS_of hd]; simp only [zI, hb]; rfl)
  · next hb => exact zE_go (by rw [zS_of hd]; simp only [zI, hb]; rfl)
theorem zE_ldiv {a b : Int64} (hd : decode (mB y) pc = .ok (.ldiv, 1)) : zE X y pc L (.long b :: .long a :: st) w h Q = if b = 0 then False else zE X y (pc + 1) L (.long (a / b) :: st) w h Q := by
  split
  · next hb => exact zE_none (by rw [zS_of hd]; simp only [zI, hb]; rfl)
  · next hb => exact zE_go (by rw [zS_of hd]; simp only [zI, hb]; rfl)
theorem zE_lrem {a b : Int64} (hd : decode (mB y) pc = .ok (.lrem, 1)) : zE X y pc L (.long b :: .long a :: st) w h Q = if b = 0 then False else zE X y (pc + 1) L (.long (a - a / b * b) :: st) w h Q := by
  split
  · next hb => exact zE_none (by rw [zS_of hd]; simp only [zI, hb]; rfl)
  · next hb => exact zE_go (by rw [zS_of hd]; simp only [zI, hb]; rfl)
theorem zE_ineg {a : Int32} (hd : decode (mB y) pc = .ok (.ineg, 1)) : zE X y pc L (.int a :: st) w h Q = zE X y (pc + 1) L (.int (-a) :: st) w h Q := zE_go (by rw [zS_of hd]; rfl)
theorem zE_lneg {a : Int64} (hd : decode (mB y) pc = .ok (.lneg, 1)) : zE X y pc L (.long a :: st) w h Q = zE X y (pc + 1) L (.long (-a) :: st) w h Q := zE_go (by rw [zS_of hd]; rfl)
theorem zE_ladd {a b : Int64} (hd : decode (mB y) pc = .ok (.ladd, 1)) : zE X y pc L (.long b :: .long a :: st) w h Q = zE X y (pc + 1) L (.long (a + b) :: st) w h Q := zE_go (by rw [zS_of hd]; rfl)
theorem zE_lmul {a b : Int64} (hd : decode (mB y) pc = .ok (.lmul, 1)) : zE X y pc L (.long b :: .long a :: st) w h Q = zE X y (pc + 1) L (.long (a * b) :: st) w h Q := zE_go (by rw [zS_of hd]; rfl)
theorem zE_land {a b : Int64} (hd : decode (mB y) pc = .ok (.land, 1)) : zE X y pc L (.long b :: .long a :: st) w h Q = zE X y (pc + 1) L (.long (a &&& b) :: st) w h Q := zE_go (by rw [zS_of hd]; rfl)
theorem zE_lor {a b : Int64} (hd : decode (mB y) pc = .ok (.lor, 1)) : zE X y pc L (.long b :: .long a :: st) w h Q = zE X y (pc + 1) L (.long (a ||| b) :: st) w h Q := zE_go (by rw [zS_of hd]; rfl)
theorem zE_lshl {a : Int64} {b : Int32} (hd : decode (mB y) pc = .ok (.lshl, 1)) : zE X y pc L (.int b :: .long a :: st) w h Q = zE X y (pc + 1) L (.long (a <<< (b.toInt64 &&& 63)) :: st) w h Q := zE_go (by rw [zS_of hd]; rfl)
theorem zE_lshr {a : Int64} {b : Int32} (hd : decode (mB y) pc = .ok (.lshr, 1)) : zE X y pc L (.int b :: .long a :: st) w h Q = zE X y (pc + 1) L (.long (a >>> (b.toInt64 &&& 63)) :: st) w h Q := zE_go (by rw [zS_of hd]; rfl)
theorem zE_lcmp {a b : Int64} (hd : decode (mB y) pc = .ok (.lcmp, 1)) : zE X y pc L (.long b :: .long a :: st) w h Q = zE X y (pc + 1) L (.int (lg_cmp a b) :: st) w h Q := zE_go (by rw [zS_of hd]; rfl)
theorem zE_i2l {a : Int32} (hd : decode (mB y) pc = .ok (.i2l, 1)) : zE X y pc L (.int a :: st) w h Q = zE X y (pc + 1) L (.long a.toInt64 :: st) w h Q := zE_go (by rw [zS_of hd]; rfl)
theorem zE_l2i {a : Int64} (hd : decode (mB y) pc = .ok (.l2i, 1)) : zE X y pc L (.long a :: st) w h Q = zE X y (pc + 1) L (.int a.toInt32 :: st) w h Q := zE_go (by rw [zS_of hd]; rfl)
theorem zE_i2b {a : Int32} (hd : decode (mB y) pc = .ok (.i2b, 1)) : zE X y pc L (.int a :: st) w h Q = zE X y (pc + 1) L (.int a.toInt8.toInt32 :: st) w h Q := zE_go (by rw [zS_of hd]; rfl)
theorem zE_dup {a : Value} (hd : decode (mB y) pc = .ok (.dup, 1)) (hc : a.category = 1) : zE X y pc L (a :: st) w h Q = zE X y (pc + 1) L (a :: a :: st) w h Q := zE_go (by rw [zS_of hd]; simp only [zI, hc]; rfl)
theorem zE_dup2 {a b : Value} (hd : decode (mB y) pc = .ok (.dup2, 1)) (hc : a.category = 1) (hc2 : b.category = 1) : zE X y pc L (a :: b :: st) w h Q = zE X y (pc + 1) L (a :: b :: a :: b :: st) w h Q := zE_go (by rw [zS_of hd]; simp only [zI, hc, hc2]; rfl)
theorem zE_pop {a : Value} (hd : decode (mB y) pc = .ok (.pop, 1)) (hc : a.category = 1) : zE X y pc L (a :: st) w h Q = zE X y (pc + 1) L st w h Q := zE_go (by rw [zS_of hd]; simp only [zI, hc]; rfl)
theorem zjmp_eq {pc t : Nat} {off : Int} (ht : (pc : Int) + off = (t : Int)) (f : Nat → zA) : zjmp pc off f = f t := by
  unfold zjmp
  rw [if_pos (by rw [ht]; exact Int.natCast_nonneg t), ht, Int.toNat_natCast]
theorem zE_goto {off : Int} {t : Nat} (hd : decode (mB y) pc = .ok (.goto off, 3)) (ht : (pc : Int) + off = (t : Int)) : zE X y pc L st w h Q = zE X y t L st w h Q := zE_go (by rw [zS_of hd]; simp only [zI, zjmp_eq ht]; rfl)
theorem zE_br {st0 : List Value} {c : Prop} [Decidable c] {off : Int} {t : Nat} (hs : zS X (y, pc, L, st, w, h) = zbr y pc L st0 w h c off) (ht : (pc : Int) + off = (t : Int)) : zE X y pc L st w h Q = if c then zE X y t L st0 w h Q else zE X y (pc + 3) L st0 w h Q := by
  unfold zbr at hs
  rw [zjmp_eq ht] at hs
  split
  · next hc => exact zE_go (by rw [hs, if_pos hc])
  · next hc => exact zE_go (by rw [hs, if_neg hc])
theorem zE_if {cn : Jvm.ClassFile.Cond} {x : Int32} {off : Int} {t : Nat} (hd : decode (mB y) pc = .ok (.ifCond cn off, 3)) (ht : (pc : Int) + off = (t : Int)) : zE X y pc L (.int x :: st) w h Q = if zcond1 cn x = true then zE X y t L st w h Q else zE X y (pc + 3) L st w h Q := zE_br (by rw [zS_of hd]; rfl) ht
theorem zE_icmp {cn : Jvm.ClassFile.Cond} {a b : Int32} {off : Int} {t : Nat} (hd : decode (mB y) pc = .ok (.if_icmp cn off, 3)) (ht : (pc : Int) + off = (t : Int)) : zE X y pc L (.int b :: .int a :: st) w h Q = if zcond2 cn a b = true then zE X y t L st w h Q else zE X y (pc + 3) L st w h Q := zE_br (by rw [zS_of hd]; rfl) ht
theorem zite {c d : Prop} [Decidable c] [Decidable d] (h : c ↔ d) {a b : Prop} : (if c then a else b) = (if d then a else b) := by
  by_cases hc : c
  · rw [if_pos hc, if_pos (h.mp hc)]
  · rw [if_neg hc, if_neg (fun q => hc (h.mpr q))]
theorem zitn {c d : Prop} [Decidable c] [Decidable d] (h : c ↔ ¬ d) {a b : Prop} : (if c then a else b) = (if d then b else a) := by
  by_cases hc : c
  · rw [if_pos hc, if_neg (h.mp hc)]
  · rw [if_neg hc, if_pos (Classical.byContradiction fun q => hc (h.mpr q))]
theorem zE_if_eq {x : Int32} {off : Int} {t : Nat} (hd : decode (mB y) pc = .ok (.ifCond .eq off, 3)) (ht : (pc : Int) + off = (t : Int)) : zE X y pc L (.int x :: st) w h Q = if x = 0 then zE X y t L st w h Q else zE X y (pc + 3) L st w h Q := (zE_if hd ht).trans (zite (by simp [zcond1]))
theorem zE_if_ne {x : Int32} {off : Int} {t : Nat} (hd : decode (mB y) pc = .ok (.ifCond .ne off, 3)) (ht : (pc : Int) + off = (t : Int)) : zE X y pc L (.int x :: st) w h Q = if x = 0 then zE X y (pc + 3) L st w h Q else zE X y t L st w h Q := (zE_if hd ht).trans (zitn (by simp [zcond1]))
theorem zE_if_lt {x : Int32} {off : Int} {t : Nat} (hd : decode (mB y) pc = .ok (.ifCond .lt off, 3)) (ht : (pc : Int) + off = (t : Int)) : zE X y pc L (.int x :: st) w h Q = if x < 0 then zE X y t L st w h Q else zE X y (pc + 3) L st w h Q := (zE_if hd ht).trans (zite (by simp [zcond1]))
theorem zE_if_ge {x : Int32} {off : Int} {t : Nat} (hd : decode (mB y) pc = .ok (.ifCond .ge off, 3)) (ht : (pc : Int) + off = (t : Int)) : zE X y pc L (.int x :: st) w h Q = if 0 ≤ x then zE X y t L st w h Q else zE X y (pc + 3) L st w h Q := (zE_if hd ht).trans (zite (by simp [zcond1]))
theorem zE_if_gt {x : Int32} {off : Int} {t : Nat} (hd : decode (mB y) pc = .ok (.ifCond .gt off, 3)) (ht : (pc : Int) + off = (t : Int)) : zE X y pc L (.int x :: st) w h Q = if 0 < x then zE X y t L st w h Q else zE X y (pc + 3) L st w h Q := (zE_if hd ht).trans (zite (by simp [zcond1]))
theorem zE_if_le {x : Int32} {off : Int} {t : Nat} (hd : decode (mB y) pc = .ok (.ifCond .le off, 3)) (ht : (pc : Int) + off = (t : Int)) : zE X y pc L (.int x :: st) w h Q = if x ≤ 0 then zE X y t L st w h Q else zE X y (pc + 3) L st w h Q := (zE_if hd ht).trans (zite (by simp [zcond1]))
theorem zE_icmp_eq {a b : Int32} {off : Int} {t : Nat} (hd : decode (mB y) pc = .ok (.if_icmp .eq off, 3)) (ht : (pc : Int) + off = (t : Int)) : zE X y pc L (.int b :: .int a :: st) w h Q = if a = b then zE X y t L st w h Q else zE X y (pc + 3) L st w h Q := (zE_icmp hd ht).trans (zite (by simp [zcond2]))
theorem zE_icmp_ne {a b : Int32} {off : Int} {t : Nat} (hd : decode (mB y) pc = .ok (.if_icmp .ne off, 3)) (ht : (pc : Int) + off = (t : Int)) : zE X y pc L (.int b :: .int a :: st) w h Q = if a = b then zE X y (pc + 3) L st w h Q else zE X y t L st w h Q := (zE_icmp hd ht).trans (zitn (by simp [zcond2]))
theorem zE_icmp_lt {a b : Int32} {off : Int} {t : Nat} (hd : decode (mB y) pc = .ok (.if_icmp .lt off, 3)) (ht : (pc : Int) + off = (t : Int)) : zE X y pc L (.int b :: .int a :: st) w h Q = if a < b then zE X y t L st w h Q else zE X y (pc + 3) L st w h Q := (zE_icmp hd ht).trans (zite (by simp [zcond2]))
theorem zE_icmp_ge {a b : Int32} {off : Int} {t : Nat} (hd : decode (mB y) pc = .ok (.if_icmp .ge off, 3)) (ht : (pc : Int) + off = (t : Int)) : zE X y pc L (.int b :: .int a :: st) w h Q = if b ≤ a then zE X y t L st w h Q else zE X y (pc + 3) L st w h Q := (zE_icmp hd ht).trans (zite (by simp [zcond2]))
theorem zE_icmp_gt {a b : Int32} {off : Int} {t : Nat} (hd : decode (mB y) pc = .ok (.if_icmp .gt off, 3)) (ht : (pc : Int) + off = (t : Int)) : zE X y pc L (.int b :: .int a :: st) w h Q = if b < a then zE X y t L st w h Q else zE X y (pc + 3) L st w h Q := (zE_icmp hd ht).trans (zite (by simp [zcond2]))
theorem zE_icmp_le {a b : Int32} {off : Int} {t : Nat} (hd : decode (mB y) pc = .ok (.if_icmp .le off, 3)) (ht : (pc : Int) + off = (t : Int)) : zE X y pc L (.int b :: .int a :: st) w h Q = if a ≤ b then zE X y t L st w h Q else zE X y (pc + 3) L st w h Q := (zE_icmp hd ht).trans (zite (by simp [zcond2]))
/-- a field of an object of a class -/
def zgf (c : zC) (ci k : Nat) (F : Value → Prop) : Prop := match c with
  | .inr (c', fs) => if c' = ci then match fs[k]? with
    | some v => F v
    | none => False
    else False
  | .inl _ => False
def zpf (c : zC) (ci k : Nat) (v : Value) (F : zC → Prop) : Prop := match c with
  | .inr (c', fs) => if c' = ci ∧ k < fs.length then F (.inr (c', fs.set k v)) else False
  | .inl _ => False
/-- an element of an array: kind 0 ints, 1 bytes and booleans -/
def zal (c : zC) (kd : Nat) (i : Int32) (F : Int32 → Prop) : Prop := match c with
  | .inl (ty, n, f) => if (if kd = 0 then ty = FieldType.int else (ty = .byte ∨ ty = .boolean)) ∧ ¬ (i < 0 ∨ n ≤ i.toNatClampNeg) then F (f i.toNatClampNeg) else False
  | .inr _ => False
def zas (c : zC) (kd : Nat) (i x : Int32) (F : zC → Prop) : Prop := match c with
  | .inl (ty, n, f) => if (if kd = 0 then ty = FieldType.int else (ty = .byte ∨ ty = .boolean)) ∧ ¬ (i < 0 ∨ n ≤ i.toNatClampNeg) then F (.inl (ty, n, upd f i.toNatClampNeg (if kd = 0 then x else vp_nar ty x))) else False
  | .inr _ => False
def zan (c : zC) (F : Int32 → Prop) : Prop := match c with
  | .inl (_, n, _) => F (Int32.ofNat n)
  | .inr _ => False
/-- a receiver of a class -/
def zrc (c : zC) (ci : Nat) (P : Prop) : Prop := match c with
  | .inr (c', _) => if c' = ci then P else False
  | .inl _ => False
theorem zE_getfield {k a ci kk q : Nat} {nest : Bool} (hd : decode (mB y) pc = .ok (.getfield k, 3)) (hf : zfl? (mC y) k = some (ci, kk, nest, q)) : zE X y pc L (.ref a :: st) w h Q = zgf (h a) ci kk (fun v => zE X y (pc + 3) L (v :: st) w h Q) := by
  have e := zS_of (X := X) (L := L) (st := .ref a :: st) (w := w) (h := h) hd
  simp only [zI, hf] at e
  unfold zgf
  split
  · next c' fs ha =>
    simp only [ha] at e
    split
    · next hc =>
      simp only [hc, if_true] at e
      split
      · next v hv => simp only [hv] at e; exact zE_go e
      · next hv => simp only [hv] at e; exact zE_none e
    · next hc => simp only [hc, if_false] at e; exact zE_none e
  · next ha => simp only [ha] at e; exact zE_none e
theorem zE_putfield {k a ci kk q : Nat} {nest : Bool} {v : Value} (hd : decode (mB y) pc = .ok (.putfield k, 3)) (hf : zfl? (mC y) k = some (ci, kk, nest, q)) (hfin : zfin y (ci, kk, nest, q) = true) (hfit : zfit (zty ci kk) v = true) : zE X y pc L (v :: .ref a :: st) w h Q = zpf (h a) ci kk v (fun c => zE X y (pc + 3) L st w (va_up h a c) Q) := by
  have e := zS_of (X := X) (L := L) (st := v :: .ref a :: st) (w := w) (h := h) hd
  simp only [zI, hf, hfin, hfit, Bool.and_true] at e
  unfold zpf
  split
  · next c' fs ha =>
    simp only [ha] at e
    split
    · next hc => simp only [hc.1, hc.2, decide_true, Bool.and_self] at e ⊢; exact zE_go e
    · next hc =>
      have hb : (decide (c' = ci) && decide (kk < fs.length)) = false := by
        rw [Bool.eq_false_iff]; intro hq; simp only [Bool.and_eq_true, decide_eq_true_eq] at hq; exact hc hq
      simp only [hb] at e; exact zE_none e
  · next ha => simp only [ha] at e; exact zE_none e
theorem zE_iaload {a : Nat} {i : Int32} (hd : decode (mB y) pc = .ok (.iaload, 1)) : zE X y pc L (.int i :: .ref a :: st) w h Q = zal (h a) 0 i (fun x => zE X y (pc + 1) L (.int x :: st) w h Q) := by
  have e := zS_of (X := X) (L := L) (st := .int i :: .ref a :: st) (w := w) (h := h) hd
  simp only [zI] at e
  unfold zal
  split
  · next ty n f ha =>
    simp only [ha] at e
    simp only [if_true]
    split
    · next hc => rw [if_pos hc] at e; exact zE_go e
    · next hc => rw [if_neg hc] at e; exact zE_none e
  · next ha => simp only [ha] at e; exact zE_none e
theorem zE_baload {a : Nat} {i : Int32} (hd : decode (mB y) pc = .ok (.baload, 1)) : zE X y pc L (.int i :: .ref a :: st) w h Q = zal (h a) 1 i (fun x => zE X y (pc + 1) L (.int x :: st) w h Q) := by
  have e := zS_of (X := X) (L := L) (st := .int i :: .ref a :: st) (w := w) (h := h) hd
  simp only [zI] at e
  unfold zal
  split
  · next ty n f ha =>
    simp only [ha] at e
    simp only [Nat.one_ne_zero, if_false]
    split
    · next hc => rw [if_pos hc] at e; exact zE_go e
    · next hc => rw [if_neg hc] at e; exact zE_none e
  · next ha => simp only [ha] at e; exact zE_none e
theorem zE_iastore {a : Nat} {i x : Int32} (hd : decode (mB y) pc = .ok (.iastore, 1)) : zE X y pc L (.int x :: .int i :: .ref a :: st) w h Q = zas (h a) 0 i x (fun c => zE X y (pc + 1) L st w (va_up h a c) Q) := by
  have e := zS_of (X := X) (L := L) (st := .int x :: .int i :: .ref a :: st) (w := w) (h := h) hd
  simp only [zI] at e
  unfold zas
  split
  · next ty n f ha =>
    simp only [ha] at e
    simp only [if_true]
    split
    · next hc => rw [if_pos hc] at e; exact zE_go e
    · next hc => rw [if_neg hc] at e; exact zE_none e
  · next ha => simp only [ha] at e; exact zE_none e
theorem zE_bastore {a : Nat} {i x : Int32} (hd : decode (mB y) pc = .ok (.bastore, 1)) : zE X y pc L (.int x :: .int i :: .ref a :: st) w h Q = zas (h a) 1 i x (fun c => zE X y (pc + 1) L st w (va_up h a c) Q) := by
  have e := zS_of (X := X) (L := L) (st := .int x :: .int i :: .ref a :: st) (w := w) (h := h) hd
  simp only [zI] at e
  unfold zas
  split
  · next ty n f ha =>
    simp only [ha] at e
    simp only [Nat.one_ne_zero, if_false]
    split
    · next hc => rw [if_pos hc] at e; exact zE_go e
    · next hc => rw [if_neg hc] at e; exact zE_none e
  · next ha => simp only [ha] at e; exact zE_none e
theorem zE_alen {a : Nat} (hd : decode (mB y) pc = .ok (.arraylength, 1)) : zE X y pc L (.ref a :: st) w h Q = zan (h a) (fun x => zE X y (pc + 1) L (.int x :: st) w h Q) := by
  have e := zS_of (X := X) (L := L) (st := .ref a :: st) (w := w) (h := h) hd
  simp only [zI] at e
  unfold zan
  split
  · next ty n f ha => simp only [ha] at e; exact zE_go e
  · next ha => simp only [ha] at e; exact zE_none e
theorem zE_slen {a : Nat} (hd : decode (mB 0) pc = .ok (.arraylength, 1)) : zE X 0 pc L (.retAddr a :: st) w h Q = zE X 0 (pc + 1) L (.int (Int32.ofNat X.1) :: st) w h Q := by
  have e := zS_of (X := X) (L := L) (st := .retAddr a :: st) (w := w) (h := h) hd
  exact zE_go e
theorem zE_sld {a : Nat} {i : Int32} (hd : decode (mB 0) pc = .ok (.iaload, 1)) : zE X 0 pc L (.int i :: .retAddr a :: st) w h Q = if ¬ (i < 0 ∨ X.1 ≤ i.toNatClampNeg) then zE X 0 (pc + 1) L (.int (X.2 i.toNatClampNeg) :: st) w h Q else False := by
  have e := zS_of (X := X) (L := L) (st := .int i :: .retAddr a :: st) (w := w) (h := h) hd
  simp only [zI] at e
  split
  · next hc => rw [if_pos ⟨trivial, hc⟩] at e; exact zE_go e
  · next hc => rw [if_neg (fun q => hc q.2)] at e; exact zE_none e
theorem zE_ireturn {x : Int32} (hd : decode (mB y) pc = .ok (.ireturn, 1)) (hr : mR y = some .int) : zE X y pc L [.int x] w h Q = Q (some (.int x)) w.1 h := zE_ret (r := (some (.int x), w.1, h)) (by rw [zS_of hd]; simp only [zI, hr]; rfl)
theorem zE_zreturn {x : Int32} (hd : decode (mB y) pc = .ok (.ireturn, 1)) (hr : mR y = some .boolean) : zE X y pc L [.int x] w h Q = if x = 0 ∨ x = 1 then Q (some (.int x)) w.1 h else False := by
  have e := zS_of (X := X) (L := L) (st := [.int x]) (w := w) (h := h) hd
  simp only [zI, hr] at e
  split
  · next hc => exact zE_ret (r := (some (.int x), w.1, h)) (by rw [e]; rcases hc with rfl | rfl <;> rfl)
  · next hc =>
    have e1 : (x == 0) = false := by rw [beq_eq_false_iff_ne]; exact fun q => hc (Or.inl q)
    have e2 : (x == 1) = false := by rw [beq_eq_false_iff_ne]; exact fun q => hc (Or.inr q)
    exact zE_none (by rw [e, e1, e2]; rfl)
theorem zE_areturn {a : Nat} {cn : String} (hd : decode (mB y) pc = .ok (.areturn, 1)) (hr : mR y = some (.object cn)) : zE X y pc L [.ref a] w h Q = Q (some (.ref a)) w.1 h := zE_ret (r := (some (.ref a), w.1, h)) (by rw [zS_of hd]; simp only [zI, hr]; rfl)
theorem zE_return (hd : decode (mB y) pc = .ok (.return_, 1)) (hr : mR y = none) : zE X y pc L [] w h Q = Q none w.1 h := zE_ret (r := (none, w.1, h)) (by rw [zS_of hd]; simp only [zI, hr]; rfl)
/-- the static side of a call -/
def zck (y z : Nat) (rest as : Nat) : Bool := decide (rest ≤ 8) && decide ((mRm z).frames + 1 ≤ (mRm y).frames) && decide (8 + (mL z + 11) + (mRm z).locals ≤ (mRm y).locals) && decide (as ≤ mL z) && decide (z ≠ 0) && decide (z ≠ 2) && decide (z < 160)
theorem zcall_eq {rest as : List Value} {z N : Nat} (h1 : zck y z (zcw rest) (zargs as).length = true) (h2 : zlok z (zentry z as) = true) (h3 : (mRm z).cells = 0 ∧ (mRm z).slots = 0) : zcall y pc L rest w h z as = if w.2.1 ≤ (mRm y).cells ∧ w.2.2 ≤ (mRm y).slots then some (.inr (.inl ((z, 0, zentry z as, [], (w.1, 0, 0), h), fun r => (y, pc + 3, L, r.1.toList ++ rest, (r.2.1, w.2.1, w.2.2), r.2.2)))) else none := by
  simp only [zck, Bool.and_eq_true, decide_eq_true_eq] at h1
  obtain ⟨⟨⟨⟨⟨⟨a1, a2⟩, a3⟩, a4⟩, a5⟩, a6⟩, a7⟩ := h1
  unfold zcall
  simp only [a1, a2, a3, a4, a5, a6, a7, h2, h3.1, h3.2, Nat.add_zero, decide_true, Bool.true_and, Bool.and_true, ne_eq, not_false_eq_true]
  by_cases hc : w.2.1 ≤ (mRm y).cells ∧ w.2.2 ≤ (mRm y).slots
  · rw [if_pos hc, if_pos]
    simp [hc.1, hc.2]
  · rw [if_neg hc, if_neg]
    simp only [Bool.and_eq_true, decide_eq_true_eq]
    exact hc
theorem zE_invs {k z q : Nat} {nest : Bool} {rest as : List Value} {L' : zL} {c s : Nat} {N : Nat} (hd : decode (mB y) pc = .ok (.invokestatic k, 3)) (hm : zml? (mC y) k = some (z, nest, q)) (hz : mSt z = 1) (hn : mPn z ≤ st.length) (hr : st.drop (mPn z) = rest) (ha : (st.take (mPn z)).reverse = as) (h1 : zck y z (zcw rest) (zargs as).length = true) (h2 : zlok z (zentry z as) = true) (h3 : (mRm z).cells = 0 ∧ (mRm z).slots = 0) (hL : zentry z as = L') (hc : c ≤ (mRm y).cells ∧ s ≤ (mRm y).slots) :
    zE X y pc L st (N, c, s) h Q = zE X z 0 L' [] (N, 0, 0) h (fun v N' h' => zE X y (pc + 3) L (v.toList ++ rest) (N', c, s) h' Q) := by
  subst hL
  have e := zS_of (X := X) (L := L) (st := st) (w := (N, c, s)) (h := h) hd
  simp only [zI, hm, hz, hn, hr, ha, decide_true, Bool.and_self] at e
  rw [zcall_eq (N := N) h1 h2 h3, if_pos hc] at e
  exact zE_call e
theorem zE_invv {k z q a : Nat} {nest : Bool} {rest as : List Value} {L' : zL} {c s : Nat} {N : Nat} (hd : decode (mB y) pc = .ok (.invokevirtual k, 3)) (hm : zml? (mC y) k = some (z, nest, q)) (hz : mSt z = 0) (hi : (mN z).name ≠ "<init>") (hr : st.drop (mPn z) = .ref a :: rest) (ha : (st.take (mPn z)).reverse = as) (h1 : zck y z (zcw rest) (zargs (.ref a :: as)).length = true) (h2 : zlok z (zentry z (.ref a :: as)) = true) (h3 : (mRm z).cells = 0 ∧ (mRm z).slots = 0) (hL : zentry z (.ref a :: as) = L') (hc : c ≤ (mRm y).cells ∧ s ≤ (mRm y).slots) :
    zE X y pc L st (N, c, s) h Q = zrc (h a) (mC z) (zE X z 0 L' [] (N, 0, 0) h (fun v N' h' => zE X y (pc + 3) L (v.toList ++ rest) (N', c, s) h' Q)) := by
  subst hL
  have e := zS_of (X := X) (L := L) (st := st) (w := (N, c, s)) (h := h) hd
  simp only [zI, hm, Option.elim_some, hr, ha] at e
  unfold zrc
  split
  · next c' fs hh =>
    simp only [hh, hz, hi, decide_true, Bool.true_and, ne_eq, not_false_eq_true, Bool.and_true] at e
    split
    · next hcc =>
      simp only [hcc, decide_true] at e
      rw [zcall_eq (N := N) h1 h2 h3, if_pos hc] at e
      exact zE_call e
    · next hcc => simp only [hcc, decide_false] at e; exact zE_none e
  · next hh => simp only [hh] at e; exact zE_none e
end ZEQ
end
section
section ZM
variable {X : Nat × (Nat → Int32)} {l0 l1 l2 l3 l4 l5 l6 l7 l8 l9 l10 l11 l12 l13 l14 l15 l16 l17 l18 : Option Value} {i0 i1 i2 i3 i4 i5 i6 i7 i8 i9 v : Int32} {j0 j1 j2 j3 j4 j5 j6 u : Int64} {a0 a1 a2 a3 a4 a5 a6 a7 a8 r N c s : Nat} {h : zH} {Q : Option Value → Nat → zH → Prop}

-- 19 Arrays_fill ([II)V
theorem e19_0 : zE X 19 0 [l0, l1, l2, l3] [] (N, 0, 0) h Q = zE X 19 1 [l0, l1, l2, l3] [.int 0] (N, 0, 0) h Q := zE_iconst (n := 0) (by decide +kernel) (by decide)
theorem e19_1 : zE X 19 1 [l0, l1, l2, l3] [.int i0] (N, 0, 0) h Q = zE X 19 2 [l0, l1, some (.int i0), l3] [] (N, 0, 0) h Q := zE_istore_n (k := 2) (by decide +kernel) rfl rfl
theorem e19_2 : zE X 19 2 [some (.ref r), l1, l2, l3] [] (N, 0, 0) h Q = zE X 19 3 [some (.ref r), l1, l2, l3] [.ref r] (N, 0, 0) h Q := zE_aload_n (k := 0) (by decide +kernel) rfl
theorem e19_3 : zE X 19 3 [l0, l1, l2, l3] [.ref a0] (N, 0, 0) h Q = zan (h a0) (fun x => zE X 19 4 [l0, l1, l2, l3] [.int x] (N, 0, 0) h Q) := zE_alen (by decide +kernel)
theorem e19_4 : zE X 19 4 [l0, l1, l2, l3] [.int i0] (N, 0, 0) h Q = zE X 19 5 [l0, l1, l2, some (.int i0)] [] (N, 0, 0) h Q := zE_istore_n (k := 3) (by decide +kernel) rfl rfl
theorem e19_5 : zE X 19 5 [l0, l1, some (.int v), l3] [] (N, 0, 0) h Q = zE X 19 6 [l0, l1, some (.int v), l3] [.int v] (N, 0, 0) h Q := zE_iload_n (k := 2) (by decide +kernel) rfl
theorem e19_6 : zE X 19 6 [l0, l1, l2, some (.int v)] [.int i0] (N, 0, 0) h Q = zE X 19 7 [l0, l1, l2, some (.int v)] [.int v, .int i0] (N, 0, 0) h Q := zE_iload_n (k := 3) (by decide +kernel) rfl
theorem e19_7 : zE X 19 7 [l0, l1, l2, l3] [.int i0, .int i1] (N, 0, 0) h Q = if i0 ≤ i1 then zE X 19 20 [l0, l1, l2, l3] [] (N, 0, 0) h Q else zE X 19 10 [l0, l1, l2, l3] [] (N, 0, 0) h Q := zE_icmp_ge (off := 13) (by decide +kernel) (by decide)
theorem e19_10 : zE X 19 10 [some (.ref r), l1, l2, l3] [] (N, 0, 0) h Q = zE X 19 11 [some (.ref r), l1, l2, l3] [.ref r] (N, 0, 0) h Q := zE_aload_n (k := 0) (by decide +kernel) rfl
theorem e19_11 : zE X 19 11 [l0, l1, some (.int v), l3] [.ref a0] (N, 0, 0) h Q = zE X 19 12 [l0, l1, some (.int v), l3] [.int v, .ref a0] (N, 0, 0) h Q := zE_iload_n (k := 2) (by decide +kernel) rfl
theorem e19_12 : zE X 19 12 [l0, some (.int v), l2, l3] [.int i0, .ref a1] (N, 0, 0) h Q = zE X 19 13 [l0, some (.int v), l2, l3] [.int v, .int i0, .ref a1] (N, 0, 0) h Q := zE_iload_n (k := 1) (by decide +kernel) rfl
theorem e19_13 : zE X 19 13 [l0, l1, l2, l3] [.int i0, .int i1, .ref a2] (N, 0, 0) h Q = zas (h a2) 0 i1 i0 (fun c => zE X 19 14 [l0, l1, l2, l3] [] (N, 0, 0) (va_up h a2 c) Q) := zE_iastore (by decide +kernel)
theorem e19_14 : zE X 19 14 [l0, l1, some (.int v), l3] [] (N, 0, 0) h Q = zE X 19 17 [l0, l1, some (.int (v + 1)), l3] [] (N, 0, 0) h Q := zE_iinc (k := 2) (n := 1) (by decide +kernel) rfl rfl (by decide) rfl
theorem e19_17 : zE X 19 17 [l0, l1, l2, l3] [] (N, 0, 0) h Q = zE X 19 5 [l0, l1, l2, l3] [] (N, 0, 0) h Q := zE_goto (off := -12) (by decide +kernel) (by decide)
theorem e19_20 : zE X 19 20 [l0, l1, l2, l3] [] (N, 0, 0) h Q = Q none N h := zE_return (by decide +kernel) rfl
-- 55 Math_min (II)I
theorem e55_0 : zE X 55 0 [some (.int v), l1] [] (N, 0, 0) h Q = zE X 55 1 [some (.int v), l1] [.int v] (N, 0, 0) h Q := zE_iload_n (k := 0) (by decide +kernel) rfl
theorem e55_1 : zE X 55 1 [l0, some (.int v)] [.int i0] (N, 0, 0) h Q = zE X 55 2 [l0, some (.int v)] [.int v, .int i0] (N, 0, 0) h Q := zE_iload_n (k := 1) (by decide +kernel) rfl
theorem e55_2 : zE X 55 2 [l0, l1] [.int i0, .int i1] (N, 0, 0) h Q = if i0 < i1 then zE X 55 9 [l0, l1] [] (N, 0, 0) h Q else zE X 55 5 [l0, l1] [] (N, 0, 0) h Q := zE_icmp_gt (off := 7) (by decide +kernel) (by decide)
theorem e55_5 : zE X 55 5 [some (.int v), l1] [] (N, 0, 0) h Q = zE X 55 6 [some (.int v), l1] [.int v] (N, 0, 0) h Q := zE_iload_n (k := 0) (by decide +kernel) rfl
theorem e55_6 : zE X 55 6 [l0, l1] [.int i0] (N, 0, 0) h Q = zE X 55 10 [l0, l1] [.int i0] (N, 0, 0) h Q := zE_goto (off := 4) (by decide +kernel) (by decide)
theorem e55_9 : zE X 55 9 [l0, some (.int v)] [] (N, 0, 0) h Q = zE X 55 10 [l0, some (.int v)] [.int v] (N, 0, 0) h Q := zE_iload_n (k := 1) (by decide +kernel) rfl
theorem e55_10 : zE X 55 10 [l0, l1] [.int i0] (N, 0, 0) h Q = Q (some (.int i0)) N h := zE_ireturn (by decide +kernel) rfl
-- 58 Math_abs (I)I
theorem e58_0 : zE X 58 0 [some (.int v)] [] (N, 0, 0) h Q = zE X 58 1 [some (.int v)] [.int v] (N, 0, 0) h Q := zE_iload_n (k := 0) (by decide +kernel) rfl
theorem e58_1 : zE X 58 1 [l0] [.int i0] (N, 0, 0) h Q = if 0 ≤ i0 then zE X 58 9 [l0] [] (N, 0, 0) h Q else zE X 58 4 [l0] [] (N, 0, 0) h Q := zE_if_ge (off := 8) (by decide +kernel) (by decide)
theorem e58_4 : zE X 58 4 [some (.int v)] [] (N, 0, 0) h Q = zE X 58 5 [some (.int v)] [.int v] (N, 0, 0) h Q := zE_iload_n (k := 0) (by decide +kernel) rfl
theorem e58_5 : zE X 58 5 [l0] [.int i0] (N, 0, 0) h Q = zE X 58 6 [l0] [.int (-i0)] (N, 0, 0) h Q := zE_ineg (by decide +kernel)
theorem e58_6 : zE X 58 6 [l0] [.int i0] (N, 0, 0) h Q = zE X 58 10 [l0] [.int i0] (N, 0, 0) h Q := zE_goto (off := 4) (by decide +kernel) (by decide)
theorem e58_9 : zE X 58 9 [some (.int v)] [] (N, 0, 0) h Q = zE X 58 10 [some (.int v)] [.int v] (N, 0, 0) h Q := zE_iload_n (k := 0) (by decide +kernel) rfl
theorem e58_10 : zE X 58 10 [l0] [.int i0] (N, 0, 0) h Q = Q (some (.int i0)) N h := zE_ireturn (by decide +kernel) rfl
-- 67 Math_floorMod (II)I
theorem e67_0 : zE X 67 0 [some (.int v), l1, l2] [] (N, 0, 0) h Q = zE X 67 1 [some (.int v), l1, l2] [.int v] (N, 0, 0) h Q := zE_iload_n (k := 0) (by decide +kernel) rfl
theorem e67_1 : zE X 67 1 [l0, some (.int v), l2] [.int i0] (N, 0, 0) h Q = zE X 67 2 [l0, some (.int v), l2] [.int v, .int i0] (N, 0, 0) h Q := zE_iload_n (k := 1) (by decide +kernel) rfl
theorem e67_2 : zE X 67 2 [l0, l1, l2] [.int i0, .int i1] (N, 0, 0) h Q = if i0 = 0 then False else zE X 67 3 [l0, l1, l2] [.int (i1 - i1 / i0 * i0)] (N, 0, 0) h Q := zE_irem (by decide +kernel)
theorem e67_3 : zE X 67 3 [l0, l1, l2] [.int i0] (N, 0, 0) h Q = zE X 67 4 [l0, l1, some (.int i0)] [] (N, 0, 0) h Q := zE_istore_n (k := 2) (by decide +kernel) rfl rfl
theorem e67_4 : zE X 67 4 [some (.int v), l1, l2] [] (N, 0, 0) h Q = zE X 67 5 [some (.int v), l1, l2] [.int v] (N, 0, 0) h Q := zE_iload_n (k := 0) (by decide +kernel) rfl
theorem e67_5 : zE X 67 5 [l0, some (.int v), l2] [.int i0] (N, 0, 0) h Q = zE X 67 6 [l0, some (.int v), l2] [.int v, .int i0] (N, 0, 0) h Q := zE_iload_n (k := 1) (by decide +kernel) rfl
theorem e67_6 : zE X 67 6 [l0, l1, l2] [.int i0, .int i1] (N, 0, 0) h Q = zE X 67 7 [l0, l1, l2] [.int (i1 ^^^ i0)] (N, 0, 0) h Q := zE_ixor (by decide +kernel)
theorem e67_7 : zE X 67 7 [l0, l1, l2] [.int i0] (N, 0, 0) h Q = if 0 ≤ i0 then zE X 67 18 [l0, l1, l2] [] (N, 0, 0) h Q else zE X 67 10 [l0, l1, l2] [] (N, 0, 0) h Q := zE_if_ge (off := 11) (by decide +kernel) (by decide)
theorem e67_10 : zE X 67 10 [l0, l1, some (.int v)] [] (N, 0, 0) h Q = zE X 67 11 [l0, l1, some (.int v)] [.int v] (N, 0, 0) h Q := zE_iload_n (k := 2) (by decide +kernel) rfl
theorem e67_11 : zE X 67 11 [l0, l1, l2] [.int i0] (N, 0, 0) h Q = if i0 = 0 then zE X 67 18 [l0, l1, l2] [] (N, 0, 0) h Q else zE X 67 14 [l0, l1, l2] [] (N, 0, 0) h Q := zE_if_eq (off := 7) (by decide +kernel) (by decide)
theorem e67_14 : zE X 67 14 [l0, l1, some (.int v)] [] (N, 0, 0) h Q = zE X 67 15 [l0, l1, some (.int v)] [.int v] (N, 0, 0) h Q := zE_iload_n (k := 2) (by decide +kernel) rfl
theorem e67_15 : zE X 67 15 [l0, some (.int v), l2] [.int i0] (N, 0, 0) h Q = zE X 67 16 [l0, some (.int v), l2] [.int v, .int i0] (N, 0, 0) h Q := zE_iload_n (k := 1) (by decide +kernel) rfl
theorem e67_16 : zE X 67 16 [l0, l1, l2] [.int i0, .int i1] (N, 0, 0) h Q = zE X 67 17 [l0, l1, l2] [.int (i1 + i0)] (N, 0, 0) h Q := zE_iadd (by decide +kernel)
theorem e67_17 : zE X 67 17 [l0, l1, l2] [.int i0] (N, 0, 0) h Q = Q (some (.int i0)) N h := zE_ireturn (by decide +kernel) rfl
theorem e67_18 : zE X 67 18 [l0, l1, some (.int v)] [] (N, 0, 0) h Q = zE X 67 19 [l0, l1, some (.int v)] [.int v] (N, 0, 0) h Q := zE_iload_n (k := 2) (by decide +kernel) rfl
theorem e67_19 : zE X 67 19 [l0, l1, l2] [.int i0] (N, 0, 0) h Q = Q (some (.int i0)) N h := zE_ireturn (by decide +kernel) rfl
-- 74 Math_max (II)I
theorem e74_0 : zE X 74 0 [some (.int v), l1] [] (N, 0, 0) h Q = zE X 74 1 [some (.int v), l1] [.int v] (N, 0, 0) h Q := zE_iload_n (k := 0) (by decide +kernel) rfl
theorem e74_1 : zE X 74 1 [l0, some (.int v)] [.int i0] (N, 0, 0) h Q = zE X 74 2 [l0, some (.int v)] [.int v, .int i0] (N, 0, 0) h Q := zE_iload_n (k := 1) (by decide +kernel) rfl
theorem e74_2 : zE X 74 2 [l0, l1] [.int i0, .int i1] (N, 0, 0) h Q = if i1 < i0 then zE X 74 9 [l0, l1] [] (N, 0, 0) h Q else zE X 74 5 [l0, l1] [] (N, 0, 0) h Q := zE_icmp_lt (off := 7) (by decide +kernel) (by decide)
theorem e74_5 : zE X 74 5 [some (.int v), l1] [] (N, 0, 0) h Q = zE X 74 6 [some (.int v), l1] [.int v] (N, 0, 0) h Q := zE_iload_n (k := 0) (by decide +kernel) rfl
theorem e74_6 : zE X 74 6 [l0, l1] [.int i0] (N, 0, 0) h Q = zE X 74 10 [l0, l1] [.int i0] (N, 0, 0) h Q := zE_goto (off := 4) (by decide +kernel) (by decide)
theorem e74_9 : zE X 74 9 [l0, some (.int v)] [] (N, 0, 0) h Q = zE X 74 10 [l0, some (.int v)] [.int v] (N, 0, 0) h Q := zE_iload_n (k := 1) (by decide +kernel) rfl
theorem e74_10 : zE X 74 10 [l0, l1] [.int i0] (N, 0, 0) h Q = Q (some (.int i0)) N h := zE_ireturn (by decide +kernel) rfl
-- 77 Integer_bitCount (I)I
theorem e77_0 : zE X 77 0 [some (.int v)] [] (N, 0, 0) h Q = zE X 77 1 [some (.int v)] [.int v] (N, 0, 0) h Q := zE_iload_n (k := 0) (by decide +kernel) rfl
theorem e77_1 : zE X 77 1 [some (.int v)] [.int i0] (N, 0, 0) h Q = zE X 77 2 [some (.int v)] [.int v, .int i0] (N, 0, 0) h Q := zE_iload_n (k := 0) (by decide +kernel) rfl
theorem e77_2 : zE X 77 2 [l0] [.int i0, .int i1] (N, 0, 0) h Q = zE X 77 3 [l0] [.int 1, .int i0, .int i1] (N, 0, 0) h Q := zE_iconst (n := 1) (by decide +kernel) (by decide)
theorem e77_3 : zE X 77 3 [l0] [.int i0, .int i1, .int i2] (N, 0, 0) h Q = zE X 77 4 [l0] [.int (i1.toUInt32 >>> (i0.toUInt32 &&& Int32.toUInt32 31)).toInt32, .int i2] (N, 0, 0) h Q := zE_iushr (by decide +kernel)
theorem e77_4 : zE X 77 4 [l0] [.int i0, .int i1] (N, 0, 0) h Q = zE X 77 7 [l0] [.int 1431655765, .int i0, .int i1] (N, 0, 0) h Q := zE_ldcw (k := 265) (q := 679) (by decide +kernel) rfl
theorem e77_7 : zE X 77 7 [l0] [.int i0, .int i1, .int i2] (N, 0, 0) h Q = zE X 77 8 [l0] [.int (i1 &&& i0), .int i2] (N, 0, 0) h Q := zE_iand (by decide +kernel)
theorem e77_8 : zE X 77 8 [l0] [.int i0, .int i1] (N, 0, 0) h Q = zE X 77 9 [l0] [.int (i1 - i0)] (N, 0, 0) h Q := zE_isub (by decide +kernel)
theorem e77_9 : zE X 77 9 [l0] [.int i0] (N, 0, 0) h Q = zE X 77 10 [some (.int i0)] [] (N, 0, 0) h Q := zE_istore_n (k := 0) (by decide +kernel) rfl rfl
theorem e77_10 : zE X 77 10 [some (.int v)] [] (N, 0, 0) h Q = zE X 77 11 [some (.int v)] [.int v] (N, 0, 0) h Q := zE_iload_n (k := 0) (by decide +kernel) rfl
theorem e77_11 : zE X 77 11 [l0] [.int i0] (N, 0, 0) h Q = zE X 77 14 [l0] [.int 858993459, .int i0] (N, 0, 0) h Q := zE_ldcw (k := 266) (q := 680) (by decide +kernel) rfl
theorem e77_14 : zE X 77 14 [l0] [.int i0, .int i1] (N, 0, 0) h Q = zE X 77 15 [l0] [.int (i1 &&& i0)] (N, 0, 0) h Q := zE_iand (by decide +kernel)
theorem e77_15 : zE X 77 15 [some (.int v)] [.int i0] (N, 0, 0) h Q = zE X 77 16 [some (.int v)] [.int v, .int i0] (N, 0, 0) h Q := zE_iload_n (k := 0) (by decide +kernel) rfl
theorem e77_16 : zE X 77 16 [l0] [.int i0, .int i1] (N, 0, 0) h Q = zE X 77 17 [l0] [.int 2, .int i0, .int i1] (N, 0, 0) h Q := zE_iconst (n := 2) (by decide +kernel) (by decide)
theorem e77_17 : zE X 77 17 [l0] [.int i0, .int i1, .int i2] (N, 0, 0) h Q = zE X 77 18 [l0] [.int (i1.toUInt32 >>> (i0.toUInt32 &&& Int32.toUInt32 31)).toInt32, .int i2] (N, 0, 0) h Q := zE_iushr (by decide +kernel)
theorem e77_18 : zE X 77 18 [l0] [.int i0, .int i1] (N, 0, 0) h Q = zE X 77 21 [l0] [.int 858993459, .int i0, .int i1] (N, 0, 0) h Q := zE_ldcw (k := 266) (q := 680) (by decide +kernel) rfl
theorem e77_21 : zE X 77 21 [l0] [.int i0, .int i1, .int i2] (N, 0, 0) h Q = zE X 77 22 [l0] [.int (i1 &&& i0), .int i2] (N, 0, 0) h Q := zE_iand (by decide +kernel)
theorem e77_22 : zE X 77 22 [l0] [.int i0, .int i1] (N, 0, 0) h Q = zE X 77 23 [l0] [.int (i1 + i0)] (N, 0, 0) h Q := zE_iadd (by decide +kernel)
theorem e77_23 : zE X 77 23 [l0] [.int i0] (N, 0, 0) h Q = zE X 77 24 [some (.int i0)] [] (N, 0, 0) h Q := zE_istore_n (k := 0) (by decide +kernel) rfl rfl
theorem e77_24 : zE X 77 24 [some (.int v)] [] (N, 0, 0) h Q = zE X 77 25 [some (.int v)] [.int v] (N, 0, 0) h Q := zE_iload_n (k := 0) (by decide +kernel) rfl
theorem e77_25 : zE X 77 25 [some (.int v)] [.int i0] (N, 0, 0) h Q = zE X 77 26 [some (.int v)] [.int v, .int i0] (N, 0, 0) h Q := zE_iload_n (k := 0) (by decide +kernel) rfl
theorem e77_26 : zE X 77 26 [l0] [.int i0, .int i1] (N, 0, 0) h Q = zE X 77 27 [l0] [.int 4, .int i0, .int i1] (N, 0, 0) h Q := zE_iconst (n := 4) (by decide +kernel) (by decide)
theorem e77_27 : zE X 77 27 [l0] [.int i0, .int i1, .int i2] (N, 0, 0) h Q = zE X 77 28 [l0] [.int (i1.toUInt32 >>> (i0.toUInt32 &&& Int32.toUInt32 31)).toInt32, .int i2] (N, 0, 0) h Q := zE_iushr (by decide +kernel)
theorem e77_28 : zE X 77 28 [l0] [.int i0, .int i1] (N, 0, 0) h Q = zE X 77 29 [l0] [.int (i1 + i0)] (N, 0, 0) h Q := zE_iadd (by decide +kernel)
theorem e77_29 : zE X 77 29 [l0] [.int i0] (N, 0, 0) h Q = zE X 77 32 [l0] [.int 252645135, .int i0] (N, 0, 0) h Q := zE_ldcw (k := 267) (q := 681) (by decide +kernel) rfl
theorem e77_32 : zE X 77 32 [l0] [.int i0, .int i1] (N, 0, 0) h Q = zE X 77 33 [l0] [.int (i1 &&& i0)] (N, 0, 0) h Q := zE_iand (by decide +kernel)
theorem e77_33 : zE X 77 33 [l0] [.int i0] (N, 0, 0) h Q = zE X 77 34 [some (.int i0)] [] (N, 0, 0) h Q := zE_istore_n (k := 0) (by decide +kernel) rfl rfl
theorem e77_34 : zE X 77 34 [some (.int v)] [] (N, 0, 0) h Q = zE X 77 35 [some (.int v)] [.int v] (N, 0, 0) h Q := zE_iload_n (k := 0) (by decide +kernel) rfl
theorem e77_35 : zE X 77 35 [some (.int v)] [.int i0] (N, 0, 0) h Q = zE X 77 36 [some (.int v)] [.int v, .int i0] (N, 0, 0) h Q := zE_iload_n (k := 0) (by decide +kernel) rfl
theorem e77_36 : zE X 77 36 [l0] [.int i0, .int i1] (N, 0, 0) h Q = zE X 77 38 [l0] [.int 8, .int i0, .int i1] (N, 0, 0) h Q := zE_bipush (n := 8) (by decide +kernel) (by decide)
theorem e77_38 : zE X 77 38 [l0] [.int i0, .int i1, .int i2] (N, 0, 0) h Q = zE X 77 39 [l0] [.int (i1.toUInt32 >>> (i0.toUInt32 &&& Int32.toUInt32 31)).toInt32, .int i2] (N, 0, 0) h Q := zE_iushr (by decide +kernel)
theorem e77_39 : zE X 77 39 [l0] [.int i0, .int i1] (N, 0, 0) h Q = zE X 77 40 [l0] [.int (i1 + i0)] (N, 0, 0) h Q := zE_iadd (by decide +kernel)
theorem e77_40 : zE X 77 40 [l0] [.int i0] (N, 0, 0) h Q = zE X 77 41 [some (.int i0)] [] (N, 0, 0) h Q := zE_istore_n (k := 0) (by decide +kernel) rfl rfl
theorem e77_41 : zE X 77 41 [some (.int v)] [] (N, 0, 0) h Q = zE X 77 42 [some (.int v)] [.int v] (N, 0, 0) h Q := zE_iload_n (k := 0) (by decide +kernel) rfl
theorem e77_42 : zE X 77 42 [some (.int v)] [.int i0] (N, 0, 0) h Q = zE X 77 43 [some (.int v)] [.int v, .int i0] (N, 0, 0) h Q := zE_iload_n (k := 0) (by decide +kernel) rfl
theorem e77_43 : zE X 77 43 [l0] [.int i0, .int i1] (N, 0, 0) h Q = zE X 77 45 [l0] [.int 16, .int i0, .int i1] (N, 0, 0) h Q := zE_bipush (n := 16) (by decide +kernel) (by decide)
theorem e77_45 : zE X 77 45 [l0] [.int i0, .int i1, .int i2] (N, 0, 0) h Q = zE X 77 46 [l0] [.int (i1.toUInt32 >>> (i0.toUInt32 &&& Int32.toUInt32 31)).toInt32, .int i2] (N, 0, 0) h Q := zE_iushr (by decide +kernel)
theorem e77_46 : zE X 77 46 [l0] [.int i0, .int i1] (N, 0, 0) h Q = zE X 77 47 [l0] [.int (i1 + i0)] (N, 0, 0) h Q := zE_iadd (by decide +kernel)
theorem e77_47 : zE X 77 47 [l0] [.int i0] (N, 0, 0) h Q = zE X 77 48 [some (.int i0)] [] (N, 0, 0) h Q := zE_istore_n (k := 0) (by decide +kernel) rfl rfl
theorem e77_48 : zE X 77 48 [some (.int v)] [] (N, 0, 0) h Q = zE X 77 49 [some (.int v)] [.int v] (N, 0, 0) h Q := zE_iload_n (k := 0) (by decide +kernel) rfl
theorem e77_49 : zE X 77 49 [l0] [.int i0] (N, 0, 0) h Q = zE X 77 51 [l0] [.int 63, .int i0] (N, 0, 0) h Q := zE_bipush (n := 63) (by decide +kernel) (by decide)
theorem e77_51 : zE X 77 51 [l0] [.int i0, .int i1] (N, 0, 0) h Q = zE X 77 52 [l0] [.int (i1 &&& i0)] (N, 0, 0) h Q := zE_iand (by decide +kernel)
theorem e77_52 : zE X 77 52 [l0] [.int i0] (N, 0, 0) h Q = Q (some (.int i0)) N h := zE_ireturn (by decide +kernel) rfl
-- 14 Script_append (IJ)V
theorem e14_0 : zE X 14 0 [l0, some (.int v), l2, l3, l4] [] (N, 0, 0) h Q = zE X 14 1 [l0, some (.int v), l2, l3, l4] [.int v] (N, 0, 0) h Q := zE_iload_n (k := 1) (by decide +kernel) rfl
theorem e14_1 : zE X 14 1 [l0, l1, l2, l3, l4] [.int i0] (N, 0, 0) h Q = zE X 14 2 [l0, l1, l2, l3, l4] [.int 1, .int i0] (N, 0, 0) h Q := zE_iconst (n := 1) (by decide +kernel) (by decide)
theorem e14_2 : zE X 14 2 [l0, l1, l2, l3, l4] [.int i0, .int i1] (N, 0, 0) h Q = zE X 14 3 [l0, l1, l2, l3, l4] [.int (i1 - i0)] (N, 0, 0) h Q := zE_isub (by decide +kernel)
theorem e14_3 : zE X 14 3 [l0, l1, l2, l3, l4] [.int i0] (N, 0, 0) h Q = zE X 14 5 [l0, l1, l2, l3, some (.int i0)] [] (N, 0, 0) h Q := zE_istore (k := 4) (by decide +kernel) rfl rfl
theorem e14_5 : zE X 14 5 [l0, l1, l2, l3, some (.int v)] [] (N, 0, 0) h Q = zE X 14 7 [l0, l1, l2, l3, some (.int v)] [.int v] (N, 0, 0) h Q := zE_iload (k := 4) (by decide +kernel) rfl
theorem e14_7 : zE X 14 7 [l0, l1, l2, l3, l4] [.int i0] (N, 0, 0) h Q = if i0 < 0 then zE X 14 54 [l0, l1, l2, l3, l4] [] (N, 0, 0) h Q else zE X 14 10 [l0, l1, l2, l3, l4] [] (N, 0, 0) h Q := zE_if_lt (off := 47) (by decide +kernel) (by decide)
theorem e14_10 : zE X 14 10 [some (.ref r), l1, l2, l3, l4] [] (N, 0, 0) h Q = zE X 14 11 [some (.ref r), l1, l2, l3, l4] [.ref r] (N, 0, 0) h Q := zE_aload_n (k := 0) (by decide +kernel) rfl
theorem e14_11 : zE X 14 11 [l0, l1, l2, l3, l4] [.ref a0] (N, 0, 0) h Q = zgf (h a0) 4 1 (fun v => zE X 14 14 [l0, l1, l2, l3, l4] [v] (N, 0, 0) h Q) := zE_getfield (k := 15) (nest := false) (q := 112) (by decide +kernel) rfl
theorem e14_14 : zE X 14 14 [l0, l1, l2, l3, l4] [.int i0] (N, 0, 0) h Q = zE X 14 17 [l0, l1, l2, l3, l4] [.int 400, .int i0] (N, 0, 0) h Q := zE_sipush (n := 400) (by decide +kernel) (by decide)
theorem e14_17 : zE X 14 17 [l0, l1, l2, l3, l4] [.int i0, .int i1] (N, 0, 0) h Q = if i0 ≤ i1 then zE X 14 54 [l0, l1, l2, l3, l4] [] (N, 0, 0) h Q else zE X 14 20 [l0, l1, l2, l3, l4] [] (N, 0, 0) h Q := zE_icmp_ge (off := 37) (by decide +kernel) (by decide)
theorem e14_20 : zE X 14 20 [some (.ref r), l1, l2, l3, l4] [] (N, 0, 0) h Q = zE X 14 21 [some (.ref r), l1, l2, l3, l4] [.ref r] (N, 0, 0) h Q := zE_aload_n (k := 0) (by decide +kernel) rfl
theorem e14_21 : zE X 14 21 [l0, l1, l2, l3, l4] [.ref a0] (N, 0, 0) h Q = zgf (h a0) 4 0 (fun v => zE X 14 24 [l0, l1, l2, l3, l4] [v] (N, 0, 0) h Q) := zE_getfield (k := 9) (nest := false) (q := 111) (by decide +kernel) rfl
theorem e14_24 : zE X 14 24 [some (.ref r), l1, l2, l3, l4] [.ref a0] (N, 0, 0) h Q = zE X 14 25 [some (.ref r), l1, l2, l3, l4] [.ref r, .ref a0] (N, 0, 0) h Q := zE_aload_n (k := 0) (by decide +kernel) rfl
theorem e14_25 : zE X 14 25 [l0, l1, l2, l3, l4] [.ref a0, .ref a1] (N, 0, 0) h Q = zgf (h a0) 4 1 (fun v => zE X 14 28 [l0, l1, l2, l3, l4] [v, .ref a1] (N, 0, 0) h Q) := zE_getfield (k := 15) (nest := false) (q := 112) (by decide +kernel) rfl
theorem e14_28 : zE X 14 28 [l0, l1, some (.long u), l3, l4] [.int i0, .ref a1] (N, 0, 0) h Q = zE X 14 29 [l0, l1, some (.long u), l3, l4] [.long u, .int i0, .ref a1] (N, 0, 0) h Q := zE_lload_n (k := 2) (by decide +kernel) rfl
theorem e14_29 : zE X 14 29 [l0, l1, l2, l3, l4] [.long j0, .int i1, .ref a2] (N, 0, 0) h Q = zE X 14 31 [l0, l1, l2, l3, l4] [.int 8, .long j0, .int i1, .ref a2] (N, 0, 0) h Q := zE_bipush (n := 8) (by decide +kernel) (by decide)
theorem e14_31 : zE X 14 31 [l0, l1, l2, l3, some (.int v)] [.int i0, .long j1, .int i2, .ref a3] (N, 0, 0) h Q = zE X 14 33 [l0, l1, l2, l3, some (.int v)] [.int v, .int i0, .long j1, .int i2, .ref a3] (N, 0, 0) h Q := zE_iload (k := 4) (by decide +kernel) rfl
theorem e14_33 : zE X 14 33 [l0, l1, l2, l3, l4] [.int i0, .int i1, .long j2, .int i3, .ref a4] (N, 0, 0) h Q = zE X 14 34 [l0, l1, l2, l3, l4] [.int (i1 * i0), .long j2, .int i3, .ref a4] (N, 0, 0) h Q := zE_imul (by decide +kernel)
theorem e14_34 : zE X 14 34 [l0, l1, l2, l3, l4] [.int i0, .long j1, .int i2, .ref a3] (N, 0, 0) h Q = zE X 14 35 [l0, l1, l2, l3, l4] [.long (j1 >>> (i0.toInt64 &&& 63)), .int i2, .ref a3] (N, 0, 0) h Q := zE_lshr (by decide +kernel)
theorem e14_35 : zE X 14 35 [l0, l1, l2, l3, l4] [.long j0, .int i1, .ref a2] (N, 0, 0) h Q = zE X 14 36 [l0, l1, l2, l3, l4] [.int j0.toInt32, .int i1, .ref a2] (N, 0, 0) h Q := zE_l2i (by decide +kernel)
theorem e14_36 : zE X 14 36 [l0, l1, l2, l3, l4] [.int i0, .int i1, .ref a2] (N, 0, 0) h Q = zE X 14 37 [l0, l1, l2, l3, l4] [.int i0.toInt8.toInt32, .int i1, .ref a2] (N, 0, 0) h Q := zE_i2b (by decide +kernel)
theorem e14_37 : zE X 14 37 [l0, l1, l2, l3, l4] [.int i0, .int i1, .ref a2] (N, 0, 0) h Q = zas (h a2) 1 i1 i0 (fun c => zE X 14 38 [l0, l1, l2, l3, l4] [] (N, 0, 0) (va_up h a2 c) Q) := zE_bastore (by decide +kernel)
theorem e14_38 : zE X 14 38 [some (.ref r), l1, l2, l3, l4] [] (N, 0, 0) h Q = zE X 14 39 [some (.ref r), l1, l2, l3, l4] [.ref r] (N, 0, 0) h Q := zE_aload_n (k := 0) (by decide +kernel) rfl
theorem e14_39 : zE X 14 39 [l0, l1, l2, l3, l4] [.ref a0] (N, 0, 0) h Q = zE X 14 40 [l0, l1, l2, l3, l4] [.ref a0, .ref a0] (N, 0, 0) h Q := zE_dup (by decide +kernel) rfl
theorem e14_40 : zE X 14 40 [l0, l1, l2, l3, l4] [.ref a0, .ref a1] (N, 0, 0) h Q = zgf (h a0) 4 1 (fun v => zE X 14 43 [l0, l1, l2, l3, l4] [v, .ref a1] (N, 0, 0) h Q) := zE_getfield (k := 15) (nest := false) (q := 112) (by decide +kernel) rfl
theorem e14_43 : zE X 14 43 [l0, l1, l2, l3, l4] [.int i0, .ref a1] (N, 0, 0) h Q = zE X 14 44 [l0, l1, l2, l3, l4] [.int 1, .int i0, .ref a1] (N, 0, 0) h Q := zE_iconst (n := 1) (by decide +kernel) (by decide)
theorem e14_44 : zE X 14 44 [l0, l1, l2, l3, l4] [.int i0, .int i1, .ref a2] (N, 0, 0) h Q = zE X 14 45 [l0, l1, l2, l3, l4] [.int (i1 + i0), .ref a2] (N, 0, 0) h Q := zE_iadd (by decide +kernel)
theorem e14_45 : zE X 14 45 [l0, l1, l2, l3, l4] [.int i0, .ref a1] (N, 0, 0) h Q = zpf (h a1) 4 1 (.int i0) (fun c => zE X 14 48 [l0, l1, l2, l3, l4] [] (N, 0, 0) (va_up h a1 c) Q) := zE_putfield (k := 15) (nest := false) (q := 112) (by decide +kernel) rfl rfl rfl
theorem e14_48 : zE X 14 48 [l0, l1, l2, l3, some (.int v)] [] (N, 0, 0) h Q = zE X 14 51 [l0, l1, l2, l3, some (.int (v + (-1)))] [] (N, 0, 0) h Q := zE_iinc (k := 4) (n := -1) (by decide +kernel) rfl rfl (by decide) rfl
theorem e14_51 : zE X 14 51 [l0, l1, l2, l3, l4] [] (N, 0, 0) h Q = zE X 14 5 [l0, l1, l2, l3, l4] [] (N, 0, 0) h Q := zE_goto (off := -46) (by decide +kernel) (by decide)
theorem e14_54 : zE X 14 54 [l0, l1, l2, l3, l4] [] (N, 0, 0) h Q = Q none N h := zE_return (by decide +kernel) rfl
-- 17 ItemReader_readAll (LPursesByLot$Script;LPursesByLot$Sheet;)I
theorem e17_0 : zE X 17 0 [l0, l1, some (.ref r), l3, l4, l5] [] (N, 0, 0) h Q = zE X 17 1 [l0, l1, some (.ref r), l3, l4, l5] [.ref r] (N, 0, 0) h Q := zE_aload_n (k := 2) (by decide +kernel) rfl
theorem e17_1 : zE X 17 1 [l0, l1, l2, l3, l4, l5] [.ref a0] (N, 0, 0) h Q = zrc (h a0) 5 (zE X 18 0 [some (.ref a0)] [] (N, 0, 0) h (fun v N' h' => zE X 17 4 [l0, l1, l2, l3, l4, l5] (v.toList ++ []) (N', 0, 0) h' Q)) := zE_invv (k := 9) (z := 18) (nest := true) (q := 436) (as := []) (by decide +kernel) rfl rfl (by decide +kernel) rfl rfl rfl rfl ⟨rfl, rfl⟩ rfl ⟨Nat.zero_le _, Nat.zero_le _⟩
theorem e17_4 : zE X 17 4 [l0, l1, l2, l3, l4, l5] [] (N, 0, 0) h Q = zE X 17 5 [l0, l1, l2, l3, l4, l5] [.int 0] (N, 0, 0) h Q := zE_iconst (n := 0) (by decide +kernel) (by decide)
theorem e17_5 : zE X 17 5 [l0, l1, l2, l3, l4, l5] [.int i0] (N, 0, 0) h Q = zE X 17 6 [l0, l1, l2, some (.int i0), l4, l5] [] (N, 0, 0) h Q := zE_istore_n (k := 3) (by decide +kernel) rfl rfl
theorem e17_6 : zE X 17 6 [l0, l1, l2, l3, l4, l5] [] (N, 0, 0) h Q = zE X 17 7 [l0, l1, l2, l3, l4, l5] [.int 0] (N, 0, 0) h Q := zE_iconst (n := 0) (by decide +kernel) (by decide)
theorem e17_7 : zE X 17 7 [l0, l1, l2, l3, l4, l5] [.int i0] (N, 0, 0) h Q = zE X 17 9 [l0, l1, l2, l3, some (.int i0), l5] [] (N, 0, 0) h Q := zE_istore (k := 4) (by decide +kernel) rfl rfl
theorem e17_9 : zE X 17 9 [l0, l1, l2, l3, some (.int v), l5] [] (N, 0, 0) h Q = zE X 17 11 [l0, l1, l2, l3, some (.int v), l5] [.int v] (N, 0, 0) h Q := zE_iload (k := 4) (by decide +kernel) rfl
theorem e17_11 : zE X 17 11 [l0, l1, l2, l3, l4, l5] [.int i0] (N, 0, 0) h Q = zE X 17 14 [l0, l1, l2, l3, l4, l5] [.int 400, .int i0] (N, 0, 0) h Q := zE_sipush (n := 400) (by decide +kernel) (by decide)
theorem e17_14 : zE X 17 14 [l0, l1, l2, l3, l4, l5] [.int i0, .int i1] (N, 0, 0) h Q = if i0 ≤ i1 then zE X 17 59 [l0, l1, l2, l3, l4, l5] [] (N, 0, 0) h Q else zE X 17 17 [l0, l1, l2, l3, l4, l5] [] (N, 0, 0) h Q := zE_icmp_ge (off := 45) (by decide +kernel) (by decide)
theorem e17_17 : zE X 17 17 [l0, l1, l2, some (.int v), l4, l5] [] (N, 0, 0) h Q = zE X 17 18 [l0, l1, l2, some (.int v), l4, l5] [.int v] (N, 0, 0) h Q := zE_iload_n (k := 3) (by decide +kernel) rfl
theorem e17_18 : zE X 17 18 [l0, some (.ref r), l2, l3, l4, l5] [.int i0] (N, 0, 0) h Q = zE X 17 19 [l0, some (.ref r), l2, l3, l4, l5] [.ref r, .int i0] (N, 0, 0) h Q := zE_aload_n (k := 1) (by decide +kernel) rfl
theorem e17_19 : zE X 17 19 [l0, l1, l2, l3, l4, l5] [.ref a0, .int i1] (N, 0, 0) h Q = zgf (h a0) 4 1 (fun v => zE X 17 22 [l0, l1, l2, l3, l4, l5] [v, .int i1] (N, 0, 0) h Q) := zE_getfield (k := 14) (nest := true) (q := 114) (by decide +kernel) rfl
theorem e17_22 : zE X 17 22 [l0, l1, l2, l3, l4, l5] [.int i0, .int i1] (N, 0, 0) h Q = if i0 ≤ i1 then zE X 17 59 [l0, l1, l2, l3, l4, l5] [] (N, 0, 0) h Q else zE X 17 25 [l0, l1, l2, l3, l4, l5] [] (N, 0, 0) h Q := zE_icmp_ge (off := 37) (by decide +kernel) (by decide)
theorem e17_25 : zE X 17 25 [some (.ref r), l1, l2, l3, l4, l5] [] (N, 0, 0) h Q = zE X 17 26 [some (.ref r), l1, l2, l3, l4, l5] [.ref r] (N, 0, 0) h Q := zE_aload_n (k := 0) (by decide +kernel) rfl
theorem e17_26 : zE X 17 26 [l0, some (.ref r), l2, l3, l4, l5] [.ref a0] (N, 0, 0) h Q = zE X 17 27 [l0, some (.ref r), l2, l3, l4, l5] [.ref r, .ref a0] (N, 0, 0) h Q := zE_aload_n (k := 1) (by decide +kernel) rfl
theorem e17_27 : zE X 17 27 [l0, l1, l2, some (.int v), l4, l5] [.ref a0, .ref a1] (N, 0, 0) h Q = zE X 17 28 [l0, l1, l2, some (.int v), l4, l5] [.int v, .ref a0, .ref a1] (N, 0, 0) h Q := zE_iload_n (k := 3) (by decide +kernel) rfl
theorem e17_28 : zE X 17 28 [l0, l1, l2, l3, l4, l5] [.int i0, .ref a1, .ref a2] (N, 0, 0) h Q = zrc (h a2) 1 (zE X 20 0 [some (.ref a2), some (.ref a1), some (.int i0), none, none, none] [] (N, 0, 0) h (fun v N' h' => zE X 17 31 [l0, l1, l2, l3, l4, l5] (v.toList ++ []) (N', 0, 0) h' Q)) := zE_invv (k := 20) (z := 20) (nest := false) (q := 443) (as := [.ref a1, .int i0]) (by decide +kernel) rfl rfl (by decide +kernel) rfl rfl rfl rfl ⟨rfl, rfl⟩ rfl ⟨Nat.zero_le _, Nat.zero_le _⟩
theorem e17_31 : zE X 17 31 [l0, l1, l2, l3, l4, l5] [.int i0] (N, 0, 0) h Q = zE X 17 33 [l0, l1, l2, l3, l4, some (.int i0)] [] (N, 0, 0) h Q := zE_istore (k := 5) (by decide +kernel) rfl rfl
theorem e17_33 : zE X 17 33 [l0, l1, l2, l3, l4, some (.int v)] [] (N, 0, 0) h Q = zE X 17 35 [l0, l1, l2, l3, l4, some (.int v)] [.int v] (N, 0, 0) h Q := zE_iload (k := 5) (by decide +kernel) rfl
theorem e17_35 : zE X 17 35 [l0, l1, l2, l3, l4, l5] [.int i0] (N, 0, 0) h Q = zE X 17 37 [l0, l1, l2, l3, l4, l5] [.int (-4), .int i0] (N, 0, 0) h Q := zE_bipush (n := -4) (by decide +kernel) (by decide)
theorem e17_37 : zE X 17 37 [l0, l1, l2, l3, l4, l5] [.int i0, .int i1] (N, 0, 0) h Q = if i1 = i0 then zE X 17 48 [l0, l1, l2, l3, l4, l5] [] (N, 0, 0) h Q else zE X 17 40 [l0, l1, l2, l3, l4, l5] [] (N, 0, 0) h Q := zE_icmp_eq (off := 11) (by decide +kernel) (by decide)
theorem e17_40 : zE X 17 40 [l0, l1, some (.ref r), l3, l4, l5] [] (N, 0, 0) h Q = zE X 17 41 [l0, l1, some (.ref r), l3, l4, l5] [.ref r] (N, 0, 0) h Q := zE_aload_n (k := 2) (by decide +kernel) rfl
theorem e17_41 : zE X 17 41 [some (.ref r), l1, l2, l3, l4, l5] [.ref a0] (N, 0, 0) h Q = zE X 17 42 [some (.ref r), l1, l2, l3, l4, l5] [.ref r, .ref a0] (N, 0, 0) h Q := zE_aload_n (k := 0) (by decide +kernel) rfl
theorem e17_42 : zE X 17 42 [l0, l1, l2, l3, l4, l5] [.ref a0, .ref a1] (N, 0, 0) h Q = zrc (h a1) 5 (zE X 24 0 [some (.ref a1), some (.ref a0)] [] (N, 0, 0) h (fun v N' h' => zE X 17 45 [l0, l1, l2, l3, l4, l5] (v.toList ++ []) (N', 0, 0) h' Q)) := zE_invv (k := 26) (z := 24) (nest := true) (q := 460) (as := [.ref a0]) (by decide +kernel) rfl rfl (by decide +kernel) rfl rfl rfl rfl ⟨rfl, rfl⟩ rfl ⟨Nat.zero_le _, Nat.zero_le _⟩
theorem e17_45 : zE X 17 45 [l0, l1, l2, l3, l4, l5] [.int i0] (N, 0, 0) h Q = if i0 = 0 then zE X 17 48 [l0, l1, l2, l3, l4, l5] [] (N, 0, 0) h Q else zE X 17 50 [l0, l1, l2, l3, l4, l5] [] (N, 0, 0) h Q := zE_if_ne (off := 5) (by decide +kernel) (by decide)
theorem e17_48 : zE X 17 48 [l0, l1, l2, some (.int v), l4, l5] [] (N, 0, 0) h Q = zE X 17 49 [l0, l1, l2, some (.int v), l4, l5] [.int v] (N, 0, 0) h Q := zE_iload_n (k := 3) (by decide +kernel) rfl
theorem e17_49 : zE X 17 49 [l0, l1, l2, l3, l4, l5] [.int i0] (N, 0, 0) h Q = Q (some (.int i0)) N h := zE_ireturn (by decide +kernel) rfl
theorem e17_50 : zE X 17 50 [l0, l1, l2, l3, l4, some (.int v)] [] (N, 0, 0) h Q = zE X 17 52 [l0, l1, l2, l3, l4, some (.int v)] [.int v] (N, 0, 0) h Q := zE_iload (k := 5) (by decide +kernel) rfl
theorem e17_52 : zE X 17 52 [l0, l1, l2, l3, l4, l5] [.int i0] (N, 0, 0) h Q = zE X 17 53 [l0, l1, l2, some (.int i0), l4, l5] [] (N, 0, 0) h Q := zE_istore_n (k := 3) (by decide +kernel) rfl rfl
theorem e17_53 : zE X 17 53 [l0, l1, l2, l3, some (.int v), l5] [] (N, 0, 0) h Q = zE X 17 56 [l0, l1, l2, l3, some (.int (v + 1)), l5] [] (N, 0, 0) h Q := zE_iinc (k := 4) (n := 1) (by decide +kernel) rfl rfl (by decide) rfl
theorem e17_56 : zE X 17 56 [l0, l1, l2, l3, l4, l5] [] (N, 0, 0) h Q = zE X 17 9 [l0, l1, l2, l3, l4, l5] [] (N, 0, 0) h Q := zE_goto (off := -47) (by decide +kernel) (by decide)
theorem e17_59 : zE X 17 59 [l0, l1, l2, l3, l4, l5] [] (N, 0, 0) h Q = zE X 17 61 [l0, l1, l2, l3, l4, l5] [.int (-4)] (N, 0, 0) h Q := zE_bipush (n := -4) (by decide +kernel) (by decide)
theorem e17_61 : zE X 17 61 [l0, l1, l2, l3, l4, l5] [.int i0] (N, 0, 0) h Q = Q (some (.int i0)) N h := zE_ireturn (by decide +kernel) rfl
-- 18 Sheet_clear ()V
theorem e18_0 : zE X 18 0 [some (.ref r)] [] (N, 0, 0) h Q = zE X 18 1 [some (.ref r)] [.ref r] (N, 0, 0) h Q := zE_aload_n (k := 0) (by decide +kernel) rfl
theorem e18_1 : zE X 18 1 [l0] [.ref a0] (N, 0, 0) h Q = zE X 18 2 [l0] [.int 0, .ref a0] (N, 0, 0) h Q := zE_iconst (n := 0) (by decide +kernel) (by decide)
theorem e18_2 : zE X 18 2 [l0] [.int i0, .ref a1] (N, 0, 0) h Q = zpf (h a1) 5 0 (.int i0) (fun c => zE X 18 5 [l0] [] (N, 0, 0) (va_up h a1 c) Q) := zE_putfield (k := 37) (nest := false) (q := 154) (by decide +kernel) rfl rfl rfl
theorem e18_5 : zE X 18 5 [some (.ref r)] [] (N, 0, 0) h Q = zE X 18 6 [some (.ref r)] [.ref r] (N, 0, 0) h Q := zE_aload_n (k := 0) (by decide +kernel) rfl
theorem e18_6 : zE X 18 6 [l0] [.ref a0] (N, 0, 0) h Q = zE X 18 7 [l0] [.int 0, .ref a0] (N, 0, 0) h Q := zE_iconst (n := 0) (by decide +kernel) (by decide)
theorem e18_7 : zE X 18 7 [l0] [.int i0, .ref a1] (N, 0, 0) h Q = zpf (h a1) 5 4 (.int i0) (fun c => zE X 18 10 [l0] [] (N, 0, 0) (va_up h a1 c) Q) := zE_putfield (k := 40) (nest := false) (q := 166) (by decide +kernel) rfl rfl rfl
theorem e18_10 : zE X 18 10 [some (.ref r)] [] (N, 0, 0) h Q = zE X 18 11 [some (.ref r)] [.ref r] (N, 0, 0) h Q := zE_aload_n (k := 0) (by decide +kernel) rfl
theorem e18_11 : zE X 18 11 [l0] [.ref a0] (N, 0, 0) h Q = zE X 18 12 [l0] [.int 0, .ref a0] (N, 0, 0) h Q := zE_iconst (n := 0) (by decide +kernel) (by decide)
theorem e18_12 : zE X 18 12 [l0] [.int i0, .ref a1] (N, 0, 0) h Q = zpf (h a1) 5 8 (.int i0) (fun c => zE X 18 15 [l0] [] (N, 0, 0) (va_up h a1 c) Q) := zE_putfield (k := 43) (nest := false) (q := 173) (by decide +kernel) rfl rfl rfl
theorem e18_15 : zE X 18 15 [some (.ref r)] [] (N, 0, 0) h Q = zE X 18 16 [some (.ref r)] [.ref r] (N, 0, 0) h Q := zE_aload_n (k := 0) (by decide +kernel) rfl
theorem e18_16 : zE X 18 16 [l0] [.ref a0] (N, 0, 0) h Q = zE X 18 17 [l0] [.int 0, .ref a0] (N, 0, 0) h Q := zE_iconst (n := 0) (by decide +kernel) (by decide)
theorem e18_17 : zE X 18 17 [l0] [.int i0, .ref a1] (N, 0, 0) h Q = zpf (h a1) 5 9 (.int i0) (fun c => zE X 18 20 [l0] [] (N, 0, 0) (va_up h a1 c) Q) := zE_putfield (k := 46) (nest := false) (q := 175) (by decide +kernel) rfl rfl rfl
theorem e18_20 : zE X 18 20 [some (.ref r)] [] (N, 0, 0) h Q = zE X 18 21 [some (.ref r)] [.ref r] (N, 0, 0) h Q := zE_aload_n (k := 0) (by decide +kernel) rfl
theorem e18_21 : zE X 18 21 [l0] [.ref a0] (N, 0, 0) h Q = zE X 18 22 [l0] [.int 0, .ref a0] (N, 0, 0) h Q := zE_iconst (n := 0) (by decide +kernel) (by decide)
theorem e18_22 : zE X 18 22 [l0] [.int i0, .ref a1] (N, 0, 0) h Q = zpf (h a1) 5 10 (.int i0) (fun c => zE X 18 25 [l0] [] (N, 0, 0) (va_up h a1 c) Q) := zE_putfield (k := 49) (nest := false) (q := 176) (by decide +kernel) rfl rfl rfl
theorem e18_25 : zE X 18 25 [some (.ref r)] [] (N, 0, 0) h Q = zE X 18 26 [some (.ref r)] [.ref r] (N, 0, 0) h Q := zE_aload_n (k := 0) (by decide +kernel) rfl
theorem e18_26 : zE X 18 26 [l0] [.ref a0] (N, 0, 0) h Q = zE X 18 28 [l0] [.int 100, .ref a0] (N, 0, 0) h Q := zE_bipush (n := 100) (by decide +kernel) (by decide)
theorem e18_28 : zE X 18 28 [l0] [.int i0, .ref a1] (N, 0, 0) h Q = zpf (h a1) 5 11 (.int i0) (fun c => zE X 18 31 [l0] [] (N, 0, 0) (va_up h a1 c) Q) := zE_putfield (k := 30) (nest := false) (q := 178) (by decide +kernel) rfl rfl rfl
theorem e18_31 : zE X 18 31 [some (.ref r)] [] (N, 0, 0) h Q = zE X 18 32 [some (.ref r)] [.ref r] (N, 0, 0) h Q := zE_aload_n (k := 0) (by decide +kernel) rfl
theorem e18_32 : zE X 18 32 [l0] [.ref a0] (N, 0, 0) h Q = zE X 18 33 [l0] [.int 0, .ref a0] (N, 0, 0) h Q := zE_iconst (n := 0) (by decide +kernel) (by decide)
theorem e18_33 : zE X 18 33 [l0] [.int i0, .ref a1] (N, 0, 0) h Q = zpf (h a1) 5 12 (.int i0) (fun c => zE X 18 36 [l0] [] (N, 0, 0) (va_up h a1 c) Q) := zE_putfield (k := 52) (nest := false) (q := 180) (by decide +kernel) rfl rfl rfl
theorem e18_36 : zE X 18 36 [some (.ref r)] [] (N, 0, 0) h Q = zE X 18 37 [some (.ref r)] [.ref r] (N, 0, 0) h Q := zE_aload_n (k := 0) (by decide +kernel) rfl
theorem e18_37 : zE X 18 37 [l0] [.ref a0] (N, 0, 0) h Q = zE X 18 38 [l0] [.int 0, .ref a0] (N, 0, 0) h Q := zE_iconst (n := 0) (by decide +kernel) (by decide)
theorem e18_38 : zE X 18 38 [l0] [.int i0, .ref a1] (N, 0, 0) h Q = zpf (h a1) 5 13 (.int i0) (fun c => zE X 18 41 [l0] [] (N, 0, 0) (va_up h a1 c) Q) := zE_putfield (k := 55) (nest := false) (q := 181) (by decide +kernel) rfl rfl rfl
theorem e18_41 : zE X 18 41 [some (.ref r)] [] (N, 0, 0) h Q = zE X 18 42 [some (.ref r)] [.ref r] (N, 0, 0) h Q := zE_aload_n (k := 0) (by decide +kernel) rfl
theorem e18_42 : zE X 18 42 [l0] [.ref a0] (N, 0, 0) h Q = zgf (h a0) 5 14 (fun v => zE X 18 45 [l0] [v] (N, 0, 0) h Q) := zE_getfield (k := 34) (nest := false) (q := 182) (by decide +kernel) rfl
theorem e18_45 : zE X 18 45 [l0] [.ref a0] (N, 0, 0) h Q = zE X 18 46 [l0] [.int 0, .ref a0] (N, 0, 0) h Q := zE_iconst (n := 0) (by decide +kernel) (by decide)
theorem e18_46 : zE X 18 46 [l0] [.int i0, .ref a1] (N, 0, 0) h Q = zE X 19 0 [some (.ref a1), some (.int i0), none, none] [] (N, 0, 0) h (fun v N' h' => zE X 18 49 [l0] (v.toList ++ []) (N', 0, 0) h' Q) := zE_invs (k := 58) (z := 19) (nest := false) (q := 440) (as := [.ref a1, .int i0]) (by decide +kernel) rfl rfl (by simp [show mPn 19 = 2 from rfl]) rfl rfl rfl rfl ⟨rfl, rfl⟩ rfl ⟨Nat.zero_le _, Nat.zero_le _⟩
theorem e18_49 : zE X 18 49 [some (.ref r)] [] (N, 0, 0) h Q = zE X 18 50 [some (.ref r)] [.ref r] (N, 0, 0) h Q := zE_aload_n (k := 0) (by decide +kernel) rfl
theorem e18_50 : zE X 18 50 [l0] [.ref a0] (N, 0, 0) h Q = zE X 18 51 [l0] [.int 0, .ref a0] (N, 0, 0) h Q := zE_iconst (n := 0) (by decide +kernel) (by decide)
theorem e18_51 : zE X 18 51 [l0] [.int i0, .ref a1] (N, 0, 0) h Q = zpf (h a1) 5 15 (.int i0) (fun c => zE X 18 54 [l0] [] (N, 0, 0) (va_up h a1 c) Q) := zE_putfield (k := 64) (nest := false) (q := 184) (by decide +kernel) rfl rfl rfl
theorem e18_54 : zE X 18 54 [l0] [] (N, 0, 0) h Q = Q none N h := zE_return (by decide +kernel) rfl
-- 20 ItemReader_readItem (LPursesByLot$Script;I)I
theorem e20_0 : zE X 20 0 [some (.ref r), l1, l2, l3, l4, l5] [] (N, 0, 0) h Q = zE X 20 1 [some (.ref r), l1, l2, l3, l4, l5] [.ref r] (N, 0, 0) h Q := zE_aload_n (k := 0) (by decide +kernel) rfl
theorem e20_1 : zE X 20 1 [l0, some (.ref r), l2, l3, l4, l5] [.ref a0] (N, 0, 0) h Q = zE X 20 2 [l0, some (.ref r), l2, l3, l4, l5] [.ref r, .ref a0] (N, 0, 0) h Q := zE_aload_n (k := 1) (by decide +kernel) rfl
theorem e20_2 : zE X 20 2 [l0, l1, some (.int v), l3, l4, l5] [.ref a0, .ref a1] (N, 0, 0) h Q = zE X 20 3 [l0, l1, some (.int v), l3, l4, l5] [.int v, .ref a0, .ref a1] (N, 0, 0) h Q := zE_iload_n (k := 2) (by decide +kernel) rfl
theorem e20_3 : zE X 20 3 [l0, l1, l2, l3, l4, l5] [.int i0, .ref a1, .ref a2] (N, 0, 0) h Q = zrc (h a1) 4 (zE X 21 0 [some (.ref a1), some (.int i0)] [] (N, 0, 0) h (fun v N' h' => zE X 20 6 [l0, l1, l2, l3, l4, l5] (v.toList ++ [.ref a2]) (N', 0, 0) h' Q)) := zE_invv (k := 30) (z := 21) (nest := true) (q := 447) (as := [.int i0]) (by decide +kernel) rfl rfl (by decide +kernel) rfl rfl rfl rfl ⟨rfl, rfl⟩ rfl ⟨Nat.zero_le _, Nat.zero_le _⟩
theorem e20_6 : zE X 20 6 [l0, l1, l2, l3, l4, l5] [.int i0, .ref a1] (N, 0, 0) h Q = zpf (h a1) 1 0 (.int i0) (fun c => zE X 20 9 [l0, l1, l2, l3, l4, l5] [] (N, 0, 0) (va_up h a1 c) Q) := zE_putfield (k := 34) (nest := false) (q := 128) (by decide +kernel) rfl rfl rfl
theorem e20_9 : zE X 20 9 [some (.ref r), l1, l2, l3, l4, l5] [] (N, 0, 0) h Q = zE X 20 10 [some (.ref r), l1, l2, l3, l4, l5] [.ref r] (N, 0, 0) h Q := zE_aload_n (k := 0) (by decide +kernel) rfl
theorem e20_10 : zE X 20 10 [l0, l1, l2, l3, l4, l5] [.ref a0] (N, 0, 0) h Q = zE X 20 11 [l0, l1, l2, l3, l4, l5] [.int 0, .ref a0] (N, 0, 0) h Q := zE_iconst (n := 0) (by decide +kernel) (by decide)
theorem e20_11 : zE X 20 11 [l0, l1, l2, l3, l4, l5] [.int i0, .ref a1] (N, 0, 0) h Q = zpf (h a1) 1 1 (.int i0) (fun c => zE X 20 14 [l0, l1, l2, l3, l4, l5] [] (N, 0, 0) (va_up h a1 c) Q) := zE_putfield (k := 37) (nest := false) (q := 129) (by decide +kernel) rfl rfl rfl
theorem e20_14 : zE X 20 14 [l0, l1, some (.int v), l3, l4, l5] [] (N, 0, 0) h Q = zE X 20 15 [l0, l1, some (.int v), l3, l4, l5] [.int v] (N, 0, 0) h Q := zE_iload_n (k := 2) (by decide +kernel) rfl
theorem e20_15 : zE X 20 15 [l0, l1, l2, l3, l4, l5] [.int i0] (N, 0, 0) h Q = zE X 20 16 [l0, l1, l2, l3, l4, l5] [.int 1, .int i0] (N, 0, 0) h Q := zE_iconst (n := 1) (by decide +kernel) (by decide)
theorem e20_16 : zE X 20 16 [l0, l1, l2, l3, l4, l5] [.int i0, .int i1] (N, 0, 0) h Q = zE X 20 17 [l0, l1, l2, l3, l4, l5] [.int (i1 + i0)] (N, 0, 0) h Q := zE_iadd (by decide +kernel)
theorem e20_17 : zE X 20 17 [l0, l1, l2, l3, l4, l5] [.int i0] (N, 0, 0) h Q = zE X 20 18 [l0, l1, l2, some (.int i0), l4, l5] [] (N, 0, 0) h Q := zE_istore_n (k := 3) (by decide +kernel) rfl rfl
theorem e20_18 : zE X 20 18 [l0, l1, l2, l3, l4, l5] [] (N, 0, 0) h Q = zE X 20 19 [l0, l1, l2, l3, l4, l5] [.int 0] (N, 0, 0) h Q := zE_iconst (n := 0) (by decide +kernel) (by decide)
theorem e20_19 : zE X 20 19 [l0, l1, l2, l3, l4, l5] [.int i0] (N, 0, 0) h Q = zE X 20 21 [l0, l1, l2, l3, some (.int i0), l5] [] (N, 0, 0) h Q := zE_istore (k := 4) (by decide +kernel) rfl rfl
theorem e20_21 : zE X 20 21 [l0, l1, l2, l3, some (.int v), l5] [] (N, 0, 0) h Q = zE X 20 23 [l0, l1, l2, l3, some (.int v), l5] [.int v] (N, 0, 0) h Q := zE_iload (k := 4) (by decide +kernel) rfl
theorem e20_23 : zE X 20 23 [l0, l1, l2, l3, l4, l5] [.int i0] (N, 0, 0) h Q = zE X 20 24 [l0, l1, l2, l3, l4, l5] [.int 3, .int i0] (N, 0, 0) h Q := zE_iconst (n := 3) (by decide +kernel) (by decide)
theorem e20_24 : zE X 20 24 [l0, l1, l2, l3, l4, l5] [.int i0, .int i1] (N, 0, 0) h Q = if i0 ≤ i1 then zE X 20 78 [l0, l1, l2, l3, l4, l5] [] (N, 0, 0) h Q else zE X 20 27 [l0, l1, l2, l3, l4, l5] [] (N, 0, 0) h Q := zE_icmp_ge (off := 54) (by decide +kernel) (by decide)
theorem e20_27 : zE X 20 27 [some (.ref r), l1, l2, l3, l4, l5] [] (N, 0, 0) h Q = zE X 20 28 [some (.ref r), l1, l2, l3, l4, l5] [.ref r] (N, 0, 0) h Q := zE_aload_n (k := 0) (by decide +kernel) rfl
theorem e20_28 : zE X 20 28 [l0, some (.ref r), l2, l3, l4, l5] [.ref a0] (N, 0, 0) h Q = zE X 20 29 [l0, some (.ref r), l2, l3, l4, l5] [.ref r, .ref a0] (N, 0, 0) h Q := zE_aload_n (k := 1) (by decide +kernel) rfl
theorem e20_29 : zE X 20 29 [l0, l1, l2, some (.int v), l4, l5] [.ref a0, .ref a1] (N, 0, 0) h Q = zE X 20 30 [l0, l1, l2, some (.int v), l4, l5] [.int v, .ref a0, .ref a1] (N, 0, 0) h Q := zE_iload_n (k := 3) (by decide +kernel) rfl
theorem e20_30 : zE X 20 30 [l0, l1, l2, l3, l4, l5] [.int i0, .ref a1, .ref a2] (N, 0, 0) h Q = zrc (h a2) 1 (zE X 22 0 [some (.ref a2), some (.ref a1), some (.int i0), none, none, none, none] [] (N, 0, 0) h (fun v N' h' => zE X 20 33 [l0, l1, l2, l3, l4, l5] (v.toList ++ []) (N', 0, 0) h' Q)) := zE_invv (k := 40) (z := 22) (nest := false) (q := 451) (as := [.ref a1, .int i0]) (by decide +kernel) rfl rfl (by decide +kernel) rfl rfl rfl rfl ⟨rfl, rfl⟩ rfl ⟨Nat.zero_le _, Nat.zero_le _⟩
theorem e20_33 : zE X 20 33 [l0, l1, l2, l3, l4, l5] [.int i0] (N, 0, 0) h Q = zE X 20 34 [l0, l1, l2, some (.int i0), l4, l5] [] (N, 0, 0) h Q := zE_istore_n (k := 3) (by decide +kernel) rfl rfl
theorem e20_34 : zE X 20 34 [l0, l1, l2, some (.int v), l4, l5] [] (N, 0, 0) h Q = zE X 20 35 [l0, l1, l2, some (.int v), l4, l5] [.int v] (N, 0, 0) h Q := zE_iload_n (k := 3) (by decide +kernel) rfl
theorem e20_35 : zE X 20 35 [l0, l1, l2, l3, l4, l5] [.int i0] (N, 0, 0) h Q = zE X 20 37 [l0, l1, l2, l3, l4, l5] [.int (-4), .int i0] (N, 0, 0) h Q := zE_bipush (n := -4) (by decide +kernel) (by decide)
theorem e20_37 : zE X 20 37 [l0, l1, l2, l3, l4, l5] [.int i0, .int i1] (N, 0, 0) h Q = if i1 = i0 then zE X 20 40 [l0, l1, l2, l3, l4, l5] [] (N, 0, 0) h Q else zE X 20 43 [l0, l1, l2, l3, l4, l5] [] (N, 0, 0) h Q := zE_icmp_ne (off := 6) (by decide +kernel) (by decide)
theorem e20_40 : zE X 20 40 [l0, l1, l2, l3, l4, l5] [] (N, 0, 0) h Q = zE X 20 42 [l0, l1, l2, l3, l4, l5] [.int (-4)] (N, 0, 0) h Q := zE_bipush (n := -4) (by decide +kernel) (by decide)
theorem e20_42 : zE X 20 42 [l0, l1, l2, l3, l4, l5] [.int i0] (N, 0, 0) h Q = Q (some (.int i0)) N h := zE_ireturn (by decide +kernel) rfl
theorem e20_43 : zE X 20 43 [l0, some (.ref r), l2, l3, l4, l5] [] (N, 0, 0) h Q = zE X 20 44 [l0, some (.ref r), l2, l3, l4, l5] [.ref r] (N, 0, 0) h Q := zE_aload_n (k := 1) (by decide +kernel) rfl
theorem e20_44 : zE X 20 44 [l0, l1, l2, some (.int v), l4, l5] [.ref a0] (N, 0, 0) h Q = zE X 20 45 [l0, l1, l2, some (.int v), l4, l5] [.int v, .ref a0] (N, 0, 0) h Q := zE_iload_n (k := 3) (by decide +kernel) rfl
theorem e20_45 : zE X 20 45 [l0, l1, l2, l3, l4, l5] [.int i0, .ref a1] (N, 0, 0) h Q = zrc (h a1) 4 (zE X 21 0 [some (.ref a1), some (.int i0)] [] (N, 0, 0) h (fun v N' h' => zE X 20 48 [l0, l1, l2, l3, l4, l5] (v.toList ++ []) (N', 0, 0) h' Q)) := zE_invv (k := 30) (z := 21) (nest := true) (q := 447) (as := [.int i0]) (by decide +kernel) rfl rfl (by decide +kernel) rfl rfl rfl rfl ⟨rfl, rfl⟩ rfl ⟨Nat.zero_le _, Nat.zero_le _⟩
theorem e20_48 : zE X 20 48 [l0, l1, l2, l3, l4, l5] [.int i0] (N, 0, 0) h Q = zE X 20 50 [l0, l1, l2, l3, l4, some (.int i0)] [] (N, 0, 0) h Q := zE_istore (k := 5) (by decide +kernel) rfl rfl
theorem e20_50 : zE X 20 50 [l0, l1, l2, some (.int v), l4, l5] [] (N, 0, 0) h Q = zE X 20 53 [l0, l1, l2, some (.int (v + 1)), l4, l5] [] (N, 0, 0) h Q := zE_iinc (k := 3) (n := 1) (by decide +kernel) rfl rfl (by decide) rfl
theorem e20_53 : zE X 20 53 [l0, l1, l2, l3, l4, some (.int v)] [] (N, 0, 0) h Q = zE X 20 55 [l0, l1, l2, l3, l4, some (.int v)] [.int v] (N, 0, 0) h Q := zE_iload (k := 5) (by decide +kernel) rfl
theorem e20_55 : zE X 20 55 [l0, l1, l2, l3, l4, l5] [.int i0] (N, 0, 0) h Q = zE X 20 57 [l0, l1, l2, l3, l4, l5] [.int 59, .int i0] (N, 0, 0) h Q := zE_bipush (n := 59) (by decide +kernel) (by decide)
theorem e20_57 : zE X 20 57 [l0, l1, l2, l3, l4, l5] [.int i0, .int i1] (N, 0, 0) h Q = if i1 = i0 then zE X 20 60 [l0, l1, l2, l3, l4, l5] [] (N, 0, 0) h Q else zE X 20 62 [l0, l1, l2, l3, l4, l5] [] (N, 0, 0) h Q := zE_icmp_ne (off := 5) (by decide +kernel) (by decide)
theorem e20_60 : zE X 20 60 [l0, l1, l2, some (.int v), l4, l5] [] (N, 0, 0) h Q = zE X 20 61 [l0, l1, l2, some (.int v), l4, l5] [.int v] (N, 0, 0) h Q := zE_iload_n (k := 3) (by decide +kernel) rfl
theorem e20_61 : zE X 20 61 [l0, l1, l2, l3, l4, l5] [.int i0] (N, 0, 0) h Q = Q (some (.int i0)) N h := zE_ireturn (by decide +kernel) rfl
theorem e20_62 : zE X 20 62 [l0, l1, l2, l3, l4, some (.int v)] [] (N, 0, 0) h Q = zE X 20 64 [l0, l1, l2, l3, l4, some (.int v)] [.int v] (N, 0, 0) h Q := zE_iload (k := 5) (by decide +kernel) rfl
theorem e20_64 : zE X 20 64 [l0, l1, l2, l3, l4, l5] [.int i0] (N, 0, 0) h Q = zE X 20 66 [l0, l1, l2, l3, l4, l5] [.int 44, .int i0] (N, 0, 0) h Q := zE_bipush (n := 44) (by decide +kernel) (by decide)
theorem e20_66 : zE X 20 66 [l0, l1, l2, l3, l4, l5] [.int i0, .int i1] (N, 0, 0) h Q = if i1 = i0 then zE X 20 72 [l0, l1, l2, l3, l4, l5] [] (N, 0, 0) h Q else zE X 20 69 [l0, l1, l2, l3, l4, l5] [] (N, 0, 0) h Q := zE_icmp_eq (off := 6) (by decide +kernel) (by decide)
theorem e20_69 : zE X 20 69 [l0, l1, l2, l3, l4, l5] [] (N, 0, 0) h Q = zE X 20 71 [l0, l1, l2, l3, l4, l5] [.int (-4)] (N, 0, 0) h Q := zE_bipush (n := -4) (by decide +kernel) (by decide)
theorem e20_71 : zE X 20 71 [l0, l1, l2, l3, l4, l5] [.int i0] (N, 0, 0) h Q = Q (some (.int i0)) N h := zE_ireturn (by decide +kernel) rfl
theorem e20_72 : zE X 20 72 [l0, l1, l2, l3, some (.int v), l5] [] (N, 0, 0) h Q = zE X 20 75 [l0, l1, l2, l3, some (.int (v + 1)), l5] [] (N, 0, 0) h Q := zE_iinc (k := 4) (n := 1) (by decide +kernel) rfl rfl (by decide) rfl
theorem e20_75 : zE X 20 75 [l0, l1, l2, l3, l4, l5] [] (N, 0, 0) h Q = zE X 20 21 [l0, l1, l2, l3, l4, l5] [] (N, 0, 0) h Q := zE_goto (off := -54) (by decide +kernel) (by decide)
theorem e20_78 : zE X 20 78 [l0, l1, l2, l3, l4, l5] [] (N, 0, 0) h Q = zE X 20 80 [l0, l1, l2, l3, l4, l5] [.int (-4)] (N, 0, 0) h Q := zE_bipush (n := -4) (by decide +kernel) (by decide)
theorem e20_80 : zE X 20 80 [l0, l1, l2, l3, l4, l5] [.int i0] (N, 0, 0) h Q = Q (some (.int i0)) N h := zE_ireturn (by decide +kernel) rfl
-- 21 Script_byteAt (I)I
theorem e21_0 : zE X 21 0 [l0, some (.int v)] [] (N, 0, 0) h Q = zE X 21 1 [l0, some (.int v)] [.int v] (N, 0, 0) h Q := zE_iload_n (k := 1) (by decide +kernel) rfl
theorem e21_1 : zE X 21 1 [l0, l1] [.int i0] (N, 0, 0) h Q = if i0 < 0 then zE X 21 25 [l0, l1] [] (N, 0, 0) h Q else zE X 21 4 [l0, l1] [] (N, 0, 0) h Q := zE_if_lt (off := 24) (by decide +kernel) (by decide)
theorem e21_4 : zE X 21 4 [l0, some (.int v)] [] (N, 0, 0) h Q = zE X 21 5 [l0, some (.int v)] [.int v] (N, 0, 0) h Q := zE_iload_n (k := 1) (by decide +kernel) rfl
theorem e21_5 : zE X 21 5 [some (.ref r), l1] [.int i0] (N, 0, 0) h Q = zE X 21 6 [some (.ref r), l1] [.ref r, .int i0] (N, 0, 0) h Q := zE_aload_n (k := 0) (by decide +kernel) rfl
theorem e21_6 : zE X 21 6 [l0, l1] [.ref a0, .int i1] (N, 0, 0) h Q = zgf (h a0) 4 1 (fun v => zE X 21 9 [l0, l1] [v, .int i1] (N, 0, 0) h Q) := zE_getfield (k := 15) (nest := false) (q := 112) (by decide +kernel) rfl
theorem e21_9 : zE X 21 9 [l0, l1] [.int i0, .int i1] (N, 0, 0) h Q = if i0 ≤ i1 then zE X 21 25 [l0, l1] [] (N, 0, 0) h Q else zE X 21 12 [l0, l1] [] (N, 0, 0) h Q := zE_icmp_ge (off := 16) (by decide +kernel) (by decide)
theorem e21_12 : zE X 21 12 [some (.ref r), l1] [] (N, 0, 0) h Q = zE X 21 13 [some (.ref r), l1] [.ref r] (N, 0, 0) h Q := zE_aload_n (k := 0) (by decide +kernel) rfl
theorem e21_13 : zE X 21 13 [l0, l1] [.ref a0] (N, 0, 0) h Q = zgf (h a0) 4 0 (fun v => zE X 21 16 [l0, l1] [v] (N, 0, 0) h Q) := zE_getfield (k := 9) (nest := false) (q := 111) (by decide +kernel) rfl
theorem e21_16 : zE X 21 16 [l0, some (.int v)] [.ref a0] (N, 0, 0) h Q = zE X 21 17 [l0, some (.int v)] [.int v, .ref a0] (N, 0, 0) h Q := zE_iload_n (k := 1) (by decide +kernel) rfl
theorem e21_17 : zE X 21 17 [l0, l1] [.int i0, .ref a1] (N, 0, 0) h Q = zal (h a1) 1 i0 (fun x => zE X 21 18 [l0, l1] [.int x] (N, 0, 0) h Q) := zE_baload (by decide +kernel)
theorem e21_18 : zE X 21 18 [l0, l1] [.int i0] (N, 0, 0) h Q = zE X 21 21 [l0, l1] [.int 255, .int i0] (N, 0, 0) h Q := zE_sipush (n := 255) (by decide +kernel) (by decide)
theorem e21_21 : zE X 21 21 [l0, l1] [.int i0, .int i1] (N, 0, 0) h Q = zE X 21 22 [l0, l1] [.int (i1 &&& i0)] (N, 0, 0) h Q := zE_iand (by decide +kernel)
theorem e21_22 : zE X 21 22 [l0, l1] [.int i0] (N, 0, 0) h Q = zE X 21 27 [l0, l1] [.int i0] (N, 0, 0) h Q := zE_goto (off := 5) (by decide +kernel) (by decide)
theorem e21_25 : zE X 21 25 [l0, l1] [] (N, 0, 0) h Q = zE X 21 27 [l0, l1] [.int (-4)] (N, 0, 0) h Q := zE_bipush (n := -4) (by decide +kernel) (by decide)
theorem e21_27 : zE X 21 27 [l0, l1] [.int i0] (N, 0, 0) h Q = Q (some (.int i0)) N h := zE_ireturn (by decide +kernel) rfl
-- 22 ItemReader_readNumber (LPursesByLot$Script;I)I
theorem e22_0 : zE X 22 0 [l0, l1, l2, l3, l4, l5, l6] [] (N, 0, 0) h Q = zE X 22 1 [l0, l1, l2, l3, l4, l5, l6] [.int 0] (N, 0, 0) h Q := zE_iconst (n := 0) (by decide +kernel) (by decide)
theorem e22_1 : zE X 22 1 [l0, l1, l2, l3, l4, l5, l6] [.int i0] (N, 0, 0) h Q = zE X 22 2 [l0, l1, l2, some (.int i0), l4, l5, l6] [] (N, 0, 0) h Q := zE_istore_n (k := 3) (by decide +kernel) rfl rfl
theorem e22_2 : zE X 22 2 [l0, l1, some (.int v), l3, l4, l5, l6] [] (N, 0, 0) h Q = zE X 22 3 [l0, l1, some (.int v), l3, l4, l5, l6] [.int v] (N, 0, 0) h Q := zE_iload_n (k := 2) (by decide +kernel) rfl
theorem e22_3 : zE X 22 3 [l0, l1, l2, l3, l4, l5, l6] [.int i0] (N, 0, 0) h Q = zE X 22 5 [l0, l1, l2, l3, some (.int i0), l5, l6] [] (N, 0, 0) h Q := zE_istore (k := 4) (by decide +kernel) rfl rfl
theorem e22_5 : zE X 22 5 [l0, l1, l2, l3, l4, l5, l6] [] (N, 0, 0) h Q = zE X 22 6 [l0, l1, l2, l3, l4, l5, l6] [.int 0] (N, 0, 0) h Q := zE_iconst (n := 0) (by decide +kernel) (by decide)
theorem e22_6 : zE X 22 6 [l0, l1, l2, l3, l4, l5, l6] [.int i0] (N, 0, 0) h Q = zE X 22 8 [l0, l1, l2, l3, l4, some (.int i0), l6] [] (N, 0, 0) h Q := zE_istore (k := 5) (by decide +kernel) rfl rfl
theorem e22_8 : zE X 22 8 [l0, l1, l2, l3, l4, some (.int v), l6] [] (N, 0, 0) h Q = zE X 22 10 [l0, l1, l2, l3, l4, some (.int v), l6] [.int v] (N, 0, 0) h Q := zE_iload (k := 5) (by decide +kernel) rfl
theorem e22_10 : zE X 22 10 [l0, l1, l2, l3, l4, l5, l6] [.int i0] (N, 0, 0) h Q = zE X 22 11 [l0, l1, l2, l3, l4, l5, l6] [.int 3, .int i0] (N, 0, 0) h Q := zE_iconst (n := 3) (by decide +kernel) (by decide)
theorem e22_11 : zE X 22 11 [l0, l1, l2, l3, l4, l5, l6] [.int i0, .int i1] (N, 0, 0) h Q = if i0 ≤ i1 then zE X 22 57 [l0, l1, l2, l3, l4, l5, l6] [] (N, 0, 0) h Q else zE X 22 14 [l0, l1, l2, l3, l4, l5, l6] [] (N, 0, 0) h Q := zE_icmp_ge (off := 46) (by decide +kernel) (by decide)
theorem e22_14 : zE X 22 14 [l0, some (.ref r), l2, l3, l4, l5, l6] [] (N, 0, 0) h Q = zE X 22 15 [l0, some (.ref r), l2, l3, l4, l5, l6] [.ref r] (N, 0, 0) h Q := zE_aload_n (k := 1) (by decide +kernel) rfl
theorem e22_15 : zE X 22 15 [l0, l1, l2, l3, some (.int v), l5, l6] [.ref a0] (N, 0, 0) h Q = zE X 22 17 [l0, l1, l2, l3, some (.int v), l5, l6] [.int v, .ref a0] (N, 0, 0) h Q := zE_iload (k := 4) (by decide +kernel) rfl
theorem e22_17 : zE X 22 17 [l0, l1, l2, l3, l4, l5, l6] [.int i0, .ref a1] (N, 0, 0) h Q = zrc (h a1) 4 (zE X 21 0 [some (.ref a1), some (.int i0)] [] (N, 0, 0) h (fun v N' h' => zE X 22 20 [l0, l1, l2, l3, l4, l5, l6] (v.toList ++ []) (N', 0, 0) h' Q)) := zE_invv (k := 30) (z := 21) (nest := true) (q := 447) (as := [.int i0]) (by decide +kernel) rfl rfl (by decide +kernel) rfl rfl rfl rfl ⟨rfl, rfl⟩ rfl ⟨Nat.zero_le _, Nat.zero_le _⟩
theorem e22_20 : zE X 22 20 [l0, l1, l2, l3, l4, l5, l6] [.int i0] (N, 0, 0) h Q = zE X 22 22 [l0, l1, l2, l3, l4, l5, some (.int i0)] [] (N, 0, 0) h Q := zE_istore (k := 6) (by decide +kernel) rfl rfl
theorem e22_22 : zE X 22 22 [l0, l1, l2, l3, l4, l5, some (.int v)] [] (N, 0, 0) h Q = zE X 22 24 [l0, l1, l2, l3, l4, l5, some (.int v)] [.int v] (N, 0, 0) h Q := zE_iload (k := 6) (by decide +kernel) rfl
theorem e22_24 : zE X 22 24 [l0, l1, l2, l3, l4, l5, l6] [.int i0] (N, 0, 0) h Q = zE X 22 26 [l0, l1, l2, l3, l4, l5, l6] [.int 48, .int i0] (N, 0, 0) h Q := zE_bipush (n := 48) (by decide +kernel) (by decide)
theorem e22_26 : zE X 22 26 [l0, l1, l2, l3, l4, l5, l6] [.int i0, .int i1] (N, 0, 0) h Q = zE X 22 28 [l0, l1, l2, l3, l4, l5, l6] [.int 57, .int i0, .int i1] (N, 0, 0) h Q := zE_bipush (n := 57) (by decide +kernel) (by decide)
theorem e22_28 : zE X 22 28 [l0, l1, l2, l3, l4, l5, l6] [.int i0, .int i1, .int i2] (N, 0, 0) h Q = zE X 13 0 [some (.int i2), some (.int i1), some (.int i0)] [] (N, 0, 0) h (fun v N' h' => zE X 22 31 [l0, l1, l2, l3, l4, l5, l6] (v.toList ++ []) (N', 0, 0) h' Q) := zE_invs (k := 43) (z := 13) (nest := true) (q := 455) (as := [.int i2, .int i1, .int i0]) (by decide +kernel) rfl rfl (by simp [show mPn 13 = 3 from rfl]) rfl rfl rfl rfl ⟨rfl, rfl⟩ rfl ⟨Nat.zero_le _, Nat.zero_le _⟩
theorem e22_31 : zE X 22 31 [l0, l1, l2, l3, l4, l5, l6] [.int i0] (N, 0, 0) h Q = if i0 = 0 then zE X 22 34 [l0, l1, l2, l3, l4, l5, l6] [] (N, 0, 0) h Q else zE X 22 37 [l0, l1, l2, l3, l4, l5, l6] [] (N, 0, 0) h Q := zE_if_ne (off := 6) (by decide +kernel) (by decide)
theorem e22_34 : zE X 22 34 [l0, l1, l2, l3, l4, l5, l6] [] (N, 0, 0) h Q = zE X 22 57 [l0, l1, l2, l3, l4, l5, l6] [] (N, 0, 0) h Q := zE_goto (off := 23) (by decide +kernel) (by decide)
theorem e22_37 : zE X 22 37 [l0, l1, l2, l3, l4, l5, l6] [] (N, 0, 0) h Q = zE X 22 39 [l0, l1, l2, l3, l4, l5, l6] [.int 10] (N, 0, 0) h Q := zE_bipush (n := 10) (by decide +kernel) (by decide)
theorem e22_39 : zE X 22 39 [l0, l1, l2, some (.int v), l4, l5, l6] [.int i0] (N, 0, 0) h Q = zE X 22 40 [l0, l1, l2, some (.int v), l4, l5, l6] [.int v, .int i0] (N, 0, 0) h Q := zE_iload_n (k := 3) (by decide +kernel) rfl
theorem e22_40 : zE X 22 40 [l0, l1, l2, l3, l4, l5, l6] [.int i0, .int i1] (N, 0, 0) h Q = zE X 22 41 [l0, l1, l2, l3, l4, l5, l6] [.int (i1 * i0)] (N, 0, 0) h Q := zE_imul (by decide +kernel)
theorem e22_41 : zE X 22 41 [l0, l1, l2, l3, l4, l5, some (.int v)] [.int i0] (N, 0, 0) h Q = zE X 22 43 [l0, l1, l2, l3, l4, l5, some (.int v)] [.int v, .int i0] (N, 0, 0) h Q := zE_iload (k := 6) (by decide +kernel) rfl
theorem e22_43 : zE X 22 43 [l0, l1, l2, l3, l4, l5, l6] [.int i0, .int i1] (N, 0, 0) h Q = zE X 22 44 [l0, l1, l2, l3, l4, l5, l6] [.int (i1 + i0)] (N, 0, 0) h Q := zE_iadd (by decide +kernel)
theorem e22_44 : zE X 22 44 [l0, l1, l2, l3, l4, l5, l6] [.int i0] (N, 0, 0) h Q = zE X 22 46 [l0, l1, l2, l3, l4, l5, l6] [.int 48, .int i0] (N, 0, 0) h Q := zE_bipush (n := 48) (by decide +kernel) (by decide)
theorem e22_46 : zE X 22 46 [l0, l1, l2, l3, l4, l5, l6] [.int i0, .int i1] (N, 0, 0) h Q = zE X 22 47 [l0, l1, l2, l3, l4, l5, l6] [.int (i1 - i0)] (N, 0, 0) h Q := zE_isub (by decide +kernel)
theorem e22_47 : zE X 22 47 [l0, l1, l2, l3, l4, l5, l6] [.int i0] (N, 0, 0) h Q = zE X 22 48 [l0, l1, l2, some (.int i0), l4, l5, l6] [] (N, 0, 0) h Q := zE_istore_n (k := 3) (by decide +kernel) rfl rfl
theorem e22_48 : zE X 22 48 [l0, l1, l2, l3, some (.int v), l5, l6] [] (N, 0, 0) h Q = zE X 22 51 [l0, l1, l2, l3, some (.int (v + 1)), l5, l6] [] (N, 0, 0) h Q := zE_iinc (k := 4) (n := 1) (by decide +kernel) rfl rfl (by decide) rfl
theorem e22_51 : zE X 22 51 [l0, l1, l2, l3, l4, some (.int v), l6] [] (N, 0, 0) h Q = zE X 22 54 [l0, l1, l2, l3, l4, some (.int (v + 1)), l6] [] (N, 0, 0) h Q := zE_iinc (k := 5) (n := 1) (by decide +kernel) rfl rfl (by decide) rfl
theorem e22_54 : zE X 22 54 [l0, l1, l2, l3, l4, l5, l6] [] (N, 0, 0) h Q = zE X 22 8 [l0, l1, l2, l3, l4, l5, l6] [] (N, 0, 0) h Q := zE_goto (off := -46) (by decide +kernel) (by decide)
theorem e22_57 : zE X 22 57 [l0, l1, l2, l3, some (.int v), l5, l6] [] (N, 0, 0) h Q = zE X 22 59 [l0, l1, l2, l3, some (.int v), l5, l6] [.int v] (N, 0, 0) h Q := zE_iload (k := 4) (by decide +kernel) rfl
theorem e22_59 : zE X 22 59 [l0, l1, some (.int v), l3, l4, l5, l6] [.int i0] (N, 0, 0) h Q = zE X 22 60 [l0, l1, some (.int v), l3, l4, l5, l6] [.int v, .int i0] (N, 0, 0) h Q := zE_iload_n (k := 2) (by decide +kernel) rfl
theorem e22_60 : zE X 22 60 [l0, l1, l2, l3, l4, l5, l6] [.int i0, .int i1] (N, 0, 0) h Q = if i1 = i0 then zE X 22 63 [l0, l1, l2, l3, l4, l5, l6] [] (N, 0, 0) h Q else zE X 22 66 [l0, l1, l2, l3, l4, l5, l6] [] (N, 0, 0) h Q := zE_icmp_ne (off := 6) (by decide +kernel) (by decide)
theorem e22_63 : zE X 22 63 [l0, l1, l2, l3, l4, l5, l6] [] (N, 0, 0) h Q = zE X 22 65 [l0, l1, l2, l3, l4, l5, l6] [.int (-4)] (N, 0, 0) h Q := zE_bipush (n := -4) (by decide +kernel) (by decide)
theorem e22_65 : zE X 22 65 [l0, l1, l2, l3, l4, l5, l6] [.int i0] (N, 0, 0) h Q = Q (some (.int i0)) N h := zE_ireturn (by decide +kernel) rfl
theorem e22_66 : zE X 22 66 [some (.ref r), l1, l2, l3, l4, l5, l6] [] (N, 0, 0) h Q = zE X 22 67 [some (.ref r), l1, l2, l3, l4, l5, l6] [.ref r] (N, 0, 0) h Q := zE_aload_n (k := 0) (by decide +kernel) rfl
theorem e22_67 : zE X 22 67 [l0, l1, l2, some (.int v), l4, l5, l6] [.ref a0] (N, 0, 0) h Q = zE X 22 68 [l0, l1, l2, some (.int v), l4, l5, l6] [.int v, .ref a0] (N, 0, 0) h Q := zE_iload_n (k := 3) (by decide +kernel) rfl
theorem e22_68 : zE X 22 68 [l0, l1, l2, l3, l4, l5, l6] [.int i0, .ref a1] (N, 0, 0) h Q = zrc (h a1) 1 (zE X 23 0 [some (.ref a1), some (.int i0)] [] (N, 0, 0) h (fun v N' h' => zE X 22 71 [l0, l1, l2, l3, l4, l5, l6] (v.toList ++ []) (N', 0, 0) h' Q)) := zE_invv (k := 47) (z := 23) (nest := false) (q := 456) (as := [.int i0]) (by decide +kernel) rfl rfl (by decide +kernel) rfl rfl rfl rfl ⟨rfl, rfl⟩ rfl ⟨Nat.zero_le _, Nat.zero_le _⟩
theorem e22_71 : zE X 22 71 [l0, l1, l2, l3, some (.int v), l5, l6] [] (N, 0, 0) h Q = zE X 22 73 [l0, l1, l2, l3, some (.int v), l5, l6] [.int v] (N, 0, 0) h Q := zE_iload (k := 4) (by decide +kernel) rfl
theorem e22_73 : zE X 22 73 [l0, l1, l2, l3, l4, l5, l6] [.int i0] (N, 0, 0) h Q = Q (some (.int i0)) N h := zE_ireturn (by decide +kernel) rfl
-- 23 ItemReader_addNumber (I)V
theorem e23_0 : zE X 23 0 [some (.ref r), l1] [] (N, 0, 0) h Q = zE X 23 1 [some (.ref r), l1] [.ref r] (N, 0, 0) h Q := zE_aload_n (k := 0) (by decide +kernel) rfl
theorem e23_1 : zE X 23 1 [l0, l1] [.ref a0] (N, 0, 0) h Q = zgf (h a0) 1 1 (fun v => zE X 23 4 [l0, l1] [v] (N, 0, 0) h Q) := zE_getfield (k := 37) (nest := false) (q := 129) (by decide +kernel) rfl
theorem e23_4 : zE X 23 4 [l0, l1] [.int i0] (N, 0, 0) h Q = if i0 = 0 then zE X 23 7 [l0, l1] [] (N, 0, 0) h Q else zE X 23 15 [l0, l1] [] (N, 0, 0) h Q := zE_if_ne (off := 11) (by decide +kernel) (by decide)
theorem e23_7 : zE X 23 7 [some (.ref r), l1] [] (N, 0, 0) h Q = zE X 23 8 [some (.ref r), l1] [.ref r] (N, 0, 0) h Q := zE_aload_n (k := 0) (by decide +kernel) rfl
theorem e23_8 : zE X 23 8 [l0, some (.int v)] [.ref a0] (N, 0, 0) h Q = zE X 23 9 [l0, some (.int v)] [.int v, .ref a0] (N, 0, 0) h Q := zE_iload_n (k := 1) (by decide +kernel) rfl
theorem e23_9 : zE X 23 9 [l0, l1] [.int i0, .ref a1] (N, 0, 0) h Q = zpf (h a1) 1 2 (.int i0) (fun c => zE X 23 12 [l0, l1] [] (N, 0, 0) (va_up h a1 c) Q) := zE_putfield (k := 51) (nest := false) (q := 132) (by decide +kernel) rfl rfl rfl
theorem e23_12 : zE X 23 12 [l0, l1] [] (N, 0, 0) h Q = zE X 23 36 [l0, l1] [] (N, 0, 0) h Q := zE_goto (off := 24) (by decide +kernel) (by decide)
theorem e23_15 : zE X 23 15 [some (.ref r), l1] [] (N, 0, 0) h Q = zE X 23 16 [some (.ref r), l1] [.ref r] (N, 0, 0) h Q := zE_aload_n (k := 0) (by decide +kernel) rfl
theorem e23_16 : zE X 23 16 [l0, l1] [.ref a0] (N, 0, 0) h Q = zgf (h a0) 1 1 (fun v => zE X 23 19 [l0, l1] [v] (N, 0, 0) h Q) := zE_getfield (k := 37) (nest := false) (q := 129) (by decide +kernel) rfl
theorem e23_19 : zE X 23 19 [l0, l1] [.int i0] (N, 0, 0) h Q = zE X 23 20 [l0, l1] [.int 1, .int i0] (N, 0, 0) h Q := zE_iconst (n := 1) (by decide +kernel) (by decide)
theorem e23_20 : zE X 23 20 [l0, l1] [.int i0, .int i1] (N, 0, 0) h Q = if i1 = i0 then zE X 23 23 [l0, l1] [] (N, 0, 0) h Q else zE X 23 31 [l0, l1] [] (N, 0, 0) h Q := zE_icmp_ne (off := 11) (by decide +kernel) (by decide)
theorem e23_23 : zE X 23 23 [some (.ref r), l1] [] (N, 0, 0) h Q = zE X 23 24 [some (.ref r), l1] [.ref r] (N, 0, 0) h Q := zE_aload_n (k := 0) (by decide +kernel) rfl
theorem e23_24 : zE X 23 24 [l0, some (.int v)] [.ref a0] (N, 0, 0) h Q = zE X 23 25 [l0, some (.int v)] [.int v, .ref a0] (N, 0, 0) h Q := zE_iload_n (k := 1) (by decide +kernel) rfl
theorem e23_25 : zE X 23 25 [l0, l1] [.int i0, .ref a1] (N, 0, 0) h Q = zpf (h a1) 1 3 (.int i0) (fun c => zE X 23 28 [l0, l1] [] (N, 0, 0) (va_up h a1 c) Q) := zE_putfield (k := 54) (nest := false) (q := 134) (by decide +kernel) rfl rfl rfl
theorem e23_28 : zE X 23 28 [l0, l1] [] (N, 0, 0) h Q = zE X 23 36 [l0, l1] [] (N, 0, 0) h Q := zE_goto (off := 8) (by decide +kernel) (by decide)
theorem e23_31 : zE X 23 31 [some (.ref r), l1] [] (N, 0, 0) h Q = zE X 23 32 [some (.ref r), l1] [.ref r] (N, 0, 0) h Q := zE_aload_n (k := 0) (by decide +kernel) rfl
theorem e23_32 : zE X 23 32 [l0, some (.int v)] [.ref a0] (N, 0, 0) h Q = zE X 23 33 [l0, some (.int v)] [.int v, .ref a0] (N, 0, 0) h Q := zE_iload_n (k := 1) (by decide +kernel) rfl
theorem e23_33 : zE X 23 33 [l0, l1] [.int i0, .ref a1] (N, 0, 0) h Q = zpf (h a1) 1 4 (.int i0) (fun c => zE X 23 36 [l0, l1] [] (N, 0, 0) (va_up h a1 c) Q) := zE_putfield (k := 57) (nest := false) (q := 136) (by decide +kernel) rfl rfl rfl
theorem e23_36 : zE X 23 36 [some (.ref r), l1] [] (N, 0, 0) h Q = zE X 23 37 [some (.ref r), l1] [.ref r] (N, 0, 0) h Q := zE_aload_n (k := 0) (by decide +kernel) rfl
theorem e23_37 : zE X 23 37 [l0, l1] [.ref a0] (N, 0, 0) h Q = zE X 23 38 [l0, l1] [.ref a0, .ref a0] (N, 0, 0) h Q := zE_dup (by decide +kernel) rfl
theorem e23_38 : zE X 23 38 [l0, l1] [.ref a0, .ref a1] (N, 0, 0) h Q = zgf (h a0) 1 1 (fun v => zE X 23 41 [l0, l1] [v, .ref a1] (N, 0, 0) h Q) := zE_getfield (k := 37) (nest := false) (q := 129) (by decide +kernel) rfl
theorem e23_41 : zE X 23 41 [l0, l1] [.int i0, .ref a1] (N, 0, 0) h Q = zE X 23 42 [l0, l1] [.int 1, .int i0, .ref a1] (N, 0, 0) h Q := zE_iconst (n := 1) (by decide +kernel) (by decide)
theorem e23_42 : zE X 23 42 [l0, l1] [.int i0, .int i1, .ref a2] (N, 0, 0) h Q = zE X 23 43 [l0, l1] [.int (i1 + i0), .ref a2] (N, 0, 0) h Q := zE_iadd (by decide +kernel)
theorem e23_43 : zE X 23 43 [l0, l1] [.int i0, .ref a1] (N, 0, 0) h Q = zpf (h a1) 1 1 (.int i0) (fun c => zE X 23 46 [l0, l1] [] (N, 0, 0) (va_up h a1 c) Q) := zE_putfield (k := 37) (nest := false) (q := 129) (by decide +kernel) rfl rfl rfl
theorem e23_46 : zE X 23 46 [l0, l1] [] (N, 0, 0) h Q = Q none N h := zE_return (by decide +kernel) rfl
-- 24 Sheet_take (LPursesByLot$ItemReader;)Z
theorem e24_0 : zE X 24 0 [l0, some (.ref r)] [] (N, 0, 0) h Q = zE X 24 1 [l0, some (.ref r)] [.ref r] (N, 0, 0) h Q := zE_aload_n (k := 1) (by decide +kernel) rfl
theorem e24_1 : zE X 24 1 [l0, l1] [.ref a0] (N, 0, 0) h Q = zgf (h a0) 1 0 (fun v => zE X 24 4 [l0, l1] [v] (N, 0, 0) h Q) := zE_getfield (k := 67) (nest := true) (q := 127) (by decide +kernel) rfl
theorem e24_104 : zE X 24 104 [l0, some (.ref r)] [] (N, 0, 0) h Q = zE X 24 105 [l0, some (.ref r)] [.ref r] (N, 0, 0) h Q := zE_aload_n (k := 1) (by decide +kernel) rfl
theorem e24_105 : zE X 24 105 [l0, l1] [.ref a0] (N, 0, 0) h Q = zgf (h a0) 1 1 (fun v => zE X 24 108 [l0, l1] [v] (N, 0, 0) h Q) := zE_getfield (k := 72) (nest := true) (q := 130) (by decide +kernel) rfl
theorem e24_108 : zE X 24 108 [l0, l1] [.int i0] (N, 0, 0) h Q = zE X 24 109 [l0, l1] [.int 3, .int i0] (N, 0, 0) h Q := zE_iconst (n := 3) (by decide +kernel) (by decide)
theorem e24_109 : zE X 24 109 [l0, l1] [.int i0, .int i1] (N, 0, 0) h Q = if i1 = i0 then zE X 24 112 [l0, l1] [] (N, 0, 0) h Q else zE X 24 135 [l0, l1] [] (N, 0, 0) h Q := zE_icmp_ne (off := 26) (by decide +kernel) (by decide)
theorem e24_112 : zE X 24 112 [some (.ref r), l1] [] (N, 0, 0) h Q = zE X 24 113 [some (.ref r), l1] [.ref r] (N, 0, 0) h Q := zE_aload_n (k := 0) (by decide +kernel) rfl
theorem e24_113 : zE X 24 113 [l0, some (.ref r)] [.ref a0] (N, 0, 0) h Q = zE X 24 114 [l0, some (.ref r)] [.ref r, .ref a0] (N, 0, 0) h Q := zE_aload_n (k := 1) (by decide +kernel) rfl
theorem e24_114 : zE X 24 114 [l0, l1] [.ref a0, .ref a1] (N, 0, 0) h Q = zgf (h a0) 1 2 (fun v => zE X 24 117 [l0, l1] [v, .ref a1] (N, 0, 0) h Q) := zE_getfield (k := 75) (nest := true) (q := 131) (by decide +kernel) rfl
theorem e24_117 : zE X 24 117 [l0, some (.ref r)] [.int i0, .ref a1] (N, 0, 0) h Q = zE X 24 118 [l0, some (.ref r)] [.ref r, .int i0, .ref a1] (N, 0, 0) h Q := zE_aload_n (k := 1) (by decide +kernel) rfl
theorem e24_118 : zE X 24 118 [l0, l1] [.ref a0, .int i1, .ref a2] (N, 0, 0) h Q = zgf (h a0) 1 3 (fun v => zE X 24 121 [l0, l1] [v, .int i1, .ref a2] (N, 0, 0) h Q) := zE_getfield (k := 78) (nest := true) (q := 133) (by decide +kernel) rfl
theorem e24_121 : zE X 24 121 [l0, some (.ref r)] [.int i0, .int i1, .ref a2] (N, 0, 0) h Q = zE X 24 122 [l0, some (.ref r)] [.ref r, .int i0, .int i1, .ref a2] (N, 0, 0) h Q := zE_aload_n (k := 1) (by decide +kernel) rfl
theorem e24_122 : zE X 24 122 [l0, l1] [.ref a0, .int i1, .int i2, .ref a3] (N, 0, 0) h Q = zgf (h a0) 1 4 (fun v => zE X 24 125 [l0, l1] [v, .int i1, .int i2, .ref a3] (N, 0, 0) h Q) := zE_getfield (k := 81) (nest := true) (q := 135) (by decide +kernel) rfl
theorem e24_125 : zE X 24 125 [l0, l1] [.int i0, .int i1, .int i2, .ref a3] (N, 0, 0) h Q = zrc (h a3) 5 (zE X 25 0 [some (.ref a3), some (.int i2), some (.int i1), some (.int i0)] [] (N, 0, 0) h (fun v N' h' => zE X 24 128 [l0, l1] (v.toList ++ []) (N', 0, 0) h' Q)) := zE_invv (k := 84) (z := 25) (nest := false) (q := 464) (as := [.int i2, .int i1, .int i0]) (by decide +kernel) rfl rfl (by decide +kernel) rfl rfl rfl rfl ⟨rfl, rfl⟩ rfl ⟨Nat.zero_le _, Nat.zero_le _⟩
theorem e24_128 : zE X 24 128 [l0, l1] [.int i0] (N, 0, 0) h Q = if i0 = 0 then zE X 24 135 [l0, l1] [] (N, 0, 0) h Q else zE X 24 131 [l0, l1] [] (N, 0, 0) h Q := zE_if_eq (off := 7) (by decide +kernel) (by decide)
theorem e24_131 : zE X 24 131 [l0, l1] [] (N, 0, 0) h Q = zE X 24 132 [l0, l1] [.int 1] (N, 0, 0) h Q := zE_iconst (n := 1) (by decide +kernel) (by decide)
theorem e24_132 : zE X 24 132 [l0, l1] [.int i0] (N, 0, 0) h Q = zE X 24 136 [l0, l1] [.int i0] (N, 0, 0) h Q := zE_goto (off := 4) (by decide +kernel) (by decide)
theorem e24_135 : zE X 24 135 [l0, l1] [] (N, 0, 0) h Q = zE X 24 136 [l0, l1] [.int 0] (N, 0, 0) h Q := zE_iconst (n := 0) (by decide +kernel) (by decide)
theorem e24_136 : zE X 24 136 [l0, l1] [.int i0] (N, 0, 0) h Q = if i0 = 0 ∨ i0 = 1 then Q (some (.int i0)) N h else False := zE_zreturn (by decide +kernel) rfl
theorem e24_137 : zE X 24 137 [l0, some (.ref r)] [] (N, 0, 0) h Q = zE X 24 138 [l0, some (.ref r)] [.ref r] (N, 0, 0) h Q := zE_aload_n (k := 1) (by decide +kernel) rfl
theorem e24_138 : zE X 24 138 [l0, l1] [.ref a0] (N, 0, 0) h Q = zgf (h a0) 1 1 (fun v => zE X 24 141 [l0, l1] [v] (N, 0, 0) h Q) := zE_getfield (k := 72) (nest := true) (q := 130) (by decide +kernel) rfl
theorem e24_141 : zE X 24 141 [l0, l1] [.int i0] (N, 0, 0) h Q = zE X 24 142 [l0, l1] [.int 3, .int i0] (N, 0, 0) h Q := zE_iconst (n := 3) (by decide +kernel) (by decide)
theorem e24_142 : zE X 24 142 [l0, l1] [.int i0, .int i1] (N, 0, 0) h Q = if i1 = i0 then zE X 24 145 [l0, l1] [] (N, 0, 0) h Q else zE X 24 168 [l0, l1] [] (N, 0, 0) h Q := zE_icmp_ne (off := 26) (by decide +kernel) (by decide)
theorem e24_145 : zE X 24 145 [some (.ref r), l1] [] (N, 0, 0) h Q = zE X 24 146 [some (.ref r), l1] [.ref r] (N, 0, 0) h Q := zE_aload_n (k := 0) (by decide +kernel) rfl
theorem e24_146 : zE X 24 146 [l0, some (.ref r)] [.ref a0] (N, 0, 0) h Q = zE X 24 147 [l0, some (.ref r)] [.ref r, .ref a0] (N, 0, 0) h Q := zE_aload_n (k := 1) (by decide +kernel) rfl
theorem e24_147 : zE X 24 147 [l0, l1] [.ref a0, .ref a1] (N, 0, 0) h Q = zgf (h a0) 1 2 (fun v => zE X 24 150 [l0, l1] [v, .ref a1] (N, 0, 0) h Q) := zE_getfield (k := 75) (nest := true) (q := 131) (by decide +kernel) rfl
theorem e24_150 : zE X 24 150 [l0, some (.ref r)] [.int i0, .ref a1] (N, 0, 0) h Q = zE X 24 151 [l0, some (.ref r)] [.ref r, .int i0, .ref a1] (N, 0, 0) h Q := zE_aload_n (k := 1) (by decide +kernel) rfl
theorem e24_151 : zE X 24 151 [l0, l1] [.ref a0, .int i1, .ref a2] (N, 0, 0) h Q = zgf (h a0) 1 3 (fun v => zE X 24 154 [l0, l1] [v, .int i1, .ref a2] (N, 0, 0) h Q) := zE_getfield (k := 78) (nest := true) (q := 133) (by decide +kernel) rfl
theorem e24_154 : zE X 24 154 [l0, some (.ref r)] [.int i0, .int i1, .ref a2] (N, 0, 0) h Q = zE X 24 155 [l0, some (.ref r)] [.ref r, .int i0, .int i1, .ref a2] (N, 0, 0) h Q := zE_aload_n (k := 1) (by decide +kernel) rfl
theorem e24_155 : zE X 24 155 [l0, l1] [.ref a0, .int i1, .int i2, .ref a3] (N, 0, 0) h Q = zgf (h a0) 1 4 (fun v => zE X 24 158 [l0, l1] [v, .int i1, .int i2, .ref a3] (N, 0, 0) h Q) := zE_getfield (k := 81) (nest := true) (q := 135) (by decide +kernel) rfl
theorem e24_158 : zE X 24 158 [l0, l1] [.int i0, .int i1, .int i2, .ref a3] (N, 0, 0) h Q = zrc (h a3) 5 (zE X 26 0 [some (.ref a3), some (.int i2), some (.int i1), some (.int i0)] [] (N, 0, 0) h (fun v N' h' => zE X 24 161 [l0, l1] (v.toList ++ []) (N', 0, 0) h' Q)) := zE_invv (k := 88) (z := 26) (nest := false) (q := 468) (as := [.int i2, .int i1, .int i0]) (by decide +kernel) rfl rfl (by decide +kernel) rfl rfl rfl rfl ⟨rfl, rfl⟩ rfl ⟨Nat.zero_le _, Nat.zero_le _⟩
theorem e24_161 : zE X 24 161 [l0, l1] [.int i0] (N, 0, 0) h Q = if i0 = 0 then zE X 24 168 [l0, l1] [] (N, 0, 0) h Q else zE X 24 164 [l0, l1] [] (N, 0, 0) h Q := zE_if_eq (off := 7) (by decide +kernel) (by decide)
theorem e24_164 : zE X 24 164 [l0, l1] [] (N, 0, 0) h Q = zE X 24 165 [l0, l1] [.int 1] (N, 0, 0) h Q := zE_iconst (n := 1) (by decide +kernel) (by decide)
theorem e24_165 : zE X 24 165 [l0, l1] [.int i0] (N, 0, 0) h Q = zE X 24 169 [l0, l1] [.int i0] (N, 0, 0) h Q := zE_goto (off := 4) (by decide +kernel) (by decide)
theorem e24_168 : zE X 24 168 [l0, l1] [] (N, 0, 0) h Q = zE X 24 169 [l0, l1] [.int 0] (N, 0, 0) h Q := zE_iconst (n := 0) (by decide +kernel) (by decide)
theorem e24_169 : zE X 24 169 [l0, l1] [.int i0] (N, 0, 0) h Q = if i0 = 0 ∨ i0 = 1 then Q (some (.int i0)) N h else False := zE_zreturn (by decide +kernel) rfl
theorem e24_170 : zE X 24 170 [l0, some (.ref r)] [] (N, 0, 0) h Q = zE X 24 171 [l0, some (.ref r)] [.ref r] (N, 0, 0) h Q := zE_aload_n (k := 1) (by decide +kernel) rfl
theorem e24_171 : zE X 24 171 [l0, l1] [.ref a0] (N, 0, 0) h Q = zgf (h a0) 1 1 (fun v => zE X 24 174 [l0, l1] [v] (N, 0, 0) h Q) := zE_getfield (k := 72) (nest := true) (q := 130) (by decide +kernel) rfl
theorem e24_174 : zE X 24 174 [l0, l1] [.int i0] (N, 0, 0) h Q = zE X 24 175 [l0, l1] [.int 3, .int i0] (N, 0, 0) h Q := zE_iconst (n := 3) (by decide +kernel) (by decide)
theorem e24_175 : zE X 24 175 [l0, l1] [.int i0, .int i1] (N, 0, 0) h Q = if i1 = i0 then zE X 24 178 [l0, l1] [] (N, 0, 0) h Q else zE X 24 201 [l0, l1] [] (N, 0, 0) h Q := zE_icmp_ne (off := 26) (by decide +kernel) (by decide)
theorem e24_178 : zE X 24 178 [some (.ref r), l1] [] (N, 0, 0) h Q = zE X 24 179 [some (.ref r), l1] [.ref r] (N, 0, 0) h Q := zE_aload_n (k := 0) (by decide +kernel) rfl
theorem e24_179 : zE X 24 179 [l0, some (.ref r)] [.ref a0] (N, 0, 0) h Q = zE X 24 180 [l0, some (.ref r)] [.ref r, .ref a0] (N, 0, 0) h Q := zE_aload_n (k := 1) (by decide +kernel) rfl
theorem e24_180 : zE X 24 180 [l0, l1] [.ref a0, .ref a1] (N, 0, 0) h Q = zgf (h a0) 1 2 (fun v => zE X 24 183 [l0, l1] [v, .ref a1] (N, 0, 0) h Q) := zE_getfield (k := 75) (nest := true) (q := 131) (by decide +kernel) rfl
theorem e24_183 : zE X 24 183 [l0, some (.ref r)] [.int i0, .ref a1] (N, 0, 0) h Q = zE X 24 184 [l0, some (.ref r)] [.ref r, .int i0, .ref a1] (N, 0, 0) h Q := zE_aload_n (k := 1) (by decide +kernel) rfl
theorem e24_184 : zE X 24 184 [l0, l1] [.ref a0, .int i1, .ref a2] (N, 0, 0) h Q = zgf (h a0) 1 3 (fun v => zE X 24 187 [l0, l1] [v, .int i1, .ref a2] (N, 0, 0) h Q) := zE_getfield (k := 78) (nest := true) (q := 133) (by decide +kernel) rfl
theorem e24_187 : zE X 24 187 [l0, some (.ref r)] [.int i0, .int i1, .ref a2] (N, 0, 0) h Q = zE X 24 188 [l0, some (.ref r)] [.ref r, .int i0, .int i1, .ref a2] (N, 0, 0) h Q := zE_aload_n (k := 1) (by decide +kernel) rfl
theorem e24_188 : zE X 24 188 [l0, l1] [.ref a0, .int i1, .int i2, .ref a3] (N, 0, 0) h Q = zgf (h a0) 1 4 (fun v => zE X 24 191 [l0, l1] [v, .int i1, .int i2, .ref a3] (N, 0, 0) h Q) := zE_getfield (k := 81) (nest := true) (q := 135) (by decide +kernel) rfl
theorem e24_191 : zE X 24 191 [l0, l1] [.int i0, .int i1, .int i2, .ref a3] (N, 0, 0) h Q = zrc (h a3) 5 (zE X 27 0 [some (.ref a3), some (.int i2), some (.int i1), some (.int i0)] [] (N, 0, 0) h (fun v N' h' => zE X 24 194 [l0, l1] (v.toList ++ []) (N', 0, 0) h' Q)) := zE_invv (k := 91) (z := 27) (nest := false) (q := 472) (as := [.int i2, .int i1, .int i0]) (by decide +kernel) rfl rfl (by decide +kernel) rfl rfl rfl rfl ⟨rfl, rfl⟩ rfl ⟨Nat.zero_le _, Nat.zero_le _⟩
theorem e24_194 : zE X 24 194 [l0, l1] [.int i0] (N, 0, 0) h Q = if i0 = 0 then zE X 24 201 [l0, l1] [] (N, 0, 0) h Q else zE X 24 197 [l0, l1] [] (N, 0, 0) h Q := zE_if_eq (off := 7) (by decide +kernel) (by decide)
theorem e24_197 : zE X 24 197 [l0, l1] [] (N, 0, 0) h Q = zE X 24 198 [l0, l1] [.int 1] (N, 0, 0) h Q := zE_iconst (n := 1) (by decide +kernel) (by decide)
theorem e24_198 : zE X 24 198 [l0, l1] [.int i0] (N, 0, 0) h Q = zE X 24 202 [l0, l1] [.int i0] (N, 0, 0) h Q := zE_goto (off := 4) (by decide +kernel) (by decide)
theorem e24_201 : zE X 24 201 [l0, l1] [] (N, 0, 0) h Q = zE X 24 202 [l0, l1] [.int 0] (N, 0, 0) h Q := zE_iconst (n := 0) (by decide +kernel) (by decide)
theorem e24_202 : zE X 24 202 [l0, l1] [.int i0] (N, 0, 0) h Q = if i0 = 0 ∨ i0 = 1 then Q (some (.int i0)) N h else False := zE_zreturn (by decide +kernel) rfl
theorem e24_203 : zE X 24 203 [l0, some (.ref r)] [] (N, 0, 0) h Q = zE X 24 204 [l0, some (.ref r)] [.ref r] (N, 0, 0) h Q := zE_aload_n (k := 1) (by decide +kernel) rfl
theorem e24_204 : zE X 24 204 [l0, l1] [.ref a0] (N, 0, 0) h Q = zgf (h a0) 1 1 (fun v => zE X 24 207 [l0, l1] [v] (N, 0, 0) h Q) := zE_getfield (k := 72) (nest := true) (q := 130) (by decide +kernel) rfl
theorem e24_207 : zE X 24 207 [l0, l1] [.int i0] (N, 0, 0) h Q = zE X 24 208 [l0, l1] [.int 1, .int i0] (N, 0, 0) h Q := zE_iconst (n := 1) (by decide +kernel) (by decide)
theorem e24_208 : zE X 24 208 [l0, l1] [.int i0, .int i1] (N, 0, 0) h Q = if i1 = i0 then zE X 24 211 [l0, l1] [] (N, 0, 0) h Q else zE X 24 226 [l0, l1] [] (N, 0, 0) h Q := zE_icmp_ne (off := 18) (by decide +kernel) (by decide)
theorem e24_211 : zE X 24 211 [some (.ref r), l1] [] (N, 0, 0) h Q = zE X 24 212 [some (.ref r), l1] [.ref r] (N, 0, 0) h Q := zE_aload_n (k := 0) (by decide +kernel) rfl
theorem e24_212 : zE X 24 212 [l0, some (.ref r)] [.ref a0] (N, 0, 0) h Q = zE X 24 213 [l0, some (.ref r)] [.ref r, .ref a0] (N, 0, 0) h Q := zE_aload_n (k := 1) (by decide +kernel) rfl
theorem e24_213 : zE X 24 213 [l0, l1] [.ref a0, .ref a1] (N, 0, 0) h Q = zgf (h a0) 1 2 (fun v => zE X 24 216 [l0, l1] [v, .ref a1] (N, 0, 0) h Q) := zE_getfield (k := 75) (nest := true) (q := 131) (by decide +kernel) rfl
theorem e24_216 : zE X 24 216 [l0, l1] [.int i0, .ref a1] (N, 0, 0) h Q = zrc (h a1) 5 (zE X 28 0 [some (.ref a1), some (.int i0)] [] (N, 0, 0) h (fun v N' h' => zE X 24 219 [l0, l1] (v.toList ++ []) (N', 0, 0) h' Q)) := zE_invv (k := 94) (z := 28) (nest := false) (q := 476) (as := [.int i0]) (by decide +kernel) rfl rfl (by decide +kernel) rfl rfl rfl rfl ⟨rfl, rfl⟩ rfl ⟨Nat.zero_le _, Nat.zero_le _⟩
theorem e24_219 : zE X 24 219 [l0, l1] [.int i0] (N, 0, 0) h Q = if i0 = 0 then zE X 24 226 [l0, l1] [] (N, 0, 0) h Q else zE X 24 222 [l0, l1] [] (N, 0, 0) h Q := zE_if_eq (off := 7) (by decide +kernel) (by decide)
theorem e24_222 : zE X 24 222 [l0, l1] [] (N, 0, 0) h Q = zE X 24 223 [l0, l1] [.int 1] (N, 0, 0) h Q := zE_iconst (n := 1) (by decide +kernel) (by decide)
theorem e24_223 : zE X 24 223 [l0, l1] [.int i0] (N, 0, 0) h Q = zE X 24 227 [l0, l1] [.int i0] (N, 0, 0) h Q := zE_goto (off := 4) (by decide +kernel) (by decide)
theorem e24_226 : zE X 24 226 [l0, l1] [] (N, 0, 0) h Q = zE X 24 227 [l0, l1] [.int 0] (N, 0, 0) h Q := zE_iconst (n := 0) (by decide +kernel) (by decide)
theorem e24_227 : zE X 24 227 [l0, l1] [.int i0] (N, 0, 0) h Q = if i0 = 0 ∨ i0 = 1 then Q (some (.int i0)) N h else False := zE_zreturn (by decide +kernel) rfl
theorem e24_228 : zE X 24 228 [l0, some (.ref r)] [] (N, 0, 0) h Q = zE X 24 229 [l0, some (.ref r)] [.ref r] (N, 0, 0) h Q := zE_aload_n (k := 1) (by decide +kernel) rfl
theorem e24_229 : zE X 24 229 [l0, l1] [.ref a0] (N, 0, 0) h Q = zgf (h a0) 1 1 (fun v => zE X 24 232 [l0, l1] [v] (N, 0, 0) h Q) := zE_getfield (k := 72) (nest := true) (q := 130) (by decide +kernel) rfl
theorem e24_232 : zE X 24 232 [l0, l1] [.int i0] (N, 0, 0) h Q = zE X 24 233 [l0, l1] [.int 2, .int i0] (N, 0, 0) h Q := zE_iconst (n := 2) (by decide +kernel) (by decide)
theorem e24_233 : zE X 24 233 [l0, l1] [.int i0, .int i1] (N, 0, 0) h Q = if i1 = i0 then zE X 24 236 [l0, l1] [] (N, 0, 0) h Q else zE X 24 255 [l0, l1] [] (N, 0, 0) h Q := zE_icmp_ne (off := 22) (by decide +kernel) (by decide)
theorem e24_236 : zE X 24 236 [some (.ref r), l1] [] (N, 0, 0) h Q = zE X 24 237 [some (.ref r), l1] [.ref r] (N, 0, 0) h Q := zE_aload_n (k := 0) (by decide +kernel) rfl
theorem e24_237 : zE X 24 237 [l0, some (.ref r)] [.ref a0] (N, 0, 0) h Q = zE X 24 238 [l0, some (.ref r)] [.ref r, .ref a0] (N, 0, 0) h Q := zE_aload_n (k := 1) (by decide +kernel) rfl
theorem e24_238 : zE X 24 238 [l0, l1] [.ref a0, .ref a1] (N, 0, 0) h Q = zgf (h a0) 1 2 (fun v => zE X 24 241 [l0, l1] [v, .ref a1] (N, 0, 0) h Q) := zE_getfield (k := 75) (nest := true) (q := 131) (by decide +kernel) rfl
theorem e24_241 : zE X 24 241 [l0, some (.ref r)] [.int i0, .ref a1] (N, 0, 0) h Q = zE X 24 242 [l0, some (.ref r)] [.ref r, .int i0, .ref a1] (N, 0, 0) h Q := zE_aload_n (k := 1) (by decide +kernel) rfl
theorem e24_242 : zE X 24 242 [l0, l1] [.ref a0, .int i1, .ref a2] (N, 0, 0) h Q = zgf (h a0) 1 3 (fun v => zE X 24 245 [l0, l1] [v, .int i1, .ref a2] (N, 0, 0) h Q) := zE_getfield (k := 78) (nest := true) (q := 133) (by decide +kernel) rfl
theorem e24_245 : zE X 24 245 [l0, l1] [.int i0, .int i1, .ref a2] (N, 0, 0) h Q = zrc (h a2) 5 (zE X 29 0 [some (.ref a2), some (.int i1), some (.int i0)] [] (N, 0, 0) h (fun v N' h' => zE X 24 248 [l0, l1] (v.toList ++ []) (N', 0, 0) h' Q)) := zE_invv (k := 98) (z := 29) (nest := false) (q := 480) (as := [.int i1, .int i0]) (by decide +kernel) rfl rfl (by decide +kernel) rfl rfl rfl rfl ⟨rfl, rfl⟩ rfl ⟨Nat.zero_le _, Nat.zero_le _⟩
theorem e24_248 : zE X 24 248 [l0, l1] [.int i0] (N, 0, 0) h Q = if i0 = 0 then zE X 24 255 [l0, l1] [] (N, 0, 0) h Q else zE X 24 251 [l0, l1] [] (N, 0, 0) h Q := zE_if_eq (off := 7) (by decide +kernel) (by decide)
theorem e24_251 : zE X 24 251 [l0, l1] [] (N, 0, 0) h Q = zE X 24 252 [l0, l1] [.int 1] (N, 0, 0) h Q := zE_iconst (n := 1) (by decide +kernel) (by decide)
theorem e24_252 : zE X 24 252 [l0, l1] [.int i0] (N, 0, 0) h Q = zE X 24 256 [l0, l1] [.int i0] (N, 0, 0) h Q := zE_goto (off := 4) (by decide +kernel) (by decide)
theorem e24_255 : zE X 24 255 [l0, l1] [] (N, 0, 0) h Q = zE X 24 256 [l0, l1] [.int 0] (N, 0, 0) h Q := zE_iconst (n := 0) (by decide +kernel) (by decide)
theorem e24_256 : zE X 24 256 [l0, l1] [.int i0] (N, 0, 0) h Q = if i0 = 0 ∨ i0 = 1 then Q (some (.int i0)) N h else False := zE_zreturn (by decide +kernel) rfl
theorem e24_257 : zE X 24 257 [l0, some (.ref r)] [] (N, 0, 0) h Q = zE X 24 258 [l0, some (.ref r)] [.ref r] (N, 0, 0) h Q := zE_aload_n (k := 1) (by decide +kernel) rfl
theorem e24_258 : zE X 24 258 [l0, l1] [.ref a0] (N, 0, 0) h Q = zgf (h a0) 1 1 (fun v => zE X 24 261 [l0, l1] [v] (N, 0, 0) h Q) := zE_getfield (k := 72) (nest := true) (q := 130) (by decide +kernel) rfl
theorem e24_261 : zE X 24 261 [l0, l1] [.int i0] (N, 0, 0) h Q = zE X 24 262 [l0, l1] [.int 2, .int i0] (N, 0, 0) h Q := zE_iconst (n := 2) (by decide +kernel) (by decide)
theorem e24_262 : zE X 24 262 [l0, l1] [.int i0, .int i1] (N, 0, 0) h Q = if i1 = i0 then zE X 24 265 [l0, l1] [] (N, 0, 0) h Q else zE X 24 284 [l0, l1] [] (N, 0, 0) h Q := zE_icmp_ne (off := 22) (by decide +kernel) (by decide)
theorem e24_265 : zE X 24 265 [some (.ref r), l1] [] (N, 0, 0) h Q = zE X 24 266 [some (.ref r), l1] [.ref r] (N, 0, 0) h Q := zE_aload_n (k := 0) (by decide +kernel) rfl
theorem e24_266 : zE X 24 266 [l0, some (.ref r)] [.ref a0] (N, 0, 0) h Q = zE X 24 267 [l0, some (.ref r)] [.ref r, .ref a0] (N, 0, 0) h Q := zE_aload_n (k := 1) (by decide +kernel) rfl
theorem e24_267 : zE X 24 267 [l0, l1] [.ref a0, .ref a1] (N, 0, 0) h Q = zgf (h a0) 1 2 (fun v => zE X 24 270 [l0, l1] [v, .ref a1] (N, 0, 0) h Q) := zE_getfield (k := 75) (nest := true) (q := 131) (by decide +kernel) rfl
theorem e24_270 : zE X 24 270 [l0, some (.ref r)] [.int i0, .ref a1] (N, 0, 0) h Q = zE X 24 271 [l0, some (.ref r)] [.ref r, .int i0, .ref a1] (N, 0, 0) h Q := zE_aload_n (k := 1) (by decide +kernel) rfl
theorem e24_271 : zE X 24 271 [l0, l1] [.ref a0, .int i1, .ref a2] (N, 0, 0) h Q = zgf (h a0) 1 3 (fun v => zE X 24 274 [l0, l1] [v, .int i1, .ref a2] (N, 0, 0) h Q) := zE_getfield (k := 78) (nest := true) (q := 133) (by decide +kernel) rfl
theorem e24_274 : zE X 24 274 [l0, l1] [.int i0, .int i1, .ref a2] (N, 0, 0) h Q = zrc (h a2) 5 (zE X 30 0 [some (.ref a2), some (.int i1), some (.int i0)] [] (N, 0, 0) h (fun v N' h' => zE X 24 277 [l0, l1] (v.toList ++ []) (N', 0, 0) h' Q)) := zE_invv (k := 102) (z := 30) (nest := false) (q := 484) (as := [.int i1, .int i0]) (by decide +kernel) rfl rfl (by decide +kernel) rfl rfl rfl rfl ⟨rfl, rfl⟩ rfl ⟨Nat.zero_le _, Nat.zero_le _⟩
theorem e24_277 : zE X 24 277 [l0, l1] [.int i0] (N, 0, 0) h Q = if i0 = 0 then zE X 24 284 [l0, l1] [] (N, 0, 0) h Q else zE X 24 280 [l0, l1] [] (N, 0, 0) h Q := zE_if_eq (off := 7) (by decide +kernel) (by decide)
theorem e24_280 : zE X 24 280 [l0, l1] [] (N, 0, 0) h Q = zE X 24 281 [l0, l1] [.int 1] (N, 0, 0) h Q := zE_iconst (n := 1) (by decide +kernel) (by decide)
theorem e24_281 : zE X 24 281 [l0, l1] [.int i0] (N, 0, 0) h Q = zE X 24 285 [l0, l1] [.int i0] (N, 0, 0) h Q := zE_goto (off := 4) (by decide +kernel) (by decide)
theorem e24_284 : zE X 24 284 [l0, l1] [] (N, 0, 0) h Q = zE X 24 285 [l0, l1] [.int 0] (N, 0, 0) h Q := zE_iconst (n := 0) (by decide +kernel) (by decide)
theorem e24_285 : zE X 24 285 [l0, l1] [.int i0] (N, 0, 0) h Q = if i0 = 0 ∨ i0 = 1 then Q (some (.int i0)) N h else False := zE_zreturn (by decide +kernel) rfl
theorem e24_286 : zE X 24 286 [l0, some (.ref r)] [] (N, 0, 0) h Q = zE X 24 287 [l0, some (.ref r)] [.ref r] (N, 0, 0) h Q := zE_aload_n (k := 1) (by decide +kernel) rfl
theorem e24_287 : zE X 24 287 [l0, l1] [.ref a0] (N, 0, 0) h Q = zgf (h a0) 1 1 (fun v => zE X 24 290 [l0, l1] [v] (N, 0, 0) h Q) := zE_getfield (k := 72) (nest := true) (q := 130) (by decide +kernel) rfl
theorem e24_290 : zE X 24 290 [l0, l1] [.int i0] (N, 0, 0) h Q = zE X 24 291 [l0, l1] [.int 1, .int i0] (N, 0, 0) h Q := zE_iconst (n := 1) (by decide +kernel) (by decide)
theorem e24_291 : zE X 24 291 [l0, l1] [.int i0, .int i1] (N, 0, 0) h Q = if i1 = i0 then zE X 24 294 [l0, l1] [] (N, 0, 0) h Q else zE X 24 309 [l0, l1] [] (N, 0, 0) h Q := zE_icmp_ne (off := 18) (by decide +kernel) (by decide)
theorem e24_294 : zE X 24 294 [some (.ref r), l1] [] (N, 0, 0) h Q = zE X 24 295 [some (.ref r), l1] [.ref r] (N, 0, 0) h Q := zE_aload_n (k := 0) (by decide +kernel) rfl
theorem e24_295 : zE X 24 295 [l0, some (.ref r)] [.ref a0] (N, 0, 0) h Q = zE X 24 296 [l0, some (.ref r)] [.ref r, .ref a0] (N, 0, 0) h Q := zE_aload_n (k := 1) (by decide +kernel) rfl
theorem e24_296 : zE X 24 296 [l0, l1] [.ref a0, .ref a1] (N, 0, 0) h Q = zgf (h a0) 1 2 (fun v => zE X 24 299 [l0, l1] [v, .ref a1] (N, 0, 0) h Q) := zE_getfield (k := 75) (nest := true) (q := 131) (by decide +kernel) rfl
theorem e24_299 : zE X 24 299 [l0, l1] [.int i0, .ref a1] (N, 0, 0) h Q = zrc (h a1) 5 (zE X 31 0 [some (.ref a1), some (.int i0)] [] (N, 0, 0) h (fun v N' h' => zE X 24 302 [l0, l1] (v.toList ++ []) (N', 0, 0) h' Q)) := zE_invv (k := 105) (z := 31) (nest := false) (q := 488) (as := [.int i0]) (by decide +kernel) rfl rfl (by decide +kernel) rfl rfl rfl rfl ⟨rfl, rfl⟩ rfl ⟨Nat.zero_le _, Nat.zero_le _⟩
theorem e24_302 : zE X 24 302 [l0, l1] [.int i0] (N, 0, 0) h Q = if i0 = 0 then zE X 24 309 [l0, l1] [] (N, 0, 0) h Q else zE X 24 305 [l0, l1] [] (N, 0, 0) h Q := zE_if_eq (off := 7) (by decide +kernel) (by decide)
theorem e24_305 : zE X 24 305 [l0, l1] [] (N, 0, 0) h Q = zE X 24 306 [l0, l1] [.int 1] (N, 0, 0) h Q := zE_iconst (n := 1) (by decide +kernel) (by decide)
theorem e24_306 : zE X 24 306 [l0, l1] [.int i0] (N, 0, 0) h Q = zE X 24 310 [l0, l1] [.int i0] (N, 0, 0) h Q := zE_goto (off := 4) (by decide +kernel) (by decide)
theorem e24_309 : zE X 24 309 [l0, l1] [] (N, 0, 0) h Q = zE X 24 310 [l0, l1] [.int 0] (N, 0, 0) h Q := zE_iconst (n := 0) (by decide +kernel) (by decide)
theorem e24_310 : zE X 24 310 [l0, l1] [.int i0] (N, 0, 0) h Q = if i0 = 0 ∨ i0 = 1 then Q (some (.int i0)) N h else False := zE_zreturn (by decide +kernel) rfl
theorem e24_311 : zE X 24 311 [l0, l1] [] (N, 0, 0) h Q = zE X 24 312 [l0, l1] [.int 0] (N, 0, 0) h Q := zE_iconst (n := 0) (by decide +kernel) (by decide)
theorem e24_312 : zE X 24 312 [l0, l1] [.int i0] (N, 0, 0) h Q = if i0 = 0 ∨ i0 = 1 then Q (some (.int i0)) N h else False := zE_zreturn (by decide +kernel) rfl
-- 25 Sheet_takePlan (III)Z
theorem e25_0 : zE X 25 0 [some (.ref r), l1, l2, l3] [] (N, 0, 0) h Q = zE X 25 1 [some (.ref r), l1, l2, l3] [.ref r] (N, 0, 0) h Q := zE_aload_n (k := 0) (by decide +kernel) rfl
theorem e25_1 : zE X 25 1 [l0, l1, l2, l3] [.ref a0] (N, 0, 0) h Q = zgf (h a0) 5 0 (fun v => zE X 25 4 [l0, l1, l2, l3] [v] (N, 0, 0) h Q) := zE_getfield (k := 37) (nest := false) (q := 154) (by decide +kernel) rfl
theorem e25_4 : zE X 25 4 [l0, l1, l2, l3] [.int i0] (N, 0, 0) h Q = zE X 25 6 [l0, l1, l2, l3] [.int 24, .int i0] (N, 0, 0) h Q := zE_bipush (n := 24) (by decide +kernel) (by decide)
theorem e25_6 : zE X 25 6 [l0, l1, l2, l3] [.int i0, .int i1] (N, 0, 0) h Q = if i0 ≤ i1 then zE X 25 28 [l0, l1, l2, l3] [] (N, 0, 0) h Q else zE X 25 9 [l0, l1, l2, l3] [] (N, 0, 0) h Q := zE_icmp_ge (off := 22) (by decide +kernel) (by decide)
theorem e25_9 : zE X 25 9 [l0, some (.int v), l2, l3] [] (N, 0, 0) h Q = zE X 25 10 [l0, some (.int v), l2, l3] [.int v] (N, 0, 0) h Q := zE_iload_n (k := 1) (by decide +kernel) rfl
theorem e25_10 : zE X 25 10 [l0, l1, l2, l3] [.int i0] (N, 0, 0) h Q = zE X 25 13 [l0, l1, l2, l3] [.int 999, .int i0] (N, 0, 0) h Q := zE_sipush (n := 999) (by decide +kernel) (by decide)
theorem e25_13 : zE X 25 13 [l0, l1, l2, l3] [.int i0, .int i1] (N, 0, 0) h Q = if i0 < i1 then zE X 25 28 [l0, l1, l2, l3] [] (N, 0, 0) h Q else zE X 25 16 [l0, l1, l2, l3] [] (N, 0, 0) h Q := zE_icmp_gt (off := 15) (by decide +kernel) (by decide)
theorem e25_16 : zE X 25 16 [l0, l1, some (.int v), l3] [] (N, 0, 0) h Q = zE X 25 17 [l0, l1, some (.int v), l3] [.int v] (N, 0, 0) h Q := zE_iload_n (k := 2) (by decide +kernel) rfl
theorem e25_17 : zE X 25 17 [l0, l1, l2, l3] [.int i0] (N, 0, 0) h Q = zE X 25 19 [l0, l1, l2, l3] [.int 99, .int i0] (N, 0, 0) h Q := zE_bipush (n := 99) (by decide +kernel) (by decide)
theorem e25_19 : zE X 25 19 [l0, l1, l2, l3] [.int i0, .int i1] (N, 0, 0) h Q = if i0 < i1 then zE X 25 28 [l0, l1, l2, l3] [] (N, 0, 0) h Q else zE X 25 22 [l0, l1, l2, l3] [] (N, 0, 0) h Q := zE_icmp_gt (off := 9) (by decide +kernel) (by decide)
theorem e25_22 : zE X 25 22 [l0, l1, l2, some (.int v)] [] (N, 0, 0) h Q = zE X 25 23 [l0, l1, l2, some (.int v)] [.int v] (N, 0, 0) h Q := zE_iload_n (k := 3) (by decide +kernel) rfl
theorem e25_23 : zE X 25 23 [l0, l1, l2, l3] [.int i0] (N, 0, 0) h Q = zE X 25 25 [l0, l1, l2, l3] [.int 8, .int i0] (N, 0, 0) h Q := zE_bipush (n := 8) (by decide +kernel) (by decide)
theorem e25_25 : zE X 25 25 [l0, l1, l2, l3] [.int i0, .int i1] (N, 0, 0) h Q = if i1 < i0 then zE X 25 30 [l0, l1, l2, l3] [] (N, 0, 0) h Q else zE X 25 28 [l0, l1, l2, l3] [] (N, 0, 0) h Q := zE_icmp_lt (off := 5) (by decide +kernel) (by decide)
theorem e25_28 : zE X 25 28 [l0, l1, l2, l3] [] (N, 0, 0) h Q = zE X 25 29 [l0, l1, l2, l3] [.int 0] (N, 0, 0) h Q := zE_iconst (n := 0) (by decide +kernel) (by decide)
theorem e25_29 : zE X 25 29 [l0, l1, l2, l3] [.int i0] (N, 0, 0) h Q = if i0 = 0 ∨ i0 = 1 then Q (some (.int i0)) N h else False := zE_zreturn (by decide +kernel) rfl
theorem e25_30 : zE X 25 30 [some (.ref r), l1, l2, l3] [] (N, 0, 0) h Q = zE X 25 31 [some (.ref r), l1, l2, l3] [.ref r] (N, 0, 0) h Q := zE_aload_n (k := 0) (by decide +kernel) rfl
theorem e25_31 : zE X 25 31 [l0, l1, l2, l3] [.ref a0] (N, 0, 0) h Q = zgf (h a0) 5 1 (fun v => zE X 25 34 [l0, l1, l2, l3] [v] (N, 0, 0) h Q) := zE_getfield (k := 9) (nest := false) (q := 158) (by decide +kernel) rfl
theorem e25_34 : zE X 25 34 [some (.ref r), l1, l2, l3] [.ref a0] (N, 0, 0) h Q = zE X 25 35 [some (.ref r), l1, l2, l3] [.ref r, .ref a0] (N, 0, 0) h Q := zE_aload_n (k := 0) (by decide +kernel) rfl
theorem e25_35 : zE X 25 35 [l0, l1, l2, l3] [.ref a0, .ref a1] (N, 0, 0) h Q = zgf (h a0) 5 0 (fun v => zE X 25 38 [l0, l1, l2, l3] [v, .ref a1] (N, 0, 0) h Q) := zE_getfield (k := 37) (nest := false) (q := 154) (by decide +kernel) rfl
theorem e25_38 : zE X 25 38 [l0, some (.int v), l2, l3] [.int i0, .ref a1] (N, 0, 0) h Q = zE X 25 39 [l0, some (.int v), l2, l3] [.int v, .int i0, .ref a1] (N, 0, 0) h Q := zE_iload_n (k := 1) (by decide +kernel) rfl
theorem e25_39 : zE X 25 39 [l0, l1, l2, l3] [.int i0, .int i1, .ref a2] (N, 0, 0) h Q = zas (h a2) 0 i1 i0 (fun c => zE X 25 40 [l0, l1, l2, l3] [] (N, 0, 0) (va_up h a2 c) Q) := zE_iastore (by decide +kernel)
theorem e25_40 : zE X 25 40 [some (.ref r), l1, l2, l3] [] (N, 0, 0) h Q = zE X 25 41 [some (.ref r), l1, l2, l3] [.ref r] (N, 0, 0) h Q := zE_aload_n (k := 0) (by decide +kernel) rfl
theorem e25_41 : zE X 25 41 [l0, l1, l2, l3] [.ref a0] (N, 0, 0) h Q = zgf (h a0) 5 2 (fun v => zE X 25 44 [l0, l1, l2, l3] [v] (N, 0, 0) h Q) := zE_getfield (k := 15) (nest := false) (q := 161) (by decide +kernel) rfl
theorem e25_44 : zE X 25 44 [some (.ref r), l1, l2, l3] [.ref a0] (N, 0, 0) h Q = zE X 25 45 [some (.ref r), l1, l2, l3] [.ref r, .ref a0] (N, 0, 0) h Q := zE_aload_n (k := 0) (by decide +kernel) rfl
theorem e25_45 : zE X 25 45 [l0, l1, l2, l3] [.ref a0, .ref a1] (N, 0, 0) h Q = zgf (h a0) 5 0 (fun v => zE X 25 48 [l0, l1, l2, l3] [v, .ref a1] (N, 0, 0) h Q) := zE_getfield (k := 37) (nest := false) (q := 154) (by decide +kernel) rfl
theorem e25_48 : zE X 25 48 [l0, l1, some (.int v), l3] [.int i0, .ref a1] (N, 0, 0) h Q = zE X 25 49 [l0, l1, some (.int v), l3] [.int v, .int i0, .ref a1] (N, 0, 0) h Q := zE_iload_n (k := 2) (by decide +kernel) rfl
theorem e25_49 : zE X 25 49 [l0, l1, l2, l3] [.int i0, .int i1, .ref a2] (N, 0, 0) h Q = zas (h a2) 0 i1 i0 (fun c => zE X 25 50 [l0, l1, l2, l3] [] (N, 0, 0) (va_up h a2 c) Q) := zE_iastore (by decide +kernel)
theorem e25_50 : zE X 25 50 [some (.ref r), l1, l2, l3] [] (N, 0, 0) h Q = zE X 25 51 [some (.ref r), l1, l2, l3] [.ref r] (N, 0, 0) h Q := zE_aload_n (k := 0) (by decide +kernel) rfl
theorem e25_51 : zE X 25 51 [l0, l1, l2, l3] [.ref a0] (N, 0, 0) h Q = zgf (h a0) 5 3 (fun v => zE X 25 54 [l0, l1, l2, l3] [v] (N, 0, 0) h Q) := zE_getfield (k := 18) (nest := false) (q := 162) (by decide +kernel) rfl
theorem e25_54 : zE X 25 54 [some (.ref r), l1, l2, l3] [.ref a0] (N, 0, 0) h Q = zE X 25 55 [some (.ref r), l1, l2, l3] [.ref r, .ref a0] (N, 0, 0) h Q := zE_aload_n (k := 0) (by decide +kernel) rfl
theorem e25_55 : zE X 25 55 [l0, l1, l2, l3] [.ref a0, .ref a1] (N, 0, 0) h Q = zgf (h a0) 5 0 (fun v => zE X 25 58 [l0, l1, l2, l3] [v, .ref a1] (N, 0, 0) h Q) := zE_getfield (k := 37) (nest := false) (q := 154) (by decide +kernel) rfl
theorem e25_58 : zE X 25 58 [l0, l1, l2, some (.int v)] [.int i0, .ref a1] (N, 0, 0) h Q = zE X 25 59 [l0, l1, l2, some (.int v)] [.int v, .int i0, .ref a1] (N, 0, 0) h Q := zE_iload_n (k := 3) (by decide +kernel) rfl
theorem e25_59 : zE X 25 59 [l0, l1, l2, l3] [.int i0, .int i1, .ref a2] (N, 0, 0) h Q = zas (h a2) 0 i1 i0 (fun c => zE X 25 60 [l0, l1, l2, l3] [] (N, 0, 0) (va_up h a2 c) Q) := zE_iastore (by decide +kernel)
theorem e25_60 : zE X 25 60 [some (.ref r), l1, l2, l3] [] (N, 0, 0) h Q = zE X 25 61 [some (.ref r), l1, l2, l3] [.ref r] (N, 0, 0) h Q := zE_aload_n (k := 0) (by decide +kernel) rfl
theorem e25_61 : zE X 25 61 [l0, l1, l2, l3] [.ref a0] (N, 0, 0) h Q = zE X 25 62 [l0, l1, l2, l3] [.ref a0, .ref a0] (N, 0, 0) h Q := zE_dup (by decide +kernel) rfl
theorem e25_62 : zE X 25 62 [l0, l1, l2, l3] [.ref a0, .ref a1] (N, 0, 0) h Q = zgf (h a0) 5 0 (fun v => zE X 25 65 [l0, l1, l2, l3] [v, .ref a1] (N, 0, 0) h Q) := zE_getfield (k := 37) (nest := false) (q := 154) (by decide +kernel) rfl
theorem e25_65 : zE X 25 65 [l0, l1, l2, l3] [.int i0, .ref a1] (N, 0, 0) h Q = zE X 25 66 [l0, l1, l2, l3] [.int 1, .int i0, .ref a1] (N, 0, 0) h Q := zE_iconst (n := 1) (by decide +kernel) (by decide)
theorem e25_66 : zE X 25 66 [l0, l1, l2, l3] [.int i0, .int i1, .ref a2] (N, 0, 0) h Q = zE X 25 67 [l0, l1, l2, l3] [.int (i1 + i0), .ref a2] (N, 0, 0) h Q := zE_iadd (by decide +kernel)
theorem e25_67 : zE X 25 67 [l0, l1, l2, l3] [.int i0, .ref a1] (N, 0, 0) h Q = zpf (h a1) 5 0 (.int i0) (fun c => zE X 25 70 [l0, l1, l2, l3] [] (N, 0, 0) (va_up h a1 c) Q) := zE_putfield (k := 37) (nest := false) (q := 154) (by decide +kernel) rfl rfl rfl
theorem e25_70 : zE X 25 70 [l0, l1, l2, l3] [] (N, 0, 0) h Q = zE X 25 71 [l0, l1, l2, l3] [.int 1] (N, 0, 0) h Q := zE_iconst (n := 1) (by decide +kernel) (by decide)
theorem e25_71 : zE X 25 71 [l0, l1, l2, l3] [.int i0] (N, 0, 0) h Q = if i0 = 0 ∨ i0 = 1 then Q (some (.int i0)) N h else False := zE_zreturn (by decide +kernel) rfl
-- 26 Sheet_takeJudge (III)Z
theorem e26_0 : zE X 26 0 [some (.ref r), l1, l2, l3] [] (N, 0, 0) h Q = zE X 26 1 [some (.ref r), l1, l2, l3] [.ref r] (N, 0, 0) h Q := zE_aload_n (k := 0) (by decide +kernel) rfl
theorem e26_1 : zE X 26 1 [l0, l1, l2, l3] [.ref a0] (N, 0, 0) h Q = zgf (h a0) 5 4 (fun v => zE X 26 4 [l0, l1, l2, l3] [v] (N, 0, 0) h Q) := zE_getfield (k := 40) (nest := false) (q := 166) (by decide +kernel) rfl
theorem e26_4 : zE X 26 4 [l0, l1, l2, l3] [.int i0] (N, 0, 0) h Q = zE X 26 6 [l0, l1, l2, l3] [.int 6, .int i0] (N, 0, 0) h Q := zE_bipush (n := 6) (by decide +kernel) (by decide)
theorem e26_6 : zE X 26 6 [l0, l1, l2, l3] [.int i0, .int i1] (N, 0, 0) h Q = if i0 ≤ i1 then zE X 26 27 [l0, l1, l2, l3] [] (N, 0, 0) h Q else zE X 26 9 [l0, l1, l2, l3] [] (N, 0, 0) h Q := zE_icmp_ge (off := 21) (by decide +kernel) (by decide)
theorem e26_9 : zE X 26 9 [l0, some (.int v), l2, l3] [] (N, 0, 0) h Q = zE X 26 10 [l0, some (.int v), l2, l3] [.int v] (N, 0, 0) h Q := zE_iload_n (k := 1) (by decide +kernel) rfl
theorem e26_10 : zE X 26 10 [l0, l1, l2, l3] [.int i0] (N, 0, 0) h Q = zE X 26 12 [l0, l1, l2, l3] [.int 9, .int i0] (N, 0, 0) h Q := zE_bipush (n := 9) (by decide +kernel) (by decide)
theorem e26_12 : zE X 26 12 [l0, l1, l2, l3] [.int i0, .int i1] (N, 0, 0) h Q = if i0 < i1 then zE X 26 27 [l0, l1, l2, l3] [] (N, 0, 0) h Q else zE X 26 15 [l0, l1, l2, l3] [] (N, 0, 0) h Q := zE_icmp_gt (off := 15) (by decide +kernel) (by decide)
theorem e26_15 : zE X 26 15 [l0, l1, some (.int v), l3] [] (N, 0, 0) h Q = zE X 26 16 [l0, l1, some (.int v), l3] [.int v] (N, 0, 0) h Q := zE_iload_n (k := 2) (by decide +kernel) rfl
theorem e26_16 : zE X 26 16 [l0, l1, l2, l3] [.int i0] (N, 0, 0) h Q = zE X 26 18 [l0, l1, l2, l3] [.int 9, .int i0] (N, 0, 0) h Q := zE_bipush (n := 9) (by decide +kernel) (by decide)
theorem e26_18 : zE X 26 18 [l0, l1, l2, l3] [.int i0, .int i1] (N, 0, 0) h Q = if i0 < i1 then zE X 26 27 [l0, l1, l2, l3] [] (N, 0, 0) h Q else zE X 26 21 [l0, l1, l2, l3] [] (N, 0, 0) h Q := zE_icmp_gt (off := 9) (by decide +kernel) (by decide)
theorem e26_21 : zE X 26 21 [l0, l1, l2, some (.int v)] [] (N, 0, 0) h Q = zE X 26 22 [l0, l1, l2, some (.int v)] [.int v] (N, 0, 0) h Q := zE_iload_n (k := 3) (by decide +kernel) rfl
theorem e26_22 : zE X 26 22 [l0, l1, l2, l3] [.int i0] (N, 0, 0) h Q = zE X 26 24 [l0, l1, l2, l3] [.int 99, .int i0] (N, 0, 0) h Q := zE_bipush (n := 99) (by decide +kernel) (by decide)
theorem e26_24 : zE X 26 24 [l0, l1, l2, l3] [.int i0, .int i1] (N, 0, 0) h Q = if i1 ≤ i0 then zE X 26 29 [l0, l1, l2, l3] [] (N, 0, 0) h Q else zE X 26 27 [l0, l1, l2, l3] [] (N, 0, 0) h Q := zE_icmp_le (off := 5) (by decide +kernel) (by decide)
theorem e26_27 : zE X 26 27 [l0, l1, l2, l3] [] (N, 0, 0) h Q = zE X 26 28 [l0, l1, l2, l3] [.int 0] (N, 0, 0) h Q := zE_iconst (n := 0) (by decide +kernel) (by decide)
theorem e26_28 : zE X 26 28 [l0, l1, l2, l3] [.int i0] (N, 0, 0) h Q = if i0 = 0 ∨ i0 = 1 then Q (some (.int i0)) N h else False := zE_zreturn (by decide +kernel) rfl
theorem e26_29 : zE X 26 29 [some (.ref r), l1, l2, l3] [] (N, 0, 0) h Q = zE X 26 30 [some (.ref r), l1, l2, l3] [.ref r] (N, 0, 0) h Q := zE_aload_n (k := 0) (by decide +kernel) rfl
theorem e26_30 : zE X 26 30 [l0, l1, l2, l3] [.ref a0] (N, 0, 0) h Q = zgf (h a0) 5 5 (fun v => zE X 26 33 [l0, l1, l2, l3] [v] (N, 0, 0) h Q) := zE_getfield (k := 21) (nest := false) (q := 169) (by decide +kernel) rfl
theorem e26_33 : zE X 26 33 [some (.ref r), l1, l2, l3] [.ref a0] (N, 0, 0) h Q = zE X 26 34 [some (.ref r), l1, l2, l3] [.ref r, .ref a0] (N, 0, 0) h Q := zE_aload_n (k := 0) (by decide +kernel) rfl
theorem e26_34 : zE X 26 34 [l0, l1, l2, l3] [.ref a0, .ref a1] (N, 0, 0) h Q = zgf (h a0) 5 4 (fun v => zE X 26 37 [l0, l1, l2, l3] [v, .ref a1] (N, 0, 0) h Q) := zE_getfield (k := 40) (nest := false) (q := 166) (by decide +kernel) rfl
theorem e26_37 : zE X 26 37 [l0, some (.int v), l2, l3] [.int i0, .ref a1] (N, 0, 0) h Q = zE X 26 38 [l0, some (.int v), l2, l3] [.int v, .int i0, .ref a1] (N, 0, 0) h Q := zE_iload_n (k := 1) (by decide +kernel) rfl
theorem e26_38 : zE X 26 38 [l0, l1, l2, l3] [.int i0, .int i1, .ref a2] (N, 0, 0) h Q = zas (h a2) 0 i1 i0 (fun c => zE X 26 39 [l0, l1, l2, l3] [] (N, 0, 0) (va_up h a2 c) Q) := zE_iastore (by decide +kernel)
theorem e26_39 : zE X 26 39 [some (.ref r), l1, l2, l3] [] (N, 0, 0) h Q = zE X 26 40 [some (.ref r), l1, l2, l3] [.ref r] (N, 0, 0) h Q := zE_aload_n (k := 0) (by decide +kernel) rfl
theorem e26_40 : zE X 26 40 [l0, l1, l2, l3] [.ref a0] (N, 0, 0) h Q = zgf (h a0) 5 6 (fun v => zE X 26 43 [l0, l1, l2, l3] [v] (N, 0, 0) h Q) := zE_getfield (k := 24) (nest := false) (q := 170) (by decide +kernel) rfl
theorem e26_43 : zE X 26 43 [some (.ref r), l1, l2, l3] [.ref a0] (N, 0, 0) h Q = zE X 26 44 [some (.ref r), l1, l2, l3] [.ref r, .ref a0] (N, 0, 0) h Q := zE_aload_n (k := 0) (by decide +kernel) rfl
theorem e26_44 : zE X 26 44 [l0, l1, l2, l3] [.ref a0, .ref a1] (N, 0, 0) h Q = zgf (h a0) 5 4 (fun v => zE X 26 47 [l0, l1, l2, l3] [v, .ref a1] (N, 0, 0) h Q) := zE_getfield (k := 40) (nest := false) (q := 166) (by decide +kernel) rfl
theorem e26_47 : zE X 26 47 [l0, l1, some (.int v), l3] [.int i0, .ref a1] (N, 0, 0) h Q = zE X 26 48 [l0, l1, some (.int v), l3] [.int v, .int i0, .ref a1] (N, 0, 0) h Q := zE_iload_n (k := 2) (by decide +kernel) rfl
theorem e26_48 : zE X 26 48 [l0, l1, l2, l3] [.int i0, .int i1, .ref a2] (N, 0, 0) h Q = zas (h a2) 0 i1 i0 (fun c => zE X 26 49 [l0, l1, l2, l3] [] (N, 0, 0) (va_up h a2 c) Q) := zE_iastore (by decide +kernel)
theorem e26_49 : zE X 26 49 [some (.ref r), l1, l2, l3] [] (N, 0, 0) h Q = zE X 26 50 [some (.ref r), l1, l2, l3] [.ref r] (N, 0, 0) h Q := zE_aload_n (k := 0) (by decide +kernel) rfl
theorem e26_50 : zE X 26 50 [l0, l1, l2, l3] [.ref a0] (N, 0, 0) h Q = zgf (h a0) 5 7 (fun v => zE X 26 53 [l0, l1, l2, l3] [v] (N, 0, 0) h Q) := zE_getfield (k := 27) (nest := false) (q := 171) (by decide +kernel) rfl
theorem e26_53 : zE X 26 53 [some (.ref r), l1, l2, l3] [.ref a0] (N, 0, 0) h Q = zE X 26 54 [some (.ref r), l1, l2, l3] [.ref r, .ref a0] (N, 0, 0) h Q := zE_aload_n (k := 0) (by decide +kernel) rfl
theorem e26_54 : zE X 26 54 [l0, l1, l2, l3] [.ref a0, .ref a1] (N, 0, 0) h Q = zgf (h a0) 5 4 (fun v => zE X 26 57 [l0, l1, l2, l3] [v, .ref a1] (N, 0, 0) h Q) := zE_getfield (k := 40) (nest := false) (q := 166) (by decide +kernel) rfl
theorem e26_57 : zE X 26 57 [l0, l1, l2, some (.int v)] [.int i0, .ref a1] (N, 0, 0) h Q = zE X 26 58 [l0, l1, l2, some (.int v)] [.int v, .int i0, .ref a1] (N, 0, 0) h Q := zE_iload_n (k := 3) (by decide +kernel) rfl
theorem e26_58 : zE X 26 58 [l0, l1, l2, l3] [.int i0, .int i1, .ref a2] (N, 0, 0) h Q = zas (h a2) 0 i1 i0 (fun c => zE X 26 59 [l0, l1, l2, l3] [] (N, 0, 0) (va_up h a2 c) Q) := zE_iastore (by decide +kernel)
theorem e26_59 : zE X 26 59 [some (.ref r), l1, l2, l3] [] (N, 0, 0) h Q = zE X 26 60 [some (.ref r), l1, l2, l3] [.ref r] (N, 0, 0) h Q := zE_aload_n (k := 0) (by decide +kernel) rfl
theorem e26_60 : zE X 26 60 [l0, l1, l2, l3] [.ref a0] (N, 0, 0) h Q = zE X 26 61 [l0, l1, l2, l3] [.ref a0, .ref a0] (N, 0, 0) h Q := zE_dup (by decide +kernel) rfl
theorem e26_61 : zE X 26 61 [l0, l1, l2, l3] [.ref a0, .ref a1] (N, 0, 0) h Q = zgf (h a0) 5 4 (fun v => zE X 26 64 [l0, l1, l2, l3] [v, .ref a1] (N, 0, 0) h Q) := zE_getfield (k := 40) (nest := false) (q := 166) (by decide +kernel) rfl
theorem e26_64 : zE X 26 64 [l0, l1, l2, l3] [.int i0, .ref a1] (N, 0, 0) h Q = zE X 26 65 [l0, l1, l2, l3] [.int 1, .int i0, .ref a1] (N, 0, 0) h Q := zE_iconst (n := 1) (by decide +kernel) (by decide)
theorem e26_65 : zE X 26 65 [l0, l1, l2, l3] [.int i0, .int i1, .ref a2] (N, 0, 0) h Q = zE X 26 66 [l0, l1, l2, l3] [.int (i1 + i0), .ref a2] (N, 0, 0) h Q := zE_iadd (by decide +kernel)
theorem e26_66 : zE X 26 66 [l0, l1, l2, l3] [.int i0, .ref a1] (N, 0, 0) h Q = zpf (h a1) 5 4 (.int i0) (fun c => zE X 26 69 [l0, l1, l2, l3] [] (N, 0, 0) (va_up h a1 c) Q) := zE_putfield (k := 40) (nest := false) (q := 166) (by decide +kernel) rfl rfl rfl
theorem e26_69 : zE X 26 69 [l0, l1, l2, l3] [] (N, 0, 0) h Q = zE X 26 70 [l0, l1, l2, l3] [.int 1] (N, 0, 0) h Q := zE_iconst (n := 1) (by decide +kernel) (by decide)
theorem e26_70 : zE X 26 70 [l0, l1, l2, l3] [.int i0] (N, 0, 0) h Q = if i0 = 0 ∨ i0 = 1 then Q (some (.int i0)) N h else False := zE_zreturn (by decide +kernel) rfl
-- 27 Sheet_takePurse (III)Z
theorem e27_0 : zE X 27 0 [l0, some (.int v), l2, l3] [] (N, 0, 0) h Q = zE X 27 1 [l0, some (.int v), l2, l3] [.int v] (N, 0, 0) h Q := zE_iload_n (k := 1) (by decide +kernel) rfl
theorem e27_1 : zE X 27 1 [l0, l1, l2, l3] [.int i0] (N, 0, 0) h Q = zE X 27 3 [l0, l1, l2, l3] [.int 24, .int i0] (N, 0, 0) h Q := zE_bipush (n := 24) (by decide +kernel) (by decide)
theorem e27_3 : zE X 27 3 [l0, l1, l2, l3] [.int i0, .int i1] (N, 0, 0) h Q = if i0 < i1 then zE X 27 17 [l0, l1, l2, l3] [] (N, 0, 0) h Q else zE X 27 6 [l0, l1, l2, l3] [] (N, 0, 0) h Q := zE_icmp_gt (off := 14) (by decide +kernel) (by decide)
theorem e27_6 : zE X 27 6 [l0, l1, some (.int v), l3] [] (N, 0, 0) h Q = zE X 27 7 [l0, l1, some (.int v), l3] [.int v] (N, 0, 0) h Q := zE_iload_n (k := 2) (by decide +kernel) rfl
theorem e27_7 : zE X 27 7 [l0, l1, l2, l3] [.int i0] (N, 0, 0) h Q = zE X 27 9 [l0, l1, l2, l3] [.int 24, .int i0] (N, 0, 0) h Q := zE_bipush (n := 24) (by decide +kernel) (by decide)
theorem e27_9 : zE X 27 9 [l0, l1, l2, l3] [.int i0, .int i1] (N, 0, 0) h Q = if i0 < i1 then zE X 27 17 [l0, l1, l2, l3] [] (N, 0, 0) h Q else zE X 27 12 [l0, l1, l2, l3] [] (N, 0, 0) h Q := zE_icmp_gt (off := 8) (by decide +kernel) (by decide)
theorem e27_12 : zE X 27 12 [l0, l1, l2, some (.int v)] [] (N, 0, 0) h Q = zE X 27 13 [l0, l1, l2, some (.int v)] [.int v] (N, 0, 0) h Q := zE_iload_n (k := 3) (by decide +kernel) rfl
theorem e27_13 : zE X 27 13 [l0, l1, some (.int v), l3] [.int i0] (N, 0, 0) h Q = zE X 27 14 [l0, l1, some (.int v), l3] [.int v, .int i0] (N, 0, 0) h Q := zE_iload_n (k := 2) (by decide +kernel) rfl
theorem e27_14 : zE X 27 14 [l0, l1, l2, l3] [.int i0, .int i1] (N, 0, 0) h Q = if i1 ≤ i0 then zE X 27 19 [l0, l1, l2, l3] [] (N, 0, 0) h Q else zE X 27 17 [l0, l1, l2, l3] [] (N, 0, 0) h Q := zE_icmp_le (off := 5) (by decide +kernel) (by decide)
theorem e27_17 : zE X 27 17 [l0, l1, l2, l3] [] (N, 0, 0) h Q = zE X 27 18 [l0, l1, l2, l3] [.int 0] (N, 0, 0) h Q := zE_iconst (n := 0) (by decide +kernel) (by decide)
theorem e27_18 : zE X 27 18 [l0, l1, l2, l3] [.int i0] (N, 0, 0) h Q = if i0 = 0 ∨ i0 = 1 then Q (some (.int i0)) N h else False := zE_zreturn (by decide +kernel) rfl
theorem e27_19 : zE X 27 19 [some (.ref r), l1, l2, l3] [] (N, 0, 0) h Q = zE X 27 20 [some (.ref r), l1, l2, l3] [.ref r] (N, 0, 0) h Q := zE_aload_n (k := 0) (by decide +kernel) rfl
theorem e27_20 : zE X 27 20 [l0, some (.int v), l2, l3] [.ref a0] (N, 0, 0) h Q = zE X 27 21 [l0, some (.int v), l2, l3] [.int v, .ref a0] (N, 0, 0) h Q := zE_iload_n (k := 1) (by decide +kernel) rfl
theorem e27_21 : zE X 27 21 [l0, l1, l2, l3] [.int i0, .ref a1] (N, 0, 0) h Q = zpf (h a1) 5 8 (.int i0) (fun c => zE X 27 24 [l0, l1, l2, l3] [] (N, 0, 0) (va_up h a1 c) Q) := zE_putfield (k := 43) (nest := false) (q := 173) (by decide +kernel) rfl rfl rfl
theorem e27_24 : zE X 27 24 [some (.ref r), l1, l2, l3] [] (N, 0, 0) h Q = zE X 27 25 [some (.ref r), l1, l2, l3] [.ref r] (N, 0, 0) h Q := zE_aload_n (k := 0) (by decide +kernel) rfl
theorem e27_25 : zE X 27 25 [l0, l1, some (.int v), l3] [.ref a0] (N, 0, 0) h Q = zE X 27 26 [l0, l1, some (.int v), l3] [.int v, .ref a0] (N, 0, 0) h Q := zE_iload_n (k := 2) (by decide +kernel) rfl
theorem e27_26 : zE X 27 26 [l0, l1, l2, l3] [.int i0, .ref a1] (N, 0, 0) h Q = zpf (h a1) 5 9 (.int i0) (fun c => zE X 27 29 [l0, l1, l2, l3] [] (N, 0, 0) (va_up h a1 c) Q) := zE_putfield (k := 46) (nest := false) (q := 175) (by decide +kernel) rfl rfl rfl
theorem e27_29 : zE X 27 29 [some (.ref r), l1, l2, l3] [] (N, 0, 0) h Q = zE X 27 30 [some (.ref r), l1, l2, l3] [.ref r] (N, 0, 0) h Q := zE_aload_n (k := 0) (by decide +kernel) rfl
theorem e27_30 : zE X 27 30 [l0, l1, l2, some (.int v)] [.ref a0] (N, 0, 0) h Q = zE X 27 31 [l0, l1, l2, some (.int v)] [.int v, .ref a0] (N, 0, 0) h Q := zE_iload_n (k := 3) (by decide +kernel) rfl
theorem e27_31 : zE X 27 31 [l0, l1, l2, l3] [.int i0, .ref a1] (N, 0, 0) h Q = zpf (h a1) 5 10 (.int i0) (fun c => zE X 27 34 [l0, l1, l2, l3] [] (N, 0, 0) (va_up h a1 c) Q) := zE_putfield (k := 49) (nest := false) (q := 176) (by decide +kernel) rfl rfl rfl
theorem e27_34 : zE X 27 34 [l0, l1, l2, l3] [] (N, 0, 0) h Q = zE X 27 35 [l0, l1, l2, l3] [.int 1] (N, 0, 0) h Q := zE_iconst (n := 1) (by decide +kernel) (by decide)
theorem e27_35 : zE X 27 35 [l0, l1, l2, l3] [.int i0] (N, 0, 0) h Q = if i0 = 0 ∨ i0 = 1 then Q (some (.int i0)) N h else False := zE_zreturn (by decide +kernel) rfl
-- 28 Sheet_takeCoin (I)Z
theorem e28_0 : zE X 28 0 [l0, some (.int v)] [] (N, 0, 0) h Q = zE X 28 1 [l0, some (.int v)] [.int v] (N, 0, 0) h Q := zE_iload_n (k := 1) (by decide +kernel) rfl
theorem e28_1 : zE X 28 1 [l0, l1] [.int i0] (N, 0, 0) h Q = zE X 28 2 [l0, l1] [.int 1, .int i0] (N, 0, 0) h Q := zE_iconst (n := 1) (by decide +kernel) (by decide)
theorem e28_2 : zE X 28 2 [l0, l1] [.int i0, .int i1] (N, 0, 0) h Q = if i1 < i0 then zE X 28 12 [l0, l1] [] (N, 0, 0) h Q else zE X 28 5 [l0, l1] [] (N, 0, 0) h Q := zE_icmp_lt (off := 10) (by decide +kernel) (by decide)
theorem e28_5 : zE X 28 5 [l0, some (.int v)] [] (N, 0, 0) h Q = zE X 28 6 [l0, some (.int v)] [.int v] (N, 0, 0) h Q := zE_iload_n (k := 1) (by decide +kernel) rfl
theorem e28_6 : zE X 28 6 [l0, l1] [.int i0] (N, 0, 0) h Q = zE X 28 9 [l0, l1] [.int 999, .int i0] (N, 0, 0) h Q := zE_sipush (n := 999) (by decide +kernel) (by decide)
theorem e28_9 : zE X 28 9 [l0, l1] [.int i0, .int i1] (N, 0, 0) h Q = if i1 ≤ i0 then zE X 28 14 [l0, l1] [] (N, 0, 0) h Q else zE X 28 12 [l0, l1] [] (N, 0, 0) h Q := zE_icmp_le (off := 5) (by decide +kernel) (by decide)
theorem e28_12 : zE X 28 12 [l0, l1] [] (N, 0, 0) h Q = zE X 28 13 [l0, l1] [.int 0] (N, 0, 0) h Q := zE_iconst (n := 0) (by decide +kernel) (by decide)
theorem e28_13 : zE X 28 13 [l0, l1] [.int i0] (N, 0, 0) h Q = if i0 = 0 ∨ i0 = 1 then Q (some (.int i0)) N h else False := zE_zreturn (by decide +kernel) rfl
theorem e28_14 : zE X 28 14 [some (.ref r), l1] [] (N, 0, 0) h Q = zE X 28 15 [some (.ref r), l1] [.ref r] (N, 0, 0) h Q := zE_aload_n (k := 0) (by decide +kernel) rfl
theorem e28_15 : zE X 28 15 [l0, some (.int v)] [.ref a0] (N, 0, 0) h Q = zE X 28 16 [l0, some (.int v)] [.int v, .ref a0] (N, 0, 0) h Q := zE_iload_n (k := 1) (by decide +kernel) rfl
theorem e28_16 : zE X 28 16 [l0, l1] [.int i0, .ref a1] (N, 0, 0) h Q = zpf (h a1) 5 11 (.int i0) (fun c => zE X 28 19 [l0, l1] [] (N, 0, 0) (va_up h a1 c) Q) := zE_putfield (k := 30) (nest := false) (q := 178) (by decide +kernel) rfl rfl rfl
theorem e28_19 : zE X 28 19 [l0, l1] [] (N, 0, 0) h Q = zE X 28 20 [l0, l1] [.int 1] (N, 0, 0) h Q := zE_iconst (n := 1) (by decide +kernel) (by decide)
theorem e28_20 : zE X 28 20 [l0, l1] [.int i0] (N, 0, 0) h Q = if i0 = 0 ∨ i0 = 1 then Q (some (.int i0)) N h else False := zE_zreturn (by decide +kernel) rfl
-- 29 Sheet_takeHours (II)Z
theorem e29_0 : zE X 29 0 [l0, some (.int v), l2] [] (N, 0, 0) h Q = zE X 29 1 [l0, some (.int v), l2] [.int v] (N, 0, 0) h Q := zE_iload_n (k := 1) (by decide +kernel) rfl
theorem e29_1 : zE X 29 1 [l0, l1, l2] [.int i0] (N, 0, 0) h Q = zE X 29 3 [l0, l1, l2] [.int 99, .int i0] (N, 0, 0) h Q := zE_bipush (n := 99) (by decide +kernel) (by decide)
theorem e29_3 : zE X 29 3 [l0, l1, l2] [.int i0, .int i1] (N, 0, 0) h Q = if i0 < i1 then zE X 29 12 [l0, l1, l2] [] (N, 0, 0) h Q else zE X 29 6 [l0, l1, l2] [] (N, 0, 0) h Q := zE_icmp_gt (off := 9) (by decide +kernel) (by decide)
theorem e29_6 : zE X 29 6 [l0, l1, some (.int v)] [] (N, 0, 0) h Q = zE X 29 7 [l0, l1, some (.int v)] [.int v] (N, 0, 0) h Q := zE_iload_n (k := 2) (by decide +kernel) rfl
theorem e29_7 : zE X 29 7 [l0, l1, l2] [.int i0] (N, 0, 0) h Q = zE X 29 9 [l0, l1, l2] [.int 99, .int i0] (N, 0, 0) h Q := zE_bipush (n := 99) (by decide +kernel) (by decide)
theorem e29_9 : zE X 29 9 [l0, l1, l2] [.int i0, .int i1] (N, 0, 0) h Q = if i1 ≤ i0 then zE X 29 14 [l0, l1, l2] [] (N, 0, 0) h Q else zE X 29 12 [l0, l1, l2] [] (N, 0, 0) h Q := zE_icmp_le (off := 5) (by decide +kernel) (by decide)
theorem e29_12 : zE X 29 12 [l0, l1, l2] [] (N, 0, 0) h Q = zE X 29 13 [l0, l1, l2] [.int 0] (N, 0, 0) h Q := zE_iconst (n := 0) (by decide +kernel) (by decide)
theorem e29_13 : zE X 29 13 [l0, l1, l2] [.int i0] (N, 0, 0) h Q = if i0 = 0 ∨ i0 = 1 then Q (some (.int i0)) N h else False := zE_zreturn (by decide +kernel) rfl
theorem e29_14 : zE X 29 14 [some (.ref r), l1, l2] [] (N, 0, 0) h Q = zE X 29 15 [some (.ref r), l1, l2] [.ref r] (N, 0, 0) h Q := zE_aload_n (k := 0) (by decide +kernel) rfl
theorem e29_15 : zE X 29 15 [l0, some (.int v), l2] [.ref a0] (N, 0, 0) h Q = zE X 29 16 [l0, some (.int v), l2] [.int v, .ref a0] (N, 0, 0) h Q := zE_iload_n (k := 1) (by decide +kernel) rfl
theorem e29_16 : zE X 29 16 [l0, l1, l2] [.int i0, .ref a1] (N, 0, 0) h Q = zpf (h a1) 5 12 (.int i0) (fun c => zE X 29 19 [l0, l1, l2] [] (N, 0, 0) (va_up h a1 c) Q) := zE_putfield (k := 52) (nest := false) (q := 180) (by decide +kernel) rfl rfl rfl
theorem e29_19 : zE X 29 19 [some (.ref r), l1, l2] [] (N, 0, 0) h Q = zE X 29 20 [some (.ref r), l1, l2] [.ref r] (N, 0, 0) h Q := zE_aload_n (k := 0) (by decide +kernel) rfl
theorem e29_20 : zE X 29 20 [l0, l1, some (.int v)] [.ref a0] (N, 0, 0) h Q = zE X 29 21 [l0, l1, some (.int v)] [.int v, .ref a0] (N, 0, 0) h Q := zE_iload_n (k := 2) (by decide +kernel) rfl
theorem e29_21 : zE X 29 21 [l0, l1, l2] [.int i0, .ref a1] (N, 0, 0) h Q = zpf (h a1) 5 13 (.int i0) (fun c => zE X 29 24 [l0, l1, l2] [] (N, 0, 0) (va_up h a1 c) Q) := zE_putfield (k := 55) (nest := false) (q := 181) (by decide +kernel) rfl rfl rfl
theorem e29_24 : zE X 29 24 [l0, l1, l2] [] (N, 0, 0) h Q = zE X 29 25 [l0, l1, l2] [.int 1] (N, 0, 0) h Q := zE_iconst (n := 1) (by decide +kernel) (by decide)
theorem e29_25 : zE X 29 25 [l0, l1, l2] [.int i0] (N, 0, 0) h Q = if i0 = 0 ∨ i0 = 1 then Q (some (.int i0)) N h else False := zE_zreturn (by decide +kernel) rfl
-- 30 Sheet_takeHad (II)Z
theorem e30_0 : zE X 30 0 [l0, some (.int v), l2] [] (N, 0, 0) h Q = zE X 30 1 [l0, some (.int v), l2] [.int v] (N, 0, 0) h Q := zE_iload_n (k := 1) (by decide +kernel) rfl
theorem e30_1 : zE X 30 1 [l0, l1, l2] [.int i0] (N, 0, 0) h Q = if i0 < 0 then zE X 30 16 [l0, l1, l2] [] (N, 0, 0) h Q else zE X 30 4 [l0, l1, l2] [] (N, 0, 0) h Q := zE_if_lt (off := 15) (by decide +kernel) (by decide)
theorem e30_4 : zE X 30 4 [l0, some (.int v), l2] [] (N, 0, 0) h Q = zE X 30 5 [l0, some (.int v), l2] [.int v] (N, 0, 0) h Q := zE_iload_n (k := 1) (by decide +kernel) rfl
theorem e30_5 : zE X 30 5 [l0, l1, l2] [.int i0] (N, 0, 0) h Q = zE X 30 7 [l0, l1, l2] [.int 8, .int i0] (N, 0, 0) h Q := zE_bipush (n := 8) (by decide +kernel) (by decide)
theorem e30_7 : zE X 30 7 [l0, l1, l2] [.int i0, .int i1] (N, 0, 0) h Q = if i0 ≤ i1 then zE X 30 16 [l0, l1, l2] [] (N, 0, 0) h Q else zE X 30 10 [l0, l1, l2] [] (N, 0, 0) h Q := zE_icmp_ge (off := 9) (by decide +kernel) (by decide)
theorem e30_10 : zE X 30 10 [l0, l1, some (.int v)] [] (N, 0, 0) h Q = zE X 30 11 [l0, l1, some (.int v)] [.int v] (N, 0, 0) h Q := zE_iload_n (k := 2) (by decide +kernel) rfl
theorem e30_11 : zE X 30 11 [l0, l1, l2] [.int i0] (N, 0, 0) h Q = zE X 30 13 [l0, l1, l2] [.int 9, .int i0] (N, 0, 0) h Q := zE_bipush (n := 9) (by decide +kernel) (by decide)
theorem e30_13 : zE X 30 13 [l0, l1, l2] [.int i0, .int i1] (N, 0, 0) h Q = if i1 ≤ i0 then zE X 30 18 [l0, l1, l2] [] (N, 0, 0) h Q else zE X 30 16 [l0, l1, l2] [] (N, 0, 0) h Q := zE_icmp_le (off := 5) (by decide +kernel) (by decide)
theorem e30_16 : zE X 30 16 [l0, l1, l2] [] (N, 0, 0) h Q = zE X 30 17 [l0, l1, l2] [.int 0] (N, 0, 0) h Q := zE_iconst (n := 0) (by decide +kernel) (by decide)
theorem e30_17 : zE X 30 17 [l0, l1, l2] [.int i0] (N, 0, 0) h Q = if i0 = 0 ∨ i0 = 1 then Q (some (.int i0)) N h else False := zE_zreturn (by decide +kernel) rfl
theorem e30_18 : zE X 30 18 [some (.ref r), l1, l2] [] (N, 0, 0) h Q = zE X 30 19 [some (.ref r), l1, l2] [.ref r] (N, 0, 0) h Q := zE_aload_n (k := 0) (by decide +kernel) rfl
theorem e30_19 : zE X 30 19 [l0, l1, l2] [.ref a0] (N, 0, 0) h Q = zgf (h a0) 5 14 (fun v => zE X 30 22 [l0, l1, l2] [v] (N, 0, 0) h Q) := zE_getfield (k := 34) (nest := false) (q := 182) (by decide +kernel) rfl
theorem e30_22 : zE X 30 22 [l0, some (.int v), l2] [.ref a0] (N, 0, 0) h Q = zE X 30 23 [l0, some (.int v), l2] [.int v, .ref a0] (N, 0, 0) h Q := zE_iload_n (k := 1) (by decide +kernel) rfl
theorem e30_23 : zE X 30 23 [l0, l1, some (.int v)] [.int i0, .ref a1] (N, 0, 0) h Q = zE X 30 24 [l0, l1, some (.int v)] [.int v, .int i0, .ref a1] (N, 0, 0) h Q := zE_iload_n (k := 2) (by decide +kernel) rfl
theorem e30_24 : zE X 30 24 [l0, l1, l2] [.int i0, .int i1, .ref a2] (N, 0, 0) h Q = zas (h a2) 0 i1 i0 (fun c => zE X 30 25 [l0, l1, l2] [] (N, 0, 0) (va_up h a2 c) Q) := zE_iastore (by decide +kernel)
theorem e30_25 : zE X 30 25 [l0, l1, l2] [] (N, 0, 0) h Q = zE X 30 26 [l0, l1, l2] [.int 1] (N, 0, 0) h Q := zE_iconst (n := 1) (by decide +kernel) (by decide)
theorem e30_26 : zE X 30 26 [l0, l1, l2] [.int i0] (N, 0, 0) h Q = if i0 = 0 ∨ i0 = 1 then Q (some (.int i0)) N h else False := zE_zreturn (by decide +kernel) rfl
-- 31 Sheet_takePatience (I)Z
theorem e31_0 : zE X 31 0 [l0, some (.int v)] [] (N, 0, 0) h Q = zE X 31 1 [l0, some (.int v)] [.int v] (N, 0, 0) h Q := zE_iload_n (k := 1) (by decide +kernel) rfl
theorem e31_1 : zE X 31 1 [l0, l1] [.int i0] (N, 0, 0) h Q = zE X 31 3 [l0, l1] [.int 9, .int i0] (N, 0, 0) h Q := zE_bipush (n := 9) (by decide +kernel) (by decide)
theorem e31_3 : zE X 31 3 [l0, l1] [.int i0, .int i1] (N, 0, 0) h Q = if i1 ≤ i0 then zE X 31 8 [l0, l1] [] (N, 0, 0) h Q else zE X 31 6 [l0, l1] [] (N, 0, 0) h Q := zE_icmp_le (off := 5) (by decide +kernel) (by decide)
theorem e31_6 : zE X 31 6 [l0, l1] [] (N, 0, 0) h Q = zE X 31 7 [l0, l1] [.int 0] (N, 0, 0) h Q := zE_iconst (n := 0) (by decide +kernel) (by decide)
theorem e31_7 : zE X 31 7 [l0, l1] [.int i0] (N, 0, 0) h Q = if i0 = 0 ∨ i0 = 1 then Q (some (.int i0)) N h else False := zE_zreturn (by decide +kernel) rfl
theorem e31_8 : zE X 31 8 [some (.ref r), l1] [] (N, 0, 0) h Q = zE X 31 9 [some (.ref r), l1] [.ref r] (N, 0, 0) h Q := zE_aload_n (k := 0) (by decide +kernel) rfl
theorem e31_9 : zE X 31 9 [l0, some (.int v)] [.ref a0] (N, 0, 0) h Q = zE X 31 10 [l0, some (.int v)] [.int v, .ref a0] (N, 0, 0) h Q := zE_iload_n (k := 1) (by decide +kernel) rfl
theorem e31_10 : zE X 31 10 [l0, l1] [.int i0, .ref a1] (N, 0, 0) h Q = zpf (h a1) 5 15 (.int i0) (fun c => zE X 31 13 [l0, l1] [] (N, 0, 0) (va_up h a1 c) Q) := zE_putfield (k := 64) (nest := false) (q := 184) (by decide +kernel) rfl rfl rfl
theorem e31_13 : zE X 31 13 [l0, l1] [] (N, 0, 0) h Q = zE X 31 14 [l0, l1] [.int 1] (N, 0, 0) h Q := zE_iconst (n := 1) (by decide +kernel) (by decide)
theorem e31_14 : zE X 31 14 [l0, l1] [.int i0] (N, 0, 0) h Q = if i0 = 0 ∨ i0 = 1 then Q (some (.int i0)) N h else False := zE_zreturn (by decide +kernel) rfl
-- 39 Sheet_markOf (IIII)I
theorem e39_0 : zE X 39 0 [l0, some (.int v), l2, l3, l4, l5, l6, l7] [] (N, 0, 0) h Q = zE X 39 1 [l0, some (.int v), l2, l3, l4, l5, l6, l7] [.int v] (N, 0, 0) h Q := zE_iload_n (k := 1) (by decide +kernel) rfl
theorem e39_1 : zE X 39 1 [l0, l1, l2, l3, l4, l5, l6, l7] [.int i0] (N, 0, 0) h Q = if i0 < 0 then zE X 39 24 [l0, l1, l2, l3, l4, l5, l6, l7] [] (N, 0, 0) h Q else zE X 39 4 [l0, l1, l2, l3, l4, l5, l6, l7] [] (N, 0, 0) h Q := zE_if_lt (off := 23) (by decide +kernel) (by decide)
theorem e39_4 : zE X 39 4 [l0, some (.int v), l2, l3, l4, l5, l6, l7] [] (N, 0, 0) h Q = zE X 39 5 [l0, some (.int v), l2, l3, l4, l5, l6, l7] [.int v] (N, 0, 0) h Q := zE_iload_n (k := 1) (by decide +kernel) rfl
theorem e39_5 : zE X 39 5 [some (.ref r), l1, l2, l3, l4, l5, l6, l7] [.int i0] (N, 0, 0) h Q = zE X 39 6 [some (.ref r), l1, l2, l3, l4, l5, l6, l7] [.ref r, .int i0] (N, 0, 0) h Q := zE_aload_n (k := 0) (by decide +kernel) rfl
theorem e39_6 : zE X 39 6 [l0, l1, l2, l3, l4, l5, l6, l7] [.ref a0, .int i1] (N, 0, 0) h Q = zgf (h a0) 5 0 (fun v => zE X 39 9 [l0, l1, l2, l3, l4, l5, l6, l7] [v, .int i1] (N, 0, 0) h Q) := zE_getfield (k := 37) (nest := false) (q := 154) (by decide +kernel) rfl
theorem e39_9 : zE X 39 9 [l0, l1, l2, l3, l4, l5, l6, l7] [.int i0, .int i1] (N, 0, 0) h Q = if i0 ≤ i1 then zE X 39 24 [l0, l1, l2, l3, l4, l5, l6, l7] [] (N, 0, 0) h Q else zE X 39 12 [l0, l1, l2, l3, l4, l5, l6, l7] [] (N, 0, 0) h Q := zE_icmp_ge (off := 15) (by decide +kernel) (by decide)
theorem e39_12 : zE X 39 12 [l0, l1, some (.int v), l3, l4, l5, l6, l7] [] (N, 0, 0) h Q = zE X 39 13 [l0, l1, some (.int v), l3, l4, l5, l6, l7] [.int v] (N, 0, 0) h Q := zE_iload_n (k := 2) (by decide +kernel) rfl
theorem e39_13 : zE X 39 13 [l0, l1, l2, l3, l4, l5, l6, l7] [.int i0] (N, 0, 0) h Q = if i0 < 0 then zE X 39 24 [l0, l1, l2, l3, l4, l5, l6, l7] [] (N, 0, 0) h Q else zE X 39 16 [l0, l1, l2, l3, l4, l5, l6, l7] [] (N, 0, 0) h Q := zE_if_lt (off := 11) (by decide +kernel) (by decide)
theorem e39_16 : zE X 39 16 [l0, l1, some (.int v), l3, l4, l5, l6, l7] [] (N, 0, 0) h Q = zE X 39 17 [l0, l1, some (.int v), l3, l4, l5, l6, l7] [.int v] (N, 0, 0) h Q := zE_iload_n (k := 2) (by decide +kernel) rfl
theorem e39_17 : zE X 39 17 [some (.ref r), l1, l2, l3, l4, l5, l6, l7] [.int i0] (N, 0, 0) h Q = zE X 39 18 [some (.ref r), l1, l2, l3, l4, l5, l6, l7] [.ref r, .int i0] (N, 0, 0) h Q := zE_aload_n (k := 0) (by decide +kernel) rfl
theorem e39_18 : zE X 39 18 [l0, l1, l2, l3, l4, l5, l6, l7] [.ref a0, .int i1] (N, 0, 0) h Q = zgf (h a0) 5 4 (fun v => zE X 39 21 [l0, l1, l2, l3, l4, l5, l6, l7] [v, .int i1] (N, 0, 0) h Q) := zE_getfield (k := 40) (nest := false) (q := 166) (by decide +kernel) rfl
theorem e39_21 : zE X 39 21 [l0, l1, l2, l3, l4, l5, l6, l7] [.int i0, .int i1] (N, 0, 0) h Q = if i1 < i0 then zE X 39 26 [l0, l1, l2, l3, l4, l5, l6, l7] [] (N, 0, 0) h Q else zE X 39 24 [l0, l1, l2, l3, l4, l5, l6, l7] [] (N, 0, 0) h Q := zE_icmp_lt (off := 5) (by decide +kernel) (by decide)
theorem e39_24 : zE X 39 24 [l0, l1, l2, l3, l4, l5, l6, l7] [] (N, 0, 0) h Q = zE X 39 25 [l0, l1, l2, l3, l4, l5, l6, l7] [.int 0] (N, 0, 0) h Q := zE_iconst (n := 0) (by decide +kernel) (by decide)
theorem e39_25 : zE X 39 25 [l0, l1, l2, l3, l4, l5, l6, l7] [.int i0] (N, 0, 0) h Q = Q (some (.int i0)) N h := zE_ireturn (by decide +kernel) rfl
theorem e39_26 : zE X 39 26 [l0, l1, l2, l3, l4, l5, l6, l7] [] (N, 0, 0) h Q = zE X 39 27 [l0, l1, l2, l3, l4, l5, l6, l7] [.int 2] (N, 0, 0) h Q := zE_iconst (n := 2) (by decide +kernel) (by decide)
theorem e39_27 : zE X 39 27 [some (.ref r), l1, l2, l3, l4, l5, l6, l7] [.int i0] (N, 0, 0) h Q = zE X 39 28 [some (.ref r), l1, l2, l3, l4, l5, l6, l7] [.ref r, .int i0] (N, 0, 0) h Q := zE_aload_n (k := 0) (by decide +kernel) rfl
theorem e39_28 : zE X 39 28 [l0, l1, l2, l3, l4, l5, l6, l7] [.ref a0, .int i1] (N, 0, 0) h Q = zgf (h a0) 5 7 (fun v => zE X 39 31 [l0, l1, l2, l3, l4, l5, l6, l7] [v, .int i1] (N, 0, 0) h Q) := zE_getfield (k := 27) (nest := false) (q := 171) (by decide +kernel) rfl
theorem e39_31 : zE X 39 31 [l0, l1, some (.int v), l3, l4, l5, l6, l7] [.ref a0, .int i1] (N, 0, 0) h Q = zE X 39 32 [l0, l1, some (.int v), l3, l4, l5, l6, l7] [.int v, .ref a0, .int i1] (N, 0, 0) h Q := zE_iload_n (k := 2) (by decide +kernel) rfl
theorem e39_32 : zE X 39 32 [l0, l1, l2, l3, l4, l5, l6, l7] [.int i0, .ref a1, .int i2] (N, 0, 0) h Q = zal (h a1) 0 i0 (fun x => zE X 39 33 [l0, l1, l2, l3, l4, l5, l6, l7] [.int x, .int i2] (N, 0, 0) h Q) := zE_iaload (by decide +kernel)
theorem e39_33 : zE X 39 33 [l0, l1, l2, l3, l4, l5, l6, l7] [.int i0, .int i1] (N, 0, 0) h Q = zE X 39 34 [l0, l1, l2, l3, l4, l5, l6, l7] [.int (i1 * i0)] (N, 0, 0) h Q := zE_imul (by decide +kernel)
theorem e39_34 : zE X 39 34 [l0, l1, l2, l3, l4, l5, l6, l7] [.int i0] (N, 0, 0) h Q = zE X 39 35 [l0, l1, l2, l3, l4, l5, l6, l7] [.int 1, .int i0] (N, 0, 0) h Q := zE_iconst (n := 1) (by decide +kernel) (by decide)
theorem e39_35 : zE X 39 35 [l0, l1, l2, l3, l4, l5, l6, l7] [.int i0, .int i1] (N, 0, 0) h Q = zE X 39 36 [l0, l1, l2, l3, l4, l5, l6, l7] [.int (i1 + i0)] (N, 0, 0) h Q := zE_iadd (by decide +kernel)
theorem e39_36 : zE X 39 36 [l0, l1, l2, l3, l4, l5, l6, l7] [.int i0] (N, 0, 0) h Q = zE X 39 38 [l0, l1, l2, l3, l4, some (.int i0), l6, l7] [] (N, 0, 0) h Q := zE_istore (k := 5) (by decide +kernel) rfl rfl
theorem e39_38 : zE X 39 38 [l0, l1, l2, l3, l4, l5, l6, l7] [] (N, 0, 0) h Q = zE X 39 41 [l0, l1, l2, l3, l4, l5, l6, l7] [.int 2711] (N, 0, 0) h Q := zE_sipush (n := 2711) (by decide +kernel) (by decide)
theorem e39_41 : zE X 39 41 [l0, l1, l2, l3, l4, l5, l6, l7] [.int i0] (N, 0, 0) h Q = zE X 39 43 [l0, l1, l2, l3, l4, l5, l6, l7] [.int 24, .int i0] (N, 0, 0) h Q := zE_bipush (n := 24) (by decide +kernel) (by decide)
theorem e39_43 : zE X 39 43 [l0, l1, l2, l3, l4, l5, l6, l7] [.int i0, .int i1] (N, 0, 0) h Q = zE X 39 45 [l0, l1, l2, l3, l4, l5, l6, l7] [.int 6, .int i0, .int i1] (N, 0, 0) h Q := zE_bipush (n := 6) (by decide +kernel) (by decide)
theorem e39_45 : zE X 39 45 [l0, l1, l2, some (.int v), l4, l5, l6, l7] [.int i0, .int i1, .int i2] (N, 0, 0) h Q = zE X 39 46 [l0, l1, l2, some (.int v), l4, l5, l6, l7] [.int v, .int i0, .int i1, .int i2] (N, 0, 0) h Q := zE_iload_n (k := 3) (by decide +kernel) rfl
theorem e39_46 : zE X 39 46 [l0, l1, l2, l3, l4, l5, l6, l7] [.int i0, .int i1, .int i2, .int i3] (N, 0, 0) h Q = zE X 39 47 [l0, l1, l2, l3, l4, l5, l6, l7] [.int (i1 * i0), .int i2, .int i3] (N, 0, 0) h Q := zE_imul (by decide +kernel)
theorem e39_47 : zE X 39 47 [l0, l1, some (.int v), l3, l4, l5, l6, l7] [.int i0, .int i1, .int i2] (N, 0, 0) h Q = zE X 39 48 [l0, l1, some (.int v), l3, l4, l5, l6, l7] [.int v, .int i0, .int i1, .int i2] (N, 0, 0) h Q := zE_iload_n (k := 2) (by decide +kernel) rfl
theorem e39_48 : zE X 39 48 [l0, l1, l2, l3, l4, l5, l6, l7] [.int i0, .int i1, .int i2, .int i3] (N, 0, 0) h Q = zE X 39 49 [l0, l1, l2, l3, l4, l5, l6, l7] [.int (i1 + i0), .int i2, .int i3] (N, 0, 0) h Q := zE_iadd (by decide +kernel)
theorem e39_49 : zE X 39 49 [l0, l1, l2, l3, l4, l5, l6, l7] [.int i0, .int i1, .int i2] (N, 0, 0) h Q = zE X 39 50 [l0, l1, l2, l3, l4, l5, l6, l7] [.int (i1 * i0), .int i2] (N, 0, 0) h Q := zE_imul (by decide +kernel)
theorem e39_50 : zE X 39 50 [l0, some (.int v), l2, l3, l4, l5, l6, l7] [.int i0, .int i1] (N, 0, 0) h Q = zE X 39 51 [l0, some (.int v), l2, l3, l4, l5, l6, l7] [.int v, .int i0, .int i1] (N, 0, 0) h Q := zE_iload_n (k := 1) (by decide +kernel) rfl
theorem e39_51 : zE X 39 51 [l0, l1, l2, l3, l4, l5, l6, l7] [.int i0, .int i1, .int i2] (N, 0, 0) h Q = zE X 39 52 [l0, l1, l2, l3, l4, l5, l6, l7] [.int (i1 + i0), .int i2] (N, 0, 0) h Q := zE_iadd (by decide +kernel)
theorem e39_52 : zE X 39 52 [l0, l1, l2, l3, l4, l5, l6, l7] [.int i0, .int i1] (N, 0, 0) h Q = zE X 39 53 [l0, l1, l2, l3, l4, l5, l6, l7] [.int (i1 * i0)] (N, 0, 0) h Q := zE_imul (by decide +kernel)
theorem e39_53 : zE X 39 53 [l0, l1, l2, l3, l4, l5, l6, l7] [.int i0] (N, 0, 0) h Q = zE X 39 56 [l0, l1, l2, l3, l4, l5, l6, l7] [.int 1777, .int i0] (N, 0, 0) h Q := zE_sipush (n := 1777) (by decide +kernel) (by decide)
theorem e39_56 : zE X 39 56 [l0, l1, l2, l3, l4, l5, l6, l7] [.int i0, .int i1] (N, 0, 0) h Q = zE X 39 57 [l0, l1, l2, l3, l4, l5, l6, l7] [.int (i1 + i0)] (N, 0, 0) h Q := zE_iadd (by decide +kernel)
theorem e39_57 : zE X 39 57 [l0, l1, l2, l3, l4, l5, l6, l7] [.int i0] (N, 0, 0) h Q = zE X 39 60 [l0, l1, l2, l3, l4, l5, l6, l7] [.int 7919, .int i0] (N, 0, 0) h Q := zE_sipush (n := 7919) (by decide +kernel) (by decide)
theorem e39_60 : zE X 39 60 [l0, l1, l2, l3, l4, l5, l6, l7] [.int i0, .int i1] (N, 0, 0) h Q = if i0 = 0 then False else zE X 39 61 [l0, l1, l2, l3, l4, l5, l6, l7] [.int (i1 - i1 / i0 * i0)] (N, 0, 0) h Q := zE_irem (by decide +kernel)
theorem e39_61 : zE X 39 61 [l0, l1, l2, l3, l4, l5, l6, l7] [.int i0] (N, 0, 0) h Q = zE X 39 63 [l0, l1, l2, l3, l4, l5, some (.int i0), l7] [] (N, 0, 0) h Q := zE_istore (k := 6) (by decide +kernel) rfl rfl
theorem e39_63 : zE X 39 63 [l0, l1, l2, l3, l4, some (.int v), l6, l7] [] (N, 0, 0) h Q = zE X 39 65 [l0, l1, l2, l3, l4, some (.int v), l6, l7] [.int v] (N, 0, 0) h Q := zE_iload (k := 5) (by decide +kernel) rfl
theorem e39_65 : zE X 39 65 [l0, l1, l2, l3, l4, l5, l6, l7] [.int i0] (N, 0, 0) h Q = if i0 ≤ 0 then zE X 39 83 [l0, l1, l2, l3, l4, l5, l6, l7] [] (N, 0, 0) h Q else zE X 39 68 [l0, l1, l2, l3, l4, l5, l6, l7] [] (N, 0, 0) h Q := zE_if_le (off := 18) (by decide +kernel) (by decide)
theorem e39_68 : zE X 39 68 [l0, l1, l2, l3, l4, l5, some (.int v), l7] [] (N, 0, 0) h Q = zE X 39 70 [l0, l1, l2, l3, l4, l5, some (.int v), l7] [.int v] (N, 0, 0) h Q := zE_iload (k := 6) (by decide +kernel) rfl
theorem e39_70 : zE X 39 70 [l0, l1, l2, l3, l4, some (.int v), l6, l7] [.int i0] (N, 0, 0) h Q = zE X 39 72 [l0, l1, l2, l3, l4, some (.int v), l6, l7] [.int v, .int i0] (N, 0, 0) h Q := zE_iload (k := 5) (by decide +kernel) rfl
theorem e39_72 : zE X 39 72 [l0, l1, l2, l3, l4, l5, l6, l7] [.int i0, .int i1] (N, 0, 0) h Q = if i0 = 0 then False else zE X 39 73 [l0, l1, l2, l3, l4, l5, l6, l7] [.int (i1 - i1 / i0 * i0)] (N, 0, 0) h Q := zE_irem (by decide +kernel)
theorem e39_73 : zE X 39 73 [some (.ref r), l1, l2, l3, l4, l5, l6, l7] [.int i0] (N, 0, 0) h Q = zE X 39 74 [some (.ref r), l1, l2, l3, l4, l5, l6, l7] [.ref r, .int i0] (N, 0, 0) h Q := zE_aload_n (k := 0) (by decide +kernel) rfl
theorem e39_74 : zE X 39 74 [l0, l1, l2, l3, l4, l5, l6, l7] [.ref a0, .int i1] (N, 0, 0) h Q = zgf (h a0) 5 7 (fun v => zE X 39 77 [l0, l1, l2, l3, l4, l5, l6, l7] [v, .int i1] (N, 0, 0) h Q) := zE_getfield (k := 27) (nest := false) (q := 171) (by decide +kernel) rfl
theorem e39_77 : zE X 39 77 [l0, l1, some (.int v), l3, l4, l5, l6, l7] [.ref a0, .int i1] (N, 0, 0) h Q = zE X 39 78 [l0, l1, some (.int v), l3, l4, l5, l6, l7] [.int v, .ref a0, .int i1] (N, 0, 0) h Q := zE_iload_n (k := 2) (by decide +kernel) rfl
theorem e39_78 : zE X 39 78 [l0, l1, l2, l3, l4, l5, l6, l7] [.int i0, .ref a1, .int i2] (N, 0, 0) h Q = zal (h a1) 0 i0 (fun x => zE X 39 79 [l0, l1, l2, l3, l4, l5, l6, l7] [.int x, .int i2] (N, 0, 0) h Q) := zE_iaload (by decide +kernel)
theorem e39_79 : zE X 39 79 [l0, l1, l2, l3, l4, l5, l6, l7] [.int i0, .int i1] (N, 0, 0) h Q = zE X 39 80 [l0, l1, l2, l3, l4, l5, l6, l7] [.int (i1 - i0)] (N, 0, 0) h Q := zE_isub (by decide +kernel)
theorem e39_80 : zE X 39 80 [l0, l1, l2, l3, l4, l5, l6, l7] [.int i0] (N, 0, 0) h Q = zE X 39 84 [l0, l1, l2, l3, l4, l5, l6, l7] [.int i0] (N, 0, 0) h Q := zE_goto (off := 4) (by decide +kernel) (by decide)
theorem e39_83 : zE X 39 83 [l0, l1, l2, l3, l4, l5, l6, l7] [] (N, 0, 0) h Q = zE X 39 84 [l0, l1, l2, l3, l4, l5, l6, l7] [.int 0] (N, 0, 0) h Q := zE_iconst (n := 0) (by decide +kernel) (by decide)
theorem e39_84 : zE X 39 84 [l0, l1, l2, l3, l4, l5, l6, l7] [.int i0] (N, 0, 0) h Q = zE X 39 86 [l0, l1, l2, l3, l4, l5, l6, some (.int i0)] [] (N, 0, 0) h Q := zE_istore (k := 7) (by decide +kernel) rfl rfl
theorem e39_86 : zE X 39 86 [some (.ref r), l1, l2, l3, l4, l5, l6, l7] [] (N, 0, 0) h Q = zE X 39 87 [some (.ref r), l1, l2, l3, l4, l5, l6, l7] [.ref r] (N, 0, 0) h Q := zE_aload_n (k := 0) (by decide +kernel) rfl
theorem e39_87 : zE X 39 87 [l0, l1, l2, l3, l4, l5, l6, l7] [.ref a0] (N, 0, 0) h Q = zgf (h a0) 5 1 (fun v => zE X 39 90 [l0, l1, l2, l3, l4, l5, l6, l7] [v] (N, 0, 0) h Q) := zE_getfield (k := 9) (nest := false) (q := 158) (by decide +kernel) rfl
theorem e39_90 : zE X 39 90 [l0, some (.int v), l2, l3, l4, l5, l6, l7] [.ref a0] (N, 0, 0) h Q = zE X 39 91 [l0, some (.int v), l2, l3, l4, l5, l6, l7] [.int v, .ref a0] (N, 0, 0) h Q := zE_iload_n (k := 1) (by decide +kernel) rfl
theorem e39_91 : zE X 39 91 [l0, l1, l2, l3, l4, l5, l6, l7] [.int i0, .ref a1] (N, 0, 0) h Q = zal (h a1) 0 i0 (fun x => zE X 39 92 [l0, l1, l2, l3, l4, l5, l6, l7] [.int x] (N, 0, 0) h Q) := zE_iaload (by decide +kernel)
theorem e39_92 : zE X 39 92 [some (.ref r), l1, l2, l3, l4, l5, l6, l7] [.int i0] (N, 0, 0) h Q = zE X 39 93 [some (.ref r), l1, l2, l3, l4, l5, l6, l7] [.ref r, .int i0] (N, 0, 0) h Q := zE_aload_n (k := 0) (by decide +kernel) rfl
theorem e39_93 : zE X 39 93 [l0, l1, l2, l3, l4, l5, l6, l7] [.ref a0, .int i1] (N, 0, 0) h Q = zgf (h a0) 5 5 (fun v => zE X 39 96 [l0, l1, l2, l3, l4, l5, l6, l7] [v, .int i1] (N, 0, 0) h Q) := zE_getfield (k := 21) (nest := false) (q := 169) (by decide +kernel) rfl
theorem e39_96 : zE X 39 96 [l0, l1, some (.int v), l3, l4, l5, l6, l7] [.ref a0, .int i1] (N, 0, 0) h Q = zE X 39 97 [l0, l1, some (.int v), l3, l4, l5, l6, l7] [.int v, .ref a0, .int i1] (N, 0, 0) h Q := zE_iload_n (k := 2) (by decide +kernel) rfl
theorem e39_97 : zE X 39 97 [l0, l1, l2, l3, l4, l5, l6, l7] [.int i0, .ref a1, .int i2] (N, 0, 0) h Q = zal (h a1) 0 i0 (fun x => zE X 39 98 [l0, l1, l2, l3, l4, l5, l6, l7] [.int x, .int i2] (N, 0, 0) h Q) := zE_iaload (by decide +kernel)
theorem e39_98 : zE X 39 98 [some (.ref r), l1, l2, l3, l4, l5, l6, l7] [.int i0, .int i1] (N, 0, 0) h Q = zE X 39 99 [some (.ref r), l1, l2, l3, l4, l5, l6, l7] [.ref r, .int i0, .int i1] (N, 0, 0) h Q := zE_aload_n (k := 0) (by decide +kernel) rfl
theorem e39_99 : zE X 39 99 [l0, l1, l2, l3, l4, l5, l6, l7] [.ref a0, .int i1, .int i2] (N, 0, 0) h Q = zgf (h a0) 5 2 (fun v => zE X 39 102 [l0, l1, l2, l3, l4, l5, l6, l7] [v, .int i1, .int i2] (N, 0, 0) h Q) := zE_getfield (k := 15) (nest := false) (q := 161) (by decide +kernel) rfl
theorem e39_102 : zE X 39 102 [l0, some (.int v), l2, l3, l4, l5, l6, l7] [.ref a0, .int i1, .int i2] (N, 0, 0) h Q = zE X 39 103 [l0, some (.int v), l2, l3, l4, l5, l6, l7] [.int v, .ref a0, .int i1, .int i2] (N, 0, 0) h Q := zE_iload_n (k := 1) (by decide +kernel) rfl
theorem e39_103 : zE X 39 103 [l0, l1, l2, l3, l4, l5, l6, l7] [.int i0, .ref a1, .int i2, .int i3] (N, 0, 0) h Q = zal (h a1) 0 i0 (fun x => zE X 39 104 [l0, l1, l2, l3, l4, l5, l6, l7] [.int x, .int i2, .int i3] (N, 0, 0) h Q) := zE_iaload (by decide +kernel)
theorem e39_104 : zE X 39 104 [l0, l1, l2, l3, l4, l5, l6, l7] [.int i0, .int i1, .int i2] (N, 0, 0) h Q = zE X 39 105 [l0, l1, l2, l3, l4, l5, l6, l7] [.int (i1 * i0), .int i2] (N, 0, 0) h Q := zE_imul (by decide +kernel)
theorem e39_105 : zE X 39 105 [l0, l1, l2, l3, l4, l5, l6, l7] [.int i0, .int i1] (N, 0, 0) h Q = zE X 39 106 [l0, l1, l2, l3, l4, l5, l6, l7] [.int (i1 + i0)] (N, 0, 0) h Q := zE_iadd (by decide +kernel)
theorem e39_106 : zE X 39 106 [l0, l1, l2, l3, l4, l5, l6, l7] [.int i0] (N, 0, 0) h Q = zE X 39 108 [l0, l1, l2, l3, l4, l5, l6, l7] [.int 10, .int i0] (N, 0, 0) h Q := zE_bipush (n := 10) (by decide +kernel) (by decide)
theorem e39_108 : zE X 39 108 [some (.ref r), l1, l2, l3, l4, l5, l6, l7] [.int i0, .int i1] (N, 0, 0) h Q = zE X 39 109 [some (.ref r), l1, l2, l3, l4, l5, l6, l7] [.ref r, .int i0, .int i1] (N, 0, 0) h Q := zE_aload_n (k := 0) (by decide +kernel) rfl
theorem e39_109 : zE X 39 109 [l0, l1, l2, l3, l4, l5, l6, l7] [.ref a0, .int i1, .int i2] (N, 0, 0) h Q = zgf (h a0) 5 6 (fun v => zE X 39 112 [l0, l1, l2, l3, l4, l5, l6, l7] [v, .int i1, .int i2] (N, 0, 0) h Q) := zE_getfield (k := 24) (nest := false) (q := 170) (by decide +kernel) rfl
theorem e39_112 : zE X 39 112 [l0, l1, some (.int v), l3, l4, l5, l6, l7] [.ref a0, .int i1, .int i2] (N, 0, 0) h Q = zE X 39 113 [l0, l1, some (.int v), l3, l4, l5, l6, l7] [.int v, .ref a0, .int i1, .int i2] (N, 0, 0) h Q := zE_iload_n (k := 2) (by decide +kernel) rfl
theorem e39_113 : zE X 39 113 [l0, l1, l2, l3, l4, l5, l6, l7] [.int i0, .ref a1, .int i2, .int i3] (N, 0, 0) h Q = zal (h a1) 0 i0 (fun x => zE X 39 114 [l0, l1, l2, l3, l4, l5, l6, l7] [.int x, .int i2, .int i3] (N, 0, 0) h Q) := zE_iaload (by decide +kernel)
theorem e39_114 : zE X 39 114 [l0, l1, l2, l3, l4, l5, l6, l7] [.int i0, .int i1, .int i2] (N, 0, 0) h Q = zE X 39 115 [l0, l1, l2, l3, l4, l5, l6, l7] [.int (i1 * i0), .int i2] (N, 0, 0) h Q := zE_imul (by decide +kernel)
theorem e39_115 : zE X 39 115 [l0, l1, l2, l3, some (.int v), l5, l6, l7] [.int i0, .int i1] (N, 0, 0) h Q = zE X 39 117 [l0, l1, l2, l3, some (.int v), l5, l6, l7] [.int v, .int i0, .int i1] (N, 0, 0) h Q := zE_iload (k := 4) (by decide +kernel) rfl
theorem e39_117 : zE X 39 117 [l0, l1, l2, l3, l4, l5, l6, l7] [.int i0, .int i1, .int i2] (N, 0, 0) h Q = zE X 39 118 [l0, l1, l2, l3, l4, l5, l6, l7] [.int (i1 * i0), .int i2] (N, 0, 0) h Q := zE_imul (by decide +kernel)
theorem e39_118 : zE X 39 118 [l0, l1, l2, l3, l4, l5, l6, l7] [.int i0, .int i1] (N, 0, 0) h Q = zE X 39 119 [l0, l1, l2, l3, l4, l5, l6, l7] [.int (i1 + i0)] (N, 0, 0) h Q := zE_iadd (by decide +kernel)
theorem e39_119 : zE X 39 119 [l0, l1, l2, l3, l4, l5, l6, some (.int v)] [.int i0] (N, 0, 0) h Q = zE X 39 121 [l0, l1, l2, l3, l4, l5, l6, some (.int v)] [.int v, .int i0] (N, 0, 0) h Q := zE_iload (k := 7) (by decide +kernel) rfl
theorem e39_121 : zE X 39 121 [l0, l1, l2, l3, l4, l5, l6, l7] [.int i0, .int i1] (N, 0, 0) h Q = zE X 39 122 [l0, l1, l2, l3, l4, l5, l6, l7] [.int (i1 + i0)] (N, 0, 0) h Q := zE_iadd (by decide +kernel)
theorem e39_122 : zE X 39 122 [l0, l1, l2, l3, l4, l5, l6, l7] [.int i0] (N, 0, 0) h Q = Q (some (.int i0)) N h := zE_ireturn (by decide +kernel) rfl
-- 72 Sheet_worthOf (I)I
theorem e72_0 : zE X 72 0 [l0, some (.int v)] [] (N, 0, 0) h Q = zE X 72 1 [l0, some (.int v)] [.int v] (N, 0, 0) h Q := zE_iload_n (k := 1) (by decide +kernel) rfl
theorem e72_1 : zE X 72 1 [l0, l1] [.int i0] (N, 0, 0) h Q = if i0 < 0 then zE X 72 21 [l0, l1] [] (N, 0, 0) h Q else zE X 72 4 [l0, l1] [] (N, 0, 0) h Q := zE_if_lt (off := 20) (by decide +kernel) (by decide)
theorem e72_4 : zE X 72 4 [l0, some (.int v)] [] (N, 0, 0) h Q = zE X 72 5 [l0, some (.int v)] [.int v] (N, 0, 0) h Q := zE_iload_n (k := 1) (by decide +kernel) rfl
theorem e72_5 : zE X 72 5 [some (.ref r), l1] [.int i0] (N, 0, 0) h Q = zE X 72 6 [some (.ref r), l1] [.ref r, .int i0] (N, 0, 0) h Q := zE_aload_n (k := 0) (by decide +kernel) rfl
theorem e72_6 : zE X 72 6 [l0, l1] [.ref a0, .int i1] (N, 0, 0) h Q = zgf (h a0) 5 0 (fun v => zE X 72 9 [l0, l1] [v, .int i1] (N, 0, 0) h Q) := zE_getfield (k := 37) (nest := false) (q := 154) (by decide +kernel) rfl
theorem e72_9 : zE X 72 9 [l0, l1] [.int i0, .int i1] (N, 0, 0) h Q = if i0 ≤ i1 then zE X 72 21 [l0, l1] [] (N, 0, 0) h Q else zE X 72 12 [l0, l1] [] (N, 0, 0) h Q := zE_icmp_ge (off := 12) (by decide +kernel) (by decide)
theorem e72_12 : zE X 72 12 [some (.ref r), l1] [] (N, 0, 0) h Q = zE X 72 13 [some (.ref r), l1] [.ref r] (N, 0, 0) h Q := zE_aload_n (k := 0) (by decide +kernel) rfl
theorem e72_13 : zE X 72 13 [l0, l1] [.ref a0] (N, 0, 0) h Q = zgf (h a0) 5 1 (fun v => zE X 72 16 [l0, l1] [v] (N, 0, 0) h Q) := zE_getfield (k := 9) (nest := false) (q := 158) (by decide +kernel) rfl
theorem e72_16 : zE X 72 16 [l0, some (.int v)] [.ref a0] (N, 0, 0) h Q = zE X 72 17 [l0, some (.int v)] [.int v, .ref a0] (N, 0, 0) h Q := zE_iload_n (k := 1) (by decide +kernel) rfl
theorem e72_17 : zE X 72 17 [l0, l1] [.int i0, .ref a1] (N, 0, 0) h Q = zal (h a1) 0 i0 (fun x => zE X 72 18 [l0, l1] [.int x] (N, 0, 0) h Q) := zE_iaload (by decide +kernel)
theorem e72_18 : zE X 72 18 [l0, l1] [.int i0] (N, 0, 0) h Q = zE X 72 22 [l0, l1] [.int i0] (N, 0, 0) h Q := zE_goto (off := 4) (by decide +kernel) (by decide)
theorem e72_21 : zE X 72 21 [l0, l1] [] (N, 0, 0) h Q = zE X 72 22 [l0, l1] [.int 0] (N, 0, 0) h Q := zE_iconst (n := 0) (by decide +kernel) (by decide)
theorem e72_22 : zE X 72 22 [l0, l1] [.int i0] (N, 0, 0) h Q = Q (some (.int i0)) N h := zE_ireturn (by decide +kernel) rfl
-- 78 Sheet_costOf (III)I
theorem e78_0 : zE X 78 0 [some (.ref r), l1, l2, l3] [] (N, 0, 0) h Q = zE X 78 1 [some (.ref r), l1, l2, l3] [.ref r] (N, 0, 0) h Q := zE_aload_n (k := 0) (by decide +kernel) rfl
theorem e78_1 : zE X 78 1 [l0, l1, l2, l3] [.ref a0] (N, 0, 0) h Q = zgf (h a0) 5 12 (fun v => zE X 78 4 [l0, l1, l2, l3] [v] (N, 0, 0) h Q) := zE_getfield (k := 52) (nest := false) (q := 180) (by decide +kernel) rfl
theorem e78_4 : zE X 78 4 [l0, some (.int v), l2, l3] [.int i0] (N, 0, 0) h Q = zE X 78 5 [l0, some (.int v), l2, l3] [.int v, .int i0] (N, 0, 0) h Q := zE_iload_n (k := 1) (by decide +kernel) rfl
theorem e78_5 : zE X 78 5 [l0, l1, l2, l3] [.int i0, .int i1] (N, 0, 0) h Q = zE X 78 6 [l0, l1, l2, l3] [.int (i1 * i0)] (N, 0, 0) h Q := zE_imul (by decide +kernel)
theorem e78_6 : zE X 78 6 [some (.ref r), l1, l2, l3] [.int i0] (N, 0, 0) h Q = zE X 78 7 [some (.ref r), l1, l2, l3] [.ref r, .int i0] (N, 0, 0) h Q := zE_aload_n (k := 0) (by decide +kernel) rfl
theorem e78_7 : zE X 78 7 [l0, l1, l2, l3] [.ref a0, .int i1] (N, 0, 0) h Q = zgf (h a0) 5 13 (fun v => zE X 78 10 [l0, l1, l2, l3] [v, .int i1] (N, 0, 0) h Q) := zE_getfield (k := 55) (nest := false) (q := 181) (by decide +kernel) rfl
theorem e78_10 : zE X 78 10 [l0, l1, l2, some (.int v)] [.int i0, .int i1] (N, 0, 0) h Q = zE X 78 11 [l0, l1, l2, some (.int v)] [.int v, .int i0, .int i1] (N, 0, 0) h Q := zE_iload_n (k := 3) (by decide +kernel) rfl
theorem e78_11 : zE X 78 11 [l0, l1, l2, l3] [.int i0, .int i1, .int i2] (N, 0, 0) h Q = zE X 78 12 [l0, l1, l2, l3] [.int (i1 * i0), .int i2] (N, 0, 0) h Q := zE_imul (by decide +kernel)
theorem e78_12 : zE X 78 12 [l0, some (.int v), l2, l3] [.int i0, .int i1] (N, 0, 0) h Q = zE X 78 13 [l0, some (.int v), l2, l3] [.int v, .int i0, .int i1] (N, 0, 0) h Q := zE_iload_n (k := 1) (by decide +kernel) rfl
theorem e78_13 : zE X 78 13 [l0, l1, some (.int v), l3] [.int i0, .int i1, .int i2] (N, 0, 0) h Q = zE X 78 14 [l0, l1, some (.int v), l3] [.int v, .int i0, .int i1, .int i2] (N, 0, 0) h Q := zE_iload_n (k := 2) (by decide +kernel) rfl
theorem e78_14 : zE X 78 14 [l0, l1, l2, l3] [.int i0, .int i1, .int i2, .int i3] (N, 0, 0) h Q = zE X 78 15 [l0, l1, l2, l3] [.int (i1 - i0), .int i2, .int i3] (N, 0, 0) h Q := zE_isub (by decide +kernel)
theorem e78_15 : zE X 78 15 [l0, l1, l2, l3] [.int i0, .int i1, .int i2] (N, 0, 0) h Q = zE X 78 16 [l0, l1, l2, l3] [.int (i1 * i0), .int i2] (N, 0, 0) h Q := zE_imul (by decide +kernel)
theorem e78_16 : zE X 78 16 [l0, l1, l2, l3] [.int i0, .int i1] (N, 0, 0) h Q = zE X 78 17 [l0, l1, l2, l3] [.int (i1 + i0)] (N, 0, 0) h Q := zE_iadd (by decide +kernel)
theorem e78_17 : zE X 78 17 [l0, l1, l2, l3] [.int i0] (N, 0, 0) h Q = Q (some (.int i0)) N h := zE_ireturn (by decide +kernel) rfl
end ZM
end
