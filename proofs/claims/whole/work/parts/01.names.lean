-- ===== PART A: goes FIRST, ahead of the names: the tables' words, and 'selects' of the private methods out of them =====
/-- a private method of a class that the tables say can be made, by its rows of tables_1 -/
def lw_okq (q : MethodName × Nat) : Prop := (q.1.cls ≠ "java/lang/invoke/MethodHandle" ∧ q.1.cls ≠ "java/lang/invoke/VarHandle") ∧ Cond.instantiable q.1.cls q.2 ∈ tables_1 ∧ Cond.privateMethod q.1 ∈ tables_1 ∧ Cond.instanceMethod q.1 ∈ tables_1
theorem lw_p0 : lw_okq (⟨"ClockPlanner$Figures", "readRates", "(LClockPlanner$Tree;)V"⟩, 9) := ⟨⟨by decide +kernel, by decide +kernel⟩, List.mem_of_getElem? (i := 97) (by decide +kernel), List.mem_of_getElem? (i := 256) (by decide +kernel), List.mem_of_getElem? (i := 257) (by decide +kernel)⟩
theorem lw_p1 : lw_okq (⟨"ClockPlanner$Figures", "readPaths", "(LClockPlanner$Tree;)V"⟩, 9) := ⟨⟨by decide +kernel, by decide +kernel⟩, List.mem_of_getElem? (i := 97) (by decide +kernel), List.mem_of_getElem? (i := 266) (by decide +kernel), List.mem_of_getElem? (i := 267) (by decide +kernel)⟩
theorem lw_p2 : lw_okq (⟨"ClockPlanner$Figures", "readBelow", "(LClockPlanner$Tree;)V"⟩, 9) := ⟨⟨by decide +kernel, by decide +kernel⟩, List.mem_of_getElem? (i := 97) (by decide +kernel), List.mem_of_getElem? (i := 270) (by decide +kernel), List.mem_of_getElem? (i := 271) (by decide +kernel)⟩
theorem lw_p3 : lw_okq (⟨"ClockPlanner$Figures", "readGates", "(LClockPlanner$Tree;)V"⟩, 9) := ⟨⟨by decide +kernel, by decide +kernel⟩, List.mem_of_getElem? (i := 97) (by decide +kernel), List.mem_of_getElem? (i := 274) (by decide +kernel), List.mem_of_getElem? (i := 275) (by decide +kernel)⟩
theorem lw_p4 : lw_okq (⟨"ClockPlanner", "refuse", "(I)I"⟩, 11) := ⟨⟨by decide +kernel, by decide +kernel⟩, List.mem_of_getElem? (i := 13) (by decide +kernel), List.mem_of_getElem? (i := 327) (by decide +kernel), List.mem_of_getElem? (i := 328) (by decide +kernel)⟩
theorem lw_p5 : lw_okq (⟨"ClockPlanner", "begin", "()V"⟩, 11) := ⟨⟨by decide +kernel, by decide +kernel⟩, List.mem_of_getElem? (i := 13) (by decide +kernel), List.mem_of_getElem? (i := 331) (by decide +kernel), List.mem_of_getElem? (i := 332) (by decide +kernel)⟩
theorem lw_p6 : lw_okq (⟨"ClockPlanner", "finishRates", "(I)I"⟩, 11) := ⟨⟨by decide +kernel, by decide +kernel⟩, List.mem_of_getElem? (i := 13) (by decide +kernel), List.mem_of_getElem? (i := 339) (by decide +kernel), List.mem_of_getElem? (i := 340) (by decide +kernel)⟩
theorem lw_p7 : lw_okq (⟨"ClockPlanner", "refusalOfRates", "()I"⟩, 11) := ⟨⟨by decide +kernel, by decide +kernel⟩, List.mem_of_getElem? (i := 13) (by decide +kernel), List.mem_of_getElem? (i := 343) (by decide +kernel), List.mem_of_getElem? (i := 344) (by decide +kernel)⟩
theorem lw_p8 : lw_okq (⟨"ClockPlanner", "finish", "(I)I"⟩, 11) := ⟨⟨by decide +kernel, by decide +kernel⟩, List.mem_of_getElem? (i := 13) (by decide +kernel), List.mem_of_getElem? (i := 356) (by decide +kernel), List.mem_of_getElem? (i := 357) (by decide +kernel)⟩
theorem lw_p9 : lw_okq (⟨"ClockPlanner", "refusalOfNode", "(III)I"⟩, 11) := ⟨⟨by decide +kernel, by decide +kernel⟩, List.mem_of_getElem? (i := 13) (by decide +kernel), List.mem_of_getElem? (i := 372) (by decide +kernel), List.mem_of_getElem? (i := 373) (by decide +kernel)⟩
theorem lw_p10 : lw_okq (⟨"ClockPlanner", "refusalOfPlace", "(I)I"⟩, 11) := ⟨⟨by decide +kernel, by decide +kernel⟩, List.mem_of_getElem? (i := 13) (by decide +kernel), List.mem_of_getElem? (i := 376) (by decide +kernel), List.mem_of_getElem? (i := 377) (by decide +kernel)⟩
theorem lw_p11 : lw_okq (⟨"ClockPlanner", "isNode", "(I)Z"⟩, 11) := ⟨⟨by decide +kernel, by decide +kernel⟩, List.mem_of_getElem? (i := 13) (by decide +kernel), List.mem_of_getElem? (i := 380) (by decide +kernel), List.mem_of_getElem? (i := 381) (by decide +kernel)⟩
theorem lw_p12 : lw_okq (⟨"ClockPlanner", "refusalOfLeaf", "(IIII)I"⟩, 11) := ⟨⟨by decide +kernel, by decide +kernel⟩, List.mem_of_getElem? (i := 13) (by decide +kernel), List.mem_of_getElem? (i := 398) (by decide +kernel), List.mem_of_getElem? (i := 399) (by decide +kernel)⟩
theorem lw_p13 : lw_okq (⟨"ClockPlanner", "nodesOf", "(I)I"⟩, 11) := ⟨⟨by decide +kernel, by decide +kernel⟩, List.mem_of_getElem? (i := 13) (by decide +kernel), List.mem_of_getElem? (i := 402) (by decide +kernel), List.mem_of_getElem? (i := 403) (by decide +kernel)⟩
theorem lw_p14 : lw_okq (⟨"ClockPlanner", "isLeaf", "(I)Z"⟩, 11) := ⟨⟨by decide +kernel, by decide +kernel⟩, List.mem_of_getElem? (i := 13) (by decide +kernel), List.mem_of_getElem? (i := 424) (by decide +kernel), List.mem_of_getElem? (i := 425) (by decide +kernel)⟩
theorem lw_p15 : lw_okq (⟨"ClockPlanner", "openGates", "()I"⟩, 11) := ⟨⟨by decide +kernel, by decide +kernel⟩, List.mem_of_getElem? (i := 13) (by decide +kernel), List.mem_of_getElem? (i := 428) (by decide +kernel), List.mem_of_getElem? (i := 429) (by decide +kernel)⟩
def lw_privs_1 : List (MethodName × Nat) := [(⟨"ClockPlanner$Figures", "readRates", "(LClockPlanner$Tree;)V"⟩, 9), (⟨"ClockPlanner$Figures", "readPaths", "(LClockPlanner$Tree;)V"⟩, 9), (⟨"ClockPlanner$Figures", "readBelow", "(LClockPlanner$Tree;)V"⟩, 9), (⟨"ClockPlanner$Figures", "readGates", "(LClockPlanner$Tree;)V"⟩, 9), (⟨"ClockPlanner", "refuse", "(I)I"⟩, 11), (⟨"ClockPlanner", "begin", "()V"⟩, 11), (⟨"ClockPlanner", "finishRates", "(I)I"⟩, 11), (⟨"ClockPlanner", "refusalOfRates", "()I"⟩, 11), (⟨"ClockPlanner", "finish", "(I)I"⟩, 11), (⟨"ClockPlanner", "refusalOfNode", "(III)I"⟩, 11), (⟨"ClockPlanner", "refusalOfPlace", "(I)I"⟩, 11), (⟨"ClockPlanner", "isNode", "(I)Z"⟩, 11), (⟨"ClockPlanner", "refusalOfLeaf", "(IIII)I"⟩, 11), (⟨"ClockPlanner", "nodesOf", "(I)I"⟩, 11), (⟨"ClockPlanner", "isLeaf", "(I)Z"⟩, 11), (⟨"ClockPlanner", "openGates", "()I"⟩, 11)]
theorem lw_r1 : ∀ q ∈ lw_privs_1, lw_okq q := List.forall_mem_cons.mpr ⟨lw_p0, List.forall_mem_cons.mpr ⟨lw_p1, List.forall_mem_cons.mpr ⟨lw_p2, List.forall_mem_cons.mpr ⟨lw_p3, List.forall_mem_cons.mpr ⟨lw_p4, List.forall_mem_cons.mpr ⟨lw_p5, List.forall_mem_cons.mpr ⟨lw_p6, List.forall_mem_cons.mpr ⟨lw_p7, List.forall_mem_cons.mpr ⟨lw_p8, List.forall_mem_cons.mpr ⟨lw_p9, List.forall_mem_cons.mpr ⟨lw_p10, List.forall_mem_cons.mpr ⟨lw_p11, List.forall_mem_cons.mpr ⟨lw_p12, List.forall_mem_cons.mpr ⟨lw_p13, List.forall_mem_cons.mpr ⟨lw_p14, List.forall_mem_cons.mpr ⟨lw_p15, fun _ h => absurd h List.not_mem_nil⟩⟩⟩⟩⟩⟩⟩⟩⟩⟩⟩⟩⟩⟩⟩⟩
theorem lw_p16 : lw_okq (⟨"ClockPlanner", "skewOf", "(I)I"⟩, 11) := ⟨⟨by decide +kernel, by decide +kernel⟩, List.mem_of_getElem? (i := 13) (by decide +kernel), List.mem_of_getElem? (i := 436) (by decide +kernel), List.mem_of_getElem? (i := 437) (by decide +kernel)⟩
theorem lw_p17 : lw_okq (⟨"ClockPlanner", "latestOf", "(I)I"⟩, 11) := ⟨⟨by decide +kernel, by decide +kernel⟩, List.mem_of_getElem? (i := 13) (by decide +kernel), List.mem_of_getElem? (i := 440) (by decide +kernel), List.mem_of_getElem? (i := 441) (by decide +kernel)⟩
theorem lw_p18 : lw_okq (⟨"ClockPlanner", "runsIn", "(II)Z"⟩, 11) := ⟨⟨by decide +kernel, by decide +kernel⟩, List.mem_of_getElem? (i := 13) (by decide +kernel), List.mem_of_getElem? (i := 444) (by decide +kernel), List.mem_of_getElem? (i := 445) (by decide +kernel)⟩
theorem lw_p19 : lw_okq (⟨"ClockPlanner", "earliestOf", "(I)I"⟩, 11) := ⟨⟨by decide +kernel, by decide +kernel⟩, List.mem_of_getElem? (i := 13) (by decide +kernel), List.mem_of_getElem? (i := 452) (by decide +kernel), List.mem_of_getElem? (i := 453) (by decide +kernel)⟩
theorem lw_p20 : lw_okq (⟨"ClockPlanner", "mendingOf", "(I)I"⟩, 11) := ⟨⟨by decide +kernel, by decide +kernel⟩, List.mem_of_getElem? (i := 13) (by decide +kernel), List.mem_of_getElem? (i := 468) (by decide +kernel), List.mem_of_getElem? (i := 469) (by decide +kernel)⟩
theorem lw_p21 : lw_okq (⟨"ClockPlanner", "leastAllowed", "(I)I"⟩, 11) := ⟨⟨by decide +kernel, by decide +kernel⟩, List.mem_of_getElem? (i := 13) (by decide +kernel), List.mem_of_getElem? (i := 472) (by decide +kernel), List.mem_of_getElem? (i := 473) (by decide +kernel)⟩
theorem lw_p22 : lw_okq (⟨"ClockPlanner", "lackOf", "(III)I"⟩, 11) := ⟨⟨by decide +kernel, by decide +kernel⟩, List.mem_of_getElem? (i := 13) (by decide +kernel), List.mem_of_getElem? (i := 476) (by decide +kernel), List.mem_of_getElem? (i := 477) (by decide +kernel)⟩
theorem lw_p23 : lw_okq (⟨"ClockPlanner$ShedSearch", "powerWithout", "(LClockPlanner$Tree;LClockPlanner$Figures;I)J"⟩, 2) := ⟨⟨by decide +kernel, by decide +kernel⟩, List.mem_of_getElem? (i := 216) (by decide +kernel), List.mem_of_getElem? (i := 499) (by decide +kernel), List.mem_of_getElem? (i := 500) (by decide +kernel)⟩
theorem lw_p24 : lw_okq (⟨"ClockPlanner$ShedSearch", "cheapest", "(LClockPlanner$Tree;LClockPlanner$Figures;JI)I"⟩, 2) := ⟨⟨by decide +kernel, by decide +kernel⟩, List.mem_of_getElem? (i := 216) (by decide +kernel), List.mem_of_getElem? (i := 504) (by decide +kernel), List.mem_of_getElem? (i := 505) (by decide +kernel)⟩
theorem lw_p25 : lw_okq (⟨"ClockPlanner$ShedSearch", "costOf", "(LClockPlanner$Tree;I)I"⟩, 2) := ⟨⟨by decide +kernel, by decide +kernel⟩, List.mem_of_getElem? (i := 216) (by decide +kernel), List.mem_of_getElem? (i := 508) (by decide +kernel), List.mem_of_getElem? (i := 509) (by decide +kernel)⟩
theorem lw_p26 : lw_okq (⟨"ClockPlanner$Tape", "readNumber", "()I"⟩, 11) := ⟨⟨by decide +kernel, by decide +kernel⟩, List.mem_of_getElem? (i := 166) (by decide +kernel), List.mem_of_getElem? (i := 542) (by decide +kernel), List.mem_of_getElem? (i := 543) (by decide +kernel)⟩
theorem lw_p27 : lw_okq (⟨"ClockPlanner$Tape", "readDigit", "(II)I"⟩, 11) := ⟨⟨by decide +kernel, by decide +kernel⟩, List.mem_of_getElem? (i := 166) (by decide +kernel), List.mem_of_getElem? (i := 546) (by decide +kernel), List.mem_of_getElem? (i := 547) (by decide +kernel)⟩
theorem lw_p28 : lw_okq (⟨"ClockPlanner$Tape", "readSign", "(C)Z"⟩, 11) := ⟨⟨by decide +kernel, by decide +kernel⟩, List.mem_of_getElem? (i := 166) (by decide +kernel), List.mem_of_getElem? (i := 550) (by decide +kernel), List.mem_of_getElem? (i := 551) (by decide +kernel)⟩
theorem lw_p29 : lw_okq (⟨"ClockPlanner$Tape", "readLeaf", "()Z"⟩, 11) := ⟨⟨by decide +kernel, by decide +kernel⟩, List.mem_of_getElem? (i := 166) (by decide +kernel), List.mem_of_getElem? (i := 554) (by decide +kernel), List.mem_of_getElem? (i := 555) (by decide +kernel)⟩
theorem lw_p30 : lw_okq (⟨"ClockPlanner$Tape", "readStep", "()Z"⟩, 11) := ⟨⟨by decide +kernel, by decide +kernel⟩, List.mem_of_getElem? (i := 166) (by decide +kernel), List.mem_of_getElem? (i := 558) (by decide +kernel), List.mem_of_getElem? (i := 559) (by decide +kernel)⟩
theorem lw_p31 : lw_okq (⟨"ClockPlanner$Tape", "readKind", "()I"⟩, 11) := ⟨⟨by decide +kernel, by decide +kernel⟩, List.mem_of_getElem? (i := 166) (by decide +kernel), List.mem_of_getElem? (i := 562) (by decide +kernel), List.mem_of_getElem? (i := 563) (by decide +kernel)⟩
def lw_privs_2 : List (MethodName × Nat) := [(⟨"ClockPlanner", "skewOf", "(I)I"⟩, 11), (⟨"ClockPlanner", "latestOf", "(I)I"⟩, 11), (⟨"ClockPlanner", "runsIn", "(II)Z"⟩, 11), (⟨"ClockPlanner", "earliestOf", "(I)I"⟩, 11), (⟨"ClockPlanner", "mendingOf", "(I)I"⟩, 11), (⟨"ClockPlanner", "leastAllowed", "(I)I"⟩, 11), (⟨"ClockPlanner", "lackOf", "(III)I"⟩, 11), (⟨"ClockPlanner$ShedSearch", "powerWithout", "(LClockPlanner$Tree;LClockPlanner$Figures;I)J"⟩, 2), (⟨"ClockPlanner$ShedSearch", "cheapest", "(LClockPlanner$Tree;LClockPlanner$Figures;JI)I"⟩, 2), (⟨"ClockPlanner$ShedSearch", "costOf", "(LClockPlanner$Tree;I)I"⟩, 2), (⟨"ClockPlanner$Tape", "readNumber", "()I"⟩, 11), (⟨"ClockPlanner$Tape", "readDigit", "(II)I"⟩, 11), (⟨"ClockPlanner$Tape", "readSign", "(C)Z"⟩, 11), (⟨"ClockPlanner$Tape", "readLeaf", "()Z"⟩, 11), (⟨"ClockPlanner$Tape", "readStep", "()Z"⟩, 11), (⟨"ClockPlanner$Tape", "readKind", "()I"⟩, 11)]
theorem lw_r2 : ∀ q ∈ lw_privs_2, lw_okq q := List.forall_mem_cons.mpr ⟨lw_p16, List.forall_mem_cons.mpr ⟨lw_p17, List.forall_mem_cons.mpr ⟨lw_p18, List.forall_mem_cons.mpr ⟨lw_p19, List.forall_mem_cons.mpr ⟨lw_p20, List.forall_mem_cons.mpr ⟨lw_p21, List.forall_mem_cons.mpr ⟨lw_p22, List.forall_mem_cons.mpr ⟨lw_p23, List.forall_mem_cons.mpr ⟨lw_p24, List.forall_mem_cons.mpr ⟨lw_p25, List.forall_mem_cons.mpr ⟨lw_p26, List.forall_mem_cons.mpr ⟨lw_p27, List.forall_mem_cons.mpr ⟨lw_p28, List.forall_mem_cons.mpr ⟨lw_p29, List.forall_mem_cons.mpr ⟨lw_p30, List.forall_mem_cons.mpr ⟨lw_p31, fun _ h => absurd h List.not_mem_nil⟩⟩⟩⟩⟩⟩⟩⟩⟩⟩⟩⟩⟩⟩⟩⟩
theorem lw_p32 : lw_okq (⟨"ClockPlanner$Tape", "readNumberOf", "(I)I"⟩, 11) := ⟨⟨by decide +kernel, by decide +kernel⟩, List.mem_of_getElem? (i := 166) (by decide +kernel), List.mem_of_getElem? (i := 566) (by decide +kernel), List.mem_of_getElem? (i := 567) (by decide +kernel)⟩
theorem lw_p33 : lw_okq (⟨"ClockPlanner", "stepFrom", "(III)I"⟩, 11) := ⟨⟨by decide +kernel, by decide +kernel⟩, List.mem_of_getElem? (i := 13) (by decide +kernel), List.mem_of_getElem? (i := 570) (by decide +kernel), List.mem_of_getElem? (i := 571) (by decide +kernel)⟩
theorem lw_p34 : lw_okq (⟨"ClockPlanner", "giveUpLaying", "(II)I"⟩, 11) := ⟨⟨by decide +kernel, by decide +kernel⟩, List.mem_of_getElem? (i := 13) (by decide +kernel), List.mem_of_getElem? (i := 574) (by decide +kernel), List.mem_of_getElem? (i := 575) (by decide +kernel)⟩
theorem lw_p35 : lw_okq (⟨"ClockPlanner", "leavesOf", "(IZ)I"⟩, 11) := ⟨⟨by decide +kernel, by decide +kernel⟩, List.mem_of_getElem? (i := 13) (by decide +kernel), List.mem_of_getElem? (i := 608) (by decide +kernel), List.mem_of_getElem? (i := 609) (by decide +kernel)⟩
theorem lw_p36 : lw_okq (⟨"ClockPlanner", "powerOfAll", "()J"⟩, 11) := ⟨⟨by decide +kernel, by decide +kernel⟩, List.mem_of_getElem? (i := 13) (by decide +kernel), List.mem_of_getElem? (i := 616) (by decide +kernel), List.mem_of_getElem? (i := 617) (by decide +kernel)⟩
theorem lw_p37 : lw_okq (⟨"ClockPlanner$WaySearch", "findAt", "(LClockPlanner$Tree;LClockPlanner$Figures;IJJ)Z"⟩, 4) := ⟨⟨by decide +kernel, by decide +kernel⟩, List.mem_of_getElem? (i := 229) (by decide +kernel), List.mem_of_getElem? (i := 629) (by decide +kernel), List.mem_of_getElem? (i := 630) (by decide +kernel)⟩
theorem lw_p38 : lw_okq (⟨"ClockPlanner$WaySearch", "reaches", "(JJJJ)Z"⟩, 4) := ⟨⟨by decide +kernel, by decide +kernel⟩, List.mem_of_getElem? (i := 229) (by decide +kernel), List.mem_of_getElem? (i := 633) (by decide +kernel), List.mem_of_getElem? (i := 634) (by decide +kernel)⟩
theorem lw_p39 : lw_okq (⟨"ClockPlanner$WaySearch", "reachesByTwo", "(JJJJ)Z"⟩, 4) := ⟨⟨by decide +kernel, by decide +kernel⟩, List.mem_of_getElem? (i := 229) (by decide +kernel), List.mem_of_getElem? (i := 640) (by decide +kernel), List.mem_of_getElem? (i := 641) (by decide +kernel)⟩
theorem lw_p40 : lw_okq (⟨"ClockPlanner", "placeOf", "(I)I"⟩, 11) := ⟨⟨by decide +kernel, by decide +kernel⟩, List.mem_of_getElem? (i := 13) (by decide +kernel), List.mem_of_getElem? (i := 650) (by decide +kernel), List.mem_of_getElem? (i := 651) (by decide +kernel)⟩
theorem lw_p41 : lw_okq (⟨"ClockPlanner", "runningNodes", "()I"⟩, 11) := ⟨⟨by decide +kernel, by decide +kernel⟩, List.mem_of_getElem? (i := 13) (by decide +kernel), List.mem_of_getElem? (i := 665) (by decide +kernel), List.mem_of_getElem? (i := 666) (by decide +kernel)⟩
theorem lw_p42 : lw_okq (⟨"ClockPlanner", "contentLeaves", "()I"⟩, 11) := ⟨⟨by decide +kernel, by decide +kernel⟩, List.mem_of_getElem? (i := 13) (by decide +kernel), List.mem_of_getElem? (i := 669) (by decide +kernel), List.mem_of_getElem? (i := 670) (by decide +kernel)⟩
theorem lw_p43 : lw_okq (⟨"ClockPlanner", "sumOfPads", "()I"⟩, 11) := ⟨⟨by decide +kernel, by decide +kernel⟩, List.mem_of_getElem? (i := 13) (by decide +kernel), List.mem_of_getElem? (i := 673) (by decide +kernel), List.mem_of_getElem? (i := 674) (by decide +kernel)⟩
theorem lw_p44 : lw_okq (⟨"ClockPlanner", "greatestDepth", "()I"⟩, 11) := ⟨⟨by decide +kernel, by decide +kernel⟩, List.mem_of_getElem? (i := 13) (by decide +kernel), List.mem_of_getElem? (i := 677) (by decide +kernel), List.mem_of_getElem? (i := 678) (by decide +kernel)⟩
theorem lw_p45 : lw_okq (⟨"ClockPlanner", "skewedGroups", "()I"⟩, 11) := ⟨⟨by decide +kernel, by decide +kernel⟩, List.mem_of_getElem? (i := 13) (by decide +kernel), List.mem_of_getElem? (i := 681) (by decide +kernel), List.mem_of_getElem? (i := 682) (by decide +kernel)⟩
theorem lw_p46 : lw_okq (⟨"ClockPlannerModel", "refuse", "(I)I"⟩, 25) := ⟨⟨by decide +kernel, by decide +kernel⟩, List.mem_of_getElem? (i := 705) (by decide +kernel), List.mem_of_getElem? (i := 795) (by decide +kernel), List.mem_of_getElem? (i := 796) (by decide +kernel)⟩
theorem lw_p47 : lw_okq (⟨"ClockPlannerModel", "keeps", "()V"⟩, 25) := ⟨⟨by decide +kernel, by decide +kernel⟩, List.mem_of_getElem? (i := 705) (by decide +kernel), List.mem_of_getElem? (i := 799) (by decide +kernel), List.mem_of_getElem? (i := 800) (by decide +kernel)⟩
def lw_privs_3 : List (MethodName × Nat) := [(⟨"ClockPlanner$Tape", "readNumberOf", "(I)I"⟩, 11), (⟨"ClockPlanner", "stepFrom", "(III)I"⟩, 11), (⟨"ClockPlanner", "giveUpLaying", "(II)I"⟩, 11), (⟨"ClockPlanner", "leavesOf", "(IZ)I"⟩, 11), (⟨"ClockPlanner", "powerOfAll", "()J"⟩, 11), (⟨"ClockPlanner$WaySearch", "findAt", "(LClockPlanner$Tree;LClockPlanner$Figures;IJJ)Z"⟩, 4), (⟨"ClockPlanner$WaySearch", "reaches", "(JJJJ)Z"⟩, 4), (⟨"ClockPlanner$WaySearch", "reachesByTwo", "(JJJJ)Z"⟩, 4), (⟨"ClockPlanner", "placeOf", "(I)I"⟩, 11), (⟨"ClockPlanner", "runningNodes", "()I"⟩, 11), (⟨"ClockPlanner", "contentLeaves", "()I"⟩, 11), (⟨"ClockPlanner", "sumOfPads", "()I"⟩, 11), (⟨"ClockPlanner", "greatestDepth", "()I"⟩, 11), (⟨"ClockPlanner", "skewedGroups", "()I"⟩, 11), (⟨"ClockPlannerModel", "refuse", "(I)I"⟩, 25), (⟨"ClockPlannerModel", "keeps", "()V"⟩, 25)]
theorem lw_r3 : ∀ q ∈ lw_privs_3, lw_okq q := List.forall_mem_cons.mpr ⟨lw_p32, List.forall_mem_cons.mpr ⟨lw_p33, List.forall_mem_cons.mpr ⟨lw_p34, List.forall_mem_cons.mpr ⟨lw_p35, List.forall_mem_cons.mpr ⟨lw_p36, List.forall_mem_cons.mpr ⟨lw_p37, List.forall_mem_cons.mpr ⟨lw_p38, List.forall_mem_cons.mpr ⟨lw_p39, List.forall_mem_cons.mpr ⟨lw_p40, List.forall_mem_cons.mpr ⟨lw_p41, List.forall_mem_cons.mpr ⟨lw_p42, List.forall_mem_cons.mpr ⟨lw_p43, List.forall_mem_cons.mpr ⟨lw_p44, List.forall_mem_cons.mpr ⟨lw_p45, List.forall_mem_cons.mpr ⟨lw_p46, List.forall_mem_cons.mpr ⟨lw_p47, fun _ h => absurd h List.not_mem_nil⟩⟩⟩⟩⟩⟩⟩⟩⟩⟩⟩⟩⟩⟩⟩⟩
theorem lw_p48 : lw_okq (⟨"ClockPlannerModel", "contents", "()I"⟩, 25) := ⟨⟨by decide +kernel, by decide +kernel⟩, List.mem_of_getElem? (i := 705) (by decide +kernel), List.mem_of_getElem? (i := 803) (by decide +kernel), List.mem_of_getElem? (i := 804) (by decide +kernel)⟩
theorem lw_p49 : lw_okq (⟨"ClockPlannerModel", "n", "(II)I"⟩, 25) := ⟨⟨by decide +kernel, by decide +kernel⟩, List.mem_of_getElem? (i := 705) (by decide +kernel), List.mem_of_getElem? (i := 807) (by decide +kernel), List.mem_of_getElem? (i := 808) (by decide +kernel)⟩
theorem lw_p50 : lw_okq (⟨"ClockPlannerModel", "isContent", "(I)Z"⟩, 25) := ⟨⟨by decide +kernel, by decide +kernel⟩, List.mem_of_getElem? (i := 705) (by decide +kernel), List.mem_of_getElem? (i := 811) (by decide +kernel), List.mem_of_getElem? (i := 812) (by decide +kernel)⟩
theorem lw_p51 : lw_okq (⟨"ClockPlannerModel", "below", "(I)J"⟩, 25) := ⟨⟨by decide +kernel, by decide +kernel⟩, List.mem_of_getElem? (i := 705) (by decide +kernel), List.mem_of_getElem? (i := 815) (by decide +kernel), List.mem_of_getElem? (i := 816) (by decide +kernel)⟩
theorem lw_p52 : lw_okq (⟨"ClockPlannerModel", "product", "(IZ)J"⟩, 25) := ⟨⟨by decide +kernel, by decide +kernel⟩, List.mem_of_getElem? (i := 705) (by decide +kernel), List.mem_of_getElem? (i := 819) (by decide +kernel), List.mem_of_getElem? (i := 820) (by decide +kernel)⟩
theorem lw_p53 : lw_okq (⟨"ClockPlannerModel", "above", "(I)J"⟩, 25) := ⟨⟨by decide +kernel, by decide +kernel⟩, List.mem_of_getElem? (i := 705) (by decide +kernel), List.mem_of_getElem? (i := 826) (by decide +kernel), List.mem_of_getElem? (i := 827) (by decide +kernel)⟩
theorem lw_p54 : lw_okq (⟨"ClockPlannerModel", "settles", "(II)I"⟩, 25) := ⟨⟨by decide +kernel, by decide +kernel⟩, List.mem_of_getElem? (i := 705) (by decide +kernel), List.mem_of_getElem? (i := 830) (by decide +kernel), List.mem_of_getElem? (i := 831) (by decide +kernel)⟩
theorem lw_p55 : lw_okq (⟨"ClockPlannerModel", "isAnyTooFast", "()Z"⟩, 25) := ⟨⟨by decide +kernel, by decide +kernel⟩, List.mem_of_getElem? (i := 705) (by decide +kernel), List.mem_of_getElem? (i := 834) (by decide +kernel), List.mem_of_getElem? (i := 835) (by decide +kernel)⟩
theorem lw_p56 : lw_okq (⟨"ClockPlannerModel", "isTooFast", "(I)Z"⟩, 25) := ⟨⟨by decide +kernel, by decide +kernel⟩, List.mem_of_getElem? (i := 705) (by decide +kernel), List.mem_of_getElem? (i := 838) (by decide +kernel), List.mem_of_getElem? (i := 839) (by decide +kernel)⟩
theorem lw_p57 : lw_okq (⟨"ClockPlannerModel", "goesBack", "()V"⟩, 25) := ⟨⟨by decide +kernel, by decide +kernel⟩, List.mem_of_getElem? (i := 705) (by decide +kernel), List.mem_of_getElem? (i := 843) (by decide +kernel), List.mem_of_getElem? (i := 844) (by decide +kernel)⟩
theorem lw_p58 : lw_okq (⟨"ClockPlannerModel", "remember", "()V"⟩, 25) := ⟨⟨by decide +kernel, by decide +kernel⟩, List.mem_of_getElem? (i := 705) (by decide +kernel), List.mem_of_getElem? (i := 847) (by decide +kernel), List.mem_of_getElem? (i := 848) (by decide +kernel)⟩
theorem lw_p59 : lw_okq (⟨"ClockPlannerModel", "tryAdd", "(III)I"⟩, 25) := ⟨⟨by decide +kernel, by decide +kernel⟩, List.mem_of_getElem? (i := 705) (by decide +kernel), List.mem_of_getElem? (i := 856) (by decide +kernel), List.mem_of_getElem? (i := 857) (by decide +kernel)⟩
theorem lw_p60 : lw_okq (⟨"ClockPlannerModel", "whyNotBelow", "(I)I"⟩, 25) := ⟨⟨by decide +kernel, by decide +kernel⟩, List.mem_of_getElem? (i := 705) (by decide +kernel), List.mem_of_getElem? (i := 860) (by decide +kernel), List.mem_of_getElem? (i := 861) (by decide +kernel)⟩
theorem lw_p61 : lw_okq (⟨"ClockPlannerModel", "isNode", "(I)Z"⟩, 25) := ⟨⟨by decide +kernel, by decide +kernel⟩, List.mem_of_getElem? (i := 705) (by decide +kernel), List.mem_of_getElem? (i := 864) (by decide +kernel), List.mem_of_getElem? (i := 865) (by decide +kernel)⟩
theorem lw_p62 : lw_okq (⟨"ClockPlannerModel", "isLeaf", "(I)Z"⟩, 25) := ⟨⟨by decide +kernel, by decide +kernel⟩, List.mem_of_getElem? (i := 705) (by decide +kernel), List.mem_of_getElem? (i := 868) (by decide +kernel), List.mem_of_getElem? (i := 869) (by decide +kernel)⟩
theorem lw_p63 : lw_okq (⟨"ClockPlannerModel", "depth", "(I)I"⟩, 25) := ⟨⟨by decide +kernel, by decide +kernel⟩, List.mem_of_getElem? (i := 705) (by decide +kernel), List.mem_of_getElem? (i := 872) (by decide +kernel), List.mem_of_getElem? (i := 873) (by decide +kernel)⟩
def lw_privs_4 : List (MethodName × Nat) := [(⟨"ClockPlannerModel", "contents", "()I"⟩, 25), (⟨"ClockPlannerModel", "n", "(II)I"⟩, 25), (⟨"ClockPlannerModel", "isContent", "(I)Z"⟩, 25), (⟨"ClockPlannerModel", "below", "(I)J"⟩, 25), (⟨"ClockPlannerModel", "product", "(IZ)J"⟩, 25), (⟨"ClockPlannerModel", "above", "(I)J"⟩, 25), (⟨"ClockPlannerModel", "settles", "(II)I"⟩, 25), (⟨"ClockPlannerModel", "isAnyTooFast", "()Z"⟩, 25), (⟨"ClockPlannerModel", "isTooFast", "(I)Z"⟩, 25), (⟨"ClockPlannerModel", "goesBack", "()V"⟩, 25), (⟨"ClockPlannerModel", "remember", "()V"⟩, 25), (⟨"ClockPlannerModel", "tryAdd", "(III)I"⟩, 25), (⟨"ClockPlannerModel", "whyNotBelow", "(I)I"⟩, 25), (⟨"ClockPlannerModel", "isNode", "(I)Z"⟩, 25), (⟨"ClockPlannerModel", "isLeaf", "(I)Z"⟩, 25), (⟨"ClockPlannerModel", "depth", "(I)I"⟩, 25)]
theorem lw_r4 : ∀ q ∈ lw_privs_4, lw_okq q := List.forall_mem_cons.mpr ⟨lw_p48, List.forall_mem_cons.mpr ⟨lw_p49, List.forall_mem_cons.mpr ⟨lw_p50, List.forall_mem_cons.mpr ⟨lw_p51, List.forall_mem_cons.mpr ⟨lw_p52, List.forall_mem_cons.mpr ⟨lw_p53, List.forall_mem_cons.mpr ⟨lw_p54, List.forall_mem_cons.mpr ⟨lw_p55, List.forall_mem_cons.mpr ⟨lw_p56, List.forall_mem_cons.mpr ⟨lw_p57, List.forall_mem_cons.mpr ⟨lw_p58, List.forall_mem_cons.mpr ⟨lw_p59, List.forall_mem_cons.mpr ⟨lw_p60, List.forall_mem_cons.mpr ⟨lw_p61, List.forall_mem_cons.mpr ⟨lw_p62, List.forall_mem_cons.mpr ⟨lw_p63, fun _ h => absurd h List.not_mem_nil⟩⟩⟩⟩⟩⟩⟩⟩⟩⟩⟩⟩⟩⟩⟩⟩
theorem lw_p64 : lw_okq (⟨"ClockPlannerModel", "comes", "(III)I"⟩, 25) := ⟨⟨by decide +kernel, by decide +kernel⟩, List.mem_of_getElem? (i := 705) (by decide +kernel), List.mem_of_getElem? (i := 881) (by decide +kernel), List.mem_of_getElem? (i := 882) (by decide +kernel)⟩
theorem lw_p65 : lw_okq (⟨"ClockPlannerModel", "put", "(IIJ)V"⟩, 25) := ⟨⟨by decide +kernel, by decide +kernel⟩, List.mem_of_getElem? (i := 705) (by decide +kernel), List.mem_of_getElem? (i := 885) (by decide +kernel), List.mem_of_getElem? (i := 886) (by decide +kernel)⟩
theorem lw_p66 : lw_okq (⟨"ClockPlannerModel", "added", "(I)I"⟩, 25) := ⟨⟨by decide +kernel, by decide +kernel⟩, List.mem_of_getElem? (i := 705) (by decide +kernel), List.mem_of_getElem? (i := 889) (by decide +kernel), List.mem_of_getElem? (i := 890) (by decide +kernel)⟩
theorem lw_p67 : lw_okq (⟨"ClockPlannerModel", "tryLeaf", "(IIIII)I"⟩, 25) := ⟨⟨by decide +kernel, by decide +kernel⟩, List.mem_of_getElem? (i := 705) (by decide +kernel), List.mem_of_getElem? (i := 898) (by decide +kernel), List.mem_of_getElem? (i := 899) (by decide +kernel)⟩
theorem lw_p68 : lw_okq (⟨"ClockPlannerModel", "leaves", "(IZ)I"⟩, 25) := ⟨⟨by decide +kernel, by decide +kernel⟩, List.mem_of_getElem? (i := 705) (by decide +kernel), List.mem_of_getElem? (i := 902) (by decide +kernel), List.mem_of_getElem? (i := 903) (by decide +kernel)⟩
theorem lw_p69 : lw_okq (⟨"ClockPlannerModel", "isBelow", "(II)Z"⟩, 25) := ⟨⟨by decide +kernel, by decide +kernel⟩, List.mem_of_getElem? (i := 705) (by decide +kernel), List.mem_of_getElem? (i := 906) (by decide +kernel), List.mem_of_getElem? (i := 907) (by decide +kernel)⟩
theorem lw_p70 : lw_okq (⟨"ClockPlannerModel", "openGates", "()I"⟩, 25) := ⟨⟨by decide +kernel, by decide +kernel⟩, List.mem_of_getElem? (i := 705) (by decide +kernel), List.mem_of_getElem? (i := 922) (by decide +kernel), List.mem_of_getElem? (i := 923) (by decide +kernel)⟩
theorem lw_p71 : lw_okq (⟨"ClockPlannerModel", "isOpen", "(I)Z"⟩, 25) := ⟨⟨by decide +kernel, by decide +kernel⟩, List.mem_of_getElem? (i := 705) (by decide +kernel), List.mem_of_getElem? (i := 926) (by decide +kernel), List.mem_of_getElem? (i := 927) (by decide +kernel)⟩
theorem lw_p72 : lw_okq (⟨"ClockPlannerModel", "skew", "(I)I"⟩, 25) := ⟨⟨by decide +kernel, by decide +kernel⟩, List.mem_of_getElem? (i := 705) (by decide +kernel), List.mem_of_getElem? (i := 935) (by decide +kernel), List.mem_of_getElem? (i := 936) (by decide +kernel)⟩
theorem lw_p73 : lw_okq (⟨"ClockPlannerModel", "latest", "(IZ)I"⟩, 25) := ⟨⟨by decide +kernel, by decide +kernel⟩, List.mem_of_getElem? (i := 705) (by decide +kernel), List.mem_of_getElem? (i := 939) (by decide +kernel), List.mem_of_getElem? (i := 940) (by decide +kernel)⟩
theorem lw_p74 : lw_okq (⟨"ClockPlannerModel", "isOf", "(IIZ)Z"⟩, 25) := ⟨⟨by decide +kernel, by decide +kernel⟩, List.mem_of_getElem? (i := 705) (by decide +kernel), List.mem_of_getElem? (i := 943) (by decide +kernel), List.mem_of_getElem? (i := 944) (by decide +kernel)⟩
theorem lw_p75 : lw_okq (⟨"ClockPlannerModel", "runs", "(I)Z"⟩, 25) := ⟨⟨by decide +kernel, by decide +kernel⟩, List.mem_of_getElem? (i := 705) (by decide +kernel), List.mem_of_getElem? (i := 947) (by decide +kernel), List.mem_of_getElem? (i := 948) (by decide +kernel)⟩
theorem lw_p76 : lw_okq (⟨"ClockPlannerModel", "arrival", "(I)I"⟩, 25) := ⟨⟨by decide +kernel, by decide +kernel⟩, List.mem_of_getElem? (i := 705) (by decide +kernel), List.mem_of_getElem? (i := 951) (by decide +kernel), List.mem_of_getElem? (i := 952) (by decide +kernel)⟩
theorem lw_p77 : lw_okq (⟨"ClockPlannerModel", "children", "(I)I"⟩, 25) := ⟨⟨by decide +kernel, by decide +kernel⟩, List.mem_of_getElem? (i := 705) (by decide +kernel), List.mem_of_getElem? (i := 959) (by decide +kernel), List.mem_of_getElem? (i := 960) (by decide +kernel)⟩
theorem lw_p78 : lw_okq (⟨"ClockPlannerModel", "mending", "(I)I"⟩, 25) := ⟨⟨by decide +kernel, by decide +kernel⟩, List.mem_of_getElem? (i := 705) (by decide +kernel), List.mem_of_getElem? (i := 967) (by decide +kernel), List.mem_of_getElem? (i := 968) (by decide +kernel)⟩
theorem lw_p79 : lw_okq (⟨"ClockPlannerModel", "growth", "(II)I"⟩, 25) := ⟨⟨by decide +kernel, by decide +kernel⟩, List.mem_of_getElem? (i := 705) (by decide +kernel), List.mem_of_getElem? (i := 971) (by decide +kernel), List.mem_of_getElem? (i := 972) (by decide +kernel)⟩
def lw_privs_5 : List (MethodName × Nat) := [(⟨"ClockPlannerModel", "comes", "(III)I"⟩, 25), (⟨"ClockPlannerModel", "put", "(IIJ)V"⟩, 25), (⟨"ClockPlannerModel", "added", "(I)I"⟩, 25), (⟨"ClockPlannerModel", "tryLeaf", "(IIIII)I"⟩, 25), (⟨"ClockPlannerModel", "leaves", "(IZ)I"⟩, 25), (⟨"ClockPlannerModel", "isBelow", "(II)Z"⟩, 25), (⟨"ClockPlannerModel", "openGates", "()I"⟩, 25), (⟨"ClockPlannerModel", "isOpen", "(I)Z"⟩, 25), (⟨"ClockPlannerModel", "skew", "(I)I"⟩, 25), (⟨"ClockPlannerModel", "latest", "(IZ)I"⟩, 25), (⟨"ClockPlannerModel", "isOf", "(IIZ)Z"⟩, 25), (⟨"ClockPlannerModel", "runs", "(I)Z"⟩, 25), (⟨"ClockPlannerModel", "arrival", "(I)I"⟩, 25), (⟨"ClockPlannerModel", "children", "(I)I"⟩, 25), (⟨"ClockPlannerModel", "mending", "(I)I"⟩, 25), (⟨"ClockPlannerModel", "growth", "(II)I"⟩, 25)]
theorem lw_r5 : ∀ q ∈ lw_privs_5, lw_okq q := List.forall_mem_cons.mpr ⟨lw_p64, List.forall_mem_cons.mpr ⟨lw_p65, List.forall_mem_cons.mpr ⟨lw_p66, List.forall_mem_cons.mpr ⟨lw_p67, List.forall_mem_cons.mpr ⟨lw_p68, List.forall_mem_cons.mpr ⟨lw_p69, List.forall_mem_cons.mpr ⟨lw_p70, List.forall_mem_cons.mpr ⟨lw_p71, List.forall_mem_cons.mpr ⟨lw_p72, List.forall_mem_cons.mpr ⟨lw_p73, List.forall_mem_cons.mpr ⟨lw_p74, List.forall_mem_cons.mpr ⟨lw_p75, List.forall_mem_cons.mpr ⟨lw_p76, List.forall_mem_cons.mpr ⟨lw_p77, List.forall_mem_cons.mpr ⟨lw_p78, List.forall_mem_cons.mpr ⟨lw_p79, fun _ h => absurd h List.not_mem_nil⟩⟩⟩⟩⟩⟩⟩⟩⟩⟩⟩⟩⟩⟩⟩⟩
theorem lw_p80 : lw_okq (⟨"ClockPlannerModel", "shedding", "(I)I"⟩, 25) := ⟨⟨by decide +kernel, by decide +kernel⟩, List.mem_of_getElem? (i := 705) (by decide +kernel), List.mem_of_getElem? (i := 983) (by decide +kernel), List.mem_of_getElem? (i := 984) (by decide +kernel)⟩
theorem lw_p81 : lw_okq (⟨"ClockPlannerModel", "sheds", "(IIIIJ)V"⟩, 25) := ⟨⟨by decide +kernel, by decide +kernel⟩, List.mem_of_getElem? (i := 705) (by decide +kernel), List.mem_of_getElem? (i := 987) (by decide +kernel), List.mem_of_getElem? (i := 988) (by decide +kernel)⟩
theorem lw_p82 : lw_okq (⟨"ClockPlannerModel", "powerOfAll", "()J"⟩, 25) := ⟨⟨by decide +kernel, by decide +kernel⟩, List.mem_of_getElem? (i := 705) (by decide +kernel), List.mem_of_getElem? (i := 991) (by decide +kernel), List.mem_of_getElem? (i := 992) (by decide +kernel)⟩
theorem lw_p83 : lw_okq (⟨"ClockPlannerModel", "powerOf", "(I)J"⟩, 25) := ⟨⟨by decide +kernel, by decide +kernel⟩, List.mem_of_getElem? (i := 705) (by decide +kernel), List.mem_of_getElem? (i := 995) (by decide +kernel), List.mem_of_getElem? (i := 996) (by decide +kernel)⟩
theorem lw_p84 : lw_okq (⟨"ClockPlannerModel", "left", "(I)I"⟩, 25) := ⟨⟨by decide +kernel, by decide +kernel⟩, List.mem_of_getElem? (i := 705) (by decide +kernel), List.mem_of_getElem? (i := 999) (by decide +kernel), List.mem_of_getElem? (i := 1000) (by decide +kernel)⟩
theorem lw_p85 : lw_okq (⟨"ClockPlannerModel", "canShut", "(I)Z"⟩, 25) := ⟨⟨by decide +kernel, by decide +kernel⟩, List.mem_of_getElem? (i := 705) (by decide +kernel), List.mem_of_getElem? (i := 1003) (by decide +kernel), List.mem_of_getElem? (i := 1004) (by decide +kernel)⟩
theorem lw_p86 : lw_okq (⟨"ClockPlannerModel", "requestAll", "(II)V"⟩, 25) := ⟨⟨by decide +kernel, by decide +kernel⟩, List.mem_of_getElem? (i := 705) (by decide +kernel), List.mem_of_getElem? (i := 1010) (by decide +kernel), List.mem_of_getElem? (i := 1011) (by decide +kernel)⟩
theorem lw_p87 : lw_okq (⟨"ClockPlannerModel", "readsPath", "()V"⟩, 25) := ⟨⟨by decide +kernel, by decide +kernel⟩, List.mem_of_getElem? (i := 705) (by decide +kernel), List.mem_of_getElem? (i := 1028) (by decide +kernel), List.mem_of_getElem? (i := 1029) (by decide +kernel)⟩
theorem lw_p88 : lw_okq (⟨"ClockPlannerModel", "number", "()I"⟩, 25) := ⟨⟨by decide +kernel, by decide +kernel⟩, List.mem_of_getElem? (i := 705) (by decide +kernel), List.mem_of_getElem? (i := 1032) (by decide +kernel), List.mem_of_getElem? (i := 1033) (by decide +kernel)⟩
theorem lw_p89 : lw_okq (⟨"ClockPlannerModel", "digit", "(II)I"⟩, 25) := ⟨⟨by decide +kernel, by decide +kernel⟩, List.mem_of_getElem? (i := 705) (by decide +kernel), List.mem_of_getElem? (i := 1036) (by decide +kernel), List.mem_of_getElem? (i := 1037) (by decide +kernel)⟩
theorem lw_p90 : lw_okq (⟨"ClockPlannerModel", "isAt", "(II)Z"⟩, 25) := ⟨⟨by decide +kernel, by decide +kernel⟩, List.mem_of_getElem? (i := 705) (by decide +kernel), List.mem_of_getElem? (i := 1040) (by decide +kernel), List.mem_of_getElem? (i := 1041) (by decide +kernel)⟩
theorem lw_p91 : lw_okq (⟨"ClockPlannerModel", "part", "(II)V"⟩, 25) := ⟨⟨by decide +kernel, by decide +kernel⟩, List.mem_of_getElem? (i := 705) (by decide +kernel), List.mem_of_getElem? (i := 1044) (by decide +kernel), List.mem_of_getElem? (i := 1045) (by decide +kernel)⟩
theorem lw_p92 : lw_okq (⟨"ClockPlannerModel", "expects", "(I)V"⟩, 25) := ⟨⟨by decide +kernel, by decide +kernel⟩, List.mem_of_getElem? (i := 705) (by decide +kernel), List.mem_of_getElem? (i := 1051) (by decide +kernel), List.mem_of_getElem? (i := 1052) (by decide +kernel)⟩
theorem lw_p93 : lw_okq (⟨"ClockPlannerModel", "childLike", "(III)I"⟩, 25) := ⟨⟨by decide +kernel, by decide +kernel⟩, List.mem_of_getElem? (i := 705) (by decide +kernel), List.mem_of_getElem? (i := 1055) (by decide +kernel), List.mem_of_getElem? (i := 1056) (by decide +kernel)⟩
theorem lw_p94 : lw_okq (⟨"ClockPlannerModel", "leavesOf", "(IZ)I"⟩, 25) := ⟨⟨by decide +kernel, by decide +kernel⟩, List.mem_of_getElem? (i := 705) (by decide +kernel), List.mem_of_getElem? (i := 1085) (by decide +kernel), List.mem_of_getElem? (i := 1086) (by decide +kernel)⟩
theorem lw_p95 : lw_okq (⟨"ClockPlannerModel", "findsWays", "(IJJ)V"⟩, 25) := ⟨⟨by decide +kernel, by decide +kernel⟩, List.mem_of_getElem? (i := 705) (by decide +kernel), List.mem_of_getElem? (i := 1098) (by decide +kernel), List.mem_of_getElem? (i := 1099) (by decide +kernel)⟩
def lw_privs_6 : List (MethodName × Nat) := [(⟨"ClockPlannerModel", "shedding", "(I)I"⟩, 25), (⟨"ClockPlannerModel", "sheds", "(IIIIJ)V"⟩, 25), (⟨"ClockPlannerModel", "powerOfAll", "()J"⟩, 25), (⟨"ClockPlannerModel", "powerOf", "(I)J"⟩, 25), (⟨"ClockPlannerModel", "left", "(I)I"⟩, 25), (⟨"ClockPlannerModel", "canShut", "(I)Z"⟩, 25), (⟨"ClockPlannerModel", "requestAll", "(II)V"⟩, 25), (⟨"ClockPlannerModel", "readsPath", "()V"⟩, 25), (⟨"ClockPlannerModel", "number", "()I"⟩, 25), (⟨"ClockPlannerModel", "digit", "(II)I"⟩, 25), (⟨"ClockPlannerModel", "isAt", "(II)Z"⟩, 25), (⟨"ClockPlannerModel", "part", "(II)V"⟩, 25), (⟨"ClockPlannerModel", "expects", "(I)V"⟩, 25), (⟨"ClockPlannerModel", "childLike", "(III)I"⟩, 25), (⟨"ClockPlannerModel", "leavesOf", "(IZ)I"⟩, 25), (⟨"ClockPlannerModel", "findsWays", "(IJJ)V"⟩, 25)]
theorem lw_r6 : ∀ q ∈ lw_privs_6, lw_okq q := List.forall_mem_cons.mpr ⟨lw_p80, List.forall_mem_cons.mpr ⟨lw_p81, List.forall_mem_cons.mpr ⟨lw_p82, List.forall_mem_cons.mpr ⟨lw_p83, List.forall_mem_cons.mpr ⟨lw_p84, List.forall_mem_cons.mpr ⟨lw_p85, List.forall_mem_cons.mpr ⟨lw_p86, List.forall_mem_cons.mpr ⟨lw_p87, List.forall_mem_cons.mpr ⟨lw_p88, List.forall_mem_cons.mpr ⟨lw_p89, List.forall_mem_cons.mpr ⟨lw_p90, List.forall_mem_cons.mpr ⟨lw_p91, List.forall_mem_cons.mpr ⟨lw_p92, List.forall_mem_cons.mpr ⟨lw_p93, List.forall_mem_cons.mpr ⟨lw_p94, List.forall_mem_cons.mpr ⟨lw_p95, fun _ h => absurd h List.not_mem_nil⟩⟩⟩⟩⟩⟩⟩⟩⟩⟩⟩⟩⟩⟩⟩⟩
theorem lw_p96 : lw_okq (⟨"ClockPlannerModel", "offers", "(IIII)V"⟩, 25) := ⟨⟨by decide +kernel, by decide +kernel⟩, List.mem_of_getElem? (i := 705) (by decide +kernel), List.mem_of_getElem? (i := 1102) (by decide +kernel), List.mem_of_getElem? (i := 1103) (by decide +kernel)⟩
theorem lw_p97 : lw_okq (⟨"ClockPlannerModel", "isBetter", "(IIII)Z"⟩, 25) := ⟨⟨by decide +kernel, by decide +kernel⟩, List.mem_of_getElem? (i := 705) (by decide +kernel), List.mem_of_getElem? (i := 1106) (by decide +kernel), List.mem_of_getElem? (i := 1107) (by decide +kernel)⟩
theorem lw_p98 : lw_okq (⟨"ClockPlannerModel", "isAhead", "(II)Z"⟩, 25) := ⟨⟨by decide +kernel, by decide +kernel⟩, List.mem_of_getElem? (i := 705) (by decide +kernel), List.mem_of_getElem? (i := 1126) (by decide +kernel), List.mem_of_getElem? (i := 1127) (by decide +kernel)⟩
theorem lw_p99 : lw_okq (⟨"ClockPlannerModel", "contentMany", "()I"⟩, 25) := ⟨⟨by decide +kernel, by decide +kernel⟩, List.mem_of_getElem? (i := 705) (by decide +kernel), List.mem_of_getElem? (i := 1135) (by decide +kernel), List.mem_of_getElem? (i := 1136) (by decide +kernel)⟩
theorem lw_p100 : lw_okq (⟨"ClockPlannerModel", "skewed", "()I"⟩, 25) := ⟨⟨by decide +kernel, by decide +kernel⟩, List.mem_of_getElem? (i := 705) (by decide +kernel), List.mem_of_getElem? (i := 1139) (by decide +kernel), List.mem_of_getElem? (i := 1140) (by decide +kernel)⟩
theorem lw_p101 : lw_okq (⟨"ClockPlannerModel", "sumOf", "(I)I"⟩, 25) := ⟨⟨by decide +kernel, by decide +kernel⟩, List.mem_of_getElem? (i := 705) (by decide +kernel), List.mem_of_getElem? (i := 1143) (by decide +kernel), List.mem_of_getElem? (i := 1144) (by decide +kernel)⟩
def lw_privs_7 : List (MethodName × Nat) := [(⟨"ClockPlannerModel", "offers", "(IIII)V"⟩, 25), (⟨"ClockPlannerModel", "isBetter", "(IIII)Z"⟩, 25), (⟨"ClockPlannerModel", "isAhead", "(II)Z"⟩, 25), (⟨"ClockPlannerModel", "contentMany", "()I"⟩, 25), (⟨"ClockPlannerModel", "skewed", "()I"⟩, 25), (⟨"ClockPlannerModel", "sumOf", "(I)I"⟩, 25)]
theorem lw_r7 : ∀ q ∈ lw_privs_7, lw_okq q := List.forall_mem_cons.mpr ⟨lw_p96, List.forall_mem_cons.mpr ⟨lw_p97, List.forall_mem_cons.mpr ⟨lw_p98, List.forall_mem_cons.mpr ⟨lw_p99, List.forall_mem_cons.mpr ⟨lw_p100, List.forall_mem_cons.mpr ⟨lw_p101, fun _ h => absurd h List.not_mem_nil⟩⟩⟩⟩⟩⟩
def lw_privs : List (MethodName × Nat) := lw_privs_1 ++ (lw_privs_2 ++ (lw_privs_3 ++ (lw_privs_4 ++ (lw_privs_5 ++ (lw_privs_6 ++ (lw_privs_7))))))
def lw_tbl : List Cond := k2_sels lw_privs ++ tables_1
theorem lw_privs_ok : ∀ q ∈ lw_privs, lw_okq q := by
  show ∀ q ∈ lw_privs_1 ++ (lw_privs_2 ++ (lw_privs_3 ++ (lw_privs_4 ++ (lw_privs_5 ++ (lw_privs_6 ++ (lw_privs_7)))))), lw_okq q
  exact List.forall_mem_append.mpr ⟨lw_r1, List.forall_mem_append.mpr ⟨lw_r2, List.forall_mem_append.mpr ⟨lw_r3, List.forall_mem_append.mpr ⟨lw_r4, List.forall_mem_append.mpr ⟨lw_r5, List.forall_mem_append.mpr ⟨lw_r6, lw_r7⟩⟩⟩⟩⟩⟩
/-! ===== BEGIN words of one list among another's, by their places ===== -/
theorem goodIn_r {big : List Cond} (ws : List Cond) (ps : List Nat) (hp : ws = ps.filterMap (fun i => big[i]?)) (h : ws.all goodWord = true) : GoodIn big ws := by
  intro w hw
  have h1 := List.all_eq_true.mp h w hw
  rw [hp] at hw
  obtain ⟨i, -, hi⟩ := List.mem_filterMap.mp hw
  have hm : w ∈ big := by first | exact List.mem_of_getElem? hi | exact List.getElem?_mem hi
  exact ⟨hm, good_of_word h1⟩
theorem goodIn_app {big a b : List Cond} (ha : GoodIn big a) (hb : GoodIn big b) : GoodIn big (a ++ b) := fun w h => (List.mem_append.mp h).elim (ha w) (hb w)
theorem goodIn_ca {big a b : List Cond} {c : Cond} (ha : GoodIn big (c :: a)) (hb : GoodIn big b) : GoodIn big (c :: (a ++ b)) := fun w h => (List.mem_cons.mp h).elim (fun e => ha w (List.mem_cons.mpr (Or.inl e))) (fun h => (List.mem_append.mp h).elim (fun h => ha w (List.mem_cons.mpr (Or.inr h))) (hb w))
theorem goodIn_sub {big ws : List Cond} (hm : ∀ w ∈ ws, w ∈ big) (h : ws.all goodWord = true) : GoodIn big ws := fun w hw => ⟨hm w hw, good_of_word (List.all_eq_true.mp h w hw)⟩
/-! ===== END ===== -/

/-! ===== BEGIN printed: names, fields, word lists, decode rows ===== -/
def RX0 : String := "ClockPlanner$Figures"
def TX0 : u_T := fun k => match k with
  | 0 => ("ClockPlanner$Figures", "top", "[J", true)
  | 1 => ("ClockPlanner$Figures", "bottom", "[J", true)
  | 2 => ("ClockPlanner$Figures", "depth", "[I", true)
  | 3 => ("ClockPlanner$Figures", "arrival", "[I", true)
  | 4 => ("ClockPlanner$Figures", "children", "[I", true)
  | 5 => ("ClockPlanner$Figures", "leaves", "[I", true)
  | 6 => ("ClockPlanner$Figures", "asking", "[I", true)
  | 7 => ("ClockPlanner$Figures", "open", "[Z", true)
  | _ => ("ClockPlanner$Figures", "runs", "[Z", true)
def tyX0 : Nat → FieldType := fun k => match k with
  | 0 => .array .long
  | 1 => .array .long
  | 2 => .array .int
  | 3 => .array .int
  | 4 => .array .int
  | 5 => .array .int
  | 6 => .array .int
  | 7 => .array .boolean
  | _ => .array .boolean
abbrev wsX00 : List Cond := u_ws RX0 TX0 9
theorem nmX0 : ∀ a, a < 9 → ∀ b, b < 9 → a ≠ b → (TX0 a).2.1 ≠ (TX0 b).2.1 := by decide +kernel
theorem tyX0_ok : ∀ k, k < 9 → parseFieldDescriptor (TX0 k).2.2.1 = some (tyX0 k) := by decide +kernel
abbrev cX0_init : ByteArray := prog_2_method_1_code
def yX0_init : MethodName := ⟨RX0, "<init>", "()V"⟩
abbrev cX0_read : ByteArray := prog_2_method_2_code
def yX0_read : MethodName := ⟨RX0, "read", "(LClockPlanner$Tree;)V"⟩
abbrev cX0_readRates : ByteArray := prog_2_method_3_code
def yX0_readRates : MethodName := ⟨RX0, "readRates", "(LClockPlanner$Tree;)V"⟩
abbrev cX0_readPaths : ByteArray := prog_2_method_4_code
def yX0_readPaths : MethodName := ⟨RX0, "readPaths", "(LClockPlanner$Tree;)V"⟩
abbrev cX0_readBelow : ByteArray := prog_2_method_5_code
def yX0_readBelow : MethodName := ⟨RX0, "readBelow", "(LClockPlanner$Tree;)V"⟩
abbrev cX0_readGates : ByteArray := prog_2_method_6_code
def yX0_readGates : MethodName := ⟨RX0, "readGates", "(LClockPlanner$Tree;)V"⟩
abbrev cX0_isOpenWithout : ByteArray := prog_2_method_7_code
def yX0_isOpenWithout : MethodName := ⟨RX0, "isOpenWithout", "(LClockPlanner$Tree;II)Z"⟩
abbrev cX0_isContent : ByteArray := prog_2_method_8_code
def yX0_isContent : MethodName := ⟨RX0, "isContent", "(LClockPlanner$Tree;I)Z"⟩
abbrev cX0_drawOf : ByteArray := prog_2_method_9_code
def yX0_drawOf : MethodName := ⟨RX0, "drawOf", "(LClockPlanner$Tree;I)J"⟩
abbrev cX0_compareRates : ByteArray := prog_2_method_10_code
def yX0_compareRates : MethodName := ⟨RX0, "compareRates", "(II)I"⟩
def RX1 : String := "ClockPlanner$History"
def TX1 : u_T := fun k => match k with
  | 0 => ("ClockPlanner$History", "kept", "[LClockPlanner$Tree;", true)
  | 1 => ("ClockPlanner$History", "newest", "I", false)
  | _ => ("ClockPlanner$History", "held", "I", false)
def tyX1 : Nat → FieldType := fun k => match k with
  | 0 => .array (.object "ClockPlanner$Tree")
  | 1 => .int
  | _ => .int
abbrev wsX10 : List Cond := u_ws RX1 TX1 3
theorem nmX1 : ∀ a, a < 3 → ∀ b, b < 3 → a ≠ b → (TX1 a).2.1 ≠ (TX1 b).2.1 := by decide +kernel
theorem tyX1_ok : ∀ k, k < 3 → parseFieldDescriptor (TX1 k).2.2.1 = some (tyX1 k) := by decide +kernel
abbrev cX1_init : ByteArray := prog_3_method_1_code
def yX1_init : MethodName := ⟨RX1, "<init>", "()V"⟩
abbrev cX1_push : ByteArray := prog_3_method_2_code
def yX1_push : MethodName := ⟨RX1, "push", "(LClockPlanner$Tree;)V"⟩
abbrev cX1_pop : ByteArray := prog_3_method_3_code
def yX1_pop : MethodName := ⟨RX1, "pop", "(LClockPlanner$Tree;)Z"⟩
def RX2 : String := "ClockPlanner$ShedSearch"
def TX2 : u_T := fun k => match k with
  | 0 => ("ClockPlanner$ShedSearch", "draw", "[J", true)
  | _ => ("ClockPlanner$ShedSearch", "runs", "[Z", true)
def tyX2 : Nat → FieldType := fun k => match k with
  | 0 => .array .long
  | _ => .array .boolean
abbrev wsX20 : List Cond := u_ws RX2 TX2 2
theorem nmX2 : ∀ a, a < 2 → ∀ b, b < 2 → a ≠ b → (TX2 a).2.1 ≠ (TX2 b).2.1 := by decide +kernel
theorem tyX2_ok : ∀ k, k < 2 → parseFieldDescriptor (TX2 k).2.2.1 = some (tyX2 k) := by decide +kernel
abbrev cX2_init : ByteArray := prog_4_method_1_code
def yX2_init : MethodName := ⟨RX2, "<init>", "()V"⟩
abbrev cX2_find : ByteArray := prog_4_method_2_code
def yX2_find : MethodName := ⟨RX2, "find", "(LClockPlanner$Tree;LClockPlanner$Figures;J)I"⟩
abbrev cX2_cheapest : ByteArray := prog_4_method_3_code
def yX2_cheapest : MethodName := ⟨RX2, "cheapest", "(LClockPlanner$Tree;LClockPlanner$Figures;JI)I"⟩
abbrev cX2_costOf : ByteArray := prog_4_method_4_code
def yX2_costOf : MethodName := ⟨RX2, "costOf", "(LClockPlanner$Tree;I)I"⟩
abbrev cX2_powerWithout : ByteArray := prog_4_method_5_code
def yX2_powerWithout : MethodName := ⟨RX2, "powerWithout", "(LClockPlanner$Tree;LClockPlanner$Figures;I)J"⟩
def RX3 : String := "ClockPlanner$Tape"
def TX3 : u_T := fun k => match k with
  | 0 => ("ClockPlanner$Tape", "bytes", "[I", true)
  | 1 => ("ClockPlanner$Tape", "length", "I", false)
  | 2 => ("ClockPlanner$Tape", "at", "I", false)
  | 3 => ("ClockPlanner$Tape", "start", "I", false)
  | 4 => ("ClockPlanner$Tape", "steps", "I", false)
  | 5 => ("ClockPlanner$Tape", "kinds", "[I", true)
  | 6 => ("ClockPlanner$Tape", "numbers", "[I", true)
  | 7 => ("ClockPlanner$Tape", "hasLeaf", "Z", false)
  | 8 => ("ClockPlanner$Tape", "group", "I", false)
  | 9 => ("ClockPlanner$Tape", "low", "I", false)
  | _ => ("ClockPlanner$Tape", "high", "I", false)
def tyX3 : Nat → FieldType := fun k => match k with
  | 0 => .array .int
  | 1 => .int
  | 2 => .int
  | 3 => .int
  | 4 => .int
  | 5 => .array .int
  | 6 => .array .int
  | 7 => .boolean
  | 8 => .int
  | 9 => .int
  | _ => .int
abbrev wsX30 : List Cond := u_ws RX3 TX3 11
theorem nmX3 : ∀ a, a < 11 → ∀ b, b < 11 → a ≠ b → (TX3 a).2.1 ≠ (TX3 b).2.1 := by decide +kernel
theorem tyX3_ok : ∀ k, k < 11 → parseFieldDescriptor (TX3 k).2.2.1 = some (tyX3 k) := by decide +kernel
abbrev cX3_init : ByteArray := prog_5_method_1_code
def yX3_init : MethodName := ⟨RX3, "<init>", "()V"⟩
abbrev cX3_put : ByteArray := prog_5_method_2_code
def yX3_put : MethodName := ⟨RX3, "put", "(I)V"⟩
abbrev cX3_parse : ByteArray := prog_5_method_3_code
def yX3_parse : MethodName := ⟨RX3, "parse", "()Z"⟩
abbrev cX3_readStep : ByteArray := prog_5_method_4_code
def yX3_readStep : MethodName := ⟨RX3, "readStep", "()Z"⟩
abbrev cX3_readNumberOf : ByteArray := prog_5_method_5_code
def yX3_readNumberOf : MethodName := ⟨RX3, "readNumberOf", "(I)I"⟩
abbrev cX3_readKind : ByteArray := prog_5_method_6_code
def yX3_readKind : MethodName := ⟨RX3, "readKind", "()I"⟩
abbrev cX3_readLeaf : ByteArray := prog_5_method_7_code
def yX3_readLeaf : MethodName := ⟨RX3, "readLeaf", "()Z"⟩
abbrev cX3_readNumber : ByteArray := prog_5_method_8_code
def yX3_readNumber : MethodName := ⟨RX3, "readNumber", "()I"⟩
abbrev cX3_readDigit : ByteArray := prog_5_method_9_code
def yX3_readDigit : MethodName := ⟨RX3, "readDigit", "(II)I"⟩
abbrev cX3_readSign : ByteArray := prog_5_method_10_code
def yX3_readSign : MethodName := ⟨RX3, "readSign", "(C)Z"⟩
def RX4 : String := "ClockPlanner$Tree"
def TX4 : u_T := fun k => match k with
  | 0 => ("ClockPlanner$Tree", "kind", "[I", true)
  | 1 => ("ClockPlanner$Tree", "parent", "[I", true)
  | 2 => ("ClockPlanner$Tree", "number", "[I", true)
  | 3 => ("ClockPlanner$Tree", "delay", "[I", true)
  | 4 => ("ClockPlanner$Tree", "load", "[I", true)
  | 5 => ("ClockPlanner$Tree", "low", "[I", true)
  | 6 => ("ClockPlanner$Tree", "high", "[I", true)
  | 7 => ("ClockPlanner$Tree", "priority", "[I", true)
  | 8 => ("ClockPlanner$Tree", "wants", "[I", true)
  | 9 => ("ClockPlanner$Tree", "pad", "[I", true)
  | 10 => ("ClockPlanner$Tree", "limits", "[I", true)
  | 11 => ("ClockPlanner$Tree", "base", "I", false)
  | _ => ("ClockPlanner$Tree", "size", "I", false)
def tyX4 : Nat → FieldType := fun k => match k with
  | 0 => .array .int
  | 1 => .array .int
  | 2 => .array .int
  | 3 => .array .int
  | 4 => .array .int
  | 5 => .array .int
  | 6 => .array .int
  | 7 => .array .int
  | 8 => .array .int
  | 9 => .array .int
  | 10 => .array .int
  | 11 => .int
  | _ => .int
abbrev wsX40 : List Cond := u_ws RX4 TX4 13
theorem nmX4 : ∀ a, a < 13 → ∀ b, b < 13 → a ≠ b → (TX4 a).2.1 ≠ (TX4 b).2.1 := by decide +kernel
theorem tyX4_ok : ∀ k, k < 13 → parseFieldDescriptor (TX4 k).2.2.1 = some (tyX4 k) := by decide +kernel
abbrev cX4_init : ByteArray := prog_6_method_1_code
def yX4_init : MethodName := ⟨RX4, "<init>", "()V"⟩
abbrev cX4_take : ByteArray := prog_6_method_2_code
def yX4_take : MethodName := ⟨RX4, "take", "(LClockPlanner$Tree;)V"⟩
abbrev cX4_isOfGroup : ByteArray := prog_6_method_3_code
def yX4_isOfGroup : MethodName := ⟨RX4, "isOfGroup", "(II)Z"⟩
abbrev cX4_append : ByteArray := prog_6_method_4_code
def yX4_append : MethodName := ⟨RX4, "append", "(III)I"⟩
abbrev cX4_appendLeaf : ByteArray := prog_6_method_5_code
def yX4_appendLeaf : MethodName := ⟨RX4, "appendLeaf", "(IIIII)I"⟩
abbrev cX4_drop : ByteArray := prog_6_method_6_code
def yX4_drop : MethodName := ⟨RX4, "drop", "(I)V"⟩
def RX5 : String := "ClockPlanner$WaySearch"
def TX5 : u_T := fun k => match k with
  | 0 => ("ClockPlanner$WaySearch", "steps", "I", false)
  | 1 => ("ClockPlanner$WaySearch", "from", "I", false)
  | 2 => ("ClockPlanner$WaySearch", "first", "I", false)
  | _ => ("ClockPlanner$WaySearch", "second", "I", false)
def tyX5 : Nat → FieldType := fun k => match k with
  | 0 => .int
  | 1 => .int
  | 2 => .int
  | _ => .int
abbrev wsX50 : List Cond := u_ws RX5 TX5 4
theorem nmX5 : ∀ a, a < 4 → ∀ b, b < 4 → a ≠ b → (TX5 a).2.1 ≠ (TX5 b).2.1 := by decide +kernel
theorem tyX5_ok : ∀ k, k < 4 → parseFieldDescriptor (TX5 k).2.2.1 = some (tyX5 k) := by decide +kernel
abbrev cX5_init : ByteArray := prog_7_method_1_code
def yX5_init : MethodName := ⟨RX5, "<init>", "()V"⟩
abbrev cX5_find : ByteArray := prog_7_method_2_code
def yX5_find : MethodName := ⟨RX5, "find", "(LClockPlanner$Tree;LClockPlanner$Figures;JJ)Z"⟩
abbrev cX5_findAt : ByteArray := prog_7_method_3_code
def yX5_findAt : MethodName := ⟨RX5, "findAt", "(LClockPlanner$Tree;LClockPlanner$Figures;IJJ)Z"⟩
abbrev cX5_reaches : ByteArray := prog_7_method_4_code
def yX5_reaches : MethodName := ⟨RX5, "reaches", "(JJJJ)Z"⟩
abbrev cX5_reachesByTwo : ByteArray := prog_7_method_5_code
def yX5_reachesByTwo : MethodName := ⟨RX5, "reachesByTwo", "(JJJJ)Z"⟩
abbrev cX5_lastStep : ByteArray := prog_7_method_6_code
def yX5_lastStep : MethodName := ⟨RX5, "lastStep", "(JJJJ)I"⟩
def RX6 : String := "ClockPlanner"
def TX6 : u_T := fun k => match k with
  | 0 => ("ClockPlanner", "tree", "LClockPlanner$Tree;", true)
  | 1 => ("ClockPlanner", "spare", "LClockPlanner$Tree;", true)
  | 2 => ("ClockPlanner", "snapshot", "LClockPlanner$Tree;", true)
  | 3 => ("ClockPlanner", "figures", "LClockPlanner$Figures;", true)
  | 4 => ("ClockPlanner", "trial", "LClockPlanner$Figures;", true)
  | 5 => ("ClockPlanner", "history", "LClockPlanner$History;", true)
  | 6 => ("ClockPlanner", "tape", "LClockPlanner$Tape;", true)
  | 7 => ("ClockPlanner", "shedSearch", "LClockPlanner$ShedSearch;", true)
  | 8 => ("ClockPlanner", "waySearch", "LClockPlanner$WaySearch;", true)
  | 9 => ("ClockPlanner", "hasSnapshot", "Z", false)
  | _ => ("ClockPlanner", "latestReason", "I", false)
def tyX6 : Nat → FieldType := fun k => match k with
  | 0 => .object "ClockPlanner$Tree"
  | 1 => .object "ClockPlanner$Tree"
  | 2 => .object "ClockPlanner$Tree"
  | 3 => .object "ClockPlanner$Figures"
  | 4 => .object "ClockPlanner$Figures"
  | 5 => .object "ClockPlanner$History"
  | 6 => .object "ClockPlanner$Tape"
  | 7 => .object "ClockPlanner$ShedSearch"
  | 8 => .object "ClockPlanner$WaySearch"
  | 9 => .boolean
  | _ => .int
abbrev wsX60 : List Cond := u_ws RX6 TX6 11
theorem nmX6 : ∀ a, a < 11 → ∀ b, b < 11 → a ≠ b → (TX6 a).2.1 ≠ (TX6 b).2.1 := by decide +kernel
theorem tyX6_ok : ∀ k, k < 11 → parseFieldDescriptor (TX6 k).2.2.1 = some (tyX6 k) := by decide +kernel
abbrev cX6_init : ByteArray := prog_1_method_1_code
def yX6_init : MethodName := ⟨RX6, "<init>", "()V"⟩
abbrev cX6_source : ByteArray := prog_1_method_2_code
def yX6_source : MethodName := ⟨RX6, "source", "(I)I"⟩
abbrev cX6_add : ByteArray := prog_1_method_3_code
def yX6_add : MethodName := ⟨RX6, "add", "(III)I"⟩
abbrev cX6_leaf : ByteArray := prog_1_method_4_code
def yX6_leaf : MethodName := ⟨RX6, "leaf", "(IIIII)I"⟩
abbrev cX6_set : ByteArray := prog_1_method_5_code
def yX6_set : MethodName := ⟨RX6, "set", "(III)I"⟩
abbrev cX6_tune : ByteArray := prog_1_method_6_code
def yX6_tune : MethodName := ⟨RX6, "tune", "(II)I"⟩
abbrev cX6_request : ByteArray := prog_1_method_7_code
def yX6_request : MethodName := ⟨RX6, "request", "(II)I"⟩
abbrev cX6_limit : ByteArray := prog_1_method_8_code
def yX6_limit : MethodName := ⟨RX6, "limit", "(II)I"⟩
abbrev cX6_remove : ByteArray := prog_1_method_9_code
def yX6_remove : MethodName := ⟨RX6, "remove", "(I)I"⟩
abbrev cX6_mend : ByteArray := prog_1_method_10_code
def yX6_mend : MethodName := ⟨RX6, "mend", "(I)I"⟩
abbrev cX6_shed : ByteArray := prog_1_method_11_code
def yX6_shed : MethodName := ⟨RX6, "shed", "(I)I"⟩
abbrev cX6_wouldShed : ByteArray := prog_1_method_12_code
def yX6_wouldShed : MethodName := ⟨RX6, "wouldShed", "(I)I"⟩
abbrev cX6_feed : ByteArray := prog_1_method_13_code
def yX6_feed : MethodName := ⟨RX6, "feed", "(IIIIII)I"⟩
abbrev cX6_lay : ByteArray := prog_1_method_14_code
def yX6_lay : MethodName := ⟨RX6, "lay", "()I"⟩
abbrev cX6_reason : ByteArray := prog_1_method_15_code
def yX6_reason : MethodName := ⟨RX6, "reason", "()I"⟩
abbrev cX6_rate : ByteArray := prog_1_method_16_code
def yX6_rate : MethodName := ⟨RX6, "rate", "(II)J"⟩
abbrev cX6_again : ByteArray := prog_1_method_17_code
def yX6_again : MethodName := ⟨RX6, "again", "(II)J"⟩
abbrev cX6_node : ByteArray := prog_1_method_18_code
def yX6_node : MethodName := ⟨RX6, "node", "(II)I"⟩
abbrev cX6_ofLeaf : ByteArray := prog_1_method_19_code
def yX6_ofLeaf : MethodName := ⟨RX6, "ofLeaf", "(II)I"⟩
abbrev cX6_ofGroup : ByteArray := prog_1_method_20_code
def yX6_ofGroup : MethodName := ⟨RX6, "ofGroup", "(II)I"⟩
abbrev cX6_power : ByteArray := prog_1_method_21_code
def yX6_power : MethodName := ⟨RX6, "power", "(I)J"⟩
abbrev cX6_way : ByteArray := prog_1_method_22_code
def yX6_way : MethodName := ⟨RX6, "way", "(III)I"⟩
abbrev cX6_ranked : ByteArray := prog_1_method_23_code
def yX6_ranked : MethodName := ⟨RX6, "ranked", "(I)I"⟩
abbrev cX6_account : ByteArray := prog_1_method_24_code
def yX6_account : MethodName := ⟨RX6, "account", "(I)I"⟩
abbrev cX6_back : ByteArray := prog_1_method_25_code
def yX6_back : MethodName := ⟨RX6, "back", "()I"⟩
abbrev cX6_image : ByteArray := prog_1_method_26_code
def yX6_image : MethodName := ⟨RX6, "image", "()I"⟩
abbrev cX6_undo : ByteArray := prog_1_method_27_code
def yX6_undo : MethodName := ⟨RX6, "undo", "()I"⟩
abbrev cX6_count : ByteArray := prog_1_method_28_code
def yX6_count : MethodName := ⟨RX6, "count", "(I)I"⟩
abbrev cX6_begin : ByteArray := prog_1_method_29_code
def yX6_begin : MethodName := ⟨RX6, "begin", "()V"⟩
abbrev cX6_finish : ByteArray := prog_1_method_30_code
def yX6_finish : MethodName := ⟨RX6, "finish", "(I)I"⟩
abbrev cX6_finishRates : ByteArray := prog_1_method_31_code
def yX6_finishRates : MethodName := ⟨RX6, "finishRates", "(I)I"⟩
abbrev cX6_giveUpLaying : ByteArray := prog_1_method_32_code
def yX6_giveUpLaying : MethodName := ⟨RX6, "giveUpLaying", "(II)I"⟩
abbrev cX6_refuse : ByteArray := prog_1_method_33_code
def yX6_refuse : MethodName := ⟨RX6, "refuse", "(I)I"⟩
abbrev cX6_refusalOfRates : ByteArray := prog_1_method_34_code
def yX6_refusalOfRates : MethodName := ⟨RX6, "refusalOfRates", "()I"⟩
abbrev cX6_refusalOfPlace : ByteArray := prog_1_method_35_code
def yX6_refusalOfPlace : MethodName := ⟨RX6, "refusalOfPlace", "(I)I"⟩
abbrev cX6_refusalOfNode : ByteArray := prog_1_method_36_code
def yX6_refusalOfNode : MethodName := ⟨RX6, "refusalOfNode", "(III)I"⟩
abbrev cX6_refusalOfLeaf : ByteArray := prog_1_method_37_code
def yX6_refusalOfLeaf : MethodName := ⟨RX6, "refusalOfLeaf", "(IIII)I"⟩
abbrev cX6_stepFrom : ByteArray := prog_1_method_38_code
def yX6_stepFrom : MethodName := ⟨RX6, "stepFrom", "(III)I"⟩
abbrev cX6_runsIn : ByteArray := prog_1_method_39_code
def yX6_runsIn : MethodName := ⟨RX6, "runsIn", "(II)Z"⟩
abbrev cX6_latestOf : ByteArray := prog_1_method_40_code
def yX6_latestOf : MethodName := ⟨RX6, "latestOf", "(I)I"⟩
abbrev cX6_earliestOf : ByteArray := prog_1_method_41_code
def yX6_earliestOf : MethodName := ⟨RX6, "earliestOf", "(I)I"⟩
abbrev cX6_skewOf : ByteArray := prog_1_method_42_code
def yX6_skewOf : MethodName := ⟨RX6, "skewOf", "(I)I"⟩
abbrev cX6_leastAllowed : ByteArray := prog_1_method_43_code
def yX6_leastAllowed : MethodName := ⟨RX6, "leastAllowed", "(I)I"⟩
abbrev cX6_lackOf : ByteArray := prog_1_method_44_code
def yX6_lackOf : MethodName := ⟨RX6, "lackOf", "(III)I"⟩
abbrev cX6_mendingOf : ByteArray := prog_1_method_45_code
def yX6_mendingOf : MethodName := ⟨RX6, "mendingOf", "(I)I"⟩
abbrev cX6_leavesOf : ByteArray := prog_1_method_46_code
def yX6_leavesOf : MethodName := ⟨RX6, "leavesOf", "(IZ)I"⟩
abbrev cX6_nodesOf : ByteArray := prog_1_method_47_code
def yX6_nodesOf : MethodName := ⟨RX6, "nodesOf", "(I)I"⟩
abbrev cX6_runningNodes : ByteArray := prog_1_method_48_code
def yX6_runningNodes : MethodName := ⟨RX6, "runningNodes", "()I"⟩
abbrev cX6_contentLeaves : ByteArray := prog_1_method_49_code
def yX6_contentLeaves : MethodName := ⟨RX6, "contentLeaves", "()I"⟩
abbrev cX6_openGates : ByteArray := prog_1_method_50_code
def yX6_openGates : MethodName := ⟨RX6, "openGates", "()I"⟩
abbrev cX6_sumOfPads : ByteArray := prog_1_method_51_code
def yX6_sumOfPads : MethodName := ⟨RX6, "sumOfPads", "()I"⟩
abbrev cX6_greatestDepth : ByteArray := prog_1_method_52_code
def yX6_greatestDepth : MethodName := ⟨RX6, "greatestDepth", "()I"⟩
abbrev cX6_skewedGroups : ByteArray := prog_1_method_53_code
def yX6_skewedGroups : MethodName := ⟨RX6, "skewedGroups", "()I"⟩
abbrev cX6_powerOfAll : ByteArray := prog_1_method_54_code
def yX6_powerOfAll : MethodName := ⟨RX6, "powerOfAll", "()J"⟩
abbrev cX6_placeOf : ByteArray := prog_1_method_55_code
def yX6_placeOf : MethodName := ⟨RX6, "placeOf", "(I)I"⟩
abbrev cX6_isNode : ByteArray := prog_1_method_56_code
def yX6_isNode : MethodName := ⟨RX6, "isNode", "(I)Z"⟩
abbrev cX6_isLeaf : ByteArray := prog_1_method_57_code
def yX6_isLeaf : MethodName := ⟨RX6, "isLeaf", "(I)Z"⟩
abbrev cX6_isGroup : ByteArray := prog_1_method_58_code
def yX6_isGroup : MethodName := ⟨RX6, "isGroup", "(I)Z"⟩
abbrev cX6_isPart : ByteArray := prog_1_method_59_code
def yX6_isPart : MethodName := ⟨RX6, "isPart", "(I)Z"⟩
abbrev cX6_isBudget : ByteArray := prog_1_method_60_code
def yX6_isBudget : MethodName := ⟨RX6, "isBudget", "(I)Z"⟩
abbrev cX6_isByte : ByteArray := prog_1_method_61_code
def yX6_isByte : MethodName := ⟨RX6, "isByte", "(I)Z"⟩
abbrev cX6_isNumberOf : ByteArray := prog_1_method_62_code
def yX6_isNumberOf : MethodName := ⟨RX6, "isNumberOf", "(II)Z"⟩
abbrev cX6_isAbove : ByteArray := prog_1_method_63_code
def yX6_isAbove : MethodName := ⟨RX6, "isAbove", "(JJJ)Z"⟩
abbrev cX6_greatestCommon : ByteArray := prog_1_method_64_code
def yX6_greatestCommon : MethodName := ⟨RX6, "greatestCommon", "(JJ)J"⟩
abbrev cX6_quotient : ByteArray := prog_1_method_65_code
def yX6_quotient : MethodName := ⟨RX6, "quotient", "(JJ)J"⟩
abbrev cX6_holds : ByteArray := prog_1_method_66_code
def yX6_holds : MethodName := ⟨RX6, "holds", "(II)Z"⟩
def RX7 : String := "ClockPlannerModel"
def TX7 : u_T := fun k => match k with
  | 0 => ("ClockPlannerModel", "now", "[I", true)
  | 1 => ("ClockPlannerModel", "past", "[I", true)
  | 2 => ("ClockPlannerModel", "pastMany", "I", false)
  | 3 => ("ClockPlannerModel", "saved", "[I", true)
  | 4 => ("ClockPlannerModel", "isSaved", "Z", false)
  | 5 => ("ClockPlannerModel", "before", "[I", true)
  | 6 => ("ClockPlannerModel", "tape", "[I", true)
  | 7 => ("ClockPlannerModel", "taped", "I", false)
  | 8 => ("ClockPlannerModel", "reason", "I", false)
  | 9 => ("ClockPlannerModel", "bestSum", "I", false)
  | 10 => ("ClockPlannerModel", "bestMany", "I", false)
  | 11 => ("ClockPlannerModel", "bestSet", "I", false)
  | 12 => ("ClockPlannerModel", "hasBest", "Z", false)
  | 13 => ("ClockPlannerModel", "end", "I", false)
  | 14 => ("ClockPlannerModel", "at", "I", false)
  | 15 => ("ClockPlannerModel", "isWrong", "Z", false)
  | 16 => ("ClockPlannerModel", "parts", "I", false)
  | 17 => ("ClockPlannerModel", "kinds", "[I", true)
  | 18 => ("ClockPlannerModel", "numbers", "[I", true)
  | 19 => ("ClockPlannerModel", "low", "I", false)
  | 20 => ("ClockPlannerModel", "high", "I", false)
  | 21 => ("ClockPlannerModel", "wayMany", "I", false)
  | 22 => ("ClockPlannerModel", "wayNode", "I", false)
  | 23 => ("ClockPlannerModel", "wayFirst", "I", false)
  | _ => ("ClockPlannerModel", "waySecond", "I", false)
def tyX7 : Nat → FieldType := fun k => match k with
  | 0 => .array .int
  | 1 => .array .int
  | 2 => .int
  | 3 => .array .int
  | 4 => .boolean
  | 5 => .array .int
  | 6 => .array .int
  | 7 => .int
  | 8 => .int
  | 9 => .int
  | 10 => .int
  | 11 => .int
  | 12 => .boolean
  | 13 => .int
  | 14 => .int
  | 15 => .boolean
  | 16 => .int
  | 17 => .array .int
  | 18 => .array .int
  | 19 => .int
  | 20 => .int
  | 21 => .int
  | 22 => .int
  | 23 => .int
  | _ => .int
abbrev wsX70 : List Cond := u_ws RX7 TX7 25
theorem nmX7 : ∀ a, a < 25 → ∀ b, b < 25 → a ≠ b → (TX7 a).2.1 ≠ (TX7 b).2.1 := by decide +kernel
theorem tyX7_ok : ∀ k, k < 25 → parseFieldDescriptor (TX7 k).2.2.1 = some (tyX7 k) := by decide +kernel
abbrev cX7_init : ByteArray := prog_9_method_1_code
def yX7_init : MethodName := ⟨RX7, "<init>", "()V"⟩
abbrev cX7_isIn : ByteArray := prog_9_method_2_code
def yX7_isIn : MethodName := ⟨RX7, "isIn", "(JJJ)Z"⟩
abbrev cX7_has : ByteArray := prog_9_method_3_code
def yX7_has : MethodName := ⟨RX7, "has", "(II)Z"⟩
abbrev cX7_refuse : ByteArray := prog_9_method_4_code
def yX7_refuse : MethodName := ⟨RX7, "refuse", "(I)I"⟩
abbrev cX7_keeps : ByteArray := prog_9_method_5_code
def yX7_keeps : MethodName := ⟨RX7, "keeps", "()V"⟩
abbrev cX7_goesBack : ByteArray := prog_9_method_6_code
def yX7_goesBack : MethodName := ⟨RX7, "goesBack", "()V"⟩
abbrev cX7_remember : ByteArray := prog_9_method_7_code
def yX7_remember : MethodName := ⟨RX7, "remember", "()V"⟩
abbrev cX7_n : ByteArray := prog_9_method_8_code
def yX7_n : MethodName := ⟨RX7, "n", "(II)I"⟩
abbrev cX7_put : ByteArray := prog_9_method_9_code
def yX7_put : MethodName := ⟨RX7, "put", "(IIJ)V"⟩
abbrev cX7_isNode : ByteArray := prog_9_method_10_code
def yX7_isNode : MethodName := ⟨RX7, "isNode", "(I)Z"⟩
abbrev cX7_isLeaf : ByteArray := prog_9_method_11_code
def yX7_isLeaf : MethodName := ⟨RX7, "isLeaf", "(I)Z"⟩
abbrev cX7_depth : ByteArray := prog_9_method_12_code
def yX7_depth : MethodName := ⟨RX7, "depth", "(I)I"⟩
abbrev cX7_isBelow : ByteArray := prog_9_method_13_code
def yX7_isBelow : MethodName := ⟨RX7, "isBelow", "(II)Z"⟩
abbrev cX7_divisor : ByteArray := prog_9_method_14_code
def yX7_divisor : MethodName := ⟨RX7, "divisor", "(JJ)J"⟩
abbrev cX7_product : ByteArray := prog_9_method_15_code
def yX7_product : MethodName := ⟨RX7, "product", "(IZ)J"⟩
abbrev cX7_above : ByteArray := prog_9_method_16_code
def yX7_above : MethodName := ⟨RX7, "above", "(I)J"⟩
abbrev cX7_below : ByteArray := prog_9_method_17_code
def yX7_below : MethodName := ⟨RX7, "below", "(I)J"⟩
abbrev cX7_isTooFast : ByteArray := prog_9_method_18_code
def yX7_isTooFast : MethodName := ⟨RX7, "isTooFast", "(I)Z"⟩
abbrev cX7_isContent : ByteArray := prog_9_method_19_code
def yX7_isContent : MethodName := ⟨RX7, "isContent", "(I)Z"⟩
abbrev cX7_isAnyTooFast : ByteArray := prog_9_method_20_code
def yX7_isAnyTooFast : MethodName := ⟨RX7, "isAnyTooFast", "()Z"⟩
abbrev cX7_contents : ByteArray := prog_9_method_21_code
def yX7_contents : MethodName := ⟨RX7, "contents", "()I"⟩
abbrev cX7_leaves : ByteArray := prog_9_method_22_code
def yX7_leaves : MethodName := ⟨RX7, "leaves", "(IZ)I"⟩
abbrev cX7_isOpen : ByteArray := prog_9_method_23_code
def yX7_isOpen : MethodName := ⟨RX7, "isOpen", "(I)Z"⟩
abbrev cX7_runs : ByteArray := prog_9_method_24_code
def yX7_runs : MethodName := ⟨RX7, "runs", "(I)Z"⟩
abbrev cX7_openGates : ByteArray := prog_9_method_25_code
def yX7_openGates : MethodName := ⟨RX7, "openGates", "()I"⟩
abbrev cX7_arrival : ByteArray := prog_9_method_26_code
def yX7_arrival : MethodName := ⟨RX7, "arrival", "(I)I"⟩
abbrev cX7_source : ByteArray := prog_9_method_27_code
def yX7_source : MethodName := ⟨RX7, "source", "(I)I"⟩
abbrev cX7_settles : ByteArray := prog_9_method_28_code
def yX7_settles : MethodName := ⟨RX7, "settles", "(II)I"⟩
abbrev cX7_comes : ByteArray := prog_9_method_29_code
def yX7_comes : MethodName := ⟨RX7, "comes", "(III)I"⟩
abbrev cX7_whyNotBelow : ByteArray := prog_9_method_30_code
def yX7_whyNotBelow : MethodName := ⟨RX7, "whyNotBelow", "(I)I"⟩
abbrev cX7_isNumber : ByteArray := prog_9_method_31_code
def yX7_isNumber : MethodName := ⟨RX7, "isNumber", "(II)Z"⟩
abbrev cX7_tryAdd : ByteArray := prog_9_method_32_code
def yX7_tryAdd : MethodName := ⟨RX7, "tryAdd", "(III)I"⟩
abbrev cX7_tryLeaf : ByteArray := prog_9_method_33_code
def yX7_tryLeaf : MethodName := ⟨RX7, "tryLeaf", "(IIIII)I"⟩
abbrev cX7_added : ByteArray := prog_9_method_34_code
def yX7_added : MethodName := ⟨RX7, "added", "(I)I"⟩
abbrev cX7_add : ByteArray := prog_9_method_35_code
def yX7_add : MethodName := ⟨RX7, "add", "(III)I"⟩
abbrev cX7_leaf : ByteArray := prog_9_method_36_code
def yX7_leaf : MethodName := ⟨RX7, "leaf", "(IIIII)I"⟩
abbrev cX7_set : ByteArray := prog_9_method_37_code
def yX7_set : MethodName := ⟨RX7, "set", "(III)I"⟩
abbrev cX7_tune : ByteArray := prog_9_method_38_code
def yX7_tune : MethodName := ⟨RX7, "tune", "(II)I"⟩
abbrev cX7_request : ByteArray := prog_9_method_39_code
def yX7_request : MethodName := ⟨RX7, "request", "(II)I"⟩
abbrev cX7_isOf : ByteArray := prog_9_method_40_code
def yX7_isOf : MethodName := ⟨RX7, "isOf", "(IIZ)Z"⟩
abbrev cX7_leavesOf : ByteArray := prog_9_method_41_code
def yX7_leavesOf : MethodName := ⟨RX7, "leavesOf", "(IZ)I"⟩
abbrev cX7_latest : ByteArray := prog_9_method_42_code
def yX7_latest : MethodName := ⟨RX7, "latest", "(IZ)I"⟩
abbrev cX7_skew : ByteArray := prog_9_method_43_code
def yX7_skew : MethodName := ⟨RX7, "skew", "(I)I"⟩
abbrev cX7_growth : ByteArray := prog_9_method_44_code
def yX7_growth : MethodName := ⟨RX7, "growth", "(II)I"⟩
abbrev cX7_mending : ByteArray := prog_9_method_45_code
def yX7_mending : MethodName := ⟨RX7, "mending", "(I)I"⟩
abbrev cX7_limit : ByteArray := prog_9_method_46_code
def yX7_limit : MethodName := ⟨RX7, "limit", "(II)I"⟩
abbrev cX7_children : ByteArray := prog_9_method_47_code
def yX7_children : MethodName := ⟨RX7, "children", "(I)I"⟩
abbrev cX7_remove : ByteArray := prog_9_method_48_code
def yX7_remove : MethodName := ⟨RX7, "remove", "(I)I"⟩
abbrev cX7_mend : ByteArray := prog_9_method_49_code
def yX7_mend : MethodName := ⟨RX7, "mend", "(I)I"⟩
abbrev cX7_powerOf : ByteArray := prog_9_method_50_code
def yX7_powerOf : MethodName := ⟨RX7, "powerOf", "(I)J"⟩
abbrev cX7_powerOfAll : ByteArray := prog_9_method_51_code
def yX7_powerOfAll : MethodName := ⟨RX7, "powerOfAll", "()J"⟩
abbrev cX7_canShut : ByteArray := prog_9_method_52_code
def yX7_canShut : MethodName := ⟨RX7, "canShut", "(I)Z"⟩
abbrev cX7_left : ByteArray := prog_9_method_53_code
def yX7_left : MethodName := ⟨RX7, "left", "(I)I"⟩
abbrev cX7_requestAll : ByteArray := prog_9_method_54_code
def yX7_requestAll : MethodName := ⟨RX7, "requestAll", "(II)V"⟩
abbrev cX7_sheds : ByteArray := prog_9_method_55_code
def yX7_sheds : MethodName := ⟨RX7, "sheds", "(IIIIJ)V"⟩
abbrev cX7_shedding : ByteArray := prog_9_method_56_code
def yX7_shedding : MethodName := ⟨RX7, "shedding", "(I)I"⟩
abbrev cX7_isBudget : ByteArray := prog_9_method_57_code
def yX7_isBudget : MethodName := ⟨RX7, "isBudget", "(I)Z"⟩
abbrev cX7_shed : ByteArray := prog_9_method_58_code
def yX7_shed : MethodName := ⟨RX7, "shed", "(I)I"⟩
abbrev cX7_wouldShed : ByteArray := prog_9_method_59_code
def yX7_wouldShed : MethodName := ⟨RX7, "wouldShed", "(I)I"⟩
abbrev cX7_feed : ByteArray := prog_9_method_60_code
def yX7_feed : MethodName := ⟨RX7, "feed", "(IIIIII)I"⟩
abbrev cX7_isAt : ByteArray := prog_9_method_61_code
def yX7_isAt : MethodName := ⟨RX7, "isAt", "(II)Z"⟩
abbrev cX7_expects : ByteArray := prog_9_method_62_code
def yX7_expects : MethodName := ⟨RX7, "expects", "(I)V"⟩
abbrev cX7_digit : ByteArray := prog_9_method_63_code
def yX7_digit : MethodName := ⟨RX7, "digit", "(II)I"⟩
abbrev cX7_number : ByteArray := prog_9_method_64_code
def yX7_number : MethodName := ⟨RX7, "number", "()I"⟩
abbrev cX7_part : ByteArray := prog_9_method_65_code
def yX7_part : MethodName := ⟨RX7, "part", "(II)V"⟩
abbrev cX7_kindOf : ByteArray := prog_9_method_66_code
def yX7_kindOf : MethodName := ⟨RX7, "kindOf", "(I)I"⟩
abbrev cX7_readsPath : ByteArray := prog_9_method_67_code
def yX7_readsPath : MethodName := ⟨RX7, "readsPath", "()V"⟩
abbrev cX7_childLike : ByteArray := prog_9_method_68_code
def yX7_childLike : MethodName := ⟨RX7, "childLike", "(III)I"⟩
abbrev cX7_lay : ByteArray := prog_9_method_69_code
def yX7_lay : MethodName := ⟨RX7, "lay", "()I"⟩
abbrev cX7_reason : ByteArray := prog_9_method_70_code
def yX7_reason : MethodName := ⟨RX7, "reason", "()I"⟩
abbrev cX7_rate : ByteArray := prog_9_method_71_code
def yX7_rate : MethodName := ⟨RX7, "rate", "(II)J"⟩
abbrev cX7_again : ByteArray := prog_9_method_72_code
def yX7_again : MethodName := ⟨RX7, "again", "(II)J"⟩
abbrev cX7_node : ByteArray := prog_9_method_73_code
def yX7_node : MethodName := ⟨RX7, "node", "(II)I"⟩
abbrev cX7_ofLeaf : ByteArray := prog_9_method_74_code
def yX7_ofLeaf : MethodName := ⟨RX7, "ofLeaf", "(II)I"⟩
abbrev cX7_ofGroup : ByteArray := prog_9_method_75_code
def yX7_ofGroup : MethodName := ⟨RX7, "ofGroup", "(II)I"⟩
abbrev cX7_power : ByteArray := prog_9_method_76_code
def yX7_power : MethodName := ⟨RX7, "power", "(I)J"⟩
abbrev cX7_isBetter : ByteArray := prog_9_method_77_code
def yX7_isBetter : MethodName := ⟨RX7, "isBetter", "(IIII)Z"⟩
abbrev cX7_offers : ByteArray := prog_9_method_78_code
def yX7_offers : MethodName := ⟨RX7, "offers", "(IIII)V"⟩
abbrev cX7_aboveBehind : ByteArray := prog_9_method_79_code
def yX7_aboveBehind : MethodName := ⟨RX7, "aboveBehind", "(JI)J"⟩
abbrev cX7_belowBehind : ByteArray := prog_9_method_80_code
def yX7_belowBehind : MethodName := ⟨RX7, "belowBehind", "(JI)J"⟩
abbrev cX7_isStep : ByteArray := prog_9_method_81_code
def yX7_isStep : MethodName := ⟨RX7, "isStep", "(I)Z"⟩
abbrev cX7_findsWays : ByteArray := prog_9_method_82_code
def yX7_findsWays : MethodName := ⟨RX7, "findsWays", "(IJJ)V"⟩
abbrev cX7_way : ByteArray := prog_9_method_83_code
def yX7_way : MethodName := ⟨RX7, "way", "(III)I"⟩
abbrev cX7_isAhead : ByteArray := prog_9_method_84_code
def yX7_isAhead : MethodName := ⟨RX7, "isAhead", "(II)Z"⟩
abbrev cX7_ranked : ByteArray := prog_9_method_85_code
def yX7_ranked : MethodName := ⟨RX7, "ranked", "(I)I"⟩
abbrev cX7_sumOf : ByteArray := prog_9_method_86_code
def yX7_sumOf : MethodName := ⟨RX7, "sumOf", "(I)I"⟩
abbrev cX7_contentMany : ByteArray := prog_9_method_87_code
def yX7_contentMany : MethodName := ⟨RX7, "contentMany", "()I"⟩
abbrev cX7_skewed : ByteArray := prog_9_method_88_code
def yX7_skewed : MethodName := ⟨RX7, "skewed", "()I"⟩
abbrev cX7_account : ByteArray := prog_9_method_89_code
def yX7_account : MethodName := ⟨RX7, "account", "(I)I"⟩
abbrev cX7_back : ByteArray := prog_9_method_90_code
def yX7_back : MethodName := ⟨RX7, "back", "()I"⟩
abbrev cX7_image : ByteArray := prog_9_method_91_code
def yX7_image : MethodName := ⟨RX7, "image", "()I"⟩
abbrev cX7_undo : ByteArray := prog_9_method_92_code
def yX7_undo : MethodName := ⟨RX7, "undo", "()I"⟩
abbrev cX7_count : ByteArray := prog_9_method_93_code
def yX7_count : MethodName := ⟨RX7, "count", "(I)I"⟩
def RJ6 : String := "java/lang/Integer"
def TJ6 : u_T := fun k => match k with
  | _ => ("", "", "", false)
def tyJ6 : Nat → FieldType := fun k => match k with
  | _ => .int
abbrev wsJ60 : List Cond := u_ws RJ6 TJ6 0
theorem nmJ6 : ∀ a, a < 0 → ∀ b, b < 0 → a ≠ b → (TJ6 a).2.1 ≠ (TJ6 b).2.1 := by decide +kernel
theorem tyJ6_ok : ∀ k, k < 0 → parseFieldDescriptor (TJ6 k).2.2.1 = some (tyJ6 k) := by decide +kernel
abbrev cJ6_bitCount_0f7a4 : ByteArray := prog_10_method_49_code
def yJ6_bitCount_0f7a4 : MethodName := ⟨RJ6, "bitCount", "(I)I"⟩
def RJ13 : String := "java/lang/Long"
def TJ13 : u_T := fun k => match k with
  | _ => ("", "", "", false)
def tyJ13 : Nat → FieldType := fun k => match k with
  | _ => .int
abbrev wsJ130 : List Cond := u_ws RJ13 TJ13 0
theorem nmJ13 : ∀ a, a < 0 → ∀ b, b < 0 → a ≠ b → (TJ13 a).2.1 ≠ (TJ13 b).2.1 := by decide +kernel
theorem tyJ13_ok : ∀ k, k < 0 → parseFieldDescriptor (TJ13 k).2.2.1 = some (tyJ13 k) := by decide +kernel
abbrev cJ13_compare_74951 : ByteArray := prog_11_method_42_code
def yJ13_compare_74951 : MethodName := ⟨RJ13, "compare", "(JJ)I"⟩
def RJ9 : String := "java/lang/Math"
def TJ9 : u_T := fun k => match k with
  | _ => ("", "", "", false)
def tyJ9 : Nat → FieldType := fun k => match k with
  | _ => .int
abbrev wsJ90 : List Cond := u_ws RJ9 TJ9 0
theorem nmJ9 : ∀ a, a < 0 → ∀ b, b < 0 → a ≠ b → (TJ9 a).2.1 ≠ (TJ9 b).2.1 := by decide +kernel
theorem tyJ9_ok : ∀ k, k < 0 → parseFieldDescriptor (TJ9 k).2.2.1 = some (tyJ9 k) := by decide +kernel
abbrev cJ9_max_7cf53 : ByteArray := prog_12_method_65_code
def yJ9_max_7cf53 : MethodName := ⟨RJ9, "max", "(II)I"⟩
abbrev cJ9_min_7cf53 : ByteArray := prog_12_method_69_code
def yJ9_min_7cf53 : MethodName := ⟨RJ9, "min", "(II)I"⟩
def RL : String := "ClockPlannerLaw"
abbrev cL_law : ByteArray := code
def yL_law : MethodName := ⟨RL, "law", "([I)Z"⟩
abbrev vwCl : List vw_C := [(RX0, TX0, 9), (RX1, TX1, 3), (RX2, TX2, 2), (RX3, TX3, 11), (RX4, TX4, 13), (RX5, TX5, 4), (RX6, TX6, 11), (RX7, TX7, 25)]
