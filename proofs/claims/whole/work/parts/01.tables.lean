-- ===== PART A: goes FIRST, ahead of the names: the tables' words, and 'selects' of the private methods out of them =====
/-- a private method of a class that the tables say can be made, by its rows of tables_1 -/
def lw_okq (q : MethodName × Nat) : Prop := (q.1.cls ≠ "java/lang/invoke/MethodHandle" ∧ q.1.cls ≠ "java/lang/invoke/VarHandle") ∧ Cond.instantiable q.1.cls q.2 ∈ tables_1 ∧ Cond.privateMethod q.1 ∈ tables_1 ∧ Cond.instanceMethod q.1 ∈ tables_1
theorem lw_p0 : lw_okq (⟨"PillarRuns", "refuse", "(I)I"⟩, 7) := ⟨⟨by decide +kernel, by decide +kernel⟩, List.mem_of_getElem? (i := 13) (by decide +kernel), List.mem_of_getElem? (i := 219) (by decide +kernel), List.mem_of_getElem? (i := 220) (by decide +kernel)⟩
theorem lw_p1 : lw_okq (⟨"PillarRuns$Bearing", "claim", "(LPillarRuns$Mine;I)V"⟩, 4) := ⟨⟨by decide +kernel, by decide +kernel⟩, List.mem_of_getElem? (i := 73) (by decide +kernel), List.mem_of_getElem? (i := 296) (by decide +kernel), List.mem_of_getElem? (i := 297) (by decide +kernel)⟩
theorem lw_p2 : lw_okq (⟨"PillarRuns$Bearing", "weigh", "(LPillarRuns$Mine;)V"⟩, 4) := ⟨⟨by decide +kernel, by decide +kernel⟩, List.mem_of_getElem? (i := 73) (by decide +kernel), List.mem_of_getElem? (i := 311) (by decide +kernel), List.mem_of_getElem? (i := 312) (by decide +kernel)⟩
theorem lw_p3 : lw_okq (⟨"PillarRuns", "tellPillar", "(II)I"⟩, 7) := ⟨⟨by decide +kernel, by decide +kernel⟩, List.mem_of_getElem? (i := 13) (by decide +kernel), List.mem_of_getElem? (i := 315) (by decide +kernel), List.mem_of_getElem? (i := 316) (by decide +kernel)⟩
theorem lw_p4 : lw_okq (⟨"PillarRuns", "tellMine", "(I)I"⟩, 7) := ⟨⟨by decide +kernel, by decide +kernel⟩, List.mem_of_getElem? (i := 13) (by decide +kernel), List.mem_of_getElem? (i := 332) (by decide +kernel), List.mem_of_getElem? (i := 333) (by decide +kernel)⟩
theorem lw_p5 : lw_okq (⟨"PillarRuns$Bearing", "arePair", "(IIII)Z"⟩, 4) := ⟨⟨by decide +kernel, by decide +kernel⟩, List.mem_of_getElem? (i := 73) (by decide +kernel), List.mem_of_getElem? (i := 382) (by decide +kernel), List.mem_of_getElem? (i := 383) (by decide +kernel)⟩
theorem lw_p6 : lw_okq (⟨"PillarRuns$Run", "crushWave", "(LPillarRuns$Mine;LPillarRuns$Bearing;I)I"⟩, 2) := ⟨⟨by decide +kernel, by decide +kernel⟩, List.mem_of_getElem? (i := 95) (by decide +kernel), List.mem_of_getElem? (i := 396) (by decide +kernel), List.mem_of_getElem? (i := 397) (by decide +kernel)⟩
theorem lw_p7 : lw_okq (⟨"PillarRuns$Text", "skipBlanks", "()V"⟩, 5) := ⟨⟨by decide +kernel, by decide +kernel⟩, List.mem_of_getElem? (i := 161) (by decide +kernel), List.mem_of_getElem? (i := 494) (by decide +kernel), List.mem_of_getElem? (i := 495) (by decide +kernel)⟩
theorem lw_p8 : lw_okq (⟨"PillarRuns$Text", "fail", "(I)V"⟩, 5) := ⟨⟨by decide +kernel, by decide +kernel⟩, List.mem_of_getElem? (i := 161) (by decide +kernel), List.mem_of_getElem? (i := 498) (by decide +kernel), List.mem_of_getElem? (i := 499) (by decide +kernel)⟩
theorem lw_p9 : lw_okq (⟨"PillarRuns$Text", "readOrder", "(LPillarRuns$Trial;)V"⟩, 5) := ⟨⟨by decide +kernel, by decide +kernel⟩, List.mem_of_getElem? (i := 161) (by decide +kernel), List.mem_of_getElem? (i := 502) (by decide +kernel), List.mem_of_getElem? (i := 503) (by decide +kernel)⟩
theorem lw_p10 : lw_okq (⟨"PillarRuns$Text", "readPillar", "(LPillarRuns$Mine;I)V"⟩, 5) := ⟨⟨by decide +kernel, by decide +kernel⟩, List.mem_of_getElem? (i := 161) (by decide +kernel), List.mem_of_getElem? (i := 506) (by decide +kernel), List.mem_of_getElem? (i := 507) (by decide +kernel)⟩
theorem lw_p11 : lw_okq (⟨"PillarRuns$Text", "readCell", "()I"⟩, 5) := ⟨⟨by decide +kernel, by decide +kernel⟩, List.mem_of_getElem? (i := 161) (by decide +kernel), List.mem_of_getElem? (i := 510) (by decide +kernel), List.mem_of_getElem? (i := 511) (by decide +kernel)⟩
theorem lw_p12 : lw_okq (⟨"PillarRuns$Text", "readNumber", "(I)I"⟩, 5) := ⟨⟨by decide +kernel, by decide +kernel⟩, List.mem_of_getElem? (i := 161) (by decide +kernel), List.mem_of_getElem? (i := 514) (by decide +kernel), List.mem_of_getElem? (i := 515) (by decide +kernel)⟩
theorem lw_p13 : lw_okq (⟨"PillarRuns$Text", "readEnd", "()V"⟩, 5) := ⟨⟨by decide +kernel, by decide +kernel⟩, List.mem_of_getElem? (i := 161) (by decide +kernel), List.mem_of_getElem? (i := 521) (by decide +kernel), List.mem_of_getElem? (i := 522) (by decide +kernel)⟩
theorem lw_p14 : lw_okq (⟨"PillarRuns$Text", "readWeight", "(LPillarRuns$Mine;)V"⟩, 5) := ⟨⟨by decide +kernel, by decide +kernel⟩, List.mem_of_getElem? (i := 161) (by decide +kernel), List.mem_of_getElem? (i := 527) (by decide +kernel), List.mem_of_getElem? (i := 528) (by decide +kernel)⟩
theorem lw_p15 : lw_okq (⟨"PillarRuns$Text", "readWall", "(LPillarRuns$Mine;II)V"⟩, 5) := ⟨⟨by decide +kernel, by decide +kernel⟩, List.mem_of_getElem? (i := 161) (by decide +kernel), List.mem_of_getElem? (i := 531) (by decide +kernel), List.mem_of_getElem? (i := 532) (by decide +kernel)⟩
def lw_privs_1 : List (MethodName × Nat) := [(⟨"PillarRuns", "refuse", "(I)I"⟩, 7), (⟨"PillarRuns$Bearing", "claim", "(LPillarRuns$Mine;I)V"⟩, 4), (⟨"PillarRuns$Bearing", "weigh", "(LPillarRuns$Mine;)V"⟩, 4), (⟨"PillarRuns", "tellPillar", "(II)I"⟩, 7), (⟨"PillarRuns", "tellMine", "(I)I"⟩, 7), (⟨"PillarRuns$Bearing", "arePair", "(IIII)Z"⟩, 4), (⟨"PillarRuns$Run", "crushWave", "(LPillarRuns$Mine;LPillarRuns$Bearing;I)I"⟩, 2), (⟨"PillarRuns$Text", "skipBlanks", "()V"⟩, 5), (⟨"PillarRuns$Text", "fail", "(I)V"⟩, 5), (⟨"PillarRuns$Text", "readOrder", "(LPillarRuns$Trial;)V"⟩, 5), (⟨"PillarRuns$Text", "readPillar", "(LPillarRuns$Mine;I)V"⟩, 5), (⟨"PillarRuns$Text", "readCell", "()I"⟩, 5), (⟨"PillarRuns$Text", "readNumber", "(I)I"⟩, 5), (⟨"PillarRuns$Text", "readEnd", "()V"⟩, 5), (⟨"PillarRuns$Text", "readWeight", "(LPillarRuns$Mine;)V"⟩, 5), (⟨"PillarRuns$Text", "readWall", "(LPillarRuns$Mine;II)V"⟩, 5)]
theorem lw_r1 : ∀ q ∈ lw_privs_1, lw_okq q := List.forall_mem_cons.mpr ⟨lw_p0, List.forall_mem_cons.mpr ⟨lw_p1, List.forall_mem_cons.mpr ⟨lw_p2, List.forall_mem_cons.mpr ⟨lw_p3, List.forall_mem_cons.mpr ⟨lw_p4, List.forall_mem_cons.mpr ⟨lw_p5, List.forall_mem_cons.mpr ⟨lw_p6, List.forall_mem_cons.mpr ⟨lw_p7, List.forall_mem_cons.mpr ⟨lw_p8, List.forall_mem_cons.mpr ⟨lw_p9, List.forall_mem_cons.mpr ⟨lw_p10, List.forall_mem_cons.mpr ⟨lw_p11, List.forall_mem_cons.mpr ⟨lw_p12, List.forall_mem_cons.mpr ⟨lw_p13, List.forall_mem_cons.mpr ⟨lw_p14, List.forall_mem_cons.mpr ⟨lw_p15, fun _ h => absurd h List.not_mem_nil⟩⟩⟩⟩⟩⟩⟩⟩⟩⟩⟩⟩⟩⟩⟩⟩
theorem lw_p16 : lw_okq (⟨"PillarRuns$Text", "readCrushed", "(LPillarRuns$Mine;)V"⟩, 5) := ⟨⟨by decide +kernel, by decide +kernel⟩, List.mem_of_getElem? (i := 161) (by decide +kernel), List.mem_of_getElem? (i := 535) (by decide +kernel), List.mem_of_getElem? (i := 536) (by decide +kernel)⟩
theorem lw_p17 : lw_okq (⟨"PillarRuns", "tellCount", "(I)I"⟩, 7) := ⟨⟨by decide +kernel, by decide +kernel⟩, List.mem_of_getElem? (i := 13) (by decide +kernel), List.mem_of_getElem? (i := 554) (by decide +kernel), List.mem_of_getElem? (i := 555) (by decide +kernel)⟩
theorem lw_p18 : lw_okq (⟨"PillarRunsModel", "no", "()I"⟩, 23) := ⟨⟨by decide +kernel, by decide +kernel⟩, List.mem_of_getElem? (i := 564) (by decide +kernel), List.mem_of_getElem? (i := 644) (by decide +kernel), List.mem_of_getElem? (i := 645) (by decide +kernel)⟩
theorem lw_p19 : lw_okq (⟨"PillarRunsModel", "comesBack", "()V"⟩, 23) := ⟨⟨by decide +kernel, by decide +kernel⟩, List.mem_of_getElem? (i := 564) (by decide +kernel), List.mem_of_getElem? (i := 648) (by decide +kernel), List.mem_of_getElem? (i := 649) (by decide +kernel)⟩
theorem lw_p20 : lw_okq (⟨"PillarRunsModel", "noWaves", "()V"⟩, 23) := ⟨⟨by decide +kernel, by decide +kernel⟩, List.mem_of_getElem? (i := 564) (by decide +kernel), List.mem_of_getElem? (i := 652) (by decide +kernel), List.mem_of_getElem? (i := 653) (by decide +kernel)⟩
theorem lw_p21 : lw_okq (⟨"PillarRunsModel", "bad", "()I"⟩, 23) := ⟨⟨by decide +kernel, by decide +kernel⟩, List.mem_of_getElem? (i := 564) (by decide +kernel), List.mem_of_getElem? (i := 666) (by decide +kernel), List.mem_of_getElem? (i := 667) (by decide +kernel)⟩
theorem lw_p22 : lw_okq (⟨"PillarRunsModel", "pillarAt", "(I)I"⟩, 23) := ⟨⟨by decide +kernel, by decide +kernel⟩, List.mem_of_getElem? (i := 564) (by decide +kernel), List.mem_of_getElem? (i := 670) (by decide +kernel), List.mem_of_getElem? (i := 671) (by decide +kernel)⟩
theorem lw_p23 : lw_okq (⟨"PillarRunsModel", "full", "()I"⟩, 23) := ⟨⟨by decide +kernel, by decide +kernel⟩, List.mem_of_getElem? (i := 564) (by decide +kernel), List.mem_of_getElem? (i := 674) (by decide +kernel), List.mem_of_getElem? (i := 675) (by decide +kernel)⟩
theorem lw_p24 : lw_okq (⟨"PillarRunsModel", "leavesState", "()V"⟩, 23) := ⟨⟨by decide +kernel, by decide +kernel⟩, List.mem_of_getElem? (i := 564) (by decide +kernel), List.mem_of_getElem? (i := 678) (by decide +kernel), List.mem_of_getElem? (i := 679) (by decide +kernel)⟩
theorem lw_p25 : lw_okq (⟨"PillarRunsModel", "writes", "(I)V"⟩, 23) := ⟨⟨by decide +kernel, by decide +kernel⟩, List.mem_of_getElem? (i := 564) (by decide +kernel), List.mem_of_getElem? (i := 682) (by decide +kernel), List.mem_of_getElem? (i := 683) (by decide +kernel)⟩
theorem lw_p26 : lw_okq (⟨"PillarRunsModel", "comesPillar", "(II)V"⟩, 23) := ⟨⟨by decide +kernel, by decide +kernel⟩, List.mem_of_getElem? (i := 564) (by decide +kernel), List.mem_of_getElem? (i := 686) (by decide +kernel), List.mem_of_getElem? (i := 687) (by decide +kernel)⟩
theorem lw_p27 : lw_okq (⟨"PillarRunsModel", "isPillar", "(I)Z"⟩, 23) := ⟨⟨by decide +kernel, by decide +kernel⟩, List.mem_of_getElem? (i := 564) (by decide +kernel), List.mem_of_getElem? (i := 707) (by decide +kernel), List.mem_of_getElem? (i := 708) (by decide +kernel)⟩
theorem lw_p28 : lw_okq (⟨"PillarRunsModel", "ofBy", "(II)I"⟩, 23) := ⟨⟨by decide +kernel, by decide +kernel⟩, List.mem_of_getElem? (i := 564) (by decide +kernel), List.mem_of_getElem? (i := 733) (by decide +kernel), List.mem_of_getElem? (i := 734) (by decide +kernel)⟩
theorem lw_p29 : lw_okq (⟨"PillarRunsModel", "bears", "(I)V"⟩, 23) := ⟨⟨by decide +kernel, by decide +kernel⟩, List.mem_of_getElem? (i := 564) (by decide +kernel), List.mem_of_getElem? (i := 737) (by decide +kernel), List.mem_of_getElem? (i := 738) (by decide +kernel)⟩
theorem lw_p30 : lw_okq (⟨"PillarRunsModel", "setRooms", "()V"⟩, 23) := ⟨⟨by decide +kernel, by decide +kernel⟩, List.mem_of_getElem? (i := 564) (by decide +kernel), List.mem_of_getElem? (i := 741) (by decide +kernel), List.mem_of_getElem? (i := 742) (by decide +kernel)⟩
theorem lw_p31 : lw_okq (⟨"PillarRunsModel", "wallsAhead", "(II)I"⟩, 23) := ⟨⟨by decide +kernel, by decide +kernel⟩, List.mem_of_getElem? (i := 564) (by decide +kernel), List.mem_of_getElem? (i := 745) (by decide +kernel), List.mem_of_getElem? (i := 746) (by decide +kernel)⟩
def lw_privs_2 : List (MethodName × Nat) := [(⟨"PillarRuns$Text", "readCrushed", "(LPillarRuns$Mine;)V"⟩, 5), (⟨"PillarRuns", "tellCount", "(I)I"⟩, 7), (⟨"PillarRunsModel", "no", "()I"⟩, 23), (⟨"PillarRunsModel", "comesBack", "()V"⟩, 23), (⟨"PillarRunsModel", "noWaves", "()V"⟩, 23), (⟨"PillarRunsModel", "bad", "()I"⟩, 23), (⟨"PillarRunsModel", "pillarAt", "(I)I"⟩, 23), (⟨"PillarRunsModel", "full", "()I"⟩, 23), (⟨"PillarRunsModel", "leavesState", "()V"⟩, 23), (⟨"PillarRunsModel", "writes", "(I)V"⟩, 23), (⟨"PillarRunsModel", "comesPillar", "(II)V"⟩, 23), (⟨"PillarRunsModel", "isPillar", "(I)Z"⟩, 23), (⟨"PillarRunsModel", "ofBy", "(II)I"⟩, 23), (⟨"PillarRunsModel", "bears", "(I)V"⟩, 23), (⟨"PillarRunsModel", "setRooms", "()V"⟩, 23), (⟨"PillarRunsModel", "wallsAhead", "(II)I"⟩, 23)]
theorem lw_r2 : ∀ q ∈ lw_privs_2, lw_okq q := List.forall_mem_cons.mpr ⟨lw_p16, List.forall_mem_cons.mpr ⟨lw_p17, List.forall_mem_cons.mpr ⟨lw_p18, List.forall_mem_cons.mpr ⟨lw_p19, List.forall_mem_cons.mpr ⟨lw_p20, List.forall_mem_cons.mpr ⟨lw_p21, List.forall_mem_cons.mpr ⟨lw_p22, List.forall_mem_cons.mpr ⟨lw_p23, List.forall_mem_cons.mpr ⟨lw_p24, List.forall_mem_cons.mpr ⟨lw_p25, List.forall_mem_cons.mpr ⟨lw_p26, List.forall_mem_cons.mpr ⟨lw_p27, List.forall_mem_cons.mpr ⟨lw_p28, List.forall_mem_cons.mpr ⟨lw_p29, List.forall_mem_cons.mpr ⟨lw_p30, List.forall_mem_cons.mpr ⟨lw_p31, fun _ h => absurd h List.not_mem_nil⟩⟩⟩⟩⟩⟩⟩⟩⟩⟩⟩⟩⟩⟩⟩⟩
theorem lw_p32 : lw_okq (⟨"PillarRunsModel", "bearer", "(II)I"⟩, 23) := ⟨⟨by decide +kernel, by decide +kernel⟩, List.mem_of_getElem? (i := 564) (by decide +kernel), List.mem_of_getElem? (i := 749) (by decide +kernel), List.mem_of_getElem? (i := 750) (by decide +kernel)⟩
theorem lw_p33 : lw_okq (⟨"PillarRunsModel", "roomOf", "(I)I"⟩, 23) := ⟨⟨by decide +kernel, by decide +kernel⟩, List.mem_of_getElem? (i := 564) (by decide +kernel), List.mem_of_getElem? (i := 753) (by decide +kernel), List.mem_of_getElem? (i := 754) (by decide +kernel)⟩
theorem lw_p34 : lw_okq (⟨"PillarRunsModel", "stands", "(I)Z"⟩, 23) := ⟨⟨by decide +kernel, by decide +kernel⟩, List.mem_of_getElem? (i := 564) (by decide +kernel), List.mem_of_getElem? (i := 760) (by decide +kernel), List.mem_of_getElem? (i := 761) (by decide +kernel)⟩
theorem lw_p35 : lw_okq (⟨"PillarRunsModel", "allBy", "(I)I"⟩, 23) := ⟨⟨by decide +kernel, by decide +kernel⟩, List.mem_of_getElem? (i := 564) (by decide +kernel), List.mem_of_getElem? (i := 772) (by decide +kernel), List.mem_of_getElem? (i := 773) (by decide +kernel)⟩
theorem lw_p36 : lw_okq (⟨"PillarRunsModel", "tooMuch", "(I)I"⟩, 23) := ⟨⟨by decide +kernel, by decide +kernel⟩, List.mem_of_getElem? (i := 564) (by decide +kernel), List.mem_of_getElem? (i := 776) (by decide +kernel), List.mem_of_getElem? (i := 777) (by decide +kernel)⟩
theorem lw_p37 : lw_okq (⟨"PillarRunsModel", "allWeight", "()I"⟩, 23) := ⟨⟨by decide +kernel, by decide +kernel⟩, List.mem_of_getElem? (i := 564) (by decide +kernel), List.mem_of_getElem? (i := 780) (by decide +kernel), List.mem_of_getElem? (i := 781) (by decide +kernel)⟩
theorem lw_p38 : lw_okq (⟨"PillarRunsModel", "rooms", "()I"⟩, 23) := ⟨⟨by decide +kernel, by decide +kernel⟩, List.mem_of_getElem? (i := 564) (by decide +kernel), List.mem_of_getElem? (i := 784) (by decide +kernel), List.mem_of_getElem? (i := 785) (by decide +kernel)⟩
theorem lw_p39 : lw_okq (⟨"PillarRunsModel", "heldRooms", "()I"⟩, 23) := ⟨⟨by decide +kernel, by decide +kernel⟩, List.mem_of_getElem? (i := 564) (by decide +kernel), List.mem_of_getElem? (i := 788) (by decide +kernel), List.mem_of_getElem? (i := 789) (by decide +kernel)⟩
theorem lw_p40 : lw_okq (⟨"PillarRunsModel", "isSide", "(IIII)Z"⟩, 23) := ⟨⟨by decide +kernel, by decide +kernel⟩, List.mem_of_getElem? (i := 564) (by decide +kernel), List.mem_of_getElem? (i := 796) (by decide +kernel), List.mem_of_getElem? (i := 797) (by decide +kernel)⟩
theorem lw_p41 : lw_okq (⟨"PillarRunsModel", "goes", "()V"⟩, 23) := ⟨⟨by decide +kernel, by decide +kernel⟩, List.mem_of_getElem? (i := 564) (by decide +kernel), List.mem_of_getElem? (i := 804) (by decide +kernel), List.mem_of_getElem? (i := 805) (by decide +kernel)⟩
theorem lw_p42 : lw_okq (⟨"PillarRunsModel", "waveOf", "(I)I"⟩, 23) := ⟨⟨by decide +kernel, by decide +kernel⟩, List.mem_of_getElem? (i := 564) (by decide +kernel), List.mem_of_getElem? (i := 816) (by decide +kernel), List.mem_of_getElem? (i := 817) (by decide +kernel)⟩
theorem lw_p43 : lw_okq (⟨"PillarRunsModel", "lossOf", "(I)I"⟩, 23) := ⟨⟨by decide +kernel, by decide +kernel⟩, List.mem_of_getElem? (i := 564) (by decide +kernel), List.mem_of_getElem? (i := 824) (by decide +kernel), List.mem_of_getElem? (i := 825) (by decide +kernel)⟩
theorem lw_p44 : lw_okq (⟨"PillarRunsModel", "left", "(I)I"⟩, 23) := ⟨⟨by decide +kernel, by decide +kernel⟩, List.mem_of_getElem? (i := 564) (by decide +kernel), List.mem_of_getElem? (i := 828) (by decide +kernel), List.mem_of_getElem? (i := 829) (by decide +kernel)⟩
theorem lw_p45 : lw_okq (⟨"PillarRunsModel", "leftCut", "(II)I"⟩, 23) := ⟨⟨by decide +kernel, by decide +kernel⟩, List.mem_of_getElem? (i := 564) (by decide +kernel), List.mem_of_getElem? (i := 840) (by decide +kernel), List.mem_of_getElem? (i := 841) (by decide +kernel)⟩
theorem lw_p46 : lw_okq (⟨"PillarRunsModel", "here", "()I"⟩, 23) := ⟨⟨by decide +kernel, by decide +kernel⟩, List.mem_of_getElem? (i := 564) (by decide +kernel), List.mem_of_getElem? (i := 871) (by decide +kernel), List.mem_of_getElem? (i := 872) (by decide +kernel)⟩
theorem lw_p47 : lw_okq (⟨"PillarRunsModel", "keepsAhead", "()V"⟩, 23) := ⟨⟨by decide +kernel, by decide +kernel⟩, List.mem_of_getElem? (i := 564) (by decide +kernel), List.mem_of_getElem? (i := 875) (by decide +kernel), List.mem_of_getElem? (i := 876) (by decide +kernel)⟩
def lw_privs_3 : List (MethodName × Nat) := [(⟨"PillarRunsModel", "bearer", "(II)I"⟩, 23), (⟨"PillarRunsModel", "roomOf", "(I)I"⟩, 23), (⟨"PillarRunsModel", "stands", "(I)Z"⟩, 23), (⟨"PillarRunsModel", "allBy", "(I)I"⟩, 23), (⟨"PillarRunsModel", "tooMuch", "(I)I"⟩, 23), (⟨"PillarRunsModel", "allWeight", "()I"⟩, 23), (⟨"PillarRunsModel", "rooms", "()I"⟩, 23), (⟨"PillarRunsModel", "heldRooms", "()I"⟩, 23), (⟨"PillarRunsModel", "isSide", "(IIII)Z"⟩, 23), (⟨"PillarRunsModel", "goes", "()V"⟩, 23), (⟨"PillarRunsModel", "waveOf", "(I)I"⟩, 23), (⟨"PillarRunsModel", "lossOf", "(I)I"⟩, 23), (⟨"PillarRunsModel", "left", "(I)I"⟩, 23), (⟨"PillarRunsModel", "leftCut", "(II)I"⟩, 23), (⟨"PillarRunsModel", "here", "()I"⟩, 23), (⟨"PillarRunsModel", "keepsAhead", "()V"⟩, 23)]
theorem lw_r3 : ∀ q ∈ lw_privs_3, lw_okq q := List.forall_mem_cons.mpr ⟨lw_p32, List.forall_mem_cons.mpr ⟨lw_p33, List.forall_mem_cons.mpr ⟨lw_p34, List.forall_mem_cons.mpr ⟨lw_p35, List.forall_mem_cons.mpr ⟨lw_p36, List.forall_mem_cons.mpr ⟨lw_p37, List.forall_mem_cons.mpr ⟨lw_p38, List.forall_mem_cons.mpr ⟨lw_p39, List.forall_mem_cons.mpr ⟨lw_p40, List.forall_mem_cons.mpr ⟨lw_p41, List.forall_mem_cons.mpr ⟨lw_p42, List.forall_mem_cons.mpr ⟨lw_p43, List.forall_mem_cons.mpr ⟨lw_p44, List.forall_mem_cons.mpr ⟨lw_p45, List.forall_mem_cons.mpr ⟨lw_p46, List.forall_mem_cons.mpr ⟨lw_p47, fun _ h => absurd h List.not_mem_nil⟩⟩⟩⟩⟩⟩⟩⟩⟩⟩⟩⟩⟩⟩⟩⟩
theorem lw_p48 : lw_okq (⟨"PillarRunsModel", "readsOrder", "()Z"⟩, 23) := ⟨⟨by decide +kernel, by decide +kernel⟩, List.mem_of_getElem? (i := 564) (by decide +kernel), List.mem_of_getElem? (i := 879) (by decide +kernel), List.mem_of_getElem? (i := 880) (by decide +kernel)⟩
theorem lw_p49 : lw_okq (⟨"PillarRunsModel", "readsPillar", "(I)Z"⟩, 23) := ⟨⟨by decide +kernel, by decide +kernel⟩, List.mem_of_getElem? (i := 564) (by decide +kernel), List.mem_of_getElem? (i := 883) (by decide +kernel), List.mem_of_getElem? (i := 884) (by decide +kernel)⟩
theorem lw_p50 : lw_okq (⟨"PillarRunsModel", "readsCell", "()Z"⟩, 23) := ⟨⟨by decide +kernel, by decide +kernel⟩, List.mem_of_getElem? (i := 564) (by decide +kernel), List.mem_of_getElem? (i := 887) (by decide +kernel), List.mem_of_getElem? (i := 888) (by decide +kernel)⟩
theorem lw_p51 : lw_okq (⟨"PillarRunsModel", "readsNumber", "(I)Z"⟩, 23) := ⟨⟨by decide +kernel, by decide +kernel⟩, List.mem_of_getElem? (i := 564) (by decide +kernel), List.mem_of_getElem? (i := 891) (by decide +kernel), List.mem_of_getElem? (i := 892) (by decide +kernel)⟩
theorem lw_p52 : lw_okq (⟨"PillarRunsModel", "ends", "()Z"⟩, 23) := ⟨⟨by decide +kernel, by decide +kernel⟩, List.mem_of_getElem? (i := 564) (by decide +kernel), List.mem_of_getElem? (i := 895) (by decide +kernel), List.mem_of_getElem? (i := 896) (by decide +kernel)⟩
theorem lw_p53 : lw_okq (⟨"PillarRunsModel", "readsWeight", "()Z"⟩, 23) := ⟨⟨by decide +kernel, by decide +kernel⟩, List.mem_of_getElem? (i := 564) (by decide +kernel), List.mem_of_getElem? (i := 899) (by decide +kernel), List.mem_of_getElem? (i := 900) (by decide +kernel)⟩
theorem lw_p54 : lw_okq (⟨"PillarRunsModel", "readsWall", "(II)Z"⟩, 23) := ⟨⟨by decide +kernel, by decide +kernel⟩, List.mem_of_getElem? (i := 564) (by decide +kernel), List.mem_of_getElem? (i := 903) (by decide +kernel), List.mem_of_getElem? (i := 904) (by decide +kernel)⟩
theorem lw_p55 : lw_okq (⟨"PillarRunsModel", "readsCrushed", "()Z"⟩, 23) := ⟨⟨by decide +kernel, by decide +kernel⟩, List.mem_of_getElem? (i := 564) (by decide +kernel), List.mem_of_getElem? (i := 907) (by decide +kernel), List.mem_of_getElem? (i := 908) (by decide +kernel)⟩
theorem lw_p56 : lw_okq (⟨"PillarRunsModel", "readsRun", "()Z"⟩, 23) := ⟨⟨by decide +kernel, by decide +kernel⟩, List.mem_of_getElem? (i := 564) (by decide +kernel), List.mem_of_getElem? (i := 911) (by decide +kernel), List.mem_of_getElem? (i := 912) (by decide +kernel)⟩
theorem lw_p57 : lw_okq (⟨"PillarRunsModel", "asAhead", "()V"⟩, 23) := ⟨⟨by decide +kernel, by decide +kernel⟩, List.mem_of_getElem? (i := 564) (by decide +kernel), List.mem_of_getElem? (i := 915) (by decide +kernel), List.mem_of_getElem? (i := 916) (by decide +kernel)⟩
theorem lw_p58 : lw_okq (⟨"PillarRunsModel", "leavesAhead", "()V"⟩, 23) := ⟨⟨by decide +kernel, by decide +kernel⟩, List.mem_of_getElem? (i := 564) (by decide +kernel), List.mem_of_getElem? (i := 919) (by decide +kernel), List.mem_of_getElem? (i := 920) (by decide +kernel)⟩
theorem lw_p59 : lw_okq (⟨"PillarRunsModel", "toldBy", "(I)I"⟩, 23) := ⟨⟨by decide +kernel, by decide +kernel⟩, List.mem_of_getElem? (i := 564) (by decide +kernel), List.mem_of_getElem? (i := 927) (by decide +kernel), List.mem_of_getElem? (i := 928) (by decide +kernel)⟩
def lw_privs_4 : List (MethodName × Nat) := [(⟨"PillarRunsModel", "readsOrder", "()Z"⟩, 23), (⟨"PillarRunsModel", "readsPillar", "(I)Z"⟩, 23), (⟨"PillarRunsModel", "readsCell", "()Z"⟩, 23), (⟨"PillarRunsModel", "readsNumber", "(I)Z"⟩, 23), (⟨"PillarRunsModel", "ends", "()Z"⟩, 23), (⟨"PillarRunsModel", "readsWeight", "()Z"⟩, 23), (⟨"PillarRunsModel", "readsWall", "(II)Z"⟩, 23), (⟨"PillarRunsModel", "readsCrushed", "()Z"⟩, 23), (⟨"PillarRunsModel", "readsRun", "()Z"⟩, 23), (⟨"PillarRunsModel", "asAhead", "()V"⟩, 23), (⟨"PillarRunsModel", "leavesAhead", "()V"⟩, 23), (⟨"PillarRunsModel", "toldBy", "(I)I"⟩, 23)]
theorem lw_r4 : ∀ q ∈ lw_privs_4, lw_okq q := List.forall_mem_cons.mpr ⟨lw_p48, List.forall_mem_cons.mpr ⟨lw_p49, List.forall_mem_cons.mpr ⟨lw_p50, List.forall_mem_cons.mpr ⟨lw_p51, List.forall_mem_cons.mpr ⟨lw_p52, List.forall_mem_cons.mpr ⟨lw_p53, List.forall_mem_cons.mpr ⟨lw_p54, List.forall_mem_cons.mpr ⟨lw_p55, List.forall_mem_cons.mpr ⟨lw_p56, List.forall_mem_cons.mpr ⟨lw_p57, List.forall_mem_cons.mpr ⟨lw_p58, List.forall_mem_cons.mpr ⟨lw_p59, fun _ h => absurd h List.not_mem_nil⟩⟩⟩⟩⟩⟩⟩⟩⟩⟩⟩⟩
def lw_privs : List (MethodName × Nat) := lw_privs_1 ++ (lw_privs_2 ++ (lw_privs_3 ++ (lw_privs_4)))
def lw_tbl : List Cond := k2_sels lw_privs ++ tables_1
theorem lw_privs_ok : ∀ q ∈ lw_privs, lw_okq q := by
  show ∀ q ∈ lw_privs_1 ++ (lw_privs_2 ++ (lw_privs_3 ++ (lw_privs_4))), lw_okq q
  exact List.forall_mem_append.mpr ⟨lw_r1, List.forall_mem_append.mpr ⟨lw_r2, List.forall_mem_append.mpr ⟨lw_r3, lw_r4⟩⟩⟩

def RX0 : String := "PillarRuns$Bearing"
def TX0 : u_T := fun k => match k with
  | 0 => ("PillarRuns$Bearing", "under", "[I", true)
  | 1 => ("PillarRuns$Bearing", "apart", "[I", true)
  | 2 => ("PillarRuns$Bearing", "loads", "[I", true)
  | _ => ("PillarRuns$Bearing", "cellsOn", "[I", true)
def tyX0 : Nat → FieldType := fun k => match k with
  | 0 => .array .int
  | 1 => .array .int
  | 2 => .array .int
  | _ => .array .int
abbrev wsX00 : List Cond := u_ws RX0 TX0 4
theorem nmX0 : ∀ a, a < 4 → ∀ b, b < 4 → a ≠ b → (TX0 a).2.1 ≠ (TX0 b).2.1 := by decide +kernel
theorem tyX0_ok : ∀ k, k < 4 → parseFieldDescriptor (TX0 k).2.2.1 = some (tyX0 k) := by decide +kernel
abbrev cX0_init : ByteArray := prog_2_method_1_code
def yX0_init : MethodName := ⟨RX0, "<init>", "()V"⟩
abbrev cX0_lay : ByteArray := prog_2_method_2_code
def yX0_lay : MethodName := ⟨RX0, "lay", "(LPillarRuns$Mine;)V"⟩
abbrev cX0_claim : ByteArray := prog_2_method_3_code
def yX0_claim : MethodName := ⟨RX0, "claim", "(LPillarRuns$Mine;I)V"⟩
abbrev cX0_weigh : ByteArray := prog_2_method_4_code
def yX0_weigh : MethodName := ⟨RX0, "weigh", "(LPillarRuns$Mine;)V"⟩
abbrev cX0_isTooMuch : ByteArray := prog_2_method_5_code
def yX0_isTooMuch : MethodName := ⟨RX0, "isTooMuch", "(LPillarRuns$Mine;I)Z"⟩
abbrev cX0_countTooMuch : ByteArray := prog_2_method_6_code
def yX0_countTooMuch : MethodName := ⟨RX0, "countTooMuch", "(LPillarRuns$Mine;)I"⟩
abbrev cX0_countFallen : ByteArray := prog_2_method_7_code
def yX0_countFallen : MethodName := ⟨RX0, "countFallen", "()I"⟩
abbrev cX0_weighFallen : ByteArray := prog_2_method_8_code
def yX0_weighFallen : MethodName := ⟨RX0, "weighFallen", "(LPillarRuns$Mine;)I"⟩
abbrev cX0_countHeldRooms : ByteArray := prog_2_method_9_code
def yX0_countHeldRooms : MethodName := ⟨RX0, "countHeldRooms", "(LPillarRuns$Mine;)I"⟩
abbrev cX0_meet : ByteArray := prog_2_method_10_code
def yX0_meet : MethodName := ⟨RX0, "meet", "(LPillarRuns$Mine;II)Z"⟩
abbrev cX0_arePair : ByteArray := prog_2_method_11_code
def yX0_arePair : MethodName := ⟨RX0, "arePair", "(IIII)Z"⟩
def RX1 : String := "PillarRuns$Mine"
def TX1 : u_T := fun k => match k with
  | 0 => ("PillarRuns$Mine", "weights", "[I", true)
  | 1 => ("PillarRuns$Mine", "cells", "[I", true)
  | 2 => ("PillarRuns$Mine", "strengths", "[I", true)
  | 3 => ("PillarRuns$Mine", "stands", "[I", true)
  | 4 => ("PillarRuns$Mine", "walls", "[I", true)
  | _ => ("PillarRuns$Mine", "pillars", "I", false)
def tyX1 : Nat → FieldType := fun k => match k with
  | 0 => .array .int
  | 1 => .array .int
  | 2 => .array .int
  | 3 => .array .int
  | 4 => .array .int
  | _ => .int
abbrev wsX10 : List Cond := u_ws RX1 TX1 6
theorem nmX1 : ∀ a, a < 6 → ∀ b, b < 6 → a ≠ b → (TX1 a).2.1 ≠ (TX1 b).2.1 := by decide +kernel
theorem tyX1_ok : ∀ k, k < 6 → parseFieldDescriptor (TX1 k).2.2.1 = some (tyX1 k) := by decide +kernel
abbrev cX1_init : ByteArray := prog_3_method_1_code
def yX1_init : MethodName := ⟨RX1, "<init>", "()V"⟩
abbrev cX1_reset : ByteArray := prog_3_method_2_code
def yX1_reset : MethodName := ⟨RX1, "reset", "()V"⟩
abbrev cX1_copy : ByteArray := prog_3_method_3_code
def yX1_copy : MethodName := ⟨RX1, "copy", "(LPillarRuns$Mine;)V"⟩
abbrev cX1_add : ByteArray := prog_3_method_4_code
def yX1_add : MethodName := ⟨RX1, "add", "(II)V"⟩
abbrev cX1_hasPillar : ByteArray := prog_3_method_5_code
def yX1_hasPillar : MethodName := ⟨RX1, "hasPillar", "(I)Z"⟩
abbrev cX1_isStanding : ByteArray := prog_3_method_6_code
def yX1_isStanding : MethodName := ⟨RX1, "isStanding", "(I)Z"⟩
abbrev cX1_hasPillarOn : ByteArray := prog_3_method_7_code
def yX1_hasPillarOn : MethodName := ⟨RX1, "hasPillarOn", "(I)Z"⟩
abbrev cX1_countStanding : ByteArray := prog_3_method_8_code
def yX1_countStanding : MethodName := ⟨RX1, "countStanding", "()I"⟩
abbrev cX1_startsRoom : ByteArray := prog_3_method_9_code
def yX1_startsRoom : MethodName := ⟨RX1, "startsRoom", "(I)Z"⟩
abbrev cX1_countRooms : ByteArray := prog_3_method_10_code
def yX1_countRooms : MethodName := ⟨RX1, "countRooms", "()I"⟩
abbrev cX1_isOpenBelow : ByteArray := prog_3_method_11_code
def yX1_isOpenBelow : MethodName := ⟨RX1, "isOpenBelow", "(I)Z"⟩
abbrev cX1_isOpenRight : ByteArray := prog_3_method_12_code
def yX1_isOpenRight : MethodName := ⟨RX1, "isOpenRight", "(I)Z"⟩
abbrev cX1_firstOf : ByteArray := prog_3_method_13_code
def yX1_firstOf : MethodName := ⟨RX1, "firstOf", "(II)I"⟩
abbrev cX1_lastOf : ByteArray := prog_3_method_14_code
def yX1_lastOf : MethodName := ⟨RX1, "lastOf", "(III)I"⟩
def RX2 : String := "PillarRuns$Run"
def TX2 : u_T := fun k => match k with
  | 0 => ("PillarRuns$Run", "waveOf", "[I", true)
  | _ => ("PillarRuns$Run", "waves", "I", false)
def tyX2 : Nat → FieldType := fun k => match k with
  | 0 => .array .int
  | _ => .int
abbrev wsX20 : List Cond := u_ws RX2 TX2 2
theorem nmX2 : ∀ a, a < 2 → ∀ b, b < 2 → a ≠ b → (TX2 a).2.1 ≠ (TX2 b).2.1 := by decide +kernel
theorem tyX2_ok : ∀ k, k < 2 → parseFieldDescriptor (TX2 k).2.2.1 = some (tyX2 k) := by decide +kernel
abbrev cX2_init : ByteArray := prog_4_method_1_code
def yX2_init : MethodName := ⟨RX2, "<init>", "()V"⟩
abbrev cX2_forget : ByteArray := prog_4_method_2_code
def yX2_forget : MethodName := ⟨RX2, "forget", "()V"⟩
abbrev cX2_copy : ByteArray := prog_4_method_3_code
def yX2_copy : MethodName := ⟨RX2, "copy", "(LPillarRuns$Run;)V"⟩
abbrev cX2_crush : ByteArray := prog_4_method_4_code
def yX2_crush : MethodName := ⟨RX2, "crush", "(LPillarRuns$Mine;LPillarRuns$Bearing;)I"⟩
abbrev cX2_crushWave : ByteArray := prog_4_method_5_code
def yX2_crushWave : MethodName := ⟨RX2, "crushWave", "(LPillarRuns$Mine;LPillarRuns$Bearing;I)I"⟩
abbrev cX2_countInWave : ByteArray := prog_4_method_6_code
def yX2_countInWave : MethodName := ⟨RX2, "countInWave", "(I)I"⟩
def RX3 : String := "PillarRuns$States"
def TX3 : u_T := fun k => match k with
  | 0 => ("PillarRuns$States", "ring", "[LPillarRuns$Mine;", true)
  | 1 => ("PillarRuns$States", "next", "I", false)
  | _ => ("PillarRuns$States", "count", "I", false)
def tyX3 : Nat → FieldType := fun k => match k with
  | 0 => .array (.object "PillarRuns$Mine")
  | 1 => .int
  | _ => .int
abbrev wsX30 : List Cond := u_ws RX3 TX3 3
theorem nmX3 : ∀ a, a < 3 → ∀ b, b < 3 → a ≠ b → (TX3 a).2.1 ≠ (TX3 b).2.1 := by decide +kernel
theorem tyX3_ok : ∀ k, k < 3 → parseFieldDescriptor (TX3 k).2.2.1 = some (tyX3 k) := by decide +kernel
abbrev cX3_init : ByteArray := prog_5_method_1_code
def yX3_init : MethodName := ⟨RX3, "<init>", "()V"⟩
abbrev cX3_keep : ByteArray := prog_5_method_2_code
def yX3_keep : MethodName := ⟨RX3, "keep", "(LPillarRuns$Mine;)V"⟩
abbrev cX3_giveBack : ByteArray := prog_5_method_3_code
def yX3_giveBack : MethodName := ⟨RX3, "giveBack", "(LPillarRuns$Mine;)V"⟩
def RX4 : String := "PillarRuns$Text"
def TX4 : u_T := fun k => match k with
  | 0 => ("PillarRuns$Text", "bytes", "[I", true)
  | 1 => ("PillarRuns$Text", "length", "I", false)
  | 2 => ("PillarRuns$Text", "at", "I", false)
  | 3 => ("PillarRuns$Text", "fault", "I", false)
  | _ => ("PillarRuns$Text", "numberAt", "I", false)
def tyX4 : Nat → FieldType := fun k => match k with
  | 0 => .array .int
  | 1 => .int
  | 2 => .int
  | 3 => .int
  | _ => .int
abbrev wsX40 : List Cond := u_ws RX4 TX4 5
theorem nmX4 : ∀ a, a < 5 → ∀ b, b < 5 → a ≠ b → (TX4 a).2.1 ≠ (TX4 b).2.1 := by decide +kernel
theorem tyX4_ok : ∀ k, k < 5 → parseFieldDescriptor (TX4 k).2.2.1 = some (tyX4 k) := by decide +kernel
abbrev cX4_init : ByteArray := prog_6_method_1_code
def yX4_init : MethodName := ⟨RX4, "<init>", "()V"⟩
abbrev cX4_add : ByteArray := prog_6_method_2_code
def yX4_add : MethodName := ⟨RX4, "add", "(I)V"⟩
abbrev cX4_read : ByteArray := prog_6_method_3_code
def yX4_read : MethodName := ⟨RX4, "read", "(LPillarRuns$Trial;)I"⟩
abbrev cX4_readOrder : ByteArray := prog_6_method_4_code
def yX4_readOrder : MethodName := ⟨RX4, "readOrder", "(LPillarRuns$Trial;)V"⟩
abbrev cX4_readPillar : ByteArray := prog_6_method_5_code
def yX4_readPillar : MethodName := ⟨RX4, "readPillar", "(LPillarRuns$Mine;I)V"⟩
abbrev cX4_readWeight : ByteArray := prog_6_method_6_code
def yX4_readWeight : MethodName := ⟨RX4, "readWeight", "(LPillarRuns$Mine;)V"⟩
abbrev cX4_readWall : ByteArray := prog_6_method_7_code
def yX4_readWall : MethodName := ⟨RX4, "readWall", "(LPillarRuns$Mine;II)V"⟩
abbrev cX4_readCrushed : ByteArray := prog_6_method_8_code
def yX4_readCrushed : MethodName := ⟨RX4, "readCrushed", "(LPillarRuns$Mine;)V"⟩
abbrev cX4_readCell : ByteArray := prog_6_method_9_code
def yX4_readCell : MethodName := ⟨RX4, "readCell", "()I"⟩
abbrev cX4_readNumber : ByteArray := prog_6_method_10_code
def yX4_readNumber : MethodName := ⟨RX4, "readNumber", "(I)I"⟩
abbrev cX4_readEnd : ByteArray := prog_6_method_11_code
def yX4_readEnd : MethodName := ⟨RX4, "readEnd", "()V"⟩
abbrev cX4_skipBlanks : ByteArray := prog_6_method_12_code
def yX4_skipBlanks : MethodName := ⟨RX4, "skipBlanks", "()V"⟩
abbrev cX4_fail : ByteArray := prog_6_method_13_code
def yX4_fail : MethodName := ⟨RX4, "fail", "(I)V"⟩
abbrev cX4_isFigure : ByteArray := prog_6_method_14_code
def yX4_isFigure : MethodName := ⟨RX4, "isFigure", "(I)Z"⟩
def RX5 : String := "PillarRuns$Trial"
def TX5 : u_T := fun k => match k with
  | 0 => ("PillarRuns$Trial", "mine", "LPillarRuns$Mine;", true)
  | 1 => ("PillarRuns$Trial", "bearing", "LPillarRuns$Bearing;", true)
  | _ => ("PillarRuns$Trial", "run", "LPillarRuns$Run;", true)
def tyX5 : Nat → FieldType := fun k => match k with
  | 0 => .object "PillarRuns$Mine"
  | 1 => .object "PillarRuns$Bearing"
  | _ => .object "PillarRuns$Run"
abbrev wsX50 : List Cond := u_ws RX5 TX5 3
theorem nmX5 : ∀ a, a < 3 → ∀ b, b < 3 → a ≠ b → (TX5 a).2.1 ≠ (TX5 b).2.1 := by decide +kernel
theorem tyX5_ok : ∀ k, k < 3 → parseFieldDescriptor (TX5 k).2.2.1 = some (tyX5 k) := by decide +kernel
abbrev cX5_init : ByteArray := prog_7_method_1_code
def yX5_init : MethodName := ⟨RX5, "<init>", "()V"⟩
abbrev cX5_start : ByteArray := prog_7_method_2_code
def yX5_start : MethodName := ⟨RX5, "start", "(LPillarRuns$Mine;)V"⟩
abbrev cX5_crush : ByteArray := prog_7_method_3_code
def yX5_crush : MethodName := ⟨RX5, "crush", "()I"⟩
abbrev cX5_lose : ByteArray := prog_7_method_4_code
def yX5_lose : MethodName := ⟨RX5, "lose", "(LPillarRuns$Mine;I)I"⟩
abbrev cX5_build : ByteArray := prog_7_method_5_code
def yX5_build : MethodName := ⟨RX5, "build", "(LPillarRuns$Mine;I)I"⟩
abbrev cX5_support : ByteArray := prog_7_method_6_code
def yX5_support : MethodName := ⟨RX5, "support", "(LPillarRuns$Mine;II)I"⟩
def RX6 : String := "PillarRuns"
def TX6 : u_T := fun k => match k with
  | 0 => ("PillarRuns", "mine", "LPillarRuns$Mine;", true)
  | 1 => ("PillarRuns", "bearing", "LPillarRuns$Bearing;", true)
  | 2 => ("PillarRuns", "lastRun", "LPillarRuns$Run;", true)
  | 3 => ("PillarRuns", "states", "LPillarRuns$States;", true)
  | 4 => ("PillarRuns", "trial", "LPillarRuns$Trial;", true)
  | 5 => ("PillarRuns", "text", "LPillarRuns$Text;", true)
  | _ => ("PillarRuns", "refusals", "[I", true)
def tyX6 : Nat → FieldType := fun k => match k with
  | 0 => .object "PillarRuns$Mine"
  | 1 => .object "PillarRuns$Bearing"
  | 2 => .object "PillarRuns$Run"
  | 3 => .object "PillarRuns$States"
  | 4 => .object "PillarRuns$Trial"
  | 5 => .object "PillarRuns$Text"
  | _ => .array .int
abbrev wsX60 : List Cond := u_ws RX6 TX6 7
theorem nmX6 : ∀ a, a < 7 → ∀ b, b < 7 → a ≠ b → (TX6 a).2.1 ≠ (TX6 b).2.1 := by decide +kernel
theorem tyX6_ok : ∀ k, k < 7 → parseFieldDescriptor (TX6 k).2.2.1 = some (tyX6 k) := by decide +kernel
abbrev cX6_init : ByteArray := prog_1_method_1_code
def yX6_init : MethodName := ⟨RX6, "<init>", "()V"⟩
abbrev cX6_pillar : ByteArray := prog_1_method_2_code
def yX6_pillar : MethodName := ⟨RX6, "pillar", "(II)I"⟩
abbrev cX6_weight : ByteArray := prog_1_method_3_code
def yX6_weight : MethodName := ⟨RX6, "weight", "(II)I"⟩
abbrev cX6_draw : ByteArray := prog_1_method_4_code
def yX6_draw : MethodName := ⟨RX6, "draw", "(II)I"⟩
abbrev cX6_strength : ByteArray := prog_1_method_5_code
def yX6_strength : MethodName := ⟨RX6, "strength", "(II)I"⟩
abbrev cX6_wall : ByteArray := prog_1_method_6_code
def yX6_wall : MethodName := ⟨RX6, "wall", "(III)I"⟩
abbrev cX6_mends : ByteArray := prog_1_method_7_code
def yX6_mends : MethodName := ⟨RX6, "mends", "()I"⟩
abbrev cX6_anew : ByteArray := prog_1_method_8_code
def yX6_anew : MethodName := ⟨RX6, "anew", "()I"⟩
abbrev cX6_of : ByteArray := prog_1_method_9_code
def yX6_of : MethodName := ⟨RX6, "of", "(II)I"⟩
abbrev cX6_rests : ByteArray := prog_1_method_10_code
def yX6_rests : MethodName := ⟨RX6, "rests", "(I)I"⟩
abbrev cX6_all : ByteArray := prog_1_method_11_code
def yX6_all : MethodName := ⟨RX6, "all", "(I)I"⟩
abbrev cX6_beside : ByteArray := prog_1_method_12_code
def yX6_beside : MethodName := ⟨RX6, "beside", "(II)I"⟩
abbrev cX6_runs : ByteArray := prog_1_method_13_code
def yX6_runs : MethodName := ⟨RX6, "runs", "()I"⟩
abbrev cX6_loses : ByteArray := prog_1_method_14_code
def yX6_loses : MethodName := ⟨RX6, "loses", "(I)I"⟩
abbrev cX6_wave : ByteArray := prog_1_method_15_code
def yX6_wave : MethodName := ⟨RX6, "wave", "(II)I"⟩
abbrev cX6_would : ByteArray := prog_1_method_16_code
def yX6_would : MethodName := ⟨RX6, "would", "(II)I"⟩
abbrev cX6_worst : ByteArray := prog_1_method_17_code
def yX6_worst : MethodName := ⟨RX6, "worst", "(I)I"⟩
abbrev cX6_cut : ByteArray := prog_1_method_18_code
def yX6_cut : MethodName := ⟨RX6, "cut", "(I)I"⟩
abbrev cX6_mending : ByteArray := prog_1_method_19_code
def yX6_mending : MethodName := ⟨RX6, "mending", "()I"⟩
abbrev cX6_bestWall : ByteArray := prog_1_method_20_code
def yX6_bestWall : MethodName := ⟨RX6, "bestWall", "(I)I"⟩
abbrev cX6_bestCell : ByteArray := prog_1_method_21_code
def yX6_bestCell : MethodName := ⟨RX6, "bestCell", "(II)I"⟩
abbrev cX6_type : ByteArray := prog_1_method_22_code
def yX6_type : MethodName := ⟨RX6, "type", "(I)I"⟩
abbrev cX6_clear : ByteArray := prog_1_method_23_code
def yX6_clear : MethodName := ⟨RX6, "clear", "()I"⟩
abbrev cX6_does : ByteArray := prog_1_method_24_code
def yX6_does : MethodName := ⟨RX6, "does", "()I"⟩
abbrev cX6_back : ByteArray := prog_1_method_25_code
def yX6_back : MethodName := ⟨RX6, "back", "()I"⟩
abbrev cX6_told : ByteArray := prog_1_method_26_code
def yX6_told : MethodName := ⟨RX6, "told", "(I)I"⟩
abbrev cX6_digest : ByteArray := prog_1_method_27_code
def yX6_digest : MethodName := ⟨RX6, "digest", "()J"⟩
abbrev cX6_refuse : ByteArray := prog_1_method_28_code
def yX6_refuse : MethodName := ⟨RX6, "refuse", "(I)I"⟩
abbrev cX6_tellCount : ByteArray := prog_1_method_29_code
def yX6_tellCount : MethodName := ⟨RX6, "tellCount", "(I)I"⟩
abbrev cX6_tellMine : ByteArray := prog_1_method_30_code
def yX6_tellMine : MethodName := ⟨RX6, "tellMine", "(I)I"⟩
abbrev cX6_tellPillar : ByteArray := prog_1_method_31_code
def yX6_tellPillar : MethodName := ⟨RX6, "tellPillar", "(II)I"⟩
abbrev cX6_isWithin : ByteArray := prog_1_method_32_code
def yX6_isWithin : MethodName := ⟨RX6, "isWithin", "(II)Z"⟩
abbrev cX6_isCell : ByteArray := prog_1_method_33_code
def yX6_isCell : MethodName := ⟨RX6, "isCell", "(I)Z"⟩
abbrev cX6_isStrength : ByteArray := prog_1_method_34_code
def yX6_isStrength : MethodName := ⟨RX6, "isStrength", "(I)Z"⟩
abbrev cX6_isWall : ByteArray := prog_1_method_35_code
def yX6_isWall : MethodName := ⟨RX6, "isWall", "(I)Z"⟩
abbrev cX6_sum : ByteArray := prog_1_method_36_code
def yX6_sum : MethodName := ⟨RX6, "sum", "([I)I"⟩
def RX7 : String := "PillarRunsModel"
def TX7 : u_T := fun k => match k with
  | 0 => ("PillarRunsModel", "refused", "[I", true)
  | 1 => ("PillarRunsModel", "weight", "[I", true)
  | 2 => ("PillarRunsModel", "many", "I", false)
  | 3 => ("PillarRunsModel", "cell", "[I", true)
  | 4 => ("PillarRunsModel", "strong", "[I", true)
  | 5 => ("PillarRunsModel", "up", "I", false)
  | 6 => ("PillarRunsModel", "walls", "I", false)
  | 7 => ("PillarRunsModel", "states", "I", false)
  | 8 => ("PillarRunsModel", "kept", "[I", true)
  | 9 => ("PillarRunsModel", "rowRoom", "[I", true)
  | 10 => ("PillarRunsModel", "columnRoom", "[I", true)
  | 11 => ("PillarRunsModel", "load", "[I", true)
  | 12 => ("PillarRunsModel", "rests", "[I", true)
  | 13 => ("PillarRunsModel", "waves", "I", false)
  | 14 => ("PillarRunsModel", "wave", "[I", true)
  | 15 => ("PillarRunsModel", "text", "[I", true)
  | 16 => ("PillarRunsModel", "size", "I", false)
  | 17 => ("PillarRunsModel", "readAt", "I", false)
  | 18 => ("PillarRunsModel", "readValue", "I", false)
  | 19 => ("PillarRunsModel", "readCell", "I", false)
  | 20 => ("PillarRunsModel", "nowWaves", "I", false)
  | 21 => ("PillarRunsModel", "nowWave", "[I", true)
  | _ => ("PillarRunsModel", "ahead", "[I", true)
def tyX7 : Nat → FieldType := fun k => match k with
  | 0 => .array .int
  | 1 => .array .int
  | 2 => .int
  | 3 => .array .int
  | 4 => .array .int
  | 5 => .int
  | 6 => .int
  | 7 => .int
  | 8 => .array .int
  | 9 => .array .int
  | 10 => .array .int
  | 11 => .array .int
  | 12 => .array .int
  | 13 => .int
  | 14 => .array .int
  | 15 => .array .int
  | 16 => .int
  | 17 => .int
  | 18 => .int
  | 19 => .int
  | 20 => .int
  | 21 => .array .int
  | _ => .array .int
abbrev wsX70 : List Cond := u_ws RX7 TX7 23
theorem nmX7 : ∀ a, a < 23 → ∀ b, b < 23 → a ≠ b → (TX7 a).2.1 ≠ (TX7 b).2.1 := by decide +kernel
theorem tyX7_ok : ∀ k, k < 23 → parseFieldDescriptor (TX7 k).2.2.1 = some (tyX7 k) := by decide +kernel
abbrev cX7_init : ByteArray := prog_9_method_1_code
def yX7_init : MethodName := ⟨RX7, "<init>", "()V"⟩
abbrev cX7_bad : ByteArray := prog_9_method_2_code
def yX7_bad : MethodName := ⟨RX7, "bad", "()I"⟩
abbrev cX7_no : ByteArray := prog_9_method_3_code
def yX7_no : MethodName := ⟨RX7, "no", "()I"⟩
abbrev cX7_full : ByteArray := prog_9_method_4_code
def yX7_full : MethodName := ⟨RX7, "full", "()I"⟩
abbrev cX7_in : ByteArray := prog_9_method_5_code
def yX7_in : MethodName := ⟨RX7, "in", "(III)Z"⟩
abbrev cX7_ones : ByteArray := prog_9_method_6_code
def yX7_ones : MethodName := ⟨RX7, "ones", "(I)I"⟩
abbrev cX7_writes : ByteArray := prog_9_method_7_code
def yX7_writes : MethodName := ⟨RX7, "writes", "(I)V"⟩
abbrev cX7_leavesState : ByteArray := prog_9_method_8_code
def yX7_leavesState : MethodName := ⟨RX7, "leavesState", "()V"⟩
abbrev cX7_comesBack : ByteArray := prog_9_method_9_code
def yX7_comesBack : MethodName := ⟨RX7, "comesBack", "()V"⟩
abbrev cX7_back : ByteArray := prog_9_method_10_code
def yX7_back : MethodName := ⟨RX7, "back", "()I"⟩
abbrev cX7_isCell : ByteArray := prog_9_method_11_code
def yX7_isCell : MethodName := ⟨RX7, "isCell", "(I)Z"⟩
abbrev cX7_isPillar : ByteArray := prog_9_method_12_code
def yX7_isPillar : MethodName := ⟨RX7, "isPillar", "(I)Z"⟩
abbrev cX7_stands : ByteArray := prog_9_method_13_code
def yX7_stands : MethodName := ⟨RX7, "stands", "(I)Z"⟩
abbrev cX7_pillarAt : ByteArray := prog_9_method_14_code
def yX7_pillarAt : MethodName := ⟨RX7, "pillarAt", "(I)I"⟩
abbrev cX7_comesPillar : ByteArray := prog_9_method_15_code
def yX7_comesPillar : MethodName := ⟨RX7, "comesPillar", "(II)V"⟩
abbrev cX7_pillar : ByteArray := prog_9_method_16_code
def yX7_pillar : MethodName := ⟨RX7, "pillar", "(II)I"⟩
abbrev cX7_weight : ByteArray := prog_9_method_17_code
def yX7_weight : MethodName := ⟨RX7, "weight", "(II)I"⟩
abbrev cX7_draw : ByteArray := prog_9_method_18_code
def yX7_draw : MethodName := ⟨RX7, "draw", "(II)I"⟩
abbrev cX7_strength : ByteArray := prog_9_method_19_code
def yX7_strength : MethodName := ⟨RX7, "strength", "(II)I"⟩
abbrev cX7_isWall : ByteArray := prog_9_method_20_code
def yX7_isWall : MethodName := ⟨RX7, "isWall", "(II)Z"⟩
abbrev cX7_wall : ByteArray := prog_9_method_21_code
def yX7_wall : MethodName := ⟨RX7, "wall", "(III)I"⟩
abbrev cX7_mends : ByteArray := prog_9_method_22_code
def yX7_mends : MethodName := ⟨RX7, "mends", "()I"⟩
abbrev cX7_anew : ByteArray := prog_9_method_23_code
def yX7_anew : MethodName := ⟨RX7, "anew", "()I"⟩
abbrev cX7_gap : ByteArray := prog_9_method_24_code
def yX7_gap : MethodName := ⟨RX7, "gap", "(II)I"⟩
abbrev cX7_wallsAhead : ByteArray := prog_9_method_25_code
def yX7_wallsAhead : MethodName := ⟨RX7, "wallsAhead", "(II)I"⟩
abbrev cX7_setRooms : ByteArray := prog_9_method_26_code
def yX7_setRooms : MethodName := ⟨RX7, "setRooms", "()V"⟩
abbrev cX7_roomOf : ByteArray := prog_9_method_27_code
def yX7_roomOf : MethodName := ⟨RX7, "roomOf", "(I)I"⟩
abbrev cX7_bearer : ByteArray := prog_9_method_28_code
def yX7_bearer : MethodName := ⟨RX7, "bearer", "(II)I"⟩
abbrev cX7_bears : ByteArray := prog_9_method_29_code
def yX7_bears : MethodName := ⟨RX7, "bears", "(I)V"⟩
abbrev cX7_tooMuch : ByteArray := prog_9_method_30_code
def yX7_tooMuch : MethodName := ⟨RX7, "tooMuch", "(I)I"⟩
abbrev cX7_noWaves : ByteArray := prog_9_method_31_code
def yX7_noWaves : MethodName := ⟨RX7, "noWaves", "()V"⟩
abbrev cX7_left : ByteArray := prog_9_method_32_code
def yX7_left : MethodName := ⟨RX7, "left", "(I)I"⟩
abbrev cX7_goes : ByteArray := prog_9_method_33_code
def yX7_goes : MethodName := ⟨RX7, "goes", "()V"⟩
abbrev cX7_tall : ByteArray := prog_9_method_34_code
def yX7_tall : MethodName := ⟨RX7, "tall", "(I)I"⟩
abbrev cX7_ofBy : ByteArray := prog_9_method_35_code
def yX7_ofBy : MethodName := ⟨RX7, "ofBy", "(II)I"⟩
abbrev cX7_of : ByteArray := prog_9_method_36_code
def yX7_of : MethodName := ⟨RX7, "of", "(II)I"⟩
abbrev cX7_rests : ByteArray := prog_9_method_37_code
def yX7_rests : MethodName := ⟨RX7, "rests", "(I)I"⟩
abbrev cX7_allWeight : ByteArray := prog_9_method_38_code
def yX7_allWeight : MethodName := ⟨RX7, "allWeight", "()I"⟩
abbrev cX7_rooms : ByteArray := prog_9_method_39_code
def yX7_rooms : MethodName := ⟨RX7, "rooms", "()I"⟩
abbrev cX7_heldRooms : ByteArray := prog_9_method_40_code
def yX7_heldRooms : MethodName := ⟨RX7, "heldRooms", "()I"⟩
abbrev cX7_allBy : ByteArray := prog_9_method_41_code
def yX7_allBy : MethodName := ⟨RX7, "allBy", "(I)I"⟩
abbrev cX7_all : ByteArray := prog_9_method_42_code
def yX7_all : MethodName := ⟨RX7, "all", "(I)I"⟩
abbrev cX7_isSide : ByteArray := prog_9_method_43_code
def yX7_isSide : MethodName := ⟨RX7, "isSide", "(IIII)Z"⟩
abbrev cX7_beside : ByteArray := prog_9_method_44_code
def yX7_beside : MethodName := ⟨RX7, "beside", "(II)I"⟩
abbrev cX7_runs : ByteArray := prog_9_method_45_code
def yX7_runs : MethodName := ⟨RX7, "runs", "()I"⟩
abbrev cX7_loses : ByteArray := prog_9_method_46_code
def yX7_loses : MethodName := ⟨RX7, "loses", "(I)I"⟩
abbrev cX7_waveOf : ByteArray := prog_9_method_47_code
def yX7_waveOf : MethodName := ⟨RX7, "waveOf", "(I)I"⟩
abbrev cX7_wave : ByteArray := prog_9_method_48_code
def yX7_wave : MethodName := ⟨RX7, "wave", "(II)I"⟩
abbrev cX7_lossOf : ByteArray := prog_9_method_49_code
def yX7_lossOf : MethodName := ⟨RX7, "lossOf", "(I)I"⟩
abbrev cX7_would : ByteArray := prog_9_method_50_code
def yX7_would : MethodName := ⟨RX7, "would", "(II)I"⟩
abbrev cX7_worst : ByteArray := prog_9_method_51_code
def yX7_worst : MethodName := ⟨RX7, "worst", "(I)I"⟩
abbrev cX7_leftCut : ByteArray := prog_9_method_52_code
def yX7_leftCut : MethodName := ⟨RX7, "leftCut", "(II)I"⟩
abbrev cX7_cut : ByteArray := prog_9_method_53_code
def yX7_cut : MethodName := ⟨RX7, "cut", "(I)I"⟩
abbrev cX7_mending : ByteArray := prog_9_method_54_code
def yX7_mending : MethodName := ⟨RX7, "mending", "()I"⟩
abbrev cX7_bestWall : ByteArray := prog_9_method_55_code
def yX7_bestWall : MethodName := ⟨RX7, "bestWall", "(I)I"⟩
abbrev cX7_bestCell : ByteArray := prog_9_method_56_code
def yX7_bestCell : MethodName := ⟨RX7, "bestCell", "(II)I"⟩
abbrev cX7_type : ByteArray := prog_9_method_57_code
def yX7_type : MethodName := ⟨RX7, "type", "(I)I"⟩
abbrev cX7_clear : ByteArray := prog_9_method_58_code
def yX7_clear : MethodName := ⟨RX7, "clear", "()I"⟩
abbrev cX7_here : ByteArray := prog_9_method_59_code
def yX7_here : MethodName := ⟨RX7, "here", "()I"⟩
abbrev cX7_readsNumber : ByteArray := prog_9_method_60_code
def yX7_readsNumber : MethodName := ⟨RX7, "readsNumber", "(I)Z"⟩
abbrev cX7_ends : ByteArray := prog_9_method_61_code
def yX7_ends : MethodName := ⟨RX7, "ends", "()Z"⟩
abbrev cX7_readsCell : ByteArray := prog_9_method_62_code
def yX7_readsCell : MethodName := ⟨RX7, "readsCell", "()Z"⟩
abbrev cX7_readsPillar : ByteArray := prog_9_method_63_code
def yX7_readsPillar : MethodName := ⟨RX7, "readsPillar", "(I)Z"⟩
abbrev cX7_readsWeight : ByteArray := prog_9_method_64_code
def yX7_readsWeight : MethodName := ⟨RX7, "readsWeight", "()Z"⟩
abbrev cX7_readsWall : ByteArray := prog_9_method_65_code
def yX7_readsWall : MethodName := ⟨RX7, "readsWall", "(II)Z"⟩
abbrev cX7_readsCrushed : ByteArray := prog_9_method_66_code
def yX7_readsCrushed : MethodName := ⟨RX7, "readsCrushed", "()Z"⟩
abbrev cX7_readsRun : ByteArray := prog_9_method_67_code
def yX7_readsRun : MethodName := ⟨RX7, "readsRun", "()Z"⟩
abbrev cX7_readsOrder : ByteArray := prog_9_method_68_code
def yX7_readsOrder : MethodName := ⟨RX7, "readsOrder", "()Z"⟩
abbrev cX7_keepsAhead : ByteArray := prog_9_method_69_code
def yX7_keepsAhead : MethodName := ⟨RX7, "keepsAhead", "()V"⟩
abbrev cX7_asAhead : ByteArray := prog_9_method_70_code
def yX7_asAhead : MethodName := ⟨RX7, "asAhead", "()V"⟩
abbrev cX7_does : ByteArray := prog_9_method_71_code
def yX7_does : MethodName := ⟨RX7, "does", "()I"⟩
abbrev cX7_leavesAhead : ByteArray := prog_9_method_72_code
def yX7_leavesAhead : MethodName := ⟨RX7, "leavesAhead", "()V"⟩
abbrev cX7_toldBy : ByteArray := prog_9_method_73_code
def yX7_toldBy : MethodName := ⟨RX7, "toldBy", "(I)I"⟩
abbrev cX7_told : ByteArray := prog_9_method_74_code
def yX7_told : MethodName := ⟨RX7, "told", "(I)I"⟩
abbrev cX7_digest : ByteArray := prog_9_method_75_code
def yX7_digest : MethodName := ⟨RX7, "digest", "()J"⟩
def RJ9 : String := "java/lang/Math"
def TJ9 : u_T := fun k => match k with
  | _ => ("", "", "", false)
def tyJ9 : Nat → FieldType := fun k => match k with
  | _ => .int
abbrev wsJ90 : List Cond := u_ws RJ9 TJ9 0
theorem nmJ9 : ∀ a, a < 0 → ∀ b, b < 0 → a ≠ b → (TJ9 a).2.1 ≠ (TJ9 b).2.1 := by decide +kernel
theorem tyJ9_ok : ∀ k, k < 0 → parseFieldDescriptor (TJ9 k).2.2.1 = some (tyJ9 k) := by decide +kernel
abbrev cJ9_abs_0f7a4 : ByteArray := prog_10_method_59_code
def yJ9_abs_0f7a4 : MethodName := ⟨RJ9, "abs", "(I)I"⟩
abbrev cJ9_max_7cf53 : ByteArray := prog_10_method_65_code
def yJ9_max_7cf53 : MethodName := ⟨RJ9, "max", "(II)I"⟩
abbrev cJ9_min_7cf53 : ByteArray := prog_10_method_69_code
def yJ9_min_7cf53 : MethodName := ⟨RJ9, "min", "(II)I"⟩
def RJ10 : String := "java/lang/System"
def TJ10 : u_T := fun k => match k with
  | _ => ("", "", "", false)
def tyJ10 : Nat → FieldType := fun k => match k with
  | _ => .int
abbrev wsJ100 : List Cond := u_ws RJ10 TJ10 0
theorem nmJ10 : ∀ a, a < 0 → ∀ b, b < 0 → a ≠ b → (TJ10 a).2.1 ≠ (TJ10 b).2.1 := by decide +kernel
theorem tyJ10_ok : ∀ k, k < 0 → parseFieldDescriptor (TJ10 k).2.2.1 = some (tyJ10 k) := by decide +kernel
def RJ7 : String := "java/util/Arrays"
def TJ7 : u_T := fun k => match k with
  | _ => ("", "", "", false)
def tyJ7 : Nat → FieldType := fun k => match k with
  | _ => .int
abbrev wsJ70 : List Cond := u_ws RJ7 TJ7 0
theorem nmJ7 : ∀ a, a < 0 → ∀ b, b < 0 → a ≠ b → (TJ7 a).2.1 ≠ (TJ7 b).2.1 := by decide +kernel
theorem tyJ7_ok : ∀ k, k < 0 → parseFieldDescriptor (TJ7 k).2.2.1 = some (tyJ7 k) := by decide +kernel
abbrev cJ7_fill_53178 : ByteArray := prog_12_method_103_code
def yJ7_fill_53178 : MethodName := ⟨RJ7, "fill", "([II)V"⟩
def RL : String := "PillarRunsLaw"
abbrev cL_law : ByteArray := code
def yL_law : MethodName := ⟨RL, "law", "([I)Z"⟩
abbrev vwCl : List vw_C := [(RX0, TX0, 4), (RX1, TX1, 6), (RX2, TX2, 2), (RX3, TX3, 3), (RX4, TX4, 5), (RX5, TX5, 3), (RX6, TX6, 7), (RX7, TX7, 23)]
