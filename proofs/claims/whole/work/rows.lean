section
-- ===== PART A: goes FIRST, ahead of the names: the tables' words, and 'selects' of the private methods out of them =====
/-- a private method of a class that the tables say can be made, by its rows of tables_1 -/
def lw_okq (q : MethodName × Nat) : Prop := (q.1.cls ≠ "java/lang/invoke/MethodHandle" ∧ q.1.cls ≠ "java/lang/invoke/VarHandle") ∧ Cond.instantiable q.1.cls q.2 ∈ tables_1 ∧ Cond.privateMethod q.1 ∈ tables_1 ∧ Cond.instanceMethod q.1 ∈ tables_1
theorem lw_p0 : lw_okq (⟨"PillarRuns", "refuse", "(I)I"⟩, 7) := ⟨⟨by decide +kernel, by decide +kernel⟩, List.mem_of_getElem? (i := 13) (by decide +kernel), List.mem_of_getElem? (i := 219) (by decide +kernel), List.mem_of_getElem? (i := 220) (by decide +kernel)⟩
theorem lw_p1 : lw_okq (⟨"PillarRuns$Bearing", "claim", "(LPillarRuns$Mine;I)V"⟩, 4) := ⟨⟨by decide +kernel, by decide +kernel⟩, List.mem_of_getElem? (i := 73) (by decide +kernel), List.mem_of_getElem? (i := 296) (by decide +kernel), List.mem_of_getElem? (i := 297) (by decide +kernel)⟩
theorem lw_p2 : lw_okq (⟨"PillarRuns$Bearing", "weigh", "(LPillarRuns$Mine;)V"⟩, 4) := ⟨⟨by decide +kernel, by decide +kernel⟩, List.mem_of_getElem? (i := 73) (by decide +kernel), List.mem_of_getElem? (i := 311) (by decide +kernel), List.mem_of_getElem? (i := 312) (by decide +kernel)⟩
theorem lw_p3 : lw_okq (⟨"PillarRuns", "tellPillar", "(II)I"⟩, 7) := ⟨⟨by decide +kernel, by decide +kernel⟩, List.mem_of_getElem? (i := 13) (by decide +kernel), List.mem_of_getElem? (i := 315) (by decide +kernel), List.mem_of_getElem? (i := 316) (by decide +kernel)⟩
theorem lw_p4 : lw_okq (⟨"PillarRuns", "tellMine", "(I)I"⟩, 7) := ⟨⟨by decide +kernel, by decide +kernel⟩, List.mem_of_getElem? (i := 13) (by decide +kernel), List.mem_of_getElem? (i := 332) (by decide +kernel), List.mem_of_getElem? (i := 333) (by decide +kernel)⟩
theorem lw_p5 : lw_okq (⟨"PillarRuns$Bearing", "arePair", "(IIII)Z"⟩, 4) := ⟨⟨by decide +kernel, by decide +kernel⟩, List.mem_of_getElem? (i := 73) (by decide +kernel), List.mem_of_getElem? (i := 382) (by decide +kernel), List.mem_of_getElem? (i := 383) (by decide +kernel)⟩
theorem lw_p6 : lw_okq (⟨"PillarRuns$Run", "crushWave", "(LPillarRuns$Mine;LPillarRuns$Bearing;I)I"⟩, 2) := ⟨⟨by decide +kernel, by decide +kernel⟩, List.mem_of_getElem? (i := 95) (by decide +kernel), List.mem_of_getElem? (i := 396) (by decide +kernel), List.mem_of_getElem? (i := 397) (by decide +kernel)⟩
theorem lw_p7 : lw_okq (⟨"PillarRuns$Text", "skipBlanks", "()V"⟩, 5) := ⟨⟨by decide +kernel, by decide +kernel⟩, List.mem_of_getElem? (i := 161) (by decide +kernel), List.mem_of_getElem? (i := 494) (by decide +kernel), List.mem_of_getElem? (i := 495) (by decide +kernel)⟩
theorem lw_p8 : lw_okq (⟨"PillarRuns$Text", "fail", "(I)V"⟩, 5) := ⟨⟨by decide +kernel, by decide +kernel⟩, List.mem_of_getElem? (i := 161) (by decide +kernel), List.mem_of_getElem? (i := 498) (by decide +kernel), List.mem_of_getElem? (i := 499) (by decide +kernel)⟩
theorem lw_p9 : lw_okq (⟨"PillarRuns$Text", "readOrder", "(LPillarRuns$Trial;)V"⟩, 5) := ⟨⟨by decide +kernel, by decide +kernel⟩, List.mem_of_getElem? (i := 161) (by decide +kernel), List.mem_of_getElem? (i := 502) (by decide +kernel), List.mem_of_getElem? (i := 503) (by decide +kernel)⟩
theorem lw_p10 : lw_okq (⟨"PillarRuns$Text", "readPillar", "(LPillarRuns$Mine;I)V"⟩, 5) := ⟨⟨by decide +kernel, by decide +kernel⟩, List.mem_of_getElem? (i := 161) (by decide +kernel), List.mem_of_getElem? (i := 506) (by decide +kernel), List.mem_of_getElem? (i := 507) (by decide +kernel)⟩
theorem lw_p11 : lw_okq (⟨"PillarRuns$Text", "readCell", "()I"⟩, 5) := ⟨⟨by decide +kernel, by decide +kernel⟩, List.mem_of_getElem? (i := 161) (by decide +kernel), List.mem_of_getElem? (i := 510) (by decide +kernel), List.mem_of_getElem? (i := 511) (by decide +kernel)⟩
theorem lw_p12 : lw_okq (⟨"PillarRuns$Text", "readNumber", "(I)I"⟩, 5) := ⟨⟨by decide +kernel, by decide +kernel⟩, List.mem_of_getElem? (i := 161) (by decide +kernel), List.mem_of_getElem? (i := 514) (by decide +kernel), List.mem_of_getElem? (i := 515) (by decide +kernel)⟩
theorem lw_p13 : lw_okq (⟨"PillarRuns$Text", "readEnd", "()V"⟩, 5) := ⟨⟨by decide +kernel, by decide +kernel⟩, List.mem_of_getElem? (i := 161) (by decide +kernel), List.mem_of_getElem? (i := 521) (by decide +kernel), List.mem_of_getElem? (i := 522) (by decide +kernel)⟩
theorem lw_p14 : lw_okq (⟨"PillarRuns$Text", "readWeight", "(LPillarRuns$Mine;)V"⟩, 5) := ⟨⟨by decide +kernel, by decide +kernel⟩, List.mem_of_getElem? (i := 161) (by decide +kernel), List.mem_of_getElem? (i := 527) (by decide +kernel), List.mem_of_getElem? (i := 528) (by decide +kernel)⟩
theorem lw_p15 : lw_okq (⟨"PillarRuns$Text", "readWall", "(LPillarRuns$Mine;II)V"⟩, 5) := ⟨⟨by decide +kernel, by decide +kernel⟩, List.mem_of_getElem? (i := 161) (by decide +kernel), List.mem_of_getElem? (i := 531) (by decide +kernel), List.mem_of_getElem? (i := 532) (by decide +kernel)⟩
def lw_privs_1 : List (MethodName × Nat) := [(⟨"PillarRuns", "refuse", "(I)I"⟩, 7), (⟨"PillarRuns$Bearing", "claim", "(LPillarRuns$Mine;I)V"⟩, 4), (⟨"PillarRuns$Bearing", "weigh", "(LPillarRuns$Mine;)V"⟩, 4), (⟨"PillarRuns", "tellPillar", "(II)I"⟩, 7), (⟨"PillarRuns", "tellMine", "(I)I"⟩, 7), (⟨"PillarRuns$Bearing", "arePair", "(IIII)Z"⟩, 4), (⟨"PillarRuns$Run", "crushWave", "(LPillarRuns$Mine;LPillarRuns$Bearing;I)I"⟩, 2), (⟨"PillarRuns$Text", "skipBlanks", "()V"⟩, 5), (⟨"PillarRuns$Text", "fail", "(I)V"⟩, 5), (⟨"PillarRuns$Text", "readOrder", "(LPillarRuns$Trial;)V"⟩, 5), (⟨"PillarRuns$Text", "readPillar", "(LPillarRuns$Mine;I)V"⟩, 5), (⟨"PillarRuns$Text", "readCell", "()I"⟩, 5), (⟨"PillarRuns$Text", "readNumber", "(I)I"⟩, 5), (⟨"PillarRuns$Text", "readEnd", "()V"⟩, 5), (⟨"PillarRuns$Text", "readWeight", "(LPillarRuns$Mine;)V"⟩, 5), (⟨"PillarRuns$Text", "readWall", "(LPillarRuns$Mine;II)V"⟩, 5)]
theorem lw_r1 : ∀ q ∈ lw_privs_1, lw_okq q := List.forall_mem_cons.mpr ⟨lw_p0, List.forall_mem_cons.mpr ⟨lw_p1, List.forall_mem_cons.mpr ⟨lw_p2, List.forall_mem_cons.mpr ⟨lw_p3, List.forall_mem_cons.mpr ⟨lw_p4, List.forall_mem_cons.mpr ⟨lw_p5, List.forall_mem_cons.mpr ⟨lw_p6, List.forall_mem_cons.mpr ⟨lw_p7, List.forall_mem_cons.mpr ⟨lw_p8, List.forall_mem_cons.mpr ⟨lw_p9, List.forall_mem_cons.mpr ⟨lw_p10, List.forall_mem_cons.mpr ⟨lw_p11, List.forall_mem_cons.mpr ⟨lw_p12, List.forall_mem_cons.mpr ⟨lw_p13, List.forall_mem_cons.mpr ⟨lw_p14, List.forall_mem_cons.mpr ⟨lw_p15, fun _ h => absurd h List.not_mem_nil⟩⟩⟩⟩⟩⟩⟩⟩⟩⟩⟩⟩⟩⟩⟩⟩
theorem lw_p16 : lw_okq (⟨"PillarRuns$Text", "readCrushed", "(LPillarRuns$Mine;)V"⟩, 5) := ⟨⟨by decide +kernel, by decide +kernel⟩, List.mem_of_getElem? (i := 161) (by decide +kernel), List.mem_of_getElem? (i := 535) (by decide +kernel), List.mem_of_getElem? (i := 536) (by decide +kernel)⟩
theorem lw_p17 : lw_okq (⟨"PillarRuns", "tellCount", "(I)I"⟩, 7) := ⟨⟨by decide +kernel, by decide +kernel⟩, List.mem_of_getElem? (i := 13) (by decide +kernel), List.mem_of_getElem? (i := 554) (by decide +kernel), List.mem_of_getElem? (i := 555) (by decide +kernel)⟩
theorem lw_p18 : lw_okq (⟨"PillarRunsModel", "no", "()I"⟩, 23) := ⟨⟨by decide +kernel, by decide +kernel⟩, List.mem_of_getElem? (i := 564) (by decide +kernel), List.mem_of_getElem? (i := 644) (by decide +kernel), List.mem_of_getElem? (i := 645) (by decide +kernel)⟩
theorem lw_p19 : lw_okq (⟨"PillarRunsModel", "comesBack", "()V"⟩, 23) := ⟨⟨by decide +kernel, by decide +kernel⟩, List.mem_of_getElem? (i := 564) (by decide +kernel), List.mem_of_getElem? (i := 648) (by decide +kernel), List.mem_of_getElem? (i := 649) (by decide +kernel)⟩
theorem lw_p20 : lw_okq (⟨"PillarRunsModel", "noWaves", "()V"⟩, 23) := ⟨⟨by decide +kernel, by decide +kernel⟩, List.mem_of_getElem? (i := 564) (by decide +kernel), List.mem_of_getElem? (i := 652) (by decide +kernel), List.mem_of_getElem? (i := 653) (by decide +kernel)⟩
theorem lw_p21 : lw_okq (⟨"PillarRunsModel", "bad", "()I"⟩, 23) := ⟨⟨by decide +kernel, by decide +kernel⟩, List.mem_of_getElem? (i := 564) (by decide +kernel), List.mem_of_getElem? (i := 666) (by decide +kernel), List.mem_of_getElem? (i := 667) (by decide +kernel)⟩
theorem lw_p22 : lw_okq (⟨"PillarRunsModel", "pillarAt", "(I)I"⟩, 23) := ⟨⟨by decide +kernel, by decide +kernel⟩, List.mem_of_getElem? (i := 564) (by decide +kernel), List.mem_of_getElem? (i := 670) (by decide +kernel), List.mem_of_getElem? (i := 671) (by decide +kernel)⟩
theorem lw_p23 : lw_okq (⟨"PillarRunsModel", "full", "()I"⟩, 23) := ⟨⟨by decide +kernel, by decide +kernel⟩, List.mem_of_getElem? (i := 564) (by decide +kernel), List.mem_of_getElem? (i := 674) (by decide +kernel), List.mem_of_getElem? (i := 675) (by decide +kernel)⟩
theorem lw_p24 : lw_okq (⟨"PillarRunsModel", "leavesState", "()V"⟩, 23) := ⟨⟨by decide +kernel, by decide +kernel⟩, List.mem_of_getElem? (i := 564) (by decide +kernel), List.mem_of_getElem? (i := 678) (by decide +kernel), List.mem_of_getElem? (i := 679) (by decide +kernel)⟩
theorem lw_p25 : lw_okq (⟨"PillarRunsModel", "writes", "(I)V"⟩, 23) := ⟨⟨by decide +kernel, by decide +kernel⟩, List.mem_of_getElem? (i := 564) (by decide +kernel), List.mem_of_getElem? (i := 682) (by decide +kernel), List.mem_of_getElem? (i := 683) (by decide +kernel)⟩
theorem lw_p26 : lw_okq (⟨"PillarRunsModel", "comesPillar", "(II)V"⟩, 23) := ⟨⟨by decide +kernel, by decide +kernel⟩, List.mem_of_getElem? (i := 564) (by decide +kernel), List.mem_of_getElem? (i := 686) (by decide +kernel), List.mem_of_getElem? (i := 687) (by decide +kernel)⟩
theorem lw_p27 : lw_okq (⟨"PillarRunsModel", "isPillar", "(I)Z"⟩, 23) := ⟨⟨by decide +kernel, by decide +kernel⟩, List.mem_of_getElem? (i := 564) (by decide +kernel), List.mem_of_getElem? (i := 707) (by decide +kernel), List.mem_of_getElem? (i := 708) (by decide +kernel)⟩
theorem lw_p28 : lw_okq (⟨"PillarRunsModel", "ofBy", "(II)I"⟩, 23) := ⟨⟨by decide +kernel, by decide +kernel⟩, List.mem_of_getElem? (i := 564) (by decide +kernel), List.mem_of_getElem? (i := 733) (by decide +kernel), List.mem_of_getElem? (i := 734) (by decide +kernel)⟩
theorem lw_p29 : lw_okq (⟨"PillarRunsModel", "bears", "(I)V"⟩, 23) := ⟨⟨by decide +kernel, by decide +kernel⟩, List.mem_of_getElem? (i := 564) (by decide +kernel), List.mem_of_getElem? (i := 737) (by decide +kernel), List.mem_of_getElem? (i := 738) (by decide +kernel)⟩
theorem lw_p30 : lw_okq (⟨"PillarRunsModel", "setRooms", "()V"⟩, 23) := ⟨⟨by decide +kernel, by decide +kernel⟩, List.mem_of_getElem? (i := 564) (by decide +kernel), List.mem_of_getElem? (i := 741) (by decide +kernel), List.mem_of_getElem? (i := 742) (by decide +kernel)⟩
theorem lw_p31 : lw_okq (⟨"PillarRunsModel", "wallsAhead", "(II)I"⟩, 23) := ⟨⟨by decide +kernel, by decide +kernel⟩, List.mem_of_getElem? (i := 564) (by decide +kernel), List.mem_of_getElem? (i := 745) (by decide +kernel), List.mem_of_getElem? (i := 746) (by decide +kernel)⟩
def lw_privs_2 : List (MethodName × Nat) := [(⟨"PillarRuns$Text", "readCrushed", "(LPillarRuns$Mine;)V"⟩, 5), (⟨"PillarRuns", "tellCount", "(I)I"⟩, 7), (⟨"PillarRunsModel", "no", "()I"⟩, 23), (⟨"PillarRunsModel", "comesBack", "()V"⟩, 23), (⟨"PillarRunsModel", "noWaves", "()V"⟩, 23), (⟨"PillarRunsModel", "bad", "()I"⟩, 23), (⟨"PillarRunsModel", "pillarAt", "(I)I"⟩, 23), (⟨"PillarRunsModel", "full", "()I"⟩, 23), (⟨"PillarRunsModel", "leavesState", "()V"⟩, 23), (⟨"PillarRunsModel", "writes", "(I)V"⟩, 23), (⟨"PillarRunsModel", "comesPillar", "(II)V"⟩, 23), (⟨"PillarRunsModel", "isPillar", "(I)Z"⟩, 23), (⟨"PillarRunsModel", "ofBy", "(II)I"⟩, 23), (⟨"PillarRunsModel", "bears", "(I)V"⟩, 23), (⟨"PillarRunsModel", "setRooms", "()V"⟩, 23), (⟨"PillarRunsModel", "wallsAhead", "(II)I"⟩, 23)]
theorem lw_r2 : ∀ q ∈ lw_privs_2, lw_okq q := List.forall_mem_cons.mpr ⟨lw_p16, List.forall_mem_cons.mpr ⟨lw_p17, List.forall_mem_cons.mpr ⟨lw_p18, List.forall_mem_cons.mpr ⟨lw_p19, List.forall_mem_cons.mpr ⟨lw_p20, List.forall_mem_cons.mpr ⟨lw_p21, List.forall_mem_cons.mpr ⟨lw_p22, List.forall_mem_cons.mpr ⟨lw_p23, List.forall_mem_cons.mpr ⟨lw_p24, List.forall_mem_cons.mpr ⟨lw_p25, List.forall_mem_cons.mpr ⟨lw_p26, List.forall_mem_cons.mpr ⟨lw_p27, List.forall_mem_cons.mpr ⟨lw_p28, List.forall_mem_cons.mpr ⟨lw_p29, List.forall_mem_cons.mpr ⟨lw_p30, List.forall_mem_cons.mpr ⟨lw_p31, fun _ h => absurd h List.not_mem_nil⟩⟩⟩⟩⟩⟩⟩⟩⟩⟩⟩⟩⟩⟩⟩⟩
theorem lw_p32 : lw_okq (⟨"PillarRunsModel", "bearer", "(II)I"⟩, 23) := ⟨⟨by decide +kernel, by decide +kernel⟩, List.mem_of_getElem? (i := 564) (by decide +kernel), List.mem_of_getElem? (i := 749) (by decide +kernel), List.mem_of_getElem? (i := 750) (by decide +kernel)⟩
theorem lw_p33 : lw_okq (⟨"PillarRunsModel", "roomOf", "(I)I"⟩, 23) := ⟨⟨by decide +kernel, by decide +kernel⟩, List.mem_of_getElem? (i := 564) (by decide +kernel), List.mem_of_getElem? (i := 753) (by decide +kernel), List.mem_of_getElem? (i := 754) (by decide +kernel)⟩
theorem lw_p34 : lw_okq (⟨"PillarRunsModel", "stands", "(I)Z"⟩, 23) := ⟨⟨by decide +kernel, by decide +kernel⟩, List.mem_of_getElem? (i := 564) (by decide +kernel), List.mem_of_getElem? (i := 760) (by decide +kernel), List.mem_of_getElem? (i := 761) (by decide +kernel)⟩
theorem lw_p35 : lw_okq (⟨"PillarRunsModel", "allBy", "(I)I"⟩, 23) := ⟨⟨by decide +kernel, by decide +kernel⟩, List.mem_of_getElem? (i := 564) (by decide +kernel), List.mem_of_getElem? (i := 772) (by decide +kernel), List.mem_of_getElem? (i := 773) (by decide +kernel)⟩
theorem lw_p36 : lw_okq (⟨"PillarRunsModel", "tooMuch", "(I)I"⟩, 23) := ⟨⟨by decide +kernel, by decide +kernel⟩, List.mem_of_getElem? (i := 564) (by decide +kernel), List.mem_of_getElem? (i := 776) (by decide +kernel), List.mem_of_getElem? (i := 777) (by decide +kernel)⟩
theorem lw_p37 : lw_okq (⟨"PillarRunsModel", "allWeight", "()I"⟩, 23) := ⟨⟨by decide +kernel, by decide +kernel⟩, List.mem_of_getElem? (i := 564) (by decide +kernel), List.mem_of_getElem? (i := 780) (by decide +kernel), List.mem_of_getElem? (i := 781) (by decide +kernel)⟩
theorem lw_p38 : lw_okq (⟨"PillarRunsModel", "rooms", "()I"⟩, 23) := ⟨⟨by decide +kernel, by decide +kernel⟩, List.mem_of_getElem? (i := 564) (by decide +kernel), List.mem_of_getElem? (i := 784) (by decide +kernel), List.mem_of_getElem? (i := 785) (by decide +kernel)⟩
theorem lw_p39 : lw_okq (⟨"PillarRunsModel", "heldRooms", "()I"⟩, 23) := ⟨⟨by decide +kernel, by decide +kernel⟩, List.mem_of_getElem? (i := 564) (by decide +kernel), List.mem_of_getElem? (i := 788) (by decide +kernel), List.mem_of_getElem? (i := 789) (by decide +kernel)⟩
theorem lw_p40 : lw_okq (⟨"PillarRunsModel", "isSide", "(IIII)Z"⟩, 23) := ⟨⟨by decide +kernel, by decide +kernel⟩, List.mem_of_getElem? (i := 564) (by decide +kernel), List.mem_of_getElem? (i := 796) (by decide +kernel), List.mem_of_getElem? (i := 797) (by decide +kernel)⟩
theorem lw_p41 : lw_okq (⟨"PillarRunsModel", "goes", "()V"⟩, 23) := ⟨⟨by decide +kernel, by decide +kernel⟩, List.mem_of_getElem? (i := 564) (by decide +kernel), List.mem_of_getElem? (i := 804) (by decide +kernel), List.mem_of_getElem? (i := 805) (by decide +kernel)⟩
theorem lw_p42 : lw_okq (⟨"PillarRunsModel", "waveOf", "(I)I"⟩, 23) := ⟨⟨by decide +kernel, by decide +kernel⟩, List.mem_of_getElem? (i := 564) (by decide +kernel), List.mem_of_getElem? (i := 816) (by decide +kernel), List.mem_of_getElem? (i := 817) (by decide +kernel)⟩
theorem lw_p43 : lw_okq (⟨"PillarRunsModel", "lossOf", "(I)I"⟩, 23) := ⟨⟨by decide +kernel, by decide +kernel⟩, List.mem_of_getElem? (i := 564) (by decide +kernel), List.mem_of_getElem? (i := 824) (by decide +kernel), List.mem_of_getElem? (i := 825) (by decide +kernel)⟩
theorem lw_p44 : lw_okq (⟨"PillarRunsModel", "left", "(I)I"⟩, 23) := ⟨⟨by decide +kernel, by decide +kernel⟩, List.mem_of_getElem? (i := 564) (by decide +kernel), List.mem_of_getElem? (i := 828) (by decide +kernel), List.mem_of_getElem? (i := 829) (by decide +kernel)⟩
theorem lw_p45 : lw_okq (⟨"PillarRunsModel", "leftCut", "(II)I"⟩, 23) := ⟨⟨by decide +kernel, by decide +kernel⟩, List.mem_of_getElem? (i := 564) (by decide +kernel), List.mem_of_getElem? (i := 840) (by decide +kernel), List.mem_of_getElem? (i := 841) (by decide +kernel)⟩
theorem lw_p46 : lw_okq (⟨"PillarRunsModel", "here", "()I"⟩, 23) := ⟨⟨by decide +kernel, by decide +kernel⟩, List.mem_of_getElem? (i := 564) (by decide +kernel), List.mem_of_getElem? (i := 871) (by decide +kernel), List.mem_of_getElem? (i := 872) (by decide +kernel)⟩
theorem lw_p47 : lw_okq (⟨"PillarRunsModel", "keepsAhead", "()V"⟩, 23) := ⟨⟨by decide +kernel, by decide +kernel⟩, List.mem_of_getElem? (i := 564) (by decide +kernel), List.mem_of_getElem? (i := 875) (by decide +kernel), List.mem_of_getElem? (i := 876) (by decide +kernel)⟩
def lw_privs_3 : List (MethodName × Nat) := [(⟨"PillarRunsModel", "bearer", "(II)I"⟩, 23), (⟨"PillarRunsModel", "roomOf", "(I)I"⟩, 23), (⟨"PillarRunsModel", "stands", "(I)Z"⟩, 23), (⟨"PillarRunsModel", "allBy", "(I)I"⟩, 23), (⟨"PillarRunsModel", "tooMuch", "(I)I"⟩, 23), (⟨"PillarRunsModel", "allWeight", "()I"⟩, 23), (⟨"PillarRunsModel", "rooms", "()I"⟩, 23), (⟨"PillarRunsModel", "heldRooms", "()I"⟩, 23), (⟨"PillarRunsModel", "isSide", "(IIII)Z"⟩, 23), (⟨"PillarRunsModel", "goes", "()V"⟩, 23), (⟨"PillarRunsModel", "waveOf", "(I)I"⟩, 23), (⟨"PillarRunsModel", "lossOf", "(I)I"⟩, 23), (⟨"PillarRunsModel", "left", "(I)I"⟩, 23), (⟨"PillarRunsModel", "leftCut", "(II)I"⟩, 23), (⟨"PillarRunsModel", "here", "()I"⟩, 23), (⟨"PillarRunsModel", "keepsAhead", "()V"⟩, 23)]
theorem lw_r3 : ∀ q ∈ lw_privs_3, lw_okq q := List.forall_mem_cons.mpr ⟨lw_p32, List.forall_mem_cons.mpr ⟨lw_p33, List.forall_mem_cons.mpr ⟨lw_p34, List.forall_mem_cons.mpr ⟨lw_p35, List.forall_mem_cons.mpr ⟨lw_p36, List.forall_mem_cons.mpr ⟨lw_p37, List.forall_mem_cons.mpr ⟨lw_p38, List.forall_mem_cons.mpr ⟨lw_p39, List.forall_mem_cons.mpr ⟨lw_p40, List.forall_mem_cons.mpr ⟨lw_p41, List.forall_mem_cons.mpr ⟨lw_p42, List.forall_mem_cons.mpr ⟨lw_p43, List.forall_mem_cons.mpr ⟨lw_p44, List.forall_mem_cons.mpr ⟨lw_p45, List.forall_mem_cons.mpr ⟨lw_p46, List.forall_mem_cons.mpr ⟨lw_p47, fun _ h => absurd h List.not_mem_nil⟩⟩⟩⟩⟩⟩⟩⟩⟩⟩⟩⟩⟩⟩⟩⟩
theorem lw_p48 : lw_okq (⟨"PillarRunsModel", "readsOrder", "()Z"⟩, 23) := ⟨⟨by decide +kernel, by decide +kernel⟩, List.mem_of_getElem? (i := 564) (by decide +kernel), List.mem_of_getElem? (i := 879) (by decide +kernel), List.mem_of_getElem? (i := 880) (by decide +kernel)⟩
theorem lw_p49 : lw_okq (⟨"PillarRunsModel", "readsPillar", "(I)Z"⟩, 23) := ⟨⟨by decide +kernel, by decide +kernel⟩, List.mem_of_getElem? (i := 564) (by decide +kernel), List.mem_of_getElem? (i := 883) (by decide +kernel), List.mem_of_getElem? (i := 884) (by decide +kernel)⟩
theorem lw_p50 : lw_okq (⟨"PillarRunsModel", "readsCell", "()Z"⟩, 23) := ⟨⟨by decide +kernel, by decide +kernel⟩, List.mem_of_getElem? (i := 564) (by decide +kernel), List.mem_of_getElem? (i := 887) (by decide +kernel), List.mem_of_getElem? (i := 888) (by decide +kernel)⟩
theorem lw_p51 : lw_okq (⟨"PillarRunsModel", "readsNumber", "(I)Z"⟩, 23) := ⟨⟨by decide +kernel, by decide +kernel⟩, List.mem_of_getElem? (i := 564) (by decide +kernel), List.mem_of_getElem? (i := 891) (by decide +kernel), List.mem_of_getElem? (i := 892) (by decide +kernel)⟩
theorem lw_p52 : lw_okq (⟨"PillarRunsModel", "ends", "()Z"⟩, 23) := ⟨⟨by decide +kernel, by decide +kernel⟩, List.mem_of_getElem? (i := 564) (by decide +kernel), List.mem_of_getElem? (i := 895) (by decide +kernel), List.mem_of_getElem? (i := 896) (by decide +kernel)⟩
theorem lw_p53 : lw_okq (⟨"PillarRunsModel", "readsWeight", "()Z"⟩, 23) := ⟨⟨by decide +kernel, by decide +kernel⟩, List.mem_of_getElem? (i := 564) (by decide +kernel), List.mem_of_getElem? (i := 899) (by decide +kernel), List.mem_of_getElem? (i := 900) (by decide +kernel)⟩
theorem lw_p54 : lw_okq (⟨"PillarRunsModel", "readsWall", "(II)Z"⟩, 23) := ⟨⟨by decide +kernel, by decide +kernel⟩, List.mem_of_getElem? (i := 564) (by decide +kernel), List.mem_of_getElem? (i := 903) (by decide +kernel), List.mem_of_getElem? (i := 904) (by decide +kernel)⟩
theorem lw_p55 : lw_okq (⟨"PillarRunsModel", "readsCrushed", "()Z"⟩, 23) := ⟨⟨by decide +kernel, by decide +kernel⟩, List.mem_of_getElem? (i := 564) (by decide +kernel), List.mem_of_getElem? (i := 907) (by decide +kernel), List.mem_of_getElem? (i := 908) (by decide +kernel)⟩
theorem lw_p56 : lw_okq (⟨"PillarRunsModel", "readsRun", "()Z"⟩, 23) := ⟨⟨by decide +kernel, by decide +kernel⟩, List.mem_of_getElem? (i := 564) (by decide +kernel), List.mem_of_getElem? (i := 911) (by decide +kernel), List.mem_of_getElem? (i := 912) (by decide +kernel)⟩
theorem lw_p57 : lw_okq (⟨"PillarRunsModel", "asAhead", "()V"⟩, 23) := ⟨⟨by decide +kernel, by decide +kernel⟩, List.mem_of_getElem? (i := 564) (by decide +kernel), List.mem_of_getElem? (i := 915) (by decide +kernel), List.mem_of_getElem? (i := 916) (by decide +kernel)⟩
theorem lw_p58 : lw_okq (⟨"PillarRunsModel", "leavesAhead", "()V"⟩, 23) := ⟨⟨by decide +kernel, by decide +kernel⟩, List.mem_of_getElem? (i := 564) (by decide +kernel), List.mem_of_getElem? (i := 919) (by decide +kernel), List.mem_of_getElem? (i := 920) (by decide +kernel)⟩
theorem lw_p59 : lw_okq (⟨"PillarRunsModel", "toldBy", "(I)I"⟩, 23) := ⟨⟨by decide +kernel, by decide +kernel⟩, List.mem_of_getElem? (i := 564) (by decide +kernel), List.mem_of_getElem? (i := 927) (by decide +kernel), List.mem_of_getElem? (i := 928) (by decide +kernel)⟩
def lw_privs_4 : List (MethodName × Nat) := [(⟨"PillarRunsModel", "readsOrder", "()Z"⟩, 23), (⟨"PillarRunsModel", "readsPillar", "(I)Z"⟩, 23), (⟨"PillarRunsModel", "readsCell", "()Z"⟩, 23), (⟨"PillarRunsModel", "readsNumber", "(I)Z"⟩, 23), (⟨"PillarRunsModel", "ends", "()Z"⟩, 23), (⟨"PillarRunsModel", "readsWeight", "()Z"⟩, 23), (⟨"PillarRunsModel", "readsWall", "(II)Z"⟩, 23), (⟨"PillarRunsModel", "readsCrushed", "()Z"⟩, 23), (⟨"PillarRunsModel", "readsRun", "()Z"⟩, 23), (⟨"PillarRunsModel", "asAhead", "()V"⟩, 23), (⟨"PillarRunsModel", "leavesAhead", "()V"⟩, 23), (⟨"PillarRunsModel", "toldBy", "(I)I"⟩, 23)]
theorem lw_r4 : ∀ q ∈ lw_privs_4, lw_okq q := List.forall_mem_cons.mpr ⟨lw_p48, List.forall_mem_cons.mpr ⟨lw_p49, List.forall_mem_cons.mpr ⟨lw_p50, List.forall_mem_cons.mpr ⟨lw_p51, List.forall_mem_cons.mpr ⟨lw_p52, List.forall_mem_cons.mpr ⟨lw_p53, List.forall_mem_cons.mpr ⟨lw_p54, List.forall_mem_cons.mpr ⟨lw_p55, List.forall_mem_cons.mpr ⟨lw_p56, List.forall_mem_cons.mpr ⟨lw_p57, List.forall_mem_cons.mpr ⟨lw_p58, List.forall_mem_cons.mpr ⟨lw_p59, fun _ h => absurd h List.not_mem_nil⟩⟩⟩⟩⟩⟩⟩⟩⟩⟩⟩⟩
def lw_privs : List (MethodName × Nat) := lw_privs_1 ++ (lw_privs_2 ++ (lw_privs_3 ++ (lw_privs_4)))
def lw_tbl : List Cond := k2_sels lw_privs ++ tables_1
theorem lw_privs_ok : ∀ q ∈ lw_privs, lw_okq q := by
  show ∀ q ∈ lw_privs_1 ++ (lw_privs_2 ++ (lw_privs_3 ++ (lw_privs_4))), lw_okq q
  exact List.forall_mem_append.mpr ⟨lw_r1, List.forall_mem_append.mpr ⟨lw_r2, List.forall_mem_append.mpr ⟨lw_r3, lw_r4⟩⟩⟩

def RX0 : String := "PillarRuns$Bearing"
def TX0 : u_T := fun k => match k with
  | 0 => ("PillarRuns$Bearing", "under", "[I", true)
  | 1 => ("PillarRuns$Bearing", "apart", "[I", true)
  | 2 => ("PillarRuns$Bearing", "loads", "[I", true)
  | _ => ("PillarRuns$Bearing", "cellsOn", "[I", true)
def tyX0 : Nat → FieldType := fun k => match k with
  | 0 => .array .int
  | 1 => .array .int
  | 2 => .array .int
  | _ => .array .int
abbrev wsX00 : List Cond := u_ws RX0 TX0 4
theorem nmX0 : ∀ a, a < 4 → ∀ b, b < 4 → a ≠ b → (TX0 a).2.1 ≠ (TX0 b).2.1 := by decide +kernel
theorem tyX0_ok : ∀ k, k < 4 → parseFieldDescriptor (TX0 k).2.2.1 = some (tyX0 k) := by decide +kernel
abbrev cX0_init : ByteArray := prog_2_method_1_code
def yX0_init : MethodName := ⟨RX0, "<init>", "()V"⟩
abbrev cX0_lay : ByteArray := prog_2_method_2_code
def yX0_lay : MethodName := ⟨RX0, "lay", "(LPillarRuns$Mine;)V"⟩
abbrev cX0_claim : ByteArray := prog_2_method_3_code
def yX0_claim : MethodName := ⟨RX0, "claim", "(LPillarRuns$Mine;I)V"⟩
abbrev cX0_weigh : ByteArray := prog_2_method_4_code
def yX0_weigh : MethodName := ⟨RX0, "weigh", "(LPillarRuns$Mine;)V"⟩
abbrev cX0_isTooMuch : ByteArray := prog_2_method_5_code
def yX0_isTooMuch : MethodName := ⟨RX0, "isTooMuch", "(LPillarRuns$Mine;I)Z"⟩
abbrev cX0_countTooMuch : ByteArray := prog_2_method_6_code
def yX0_countTooMuch : MethodName := ⟨RX0, "countTooMuch", "(LPillarRuns$Mine;)I"⟩
abbrev cX0_countFallen : ByteArray := prog_2_method_7_code
def yX0_countFallen : MethodName := ⟨RX0, "countFallen", "()I"⟩
abbrev cX0_weighFallen : ByteArray := prog_2_method_8_code
def yX0_weighFallen : MethodName := ⟨RX0, "weighFallen", "(LPillarRuns$Mine;)I"⟩
abbrev cX0_countHeldRooms : ByteArray := prog_2_method_9_code
def yX0_countHeldRooms : MethodName := ⟨RX0, "countHeldRooms", "(LPillarRuns$Mine;)I"⟩
abbrev cX0_meet : ByteArray := prog_2_method_10_code
def yX0_meet : MethodName := ⟨RX0, "meet", "(LPillarRuns$Mine;II)Z"⟩
abbrev cX0_arePair : ByteArray := prog_2_method_11_code
def yX0_arePair : MethodName := ⟨RX0, "arePair", "(IIII)Z"⟩
def RX1 : String := "PillarRuns$Mine"
def TX1 : u_T := fun k => match k with
  | 0 => ("PillarRuns$Mine", "weights", "[I", true)
  | 1 => ("PillarRuns$Mine", "cells", "[I", true)
  | 2 => ("PillarRuns$Mine", "strengths", "[I", true)
  | 3 => ("PillarRuns$Mine", "stands", "[I", true)
  | 4 => ("PillarRuns$Mine", "walls", "[I", true)
  | _ => ("PillarRuns$Mine", "pillars", "I", false)
def tyX1 : Nat → FieldType := fun k => match k with
  | 0 => .array .int
  | 1 => .array .int
  | 2 => .array .int
  | 3 => .array .int
  | 4 => .array .int
  | _ => .int
abbrev wsX10 : List Cond := u_ws RX1 TX1 6
theorem nmX1 : ∀ a, a < 6 → ∀ b, b < 6 → a ≠ b → (TX1 a).2.1 ≠ (TX1 b).2.1 := by decide +kernel
theorem tyX1_ok : ∀ k, k < 6 → parseFieldDescriptor (TX1 k).2.2.1 = some (tyX1 k) := by decide +kernel
abbrev cX1_init : ByteArray := prog_3_method_1_code
def yX1_init : MethodName := ⟨RX1, "<init>", "()V"⟩
abbrev cX1_reset : ByteArray := prog_3_method_2_code
def yX1_reset : MethodName := ⟨RX1, "reset", "()V"⟩
abbrev cX1_copy : ByteArray := prog_3_method_3_code
def yX1_copy : MethodName := ⟨RX1, "copy", "(LPillarRuns$Mine;)V"⟩
abbrev cX1_add : ByteArray := prog_3_method_4_code
def yX1_add : MethodName := ⟨RX1, "add", "(II)V"⟩
abbrev cX1_hasPillar : ByteArray := prog_3_method_5_code
def yX1_hasPillar : MethodName := ⟨RX1, "hasPillar", "(I)Z"⟩
abbrev cX1_isStanding : ByteArray := prog_3_method_6_code
def yX1_isStanding : MethodName := ⟨RX1, "isStanding", "(I)Z"⟩
abbrev cX1_hasPillarOn : ByteArray := prog_3_method_7_code
def yX1_hasPillarOn : MethodName := ⟨RX1, "hasPillarOn", "(I)Z"⟩
abbrev cX1_countStanding : ByteArray := prog_3_method_8_code
def yX1_countStanding : MethodName := ⟨RX1, "countStanding", "()I"⟩
abbrev cX1_startsRoom : ByteArray := prog_3_method_9_code
def yX1_startsRoom : MethodName := ⟨RX1, "startsRoom", "(I)Z"⟩
abbrev cX1_countRooms : ByteArray := prog_3_method_10_code
def yX1_countRooms : MethodName := ⟨RX1, "countRooms", "()I"⟩
abbrev cX1_isOpenBelow : ByteArray := prog_3_method_11_code
def yX1_isOpenBelow : MethodName := ⟨RX1, "isOpenBelow", "(I)Z"⟩
abbrev cX1_isOpenRight : ByteArray := prog_3_method_12_code
def yX1_isOpenRight : MethodName := ⟨RX1, "isOpenRight", "(I)Z"⟩
abbrev cX1_firstOf : ByteArray := prog_3_method_13_code
def yX1_firstOf : MethodName := ⟨RX1, "firstOf", "(II)I"⟩
abbrev cX1_lastOf : ByteArray := prog_3_method_14_code
def yX1_lastOf : MethodName := ⟨RX1, "lastOf", "(III)I"⟩
def RX2 : String := "PillarRuns$Run"
def TX2 : u_T := fun k => match k with
  | 0 => ("PillarRuns$Run", "waveOf", "[I", true)
  | _ => ("PillarRuns$Run", "waves", "I", false)
def tyX2 : Nat → FieldType := fun k => match k with
  | 0 => .array .int
  | _ => .int
abbrev wsX20 : List Cond := u_ws RX2 TX2 2
theorem nmX2 : ∀ a, a < 2 → ∀ b, b < 2 → a ≠ b → (TX2 a).2.1 ≠ (TX2 b).2.1 := by decide +kernel
theorem tyX2_ok : ∀ k, k < 2 → parseFieldDescriptor (TX2 k).2.2.1 = some (tyX2 k) := by decide +kernel
abbrev cX2_init : ByteArray := prog_4_method_1_code
def yX2_init : MethodName := ⟨RX2, "<init>", "()V"⟩
abbrev cX2_forget : ByteArray := prog_4_method_2_code
def yX2_forget : MethodName := ⟨RX2, "forget", "()V"⟩
abbrev cX2_copy : ByteArray := prog_4_method_3_code
def yX2_copy : MethodName := ⟨RX2, "copy", "(LPillarRuns$Run;)V"⟩
abbrev cX2_crush : ByteArray := prog_4_method_4_code
def yX2_crush : MethodName := ⟨RX2, "crush", "(LPillarRuns$Mine;LPillarRuns$Bearing;)I"⟩
abbrev cX2_crushWave : ByteArray := prog_4_method_5_code
def yX2_crushWave : MethodName := ⟨RX2, "crushWave", "(LPillarRuns$Mine;LPillarRuns$Bearing;I)I"⟩
abbrev cX2_countInWave : ByteArray := prog_4_method_6_code
def yX2_countInWave : MethodName := ⟨RX2, "countInWave", "(I)I"⟩
def RX3 : String := "PillarRuns$States"
def TX3 : u_T := fun k => match k with
  | 0 => ("PillarRuns$States", "ring", "[LPillarRuns$Mine;", true)
  | 1 => ("PillarRuns$States", "next", "I", false)
  | _ => ("PillarRuns$States", "count", "I", false)
def tyX3 : Nat → FieldType := fun k => match k with
  | 0 => .array (.object "PillarRuns$Mine")
  | 1 => .int
  | _ => .int
abbrev wsX30 : List Cond := u_ws RX3 TX3 3
theorem nmX3 : ∀ a, a < 3 → ∀ b, b < 3 → a ≠ b → (TX3 a).2.1 ≠ (TX3 b).2.1 := by decide +kernel
theorem tyX3_ok : ∀ k, k < 3 → parseFieldDescriptor (TX3 k).2.2.1 = some (tyX3 k) := by decide +kernel
abbrev cX3_init : ByteArray := prog_5_method_1_code
def yX3_init : MethodName := ⟨RX3, "<init>", "()V"⟩
abbrev cX3_keep : ByteArray := prog_5_method_2_code
def yX3_keep : MethodName := ⟨RX3, "keep", "(LPillarRuns$Mine;)V"⟩
abbrev cX3_giveBack : ByteArray := prog_5_method_3_code
def yX3_giveBack : MethodName := ⟨RX3, "giveBack", "(LPillarRuns$Mine;)V"⟩
def RX4 : String := "PillarRuns$Text"
def TX4 : u_T := fun k => match k with
  | 0 => ("PillarRuns$Text", "bytes", "[I", true)
  | 1 => ("PillarRuns$Text", "length", "I", false)
  | 2 => ("PillarRuns$Text", "at", "I", false)
  | 3 => ("PillarRuns$Text", "fault", "I", false)
  | _ => ("PillarRuns$Text", "numberAt", "I", false)
def tyX4 : Nat → FieldType := fun k => match k with
  | 0 => .array .int
  | 1 => .int
  | 2 => .int
  | 3 => .int
  | _ => .int
abbrev wsX40 : List Cond := u_ws RX4 TX4 5
theorem nmX4 : ∀ a, a < 5 → ∀ b, b < 5 → a ≠ b → (TX4 a).2.1 ≠ (TX4 b).2.1 := by decide +kernel
theorem tyX4_ok : ∀ k, k < 5 → parseFieldDescriptor (TX4 k).2.2.1 = some (tyX4 k) := by decide +kernel
abbrev cX4_init : ByteArray := prog_6_method_1_code
def yX4_init : MethodName := ⟨RX4, "<init>", "()V"⟩
abbrev cX4_add : ByteArray := prog_6_method_2_code
def yX4_add : MethodName := ⟨RX4, "add", "(I)V"⟩
abbrev cX4_read : ByteArray := prog_6_method_3_code
def yX4_read : MethodName := ⟨RX4, "read", "(LPillarRuns$Trial;)I"⟩
abbrev cX4_readOrder : ByteArray := prog_6_method_4_code
def yX4_readOrder : MethodName := ⟨RX4, "readOrder", "(LPillarRuns$Trial;)V"⟩
abbrev cX4_readPillar : ByteArray := prog_6_method_5_code
def yX4_readPillar : MethodName := ⟨RX4, "readPillar", "(LPillarRuns$Mine;I)V"⟩
abbrev cX4_readWeight : ByteArray := prog_6_method_6_code
def yX4_readWeight : MethodName := ⟨RX4, "readWeight", "(LPillarRuns$Mine;)V"⟩
abbrev cX4_readWall : ByteArray := prog_6_method_7_code
def yX4_readWall : MethodName := ⟨RX4, "readWall", "(LPillarRuns$Mine;II)V"⟩
abbrev cX4_readCrushed : ByteArray := prog_6_method_8_code
def yX4_readCrushed : MethodName := ⟨RX4, "readCrushed", "(LPillarRuns$Mine;)V"⟩
abbrev cX4_readCell : ByteArray := prog_6_method_9_code
def yX4_readCell : MethodName := ⟨RX4, "readCell", "()I"⟩
abbrev cX4_readNumber : ByteArray := prog_6_method_10_code
def yX4_readNumber : MethodName := ⟨RX4, "readNumber", "(I)I"⟩
abbrev cX4_readEnd : ByteArray := prog_6_method_11_code
def yX4_readEnd : MethodName := ⟨RX4, "readEnd", "()V"⟩
abbrev cX4_skipBlanks : ByteArray := prog_6_method_12_code
def yX4_skipBlanks : MethodName := ⟨RX4, "skipBlanks", "()V"⟩
abbrev cX4_fail : ByteArray := prog_6_method_13_code
def yX4_fail : MethodName := ⟨RX4, "fail", "(I)V"⟩
abbrev cX4_isFigure : ByteArray := prog_6_method_14_code
def yX4_isFigure : MethodName := ⟨RX4, "isFigure", "(I)Z"⟩
def RX5 : String := "PillarRuns$Trial"
def TX5 : u_T := fun k => match k with
  | 0 => ("PillarRuns$Trial", "mine", "LPillarRuns$Mine;", true)
  | 1 => ("PillarRuns$Trial", "bearing", "LPillarRuns$Bearing;", true)
  | _ => ("PillarRuns$Trial", "run", "LPillarRuns$Run;", true)
def tyX5 : Nat → FieldType := fun k => match k with
  | 0 => .object "PillarRuns$Mine"
  | 1 => .object "PillarRuns$Bearing"
  | _ => .object "PillarRuns$Run"
abbrev wsX50 : List Cond := u_ws RX5 TX5 3
theorem nmX5 : ∀ a, a < 3 → ∀ b, b < 3 → a ≠ b → (TX5 a).2.1 ≠ (TX5 b).2.1 := by decide +kernel
theorem tyX5_ok : ∀ k, k < 3 → parseFieldDescriptor (TX5 k).2.2.1 = some (tyX5 k) := by decide +kernel
abbrev cX5_init : ByteArray := prog_7_method_1_code
def yX5_init : MethodName := ⟨RX5, "<init>", "()V"⟩
abbrev cX5_start : ByteArray := prog_7_method_2_code
def yX5_start : MethodName := ⟨RX5, "start", "(LPillarRuns$Mine;)V"⟩
abbrev cX5_crush : ByteArray := prog_7_method_3_code
def yX5_crush : MethodName := ⟨RX5, "crush", "()I"⟩
abbrev cX5_lose : ByteArray := prog_7_method_4_code
def yX5_lose : MethodName := ⟨RX5, "lose", "(LPillarRuns$Mine;I)I"⟩
abbrev cX5_build : ByteArray := prog_7_method_5_code
def yX5_build : MethodName := ⟨RX5, "build", "(LPillarRuns$Mine;I)I"⟩
abbrev cX5_support : ByteArray := prog_7_method_6_code
def yX5_support : MethodName := ⟨RX5, "support", "(LPillarRuns$Mine;II)I"⟩
def RX6 : String := "PillarRuns"
def TX6 : u_T := fun k => match k with
  | 0 => ("PillarRuns", "mine", "LPillarRuns$Mine;", true)
  | 1 => ("PillarRuns", "bearing", "LPillarRuns$Bearing;", true)
  | 2 => ("PillarRuns", "lastRun", "LPillarRuns$Run;", true)
  | 3 => ("PillarRuns", "states", "LPillarRuns$States;", true)
  | 4 => ("PillarRuns", "trial", "LPillarRuns$Trial;", true)
  | 5 => ("PillarRuns", "text", "LPillarRuns$Text;", true)
  | _ => ("PillarRuns", "refusals", "[I", true)
def tyX6 : Nat → FieldType := fun k => match k with
  | 0 => .object "PillarRuns$Mine"
  | 1 => .object "PillarRuns$Bearing"
  | 2 => .object "PillarRuns$Run"
  | 3 => .object "PillarRuns$States"
  | 4 => .object "PillarRuns$Trial"
  | 5 => .object "PillarRuns$Text"
  | _ => .array .int
abbrev wsX60 : List Cond := u_ws RX6 TX6 7
theorem nmX6 : ∀ a, a < 7 → ∀ b, b < 7 → a ≠ b → (TX6 a).2.1 ≠ (TX6 b).2.1 := by decide +kernel
theorem tyX6_ok : ∀ k, k < 7 → parseFieldDescriptor (TX6 k).2.2.1 = some (tyX6 k) := by decide +kernel
abbrev cX6_init : ByteArray := prog_1_method_1_code
def yX6_init : MethodName := ⟨RX6, "<init>", "()V"⟩
abbrev cX6_pillar : ByteArray := prog_1_method_2_code
def yX6_pillar : MethodName := ⟨RX6, "pillar", "(II)I"⟩
abbrev cX6_weight : ByteArray := prog_1_method_3_code
def yX6_weight : MethodName := ⟨RX6, "weight", "(II)I"⟩
abbrev cX6_draw : ByteArray := prog_1_method_4_code
def yX6_draw : MethodName := ⟨RX6, "draw", "(II)I"⟩
abbrev cX6_strength : ByteArray := prog_1_method_5_code
def yX6_strength : MethodName := ⟨RX6, "strength", "(II)I"⟩
abbrev cX6_wall : ByteArray := prog_1_method_6_code
def yX6_wall : MethodName := ⟨RX6, "wall", "(III)I"⟩
abbrev cX6_mends : ByteArray := prog_1_method_7_code
def yX6_mends : MethodName := ⟨RX6, "mends", "()I"⟩
abbrev cX6_anew : ByteArray := prog_1_method_8_code
def yX6_anew : MethodName := ⟨RX6, "anew", "()I"⟩
abbrev cX6_of : ByteArray := prog_1_method_9_code
def yX6_of : MethodName := ⟨RX6, "of", "(II)I"⟩
abbrev cX6_rests : ByteArray := prog_1_method_10_code
def yX6_rests : MethodName := ⟨RX6, "rests", "(I)I"⟩
abbrev cX6_all : ByteArray := prog_1_method_11_code
def yX6_all : MethodName := ⟨RX6, "all", "(I)I"⟩
abbrev cX6_beside : ByteArray := prog_1_method_12_code
def yX6_beside : MethodName := ⟨RX6, "beside", "(II)I"⟩
abbrev cX6_runs : ByteArray := prog_1_method_13_code
def yX6_runs : MethodName := ⟨RX6, "runs", "()I"⟩
abbrev cX6_loses : ByteArray := prog_1_method_14_code
def yX6_loses : MethodName := ⟨RX6, "loses", "(I)I"⟩
abbrev cX6_wave : ByteArray := prog_1_method_15_code
def yX6_wave : MethodName := ⟨RX6, "wave", "(II)I"⟩
abbrev cX6_would : ByteArray := prog_1_method_16_code
def yX6_would : MethodName := ⟨RX6, "would", "(II)I"⟩
abbrev cX6_worst : ByteArray := prog_1_method_17_code
def yX6_worst : MethodName := ⟨RX6, "worst", "(I)I"⟩
abbrev cX6_cut : ByteArray := prog_1_method_18_code
def yX6_cut : MethodName := ⟨RX6, "cut", "(I)I"⟩
abbrev cX6_mending : ByteArray := prog_1_method_19_code
def yX6_mending : MethodName := ⟨RX6, "mending", "()I"⟩
abbrev cX6_bestWall : ByteArray := prog_1_method_20_code
def yX6_bestWall : MethodName := ⟨RX6, "bestWall", "(I)I"⟩
abbrev cX6_bestCell : ByteArray := prog_1_method_21_code
def yX6_bestCell : MethodName := ⟨RX6, "bestCell", "(II)I"⟩
abbrev cX6_type : ByteArray := prog_1_method_22_code
def yX6_type : MethodName := ⟨RX6, "type", "(I)I"⟩
abbrev cX6_clear : ByteArray := prog_1_method_23_code
def yX6_clear : MethodName := ⟨RX6, "clear", "()I"⟩
abbrev cX6_does : ByteArray := prog_1_method_24_code
def yX6_does : MethodName := ⟨RX6, "does", "()I"⟩
abbrev cX6_back : ByteArray := prog_1_method_25_code
def yX6_back : MethodName := ⟨RX6, "back", "()I"⟩
abbrev cX6_told : ByteArray := prog_1_method_26_code
def yX6_told : MethodName := ⟨RX6, "told", "(I)I"⟩
abbrev cX6_digest : ByteArray := prog_1_method_27_code
def yX6_digest : MethodName := ⟨RX6, "digest", "()J"⟩
abbrev cX6_refuse : ByteArray := prog_1_method_28_code
def yX6_refuse : MethodName := ⟨RX6, "refuse", "(I)I"⟩
abbrev cX6_tellCount : ByteArray := prog_1_method_29_code
def yX6_tellCount : MethodName := ⟨RX6, "tellCount", "(I)I"⟩
abbrev cX6_tellMine : ByteArray := prog_1_method_30_code
def yX6_tellMine : MethodName := ⟨RX6, "tellMine", "(I)I"⟩
abbrev cX6_tellPillar : ByteArray := prog_1_method_31_code
def yX6_tellPillar : MethodName := ⟨RX6, "tellPillar", "(II)I"⟩
abbrev cX6_isWithin : ByteArray := prog_1_method_32_code
def yX6_isWithin : MethodName := ⟨RX6, "isWithin", "(II)Z"⟩
abbrev cX6_isCell : ByteArray := prog_1_method_33_code
def yX6_isCell : MethodName := ⟨RX6, "isCell", "(I)Z"⟩
abbrev cX6_isStrength : ByteArray := prog_1_method_34_code
def yX6_isStrength : MethodName := ⟨RX6, "isStrength", "(I)Z"⟩
abbrev cX6_isWall : ByteArray := prog_1_method_35_code
def yX6_isWall : MethodName := ⟨RX6, "isWall", "(I)Z"⟩
abbrev cX6_sum : ByteArray := prog_1_method_36_code
def yX6_sum : MethodName := ⟨RX6, "sum", "([I)I"⟩
def RX7 : String := "PillarRunsModel"
def TX7 : u_T := fun k => match k with
  | 0 => ("PillarRunsModel", "refused", "[I", true)
  | 1 => ("PillarRunsModel", "weight", "[I", true)
  | 2 => ("PillarRunsModel", "many", "I", false)
  | 3 => ("PillarRunsModel", "cell", "[I", true)
  | 4 => ("PillarRunsModel", "strong", "[I", true)
  | 5 => ("PillarRunsModel", "up", "I", false)
  | 6 => ("PillarRunsModel", "walls", "I", false)
  | 7 => ("PillarRunsModel", "states", "I", false)
  | 8 => ("PillarRunsModel", "kept", "[I", true)
  | 9 => ("PillarRunsModel", "rowRoom", "[I", true)
  | 10 => ("PillarRunsModel", "columnRoom", "[I", true)
  | 11 => ("PillarRunsModel", "load", "[I", true)
  | 12 => ("PillarRunsModel", "rests", "[I", true)
  | 13 => ("PillarRunsModel", "waves", "I", false)
  | 14 => ("PillarRunsModel", "wave", "[I", true)
  | 15 => ("PillarRunsModel", "text", "[I", true)
  | 16 => ("PillarRunsModel", "size", "I", false)
  | 17 => ("PillarRunsModel", "readAt", "I", false)
  | 18 => ("PillarRunsModel", "readValue", "I", false)
  | 19 => ("PillarRunsModel", "readCell", "I", false)
  | 20 => ("PillarRunsModel", "nowWaves", "I", false)
  | 21 => ("PillarRunsModel", "nowWave", "[I", true)
  | _ => ("PillarRunsModel", "ahead", "[I", true)
def tyX7 : Nat → FieldType := fun k => match k with
  | 0 => .array .int
  | 1 => .array .int
  | 2 => .int
  | 3 => .array .int
  | 4 => .array .int
  | 5 => .int
  | 6 => .int
  | 7 => .int
  | 8 => .array .int
  | 9 => .array .int
  | 10 => .array .int
  | 11 => .array .int
  | 12 => .array .int
  | 13 => .int
  | 14 => .array .int
  | 15 => .array .int
  | 16 => .int
  | 17 => .int
  | 18 => .int
  | 19 => .int
  | 20 => .int
  | 21 => .array .int
  | _ => .array .int
abbrev wsX70 : List Cond := u_ws RX7 TX7 23
theorem nmX7 : ∀ a, a < 23 → ∀ b, b < 23 → a ≠ b → (TX7 a).2.1 ≠ (TX7 b).2.1 := by decide +kernel
theorem tyX7_ok : ∀ k, k < 23 → parseFieldDescriptor (TX7 k).2.2.1 = some (tyX7 k) := by decide +kernel
abbrev cX7_init : ByteArray := prog_9_method_1_code
def yX7_init : MethodName := ⟨RX7, "<init>", "()V"⟩
abbrev cX7_bad : ByteArray := prog_9_method_2_code
def yX7_bad : MethodName := ⟨RX7, "bad", "()I"⟩
abbrev cX7_no : ByteArray := prog_9_method_3_code
def yX7_no : MethodName := ⟨RX7, "no", "()I"⟩
abbrev cX7_full : ByteArray := prog_9_method_4_code
def yX7_full : MethodName := ⟨RX7, "full", "()I"⟩
abbrev cX7_in : ByteArray := prog_9_method_5_code
def yX7_in : MethodName := ⟨RX7, "in", "(III)Z"⟩
abbrev cX7_ones : ByteArray := prog_9_method_6_code
def yX7_ones : MethodName := ⟨RX7, "ones", "(I)I"⟩
abbrev cX7_writes : ByteArray := prog_9_method_7_code
def yX7_writes : MethodName := ⟨RX7, "writes", "(I)V"⟩
abbrev cX7_leavesState : ByteArray := prog_9_method_8_code
def yX7_leavesState : MethodName := ⟨RX7, "leavesState", "()V"⟩
abbrev cX7_comesBack : ByteArray := prog_9_method_9_code
def yX7_comesBack : MethodName := ⟨RX7, "comesBack", "()V"⟩
abbrev cX7_back : ByteArray := prog_9_method_10_code
def yX7_back : MethodName := ⟨RX7, "back", "()I"⟩
abbrev cX7_isCell : ByteArray := prog_9_method_11_code
def yX7_isCell : MethodName := ⟨RX7, "isCell", "(I)Z"⟩
abbrev cX7_isPillar : ByteArray := prog_9_method_12_code
def yX7_isPillar : MethodName := ⟨RX7, "isPillar", "(I)Z"⟩
abbrev cX7_stands : ByteArray := prog_9_method_13_code
def yX7_stands : MethodName := ⟨RX7, "stands", "(I)Z"⟩
abbrev cX7_pillarAt : ByteArray := prog_9_method_14_code
def yX7_pillarAt : MethodName := ⟨RX7, "pillarAt", "(I)I"⟩
abbrev cX7_comesPillar : ByteArray := prog_9_method_15_code
def yX7_comesPillar : MethodName := ⟨RX7, "comesPillar", "(II)V"⟩
abbrev cX7_pillar : ByteArray := prog_9_method_16_code
def yX7_pillar : MethodName := ⟨RX7, "pillar", "(II)I"⟩
abbrev cX7_weight : ByteArray := prog_9_method_17_code
def yX7_weight : MethodName := ⟨RX7, "weight", "(II)I"⟩
abbrev cX7_draw : ByteArray := prog_9_method_18_code
def yX7_draw : MethodName := ⟨RX7, "draw", "(II)I"⟩
abbrev cX7_strength : ByteArray := prog_9_method_19_code
def yX7_strength : MethodName := ⟨RX7, "strength", "(II)I"⟩
abbrev cX7_isWall : ByteArray := prog_9_method_20_code
def yX7_isWall : MethodName := ⟨RX7, "isWall", "(II)Z"⟩
abbrev cX7_wall : ByteArray := prog_9_method_21_code
def yX7_wall : MethodName := ⟨RX7, "wall", "(III)I"⟩
abbrev cX7_mends : ByteArray := prog_9_method_22_code
def yX7_mends : MethodName := ⟨RX7, "mends", "()I"⟩
abbrev cX7_anew : ByteArray := prog_9_method_23_code
def yX7_anew : MethodName := ⟨RX7, "anew", "()I"⟩
abbrev cX7_gap : ByteArray := prog_9_method_24_code
def yX7_gap : MethodName := ⟨RX7, "gap", "(II)I"⟩
abbrev cX7_wallsAhead : ByteArray := prog_9_method_25_code
def yX7_wallsAhead : MethodName := ⟨RX7, "wallsAhead", "(II)I"⟩
abbrev cX7_setRooms : ByteArray := prog_9_method_26_code
def yX7_setRooms : MethodName := ⟨RX7, "setRooms", "()V"⟩
abbrev cX7_roomOf : ByteArray := prog_9_method_27_code
def yX7_roomOf : MethodName := ⟨RX7, "roomOf", "(I)I"⟩
abbrev cX7_bearer : ByteArray := prog_9_method_28_code
def yX7_bearer : MethodName := ⟨RX7, "bearer", "(II)I"⟩
abbrev cX7_bears : ByteArray := prog_9_method_29_code
def yX7_bears : MethodName := ⟨RX7, "bears", "(I)V"⟩
abbrev cX7_tooMuch : ByteArray := prog_9_method_30_code
def yX7_tooMuch : MethodName := ⟨RX7, "tooMuch", "(I)I"⟩
abbrev cX7_noWaves : ByteArray := prog_9_method_31_code
def yX7_noWaves : MethodName := ⟨RX7, "noWaves", "()V"⟩
abbrev cX7_left : ByteArray := prog_9_method_32_code
def yX7_left : MethodName := ⟨RX7, "left", "(I)I"⟩
abbrev cX7_goes : ByteArray := prog_9_method_33_code
def yX7_goes : MethodName := ⟨RX7, "goes", "()V"⟩
abbrev cX7_tall : ByteArray := prog_9_method_34_code
def yX7_tall : MethodName := ⟨RX7, "tall", "(I)I"⟩
abbrev cX7_ofBy : ByteArray := prog_9_method_35_code
def yX7_ofBy : MethodName := ⟨RX7, "ofBy", "(II)I"⟩
abbrev cX7_of : ByteArray := prog_9_method_36_code
def yX7_of : MethodName := ⟨RX7, "of", "(II)I"⟩
abbrev cX7_rests : ByteArray := prog_9_method_37_code
def yX7_rests : MethodName := ⟨RX7, "rests", "(I)I"⟩
abbrev cX7_allWeight : ByteArray := prog_9_method_38_code
def yX7_allWeight : MethodName := ⟨RX7, "allWeight", "()I"⟩
abbrev cX7_rooms : ByteArray := prog_9_method_39_code
def yX7_rooms : MethodName := ⟨RX7, "rooms", "()I"⟩
abbrev cX7_heldRooms : ByteArray := prog_9_method_40_code
def yX7_heldRooms : MethodName := ⟨RX7, "heldRooms", "()I"⟩
abbrev cX7_allBy : ByteArray := prog_9_method_41_code
def yX7_allBy : MethodName := ⟨RX7, "allBy", "(I)I"⟩
abbrev cX7_all : ByteArray := prog_9_method_42_code
def yX7_all : MethodName := ⟨RX7, "all", "(I)I"⟩
abbrev cX7_isSide : ByteArray := prog_9_method_43_code
def yX7_isSide : MethodName := ⟨RX7, "isSide", "(IIII)Z"⟩
abbrev cX7_beside : ByteArray := prog_9_method_44_code
def yX7_beside : MethodName := ⟨RX7, "beside", "(II)I"⟩
abbrev cX7_runs : ByteArray := prog_9_method_45_code
def yX7_runs : MethodName := ⟨RX7, "runs", "()I"⟩
abbrev cX7_loses : ByteArray := prog_9_method_46_code
def yX7_loses : MethodName := ⟨RX7, "loses", "(I)I"⟩
abbrev cX7_waveOf : ByteArray := prog_9_method_47_code
def yX7_waveOf : MethodName := ⟨RX7, "waveOf", "(I)I"⟩
abbrev cX7_wave : ByteArray := prog_9_method_48_code
def yX7_wave : MethodName := ⟨RX7, "wave", "(II)I"⟩
abbrev cX7_lossOf : ByteArray := prog_9_method_49_code
def yX7_lossOf : MethodName := ⟨RX7, "lossOf", "(I)I"⟩
abbrev cX7_would : ByteArray := prog_9_method_50_code
def yX7_would : MethodName := ⟨RX7, "would", "(II)I"⟩
abbrev cX7_worst : ByteArray := prog_9_method_51_code
def yX7_worst : MethodName := ⟨RX7, "worst", "(I)I"⟩
abbrev cX7_leftCut : ByteArray := prog_9_method_52_code
def yX7_leftCut : MethodName := ⟨RX7, "leftCut", "(II)I"⟩
abbrev cX7_cut : ByteArray := prog_9_method_53_code
def yX7_cut : MethodName := ⟨RX7, "cut", "(I)I"⟩
abbrev cX7_mending : ByteArray := prog_9_method_54_code
def yX7_mending : MethodName := ⟨RX7, "mending", "()I"⟩
abbrev cX7_bestWall : ByteArray := prog_9_method_55_code
def yX7_bestWall : MethodName := ⟨RX7, "bestWall", "(I)I"⟩
abbrev cX7_bestCell : ByteArray := prog_9_method_56_code
def yX7_bestCell : MethodName := ⟨RX7, "bestCell", "(II)I"⟩
abbrev cX7_type : ByteArray := prog_9_method_57_code
def yX7_type : MethodName := ⟨RX7, "type", "(I)I"⟩
abbrev cX7_clear : ByteArray := prog_9_method_58_code
def yX7_clear : MethodName := ⟨RX7, "clear", "()I"⟩
abbrev cX7_here : ByteArray := prog_9_method_59_code
def yX7_here : MethodName := ⟨RX7, "here", "()I"⟩
abbrev cX7_readsNumber : ByteArray := prog_9_method_60_code
def yX7_readsNumber : MethodName := ⟨RX7, "readsNumber", "(I)Z"⟩
abbrev cX7_ends : ByteArray := prog_9_method_61_code
def yX7_ends : MethodName := ⟨RX7, "ends", "()Z"⟩
abbrev cX7_readsCell : ByteArray := prog_9_method_62_code
def yX7_readsCell : MethodName := ⟨RX7, "readsCell", "()Z"⟩
abbrev cX7_readsPillar : ByteArray := prog_9_method_63_code
def yX7_readsPillar : MethodName := ⟨RX7, "readsPillar", "(I)Z"⟩
abbrev cX7_readsWeight : ByteArray := prog_9_method_64_code
def yX7_readsWeight : MethodName := ⟨RX7, "readsWeight", "()Z"⟩
abbrev cX7_readsWall : ByteArray := prog_9_method_65_code
def yX7_readsWall : MethodName := ⟨RX7, "readsWall", "(II)Z"⟩
abbrev cX7_readsCrushed : ByteArray := prog_9_method_66_code
def yX7_readsCrushed : MethodName := ⟨RX7, "readsCrushed", "()Z"⟩
abbrev cX7_readsRun : ByteArray := prog_9_method_67_code
def yX7_readsRun : MethodName := ⟨RX7, "readsRun", "()Z"⟩
abbrev cX7_readsOrder : ByteArray := prog_9_method_68_code
def yX7_readsOrder : MethodName := ⟨RX7, "readsOrder", "()Z"⟩
abbrev cX7_keepsAhead : ByteArray := prog_9_method_69_code
def yX7_keepsAhead : MethodName := ⟨RX7, "keepsAhead", "()V"⟩
abbrev cX7_asAhead : ByteArray := prog_9_method_70_code
def yX7_asAhead : MethodName := ⟨RX7, "asAhead", "()V"⟩
abbrev cX7_does : ByteArray := prog_9_method_71_code
def yX7_does : MethodName := ⟨RX7, "does", "()I"⟩
abbrev cX7_leavesAhead : ByteArray := prog_9_method_72_code
def yX7_leavesAhead : MethodName := ⟨RX7, "leavesAhead", "()V"⟩
abbrev cX7_toldBy : ByteArray := prog_9_method_73_code
def yX7_toldBy : MethodName := ⟨RX7, "toldBy", "(I)I"⟩
abbrev cX7_told : ByteArray := prog_9_method_74_code
def yX7_told : MethodName := ⟨RX7, "told", "(I)I"⟩
abbrev cX7_digest : ByteArray := prog_9_method_75_code
def yX7_digest : MethodName := ⟨RX7, "digest", "()J"⟩
def RJ9 : String := "java/lang/Math"
def TJ9 : u_T := fun k => match k with
  | _ => ("", "", "", false)
def tyJ9 : Nat → FieldType := fun k => match k with
  | _ => .int
abbrev wsJ90 : List Cond := u_ws RJ9 TJ9 0
theorem nmJ9 : ∀ a, a < 0 → ∀ b, b < 0 → a ≠ b → (TJ9 a).2.1 ≠ (TJ9 b).2.1 := by decide +kernel
theorem tyJ9_ok : ∀ k, k < 0 → parseFieldDescriptor (TJ9 k).2.2.1 = some (tyJ9 k) := by decide +kernel
abbrev cJ9_abs_0f7a4 : ByteArray := prog_10_method_59_code
def yJ9_abs_0f7a4 : MethodName := ⟨RJ9, "abs", "(I)I"⟩
abbrev cJ9_max_7cf53 : ByteArray := prog_10_method_65_code
def yJ9_max_7cf53 : MethodName := ⟨RJ9, "max", "(II)I"⟩
abbrev cJ9_min_7cf53 : ByteArray := prog_10_method_69_code
def yJ9_min_7cf53 : MethodName := ⟨RJ9, "min", "(II)I"⟩
def RJ10 : String := "java/lang/System"
def TJ10 : u_T := fun k => match k with
  | _ => ("", "", "", false)
def tyJ10 : Nat → FieldType := fun k => match k with
  | _ => .int
abbrev wsJ100 : List Cond := u_ws RJ10 TJ10 0
theorem nmJ10 : ∀ a, a < 0 → ∀ b, b < 0 → a ≠ b → (TJ10 a).2.1 ≠ (TJ10 b).2.1 := by decide +kernel
theorem tyJ10_ok : ∀ k, k < 0 → parseFieldDescriptor (TJ10 k).2.2.1 = some (tyJ10 k) := by decide +kernel
def RJ7 : String := "java/util/Arrays"
def TJ7 : u_T := fun k => match k with
  | _ => ("", "", "", false)
def tyJ7 : Nat → FieldType := fun k => match k with
  | _ => .int
abbrev wsJ70 : List Cond := u_ws RJ7 TJ7 0
theorem nmJ7 : ∀ a, a < 0 → ∀ b, b < 0 → a ≠ b → (TJ7 a).2.1 ≠ (TJ7 b).2.1 := by decide +kernel
theorem tyJ7_ok : ∀ k, k < 0 → parseFieldDescriptor (TJ7 k).2.2.1 = some (tyJ7 k) := by decide +kernel
abbrev cJ7_fill_53178 : ByteArray := prog_12_method_103_code
def yJ7_fill_53178 : MethodName := ⟨RJ7, "fill", "([II)V"⟩
def RL : String := "PillarRunsLaw"
abbrev cL_law : ByteArray := code
def yL_law : MethodName := ⟨RL, "law", "([I)Z"⟩
abbrev vwCl : List vw_C := [(RX0, TX0, 4), (RX1, TX1, 6), (RX2, TX2, 2), (RX3, TX3, 3), (RX4, TX4, 5), (RX5, TX5, 3), (RX6, TX6, 7), (RX7, TX7, 23)]
end
section
theorem dJ7_fill_53178_0 : decode cJ7_fill_53178 0 = .ok (.iconst 0, 1) := by decide +kernel
theorem dJ7_fill_53178_1 : decode cJ7_fill_53178 1 = .ok (.istore_n 2, 1) := by decide +kernel
theorem dJ7_fill_53178_2 : decode cJ7_fill_53178 2 = .ok (.aload_n 0, 1) := by decide +kernel
theorem dJ7_fill_53178_3 : decode cJ7_fill_53178 3 = .ok (.arraylength, 1) := by decide +kernel
theorem dJ7_fill_53178_4 : decode cJ7_fill_53178 4 = .ok (.istore_n 3, 1) := by decide +kernel
theorem dJ7_fill_53178_5 : decode cJ7_fill_53178 5 = .ok (.iload_n 2, 1) := by decide +kernel
theorem dJ7_fill_53178_6 : decode cJ7_fill_53178 6 = .ok (.iload_n 3, 1) := by decide +kernel
theorem dJ7_fill_53178_7 : decode cJ7_fill_53178 7 = .ok (.if_icmp .ge 13, 3) := by decide +kernel
theorem dJ7_fill_53178_10 : decode cJ7_fill_53178 10 = .ok (.aload_n 0, 1) := by decide +kernel
theorem dJ7_fill_53178_11 : decode cJ7_fill_53178 11 = .ok (.iload_n 2, 1) := by decide +kernel
theorem dJ7_fill_53178_12 : decode cJ7_fill_53178 12 = .ok (.iload_n 1, 1) := by decide +kernel
theorem dJ7_fill_53178_13 : decode cJ7_fill_53178 13 = .ok (.iastore, 1) := by decide +kernel
theorem dJ7_fill_53178_14 : decode cJ7_fill_53178 14 = .ok (.iinc 2 1, 3) := by decide +kernel
theorem dJ7_fill_53178_17 : decode cJ7_fill_53178 17 = .ok (.goto (-12), 3) := by decide +kernel
theorem dJ7_fill_53178_20 : decode cJ7_fill_53178 20 = .ok (.return_, 1) := by decide +kernel
theorem dJ9_abs_0f7a4_0 : decode cJ9_abs_0f7a4 0 = .ok (.iload_n 0, 1) := by decide +kernel
theorem dJ9_abs_0f7a4_1 : decode cJ9_abs_0f7a4 1 = .ok (.ifCond .ge 8, 3) := by decide +kernel
theorem dJ9_abs_0f7a4_4 : decode cJ9_abs_0f7a4 4 = .ok (.iload_n 0, 1) := by decide +kernel
theorem dJ9_abs_0f7a4_5 : decode cJ9_abs_0f7a4 5 = .ok (.ineg, 1) := by decide +kernel
theorem dJ9_abs_0f7a4_6 : decode cJ9_abs_0f7a4 6 = .ok (.goto 4, 3) := by decide +kernel
theorem dJ9_abs_0f7a4_9 : decode cJ9_abs_0f7a4 9 = .ok (.iload_n 0, 1) := by decide +kernel
theorem dJ9_abs_0f7a4_10 : decode cJ9_abs_0f7a4 10 = .ok (.ireturn, 1) := by decide +kernel
theorem dJ9_max_7cf53_0 : decode cJ9_max_7cf53 0 = .ok (.iload_n 0, 1) := by decide +kernel
theorem dJ9_max_7cf53_1 : decode cJ9_max_7cf53 1 = .ok (.iload_n 1, 1) := by decide +kernel
theorem dJ9_max_7cf53_2 : decode cJ9_max_7cf53 2 = .ok (.if_icmp .lt 7, 3) := by decide +kernel
theorem dJ9_max_7cf53_5 : decode cJ9_max_7cf53 5 = .ok (.iload_n 0, 1) := by decide +kernel
theorem dJ9_max_7cf53_6 : decode cJ9_max_7cf53 6 = .ok (.goto 4, 3) := by decide +kernel
theorem dJ9_max_7cf53_9 : decode cJ9_max_7cf53 9 = .ok (.iload_n 1, 1) := by decide +kernel
theorem dJ9_max_7cf53_10 : decode cJ9_max_7cf53 10 = .ok (.ireturn, 1) := by decide +kernel
theorem dJ9_min_7cf53_0 : decode cJ9_min_7cf53 0 = .ok (.iload_n 0, 1) := by decide +kernel
theorem dJ9_min_7cf53_1 : decode cJ9_min_7cf53 1 = .ok (.iload_n 1, 1) := by decide +kernel
theorem dJ9_min_7cf53_2 : decode cJ9_min_7cf53 2 = .ok (.if_icmp .gt 7, 3) := by decide +kernel
theorem dJ9_min_7cf53_5 : decode cJ9_min_7cf53 5 = .ok (.iload_n 0, 1) := by decide +kernel
theorem dJ9_min_7cf53_6 : decode cJ9_min_7cf53 6 = .ok (.goto 4, 3) := by decide +kernel
theorem dJ9_min_7cf53_9 : decode cJ9_min_7cf53 9 = .ok (.iload_n 1, 1) := by decide +kernel
theorem dJ9_min_7cf53_10 : decode cJ9_min_7cf53 10 = .ok (.ireturn, 1) := by decide +kernel
theorem dX0_init_0 : decode cX0_init 0 = .ok (.aload_n 0, 1) := by decide +kernel
theorem dX0_init_1 : decode cX0_init 1 = .ok (.invokespecial 3, 3) := by decide +kernel
theorem dX0_init_4 : decode cX0_init 4 = .ok (.aload_n 0, 1) := by decide +kernel
theorem dX0_init_5 : decode cX0_init 5 = .ok (.bipush 96, 2) := by decide +kernel
theorem dX0_init_7 : decode cX0_init 7 = .ok (.newarray .int, 2) := by decide +kernel
theorem dX0_init_9 : decode cX0_init 9 = .ok (.putfield 9, 3) := by decide +kernel
theorem dX0_init_12 : decode cX0_init 12 = .ok (.aload_n 0, 1) := by decide +kernel
theorem dX0_init_13 : decode cX0_init 13 = .ok (.bipush 96, 2) := by decide +kernel
theorem dX0_init_15 : decode cX0_init 15 = .ok (.newarray .int, 2) := by decide +kernel
theorem dX0_init_17 : decode cX0_init 17 = .ok (.putfield 15, 3) := by decide +kernel
theorem dX0_init_20 : decode cX0_init 20 = .ok (.aload_n 0, 1) := by decide +kernel
theorem dX0_init_21 : decode cX0_init 21 = .ok (.bipush 12, 2) := by decide +kernel
theorem dX0_init_23 : decode cX0_init 23 = .ok (.newarray .int, 2) := by decide +kernel
theorem dX0_init_25 : decode cX0_init 25 = .ok (.putfield 18, 3) := by decide +kernel
theorem dX0_init_28 : decode cX0_init 28 = .ok (.aload_n 0, 1) := by decide +kernel
theorem dX0_init_29 : decode cX0_init 29 = .ok (.bipush 12, 2) := by decide +kernel
theorem dX0_init_31 : decode cX0_init 31 = .ok (.newarray .int, 2) := by decide +kernel
theorem dX0_init_33 : decode cX0_init 33 = .ok (.putfield 21, 3) := by decide +kernel
theorem dX0_init_36 : decode cX0_init 36 = .ok (.return_, 1) := by decide +kernel
theorem dX0_lay_0 : decode cX0_lay 0 = .ok (.aload_n 0, 1) := by decide +kernel
theorem dX0_lay_1 : decode cX0_lay 1 = .ok (.getfield 9, 3) := by decide +kernel
theorem dX0_lay_4 : decode cX0_lay 4 = .ok (.iconst (-1), 1) := by decide +kernel
theorem dX0_lay_5 : decode cX0_lay 5 = .ok (.invokestatic 24, 3) := by decide +kernel
theorem dX0_lay_8 : decode cX0_lay 8 = .ok (.aload_n 0, 1) := by decide +kernel
theorem dX0_lay_9 : decode cX0_lay 9 = .ok (.getfield 15, 3) := by decide +kernel
theorem dX0_lay_12 : decode cX0_lay 12 = .ok (.bipush 100, 2) := by decide +kernel
theorem dX0_lay_14 : decode cX0_lay 14 = .ok (.invokestatic 24, 3) := by decide +kernel
theorem dX0_lay_17 : decode cX0_lay 17 = .ok (.iconst 0, 1) := by decide +kernel
theorem dX0_lay_18 : decode cX0_lay 18 = .ok (.istore_n 2, 1) := by decide +kernel
theorem dX0_lay_19 : decode cX0_lay 19 = .ok (.iload_n 2, 1) := by decide +kernel
theorem dX0_lay_20 : decode cX0_lay 20 = .ok (.aload_n 1, 1) := by decide +kernel
theorem dX0_lay_21 : decode cX0_lay 21 = .ok (.getfield 30, 3) := by decide +kernel
theorem dX0_lay_24 : decode cX0_lay 24 = .ok (.if_icmp .ge 25, 3) := by decide +kernel
theorem dX0_lay_27 : decode cX0_lay 27 = .ok (.aload_n 1, 1) := by decide +kernel
theorem dX0_lay_28 : decode cX0_lay 28 = .ok (.getfield 36, 3) := by decide +kernel
theorem dX0_lay_31 : decode cX0_lay 31 = .ok (.iload_n 2, 1) := by decide +kernel
theorem dX0_lay_32 : decode cX0_lay 32 = .ok (.iaload, 1) := by decide +kernel
theorem dX0_lay_33 : decode cX0_lay 33 = .ok (.iconst 1, 1) := by decide +kernel
theorem dX0_lay_34 : decode cX0_lay 34 = .ok (.if_icmp .ne 9, 3) := by decide +kernel
theorem dX0_lay_37 : decode cX0_lay 37 = .ok (.aload_n 0, 1) := by decide +kernel
theorem dX0_lay_38 : decode cX0_lay 38 = .ok (.aload_n 1, 1) := by decide +kernel
theorem dX0_lay_39 : decode cX0_lay 39 = .ok (.iload_n 2, 1) := by decide +kernel
theorem dX0_lay_40 : decode cX0_lay 40 = .ok (.invokevirtual 39, 3) := by decide +kernel
theorem dX0_lay_43 : decode cX0_lay 43 = .ok (.iinc 2 1, 3) := by decide +kernel
theorem dX0_lay_46 : decode cX0_lay 46 = .ok (.goto (-27), 3) := by decide +kernel
theorem dX0_lay_49 : decode cX0_lay 49 = .ok (.aload_n 0, 1) := by decide +kernel
theorem dX0_lay_50 : decode cX0_lay 50 = .ok (.aload_n 1, 1) := by decide +kernel
theorem dX0_lay_51 : decode cX0_lay 51 = .ok (.invokevirtual 43, 3) := by decide +kernel
theorem dX0_lay_54 : decode cX0_lay 54 = .ok (.return_, 1) := by decide +kernel
theorem dX0_claim_0 : decode cX0_claim 0 = .ok (.aload_n 1, 1) := by decide +kernel
theorem dX0_claim_1 : decode cX0_claim 1 = .ok (.getfield 47, 3) := by decide +kernel
theorem dX0_claim_4 : decode cX0_claim 4 = .ok (.iload_n 2, 1) := by decide +kernel
theorem dX0_claim_5 : decode cX0_claim 5 = .ok (.iaload, 1) := by decide +kernel
theorem dX0_claim_6 : decode cX0_claim 6 = .ok (.bipush 12, 2) := by decide +kernel
theorem dX0_claim_8 : decode cX0_claim 8 = .ok (.idiv, 1) := by decide +kernel
theorem dX0_claim_9 : decode cX0_claim 9 = .ok (.istore_n 3, 1) := by decide +kernel
theorem dX0_claim_10 : decode cX0_claim 10 = .ok (.aload_n 1, 1) := by decide +kernel
theorem dX0_claim_11 : decode cX0_claim 11 = .ok (.getfield 47, 3) := by decide +kernel
theorem dX0_claim_14 : decode cX0_claim 14 = .ok (.iload_n 2, 1) := by decide +kernel
theorem dX0_claim_15 : decode cX0_claim 15 = .ok (.iaload, 1) := by decide +kernel
theorem dX0_claim_16 : decode cX0_claim 16 = .ok (.bipush 12, 2) := by decide +kernel
theorem dX0_claim_18 : decode cX0_claim 18 = .ok (.irem, 1) := by decide +kernel
theorem dX0_claim_19 : decode cX0_claim 19 = .ok (.istore 4, 2) := by decide +kernel
theorem dX0_claim_21 : decode cX0_claim 21 = .ok (.aload_n 1, 1) := by decide +kernel
theorem dX0_claim_22 : decode cX0_claim 22 = .ok (.iconst 0, 1) := by decide +kernel
theorem dX0_claim_23 : decode cX0_claim 23 = .ok (.iload_n 3, 1) := by decide +kernel
theorem dX0_claim_24 : decode cX0_claim 24 = .ok (.bipush 7, 2) := by decide +kernel
theorem dX0_claim_26 : decode cX0_claim 26 = .ok (.invokevirtual 50, 3) := by decide +kernel
theorem dX0_claim_29 : decode cX0_claim 29 = .ok (.istore 5, 2) := by decide +kernel
theorem dX0_claim_31 : decode cX0_claim 31 = .ok (.aload_n 1, 1) := by decide +kernel
theorem dX0_claim_32 : decode cX0_claim 32 = .ok (.bipush 10, 2) := by decide +kernel
theorem dX0_claim_34 : decode cX0_claim 34 = .ok (.iload 4, 2) := by decide +kernel
theorem dX0_claim_36 : decode cX0_claim 36 = .ok (.invokevirtual 54, 3) := by decide +kernel
theorem dX0_claim_39 : decode cX0_claim 39 = .ok (.istore 6, 2) := by decide +kernel
theorem dX0_claim_41 : decode cX0_claim 41 = .ok (.aload_n 1, 1) := by decide +kernel
theorem dX0_claim_42 : decode cX0_claim 42 = .ok (.bipush 10, 2) := by decide +kernel
theorem dX0_claim_44 : decode cX0_claim 44 = .ok (.iload 4, 2) := by decide +kernel
theorem dX0_claim_46 : decode cX0_claim 46 = .ok (.bipush 11, 2) := by decide +kernel
theorem dX0_claim_48 : decode cX0_claim 48 = .ok (.invokevirtual 50, 3) := by decide +kernel
theorem dX0_claim_51 : decode cX0_claim 51 = .ok (.istore 7, 2) := by decide +kernel
theorem dX0_claim_53 : decode cX0_claim 53 = .ok (.aload_n 1, 1) := by decide +kernel
theorem dX0_claim_54 : decode cX0_claim 54 = .ok (.iconst 0, 1) := by decide +kernel
theorem dX0_claim_55 : decode cX0_claim 55 = .ok (.iload_n 3, 1) := by decide +kernel
theorem dX0_claim_56 : decode cX0_claim 56 = .ok (.invokevirtual 54, 3) := by decide +kernel
theorem dX0_claim_59 : decode cX0_claim 59 = .ok (.istore 8, 2) := by decide +kernel
theorem dX0_claim_61 : decode cX0_claim 61 = .ok (.iload 8, 2) := by decide +kernel
theorem dX0_claim_63 : decode cX0_claim 63 = .ok (.iload 5, 2) := by decide +kernel
theorem dX0_claim_65 : decode cX0_claim 65 = .ok (.if_icmp .gt 87, 3) := by decide +kernel
theorem dX0_claim_68 : decode cX0_claim 68 = .ok (.iload 8, 2) := by decide +kernel
theorem dX0_claim_70 : decode cX0_claim 70 = .ok (.iload_n 3, 1) := by decide +kernel
theorem dX0_claim_71 : decode cX0_claim 71 = .ok (.isub, 1) := by decide +kernel
theorem dX0_claim_72 : decode cX0_claim 72 = .ok (.invokestatic 58, 3) := by decide +kernel
theorem dX0_claim_75 : decode cX0_claim 75 = .ok (.istore 9, 2) := by decide +kernel
theorem dX0_claim_77 : decode cX0_claim 77 = .ok (.iload 6, 2) := by decide +kernel
theorem dX0_claim_79 : decode cX0_claim 79 = .ok (.istore 10, 2) := by decide +kernel
theorem dX0_claim_81 : decode cX0_claim 81 = .ok (.iload 10, 2) := by decide +kernel
theorem dX0_claim_83 : decode cX0_claim 83 = .ok (.iload 7, 2) := by decide +kernel
theorem dX0_claim_85 : decode cX0_claim 85 = .ok (.if_icmp .gt 61, 3) := by decide +kernel
theorem dX0_claim_88 : decode cX0_claim 88 = .ok (.bipush 12, 2) := by decide +kernel
theorem dX0_claim_90 : decode cX0_claim 90 = .ok (.iload 8, 2) := by decide +kernel
theorem dX0_claim_92 : decode cX0_claim 92 = .ok (.imul, 1) := by decide +kernel
theorem dX0_claim_93 : decode cX0_claim 93 = .ok (.iload 10, 2) := by decide +kernel
theorem dX0_claim_95 : decode cX0_claim 95 = .ok (.iadd, 1) := by decide +kernel
theorem dX0_claim_96 : decode cX0_claim 96 = .ok (.istore 11, 2) := by decide +kernel
theorem dX0_claim_98 : decode cX0_claim 98 = .ok (.iload 9, 2) := by decide +kernel
theorem dX0_claim_100 : decode cX0_claim 100 = .ok (.iload 10, 2) := by decide +kernel
theorem dX0_claim_102 : decode cX0_claim 102 = .ok (.iload 4, 2) := by decide +kernel
theorem dX0_claim_104 : decode cX0_claim 104 = .ok (.isub, 1) := by decide +kernel
theorem dX0_claim_105 : decode cX0_claim 105 = .ok (.invokestatic 58, 3) := by decide +kernel
theorem dX0_claim_108 : decode cX0_claim 108 = .ok (.iadd, 1) := by decide +kernel
theorem dX0_claim_109 : decode cX0_claim 109 = .ok (.istore 12, 2) := by decide +kernel
theorem dX0_claim_111 : decode cX0_claim 111 = .ok (.iload 12, 2) := by decide +kernel
theorem dX0_claim_113 : decode cX0_claim 113 = .ok (.aload_n 0, 1) := by decide +kernel
theorem dX0_claim_114 : decode cX0_claim 114 = .ok (.getfield 15, 3) := by decide +kernel
theorem dX0_claim_117 : decode cX0_claim 117 = .ok (.iload 11, 2) := by decide +kernel
theorem dX0_claim_119 : decode cX0_claim 119 = .ok (.iaload, 1) := by decide +kernel
theorem dX0_claim_120 : decode cX0_claim 120 = .ok (.if_icmp .ge 20, 3) := by decide +kernel
theorem dX0_claim_123 : decode cX0_claim 123 = .ok (.aload_n 0, 1) := by decide +kernel
theorem dX0_claim_124 : decode cX0_claim 124 = .ok (.getfield 15, 3) := by decide +kernel
theorem dX0_claim_127 : decode cX0_claim 127 = .ok (.iload 11, 2) := by decide +kernel
theorem dX0_claim_129 : decode cX0_claim 129 = .ok (.iload 12, 2) := by decide +kernel
theorem dX0_claim_131 : decode cX0_claim 131 = .ok (.iastore, 1) := by decide +kernel
theorem dX0_claim_132 : decode cX0_claim 132 = .ok (.aload_n 0, 1) := by decide +kernel
theorem dX0_claim_133 : decode cX0_claim 133 = .ok (.getfield 9, 3) := by decide +kernel
theorem dX0_claim_136 : decode cX0_claim 136 = .ok (.iload 11, 2) := by decide +kernel
theorem dX0_claim_138 : decode cX0_claim 138 = .ok (.iload_n 2, 1) := by decide +kernel
theorem dX0_claim_139 : decode cX0_claim 139 = .ok (.iastore, 1) := by decide +kernel
theorem dX0_claim_140 : decode cX0_claim 140 = .ok (.iinc 10 1, 3) := by decide +kernel
theorem dX0_claim_143 : decode cX0_claim 143 = .ok (.goto (-62), 3) := by decide +kernel
theorem dX0_claim_146 : decode cX0_claim 146 = .ok (.iinc 8 1, 3) := by decide +kernel
theorem dX0_claim_149 : decode cX0_claim 149 = .ok (.goto (-88), 3) := by decide +kernel
theorem dX0_claim_152 : decode cX0_claim 152 = .ok (.return_, 1) := by decide +kernel
theorem dX0_weigh_0 : decode cX0_weigh 0 = .ok (.aload_n 0, 1) := by decide +kernel
theorem dX0_weigh_1 : decode cX0_weigh 1 = .ok (.getfield 18, 3) := by decide +kernel
theorem dX0_weigh_4 : decode cX0_weigh 4 = .ok (.iconst 0, 1) := by decide +kernel
theorem dX0_weigh_5 : decode cX0_weigh 5 = .ok (.invokestatic 24, 3) := by decide +kernel
theorem dX0_weigh_8 : decode cX0_weigh 8 = .ok (.aload_n 0, 1) := by decide +kernel
theorem dX0_weigh_9 : decode cX0_weigh 9 = .ok (.getfield 21, 3) := by decide +kernel
theorem dX0_weigh_12 : decode cX0_weigh 12 = .ok (.iconst 0, 1) := by decide +kernel
theorem dX0_weigh_13 : decode cX0_weigh 13 = .ok (.invokestatic 24, 3) := by decide +kernel
theorem dX0_weigh_16 : decode cX0_weigh 16 = .ok (.iconst 0, 1) := by decide +kernel
theorem dX0_weigh_17 : decode cX0_weigh 17 = .ok (.istore_n 2, 1) := by decide +kernel
theorem dX0_weigh_18 : decode cX0_weigh 18 = .ok (.iload_n 2, 1) := by decide +kernel
theorem dX0_weigh_19 : decode cX0_weigh 19 = .ok (.bipush 96, 2) := by decide +kernel
theorem dX0_weigh_21 : decode cX0_weigh 21 = .ok (.if_icmp .ge 46, 3) := by decide +kernel
theorem dX0_weigh_24 : decode cX0_weigh 24 = .ok (.aload_n 0, 1) := by decide +kernel
theorem dX0_weigh_25 : decode cX0_weigh 25 = .ok (.getfield 9, 3) := by decide +kernel
theorem dX0_weigh_28 : decode cX0_weigh 28 = .ok (.iload_n 2, 1) := by decide +kernel
theorem dX0_weigh_29 : decode cX0_weigh 29 = .ok (.iaload, 1) := by decide +kernel
theorem dX0_weigh_30 : decode cX0_weigh 30 = .ok (.istore_n 3, 1) := by decide +kernel
theorem dX0_weigh_31 : decode cX0_weigh 31 = .ok (.iload_n 3, 1) := by decide +kernel
theorem dX0_weigh_32 : decode cX0_weigh 32 = .ok (.iconst (-1), 1) := by decide +kernel
theorem dX0_weigh_33 : decode cX0_weigh 33 = .ok (.if_icmp .eq 28, 3) := by decide +kernel
theorem dX0_weigh_36 : decode cX0_weigh 36 = .ok (.aload_n 0, 1) := by decide +kernel
theorem dX0_weigh_37 : decode cX0_weigh 37 = .ok (.getfield 18, 3) := by decide +kernel
theorem dX0_weigh_40 : decode cX0_weigh 40 = .ok (.iload_n 3, 1) := by decide +kernel
theorem dX0_weigh_41 : decode cX0_weigh 41 = .ok (.dup2, 1) := by decide +kernel
theorem dX0_weigh_42 : decode cX0_weigh 42 = .ok (.iaload, 1) := by decide +kernel
theorem dX0_weigh_43 : decode cX0_weigh 43 = .ok (.aload_n 1, 1) := by decide +kernel
theorem dX0_weigh_44 : decode cX0_weigh 44 = .ok (.getfield 64, 3) := by decide +kernel
theorem dX0_weigh_47 : decode cX0_weigh 47 = .ok (.iload_n 2, 1) := by decide +kernel
theorem dX0_weigh_48 : decode cX0_weigh 48 = .ok (.iaload, 1) := by decide +kernel
theorem dX0_weigh_49 : decode cX0_weigh 49 = .ok (.iadd, 1) := by decide +kernel
theorem dX0_weigh_50 : decode cX0_weigh 50 = .ok (.iastore, 1) := by decide +kernel
theorem dX0_weigh_51 : decode cX0_weigh 51 = .ok (.aload_n 0, 1) := by decide +kernel
theorem dX0_weigh_52 : decode cX0_weigh 52 = .ok (.getfield 21, 3) := by decide +kernel
theorem dX0_weigh_55 : decode cX0_weigh 55 = .ok (.iload_n 3, 1) := by decide +kernel
theorem dX0_weigh_56 : decode cX0_weigh 56 = .ok (.dup2, 1) := by decide +kernel
theorem dX0_weigh_57 : decode cX0_weigh 57 = .ok (.iaload, 1) := by decide +kernel
theorem dX0_weigh_58 : decode cX0_weigh 58 = .ok (.iconst 1, 1) := by decide +kernel
theorem dX0_weigh_59 : decode cX0_weigh 59 = .ok (.iadd, 1) := by decide +kernel
theorem dX0_weigh_60 : decode cX0_weigh 60 = .ok (.iastore, 1) := by decide +kernel
theorem dX0_weigh_61 : decode cX0_weigh 61 = .ok (.iinc 2 1, 3) := by decide +kernel
theorem dX0_weigh_64 : decode cX0_weigh 64 = .ok (.goto (-46), 3) := by decide +kernel
theorem dX0_weigh_67 : decode cX0_weigh 67 = .ok (.return_, 1) := by decide +kernel
theorem dX0_isTooMuch_0 : decode cX0_isTooMuch 0 = .ok (.aload_n 1, 1) := by decide +kernel
theorem dX0_isTooMuch_1 : decode cX0_isTooMuch 1 = .ok (.getfield 36, 3) := by decide +kernel
theorem dX0_isTooMuch_4 : decode cX0_isTooMuch 4 = .ok (.iload_n 2, 1) := by decide +kernel
theorem dX0_isTooMuch_5 : decode cX0_isTooMuch 5 = .ok (.iaload, 1) := by decide +kernel
theorem dX0_isTooMuch_6 : decode cX0_isTooMuch 6 = .ok (.iconst 1, 1) := by decide +kernel
theorem dX0_isTooMuch_7 : decode cX0_isTooMuch 7 = .ok (.if_icmp .ne 22, 3) := by decide +kernel
theorem dX0_isTooMuch_10 : decode cX0_isTooMuch 10 = .ok (.aload_n 0, 1) := by decide +kernel
theorem dX0_isTooMuch_11 : decode cX0_isTooMuch 11 = .ok (.getfield 18, 3) := by decide +kernel
theorem dX0_isTooMuch_14 : decode cX0_isTooMuch 14 = .ok (.iload_n 2, 1) := by decide +kernel
theorem dX0_isTooMuch_15 : decode cX0_isTooMuch 15 = .ok (.iaload, 1) := by decide +kernel
theorem dX0_isTooMuch_16 : decode cX0_isTooMuch 16 = .ok (.aload_n 1, 1) := by decide +kernel
theorem dX0_isTooMuch_17 : decode cX0_isTooMuch 17 = .ok (.getfield 67, 3) := by decide +kernel
theorem dX0_isTooMuch_20 : decode cX0_isTooMuch 20 = .ok (.iload_n 2, 1) := by decide +kernel
theorem dX0_isTooMuch_21 : decode cX0_isTooMuch 21 = .ok (.iaload, 1) := by decide +kernel
theorem dX0_isTooMuch_22 : decode cX0_isTooMuch 22 = .ok (.if_icmp .le 7, 3) := by decide +kernel
theorem dX0_isTooMuch_25 : decode cX0_isTooMuch 25 = .ok (.iconst 1, 1) := by decide +kernel
theorem dX0_isTooMuch_26 : decode cX0_isTooMuch 26 = .ok (.goto 4, 3) := by decide +kernel
theorem dX0_isTooMuch_29 : decode cX0_isTooMuch 29 = .ok (.iconst 0, 1) := by decide +kernel
theorem dX0_isTooMuch_30 : decode cX0_isTooMuch 30 = .ok (.ireturn, 1) := by decide +kernel
theorem dX0_countTooMuch_0 : decode cX0_countTooMuch 0 = .ok (.iconst 0, 1) := by decide +kernel
theorem dX0_countTooMuch_1 : decode cX0_countTooMuch 1 = .ok (.istore_n 2, 1) := by decide +kernel
theorem dX0_countTooMuch_2 : decode cX0_countTooMuch 2 = .ok (.iconst 0, 1) := by decide +kernel
theorem dX0_countTooMuch_3 : decode cX0_countTooMuch 3 = .ok (.istore_n 3, 1) := by decide +kernel
theorem dX0_countTooMuch_4 : decode cX0_countTooMuch 4 = .ok (.iload_n 3, 1) := by decide +kernel
theorem dX0_countTooMuch_5 : decode cX0_countTooMuch 5 = .ok (.aload_n 1, 1) := by decide +kernel
theorem dX0_countTooMuch_6 : decode cX0_countTooMuch 6 = .ok (.getfield 30, 3) := by decide +kernel
theorem dX0_countTooMuch_9 : decode cX0_countTooMuch 9 = .ok (.if_icmp .ge 21, 3) := by decide +kernel
theorem dX0_countTooMuch_12 : decode cX0_countTooMuch 12 = .ok (.aload_n 0, 1) := by decide +kernel
theorem dX0_countTooMuch_13 : decode cX0_countTooMuch 13 = .ok (.aload_n 1, 1) := by decide +kernel
theorem dX0_countTooMuch_14 : decode cX0_countTooMuch 14 = .ok (.iload_n 3, 1) := by decide +kernel
theorem dX0_countTooMuch_15 : decode cX0_countTooMuch 15 = .ok (.invokevirtual 70, 3) := by decide +kernel
theorem dX0_countTooMuch_18 : decode cX0_countTooMuch 18 = .ok (.ifCond .eq 6, 3) := by decide +kernel
theorem dX0_countTooMuch_21 : decode cX0_countTooMuch 21 = .ok (.iinc 2 1, 3) := by decide +kernel
theorem dX0_countTooMuch_24 : decode cX0_countTooMuch 24 = .ok (.iinc 3 1, 3) := by decide +kernel
theorem dX0_countTooMuch_27 : decode cX0_countTooMuch 27 = .ok (.goto (-23), 3) := by decide +kernel
theorem dX0_countTooMuch_30 : decode cX0_countTooMuch 30 = .ok (.iload_n 2, 1) := by decide +kernel
theorem dX0_countTooMuch_31 : decode cX0_countTooMuch 31 = .ok (.ireturn, 1) := by decide +kernel
theorem dX0_countFallen_0 : decode cX0_countFallen 0 = .ok (.iconst 0, 1) := by decide +kernel
theorem dX0_countFallen_1 : decode cX0_countFallen 1 = .ok (.istore_n 1, 1) := by decide +kernel
theorem dX0_countFallen_2 : decode cX0_countFallen 2 = .ok (.iconst 0, 1) := by decide +kernel
theorem dX0_countFallen_3 : decode cX0_countFallen 3 = .ok (.istore_n 2, 1) := by decide +kernel
theorem dX0_countFallen_4 : decode cX0_countFallen 4 = .ok (.iload_n 2, 1) := by decide +kernel
theorem dX0_countFallen_5 : decode cX0_countFallen 5 = .ok (.bipush 96, 2) := by decide +kernel
theorem dX0_countFallen_7 : decode cX0_countFallen 7 = .ok (.if_icmp .ge 22, 3) := by decide +kernel
theorem dX0_countFallen_10 : decode cX0_countFallen 10 = .ok (.aload_n 0, 1) := by decide +kernel
theorem dX0_countFallen_11 : decode cX0_countFallen 11 = .ok (.getfield 9, 3) := by decide +kernel
theorem dX0_countFallen_14 : decode cX0_countFallen 14 = .ok (.iload_n 2, 1) := by decide +kernel
theorem dX0_countFallen_15 : decode cX0_countFallen 15 = .ok (.iaload, 1) := by decide +kernel
theorem dX0_countFallen_16 : decode cX0_countFallen 16 = .ok (.iconst (-1), 1) := by decide +kernel
theorem dX0_countFallen_17 : decode cX0_countFallen 17 = .ok (.if_icmp .ne 6, 3) := by decide +kernel
theorem dX0_countFallen_20 : decode cX0_countFallen 20 = .ok (.iinc 1 1, 3) := by decide +kernel
theorem dX0_countFallen_23 : decode cX0_countFallen 23 = .ok (.iinc 2 1, 3) := by decide +kernel
theorem dX0_countFallen_26 : decode cX0_countFallen 26 = .ok (.goto (-22), 3) := by decide +kernel
theorem dX0_countFallen_29 : decode cX0_countFallen 29 = .ok (.iload_n 1, 1) := by decide +kernel
theorem dX0_countFallen_30 : decode cX0_countFallen 30 = .ok (.ireturn, 1) := by decide +kernel
theorem dX0_weighFallen_0 : decode cX0_weighFallen 0 = .ok (.iconst 0, 1) := by decide +kernel
theorem dX0_weighFallen_1 : decode cX0_weighFallen 1 = .ok (.istore_n 2, 1) := by decide +kernel
theorem dX0_weighFallen_2 : decode cX0_weighFallen 2 = .ok (.iconst 0, 1) := by decide +kernel
theorem dX0_weighFallen_3 : decode cX0_weighFallen 3 = .ok (.istore_n 3, 1) := by decide +kernel
theorem dX0_weighFallen_4 : decode cX0_weighFallen 4 = .ok (.iload_n 3, 1) := by decide +kernel
theorem dX0_weighFallen_5 : decode cX0_weighFallen 5 = .ok (.bipush 96, 2) := by decide +kernel
theorem dX0_weighFallen_7 : decode cX0_weighFallen 7 = .ok (.if_icmp .ge 28, 3) := by decide +kernel
theorem dX0_weighFallen_10 : decode cX0_weighFallen 10 = .ok (.aload_n 0, 1) := by decide +kernel
theorem dX0_weighFallen_11 : decode cX0_weighFallen 11 = .ok (.getfield 9, 3) := by decide +kernel
theorem dX0_weighFallen_14 : decode cX0_weighFallen 14 = .ok (.iload_n 3, 1) := by decide +kernel
theorem dX0_weighFallen_15 : decode cX0_weighFallen 15 = .ok (.iaload, 1) := by decide +kernel
theorem dX0_weighFallen_16 : decode cX0_weighFallen 16 = .ok (.iconst (-1), 1) := by decide +kernel
theorem dX0_weighFallen_17 : decode cX0_weighFallen 17 = .ok (.if_icmp .ne 12, 3) := by decide +kernel
theorem dX0_weighFallen_20 : decode cX0_weighFallen 20 = .ok (.iload_n 2, 1) := by decide +kernel
theorem dX0_weighFallen_21 : decode cX0_weighFallen 21 = .ok (.aload_n 1, 1) := by decide +kernel
theorem dX0_weighFallen_22 : decode cX0_weighFallen 22 = .ok (.getfield 64, 3) := by decide +kernel
theorem dX0_weighFallen_25 : decode cX0_weighFallen 25 = .ok (.iload_n 3, 1) := by decide +kernel
theorem dX0_weighFallen_26 : decode cX0_weighFallen 26 = .ok (.iaload, 1) := by decide +kernel
theorem dX0_weighFallen_27 : decode cX0_weighFallen 27 = .ok (.iadd, 1) := by decide +kernel
theorem dX0_weighFallen_28 : decode cX0_weighFallen 28 = .ok (.istore_n 2, 1) := by decide +kernel
theorem dX0_weighFallen_29 : decode cX0_weighFallen 29 = .ok (.iinc 3 1, 3) := by decide +kernel
theorem dX0_weighFallen_32 : decode cX0_weighFallen 32 = .ok (.goto (-28), 3) := by decide +kernel
theorem dX0_weighFallen_35 : decode cX0_weighFallen 35 = .ok (.iload_n 2, 1) := by decide +kernel
theorem dX0_weighFallen_36 : decode cX0_weighFallen 36 = .ok (.ireturn, 1) := by decide +kernel
theorem dX0_countHeldRooms_0 : decode cX0_countHeldRooms 0 = .ok (.iconst 0, 1) := by decide +kernel
theorem dX0_countHeldRooms_1 : decode cX0_countHeldRooms 1 = .ok (.istore_n 2, 1) := by decide +kernel
theorem dX0_countHeldRooms_2 : decode cX0_countHeldRooms 2 = .ok (.iconst 0, 1) := by decide +kernel
theorem dX0_countHeldRooms_3 : decode cX0_countHeldRooms 3 = .ok (.istore_n 3, 1) := by decide +kernel
theorem dX0_countHeldRooms_4 : decode cX0_countHeldRooms 4 = .ok (.iload_n 3, 1) := by decide +kernel
theorem dX0_countHeldRooms_5 : decode cX0_countHeldRooms 5 = .ok (.bipush 96, 2) := by decide +kernel
theorem dX0_countHeldRooms_7 : decode cX0_countHeldRooms 7 = .ok (.if_icmp .ge 30, 3) := by decide +kernel
theorem dX0_countHeldRooms_10 : decode cX0_countHeldRooms 10 = .ok (.aload_n 0, 1) := by decide +kernel
theorem dX0_countHeldRooms_11 : decode cX0_countHeldRooms 11 = .ok (.getfield 9, 3) := by decide +kernel
theorem dX0_countHeldRooms_14 : decode cX0_countHeldRooms 14 = .ok (.iload_n 3, 1) := by decide +kernel
theorem dX0_countHeldRooms_15 : decode cX0_countHeldRooms 15 = .ok (.iaload, 1) := by decide +kernel
theorem dX0_countHeldRooms_16 : decode cX0_countHeldRooms 16 = .ok (.iconst (-1), 1) := by decide +kernel
theorem dX0_countHeldRooms_17 : decode cX0_countHeldRooms 17 = .ok (.if_icmp .eq 14, 3) := by decide +kernel
theorem dX0_countHeldRooms_20 : decode cX0_countHeldRooms 20 = .ok (.aload_n 1, 1) := by decide +kernel
theorem dX0_countHeldRooms_21 : decode cX0_countHeldRooms 21 = .ok (.iload_n 3, 1) := by decide +kernel
theorem dX0_countHeldRooms_22 : decode cX0_countHeldRooms 22 = .ok (.invokevirtual 74, 3) := by decide +kernel
theorem dX0_countHeldRooms_25 : decode cX0_countHeldRooms 25 = .ok (.ifCond .eq 6, 3) := by decide +kernel
theorem dX0_countHeldRooms_28 : decode cX0_countHeldRooms 28 = .ok (.iinc 2 1, 3) := by decide +kernel
theorem dX0_countHeldRooms_31 : decode cX0_countHeldRooms 31 = .ok (.iinc 3 1, 3) := by decide +kernel
theorem dX0_countHeldRooms_34 : decode cX0_countHeldRooms 34 = .ok (.goto (-30), 3) := by decide +kernel
theorem dX0_countHeldRooms_37 : decode cX0_countHeldRooms 37 = .ok (.iload_n 2, 1) := by decide +kernel
theorem dX0_countHeldRooms_38 : decode cX0_countHeldRooms 38 = .ok (.ireturn, 1) := by decide +kernel
theorem dX0_meet_0 : decode cX0_meet 0 = .ok (.iconst 0, 1) := by decide +kernel
theorem dX0_meet_1 : decode cX0_meet 1 = .ok (.istore 4, 2) := by decide +kernel
theorem dX0_meet_3 : decode cX0_meet 3 = .ok (.iload 4, 2) := by decide +kernel
theorem dX0_meet_5 : decode cX0_meet 5 = .ok (.bipush 96, 2) := by decide +kernel
theorem dX0_meet_7 : decode cX0_meet 7 = .ok (.if_icmp .ge 90, 3) := by decide +kernel
theorem dX0_meet_10 : decode cX0_meet 10 = .ok (.aload_n 1, 1) := by decide +kernel
theorem dX0_meet_11 : decode cX0_meet 11 = .ok (.iload 4, 2) := by decide +kernel
theorem dX0_meet_13 : decode cX0_meet 13 = .ok (.bipush 12, 2) := by decide +kernel
theorem dX0_meet_15 : decode cX0_meet 15 = .ok (.irem, 1) := by decide +kernel
theorem dX0_meet_16 : decode cX0_meet 16 = .ok (.invokevirtual 78, 3) := by decide +kernel
theorem dX0_meet_19 : decode cX0_meet 19 = .ok (.ifCond .eq 22, 3) := by decide +kernel
theorem dX0_meet_22 : decode cX0_meet 22 = .ok (.aload_n 0, 1) := by decide +kernel
theorem dX0_meet_23 : decode cX0_meet 23 = .ok (.iload 4, 2) := by decide +kernel
theorem dX0_meet_25 : decode cX0_meet 25 = .ok (.iload 4, 2) := by decide +kernel
theorem dX0_meet_27 : decode cX0_meet 27 = .ok (.iconst 1, 1) := by decide +kernel
theorem dX0_meet_28 : decode cX0_meet 28 = .ok (.iadd, 1) := by decide +kernel
theorem dX0_meet_29 : decode cX0_meet 29 = .ok (.iload_n 2, 1) := by decide +kernel
theorem dX0_meet_30 : decode cX0_meet 30 = .ok (.iload_n 3, 1) := by decide +kernel
theorem dX0_meet_31 : decode cX0_meet 31 = .ok (.invokevirtual 81, 3) := by decide +kernel
theorem dX0_meet_34 : decode cX0_meet 34 = .ok (.ifCond .eq 7, 3) := by decide +kernel
theorem dX0_meet_37 : decode cX0_meet 37 = .ok (.iconst 1, 1) := by decide +kernel
theorem dX0_meet_38 : decode cX0_meet 38 = .ok (.goto 4, 3) := by decide +kernel
theorem dX0_meet_41 : decode cX0_meet 41 = .ok (.iconst 0, 1) := by decide +kernel
theorem dX0_meet_42 : decode cX0_meet 42 = .ok (.istore 5, 2) := by decide +kernel
theorem dX0_meet_44 : decode cX0_meet 44 = .ok (.aload_n 1, 1) := by decide +kernel
theorem dX0_meet_45 : decode cX0_meet 45 = .ok (.iload 4, 2) := by decide +kernel
theorem dX0_meet_47 : decode cX0_meet 47 = .ok (.bipush 12, 2) := by decide +kernel
theorem dX0_meet_49 : decode cX0_meet 49 = .ok (.idiv, 1) := by decide +kernel
theorem dX0_meet_50 : decode cX0_meet 50 = .ok (.invokevirtual 85, 3) := by decide +kernel
theorem dX0_meet_53 : decode cX0_meet 53 = .ok (.ifCond .eq 23, 3) := by decide +kernel
theorem dX0_meet_56 : decode cX0_meet 56 = .ok (.aload_n 0, 1) := by decide +kernel
theorem dX0_meet_57 : decode cX0_meet 57 = .ok (.iload 4, 2) := by decide +kernel
theorem dX0_meet_59 : decode cX0_meet 59 = .ok (.iload 4, 2) := by decide +kernel
theorem dX0_meet_61 : decode cX0_meet 61 = .ok (.bipush 12, 2) := by decide +kernel
theorem dX0_meet_63 : decode cX0_meet 63 = .ok (.iadd, 1) := by decide +kernel
theorem dX0_meet_64 : decode cX0_meet 64 = .ok (.iload_n 2, 1) := by decide +kernel
theorem dX0_meet_65 : decode cX0_meet 65 = .ok (.iload_n 3, 1) := by decide +kernel
theorem dX0_meet_66 : decode cX0_meet 66 = .ok (.invokevirtual 81, 3) := by decide +kernel
theorem dX0_meet_69 : decode cX0_meet 69 = .ok (.ifCond .eq 7, 3) := by decide +kernel
theorem dX0_meet_72 : decode cX0_meet 72 = .ok (.iconst 1, 1) := by decide +kernel
theorem dX0_meet_73 : decode cX0_meet 73 = .ok (.goto 4, 3) := by decide +kernel
theorem dX0_meet_76 : decode cX0_meet 76 = .ok (.iconst 0, 1) := by decide +kernel
theorem dX0_meet_77 : decode cX0_meet 77 = .ok (.istore 6, 2) := by decide +kernel
theorem dX0_meet_79 : decode cX0_meet 79 = .ok (.iload 5, 2) := by decide +kernel
theorem dX0_meet_81 : decode cX0_meet 81 = .ok (.ifCond .ne 8, 3) := by decide +kernel
theorem dX0_meet_84 : decode cX0_meet 84 = .ok (.iload 6, 2) := by decide +kernel
theorem dX0_meet_86 : decode cX0_meet 86 = .ok (.ifCond .eq 5, 3) := by decide +kernel
theorem dX0_meet_89 : decode cX0_meet 89 = .ok (.iconst 1, 1) := by decide +kernel
theorem dX0_meet_90 : decode cX0_meet 90 = .ok (.ireturn, 1) := by decide +kernel
theorem dX0_meet_91 : decode cX0_meet 91 = .ok (.iinc 4 1, 3) := by decide +kernel
theorem dX0_meet_94 : decode cX0_meet 94 = .ok (.goto (-91), 3) := by decide +kernel
theorem dX0_meet_97 : decode cX0_meet 97 = .ok (.iconst 0, 1) := by decide +kernel
theorem dX0_meet_98 : decode cX0_meet 98 = .ok (.ireturn, 1) := by decide +kernel
theorem dX0_arePair_0 : decode cX0_arePair 0 = .ok (.aload_n 0, 1) := by decide +kernel
theorem dX0_arePair_1 : decode cX0_arePair 1 = .ok (.getfield 9, 3) := by decide +kernel
theorem dX0_arePair_4 : decode cX0_arePair 4 = .ok (.iload_n 1, 1) := by decide +kernel
theorem dX0_arePair_5 : decode cX0_arePair 5 = .ok (.iaload, 1) := by decide +kernel
theorem dX0_arePair_6 : decode cX0_arePair 6 = .ok (.iload_n 3, 1) := by decide +kernel
theorem dX0_arePair_7 : decode cX0_arePair 7 = .ok (.if_icmp .ne 14, 3) := by decide +kernel
theorem dX0_arePair_10 : decode cX0_arePair 10 = .ok (.aload_n 0, 1) := by decide +kernel
theorem dX0_arePair_11 : decode cX0_arePair 11 = .ok (.getfield 9, 3) := by decide +kernel
theorem dX0_arePair_14 : decode cX0_arePair 14 = .ok (.iload_n 2, 1) := by decide +kernel
theorem dX0_arePair_15 : decode cX0_arePair 15 = .ok (.iaload, 1) := by decide +kernel
theorem dX0_arePair_16 : decode cX0_arePair 16 = .ok (.iload 4, 2) := by decide +kernel
theorem dX0_arePair_18 : decode cX0_arePair 18 = .ok (.if_icmp .eq 24, 3) := by decide +kernel
theorem dX0_arePair_21 : decode cX0_arePair 21 = .ok (.aload_n 0, 1) := by decide +kernel
theorem dX0_arePair_22 : decode cX0_arePair 22 = .ok (.getfield 9, 3) := by decide +kernel
theorem dX0_arePair_25 : decode cX0_arePair 25 = .ok (.iload_n 1, 1) := by decide +kernel
theorem dX0_arePair_26 : decode cX0_arePair 26 = .ok (.iaload, 1) := by decide +kernel
theorem dX0_arePair_27 : decode cX0_arePair 27 = .ok (.iload 4, 2) := by decide +kernel
theorem dX0_arePair_29 : decode cX0_arePair 29 = .ok (.if_icmp .ne 17, 3) := by decide +kernel
theorem dX0_arePair_32 : decode cX0_arePair 32 = .ok (.aload_n 0, 1) := by decide +kernel
theorem dX0_arePair_33 : decode cX0_arePair 33 = .ok (.getfield 9, 3) := by decide +kernel
theorem dX0_arePair_36 : decode cX0_arePair 36 = .ok (.iload_n 2, 1) := by decide +kernel
theorem dX0_arePair_37 : decode cX0_arePair 37 = .ok (.iaload, 1) := by decide +kernel
theorem dX0_arePair_38 : decode cX0_arePair 38 = .ok (.iload_n 3, 1) := by decide +kernel
theorem dX0_arePair_39 : decode cX0_arePair 39 = .ok (.if_icmp .ne 7, 3) := by decide +kernel
theorem dX0_arePair_42 : decode cX0_arePair 42 = .ok (.iconst 1, 1) := by decide +kernel
theorem dX0_arePair_43 : decode cX0_arePair 43 = .ok (.goto 4, 3) := by decide +kernel
theorem dX0_arePair_46 : decode cX0_arePair 46 = .ok (.iconst 0, 1) := by decide +kernel
theorem dX0_arePair_47 : decode cX0_arePair 47 = .ok (.ireturn, 1) := by decide +kernel
theorem dX1_init_0 : decode cX1_init 0 = .ok (.aload_n 0, 1) := by decide +kernel
theorem dX1_init_1 : decode cX1_init 1 = .ok (.invokespecial 3, 3) := by decide +kernel
theorem dX1_init_4 : decode cX1_init 4 = .ok (.aload_n 0, 1) := by decide +kernel
theorem dX1_init_5 : decode cX1_init 5 = .ok (.bipush 96, 2) := by decide +kernel
theorem dX1_init_7 : decode cX1_init 7 = .ok (.newarray .int, 2) := by decide +kernel
theorem dX1_init_9 : decode cX1_init 9 = .ok (.putfield 9, 3) := by decide +kernel
theorem dX1_init_12 : decode cX1_init 12 = .ok (.aload_n 0, 1) := by decide +kernel
theorem dX1_init_13 : decode cX1_init 13 = .ok (.bipush 12, 2) := by decide +kernel
theorem dX1_init_15 : decode cX1_init 15 = .ok (.newarray .int, 2) := by decide +kernel
theorem dX1_init_17 : decode cX1_init 17 = .ok (.putfield 15, 3) := by decide +kernel
theorem dX1_init_20 : decode cX1_init 20 = .ok (.aload_n 0, 1) := by decide +kernel
theorem dX1_init_21 : decode cX1_init 21 = .ok (.bipush 12, 2) := by decide +kernel
theorem dX1_init_23 : decode cX1_init 23 = .ok (.newarray .int, 2) := by decide +kernel
theorem dX1_init_25 : decode cX1_init 25 = .ok (.putfield 18, 3) := by decide +kernel
theorem dX1_init_28 : decode cX1_init 28 = .ok (.aload_n 0, 1) := by decide +kernel
theorem dX1_init_29 : decode cX1_init 29 = .ok (.bipush 12, 2) := by decide +kernel
theorem dX1_init_31 : decode cX1_init 31 = .ok (.newarray .int, 2) := by decide +kernel
theorem dX1_init_33 : decode cX1_init 33 = .ok (.putfield 21, 3) := by decide +kernel
theorem dX1_init_36 : decode cX1_init 36 = .ok (.aload_n 0, 1) := by decide +kernel
theorem dX1_init_37 : decode cX1_init 37 = .ok (.bipush 21, 2) := by decide +kernel
theorem dX1_init_39 : decode cX1_init 39 = .ok (.newarray .int, 2) := by decide +kernel
theorem dX1_init_41 : decode cX1_init 41 = .ok (.putfield 24, 3) := by decide +kernel
theorem dX1_init_44 : decode cX1_init 44 = .ok (.aload_n 0, 1) := by decide +kernel
theorem dX1_init_45 : decode cX1_init 45 = .ok (.invokevirtual 27, 3) := by decide +kernel
theorem dX1_init_48 : decode cX1_init 48 = .ok (.return_, 1) := by decide +kernel
theorem dX1_reset_0 : decode cX1_reset 0 = .ok (.aload_n 0, 1) := by decide +kernel
theorem dX1_reset_1 : decode cX1_reset 1 = .ok (.getfield 9, 3) := by decide +kernel
theorem dX1_reset_4 : decode cX1_reset 4 = .ok (.iconst 1, 1) := by decide +kernel
theorem dX1_reset_5 : decode cX1_reset 5 = .ok (.invokestatic 30, 3) := by decide +kernel
theorem dX1_reset_8 : decode cX1_reset 8 = .ok (.aload_n 0, 1) := by decide +kernel
theorem dX1_reset_9 : decode cX1_reset 9 = .ok (.getfield 24, 3) := by decide +kernel
theorem dX1_reset_12 : decode cX1_reset 12 = .ok (.iconst 0, 1) := by decide +kernel
theorem dX1_reset_13 : decode cX1_reset 13 = .ok (.invokestatic 30, 3) := by decide +kernel
theorem dX1_reset_16 : decode cX1_reset 16 = .ok (.aload_n 0, 1) := by decide +kernel
theorem dX1_reset_17 : decode cX1_reset 17 = .ok (.iconst 0, 1) := by decide +kernel
theorem dX1_reset_18 : decode cX1_reset 18 = .ok (.putfield 36, 3) := by decide +kernel
theorem dX1_reset_21 : decode cX1_reset 21 = .ok (.return_, 1) := by decide +kernel
theorem dX1_copy_0 : decode cX1_copy 0 = .ok (.aload_n 1, 1) := by decide +kernel
theorem dX1_copy_1 : decode cX1_copy 1 = .ok (.getfield 9, 3) := by decide +kernel
theorem dX1_copy_4 : decode cX1_copy 4 = .ok (.iconst 0, 1) := by decide +kernel
theorem dX1_copy_5 : decode cX1_copy 5 = .ok (.aload_n 0, 1) := by decide +kernel
theorem dX1_copy_6 : decode cX1_copy 6 = .ok (.getfield 9, 3) := by decide +kernel
theorem dX1_copy_9 : decode cX1_copy 9 = .ok (.iconst 0, 1) := by decide +kernel
theorem dX1_copy_10 : decode cX1_copy 10 = .ok (.bipush 96, 2) := by decide +kernel
theorem dX1_copy_12 : decode cX1_copy 12 = .ok (.invokestatic 40, 3) := by decide +kernel
theorem dX1_copy_15 : decode cX1_copy 15 = .ok (.aload_n 1, 1) := by decide +kernel
theorem dX1_copy_16 : decode cX1_copy 16 = .ok (.getfield 15, 3) := by decide +kernel
theorem dX1_copy_19 : decode cX1_copy 19 = .ok (.iconst 0, 1) := by decide +kernel
theorem dX1_copy_20 : decode cX1_copy 20 = .ok (.aload_n 0, 1) := by decide +kernel
theorem dX1_copy_21 : decode cX1_copy 21 = .ok (.getfield 15, 3) := by decide +kernel
theorem dX1_copy_24 : decode cX1_copy 24 = .ok (.iconst 0, 1) := by decide +kernel
theorem dX1_copy_25 : decode cX1_copy 25 = .ok (.bipush 12, 2) := by decide +kernel
theorem dX1_copy_27 : decode cX1_copy 27 = .ok (.invokestatic 40, 3) := by decide +kernel
theorem dX1_copy_30 : decode cX1_copy 30 = .ok (.aload_n 1, 1) := by decide +kernel
theorem dX1_copy_31 : decode cX1_copy 31 = .ok (.getfield 18, 3) := by decide +kernel
theorem dX1_copy_34 : decode cX1_copy 34 = .ok (.iconst 0, 1) := by decide +kernel
theorem dX1_copy_35 : decode cX1_copy 35 = .ok (.aload_n 0, 1) := by decide +kernel
theorem dX1_copy_36 : decode cX1_copy 36 = .ok (.getfield 18, 3) := by decide +kernel
theorem dX1_copy_39 : decode cX1_copy 39 = .ok (.iconst 0, 1) := by decide +kernel
theorem dX1_copy_40 : decode cX1_copy 40 = .ok (.bipush 12, 2) := by decide +kernel
theorem dX1_copy_42 : decode cX1_copy 42 = .ok (.invokestatic 40, 3) := by decide +kernel
theorem dX1_copy_45 : decode cX1_copy 45 = .ok (.aload_n 1, 1) := by decide +kernel
theorem dX1_copy_46 : decode cX1_copy 46 = .ok (.getfield 21, 3) := by decide +kernel
theorem dX1_copy_49 : decode cX1_copy 49 = .ok (.iconst 0, 1) := by decide +kernel
theorem dX1_copy_50 : decode cX1_copy 50 = .ok (.aload_n 0, 1) := by decide +kernel
theorem dX1_copy_51 : decode cX1_copy 51 = .ok (.getfield 21, 3) := by decide +kernel
theorem dX1_copy_54 : decode cX1_copy 54 = .ok (.iconst 0, 1) := by decide +kernel
theorem dX1_copy_55 : decode cX1_copy 55 = .ok (.bipush 12, 2) := by decide +kernel
theorem dX1_copy_57 : decode cX1_copy 57 = .ok (.invokestatic 40, 3) := by decide +kernel
theorem dX1_copy_60 : decode cX1_copy 60 = .ok (.aload_n 1, 1) := by decide +kernel
theorem dX1_copy_61 : decode cX1_copy 61 = .ok (.getfield 24, 3) := by decide +kernel
theorem dX1_copy_64 : decode cX1_copy 64 = .ok (.iconst 0, 1) := by decide +kernel
theorem dX1_copy_65 : decode cX1_copy 65 = .ok (.aload_n 0, 1) := by decide +kernel
theorem dX1_copy_66 : decode cX1_copy 66 = .ok (.getfield 24, 3) := by decide +kernel
theorem dX1_copy_69 : decode cX1_copy 69 = .ok (.iconst 0, 1) := by decide +kernel
theorem dX1_copy_70 : decode cX1_copy 70 = .ok (.bipush 21, 2) := by decide +kernel
theorem dX1_copy_72 : decode cX1_copy 72 = .ok (.invokestatic 40, 3) := by decide +kernel
theorem dX1_copy_75 : decode cX1_copy 75 = .ok (.aload_n 0, 1) := by decide +kernel
theorem dX1_copy_76 : decode cX1_copy 76 = .ok (.aload_n 1, 1) := by decide +kernel
theorem dX1_copy_77 : decode cX1_copy 77 = .ok (.getfield 36, 3) := by decide +kernel
theorem dX1_copy_80 : decode cX1_copy 80 = .ok (.putfield 36, 3) := by decide +kernel
theorem dX1_copy_83 : decode cX1_copy 83 = .ok (.return_, 1) := by decide +kernel
theorem dX1_add_0 : decode cX1_add 0 = .ok (.aload_n 0, 1) := by decide +kernel
theorem dX1_add_1 : decode cX1_add 1 = .ok (.getfield 36, 3) := by decide +kernel
theorem dX1_add_4 : decode cX1_add 4 = .ok (.bipush 12, 2) := by decide +kernel
theorem dX1_add_6 : decode cX1_add 6 = .ok (.if_icmp .ge 43, 3) := by decide +kernel
theorem dX1_add_9 : decode cX1_add 9 = .ok (.aload_n 0, 1) := by decide +kernel
theorem dX1_add_10 : decode cX1_add 10 = .ok (.getfield 15, 3) := by decide +kernel
theorem dX1_add_13 : decode cX1_add 13 = .ok (.aload_n 0, 1) := by decide +kernel
theorem dX1_add_14 : decode cX1_add 14 = .ok (.getfield 36, 3) := by decide +kernel
theorem dX1_add_17 : decode cX1_add 17 = .ok (.iload_n 1, 1) := by decide +kernel
theorem dX1_add_18 : decode cX1_add 18 = .ok (.iastore, 1) := by decide +kernel
theorem dX1_add_19 : decode cX1_add 19 = .ok (.aload_n 0, 1) := by decide +kernel
theorem dX1_add_20 : decode cX1_add 20 = .ok (.getfield 18, 3) := by decide +kernel
theorem dX1_add_23 : decode cX1_add 23 = .ok (.aload_n 0, 1) := by decide +kernel
theorem dX1_add_24 : decode cX1_add 24 = .ok (.getfield 36, 3) := by decide +kernel
theorem dX1_add_27 : decode cX1_add 27 = .ok (.iload_n 2, 1) := by decide +kernel
theorem dX1_add_28 : decode cX1_add 28 = .ok (.iastore, 1) := by decide +kernel
theorem dX1_add_29 : decode cX1_add 29 = .ok (.aload_n 0, 1) := by decide +kernel
theorem dX1_add_30 : decode cX1_add 30 = .ok (.getfield 21, 3) := by decide +kernel
theorem dX1_add_33 : decode cX1_add 33 = .ok (.aload_n 0, 1) := by decide +kernel
theorem dX1_add_34 : decode cX1_add 34 = .ok (.getfield 36, 3) := by decide +kernel
theorem dX1_add_37 : decode cX1_add 37 = .ok (.iconst 1, 1) := by decide +kernel
theorem dX1_add_38 : decode cX1_add 38 = .ok (.iastore, 1) := by decide +kernel
theorem dX1_add_39 : decode cX1_add 39 = .ok (.aload_n 0, 1) := by decide +kernel
theorem dX1_add_40 : decode cX1_add 40 = .ok (.dup, 1) := by decide +kernel
theorem dX1_add_41 : decode cX1_add 41 = .ok (.getfield 36, 3) := by decide +kernel
theorem dX1_add_44 : decode cX1_add 44 = .ok (.iconst 1, 1) := by decide +kernel
theorem dX1_add_45 : decode cX1_add 45 = .ok (.iadd, 1) := by decide +kernel
theorem dX1_add_46 : decode cX1_add 46 = .ok (.putfield 36, 3) := by decide +kernel
theorem dX1_add_49 : decode cX1_add 49 = .ok (.return_, 1) := by decide +kernel
theorem dX1_hasPillar_0 : decode cX1_hasPillar 0 = .ok (.iload_n 1, 1) := by decide +kernel
theorem dX1_hasPillar_1 : decode cX1_hasPillar 1 = .ok (.ifCond .lt 15, 3) := by decide +kernel
theorem dX1_hasPillar_4 : decode cX1_hasPillar 4 = .ok (.iload_n 1, 1) := by decide +kernel
theorem dX1_hasPillar_5 : decode cX1_hasPillar 5 = .ok (.aload_n 0, 1) := by decide +kernel
theorem dX1_hasPillar_6 : decode cX1_hasPillar 6 = .ok (.getfield 36, 3) := by decide +kernel
theorem dX1_hasPillar_9 : decode cX1_hasPillar 9 = .ok (.if_icmp .ge 7, 3) := by decide +kernel
theorem dX1_hasPillar_12 : decode cX1_hasPillar 12 = .ok (.iconst 1, 1) := by decide +kernel
theorem dX1_hasPillar_13 : decode cX1_hasPillar 13 = .ok (.goto 4, 3) := by decide +kernel
theorem dX1_hasPillar_16 : decode cX1_hasPillar 16 = .ok (.iconst 0, 1) := by decide +kernel
theorem dX1_hasPillar_17 : decode cX1_hasPillar 17 = .ok (.ireturn, 1) := by decide +kernel
theorem dX1_isStanding_0 : decode cX1_isStanding 0 = .ok (.aload_n 0, 1) := by decide +kernel
theorem dX1_isStanding_1 : decode cX1_isStanding 1 = .ok (.iload_n 1, 1) := by decide +kernel
theorem dX1_isStanding_2 : decode cX1_isStanding 2 = .ok (.invokevirtual 46, 3) := by decide +kernel
theorem dX1_isStanding_5 : decode cX1_isStanding 5 = .ok (.ifCond .eq 17, 3) := by decide +kernel
theorem dX1_isStanding_8 : decode cX1_isStanding 8 = .ok (.aload_n 0, 1) := by decide +kernel
theorem dX1_isStanding_9 : decode cX1_isStanding 9 = .ok (.getfield 21, 3) := by decide +kernel
theorem dX1_isStanding_12 : decode cX1_isStanding 12 = .ok (.iload_n 1, 1) := by decide +kernel
theorem dX1_isStanding_13 : decode cX1_isStanding 13 = .ok (.iaload, 1) := by decide +kernel
theorem dX1_isStanding_14 : decode cX1_isStanding 14 = .ok (.iconst 1, 1) := by decide +kernel
theorem dX1_isStanding_15 : decode cX1_isStanding 15 = .ok (.if_icmp .ne 7, 3) := by decide +kernel
theorem dX1_isStanding_18 : decode cX1_isStanding 18 = .ok (.iconst 1, 1) := by decide +kernel
theorem dX1_isStanding_19 : decode cX1_isStanding 19 = .ok (.goto 4, 3) := by decide +kernel
theorem dX1_isStanding_22 : decode cX1_isStanding 22 = .ok (.iconst 0, 1) := by decide +kernel
theorem dX1_isStanding_23 : decode cX1_isStanding 23 = .ok (.ireturn, 1) := by decide +kernel
theorem dX1_hasPillarOn_0 : decode cX1_hasPillarOn 0 = .ok (.iconst 0, 1) := by decide +kernel
theorem dX1_hasPillarOn_1 : decode cX1_hasPillarOn 1 = .ok (.istore_n 2, 1) := by decide +kernel
theorem dX1_hasPillarOn_2 : decode cX1_hasPillarOn 2 = .ok (.iload_n 2, 1) := by decide +kernel
theorem dX1_hasPillarOn_3 : decode cX1_hasPillarOn 3 = .ok (.aload_n 0, 1) := by decide +kernel
theorem dX1_hasPillarOn_4 : decode cX1_hasPillarOn 4 = .ok (.getfield 36, 3) := by decide +kernel
theorem dX1_hasPillarOn_7 : decode cX1_hasPillarOn 7 = .ok (.if_icmp .ge 21, 3) := by decide +kernel
theorem dX1_hasPillarOn_10 : decode cX1_hasPillarOn 10 = .ok (.aload_n 0, 1) := by decide +kernel
theorem dX1_hasPillarOn_11 : decode cX1_hasPillarOn 11 = .ok (.getfield 15, 3) := by decide +kernel
theorem dX1_hasPillarOn_14 : decode cX1_hasPillarOn 14 = .ok (.iload_n 2, 1) := by decide +kernel
theorem dX1_hasPillarOn_15 : decode cX1_hasPillarOn 15 = .ok (.iaload, 1) := by decide +kernel
theorem dX1_hasPillarOn_16 : decode cX1_hasPillarOn 16 = .ok (.iload_n 1, 1) := by decide +kernel
theorem dX1_hasPillarOn_17 : decode cX1_hasPillarOn 17 = .ok (.if_icmp .ne 5, 3) := by decide +kernel
theorem dX1_hasPillarOn_20 : decode cX1_hasPillarOn 20 = .ok (.iconst 1, 1) := by decide +kernel
theorem dX1_hasPillarOn_21 : decode cX1_hasPillarOn 21 = .ok (.ireturn, 1) := by decide +kernel
theorem dX1_hasPillarOn_22 : decode cX1_hasPillarOn 22 = .ok (.iinc 2 1, 3) := by decide +kernel
theorem dX1_hasPillarOn_25 : decode cX1_hasPillarOn 25 = .ok (.goto (-23), 3) := by decide +kernel
theorem dX1_hasPillarOn_28 : decode cX1_hasPillarOn 28 = .ok (.iconst 0, 1) := by decide +kernel
theorem dX1_hasPillarOn_29 : decode cX1_hasPillarOn 29 = .ok (.ireturn, 1) := by decide +kernel
theorem dX1_countStanding_0 : decode cX1_countStanding 0 = .ok (.iconst 0, 1) := by decide +kernel
theorem dX1_countStanding_1 : decode cX1_countStanding 1 = .ok (.istore_n 1, 1) := by decide +kernel
theorem dX1_countStanding_2 : decode cX1_countStanding 2 = .ok (.iconst 0, 1) := by decide +kernel
theorem dX1_countStanding_3 : decode cX1_countStanding 3 = .ok (.istore_n 2, 1) := by decide +kernel
theorem dX1_countStanding_4 : decode cX1_countStanding 4 = .ok (.iload_n 2, 1) := by decide +kernel
theorem dX1_countStanding_5 : decode cX1_countStanding 5 = .ok (.aload_n 0, 1) := by decide +kernel
theorem dX1_countStanding_6 : decode cX1_countStanding 6 = .ok (.getfield 36, 3) := by decide +kernel
theorem dX1_countStanding_9 : decode cX1_countStanding 9 = .ok (.if_icmp .ge 18, 3) := by decide +kernel
theorem dX1_countStanding_12 : decode cX1_countStanding 12 = .ok (.iload_n 1, 1) := by decide +kernel
theorem dX1_countStanding_13 : decode cX1_countStanding 13 = .ok (.aload_n 0, 1) := by decide +kernel
theorem dX1_countStanding_14 : decode cX1_countStanding 14 = .ok (.getfield 21, 3) := by decide +kernel
theorem dX1_countStanding_17 : decode cX1_countStanding 17 = .ok (.iload_n 2, 1) := by decide +kernel
theorem dX1_countStanding_18 : decode cX1_countStanding 18 = .ok (.iaload, 1) := by decide +kernel
theorem dX1_countStanding_19 : decode cX1_countStanding 19 = .ok (.iadd, 1) := by decide +kernel
theorem dX1_countStanding_20 : decode cX1_countStanding 20 = .ok (.istore_n 1, 1) := by decide +kernel
theorem dX1_countStanding_21 : decode cX1_countStanding 21 = .ok (.iinc 2 1, 3) := by decide +kernel
theorem dX1_countStanding_24 : decode cX1_countStanding 24 = .ok (.goto (-20), 3) := by decide +kernel
theorem dX1_countStanding_27 : decode cX1_countStanding 27 = .ok (.iload_n 1, 1) := by decide +kernel
theorem dX1_countStanding_28 : decode cX1_countStanding 28 = .ok (.ireturn, 1) := by decide +kernel
theorem dX1_startsRoom_0 : decode cX1_startsRoom 0 = .ok (.aload_n 0, 1) := by decide +kernel
theorem dX1_startsRoom_1 : decode cX1_startsRoom 1 = .ok (.iload_n 1, 1) := by decide +kernel
theorem dX1_startsRoom_2 : decode cX1_startsRoom 2 = .ok (.bipush 12, 2) := by decide +kernel
theorem dX1_startsRoom_4 : decode cX1_startsRoom 4 = .ok (.idiv, 1) := by decide +kernel
theorem dX1_startsRoom_5 : decode cX1_startsRoom 5 = .ok (.iconst 1, 1) := by decide +kernel
theorem dX1_startsRoom_6 : decode cX1_startsRoom 6 = .ok (.isub, 1) := by decide +kernel
theorem dX1_startsRoom_7 : decode cX1_startsRoom 7 = .ok (.invokevirtual 50, 3) := by decide +kernel
theorem dX1_startsRoom_10 : decode cX1_startsRoom 10 = .ok (.ifCond .ne 20, 3) := by decide +kernel
theorem dX1_startsRoom_13 : decode cX1_startsRoom 13 = .ok (.aload_n 0, 1) := by decide +kernel
theorem dX1_startsRoom_14 : decode cX1_startsRoom 14 = .ok (.iload_n 1, 1) := by decide +kernel
theorem dX1_startsRoom_15 : decode cX1_startsRoom 15 = .ok (.bipush 12, 2) := by decide +kernel
theorem dX1_startsRoom_17 : decode cX1_startsRoom 17 = .ok (.irem, 1) := by decide +kernel
theorem dX1_startsRoom_18 : decode cX1_startsRoom 18 = .ok (.iconst 1, 1) := by decide +kernel
theorem dX1_startsRoom_19 : decode cX1_startsRoom 19 = .ok (.isub, 1) := by decide +kernel
theorem dX1_startsRoom_20 : decode cX1_startsRoom 20 = .ok (.invokevirtual 53, 3) := by decide +kernel
theorem dX1_startsRoom_23 : decode cX1_startsRoom 23 = .ok (.ifCond .ne 7, 3) := by decide +kernel
theorem dX1_startsRoom_26 : decode cX1_startsRoom 26 = .ok (.iconst 1, 1) := by decide +kernel
theorem dX1_startsRoom_27 : decode cX1_startsRoom 27 = .ok (.goto 4, 3) := by decide +kernel
theorem dX1_startsRoom_30 : decode cX1_startsRoom 30 = .ok (.iconst 0, 1) := by decide +kernel
theorem dX1_startsRoom_31 : decode cX1_startsRoom 31 = .ok (.ireturn, 1) := by decide +kernel
theorem dX1_countRooms_0 : decode cX1_countRooms 0 = .ok (.iconst 0, 1) := by decide +kernel
theorem dX1_countRooms_1 : decode cX1_countRooms 1 = .ok (.istore_n 1, 1) := by decide +kernel
theorem dX1_countRooms_2 : decode cX1_countRooms 2 = .ok (.iconst 0, 1) := by decide +kernel
theorem dX1_countRooms_3 : decode cX1_countRooms 3 = .ok (.istore_n 2, 1) := by decide +kernel
theorem dX1_countRooms_4 : decode cX1_countRooms 4 = .ok (.iload_n 2, 1) := by decide +kernel
theorem dX1_countRooms_5 : decode cX1_countRooms 5 = .ok (.bipush 96, 2) := by decide +kernel
theorem dX1_countRooms_7 : decode cX1_countRooms 7 = .ok (.if_icmp .ge 20, 3) := by decide +kernel
theorem dX1_countRooms_10 : decode cX1_countRooms 10 = .ok (.aload_n 0, 1) := by decide +kernel
theorem dX1_countRooms_11 : decode cX1_countRooms 11 = .ok (.iload_n 2, 1) := by decide +kernel
theorem dX1_countRooms_12 : decode cX1_countRooms 12 = .ok (.invokevirtual 56, 3) := by decide +kernel
theorem dX1_countRooms_15 : decode cX1_countRooms 15 = .ok (.ifCond .eq 6, 3) := by decide +kernel
theorem dX1_countRooms_18 : decode cX1_countRooms 18 = .ok (.iinc 1 1, 3) := by decide +kernel
theorem dX1_countRooms_21 : decode cX1_countRooms 21 = .ok (.iinc 2 1, 3) := by decide +kernel
theorem dX1_countRooms_24 : decode cX1_countRooms 24 = .ok (.goto (-20), 3) := by decide +kernel
theorem dX1_countRooms_27 : decode cX1_countRooms 27 = .ok (.iload_n 1, 1) := by decide +kernel
theorem dX1_countRooms_28 : decode cX1_countRooms 28 = .ok (.ireturn, 1) := by decide +kernel
theorem dX1_isOpenBelow_0 : decode cX1_isOpenBelow 0 = .ok (.iload_n 1, 1) := by decide +kernel
theorem dX1_isOpenBelow_1 : decode cX1_isOpenBelow 1 = .ok (.ifCond .lt 22, 3) := by decide +kernel
theorem dX1_isOpenBelow_4 : decode cX1_isOpenBelow 4 = .ok (.iload_n 1, 1) := by decide +kernel
theorem dX1_isOpenBelow_5 : decode cX1_isOpenBelow 5 = .ok (.bipush 7, 2) := by decide +kernel
theorem dX1_isOpenBelow_7 : decode cX1_isOpenBelow 7 = .ok (.if_icmp .ge 16, 3) := by decide +kernel
theorem dX1_isOpenBelow_10 : decode cX1_isOpenBelow 10 = .ok (.aload_n 0, 1) := by decide +kernel
theorem dX1_isOpenBelow_11 : decode cX1_isOpenBelow 11 = .ok (.getfield 24, 3) := by decide +kernel
theorem dX1_isOpenBelow_14 : decode cX1_isOpenBelow 14 = .ok (.iload_n 1, 1) := by decide +kernel
theorem dX1_isOpenBelow_15 : decode cX1_isOpenBelow 15 = .ok (.iaload, 1) := by decide +kernel
theorem dX1_isOpenBelow_16 : decode cX1_isOpenBelow 16 = .ok (.ifCond .ne 7, 3) := by decide +kernel
theorem dX1_isOpenBelow_19 : decode cX1_isOpenBelow 19 = .ok (.iconst 1, 1) := by decide +kernel
theorem dX1_isOpenBelow_20 : decode cX1_isOpenBelow 20 = .ok (.goto 4, 3) := by decide +kernel
theorem dX1_isOpenBelow_23 : decode cX1_isOpenBelow 23 = .ok (.iconst 0, 1) := by decide +kernel
theorem dX1_isOpenBelow_24 : decode cX1_isOpenBelow 24 = .ok (.ireturn, 1) := by decide +kernel
theorem dX1_isOpenRight_0 : decode cX1_isOpenRight 0 = .ok (.iload_n 1, 1) := by decide +kernel
theorem dX1_isOpenRight_1 : decode cX1_isOpenRight 1 = .ok (.ifCond .lt 25, 3) := by decide +kernel
theorem dX1_isOpenRight_4 : decode cX1_isOpenRight 4 = .ok (.iload_n 1, 1) := by decide +kernel
theorem dX1_isOpenRight_5 : decode cX1_isOpenRight 5 = .ok (.bipush 11, 2) := by decide +kernel
theorem dX1_isOpenRight_7 : decode cX1_isOpenRight 7 = .ok (.if_icmp .ge 19, 3) := by decide +kernel
theorem dX1_isOpenRight_10 : decode cX1_isOpenRight 10 = .ok (.aload_n 0, 1) := by decide +kernel
theorem dX1_isOpenRight_11 : decode cX1_isOpenRight 11 = .ok (.getfield 24, 3) := by decide +kernel
theorem dX1_isOpenRight_14 : decode cX1_isOpenRight 14 = .ok (.bipush 10, 2) := by decide +kernel
theorem dX1_isOpenRight_16 : decode cX1_isOpenRight 16 = .ok (.iload_n 1, 1) := by decide +kernel
theorem dX1_isOpenRight_17 : decode cX1_isOpenRight 17 = .ok (.iadd, 1) := by decide +kernel
theorem dX1_isOpenRight_18 : decode cX1_isOpenRight 18 = .ok (.iaload, 1) := by decide +kernel
theorem dX1_isOpenRight_19 : decode cX1_isOpenRight 19 = .ok (.ifCond .ne 7, 3) := by decide +kernel
theorem dX1_isOpenRight_22 : decode cX1_isOpenRight 22 = .ok (.iconst 1, 1) := by decide +kernel
theorem dX1_isOpenRight_23 : decode cX1_isOpenRight 23 = .ok (.goto 4, 3) := by decide +kernel
theorem dX1_isOpenRight_26 : decode cX1_isOpenRight 26 = .ok (.iconst 0, 1) := by decide +kernel
theorem dX1_isOpenRight_27 : decode cX1_isOpenRight 27 = .ok (.ireturn, 1) := by decide +kernel
theorem dX1_firstOf_0 : decode cX1_firstOf 0 = .ok (.iload_n 2, 1) := by decide +kernel
theorem dX1_firstOf_1 : decode cX1_firstOf 1 = .ok (.istore_n 3, 1) := by decide +kernel
theorem dX1_firstOf_2 : decode cX1_firstOf 2 = .ok (.iload_n 3, 1) := by decide +kernel
theorem dX1_firstOf_3 : decode cX1_firstOf 3 = .ok (.ifCond .le 22, 3) := by decide +kernel
theorem dX1_firstOf_6 : decode cX1_firstOf 6 = .ok (.aload_n 0, 1) := by decide +kernel
theorem dX1_firstOf_7 : decode cX1_firstOf 7 = .ok (.getfield 24, 3) := by decide +kernel
theorem dX1_firstOf_10 : decode cX1_firstOf 10 = .ok (.iload_n 1, 1) := by decide +kernel
theorem dX1_firstOf_11 : decode cX1_firstOf 11 = .ok (.iload_n 3, 1) := by decide +kernel
theorem dX1_firstOf_12 : decode cX1_firstOf 12 = .ok (.iadd, 1) := by decide +kernel
theorem dX1_firstOf_13 : decode cX1_firstOf 13 = .ok (.iconst 1, 1) := by decide +kernel
theorem dX1_firstOf_14 : decode cX1_firstOf 14 = .ok (.isub, 1) := by decide +kernel
theorem dX1_firstOf_15 : decode cX1_firstOf 15 = .ok (.iaload, 1) := by decide +kernel
theorem dX1_firstOf_16 : decode cX1_firstOf 16 = .ok (.ifCond .ne 9, 3) := by decide +kernel
theorem dX1_firstOf_19 : decode cX1_firstOf 19 = .ok (.iinc 3 (-1), 3) := by decide +kernel
theorem dX1_firstOf_22 : decode cX1_firstOf 22 = .ok (.goto (-20), 3) := by decide +kernel
theorem dX1_firstOf_25 : decode cX1_firstOf 25 = .ok (.iload_n 3, 1) := by decide +kernel
theorem dX1_firstOf_26 : decode cX1_firstOf 26 = .ok (.ireturn, 1) := by decide +kernel
theorem dX1_lastOf_0 : decode cX1_lastOf 0 = .ok (.iload_n 2, 1) := by decide +kernel
theorem dX1_lastOf_1 : decode cX1_lastOf 1 = .ok (.istore 4, 2) := by decide +kernel
theorem dX1_lastOf_3 : decode cX1_lastOf 3 = .ok (.iload 4, 2) := by decide +kernel
theorem dX1_lastOf_5 : decode cX1_lastOf 5 = .ok (.iload_n 3, 1) := by decide +kernel
theorem dX1_lastOf_6 : decode cX1_lastOf 6 = .ok (.if_icmp .ge 21, 3) := by decide +kernel
theorem dX1_lastOf_9 : decode cX1_lastOf 9 = .ok (.aload_n 0, 1) := by decide +kernel
theorem dX1_lastOf_10 : decode cX1_lastOf 10 = .ok (.getfield 24, 3) := by decide +kernel
theorem dX1_lastOf_13 : decode cX1_lastOf 13 = .ok (.iload_n 1, 1) := by decide +kernel
theorem dX1_lastOf_14 : decode cX1_lastOf 14 = .ok (.iload 4, 2) := by decide +kernel
theorem dX1_lastOf_16 : decode cX1_lastOf 16 = .ok (.iadd, 1) := by decide +kernel
theorem dX1_lastOf_17 : decode cX1_lastOf 17 = .ok (.iaload, 1) := by decide +kernel
theorem dX1_lastOf_18 : decode cX1_lastOf 18 = .ok (.ifCond .ne 9, 3) := by decide +kernel
theorem dX1_lastOf_21 : decode cX1_lastOf 21 = .ok (.iinc 4 1, 3) := by decide +kernel
theorem dX1_lastOf_24 : decode cX1_lastOf 24 = .ok (.goto (-21), 3) := by decide +kernel
theorem dX1_lastOf_27 : decode cX1_lastOf 27 = .ok (.iload 4, 2) := by decide +kernel
theorem dX1_lastOf_29 : decode cX1_lastOf 29 = .ok (.ireturn, 1) := by decide +kernel
theorem dX2_init_0 : decode cX2_init 0 = .ok (.aload_n 0, 1) := by decide +kernel
theorem dX2_init_1 : decode cX2_init 1 = .ok (.invokespecial 3, 3) := by decide +kernel
theorem dX2_init_4 : decode cX2_init 4 = .ok (.aload_n 0, 1) := by decide +kernel
theorem dX2_init_5 : decode cX2_init 5 = .ok (.bipush 12, 2) := by decide +kernel
theorem dX2_init_7 : decode cX2_init 7 = .ok (.newarray .int, 2) := by decide +kernel
theorem dX2_init_9 : decode cX2_init 9 = .ok (.putfield 9, 3) := by decide +kernel
theorem dX2_init_12 : decode cX2_init 12 = .ok (.aload_n 0, 1) := by decide +kernel
theorem dX2_init_13 : decode cX2_init 13 = .ok (.invokevirtual 15, 3) := by decide +kernel
theorem dX2_init_16 : decode cX2_init 16 = .ok (.return_, 1) := by decide +kernel
theorem dX2_forget_0 : decode cX2_forget 0 = .ok (.aload_n 0, 1) := by decide +kernel
theorem dX2_forget_1 : decode cX2_forget 1 = .ok (.getfield 9, 3) := by decide +kernel
theorem dX2_forget_4 : decode cX2_forget 4 = .ok (.iconst (-1), 1) := by decide +kernel
theorem dX2_forget_5 : decode cX2_forget 5 = .ok (.invokestatic 18, 3) := by decide +kernel
theorem dX2_forget_8 : decode cX2_forget 8 = .ok (.aload_n 0, 1) := by decide +kernel
theorem dX2_forget_9 : decode cX2_forget 9 = .ok (.iconst 0, 1) := by decide +kernel
theorem dX2_forget_10 : decode cX2_forget 10 = .ok (.putfield 24, 3) := by decide +kernel
theorem dX2_forget_13 : decode cX2_forget 13 = .ok (.return_, 1) := by decide +kernel
theorem dX2_copy_0 : decode cX2_copy 0 = .ok (.aload_n 1, 1) := by decide +kernel
theorem dX2_copy_1 : decode cX2_copy 1 = .ok (.getfield 9, 3) := by decide +kernel
theorem dX2_copy_4 : decode cX2_copy 4 = .ok (.iconst 0, 1) := by decide +kernel
theorem dX2_copy_5 : decode cX2_copy 5 = .ok (.aload_n 0, 1) := by decide +kernel
theorem dX2_copy_6 : decode cX2_copy 6 = .ok (.getfield 9, 3) := by decide +kernel
theorem dX2_copy_9 : decode cX2_copy 9 = .ok (.iconst 0, 1) := by decide +kernel
theorem dX2_copy_10 : decode cX2_copy 10 = .ok (.bipush 12, 2) := by decide +kernel
theorem dX2_copy_12 : decode cX2_copy 12 = .ok (.invokestatic 28, 3) := by decide +kernel
theorem dX2_copy_15 : decode cX2_copy 15 = .ok (.aload_n 0, 1) := by decide +kernel
theorem dX2_copy_16 : decode cX2_copy 16 = .ok (.aload_n 1, 1) := by decide +kernel
theorem dX2_copy_17 : decode cX2_copy 17 = .ok (.getfield 24, 3) := by decide +kernel
theorem dX2_copy_20 : decode cX2_copy 20 = .ok (.putfield 24, 3) := by decide +kernel
theorem dX2_copy_23 : decode cX2_copy 23 = .ok (.return_, 1) := by decide +kernel
theorem dX2_crush_0 : decode cX2_crush 0 = .ok (.aload_n 0, 1) := by decide +kernel
theorem dX2_crush_1 : decode cX2_crush 1 = .ok (.invokevirtual 15, 3) := by decide +kernel
theorem dX2_crush_4 : decode cX2_crush 4 = .ok (.iconst 0, 1) := by decide +kernel
theorem dX2_crush_5 : decode cX2_crush 5 = .ok (.istore_n 3, 1) := by decide +kernel
theorem dX2_crush_6 : decode cX2_crush 6 = .ok (.iconst 1, 1) := by decide +kernel
theorem dX2_crush_7 : decode cX2_crush 7 = .ok (.istore 4, 2) := by decide +kernel
theorem dX2_crush_9 : decode cX2_crush 9 = .ok (.iload 4, 2) := by decide +kernel
theorem dX2_crush_11 : decode cX2_crush 11 = .ok (.bipush 13, 2) := by decide +kernel
theorem dX2_crush_13 : decode cX2_crush 13 = .ok (.if_icmp .gt 43, 3) := by decide +kernel
theorem dX2_crush_16 : decode cX2_crush 16 = .ok (.aload_n 2, 1) := by decide +kernel
theorem dX2_crush_17 : decode cX2_crush 17 = .ok (.aload_n 1, 1) := by decide +kernel
theorem dX2_crush_18 : decode cX2_crush 18 = .ok (.invokevirtual 34, 3) := by decide +kernel
theorem dX2_crush_21 : decode cX2_crush 21 = .ok (.aload_n 0, 1) := by decide +kernel
theorem dX2_crush_22 : decode cX2_crush 22 = .ok (.aload_n 1, 1) := by decide +kernel
theorem dX2_crush_23 : decode cX2_crush 23 = .ok (.aload_n 2, 1) := by decide +kernel
theorem dX2_crush_24 : decode cX2_crush 24 = .ok (.iload 4, 2) := by decide +kernel
theorem dX2_crush_26 : decode cX2_crush 26 = .ok (.invokevirtual 40, 3) := by decide +kernel
theorem dX2_crush_29 : decode cX2_crush 29 = .ok (.istore 5, 2) := by decide +kernel
theorem dX2_crush_31 : decode cX2_crush 31 = .ok (.iload 5, 2) := by decide +kernel
theorem dX2_crush_33 : decode cX2_crush 33 = .ok (.ifCond .ne 6, 3) := by decide +kernel
theorem dX2_crush_36 : decode cX2_crush 36 = .ok (.goto 20, 3) := by decide +kernel
theorem dX2_crush_39 : decode cX2_crush 39 = .ok (.iload_n 3, 1) := by decide +kernel
theorem dX2_crush_40 : decode cX2_crush 40 = .ok (.iload 5, 2) := by decide +kernel
theorem dX2_crush_42 : decode cX2_crush 42 = .ok (.iadd, 1) := by decide +kernel
theorem dX2_crush_43 : decode cX2_crush 43 = .ok (.istore_n 3, 1) := by decide +kernel
theorem dX2_crush_44 : decode cX2_crush 44 = .ok (.aload_n 0, 1) := by decide +kernel
theorem dX2_crush_45 : decode cX2_crush 45 = .ok (.iload 4, 2) := by decide +kernel
theorem dX2_crush_47 : decode cX2_crush 47 = .ok (.putfield 24, 3) := by decide +kernel
theorem dX2_crush_50 : decode cX2_crush 50 = .ok (.iinc 4 1, 3) := by decide +kernel
theorem dX2_crush_53 : decode cX2_crush 53 = .ok (.goto (-44), 3) := by decide +kernel
theorem dX2_crush_56 : decode cX2_crush 56 = .ok (.iload_n 3, 1) := by decide +kernel
theorem dX2_crush_57 : decode cX2_crush 57 = .ok (.ireturn, 1) := by decide +kernel
theorem dX2_crushWave_0 : decode cX2_crushWave 0 = .ok (.iconst 0, 1) := by decide +kernel
theorem dX2_crushWave_1 : decode cX2_crushWave 1 = .ok (.istore 4, 2) := by decide +kernel
theorem dX2_crushWave_3 : decode cX2_crushWave 3 = .ok (.iconst 0, 1) := by decide +kernel
theorem dX2_crushWave_4 : decode cX2_crushWave 4 = .ok (.istore 5, 2) := by decide +kernel
theorem dX2_crushWave_6 : decode cX2_crushWave 6 = .ok (.iload 5, 2) := by decide +kernel
theorem dX2_crushWave_8 : decode cX2_crushWave 8 = .ok (.aload_n 1, 1) := by decide +kernel
theorem dX2_crushWave_9 : decode cX2_crushWave 9 = .ok (.getfield 44, 3) := by decide +kernel
theorem dX2_crushWave_12 : decode cX2_crushWave 12 = .ok (.if_icmp .ge 38, 3) := by decide +kernel
theorem dX2_crushWave_15 : decode cX2_crushWave 15 = .ok (.aload_n 2, 1) := by decide +kernel
theorem dX2_crushWave_16 : decode cX2_crushWave 16 = .ok (.aload_n 1, 1) := by decide +kernel
theorem dX2_crushWave_17 : decode cX2_crushWave 17 = .ok (.iload 5, 2) := by decide +kernel
theorem dX2_crushWave_19 : decode cX2_crushWave 19 = .ok (.invokevirtual 49, 3) := by decide +kernel
theorem dX2_crushWave_22 : decode cX2_crushWave 22 = .ok (.ifCond .eq 22, 3) := by decide +kernel
theorem dX2_crushWave_25 : decode cX2_crushWave 25 = .ok (.aload_n 1, 1) := by decide +kernel
theorem dX2_crushWave_26 : decode cX2_crushWave 26 = .ok (.getfield 53, 3) := by decide +kernel
theorem dX2_crushWave_29 : decode cX2_crushWave 29 = .ok (.iload 5, 2) := by decide +kernel
theorem dX2_crushWave_31 : decode cX2_crushWave 31 = .ok (.iconst 0, 1) := by decide +kernel
theorem dX2_crushWave_32 : decode cX2_crushWave 32 = .ok (.iastore, 1) := by decide +kernel
theorem dX2_crushWave_33 : decode cX2_crushWave 33 = .ok (.aload_n 0, 1) := by decide +kernel
theorem dX2_crushWave_34 : decode cX2_crushWave 34 = .ok (.getfield 9, 3) := by decide +kernel
theorem dX2_crushWave_37 : decode cX2_crushWave 37 = .ok (.iload 5, 2) := by decide +kernel
theorem dX2_crushWave_39 : decode cX2_crushWave 39 = .ok (.iload_n 3, 1) := by decide +kernel
theorem dX2_crushWave_40 : decode cX2_crushWave 40 = .ok (.iastore, 1) := by decide +kernel
theorem dX2_crushWave_41 : decode cX2_crushWave 41 = .ok (.iinc 4 1, 3) := by decide +kernel
theorem dX2_crushWave_44 : decode cX2_crushWave 44 = .ok (.iinc 5 1, 3) := by decide +kernel
theorem dX2_crushWave_47 : decode cX2_crushWave 47 = .ok (.goto (-41), 3) := by decide +kernel
theorem dX2_crushWave_50 : decode cX2_crushWave 50 = .ok (.iload 4, 2) := by decide +kernel
theorem dX2_crushWave_52 : decode cX2_crushWave 52 = .ok (.ireturn, 1) := by decide +kernel
theorem dX2_countInWave_0 : decode cX2_countInWave 0 = .ok (.iconst 0, 1) := by decide +kernel
theorem dX2_countInWave_1 : decode cX2_countInWave 1 = .ok (.istore_n 2, 1) := by decide +kernel
theorem dX2_countInWave_2 : decode cX2_countInWave 2 = .ok (.iconst 0, 1) := by decide +kernel
theorem dX2_countInWave_3 : decode cX2_countInWave 3 = .ok (.istore_n 3, 1) := by decide +kernel
theorem dX2_countInWave_4 : decode cX2_countInWave 4 = .ok (.iload_n 3, 1) := by decide +kernel
theorem dX2_countInWave_5 : decode cX2_countInWave 5 = .ok (.bipush 12, 2) := by decide +kernel
theorem dX2_countInWave_7 : decode cX2_countInWave 7 = .ok (.if_icmp .ge 22, 3) := by decide +kernel
theorem dX2_countInWave_10 : decode cX2_countInWave 10 = .ok (.aload_n 0, 1) := by decide +kernel
theorem dX2_countInWave_11 : decode cX2_countInWave 11 = .ok (.getfield 9, 3) := by decide +kernel
theorem dX2_countInWave_14 : decode cX2_countInWave 14 = .ok (.iload_n 3, 1) := by decide +kernel
theorem dX2_countInWave_15 : decode cX2_countInWave 15 = .ok (.iaload, 1) := by decide +kernel
theorem dX2_countInWave_16 : decode cX2_countInWave 16 = .ok (.iload_n 1, 1) := by decide +kernel
theorem dX2_countInWave_17 : decode cX2_countInWave 17 = .ok (.if_icmp .ne 6, 3) := by decide +kernel
theorem dX2_countInWave_20 : decode cX2_countInWave 20 = .ok (.iinc 2 1, 3) := by decide +kernel
theorem dX2_countInWave_23 : decode cX2_countInWave 23 = .ok (.iinc 3 1, 3) := by decide +kernel
theorem dX2_countInWave_26 : decode cX2_countInWave 26 = .ok (.goto (-22), 3) := by decide +kernel
theorem dX2_countInWave_29 : decode cX2_countInWave 29 = .ok (.iload_n 2, 1) := by decide +kernel
theorem dX2_countInWave_30 : decode cX2_countInWave 30 = .ok (.ireturn, 1) := by decide +kernel
theorem dX3_init_0 : decode cX3_init 0 = .ok (.aload_n 0, 1) := by decide +kernel
theorem dX3_init_1 : decode cX3_init 1 = .ok (.invokespecial 3, 3) := by decide +kernel
theorem dX3_init_4 : decode cX3_init 4 = .ok (.aload_n 0, 1) := by decide +kernel
theorem dX3_init_5 : decode cX3_init 5 = .ok (.bipush 6, 2) := by decide +kernel
theorem dX3_init_7 : decode cX3_init 7 = .ok (.anewarray 9, 3) := by decide +kernel
theorem dX3_init_10 : decode cX3_init 10 = .ok (.putfield 11, 3) := by decide +kernel
theorem dX3_init_13 : decode cX3_init 13 = .ok (.iconst 0, 1) := by decide +kernel
theorem dX3_init_14 : decode cX3_init 14 = .ok (.istore_n 1, 1) := by decide +kernel
theorem dX3_init_15 : decode cX3_init 15 = .ok (.iload_n 1, 1) := by decide +kernel
theorem dX3_init_16 : decode cX3_init 16 = .ok (.bipush 6, 2) := by decide +kernel
theorem dX3_init_18 : decode cX3_init 18 = .ok (.if_icmp .ge 22, 3) := by decide +kernel
theorem dX3_init_21 : decode cX3_init 21 = .ok (.aload_n 0, 1) := by decide +kernel
theorem dX3_init_22 : decode cX3_init 22 = .ok (.getfield 11, 3) := by decide +kernel
theorem dX3_init_25 : decode cX3_init 25 = .ok (.iload_n 1, 1) := by decide +kernel
theorem dX3_init_26 : decode cX3_init 26 = .ok (.new 9, 3) := by decide +kernel
theorem dX3_init_29 : decode cX3_init 29 = .ok (.dup, 1) := by decide +kernel
theorem dX3_init_30 : decode cX3_init 30 = .ok (.invokespecial 17, 3) := by decide +kernel
theorem dX3_init_33 : decode cX3_init 33 = .ok (.aastore, 1) := by decide +kernel
theorem dX3_init_34 : decode cX3_init 34 = .ok (.iinc 1 1, 3) := by decide +kernel
theorem dX3_init_37 : decode cX3_init 37 = .ok (.goto (-22), 3) := by decide +kernel
theorem dX3_init_40 : decode cX3_init 40 = .ok (.return_, 1) := by decide +kernel
theorem dX3_keep_0 : decode cX3_keep 0 = .ok (.aload_n 0, 1) := by decide +kernel
theorem dX3_keep_1 : decode cX3_keep 1 = .ok (.getfield 11, 3) := by decide +kernel
theorem dX3_keep_4 : decode cX3_keep 4 = .ok (.aload_n 0, 1) := by decide +kernel
theorem dX3_keep_5 : decode cX3_keep 5 = .ok (.getfield 18, 3) := by decide +kernel
theorem dX3_keep_8 : decode cX3_keep 8 = .ok (.aaload, 1) := by decide +kernel
theorem dX3_keep_9 : decode cX3_keep 9 = .ok (.aload_n 1, 1) := by decide +kernel
theorem dX3_keep_10 : decode cX3_keep 10 = .ok (.invokevirtual 22, 3) := by decide +kernel
theorem dX3_keep_13 : decode cX3_keep 13 = .ok (.aload_n 0, 1) := by decide +kernel
theorem dX3_keep_14 : decode cX3_keep 14 = .ok (.aload_n 0, 1) := by decide +kernel
theorem dX3_keep_15 : decode cX3_keep 15 = .ok (.getfield 18, 3) := by decide +kernel
theorem dX3_keep_18 : decode cX3_keep 18 = .ok (.iconst 1, 1) := by decide +kernel
theorem dX3_keep_19 : decode cX3_keep 19 = .ok (.iadd, 1) := by decide +kernel
theorem dX3_keep_20 : decode cX3_keep 20 = .ok (.bipush 6, 2) := by decide +kernel
theorem dX3_keep_22 : decode cX3_keep 22 = .ok (.irem, 1) := by decide +kernel
theorem dX3_keep_23 : decode cX3_keep 23 = .ok (.putfield 18, 3) := by decide +kernel
theorem dX3_keep_26 : decode cX3_keep 26 = .ok (.aload_n 0, 1) := by decide +kernel
theorem dX3_keep_27 : decode cX3_keep 27 = .ok (.aload_n 0, 1) := by decide +kernel
theorem dX3_keep_28 : decode cX3_keep 28 = .ok (.getfield 26, 3) := by decide +kernel
theorem dX3_keep_31 : decode cX3_keep 31 = .ok (.iconst 1, 1) := by decide +kernel
theorem dX3_keep_32 : decode cX3_keep 32 = .ok (.iadd, 1) := by decide +kernel
theorem dX3_keep_33 : decode cX3_keep 33 = .ok (.bipush 6, 2) := by decide +kernel
theorem dX3_keep_35 : decode cX3_keep 35 = .ok (.invokestatic 29, 3) := by decide +kernel
theorem dX3_keep_38 : decode cX3_keep 38 = .ok (.putfield 26, 3) := by decide +kernel
theorem dX3_keep_41 : decode cX3_keep 41 = .ok (.return_, 1) := by decide +kernel
theorem dX3_giveBack_0 : decode cX3_giveBack 0 = .ok (.aload_n 0, 1) := by decide +kernel
theorem dX3_giveBack_1 : decode cX3_giveBack 1 = .ok (.getfield 26, 3) := by decide +kernel
theorem dX3_giveBack_4 : decode cX3_giveBack 4 = .ok (.ifCond .le 42, 3) := by decide +kernel
theorem dX3_giveBack_7 : decode cX3_giveBack 7 = .ok (.aload_n 0, 1) := by decide +kernel
theorem dX3_giveBack_8 : decode cX3_giveBack 8 = .ok (.aload_n 0, 1) := by decide +kernel
theorem dX3_giveBack_9 : decode cX3_giveBack 9 = .ok (.getfield 18, 3) := by decide +kernel
theorem dX3_giveBack_12 : decode cX3_giveBack 12 = .ok (.bipush 6, 2) := by decide +kernel
theorem dX3_giveBack_14 : decode cX3_giveBack 14 = .ok (.iadd, 1) := by decide +kernel
theorem dX3_giveBack_15 : decode cX3_giveBack 15 = .ok (.iconst 1, 1) := by decide +kernel
theorem dX3_giveBack_16 : decode cX3_giveBack 16 = .ok (.isub, 1) := by decide +kernel
theorem dX3_giveBack_17 : decode cX3_giveBack 17 = .ok (.bipush 6, 2) := by decide +kernel
theorem dX3_giveBack_19 : decode cX3_giveBack 19 = .ok (.irem, 1) := by decide +kernel
theorem dX3_giveBack_20 : decode cX3_giveBack 20 = .ok (.putfield 18, 3) := by decide +kernel
theorem dX3_giveBack_23 : decode cX3_giveBack 23 = .ok (.aload_n 0, 1) := by decide +kernel
theorem dX3_giveBack_24 : decode cX3_giveBack 24 = .ok (.dup, 1) := by decide +kernel
theorem dX3_giveBack_25 : decode cX3_giveBack 25 = .ok (.getfield 26, 3) := by decide +kernel
theorem dX3_giveBack_28 : decode cX3_giveBack 28 = .ok (.iconst 1, 1) := by decide +kernel
theorem dX3_giveBack_29 : decode cX3_giveBack 29 = .ok (.isub, 1) := by decide +kernel
theorem dX3_giveBack_30 : decode cX3_giveBack 30 = .ok (.putfield 26, 3) := by decide +kernel
theorem dX3_giveBack_33 : decode cX3_giveBack 33 = .ok (.aload_n 1, 1) := by decide +kernel
theorem dX3_giveBack_34 : decode cX3_giveBack 34 = .ok (.aload_n 0, 1) := by decide +kernel
theorem dX3_giveBack_35 : decode cX3_giveBack 35 = .ok (.getfield 11, 3) := by decide +kernel
theorem dX3_giveBack_38 : decode cX3_giveBack 38 = .ok (.aload_n 0, 1) := by decide +kernel
theorem dX3_giveBack_39 : decode cX3_giveBack 39 = .ok (.getfield 18, 3) := by decide +kernel
theorem dX3_giveBack_42 : decode cX3_giveBack 42 = .ok (.aaload, 1) := by decide +kernel
theorem dX3_giveBack_43 : decode cX3_giveBack 43 = .ok (.invokevirtual 22, 3) := by decide +kernel
theorem dX3_giveBack_46 : decode cX3_giveBack 46 = .ok (.return_, 1) := by decide +kernel
theorem dX4_init_0 : decode cX4_init 0 = .ok (.aload_n 0, 1) := by decide +kernel
theorem dX4_init_1 : decode cX4_init 1 = .ok (.invokespecial 3, 3) := by decide +kernel
theorem dX4_init_4 : decode cX4_init 4 = .ok (.aload_n 0, 1) := by decide +kernel
theorem dX4_init_5 : decode cX4_init 5 = .ok (.bipush 120, 2) := by decide +kernel
theorem dX4_init_7 : decode cX4_init 7 = .ok (.newarray .int, 2) := by decide +kernel
theorem dX4_init_9 : decode cX4_init 9 = .ok (.putfield 9, 3) := by decide +kernel
theorem dX4_init_12 : decode cX4_init 12 = .ok (.return_, 1) := by decide +kernel
theorem dX4_add_0 : decode cX4_add 0 = .ok (.aload_n 0, 1) := by decide +kernel
theorem dX4_add_1 : decode cX4_add 1 = .ok (.getfield 15, 3) := by decide +kernel
theorem dX4_add_4 : decode cX4_add 4 = .ok (.bipush 120, 2) := by decide +kernel
theorem dX4_add_6 : decode cX4_add 6 = .ok (.if_icmp .ge 23, 3) := by decide +kernel
theorem dX4_add_9 : decode cX4_add 9 = .ok (.aload_n 0, 1) := by decide +kernel
theorem dX4_add_10 : decode cX4_add 10 = .ok (.getfield 9, 3) := by decide +kernel
theorem dX4_add_13 : decode cX4_add 13 = .ok (.aload_n 0, 1) := by decide +kernel
theorem dX4_add_14 : decode cX4_add 14 = .ok (.getfield 15, 3) := by decide +kernel
theorem dX4_add_17 : decode cX4_add 17 = .ok (.iload_n 1, 1) := by decide +kernel
theorem dX4_add_18 : decode cX4_add 18 = .ok (.iastore, 1) := by decide +kernel
theorem dX4_add_19 : decode cX4_add 19 = .ok (.aload_n 0, 1) := by decide +kernel
theorem dX4_add_20 : decode cX4_add 20 = .ok (.dup, 1) := by decide +kernel
theorem dX4_add_21 : decode cX4_add 21 = .ok (.getfield 15, 3) := by decide +kernel
theorem dX4_add_24 : decode cX4_add 24 = .ok (.iconst 1, 1) := by decide +kernel
theorem dX4_add_25 : decode cX4_add 25 = .ok (.iadd, 1) := by decide +kernel
theorem dX4_add_26 : decode cX4_add 26 = .ok (.putfield 15, 3) := by decide +kernel
theorem dX4_add_29 : decode cX4_add 29 = .ok (.return_, 1) := by decide +kernel
theorem dX4_read_0 : decode cX4_read 0 = .ok (.aload_n 0, 1) := by decide +kernel
theorem dX4_read_1 : decode cX4_read 1 = .ok (.iconst 0, 1) := by decide +kernel
theorem dX4_read_2 : decode cX4_read 2 = .ok (.putfield 19, 3) := by decide +kernel
theorem dX4_read_5 : decode cX4_read 5 = .ok (.aload_n 0, 1) := by decide +kernel
theorem dX4_read_6 : decode cX4_read 6 = .ok (.iconst (-1), 1) := by decide +kernel
theorem dX4_read_7 : decode cX4_read 7 = .ok (.putfield 22, 3) := by decide +kernel
theorem dX4_read_10 : decode cX4_read 10 = .ok (.aload_n 0, 1) := by decide +kernel
theorem dX4_read_11 : decode cX4_read 11 = .ok (.invokevirtual 25, 3) := by decide +kernel
theorem dX4_read_14 : decode cX4_read 14 = .ok (.aload_n 0, 1) := by decide +kernel
theorem dX4_read_15 : decode cX4_read 15 = .ok (.getfield 19, 3) := by decide +kernel
theorem dX4_read_18 : decode cX4_read 18 = .ok (.aload_n 0, 1) := by decide +kernel
theorem dX4_read_19 : decode cX4_read 19 = .ok (.getfield 15, 3) := by decide +kernel
theorem dX4_read_22 : decode cX4_read 22 = .ok (.if_icmp .lt 11, 3) := by decide +kernel
theorem dX4_read_25 : decode cX4_read 25 = .ok (.aload_n 0, 1) := by decide +kernel
theorem dX4_read_26 : decode cX4_read 26 = .ok (.aload_n 0, 1) := by decide +kernel
theorem dX4_read_27 : decode cX4_read 27 = .ok (.getfield 15, 3) := by decide +kernel
theorem dX4_read_30 : decode cX4_read 30 = .ok (.invokevirtual 28, 3) := by decide +kernel
theorem dX4_read_33 : decode cX4_read 33 = .ok (.iconst 0, 1) := by decide +kernel
theorem dX4_read_34 : decode cX4_read 34 = .ok (.istore_n 2, 1) := by decide +kernel
theorem dX4_read_35 : decode cX4_read 35 = .ok (.iload_n 2, 1) := by decide +kernel
theorem dX4_read_36 : decode cX4_read 36 = .ok (.bipush 120, 2) := by decide +kernel
theorem dX4_read_38 : decode cX4_read 38 = .ok (.if_icmp .ge 37, 3) := by decide +kernel
theorem dX4_read_41 : decode cX4_read 41 = .ok (.aload_n 0, 1) := by decide +kernel
theorem dX4_read_42 : decode cX4_read 42 = .ok (.getfield 19, 3) := by decide +kernel
theorem dX4_read_45 : decode cX4_read 45 = .ok (.aload_n 0, 1) := by decide +kernel
theorem dX4_read_46 : decode cX4_read 46 = .ok (.getfield 15, 3) := by decide +kernel
theorem dX4_read_49 : decode cX4_read 49 = .ok (.if_icmp .ge 26, 3) := by decide +kernel
theorem dX4_read_52 : decode cX4_read 52 = .ok (.aload_n 0, 1) := by decide +kernel
theorem dX4_read_53 : decode cX4_read 53 = .ok (.getfield 22, 3) := by decide +kernel
theorem dX4_read_56 : decode cX4_read 56 = .ok (.iconst (-1), 1) := by decide +kernel
theorem dX4_read_57 : decode cX4_read 57 = .ok (.if_icmp .ne 18, 3) := by decide +kernel
theorem dX4_read_60 : decode cX4_read 60 = .ok (.aload_n 0, 1) := by decide +kernel
theorem dX4_read_61 : decode cX4_read 61 = .ok (.aload_n 1, 1) := by decide +kernel
theorem dX4_read_62 : decode cX4_read 62 = .ok (.invokevirtual 32, 3) := by decide +kernel
theorem dX4_read_65 : decode cX4_read 65 = .ok (.aload_n 0, 1) := by decide +kernel
theorem dX4_read_66 : decode cX4_read 66 = .ok (.invokevirtual 25, 3) := by decide +kernel
theorem dX4_read_69 : decode cX4_read 69 = .ok (.iinc 2 1, 3) := by decide +kernel
theorem dX4_read_72 : decode cX4_read 72 = .ok (.goto (-37), 3) := by decide +kernel
theorem dX4_read_75 : decode cX4_read 75 = .ok (.aload_n 0, 1) := by decide +kernel
theorem dX4_read_76 : decode cX4_read 76 = .ok (.getfield 22, 3) := by decide +kernel
theorem dX4_read_79 : decode cX4_read 79 = .ok (.ireturn, 1) := by decide +kernel
theorem dX4_readOrder_0 : decode cX4_readOrder 0 = .ok (.aload_n 0, 1) := by decide +kernel
theorem dX4_readOrder_1 : decode cX4_readOrder 1 = .ok (.getfield 19, 3) := by decide +kernel
theorem dX4_readOrder_4 : decode cX4_readOrder 4 = .ok (.istore_n 2, 1) := by decide +kernel
theorem dX4_readOrder_5 : decode cX4_readOrder 5 = .ok (.aload_n 0, 1) := by decide +kernel
theorem dX4_readOrder_6 : decode cX4_readOrder 6 = .ok (.dup, 1) := by decide +kernel
theorem dX4_readOrder_7 : decode cX4_readOrder 7 = .ok (.getfield 19, 3) := by decide +kernel
theorem dX4_readOrder_10 : decode cX4_readOrder 10 = .ok (.iconst 1, 1) := by decide +kernel
theorem dX4_readOrder_11 : decode cX4_readOrder 11 = .ok (.iadd, 1) := by decide +kernel
theorem dX4_readOrder_12 : decode cX4_readOrder 12 = .ok (.putfield 19, 3) := by decide +kernel
theorem dX4_readOrder_15 : decode cX4_readOrder 15 = .ok (.aload_n 0, 1) := by decide +kernel
theorem dX4_readOrder_16 : decode cX4_readOrder 16 = .ok (.getfield 9, 3) := by decide +kernel
theorem dX4_readOrder_19 : decode cX4_readOrder 19 = .ok (.iload_n 2, 1) := by decide +kernel
theorem dX4_readOrder_20 : decode cX4_readOrder 20 = .ok (.iaload, 1) := by decide +kernel
theorem dX4_readOrder_21 : decode cX4_readOrder 21 = .ok (.lookupswitch 142 #[(33, 122), (45, 82), (47, 96), (112, 59), (119, 71), (120, 111)], 59) := by decide +kernel
theorem dX4_readOrder_80 : decode cX4_readOrder 80 = .ok (.aload_n 0, 1) := by decide +kernel
theorem dX4_readOrder_81 : decode cX4_readOrder 81 = .ok (.aload_n 1, 1) := by decide +kernel
theorem dX4_readOrder_82 : decode cX4_readOrder 82 = .ok (.getfield 36, 3) := by decide +kernel
theorem dX4_readOrder_85 : decode cX4_readOrder 85 = .ok (.iload_n 2, 1) := by decide +kernel
theorem dX4_readOrder_86 : decode cX4_readOrder 86 = .ok (.invokevirtual 42, 3) := by decide +kernel
theorem dX4_readOrder_89 : decode cX4_readOrder 89 = .ok (.goto 79, 3) := by decide +kernel
theorem dX4_readOrder_92 : decode cX4_readOrder 92 = .ok (.aload_n 0, 1) := by decide +kernel
theorem dX4_readOrder_93 : decode cX4_readOrder 93 = .ok (.aload_n 1, 1) := by decide +kernel
theorem dX4_readOrder_94 : decode cX4_readOrder 94 = .ok (.getfield 36, 3) := by decide +kernel
theorem dX4_readOrder_97 : decode cX4_readOrder 97 = .ok (.invokevirtual 46, 3) := by decide +kernel
theorem dX4_readOrder_100 : decode cX4_readOrder 100 = .ok (.goto 68, 3) := by decide +kernel
theorem dX4_readOrder_103 : decode cX4_readOrder 103 = .ok (.aload_n 0, 1) := by decide +kernel
theorem dX4_readOrder_104 : decode cX4_readOrder 104 = .ok (.aload_n 1, 1) := by decide +kernel
theorem dX4_readOrder_105 : decode cX4_readOrder 105 = .ok (.getfield 36, 3) := by decide +kernel
theorem dX4_readOrder_108 : decode cX4_readOrder 108 = .ok (.iconst 0, 1) := by decide +kernel
theorem dX4_readOrder_109 : decode cX4_readOrder 109 = .ok (.bipush 6, 2) := by decide +kernel
theorem dX4_readOrder_111 : decode cX4_readOrder 111 = .ok (.invokevirtual 50, 3) := by decide +kernel
theorem dX4_readOrder_114 : decode cX4_readOrder 114 = .ok (.goto 54, 3) := by decide +kernel
theorem dX4_readOrder_117 : decode cX4_readOrder 117 = .ok (.aload_n 0, 1) := by decide +kernel
theorem dX4_readOrder_118 : decode cX4_readOrder 118 = .ok (.aload_n 1, 1) := by decide +kernel
theorem dX4_readOrder_119 : decode cX4_readOrder 119 = .ok (.getfield 36, 3) := by decide +kernel
theorem dX4_readOrder_122 : decode cX4_readOrder 122 = .ok (.bipush 10, 2) := by decide +kernel
theorem dX4_readOrder_124 : decode cX4_readOrder 124 = .ok (.bipush 10, 2) := by decide +kernel
theorem dX4_readOrder_126 : decode cX4_readOrder 126 = .ok (.invokevirtual 50, 3) := by decide +kernel
theorem dX4_readOrder_129 : decode cX4_readOrder 129 = .ok (.goto 39, 3) := by decide +kernel
theorem dX4_readOrder_132 : decode cX4_readOrder 132 = .ok (.aload_n 0, 1) := by decide +kernel
theorem dX4_readOrder_133 : decode cX4_readOrder 133 = .ok (.aload_n 1, 1) := by decide +kernel
theorem dX4_readOrder_134 : decode cX4_readOrder 134 = .ok (.getfield 36, 3) := by decide +kernel
theorem dX4_readOrder_137 : decode cX4_readOrder 137 = .ok (.invokevirtual 54, 3) := by decide +kernel
theorem dX4_readOrder_140 : decode cX4_readOrder 140 = .ok (.goto 28, 3) := by decide +kernel
theorem dX4_readOrder_143 : decode cX4_readOrder 143 = .ok (.aload_n 0, 1) := by decide +kernel
theorem dX4_readOrder_144 : decode cX4_readOrder 144 = .ok (.invokevirtual 57, 3) := by decide +kernel
theorem dX4_readOrder_147 : decode cX4_readOrder 147 = .ok (.aload_n 0, 1) := by decide +kernel
theorem dX4_readOrder_148 : decode cX4_readOrder 148 = .ok (.getfield 22, 3) := by decide +kernel
theorem dX4_readOrder_151 : decode cX4_readOrder 151 = .ok (.iconst (-1), 1) := by decide +kernel
theorem dX4_readOrder_152 : decode cX4_readOrder 152 = .ok (.if_icmp .ne 16, 3) := by decide +kernel
theorem dX4_readOrder_155 : decode cX4_readOrder 155 = .ok (.aload_n 1, 1) := by decide +kernel
theorem dX4_readOrder_156 : decode cX4_readOrder 156 = .ok (.invokevirtual 60, 3) := by decide +kernel
theorem dX4_readOrder_159 : decode cX4_readOrder 159 = .ok (.pop, 1) := by decide +kernel
theorem dX4_readOrder_160 : decode cX4_readOrder 160 = .ok (.goto 8, 3) := by decide +kernel
theorem dX4_readOrder_163 : decode cX4_readOrder 163 = .ok (.aload_n 0, 1) := by decide +kernel
theorem dX4_readOrder_164 : decode cX4_readOrder 164 = .ok (.iload_n 2, 1) := by decide +kernel
theorem dX4_readOrder_165 : decode cX4_readOrder 165 = .ok (.invokevirtual 28, 3) := by decide +kernel
theorem dX4_readOrder_168 : decode cX4_readOrder 168 = .ok (.return_, 1) := by decide +kernel
theorem dX4_readPillar_0 : decode cX4_readPillar 0 = .ok (.aload_n 1, 1) := by decide +kernel
theorem dX4_readPillar_1 : decode cX4_readPillar 1 = .ok (.getfield 64, 3) := by decide +kernel
theorem dX4_readPillar_4 : decode cX4_readPillar 4 = .ok (.bipush 12, 2) := by decide +kernel
theorem dX4_readPillar_6 : decode cX4_readPillar 6 = .ok (.if_icmp .lt 8, 3) := by decide +kernel
theorem dX4_readPillar_9 : decode cX4_readPillar 9 = .ok (.aload_n 0, 1) := by decide +kernel
theorem dX4_readPillar_10 : decode cX4_readPillar 10 = .ok (.iload_n 2, 1) := by decide +kernel
theorem dX4_readPillar_11 : decode cX4_readPillar 11 = .ok (.invokevirtual 28, 3) := by decide +kernel
theorem dX4_readPillar_14 : decode cX4_readPillar 14 = .ok (.aload_n 0, 1) := by decide +kernel
theorem dX4_readPillar_15 : decode cX4_readPillar 15 = .ok (.invokevirtual 69, 3) := by decide +kernel
theorem dX4_readPillar_18 : decode cX4_readPillar 18 = .ok (.istore_n 3, 1) := by decide +kernel
theorem dX4_readPillar_19 : decode cX4_readPillar 19 = .ok (.aload_n 0, 1) := by decide +kernel
theorem dX4_readPillar_20 : decode cX4_readPillar 20 = .ok (.sipush 999, 3) := by decide +kernel
theorem dX4_readPillar_23 : decode cX4_readPillar 23 = .ok (.invokevirtual 72, 3) := by decide +kernel
theorem dX4_readPillar_26 : decode cX4_readPillar 26 = .ok (.istore 4, 2) := by decide +kernel
theorem dX4_readPillar_28 : decode cX4_readPillar 28 = .ok (.aload_n 0, 1) := by decide +kernel
theorem dX4_readPillar_29 : decode cX4_readPillar 29 = .ok (.invokevirtual 57, 3) := by decide +kernel
theorem dX4_readPillar_32 : decode cX4_readPillar 32 = .ok (.aload_n 1, 1) := by decide +kernel
theorem dX4_readPillar_33 : decode cX4_readPillar 33 = .ok (.iload_n 3, 1) := by decide +kernel
theorem dX4_readPillar_34 : decode cX4_readPillar 34 = .ok (.invokevirtual 76, 3) := by decide +kernel
theorem dX4_readPillar_37 : decode cX4_readPillar 37 = .ok (.ifCond .eq 8, 3) := by decide +kernel
theorem dX4_readPillar_40 : decode cX4_readPillar 40 = .ok (.aload_n 0, 1) := by decide +kernel
theorem dX4_readPillar_41 : decode cX4_readPillar 41 = .ok (.iload_n 2, 1) := by decide +kernel
theorem dX4_readPillar_42 : decode cX4_readPillar 42 = .ok (.invokevirtual 28, 3) := by decide +kernel
theorem dX4_readPillar_45 : decode cX4_readPillar 45 = .ok (.aload_n 0, 1) := by decide +kernel
theorem dX4_readPillar_46 : decode cX4_readPillar 46 = .ok (.getfield 22, 3) := by decide +kernel
theorem dX4_readPillar_49 : decode cX4_readPillar 49 = .ok (.iconst (-1), 1) := by decide +kernel
theorem dX4_readPillar_50 : decode cX4_readPillar 50 = .ok (.if_icmp .ne 10, 3) := by decide +kernel
theorem dX4_readPillar_53 : decode cX4_readPillar 53 = .ok (.aload_n 1, 1) := by decide +kernel
theorem dX4_readPillar_54 : decode cX4_readPillar 54 = .ok (.iload_n 3, 1) := by decide +kernel
theorem dX4_readPillar_55 : decode cX4_readPillar 55 = .ok (.iload 4, 2) := by decide +kernel
theorem dX4_readPillar_57 : decode cX4_readPillar 57 = .ok (.invokevirtual 80, 3) := by decide +kernel
theorem dX4_readPillar_60 : decode cX4_readPillar 60 = .ok (.return_, 1) := by decide +kernel
theorem dX4_readWeight_0 : decode cX4_readWeight 0 = .ok (.aload_n 0, 1) := by decide +kernel
theorem dX4_readWeight_1 : decode cX4_readWeight 1 = .ok (.invokevirtual 69, 3) := by decide +kernel
theorem dX4_readWeight_4 : decode cX4_readWeight 4 = .ok (.istore_n 2, 1) := by decide +kernel
theorem dX4_readWeight_5 : decode cX4_readWeight 5 = .ok (.aload_n 0, 1) := by decide +kernel
theorem dX4_readWeight_6 : decode cX4_readWeight 6 = .ok (.bipush 9, 2) := by decide +kernel
theorem dX4_readWeight_8 : decode cX4_readWeight 8 = .ok (.invokevirtual 72, 3) := by decide +kernel
theorem dX4_readWeight_11 : decode cX4_readWeight 11 = .ok (.istore_n 3, 1) := by decide +kernel
theorem dX4_readWeight_12 : decode cX4_readWeight 12 = .ok (.aload_n 0, 1) := by decide +kernel
theorem dX4_readWeight_13 : decode cX4_readWeight 13 = .ok (.invokevirtual 57, 3) := by decide +kernel
theorem dX4_readWeight_16 : decode cX4_readWeight 16 = .ok (.aload_n 0, 1) := by decide +kernel
theorem dX4_readWeight_17 : decode cX4_readWeight 17 = .ok (.getfield 22, 3) := by decide +kernel
theorem dX4_readWeight_20 : decode cX4_readWeight 20 = .ok (.iconst (-1), 1) := by decide +kernel
theorem dX4_readWeight_21 : decode cX4_readWeight 21 = .ok (.if_icmp .ne 10, 3) := by decide +kernel
theorem dX4_readWeight_24 : decode cX4_readWeight 24 = .ok (.aload_n 1, 1) := by decide +kernel
theorem dX4_readWeight_25 : decode cX4_readWeight 25 = .ok (.getfield 84, 3) := by decide +kernel
theorem dX4_readWeight_28 : decode cX4_readWeight 28 = .ok (.iload_n 2, 1) := by decide +kernel
theorem dX4_readWeight_29 : decode cX4_readWeight 29 = .ok (.iload_n 3, 1) := by decide +kernel
theorem dX4_readWeight_30 : decode cX4_readWeight 30 = .ok (.iastore, 1) := by decide +kernel
theorem dX4_readWeight_31 : decode cX4_readWeight 31 = .ok (.return_, 1) := by decide +kernel
theorem dX4_readWall_0 : decode cX4_readWall 0 = .ok (.iload_n 2, 1) := by decide +kernel
theorem dX4_readWall_1 : decode cX4_readWall 1 = .ok (.aload_n 0, 1) := by decide +kernel
theorem dX4_readWall_2 : decode cX4_readWall 2 = .ok (.iload_n 3, 1) := by decide +kernel
theorem dX4_readWall_3 : decode cX4_readWall 3 = .ok (.invokevirtual 72, 3) := by decide +kernel
theorem dX4_readWall_6 : decode cX4_readWall 6 = .ok (.iadd, 1) := by decide +kernel
theorem dX4_readWall_7 : decode cX4_readWall 7 = .ok (.istore 4, 2) := by decide +kernel
theorem dX4_readWall_9 : decode cX4_readWall 9 = .ok (.aload_n 0, 1) := by decide +kernel
theorem dX4_readWall_10 : decode cX4_readWall 10 = .ok (.invokevirtual 57, 3) := by decide +kernel
theorem dX4_readWall_13 : decode cX4_readWall 13 = .ok (.aload_n 0, 1) := by decide +kernel
theorem dX4_readWall_14 : decode cX4_readWall 14 = .ok (.getfield 22, 3) := by decide +kernel
theorem dX4_readWall_17 : decode cX4_readWall 17 = .ok (.iconst (-1), 1) := by decide +kernel
theorem dX4_readWall_18 : decode cX4_readWall 18 = .ok (.if_icmp .ne 11, 3) := by decide +kernel
theorem dX4_readWall_21 : decode cX4_readWall 21 = .ok (.aload_n 1, 1) := by decide +kernel
theorem dX4_readWall_22 : decode cX4_readWall 22 = .ok (.getfield 87, 3) := by decide +kernel
theorem dX4_readWall_25 : decode cX4_readWall 25 = .ok (.iload 4, 2) := by decide +kernel
theorem dX4_readWall_27 : decode cX4_readWall 27 = .ok (.iconst 1, 1) := by decide +kernel
theorem dX4_readWall_28 : decode cX4_readWall 28 = .ok (.iastore, 1) := by decide +kernel
theorem dX4_readWall_29 : decode cX4_readWall 29 = .ok (.return_, 1) := by decide +kernel
theorem dX4_readCrushed_0 : decode cX4_readCrushed 0 = .ok (.aload_n 0, 1) := by decide +kernel
theorem dX4_readCrushed_1 : decode cX4_readCrushed 1 = .ok (.bipush 11, 2) := by decide +kernel
theorem dX4_readCrushed_3 : decode cX4_readCrushed 3 = .ok (.invokevirtual 72, 3) := by decide +kernel
theorem dX4_readCrushed_6 : decode cX4_readCrushed 6 = .ok (.istore_n 2, 1) := by decide +kernel
theorem dX4_readCrushed_7 : decode cX4_readCrushed 7 = .ok (.aload_n 1, 1) := by decide +kernel
theorem dX4_readCrushed_8 : decode cX4_readCrushed 8 = .ok (.iload_n 2, 1) := by decide +kernel
theorem dX4_readCrushed_9 : decode cX4_readCrushed 9 = .ok (.invokevirtual 90, 3) := by decide +kernel
theorem dX4_readCrushed_12 : decode cX4_readCrushed 12 = .ok (.ifCond .ne 11, 3) := by decide +kernel
theorem dX4_readCrushed_15 : decode cX4_readCrushed 15 = .ok (.aload_n 0, 1) := by decide +kernel
theorem dX4_readCrushed_16 : decode cX4_readCrushed 16 = .ok (.aload_n 0, 1) := by decide +kernel
theorem dX4_readCrushed_17 : decode cX4_readCrushed 17 = .ok (.getfield 93, 3) := by decide +kernel
theorem dX4_readCrushed_20 : decode cX4_readCrushed 20 = .ok (.invokevirtual 28, 3) := by decide +kernel
theorem dX4_readCrushed_23 : decode cX4_readCrushed 23 = .ok (.aload_n 0, 1) := by decide +kernel
theorem dX4_readCrushed_24 : decode cX4_readCrushed 24 = .ok (.invokevirtual 57, 3) := by decide +kernel
theorem dX4_readCrushed_27 : decode cX4_readCrushed 27 = .ok (.aload_n 0, 1) := by decide +kernel
theorem dX4_readCrushed_28 : decode cX4_readCrushed 28 = .ok (.getfield 22, 3) := by decide +kernel
theorem dX4_readCrushed_31 : decode cX4_readCrushed 31 = .ok (.iconst (-1), 1) := by decide +kernel
theorem dX4_readCrushed_32 : decode cX4_readCrushed 32 = .ok (.if_icmp .ne 10, 3) := by decide +kernel
theorem dX4_readCrushed_35 : decode cX4_readCrushed 35 = .ok (.aload_n 1, 1) := by decide +kernel
theorem dX4_readCrushed_36 : decode cX4_readCrushed 36 = .ok (.getfield 96, 3) := by decide +kernel
theorem dX4_readCrushed_39 : decode cX4_readCrushed 39 = .ok (.iload_n 2, 1) := by decide +kernel
theorem dX4_readCrushed_40 : decode cX4_readCrushed 40 = .ok (.iconst 0, 1) := by decide +kernel
theorem dX4_readCrushed_41 : decode cX4_readCrushed 41 = .ok (.iastore, 1) := by decide +kernel
theorem dX4_readCrushed_42 : decode cX4_readCrushed 42 = .ok (.return_, 1) := by decide +kernel
theorem dX4_readCell_0 : decode cX4_readCell 0 = .ok (.aload_n 0, 1) := by decide +kernel
theorem dX4_readCell_1 : decode cX4_readCell 1 = .ok (.bipush 7, 2) := by decide +kernel
theorem dX4_readCell_3 : decode cX4_readCell 3 = .ok (.invokevirtual 72, 3) := by decide +kernel
theorem dX4_readCell_6 : decode cX4_readCell 6 = .ok (.istore_n 1, 1) := by decide +kernel
theorem dX4_readCell_7 : decode cX4_readCell 7 = .ok (.aload_n 0, 1) := by decide +kernel
theorem dX4_readCell_8 : decode cX4_readCell 8 = .ok (.bipush 11, 2) := by decide +kernel
theorem dX4_readCell_10 : decode cX4_readCell 10 = .ok (.invokevirtual 72, 3) := by decide +kernel
theorem dX4_readCell_13 : decode cX4_readCell 13 = .ok (.istore_n 2, 1) := by decide +kernel
theorem dX4_readCell_14 : decode cX4_readCell 14 = .ok (.bipush 12, 2) := by decide +kernel
theorem dX4_readCell_16 : decode cX4_readCell 16 = .ok (.iload_n 1, 1) := by decide +kernel
theorem dX4_readCell_17 : decode cX4_readCell 17 = .ok (.imul, 1) := by decide +kernel
theorem dX4_readCell_18 : decode cX4_readCell 18 = .ok (.iload_n 2, 1) := by decide +kernel
theorem dX4_readCell_19 : decode cX4_readCell 19 = .ok (.iadd, 1) := by decide +kernel
theorem dX4_readCell_20 : decode cX4_readCell 20 = .ok (.ireturn, 1) := by decide +kernel
theorem dX4_readNumber_0 : decode cX4_readNumber 0 = .ok (.aload_n 0, 1) := by decide +kernel
theorem dX4_readNumber_1 : decode cX4_readNumber 1 = .ok (.invokevirtual 25, 3) := by decide +kernel
theorem dX4_readNumber_4 : decode cX4_readNumber 4 = .ok (.aload_n 0, 1) := by decide +kernel
theorem dX4_readNumber_5 : decode cX4_readNumber 5 = .ok (.aload_n 0, 1) := by decide +kernel
theorem dX4_readNumber_6 : decode cX4_readNumber 6 = .ok (.getfield 19, 3) := by decide +kernel
theorem dX4_readNumber_9 : decode cX4_readNumber 9 = .ok (.putfield 93, 3) := by decide +kernel
theorem dX4_readNumber_12 : decode cX4_readNumber 12 = .ok (.iconst 0, 1) := by decide +kernel
theorem dX4_readNumber_13 : decode cX4_readNumber 13 = .ok (.istore_n 2, 1) := by decide +kernel
theorem dX4_readNumber_14 : decode cX4_readNumber 14 = .ok (.aload_n 0, 1) := by decide +kernel
theorem dX4_readNumber_15 : decode cX4_readNumber 15 = .ok (.getfield 19, 3) := by decide +kernel
theorem dX4_readNumber_18 : decode cX4_readNumber 18 = .ok (.aload_n 0, 1) := by decide +kernel
theorem dX4_readNumber_19 : decode cX4_readNumber 19 = .ok (.getfield 15, 3) := by decide +kernel
theorem dX4_readNumber_22 : decode cX4_readNumber 22 = .ok (.if_icmp .ge 49, 3) := by decide +kernel
theorem dX4_readNumber_25 : decode cX4_readNumber 25 = .ok (.aload_n 0, 1) := by decide +kernel
theorem dX4_readNumber_26 : decode cX4_readNumber 26 = .ok (.getfield 9, 3) := by decide +kernel
theorem dX4_readNumber_29 : decode cX4_readNumber 29 = .ok (.aload_n 0, 1) := by decide +kernel
theorem dX4_readNumber_30 : decode cX4_readNumber 30 = .ok (.getfield 19, 3) := by decide +kernel
theorem dX4_readNumber_33 : decode cX4_readNumber 33 = .ok (.iaload, 1) := by decide +kernel
theorem dX4_readNumber_34 : decode cX4_readNumber 34 = .ok (.invokestatic 99, 3) := by decide +kernel
theorem dX4_readNumber_37 : decode cX4_readNumber 37 = .ok (.ifCond .eq 34, 3) := by decide +kernel
theorem dX4_readNumber_40 : decode cX4_readNumber 40 = .ok (.bipush 10, 2) := by decide +kernel
theorem dX4_readNumber_42 : decode cX4_readNumber 42 = .ok (.iload_n 2, 1) := by decide +kernel
theorem dX4_readNumber_43 : decode cX4_readNumber 43 = .ok (.imul, 1) := by decide +kernel
theorem dX4_readNumber_44 : decode cX4_readNumber 44 = .ok (.aload_n 0, 1) := by decide +kernel
theorem dX4_readNumber_45 : decode cX4_readNumber 45 = .ok (.getfield 9, 3) := by decide +kernel
theorem dX4_readNumber_48 : decode cX4_readNumber 48 = .ok (.aload_n 0, 1) := by decide +kernel
theorem dX4_readNumber_49 : decode cX4_readNumber 49 = .ok (.getfield 19, 3) := by decide +kernel
theorem dX4_readNumber_52 : decode cX4_readNumber 52 = .ok (.iaload, 1) := by decide +kernel
theorem dX4_readNumber_53 : decode cX4_readNumber 53 = .ok (.iadd, 1) := by decide +kernel
theorem dX4_readNumber_54 : decode cX4_readNumber 54 = .ok (.bipush 48, 2) := by decide +kernel
theorem dX4_readNumber_56 : decode cX4_readNumber 56 = .ok (.isub, 1) := by decide +kernel
theorem dX4_readNumber_57 : decode cX4_readNumber 57 = .ok (.istore_n 2, 1) := by decide +kernel
theorem dX4_readNumber_58 : decode cX4_readNumber 58 = .ok (.aload_n 0, 1) := by decide +kernel
theorem dX4_readNumber_59 : decode cX4_readNumber 59 = .ok (.dup, 1) := by decide +kernel
theorem dX4_readNumber_60 : decode cX4_readNumber 60 = .ok (.getfield 19, 3) := by decide +kernel
theorem dX4_readNumber_63 : decode cX4_readNumber 63 = .ok (.iconst 1, 1) := by decide +kernel
theorem dX4_readNumber_64 : decode cX4_readNumber 64 = .ok (.iadd, 1) := by decide +kernel
theorem dX4_readNumber_65 : decode cX4_readNumber 65 = .ok (.putfield 19, 3) := by decide +kernel
theorem dX4_readNumber_68 : decode cX4_readNumber 68 = .ok (.goto (-54), 3) := by decide +kernel
theorem dX4_readNumber_71 : decode cX4_readNumber 71 = .ok (.aload_n 0, 1) := by decide +kernel
theorem dX4_readNumber_72 : decode cX4_readNumber 72 = .ok (.getfield 19, 3) := by decide +kernel
theorem dX4_readNumber_75 : decode cX4_readNumber 75 = .ok (.aload_n 0, 1) := by decide +kernel
theorem dX4_readNumber_76 : decode cX4_readNumber 76 = .ok (.getfield 93, 3) := by decide +kernel
theorem dX4_readNumber_79 : decode cX4_readNumber 79 = .ok (.isub, 1) := by decide +kernel
theorem dX4_readNumber_80 : decode cX4_readNumber 80 = .ok (.istore_n 3, 1) := by decide +kernel
theorem dX4_readNumber_81 : decode cX4_readNumber 81 = .ok (.iload_n 3, 1) := by decide +kernel
theorem dX4_readNumber_82 : decode cX4_readNumber 82 = .ok (.iconst 1, 1) := by decide +kernel
theorem dX4_readNumber_83 : decode cX4_readNumber 83 = .ok (.if_icmp .lt 13, 3) := by decide +kernel
theorem dX4_readNumber_86 : decode cX4_readNumber 86 = .ok (.iload_n 3, 1) := by decide +kernel
theorem dX4_readNumber_87 : decode cX4_readNumber 87 = .ok (.iconst 3, 1) := by decide +kernel
theorem dX4_readNumber_88 : decode cX4_readNumber 88 = .ok (.if_icmp .gt 8, 3) := by decide +kernel
theorem dX4_readNumber_91 : decode cX4_readNumber 91 = .ok (.iload_n 2, 1) := by decide +kernel
theorem dX4_readNumber_92 : decode cX4_readNumber 92 = .ok (.iload_n 1, 1) := by decide +kernel
theorem dX4_readNumber_93 : decode cX4_readNumber 93 = .ok (.if_icmp .le 11, 3) := by decide +kernel
theorem dX4_readNumber_96 : decode cX4_readNumber 96 = .ok (.aload_n 0, 1) := by decide +kernel
theorem dX4_readNumber_97 : decode cX4_readNumber 97 = .ok (.aload_n 0, 1) := by decide +kernel
theorem dX4_readNumber_98 : decode cX4_readNumber 98 = .ok (.getfield 93, 3) := by decide +kernel
theorem dX4_readNumber_101 : decode cX4_readNumber 101 = .ok (.invokevirtual 28, 3) := by decide +kernel
theorem dX4_readNumber_104 : decode cX4_readNumber 104 = .ok (.aload_n 0, 1) := by decide +kernel
theorem dX4_readNumber_105 : decode cX4_readNumber 105 = .ok (.getfield 22, 3) := by decide +kernel
theorem dX4_readNumber_108 : decode cX4_readNumber 108 = .ok (.iconst (-1), 1) := by decide +kernel
theorem dX4_readNumber_109 : decode cX4_readNumber 109 = .ok (.if_icmp .ne 7, 3) := by decide +kernel
theorem dX4_readNumber_112 : decode cX4_readNumber 112 = .ok (.iload_n 2, 1) := by decide +kernel
theorem dX4_readNumber_113 : decode cX4_readNumber 113 = .ok (.goto 4, 3) := by decide +kernel
theorem dX4_readNumber_116 : decode cX4_readNumber 116 = .ok (.iconst 0, 1) := by decide +kernel
theorem dX4_readNumber_117 : decode cX4_readNumber 117 = .ok (.ireturn, 1) := by decide +kernel
theorem dX4_readEnd_0 : decode cX4_readEnd 0 = .ok (.aload_n 0, 1) := by decide +kernel
theorem dX4_readEnd_1 : decode cX4_readEnd 1 = .ok (.invokevirtual 25, 3) := by decide +kernel
theorem dX4_readEnd_4 : decode cX4_readEnd 4 = .ok (.aload_n 0, 1) := by decide +kernel
theorem dX4_readEnd_5 : decode cX4_readEnd 5 = .ok (.getfield 19, 3) := by decide +kernel
theorem dX4_readEnd_8 : decode cX4_readEnd 8 = .ok (.aload_n 0, 1) := by decide +kernel
theorem dX4_readEnd_9 : decode cX4_readEnd 9 = .ok (.getfield 15, 3) := by decide +kernel
theorem dX4_readEnd_12 : decode cX4_readEnd 12 = .ok (.if_icmp .ge 17, 3) := by decide +kernel
theorem dX4_readEnd_15 : decode cX4_readEnd 15 = .ok (.aload_n 0, 1) := by decide +kernel
theorem dX4_readEnd_16 : decode cX4_readEnd 16 = .ok (.getfield 9, 3) := by decide +kernel
theorem dX4_readEnd_19 : decode cX4_readEnd 19 = .ok (.aload_n 0, 1) := by decide +kernel
theorem dX4_readEnd_20 : decode cX4_readEnd 20 = .ok (.getfield 19, 3) := by decide +kernel
theorem dX4_readEnd_23 : decode cX4_readEnd 23 = .ok (.iaload, 1) := by decide +kernel
theorem dX4_readEnd_24 : decode cX4_readEnd 24 = .ok (.bipush 59, 2) := by decide +kernel
theorem dX4_readEnd_26 : decode cX4_readEnd 26 = .ok (.if_icmp .eq 11, 3) := by decide +kernel
theorem dX4_readEnd_29 : decode cX4_readEnd 29 = .ok (.aload_n 0, 1) := by decide +kernel
theorem dX4_readEnd_30 : decode cX4_readEnd 30 = .ok (.aload_n 0, 1) := by decide +kernel
theorem dX4_readEnd_31 : decode cX4_readEnd 31 = .ok (.getfield 19, 3) := by decide +kernel
theorem dX4_readEnd_34 : decode cX4_readEnd 34 = .ok (.invokevirtual 28, 3) := by decide +kernel
theorem dX4_readEnd_37 : decode cX4_readEnd 37 = .ok (.aload_n 0, 1) := by decide +kernel
theorem dX4_readEnd_38 : decode cX4_readEnd 38 = .ok (.dup, 1) := by decide +kernel
theorem dX4_readEnd_39 : decode cX4_readEnd 39 = .ok (.getfield 19, 3) := by decide +kernel
theorem dX4_readEnd_42 : decode cX4_readEnd 42 = .ok (.iconst 1, 1) := by decide +kernel
theorem dX4_readEnd_43 : decode cX4_readEnd 43 = .ok (.iadd, 1) := by decide +kernel
theorem dX4_readEnd_44 : decode cX4_readEnd 44 = .ok (.putfield 19, 3) := by decide +kernel
theorem dX4_readEnd_47 : decode cX4_readEnd 47 = .ok (.return_, 1) := by decide +kernel
theorem dX4_skipBlanks_0 : decode cX4_skipBlanks 0 = .ok (.aload_n 0, 1) := by decide +kernel
theorem dX4_skipBlanks_1 : decode cX4_skipBlanks 1 = .ok (.getfield 19, 3) := by decide +kernel
theorem dX4_skipBlanks_4 : decode cX4_skipBlanks 4 = .ok (.aload_n 0, 1) := by decide +kernel
theorem dX4_skipBlanks_5 : decode cX4_skipBlanks 5 = .ok (.getfield 15, 3) := by decide +kernel
theorem dX4_skipBlanks_8 : decode cX4_skipBlanks 8 = .ok (.if_icmp .ge 30, 3) := by decide +kernel
theorem dX4_skipBlanks_11 : decode cX4_skipBlanks 11 = .ok (.aload_n 0, 1) := by decide +kernel
theorem dX4_skipBlanks_12 : decode cX4_skipBlanks 12 = .ok (.getfield 9, 3) := by decide +kernel
theorem dX4_skipBlanks_15 : decode cX4_skipBlanks 15 = .ok (.aload_n 0, 1) := by decide +kernel
theorem dX4_skipBlanks_16 : decode cX4_skipBlanks 16 = .ok (.getfield 19, 3) := by decide +kernel
theorem dX4_skipBlanks_19 : decode cX4_skipBlanks 19 = .ok (.iaload, 1) := by decide +kernel
theorem dX4_skipBlanks_20 : decode cX4_skipBlanks 20 = .ok (.bipush 32, 2) := by decide +kernel
theorem dX4_skipBlanks_22 : decode cX4_skipBlanks 22 = .ok (.if_icmp .ne 16, 3) := by decide +kernel
theorem dX4_skipBlanks_25 : decode cX4_skipBlanks 25 = .ok (.aload_n 0, 1) := by decide +kernel
theorem dX4_skipBlanks_26 : decode cX4_skipBlanks 26 = .ok (.dup, 1) := by decide +kernel
theorem dX4_skipBlanks_27 : decode cX4_skipBlanks 27 = .ok (.getfield 19, 3) := by decide +kernel
theorem dX4_skipBlanks_30 : decode cX4_skipBlanks 30 = .ok (.iconst 1, 1) := by decide +kernel
theorem dX4_skipBlanks_31 : decode cX4_skipBlanks 31 = .ok (.iadd, 1) := by decide +kernel
theorem dX4_skipBlanks_32 : decode cX4_skipBlanks 32 = .ok (.putfield 19, 3) := by decide +kernel
theorem dX4_skipBlanks_35 : decode cX4_skipBlanks 35 = .ok (.goto (-35), 3) := by decide +kernel
theorem dX4_skipBlanks_38 : decode cX4_skipBlanks 38 = .ok (.return_, 1) := by decide +kernel
theorem dX4_fail_0 : decode cX4_fail 0 = .ok (.aload_n 0, 1) := by decide +kernel
theorem dX4_fail_1 : decode cX4_fail 1 = .ok (.getfield 22, 3) := by decide +kernel
theorem dX4_fail_4 : decode cX4_fail 4 = .ok (.iconst (-1), 1) := by decide +kernel
theorem dX4_fail_5 : decode cX4_fail 5 = .ok (.if_icmp .ne 8, 3) := by decide +kernel
theorem dX4_fail_8 : decode cX4_fail 8 = .ok (.aload_n 0, 1) := by decide +kernel
theorem dX4_fail_9 : decode cX4_fail 9 = .ok (.iload_n 1, 1) := by decide +kernel
theorem dX4_fail_10 : decode cX4_fail 10 = .ok (.putfield 22, 3) := by decide +kernel
theorem dX4_fail_13 : decode cX4_fail 13 = .ok (.return_, 1) := by decide +kernel
theorem dX4_isFigure_0 : decode cX4_isFigure 0 = .ok (.iload_n 0, 1) := by decide +kernel
theorem dX4_isFigure_1 : decode cX4_isFigure 1 = .ok (.bipush 48, 2) := by decide +kernel
theorem dX4_isFigure_3 : decode cX4_isFigure 3 = .ok (.if_icmp .lt 13, 3) := by decide +kernel
theorem dX4_isFigure_6 : decode cX4_isFigure 6 = .ok (.iload_n 0, 1) := by decide +kernel
theorem dX4_isFigure_7 : decode cX4_isFigure 7 = .ok (.bipush 57, 2) := by decide +kernel
theorem dX4_isFigure_9 : decode cX4_isFigure 9 = .ok (.if_icmp .gt 7, 3) := by decide +kernel
theorem dX4_isFigure_12 : decode cX4_isFigure 12 = .ok (.iconst 1, 1) := by decide +kernel
theorem dX4_isFigure_13 : decode cX4_isFigure 13 = .ok (.goto 4, 3) := by decide +kernel
theorem dX4_isFigure_16 : decode cX4_isFigure 16 = .ok (.iconst 0, 1) := by decide +kernel
theorem dX4_isFigure_17 : decode cX4_isFigure 17 = .ok (.ireturn, 1) := by decide +kernel
theorem dX5_init_0 : decode cX5_init 0 = .ok (.aload_n 0, 1) := by decide +kernel
theorem dX5_init_1 : decode cX5_init 1 = .ok (.invokespecial 1, 3) := by decide +kernel
theorem dX5_init_4 : decode cX5_init 4 = .ok (.aload_n 0, 1) := by decide +kernel
theorem dX5_init_5 : decode cX5_init 5 = .ok (.new 7, 3) := by decide +kernel
theorem dX5_init_8 : decode cX5_init 8 = .ok (.dup, 1) := by decide +kernel
theorem dX5_init_9 : decode cX5_init 9 = .ok (.invokespecial 9, 3) := by decide +kernel
theorem dX5_init_12 : decode cX5_init 12 = .ok (.putfield 10, 3) := by decide +kernel
theorem dX5_init_15 : decode cX5_init 15 = .ok (.aload_n 0, 1) := by decide +kernel
theorem dX5_init_16 : decode cX5_init 16 = .ok (.new 16, 3) := by decide +kernel
theorem dX5_init_19 : decode cX5_init 19 = .ok (.dup, 1) := by decide +kernel
theorem dX5_init_20 : decode cX5_init 20 = .ok (.invokespecial 18, 3) := by decide +kernel
theorem dX5_init_23 : decode cX5_init 23 = .ok (.putfield 19, 3) := by decide +kernel
theorem dX5_init_26 : decode cX5_init 26 = .ok (.aload_n 0, 1) := by decide +kernel
theorem dX5_init_27 : decode cX5_init 27 = .ok (.new 23, 3) := by decide +kernel
theorem dX5_init_30 : decode cX5_init 30 = .ok (.dup, 1) := by decide +kernel
theorem dX5_init_31 : decode cX5_init 31 = .ok (.invokespecial 25, 3) := by decide +kernel
theorem dX5_init_34 : decode cX5_init 34 = .ok (.putfield 26, 3) := by decide +kernel
theorem dX5_init_37 : decode cX5_init 37 = .ok (.return_, 1) := by decide +kernel
theorem dX5_start_0 : decode cX5_start 0 = .ok (.aload_n 0, 1) := by decide +kernel
theorem dX5_start_1 : decode cX5_start 1 = .ok (.getfield 10, 3) := by decide +kernel
theorem dX5_start_4 : decode cX5_start 4 = .ok (.aload_n 1, 1) := by decide +kernel
theorem dX5_start_5 : decode cX5_start 5 = .ok (.invokevirtual 30, 3) := by decide +kernel
theorem dX5_start_8 : decode cX5_start 8 = .ok (.return_, 1) := by decide +kernel
theorem dX5_crush_0 : decode cX5_crush 0 = .ok (.aload_n 0, 1) := by decide +kernel
theorem dX5_crush_1 : decode cX5_crush 1 = .ok (.getfield 26, 3) := by decide +kernel
theorem dX5_crush_4 : decode cX5_crush 4 = .ok (.aload_n 0, 1) := by decide +kernel
theorem dX5_crush_5 : decode cX5_crush 5 = .ok (.getfield 10, 3) := by decide +kernel
theorem dX5_crush_8 : decode cX5_crush 8 = .ok (.aload_n 0, 1) := by decide +kernel
theorem dX5_crush_9 : decode cX5_crush 9 = .ok (.getfield 19, 3) := by decide +kernel
theorem dX5_crush_12 : decode cX5_crush 12 = .ok (.invokevirtual 34, 3) := by decide +kernel
theorem dX5_crush_15 : decode cX5_crush 15 = .ok (.ireturn, 1) := by decide +kernel
theorem dX5_lose_0 : decode cX5_lose 0 = .ok (.aload_n 0, 1) := by decide +kernel
theorem dX5_lose_1 : decode cX5_lose 1 = .ok (.aload_n 1, 1) := by decide +kernel
theorem dX5_lose_2 : decode cX5_lose 2 = .ok (.invokevirtual 38, 3) := by decide +kernel
theorem dX5_lose_5 : decode cX5_lose 5 = .ok (.aload_n 0, 1) := by decide +kernel
theorem dX5_lose_6 : decode cX5_lose 6 = .ok (.getfield 10, 3) := by decide +kernel
theorem dX5_lose_9 : decode cX5_lose 9 = .ok (.getfield 41, 3) := by decide +kernel
theorem dX5_lose_12 : decode cX5_lose 12 = .ok (.iload_n 2, 1) := by decide +kernel
theorem dX5_lose_13 : decode cX5_lose 13 = .ok (.iconst 0, 1) := by decide +kernel
theorem dX5_lose_14 : decode cX5_lose 14 = .ok (.iastore, 1) := by decide +kernel
theorem dX5_lose_15 : decode cX5_lose 15 = .ok (.iconst 1, 1) := by decide +kernel
theorem dX5_lose_16 : decode cX5_lose 16 = .ok (.aload_n 0, 1) := by decide +kernel
theorem dX5_lose_17 : decode cX5_lose 17 = .ok (.invokevirtual 45, 3) := by decide +kernel
theorem dX5_lose_20 : decode cX5_lose 20 = .ok (.iadd, 1) := by decide +kernel
theorem dX5_lose_21 : decode cX5_lose 21 = .ok (.ireturn, 1) := by decide +kernel
theorem dX5_build_0 : decode cX5_build 0 = .ok (.aload_n 0, 1) := by decide +kernel
theorem dX5_build_1 : decode cX5_build 1 = .ok (.aload_n 1, 1) := by decide +kernel
theorem dX5_build_2 : decode cX5_build 2 = .ok (.invokevirtual 38, 3) := by decide +kernel
theorem dX5_build_5 : decode cX5_build 5 = .ok (.aload_n 0, 1) := by decide +kernel
theorem dX5_build_6 : decode cX5_build 6 = .ok (.getfield 10, 3) := by decide +kernel
theorem dX5_build_9 : decode cX5_build 9 = .ok (.getfield 48, 3) := by decide +kernel
theorem dX5_build_12 : decode cX5_build 12 = .ok (.iload_n 2, 1) := by decide +kernel
theorem dX5_build_13 : decode cX5_build 13 = .ok (.iconst 1, 1) := by decide +kernel
theorem dX5_build_14 : decode cX5_build 14 = .ok (.iastore, 1) := by decide +kernel
theorem dX5_build_15 : decode cX5_build 15 = .ok (.aload_n 0, 1) := by decide +kernel
theorem dX5_build_16 : decode cX5_build 16 = .ok (.invokevirtual 45, 3) := by decide +kernel
theorem dX5_build_19 : decode cX5_build 19 = .ok (.pop, 1) := by decide +kernel
theorem dX5_build_20 : decode cX5_build 20 = .ok (.aload_n 0, 1) := by decide +kernel
theorem dX5_build_21 : decode cX5_build 21 = .ok (.getfield 10, 3) := by decide +kernel
theorem dX5_build_24 : decode cX5_build 24 = .ok (.invokevirtual 51, 3) := by decide +kernel
theorem dX5_build_27 : decode cX5_build 27 = .ok (.ireturn, 1) := by decide +kernel
theorem dX5_support_0 : decode cX5_support 0 = .ok (.aload_n 0, 1) := by decide +kernel
theorem dX5_support_1 : decode cX5_support 1 = .ok (.aload_n 1, 1) := by decide +kernel
theorem dX5_support_2 : decode cX5_support 2 = .ok (.invokevirtual 38, 3) := by decide +kernel
theorem dX5_support_5 : decode cX5_support 5 = .ok (.aload_n 0, 1) := by decide +kernel
theorem dX5_support_6 : decode cX5_support 6 = .ok (.getfield 10, 3) := by decide +kernel
theorem dX5_support_9 : decode cX5_support 9 = .ok (.iload_n 2, 1) := by decide +kernel
theorem dX5_support_10 : decode cX5_support 10 = .ok (.iload_n 3, 1) := by decide +kernel
theorem dX5_support_11 : decode cX5_support 11 = .ok (.invokevirtual 54, 3) := by decide +kernel
theorem dX5_support_14 : decode cX5_support 14 = .ok (.aload_n 0, 1) := by decide +kernel
theorem dX5_support_15 : decode cX5_support 15 = .ok (.invokevirtual 45, 3) := by decide +kernel
theorem dX5_support_18 : decode cX5_support 18 = .ok (.pop, 1) := by decide +kernel
theorem dX5_support_19 : decode cX5_support 19 = .ok (.aload_n 0, 1) := by decide +kernel
theorem dX5_support_20 : decode cX5_support 20 = .ok (.getfield 10, 3) := by decide +kernel
theorem dX5_support_23 : decode cX5_support 23 = .ok (.invokevirtual 51, 3) := by decide +kernel
theorem dX5_support_26 : decode cX5_support 26 = .ok (.ireturn, 1) := by decide +kernel
end
section
theorem dX6_init_0 : decode cX6_init 0 = .ok (.aload_n 0, 1) := by decide +kernel
theorem dX6_init_1 : decode cX6_init 1 = .ok (.invokespecial 1, 3) := by decide +kernel
theorem dX6_init_4 : decode cX6_init 4 = .ok (.aload_n 0, 1) := by decide +kernel
theorem dX6_init_5 : decode cX6_init 5 = .ok (.new 7, 3) := by decide +kernel
theorem dX6_init_8 : decode cX6_init 8 = .ok (.dup, 1) := by decide +kernel
theorem dX6_init_9 : decode cX6_init 9 = .ok (.invokespecial 9, 3) := by decide +kernel
theorem dX6_init_12 : decode cX6_init 12 = .ok (.putfield 10, 3) := by decide +kernel
theorem dX6_init_15 : decode cX6_init 15 = .ok (.aload_n 0, 1) := by decide +kernel
theorem dX6_init_16 : decode cX6_init 16 = .ok (.new 16, 3) := by decide +kernel
theorem dX6_init_19 : decode cX6_init 19 = .ok (.dup, 1) := by decide +kernel
theorem dX6_init_20 : decode cX6_init 20 = .ok (.invokespecial 18, 3) := by decide +kernel
theorem dX6_init_23 : decode cX6_init 23 = .ok (.putfield 19, 3) := by decide +kernel
theorem dX6_init_26 : decode cX6_init 26 = .ok (.aload_n 0, 1) := by decide +kernel
theorem dX6_init_27 : decode cX6_init 27 = .ok (.new 23, 3) := by decide +kernel
theorem dX6_init_30 : decode cX6_init 30 = .ok (.dup, 1) := by decide +kernel
theorem dX6_init_31 : decode cX6_init 31 = .ok (.invokespecial 25, 3) := by decide +kernel
theorem dX6_init_34 : decode cX6_init 34 = .ok (.putfield 26, 3) := by decide +kernel
theorem dX6_init_37 : decode cX6_init 37 = .ok (.aload_n 0, 1) := by decide +kernel
theorem dX6_init_38 : decode cX6_init 38 = .ok (.new 30, 3) := by decide +kernel
theorem dX6_init_41 : decode cX6_init 41 = .ok (.dup, 1) := by decide +kernel
theorem dX6_init_42 : decode cX6_init 42 = .ok (.invokespecial 32, 3) := by decide +kernel
theorem dX6_init_45 : decode cX6_init 45 = .ok (.putfield 33, 3) := by decide +kernel
theorem dX6_init_48 : decode cX6_init 48 = .ok (.aload_n 0, 1) := by decide +kernel
theorem dX6_init_49 : decode cX6_init 49 = .ok (.new 37, 3) := by decide +kernel
theorem dX6_init_52 : decode cX6_init 52 = .ok (.dup, 1) := by decide +kernel
theorem dX6_init_53 : decode cX6_init 53 = .ok (.invokespecial 39, 3) := by decide +kernel
theorem dX6_init_56 : decode cX6_init 56 = .ok (.putfield 40, 3) := by decide +kernel
theorem dX6_init_59 : decode cX6_init 59 = .ok (.aload_n 0, 1) := by decide +kernel
theorem dX6_init_60 : decode cX6_init 60 = .ok (.new 44, 3) := by decide +kernel
theorem dX6_init_63 : decode cX6_init 63 = .ok (.dup, 1) := by decide +kernel
theorem dX6_init_64 : decode cX6_init 64 = .ok (.invokespecial 46, 3) := by decide +kernel
theorem dX6_init_67 : decode cX6_init 67 = .ok (.putfield 47, 3) := by decide +kernel
theorem dX6_init_70 : decode cX6_init 70 = .ok (.aload_n 0, 1) := by decide +kernel
theorem dX6_init_71 : decode cX6_init 71 = .ok (.iconst 3, 1) := by decide +kernel
theorem dX6_init_72 : decode cX6_init 72 = .ok (.newarray .int, 2) := by decide +kernel
theorem dX6_init_74 : decode cX6_init 74 = .ok (.putfield 51, 3) := by decide +kernel
theorem dX6_init_77 : decode cX6_init 77 = .ok (.return_, 1) := by decide +kernel
theorem dX6_pillar_0 : decode cX6_pillar 0 = .ok (.iload_n 1, 1) := by decide +kernel
theorem dX6_pillar_1 : decode cX6_pillar 1 = .ok (.invokestatic 55, 3) := by decide +kernel
theorem dX6_pillar_4 : decode cX6_pillar 4 = .ok (.ifCond .eq 10, 3) := by decide +kernel
theorem dX6_pillar_7 : decode cX6_pillar 7 = .ok (.iload_n 2, 1) := by decide +kernel
theorem dX6_pillar_8 : decode cX6_pillar 8 = .ok (.invokestatic 59, 3) := by decide +kernel
theorem dX6_pillar_11 : decode cX6_pillar 11 = .ok (.ifCond .ne 10, 3) := by decide +kernel
theorem dX6_pillar_14 : decode cX6_pillar 14 = .ok (.aload_n 0, 1) := by decide +kernel
theorem dX6_pillar_15 : decode cX6_pillar 15 = .ok (.bipush (-2), 2) := by decide +kernel
theorem dX6_pillar_17 : decode cX6_pillar 17 = .ok (.invokevirtual 62, 3) := by decide +kernel
theorem dX6_pillar_20 : decode cX6_pillar 20 = .ok (.ireturn, 1) := by decide +kernel
theorem dX6_pillar_21 : decode cX6_pillar 21 = .ok (.aload_n 0, 1) := by decide +kernel
theorem dX6_pillar_22 : decode cX6_pillar 22 = .ok (.getfield 10, 3) := by decide +kernel
theorem dX6_pillar_25 : decode cX6_pillar 25 = .ok (.iload_n 1, 1) := by decide +kernel
theorem dX6_pillar_26 : decode cX6_pillar 26 = .ok (.invokevirtual 66, 3) := by decide +kernel
theorem dX6_pillar_29 : decode cX6_pillar 29 = .ok (.ifCond .eq 10, 3) := by decide +kernel
theorem dX6_pillar_32 : decode cX6_pillar 32 = .ok (.aload_n 0, 1) := by decide +kernel
theorem dX6_pillar_33 : decode cX6_pillar 33 = .ok (.bipush (-3), 2) := by decide +kernel
theorem dX6_pillar_35 : decode cX6_pillar 35 = .ok (.invokevirtual 62, 3) := by decide +kernel
theorem dX6_pillar_38 : decode cX6_pillar 38 = .ok (.ireturn, 1) := by decide +kernel
theorem dX6_pillar_39 : decode cX6_pillar 39 = .ok (.aload_n 0, 1) := by decide +kernel
theorem dX6_pillar_40 : decode cX6_pillar 40 = .ok (.getfield 10, 3) := by decide +kernel
theorem dX6_pillar_43 : decode cX6_pillar 43 = .ok (.getfield 69, 3) := by decide +kernel
theorem dX6_pillar_46 : decode cX6_pillar 46 = .ok (.bipush 12, 2) := by decide +kernel
theorem dX6_pillar_48 : decode cX6_pillar 48 = .ok (.if_icmp .lt 10, 3) := by decide +kernel
theorem dX6_pillar_51 : decode cX6_pillar 51 = .ok (.aload_n 0, 1) := by decide +kernel
theorem dX6_pillar_52 : decode cX6_pillar 52 = .ok (.bipush (-4), 2) := by decide +kernel
theorem dX6_pillar_54 : decode cX6_pillar 54 = .ok (.invokevirtual 62, 3) := by decide +kernel
theorem dX6_pillar_57 : decode cX6_pillar 57 = .ok (.ireturn, 1) := by decide +kernel
theorem dX6_pillar_58 : decode cX6_pillar 58 = .ok (.aload_n 0, 1) := by decide +kernel
theorem dX6_pillar_59 : decode cX6_pillar 59 = .ok (.getfield 33, 3) := by decide +kernel
theorem dX6_pillar_62 : decode cX6_pillar 62 = .ok (.aload_n 0, 1) := by decide +kernel
theorem dX6_pillar_63 : decode cX6_pillar 63 = .ok (.getfield 10, 3) := by decide +kernel
theorem dX6_pillar_66 : decode cX6_pillar 66 = .ok (.invokevirtual 73, 3) := by decide +kernel
theorem dX6_pillar_69 : decode cX6_pillar 69 = .ok (.aload_n 0, 1) := by decide +kernel
theorem dX6_pillar_70 : decode cX6_pillar 70 = .ok (.getfield 10, 3) := by decide +kernel
theorem dX6_pillar_73 : decode cX6_pillar 73 = .ok (.iload_n 1, 1) := by decide +kernel
theorem dX6_pillar_74 : decode cX6_pillar 74 = .ok (.iload_n 2, 1) := by decide +kernel
theorem dX6_pillar_75 : decode cX6_pillar 75 = .ok (.invokevirtual 77, 3) := by decide +kernel
theorem dX6_pillar_78 : decode cX6_pillar 78 = .ok (.aload_n 0, 1) := by decide +kernel
theorem dX6_pillar_79 : decode cX6_pillar 79 = .ok (.getfield 10, 3) := by decide +kernel
theorem dX6_pillar_82 : decode cX6_pillar 82 = .ok (.getfield 69, 3) := by decide +kernel
theorem dX6_pillar_85 : decode cX6_pillar 85 = .ok (.iconst 1, 1) := by decide +kernel
theorem dX6_pillar_86 : decode cX6_pillar 86 = .ok (.isub, 1) := by decide +kernel
theorem dX6_pillar_87 : decode cX6_pillar 87 = .ok (.ireturn, 1) := by decide +kernel
theorem dX6_weight_0 : decode cX6_weight 0 = .ok (.iload_n 1, 1) := by decide +kernel
theorem dX6_weight_1 : decode cX6_weight 1 = .ok (.invokestatic 55, 3) := by decide +kernel
theorem dX6_weight_4 : decode cX6_weight 4 = .ok (.ifCond .eq 12, 3) := by decide +kernel
theorem dX6_weight_7 : decode cX6_weight 7 = .ok (.iload_n 2, 1) := by decide +kernel
theorem dX6_weight_8 : decode cX6_weight 8 = .ok (.bipush 9, 2) := by decide +kernel
theorem dX6_weight_10 : decode cX6_weight 10 = .ok (.invokestatic 81, 3) := by decide +kernel
theorem dX6_weight_13 : decode cX6_weight 13 = .ok (.ifCond .ne 10, 3) := by decide +kernel
theorem dX6_weight_16 : decode cX6_weight 16 = .ok (.aload_n 0, 1) := by decide +kernel
theorem dX6_weight_17 : decode cX6_weight 17 = .ok (.bipush (-2), 2) := by decide +kernel
theorem dX6_weight_19 : decode cX6_weight 19 = .ok (.invokevirtual 62, 3) := by decide +kernel
theorem dX6_weight_22 : decode cX6_weight 22 = .ok (.ireturn, 1) := by decide +kernel
theorem dX6_weight_23 : decode cX6_weight 23 = .ok (.aload_n 0, 1) := by decide +kernel
theorem dX6_weight_24 : decode cX6_weight 24 = .ok (.getfield 33, 3) := by decide +kernel
theorem dX6_weight_27 : decode cX6_weight 27 = .ok (.aload_n 0, 1) := by decide +kernel
theorem dX6_weight_28 : decode cX6_weight 28 = .ok (.getfield 10, 3) := by decide +kernel
theorem dX6_weight_31 : decode cX6_weight 31 = .ok (.invokevirtual 73, 3) := by decide +kernel
theorem dX6_weight_34 : decode cX6_weight 34 = .ok (.aload_n 0, 1) := by decide +kernel
theorem dX6_weight_35 : decode cX6_weight 35 = .ok (.getfield 10, 3) := by decide +kernel
theorem dX6_weight_38 : decode cX6_weight 38 = .ok (.getfield 85, 3) := by decide +kernel
theorem dX6_weight_41 : decode cX6_weight 41 = .ok (.iload_n 1, 1) := by decide +kernel
theorem dX6_weight_42 : decode cX6_weight 42 = .ok (.iaload, 1) := by decide +kernel
theorem dX6_weight_43 : decode cX6_weight 43 = .ok (.istore_n 3, 1) := by decide +kernel
theorem dX6_weight_44 : decode cX6_weight 44 = .ok (.aload_n 0, 1) := by decide +kernel
theorem dX6_weight_45 : decode cX6_weight 45 = .ok (.getfield 10, 3) := by decide +kernel
theorem dX6_weight_48 : decode cX6_weight 48 = .ok (.getfield 85, 3) := by decide +kernel
theorem dX6_weight_51 : decode cX6_weight 51 = .ok (.iload_n 1, 1) := by decide +kernel
theorem dX6_weight_52 : decode cX6_weight 52 = .ok (.iload_n 2, 1) := by decide +kernel
theorem dX6_weight_53 : decode cX6_weight 53 = .ok (.iastore, 1) := by decide +kernel
theorem dX6_weight_54 : decode cX6_weight 54 = .ok (.iload_n 3, 1) := by decide +kernel
theorem dX6_weight_55 : decode cX6_weight 55 = .ok (.ireturn, 1) := by decide +kernel
theorem dX6_draw_0 : decode cX6_draw 0 = .ok (.iload_n 1, 1) := by decide +kernel
theorem dX6_draw_1 : decode cX6_draw 1 = .ok (.ldc 88, 2) := by decide +kernel
theorem dX6_draw_3 : decode cX6_draw 3 = .ok (.invokestatic 81, 3) := by decide +kernel
theorem dX6_draw_6 : decode cX6_draw 6 = .ok (.ifCond .eq 12, 3) := by decide +kernel
theorem dX6_draw_9 : decode cX6_draw 9 = .ok (.iload_n 2, 1) := by decide +kernel
theorem dX6_draw_10 : decode cX6_draw 10 = .ok (.bipush 9, 2) := by decide +kernel
theorem dX6_draw_12 : decode cX6_draw 12 = .ok (.invokestatic 81, 3) := by decide +kernel
theorem dX6_draw_15 : decode cX6_draw 15 = .ok (.ifCond .ne 10, 3) := by decide +kernel
theorem dX6_draw_18 : decode cX6_draw 18 = .ok (.aload_n 0, 1) := by decide +kernel
theorem dX6_draw_19 : decode cX6_draw 19 = .ok (.bipush (-2), 2) := by decide +kernel
theorem dX6_draw_21 : decode cX6_draw 21 = .ok (.invokevirtual 62, 3) := by decide +kernel
theorem dX6_draw_24 : decode cX6_draw 24 = .ok (.ireturn, 1) := by decide +kernel
theorem dX6_draw_25 : decode cX6_draw 25 = .ok (.aload_n 0, 1) := by decide +kernel
theorem dX6_draw_26 : decode cX6_draw 26 = .ok (.getfield 33, 3) := by decide +kernel
theorem dX6_draw_29 : decode cX6_draw 29 = .ok (.aload_n 0, 1) := by decide +kernel
theorem dX6_draw_30 : decode cX6_draw 30 = .ok (.getfield 10, 3) := by decide +kernel
theorem dX6_draw_33 : decode cX6_draw 33 = .ok (.invokevirtual 73, 3) := by decide +kernel
theorem dX6_draw_36 : decode cX6_draw 36 = .ok (.iload_n 1, 1) := by decide +kernel
theorem dX6_draw_37 : decode cX6_draw 37 = .ok (.i2l, 1) := by decide +kernel
theorem dX6_draw_38 : decode cX6_draw 38 = .ok (.lstore_n 3, 1) := by decide +kernel
theorem dX6_draw_39 : decode cX6_draw 39 = .ok (.iconst 0, 1) := by decide +kernel
theorem dX6_draw_40 : decode cX6_draw 40 = .ok (.istore 5, 2) := by decide +kernel
theorem dX6_draw_42 : decode cX6_draw 42 = .ok (.iload 5, 2) := by decide +kernel
theorem dX6_draw_44 : decode cX6_draw 44 = .ok (.bipush 96, 2) := by decide +kernel
theorem dX6_draw_46 : decode cX6_draw 46 = .ok (.if_icmp .ge 44, 3) := by decide +kernel
theorem dX6_draw_49 : decode cX6_draw 49 = .ok (.lload_n 3, 1) := by decide +kernel
theorem dX6_draw_50 : decode cX6_draw 50 = .ok (.ldc2_w 89, 3) := by decide +kernel
theorem dX6_draw_53 : decode cX6_draw 53 = .ok (.lmul, 1) := by decide +kernel
theorem dX6_draw_54 : decode cX6_draw 54 = .ok (.ldc2_w 91, 3) := by decide +kernel
theorem dX6_draw_57 : decode cX6_draw 57 = .ok (.ladd, 1) := by decide +kernel
theorem dX6_draw_58 : decode cX6_draw 58 = .ok (.ldc2_w 93, 3) := by decide +kernel
theorem dX6_draw_61 : decode cX6_draw 61 = .ok (.lrem, 1) := by decide +kernel
theorem dX6_draw_62 : decode cX6_draw 62 = .ok (.lstore_n 3, 1) := by decide +kernel
theorem dX6_draw_63 : decode cX6_draw 63 = .ok (.aload_n 0, 1) := by decide +kernel
theorem dX6_draw_64 : decode cX6_draw 64 = .ok (.getfield 10, 3) := by decide +kernel
theorem dX6_draw_67 : decode cX6_draw 67 = .ok (.getfield 85, 3) := by decide +kernel
theorem dX6_draw_70 : decode cX6_draw 70 = .ok (.iload 5, 2) := by decide +kernel
theorem dX6_draw_72 : decode cX6_draw 72 = .ok (.lload_n 3, 1) := by decide +kernel
theorem dX6_draw_73 : decode cX6_draw 73 = .ok (.ldc2_w 95, 3) := by decide +kernel
theorem dX6_draw_76 : decode cX6_draw 76 = .ok (.ldiv, 1) := by decide +kernel
theorem dX6_draw_77 : decode cX6_draw 77 = .ok (.iload_n 2, 1) := by decide +kernel
theorem dX6_draw_78 : decode cX6_draw 78 = .ok (.iconst 1, 1) := by decide +kernel
theorem dX6_draw_79 : decode cX6_draw 79 = .ok (.iadd, 1) := by decide +kernel
theorem dX6_draw_80 : decode cX6_draw 80 = .ok (.i2l, 1) := by decide +kernel
theorem dX6_draw_81 : decode cX6_draw 81 = .ok (.lrem, 1) := by decide +kernel
theorem dX6_draw_82 : decode cX6_draw 82 = .ok (.l2i, 1) := by decide +kernel
theorem dX6_draw_83 : decode cX6_draw 83 = .ok (.iastore, 1) := by decide +kernel
theorem dX6_draw_84 : decode cX6_draw 84 = .ok (.iinc 5 1, 3) := by decide +kernel
theorem dX6_draw_87 : decode cX6_draw 87 = .ok (.goto (-45), 3) := by decide +kernel
theorem dX6_draw_90 : decode cX6_draw 90 = .ok (.aload_n 0, 1) := by decide +kernel
theorem dX6_draw_91 : decode cX6_draw 91 = .ok (.getfield 10, 3) := by decide +kernel
theorem dX6_draw_94 : decode cX6_draw 94 = .ok (.getfield 85, 3) := by decide +kernel
theorem dX6_draw_97 : decode cX6_draw 97 = .ok (.invokestatic 97, 3) := by decide +kernel
theorem dX6_draw_100 : decode cX6_draw 100 = .ok (.ireturn, 1) := by decide +kernel
theorem dX6_strength_0 : decode cX6_strength 0 = .ok (.aload_n 0, 1) := by decide +kernel
theorem dX6_strength_1 : decode cX6_strength 1 = .ok (.getfield 10, 3) := by decide +kernel
theorem dX6_strength_4 : decode cX6_strength 4 = .ok (.iload_n 1, 1) := by decide +kernel
theorem dX6_strength_5 : decode cX6_strength 5 = .ok (.invokevirtual 101, 3) := by decide +kernel
theorem dX6_strength_8 : decode cX6_strength 8 = .ok (.ifCond .eq 10, 3) := by decide +kernel
theorem dX6_strength_11 : decode cX6_strength 11 = .ok (.iload_n 2, 1) := by decide +kernel
theorem dX6_strength_12 : decode cX6_strength 12 = .ok (.invokestatic 59, 3) := by decide +kernel
theorem dX6_strength_15 : decode cX6_strength 15 = .ok (.ifCond .ne 10, 3) := by decide +kernel
theorem dX6_strength_18 : decode cX6_strength 18 = .ok (.aload_n 0, 1) := by decide +kernel
theorem dX6_strength_19 : decode cX6_strength 19 = .ok (.bipush (-2), 2) := by decide +kernel
theorem dX6_strength_21 : decode cX6_strength 21 = .ok (.invokevirtual 62, 3) := by decide +kernel
theorem dX6_strength_24 : decode cX6_strength 24 = .ok (.ireturn, 1) := by decide +kernel
theorem dX6_strength_25 : decode cX6_strength 25 = .ok (.aload_n 0, 1) := by decide +kernel
theorem dX6_strength_26 : decode cX6_strength 26 = .ok (.getfield 33, 3) := by decide +kernel
theorem dX6_strength_29 : decode cX6_strength 29 = .ok (.aload_n 0, 1) := by decide +kernel
theorem dX6_strength_30 : decode cX6_strength 30 = .ok (.getfield 10, 3) := by decide +kernel
theorem dX6_strength_33 : decode cX6_strength 33 = .ok (.invokevirtual 73, 3) := by decide +kernel
theorem dX6_strength_36 : decode cX6_strength 36 = .ok (.aload_n 0, 1) := by decide +kernel
theorem dX6_strength_37 : decode cX6_strength 37 = .ok (.getfield 10, 3) := by decide +kernel
theorem dX6_strength_40 : decode cX6_strength 40 = .ok (.getfield 104, 3) := by decide +kernel
theorem dX6_strength_43 : decode cX6_strength 43 = .ok (.iload_n 1, 1) := by decide +kernel
theorem dX6_strength_44 : decode cX6_strength 44 = .ok (.iaload, 1) := by decide +kernel
theorem dX6_strength_45 : decode cX6_strength 45 = .ok (.istore_n 3, 1) := by decide +kernel
theorem dX6_strength_46 : decode cX6_strength 46 = .ok (.aload_n 0, 1) := by decide +kernel
theorem dX6_strength_47 : decode cX6_strength 47 = .ok (.getfield 10, 3) := by decide +kernel
theorem dX6_strength_50 : decode cX6_strength 50 = .ok (.getfield 104, 3) := by decide +kernel
theorem dX6_strength_53 : decode cX6_strength 53 = .ok (.iload_n 1, 1) := by decide +kernel
theorem dX6_strength_54 : decode cX6_strength 54 = .ok (.iload_n 2, 1) := by decide +kernel
theorem dX6_strength_55 : decode cX6_strength 55 = .ok (.iastore, 1) := by decide +kernel
theorem dX6_strength_56 : decode cX6_strength 56 = .ok (.iload_n 3, 1) := by decide +kernel
theorem dX6_strength_57 : decode cX6_strength 57 = .ok (.ireturn, 1) := by decide +kernel
theorem dX6_wall_0 : decode cX6_wall 0 = .ok (.iload_n 1, 1) := by decide +kernel
theorem dX6_wall_1 : decode cX6_wall 1 = .ok (.iconst 1, 1) := by decide +kernel
theorem dX6_wall_2 : decode cX6_wall 2 = .ok (.invokestatic 81, 3) := by decide +kernel
theorem dX6_wall_5 : decode cX6_wall 5 = .ok (.ifCond .eq 29, 3) := by decide +kernel
theorem dX6_wall_8 : decode cX6_wall 8 = .ok (.iload_n 2, 1) := by decide +kernel
theorem dX6_wall_9 : decode cX6_wall 9 = .ok (.iload_n 1, 1) := by decide +kernel
theorem dX6_wall_10 : decode cX6_wall 10 = .ok (.ifCond .ne 8, 3) := by decide +kernel
theorem dX6_wall_13 : decode cX6_wall 13 = .ok (.bipush 6, 2) := by decide +kernel
theorem dX6_wall_15 : decode cX6_wall 15 = .ok (.goto 5, 3) := by decide +kernel
theorem dX6_wall_18 : decode cX6_wall 18 = .ok (.bipush 10, 2) := by decide +kernel
theorem dX6_wall_20 : decode cX6_wall 20 = .ok (.invokestatic 81, 3) := by decide +kernel
theorem dX6_wall_23 : decode cX6_wall 23 = .ok (.ifCond .eq 11, 3) := by decide +kernel
theorem dX6_wall_26 : decode cX6_wall 26 = .ok (.iload_n 3, 1) := by decide +kernel
theorem dX6_wall_27 : decode cX6_wall 27 = .ok (.iconst 1, 1) := by decide +kernel
theorem dX6_wall_28 : decode cX6_wall 28 = .ok (.invokestatic 81, 3) := by decide +kernel
theorem dX6_wall_31 : decode cX6_wall 31 = .ok (.ifCond .ne 10, 3) := by decide +kernel
theorem dX6_wall_34 : decode cX6_wall 34 = .ok (.aload_n 0, 1) := by decide +kernel
theorem dX6_wall_35 : decode cX6_wall 35 = .ok (.bipush (-2), 2) := by decide +kernel
theorem dX6_wall_37 : decode cX6_wall 37 = .ok (.invokevirtual 62, 3) := by decide +kernel
theorem dX6_wall_40 : decode cX6_wall 40 = .ok (.ireturn, 1) := by decide +kernel
theorem dX6_wall_41 : decode cX6_wall 41 = .ok (.aload_n 0, 1) := by decide +kernel
theorem dX6_wall_42 : decode cX6_wall 42 = .ok (.getfield 33, 3) := by decide +kernel
theorem dX6_wall_45 : decode cX6_wall 45 = .ok (.aload_n 0, 1) := by decide +kernel
theorem dX6_wall_46 : decode cX6_wall 46 = .ok (.getfield 10, 3) := by decide +kernel
theorem dX6_wall_49 : decode cX6_wall 49 = .ok (.invokevirtual 73, 3) := by decide +kernel
theorem dX6_wall_52 : decode cX6_wall 52 = .ok (.iload_n 2, 1) := by decide +kernel
theorem dX6_wall_53 : decode cX6_wall 53 = .ok (.iload_n 1, 1) := by decide +kernel
theorem dX6_wall_54 : decode cX6_wall 54 = .ok (.ifCond .ne 7, 3) := by decide +kernel
theorem dX6_wall_57 : decode cX6_wall 57 = .ok (.iconst 0, 1) := by decide +kernel
theorem dX6_wall_58 : decode cX6_wall 58 = .ok (.goto 5, 3) := by decide +kernel
theorem dX6_wall_61 : decode cX6_wall 61 = .ok (.bipush 10, 2) := by decide +kernel
theorem dX6_wall_63 : decode cX6_wall 63 = .ok (.iadd, 1) := by decide +kernel
theorem dX6_wall_64 : decode cX6_wall 64 = .ok (.istore 4, 2) := by decide +kernel
theorem dX6_wall_66 : decode cX6_wall 66 = .ok (.aload_n 0, 1) := by decide +kernel
theorem dX6_wall_67 : decode cX6_wall 67 = .ok (.getfield 10, 3) := by decide +kernel
theorem dX6_wall_70 : decode cX6_wall 70 = .ok (.getfield 107, 3) := by decide +kernel
theorem dX6_wall_73 : decode cX6_wall 73 = .ok (.iload 4, 2) := by decide +kernel
theorem dX6_wall_75 : decode cX6_wall 75 = .ok (.iaload, 1) := by decide +kernel
theorem dX6_wall_76 : decode cX6_wall 76 = .ok (.istore 5, 2) := by decide +kernel
theorem dX6_wall_78 : decode cX6_wall 78 = .ok (.aload_n 0, 1) := by decide +kernel
theorem dX6_wall_79 : decode cX6_wall 79 = .ok (.getfield 10, 3) := by decide +kernel
theorem dX6_wall_82 : decode cX6_wall 82 = .ok (.getfield 107, 3) := by decide +kernel
theorem dX6_wall_85 : decode cX6_wall 85 = .ok (.iload 4, 2) := by decide +kernel
theorem dX6_wall_87 : decode cX6_wall 87 = .ok (.iload_n 3, 1) := by decide +kernel
theorem dX6_wall_88 : decode cX6_wall 88 = .ok (.iastore, 1) := by decide +kernel
theorem dX6_wall_89 : decode cX6_wall 89 = .ok (.iload 5, 2) := by decide +kernel
theorem dX6_wall_91 : decode cX6_wall 91 = .ok (.ireturn, 1) := by decide +kernel
theorem dX6_mends_0 : decode cX6_mends 0 = .ok (.aload_n 0, 1) := by decide +kernel
theorem dX6_mends_1 : decode cX6_mends 1 = .ok (.getfield 33, 3) := by decide +kernel
theorem dX6_mends_4 : decode cX6_mends 4 = .ok (.aload_n 0, 1) := by decide +kernel
theorem dX6_mends_5 : decode cX6_mends 5 = .ok (.getfield 10, 3) := by decide +kernel
theorem dX6_mends_8 : decode cX6_mends 8 = .ok (.invokevirtual 73, 3) := by decide +kernel
theorem dX6_mends_11 : decode cX6_mends 11 = .ok (.aload_n 0, 1) := by decide +kernel
theorem dX6_mends_12 : decode cX6_mends 12 = .ok (.getfield 26, 3) := by decide +kernel
theorem dX6_mends_15 : decode cX6_mends 15 = .ok (.invokevirtual 110, 3) := by decide +kernel
theorem dX6_mends_18 : decode cX6_mends 18 = .ok (.aload_n 0, 1) := by decide +kernel
theorem dX6_mends_19 : decode cX6_mends 19 = .ok (.getfield 10, 3) := by decide +kernel
theorem dX6_mends_22 : decode cX6_mends 22 = .ok (.getfield 69, 3) := by decide +kernel
theorem dX6_mends_25 : decode cX6_mends 25 = .ok (.aload_n 0, 1) := by decide +kernel
theorem dX6_mends_26 : decode cX6_mends 26 = .ok (.getfield 10, 3) := by decide +kernel
theorem dX6_mends_29 : decode cX6_mends 29 = .ok (.invokevirtual 113, 3) := by decide +kernel
theorem dX6_mends_32 : decode cX6_mends 32 = .ok (.isub, 1) := by decide +kernel
theorem dX6_mends_33 : decode cX6_mends 33 = .ok (.istore_n 1, 1) := by decide +kernel
theorem dX6_mends_34 : decode cX6_mends 34 = .ok (.iconst 0, 1) := by decide +kernel
theorem dX6_mends_35 : decode cX6_mends 35 = .ok (.istore_n 2, 1) := by decide +kernel
theorem dX6_mends_36 : decode cX6_mends 36 = .ok (.iload_n 2, 1) := by decide +kernel
theorem dX6_mends_37 : decode cX6_mends 37 = .ok (.aload_n 0, 1) := by decide +kernel
theorem dX6_mends_38 : decode cX6_mends 38 = .ok (.getfield 10, 3) := by decide +kernel
theorem dX6_mends_41 : decode cX6_mends 41 = .ok (.getfield 69, 3) := by decide +kernel
theorem dX6_mends_44 : decode cX6_mends 44 = .ok (.if_icmp .ge 19, 3) := by decide +kernel
theorem dX6_mends_47 : decode cX6_mends 47 = .ok (.aload_n 0, 1) := by decide +kernel
theorem dX6_mends_48 : decode cX6_mends 48 = .ok (.getfield 10, 3) := by decide +kernel
theorem dX6_mends_51 : decode cX6_mends 51 = .ok (.getfield 117, 3) := by decide +kernel
theorem dX6_mends_54 : decode cX6_mends 54 = .ok (.iload_n 2, 1) := by decide +kernel
theorem dX6_mends_55 : decode cX6_mends 55 = .ok (.iconst 1, 1) := by decide +kernel
theorem dX6_mends_56 : decode cX6_mends 56 = .ok (.iastore, 1) := by decide +kernel
theorem dX6_mends_57 : decode cX6_mends 57 = .ok (.iinc 2 1, 3) := by decide +kernel
theorem dX6_mends_60 : decode cX6_mends 60 = .ok (.goto (-24), 3) := by decide +kernel
theorem dX6_mends_63 : decode cX6_mends 63 = .ok (.iload_n 1, 1) := by decide +kernel
theorem dX6_mends_64 : decode cX6_mends 64 = .ok (.ireturn, 1) := by decide +kernel
theorem dX6_anew_0 : decode cX6_anew 0 = .ok (.aload_n 0, 1) := by decide +kernel
theorem dX6_anew_1 : decode cX6_anew 1 = .ok (.getfield 33, 3) := by decide +kernel
theorem dX6_anew_4 : decode cX6_anew 4 = .ok (.aload_n 0, 1) := by decide +kernel
theorem dX6_anew_5 : decode cX6_anew 5 = .ok (.getfield 10, 3) := by decide +kernel
theorem dX6_anew_8 : decode cX6_anew 8 = .ok (.invokevirtual 73, 3) := by decide +kernel
theorem dX6_anew_11 : decode cX6_anew 11 = .ok (.aload_n 0, 1) := by decide +kernel
theorem dX6_anew_12 : decode cX6_anew 12 = .ok (.getfield 26, 3) := by decide +kernel
theorem dX6_anew_15 : decode cX6_anew 15 = .ok (.invokevirtual 110, 3) := by decide +kernel
theorem dX6_anew_18 : decode cX6_anew 18 = .ok (.aload_n 0, 1) := by decide +kernel
theorem dX6_anew_19 : decode cX6_anew 19 = .ok (.getfield 10, 3) := by decide +kernel
theorem dX6_anew_22 : decode cX6_anew 22 = .ok (.getfield 69, 3) := by decide +kernel
theorem dX6_anew_25 : decode cX6_anew 25 = .ok (.istore_n 1, 1) := by decide +kernel
theorem dX6_anew_26 : decode cX6_anew 26 = .ok (.aload_n 0, 1) := by decide +kernel
theorem dX6_anew_27 : decode cX6_anew 27 = .ok (.getfield 10, 3) := by decide +kernel
theorem dX6_anew_30 : decode cX6_anew 30 = .ok (.invokevirtual 120, 3) := by decide +kernel
theorem dX6_anew_33 : decode cX6_anew 33 = .ok (.iload_n 1, 1) := by decide +kernel
theorem dX6_anew_34 : decode cX6_anew 34 = .ok (.ireturn, 1) := by decide +kernel
theorem dX6_of_0 : decode cX6_of 0 = .ok (.aload_n 0, 1) := by decide +kernel
theorem dX6_of_1 : decode cX6_of 1 = .ok (.getfield 10, 3) := by decide +kernel
theorem dX6_of_4 : decode cX6_of 4 = .ok (.iload_n 1, 1) := by decide +kernel
theorem dX6_of_5 : decode cX6_of 5 = .ok (.invokevirtual 101, 3) := by decide +kernel
theorem dX6_of_8 : decode cX6_of 8 = .ok (.ifCond .eq 11, 3) := by decide +kernel
theorem dX6_of_11 : decode cX6_of 11 = .ok (.iload_n 2, 1) := by decide +kernel
theorem dX6_of_12 : decode cX6_of 12 = .ok (.iconst 5, 1) := by decide +kernel
theorem dX6_of_13 : decode cX6_of 13 = .ok (.invokestatic 81, 3) := by decide +kernel
theorem dX6_of_16 : decode cX6_of 16 = .ok (.ifCond .ne 10, 3) := by decide +kernel
theorem dX6_of_19 : decode cX6_of 19 = .ok (.aload_n 0, 1) := by decide +kernel
theorem dX6_of_20 : decode cX6_of 20 = .ok (.bipush (-2), 2) := by decide +kernel
theorem dX6_of_22 : decode cX6_of 22 = .ok (.invokevirtual 62, 3) := by decide +kernel
theorem dX6_of_25 : decode cX6_of 25 = .ok (.ireturn, 1) := by decide +kernel
theorem dX6_of_26 : decode cX6_of 26 = .ok (.aload_n 0, 1) := by decide +kernel
theorem dX6_of_27 : decode cX6_of 27 = .ok (.getfield 19, 3) := by decide +kernel
theorem dX6_of_30 : decode cX6_of 30 = .ok (.aload_n 0, 1) := by decide +kernel
theorem dX6_of_31 : decode cX6_of 31 = .ok (.getfield 10, 3) := by decide +kernel
theorem dX6_of_34 : decode cX6_of 34 = .ok (.invokevirtual 123, 3) := by decide +kernel
theorem dX6_of_37 : decode cX6_of 37 = .ok (.aload_n 0, 1) := by decide +kernel
theorem dX6_of_38 : decode cX6_of 38 = .ok (.iload_n 1, 1) := by decide +kernel
theorem dX6_of_39 : decode cX6_of 39 = .ok (.iload_n 2, 1) := by decide +kernel
theorem dX6_of_40 : decode cX6_of 40 = .ok (.invokevirtual 126, 3) := by decide +kernel
theorem dX6_of_43 : decode cX6_of 43 = .ok (.ireturn, 1) := by decide +kernel
theorem dX6_rests_0 : decode cX6_rests 0 = .ok (.iload_n 1, 1) := by decide +kernel
theorem dX6_rests_1 : decode cX6_rests 1 = .ok (.invokestatic 55, 3) := by decide +kernel
theorem dX6_rests_4 : decode cX6_rests 4 = .ok (.ifCond .ne 10, 3) := by decide +kernel
theorem dX6_rests_7 : decode cX6_rests 7 = .ok (.aload_n 0, 1) := by decide +kernel
theorem dX6_rests_8 : decode cX6_rests 8 = .ok (.bipush (-2), 2) := by decide +kernel
theorem dX6_rests_10 : decode cX6_rests 10 = .ok (.invokevirtual 62, 3) := by decide +kernel
theorem dX6_rests_13 : decode cX6_rests 13 = .ok (.ireturn, 1) := by decide +kernel
theorem dX6_rests_14 : decode cX6_rests 14 = .ok (.aload_n 0, 1) := by decide +kernel
theorem dX6_rests_15 : decode cX6_rests 15 = .ok (.getfield 19, 3) := by decide +kernel
theorem dX6_rests_18 : decode cX6_rests 18 = .ok (.aload_n 0, 1) := by decide +kernel
theorem dX6_rests_19 : decode cX6_rests 19 = .ok (.getfield 10, 3) := by decide +kernel
theorem dX6_rests_22 : decode cX6_rests 22 = .ok (.invokevirtual 123, 3) := by decide +kernel
theorem dX6_rests_25 : decode cX6_rests 25 = .ok (.aload_n 0, 1) := by decide +kernel
theorem dX6_rests_26 : decode cX6_rests 26 = .ok (.getfield 19, 3) := by decide +kernel
theorem dX6_rests_29 : decode cX6_rests 29 = .ok (.getfield 130, 3) := by decide +kernel
theorem dX6_rests_32 : decode cX6_rests 32 = .ok (.iload_n 1, 1) := by decide +kernel
theorem dX6_rests_33 : decode cX6_rests 33 = .ok (.iaload, 1) := by decide +kernel
theorem dX6_rests_34 : decode cX6_rests 34 = .ok (.ireturn, 1) := by decide +kernel
theorem dX6_all_0 : decode cX6_all 0 = .ok (.iload_n 1, 1) := by decide +kernel
theorem dX6_all_1 : decode cX6_all 1 = .ok (.bipush 7, 2) := by decide +kernel
theorem dX6_all_3 : decode cX6_all 3 = .ok (.invokestatic 81, 3) := by decide +kernel
theorem dX6_all_6 : decode cX6_all 6 = .ok (.ifCond .ne 10, 3) := by decide +kernel
theorem dX6_all_9 : decode cX6_all 9 = .ok (.aload_n 0, 1) := by decide +kernel
theorem dX6_all_10 : decode cX6_all 10 = .ok (.bipush (-2), 2) := by decide +kernel
theorem dX6_all_12 : decode cX6_all 12 = .ok (.invokevirtual 62, 3) := by decide +kernel
theorem dX6_all_15 : decode cX6_all 15 = .ok (.ireturn, 1) := by decide +kernel
theorem dX6_all_16 : decode cX6_all 16 = .ok (.aload_n 0, 1) := by decide +kernel
theorem dX6_all_17 : decode cX6_all 17 = .ok (.getfield 19, 3) := by decide +kernel
theorem dX6_all_20 : decode cX6_all 20 = .ok (.aload_n 0, 1) := by decide +kernel
theorem dX6_all_21 : decode cX6_all 21 = .ok (.getfield 10, 3) := by decide +kernel
theorem dX6_all_24 : decode cX6_all 24 = .ok (.invokevirtual 123, 3) := by decide +kernel
theorem dX6_all_27 : decode cX6_all 27 = .ok (.aload_n 0, 1) := by decide +kernel
theorem dX6_all_28 : decode cX6_all 28 = .ok (.iload_n 1, 1) := by decide +kernel
theorem dX6_all_29 : decode cX6_all 29 = .ok (.invokevirtual 133, 3) := by decide +kernel
theorem dX6_all_32 : decode cX6_all 32 = .ok (.ireturn, 1) := by decide +kernel
theorem dX6_beside_0 : decode cX6_beside 0 = .ok (.iload_n 1, 1) := by decide +kernel
theorem dX6_beside_1 : decode cX6_beside 1 = .ok (.iload_n 2, 1) := by decide +kernel
theorem dX6_beside_2 : decode cX6_beside 2 = .ok (.if_icmp .eq 25, 3) := by decide +kernel
theorem dX6_beside_5 : decode cX6_beside 5 = .ok (.aload_n 0, 1) := by decide +kernel
theorem dX6_beside_6 : decode cX6_beside 6 = .ok (.getfield 10, 3) := by decide +kernel
theorem dX6_beside_9 : decode cX6_beside 9 = .ok (.iload_n 1, 1) := by decide +kernel
theorem dX6_beside_10 : decode cX6_beside 10 = .ok (.invokevirtual 136, 3) := by decide +kernel
theorem dX6_beside_13 : decode cX6_beside 13 = .ok (.ifCond .eq 14, 3) := by decide +kernel
theorem dX6_beside_16 : decode cX6_beside 16 = .ok (.aload_n 0, 1) := by decide +kernel
theorem dX6_beside_17 : decode cX6_beside 17 = .ok (.getfield 10, 3) := by decide +kernel
theorem dX6_beside_20 : decode cX6_beside 20 = .ok (.iload_n 2, 1) := by decide +kernel
theorem dX6_beside_21 : decode cX6_beside 21 = .ok (.invokevirtual 136, 3) := by decide +kernel
theorem dX6_beside_24 : decode cX6_beside 24 = .ok (.ifCond .ne 10, 3) := by decide +kernel
theorem dX6_beside_27 : decode cX6_beside 27 = .ok (.aload_n 0, 1) := by decide +kernel
theorem dX6_beside_28 : decode cX6_beside 28 = .ok (.bipush (-2), 2) := by decide +kernel
theorem dX6_beside_30 : decode cX6_beside 30 = .ok (.invokevirtual 62, 3) := by decide +kernel
theorem dX6_beside_33 : decode cX6_beside 33 = .ok (.ireturn, 1) := by decide +kernel
theorem dX6_beside_34 : decode cX6_beside 34 = .ok (.aload_n 0, 1) := by decide +kernel
theorem dX6_beside_35 : decode cX6_beside 35 = .ok (.getfield 19, 3) := by decide +kernel
theorem dX6_beside_38 : decode cX6_beside 38 = .ok (.aload_n 0, 1) := by decide +kernel
theorem dX6_beside_39 : decode cX6_beside 39 = .ok (.getfield 10, 3) := by decide +kernel
theorem dX6_beside_42 : decode cX6_beside 42 = .ok (.invokevirtual 123, 3) := by decide +kernel
theorem dX6_beside_45 : decode cX6_beside 45 = .ok (.aload_n 0, 1) := by decide +kernel
theorem dX6_beside_46 : decode cX6_beside 46 = .ok (.getfield 19, 3) := by decide +kernel
theorem dX6_beside_49 : decode cX6_beside 49 = .ok (.aload_n 0, 1) := by decide +kernel
theorem dX6_beside_50 : decode cX6_beside 50 = .ok (.getfield 10, 3) := by decide +kernel
theorem dX6_beside_53 : decode cX6_beside 53 = .ok (.iload_n 1, 1) := by decide +kernel
theorem dX6_beside_54 : decode cX6_beside 54 = .ok (.iload_n 2, 1) := by decide +kernel
theorem dX6_beside_55 : decode cX6_beside 55 = .ok (.invokevirtual 139, 3) := by decide +kernel
theorem dX6_beside_58 : decode cX6_beside 58 = .ok (.ifCond .eq 7, 3) := by decide +kernel
theorem dX6_beside_61 : decode cX6_beside 61 = .ok (.iconst 1, 1) := by decide +kernel
theorem dX6_beside_62 : decode cX6_beside 62 = .ok (.goto 4, 3) := by decide +kernel
theorem dX6_beside_65 : decode cX6_beside 65 = .ok (.iconst 0, 1) := by decide +kernel
theorem dX6_beside_66 : decode cX6_beside 66 = .ok (.ireturn, 1) := by decide +kernel
theorem dX6_runs_0 : decode cX6_runs 0 = .ok (.aload_n 0, 1) := by decide +kernel
theorem dX6_runs_1 : decode cX6_runs 1 = .ok (.getfield 33, 3) := by decide +kernel
theorem dX6_runs_4 : decode cX6_runs 4 = .ok (.aload_n 0, 1) := by decide +kernel
theorem dX6_runs_5 : decode cX6_runs 5 = .ok (.getfield 10, 3) := by decide +kernel
theorem dX6_runs_8 : decode cX6_runs 8 = .ok (.invokevirtual 73, 3) := by decide +kernel
theorem dX6_runs_11 : decode cX6_runs 11 = .ok (.aload_n 0, 1) := by decide +kernel
theorem dX6_runs_12 : decode cX6_runs 12 = .ok (.getfield 26, 3) := by decide +kernel
theorem dX6_runs_15 : decode cX6_runs 15 = .ok (.aload_n 0, 1) := by decide +kernel
theorem dX6_runs_16 : decode cX6_runs 16 = .ok (.getfield 10, 3) := by decide +kernel
theorem dX6_runs_19 : decode cX6_runs 19 = .ok (.aload_n 0, 1) := by decide +kernel
theorem dX6_runs_20 : decode cX6_runs 20 = .ok (.getfield 19, 3) := by decide +kernel
theorem dX6_runs_23 : decode cX6_runs 23 = .ok (.invokevirtual 143, 3) := by decide +kernel
theorem dX6_runs_26 : decode cX6_runs 26 = .ok (.ireturn, 1) := by decide +kernel
theorem dX6_loses_0 : decode cX6_loses 0 = .ok (.aload_n 0, 1) := by decide +kernel
theorem dX6_loses_1 : decode cX6_loses 1 = .ok (.getfield 10, 3) := by decide +kernel
theorem dX6_loses_4 : decode cX6_loses 4 = .ok (.iload_n 1, 1) := by decide +kernel
theorem dX6_loses_5 : decode cX6_loses 5 = .ok (.invokevirtual 101, 3) := by decide +kernel
theorem dX6_loses_8 : decode cX6_loses 8 = .ok (.ifCond .ne 10, 3) := by decide +kernel
theorem dX6_loses_11 : decode cX6_loses 11 = .ok (.aload_n 0, 1) := by decide +kernel
theorem dX6_loses_12 : decode cX6_loses 12 = .ok (.bipush (-2), 2) := by decide +kernel
theorem dX6_loses_14 : decode cX6_loses 14 = .ok (.invokevirtual 62, 3) := by decide +kernel
theorem dX6_loses_17 : decode cX6_loses 17 = .ok (.ireturn, 1) := by decide +kernel
theorem dX6_loses_18 : decode cX6_loses 18 = .ok (.aload_n 0, 1) := by decide +kernel
theorem dX6_loses_19 : decode cX6_loses 19 = .ok (.getfield 10, 3) := by decide +kernel
theorem dX6_loses_22 : decode cX6_loses 22 = .ok (.iload_n 1, 1) := by decide +kernel
theorem dX6_loses_23 : decode cX6_loses 23 = .ok (.invokevirtual 136, 3) := by decide +kernel
theorem dX6_loses_26 : decode cX6_loses 26 = .ok (.ifCond .ne 10, 3) := by decide +kernel
theorem dX6_loses_29 : decode cX6_loses 29 = .ok (.aload_n 0, 1) := by decide +kernel
theorem dX6_loses_30 : decode cX6_loses 30 = .ok (.bipush (-3), 2) := by decide +kernel
theorem dX6_loses_32 : decode cX6_loses 32 = .ok (.invokevirtual 62, 3) := by decide +kernel
theorem dX6_loses_35 : decode cX6_loses 35 = .ok (.ireturn, 1) := by decide +kernel
theorem dX6_loses_36 : decode cX6_loses 36 = .ok (.aload_n 0, 1) := by decide +kernel
theorem dX6_loses_37 : decode cX6_loses 37 = .ok (.getfield 33, 3) := by decide +kernel
theorem dX6_loses_40 : decode cX6_loses 40 = .ok (.aload_n 0, 1) := by decide +kernel
theorem dX6_loses_41 : decode cX6_loses 41 = .ok (.getfield 10, 3) := by decide +kernel
theorem dX6_loses_44 : decode cX6_loses 44 = .ok (.invokevirtual 73, 3) := by decide +kernel
theorem dX6_loses_47 : decode cX6_loses 47 = .ok (.aload_n 0, 1) := by decide +kernel
theorem dX6_loses_48 : decode cX6_loses 48 = .ok (.getfield 10, 3) := by decide +kernel
theorem dX6_loses_51 : decode cX6_loses 51 = .ok (.getfield 117, 3) := by decide +kernel
theorem dX6_loses_54 : decode cX6_loses 54 = .ok (.iload_n 1, 1) := by decide +kernel
theorem dX6_loses_55 : decode cX6_loses 55 = .ok (.iconst 0, 1) := by decide +kernel
theorem dX6_loses_56 : decode cX6_loses 56 = .ok (.iastore, 1) := by decide +kernel
theorem dX6_loses_57 : decode cX6_loses 57 = .ok (.iconst 1, 1) := by decide +kernel
theorem dX6_loses_58 : decode cX6_loses 58 = .ok (.aload_n 0, 1) := by decide +kernel
theorem dX6_loses_59 : decode cX6_loses 59 = .ok (.getfield 26, 3) := by decide +kernel
theorem dX6_loses_62 : decode cX6_loses 62 = .ok (.aload_n 0, 1) := by decide +kernel
theorem dX6_loses_63 : decode cX6_loses 63 = .ok (.getfield 10, 3) := by decide +kernel
theorem dX6_loses_66 : decode cX6_loses 66 = .ok (.aload_n 0, 1) := by decide +kernel
theorem dX6_loses_67 : decode cX6_loses 67 = .ok (.getfield 19, 3) := by decide +kernel
theorem dX6_loses_70 : decode cX6_loses 70 = .ok (.invokevirtual 143, 3) := by decide +kernel
theorem dX6_loses_73 : decode cX6_loses 73 = .ok (.iadd, 1) := by decide +kernel
theorem dX6_loses_74 : decode cX6_loses 74 = .ok (.ireturn, 1) := by decide +kernel
theorem dX6_wave_0 : decode cX6_wave 0 = .ok (.iload_n 1, 1) := by decide +kernel
theorem dX6_wave_1 : decode cX6_wave 1 = .ok (.tableswitch 88 0 2 #[27, 35, 65], 27) := by decide +kernel
theorem dX6_wave_28 : decode cX6_wave 28 = .ok (.aload_n 0, 1) := by decide +kernel
theorem dX6_wave_29 : decode cX6_wave 29 = .ok (.getfield 26, 3) := by decide +kernel
theorem dX6_wave_32 : decode cX6_wave 32 = .ok (.getfield 147, 3) := by decide +kernel
theorem dX6_wave_35 : decode cX6_wave 35 = .ok (.ireturn, 1) := by decide +kernel
theorem dX6_wave_36 : decode cX6_wave 36 = .ok (.aload_n 0, 1) := by decide +kernel
theorem dX6_wave_37 : decode cX6_wave 37 = .ok (.getfield 10, 3) := by decide +kernel
theorem dX6_wave_40 : decode cX6_wave 40 = .ok (.iload_n 2, 1) := by decide +kernel
theorem dX6_wave_41 : decode cX6_wave 41 = .ok (.invokevirtual 101, 3) := by decide +kernel
theorem dX6_wave_44 : decode cX6_wave 44 = .ok (.ifCond .eq 15, 3) := by decide +kernel
theorem dX6_wave_47 : decode cX6_wave 47 = .ok (.aload_n 0, 1) := by decide +kernel
theorem dX6_wave_48 : decode cX6_wave 48 = .ok (.getfield 26, 3) := by decide +kernel
theorem dX6_wave_51 : decode cX6_wave 51 = .ok (.getfield 150, 3) := by decide +kernel
theorem dX6_wave_54 : decode cX6_wave 54 = .ok (.iload_n 2, 1) := by decide +kernel
theorem dX6_wave_55 : decode cX6_wave 55 = .ok (.iaload, 1) := by decide +kernel
theorem dX6_wave_56 : decode cX6_wave 56 = .ok (.goto 9, 3) := by decide +kernel
theorem dX6_wave_59 : decode cX6_wave 59 = .ok (.aload_n 0, 1) := by decide +kernel
theorem dX6_wave_60 : decode cX6_wave 60 = .ok (.bipush (-2), 2) := by decide +kernel
theorem dX6_wave_62 : decode cX6_wave 62 = .ok (.invokevirtual 62, 3) := by decide +kernel
theorem dX6_wave_65 : decode cX6_wave 65 = .ok (.ireturn, 1) := by decide +kernel
theorem dX6_wave_66 : decode cX6_wave 66 = .ok (.iload_n 2, 1) := by decide +kernel
theorem dX6_wave_67 : decode cX6_wave 67 = .ok (.iconst 1, 1) := by decide +kernel
theorem dX6_wave_68 : decode cX6_wave 68 = .ok (.if_icmp .lt 14, 3) := by decide +kernel
theorem dX6_wave_71 : decode cX6_wave 71 = .ok (.aload_n 0, 1) := by decide +kernel
theorem dX6_wave_72 : decode cX6_wave 72 = .ok (.getfield 26, 3) := by decide +kernel
theorem dX6_wave_75 : decode cX6_wave 75 = .ok (.iload_n 2, 1) := by decide +kernel
theorem dX6_wave_76 : decode cX6_wave 76 = .ok (.invokevirtual 153, 3) := by decide +kernel
theorem dX6_wave_79 : decode cX6_wave 79 = .ok (.goto 9, 3) := by decide +kernel
theorem dX6_wave_82 : decode cX6_wave 82 = .ok (.aload_n 0, 1) := by decide +kernel
theorem dX6_wave_83 : decode cX6_wave 83 = .ok (.bipush (-2), 2) := by decide +kernel
theorem dX6_wave_85 : decode cX6_wave 85 = .ok (.invokevirtual 62, 3) := by decide +kernel
theorem dX6_wave_88 : decode cX6_wave 88 = .ok (.ireturn, 1) := by decide +kernel
theorem dX6_wave_89 : decode cX6_wave 89 = .ok (.aload_n 0, 1) := by decide +kernel
theorem dX6_wave_90 : decode cX6_wave 90 = .ok (.bipush (-2), 2) := by decide +kernel
theorem dX6_wave_92 : decode cX6_wave 92 = .ok (.invokevirtual 62, 3) := by decide +kernel
theorem dX6_wave_95 : decode cX6_wave 95 = .ok (.ireturn, 1) := by decide +kernel
theorem dX6_would_0 : decode cX6_would 0 = .ok (.aload_n 0, 1) := by decide +kernel
theorem dX6_would_1 : decode cX6_would 1 = .ok (.getfield 10, 3) := by decide +kernel
theorem dX6_would_4 : decode cX6_would 4 = .ok (.iload_n 1, 1) := by decide +kernel
theorem dX6_would_5 : decode cX6_would 5 = .ok (.invokevirtual 101, 3) := by decide +kernel
theorem dX6_would_8 : decode cX6_would 8 = .ok (.ifCond .eq 11, 3) := by decide +kernel
theorem dX6_would_11 : decode cX6_would 11 = .ok (.iload_n 2, 1) := by decide +kernel
theorem dX6_would_12 : decode cX6_would 12 = .ok (.iconst 1, 1) := by decide +kernel
theorem dX6_would_13 : decode cX6_would 13 = .ok (.invokestatic 81, 3) := by decide +kernel
theorem dX6_would_16 : decode cX6_would 16 = .ok (.ifCond .ne 10, 3) := by decide +kernel
theorem dX6_would_19 : decode cX6_would 19 = .ok (.aload_n 0, 1) := by decide +kernel
theorem dX6_would_20 : decode cX6_would 20 = .ok (.bipush (-2), 2) := by decide +kernel
theorem dX6_would_22 : decode cX6_would 22 = .ok (.invokevirtual 62, 3) := by decide +kernel
theorem dX6_would_25 : decode cX6_would 25 = .ok (.ireturn, 1) := by decide +kernel
theorem dX6_would_26 : decode cX6_would 26 = .ok (.aload_n 0, 1) := by decide +kernel
theorem dX6_would_27 : decode cX6_would 27 = .ok (.getfield 10, 3) := by decide +kernel
theorem dX6_would_30 : decode cX6_would 30 = .ok (.iload_n 1, 1) := by decide +kernel
theorem dX6_would_31 : decode cX6_would 31 = .ok (.invokevirtual 136, 3) := by decide +kernel
theorem dX6_would_34 : decode cX6_would 34 = .ok (.ifCond .ne 10, 3) := by decide +kernel
theorem dX6_would_37 : decode cX6_would 37 = .ok (.aload_n 0, 1) := by decide +kernel
theorem dX6_would_38 : decode cX6_would 38 = .ok (.bipush (-3), 2) := by decide +kernel
theorem dX6_would_40 : decode cX6_would 40 = .ok (.invokevirtual 62, 3) := by decide +kernel
theorem dX6_would_43 : decode cX6_would 43 = .ok (.ireturn, 1) := by decide +kernel
theorem dX6_would_44 : decode cX6_would 44 = .ok (.aload_n 0, 1) := by decide +kernel
theorem dX6_would_45 : decode cX6_would 45 = .ok (.getfield 40, 3) := by decide +kernel
theorem dX6_would_48 : decode cX6_would 48 = .ok (.aload_n 0, 1) := by decide +kernel
theorem dX6_would_49 : decode cX6_would 49 = .ok (.getfield 10, 3) := by decide +kernel
theorem dX6_would_52 : decode cX6_would 52 = .ok (.iload_n 1, 1) := by decide +kernel
theorem dX6_would_53 : decode cX6_would 53 = .ok (.invokevirtual 156, 3) := by decide +kernel
theorem dX6_would_56 : decode cX6_would 56 = .ok (.istore_n 3, 1) := by decide +kernel
theorem dX6_would_57 : decode cX6_would 57 = .ok (.iload_n 2, 1) := by decide +kernel
theorem dX6_would_58 : decode cX6_would 58 = .ok (.ifCond .ne 7, 3) := by decide +kernel
theorem dX6_would_61 : decode cX6_would 61 = .ok (.iload_n 3, 1) := by decide +kernel
theorem dX6_would_62 : decode cX6_would 62 = .ok (.goto 13, 3) := by decide +kernel
theorem dX6_would_65 : decode cX6_would 65 = .ok (.aload_n 0, 1) := by decide +kernel
theorem dX6_would_66 : decode cX6_would 66 = .ok (.getfield 40, 3) := by decide +kernel
theorem dX6_would_69 : decode cX6_would 69 = .ok (.getfield 160, 3) := by decide +kernel
theorem dX6_would_72 : decode cX6_would 72 = .ok (.invokevirtual 161, 3) := by decide +kernel
theorem dX6_would_75 : decode cX6_would 75 = .ok (.ireturn, 1) := by decide +kernel
theorem dX6_worst_0 : decode cX6_worst 0 = .ok (.iload_n 1, 1) := by decide +kernel
theorem dX6_worst_1 : decode cX6_worst 1 = .ok (.iconst 1, 1) := by decide +kernel
theorem dX6_worst_2 : decode cX6_worst 2 = .ok (.invokestatic 81, 3) := by decide +kernel
theorem dX6_worst_5 : decode cX6_worst 5 = .ok (.ifCond .ne 10, 3) := by decide +kernel
theorem dX6_worst_8 : decode cX6_worst 8 = .ok (.aload_n 0, 1) := by decide +kernel
theorem dX6_worst_9 : decode cX6_worst 9 = .ok (.bipush (-2), 2) := by decide +kernel
theorem dX6_worst_11 : decode cX6_worst 11 = .ok (.invokevirtual 62, 3) := by decide +kernel
theorem dX6_worst_14 : decode cX6_worst 14 = .ok (.ireturn, 1) := by decide +kernel
theorem dX6_worst_15 : decode cX6_worst 15 = .ok (.iconst (-1), 1) := by decide +kernel
theorem dX6_worst_16 : decode cX6_worst 16 = .ok (.istore_n 2, 1) := by decide +kernel
theorem dX6_worst_17 : decode cX6_worst 17 = .ok (.iconst 0, 1) := by decide +kernel
theorem dX6_worst_18 : decode cX6_worst 18 = .ok (.istore_n 3, 1) := by decide +kernel
theorem dX6_worst_19 : decode cX6_worst 19 = .ok (.iconst 0, 1) := by decide +kernel
theorem dX6_worst_20 : decode cX6_worst 20 = .ok (.istore 4, 2) := by decide +kernel
theorem dX6_worst_22 : decode cX6_worst 22 = .ok (.iload 4, 2) := by decide +kernel
theorem dX6_worst_24 : decode cX6_worst 24 = .ok (.aload_n 0, 1) := by decide +kernel
theorem dX6_worst_25 : decode cX6_worst 25 = .ok (.getfield 10, 3) := by decide +kernel
theorem dX6_worst_28 : decode cX6_worst 28 = .ok (.getfield 69, 3) := by decide +kernel
theorem dX6_worst_31 : decode cX6_worst 31 = .ok (.if_icmp .ge 52, 3) := by decide +kernel
theorem dX6_worst_34 : decode cX6_worst 34 = .ok (.aload_n 0, 1) := by decide +kernel
theorem dX6_worst_35 : decode cX6_worst 35 = .ok (.getfield 10, 3) := by decide +kernel
theorem dX6_worst_38 : decode cX6_worst 38 = .ok (.iload 4, 2) := by decide +kernel
theorem dX6_worst_40 : decode cX6_worst 40 = .ok (.invokevirtual 136, 3) := by decide +kernel
theorem dX6_worst_43 : decode cX6_worst 43 = .ok (.ifCond .eq 19, 3) := by decide +kernel
theorem dX6_worst_46 : decode cX6_worst 46 = .ok (.aload_n 0, 1) := by decide +kernel
theorem dX6_worst_47 : decode cX6_worst 47 = .ok (.getfield 40, 3) := by decide +kernel
theorem dX6_worst_50 : decode cX6_worst 50 = .ok (.aload_n 0, 1) := by decide +kernel
theorem dX6_worst_51 : decode cX6_worst 51 = .ok (.getfield 10, 3) := by decide +kernel
theorem dX6_worst_54 : decode cX6_worst 54 = .ok (.iload 4, 2) := by decide +kernel
theorem dX6_worst_56 : decode cX6_worst 56 = .ok (.invokevirtual 156, 3) := by decide +kernel
theorem dX6_worst_59 : decode cX6_worst 59 = .ok (.goto 4, 3) := by decide +kernel
theorem dX6_worst_62 : decode cX6_worst 62 = .ok (.iconst 0, 1) := by decide +kernel
theorem dX6_worst_63 : decode cX6_worst 63 = .ok (.istore 5, 2) := by decide +kernel
theorem dX6_worst_65 : decode cX6_worst 65 = .ok (.iload 5, 2) := by decide +kernel
theorem dX6_worst_67 : decode cX6_worst 67 = .ok (.iload_n 3, 1) := by decide +kernel
theorem dX6_worst_68 : decode cX6_worst 68 = .ok (.if_icmp .le 9, 3) := by decide +kernel
theorem dX6_worst_71 : decode cX6_worst 71 = .ok (.iload 5, 2) := by decide +kernel
theorem dX6_worst_73 : decode cX6_worst 73 = .ok (.istore_n 3, 1) := by decide +kernel
theorem dX6_worst_74 : decode cX6_worst 74 = .ok (.iload 4, 2) := by decide +kernel
theorem dX6_worst_76 : decode cX6_worst 76 = .ok (.istore_n 2, 1) := by decide +kernel
theorem dX6_worst_77 : decode cX6_worst 77 = .ok (.iinc 4 1, 3) := by decide +kernel
theorem dX6_worst_80 : decode cX6_worst 80 = .ok (.goto (-58), 3) := by decide +kernel
theorem dX6_worst_83 : decode cX6_worst 83 = .ok (.iload_n 1, 1) := by decide +kernel
theorem dX6_worst_84 : decode cX6_worst 84 = .ok (.ifCond .ne 7, 3) := by decide +kernel
theorem dX6_worst_87 : decode cX6_worst 87 = .ok (.iload_n 2, 1) := by decide +kernel
theorem dX6_worst_88 : decode cX6_worst 88 = .ok (.goto 4, 3) := by decide +kernel
theorem dX6_worst_91 : decode cX6_worst 91 = .ok (.iload_n 3, 1) := by decide +kernel
theorem dX6_worst_92 : decode cX6_worst 92 = .ok (.ireturn, 1) := by decide +kernel
theorem dX6_cut_0 : decode cX6_cut 0 = .ok (.aload_n 0, 1) := by decide +kernel
theorem dX6_cut_1 : decode cX6_cut 1 = .ok (.getfield 10, 3) := by decide +kernel
theorem dX6_cut_4 : decode cX6_cut 4 = .ok (.iload_n 1, 1) := by decide +kernel
theorem dX6_cut_5 : decode cX6_cut 5 = .ok (.invokevirtual 101, 3) := by decide +kernel
theorem dX6_cut_8 : decode cX6_cut 8 = .ok (.ifCond .ne 10, 3) := by decide +kernel
theorem dX6_cut_11 : decode cX6_cut 11 = .ok (.aload_n 0, 1) := by decide +kernel
theorem dX6_cut_12 : decode cX6_cut 12 = .ok (.bipush (-2), 2) := by decide +kernel
theorem dX6_cut_14 : decode cX6_cut 14 = .ok (.invokevirtual 62, 3) := by decide +kernel
theorem dX6_cut_17 : decode cX6_cut 17 = .ok (.ireturn, 1) := by decide +kernel
theorem dX6_cut_18 : decode cX6_cut 18 = .ok (.aload_n 0, 1) := by decide +kernel
theorem dX6_cut_19 : decode cX6_cut 19 = .ok (.getfield 10, 3) := by decide +kernel
theorem dX6_cut_22 : decode cX6_cut 22 = .ok (.iload_n 1, 1) := by decide +kernel
theorem dX6_cut_23 : decode cX6_cut 23 = .ok (.invokevirtual 136, 3) := by decide +kernel
theorem dX6_cut_26 : decode cX6_cut 26 = .ok (.ifCond .ne 10, 3) := by decide +kernel
theorem dX6_cut_29 : decode cX6_cut 29 = .ok (.aload_n 0, 1) := by decide +kernel
theorem dX6_cut_30 : decode cX6_cut 30 = .ok (.bipush (-3), 2) := by decide +kernel
theorem dX6_cut_32 : decode cX6_cut 32 = .ok (.invokevirtual 62, 3) := by decide +kernel
theorem dX6_cut_35 : decode cX6_cut 35 = .ok (.ireturn, 1) := by decide +kernel
theorem dX6_cut_36 : decode cX6_cut 36 = .ok (.aload_n 0, 1) := by decide +kernel
theorem dX6_cut_37 : decode cX6_cut 37 = .ok (.getfield 40, 3) := by decide +kernel
theorem dX6_cut_40 : decode cX6_cut 40 = .ok (.aload_n 0, 1) := by decide +kernel
theorem dX6_cut_41 : decode cX6_cut 41 = .ok (.getfield 10, 3) := by decide +kernel
theorem dX6_cut_44 : decode cX6_cut 44 = .ok (.invokevirtual 164, 3) := by decide +kernel
theorem dX6_cut_47 : decode cX6_cut 47 = .ok (.aload_n 0, 1) := by decide +kernel
theorem dX6_cut_48 : decode cX6_cut 48 = .ok (.getfield 40, 3) := by decide +kernel
theorem dX6_cut_51 : decode cX6_cut 51 = .ok (.invokevirtual 167, 3) := by decide +kernel
theorem dX6_cut_54 : decode cX6_cut 54 = .ok (.pop, 1) := by decide +kernel
theorem dX6_cut_55 : decode cX6_cut 55 = .ok (.aload_n 0, 1) := by decide +kernel
theorem dX6_cut_56 : decode cX6_cut 56 = .ok (.getfield 40, 3) := by decide +kernel
theorem dX6_cut_59 : decode cX6_cut 59 = .ok (.getfield 169, 3) := by decide +kernel
theorem dX6_cut_62 : decode cX6_cut 62 = .ok (.iload_n 1, 1) := by decide +kernel
theorem dX6_cut_63 : decode cX6_cut 63 = .ok (.invokevirtual 136, 3) := by decide +kernel
theorem dX6_cut_66 : decode cX6_cut 66 = .ok (.ifCond .eq 28, 3) := by decide +kernel
theorem dX6_cut_69 : decode cX6_cut 69 = .ok (.aload_n 0, 1) := by decide +kernel
theorem dX6_cut_70 : decode cX6_cut 70 = .ok (.getfield 10, 3) := by decide +kernel
theorem dX6_cut_73 : decode cX6_cut 73 = .ok (.getfield 104, 3) := by decide +kernel
theorem dX6_cut_76 : decode cX6_cut 76 = .ok (.iload_n 1, 1) := by decide +kernel
theorem dX6_cut_77 : decode cX6_cut 77 = .ok (.iaload, 1) := by decide +kernel
theorem dX6_cut_78 : decode cX6_cut 78 = .ok (.aload_n 0, 1) := by decide +kernel
theorem dX6_cut_79 : decode cX6_cut 79 = .ok (.getfield 40, 3) := by decide +kernel
theorem dX6_cut_82 : decode cX6_cut 82 = .ok (.getfield 160, 3) := by decide +kernel
theorem dX6_cut_85 : decode cX6_cut 85 = .ok (.getfield 170, 3) := by decide +kernel
theorem dX6_cut_88 : decode cX6_cut 88 = .ok (.iload_n 1, 1) := by decide +kernel
theorem dX6_cut_89 : decode cX6_cut 89 = .ok (.iaload, 1) := by decide +kernel
theorem dX6_cut_90 : decode cX6_cut 90 = .ok (.isub, 1) := by decide +kernel
theorem dX6_cut_91 : decode cX6_cut 91 = .ok (.goto 12, 3) := by decide +kernel
theorem dX6_cut_94 : decode cX6_cut 94 = .ok (.aload_n 0, 1) := by decide +kernel
theorem dX6_cut_95 : decode cX6_cut 95 = .ok (.getfield 10, 3) := by decide +kernel
theorem dX6_cut_98 : decode cX6_cut 98 = .ok (.getfield 104, 3) := by decide +kernel
theorem dX6_cut_101 : decode cX6_cut 101 = .ok (.iload_n 1, 1) := by decide +kernel
theorem dX6_cut_102 : decode cX6_cut 102 = .ok (.iaload, 1) := by decide +kernel
theorem dX6_cut_103 : decode cX6_cut 103 = .ok (.ireturn, 1) := by decide +kernel
theorem dX6_mending_0 : decode cX6_mending 0 = .ok (.aload_n 0, 1) := by decide +kernel
theorem dX6_mending_1 : decode cX6_mending 1 = .ok (.getfield 19, 3) := by decide +kernel
theorem dX6_mending_4 : decode cX6_mending 4 = .ok (.aload_n 0, 1) := by decide +kernel
theorem dX6_mending_5 : decode cX6_mending 5 = .ok (.getfield 10, 3) := by decide +kernel
theorem dX6_mending_8 : decode cX6_mending 8 = .ok (.invokevirtual 123, 3) := by decide +kernel
theorem dX6_mending_11 : decode cX6_mending 11 = .ok (.iconst 0, 1) := by decide +kernel
theorem dX6_mending_12 : decode cX6_mending 12 = .ok (.istore_n 1, 1) := by decide +kernel
theorem dX6_mending_13 : decode cX6_mending 13 = .ok (.iconst 0, 1) := by decide +kernel
theorem dX6_mending_14 : decode cX6_mending 14 = .ok (.istore_n 2, 1) := by decide +kernel
theorem dX6_mending_15 : decode cX6_mending 15 = .ok (.iload_n 2, 1) := by decide +kernel
theorem dX6_mending_16 : decode cX6_mending 16 = .ok (.aload_n 0, 1) := by decide +kernel
theorem dX6_mending_17 : decode cX6_mending 17 = .ok (.getfield 10, 3) := by decide +kernel
theorem dX6_mending_20 : decode cX6_mending 20 = .ok (.getfield 69, 3) := by decide +kernel
theorem dX6_mending_23 : decode cX6_mending 23 = .ok (.if_icmp .ge 44, 3) := by decide +kernel
theorem dX6_mending_26 : decode cX6_mending 26 = .ok (.aload_n 0, 1) := by decide +kernel
theorem dX6_mending_27 : decode cX6_mending 27 = .ok (.getfield 10, 3) := by decide +kernel
theorem dX6_mending_30 : decode cX6_mending 30 = .ok (.iload_n 2, 1) := by decide +kernel
theorem dX6_mending_31 : decode cX6_mending 31 = .ok (.invokevirtual 136, 3) := by decide +kernel
theorem dX6_mending_34 : decode cX6_mending 34 = .ok (.ifCond .eq 27, 3) := by decide +kernel
theorem dX6_mending_37 : decode cX6_mending 37 = .ok (.iload_n 1, 1) := by decide +kernel
theorem dX6_mending_38 : decode cX6_mending 38 = .ok (.aload_n 0, 1) := by decide +kernel
theorem dX6_mending_39 : decode cX6_mending 39 = .ok (.getfield 19, 3) := by decide +kernel
theorem dX6_mending_42 : decode cX6_mending 42 = .ok (.getfield 170, 3) := by decide +kernel
theorem dX6_mending_45 : decode cX6_mending 45 = .ok (.iload_n 2, 1) := by decide +kernel
theorem dX6_mending_46 : decode cX6_mending 46 = .ok (.iaload, 1) := by decide +kernel
theorem dX6_mending_47 : decode cX6_mending 47 = .ok (.aload_n 0, 1) := by decide +kernel
theorem dX6_mending_48 : decode cX6_mending 48 = .ok (.getfield 10, 3) := by decide +kernel
theorem dX6_mending_51 : decode cX6_mending 51 = .ok (.getfield 104, 3) := by decide +kernel
theorem dX6_mending_54 : decode cX6_mending 54 = .ok (.iload_n 2, 1) := by decide +kernel
theorem dX6_mending_55 : decode cX6_mending 55 = .ok (.iaload, 1) := by decide +kernel
theorem dX6_mending_56 : decode cX6_mending 56 = .ok (.isub, 1) := by decide +kernel
theorem dX6_mending_57 : decode cX6_mending 57 = .ok (.invokestatic 173, 3) := by decide +kernel
theorem dX6_mending_60 : decode cX6_mending 60 = .ok (.istore_n 1, 1) := by decide +kernel
theorem dX6_mending_61 : decode cX6_mending 61 = .ok (.iinc 2 1, 3) := by decide +kernel
theorem dX6_mending_64 : decode cX6_mending 64 = .ok (.goto (-49), 3) := by decide +kernel
theorem dX6_mending_67 : decode cX6_mending 67 = .ok (.iload_n 1, 1) := by decide +kernel
theorem dX6_mending_68 : decode cX6_mending 68 = .ok (.sipush 999, 3) := by decide +kernel
theorem dX6_mending_71 : decode cX6_mending 71 = .ok (.if_icmp .gt 7, 3) := by decide +kernel
theorem dX6_mending_74 : decode cX6_mending 74 = .ok (.iload_n 1, 1) := by decide +kernel
theorem dX6_mending_75 : decode cX6_mending 75 = .ok (.goto 4, 3) := by decide +kernel
theorem dX6_mending_78 : decode cX6_mending 78 = .ok (.iconst (-1), 1) := by decide +kernel
theorem dX6_mending_79 : decode cX6_mending 79 = .ok (.ireturn, 1) := by decide +kernel
theorem dX6_bestWall_0 : decode cX6_bestWall 0 = .ok (.iload_n 1, 1) := by decide +kernel
theorem dX6_bestWall_1 : decode cX6_bestWall 1 = .ok (.iconst 1, 1) := by decide +kernel
theorem dX6_bestWall_2 : decode cX6_bestWall 2 = .ok (.invokestatic 81, 3) := by decide +kernel
theorem dX6_bestWall_5 : decode cX6_bestWall 5 = .ok (.ifCond .ne 10, 3) := by decide +kernel
theorem dX6_bestWall_8 : decode cX6_bestWall 8 = .ok (.aload_n 0, 1) := by decide +kernel
theorem dX6_bestWall_9 : decode cX6_bestWall 9 = .ok (.bipush (-2), 2) := by decide +kernel
theorem dX6_bestWall_11 : decode cX6_bestWall 11 = .ok (.invokevirtual 62, 3) := by decide +kernel
theorem dX6_bestWall_14 : decode cX6_bestWall 14 = .ok (.ireturn, 1) := by decide +kernel
theorem dX6_bestWall_15 : decode cX6_bestWall 15 = .ok (.iconst (-1), 1) := by decide +kernel
theorem dX6_bestWall_16 : decode cX6_bestWall 16 = .ok (.istore_n 2, 1) := by decide +kernel
theorem dX6_bestWall_17 : decode cX6_bestWall 17 = .ok (.iconst (-1), 1) := by decide +kernel
theorem dX6_bestWall_18 : decode cX6_bestWall 18 = .ok (.istore_n 3, 1) := by decide +kernel
theorem dX6_bestWall_19 : decode cX6_bestWall 19 = .ok (.iconst 0, 1) := by decide +kernel
theorem dX6_bestWall_20 : decode cX6_bestWall 20 = .ok (.istore 4, 2) := by decide +kernel
theorem dX6_bestWall_22 : decode cX6_bestWall 22 = .ok (.iload 4, 2) := by decide +kernel
theorem dX6_bestWall_24 : decode cX6_bestWall 24 = .ok (.bipush 21, 2) := by decide +kernel
theorem dX6_bestWall_26 : decode cX6_bestWall 26 = .ok (.if_icmp .ge 61, 3) := by decide +kernel
theorem dX6_bestWall_29 : decode cX6_bestWall 29 = .ok (.iload 4, 2) := by decide +kernel
theorem dX6_bestWall_31 : decode cX6_bestWall 31 = .ok (.invokestatic 178, 3) := by decide +kernel
theorem dX6_bestWall_34 : decode cX6_bestWall 34 = .ok (.ifCond .eq 32, 3) := by decide +kernel
theorem dX6_bestWall_37 : decode cX6_bestWall 37 = .ok (.aload_n 0, 1) := by decide +kernel
theorem dX6_bestWall_38 : decode cX6_bestWall 38 = .ok (.getfield 10, 3) := by decide +kernel
theorem dX6_bestWall_41 : decode cX6_bestWall 41 = .ok (.getfield 107, 3) := by decide +kernel
theorem dX6_bestWall_44 : decode cX6_bestWall 44 = .ok (.iload 4, 2) := by decide +kernel
theorem dX6_bestWall_46 : decode cX6_bestWall 46 = .ok (.iaload, 1) := by decide +kernel
theorem dX6_bestWall_47 : decode cX6_bestWall 47 = .ok (.ifCond .ne 19, 3) := by decide +kernel
theorem dX6_bestWall_50 : decode cX6_bestWall 50 = .ok (.aload_n 0, 1) := by decide +kernel
theorem dX6_bestWall_51 : decode cX6_bestWall 51 = .ok (.getfield 40, 3) := by decide +kernel
theorem dX6_bestWall_54 : decode cX6_bestWall 54 = .ok (.aload_n 0, 1) := by decide +kernel
theorem dX6_bestWall_55 : decode cX6_bestWall 55 = .ok (.getfield 10, 3) := by decide +kernel
theorem dX6_bestWall_58 : decode cX6_bestWall 58 = .ok (.iload 4, 2) := by decide +kernel
theorem dX6_bestWall_60 : decode cX6_bestWall 60 = .ok (.invokevirtual 181, 3) := by decide +kernel
theorem dX6_bestWall_63 : decode cX6_bestWall 63 = .ok (.goto 4, 3) := by decide +kernel
theorem dX6_bestWall_66 : decode cX6_bestWall 66 = .ok (.iconst (-1), 1) := by decide +kernel
theorem dX6_bestWall_67 : decode cX6_bestWall 67 = .ok (.istore 5, 2) := by decide +kernel
theorem dX6_bestWall_69 : decode cX6_bestWall 69 = .ok (.iload 5, 2) := by decide +kernel
theorem dX6_bestWall_71 : decode cX6_bestWall 71 = .ok (.iload_n 3, 1) := by decide +kernel
theorem dX6_bestWall_72 : decode cX6_bestWall 72 = .ok (.if_icmp .le 9, 3) := by decide +kernel
theorem dX6_bestWall_75 : decode cX6_bestWall 75 = .ok (.iload 5, 2) := by decide +kernel
theorem dX6_bestWall_77 : decode cX6_bestWall 77 = .ok (.istore_n 3, 1) := by decide +kernel
theorem dX6_bestWall_78 : decode cX6_bestWall 78 = .ok (.iload 4, 2) := by decide +kernel
theorem dX6_bestWall_80 : decode cX6_bestWall 80 = .ok (.istore_n 2, 1) := by decide +kernel
theorem dX6_bestWall_81 : decode cX6_bestWall 81 = .ok (.iinc 4 1, 3) := by decide +kernel
theorem dX6_bestWall_84 : decode cX6_bestWall 84 = .ok (.goto (-62), 3) := by decide +kernel
theorem dX6_bestWall_87 : decode cX6_bestWall 87 = .ok (.iload_n 1, 1) := by decide +kernel
theorem dX6_bestWall_88 : decode cX6_bestWall 88 = .ok (.ifCond .ne 7, 3) := by decide +kernel
theorem dX6_bestWall_91 : decode cX6_bestWall 91 = .ok (.iload_n 2, 1) := by decide +kernel
theorem dX6_bestWall_92 : decode cX6_bestWall 92 = .ok (.goto 4, 3) := by decide +kernel
theorem dX6_bestWall_95 : decode cX6_bestWall 95 = .ok (.iload_n 3, 1) := by decide +kernel
theorem dX6_bestWall_96 : decode cX6_bestWall 96 = .ok (.ireturn, 1) := by decide +kernel
theorem dX6_bestCell_0 : decode cX6_bestCell 0 = .ok (.iload_n 1, 1) := by decide +kernel
theorem dX6_bestCell_1 : decode cX6_bestCell 1 = .ok (.invokestatic 59, 3) := by decide +kernel
theorem dX6_bestCell_4 : decode cX6_bestCell 4 = .ok (.ifCond .eq 11, 3) := by decide +kernel
theorem dX6_bestCell_7 : decode cX6_bestCell 7 = .ok (.iload_n 2, 1) := by decide +kernel
theorem dX6_bestCell_8 : decode cX6_bestCell 8 = .ok (.iconst 1, 1) := by decide +kernel
theorem dX6_bestCell_9 : decode cX6_bestCell 9 = .ok (.invokestatic 81, 3) := by decide +kernel
theorem dX6_bestCell_12 : decode cX6_bestCell 12 = .ok (.ifCond .ne 10, 3) := by decide +kernel
theorem dX6_bestCell_15 : decode cX6_bestCell 15 = .ok (.aload_n 0, 1) := by decide +kernel
theorem dX6_bestCell_16 : decode cX6_bestCell 16 = .ok (.bipush (-2), 2) := by decide +kernel
theorem dX6_bestCell_18 : decode cX6_bestCell 18 = .ok (.invokevirtual 62, 3) := by decide +kernel
theorem dX6_bestCell_21 : decode cX6_bestCell 21 = .ok (.ireturn, 1) := by decide +kernel
theorem dX6_bestCell_22 : decode cX6_bestCell 22 = .ok (.aload_n 0, 1) := by decide +kernel
theorem dX6_bestCell_23 : decode cX6_bestCell 23 = .ok (.getfield 10, 3) := by decide +kernel
theorem dX6_bestCell_26 : decode cX6_bestCell 26 = .ok (.getfield 69, 3) := by decide +kernel
theorem dX6_bestCell_29 : decode cX6_bestCell 29 = .ok (.bipush 12, 2) := by decide +kernel
theorem dX6_bestCell_31 : decode cX6_bestCell 31 = .ok (.if_icmp .lt 10, 3) := by decide +kernel
theorem dX6_bestCell_34 : decode cX6_bestCell 34 = .ok (.aload_n 0, 1) := by decide +kernel
theorem dX6_bestCell_35 : decode cX6_bestCell 35 = .ok (.bipush (-3), 2) := by decide +kernel
theorem dX6_bestCell_37 : decode cX6_bestCell 37 = .ok (.invokevirtual 62, 3) := by decide +kernel
theorem dX6_bestCell_40 : decode cX6_bestCell 40 = .ok (.ireturn, 1) := by decide +kernel
theorem dX6_bestCell_41 : decode cX6_bestCell 41 = .ok (.iconst (-1), 1) := by decide +kernel
theorem dX6_bestCell_42 : decode cX6_bestCell 42 = .ok (.istore_n 3, 1) := by decide +kernel
theorem dX6_bestCell_43 : decode cX6_bestCell 43 = .ok (.iconst (-1), 1) := by decide +kernel
theorem dX6_bestCell_44 : decode cX6_bestCell 44 = .ok (.istore 4, 2) := by decide +kernel
theorem dX6_bestCell_46 : decode cX6_bestCell 46 = .ok (.iconst 0, 1) := by decide +kernel
theorem dX6_bestCell_47 : decode cX6_bestCell 47 = .ok (.istore 5, 2) := by decide +kernel
theorem dX6_bestCell_49 : decode cX6_bestCell 49 = .ok (.iload 5, 2) := by decide +kernel
theorem dX6_bestCell_51 : decode cX6_bestCell 51 = .ok (.bipush 96, 2) := by decide +kernel
theorem dX6_bestCell_53 : decode cX6_bestCell 53 = .ok (.if_icmp .ge 55, 3) := by decide +kernel
theorem dX6_bestCell_56 : decode cX6_bestCell 56 = .ok (.aload_n 0, 1) := by decide +kernel
theorem dX6_bestCell_57 : decode cX6_bestCell 57 = .ok (.getfield 10, 3) := by decide +kernel
theorem dX6_bestCell_60 : decode cX6_bestCell 60 = .ok (.iload 5, 2) := by decide +kernel
theorem dX6_bestCell_62 : decode cX6_bestCell 62 = .ok (.invokevirtual 66, 3) := by decide +kernel
theorem dX6_bestCell_65 : decode cX6_bestCell 65 = .ok (.ifCond .eq 7, 3) := by decide +kernel
theorem dX6_bestCell_68 : decode cX6_bestCell 68 = .ok (.iconst (-1), 1) := by decide +kernel
theorem dX6_bestCell_69 : decode cX6_bestCell 69 = .ok (.goto 17, 3) := by decide +kernel
theorem dX6_bestCell_72 : decode cX6_bestCell 72 = .ok (.aload_n 0, 1) := by decide +kernel
theorem dX6_bestCell_73 : decode cX6_bestCell 73 = .ok (.getfield 40, 3) := by decide +kernel
theorem dX6_bestCell_76 : decode cX6_bestCell 76 = .ok (.aload_n 0, 1) := by decide +kernel
theorem dX6_bestCell_77 : decode cX6_bestCell 77 = .ok (.getfield 10, 3) := by decide +kernel
theorem dX6_bestCell_80 : decode cX6_bestCell 80 = .ok (.iload 5, 2) := by decide +kernel
theorem dX6_bestCell_82 : decode cX6_bestCell 82 = .ok (.iload_n 1, 1) := by decide +kernel
theorem dX6_bestCell_83 : decode cX6_bestCell 83 = .ok (.invokevirtual 184, 3) := by decide +kernel
theorem dX6_bestCell_86 : decode cX6_bestCell 86 = .ok (.istore 6, 2) := by decide +kernel
theorem dX6_bestCell_88 : decode cX6_bestCell 88 = .ok (.iload 6, 2) := by decide +kernel
theorem dX6_bestCell_90 : decode cX6_bestCell 90 = .ok (.iload 4, 2) := by decide +kernel
theorem dX6_bestCell_92 : decode cX6_bestCell 92 = .ok (.if_icmp .le 10, 3) := by decide +kernel
theorem dX6_bestCell_95 : decode cX6_bestCell 95 = .ok (.iload 6, 2) := by decide +kernel
theorem dX6_bestCell_97 : decode cX6_bestCell 97 = .ok (.istore 4, 2) := by decide +kernel
theorem dX6_bestCell_99 : decode cX6_bestCell 99 = .ok (.iload 5, 2) := by decide +kernel
theorem dX6_bestCell_101 : decode cX6_bestCell 101 = .ok (.istore_n 3, 1) := by decide +kernel
theorem dX6_bestCell_102 : decode cX6_bestCell 102 = .ok (.iinc 5 1, 3) := by decide +kernel
theorem dX6_bestCell_105 : decode cX6_bestCell 105 = .ok (.goto (-56), 3) := by decide +kernel
theorem dX6_bestCell_108 : decode cX6_bestCell 108 = .ok (.iload_n 2, 1) := by decide +kernel
theorem dX6_bestCell_109 : decode cX6_bestCell 109 = .ok (.ifCond .ne 7, 3) := by decide +kernel
theorem dX6_bestCell_112 : decode cX6_bestCell 112 = .ok (.iload_n 3, 1) := by decide +kernel
theorem dX6_bestCell_113 : decode cX6_bestCell 113 = .ok (.goto 5, 3) := by decide +kernel
theorem dX6_bestCell_116 : decode cX6_bestCell 116 = .ok (.iload 4, 2) := by decide +kernel
theorem dX6_bestCell_118 : decode cX6_bestCell 118 = .ok (.ireturn, 1) := by decide +kernel
theorem dX6_type_0 : decode cX6_type 0 = .ok (.iload_n 1, 1) := by decide +kernel
theorem dX6_type_1 : decode cX6_type 1 = .ok (.bipush 127, 2) := by decide +kernel
theorem dX6_type_3 : decode cX6_type 3 = .ok (.invokestatic 81, 3) := by decide +kernel
theorem dX6_type_6 : decode cX6_type 6 = .ok (.ifCond .ne 10, 3) := by decide +kernel
theorem dX6_type_9 : decode cX6_type 9 = .ok (.aload_n 0, 1) := by decide +kernel
theorem dX6_type_10 : decode cX6_type 10 = .ok (.bipush (-2), 2) := by decide +kernel
theorem dX6_type_12 : decode cX6_type 12 = .ok (.invokevirtual 62, 3) := by decide +kernel
theorem dX6_type_15 : decode cX6_type 15 = .ok (.ireturn, 1) := by decide +kernel
theorem dX6_type_16 : decode cX6_type 16 = .ok (.aload_n 0, 1) := by decide +kernel
theorem dX6_type_17 : decode cX6_type 17 = .ok (.getfield 47, 3) := by decide +kernel
theorem dX6_type_20 : decode cX6_type 20 = .ok (.getfield 188, 3) := by decide +kernel
theorem dX6_type_23 : decode cX6_type 23 = .ok (.bipush 120, 2) := by decide +kernel
theorem dX6_type_25 : decode cX6_type 25 = .ok (.if_icmp .lt 10, 3) := by decide +kernel
theorem dX6_type_28 : decode cX6_type 28 = .ok (.aload_n 0, 1) := by decide +kernel
theorem dX6_type_29 : decode cX6_type 29 = .ok (.bipush (-4), 2) := by decide +kernel
theorem dX6_type_31 : decode cX6_type 31 = .ok (.invokevirtual 62, 3) := by decide +kernel
theorem dX6_type_34 : decode cX6_type 34 = .ok (.ireturn, 1) := by decide +kernel
theorem dX6_type_35 : decode cX6_type 35 = .ok (.aload_n 0, 1) := by decide +kernel
theorem dX6_type_36 : decode cX6_type 36 = .ok (.getfield 47, 3) := by decide +kernel
theorem dX6_type_39 : decode cX6_type 39 = .ok (.iload_n 1, 1) := by decide +kernel
theorem dX6_type_40 : decode cX6_type 40 = .ok (.invokevirtual 191, 3) := by decide +kernel
theorem dX6_type_43 : decode cX6_type 43 = .ok (.aload_n 0, 1) := by decide +kernel
theorem dX6_type_44 : decode cX6_type 44 = .ok (.getfield 47, 3) := by decide +kernel
theorem dX6_type_47 : decode cX6_type 47 = .ok (.getfield 188, 3) := by decide +kernel
theorem dX6_type_50 : decode cX6_type 50 = .ok (.ireturn, 1) := by decide +kernel
theorem dX6_clear_0 : decode cX6_clear 0 = .ok (.aload_n 0, 1) := by decide +kernel
theorem dX6_clear_1 : decode cX6_clear 1 = .ok (.getfield 47, 3) := by decide +kernel
theorem dX6_clear_4 : decode cX6_clear 4 = .ok (.getfield 188, 3) := by decide +kernel
theorem dX6_clear_7 : decode cX6_clear 7 = .ok (.istore_n 1, 1) := by decide +kernel
theorem dX6_clear_8 : decode cX6_clear 8 = .ok (.aload_n 0, 1) := by decide +kernel
theorem dX6_clear_9 : decode cX6_clear 9 = .ok (.getfield 47, 3) := by decide +kernel
theorem dX6_clear_12 : decode cX6_clear 12 = .ok (.iconst 0, 1) := by decide +kernel
theorem dX6_clear_13 : decode cX6_clear 13 = .ok (.putfield 188, 3) := by decide +kernel
theorem dX6_clear_16 : decode cX6_clear 16 = .ok (.iload_n 1, 1) := by decide +kernel
theorem dX6_clear_17 : decode cX6_clear 17 = .ok (.ireturn, 1) := by decide +kernel
theorem dX6_does_0 : decode cX6_does 0 = .ok (.aload_n 0, 1) := by decide +kernel
theorem dX6_does_1 : decode cX6_does 1 = .ok (.getfield 40, 3) := by decide +kernel
theorem dX6_does_4 : decode cX6_does 4 = .ok (.aload_n 0, 1) := by decide +kernel
theorem dX6_does_5 : decode cX6_does 5 = .ok (.getfield 10, 3) := by decide +kernel
theorem dX6_does_8 : decode cX6_does 8 = .ok (.invokevirtual 164, 3) := by decide +kernel
theorem dX6_does_11 : decode cX6_does 11 = .ok (.aload_n 0, 1) := by decide +kernel
theorem dX6_does_12 : decode cX6_does 12 = .ok (.getfield 40, 3) := by decide +kernel
theorem dX6_does_15 : decode cX6_does 15 = .ok (.getfield 194, 3) := by decide +kernel
theorem dX6_does_18 : decode cX6_does 18 = .ok (.aload_n 0, 1) := by decide +kernel
theorem dX6_does_19 : decode cX6_does 19 = .ok (.getfield 26, 3) := by decide +kernel
theorem dX6_does_22 : decode cX6_does 22 = .ok (.invokevirtual 197, 3) := by decide +kernel
theorem dX6_does_25 : decode cX6_does 25 = .ok (.aload_n 0, 1) := by decide +kernel
theorem dX6_does_26 : decode cX6_does 26 = .ok (.getfield 47, 3) := by decide +kernel
theorem dX6_does_29 : decode cX6_does 29 = .ok (.aload_n 0, 1) := by decide +kernel
theorem dX6_does_30 : decode cX6_does 30 = .ok (.getfield 40, 3) := by decide +kernel
theorem dX6_does_33 : decode cX6_does 33 = .ok (.invokevirtual 201, 3) := by decide +kernel
theorem dX6_does_36 : decode cX6_does 36 = .ok (.istore_n 1, 1) := by decide +kernel
theorem dX6_does_37 : decode cX6_does 37 = .ok (.iload_n 1, 1) := by decide +kernel
theorem dX6_does_38 : decode cX6_does 38 = .ok (.iconst (-1), 1) := by decide +kernel
theorem dX6_does_39 : decode cX6_does 39 = .ok (.if_icmp .eq 8, 3) := by decide +kernel
theorem dX6_does_42 : decode cX6_does 42 = .ok (.bipush (-10), 2) := by decide +kernel
theorem dX6_does_44 : decode cX6_does 44 = .ok (.iload_n 1, 1) := by decide +kernel
theorem dX6_does_45 : decode cX6_does 45 = .ok (.isub, 1) := by decide +kernel
theorem dX6_does_46 : decode cX6_does 46 = .ok (.ireturn, 1) := by decide +kernel
theorem dX6_does_47 : decode cX6_does 47 = .ok (.aload_n 0, 1) := by decide +kernel
theorem dX6_does_48 : decode cX6_does 48 = .ok (.getfield 33, 3) := by decide +kernel
theorem dX6_does_51 : decode cX6_does 51 = .ok (.aload_n 0, 1) := by decide +kernel
theorem dX6_does_52 : decode cX6_does 52 = .ok (.getfield 10, 3) := by decide +kernel
theorem dX6_does_55 : decode cX6_does 55 = .ok (.invokevirtual 73, 3) := by decide +kernel
theorem dX6_does_58 : decode cX6_does 58 = .ok (.aload_n 0, 1) := by decide +kernel
theorem dX6_does_59 : decode cX6_does 59 = .ok (.getfield 10, 3) := by decide +kernel
theorem dX6_does_62 : decode cX6_does 62 = .ok (.aload_n 0, 1) := by decide +kernel
theorem dX6_does_63 : decode cX6_does 63 = .ok (.getfield 40, 3) := by decide +kernel
theorem dX6_does_66 : decode cX6_does 66 = .ok (.getfield 169, 3) := by decide +kernel
theorem dX6_does_69 : decode cX6_does 69 = .ok (.invokevirtual 205, 3) := by decide +kernel
theorem dX6_does_72 : decode cX6_does 72 = .ok (.aload_n 0, 1) := by decide +kernel
theorem dX6_does_73 : decode cX6_does 73 = .ok (.getfield 26, 3) := by decide +kernel
theorem dX6_does_76 : decode cX6_does 76 = .ok (.aload_n 0, 1) := by decide +kernel
theorem dX6_does_77 : decode cX6_does 77 = .ok (.getfield 40, 3) := by decide +kernel
theorem dX6_does_80 : decode cX6_does 80 = .ok (.getfield 194, 3) := by decide +kernel
theorem dX6_does_83 : decode cX6_does 83 = .ok (.invokevirtual 197, 3) := by decide +kernel
theorem dX6_does_86 : decode cX6_does 86 = .ok (.aload_n 0, 1) := by decide +kernel
theorem dX6_does_87 : decode cX6_does 87 = .ok (.getfield 10, 3) := by decide +kernel
theorem dX6_does_90 : decode cX6_does 90 = .ok (.invokevirtual 113, 3) := by decide +kernel
theorem dX6_does_93 : decode cX6_does 93 = .ok (.ireturn, 1) := by decide +kernel
theorem dX6_back_0 : decode cX6_back 0 = .ok (.aload_n 0, 1) := by decide +kernel
theorem dX6_back_1 : decode cX6_back 1 = .ok (.getfield 33, 3) := by decide +kernel
theorem dX6_back_4 : decode cX6_back 4 = .ok (.getfield 207, 3) := by decide +kernel
theorem dX6_back_7 : decode cX6_back 7 = .ok (.ifCond .ne 10, 3) := by decide +kernel
theorem dX6_back_10 : decode cX6_back 10 = .ok (.aload_n 0, 1) := by decide +kernel
theorem dX6_back_11 : decode cX6_back 11 = .ok (.bipush (-3), 2) := by decide +kernel
theorem dX6_back_13 : decode cX6_back 13 = .ok (.invokevirtual 62, 3) := by decide +kernel
theorem dX6_back_16 : decode cX6_back 16 = .ok (.ireturn, 1) := by decide +kernel
theorem dX6_back_17 : decode cX6_back 17 = .ok (.aload_n 0, 1) := by decide +kernel
theorem dX6_back_18 : decode cX6_back 18 = .ok (.getfield 33, 3) := by decide +kernel
theorem dX6_back_21 : decode cX6_back 21 = .ok (.aload_n 0, 1) := by decide +kernel
theorem dX6_back_22 : decode cX6_back 22 = .ok (.getfield 10, 3) := by decide +kernel
theorem dX6_back_25 : decode cX6_back 25 = .ok (.invokevirtual 210, 3) := by decide +kernel
theorem dX6_back_28 : decode cX6_back 28 = .ok (.aload_n 0, 1) := by decide +kernel
theorem dX6_back_29 : decode cX6_back 29 = .ok (.getfield 26, 3) := by decide +kernel
theorem dX6_back_32 : decode cX6_back 32 = .ok (.invokevirtual 110, 3) := by decide +kernel
theorem dX6_back_35 : decode cX6_back 35 = .ok (.aload_n 0, 1) := by decide +kernel
theorem dX6_back_36 : decode cX6_back 36 = .ok (.getfield 33, 3) := by decide +kernel
theorem dX6_back_39 : decode cX6_back 39 = .ok (.getfield 207, 3) := by decide +kernel
theorem dX6_back_42 : decode cX6_back 42 = .ok (.ireturn, 1) := by decide +kernel
theorem dX6_told_0 : decode cX6_told 0 = .ok (.iload_n 1, 1) := by decide +kernel
theorem dX6_told_1 : decode cX6_told 1 = .ok (.iconst 5, 1) := by decide +kernel
theorem dX6_told_2 : decode cX6_told 2 = .ok (.invokestatic 81, 3) := by decide +kernel
theorem dX6_told_5 : decode cX6_told 5 = .ok (.ifCond .eq 11, 3) := by decide +kernel
theorem dX6_told_8 : decode cX6_told 8 = .ok (.aload_n 0, 1) := by decide +kernel
theorem dX6_told_9 : decode cX6_told 9 = .ok (.iload_n 1, 1) := by decide +kernel
theorem dX6_told_10 : decode cX6_told 10 = .ok (.invokevirtual 213, 3) := by decide +kernel
theorem dX6_told_13 : decode cX6_told 13 = .ok (.goto 9, 3) := by decide +kernel
theorem dX6_told_16 : decode cX6_told 16 = .ok (.aload_n 0, 1) := by decide +kernel
theorem dX6_told_17 : decode cX6_told 17 = .ok (.bipush (-2), 2) := by decide +kernel
theorem dX6_told_19 : decode cX6_told 19 = .ok (.invokevirtual 62, 3) := by decide +kernel
theorem dX6_told_22 : decode cX6_told 22 = .ok (.ireturn, 1) := by decide +kernel
theorem dX6_digest_0 : decode cX6_digest 0 = .ok (.aload_n 0, 1) := by decide +kernel
theorem dX6_digest_1 : decode cX6_digest 1 = .ok (.getfield 19, 3) := by decide +kernel
theorem dX6_digest_4 : decode cX6_digest 4 = .ok (.aload_n 0, 1) := by decide +kernel
theorem dX6_digest_5 : decode cX6_digest 5 = .ok (.getfield 10, 3) := by decide +kernel
theorem dX6_digest_8 : decode cX6_digest 8 = .ok (.invokevirtual 123, 3) := by decide +kernel
theorem dX6_digest_11 : decode cX6_digest 11 = .ok (.ldc2_w 216, 3) := by decide +kernel
theorem dX6_digest_14 : decode cX6_digest 14 = .ok (.lstore_n 1, 1) := by decide +kernel
theorem dX6_digest_15 : decode cX6_digest 15 = .ok (.iconst 0, 1) := by decide +kernel
theorem dX6_digest_16 : decode cX6_digest 16 = .ok (.istore_n 3, 1) := by decide +kernel
theorem dX6_digest_17 : decode cX6_digest 17 = .ok (.iload_n 3, 1) := by decide +kernel
theorem dX6_digest_18 : decode cX6_digest 18 = .ok (.iconst 5, 1) := by decide +kernel
theorem dX6_digest_19 : decode cX6_digest 19 = .ok (.if_icmp .gt 22, 3) := by decide +kernel
theorem dX6_digest_22 : decode cX6_digest 22 = .ok (.ldc2_w 218, 3) := by decide +kernel
theorem dX6_digest_25 : decode cX6_digest 25 = .ok (.lload_n 1, 1) := by decide +kernel
theorem dX6_digest_26 : decode cX6_digest 26 = .ok (.lmul, 1) := by decide +kernel
theorem dX6_digest_27 : decode cX6_digest 27 = .ok (.aload_n 0, 1) := by decide +kernel
theorem dX6_digest_28 : decode cX6_digest 28 = .ok (.iload_n 3, 1) := by decide +kernel
theorem dX6_digest_29 : decode cX6_digest 29 = .ok (.invokevirtual 213, 3) := by decide +kernel
theorem dX6_digest_32 : decode cX6_digest 32 = .ok (.i2l, 1) := by decide +kernel
theorem dX6_digest_33 : decode cX6_digest 33 = .ok (.ladd, 1) := by decide +kernel
theorem dX6_digest_34 : decode cX6_digest 34 = .ok (.lstore_n 1, 1) := by decide +kernel
theorem dX6_digest_35 : decode cX6_digest 35 = .ok (.iinc 3 1, 3) := by decide +kernel
theorem dX6_digest_38 : decode cX6_digest 38 = .ok (.goto (-21), 3) := by decide +kernel
theorem dX6_digest_41 : decode cX6_digest 41 = .ok (.iconst 0, 1) := by decide +kernel
theorem dX6_digest_42 : decode cX6_digest 42 = .ok (.istore_n 3, 1) := by decide +kernel
theorem dX6_digest_43 : decode cX6_digest 43 = .ok (.iload_n 3, 1) := by decide +kernel
theorem dX6_digest_44 : decode cX6_digest 44 = .ok (.bipush 7, 2) := by decide +kernel
theorem dX6_digest_46 : decode cX6_digest 46 = .ok (.if_icmp .gt 22, 3) := by decide +kernel
theorem dX6_digest_49 : decode cX6_digest 49 = .ok (.ldc2_w 218, 3) := by decide +kernel
theorem dX6_digest_52 : decode cX6_digest 52 = .ok (.lload_n 1, 1) := by decide +kernel
theorem dX6_digest_53 : decode cX6_digest 53 = .ok (.lmul, 1) := by decide +kernel
theorem dX6_digest_54 : decode cX6_digest 54 = .ok (.aload_n 0, 1) := by decide +kernel
theorem dX6_digest_55 : decode cX6_digest 55 = .ok (.iload_n 3, 1) := by decide +kernel
theorem dX6_digest_56 : decode cX6_digest 56 = .ok (.invokevirtual 133, 3) := by decide +kernel
theorem dX6_digest_59 : decode cX6_digest 59 = .ok (.i2l, 1) := by decide +kernel
theorem dX6_digest_60 : decode cX6_digest 60 = .ok (.ladd, 1) := by decide +kernel
theorem dX6_digest_61 : decode cX6_digest 61 = .ok (.lstore_n 1, 1) := by decide +kernel
theorem dX6_digest_62 : decode cX6_digest 62 = .ok (.iinc 3 1, 3) := by decide +kernel
theorem dX6_digest_65 : decode cX6_digest 65 = .ok (.goto (-22), 3) := by decide +kernel
theorem dX6_digest_68 : decode cX6_digest 68 = .ok (.iconst 0, 1) := by decide +kernel
theorem dX6_digest_69 : decode cX6_digest 69 = .ok (.istore_n 3, 1) := by decide +kernel
theorem dX6_digest_70 : decode cX6_digest 70 = .ok (.iload_n 3, 1) := by decide +kernel
theorem dX6_digest_71 : decode cX6_digest 71 = .ok (.aload_n 0, 1) := by decide +kernel
theorem dX6_digest_72 : decode cX6_digest 72 = .ok (.getfield 10, 3) := by decide +kernel
theorem dX6_digest_75 : decode cX6_digest 75 = .ok (.getfield 69, 3) := by decide +kernel
theorem dX6_digest_78 : decode cX6_digest 78 = .ok (.if_icmp .ge 39, 3) := by decide +kernel
theorem dX6_digest_81 : decode cX6_digest 81 = .ok (.iconst 0, 1) := by decide +kernel
theorem dX6_digest_82 : decode cX6_digest 82 = .ok (.istore 4, 2) := by decide +kernel
theorem dX6_digest_84 : decode cX6_digest 84 = .ok (.iload 4, 2) := by decide +kernel
theorem dX6_digest_86 : decode cX6_digest 86 = .ok (.iconst 4, 1) := by decide +kernel
theorem dX6_digest_87 : decode cX6_digest 87 = .ok (.if_icmp .gt 24, 3) := by decide +kernel
theorem dX6_digest_90 : decode cX6_digest 90 = .ok (.ldc2_w 218, 3) := by decide +kernel
theorem dX6_digest_93 : decode cX6_digest 93 = .ok (.lload_n 1, 1) := by decide +kernel
theorem dX6_digest_94 : decode cX6_digest 94 = .ok (.lmul, 1) := by decide +kernel
theorem dX6_digest_95 : decode cX6_digest 95 = .ok (.aload_n 0, 1) := by decide +kernel
theorem dX6_digest_96 : decode cX6_digest 96 = .ok (.iload_n 3, 1) := by decide +kernel
theorem dX6_digest_97 : decode cX6_digest 97 = .ok (.iload 4, 2) := by decide +kernel
theorem dX6_digest_99 : decode cX6_digest 99 = .ok (.invokevirtual 126, 3) := by decide +kernel
theorem dX6_digest_102 : decode cX6_digest 102 = .ok (.i2l, 1) := by decide +kernel
theorem dX6_digest_103 : decode cX6_digest 103 = .ok (.ladd, 1) := by decide +kernel
theorem dX6_digest_104 : decode cX6_digest 104 = .ok (.lstore_n 1, 1) := by decide +kernel
theorem dX6_digest_105 : decode cX6_digest 105 = .ok (.iinc 4 1, 3) := by decide +kernel
theorem dX6_digest_108 : decode cX6_digest 108 = .ok (.goto (-24), 3) := by decide +kernel
theorem dX6_digest_111 : decode cX6_digest 111 = .ok (.iinc 3 1, 3) := by decide +kernel
theorem dX6_digest_114 : decode cX6_digest 114 = .ok (.goto (-44), 3) := by decide +kernel
theorem dX6_digest_117 : decode cX6_digest 117 = .ok (.iconst 0, 1) := by decide +kernel
theorem dX6_digest_118 : decode cX6_digest 118 = .ok (.istore_n 3, 1) := by decide +kernel
theorem dX6_digest_119 : decode cX6_digest 119 = .ok (.iload_n 3, 1) := by decide +kernel
theorem dX6_digest_120 : decode cX6_digest 120 = .ok (.bipush 96, 2) := by decide +kernel
theorem dX6_digest_122 : decode cX6_digest 122 = .ok (.if_icmp .ge 26, 3) := by decide +kernel
theorem dX6_digest_125 : decode cX6_digest 125 = .ok (.ldc2_w 218, 3) := by decide +kernel
theorem dX6_digest_128 : decode cX6_digest 128 = .ok (.lload_n 1, 1) := by decide +kernel
theorem dX6_digest_129 : decode cX6_digest 129 = .ok (.lmul, 1) := by decide +kernel
theorem dX6_digest_130 : decode cX6_digest 130 = .ok (.aload_n 0, 1) := by decide +kernel
theorem dX6_digest_131 : decode cX6_digest 131 = .ok (.getfield 10, 3) := by decide +kernel
theorem dX6_digest_134 : decode cX6_digest 134 = .ok (.getfield 85, 3) := by decide +kernel
theorem dX6_digest_137 : decode cX6_digest 137 = .ok (.iload_n 3, 1) := by decide +kernel
theorem dX6_digest_138 : decode cX6_digest 138 = .ok (.iaload, 1) := by decide +kernel
theorem dX6_digest_139 : decode cX6_digest 139 = .ok (.i2l, 1) := by decide +kernel
theorem dX6_digest_140 : decode cX6_digest 140 = .ok (.ladd, 1) := by decide +kernel
theorem dX6_digest_141 : decode cX6_digest 141 = .ok (.lstore_n 1, 1) := by decide +kernel
theorem dX6_digest_142 : decode cX6_digest 142 = .ok (.iinc 3 1, 3) := by decide +kernel
theorem dX6_digest_145 : decode cX6_digest 145 = .ok (.goto (-26), 3) := by decide +kernel
theorem dX6_digest_148 : decode cX6_digest 148 = .ok (.lload_n 1, 1) := by decide +kernel
theorem dX6_digest_149 : decode cX6_digest 149 = .ok (.lreturn, 1) := by decide +kernel
theorem dX6_refuse_0 : decode cX6_refuse 0 = .ok (.iload_n 1, 1) := by decide +kernel
theorem dX6_refuse_1 : decode cX6_refuse 1 = .ok (.bipush (-2), 2) := by decide +kernel
theorem dX6_refuse_3 : decode cX6_refuse 3 = .ok (.if_icmp .ne 16, 3) := by decide +kernel
theorem dX6_refuse_6 : decode cX6_refuse 6 = .ok (.aload_n 0, 1) := by decide +kernel
theorem dX6_refuse_7 : decode cX6_refuse 7 = .ok (.getfield 51, 3) := by decide +kernel
theorem dX6_refuse_10 : decode cX6_refuse 10 = .ok (.iconst 0, 1) := by decide +kernel
theorem dX6_refuse_11 : decode cX6_refuse 11 = .ok (.dup2, 1) := by decide +kernel
theorem dX6_refuse_12 : decode cX6_refuse 12 = .ok (.iaload, 1) := by decide +kernel
theorem dX6_refuse_13 : decode cX6_refuse 13 = .ok (.iconst 1, 1) := by decide +kernel
theorem dX6_refuse_14 : decode cX6_refuse 14 = .ok (.iadd, 1) := by decide +kernel
theorem dX6_refuse_15 : decode cX6_refuse 15 = .ok (.iastore, 1) := by decide +kernel
theorem dX6_refuse_16 : decode cX6_refuse 16 = .ok (.goto 32, 3) := by decide +kernel
theorem dX6_refuse_19 : decode cX6_refuse 19 = .ok (.iload_n 1, 1) := by decide +kernel
theorem dX6_refuse_20 : decode cX6_refuse 20 = .ok (.bipush (-3), 2) := by decide +kernel
theorem dX6_refuse_22 : decode cX6_refuse 22 = .ok (.if_icmp .ne 16, 3) := by decide +kernel
theorem dX6_refuse_25 : decode cX6_refuse 25 = .ok (.aload_n 0, 1) := by decide +kernel
theorem dX6_refuse_26 : decode cX6_refuse 26 = .ok (.getfield 51, 3) := by decide +kernel
theorem dX6_refuse_29 : decode cX6_refuse 29 = .ok (.iconst 1, 1) := by decide +kernel
theorem dX6_refuse_30 : decode cX6_refuse 30 = .ok (.dup2, 1) := by decide +kernel
theorem dX6_refuse_31 : decode cX6_refuse 31 = .ok (.iaload, 1) := by decide +kernel
theorem dX6_refuse_32 : decode cX6_refuse 32 = .ok (.iconst 1, 1) := by decide +kernel
theorem dX6_refuse_33 : decode cX6_refuse 33 = .ok (.iadd, 1) := by decide +kernel
theorem dX6_refuse_34 : decode cX6_refuse 34 = .ok (.iastore, 1) := by decide +kernel
theorem dX6_refuse_35 : decode cX6_refuse 35 = .ok (.goto 13, 3) := by decide +kernel
theorem dX6_refuse_38 : decode cX6_refuse 38 = .ok (.aload_n 0, 1) := by decide +kernel
theorem dX6_refuse_39 : decode cX6_refuse 39 = .ok (.getfield 51, 3) := by decide +kernel
theorem dX6_refuse_42 : decode cX6_refuse 42 = .ok (.iconst 2, 1) := by decide +kernel
theorem dX6_refuse_43 : decode cX6_refuse 43 = .ok (.dup2, 1) := by decide +kernel
theorem dX6_refuse_44 : decode cX6_refuse 44 = .ok (.iaload, 1) := by decide +kernel
theorem dX6_refuse_45 : decode cX6_refuse 45 = .ok (.iconst 1, 1) := by decide +kernel
theorem dX6_refuse_46 : decode cX6_refuse 46 = .ok (.iadd, 1) := by decide +kernel
theorem dX6_refuse_47 : decode cX6_refuse 47 = .ok (.iastore, 1) := by decide +kernel
theorem dX6_refuse_48 : decode cX6_refuse 48 = .ok (.iload_n 1, 1) := by decide +kernel
theorem dX6_refuse_49 : decode cX6_refuse 49 = .ok (.ireturn, 1) := by decide +kernel
theorem dX6_tellCount_0 : decode cX6_tellCount 0 = .ok (.iload_n 1, 1) := by decide +kernel
theorem dX6_tellCount_1 : decode cX6_tellCount 1 = .ok (.tableswitch 61 0 4 #[35, 35, 35, 42, 50], 35) := by decide +kernel
theorem dX6_tellCount_36 : decode cX6_tellCount 36 = .ok (.aload_n 0, 1) := by decide +kernel
theorem dX6_tellCount_37 : decode cX6_tellCount 37 = .ok (.getfield 51, 3) := by decide +kernel
theorem dX6_tellCount_40 : decode cX6_tellCount 40 = .ok (.iload_n 1, 1) := by decide +kernel
theorem dX6_tellCount_41 : decode cX6_tellCount 41 = .ok (.iaload, 1) := by decide +kernel
theorem dX6_tellCount_42 : decode cX6_tellCount 42 = .ok (.ireturn, 1) := by decide +kernel
theorem dX6_tellCount_43 : decode cX6_tellCount 43 = .ok (.aload_n 0, 1) := by decide +kernel
theorem dX6_tellCount_44 : decode cX6_tellCount 44 = .ok (.getfield 47, 3) := by decide +kernel
theorem dX6_tellCount_47 : decode cX6_tellCount 47 = .ok (.getfield 188, 3) := by decide +kernel
theorem dX6_tellCount_50 : decode cX6_tellCount 50 = .ok (.ireturn, 1) := by decide +kernel
theorem dX6_tellCount_51 : decode cX6_tellCount 51 = .ok (.aload_n 0, 1) := by decide +kernel
theorem dX6_tellCount_52 : decode cX6_tellCount 52 = .ok (.getfield 10, 3) := by decide +kernel
theorem dX6_tellCount_55 : decode cX6_tellCount 55 = .ok (.getfield 107, 3) := by decide +kernel
theorem dX6_tellCount_58 : decode cX6_tellCount 58 = .ok (.invokestatic 97, 3) := by decide +kernel
theorem dX6_tellCount_61 : decode cX6_tellCount 61 = .ok (.ireturn, 1) := by decide +kernel
theorem dX6_tellCount_62 : decode cX6_tellCount 62 = .ok (.aload_n 0, 1) := by decide +kernel
theorem dX6_tellCount_63 : decode cX6_tellCount 63 = .ok (.getfield 33, 3) := by decide +kernel
theorem dX6_tellCount_66 : decode cX6_tellCount 66 = .ok (.getfield 207, 3) := by decide +kernel
theorem dX6_tellCount_69 : decode cX6_tellCount 69 = .ok (.ireturn, 1) := by decide +kernel
theorem dX6_tellMine_0 : decode cX6_tellMine 0 = .ok (.iload_n 1, 1) := by decide +kernel
theorem dX6_tellMine_1 : decode cX6_tellMine 1 = .ok (.tableswitch 110 0 6 #[43, 51, 59, 71, 79, 91, 102], 43) := by decide +kernel
theorem dX6_tellMine_44 : decode cX6_tellMine 44 = .ok (.aload_n 0, 1) := by decide +kernel
theorem dX6_tellMine_45 : decode cX6_tellMine 45 = .ok (.getfield 10, 3) := by decide +kernel
theorem dX6_tellMine_48 : decode cX6_tellMine 48 = .ok (.getfield 69, 3) := by decide +kernel
theorem dX6_tellMine_51 : decode cX6_tellMine 51 = .ok (.ireturn, 1) := by decide +kernel
theorem dX6_tellMine_52 : decode cX6_tellMine 52 = .ok (.aload_n 0, 1) := by decide +kernel
theorem dX6_tellMine_53 : decode cX6_tellMine 53 = .ok (.getfield 10, 3) := by decide +kernel
theorem dX6_tellMine_56 : decode cX6_tellMine 56 = .ok (.invokevirtual 113, 3) := by decide +kernel
theorem dX6_tellMine_59 : decode cX6_tellMine 59 = .ok (.ireturn, 1) := by decide +kernel
theorem dX6_tellMine_60 : decode cX6_tellMine 60 = .ok (.aload_n 0, 1) := by decide +kernel
theorem dX6_tellMine_61 : decode cX6_tellMine 61 = .ok (.getfield 19, 3) := by decide +kernel
theorem dX6_tellMine_64 : decode cX6_tellMine 64 = .ok (.aload_n 0, 1) := by decide +kernel
theorem dX6_tellMine_65 : decode cX6_tellMine 65 = .ok (.getfield 10, 3) := by decide +kernel
theorem dX6_tellMine_68 : decode cX6_tellMine 68 = .ok (.invokevirtual 220, 3) := by decide +kernel
theorem dX6_tellMine_71 : decode cX6_tellMine 71 = .ok (.ireturn, 1) := by decide +kernel
theorem dX6_tellMine_72 : decode cX6_tellMine 72 = .ok (.aload_n 0, 1) := by decide +kernel
theorem dX6_tellMine_73 : decode cX6_tellMine 73 = .ok (.getfield 19, 3) := by decide +kernel
theorem dX6_tellMine_76 : decode cX6_tellMine 76 = .ok (.invokevirtual 161, 3) := by decide +kernel
theorem dX6_tellMine_79 : decode cX6_tellMine 79 = .ok (.ireturn, 1) := by decide +kernel
theorem dX6_tellMine_80 : decode cX6_tellMine 80 = .ok (.aload_n 0, 1) := by decide +kernel
theorem dX6_tellMine_81 : decode cX6_tellMine 81 = .ok (.getfield 19, 3) := by decide +kernel
theorem dX6_tellMine_84 : decode cX6_tellMine 84 = .ok (.aload_n 0, 1) := by decide +kernel
theorem dX6_tellMine_85 : decode cX6_tellMine 85 = .ok (.getfield 10, 3) := by decide +kernel
theorem dX6_tellMine_88 : decode cX6_tellMine 88 = .ok (.invokevirtual 224, 3) := by decide +kernel
theorem dX6_tellMine_91 : decode cX6_tellMine 91 = .ok (.ireturn, 1) := by decide +kernel
theorem dX6_tellMine_92 : decode cX6_tellMine 92 = .ok (.aload_n 0, 1) := by decide +kernel
theorem dX6_tellMine_93 : decode cX6_tellMine 93 = .ok (.getfield 10, 3) := by decide +kernel
theorem dX6_tellMine_96 : decode cX6_tellMine 96 = .ok (.getfield 85, 3) := by decide +kernel
theorem dX6_tellMine_99 : decode cX6_tellMine 99 = .ok (.invokestatic 97, 3) := by decide +kernel
theorem dX6_tellMine_102 : decode cX6_tellMine 102 = .ok (.ireturn, 1) := by decide +kernel
theorem dX6_tellMine_103 : decode cX6_tellMine 103 = .ok (.aload_n 0, 1) := by decide +kernel
theorem dX6_tellMine_104 : decode cX6_tellMine 104 = .ok (.getfield 10, 3) := by decide +kernel
theorem dX6_tellMine_107 : decode cX6_tellMine 107 = .ok (.invokevirtual 227, 3) := by decide +kernel
theorem dX6_tellMine_110 : decode cX6_tellMine 110 = .ok (.ireturn, 1) := by decide +kernel
theorem dX6_tellMine_111 : decode cX6_tellMine 111 = .ok (.aload_n 0, 1) := by decide +kernel
theorem dX6_tellMine_112 : decode cX6_tellMine 112 = .ok (.getfield 19, 3) := by decide +kernel
theorem dX6_tellMine_115 : decode cX6_tellMine 115 = .ok (.aload_n 0, 1) := by decide +kernel
theorem dX6_tellMine_116 : decode cX6_tellMine 116 = .ok (.getfield 10, 3) := by decide +kernel
theorem dX6_tellMine_119 : decode cX6_tellMine 119 = .ok (.invokevirtual 230, 3) := by decide +kernel
theorem dX6_tellMine_122 : decode cX6_tellMine 122 = .ok (.ireturn, 1) := by decide +kernel
theorem dX6_tellPillar_0 : decode cX6_tellPillar 0 = .ok (.iload_n 2, 1) := by decide +kernel
theorem dX6_tellPillar_1 : decode cX6_tellPillar 1 = .ok (.tableswitch 85 0 4 #[35, 45, 55, 65, 75], 35) := by decide +kernel
theorem dX6_tellPillar_36 : decode cX6_tellPillar 36 = .ok (.aload_n 0, 1) := by decide +kernel
theorem dX6_tellPillar_37 : decode cX6_tellPillar 37 = .ok (.getfield 10, 3) := by decide +kernel
theorem dX6_tellPillar_40 : decode cX6_tellPillar 40 = .ok (.getfield 233, 3) := by decide +kernel
theorem dX6_tellPillar_43 : decode cX6_tellPillar 43 = .ok (.iload_n 1, 1) := by decide +kernel
theorem dX6_tellPillar_44 : decode cX6_tellPillar 44 = .ok (.iaload, 1) := by decide +kernel
theorem dX6_tellPillar_45 : decode cX6_tellPillar 45 = .ok (.ireturn, 1) := by decide +kernel
theorem dX6_tellPillar_46 : decode cX6_tellPillar 46 = .ok (.aload_n 0, 1) := by decide +kernel
theorem dX6_tellPillar_47 : decode cX6_tellPillar 47 = .ok (.getfield 10, 3) := by decide +kernel
theorem dX6_tellPillar_50 : decode cX6_tellPillar 50 = .ok (.getfield 104, 3) := by decide +kernel
theorem dX6_tellPillar_53 : decode cX6_tellPillar 53 = .ok (.iload_n 1, 1) := by decide +kernel
theorem dX6_tellPillar_54 : decode cX6_tellPillar 54 = .ok (.iaload, 1) := by decide +kernel
theorem dX6_tellPillar_55 : decode cX6_tellPillar 55 = .ok (.ireturn, 1) := by decide +kernel
theorem dX6_tellPillar_56 : decode cX6_tellPillar 56 = .ok (.aload_n 0, 1) := by decide +kernel
theorem dX6_tellPillar_57 : decode cX6_tellPillar 57 = .ok (.getfield 10, 3) := by decide +kernel
theorem dX6_tellPillar_60 : decode cX6_tellPillar 60 = .ok (.getfield 117, 3) := by decide +kernel
theorem dX6_tellPillar_63 : decode cX6_tellPillar 63 = .ok (.iload_n 1, 1) := by decide +kernel
theorem dX6_tellPillar_64 : decode cX6_tellPillar 64 = .ok (.iaload, 1) := by decide +kernel
theorem dX6_tellPillar_65 : decode cX6_tellPillar 65 = .ok (.ireturn, 1) := by decide +kernel
theorem dX6_tellPillar_66 : decode cX6_tellPillar 66 = .ok (.aload_n 0, 1) := by decide +kernel
theorem dX6_tellPillar_67 : decode cX6_tellPillar 67 = .ok (.getfield 19, 3) := by decide +kernel
theorem dX6_tellPillar_70 : decode cX6_tellPillar 70 = .ok (.getfield 170, 3) := by decide +kernel
theorem dX6_tellPillar_73 : decode cX6_tellPillar 73 = .ok (.iload_n 1, 1) := by decide +kernel
theorem dX6_tellPillar_74 : decode cX6_tellPillar 74 = .ok (.iaload, 1) := by decide +kernel
theorem dX6_tellPillar_75 : decode cX6_tellPillar 75 = .ok (.ireturn, 1) := by decide +kernel
theorem dX6_tellPillar_76 : decode cX6_tellPillar 76 = .ok (.aload_n 0, 1) := by decide +kernel
theorem dX6_tellPillar_77 : decode cX6_tellPillar 77 = .ok (.getfield 19, 3) := by decide +kernel
theorem dX6_tellPillar_80 : decode cX6_tellPillar 80 = .ok (.getfield 236, 3) := by decide +kernel
theorem dX6_tellPillar_83 : decode cX6_tellPillar 83 = .ok (.iload_n 1, 1) := by decide +kernel
theorem dX6_tellPillar_84 : decode cX6_tellPillar 84 = .ok (.iaload, 1) := by decide +kernel
theorem dX6_tellPillar_85 : decode cX6_tellPillar 85 = .ok (.ireturn, 1) := by decide +kernel
theorem dX6_tellPillar_86 : decode cX6_tellPillar 86 = .ok (.aload_n 0, 1) := by decide +kernel
theorem dX6_tellPillar_87 : decode cX6_tellPillar 87 = .ok (.getfield 10, 3) := by decide +kernel
theorem dX6_tellPillar_90 : decode cX6_tellPillar 90 = .ok (.iload_n 1, 1) := by decide +kernel
theorem dX6_tellPillar_91 : decode cX6_tellPillar 91 = .ok (.invokevirtual 136, 3) := by decide +kernel
theorem dX6_tellPillar_94 : decode cX6_tellPillar 94 = .ok (.ifCond .eq 25, 3) := by decide +kernel
theorem dX6_tellPillar_97 : decode cX6_tellPillar 97 = .ok (.aload_n 0, 1) := by decide +kernel
theorem dX6_tellPillar_98 : decode cX6_tellPillar 98 = .ok (.getfield 10, 3) := by decide +kernel
theorem dX6_tellPillar_101 : decode cX6_tellPillar 101 = .ok (.getfield 104, 3) := by decide +kernel
theorem dX6_tellPillar_104 : decode cX6_tellPillar 104 = .ok (.iload_n 1, 1) := by decide +kernel
theorem dX6_tellPillar_105 : decode cX6_tellPillar 105 = .ok (.iaload, 1) := by decide +kernel
theorem dX6_tellPillar_106 : decode cX6_tellPillar 106 = .ok (.aload_n 0, 1) := by decide +kernel
theorem dX6_tellPillar_107 : decode cX6_tellPillar 107 = .ok (.getfield 19, 3) := by decide +kernel
theorem dX6_tellPillar_110 : decode cX6_tellPillar 110 = .ok (.getfield 170, 3) := by decide +kernel
theorem dX6_tellPillar_113 : decode cX6_tellPillar 113 = .ok (.iload_n 1, 1) := by decide +kernel
theorem dX6_tellPillar_114 : decode cX6_tellPillar 114 = .ok (.iaload, 1) := by decide +kernel
theorem dX6_tellPillar_115 : decode cX6_tellPillar 115 = .ok (.isub, 1) := by decide +kernel
theorem dX6_tellPillar_116 : decode cX6_tellPillar 116 = .ok (.goto 6, 3) := by decide +kernel
theorem dX6_tellPillar_119 : decode cX6_tellPillar 119 = .ok (.sipush (-10000), 3) := by decide +kernel
theorem dX6_tellPillar_122 : decode cX6_tellPillar 122 = .ok (.ireturn, 1) := by decide +kernel
theorem dX6_isWithin_0 : decode cX6_isWithin 0 = .ok (.iload_n 0, 1) := by decide +kernel
theorem dX6_isWithin_1 : decode cX6_isWithin 1 = .ok (.ifCond .lt 12, 3) := by decide +kernel
theorem dX6_isWithin_4 : decode cX6_isWithin 4 = .ok (.iload_n 0, 1) := by decide +kernel
theorem dX6_isWithin_5 : decode cX6_isWithin 5 = .ok (.iload_n 1, 1) := by decide +kernel
theorem dX6_isWithin_6 : decode cX6_isWithin 6 = .ok (.if_icmp .gt 7, 3) := by decide +kernel
theorem dX6_isWithin_9 : decode cX6_isWithin 9 = .ok (.iconst 1, 1) := by decide +kernel
theorem dX6_isWithin_10 : decode cX6_isWithin 10 = .ok (.goto 4, 3) := by decide +kernel
theorem dX6_isWithin_13 : decode cX6_isWithin 13 = .ok (.iconst 0, 1) := by decide +kernel
theorem dX6_isWithin_14 : decode cX6_isWithin 14 = .ok (.ireturn, 1) := by decide +kernel
theorem dX6_isCell_0 : decode cX6_isCell 0 = .ok (.iload_n 0, 1) := by decide +kernel
theorem dX6_isCell_1 : decode cX6_isCell 1 = .ok (.bipush 95, 2) := by decide +kernel
theorem dX6_isCell_3 : decode cX6_isCell 3 = .ok (.invokestatic 81, 3) := by decide +kernel
theorem dX6_isCell_6 : decode cX6_isCell 6 = .ok (.ireturn, 1) := by decide +kernel
theorem dX6_isStrength_0 : decode cX6_isStrength 0 = .ok (.iload_n 0, 1) := by decide +kernel
theorem dX6_isStrength_1 : decode cX6_isStrength 1 = .ok (.sipush 999, 3) := by decide +kernel
theorem dX6_isStrength_4 : decode cX6_isStrength 4 = .ok (.invokestatic 81, 3) := by decide +kernel
theorem dX6_isStrength_7 : decode cX6_isStrength 7 = .ok (.ireturn, 1) := by decide +kernel
theorem dX6_isWall_0 : decode cX6_isWall 0 = .ok (.iload_n 0, 1) := by decide +kernel
theorem dX6_isWall_1 : decode cX6_isWall 1 = .ok (.bipush 7, 2) := by decide +kernel
theorem dX6_isWall_3 : decode cX6_isWall 3 = .ok (.if_icmp .lt 9, 3) := by decide +kernel
theorem dX6_isWall_6 : decode cX6_isWall 6 = .ok (.iload_n 0, 1) := by decide +kernel
theorem dX6_isWall_7 : decode cX6_isWall 7 = .ok (.bipush 10, 2) := by decide +kernel
theorem dX6_isWall_9 : decode cX6_isWall 9 = .ok (.if_icmp .lt 7, 3) := by decide +kernel
theorem dX6_isWall_12 : decode cX6_isWall 12 = .ok (.iconst 1, 1) := by decide +kernel
theorem dX6_isWall_13 : decode cX6_isWall 13 = .ok (.goto 4, 3) := by decide +kernel
theorem dX6_isWall_16 : decode cX6_isWall 16 = .ok (.iconst 0, 1) := by decide +kernel
theorem dX6_isWall_17 : decode cX6_isWall 17 = .ok (.ireturn, 1) := by decide +kernel
theorem dX6_sum_0 : decode cX6_sum 0 = .ok (.iconst 0, 1) := by decide +kernel
theorem dX6_sum_1 : decode cX6_sum 1 = .ok (.istore_n 1, 1) := by decide +kernel
theorem dX6_sum_2 : decode cX6_sum 2 = .ok (.iconst 0, 1) := by decide +kernel
theorem dX6_sum_3 : decode cX6_sum 3 = .ok (.istore_n 2, 1) := by decide +kernel
theorem dX6_sum_4 : decode cX6_sum 4 = .ok (.iload_n 2, 1) := by decide +kernel
theorem dX6_sum_5 : decode cX6_sum 5 = .ok (.aload_n 0, 1) := by decide +kernel
theorem dX6_sum_6 : decode cX6_sum 6 = .ok (.arraylength, 1) := by decide +kernel
theorem dX6_sum_7 : decode cX6_sum 7 = .ok (.if_icmp .ge 15, 3) := by decide +kernel
theorem dX6_sum_10 : decode cX6_sum 10 = .ok (.iload_n 1, 1) := by decide +kernel
theorem dX6_sum_11 : decode cX6_sum 11 = .ok (.aload_n 0, 1) := by decide +kernel
theorem dX6_sum_12 : decode cX6_sum 12 = .ok (.iload_n 2, 1) := by decide +kernel
theorem dX6_sum_13 : decode cX6_sum 13 = .ok (.iaload, 1) := by decide +kernel
theorem dX6_sum_14 : decode cX6_sum 14 = .ok (.iadd, 1) := by decide +kernel
theorem dX6_sum_15 : decode cX6_sum 15 = .ok (.istore_n 1, 1) := by decide +kernel
theorem dX6_sum_16 : decode cX6_sum 16 = .ok (.iinc 2 1, 3) := by decide +kernel
theorem dX6_sum_19 : decode cX6_sum 19 = .ok (.goto (-15), 3) := by decide +kernel
theorem dX6_sum_22 : decode cX6_sum 22 = .ok (.iload_n 1, 1) := by decide +kernel
theorem dX6_sum_23 : decode cX6_sum 23 = .ok (.ireturn, 1) := by decide +kernel
end
section
theorem dX7_init_0 : decode cX7_init 0 = .ok (.aload_n 0, 1) := by decide +kernel
theorem dX7_init_1 : decode cX7_init 1 = .ok (.invokespecial 1, 3) := by decide +kernel
theorem dX7_init_4 : decode cX7_init 4 = .ok (.aload_n 0, 1) := by decide +kernel
theorem dX7_init_5 : decode cX7_init 5 = .ok (.iconst 3, 1) := by decide +kernel
theorem dX7_init_6 : decode cX7_init 6 = .ok (.newarray .int, 2) := by decide +kernel
theorem dX7_init_8 : decode cX7_init 8 = .ok (.putfield 7, 3) := by decide +kernel
theorem dX7_init_11 : decode cX7_init 11 = .ok (.aload_n 0, 1) := by decide +kernel
theorem dX7_init_12 : decode cX7_init 12 = .ok (.bipush 96, 2) := by decide +kernel
theorem dX7_init_14 : decode cX7_init 14 = .ok (.newarray .int, 2) := by decide +kernel
theorem dX7_init_16 : decode cX7_init 16 = .ok (.dup, 1) := by decide +kernel
theorem dX7_init_17 : decode cX7_init 17 = .ok (.iconst 0, 1) := by decide +kernel
theorem dX7_init_18 : decode cX7_init 18 = .ok (.iconst 1, 1) := by decide +kernel
theorem dX7_init_19 : decode cX7_init 19 = .ok (.iastore, 1) := by decide +kernel
theorem dX7_init_20 : decode cX7_init 20 = .ok (.dup, 1) := by decide +kernel
theorem dX7_init_21 : decode cX7_init 21 = .ok (.iconst 1, 1) := by decide +kernel
theorem dX7_init_22 : decode cX7_init 22 = .ok (.iconst 1, 1) := by decide +kernel
theorem dX7_init_23 : decode cX7_init 23 = .ok (.iastore, 1) := by decide +kernel
theorem dX7_init_24 : decode cX7_init 24 = .ok (.dup, 1) := by decide +kernel
theorem dX7_init_25 : decode cX7_init 25 = .ok (.iconst 2, 1) := by decide +kernel
theorem dX7_init_26 : decode cX7_init 26 = .ok (.iconst 1, 1) := by decide +kernel
theorem dX7_init_27 : decode cX7_init 27 = .ok (.iastore, 1) := by decide +kernel
theorem dX7_init_28 : decode cX7_init 28 = .ok (.dup, 1) := by decide +kernel
theorem dX7_init_29 : decode cX7_init 29 = .ok (.iconst 3, 1) := by decide +kernel
theorem dX7_init_30 : decode cX7_init 30 = .ok (.iconst 1, 1) := by decide +kernel
theorem dX7_init_31 : decode cX7_init 31 = .ok (.iastore, 1) := by decide +kernel
theorem dX7_init_32 : decode cX7_init 32 = .ok (.dup, 1) := by decide +kernel
theorem dX7_init_33 : decode cX7_init 33 = .ok (.iconst 4, 1) := by decide +kernel
theorem dX7_init_34 : decode cX7_init 34 = .ok (.iconst 1, 1) := by decide +kernel
theorem dX7_init_35 : decode cX7_init 35 = .ok (.iastore, 1) := by decide +kernel
theorem dX7_init_36 : decode cX7_init 36 = .ok (.dup, 1) := by decide +kernel
theorem dX7_init_37 : decode cX7_init 37 = .ok (.iconst 5, 1) := by decide +kernel
theorem dX7_init_38 : decode cX7_init 38 = .ok (.iconst 1, 1) := by decide +kernel
theorem dX7_init_39 : decode cX7_init 39 = .ok (.iastore, 1) := by decide +kernel
theorem dX7_init_40 : decode cX7_init 40 = .ok (.dup, 1) := by decide +kernel
theorem dX7_init_41 : decode cX7_init 41 = .ok (.bipush 6, 2) := by decide +kernel
theorem dX7_init_43 : decode cX7_init 43 = .ok (.iconst 1, 1) := by decide +kernel
theorem dX7_init_44 : decode cX7_init 44 = .ok (.iastore, 1) := by decide +kernel
theorem dX7_init_45 : decode cX7_init 45 = .ok (.dup, 1) := by decide +kernel
theorem dX7_init_46 : decode cX7_init 46 = .ok (.bipush 7, 2) := by decide +kernel
theorem dX7_init_48 : decode cX7_init 48 = .ok (.iconst 1, 1) := by decide +kernel
theorem dX7_init_49 : decode cX7_init 49 = .ok (.iastore, 1) := by decide +kernel
theorem dX7_init_50 : decode cX7_init 50 = .ok (.dup, 1) := by decide +kernel
theorem dX7_init_51 : decode cX7_init 51 = .ok (.bipush 8, 2) := by decide +kernel
theorem dX7_init_53 : decode cX7_init 53 = .ok (.iconst 1, 1) := by decide +kernel
theorem dX7_init_54 : decode cX7_init 54 = .ok (.iastore, 1) := by decide +kernel
theorem dX7_init_55 : decode cX7_init 55 = .ok (.dup, 1) := by decide +kernel
theorem dX7_init_56 : decode cX7_init 56 = .ok (.bipush 9, 2) := by decide +kernel
theorem dX7_init_58 : decode cX7_init 58 = .ok (.iconst 1, 1) := by decide +kernel
theorem dX7_init_59 : decode cX7_init 59 = .ok (.iastore, 1) := by decide +kernel
theorem dX7_init_60 : decode cX7_init 60 = .ok (.dup, 1) := by decide +kernel
theorem dX7_init_61 : decode cX7_init 61 = .ok (.bipush 10, 2) := by decide +kernel
theorem dX7_init_63 : decode cX7_init 63 = .ok (.iconst 1, 1) := by decide +kernel
theorem dX7_init_64 : decode cX7_init 64 = .ok (.iastore, 1) := by decide +kernel
theorem dX7_init_65 : decode cX7_init 65 = .ok (.dup, 1) := by decide +kernel
theorem dX7_init_66 : decode cX7_init 66 = .ok (.bipush 11, 2) := by decide +kernel
theorem dX7_init_68 : decode cX7_init 68 = .ok (.iconst 1, 1) := by decide +kernel
theorem dX7_init_69 : decode cX7_init 69 = .ok (.iastore, 1) := by decide +kernel
theorem dX7_init_70 : decode cX7_init 70 = .ok (.dup, 1) := by decide +kernel
theorem dX7_init_71 : decode cX7_init 71 = .ok (.bipush 12, 2) := by decide +kernel
theorem dX7_init_73 : decode cX7_init 73 = .ok (.iconst 1, 1) := by decide +kernel
theorem dX7_init_74 : decode cX7_init 74 = .ok (.iastore, 1) := by decide +kernel
theorem dX7_init_75 : decode cX7_init 75 = .ok (.dup, 1) := by decide +kernel
theorem dX7_init_76 : decode cX7_init 76 = .ok (.bipush 13, 2) := by decide +kernel
theorem dX7_init_78 : decode cX7_init 78 = .ok (.iconst 1, 1) := by decide +kernel
theorem dX7_init_79 : decode cX7_init 79 = .ok (.iastore, 1) := by decide +kernel
theorem dX7_init_80 : decode cX7_init 80 = .ok (.dup, 1) := by decide +kernel
theorem dX7_init_81 : decode cX7_init 81 = .ok (.bipush 14, 2) := by decide +kernel
theorem dX7_init_83 : decode cX7_init 83 = .ok (.iconst 1, 1) := by decide +kernel
theorem dX7_init_84 : decode cX7_init 84 = .ok (.iastore, 1) := by decide +kernel
theorem dX7_init_85 : decode cX7_init 85 = .ok (.dup, 1) := by decide +kernel
theorem dX7_init_86 : decode cX7_init 86 = .ok (.bipush 15, 2) := by decide +kernel
theorem dX7_init_88 : decode cX7_init 88 = .ok (.iconst 1, 1) := by decide +kernel
theorem dX7_init_89 : decode cX7_init 89 = .ok (.iastore, 1) := by decide +kernel
theorem dX7_init_90 : decode cX7_init 90 = .ok (.dup, 1) := by decide +kernel
theorem dX7_init_91 : decode cX7_init 91 = .ok (.bipush 16, 2) := by decide +kernel
theorem dX7_init_93 : decode cX7_init 93 = .ok (.iconst 1, 1) := by decide +kernel
theorem dX7_init_94 : decode cX7_init 94 = .ok (.iastore, 1) := by decide +kernel
theorem dX7_init_95 : decode cX7_init 95 = .ok (.dup, 1) := by decide +kernel
theorem dX7_init_96 : decode cX7_init 96 = .ok (.bipush 17, 2) := by decide +kernel
theorem dX7_init_98 : decode cX7_init 98 = .ok (.iconst 1, 1) := by decide +kernel
theorem dX7_init_99 : decode cX7_init 99 = .ok (.iastore, 1) := by decide +kernel
theorem dX7_init_100 : decode cX7_init 100 = .ok (.dup, 1) := by decide +kernel
theorem dX7_init_101 : decode cX7_init 101 = .ok (.bipush 18, 2) := by decide +kernel
theorem dX7_init_103 : decode cX7_init 103 = .ok (.iconst 1, 1) := by decide +kernel
theorem dX7_init_104 : decode cX7_init 104 = .ok (.iastore, 1) := by decide +kernel
theorem dX7_init_105 : decode cX7_init 105 = .ok (.dup, 1) := by decide +kernel
theorem dX7_init_106 : decode cX7_init 106 = .ok (.bipush 19, 2) := by decide +kernel
theorem dX7_init_108 : decode cX7_init 108 = .ok (.iconst 1, 1) := by decide +kernel
theorem dX7_init_109 : decode cX7_init 109 = .ok (.iastore, 1) := by decide +kernel
theorem dX7_init_110 : decode cX7_init 110 = .ok (.dup, 1) := by decide +kernel
theorem dX7_init_111 : decode cX7_init 111 = .ok (.bipush 20, 2) := by decide +kernel
theorem dX7_init_113 : decode cX7_init 113 = .ok (.iconst 1, 1) := by decide +kernel
theorem dX7_init_114 : decode cX7_init 114 = .ok (.iastore, 1) := by decide +kernel
theorem dX7_init_115 : decode cX7_init 115 = .ok (.dup, 1) := by decide +kernel
theorem dX7_init_116 : decode cX7_init 116 = .ok (.bipush 21, 2) := by decide +kernel
theorem dX7_init_118 : decode cX7_init 118 = .ok (.iconst 1, 1) := by decide +kernel
theorem dX7_init_119 : decode cX7_init 119 = .ok (.iastore, 1) := by decide +kernel
theorem dX7_init_120 : decode cX7_init 120 = .ok (.dup, 1) := by decide +kernel
theorem dX7_init_121 : decode cX7_init 121 = .ok (.bipush 22, 2) := by decide +kernel
theorem dX7_init_123 : decode cX7_init 123 = .ok (.iconst 1, 1) := by decide +kernel
theorem dX7_init_124 : decode cX7_init 124 = .ok (.iastore, 1) := by decide +kernel
theorem dX7_init_125 : decode cX7_init 125 = .ok (.dup, 1) := by decide +kernel
theorem dX7_init_126 : decode cX7_init 126 = .ok (.bipush 23, 2) := by decide +kernel
theorem dX7_init_128 : decode cX7_init 128 = .ok (.iconst 1, 1) := by decide +kernel
theorem dX7_init_129 : decode cX7_init 129 = .ok (.iastore, 1) := by decide +kernel
theorem dX7_init_130 : decode cX7_init 130 = .ok (.dup, 1) := by decide +kernel
theorem dX7_init_131 : decode cX7_init 131 = .ok (.bipush 24, 2) := by decide +kernel
theorem dX7_init_133 : decode cX7_init 133 = .ok (.iconst 1, 1) := by decide +kernel
theorem dX7_init_134 : decode cX7_init 134 = .ok (.iastore, 1) := by decide +kernel
theorem dX7_init_135 : decode cX7_init 135 = .ok (.dup, 1) := by decide +kernel
theorem dX7_init_136 : decode cX7_init 136 = .ok (.bipush 25, 2) := by decide +kernel
theorem dX7_init_138 : decode cX7_init 138 = .ok (.iconst 1, 1) := by decide +kernel
theorem dX7_init_139 : decode cX7_init 139 = .ok (.iastore, 1) := by decide +kernel
theorem dX7_init_140 : decode cX7_init 140 = .ok (.dup, 1) := by decide +kernel
theorem dX7_init_141 : decode cX7_init 141 = .ok (.bipush 26, 2) := by decide +kernel
theorem dX7_init_143 : decode cX7_init 143 = .ok (.iconst 1, 1) := by decide +kernel
theorem dX7_init_144 : decode cX7_init 144 = .ok (.iastore, 1) := by decide +kernel
theorem dX7_init_145 : decode cX7_init 145 = .ok (.dup, 1) := by decide +kernel
theorem dX7_init_146 : decode cX7_init 146 = .ok (.bipush 27, 2) := by decide +kernel
theorem dX7_init_148 : decode cX7_init 148 = .ok (.iconst 1, 1) := by decide +kernel
theorem dX7_init_149 : decode cX7_init 149 = .ok (.iastore, 1) := by decide +kernel
theorem dX7_init_150 : decode cX7_init 150 = .ok (.dup, 1) := by decide +kernel
theorem dX7_init_151 : decode cX7_init 151 = .ok (.bipush 28, 2) := by decide +kernel
theorem dX7_init_153 : decode cX7_init 153 = .ok (.iconst 1, 1) := by decide +kernel
theorem dX7_init_154 : decode cX7_init 154 = .ok (.iastore, 1) := by decide +kernel
theorem dX7_init_155 : decode cX7_init 155 = .ok (.dup, 1) := by decide +kernel
theorem dX7_init_156 : decode cX7_init 156 = .ok (.bipush 29, 2) := by decide +kernel
theorem dX7_init_158 : decode cX7_init 158 = .ok (.iconst 1, 1) := by decide +kernel
theorem dX7_init_159 : decode cX7_init 159 = .ok (.iastore, 1) := by decide +kernel
theorem dX7_init_160 : decode cX7_init 160 = .ok (.dup, 1) := by decide +kernel
theorem dX7_init_161 : decode cX7_init 161 = .ok (.bipush 30, 2) := by decide +kernel
theorem dX7_init_163 : decode cX7_init 163 = .ok (.iconst 1, 1) := by decide +kernel
theorem dX7_init_164 : decode cX7_init 164 = .ok (.iastore, 1) := by decide +kernel
theorem dX7_init_165 : decode cX7_init 165 = .ok (.dup, 1) := by decide +kernel
theorem dX7_init_166 : decode cX7_init 166 = .ok (.bipush 31, 2) := by decide +kernel
theorem dX7_init_168 : decode cX7_init 168 = .ok (.iconst 1, 1) := by decide +kernel
theorem dX7_init_169 : decode cX7_init 169 = .ok (.iastore, 1) := by decide +kernel
theorem dX7_init_170 : decode cX7_init 170 = .ok (.dup, 1) := by decide +kernel
theorem dX7_init_171 : decode cX7_init 171 = .ok (.bipush 32, 2) := by decide +kernel
theorem dX7_init_173 : decode cX7_init 173 = .ok (.iconst 1, 1) := by decide +kernel
theorem dX7_init_174 : decode cX7_init 174 = .ok (.iastore, 1) := by decide +kernel
theorem dX7_init_175 : decode cX7_init 175 = .ok (.dup, 1) := by decide +kernel
theorem dX7_init_176 : decode cX7_init 176 = .ok (.bipush 33, 2) := by decide +kernel
theorem dX7_init_178 : decode cX7_init 178 = .ok (.iconst 1, 1) := by decide +kernel
theorem dX7_init_179 : decode cX7_init 179 = .ok (.iastore, 1) := by decide +kernel
theorem dX7_init_180 : decode cX7_init 180 = .ok (.dup, 1) := by decide +kernel
theorem dX7_init_181 : decode cX7_init 181 = .ok (.bipush 34, 2) := by decide +kernel
theorem dX7_init_183 : decode cX7_init 183 = .ok (.iconst 1, 1) := by decide +kernel
theorem dX7_init_184 : decode cX7_init 184 = .ok (.iastore, 1) := by decide +kernel
theorem dX7_init_185 : decode cX7_init 185 = .ok (.dup, 1) := by decide +kernel
theorem dX7_init_186 : decode cX7_init 186 = .ok (.bipush 35, 2) := by decide +kernel
theorem dX7_init_188 : decode cX7_init 188 = .ok (.iconst 1, 1) := by decide +kernel
theorem dX7_init_189 : decode cX7_init 189 = .ok (.iastore, 1) := by decide +kernel
theorem dX7_init_190 : decode cX7_init 190 = .ok (.dup, 1) := by decide +kernel
theorem dX7_init_191 : decode cX7_init 191 = .ok (.bipush 36, 2) := by decide +kernel
theorem dX7_init_193 : decode cX7_init 193 = .ok (.iconst 1, 1) := by decide +kernel
theorem dX7_init_194 : decode cX7_init 194 = .ok (.iastore, 1) := by decide +kernel
theorem dX7_init_195 : decode cX7_init 195 = .ok (.dup, 1) := by decide +kernel
theorem dX7_init_196 : decode cX7_init 196 = .ok (.bipush 37, 2) := by decide +kernel
theorem dX7_init_198 : decode cX7_init 198 = .ok (.iconst 1, 1) := by decide +kernel
theorem dX7_init_199 : decode cX7_init 199 = .ok (.iastore, 1) := by decide +kernel
theorem dX7_init_200 : decode cX7_init 200 = .ok (.dup, 1) := by decide +kernel
theorem dX7_init_201 : decode cX7_init 201 = .ok (.bipush 38, 2) := by decide +kernel
theorem dX7_init_203 : decode cX7_init 203 = .ok (.iconst 1, 1) := by decide +kernel
theorem dX7_init_204 : decode cX7_init 204 = .ok (.iastore, 1) := by decide +kernel
theorem dX7_init_205 : decode cX7_init 205 = .ok (.dup, 1) := by decide +kernel
theorem dX7_init_206 : decode cX7_init 206 = .ok (.bipush 39, 2) := by decide +kernel
theorem dX7_init_208 : decode cX7_init 208 = .ok (.iconst 1, 1) := by decide +kernel
theorem dX7_init_209 : decode cX7_init 209 = .ok (.iastore, 1) := by decide +kernel
theorem dX7_init_210 : decode cX7_init 210 = .ok (.dup, 1) := by decide +kernel
theorem dX7_init_211 : decode cX7_init 211 = .ok (.bipush 40, 2) := by decide +kernel
theorem dX7_init_213 : decode cX7_init 213 = .ok (.iconst 1, 1) := by decide +kernel
theorem dX7_init_214 : decode cX7_init 214 = .ok (.iastore, 1) := by decide +kernel
theorem dX7_init_215 : decode cX7_init 215 = .ok (.dup, 1) := by decide +kernel
theorem dX7_init_216 : decode cX7_init 216 = .ok (.bipush 41, 2) := by decide +kernel
theorem dX7_init_218 : decode cX7_init 218 = .ok (.iconst 1, 1) := by decide +kernel
theorem dX7_init_219 : decode cX7_init 219 = .ok (.iastore, 1) := by decide +kernel
theorem dX7_init_220 : decode cX7_init 220 = .ok (.dup, 1) := by decide +kernel
theorem dX7_init_221 : decode cX7_init 221 = .ok (.bipush 42, 2) := by decide +kernel
theorem dX7_init_223 : decode cX7_init 223 = .ok (.iconst 1, 1) := by decide +kernel
theorem dX7_init_224 : decode cX7_init 224 = .ok (.iastore, 1) := by decide +kernel
theorem dX7_init_225 : decode cX7_init 225 = .ok (.dup, 1) := by decide +kernel
theorem dX7_init_226 : decode cX7_init 226 = .ok (.bipush 43, 2) := by decide +kernel
theorem dX7_init_228 : decode cX7_init 228 = .ok (.iconst 1, 1) := by decide +kernel
theorem dX7_init_229 : decode cX7_init 229 = .ok (.iastore, 1) := by decide +kernel
theorem dX7_init_230 : decode cX7_init 230 = .ok (.dup, 1) := by decide +kernel
theorem dX7_init_231 : decode cX7_init 231 = .ok (.bipush 44, 2) := by decide +kernel
theorem dX7_init_233 : decode cX7_init 233 = .ok (.iconst 1, 1) := by decide +kernel
theorem dX7_init_234 : decode cX7_init 234 = .ok (.iastore, 1) := by decide +kernel
theorem dX7_init_235 : decode cX7_init 235 = .ok (.dup, 1) := by decide +kernel
theorem dX7_init_236 : decode cX7_init 236 = .ok (.bipush 45, 2) := by decide +kernel
theorem dX7_init_238 : decode cX7_init 238 = .ok (.iconst 1, 1) := by decide +kernel
theorem dX7_init_239 : decode cX7_init 239 = .ok (.iastore, 1) := by decide +kernel
theorem dX7_init_240 : decode cX7_init 240 = .ok (.dup, 1) := by decide +kernel
theorem dX7_init_241 : decode cX7_init 241 = .ok (.bipush 46, 2) := by decide +kernel
theorem dX7_init_243 : decode cX7_init 243 = .ok (.iconst 1, 1) := by decide +kernel
theorem dX7_init_244 : decode cX7_init 244 = .ok (.iastore, 1) := by decide +kernel
theorem dX7_init_245 : decode cX7_init 245 = .ok (.dup, 1) := by decide +kernel
theorem dX7_init_246 : decode cX7_init 246 = .ok (.bipush 47, 2) := by decide +kernel
theorem dX7_init_248 : decode cX7_init 248 = .ok (.iconst 1, 1) := by decide +kernel
theorem dX7_init_249 : decode cX7_init 249 = .ok (.iastore, 1) := by decide +kernel
theorem dX7_init_250 : decode cX7_init 250 = .ok (.dup, 1) := by decide +kernel
theorem dX7_init_251 : decode cX7_init 251 = .ok (.bipush 48, 2) := by decide +kernel
theorem dX7_init_253 : decode cX7_init 253 = .ok (.iconst 1, 1) := by decide +kernel
theorem dX7_init_254 : decode cX7_init 254 = .ok (.iastore, 1) := by decide +kernel
theorem dX7_init_255 : decode cX7_init 255 = .ok (.dup, 1) := by decide +kernel
theorem dX7_init_256 : decode cX7_init 256 = .ok (.bipush 49, 2) := by decide +kernel
theorem dX7_init_258 : decode cX7_init 258 = .ok (.iconst 1, 1) := by decide +kernel
theorem dX7_init_259 : decode cX7_init 259 = .ok (.iastore, 1) := by decide +kernel
theorem dX7_init_260 : decode cX7_init 260 = .ok (.dup, 1) := by decide +kernel
theorem dX7_init_261 : decode cX7_init 261 = .ok (.bipush 50, 2) := by decide +kernel
theorem dX7_init_263 : decode cX7_init 263 = .ok (.iconst 1, 1) := by decide +kernel
theorem dX7_init_264 : decode cX7_init 264 = .ok (.iastore, 1) := by decide +kernel
theorem dX7_init_265 : decode cX7_init 265 = .ok (.dup, 1) := by decide +kernel
theorem dX7_init_266 : decode cX7_init 266 = .ok (.bipush 51, 2) := by decide +kernel
theorem dX7_init_268 : decode cX7_init 268 = .ok (.iconst 1, 1) := by decide +kernel
theorem dX7_init_269 : decode cX7_init 269 = .ok (.iastore, 1) := by decide +kernel
theorem dX7_init_270 : decode cX7_init 270 = .ok (.dup, 1) := by decide +kernel
theorem dX7_init_271 : decode cX7_init 271 = .ok (.bipush 52, 2) := by decide +kernel
theorem dX7_init_273 : decode cX7_init 273 = .ok (.iconst 1, 1) := by decide +kernel
theorem dX7_init_274 : decode cX7_init 274 = .ok (.iastore, 1) := by decide +kernel
theorem dX7_init_275 : decode cX7_init 275 = .ok (.dup, 1) := by decide +kernel
theorem dX7_init_276 : decode cX7_init 276 = .ok (.bipush 53, 2) := by decide +kernel
theorem dX7_init_278 : decode cX7_init 278 = .ok (.iconst 1, 1) := by decide +kernel
theorem dX7_init_279 : decode cX7_init 279 = .ok (.iastore, 1) := by decide +kernel
theorem dX7_init_280 : decode cX7_init 280 = .ok (.dup, 1) := by decide +kernel
theorem dX7_init_281 : decode cX7_init 281 = .ok (.bipush 54, 2) := by decide +kernel
theorem dX7_init_283 : decode cX7_init 283 = .ok (.iconst 1, 1) := by decide +kernel
theorem dX7_init_284 : decode cX7_init 284 = .ok (.iastore, 1) := by decide +kernel
theorem dX7_init_285 : decode cX7_init 285 = .ok (.dup, 1) := by decide +kernel
theorem dX7_init_286 : decode cX7_init 286 = .ok (.bipush 55, 2) := by decide +kernel
theorem dX7_init_288 : decode cX7_init 288 = .ok (.iconst 1, 1) := by decide +kernel
theorem dX7_init_289 : decode cX7_init 289 = .ok (.iastore, 1) := by decide +kernel
theorem dX7_init_290 : decode cX7_init 290 = .ok (.dup, 1) := by decide +kernel
theorem dX7_init_291 : decode cX7_init 291 = .ok (.bipush 56, 2) := by decide +kernel
theorem dX7_init_293 : decode cX7_init 293 = .ok (.iconst 1, 1) := by decide +kernel
theorem dX7_init_294 : decode cX7_init 294 = .ok (.iastore, 1) := by decide +kernel
theorem dX7_init_295 : decode cX7_init 295 = .ok (.dup, 1) := by decide +kernel
theorem dX7_init_296 : decode cX7_init 296 = .ok (.bipush 57, 2) := by decide +kernel
theorem dX7_init_298 : decode cX7_init 298 = .ok (.iconst 1, 1) := by decide +kernel
theorem dX7_init_299 : decode cX7_init 299 = .ok (.iastore, 1) := by decide +kernel
theorem dX7_init_300 : decode cX7_init 300 = .ok (.dup, 1) := by decide +kernel
theorem dX7_init_301 : decode cX7_init 301 = .ok (.bipush 58, 2) := by decide +kernel
theorem dX7_init_303 : decode cX7_init 303 = .ok (.iconst 1, 1) := by decide +kernel
theorem dX7_init_304 : decode cX7_init 304 = .ok (.iastore, 1) := by decide +kernel
theorem dX7_init_305 : decode cX7_init 305 = .ok (.dup, 1) := by decide +kernel
theorem dX7_init_306 : decode cX7_init 306 = .ok (.bipush 59, 2) := by decide +kernel
theorem dX7_init_308 : decode cX7_init 308 = .ok (.iconst 1, 1) := by decide +kernel
theorem dX7_init_309 : decode cX7_init 309 = .ok (.iastore, 1) := by decide +kernel
theorem dX7_init_310 : decode cX7_init 310 = .ok (.dup, 1) := by decide +kernel
theorem dX7_init_311 : decode cX7_init 311 = .ok (.bipush 60, 2) := by decide +kernel
theorem dX7_init_313 : decode cX7_init 313 = .ok (.iconst 1, 1) := by decide +kernel
theorem dX7_init_314 : decode cX7_init 314 = .ok (.iastore, 1) := by decide +kernel
theorem dX7_init_315 : decode cX7_init 315 = .ok (.dup, 1) := by decide +kernel
theorem dX7_init_316 : decode cX7_init 316 = .ok (.bipush 61, 2) := by decide +kernel
theorem dX7_init_318 : decode cX7_init 318 = .ok (.iconst 1, 1) := by decide +kernel
theorem dX7_init_319 : decode cX7_init 319 = .ok (.iastore, 1) := by decide +kernel
theorem dX7_init_320 : decode cX7_init 320 = .ok (.dup, 1) := by decide +kernel
theorem dX7_init_321 : decode cX7_init 321 = .ok (.bipush 62, 2) := by decide +kernel
theorem dX7_init_323 : decode cX7_init 323 = .ok (.iconst 1, 1) := by decide +kernel
theorem dX7_init_324 : decode cX7_init 324 = .ok (.iastore, 1) := by decide +kernel
theorem dX7_init_325 : decode cX7_init 325 = .ok (.dup, 1) := by decide +kernel
theorem dX7_init_326 : decode cX7_init 326 = .ok (.bipush 63, 2) := by decide +kernel
theorem dX7_init_328 : decode cX7_init 328 = .ok (.iconst 1, 1) := by decide +kernel
theorem dX7_init_329 : decode cX7_init 329 = .ok (.iastore, 1) := by decide +kernel
theorem dX7_init_330 : decode cX7_init 330 = .ok (.dup, 1) := by decide +kernel
theorem dX7_init_331 : decode cX7_init 331 = .ok (.bipush 64, 2) := by decide +kernel
theorem dX7_init_333 : decode cX7_init 333 = .ok (.iconst 1, 1) := by decide +kernel
theorem dX7_init_334 : decode cX7_init 334 = .ok (.iastore, 1) := by decide +kernel
theorem dX7_init_335 : decode cX7_init 335 = .ok (.dup, 1) := by decide +kernel
theorem dX7_init_336 : decode cX7_init 336 = .ok (.bipush 65, 2) := by decide +kernel
theorem dX7_init_338 : decode cX7_init 338 = .ok (.iconst 1, 1) := by decide +kernel
theorem dX7_init_339 : decode cX7_init 339 = .ok (.iastore, 1) := by decide +kernel
theorem dX7_init_340 : decode cX7_init 340 = .ok (.dup, 1) := by decide +kernel
theorem dX7_init_341 : decode cX7_init 341 = .ok (.bipush 66, 2) := by decide +kernel
theorem dX7_init_343 : decode cX7_init 343 = .ok (.iconst 1, 1) := by decide +kernel
theorem dX7_init_344 : decode cX7_init 344 = .ok (.iastore, 1) := by decide +kernel
theorem dX7_init_345 : decode cX7_init 345 = .ok (.dup, 1) := by decide +kernel
theorem dX7_init_346 : decode cX7_init 346 = .ok (.bipush 67, 2) := by decide +kernel
theorem dX7_init_348 : decode cX7_init 348 = .ok (.iconst 1, 1) := by decide +kernel
theorem dX7_init_349 : decode cX7_init 349 = .ok (.iastore, 1) := by decide +kernel
theorem dX7_init_350 : decode cX7_init 350 = .ok (.dup, 1) := by decide +kernel
theorem dX7_init_351 : decode cX7_init 351 = .ok (.bipush 68, 2) := by decide +kernel
theorem dX7_init_353 : decode cX7_init 353 = .ok (.iconst 1, 1) := by decide +kernel
theorem dX7_init_354 : decode cX7_init 354 = .ok (.iastore, 1) := by decide +kernel
theorem dX7_init_355 : decode cX7_init 355 = .ok (.dup, 1) := by decide +kernel
theorem dX7_init_356 : decode cX7_init 356 = .ok (.bipush 69, 2) := by decide +kernel
theorem dX7_init_358 : decode cX7_init 358 = .ok (.iconst 1, 1) := by decide +kernel
theorem dX7_init_359 : decode cX7_init 359 = .ok (.iastore, 1) := by decide +kernel
theorem dX7_init_360 : decode cX7_init 360 = .ok (.dup, 1) := by decide +kernel
theorem dX7_init_361 : decode cX7_init 361 = .ok (.bipush 70, 2) := by decide +kernel
theorem dX7_init_363 : decode cX7_init 363 = .ok (.iconst 1, 1) := by decide +kernel
theorem dX7_init_364 : decode cX7_init 364 = .ok (.iastore, 1) := by decide +kernel
theorem dX7_init_365 : decode cX7_init 365 = .ok (.dup, 1) := by decide +kernel
theorem dX7_init_366 : decode cX7_init 366 = .ok (.bipush 71, 2) := by decide +kernel
theorem dX7_init_368 : decode cX7_init 368 = .ok (.iconst 1, 1) := by decide +kernel
theorem dX7_init_369 : decode cX7_init 369 = .ok (.iastore, 1) := by decide +kernel
theorem dX7_init_370 : decode cX7_init 370 = .ok (.dup, 1) := by decide +kernel
theorem dX7_init_371 : decode cX7_init 371 = .ok (.bipush 72, 2) := by decide +kernel
theorem dX7_init_373 : decode cX7_init 373 = .ok (.iconst 1, 1) := by decide +kernel
theorem dX7_init_374 : decode cX7_init 374 = .ok (.iastore, 1) := by decide +kernel
theorem dX7_init_375 : decode cX7_init 375 = .ok (.dup, 1) := by decide +kernel
theorem dX7_init_376 : decode cX7_init 376 = .ok (.bipush 73, 2) := by decide +kernel
theorem dX7_init_378 : decode cX7_init 378 = .ok (.iconst 1, 1) := by decide +kernel
theorem dX7_init_379 : decode cX7_init 379 = .ok (.iastore, 1) := by decide +kernel
theorem dX7_init_380 : decode cX7_init 380 = .ok (.dup, 1) := by decide +kernel
theorem dX7_init_381 : decode cX7_init 381 = .ok (.bipush 74, 2) := by decide +kernel
theorem dX7_init_383 : decode cX7_init 383 = .ok (.iconst 1, 1) := by decide +kernel
theorem dX7_init_384 : decode cX7_init 384 = .ok (.iastore, 1) := by decide +kernel
theorem dX7_init_385 : decode cX7_init 385 = .ok (.dup, 1) := by decide +kernel
theorem dX7_init_386 : decode cX7_init 386 = .ok (.bipush 75, 2) := by decide +kernel
theorem dX7_init_388 : decode cX7_init 388 = .ok (.iconst 1, 1) := by decide +kernel
theorem dX7_init_389 : decode cX7_init 389 = .ok (.iastore, 1) := by decide +kernel
theorem dX7_init_390 : decode cX7_init 390 = .ok (.dup, 1) := by decide +kernel
theorem dX7_init_391 : decode cX7_init 391 = .ok (.bipush 76, 2) := by decide +kernel
theorem dX7_init_393 : decode cX7_init 393 = .ok (.iconst 1, 1) := by decide +kernel
theorem dX7_init_394 : decode cX7_init 394 = .ok (.iastore, 1) := by decide +kernel
theorem dX7_init_395 : decode cX7_init 395 = .ok (.dup, 1) := by decide +kernel
theorem dX7_init_396 : decode cX7_init 396 = .ok (.bipush 77, 2) := by decide +kernel
theorem dX7_init_398 : decode cX7_init 398 = .ok (.iconst 1, 1) := by decide +kernel
theorem dX7_init_399 : decode cX7_init 399 = .ok (.iastore, 1) := by decide +kernel
theorem dX7_init_400 : decode cX7_init 400 = .ok (.dup, 1) := by decide +kernel
theorem dX7_init_401 : decode cX7_init 401 = .ok (.bipush 78, 2) := by decide +kernel
theorem dX7_init_403 : decode cX7_init 403 = .ok (.iconst 1, 1) := by decide +kernel
theorem dX7_init_404 : decode cX7_init 404 = .ok (.iastore, 1) := by decide +kernel
theorem dX7_init_405 : decode cX7_init 405 = .ok (.dup, 1) := by decide +kernel
theorem dX7_init_406 : decode cX7_init 406 = .ok (.bipush 79, 2) := by decide +kernel
theorem dX7_init_408 : decode cX7_init 408 = .ok (.iconst 1, 1) := by decide +kernel
theorem dX7_init_409 : decode cX7_init 409 = .ok (.iastore, 1) := by decide +kernel
theorem dX7_init_410 : decode cX7_init 410 = .ok (.dup, 1) := by decide +kernel
theorem dX7_init_411 : decode cX7_init 411 = .ok (.bipush 80, 2) := by decide +kernel
theorem dX7_init_413 : decode cX7_init 413 = .ok (.iconst 1, 1) := by decide +kernel
theorem dX7_init_414 : decode cX7_init 414 = .ok (.iastore, 1) := by decide +kernel
theorem dX7_init_415 : decode cX7_init 415 = .ok (.dup, 1) := by decide +kernel
theorem dX7_init_416 : decode cX7_init 416 = .ok (.bipush 81, 2) := by decide +kernel
theorem dX7_init_418 : decode cX7_init 418 = .ok (.iconst 1, 1) := by decide +kernel
theorem dX7_init_419 : decode cX7_init 419 = .ok (.iastore, 1) := by decide +kernel
theorem dX7_init_420 : decode cX7_init 420 = .ok (.dup, 1) := by decide +kernel
theorem dX7_init_421 : decode cX7_init 421 = .ok (.bipush 82, 2) := by decide +kernel
theorem dX7_init_423 : decode cX7_init 423 = .ok (.iconst 1, 1) := by decide +kernel
theorem dX7_init_424 : decode cX7_init 424 = .ok (.iastore, 1) := by decide +kernel
theorem dX7_init_425 : decode cX7_init 425 = .ok (.dup, 1) := by decide +kernel
theorem dX7_init_426 : decode cX7_init 426 = .ok (.bipush 83, 2) := by decide +kernel
theorem dX7_init_428 : decode cX7_init 428 = .ok (.iconst 1, 1) := by decide +kernel
theorem dX7_init_429 : decode cX7_init 429 = .ok (.iastore, 1) := by decide +kernel
theorem dX7_init_430 : decode cX7_init 430 = .ok (.dup, 1) := by decide +kernel
theorem dX7_init_431 : decode cX7_init 431 = .ok (.bipush 84, 2) := by decide +kernel
theorem dX7_init_433 : decode cX7_init 433 = .ok (.iconst 1, 1) := by decide +kernel
theorem dX7_init_434 : decode cX7_init 434 = .ok (.iastore, 1) := by decide +kernel
theorem dX7_init_435 : decode cX7_init 435 = .ok (.dup, 1) := by decide +kernel
theorem dX7_init_436 : decode cX7_init 436 = .ok (.bipush 85, 2) := by decide +kernel
theorem dX7_init_438 : decode cX7_init 438 = .ok (.iconst 1, 1) := by decide +kernel
theorem dX7_init_439 : decode cX7_init 439 = .ok (.iastore, 1) := by decide +kernel
theorem dX7_init_440 : decode cX7_init 440 = .ok (.dup, 1) := by decide +kernel
theorem dX7_init_441 : decode cX7_init 441 = .ok (.bipush 86, 2) := by decide +kernel
theorem dX7_init_443 : decode cX7_init 443 = .ok (.iconst 1, 1) := by decide +kernel
theorem dX7_init_444 : decode cX7_init 444 = .ok (.iastore, 1) := by decide +kernel
theorem dX7_init_445 : decode cX7_init 445 = .ok (.dup, 1) := by decide +kernel
theorem dX7_init_446 : decode cX7_init 446 = .ok (.bipush 87, 2) := by decide +kernel
theorem dX7_init_448 : decode cX7_init 448 = .ok (.iconst 1, 1) := by decide +kernel
theorem dX7_init_449 : decode cX7_init 449 = .ok (.iastore, 1) := by decide +kernel
theorem dX7_init_450 : decode cX7_init 450 = .ok (.dup, 1) := by decide +kernel
theorem dX7_init_451 : decode cX7_init 451 = .ok (.bipush 88, 2) := by decide +kernel
theorem dX7_init_453 : decode cX7_init 453 = .ok (.iconst 1, 1) := by decide +kernel
theorem dX7_init_454 : decode cX7_init 454 = .ok (.iastore, 1) := by decide +kernel
theorem dX7_init_455 : decode cX7_init 455 = .ok (.dup, 1) := by decide +kernel
theorem dX7_init_456 : decode cX7_init 456 = .ok (.bipush 89, 2) := by decide +kernel
theorem dX7_init_458 : decode cX7_init 458 = .ok (.iconst 1, 1) := by decide +kernel
theorem dX7_init_459 : decode cX7_init 459 = .ok (.iastore, 1) := by decide +kernel
theorem dX7_init_460 : decode cX7_init 460 = .ok (.dup, 1) := by decide +kernel
theorem dX7_init_461 : decode cX7_init 461 = .ok (.bipush 90, 2) := by decide +kernel
theorem dX7_init_463 : decode cX7_init 463 = .ok (.iconst 1, 1) := by decide +kernel
theorem dX7_init_464 : decode cX7_init 464 = .ok (.iastore, 1) := by decide +kernel
theorem dX7_init_465 : decode cX7_init 465 = .ok (.dup, 1) := by decide +kernel
theorem dX7_init_466 : decode cX7_init 466 = .ok (.bipush 91, 2) := by decide +kernel
theorem dX7_init_468 : decode cX7_init 468 = .ok (.iconst 1, 1) := by decide +kernel
theorem dX7_init_469 : decode cX7_init 469 = .ok (.iastore, 1) := by decide +kernel
theorem dX7_init_470 : decode cX7_init 470 = .ok (.dup, 1) := by decide +kernel
theorem dX7_init_471 : decode cX7_init 471 = .ok (.bipush 92, 2) := by decide +kernel
theorem dX7_init_473 : decode cX7_init 473 = .ok (.iconst 1, 1) := by decide +kernel
theorem dX7_init_474 : decode cX7_init 474 = .ok (.iastore, 1) := by decide +kernel
theorem dX7_init_475 : decode cX7_init 475 = .ok (.dup, 1) := by decide +kernel
theorem dX7_init_476 : decode cX7_init 476 = .ok (.bipush 93, 2) := by decide +kernel
theorem dX7_init_478 : decode cX7_init 478 = .ok (.iconst 1, 1) := by decide +kernel
theorem dX7_init_479 : decode cX7_init 479 = .ok (.iastore, 1) := by decide +kernel
theorem dX7_init_480 : decode cX7_init 480 = .ok (.dup, 1) := by decide +kernel
theorem dX7_init_481 : decode cX7_init 481 = .ok (.bipush 94, 2) := by decide +kernel
theorem dX7_init_483 : decode cX7_init 483 = .ok (.iconst 1, 1) := by decide +kernel
theorem dX7_init_484 : decode cX7_init 484 = .ok (.iastore, 1) := by decide +kernel
theorem dX7_init_485 : decode cX7_init 485 = .ok (.dup, 1) := by decide +kernel
theorem dX7_init_486 : decode cX7_init 486 = .ok (.bipush 95, 2) := by decide +kernel
theorem dX7_init_488 : decode cX7_init 488 = .ok (.iconst 1, 1) := by decide +kernel
theorem dX7_init_489 : decode cX7_init 489 = .ok (.iastore, 1) := by decide +kernel
theorem dX7_init_490 : decode cX7_init 490 = .ok (.putfield 13, 3) := by decide +kernel
theorem dX7_init_493 : decode cX7_init 493 = .ok (.aload_n 0, 1) := by decide +kernel
theorem dX7_init_494 : decode cX7_init 494 = .ok (.bipush 13, 2) := by decide +kernel
theorem dX7_init_496 : decode cX7_init 496 = .ok (.newarray .int, 2) := by decide +kernel
theorem dX7_init_498 : decode cX7_init 498 = .ok (.putfield 16, 3) := by decide +kernel
theorem dX7_init_501 : decode cX7_init 501 = .ok (.aload_n 0, 1) := by decide +kernel
theorem dX7_init_502 : decode cX7_init 502 = .ok (.bipush 13, 2) := by decide +kernel
theorem dX7_init_504 : decode cX7_init 504 = .ok (.newarray .int, 2) := by decide +kernel
theorem dX7_init_506 : decode cX7_init 506 = .ok (.putfield 19, 3) := by decide +kernel
theorem dX7_init_509 : decode cX7_init 509 = .ok (.aload_n 0, 1) := by decide +kernel
theorem dX7_init_510 : decode cX7_init 510 = .ok (.sipush 840, 3) := by decide +kernel
theorem dX7_init_513 : decode cX7_init 513 = .ok (.newarray .int, 2) := by decide +kernel
theorem dX7_init_515 : decode cX7_init 515 = .ok (.putfield 22, 3) := by decide +kernel
theorem dX7_init_518 : decode cX7_init 518 = .ok (.aload_n 0, 1) := by decide +kernel
theorem dX7_init_519 : decode cX7_init 519 = .ok (.bipush 8, 2) := by decide +kernel
theorem dX7_init_521 : decode cX7_init 521 = .ok (.newarray .int, 2) := by decide +kernel
theorem dX7_init_523 : decode cX7_init 523 = .ok (.putfield 25, 3) := by decide +kernel
theorem dX7_init_526 : decode cX7_init 526 = .ok (.aload_n 0, 1) := by decide +kernel
theorem dX7_init_527 : decode cX7_init 527 = .ok (.bipush 12, 2) := by decide +kernel
theorem dX7_init_529 : decode cX7_init 529 = .ok (.newarray .int, 2) := by decide +kernel
theorem dX7_init_531 : decode cX7_init 531 = .ok (.putfield 28, 3) := by decide +kernel
theorem dX7_init_534 : decode cX7_init 534 = .ok (.aload_n 0, 1) := by decide +kernel
theorem dX7_init_535 : decode cX7_init 535 = .ok (.bipush 14, 2) := by decide +kernel
theorem dX7_init_537 : decode cX7_init 537 = .ok (.newarray .int, 2) := by decide +kernel
theorem dX7_init_539 : decode cX7_init 539 = .ok (.putfield 31, 3) := by decide +kernel
theorem dX7_init_542 : decode cX7_init 542 = .ok (.aload_n 0, 1) := by decide +kernel
theorem dX7_init_543 : decode cX7_init 543 = .ok (.bipush 14, 2) := by decide +kernel
theorem dX7_init_545 : decode cX7_init 545 = .ok (.newarray .int, 2) := by decide +kernel
theorem dX7_init_547 : decode cX7_init 547 = .ok (.putfield 34, 3) := by decide +kernel
theorem dX7_init_550 : decode cX7_init 550 = .ok (.aload_n 0, 1) := by decide +kernel
theorem dX7_init_551 : decode cX7_init 551 = .ok (.bipush 13, 2) := by decide +kernel
theorem dX7_init_553 : decode cX7_init 553 = .ok (.newarray .int, 2) := by decide +kernel
theorem dX7_init_555 : decode cX7_init 555 = .ok (.putfield 37, 3) := by decide +kernel
theorem dX7_init_558 : decode cX7_init 558 = .ok (.aload_n 0, 1) := by decide +kernel
theorem dX7_init_559 : decode cX7_init 559 = .ok (.bipush 120, 2) := by decide +kernel
theorem dX7_init_561 : decode cX7_init 561 = .ok (.newarray .int, 2) := by decide +kernel
theorem dX7_init_563 : decode cX7_init 563 = .ok (.putfield 40, 3) := by decide +kernel
theorem dX7_init_566 : decode cX7_init 566 = .ok (.aload_n 0, 1) := by decide +kernel
theorem dX7_init_567 : decode cX7_init 567 = .ok (.bipush 13, 2) := by decide +kernel
theorem dX7_init_569 : decode cX7_init 569 = .ok (.newarray .int, 2) := by decide +kernel
theorem dX7_init_571 : decode cX7_init 571 = .ok (.putfield 43, 3) := by decide +kernel
theorem dX7_init_574 : decode cX7_init 574 = .ok (.aload_n 0, 1) := by decide +kernel
theorem dX7_init_575 : decode cX7_init 575 = .ok (.sipush 140, 3) := by decide +kernel
theorem dX7_init_578 : decode cX7_init 578 = .ok (.newarray .int, 2) := by decide +kernel
theorem dX7_init_580 : decode cX7_init 580 = .ok (.putfield 46, 3) := by decide +kernel
theorem dX7_init_583 : decode cX7_init 583 = .ok (.return_, 1) := by decide +kernel
theorem dX7_bad_0 : decode cX7_bad 0 = .ok (.aload_n 0, 1) := by decide +kernel
theorem dX7_bad_1 : decode cX7_bad 1 = .ok (.getfield 7, 3) := by decide +kernel
theorem dX7_bad_4 : decode cX7_bad 4 = .ok (.iconst 0, 1) := by decide +kernel
theorem dX7_bad_5 : decode cX7_bad 5 = .ok (.dup2, 1) := by decide +kernel
theorem dX7_bad_6 : decode cX7_bad 6 = .ok (.iaload, 1) := by decide +kernel
theorem dX7_bad_7 : decode cX7_bad 7 = .ok (.iconst 1, 1) := by decide +kernel
theorem dX7_bad_8 : decode cX7_bad 8 = .ok (.iadd, 1) := by decide +kernel
theorem dX7_bad_9 : decode cX7_bad 9 = .ok (.iastore, 1) := by decide +kernel
theorem dX7_bad_10 : decode cX7_bad 10 = .ok (.bipush (-2), 2) := by decide +kernel
theorem dX7_bad_12 : decode cX7_bad 12 = .ok (.ireturn, 1) := by decide +kernel
theorem dX7_no_0 : decode cX7_no 0 = .ok (.aload_n 0, 1) := by decide +kernel
theorem dX7_no_1 : decode cX7_no 1 = .ok (.getfield 7, 3) := by decide +kernel
theorem dX7_no_4 : decode cX7_no 4 = .ok (.iconst 1, 1) := by decide +kernel
theorem dX7_no_5 : decode cX7_no 5 = .ok (.dup2, 1) := by decide +kernel
theorem dX7_no_6 : decode cX7_no 6 = .ok (.iaload, 1) := by decide +kernel
theorem dX7_no_7 : decode cX7_no 7 = .ok (.iconst 1, 1) := by decide +kernel
theorem dX7_no_8 : decode cX7_no 8 = .ok (.iadd, 1) := by decide +kernel
theorem dX7_no_9 : decode cX7_no 9 = .ok (.iastore, 1) := by decide +kernel
theorem dX7_no_10 : decode cX7_no 10 = .ok (.bipush (-3), 2) := by decide +kernel
theorem dX7_no_12 : decode cX7_no 12 = .ok (.ireturn, 1) := by decide +kernel
theorem dX7_full_0 : decode cX7_full 0 = .ok (.aload_n 0, 1) := by decide +kernel
theorem dX7_full_1 : decode cX7_full 1 = .ok (.getfield 7, 3) := by decide +kernel
theorem dX7_full_4 : decode cX7_full 4 = .ok (.iconst 2, 1) := by decide +kernel
theorem dX7_full_5 : decode cX7_full 5 = .ok (.dup2, 1) := by decide +kernel
theorem dX7_full_6 : decode cX7_full 6 = .ok (.iaload, 1) := by decide +kernel
theorem dX7_full_7 : decode cX7_full 7 = .ok (.iconst 1, 1) := by decide +kernel
theorem dX7_full_8 : decode cX7_full 8 = .ok (.iadd, 1) := by decide +kernel
theorem dX7_full_9 : decode cX7_full 9 = .ok (.iastore, 1) := by decide +kernel
theorem dX7_full_10 : decode cX7_full 10 = .ok (.bipush (-4), 2) := by decide +kernel
theorem dX7_full_12 : decode cX7_full 12 = .ok (.ireturn, 1) := by decide +kernel
theorem dX7_in_0 : decode cX7_in 0 = .ok (.iload_n 0, 1) := by decide +kernel
theorem dX7_in_1 : decode cX7_in 1 = .ok (.iload_n 1, 1) := by decide +kernel
theorem dX7_in_2 : decode cX7_in 2 = .ok (.if_icmp .lt 12, 3) := by decide +kernel
theorem dX7_in_5 : decode cX7_in 5 = .ok (.iload_n 0, 1) := by decide +kernel
theorem dX7_in_6 : decode cX7_in 6 = .ok (.iload_n 2, 1) := by decide +kernel
theorem dX7_in_7 : decode cX7_in 7 = .ok (.if_icmp .gt 7, 3) := by decide +kernel
theorem dX7_in_10 : decode cX7_in 10 = .ok (.iconst 1, 1) := by decide +kernel
theorem dX7_in_11 : decode cX7_in 11 = .ok (.goto 4, 3) := by decide +kernel
theorem dX7_in_14 : decode cX7_in 14 = .ok (.iconst 0, 1) := by decide +kernel
theorem dX7_in_15 : decode cX7_in 15 = .ok (.ireturn, 1) := by decide +kernel
theorem dX7_ones_0 : decode cX7_ones 0 = .ok (.iconst 0, 1) := by decide +kernel
theorem dX7_ones_1 : decode cX7_ones 1 = .ok (.istore_n 1, 1) := by decide +kernel
theorem dX7_ones_2 : decode cX7_ones 2 = .ok (.iconst 0, 1) := by decide +kernel
theorem dX7_ones_3 : decode cX7_ones 3 = .ok (.istore_n 2, 1) := by decide +kernel
theorem dX7_ones_4 : decode cX7_ones 4 = .ok (.iload_n 2, 1) := by decide +kernel
theorem dX7_ones_5 : decode cX7_ones 5 = .ok (.bipush 12, 2) := by decide +kernel
theorem dX7_ones_7 : decode cX7_ones 7 = .ok (.if_icmp .ge 17, 3) := by decide +kernel
theorem dX7_ones_10 : decode cX7_ones 10 = .ok (.iload_n 1, 1) := by decide +kernel
theorem dX7_ones_11 : decode cX7_ones 11 = .ok (.iload_n 0, 1) := by decide +kernel
theorem dX7_ones_12 : decode cX7_ones 12 = .ok (.iload_n 2, 1) := by decide +kernel
theorem dX7_ones_13 : decode cX7_ones 13 = .ok (.ishr, 1) := by decide +kernel
theorem dX7_ones_14 : decode cX7_ones 14 = .ok (.iconst 1, 1) := by decide +kernel
theorem dX7_ones_15 : decode cX7_ones 15 = .ok (.iand, 1) := by decide +kernel
theorem dX7_ones_16 : decode cX7_ones 16 = .ok (.iadd, 1) := by decide +kernel
theorem dX7_ones_17 : decode cX7_ones 17 = .ok (.istore_n 1, 1) := by decide +kernel
theorem dX7_ones_18 : decode cX7_ones 18 = .ok (.iinc 2 1, 3) := by decide +kernel
theorem dX7_ones_21 : decode cX7_ones 21 = .ok (.goto (-17), 3) := by decide +kernel
theorem dX7_ones_24 : decode cX7_ones 24 = .ok (.iload_n 1, 1) := by decide +kernel
theorem dX7_ones_25 : decode cX7_ones 25 = .ok (.ireturn, 1) := by decide +kernel
theorem dX7_writes_0 : decode cX7_writes 0 = .ok (.aload_n 0, 1) := by decide +kernel
theorem dX7_writes_1 : decode cX7_writes 1 = .ok (.getfield 22, 3) := by decide +kernel
theorem dX7_writes_4 : decode cX7_writes 4 = .ok (.iload_n 1, 1) := by decide +kernel
theorem dX7_writes_5 : decode cX7_writes 5 = .ok (.aload_n 0, 1) := by decide +kernel
theorem dX7_writes_6 : decode cX7_writes 6 = .ok (.getfield 49, 3) := by decide +kernel
theorem dX7_writes_9 : decode cX7_writes 9 = .ok (.iastore, 1) := by decide +kernel
theorem dX7_writes_10 : decode cX7_writes 10 = .ok (.aload_n 0, 1) := by decide +kernel
theorem dX7_writes_11 : decode cX7_writes 11 = .ok (.getfield 22, 3) := by decide +kernel
theorem dX7_writes_14 : decode cX7_writes 14 = .ok (.iload_n 1, 1) := by decide +kernel
theorem dX7_writes_15 : decode cX7_writes 15 = .ok (.iconst 1, 1) := by decide +kernel
theorem dX7_writes_16 : decode cX7_writes 16 = .ok (.iadd, 1) := by decide +kernel
theorem dX7_writes_17 : decode cX7_writes 17 = .ok (.aload_n 0, 1) := by decide +kernel
theorem dX7_writes_18 : decode cX7_writes 18 = .ok (.getfield 53, 3) := by decide +kernel
theorem dX7_writes_21 : decode cX7_writes 21 = .ok (.iastore, 1) := by decide +kernel
theorem dX7_writes_22 : decode cX7_writes 22 = .ok (.aload_n 0, 1) := by decide +kernel
theorem dX7_writes_23 : decode cX7_writes 23 = .ok (.getfield 22, 3) := by decide +kernel
theorem dX7_writes_26 : decode cX7_writes 26 = .ok (.iload_n 1, 1) := by decide +kernel
theorem dX7_writes_27 : decode cX7_writes 27 = .ok (.iconst 2, 1) := by decide +kernel
theorem dX7_writes_28 : decode cX7_writes 28 = .ok (.iadd, 1) := by decide +kernel
theorem dX7_writes_29 : decode cX7_writes 29 = .ok (.aload_n 0, 1) := by decide +kernel
theorem dX7_writes_30 : decode cX7_writes 30 = .ok (.getfield 56, 3) := by decide +kernel
theorem dX7_writes_33 : decode cX7_writes 33 = .ok (.iastore, 1) := by decide +kernel
theorem dX7_writes_34 : decode cX7_writes 34 = .ok (.iconst 0, 1) := by decide +kernel
theorem dX7_writes_35 : decode cX7_writes 35 = .ok (.istore_n 2, 1) := by decide +kernel
theorem dX7_writes_36 : decode cX7_writes 36 = .ok (.iload_n 2, 1) := by decide +kernel
theorem dX7_writes_37 : decode cX7_writes 37 = .ok (.bipush 12, 2) := by decide +kernel
theorem dX7_writes_39 : decode cX7_writes 39 = .ok (.if_icmp .ge 42, 3) := by decide +kernel
theorem dX7_writes_42 : decode cX7_writes 42 = .ok (.aload_n 0, 1) := by decide +kernel
theorem dX7_writes_43 : decode cX7_writes 43 = .ok (.getfield 22, 3) := by decide +kernel
theorem dX7_writes_46 : decode cX7_writes 46 = .ok (.iload_n 1, 1) := by decide +kernel
theorem dX7_writes_47 : decode cX7_writes 47 = .ok (.iconst 4, 1) := by decide +kernel
theorem dX7_writes_48 : decode cX7_writes 48 = .ok (.iadd, 1) := by decide +kernel
theorem dX7_writes_49 : decode cX7_writes 49 = .ok (.iload_n 2, 1) := by decide +kernel
theorem dX7_writes_50 : decode cX7_writes 50 = .ok (.iadd, 1) := by decide +kernel
theorem dX7_writes_51 : decode cX7_writes 51 = .ok (.aload_n 0, 1) := by decide +kernel
theorem dX7_writes_52 : decode cX7_writes 52 = .ok (.getfield 16, 3) := by decide +kernel
theorem dX7_writes_55 : decode cX7_writes 55 = .ok (.iload_n 2, 1) := by decide +kernel
theorem dX7_writes_56 : decode cX7_writes 56 = .ok (.iaload, 1) := by decide +kernel
theorem dX7_writes_57 : decode cX7_writes 57 = .ok (.iastore, 1) := by decide +kernel
theorem dX7_writes_58 : decode cX7_writes 58 = .ok (.aload_n 0, 1) := by decide +kernel
theorem dX7_writes_59 : decode cX7_writes 59 = .ok (.getfield 22, 3) := by decide +kernel
theorem dX7_writes_62 : decode cX7_writes 62 = .ok (.iload_n 1, 1) := by decide +kernel
theorem dX7_writes_63 : decode cX7_writes 63 = .ok (.bipush 16, 2) := by decide +kernel
theorem dX7_writes_65 : decode cX7_writes 65 = .ok (.iadd, 1) := by decide +kernel
theorem dX7_writes_66 : decode cX7_writes 66 = .ok (.iload_n 2, 1) := by decide +kernel
theorem dX7_writes_67 : decode cX7_writes 67 = .ok (.iadd, 1) := by decide +kernel
theorem dX7_writes_68 : decode cX7_writes 68 = .ok (.aload_n 0, 1) := by decide +kernel
theorem dX7_writes_69 : decode cX7_writes 69 = .ok (.getfield 19, 3) := by decide +kernel
theorem dX7_writes_72 : decode cX7_writes 72 = .ok (.iload_n 2, 1) := by decide +kernel
theorem dX7_writes_73 : decode cX7_writes 73 = .ok (.iaload, 1) := by decide +kernel
theorem dX7_writes_74 : decode cX7_writes 74 = .ok (.iastore, 1) := by decide +kernel
theorem dX7_writes_75 : decode cX7_writes 75 = .ok (.iinc 2 1, 3) := by decide +kernel
theorem dX7_writes_78 : decode cX7_writes 78 = .ok (.goto (-42), 3) := by decide +kernel
theorem dX7_writes_81 : decode cX7_writes 81 = .ok (.iconst 0, 1) := by decide +kernel
theorem dX7_writes_82 : decode cX7_writes 82 = .ok (.istore_n 2, 1) := by decide +kernel
theorem dX7_writes_83 : decode cX7_writes 83 = .ok (.iload_n 2, 1) := by decide +kernel
theorem dX7_writes_84 : decode cX7_writes 84 = .ok (.bipush 96, 2) := by decide +kernel
theorem dX7_writes_86 : decode cX7_writes 86 = .ok (.if_icmp .ge 26, 3) := by decide +kernel
theorem dX7_writes_89 : decode cX7_writes 89 = .ok (.aload_n 0, 1) := by decide +kernel
theorem dX7_writes_90 : decode cX7_writes 90 = .ok (.getfield 22, 3) := by decide +kernel
theorem dX7_writes_93 : decode cX7_writes 93 = .ok (.iload_n 1, 1) := by decide +kernel
theorem dX7_writes_94 : decode cX7_writes 94 = .ok (.bipush 28, 2) := by decide +kernel
theorem dX7_writes_96 : decode cX7_writes 96 = .ok (.iadd, 1) := by decide +kernel
theorem dX7_writes_97 : decode cX7_writes 97 = .ok (.iload_n 2, 1) := by decide +kernel
theorem dX7_writes_98 : decode cX7_writes 98 = .ok (.iadd, 1) := by decide +kernel
theorem dX7_writes_99 : decode cX7_writes 99 = .ok (.aload_n 0, 1) := by decide +kernel
theorem dX7_writes_100 : decode cX7_writes 100 = .ok (.getfield 13, 3) := by decide +kernel
theorem dX7_writes_103 : decode cX7_writes 103 = .ok (.iload_n 2, 1) := by decide +kernel
theorem dX7_writes_104 : decode cX7_writes 104 = .ok (.iaload, 1) := by decide +kernel
theorem dX7_writes_105 : decode cX7_writes 105 = .ok (.iastore, 1) := by decide +kernel
theorem dX7_writes_106 : decode cX7_writes 106 = .ok (.iinc 2 1, 3) := by decide +kernel
theorem dX7_writes_109 : decode cX7_writes 109 = .ok (.goto (-26), 3) := by decide +kernel
theorem dX7_writes_112 : decode cX7_writes 112 = .ok (.return_, 1) := by decide +kernel
theorem dX7_leavesState_0 : decode cX7_leavesState 0 = .ok (.aload_n 0, 1) := by decide +kernel
theorem dX7_leavesState_1 : decode cX7_leavesState 1 = .ok (.getfield 59, 3) := by decide +kernel
theorem dX7_leavesState_4 : decode cX7_leavesState 4 = .ok (.bipush 6, 2) := by decide +kernel
theorem dX7_leavesState_6 : decode cX7_leavesState 6 = .ok (.if_icmp .ne 44, 3) := by decide +kernel
theorem dX7_leavesState_9 : decode cX7_leavesState 9 = .ok (.iconst 0, 1) := by decide +kernel
theorem dX7_leavesState_10 : decode cX7_leavesState 10 = .ok (.istore_n 1, 1) := by decide +kernel
theorem dX7_leavesState_11 : decode cX7_leavesState 11 = .ok (.iload_n 1, 1) := by decide +kernel
theorem dX7_leavesState_12 : decode cX7_leavesState 12 = .ok (.sipush 700, 3) := by decide +kernel
theorem dX7_leavesState_15 : decode cX7_leavesState 15 = .ok (.if_icmp .ge 25, 3) := by decide +kernel
theorem dX7_leavesState_18 : decode cX7_leavesState 18 = .ok (.aload_n 0, 1) := by decide +kernel
theorem dX7_leavesState_19 : decode cX7_leavesState 19 = .ok (.getfield 22, 3) := by decide +kernel
theorem dX7_leavesState_22 : decode cX7_leavesState 22 = .ok (.iload_n 1, 1) := by decide +kernel
theorem dX7_leavesState_23 : decode cX7_leavesState 23 = .ok (.aload_n 0, 1) := by decide +kernel
theorem dX7_leavesState_24 : decode cX7_leavesState 24 = .ok (.getfield 22, 3) := by decide +kernel
theorem dX7_leavesState_27 : decode cX7_leavesState 27 = .ok (.iload_n 1, 1) := by decide +kernel
theorem dX7_leavesState_28 : decode cX7_leavesState 28 = .ok (.sipush 140, 3) := by decide +kernel
theorem dX7_leavesState_31 : decode cX7_leavesState 31 = .ok (.iadd, 1) := by decide +kernel
theorem dX7_leavesState_32 : decode cX7_leavesState 32 = .ok (.iaload, 1) := by decide +kernel
theorem dX7_leavesState_33 : decode cX7_leavesState 33 = .ok (.iastore, 1) := by decide +kernel
theorem dX7_leavesState_34 : decode cX7_leavesState 34 = .ok (.iinc 1 1, 3) := by decide +kernel
theorem dX7_leavesState_37 : decode cX7_leavesState 37 = .ok (.goto (-26), 3) := by decide +kernel
theorem dX7_leavesState_40 : decode cX7_leavesState 40 = .ok (.aload_n 0, 1) := by decide +kernel
theorem dX7_leavesState_41 : decode cX7_leavesState 41 = .ok (.dup, 1) := by decide +kernel
theorem dX7_leavesState_42 : decode cX7_leavesState 42 = .ok (.getfield 59, 3) := by decide +kernel
theorem dX7_leavesState_45 : decode cX7_leavesState 45 = .ok (.iconst 1, 1) := by decide +kernel
theorem dX7_leavesState_46 : decode cX7_leavesState 46 = .ok (.isub, 1) := by decide +kernel
theorem dX7_leavesState_47 : decode cX7_leavesState 47 = .ok (.putfield 59, 3) := by decide +kernel
theorem dX7_leavesState_50 : decode cX7_leavesState 50 = .ok (.aload_n 0, 1) := by decide +kernel
theorem dX7_leavesState_51 : decode cX7_leavesState 51 = .ok (.sipush 140, 3) := by decide +kernel
theorem dX7_leavesState_54 : decode cX7_leavesState 54 = .ok (.aload_n 0, 1) := by decide +kernel
theorem dX7_leavesState_55 : decode cX7_leavesState 55 = .ok (.getfield 59, 3) := by decide +kernel
theorem dX7_leavesState_58 : decode cX7_leavesState 58 = .ok (.imul, 1) := by decide +kernel
theorem dX7_leavesState_59 : decode cX7_leavesState 59 = .ok (.invokevirtual 62, 3) := by decide +kernel
theorem dX7_leavesState_62 : decode cX7_leavesState 62 = .ok (.aload_n 0, 1) := by decide +kernel
theorem dX7_leavesState_63 : decode cX7_leavesState 63 = .ok (.dup, 1) := by decide +kernel
theorem dX7_leavesState_64 : decode cX7_leavesState 64 = .ok (.getfield 59, 3) := by decide +kernel
theorem dX7_leavesState_67 : decode cX7_leavesState 67 = .ok (.iconst 1, 1) := by decide +kernel
theorem dX7_leavesState_68 : decode cX7_leavesState 68 = .ok (.iadd, 1) := by decide +kernel
theorem dX7_leavesState_69 : decode cX7_leavesState 69 = .ok (.putfield 59, 3) := by decide +kernel
theorem dX7_leavesState_72 : decode cX7_leavesState 72 = .ok (.return_, 1) := by decide +kernel
theorem dX7_comesBack_0 : decode cX7_comesBack 0 = .ok (.aload_n 0, 1) := by decide +kernel
theorem dX7_comesBack_1 : decode cX7_comesBack 1 = .ok (.dup, 1) := by decide +kernel
theorem dX7_comesBack_2 : decode cX7_comesBack 2 = .ok (.getfield 59, 3) := by decide +kernel
theorem dX7_comesBack_5 : decode cX7_comesBack 5 = .ok (.iconst 1, 1) := by decide +kernel
theorem dX7_comesBack_6 : decode cX7_comesBack 6 = .ok (.isub, 1) := by decide +kernel
theorem dX7_comesBack_7 : decode cX7_comesBack 7 = .ok (.putfield 59, 3) := by decide +kernel
theorem dX7_comesBack_10 : decode cX7_comesBack 10 = .ok (.sipush 140, 3) := by decide +kernel
theorem dX7_comesBack_13 : decode cX7_comesBack 13 = .ok (.aload_n 0, 1) := by decide +kernel
theorem dX7_comesBack_14 : decode cX7_comesBack 14 = .ok (.getfield 59, 3) := by decide +kernel
theorem dX7_comesBack_17 : decode cX7_comesBack 17 = .ok (.imul, 1) := by decide +kernel
theorem dX7_comesBack_18 : decode cX7_comesBack 18 = .ok (.istore_n 1, 1) := by decide +kernel
theorem dX7_comesBack_19 : decode cX7_comesBack 19 = .ok (.aload_n 0, 1) := by decide +kernel
theorem dX7_comesBack_20 : decode cX7_comesBack 20 = .ok (.aload_n 0, 1) := by decide +kernel
theorem dX7_comesBack_21 : decode cX7_comesBack 21 = .ok (.getfield 22, 3) := by decide +kernel
theorem dX7_comesBack_24 : decode cX7_comesBack 24 = .ok (.iload_n 1, 1) := by decide +kernel
theorem dX7_comesBack_25 : decode cX7_comesBack 25 = .ok (.iaload, 1) := by decide +kernel
theorem dX7_comesBack_26 : decode cX7_comesBack 26 = .ok (.putfield 49, 3) := by decide +kernel
theorem dX7_comesBack_29 : decode cX7_comesBack 29 = .ok (.aload_n 0, 1) := by decide +kernel
theorem dX7_comesBack_30 : decode cX7_comesBack 30 = .ok (.aload_n 0, 1) := by decide +kernel
theorem dX7_comesBack_31 : decode cX7_comesBack 31 = .ok (.getfield 22, 3) := by decide +kernel
theorem dX7_comesBack_34 : decode cX7_comesBack 34 = .ok (.iload_n 1, 1) := by decide +kernel
theorem dX7_comesBack_35 : decode cX7_comesBack 35 = .ok (.iconst 1, 1) := by decide +kernel
theorem dX7_comesBack_36 : decode cX7_comesBack 36 = .ok (.iadd, 1) := by decide +kernel
theorem dX7_comesBack_37 : decode cX7_comesBack 37 = .ok (.iaload, 1) := by decide +kernel
theorem dX7_comesBack_38 : decode cX7_comesBack 38 = .ok (.putfield 53, 3) := by decide +kernel
theorem dX7_comesBack_41 : decode cX7_comesBack 41 = .ok (.aload_n 0, 1) := by decide +kernel
theorem dX7_comesBack_42 : decode cX7_comesBack 42 = .ok (.aload_n 0, 1) := by decide +kernel
theorem dX7_comesBack_43 : decode cX7_comesBack 43 = .ok (.getfield 22, 3) := by decide +kernel
theorem dX7_comesBack_46 : decode cX7_comesBack 46 = .ok (.iload_n 1, 1) := by decide +kernel
theorem dX7_comesBack_47 : decode cX7_comesBack 47 = .ok (.iconst 2, 1) := by decide +kernel
theorem dX7_comesBack_48 : decode cX7_comesBack 48 = .ok (.iadd, 1) := by decide +kernel
theorem dX7_comesBack_49 : decode cX7_comesBack 49 = .ok (.iaload, 1) := by decide +kernel
theorem dX7_comesBack_50 : decode cX7_comesBack 50 = .ok (.putfield 56, 3) := by decide +kernel
theorem dX7_comesBack_53 : decode cX7_comesBack 53 = .ok (.iconst 0, 1) := by decide +kernel
theorem dX7_comesBack_54 : decode cX7_comesBack 54 = .ok (.istore_n 2, 1) := by decide +kernel
theorem dX7_comesBack_55 : decode cX7_comesBack 55 = .ok (.iload_n 2, 1) := by decide +kernel
theorem dX7_comesBack_56 : decode cX7_comesBack 56 = .ok (.bipush 12, 2) := by decide +kernel
theorem dX7_comesBack_58 : decode cX7_comesBack 58 = .ok (.if_icmp .ge 42, 3) := by decide +kernel
theorem dX7_comesBack_61 : decode cX7_comesBack 61 = .ok (.aload_n 0, 1) := by decide +kernel
theorem dX7_comesBack_62 : decode cX7_comesBack 62 = .ok (.getfield 16, 3) := by decide +kernel
theorem dX7_comesBack_65 : decode cX7_comesBack 65 = .ok (.iload_n 2, 1) := by decide +kernel
theorem dX7_comesBack_66 : decode cX7_comesBack 66 = .ok (.aload_n 0, 1) := by decide +kernel
theorem dX7_comesBack_67 : decode cX7_comesBack 67 = .ok (.getfield 22, 3) := by decide +kernel
theorem dX7_comesBack_70 : decode cX7_comesBack 70 = .ok (.iload_n 1, 1) := by decide +kernel
theorem dX7_comesBack_71 : decode cX7_comesBack 71 = .ok (.iconst 4, 1) := by decide +kernel
theorem dX7_comesBack_72 : decode cX7_comesBack 72 = .ok (.iadd, 1) := by decide +kernel
theorem dX7_comesBack_73 : decode cX7_comesBack 73 = .ok (.iload_n 2, 1) := by decide +kernel
theorem dX7_comesBack_74 : decode cX7_comesBack 74 = .ok (.iadd, 1) := by decide +kernel
theorem dX7_comesBack_75 : decode cX7_comesBack 75 = .ok (.iaload, 1) := by decide +kernel
theorem dX7_comesBack_76 : decode cX7_comesBack 76 = .ok (.iastore, 1) := by decide +kernel
theorem dX7_comesBack_77 : decode cX7_comesBack 77 = .ok (.aload_n 0, 1) := by decide +kernel
theorem dX7_comesBack_78 : decode cX7_comesBack 78 = .ok (.getfield 19, 3) := by decide +kernel
theorem dX7_comesBack_81 : decode cX7_comesBack 81 = .ok (.iload_n 2, 1) := by decide +kernel
theorem dX7_comesBack_82 : decode cX7_comesBack 82 = .ok (.aload_n 0, 1) := by decide +kernel
theorem dX7_comesBack_83 : decode cX7_comesBack 83 = .ok (.getfield 22, 3) := by decide +kernel
theorem dX7_comesBack_86 : decode cX7_comesBack 86 = .ok (.iload_n 1, 1) := by decide +kernel
theorem dX7_comesBack_87 : decode cX7_comesBack 87 = .ok (.bipush 16, 2) := by decide +kernel
theorem dX7_comesBack_89 : decode cX7_comesBack 89 = .ok (.iadd, 1) := by decide +kernel
theorem dX7_comesBack_90 : decode cX7_comesBack 90 = .ok (.iload_n 2, 1) := by decide +kernel
theorem dX7_comesBack_91 : decode cX7_comesBack 91 = .ok (.iadd, 1) := by decide +kernel
theorem dX7_comesBack_92 : decode cX7_comesBack 92 = .ok (.iaload, 1) := by decide +kernel
theorem dX7_comesBack_93 : decode cX7_comesBack 93 = .ok (.iastore, 1) := by decide +kernel
theorem dX7_comesBack_94 : decode cX7_comesBack 94 = .ok (.iinc 2 1, 3) := by decide +kernel
theorem dX7_comesBack_97 : decode cX7_comesBack 97 = .ok (.goto (-42), 3) := by decide +kernel
theorem dX7_comesBack_100 : decode cX7_comesBack 100 = .ok (.iconst 0, 1) := by decide +kernel
theorem dX7_comesBack_101 : decode cX7_comesBack 101 = .ok (.istore_n 2, 1) := by decide +kernel
theorem dX7_comesBack_102 : decode cX7_comesBack 102 = .ok (.iload_n 2, 1) := by decide +kernel
theorem dX7_comesBack_103 : decode cX7_comesBack 103 = .ok (.bipush 96, 2) := by decide +kernel
theorem dX7_comesBack_105 : decode cX7_comesBack 105 = .ok (.if_icmp .ge 26, 3) := by decide +kernel
theorem dX7_comesBack_108 : decode cX7_comesBack 108 = .ok (.aload_n 0, 1) := by decide +kernel
theorem dX7_comesBack_109 : decode cX7_comesBack 109 = .ok (.getfield 13, 3) := by decide +kernel
theorem dX7_comesBack_112 : decode cX7_comesBack 112 = .ok (.iload_n 2, 1) := by decide +kernel
theorem dX7_comesBack_113 : decode cX7_comesBack 113 = .ok (.aload_n 0, 1) := by decide +kernel
theorem dX7_comesBack_114 : decode cX7_comesBack 114 = .ok (.getfield 22, 3) := by decide +kernel
theorem dX7_comesBack_117 : decode cX7_comesBack 117 = .ok (.iload_n 1, 1) := by decide +kernel
theorem dX7_comesBack_118 : decode cX7_comesBack 118 = .ok (.bipush 28, 2) := by decide +kernel
theorem dX7_comesBack_120 : decode cX7_comesBack 120 = .ok (.iadd, 1) := by decide +kernel
theorem dX7_comesBack_121 : decode cX7_comesBack 121 = .ok (.iload_n 2, 1) := by decide +kernel
theorem dX7_comesBack_122 : decode cX7_comesBack 122 = .ok (.iadd, 1) := by decide +kernel
theorem dX7_comesBack_123 : decode cX7_comesBack 123 = .ok (.iaload, 1) := by decide +kernel
theorem dX7_comesBack_124 : decode cX7_comesBack 124 = .ok (.iastore, 1) := by decide +kernel
theorem dX7_comesBack_125 : decode cX7_comesBack 125 = .ok (.iinc 2 1, 3) := by decide +kernel
theorem dX7_comesBack_128 : decode cX7_comesBack 128 = .ok (.goto (-26), 3) := by decide +kernel
theorem dX7_comesBack_131 : decode cX7_comesBack 131 = .ok (.return_, 1) := by decide +kernel
theorem dX7_back_0 : decode cX7_back 0 = .ok (.aload_n 0, 1) := by decide +kernel
theorem dX7_back_1 : decode cX7_back 1 = .ok (.getfield 59, 3) := by decide +kernel
theorem dX7_back_4 : decode cX7_back 4 = .ok (.ifCond .ne 8, 3) := by decide +kernel
theorem dX7_back_7 : decode cX7_back 7 = .ok (.aload_n 0, 1) := by decide +kernel
theorem dX7_back_8 : decode cX7_back 8 = .ok (.invokevirtual 66, 3) := by decide +kernel
theorem dX7_back_11 : decode cX7_back 11 = .ok (.ireturn, 1) := by decide +kernel
theorem dX7_back_12 : decode cX7_back 12 = .ok (.aload_n 0, 1) := by decide +kernel
theorem dX7_back_13 : decode cX7_back 13 = .ok (.invokevirtual 70, 3) := by decide +kernel
theorem dX7_back_16 : decode cX7_back 16 = .ok (.aload_n 0, 1) := by decide +kernel
theorem dX7_back_17 : decode cX7_back 17 = .ok (.invokevirtual 73, 3) := by decide +kernel
theorem dX7_back_20 : decode cX7_back 20 = .ok (.aload_n 0, 1) := by decide +kernel
theorem dX7_back_21 : decode cX7_back 21 = .ok (.getfield 59, 3) := by decide +kernel
theorem dX7_back_24 : decode cX7_back 24 = .ok (.ireturn, 1) := by decide +kernel
theorem dX7_isCell_0 : decode cX7_isCell 0 = .ok (.iload_n 0, 1) := by decide +kernel
theorem dX7_isCell_1 : decode cX7_isCell 1 = .ok (.iconst 0, 1) := by decide +kernel
theorem dX7_isCell_2 : decode cX7_isCell 2 = .ok (.bipush 95, 2) := by decide +kernel
theorem dX7_isCell_4 : decode cX7_isCell 4 = .ok (.invokestatic 76, 3) := by decide +kernel
theorem dX7_isCell_7 : decode cX7_isCell 7 = .ok (.ireturn, 1) := by decide +kernel
theorem dX7_isPillar_0 : decode cX7_isPillar 0 = .ok (.iload_n 1, 1) := by decide +kernel
theorem dX7_isPillar_1 : decode cX7_isPillar 1 = .ok (.iconst 0, 1) := by decide +kernel
theorem dX7_isPillar_2 : decode cX7_isPillar 2 = .ok (.aload_n 0, 1) := by decide +kernel
theorem dX7_isPillar_3 : decode cX7_isPillar 3 = .ok (.getfield 49, 3) := by decide +kernel
theorem dX7_isPillar_6 : decode cX7_isPillar 6 = .ok (.iconst 1, 1) := by decide +kernel
theorem dX7_isPillar_7 : decode cX7_isPillar 7 = .ok (.isub, 1) := by decide +kernel
theorem dX7_isPillar_8 : decode cX7_isPillar 8 = .ok (.invokestatic 76, 3) := by decide +kernel
theorem dX7_isPillar_11 : decode cX7_isPillar 11 = .ok (.ireturn, 1) := by decide +kernel
theorem dX7_stands_0 : decode cX7_stands 0 = .ok (.aload_n 0, 1) := by decide +kernel
theorem dX7_stands_1 : decode cX7_stands 1 = .ok (.getfield 53, 3) := by decide +kernel
theorem dX7_stands_4 : decode cX7_stands 4 = .ok (.iload_n 1, 1) := by decide +kernel
theorem dX7_stands_5 : decode cX7_stands 5 = .ok (.ishr, 1) := by decide +kernel
theorem dX7_stands_6 : decode cX7_stands 6 = .ok (.iconst 1, 1) := by decide +kernel
theorem dX7_stands_7 : decode cX7_stands 7 = .ok (.iand, 1) := by decide +kernel
theorem dX7_stands_8 : decode cX7_stands 8 = .ok (.iconst 1, 1) := by decide +kernel
theorem dX7_stands_9 : decode cX7_stands 9 = .ok (.if_icmp .ne 7, 3) := by decide +kernel
theorem dX7_stands_12 : decode cX7_stands 12 = .ok (.iconst 1, 1) := by decide +kernel
theorem dX7_stands_13 : decode cX7_stands 13 = .ok (.goto 4, 3) := by decide +kernel
theorem dX7_stands_16 : decode cX7_stands 16 = .ok (.iconst 0, 1) := by decide +kernel
theorem dX7_stands_17 : decode cX7_stands 17 = .ok (.ireturn, 1) := by decide +kernel
theorem dX7_pillarAt_0 : decode cX7_pillarAt 0 = .ok (.iconst 0, 1) := by decide +kernel
theorem dX7_pillarAt_1 : decode cX7_pillarAt 1 = .ok (.istore_n 2, 1) := by decide +kernel
theorem dX7_pillarAt_2 : decode cX7_pillarAt 2 = .ok (.iload_n 2, 1) := by decide +kernel
theorem dX7_pillarAt_3 : decode cX7_pillarAt 3 = .ok (.aload_n 0, 1) := by decide +kernel
theorem dX7_pillarAt_4 : decode cX7_pillarAt 4 = .ok (.getfield 49, 3) := by decide +kernel
theorem dX7_pillarAt_7 : decode cX7_pillarAt 7 = .ok (.if_icmp .ge 21, 3) := by decide +kernel
theorem dX7_pillarAt_10 : decode cX7_pillarAt 10 = .ok (.aload_n 0, 1) := by decide +kernel
theorem dX7_pillarAt_11 : decode cX7_pillarAt 11 = .ok (.getfield 16, 3) := by decide +kernel
theorem dX7_pillarAt_14 : decode cX7_pillarAt 14 = .ok (.iload_n 2, 1) := by decide +kernel
theorem dX7_pillarAt_15 : decode cX7_pillarAt 15 = .ok (.iaload, 1) := by decide +kernel
theorem dX7_pillarAt_16 : decode cX7_pillarAt 16 = .ok (.iload_n 1, 1) := by decide +kernel
theorem dX7_pillarAt_17 : decode cX7_pillarAt 17 = .ok (.if_icmp .ne 5, 3) := by decide +kernel
theorem dX7_pillarAt_20 : decode cX7_pillarAt 20 = .ok (.iload_n 2, 1) := by decide +kernel
theorem dX7_pillarAt_21 : decode cX7_pillarAt 21 = .ok (.ireturn, 1) := by decide +kernel
theorem dX7_pillarAt_22 : decode cX7_pillarAt 22 = .ok (.iinc 2 1, 3) := by decide +kernel
theorem dX7_pillarAt_25 : decode cX7_pillarAt 25 = .ok (.goto (-23), 3) := by decide +kernel
theorem dX7_pillarAt_28 : decode cX7_pillarAt 28 = .ok (.iconst (-1), 1) := by decide +kernel
theorem dX7_pillarAt_29 : decode cX7_pillarAt 29 = .ok (.ireturn, 1) := by decide +kernel
theorem dX7_comesPillar_0 : decode cX7_comesPillar 0 = .ok (.aload_n 0, 1) := by decide +kernel
theorem dX7_comesPillar_1 : decode cX7_comesPillar 1 = .ok (.getfield 16, 3) := by decide +kernel
theorem dX7_comesPillar_4 : decode cX7_comesPillar 4 = .ok (.aload_n 0, 1) := by decide +kernel
theorem dX7_comesPillar_5 : decode cX7_comesPillar 5 = .ok (.getfield 49, 3) := by decide +kernel
theorem dX7_comesPillar_8 : decode cX7_comesPillar 8 = .ok (.iload_n 1, 1) := by decide +kernel
theorem dX7_comesPillar_9 : decode cX7_comesPillar 9 = .ok (.iastore, 1) := by decide +kernel
theorem dX7_comesPillar_10 : decode cX7_comesPillar 10 = .ok (.aload_n 0, 1) := by decide +kernel
theorem dX7_comesPillar_11 : decode cX7_comesPillar 11 = .ok (.getfield 19, 3) := by decide +kernel
theorem dX7_comesPillar_14 : decode cX7_comesPillar 14 = .ok (.aload_n 0, 1) := by decide +kernel
theorem dX7_comesPillar_15 : decode cX7_comesPillar 15 = .ok (.getfield 49, 3) := by decide +kernel
theorem dX7_comesPillar_18 : decode cX7_comesPillar 18 = .ok (.iload_n 2, 1) := by decide +kernel
theorem dX7_comesPillar_19 : decode cX7_comesPillar 19 = .ok (.iastore, 1) := by decide +kernel
theorem dX7_comesPillar_20 : decode cX7_comesPillar 20 = .ok (.aload_n 0, 1) := by decide +kernel
theorem dX7_comesPillar_21 : decode cX7_comesPillar 21 = .ok (.dup, 1) := by decide +kernel
theorem dX7_comesPillar_22 : decode cX7_comesPillar 22 = .ok (.getfield 53, 3) := by decide +kernel
theorem dX7_comesPillar_25 : decode cX7_comesPillar 25 = .ok (.iconst 1, 1) := by decide +kernel
theorem dX7_comesPillar_26 : decode cX7_comesPillar 26 = .ok (.aload_n 0, 1) := by decide +kernel
theorem dX7_comesPillar_27 : decode cX7_comesPillar 27 = .ok (.getfield 49, 3) := by decide +kernel
theorem dX7_comesPillar_30 : decode cX7_comesPillar 30 = .ok (.ishl, 1) := by decide +kernel
theorem dX7_comesPillar_31 : decode cX7_comesPillar 31 = .ok (.ior, 1) := by decide +kernel
theorem dX7_comesPillar_32 : decode cX7_comesPillar 32 = .ok (.putfield 53, 3) := by decide +kernel
theorem dX7_comesPillar_35 : decode cX7_comesPillar 35 = .ok (.aload_n 0, 1) := by decide +kernel
theorem dX7_comesPillar_36 : decode cX7_comesPillar 36 = .ok (.dup, 1) := by decide +kernel
theorem dX7_comesPillar_37 : decode cX7_comesPillar 37 = .ok (.getfield 49, 3) := by decide +kernel
theorem dX7_comesPillar_40 : decode cX7_comesPillar 40 = .ok (.iconst 1, 1) := by decide +kernel
theorem dX7_comesPillar_41 : decode cX7_comesPillar 41 = .ok (.iadd, 1) := by decide +kernel
theorem dX7_comesPillar_42 : decode cX7_comesPillar 42 = .ok (.putfield 49, 3) := by decide +kernel
theorem dX7_comesPillar_45 : decode cX7_comesPillar 45 = .ok (.return_, 1) := by decide +kernel
theorem dX7_pillar_0 : decode cX7_pillar 0 = .ok (.iload_n 1, 1) := by decide +kernel
theorem dX7_pillar_1 : decode cX7_pillar 1 = .ok (.invokestatic 80, 3) := by decide +kernel
theorem dX7_pillar_4 : decode cX7_pillar 4 = .ok (.ifCond .eq 14, 3) := by decide +kernel
theorem dX7_pillar_7 : decode cX7_pillar 7 = .ok (.iload_n 2, 1) := by decide +kernel
theorem dX7_pillar_8 : decode cX7_pillar 8 = .ok (.iconst 0, 1) := by decide +kernel
theorem dX7_pillar_9 : decode cX7_pillar 9 = .ok (.sipush 999, 3) := by decide +kernel
theorem dX7_pillar_12 : decode cX7_pillar 12 = .ok (.invokestatic 76, 3) := by decide +kernel
theorem dX7_pillar_15 : decode cX7_pillar 15 = .ok (.ifCond .ne 8, 3) := by decide +kernel
theorem dX7_pillar_18 : decode cX7_pillar 18 = .ok (.aload_n 0, 1) := by decide +kernel
theorem dX7_pillar_19 : decode cX7_pillar 19 = .ok (.invokevirtual 84, 3) := by decide +kernel
theorem dX7_pillar_22 : decode cX7_pillar 22 = .ok (.ireturn, 1) := by decide +kernel
theorem dX7_pillar_23 : decode cX7_pillar 23 = .ok (.aload_n 0, 1) := by decide +kernel
theorem dX7_pillar_24 : decode cX7_pillar 24 = .ok (.iload_n 1, 1) := by decide +kernel
theorem dX7_pillar_25 : decode cX7_pillar 25 = .ok (.invokevirtual 87, 3) := by decide +kernel
theorem dX7_pillar_28 : decode cX7_pillar 28 = .ok (.iconst (-1), 1) := by decide +kernel
theorem dX7_pillar_29 : decode cX7_pillar 29 = .ok (.if_icmp .eq 8, 3) := by decide +kernel
theorem dX7_pillar_32 : decode cX7_pillar 32 = .ok (.aload_n 0, 1) := by decide +kernel
theorem dX7_pillar_33 : decode cX7_pillar 33 = .ok (.invokevirtual 66, 3) := by decide +kernel
theorem dX7_pillar_36 : decode cX7_pillar 36 = .ok (.ireturn, 1) := by decide +kernel
theorem dX7_pillar_37 : decode cX7_pillar 37 = .ok (.aload_n 0, 1) := by decide +kernel
theorem dX7_pillar_38 : decode cX7_pillar 38 = .ok (.getfield 49, 3) := by decide +kernel
theorem dX7_pillar_41 : decode cX7_pillar 41 = .ok (.bipush 12, 2) := by decide +kernel
theorem dX7_pillar_43 : decode cX7_pillar 43 = .ok (.if_icmp .ne 8, 3) := by decide +kernel
theorem dX7_pillar_46 : decode cX7_pillar 46 = .ok (.aload_n 0, 1) := by decide +kernel
theorem dX7_pillar_47 : decode cX7_pillar 47 = .ok (.invokevirtual 91, 3) := by decide +kernel
theorem dX7_pillar_50 : decode cX7_pillar 50 = .ok (.ireturn, 1) := by decide +kernel
theorem dX7_pillar_51 : decode cX7_pillar 51 = .ok (.aload_n 0, 1) := by decide +kernel
theorem dX7_pillar_52 : decode cX7_pillar 52 = .ok (.invokevirtual 94, 3) := by decide +kernel
theorem dX7_pillar_55 : decode cX7_pillar 55 = .ok (.aload_n 0, 1) := by decide +kernel
theorem dX7_pillar_56 : decode cX7_pillar 56 = .ok (.iload_n 1, 1) := by decide +kernel
theorem dX7_pillar_57 : decode cX7_pillar 57 = .ok (.iload_n 2, 1) := by decide +kernel
theorem dX7_pillar_58 : decode cX7_pillar 58 = .ok (.invokevirtual 97, 3) := by decide +kernel
theorem dX7_pillar_61 : decode cX7_pillar 61 = .ok (.aload_n 0, 1) := by decide +kernel
theorem dX7_pillar_62 : decode cX7_pillar 62 = .ok (.getfield 49, 3) := by decide +kernel
theorem dX7_pillar_65 : decode cX7_pillar 65 = .ok (.iconst 1, 1) := by decide +kernel
theorem dX7_pillar_66 : decode cX7_pillar 66 = .ok (.isub, 1) := by decide +kernel
theorem dX7_pillar_67 : decode cX7_pillar 67 = .ok (.ireturn, 1) := by decide +kernel
theorem dX7_weight_0 : decode cX7_weight 0 = .ok (.iload_n 1, 1) := by decide +kernel
theorem dX7_weight_1 : decode cX7_weight 1 = .ok (.invokestatic 80, 3) := by decide +kernel
theorem dX7_weight_4 : decode cX7_weight 4 = .ok (.ifCond .eq 13, 3) := by decide +kernel
theorem dX7_weight_7 : decode cX7_weight 7 = .ok (.iload_n 2, 1) := by decide +kernel
theorem dX7_weight_8 : decode cX7_weight 8 = .ok (.iconst 0, 1) := by decide +kernel
theorem dX7_weight_9 : decode cX7_weight 9 = .ok (.bipush 9, 2) := by decide +kernel
theorem dX7_weight_11 : decode cX7_weight 11 = .ok (.invokestatic 76, 3) := by decide +kernel
theorem dX7_weight_14 : decode cX7_weight 14 = .ok (.ifCond .ne 8, 3) := by decide +kernel
theorem dX7_weight_17 : decode cX7_weight 17 = .ok (.aload_n 0, 1) := by decide +kernel
theorem dX7_weight_18 : decode cX7_weight 18 = .ok (.invokevirtual 84, 3) := by decide +kernel
theorem dX7_weight_21 : decode cX7_weight 21 = .ok (.ireturn, 1) := by decide +kernel
theorem dX7_weight_22 : decode cX7_weight 22 = .ok (.aload_n 0, 1) := by decide +kernel
theorem dX7_weight_23 : decode cX7_weight 23 = .ok (.invokevirtual 94, 3) := by decide +kernel
theorem dX7_weight_26 : decode cX7_weight 26 = .ok (.aload_n 0, 1) := by decide +kernel
theorem dX7_weight_27 : decode cX7_weight 27 = .ok (.getfield 13, 3) := by decide +kernel
theorem dX7_weight_30 : decode cX7_weight 30 = .ok (.iload_n 1, 1) := by decide +kernel
theorem dX7_weight_31 : decode cX7_weight 31 = .ok (.iaload, 1) := by decide +kernel
theorem dX7_weight_32 : decode cX7_weight 32 = .ok (.istore_n 3, 1) := by decide +kernel
theorem dX7_weight_33 : decode cX7_weight 33 = .ok (.aload_n 0, 1) := by decide +kernel
theorem dX7_weight_34 : decode cX7_weight 34 = .ok (.getfield 13, 3) := by decide +kernel
theorem dX7_weight_37 : decode cX7_weight 37 = .ok (.iload_n 1, 1) := by decide +kernel
theorem dX7_weight_38 : decode cX7_weight 38 = .ok (.iload_n 2, 1) := by decide +kernel
theorem dX7_weight_39 : decode cX7_weight 39 = .ok (.iastore, 1) := by decide +kernel
theorem dX7_weight_40 : decode cX7_weight 40 = .ok (.iload_n 3, 1) := by decide +kernel
theorem dX7_weight_41 : decode cX7_weight 41 = .ok (.ireturn, 1) := by decide +kernel
theorem dX7_draw_0 : decode cX7_draw 0 = .ok (.iload_n 1, 1) := by decide +kernel
theorem dX7_draw_1 : decode cX7_draw 1 = .ok (.iconst 0, 1) := by decide +kernel
theorem dX7_draw_2 : decode cX7_draw 2 = .ok (.ldc 101, 2) := by decide +kernel
theorem dX7_draw_4 : decode cX7_draw 4 = .ok (.invokestatic 76, 3) := by decide +kernel
theorem dX7_draw_7 : decode cX7_draw 7 = .ok (.ifCond .eq 13, 3) := by decide +kernel
theorem dX7_draw_10 : decode cX7_draw 10 = .ok (.iload_n 2, 1) := by decide +kernel
theorem dX7_draw_11 : decode cX7_draw 11 = .ok (.iconst 0, 1) := by decide +kernel
theorem dX7_draw_12 : decode cX7_draw 12 = .ok (.bipush 9, 2) := by decide +kernel
theorem dX7_draw_14 : decode cX7_draw 14 = .ok (.invokestatic 76, 3) := by decide +kernel
theorem dX7_draw_17 : decode cX7_draw 17 = .ok (.ifCond .ne 8, 3) := by decide +kernel
theorem dX7_draw_20 : decode cX7_draw 20 = .ok (.aload_n 0, 1) := by decide +kernel
theorem dX7_draw_21 : decode cX7_draw 21 = .ok (.invokevirtual 84, 3) := by decide +kernel
theorem dX7_draw_24 : decode cX7_draw 24 = .ok (.ireturn, 1) := by decide +kernel
theorem dX7_draw_25 : decode cX7_draw 25 = .ok (.aload_n 0, 1) := by decide +kernel
theorem dX7_draw_26 : decode cX7_draw 26 = .ok (.invokevirtual 94, 3) := by decide +kernel
theorem dX7_draw_29 : decode cX7_draw 29 = .ok (.iload_n 1, 1) := by decide +kernel
theorem dX7_draw_30 : decode cX7_draw 30 = .ok (.i2l, 1) := by decide +kernel
theorem dX7_draw_31 : decode cX7_draw 31 = .ok (.lstore_n 3, 1) := by decide +kernel
theorem dX7_draw_32 : decode cX7_draw 32 = .ok (.iconst 0, 1) := by decide +kernel
theorem dX7_draw_33 : decode cX7_draw 33 = .ok (.istore 5, 2) := by decide +kernel
theorem dX7_draw_35 : decode cX7_draw 35 = .ok (.iconst 0, 1) := by decide +kernel
theorem dX7_draw_36 : decode cX7_draw 36 = .ok (.istore 6, 2) := by decide +kernel
theorem dX7_draw_38 : decode cX7_draw 38 = .ok (.iload 6, 2) := by decide +kernel
theorem dX7_draw_40 : decode cX7_draw 40 = .ok (.bipush 96, 2) := by decide +kernel
theorem dX7_draw_42 : decode cX7_draw 42 = .ok (.if_icmp .ge 53, 3) := by decide +kernel
theorem dX7_draw_45 : decode cX7_draw 45 = .ok (.lload_n 3, 1) := by decide +kernel
theorem dX7_draw_46 : decode cX7_draw 46 = .ok (.ldc2_w 102, 3) := by decide +kernel
theorem dX7_draw_49 : decode cX7_draw 49 = .ok (.lmul, 1) := by decide +kernel
theorem dX7_draw_50 : decode cX7_draw 50 = .ok (.ldc2_w 104, 3) := by decide +kernel
theorem dX7_draw_53 : decode cX7_draw 53 = .ok (.ladd, 1) := by decide +kernel
theorem dX7_draw_54 : decode cX7_draw 54 = .ok (.ldc2_w 106, 3) := by decide +kernel
theorem dX7_draw_57 : decode cX7_draw 57 = .ok (.lrem, 1) := by decide +kernel
theorem dX7_draw_58 : decode cX7_draw 58 = .ok (.lstore_n 3, 1) := by decide +kernel
theorem dX7_draw_59 : decode cX7_draw 59 = .ok (.aload_n 0, 1) := by decide +kernel
theorem dX7_draw_60 : decode cX7_draw 60 = .ok (.getfield 13, 3) := by decide +kernel
theorem dX7_draw_63 : decode cX7_draw 63 = .ok (.iload 6, 2) := by decide +kernel
theorem dX7_draw_65 : decode cX7_draw 65 = .ok (.lload_n 3, 1) := by decide +kernel
theorem dX7_draw_66 : decode cX7_draw 66 = .ok (.ldc2_w 108, 3) := by decide +kernel
theorem dX7_draw_69 : decode cX7_draw 69 = .ok (.ldiv, 1) := by decide +kernel
theorem dX7_draw_70 : decode cX7_draw 70 = .ok (.iload_n 2, 1) := by decide +kernel
theorem dX7_draw_71 : decode cX7_draw 71 = .ok (.i2l, 1) := by decide +kernel
theorem dX7_draw_72 : decode cX7_draw 72 = .ok (.lconst 1, 1) := by decide +kernel
theorem dX7_draw_73 : decode cX7_draw 73 = .ok (.ladd, 1) := by decide +kernel
theorem dX7_draw_74 : decode cX7_draw 74 = .ok (.lrem, 1) := by decide +kernel
theorem dX7_draw_75 : decode cX7_draw 75 = .ok (.l2i, 1) := by decide +kernel
theorem dX7_draw_76 : decode cX7_draw 76 = .ok (.iastore, 1) := by decide +kernel
theorem dX7_draw_77 : decode cX7_draw 77 = .ok (.iload 5, 2) := by decide +kernel
theorem dX7_draw_79 : decode cX7_draw 79 = .ok (.aload_n 0, 1) := by decide +kernel
theorem dX7_draw_80 : decode cX7_draw 80 = .ok (.getfield 13, 3) := by decide +kernel
theorem dX7_draw_83 : decode cX7_draw 83 = .ok (.iload 6, 2) := by decide +kernel
theorem dX7_draw_85 : decode cX7_draw 85 = .ok (.iaload, 1) := by decide +kernel
theorem dX7_draw_86 : decode cX7_draw 86 = .ok (.iadd, 1) := by decide +kernel
theorem dX7_draw_87 : decode cX7_draw 87 = .ok (.istore 5, 2) := by decide +kernel
theorem dX7_draw_89 : decode cX7_draw 89 = .ok (.iinc 6 1, 3) := by decide +kernel
theorem dX7_draw_92 : decode cX7_draw 92 = .ok (.goto (-54), 3) := by decide +kernel
theorem dX7_draw_95 : decode cX7_draw 95 = .ok (.iload 5, 2) := by decide +kernel
theorem dX7_draw_97 : decode cX7_draw 97 = .ok (.ireturn, 1) := by decide +kernel
theorem dX7_strength_0 : decode cX7_strength 0 = .ok (.aload_n 0, 1) := by decide +kernel
theorem dX7_strength_1 : decode cX7_strength 1 = .ok (.iload_n 1, 1) := by decide +kernel
theorem dX7_strength_2 : decode cX7_strength 2 = .ok (.invokevirtual 110, 3) := by decide +kernel
theorem dX7_strength_5 : decode cX7_strength 5 = .ok (.ifCond .eq 14, 3) := by decide +kernel
theorem dX7_strength_8 : decode cX7_strength 8 = .ok (.iload_n 2, 1) := by decide +kernel
theorem dX7_strength_9 : decode cX7_strength 9 = .ok (.iconst 0, 1) := by decide +kernel
theorem dX7_strength_10 : decode cX7_strength 10 = .ok (.sipush 999, 3) := by decide +kernel
theorem dX7_strength_13 : decode cX7_strength 13 = .ok (.invokestatic 76, 3) := by decide +kernel
theorem dX7_strength_16 : decode cX7_strength 16 = .ok (.ifCond .ne 8, 3) := by decide +kernel
theorem dX7_strength_19 : decode cX7_strength 19 = .ok (.aload_n 0, 1) := by decide +kernel
theorem dX7_strength_20 : decode cX7_strength 20 = .ok (.invokevirtual 84, 3) := by decide +kernel
theorem dX7_strength_23 : decode cX7_strength 23 = .ok (.ireturn, 1) := by decide +kernel
theorem dX7_strength_24 : decode cX7_strength 24 = .ok (.aload_n 0, 1) := by decide +kernel
theorem dX7_strength_25 : decode cX7_strength 25 = .ok (.invokevirtual 94, 3) := by decide +kernel
theorem dX7_strength_28 : decode cX7_strength 28 = .ok (.aload_n 0, 1) := by decide +kernel
theorem dX7_strength_29 : decode cX7_strength 29 = .ok (.getfield 19, 3) := by decide +kernel
theorem dX7_strength_32 : decode cX7_strength 32 = .ok (.iload_n 1, 1) := by decide +kernel
theorem dX7_strength_33 : decode cX7_strength 33 = .ok (.iaload, 1) := by decide +kernel
theorem dX7_strength_34 : decode cX7_strength 34 = .ok (.istore_n 3, 1) := by decide +kernel
theorem dX7_strength_35 : decode cX7_strength 35 = .ok (.aload_n 0, 1) := by decide +kernel
theorem dX7_strength_36 : decode cX7_strength 36 = .ok (.getfield 19, 3) := by decide +kernel
theorem dX7_strength_39 : decode cX7_strength 39 = .ok (.iload_n 1, 1) := by decide +kernel
theorem dX7_strength_40 : decode cX7_strength 40 = .ok (.iload_n 2, 1) := by decide +kernel
theorem dX7_strength_41 : decode cX7_strength 41 = .ok (.iastore, 1) := by decide +kernel
theorem dX7_strength_42 : decode cX7_strength 42 = .ok (.iload_n 3, 1) := by decide +kernel
theorem dX7_strength_43 : decode cX7_strength 43 = .ok (.ireturn, 1) := by decide +kernel
theorem dX7_isWall_0 : decode cX7_isWall 0 = .ok (.iload_n 0, 1) := by decide +kernel
theorem dX7_isWall_1 : decode cX7_isWall 1 = .ok (.ifCond .ne 13, 3) := by decide +kernel
theorem dX7_isWall_4 : decode cX7_isWall 4 = .ok (.iload_n 1, 1) := by decide +kernel
theorem dX7_isWall_5 : decode cX7_isWall 5 = .ok (.iconst 0, 1) := by decide +kernel
theorem dX7_isWall_6 : decode cX7_isWall 6 = .ok (.bipush 6, 2) := by decide +kernel
theorem dX7_isWall_8 : decode cX7_isWall 8 = .ok (.invokestatic 76, 3) := by decide +kernel
theorem dX7_isWall_11 : decode cX7_isWall 11 = .ok (.ifCond .ne 18, 3) := by decide +kernel
theorem dX7_isWall_14 : decode cX7_isWall 14 = .ok (.iload_n 0, 1) := by decide +kernel
theorem dX7_isWall_15 : decode cX7_isWall 15 = .ok (.iconst 1, 1) := by decide +kernel
theorem dX7_isWall_16 : decode cX7_isWall 16 = .ok (.if_icmp .ne 17, 3) := by decide +kernel
theorem dX7_isWall_19 : decode cX7_isWall 19 = .ok (.iload_n 1, 1) := by decide +kernel
theorem dX7_isWall_20 : decode cX7_isWall 20 = .ok (.iconst 0, 1) := by decide +kernel
theorem dX7_isWall_21 : decode cX7_isWall 21 = .ok (.bipush 10, 2) := by decide +kernel
theorem dX7_isWall_23 : decode cX7_isWall 23 = .ok (.invokestatic 76, 3) := by decide +kernel
theorem dX7_isWall_26 : decode cX7_isWall 26 = .ok (.ifCond .eq 7, 3) := by decide +kernel
theorem dX7_isWall_29 : decode cX7_isWall 29 = .ok (.iconst 1, 1) := by decide +kernel
theorem dX7_isWall_30 : decode cX7_isWall 30 = .ok (.goto 4, 3) := by decide +kernel
theorem dX7_isWall_33 : decode cX7_isWall 33 = .ok (.iconst 0, 1) := by decide +kernel
theorem dX7_isWall_34 : decode cX7_isWall 34 = .ok (.ireturn, 1) := by decide +kernel
theorem dX7_wall_0 : decode cX7_wall 0 = .ok (.iload_n 1, 1) := by decide +kernel
theorem dX7_wall_1 : decode cX7_wall 1 = .ok (.iload_n 2, 1) := by decide +kernel
theorem dX7_wall_2 : decode cX7_wall 2 = .ok (.invokestatic 113, 3) := by decide +kernel
theorem dX7_wall_5 : decode cX7_wall 5 = .ok (.ifCond .eq 12, 3) := by decide +kernel
theorem dX7_wall_8 : decode cX7_wall 8 = .ok (.iload_n 3, 1) := by decide +kernel
theorem dX7_wall_9 : decode cX7_wall 9 = .ok (.iconst 0, 1) := by decide +kernel
theorem dX7_wall_10 : decode cX7_wall 10 = .ok (.iconst 1, 1) := by decide +kernel
theorem dX7_wall_11 : decode cX7_wall 11 = .ok (.invokestatic 76, 3) := by decide +kernel
theorem dX7_wall_14 : decode cX7_wall 14 = .ok (.ifCond .ne 8, 3) := by decide +kernel
theorem dX7_wall_17 : decode cX7_wall 17 = .ok (.aload_n 0, 1) := by decide +kernel
theorem dX7_wall_18 : decode cX7_wall 18 = .ok (.invokevirtual 84, 3) := by decide +kernel
theorem dX7_wall_21 : decode cX7_wall 21 = .ok (.ireturn, 1) := by decide +kernel
theorem dX7_wall_22 : decode cX7_wall 22 = .ok (.aload_n 0, 1) := by decide +kernel
theorem dX7_wall_23 : decode cX7_wall 23 = .ok (.invokevirtual 94, 3) := by decide +kernel
theorem dX7_wall_26 : decode cX7_wall 26 = .ok (.iload_n 1, 1) := by decide +kernel
theorem dX7_wall_27 : decode cX7_wall 27 = .ok (.ifCond .ne 7, 3) := by decide +kernel
theorem dX7_wall_30 : decode cX7_wall 30 = .ok (.iload_n 2, 1) := by decide +kernel
theorem dX7_wall_31 : decode cX7_wall 31 = .ok (.goto 7, 3) := by decide +kernel
theorem dX7_wall_34 : decode cX7_wall 34 = .ok (.bipush 10, 2) := by decide +kernel
theorem dX7_wall_36 : decode cX7_wall 36 = .ok (.iload_n 2, 1) := by decide +kernel
theorem dX7_wall_37 : decode cX7_wall 37 = .ok (.iadd, 1) := by decide +kernel
theorem dX7_wall_38 : decode cX7_wall 38 = .ok (.istore 4, 2) := by decide +kernel
theorem dX7_wall_40 : decode cX7_wall 40 = .ok (.aload_n 0, 1) := by decide +kernel
theorem dX7_wall_41 : decode cX7_wall 41 = .ok (.getfield 56, 3) := by decide +kernel
theorem dX7_wall_44 : decode cX7_wall 44 = .ok (.iload 4, 2) := by decide +kernel
theorem dX7_wall_46 : decode cX7_wall 46 = .ok (.ishr, 1) := by decide +kernel
theorem dX7_wall_47 : decode cX7_wall 47 = .ok (.iconst 1, 1) := by decide +kernel
theorem dX7_wall_48 : decode cX7_wall 48 = .ok (.iand, 1) := by decide +kernel
theorem dX7_wall_49 : decode cX7_wall 49 = .ok (.istore 5, 2) := by decide +kernel
theorem dX7_wall_51 : decode cX7_wall 51 = .ok (.aload_n 0, 1) := by decide +kernel
theorem dX7_wall_52 : decode cX7_wall 52 = .ok (.iload_n 3, 1) := by decide +kernel
theorem dX7_wall_53 : decode cX7_wall 53 = .ok (.iconst 1, 1) := by decide +kernel
theorem dX7_wall_54 : decode cX7_wall 54 = .ok (.if_icmp .ne 15, 3) := by decide +kernel
theorem dX7_wall_57 : decode cX7_wall 57 = .ok (.aload_n 0, 1) := by decide +kernel
theorem dX7_wall_58 : decode cX7_wall 58 = .ok (.getfield 56, 3) := by decide +kernel
theorem dX7_wall_61 : decode cX7_wall 61 = .ok (.iconst 1, 1) := by decide +kernel
theorem dX7_wall_62 : decode cX7_wall 62 = .ok (.iload 4, 2) := by decide +kernel
theorem dX7_wall_64 : decode cX7_wall 64 = .ok (.ishl, 1) := by decide +kernel
theorem dX7_wall_65 : decode cX7_wall 65 = .ok (.ior, 1) := by decide +kernel
theorem dX7_wall_66 : decode cX7_wall 66 = .ok (.goto 14, 3) := by decide +kernel
theorem dX7_wall_69 : decode cX7_wall 69 = .ok (.aload_n 0, 1) := by decide +kernel
theorem dX7_wall_70 : decode cX7_wall 70 = .ok (.getfield 56, 3) := by decide +kernel
theorem dX7_wall_73 : decode cX7_wall 73 = .ok (.iconst 1, 1) := by decide +kernel
theorem dX7_wall_74 : decode cX7_wall 74 = .ok (.iload 4, 2) := by decide +kernel
theorem dX7_wall_76 : decode cX7_wall 76 = .ok (.ishl, 1) := by decide +kernel
theorem dX7_wall_77 : decode cX7_wall 77 = .ok (.iconst (-1), 1) := by decide +kernel
theorem dX7_wall_78 : decode cX7_wall 78 = .ok (.ixor, 1) := by decide +kernel
theorem dX7_wall_79 : decode cX7_wall 79 = .ok (.iand, 1) := by decide +kernel
theorem dX7_wall_80 : decode cX7_wall 80 = .ok (.putfield 56, 3) := by decide +kernel
theorem dX7_wall_83 : decode cX7_wall 83 = .ok (.iload 5, 2) := by decide +kernel
theorem dX7_wall_85 : decode cX7_wall 85 = .ok (.ireturn, 1) := by decide +kernel
theorem dX7_mends_0 : decode cX7_mends 0 = .ok (.aload_n 0, 1) := by decide +kernel
theorem dX7_mends_1 : decode cX7_mends 1 = .ok (.invokevirtual 94, 3) := by decide +kernel
theorem dX7_mends_4 : decode cX7_mends 4 = .ok (.aload_n 0, 1) := by decide +kernel
theorem dX7_mends_5 : decode cX7_mends 5 = .ok (.getfield 49, 3) := by decide +kernel
theorem dX7_mends_8 : decode cX7_mends 8 = .ok (.aload_n 0, 1) := by decide +kernel
theorem dX7_mends_9 : decode cX7_mends 9 = .ok (.getfield 53, 3) := by decide +kernel
theorem dX7_mends_12 : decode cX7_mends 12 = .ok (.invokestatic 117, 3) := by decide +kernel
theorem dX7_mends_15 : decode cX7_mends 15 = .ok (.isub, 1) := by decide +kernel
theorem dX7_mends_16 : decode cX7_mends 16 = .ok (.istore_n 1, 1) := by decide +kernel
theorem dX7_mends_17 : decode cX7_mends 17 = .ok (.aload_n 0, 1) := by decide +kernel
theorem dX7_mends_18 : decode cX7_mends 18 = .ok (.iconst 1, 1) := by decide +kernel
theorem dX7_mends_19 : decode cX7_mends 19 = .ok (.aload_n 0, 1) := by decide +kernel
theorem dX7_mends_20 : decode cX7_mends 20 = .ok (.getfield 49, 3) := by decide +kernel
theorem dX7_mends_23 : decode cX7_mends 23 = .ok (.ishl, 1) := by decide +kernel
theorem dX7_mends_24 : decode cX7_mends 24 = .ok (.iconst 1, 1) := by decide +kernel
theorem dX7_mends_25 : decode cX7_mends 25 = .ok (.isub, 1) := by decide +kernel
theorem dX7_mends_26 : decode cX7_mends 26 = .ok (.putfield 53, 3) := by decide +kernel
theorem dX7_mends_29 : decode cX7_mends 29 = .ok (.aload_n 0, 1) := by decide +kernel
theorem dX7_mends_30 : decode cX7_mends 30 = .ok (.invokevirtual 73, 3) := by decide +kernel
theorem dX7_mends_33 : decode cX7_mends 33 = .ok (.iload_n 1, 1) := by decide +kernel
theorem dX7_mends_34 : decode cX7_mends 34 = .ok (.ireturn, 1) := by decide +kernel
theorem dX7_anew_0 : decode cX7_anew 0 = .ok (.aload_n 0, 1) := by decide +kernel
theorem dX7_anew_1 : decode cX7_anew 1 = .ok (.invokevirtual 94, 3) := by decide +kernel
theorem dX7_anew_4 : decode cX7_anew 4 = .ok (.aload_n 0, 1) := by decide +kernel
theorem dX7_anew_5 : decode cX7_anew 5 = .ok (.getfield 49, 3) := by decide +kernel
theorem dX7_anew_8 : decode cX7_anew 8 = .ok (.istore_n 1, 1) := by decide +kernel
theorem dX7_anew_9 : decode cX7_anew 9 = .ok (.aload_n 0, 1) := by decide +kernel
theorem dX7_anew_10 : decode cX7_anew 10 = .ok (.iconst 0, 1) := by decide +kernel
theorem dX7_anew_11 : decode cX7_anew 11 = .ok (.putfield 49, 3) := by decide +kernel
theorem dX7_anew_14 : decode cX7_anew 14 = .ok (.aload_n 0, 1) := by decide +kernel
theorem dX7_anew_15 : decode cX7_anew 15 = .ok (.iconst 0, 1) := by decide +kernel
theorem dX7_anew_16 : decode cX7_anew 16 = .ok (.putfield 53, 3) := by decide +kernel
theorem dX7_anew_19 : decode cX7_anew 19 = .ok (.aload_n 0, 1) := by decide +kernel
theorem dX7_anew_20 : decode cX7_anew 20 = .ok (.iconst 0, 1) := by decide +kernel
theorem dX7_anew_21 : decode cX7_anew 21 = .ok (.putfield 56, 3) := by decide +kernel
theorem dX7_anew_24 : decode cX7_anew 24 = .ok (.iconst 0, 1) := by decide +kernel
theorem dX7_anew_25 : decode cX7_anew 25 = .ok (.istore_n 2, 1) := by decide +kernel
theorem dX7_anew_26 : decode cX7_anew 26 = .ok (.iload_n 2, 1) := by decide +kernel
theorem dX7_anew_27 : decode cX7_anew 27 = .ok (.bipush 96, 2) := by decide +kernel
theorem dX7_anew_29 : decode cX7_anew 29 = .ok (.if_icmp .ge 16, 3) := by decide +kernel
theorem dX7_anew_32 : decode cX7_anew 32 = .ok (.aload_n 0, 1) := by decide +kernel
theorem dX7_anew_33 : decode cX7_anew 33 = .ok (.getfield 13, 3) := by decide +kernel
theorem dX7_anew_36 : decode cX7_anew 36 = .ok (.iload_n 2, 1) := by decide +kernel
theorem dX7_anew_37 : decode cX7_anew 37 = .ok (.iconst 1, 1) := by decide +kernel
theorem dX7_anew_38 : decode cX7_anew 38 = .ok (.iastore, 1) := by decide +kernel
theorem dX7_anew_39 : decode cX7_anew 39 = .ok (.iinc 2 1, 3) := by decide +kernel
theorem dX7_anew_42 : decode cX7_anew 42 = .ok (.goto (-16), 3) := by decide +kernel
theorem dX7_anew_45 : decode cX7_anew 45 = .ok (.aload_n 0, 1) := by decide +kernel
theorem dX7_anew_46 : decode cX7_anew 46 = .ok (.invokevirtual 73, 3) := by decide +kernel
theorem dX7_anew_49 : decode cX7_anew 49 = .ok (.iload_n 1, 1) := by decide +kernel
theorem dX7_anew_50 : decode cX7_anew 50 = .ok (.ireturn, 1) := by decide +kernel
theorem dX7_gap_0 : decode cX7_gap 0 = .ok (.iload_n 0, 1) := by decide +kernel
theorem dX7_gap_1 : decode cX7_gap 1 = .ok (.iload_n 1, 1) := by decide +kernel
theorem dX7_gap_2 : decode cX7_gap 2 = .ok (.if_icmp .le 9, 3) := by decide +kernel
theorem dX7_gap_5 : decode cX7_gap 5 = .ok (.iload_n 0, 1) := by decide +kernel
theorem dX7_gap_6 : decode cX7_gap 6 = .ok (.iload_n 1, 1) := by decide +kernel
theorem dX7_gap_7 : decode cX7_gap 7 = .ok (.isub, 1) := by decide +kernel
theorem dX7_gap_8 : decode cX7_gap 8 = .ok (.goto 6, 3) := by decide +kernel
theorem dX7_gap_11 : decode cX7_gap 11 = .ok (.iload_n 1, 1) := by decide +kernel
theorem dX7_gap_12 : decode cX7_gap 12 = .ok (.iload_n 0, 1) := by decide +kernel
theorem dX7_gap_13 : decode cX7_gap 13 = .ok (.isub, 1) := by decide +kernel
theorem dX7_gap_14 : decode cX7_gap 14 = .ok (.ireturn, 1) := by decide +kernel
theorem dX7_wallsAhead_0 : decode cX7_wallsAhead 0 = .ok (.iconst 0, 1) := by decide +kernel
theorem dX7_wallsAhead_1 : decode cX7_wallsAhead 1 = .ok (.istore_n 3, 1) := by decide +kernel
theorem dX7_wallsAhead_2 : decode cX7_wallsAhead 2 = .ok (.iconst 0, 1) := by decide +kernel
theorem dX7_wallsAhead_3 : decode cX7_wallsAhead 3 = .ok (.istore 4, 2) := by decide +kernel
theorem dX7_wallsAhead_5 : decode cX7_wallsAhead 5 = .ok (.iload 4, 2) := by decide +kernel
theorem dX7_wallsAhead_7 : decode cX7_wallsAhead 7 = .ok (.iload_n 2, 1) := by decide +kernel
theorem dX7_wallsAhead_8 : decode cX7_wallsAhead 8 = .ok (.if_icmp .ge 23, 3) := by decide +kernel
theorem dX7_wallsAhead_11 : decode cX7_wallsAhead 11 = .ok (.iload_n 3, 1) := by decide +kernel
theorem dX7_wallsAhead_12 : decode cX7_wallsAhead 12 = .ok (.aload_n 0, 1) := by decide +kernel
theorem dX7_wallsAhead_13 : decode cX7_wallsAhead 13 = .ok (.getfield 56, 3) := by decide +kernel
theorem dX7_wallsAhead_16 : decode cX7_wallsAhead 16 = .ok (.iload_n 1, 1) := by decide +kernel
theorem dX7_wallsAhead_17 : decode cX7_wallsAhead 17 = .ok (.iload 4, 2) := by decide +kernel
theorem dX7_wallsAhead_19 : decode cX7_wallsAhead 19 = .ok (.iadd, 1) := by decide +kernel
theorem dX7_wallsAhead_20 : decode cX7_wallsAhead 20 = .ok (.ishr, 1) := by decide +kernel
theorem dX7_wallsAhead_21 : decode cX7_wallsAhead 21 = .ok (.iconst 1, 1) := by decide +kernel
theorem dX7_wallsAhead_22 : decode cX7_wallsAhead 22 = .ok (.iand, 1) := by decide +kernel
theorem dX7_wallsAhead_23 : decode cX7_wallsAhead 23 = .ok (.iadd, 1) := by decide +kernel
theorem dX7_wallsAhead_24 : decode cX7_wallsAhead 24 = .ok (.istore_n 3, 1) := by decide +kernel
theorem dX7_wallsAhead_25 : decode cX7_wallsAhead 25 = .ok (.iinc 4 1, 3) := by decide +kernel
theorem dX7_wallsAhead_28 : decode cX7_wallsAhead 28 = .ok (.goto (-23), 3) := by decide +kernel
theorem dX7_wallsAhead_31 : decode cX7_wallsAhead 31 = .ok (.iload_n 3, 1) := by decide +kernel
theorem dX7_wallsAhead_32 : decode cX7_wallsAhead 32 = .ok (.ireturn, 1) := by decide +kernel
theorem dX7_setRooms_0 : decode cX7_setRooms 0 = .ok (.iconst 0, 1) := by decide +kernel
theorem dX7_setRooms_1 : decode cX7_setRooms 1 = .ok (.istore_n 1, 1) := by decide +kernel
theorem dX7_setRooms_2 : decode cX7_setRooms 2 = .ok (.iload_n 1, 1) := by decide +kernel
theorem dX7_setRooms_3 : decode cX7_setRooms 3 = .ok (.bipush 8, 2) := by decide +kernel
theorem dX7_setRooms_5 : decode cX7_setRooms 5 = .ok (.if_icmp .ge 21, 3) := by decide +kernel
theorem dX7_setRooms_8 : decode cX7_setRooms 8 = .ok (.aload_n 0, 1) := by decide +kernel
theorem dX7_setRooms_9 : decode cX7_setRooms 9 = .ok (.getfield 25, 3) := by decide +kernel
theorem dX7_setRooms_12 : decode cX7_setRooms 12 = .ok (.iload_n 1, 1) := by decide +kernel
theorem dX7_setRooms_13 : decode cX7_setRooms 13 = .ok (.aload_n 0, 1) := by decide +kernel
theorem dX7_setRooms_14 : decode cX7_setRooms 14 = .ok (.iconst 0, 1) := by decide +kernel
theorem dX7_setRooms_15 : decode cX7_setRooms 15 = .ok (.iload_n 1, 1) := by decide +kernel
theorem dX7_setRooms_16 : decode cX7_setRooms 16 = .ok (.invokevirtual 120, 3) := by decide +kernel
theorem dX7_setRooms_19 : decode cX7_setRooms 19 = .ok (.iastore, 1) := by decide +kernel
theorem dX7_setRooms_20 : decode cX7_setRooms 20 = .ok (.iinc 1 1, 3) := by decide +kernel
theorem dX7_setRooms_23 : decode cX7_setRooms 23 = .ok (.goto (-21), 3) := by decide +kernel
theorem dX7_setRooms_26 : decode cX7_setRooms 26 = .ok (.iconst 0, 1) := by decide +kernel
theorem dX7_setRooms_27 : decode cX7_setRooms 27 = .ok (.istore_n 1, 1) := by decide +kernel
theorem dX7_setRooms_28 : decode cX7_setRooms 28 = .ok (.iload_n 1, 1) := by decide +kernel
theorem dX7_setRooms_29 : decode cX7_setRooms 29 = .ok (.bipush 12, 2) := by decide +kernel
theorem dX7_setRooms_31 : decode cX7_setRooms 31 = .ok (.if_icmp .ge 22, 3) := by decide +kernel
theorem dX7_setRooms_34 : decode cX7_setRooms 34 = .ok (.aload_n 0, 1) := by decide +kernel
theorem dX7_setRooms_35 : decode cX7_setRooms 35 = .ok (.getfield 28, 3) := by decide +kernel
theorem dX7_setRooms_38 : decode cX7_setRooms 38 = .ok (.iload_n 1, 1) := by decide +kernel
theorem dX7_setRooms_39 : decode cX7_setRooms 39 = .ok (.aload_n 0, 1) := by decide +kernel
theorem dX7_setRooms_40 : decode cX7_setRooms 40 = .ok (.bipush 10, 2) := by decide +kernel
theorem dX7_setRooms_42 : decode cX7_setRooms 42 = .ok (.iload_n 1, 1) := by decide +kernel
theorem dX7_setRooms_43 : decode cX7_setRooms 43 = .ok (.invokevirtual 120, 3) := by decide +kernel
theorem dX7_setRooms_46 : decode cX7_setRooms 46 = .ok (.iastore, 1) := by decide +kernel
theorem dX7_setRooms_47 : decode cX7_setRooms 47 = .ok (.iinc 1 1, 3) := by decide +kernel
theorem dX7_setRooms_50 : decode cX7_setRooms 50 = .ok (.goto (-22), 3) := by decide +kernel
theorem dX7_setRooms_53 : decode cX7_setRooms 53 = .ok (.return_, 1) := by decide +kernel
theorem dX7_roomOf_0 : decode cX7_roomOf 0 = .ok (.bipush 12, 2) := by decide +kernel
theorem dX7_roomOf_2 : decode cX7_roomOf 2 = .ok (.aload_n 0, 1) := by decide +kernel
theorem dX7_roomOf_3 : decode cX7_roomOf 3 = .ok (.getfield 25, 3) := by decide +kernel
theorem dX7_roomOf_6 : decode cX7_roomOf 6 = .ok (.iload_n 1, 1) := by decide +kernel
theorem dX7_roomOf_7 : decode cX7_roomOf 7 = .ok (.bipush 12, 2) := by decide +kernel
theorem dX7_roomOf_9 : decode cX7_roomOf 9 = .ok (.idiv, 1) := by decide +kernel
theorem dX7_roomOf_10 : decode cX7_roomOf 10 = .ok (.iaload, 1) := by decide +kernel
theorem dX7_roomOf_11 : decode cX7_roomOf 11 = .ok (.imul, 1) := by decide +kernel
theorem dX7_roomOf_12 : decode cX7_roomOf 12 = .ok (.aload_n 0, 1) := by decide +kernel
theorem dX7_roomOf_13 : decode cX7_roomOf 13 = .ok (.getfield 28, 3) := by decide +kernel
theorem dX7_roomOf_16 : decode cX7_roomOf 16 = .ok (.iload_n 1, 1) := by decide +kernel
theorem dX7_roomOf_17 : decode cX7_roomOf 17 = .ok (.bipush 12, 2) := by decide +kernel
theorem dX7_roomOf_19 : decode cX7_roomOf 19 = .ok (.irem, 1) := by decide +kernel
theorem dX7_roomOf_20 : decode cX7_roomOf 20 = .ok (.iaload, 1) := by decide +kernel
theorem dX7_roomOf_21 : decode cX7_roomOf 21 = .ok (.iadd, 1) := by decide +kernel
theorem dX7_roomOf_22 : decode cX7_roomOf 22 = .ok (.ireturn, 1) := by decide +kernel
theorem dX7_bearer_0 : decode cX7_bearer 0 = .ok (.iconst (-1), 1) := by decide +kernel
theorem dX7_bearer_1 : decode cX7_bearer 1 = .ok (.istore_n 3, 1) := by decide +kernel
theorem dX7_bearer_2 : decode cX7_bearer 2 = .ok (.sipush 999, 3) := by decide +kernel
theorem dX7_bearer_5 : decode cX7_bearer 5 = .ok (.istore 4, 2) := by decide +kernel
theorem dX7_bearer_7 : decode cX7_bearer 7 = .ok (.iconst 0, 1) := by decide +kernel
theorem dX7_bearer_8 : decode cX7_bearer 8 = .ok (.istore 5, 2) := by decide +kernel
theorem dX7_bearer_10 : decode cX7_bearer 10 = .ok (.iload 5, 2) := by decide +kernel
theorem dX7_bearer_12 : decode cX7_bearer 12 = .ok (.bipush 13, 2) := by decide +kernel
theorem dX7_bearer_14 : decode cX7_bearer 14 = .ok (.if_icmp .ge 105, 3) := by decide +kernel
theorem dX7_bearer_17 : decode cX7_bearer 17 = .ok (.iload_n 1, 1) := by decide +kernel
theorem dX7_bearer_18 : decode cX7_bearer 18 = .ok (.iload 5, 2) := by decide +kernel
theorem dX7_bearer_20 : decode cX7_bearer 20 = .ok (.ishr, 1) := by decide +kernel
theorem dX7_bearer_21 : decode cX7_bearer 21 = .ok (.iconst 1, 1) := by decide +kernel
theorem dX7_bearer_22 : decode cX7_bearer 22 = .ok (.iand, 1) := by decide +kernel
theorem dX7_bearer_23 : decode cX7_bearer 23 = .ok (.iconst 1, 1) := by decide +kernel
theorem dX7_bearer_24 : decode cX7_bearer 24 = .ok (.if_icmp .ne 89, 3) := by decide +kernel
theorem dX7_bearer_27 : decode cX7_bearer 27 = .ok (.aload_n 0, 1) := by decide +kernel
theorem dX7_bearer_28 : decode cX7_bearer 28 = .ok (.aload_n 0, 1) := by decide +kernel
theorem dX7_bearer_29 : decode cX7_bearer 29 = .ok (.getfield 16, 3) := by decide +kernel
theorem dX7_bearer_32 : decode cX7_bearer 32 = .ok (.iload 5, 2) := by decide +kernel
theorem dX7_bearer_34 : decode cX7_bearer 34 = .ok (.iaload, 1) := by decide +kernel
theorem dX7_bearer_35 : decode cX7_bearer 35 = .ok (.invokevirtual 124, 3) := by decide +kernel
theorem dX7_bearer_38 : decode cX7_bearer 38 = .ok (.aload_n 0, 1) := by decide +kernel
theorem dX7_bearer_39 : decode cX7_bearer 39 = .ok (.iload_n 2, 1) := by decide +kernel
theorem dX7_bearer_40 : decode cX7_bearer 40 = .ok (.invokevirtual 124, 3) := by decide +kernel
theorem dX7_bearer_43 : decode cX7_bearer 43 = .ok (.if_icmp .ne 70, 3) := by decide +kernel
theorem dX7_bearer_46 : decode cX7_bearer 46 = .ok (.aload_n 0, 1) := by decide +kernel
theorem dX7_bearer_47 : decode cX7_bearer 47 = .ok (.getfield 16, 3) := by decide +kernel
theorem dX7_bearer_50 : decode cX7_bearer 50 = .ok (.iload 5, 2) := by decide +kernel
theorem dX7_bearer_52 : decode cX7_bearer 52 = .ok (.iaload, 1) := by decide +kernel
theorem dX7_bearer_53 : decode cX7_bearer 53 = .ok (.bipush 12, 2) := by decide +kernel
theorem dX7_bearer_55 : decode cX7_bearer 55 = .ok (.idiv, 1) := by decide +kernel
theorem dX7_bearer_56 : decode cX7_bearer 56 = .ok (.iload_n 2, 1) := by decide +kernel
theorem dX7_bearer_57 : decode cX7_bearer 57 = .ok (.bipush 12, 2) := by decide +kernel
theorem dX7_bearer_59 : decode cX7_bearer 59 = .ok (.idiv, 1) := by decide +kernel
theorem dX7_bearer_60 : decode cX7_bearer 60 = .ok (.invokestatic 127, 3) := by decide +kernel
theorem dX7_bearer_63 : decode cX7_bearer 63 = .ok (.aload_n 0, 1) := by decide +kernel
theorem dX7_bearer_64 : decode cX7_bearer 64 = .ok (.getfield 16, 3) := by decide +kernel
theorem dX7_bearer_67 : decode cX7_bearer 67 = .ok (.iload 5, 2) := by decide +kernel
theorem dX7_bearer_69 : decode cX7_bearer 69 = .ok (.iaload, 1) := by decide +kernel
theorem dX7_bearer_70 : decode cX7_bearer 70 = .ok (.bipush 12, 2) := by decide +kernel
theorem dX7_bearer_72 : decode cX7_bearer 72 = .ok (.irem, 1) := by decide +kernel
theorem dX7_bearer_73 : decode cX7_bearer 73 = .ok (.iload_n 2, 1) := by decide +kernel
theorem dX7_bearer_74 : decode cX7_bearer 74 = .ok (.bipush 12, 2) := by decide +kernel
theorem dX7_bearer_76 : decode cX7_bearer 76 = .ok (.irem, 1) := by decide +kernel
theorem dX7_bearer_77 : decode cX7_bearer 77 = .ok (.invokestatic 127, 3) := by decide +kernel
theorem dX7_bearer_80 : decode cX7_bearer 80 = .ok (.iadd, 1) := by decide +kernel
theorem dX7_bearer_81 : decode cX7_bearer 81 = .ok (.istore 6, 2) := by decide +kernel
theorem dX7_bearer_83 : decode cX7_bearer 83 = .ok (.iload 6, 2) := by decide +kernel
theorem dX7_bearer_85 : decode cX7_bearer 85 = .ok (.iload 4, 2) := by decide +kernel
theorem dX7_bearer_87 : decode cX7_bearer 87 = .ok (.if_icmp .ge 8, 3) := by decide +kernel
theorem dX7_bearer_90 : decode cX7_bearer 90 = .ok (.iload 5, 2) := by decide +kernel
theorem dX7_bearer_92 : decode cX7_bearer 92 = .ok (.goto 4, 3) := by decide +kernel
theorem dX7_bearer_95 : decode cX7_bearer 95 = .ok (.iload_n 3, 1) := by decide +kernel
theorem dX7_bearer_96 : decode cX7_bearer 96 = .ok (.istore_n 3, 1) := by decide +kernel
theorem dX7_bearer_97 : decode cX7_bearer 97 = .ok (.iload 6, 2) := by decide +kernel
theorem dX7_bearer_99 : decode cX7_bearer 99 = .ok (.iload 4, 2) := by decide +kernel
theorem dX7_bearer_101 : decode cX7_bearer 101 = .ok (.if_icmp .ge 8, 3) := by decide +kernel
theorem dX7_bearer_104 : decode cX7_bearer 104 = .ok (.iload 6, 2) := by decide +kernel
theorem dX7_bearer_106 : decode cX7_bearer 106 = .ok (.goto 5, 3) := by decide +kernel
theorem dX7_bearer_109 : decode cX7_bearer 109 = .ok (.iload 4, 2) := by decide +kernel
theorem dX7_bearer_111 : decode cX7_bearer 111 = .ok (.istore 4, 2) := by decide +kernel
theorem dX7_bearer_113 : decode cX7_bearer 113 = .ok (.iinc 5 1, 3) := by decide +kernel
theorem dX7_bearer_116 : decode cX7_bearer 116 = .ok (.goto (-106), 3) := by decide +kernel
theorem dX7_bearer_119 : decode cX7_bearer 119 = .ok (.iload_n 3, 1) := by decide +kernel
theorem dX7_bearer_120 : decode cX7_bearer 120 = .ok (.ireturn, 1) := by decide +kernel
theorem dX7_bears_0 : decode cX7_bears 0 = .ok (.aload_n 0, 1) := by decide +kernel
theorem dX7_bears_1 : decode cX7_bears 1 = .ok (.invokevirtual 130, 3) := by decide +kernel
theorem dX7_bears_4 : decode cX7_bears 4 = .ok (.iconst 0, 1) := by decide +kernel
theorem dX7_bears_5 : decode cX7_bears 5 = .ok (.istore_n 2, 1) := by decide +kernel
theorem dX7_bears_6 : decode cX7_bears 6 = .ok (.iload_n 2, 1) := by decide +kernel
theorem dX7_bears_7 : decode cX7_bears 7 = .ok (.bipush 14, 2) := by decide +kernel
theorem dX7_bears_9 : decode cX7_bears 9 = .ok (.if_icmp .ge 23, 3) := by decide +kernel
theorem dX7_bears_12 : decode cX7_bears 12 = .ok (.aload_n 0, 1) := by decide +kernel
theorem dX7_bears_13 : decode cX7_bears 13 = .ok (.getfield 31, 3) := by decide +kernel
theorem dX7_bears_16 : decode cX7_bears 16 = .ok (.iload_n 2, 1) := by decide +kernel
theorem dX7_bears_17 : decode cX7_bears 17 = .ok (.iconst 0, 1) := by decide +kernel
theorem dX7_bears_18 : decode cX7_bears 18 = .ok (.iastore, 1) := by decide +kernel
theorem dX7_bears_19 : decode cX7_bears 19 = .ok (.aload_n 0, 1) := by decide +kernel
theorem dX7_bears_20 : decode cX7_bears 20 = .ok (.getfield 34, 3) := by decide +kernel
theorem dX7_bears_23 : decode cX7_bears 23 = .ok (.iload_n 2, 1) := by decide +kernel
theorem dX7_bears_24 : decode cX7_bears 24 = .ok (.iconst 0, 1) := by decide +kernel
theorem dX7_bears_25 : decode cX7_bears 25 = .ok (.iastore, 1) := by decide +kernel
theorem dX7_bears_26 : decode cX7_bears 26 = .ok (.iinc 2 1, 3) := by decide +kernel
theorem dX7_bears_29 : decode cX7_bears 29 = .ok (.goto (-23), 3) := by decide +kernel
theorem dX7_bears_32 : decode cX7_bears 32 = .ok (.iconst 0, 1) := by decide +kernel
theorem dX7_bears_33 : decode cX7_bears 33 = .ok (.istore_n 2, 1) := by decide +kernel
theorem dX7_bears_34 : decode cX7_bears 34 = .ok (.iload_n 2, 1) := by decide +kernel
theorem dX7_bears_35 : decode cX7_bears 35 = .ok (.bipush 96, 2) := by decide +kernel
theorem dX7_bears_37 : decode cX7_bears 37 = .ok (.if_icmp .ge 56, 3) := by decide +kernel
theorem dX7_bears_40 : decode cX7_bears 40 = .ok (.aload_n 0, 1) := by decide +kernel
theorem dX7_bears_41 : decode cX7_bears 41 = .ok (.iload_n 1, 1) := by decide +kernel
theorem dX7_bears_42 : decode cX7_bears 42 = .ok (.iload_n 2, 1) := by decide +kernel
theorem dX7_bears_43 : decode cX7_bears 43 = .ok (.invokevirtual 133, 3) := by decide +kernel
theorem dX7_bears_46 : decode cX7_bears 46 = .ok (.istore_n 3, 1) := by decide +kernel
theorem dX7_bears_47 : decode cX7_bears 47 = .ok (.iload_n 3, 1) := by decide +kernel
theorem dX7_bears_48 : decode cX7_bears 48 = .ok (.iconst (-1), 1) := by decide +kernel
theorem dX7_bears_49 : decode cX7_bears 49 = .ok (.if_icmp .ne 8, 3) := by decide +kernel
theorem dX7_bears_52 : decode cX7_bears 52 = .ok (.bipush 13, 2) := by decide +kernel
theorem dX7_bears_54 : decode cX7_bears 54 = .ok (.goto 4, 3) := by decide +kernel
theorem dX7_bears_57 : decode cX7_bears 57 = .ok (.iload_n 3, 1) := by decide +kernel
theorem dX7_bears_58 : decode cX7_bears 58 = .ok (.istore 4, 2) := by decide +kernel
theorem dX7_bears_60 : decode cX7_bears 60 = .ok (.aload_n 0, 1) := by decide +kernel
theorem dX7_bears_61 : decode cX7_bears 61 = .ok (.getfield 31, 3) := by decide +kernel
theorem dX7_bears_64 : decode cX7_bears 64 = .ok (.iload 4, 2) := by decide +kernel
theorem dX7_bears_66 : decode cX7_bears 66 = .ok (.dup2, 1) := by decide +kernel
theorem dX7_bears_67 : decode cX7_bears 67 = .ok (.iaload, 1) := by decide +kernel
theorem dX7_bears_68 : decode cX7_bears 68 = .ok (.aload_n 0, 1) := by decide +kernel
theorem dX7_bears_69 : decode cX7_bears 69 = .ok (.getfield 13, 3) := by decide +kernel
theorem dX7_bears_72 : decode cX7_bears 72 = .ok (.iload_n 2, 1) := by decide +kernel
theorem dX7_bears_73 : decode cX7_bears 73 = .ok (.iaload, 1) := by decide +kernel
theorem dX7_bears_74 : decode cX7_bears 74 = .ok (.iadd, 1) := by decide +kernel
theorem dX7_bears_75 : decode cX7_bears 75 = .ok (.iastore, 1) := by decide +kernel
theorem dX7_bears_76 : decode cX7_bears 76 = .ok (.aload_n 0, 1) := by decide +kernel
theorem dX7_bears_77 : decode cX7_bears 77 = .ok (.getfield 34, 3) := by decide +kernel
theorem dX7_bears_80 : decode cX7_bears 80 = .ok (.iload 4, 2) := by decide +kernel
theorem dX7_bears_82 : decode cX7_bears 82 = .ok (.dup2, 1) := by decide +kernel
theorem dX7_bears_83 : decode cX7_bears 83 = .ok (.iaload, 1) := by decide +kernel
theorem dX7_bears_84 : decode cX7_bears 84 = .ok (.iconst 1, 1) := by decide +kernel
theorem dX7_bears_85 : decode cX7_bears 85 = .ok (.iadd, 1) := by decide +kernel
theorem dX7_bears_86 : decode cX7_bears 86 = .ok (.iastore, 1) := by decide +kernel
theorem dX7_bears_87 : decode cX7_bears 87 = .ok (.iinc 2 1, 3) := by decide +kernel
theorem dX7_bears_90 : decode cX7_bears 90 = .ok (.goto (-56), 3) := by decide +kernel
theorem dX7_bears_93 : decode cX7_bears 93 = .ok (.return_, 1) := by decide +kernel
theorem dX7_tooMuch_0 : decode cX7_tooMuch 0 = .ok (.aload_n 0, 1) := by decide +kernel
theorem dX7_tooMuch_1 : decode cX7_tooMuch 1 = .ok (.iload_n 1, 1) := by decide +kernel
theorem dX7_tooMuch_2 : decode cX7_tooMuch 2 = .ok (.invokevirtual 136, 3) := by decide +kernel
theorem dX7_tooMuch_5 : decode cX7_tooMuch 5 = .ok (.iconst 0, 1) := by decide +kernel
theorem dX7_tooMuch_6 : decode cX7_tooMuch 6 = .ok (.istore_n 2, 1) := by decide +kernel
theorem dX7_tooMuch_7 : decode cX7_tooMuch 7 = .ok (.iconst 0, 1) := by decide +kernel
theorem dX7_tooMuch_8 : decode cX7_tooMuch 8 = .ok (.istore_n 3, 1) := by decide +kernel
theorem dX7_tooMuch_9 : decode cX7_tooMuch 9 = .ok (.iload_n 3, 1) := by decide +kernel
theorem dX7_tooMuch_10 : decode cX7_tooMuch 10 = .ok (.bipush 13, 2) := by decide +kernel
theorem dX7_tooMuch_12 : decode cX7_tooMuch 12 = .ok (.if_icmp .ge 43, 3) := by decide +kernel
theorem dX7_tooMuch_15 : decode cX7_tooMuch 15 = .ok (.iload_n 2, 1) := by decide +kernel
theorem dX7_tooMuch_16 : decode cX7_tooMuch 16 = .ok (.iload_n 1, 1) := by decide +kernel
theorem dX7_tooMuch_17 : decode cX7_tooMuch 17 = .ok (.iload_n 3, 1) := by decide +kernel
theorem dX7_tooMuch_18 : decode cX7_tooMuch 18 = .ok (.ishr, 1) := by decide +kernel
theorem dX7_tooMuch_19 : decode cX7_tooMuch 19 = .ok (.iconst 1, 1) := by decide +kernel
theorem dX7_tooMuch_20 : decode cX7_tooMuch 20 = .ok (.iand, 1) := by decide +kernel
theorem dX7_tooMuch_21 : decode cX7_tooMuch 21 = .ok (.iconst 1, 1) := by decide +kernel
theorem dX7_tooMuch_22 : decode cX7_tooMuch 22 = .ok (.if_icmp .ne 24, 3) := by decide +kernel
theorem dX7_tooMuch_25 : decode cX7_tooMuch 25 = .ok (.aload_n 0, 1) := by decide +kernel
theorem dX7_tooMuch_26 : decode cX7_tooMuch 26 = .ok (.getfield 31, 3) := by decide +kernel
theorem dX7_tooMuch_29 : decode cX7_tooMuch 29 = .ok (.iload_n 3, 1) := by decide +kernel
theorem dX7_tooMuch_30 : decode cX7_tooMuch 30 = .ok (.iaload, 1) := by decide +kernel
theorem dX7_tooMuch_31 : decode cX7_tooMuch 31 = .ok (.aload_n 0, 1) := by decide +kernel
theorem dX7_tooMuch_32 : decode cX7_tooMuch 32 = .ok (.getfield 19, 3) := by decide +kernel
theorem dX7_tooMuch_35 : decode cX7_tooMuch 35 = .ok (.iload_n 3, 1) := by decide +kernel
theorem dX7_tooMuch_36 : decode cX7_tooMuch 36 = .ok (.iaload, 1) := by decide +kernel
theorem dX7_tooMuch_37 : decode cX7_tooMuch 37 = .ok (.if_icmp .le 9, 3) := by decide +kernel
theorem dX7_tooMuch_40 : decode cX7_tooMuch 40 = .ok (.iconst 1, 1) := by decide +kernel
theorem dX7_tooMuch_41 : decode cX7_tooMuch 41 = .ok (.iload_n 3, 1) := by decide +kernel
theorem dX7_tooMuch_42 : decode cX7_tooMuch 42 = .ok (.ishl, 1) := by decide +kernel
theorem dX7_tooMuch_43 : decode cX7_tooMuch 43 = .ok (.goto 4, 3) := by decide +kernel
theorem dX7_tooMuch_46 : decode cX7_tooMuch 46 = .ok (.iconst 0, 1) := by decide +kernel
theorem dX7_tooMuch_47 : decode cX7_tooMuch 47 = .ok (.ior, 1) := by decide +kernel
theorem dX7_tooMuch_48 : decode cX7_tooMuch 48 = .ok (.istore_n 2, 1) := by decide +kernel
theorem dX7_tooMuch_49 : decode cX7_tooMuch 49 = .ok (.iinc 3 1, 3) := by decide +kernel
theorem dX7_tooMuch_52 : decode cX7_tooMuch 52 = .ok (.goto (-43), 3) := by decide +kernel
theorem dX7_tooMuch_55 : decode cX7_tooMuch 55 = .ok (.iload_n 2, 1) := by decide +kernel
theorem dX7_tooMuch_56 : decode cX7_tooMuch 56 = .ok (.ireturn, 1) := by decide +kernel
theorem dX7_noWaves_0 : decode cX7_noWaves 0 = .ok (.aload_n 0, 1) := by decide +kernel
theorem dX7_noWaves_1 : decode cX7_noWaves 1 = .ok (.iconst 0, 1) := by decide +kernel
theorem dX7_noWaves_2 : decode cX7_noWaves 2 = .ok (.putfield 139, 3) := by decide +kernel
theorem dX7_noWaves_5 : decode cX7_noWaves 5 = .ok (.return_, 1) := by decide +kernel
theorem dX7_left_0 : decode cX7_left 0 = .ok (.iload_n 1, 1) := by decide +kernel
theorem dX7_left_1 : decode cX7_left 1 = .ok (.istore_n 2, 1) := by decide +kernel
theorem dX7_left_2 : decode cX7_left 2 = .ok (.aload_n 0, 1) := by decide +kernel
theorem dX7_left_3 : decode cX7_left 3 = .ok (.iload_n 2, 1) := by decide +kernel
theorem dX7_left_4 : decode cX7_left 4 = .ok (.invokevirtual 142, 3) := by decide +kernel
theorem dX7_left_7 : decode cX7_left 7 = .ok (.istore_n 3, 1) := by decide +kernel
theorem dX7_left_8 : decode cX7_left 8 = .ok (.iload_n 3, 1) := by decide +kernel
theorem dX7_left_9 : decode cX7_left 9 = .ok (.ifCond .eq 18, 3) := by decide +kernel
theorem dX7_left_12 : decode cX7_left 12 = .ok (.iload_n 2, 1) := by decide +kernel
theorem dX7_left_13 : decode cX7_left 13 = .ok (.iload_n 3, 1) := by decide +kernel
theorem dX7_left_14 : decode cX7_left 14 = .ok (.iconst (-1), 1) := by decide +kernel
theorem dX7_left_15 : decode cX7_left 15 = .ok (.ixor, 1) := by decide +kernel
theorem dX7_left_16 : decode cX7_left 16 = .ok (.iand, 1) := by decide +kernel
theorem dX7_left_17 : decode cX7_left 17 = .ok (.istore_n 2, 1) := by decide +kernel
theorem dX7_left_18 : decode cX7_left 18 = .ok (.aload_n 0, 1) := by decide +kernel
theorem dX7_left_19 : decode cX7_left 19 = .ok (.iload_n 2, 1) := by decide +kernel
theorem dX7_left_20 : decode cX7_left 20 = .ok (.invokevirtual 142, 3) := by decide +kernel
theorem dX7_left_23 : decode cX7_left 23 = .ok (.istore_n 3, 1) := by decide +kernel
theorem dX7_left_24 : decode cX7_left 24 = .ok (.goto (-16), 3) := by decide +kernel
theorem dX7_left_27 : decode cX7_left 27 = .ok (.iload_n 2, 1) := by decide +kernel
theorem dX7_left_28 : decode cX7_left 28 = .ok (.ireturn, 1) := by decide +kernel
theorem dX7_goes_0 : decode cX7_goes 0 = .ok (.aload_n 0, 1) := by decide +kernel
theorem dX7_goes_1 : decode cX7_goes 1 = .ok (.invokevirtual 73, 3) := by decide +kernel
theorem dX7_goes_4 : decode cX7_goes 4 = .ok (.aload_n 0, 1) := by decide +kernel
theorem dX7_goes_5 : decode cX7_goes 5 = .ok (.aload_n 0, 1) := by decide +kernel
theorem dX7_goes_6 : decode cX7_goes 6 = .ok (.getfield 53, 3) := by decide +kernel
theorem dX7_goes_9 : decode cX7_goes 9 = .ok (.invokevirtual 142, 3) := by decide +kernel
theorem dX7_goes_12 : decode cX7_goes 12 = .ok (.istore_n 1, 1) := by decide +kernel
theorem dX7_goes_13 : decode cX7_goes 13 = .ok (.iload_n 1, 1) := by decide +kernel
theorem dX7_goes_14 : decode cX7_goes 14 = .ok (.ifCond .eq 47, 3) := by decide +kernel
theorem dX7_goes_17 : decode cX7_goes 17 = .ok (.aload_n 0, 1) := by decide +kernel
theorem dX7_goes_18 : decode cX7_goes 18 = .ok (.getfield 37, 3) := by decide +kernel
theorem dX7_goes_21 : decode cX7_goes 21 = .ok (.aload_n 0, 1) := by decide +kernel
theorem dX7_goes_22 : decode cX7_goes 22 = .ok (.getfield 139, 3) := by decide +kernel
theorem dX7_goes_25 : decode cX7_goes 25 = .ok (.iload_n 1, 1) := by decide +kernel
theorem dX7_goes_26 : decode cX7_goes 26 = .ok (.iastore, 1) := by decide +kernel
theorem dX7_goes_27 : decode cX7_goes 27 = .ok (.aload_n 0, 1) := by decide +kernel
theorem dX7_goes_28 : decode cX7_goes 28 = .ok (.dup, 1) := by decide +kernel
theorem dX7_goes_29 : decode cX7_goes 29 = .ok (.getfield 139, 3) := by decide +kernel
theorem dX7_goes_32 : decode cX7_goes 32 = .ok (.iconst 1, 1) := by decide +kernel
theorem dX7_goes_33 : decode cX7_goes 33 = .ok (.iadd, 1) := by decide +kernel
theorem dX7_goes_34 : decode cX7_goes 34 = .ok (.putfield 139, 3) := by decide +kernel
theorem dX7_goes_37 : decode cX7_goes 37 = .ok (.aload_n 0, 1) := by decide +kernel
theorem dX7_goes_38 : decode cX7_goes 38 = .ok (.dup, 1) := by decide +kernel
theorem dX7_goes_39 : decode cX7_goes 39 = .ok (.getfield 53, 3) := by decide +kernel
theorem dX7_goes_42 : decode cX7_goes 42 = .ok (.iload_n 1, 1) := by decide +kernel
theorem dX7_goes_43 : decode cX7_goes 43 = .ok (.iconst (-1), 1) := by decide +kernel
theorem dX7_goes_44 : decode cX7_goes 44 = .ok (.ixor, 1) := by decide +kernel
theorem dX7_goes_45 : decode cX7_goes 45 = .ok (.iand, 1) := by decide +kernel
theorem dX7_goes_46 : decode cX7_goes 46 = .ok (.putfield 53, 3) := by decide +kernel
theorem dX7_goes_49 : decode cX7_goes 49 = .ok (.aload_n 0, 1) := by decide +kernel
theorem dX7_goes_50 : decode cX7_goes 50 = .ok (.aload_n 0, 1) := by decide +kernel
theorem dX7_goes_51 : decode cX7_goes 51 = .ok (.getfield 53, 3) := by decide +kernel
theorem dX7_goes_54 : decode cX7_goes 54 = .ok (.invokevirtual 142, 3) := by decide +kernel
theorem dX7_goes_57 : decode cX7_goes 57 = .ok (.istore_n 1, 1) := by decide +kernel
theorem dX7_goes_58 : decode cX7_goes 58 = .ok (.goto (-45), 3) := by decide +kernel
theorem dX7_goes_61 : decode cX7_goes 61 = .ok (.return_, 1) := by decide +kernel
theorem dX7_tall_0 : decode cX7_tall 0 = .ok (.iload_n 0, 1) := by decide +kernel
theorem dX7_tall_1 : decode cX7_tall 1 = .ok (.sipush 4095, 3) := by decide +kernel
theorem dX7_tall_4 : decode cX7_tall 4 = .ok (.iand, 1) := by decide +kernel
theorem dX7_tall_5 : decode cX7_tall 5 = .ok (.invokestatic 117, 3) := by decide +kernel
theorem dX7_tall_8 : decode cX7_tall 8 = .ok (.iload_n 0, 1) := by decide +kernel
theorem dX7_tall_9 : decode cX7_tall 9 = .ok (.bipush 12, 2) := by decide +kernel
theorem dX7_tall_11 : decode cX7_tall 11 = .ok (.ishr, 1) := by decide +kernel
theorem dX7_tall_12 : decode cX7_tall 12 = .ok (.iconst 1, 1) := by decide +kernel
theorem dX7_tall_13 : decode cX7_tall 13 = .ok (.iand, 1) := by decide +kernel
theorem dX7_tall_14 : decode cX7_tall 14 = .ok (.iadd, 1) := by decide +kernel
theorem dX7_tall_15 : decode cX7_tall 15 = .ok (.ireturn, 1) := by decide +kernel
theorem dX7_ofBy_0 : decode cX7_ofBy 0 = .ok (.iload_n 2, 1) := by decide +kernel
theorem dX7_ofBy_1 : decode cX7_ofBy 1 = .ok (.tableswitch 88 0 4 #[35, 42, 49, 58, 73], 35) := by decide +kernel
theorem dX7_ofBy_36 : decode cX7_ofBy 36 = .ok (.aload_n 0, 1) := by decide +kernel
theorem dX7_ofBy_37 : decode cX7_ofBy 37 = .ok (.getfield 16, 3) := by decide +kernel
theorem dX7_ofBy_40 : decode cX7_ofBy 40 = .ok (.iload_n 1, 1) := by decide +kernel
theorem dX7_ofBy_41 : decode cX7_ofBy 41 = .ok (.iaload, 1) := by decide +kernel
theorem dX7_ofBy_42 : decode cX7_ofBy 42 = .ok (.ireturn, 1) := by decide +kernel
theorem dX7_ofBy_43 : decode cX7_ofBy 43 = .ok (.aload_n 0, 1) := by decide +kernel
theorem dX7_ofBy_44 : decode cX7_ofBy 44 = .ok (.getfield 19, 3) := by decide +kernel
theorem dX7_ofBy_47 : decode cX7_ofBy 47 = .ok (.iload_n 1, 1) := by decide +kernel
theorem dX7_ofBy_48 : decode cX7_ofBy 48 = .ok (.iaload, 1) := by decide +kernel
theorem dX7_ofBy_49 : decode cX7_ofBy 49 = .ok (.ireturn, 1) := by decide +kernel
theorem dX7_ofBy_50 : decode cX7_ofBy 50 = .ok (.aload_n 0, 1) := by decide +kernel
theorem dX7_ofBy_51 : decode cX7_ofBy 51 = .ok (.getfield 53, 3) := by decide +kernel
theorem dX7_ofBy_54 : decode cX7_ofBy 54 = .ok (.iload_n 1, 1) := by decide +kernel
theorem dX7_ofBy_55 : decode cX7_ofBy 55 = .ok (.ishr, 1) := by decide +kernel
theorem dX7_ofBy_56 : decode cX7_ofBy 56 = .ok (.iconst 1, 1) := by decide +kernel
theorem dX7_ofBy_57 : decode cX7_ofBy 57 = .ok (.iand, 1) := by decide +kernel
theorem dX7_ofBy_58 : decode cX7_ofBy 58 = .ok (.ireturn, 1) := by decide +kernel
theorem dX7_ofBy_59 : decode cX7_ofBy 59 = .ok (.aload_n 0, 1) := by decide +kernel
theorem dX7_ofBy_60 : decode cX7_ofBy 60 = .ok (.aload_n 0, 1) := by decide +kernel
theorem dX7_ofBy_61 : decode cX7_ofBy 61 = .ok (.getfield 53, 3) := by decide +kernel
theorem dX7_ofBy_64 : decode cX7_ofBy 64 = .ok (.invokevirtual 136, 3) := by decide +kernel
theorem dX7_ofBy_67 : decode cX7_ofBy 67 = .ok (.aload_n 0, 1) := by decide +kernel
theorem dX7_ofBy_68 : decode cX7_ofBy 68 = .ok (.getfield 31, 3) := by decide +kernel
theorem dX7_ofBy_71 : decode cX7_ofBy 71 = .ok (.iload_n 1, 1) := by decide +kernel
theorem dX7_ofBy_72 : decode cX7_ofBy 72 = .ok (.iaload, 1) := by decide +kernel
theorem dX7_ofBy_73 : decode cX7_ofBy 73 = .ok (.ireturn, 1) := by decide +kernel
theorem dX7_ofBy_74 : decode cX7_ofBy 74 = .ok (.aload_n 0, 1) := by decide +kernel
theorem dX7_ofBy_75 : decode cX7_ofBy 75 = .ok (.aload_n 0, 1) := by decide +kernel
theorem dX7_ofBy_76 : decode cX7_ofBy 76 = .ok (.getfield 53, 3) := by decide +kernel
theorem dX7_ofBy_79 : decode cX7_ofBy 79 = .ok (.invokevirtual 136, 3) := by decide +kernel
theorem dX7_ofBy_82 : decode cX7_ofBy 82 = .ok (.aload_n 0, 1) := by decide +kernel
theorem dX7_ofBy_83 : decode cX7_ofBy 83 = .ok (.getfield 34, 3) := by decide +kernel
theorem dX7_ofBy_86 : decode cX7_ofBy 86 = .ok (.iload_n 1, 1) := by decide +kernel
theorem dX7_ofBy_87 : decode cX7_ofBy 87 = .ok (.iaload, 1) := by decide +kernel
theorem dX7_ofBy_88 : decode cX7_ofBy 88 = .ok (.ireturn, 1) := by decide +kernel
theorem dX7_ofBy_89 : decode cX7_ofBy 89 = .ok (.aload_n 0, 1) := by decide +kernel
theorem dX7_ofBy_90 : decode cX7_ofBy 90 = .ok (.aload_n 0, 1) := by decide +kernel
theorem dX7_ofBy_91 : decode cX7_ofBy 91 = .ok (.getfield 53, 3) := by decide +kernel
theorem dX7_ofBy_94 : decode cX7_ofBy 94 = .ok (.invokevirtual 136, 3) := by decide +kernel
theorem dX7_ofBy_97 : decode cX7_ofBy 97 = .ok (.aload_n 0, 1) := by decide +kernel
theorem dX7_ofBy_98 : decode cX7_ofBy 98 = .ok (.iload_n 1, 1) := by decide +kernel
theorem dX7_ofBy_99 : decode cX7_ofBy 99 = .ok (.invokevirtual 145, 3) := by decide +kernel
theorem dX7_ofBy_102 : decode cX7_ofBy 102 = .ok (.ifCond .eq 19, 3) := by decide +kernel
theorem dX7_ofBy_105 : decode cX7_ofBy 105 = .ok (.aload_n 0, 1) := by decide +kernel
theorem dX7_ofBy_106 : decode cX7_ofBy 106 = .ok (.getfield 19, 3) := by decide +kernel
theorem dX7_ofBy_109 : decode cX7_ofBy 109 = .ok (.iload_n 1, 1) := by decide +kernel
theorem dX7_ofBy_110 : decode cX7_ofBy 110 = .ok (.iaload, 1) := by decide +kernel
theorem dX7_ofBy_111 : decode cX7_ofBy 111 = .ok (.aload_n 0, 1) := by decide +kernel
theorem dX7_ofBy_112 : decode cX7_ofBy 112 = .ok (.getfield 31, 3) := by decide +kernel
theorem dX7_ofBy_115 : decode cX7_ofBy 115 = .ok (.iload_n 1, 1) := by decide +kernel
theorem dX7_ofBy_116 : decode cX7_ofBy 116 = .ok (.iaload, 1) := by decide +kernel
theorem dX7_ofBy_117 : decode cX7_ofBy 117 = .ok (.isub, 1) := by decide +kernel
theorem dX7_ofBy_118 : decode cX7_ofBy 118 = .ok (.goto 6, 3) := by decide +kernel
theorem dX7_ofBy_121 : decode cX7_ofBy 121 = .ok (.sipush (-10000), 3) := by decide +kernel
theorem dX7_ofBy_124 : decode cX7_ofBy 124 = .ok (.ireturn, 1) := by decide +kernel
theorem dX7_of_0 : decode cX7_of 0 = .ok (.aload_n 0, 1) := by decide +kernel
theorem dX7_of_1 : decode cX7_of 1 = .ok (.iload_n 1, 1) := by decide +kernel
theorem dX7_of_2 : decode cX7_of 2 = .ok (.invokevirtual 110, 3) := by decide +kernel
theorem dX7_of_5 : decode cX7_of 5 = .ok (.ifCond .eq 21, 3) := by decide +kernel
theorem dX7_of_8 : decode cX7_of 8 = .ok (.iload_n 2, 1) := by decide +kernel
theorem dX7_of_9 : decode cX7_of 9 = .ok (.iconst 0, 1) := by decide +kernel
theorem dX7_of_10 : decode cX7_of 10 = .ok (.iconst 5, 1) := by decide +kernel
theorem dX7_of_11 : decode cX7_of 11 = .ok (.invokestatic 76, 3) := by decide +kernel
theorem dX7_of_14 : decode cX7_of 14 = .ok (.ifCond .eq 12, 3) := by decide +kernel
theorem dX7_of_17 : decode cX7_of 17 = .ok (.aload_n 0, 1) := by decide +kernel
theorem dX7_of_18 : decode cX7_of 18 = .ok (.iload_n 1, 1) := by decide +kernel
theorem dX7_of_19 : decode cX7_of 19 = .ok (.iload_n 2, 1) := by decide +kernel
theorem dX7_of_20 : decode cX7_of 20 = .ok (.invokevirtual 148, 3) := by decide +kernel
theorem dX7_of_23 : decode cX7_of 23 = .ok (.goto 7, 3) := by decide +kernel
theorem dX7_of_26 : decode cX7_of 26 = .ok (.aload_n 0, 1) := by decide +kernel
theorem dX7_of_27 : decode cX7_of 27 = .ok (.invokevirtual 84, 3) := by decide +kernel
theorem dX7_of_30 : decode cX7_of 30 = .ok (.ireturn, 1) := by decide +kernel
theorem dX7_rests_0 : decode cX7_rests 0 = .ok (.iload_n 1, 1) := by decide +kernel
theorem dX7_rests_1 : decode cX7_rests 1 = .ok (.invokestatic 80, 3) := by decide +kernel
theorem dX7_rests_4 : decode cX7_rests 4 = .ok (.ifCond .ne 8, 3) := by decide +kernel
theorem dX7_rests_7 : decode cX7_rests 7 = .ok (.aload_n 0, 1) := by decide +kernel
theorem dX7_rests_8 : decode cX7_rests 8 = .ok (.invokevirtual 84, 3) := by decide +kernel
theorem dX7_rests_11 : decode cX7_rests 11 = .ok (.ireturn, 1) := by decide +kernel
theorem dX7_rests_12 : decode cX7_rests 12 = .ok (.aload_n 0, 1) := by decide +kernel
theorem dX7_rests_13 : decode cX7_rests 13 = .ok (.invokevirtual 130, 3) := by decide +kernel
theorem dX7_rests_16 : decode cX7_rests 16 = .ok (.aload_n 0, 1) := by decide +kernel
theorem dX7_rests_17 : decode cX7_rests 17 = .ok (.aload_n 0, 1) := by decide +kernel
theorem dX7_rests_18 : decode cX7_rests 18 = .ok (.getfield 53, 3) := by decide +kernel
theorem dX7_rests_21 : decode cX7_rests 21 = .ok (.iload_n 1, 1) := by decide +kernel
theorem dX7_rests_22 : decode cX7_rests 22 = .ok (.invokevirtual 133, 3) := by decide +kernel
theorem dX7_rests_25 : decode cX7_rests 25 = .ok (.ireturn, 1) := by decide +kernel
theorem dX7_allWeight_0 : decode cX7_allWeight 0 = .ok (.iconst 0, 1) := by decide +kernel
theorem dX7_allWeight_1 : decode cX7_allWeight 1 = .ok (.istore_n 1, 1) := by decide +kernel
theorem dX7_allWeight_2 : decode cX7_allWeight 2 = .ok (.iconst 0, 1) := by decide +kernel
theorem dX7_allWeight_3 : decode cX7_allWeight 3 = .ok (.istore_n 2, 1) := by decide +kernel
theorem dX7_allWeight_4 : decode cX7_allWeight 4 = .ok (.iload_n 2, 1) := by decide +kernel
theorem dX7_allWeight_5 : decode cX7_allWeight 5 = .ok (.bipush 96, 2) := by decide +kernel
theorem dX7_allWeight_7 : decode cX7_allWeight 7 = .ok (.if_icmp .ge 18, 3) := by decide +kernel
theorem dX7_allWeight_10 : decode cX7_allWeight 10 = .ok (.iload_n 1, 1) := by decide +kernel
theorem dX7_allWeight_11 : decode cX7_allWeight 11 = .ok (.aload_n 0, 1) := by decide +kernel
theorem dX7_allWeight_12 : decode cX7_allWeight 12 = .ok (.getfield 13, 3) := by decide +kernel
theorem dX7_allWeight_15 : decode cX7_allWeight 15 = .ok (.iload_n 2, 1) := by decide +kernel
theorem dX7_allWeight_16 : decode cX7_allWeight 16 = .ok (.iaload, 1) := by decide +kernel
theorem dX7_allWeight_17 : decode cX7_allWeight 17 = .ok (.iadd, 1) := by decide +kernel
theorem dX7_allWeight_18 : decode cX7_allWeight 18 = .ok (.istore_n 1, 1) := by decide +kernel
theorem dX7_allWeight_19 : decode cX7_allWeight 19 = .ok (.iinc 2 1, 3) := by decide +kernel
theorem dX7_allWeight_22 : decode cX7_allWeight 22 = .ok (.goto (-18), 3) := by decide +kernel
theorem dX7_allWeight_25 : decode cX7_allWeight 25 = .ok (.iload_n 1, 1) := by decide +kernel
theorem dX7_allWeight_26 : decode cX7_allWeight 26 = .ok (.ireturn, 1) := by decide +kernel
theorem dX7_rooms_0 : decode cX7_rooms 0 = .ok (.aload_n 0, 1) := by decide +kernel
theorem dX7_rooms_1 : decode cX7_rooms 1 = .ok (.iconst 0, 1) := by decide +kernel
theorem dX7_rooms_2 : decode cX7_rooms 2 = .ok (.bipush 7, 2) := by decide +kernel
theorem dX7_rooms_4 : decode cX7_rooms 4 = .ok (.invokevirtual 120, 3) := by decide +kernel
theorem dX7_rooms_7 : decode cX7_rooms 7 = .ok (.iconst 1, 1) := by decide +kernel
theorem dX7_rooms_8 : decode cX7_rooms 8 = .ok (.iadd, 1) := by decide +kernel
theorem dX7_rooms_9 : decode cX7_rooms 9 = .ok (.aload_n 0, 1) := by decide +kernel
theorem dX7_rooms_10 : decode cX7_rooms 10 = .ok (.bipush 10, 2) := by decide +kernel
theorem dX7_rooms_12 : decode cX7_rooms 12 = .ok (.bipush 11, 2) := by decide +kernel
theorem dX7_rooms_14 : decode cX7_rooms 14 = .ok (.invokevirtual 120, 3) := by decide +kernel
theorem dX7_rooms_17 : decode cX7_rooms 17 = .ok (.iconst 1, 1) := by decide +kernel
theorem dX7_rooms_18 : decode cX7_rooms 18 = .ok (.iadd, 1) := by decide +kernel
theorem dX7_rooms_19 : decode cX7_rooms 19 = .ok (.imul, 1) := by decide +kernel
theorem dX7_rooms_20 : decode cX7_rooms 20 = .ok (.ireturn, 1) := by decide +kernel
theorem dX7_heldRooms_0 : decode cX7_heldRooms 0 = .ok (.aload_n 0, 1) := by decide +kernel
theorem dX7_heldRooms_1 : decode cX7_heldRooms 1 = .ok (.invokevirtual 130, 3) := by decide +kernel
theorem dX7_heldRooms_4 : decode cX7_heldRooms 4 = .ok (.iconst 0, 1) := by decide +kernel
theorem dX7_heldRooms_5 : decode cX7_heldRooms 5 = .ok (.istore_n 1, 1) := by decide +kernel
theorem dX7_heldRooms_6 : decode cX7_heldRooms 6 = .ok (.iconst 0, 1) := by decide +kernel
theorem dX7_heldRooms_7 : decode cX7_heldRooms 7 = .ok (.istore_n 2, 1) := by decide +kernel
theorem dX7_heldRooms_8 : decode cX7_heldRooms 8 = .ok (.iload_n 2, 1) := by decide +kernel
theorem dX7_heldRooms_9 : decode cX7_heldRooms 9 = .ok (.aload_n 0, 1) := by decide +kernel
theorem dX7_heldRooms_10 : decode cX7_heldRooms 10 = .ok (.getfield 49, 3) := by decide +kernel
theorem dX7_heldRooms_13 : decode cX7_heldRooms 13 = .ok (.if_icmp .ge 85, 3) := by decide +kernel
theorem dX7_heldRooms_16 : decode cX7_heldRooms 16 = .ok (.aload_n 0, 1) := by decide +kernel
theorem dX7_heldRooms_17 : decode cX7_heldRooms 17 = .ok (.iload_n 2, 1) := by decide +kernel
theorem dX7_heldRooms_18 : decode cX7_heldRooms 18 = .ok (.invokevirtual 145, 3) := by decide +kernel
theorem dX7_heldRooms_21 : decode cX7_heldRooms 21 = .ok (.istore_n 3, 1) := by decide +kernel
theorem dX7_heldRooms_22 : decode cX7_heldRooms 22 = .ok (.iconst 0, 1) := by decide +kernel
theorem dX7_heldRooms_23 : decode cX7_heldRooms 23 = .ok (.istore 4, 2) := by decide +kernel
theorem dX7_heldRooms_25 : decode cX7_heldRooms 25 = .ok (.iload 4, 2) := by decide +kernel
theorem dX7_heldRooms_27 : decode cX7_heldRooms 27 = .ok (.iload_n 2, 1) := by decide +kernel
theorem dX7_heldRooms_28 : decode cX7_heldRooms 28 = .ok (.if_icmp .ge 52, 3) := by decide +kernel
theorem dX7_heldRooms_31 : decode cX7_heldRooms 31 = .ok (.iload_n 3, 1) := by decide +kernel
theorem dX7_heldRooms_32 : decode cX7_heldRooms 32 = .ok (.ifCond .eq 40, 3) := by decide +kernel
theorem dX7_heldRooms_35 : decode cX7_heldRooms 35 = .ok (.aload_n 0, 1) := by decide +kernel
theorem dX7_heldRooms_36 : decode cX7_heldRooms 36 = .ok (.iload 4, 2) := by decide +kernel
theorem dX7_heldRooms_38 : decode cX7_heldRooms 38 = .ok (.invokevirtual 145, 3) := by decide +kernel
theorem dX7_heldRooms_41 : decode cX7_heldRooms 41 = .ok (.ifCond .eq 27, 3) := by decide +kernel
theorem dX7_heldRooms_44 : decode cX7_heldRooms 44 = .ok (.aload_n 0, 1) := by decide +kernel
theorem dX7_heldRooms_45 : decode cX7_heldRooms 45 = .ok (.aload_n 0, 1) := by decide +kernel
theorem dX7_heldRooms_46 : decode cX7_heldRooms 46 = .ok (.getfield 16, 3) := by decide +kernel
theorem dX7_heldRooms_49 : decode cX7_heldRooms 49 = .ok (.iload 4, 2) := by decide +kernel
theorem dX7_heldRooms_51 : decode cX7_heldRooms 51 = .ok (.iaload, 1) := by decide +kernel
theorem dX7_heldRooms_52 : decode cX7_heldRooms 52 = .ok (.invokevirtual 124, 3) := by decide +kernel
theorem dX7_heldRooms_55 : decode cX7_heldRooms 55 = .ok (.aload_n 0, 1) := by decide +kernel
theorem dX7_heldRooms_56 : decode cX7_heldRooms 56 = .ok (.aload_n 0, 1) := by decide +kernel
theorem dX7_heldRooms_57 : decode cX7_heldRooms 57 = .ok (.getfield 16, 3) := by decide +kernel
theorem dX7_heldRooms_60 : decode cX7_heldRooms 60 = .ok (.iload_n 2, 1) := by decide +kernel
theorem dX7_heldRooms_61 : decode cX7_heldRooms 61 = .ok (.iaload, 1) := by decide +kernel
theorem dX7_heldRooms_62 : decode cX7_heldRooms 62 = .ok (.invokevirtual 124, 3) := by decide +kernel
theorem dX7_heldRooms_65 : decode cX7_heldRooms 65 = .ok (.if_icmp .eq 7, 3) := by decide +kernel
theorem dX7_heldRooms_68 : decode cX7_heldRooms 68 = .ok (.iconst 1, 1) := by decide +kernel
theorem dX7_heldRooms_69 : decode cX7_heldRooms 69 = .ok (.goto 4, 3) := by decide +kernel
theorem dX7_heldRooms_72 : decode cX7_heldRooms 72 = .ok (.iconst 0, 1) := by decide +kernel
theorem dX7_heldRooms_73 : decode cX7_heldRooms 73 = .ok (.istore_n 3, 1) := by decide +kernel
theorem dX7_heldRooms_74 : decode cX7_heldRooms 74 = .ok (.iinc 4 1, 3) := by decide +kernel
theorem dX7_heldRooms_77 : decode cX7_heldRooms 77 = .ok (.goto (-52), 3) := by decide +kernel
theorem dX7_heldRooms_80 : decode cX7_heldRooms 80 = .ok (.iload_n 1, 1) := by decide +kernel
theorem dX7_heldRooms_81 : decode cX7_heldRooms 81 = .ok (.iload_n 3, 1) := by decide +kernel
theorem dX7_heldRooms_82 : decode cX7_heldRooms 82 = .ok (.ifCond .eq 7, 3) := by decide +kernel
theorem dX7_heldRooms_85 : decode cX7_heldRooms 85 = .ok (.iconst 1, 1) := by decide +kernel
theorem dX7_heldRooms_86 : decode cX7_heldRooms 86 = .ok (.goto 4, 3) := by decide +kernel
theorem dX7_heldRooms_89 : decode cX7_heldRooms 89 = .ok (.iconst 0, 1) := by decide +kernel
theorem dX7_heldRooms_90 : decode cX7_heldRooms 90 = .ok (.iadd, 1) := by decide +kernel
theorem dX7_heldRooms_91 : decode cX7_heldRooms 91 = .ok (.istore_n 1, 1) := by decide +kernel
theorem dX7_heldRooms_92 : decode cX7_heldRooms 92 = .ok (.iinc 2 1, 3) := by decide +kernel
theorem dX7_heldRooms_95 : decode cX7_heldRooms 95 = .ok (.goto (-87), 3) := by decide +kernel
theorem dX7_heldRooms_98 : decode cX7_heldRooms 98 = .ok (.iload_n 1, 1) := by decide +kernel
theorem dX7_heldRooms_99 : decode cX7_heldRooms 99 = .ok (.ireturn, 1) := by decide +kernel
theorem dX7_allBy_0 : decode cX7_allBy 0 = .ok (.iload_n 1, 1) := by decide +kernel
theorem dX7_allBy_1 : decode cX7_allBy 1 = .ok (.tableswitch 110 0 6 #[43, 48, 56, 68, 84, 100, 105], 43) := by decide +kernel
theorem dX7_allBy_44 : decode cX7_allBy 44 = .ok (.aload_n 0, 1) := by decide +kernel
theorem dX7_allBy_45 : decode cX7_allBy 45 = .ok (.getfield 49, 3) := by decide +kernel
theorem dX7_allBy_48 : decode cX7_allBy 48 = .ok (.ireturn, 1) := by decide +kernel
theorem dX7_allBy_49 : decode cX7_allBy 49 = .ok (.aload_n 0, 1) := by decide +kernel
theorem dX7_allBy_50 : decode cX7_allBy 50 = .ok (.getfield 53, 3) := by decide +kernel
theorem dX7_allBy_53 : decode cX7_allBy 53 = .ok (.invokestatic 117, 3) := by decide +kernel
theorem dX7_allBy_56 : decode cX7_allBy 56 = .ok (.ireturn, 1) := by decide +kernel
theorem dX7_allBy_57 : decode cX7_allBy 57 = .ok (.aload_n 0, 1) := by decide +kernel
theorem dX7_allBy_58 : decode cX7_allBy 58 = .ok (.aload_n 0, 1) := by decide +kernel
theorem dX7_allBy_59 : decode cX7_allBy 59 = .ok (.getfield 53, 3) := by decide +kernel
theorem dX7_allBy_62 : decode cX7_allBy 62 = .ok (.invokevirtual 142, 3) := by decide +kernel
theorem dX7_allBy_65 : decode cX7_allBy 65 = .ok (.invokestatic 117, 3) := by decide +kernel
theorem dX7_allBy_68 : decode cX7_allBy 68 = .ok (.ireturn, 1) := by decide +kernel
theorem dX7_allBy_69 : decode cX7_allBy 69 = .ok (.aload_n 0, 1) := by decide +kernel
theorem dX7_allBy_70 : decode cX7_allBy 70 = .ok (.aload_n 0, 1) := by decide +kernel
theorem dX7_allBy_71 : decode cX7_allBy 71 = .ok (.getfield 53, 3) := by decide +kernel
theorem dX7_allBy_74 : decode cX7_allBy 74 = .ok (.invokevirtual 136, 3) := by decide +kernel
theorem dX7_allBy_77 : decode cX7_allBy 77 = .ok (.aload_n 0, 1) := by decide +kernel
theorem dX7_allBy_78 : decode cX7_allBy 78 = .ok (.getfield 34, 3) := by decide +kernel
theorem dX7_allBy_81 : decode cX7_allBy 81 = .ok (.bipush 13, 2) := by decide +kernel
theorem dX7_allBy_83 : decode cX7_allBy 83 = .ok (.iaload, 1) := by decide +kernel
theorem dX7_allBy_84 : decode cX7_allBy 84 = .ok (.ireturn, 1) := by decide +kernel
theorem dX7_allBy_85 : decode cX7_allBy 85 = .ok (.aload_n 0, 1) := by decide +kernel
theorem dX7_allBy_86 : decode cX7_allBy 86 = .ok (.aload_n 0, 1) := by decide +kernel
theorem dX7_allBy_87 : decode cX7_allBy 87 = .ok (.getfield 53, 3) := by decide +kernel
theorem dX7_allBy_90 : decode cX7_allBy 90 = .ok (.invokevirtual 136, 3) := by decide +kernel
theorem dX7_allBy_93 : decode cX7_allBy 93 = .ok (.aload_n 0, 1) := by decide +kernel
theorem dX7_allBy_94 : decode cX7_allBy 94 = .ok (.getfield 31, 3) := by decide +kernel
theorem dX7_allBy_97 : decode cX7_allBy 97 = .ok (.bipush 13, 2) := by decide +kernel
theorem dX7_allBy_99 : decode cX7_allBy 99 = .ok (.iaload, 1) := by decide +kernel
theorem dX7_allBy_100 : decode cX7_allBy 100 = .ok (.ireturn, 1) := by decide +kernel
theorem dX7_allBy_101 : decode cX7_allBy 101 = .ok (.aload_n 0, 1) := by decide +kernel
theorem dX7_allBy_102 : decode cX7_allBy 102 = .ok (.invokevirtual 151, 3) := by decide +kernel
theorem dX7_allBy_105 : decode cX7_allBy 105 = .ok (.ireturn, 1) := by decide +kernel
theorem dX7_allBy_106 : decode cX7_allBy 106 = .ok (.aload_n 0, 1) := by decide +kernel
theorem dX7_allBy_107 : decode cX7_allBy 107 = .ok (.invokevirtual 154, 3) := by decide +kernel
theorem dX7_allBy_110 : decode cX7_allBy 110 = .ok (.ireturn, 1) := by decide +kernel
theorem dX7_allBy_111 : decode cX7_allBy 111 = .ok (.aload_n 0, 1) := by decide +kernel
theorem dX7_allBy_112 : decode cX7_allBy 112 = .ok (.invokevirtual 157, 3) := by decide +kernel
theorem dX7_allBy_115 : decode cX7_allBy 115 = .ok (.ireturn, 1) := by decide +kernel
theorem dX7_all_0 : decode cX7_all 0 = .ok (.iload_n 1, 1) := by decide +kernel
theorem dX7_all_1 : decode cX7_all 1 = .ok (.iconst 0, 1) := by decide +kernel
theorem dX7_all_2 : decode cX7_all 2 = .ok (.bipush 7, 2) := by decide +kernel
theorem dX7_all_4 : decode cX7_all 4 = .ok (.invokestatic 76, 3) := by decide +kernel
theorem dX7_all_7 : decode cX7_all 7 = .ok (.ifCond .eq 11, 3) := by decide +kernel
theorem dX7_all_10 : decode cX7_all 10 = .ok (.aload_n 0, 1) := by decide +kernel
theorem dX7_all_11 : decode cX7_all 11 = .ok (.iload_n 1, 1) := by decide +kernel
theorem dX7_all_12 : decode cX7_all 12 = .ok (.invokevirtual 160, 3) := by decide +kernel
theorem dX7_all_15 : decode cX7_all 15 = .ok (.goto 7, 3) := by decide +kernel
theorem dX7_all_18 : decode cX7_all 18 = .ok (.aload_n 0, 1) := by decide +kernel
theorem dX7_all_19 : decode cX7_all 19 = .ok (.invokevirtual 84, 3) := by decide +kernel
theorem dX7_all_22 : decode cX7_all 22 = .ok (.ireturn, 1) := by decide +kernel
theorem dX7_isSide_0 : decode cX7_isSide 0 = .ok (.aload_n 0, 1) := by decide +kernel
theorem dX7_isSide_1 : decode cX7_isSide 1 = .ok (.aload_n 0, 1) := by decide +kernel
theorem dX7_isSide_2 : decode cX7_isSide 2 = .ok (.getfield 53, 3) := by decide +kernel
theorem dX7_isSide_5 : decode cX7_isSide 5 = .ok (.iload_n 1, 1) := by decide +kernel
theorem dX7_isSide_6 : decode cX7_isSide 6 = .ok (.invokevirtual 133, 3) := by decide +kernel
theorem dX7_isSide_9 : decode cX7_isSide 9 = .ok (.istore 5, 2) := by decide +kernel
theorem dX7_isSide_11 : decode cX7_isSide 11 = .ok (.aload_n 0, 1) := by decide +kernel
theorem dX7_isSide_12 : decode cX7_isSide 12 = .ok (.aload_n 0, 1) := by decide +kernel
theorem dX7_isSide_13 : decode cX7_isSide 13 = .ok (.getfield 53, 3) := by decide +kernel
theorem dX7_isSide_16 : decode cX7_isSide 16 = .ok (.iload_n 2, 1) := by decide +kernel
theorem dX7_isSide_17 : decode cX7_isSide 17 = .ok (.invokevirtual 133, 3) := by decide +kernel
theorem dX7_isSide_20 : decode cX7_isSide 20 = .ok (.istore 6, 2) := by decide +kernel
theorem dX7_isSide_22 : decode cX7_isSide 22 = .ok (.aload_n 0, 1) := by decide +kernel
theorem dX7_isSide_23 : decode cX7_isSide 23 = .ok (.iload_n 1, 1) := by decide +kernel
theorem dX7_isSide_24 : decode cX7_isSide 24 = .ok (.invokevirtual 124, 3) := by decide +kernel
theorem dX7_isSide_27 : decode cX7_isSide 27 = .ok (.aload_n 0, 1) := by decide +kernel
theorem dX7_isSide_28 : decode cX7_isSide 28 = .ok (.iload_n 2, 1) := by decide +kernel
theorem dX7_isSide_29 : decode cX7_isSide 29 = .ok (.invokevirtual 124, 3) := by decide +kernel
theorem dX7_isSide_32 : decode cX7_isSide 32 = .ok (.if_icmp .ne 33, 3) := by decide +kernel
theorem dX7_isSide_35 : decode cX7_isSide 35 = .ok (.iload 5, 2) := by decide +kernel
theorem dX7_isSide_37 : decode cX7_isSide 37 = .ok (.iload_n 3, 1) := by decide +kernel
theorem dX7_isSide_38 : decode cX7_isSide 38 = .ok (.if_icmp .ne 10, 3) := by decide +kernel
theorem dX7_isSide_41 : decode cX7_isSide 41 = .ok (.iload 6, 2) := by decide +kernel
theorem dX7_isSide_43 : decode cX7_isSide 43 = .ok (.iload 4, 2) := by decide +kernel
theorem dX7_isSide_45 : decode cX7_isSide 45 = .ok (.if_icmp .eq 16, 3) := by decide +kernel
theorem dX7_isSide_48 : decode cX7_isSide 48 = .ok (.iload 5, 2) := by decide +kernel
theorem dX7_isSide_50 : decode cX7_isSide 50 = .ok (.iload 4, 2) := by decide +kernel
theorem dX7_isSide_52 : decode cX7_isSide 52 = .ok (.if_icmp .ne 13, 3) := by decide +kernel
theorem dX7_isSide_55 : decode cX7_isSide 55 = .ok (.iload 6, 2) := by decide +kernel
theorem dX7_isSide_57 : decode cX7_isSide 57 = .ok (.iload_n 3, 1) := by decide +kernel
theorem dX7_isSide_58 : decode cX7_isSide 58 = .ok (.if_icmp .ne 7, 3) := by decide +kernel
theorem dX7_isSide_61 : decode cX7_isSide 61 = .ok (.iconst 1, 1) := by decide +kernel
theorem dX7_isSide_62 : decode cX7_isSide 62 = .ok (.goto 4, 3) := by decide +kernel
theorem dX7_isSide_65 : decode cX7_isSide 65 = .ok (.iconst 0, 1) := by decide +kernel
theorem dX7_isSide_66 : decode cX7_isSide 66 = .ok (.ireturn, 1) := by decide +kernel
theorem dX7_beside_0 : decode cX7_beside 0 = .ok (.aload_n 0, 1) := by decide +kernel
theorem dX7_beside_1 : decode cX7_beside 1 = .ok (.iload_n 1, 1) := by decide +kernel
theorem dX7_beside_2 : decode cX7_beside 2 = .ok (.invokevirtual 110, 3) := by decide +kernel
theorem dX7_beside_5 : decode cX7_beside 5 = .ok (.ifCond .eq 32, 3) := by decide +kernel
theorem dX7_beside_8 : decode cX7_beside 8 = .ok (.aload_n 0, 1) := by decide +kernel
theorem dX7_beside_9 : decode cX7_beside 9 = .ok (.iload_n 2, 1) := by decide +kernel
theorem dX7_beside_10 : decode cX7_beside 10 = .ok (.invokevirtual 110, 3) := by decide +kernel
theorem dX7_beside_13 : decode cX7_beside 13 = .ok (.ifCond .eq 24, 3) := by decide +kernel
theorem dX7_beside_16 : decode cX7_beside 16 = .ok (.iload_n 1, 1) := by decide +kernel
theorem dX7_beside_17 : decode cX7_beside 17 = .ok (.iload_n 2, 1) := by decide +kernel
theorem dX7_beside_18 : decode cX7_beside 18 = .ok (.if_icmp .eq 19, 3) := by decide +kernel
theorem dX7_beside_21 : decode cX7_beside 21 = .ok (.aload_n 0, 1) := by decide +kernel
theorem dX7_beside_22 : decode cX7_beside 22 = .ok (.iload_n 1, 1) := by decide +kernel
theorem dX7_beside_23 : decode cX7_beside 23 = .ok (.invokevirtual 145, 3) := by decide +kernel
theorem dX7_beside_26 : decode cX7_beside 26 = .ok (.ifCond .eq 11, 3) := by decide +kernel
theorem dX7_beside_29 : decode cX7_beside 29 = .ok (.aload_n 0, 1) := by decide +kernel
theorem dX7_beside_30 : decode cX7_beside 30 = .ok (.iload_n 2, 1) := by decide +kernel
theorem dX7_beside_31 : decode cX7_beside 31 = .ok (.invokevirtual 145, 3) := by decide +kernel
theorem dX7_beside_34 : decode cX7_beside 34 = .ok (.ifCond .ne 8, 3) := by decide +kernel
theorem dX7_beside_37 : decode cX7_beside 37 = .ok (.aload_n 0, 1) := by decide +kernel
theorem dX7_beside_38 : decode cX7_beside 38 = .ok (.invokevirtual 84, 3) := by decide +kernel
theorem dX7_beside_41 : decode cX7_beside 41 = .ok (.ireturn, 1) := by decide +kernel
theorem dX7_beside_42 : decode cX7_beside 42 = .ok (.aload_n 0, 1) := by decide +kernel
theorem dX7_beside_43 : decode cX7_beside 43 = .ok (.invokevirtual 130, 3) := by decide +kernel
theorem dX7_beside_46 : decode cX7_beside 46 = .ok (.iconst 0, 1) := by decide +kernel
theorem dX7_beside_47 : decode cX7_beside 47 = .ok (.istore_n 3, 1) := by decide +kernel
theorem dX7_beside_48 : decode cX7_beside 48 = .ok (.iconst 0, 1) := by decide +kernel
theorem dX7_beside_49 : decode cX7_beside 49 = .ok (.istore 4, 2) := by decide +kernel
theorem dX7_beside_51 : decode cX7_beside 51 = .ok (.iload 4, 2) := by decide +kernel
theorem dX7_beside_53 : decode cX7_beside 53 = .ok (.bipush 96, 2) := by decide +kernel
theorem dX7_beside_55 : decode cX7_beside 55 = .ok (.if_icmp .ge 67, 3) := by decide +kernel
theorem dX7_beside_58 : decode cX7_beside 58 = .ok (.iload_n 3, 1) := by decide +kernel
theorem dX7_beside_59 : decode cX7_beside 59 = .ok (.ifCond .ne 63, 3) := by decide +kernel
theorem dX7_beside_62 : decode cX7_beside 62 = .ok (.iload 4, 2) := by decide +kernel
theorem dX7_beside_64 : decode cX7_beside 64 = .ok (.bipush 12, 2) := by decide +kernel
theorem dX7_beside_66 : decode cX7_beside 66 = .ok (.irem, 1) := by decide +kernel
theorem dX7_beside_67 : decode cX7_beside 67 = .ok (.bipush 11, 2) := by decide +kernel
theorem dX7_beside_69 : decode cX7_beside 69 = .ok (.if_icmp .ge 18, 3) := by decide +kernel
theorem dX7_beside_72 : decode cX7_beside 72 = .ok (.aload_n 0, 1) := by decide +kernel
theorem dX7_beside_73 : decode cX7_beside 73 = .ok (.iload 4, 2) := by decide +kernel
theorem dX7_beside_75 : decode cX7_beside 75 = .ok (.iload 4, 2) := by decide +kernel
theorem dX7_beside_77 : decode cX7_beside 77 = .ok (.iconst 1, 1) := by decide +kernel
theorem dX7_beside_78 : decode cX7_beside 78 = .ok (.iadd, 1) := by decide +kernel
theorem dX7_beside_79 : decode cX7_beside 79 = .ok (.iload_n 1, 1) := by decide +kernel
theorem dX7_beside_80 : decode cX7_beside 80 = .ok (.iload_n 2, 1) := by decide +kernel
theorem dX7_beside_81 : decode cX7_beside 81 = .ok (.invokevirtual 163, 3) := by decide +kernel
theorem dX7_beside_84 : decode cX7_beside 84 = .ok (.ifCond .ne 26, 3) := by decide +kernel
theorem dX7_beside_87 : decode cX7_beside 87 = .ok (.iload 4, 2) := by decide +kernel
theorem dX7_beside_89 : decode cX7_beside 89 = .ok (.bipush 84, 2) := by decide +kernel
theorem dX7_beside_91 : decode cX7_beside 91 = .ok (.if_icmp .ge 23, 3) := by decide +kernel
theorem dX7_beside_94 : decode cX7_beside 94 = .ok (.aload_n 0, 1) := by decide +kernel
theorem dX7_beside_95 : decode cX7_beside 95 = .ok (.iload 4, 2) := by decide +kernel
theorem dX7_beside_97 : decode cX7_beside 97 = .ok (.iload 4, 2) := by decide +kernel
theorem dX7_beside_99 : decode cX7_beside 99 = .ok (.bipush 12, 2) := by decide +kernel
theorem dX7_beside_101 : decode cX7_beside 101 = .ok (.iadd, 1) := by decide +kernel
theorem dX7_beside_102 : decode cX7_beside 102 = .ok (.iload_n 1, 1) := by decide +kernel
theorem dX7_beside_103 : decode cX7_beside 103 = .ok (.iload_n 2, 1) := by decide +kernel
theorem dX7_beside_104 : decode cX7_beside 104 = .ok (.invokevirtual 163, 3) := by decide +kernel
theorem dX7_beside_107 : decode cX7_beside 107 = .ok (.ifCond .eq 7, 3) := by decide +kernel
theorem dX7_beside_110 : decode cX7_beside 110 = .ok (.iconst 1, 1) := by decide +kernel
theorem dX7_beside_111 : decode cX7_beside 111 = .ok (.goto 4, 3) := by decide +kernel
theorem dX7_beside_114 : decode cX7_beside 114 = .ok (.iconst 0, 1) := by decide +kernel
theorem dX7_beside_115 : decode cX7_beside 115 = .ok (.istore_n 3, 1) := by decide +kernel
theorem dX7_beside_116 : decode cX7_beside 116 = .ok (.iinc 4 1, 3) := by decide +kernel
theorem dX7_beside_119 : decode cX7_beside 119 = .ok (.goto (-68), 3) := by decide +kernel
theorem dX7_beside_122 : decode cX7_beside 122 = .ok (.iload_n 3, 1) := by decide +kernel
theorem dX7_beside_123 : decode cX7_beside 123 = .ok (.ifCond .eq 7, 3) := by decide +kernel
theorem dX7_beside_126 : decode cX7_beside 126 = .ok (.iconst 1, 1) := by decide +kernel
theorem dX7_beside_127 : decode cX7_beside 127 = .ok (.goto 4, 3) := by decide +kernel
theorem dX7_beside_130 : decode cX7_beside 130 = .ok (.iconst 0, 1) := by decide +kernel
theorem dX7_beside_131 : decode cX7_beside 131 = .ok (.ireturn, 1) := by decide +kernel
theorem dX7_runs_0 : decode cX7_runs 0 = .ok (.aload_n 0, 1) := by decide +kernel
theorem dX7_runs_1 : decode cX7_runs 1 = .ok (.invokevirtual 94, 3) := by decide +kernel
theorem dX7_runs_4 : decode cX7_runs 4 = .ok (.aload_n 0, 1) := by decide +kernel
theorem dX7_runs_5 : decode cX7_runs 5 = .ok (.getfield 53, 3) := by decide +kernel
theorem dX7_runs_8 : decode cX7_runs 8 = .ok (.invokestatic 117, 3) := by decide +kernel
theorem dX7_runs_11 : decode cX7_runs 11 = .ok (.istore_n 1, 1) := by decide +kernel
theorem dX7_runs_12 : decode cX7_runs 12 = .ok (.aload_n 0, 1) := by decide +kernel
theorem dX7_runs_13 : decode cX7_runs 13 = .ok (.invokevirtual 167, 3) := by decide +kernel
theorem dX7_runs_16 : decode cX7_runs 16 = .ok (.iload_n 1, 1) := by decide +kernel
theorem dX7_runs_17 : decode cX7_runs 17 = .ok (.aload_n 0, 1) := by decide +kernel
theorem dX7_runs_18 : decode cX7_runs 18 = .ok (.getfield 53, 3) := by decide +kernel
theorem dX7_runs_21 : decode cX7_runs 21 = .ok (.invokestatic 117, 3) := by decide +kernel
theorem dX7_runs_24 : decode cX7_runs 24 = .ok (.isub, 1) := by decide +kernel
theorem dX7_runs_25 : decode cX7_runs 25 = .ok (.ireturn, 1) := by decide +kernel
theorem dX7_loses_0 : decode cX7_loses 0 = .ok (.aload_n 0, 1) := by decide +kernel
theorem dX7_loses_1 : decode cX7_loses 1 = .ok (.iload_n 1, 1) := by decide +kernel
theorem dX7_loses_2 : decode cX7_loses 2 = .ok (.invokevirtual 110, 3) := by decide +kernel
theorem dX7_loses_5 : decode cX7_loses 5 = .ok (.ifCond .ne 8, 3) := by decide +kernel
theorem dX7_loses_8 : decode cX7_loses 8 = .ok (.aload_n 0, 1) := by decide +kernel
theorem dX7_loses_9 : decode cX7_loses 9 = .ok (.invokevirtual 84, 3) := by decide +kernel
theorem dX7_loses_12 : decode cX7_loses 12 = .ok (.ireturn, 1) := by decide +kernel
theorem dX7_loses_13 : decode cX7_loses 13 = .ok (.aload_n 0, 1) := by decide +kernel
theorem dX7_loses_14 : decode cX7_loses 14 = .ok (.iload_n 1, 1) := by decide +kernel
theorem dX7_loses_15 : decode cX7_loses 15 = .ok (.invokevirtual 145, 3) := by decide +kernel
theorem dX7_loses_18 : decode cX7_loses 18 = .ok (.ifCond .ne 8, 3) := by decide +kernel
theorem dX7_loses_21 : decode cX7_loses 21 = .ok (.aload_n 0, 1) := by decide +kernel
theorem dX7_loses_22 : decode cX7_loses 22 = .ok (.invokevirtual 66, 3) := by decide +kernel
theorem dX7_loses_25 : decode cX7_loses 25 = .ok (.ireturn, 1) := by decide +kernel
theorem dX7_loses_26 : decode cX7_loses 26 = .ok (.aload_n 0, 1) := by decide +kernel
theorem dX7_loses_27 : decode cX7_loses 27 = .ok (.invokevirtual 94, 3) := by decide +kernel
theorem dX7_loses_30 : decode cX7_loses 30 = .ok (.aload_n 0, 1) := by decide +kernel
theorem dX7_loses_31 : decode cX7_loses 31 = .ok (.getfield 53, 3) := by decide +kernel
theorem dX7_loses_34 : decode cX7_loses 34 = .ok (.invokestatic 117, 3) := by decide +kernel
theorem dX7_loses_37 : decode cX7_loses 37 = .ok (.istore_n 2, 1) := by decide +kernel
theorem dX7_loses_38 : decode cX7_loses 38 = .ok (.aload_n 0, 1) := by decide +kernel
theorem dX7_loses_39 : decode cX7_loses 39 = .ok (.dup, 1) := by decide +kernel
theorem dX7_loses_40 : decode cX7_loses 40 = .ok (.getfield 53, 3) := by decide +kernel
theorem dX7_loses_43 : decode cX7_loses 43 = .ok (.iconst 1, 1) := by decide +kernel
theorem dX7_loses_44 : decode cX7_loses 44 = .ok (.iload_n 1, 1) := by decide +kernel
theorem dX7_loses_45 : decode cX7_loses 45 = .ok (.ishl, 1) := by decide +kernel
theorem dX7_loses_46 : decode cX7_loses 46 = .ok (.iconst (-1), 1) := by decide +kernel
theorem dX7_loses_47 : decode cX7_loses 47 = .ok (.ixor, 1) := by decide +kernel
theorem dX7_loses_48 : decode cX7_loses 48 = .ok (.iand, 1) := by decide +kernel
theorem dX7_loses_49 : decode cX7_loses 49 = .ok (.putfield 53, 3) := by decide +kernel
theorem dX7_loses_52 : decode cX7_loses 52 = .ok (.aload_n 0, 1) := by decide +kernel
theorem dX7_loses_53 : decode cX7_loses 53 = .ok (.invokevirtual 167, 3) := by decide +kernel
theorem dX7_loses_56 : decode cX7_loses 56 = .ok (.iload_n 2, 1) := by decide +kernel
theorem dX7_loses_57 : decode cX7_loses 57 = .ok (.aload_n 0, 1) := by decide +kernel
theorem dX7_loses_58 : decode cX7_loses 58 = .ok (.getfield 53, 3) := by decide +kernel
theorem dX7_loses_61 : decode cX7_loses 61 = .ok (.invokestatic 117, 3) := by decide +kernel
theorem dX7_loses_64 : decode cX7_loses 64 = .ok (.isub, 1) := by decide +kernel
theorem dX7_loses_65 : decode cX7_loses 65 = .ok (.ireturn, 1) := by decide +kernel
theorem dX7_waveOf_0 : decode cX7_waveOf 0 = .ok (.iconst 0, 1) := by decide +kernel
theorem dX7_waveOf_1 : decode cX7_waveOf 1 = .ok (.istore_n 2, 1) := by decide +kernel
theorem dX7_waveOf_2 : decode cX7_waveOf 2 = .ok (.iload_n 2, 1) := by decide +kernel
theorem dX7_waveOf_3 : decode cX7_waveOf 3 = .ok (.aload_n 0, 1) := by decide +kernel
theorem dX7_waveOf_4 : decode cX7_waveOf 4 = .ok (.getfield 139, 3) := by decide +kernel
theorem dX7_waveOf_7 : decode cX7_waveOf 7 = .ok (.if_icmp .ge 27, 3) := by decide +kernel
theorem dX7_waveOf_10 : decode cX7_waveOf 10 = .ok (.aload_n 0, 1) := by decide +kernel
theorem dX7_waveOf_11 : decode cX7_waveOf 11 = .ok (.getfield 37, 3) := by decide +kernel
theorem dX7_waveOf_14 : decode cX7_waveOf 14 = .ok (.iload_n 2, 1) := by decide +kernel
theorem dX7_waveOf_15 : decode cX7_waveOf 15 = .ok (.iaload, 1) := by decide +kernel
theorem dX7_waveOf_16 : decode cX7_waveOf 16 = .ok (.iload_n 1, 1) := by decide +kernel
theorem dX7_waveOf_17 : decode cX7_waveOf 17 = .ok (.ishr, 1) := by decide +kernel
theorem dX7_waveOf_18 : decode cX7_waveOf 18 = .ok (.iconst 1, 1) := by decide +kernel
theorem dX7_waveOf_19 : decode cX7_waveOf 19 = .ok (.iand, 1) := by decide +kernel
theorem dX7_waveOf_20 : decode cX7_waveOf 20 = .ok (.iconst 1, 1) := by decide +kernel
theorem dX7_waveOf_21 : decode cX7_waveOf 21 = .ok (.if_icmp .ne 7, 3) := by decide +kernel
theorem dX7_waveOf_24 : decode cX7_waveOf 24 = .ok (.iload_n 2, 1) := by decide +kernel
theorem dX7_waveOf_25 : decode cX7_waveOf 25 = .ok (.iconst 1, 1) := by decide +kernel
theorem dX7_waveOf_26 : decode cX7_waveOf 26 = .ok (.iadd, 1) := by decide +kernel
theorem dX7_waveOf_27 : decode cX7_waveOf 27 = .ok (.ireturn, 1) := by decide +kernel
theorem dX7_waveOf_28 : decode cX7_waveOf 28 = .ok (.iinc 2 1, 3) := by decide +kernel
theorem dX7_waveOf_31 : decode cX7_waveOf 31 = .ok (.goto (-29), 3) := by decide +kernel
theorem dX7_waveOf_34 : decode cX7_waveOf 34 = .ok (.iconst (-1), 1) := by decide +kernel
theorem dX7_waveOf_35 : decode cX7_waveOf 35 = .ok (.ireturn, 1) := by decide +kernel
theorem dX7_wave_0 : decode cX7_wave 0 = .ok (.iload_n 1, 1) := by decide +kernel
theorem dX7_wave_1 : decode cX7_wave 1 = .ok (.iconst 0, 1) := by decide +kernel
theorem dX7_wave_2 : decode cX7_wave 2 = .ok (.iconst 2, 1) := by decide +kernel
theorem dX7_wave_3 : decode cX7_wave 3 = .ok (.invokestatic 76, 3) := by decide +kernel
theorem dX7_wave_6 : decode cX7_wave 6 = .ok (.ifCond .eq 26, 3) := by decide +kernel
theorem dX7_wave_9 : decode cX7_wave 9 = .ok (.iload_n 1, 1) := by decide +kernel
theorem dX7_wave_10 : decode cX7_wave 10 = .ok (.iconst 1, 1) := by decide +kernel
theorem dX7_wave_11 : decode cX7_wave 11 = .ok (.if_icmp .ne 11, 3) := by decide +kernel
theorem dX7_wave_14 : decode cX7_wave 14 = .ok (.aload_n 0, 1) := by decide +kernel
theorem dX7_wave_15 : decode cX7_wave 15 = .ok (.iload_n 2, 1) := by decide +kernel
theorem dX7_wave_16 : decode cX7_wave 16 = .ok (.invokevirtual 110, 3) := by decide +kernel
theorem dX7_wave_19 : decode cX7_wave 19 = .ok (.ifCond .eq 13, 3) := by decide +kernel
theorem dX7_wave_22 : decode cX7_wave 22 = .ok (.iload_n 1, 1) := by decide +kernel
theorem dX7_wave_23 : decode cX7_wave 23 = .ok (.iconst 2, 1) := by decide +kernel
theorem dX7_wave_24 : decode cX7_wave 24 = .ok (.if_icmp .ne 13, 3) := by decide +kernel
theorem dX7_wave_27 : decode cX7_wave 27 = .ok (.iload_n 2, 1) := by decide +kernel
theorem dX7_wave_28 : decode cX7_wave 28 = .ok (.iconst 1, 1) := by decide +kernel
theorem dX7_wave_29 : decode cX7_wave 29 = .ok (.if_icmp .ge 8, 3) := by decide +kernel
theorem dX7_wave_32 : decode cX7_wave 32 = .ok (.aload_n 0, 1) := by decide +kernel
theorem dX7_wave_33 : decode cX7_wave 33 = .ok (.invokevirtual 84, 3) := by decide +kernel
theorem dX7_wave_36 : decode cX7_wave 36 = .ok (.ireturn, 1) := by decide +kernel
theorem dX7_wave_37 : decode cX7_wave 37 = .ok (.iload_n 1, 1) := by decide +kernel
theorem dX7_wave_38 : decode cX7_wave 38 = .ok (.ifCond .ne 8, 3) := by decide +kernel
theorem dX7_wave_41 : decode cX7_wave 41 = .ok (.aload_n 0, 1) := by decide +kernel
theorem dX7_wave_42 : decode cX7_wave 42 = .ok (.getfield 139, 3) := by decide +kernel
theorem dX7_wave_45 : decode cX7_wave 45 = .ok (.ireturn, 1) := by decide +kernel
theorem dX7_wave_46 : decode cX7_wave 46 = .ok (.iload_n 1, 1) := by decide +kernel
theorem dX7_wave_47 : decode cX7_wave 47 = .ok (.iconst 1, 1) := by decide +kernel
theorem dX7_wave_48 : decode cX7_wave 48 = .ok (.if_icmp .ne 11, 3) := by decide +kernel
theorem dX7_wave_51 : decode cX7_wave 51 = .ok (.aload_n 0, 1) := by decide +kernel
theorem dX7_wave_52 : decode cX7_wave 52 = .ok (.iload_n 2, 1) := by decide +kernel
theorem dX7_wave_53 : decode cX7_wave 53 = .ok (.invokevirtual 170, 3) := by decide +kernel
theorem dX7_wave_56 : decode cX7_wave 56 = .ok (.goto 26, 3) := by decide +kernel
theorem dX7_wave_59 : decode cX7_wave 59 = .ok (.iload_n 2, 1) := by decide +kernel
theorem dX7_wave_60 : decode cX7_wave 60 = .ok (.aload_n 0, 1) := by decide +kernel
theorem dX7_wave_61 : decode cX7_wave 61 = .ok (.getfield 139, 3) := by decide +kernel
theorem dX7_wave_64 : decode cX7_wave 64 = .ok (.if_icmp .le 7, 3) := by decide +kernel
theorem dX7_wave_67 : decode cX7_wave 67 = .ok (.iconst 0, 1) := by decide +kernel
theorem dX7_wave_68 : decode cX7_wave 68 = .ok (.goto 14, 3) := by decide +kernel
theorem dX7_wave_71 : decode cX7_wave 71 = .ok (.aload_n 0, 1) := by decide +kernel
theorem dX7_wave_72 : decode cX7_wave 72 = .ok (.getfield 37, 3) := by decide +kernel
theorem dX7_wave_75 : decode cX7_wave 75 = .ok (.iload_n 2, 1) := by decide +kernel
theorem dX7_wave_76 : decode cX7_wave 76 = .ok (.iconst 1, 1) := by decide +kernel
theorem dX7_wave_77 : decode cX7_wave 77 = .ok (.isub, 1) := by decide +kernel
theorem dX7_wave_78 : decode cX7_wave 78 = .ok (.iaload, 1) := by decide +kernel
theorem dX7_wave_79 : decode cX7_wave 79 = .ok (.invokestatic 117, 3) := by decide +kernel
theorem dX7_wave_82 : decode cX7_wave 82 = .ok (.ireturn, 1) := by decide +kernel
theorem dX7_lossOf_0 : decode cX7_lossOf 0 = .ok (.aload_n 0, 1) := by decide +kernel
theorem dX7_lossOf_1 : decode cX7_lossOf 1 = .ok (.getfield 53, 3) := by decide +kernel
theorem dX7_lossOf_4 : decode cX7_lossOf 4 = .ok (.invokestatic 117, 3) := by decide +kernel
theorem dX7_lossOf_7 : decode cX7_lossOf 7 = .ok (.aload_n 0, 1) := by decide +kernel
theorem dX7_lossOf_8 : decode cX7_lossOf 8 = .ok (.aload_n 0, 1) := by decide +kernel
theorem dX7_lossOf_9 : decode cX7_lossOf 9 = .ok (.getfield 53, 3) := by decide +kernel
theorem dX7_lossOf_12 : decode cX7_lossOf 12 = .ok (.iconst 1, 1) := by decide +kernel
theorem dX7_lossOf_13 : decode cX7_lossOf 13 = .ok (.iload_n 1, 1) := by decide +kernel
theorem dX7_lossOf_14 : decode cX7_lossOf 14 = .ok (.ishl, 1) := by decide +kernel
theorem dX7_lossOf_15 : decode cX7_lossOf 15 = .ok (.iconst (-1), 1) := by decide +kernel
theorem dX7_lossOf_16 : decode cX7_lossOf 16 = .ok (.ixor, 1) := by decide +kernel
theorem dX7_lossOf_17 : decode cX7_lossOf 17 = .ok (.iand, 1) := by decide +kernel
theorem dX7_lossOf_18 : decode cX7_lossOf 18 = .ok (.invokevirtual 173, 3) := by decide +kernel
theorem dX7_lossOf_21 : decode cX7_lossOf 21 = .ok (.invokestatic 117, 3) := by decide +kernel
theorem dX7_lossOf_24 : decode cX7_lossOf 24 = .ok (.isub, 1) := by decide +kernel
theorem dX7_lossOf_25 : decode cX7_lossOf 25 = .ok (.ireturn, 1) := by decide +kernel
theorem dX7_would_0 : decode cX7_would 0 = .ok (.aload_n 0, 1) := by decide +kernel
theorem dX7_would_1 : decode cX7_would 1 = .ok (.iload_n 1, 1) := by decide +kernel
theorem dX7_would_2 : decode cX7_would 2 = .ok (.invokevirtual 110, 3) := by decide +kernel
theorem dX7_would_5 : decode cX7_would 5 = .ok (.ifCond .eq 12, 3) := by decide +kernel
theorem dX7_would_8 : decode cX7_would 8 = .ok (.iload_n 2, 1) := by decide +kernel
theorem dX7_would_9 : decode cX7_would 9 = .ok (.iconst 0, 1) := by decide +kernel
theorem dX7_would_10 : decode cX7_would 10 = .ok (.iconst 1, 1) := by decide +kernel
theorem dX7_would_11 : decode cX7_would 11 = .ok (.invokestatic 76, 3) := by decide +kernel
theorem dX7_would_14 : decode cX7_would 14 = .ok (.ifCond .ne 8, 3) := by decide +kernel
theorem dX7_would_17 : decode cX7_would 17 = .ok (.aload_n 0, 1) := by decide +kernel
theorem dX7_would_18 : decode cX7_would 18 = .ok (.invokevirtual 84, 3) := by decide +kernel
theorem dX7_would_21 : decode cX7_would 21 = .ok (.ireturn, 1) := by decide +kernel
theorem dX7_would_22 : decode cX7_would 22 = .ok (.aload_n 0, 1) := by decide +kernel
theorem dX7_would_23 : decode cX7_would 23 = .ok (.iload_n 1, 1) := by decide +kernel
theorem dX7_would_24 : decode cX7_would 24 = .ok (.invokevirtual 145, 3) := by decide +kernel
theorem dX7_would_27 : decode cX7_would 27 = .ok (.ifCond .ne 8, 3) := by decide +kernel
theorem dX7_would_30 : decode cX7_would 30 = .ok (.aload_n 0, 1) := by decide +kernel
theorem dX7_would_31 : decode cX7_would 31 = .ok (.invokevirtual 66, 3) := by decide +kernel
theorem dX7_would_34 : decode cX7_would 34 = .ok (.ireturn, 1) := by decide +kernel
theorem dX7_would_35 : decode cX7_would 35 = .ok (.aload_n 0, 1) := by decide +kernel
theorem dX7_would_36 : decode cX7_would 36 = .ok (.iload_n 1, 1) := by decide +kernel
theorem dX7_would_37 : decode cX7_would 37 = .ok (.invokevirtual 176, 3) := by decide +kernel
theorem dX7_would_40 : decode cX7_would 40 = .ok (.istore_n 3, 1) := by decide +kernel
theorem dX7_would_41 : decode cX7_would 41 = .ok (.iload_n 2, 1) := by decide +kernel
theorem dX7_would_42 : decode cX7_would 42 = .ok (.ifCond .ne 7, 3) := by decide +kernel
theorem dX7_would_45 : decode cX7_would 45 = .ok (.iload_n 3, 1) := by decide +kernel
theorem dX7_would_46 : decode cX7_would 46 = .ok (.goto 10, 3) := by decide +kernel
theorem dX7_would_49 : decode cX7_would 49 = .ok (.aload_n 0, 1) := by decide +kernel
theorem dX7_would_50 : decode cX7_would 50 = .ok (.getfield 34, 3) := by decide +kernel
theorem dX7_would_53 : decode cX7_would 53 = .ok (.bipush 13, 2) := by decide +kernel
theorem dX7_would_55 : decode cX7_would 55 = .ok (.iaload, 1) := by decide +kernel
theorem dX7_would_56 : decode cX7_would 56 = .ok (.ireturn, 1) := by decide +kernel
theorem dX7_worst_0 : decode cX7_worst 0 = .ok (.iload_n 1, 1) := by decide +kernel
theorem dX7_worst_1 : decode cX7_worst 1 = .ok (.iconst 0, 1) := by decide +kernel
theorem dX7_worst_2 : decode cX7_worst 2 = .ok (.iconst 1, 1) := by decide +kernel
theorem dX7_worst_3 : decode cX7_worst 3 = .ok (.invokestatic 76, 3) := by decide +kernel
theorem dX7_worst_6 : decode cX7_worst 6 = .ok (.ifCond .ne 8, 3) := by decide +kernel
theorem dX7_worst_9 : decode cX7_worst 9 = .ok (.aload_n 0, 1) := by decide +kernel
theorem dX7_worst_10 : decode cX7_worst 10 = .ok (.invokevirtual 84, 3) := by decide +kernel
theorem dX7_worst_13 : decode cX7_worst 13 = .ok (.ireturn, 1) := by decide +kernel
theorem dX7_worst_14 : decode cX7_worst 14 = .ok (.iconst (-1), 1) := by decide +kernel
theorem dX7_worst_15 : decode cX7_worst 15 = .ok (.istore_n 2, 1) := by decide +kernel
theorem dX7_worst_16 : decode cX7_worst 16 = .ok (.iconst 0, 1) := by decide +kernel
theorem dX7_worst_17 : decode cX7_worst 17 = .ok (.istore_n 3, 1) := by decide +kernel
theorem dX7_worst_18 : decode cX7_worst 18 = .ok (.iconst 0, 1) := by decide +kernel
theorem dX7_worst_19 : decode cX7_worst 19 = .ok (.istore 4, 2) := by decide +kernel
theorem dX7_worst_21 : decode cX7_worst 21 = .ok (.iload 4, 2) := by decide +kernel
theorem dX7_worst_23 : decode cX7_worst 23 = .ok (.aload_n 0, 1) := by decide +kernel
theorem dX7_worst_24 : decode cX7_worst 24 = .ok (.getfield 49, 3) := by decide +kernel
theorem dX7_worst_27 : decode cX7_worst 27 = .ok (.if_icmp .ge 56, 3) := by decide +kernel
theorem dX7_worst_30 : decode cX7_worst 30 = .ok (.aload_n 0, 1) := by decide +kernel
theorem dX7_worst_31 : decode cX7_worst 31 = .ok (.iload 4, 2) := by decide +kernel
theorem dX7_worst_33 : decode cX7_worst 33 = .ok (.invokevirtual 145, 3) := by decide +kernel
theorem dX7_worst_36 : decode cX7_worst 36 = .ok (.ifCond .eq 12, 3) := by decide +kernel
theorem dX7_worst_39 : decode cX7_worst 39 = .ok (.aload_n 0, 1) := by decide +kernel
theorem dX7_worst_40 : decode cX7_worst 40 = .ok (.iload 4, 2) := by decide +kernel
theorem dX7_worst_42 : decode cX7_worst 42 = .ok (.invokevirtual 176, 3) := by decide +kernel
theorem dX7_worst_45 : decode cX7_worst 45 = .ok (.goto 4, 3) := by decide +kernel
theorem dX7_worst_48 : decode cX7_worst 48 = .ok (.iconst 0, 1) := by decide +kernel
theorem dX7_worst_49 : decode cX7_worst 49 = .ok (.istore 5, 2) := by decide +kernel
theorem dX7_worst_51 : decode cX7_worst 51 = .ok (.iload 5, 2) := by decide +kernel
theorem dX7_worst_53 : decode cX7_worst 53 = .ok (.iload_n 3, 1) := by decide +kernel
theorem dX7_worst_54 : decode cX7_worst 54 = .ok (.if_icmp .le 8, 3) := by decide +kernel
theorem dX7_worst_57 : decode cX7_worst 57 = .ok (.iload 4, 2) := by decide +kernel
theorem dX7_worst_59 : decode cX7_worst 59 = .ok (.goto 4, 3) := by decide +kernel
theorem dX7_worst_62 : decode cX7_worst 62 = .ok (.iload_n 2, 1) := by decide +kernel
theorem dX7_worst_63 : decode cX7_worst 63 = .ok (.istore_n 2, 1) := by decide +kernel
theorem dX7_worst_64 : decode cX7_worst 64 = .ok (.iload 5, 2) := by decide +kernel
theorem dX7_worst_66 : decode cX7_worst 66 = .ok (.iload_n 3, 1) := by decide +kernel
theorem dX7_worst_67 : decode cX7_worst 67 = .ok (.if_icmp .le 8, 3) := by decide +kernel
theorem dX7_worst_70 : decode cX7_worst 70 = .ok (.iload 5, 2) := by decide +kernel
theorem dX7_worst_72 : decode cX7_worst 72 = .ok (.goto 4, 3) := by decide +kernel
theorem dX7_worst_75 : decode cX7_worst 75 = .ok (.iload_n 3, 1) := by decide +kernel
theorem dX7_worst_76 : decode cX7_worst 76 = .ok (.istore_n 3, 1) := by decide +kernel
theorem dX7_worst_77 : decode cX7_worst 77 = .ok (.iinc 4 1, 3) := by decide +kernel
theorem dX7_worst_80 : decode cX7_worst 80 = .ok (.goto (-59), 3) := by decide +kernel
theorem dX7_worst_83 : decode cX7_worst 83 = .ok (.iload_n 1, 1) := by decide +kernel
theorem dX7_worst_84 : decode cX7_worst 84 = .ok (.ifCond .ne 7, 3) := by decide +kernel
theorem dX7_worst_87 : decode cX7_worst 87 = .ok (.iload_n 2, 1) := by decide +kernel
theorem dX7_worst_88 : decode cX7_worst 88 = .ok (.goto 4, 3) := by decide +kernel
theorem dX7_worst_91 : decode cX7_worst 91 = .ok (.iload_n 3, 1) := by decide +kernel
theorem dX7_worst_92 : decode cX7_worst 92 = .ok (.ireturn, 1) := by decide +kernel
theorem dX7_leftCut_0 : decode cX7_leftCut 0 = .ok (.aload_n 0, 1) := by decide +kernel
theorem dX7_leftCut_1 : decode cX7_leftCut 1 = .ok (.getfield 19, 3) := by decide +kernel
theorem dX7_leftCut_4 : decode cX7_leftCut 4 = .ok (.iload_n 1, 1) := by decide +kernel
theorem dX7_leftCut_5 : decode cX7_leftCut 5 = .ok (.dup2, 1) := by decide +kernel
theorem dX7_leftCut_6 : decode cX7_leftCut 6 = .ok (.iaload, 1) := by decide +kernel
theorem dX7_leftCut_7 : decode cX7_leftCut 7 = .ok (.iload_n 2, 1) := by decide +kernel
theorem dX7_leftCut_8 : decode cX7_leftCut 8 = .ok (.isub, 1) := by decide +kernel
theorem dX7_leftCut_9 : decode cX7_leftCut 9 = .ok (.iastore, 1) := by decide +kernel
theorem dX7_leftCut_10 : decode cX7_leftCut 10 = .ok (.aload_n 0, 1) := by decide +kernel
theorem dX7_leftCut_11 : decode cX7_leftCut 11 = .ok (.aload_n 0, 1) := by decide +kernel
theorem dX7_leftCut_12 : decode cX7_leftCut 12 = .ok (.getfield 53, 3) := by decide +kernel
theorem dX7_leftCut_15 : decode cX7_leftCut 15 = .ok (.invokevirtual 173, 3) := by decide +kernel
theorem dX7_leftCut_18 : decode cX7_leftCut 18 = .ok (.invokestatic 117, 3) := by decide +kernel
theorem dX7_leftCut_21 : decode cX7_leftCut 21 = .ok (.istore_n 3, 1) := by decide +kernel
theorem dX7_leftCut_22 : decode cX7_leftCut 22 = .ok (.aload_n 0, 1) := by decide +kernel
theorem dX7_leftCut_23 : decode cX7_leftCut 23 = .ok (.getfield 19, 3) := by decide +kernel
theorem dX7_leftCut_26 : decode cX7_leftCut 26 = .ok (.iload_n 1, 1) := by decide +kernel
theorem dX7_leftCut_27 : decode cX7_leftCut 27 = .ok (.dup2, 1) := by decide +kernel
theorem dX7_leftCut_28 : decode cX7_leftCut 28 = .ok (.iaload, 1) := by decide +kernel
theorem dX7_leftCut_29 : decode cX7_leftCut 29 = .ok (.iload_n 2, 1) := by decide +kernel
theorem dX7_leftCut_30 : decode cX7_leftCut 30 = .ok (.iadd, 1) := by decide +kernel
theorem dX7_leftCut_31 : decode cX7_leftCut 31 = .ok (.iastore, 1) := by decide +kernel
theorem dX7_leftCut_32 : decode cX7_leftCut 32 = .ok (.iload_n 3, 1) := by decide +kernel
theorem dX7_leftCut_33 : decode cX7_leftCut 33 = .ok (.ireturn, 1) := by decide +kernel
theorem dX7_cut_0 : decode cX7_cut 0 = .ok (.aload_n 0, 1) := by decide +kernel
theorem dX7_cut_1 : decode cX7_cut 1 = .ok (.iload_n 1, 1) := by decide +kernel
theorem dX7_cut_2 : decode cX7_cut 2 = .ok (.invokevirtual 110, 3) := by decide +kernel
theorem dX7_cut_5 : decode cX7_cut 5 = .ok (.ifCond .ne 8, 3) := by decide +kernel
theorem dX7_cut_8 : decode cX7_cut 8 = .ok (.aload_n 0, 1) := by decide +kernel
theorem dX7_cut_9 : decode cX7_cut 9 = .ok (.invokevirtual 84, 3) := by decide +kernel
theorem dX7_cut_12 : decode cX7_cut 12 = .ok (.ireturn, 1) := by decide +kernel
theorem dX7_cut_13 : decode cX7_cut 13 = .ok (.aload_n 0, 1) := by decide +kernel
theorem dX7_cut_14 : decode cX7_cut 14 = .ok (.iload_n 1, 1) := by decide +kernel
theorem dX7_cut_15 : decode cX7_cut 15 = .ok (.invokevirtual 145, 3) := by decide +kernel
theorem dX7_cut_18 : decode cX7_cut 18 = .ok (.ifCond .ne 8, 3) := by decide +kernel
theorem dX7_cut_21 : decode cX7_cut 21 = .ok (.aload_n 0, 1) := by decide +kernel
theorem dX7_cut_22 : decode cX7_cut 22 = .ok (.invokevirtual 66, 3) := by decide +kernel
theorem dX7_cut_25 : decode cX7_cut 25 = .ok (.ireturn, 1) := by decide +kernel
theorem dX7_cut_26 : decode cX7_cut 26 = .ok (.aload_n 0, 1) := by decide +kernel
theorem dX7_cut_27 : decode cX7_cut 27 = .ok (.iload_n 1, 1) := by decide +kernel
theorem dX7_cut_28 : decode cX7_cut 28 = .ok (.iconst 0, 1) := by decide +kernel
theorem dX7_cut_29 : decode cX7_cut 29 = .ok (.invokevirtual 179, 3) := by decide +kernel
theorem dX7_cut_32 : decode cX7_cut 32 = .ok (.istore_n 2, 1) := by decide +kernel
theorem dX7_cut_33 : decode cX7_cut 33 = .ok (.iconst 0, 1) := by decide +kernel
theorem dX7_cut_34 : decode cX7_cut 34 = .ok (.istore_n 3, 1) := by decide +kernel
theorem dX7_cut_35 : decode cX7_cut 35 = .ok (.aload_n 0, 1) := by decide +kernel
theorem dX7_cut_36 : decode cX7_cut 36 = .ok (.getfield 19, 3) := by decide +kernel
theorem dX7_cut_39 : decode cX7_cut 39 = .ok (.iload_n 1, 1) := by decide +kernel
theorem dX7_cut_40 : decode cX7_cut 40 = .ok (.iaload, 1) := by decide +kernel
theorem dX7_cut_41 : decode cX7_cut 41 = .ok (.istore 4, 2) := by decide +kernel
theorem dX7_cut_43 : decode cX7_cut 43 = .ok (.iload_n 3, 1) := by decide +kernel
theorem dX7_cut_44 : decode cX7_cut 44 = .ok (.iload 4, 2) := by decide +kernel
theorem dX7_cut_46 : decode cX7_cut 46 = .ok (.if_icmp .ge 39, 3) := by decide +kernel
theorem dX7_cut_49 : decode cX7_cut 49 = .ok (.iload_n 3, 1) := by decide +kernel
theorem dX7_cut_50 : decode cX7_cut 50 = .ok (.iload 4, 2) := by decide +kernel
theorem dX7_cut_52 : decode cX7_cut 52 = .ok (.iadd, 1) := by decide +kernel
theorem dX7_cut_53 : decode cX7_cut 53 = .ok (.iconst 1, 1) := by decide +kernel
theorem dX7_cut_54 : decode cX7_cut 54 = .ok (.iadd, 1) := by decide +kernel
theorem dX7_cut_55 : decode cX7_cut 55 = .ok (.iconst 2, 1) := by decide +kernel
theorem dX7_cut_56 : decode cX7_cut 56 = .ok (.idiv, 1) := by decide +kernel
theorem dX7_cut_57 : decode cX7_cut 57 = .ok (.istore 5, 2) := by decide +kernel
theorem dX7_cut_59 : decode cX7_cut 59 = .ok (.aload_n 0, 1) := by decide +kernel
theorem dX7_cut_60 : decode cX7_cut 60 = .ok (.iload_n 1, 1) := by decide +kernel
theorem dX7_cut_61 : decode cX7_cut 61 = .ok (.iload 5, 2) := by decide +kernel
theorem dX7_cut_63 : decode cX7_cut 63 = .ok (.invokevirtual 179, 3) := by decide +kernel
theorem dX7_cut_66 : decode cX7_cut 66 = .ok (.iload_n 2, 1) := by decide +kernel
theorem dX7_cut_67 : decode cX7_cut 67 = .ok (.if_icmp .ne 9, 3) := by decide +kernel
theorem dX7_cut_70 : decode cX7_cut 70 = .ok (.iload 5, 2) := by decide +kernel
theorem dX7_cut_72 : decode cX7_cut 72 = .ok (.istore_n 3, 1) := by decide +kernel
theorem dX7_cut_73 : decode cX7_cut 73 = .ok (.goto 9, 3) := by decide +kernel
theorem dX7_cut_76 : decode cX7_cut 76 = .ok (.iload 5, 2) := by decide +kernel
theorem dX7_cut_78 : decode cX7_cut 78 = .ok (.iconst 1, 1) := by decide +kernel
theorem dX7_cut_79 : decode cX7_cut 79 = .ok (.isub, 1) := by decide +kernel
theorem dX7_cut_80 : decode cX7_cut 80 = .ok (.istore 4, 2) := by decide +kernel
theorem dX7_cut_82 : decode cX7_cut 82 = .ok (.goto (-39), 3) := by decide +kernel
theorem dX7_cut_85 : decode cX7_cut 85 = .ok (.iload_n 3, 1) := by decide +kernel
theorem dX7_cut_86 : decode cX7_cut 86 = .ok (.ireturn, 1) := by decide +kernel
theorem dX7_mending_0 : decode cX7_mending 0 = .ok (.aload_n 0, 1) := by decide +kernel
theorem dX7_mending_1 : decode cX7_mending 1 = .ok (.aload_n 0, 1) := by decide +kernel
theorem dX7_mending_2 : decode cX7_mending 2 = .ok (.getfield 53, 3) := by decide +kernel
theorem dX7_mending_5 : decode cX7_mending 5 = .ok (.invokevirtual 136, 3) := by decide +kernel
theorem dX7_mending_8 : decode cX7_mending 8 = .ok (.iconst 0, 1) := by decide +kernel
theorem dX7_mending_9 : decode cX7_mending 9 = .ok (.istore_n 1, 1) := by decide +kernel
theorem dX7_mending_10 : decode cX7_mending 10 = .ok (.iconst 0, 1) := by decide +kernel
theorem dX7_mending_11 : decode cX7_mending 11 = .ok (.istore_n 2, 1) := by decide +kernel
theorem dX7_mending_12 : decode cX7_mending 12 = .ok (.iload_n 2, 1) := by decide +kernel
theorem dX7_mending_13 : decode cX7_mending 13 = .ok (.aload_n 0, 1) := by decide +kernel
theorem dX7_mending_14 : decode cX7_mending 14 = .ok (.getfield 49, 3) := by decide +kernel
theorem dX7_mending_17 : decode cX7_mending 17 = .ok (.if_icmp .ge 46, 3) := by decide +kernel
theorem dX7_mending_20 : decode cX7_mending 20 = .ok (.aload_n 0, 1) := by decide +kernel
theorem dX7_mending_21 : decode cX7_mending 21 = .ok (.iload_n 2, 1) := by decide +kernel
theorem dX7_mending_22 : decode cX7_mending 22 = .ok (.invokevirtual 145, 3) := by decide +kernel
theorem dX7_mending_25 : decode cX7_mending 25 = .ok (.ifCond .eq 19, 3) := by decide +kernel
theorem dX7_mending_28 : decode cX7_mending 28 = .ok (.aload_n 0, 1) := by decide +kernel
theorem dX7_mending_29 : decode cX7_mending 29 = .ok (.getfield 31, 3) := by decide +kernel
theorem dX7_mending_32 : decode cX7_mending 32 = .ok (.iload_n 2, 1) := by decide +kernel
theorem dX7_mending_33 : decode cX7_mending 33 = .ok (.iaload, 1) := by decide +kernel
theorem dX7_mending_34 : decode cX7_mending 34 = .ok (.aload_n 0, 1) := by decide +kernel
theorem dX7_mending_35 : decode cX7_mending 35 = .ok (.getfield 19, 3) := by decide +kernel
theorem dX7_mending_38 : decode cX7_mending 38 = .ok (.iload_n 2, 1) := by decide +kernel
theorem dX7_mending_39 : decode cX7_mending 39 = .ok (.iaload, 1) := by decide +kernel
theorem dX7_mending_40 : decode cX7_mending 40 = .ok (.isub, 1) := by decide +kernel
theorem dX7_mending_41 : decode cX7_mending 41 = .ok (.goto 4, 3) := by decide +kernel
theorem dX7_mending_44 : decode cX7_mending 44 = .ok (.iconst 0, 1) := by decide +kernel
theorem dX7_mending_45 : decode cX7_mending 45 = .ok (.istore_n 3, 1) := by decide +kernel
theorem dX7_mending_46 : decode cX7_mending 46 = .ok (.iload_n 3, 1) := by decide +kernel
theorem dX7_mending_47 : decode cX7_mending 47 = .ok (.iload_n 1, 1) := by decide +kernel
theorem dX7_mending_48 : decode cX7_mending 48 = .ok (.if_icmp .le 7, 3) := by decide +kernel
theorem dX7_mending_51 : decode cX7_mending 51 = .ok (.iload_n 3, 1) := by decide +kernel
theorem dX7_mending_52 : decode cX7_mending 52 = .ok (.goto 4, 3) := by decide +kernel
theorem dX7_mending_55 : decode cX7_mending 55 = .ok (.iload_n 1, 1) := by decide +kernel
theorem dX7_mending_56 : decode cX7_mending 56 = .ok (.istore_n 1, 1) := by decide +kernel
theorem dX7_mending_57 : decode cX7_mending 57 = .ok (.iinc 2 1, 3) := by decide +kernel
theorem dX7_mending_60 : decode cX7_mending 60 = .ok (.goto (-48), 3) := by decide +kernel
theorem dX7_mending_63 : decode cX7_mending 63 = .ok (.iload_n 1, 1) := by decide +kernel
theorem dX7_mending_64 : decode cX7_mending 64 = .ok (.sipush 999, 3) := by decide +kernel
theorem dX7_mending_67 : decode cX7_mending 67 = .ok (.if_icmp .gt 7, 3) := by decide +kernel
theorem dX7_mending_70 : decode cX7_mending 70 = .ok (.iload_n 1, 1) := by decide +kernel
theorem dX7_mending_71 : decode cX7_mending 71 = .ok (.goto 4, 3) := by decide +kernel
theorem dX7_mending_74 : decode cX7_mending 74 = .ok (.iconst (-1), 1) := by decide +kernel
theorem dX7_mending_75 : decode cX7_mending 75 = .ok (.ireturn, 1) := by decide +kernel
theorem dX7_bestWall_0 : decode cX7_bestWall 0 = .ok (.iload_n 1, 1) := by decide +kernel
theorem dX7_bestWall_1 : decode cX7_bestWall 1 = .ok (.iconst 0, 1) := by decide +kernel
theorem dX7_bestWall_2 : decode cX7_bestWall 2 = .ok (.iconst 1, 1) := by decide +kernel
theorem dX7_bestWall_3 : decode cX7_bestWall 3 = .ok (.invokestatic 76, 3) := by decide +kernel
theorem dX7_bestWall_6 : decode cX7_bestWall 6 = .ok (.ifCond .ne 8, 3) := by decide +kernel
theorem dX7_bestWall_9 : decode cX7_bestWall 9 = .ok (.aload_n 0, 1) := by decide +kernel
theorem dX7_bestWall_10 : decode cX7_bestWall 10 = .ok (.invokevirtual 84, 3) := by decide +kernel
theorem dX7_bestWall_13 : decode cX7_bestWall 13 = .ok (.ireturn, 1) := by decide +kernel
theorem dX7_bestWall_14 : decode cX7_bestWall 14 = .ok (.iconst (-1), 1) := by decide +kernel
theorem dX7_bestWall_15 : decode cX7_bestWall 15 = .ok (.istore_n 2, 1) := by decide +kernel
theorem dX7_bestWall_16 : decode cX7_bestWall 16 = .ok (.iconst (-1), 1) := by decide +kernel
theorem dX7_bestWall_17 : decode cX7_bestWall 17 = .ok (.istore_n 3, 1) := by decide +kernel
theorem dX7_bestWall_18 : decode cX7_bestWall 18 = .ok (.iconst 0, 1) := by decide +kernel
theorem dX7_bestWall_19 : decode cX7_bestWall 19 = .ok (.istore 4, 2) := by decide +kernel
theorem dX7_bestWall_21 : decode cX7_bestWall 21 = .ok (.iload 4, 2) := by decide +kernel
theorem dX7_bestWall_23 : decode cX7_bestWall 23 = .ok (.bipush 20, 2) := by decide +kernel
theorem dX7_bestWall_25 : decode cX7_bestWall 25 = .ok (.if_icmp .gt 109, 3) := by decide +kernel
theorem dX7_bestWall_28 : decode cX7_bestWall 28 = .ok (.iload 4, 2) := by decide +kernel
theorem dX7_bestWall_30 : decode cX7_bestWall 30 = .ok (.bipush 7, 2) := by decide +kernel
theorem dX7_bestWall_32 : decode cX7_bestWall 32 = .ok (.if_icmp .eq 96, 3) := by decide +kernel
theorem dX7_bestWall_35 : decode cX7_bestWall 35 = .ok (.iload 4, 2) := by decide +kernel
theorem dX7_bestWall_37 : decode cX7_bestWall 37 = .ok (.bipush 8, 2) := by decide +kernel
theorem dX7_bestWall_39 : decode cX7_bestWall 39 = .ok (.if_icmp .eq 89, 3) := by decide +kernel
theorem dX7_bestWall_42 : decode cX7_bestWall 42 = .ok (.iload 4, 2) := by decide +kernel
theorem dX7_bestWall_44 : decode cX7_bestWall 44 = .ok (.bipush 9, 2) := by decide +kernel
theorem dX7_bestWall_46 : decode cX7_bestWall 46 = .ok (.if_icmp .eq 82, 3) := by decide +kernel
theorem dX7_bestWall_49 : decode cX7_bestWall 49 = .ok (.aload_n 0, 1) := by decide +kernel
theorem dX7_bestWall_50 : decode cX7_bestWall 50 = .ok (.getfield 56, 3) := by decide +kernel
theorem dX7_bestWall_53 : decode cX7_bestWall 53 = .ok (.iload 4, 2) := by decide +kernel
theorem dX7_bestWall_55 : decode cX7_bestWall 55 = .ok (.ishr, 1) := by decide +kernel
theorem dX7_bestWall_56 : decode cX7_bestWall 56 = .ok (.iconst 1, 1) := by decide +kernel
theorem dX7_bestWall_57 : decode cX7_bestWall 57 = .ok (.iand, 1) := by decide +kernel
theorem dX7_bestWall_58 : decode cX7_bestWall 58 = .ok (.ifCond .ne 70, 3) := by decide +kernel
theorem dX7_bestWall_61 : decode cX7_bestWall 61 = .ok (.aload_n 0, 1) := by decide +kernel
theorem dX7_bestWall_62 : decode cX7_bestWall 62 = .ok (.dup, 1) := by decide +kernel
theorem dX7_bestWall_63 : decode cX7_bestWall 63 = .ok (.getfield 56, 3) := by decide +kernel
theorem dX7_bestWall_66 : decode cX7_bestWall 66 = .ok (.iconst 1, 1) := by decide +kernel
theorem dX7_bestWall_67 : decode cX7_bestWall 67 = .ok (.iload 4, 2) := by decide +kernel
theorem dX7_bestWall_69 : decode cX7_bestWall 69 = .ok (.ishl, 1) := by decide +kernel
theorem dX7_bestWall_70 : decode cX7_bestWall 70 = .ok (.ior, 1) := by decide +kernel
theorem dX7_bestWall_71 : decode cX7_bestWall 71 = .ok (.putfield 56, 3) := by decide +kernel
theorem dX7_bestWall_74 : decode cX7_bestWall 74 = .ok (.aload_n 0, 1) := by decide +kernel
theorem dX7_bestWall_75 : decode cX7_bestWall 75 = .ok (.aload_n 0, 1) := by decide +kernel
theorem dX7_bestWall_76 : decode cX7_bestWall 76 = .ok (.getfield 53, 3) := by decide +kernel
theorem dX7_bestWall_79 : decode cX7_bestWall 79 = .ok (.invokevirtual 173, 3) := by decide +kernel
theorem dX7_bestWall_82 : decode cX7_bestWall 82 = .ok (.invokestatic 117, 3) := by decide +kernel
theorem dX7_bestWall_85 : decode cX7_bestWall 85 = .ok (.istore 5, 2) := by decide +kernel
theorem dX7_bestWall_87 : decode cX7_bestWall 87 = .ok (.aload_n 0, 1) := by decide +kernel
theorem dX7_bestWall_88 : decode cX7_bestWall 88 = .ok (.dup, 1) := by decide +kernel
theorem dX7_bestWall_89 : decode cX7_bestWall 89 = .ok (.getfield 56, 3) := by decide +kernel
theorem dX7_bestWall_92 : decode cX7_bestWall 92 = .ok (.iconst 1, 1) := by decide +kernel
theorem dX7_bestWall_93 : decode cX7_bestWall 93 = .ok (.iload 4, 2) := by decide +kernel
theorem dX7_bestWall_95 : decode cX7_bestWall 95 = .ok (.ishl, 1) := by decide +kernel
theorem dX7_bestWall_96 : decode cX7_bestWall 96 = .ok (.iconst (-1), 1) := by decide +kernel
theorem dX7_bestWall_97 : decode cX7_bestWall 97 = .ok (.ixor, 1) := by decide +kernel
theorem dX7_bestWall_98 : decode cX7_bestWall 98 = .ok (.iand, 1) := by decide +kernel
theorem dX7_bestWall_99 : decode cX7_bestWall 99 = .ok (.putfield 56, 3) := by decide +kernel
theorem dX7_bestWall_102 : decode cX7_bestWall 102 = .ok (.iload 5, 2) := by decide +kernel
theorem dX7_bestWall_104 : decode cX7_bestWall 104 = .ok (.iload_n 3, 1) := by decide +kernel
theorem dX7_bestWall_105 : decode cX7_bestWall 105 = .ok (.if_icmp .le 8, 3) := by decide +kernel
theorem dX7_bestWall_108 : decode cX7_bestWall 108 = .ok (.iload 4, 2) := by decide +kernel
theorem dX7_bestWall_110 : decode cX7_bestWall 110 = .ok (.goto 4, 3) := by decide +kernel
theorem dX7_bestWall_113 : decode cX7_bestWall 113 = .ok (.iload_n 2, 1) := by decide +kernel
theorem dX7_bestWall_114 : decode cX7_bestWall 114 = .ok (.istore_n 2, 1) := by decide +kernel
theorem dX7_bestWall_115 : decode cX7_bestWall 115 = .ok (.iload 5, 2) := by decide +kernel
theorem dX7_bestWall_117 : decode cX7_bestWall 117 = .ok (.iload_n 3, 1) := by decide +kernel
theorem dX7_bestWall_118 : decode cX7_bestWall 118 = .ok (.if_icmp .le 8, 3) := by decide +kernel
theorem dX7_bestWall_121 : decode cX7_bestWall 121 = .ok (.iload 5, 2) := by decide +kernel
theorem dX7_bestWall_123 : decode cX7_bestWall 123 = .ok (.goto 4, 3) := by decide +kernel
theorem dX7_bestWall_126 : decode cX7_bestWall 126 = .ok (.iload_n 3, 1) := by decide +kernel
theorem dX7_bestWall_127 : decode cX7_bestWall 127 = .ok (.istore_n 3, 1) := by decide +kernel
theorem dX7_bestWall_128 : decode cX7_bestWall 128 = .ok (.iinc 4 1, 3) := by decide +kernel
theorem dX7_bestWall_131 : decode cX7_bestWall 131 = .ok (.goto (-110), 3) := by decide +kernel
theorem dX7_bestWall_134 : decode cX7_bestWall 134 = .ok (.iload_n 1, 1) := by decide +kernel
theorem dX7_bestWall_135 : decode cX7_bestWall 135 = .ok (.ifCond .ne 7, 3) := by decide +kernel
theorem dX7_bestWall_138 : decode cX7_bestWall 138 = .ok (.iload_n 2, 1) := by decide +kernel
theorem dX7_bestWall_139 : decode cX7_bestWall 139 = .ok (.goto 4, 3) := by decide +kernel
theorem dX7_bestWall_142 : decode cX7_bestWall 142 = .ok (.iload_n 3, 1) := by decide +kernel
theorem dX7_bestWall_143 : decode cX7_bestWall 143 = .ok (.ireturn, 1) := by decide +kernel
theorem dX7_bestCell_0 : decode cX7_bestCell 0 = .ok (.iload_n 1, 1) := by decide +kernel
theorem dX7_bestCell_1 : decode cX7_bestCell 1 = .ok (.iconst 0, 1) := by decide +kernel
theorem dX7_bestCell_2 : decode cX7_bestCell 2 = .ok (.sipush 999, 3) := by decide +kernel
theorem dX7_bestCell_5 : decode cX7_bestCell 5 = .ok (.invokestatic 76, 3) := by decide +kernel
theorem dX7_bestCell_8 : decode cX7_bestCell 8 = .ok (.ifCond .eq 12, 3) := by decide +kernel
theorem dX7_bestCell_11 : decode cX7_bestCell 11 = .ok (.iload_n 2, 1) := by decide +kernel
theorem dX7_bestCell_12 : decode cX7_bestCell 12 = .ok (.iconst 0, 1) := by decide +kernel
theorem dX7_bestCell_13 : decode cX7_bestCell 13 = .ok (.iconst 1, 1) := by decide +kernel
theorem dX7_bestCell_14 : decode cX7_bestCell 14 = .ok (.invokestatic 76, 3) := by decide +kernel
theorem dX7_bestCell_17 : decode cX7_bestCell 17 = .ok (.ifCond .ne 8, 3) := by decide +kernel
theorem dX7_bestCell_20 : decode cX7_bestCell 20 = .ok (.aload_n 0, 1) := by decide +kernel
theorem dX7_bestCell_21 : decode cX7_bestCell 21 = .ok (.invokevirtual 84, 3) := by decide +kernel
theorem dX7_bestCell_24 : decode cX7_bestCell 24 = .ok (.ireturn, 1) := by decide +kernel
theorem dX7_bestCell_25 : decode cX7_bestCell 25 = .ok (.aload_n 0, 1) := by decide +kernel
theorem dX7_bestCell_26 : decode cX7_bestCell 26 = .ok (.getfield 49, 3) := by decide +kernel
theorem dX7_bestCell_29 : decode cX7_bestCell 29 = .ok (.bipush 12, 2) := by decide +kernel
theorem dX7_bestCell_31 : decode cX7_bestCell 31 = .ok (.if_icmp .ne 8, 3) := by decide +kernel
theorem dX7_bestCell_34 : decode cX7_bestCell 34 = .ok (.aload_n 0, 1) := by decide +kernel
theorem dX7_bestCell_35 : decode cX7_bestCell 35 = .ok (.invokevirtual 66, 3) := by decide +kernel
theorem dX7_bestCell_38 : decode cX7_bestCell 38 = .ok (.ireturn, 1) := by decide +kernel
theorem dX7_bestCell_39 : decode cX7_bestCell 39 = .ok (.iconst (-1), 1) := by decide +kernel
theorem dX7_bestCell_40 : decode cX7_bestCell 40 = .ok (.istore_n 3, 1) := by decide +kernel
theorem dX7_bestCell_41 : decode cX7_bestCell 41 = .ok (.iconst (-1), 1) := by decide +kernel
theorem dX7_bestCell_42 : decode cX7_bestCell 42 = .ok (.istore 4, 2) := by decide +kernel
theorem dX7_bestCell_44 : decode cX7_bestCell 44 = .ok (.iconst 0, 1) := by decide +kernel
theorem dX7_bestCell_45 : decode cX7_bestCell 45 = .ok (.istore 5, 2) := by decide +kernel
theorem dX7_bestCell_47 : decode cX7_bestCell 47 = .ok (.iload 5, 2) := by decide +kernel
theorem dX7_bestCell_49 : decode cX7_bestCell 49 = .ok (.bipush 96, 2) := by decide +kernel
theorem dX7_bestCell_51 : decode cX7_bestCell 51 = .ok (.if_icmp .ge 83, 3) := by decide +kernel
theorem dX7_bestCell_54 : decode cX7_bestCell 54 = .ok (.aload_n 0, 1) := by decide +kernel
theorem dX7_bestCell_55 : decode cX7_bestCell 55 = .ok (.iload 5, 2) := by decide +kernel
theorem dX7_bestCell_57 : decode cX7_bestCell 57 = .ok (.invokevirtual 87, 3) := by decide +kernel
theorem dX7_bestCell_60 : decode cX7_bestCell 60 = .ok (.iconst (-1), 1) := by decide +kernel
theorem dX7_bestCell_61 : decode cX7_bestCell 61 = .ok (.if_icmp .ne 67, 3) := by decide +kernel
theorem dX7_bestCell_64 : decode cX7_bestCell 64 = .ok (.aload_n 0, 1) := by decide +kernel
theorem dX7_bestCell_65 : decode cX7_bestCell 65 = .ok (.getfield 16, 3) := by decide +kernel
theorem dX7_bestCell_68 : decode cX7_bestCell 68 = .ok (.bipush 12, 2) := by decide +kernel
theorem dX7_bestCell_70 : decode cX7_bestCell 70 = .ok (.iload 5, 2) := by decide +kernel
theorem dX7_bestCell_72 : decode cX7_bestCell 72 = .ok (.iastore, 1) := by decide +kernel
theorem dX7_bestCell_73 : decode cX7_bestCell 73 = .ok (.aload_n 0, 1) := by decide +kernel
theorem dX7_bestCell_74 : decode cX7_bestCell 74 = .ok (.getfield 19, 3) := by decide +kernel
theorem dX7_bestCell_77 : decode cX7_bestCell 77 = .ok (.bipush 12, 2) := by decide +kernel
theorem dX7_bestCell_79 : decode cX7_bestCell 79 = .ok (.iload_n 1, 1) := by decide +kernel
theorem dX7_bestCell_80 : decode cX7_bestCell 80 = .ok (.iastore, 1) := by decide +kernel
theorem dX7_bestCell_81 : decode cX7_bestCell 81 = .ok (.aload_n 0, 1) := by decide +kernel
theorem dX7_bestCell_82 : decode cX7_bestCell 82 = .ok (.aload_n 0, 1) := by decide +kernel
theorem dX7_bestCell_83 : decode cX7_bestCell 83 = .ok (.getfield 53, 3) := by decide +kernel
theorem dX7_bestCell_86 : decode cX7_bestCell 86 = .ok (.sipush 4096, 3) := by decide +kernel
theorem dX7_bestCell_89 : decode cX7_bestCell 89 = .ok (.ior, 1) := by decide +kernel
theorem dX7_bestCell_90 : decode cX7_bestCell 90 = .ok (.invokevirtual 173, 3) := by decide +kernel
theorem dX7_bestCell_93 : decode cX7_bestCell 93 = .ok (.invokestatic 182, 3) := by decide +kernel
theorem dX7_bestCell_96 : decode cX7_bestCell 96 = .ok (.istore 6, 2) := by decide +kernel
theorem dX7_bestCell_98 : decode cX7_bestCell 98 = .ok (.iload 6, 2) := by decide +kernel
theorem dX7_bestCell_100 : decode cX7_bestCell 100 = .ok (.iload 4, 2) := by decide +kernel
theorem dX7_bestCell_102 : decode cX7_bestCell 102 = .ok (.if_icmp .le 8, 3) := by decide +kernel
theorem dX7_bestCell_105 : decode cX7_bestCell 105 = .ok (.iload 5, 2) := by decide +kernel
theorem dX7_bestCell_107 : decode cX7_bestCell 107 = .ok (.goto 4, 3) := by decide +kernel
theorem dX7_bestCell_110 : decode cX7_bestCell 110 = .ok (.iload_n 3, 1) := by decide +kernel
theorem dX7_bestCell_111 : decode cX7_bestCell 111 = .ok (.istore_n 3, 1) := by decide +kernel
theorem dX7_bestCell_112 : decode cX7_bestCell 112 = .ok (.iload 6, 2) := by decide +kernel
theorem dX7_bestCell_114 : decode cX7_bestCell 114 = .ok (.iload 4, 2) := by decide +kernel
theorem dX7_bestCell_116 : decode cX7_bestCell 116 = .ok (.if_icmp .le 8, 3) := by decide +kernel
theorem dX7_bestCell_119 : decode cX7_bestCell 119 = .ok (.iload 6, 2) := by decide +kernel
theorem dX7_bestCell_121 : decode cX7_bestCell 121 = .ok (.goto 5, 3) := by decide +kernel
theorem dX7_bestCell_124 : decode cX7_bestCell 124 = .ok (.iload 4, 2) := by decide +kernel
theorem dX7_bestCell_126 : decode cX7_bestCell 126 = .ok (.istore 4, 2) := by decide +kernel
theorem dX7_bestCell_128 : decode cX7_bestCell 128 = .ok (.iinc 5 1, 3) := by decide +kernel
theorem dX7_bestCell_131 : decode cX7_bestCell 131 = .ok (.goto (-84), 3) := by decide +kernel
theorem dX7_bestCell_134 : decode cX7_bestCell 134 = .ok (.iload_n 2, 1) := by decide +kernel
theorem dX7_bestCell_135 : decode cX7_bestCell 135 = .ok (.ifCond .ne 7, 3) := by decide +kernel
theorem dX7_bestCell_138 : decode cX7_bestCell 138 = .ok (.iload_n 3, 1) := by decide +kernel
theorem dX7_bestCell_139 : decode cX7_bestCell 139 = .ok (.goto 5, 3) := by decide +kernel
theorem dX7_bestCell_142 : decode cX7_bestCell 142 = .ok (.iload 4, 2) := by decide +kernel
theorem dX7_bestCell_144 : decode cX7_bestCell 144 = .ok (.ireturn, 1) := by decide +kernel
theorem dX7_type_0 : decode cX7_type 0 = .ok (.iload_n 1, 1) := by decide +kernel
theorem dX7_type_1 : decode cX7_type 1 = .ok (.iconst 0, 1) := by decide +kernel
theorem dX7_type_2 : decode cX7_type 2 = .ok (.bipush 127, 2) := by decide +kernel
theorem dX7_type_4 : decode cX7_type 4 = .ok (.invokestatic 76, 3) := by decide +kernel
theorem dX7_type_7 : decode cX7_type 7 = .ok (.ifCond .ne 8, 3) := by decide +kernel
theorem dX7_type_10 : decode cX7_type 10 = .ok (.aload_n 0, 1) := by decide +kernel
theorem dX7_type_11 : decode cX7_type 11 = .ok (.invokevirtual 84, 3) := by decide +kernel
theorem dX7_type_14 : decode cX7_type 14 = .ok (.ireturn, 1) := by decide +kernel
theorem dX7_type_15 : decode cX7_type 15 = .ok (.aload_n 0, 1) := by decide +kernel
theorem dX7_type_16 : decode cX7_type 16 = .ok (.getfield 185, 3) := by decide +kernel
theorem dX7_type_19 : decode cX7_type 19 = .ok (.bipush 120, 2) := by decide +kernel
theorem dX7_type_21 : decode cX7_type 21 = .ok (.if_icmp .ne 8, 3) := by decide +kernel
theorem dX7_type_24 : decode cX7_type 24 = .ok (.aload_n 0, 1) := by decide +kernel
theorem dX7_type_25 : decode cX7_type 25 = .ok (.invokevirtual 91, 3) := by decide +kernel
theorem dX7_type_28 : decode cX7_type 28 = .ok (.ireturn, 1) := by decide +kernel
theorem dX7_type_29 : decode cX7_type 29 = .ok (.aload_n 0, 1) := by decide +kernel
theorem dX7_type_30 : decode cX7_type 30 = .ok (.getfield 40, 3) := by decide +kernel
theorem dX7_type_33 : decode cX7_type 33 = .ok (.aload_n 0, 1) := by decide +kernel
theorem dX7_type_34 : decode cX7_type 34 = .ok (.getfield 185, 3) := by decide +kernel
theorem dX7_type_37 : decode cX7_type 37 = .ok (.iload_n 1, 1) := by decide +kernel
theorem dX7_type_38 : decode cX7_type 38 = .ok (.iastore, 1) := by decide +kernel
theorem dX7_type_39 : decode cX7_type 39 = .ok (.aload_n 0, 1) := by decide +kernel
theorem dX7_type_40 : decode cX7_type 40 = .ok (.dup, 1) := by decide +kernel
theorem dX7_type_41 : decode cX7_type 41 = .ok (.getfield 185, 3) := by decide +kernel
theorem dX7_type_44 : decode cX7_type 44 = .ok (.iconst 1, 1) := by decide +kernel
theorem dX7_type_45 : decode cX7_type 45 = .ok (.iadd, 1) := by decide +kernel
theorem dX7_type_46 : decode cX7_type 46 = .ok (.putfield 185, 3) := by decide +kernel
theorem dX7_type_49 : decode cX7_type 49 = .ok (.aload_n 0, 1) := by decide +kernel
theorem dX7_type_50 : decode cX7_type 50 = .ok (.getfield 185, 3) := by decide +kernel
theorem dX7_type_53 : decode cX7_type 53 = .ok (.ireturn, 1) := by decide +kernel
theorem dX7_clear_0 : decode cX7_clear 0 = .ok (.aload_n 0, 1) := by decide +kernel
theorem dX7_clear_1 : decode cX7_clear 1 = .ok (.getfield 185, 3) := by decide +kernel
theorem dX7_clear_4 : decode cX7_clear 4 = .ok (.istore_n 1, 1) := by decide +kernel
theorem dX7_clear_5 : decode cX7_clear 5 = .ok (.aload_n 0, 1) := by decide +kernel
theorem dX7_clear_6 : decode cX7_clear 6 = .ok (.iconst 0, 1) := by decide +kernel
theorem dX7_clear_7 : decode cX7_clear 7 = .ok (.putfield 185, 3) := by decide +kernel
theorem dX7_clear_10 : decode cX7_clear 10 = .ok (.iload_n 1, 1) := by decide +kernel
theorem dX7_clear_11 : decode cX7_clear 11 = .ok (.ireturn, 1) := by decide +kernel
theorem dX7_here_0 : decode cX7_here 0 = .ok (.aload_n 0, 1) := by decide +kernel
theorem dX7_here_1 : decode cX7_here 1 = .ok (.getfield 188, 3) := by decide +kernel
theorem dX7_here_4 : decode cX7_here 4 = .ok (.aload_n 0, 1) := by decide +kernel
theorem dX7_here_5 : decode cX7_here 5 = .ok (.getfield 185, 3) := by decide +kernel
theorem dX7_here_8 : decode cX7_here 8 = .ok (.if_icmp .ge 30, 3) := by decide +kernel
theorem dX7_here_11 : decode cX7_here 11 = .ok (.aload_n 0, 1) := by decide +kernel
theorem dX7_here_12 : decode cX7_here 12 = .ok (.getfield 40, 3) := by decide +kernel
theorem dX7_here_15 : decode cX7_here 15 = .ok (.aload_n 0, 1) := by decide +kernel
theorem dX7_here_16 : decode cX7_here 16 = .ok (.getfield 188, 3) := by decide +kernel
theorem dX7_here_19 : decode cX7_here 19 = .ok (.iaload, 1) := by decide +kernel
theorem dX7_here_20 : decode cX7_here 20 = .ok (.bipush 32, 2) := by decide +kernel
theorem dX7_here_22 : decode cX7_here 22 = .ok (.if_icmp .ne 16, 3) := by decide +kernel
theorem dX7_here_25 : decode cX7_here 25 = .ok (.aload_n 0, 1) := by decide +kernel
theorem dX7_here_26 : decode cX7_here 26 = .ok (.dup, 1) := by decide +kernel
theorem dX7_here_27 : decode cX7_here 27 = .ok (.getfield 188, 3) := by decide +kernel
theorem dX7_here_30 : decode cX7_here 30 = .ok (.iconst 1, 1) := by decide +kernel
theorem dX7_here_31 : decode cX7_here 31 = .ok (.iadd, 1) := by decide +kernel
theorem dX7_here_32 : decode cX7_here 32 = .ok (.putfield 188, 3) := by decide +kernel
theorem dX7_here_35 : decode cX7_here 35 = .ok (.goto (-35), 3) := by decide +kernel
theorem dX7_here_38 : decode cX7_here 38 = .ok (.aload_n 0, 1) := by decide +kernel
theorem dX7_here_39 : decode cX7_here 39 = .ok (.getfield 188, 3) := by decide +kernel
theorem dX7_here_42 : decode cX7_here 42 = .ok (.aload_n 0, 1) := by decide +kernel
theorem dX7_here_43 : decode cX7_here 43 = .ok (.getfield 185, 3) := by decide +kernel
theorem dX7_here_46 : decode cX7_here 46 = .ok (.if_icmp .ge 15, 3) := by decide +kernel
theorem dX7_here_49 : decode cX7_here 49 = .ok (.aload_n 0, 1) := by decide +kernel
theorem dX7_here_50 : decode cX7_here 50 = .ok (.getfield 40, 3) := by decide +kernel
theorem dX7_here_53 : decode cX7_here 53 = .ok (.aload_n 0, 1) := by decide +kernel
theorem dX7_here_54 : decode cX7_here 54 = .ok (.getfield 188, 3) := by decide +kernel
theorem dX7_here_57 : decode cX7_here 57 = .ok (.iaload, 1) := by decide +kernel
theorem dX7_here_58 : decode cX7_here 58 = .ok (.goto 4, 3) := by decide +kernel
theorem dX7_here_61 : decode cX7_here 61 = .ok (.iconst (-1), 1) := by decide +kernel
theorem dX7_here_62 : decode cX7_here 62 = .ok (.ireturn, 1) := by decide +kernel
theorem dX7_readsNumber_0 : decode cX7_readsNumber 0 = .ok (.aload_n 0, 1) := by decide +kernel
theorem dX7_readsNumber_1 : decode cX7_readsNumber 1 = .ok (.invokevirtual 191, 3) := by decide +kernel
theorem dX7_readsNumber_4 : decode cX7_readsNumber 4 = .ok (.bipush 48, 2) := by decide +kernel
theorem dX7_readsNumber_6 : decode cX7_readsNumber 6 = .ok (.bipush 57, 2) := by decide +kernel
theorem dX7_readsNumber_8 : decode cX7_readsNumber 8 = .ok (.invokestatic 76, 3) := by decide +kernel
theorem dX7_readsNumber_11 : decode cX7_readsNumber 11 = .ok (.ifCond .ne 5, 3) := by decide +kernel
theorem dX7_readsNumber_14 : decode cX7_readsNumber 14 = .ok (.iconst 0, 1) := by decide +kernel
theorem dX7_readsNumber_15 : decode cX7_readsNumber 15 = .ok (.ireturn, 1) := by decide +kernel
theorem dX7_readsNumber_16 : decode cX7_readsNumber 16 = .ok (.aload_n 0, 1) := by decide +kernel
theorem dX7_readsNumber_17 : decode cX7_readsNumber 17 = .ok (.getfield 188, 3) := by decide +kernel
theorem dX7_readsNumber_20 : decode cX7_readsNumber 20 = .ok (.istore_n 2, 1) := by decide +kernel
theorem dX7_readsNumber_21 : decode cX7_readsNumber 21 = .ok (.iconst 0, 1) := by decide +kernel
theorem dX7_readsNumber_22 : decode cX7_readsNumber 22 = .ok (.istore_n 3, 1) := by decide +kernel
theorem dX7_readsNumber_23 : decode cX7_readsNumber 23 = .ok (.aload_n 0, 1) := by decide +kernel
theorem dX7_readsNumber_24 : decode cX7_readsNumber 24 = .ok (.iconst 0, 1) := by decide +kernel
theorem dX7_readsNumber_25 : decode cX7_readsNumber 25 = .ok (.putfield 194, 3) := by decide +kernel
theorem dX7_readsNumber_28 : decode cX7_readsNumber 28 = .ok (.aload_n 0, 1) := by decide +kernel
theorem dX7_readsNumber_29 : decode cX7_readsNumber 29 = .ok (.getfield 188, 3) := by decide +kernel
theorem dX7_readsNumber_32 : decode cX7_readsNumber 32 = .ok (.aload_n 0, 1) := by decide +kernel
theorem dX7_readsNumber_33 : decode cX7_readsNumber 33 = .ok (.getfield 185, 3) := by decide +kernel
theorem dX7_readsNumber_36 : decode cX7_readsNumber 36 = .ok (.if_icmp .ge 74, 3) := by decide +kernel
theorem dX7_readsNumber_39 : decode cX7_readsNumber 39 = .ok (.aload_n 0, 1) := by decide +kernel
theorem dX7_readsNumber_40 : decode cX7_readsNumber 40 = .ok (.getfield 40, 3) := by decide +kernel
theorem dX7_readsNumber_43 : decode cX7_readsNumber 43 = .ok (.aload_n 0, 1) := by decide +kernel
theorem dX7_readsNumber_44 : decode cX7_readsNumber 44 = .ok (.getfield 188, 3) := by decide +kernel
theorem dX7_readsNumber_47 : decode cX7_readsNumber 47 = .ok (.iaload, 1) := by decide +kernel
theorem dX7_readsNumber_48 : decode cX7_readsNumber 48 = .ok (.bipush 48, 2) := by decide +kernel
theorem dX7_readsNumber_50 : decode cX7_readsNumber 50 = .ok (.bipush 57, 2) := by decide +kernel
theorem dX7_readsNumber_52 : decode cX7_readsNumber 52 = .ok (.invokestatic 76, 3) := by decide +kernel
theorem dX7_readsNumber_55 : decode cX7_readsNumber 55 = .ok (.ifCond .eq 55, 3) := by decide +kernel
theorem dX7_readsNumber_58 : decode cX7_readsNumber 58 = .ok (.aload_n 0, 1) := by decide +kernel
theorem dX7_readsNumber_59 : decode cX7_readsNumber 59 = .ok (.iload_n 3, 1) := by decide +kernel
theorem dX7_readsNumber_60 : decode cX7_readsNumber 60 = .ok (.iconst 3, 1) := by decide +kernel
theorem dX7_readsNumber_61 : decode cX7_readsNumber 61 = .ok (.if_icmp .ge 26, 3) := by decide +kernel
theorem dX7_readsNumber_64 : decode cX7_readsNumber 64 = .ok (.bipush 10, 2) := by decide +kernel
theorem dX7_readsNumber_66 : decode cX7_readsNumber 66 = .ok (.aload_n 0, 1) := by decide +kernel
theorem dX7_readsNumber_67 : decode cX7_readsNumber 67 = .ok (.getfield 194, 3) := by decide +kernel
theorem dX7_readsNumber_70 : decode cX7_readsNumber 70 = .ok (.imul, 1) := by decide +kernel
theorem dX7_readsNumber_71 : decode cX7_readsNumber 71 = .ok (.aload_n 0, 1) := by decide +kernel
theorem dX7_readsNumber_72 : decode cX7_readsNumber 72 = .ok (.getfield 40, 3) := by decide +kernel
theorem dX7_readsNumber_75 : decode cX7_readsNumber 75 = .ok (.aload_n 0, 1) := by decide +kernel
theorem dX7_readsNumber_76 : decode cX7_readsNumber 76 = .ok (.getfield 188, 3) := by decide +kernel
theorem dX7_readsNumber_79 : decode cX7_readsNumber 79 = .ok (.iaload, 1) := by decide +kernel
theorem dX7_readsNumber_80 : decode cX7_readsNumber 80 = .ok (.iadd, 1) := by decide +kernel
theorem dX7_readsNumber_81 : decode cX7_readsNumber 81 = .ok (.bipush 48, 2) := by decide +kernel
theorem dX7_readsNumber_83 : decode cX7_readsNumber 83 = .ok (.isub, 1) := by decide +kernel
theorem dX7_readsNumber_84 : decode cX7_readsNumber 84 = .ok (.goto 7, 3) := by decide +kernel
theorem dX7_readsNumber_87 : decode cX7_readsNumber 87 = .ok (.aload_n 0, 1) := by decide +kernel
theorem dX7_readsNumber_88 : decode cX7_readsNumber 88 = .ok (.getfield 194, 3) := by decide +kernel
theorem dX7_readsNumber_91 : decode cX7_readsNumber 91 = .ok (.putfield 194, 3) := by decide +kernel
theorem dX7_readsNumber_94 : decode cX7_readsNumber 94 = .ok (.iinc 3 1, 3) := by decide +kernel
theorem dX7_readsNumber_97 : decode cX7_readsNumber 97 = .ok (.aload_n 0, 1) := by decide +kernel
theorem dX7_readsNumber_98 : decode cX7_readsNumber 98 = .ok (.dup, 1) := by decide +kernel
theorem dX7_readsNumber_99 : decode cX7_readsNumber 99 = .ok (.getfield 188, 3) := by decide +kernel
theorem dX7_readsNumber_102 : decode cX7_readsNumber 102 = .ok (.iconst 1, 1) := by decide +kernel
theorem dX7_readsNumber_103 : decode cX7_readsNumber 103 = .ok (.iadd, 1) := by decide +kernel
theorem dX7_readsNumber_104 : decode cX7_readsNumber 104 = .ok (.putfield 188, 3) := by decide +kernel
theorem dX7_readsNumber_107 : decode cX7_readsNumber 107 = .ok (.goto (-79), 3) := by decide +kernel
theorem dX7_readsNumber_110 : decode cX7_readsNumber 110 = .ok (.iload_n 3, 1) := by decide +kernel
theorem dX7_readsNumber_111 : decode cX7_readsNumber 111 = .ok (.iconst 3, 1) := by decide +kernel
theorem dX7_readsNumber_112 : decode cX7_readsNumber 112 = .ok (.if_icmp .gt 11, 3) := by decide +kernel
theorem dX7_readsNumber_115 : decode cX7_readsNumber 115 = .ok (.aload_n 0, 1) := by decide +kernel
theorem dX7_readsNumber_116 : decode cX7_readsNumber 116 = .ok (.getfield 194, 3) := by decide +kernel
theorem dX7_readsNumber_119 : decode cX7_readsNumber 119 = .ok (.iload_n 1, 1) := by decide +kernel
theorem dX7_readsNumber_120 : decode cX7_readsNumber 120 = .ok (.if_icmp .le 10, 3) := by decide +kernel
theorem dX7_readsNumber_123 : decode cX7_readsNumber 123 = .ok (.aload_n 0, 1) := by decide +kernel
theorem dX7_readsNumber_124 : decode cX7_readsNumber 124 = .ok (.iload_n 2, 1) := by decide +kernel
theorem dX7_readsNumber_125 : decode cX7_readsNumber 125 = .ok (.putfield 188, 3) := by decide +kernel
theorem dX7_readsNumber_128 : decode cX7_readsNumber 128 = .ok (.iconst 0, 1) := by decide +kernel
theorem dX7_readsNumber_129 : decode cX7_readsNumber 129 = .ok (.ireturn, 1) := by decide +kernel
theorem dX7_readsNumber_130 : decode cX7_readsNumber 130 = .ok (.iconst 1, 1) := by decide +kernel
theorem dX7_readsNumber_131 : decode cX7_readsNumber 131 = .ok (.ireturn, 1) := by decide +kernel
theorem dX7_ends_0 : decode cX7_ends 0 = .ok (.aload_n 0, 1) := by decide +kernel
theorem dX7_ends_1 : decode cX7_ends 1 = .ok (.invokevirtual 191, 3) := by decide +kernel
theorem dX7_ends_4 : decode cX7_ends 4 = .ok (.bipush 59, 2) := by decide +kernel
theorem dX7_ends_6 : decode cX7_ends 6 = .ok (.if_icmp .eq 5, 3) := by decide +kernel
theorem dX7_ends_9 : decode cX7_ends 9 = .ok (.iconst 0, 1) := by decide +kernel
theorem dX7_ends_10 : decode cX7_ends 10 = .ok (.ireturn, 1) := by decide +kernel
theorem dX7_ends_11 : decode cX7_ends 11 = .ok (.aload_n 0, 1) := by decide +kernel
theorem dX7_ends_12 : decode cX7_ends 12 = .ok (.dup, 1) := by decide +kernel
theorem dX7_ends_13 : decode cX7_ends 13 = .ok (.getfield 188, 3) := by decide +kernel
theorem dX7_ends_16 : decode cX7_ends 16 = .ok (.iconst 1, 1) := by decide +kernel
theorem dX7_ends_17 : decode cX7_ends 17 = .ok (.iadd, 1) := by decide +kernel
theorem dX7_ends_18 : decode cX7_ends 18 = .ok (.putfield 188, 3) := by decide +kernel
theorem dX7_ends_21 : decode cX7_ends 21 = .ok (.iconst 1, 1) := by decide +kernel
theorem dX7_ends_22 : decode cX7_ends 22 = .ok (.ireturn, 1) := by decide +kernel
theorem dX7_readsCell_0 : decode cX7_readsCell 0 = .ok (.aload_n 0, 1) := by decide +kernel
theorem dX7_readsCell_1 : decode cX7_readsCell 1 = .ok (.bipush 7, 2) := by decide +kernel
theorem dX7_readsCell_3 : decode cX7_readsCell 3 = .ok (.invokevirtual 197, 3) := by decide +kernel
theorem dX7_readsCell_6 : decode cX7_readsCell 6 = .ok (.ifCond .ne 5, 3) := by decide +kernel
theorem dX7_readsCell_9 : decode cX7_readsCell 9 = .ok (.iconst 0, 1) := by decide +kernel
theorem dX7_readsCell_10 : decode cX7_readsCell 10 = .ok (.ireturn, 1) := by decide +kernel
theorem dX7_readsCell_11 : decode cX7_readsCell 11 = .ok (.aload_n 0, 1) := by decide +kernel
theorem dX7_readsCell_12 : decode cX7_readsCell 12 = .ok (.bipush 12, 2) := by decide +kernel
theorem dX7_readsCell_14 : decode cX7_readsCell 14 = .ok (.aload_n 0, 1) := by decide +kernel
theorem dX7_readsCell_15 : decode cX7_readsCell 15 = .ok (.getfield 194, 3) := by decide +kernel
theorem dX7_readsCell_18 : decode cX7_readsCell 18 = .ok (.imul, 1) := by decide +kernel
theorem dX7_readsCell_19 : decode cX7_readsCell 19 = .ok (.putfield 200, 3) := by decide +kernel
theorem dX7_readsCell_22 : decode cX7_readsCell 22 = .ok (.aload_n 0, 1) := by decide +kernel
theorem dX7_readsCell_23 : decode cX7_readsCell 23 = .ok (.bipush 11, 2) := by decide +kernel
theorem dX7_readsCell_25 : decode cX7_readsCell 25 = .ok (.invokevirtual 197, 3) := by decide +kernel
theorem dX7_readsCell_28 : decode cX7_readsCell 28 = .ok (.ifCond .ne 5, 3) := by decide +kernel
theorem dX7_readsCell_31 : decode cX7_readsCell 31 = .ok (.iconst 0, 1) := by decide +kernel
theorem dX7_readsCell_32 : decode cX7_readsCell 32 = .ok (.ireturn, 1) := by decide +kernel
theorem dX7_readsCell_33 : decode cX7_readsCell 33 = .ok (.aload_n 0, 1) := by decide +kernel
theorem dX7_readsCell_34 : decode cX7_readsCell 34 = .ok (.dup, 1) := by decide +kernel
theorem dX7_readsCell_35 : decode cX7_readsCell 35 = .ok (.getfield 200, 3) := by decide +kernel
theorem dX7_readsCell_38 : decode cX7_readsCell 38 = .ok (.aload_n 0, 1) := by decide +kernel
theorem dX7_readsCell_39 : decode cX7_readsCell 39 = .ok (.getfield 194, 3) := by decide +kernel
theorem dX7_readsCell_42 : decode cX7_readsCell 42 = .ok (.iadd, 1) := by decide +kernel
theorem dX7_readsCell_43 : decode cX7_readsCell 43 = .ok (.putfield 200, 3) := by decide +kernel
theorem dX7_readsCell_46 : decode cX7_readsCell 46 = .ok (.iconst 1, 1) := by decide +kernel
theorem dX7_readsCell_47 : decode cX7_readsCell 47 = .ok (.ireturn, 1) := by decide +kernel
theorem dX7_readsPillar_0 : decode cX7_readsPillar 0 = .ok (.aload_n 0, 1) := by decide +kernel
theorem dX7_readsPillar_1 : decode cX7_readsPillar 1 = .ok (.getfield 49, 3) := by decide +kernel
theorem dX7_readsPillar_4 : decode cX7_readsPillar 4 = .ok (.bipush 12, 2) := by decide +kernel
theorem dX7_readsPillar_6 : decode cX7_readsPillar 6 = .ok (.if_icmp .ne 10, 3) := by decide +kernel
theorem dX7_readsPillar_9 : decode cX7_readsPillar 9 = .ok (.aload_n 0, 1) := by decide +kernel
theorem dX7_readsPillar_10 : decode cX7_readsPillar 10 = .ok (.iload_n 1, 1) := by decide +kernel
theorem dX7_readsPillar_11 : decode cX7_readsPillar 11 = .ok (.putfield 188, 3) := by decide +kernel
theorem dX7_readsPillar_14 : decode cX7_readsPillar 14 = .ok (.iconst 0, 1) := by decide +kernel
theorem dX7_readsPillar_15 : decode cX7_readsPillar 15 = .ok (.ireturn, 1) := by decide +kernel
theorem dX7_readsPillar_16 : decode cX7_readsPillar 16 = .ok (.aload_n 0, 1) := by decide +kernel
theorem dX7_readsPillar_17 : decode cX7_readsPillar 17 = .ok (.invokevirtual 203, 3) := by decide +kernel
theorem dX7_readsPillar_20 : decode cX7_readsPillar 20 = .ok (.ifCond .eq 13, 3) := by decide +kernel
theorem dX7_readsPillar_23 : decode cX7_readsPillar 23 = .ok (.aload_n 0, 1) := by decide +kernel
theorem dX7_readsPillar_24 : decode cX7_readsPillar 24 = .ok (.sipush 999, 3) := by decide +kernel
theorem dX7_readsPillar_27 : decode cX7_readsPillar 27 = .ok (.invokevirtual 197, 3) := by decide +kernel
theorem dX7_readsPillar_30 : decode cX7_readsPillar 30 = .ok (.ifCond .ne 5, 3) := by decide +kernel
theorem dX7_readsPillar_33 : decode cX7_readsPillar 33 = .ok (.iconst 0, 1) := by decide +kernel
theorem dX7_readsPillar_34 : decode cX7_readsPillar 34 = .ok (.ireturn, 1) := by decide +kernel
theorem dX7_readsPillar_35 : decode cX7_readsPillar 35 = .ok (.aload_n 0, 1) := by decide +kernel
theorem dX7_readsPillar_36 : decode cX7_readsPillar 36 = .ok (.getfield 194, 3) := by decide +kernel
theorem dX7_readsPillar_39 : decode cX7_readsPillar 39 = .ok (.istore_n 2, 1) := by decide +kernel
theorem dX7_readsPillar_40 : decode cX7_readsPillar 40 = .ok (.aload_n 0, 1) := by decide +kernel
theorem dX7_readsPillar_41 : decode cX7_readsPillar 41 = .ok (.invokevirtual 207, 3) := by decide +kernel
theorem dX7_readsPillar_44 : decode cX7_readsPillar 44 = .ok (.ifCond .ne 5, 3) := by decide +kernel
theorem dX7_readsPillar_47 : decode cX7_readsPillar 47 = .ok (.iconst 0, 1) := by decide +kernel
theorem dX7_readsPillar_48 : decode cX7_readsPillar 48 = .ok (.ireturn, 1) := by decide +kernel
theorem dX7_readsPillar_49 : decode cX7_readsPillar 49 = .ok (.aload_n 0, 1) := by decide +kernel
theorem dX7_readsPillar_50 : decode cX7_readsPillar 50 = .ok (.aload_n 0, 1) := by decide +kernel
theorem dX7_readsPillar_51 : decode cX7_readsPillar 51 = .ok (.getfield 200, 3) := by decide +kernel
theorem dX7_readsPillar_54 : decode cX7_readsPillar 54 = .ok (.invokevirtual 87, 3) := by decide +kernel
theorem dX7_readsPillar_57 : decode cX7_readsPillar 57 = .ok (.iconst (-1), 1) := by decide +kernel
theorem dX7_readsPillar_58 : decode cX7_readsPillar 58 = .ok (.if_icmp .eq 10, 3) := by decide +kernel
theorem dX7_readsPillar_61 : decode cX7_readsPillar 61 = .ok (.aload_n 0, 1) := by decide +kernel
theorem dX7_readsPillar_62 : decode cX7_readsPillar 62 = .ok (.iload_n 1, 1) := by decide +kernel
theorem dX7_readsPillar_63 : decode cX7_readsPillar 63 = .ok (.putfield 188, 3) := by decide +kernel
theorem dX7_readsPillar_66 : decode cX7_readsPillar 66 = .ok (.iconst 0, 1) := by decide +kernel
theorem dX7_readsPillar_67 : decode cX7_readsPillar 67 = .ok (.ireturn, 1) := by decide +kernel
theorem dX7_readsPillar_68 : decode cX7_readsPillar 68 = .ok (.aload_n 0, 1) := by decide +kernel
theorem dX7_readsPillar_69 : decode cX7_readsPillar 69 = .ok (.aload_n 0, 1) := by decide +kernel
theorem dX7_readsPillar_70 : decode cX7_readsPillar 70 = .ok (.getfield 200, 3) := by decide +kernel
theorem dX7_readsPillar_73 : decode cX7_readsPillar 73 = .ok (.iload_n 2, 1) := by decide +kernel
theorem dX7_readsPillar_74 : decode cX7_readsPillar 74 = .ok (.invokevirtual 97, 3) := by decide +kernel
theorem dX7_readsPillar_77 : decode cX7_readsPillar 77 = .ok (.iconst 1, 1) := by decide +kernel
theorem dX7_readsPillar_78 : decode cX7_readsPillar 78 = .ok (.ireturn, 1) := by decide +kernel
theorem dX7_readsWeight_0 : decode cX7_readsWeight 0 = .ok (.aload_n 0, 1) := by decide +kernel
theorem dX7_readsWeight_1 : decode cX7_readsWeight 1 = .ok (.invokevirtual 203, 3) := by decide +kernel
theorem dX7_readsWeight_4 : decode cX7_readsWeight 4 = .ok (.ifCond .eq 12, 3) := by decide +kernel
theorem dX7_readsWeight_7 : decode cX7_readsWeight 7 = .ok (.aload_n 0, 1) := by decide +kernel
theorem dX7_readsWeight_8 : decode cX7_readsWeight 8 = .ok (.bipush 9, 2) := by decide +kernel
theorem dX7_readsWeight_10 : decode cX7_readsWeight 10 = .ok (.invokevirtual 197, 3) := by decide +kernel
theorem dX7_readsWeight_13 : decode cX7_readsWeight 13 = .ok (.ifCond .ne 5, 3) := by decide +kernel
theorem dX7_readsWeight_16 : decode cX7_readsWeight 16 = .ok (.iconst 0, 1) := by decide +kernel
theorem dX7_readsWeight_17 : decode cX7_readsWeight 17 = .ok (.ireturn, 1) := by decide +kernel
theorem dX7_readsWeight_18 : decode cX7_readsWeight 18 = .ok (.aload_n 0, 1) := by decide +kernel
theorem dX7_readsWeight_19 : decode cX7_readsWeight 19 = .ok (.getfield 13, 3) := by decide +kernel
theorem dX7_readsWeight_22 : decode cX7_readsWeight 22 = .ok (.aload_n 0, 1) := by decide +kernel
theorem dX7_readsWeight_23 : decode cX7_readsWeight 23 = .ok (.getfield 200, 3) := by decide +kernel
theorem dX7_readsWeight_26 : decode cX7_readsWeight 26 = .ok (.aload_n 0, 1) := by decide +kernel
theorem dX7_readsWeight_27 : decode cX7_readsWeight 27 = .ok (.getfield 194, 3) := by decide +kernel
theorem dX7_readsWeight_30 : decode cX7_readsWeight 30 = .ok (.iastore, 1) := by decide +kernel
theorem dX7_readsWeight_31 : decode cX7_readsWeight 31 = .ok (.aload_n 0, 1) := by decide +kernel
theorem dX7_readsWeight_32 : decode cX7_readsWeight 32 = .ok (.invokevirtual 207, 3) := by decide +kernel
theorem dX7_readsWeight_35 : decode cX7_readsWeight 35 = .ok (.ireturn, 1) := by decide +kernel
theorem dX7_readsWall_0 : decode cX7_readsWall 0 = .ok (.aload_n 0, 1) := by decide +kernel
theorem dX7_readsWall_1 : decode cX7_readsWall 1 = .ok (.iload_n 2, 1) := by decide +kernel
theorem dX7_readsWall_2 : decode cX7_readsWall 2 = .ok (.invokevirtual 197, 3) := by decide +kernel
theorem dX7_readsWall_5 : decode cX7_readsWall 5 = .ok (.ifCond .ne 5, 3) := by decide +kernel
theorem dX7_readsWall_8 : decode cX7_readsWall 8 = .ok (.iconst 0, 1) := by decide +kernel
theorem dX7_readsWall_9 : decode cX7_readsWall 9 = .ok (.ireturn, 1) := by decide +kernel
theorem dX7_readsWall_10 : decode cX7_readsWall 10 = .ok (.aload_n 0, 1) := by decide +kernel
theorem dX7_readsWall_11 : decode cX7_readsWall 11 = .ok (.dup, 1) := by decide +kernel
theorem dX7_readsWall_12 : decode cX7_readsWall 12 = .ok (.getfield 56, 3) := by decide +kernel
theorem dX7_readsWall_15 : decode cX7_readsWall 15 = .ok (.iconst 1, 1) := by decide +kernel
theorem dX7_readsWall_16 : decode cX7_readsWall 16 = .ok (.iload_n 1, 1) := by decide +kernel
theorem dX7_readsWall_17 : decode cX7_readsWall 17 = .ok (.aload_n 0, 1) := by decide +kernel
theorem dX7_readsWall_18 : decode cX7_readsWall 18 = .ok (.getfield 194, 3) := by decide +kernel
theorem dX7_readsWall_21 : decode cX7_readsWall 21 = .ok (.iadd, 1) := by decide +kernel
theorem dX7_readsWall_22 : decode cX7_readsWall 22 = .ok (.ishl, 1) := by decide +kernel
theorem dX7_readsWall_23 : decode cX7_readsWall 23 = .ok (.ior, 1) := by decide +kernel
theorem dX7_readsWall_24 : decode cX7_readsWall 24 = .ok (.putfield 56, 3) := by decide +kernel
theorem dX7_readsWall_27 : decode cX7_readsWall 27 = .ok (.aload_n 0, 1) := by decide +kernel
theorem dX7_readsWall_28 : decode cX7_readsWall 28 = .ok (.invokevirtual 207, 3) := by decide +kernel
theorem dX7_readsWall_31 : decode cX7_readsWall 31 = .ok (.ireturn, 1) := by decide +kernel
theorem dX7_readsCrushed_0 : decode cX7_readsCrushed 0 = .ok (.aload_n 0, 1) := by decide +kernel
theorem dX7_readsCrushed_1 : decode cX7_readsCrushed 1 = .ok (.invokevirtual 191, 3) := by decide +kernel
theorem dX7_readsCrushed_4 : decode cX7_readsCrushed 4 = .ok (.istore_n 1, 1) := by decide +kernel
theorem dX7_readsCrushed_5 : decode cX7_readsCrushed 5 = .ok (.aload_n 0, 1) := by decide +kernel
theorem dX7_readsCrushed_6 : decode cX7_readsCrushed 6 = .ok (.getfield 188, 3) := by decide +kernel
theorem dX7_readsCrushed_9 : decode cX7_readsCrushed 9 = .ok (.istore_n 2, 1) := by decide +kernel
theorem dX7_readsCrushed_10 : decode cX7_readsCrushed 10 = .ok (.iload_n 1, 1) := by decide +kernel
theorem dX7_readsCrushed_11 : decode cX7_readsCrushed 11 = .ok (.iconst (-1), 1) := by decide +kernel
theorem dX7_readsCrushed_12 : decode cX7_readsCrushed 12 = .ok (.if_icmp .eq 13, 3) := by decide +kernel
theorem dX7_readsCrushed_15 : decode cX7_readsCrushed 15 = .ok (.aload_n 0, 1) := by decide +kernel
theorem dX7_readsCrushed_16 : decode cX7_readsCrushed 16 = .ok (.sipush 999, 3) := by decide +kernel
theorem dX7_readsCrushed_19 : decode cX7_readsCrushed 19 = .ok (.invokevirtual 197, 3) := by decide +kernel
theorem dX7_readsCrushed_22 : decode cX7_readsCrushed 22 = .ok (.ifCond .ne 5, 3) := by decide +kernel
theorem dX7_readsCrushed_25 : decode cX7_readsCrushed 25 = .ok (.iconst 0, 1) := by decide +kernel
theorem dX7_readsCrushed_26 : decode cX7_readsCrushed 26 = .ok (.ireturn, 1) := by decide +kernel
theorem dX7_readsCrushed_27 : decode cX7_readsCrushed 27 = .ok (.aload_n 0, 1) := by decide +kernel
theorem dX7_readsCrushed_28 : decode cX7_readsCrushed 28 = .ok (.aload_n 0, 1) := by decide +kernel
theorem dX7_readsCrushed_29 : decode cX7_readsCrushed 29 = .ok (.getfield 194, 3) := by decide +kernel
theorem dX7_readsCrushed_32 : decode cX7_readsCrushed 32 = .ok (.invokevirtual 110, 3) := by decide +kernel
theorem dX7_readsCrushed_35 : decode cX7_readsCrushed 35 = .ok (.ifCond .eq 14, 3) := by decide +kernel
theorem dX7_readsCrushed_38 : decode cX7_readsCrushed 38 = .ok (.aload_n 0, 1) := by decide +kernel
theorem dX7_readsCrushed_39 : decode cX7_readsCrushed 39 = .ok (.aload_n 0, 1) := by decide +kernel
theorem dX7_readsCrushed_40 : decode cX7_readsCrushed 40 = .ok (.getfield 194, 3) := by decide +kernel
theorem dX7_readsCrushed_43 : decode cX7_readsCrushed 43 = .ok (.invokevirtual 145, 3) := by decide +kernel
theorem dX7_readsCrushed_46 : decode cX7_readsCrushed 46 = .ok (.ifCond .ne 10, 3) := by decide +kernel
theorem dX7_readsCrushed_49 : decode cX7_readsCrushed 49 = .ok (.aload_n 0, 1) := by decide +kernel
theorem dX7_readsCrushed_50 : decode cX7_readsCrushed 50 = .ok (.iload_n 2, 1) := by decide +kernel
theorem dX7_readsCrushed_51 : decode cX7_readsCrushed 51 = .ok (.putfield 188, 3) := by decide +kernel
theorem dX7_readsCrushed_54 : decode cX7_readsCrushed 54 = .ok (.iconst 0, 1) := by decide +kernel
theorem dX7_readsCrushed_55 : decode cX7_readsCrushed 55 = .ok (.ireturn, 1) := by decide +kernel
theorem dX7_readsCrushed_56 : decode cX7_readsCrushed 56 = .ok (.aload_n 0, 1) := by decide +kernel
theorem dX7_readsCrushed_57 : decode cX7_readsCrushed 57 = .ok (.dup, 1) := by decide +kernel
theorem dX7_readsCrushed_58 : decode cX7_readsCrushed 58 = .ok (.getfield 53, 3) := by decide +kernel
theorem dX7_readsCrushed_61 : decode cX7_readsCrushed 61 = .ok (.iconst 1, 1) := by decide +kernel
theorem dX7_readsCrushed_62 : decode cX7_readsCrushed 62 = .ok (.aload_n 0, 1) := by decide +kernel
theorem dX7_readsCrushed_63 : decode cX7_readsCrushed 63 = .ok (.getfield 194, 3) := by decide +kernel
theorem dX7_readsCrushed_66 : decode cX7_readsCrushed 66 = .ok (.ishl, 1) := by decide +kernel
theorem dX7_readsCrushed_67 : decode cX7_readsCrushed 67 = .ok (.iconst (-1), 1) := by decide +kernel
theorem dX7_readsCrushed_68 : decode cX7_readsCrushed 68 = .ok (.ixor, 1) := by decide +kernel
theorem dX7_readsCrushed_69 : decode cX7_readsCrushed 69 = .ok (.iand, 1) := by decide +kernel
theorem dX7_readsCrushed_70 : decode cX7_readsCrushed 70 = .ok (.putfield 53, 3) := by decide +kernel
theorem dX7_readsCrushed_73 : decode cX7_readsCrushed 73 = .ok (.aload_n 0, 1) := by decide +kernel
theorem dX7_readsCrushed_74 : decode cX7_readsCrushed 74 = .ok (.invokevirtual 207, 3) := by decide +kernel
theorem dX7_readsCrushed_77 : decode cX7_readsCrushed 77 = .ok (.ireturn, 1) := by decide +kernel
theorem dX7_readsRun_0 : decode cX7_readsRun 0 = .ok (.aload_n 0, 1) := by decide +kernel
theorem dX7_readsRun_1 : decode cX7_readsRun 1 = .ok (.invokevirtual 207, 3) := by decide +kernel
theorem dX7_readsRun_4 : decode cX7_readsRun 4 = .ok (.ifCond .ne 5, 3) := by decide +kernel
theorem dX7_readsRun_7 : decode cX7_readsRun 7 = .ok (.iconst 0, 1) := by decide +kernel
theorem dX7_readsRun_8 : decode cX7_readsRun 8 = .ok (.ireturn, 1) := by decide +kernel
theorem dX7_readsRun_9 : decode cX7_readsRun 9 = .ok (.aload_n 0, 1) := by decide +kernel
theorem dX7_readsRun_10 : decode cX7_readsRun 10 = .ok (.invokevirtual 167, 3) := by decide +kernel
theorem dX7_readsRun_13 : decode cX7_readsRun 13 = .ok (.iconst 1, 1) := by decide +kernel
theorem dX7_readsRun_14 : decode cX7_readsRun 14 = .ok (.ireturn, 1) := by decide +kernel
theorem dX7_readsOrder_0 : decode cX7_readsOrder 0 = .ok (.aload_n 0, 1) := by decide +kernel
theorem dX7_readsOrder_1 : decode cX7_readsOrder 1 = .ok (.invokevirtual 191, 3) := by decide +kernel
theorem dX7_readsOrder_4 : decode cX7_readsOrder 4 = .ok (.istore_n 1, 1) := by decide +kernel
theorem dX7_readsOrder_5 : decode cX7_readsOrder 5 = .ok (.aload_n 0, 1) := by decide +kernel
theorem dX7_readsOrder_6 : decode cX7_readsOrder 6 = .ok (.getfield 188, 3) := by decide +kernel
theorem dX7_readsOrder_9 : decode cX7_readsOrder 9 = .ok (.istore_n 2, 1) := by decide +kernel
theorem dX7_readsOrder_10 : decode cX7_readsOrder 10 = .ok (.aload_n 0, 1) := by decide +kernel
theorem dX7_readsOrder_11 : decode cX7_readsOrder 11 = .ok (.dup, 1) := by decide +kernel
theorem dX7_readsOrder_12 : decode cX7_readsOrder 12 = .ok (.getfield 188, 3) := by decide +kernel
theorem dX7_readsOrder_15 : decode cX7_readsOrder 15 = .ok (.iconst 1, 1) := by decide +kernel
theorem dX7_readsOrder_16 : decode cX7_readsOrder 16 = .ok (.iadd, 1) := by decide +kernel
theorem dX7_readsOrder_17 : decode cX7_readsOrder 17 = .ok (.putfield 188, 3) := by decide +kernel
theorem dX7_readsOrder_20 : decode cX7_readsOrder 20 = .ok (.iload_n 1, 1) := by decide +kernel
theorem dX7_readsOrder_21 : decode cX7_readsOrder 21 = .ok (.lookupswitch 97 #[(33, 92), (45, 70), (47, 78), (112, 59), (119, 65), (120, 87)], 59) := by decide +kernel
theorem dX7_readsOrder_80 : decode cX7_readsOrder 80 = .ok (.aload_n 0, 1) := by decide +kernel
theorem dX7_readsOrder_81 : decode cX7_readsOrder 81 = .ok (.iload_n 2, 1) := by decide +kernel
theorem dX7_readsOrder_82 : decode cX7_readsOrder 82 = .ok (.invokevirtual 210, 3) := by decide +kernel
theorem dX7_readsOrder_85 : decode cX7_readsOrder 85 = .ok (.ireturn, 1) := by decide +kernel
theorem dX7_readsOrder_86 : decode cX7_readsOrder 86 = .ok (.aload_n 0, 1) := by decide +kernel
theorem dX7_readsOrder_87 : decode cX7_readsOrder 87 = .ok (.invokevirtual 213, 3) := by decide +kernel
theorem dX7_readsOrder_90 : decode cX7_readsOrder 90 = .ok (.ireturn, 1) := by decide +kernel
theorem dX7_readsOrder_91 : decode cX7_readsOrder 91 = .ok (.aload_n 0, 1) := by decide +kernel
theorem dX7_readsOrder_92 : decode cX7_readsOrder 92 = .ok (.iconst 0, 1) := by decide +kernel
theorem dX7_readsOrder_93 : decode cX7_readsOrder 93 = .ok (.bipush 6, 2) := by decide +kernel
theorem dX7_readsOrder_95 : decode cX7_readsOrder 95 = .ok (.invokevirtual 216, 3) := by decide +kernel
theorem dX7_readsOrder_98 : decode cX7_readsOrder 98 = .ok (.ireturn, 1) := by decide +kernel
theorem dX7_readsOrder_99 : decode cX7_readsOrder 99 = .ok (.aload_n 0, 1) := by decide +kernel
theorem dX7_readsOrder_100 : decode cX7_readsOrder 100 = .ok (.bipush 10, 2) := by decide +kernel
theorem dX7_readsOrder_102 : decode cX7_readsOrder 102 = .ok (.bipush 10, 2) := by decide +kernel
theorem dX7_readsOrder_104 : decode cX7_readsOrder 104 = .ok (.invokevirtual 216, 3) := by decide +kernel
theorem dX7_readsOrder_107 : decode cX7_readsOrder 107 = .ok (.ireturn, 1) := by decide +kernel
theorem dX7_readsOrder_108 : decode cX7_readsOrder 108 = .ok (.aload_n 0, 1) := by decide +kernel
theorem dX7_readsOrder_109 : decode cX7_readsOrder 109 = .ok (.invokevirtual 219, 3) := by decide +kernel
theorem dX7_readsOrder_112 : decode cX7_readsOrder 112 = .ok (.ireturn, 1) := by decide +kernel
theorem dX7_readsOrder_113 : decode cX7_readsOrder 113 = .ok (.aload_n 0, 1) := by decide +kernel
theorem dX7_readsOrder_114 : decode cX7_readsOrder 114 = .ok (.invokevirtual 222, 3) := by decide +kernel
theorem dX7_readsOrder_117 : decode cX7_readsOrder 117 = .ok (.ireturn, 1) := by decide +kernel
theorem dX7_readsOrder_118 : decode cX7_readsOrder 118 = .ok (.aload_n 0, 1) := by decide +kernel
theorem dX7_readsOrder_119 : decode cX7_readsOrder 119 = .ok (.iload_n 2, 1) := by decide +kernel
theorem dX7_readsOrder_120 : decode cX7_readsOrder 120 = .ok (.putfield 188, 3) := by decide +kernel
theorem dX7_readsOrder_123 : decode cX7_readsOrder 123 = .ok (.iconst 0, 1) := by decide +kernel
theorem dX7_readsOrder_124 : decode cX7_readsOrder 124 = .ok (.ireturn, 1) := by decide +kernel
theorem dX7_keepsAhead_0 : decode cX7_keepsAhead 0 = .ok (.aload_n 0, 1) := by decide +kernel
theorem dX7_keepsAhead_1 : decode cX7_keepsAhead 1 = .ok (.getfield 46, 3) := by decide +kernel
theorem dX7_keepsAhead_4 : decode cX7_keepsAhead 4 = .ok (.iconst 0, 1) := by decide +kernel
theorem dX7_keepsAhead_5 : decode cX7_keepsAhead 5 = .ok (.aload_n 0, 1) := by decide +kernel
theorem dX7_keepsAhead_6 : decode cX7_keepsAhead 6 = .ok (.getfield 49, 3) := by decide +kernel
theorem dX7_keepsAhead_9 : decode cX7_keepsAhead 9 = .ok (.iastore, 1) := by decide +kernel
theorem dX7_keepsAhead_10 : decode cX7_keepsAhead 10 = .ok (.aload_n 0, 1) := by decide +kernel
theorem dX7_keepsAhead_11 : decode cX7_keepsAhead 11 = .ok (.getfield 46, 3) := by decide +kernel
theorem dX7_keepsAhead_14 : decode cX7_keepsAhead 14 = .ok (.iconst 1, 1) := by decide +kernel
theorem dX7_keepsAhead_15 : decode cX7_keepsAhead 15 = .ok (.aload_n 0, 1) := by decide +kernel
theorem dX7_keepsAhead_16 : decode cX7_keepsAhead 16 = .ok (.getfield 53, 3) := by decide +kernel
theorem dX7_keepsAhead_19 : decode cX7_keepsAhead 19 = .ok (.iastore, 1) := by decide +kernel
theorem dX7_keepsAhead_20 : decode cX7_keepsAhead 20 = .ok (.aload_n 0, 1) := by decide +kernel
theorem dX7_keepsAhead_21 : decode cX7_keepsAhead 21 = .ok (.getfield 46, 3) := by decide +kernel
theorem dX7_keepsAhead_24 : decode cX7_keepsAhead 24 = .ok (.iconst 2, 1) := by decide +kernel
theorem dX7_keepsAhead_25 : decode cX7_keepsAhead 25 = .ok (.aload_n 0, 1) := by decide +kernel
theorem dX7_keepsAhead_26 : decode cX7_keepsAhead 26 = .ok (.getfield 56, 3) := by decide +kernel
theorem dX7_keepsAhead_29 : decode cX7_keepsAhead 29 = .ok (.iastore, 1) := by decide +kernel
theorem dX7_keepsAhead_30 : decode cX7_keepsAhead 30 = .ok (.iconst 0, 1) := by decide +kernel
theorem dX7_keepsAhead_31 : decode cX7_keepsAhead 31 = .ok (.istore_n 1, 1) := by decide +kernel
theorem dX7_keepsAhead_32 : decode cX7_keepsAhead 32 = .ok (.iload_n 1, 1) := by decide +kernel
theorem dX7_keepsAhead_33 : decode cX7_keepsAhead 33 = .ok (.bipush 12, 2) := by decide +kernel
theorem dX7_keepsAhead_35 : decode cX7_keepsAhead 35 = .ok (.if_icmp .ge 38, 3) := by decide +kernel
theorem dX7_keepsAhead_38 : decode cX7_keepsAhead 38 = .ok (.aload_n 0, 1) := by decide +kernel
theorem dX7_keepsAhead_39 : decode cX7_keepsAhead 39 = .ok (.getfield 46, 3) := by decide +kernel
theorem dX7_keepsAhead_42 : decode cX7_keepsAhead 42 = .ok (.iconst 4, 1) := by decide +kernel
theorem dX7_keepsAhead_43 : decode cX7_keepsAhead 43 = .ok (.iload_n 1, 1) := by decide +kernel
theorem dX7_keepsAhead_44 : decode cX7_keepsAhead 44 = .ok (.iadd, 1) := by decide +kernel
theorem dX7_keepsAhead_45 : decode cX7_keepsAhead 45 = .ok (.aload_n 0, 1) := by decide +kernel
theorem dX7_keepsAhead_46 : decode cX7_keepsAhead 46 = .ok (.getfield 16, 3) := by decide +kernel
theorem dX7_keepsAhead_49 : decode cX7_keepsAhead 49 = .ok (.iload_n 1, 1) := by decide +kernel
theorem dX7_keepsAhead_50 : decode cX7_keepsAhead 50 = .ok (.iaload, 1) := by decide +kernel
theorem dX7_keepsAhead_51 : decode cX7_keepsAhead 51 = .ok (.iastore, 1) := by decide +kernel
theorem dX7_keepsAhead_52 : decode cX7_keepsAhead 52 = .ok (.aload_n 0, 1) := by decide +kernel
theorem dX7_keepsAhead_53 : decode cX7_keepsAhead 53 = .ok (.getfield 46, 3) := by decide +kernel
theorem dX7_keepsAhead_56 : decode cX7_keepsAhead 56 = .ok (.bipush 16, 2) := by decide +kernel
theorem dX7_keepsAhead_58 : decode cX7_keepsAhead 58 = .ok (.iload_n 1, 1) := by decide +kernel
theorem dX7_keepsAhead_59 : decode cX7_keepsAhead 59 = .ok (.iadd, 1) := by decide +kernel
theorem dX7_keepsAhead_60 : decode cX7_keepsAhead 60 = .ok (.aload_n 0, 1) := by decide +kernel
theorem dX7_keepsAhead_61 : decode cX7_keepsAhead 61 = .ok (.getfield 19, 3) := by decide +kernel
theorem dX7_keepsAhead_64 : decode cX7_keepsAhead 64 = .ok (.iload_n 1, 1) := by decide +kernel
theorem dX7_keepsAhead_65 : decode cX7_keepsAhead 65 = .ok (.iaload, 1) := by decide +kernel
theorem dX7_keepsAhead_66 : decode cX7_keepsAhead 66 = .ok (.iastore, 1) := by decide +kernel
theorem dX7_keepsAhead_67 : decode cX7_keepsAhead 67 = .ok (.iinc 1 1, 3) := by decide +kernel
theorem dX7_keepsAhead_70 : decode cX7_keepsAhead 70 = .ok (.goto (-38), 3) := by decide +kernel
theorem dX7_keepsAhead_73 : decode cX7_keepsAhead 73 = .ok (.iconst 0, 1) := by decide +kernel
theorem dX7_keepsAhead_74 : decode cX7_keepsAhead 74 = .ok (.istore_n 1, 1) := by decide +kernel
theorem dX7_keepsAhead_75 : decode cX7_keepsAhead 75 = .ok (.iload_n 1, 1) := by decide +kernel
theorem dX7_keepsAhead_76 : decode cX7_keepsAhead 76 = .ok (.bipush 96, 2) := by decide +kernel
theorem dX7_keepsAhead_78 : decode cX7_keepsAhead 78 = .ok (.if_icmp .ge 24, 3) := by decide +kernel
theorem dX7_keepsAhead_81 : decode cX7_keepsAhead 81 = .ok (.aload_n 0, 1) := by decide +kernel
theorem dX7_keepsAhead_82 : decode cX7_keepsAhead 82 = .ok (.getfield 46, 3) := by decide +kernel
theorem dX7_keepsAhead_85 : decode cX7_keepsAhead 85 = .ok (.bipush 28, 2) := by decide +kernel
theorem dX7_keepsAhead_87 : decode cX7_keepsAhead 87 = .ok (.iload_n 1, 1) := by decide +kernel
theorem dX7_keepsAhead_88 : decode cX7_keepsAhead 88 = .ok (.iadd, 1) := by decide +kernel
theorem dX7_keepsAhead_89 : decode cX7_keepsAhead 89 = .ok (.aload_n 0, 1) := by decide +kernel
theorem dX7_keepsAhead_90 : decode cX7_keepsAhead 90 = .ok (.getfield 13, 3) := by decide +kernel
theorem dX7_keepsAhead_93 : decode cX7_keepsAhead 93 = .ok (.iload_n 1, 1) := by decide +kernel
theorem dX7_keepsAhead_94 : decode cX7_keepsAhead 94 = .ok (.iaload, 1) := by decide +kernel
theorem dX7_keepsAhead_95 : decode cX7_keepsAhead 95 = .ok (.iastore, 1) := by decide +kernel
theorem dX7_keepsAhead_96 : decode cX7_keepsAhead 96 = .ok (.iinc 1 1, 3) := by decide +kernel
theorem dX7_keepsAhead_99 : decode cX7_keepsAhead 99 = .ok (.goto (-24), 3) := by decide +kernel
theorem dX7_keepsAhead_102 : decode cX7_keepsAhead 102 = .ok (.aload_n 0, 1) := by decide +kernel
theorem dX7_keepsAhead_103 : decode cX7_keepsAhead 103 = .ok (.aload_n 0, 1) := by decide +kernel
theorem dX7_keepsAhead_104 : decode cX7_keepsAhead 104 = .ok (.getfield 139, 3) := by decide +kernel
theorem dX7_keepsAhead_107 : decode cX7_keepsAhead 107 = .ok (.putfield 225, 3) := by decide +kernel
theorem dX7_keepsAhead_110 : decode cX7_keepsAhead 110 = .ok (.iconst 0, 1) := by decide +kernel
theorem dX7_keepsAhead_111 : decode cX7_keepsAhead 111 = .ok (.istore_n 1, 1) := by decide +kernel
theorem dX7_keepsAhead_112 : decode cX7_keepsAhead 112 = .ok (.iload_n 1, 1) := by decide +kernel
theorem dX7_keepsAhead_113 : decode cX7_keepsAhead 113 = .ok (.bipush 13, 2) := by decide +kernel
theorem dX7_keepsAhead_115 : decode cX7_keepsAhead 115 = .ok (.if_icmp .ge 21, 3) := by decide +kernel
theorem dX7_keepsAhead_118 : decode cX7_keepsAhead 118 = .ok (.aload_n 0, 1) := by decide +kernel
theorem dX7_keepsAhead_119 : decode cX7_keepsAhead 119 = .ok (.getfield 43, 3) := by decide +kernel
theorem dX7_keepsAhead_122 : decode cX7_keepsAhead 122 = .ok (.iload_n 1, 1) := by decide +kernel
theorem dX7_keepsAhead_123 : decode cX7_keepsAhead 123 = .ok (.aload_n 0, 1) := by decide +kernel
theorem dX7_keepsAhead_124 : decode cX7_keepsAhead 124 = .ok (.getfield 37, 3) := by decide +kernel
theorem dX7_keepsAhead_127 : decode cX7_keepsAhead 127 = .ok (.iload_n 1, 1) := by decide +kernel
theorem dX7_keepsAhead_128 : decode cX7_keepsAhead 128 = .ok (.iaload, 1) := by decide +kernel
theorem dX7_keepsAhead_129 : decode cX7_keepsAhead 129 = .ok (.iastore, 1) := by decide +kernel
theorem dX7_keepsAhead_130 : decode cX7_keepsAhead 130 = .ok (.iinc 1 1, 3) := by decide +kernel
theorem dX7_keepsAhead_133 : decode cX7_keepsAhead 133 = .ok (.goto (-21), 3) := by decide +kernel
theorem dX7_keepsAhead_136 : decode cX7_keepsAhead 136 = .ok (.return_, 1) := by decide +kernel
theorem dX7_asAhead_0 : decode cX7_asAhead 0 = .ok (.aload_n 0, 1) := by decide +kernel
theorem dX7_asAhead_1 : decode cX7_asAhead 1 = .ok (.aload_n 0, 1) := by decide +kernel
theorem dX7_asAhead_2 : decode cX7_asAhead 2 = .ok (.getfield 46, 3) := by decide +kernel
theorem dX7_asAhead_5 : decode cX7_asAhead 5 = .ok (.iconst 0, 1) := by decide +kernel
theorem dX7_asAhead_6 : decode cX7_asAhead 6 = .ok (.iaload, 1) := by decide +kernel
theorem dX7_asAhead_7 : decode cX7_asAhead 7 = .ok (.putfield 49, 3) := by decide +kernel
theorem dX7_asAhead_10 : decode cX7_asAhead 10 = .ok (.aload_n 0, 1) := by decide +kernel
theorem dX7_asAhead_11 : decode cX7_asAhead 11 = .ok (.aload_n 0, 1) := by decide +kernel
theorem dX7_asAhead_12 : decode cX7_asAhead 12 = .ok (.getfield 46, 3) := by decide +kernel
theorem dX7_asAhead_15 : decode cX7_asAhead 15 = .ok (.iconst 1, 1) := by decide +kernel
theorem dX7_asAhead_16 : decode cX7_asAhead 16 = .ok (.iaload, 1) := by decide +kernel
theorem dX7_asAhead_17 : decode cX7_asAhead 17 = .ok (.putfield 53, 3) := by decide +kernel
theorem dX7_asAhead_20 : decode cX7_asAhead 20 = .ok (.aload_n 0, 1) := by decide +kernel
theorem dX7_asAhead_21 : decode cX7_asAhead 21 = .ok (.aload_n 0, 1) := by decide +kernel
theorem dX7_asAhead_22 : decode cX7_asAhead 22 = .ok (.getfield 46, 3) := by decide +kernel
theorem dX7_asAhead_25 : decode cX7_asAhead 25 = .ok (.iconst 2, 1) := by decide +kernel
theorem dX7_asAhead_26 : decode cX7_asAhead 26 = .ok (.iaload, 1) := by decide +kernel
theorem dX7_asAhead_27 : decode cX7_asAhead 27 = .ok (.putfield 56, 3) := by decide +kernel
theorem dX7_asAhead_30 : decode cX7_asAhead 30 = .ok (.iconst 0, 1) := by decide +kernel
theorem dX7_asAhead_31 : decode cX7_asAhead 31 = .ok (.istore_n 1, 1) := by decide +kernel
theorem dX7_asAhead_32 : decode cX7_asAhead 32 = .ok (.iload_n 1, 1) := by decide +kernel
theorem dX7_asAhead_33 : decode cX7_asAhead 33 = .ok (.bipush 12, 2) := by decide +kernel
theorem dX7_asAhead_35 : decode cX7_asAhead 35 = .ok (.if_icmp .ge 38, 3) := by decide +kernel
theorem dX7_asAhead_38 : decode cX7_asAhead 38 = .ok (.aload_n 0, 1) := by decide +kernel
theorem dX7_asAhead_39 : decode cX7_asAhead 39 = .ok (.getfield 16, 3) := by decide +kernel
theorem dX7_asAhead_42 : decode cX7_asAhead 42 = .ok (.iload_n 1, 1) := by decide +kernel
theorem dX7_asAhead_43 : decode cX7_asAhead 43 = .ok (.aload_n 0, 1) := by decide +kernel
theorem dX7_asAhead_44 : decode cX7_asAhead 44 = .ok (.getfield 46, 3) := by decide +kernel
theorem dX7_asAhead_47 : decode cX7_asAhead 47 = .ok (.iconst 4, 1) := by decide +kernel
theorem dX7_asAhead_48 : decode cX7_asAhead 48 = .ok (.iload_n 1, 1) := by decide +kernel
theorem dX7_asAhead_49 : decode cX7_asAhead 49 = .ok (.iadd, 1) := by decide +kernel
theorem dX7_asAhead_50 : decode cX7_asAhead 50 = .ok (.iaload, 1) := by decide +kernel
theorem dX7_asAhead_51 : decode cX7_asAhead 51 = .ok (.iastore, 1) := by decide +kernel
theorem dX7_asAhead_52 : decode cX7_asAhead 52 = .ok (.aload_n 0, 1) := by decide +kernel
theorem dX7_asAhead_53 : decode cX7_asAhead 53 = .ok (.getfield 19, 3) := by decide +kernel
theorem dX7_asAhead_56 : decode cX7_asAhead 56 = .ok (.iload_n 1, 1) := by decide +kernel
theorem dX7_asAhead_57 : decode cX7_asAhead 57 = .ok (.aload_n 0, 1) := by decide +kernel
theorem dX7_asAhead_58 : decode cX7_asAhead 58 = .ok (.getfield 46, 3) := by decide +kernel
theorem dX7_asAhead_61 : decode cX7_asAhead 61 = .ok (.bipush 16, 2) := by decide +kernel
theorem dX7_asAhead_63 : decode cX7_asAhead 63 = .ok (.iload_n 1, 1) := by decide +kernel
theorem dX7_asAhead_64 : decode cX7_asAhead 64 = .ok (.iadd, 1) := by decide +kernel
theorem dX7_asAhead_65 : decode cX7_asAhead 65 = .ok (.iaload, 1) := by decide +kernel
theorem dX7_asAhead_66 : decode cX7_asAhead 66 = .ok (.iastore, 1) := by decide +kernel
theorem dX7_asAhead_67 : decode cX7_asAhead 67 = .ok (.iinc 1 1, 3) := by decide +kernel
theorem dX7_asAhead_70 : decode cX7_asAhead 70 = .ok (.goto (-38), 3) := by decide +kernel
theorem dX7_asAhead_73 : decode cX7_asAhead 73 = .ok (.iconst 0, 1) := by decide +kernel
theorem dX7_asAhead_74 : decode cX7_asAhead 74 = .ok (.istore_n 1, 1) := by decide +kernel
theorem dX7_asAhead_75 : decode cX7_asAhead 75 = .ok (.iload_n 1, 1) := by decide +kernel
theorem dX7_asAhead_76 : decode cX7_asAhead 76 = .ok (.bipush 96, 2) := by decide +kernel
theorem dX7_asAhead_78 : decode cX7_asAhead 78 = .ok (.if_icmp .ge 24, 3) := by decide +kernel
theorem dX7_asAhead_81 : decode cX7_asAhead 81 = .ok (.aload_n 0, 1) := by decide +kernel
theorem dX7_asAhead_82 : decode cX7_asAhead 82 = .ok (.getfield 13, 3) := by decide +kernel
theorem dX7_asAhead_85 : decode cX7_asAhead 85 = .ok (.iload_n 1, 1) := by decide +kernel
theorem dX7_asAhead_86 : decode cX7_asAhead 86 = .ok (.aload_n 0, 1) := by decide +kernel
theorem dX7_asAhead_87 : decode cX7_asAhead 87 = .ok (.getfield 46, 3) := by decide +kernel
theorem dX7_asAhead_90 : decode cX7_asAhead 90 = .ok (.bipush 28, 2) := by decide +kernel
theorem dX7_asAhead_92 : decode cX7_asAhead 92 = .ok (.iload_n 1, 1) := by decide +kernel
theorem dX7_asAhead_93 : decode cX7_asAhead 93 = .ok (.iadd, 1) := by decide +kernel
theorem dX7_asAhead_94 : decode cX7_asAhead 94 = .ok (.iaload, 1) := by decide +kernel
theorem dX7_asAhead_95 : decode cX7_asAhead 95 = .ok (.iastore, 1) := by decide +kernel
theorem dX7_asAhead_96 : decode cX7_asAhead 96 = .ok (.iinc 1 1, 3) := by decide +kernel
theorem dX7_asAhead_99 : decode cX7_asAhead 99 = .ok (.goto (-24), 3) := by decide +kernel
theorem dX7_asAhead_102 : decode cX7_asAhead 102 = .ok (.return_, 1) := by decide +kernel
theorem dX7_does_0 : decode cX7_does 0 = .ok (.aload_n 0, 1) := by decide +kernel
theorem dX7_does_1 : decode cX7_does 1 = .ok (.iconst 0, 1) := by decide +kernel
theorem dX7_does_2 : decode cX7_does 2 = .ok (.putfield 188, 3) := by decide +kernel
theorem dX7_does_5 : decode cX7_does 5 = .ok (.aload_n 0, 1) := by decide +kernel
theorem dX7_does_6 : decode cX7_does 6 = .ok (.invokevirtual 191, 3) := by decide +kernel
theorem dX7_does_9 : decode cX7_does 9 = .ok (.iconst (-1), 1) := by decide +kernel
theorem dX7_does_10 : decode cX7_does 10 = .ok (.if_icmp .ne 11, 3) := by decide +kernel
theorem dX7_does_13 : decode cX7_does 13 = .ok (.bipush (-10), 2) := by decide +kernel
theorem dX7_does_15 : decode cX7_does 15 = .ok (.aload_n 0, 1) := by decide +kernel
theorem dX7_does_16 : decode cX7_does 16 = .ok (.getfield 185, 3) := by decide +kernel
theorem dX7_does_19 : decode cX7_does 19 = .ok (.isub, 1) := by decide +kernel
theorem dX7_does_20 : decode cX7_does 20 = .ok (.ireturn, 1) := by decide +kernel
theorem dX7_does_21 : decode cX7_does 21 = .ok (.aload_n 0, 1) := by decide +kernel
theorem dX7_does_22 : decode cX7_does 22 = .ok (.invokevirtual 228, 3) := by decide +kernel
theorem dX7_does_25 : decode cX7_does 25 = .ok (.iconst 1, 1) := by decide +kernel
theorem dX7_does_26 : decode cX7_does 26 = .ok (.istore_n 1, 1) := by decide +kernel
theorem dX7_does_27 : decode cX7_does 27 = .ok (.iload_n 1, 1) := by decide +kernel
theorem dX7_does_28 : decode cX7_does 28 = .ok (.ifCond .eq 19, 3) := by decide +kernel
theorem dX7_does_31 : decode cX7_does 31 = .ok (.aload_n 0, 1) := by decide +kernel
theorem dX7_does_32 : decode cX7_does 32 = .ok (.invokevirtual 191, 3) := by decide +kernel
theorem dX7_does_35 : decode cX7_does 35 = .ok (.iconst (-1), 1) := by decide +kernel
theorem dX7_does_36 : decode cX7_does 36 = .ok (.if_icmp .eq 11, 3) := by decide +kernel
theorem dX7_does_39 : decode cX7_does 39 = .ok (.aload_n 0, 1) := by decide +kernel
theorem dX7_does_40 : decode cX7_does 40 = .ok (.invokevirtual 231, 3) := by decide +kernel
theorem dX7_does_43 : decode cX7_does 43 = .ok (.istore_n 1, 1) := by decide +kernel
theorem dX7_does_44 : decode cX7_does 44 = .ok (.goto (-17), 3) := by decide +kernel
theorem dX7_does_47 : decode cX7_does 47 = .ok (.iload_n 1, 1) := by decide +kernel
theorem dX7_does_48 : decode cX7_does 48 = .ok (.ifCond .ne 49, 3) := by decide +kernel
theorem dX7_does_51 : decode cX7_does 51 = .ok (.aload_n 0, 1) := by decide +kernel
theorem dX7_does_52 : decode cX7_does 52 = .ok (.invokevirtual 234, 3) := by decide +kernel
theorem dX7_does_55 : decode cX7_does 55 = .ok (.aload_n 0, 1) := by decide +kernel
theorem dX7_does_56 : decode cX7_does 56 = .ok (.aload_n 0, 1) := by decide +kernel
theorem dX7_does_57 : decode cX7_does 57 = .ok (.getfield 225, 3) := by decide +kernel
theorem dX7_does_60 : decode cX7_does 60 = .ok (.putfield 139, 3) := by decide +kernel
theorem dX7_does_63 : decode cX7_does 63 = .ok (.iconst 0, 1) := by decide +kernel
theorem dX7_does_64 : decode cX7_does 64 = .ok (.istore_n 2, 1) := by decide +kernel
theorem dX7_does_65 : decode cX7_does 65 = .ok (.iload_n 2, 1) := by decide +kernel
theorem dX7_does_66 : decode cX7_does 66 = .ok (.bipush 13, 2) := by decide +kernel
theorem dX7_does_68 : decode cX7_does 68 = .ok (.if_icmp .ge 21, 3) := by decide +kernel
theorem dX7_does_71 : decode cX7_does 71 = .ok (.aload_n 0, 1) := by decide +kernel
theorem dX7_does_72 : decode cX7_does 72 = .ok (.getfield 37, 3) := by decide +kernel
theorem dX7_does_75 : decode cX7_does 75 = .ok (.iload_n 2, 1) := by decide +kernel
theorem dX7_does_76 : decode cX7_does 76 = .ok (.aload_n 0, 1) := by decide +kernel
theorem dX7_does_77 : decode cX7_does 77 = .ok (.getfield 43, 3) := by decide +kernel
theorem dX7_does_80 : decode cX7_does 80 = .ok (.iload_n 2, 1) := by decide +kernel
theorem dX7_does_81 : decode cX7_does 81 = .ok (.iaload, 1) := by decide +kernel
theorem dX7_does_82 : decode cX7_does 82 = .ok (.iastore, 1) := by decide +kernel
theorem dX7_does_83 : decode cX7_does 83 = .ok (.iinc 2 1, 3) := by decide +kernel
theorem dX7_does_86 : decode cX7_does 86 = .ok (.goto (-21), 3) := by decide +kernel
theorem dX7_does_89 : decode cX7_does 89 = .ok (.bipush (-10), 2) := by decide +kernel
theorem dX7_does_91 : decode cX7_does 91 = .ok (.aload_n 0, 1) := by decide +kernel
theorem dX7_does_92 : decode cX7_does 92 = .ok (.getfield 188, 3) := by decide +kernel
theorem dX7_does_95 : decode cX7_does 95 = .ok (.isub, 1) := by decide +kernel
theorem dX7_does_96 : decode cX7_does 96 = .ok (.ireturn, 1) := by decide +kernel
theorem dX7_does_97 : decode cX7_does 97 = .ok (.aload_n 0, 1) := by decide +kernel
theorem dX7_does_98 : decode cX7_does 98 = .ok (.invokevirtual 237, 3) := by decide +kernel
theorem dX7_does_101 : decode cX7_does 101 = .ok (.aload_n 0, 1) := by decide +kernel
theorem dX7_does_102 : decode cX7_does 102 = .ok (.getfield 53, 3) := by decide +kernel
theorem dX7_does_105 : decode cX7_does 105 = .ok (.invokestatic 117, 3) := by decide +kernel
theorem dX7_does_108 : decode cX7_does 108 = .ok (.ireturn, 1) := by decide +kernel
theorem dX7_leavesAhead_0 : decode cX7_leavesAhead 0 = .ok (.aload_n 0, 1) := by decide +kernel
theorem dX7_leavesAhead_1 : decode cX7_leavesAhead 1 = .ok (.invokevirtual 94, 3) := by decide +kernel
theorem dX7_leavesAhead_4 : decode cX7_leavesAhead 4 = .ok (.iconst 0, 1) := by decide +kernel
theorem dX7_leavesAhead_5 : decode cX7_leavesAhead 5 = .ok (.istore_n 1, 1) := by decide +kernel
theorem dX7_leavesAhead_6 : decode cX7_leavesAhead 6 = .ok (.iload_n 1, 1) := by decide +kernel
theorem dX7_leavesAhead_7 : decode cX7_leavesAhead 7 = .ok (.sipush 140, 3) := by decide +kernel
theorem dX7_leavesAhead_10 : decode cX7_leavesAhead 10 = .ok (.if_icmp .ge 32, 3) := by decide +kernel
theorem dX7_leavesAhead_13 : decode cX7_leavesAhead 13 = .ok (.aload_n 0, 1) := by decide +kernel
theorem dX7_leavesAhead_14 : decode cX7_leavesAhead 14 = .ok (.getfield 22, 3) := by decide +kernel
theorem dX7_leavesAhead_17 : decode cX7_leavesAhead 17 = .ok (.sipush 140, 3) := by decide +kernel
theorem dX7_leavesAhead_20 : decode cX7_leavesAhead 20 = .ok (.aload_n 0, 1) := by decide +kernel
theorem dX7_leavesAhead_21 : decode cX7_leavesAhead 21 = .ok (.getfield 59, 3) := by decide +kernel
theorem dX7_leavesAhead_24 : decode cX7_leavesAhead 24 = .ok (.iconst 1, 1) := by decide +kernel
theorem dX7_leavesAhead_25 : decode cX7_leavesAhead 25 = .ok (.isub, 1) := by decide +kernel
theorem dX7_leavesAhead_26 : decode cX7_leavesAhead 26 = .ok (.imul, 1) := by decide +kernel
theorem dX7_leavesAhead_27 : decode cX7_leavesAhead 27 = .ok (.iload_n 1, 1) := by decide +kernel
theorem dX7_leavesAhead_28 : decode cX7_leavesAhead 28 = .ok (.iadd, 1) := by decide +kernel
theorem dX7_leavesAhead_29 : decode cX7_leavesAhead 29 = .ok (.aload_n 0, 1) := by decide +kernel
theorem dX7_leavesAhead_30 : decode cX7_leavesAhead 30 = .ok (.getfield 46, 3) := by decide +kernel
theorem dX7_leavesAhead_33 : decode cX7_leavesAhead 33 = .ok (.iload_n 1, 1) := by decide +kernel
theorem dX7_leavesAhead_34 : decode cX7_leavesAhead 34 = .ok (.iaload, 1) := by decide +kernel
theorem dX7_leavesAhead_35 : decode cX7_leavesAhead 35 = .ok (.iastore, 1) := by decide +kernel
theorem dX7_leavesAhead_36 : decode cX7_leavesAhead 36 = .ok (.iinc 1 1, 3) := by decide +kernel
theorem dX7_leavesAhead_39 : decode cX7_leavesAhead 39 = .ok (.goto (-33), 3) := by decide +kernel
theorem dX7_leavesAhead_42 : decode cX7_leavesAhead 42 = .ok (.return_, 1) := by decide +kernel
theorem dX7_toldBy_0 : decode cX7_toldBy 0 = .ok (.iload_n 1, 1) := by decide +kernel
theorem dX7_toldBy_1 : decode cX7_toldBy 1 = .ok (.iconst 3, 1) := by decide +kernel
theorem dX7_toldBy_2 : decode cX7_toldBy 2 = .ok (.if_icmp .ge 12, 3) := by decide +kernel
theorem dX7_toldBy_5 : decode cX7_toldBy 5 = .ok (.aload_n 0, 1) := by decide +kernel
theorem dX7_toldBy_6 : decode cX7_toldBy 6 = .ok (.getfield 7, 3) := by decide +kernel
theorem dX7_toldBy_9 : decode cX7_toldBy 9 = .ok (.iload_n 1, 1) := by decide +kernel
theorem dX7_toldBy_10 : decode cX7_toldBy 10 = .ok (.iaload, 1) := by decide +kernel
theorem dX7_toldBy_11 : decode cX7_toldBy 11 = .ok (.goto 43, 3) := by decide +kernel
theorem dX7_toldBy_14 : decode cX7_toldBy 14 = .ok (.iload_n 1, 1) := by decide +kernel
theorem dX7_toldBy_15 : decode cX7_toldBy 15 = .ok (.iconst 3, 1) := by decide +kernel
theorem dX7_toldBy_16 : decode cX7_toldBy 16 = .ok (.if_icmp .ne 10, 3) := by decide +kernel
theorem dX7_toldBy_19 : decode cX7_toldBy 19 = .ok (.aload_n 0, 1) := by decide +kernel
theorem dX7_toldBy_20 : decode cX7_toldBy 20 = .ok (.getfield 185, 3) := by decide +kernel
theorem dX7_toldBy_23 : decode cX7_toldBy 23 = .ok (.goto 31, 3) := by decide +kernel
theorem dX7_toldBy_26 : decode cX7_toldBy 26 = .ok (.iload_n 1, 1) := by decide +kernel
theorem dX7_toldBy_27 : decode cX7_toldBy 27 = .ok (.iconst 4, 1) := by decide +kernel
theorem dX7_toldBy_28 : decode cX7_toldBy 28 = .ok (.if_icmp .ne 22, 3) := by decide +kernel
theorem dX7_toldBy_31 : decode cX7_toldBy 31 = .ok (.aload_n 0, 1) := by decide +kernel
theorem dX7_toldBy_32 : decode cX7_toldBy 32 = .ok (.iconst 0, 1) := by decide +kernel
theorem dX7_toldBy_33 : decode cX7_toldBy 33 = .ok (.bipush 7, 2) := by decide +kernel
theorem dX7_toldBy_35 : decode cX7_toldBy 35 = .ok (.invokevirtual 120, 3) := by decide +kernel
theorem dX7_toldBy_38 : decode cX7_toldBy 38 = .ok (.aload_n 0, 1) := by decide +kernel
theorem dX7_toldBy_39 : decode cX7_toldBy 39 = .ok (.bipush 10, 2) := by decide +kernel
theorem dX7_toldBy_41 : decode cX7_toldBy 41 = .ok (.bipush 11, 2) := by decide +kernel
theorem dX7_toldBy_43 : decode cX7_toldBy 43 = .ok (.invokevirtual 120, 3) := by decide +kernel
theorem dX7_toldBy_46 : decode cX7_toldBy 46 = .ok (.iadd, 1) := by decide +kernel
theorem dX7_toldBy_47 : decode cX7_toldBy 47 = .ok (.goto 7, 3) := by decide +kernel
theorem dX7_toldBy_50 : decode cX7_toldBy 50 = .ok (.aload_n 0, 1) := by decide +kernel
theorem dX7_toldBy_51 : decode cX7_toldBy 51 = .ok (.getfield 59, 3) := by decide +kernel
theorem dX7_toldBy_54 : decode cX7_toldBy 54 = .ok (.ireturn, 1) := by decide +kernel
theorem dX7_told_0 : decode cX7_told 0 = .ok (.iload_n 1, 1) := by decide +kernel
theorem dX7_told_1 : decode cX7_told 1 = .ok (.iconst 0, 1) := by decide +kernel
theorem dX7_told_2 : decode cX7_told 2 = .ok (.iconst 5, 1) := by decide +kernel
theorem dX7_told_3 : decode cX7_told 3 = .ok (.invokestatic 76, 3) := by decide +kernel
theorem dX7_told_6 : decode cX7_told 6 = .ok (.ifCond .eq 11, 3) := by decide +kernel
theorem dX7_told_9 : decode cX7_told 9 = .ok (.aload_n 0, 1) := by decide +kernel
theorem dX7_told_10 : decode cX7_told 10 = .ok (.iload_n 1, 1) := by decide +kernel
theorem dX7_told_11 : decode cX7_told 11 = .ok (.invokevirtual 240, 3) := by decide +kernel
theorem dX7_told_14 : decode cX7_told 14 = .ok (.goto 7, 3) := by decide +kernel
theorem dX7_told_17 : decode cX7_told 17 = .ok (.aload_n 0, 1) := by decide +kernel
theorem dX7_told_18 : decode cX7_told 18 = .ok (.invokevirtual 84, 3) := by decide +kernel
theorem dX7_told_21 : decode cX7_told 21 = .ok (.ireturn, 1) := by decide +kernel
theorem dX7_digest_0 : decode cX7_digest 0 = .ok (.ldc2_w 243, 3) := by decide +kernel
theorem dX7_digest_3 : decode cX7_digest 3 = .ok (.lstore_n 1, 1) := by decide +kernel
theorem dX7_digest_4 : decode cX7_digest 4 = .ok (.iconst 0, 1) := by decide +kernel
theorem dX7_digest_5 : decode cX7_digest 5 = .ok (.istore_n 3, 1) := by decide +kernel
theorem dX7_digest_6 : decode cX7_digest 6 = .ok (.iload_n 3, 1) := by decide +kernel
theorem dX7_digest_7 : decode cX7_digest 7 = .ok (.bipush 6, 2) := by decide +kernel
theorem dX7_digest_9 : decode cX7_digest 9 = .ok (.if_icmp .ge 22, 3) := by decide +kernel
theorem dX7_digest_12 : decode cX7_digest 12 = .ok (.ldc2_w 245, 3) := by decide +kernel
theorem dX7_digest_15 : decode cX7_digest 15 = .ok (.lload_n 1, 1) := by decide +kernel
theorem dX7_digest_16 : decode cX7_digest 16 = .ok (.lmul, 1) := by decide +kernel
theorem dX7_digest_17 : decode cX7_digest 17 = .ok (.aload_n 0, 1) := by decide +kernel
theorem dX7_digest_18 : decode cX7_digest 18 = .ok (.iload_n 3, 1) := by decide +kernel
theorem dX7_digest_19 : decode cX7_digest 19 = .ok (.invokevirtual 240, 3) := by decide +kernel
theorem dX7_digest_22 : decode cX7_digest 22 = .ok (.i2l, 1) := by decide +kernel
theorem dX7_digest_23 : decode cX7_digest 23 = .ok (.ladd, 1) := by decide +kernel
theorem dX7_digest_24 : decode cX7_digest 24 = .ok (.lstore_n 1, 1) := by decide +kernel
theorem dX7_digest_25 : decode cX7_digest 25 = .ok (.iinc 3 1, 3) := by decide +kernel
theorem dX7_digest_28 : decode cX7_digest 28 = .ok (.goto (-22), 3) := by decide +kernel
theorem dX7_digest_31 : decode cX7_digest 31 = .ok (.iconst 0, 1) := by decide +kernel
theorem dX7_digest_32 : decode cX7_digest 32 = .ok (.istore_n 3, 1) := by decide +kernel
theorem dX7_digest_33 : decode cX7_digest 33 = .ok (.iload_n 3, 1) := by decide +kernel
theorem dX7_digest_34 : decode cX7_digest 34 = .ok (.bipush 8, 2) := by decide +kernel
theorem dX7_digest_36 : decode cX7_digest 36 = .ok (.if_icmp .ge 22, 3) := by decide +kernel
theorem dX7_digest_39 : decode cX7_digest 39 = .ok (.ldc2_w 245, 3) := by decide +kernel
theorem dX7_digest_42 : decode cX7_digest 42 = .ok (.lload_n 1, 1) := by decide +kernel
theorem dX7_digest_43 : decode cX7_digest 43 = .ok (.lmul, 1) := by decide +kernel
theorem dX7_digest_44 : decode cX7_digest 44 = .ok (.aload_n 0, 1) := by decide +kernel
theorem dX7_digest_45 : decode cX7_digest 45 = .ok (.iload_n 3, 1) := by decide +kernel
theorem dX7_digest_46 : decode cX7_digest 46 = .ok (.invokevirtual 160, 3) := by decide +kernel
theorem dX7_digest_49 : decode cX7_digest 49 = .ok (.i2l, 1) := by decide +kernel
theorem dX7_digest_50 : decode cX7_digest 50 = .ok (.ladd, 1) := by decide +kernel
theorem dX7_digest_51 : decode cX7_digest 51 = .ok (.lstore_n 1, 1) := by decide +kernel
theorem dX7_digest_52 : decode cX7_digest 52 = .ok (.iinc 3 1, 3) := by decide +kernel
theorem dX7_digest_55 : decode cX7_digest 55 = .ok (.goto (-22), 3) := by decide +kernel
theorem dX7_digest_58 : decode cX7_digest 58 = .ok (.iconst 0, 1) := by decide +kernel
theorem dX7_digest_59 : decode cX7_digest 59 = .ok (.istore_n 3, 1) := by decide +kernel
theorem dX7_digest_60 : decode cX7_digest 60 = .ok (.iload_n 3, 1) := by decide +kernel
theorem dX7_digest_61 : decode cX7_digest 61 = .ok (.aload_n 0, 1) := by decide +kernel
theorem dX7_digest_62 : decode cX7_digest 62 = .ok (.getfield 49, 3) := by decide +kernel
theorem dX7_digest_65 : decode cX7_digest 65 = .ok (.if_icmp .ge 39, 3) := by decide +kernel
theorem dX7_digest_68 : decode cX7_digest 68 = .ok (.iconst 0, 1) := by decide +kernel
theorem dX7_digest_69 : decode cX7_digest 69 = .ok (.istore 4, 2) := by decide +kernel
theorem dX7_digest_71 : decode cX7_digest 71 = .ok (.iload 4, 2) := by decide +kernel
theorem dX7_digest_73 : decode cX7_digest 73 = .ok (.iconst 5, 1) := by decide +kernel
theorem dX7_digest_74 : decode cX7_digest 74 = .ok (.if_icmp .ge 24, 3) := by decide +kernel
theorem dX7_digest_77 : decode cX7_digest 77 = .ok (.ldc2_w 245, 3) := by decide +kernel
theorem dX7_digest_80 : decode cX7_digest 80 = .ok (.lload_n 1, 1) := by decide +kernel
theorem dX7_digest_81 : decode cX7_digest 81 = .ok (.lmul, 1) := by decide +kernel
theorem dX7_digest_82 : decode cX7_digest 82 = .ok (.aload_n 0, 1) := by decide +kernel
theorem dX7_digest_83 : decode cX7_digest 83 = .ok (.iload_n 3, 1) := by decide +kernel
theorem dX7_digest_84 : decode cX7_digest 84 = .ok (.iload 4, 2) := by decide +kernel
theorem dX7_digest_86 : decode cX7_digest 86 = .ok (.invokevirtual 148, 3) := by decide +kernel
theorem dX7_digest_89 : decode cX7_digest 89 = .ok (.i2l, 1) := by decide +kernel
theorem dX7_digest_90 : decode cX7_digest 90 = .ok (.ladd, 1) := by decide +kernel
theorem dX7_digest_91 : decode cX7_digest 91 = .ok (.lstore_n 1, 1) := by decide +kernel
theorem dX7_digest_92 : decode cX7_digest 92 = .ok (.iinc 4 1, 3) := by decide +kernel
theorem dX7_digest_95 : decode cX7_digest 95 = .ok (.goto (-24), 3) := by decide +kernel
theorem dX7_digest_98 : decode cX7_digest 98 = .ok (.iinc 3 1, 3) := by decide +kernel
theorem dX7_digest_101 : decode cX7_digest 101 = .ok (.goto (-41), 3) := by decide +kernel
theorem dX7_digest_104 : decode cX7_digest 104 = .ok (.iconst 0, 1) := by decide +kernel
theorem dX7_digest_105 : decode cX7_digest 105 = .ok (.istore_n 3, 1) := by decide +kernel
theorem dX7_digest_106 : decode cX7_digest 106 = .ok (.iload_n 3, 1) := by decide +kernel
theorem dX7_digest_107 : decode cX7_digest 107 = .ok (.bipush 96, 2) := by decide +kernel
theorem dX7_digest_109 : decode cX7_digest 109 = .ok (.if_icmp .ge 23, 3) := by decide +kernel
theorem dX7_digest_112 : decode cX7_digest 112 = .ok (.ldc2_w 245, 3) := by decide +kernel
theorem dX7_digest_115 : decode cX7_digest 115 = .ok (.lload_n 1, 1) := by decide +kernel
theorem dX7_digest_116 : decode cX7_digest 116 = .ok (.lmul, 1) := by decide +kernel
theorem dX7_digest_117 : decode cX7_digest 117 = .ok (.aload_n 0, 1) := by decide +kernel
theorem dX7_digest_118 : decode cX7_digest 118 = .ok (.getfield 13, 3) := by decide +kernel
theorem dX7_digest_121 : decode cX7_digest 121 = .ok (.iload_n 3, 1) := by decide +kernel
theorem dX7_digest_122 : decode cX7_digest 122 = .ok (.iaload, 1) := by decide +kernel
theorem dX7_digest_123 : decode cX7_digest 123 = .ok (.i2l, 1) := by decide +kernel
theorem dX7_digest_124 : decode cX7_digest 124 = .ok (.ladd, 1) := by decide +kernel
theorem dX7_digest_125 : decode cX7_digest 125 = .ok (.lstore_n 1, 1) := by decide +kernel
theorem dX7_digest_126 : decode cX7_digest 126 = .ok (.iinc 3 1, 3) := by decide +kernel
theorem dX7_digest_129 : decode cX7_digest 129 = .ok (.goto (-23), 3) := by decide +kernel
theorem dX7_digest_132 : decode cX7_digest 132 = .ok (.lload_n 1, 1) := by decide +kernel
theorem dX7_digest_133 : decode cX7_digest 133 = .ok (.lreturn, 1) := by decide +kernel
end
section
theorem dL_law_0 : decode cL_law 0 = .ok (.new 7, 3) := by decide +kernel
theorem dL_law_3 : decode cL_law 3 = .ok (.dup, 1) := by decide +kernel
theorem dL_law_4 : decode cL_law 4 = .ok (.invokespecial 9, 3) := by decide +kernel
theorem dL_law_7 : decode cL_law 7 = .ok (.astore_n 1, 1) := by decide +kernel
theorem dL_law_8 : decode cL_law 8 = .ok (.new 10, 3) := by decide +kernel
theorem dL_law_11 : decode cL_law 11 = .ok (.dup, 1) := by decide +kernel
theorem dL_law_12 : decode cL_law 12 = .ok (.invokespecial 12, 3) := by decide +kernel
theorem dL_law_15 : decode cL_law 15 = .ok (.astore_n 2, 1) := by decide +kernel
theorem dL_law_16 : decode cL_law 16 = .ok (.iconst 0, 1) := by decide +kernel
theorem dL_law_17 : decode cL_law 17 = .ok (.istore_n 3, 1) := by decide +kernel
theorem dL_law_18 : decode cL_law 18 = .ok (.iload_n 3, 1) := by decide +kernel
theorem dL_law_19 : decode cL_law 19 = .ok (.aload_n 0, 1) := by decide +kernel
theorem dL_law_20 : decode cL_law 20 = .ok (.arraylength, 1) := by decide +kernel
theorem dL_law_21 : decode cL_law 21 = .ok (.iconst 4, 1) := by decide +kernel
theorem dL_law_22 : decode cL_law 22 = .ok (.isub, 1) := by decide +kernel
theorem dL_law_23 : decode cL_law 23 = .ok (.if_icmp .gt 764, 3) := by decide +kernel
theorem dL_law_26 : decode cL_law 26 = .ok (.aload_n 0, 1) := by decide +kernel
theorem dL_law_27 : decode cL_law 27 = .ok (.iload_n 3, 1) := by decide +kernel
theorem dL_law_28 : decode cL_law 28 = .ok (.iaload, 1) := by decide +kernel
theorem dL_law_29 : decode cL_law 29 = .ok (.bipush 31, 2) := by decide +kernel
theorem dL_law_31 : decode cL_law 31 = .ok (.iand, 1) := by decide +kernel
theorem dL_law_32 : decode cL_law 32 = .ok (.tableswitch 749 0 25 #[120, 153, 186, 219, 252, 295, 308, 321, 354, 377, 400, 433, 446, 469, 502, 535, 558, 581, 594, 617, 650, 673, 686, 699, 712, 735], 120) := by decide +kernel
theorem dL_law_152 : decode cL_law 152 = .ok (.aload_n 1, 1) := by decide +kernel
theorem dL_law_153 : decode cL_law 153 = .ok (.aload_n 0, 1) := by decide +kernel
theorem dL_law_154 : decode cL_law 154 = .ok (.iload_n 3, 1) := by decide +kernel
theorem dL_law_155 : decode cL_law 155 = .ok (.iconst 1, 1) := by decide +kernel
theorem dL_law_156 : decode cL_law 156 = .ok (.iadd, 1) := by decide +kernel
theorem dL_law_157 : decode cL_law 157 = .ok (.iaload, 1) := by decide +kernel
theorem dL_law_158 : decode cL_law 158 = .ok (.aload_n 0, 1) := by decide +kernel
theorem dL_law_159 : decode cL_law 159 = .ok (.iload_n 3, 1) := by decide +kernel
theorem dL_law_160 : decode cL_law 160 = .ok (.iconst 2, 1) := by decide +kernel
theorem dL_law_161 : decode cL_law 161 = .ok (.iadd, 1) := by decide +kernel
theorem dL_law_162 : decode cL_law 162 = .ok (.iaload, 1) := by decide +kernel
theorem dL_law_163 : decode cL_law 163 = .ok (.invokevirtual 13, 3) := by decide +kernel
theorem dL_law_166 : decode cL_law 166 = .ok (.aload_n 2, 1) := by decide +kernel
theorem dL_law_167 : decode cL_law 167 = .ok (.aload_n 0, 1) := by decide +kernel
theorem dL_law_168 : decode cL_law 168 = .ok (.iload_n 3, 1) := by decide +kernel
theorem dL_law_169 : decode cL_law 169 = .ok (.iconst 1, 1) := by decide +kernel
theorem dL_law_170 : decode cL_law 170 = .ok (.iadd, 1) := by decide +kernel
theorem dL_law_171 : decode cL_law 171 = .ok (.iaload, 1) := by decide +kernel
theorem dL_law_172 : decode cL_law 172 = .ok (.aload_n 0, 1) := by decide +kernel
theorem dL_law_173 : decode cL_law 173 = .ok (.iload_n 3, 1) := by decide +kernel
theorem dL_law_174 : decode cL_law 174 = .ok (.iconst 2, 1) := by decide +kernel
theorem dL_law_175 : decode cL_law 175 = .ok (.iadd, 1) := by decide +kernel
theorem dL_law_176 : decode cL_law 176 = .ok (.iaload, 1) := by decide +kernel
theorem dL_law_177 : decode cL_law 177 = .ok (.invokevirtual 17, 3) := by decide +kernel
theorem dL_law_180 : decode cL_law 180 = .ok (.if_icmp .eq 601, 3) := by decide +kernel
theorem dL_law_183 : decode cL_law 183 = .ok (.iconst 0, 1) := by decide +kernel
theorem dL_law_184 : decode cL_law 184 = .ok (.ireturn, 1) := by decide +kernel
theorem dL_law_185 : decode cL_law 185 = .ok (.aload_n 1, 1) := by decide +kernel
theorem dL_law_186 : decode cL_law 186 = .ok (.aload_n 0, 1) := by decide +kernel
theorem dL_law_187 : decode cL_law 187 = .ok (.iload_n 3, 1) := by decide +kernel
theorem dL_law_188 : decode cL_law 188 = .ok (.iconst 1, 1) := by decide +kernel
theorem dL_law_189 : decode cL_law 189 = .ok (.iadd, 1) := by decide +kernel
theorem dL_law_190 : decode cL_law 190 = .ok (.iaload, 1) := by decide +kernel
theorem dL_law_191 : decode cL_law 191 = .ok (.aload_n 0, 1) := by decide +kernel
theorem dL_law_192 : decode cL_law 192 = .ok (.iload_n 3, 1) := by decide +kernel
theorem dL_law_193 : decode cL_law 193 = .ok (.iconst 2, 1) := by decide +kernel
theorem dL_law_194 : decode cL_law 194 = .ok (.iadd, 1) := by decide +kernel
theorem dL_law_195 : decode cL_law 195 = .ok (.iaload, 1) := by decide +kernel
theorem dL_law_196 : decode cL_law 196 = .ok (.invokevirtual 18, 3) := by decide +kernel
theorem dL_law_199 : decode cL_law 199 = .ok (.aload_n 2, 1) := by decide +kernel
theorem dL_law_200 : decode cL_law 200 = .ok (.aload_n 0, 1) := by decide +kernel
theorem dL_law_201 : decode cL_law 201 = .ok (.iload_n 3, 1) := by decide +kernel
theorem dL_law_202 : decode cL_law 202 = .ok (.iconst 1, 1) := by decide +kernel
theorem dL_law_203 : decode cL_law 203 = .ok (.iadd, 1) := by decide +kernel
theorem dL_law_204 : decode cL_law 204 = .ok (.iaload, 1) := by decide +kernel
theorem dL_law_205 : decode cL_law 205 = .ok (.aload_n 0, 1) := by decide +kernel
theorem dL_law_206 : decode cL_law 206 = .ok (.iload_n 3, 1) := by decide +kernel
theorem dL_law_207 : decode cL_law 207 = .ok (.iconst 2, 1) := by decide +kernel
theorem dL_law_208 : decode cL_law 208 = .ok (.iadd, 1) := by decide +kernel
theorem dL_law_209 : decode cL_law 209 = .ok (.iaload, 1) := by decide +kernel
theorem dL_law_210 : decode cL_law 210 = .ok (.invokevirtual 21, 3) := by decide +kernel
theorem dL_law_213 : decode cL_law 213 = .ok (.if_icmp .eq 568, 3) := by decide +kernel
theorem dL_law_216 : decode cL_law 216 = .ok (.iconst 0, 1) := by decide +kernel
theorem dL_law_217 : decode cL_law 217 = .ok (.ireturn, 1) := by decide +kernel
theorem dL_law_218 : decode cL_law 218 = .ok (.aload_n 1, 1) := by decide +kernel
theorem dL_law_219 : decode cL_law 219 = .ok (.aload_n 0, 1) := by decide +kernel
theorem dL_law_220 : decode cL_law 220 = .ok (.iload_n 3, 1) := by decide +kernel
theorem dL_law_221 : decode cL_law 221 = .ok (.iconst 1, 1) := by decide +kernel
theorem dL_law_222 : decode cL_law 222 = .ok (.iadd, 1) := by decide +kernel
theorem dL_law_223 : decode cL_law 223 = .ok (.iaload, 1) := by decide +kernel
theorem dL_law_224 : decode cL_law 224 = .ok (.aload_n 0, 1) := by decide +kernel
theorem dL_law_225 : decode cL_law 225 = .ok (.iload_n 3, 1) := by decide +kernel
theorem dL_law_226 : decode cL_law 226 = .ok (.iconst 2, 1) := by decide +kernel
theorem dL_law_227 : decode cL_law 227 = .ok (.iadd, 1) := by decide +kernel
theorem dL_law_228 : decode cL_law 228 = .ok (.iaload, 1) := by decide +kernel
theorem dL_law_229 : decode cL_law 229 = .ok (.invokevirtual 22, 3) := by decide +kernel
theorem dL_law_232 : decode cL_law 232 = .ok (.aload_n 2, 1) := by decide +kernel
theorem dL_law_233 : decode cL_law 233 = .ok (.aload_n 0, 1) := by decide +kernel
theorem dL_law_234 : decode cL_law 234 = .ok (.iload_n 3, 1) := by decide +kernel
theorem dL_law_235 : decode cL_law 235 = .ok (.iconst 1, 1) := by decide +kernel
theorem dL_law_236 : decode cL_law 236 = .ok (.iadd, 1) := by decide +kernel
theorem dL_law_237 : decode cL_law 237 = .ok (.iaload, 1) := by decide +kernel
theorem dL_law_238 : decode cL_law 238 = .ok (.aload_n 0, 1) := by decide +kernel
theorem dL_law_239 : decode cL_law 239 = .ok (.iload_n 3, 1) := by decide +kernel
theorem dL_law_240 : decode cL_law 240 = .ok (.iconst 2, 1) := by decide +kernel
theorem dL_law_241 : decode cL_law 241 = .ok (.iadd, 1) := by decide +kernel
theorem dL_law_242 : decode cL_law 242 = .ok (.iaload, 1) := by decide +kernel
theorem dL_law_243 : decode cL_law 243 = .ok (.invokevirtual 25, 3) := by decide +kernel
theorem dL_law_246 : decode cL_law 246 = .ok (.if_icmp .eq 535, 3) := by decide +kernel
theorem dL_law_249 : decode cL_law 249 = .ok (.iconst 0, 1) := by decide +kernel
theorem dL_law_250 : decode cL_law 250 = .ok (.ireturn, 1) := by decide +kernel
theorem dL_law_251 : decode cL_law 251 = .ok (.aload_n 1, 1) := by decide +kernel
theorem dL_law_252 : decode cL_law 252 = .ok (.aload_n 0, 1) := by decide +kernel
theorem dL_law_253 : decode cL_law 253 = .ok (.iload_n 3, 1) := by decide +kernel
theorem dL_law_254 : decode cL_law 254 = .ok (.iconst 1, 1) := by decide +kernel
theorem dL_law_255 : decode cL_law 255 = .ok (.iadd, 1) := by decide +kernel
theorem dL_law_256 : decode cL_law 256 = .ok (.iaload, 1) := by decide +kernel
theorem dL_law_257 : decode cL_law 257 = .ok (.aload_n 0, 1) := by decide +kernel
theorem dL_law_258 : decode cL_law 258 = .ok (.iload_n 3, 1) := by decide +kernel
theorem dL_law_259 : decode cL_law 259 = .ok (.iconst 2, 1) := by decide +kernel
theorem dL_law_260 : decode cL_law 260 = .ok (.iadd, 1) := by decide +kernel
theorem dL_law_261 : decode cL_law 261 = .ok (.iaload, 1) := by decide +kernel
theorem dL_law_262 : decode cL_law 262 = .ok (.invokevirtual 26, 3) := by decide +kernel
theorem dL_law_265 : decode cL_law 265 = .ok (.aload_n 2, 1) := by decide +kernel
theorem dL_law_266 : decode cL_law 266 = .ok (.aload_n 0, 1) := by decide +kernel
theorem dL_law_267 : decode cL_law 267 = .ok (.iload_n 3, 1) := by decide +kernel
theorem dL_law_268 : decode cL_law 268 = .ok (.iconst 1, 1) := by decide +kernel
theorem dL_law_269 : decode cL_law 269 = .ok (.iadd, 1) := by decide +kernel
theorem dL_law_270 : decode cL_law 270 = .ok (.iaload, 1) := by decide +kernel
theorem dL_law_271 : decode cL_law 271 = .ok (.aload_n 0, 1) := by decide +kernel
theorem dL_law_272 : decode cL_law 272 = .ok (.iload_n 3, 1) := by decide +kernel
theorem dL_law_273 : decode cL_law 273 = .ok (.iconst 2, 1) := by decide +kernel
theorem dL_law_274 : decode cL_law 274 = .ok (.iadd, 1) := by decide +kernel
theorem dL_law_275 : decode cL_law 275 = .ok (.iaload, 1) := by decide +kernel
theorem dL_law_276 : decode cL_law 276 = .ok (.invokevirtual 29, 3) := by decide +kernel
theorem dL_law_279 : decode cL_law 279 = .ok (.if_icmp .eq 502, 3) := by decide +kernel
theorem dL_law_282 : decode cL_law 282 = .ok (.iconst 0, 1) := by decide +kernel
theorem dL_law_283 : decode cL_law 283 = .ok (.ireturn, 1) := by decide +kernel
theorem dL_law_284 : decode cL_law 284 = .ok (.aload_n 1, 1) := by decide +kernel
theorem dL_law_285 : decode cL_law 285 = .ok (.aload_n 0, 1) := by decide +kernel
theorem dL_law_286 : decode cL_law 286 = .ok (.iload_n 3, 1) := by decide +kernel
theorem dL_law_287 : decode cL_law 287 = .ok (.iconst 1, 1) := by decide +kernel
theorem dL_law_288 : decode cL_law 288 = .ok (.iadd, 1) := by decide +kernel
theorem dL_law_289 : decode cL_law 289 = .ok (.iaload, 1) := by decide +kernel
theorem dL_law_290 : decode cL_law 290 = .ok (.aload_n 0, 1) := by decide +kernel
theorem dL_law_291 : decode cL_law 291 = .ok (.iload_n 3, 1) := by decide +kernel
theorem dL_law_292 : decode cL_law 292 = .ok (.iconst 2, 1) := by decide +kernel
theorem dL_law_293 : decode cL_law 293 = .ok (.iadd, 1) := by decide +kernel
theorem dL_law_294 : decode cL_law 294 = .ok (.iaload, 1) := by decide +kernel
theorem dL_law_295 : decode cL_law 295 = .ok (.aload_n 0, 1) := by decide +kernel
theorem dL_law_296 : decode cL_law 296 = .ok (.iload_n 3, 1) := by decide +kernel
theorem dL_law_297 : decode cL_law 297 = .ok (.iconst 3, 1) := by decide +kernel
theorem dL_law_298 : decode cL_law 298 = .ok (.iadd, 1) := by decide +kernel
theorem dL_law_299 : decode cL_law 299 = .ok (.iaload, 1) := by decide +kernel
theorem dL_law_300 : decode cL_law 300 = .ok (.invokevirtual 30, 3) := by decide +kernel
theorem dL_law_303 : decode cL_law 303 = .ok (.aload_n 2, 1) := by decide +kernel
theorem dL_law_304 : decode cL_law 304 = .ok (.aload_n 0, 1) := by decide +kernel
theorem dL_law_305 : decode cL_law 305 = .ok (.iload_n 3, 1) := by decide +kernel
theorem dL_law_306 : decode cL_law 306 = .ok (.iconst 1, 1) := by decide +kernel
theorem dL_law_307 : decode cL_law 307 = .ok (.iadd, 1) := by decide +kernel
theorem dL_law_308 : decode cL_law 308 = .ok (.iaload, 1) := by decide +kernel
theorem dL_law_309 : decode cL_law 309 = .ok (.aload_n 0, 1) := by decide +kernel
theorem dL_law_310 : decode cL_law 310 = .ok (.iload_n 3, 1) := by decide +kernel
theorem dL_law_311 : decode cL_law 311 = .ok (.iconst 2, 1) := by decide +kernel
theorem dL_law_312 : decode cL_law 312 = .ok (.iadd, 1) := by decide +kernel
theorem dL_law_313 : decode cL_law 313 = .ok (.iaload, 1) := by decide +kernel
theorem dL_law_314 : decode cL_law 314 = .ok (.aload_n 0, 1) := by decide +kernel
theorem dL_law_315 : decode cL_law 315 = .ok (.iload_n 3, 1) := by decide +kernel
theorem dL_law_316 : decode cL_law 316 = .ok (.iconst 3, 1) := by decide +kernel
theorem dL_law_317 : decode cL_law 317 = .ok (.iadd, 1) := by decide +kernel
theorem dL_law_318 : decode cL_law 318 = .ok (.iaload, 1) := by decide +kernel
theorem dL_law_319 : decode cL_law 319 = .ok (.invokevirtual 34, 3) := by decide +kernel
theorem dL_law_322 : decode cL_law 322 = .ok (.if_icmp .eq 459, 3) := by decide +kernel
theorem dL_law_325 : decode cL_law 325 = .ok (.iconst 0, 1) := by decide +kernel
theorem dL_law_326 : decode cL_law 326 = .ok (.ireturn, 1) := by decide +kernel
theorem dL_law_327 : decode cL_law 327 = .ok (.aload_n 1, 1) := by decide +kernel
theorem dL_law_328 : decode cL_law 328 = .ok (.invokevirtual 35, 3) := by decide +kernel
theorem dL_law_331 : decode cL_law 331 = .ok (.aload_n 2, 1) := by decide +kernel
theorem dL_law_332 : decode cL_law 332 = .ok (.invokevirtual 39, 3) := by decide +kernel
theorem dL_law_335 : decode cL_law 335 = .ok (.if_icmp .eq 446, 3) := by decide +kernel
theorem dL_law_338 : decode cL_law 338 = .ok (.iconst 0, 1) := by decide +kernel
theorem dL_law_339 : decode cL_law 339 = .ok (.ireturn, 1) := by decide +kernel
theorem dL_law_340 : decode cL_law 340 = .ok (.aload_n 1, 1) := by decide +kernel
theorem dL_law_341 : decode cL_law 341 = .ok (.invokevirtual 40, 3) := by decide +kernel
theorem dL_law_344 : decode cL_law 344 = .ok (.aload_n 2, 1) := by decide +kernel
theorem dL_law_345 : decode cL_law 345 = .ok (.invokevirtual 43, 3) := by decide +kernel
theorem dL_law_348 : decode cL_law 348 = .ok (.if_icmp .eq 433, 3) := by decide +kernel
theorem dL_law_351 : decode cL_law 351 = .ok (.iconst 0, 1) := by decide +kernel
theorem dL_law_352 : decode cL_law 352 = .ok (.ireturn, 1) := by decide +kernel
theorem dL_law_353 : decode cL_law 353 = .ok (.aload_n 1, 1) := by decide +kernel
theorem dL_law_354 : decode cL_law 354 = .ok (.aload_n 0, 1) := by decide +kernel
theorem dL_law_355 : decode cL_law 355 = .ok (.iload_n 3, 1) := by decide +kernel
theorem dL_law_356 : decode cL_law 356 = .ok (.iconst 1, 1) := by decide +kernel
theorem dL_law_357 : decode cL_law 357 = .ok (.iadd, 1) := by decide +kernel
theorem dL_law_358 : decode cL_law 358 = .ok (.iaload, 1) := by decide +kernel
theorem dL_law_359 : decode cL_law 359 = .ok (.aload_n 0, 1) := by decide +kernel
theorem dL_law_360 : decode cL_law 360 = .ok (.iload_n 3, 1) := by decide +kernel
theorem dL_law_361 : decode cL_law 361 = .ok (.iconst 2, 1) := by decide +kernel
theorem dL_law_362 : decode cL_law 362 = .ok (.iadd, 1) := by decide +kernel
theorem dL_law_363 : decode cL_law 363 = .ok (.iaload, 1) := by decide +kernel
theorem dL_law_364 : decode cL_law 364 = .ok (.invokevirtual 44, 3) := by decide +kernel
theorem dL_law_367 : decode cL_law 367 = .ok (.aload_n 2, 1) := by decide +kernel
theorem dL_law_368 : decode cL_law 368 = .ok (.aload_n 0, 1) := by decide +kernel
theorem dL_law_369 : decode cL_law 369 = .ok (.iload_n 3, 1) := by decide +kernel
theorem dL_law_370 : decode cL_law 370 = .ok (.iconst 1, 1) := by decide +kernel
theorem dL_law_371 : decode cL_law 371 = .ok (.iadd, 1) := by decide +kernel
theorem dL_law_372 : decode cL_law 372 = .ok (.iaload, 1) := by decide +kernel
theorem dL_law_373 : decode cL_law 373 = .ok (.aload_n 0, 1) := by decide +kernel
theorem dL_law_374 : decode cL_law 374 = .ok (.iload_n 3, 1) := by decide +kernel
theorem dL_law_375 : decode cL_law 375 = .ok (.iconst 2, 1) := by decide +kernel
theorem dL_law_376 : decode cL_law 376 = .ok (.iadd, 1) := by decide +kernel
theorem dL_law_377 : decode cL_law 377 = .ok (.iaload, 1) := by decide +kernel
theorem dL_law_378 : decode cL_law 378 = .ok (.invokevirtual 47, 3) := by decide +kernel
theorem dL_law_381 : decode cL_law 381 = .ok (.if_icmp .eq 400, 3) := by decide +kernel
theorem dL_law_384 : decode cL_law 384 = .ok (.iconst 0, 1) := by decide +kernel
theorem dL_law_385 : decode cL_law 385 = .ok (.ireturn, 1) := by decide +kernel
theorem dL_law_386 : decode cL_law 386 = .ok (.aload_n 1, 1) := by decide +kernel
theorem dL_law_387 : decode cL_law 387 = .ok (.aload_n 0, 1) := by decide +kernel
theorem dL_law_388 : decode cL_law 388 = .ok (.iload_n 3, 1) := by decide +kernel
theorem dL_law_389 : decode cL_law 389 = .ok (.iconst 1, 1) := by decide +kernel
theorem dL_law_390 : decode cL_law 390 = .ok (.iadd, 1) := by decide +kernel
theorem dL_law_391 : decode cL_law 391 = .ok (.iaload, 1) := by decide +kernel
theorem dL_law_392 : decode cL_law 392 = .ok (.invokevirtual 48, 3) := by decide +kernel
theorem dL_law_395 : decode cL_law 395 = .ok (.aload_n 2, 1) := by decide +kernel
theorem dL_law_396 : decode cL_law 396 = .ok (.aload_n 0, 1) := by decide +kernel
theorem dL_law_397 : decode cL_law 397 = .ok (.iload_n 3, 1) := by decide +kernel
theorem dL_law_398 : decode cL_law 398 = .ok (.iconst 1, 1) := by decide +kernel
theorem dL_law_399 : decode cL_law 399 = .ok (.iadd, 1) := by decide +kernel
theorem dL_law_400 : decode cL_law 400 = .ok (.iaload, 1) := by decide +kernel
theorem dL_law_401 : decode cL_law 401 = .ok (.invokevirtual 52, 3) := by decide +kernel
theorem dL_law_404 : decode cL_law 404 = .ok (.if_icmp .eq 377, 3) := by decide +kernel
theorem dL_law_407 : decode cL_law 407 = .ok (.iconst 0, 1) := by decide +kernel
theorem dL_law_408 : decode cL_law 408 = .ok (.ireturn, 1) := by decide +kernel
theorem dL_law_409 : decode cL_law 409 = .ok (.aload_n 1, 1) := by decide +kernel
theorem dL_law_410 : decode cL_law 410 = .ok (.aload_n 0, 1) := by decide +kernel
theorem dL_law_411 : decode cL_law 411 = .ok (.iload_n 3, 1) := by decide +kernel
theorem dL_law_412 : decode cL_law 412 = .ok (.iconst 1, 1) := by decide +kernel
theorem dL_law_413 : decode cL_law 413 = .ok (.iadd, 1) := by decide +kernel
theorem dL_law_414 : decode cL_law 414 = .ok (.iaload, 1) := by decide +kernel
theorem dL_law_415 : decode cL_law 415 = .ok (.invokevirtual 53, 3) := by decide +kernel
theorem dL_law_418 : decode cL_law 418 = .ok (.aload_n 2, 1) := by decide +kernel
theorem dL_law_419 : decode cL_law 419 = .ok (.aload_n 0, 1) := by decide +kernel
theorem dL_law_420 : decode cL_law 420 = .ok (.iload_n 3, 1) := by decide +kernel
theorem dL_law_421 : decode cL_law 421 = .ok (.iconst 1, 1) := by decide +kernel
theorem dL_law_422 : decode cL_law 422 = .ok (.iadd, 1) := by decide +kernel
theorem dL_law_423 : decode cL_law 423 = .ok (.iaload, 1) := by decide +kernel
theorem dL_law_424 : decode cL_law 424 = .ok (.invokevirtual 56, 3) := by decide +kernel
theorem dL_law_427 : decode cL_law 427 = .ok (.if_icmp .eq 354, 3) := by decide +kernel
theorem dL_law_430 : decode cL_law 430 = .ok (.iconst 0, 1) := by decide +kernel
theorem dL_law_431 : decode cL_law 431 = .ok (.ireturn, 1) := by decide +kernel
theorem dL_law_432 : decode cL_law 432 = .ok (.aload_n 1, 1) := by decide +kernel
theorem dL_law_433 : decode cL_law 433 = .ok (.aload_n 0, 1) := by decide +kernel
theorem dL_law_434 : decode cL_law 434 = .ok (.iload_n 3, 1) := by decide +kernel
theorem dL_law_435 : decode cL_law 435 = .ok (.iconst 1, 1) := by decide +kernel
theorem dL_law_436 : decode cL_law 436 = .ok (.iadd, 1) := by decide +kernel
theorem dL_law_437 : decode cL_law 437 = .ok (.iaload, 1) := by decide +kernel
theorem dL_law_438 : decode cL_law 438 = .ok (.aload_n 0, 1) := by decide +kernel
theorem dL_law_439 : decode cL_law 439 = .ok (.iload_n 3, 1) := by decide +kernel
theorem dL_law_440 : decode cL_law 440 = .ok (.iconst 2, 1) := by decide +kernel
theorem dL_law_441 : decode cL_law 441 = .ok (.iadd, 1) := by decide +kernel
theorem dL_law_442 : decode cL_law 442 = .ok (.iaload, 1) := by decide +kernel
theorem dL_law_443 : decode cL_law 443 = .ok (.invokevirtual 57, 3) := by decide +kernel
theorem dL_law_446 : decode cL_law 446 = .ok (.aload_n 2, 1) := by decide +kernel
theorem dL_law_447 : decode cL_law 447 = .ok (.aload_n 0, 1) := by decide +kernel
theorem dL_law_448 : decode cL_law 448 = .ok (.iload_n 3, 1) := by decide +kernel
theorem dL_law_449 : decode cL_law 449 = .ok (.iconst 1, 1) := by decide +kernel
theorem dL_law_450 : decode cL_law 450 = .ok (.iadd, 1) := by decide +kernel
theorem dL_law_451 : decode cL_law 451 = .ok (.iaload, 1) := by decide +kernel
theorem dL_law_452 : decode cL_law 452 = .ok (.aload_n 0, 1) := by decide +kernel
theorem dL_law_453 : decode cL_law 453 = .ok (.iload_n 3, 1) := by decide +kernel
theorem dL_law_454 : decode cL_law 454 = .ok (.iconst 2, 1) := by decide +kernel
theorem dL_law_455 : decode cL_law 455 = .ok (.iadd, 1) := by decide +kernel
theorem dL_law_456 : decode cL_law 456 = .ok (.iaload, 1) := by decide +kernel
theorem dL_law_457 : decode cL_law 457 = .ok (.invokevirtual 60, 3) := by decide +kernel
theorem dL_law_460 : decode cL_law 460 = .ok (.if_icmp .eq 321, 3) := by decide +kernel
theorem dL_law_463 : decode cL_law 463 = .ok (.iconst 0, 1) := by decide +kernel
theorem dL_law_464 : decode cL_law 464 = .ok (.ireturn, 1) := by decide +kernel
theorem dL_law_465 : decode cL_law 465 = .ok (.aload_n 1, 1) := by decide +kernel
theorem dL_law_466 : decode cL_law 466 = .ok (.invokevirtual 61, 3) := by decide +kernel
theorem dL_law_469 : decode cL_law 469 = .ok (.aload_n 2, 1) := by decide +kernel
theorem dL_law_470 : decode cL_law 470 = .ok (.invokevirtual 64, 3) := by decide +kernel
theorem dL_law_473 : decode cL_law 473 = .ok (.if_icmp .eq 308, 3) := by decide +kernel
theorem dL_law_476 : decode cL_law 476 = .ok (.iconst 0, 1) := by decide +kernel
theorem dL_law_477 : decode cL_law 477 = .ok (.ireturn, 1) := by decide +kernel
theorem dL_law_478 : decode cL_law 478 = .ok (.aload_n 1, 1) := by decide +kernel
theorem dL_law_479 : decode cL_law 479 = .ok (.aload_n 0, 1) := by decide +kernel
theorem dL_law_480 : decode cL_law 480 = .ok (.iload_n 3, 1) := by decide +kernel
theorem dL_law_481 : decode cL_law 481 = .ok (.iconst 1, 1) := by decide +kernel
theorem dL_law_482 : decode cL_law 482 = .ok (.iadd, 1) := by decide +kernel
theorem dL_law_483 : decode cL_law 483 = .ok (.iaload, 1) := by decide +kernel
theorem dL_law_484 : decode cL_law 484 = .ok (.invokevirtual 65, 3) := by decide +kernel
theorem dL_law_487 : decode cL_law 487 = .ok (.aload_n 2, 1) := by decide +kernel
theorem dL_law_488 : decode cL_law 488 = .ok (.aload_n 0, 1) := by decide +kernel
theorem dL_law_489 : decode cL_law 489 = .ok (.iload_n 3, 1) := by decide +kernel
theorem dL_law_490 : decode cL_law 490 = .ok (.iconst 1, 1) := by decide +kernel
theorem dL_law_491 : decode cL_law 491 = .ok (.iadd, 1) := by decide +kernel
theorem dL_law_492 : decode cL_law 492 = .ok (.iaload, 1) := by decide +kernel
theorem dL_law_493 : decode cL_law 493 = .ok (.invokevirtual 68, 3) := by decide +kernel
theorem dL_law_496 : decode cL_law 496 = .ok (.if_icmp .eq 285, 3) := by decide +kernel
theorem dL_law_499 : decode cL_law 499 = .ok (.iconst 0, 1) := by decide +kernel
theorem dL_law_500 : decode cL_law 500 = .ok (.ireturn, 1) := by decide +kernel
theorem dL_law_501 : decode cL_law 501 = .ok (.aload_n 1, 1) := by decide +kernel
theorem dL_law_502 : decode cL_law 502 = .ok (.aload_n 0, 1) := by decide +kernel
theorem dL_law_503 : decode cL_law 503 = .ok (.iload_n 3, 1) := by decide +kernel
theorem dL_law_504 : decode cL_law 504 = .ok (.iconst 1, 1) := by decide +kernel
theorem dL_law_505 : decode cL_law 505 = .ok (.iadd, 1) := by decide +kernel
theorem dL_law_506 : decode cL_law 506 = .ok (.iaload, 1) := by decide +kernel
theorem dL_law_507 : decode cL_law 507 = .ok (.aload_n 0, 1) := by decide +kernel
theorem dL_law_508 : decode cL_law 508 = .ok (.iload_n 3, 1) := by decide +kernel
theorem dL_law_509 : decode cL_law 509 = .ok (.iconst 2, 1) := by decide +kernel
theorem dL_law_510 : decode cL_law 510 = .ok (.iadd, 1) := by decide +kernel
theorem dL_law_511 : decode cL_law 511 = .ok (.iaload, 1) := by decide +kernel
theorem dL_law_512 : decode cL_law 512 = .ok (.invokevirtual 69, 3) := by decide +kernel
theorem dL_law_515 : decode cL_law 515 = .ok (.aload_n 2, 1) := by decide +kernel
theorem dL_law_516 : decode cL_law 516 = .ok (.aload_n 0, 1) := by decide +kernel
theorem dL_law_517 : decode cL_law 517 = .ok (.iload_n 3, 1) := by decide +kernel
theorem dL_law_518 : decode cL_law 518 = .ok (.iconst 1, 1) := by decide +kernel
theorem dL_law_519 : decode cL_law 519 = .ok (.iadd, 1) := by decide +kernel
theorem dL_law_520 : decode cL_law 520 = .ok (.iaload, 1) := by decide +kernel
theorem dL_law_521 : decode cL_law 521 = .ok (.aload_n 0, 1) := by decide +kernel
theorem dL_law_522 : decode cL_law 522 = .ok (.iload_n 3, 1) := by decide +kernel
theorem dL_law_523 : decode cL_law 523 = .ok (.iconst 2, 1) := by decide +kernel
theorem dL_law_524 : decode cL_law 524 = .ok (.iadd, 1) := by decide +kernel
theorem dL_law_525 : decode cL_law 525 = .ok (.iaload, 1) := by decide +kernel
theorem dL_law_526 : decode cL_law 526 = .ok (.invokevirtual 72, 3) := by decide +kernel
theorem dL_law_529 : decode cL_law 529 = .ok (.if_icmp .eq 252, 3) := by decide +kernel
theorem dL_law_532 : decode cL_law 532 = .ok (.iconst 0, 1) := by decide +kernel
theorem dL_law_533 : decode cL_law 533 = .ok (.ireturn, 1) := by decide +kernel
theorem dL_law_534 : decode cL_law 534 = .ok (.aload_n 1, 1) := by decide +kernel
theorem dL_law_535 : decode cL_law 535 = .ok (.aload_n 0, 1) := by decide +kernel
theorem dL_law_536 : decode cL_law 536 = .ok (.iload_n 3, 1) := by decide +kernel
theorem dL_law_537 : decode cL_law 537 = .ok (.iconst 1, 1) := by decide +kernel
theorem dL_law_538 : decode cL_law 538 = .ok (.iadd, 1) := by decide +kernel
theorem dL_law_539 : decode cL_law 539 = .ok (.iaload, 1) := by decide +kernel
theorem dL_law_540 : decode cL_law 540 = .ok (.aload_n 0, 1) := by decide +kernel
theorem dL_law_541 : decode cL_law 541 = .ok (.iload_n 3, 1) := by decide +kernel
theorem dL_law_542 : decode cL_law 542 = .ok (.iconst 2, 1) := by decide +kernel
theorem dL_law_543 : decode cL_law 543 = .ok (.iadd, 1) := by decide +kernel
theorem dL_law_544 : decode cL_law 544 = .ok (.iaload, 1) := by decide +kernel
theorem dL_law_545 : decode cL_law 545 = .ok (.invokevirtual 73, 3) := by decide +kernel
theorem dL_law_548 : decode cL_law 548 = .ok (.aload_n 2, 1) := by decide +kernel
theorem dL_law_549 : decode cL_law 549 = .ok (.aload_n 0, 1) := by decide +kernel
theorem dL_law_550 : decode cL_law 550 = .ok (.iload_n 3, 1) := by decide +kernel
theorem dL_law_551 : decode cL_law 551 = .ok (.iconst 1, 1) := by decide +kernel
theorem dL_law_552 : decode cL_law 552 = .ok (.iadd, 1) := by decide +kernel
theorem dL_law_553 : decode cL_law 553 = .ok (.iaload, 1) := by decide +kernel
theorem dL_law_554 : decode cL_law 554 = .ok (.aload_n 0, 1) := by decide +kernel
theorem dL_law_555 : decode cL_law 555 = .ok (.iload_n 3, 1) := by decide +kernel
theorem dL_law_556 : decode cL_law 556 = .ok (.iconst 2, 1) := by decide +kernel
theorem dL_law_557 : decode cL_law 557 = .ok (.iadd, 1) := by decide +kernel
theorem dL_law_558 : decode cL_law 558 = .ok (.iaload, 1) := by decide +kernel
theorem dL_law_559 : decode cL_law 559 = .ok (.invokevirtual 76, 3) := by decide +kernel
theorem dL_law_562 : decode cL_law 562 = .ok (.if_icmp .eq 219, 3) := by decide +kernel
theorem dL_law_565 : decode cL_law 565 = .ok (.iconst 0, 1) := by decide +kernel
theorem dL_law_566 : decode cL_law 566 = .ok (.ireturn, 1) := by decide +kernel
theorem dL_law_567 : decode cL_law 567 = .ok (.aload_n 1, 1) := by decide +kernel
theorem dL_law_568 : decode cL_law 568 = .ok (.aload_n 0, 1) := by decide +kernel
theorem dL_law_569 : decode cL_law 569 = .ok (.iload_n 3, 1) := by decide +kernel
theorem dL_law_570 : decode cL_law 570 = .ok (.iconst 1, 1) := by decide +kernel
theorem dL_law_571 : decode cL_law 571 = .ok (.iadd, 1) := by decide +kernel
theorem dL_law_572 : decode cL_law 572 = .ok (.iaload, 1) := by decide +kernel
theorem dL_law_573 : decode cL_law 573 = .ok (.invokevirtual 77, 3) := by decide +kernel
theorem dL_law_576 : decode cL_law 576 = .ok (.aload_n 2, 1) := by decide +kernel
theorem dL_law_577 : decode cL_law 577 = .ok (.aload_n 0, 1) := by decide +kernel
theorem dL_law_578 : decode cL_law 578 = .ok (.iload_n 3, 1) := by decide +kernel
theorem dL_law_579 : decode cL_law 579 = .ok (.iconst 1, 1) := by decide +kernel
theorem dL_law_580 : decode cL_law 580 = .ok (.iadd, 1) := by decide +kernel
theorem dL_law_581 : decode cL_law 581 = .ok (.iaload, 1) := by decide +kernel
theorem dL_law_582 : decode cL_law 582 = .ok (.invokevirtual 80, 3) := by decide +kernel
theorem dL_law_585 : decode cL_law 585 = .ok (.if_icmp .eq 196, 3) := by decide +kernel
theorem dL_law_588 : decode cL_law 588 = .ok (.iconst 0, 1) := by decide +kernel
theorem dL_law_589 : decode cL_law 589 = .ok (.ireturn, 1) := by decide +kernel
theorem dL_law_590 : decode cL_law 590 = .ok (.aload_n 1, 1) := by decide +kernel
theorem dL_law_591 : decode cL_law 591 = .ok (.aload_n 0, 1) := by decide +kernel
theorem dL_law_592 : decode cL_law 592 = .ok (.iload_n 3, 1) := by decide +kernel
theorem dL_law_593 : decode cL_law 593 = .ok (.iconst 1, 1) := by decide +kernel
theorem dL_law_594 : decode cL_law 594 = .ok (.iadd, 1) := by decide +kernel
theorem dL_law_595 : decode cL_law 595 = .ok (.iaload, 1) := by decide +kernel
theorem dL_law_596 : decode cL_law 596 = .ok (.invokevirtual 81, 3) := by decide +kernel
theorem dL_law_599 : decode cL_law 599 = .ok (.aload_n 2, 1) := by decide +kernel
theorem dL_law_600 : decode cL_law 600 = .ok (.aload_n 0, 1) := by decide +kernel
theorem dL_law_601 : decode cL_law 601 = .ok (.iload_n 3, 1) := by decide +kernel
theorem dL_law_602 : decode cL_law 602 = .ok (.iconst 1, 1) := by decide +kernel
theorem dL_law_603 : decode cL_law 603 = .ok (.iadd, 1) := by decide +kernel
theorem dL_law_604 : decode cL_law 604 = .ok (.iaload, 1) := by decide +kernel
theorem dL_law_605 : decode cL_law 605 = .ok (.invokevirtual 84, 3) := by decide +kernel
theorem dL_law_608 : decode cL_law 608 = .ok (.if_icmp .eq 173, 3) := by decide +kernel
theorem dL_law_611 : decode cL_law 611 = .ok (.iconst 0, 1) := by decide +kernel
theorem dL_law_612 : decode cL_law 612 = .ok (.ireturn, 1) := by decide +kernel
theorem dL_law_613 : decode cL_law 613 = .ok (.aload_n 1, 1) := by decide +kernel
theorem dL_law_614 : decode cL_law 614 = .ok (.invokevirtual 85, 3) := by decide +kernel
theorem dL_law_617 : decode cL_law 617 = .ok (.aload_n 2, 1) := by decide +kernel
theorem dL_law_618 : decode cL_law 618 = .ok (.invokevirtual 88, 3) := by decide +kernel
theorem dL_law_621 : decode cL_law 621 = .ok (.if_icmp .eq 160, 3) := by decide +kernel
theorem dL_law_624 : decode cL_law 624 = .ok (.iconst 0, 1) := by decide +kernel
theorem dL_law_625 : decode cL_law 625 = .ok (.ireturn, 1) := by decide +kernel
theorem dL_law_626 : decode cL_law 626 = .ok (.aload_n 1, 1) := by decide +kernel
theorem dL_law_627 : decode cL_law 627 = .ok (.aload_n 0, 1) := by decide +kernel
theorem dL_law_628 : decode cL_law 628 = .ok (.iload_n 3, 1) := by decide +kernel
theorem dL_law_629 : decode cL_law 629 = .ok (.iconst 1, 1) := by decide +kernel
theorem dL_law_630 : decode cL_law 630 = .ok (.iadd, 1) := by decide +kernel
theorem dL_law_631 : decode cL_law 631 = .ok (.iaload, 1) := by decide +kernel
theorem dL_law_632 : decode cL_law 632 = .ok (.invokevirtual 89, 3) := by decide +kernel
theorem dL_law_635 : decode cL_law 635 = .ok (.aload_n 2, 1) := by decide +kernel
theorem dL_law_636 : decode cL_law 636 = .ok (.aload_n 0, 1) := by decide +kernel
theorem dL_law_637 : decode cL_law 637 = .ok (.iload_n 3, 1) := by decide +kernel
theorem dL_law_638 : decode cL_law 638 = .ok (.iconst 1, 1) := by decide +kernel
theorem dL_law_639 : decode cL_law 639 = .ok (.iadd, 1) := by decide +kernel
theorem dL_law_640 : decode cL_law 640 = .ok (.iaload, 1) := by decide +kernel
theorem dL_law_641 : decode cL_law 641 = .ok (.invokevirtual 92, 3) := by decide +kernel
theorem dL_law_644 : decode cL_law 644 = .ok (.if_icmp .eq 137, 3) := by decide +kernel
theorem dL_law_647 : decode cL_law 647 = .ok (.iconst 0, 1) := by decide +kernel
theorem dL_law_648 : decode cL_law 648 = .ok (.ireturn, 1) := by decide +kernel
theorem dL_law_649 : decode cL_law 649 = .ok (.aload_n 1, 1) := by decide +kernel
theorem dL_law_650 : decode cL_law 650 = .ok (.aload_n 0, 1) := by decide +kernel
theorem dL_law_651 : decode cL_law 651 = .ok (.iload_n 3, 1) := by decide +kernel
theorem dL_law_652 : decode cL_law 652 = .ok (.iconst 1, 1) := by decide +kernel
theorem dL_law_653 : decode cL_law 653 = .ok (.iadd, 1) := by decide +kernel
theorem dL_law_654 : decode cL_law 654 = .ok (.iaload, 1) := by decide +kernel
theorem dL_law_655 : decode cL_law 655 = .ok (.aload_n 0, 1) := by decide +kernel
theorem dL_law_656 : decode cL_law 656 = .ok (.iload_n 3, 1) := by decide +kernel
theorem dL_law_657 : decode cL_law 657 = .ok (.iconst 2, 1) := by decide +kernel
theorem dL_law_658 : decode cL_law 658 = .ok (.iadd, 1) := by decide +kernel
theorem dL_law_659 : decode cL_law 659 = .ok (.iaload, 1) := by decide +kernel
theorem dL_law_660 : decode cL_law 660 = .ok (.invokevirtual 93, 3) := by decide +kernel
theorem dL_law_663 : decode cL_law 663 = .ok (.aload_n 2, 1) := by decide +kernel
theorem dL_law_664 : decode cL_law 664 = .ok (.aload_n 0, 1) := by decide +kernel
theorem dL_law_665 : decode cL_law 665 = .ok (.iload_n 3, 1) := by decide +kernel
theorem dL_law_666 : decode cL_law 666 = .ok (.iconst 1, 1) := by decide +kernel
theorem dL_law_667 : decode cL_law 667 = .ok (.iadd, 1) := by decide +kernel
theorem dL_law_668 : decode cL_law 668 = .ok (.iaload, 1) := by decide +kernel
theorem dL_law_669 : decode cL_law 669 = .ok (.aload_n 0, 1) := by decide +kernel
theorem dL_law_670 : decode cL_law 670 = .ok (.iload_n 3, 1) := by decide +kernel
theorem dL_law_671 : decode cL_law 671 = .ok (.iconst 2, 1) := by decide +kernel
theorem dL_law_672 : decode cL_law 672 = .ok (.iadd, 1) := by decide +kernel
theorem dL_law_673 : decode cL_law 673 = .ok (.iaload, 1) := by decide +kernel
theorem dL_law_674 : decode cL_law 674 = .ok (.invokevirtual 96, 3) := by decide +kernel
theorem dL_law_677 : decode cL_law 677 = .ok (.if_icmp .eq 104, 3) := by decide +kernel
theorem dL_law_680 : decode cL_law 680 = .ok (.iconst 0, 1) := by decide +kernel
theorem dL_law_681 : decode cL_law 681 = .ok (.ireturn, 1) := by decide +kernel
theorem dL_law_682 : decode cL_law 682 = .ok (.aload_n 1, 1) := by decide +kernel
theorem dL_law_683 : decode cL_law 683 = .ok (.aload_n 0, 1) := by decide +kernel
theorem dL_law_684 : decode cL_law 684 = .ok (.iload_n 3, 1) := by decide +kernel
theorem dL_law_685 : decode cL_law 685 = .ok (.iconst 1, 1) := by decide +kernel
theorem dL_law_686 : decode cL_law 686 = .ok (.iadd, 1) := by decide +kernel
theorem dL_law_687 : decode cL_law 687 = .ok (.iaload, 1) := by decide +kernel
theorem dL_law_688 : decode cL_law 688 = .ok (.invokevirtual 97, 3) := by decide +kernel
theorem dL_law_691 : decode cL_law 691 = .ok (.aload_n 2, 1) := by decide +kernel
theorem dL_law_692 : decode cL_law 692 = .ok (.aload_n 0, 1) := by decide +kernel
theorem dL_law_693 : decode cL_law 693 = .ok (.iload_n 3, 1) := by decide +kernel
theorem dL_law_694 : decode cL_law 694 = .ok (.iconst 1, 1) := by decide +kernel
theorem dL_law_695 : decode cL_law 695 = .ok (.iadd, 1) := by decide +kernel
theorem dL_law_696 : decode cL_law 696 = .ok (.iaload, 1) := by decide +kernel
theorem dL_law_697 : decode cL_law 697 = .ok (.invokevirtual 100, 3) := by decide +kernel
theorem dL_law_700 : decode cL_law 700 = .ok (.if_icmp .eq 81, 3) := by decide +kernel
theorem dL_law_703 : decode cL_law 703 = .ok (.iconst 0, 1) := by decide +kernel
theorem dL_law_704 : decode cL_law 704 = .ok (.ireturn, 1) := by decide +kernel
theorem dL_law_705 : decode cL_law 705 = .ok (.aload_n 1, 1) := by decide +kernel
theorem dL_law_706 : decode cL_law 706 = .ok (.invokevirtual 101, 3) := by decide +kernel
theorem dL_law_709 : decode cL_law 709 = .ok (.aload_n 2, 1) := by decide +kernel
theorem dL_law_710 : decode cL_law 710 = .ok (.invokevirtual 104, 3) := by decide +kernel
theorem dL_law_713 : decode cL_law 713 = .ok (.if_icmp .eq 68, 3) := by decide +kernel
theorem dL_law_716 : decode cL_law 716 = .ok (.iconst 0, 1) := by decide +kernel
theorem dL_law_717 : decode cL_law 717 = .ok (.ireturn, 1) := by decide +kernel
theorem dL_law_718 : decode cL_law 718 = .ok (.aload_n 1, 1) := by decide +kernel
theorem dL_law_719 : decode cL_law 719 = .ok (.invokevirtual 105, 3) := by decide +kernel
theorem dL_law_722 : decode cL_law 722 = .ok (.aload_n 2, 1) := by decide +kernel
theorem dL_law_723 : decode cL_law 723 = .ok (.invokevirtual 108, 3) := by decide +kernel
theorem dL_law_726 : decode cL_law 726 = .ok (.if_icmp .eq 55, 3) := by decide +kernel
theorem dL_law_729 : decode cL_law 729 = .ok (.iconst 0, 1) := by decide +kernel
theorem dL_law_730 : decode cL_law 730 = .ok (.ireturn, 1) := by decide +kernel
theorem dL_law_731 : decode cL_law 731 = .ok (.aload_n 1, 1) := by decide +kernel
theorem dL_law_732 : decode cL_law 732 = .ok (.invokevirtual 109, 3) := by decide +kernel
theorem dL_law_735 : decode cL_law 735 = .ok (.aload_n 2, 1) := by decide +kernel
theorem dL_law_736 : decode cL_law 736 = .ok (.invokevirtual 112, 3) := by decide +kernel
theorem dL_law_739 : decode cL_law 739 = .ok (.if_icmp .eq 42, 3) := by decide +kernel
theorem dL_law_742 : decode cL_law 742 = .ok (.iconst 0, 1) := by decide +kernel
theorem dL_law_743 : decode cL_law 743 = .ok (.ireturn, 1) := by decide +kernel
theorem dL_law_744 : decode cL_law 744 = .ok (.aload_n 1, 1) := by decide +kernel
theorem dL_law_745 : decode cL_law 745 = .ok (.aload_n 0, 1) := by decide +kernel
theorem dL_law_746 : decode cL_law 746 = .ok (.iload_n 3, 1) := by decide +kernel
theorem dL_law_747 : decode cL_law 747 = .ok (.iconst 1, 1) := by decide +kernel
theorem dL_law_748 : decode cL_law 748 = .ok (.iadd, 1) := by decide +kernel
theorem dL_law_749 : decode cL_law 749 = .ok (.iaload, 1) := by decide +kernel
theorem dL_law_750 : decode cL_law 750 = .ok (.invokevirtual 113, 3) := by decide +kernel
theorem dL_law_753 : decode cL_law 753 = .ok (.aload_n 2, 1) := by decide +kernel
theorem dL_law_754 : decode cL_law 754 = .ok (.aload_n 0, 1) := by decide +kernel
theorem dL_law_755 : decode cL_law 755 = .ok (.iload_n 3, 1) := by decide +kernel
theorem dL_law_756 : decode cL_law 756 = .ok (.iconst 1, 1) := by decide +kernel
theorem dL_law_757 : decode cL_law 757 = .ok (.iadd, 1) := by decide +kernel
theorem dL_law_758 : decode cL_law 758 = .ok (.iaload, 1) := by decide +kernel
theorem dL_law_759 : decode cL_law 759 = .ok (.invokevirtual 116, 3) := by decide +kernel
theorem dL_law_762 : decode cL_law 762 = .ok (.if_icmp .eq 19, 3) := by decide +kernel
theorem dL_law_765 : decode cL_law 765 = .ok (.iconst 0, 1) := by decide +kernel
theorem dL_law_766 : decode cL_law 766 = .ok (.ireturn, 1) := by decide +kernel
theorem dL_law_767 : decode cL_law 767 = .ok (.aload_n 1, 1) := by decide +kernel
theorem dL_law_768 : decode cL_law 768 = .ok (.invokevirtual 117, 3) := by decide +kernel
theorem dL_law_771 : decode cL_law 771 = .ok (.aload_n 2, 1) := by decide +kernel
theorem dL_law_772 : decode cL_law 772 = .ok (.invokevirtual 121, 3) := by decide +kernel
theorem dL_law_775 : decode cL_law 775 = .ok (.lcmp, 1) := by decide +kernel
theorem dL_law_776 : decode cL_law 776 = .ok (.ifCond .eq 5, 3) := by decide +kernel
theorem dL_law_779 : decode cL_law 779 = .ok (.iconst 0, 1) := by decide +kernel
theorem dL_law_780 : decode cL_law 780 = .ok (.ireturn, 1) := by decide +kernel
theorem dL_law_781 : decode cL_law 781 = .ok (.iinc 3 4, 3) := by decide +kernel
theorem dL_law_784 : decode cL_law 784 = .ok (.goto (-766), 3) := by decide +kernel
theorem dL_law_787 : decode cL_law 787 = .ok (.iconst 1, 1) := by decide +kernel
theorem dL_law_788 : decode cL_law 788 = .ok (.ireturn, 1) := by decide +kernel
end
section
def lw_g : List Cond := lw_tbl.filter goodWord
theorem gw {w : Cond} (h : w ∈ lw_tbl) (hg : goodWord w = true) : w ∈ lw_g := List.mem_filter.mpr ⟨h, hg⟩
theorem mw_0 : Cond.selects "PillarRuns" yX6_refuse yX6_refuse ∈ lw_g := gw (List.mem_of_getElem? (i := 0) (by decide +kernel)) rfl
theorem mw_1 : Cond.selects "PillarRuns$Bearing" yX0_claim yX0_claim ∈ lw_g := gw (List.mem_of_getElem? (i := 1) (by decide +kernel)) rfl
theorem mw_2 : Cond.selects "PillarRuns$Bearing" yX0_weigh yX0_weigh ∈ lw_g := gw (List.mem_of_getElem? (i := 2) (by decide +kernel)) rfl
theorem mw_3 : Cond.selects "PillarRuns" yX6_tellPillar yX6_tellPillar ∈ lw_g := gw (List.mem_of_getElem? (i := 3) (by decide +kernel)) rfl
theorem mw_4 : Cond.selects "PillarRuns" yX6_tellMine yX6_tellMine ∈ lw_g := gw (List.mem_of_getElem? (i := 4) (by decide +kernel)) rfl
theorem mw_5 : Cond.selects "PillarRuns$Bearing" yX0_arePair yX0_arePair ∈ lw_g := gw (List.mem_of_getElem? (i := 5) (by decide +kernel)) rfl
theorem mw_6 : Cond.selects "PillarRuns$Run" yX2_crushWave yX2_crushWave ∈ lw_g := gw (List.mem_of_getElem? (i := 6) (by decide +kernel)) rfl
theorem mw_7 : Cond.selects "PillarRuns$Text" yX4_skipBlanks yX4_skipBlanks ∈ lw_g := gw (List.mem_of_getElem? (i := 7) (by decide +kernel)) rfl
theorem mw_8 : Cond.selects "PillarRuns$Text" yX4_fail yX4_fail ∈ lw_g := gw (List.mem_of_getElem? (i := 8) (by decide +kernel)) rfl
theorem mw_9 : Cond.selects "PillarRuns$Text" yX4_readOrder yX4_readOrder ∈ lw_g := gw (List.mem_of_getElem? (i := 9) (by decide +kernel)) rfl
theorem mw_10 : Cond.selects "PillarRuns$Text" yX4_readPillar yX4_readPillar ∈ lw_g := gw (List.mem_of_getElem? (i := 10) (by decide +kernel)) rfl
theorem mw_11 : Cond.selects "PillarRuns$Text" yX4_readCell yX4_readCell ∈ lw_g := gw (List.mem_of_getElem? (i := 11) (by decide +kernel)) rfl
theorem mw_12 : Cond.selects "PillarRuns$Text" yX4_readNumber yX4_readNumber ∈ lw_g := gw (List.mem_of_getElem? (i := 12) (by decide +kernel)) rfl
theorem mw_13 : Cond.selects "PillarRuns$Text" yX4_readEnd yX4_readEnd ∈ lw_g := gw (List.mem_of_getElem? (i := 13) (by decide +kernel)) rfl
theorem mw_14 : Cond.selects "PillarRuns$Text" yX4_readWeight yX4_readWeight ∈ lw_g := gw (List.mem_of_getElem? (i := 14) (by decide +kernel)) rfl
theorem mw_15 : Cond.selects "PillarRuns$Text" yX4_readWall yX4_readWall ∈ lw_g := gw (List.mem_of_getElem? (i := 15) (by decide +kernel)) rfl
theorem mw_16 : Cond.selects "PillarRuns$Text" yX4_readCrushed yX4_readCrushed ∈ lw_g := gw (List.mem_of_getElem? (i := 16) (by decide +kernel)) rfl
theorem mw_17 : Cond.selects "PillarRuns" yX6_tellCount yX6_tellCount ∈ lw_g := gw (List.mem_of_getElem? (i := 17) (by decide +kernel)) rfl
theorem mw_18 : Cond.selects "PillarRunsModel" yX7_no yX7_no ∈ lw_g := gw (List.mem_of_getElem? (i := 18) (by decide +kernel)) rfl
theorem mw_19 : Cond.selects "PillarRunsModel" yX7_comesBack yX7_comesBack ∈ lw_g := gw (List.mem_of_getElem? (i := 19) (by decide +kernel)) rfl
theorem mw_20 : Cond.selects "PillarRunsModel" yX7_noWaves yX7_noWaves ∈ lw_g := gw (List.mem_of_getElem? (i := 20) (by decide +kernel)) rfl
theorem mw_21 : Cond.selects "PillarRunsModel" yX7_bad yX7_bad ∈ lw_g := gw (List.mem_of_getElem? (i := 21) (by decide +kernel)) rfl
theorem mw_22 : Cond.selects "PillarRunsModel" yX7_pillarAt yX7_pillarAt ∈ lw_g := gw (List.mem_of_getElem? (i := 22) (by decide +kernel)) rfl
theorem mw_23 : Cond.selects "PillarRunsModel" yX7_full yX7_full ∈ lw_g := gw (List.mem_of_getElem? (i := 23) (by decide +kernel)) rfl
theorem mw_24 : Cond.selects "PillarRunsModel" yX7_leavesState yX7_leavesState ∈ lw_g := gw (List.mem_of_getElem? (i := 24) (by decide +kernel)) rfl
theorem mw_25 : Cond.selects "PillarRunsModel" yX7_writes yX7_writes ∈ lw_g := gw (List.mem_of_getElem? (i := 25) (by decide +kernel)) rfl
theorem mw_26 : Cond.selects "PillarRunsModel" yX7_comesPillar yX7_comesPillar ∈ lw_g := gw (List.mem_of_getElem? (i := 26) (by decide +kernel)) rfl
theorem mw_27 : Cond.selects "PillarRunsModel" yX7_isPillar yX7_isPillar ∈ lw_g := gw (List.mem_of_getElem? (i := 27) (by decide +kernel)) rfl
theorem mw_28 : Cond.selects "PillarRunsModel" yX7_ofBy yX7_ofBy ∈ lw_g := gw (List.mem_of_getElem? (i := 28) (by decide +kernel)) rfl
theorem mw_29 : Cond.selects "PillarRunsModel" yX7_bears yX7_bears ∈ lw_g := gw (List.mem_of_getElem? (i := 29) (by decide +kernel)) rfl
theorem mw_30 : Cond.selects "PillarRunsModel" yX7_setRooms yX7_setRooms ∈ lw_g := gw (List.mem_of_getElem? (i := 30) (by decide +kernel)) rfl
theorem mw_31 : Cond.selects "PillarRunsModel" yX7_wallsAhead yX7_wallsAhead ∈ lw_g := gw (List.mem_of_getElem? (i := 31) (by decide +kernel)) rfl
theorem mw_32 : Cond.selects "PillarRunsModel" yX7_bearer yX7_bearer ∈ lw_g := gw (List.mem_of_getElem? (i := 32) (by decide +kernel)) rfl
theorem mw_33 : Cond.selects "PillarRunsModel" yX7_roomOf yX7_roomOf ∈ lw_g := gw (List.mem_of_getElem? (i := 33) (by decide +kernel)) rfl
theorem mw_34 : Cond.selects "PillarRunsModel" yX7_stands yX7_stands ∈ lw_g := gw (List.mem_of_getElem? (i := 34) (by decide +kernel)) rfl
theorem mw_35 : Cond.selects "PillarRunsModel" yX7_allBy yX7_allBy ∈ lw_g := gw (List.mem_of_getElem? (i := 35) (by decide +kernel)) rfl
theorem mw_36 : Cond.selects "PillarRunsModel" yX7_tooMuch yX7_tooMuch ∈ lw_g := gw (List.mem_of_getElem? (i := 36) (by decide +kernel)) rfl
theorem mw_37 : Cond.selects "PillarRunsModel" yX7_allWeight yX7_allWeight ∈ lw_g := gw (List.mem_of_getElem? (i := 37) (by decide +kernel)) rfl
theorem mw_38 : Cond.selects "PillarRunsModel" yX7_rooms yX7_rooms ∈ lw_g := gw (List.mem_of_getElem? (i := 38) (by decide +kernel)) rfl
theorem mw_39 : Cond.selects "PillarRunsModel" yX7_heldRooms yX7_heldRooms ∈ lw_g := gw (List.mem_of_getElem? (i := 39) (by decide +kernel)) rfl
theorem mw_40 : Cond.selects "PillarRunsModel" yX7_isSide yX7_isSide ∈ lw_g := gw (List.mem_of_getElem? (i := 40) (by decide +kernel)) rfl
theorem mw_41 : Cond.selects "PillarRunsModel" yX7_goes yX7_goes ∈ lw_g := gw (List.mem_of_getElem? (i := 41) (by decide +kernel)) rfl
theorem mw_42 : Cond.selects "PillarRunsModel" yX7_waveOf yX7_waveOf ∈ lw_g := gw (List.mem_of_getElem? (i := 42) (by decide +kernel)) rfl
theorem mw_43 : Cond.selects "PillarRunsModel" yX7_lossOf yX7_lossOf ∈ lw_g := gw (List.mem_of_getElem? (i := 43) (by decide +kernel)) rfl
theorem mw_44 : Cond.selects "PillarRunsModel" yX7_left yX7_left ∈ lw_g := gw (List.mem_of_getElem? (i := 44) (by decide +kernel)) rfl
theorem mw_45 : Cond.selects "PillarRunsModel" yX7_leftCut yX7_leftCut ∈ lw_g := gw (List.mem_of_getElem? (i := 45) (by decide +kernel)) rfl
theorem mw_46 : Cond.selects "PillarRunsModel" yX7_here yX7_here ∈ lw_g := gw (List.mem_of_getElem? (i := 46) (by decide +kernel)) rfl
theorem mw_47 : Cond.selects "PillarRunsModel" yX7_keepsAhead yX7_keepsAhead ∈ lw_g := gw (List.mem_of_getElem? (i := 47) (by decide +kernel)) rfl
theorem mw_48 : Cond.selects "PillarRunsModel" yX7_readsOrder yX7_readsOrder ∈ lw_g := gw (List.mem_of_getElem? (i := 48) (by decide +kernel)) rfl
theorem mw_49 : Cond.selects "PillarRunsModel" yX7_readsPillar yX7_readsPillar ∈ lw_g := gw (List.mem_of_getElem? (i := 49) (by decide +kernel)) rfl
theorem mw_50 : Cond.selects "PillarRunsModel" yX7_readsCell yX7_readsCell ∈ lw_g := gw (List.mem_of_getElem? (i := 50) (by decide +kernel)) rfl
theorem mw_51 : Cond.selects "PillarRunsModel" yX7_readsNumber yX7_readsNumber ∈ lw_g := gw (List.mem_of_getElem? (i := 51) (by decide +kernel)) rfl
theorem mw_52 : Cond.selects "PillarRunsModel" yX7_ends yX7_ends ∈ lw_g := gw (List.mem_of_getElem? (i := 52) (by decide +kernel)) rfl
theorem mw_53 : Cond.selects "PillarRunsModel" yX7_readsWeight yX7_readsWeight ∈ lw_g := gw (List.mem_of_getElem? (i := 53) (by decide +kernel)) rfl
theorem mw_54 : Cond.selects "PillarRunsModel" yX7_readsWall yX7_readsWall ∈ lw_g := gw (List.mem_of_getElem? (i := 54) (by decide +kernel)) rfl
theorem mw_55 : Cond.selects "PillarRunsModel" yX7_readsCrushed yX7_readsCrushed ∈ lw_g := gw (List.mem_of_getElem? (i := 55) (by decide +kernel)) rfl
theorem mw_56 : Cond.selects "PillarRunsModel" yX7_readsRun yX7_readsRun ∈ lw_g := gw (List.mem_of_getElem? (i := 56) (by decide +kernel)) rfl
theorem mw_57 : Cond.selects "PillarRunsModel" yX7_asAhead yX7_asAhead ∈ lw_g := gw (List.mem_of_getElem? (i := 57) (by decide +kernel)) rfl
theorem mw_58 : Cond.selects "PillarRunsModel" yX7_leavesAhead yX7_leavesAhead ∈ lw_g := gw (List.mem_of_getElem? (i := 58) (by decide +kernel)) rfl
theorem mw_59 : Cond.selects "PillarRunsModel" yX7_toldBy yX7_toldBy ∈ lw_g := gw (List.mem_of_getElem? (i := 59) (by decide +kernel)) rfl
theorem mw_60 : Cond.initialized "PillarRunsLaw" ∈ lw_g := gw (List.mem_of_getElem? (i := 60) (by decide +kernel)) rfl
theorem mw_61 : Cond.initialized "PillarRuns" ∈ lw_g := gw (List.mem_of_getElem? (i := 61) (by decide +kernel)) rfl
theorem mw_62 : Cond.initialized "PillarRuns$Mine" ∈ lw_g := gw (List.mem_of_getElem? (i := 62) (by decide +kernel)) rfl
theorem mw_63 : Cond.initialized "java/util/Arrays" ∈ lw_g := gw (List.mem_of_getElem? (i := 63) (by decide +kernel)) rfl
theorem mw_64 : Cond.initialized "PillarRuns$Bearing" ∈ lw_g := gw (List.mem_of_getElem? (i := 64) (by decide +kernel)) rfl
theorem mw_65 : Cond.initialized "PillarRuns$Run" ∈ lw_g := gw (List.mem_of_getElem? (i := 65) (by decide +kernel)) rfl
theorem mw_66 : Cond.initialized "PillarRuns$States" ∈ lw_g := gw (List.mem_of_getElem? (i := 66) (by decide +kernel)) rfl
theorem mw_67 : Cond.initialized "PillarRuns$Trial" ∈ lw_g := gw (List.mem_of_getElem? (i := 67) (by decide +kernel)) rfl
theorem mw_68 : Cond.initialized "PillarRuns$Text" ∈ lw_g := gw (List.mem_of_getElem? (i := 68) (by decide +kernel)) rfl
theorem mw_69 : Cond.initialized "PillarRunsModel" ∈ lw_g := gw (List.mem_of_getElem? (i := 69) (by decide +kernel)) rfl
theorem mw_70 : Cond.initialized "java/lang/System" ∈ lw_g := gw (List.mem_of_getElem? (i := 70) (by decide +kernel)) rfl
theorem mw_71 : Cond.initialized "java/lang/Math" ∈ lw_g := gw (List.mem_of_getElem? (i := 71) (by decide +kernel)) rfl
theorem mw_72 : Cond.classLink "PillarRunsLaw" 7 "PillarRuns" ∈ lw_g := gw (List.mem_of_getElem? (i := 72) (by decide +kernel)) rfl
theorem mw_73 : Cond.instantiable "PillarRuns" 7 ∈ lw_g := gw (List.mem_of_getElem? (i := 73) (by decide +kernel)) rfl
theorem mw_74 : Cond.methodLink "PillarRunsLaw" 9 yX6_init ∈ lw_g := gw (List.mem_of_getElem? (i := 74) (by decide +kernel)) rfl
theorem mw_75 : Cond.instanceMethod yX6_init ∈ lw_g := gw (List.mem_of_getElem? (i := 75) (by decide +kernel)) rfl
theorem mw_76 : Cond.code yX6_init prog_1_method_1_code 1 none ∈ lw_g := gw (List.mem_of_getElem? (i := 76) (by decide +kernel)) rfl
theorem mw_77 : Cond.methodLink "PillarRuns" 1 Lib.objectInit ∈ lw_g := gw (List.mem_of_getElem? (i := 77) (by decide +kernel)) rfl
theorem mw_78 : Cond.instanceMethod Lib.objectInit ∈ lw_g := gw (List.mem_of_getElem? (i := 78) (by decide +kernel)) rfl
theorem mw_79 : Cond.code Lib.objectInit object_method_1_code 1 none ∈ lw_g := gw (List.mem_of_getElem? (i := 79) (by decide +kernel)) rfl
theorem mw_80 : Cond.classLink "PillarRuns" 7 "PillarRuns$Mine" ∈ lw_g := gw (List.mem_of_getElem? (i := 80) (by decide +kernel)) rfl
theorem mw_81 : Cond.instantiable "PillarRuns$Mine" 6 ∈ lw_g := gw (List.mem_of_getElem? (i := 81) (by decide +kernel)) rfl
theorem mw_82 : Cond.methodLink "PillarRuns" 9 yX1_init ∈ lw_g := gw (List.mem_of_getElem? (i := 82) (by decide +kernel)) rfl
theorem mw_83 : Cond.instanceMethod yX1_init ∈ lw_g := gw (List.mem_of_getElem? (i := 83) (by decide +kernel)) rfl
theorem mw_84 : Cond.code yX1_init prog_3_method_1_code 1 none ∈ lw_g := gw (List.mem_of_getElem? (i := 84) (by decide +kernel)) rfl
theorem mw_85 : Cond.methodLink "PillarRuns$Mine" 3 Lib.objectInit ∈ lw_g := gw (List.mem_of_getElem? (i := 85) (by decide +kernel)) rfl
theorem mw_86 : Cond.methodLink "PillarRuns$Mine" 27 yX1_reset ∈ lw_g := gw (List.mem_of_getElem? (i := 86) (by decide +kernel)) rfl
theorem mw_87 : Cond.instanceMethod yX1_reset ∈ lw_g := gw (List.mem_of_getElem? (i := 87) (by decide +kernel)) rfl
theorem mw_88 : Cond.selects "PillarRuns$Mine" yX1_reset yX1_reset ∈ lw_g := gw (List.mem_of_getElem? (i := 88) (by decide +kernel)) rfl
theorem mw_89 : Cond.code yX1_reset prog_3_method_2_code 1 none ∈ lw_g := gw (List.mem_of_getElem? (i := 89) (by decide +kernel)) rfl
theorem mw_90 : Cond.methodLink "PillarRuns$Mine" 30 yJ7_fill_53178 ∈ lw_g := gw (List.mem_of_getElem? (i := 90) (by decide +kernel)) rfl
theorem mw_91 : Cond.static yJ7_fill_53178 ∈ lw_g := gw (List.mem_of_getElem? (i := 91) (by decide +kernel)) rfl
theorem mw_92 : Cond.code yJ7_fill_53178 prog_12_method_103_code 4 none ∈ lw_g := gw (List.mem_of_getElem? (i := 92) (by decide +kernel)) rfl
theorem mw_93 : Cond.fieldLink "PillarRuns$Mine" 9 "PillarRuns$Mine" "weights" "[I" ∈ lw_g := gw (List.mem_of_getElem? (i := 93) (by decide +kernel)) rfl
theorem mw_94 : Cond.fieldLink "PillarRuns" 85 "PillarRuns$Mine" "weights" "[I" ∈ lw_g := gw (List.mem_of_getElem? (i := 94) (by decide +kernel)) rfl
theorem mw_95 : Cond.fieldLink "PillarRuns$Bearing" 64 "PillarRuns$Mine" "weights" "[I" ∈ lw_g := gw (List.mem_of_getElem? (i := 95) (by decide +kernel)) rfl
theorem mw_96 : Cond.fieldLink "PillarRuns$Text" 84 "PillarRuns$Mine" "weights" "[I" ∈ lw_g := gw (List.mem_of_getElem? (i := 96) (by decide +kernel)) rfl
theorem mw_97 : Cond.fieldLink "PillarRuns$Mine" 15 "PillarRuns$Mine" "cells" "[I" ∈ lw_g := gw (List.mem_of_getElem? (i := 97) (by decide +kernel)) rfl
theorem mw_98 : Cond.fieldLink "PillarRuns$Bearing" 47 "PillarRuns$Mine" "cells" "[I" ∈ lw_g := gw (List.mem_of_getElem? (i := 98) (by decide +kernel)) rfl
theorem mw_99 : Cond.fieldLink "PillarRuns" 233 "PillarRuns$Mine" "cells" "[I" ∈ lw_g := gw (List.mem_of_getElem? (i := 99) (by decide +kernel)) rfl
theorem mw_100 : Cond.fieldLink "PillarRuns$Mine" 18 "PillarRuns$Mine" "strengths" "[I" ∈ lw_g := gw (List.mem_of_getElem? (i := 100) (by decide +kernel)) rfl
theorem mw_101 : Cond.fieldLink "PillarRuns$Bearing" 67 "PillarRuns$Mine" "strengths" "[I" ∈ lw_g := gw (List.mem_of_getElem? (i := 101) (by decide +kernel)) rfl
theorem mw_102 : Cond.fieldLink "PillarRuns" 104 "PillarRuns$Mine" "strengths" "[I" ∈ lw_g := gw (List.mem_of_getElem? (i := 102) (by decide +kernel)) rfl
theorem mw_103 : Cond.fieldLink "PillarRuns$Mine" 21 "PillarRuns$Mine" "stands" "[I" ∈ lw_g := gw (List.mem_of_getElem? (i := 103) (by decide +kernel)) rfl
theorem mw_104 : Cond.fieldLink "PillarRuns$Bearing" 36 "PillarRuns$Mine" "stands" "[I" ∈ lw_g := gw (List.mem_of_getElem? (i := 104) (by decide +kernel)) rfl
theorem mw_105 : Cond.fieldLink "PillarRuns$Trial" 41 "PillarRuns$Mine" "stands" "[I" ∈ lw_g := gw (List.mem_of_getElem? (i := 105) (by decide +kernel)) rfl
theorem mw_106 : Cond.fieldLink "PillarRuns$Run" 53 "PillarRuns$Mine" "stands" "[I" ∈ lw_g := gw (List.mem_of_getElem? (i := 106) (by decide +kernel)) rfl
theorem mw_107 : Cond.fieldLink "PillarRuns" 117 "PillarRuns$Mine" "stands" "[I" ∈ lw_g := gw (List.mem_of_getElem? (i := 107) (by decide +kernel)) rfl
theorem mw_108 : Cond.fieldLink "PillarRuns$Text" 96 "PillarRuns$Mine" "stands" "[I" ∈ lw_g := gw (List.mem_of_getElem? (i := 108) (by decide +kernel)) rfl
theorem mw_109 : Cond.fieldLink "PillarRuns$Mine" 24 "PillarRuns$Mine" "walls" "[I" ∈ lw_g := gw (List.mem_of_getElem? (i := 109) (by decide +kernel)) rfl
theorem mw_110 : Cond.fieldLink "PillarRuns$Trial" 48 "PillarRuns$Mine" "walls" "[I" ∈ lw_g := gw (List.mem_of_getElem? (i := 110) (by decide +kernel)) rfl
theorem mw_111 : Cond.fieldLink "PillarRuns" 107 "PillarRuns$Mine" "walls" "[I" ∈ lw_g := gw (List.mem_of_getElem? (i := 111) (by decide +kernel)) rfl
theorem mw_112 : Cond.fieldLink "PillarRuns$Text" 87 "PillarRuns$Mine" "walls" "[I" ∈ lw_g := gw (List.mem_of_getElem? (i := 112) (by decide +kernel)) rfl
theorem mw_113 : Cond.fieldLink "PillarRuns$Mine" 36 "PillarRuns$Mine" "pillars" "I" ∈ lw_g := gw (List.mem_of_getElem? (i := 113) (by decide +kernel)) rfl
theorem mw_114 : Cond.fieldLink "PillarRuns$Bearing" 30 "PillarRuns$Mine" "pillars" "I" ∈ lw_g := gw (List.mem_of_getElem? (i := 114) (by decide +kernel)) rfl
theorem mw_115 : Cond.fieldLink "PillarRuns" 69 "PillarRuns$Mine" "pillars" "I" ∈ lw_g := gw (List.mem_of_getElem? (i := 115) (by decide +kernel)) rfl
theorem mw_116 : Cond.fieldLink "PillarRuns$Text" 64 "PillarRuns$Mine" "pillars" "I" ∈ lw_g := gw (List.mem_of_getElem? (i := 116) (by decide +kernel)) rfl
theorem mw_117 : Cond.fieldLink "PillarRuns$Run" 44 "PillarRuns$Mine" "pillars" "I" ∈ lw_g := gw (List.mem_of_getElem? (i := 117) (by decide +kernel)) rfl
theorem mw_131 : Cond.arrayClass .int ∈ lw_g := gw (List.mem_of_getElem? (i := 131) (by decide +kernel)) rfl
theorem mw_132 : Cond.classLink "PillarRuns" 16 "PillarRuns$Bearing" ∈ lw_g := gw (List.mem_of_getElem? (i := 132) (by decide +kernel)) rfl
theorem mw_133 : Cond.instantiable "PillarRuns$Bearing" 4 ∈ lw_g := gw (List.mem_of_getElem? (i := 133) (by decide +kernel)) rfl
theorem mw_135 : Cond.instanceMethod yX0_init ∈ lw_g := gw (List.mem_of_getElem? (i := 135) (by decide +kernel)) rfl
theorem mw_136 : Cond.code yX0_init prog_2_method_1_code 1 none ∈ lw_g := gw (List.mem_of_getElem? (i := 136) (by decide +kernel)) rfl
theorem mw_137 : Cond.methodLink "PillarRuns$Bearing" 3 Lib.objectInit ∈ lw_g := gw (List.mem_of_getElem? (i := 137) (by decide +kernel)) rfl
theorem mw_138 : Cond.fieldLink "PillarRuns$Bearing" 9 "PillarRuns$Bearing" "under" "[I" ∈ lw_g := gw (List.mem_of_getElem? (i := 138) (by decide +kernel)) rfl
theorem mw_139 : Cond.fieldLink "PillarRuns" 130 "PillarRuns$Bearing" "under" "[I" ∈ lw_g := gw (List.mem_of_getElem? (i := 139) (by decide +kernel)) rfl
theorem mw_140 : Cond.fieldLink "PillarRuns$Bearing" 15 "PillarRuns$Bearing" "apart" "[I" ∈ lw_g := gw (List.mem_of_getElem? (i := 140) (by decide +kernel)) rfl
theorem mw_141 : Cond.fieldLink "PillarRuns$Bearing" 18 "PillarRuns$Bearing" "loads" "[I" ∈ lw_g := gw (List.mem_of_getElem? (i := 141) (by decide +kernel)) rfl
theorem mw_142 : Cond.fieldLink "PillarRuns" 170 "PillarRuns$Bearing" "loads" "[I" ∈ lw_g := gw (List.mem_of_getElem? (i := 142) (by decide +kernel)) rfl
theorem mw_143 : Cond.fieldLink "PillarRuns$Bearing" 21 "PillarRuns$Bearing" "cellsOn" "[I" ∈ lw_g := gw (List.mem_of_getElem? (i := 143) (by decide +kernel)) rfl
theorem mw_144 : Cond.fieldLink "PillarRuns" 236 "PillarRuns$Bearing" "cellsOn" "[I" ∈ lw_g := gw (List.mem_of_getElem? (i := 144) (by decide +kernel)) rfl
theorem mw_154 : Cond.classLink "PillarRuns" 23 "PillarRuns$Run" ∈ lw_g := gw (List.mem_of_getElem? (i := 154) (by decide +kernel)) rfl
theorem mw_155 : Cond.instantiable "PillarRuns$Run" 2 ∈ lw_g := gw (List.mem_of_getElem? (i := 155) (by decide +kernel)) rfl
theorem mw_156 : Cond.methodLink "PillarRuns" 25 yX2_init ∈ lw_g := gw (List.mem_of_getElem? (i := 156) (by decide +kernel)) rfl
theorem mw_157 : Cond.instanceMethod yX2_init ∈ lw_g := gw (List.mem_of_getElem? (i := 157) (by decide +kernel)) rfl
theorem mw_158 : Cond.code yX2_init prog_4_method_1_code 1 none ∈ lw_g := gw (List.mem_of_getElem? (i := 158) (by decide +kernel)) rfl
theorem mw_159 : Cond.methodLink "PillarRuns$Run" 3 Lib.objectInit ∈ lw_g := gw (List.mem_of_getElem? (i := 159) (by decide +kernel)) rfl
theorem mw_160 : Cond.methodLink "PillarRuns$Run" 15 yX2_forget ∈ lw_g := gw (List.mem_of_getElem? (i := 160) (by decide +kernel)) rfl
theorem mw_161 : Cond.instanceMethod yX2_forget ∈ lw_g := gw (List.mem_of_getElem? (i := 161) (by decide +kernel)) rfl
theorem mw_162 : Cond.selects "PillarRuns$Run" yX2_forget yX2_forget ∈ lw_g := gw (List.mem_of_getElem? (i := 162) (by decide +kernel)) rfl
theorem mw_163 : Cond.code yX2_forget prog_4_method_2_code 1 none ∈ lw_g := gw (List.mem_of_getElem? (i := 163) (by decide +kernel)) rfl
theorem mw_164 : Cond.methodLink "PillarRuns$Run" 18 yJ7_fill_53178 ∈ lw_g := gw (List.mem_of_getElem? (i := 164) (by decide +kernel)) rfl
theorem mw_165 : Cond.fieldLink "PillarRuns$Run" 9 "PillarRuns$Run" "waveOf" "[I" ∈ lw_g := gw (List.mem_of_getElem? (i := 165) (by decide +kernel)) rfl
theorem mw_166 : Cond.fieldLink "PillarRuns" 150 "PillarRuns$Run" "waveOf" "[I" ∈ lw_g := gw (List.mem_of_getElem? (i := 166) (by decide +kernel)) rfl
theorem mw_167 : Cond.fieldLink "PillarRuns$Run" 24 "PillarRuns$Run" "waves" "I" ∈ lw_g := gw (List.mem_of_getElem? (i := 167) (by decide +kernel)) rfl
theorem mw_168 : Cond.fieldLink "PillarRuns" 147 "PillarRuns$Run" "waves" "I" ∈ lw_g := gw (List.mem_of_getElem? (i := 168) (by decide +kernel)) rfl
theorem mw_174 : Cond.classLink "PillarRuns" 30 "PillarRuns$States" ∈ lw_g := gw (List.mem_of_getElem? (i := 174) (by decide +kernel)) rfl
theorem mw_175 : Cond.instantiable "PillarRuns$States" 3 ∈ lw_g := gw (List.mem_of_getElem? (i := 175) (by decide +kernel)) rfl
theorem mw_176 : Cond.methodLink "PillarRuns" 32 yX3_init ∈ lw_g := gw (List.mem_of_getElem? (i := 176) (by decide +kernel)) rfl
theorem mw_177 : Cond.instanceMethod yX3_init ∈ lw_g := gw (List.mem_of_getElem? (i := 177) (by decide +kernel)) rfl
theorem mw_178 : Cond.code yX3_init prog_5_method_1_code 2 none ∈ lw_g := gw (List.mem_of_getElem? (i := 178) (by decide +kernel)) rfl
theorem mw_179 : Cond.methodLink "PillarRuns$States" 3 Lib.objectInit ∈ lw_g := gw (List.mem_of_getElem? (i := 179) (by decide +kernel)) rfl
theorem mw_180 : Cond.classLink "PillarRuns$States" 9 "PillarRuns$Mine" ∈ lw_g := gw (List.mem_of_getElem? (i := 180) (by decide +kernel)) rfl
theorem mw_182 : Cond.methodLink "PillarRuns$States" 17 yX1_init ∈ lw_g := gw (List.mem_of_getElem? (i := 182) (by decide +kernel)) rfl
theorem mw_183 : Cond.fieldLink "PillarRuns$States" 11 "PillarRuns$States" "ring" "[LPillarRuns$Mine;" ∈ lw_g := gw (List.mem_of_getElem? (i := 183) (by decide +kernel)) rfl
theorem mw_184 : Cond.fieldLink "PillarRuns$States" 18 "PillarRuns$States" "next" "I" ∈ lw_g := gw (List.mem_of_getElem? (i := 184) (by decide +kernel)) rfl
theorem mw_185 : Cond.fieldLink "PillarRuns$States" 26 "PillarRuns$States" "count" "I" ∈ lw_g := gw (List.mem_of_getElem? (i := 185) (by decide +kernel)) rfl
theorem mw_186 : Cond.fieldLink "PillarRuns" 207 "PillarRuns$States" "count" "I" ∈ lw_g := gw (List.mem_of_getElem? (i := 186) (by decide +kernel)) rfl
theorem mw_194 : Cond.classLink "PillarRuns" 37 "PillarRuns$Trial" ∈ lw_g := gw (List.mem_of_getElem? (i := 194) (by decide +kernel)) rfl
theorem mw_195 : Cond.instantiable "PillarRuns$Trial" 3 ∈ lw_g := gw (List.mem_of_getElem? (i := 195) (by decide +kernel)) rfl
theorem mw_197 : Cond.instanceMethod yX5_init ∈ lw_g := gw (List.mem_of_getElem? (i := 197) (by decide +kernel)) rfl
theorem mw_198 : Cond.code yX5_init prog_7_method_1_code 1 none ∈ lw_g := gw (List.mem_of_getElem? (i := 198) (by decide +kernel)) rfl
theorem mw_199 : Cond.methodLink "PillarRuns$Trial" 1 Lib.objectInit ∈ lw_g := gw (List.mem_of_getElem? (i := 199) (by decide +kernel)) rfl
theorem mw_200 : Cond.classLink "PillarRuns$Trial" 7 "PillarRuns$Mine" ∈ lw_g := gw (List.mem_of_getElem? (i := 200) (by decide +kernel)) rfl
theorem mw_201 : Cond.methodLink "PillarRuns$Trial" 9 yX1_init ∈ lw_g := gw (List.mem_of_getElem? (i := 201) (by decide +kernel)) rfl
theorem mw_202 : Cond.classLink "PillarRuns$Trial" 16 "PillarRuns$Bearing" ∈ lw_g := gw (List.mem_of_getElem? (i := 202) (by decide +kernel)) rfl
theorem mw_204 : Cond.classLink "PillarRuns$Trial" 23 "PillarRuns$Run" ∈ lw_g := gw (List.mem_of_getElem? (i := 204) (by decide +kernel)) rfl
theorem mw_205 : Cond.methodLink "PillarRuns$Trial" 25 yX2_init ∈ lw_g := gw (List.mem_of_getElem? (i := 205) (by decide +kernel)) rfl
theorem mw_206 : Cond.fieldLink "PillarRuns$Trial" 10 "PillarRuns$Trial" "mine" "LPillarRuns$Mine;" ∈ lw_g := gw (List.mem_of_getElem? (i := 206) (by decide +kernel)) rfl
theorem mw_207 : Cond.fieldLink "PillarRuns$Text" 36 "PillarRuns$Trial" "mine" "LPillarRuns$Mine;" ∈ lw_g := gw (List.mem_of_getElem? (i := 207) (by decide +kernel)) rfl
theorem mw_208 : Cond.fieldLink "PillarRuns" 169 "PillarRuns$Trial" "mine" "LPillarRuns$Mine;" ∈ lw_g := gw (List.mem_of_getElem? (i := 208) (by decide +kernel)) rfl
theorem mw_209 : Cond.fieldLink "PillarRuns$Trial" 19 "PillarRuns$Trial" "bearing" "LPillarRuns$Bearing;" ∈ lw_g := gw (List.mem_of_getElem? (i := 209) (by decide +kernel)) rfl
theorem mw_210 : Cond.fieldLink "PillarRuns" 160 "PillarRuns$Trial" "bearing" "LPillarRuns$Bearing;" ∈ lw_g := gw (List.mem_of_getElem? (i := 210) (by decide +kernel)) rfl
theorem mw_211 : Cond.fieldLink "PillarRuns$Trial" 26 "PillarRuns$Trial" "run" "LPillarRuns$Run;" ∈ lw_g := gw (List.mem_of_getElem? (i := 211) (by decide +kernel)) rfl
theorem mw_212 : Cond.fieldLink "PillarRuns" 194 "PillarRuns$Trial" "run" "LPillarRuns$Run;" ∈ lw_g := gw (List.mem_of_getElem? (i := 212) (by decide +kernel)) rfl
theorem mw_220 : Cond.classLink "PillarRuns" 44 "PillarRuns$Text" ∈ lw_g := gw (List.mem_of_getElem? (i := 220) (by decide +kernel)) rfl
theorem mw_221 : Cond.instantiable "PillarRuns$Text" 5 ∈ lw_g := gw (List.mem_of_getElem? (i := 221) (by decide +kernel)) rfl
theorem mw_223 : Cond.instanceMethod yX4_init ∈ lw_g := gw (List.mem_of_getElem? (i := 223) (by decide +kernel)) rfl
theorem mw_224 : Cond.code yX4_init prog_6_method_1_code 1 none ∈ lw_g := gw (List.mem_of_getElem? (i := 224) (by decide +kernel)) rfl
theorem mw_225 : Cond.methodLink "PillarRuns$Text" 3 Lib.objectInit ∈ lw_g := gw (List.mem_of_getElem? (i := 225) (by decide +kernel)) rfl
theorem mw_226 : Cond.fieldLink "PillarRuns$Text" 9 "PillarRuns$Text" "bytes" "[I" ∈ lw_g := gw (List.mem_of_getElem? (i := 226) (by decide +kernel)) rfl
theorem mw_227 : Cond.fieldLink "PillarRuns$Text" 15 "PillarRuns$Text" "length" "I" ∈ lw_g := gw (List.mem_of_getElem? (i := 227) (by decide +kernel)) rfl
theorem mw_228 : Cond.fieldLink "PillarRuns" 188 "PillarRuns$Text" "length" "I" ∈ lw_g := gw (List.mem_of_getElem? (i := 228) (by decide +kernel)) rfl
theorem mw_229 : Cond.fieldLink "PillarRuns$Text" 19 "PillarRuns$Text" "at" "I" ∈ lw_g := gw (List.mem_of_getElem? (i := 229) (by decide +kernel)) rfl
theorem mw_230 : Cond.fieldLink "PillarRuns$Text" 22 "PillarRuns$Text" "fault" "I" ∈ lw_g := gw (List.mem_of_getElem? (i := 230) (by decide +kernel)) rfl
theorem mw_231 : Cond.fieldLink "PillarRuns$Text" 93 "PillarRuns$Text" "numberAt" "I" ∈ lw_g := gw (List.mem_of_getElem? (i := 231) (by decide +kernel)) rfl
theorem mw_243 : Cond.fieldLink "PillarRuns" 10 "PillarRuns" "mine" "LPillarRuns$Mine;" ∈ lw_g := gw (List.mem_of_getElem? (i := 243) (by decide +kernel)) rfl
theorem mw_244 : Cond.fieldLink "PillarRuns" 19 "PillarRuns" "bearing" "LPillarRuns$Bearing;" ∈ lw_g := gw (List.mem_of_getElem? (i := 244) (by decide +kernel)) rfl
theorem mw_245 : Cond.fieldLink "PillarRuns" 26 "PillarRuns" "lastRun" "LPillarRuns$Run;" ∈ lw_g := gw (List.mem_of_getElem? (i := 245) (by decide +kernel)) rfl
theorem mw_246 : Cond.fieldLink "PillarRuns" 33 "PillarRuns" "states" "LPillarRuns$States;" ∈ lw_g := gw (List.mem_of_getElem? (i := 246) (by decide +kernel)) rfl
theorem mw_247 : Cond.fieldLink "PillarRuns" 40 "PillarRuns" "trial" "LPillarRuns$Trial;" ∈ lw_g := gw (List.mem_of_getElem? (i := 247) (by decide +kernel)) rfl
theorem mw_248 : Cond.fieldLink "PillarRuns" 47 "PillarRuns" "text" "LPillarRuns$Text;" ∈ lw_g := gw (List.mem_of_getElem? (i := 248) (by decide +kernel)) rfl
theorem mw_249 : Cond.fieldLink "PillarRuns" 51 "PillarRuns" "refusals" "[I" ∈ lw_g := gw (List.mem_of_getElem? (i := 249) (by decide +kernel)) rfl
theorem mw_265 : Cond.methodLink "PillarRunsLaw" 13 yX6_pillar ∈ lw_g := gw (List.mem_of_getElem? (i := 265) (by decide +kernel)) rfl
theorem mw_266 : Cond.instanceMethod yX6_pillar ∈ lw_g := gw (List.mem_of_getElem? (i := 266) (by decide +kernel)) rfl
theorem mw_267 : Cond.selects "PillarRuns" yX6_pillar yX6_pillar ∈ lw_g := gw (List.mem_of_getElem? (i := 267) (by decide +kernel)) rfl
theorem mw_268 : Cond.code yX6_pillar prog_1_method_2_code 3 (some .int) ∈ lw_g := gw (List.mem_of_getElem? (i := 268) (by decide +kernel)) rfl
theorem mw_269 : Cond.methodLink "PillarRuns" 55 yX6_isCell ∈ lw_g := gw (List.mem_of_getElem? (i := 269) (by decide +kernel)) rfl
theorem mw_270 : Cond.static yX6_isCell ∈ lw_g := gw (List.mem_of_getElem? (i := 270) (by decide +kernel)) rfl
theorem mw_271 : Cond.code yX6_isCell prog_1_method_33_code 1 (some .boolean) ∈ lw_g := gw (List.mem_of_getElem? (i := 271) (by decide +kernel)) rfl
theorem mw_272 : Cond.methodLink "PillarRuns" 81 yX6_isWithin ∈ lw_g := gw (List.mem_of_getElem? (i := 272) (by decide +kernel)) rfl
theorem mw_273 : Cond.static yX6_isWithin ∈ lw_g := gw (List.mem_of_getElem? (i := 273) (by decide +kernel)) rfl
theorem mw_274 : Cond.code yX6_isWithin prog_1_method_32_code 2 (some .boolean) ∈ lw_g := gw (List.mem_of_getElem? (i := 274) (by decide +kernel)) rfl
theorem mw_275 : Cond.methodLink "PillarRuns" 59 yX6_isStrength ∈ lw_g := gw (List.mem_of_getElem? (i := 275) (by decide +kernel)) rfl
theorem mw_276 : Cond.static yX6_isStrength ∈ lw_g := gw (List.mem_of_getElem? (i := 276) (by decide +kernel)) rfl
theorem mw_277 : Cond.code yX6_isStrength prog_1_method_34_code 1 (some .boolean) ∈ lw_g := gw (List.mem_of_getElem? (i := 277) (by decide +kernel)) rfl
theorem mw_278 : Cond.methodLink "PillarRuns" 62 yX6_refuse ∈ lw_g := gw (List.mem_of_getElem? (i := 278) (by decide +kernel)) rfl
theorem mw_280 : Cond.instanceMethod yX6_refuse ∈ lw_g := gw (List.mem_of_getElem? (i := 280) (by decide +kernel)) rfl
theorem mw_281 : Cond.code yX6_refuse prog_1_method_28_code 2 (some .int) ∈ lw_g := gw (List.mem_of_getElem? (i := 281) (by decide +kernel)) rfl
theorem mw_282 : Cond.methodLink "PillarRuns" 66 yX1_hasPillarOn ∈ lw_g := gw (List.mem_of_getElem? (i := 282) (by decide +kernel)) rfl
theorem mw_283 : Cond.instanceMethod yX1_hasPillarOn ∈ lw_g := gw (List.mem_of_getElem? (i := 283) (by decide +kernel)) rfl
theorem mw_284 : Cond.selects "PillarRuns$Mine" yX1_hasPillarOn yX1_hasPillarOn ∈ lw_g := gw (List.mem_of_getElem? (i := 284) (by decide +kernel)) rfl
theorem mw_285 : Cond.code yX1_hasPillarOn prog_3_method_7_code 3 (some .boolean) ∈ lw_g := gw (List.mem_of_getElem? (i := 285) (by decide +kernel)) rfl
theorem mw_286 : Cond.methodLink "PillarRuns" 73 yX3_keep ∈ lw_g := gw (List.mem_of_getElem? (i := 286) (by decide +kernel)) rfl
theorem mw_287 : Cond.instanceMethod yX3_keep ∈ lw_g := gw (List.mem_of_getElem? (i := 287) (by decide +kernel)) rfl
theorem mw_288 : Cond.selects "PillarRuns$States" yX3_keep yX3_keep ∈ lw_g := gw (List.mem_of_getElem? (i := 288) (by decide +kernel)) rfl
theorem mw_289 : Cond.code yX3_keep prog_5_method_2_code 2 none ∈ lw_g := gw (List.mem_of_getElem? (i := 289) (by decide +kernel)) rfl
theorem mw_290 : Cond.methodLink "PillarRuns$States" 22 yX1_copy ∈ lw_g := gw (List.mem_of_getElem? (i := 290) (by decide +kernel)) rfl
theorem mw_291 : Cond.instanceMethod yX1_copy ∈ lw_g := gw (List.mem_of_getElem? (i := 291) (by decide +kernel)) rfl
theorem mw_292 : Cond.selects "PillarRuns$Mine" yX1_copy yX1_copy ∈ lw_g := gw (List.mem_of_getElem? (i := 292) (by decide +kernel)) rfl
theorem mw_293 : Cond.code yX1_copy prog_3_method_3_code 2 none ∈ lw_g := gw (List.mem_of_getElem? (i := 293) (by decide +kernel)) rfl
theorem mw_294 : Cond.methodLink "PillarRuns$Mine" 40 ⟨"java/lang/System","arraycopy","(Ljava/lang/Object;ILjava/lang/Object;II)V"⟩ ∈ lw_g := gw (List.mem_of_getElem? (i := 294) (by decide +kernel)) rfl
theorem mw_295 : Cond.static ⟨"java/lang/System","arraycopy","(Ljava/lang/Object;ILjava/lang/Object;II)V"⟩ ∈ lw_g := gw (List.mem_of_getElem? (i := 295) (by decide +kernel)) rfl
theorem mw_296 : Cond.native ⟨"java/lang/System","arraycopy","(Ljava/lang/Object;ILjava/lang/Object;II)V"⟩ ∈ lw_g := gw (List.mem_of_getElem? (i := 296) (by decide +kernel)) rfl
theorem mw_297 : Cond.methodLink "PillarRuns$States" 29 yJ9_min_7cf53 ∈ lw_g := gw (List.mem_of_getElem? (i := 297) (by decide +kernel)) rfl
theorem mw_298 : Cond.static yJ9_min_7cf53 ∈ lw_g := gw (List.mem_of_getElem? (i := 298) (by decide +kernel)) rfl
theorem mw_299 : Cond.code yJ9_min_7cf53 prog_10_method_69_code 2 (some .int) ∈ lw_g := gw (List.mem_of_getElem? (i := 299) (by decide +kernel)) rfl
theorem mw_300 : Cond.methodLink "PillarRuns" 77 yX1_add ∈ lw_g := gw (List.mem_of_getElem? (i := 300) (by decide +kernel)) rfl
theorem mw_301 : Cond.instanceMethod yX1_add ∈ lw_g := gw (List.mem_of_getElem? (i := 301) (by decide +kernel)) rfl
theorem mw_302 : Cond.selects "PillarRuns$Mine" yX1_add yX1_add ∈ lw_g := gw (List.mem_of_getElem? (i := 302) (by decide +kernel)) rfl
theorem mw_303 : Cond.code yX1_add prog_3_method_4_code 3 none ∈ lw_g := gw (List.mem_of_getElem? (i := 303) (by decide +kernel)) rfl
theorem mw_304 : Cond.methodLink "PillarRunsLaw" 18 yX6_weight ∈ lw_g := gw (List.mem_of_getElem? (i := 304) (by decide +kernel)) rfl
theorem mw_305 : Cond.instanceMethod yX6_weight ∈ lw_g := gw (List.mem_of_getElem? (i := 305) (by decide +kernel)) rfl
theorem mw_306 : Cond.selects "PillarRuns" yX6_weight yX6_weight ∈ lw_g := gw (List.mem_of_getElem? (i := 306) (by decide +kernel)) rfl
theorem mw_307 : Cond.code yX6_weight prog_1_method_3_code 4 (some .int) ∈ lw_g := gw (List.mem_of_getElem? (i := 307) (by decide +kernel)) rfl
theorem mw_308 : Cond.methodLink "PillarRunsLaw" 22 yX6_draw ∈ lw_g := gw (List.mem_of_getElem? (i := 308) (by decide +kernel)) rfl
theorem mw_309 : Cond.instanceMethod yX6_draw ∈ lw_g := gw (List.mem_of_getElem? (i := 309) (by decide +kernel)) rfl
theorem mw_310 : Cond.selects "PillarRuns" yX6_draw yX6_draw ∈ lw_g := gw (List.mem_of_getElem? (i := 310) (by decide +kernel)) rfl
theorem mw_311 : Cond.code yX6_draw prog_1_method_4_code 6 (some .int) ∈ lw_g := gw (List.mem_of_getElem? (i := 311) (by decide +kernel)) rfl
theorem mw_312 : Cond.constant "PillarRuns" 88 (999999 : Int32) ∈ lw_g := gw (List.mem_of_getElem? (i := 312) (by decide +kernel)) rfl
theorem mw_313 : Cond.constantLong "PillarRuns" 89 (1103515245 : Int64) ∈ lw_g := gw (List.mem_of_getElem? (i := 313) (by decide +kernel)) rfl
theorem mw_314 : Cond.constantLong "PillarRuns" 91 (12345 : Int64) ∈ lw_g := gw (List.mem_of_getElem? (i := 314) (by decide +kernel)) rfl
theorem mw_315 : Cond.constantLong "PillarRuns" 93 (2147483648 : Int64) ∈ lw_g := gw (List.mem_of_getElem? (i := 315) (by decide +kernel)) rfl
theorem mw_316 : Cond.constantLong "PillarRuns" 95 (65536 : Int64) ∈ lw_g := gw (List.mem_of_getElem? (i := 316) (by decide +kernel)) rfl
theorem mw_317 : Cond.methodLink "PillarRuns" 97 yX6_sum ∈ lw_g := gw (List.mem_of_getElem? (i := 317) (by decide +kernel)) rfl
theorem mw_318 : Cond.static yX6_sum ∈ lw_g := gw (List.mem_of_getElem? (i := 318) (by decide +kernel)) rfl
theorem mw_319 : Cond.code yX6_sum prog_1_method_36_code 3 (some .int) ∈ lw_g := gw (List.mem_of_getElem? (i := 319) (by decide +kernel)) rfl
theorem mw_320 : Cond.methodLink "PillarRunsLaw" 26 yX6_strength ∈ lw_g := gw (List.mem_of_getElem? (i := 320) (by decide +kernel)) rfl
theorem mw_321 : Cond.instanceMethod yX6_strength ∈ lw_g := gw (List.mem_of_getElem? (i := 321) (by decide +kernel)) rfl
theorem mw_322 : Cond.selects "PillarRuns" yX6_strength yX6_strength ∈ lw_g := gw (List.mem_of_getElem? (i := 322) (by decide +kernel)) rfl
theorem mw_323 : Cond.code yX6_strength prog_1_method_5_code 4 (some .int) ∈ lw_g := gw (List.mem_of_getElem? (i := 323) (by decide +kernel)) rfl
theorem mw_324 : Cond.methodLink "PillarRuns" 101 yX1_hasPillar ∈ lw_g := gw (List.mem_of_getElem? (i := 324) (by decide +kernel)) rfl
theorem mw_325 : Cond.instanceMethod yX1_hasPillar ∈ lw_g := gw (List.mem_of_getElem? (i := 325) (by decide +kernel)) rfl
theorem mw_326 : Cond.selects "PillarRuns$Mine" yX1_hasPillar yX1_hasPillar ∈ lw_g := gw (List.mem_of_getElem? (i := 326) (by decide +kernel)) rfl
theorem mw_327 : Cond.code yX1_hasPillar prog_3_method_5_code 2 (some .boolean) ∈ lw_g := gw (List.mem_of_getElem? (i := 327) (by decide +kernel)) rfl
theorem mw_328 : Cond.methodLink "PillarRunsLaw" 30 yX6_wall ∈ lw_g := gw (List.mem_of_getElem? (i := 328) (by decide +kernel)) rfl
theorem mw_329 : Cond.instanceMethod yX6_wall ∈ lw_g := gw (List.mem_of_getElem? (i := 329) (by decide +kernel)) rfl
theorem mw_330 : Cond.selects "PillarRuns" yX6_wall yX6_wall ∈ lw_g := gw (List.mem_of_getElem? (i := 330) (by decide +kernel)) rfl
theorem mw_331 : Cond.code yX6_wall prog_1_method_6_code 6 (some .int) ∈ lw_g := gw (List.mem_of_getElem? (i := 331) (by decide +kernel)) rfl
theorem mw_332 : Cond.methodLink "PillarRunsLaw" 35 yX6_mends ∈ lw_g := gw (List.mem_of_getElem? (i := 332) (by decide +kernel)) rfl
theorem mw_333 : Cond.instanceMethod yX6_mends ∈ lw_g := gw (List.mem_of_getElem? (i := 333) (by decide +kernel)) rfl
theorem mw_334 : Cond.selects "PillarRuns" yX6_mends yX6_mends ∈ lw_g := gw (List.mem_of_getElem? (i := 334) (by decide +kernel)) rfl
theorem mw_335 : Cond.code yX6_mends prog_1_method_7_code 3 (some .int) ∈ lw_g := gw (List.mem_of_getElem? (i := 335) (by decide +kernel)) rfl
theorem mw_336 : Cond.methodLink "PillarRuns" 110 yX2_forget ∈ lw_g := gw (List.mem_of_getElem? (i := 336) (by decide +kernel)) rfl
theorem mw_337 : Cond.methodLink "PillarRuns" 113 yX1_countStanding ∈ lw_g := gw (List.mem_of_getElem? (i := 337) (by decide +kernel)) rfl
theorem mw_338 : Cond.instanceMethod yX1_countStanding ∈ lw_g := gw (List.mem_of_getElem? (i := 338) (by decide +kernel)) rfl
theorem mw_339 : Cond.selects "PillarRuns$Mine" yX1_countStanding yX1_countStanding ∈ lw_g := gw (List.mem_of_getElem? (i := 339) (by decide +kernel)) rfl
theorem mw_340 : Cond.code yX1_countStanding prog_3_method_8_code 3 (some .int) ∈ lw_g := gw (List.mem_of_getElem? (i := 340) (by decide +kernel)) rfl
theorem mw_341 : Cond.methodLink "PillarRunsLaw" 40 yX6_anew ∈ lw_g := gw (List.mem_of_getElem? (i := 341) (by decide +kernel)) rfl
theorem mw_342 : Cond.instanceMethod yX6_anew ∈ lw_g := gw (List.mem_of_getElem? (i := 342) (by decide +kernel)) rfl
theorem mw_343 : Cond.selects "PillarRuns" yX6_anew yX6_anew ∈ lw_g := gw (List.mem_of_getElem? (i := 343) (by decide +kernel)) rfl
theorem mw_344 : Cond.code yX6_anew prog_1_method_8_code 2 (some .int) ∈ lw_g := gw (List.mem_of_getElem? (i := 344) (by decide +kernel)) rfl
theorem mw_345 : Cond.methodLink "PillarRuns" 120 yX1_reset ∈ lw_g := gw (List.mem_of_getElem? (i := 345) (by decide +kernel)) rfl
theorem mw_346 : Cond.methodLink "PillarRunsLaw" 44 yX6_of ∈ lw_g := gw (List.mem_of_getElem? (i := 346) (by decide +kernel)) rfl
theorem mw_347 : Cond.instanceMethod yX6_of ∈ lw_g := gw (List.mem_of_getElem? (i := 347) (by decide +kernel)) rfl
theorem mw_348 : Cond.selects "PillarRuns" yX6_of yX6_of ∈ lw_g := gw (List.mem_of_getElem? (i := 348) (by decide +kernel)) rfl
theorem mw_349 : Cond.code yX6_of prog_1_method_9_code 3 (some .int) ∈ lw_g := gw (List.mem_of_getElem? (i := 349) (by decide +kernel)) rfl
theorem mw_350 : Cond.methodLink "PillarRuns" 123 yX0_lay ∈ lw_g := gw (List.mem_of_getElem? (i := 350) (by decide +kernel)) rfl
theorem mw_351 : Cond.instanceMethod yX0_lay ∈ lw_g := gw (List.mem_of_getElem? (i := 351) (by decide +kernel)) rfl
theorem mw_352 : Cond.selects "PillarRuns$Bearing" yX0_lay yX0_lay ∈ lw_g := gw (List.mem_of_getElem? (i := 352) (by decide +kernel)) rfl
theorem mw_353 : Cond.code yX0_lay prog_2_method_2_code 3 none ∈ lw_g := gw (List.mem_of_getElem? (i := 353) (by decide +kernel)) rfl
theorem mw_354 : Cond.methodLink "PillarRuns$Bearing" 24 yJ7_fill_53178 ∈ lw_g := gw (List.mem_of_getElem? (i := 354) (by decide +kernel)) rfl
theorem mw_355 : Cond.methodLink "PillarRuns$Bearing" 39 yX0_claim ∈ lw_g := gw (List.mem_of_getElem? (i := 355) (by decide +kernel)) rfl
theorem mw_357 : Cond.instanceMethod yX0_claim ∈ lw_g := gw (List.mem_of_getElem? (i := 357) (by decide +kernel)) rfl
theorem mw_358 : Cond.code yX0_claim prog_2_method_3_code 13 none ∈ lw_g := gw (List.mem_of_getElem? (i := 358) (by decide +kernel)) rfl
theorem mw_359 : Cond.methodLink "PillarRuns$Bearing" 50 yX1_lastOf ∈ lw_g := gw (List.mem_of_getElem? (i := 359) (by decide +kernel)) rfl
theorem mw_360 : Cond.instanceMethod yX1_lastOf ∈ lw_g := gw (List.mem_of_getElem? (i := 360) (by decide +kernel)) rfl
theorem mw_361 : Cond.selects "PillarRuns$Mine" yX1_lastOf yX1_lastOf ∈ lw_g := gw (List.mem_of_getElem? (i := 361) (by decide +kernel)) rfl
theorem mw_362 : Cond.code yX1_lastOf prog_3_method_14_code 5 (some .int) ∈ lw_g := gw (List.mem_of_getElem? (i := 362) (by decide +kernel)) rfl
theorem mw_363 : Cond.methodLink "PillarRuns$Bearing" 54 yX1_firstOf ∈ lw_g := gw (List.mem_of_getElem? (i := 363) (by decide +kernel)) rfl
theorem mw_364 : Cond.instanceMethod yX1_firstOf ∈ lw_g := gw (List.mem_of_getElem? (i := 364) (by decide +kernel)) rfl
theorem mw_365 : Cond.selects "PillarRuns$Mine" yX1_firstOf yX1_firstOf ∈ lw_g := gw (List.mem_of_getElem? (i := 365) (by decide +kernel)) rfl
theorem mw_366 : Cond.code yX1_firstOf prog_3_method_13_code 4 (some .int) ∈ lw_g := gw (List.mem_of_getElem? (i := 366) (by decide +kernel)) rfl
theorem mw_367 : Cond.methodLink "PillarRuns$Bearing" 58 yJ9_abs_0f7a4 ∈ lw_g := gw (List.mem_of_getElem? (i := 367) (by decide +kernel)) rfl
theorem mw_368 : Cond.static yJ9_abs_0f7a4 ∈ lw_g := gw (List.mem_of_getElem? (i := 368) (by decide +kernel)) rfl
theorem mw_369 : Cond.code yJ9_abs_0f7a4 prog_10_method_59_code 1 (some .int) ∈ lw_g := gw (List.mem_of_getElem? (i := 369) (by decide +kernel)) rfl
theorem mw_370 : Cond.methodLink "PillarRuns$Bearing" 43 yX0_weigh ∈ lw_g := gw (List.mem_of_getElem? (i := 370) (by decide +kernel)) rfl
theorem mw_372 : Cond.instanceMethod yX0_weigh ∈ lw_g := gw (List.mem_of_getElem? (i := 372) (by decide +kernel)) rfl
theorem mw_373 : Cond.code yX0_weigh prog_2_method_4_code 4 none ∈ lw_g := gw (List.mem_of_getElem? (i := 373) (by decide +kernel)) rfl
theorem mw_374 : Cond.methodLink "PillarRuns" 126 yX6_tellPillar ∈ lw_g := gw (List.mem_of_getElem? (i := 374) (by decide +kernel)) rfl
theorem mw_376 : Cond.instanceMethod yX6_tellPillar ∈ lw_g := gw (List.mem_of_getElem? (i := 376) (by decide +kernel)) rfl
theorem mw_377 : Cond.code yX6_tellPillar prog_1_method_31_code 3 (some .int) ∈ lw_g := gw (List.mem_of_getElem? (i := 377) (by decide +kernel)) rfl
theorem mw_378 : Cond.methodLink "PillarRuns" 136 yX1_isStanding ∈ lw_g := gw (List.mem_of_getElem? (i := 378) (by decide +kernel)) rfl
theorem mw_379 : Cond.instanceMethod yX1_isStanding ∈ lw_g := gw (List.mem_of_getElem? (i := 379) (by decide +kernel)) rfl
theorem mw_380 : Cond.selects "PillarRuns$Mine" yX1_isStanding yX1_isStanding ∈ lw_g := gw (List.mem_of_getElem? (i := 380) (by decide +kernel)) rfl
theorem mw_381 : Cond.code yX1_isStanding prog_3_method_6_code 2 (some .boolean) ∈ lw_g := gw (List.mem_of_getElem? (i := 381) (by decide +kernel)) rfl
theorem mw_382 : Cond.methodLink "PillarRuns$Mine" 46 yX1_hasPillar ∈ lw_g := gw (List.mem_of_getElem? (i := 382) (by decide +kernel)) rfl
theorem mw_383 : Cond.methodLink "PillarRunsLaw" 48 yX6_rests ∈ lw_g := gw (List.mem_of_getElem? (i := 383) (by decide +kernel)) rfl
theorem mw_384 : Cond.instanceMethod yX6_rests ∈ lw_g := gw (List.mem_of_getElem? (i := 384) (by decide +kernel)) rfl
theorem mw_385 : Cond.selects "PillarRuns" yX6_rests yX6_rests ∈ lw_g := gw (List.mem_of_getElem? (i := 385) (by decide +kernel)) rfl
theorem mw_386 : Cond.code yX6_rests prog_1_method_10_code 2 (some .int) ∈ lw_g := gw (List.mem_of_getElem? (i := 386) (by decide +kernel)) rfl
theorem mw_387 : Cond.methodLink "PillarRunsLaw" 53 yX6_all ∈ lw_g := gw (List.mem_of_getElem? (i := 387) (by decide +kernel)) rfl
theorem mw_388 : Cond.instanceMethod yX6_all ∈ lw_g := gw (List.mem_of_getElem? (i := 388) (by decide +kernel)) rfl
theorem mw_389 : Cond.selects "PillarRuns" yX6_all yX6_all ∈ lw_g := gw (List.mem_of_getElem? (i := 389) (by decide +kernel)) rfl
theorem mw_390 : Cond.code yX6_all prog_1_method_11_code 2 (some .int) ∈ lw_g := gw (List.mem_of_getElem? (i := 390) (by decide +kernel)) rfl
theorem mw_391 : Cond.methodLink "PillarRuns" 133 yX6_tellMine ∈ lw_g := gw (List.mem_of_getElem? (i := 391) (by decide +kernel)) rfl
theorem mw_393 : Cond.instanceMethod yX6_tellMine ∈ lw_g := gw (List.mem_of_getElem? (i := 393) (by decide +kernel)) rfl
theorem mw_394 : Cond.code yX6_tellMine prog_1_method_30_code 2 (some .int) ∈ lw_g := gw (List.mem_of_getElem? (i := 394) (by decide +kernel)) rfl
theorem mw_395 : Cond.methodLink "PillarRuns" 220 yX0_countTooMuch ∈ lw_g := gw (List.mem_of_getElem? (i := 395) (by decide +kernel)) rfl
theorem mw_396 : Cond.instanceMethod yX0_countTooMuch ∈ lw_g := gw (List.mem_of_getElem? (i := 396) (by decide +kernel)) rfl
theorem mw_397 : Cond.selects "PillarRuns$Bearing" yX0_countTooMuch yX0_countTooMuch ∈ lw_g := gw (List.mem_of_getElem? (i := 397) (by decide +kernel)) rfl
theorem mw_398 : Cond.code yX0_countTooMuch prog_2_method_6_code 4 (some .int) ∈ lw_g := gw (List.mem_of_getElem? (i := 398) (by decide +kernel)) rfl
theorem mw_399 : Cond.methodLink "PillarRuns$Bearing" 70 yX0_isTooMuch ∈ lw_g := gw (List.mem_of_getElem? (i := 399) (by decide +kernel)) rfl
theorem mw_400 : Cond.instanceMethod yX0_isTooMuch ∈ lw_g := gw (List.mem_of_getElem? (i := 400) (by decide +kernel)) rfl
theorem mw_401 : Cond.selects "PillarRuns$Bearing" yX0_isTooMuch yX0_isTooMuch ∈ lw_g := gw (List.mem_of_getElem? (i := 401) (by decide +kernel)) rfl
theorem mw_402 : Cond.code yX0_isTooMuch prog_2_method_5_code 3 (some .boolean) ∈ lw_g := gw (List.mem_of_getElem? (i := 402) (by decide +kernel)) rfl
theorem mw_403 : Cond.methodLink "PillarRuns" 161 yX0_countFallen ∈ lw_g := gw (List.mem_of_getElem? (i := 403) (by decide +kernel)) rfl
theorem mw_404 : Cond.instanceMethod yX0_countFallen ∈ lw_g := gw (List.mem_of_getElem? (i := 404) (by decide +kernel)) rfl
theorem mw_405 : Cond.selects "PillarRuns$Bearing" yX0_countFallen yX0_countFallen ∈ lw_g := gw (List.mem_of_getElem? (i := 405) (by decide +kernel)) rfl
theorem mw_406 : Cond.code yX0_countFallen prog_2_method_7_code 3 (some .int) ∈ lw_g := gw (List.mem_of_getElem? (i := 406) (by decide +kernel)) rfl
theorem mw_407 : Cond.methodLink "PillarRuns" 224 yX0_weighFallen ∈ lw_g := gw (List.mem_of_getElem? (i := 407) (by decide +kernel)) rfl
theorem mw_408 : Cond.instanceMethod yX0_weighFallen ∈ lw_g := gw (List.mem_of_getElem? (i := 408) (by decide +kernel)) rfl
theorem mw_409 : Cond.selects "PillarRuns$Bearing" yX0_weighFallen yX0_weighFallen ∈ lw_g := gw (List.mem_of_getElem? (i := 409) (by decide +kernel)) rfl
theorem mw_410 : Cond.code yX0_weighFallen prog_2_method_8_code 4 (some .int) ∈ lw_g := gw (List.mem_of_getElem? (i := 410) (by decide +kernel)) rfl
theorem mw_411 : Cond.methodLink "PillarRuns" 227 yX1_countRooms ∈ lw_g := gw (List.mem_of_getElem? (i := 411) (by decide +kernel)) rfl
theorem mw_412 : Cond.instanceMethod yX1_countRooms ∈ lw_g := gw (List.mem_of_getElem? (i := 412) (by decide +kernel)) rfl
theorem mw_413 : Cond.selects "PillarRuns$Mine" yX1_countRooms yX1_countRooms ∈ lw_g := gw (List.mem_of_getElem? (i := 413) (by decide +kernel)) rfl
theorem mw_414 : Cond.code yX1_countRooms prog_3_method_10_code 3 (some .int) ∈ lw_g := gw (List.mem_of_getElem? (i := 414) (by decide +kernel)) rfl
theorem mw_415 : Cond.methodLink "PillarRuns$Mine" 56 yX1_startsRoom ∈ lw_g := gw (List.mem_of_getElem? (i := 415) (by decide +kernel)) rfl
theorem mw_416 : Cond.instanceMethod yX1_startsRoom ∈ lw_g := gw (List.mem_of_getElem? (i := 416) (by decide +kernel)) rfl
theorem mw_417 : Cond.selects "PillarRuns$Mine" yX1_startsRoom yX1_startsRoom ∈ lw_g := gw (List.mem_of_getElem? (i := 417) (by decide +kernel)) rfl
theorem mw_418 : Cond.code yX1_startsRoom prog_3_method_9_code 2 (some .boolean) ∈ lw_g := gw (List.mem_of_getElem? (i := 418) (by decide +kernel)) rfl
theorem mw_419 : Cond.methodLink "PillarRuns$Mine" 50 yX1_isOpenBelow ∈ lw_g := gw (List.mem_of_getElem? (i := 419) (by decide +kernel)) rfl
theorem mw_420 : Cond.instanceMethod yX1_isOpenBelow ∈ lw_g := gw (List.mem_of_getElem? (i := 420) (by decide +kernel)) rfl
theorem mw_421 : Cond.selects "PillarRuns$Mine" yX1_isOpenBelow yX1_isOpenBelow ∈ lw_g := gw (List.mem_of_getElem? (i := 421) (by decide +kernel)) rfl
theorem mw_422 : Cond.code yX1_isOpenBelow prog_3_method_11_code 2 (some .boolean) ∈ lw_g := gw (List.mem_of_getElem? (i := 422) (by decide +kernel)) rfl
theorem mw_423 : Cond.methodLink "PillarRuns$Mine" 53 yX1_isOpenRight ∈ lw_g := gw (List.mem_of_getElem? (i := 423) (by decide +kernel)) rfl
theorem mw_424 : Cond.instanceMethod yX1_isOpenRight ∈ lw_g := gw (List.mem_of_getElem? (i := 424) (by decide +kernel)) rfl
theorem mw_425 : Cond.selects "PillarRuns$Mine" yX1_isOpenRight yX1_isOpenRight ∈ lw_g := gw (List.mem_of_getElem? (i := 425) (by decide +kernel)) rfl
theorem mw_426 : Cond.code yX1_isOpenRight prog_3_method_12_code 2 (some .boolean) ∈ lw_g := gw (List.mem_of_getElem? (i := 426) (by decide +kernel)) rfl
theorem mw_427 : Cond.methodLink "PillarRuns" 230 yX0_countHeldRooms ∈ lw_g := gw (List.mem_of_getElem? (i := 427) (by decide +kernel)) rfl
theorem mw_428 : Cond.instanceMethod yX0_countHeldRooms ∈ lw_g := gw (List.mem_of_getElem? (i := 428) (by decide +kernel)) rfl
theorem mw_429 : Cond.selects "PillarRuns$Bearing" yX0_countHeldRooms yX0_countHeldRooms ∈ lw_g := gw (List.mem_of_getElem? (i := 429) (by decide +kernel)) rfl
theorem mw_430 : Cond.code yX0_countHeldRooms prog_2_method_9_code 4 (some .int) ∈ lw_g := gw (List.mem_of_getElem? (i := 430) (by decide +kernel)) rfl
theorem mw_431 : Cond.methodLink "PillarRuns$Bearing" 74 yX1_startsRoom ∈ lw_g := gw (List.mem_of_getElem? (i := 431) (by decide +kernel)) rfl
theorem mw_432 : Cond.methodLink "PillarRunsLaw" 57 yX6_beside ∈ lw_g := gw (List.mem_of_getElem? (i := 432) (by decide +kernel)) rfl
theorem mw_433 : Cond.instanceMethod yX6_beside ∈ lw_g := gw (List.mem_of_getElem? (i := 433) (by decide +kernel)) rfl
theorem mw_434 : Cond.selects "PillarRuns" yX6_beside yX6_beside ∈ lw_g := gw (List.mem_of_getElem? (i := 434) (by decide +kernel)) rfl
theorem mw_435 : Cond.code yX6_beside prog_1_method_12_code 3 (some .int) ∈ lw_g := gw (List.mem_of_getElem? (i := 435) (by decide +kernel)) rfl
theorem mw_436 : Cond.methodLink "PillarRuns" 139 yX0_meet ∈ lw_g := gw (List.mem_of_getElem? (i := 436) (by decide +kernel)) rfl
theorem mw_437 : Cond.instanceMethod yX0_meet ∈ lw_g := gw (List.mem_of_getElem? (i := 437) (by decide +kernel)) rfl
theorem mw_438 : Cond.selects "PillarRuns$Bearing" yX0_meet yX0_meet ∈ lw_g := gw (List.mem_of_getElem? (i := 438) (by decide +kernel)) rfl
theorem mw_439 : Cond.code yX0_meet prog_2_method_10_code 7 (some .boolean) ∈ lw_g := gw (List.mem_of_getElem? (i := 439) (by decide +kernel)) rfl
theorem mw_440 : Cond.methodLink "PillarRuns$Bearing" 78 yX1_isOpenRight ∈ lw_g := gw (List.mem_of_getElem? (i := 440) (by decide +kernel)) rfl
theorem mw_441 : Cond.methodLink "PillarRuns$Bearing" 81 yX0_arePair ∈ lw_g := gw (List.mem_of_getElem? (i := 441) (by decide +kernel)) rfl
theorem mw_443 : Cond.instanceMethod yX0_arePair ∈ lw_g := gw (List.mem_of_getElem? (i := 443) (by decide +kernel)) rfl
theorem mw_444 : Cond.code yX0_arePair prog_2_method_11_code 5 (some .boolean) ∈ lw_g := gw (List.mem_of_getElem? (i := 444) (by decide +kernel)) rfl
theorem mw_445 : Cond.methodLink "PillarRuns$Bearing" 85 yX1_isOpenBelow ∈ lw_g := gw (List.mem_of_getElem? (i := 445) (by decide +kernel)) rfl
theorem mw_446 : Cond.methodLink "PillarRunsLaw" 61 yX6_runs ∈ lw_g := gw (List.mem_of_getElem? (i := 446) (by decide +kernel)) rfl
theorem mw_447 : Cond.instanceMethod yX6_runs ∈ lw_g := gw (List.mem_of_getElem? (i := 447) (by decide +kernel)) rfl
theorem mw_448 : Cond.selects "PillarRuns" yX6_runs yX6_runs ∈ lw_g := gw (List.mem_of_getElem? (i := 448) (by decide +kernel)) rfl
theorem mw_449 : Cond.code yX6_runs prog_1_method_13_code 1 (some .int) ∈ lw_g := gw (List.mem_of_getElem? (i := 449) (by decide +kernel)) rfl
theorem mw_450 : Cond.methodLink "PillarRuns" 143 yX2_crush ∈ lw_g := gw (List.mem_of_getElem? (i := 450) (by decide +kernel)) rfl
theorem mw_451 : Cond.instanceMethod yX2_crush ∈ lw_g := gw (List.mem_of_getElem? (i := 451) (by decide +kernel)) rfl
theorem mw_452 : Cond.selects "PillarRuns$Run" yX2_crush yX2_crush ∈ lw_g := gw (List.mem_of_getElem? (i := 452) (by decide +kernel)) rfl
theorem mw_453 : Cond.code yX2_crush prog_4_method_4_code 6 (some .int) ∈ lw_g := gw (List.mem_of_getElem? (i := 453) (by decide +kernel)) rfl
theorem mw_454 : Cond.methodLink "PillarRuns$Run" 34 yX0_lay ∈ lw_g := gw (List.mem_of_getElem? (i := 454) (by decide +kernel)) rfl
theorem mw_455 : Cond.methodLink "PillarRuns$Run" 40 yX2_crushWave ∈ lw_g := gw (List.mem_of_getElem? (i := 455) (by decide +kernel)) rfl
theorem mw_457 : Cond.instanceMethod yX2_crushWave ∈ lw_g := gw (List.mem_of_getElem? (i := 457) (by decide +kernel)) rfl
theorem mw_458 : Cond.code yX2_crushWave prog_4_method_5_code 6 (some .int) ∈ lw_g := gw (List.mem_of_getElem? (i := 458) (by decide +kernel)) rfl
theorem mw_459 : Cond.methodLink "PillarRuns$Run" 49 yX0_isTooMuch ∈ lw_g := gw (List.mem_of_getElem? (i := 459) (by decide +kernel)) rfl
theorem mw_460 : Cond.methodLink "PillarRunsLaw" 65 yX6_loses ∈ lw_g := gw (List.mem_of_getElem? (i := 460) (by decide +kernel)) rfl
theorem mw_461 : Cond.instanceMethod yX6_loses ∈ lw_g := gw (List.mem_of_getElem? (i := 461) (by decide +kernel)) rfl
theorem mw_462 : Cond.selects "PillarRuns" yX6_loses yX6_loses ∈ lw_g := gw (List.mem_of_getElem? (i := 462) (by decide +kernel)) rfl
theorem mw_463 : Cond.code yX6_loses prog_1_method_14_code 2 (some .int) ∈ lw_g := gw (List.mem_of_getElem? (i := 463) (by decide +kernel)) rfl
theorem mw_464 : Cond.methodLink "PillarRunsLaw" 69 yX6_wave ∈ lw_g := gw (List.mem_of_getElem? (i := 464) (by decide +kernel)) rfl
theorem mw_465 : Cond.instanceMethod yX6_wave ∈ lw_g := gw (List.mem_of_getElem? (i := 465) (by decide +kernel)) rfl
theorem mw_466 : Cond.selects "PillarRuns" yX6_wave yX6_wave ∈ lw_g := gw (List.mem_of_getElem? (i := 466) (by decide +kernel)) rfl
theorem mw_467 : Cond.code yX6_wave prog_1_method_15_code 3 (some .int) ∈ lw_g := gw (List.mem_of_getElem? (i := 467) (by decide +kernel)) rfl
theorem mw_468 : Cond.methodLink "PillarRuns" 153 yX2_countInWave ∈ lw_g := gw (List.mem_of_getElem? (i := 468) (by decide +kernel)) rfl
theorem mw_469 : Cond.instanceMethod yX2_countInWave ∈ lw_g := gw (List.mem_of_getElem? (i := 469) (by decide +kernel)) rfl
theorem mw_470 : Cond.selects "PillarRuns$Run" yX2_countInWave yX2_countInWave ∈ lw_g := gw (List.mem_of_getElem? (i := 470) (by decide +kernel)) rfl
theorem mw_471 : Cond.code yX2_countInWave prog_4_method_6_code 4 (some .int) ∈ lw_g := gw (List.mem_of_getElem? (i := 471) (by decide +kernel)) rfl
theorem mw_472 : Cond.methodLink "PillarRunsLaw" 73 yX6_would ∈ lw_g := gw (List.mem_of_getElem? (i := 472) (by decide +kernel)) rfl
theorem mw_473 : Cond.instanceMethod yX6_would ∈ lw_g := gw (List.mem_of_getElem? (i := 473) (by decide +kernel)) rfl
theorem mw_474 : Cond.selects "PillarRuns" yX6_would yX6_would ∈ lw_g := gw (List.mem_of_getElem? (i := 474) (by decide +kernel)) rfl
theorem mw_475 : Cond.code yX6_would prog_1_method_16_code 4 (some .int) ∈ lw_g := gw (List.mem_of_getElem? (i := 475) (by decide +kernel)) rfl
theorem mw_476 : Cond.methodLink "PillarRuns" 156 yX5_lose ∈ lw_g := gw (List.mem_of_getElem? (i := 476) (by decide +kernel)) rfl
theorem mw_477 : Cond.instanceMethod yX5_lose ∈ lw_g := gw (List.mem_of_getElem? (i := 477) (by decide +kernel)) rfl
theorem mw_478 : Cond.selects "PillarRuns$Trial" yX5_lose yX5_lose ∈ lw_g := gw (List.mem_of_getElem? (i := 478) (by decide +kernel)) rfl
theorem mw_479 : Cond.code yX5_lose prog_7_method_4_code 3 (some .int) ∈ lw_g := gw (List.mem_of_getElem? (i := 479) (by decide +kernel)) rfl
theorem mw_480 : Cond.methodLink "PillarRuns$Trial" 38 yX5_start ∈ lw_g := gw (List.mem_of_getElem? (i := 480) (by decide +kernel)) rfl
theorem mw_481 : Cond.instanceMethod yX5_start ∈ lw_g := gw (List.mem_of_getElem? (i := 481) (by decide +kernel)) rfl
theorem mw_482 : Cond.selects "PillarRuns$Trial" yX5_start yX5_start ∈ lw_g := gw (List.mem_of_getElem? (i := 482) (by decide +kernel)) rfl
theorem mw_483 : Cond.code yX5_start prog_7_method_2_code 2 none ∈ lw_g := gw (List.mem_of_getElem? (i := 483) (by decide +kernel)) rfl
theorem mw_484 : Cond.methodLink "PillarRuns$Trial" 30 yX1_copy ∈ lw_g := gw (List.mem_of_getElem? (i := 484) (by decide +kernel)) rfl
theorem mw_485 : Cond.methodLink "PillarRuns$Trial" 45 yX5_crush ∈ lw_g := gw (List.mem_of_getElem? (i := 485) (by decide +kernel)) rfl
theorem mw_486 : Cond.instanceMethod yX5_crush ∈ lw_g := gw (List.mem_of_getElem? (i := 486) (by decide +kernel)) rfl
theorem mw_487 : Cond.selects "PillarRuns$Trial" yX5_crush yX5_crush ∈ lw_g := gw (List.mem_of_getElem? (i := 487) (by decide +kernel)) rfl
theorem mw_488 : Cond.code yX5_crush prog_7_method_3_code 1 (some .int) ∈ lw_g := gw (List.mem_of_getElem? (i := 488) (by decide +kernel)) rfl
theorem mw_489 : Cond.methodLink "PillarRuns$Trial" 34 yX2_crush ∈ lw_g := gw (List.mem_of_getElem? (i := 489) (by decide +kernel)) rfl
theorem mw_490 : Cond.methodLink "PillarRunsLaw" 77 yX6_worst ∈ lw_g := gw (List.mem_of_getElem? (i := 490) (by decide +kernel)) rfl
theorem mw_491 : Cond.instanceMethod yX6_worst ∈ lw_g := gw (List.mem_of_getElem? (i := 491) (by decide +kernel)) rfl
theorem mw_492 : Cond.selects "PillarRuns" yX6_worst yX6_worst ∈ lw_g := gw (List.mem_of_getElem? (i := 492) (by decide +kernel)) rfl
theorem mw_493 : Cond.code yX6_worst prog_1_method_17_code 6 (some .int) ∈ lw_g := gw (List.mem_of_getElem? (i := 493) (by decide +kernel)) rfl
theorem mw_494 : Cond.methodLink "PillarRunsLaw" 81 yX6_cut ∈ lw_g := gw (List.mem_of_getElem? (i := 494) (by decide +kernel)) rfl
theorem mw_495 : Cond.instanceMethod yX6_cut ∈ lw_g := gw (List.mem_of_getElem? (i := 495) (by decide +kernel)) rfl
theorem mw_496 : Cond.selects "PillarRuns" yX6_cut yX6_cut ∈ lw_g := gw (List.mem_of_getElem? (i := 496) (by decide +kernel)) rfl
theorem mw_497 : Cond.code yX6_cut prog_1_method_18_code 2 (some .int) ∈ lw_g := gw (List.mem_of_getElem? (i := 497) (by decide +kernel)) rfl
theorem mw_498 : Cond.methodLink "PillarRuns" 164 yX5_start ∈ lw_g := gw (List.mem_of_getElem? (i := 498) (by decide +kernel)) rfl
theorem mw_499 : Cond.methodLink "PillarRuns" 167 yX5_crush ∈ lw_g := gw (List.mem_of_getElem? (i := 499) (by decide +kernel)) rfl
theorem mw_500 : Cond.methodLink "PillarRunsLaw" 85 yX6_mending ∈ lw_g := gw (List.mem_of_getElem? (i := 500) (by decide +kernel)) rfl
theorem mw_501 : Cond.instanceMethod yX6_mending ∈ lw_g := gw (List.mem_of_getElem? (i := 501) (by decide +kernel)) rfl
theorem mw_502 : Cond.selects "PillarRuns" yX6_mending yX6_mending ∈ lw_g := gw (List.mem_of_getElem? (i := 502) (by decide +kernel)) rfl
theorem mw_503 : Cond.code yX6_mending prog_1_method_19_code 3 (some .int) ∈ lw_g := gw (List.mem_of_getElem? (i := 503) (by decide +kernel)) rfl
theorem mw_504 : Cond.methodLink "PillarRuns" 173 yJ9_max_7cf53 ∈ lw_g := gw (List.mem_of_getElem? (i := 504) (by decide +kernel)) rfl
theorem mw_505 : Cond.static yJ9_max_7cf53 ∈ lw_g := gw (List.mem_of_getElem? (i := 505) (by decide +kernel)) rfl
theorem mw_506 : Cond.code yJ9_max_7cf53 prog_10_method_65_code 2 (some .int) ∈ lw_g := gw (List.mem_of_getElem? (i := 506) (by decide +kernel)) rfl
theorem mw_507 : Cond.methodLink "PillarRunsLaw" 89 yX6_bestWall ∈ lw_g := gw (List.mem_of_getElem? (i := 507) (by decide +kernel)) rfl
theorem mw_508 : Cond.instanceMethod yX6_bestWall ∈ lw_g := gw (List.mem_of_getElem? (i := 508) (by decide +kernel)) rfl
theorem mw_509 : Cond.selects "PillarRuns" yX6_bestWall yX6_bestWall ∈ lw_g := gw (List.mem_of_getElem? (i := 509) (by decide +kernel)) rfl
theorem mw_510 : Cond.code yX6_bestWall prog_1_method_20_code 6 (some .int) ∈ lw_g := gw (List.mem_of_getElem? (i := 510) (by decide +kernel)) rfl
theorem mw_511 : Cond.methodLink "PillarRuns" 178 yX6_isWall ∈ lw_g := gw (List.mem_of_getElem? (i := 511) (by decide +kernel)) rfl
theorem mw_512 : Cond.static yX6_isWall ∈ lw_g := gw (List.mem_of_getElem? (i := 512) (by decide +kernel)) rfl
theorem mw_513 : Cond.code yX6_isWall prog_1_method_35_code 1 (some .boolean) ∈ lw_g := gw (List.mem_of_getElem? (i := 513) (by decide +kernel)) rfl
theorem mw_514 : Cond.methodLink "PillarRuns" 181 yX5_build ∈ lw_g := gw (List.mem_of_getElem? (i := 514) (by decide +kernel)) rfl
theorem mw_515 : Cond.instanceMethod yX5_build ∈ lw_g := gw (List.mem_of_getElem? (i := 515) (by decide +kernel)) rfl
theorem mw_516 : Cond.selects "PillarRuns$Trial" yX5_build yX5_build ∈ lw_g := gw (List.mem_of_getElem? (i := 516) (by decide +kernel)) rfl
theorem mw_517 : Cond.code yX5_build prog_7_method_5_code 3 (some .int) ∈ lw_g := gw (List.mem_of_getElem? (i := 517) (by decide +kernel)) rfl
theorem mw_518 : Cond.methodLink "PillarRuns$Trial" 51 yX1_countStanding ∈ lw_g := gw (List.mem_of_getElem? (i := 518) (by decide +kernel)) rfl
theorem mw_519 : Cond.methodLink "PillarRunsLaw" 93 yX6_bestCell ∈ lw_g := gw (List.mem_of_getElem? (i := 519) (by decide +kernel)) rfl
theorem mw_520 : Cond.instanceMethod yX6_bestCell ∈ lw_g := gw (List.mem_of_getElem? (i := 520) (by decide +kernel)) rfl
theorem mw_521 : Cond.selects "PillarRuns" yX6_bestCell yX6_bestCell ∈ lw_g := gw (List.mem_of_getElem? (i := 521) (by decide +kernel)) rfl
theorem mw_522 : Cond.code yX6_bestCell prog_1_method_21_code 7 (some .int) ∈ lw_g := gw (List.mem_of_getElem? (i := 522) (by decide +kernel)) rfl
theorem mw_523 : Cond.methodLink "PillarRuns" 184 yX5_support ∈ lw_g := gw (List.mem_of_getElem? (i := 523) (by decide +kernel)) rfl
theorem mw_524 : Cond.instanceMethod yX5_support ∈ lw_g := gw (List.mem_of_getElem? (i := 524) (by decide +kernel)) rfl
theorem mw_525 : Cond.selects "PillarRuns$Trial" yX5_support yX5_support ∈ lw_g := gw (List.mem_of_getElem? (i := 525) (by decide +kernel)) rfl
theorem mw_526 : Cond.code yX5_support prog_7_method_6_code 4 (some .int) ∈ lw_g := gw (List.mem_of_getElem? (i := 526) (by decide +kernel)) rfl
theorem mw_527 : Cond.methodLink "PillarRuns$Trial" 54 yX1_add ∈ lw_g := gw (List.mem_of_getElem? (i := 527) (by decide +kernel)) rfl
theorem mw_528 : Cond.methodLink "PillarRunsLaw" 97 yX6_type ∈ lw_g := gw (List.mem_of_getElem? (i := 528) (by decide +kernel)) rfl
theorem mw_529 : Cond.instanceMethod yX6_type ∈ lw_g := gw (List.mem_of_getElem? (i := 529) (by decide +kernel)) rfl
theorem mw_530 : Cond.selects "PillarRuns" yX6_type yX6_type ∈ lw_g := gw (List.mem_of_getElem? (i := 530) (by decide +kernel)) rfl
theorem mw_531 : Cond.code yX6_type prog_1_method_22_code 2 (some .int) ∈ lw_g := gw (List.mem_of_getElem? (i := 531) (by decide +kernel)) rfl
theorem mw_532 : Cond.methodLink "PillarRuns" 191 yX4_add ∈ lw_g := gw (List.mem_of_getElem? (i := 532) (by decide +kernel)) rfl
theorem mw_533 : Cond.instanceMethod yX4_add ∈ lw_g := gw (List.mem_of_getElem? (i := 533) (by decide +kernel)) rfl
theorem mw_534 : Cond.selects "PillarRuns$Text" yX4_add yX4_add ∈ lw_g := gw (List.mem_of_getElem? (i := 534) (by decide +kernel)) rfl
theorem mw_535 : Cond.code yX4_add prog_6_method_2_code 2 none ∈ lw_g := gw (List.mem_of_getElem? (i := 535) (by decide +kernel)) rfl
theorem mw_536 : Cond.methodLink "PillarRunsLaw" 101 yX6_clear ∈ lw_g := gw (List.mem_of_getElem? (i := 536) (by decide +kernel)) rfl
theorem mw_537 : Cond.instanceMethod yX6_clear ∈ lw_g := gw (List.mem_of_getElem? (i := 537) (by decide +kernel)) rfl
theorem mw_538 : Cond.selects "PillarRuns" yX6_clear yX6_clear ∈ lw_g := gw (List.mem_of_getElem? (i := 538) (by decide +kernel)) rfl
theorem mw_539 : Cond.code yX6_clear prog_1_method_23_code 2 (some .int) ∈ lw_g := gw (List.mem_of_getElem? (i := 539) (by decide +kernel)) rfl
theorem mw_540 : Cond.methodLink "PillarRunsLaw" 105 yX6_does ∈ lw_g := gw (List.mem_of_getElem? (i := 540) (by decide +kernel)) rfl
theorem mw_541 : Cond.instanceMethod yX6_does ∈ lw_g := gw (List.mem_of_getElem? (i := 541) (by decide +kernel)) rfl
theorem mw_542 : Cond.selects "PillarRuns" yX6_does yX6_does ∈ lw_g := gw (List.mem_of_getElem? (i := 542) (by decide +kernel)) rfl
theorem mw_543 : Cond.code yX6_does prog_1_method_24_code 2 (some .int) ∈ lw_g := gw (List.mem_of_getElem? (i := 543) (by decide +kernel)) rfl
theorem mw_544 : Cond.methodLink "PillarRuns" 197 yX2_copy ∈ lw_g := gw (List.mem_of_getElem? (i := 544) (by decide +kernel)) rfl
theorem mw_545 : Cond.instanceMethod yX2_copy ∈ lw_g := gw (List.mem_of_getElem? (i := 545) (by decide +kernel)) rfl
theorem mw_546 : Cond.selects "PillarRuns$Run" yX2_copy yX2_copy ∈ lw_g := gw (List.mem_of_getElem? (i := 546) (by decide +kernel)) rfl
theorem mw_547 : Cond.code yX2_copy prog_4_method_3_code 2 none ∈ lw_g := gw (List.mem_of_getElem? (i := 547) (by decide +kernel)) rfl
theorem mw_548 : Cond.methodLink "PillarRuns$Run" 28 ⟨"java/lang/System","arraycopy","(Ljava/lang/Object;ILjava/lang/Object;II)V"⟩ ∈ lw_g := gw (List.mem_of_getElem? (i := 548) (by decide +kernel)) rfl
theorem mw_549 : Cond.methodLink "PillarRuns" 201 yX4_read ∈ lw_g := gw (List.mem_of_getElem? (i := 549) (by decide +kernel)) rfl
theorem mw_550 : Cond.instanceMethod yX4_read ∈ lw_g := gw (List.mem_of_getElem? (i := 550) (by decide +kernel)) rfl
theorem mw_551 : Cond.selects "PillarRuns$Text" yX4_read yX4_read ∈ lw_g := gw (List.mem_of_getElem? (i := 551) (by decide +kernel)) rfl
theorem mw_552 : Cond.code yX4_read prog_6_method_3_code 3 (some .int) ∈ lw_g := gw (List.mem_of_getElem? (i := 552) (by decide +kernel)) rfl
theorem mw_553 : Cond.methodLink "PillarRuns$Text" 25 yX4_skipBlanks ∈ lw_g := gw (List.mem_of_getElem? (i := 553) (by decide +kernel)) rfl
theorem mw_555 : Cond.instanceMethod yX4_skipBlanks ∈ lw_g := gw (List.mem_of_getElem? (i := 555) (by decide +kernel)) rfl
theorem mw_556 : Cond.code yX4_skipBlanks prog_6_method_12_code 1 none ∈ lw_g := gw (List.mem_of_getElem? (i := 556) (by decide +kernel)) rfl
theorem mw_557 : Cond.methodLink "PillarRuns$Text" 28 yX4_fail ∈ lw_g := gw (List.mem_of_getElem? (i := 557) (by decide +kernel)) rfl
theorem mw_559 : Cond.instanceMethod yX4_fail ∈ lw_g := gw (List.mem_of_getElem? (i := 559) (by decide +kernel)) rfl
theorem mw_560 : Cond.code yX4_fail prog_6_method_13_code 2 none ∈ lw_g := gw (List.mem_of_getElem? (i := 560) (by decide +kernel)) rfl
theorem mw_561 : Cond.methodLink "PillarRuns$Text" 32 yX4_readOrder ∈ lw_g := gw (List.mem_of_getElem? (i := 561) (by decide +kernel)) rfl
theorem mw_563 : Cond.instanceMethod yX4_readOrder ∈ lw_g := gw (List.mem_of_getElem? (i := 563) (by decide +kernel)) rfl
theorem mw_564 : Cond.code yX4_readOrder prog_6_method_4_code 3 none ∈ lw_g := gw (List.mem_of_getElem? (i := 564) (by decide +kernel)) rfl
theorem mw_565 : Cond.methodLink "PillarRuns$Text" 42 yX4_readPillar ∈ lw_g := gw (List.mem_of_getElem? (i := 565) (by decide +kernel)) rfl
theorem mw_567 : Cond.instanceMethod yX4_readPillar ∈ lw_g := gw (List.mem_of_getElem? (i := 567) (by decide +kernel)) rfl
theorem mw_568 : Cond.code yX4_readPillar prog_6_method_5_code 5 none ∈ lw_g := gw (List.mem_of_getElem? (i := 568) (by decide +kernel)) rfl
theorem mw_569 : Cond.methodLink "PillarRuns$Text" 69 yX4_readCell ∈ lw_g := gw (List.mem_of_getElem? (i := 569) (by decide +kernel)) rfl
theorem mw_571 : Cond.instanceMethod yX4_readCell ∈ lw_g := gw (List.mem_of_getElem? (i := 571) (by decide +kernel)) rfl
theorem mw_572 : Cond.code yX4_readCell prog_6_method_9_code 3 (some .int) ∈ lw_g := gw (List.mem_of_getElem? (i := 572) (by decide +kernel)) rfl
theorem mw_573 : Cond.methodLink "PillarRuns$Text" 72 yX4_readNumber ∈ lw_g := gw (List.mem_of_getElem? (i := 573) (by decide +kernel)) rfl
theorem mw_575 : Cond.instanceMethod yX4_readNumber ∈ lw_g := gw (List.mem_of_getElem? (i := 575) (by decide +kernel)) rfl
theorem mw_576 : Cond.code yX4_readNumber prog_6_method_10_code 4 (some .int) ∈ lw_g := gw (List.mem_of_getElem? (i := 576) (by decide +kernel)) rfl
theorem mw_577 : Cond.methodLink "PillarRuns$Text" 99 yX4_isFigure ∈ lw_g := gw (List.mem_of_getElem? (i := 577) (by decide +kernel)) rfl
theorem mw_578 : Cond.static yX4_isFigure ∈ lw_g := gw (List.mem_of_getElem? (i := 578) (by decide +kernel)) rfl
theorem mw_579 : Cond.code yX4_isFigure prog_6_method_14_code 1 (some .boolean) ∈ lw_g := gw (List.mem_of_getElem? (i := 579) (by decide +kernel)) rfl
theorem mw_580 : Cond.methodLink "PillarRuns$Text" 57 yX4_readEnd ∈ lw_g := gw (List.mem_of_getElem? (i := 580) (by decide +kernel)) rfl
theorem mw_582 : Cond.instanceMethod yX4_readEnd ∈ lw_g := gw (List.mem_of_getElem? (i := 582) (by decide +kernel)) rfl
theorem mw_583 : Cond.code yX4_readEnd prog_6_method_11_code 1 none ∈ lw_g := gw (List.mem_of_getElem? (i := 583) (by decide +kernel)) rfl
theorem mw_584 : Cond.methodLink "PillarRuns$Text" 76 yX1_hasPillarOn ∈ lw_g := gw (List.mem_of_getElem? (i := 584) (by decide +kernel)) rfl
theorem mw_585 : Cond.methodLink "PillarRuns$Text" 80 yX1_add ∈ lw_g := gw (List.mem_of_getElem? (i := 585) (by decide +kernel)) rfl
theorem mw_586 : Cond.methodLink "PillarRuns$Text" 46 yX4_readWeight ∈ lw_g := gw (List.mem_of_getElem? (i := 586) (by decide +kernel)) rfl
theorem mw_588 : Cond.instanceMethod yX4_readWeight ∈ lw_g := gw (List.mem_of_getElem? (i := 588) (by decide +kernel)) rfl
theorem mw_589 : Cond.code yX4_readWeight prog_6_method_6_code 4 none ∈ lw_g := gw (List.mem_of_getElem? (i := 589) (by decide +kernel)) rfl
theorem mw_590 : Cond.methodLink "PillarRuns$Text" 50 yX4_readWall ∈ lw_g := gw (List.mem_of_getElem? (i := 590) (by decide +kernel)) rfl
theorem mw_592 : Cond.instanceMethod yX4_readWall ∈ lw_g := gw (List.mem_of_getElem? (i := 592) (by decide +kernel)) rfl
theorem mw_593 : Cond.code yX4_readWall prog_6_method_7_code 5 none ∈ lw_g := gw (List.mem_of_getElem? (i := 593) (by decide +kernel)) rfl
theorem mw_594 : Cond.methodLink "PillarRuns$Text" 54 yX4_readCrushed ∈ lw_g := gw (List.mem_of_getElem? (i := 594) (by decide +kernel)) rfl
theorem mw_596 : Cond.instanceMethod yX4_readCrushed ∈ lw_g := gw (List.mem_of_getElem? (i := 596) (by decide +kernel)) rfl
theorem mw_597 : Cond.code yX4_readCrushed prog_6_method_8_code 3 none ∈ lw_g := gw (List.mem_of_getElem? (i := 597) (by decide +kernel)) rfl
theorem mw_598 : Cond.methodLink "PillarRuns$Text" 90 yX1_isStanding ∈ lw_g := gw (List.mem_of_getElem? (i := 598) (by decide +kernel)) rfl
theorem mw_599 : Cond.methodLink "PillarRuns$Text" 60 yX5_crush ∈ lw_g := gw (List.mem_of_getElem? (i := 599) (by decide +kernel)) rfl
theorem mw_600 : Cond.methodLink "PillarRuns" 205 yX1_copy ∈ lw_g := gw (List.mem_of_getElem? (i := 600) (by decide +kernel)) rfl
theorem mw_601 : Cond.methodLink "PillarRunsLaw" 109 yX6_back ∈ lw_g := gw (List.mem_of_getElem? (i := 601) (by decide +kernel)) rfl
theorem mw_602 : Cond.instanceMethod yX6_back ∈ lw_g := gw (List.mem_of_getElem? (i := 602) (by decide +kernel)) rfl
theorem mw_603 : Cond.selects "PillarRuns" yX6_back yX6_back ∈ lw_g := gw (List.mem_of_getElem? (i := 603) (by decide +kernel)) rfl
theorem mw_604 : Cond.code yX6_back prog_1_method_25_code 1 (some .int) ∈ lw_g := gw (List.mem_of_getElem? (i := 604) (by decide +kernel)) rfl
theorem mw_605 : Cond.methodLink "PillarRuns" 210 yX3_giveBack ∈ lw_g := gw (List.mem_of_getElem? (i := 605) (by decide +kernel)) rfl
theorem mw_606 : Cond.instanceMethod yX3_giveBack ∈ lw_g := gw (List.mem_of_getElem? (i := 606) (by decide +kernel)) rfl
theorem mw_607 : Cond.selects "PillarRuns$States" yX3_giveBack yX3_giveBack ∈ lw_g := gw (List.mem_of_getElem? (i := 607) (by decide +kernel)) rfl
theorem mw_608 : Cond.code yX3_giveBack prog_5_method_3_code 2 none ∈ lw_g := gw (List.mem_of_getElem? (i := 608) (by decide +kernel)) rfl
theorem mw_609 : Cond.methodLink "PillarRunsLaw" 113 yX6_told ∈ lw_g := gw (List.mem_of_getElem? (i := 609) (by decide +kernel)) rfl
theorem mw_610 : Cond.instanceMethod yX6_told ∈ lw_g := gw (List.mem_of_getElem? (i := 610) (by decide +kernel)) rfl
theorem mw_611 : Cond.selects "PillarRuns" yX6_told yX6_told ∈ lw_g := gw (List.mem_of_getElem? (i := 611) (by decide +kernel)) rfl
theorem mw_612 : Cond.code yX6_told prog_1_method_26_code 2 (some .int) ∈ lw_g := gw (List.mem_of_getElem? (i := 612) (by decide +kernel)) rfl
theorem mw_613 : Cond.methodLink "PillarRuns" 213 yX6_tellCount ∈ lw_g := gw (List.mem_of_getElem? (i := 613) (by decide +kernel)) rfl
theorem mw_615 : Cond.instanceMethod yX6_tellCount ∈ lw_g := gw (List.mem_of_getElem? (i := 615) (by decide +kernel)) rfl
theorem mw_616 : Cond.code yX6_tellCount prog_1_method_29_code 2 (some .int) ∈ lw_g := gw (List.mem_of_getElem? (i := 616) (by decide +kernel)) rfl
theorem mw_617 : Cond.methodLink "PillarRunsLaw" 117 yX6_digest ∈ lw_g := gw (List.mem_of_getElem? (i := 617) (by decide +kernel)) rfl
theorem mw_618 : Cond.instanceMethod yX6_digest ∈ lw_g := gw (List.mem_of_getElem? (i := 618) (by decide +kernel)) rfl
theorem mw_619 : Cond.selects "PillarRuns" yX6_digest yX6_digest ∈ lw_g := gw (List.mem_of_getElem? (i := 619) (by decide +kernel)) rfl
theorem mw_620 : Cond.code yX6_digest prog_1_method_27_code 5 (some .long) ∈ lw_g := gw (List.mem_of_getElem? (i := 620) (by decide +kernel)) rfl
theorem mw_621 : Cond.constantLong "PillarRuns" 216 (2153 : Int64) ∈ lw_g := gw (List.mem_of_getElem? (i := 621) (by decide +kernel)) rfl
theorem mw_622 : Cond.constantLong "PillarRuns" 218 (31 : Int64) ∈ lw_g := gw (List.mem_of_getElem? (i := 622) (by decide +kernel)) rfl
theorem mw_623 : Cond.classLink "PillarRunsLaw" 10 "PillarRunsModel" ∈ lw_g := gw (List.mem_of_getElem? (i := 623) (by decide +kernel)) rfl
theorem mw_624 : Cond.instantiable "PillarRunsModel" 23 ∈ lw_g := gw (List.mem_of_getElem? (i := 624) (by decide +kernel)) rfl
theorem mw_625 : Cond.methodLink "PillarRunsLaw" 12 yX7_init ∈ lw_g := gw (List.mem_of_getElem? (i := 625) (by decide +kernel)) rfl
theorem mw_626 : Cond.instanceMethod yX7_init ∈ lw_g := gw (List.mem_of_getElem? (i := 626) (by decide +kernel)) rfl
theorem mw_627 : Cond.code yX7_init prog_9_method_1_code 1 none ∈ lw_g := gw (List.mem_of_getElem? (i := 627) (by decide +kernel)) rfl
theorem mw_628 : Cond.methodLink "PillarRunsModel" 1 Lib.objectInit ∈ lw_g := gw (List.mem_of_getElem? (i := 628) (by decide +kernel)) rfl
theorem mw_629 : Cond.fieldLink "PillarRunsModel" 7 "PillarRunsModel" "refused" "[I" ∈ lw_g := gw (List.mem_of_getElem? (i := 629) (by decide +kernel)) rfl
theorem mw_630 : Cond.fieldLink "PillarRunsModel" 13 "PillarRunsModel" "weight" "[I" ∈ lw_g := gw (List.mem_of_getElem? (i := 630) (by decide +kernel)) rfl
theorem mw_631 : Cond.fieldLink "PillarRunsModel" 49 "PillarRunsModel" "many" "I" ∈ lw_g := gw (List.mem_of_getElem? (i := 631) (by decide +kernel)) rfl
theorem mw_632 : Cond.fieldLink "PillarRunsModel" 16 "PillarRunsModel" "cell" "[I" ∈ lw_g := gw (List.mem_of_getElem? (i := 632) (by decide +kernel)) rfl
theorem mw_633 : Cond.fieldLink "PillarRunsModel" 19 "PillarRunsModel" "strong" "[I" ∈ lw_g := gw (List.mem_of_getElem? (i := 633) (by decide +kernel)) rfl
theorem mw_634 : Cond.fieldLink "PillarRunsModel" 53 "PillarRunsModel" "up" "I" ∈ lw_g := gw (List.mem_of_getElem? (i := 634) (by decide +kernel)) rfl
theorem mw_635 : Cond.fieldLink "PillarRunsModel" 56 "PillarRunsModel" "walls" "I" ∈ lw_g := gw (List.mem_of_getElem? (i := 635) (by decide +kernel)) rfl
theorem mw_636 : Cond.fieldLink "PillarRunsModel" 59 "PillarRunsModel" "states" "I" ∈ lw_g := gw (List.mem_of_getElem? (i := 636) (by decide +kernel)) rfl
theorem mw_637 : Cond.fieldLink "PillarRunsModel" 22 "PillarRunsModel" "kept" "[I" ∈ lw_g := gw (List.mem_of_getElem? (i := 637) (by decide +kernel)) rfl
theorem mw_638 : Cond.fieldLink "PillarRunsModel" 25 "PillarRunsModel" "rowRoom" "[I" ∈ lw_g := gw (List.mem_of_getElem? (i := 638) (by decide +kernel)) rfl
theorem mw_639 : Cond.fieldLink "PillarRunsModel" 28 "PillarRunsModel" "columnRoom" "[I" ∈ lw_g := gw (List.mem_of_getElem? (i := 639) (by decide +kernel)) rfl
theorem mw_640 : Cond.fieldLink "PillarRunsModel" 31 "PillarRunsModel" "load" "[I" ∈ lw_g := gw (List.mem_of_getElem? (i := 640) (by decide +kernel)) rfl
theorem mw_641 : Cond.fieldLink "PillarRunsModel" 34 "PillarRunsModel" "rests" "[I" ∈ lw_g := gw (List.mem_of_getElem? (i := 641) (by decide +kernel)) rfl
theorem mw_642 : Cond.fieldLink "PillarRunsModel" 139 "PillarRunsModel" "waves" "I" ∈ lw_g := gw (List.mem_of_getElem? (i := 642) (by decide +kernel)) rfl
theorem mw_643 : Cond.fieldLink "PillarRunsModel" 37 "PillarRunsModel" "wave" "[I" ∈ lw_g := gw (List.mem_of_getElem? (i := 643) (by decide +kernel)) rfl
theorem mw_644 : Cond.fieldLink "PillarRunsModel" 40 "PillarRunsModel" "text" "[I" ∈ lw_g := gw (List.mem_of_getElem? (i := 644) (by decide +kernel)) rfl
theorem mw_645 : Cond.fieldLink "PillarRunsModel" 185 "PillarRunsModel" "size" "I" ∈ lw_g := gw (List.mem_of_getElem? (i := 645) (by decide +kernel)) rfl
theorem mw_646 : Cond.fieldLink "PillarRunsModel" 188 "PillarRunsModel" "readAt" "I" ∈ lw_g := gw (List.mem_of_getElem? (i := 646) (by decide +kernel)) rfl
theorem mw_647 : Cond.fieldLink "PillarRunsModel" 194 "PillarRunsModel" "readValue" "I" ∈ lw_g := gw (List.mem_of_getElem? (i := 647) (by decide +kernel)) rfl
theorem mw_648 : Cond.fieldLink "PillarRunsModel" 200 "PillarRunsModel" "readCell" "I" ∈ lw_g := gw (List.mem_of_getElem? (i := 648) (by decide +kernel)) rfl
theorem mw_649 : Cond.fieldLink "PillarRunsModel" 225 "PillarRunsModel" "nowWaves" "I" ∈ lw_g := gw (List.mem_of_getElem? (i := 649) (by decide +kernel)) rfl
theorem mw_650 : Cond.fieldLink "PillarRunsModel" 43 "PillarRunsModel" "nowWave" "[I" ∈ lw_g := gw (List.mem_of_getElem? (i := 650) (by decide +kernel)) rfl
theorem mw_651 : Cond.fieldLink "PillarRunsModel" 46 "PillarRunsModel" "ahead" "[I" ∈ lw_g := gw (List.mem_of_getElem? (i := 651) (by decide +kernel)) rfl
theorem mw_699 : Cond.methodLink "PillarRunsLaw" 112 yX7_back ∈ lw_g := gw (List.mem_of_getElem? (i := 699) (by decide +kernel)) rfl
theorem mw_700 : Cond.instanceMethod yX7_back ∈ lw_g := gw (List.mem_of_getElem? (i := 700) (by decide +kernel)) rfl
theorem mw_701 : Cond.selects "PillarRunsModel" yX7_back yX7_back ∈ lw_g := gw (List.mem_of_getElem? (i := 701) (by decide +kernel)) rfl
theorem mw_702 : Cond.code yX7_back prog_9_method_10_code 1 (some .int) ∈ lw_g := gw (List.mem_of_getElem? (i := 702) (by decide +kernel)) rfl
theorem mw_703 : Cond.methodLink "PillarRunsModel" 66 yX7_no ∈ lw_g := gw (List.mem_of_getElem? (i := 703) (by decide +kernel)) rfl
theorem mw_705 : Cond.instanceMethod yX7_no ∈ lw_g := gw (List.mem_of_getElem? (i := 705) (by decide +kernel)) rfl
theorem mw_706 : Cond.code yX7_no prog_9_method_3_code 1 (some .int) ∈ lw_g := gw (List.mem_of_getElem? (i := 706) (by decide +kernel)) rfl
theorem mw_707 : Cond.methodLink "PillarRunsModel" 70 yX7_comesBack ∈ lw_g := gw (List.mem_of_getElem? (i := 707) (by decide +kernel)) rfl
theorem mw_709 : Cond.instanceMethod yX7_comesBack ∈ lw_g := gw (List.mem_of_getElem? (i := 709) (by decide +kernel)) rfl
theorem mw_710 : Cond.code yX7_comesBack prog_9_method_9_code 3 none ∈ lw_g := gw (List.mem_of_getElem? (i := 710) (by decide +kernel)) rfl
theorem mw_711 : Cond.methodLink "PillarRunsModel" 73 yX7_noWaves ∈ lw_g := gw (List.mem_of_getElem? (i := 711) (by decide +kernel)) rfl
theorem mw_713 : Cond.instanceMethod yX7_noWaves ∈ lw_g := gw (List.mem_of_getElem? (i := 713) (by decide +kernel)) rfl
theorem mw_714 : Cond.code yX7_noWaves prog_9_method_31_code 1 none ∈ lw_g := gw (List.mem_of_getElem? (i := 714) (by decide +kernel)) rfl
theorem mw_715 : Cond.methodLink "PillarRunsLaw" 17 yX7_pillar ∈ lw_g := gw (List.mem_of_getElem? (i := 715) (by decide +kernel)) rfl
theorem mw_716 : Cond.instanceMethod yX7_pillar ∈ lw_g := gw (List.mem_of_getElem? (i := 716) (by decide +kernel)) rfl
theorem mw_717 : Cond.selects "PillarRunsModel" yX7_pillar yX7_pillar ∈ lw_g := gw (List.mem_of_getElem? (i := 717) (by decide +kernel)) rfl
theorem mw_718 : Cond.code yX7_pillar prog_9_method_16_code 3 (some .int) ∈ lw_g := gw (List.mem_of_getElem? (i := 718) (by decide +kernel)) rfl
theorem mw_719 : Cond.methodLink "PillarRunsModel" 80 yX7_isCell ∈ lw_g := gw (List.mem_of_getElem? (i := 719) (by decide +kernel)) rfl
theorem mw_720 : Cond.static yX7_isCell ∈ lw_g := gw (List.mem_of_getElem? (i := 720) (by decide +kernel)) rfl
theorem mw_721 : Cond.code yX7_isCell prog_9_method_11_code 1 (some .boolean) ∈ lw_g := gw (List.mem_of_getElem? (i := 721) (by decide +kernel)) rfl
theorem mw_722 : Cond.methodLink "PillarRunsModel" 76 yX7_in ∈ lw_g := gw (List.mem_of_getElem? (i := 722) (by decide +kernel)) rfl
theorem mw_723 : Cond.static yX7_in ∈ lw_g := gw (List.mem_of_getElem? (i := 723) (by decide +kernel)) rfl
theorem mw_724 : Cond.code yX7_in prog_9_method_5_code 3 (some .boolean) ∈ lw_g := gw (List.mem_of_getElem? (i := 724) (by decide +kernel)) rfl
theorem mw_725 : Cond.methodLink "PillarRunsModel" 84 yX7_bad ∈ lw_g := gw (List.mem_of_getElem? (i := 725) (by decide +kernel)) rfl
theorem mw_727 : Cond.instanceMethod yX7_bad ∈ lw_g := gw (List.mem_of_getElem? (i := 727) (by decide +kernel)) rfl
theorem mw_728 : Cond.code yX7_bad prog_9_method_2_code 1 (some .int) ∈ lw_g := gw (List.mem_of_getElem? (i := 728) (by decide +kernel)) rfl
theorem mw_729 : Cond.methodLink "PillarRunsModel" 87 yX7_pillarAt ∈ lw_g := gw (List.mem_of_getElem? (i := 729) (by decide +kernel)) rfl
theorem mw_731 : Cond.instanceMethod yX7_pillarAt ∈ lw_g := gw (List.mem_of_getElem? (i := 731) (by decide +kernel)) rfl
theorem mw_732 : Cond.code yX7_pillarAt prog_9_method_14_code 3 (some .int) ∈ lw_g := gw (List.mem_of_getElem? (i := 732) (by decide +kernel)) rfl
theorem mw_733 : Cond.methodLink "PillarRunsModel" 91 yX7_full ∈ lw_g := gw (List.mem_of_getElem? (i := 733) (by decide +kernel)) rfl
theorem mw_735 : Cond.instanceMethod yX7_full ∈ lw_g := gw (List.mem_of_getElem? (i := 735) (by decide +kernel)) rfl
theorem mw_736 : Cond.code yX7_full prog_9_method_4_code 1 (some .int) ∈ lw_g := gw (List.mem_of_getElem? (i := 736) (by decide +kernel)) rfl
theorem mw_737 : Cond.methodLink "PillarRunsModel" 94 yX7_leavesState ∈ lw_g := gw (List.mem_of_getElem? (i := 737) (by decide +kernel)) rfl
theorem mw_739 : Cond.instanceMethod yX7_leavesState ∈ lw_g := gw (List.mem_of_getElem? (i := 739) (by decide +kernel)) rfl
theorem mw_740 : Cond.code yX7_leavesState prog_9_method_8_code 2 none ∈ lw_g := gw (List.mem_of_getElem? (i := 740) (by decide +kernel)) rfl
theorem mw_741 : Cond.methodLink "PillarRunsModel" 62 yX7_writes ∈ lw_g := gw (List.mem_of_getElem? (i := 741) (by decide +kernel)) rfl
theorem mw_743 : Cond.instanceMethod yX7_writes ∈ lw_g := gw (List.mem_of_getElem? (i := 743) (by decide +kernel)) rfl
theorem mw_744 : Cond.code yX7_writes prog_9_method_7_code 3 none ∈ lw_g := gw (List.mem_of_getElem? (i := 744) (by decide +kernel)) rfl
theorem mw_745 : Cond.methodLink "PillarRunsModel" 97 yX7_comesPillar ∈ lw_g := gw (List.mem_of_getElem? (i := 745) (by decide +kernel)) rfl
theorem mw_747 : Cond.instanceMethod yX7_comesPillar ∈ lw_g := gw (List.mem_of_getElem? (i := 747) (by decide +kernel)) rfl
theorem mw_748 : Cond.code yX7_comesPillar prog_9_method_15_code 3 none ∈ lw_g := gw (List.mem_of_getElem? (i := 748) (by decide +kernel)) rfl
theorem mw_749 : Cond.methodLink "PillarRunsLaw" 21 yX7_weight ∈ lw_g := gw (List.mem_of_getElem? (i := 749) (by decide +kernel)) rfl
theorem mw_750 : Cond.instanceMethod yX7_weight ∈ lw_g := gw (List.mem_of_getElem? (i := 750) (by decide +kernel)) rfl
theorem mw_751 : Cond.selects "PillarRunsModel" yX7_weight yX7_weight ∈ lw_g := gw (List.mem_of_getElem? (i := 751) (by decide +kernel)) rfl
theorem mw_752 : Cond.code yX7_weight prog_9_method_17_code 4 (some .int) ∈ lw_g := gw (List.mem_of_getElem? (i := 752) (by decide +kernel)) rfl
theorem mw_753 : Cond.methodLink "PillarRunsLaw" 25 yX7_draw ∈ lw_g := gw (List.mem_of_getElem? (i := 753) (by decide +kernel)) rfl
theorem mw_754 : Cond.instanceMethod yX7_draw ∈ lw_g := gw (List.mem_of_getElem? (i := 754) (by decide +kernel)) rfl
theorem mw_755 : Cond.selects "PillarRunsModel" yX7_draw yX7_draw ∈ lw_g := gw (List.mem_of_getElem? (i := 755) (by decide +kernel)) rfl
theorem mw_756 : Cond.code yX7_draw prog_9_method_18_code 7 (some .int) ∈ lw_g := gw (List.mem_of_getElem? (i := 756) (by decide +kernel)) rfl
theorem mw_757 : Cond.constant "PillarRunsModel" 101 (999999 : Int32) ∈ lw_g := gw (List.mem_of_getElem? (i := 757) (by decide +kernel)) rfl
theorem mw_758 : Cond.constantLong "PillarRunsModel" 102 (1103515245 : Int64) ∈ lw_g := gw (List.mem_of_getElem? (i := 758) (by decide +kernel)) rfl
theorem mw_759 : Cond.constantLong "PillarRunsModel" 104 (12345 : Int64) ∈ lw_g := gw (List.mem_of_getElem? (i := 759) (by decide +kernel)) rfl
theorem mw_760 : Cond.constantLong "PillarRunsModel" 106 (2147483648 : Int64) ∈ lw_g := gw (List.mem_of_getElem? (i := 760) (by decide +kernel)) rfl
theorem mw_761 : Cond.constantLong "PillarRunsModel" 108 (65536 : Int64) ∈ lw_g := gw (List.mem_of_getElem? (i := 761) (by decide +kernel)) rfl
theorem mw_762 : Cond.methodLink "PillarRunsLaw" 29 yX7_strength ∈ lw_g := gw (List.mem_of_getElem? (i := 762) (by decide +kernel)) rfl
theorem mw_763 : Cond.instanceMethod yX7_strength ∈ lw_g := gw (List.mem_of_getElem? (i := 763) (by decide +kernel)) rfl
theorem mw_764 : Cond.selects "PillarRunsModel" yX7_strength yX7_strength ∈ lw_g := gw (List.mem_of_getElem? (i := 764) (by decide +kernel)) rfl
theorem mw_765 : Cond.code yX7_strength prog_9_method_19_code 4 (some .int) ∈ lw_g := gw (List.mem_of_getElem? (i := 765) (by decide +kernel)) rfl
theorem mw_766 : Cond.methodLink "PillarRunsModel" 110 yX7_isPillar ∈ lw_g := gw (List.mem_of_getElem? (i := 766) (by decide +kernel)) rfl
theorem mw_768 : Cond.instanceMethod yX7_isPillar ∈ lw_g := gw (List.mem_of_getElem? (i := 768) (by decide +kernel)) rfl
theorem mw_769 : Cond.code yX7_isPillar prog_9_method_12_code 2 (some .boolean) ∈ lw_g := gw (List.mem_of_getElem? (i := 769) (by decide +kernel)) rfl
theorem mw_770 : Cond.methodLink "PillarRunsLaw" 34 yX7_wall ∈ lw_g := gw (List.mem_of_getElem? (i := 770) (by decide +kernel)) rfl
theorem mw_771 : Cond.instanceMethod yX7_wall ∈ lw_g := gw (List.mem_of_getElem? (i := 771) (by decide +kernel)) rfl
theorem mw_772 : Cond.selects "PillarRunsModel" yX7_wall yX7_wall ∈ lw_g := gw (List.mem_of_getElem? (i := 772) (by decide +kernel)) rfl
theorem mw_773 : Cond.code yX7_wall prog_9_method_21_code 6 (some .int) ∈ lw_g := gw (List.mem_of_getElem? (i := 773) (by decide +kernel)) rfl
theorem mw_774 : Cond.methodLink "PillarRunsModel" 113 yX7_isWall ∈ lw_g := gw (List.mem_of_getElem? (i := 774) (by decide +kernel)) rfl
theorem mw_775 : Cond.static yX7_isWall ∈ lw_g := gw (List.mem_of_getElem? (i := 775) (by decide +kernel)) rfl
theorem mw_776 : Cond.code yX7_isWall prog_9_method_20_code 2 (some .boolean) ∈ lw_g := gw (List.mem_of_getElem? (i := 776) (by decide +kernel)) rfl
theorem mw_777 : Cond.methodLink "PillarRunsLaw" 39 yX7_mends ∈ lw_g := gw (List.mem_of_getElem? (i := 777) (by decide +kernel)) rfl
theorem mw_778 : Cond.instanceMethod yX7_mends ∈ lw_g := gw (List.mem_of_getElem? (i := 778) (by decide +kernel)) rfl
theorem mw_779 : Cond.selects "PillarRunsModel" yX7_mends yX7_mends ∈ lw_g := gw (List.mem_of_getElem? (i := 779) (by decide +kernel)) rfl
theorem mw_780 : Cond.code yX7_mends prog_9_method_22_code 2 (some .int) ∈ lw_g := gw (List.mem_of_getElem? (i := 780) (by decide +kernel)) rfl
theorem mw_781 : Cond.methodLink "PillarRunsModel" 117 yX7_ones ∈ lw_g := gw (List.mem_of_getElem? (i := 781) (by decide +kernel)) rfl
theorem mw_782 : Cond.static yX7_ones ∈ lw_g := gw (List.mem_of_getElem? (i := 782) (by decide +kernel)) rfl
theorem mw_783 : Cond.code yX7_ones prog_9_method_6_code 3 (some .int) ∈ lw_g := gw (List.mem_of_getElem? (i := 783) (by decide +kernel)) rfl
theorem mw_784 : Cond.methodLink "PillarRunsLaw" 43 yX7_anew ∈ lw_g := gw (List.mem_of_getElem? (i := 784) (by decide +kernel)) rfl
theorem mw_785 : Cond.instanceMethod yX7_anew ∈ lw_g := gw (List.mem_of_getElem? (i := 785) (by decide +kernel)) rfl
theorem mw_786 : Cond.selects "PillarRunsModel" yX7_anew yX7_anew ∈ lw_g := gw (List.mem_of_getElem? (i := 786) (by decide +kernel)) rfl
theorem mw_787 : Cond.code yX7_anew prog_9_method_23_code 3 (some .int) ∈ lw_g := gw (List.mem_of_getElem? (i := 787) (by decide +kernel)) rfl
theorem mw_788 : Cond.methodLink "PillarRunsLaw" 47 yX7_of ∈ lw_g := gw (List.mem_of_getElem? (i := 788) (by decide +kernel)) rfl
theorem mw_789 : Cond.instanceMethod yX7_of ∈ lw_g := gw (List.mem_of_getElem? (i := 789) (by decide +kernel)) rfl
theorem mw_790 : Cond.selects "PillarRunsModel" yX7_of yX7_of ∈ lw_g := gw (List.mem_of_getElem? (i := 790) (by decide +kernel)) rfl
theorem mw_791 : Cond.code yX7_of prog_9_method_36_code 3 (some .int) ∈ lw_g := gw (List.mem_of_getElem? (i := 791) (by decide +kernel)) rfl
theorem mw_792 : Cond.methodLink "PillarRunsModel" 148 yX7_ofBy ∈ lw_g := gw (List.mem_of_getElem? (i := 792) (by decide +kernel)) rfl
theorem mw_794 : Cond.instanceMethod yX7_ofBy ∈ lw_g := gw (List.mem_of_getElem? (i := 794) (by decide +kernel)) rfl
theorem mw_795 : Cond.code yX7_ofBy prog_9_method_35_code 3 (some .int) ∈ lw_g := gw (List.mem_of_getElem? (i := 795) (by decide +kernel)) rfl
theorem mw_796 : Cond.methodLink "PillarRunsModel" 136 yX7_bears ∈ lw_g := gw (List.mem_of_getElem? (i := 796) (by decide +kernel)) rfl
theorem mw_798 : Cond.instanceMethod yX7_bears ∈ lw_g := gw (List.mem_of_getElem? (i := 798) (by decide +kernel)) rfl
theorem mw_799 : Cond.code yX7_bears prog_9_method_29_code 5 none ∈ lw_g := gw (List.mem_of_getElem? (i := 799) (by decide +kernel)) rfl
theorem mw_800 : Cond.methodLink "PillarRunsModel" 130 yX7_setRooms ∈ lw_g := gw (List.mem_of_getElem? (i := 800) (by decide +kernel)) rfl
theorem mw_802 : Cond.instanceMethod yX7_setRooms ∈ lw_g := gw (List.mem_of_getElem? (i := 802) (by decide +kernel)) rfl
theorem mw_803 : Cond.code yX7_setRooms prog_9_method_26_code 2 none ∈ lw_g := gw (List.mem_of_getElem? (i := 803) (by decide +kernel)) rfl
theorem mw_804 : Cond.methodLink "PillarRunsModel" 120 yX7_wallsAhead ∈ lw_g := gw (List.mem_of_getElem? (i := 804) (by decide +kernel)) rfl
theorem mw_806 : Cond.instanceMethod yX7_wallsAhead ∈ lw_g := gw (List.mem_of_getElem? (i := 806) (by decide +kernel)) rfl
theorem mw_807 : Cond.code yX7_wallsAhead prog_9_method_25_code 5 (some .int) ∈ lw_g := gw (List.mem_of_getElem? (i := 807) (by decide +kernel)) rfl
theorem mw_808 : Cond.methodLink "PillarRunsModel" 133 yX7_bearer ∈ lw_g := gw (List.mem_of_getElem? (i := 808) (by decide +kernel)) rfl
theorem mw_810 : Cond.instanceMethod yX7_bearer ∈ lw_g := gw (List.mem_of_getElem? (i := 810) (by decide +kernel)) rfl
theorem mw_811 : Cond.code yX7_bearer prog_9_method_28_code 7 (some .int) ∈ lw_g := gw (List.mem_of_getElem? (i := 811) (by decide +kernel)) rfl
theorem mw_812 : Cond.methodLink "PillarRunsModel" 124 yX7_roomOf ∈ lw_g := gw (List.mem_of_getElem? (i := 812) (by decide +kernel)) rfl
theorem mw_814 : Cond.instanceMethod yX7_roomOf ∈ lw_g := gw (List.mem_of_getElem? (i := 814) (by decide +kernel)) rfl
theorem mw_815 : Cond.code yX7_roomOf prog_9_method_27_code 2 (some .int) ∈ lw_g := gw (List.mem_of_getElem? (i := 815) (by decide +kernel)) rfl
theorem mw_816 : Cond.methodLink "PillarRunsModel" 127 yX7_gap ∈ lw_g := gw (List.mem_of_getElem? (i := 816) (by decide +kernel)) rfl
theorem mw_817 : Cond.static yX7_gap ∈ lw_g := gw (List.mem_of_getElem? (i := 817) (by decide +kernel)) rfl
theorem mw_818 : Cond.code yX7_gap prog_9_method_24_code 2 (some .int) ∈ lw_g := gw (List.mem_of_getElem? (i := 818) (by decide +kernel)) rfl
theorem mw_819 : Cond.methodLink "PillarRunsModel" 145 yX7_stands ∈ lw_g := gw (List.mem_of_getElem? (i := 819) (by decide +kernel)) rfl
theorem mw_821 : Cond.instanceMethod yX7_stands ∈ lw_g := gw (List.mem_of_getElem? (i := 821) (by decide +kernel)) rfl
theorem mw_822 : Cond.code yX7_stands prog_9_method_13_code 2 (some .boolean) ∈ lw_g := gw (List.mem_of_getElem? (i := 822) (by decide +kernel)) rfl
theorem mw_823 : Cond.methodLink "PillarRunsLaw" 52 yX7_rests ∈ lw_g := gw (List.mem_of_getElem? (i := 823) (by decide +kernel)) rfl
theorem mw_824 : Cond.instanceMethod yX7_rests ∈ lw_g := gw (List.mem_of_getElem? (i := 824) (by decide +kernel)) rfl
theorem mw_825 : Cond.selects "PillarRunsModel" yX7_rests yX7_rests ∈ lw_g := gw (List.mem_of_getElem? (i := 825) (by decide +kernel)) rfl
theorem mw_826 : Cond.code yX7_rests prog_9_method_37_code 2 (some .int) ∈ lw_g := gw (List.mem_of_getElem? (i := 826) (by decide +kernel)) rfl
theorem mw_827 : Cond.methodLink "PillarRunsLaw" 56 yX7_all ∈ lw_g := gw (List.mem_of_getElem? (i := 827) (by decide +kernel)) rfl
theorem mw_828 : Cond.instanceMethod yX7_all ∈ lw_g := gw (List.mem_of_getElem? (i := 828) (by decide +kernel)) rfl
theorem mw_829 : Cond.selects "PillarRunsModel" yX7_all yX7_all ∈ lw_g := gw (List.mem_of_getElem? (i := 829) (by decide +kernel)) rfl
theorem mw_830 : Cond.code yX7_all prog_9_method_42_code 2 (some .int) ∈ lw_g := gw (List.mem_of_getElem? (i := 830) (by decide +kernel)) rfl
theorem mw_831 : Cond.methodLink "PillarRunsModel" 160 yX7_allBy ∈ lw_g := gw (List.mem_of_getElem? (i := 831) (by decide +kernel)) rfl
theorem mw_833 : Cond.instanceMethod yX7_allBy ∈ lw_g := gw (List.mem_of_getElem? (i := 833) (by decide +kernel)) rfl
theorem mw_834 : Cond.code yX7_allBy prog_9_method_41_code 2 (some .int) ∈ lw_g := gw (List.mem_of_getElem? (i := 834) (by decide +kernel)) rfl
theorem mw_835 : Cond.methodLink "PillarRunsModel" 142 yX7_tooMuch ∈ lw_g := gw (List.mem_of_getElem? (i := 835) (by decide +kernel)) rfl
theorem mw_837 : Cond.instanceMethod yX7_tooMuch ∈ lw_g := gw (List.mem_of_getElem? (i := 837) (by decide +kernel)) rfl
theorem mw_838 : Cond.code yX7_tooMuch prog_9_method_30_code 4 (some .int) ∈ lw_g := gw (List.mem_of_getElem? (i := 838) (by decide +kernel)) rfl
theorem mw_839 : Cond.methodLink "PillarRunsModel" 151 yX7_allWeight ∈ lw_g := gw (List.mem_of_getElem? (i := 839) (by decide +kernel)) rfl
theorem mw_841 : Cond.instanceMethod yX7_allWeight ∈ lw_g := gw (List.mem_of_getElem? (i := 841) (by decide +kernel)) rfl
theorem mw_842 : Cond.code yX7_allWeight prog_9_method_38_code 3 (some .int) ∈ lw_g := gw (List.mem_of_getElem? (i := 842) (by decide +kernel)) rfl
theorem mw_843 : Cond.methodLink "PillarRunsModel" 154 yX7_rooms ∈ lw_g := gw (List.mem_of_getElem? (i := 843) (by decide +kernel)) rfl
theorem mw_845 : Cond.instanceMethod yX7_rooms ∈ lw_g := gw (List.mem_of_getElem? (i := 845) (by decide +kernel)) rfl
theorem mw_846 : Cond.code yX7_rooms prog_9_method_39_code 1 (some .int) ∈ lw_g := gw (List.mem_of_getElem? (i := 846) (by decide +kernel)) rfl
theorem mw_847 : Cond.methodLink "PillarRunsModel" 157 yX7_heldRooms ∈ lw_g := gw (List.mem_of_getElem? (i := 847) (by decide +kernel)) rfl
theorem mw_849 : Cond.instanceMethod yX7_heldRooms ∈ lw_g := gw (List.mem_of_getElem? (i := 849) (by decide +kernel)) rfl
theorem mw_850 : Cond.code yX7_heldRooms prog_9_method_40_code 5 (some .int) ∈ lw_g := gw (List.mem_of_getElem? (i := 850) (by decide +kernel)) rfl
theorem mw_851 : Cond.methodLink "PillarRunsLaw" 60 yX7_beside ∈ lw_g := gw (List.mem_of_getElem? (i := 851) (by decide +kernel)) rfl
theorem mw_852 : Cond.instanceMethod yX7_beside ∈ lw_g := gw (List.mem_of_getElem? (i := 852) (by decide +kernel)) rfl
theorem mw_853 : Cond.selects "PillarRunsModel" yX7_beside yX7_beside ∈ lw_g := gw (List.mem_of_getElem? (i := 853) (by decide +kernel)) rfl
theorem mw_854 : Cond.code yX7_beside prog_9_method_44_code 5 (some .int) ∈ lw_g := gw (List.mem_of_getElem? (i := 854) (by decide +kernel)) rfl
theorem mw_855 : Cond.methodLink "PillarRunsModel" 163 yX7_isSide ∈ lw_g := gw (List.mem_of_getElem? (i := 855) (by decide +kernel)) rfl
theorem mw_857 : Cond.instanceMethod yX7_isSide ∈ lw_g := gw (List.mem_of_getElem? (i := 857) (by decide +kernel)) rfl
theorem mw_858 : Cond.code yX7_isSide prog_9_method_43_code 7 (some .boolean) ∈ lw_g := gw (List.mem_of_getElem? (i := 858) (by decide +kernel)) rfl
theorem mw_859 : Cond.methodLink "PillarRunsLaw" 64 yX7_runs ∈ lw_g := gw (List.mem_of_getElem? (i := 859) (by decide +kernel)) rfl
theorem mw_860 : Cond.instanceMethod yX7_runs ∈ lw_g := gw (List.mem_of_getElem? (i := 860) (by decide +kernel)) rfl
theorem mw_861 : Cond.selects "PillarRunsModel" yX7_runs yX7_runs ∈ lw_g := gw (List.mem_of_getElem? (i := 861) (by decide +kernel)) rfl
theorem mw_862 : Cond.code yX7_runs prog_9_method_45_code 2 (some .int) ∈ lw_g := gw (List.mem_of_getElem? (i := 862) (by decide +kernel)) rfl
theorem mw_863 : Cond.methodLink "PillarRunsModel" 167 yX7_goes ∈ lw_g := gw (List.mem_of_getElem? (i := 863) (by decide +kernel)) rfl
theorem mw_865 : Cond.instanceMethod yX7_goes ∈ lw_g := gw (List.mem_of_getElem? (i := 865) (by decide +kernel)) rfl
theorem mw_866 : Cond.code yX7_goes prog_9_method_33_code 2 none ∈ lw_g := gw (List.mem_of_getElem? (i := 866) (by decide +kernel)) rfl
theorem mw_867 : Cond.methodLink "PillarRunsLaw" 68 yX7_loses ∈ lw_g := gw (List.mem_of_getElem? (i := 867) (by decide +kernel)) rfl
theorem mw_868 : Cond.instanceMethod yX7_loses ∈ lw_g := gw (List.mem_of_getElem? (i := 868) (by decide +kernel)) rfl
theorem mw_869 : Cond.selects "PillarRunsModel" yX7_loses yX7_loses ∈ lw_g := gw (List.mem_of_getElem? (i := 869) (by decide +kernel)) rfl
theorem mw_870 : Cond.code yX7_loses prog_9_method_46_code 3 (some .int) ∈ lw_g := gw (List.mem_of_getElem? (i := 870) (by decide +kernel)) rfl
theorem mw_871 : Cond.methodLink "PillarRunsLaw" 72 yX7_wave ∈ lw_g := gw (List.mem_of_getElem? (i := 871) (by decide +kernel)) rfl
theorem mw_872 : Cond.instanceMethod yX7_wave ∈ lw_g := gw (List.mem_of_getElem? (i := 872) (by decide +kernel)) rfl
theorem mw_873 : Cond.selects "PillarRunsModel" yX7_wave yX7_wave ∈ lw_g := gw (List.mem_of_getElem? (i := 873) (by decide +kernel)) rfl
theorem mw_874 : Cond.code yX7_wave prog_9_method_48_code 3 (some .int) ∈ lw_g := gw (List.mem_of_getElem? (i := 874) (by decide +kernel)) rfl
theorem mw_875 : Cond.methodLink "PillarRunsModel" 170 yX7_waveOf ∈ lw_g := gw (List.mem_of_getElem? (i := 875) (by decide +kernel)) rfl
theorem mw_877 : Cond.instanceMethod yX7_waveOf ∈ lw_g := gw (List.mem_of_getElem? (i := 877) (by decide +kernel)) rfl
theorem mw_878 : Cond.code yX7_waveOf prog_9_method_47_code 3 (some .int) ∈ lw_g := gw (List.mem_of_getElem? (i := 878) (by decide +kernel)) rfl
theorem mw_879 : Cond.methodLink "PillarRunsLaw" 76 yX7_would ∈ lw_g := gw (List.mem_of_getElem? (i := 879) (by decide +kernel)) rfl
theorem mw_880 : Cond.instanceMethod yX7_would ∈ lw_g := gw (List.mem_of_getElem? (i := 880) (by decide +kernel)) rfl
theorem mw_881 : Cond.selects "PillarRunsModel" yX7_would yX7_would ∈ lw_g := gw (List.mem_of_getElem? (i := 881) (by decide +kernel)) rfl
theorem mw_882 : Cond.code yX7_would prog_9_method_50_code 4 (some .int) ∈ lw_g := gw (List.mem_of_getElem? (i := 882) (by decide +kernel)) rfl
theorem mw_883 : Cond.methodLink "PillarRunsModel" 176 yX7_lossOf ∈ lw_g := gw (List.mem_of_getElem? (i := 883) (by decide +kernel)) rfl
theorem mw_885 : Cond.instanceMethod yX7_lossOf ∈ lw_g := gw (List.mem_of_getElem? (i := 885) (by decide +kernel)) rfl
theorem mw_886 : Cond.code yX7_lossOf prog_9_method_49_code 2 (some .int) ∈ lw_g := gw (List.mem_of_getElem? (i := 886) (by decide +kernel)) rfl
theorem mw_887 : Cond.methodLink "PillarRunsModel" 173 yX7_left ∈ lw_g := gw (List.mem_of_getElem? (i := 887) (by decide +kernel)) rfl
theorem mw_889 : Cond.instanceMethod yX7_left ∈ lw_g := gw (List.mem_of_getElem? (i := 889) (by decide +kernel)) rfl
theorem mw_890 : Cond.code yX7_left prog_9_method_32_code 4 (some .int) ∈ lw_g := gw (List.mem_of_getElem? (i := 890) (by decide +kernel)) rfl
theorem mw_891 : Cond.methodLink "PillarRunsLaw" 80 yX7_worst ∈ lw_g := gw (List.mem_of_getElem? (i := 891) (by decide +kernel)) rfl
theorem mw_892 : Cond.instanceMethod yX7_worst ∈ lw_g := gw (List.mem_of_getElem? (i := 892) (by decide +kernel)) rfl
theorem mw_893 : Cond.selects "PillarRunsModel" yX7_worst yX7_worst ∈ lw_g := gw (List.mem_of_getElem? (i := 893) (by decide +kernel)) rfl
theorem mw_894 : Cond.code yX7_worst prog_9_method_51_code 6 (some .int) ∈ lw_g := gw (List.mem_of_getElem? (i := 894) (by decide +kernel)) rfl
theorem mw_895 : Cond.methodLink "PillarRunsLaw" 84 yX7_cut ∈ lw_g := gw (List.mem_of_getElem? (i := 895) (by decide +kernel)) rfl
theorem mw_896 : Cond.instanceMethod yX7_cut ∈ lw_g := gw (List.mem_of_getElem? (i := 896) (by decide +kernel)) rfl
theorem mw_897 : Cond.selects "PillarRunsModel" yX7_cut yX7_cut ∈ lw_g := gw (List.mem_of_getElem? (i := 897) (by decide +kernel)) rfl
theorem mw_898 : Cond.code yX7_cut prog_9_method_53_code 6 (some .int) ∈ lw_g := gw (List.mem_of_getElem? (i := 898) (by decide +kernel)) rfl
theorem mw_899 : Cond.methodLink "PillarRunsModel" 179 yX7_leftCut ∈ lw_g := gw (List.mem_of_getElem? (i := 899) (by decide +kernel)) rfl
theorem mw_901 : Cond.instanceMethod yX7_leftCut ∈ lw_g := gw (List.mem_of_getElem? (i := 901) (by decide +kernel)) rfl
theorem mw_902 : Cond.code yX7_leftCut prog_9_method_52_code 4 (some .int) ∈ lw_g := gw (List.mem_of_getElem? (i := 902) (by decide +kernel)) rfl
theorem mw_903 : Cond.methodLink "PillarRunsLaw" 88 yX7_mending ∈ lw_g := gw (List.mem_of_getElem? (i := 903) (by decide +kernel)) rfl
theorem mw_904 : Cond.instanceMethod yX7_mending ∈ lw_g := gw (List.mem_of_getElem? (i := 904) (by decide +kernel)) rfl
theorem mw_905 : Cond.selects "PillarRunsModel" yX7_mending yX7_mending ∈ lw_g := gw (List.mem_of_getElem? (i := 905) (by decide +kernel)) rfl
theorem mw_906 : Cond.code yX7_mending prog_9_method_54_code 4 (some .int) ∈ lw_g := gw (List.mem_of_getElem? (i := 906) (by decide +kernel)) rfl
theorem mw_907 : Cond.methodLink "PillarRunsLaw" 92 yX7_bestWall ∈ lw_g := gw (List.mem_of_getElem? (i := 907) (by decide +kernel)) rfl
theorem mw_908 : Cond.instanceMethod yX7_bestWall ∈ lw_g := gw (List.mem_of_getElem? (i := 908) (by decide +kernel)) rfl
theorem mw_909 : Cond.selects "PillarRunsModel" yX7_bestWall yX7_bestWall ∈ lw_g := gw (List.mem_of_getElem? (i := 909) (by decide +kernel)) rfl
theorem mw_910 : Cond.code yX7_bestWall prog_9_method_55_code 6 (some .int) ∈ lw_g := gw (List.mem_of_getElem? (i := 910) (by decide +kernel)) rfl
theorem mw_911 : Cond.methodLink "PillarRunsLaw" 96 yX7_bestCell ∈ lw_g := gw (List.mem_of_getElem? (i := 911) (by decide +kernel)) rfl
theorem mw_912 : Cond.instanceMethod yX7_bestCell ∈ lw_g := gw (List.mem_of_getElem? (i := 912) (by decide +kernel)) rfl
theorem mw_913 : Cond.selects "PillarRunsModel" yX7_bestCell yX7_bestCell ∈ lw_g := gw (List.mem_of_getElem? (i := 913) (by decide +kernel)) rfl
theorem mw_914 : Cond.code yX7_bestCell prog_9_method_56_code 7 (some .int) ∈ lw_g := gw (List.mem_of_getElem? (i := 914) (by decide +kernel)) rfl
theorem mw_915 : Cond.methodLink "PillarRunsModel" 182 yX7_tall ∈ lw_g := gw (List.mem_of_getElem? (i := 915) (by decide +kernel)) rfl
theorem mw_916 : Cond.static yX7_tall ∈ lw_g := gw (List.mem_of_getElem? (i := 916) (by decide +kernel)) rfl
theorem mw_917 : Cond.code yX7_tall prog_9_method_34_code 1 (some .int) ∈ lw_g := gw (List.mem_of_getElem? (i := 917) (by decide +kernel)) rfl
theorem mw_918 : Cond.methodLink "PillarRunsLaw" 100 yX7_type ∈ lw_g := gw (List.mem_of_getElem? (i := 918) (by decide +kernel)) rfl
theorem mw_919 : Cond.instanceMethod yX7_type ∈ lw_g := gw (List.mem_of_getElem? (i := 919) (by decide +kernel)) rfl
theorem mw_920 : Cond.selects "PillarRunsModel" yX7_type yX7_type ∈ lw_g := gw (List.mem_of_getElem? (i := 920) (by decide +kernel)) rfl
theorem mw_921 : Cond.code yX7_type prog_9_method_57_code 2 (some .int) ∈ lw_g := gw (List.mem_of_getElem? (i := 921) (by decide +kernel)) rfl
theorem mw_922 : Cond.methodLink "PillarRunsLaw" 104 yX7_clear ∈ lw_g := gw (List.mem_of_getElem? (i := 922) (by decide +kernel)) rfl
theorem mw_923 : Cond.instanceMethod yX7_clear ∈ lw_g := gw (List.mem_of_getElem? (i := 923) (by decide +kernel)) rfl
theorem mw_924 : Cond.selects "PillarRunsModel" yX7_clear yX7_clear ∈ lw_g := gw (List.mem_of_getElem? (i := 924) (by decide +kernel)) rfl
theorem mw_925 : Cond.code yX7_clear prog_9_method_58_code 2 (some .int) ∈ lw_g := gw (List.mem_of_getElem? (i := 925) (by decide +kernel)) rfl
theorem mw_926 : Cond.methodLink "PillarRunsLaw" 108 yX7_does ∈ lw_g := gw (List.mem_of_getElem? (i := 926) (by decide +kernel)) rfl
theorem mw_927 : Cond.instanceMethod yX7_does ∈ lw_g := gw (List.mem_of_getElem? (i := 927) (by decide +kernel)) rfl
theorem mw_928 : Cond.selects "PillarRunsModel" yX7_does yX7_does ∈ lw_g := gw (List.mem_of_getElem? (i := 928) (by decide +kernel)) rfl
theorem mw_929 : Cond.code yX7_does prog_9_method_71_code 3 (some .int) ∈ lw_g := gw (List.mem_of_getElem? (i := 929) (by decide +kernel)) rfl
theorem mw_930 : Cond.methodLink "PillarRunsModel" 191 yX7_here ∈ lw_g := gw (List.mem_of_getElem? (i := 930) (by decide +kernel)) rfl
theorem mw_932 : Cond.instanceMethod yX7_here ∈ lw_g := gw (List.mem_of_getElem? (i := 932) (by decide +kernel)) rfl
theorem mw_933 : Cond.code yX7_here prog_9_method_59_code 1 (some .int) ∈ lw_g := gw (List.mem_of_getElem? (i := 933) (by decide +kernel)) rfl
theorem mw_934 : Cond.methodLink "PillarRunsModel" 228 yX7_keepsAhead ∈ lw_g := gw (List.mem_of_getElem? (i := 934) (by decide +kernel)) rfl
theorem mw_936 : Cond.instanceMethod yX7_keepsAhead ∈ lw_g := gw (List.mem_of_getElem? (i := 936) (by decide +kernel)) rfl
theorem mw_937 : Cond.code yX7_keepsAhead prog_9_method_69_code 2 none ∈ lw_g := gw (List.mem_of_getElem? (i := 937) (by decide +kernel)) rfl
theorem mw_938 : Cond.methodLink "PillarRunsModel" 231 yX7_readsOrder ∈ lw_g := gw (List.mem_of_getElem? (i := 938) (by decide +kernel)) rfl
theorem mw_940 : Cond.instanceMethod yX7_readsOrder ∈ lw_g := gw (List.mem_of_getElem? (i := 940) (by decide +kernel)) rfl
theorem mw_941 : Cond.code yX7_readsOrder prog_9_method_68_code 3 (some .boolean) ∈ lw_g := gw (List.mem_of_getElem? (i := 941) (by decide +kernel)) rfl
theorem mw_942 : Cond.methodLink "PillarRunsModel" 210 yX7_readsPillar ∈ lw_g := gw (List.mem_of_getElem? (i := 942) (by decide +kernel)) rfl
theorem mw_944 : Cond.instanceMethod yX7_readsPillar ∈ lw_g := gw (List.mem_of_getElem? (i := 944) (by decide +kernel)) rfl
theorem mw_945 : Cond.code yX7_readsPillar prog_9_method_63_code 3 (some .boolean) ∈ lw_g := gw (List.mem_of_getElem? (i := 945) (by decide +kernel)) rfl
theorem mw_946 : Cond.methodLink "PillarRunsModel" 203 yX7_readsCell ∈ lw_g := gw (List.mem_of_getElem? (i := 946) (by decide +kernel)) rfl
theorem mw_948 : Cond.instanceMethod yX7_readsCell ∈ lw_g := gw (List.mem_of_getElem? (i := 948) (by decide +kernel)) rfl
theorem mw_949 : Cond.code yX7_readsCell prog_9_method_62_code 1 (some .boolean) ∈ lw_g := gw (List.mem_of_getElem? (i := 949) (by decide +kernel)) rfl
theorem mw_950 : Cond.methodLink "PillarRunsModel" 197 yX7_readsNumber ∈ lw_g := gw (List.mem_of_getElem? (i := 950) (by decide +kernel)) rfl
theorem mw_952 : Cond.instanceMethod yX7_readsNumber ∈ lw_g := gw (List.mem_of_getElem? (i := 952) (by decide +kernel)) rfl
theorem mw_953 : Cond.code yX7_readsNumber prog_9_method_60_code 4 (some .boolean) ∈ lw_g := gw (List.mem_of_getElem? (i := 953) (by decide +kernel)) rfl
theorem mw_954 : Cond.methodLink "PillarRunsModel" 207 yX7_ends ∈ lw_g := gw (List.mem_of_getElem? (i := 954) (by decide +kernel)) rfl
theorem mw_956 : Cond.instanceMethod yX7_ends ∈ lw_g := gw (List.mem_of_getElem? (i := 956) (by decide +kernel)) rfl
theorem mw_957 : Cond.code yX7_ends prog_9_method_61_code 1 (some .boolean) ∈ lw_g := gw (List.mem_of_getElem? (i := 957) (by decide +kernel)) rfl
theorem mw_958 : Cond.methodLink "PillarRunsModel" 213 yX7_readsWeight ∈ lw_g := gw (List.mem_of_getElem? (i := 958) (by decide +kernel)) rfl
theorem mw_960 : Cond.instanceMethod yX7_readsWeight ∈ lw_g := gw (List.mem_of_getElem? (i := 960) (by decide +kernel)) rfl
theorem mw_961 : Cond.code yX7_readsWeight prog_9_method_64_code 1 (some .boolean) ∈ lw_g := gw (List.mem_of_getElem? (i := 961) (by decide +kernel)) rfl
theorem mw_962 : Cond.methodLink "PillarRunsModel" 216 yX7_readsWall ∈ lw_g := gw (List.mem_of_getElem? (i := 962) (by decide +kernel)) rfl
theorem mw_964 : Cond.instanceMethod yX7_readsWall ∈ lw_g := gw (List.mem_of_getElem? (i := 964) (by decide +kernel)) rfl
theorem mw_965 : Cond.code yX7_readsWall prog_9_method_65_code 3 (some .boolean) ∈ lw_g := gw (List.mem_of_getElem? (i := 965) (by decide +kernel)) rfl
theorem mw_966 : Cond.methodLink "PillarRunsModel" 219 yX7_readsCrushed ∈ lw_g := gw (List.mem_of_getElem? (i := 966) (by decide +kernel)) rfl
theorem mw_968 : Cond.instanceMethod yX7_readsCrushed ∈ lw_g := gw (List.mem_of_getElem? (i := 968) (by decide +kernel)) rfl
theorem mw_969 : Cond.code yX7_readsCrushed prog_9_method_66_code 3 (some .boolean) ∈ lw_g := gw (List.mem_of_getElem? (i := 969) (by decide +kernel)) rfl
theorem mw_970 : Cond.methodLink "PillarRunsModel" 222 yX7_readsRun ∈ lw_g := gw (List.mem_of_getElem? (i := 970) (by decide +kernel)) rfl
theorem mw_972 : Cond.instanceMethod yX7_readsRun ∈ lw_g := gw (List.mem_of_getElem? (i := 972) (by decide +kernel)) rfl
theorem mw_973 : Cond.code yX7_readsRun prog_9_method_67_code 1 (some .boolean) ∈ lw_g := gw (List.mem_of_getElem? (i := 973) (by decide +kernel)) rfl
theorem mw_974 : Cond.methodLink "PillarRunsModel" 234 yX7_asAhead ∈ lw_g := gw (List.mem_of_getElem? (i := 974) (by decide +kernel)) rfl
theorem mw_976 : Cond.instanceMethod yX7_asAhead ∈ lw_g := gw (List.mem_of_getElem? (i := 976) (by decide +kernel)) rfl
theorem mw_977 : Cond.code yX7_asAhead prog_9_method_70_code 2 none ∈ lw_g := gw (List.mem_of_getElem? (i := 977) (by decide +kernel)) rfl
theorem mw_978 : Cond.methodLink "PillarRunsModel" 237 yX7_leavesAhead ∈ lw_g := gw (List.mem_of_getElem? (i := 978) (by decide +kernel)) rfl
theorem mw_980 : Cond.instanceMethod yX7_leavesAhead ∈ lw_g := gw (List.mem_of_getElem? (i := 980) (by decide +kernel)) rfl
theorem mw_981 : Cond.code yX7_leavesAhead prog_9_method_72_code 2 none ∈ lw_g := gw (List.mem_of_getElem? (i := 981) (by decide +kernel)) rfl
theorem mw_982 : Cond.methodLink "PillarRunsLaw" 116 yX7_told ∈ lw_g := gw (List.mem_of_getElem? (i := 982) (by decide +kernel)) rfl
theorem mw_983 : Cond.instanceMethod yX7_told ∈ lw_g := gw (List.mem_of_getElem? (i := 983) (by decide +kernel)) rfl
theorem mw_984 : Cond.selects "PillarRunsModel" yX7_told yX7_told ∈ lw_g := gw (List.mem_of_getElem? (i := 984) (by decide +kernel)) rfl
theorem mw_985 : Cond.code yX7_told prog_9_method_74_code 2 (some .int) ∈ lw_g := gw (List.mem_of_getElem? (i := 985) (by decide +kernel)) rfl
theorem mw_986 : Cond.methodLink "PillarRunsModel" 240 yX7_toldBy ∈ lw_g := gw (List.mem_of_getElem? (i := 986) (by decide +kernel)) rfl
theorem mw_988 : Cond.instanceMethod yX7_toldBy ∈ lw_g := gw (List.mem_of_getElem? (i := 988) (by decide +kernel)) rfl
theorem mw_989 : Cond.code yX7_toldBy prog_9_method_73_code 2 (some .int) ∈ lw_g := gw (List.mem_of_getElem? (i := 989) (by decide +kernel)) rfl
theorem mw_990 : Cond.methodLink "PillarRunsLaw" 121 yX7_digest ∈ lw_g := gw (List.mem_of_getElem? (i := 990) (by decide +kernel)) rfl
theorem mw_991 : Cond.instanceMethod yX7_digest ∈ lw_g := gw (List.mem_of_getElem? (i := 991) (by decide +kernel)) rfl
theorem mw_992 : Cond.selects "PillarRunsModel" yX7_digest yX7_digest ∈ lw_g := gw (List.mem_of_getElem? (i := 992) (by decide +kernel)) rfl
theorem mw_993 : Cond.code yX7_digest prog_9_method_75_code 5 (some .long) ∈ lw_g := gw (List.mem_of_getElem? (i := 993) (by decide +kernel)) rfl
theorem mw_994 : Cond.constantLong "PillarRunsModel" 243 (2153 : Int64) ∈ lw_g := gw (List.mem_of_getElem? (i := 994) (by decide +kernel)) rfl
theorem mw_995 : Cond.constantLong "PillarRunsModel" 245 (31 : Int64) ∈ lw_g := gw (List.mem_of_getElem? (i := 995) (by decide +kernel)) rfl
theorem inX0 : ∀ w ∈ wsX00, w ∈ lw_g := by decide +kernel
theorem inX1 : ∀ w ∈ wsX10, w ∈ lw_g := by decide +kernel
theorem inX2 : ∀ w ∈ wsX20, w ∈ lw_g := by decide +kernel
theorem inX3 : ∀ w ∈ wsX30, w ∈ lw_g := by decide +kernel
theorem inX4 : ∀ w ∈ wsX40, w ∈ lw_g := by decide +kernel
theorem inX5 : ∀ w ∈ wsX50, w ∈ lw_g := by decide +kernel
theorem inX6 : ∀ w ∈ wsX60, w ∈ lw_g := by decide +kernel
theorem inX7 : ∀ w ∈ wsX70, w ∈ lw_g := by decide +kernel
end
section
theorem mwx_static_max : Cond.static Lib.Math.max.name ∈ lw_g := mw_505
theorem mwx_code_max : Cond.code Lib.Math.max.name Lib.Math.max.code 2 (some .int) ∈ lw_g := mw_506
theorem mwx_static_min : Cond.static Lib.Math.min.name ∈ lw_g := mw_298
theorem mwx_code_min : Cond.code Lib.Math.min.name Lib.Math.min.code 2 (some .int) ∈ lw_g := mw_299
theorem mwx_static_abs : Cond.static Lib.Math.abs.name ∈ lw_g := mw_368
theorem mwx_code_abs : Cond.code Lib.Math.abs.name Lib.Math.abs.code 1 (some .int) ∈ lw_g := mw_369
theorem mwx_init_Math : Cond.initialized "java/lang/Math" ∈ lw_g := mw_71
theorem mwx_init_System : Cond.initialized "java/lang/System" ∈ lw_g := mw_70
theorem mwx_native_copy : Cond.native arraycopyName ∈ lw_g := mw_296
theorem mwx_static_copy : Cond.static arraycopyName ∈ lw_g := mw_295
abbrev KK : Type := va_G × ClassId × ClassId
abbrev ktys (K : KK) : List (ClassId × FieldType) := [(K.2.1, .int), (K.2.2, .object RX1)]
def rmc (d kc ks : Nat) : Room := { frames := d, cells := kc, slots := ks, locals := 37 * d }
def lget : List (Option Value) → Nat → Option Value
  | [], _ => none
  | v :: _, 0 => v
  | _ :: t, n + 1 => lget t n
def lput : List (Option Value) → Nat → Option Value → List (Option Value)
  | [], _, _ => []
  | _ :: t, 0, v => v :: t
  | x :: t, n + 1, v => x :: lput t n v
def lkl : Option Value → Option Value
  | some (.long _) => none
  | some (.double _) => none
  | x => x
def lset : List (Option Value) → Nat → Value → List (Option Value)
  | [], _, _ => []
  | _ :: t, 0, v => some v :: t
  | x :: t, 1, v => lkl x :: lset t 0 v
  | x :: t, n + 2, v => x :: lset t (n + 1) v
def lset2 (lv : List (Option Value)) (i : Nat) (v : Value) : List (Option Value) := lput (lset lv i v) (i + 1) none
def lmask : List Bool → List (Option Value) → List (Option Value)
  | b :: bs, x :: t => (bif b then x else none) :: lmask bs t
  | _, _ => []
theorem lkl_get {x : Option Value} {w : Value} (h : lkl x = some w) : x = some w ∧ w.category = 1 := by
  match x with
  | none => simp [lkl] at h
  | some v => cases v <;> simp_all [lkl, Value.category] <;> (try (subst h; rfl))
theorem lset_get : ∀ (lv : List (Option Value)) (i : Nat) (v : Value) (j : Nat) (w : Value), lget (lset lv i v) j = some w → (j = i ∧ w = v) ∨ (j ≠ i ∧ lget lv j = some w ∧ (j + 1 = i → w.category = 1))
  | [], _, _, _, _, h => by simp [lset, lget] at h
  | x :: t, 0, v, 0, w, h => by
    simp [lset, lget] at h
    exact Or.inl ⟨rfl, h.symm⟩
  | x :: t, 0, v, j + 1, w, h => by
    exact Or.inr ⟨by omega, h, by omega⟩
  | x :: t, 1, v, 0, w, h => by
    obtain ⟨h1, h2⟩ := lkl_get (x := x) (w := w) h
    exact Or.inr ⟨by omega, h1, fun _ => h2⟩
  | x :: t, 1, v, j + 1, w, h => by
    rcases lset_get t 0 v j w h with ⟨h1, h2⟩ | ⟨h1, h2, h3⟩
    · exact Or.inl ⟨by omega, h2⟩
    · exact Or.inr ⟨by omega, h2, by omega⟩
  | x :: t, i + 2, v, 0, w, h => Or.inr ⟨by omega, h, by omega⟩
  | x :: t, i + 2, v, j + 1, w, h => by
    rcases lset_get t (i + 1) v j w h with ⟨h1, h2⟩ | ⟨h1, h2, h3⟩
    · exact Or.inl ⟨by omega, h2⟩
    · exact Or.inr ⟨by omega, h2, fun z => h3 (by omega)⟩
theorem lput_get : ∀ (lv : List (Option Value)) (i : Nat) (j : Nat) (w : Value), lget (lput lv i none) j = some w → j ≠ i ∧ lget lv j = some w
  | [], _, _, _, h => by simp [lput, lget] at h
  | x :: t, 0, 0, w, h => by simp [lput, lget] at h
  | x :: t, 0, j + 1, w, h => ⟨by omega, h⟩
  | x :: t, i + 1, 0, w, h => ⟨by omega, h⟩
  | x :: t, i + 1, j + 1, w, h => by
    obtain ⟨h1, h2⟩ := lput_get t i j w h
    exact ⟨by omega, h2⟩
theorem lmask_get : ∀ (bs : List Bool) (lv : List (Option Value)) (j : Nat) (w : Value), lget (lmask bs lv) j = some w → lget lv j = some w
  | [], lv, _, _, h => by simp [lmask, lget] at h
  | _ :: _, [], _, _, h => by simp [lmask, lget] at h
  | b :: bs, x :: t, 0, w, h => by
    cases b with
    | true => exact h
    | false => simp [lmask, lget] at h
  | b :: bs, x :: t, j + 1, w, h => lmask_get bs t j w h
def lh (ls : Array Slot) (nL : Nat) (lv : List (Option Value)) : Prop := ls.size = nL ∧ lv_wf ls ∧ ∀ (i : Nat) (v : Value), lget lv i = some v → ls[i]? = some (.val v)
def lasc (nL : Nat) (lv : List (Option Value)) : List (Nat × Value) := (List.range nL).filterMap (fun i => (lget lv i).map (fun v => (i, v)))
theorem lasc_mem {nL : Nat} {lv : List (Option Value)} {i : Nat} {v : Value} (hi : i < nL) (h : lget lv i = some v) : (i, v) ∈ lasc nL lv :=
  List.mem_filterMap.mpr ⟨i, List.mem_range.mpr hi, by rw [h]; rfl⟩
theorem lasc_of {nL : Nat} {lv : List (Option Value)} {q : Nat × Value} (h : q ∈ lasc nL lv) : lget lv q.1 = some q.2 := by
  obtain ⟨i, -, hi⟩ := List.mem_filterMap.mp h
  cases hg : lget lv i with
  | none => rw [hg] at hi; cases hi
  | some v => rw [hg] at hi; cases hi; exact hg
theorem lh.asc {ls : Array Slot} {nL : Nat} {lv : List (Option Value)} (h : lh ls nL lv) : lv_has ls nL (lasc nL lv) := ⟨h.1, h.2.1, fun _ hq => h.2.2 _ _ (lasc_of hq)⟩
theorem lh.lt {ls : Array Slot} {nL : Nat} {lv : List (Option Value)} (h : lh ls nL lv) {i : Nat} {v : Value} (hi : lget lv i = some v) : i < nL := by
  have := lv_lt (h.2.2 i v hi)
  rw [h.1] at this
  exact this
theorem lh.st1 {ls ls' : Array Slot} {nL : Nat} {lv : List (Option Value)} {i : Nat} {v : Value} (h : lh ls nL lv) (h' : lv_has ls' nL ((i, v) :: (lasc nL lv).filter (fun q => !(q.1 == i) && !(q.1 + 1 == i && q.2.category == 2)))) : lh ls' nL (lset lv i v) := by
  refine ⟨h'.1, h'.2.1, fun j w hj => ?_⟩
  rcases lset_get lv i v j w hj with ⟨rfl, rfl⟩ | ⟨h1, h2, h3⟩
  · exact h'.2.2 (j, w) List.mem_cons_self
  · refine h'.2.2 (j, w) (List.mem_cons_of_mem _ (List.mem_filter.mpr ⟨lasc_mem (h.lt h2) h2, ?_⟩))
    have e1 : (j == i) = false := by simpa using h1
    by_cases h4 : j + 1 = i
    · simp [e1, h3 h4]
    · simp [e1, h4]
theorem lh.st2 {ls ls' : Array Slot} {nL : Nat} {lv : List (Option Value)} {i : Nat} {v : Value} (h : lh ls nL lv) (h' : lv_has ls' nL ((i, v) :: (lasc nL lv).filter (fun q => !(q.1 == i) && (!(q.1 == i + 1) && !(q.1 + 1 == i && q.2.category == 2))))) : lh ls' nL (lset2 lv i v) := by
  refine ⟨h'.1, h'.2.1, fun j w hj => ?_⟩
  obtain ⟨h0, hj⟩ := lput_get _ _ _ _ hj
  rcases lset_get lv i v j w hj with ⟨rfl, rfl⟩ | ⟨h1, h2, h3⟩
  · exact h'.2.2 (j, w) List.mem_cons_self
  · refine h'.2.2 (j, w) (List.mem_cons_of_mem _ (List.mem_filter.mpr ⟨lasc_mem (h.lt h2) h2, ?_⟩))
    have e1 : (j == i) = false := by simpa using h1
    have e2 : (j == i + 1) = false := by simpa using h0
    by_cases h4 : j + 1 = i
    · simp [e1, e2, h3 h4]
    · simp [e1, e2, h4]
def Cx (p : Program) (R : Room) (s : State) (m : MethodId) (args : Array Value) (meth : Method) (c : Code) (K : KK) (A : Nat → Prop) (H0 : Heap) (cc : ByteArray) (own : String) (nL d : Nat) : Prop :=
  p.tables.exec = Jvm.exec ∧ c.code = cc ∧ c.maxLocals = nL ∧ s.vm.findClass own = some m.cls ∧ (∀ w ∈ lw_g, w.before args s = true) ∧ va_K K.1 vwCl (ktys K) s ∧ meth.locks = false ∧ d ≤ R.frames ∧ 37 * d ≤ R.locals
def Go (p : Program) (l : Launch) (e : Env) (R : Room) (s : State) (m : MethodId) (args : Array Value) (below : List Frame) (meth : Method) (c : Code) (K : KK) (A : Nat → Prop) (H0 : Heap) (nL : Nat) (k n : Nat) (Q : State → Prop) (ws : va_W) (pc : Nat) (lv : List (Option Value)) (st : List Value) : Prop :=
  ∀ (H : Heap) (locs : List Loc) (ls : Array Slot), va_P K.1 vwCl ws H → va_D A ws → va_S A H0 H locs → lh ls nL lv → W p l e R s m args below meth c H locs k n Q (F0 m pc ls st)
section GO
variable {p : Program} {l : Launch} {e : Env} {R : Room} {s : State} {m : MethodId} {args : Array Value} {below : List Frame} {meth : Method} {c : Code} {K : KK} {A : Nat → Prop} {H0 : Heap} {cc : ByteArray} {own : String} {nL d k n : Nat} {Q : State → Prop} {ws : va_W} {pc : Nat} {lv : List (Option Value)} {st : List Value}
theorem Go_iconst (C : Cx p R s m args meth c K A H0 cc own nL d) {z : Int} {v : Int32} (hd : decode cc pc = .ok (.iconst z, 1)) (hv : Int32.ofInt z = v) (kk : Go p l e R s m args below meth c K A H0 nL k n Q ws (pc + 1) (lv) (.int v :: st)) : Go p l e R s m args below meth c K A H0 nL k n Q ws (pc) (lv) (st) := fun H locs ls hP hD hS hl => lv_iconst C.1 C.2.1 hd hv (kk H locs ls hP hD hS hl)
theorem Go_bipush (C : Cx p R s m args meth c K A H0 cc own nL d) {z : Int} {v : Int32} (hd : decode cc pc = .ok (.bipush z, 2)) (hv : (Int8.ofInt z).toInt32 = v) (kk : Go p l e R s m args below meth c K A H0 nL k n Q ws (pc + 2) (lv) (.int v :: st)) : Go p l e R s m args below meth c K A H0 nL k n Q ws (pc) (lv) (st) := fun H locs ls hP hD hS hl => lv_bipush C.1 C.2.1 hd hv (kk H locs ls hP hD hS hl)
theorem Go_sipush (C : Cx p R s m args meth c K A H0 cc own nL d) {z : Int} {v : Int32} (hd : decode cc pc = .ok (.sipush z, 3)) (hv : (Int16.ofInt z).toInt32 = v) (kk : Go p l e R s m args below meth c K A H0 nL k n Q ws (pc + 3) (lv) (.int v :: st)) : Go p l e R s m args below meth c K A H0 nL k n Q ws (pc) (lv) (st) := fun H locs ls hP hD hS hl => lv_sipush C.1 C.2.1 hd hv (kk H locs ls hP hD hS hl)
theorem Go_lconst (C : Cx p R s m args meth c K A H0 cc own nL d) {z : Fin 2} {v : Int64} (hd : decode cc pc = .ok (.lconst z, 1)) (hv : Int64.ofNat (z : Nat) = v) (kk : Go p l e R s m args below meth c K A H0 nL k n Q ws (pc + 1) (lv) (.long v :: st)) : Go p l e R s m args below meth c K A H0 nL k n Q ws (pc) (lv) (st) := fun H locs ls hP hD hS hl => lv_lconst C.1 C.2.1 hd hv (kk H locs ls hP hD hS hl)
theorem Go_iload_n (C : Cx p R s m args meth c K A H0 cc own nL d) {j : Fin 4} {x : Int32} (hd : decode cc pc = .ok (.iload_n j, 1)) (hq : lget lv (j : Nat) = some (.int x)) (kk : Go p l e R s m args below meth c K A H0 nL k n Q ws (pc + 1) (lv) (.int x :: st)) : Go p l e R s m args below meth c K A H0 nL k n Q ws (pc) (lv) (st) := fun H locs ls hP hD hS hl => lv_iload_n C.1 C.2.1 hd rfl (hl.2.2 _ _ hq) (kk H locs ls hP hD hS hl)
theorem Go_iload (C : Cx p R s m args meth c K A H0 cc own nL d) {j : Nat} {x : Int32} (hd : decode cc pc = .ok (.iload j, 2)) (hq : lget lv j = some (.int x)) (kk : Go p l e R s m args below meth c K A H0 nL k n Q ws (pc + 2) (lv) (.int x :: st)) : Go p l e R s m args below meth c K A H0 nL k n Q ws (pc) (lv) (st) := fun H locs ls hP hD hS hl => lv_iload C.1 C.2.1 hd (hl.2.2 _ _ hq) (kk H locs ls hP hD hS hl)
theorem Go_lload_n (C : Cx p R s m args meth c K A H0 cc own nL d) {j : Fin 4} {x : Int64} (hd : decode cc pc = .ok (.lload_n j, 1)) (hq : lget lv (j : Nat) = some (.long x)) (kk : Go p l e R s m args below meth c K A H0 nL k n Q ws (pc + 1) (lv) (.long x :: st)) : Go p l e R s m args below meth c K A H0 nL k n Q ws (pc) (lv) (st) := fun H locs ls hP hD hS hl => lv_lload_n C.1 C.2.1 hd rfl (hl.2.2 _ _ hq) (kk H locs ls hP hD hS hl)
theorem Go_lload (C : Cx p R s m args meth c K A H0 cc own nL d) {j : Nat} {x : Int64} (hd : decode cc pc = .ok (.lload j, 2)) (hq : lget lv j = some (.long x)) (kk : Go p l e R s m args below meth c K A H0 nL k n Q ws (pc + 2) (lv) (.long x :: st)) : Go p l e R s m args below meth c K A H0 nL k n Q ws (pc) (lv) (st) := fun H locs ls hP hD hS hl => lv_lload C.1 C.2.1 hd (hl.2.2 _ _ hq) (kk H locs ls hP hD hS hl)
theorem Go_aload_n (C : Cx p R s m args meth c K A H0 cc own nL d) {j : Fin 4} {x : Nat} (hd : decode cc pc = .ok (.aload_n j, 1)) (hq : lget lv (j : Nat) = some (.ref x)) (kk : Go p l e R s m args below meth c K A H0 nL k n Q ws (pc + 1) (lv) (.ref x :: st)) : Go p l e R s m args below meth c K A H0 nL k n Q ws (pc) (lv) (st) := fun H locs ls hP hD hS hl => lv_aload_n C.1 C.2.1 hd rfl (hl.2.2 _ _ hq) (kk H locs ls hP hD hS hl)
theorem Go_aload (C : Cx p R s m args meth c K A H0 cc own nL d) {j : Nat} {x : Nat} (hd : decode cc pc = .ok (.aload j, 2)) (hq : lget lv j = some (.ref x)) (kk : Go p l e R s m args below meth c K A H0 nL k n Q ws (pc + 2) (lv) (.ref x :: st)) : Go p l e R s m args below meth c K A H0 nL k n Q ws (pc) (lv) (st) := fun H locs ls hP hD hS hl => lv_aload C.1 C.2.1 hd (hl.2.2 _ _ hq) (kk H locs ls hP hD hS hl)
theorem Go_istore_n (C : Cx p R s m args meth c K A H0 cc own nL d) {j : Fin 4} {x : Int32} (hd : decode cc pc = .ok (.istore_n j, 1)) (hn : (j : Nat) < nL) (kk : Go p l e R s m args below meth c K A H0 nL k n Q ws (pc + 1) (lset lv (j : Nat) (.int x)) (st)) : Go p l e R s m args below meth c K A H0 nL k n Q ws (pc) (lv) (.int x :: st) := fun H locs ls hP hD hS hl => lv_istore_n C.1 C.2.1 hd rfl hl.asc hn rfl (fun ls1 h1 => kk H locs ls1 hP hD hS (hl.st1 h1))
theorem Go_istore (C : Cx p R s m args meth c K A H0 cc own nL d) {j : Nat} {x : Int32} (hd : decode cc pc = .ok (.istore j, 2)) (hn : j < nL) (kk : Go p l e R s m args below meth c K A H0 nL k n Q ws (pc + 2) (lset lv j (.int x)) (st)) : Go p l e R s m args below meth c K A H0 nL k n Q ws (pc) (lv) (.int x :: st) := fun H locs ls hP hD hS hl => lv_istore C.1 C.2.1 hd  hl.asc hn rfl (fun ls1 h1 => kk H locs ls1 hP hD hS (hl.st1 h1))
theorem Go_astore_n (C : Cx p R s m args meth c K A H0 cc own nL d) {j : Fin 4} {x : Nat} (hd : decode cc pc = .ok (.astore_n j, 1)) (hn : (j : Nat) < nL) (kk : Go p l e R s m args below meth c K A H0 nL k n Q ws (pc + 1) (lset lv (j : Nat) (.ref x)) (st)) : Go p l e R s m args below meth c K A H0 nL k n Q ws (pc) (lv) (.ref x :: st) := fun H locs ls hP hD hS hl => lv_astore_n C.1 C.2.1 hd rfl hl.asc hn rfl (fun ls1 h1 => kk H locs ls1 hP hD hS (hl.st1 h1))
theorem Go_astore (C : Cx p R s m args meth c K A H0 cc own nL d) {j : Nat} {x : Nat} (hd : decode cc pc = .ok (.astore j, 2)) (hn : j < nL) (kk : Go p l e R s m args below meth c K A H0 nL k n Q ws (pc + 2) (lset lv j (.ref x)) (st)) : Go p l e R s m args below meth c K A H0 nL k n Q ws (pc) (lv) (.ref x :: st) := fun H locs ls hP hD hS hl => lv_astore C.1 C.2.1 hd  hl.asc hn rfl (fun ls1 h1 => kk H locs ls1 hP hD hS (hl.st1 h1))
theorem Go_lstore_n (C : Cx p R s m args meth c K A H0 cc own nL d) {j : Fin 4} {x : Int64} (hd : decode cc pc = .ok (.lstore_n j, 1)) (hn : (j : Nat) + 1 < nL) (kk : Go p l e R s m args below meth c K A H0 nL k n Q ws (pc + 1) (lset2 lv (j : Nat) (.long x)) (st)) : Go p l e R s m args below meth c K A H0 nL k n Q ws (pc) (lv) (.long x :: st) := fun H locs ls hP hD hS hl => lv_lstore_n C.1 C.2.1 hd rfl hl.asc hn rfl (fun ls1 h1 => kk H locs ls1 hP hD hS (hl.st2 h1))
theorem Go_lstore (C : Cx p R s m args meth c K A H0 cc own nL d) {j : Nat} {x : Int64} (hd : decode cc pc = .ok (.lstore j, 2)) (hn : j + 1 < nL) (kk : Go p l e R s m args below meth c K A H0 nL k n Q ws (pc + 2) (lset2 lv j (.long x)) (st)) : Go p l e R s m args below meth c K A H0 nL k n Q ws (pc) (lv) (.long x :: st) := fun H locs ls hP hD hS hl => lv_lstore C.1 C.2.1 hd  hl.asc hn rfl (fun ls1 h1 => kk H locs ls1 hP hD hS (hl.st2 h1))
theorem Go_iinc (C : Cx p R s m args meth c K A H0 cc own nL d) {j : Nat} {z : Int} {x v : Int32} (hd : decode cc pc = .ok (.iinc j z, 3)) (hq : lget lv j = some (.int x)) (hv : x + Int32.ofInt z = v) (kk : Go p l e R s m args below meth c K A H0 nL k n Q ws (pc + 3) (lset lv j (.int v)) (st)) : Go p l e R s m args below meth c K A H0 nL k n Q ws (pc) (lv) (st) := by
  intro H locs ls hP hD hS hl
  obtain ⟨i, hi⟩ := List.getElem?_of_mem (lasc_mem (hl.lt hq) hq)
  exact lv_iinc C.1 C.2.1 hd hl.asc hi hv (hl.lt hq) rfl (fun ls1 h1 => kk H locs ls1 hP hD hS (hl.st1 h1))
theorem Go_iadd (C : Cx p R s m args meth c K A H0 cc own nL d) {x y : Int32} (hd : decode cc pc = .ok (.iadd, 1))  (kk : Go p l e R s m args below meth c K A H0 nL k n Q ws (pc + 1) (lv) (.int (x + y) :: st)) : Go p l e R s m args below meth c K A H0 nL k n Q ws (pc) (lv) (.int y :: .int x :: st) := fun H locs ls hP hD hS hl => lv_iadd C.1 C.2.1 hd  (kk H locs ls hP hD hS hl)
theorem Go_isub (C : Cx p R s m args meth c K A H0 cc own nL d) {x y : Int32} (hd : decode cc pc = .ok (.isub, 1))  (kk : Go p l e R s m args below meth c K A H0 nL k n Q ws (pc + 1) (lv) (.int (x - y) :: st)) : Go p l e R s m args below meth c K A H0 nL k n Q ws (pc) (lv) (.int y :: .int x :: st) := fun H locs ls hP hD hS hl => lv_isub C.1 C.2.1 hd  (kk H locs ls hP hD hS hl)
theorem Go_imul (C : Cx p R s m args meth c K A H0 cc own nL d) {x y : Int32} (hd : decode cc pc = .ok (.imul, 1))  (kk : Go p l e R s m args below meth c K A H0 nL k n Q ws (pc + 1) (lv) (.int (x * y) :: st)) : Go p l e R s m args below meth c K A H0 nL k n Q ws (pc) (lv) (.int y :: .int x :: st) := fun H locs ls hP hD hS hl => lv_imul C.1 C.2.1 hd  (kk H locs ls hP hD hS hl)
theorem Go_iand (C : Cx p R s m args meth c K A H0 cc own nL d) {x y : Int32} (hd : decode cc pc = .ok (.iand, 1))  (kk : Go p l e R s m args below meth c K A H0 nL k n Q ws (pc + 1) (lv) (.int (x &&& y) :: st)) : Go p l e R s m args below meth c K A H0 nL k n Q ws (pc) (lv) (.int y :: .int x :: st) := fun H locs ls hP hD hS hl => lv_iand C.1 C.2.1 hd  (kk H locs ls hP hD hS hl)
theorem Go_ior (C : Cx p R s m args meth c K A H0 cc own nL d) {x y : Int32} (hd : decode cc pc = .ok (.ior, 1))  (kk : Go p l e R s m args below meth c K A H0 nL k n Q ws (pc + 1) (lv) (.int (x ||| y) :: st)) : Go p l e R s m args below meth c K A H0 nL k n Q ws (pc) (lv) (.int y :: .int x :: st) := fun H locs ls hP hD hS hl => lv_ior C.1 C.2.1 hd  (kk H locs ls hP hD hS hl)
theorem Go_ixor (C : Cx p R s m args meth c K A H0 cc own nL d) {x y : Int32} (hd : decode cc pc = .ok (.ixor, 1))  (kk : Go p l e R s m args below meth c K A H0 nL k n Q ws (pc + 1) (lv) (.int (x ^^^ y) :: st)) : Go p l e R s m args below meth c K A H0 nL k n Q ws (pc) (lv) (.int y :: .int x :: st) := fun H locs ls hP hD hS hl => lv_ixor C.1 C.2.1 hd  (kk H locs ls hP hD hS hl)
theorem Go_ishl (C : Cx p R s m args meth c K A H0 cc own nL d) {x y : Int32} (hd : decode cc pc = .ok (.ishl, 1))  (kk : Go p l e R s m args below meth c K A H0 nL k n Q ws (pc + 1) (lv) (.int (x <<< (y &&& 31)) :: st)) : Go p l e R s m args below meth c K A H0 nL k n Q ws (pc) (lv) (.int y :: .int x :: st) := fun H locs ls hP hD hS hl => lv_ishl C.1 C.2.1 hd  (kk H locs ls hP hD hS hl)
theorem Go_ishr (C : Cx p R s m args meth c K A H0 cc own nL d) {x y : Int32} (hd : decode cc pc = .ok (.ishr, 1))  (kk : Go p l e R s m args below meth c K A H0 nL k n Q ws (pc + 1) (lv) (.int (x >>> (y &&& 31)) :: st)) : Go p l e R s m args below meth c K A H0 nL k n Q ws (pc) (lv) (.int y :: .int x :: st) := fun H locs ls hP hD hS hl => lv_ishr C.1 C.2.1 hd  (kk H locs ls hP hD hS hl)
theorem Go_ladd (C : Cx p R s m args meth c K A H0 cc own nL d) {x y : Int64} (hd : decode cc pc = .ok (.ladd, 1))  (kk : Go p l e R s m args below meth c K A H0 nL k n Q ws (pc + 1) (lv) (.long (x + y) :: st)) : Go p l e R s m args below meth c K A H0 nL k n Q ws (pc) (lv) (.long y :: .long x :: st) := fun H locs ls hP hD hS hl => lv_ladd C.1 C.2.1 hd  (kk H locs ls hP hD hS hl)
theorem Go_lsub (C : Cx p R s m args meth c K A H0 cc own nL d) {x y : Int64} (hd : decode cc pc = .ok (.lsub, 1))  (kk : Go p l e R s m args below meth c K A H0 nL k n Q ws (pc + 1) (lv) (.long (x - y) :: st)) : Go p l e R s m args below meth c K A H0 nL k n Q ws (pc) (lv) (.long y :: .long x :: st) := fun H locs ls hP hD hS hl => lv_lsub C.1 C.2.1 hd  (kk H locs ls hP hD hS hl)
theorem Go_lmul (C : Cx p R s m args meth c K A H0 cc own nL d) {x y : Int64} (hd : decode cc pc = .ok (.lmul, 1))  (kk : Go p l e R s m args below meth c K A H0 nL k n Q ws (pc + 1) (lv) (.long (x * y) :: st)) : Go p l e R s m args below meth c K A H0 nL k n Q ws (pc) (lv) (.long y :: .long x :: st) := fun H locs ls hP hD hS hl => lv_lmul C.1 C.2.1 hd  (kk H locs ls hP hD hS hl)
theorem Go_idiv (C : Cx p R s m args meth c K A H0 cc own nL d) {x y : Int32} (hd : decode cc pc = .ok (.idiv, 1)) (hne : ¬ y = 0) (kk : Go p l e R s m args below meth c K A H0 nL k n Q ws (pc + 1) (lv) (.int (x / y) :: st)) : Go p l e R s m args below meth c K A H0 nL k n Q ws (pc) (lv) (.int y :: .int x :: st) := fun H locs ls hP hD hS hl => lv_idiv C.1 C.2.1 hd hne (kk H locs ls hP hD hS hl)
theorem Go_irem (C : Cx p R s m args meth c K A H0 cc own nL d) {x y : Int32} (hd : decode cc pc = .ok (.irem, 1)) (hne : ¬ y = 0) (kk : Go p l e R s m args below meth c K A H0 nL k n Q ws (pc + 1) (lv) (.int (x - x / y * y) :: st)) : Go p l e R s m args below meth c K A H0 nL k n Q ws (pc) (lv) (.int y :: .int x :: st) := fun H locs ls hP hD hS hl => lv_irem C.1 C.2.1 hd hne (kk H locs ls hP hD hS hl)
theorem Go_ldiv (C : Cx p R s m args meth c K A H0 cc own nL d) {x y : Int64} (hd : decode cc pc = .ok (.ldiv, 1)) (hne : ¬ y = 0) (kk : Go p l e R s m args below meth c K A H0 nL k n Q ws (pc + 1) (lv) (.long (x / y) :: st)) : Go p l e R s m args below meth c K A H0 nL k n Q ws (pc) (lv) (.long y :: .long x :: st) := fun H locs ls hP hD hS hl => lv_ldiv C.1 C.2.1 hd hne (kk H locs ls hP hD hS hl)
theorem Go_lrem (C : Cx p R s m args meth c K A H0 cc own nL d) {x y : Int64} (hd : decode cc pc = .ok (.lrem, 1)) (hne : ¬ y = 0) (kk : Go p l e R s m args below meth c K A H0 nL k n Q ws (pc + 1) (lv) (.long (x - x / y * y) :: st)) : Go p l e R s m args below meth c K A H0 nL k n Q ws (pc) (lv) (.long y :: .long x :: st) := fun H locs ls hP hD hS hl => lv_lrem C.1 C.2.1 hd hne (kk H locs ls hP hD hS hl)
theorem Go_i2l (C : Cx p R s m args meth c K A H0 cc own nL d) {x : Int32} (hd : decode cc pc = .ok (.i2l, 1))  (kk : Go p l e R s m args below meth c K A H0 nL k n Q ws (pc + 1) (lv) (.long x.toInt64 :: st)) : Go p l e R s m args below meth c K A H0 nL k n Q ws (pc) (lv) (.int x :: st) := fun H locs ls hP hD hS hl => lv_i2l C.1 C.2.1 hd rfl (kk H locs ls hP hD hS hl)
theorem Go_l2i (C : Cx p R s m args meth c K A H0 cc own nL d) {x : Int64} (hd : decode cc pc = .ok (.l2i, 1))  (kk : Go p l e R s m args below meth c K A H0 nL k n Q ws (pc + 1) (lv) (.int x.toInt32 :: st)) : Go p l e R s m args below meth c K A H0 nL k n Q ws (pc) (lv) (.long x :: st) := fun H locs ls hP hD hS hl => lv_l2i C.1 C.2.1 hd rfl (kk H locs ls hP hD hS hl)
theorem Go_dup (C : Cx p R s m args meth c K A H0 cc own nL d) {x : Value} (hd : decode cc pc = .ok (.dup, 1)) (h1 : x.category = 1) (kk : Go p l e R s m args below meth c K A H0 nL k n Q ws (pc + 1) (lv) (x :: x :: st)) : Go p l e R s m args below meth c K A H0 nL k n Q ws (pc) (lv) (x :: st) := fun H locs ls hP hD hS hl => lv_dup C.1 C.2.1 hd h1 (kk H locs ls hP hD hS hl)
theorem Go_pop (C : Cx p R s m args meth c K A H0 cc own nL d) {x : Value} (hd : decode cc pc = .ok (.pop, 1)) (h1 : x.category = 1) (kk : Go p l e R s m args below meth c K A H0 nL k n Q ws (pc + 1) (lv) (st)) : Go p l e R s m args below meth c K A H0 nL k n Q ws (pc) (lv) (x :: st) := fun H locs ls hP hD hS hl => lv_pop C.1 C.2.1 hd h1 (kk H locs ls hP hD hS hl)
theorem Go_dup2 (C : Cx p R s m args meth c K A H0 cc own nL d) {x y : Value} (hd : decode cc pc = .ok (.dup2, 1)) (h1 : x.category = 1) (h2 : y.category = 1) (kk : Go p l e R s m args below meth c K A H0 nL k n Q ws (pc + 1) (lv) (x :: y :: x :: y :: st)) : Go p l e R s m args below meth c K A H0 nL k n Q ws (pc) (lv) (x :: y :: st) := fun H locs ls hP hD hS hl => lv_dup2_11 C.1 C.2.1 hd h1 h2 (kk H locs ls hP hD hS hl)
theorem Go_lcmp (C : Cx p R s m args meth c K A H0 cc own nL d) {x y : Int64} (hd : decode cc pc = .ok (.lcmp, 1)) (kk : Go p l e R s m args below meth c K A H0 nL k n Q ws (pc + 1) (lv) (.int (lg_cmp x y) :: st)) : Go p l e R s m args below meth c K A H0 nL k n Q ws (pc) (lv) (.long y :: .long x :: st) := fun H locs ls hP hD hS hl => W.lcmp C.1 C.2.1 hd (kk H locs ls hP hD hS hl)
theorem Go_goto (C : Cx p R s m args meth c K A H0 cc own nL d) {off : Int} {tgt : Nat} (hd : decode cc pc = .ok (.goto off, 3)) (ht : (pc : Int) + off = (tgt : Int)) (kk : Go p l e R s m args below meth c K A H0 nL k n Q ws (tgt) (lv) (st)) : Go p l e R s m args below meth c K A H0 nL k n Q ws (pc) (lv) (st) := fun H locs ls hP hD hS hl => lv_goto C.1 C.2.1 hd ht (kk H locs ls hP hD hS hl)
theorem Go_if_eq (C : Cx p R s m args meth c K A H0 cc own nL d) {x : Int32} {off : Int} {tgt : Nat} (hd : decode cc pc = .ok (.ifCond .eq off, 3)) (ht : (pc : Int) + off = (tgt : Int)) (kt : x = 0 → Go p l e R s m args below meth c K A H0 nL k n Q ws (tgt) (lv) (st)) (kf : ¬ x = 0 → Go p l e R s m args below meth c K A H0 nL k n Q ws (pc + 3) (lv) (st)) : Go p l e R s m args below meth c K A H0 nL k n Q ws (pc) (lv) (.int x :: st) := fun H locs ls hP hD hS hl => lv_if_eq C.1 C.2.1 hd ht (fun h => kt h H locs ls hP hD hS hl) (fun h => kf h H locs ls hP hD hS hl)
theorem Go_icmp_eq (C : Cx p R s m args meth c K A H0 cc own nL d) {x y : Int32} {off : Int} {tgt : Nat} (hd : decode cc pc = .ok (.if_icmp .eq off, 3)) (ht : (pc : Int) + off = (tgt : Int)) (kt : x = y → Go p l e R s m args below meth c K A H0 nL k n Q ws (tgt) (lv) (st)) (kf : ¬ x = y → Go p l e R s m args below meth c K A H0 nL k n Q ws (pc + 3) (lv) (st)) : Go p l e R s m args below meth c K A H0 nL k n Q ws (pc) (lv) (.int y :: .int x :: st) := fun H locs ls hP hD hS hl => lv_icmp_eq C.1 C.2.1 hd ht (fun h => kt h H locs ls hP hD hS hl) (fun h => kf h H locs ls hP hD hS hl)
theorem Go_if_lt (C : Cx p R s m args meth c K A H0 cc own nL d) {x : Int32} {off : Int} {tgt : Nat} (hd : decode cc pc = .ok (.ifCond .lt off, 3)) (ht : (pc : Int) + off = (tgt : Int)) (kt : x < 0 → Go p l e R s m args below meth c K A H0 nL k n Q ws (tgt) (lv) (st)) (kf : ¬ x < 0 → Go p l e R s m args below meth c K A H0 nL k n Q ws (pc + 3) (lv) (st)) : Go p l e R s m args below meth c K A H0 nL k n Q ws (pc) (lv) (.int x :: st) := fun H locs ls hP hD hS hl => lv_if_lt C.1 C.2.1 hd ht (fun h => kt h H locs ls hP hD hS hl) (fun h => kf h H locs ls hP hD hS hl)
theorem Go_icmp_lt (C : Cx p R s m args meth c K A H0 cc own nL d) {x y : Int32} {off : Int} {tgt : Nat} (hd : decode cc pc = .ok (.if_icmp .lt off, 3)) (ht : (pc : Int) + off = (tgt : Int)) (kt : x < y → Go p l e R s m args below meth c K A H0 nL k n Q ws (tgt) (lv) (st)) (kf : ¬ x < y → Go p l e R s m args below meth c K A H0 nL k n Q ws (pc + 3) (lv) (st)) : Go p l e R s m args below meth c K A H0 nL k n Q ws (pc) (lv) (.int y :: .int x :: st) := fun H locs ls hP hD hS hl => lv_icmp_lt C.1 C.2.1 hd ht (fun h => kt h H locs ls hP hD hS hl) (fun h => kf h H locs ls hP hD hS hl)
theorem Go_if_ge (C : Cx p R s m args meth c K A H0 cc own nL d) {x : Int32} {off : Int} {tgt : Nat} (hd : decode cc pc = .ok (.ifCond .ge off, 3)) (ht : (pc : Int) + off = (tgt : Int)) (kt : 0 ≤ x → Go p l e R s m args below meth c K A H0 nL k n Q ws (tgt) (lv) (st)) (kf : ¬ 0 ≤ x → Go p l e R s m args below meth c K A H0 nL k n Q ws (pc + 3) (lv) (st)) : Go p l e R s m args below meth c K A H0 nL k n Q ws (pc) (lv) (.int x :: st) := fun H locs ls hP hD hS hl => lv_if_ge C.1 C.2.1 hd ht (fun h => kt h H locs ls hP hD hS hl) (fun h => kf h H locs ls hP hD hS hl)
theorem Go_icmp_ge (C : Cx p R s m args meth c K A H0 cc own nL d) {x y : Int32} {off : Int} {tgt : Nat} (hd : decode cc pc = .ok (.if_icmp .ge off, 3)) (ht : (pc : Int) + off = (tgt : Int)) (kt : y ≤ x → Go p l e R s m args below meth c K A H0 nL k n Q ws (tgt) (lv) (st)) (kf : ¬ y ≤ x → Go p l e R s m args below meth c K A H0 nL k n Q ws (pc + 3) (lv) (st)) : Go p l e R s m args below meth c K A H0 nL k n Q ws (pc) (lv) (.int y :: .int x :: st) := fun H locs ls hP hD hS hl => lv_icmp_ge C.1 C.2.1 hd ht (fun h => kt h H locs ls hP hD hS hl) (fun h => kf h H locs ls hP hD hS hl)
theorem Go_if_gt (C : Cx p R s m args meth c K A H0 cc own nL d) {x : Int32} {off : Int} {tgt : Nat} (hd : decode cc pc = .ok (.ifCond .gt off, 3)) (ht : (pc : Int) + off = (tgt : Int)) (kt : 0 < x → Go p l e R s m args below meth c K A H0 nL k n Q ws (tgt) (lv) (st)) (kf : ¬ 0 < x → Go p l e R s m args below meth c K A H0 nL k n Q ws (pc + 3) (lv) (st)) : Go p l e R s m args below meth c K A H0 nL k n Q ws (pc) (lv) (.int x :: st) := fun H locs ls hP hD hS hl => lv_if_gt C.1 C.2.1 hd ht (fun h => kt h H locs ls hP hD hS hl) (fun h => kf h H locs ls hP hD hS hl)
theorem Go_icmp_gt (C : Cx p R s m args meth c K A H0 cc own nL d) {x y : Int32} {off : Int} {tgt : Nat} (hd : decode cc pc = .ok (.if_icmp .gt off, 3)) (ht : (pc : Int) + off = (tgt : Int)) (kt : y < x → Go p l e R s m args below meth c K A H0 nL k n Q ws (tgt) (lv) (st)) (kf : ¬ y < x → Go p l e R s m args below meth c K A H0 nL k n Q ws (pc + 3) (lv) (st)) : Go p l e R s m args below meth c K A H0 nL k n Q ws (pc) (lv) (.int y :: .int x :: st) := fun H locs ls hP hD hS hl => lv_icmp_gt C.1 C.2.1 hd ht (fun h => kt h H locs ls hP hD hS hl) (fun h => kf h H locs ls hP hD hS hl)
theorem Go_if_le (C : Cx p R s m args meth c K A H0 cc own nL d) {x : Int32} {off : Int} {tgt : Nat} (hd : decode cc pc = .ok (.ifCond .le off, 3)) (ht : (pc : Int) + off = (tgt : Int)) (kt : x ≤ 0 → Go p l e R s m args below meth c K A H0 nL k n Q ws (tgt) (lv) (st)) (kf : ¬ x ≤ 0 → Go p l e R s m args below meth c K A H0 nL k n Q ws (pc + 3) (lv) (st)) : Go p l e R s m args below meth c K A H0 nL k n Q ws (pc) (lv) (.int x :: st) := fun H locs ls hP hD hS hl => lv_if_le C.1 C.2.1 hd ht (fun h => kt h H locs ls hP hD hS hl) (fun h => kf h H locs ls hP hD hS hl)
theorem Go_icmp_le (C : Cx p R s m args meth c K A H0 cc own nL d) {x y : Int32} {off : Int} {tgt : Nat} (hd : decode cc pc = .ok (.if_icmp .le off, 3)) (ht : (pc : Int) + off = (tgt : Int)) (kt : x ≤ y → Go p l e R s m args below meth c K A H0 nL k n Q ws (tgt) (lv) (st)) (kf : ¬ x ≤ y → Go p l e R s m args below meth c K A H0 nL k n Q ws (pc + 3) (lv) (st)) : Go p l e R s m args below meth c K A H0 nL k n Q ws (pc) (lv) (.int y :: .int x :: st) := fun H locs ls hP hD hS hl => lv_icmp_le C.1 C.2.1 hd ht (fun h => kt h H locs ls hP hD hS hl) (fun h => kf h H locs ls hP hD hS hl)
theorem Go_if_ne (C : Cx p R s m args meth c K A H0 cc own nL d) {x : Int32} {off : Int} {tgt : Nat} (hd : decode cc pc = .ok (.ifCond .ne off, 3)) (ht : (pc : Int) + off = (tgt : Int)) (kt : x = 0 → Go p l e R s m args below meth c K A H0 nL k n Q ws (pc + 3) (lv) (st)) (kf : ¬ x = 0 → Go p l e R s m args below meth c K A H0 nL k n Q ws (tgt) (lv) (st)) : Go p l e R s m args below meth c K A H0 nL k n Q ws (pc) (lv) (.int x :: st) := fun H locs ls hP hD hS hl => lv_if_ne C.1 C.2.1 hd ht (fun h => kf h H locs ls hP hD hS hl) (fun h => kt h H locs ls hP hD hS hl)
theorem Go_icmp_ne (C : Cx p R s m args meth c K A H0 cc own nL d) {x y : Int32} {off : Int} {tgt : Nat} (hd : decode cc pc = .ok (.if_icmp .ne off, 3)) (ht : (pc : Int) + off = (tgt : Int)) (kt : x = y → Go p l e R s m args below meth c K A H0 nL k n Q ws (pc + 3) (lv) (st)) (kf : ¬ x = y → Go p l e R s m args below meth c K A H0 nL k n Q ws (tgt) (lv) (st)) : Go p l e R s m args below meth c K A H0 nL k n Q ws (pc) (lv) (.int y :: .int x :: st) := fun H locs ls hP hD hS hl => lv_icmp_ne C.1 C.2.1 hd ht (fun h => kf h H locs ls hP hD hS hl) (fun h => kt h H locs ls hP hD hS hl)
theorem Go_ldc (C : Cx p R s m args meth c K A H0 cc own nL d) {i : Nat} {v : Int32} (hw : Cond.constant own i v ∈ lw_g) (hd : decode cc pc = .ok (.ldc i, 2)) (kk : Go p l e R s m args below meth c K A H0 nL k n Q ws (pc + 2) (lv) (.int v :: st)) : Go p l e R s m args below meth c K A H0 nL k n Q ws (pc) (lv) (st) := fun H locs ls hP hD hS hl => lv_ldc C.1 C.2.1 C.2.2.2.1 (C.2.2.2.2.1 _ hw) hd (kk H locs ls hP hD hS hl)
theorem Go_ldc2 (C : Cx p R s m args meth c K A H0 cc own nL d) {i : Nat} {v : Int64} (hw : Cond.constantLong own i v ∈ lw_g) (hd : decode cc pc = .ok (.ldc2_w i, 3)) (kk : Go p l e R s m args below meth c K A H0 nL k n Q ws (pc + 3) (lv) (.long v :: st)) : Go p l e R s m args below meth c K A H0 nL k n Q ws (pc) (lv) (st) := fun H locs ls hP hD hS hl => lv_ldc2 C.1 C.2.1 C.2.2.2.1 (C.2.2.2.2.1 _ hw) hd (kk H locs ls hP hD hS hl)
theorem Go_tabIn (C : Cx p R s m args meth c K A H0 cc own nL d) {x v : Int32} {dflt lo hi : Int} {offs : Array Int} {len : Nat} {off : Int} {tgt : Nat} (hd : decode cc pc = .ok (.tableswitch dflt lo hi offs, len)) (hx : x = v) (h1 : ¬ v.toInt < lo) (h2 : ¬ hi < v.toInt) (ho : offs[(v.toInt - lo).toNat]? = some off) (ht : (pc : Int) + off = (tgt : Int)) (kk : Go p l e R s m args below meth c K A H0 nL k n Q ws (tgt) (lv) (st)) : Go p l e R s m args below meth c K A H0 nL k n Q ws (pc) (lv) (.int x :: st) := fun H locs ls hP hD hS hl => lv_tableIn C.1 C.2.1 hd (by rw [hx]; exact h1) (by rw [hx]; exact h2) (by rw [hx]; exact ho) ht (kk H locs ls hP hD hS hl)
theorem Go_tabOut (C : Cx p R s m args meth c K A H0 cc own nL d) {x : Int32} {dflt lo hi : Int} {offs : Array Int} {len : Nat} {tgt : Nat} (hd : decode cc pc = .ok (.tableswitch dflt lo hi offs, len)) (h : x.toInt < lo ∨ hi < x.toInt) (ht : (pc : Int) + dflt = (tgt : Int)) (kk : Go p l e R s m args below meth c K A H0 nL k n Q ws (tgt) (lv) (st)) : Go p l e R s m args below meth c K A H0 nL k n Q ws (pc) (lv) (.int x :: st) := fun H locs ls hP hD hS hl => lv_tableOut C.1 C.2.1 hd h ht (kk H locs ls hP hD hS hl)
theorem Go_lookup (C : Cx p R s m args meth c K A H0 cc own nL d) {x : Int32} {dflt : Int} {ps : Array (Int × Int)} {len : Nat} {off : Int} {tgt : Nat} (hd : decode cc pc = .ok (.lookupswitch dflt ps, len)) (hp : (ps.toList.zip (ps.toList.drop 1)).all (fun (a, next) => a.1 < next.1) = true) (ho : Op.lookupswitch.offset ps.toList dflt x.toInt = off) (ht : (pc : Int) + off = (tgt : Int)) (kk : Go p l e R s m args below meth c K A H0 nL k n Q ws (tgt) (lv) (st)) : Go p l e R s m args below meth c K A H0 nL k n Q ws (pc) (lv) (.int x :: st) := fun H locs ls hP hD hS hl => lv_lookup C.1 C.2.1 hd hp ho ht (kk H locs ls hP hD hS hl)
theorem Go_mask (bs : List Bool) (kk : Go p l e R s m args below meth c K A H0 nL k n Q ws (pc) (lmask bs lv) (st)) : Go p l e R s m args below meth c K A H0 nL k n Q ws (pc) (lv) (st) := fun H locs ls hP hD hS hl => kk H locs ls hP hD hS ⟨hl.1, hl.2.1, fun i v h => hl.2.2 i v (lmask_get bs lv i v h)⟩
theorem Go_get (C : Cx p R s m args meth c K A H0 cc own nL d) {a ci : Nat} {fs : List Value} {Cn : String} {T : u_T} {N i : Nat} {v : Value} (q0 : Nat) (j : Nat) (he : ws[q0]? = some (a, .inr (ci, fs))) (hc : vwCl[ci]? = some (Cn, T, N)) (hin : ∀ w ∈ u_ws Cn T N, w ∈ lw_g) (hk : j < N) (hw : Cond.fieldLink own i (T j).1 (T j).2.1 (T j).2.2.1 ∈ lw_g) (hv : fs[j]? = some v) (hd : decode cc pc = .ok (.getfield i, 3)) (kk : Go p l e R s m args below meth c K A H0 nL k n Q ws (pc + 3) (lv) (v :: st)) : Go p l e R s m args below meth c K A H0 nL k n Q ws (pc) (lv) (.ref a :: st) := fun H locs ls hP hD hS hl => va_get C.1 C.2.1 C.2.2.2.2.1 hin C.2.2.2.1 C.2.2.2.2.2.1 hP q0 he hc j hk (C.2.2.2.2.1 _ hw) (fun _ h => h) hv hd (kk H locs ls hP hD hS hl)
theorem Go_put (C : Cx p R s m args meth c K A H0 cc own nL d) {a ci : Nat} {fs : List Value} {Cn : String} {T : u_T} {N i : Nat} {x : Int32} {ws1 : va_W} (q0 : Nat) (j : Nat) (ty0 : Nat → FieldType) (hty : ∀ q, q < N → parseFieldDescriptor (T q).2.2.1 = some (ty0 q)) (hnm : ∀ a, a < N → ∀ b, b < N → a ≠ b → (T a).2.1 ≠ (T b).2.1) (he : ws[q0]? = some (a, .inr (ci, fs))) (hc : vwCl[ci]? = some (Cn, T, N)) (hin : ∀ w ∈ u_ws Cn T N, w ∈ lw_g) (hk : j < N) (hw : Cond.fieldLink own i (T j).1 (T j).2.1 (T j).2.2.1 ∈ lw_g) (hfin : (T j).2.2.2 = false) (hdd : ty0 j = .int) (hl : j < fs.length) (hd : decode cc pc = .ok (.putfield i, 3)) (hws : ws.set q0 (a, .inr (ci, fs.set j (.int x))) = ws1) (kk : Go p l e R s m args below meth c K A H0 nL k n Q ws1 (pc + 3) (lv) (st)) : Go p l e R s m args below meth c K A H0 nL k n Q ws (pc) (lv) (.int x :: .ref a :: st) := by
  intro H locs ls hP hD hS hll
  subst hws
  exact va_put (ty := .int) C.1 C.2.1 C.2.2.2.2.1 hin ty0 hty hnm C.2.2.2.1 C.2.2.2.2.2.1 hP hD hS q0 he hc j hk (C.2.2.2.2.1 _ hw) (fun _ h => h) hfin (by rw [← hdd]; exact hty j hk) rfl rfl hl hd (fun H1 locs1 p1 d1 s1 => kk H1 locs1 ls p1 d1 s1 hll)
theorem Go_iald (C : Cx p R s m args meth c K A H0 cc own nL d) {a N : Nat} {f : Nat → Int32} {i : Int32} (q0 : Nat) (he : ws[q0]? = some (a, .inl (K.2.1, N, .inl f))) (hb : vp_in i N) (hd : decode cc pc = .ok (.iaload, 1)) (kk : Go p l e R s m args below meth c K A H0 nL k n Q ws (pc + 1) (lv) (.int (f i.toNatClampNeg) :: st)) : Go p l e R s m args below meth c K A H0 nL k n Q ws (pc) (lv) (.int i :: .ref a :: st) := fun H locs ls hP hD hS hl => va_iald C.1 C.2.1 C.2.2.2.2.2.1 hP q0 0 he rfl hb hd (kk H locs ls hP hD hS hl)
theorem Go_iast (C : Cx p R s m args meth c K A H0 cc own nL d) {a N : Nat} {f : Nat → Int32} {i x : Int32} {ws1 : va_W} (q0 : Nat) (he : ws[q0]? = some (a, .inl (K.2.1, N, .inl f))) (hb : vp_in i N) (hd : decode cc pc = .ok (.iastore, 1)) (hws : ws.set q0 (a, .inl (K.2.1, N, .inl (upd f i.toNatClampNeg x))) = ws1) (kk : Go p l e R s m args below meth c K A H0 nL k n Q ws1 (pc + 1) (lv) (st)) : Go p l e R s m args below meth c K A H0 nL k n Q ws (pc) (lv) (.int x :: .int i :: .ref a :: st) := by
  intro H locs ls hP hD hS hll
  subst hws
  exact va_iast C.1 C.2.1 C.2.2.2.2.2.1 hP hD hS q0 0 he rfl hb hd (fun H1 locs1 p1 d1 s1 => kk H1 locs1 ls p1 d1 s1 hll)
theorem Go_alen (C : Cx p R s m args meth c K A H0 cc own nL d) {a N : Nat} {f : Nat → Int32} (q0 : Nat) (he : ws[q0]? = some (a, .inl (K.2.1, N, .inl f))) (hd : decode cc pc = .ok (.arraylength, 1)) (kk : Go p l e R s m args below meth c K A H0 nL k n Q ws (pc + 1) (lv) (.int (nI N) :: st)) : Go p l e R s m args below meth c K A H0 nL k n Q ws (pc) (lv) (.ref a :: st) := fun H locs ls hP hD hS hl => va_alen (ty := .int) C.1 C.2.1 C.2.2.2.2.2.1 hP q0 0 he rfl rfl hd (kk H locs ls hP hD hS hl)
theorem Go_aald (C : Cx p R s m args meth c K A H0 cc own nL d) {a N b : Nat} {f : Nat → Option Nat} {i : Int32} (q0 : Nat) (he : ws[q0]? = some (a, .inl (K.2.2, N, .inr (.inr (.inr (.inr f)))))) (hb : vp_in i N) (hf : f i.toNatClampNeg = some b) (hd : decode cc pc = .ok (.aaload, 1)) (kk : Go p l e R s m args below meth c K A H0 nL k n Q ws (pc + 1) (lv) (.ref b :: st)) : Go p l e R s m args below meth c K A H0 nL k n Q ws (pc) (lv) (.int i :: .ref a :: st) := by
  intro H locs ls hP hD hS hll
  refine va_aldq C.1 C.2.1 C.2.2.2.2.2.1 hP q0 1 he rfl hb hd ?_
  rw [hf]
  exact kk H locs ls hP hD hS hll
theorem Go_mmax (C : Cx p R s m args meth c K A H0 cc own nL d) {x y : Int32} {i : Nat} (hw : Cond.methodLink own i Lib.Math.max.name ∈ lw_g) (hR : 1 ≤ d) (hst : (st.map fun v => v.category).sum + 13 ≤ 37) (hk : k ≤ R.cells) (hn : n ≤ R.slots) (hd : decode cc pc = .ok (.invokestatic i, 3)) (kk : Go p l e R s m args below meth c K A H0 nL k n Q ws (pc + 3) (lv) (.int (if x < y then y else x) :: st)) : Go p l e R s m args below meth c K A H0 nL k n Q ws (pc) (lv) (.int y :: .int x :: st) := fun H locs ls hP hD hS hl => va_mmax C.1 C.2.1 (by rw [hl.1]; exact C.2.2.1) C.2.2.2.1 (C.2.2.2.2.1 _ hw) (C.2.2.2.2.1 _ mwx_static_max) (C.2.2.2.2.1 _ mwx_init_Math) (C.2.2.2.2.1 _ mwx_code_max) (Nat.le_trans hR C.2.2.2.2.2.2.2.1) (Nat.le_trans hst (Nat.le_trans (by omega) C.2.2.2.2.2.2.2.2)) hk hn hd (kk H locs ls hP hD hS hl)
theorem Go_mmin (C : Cx p R s m args meth c K A H0 cc own nL d) {x y : Int32} {i : Nat} (hw : Cond.methodLink own i Lib.Math.min.name ∈ lw_g) (hR : 1 ≤ d) (hst : (st.map fun v => v.category).sum + 13 ≤ 37) (hk : k ≤ R.cells) (hn : n ≤ R.slots) (hd : decode cc pc = .ok (.invokestatic i, 3)) (kk : Go p l e R s m args below meth c K A H0 nL k n Q ws (pc + 3) (lv) (.int (if y < x then y else x) :: st)) : Go p l e R s m args below meth c K A H0 nL k n Q ws (pc) (lv) (.int y :: .int x :: st) := fun H locs ls hP hD hS hl => va_mmin C.1 C.2.1 (by rw [hl.1]; exact C.2.2.1) C.2.2.2.1 (C.2.2.2.2.1 _ hw) (C.2.2.2.2.1 _ mwx_static_min) (C.2.2.2.2.1 _ mwx_init_Math) (C.2.2.2.2.1 _ mwx_code_min) (Nat.le_trans hR C.2.2.2.2.2.2.2.1) (Nat.le_trans hst (Nat.le_trans (by omega) C.2.2.2.2.2.2.2.2)) hk hn hd (kk H locs ls hP hD hS hl)
theorem Go_mabs (C : Cx p R s m args meth c K A H0 cc own nL d) {x : Int32} {i : Nat} (hw : Cond.methodLink own i Lib.Math.abs.name ∈ lw_g) (hR : 1 ≤ d) (hst : (st.map fun v => v.category).sum + 13 ≤ 37) (hk : k ≤ R.cells) (hn : n ≤ R.slots) (hd : decode cc pc = .ok (.invokestatic i, 3)) (kk : Go p l e R s m args below meth c K A H0 nL k n Q ws (pc + 3) (lv) (.int (if 0 ≤ x then x else 0 - x) :: st)) : Go p l e R s m args below meth c K A H0 nL k n Q ws (pc) (lv) (.int x :: st) := fun H locs ls hP hD hS hl => va_mabs C.1 C.2.1 (by rw [hl.1]; exact C.2.2.1) C.2.2.2.1 (C.2.2.2.2.1 _ hw) (C.2.2.2.2.1 _ mwx_static_abs) (C.2.2.2.2.1 _ mwx_init_Math) (C.2.2.2.2.1 _ mwx_code_abs) (Nat.le_trans hR C.2.2.2.2.2.2.2.1) (Nat.le_trans hst (Nat.le_trans (by omega) C.2.2.2.2.2.2.2.2)) hk hn hd (kk H locs ls hP hD hS hl)
theorem Go_copyi (C : Cx p R s m args meth c K A H0 cc own nL d) {a0 a n0 n1 : Nat} {f g : Nat → Int32} {i : Nat} {ws1 : va_W} {sp dp nn : Int32} (q0 q1 : Nat) (hw : Cond.methodLink own i arraycopyName ∈ lw_g) (ha0 : ws[q0]? = some (a0, .inl (K.2.1, n0, .inl f))) (ha1 : ws[q1]? = some (a, .inl (K.2.1, n1, .inl g))) (h1 : ¬ sp < 0) (h2 : ¬ dp < 0) (h3 : ¬ nn < 0) (h4 : sp.toNatClampNeg + nn.toNatClampNeg ≤ n0) (h5 : dp.toNatClampNeg + nn.toNatClampNeg ≤ n1) (hR : 1 ≤ d) (hst : (st.map fun v => v.category).sum + (nativeFrameWords "java/lang/System" "arraycopy" 5 + 11) ≤ 37) (hd : decode cc pc = .ok (.invokestatic i, 3)) (hws : ws.set q1 (a, .inl (K.2.1, n1, .inl (va_cpy f g sp.toNatClampNeg dp.toNatClampNeg nn.toNatClampNeg))) = ws1) (kk : Go p l e R s m args below meth c K A H0 nL k n Q ws1 (pc + 3) (lv) (st)) : Go p l e R s m args below meth c K A H0 nL k n Q ws (pc) (lv) (.int nn :: .int dp :: .ref a :: .int sp :: .ref a0 :: st) := by
  intro H locs ls hP hD hS hll
  subst hws
  exact va_copyi (ty := .int) C.1 C.2.1 (by rw [hll.1]; exact C.2.2.1) C.2.2.2.1 (C.2.2.2.2.1 _ hw) (C.2.2.2.2.1 _ mwx_native_copy) (C.2.2.2.2.1 _ mwx_static_copy) (C.2.2.2.2.1 _ mwx_init_System) C.2.2.2.2.2.1 hP hD hS q0 q1 0 0 ha0 ha1 rfl rfl rfl h1 h2 h3 h4 h5 (fun _ _ => rfl) (Nat.le_trans hR C.2.2.2.2.2.2.2.1) (Nat.le_trans hst (Nat.le_trans (by omega) C.2.2.2.2.2.2.2.2)) hd (fun H1 locs1 p1 d1 s1 => kk H1 locs1 ls p1 d1 s1 hll)
end GO
def inW (wc : va_W) (q : Nat) : Prop := ∃ (k : Nat) (e : va_E), wc[k]? = some (q, e)
def CtQ (K : KK) (wc : va_W) (r : Option Value) (wc' : va_W) : Array Value → State → Outcome → State → Prop := fun _ st oc t => (oc = .returned r ∧ va_P K.1 vwCl wc' t.heap) ∧ va_F (inW wc) st t
def CtP (K : KK) (wc : va_W) (U : State) : Prop := va_P K.1 vwCl wc U.heap ∧ va_K K.1 vwCl (ktys K) U ∧ va_D (fun _ => True) wc
def Ct (l : Launch) (K : KK) (y : MethodName) (cc : ByteArray) (mL : Nat) (ret : Option FieldType) (d : Nat) (as : List Value) (wc : va_W) (r : Option Value) (wc' : va_W) : Prop :=
  Met l y (.code y cc mL ret :: lw_g) (rmc d 0 0) (va_Pc as (CtP K wc)) (CtQ K wc r wc') 0 0 (inW wc)
theorem lw_good : ∀ w ∈ lw_g, goodWord w = true := fun _ h => (List.mem_filter.mp h).2
theorem gd_in {y : MethodName} {cc : ByteArray} {mL : Nat} {ret : Option FieldType} (h : Cond.code y cc mL ret ∈ lw_g) : GoodIn lw_g (.code y cc mL ret :: lw_g) := by
  intro w hw
  rcases List.mem_cons.mp hw with rfl | hw
  · exact ⟨h, good_of_word (lw_good _ h)⟩
  · exact ⟨hw, good_of_word (lw_good _ hw)⟩
/-- what a callee's name needs in the tables: an object's method; a static one -/
def CalV (y : MethodName) (cc : ByteArray) (mL : Nat) (ret : Option FieldType) (na : Nat) : Prop := Cond.code y cc mL ret ∈ lw_g ∧ Cond.initialized y.cls ∈ lw_g ∧ Cond.instanceMethod y ∈ lw_g ∧ Cond.selects y.cls y y ∈ lw_g ∧ (y.cls ≠ "java/lang/invoke/MethodHandle" ∧ y.cls ≠ "java/lang/invoke/VarHandle" ∧ (parseMethodDescriptor y.desc).map (fun d => d.parameters.length) = some na) ∧ mL ≤ 18
def CalS (y : MethodName) (cc : ByteArray) (mL : Nat) (ret : Option FieldType) (na : Nat) : Prop := Cond.code y cc mL ret ∈ lw_g ∧ Cond.initialized y.cls ∈ lw_g ∧ Cond.static y ∈ lw_g ∧ (y.cls ≠ "java/lang/invoke/MethodHandle" ∧ y.cls ≠ "java/lang/invoke/VarHandle" ∧ (parseMethodDescriptor y.desc).map (fun d => d.parameters.length) = some na) ∧ mL ≤ 18
def wput : va_W → List Nat → va_W → va_W
  | ws, i :: is, x :: xs => wput (ws.set i x) is xs
  | ws, _, _ => ws
theorem wput_get : ∀ (is : List Nat) (xs ws : va_W) (k : Nat) (q : Nat × va_E), (wput ws is xs)[k]? = some q → (∃ j : Nat, is[j]? = some k ∧ xs[j]? = some q) ∨ (ws[k]? = some q ∧ ∀ j : Nat, is[j]? = some k → j < xs.length → False)
  | [], xs, ws, k, q, h => by
    refine Or.inr ⟨by cases xs <;> exact h, fun j hj => by simp at hj⟩
  | i :: is, [], ws, k, q, h => Or.inr ⟨h, fun j _ hl => by simp at hl⟩
  | i :: is, x :: xs, ws, k, q, h => by
    rcases wput_get is xs (ws.set i x) k q h with ⟨j, h1, h2⟩ | ⟨h1, h2⟩
    · exact Or.inl ⟨j + 1, h1, h2⟩
    · by_cases hk : i = k
      · subst hk
        have hl : i < ws.length := by
          have := (List.getElem?_eq_some_iff.mp h1).1
          simpa using this
        rw [List.getElem?_set_self hl] at h1
        exact Or.inl ⟨0, rfl, h1⟩
      · rw [List.getElem?_set_ne hk] at h1
        refine Or.inr ⟨h1, fun j hj hl => ?_⟩
        cases j with
        | zero => exact hk (Option.some.inj hj)
        | succ j => exact h2 j hj (by simpa using hl)
theorem wis {ws wc : va_W} {is : List Nat} (his : is.map (fun i => ws[i]?) = wc.map some) {j i : Nat} (hj : is[j]? = some i) : ∃ q, wc[j]? = some q ∧ ws[i]? = some q := by
  have h1 : (wc.map some)[j]? = some (ws[i]?) := by rw [← his, List.getElem?_map, hj]; rfl
  rw [List.getElem?_map] at h1
  cases hq : wc[j]? with
  | none => rw [hq] at h1; cases h1
  | some q => rw [hq] at h1; exact ⟨q, rfl, (Option.some.inj h1).symm⟩
theorem wis' {ws wc : va_W} {is : List Nat} (his : is.map (fun i => ws[i]?) = wc.map some) {j : Nat} {q : Nat × va_E} (hj : wc[j]? = some q) : ∃ i, is[j]? = some i ∧ ws[i]? = some q := by
  have h1 : (is.map (fun i => ws[i]?))[j]? = some (some q) := by rw [his, List.getElem?_map, hj]; rfl
  rw [List.getElem?_map] at h1
  cases hi : is[j]? with
  | none => rw [hi] at h1; cases h1
  | some i => rw [hi] at h1; exact ⟨i, rfl, Option.some.inj h1⟩
theorem wfst {w w1 : va_W} (h : w1.map (fun q => q.1) = w.map (fun q => q.1)) {j : Nat} {q : Nat × va_E} (hj : w1[j]? = some q) : ∃ q0, w[j]? = some q0 ∧ q0.1 = q.1 := by
  have h1 : (w.map (fun q => q.1))[j]? = some q.1 := by rw [← h, List.getElem?_map, hj]; rfl
  rw [List.getElem?_map] at h1
  cases hi : w[j]? with
  | none => rw [hi] at h1; cases h1
  | some q0 => rw [hi] at h1; exact ⟨q0, rfl, Option.some.inj h1⟩
section GOC
variable {p : Program} {l : Launch} {e : Env} {R : Room} {s : State} {m : MethodId} {args : Array Value} {below : List Frame} {meth : Method} {c : Code} {K : KK} {A : Nat → Prop} {H0 : Heap} {cc : ByteArray} {own : String} {nL d k n : Nat} {Q : State → Prop} {ws : va_W} {pc : Nat} {lv : List (Option Value)} {st : List Value}
theorem Go_run {ws1 wc wc1 : va_W} {r : Option Value} {rest : List Value} {arr : Array Value} (is : List Nat)
    (hr : ∀ (H : Heap) (locs : List Loc) (ls : Array Slot), va_P K.1 vwCl ws H → va_D A ws → va_S A H0 H locs → lh ls nL lv → va_Run p l e R s m args below meth c H locs k n 0 0 (F0 m pc ls st) rest (CtQ K wc r wc1 arr) (inW wc))
    (his : is.map (fun i => ws[i]?) = wc.map some) (hf : wc1.map (fun q => q.1) = wc.map (fun q => q.1)) (hw : wput ws is wc1 = ws1) (kk : Go p l e R s m args below meth c K A H0 nL k n Q ws1 (pc + 3) (lv) (r.toList ++ rest)) : Go p l e R s m args below meth c K A H0 nL k n Q ws (pc) (lv) (st) := by
  intro H locs ls hP hD hS hl T hT X
  subst hw
  obtain ⟨v, st₀, t, T', L, h0, X', hL, e1, e2, ⟨⟨hv, hp⟩, hz, hk⟩, st⟩ := hr H locs ls hP hD hS hl T hT X
  cases hv
  rw [h0] at hz hk
  have hinA : ∀ q, inW wc q → A q := by
    rintro q ⟨j, e, hj⟩
    obtain ⟨i, -, hi⟩ := wis' his hj
    exact hD.2 i _ hi
  have hlen : wc1.length = wc.length := by have := congrArg List.length hf; simpa using this
  have hP1 : va_P K.1 vwCl (wput ws is wc1) T'.heap := by
    intro j q hj
    rcases wput_get is wc1 ws j q hj with ⟨i, h1, h2⟩ | ⟨h1, h2⟩
    · rw [e1]; exact hp i q h2
    · have hq := hP j q h1
      refine hq.kept ?_
      rw [e1]
      refine hk q.1 hq.lt ?_
      rintro ⟨i, e, hi⟩
      obtain ⟨j2, hj2, hj3⟩ := wis' his hi
      have := hD.1 j j2 q (q.1, e) h1 hj3 rfl
      subst this
      exact h2 i hj2 (by rw [hlen]; exact (List.getElem?_eq_some_iff.mp hi).1)
  have hkey : ∀ (j : Nat) (q : Nat × va_E), (wput ws is wc1)[j]? = some q → ∃ q0, ws[j]? = some q0 ∧ q0.1 = q.1 := by
    intro j q hj
    rcases wput_get is wc1 ws j q hj with ⟨i, h1, h2⟩ | ⟨h1, h2⟩
    · obtain ⟨q0, h3, h4⟩ := wfst hf h2
      obtain ⟨q1, h5, h6⟩ := wis his h1
      rw [h3] at h5; cases h5
      exact ⟨q0, h6, h4⟩
    · exact ⟨q, h1, rfl⟩
  have hD1 : va_D A (wput ws is wc1) := by
    refine ⟨fun i j x y hi hj hxy => ?_, fun j q hj => ?_⟩
    · obtain ⟨x0, h1, h2⟩ := hkey i x hi
      obtain ⟨y0, h3, h4⟩ := hkey j y hj
      exact hD.1 i j x0 y0 h1 h3 (h2.trans (hxy.trans h4.symm))
    · obtain ⟨q0, h1, h2⟩ := hkey j q hj
      rw [← h2]
      exact hD.2 j q0 h1
  have hS1 : va_S A H0 T'.heap (locs ++ L) := by
    refine ⟨Nat.le_trans hS.1 (by rw [e1]; exact hz), fun q h1 h2 => ?_, fun q hq => ?_⟩
    · rw [e1, hk q (Nat.lt_of_lt_of_le h1 hS.1) (fun z => h2 (hinA q z))]
      exact hS.2.1 q h1 h2
    · rcases List.mem_append.mp hq with h | h
      · exact hS.2.2 q h
      · exact hinA _ (hL q h)
  obtain ⟨t2, a1, b1⟩ := kk T'.heap (locs ++ L) ls hP1 hD1 hS1 hl T' rfl X'
  exact ⟨t2, st t2 a1, b1⟩
theorem CtP_blind {K : KK} {wc : va_W} {as : List Value} : FrameBlind (va_Pc as (CtP K wc)) := fun a U g mk q => ⟨q.1, q.2.1, va_K.moved (u := U) (U := U.calling g mk a) (Vm.Alike.refl U.vm) q.2.2.1, q.2.2.2⟩
theorem wsubP {K : KK} {ws wc : va_W} {H : Heap} {is : List Nat} (hP : va_P K.1 vwCl ws H) (his : is.map (fun i => ws[i]?) = wc.map some) : va_P K.1 vwCl wc H := fun j q hj => by
  obtain ⟨i, -, hi⟩ := wis' his hj
  exact hP i q hi
theorem Go_callV (C : Cx p R s m args meth c K A H0 cc own nL d) {y : MethodName} {cc1 : ByteArray} {mL na ci idx : Nat} {ret : Option FieldType} {d1 : Nat} {b : Nat} {As : List Value} {wc wc1 ws1 : va_W} {r : Option Value} {rest : List Value} {fs : List Value} {T : u_T} {N : Nat} (q0 : Nat) (is : List Nat)
    (hct : Ct l K y cc1 mL ret d1 (.ref b :: As) wc r wc1) (hc : CalV y cc1 mL ret na) (hw : Cond.methodLink own idx y ∈ lw_g) (hd1 : d1 + 1 ≤ d) (he : ws[q0]? = some (b, .inr (ci, fs))) (hci : vwCl[ci]? = some (y.cls, T, N))
    (hn : As.length = na) (hst : st = As.reverse ++ .ref b :: rest) (hcat : (rest.map fun v => v.category).sum ≤ 8) (hkn : k ≤ R.cells ∧ n ≤ R.slots) (hd : decode cc pc = .ok (.invokevirtual idx, 3))
    (his : is.map (fun i => ws[i]?) = wc.map some) (hnd : va_nd is = true) (hf : wc1.map (fun q => q.1) = wc.map (fun q => q.1)) (hws : wput ws is wc1 = ws1) (kk : Go p l e R s m args below meth c K A H0 nL k n Q ws1 (pc + 3) (lv) (r.toList ++ rest)) : Go p l e R s m args below meth c K A H0 nL k n Q ws (pc) (lv) (st) := by
  refine Go_run (wc := wc) (wc1 := wc1) (arr := (Value.ref b :: As).toArray) is ?_ his hf hws kk
  intro H locs ls hP hD hS hl
  obtain ⟨hx, hb, hml, hown, hts, hK, hlk, hfr, hlo⟩ := C
  obtain ⟨c1, c2, c3, c4, c5, c6⟩ := hc
  exact va_runV (As := As) (rest := rest) ⟨hx, hb, hml, hown, hts⟩ hct
    ⟨callB_of na hts (gd_in c1) rfl rfl rfl (hts _ c2) (hts _ hw) c5 ⟨Nat.le_trans hd1 hfr, Nat.le_trans (by show 8 + (mL + 11) + 37 * d1 ≤ 37 * d; omega) hlo⟩, hts _ c3, hts _ c4⟩
    ⟨CtP_blind, va_recv hK hP hci he, fun U hU hW => ⟨rfl, by rw [hU]; exact wsubP hP his, va_K.moved hW.alike hK, (hD.sub is hnd his).weaken (fun _ _ _ _ => trivial)⟩⟩
    rfl hn hl.1 hst (lv_room (rest := st) hcat) hd hkn
theorem Go_callS (C : Cx p R s m args meth c K A H0 cc own nL d) {y : MethodName} {cc1 : ByteArray} {mL na idx : Nat} {ret : Option FieldType} {d1 : Nat} {As : List Value} {wc wc1 ws1 : va_W} {r : Option Value} {rest : List Value} (is : List Nat)
    (hct : Ct l K y cc1 mL ret d1 As wc r wc1) (hc : CalS y cc1 mL ret na) (hw : Cond.methodLink own idx y ∈ lw_g) (hd1 : d1 + 1 ≤ d)
    (hn : As.length = na) (hst : st = As.reverse ++ rest) (hcat : (rest.map fun v => v.category).sum ≤ 8) (hkn : k ≤ R.cells ∧ n ≤ R.slots) (hd : decode cc pc = .ok (.invokestatic idx, 3))
    (his : is.map (fun i => ws[i]?) = wc.map some) (hnd : va_nd is = true) (hf : wc1.map (fun q => q.1) = wc.map (fun q => q.1)) (hws : wput ws is wc1 = ws1) (kk : Go p l e R s m args below meth c K A H0 nL k n Q ws1 (pc + 3) (lv) (r.toList ++ rest)) : Go p l e R s m args below meth c K A H0 nL k n Q ws (pc) (lv) (st) := by
  refine Go_run (wc := wc) (wc1 := wc1) (arr := As.toArray) is ?_ his hf hws kk
  intro H locs ls hP hD hS hl
  obtain ⟨hx, hb, hml, hown, hts, hK, hlk, hfr, hlo⟩ := C
  obtain ⟨c1, c2, c3, c5, c6⟩ := hc
  exact va_runS (As := As) (rest := rest) ⟨hx, hb, hml, hown, hts⟩ hct
    ⟨callB_of na hts (gd_in c1) rfl rfl rfl (hts _ c2) (hts _ hw) c5 ⟨Nat.le_trans hd1 hfr, Nat.le_trans (by show 8 + (mL + 11) + 37 * d1 ≤ 37 * d; omega) hlo⟩, hts _ c3⟩
    ⟨CtP_blind, fun U hU hW => ⟨rfl, by rw [hU]; exact wsubP hP his, va_K.moved hW.alike hK, (hD.sub is hnd his).weaken (fun _ _ _ _ => trivial)⟩⟩
    rfl hn hl.1 hst (lv_room (rest := st) hcat) hd hkn
theorem Go_iret {wc : va_W} {r : Option Value} {x : Int32} (C : Cx p R s m args meth c K (inW wc) s.heap cc own nL d) (hr : meth.sig.returnType = some .int)  (hrx : r = some (.int x)) (hd : decode cc pc = .ok (.ireturn, 1)) : Go p l e R s m args below meth c K (inW wc) s.heap nL 0 0 (MQ below (CtQ K wc r ws) args s 0 0 (inW wc)) ws pc lv [.int x] := by
  subst hrx
  exact fun H locs ls hP hD hS hl => W.iret C.1 C.2.1 hr  (fun t ht _ => ⟨⟨rfl, by rw [ht]; exact hP⟩, hS.F ht⟩) hS.2.2 hd C.2.2.2.2.2.2.1
theorem Go_lret {wc : va_W} {r : Option Value} {x : Int64} (C : Cx p R s m args meth c K (inW wc) s.heap cc own nL d) (hr : meth.sig.returnType = some .long)  (hrx : r = some (.long x)) (hd : decode cc pc = .ok (.lreturn, 1)) : Go p l e R s m args below meth c K (inW wc) s.heap nL 0 0 (MQ below (CtQ K wc r ws) args s 0 0 (inW wc)) ws pc lv [.long x] := by
  subst hrx
  exact fun H locs ls hP hD hS hl => W.lret C.1 C.2.1 hr  (fun t ht _ => ⟨⟨rfl, by rw [ht]; exact hP⟩, hS.F ht⟩) hS.2.2 hd C.2.2.2.2.2.2.1
theorem Go_zret {wc : va_W} {r : Option Value} {x : Int32} (C : Cx p R s m args meth c K (inW wc) s.heap cc own nL d) (hr : meth.sig.returnType = some .boolean) (hx : x = 0 ∨ x = 1) (hrx : r = some (.int x)) (hd : decode cc pc = .ok (.ireturn, 1)) : Go p l e R s m args below meth c K (inW wc) s.heap nL 0 0 (MQ below (CtQ K wc r ws) args s 0 0 (inW wc)) ws pc lv [.int x] := by
  subst hrx
  exact fun H locs ls hP hD hS hl => W.zret C.1 C.2.1 hr (by rcases hx with rfl | rfl <;> rfl) (fun t ht _ => ⟨⟨rfl, by rw [ht]; exact hP⟩, hS.F ht⟩) hS.2.2 hd C.2.2.2.2.2.2.1
theorem Go_vret {wc : va_W} {r : Option Value} (C : Cx p R s m args meth c K (inW wc) s.heap cc own nL d) (hr : meth.sig.returnType = none) (hrx : r = none) (hd : decode cc pc = .ok (.return_, 1)) : Go p l e R s m args below meth c K (inW wc) s.heap nL 0 0 (MQ below (CtQ K wc r ws) args s 0 0 (inW wc)) ws pc lv [] := by
  subst hrx
  exact fun H locs ls hP hD hS hl => W.vret C.1 C.2.1 hr (fun t ht _ => ⟨⟨rfl, by rw [ht]; exact hP⟩, hS.F ht⟩) hS.2.2 hd C.2.2.2.2.2.2.1
end GOC
def lv0 (as : List Value) (mL : Nat) : List (Option Value) := as.map some ++ List.replicate (mL - as.length) none
theorem lget_lv0 : ∀ (as : List Value) (q i : Nat) (v : Value), lget (as.map some ++ List.replicate q none) i = some v → as[i]? = some v
  | [], q, i, v, h => by
    exfalso
    induction q generalizing i with
    | zero => simp [lget] at h
    | succ q ih =>
      cases i with
      | zero => simp [lget, List.replicate] at h
      | succ i => exact ih i (by simpa [lget, List.replicate] using h)
  | a :: as, q, 0, v, h => by simpa [lget] using h
  | a :: as, q, i + 1, v, h => by
    have := lget_lv0 as q i v (by simpa [lget] using h)
    simpa using this
theorem lv_args_mem : ∀ (as : List Value) (b i : Nat) (v : Value), (∀ v ∈ as, v.category = 1) → as[i]? = some v → (b + i, v) ∈ lv_args b as
  | [], _, _, _, _, h => by simp at h
  | a :: as, b, 0, v, _, h => by
    simp at h; subst h; simp [lv_args]
  | a :: as, b, i + 1, v, hc, h => by
    have h1 := lv_args_mem as (b + 1) i v (fun v hv => hc v (List.mem_cons_of_mem _ hv)) (by simpa using h)
    have e : b + (i + 1) = b + 1 + i := by omega
    have hn : ¬ a.category = 2 := by have := hc a List.mem_cons_self; omega
    rw [e]
    simp only [lv_args, if_neg hn]
    exact List.mem_cons_of_mem _ h1
theorem lg_sl_len : ∀ (as : List Value), (∀ v ∈ as, v.category = 1) → (lg_sl as).length = as.length
  | [], _ => rfl
  | a :: as, hc => by
    have hn : ¬ a.category = 2 := by have := hc a List.mem_cons_self; omega
    have h1 := lg_sl_len as (fun v hv => hc v (List.mem_cons_of_mem _ hv))
    simp only [lg_sl, List.flatMap_cons, if_neg hn, List.length_append, List.length_cons, List.length_nil] at h1 ⊢
    simp only [List.length_flatMap] at h1 ⊢
    omega
theorem Ct_of {l : Launch} {K : KK} {y : MethodName} {cc : ByteArray} {mL : Nat} {ret : Option FieldType} {d : Nat} {as : List Value} {wc wc1 : va_W} {r : Option Value} (hy : plainName y.cls = true) (hca : ∀ v ∈ as, v.category = 1) (hle : as.length ≤ mL)
    (body : ∀ (p : Program) (e : Env) (s : State) (m : MethodId) (args : Array Value) (below : List Frame) (meth : Method) (c : Code), Cx p (rmc d 0 0) s m args meth c K (inW wc) s.heap cc y.cls mL d → meth.sig.returnType = ret →
      Go p l e (rmc d 0 0) s m args below meth c K (inW wc) s.heap mL 0 0 (MQ below (CtQ K wc r wc1) args s 0 0 (inW wc)) wc 0 (lv0 as mL) []) : Ct l K y cc mL ret d as wc r wc1 := by
  refine Met.ofW (cc := cc) (maxL := mL) (ret := ret) hy rfl ?_
  intro p e s m args below meth c s₁ B hml hv
  obtain ⟨rfl, hP, hK, hD0⟩ := hv
  have hts : ∀ w ∈ lw_g, w.before as.toArray s = true := fun w h => atoms_spec (ws := .code y cc mL ret :: lw_g) B.pre w (List.mem_cons_of_mem _ h)
  have hown : s.vm.findClass y.cls = some m.cls := findClass_of_methodNamed B.named
  have hl := lv_entry as (n := mL) (by rw [lg_sl_len as hca]; exact hle)
  rw [lg_entry_eq]
  have hD : va_D (inW wc) wc := ⟨hD0.1, fun j q hj => ⟨j, q.2, hj⟩⟩
  refine body p e s m as.toArray below meth c ⟨B.exec, B.bytes, hml, hown, hts, hK, B.notSynchronized, Nat.le_refl _, Nat.le_refl _⟩ B.returns s.heap [] _ hP hD va_S.rf ⟨hl.1, hl.2.1, fun i v h => ?_⟩
  have h1 := lget_lv0 as _ i v h
  have h2 := lv_args_mem as 0 i v hca h1
  have h3 := hl.2.2 _ h2
  simpa using h3
def loopF {σ ρ : Type} (step : σ → Option (σ ⊕ ρ)) : Nat → σ → Option ρ
  | 0, _ => none
  | n + 1, s => Option.bind (step s) (fun x => Sum.elim (fun s1 => loopF step n s1) (fun r => some r) x)
theorem loopF_go {σ ρ : Type} {step : σ → Option (σ ⊕ ρ)} (G : σ → Prop) (E : ρ → Prop) (hs : ∀ s x, step s = some x → Sum.elim G E x → G s) : ∀ n s r, loopF step n s = some r → E r → G s
  | 0, s, r, h, _ => by cases h
  | n + 1, s, r, h, hE => by
    simp only [loopF] at h
    cases hx : step s with
    | none => rw [hx] at h; cases h
    | some x =>
      rw [hx] at h
      refine hs s x hx ?_
      cases x with
      | inl s1 => exact loopF_go G E hs n s1 r h hE
      | inr r1 =>
        have h' : some r1 = some r := h
        cases h'
        exact hE
theorem ift {α : Type} {c : Prop} {i : Decidable c} {a b : Option α} {x : Option α} (hc : c) (h : (@ite _ c i a b) = x) : a = x := by rw [if_pos hc] at h; exact h
theorem iff' {α : Type} {c : Prop} {i : Decidable c} {a b : Option α} {x : Option α} (hc : ¬ c) (h : (@ite _ c i a b) = x) : b = x := by rw [if_neg hc] at h; exact h
theorem bnd {α β : Type} {a : Option α} {g : α → Option β} {x : β} (h : Option.bind a g = some x) : ∃ v, a = some v ∧ g v = some x := by
  cases a with
  | none => cases h
  | some v => exact ⟨v, rfl, h⟩
theorem ifs {α : Type} {c : Prop} {i : Decidable c} {a : Option α} {x : α} (h : (@ite _ c i a none) = some x) : c ∧ a = some x := by
  by_cases hc : c
  · rw [if_pos hc] at h; exact ⟨hc, h⟩
  · rw [if_neg hc] at h; cases h
def inb (i : Int32) (n : Nat) : Prop := 0 ≤ i ∧ i.toNatClampNeg < n
def inbD (i : Int32) (n : Nat) : Decidable (inb i n) := inferInstanceAs (Decidable (0 ≤ i ∧ i.toNatClampNeg < n))
theorem inb_in {i : Int32} {n : Nat} (h : inb i n) : vp_in i n := by
  intro q
  rcases q with q | q
  · have h1 := Int32.le_iff_toInt_le.mp h.1
    have h2 := Int32.lt_iff_toInt_lt.mp q
    omega
  · have := h.2
    omega
/-- a list of places out of an address row -/
def pk (a : Nat → Nat) (is : List Nat) : Nat → Nat := fun i => a (is.getD i 0)
def sh (a : Nat → Nat) (b : Nat) : Nat → Nat := fun i => a (b + i)
end
