def lw_g : List Cond := lw_tbl.filter goodWord
theorem gw {w : Cond} (h : w ∈ lw_tbl) (hg : goodWord w = true) : w ∈ lw_g := List.mem_filter.mpr ⟨h, hg⟩
theorem mw_0 : Cond.selects "PillarRuns" yX6_refuse yX6_refuse ∈ lw_g := gw (List.mem_of_getElem? (i := 0) (by decide +kernel)) rfl
theorem mw_1 : Cond.selects "PillarRuns$Bearing" yX0_claim yX0_claim ∈ lw_g := gw (List.mem_of_getElem? (i := 1) (by decide +kernel)) rfl
theorem mw_2 : Cond.selects "PillarRuns$Bearing" yX0_weigh yX0_weigh ∈ lw_g := gw (List.mem_of_getElem? (i := 2) (by decide +kernel)) rfl
theorem mw_3 : Cond.selects "PillarRuns" yX6_tellPillar yX6_tellPillar ∈ lw_g := gw (List.mem_of_getElem? (i := 3) (by decide +kernel)) rfl
theorem mw_4 : Cond.selects "PillarRuns" yX6_tellMine yX6_tellMine ∈ lw_g := gw (List.mem_of_getElem? (i := 4) (by decide +kernel)) rfl
theorem mw_5 : Cond.selects "PillarRuns$Bearing" yX0_arePair yX0_arePair ∈ lw_g := gw (List.mem_of_getElem? (i := 5) (by decide +kernel)) rfl
theorem mw_6 : Cond.selects "PillarRuns$Run" yX2_crushWave yX2_crushWave ∈ lw_g := gw (List.mem_of_getElem? (i := 6) (by decide +kernel)) rfl
theorem mw_7 : Cond.selects "PillarRuns$Text" yX4_skipBlanks yX4_skipBlanks ∈ lw_g := gw (List.mem_of_getElem? (i := 7) (by decide +kernel)) rfl
theorem mw_8 : Cond.selects "PillarRuns$Text" yX4_fail yX4_fail ∈ lw_g := gw (List.mem_of_getElem? (i := 8) (by decide +kernel)) rfl
theorem mw_9 : Cond.selects "PillarRuns$Text" yX4_readOrder yX4_readOrder ∈ lw_g := gw (List.mem_of_getElem? (i := 9) (by decide +kernel)) rfl
theorem mw_10 : Cond.selects "PillarRuns$Text" yX4_readPillar yX4_readPillar ∈ lw_g := gw (List.mem_of_getElem? (i := 10) (by decide +kernel)) rfl
theorem mw_11 : Cond.selects "PillarRuns$Text" yX4_readCell yX4_readCell ∈ lw_g := gw (List.mem_of_getElem? (i := 11) (by decide +kernel)) rfl
theorem mw_12 : Cond.selects "PillarRuns$Text" yX4_readNumber yX4_readNumber ∈ lw_g := gw (List.mem_of_getElem? (i := 12) (by decide +kernel)) rfl
theorem mw_13 : Cond.selects "PillarRuns$Text" yX4_readEnd yX4_readEnd ∈ lw_g := gw (List.mem_of_getElem? (i := 13) (by decide +kernel)) rfl
theorem mw_14 : Cond.selects "PillarRuns$Text" yX4_readWeight yX4_readWeight ∈ lw_g := gw (List.mem_of_getElem? (i := 14) (by decide +kernel)) rfl
theorem mw_15 : Cond.selects "PillarRuns$Text" yX4_readWall yX4_readWall ∈ lw_g := gw (List.mem_of_getElem? (i := 15) (by decide +kernel)) rfl
theorem mw_16 : Cond.selects "PillarRuns$Text" yX4_readCrushed yX4_readCrushed ∈ lw_g := gw (List.mem_of_getElem? (i := 16) (by decide +kernel)) rfl
theorem mw_17 : Cond.selects "PillarRuns" yX6_tellCount yX6_tellCount ∈ lw_g := gw (List.mem_of_getElem? (i := 17) (by decide +kernel)) rfl
theorem mw_18 : Cond.selects "PillarRunsModel" yX7_no yX7_no ∈ lw_g := gw (List.mem_of_getElem? (i := 18) (by decide +kernel)) rfl
theorem mw_19 : Cond.selects "PillarRunsModel" yX7_comesBack yX7_comesBack ∈ lw_g := gw (List.mem_of_getElem? (i := 19) (by decide +kernel)) rfl
theorem mw_20 : Cond.selects "PillarRunsModel" yX7_noWaves yX7_noWaves ∈ lw_g := gw (List.mem_of_getElem? (i := 20) (by decide +kernel)) rfl
theorem mw_21 : Cond.selects "PillarRunsModel" yX7_bad yX7_bad ∈ lw_g := gw (List.mem_of_getElem? (i := 21) (by decide +kernel)) rfl
theorem mw_22 : Cond.selects "PillarRunsModel" yX7_pillarAt yX7_pillarAt ∈ lw_g := gw (List.mem_of_getElem? (i := 22) (by decide +kernel)) rfl
theorem mw_23 : Cond.selects "PillarRunsModel" yX7_full yX7_full ∈ lw_g := gw (List.mem_of_getElem? (i := 23) (by decide +kernel)) rfl
theorem mw_24 : Cond.selects "PillarRunsModel" yX7_leavesState yX7_leavesState ∈ lw_g := gw (List.mem_of_getElem? (i := 24) (by decide +kernel)) rfl
theorem mw_25 : Cond.selects "PillarRunsModel" yX7_writes yX7_writes ∈ lw_g := gw (List.mem_of_getElem? (i := 25) (by decide +kernel)) rfl
theorem mw_26 : Cond.selects "PillarRunsModel" yX7_comesPillar yX7_comesPillar ∈ lw_g := gw (List.mem_of_getElem? (i := 26) (by decide +kernel)) rfl
theorem mw_27 : Cond.selects "PillarRunsModel" yX7_isPillar yX7_isPillar ∈ lw_g := gw (List.mem_of_getElem? (i := 27) (by decide +kernel)) rfl
theorem mw_28 : Cond.selects "PillarRunsModel" yX7_ofBy yX7_ofBy ∈ lw_g := gw (List.mem_of_getElem? (i := 28) (by decide +kernel)) rfl
theorem mw_29 : Cond.selects "PillarRunsModel" yX7_bears yX7_bears ∈ lw_g := gw (List.mem_of_getElem? (i := 29) (by decide +kernel)) rfl
theorem mw_30 : Cond.selects "PillarRunsModel" yX7_setRooms yX7_setRooms ∈ lw_g := gw (List.mem_of_getElem? (i := 30) (by decide +kernel)) rfl
theorem mw_31 : Cond.selects "PillarRunsModel" yX7_wallsAhead yX7_wallsAhead ∈ lw_g := gw (List.mem_of_getElem? (i := 31) (by decide +kernel)) rfl
theorem mw_32 : Cond.selects "PillarRunsModel" yX7_bearer yX7_bearer ∈ lw_g := gw (List.mem_of_getElem? (i := 32) (by decide +kernel)) rfl
theorem mw_33 : Cond.selects "PillarRunsModel" yX7_roomOf yX7_roomOf ∈ lw_g := gw (List.mem_of_getElem? (i := 33) (by decide +kernel)) rfl
theorem mw_34 : Cond.selects "PillarRunsModel" yX7_stands yX7_stands ∈ lw_g := gw (List.mem_of_getElem? (i := 34) (by decide +kernel)) rfl
theorem mw_35 : Cond.selects "PillarRunsModel" yX7_allBy yX7_allBy ∈ lw_g := gw (List.mem_of_getElem? (i := 35) (by decide +kernel)) rfl
theorem mw_36 : Cond.selects "PillarRunsModel" yX7_tooMuch yX7_tooMuch ∈ lw_g := gw (List.mem_of_getElem? (i := 36) (by decide +kernel)) rfl
theorem mw_37 : Cond.selects "PillarRunsModel" yX7_allWeight yX7_allWeight ∈ lw_g := gw (List.mem_of_getElem? (i := 37) (by decide +kernel)) rfl
theorem mw_38 : Cond.selects "PillarRunsModel" yX7_rooms yX7_rooms ∈ lw_g := gw (List.mem_of_getElem? (i := 38) (by decide +kernel)) rfl
theorem mw_39 : Cond.selects "PillarRunsModel" yX7_heldRooms yX7_heldRooms ∈ lw_g := gw (List.mem_of_getElem? (i := 39) (by decide +kernel)) rfl
theorem mw_40 : Cond.selects "PillarRunsModel" yX7_isSide yX7_isSide ∈ lw_g := gw (List.mem_of_getElem? (i := 40) (by decide +kernel)) rfl
theorem mw_41 : Cond.selects "PillarRunsModel" yX7_goes yX7_goes ∈ lw_g := gw (List.mem_of_getElem? (i := 41) (by decide +kernel)) rfl
theorem mw_42 : Cond.selects "PillarRunsModel" yX7_waveOf yX7_waveOf ∈ lw_g := gw (List.mem_of_getElem? (i := 42) (by decide +kernel)) rfl
theorem mw_43 : Cond.selects "PillarRunsModel" yX7_lossOf yX7_lossOf ∈ lw_g := gw (List.mem_of_getElem? (i := 43) (by decide +kernel)) rfl
theorem mw_44 : Cond.selects "PillarRunsModel" yX7_left yX7_left ∈ lw_g := gw (List.mem_of_getElem? (i := 44) (by decide +kernel)) rfl
theorem mw_45 : Cond.selects "PillarRunsModel" yX7_leftCut yX7_leftCut ∈ lw_g := gw (List.mem_of_getElem? (i := 45) (by decide +kernel)) rfl
theorem mw_46 : Cond.selects "PillarRunsModel" yX7_here yX7_here ∈ lw_g := gw (List.mem_of_getElem? (i := 46) (by decide +kernel)) rfl
theorem mw_47 : Cond.selects "PillarRunsModel" yX7_keepsAhead yX7_keepsAhead ∈ lw_g := gw (List.mem_of_getElem? (i := 47) (by decide +kernel)) rfl
theorem mw_48 : Cond.selects "PillarRunsModel" yX7_readsOrder yX7_readsOrder ∈ lw_g := gw (List.mem_of_getElem? (i := 48) (by decide +kernel)) rfl
theorem mw_49 : Cond.selects "PillarRunsModel" yX7_readsPillar yX7_readsPillar ∈ lw_g := gw (List.mem_of_getElem? (i := 49) (by decide +kernel)) rfl
theorem mw_50 : Cond.selects "PillarRunsModel" yX7_readsCell yX7_readsCell ∈ lw_g := gw (List.mem_of_getElem? (i := 50) (by decide +kernel)) rfl
theorem mw_51 : Cond.selects "PillarRunsModel" yX7_readsNumber yX7_readsNumber ∈ lw_g := gw (List.mem_of_getElem? (i := 51) (by decide +kernel)) rfl
theorem mw_52 : Cond.selects "PillarRunsModel" yX7_ends yX7_ends ∈ lw_g := gw (List.mem_of_getElem? (i := 52) (by decide +kernel)) rfl
theorem mw_53 : Cond.selects "PillarRunsModel" yX7_readsWeight yX7_readsWeight ∈ lw_g := gw (List.mem_of_getElem? (i := 53) (by decide +kernel)) rfl
theorem mw_54 : Cond.selects "PillarRunsModel" yX7_readsWall yX7_readsWall ∈ lw_g := gw (List.mem_of_getElem? (i := 54) (by decide +kernel)) rfl
theorem mw_55 : Cond.selects "PillarRunsModel" yX7_readsCrushed yX7_readsCrushed ∈ lw_g := gw (List.mem_of_getElem? (i := 55) (by decide +kernel)) rfl
theorem mw_56 : Cond.selects "PillarRunsModel" yX7_readsRun yX7_readsRun ∈ lw_g := gw (List.mem_of_getElem? (i := 56) (by decide +kernel)) rfl
theorem mw_57 : Cond.selects "PillarRunsModel" yX7_asAhead yX7_asAhead ∈ lw_g := gw (List.mem_of_getElem? (i := 57) (by decide +kernel)) rfl
theorem mw_58 : Cond.selects "PillarRunsModel" yX7_leavesAhead yX7_leavesAhead ∈ lw_g := gw (List.mem_of_getElem? (i := 58) (by decide +kernel)) rfl
theorem mw_59 : Cond.selects "PillarRunsModel" yX7_toldBy yX7_toldBy ∈ lw_g := gw (List.mem_of_getElem? (i := 59) (by decide +kernel)) rfl
theorem mw_60 : Cond.initialized "PillarRunsLaw" ∈ lw_g := gw (List.mem_of_getElem? (i := 60) (by decide +kernel)) rfl
theorem mw_61 : Cond.initialized "PillarRuns" ∈ lw_g := gw (List.mem_of_getElem? (i := 61) (by decide +kernel)) rfl
theorem mw_62 : Cond.initialized "PillarRuns$Mine" ∈ lw_g := gw (List.mem_of_getElem? (i := 62) (by decide +kernel)) rfl
theorem mw_63 : Cond.initialized "java/util/Arrays" ∈ lw_g := gw (List.mem_of_getElem? (i := 63) (by decide +kernel)) rfl
theorem mw_64 : Cond.initialized "PillarRuns$Bearing" ∈ lw_g := gw (List.mem_of_getElem? (i := 64) (by decide +kernel)) rfl
theorem mw_65 : Cond.initialized "PillarRuns$Run" ∈ lw_g := gw (List.mem_of_getElem? (i := 65) (by decide +kernel)) rfl
theorem mw_66 : Cond.initialized "PillarRuns$States" ∈ lw_g := gw (List.mem_of_getElem? (i := 66) (by decide +kernel)) rfl
theorem mw_67 : Cond.initialized "PillarRuns$Trial" ∈ lw_g := gw (List.mem_of_getElem? (i := 67) (by decide +kernel)) rfl
theorem mw_68 : Cond.initialized "PillarRuns$Text" ∈ lw_g := gw (List.mem_of_getElem? (i := 68) (by decide +kernel)) rfl
theorem mw_69 : Cond.initialized "PillarRunsModel" ∈ lw_g := gw (List.mem_of_getElem? (i := 69) (by decide +kernel)) rfl
theorem mw_70 : Cond.initialized "java/lang/System" ∈ lw_g := gw (List.mem_of_getElem? (i := 70) (by decide +kernel)) rfl
theorem mw_71 : Cond.initialized "java/lang/Math" ∈ lw_g := gw (List.mem_of_getElem? (i := 71) (by decide +kernel)) rfl
theorem mw_72 : Cond.classLink "PillarRunsLaw" 7 "PillarRuns" ∈ lw_g := gw (List.mem_of_getElem? (i := 72) (by decide +kernel)) rfl
theorem mw_73 : Cond.instantiable "PillarRuns" 7 ∈ lw_g := gw (List.mem_of_getElem? (i := 73) (by decide +kernel)) rfl
theorem mw_74 : Cond.methodLink "PillarRunsLaw" 9 yX6_init ∈ lw_g := gw (List.mem_of_getElem? (i := 74) (by decide +kernel)) rfl
theorem mw_75 : Cond.instanceMethod yX6_init ∈ lw_g := gw (List.mem_of_getElem? (i := 75) (by decide +kernel)) rfl
theorem mw_76 : Cond.code yX6_init prog_1_method_1_code 1 none ∈ lw_g := gw (List.mem_of_getElem? (i := 76) (by decide +kernel)) rfl
theorem mw_77 : Cond.methodLink "PillarRuns" 1 Lib.objectInit ∈ lw_g := gw (List.mem_of_getElem? (i := 77) (by decide +kernel)) rfl
theorem mw_78 : Cond.instanceMethod Lib.objectInit ∈ lw_g := gw (List.mem_of_getElem? (i := 78) (by decide +kernel)) rfl
theorem mw_79 : Cond.code Lib.objectInit object_method_1_code 1 none ∈ lw_g := gw (List.mem_of_getElem? (i := 79) (by decide +kernel)) rfl
theorem mw_80 : Cond.classLink "PillarRuns" 7 "PillarRuns$Mine" ∈ lw_g := gw (List.mem_of_getElem? (i := 80) (by decide +kernel)) rfl
theorem mw_81 : Cond.instantiable "PillarRuns$Mine" 6 ∈ lw_g := gw (List.mem_of_getElem? (i := 81) (by decide +kernel)) rfl
theorem mw_82 : Cond.methodLink "PillarRuns" 9 yX1_init ∈ lw_g := gw (List.mem_of_getElem? (i := 82) (by decide +kernel)) rfl
theorem mw_83 : Cond.instanceMethod yX1_init ∈ lw_g := gw (List.mem_of_getElem? (i := 83) (by decide +kernel)) rfl
theorem mw_84 : Cond.code yX1_init prog_3_method_1_code 1 none ∈ lw_g := gw (List.mem_of_getElem? (i := 84) (by decide +kernel)) rfl
theorem mw_85 : Cond.methodLink "PillarRuns$Mine" 3 Lib.objectInit ∈ lw_g := gw (List.mem_of_getElem? (i := 85) (by decide +kernel)) rfl
theorem mw_86 : Cond.methodLink "PillarRuns$Mine" 27 yX1_reset ∈ lw_g := gw (List.mem_of_getElem? (i := 86) (by decide +kernel)) rfl
theorem mw_87 : Cond.instanceMethod yX1_reset ∈ lw_g := gw (List.mem_of_getElem? (i := 87) (by decide +kernel)) rfl
theorem mw_88 : Cond.selects "PillarRuns$Mine" yX1_reset yX1_reset ∈ lw_g := gw (List.mem_of_getElem? (i := 88) (by decide +kernel)) rfl
theorem mw_89 : Cond.code yX1_reset prog_3_method_2_code 1 none ∈ lw_g := gw (List.mem_of_getElem? (i := 89) (by decide +kernel)) rfl
theorem mw_90 : Cond.methodLink "PillarRuns$Mine" 30 yJ7_fill_53178 ∈ lw_g := gw (List.mem_of_getElem? (i := 90) (by decide +kernel)) rfl
theorem mw_91 : Cond.static yJ7_fill_53178 ∈ lw_g := gw (List.mem_of_getElem? (i := 91) (by decide +kernel)) rfl
theorem mw_92 : Cond.code yJ7_fill_53178 prog_12_method_103_code 4 none ∈ lw_g := gw (List.mem_of_getElem? (i := 92) (by decide +kernel)) rfl
theorem mw_93 : Cond.fieldLink "PillarRuns$Mine" 9 "PillarRuns$Mine" "weights" "[I" ∈ lw_g := gw (List.mem_of_getElem? (i := 93) (by decide +kernel)) rfl
theorem mw_94 : Cond.fieldLink "PillarRuns" 85 "PillarRuns$Mine" "weights" "[I" ∈ lw_g := gw (List.mem_of_getElem? (i := 94) (by decide +kernel)) rfl
theorem mw_95 : Cond.fieldLink "PillarRuns$Bearing" 64 "PillarRuns$Mine" "weights" "[I" ∈ lw_g := gw (List.mem_of_getElem? (i := 95) (by decide +kernel)) rfl
theorem mw_96 : Cond.fieldLink "PillarRuns$Text" 84 "PillarRuns$Mine" "weights" "[I" ∈ lw_g := gw (List.mem_of_getElem? (i := 96) (by decide +kernel)) rfl
theorem mw_97 : Cond.fieldLink "PillarRuns$Mine" 15 "PillarRuns$Mine" "cells" "[I" ∈ lw_g := gw (List.mem_of_getElem? (i := 97) (by decide +kernel)) rfl
theorem mw_98 : Cond.fieldLink "PillarRuns$Bearing" 47 "PillarRuns$Mine" "cells" "[I" ∈ lw_g := gw (List.mem_of_getElem? (i := 98) (by decide +kernel)) rfl
theorem mw_99 : Cond.fieldLink "PillarRuns" 233 "PillarRuns$Mine" "cells" "[I" ∈ lw_g := gw (List.mem_of_getElem? (i := 99) (by decide +kernel)) rfl
theorem mw_100 : Cond.fieldLink "PillarRuns$Mine" 18 "PillarRuns$Mine" "strengths" "[I" ∈ lw_g := gw (List.mem_of_getElem? (i := 100) (by decide +kernel)) rfl
theorem mw_101 : Cond.fieldLink "PillarRuns$Bearing" 67 "PillarRuns$Mine" "strengths" "[I" ∈ lw_g := gw (List.mem_of_getElem? (i := 101) (by decide +kernel)) rfl
theorem mw_102 : Cond.fieldLink "PillarRuns" 104 "PillarRuns$Mine" "strengths" "[I" ∈ lw_g := gw (List.mem_of_getElem? (i := 102) (by decide +kernel)) rfl
theorem mw_103 : Cond.fieldLink "PillarRuns$Mine" 21 "PillarRuns$Mine" "stands" "[I" ∈ lw_g := gw (List.mem_of_getElem? (i := 103) (by decide +kernel)) rfl
theorem mw_104 : Cond.fieldLink "PillarRuns$Bearing" 36 "PillarRuns$Mine" "stands" "[I" ∈ lw_g := gw (List.mem_of_getElem? (i := 104) (by decide +kernel)) rfl
theorem mw_105 : Cond.fieldLink "PillarRuns$Trial" 41 "PillarRuns$Mine" "stands" "[I" ∈ lw_g := gw (List.mem_of_getElem? (i := 105) (by decide +kernel)) rfl
theorem mw_106 : Cond.fieldLink "PillarRuns$Run" 53 "PillarRuns$Mine" "stands" "[I" ∈ lw_g := gw (List.mem_of_getElem? (i := 106) (by decide +kernel)) rfl
theorem mw_107 : Cond.fieldLink "PillarRuns" 117 "PillarRuns$Mine" "stands" "[I" ∈ lw_g := gw (List.mem_of_getElem? (i := 107) (by decide +kernel)) rfl
theorem mw_108 : Cond.fieldLink "PillarRuns$Text" 96 "PillarRuns$Mine" "stands" "[I" ∈ lw_g := gw (List.mem_of_getElem? (i := 108) (by decide +kernel)) rfl
theorem mw_109 : Cond.fieldLink "PillarRuns$Mine" 24 "PillarRuns$Mine" "walls" "[I" ∈ lw_g := gw (List.mem_of_getElem? (i := 109) (by decide +kernel)) rfl
theorem mw_110 : Cond.fieldLink "PillarRuns$Trial" 48 "PillarRuns$Mine" "walls" "[I" ∈ lw_g := gw (List.mem_of_getElem? (i := 110) (by decide +kernel)) rfl
theorem mw_111 : Cond.fieldLink "PillarRuns" 107 "PillarRuns$Mine" "walls" "[I" ∈ lw_g := gw (List.mem_of_getElem? (i := 111) (by decide +kernel)) rfl
theorem mw_112 : Cond.fieldLink "PillarRuns$Text" 87 "PillarRuns$Mine" "walls" "[I" ∈ lw_g := gw (List.mem_of_getElem? (i := 112) (by decide +kernel)) rfl
theorem mw_113 : Cond.fieldLink "PillarRuns$Mine" 36 "PillarRuns$Mine" "pillars" "I" ∈ lw_g := gw (List.mem_of_getElem? (i := 113) (by decide +kernel)) rfl
theorem mw_114 : Cond.fieldLink "PillarRuns$Bearing" 30 "PillarRuns$Mine" "pillars" "I" ∈ lw_g := gw (List.mem_of_getElem? (i := 114) (by decide +kernel)) rfl
theorem mw_115 : Cond.fieldLink "PillarRuns" 69 "PillarRuns$Mine" "pillars" "I" ∈ lw_g := gw (List.mem_of_getElem? (i := 115) (by decide +kernel)) rfl
theorem mw_116 : Cond.fieldLink "PillarRuns$Text" 64 "PillarRuns$Mine" "pillars" "I" ∈ lw_g := gw (List.mem_of_getElem? (i := 116) (by decide +kernel)) rfl
theorem mw_117 : Cond.fieldLink "PillarRuns$Run" 44 "PillarRuns$Mine" "pillars" "I" ∈ lw_g := gw (List.mem_of_getElem? (i := 117) (by decide +kernel)) rfl
theorem mw_131 : Cond.arrayClass .int ∈ lw_g := gw (List.mem_of_getElem? (i := 131) (by decide +kernel)) rfl
theorem mw_132 : Cond.classLink "PillarRuns" 16 "PillarRuns$Bearing" ∈ lw_g := gw (List.mem_of_getElem? (i := 132) (by decide +kernel)) rfl
theorem mw_133 : Cond.instantiable "PillarRuns$Bearing" 4 ∈ lw_g := gw (List.mem_of_getElem? (i := 133) (by decide +kernel)) rfl
theorem mw_135 : Cond.instanceMethod yX0_init ∈ lw_g := gw (List.mem_of_getElem? (i := 135) (by decide +kernel)) rfl
theorem mw_136 : Cond.code yX0_init prog_2_method_1_code 1 none ∈ lw_g := gw (List.mem_of_getElem? (i := 136) (by decide +kernel)) rfl
theorem mw_137 : Cond.methodLink "PillarRuns$Bearing" 3 Lib.objectInit ∈ lw_g := gw (List.mem_of_getElem? (i := 137) (by decide +kernel)) rfl
theorem mw_138 : Cond.fieldLink "PillarRuns$Bearing" 9 "PillarRuns$Bearing" "under" "[I" ∈ lw_g := gw (List.mem_of_getElem? (i := 138) (by decide +kernel)) rfl
theorem mw_139 : Cond.fieldLink "PillarRuns" 130 "PillarRuns$Bearing" "under" "[I" ∈ lw_g := gw (List.mem_of_getElem? (i := 139) (by decide +kernel)) rfl
theorem mw_140 : Cond.fieldLink "PillarRuns$Bearing" 15 "PillarRuns$Bearing" "apart" "[I" ∈ lw_g := gw (List.mem_of_getElem? (i := 140) (by decide +kernel)) rfl
theorem mw_141 : Cond.fieldLink "PillarRuns$Bearing" 18 "PillarRuns$Bearing" "loads" "[I" ∈ lw_g := gw (List.mem_of_getElem? (i := 141) (by decide +kernel)) rfl
theorem mw_142 : Cond.fieldLink "PillarRuns" 170 "PillarRuns$Bearing" "loads" "[I" ∈ lw_g := gw (List.mem_of_getElem? (i := 142) (by decide +kernel)) rfl
theorem mw_143 : Cond.fieldLink "PillarRuns$Bearing" 21 "PillarRuns$Bearing" "cellsOn" "[I" ∈ lw_g := gw (List.mem_of_getElem? (i := 143) (by decide +kernel)) rfl
theorem mw_144 : Cond.fieldLink "PillarRuns" 236 "PillarRuns$Bearing" "cellsOn" "[I" ∈ lw_g := gw (List.mem_of_getElem? (i := 144) (by decide +kernel)) rfl
theorem mw_154 : Cond.classLink "PillarRuns" 23 "PillarRuns$Run" ∈ lw_g := gw (List.mem_of_getElem? (i := 154) (by decide +kernel)) rfl
theorem mw_155 : Cond.instantiable "PillarRuns$Run" 2 ∈ lw_g := gw (List.mem_of_getElem? (i := 155) (by decide +kernel)) rfl
theorem mw_156 : Cond.methodLink "PillarRuns" 25 yX2_init ∈ lw_g := gw (List.mem_of_getElem? (i := 156) (by decide +kernel)) rfl
theorem mw_157 : Cond.instanceMethod yX2_init ∈ lw_g := gw (List.mem_of_getElem? (i := 157) (by decide +kernel)) rfl
theorem mw_158 : Cond.code yX2_init prog_4_method_1_code 1 none ∈ lw_g := gw (List.mem_of_getElem? (i := 158) (by decide +kernel)) rfl
theorem mw_159 : Cond.methodLink "PillarRuns$Run" 3 Lib.objectInit ∈ lw_g := gw (List.mem_of_getElem? (i := 159) (by decide +kernel)) rfl
theorem mw_160 : Cond.methodLink "PillarRuns$Run" 15 yX2_forget ∈ lw_g := gw (List.mem_of_getElem? (i := 160) (by decide +kernel)) rfl
theorem mw_161 : Cond.instanceMethod yX2_forget ∈ lw_g := gw (List.mem_of_getElem? (i := 161) (by decide +kernel)) rfl
theorem mw_162 : Cond.selects "PillarRuns$Run" yX2_forget yX2_forget ∈ lw_g := gw (List.mem_of_getElem? (i := 162) (by decide +kernel)) rfl
theorem mw_163 : Cond.code yX2_forget prog_4_method_2_code 1 none ∈ lw_g := gw (List.mem_of_getElem? (i := 163) (by decide +kernel)) rfl
theorem mw_164 : Cond.methodLink "PillarRuns$Run" 18 yJ7_fill_53178 ∈ lw_g := gw (List.mem_of_getElem? (i := 164) (by decide +kernel)) rfl
theorem mw_165 : Cond.fieldLink "PillarRuns$Run" 9 "PillarRuns$Run" "waveOf" "[I" ∈ lw_g := gw (List.mem_of_getElem? (i := 165) (by decide +kernel)) rfl
theorem mw_166 : Cond.fieldLink "PillarRuns" 150 "PillarRuns$Run" "waveOf" "[I" ∈ lw_g := gw (List.mem_of_getElem? (i := 166) (by decide +kernel)) rfl
theorem mw_167 : Cond.fieldLink "PillarRuns$Run" 24 "PillarRuns$Run" "waves" "I" ∈ lw_g := gw (List.mem_of_getElem? (i := 167) (by decide +kernel)) rfl
theorem mw_168 : Cond.fieldLink "PillarRuns" 147 "PillarRuns$Run" "waves" "I" ∈ lw_g := gw (List.mem_of_getElem? (i := 168) (by decide +kernel)) rfl
theorem mw_174 : Cond.classLink "PillarRuns" 30 "PillarRuns$States" ∈ lw_g := gw (List.mem_of_getElem? (i := 174) (by decide +kernel)) rfl
theorem mw_175 : Cond.instantiable "PillarRuns$States" 3 ∈ lw_g := gw (List.mem_of_getElem? (i := 175) (by decide +kernel)) rfl
theorem mw_176 : Cond.methodLink "PillarRuns" 32 yX3_init ∈ lw_g := gw (List.mem_of_getElem? (i := 176) (by decide +kernel)) rfl
theorem mw_177 : Cond.instanceMethod yX3_init ∈ lw_g := gw (List.mem_of_getElem? (i := 177) (by decide +kernel)) rfl
theorem mw_178 : Cond.code yX3_init prog_5_method_1_code 2 none ∈ lw_g := gw (List.mem_of_getElem? (i := 178) (by decide +kernel)) rfl
theorem mw_179 : Cond.methodLink "PillarRuns$States" 3 Lib.objectInit ∈ lw_g := gw (List.mem_of_getElem? (i := 179) (by decide +kernel)) rfl
theorem mw_180 : Cond.classLink "PillarRuns$States" 9 "PillarRuns$Mine" ∈ lw_g := gw (List.mem_of_getElem? (i := 180) (by decide +kernel)) rfl
theorem mw_182 : Cond.methodLink "PillarRuns$States" 17 yX1_init ∈ lw_g := gw (List.mem_of_getElem? (i := 182) (by decide +kernel)) rfl
theorem mw_183 : Cond.fieldLink "PillarRuns$States" 11 "PillarRuns$States" "ring" "[LPillarRuns$Mine;" ∈ lw_g := gw (List.mem_of_getElem? (i := 183) (by decide +kernel)) rfl
theorem mw_184 : Cond.fieldLink "PillarRuns$States" 18 "PillarRuns$States" "next" "I" ∈ lw_g := gw (List.mem_of_getElem? (i := 184) (by decide +kernel)) rfl
theorem mw_185 : Cond.fieldLink "PillarRuns$States" 26 "PillarRuns$States" "count" "I" ∈ lw_g := gw (List.mem_of_getElem? (i := 185) (by decide +kernel)) rfl
theorem mw_186 : Cond.fieldLink "PillarRuns" 207 "PillarRuns$States" "count" "I" ∈ lw_g := gw (List.mem_of_getElem? (i := 186) (by decide +kernel)) rfl
theorem mw_194 : Cond.classLink "PillarRuns" 37 "PillarRuns$Trial" ∈ lw_g := gw (List.mem_of_getElem? (i := 194) (by decide +kernel)) rfl
theorem mw_195 : Cond.instantiable "PillarRuns$Trial" 3 ∈ lw_g := gw (List.mem_of_getElem? (i := 195) (by decide +kernel)) rfl
theorem mw_197 : Cond.instanceMethod yX5_init ∈ lw_g := gw (List.mem_of_getElem? (i := 197) (by decide +kernel)) rfl
theorem mw_198 : Cond.code yX5_init prog_7_method_1_code 1 none ∈ lw_g := gw (List.mem_of_getElem? (i := 198) (by decide +kernel)) rfl
theorem mw_199 : Cond.methodLink "PillarRuns$Trial" 1 Lib.objectInit ∈ lw_g := gw (List.mem_of_getElem? (i := 199) (by decide +kernel)) rfl
theorem mw_200 : Cond.classLink "PillarRuns$Trial" 7 "PillarRuns$Mine" ∈ lw_g := gw (List.mem_of_getElem? (i := 200) (by decide +kernel)) rfl
theorem mw_201 : Cond.methodLink "PillarRuns$Trial" 9 yX1_init ∈ lw_g := gw (List.mem_of_getElem? (i := 201) (by decide +kernel)) rfl
theorem mw_202 : Cond.classLink "PillarRuns$Trial" 16 "PillarRuns$Bearing" ∈ lw_g := gw (List.mem_of_getElem? (i := 202) (by decide +kernel)) rfl
theorem mw_204 : Cond.classLink "PillarRuns$Trial" 23 "PillarRuns$Run" ∈ lw_g := gw (List.mem_of_getElem? (i := 204) (by decide +kernel)) rfl
theorem mw_205 : Cond.methodLink "PillarRuns$Trial" 25 yX2_init ∈ lw_g := gw (List.mem_of_getElem? (i := 205) (by decide +kernel)) rfl
theorem mw_206 : Cond.fieldLink "PillarRuns$Trial" 10 "PillarRuns$Trial" "mine" "LPillarRuns$Mine;" ∈ lw_g := gw (List.mem_of_getElem? (i := 206) (by decide +kernel)) rfl
theorem mw_207 : Cond.fieldLink "PillarRuns$Text" 36 "PillarRuns$Trial" "mine" "LPillarRuns$Mine;" ∈ lw_g := gw (List.mem_of_getElem? (i := 207) (by decide +kernel)) rfl
theorem mw_208 : Cond.fieldLink "PillarRuns" 169 "PillarRuns$Trial" "mine" "LPillarRuns$Mine;" ∈ lw_g := gw (List.mem_of_getElem? (i := 208) (by decide +kernel)) rfl
theorem mw_209 : Cond.fieldLink "PillarRuns$Trial" 19 "PillarRuns$Trial" "bearing" "LPillarRuns$Bearing;" ∈ lw_g := gw (List.mem_of_getElem? (i := 209) (by decide +kernel)) rfl
theorem mw_210 : Cond.fieldLink "PillarRuns" 160 "PillarRuns$Trial" "bearing" "LPillarRuns$Bearing;" ∈ lw_g := gw (List.mem_of_getElem? (i := 210) (by decide +kernel)) rfl
theorem mw_211 : Cond.fieldLink "PillarRuns$Trial" 26 "PillarRuns$Trial" "run" "LPillarRuns$Run;" ∈ lw_g := gw (List.mem_of_getElem? (i := 211) (by decide +kernel)) rfl
theorem mw_212 : Cond.fieldLink "PillarRuns" 194 "PillarRuns$Trial" "run" "LPillarRuns$Run;" ∈ lw_g := gw (List.mem_of_getElem? (i := 212) (by decide +kernel)) rfl
theorem mw_220 : Cond.classLink "PillarRuns" 44 "PillarRuns$Text" ∈ lw_g := gw (List.mem_of_getElem? (i := 220) (by decide +kernel)) rfl
theorem mw_221 : Cond.instantiable "PillarRuns$Text" 5 ∈ lw_g := gw (List.mem_of_getElem? (i := 221) (by decide +kernel)) rfl
theorem mw_223 : Cond.instanceMethod yX4_init ∈ lw_g := gw (List.mem_of_getElem? (i := 223) (by decide +kernel)) rfl
theorem mw_224 : Cond.code yX4_init prog_6_method_1_code 1 none ∈ lw_g := gw (List.mem_of_getElem? (i := 224) (by decide +kernel)) rfl
theorem mw_225 : Cond.methodLink "PillarRuns$Text" 3 Lib.objectInit ∈ lw_g := gw (List.mem_of_getElem? (i := 225) (by decide +kernel)) rfl
theorem mw_226 : Cond.fieldLink "PillarRuns$Text" 9 "PillarRuns$Text" "bytes" "[I" ∈ lw_g := gw (List.mem_of_getElem? (i := 226) (by decide +kernel)) rfl
theorem mw_227 : Cond.fieldLink "PillarRuns$Text" 15 "PillarRuns$Text" "length" "I" ∈ lw_g := gw (List.mem_of_getElem? (i := 227) (by decide +kernel)) rfl
theorem mw_228 : Cond.fieldLink "PillarRuns" 188 "PillarRuns$Text" "length" "I" ∈ lw_g := gw (List.mem_of_getElem? (i := 228) (by decide +kernel)) rfl
theorem mw_229 : Cond.fieldLink "PillarRuns$Text" 19 "PillarRuns$Text" "at" "I" ∈ lw_g := gw (List.mem_of_getElem? (i := 229) (by decide +kernel)) rfl
theorem mw_230 : Cond.fieldLink "PillarRuns$Text" 22 "PillarRuns$Text" "fault" "I" ∈ lw_g := gw (List.mem_of_getElem? (i := 230) (by decide +kernel)) rfl
theorem mw_231 : Cond.fieldLink "PillarRuns$Text" 93 "PillarRuns$Text" "numberAt" "I" ∈ lw_g := gw (List.mem_of_getElem? (i := 231) (by decide +kernel)) rfl
theorem mw_243 : Cond.fieldLink "PillarRuns" 10 "PillarRuns" "mine" "LPillarRuns$Mine;" ∈ lw_g := gw (List.mem_of_getElem? (i := 243) (by decide +kernel)) rfl
theorem mw_244 : Cond.fieldLink "PillarRuns" 19 "PillarRuns" "bearing" "LPillarRuns$Bearing;" ∈ lw_g := gw (List.mem_of_getElem? (i := 244) (by decide +kernel)) rfl
theorem mw_245 : Cond.fieldLink "PillarRuns" 26 "PillarRuns" "lastRun" "LPillarRuns$Run;" ∈ lw_g := gw (List.mem_of_getElem? (i := 245) (by decide +kernel)) rfl
theorem mw_246 : Cond.fieldLink "PillarRuns" 33 "PillarRuns" "states" "LPillarRuns$States;" ∈ lw_g := gw (List.mem_of_getElem? (i := 246) (by decide +kernel)) rfl
theorem mw_247 : Cond.fieldLink "PillarRuns" 40 "PillarRuns" "trial" "LPillarRuns$Trial;" ∈ lw_g := gw (List.mem_of_getElem? (i := 247) (by decide +kernel)) rfl
theorem mw_248 : Cond.fieldLink "PillarRuns" 47 "PillarRuns" "text" "LPillarRuns$Text;" ∈ lw_g := gw (List.mem_of_getElem? (i := 248) (by decide +kernel)) rfl
theorem mw_249 : Cond.fieldLink "PillarRuns" 51 "PillarRuns" "refusals" "[I" ∈ lw_g := gw (List.mem_of_getElem? (i := 249) (by decide +kernel)) rfl
theorem mw_265 : Cond.methodLink "PillarRunsLaw" 13 yX6_pillar ∈ lw_g := gw (List.mem_of_getElem? (i := 265) (by decide +kernel)) rfl
theorem mw_266 : Cond.instanceMethod yX6_pillar ∈ lw_g := gw (List.mem_of_getElem? (i := 266) (by decide +kernel)) rfl
theorem mw_267 : Cond.selects "PillarRuns" yX6_pillar yX6_pillar ∈ lw_g := gw (List.mem_of_getElem? (i := 267) (by decide +kernel)) rfl
theorem mw_268 : Cond.code yX6_pillar prog_1_method_2_code 3 (some .int) ∈ lw_g := gw (List.mem_of_getElem? (i := 268) (by decide +kernel)) rfl
theorem mw_269 : Cond.methodLink "PillarRuns" 55 yX6_isCell ∈ lw_g := gw (List.mem_of_getElem? (i := 269) (by decide +kernel)) rfl
theorem mw_270 : Cond.static yX6_isCell ∈ lw_g := gw (List.mem_of_getElem? (i := 270) (by decide +kernel)) rfl
theorem mw_271 : Cond.code yX6_isCell prog_1_method_33_code 1 (some .boolean) ∈ lw_g := gw (List.mem_of_getElem? (i := 271) (by decide +kernel)) rfl
theorem mw_272 : Cond.methodLink "PillarRuns" 81 yX6_isWithin ∈ lw_g := gw (List.mem_of_getElem? (i := 272) (by decide +kernel)) rfl
theorem mw_273 : Cond.static yX6_isWithin ∈ lw_g := gw (List.mem_of_getElem? (i := 273) (by decide +kernel)) rfl
theorem mw_274 : Cond.code yX6_isWithin prog_1_method_32_code 2 (some .boolean) ∈ lw_g := gw (List.mem_of_getElem? (i := 274) (by decide +kernel)) rfl
theorem mw_275 : Cond.methodLink "PillarRuns" 59 yX6_isStrength ∈ lw_g := gw (List.mem_of_getElem? (i := 275) (by decide +kernel)) rfl
theorem mw_276 : Cond.static yX6_isStrength ∈ lw_g := gw (List.mem_of_getElem? (i := 276) (by decide +kernel)) rfl
theorem mw_277 : Cond.code yX6_isStrength prog_1_method_34_code 1 (some .boolean) ∈ lw_g := gw (List.mem_of_getElem? (i := 277) (by decide +kernel)) rfl
theorem mw_278 : Cond.methodLink "PillarRuns" 62 yX6_refuse ∈ lw_g := gw (List.mem_of_getElem? (i := 278) (by decide +kernel)) rfl
theorem mw_280 : Cond.instanceMethod yX6_refuse ∈ lw_g := gw (List.mem_of_getElem? (i := 280) (by decide +kernel)) rfl
theorem mw_281 : Cond.code yX6_refuse prog_1_method_28_code 2 (some .int) ∈ lw_g := gw (List.mem_of_getElem? (i := 281) (by decide +kernel)) rfl
theorem mw_282 : Cond.methodLink "PillarRuns" 66 yX1_hasPillarOn ∈ lw_g := gw (List.mem_of_getElem? (i := 282) (by decide +kernel)) rfl
theorem mw_283 : Cond.instanceMethod yX1_hasPillarOn ∈ lw_g := gw (List.mem_of_getElem? (i := 283) (by decide +kernel)) rfl
theorem mw_284 : Cond.selects "PillarRuns$Mine" yX1_hasPillarOn yX1_hasPillarOn ∈ lw_g := gw (List.mem_of_getElem? (i := 284) (by decide +kernel)) rfl
theorem mw_285 : Cond.code yX1_hasPillarOn prog_3_method_7_code 3 (some .boolean) ∈ lw_g := gw (List.mem_of_getElem? (i := 285) (by decide +kernel)) rfl
theorem mw_286 : Cond.methodLink "PillarRuns" 73 yX3_keep ∈ lw_g := gw (List.mem_of_getElem? (i := 286) (by decide +kernel)) rfl
theorem mw_287 : Cond.instanceMethod yX3_keep ∈ lw_g := gw (List.mem_of_getElem? (i := 287) (by decide +kernel)) rfl
theorem mw_288 : Cond.selects "PillarRuns$States" yX3_keep yX3_keep ∈ lw_g := gw (List.mem_of_getElem? (i := 288) (by decide +kernel)) rfl
theorem mw_289 : Cond.code yX3_keep prog_5_method_2_code 2 none ∈ lw_g := gw (List.mem_of_getElem? (i := 289) (by decide +kernel)) rfl
theorem mw_290 : Cond.methodLink "PillarRuns$States" 22 yX1_copy ∈ lw_g := gw (List.mem_of_getElem? (i := 290) (by decide +kernel)) rfl
theorem mw_291 : Cond.instanceMethod yX1_copy ∈ lw_g := gw (List.mem_of_getElem? (i := 291) (by decide +kernel)) rfl
theorem mw_292 : Cond.selects "PillarRuns$Mine" yX1_copy yX1_copy ∈ lw_g := gw (List.mem_of_getElem? (i := 292) (by decide +kernel)) rfl
theorem mw_293 : Cond.code yX1_copy prog_3_method_3_code 2 none ∈ lw_g := gw (List.mem_of_getElem? (i := 293) (by decide +kernel)) rfl
theorem mw_294 : Cond.methodLink "PillarRuns$Mine" 40 ⟨"java/lang/System","arraycopy","(Ljava/lang/Object;ILjava/lang/Object;II)V"⟩ ∈ lw_g := gw (List.mem_of_getElem? (i := 294) (by decide +kernel)) rfl
theorem mw_295 : Cond.static ⟨"java/lang/System","arraycopy","(Ljava/lang/Object;ILjava/lang/Object;II)V"⟩ ∈ lw_g := gw (List.mem_of_getElem? (i := 295) (by decide +kernel)) rfl
theorem mw_296 : Cond.native ⟨"java/lang/System","arraycopy","(Ljava/lang/Object;ILjava/lang/Object;II)V"⟩ ∈ lw_g := gw (List.mem_of_getElem? (i := 296) (by decide +kernel)) rfl
theorem mw_297 : Cond.methodLink "PillarRuns$States" 29 yJ9_min_7cf53 ∈ lw_g := gw (List.mem_of_getElem? (i := 297) (by decide +kernel)) rfl
theorem mw_298 : Cond.static yJ9_min_7cf53 ∈ lw_g := gw (List.mem_of_getElem? (i := 298) (by decide +kernel)) rfl
theorem mw_299 : Cond.code yJ9_min_7cf53 prog_10_method_69_code 2 (some .int) ∈ lw_g := gw (List.mem_of_getElem? (i := 299) (by decide +kernel)) rfl
theorem mw_300 : Cond.methodLink "PillarRuns" 77 yX1_add ∈ lw_g := gw (List.mem_of_getElem? (i := 300) (by decide +kernel)) rfl
theorem mw_301 : Cond.instanceMethod yX1_add ∈ lw_g := gw (List.mem_of_getElem? (i := 301) (by decide +kernel)) rfl
theorem mw_302 : Cond.selects "PillarRuns$Mine" yX1_add yX1_add ∈ lw_g := gw (List.mem_of_getElem? (i := 302) (by decide +kernel)) rfl
theorem mw_303 : Cond.code yX1_add prog_3_method_4_code 3 none ∈ lw_g := gw (List.mem_of_getElem? (i := 303) (by decide +kernel)) rfl
theorem mw_304 : Cond.methodLink "PillarRunsLaw" 18 yX6_weight ∈ lw_g := gw (List.mem_of_getElem? (i := 304) (by decide +kernel)) rfl
theorem mw_305 : Cond.instanceMethod yX6_weight ∈ lw_g := gw (List.mem_of_getElem? (i := 305) (by decide +kernel)) rfl
theorem mw_306 : Cond.selects "PillarRuns" yX6_weight yX6_weight ∈ lw_g := gw (List.mem_of_getElem? (i := 306) (by decide +kernel)) rfl
theorem mw_307 : Cond.code yX6_weight prog_1_method_3_code 4 (some .int) ∈ lw_g := gw (List.mem_of_getElem? (i := 307) (by decide +kernel)) rfl
theorem mw_308 : Cond.methodLink "PillarRunsLaw" 22 yX6_draw ∈ lw_g := gw (List.mem_of_getElem? (i := 308) (by decide +kernel)) rfl
theorem mw_309 : Cond.instanceMethod yX6_draw ∈ lw_g := gw (List.mem_of_getElem? (i := 309) (by decide +kernel)) rfl
theorem mw_310 : Cond.selects "PillarRuns" yX6_draw yX6_draw ∈ lw_g := gw (List.mem_of_getElem? (i := 310) (by decide +kernel)) rfl
theorem mw_311 : Cond.code yX6_draw prog_1_method_4_code 6 (some .int) ∈ lw_g := gw (List.mem_of_getElem? (i := 311) (by decide +kernel)) rfl
theorem mw_312 : Cond.constant "PillarRuns" 88 (999999 : Int32) ∈ lw_g := gw (List.mem_of_getElem? (i := 312) (by decide +kernel)) rfl
theorem mw_313 : Cond.constantLong "PillarRuns" 89 (1103515245 : Int64) ∈ lw_g := gw (List.mem_of_getElem? (i := 313) (by decide +kernel)) rfl
theorem mw_314 : Cond.constantLong "PillarRuns" 91 (12345 : Int64) ∈ lw_g := gw (List.mem_of_getElem? (i := 314) (by decide +kernel)) rfl
theorem mw_315 : Cond.constantLong "PillarRuns" 93 (2147483648 : Int64) ∈ lw_g := gw (List.mem_of_getElem? (i := 315) (by decide +kernel)) rfl
theorem mw_316 : Cond.constantLong "PillarRuns" 95 (65536 : Int64) ∈ lw_g := gw (List.mem_of_getElem? (i := 316) (by decide +kernel)) rfl
theorem mw_317 : Cond.methodLink "PillarRuns" 97 yX6_sum ∈ lw_g := gw (List.mem_of_getElem? (i := 317) (by decide +kernel)) rfl
theorem mw_318 : Cond.static yX6_sum ∈ lw_g := gw (List.mem_of_getElem? (i := 318) (by decide +kernel)) rfl
theorem mw_319 : Cond.code yX6_sum prog_1_method_36_code 3 (some .int) ∈ lw_g := gw (List.mem_of_getElem? (i := 319) (by decide +kernel)) rfl
theorem mw_320 : Cond.methodLink "PillarRunsLaw" 26 yX6_strength ∈ lw_g := gw (List.mem_of_getElem? (i := 320) (by decide +kernel)) rfl
theorem mw_321 : Cond.instanceMethod yX6_strength ∈ lw_g := gw (List.mem_of_getElem? (i := 321) (by decide +kernel)) rfl
theorem mw_322 : Cond.selects "PillarRuns" yX6_strength yX6_strength ∈ lw_g := gw (List.mem_of_getElem? (i := 322) (by decide +kernel)) rfl
theorem mw_323 : Cond.code yX6_strength prog_1_method_5_code 4 (some .int) ∈ lw_g := gw (List.mem_of_getElem? (i := 323) (by decide +kernel)) rfl
theorem mw_324 : Cond.methodLink "PillarRuns" 101 yX1_hasPillar ∈ lw_g := gw (List.mem_of_getElem? (i := 324) (by decide +kernel)) rfl
theorem mw_325 : Cond.instanceMethod yX1_hasPillar ∈ lw_g := gw (List.mem_of_getElem? (i := 325) (by decide +kernel)) rfl
theorem mw_326 : Cond.selects "PillarRuns$Mine" yX1_hasPillar yX1_hasPillar ∈ lw_g := gw (List.mem_of_getElem? (i := 326) (by decide +kernel)) rfl
theorem mw_327 : Cond.code yX1_hasPillar prog_3_method_5_code 2 (some .boolean) ∈ lw_g := gw (List.mem_of_getElem? (i := 327) (by decide +kernel)) rfl
theorem mw_328 : Cond.methodLink "PillarRunsLaw" 30 yX6_wall ∈ lw_g := gw (List.mem_of_getElem? (i := 328) (by decide +kernel)) rfl
theorem mw_329 : Cond.instanceMethod yX6_wall ∈ lw_g := gw (List.mem_of_getElem? (i := 329) (by decide +kernel)) rfl
theorem mw_330 : Cond.selects "PillarRuns" yX6_wall yX6_wall ∈ lw_g := gw (List.mem_of_getElem? (i := 330) (by decide +kernel)) rfl
theorem mw_331 : Cond.code yX6_wall prog_1_method_6_code 6 (some .int) ∈ lw_g := gw (List.mem_of_getElem? (i := 331) (by decide +kernel)) rfl
theorem mw_332 : Cond.methodLink "PillarRunsLaw" 35 yX6_mends ∈ lw_g := gw (List.mem_of_getElem? (i := 332) (by decide +kernel)) rfl
theorem mw_333 : Cond.instanceMethod yX6_mends ∈ lw_g := gw (List.mem_of_getElem? (i := 333) (by decide +kernel)) rfl
theorem mw_334 : Cond.selects "PillarRuns" yX6_mends yX6_mends ∈ lw_g := gw (List.mem_of_getElem? (i := 334) (by decide +kernel)) rfl
theorem mw_335 : Cond.code yX6_mends prog_1_method_7_code 3 (some .int) ∈ lw_g := gw (List.mem_of_getElem? (i := 335) (by decide +kernel)) rfl
theorem mw_336 : Cond.methodLink "PillarRuns" 110 yX2_forget ∈ lw_g := gw (List.mem_of_getElem? (i := 336) (by decide +kernel)) rfl
theorem mw_337 : Cond.methodLink "PillarRuns" 113 yX1_countStanding ∈ lw_g := gw (List.mem_of_getElem? (i := 337) (by decide +kernel)) rfl
theorem mw_338 : Cond.instanceMethod yX1_countStanding ∈ lw_g := gw (List.mem_of_getElem? (i := 338) (by decide +kernel)) rfl
theorem mw_339 : Cond.selects "PillarRuns$Mine" yX1_countStanding yX1_countStanding ∈ lw_g := gw (List.mem_of_getElem? (i := 339) (by decide +kernel)) rfl
theorem mw_340 : Cond.code yX1_countStanding prog_3_method_8_code 3 (some .int) ∈ lw_g := gw (List.mem_of_getElem? (i := 340) (by decide +kernel)) rfl
theorem mw_341 : Cond.methodLink "PillarRunsLaw" 40 yX6_anew ∈ lw_g := gw (List.mem_of_getElem? (i := 341) (by decide +kernel)) rfl
theorem mw_342 : Cond.instanceMethod yX6_anew ∈ lw_g := gw (List.mem_of_getElem? (i := 342) (by decide +kernel)) rfl
theorem mw_343 : Cond.selects "PillarRuns" yX6_anew yX6_anew ∈ lw_g := gw (List.mem_of_getElem? (i := 343) (by decide +kernel)) rfl
theorem mw_344 : Cond.code yX6_anew prog_1_method_8_code 2 (some .int) ∈ lw_g := gw (List.mem_of_getElem? (i := 344) (by decide +kernel)) rfl
theorem mw_345 : Cond.methodLink "PillarRuns" 120 yX1_reset ∈ lw_g := gw (List.mem_of_getElem? (i := 345) (by decide +kernel)) rfl
theorem mw_346 : Cond.methodLink "PillarRunsLaw" 44 yX6_of ∈ lw_g := gw (List.mem_of_getElem? (i := 346) (by decide +kernel)) rfl
theorem mw_347 : Cond.instanceMethod yX6_of ∈ lw_g := gw (List.mem_of_getElem? (i := 347) (by decide +kernel)) rfl
theorem mw_348 : Cond.selects "PillarRuns" yX6_of yX6_of ∈ lw_g := gw (List.mem_of_getElem? (i := 348) (by decide +kernel)) rfl
theorem mw_349 : Cond.code yX6_of prog_1_method_9_code 3 (some .int) ∈ lw_g := gw (List.mem_of_getElem? (i := 349) (by decide +kernel)) rfl
theorem mw_350 : Cond.methodLink "PillarRuns" 123 yX0_lay ∈ lw_g := gw (List.mem_of_getElem? (i := 350) (by decide +kernel)) rfl
theorem mw_351 : Cond.instanceMethod yX0_lay ∈ lw_g := gw (List.mem_of_getElem? (i := 351) (by decide +kernel)) rfl
theorem mw_352 : Cond.selects "PillarRuns$Bearing" yX0_lay yX0_lay ∈ lw_g := gw (List.mem_of_getElem? (i := 352) (by decide +kernel)) rfl
theorem mw_353 : Cond.code yX0_lay prog_2_method_2_code 3 none ∈ lw_g := gw (List.mem_of_getElem? (i := 353) (by decide +kernel)) rfl
theorem mw_354 : Cond.methodLink "PillarRuns$Bearing" 24 yJ7_fill_53178 ∈ lw_g := gw (List.mem_of_getElem? (i := 354) (by decide +kernel)) rfl
theorem mw_355 : Cond.methodLink "PillarRuns$Bearing" 39 yX0_claim ∈ lw_g := gw (List.mem_of_getElem? (i := 355) (by decide +kernel)) rfl
theorem mw_357 : Cond.instanceMethod yX0_claim ∈ lw_g := gw (List.mem_of_getElem? (i := 357) (by decide +kernel)) rfl
theorem mw_358 : Cond.code yX0_claim prog_2_method_3_code 13 none ∈ lw_g := gw (List.mem_of_getElem? (i := 358) (by decide +kernel)) rfl
theorem mw_359 : Cond.methodLink "PillarRuns$Bearing" 50 yX1_lastOf ∈ lw_g := gw (List.mem_of_getElem? (i := 359) (by decide +kernel)) rfl
theorem mw_360 : Cond.instanceMethod yX1_lastOf ∈ lw_g := gw (List.mem_of_getElem? (i := 360) (by decide +kernel)) rfl
theorem mw_361 : Cond.selects "PillarRuns$Mine" yX1_lastOf yX1_lastOf ∈ lw_g := gw (List.mem_of_getElem? (i := 361) (by decide +kernel)) rfl
theorem mw_362 : Cond.code yX1_lastOf prog_3_method_14_code 5 (some .int) ∈ lw_g := gw (List.mem_of_getElem? (i := 362) (by decide +kernel)) rfl
theorem mw_363 : Cond.methodLink "PillarRuns$Bearing" 54 yX1_firstOf ∈ lw_g := gw (List.mem_of_getElem? (i := 363) (by decide +kernel)) rfl
theorem mw_364 : Cond.instanceMethod yX1_firstOf ∈ lw_g := gw (List.mem_of_getElem? (i := 364) (by decide +kernel)) rfl
theorem mw_365 : Cond.selects "PillarRuns$Mine" yX1_firstOf yX1_firstOf ∈ lw_g := gw (List.mem_of_getElem? (i := 365) (by decide +kernel)) rfl
theorem mw_366 : Cond.code yX1_firstOf prog_3_method_13_code 4 (some .int) ∈ lw_g := gw (List.mem_of_getElem? (i := 366) (by decide +kernel)) rfl
theorem mw_367 : Cond.methodLink "PillarRuns$Bearing" 58 yJ9_abs_0f7a4 ∈ lw_g := gw (List.mem_of_getElem? (i := 367) (by decide +kernel)) rfl
theorem mw_368 : Cond.static yJ9_abs_0f7a4 ∈ lw_g := gw (List.mem_of_getElem? (i := 368) (by decide +kernel)) rfl
theorem mw_369 : Cond.code yJ9_abs_0f7a4 prog_10_method_59_code 1 (some .int) ∈ lw_g := gw (List.mem_of_getElem? (i := 369) (by decide +kernel)) rfl
theorem mw_370 : Cond.methodLink "PillarRuns$Bearing" 43 yX0_weigh ∈ lw_g := gw (List.mem_of_getElem? (i := 370) (by decide +kernel)) rfl
theorem mw_372 : Cond.instanceMethod yX0_weigh ∈ lw_g := gw (List.mem_of_getElem? (i := 372) (by decide +kernel)) rfl
theorem mw_373 : Cond.code yX0_weigh prog_2_method_4_code 4 none ∈ lw_g := gw (List.mem_of_getElem? (i := 373) (by decide +kernel)) rfl
theorem mw_374 : Cond.methodLink "PillarRuns" 126 yX6_tellPillar ∈ lw_g := gw (List.mem_of_getElem? (i := 374) (by decide +kernel)) rfl
theorem mw_376 : Cond.instanceMethod yX6_tellPillar ∈ lw_g := gw (List.mem_of_getElem? (i := 376) (by decide +kernel)) rfl
theorem mw_377 : Cond.code yX6_tellPillar prog_1_method_31_code 3 (some .int) ∈ lw_g := gw (List.mem_of_getElem? (i := 377) (by decide +kernel)) rfl
theorem mw_378 : Cond.methodLink "PillarRuns" 136 yX1_isStanding ∈ lw_g := gw (List.mem_of_getElem? (i := 378) (by decide +kernel)) rfl
theorem mw_379 : Cond.instanceMethod yX1_isStanding ∈ lw_g := gw (List.mem_of_getElem? (i := 379) (by decide +kernel)) rfl
theorem mw_380 : Cond.selects "PillarRuns$Mine" yX1_isStanding yX1_isStanding ∈ lw_g := gw (List.mem_of_getElem? (i := 380) (by decide +kernel)) rfl
theorem mw_381 : Cond.code yX1_isStanding prog_3_method_6_code 2 (some .boolean) ∈ lw_g := gw (List.mem_of_getElem? (i := 381) (by decide +kernel)) rfl
theorem mw_382 : Cond.methodLink "PillarRuns$Mine" 46 yX1_hasPillar ∈ lw_g := gw (List.mem_of_getElem? (i := 382) (by decide +kernel)) rfl
theorem mw_383 : Cond.methodLink "PillarRunsLaw" 48 yX6_rests ∈ lw_g := gw (List.mem_of_getElem? (i := 383) (by decide +kernel)) rfl
theorem mw_384 : Cond.instanceMethod yX6_rests ∈ lw_g := gw (List.mem_of_getElem? (i := 384) (by decide +kernel)) rfl
theorem mw_385 : Cond.selects "PillarRuns" yX6_rests yX6_rests ∈ lw_g := gw (List.mem_of_getElem? (i := 385) (by decide +kernel)) rfl
theorem mw_386 : Cond.code yX6_rests prog_1_method_10_code 2 (some .int) ∈ lw_g := gw (List.mem_of_getElem? (i := 386) (by decide +kernel)) rfl
theorem mw_387 : Cond.methodLink "PillarRunsLaw" 53 yX6_all ∈ lw_g := gw (List.mem_of_getElem? (i := 387) (by decide +kernel)) rfl
theorem mw_388 : Cond.instanceMethod yX6_all ∈ lw_g := gw (List.mem_of_getElem? (i := 388) (by decide +kernel)) rfl
theorem mw_389 : Cond.selects "PillarRuns" yX6_all yX6_all ∈ lw_g := gw (List.mem_of_getElem? (i := 389) (by decide +kernel)) rfl
theorem mw_390 : Cond.code yX6_all prog_1_method_11_code 2 (some .int) ∈ lw_g := gw (List.mem_of_getElem? (i := 390) (by decide +kernel)) rfl
theorem mw_391 : Cond.methodLink "PillarRuns" 133 yX6_tellMine ∈ lw_g := gw (List.mem_of_getElem? (i := 391) (by decide +kernel)) rfl
theorem mw_393 : Cond.instanceMethod yX6_tellMine ∈ lw_g := gw (List.mem_of_getElem? (i := 393) (by decide +kernel)) rfl
theorem mw_394 : Cond.code yX6_tellMine prog_1_method_30_code 2 (some .int) ∈ lw_g := gw (List.mem_of_getElem? (i := 394) (by decide +kernel)) rfl
theorem mw_395 : Cond.methodLink "PillarRuns" 220 yX0_countTooMuch ∈ lw_g := gw (List.mem_of_getElem? (i := 395) (by decide +kernel)) rfl
theorem mw_396 : Cond.instanceMethod yX0_countTooMuch ∈ lw_g := gw (List.mem_of_getElem? (i := 396) (by decide +kernel)) rfl
theorem mw_397 : Cond.selects "PillarRuns$Bearing" yX0_countTooMuch yX0_countTooMuch ∈ lw_g := gw (List.mem_of_getElem? (i := 397) (by decide +kernel)) rfl
theorem mw_398 : Cond.code yX0_countTooMuch prog_2_method_6_code 4 (some .int) ∈ lw_g := gw (List.mem_of_getElem? (i := 398) (by decide +kernel)) rfl
theorem mw_399 : Cond.methodLink "PillarRuns$Bearing" 70 yX0_isTooMuch ∈ lw_g := gw (List.mem_of_getElem? (i := 399) (by decide +kernel)) rfl
theorem mw_400 : Cond.instanceMethod yX0_isTooMuch ∈ lw_g := gw (List.mem_of_getElem? (i := 400) (by decide +kernel)) rfl
theorem mw_401 : Cond.selects "PillarRuns$Bearing" yX0_isTooMuch yX0_isTooMuch ∈ lw_g := gw (List.mem_of_getElem? (i := 401) (by decide +kernel)) rfl
theorem mw_402 : Cond.code yX0_isTooMuch prog_2_method_5_code 3 (some .boolean) ∈ lw_g := gw (List.mem_of_getElem? (i := 402) (by decide +kernel)) rfl
theorem mw_403 : Cond.methodLink "PillarRuns" 161 yX0_countFallen ∈ lw_g := gw (List.mem_of_getElem? (i := 403) (by decide +kernel)) rfl
theorem mw_404 : Cond.instanceMethod yX0_countFallen ∈ lw_g := gw (List.mem_of_getElem? (i := 404) (by decide +kernel)) rfl
theorem mw_405 : Cond.selects "PillarRuns$Bearing" yX0_countFallen yX0_countFallen ∈ lw_g := gw (List.mem_of_getElem? (i := 405) (by decide +kernel)) rfl
theorem mw_406 : Cond.code yX0_countFallen prog_2_method_7_code 3 (some .int) ∈ lw_g := gw (List.mem_of_getElem? (i := 406) (by decide +kernel)) rfl
theorem mw_407 : Cond.methodLink "PillarRuns" 224 yX0_weighFallen ∈ lw_g := gw (List.mem_of_getElem? (i := 407) (by decide +kernel)) rfl
theorem mw_408 : Cond.instanceMethod yX0_weighFallen ∈ lw_g := gw (List.mem_of_getElem? (i := 408) (by decide +kernel)) rfl
theorem mw_409 : Cond.selects "PillarRuns$Bearing" yX0_weighFallen yX0_weighFallen ∈ lw_g := gw (List.mem_of_getElem? (i := 409) (by decide +kernel)) rfl
theorem mw_410 : Cond.code yX0_weighFallen prog_2_method_8_code 4 (some .int) ∈ lw_g := gw (List.mem_of_getElem? (i := 410) (by decide +kernel)) rfl
theorem mw_411 : Cond.methodLink "PillarRuns" 227 yX1_countRooms ∈ lw_g := gw (List.mem_of_getElem? (i := 411) (by decide +kernel)) rfl
theorem mw_412 : Cond.instanceMethod yX1_countRooms ∈ lw_g := gw (List.mem_of_getElem? (i := 412) (by decide +kernel)) rfl
theorem mw_413 : Cond.selects "PillarRuns$Mine" yX1_countRooms yX1_countRooms ∈ lw_g := gw (List.mem_of_getElem? (i := 413) (by decide +kernel)) rfl
theorem mw_414 : Cond.code yX1_countRooms prog_3_method_10_code 3 (some .int) ∈ lw_g := gw (List.mem_of_getElem? (i := 414) (by decide +kernel)) rfl
theorem mw_415 : Cond.methodLink "PillarRuns$Mine" 56 yX1_startsRoom ∈ lw_g := gw (List.mem_of_getElem? (i := 415) (by decide +kernel)) rfl
theorem mw_416 : Cond.instanceMethod yX1_startsRoom ∈ lw_g := gw (List.mem_of_getElem? (i := 416) (by decide +kernel)) rfl
theorem mw_417 : Cond.selects "PillarRuns$Mine" yX1_startsRoom yX1_startsRoom ∈ lw_g := gw (List.mem_of_getElem? (i := 417) (by decide +kernel)) rfl
theorem mw_418 : Cond.code yX1_startsRoom prog_3_method_9_code 2 (some .boolean) ∈ lw_g := gw (List.mem_of_getElem? (i := 418) (by decide +kernel)) rfl
theorem mw_419 : Cond.methodLink "PillarRuns$Mine" 50 yX1_isOpenBelow ∈ lw_g := gw (List.mem_of_getElem? (i := 419) (by decide +kernel)) rfl
theorem mw_420 : Cond.instanceMethod yX1_isOpenBelow ∈ lw_g := gw (List.mem_of_getElem? (i := 420) (by decide +kernel)) rfl
theorem mw_421 : Cond.selects "PillarRuns$Mine" yX1_isOpenBelow yX1_isOpenBelow ∈ lw_g := gw (List.mem_of_getElem? (i := 421) (by decide +kernel)) rfl
theorem mw_422 : Cond.code yX1_isOpenBelow prog_3_method_11_code 2 (some .boolean) ∈ lw_g := gw (List.mem_of_getElem? (i := 422) (by decide +kernel)) rfl
theorem mw_423 : Cond.methodLink "PillarRuns$Mine" 53 yX1_isOpenRight ∈ lw_g := gw (List.mem_of_getElem? (i := 423) (by decide +kernel)) rfl
theorem mw_424 : Cond.instanceMethod yX1_isOpenRight ∈ lw_g := gw (List.mem_of_getElem? (i := 424) (by decide +kernel)) rfl
theorem mw_425 : Cond.selects "PillarRuns$Mine" yX1_isOpenRight yX1_isOpenRight ∈ lw_g := gw (List.mem_of_getElem? (i := 425) (by decide +kernel)) rfl
theorem mw_426 : Cond.code yX1_isOpenRight prog_3_method_12_code 2 (some .boolean) ∈ lw_g := gw (List.mem_of_getElem? (i := 426) (by decide +kernel)) rfl
theorem mw_427 : Cond.methodLink "PillarRuns" 230 yX0_countHeldRooms ∈ lw_g := gw (List.mem_of_getElem? (i := 427) (by decide +kernel)) rfl
theorem mw_428 : Cond.instanceMethod yX0_countHeldRooms ∈ lw_g := gw (List.mem_of_getElem? (i := 428) (by decide +kernel)) rfl
theorem mw_429 : Cond.selects "PillarRuns$Bearing" yX0_countHeldRooms yX0_countHeldRooms ∈ lw_g := gw (List.mem_of_getElem? (i := 429) (by decide +kernel)) rfl
theorem mw_430 : Cond.code yX0_countHeldRooms prog_2_method_9_code 4 (some .int) ∈ lw_g := gw (List.mem_of_getElem? (i := 430) (by decide +kernel)) rfl
theorem mw_431 : Cond.methodLink "PillarRuns$Bearing" 74 yX1_startsRoom ∈ lw_g := gw (List.mem_of_getElem? (i := 431) (by decide +kernel)) rfl
theorem mw_432 : Cond.methodLink "PillarRunsLaw" 57 yX6_beside ∈ lw_g := gw (List.mem_of_getElem? (i := 432) (by decide +kernel)) rfl
theorem mw_433 : Cond.instanceMethod yX6_beside ∈ lw_g := gw (List.mem_of_getElem? (i := 433) (by decide +kernel)) rfl
theorem mw_434 : Cond.selects "PillarRuns" yX6_beside yX6_beside ∈ lw_g := gw (List.mem_of_getElem? (i := 434) (by decide +kernel)) rfl
theorem mw_435 : Cond.code yX6_beside prog_1_method_12_code 3 (some .int) ∈ lw_g := gw (List.mem_of_getElem? (i := 435) (by decide +kernel)) rfl
theorem mw_436 : Cond.methodLink "PillarRuns" 139 yX0_meet ∈ lw_g := gw (List.mem_of_getElem? (i := 436) (by decide +kernel)) rfl
theorem mw_437 : Cond.instanceMethod yX0_meet ∈ lw_g := gw (List.mem_of_getElem? (i := 437) (by decide +kernel)) rfl
theorem mw_438 : Cond.selects "PillarRuns$Bearing" yX0_meet yX0_meet ∈ lw_g := gw (List.mem_of_getElem? (i := 438) (by decide +kernel)) rfl
theorem mw_439 : Cond.code yX0_meet prog_2_method_10_code 7 (some .boolean) ∈ lw_g := gw (List.mem_of_getElem? (i := 439) (by decide +kernel)) rfl
theorem mw_440 : Cond.methodLink "PillarRuns$Bearing" 78 yX1_isOpenRight ∈ lw_g := gw (List.mem_of_getElem? (i := 440) (by decide +kernel)) rfl
theorem mw_441 : Cond.methodLink "PillarRuns$Bearing" 81 yX0_arePair ∈ lw_g := gw (List.mem_of_getElem? (i := 441) (by decide +kernel)) rfl
theorem mw_443 : Cond.instanceMethod yX0_arePair ∈ lw_g := gw (List.mem_of_getElem? (i := 443) (by decide +kernel)) rfl
theorem mw_444 : Cond.code yX0_arePair prog_2_method_11_code 5 (some .boolean) ∈ lw_g := gw (List.mem_of_getElem? (i := 444) (by decide +kernel)) rfl
theorem mw_445 : Cond.methodLink "PillarRuns$Bearing" 85 yX1_isOpenBelow ∈ lw_g := gw (List.mem_of_getElem? (i := 445) (by decide +kernel)) rfl
theorem mw_446 : Cond.methodLink "PillarRunsLaw" 61 yX6_runs ∈ lw_g := gw (List.mem_of_getElem? (i := 446) (by decide +kernel)) rfl
theorem mw_447 : Cond.instanceMethod yX6_runs ∈ lw_g := gw (List.mem_of_getElem? (i := 447) (by decide +kernel)) rfl
theorem mw_448 : Cond.selects "PillarRuns" yX6_runs yX6_runs ∈ lw_g := gw (List.mem_of_getElem? (i := 448) (by decide +kernel)) rfl
theorem mw_449 : Cond.code yX6_runs prog_1_method_13_code 1 (some .int) ∈ lw_g := gw (List.mem_of_getElem? (i := 449) (by decide +kernel)) rfl
theorem mw_450 : Cond.methodLink "PillarRuns" 143 yX2_crush ∈ lw_g := gw (List.mem_of_getElem? (i := 450) (by decide +kernel)) rfl
theorem mw_451 : Cond.instanceMethod yX2_crush ∈ lw_g := gw (List.mem_of_getElem? (i := 451) (by decide +kernel)) rfl
theorem mw_452 : Cond.selects "PillarRuns$Run" yX2_crush yX2_crush ∈ lw_g := gw (List.mem_of_getElem? (i := 452) (by decide +kernel)) rfl
theorem mw_453 : Cond.code yX2_crush prog_4_method_4_code 6 (some .int) ∈ lw_g := gw (List.mem_of_getElem? (i := 453) (by decide +kernel)) rfl
theorem mw_454 : Cond.methodLink "PillarRuns$Run" 34 yX0_lay ∈ lw_g := gw (List.mem_of_getElem? (i := 454) (by decide +kernel)) rfl
theorem mw_455 : Cond.methodLink "PillarRuns$Run" 40 yX2_crushWave ∈ lw_g := gw (List.mem_of_getElem? (i := 455) (by decide +kernel)) rfl
theorem mw_457 : Cond.instanceMethod yX2_crushWave ∈ lw_g := gw (List.mem_of_getElem? (i := 457) (by decide +kernel)) rfl
theorem mw_458 : Cond.code yX2_crushWave prog_4_method_5_code 6 (some .int) ∈ lw_g := gw (List.mem_of_getElem? (i := 458) (by decide +kernel)) rfl
theorem mw_459 : Cond.methodLink "PillarRuns$Run" 49 yX0_isTooMuch ∈ lw_g := gw (List.mem_of_getElem? (i := 459) (by decide +kernel)) rfl
theorem mw_460 : Cond.methodLink "PillarRunsLaw" 65 yX6_loses ∈ lw_g := gw (List.mem_of_getElem? (i := 460) (by decide +kernel)) rfl
theorem mw_461 : Cond.instanceMethod yX6_loses ∈ lw_g := gw (List.mem_of_getElem? (i := 461) (by decide +kernel)) rfl
theorem mw_462 : Cond.selects "PillarRuns" yX6_loses yX6_loses ∈ lw_g := gw (List.mem_of_getElem? (i := 462) (by decide +kernel)) rfl
theorem mw_463 : Cond.code yX6_loses prog_1_method_14_code 2 (some .int) ∈ lw_g := gw (List.mem_of_getElem? (i := 463) (by decide +kernel)) rfl
theorem mw_464 : Cond.methodLink "PillarRunsLaw" 69 yX6_wave ∈ lw_g := gw (List.mem_of_getElem? (i := 464) (by decide +kernel)) rfl
theorem mw_465 : Cond.instanceMethod yX6_wave ∈ lw_g := gw (List.mem_of_getElem? (i := 465) (by decide +kernel)) rfl
theorem mw_466 : Cond.selects "PillarRuns" yX6_wave yX6_wave ∈ lw_g := gw (List.mem_of_getElem? (i := 466) (by decide +kernel)) rfl
theorem mw_467 : Cond.code yX6_wave prog_1_method_15_code 3 (some .int) ∈ lw_g := gw (List.mem_of_getElem? (i := 467) (by decide +kernel)) rfl
theorem mw_468 : Cond.methodLink "PillarRuns" 153 yX2_countInWave ∈ lw_g := gw (List.mem_of_getElem? (i := 468) (by decide +kernel)) rfl
theorem mw_469 : Cond.instanceMethod yX2_countInWave ∈ lw_g := gw (List.mem_of_getElem? (i := 469) (by decide +kernel)) rfl
theorem mw_470 : Cond.selects "PillarRuns$Run" yX2_countInWave yX2_countInWave ∈ lw_g := gw (List.mem_of_getElem? (i := 470) (by decide +kernel)) rfl
theorem mw_471 : Cond.code yX2_countInWave prog_4_method_6_code 4 (some .int) ∈ lw_g := gw (List.mem_of_getElem? (i := 471) (by decide +kernel)) rfl
theorem mw_472 : Cond.methodLink "PillarRunsLaw" 73 yX6_would ∈ lw_g := gw (List.mem_of_getElem? (i := 472) (by decide +kernel)) rfl
theorem mw_473 : Cond.instanceMethod yX6_would ∈ lw_g := gw (List.mem_of_getElem? (i := 473) (by decide +kernel)) rfl
theorem mw_474 : Cond.selects "PillarRuns" yX6_would yX6_would ∈ lw_g := gw (List.mem_of_getElem? (i := 474) (by decide +kernel)) rfl
theorem mw_475 : Cond.code yX6_would prog_1_method_16_code 4 (some .int) ∈ lw_g := gw (List.mem_of_getElem? (i := 475) (by decide +kernel)) rfl
theorem mw_476 : Cond.methodLink "PillarRuns" 156 yX5_lose ∈ lw_g := gw (List.mem_of_getElem? (i := 476) (by decide +kernel)) rfl
theorem mw_477 : Cond.instanceMethod yX5_lose ∈ lw_g := gw (List.mem_of_getElem? (i := 477) (by decide +kernel)) rfl
theorem mw_478 : Cond.selects "PillarRuns$Trial" yX5_lose yX5_lose ∈ lw_g := gw (List.mem_of_getElem? (i := 478) (by decide +kernel)) rfl
theorem mw_479 : Cond.code yX5_lose prog_7_method_4_code 3 (some .int) ∈ lw_g := gw (List.mem_of_getElem? (i := 479) (by decide +kernel)) rfl
theorem mw_480 : Cond.methodLink "PillarRuns$Trial" 38 yX5_start ∈ lw_g := gw (List.mem_of_getElem? (i := 480) (by decide +kernel)) rfl
theorem mw_481 : Cond.instanceMethod yX5_start ∈ lw_g := gw (List.mem_of_getElem? (i := 481) (by decide +kernel)) rfl
theorem mw_482 : Cond.selects "PillarRuns$Trial" yX5_start yX5_start ∈ lw_g := gw (List.mem_of_getElem? (i := 482) (by decide +kernel)) rfl
theorem mw_483 : Cond.code yX5_start prog_7_method_2_code 2 none ∈ lw_g := gw (List.mem_of_getElem? (i := 483) (by decide +kernel)) rfl
theorem mw_484 : Cond.methodLink "PillarRuns$Trial" 30 yX1_copy ∈ lw_g := gw (List.mem_of_getElem? (i := 484) (by decide +kernel)) rfl
theorem mw_485 : Cond.methodLink "PillarRuns$Trial" 45 yX5_crush ∈ lw_g := gw (List.mem_of_getElem? (i := 485) (by decide +kernel)) rfl
theorem mw_486 : Cond.instanceMethod yX5_crush ∈ lw_g := gw (List.mem_of_getElem? (i := 486) (by decide +kernel)) rfl
theorem mw_487 : Cond.selects "PillarRuns$Trial" yX5_crush yX5_crush ∈ lw_g := gw (List.mem_of_getElem? (i := 487) (by decide +kernel)) rfl
theorem mw_488 : Cond.code yX5_crush prog_7_method_3_code 1 (some .int) ∈ lw_g := gw (List.mem_of_getElem? (i := 488) (by decide +kernel)) rfl
theorem mw_489 : Cond.methodLink "PillarRuns$Trial" 34 yX2_crush ∈ lw_g := gw (List.mem_of_getElem? (i := 489) (by decide +kernel)) rfl
theorem mw_490 : Cond.methodLink "PillarRunsLaw" 77 yX6_worst ∈ lw_g := gw (List.mem_of_getElem? (i := 490) (by decide +kernel)) rfl
theorem mw_491 : Cond.instanceMethod yX6_worst ∈ lw_g := gw (List.mem_of_getElem? (i := 491) (by decide +kernel)) rfl
theorem mw_492 : Cond.selects "PillarRuns" yX6_worst yX6_worst ∈ lw_g := gw (List.mem_of_getElem? (i := 492) (by decide +kernel)) rfl
theorem mw_493 : Cond.code yX6_worst prog_1_method_17_code 6 (some .int) ∈ lw_g := gw (List.mem_of_getElem? (i := 493) (by decide +kernel)) rfl
theorem mw_494 : Cond.methodLink "PillarRunsLaw" 81 yX6_cut ∈ lw_g := gw (List.mem_of_getElem? (i := 494) (by decide +kernel)) rfl
theorem mw_495 : Cond.instanceMethod yX6_cut ∈ lw_g := gw (List.mem_of_getElem? (i := 495) (by decide +kernel)) rfl
theorem mw_496 : Cond.selects "PillarRuns" yX6_cut yX6_cut ∈ lw_g := gw (List.mem_of_getElem? (i := 496) (by decide +kernel)) rfl
theorem mw_497 : Cond.code yX6_cut prog_1_method_18_code 2 (some .int) ∈ lw_g := gw (List.mem_of_getElem? (i := 497) (by decide +kernel)) rfl
theorem mw_498 : Cond.methodLink "PillarRuns" 164 yX5_start ∈ lw_g := gw (List.mem_of_getElem? (i := 498) (by decide +kernel)) rfl
theorem mw_499 : Cond.methodLink "PillarRuns" 167 yX5_crush ∈ lw_g := gw (List.mem_of_getElem? (i := 499) (by decide +kernel)) rfl
theorem mw_500 : Cond.methodLink "PillarRunsLaw" 85 yX6_mending ∈ lw_g := gw (List.mem_of_getElem? (i := 500) (by decide +kernel)) rfl
theorem mw_501 : Cond.instanceMethod yX6_mending ∈ lw_g := gw (List.mem_of_getElem? (i := 501) (by decide +kernel)) rfl
theorem mw_502 : Cond.selects "PillarRuns" yX6_mending yX6_mending ∈ lw_g := gw (List.mem_of_getElem? (i := 502) (by decide +kernel)) rfl
theorem mw_503 : Cond.code yX6_mending prog_1_method_19_code 3 (some .int) ∈ lw_g := gw (List.mem_of_getElem? (i := 503) (by decide +kernel)) rfl
theorem mw_504 : Cond.methodLink "PillarRuns" 173 yJ9_max_7cf53 ∈ lw_g := gw (List.mem_of_getElem? (i := 504) (by decide +kernel)) rfl
theorem mw_505 : Cond.static yJ9_max_7cf53 ∈ lw_g := gw (List.mem_of_getElem? (i := 505) (by decide +kernel)) rfl
theorem mw_506 : Cond.code yJ9_max_7cf53 prog_10_method_65_code 2 (some .int) ∈ lw_g := gw (List.mem_of_getElem? (i := 506) (by decide +kernel)) rfl
theorem mw_507 : Cond.methodLink "PillarRunsLaw" 89 yX6_bestWall ∈ lw_g := gw (List.mem_of_getElem? (i := 507) (by decide +kernel)) rfl
theorem mw_508 : Cond.instanceMethod yX6_bestWall ∈ lw_g := gw (List.mem_of_getElem? (i := 508) (by decide +kernel)) rfl
theorem mw_509 : Cond.selects "PillarRuns" yX6_bestWall yX6_bestWall ∈ lw_g := gw (List.mem_of_getElem? (i := 509) (by decide +kernel)) rfl
theorem mw_510 : Cond.code yX6_bestWall prog_1_method_20_code 6 (some .int) ∈ lw_g := gw (List.mem_of_getElem? (i := 510) (by decide +kernel)) rfl
theorem mw_511 : Cond.methodLink "PillarRuns" 178 yX6_isWall ∈ lw_g := gw (List.mem_of_getElem? (i := 511) (by decide +kernel)) rfl
theorem mw_512 : Cond.static yX6_isWall ∈ lw_g := gw (List.mem_of_getElem? (i := 512) (by decide +kernel)) rfl
theorem mw_513 : Cond.code yX6_isWall prog_1_method_35_code 1 (some .boolean) ∈ lw_g := gw (List.mem_of_getElem? (i := 513) (by decide +kernel)) rfl
theorem mw_514 : Cond.methodLink "PillarRuns" 181 yX5_build ∈ lw_g := gw (List.mem_of_getElem? (i := 514) (by decide +kernel)) rfl
theorem mw_515 : Cond.instanceMethod yX5_build ∈ lw_g := gw (List.mem_of_getElem? (i := 515) (by decide +kernel)) rfl
theorem mw_516 : Cond.selects "PillarRuns$Trial" yX5_build yX5_build ∈ lw_g := gw (List.mem_of_getElem? (i := 516) (by decide +kernel)) rfl
theorem mw_517 : Cond.code yX5_build prog_7_method_5_code 3 (some .int) ∈ lw_g := gw (List.mem_of_getElem? (i := 517) (by decide +kernel)) rfl
theorem mw_518 : Cond.methodLink "PillarRuns$Trial" 51 yX1_countStanding ∈ lw_g := gw (List.mem_of_getElem? (i := 518) (by decide +kernel)) rfl
theorem mw_519 : Cond.methodLink "PillarRunsLaw" 93 yX6_bestCell ∈ lw_g := gw (List.mem_of_getElem? (i := 519) (by decide +kernel)) rfl
theorem mw_520 : Cond.instanceMethod yX6_bestCell ∈ lw_g := gw (List.mem_of_getElem? (i := 520) (by decide +kernel)) rfl
theorem mw_521 : Cond.selects "PillarRuns" yX6_bestCell yX6_bestCell ∈ lw_g := gw (List.mem_of_getElem? (i := 521) (by decide +kernel)) rfl
theorem mw_522 : Cond.code yX6_bestCell prog_1_method_21_code 7 (some .int) ∈ lw_g := gw (List.mem_of_getElem? (i := 522) (by decide +kernel)) rfl
theorem mw_523 : Cond.methodLink "PillarRuns" 184 yX5_support ∈ lw_g := gw (List.mem_of_getElem? (i := 523) (by decide +kernel)) rfl
theorem mw_524 : Cond.instanceMethod yX5_support ∈ lw_g := gw (List.mem_of_getElem? (i := 524) (by decide +kernel)) rfl
theorem mw_525 : Cond.selects "PillarRuns$Trial" yX5_support yX5_support ∈ lw_g := gw (List.mem_of_getElem? (i := 525) (by decide +kernel)) rfl
theorem mw_526 : Cond.code yX5_support prog_7_method_6_code 4 (some .int) ∈ lw_g := gw (List.mem_of_getElem? (i := 526) (by decide +kernel)) rfl
theorem mw_527 : Cond.methodLink "PillarRuns$Trial" 54 yX1_add ∈ lw_g := gw (List.mem_of_getElem? (i := 527) (by decide +kernel)) rfl
theorem mw_528 : Cond.methodLink "PillarRunsLaw" 97 yX6_type ∈ lw_g := gw (List.mem_of_getElem? (i := 528) (by decide +kernel)) rfl
theorem mw_529 : Cond.instanceMethod yX6_type ∈ lw_g := gw (List.mem_of_getElem? (i := 529) (by decide +kernel)) rfl
theorem mw_530 : Cond.selects "PillarRuns" yX6_type yX6_type ∈ lw_g := gw (List.mem_of_getElem? (i := 530) (by decide +kernel)) rfl
theorem mw_531 : Cond.code yX6_type prog_1_method_22_code 2 (some .int) ∈ lw_g := gw (List.mem_of_getElem? (i := 531) (by decide +kernel)) rfl
theorem mw_532 : Cond.methodLink "PillarRuns" 191 yX4_add ∈ lw_g := gw (List.mem_of_getElem? (i := 532) (by decide +kernel)) rfl
theorem mw_533 : Cond.instanceMethod yX4_add ∈ lw_g := gw (List.mem_of_getElem? (i := 533) (by decide +kernel)) rfl
theorem mw_534 : Cond.selects "PillarRuns$Text" yX4_add yX4_add ∈ lw_g := gw (List.mem_of_getElem? (i := 534) (by decide +kernel)) rfl
theorem mw_535 : Cond.code yX4_add prog_6_method_2_code 2 none ∈ lw_g := gw (List.mem_of_getElem? (i := 535) (by decide +kernel)) rfl
theorem mw_536 : Cond.methodLink "PillarRunsLaw" 101 yX6_clear ∈ lw_g := gw (List.mem_of_getElem? (i := 536) (by decide +kernel)) rfl
theorem mw_537 : Cond.instanceMethod yX6_clear ∈ lw_g := gw (List.mem_of_getElem? (i := 537) (by decide +kernel)) rfl
theorem mw_538 : Cond.selects "PillarRuns" yX6_clear yX6_clear ∈ lw_g := gw (List.mem_of_getElem? (i := 538) (by decide +kernel)) rfl
theorem mw_539 : Cond.code yX6_clear prog_1_method_23_code 2 (some .int) ∈ lw_g := gw (List.mem_of_getElem? (i := 539) (by decide +kernel)) rfl
theorem mw_540 : Cond.methodLink "PillarRunsLaw" 105 yX6_does ∈ lw_g := gw (List.mem_of_getElem? (i := 540) (by decide +kernel)) rfl
theorem mw_541 : Cond.instanceMethod yX6_does ∈ lw_g := gw (List.mem_of_getElem? (i := 541) (by decide +kernel)) rfl
theorem mw_542 : Cond.selects "PillarRuns" yX6_does yX6_does ∈ lw_g := gw (List.mem_of_getElem? (i := 542) (by decide +kernel)) rfl
theorem mw_543 : Cond.code yX6_does prog_1_method_24_code 2 (some .int) ∈ lw_g := gw (List.mem_of_getElem? (i := 543) (by decide +kernel)) rfl
theorem mw_544 : Cond.methodLink "PillarRuns" 197 yX2_copy ∈ lw_g := gw (List.mem_of_getElem? (i := 544) (by decide +kernel)) rfl
theorem mw_545 : Cond.instanceMethod yX2_copy ∈ lw_g := gw (List.mem_of_getElem? (i := 545) (by decide +kernel)) rfl
theorem mw_546 : Cond.selects "PillarRuns$Run" yX2_copy yX2_copy ∈ lw_g := gw (List.mem_of_getElem? (i := 546) (by decide +kernel)) rfl
theorem mw_547 : Cond.code yX2_copy prog_4_method_3_code 2 none ∈ lw_g := gw (List.mem_of_getElem? (i := 547) (by decide +kernel)) rfl
theorem mw_548 : Cond.methodLink "PillarRuns$Run" 28 ⟨"java/lang/System","arraycopy","(Ljava/lang/Object;ILjava/lang/Object;II)V"⟩ ∈ lw_g := gw (List.mem_of_getElem? (i := 548) (by decide +kernel)) rfl
theorem mw_549 : Cond.methodLink "PillarRuns" 201 yX4_read ∈ lw_g := gw (List.mem_of_getElem? (i := 549) (by decide +kernel)) rfl
theorem mw_550 : Cond.instanceMethod yX4_read ∈ lw_g := gw (List.mem_of_getElem? (i := 550) (by decide +kernel)) rfl
theorem mw_551 : Cond.selects "PillarRuns$Text" yX4_read yX4_read ∈ lw_g := gw (List.mem_of_getElem? (i := 551) (by decide +kernel)) rfl
theorem mw_552 : Cond.code yX4_read prog_6_method_3_code 3 (some .int) ∈ lw_g := gw (List.mem_of_getElem? (i := 552) (by decide +kernel)) rfl
theorem mw_553 : Cond.methodLink "PillarRuns$Text" 25 yX4_skipBlanks ∈ lw_g := gw (List.mem_of_getElem? (i := 553) (by decide +kernel)) rfl
theorem mw_555 : Cond.instanceMethod yX4_skipBlanks ∈ lw_g := gw (List.mem_of_getElem? (i := 555) (by decide +kernel)) rfl
theorem mw_556 : Cond.code yX4_skipBlanks prog_6_method_12_code 1 none ∈ lw_g := gw (List.mem_of_getElem? (i := 556) (by decide +kernel)) rfl
theorem mw_557 : Cond.methodLink "PillarRuns$Text" 28 yX4_fail ∈ lw_g := gw (List.mem_of_getElem? (i := 557) (by decide +kernel)) rfl
theorem mw_559 : Cond.instanceMethod yX4_fail ∈ lw_g := gw (List.mem_of_getElem? (i := 559) (by decide +kernel)) rfl
theorem mw_560 : Cond.code yX4_fail prog_6_method_13_code 2 none ∈ lw_g := gw (List.mem_of_getElem? (i := 560) (by decide +kernel)) rfl
theorem mw_561 : Cond.methodLink "PillarRuns$Text" 32 yX4_readOrder ∈ lw_g := gw (List.mem_of_getElem? (i := 561) (by decide +kernel)) rfl
theorem mw_563 : Cond.instanceMethod yX4_readOrder ∈ lw_g := gw (List.mem_of_getElem? (i := 563) (by decide +kernel)) rfl
theorem mw_564 : Cond.code yX4_readOrder prog_6_method_4_code 3 none ∈ lw_g := gw (List.mem_of_getElem? (i := 564) (by decide +kernel)) rfl
theorem mw_565 : Cond.methodLink "PillarRuns$Text" 42 yX4_readPillar ∈ lw_g := gw (List.mem_of_getElem? (i := 565) (by decide +kernel)) rfl
theorem mw_567 : Cond.instanceMethod yX4_readPillar ∈ lw_g := gw (List.mem_of_getElem? (i := 567) (by decide +kernel)) rfl
theorem mw_568 : Cond.code yX4_readPillar prog_6_method_5_code 5 none ∈ lw_g := gw (List.mem_of_getElem? (i := 568) (by decide +kernel)) rfl
theorem mw_569 : Cond.methodLink "PillarRuns$Text" 69 yX4_readCell ∈ lw_g := gw (List.mem_of_getElem? (i := 569) (by decide +kernel)) rfl
theorem mw_571 : Cond.instanceMethod yX4_readCell ∈ lw_g := gw (List.mem_of_getElem? (i := 571) (by decide +kernel)) rfl
theorem mw_572 : Cond.code yX4_readCell prog_6_method_9_code 3 (some .int) ∈ lw_g := gw (List.mem_of_getElem? (i := 572) (by decide +kernel)) rfl
theorem mw_573 : Cond.methodLink "PillarRuns$Text" 72 yX4_readNumber ∈ lw_g := gw (List.mem_of_getElem? (i := 573) (by decide +kernel)) rfl
theorem mw_575 : Cond.instanceMethod yX4_readNumber ∈ lw_g := gw (List.mem_of_getElem? (i := 575) (by decide +kernel)) rfl
theorem mw_576 : Cond.code yX4_readNumber prog_6_method_10_code 4 (some .int) ∈ lw_g := gw (List.mem_of_getElem? (i := 576) (by decide +kernel)) rfl
theorem mw_577 : Cond.methodLink "PillarRuns$Text" 99 yX4_isFigure ∈ lw_g := gw (List.mem_of_getElem? (i := 577) (by decide +kernel)) rfl
theorem mw_578 : Cond.static yX4_isFigure ∈ lw_g := gw (List.mem_of_getElem? (i := 578) (by decide +kernel)) rfl
theorem mw_579 : Cond.code yX4_isFigure prog_6_method_14_code 1 (some .boolean) ∈ lw_g := gw (List.mem_of_getElem? (i := 579) (by decide +kernel)) rfl
theorem mw_580 : Cond.methodLink "PillarRuns$Text" 57 yX4_readEnd ∈ lw_g := gw (List.mem_of_getElem? (i := 580) (by decide +kernel)) rfl
theorem mw_582 : Cond.instanceMethod yX4_readEnd ∈ lw_g := gw (List.mem_of_getElem? (i := 582) (by decide +kernel)) rfl
theorem mw_583 : Cond.code yX4_readEnd prog_6_method_11_code 1 none ∈ lw_g := gw (List.mem_of_getElem? (i := 583) (by decide +kernel)) rfl
theorem mw_584 : Cond.methodLink "PillarRuns$Text" 76 yX1_hasPillarOn ∈ lw_g := gw (List.mem_of_getElem? (i := 584) (by decide +kernel)) rfl
theorem mw_585 : Cond.methodLink "PillarRuns$Text" 80 yX1_add ∈ lw_g := gw (List.mem_of_getElem? (i := 585) (by decide +kernel)) rfl
theorem mw_586 : Cond.methodLink "PillarRuns$Text" 46 yX4_readWeight ∈ lw_g := gw (List.mem_of_getElem? (i := 586) (by decide +kernel)) rfl
theorem mw_588 : Cond.instanceMethod yX4_readWeight ∈ lw_g := gw (List.mem_of_getElem? (i := 588) (by decide +kernel)) rfl
theorem mw_589 : Cond.code yX4_readWeight prog_6_method_6_code 4 none ∈ lw_g := gw (List.mem_of_getElem? (i := 589) (by decide +kernel)) rfl
theorem mw_590 : Cond.methodLink "PillarRuns$Text" 50 yX4_readWall ∈ lw_g := gw (List.mem_of_getElem? (i := 590) (by decide +kernel)) rfl
theorem mw_592 : Cond.instanceMethod yX4_readWall ∈ lw_g := gw (List.mem_of_getElem? (i := 592) (by decide +kernel)) rfl
theorem mw_593 : Cond.code yX4_readWall prog_6_method_7_code 5 none ∈ lw_g := gw (List.mem_of_getElem? (i := 593) (by decide +kernel)) rfl
theorem mw_594 : Cond.methodLink "PillarRuns$Text" 54 yX4_readCrushed ∈ lw_g := gw (List.mem_of_getElem? (i := 594) (by decide +kernel)) rfl
theorem mw_596 : Cond.instanceMethod yX4_readCrushed ∈ lw_g := gw (List.mem_of_getElem? (i := 596) (by decide +kernel)) rfl
theorem mw_597 : Cond.code yX4_readCrushed prog_6_method_8_code 3 none ∈ lw_g := gw (List.mem_of_getElem? (i := 597) (by decide +kernel)) rfl
theorem mw_598 : Cond.methodLink "PillarRuns$Text" 90 yX1_isStanding ∈ lw_g := gw (List.mem_of_getElem? (i := 598) (by decide +kernel)) rfl
theorem mw_599 : Cond.methodLink "PillarRuns$Text" 60 yX5_crush ∈ lw_g := gw (List.mem_of_getElem? (i := 599) (by decide +kernel)) rfl
theorem mw_600 : Cond.methodLink "PillarRuns" 205 yX1_copy ∈ lw_g := gw (List.mem_of_getElem? (i := 600) (by decide +kernel)) rfl
theorem mw_601 : Cond.methodLink "PillarRunsLaw" 109 yX6_back ∈ lw_g := gw (List.mem_of_getElem? (i := 601) (by decide +kernel)) rfl
theorem mw_602 : Cond.instanceMethod yX6_back ∈ lw_g := gw (List.mem_of_getElem? (i := 602) (by decide +kernel)) rfl
theorem mw_603 : Cond.selects "PillarRuns" yX6_back yX6_back ∈ lw_g := gw (List.mem_of_getElem? (i := 603) (by decide +kernel)) rfl
theorem mw_604 : Cond.code yX6_back prog_1_method_25_code 1 (some .int) ∈ lw_g := gw (List.mem_of_getElem? (i := 604) (by decide +kernel)) rfl
theorem mw_605 : Cond.methodLink "PillarRuns" 210 yX3_giveBack ∈ lw_g := gw (List.mem_of_getElem? (i := 605) (by decide +kernel)) rfl
theorem mw_606 : Cond.instanceMethod yX3_giveBack ∈ lw_g := gw (List.mem_of_getElem? (i := 606) (by decide +kernel)) rfl
theorem mw_607 : Cond.selects "PillarRuns$States" yX3_giveBack yX3_giveBack ∈ lw_g := gw (List.mem_of_getElem? (i := 607) (by decide +kernel)) rfl
theorem mw_608 : Cond.code yX3_giveBack prog_5_method_3_code 2 none ∈ lw_g := gw (List.mem_of_getElem? (i := 608) (by decide +kernel)) rfl
theorem mw_609 : Cond.methodLink "PillarRunsLaw" 113 yX6_told ∈ lw_g := gw (List.mem_of_getElem? (i := 609) (by decide +kernel)) rfl
theorem mw_610 : Cond.instanceMethod yX6_told ∈ lw_g := gw (List.mem_of_getElem? (i := 610) (by decide +kernel)) rfl
theorem mw_611 : Cond.selects "PillarRuns" yX6_told yX6_told ∈ lw_g := gw (List.mem_of_getElem? (i := 611) (by decide +kernel)) rfl
theorem mw_612 : Cond.code yX6_told prog_1_method_26_code 2 (some .int) ∈ lw_g := gw (List.mem_of_getElem? (i := 612) (by decide +kernel)) rfl
theorem mw_613 : Cond.methodLink "PillarRuns" 213 yX6_tellCount ∈ lw_g := gw (List.mem_of_getElem? (i := 613) (by decide +kernel)) rfl
theorem mw_615 : Cond.instanceMethod yX6_tellCount ∈ lw_g := gw (List.mem_of_getElem? (i := 615) (by decide +kernel)) rfl
theorem mw_616 : Cond.code yX6_tellCount prog_1_method_29_code 2 (some .int) ∈ lw_g := gw (List.mem_of_getElem? (i := 616) (by decide +kernel)) rfl
theorem mw_617 : Cond.methodLink "PillarRunsLaw" 117 yX6_digest ∈ lw_g := gw (List.mem_of_getElem? (i := 617) (by decide +kernel)) rfl
theorem mw_618 : Cond.instanceMethod yX6_digest ∈ lw_g := gw (List.mem_of_getElem? (i := 618) (by decide +kernel)) rfl
theorem mw_619 : Cond.selects "PillarRuns" yX6_digest yX6_digest ∈ lw_g := gw (List.mem_of_getElem? (i := 619) (by decide +kernel)) rfl
theorem mw_620 : Cond.code yX6_digest prog_1_method_27_code 5 (some .long) ∈ lw_g := gw (List.mem_of_getElem? (i := 620) (by decide +kernel)) rfl
theorem mw_621 : Cond.constantLong "PillarRuns" 216 (2153 : Int64) ∈ lw_g := gw (List.mem_of_getElem? (i := 621) (by decide +kernel)) rfl
theorem mw_622 : Cond.constantLong "PillarRuns" 218 (31 : Int64) ∈ lw_g := gw (List.mem_of_getElem? (i := 622) (by decide +kernel)) rfl
theorem mw_623 : Cond.classLink "PillarRunsLaw" 10 "PillarRunsModel" ∈ lw_g := gw (List.mem_of_getElem? (i := 623) (by decide +kernel)) rfl
theorem mw_624 : Cond.instantiable "PillarRunsModel" 23 ∈ lw_g := gw (List.mem_of_getElem? (i := 624) (by decide +kernel)) rfl
theorem mw_625 : Cond.methodLink "PillarRunsLaw" 12 yX7_init ∈ lw_g := gw (List.mem_of_getElem? (i := 625) (by decide +kernel)) rfl
theorem mw_626 : Cond.instanceMethod yX7_init ∈ lw_g := gw (List.mem_of_getElem? (i := 626) (by decide +kernel)) rfl
theorem mw_627 : Cond.code yX7_init prog_9_method_1_code 1 none ∈ lw_g := gw (List.mem_of_getElem? (i := 627) (by decide +kernel)) rfl
theorem mw_628 : Cond.methodLink "PillarRunsModel" 1 Lib.objectInit ∈ lw_g := gw (List.mem_of_getElem? (i := 628) (by decide +kernel)) rfl
theorem mw_629 : Cond.fieldLink "PillarRunsModel" 7 "PillarRunsModel" "refused" "[I" ∈ lw_g := gw (List.mem_of_getElem? (i := 629) (by decide +kernel)) rfl
theorem mw_630 : Cond.fieldLink "PillarRunsModel" 13 "PillarRunsModel" "weight" "[I" ∈ lw_g := gw (List.mem_of_getElem? (i := 630) (by decide +kernel)) rfl
theorem mw_631 : Cond.fieldLink "PillarRunsModel" 49 "PillarRunsModel" "many" "I" ∈ lw_g := gw (List.mem_of_getElem? (i := 631) (by decide +kernel)) rfl
theorem mw_632 : Cond.fieldLink "PillarRunsModel" 16 "PillarRunsModel" "cell" "[I" ∈ lw_g := gw (List.mem_of_getElem? (i := 632) (by decide +kernel)) rfl
theorem mw_633 : Cond.fieldLink "PillarRunsModel" 19 "PillarRunsModel" "strong" "[I" ∈ lw_g := gw (List.mem_of_getElem? (i := 633) (by decide +kernel)) rfl
theorem mw_634 : Cond.fieldLink "PillarRunsModel" 53 "PillarRunsModel" "up" "I" ∈ lw_g := gw (List.mem_of_getElem? (i := 634) (by decide +kernel)) rfl
theorem mw_635 : Cond.fieldLink "PillarRunsModel" 56 "PillarRunsModel" "walls" "I" ∈ lw_g := gw (List.mem_of_getElem? (i := 635) (by decide +kernel)) rfl
theorem mw_636 : Cond.fieldLink "PillarRunsModel" 59 "PillarRunsModel" "states" "I" ∈ lw_g := gw (List.mem_of_getElem? (i := 636) (by decide +kernel)) rfl
theorem mw_637 : Cond.fieldLink "PillarRunsModel" 22 "PillarRunsModel" "kept" "[I" ∈ lw_g := gw (List.mem_of_getElem? (i := 637) (by decide +kernel)) rfl
theorem mw_638 : Cond.fieldLink "PillarRunsModel" 25 "PillarRunsModel" "rowRoom" "[I" ∈ lw_g := gw (List.mem_of_getElem? (i := 638) (by decide +kernel)) rfl
theorem mw_639 : Cond.fieldLink "PillarRunsModel" 28 "PillarRunsModel" "columnRoom" "[I" ∈ lw_g := gw (List.mem_of_getElem? (i := 639) (by decide +kernel)) rfl
theorem mw_640 : Cond.fieldLink "PillarRunsModel" 31 "PillarRunsModel" "load" "[I" ∈ lw_g := gw (List.mem_of_getElem? (i := 640) (by decide +kernel)) rfl
theorem mw_641 : Cond.fieldLink "PillarRunsModel" 34 "PillarRunsModel" "rests" "[I" ∈ lw_g := gw (List.mem_of_getElem? (i := 641) (by decide +kernel)) rfl
theorem mw_642 : Cond.fieldLink "PillarRunsModel" 139 "PillarRunsModel" "waves" "I" ∈ lw_g := gw (List.mem_of_getElem? (i := 642) (by decide +kernel)) rfl
theorem mw_643 : Cond.fieldLink "PillarRunsModel" 37 "PillarRunsModel" "wave" "[I" ∈ lw_g := gw (List.mem_of_getElem? (i := 643) (by decide +kernel)) rfl
theorem mw_644 : Cond.fieldLink "PillarRunsModel" 40 "PillarRunsModel" "text" "[I" ∈ lw_g := gw (List.mem_of_getElem? (i := 644) (by decide +kernel)) rfl
theorem mw_645 : Cond.fieldLink "PillarRunsModel" 185 "PillarRunsModel" "size" "I" ∈ lw_g := gw (List.mem_of_getElem? (i := 645) (by decide +kernel)) rfl
theorem mw_646 : Cond.fieldLink "PillarRunsModel" 188 "PillarRunsModel" "readAt" "I" ∈ lw_g := gw (List.mem_of_getElem? (i := 646) (by decide +kernel)) rfl
theorem mw_647 : Cond.fieldLink "PillarRunsModel" 194 "PillarRunsModel" "readValue" "I" ∈ lw_g := gw (List.mem_of_getElem? (i := 647) (by decide +kernel)) rfl
theorem mw_648 : Cond.fieldLink "PillarRunsModel" 200 "PillarRunsModel" "readCell" "I" ∈ lw_g := gw (List.mem_of_getElem? (i := 648) (by decide +kernel)) rfl
theorem mw_649 : Cond.fieldLink "PillarRunsModel" 225 "PillarRunsModel" "nowWaves" "I" ∈ lw_g := gw (List.mem_of_getElem? (i := 649) (by decide +kernel)) rfl
theorem mw_650 : Cond.fieldLink "PillarRunsModel" 43 "PillarRunsModel" "nowWave" "[I" ∈ lw_g := gw (List.mem_of_getElem? (i := 650) (by decide +kernel)) rfl
theorem mw_651 : Cond.fieldLink "PillarRunsModel" 46 "PillarRunsModel" "ahead" "[I" ∈ lw_g := gw (List.mem_of_getElem? (i := 651) (by decide +kernel)) rfl
theorem mw_699 : Cond.methodLink "PillarRunsLaw" 112 yX7_back ∈ lw_g := gw (List.mem_of_getElem? (i := 699) (by decide +kernel)) rfl
theorem mw_700 : Cond.instanceMethod yX7_back ∈ lw_g := gw (List.mem_of_getElem? (i := 700) (by decide +kernel)) rfl
theorem mw_701 : Cond.selects "PillarRunsModel" yX7_back yX7_back ∈ lw_g := gw (List.mem_of_getElem? (i := 701) (by decide +kernel)) rfl
theorem mw_702 : Cond.code yX7_back prog_9_method_10_code 1 (some .int) ∈ lw_g := gw (List.mem_of_getElem? (i := 702) (by decide +kernel)) rfl
theorem mw_703 : Cond.methodLink "PillarRunsModel" 66 yX7_no ∈ lw_g := gw (List.mem_of_getElem? (i := 703) (by decide +kernel)) rfl
theorem mw_705 : Cond.instanceMethod yX7_no ∈ lw_g := gw (List.mem_of_getElem? (i := 705) (by decide +kernel)) rfl
theorem mw_706 : Cond.code yX7_no prog_9_method_3_code 1 (some .int) ∈ lw_g := gw (List.mem_of_getElem? (i := 706) (by decide +kernel)) rfl
theorem mw_707 : Cond.methodLink "PillarRunsModel" 70 yX7_comesBack ∈ lw_g := gw (List.mem_of_getElem? (i := 707) (by decide +kernel)) rfl
theorem mw_709 : Cond.instanceMethod yX7_comesBack ∈ lw_g := gw (List.mem_of_getElem? (i := 709) (by decide +kernel)) rfl
theorem mw_710 : Cond.code yX7_comesBack prog_9_method_9_code 3 none ∈ lw_g := gw (List.mem_of_getElem? (i := 710) (by decide +kernel)) rfl
theorem mw_711 : Cond.methodLink "PillarRunsModel" 73 yX7_noWaves ∈ lw_g := gw (List.mem_of_getElem? (i := 711) (by decide +kernel)) rfl
theorem mw_713 : Cond.instanceMethod yX7_noWaves ∈ lw_g := gw (List.mem_of_getElem? (i := 713) (by decide +kernel)) rfl
theorem mw_714 : Cond.code yX7_noWaves prog_9_method_31_code 1 none ∈ lw_g := gw (List.mem_of_getElem? (i := 714) (by decide +kernel)) rfl
theorem mw_715 : Cond.methodLink "PillarRunsLaw" 17 yX7_pillar ∈ lw_g := gw (List.mem_of_getElem? (i := 715) (by decide +kernel)) rfl
theorem mw_716 : Cond.instanceMethod yX7_pillar ∈ lw_g := gw (List.mem_of_getElem? (i := 716) (by decide +kernel)) rfl
theorem mw_717 : Cond.selects "PillarRunsModel" yX7_pillar yX7_pillar ∈ lw_g := gw (List.mem_of_getElem? (i := 717) (by decide +kernel)) rfl
theorem mw_718 : Cond.code yX7_pillar prog_9_method_16_code 3 (some .int) ∈ lw_g := gw (List.mem_of_getElem? (i := 718) (by decide +kernel)) rfl
theorem mw_719 : Cond.methodLink "PillarRunsModel" 80 yX7_isCell ∈ lw_g := gw (List.mem_of_getElem? (i := 719) (by decide +kernel)) rfl
theorem mw_720 : Cond.static yX7_isCell ∈ lw_g := gw (List.mem_of_getElem? (i := 720) (by decide +kernel)) rfl
theorem mw_721 : Cond.code yX7_isCell prog_9_method_11_code 1 (some .boolean) ∈ lw_g := gw (List.mem_of_getElem? (i := 721) (by decide +kernel)) rfl
theorem mw_722 : Cond.methodLink "PillarRunsModel" 76 yX7_in ∈ lw_g := gw (List.mem_of_getElem? (i := 722) (by decide +kernel)) rfl
theorem mw_723 : Cond.static yX7_in ∈ lw_g := gw (List.mem_of_getElem? (i := 723) (by decide +kernel)) rfl
theorem mw_724 : Cond.code yX7_in prog_9_method_5_code 3 (some .boolean) ∈ lw_g := gw (List.mem_of_getElem? (i := 724) (by decide +kernel)) rfl
theorem mw_725 : Cond.methodLink "PillarRunsModel" 84 yX7_bad ∈ lw_g := gw (List.mem_of_getElem? (i := 725) (by decide +kernel)) rfl
theorem mw_727 : Cond.instanceMethod yX7_bad ∈ lw_g := gw (List.mem_of_getElem? (i := 727) (by decide +kernel)) rfl
theorem mw_728 : Cond.code yX7_bad prog_9_method_2_code 1 (some .int) ∈ lw_g := gw (List.mem_of_getElem? (i := 728) (by decide +kernel)) rfl
theorem mw_729 : Cond.methodLink "PillarRunsModel" 87 yX7_pillarAt ∈ lw_g := gw (List.mem_of_getElem? (i := 729) (by decide +kernel)) rfl
theorem mw_731 : Cond.instanceMethod yX7_pillarAt ∈ lw_g := gw (List.mem_of_getElem? (i := 731) (by decide +kernel)) rfl
theorem mw_732 : Cond.code yX7_pillarAt prog_9_method_14_code 3 (some .int) ∈ lw_g := gw (List.mem_of_getElem? (i := 732) (by decide +kernel)) rfl
theorem mw_733 : Cond.methodLink "PillarRunsModel" 91 yX7_full ∈ lw_g := gw (List.mem_of_getElem? (i := 733) (by decide +kernel)) rfl
theorem mw_735 : Cond.instanceMethod yX7_full ∈ lw_g := gw (List.mem_of_getElem? (i := 735) (by decide +kernel)) rfl
theorem mw_736 : Cond.code yX7_full prog_9_method_4_code 1 (some .int) ∈ lw_g := gw (List.mem_of_getElem? (i := 736) (by decide +kernel)) rfl
theorem mw_737 : Cond.methodLink "PillarRunsModel" 94 yX7_leavesState ∈ lw_g := gw (List.mem_of_getElem? (i := 737) (by decide +kernel)) rfl
theorem mw_739 : Cond.instanceMethod yX7_leavesState ∈ lw_g := gw (List.mem_of_getElem? (i := 739) (by decide +kernel)) rfl
theorem mw_740 : Cond.code yX7_leavesState prog_9_method_8_code 2 none ∈ lw_g := gw (List.mem_of_getElem? (i := 740) (by decide +kernel)) rfl
theorem mw_741 : Cond.methodLink "PillarRunsModel" 62 yX7_writes ∈ lw_g := gw (List.mem_of_getElem? (i := 741) (by decide +kernel)) rfl
theorem mw_743 : Cond.instanceMethod yX7_writes ∈ lw_g := gw (List.mem_of_getElem? (i := 743) (by decide +kernel)) rfl
theorem mw_744 : Cond.code yX7_writes prog_9_method_7_code 3 none ∈ lw_g := gw (List.mem_of_getElem? (i := 744) (by decide +kernel)) rfl
theorem mw_745 : Cond.methodLink "PillarRunsModel" 97 yX7_comesPillar ∈ lw_g := gw (List.mem_of_getElem? (i := 745) (by decide +kernel)) rfl
theorem mw_747 : Cond.instanceMethod yX7_comesPillar ∈ lw_g := gw (List.mem_of_getElem? (i := 747) (by decide +kernel)) rfl
theorem mw_748 : Cond.code yX7_comesPillar prog_9_method_15_code 3 none ∈ lw_g := gw (List.mem_of_getElem? (i := 748) (by decide +kernel)) rfl
theorem mw_749 : Cond.methodLink "PillarRunsLaw" 21 yX7_weight ∈ lw_g := gw (List.mem_of_getElem? (i := 749) (by decide +kernel)) rfl
theorem mw_750 : Cond.instanceMethod yX7_weight ∈ lw_g := gw (List.mem_of_getElem? (i := 750) (by decide +kernel)) rfl
theorem mw_751 : Cond.selects "PillarRunsModel" yX7_weight yX7_weight ∈ lw_g := gw (List.mem_of_getElem? (i := 751) (by decide +kernel)) rfl
theorem mw_752 : Cond.code yX7_weight prog_9_method_17_code 4 (some .int) ∈ lw_g := gw (List.mem_of_getElem? (i := 752) (by decide +kernel)) rfl
theorem mw_753 : Cond.methodLink "PillarRunsLaw" 25 yX7_draw ∈ lw_g := gw (List.mem_of_getElem? (i := 753) (by decide +kernel)) rfl
theorem mw_754 : Cond.instanceMethod yX7_draw ∈ lw_g := gw (List.mem_of_getElem? (i := 754) (by decide +kernel)) rfl
theorem mw_755 : Cond.selects "PillarRunsModel" yX7_draw yX7_draw ∈ lw_g := gw (List.mem_of_getElem? (i := 755) (by decide +kernel)) rfl
theorem mw_756 : Cond.code yX7_draw prog_9_method_18_code 7 (some .int) ∈ lw_g := gw (List.mem_of_getElem? (i := 756) (by decide +kernel)) rfl
theorem mw_757 : Cond.constant "PillarRunsModel" 101 (999999 : Int32) ∈ lw_g := gw (List.mem_of_getElem? (i := 757) (by decide +kernel)) rfl
theorem mw_758 : Cond.constantLong "PillarRunsModel" 102 (1103515245 : Int64) ∈ lw_g := gw (List.mem_of_getElem? (i := 758) (by decide +kernel)) rfl
theorem mw_759 : Cond.constantLong "PillarRunsModel" 104 (12345 : Int64) ∈ lw_g := gw (List.mem_of_getElem? (i := 759) (by decide +kernel)) rfl
theorem mw_760 : Cond.constantLong "PillarRunsModel" 106 (2147483648 : Int64) ∈ lw_g := gw (List.mem_of_getElem? (i := 760) (by decide +kernel)) rfl
theorem mw_761 : Cond.constantLong "PillarRunsModel" 108 (65536 : Int64) ∈ lw_g := gw (List.mem_of_getElem? (i := 761) (by decide +kernel)) rfl
theorem mw_762 : Cond.methodLink "PillarRunsLaw" 29 yX7_strength ∈ lw_g := gw (List.mem_of_getElem? (i := 762) (by decide +kernel)) rfl
theorem mw_763 : Cond.instanceMethod yX7_strength ∈ lw_g := gw (List.mem_of_getElem? (i := 763) (by decide +kernel)) rfl
theorem mw_764 : Cond.selects "PillarRunsModel" yX7_strength yX7_strength ∈ lw_g := gw (List.mem_of_getElem? (i := 764) (by decide +kernel)) rfl
theorem mw_765 : Cond.code yX7_strength prog_9_method_19_code 4 (some .int) ∈ lw_g := gw (List.mem_of_getElem? (i := 765) (by decide +kernel)) rfl
theorem mw_766 : Cond.methodLink "PillarRunsModel" 110 yX7_isPillar ∈ lw_g := gw (List.mem_of_getElem? (i := 766) (by decide +kernel)) rfl
theorem mw_768 : Cond.instanceMethod yX7_isPillar ∈ lw_g := gw (List.mem_of_getElem? (i := 768) (by decide +kernel)) rfl
theorem mw_769 : Cond.code yX7_isPillar prog_9_method_12_code 2 (some .boolean) ∈ lw_g := gw (List.mem_of_getElem? (i := 769) (by decide +kernel)) rfl
theorem mw_770 : Cond.methodLink "PillarRunsLaw" 34 yX7_wall ∈ lw_g := gw (List.mem_of_getElem? (i := 770) (by decide +kernel)) rfl
theorem mw_771 : Cond.instanceMethod yX7_wall ∈ lw_g := gw (List.mem_of_getElem? (i := 771) (by decide +kernel)) rfl
theorem mw_772 : Cond.selects "PillarRunsModel" yX7_wall yX7_wall ∈ lw_g := gw (List.mem_of_getElem? (i := 772) (by decide +kernel)) rfl
theorem mw_773 : Cond.code yX7_wall prog_9_method_21_code 6 (some .int) ∈ lw_g := gw (List.mem_of_getElem? (i := 773) (by decide +kernel)) rfl
theorem mw_774 : Cond.methodLink "PillarRunsModel" 113 yX7_isWall ∈ lw_g := gw (List.mem_of_getElem? (i := 774) (by decide +kernel)) rfl
theorem mw_775 : Cond.static yX7_isWall ∈ lw_g := gw (List.mem_of_getElem? (i := 775) (by decide +kernel)) rfl
theorem mw_776 : Cond.code yX7_isWall prog_9_method_20_code 2 (some .boolean) ∈ lw_g := gw (List.mem_of_getElem? (i := 776) (by decide +kernel)) rfl
theorem mw_777 : Cond.methodLink "PillarRunsLaw" 39 yX7_mends ∈ lw_g := gw (List.mem_of_getElem? (i := 777) (by decide +kernel)) rfl
theorem mw_778 : Cond.instanceMethod yX7_mends ∈ lw_g := gw (List.mem_of_getElem? (i := 778) (by decide +kernel)) rfl
theorem mw_779 : Cond.selects "PillarRunsModel" yX7_mends yX7_mends ∈ lw_g := gw (List.mem_of_getElem? (i := 779) (by decide +kernel)) rfl
theorem mw_780 : Cond.code yX7_mends prog_9_method_22_code 2 (some .int) ∈ lw_g := gw (List.mem_of_getElem? (i := 780) (by decide +kernel)) rfl
theorem mw_781 : Cond.methodLink "PillarRunsModel" 117 yX7_ones ∈ lw_g := gw (List.mem_of_getElem? (i := 781) (by decide +kernel)) rfl
theorem mw_782 : Cond.static yX7_ones ∈ lw_g := gw (List.mem_of_getElem? (i := 782) (by decide +kernel)) rfl
theorem mw_783 : Cond.code yX7_ones prog_9_method_6_code 3 (some .int) ∈ lw_g := gw (List.mem_of_getElem? (i := 783) (by decide +kernel)) rfl
theorem mw_784 : Cond.methodLink "PillarRunsLaw" 43 yX7_anew ∈ lw_g := gw (List.mem_of_getElem? (i := 784) (by decide +kernel)) rfl
theorem mw_785 : Cond.instanceMethod yX7_anew ∈ lw_g := gw (List.mem_of_getElem? (i := 785) (by decide +kernel)) rfl
theorem mw_786 : Cond.selects "PillarRunsModel" yX7_anew yX7_anew ∈ lw_g := gw (List.mem_of_getElem? (i := 786) (by decide +kernel)) rfl
theorem mw_787 : Cond.code yX7_anew prog_9_method_23_code 3 (some .int) ∈ lw_g := gw (List.mem_of_getElem? (i := 787) (by decide +kernel)) rfl
theorem mw_788 : Cond.methodLink "PillarRunsLaw" 47 yX7_of ∈ lw_g := gw (List.mem_of_getElem? (i := 788) (by decide +kernel)) rfl
theorem mw_789 : Cond.instanceMethod yX7_of ∈ lw_g := gw (List.mem_of_getElem? (i := 789) (by decide +kernel)) rfl
theorem mw_790 : Cond.selects "PillarRunsModel" yX7_of yX7_of ∈ lw_g := gw (List.mem_of_getElem? (i := 790) (by decide +kernel)) rfl
theorem mw_791 : Cond.code yX7_of prog_9_method_36_code 3 (some .int) ∈ lw_g := gw (List.mem_of_getElem? (i := 791) (by decide +kernel)) rfl
theorem mw_792 : Cond.methodLink "PillarRunsModel" 148 yX7_ofBy ∈ lw_g := gw (List.mem_of_getElem? (i := 792) (by decide +kernel)) rfl
theorem mw_794 : Cond.instanceMethod yX7_ofBy ∈ lw_g := gw (List.mem_of_getElem? (i := 794) (by decide +kernel)) rfl
theorem mw_795 : Cond.code yX7_ofBy prog_9_method_35_code 3 (some .int) ∈ lw_g := gw (List.mem_of_getElem? (i := 795) (by decide +kernel)) rfl
theorem mw_796 : Cond.methodLink "PillarRunsModel" 136 yX7_bears ∈ lw_g := gw (List.mem_of_getElem? (i := 796) (by decide +kernel)) rfl
theorem mw_798 : Cond.instanceMethod yX7_bears ∈ lw_g := gw (List.mem_of_getElem? (i := 798) (by decide +kernel)) rfl
theorem mw_799 : Cond.code yX7_bears prog_9_method_29_code 5 none ∈ lw_g := gw (List.mem_of_getElem? (i := 799) (by decide +kernel)) rfl
theorem mw_800 : Cond.methodLink "PillarRunsModel" 130 yX7_setRooms ∈ lw_g := gw (List.mem_of_getElem? (i := 800) (by decide +kernel)) rfl
theorem mw_802 : Cond.instanceMethod yX7_setRooms ∈ lw_g := gw (List.mem_of_getElem? (i := 802) (by decide +kernel)) rfl
theorem mw_803 : Cond.code yX7_setRooms prog_9_method_26_code 2 none ∈ lw_g := gw (List.mem_of_getElem? (i := 803) (by decide +kernel)) rfl
theorem mw_804 : Cond.methodLink "PillarRunsModel" 120 yX7_wallsAhead ∈ lw_g := gw (List.mem_of_getElem? (i := 804) (by decide +kernel)) rfl
theorem mw_806 : Cond.instanceMethod yX7_wallsAhead ∈ lw_g := gw (List.mem_of_getElem? (i := 806) (by decide +kernel)) rfl
theorem mw_807 : Cond.code yX7_wallsAhead prog_9_method_25_code 5 (some .int) ∈ lw_g := gw (List.mem_of_getElem? (i := 807) (by decide +kernel)) rfl
theorem mw_808 : Cond.methodLink "PillarRunsModel" 133 yX7_bearer ∈ lw_g := gw (List.mem_of_getElem? (i := 808) (by decide +kernel)) rfl
theorem mw_810 : Cond.instanceMethod yX7_bearer ∈ lw_g := gw (List.mem_of_getElem? (i := 810) (by decide +kernel)) rfl
theorem mw_811 : Cond.code yX7_bearer prog_9_method_28_code 7 (some .int) ∈ lw_g := gw (List.mem_of_getElem? (i := 811) (by decide +kernel)) rfl
theorem mw_812 : Cond.methodLink "PillarRunsModel" 124 yX7_roomOf ∈ lw_g := gw (List.mem_of_getElem? (i := 812) (by decide +kernel)) rfl
theorem mw_814 : Cond.instanceMethod yX7_roomOf ∈ lw_g := gw (List.mem_of_getElem? (i := 814) (by decide +kernel)) rfl
theorem mw_815 : Cond.code yX7_roomOf prog_9_method_27_code 2 (some .int) ∈ lw_g := gw (List.mem_of_getElem? (i := 815) (by decide +kernel)) rfl
theorem mw_816 : Cond.methodLink "PillarRunsModel" 127 yX7_gap ∈ lw_g := gw (List.mem_of_getElem? (i := 816) (by decide +kernel)) rfl
theorem mw_817 : Cond.static yX7_gap ∈ lw_g := gw (List.mem_of_getElem? (i := 817) (by decide +kernel)) rfl
theorem mw_818 : Cond.code yX7_gap prog_9_method_24_code 2 (some .int) ∈ lw_g := gw (List.mem_of_getElem? (i := 818) (by decide +kernel)) rfl
theorem mw_819 : Cond.methodLink "PillarRunsModel" 145 yX7_stands ∈ lw_g := gw (List.mem_of_getElem? (i := 819) (by decide +kernel)) rfl
theorem mw_821 : Cond.instanceMethod yX7_stands ∈ lw_g := gw (List.mem_of_getElem? (i := 821) (by decide +kernel)) rfl
theorem mw_822 : Cond.code yX7_stands prog_9_method_13_code 2 (some .boolean) ∈ lw_g := gw (List.mem_of_getElem? (i := 822) (by decide +kernel)) rfl
theorem mw_823 : Cond.methodLink "PillarRunsLaw" 52 yX7_rests ∈ lw_g := gw (List.mem_of_getElem? (i := 823) (by decide +kernel)) rfl
theorem mw_824 : Cond.instanceMethod yX7_rests ∈ lw_g := gw (List.mem_of_getElem? (i := 824) (by decide +kernel)) rfl
theorem mw_825 : Cond.selects "PillarRunsModel" yX7_rests yX7_rests ∈ lw_g := gw (List.mem_of_getElem? (i := 825) (by decide +kernel)) rfl
theorem mw_826 : Cond.code yX7_rests prog_9_method_37_code 2 (some .int) ∈ lw_g := gw (List.mem_of_getElem? (i := 826) (by decide +kernel)) rfl
theorem mw_827 : Cond.methodLink "PillarRunsLaw" 56 yX7_all ∈ lw_g := gw (List.mem_of_getElem? (i := 827) (by decide +kernel)) rfl
theorem mw_828 : Cond.instanceMethod yX7_all ∈ lw_g := gw (List.mem_of_getElem? (i := 828) (by decide +kernel)) rfl
theorem mw_829 : Cond.selects "PillarRunsModel" yX7_all yX7_all ∈ lw_g := gw (List.mem_of_getElem? (i := 829) (by decide +kernel)) rfl
theorem mw_830 : Cond.code yX7_all prog_9_method_42_code 2 (some .int) ∈ lw_g := gw (List.mem_of_getElem? (i := 830) (by decide +kernel)) rfl
theorem mw_831 : Cond.methodLink "PillarRunsModel" 160 yX7_allBy ∈ lw_g := gw (List.mem_of_getElem? (i := 831) (by decide +kernel)) rfl
theorem mw_833 : Cond.instanceMethod yX7_allBy ∈ lw_g := gw (List.mem_of_getElem? (i := 833) (by decide +kernel)) rfl
theorem mw_834 : Cond.code yX7_allBy prog_9_method_41_code 2 (some .int) ∈ lw_g := gw (List.mem_of_getElem? (i := 834) (by decide +kernel)) rfl
theorem mw_835 : Cond.methodLink "PillarRunsModel" 142 yX7_tooMuch ∈ lw_g := gw (List.mem_of_getElem? (i := 835) (by decide +kernel)) rfl
theorem mw_837 : Cond.instanceMethod yX7_tooMuch ∈ lw_g := gw (List.mem_of_getElem? (i := 837) (by decide +kernel)) rfl
theorem mw_838 : Cond.code yX7_tooMuch prog_9_method_30_code 4 (some .int) ∈ lw_g := gw (List.mem_of_getElem? (i := 838) (by decide +kernel)) rfl
theorem mw_839 : Cond.methodLink "PillarRunsModel" 151 yX7_allWeight ∈ lw_g := gw (List.mem_of_getElem? (i := 839) (by decide +kernel)) rfl
theorem mw_841 : Cond.instanceMethod yX7_allWeight ∈ lw_g := gw (List.mem_of_getElem? (i := 841) (by decide +kernel)) rfl
theorem mw_842 : Cond.code yX7_allWeight prog_9_method_38_code 3 (some .int) ∈ lw_g := gw (List.mem_of_getElem? (i := 842) (by decide +kernel)) rfl
theorem mw_843 : Cond.methodLink "PillarRunsModel" 154 yX7_rooms ∈ lw_g := gw (List.mem_of_getElem? (i := 843) (by decide +kernel)) rfl
theorem mw_845 : Cond.instanceMethod yX7_rooms ∈ lw_g := gw (List.mem_of_getElem? (i := 845) (by decide +kernel)) rfl
theorem mw_846 : Cond.code yX7_rooms prog_9_method_39_code 1 (some .int) ∈ lw_g := gw (List.mem_of_getElem? (i := 846) (by decide +kernel)) rfl
theorem mw_847 : Cond.methodLink "PillarRunsModel" 157 yX7_heldRooms ∈ lw_g := gw (List.mem_of_getElem? (i := 847) (by decide +kernel)) rfl
theorem mw_849 : Cond.instanceMethod yX7_heldRooms ∈ lw_g := gw (List.mem_of_getElem? (i := 849) (by decide +kernel)) rfl
theorem mw_850 : Cond.code yX7_heldRooms prog_9_method_40_code 5 (some .int) ∈ lw_g := gw (List.mem_of_getElem? (i := 850) (by decide +kernel)) rfl
theorem mw_851 : Cond.methodLink "PillarRunsLaw" 60 yX7_beside ∈ lw_g := gw (List.mem_of_getElem? (i := 851) (by decide +kernel)) rfl
theorem mw_852 : Cond.instanceMethod yX7_beside ∈ lw_g := gw (List.mem_of_getElem? (i := 852) (by decide +kernel)) rfl
theorem mw_853 : Cond.selects "PillarRunsModel" yX7_beside yX7_beside ∈ lw_g := gw (List.mem_of_getElem? (i := 853) (by decide +kernel)) rfl
theorem mw_854 : Cond.code yX7_beside prog_9_method_44_code 5 (some .int) ∈ lw_g := gw (List.mem_of_getElem? (i := 854) (by decide +kernel)) rfl
theorem mw_855 : Cond.methodLink "PillarRunsModel" 163 yX7_isSide ∈ lw_g := gw (List.mem_of_getElem? (i := 855) (by decide +kernel)) rfl
theorem mw_857 : Cond.instanceMethod yX7_isSide ∈ lw_g := gw (List.mem_of_getElem? (i := 857) (by decide +kernel)) rfl
theorem mw_858 : Cond.code yX7_isSide prog_9_method_43_code 7 (some .boolean) ∈ lw_g := gw (List.mem_of_getElem? (i := 858) (by decide +kernel)) rfl
theorem mw_859 : Cond.methodLink "PillarRunsLaw" 64 yX7_runs ∈ lw_g := gw (List.mem_of_getElem? (i := 859) (by decide +kernel)) rfl
theorem mw_860 : Cond.instanceMethod yX7_runs ∈ lw_g := gw (List.mem_of_getElem? (i := 860) (by decide +kernel)) rfl
theorem mw_861 : Cond.selects "PillarRunsModel" yX7_runs yX7_runs ∈ lw_g := gw (List.mem_of_getElem? (i := 861) (by decide +kernel)) rfl
theorem mw_862 : Cond.code yX7_runs prog_9_method_45_code 2 (some .int) ∈ lw_g := gw (List.mem_of_getElem? (i := 862) (by decide +kernel)) rfl
theorem mw_863 : Cond.methodLink "PillarRunsModel" 167 yX7_goes ∈ lw_g := gw (List.mem_of_getElem? (i := 863) (by decide +kernel)) rfl
theorem mw_865 : Cond.instanceMethod yX7_goes ∈ lw_g := gw (List.mem_of_getElem? (i := 865) (by decide +kernel)) rfl
theorem mw_866 : Cond.code yX7_goes prog_9_method_33_code 2 none ∈ lw_g := gw (List.mem_of_getElem? (i := 866) (by decide +kernel)) rfl
theorem mw_867 : Cond.methodLink "PillarRunsLaw" 68 yX7_loses ∈ lw_g := gw (List.mem_of_getElem? (i := 867) (by decide +kernel)) rfl
theorem mw_868 : Cond.instanceMethod yX7_loses ∈ lw_g := gw (List.mem_of_getElem? (i := 868) (by decide +kernel)) rfl
theorem mw_869 : Cond.selects "PillarRunsModel" yX7_loses yX7_loses ∈ lw_g := gw (List.mem_of_getElem? (i := 869) (by decide +kernel)) rfl
theorem mw_870 : Cond.code yX7_loses prog_9_method_46_code 3 (some .int) ∈ lw_g := gw (List.mem_of_getElem? (i := 870) (by decide +kernel)) rfl
theorem mw_871 : Cond.methodLink "PillarRunsLaw" 72 yX7_wave ∈ lw_g := gw (List.mem_of_getElem? (i := 871) (by decide +kernel)) rfl
theorem mw_872 : Cond.instanceMethod yX7_wave ∈ lw_g := gw (List.mem_of_getElem? (i := 872) (by decide +kernel)) rfl
theorem mw_873 : Cond.selects "PillarRunsModel" yX7_wave yX7_wave ∈ lw_g := gw (List.mem_of_getElem? (i := 873) (by decide +kernel)) rfl
theorem mw_874 : Cond.code yX7_wave prog_9_method_48_code 3 (some .int) ∈ lw_g := gw (List.mem_of_getElem? (i := 874) (by decide +kernel)) rfl
theorem mw_875 : Cond.methodLink "PillarRunsModel" 170 yX7_waveOf ∈ lw_g := gw (List.mem_of_getElem? (i := 875) (by decide +kernel)) rfl
theorem mw_877 : Cond.instanceMethod yX7_waveOf ∈ lw_g := gw (List.mem_of_getElem? (i := 877) (by decide +kernel)) rfl
theorem mw_878 : Cond.code yX7_waveOf prog_9_method_47_code 3 (some .int) ∈ lw_g := gw (List.mem_of_getElem? (i := 878) (by decide +kernel)) rfl
theorem mw_879 : Cond.methodLink "PillarRunsLaw" 76 yX7_would ∈ lw_g := gw (List.mem_of_getElem? (i := 879) (by decide +kernel)) rfl
theorem mw_880 : Cond.instanceMethod yX7_would ∈ lw_g := gw (List.mem_of_getElem? (i := 880) (by decide +kernel)) rfl
theorem mw_881 : Cond.selects "PillarRunsModel" yX7_would yX7_would ∈ lw_g := gw (List.mem_of_getElem? (i := 881) (by decide +kernel)) rfl
theorem mw_882 : Cond.code yX7_would prog_9_method_50_code 4 (some .int) ∈ lw_g := gw (List.mem_of_getElem? (i := 882) (by decide +kernel)) rfl
theorem mw_883 : Cond.methodLink "PillarRunsModel" 176 yX7_lossOf ∈ lw_g := gw (List.mem_of_getElem? (i := 883) (by decide +kernel)) rfl
theorem mw_885 : Cond.instanceMethod yX7_lossOf ∈ lw_g := gw (List.mem_of_getElem? (i := 885) (by decide +kernel)) rfl
theorem mw_886 : Cond.code yX7_lossOf prog_9_method_49_code 2 (some .int) ∈ lw_g := gw (List.mem_of_getElem? (i := 886) (by decide +kernel)) rfl
theorem mw_887 : Cond.methodLink "PillarRunsModel" 173 yX7_left ∈ lw_g := gw (List.mem_of_getElem? (i := 887) (by decide +kernel)) rfl
theorem mw_889 : Cond.instanceMethod yX7_left ∈ lw_g := gw (List.mem_of_getElem? (i := 889) (by decide +kernel)) rfl
theorem mw_890 : Cond.code yX7_left prog_9_method_32_code 4 (some .int) ∈ lw_g := gw (List.mem_of_getElem? (i := 890) (by decide +kernel)) rfl
theorem mw_891 : Cond.methodLink "PillarRunsLaw" 80 yX7_worst ∈ lw_g := gw (List.mem_of_getElem? (i := 891) (by decide +kernel)) rfl
theorem mw_892 : Cond.instanceMethod yX7_worst ∈ lw_g := gw (List.mem_of_getElem? (i := 892) (by decide +kernel)) rfl
theorem mw_893 : Cond.selects "PillarRunsModel" yX7_worst yX7_worst ∈ lw_g := gw (List.mem_of_getElem? (i := 893) (by decide +kernel)) rfl
theorem mw_894 : Cond.code yX7_worst prog_9_method_51_code 6 (some .int) ∈ lw_g := gw (List.mem_of_getElem? (i := 894) (by decide +kernel)) rfl
theorem mw_895 : Cond.methodLink "PillarRunsLaw" 84 yX7_cut ∈ lw_g := gw (List.mem_of_getElem? (i := 895) (by decide +kernel)) rfl
theorem mw_896 : Cond.instanceMethod yX7_cut ∈ lw_g := gw (List.mem_of_getElem? (i := 896) (by decide +kernel)) rfl
theorem mw_897 : Cond.selects "PillarRunsModel" yX7_cut yX7_cut ∈ lw_g := gw (List.mem_of_getElem? (i := 897) (by decide +kernel)) rfl
theorem mw_898 : Cond.code yX7_cut prog_9_method_53_code 6 (some .int) ∈ lw_g := gw (List.mem_of_getElem? (i := 898) (by decide +kernel)) rfl
theorem mw_899 : Cond.methodLink "PillarRunsModel" 179 yX7_leftCut ∈ lw_g := gw (List.mem_of_getElem? (i := 899) (by decide +kernel)) rfl
theorem mw_901 : Cond.instanceMethod yX7_leftCut ∈ lw_g := gw (List.mem_of_getElem? (i := 901) (by decide +kernel)) rfl
theorem mw_902 : Cond.code yX7_leftCut prog_9_method_52_code 4 (some .int) ∈ lw_g := gw (List.mem_of_getElem? (i := 902) (by decide +kernel)) rfl
theorem mw_903 : Cond.methodLink "PillarRunsLaw" 88 yX7_mending ∈ lw_g := gw (List.mem_of_getElem? (i := 903) (by decide +kernel)) rfl
theorem mw_904 : Cond.instanceMethod yX7_mending ∈ lw_g := gw (List.mem_of_getElem? (i := 904) (by decide +kernel)) rfl
theorem mw_905 : Cond.selects "PillarRunsModel" yX7_mending yX7_mending ∈ lw_g := gw (List.mem_of_getElem? (i := 905) (by decide +kernel)) rfl
theorem mw_906 : Cond.code yX7_mending prog_9_method_54_code 4 (some .int) ∈ lw_g := gw (List.mem_of_getElem? (i := 906) (by decide +kernel)) rfl
theorem mw_907 : Cond.methodLink "PillarRunsLaw" 92 yX7_bestWall ∈ lw_g := gw (List.mem_of_getElem? (i := 907) (by decide +kernel)) rfl
theorem mw_908 : Cond.instanceMethod yX7_bestWall ∈ lw_g := gw (List.mem_of_getElem? (i := 908) (by decide +kernel)) rfl
theorem mw_909 : Cond.selects "PillarRunsModel" yX7_bestWall yX7_bestWall ∈ lw_g := gw (List.mem_of_getElem? (i := 909) (by decide +kernel)) rfl
theorem mw_910 : Cond.code yX7_bestWall prog_9_method_55_code 6 (some .int) ∈ lw_g := gw (List.mem_of_getElem? (i := 910) (by decide +kernel)) rfl
theorem mw_911 : Cond.methodLink "PillarRunsLaw" 96 yX7_bestCell ∈ lw_g := gw (List.mem_of_getElem? (i := 911) (by decide +kernel)) rfl
theorem mw_912 : Cond.instanceMethod yX7_bestCell ∈ lw_g := gw (List.mem_of_getElem? (i := 912) (by decide +kernel)) rfl
theorem mw_913 : Cond.selects "PillarRunsModel" yX7_bestCell yX7_bestCell ∈ lw_g := gw (List.mem_of_getElem? (i := 913) (by decide +kernel)) rfl
theorem mw_914 : Cond.code yX7_bestCell prog_9_method_56_code 7 (some .int) ∈ lw_g := gw (List.mem_of_getElem? (i := 914) (by decide +kernel)) rfl
theorem mw_915 : Cond.methodLink "PillarRunsModel" 182 yX7_tall ∈ lw_g := gw (List.mem_of_getElem? (i := 915) (by decide +kernel)) rfl
theorem mw_916 : Cond.static yX7_tall ∈ lw_g := gw (List.mem_of_getElem? (i := 916) (by decide +kernel)) rfl
theorem mw_917 : Cond.code yX7_tall prog_9_method_34_code 1 (some .int) ∈ lw_g := gw (List.mem_of_getElem? (i := 917) (by decide +kernel)) rfl
theorem mw_918 : Cond.methodLink "PillarRunsLaw" 100 yX7_type ∈ lw_g := gw (List.mem_of_getElem? (i := 918) (by decide +kernel)) rfl
theorem mw_919 : Cond.instanceMethod yX7_type ∈ lw_g := gw (List.mem_of_getElem? (i := 919) (by decide +kernel)) rfl
theorem mw_920 : Cond.selects "PillarRunsModel" yX7_type yX7_type ∈ lw_g := gw (List.mem_of_getElem? (i := 920) (by decide +kernel)) rfl
theorem mw_921 : Cond.code yX7_type prog_9_method_57_code 2 (some .int) ∈ lw_g := gw (List.mem_of_getElem? (i := 921) (by decide +kernel)) rfl
theorem mw_922 : Cond.methodLink "PillarRunsLaw" 104 yX7_clear ∈ lw_g := gw (List.mem_of_getElem? (i := 922) (by decide +kernel)) rfl
theorem mw_923 : Cond.instanceMethod yX7_clear ∈ lw_g := gw (List.mem_of_getElem? (i := 923) (by decide +kernel)) rfl
theorem mw_924 : Cond.selects "PillarRunsModel" yX7_clear yX7_clear ∈ lw_g := gw (List.mem_of_getElem? (i := 924) (by decide +kernel)) rfl
theorem mw_925 : Cond.code yX7_clear prog_9_method_58_code 2 (some .int) ∈ lw_g := gw (List.mem_of_getElem? (i := 925) (by decide +kernel)) rfl
theorem mw_926 : Cond.methodLink "PillarRunsLaw" 108 yX7_does ∈ lw_g := gw (List.mem_of_getElem? (i := 926) (by decide +kernel)) rfl
theorem mw_927 : Cond.instanceMethod yX7_does ∈ lw_g := gw (List.mem_of_getElem? (i := 927) (by decide +kernel)) rfl
theorem mw_928 : Cond.selects "PillarRunsModel" yX7_does yX7_does ∈ lw_g := gw (List.mem_of_getElem? (i := 928) (by decide +kernel)) rfl
theorem mw_929 : Cond.code yX7_does prog_9_method_71_code 3 (some .int) ∈ lw_g := gw (List.mem_of_getElem? (i := 929) (by decide +kernel)) rfl
theorem mw_930 : Cond.methodLink "PillarRunsModel" 191 yX7_here ∈ lw_g := gw (List.mem_of_getElem? (i := 930) (by decide +kernel)) rfl
theorem mw_932 : Cond.instanceMethod yX7_here ∈ lw_g := gw (List.mem_of_getElem? (i := 932) (by decide +kernel)) rfl
theorem mw_933 : Cond.code yX7_here prog_9_method_59_code 1 (some .int) ∈ lw_g := gw (List.mem_of_getElem? (i := 933) (by decide +kernel)) rfl
theorem mw_934 : Cond.methodLink "PillarRunsModel" 228 yX7_keepsAhead ∈ lw_g := gw (List.mem_of_getElem? (i := 934) (by decide +kernel)) rfl
theorem mw_936 : Cond.instanceMethod yX7_keepsAhead ∈ lw_g := gw (List.mem_of_getElem? (i := 936) (by decide +kernel)) rfl
theorem mw_937 : Cond.code yX7_keepsAhead prog_9_method_69_code 2 none ∈ lw_g := gw (List.mem_of_getElem? (i := 937) (by decide +kernel)) rfl
theorem mw_938 : Cond.methodLink "PillarRunsModel" 231 yX7_readsOrder ∈ lw_g := gw (List.mem_of_getElem? (i := 938) (by decide +kernel)) rfl
theorem mw_940 : Cond.instanceMethod yX7_readsOrder ∈ lw_g := gw (List.mem_of_getElem? (i := 940) (by decide +kernel)) rfl
theorem mw_941 : Cond.code yX7_readsOrder prog_9_method_68_code 3 (some .boolean) ∈ lw_g := gw (List.mem_of_getElem? (i := 941) (by decide +kernel)) rfl
theorem mw_942 : Cond.methodLink "PillarRunsModel" 210 yX7_readsPillar ∈ lw_g := gw (List.mem_of_getElem? (i := 942) (by decide +kernel)) rfl
theorem mw_944 : Cond.instanceMethod yX7_readsPillar ∈ lw_g := gw (List.mem_of_getElem? (i := 944) (by decide +kernel)) rfl
theorem mw_945 : Cond.code yX7_readsPillar prog_9_method_63_code 3 (some .boolean) ∈ lw_g := gw (List.mem_of_getElem? (i := 945) (by decide +kernel)) rfl
theorem mw_946 : Cond.methodLink "PillarRunsModel" 203 yX7_readsCell ∈ lw_g := gw (List.mem_of_getElem? (i := 946) (by decide +kernel)) rfl
theorem mw_948 : Cond.instanceMethod yX7_readsCell ∈ lw_g := gw (List.mem_of_getElem? (i := 948) (by decide +kernel)) rfl
theorem mw_949 : Cond.code yX7_readsCell prog_9_method_62_code 1 (some .boolean) ∈ lw_g := gw (List.mem_of_getElem? (i := 949) (by decide +kernel)) rfl
theorem mw_950 : Cond.methodLink "PillarRunsModel" 197 yX7_readsNumber ∈ lw_g := gw (List.mem_of_getElem? (i := 950) (by decide +kernel)) rfl
theorem mw_952 : Cond.instanceMethod yX7_readsNumber ∈ lw_g := gw (List.mem_of_getElem? (i := 952) (by decide +kernel)) rfl
theorem mw_953 : Cond.code yX7_readsNumber prog_9_method_60_code 4 (some .boolean) ∈ lw_g := gw (List.mem_of_getElem? (i := 953) (by decide +kernel)) rfl
theorem mw_954 : Cond.methodLink "PillarRunsModel" 207 yX7_ends ∈ lw_g := gw (List.mem_of_getElem? (i := 954) (by decide +kernel)) rfl
theorem mw_956 : Cond.instanceMethod yX7_ends ∈ lw_g := gw (List.mem_of_getElem? (i := 956) (by decide +kernel)) rfl
theorem mw_957 : Cond.code yX7_ends prog_9_method_61_code 1 (some .boolean) ∈ lw_g := gw (List.mem_of_getElem? (i := 957) (by decide +kernel)) rfl
theorem mw_958 : Cond.methodLink "PillarRunsModel" 213 yX7_readsWeight ∈ lw_g := gw (List.mem_of_getElem? (i := 958) (by decide +kernel)) rfl
theorem mw_960 : Cond.instanceMethod yX7_readsWeight ∈ lw_g := gw (List.mem_of_getElem? (i := 960) (by decide +kernel)) rfl
theorem mw_961 : Cond.code yX7_readsWeight prog_9_method_64_code 1 (some .boolean) ∈ lw_g := gw (List.mem_of_getElem? (i := 961) (by decide +kernel)) rfl
theorem mw_962 : Cond.methodLink "PillarRunsModel" 216 yX7_readsWall ∈ lw_g := gw (List.mem_of_getElem? (i := 962) (by decide +kernel)) rfl
theorem mw_964 : Cond.instanceMethod yX7_readsWall ∈ lw_g := gw (List.mem_of_getElem? (i := 964) (by decide +kernel)) rfl
theorem mw_965 : Cond.code yX7_readsWall prog_9_method_65_code 3 (some .boolean) ∈ lw_g := gw (List.mem_of_getElem? (i := 965) (by decide +kernel)) rfl
theorem mw_966 : Cond.methodLink "PillarRunsModel" 219 yX7_readsCrushed ∈ lw_g := gw (List.mem_of_getElem? (i := 966) (by decide +kernel)) rfl
theorem mw_968 : Cond.instanceMethod yX7_readsCrushed ∈ lw_g := gw (List.mem_of_getElem? (i := 968) (by decide +kernel)) rfl
theorem mw_969 : Cond.code yX7_readsCrushed prog_9_method_66_code 3 (some .boolean) ∈ lw_g := gw (List.mem_of_getElem? (i := 969) (by decide +kernel)) rfl
theorem mw_970 : Cond.methodLink "PillarRunsModel" 222 yX7_readsRun ∈ lw_g := gw (List.mem_of_getElem? (i := 970) (by decide +kernel)) rfl
theorem mw_972 : Cond.instanceMethod yX7_readsRun ∈ lw_g := gw (List.mem_of_getElem? (i := 972) (by decide +kernel)) rfl
theorem mw_973 : Cond.code yX7_readsRun prog_9_method_67_code 1 (some .boolean) ∈ lw_g := gw (List.mem_of_getElem? (i := 973) (by decide +kernel)) rfl
theorem mw_974 : Cond.methodLink "PillarRunsModel" 234 yX7_asAhead ∈ lw_g := gw (List.mem_of_getElem? (i := 974) (by decide +kernel)) rfl
theorem mw_976 : Cond.instanceMethod yX7_asAhead ∈ lw_g := gw (List.mem_of_getElem? (i := 976) (by decide +kernel)) rfl
theorem mw_977 : Cond.code yX7_asAhead prog_9_method_70_code 2 none ∈ lw_g := gw (List.mem_of_getElem? (i := 977) (by decide +kernel)) rfl
theorem mw_978 : Cond.methodLink "PillarRunsModel" 237 yX7_leavesAhead ∈ lw_g := gw (List.mem_of_getElem? (i := 978) (by decide +kernel)) rfl
theorem mw_980 : Cond.instanceMethod yX7_leavesAhead ∈ lw_g := gw (List.mem_of_getElem? (i := 980) (by decide +kernel)) rfl
theorem mw_981 : Cond.code yX7_leavesAhead prog_9_method_72_code 2 none ∈ lw_g := gw (List.mem_of_getElem? (i := 981) (by decide +kernel)) rfl
theorem mw_982 : Cond.methodLink "PillarRunsLaw" 116 yX7_told ∈ lw_g := gw (List.mem_of_getElem? (i := 982) (by decide +kernel)) rfl
theorem mw_983 : Cond.instanceMethod yX7_told ∈ lw_g := gw (List.mem_of_getElem? (i := 983) (by decide +kernel)) rfl
theorem mw_984 : Cond.selects "PillarRunsModel" yX7_told yX7_told ∈ lw_g := gw (List.mem_of_getElem? (i := 984) (by decide +kernel)) rfl
theorem mw_985 : Cond.code yX7_told prog_9_method_74_code 2 (some .int) ∈ lw_g := gw (List.mem_of_getElem? (i := 985) (by decide +kernel)) rfl
theorem mw_986 : Cond.methodLink "PillarRunsModel" 240 yX7_toldBy ∈ lw_g := gw (List.mem_of_getElem? (i := 986) (by decide +kernel)) rfl
theorem mw_988 : Cond.instanceMethod yX7_toldBy ∈ lw_g := gw (List.mem_of_getElem? (i := 988) (by decide +kernel)) rfl
theorem mw_989 : Cond.code yX7_toldBy prog_9_method_73_code 2 (some .int) ∈ lw_g := gw (List.mem_of_getElem? (i := 989) (by decide +kernel)) rfl
theorem mw_990 : Cond.methodLink "PillarRunsLaw" 121 yX7_digest ∈ lw_g := gw (List.mem_of_getElem? (i := 990) (by decide +kernel)) rfl
theorem mw_991 : Cond.instanceMethod yX7_digest ∈ lw_g := gw (List.mem_of_getElem? (i := 991) (by decide +kernel)) rfl
theorem mw_992 : Cond.selects "PillarRunsModel" yX7_digest yX7_digest ∈ lw_g := gw (List.mem_of_getElem? (i := 992) (by decide +kernel)) rfl
theorem mw_993 : Cond.code yX7_digest prog_9_method_75_code 5 (some .long) ∈ lw_g := gw (List.mem_of_getElem? (i := 993) (by decide +kernel)) rfl
theorem mw_994 : Cond.constantLong "PillarRunsModel" 243 (2153 : Int64) ∈ lw_g := gw (List.mem_of_getElem? (i := 994) (by decide +kernel)) rfl
theorem mw_995 : Cond.constantLong "PillarRunsModel" 245 (31 : Int64) ∈ lw_g := gw (List.mem_of_getElem? (i := 995) (by decide +kernel)) rfl
theorem inX0 : ∀ w ∈ wsX00, w ∈ lw_g := by decide +kernel
theorem inX1 : ∀ w ∈ wsX10, w ∈ lw_g := by decide +kernel
theorem inX2 : ∀ w ∈ wsX20, w ∈ lw_g := by decide +kernel
theorem inX3 : ∀ w ∈ wsX30, w ∈ lw_g := by decide +kernel
theorem inX4 : ∀ w ∈ wsX40, w ∈ lw_g := by decide +kernel
theorem inX5 : ∀ w ∈ wsX50, w ∈ lw_g := by decide +kernel
theorem inX6 : ∀ w ∈ wsX60, w ∈ lw_g := by decide +kernel
theorem inX7 : ∀ w ∈ wsX70, w ∈ lw_g := by decide +kernel
