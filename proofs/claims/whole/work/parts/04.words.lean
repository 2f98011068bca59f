theorem gw_0 : Cond.selects R_S y_S_startAnew y_S_startAnew ∈ GW := List.mem_filter.mpr ⟨List.mem_of_getElem? (i := 0) (by decide +kernel), by decide +kernel⟩
theorem gw_1 : Cond.selects R_S y_S_comeToBeFree y_S_comeToBeFree ∈ GW := List.mem_filter.mpr ⟨List.mem_of_getElem? (i := 1) (by decide +kernel), by decide +kernel⟩
theorem gw_2 : Cond.selects R_S y_S_pieceAt y_S_pieceAt ∈ GW := List.mem_filter.mpr ⟨List.mem_of_getElem? (i := 2) (by decide +kernel), by decide +kernel⟩
theorem gw_3 : Cond.selects R_S y_S_isTimeRight y_S_isTimeRight ∈ GW := List.mem_filter.mpr ⟨List.mem_of_getElem? (i := 3) (by decide +kernel), by decide +kernel⟩
theorem gw_4 : Cond.selects R_P y_P_end y_P_end ∈ GW := List.mem_filter.mpr ⟨List.mem_of_getElem? (i := 4) (by decide +kernel), by decide +kernel⟩
theorem gw_6 : Cond.selects R_S y_S_whatIsTakenFor y_S_whatIsTakenFor ∈ GW := List.mem_filter.mpr ⟨List.mem_of_getElem? (i := 6) (by decide +kernel), by decide +kernel⟩
theorem gw_7 : Cond.selects R_P y_P_isFreeForTaking y_P_isFreeForTaking ∈ GW := List.mem_filter.mpr ⟨List.mem_of_getElem? (i := 7) (by decide +kernel), by decide +kernel⟩
theorem gw_8 : Cond.selects R_S y_S_cutTo y_S_cutTo ∈ GW := List.mem_filter.mpr ⟨List.mem_of_getElem? (i := 8) (by decide +kernel), by decide +kernel⟩
theorem gw_9 : Cond.selects R_S y_S_usedPieceAt y_S_usedPieceAt ∈ GW := List.mem_filter.mpr ⟨List.mem_of_getElem? (i := 9) (by decide +kernel), by decide +kernel⟩
theorem gw_10 : Cond.selects R_S y_S_refuseDuringSweep y_S_refuseDuringSweep ∈ GW := List.mem_filter.mpr ⟨List.mem_of_getElem? (i := 10) (by decide +kernel), by decide +kernel⟩
theorem gw_11 : Cond.selects R_S y_S_stepFrom y_S_stepFrom ∈ GW := List.mem_filter.mpr ⟨List.mem_of_getElem? (i := 11) (by decide +kernel), by decide +kernel⟩
theorem gw_12 : Cond.selects R_P y_P_isKeptBySweep y_P_isKeptBySweep ∈ GW := List.mem_filter.mpr ⟨List.mem_of_getElem? (i := 12) (by decide +kernel), by decide +kernel⟩
theorem gw_13 : Cond.selects R_S y_S_gatherFrom y_S_gatherFrom ∈ GW := List.mem_filter.mpr ⟨List.mem_of_getElem? (i := 13) (by decide +kernel), by decide +kernel⟩
theorem gw_14 : Cond.selects R_S y_S_sumOverPieces y_S_sumOverPieces ∈ GW := List.mem_filter.mpr ⟨List.mem_of_getElem? (i := 14) (by decide +kernel), by decide +kernel⟩
theorem gw_15 : Cond.selects R_P y_P_isCrumb y_P_isCrumb ∈ GW := List.mem_filter.mpr ⟨List.mem_of_getElem? (i := 15) (by decide +kernel), by decide +kernel⟩
theorem gw_16 : Cond.selects R_S y_S_greatestFree y_S_greatestFree ∈ GW := List.mem_filter.mpr ⟨List.mem_of_getElem? (i := 16) (by decide +kernel), by decide +kernel⟩
theorem gw_17 : Cond.selects R_M y_M_goes y_M_goes ∈ GW := List.mem_filter.mpr ⟨List.mem_of_getElem? (i := 17) (by decide +kernel), by decide +kernel⟩
theorem gw_18 : Cond.selects R_M y_M_release y_M_release ∈ GW := List.mem_filter.mpr ⟨List.mem_of_getElem? (i := 18) (by decide +kernel), by decide +kernel⟩
theorem gw_19 : Cond.selects R_M y_M_best y_M_best ∈ GW := List.mem_filter.mpr ⟨List.mem_of_getElem? (i := 19) (by decide +kernel), by decide +kernel⟩
theorem gw_20 : Cond.selects R_M y_M_length y_M_length ∈ GW := List.mem_filter.mpr ⟨List.mem_of_getElem? (i := 20) (by decide +kernel), by decide +kernel⟩
theorem gw_21 : Cond.selects R_M y_M_used y_M_used ∈ GW := List.mem_filter.mpr ⟨List.mem_of_getElem? (i := 21) (by decide +kernel), by decide +kernel⟩
theorem gw_22 : Cond.selects R_M y_M_marks y_M_marks ∈ GW := List.mem_filter.mpr ⟨List.mem_of_getElem? (i := 22) (by decide +kernel), by decide +kernel⟩
theorem gw_23 : Cond.selects R_M y_M_step y_M_step ∈ GW := List.mem_filter.mpr ⟨List.mem_of_getElem? (i := 23) (by decide +kernel), by decide +kernel⟩
theorem gw_24 : Cond.selects R_M y_M_greatest y_M_greatest ∈ GW := List.mem_filter.mpr ⟨List.mem_of_getElem? (i := 24) (by decide +kernel), by decide +kernel⟩
theorem gw_25 : Cond.initialized R_L ∈ GW := List.mem_filter.mpr ⟨List.mem_of_getElem? (i := 25) (by decide +kernel), by decide +kernel⟩
theorem gw_26 : Cond.initialized R_S ∈ GW := List.mem_filter.mpr ⟨List.mem_of_getElem? (i := 26) (by decide +kernel), by decide +kernel⟩
theorem gw_27 : Cond.initialized R_P ∈ GW := List.mem_filter.mpr ⟨List.mem_of_getElem? (i := 27) (by decide +kernel), by decide +kernel⟩
theorem gw_28 : Cond.initialized R_M ∈ GW := List.mem_filter.mpr ⟨List.mem_of_getElem? (i := 28) (by decide +kernel), by decide +kernel⟩
theorem gw_29 : Cond.initialized "java/lang/Throwable" ∈ GW := List.mem_filter.mpr ⟨List.mem_of_getElem? (i := 29) (by decide +kernel), by decide +kernel⟩
theorem gw_30 : Cond.initialized "java/lang/Exception" ∈ GW := List.mem_filter.mpr ⟨List.mem_of_getElem? (i := 30) (by decide +kernel), by decide +kernel⟩
theorem gw_31 : Cond.initialized "java/lang/RuntimeException" ∈ GW := List.mem_filter.mpr ⟨List.mem_of_getElem? (i := 31) (by decide +kernel), by decide +kernel⟩
theorem gw_32 : Cond.initialized "java/lang/IllegalArgumentException" ∈ GW := List.mem_filter.mpr ⟨List.mem_of_getElem? (i := 32) (by decide +kernel), by decide +kernel⟩
theorem gw_33 : Cond.initialized "java/util/NoSuchElementException" ∈ GW := List.mem_filter.mpr ⟨List.mem_of_getElem? (i := 33) (by decide +kernel), by decide +kernel⟩
theorem gw_34 : Cond.initialized "java/lang/IllegalStateException" ∈ GW := List.mem_filter.mpr ⟨List.mem_of_getElem? (i := 34) (by decide +kernel), by decide +kernel⟩
theorem gw_35 : Cond.classLink R_L 8 R_S ∈ GW := List.mem_filter.mpr ⟨List.mem_of_getElem? (i := 35) (by decide +kernel), by decide +kernel⟩
theorem gw_36 : Cond.instantiable R_S 7 ∈ GW := List.mem_filter.mpr ⟨List.mem_of_getElem? (i := 36) (by decide +kernel), by decide +kernel⟩
theorem gw_37 : Cond.methodLink R_L 42 y_S_init ∈ GW := List.mem_filter.mpr ⟨List.mem_of_getElem? (i := 37) (by decide +kernel), by decide +kernel⟩
theorem gw_38 : Cond.instanceMethod y_S_init ∈ GW := List.mem_filter.mpr ⟨List.mem_of_getElem? (i := 38) (by decide +kernel), by decide +kernel⟩
theorem gw_39 : Cond.code y_S_init b_S_init 1 none ∈ GW := List.mem_filter.mpr ⟨List.mem_of_getElem? (i := 39) (by decide +kernel), by decide +kernel⟩
theorem gw_40 : Cond.methodLink R_S 1 objectInit ∈ GW := List.mem_filter.mpr ⟨List.mem_of_getElem? (i := 40) (by decide +kernel), by decide +kernel⟩
theorem gw_41 : Cond.instanceMethod objectInit ∈ GW := List.mem_filter.mpr ⟨List.mem_of_getElem? (i := 41) (by decide +kernel), by decide +kernel⟩
theorem gw_42 : Cond.code objectInit ⟨#[0xb1]⟩ 1 none ∈ GW := List.mem_filter.mpr ⟨List.mem_of_getElem? (i := 42) (by decide +kernel), by decide +kernel⟩
theorem gw_43 : Cond.methodLink R_S 9 y_S_startAnew ∈ GW := List.mem_filter.mpr ⟨List.mem_of_getElem? (i := 43) (by decide +kernel), by decide +kernel⟩
theorem gw_45 : Cond.instanceMethod y_S_startAnew ∈ GW := List.mem_filter.mpr ⟨List.mem_of_getElem? (i := 45) (by decide +kernel), by decide +kernel⟩
theorem gw_46 : Cond.code y_S_startAnew b_S_startAnew 2 none ∈ GW := List.mem_filter.mpr ⟨List.mem_of_getElem? (i := 46) (by decide +kernel), by decide +kernel⟩
theorem gw_47 : Cond.classLink R_S 38 R_P ∈ GW := List.mem_filter.mpr ⟨List.mem_of_getElem? (i := 47) (by decide +kernel), by decide +kernel⟩
theorem gw_48 : Cond.instantiable R_P 6 ∈ GW := List.mem_filter.mpr ⟨List.mem_of_getElem? (i := 48) (by decide +kernel), by decide +kernel⟩
theorem gw_50 : Cond.instanceMethod y_P_init ∈ GW := List.mem_filter.mpr ⟨List.mem_of_getElem? (i := 50) (by decide +kernel), by decide +kernel⟩
theorem gw_51 : Cond.code y_P_init b_P_init 4 none ∈ GW := List.mem_filter.mpr ⟨List.mem_of_getElem? (i := 51) (by decide +kernel), by decide +kernel⟩
theorem gw_52 : Cond.methodLink R_P 3 objectInit ∈ GW := List.mem_filter.mpr ⟨List.mem_of_getElem? (i := 52) (by decide +kernel), by decide +kernel⟩
theorem gw_53 : Cond.fieldLink R_P 9 "SweepHand$Piece" "begin" "I" ∈ GW := List.mem_filter.mpr ⟨List.mem_of_getElem? (i := 53) (by decide +kernel), by decide +kernel⟩
theorem gw_55 : Cond.fieldLink R_P 15 "SweepHand$Piece" "size" "I" ∈ GW := List.mem_filter.mpr ⟨List.mem_of_getElem? (i := 55) (by decide +kernel), by decide +kernel⟩
theorem gw_57 : Cond.fieldLink R_P 22 "SweepHand$Piece" "used" "Z" ∈ GW := List.mem_filter.mpr ⟨List.mem_of_getElem? (i := 57) (by decide +kernel), by decide +kernel⟩
theorem gw_60 : Cond.fieldLink R_P 26 "SweepHand$Piece" "marked" "Z" ∈ GW := List.mem_filter.mpr ⟨List.mem_of_getElem? (i := 60) (by decide +kernel), by decide +kernel⟩
theorem gw_62 : Cond.fieldLink R_P 18 "SweepHand$Piece" "next" "LSweepHand$Piece;" ∈ GW := List.mem_filter.mpr ⟨List.mem_of_getElem? (i := 62) (by decide +kernel), by decide +kernel⟩
theorem gw_77 : Cond.methodLink R_S 56 y_S_comeToBeFree ∈ GW := List.mem_filter.mpr ⟨List.mem_of_getElem? (i := 77) (by decide +kernel), by decide +kernel⟩
theorem gw_79 : Cond.instanceMethod y_S_comeToBeFree ∈ GW := List.mem_filter.mpr ⟨List.mem_of_getElem? (i := 79) (by decide +kernel), by decide +kernel⟩
theorem gw_80 : Cond.code y_S_comeToBeFree b_S_comeToBeFree 2 none ∈ GW := List.mem_filter.mpr ⟨List.mem_of_getElem? (i := 80) (by decide +kernel), by decide +kernel⟩
theorem gw_81 : Cond.fieldLink R_S 20 "SweepHand" "cells" "I" ∈ GW := List.mem_filter.mpr ⟨List.mem_of_getElem? (i := 81) (by decide +kernel), by decide +kernel⟩
theorem gw_82 : Cond.fieldLink R_S 66 "SweepHand" "first" "LSweepHand$Piece;" ∈ GW := List.mem_filter.mpr ⟨List.mem_of_getElem? (i := 82) (by decide +kernel), by decide +kernel⟩
theorem gw_83 : Cond.fieldLink R_S 43 "SweepHand" "atHand" "LSweepHand$Piece;" ∈ GW := List.mem_filter.mpr ⟨List.mem_of_getElem? (i := 83) (by decide +kernel), by decide +kernel⟩
theorem gw_84 : Cond.fieldLink R_S 110 "SweepHand" "freeings" "J" ∈ GW := List.mem_filter.mpr ⟨List.mem_of_getElem? (i := 84) (by decide +kernel), by decide +kernel⟩
theorem gw_85 : Cond.fieldLink R_S 30 "SweepHand" "takesInVain" "I" ∈ GW := List.mem_filter.mpr ⟨List.mem_of_getElem? (i := 85) (by decide +kernel), by decide +kernel⟩
theorem gw_86 : Cond.fieldLink R_S 88 "SweepHand" "sweptPieces" "I" ∈ GW := List.mem_filter.mpr ⟨List.mem_of_getElem? (i := 86) (by decide +kernel), by decide +kernel⟩
theorem gw_87 : Cond.fieldLink R_S 91 "SweepHand" "endedSweeps" "I" ∈ GW := List.mem_filter.mpr ⟨List.mem_of_getElem? (i := 87) (by decide +kernel), by decide +kernel⟩
theorem gw_103 : Cond.methodLink R_L 75 y_S_hand ∈ GW := List.mem_filter.mpr ⟨List.mem_of_getElem? (i := 103) (by decide +kernel), by decide +kernel⟩
theorem gw_104 : Cond.instanceMethod y_S_hand ∈ GW := List.mem_filter.mpr ⟨List.mem_of_getElem? (i := 104) (by decide +kernel), by decide +kernel⟩
theorem gw_105 : Cond.selects R_S y_S_hand y_S_hand ∈ GW := List.mem_filter.mpr ⟨List.mem_of_getElem? (i := 105) (by decide +kernel), by decide +kernel⟩
theorem gw_106 : Cond.code y_S_hand b_S_hand 1 (some .int) ∈ GW := List.mem_filter.mpr ⟨List.mem_of_getElem? (i := 106) (by decide +kernel), by decide +kernel⟩
theorem gw_107 : Cond.methodLink R_L 79 y_S_piece ∈ GW := List.mem_filter.mpr ⟨List.mem_of_getElem? (i := 107) (by decide +kernel), by decide +kernel⟩
theorem gw_108 : Cond.instanceMethod y_S_piece ∈ GW := List.mem_filter.mpr ⟨List.mem_of_getElem? (i := 108) (by decide +kernel), by decide +kernel⟩
theorem gw_109 : Cond.selects R_S y_S_piece y_S_piece ∈ GW := List.mem_filter.mpr ⟨List.mem_of_getElem? (i := 109) (by decide +kernel), by decide +kernel⟩
theorem gw_110 : Cond.code y_S_piece b_S_piece 3 (some .int) ∈ GW := List.mem_filter.mpr ⟨List.mem_of_getElem? (i := 110) (by decide +kernel), by decide +kernel⟩
theorem gw_111 : Cond.methodLink R_S 77 y_S_pieceAt ∈ GW := List.mem_filter.mpr ⟨List.mem_of_getElem? (i := 111) (by decide +kernel), by decide +kernel⟩
theorem gw_113 : Cond.instanceMethod y_S_pieceAt ∈ GW := List.mem_filter.mpr ⟨List.mem_of_getElem? (i := 113) (by decide +kernel), by decide +kernel⟩
theorem gw_114 : Cond.code y_S_pieceAt b_S_pieceAt 3 (some (.object "SweepHand$Piece")) ∈ GW := List.mem_filter.mpr ⟨List.mem_of_getElem? (i := 114) (by decide +kernel), by decide +kernel⟩
theorem gw_115 : Cond.methodLink R_L 83 y_S_marked ∈ GW := List.mem_filter.mpr ⟨List.mem_of_getElem? (i := 115) (by decide +kernel), by decide +kernel⟩
theorem gw_116 : Cond.instanceMethod y_S_marked ∈ GW := List.mem_filter.mpr ⟨List.mem_of_getElem? (i := 116) (by decide +kernel), by decide +kernel⟩
theorem gw_117 : Cond.selects R_S y_S_marked y_S_marked ∈ GW := List.mem_filter.mpr ⟨List.mem_of_getElem? (i := 117) (by decide +kernel), by decide +kernel⟩
theorem gw_118 : Cond.code y_S_marked b_S_marked 3 (some .boolean) ∈ GW := List.mem_filter.mpr ⟨List.mem_of_getElem? (i := 118) (by decide +kernel), by decide +kernel⟩
theorem gw_119 : Cond.methodLink R_L 90 y_S_faults ∈ GW := List.mem_filter.mpr ⟨List.mem_of_getElem? (i := 119) (by decide +kernel), by decide +kernel⟩
theorem gw_120 : Cond.instanceMethod y_S_faults ∈ GW := List.mem_filter.mpr ⟨List.mem_of_getElem? (i := 120) (by decide +kernel), by decide +kernel⟩
theorem gw_121 : Cond.selects R_S y_S_faults y_S_faults ∈ GW := List.mem_filter.mpr ⟨List.mem_of_getElem? (i := 121) (by decide +kernel), by decide +kernel⟩
theorem gw_122 : Cond.code y_S_faults b_S_faults 5 (some .int) ∈ GW := List.mem_filter.mpr ⟨List.mem_of_getElem? (i := 122) (by decide +kernel), by decide +kernel⟩
theorem gw_123 : Cond.methodLink R_S 96 y_S_isMarkRight ∈ GW := List.mem_filter.mpr ⟨List.mem_of_getElem? (i := 123) (by decide +kernel), by decide +kernel⟩
theorem gw_124 : Cond.static y_S_isMarkRight ∈ GW := List.mem_filter.mpr ⟨List.mem_of_getElem? (i := 124) (by decide +kernel), by decide +kernel⟩
theorem gw_125 : Cond.code y_S_isMarkRight b_S_isMarkRight 2 (some .boolean) ∈ GW := List.mem_filter.mpr ⟨List.mem_of_getElem? (i := 125) (by decide +kernel), by decide +kernel⟩
theorem gw_126 : Cond.methodLink R_S 100 y_S_isTimeRight ∈ GW := List.mem_filter.mpr ⟨List.mem_of_getElem? (i := 126) (by decide +kernel), by decide +kernel⟩
theorem gw_128 : Cond.instanceMethod y_S_isTimeRight ∈ GW := List.mem_filter.mpr ⟨List.mem_of_getElem? (i := 128) (by decide +kernel), by decide +kernel⟩
theorem gw_129 : Cond.code y_S_isTimeRight b_S_isTimeRight 2 (some .boolean) ∈ GW := List.mem_filter.mpr ⟨List.mem_of_getElem? (i := 129) (by decide +kernel), by decide +kernel⟩
theorem gw_132 : Cond.instanceMethod y_P_end ∈ GW := List.mem_filter.mpr ⟨List.mem_of_getElem? (i := 132) (by decide +kernel), by decide +kernel⟩
theorem gw_133 : Cond.code y_P_end b_P_end 1 (some .int) ∈ GW := List.mem_filter.mpr ⟨List.mem_of_getElem? (i := 133) (by decide +kernel), by decide +kernel⟩
theorem gw_134 : Cond.methodLink R_L 46 y_L_space ∈ GW := List.mem_filter.mpr ⟨List.mem_of_getElem? (i := 134) (by decide +kernel), by decide +kernel⟩
theorem gw_135 : Cond.static y_L_space ∈ GW := List.mem_filter.mpr ⟨List.mem_of_getElem? (i := 135) (by decide +kernel), by decide +kernel⟩
theorem gw_136 : Cond.codeWith y_L_space b_L_space 4 (some .int) [(0, 9, 12, 13)] ∈ GW := List.mem_filter.mpr ⟨List.mem_of_getElem? (i := 136) (by decide +kernel), by decide +kernel⟩
theorem gw_137 : Cond.classLink R_L 13 "java/lang/IllegalArgumentException" ∈ GW := List.mem_filter.mpr ⟨List.mem_of_getElem? (i := 137) (by decide +kernel), by decide +kernel⟩
theorem gw_138 : Cond.methodLink R_L 7 y_S_space ∈ GW := List.mem_filter.mpr ⟨List.mem_of_getElem? (i := 138) (by decide +kernel), by decide +kernel⟩
theorem gw_139 : Cond.instanceMethod y_S_space ∈ GW := List.mem_filter.mpr ⟨List.mem_of_getElem? (i := 139) (by decide +kernel), by decide +kernel⟩
theorem gw_140 : Cond.selects R_S y_S_space y_S_space ∈ GW := List.mem_filter.mpr ⟨List.mem_of_getElem? (i := 140) (by decide +kernel), by decide +kernel⟩
theorem gw_141 : Cond.code y_S_space b_S_space 3 (some .int) ∈ GW := List.mem_filter.mpr ⟨List.mem_of_getElem? (i := 141) (by decide +kernel), by decide +kernel⟩
theorem gw_142 : Cond.classLink R_S 13 "java/lang/IllegalArgumentException" ∈ GW := List.mem_filter.mpr ⟨List.mem_of_getElem? (i := 142) (by decide +kernel), by decide +kernel⟩
theorem gw_143 : Cond.instantiable "java/lang/IllegalArgumentException" 6 ∈ GW := List.mem_filter.mpr ⟨List.mem_of_getElem? (i := 143) (by decide +kernel), by decide +kernel⟩
theorem gw_163 : Cond.fieldLink "java/lang/Throwable" 198 "java/lang/Throwable" "backtrace" "Ljava/lang/Object;" ∈ GW := List.mem_filter.mpr ⟨List.mem_of_getElem? (i := 163) (by decide +kernel), by decide +kernel⟩
theorem gw_167 : Cond.methodLink "java/lang/Throwable" 1 objectInit ∈ GW := List.mem_filter.mpr ⟨List.mem_of_getElem? (i := 167) (by decide +kernel), by decide +kernel⟩
theorem gw_168 : Cond.fieldLink "java/lang/Throwable" 13 "java/lang/Throwable" "UNASSIGNED_STACK" "[Ljava/lang/StackTraceElement;" ∈ GW := List.mem_filter.mpr ⟨List.mem_of_getElem? (i := 168) (by decide +kernel), by decide +kernel⟩
theorem gw_170 : Cond.fieldLink "java/lang/Throwable" 20 "java/lang/Throwable" "SUPPRESSED_SENTINEL" "Ljava/util/List;" ∈ GW := List.mem_filter.mpr ⟨List.mem_of_getElem? (i := 170) (by decide +kernel), by decide +kernel⟩
theorem gw_181 : Cond.instantiable "java/lang/Throwable" 6 ∈ GW := List.mem_filter.mpr ⟨List.mem_of_getElem? (i := 181) (by decide +kernel), by decide +kernel⟩
theorem gw_196 : Cond.fieldLink "java/lang/Throwable" 198 "java/lang/Throwable" "backtrace" "Ljava/lang/Object;" ∈ GW := List.mem_filter.mpr ⟨List.mem_of_getElem? (i := 196) (by decide +kernel), by decide +kernel⟩
theorem gw_197 : Cond.fieldLink "java/lang/Throwable" 31 "java/lang/Throwable" "detailMessage" "Ljava/lang/String;" ∈ GW := List.mem_filter.mpr ⟨List.mem_of_getElem? (i := 197) (by decide +kernel), by decide +kernel⟩
theorem gw_198 : Cond.fieldLink "java/lang/Throwable" 7 "java/lang/Throwable" "cause" "Ljava/lang/Throwable;" ∈ GW := List.mem_filter.mpr ⟨List.mem_of_getElem? (i := 198) (by decide +kernel), by decide +kernel⟩
theorem gw_199 : Cond.fieldLink "java/lang/Throwable" 17 "java/lang/Throwable" "stackTrace" "[Ljava/lang/StackTraceElement;" ∈ GW := List.mem_filter.mpr ⟨List.mem_of_getElem? (i := 199) (by decide +kernel), by decide +kernel⟩
theorem gw_200 : Cond.fieldLink "java/lang/Throwable" 24 "java/lang/Throwable" "suppressedExceptions" "Ljava/util/List;" ∈ GW := List.mem_filter.mpr ⟨List.mem_of_getElem? (i := 200) (by decide +kernel), by decide +kernel⟩
theorem gw_209 : Cond.arrayClass .byte ∈ GW := List.mem_filter.mpr ⟨List.mem_of_getElem? (i := 209) (by decide +kernel), by decide +kernel⟩
theorem gw_210 : Cond.methodLink R_L 55 y_L_take ∈ GW := List.mem_filter.mpr ⟨List.mem_of_getElem? (i := 210) (by decide +kernel), by decide +kernel⟩
theorem gw_211 : Cond.static y_L_take ∈ GW := List.mem_filter.mpr ⟨List.mem_of_getElem? (i := 211) (by decide +kernel), by decide +kernel⟩
theorem gw_212 : Cond.codeWith y_L_take b_L_take 4 (some .int) [(0, 9, 12, 13)] ∈ GW := List.mem_filter.mpr ⟨List.mem_of_getElem? (i := 212) (by decide +kernel), by decide +kernel⟩
theorem gw_213 : Cond.methodLink R_L 15 y_S_take ∈ GW := List.mem_filter.mpr ⟨List.mem_of_getElem? (i := 213) (by decide +kernel), by decide +kernel⟩
theorem gw_214 : Cond.instanceMethod y_S_take ∈ GW := List.mem_filter.mpr ⟨List.mem_of_getElem? (i := 214) (by decide +kernel), by decide +kernel⟩
theorem gw_215 : Cond.selects R_S y_S_take y_S_take ∈ GW := List.mem_filter.mpr ⟨List.mem_of_getElem? (i := 215) (by decide +kernel), by decide +kernel⟩
theorem gw_216 : Cond.code y_S_take b_S_take 3 (some .int) ∈ GW := List.mem_filter.mpr ⟨List.mem_of_getElem? (i := 216) (by decide +kernel), by decide +kernel⟩
theorem gw_218 : Cond.methodLink R_S 26 y_S_whatIsTakenFor ∈ GW := List.mem_filter.mpr ⟨List.mem_of_getElem? (i := 218) (by decide +kernel), by decide +kernel⟩
theorem gw_220 : Cond.instanceMethod y_S_whatIsTakenFor ∈ GW := List.mem_filter.mpr ⟨List.mem_of_getElem? (i := 220) (by decide +kernel), by decide +kernel⟩
theorem gw_221 : Cond.code y_S_whatIsTakenFor b_S_whatIsTakenFor 4 (some (.object "SweepHand$Piece")) ∈ GW := List.mem_filter.mpr ⟨List.mem_of_getElem? (i := 221) (by decide +kernel), by decide +kernel⟩
theorem gw_224 : Cond.instanceMethod y_P_isFreeForTaking ∈ GW := List.mem_filter.mpr ⟨List.mem_of_getElem? (i := 224) (by decide +kernel), by decide +kernel⟩
theorem gw_225 : Cond.code y_P_isFreeForTaking b_P_isFreeForTaking 1 (some .boolean) ∈ GW := List.mem_filter.mpr ⟨List.mem_of_getElem? (i := 225) (by decide +kernel), by decide +kernel⟩
theorem gw_226 : Cond.methodLink R_S 131 y_S_isTakenBefore ∈ GW := List.mem_filter.mpr ⟨List.mem_of_getElem? (i := 226) (by decide +kernel), by decide +kernel⟩
theorem gw_227 : Cond.static y_S_isTakenBefore ∈ GW := List.mem_filter.mpr ⟨List.mem_of_getElem? (i := 227) (by decide +kernel), by decide +kernel⟩
theorem gw_228 : Cond.code y_S_isTakenBefore b_S_isTakenBefore 2 (some .boolean) ∈ GW := List.mem_filter.mpr ⟨List.mem_of_getElem? (i := 228) (by decide +kernel), by decide +kernel⟩
theorem gw_229 : Cond.methodLink R_S 33 y_S_cutTo ∈ GW := List.mem_filter.mpr ⟨List.mem_of_getElem? (i := 229) (by decide +kernel), by decide +kernel⟩
theorem gw_231 : Cond.instanceMethod y_S_cutTo ∈ GW := List.mem_filter.mpr ⟨List.mem_of_getElem? (i := 231) (by decide +kernel), by decide +kernel⟩
theorem gw_232 : Cond.code y_S_cutTo b_S_cutTo 4 none ∈ GW := List.mem_filter.mpr ⟨List.mem_of_getElem? (i := 232) (by decide +kernel), by decide +kernel⟩
theorem gw_233 : Cond.methodLink R_L 58 y_L_give ∈ GW := List.mem_filter.mpr ⟨List.mem_of_getElem? (i := 233) (by decide +kernel), by decide +kernel⟩
theorem gw_234 : Cond.static y_L_give ∈ GW := List.mem_filter.mpr ⟨List.mem_of_getElem? (i := 234) (by decide +kernel), by decide +kernel⟩
theorem gw_235 : Cond.codeWith y_L_give b_L_give 4 (some .int) [(0, 9, 12, 21)] ∈ GW := List.mem_filter.mpr ⟨List.mem_of_getElem? (i := 235) (by decide +kernel), by decide +kernel⟩
theorem gw_236 : Cond.classLink R_L 21 "java/util/NoSuchElementException" ∈ GW := List.mem_filter.mpr ⟨List.mem_of_getElem? (i := 236) (by decide +kernel), by decide +kernel⟩
theorem gw_237 : Cond.methodLink R_L 18 y_S_give ∈ GW := List.mem_filter.mpr ⟨List.mem_of_getElem? (i := 237) (by decide +kernel), by decide +kernel⟩
theorem gw_238 : Cond.instanceMethod y_S_give ∈ GW := List.mem_filter.mpr ⟨List.mem_of_getElem? (i := 238) (by decide +kernel), by decide +kernel⟩
theorem gw_239 : Cond.selects R_S y_S_give y_S_give ∈ GW := List.mem_filter.mpr ⟨List.mem_of_getElem? (i := 239) (by decide +kernel), by decide +kernel⟩
theorem gw_240 : Cond.code y_S_give b_S_give 3 (some .int) ∈ GW := List.mem_filter.mpr ⟨List.mem_of_getElem? (i := 240) (by decide +kernel), by decide +kernel⟩
theorem gw_241 : Cond.methodLink R_S 53 y_S_usedPieceAt ∈ GW := List.mem_filter.mpr ⟨List.mem_of_getElem? (i := 241) (by decide +kernel), by decide +kernel⟩
theorem gw_243 : Cond.instanceMethod y_S_usedPieceAt ∈ GW := List.mem_filter.mpr ⟨List.mem_of_getElem? (i := 243) (by decide +kernel), by decide +kernel⟩
theorem gw_244 : Cond.code y_S_usedPieceAt b_S_usedPieceAt 3 (some (.object "SweepHand$Piece")) ∈ GW := List.mem_filter.mpr ⟨List.mem_of_getElem? (i := 244) (by decide +kernel), by decide +kernel⟩
theorem gw_245 : Cond.classLink R_S 122 "java/util/NoSuchElementException" ∈ GW := List.mem_filter.mpr ⟨List.mem_of_getElem? (i := 245) (by decide +kernel), by decide +kernel⟩
theorem gw_246 : Cond.instantiable "java/util/NoSuchElementException" 6 ∈ GW := List.mem_filter.mpr ⟨List.mem_of_getElem? (i := 246) (by decide +kernel), by decide +kernel⟩
theorem gw_261 : Cond.methodLink R_L 61 y_L_mark ∈ GW := List.mem_filter.mpr ⟨List.mem_of_getElem? (i := 261) (by decide +kernel), by decide +kernel⟩
theorem gw_262 : Cond.static y_L_mark ∈ GW := List.mem_filter.mpr ⟨List.mem_of_getElem? (i := 262) (by decide +kernel), by decide +kernel⟩
theorem gw_263 : Cond.codeWith y_L_mark b_L_mark 4 (some .int) [(0, 16, 19, 21), (0, 16, 22, 27)] ∈ GW := List.mem_filter.mpr ⟨List.mem_of_getElem? (i := 263) (by decide +kernel), by decide +kernel⟩
theorem gw_264 : Cond.classLink R_L 27 "java/lang/IllegalStateException" ∈ GW := List.mem_filter.mpr ⟨List.mem_of_getElem? (i := 264) (by decide +kernel), by decide +kernel⟩
theorem gw_265 : Cond.methodLink R_L 23 y_S_mark ∈ GW := List.mem_filter.mpr ⟨List.mem_of_getElem? (i := 265) (by decide +kernel), by decide +kernel⟩
theorem gw_266 : Cond.instanceMethod y_S_mark ∈ GW := List.mem_filter.mpr ⟨List.mem_of_getElem? (i := 266) (by decide +kernel), by decide +kernel⟩
theorem gw_267 : Cond.selects R_S y_S_mark y_S_mark ∈ GW := List.mem_filter.mpr ⟨List.mem_of_getElem? (i := 267) (by decide +kernel), by decide +kernel⟩
theorem gw_268 : Cond.code y_S_mark b_S_mark 4 (some .boolean) ∈ GW := List.mem_filter.mpr ⟨List.mem_of_getElem? (i := 268) (by decide +kernel), by decide +kernel⟩
theorem gw_269 : Cond.methodLink R_S 63 y_S_refuseDuringSweep ∈ GW := List.mem_filter.mpr ⟨List.mem_of_getElem? (i := 269) (by decide +kernel), by decide +kernel⟩
theorem gw_271 : Cond.instanceMethod y_S_refuseDuringSweep ∈ GW := List.mem_filter.mpr ⟨List.mem_of_getElem? (i := 271) (by decide +kernel), by decide +kernel⟩
theorem gw_272 : Cond.code y_S_refuseDuringSweep b_S_refuseDuringSweep 1 none ∈ GW := List.mem_filter.mpr ⟨List.mem_of_getElem? (i := 272) (by decide +kernel), by decide +kernel⟩
theorem gw_273 : Cond.classLink R_S 117 "java/lang/IllegalStateException" ∈ GW := List.mem_filter.mpr ⟨List.mem_of_getElem? (i := 273) (by decide +kernel), by decide +kernel⟩
theorem gw_274 : Cond.instantiable "java/lang/IllegalStateException" 6 ∈ GW := List.mem_filter.mpr ⟨List.mem_of_getElem? (i := 274) (by decide +kernel), by decide +kernel⟩
theorem gw_289 : Cond.methodLink R_L 64 y_L_unmark ∈ GW := List.mem_filter.mpr ⟨List.mem_of_getElem? (i := 289) (by decide +kernel), by decide +kernel⟩
theorem gw_290 : Cond.static y_L_unmark ∈ GW := List.mem_filter.mpr ⟨List.mem_of_getElem? (i := 290) (by decide +kernel), by decide +kernel⟩
theorem gw_291 : Cond.codeWith y_L_unmark b_L_unmark 3 (some .int) [(0, 8, 11, 27)] ∈ GW := List.mem_filter.mpr ⟨List.mem_of_getElem? (i := 291) (by decide +kernel), by decide +kernel⟩
theorem gw_292 : Cond.methodLink R_L 29 y_S_unmark ∈ GW := List.mem_filter.mpr ⟨List.mem_of_getElem? (i := 292) (by decide +kernel), by decide +kernel⟩
theorem gw_293 : Cond.instanceMethod y_S_unmark ∈ GW := List.mem_filter.mpr ⟨List.mem_of_getElem? (i := 293) (by decide +kernel), by decide +kernel⟩
theorem gw_294 : Cond.selects R_S y_S_unmark y_S_unmark ∈ GW := List.mem_filter.mpr ⟨List.mem_of_getElem? (i := 294) (by decide +kernel), by decide +kernel⟩
theorem gw_295 : Cond.code y_S_unmark b_S_unmark 3 (some .int) ∈ GW := List.mem_filter.mpr ⟨List.mem_of_getElem? (i := 295) (by decide +kernel), by decide +kernel⟩
theorem gw_296 : Cond.methodLink R_L 68 y_L_begin ∈ GW := List.mem_filter.mpr ⟨List.mem_of_getElem? (i := 296) (by decide +kernel), by decide +kernel⟩
theorem gw_297 : Cond.static y_L_begin ∈ GW := List.mem_filter.mpr ⟨List.mem_of_getElem? (i := 297) (by decide +kernel), by decide +kernel⟩
theorem gw_298 : Cond.codeWith y_L_begin b_L_begin 2 (some .int) [(0, 4, 7, 27)] ∈ GW := List.mem_filter.mpr ⟨List.mem_of_getElem? (i := 298) (by decide +kernel), by decide +kernel⟩
theorem gw_299 : Cond.methodLink R_L 33 y_S_begin ∈ GW := List.mem_filter.mpr ⟨List.mem_of_getElem? (i := 299) (by decide +kernel), by decide +kernel⟩
theorem gw_300 : Cond.instanceMethod y_S_begin ∈ GW := List.mem_filter.mpr ⟨List.mem_of_getElem? (i := 300) (by decide +kernel), by decide +kernel⟩
theorem gw_301 : Cond.selects R_S y_S_begin y_S_begin ∈ GW := List.mem_filter.mpr ⟨List.mem_of_getElem? (i := 301) (by decide +kernel), by decide +kernel⟩
theorem gw_302 : Cond.code y_S_begin b_S_begin 1 none ∈ GW := List.mem_filter.mpr ⟨List.mem_of_getElem? (i := 302) (by decide +kernel), by decide +kernel⟩
theorem gw_303 : Cond.methodLink R_L 72 y_L_sweep ∈ GW := List.mem_filter.mpr ⟨List.mem_of_getElem? (i := 303) (by decide +kernel), by decide +kernel⟩
theorem gw_304 : Cond.static y_L_sweep ∈ GW := List.mem_filter.mpr ⟨List.mem_of_getElem? (i := 304) (by decide +kernel), by decide +kernel⟩
theorem gw_305 : Cond.codeWith y_L_sweep b_L_sweep 4 (some .int) [(0, 9, 12, 13)] ∈ GW := List.mem_filter.mpr ⟨List.mem_of_getElem? (i := 305) (by decide +kernel), by decide +kernel⟩
theorem gw_306 : Cond.methodLink R_L 36 y_S_sweep ∈ GW := List.mem_filter.mpr ⟨List.mem_of_getElem? (i := 306) (by decide +kernel), by decide +kernel⟩
theorem gw_307 : Cond.instanceMethod y_S_sweep ∈ GW := List.mem_filter.mpr ⟨List.mem_of_getElem? (i := 307) (by decide +kernel), by decide +kernel⟩
theorem gw_308 : Cond.selects R_S y_S_sweep y_S_sweep ∈ GW := List.mem_filter.mpr ⟨List.mem_of_getElem? (i := 308) (by decide +kernel), by decide +kernel⟩
theorem gw_309 : Cond.code y_S_sweep b_S_sweep 3 (some .int) ∈ GW := List.mem_filter.mpr ⟨List.mem_of_getElem? (i := 309) (by decide +kernel), by decide +kernel⟩
theorem gw_311 : Cond.methodLink R_S 74 y_S_stepFrom ∈ GW := List.mem_filter.mpr ⟨List.mem_of_getElem? (i := 311) (by decide +kernel), by decide +kernel⟩
theorem gw_313 : Cond.instanceMethod y_S_stepFrom ∈ GW := List.mem_filter.mpr ⟨List.mem_of_getElem? (i := 313) (by decide +kernel), by decide +kernel⟩
theorem gw_314 : Cond.code y_S_stepFrom b_S_stepFrom 2 none ∈ GW := List.mem_filter.mpr ⟨List.mem_of_getElem? (i := 314) (by decide +kernel), by decide +kernel⟩
theorem gw_317 : Cond.instanceMethod y_P_isKeptBySweep ∈ GW := List.mem_filter.mpr ⟨List.mem_of_getElem? (i := 317) (by decide +kernel), by decide +kernel⟩
theorem gw_318 : Cond.code y_P_isKeptBySweep b_P_isKeptBySweep 1 (some .boolean) ∈ GW := List.mem_filter.mpr ⟨List.mem_of_getElem? (i := 318) (by decide +kernel), by decide +kernel⟩
theorem gw_319 : Cond.methodLink R_S 138 y_S_gatherFrom ∈ GW := List.mem_filter.mpr ⟨List.mem_of_getElem? (i := 319) (by decide +kernel), by decide +kernel⟩
theorem gw_321 : Cond.instanceMethod y_S_gatherFrom ∈ GW := List.mem_filter.mpr ⟨List.mem_of_getElem? (i := 321) (by decide +kernel), by decide +kernel⟩
theorem gw_322 : Cond.code y_S_gatherFrom b_S_gatherFrom 5 none ∈ GW := List.mem_filter.mpr ⟨List.mem_of_getElem? (i := 322) (by decide +kernel), by decide +kernel⟩
theorem gw_323 : Cond.methodLink R_L 87 y_L_count ∈ GW := List.mem_filter.mpr ⟨List.mem_of_getElem? (i := 323) (by decide +kernel), by decide +kernel⟩
theorem gw_324 : Cond.static y_L_count ∈ GW := List.mem_filter.mpr ⟨List.mem_of_getElem? (i := 324) (by decide +kernel), by decide +kernel⟩
theorem gw_325 : Cond.codeWith y_L_count b_L_count 4 (some .int) [(0, 9, 12, 13)] ∈ GW := List.mem_filter.mpr ⟨List.mem_of_getElem? (i := 325) (by decide +kernel), by decide +kernel⟩
theorem gw_326 : Cond.methodLink R_L 39 y_S_count ∈ GW := List.mem_filter.mpr ⟨List.mem_of_getElem? (i := 326) (by decide +kernel), by decide +kernel⟩
theorem gw_327 : Cond.instanceMethod y_S_count ∈ GW := List.mem_filter.mpr ⟨List.mem_of_getElem? (i := 327) (by decide +kernel), by decide +kernel⟩
theorem gw_328 : Cond.selects R_S y_S_count y_S_count ∈ GW := List.mem_filter.mpr ⟨List.mem_of_getElem? (i := 328) (by decide +kernel), by decide +kernel⟩
theorem gw_329 : Cond.code y_S_count b_S_count 2 (some .int) ∈ GW := List.mem_filter.mpr ⟨List.mem_of_getElem? (i := 329) (by decide +kernel), by decide +kernel⟩
theorem gw_330 : Cond.methodLink R_S 80 y_S_sumOverPieces ∈ GW := List.mem_filter.mpr ⟨List.mem_of_getElem? (i := 330) (by decide +kernel), by decide +kernel⟩
theorem gw_332 : Cond.instanceMethod y_S_sumOverPieces ∈ GW := List.mem_filter.mpr ⟨List.mem_of_getElem? (i := 332) (by decide +kernel), by decide +kernel⟩
theorem gw_333 : Cond.code y_S_sumOverPieces b_S_sumOverPieces 4 (some .int) ∈ GW := List.mem_filter.mpr ⟨List.mem_of_getElem? (i := 333) (by decide +kernel), by decide +kernel⟩
theorem gw_334 : Cond.methodLink R_S 141 y_S_shareOf ∈ GW := List.mem_filter.mpr ⟨List.mem_of_getElem? (i := 334) (by decide +kernel), by decide +kernel⟩
theorem gw_335 : Cond.static y_S_shareOf ∈ GW := List.mem_filter.mpr ⟨List.mem_of_getElem? (i := 335) (by decide +kernel), by decide +kernel⟩
theorem gw_336 : Cond.code y_S_shareOf b_S_shareOf 2 (some .int) ∈ GW := List.mem_filter.mpr ⟨List.mem_of_getElem? (i := 336) (by decide +kernel), by decide +kernel⟩
theorem gw_339 : Cond.instanceMethod y_P_isCrumb ∈ GW := List.mem_filter.mpr ⟨List.mem_of_getElem? (i := 339) (by decide +kernel), by decide +kernel⟩
theorem gw_340 : Cond.code y_P_isCrumb b_P_isCrumb 1 (some .boolean) ∈ GW := List.mem_filter.mpr ⟨List.mem_of_getElem? (i := 340) (by decide +kernel), by decide +kernel⟩
theorem gw_341 : Cond.methodLink R_S 84 y_S_greatestFree ∈ GW := List.mem_filter.mpr ⟨List.mem_of_getElem? (i := 341) (by decide +kernel), by decide +kernel⟩
theorem gw_343 : Cond.instanceMethod y_S_greatestFree ∈ GW := List.mem_filter.mpr ⟨List.mem_of_getElem? (i := 343) (by decide +kernel), by decide +kernel⟩
theorem gw_344 : Cond.code y_S_greatestFree b_S_greatestFree 3 (some .int) ∈ GW := List.mem_filter.mpr ⟨List.mem_of_getElem? (i := 344) (by decide +kernel), by decide +kernel⟩
theorem gw_346 : Cond.classLink R_L 43 R_M ∈ GW := List.mem_filter.mpr ⟨List.mem_of_getElem? (i := 346) (by decide +kernel), by decide +kernel⟩
theorem gw_347 : Cond.instantiable R_M 10 ∈ GW := List.mem_filter.mpr ⟨List.mem_of_getElem? (i := 347) (by decide +kernel), by decide +kernel⟩
theorem gw_348 : Cond.methodLink R_L 45 y_M_init ∈ GW := List.mem_filter.mpr ⟨List.mem_of_getElem? (i := 348) (by decide +kernel), by decide +kernel⟩
theorem gw_349 : Cond.instanceMethod y_M_init ∈ GW := List.mem_filter.mpr ⟨List.mem_of_getElem? (i := 349) (by decide +kernel), by decide +kernel⟩
theorem gw_350 : Cond.code y_M_init b_M_init 1 none ∈ GW := List.mem_filter.mpr ⟨List.mem_of_getElem? (i := 350) (by decide +kernel), by decide +kernel⟩
theorem gw_351 : Cond.methodLink R_M 1 objectInit ∈ GW := List.mem_filter.mpr ⟨List.mem_of_getElem? (i := 351) (by decide +kernel), by decide +kernel⟩
theorem gw_352 : Cond.fieldLink R_M 24 "SweepHandModel" "thrown" "I" ∈ GW := List.mem_filter.mpr ⟨List.mem_of_getElem? (i := 352) (by decide +kernel), by decide +kernel⟩
theorem gw_353 : Cond.fieldLink R_M 7 "SweepHandModel" "cells" "I" ∈ GW := List.mem_filter.mpr ⟨List.mem_of_getElem? (i := 353) (by decide +kernel), by decide +kernel⟩
theorem gw_354 : Cond.fieldLink R_M 13 "SweepHandModel" "sizes" "[I" ∈ GW := List.mem_filter.mpr ⟨List.mem_of_getElem? (i := 354) (by decide +kernel), by decide +kernel⟩
theorem gw_355 : Cond.fieldLink R_M 17 "SweepHandModel" "times" "[I" ∈ GW := List.mem_filter.mpr ⟨List.mem_of_getElem? (i := 355) (by decide +kernel), by decide +kernel⟩
theorem gw_356 : Cond.fieldLink R_M 20 "SweepHandModel" "marks" "[Z" ∈ GW := List.mem_filter.mpr ⟨List.mem_of_getElem? (i := 356) (by decide +kernel), by decide +kernel⟩
theorem gw_357 : Cond.fieldLink R_M 27 "SweepHandModel" "now" "I" ∈ GW := List.mem_filter.mpr ⟨List.mem_of_getElem? (i := 357) (by decide +kernel), by decide +kernel⟩
theorem gw_358 : Cond.fieldLink R_M 34 "SweepHandModel" "failures" "I" ∈ GW := List.mem_filter.mpr ⟨List.mem_of_getElem? (i := 358) (by decide +kernel), by decide +kernel⟩
theorem gw_359 : Cond.fieldLink R_M 37 "SweepHandModel" "swept" "I" ∈ GW := List.mem_filter.mpr ⟨List.mem_of_getElem? (i := 359) (by decide +kernel), by decide +kernel⟩
theorem gw_360 : Cond.fieldLink R_M 40 "SweepHandModel" "sweeps" "I" ∈ GW := List.mem_filter.mpr ⟨List.mem_of_getElem? (i := 360) (by decide +kernel), by decide +kernel⟩
theorem gw_361 : Cond.fieldLink R_M 43 "SweepHandModel" "hand" "I" ∈ GW := List.mem_filter.mpr ⟨List.mem_of_getElem? (i := 361) (by decide +kernel), by decide +kernel⟩
theorem gw_383 : Cond.arrayClass .int ∈ GW := List.mem_filter.mpr ⟨List.mem_of_getElem? (i := 383) (by decide +kernel), by decide +kernel⟩
theorem gw_384 : Cond.arrayClass .boolean ∈ GW := List.mem_filter.mpr ⟨List.mem_of_getElem? (i := 384) (by decide +kernel), by decide +kernel⟩
theorem gw_385 : Cond.methodLink R_L 52 y_M_thrown ∈ GW := List.mem_filter.mpr ⟨List.mem_of_getElem? (i := 385) (by decide +kernel), by decide +kernel⟩
theorem gw_386 : Cond.instanceMethod y_M_thrown ∈ GW := List.mem_filter.mpr ⟨List.mem_of_getElem? (i := 386) (by decide +kernel), by decide +kernel⟩
theorem gw_387 : Cond.selects R_M y_M_thrown y_M_thrown ∈ GW := List.mem_filter.mpr ⟨List.mem_of_getElem? (i := 387) (by decide +kernel), by decide +kernel⟩
theorem gw_388 : Cond.code y_M_thrown b_M_thrown 1 (some .int) ∈ GW := List.mem_filter.mpr ⟨List.mem_of_getElem? (i := 388) (by decide +kernel), by decide +kernel⟩
theorem gw_389 : Cond.methodLink R_L 51 y_M_space ∈ GW := List.mem_filter.mpr ⟨List.mem_of_getElem? (i := 389) (by decide +kernel), by decide +kernel⟩
theorem gw_390 : Cond.instanceMethod y_M_space ∈ GW := List.mem_filter.mpr ⟨List.mem_of_getElem? (i := 390) (by decide +kernel), by decide +kernel⟩
theorem gw_391 : Cond.selects R_M y_M_space y_M_space ∈ GW := List.mem_filter.mpr ⟨List.mem_of_getElem? (i := 391) (by decide +kernel), by decide +kernel⟩
theorem gw_392 : Cond.code y_M_space b_M_space 4 (some .int) ∈ GW := List.mem_filter.mpr ⟨List.mem_of_getElem? (i := 392) (by decide +kernel), by decide +kernel⟩
theorem gw_393 : Cond.methodLink R_M 30 y_M_goes ∈ GW := List.mem_filter.mpr ⟨List.mem_of_getElem? (i := 393) (by decide +kernel), by decide +kernel⟩
theorem gw_395 : Cond.instanceMethod y_M_goes ∈ GW := List.mem_filter.mpr ⟨List.mem_of_getElem? (i := 395) (by decide +kernel), by decide +kernel⟩
theorem gw_396 : Cond.code y_M_goes b_M_goes 3 (some .boolean) ∈ GW := List.mem_filter.mpr ⟨List.mem_of_getElem? (i := 396) (by decide +kernel), by decide +kernel⟩
theorem gw_397 : Cond.methodLink R_M 46 y_M_release ∈ GW := List.mem_filter.mpr ⟨List.mem_of_getElem? (i := 397) (by decide +kernel), by decide +kernel⟩
theorem gw_399 : Cond.instanceMethod y_M_release ∈ GW := List.mem_filter.mpr ⟨List.mem_of_getElem? (i := 399) (by decide +kernel), by decide +kernel⟩
theorem gw_400 : Cond.code y_M_release b_M_release 3 none ∈ GW := List.mem_filter.mpr ⟨List.mem_of_getElem? (i := 400) (by decide +kernel), by decide +kernel⟩
theorem gw_401 : Cond.methodLink R_L 57 y_M_take ∈ GW := List.mem_filter.mpr ⟨List.mem_of_getElem? (i := 401) (by decide +kernel), by decide +kernel⟩
theorem gw_402 : Cond.instanceMethod y_M_take ∈ GW := List.mem_filter.mpr ⟨List.mem_of_getElem? (i := 402) (by decide +kernel), by decide +kernel⟩
theorem gw_403 : Cond.selects R_M y_M_take y_M_take ∈ GW := List.mem_filter.mpr ⟨List.mem_of_getElem? (i := 403) (by decide +kernel), by decide +kernel⟩
theorem gw_404 : Cond.code y_M_take b_M_take 4 (some .int) ∈ GW := List.mem_filter.mpr ⟨List.mem_of_getElem? (i := 404) (by decide +kernel), by decide +kernel⟩
theorem gw_405 : Cond.methodLink R_M 54 y_M_best ∈ GW := List.mem_filter.mpr ⟨List.mem_of_getElem? (i := 405) (by decide +kernel), by decide +kernel⟩
theorem gw_407 : Cond.instanceMethod y_M_best ∈ GW := List.mem_filter.mpr ⟨List.mem_of_getElem? (i := 407) (by decide +kernel), by decide +kernel⟩
theorem gw_408 : Cond.code y_M_best b_M_best 6 (some .int) ∈ GW := List.mem_filter.mpr ⟨List.mem_of_getElem? (i := 408) (by decide +kernel), by decide +kernel⟩
theorem gw_409 : Cond.methodLink R_M 50 y_M_length ∈ GW := List.mem_filter.mpr ⟨List.mem_of_getElem? (i := 409) (by decide +kernel), by decide +kernel⟩
theorem gw_411 : Cond.instanceMethod y_M_length ∈ GW := List.mem_filter.mpr ⟨List.mem_of_getElem? (i := 411) (by decide +kernel), by decide +kernel⟩
theorem gw_412 : Cond.code y_M_length b_M_length 2 (some .int) ∈ GW := List.mem_filter.mpr ⟨List.mem_of_getElem? (i := 412) (by decide +kernel), by decide +kernel⟩
theorem gw_413 : Cond.methodLink R_L 60 y_M_give ∈ GW := List.mem_filter.mpr ⟨List.mem_of_getElem? (i := 413) (by decide +kernel), by decide +kernel⟩
theorem gw_414 : Cond.instanceMethod y_M_give ∈ GW := List.mem_filter.mpr ⟨List.mem_of_getElem? (i := 414) (by decide +kernel), by decide +kernel⟩
theorem gw_415 : Cond.selects R_M y_M_give y_M_give ∈ GW := List.mem_filter.mpr ⟨List.mem_of_getElem? (i := 415) (by decide +kernel), by decide +kernel⟩
theorem gw_416 : Cond.code y_M_give b_M_give 3 (some .int) ∈ GW := List.mem_filter.mpr ⟨List.mem_of_getElem? (i := 416) (by decide +kernel), by decide +kernel⟩
theorem gw_417 : Cond.methodLink R_M 57 y_M_used ∈ GW := List.mem_filter.mpr ⟨List.mem_of_getElem? (i := 417) (by decide +kernel), by decide +kernel⟩
theorem gw_419 : Cond.instanceMethod y_M_used ∈ GW := List.mem_filter.mpr ⟨List.mem_of_getElem? (i := 419) (by decide +kernel), by decide +kernel⟩
theorem gw_420 : Cond.code y_M_used b_M_used 2 (some .boolean) ∈ GW := List.mem_filter.mpr ⟨List.mem_of_getElem? (i := 420) (by decide +kernel), by decide +kernel⟩
theorem gw_421 : Cond.methodLink R_L 63 y_M_mark ∈ GW := List.mem_filter.mpr ⟨List.mem_of_getElem? (i := 421) (by decide +kernel), by decide +kernel⟩
theorem gw_422 : Cond.instanceMethod y_M_mark ∈ GW := List.mem_filter.mpr ⟨List.mem_of_getElem? (i := 422) (by decide +kernel), by decide +kernel⟩
theorem gw_423 : Cond.selects R_M y_M_mark y_M_mark ∈ GW := List.mem_filter.mpr ⟨List.mem_of_getElem? (i := 423) (by decide +kernel), by decide +kernel⟩
theorem gw_424 : Cond.code y_M_mark b_M_mark 3 (some .boolean) ∈ GW := List.mem_filter.mpr ⟨List.mem_of_getElem? (i := 424) (by decide +kernel), by decide +kernel⟩
theorem gw_425 : Cond.methodLink R_L 67 y_M_unmark ∈ GW := List.mem_filter.mpr ⟨List.mem_of_getElem? (i := 425) (by decide +kernel), by decide +kernel⟩
theorem gw_426 : Cond.instanceMethod y_M_unmark ∈ GW := List.mem_filter.mpr ⟨List.mem_of_getElem? (i := 426) (by decide +kernel), by decide +kernel⟩
theorem gw_427 : Cond.selects R_M y_M_unmark y_M_unmark ∈ GW := List.mem_filter.mpr ⟨List.mem_of_getElem? (i := 427) (by decide +kernel), by decide +kernel⟩
theorem gw_428 : Cond.code y_M_unmark b_M_unmark 3 (some .int) ∈ GW := List.mem_filter.mpr ⟨List.mem_of_getElem? (i := 428) (by decide +kernel), by decide +kernel⟩
theorem gw_429 : Cond.methodLink R_M 61 y_M_marks ∈ GW := List.mem_filter.mpr ⟨List.mem_of_getElem? (i := 429) (by decide +kernel), by decide +kernel⟩
theorem gw_431 : Cond.instanceMethod y_M_marks ∈ GW := List.mem_filter.mpr ⟨List.mem_of_getElem? (i := 431) (by decide +kernel), by decide +kernel⟩
theorem gw_432 : Cond.code y_M_marks b_M_marks 3 (some .int) ∈ GW := List.mem_filter.mpr ⟨List.mem_of_getElem? (i := 432) (by decide +kernel), by decide +kernel⟩
theorem gw_433 : Cond.methodLink R_L 71 y_M_begin ∈ GW := List.mem_filter.mpr ⟨List.mem_of_getElem? (i := 433) (by decide +kernel), by decide +kernel⟩
theorem gw_434 : Cond.instanceMethod y_M_begin ∈ GW := List.mem_filter.mpr ⟨List.mem_of_getElem? (i := 434) (by decide +kernel), by decide +kernel⟩
theorem gw_435 : Cond.selects R_M y_M_begin y_M_begin ∈ GW := List.mem_filter.mpr ⟨List.mem_of_getElem? (i := 435) (by decide +kernel), by decide +kernel⟩
theorem gw_436 : Cond.code y_M_begin b_M_begin 1 none ∈ GW := List.mem_filter.mpr ⟨List.mem_of_getElem? (i := 436) (by decide +kernel), by decide +kernel⟩
theorem gw_437 : Cond.methodLink R_L 74 y_M_sweep ∈ GW := List.mem_filter.mpr ⟨List.mem_of_getElem? (i := 437) (by decide +kernel), by decide +kernel⟩
theorem gw_438 : Cond.instanceMethod y_M_sweep ∈ GW := List.mem_filter.mpr ⟨List.mem_of_getElem? (i := 438) (by decide +kernel), by decide +kernel⟩
theorem gw_439 : Cond.selects R_M y_M_sweep y_M_sweep ∈ GW := List.mem_filter.mpr ⟨List.mem_of_getElem? (i := 439) (by decide +kernel), by decide +kernel⟩
theorem gw_440 : Cond.code y_M_sweep b_M_sweep 3 (some .int) ∈ GW := List.mem_filter.mpr ⟨List.mem_of_getElem? (i := 440) (by decide +kernel), by decide +kernel⟩
theorem gw_441 : Cond.methodLink R_M 64 y_M_step ∈ GW := List.mem_filter.mpr ⟨List.mem_of_getElem? (i := 441) (by decide +kernel), by decide +kernel⟩
theorem gw_443 : Cond.instanceMethod y_M_step ∈ GW := List.mem_filter.mpr ⟨List.mem_of_getElem? (i := 443) (by decide +kernel), by decide +kernel⟩
theorem gw_444 : Cond.code y_M_step b_M_step 6 none ∈ GW := List.mem_filter.mpr ⟨List.mem_of_getElem? (i := 444) (by decide +kernel), by decide +kernel⟩
theorem gw_445 : Cond.methodLink R_L 78 y_M_hand ∈ GW := List.mem_filter.mpr ⟨List.mem_of_getElem? (i := 445) (by decide +kernel), by decide +kernel⟩
theorem gw_446 : Cond.instanceMethod y_M_hand ∈ GW := List.mem_filter.mpr ⟨List.mem_of_getElem? (i := 446) (by decide +kernel), by decide +kernel⟩
theorem gw_447 : Cond.selects R_M y_M_hand y_M_hand ∈ GW := List.mem_filter.mpr ⟨List.mem_of_getElem? (i := 447) (by decide +kernel), by decide +kernel⟩
theorem gw_448 : Cond.code y_M_hand b_M_hand 1 (some .int) ∈ GW := List.mem_filter.mpr ⟨List.mem_of_getElem? (i := 448) (by decide +kernel), by decide +kernel⟩
theorem gw_449 : Cond.methodLink R_L 82 y_M_piece ∈ GW := List.mem_filter.mpr ⟨List.mem_of_getElem? (i := 449) (by decide +kernel), by decide +kernel⟩
theorem gw_450 : Cond.instanceMethod y_M_piece ∈ GW := List.mem_filter.mpr ⟨List.mem_of_getElem? (i := 450) (by decide +kernel), by decide +kernel⟩
theorem gw_451 : Cond.selects R_M y_M_piece y_M_piece ∈ GW := List.mem_filter.mpr ⟨List.mem_of_getElem? (i := 451) (by decide +kernel), by decide +kernel⟩
theorem gw_452 : Cond.code y_M_piece b_M_piece 2 (some .int) ∈ GW := List.mem_filter.mpr ⟨List.mem_of_getElem? (i := 452) (by decide +kernel), by decide +kernel⟩
theorem gw_453 : Cond.methodLink R_L 86 y_M_marked ∈ GW := List.mem_filter.mpr ⟨List.mem_of_getElem? (i := 453) (by decide +kernel), by decide +kernel⟩
theorem gw_454 : Cond.instanceMethod y_M_marked ∈ GW := List.mem_filter.mpr ⟨List.mem_of_getElem? (i := 454) (by decide +kernel), by decide +kernel⟩
theorem gw_455 : Cond.selects R_M y_M_marked y_M_marked ∈ GW := List.mem_filter.mpr ⟨List.mem_of_getElem? (i := 455) (by decide +kernel), by decide +kernel⟩
theorem gw_456 : Cond.code y_M_marked b_M_marked 2 (some .boolean) ∈ GW := List.mem_filter.mpr ⟨List.mem_of_getElem? (i := 456) (by decide +kernel), by decide +kernel⟩
theorem gw_457 : Cond.methodLink R_L 89 y_M_count ∈ GW := List.mem_filter.mpr ⟨List.mem_of_getElem? (i := 457) (by decide +kernel), by decide +kernel⟩
theorem gw_458 : Cond.instanceMethod y_M_count ∈ GW := List.mem_filter.mpr ⟨List.mem_of_getElem? (i := 458) (by decide +kernel), by decide +kernel⟩
theorem gw_459 : Cond.selects R_M y_M_count y_M_count ∈ GW := List.mem_filter.mpr ⟨List.mem_of_getElem? (i := 459) (by decide +kernel), by decide +kernel⟩
theorem gw_460 : Cond.code y_M_count b_M_count 8 (some .int) ∈ GW := List.mem_filter.mpr ⟨List.mem_of_getElem? (i := 460) (by decide +kernel), by decide +kernel⟩
theorem gw_461 : Cond.methodLink R_M 67 y_M_greatest ∈ GW := List.mem_filter.mpr ⟨List.mem_of_getElem? (i := 461) (by decide +kernel), by decide +kernel⟩
theorem gw_463 : Cond.instanceMethod y_M_greatest ∈ GW := List.mem_filter.mpr ⟨List.mem_of_getElem? (i := 463) (by decide +kernel), by decide +kernel⟩
theorem gw_464 : Cond.code y_M_greatest b_M_greatest 3 (some .int) ∈ GW := List.mem_filter.mpr ⟨List.mem_of_getElem? (i := 464) (by decide +kernel), by decide +kernel⟩
theorem gw_465 : Cond.methodLink R_L 93 y_M_faults ∈ GW := List.mem_filter.mpr ⟨List.mem_of_getElem? (i := 465) (by decide +kernel), by decide +kernel⟩
theorem gw_466 : Cond.instanceMethod y_M_faults ∈ GW := List.mem_filter.mpr ⟨List.mem_of_getElem? (i := 466) (by decide +kernel), by decide +kernel⟩
theorem gw_467 : Cond.selects R_M y_M_faults y_M_faults ∈ GW := List.mem_filter.mpr ⟨List.mem_of_getElem? (i := 467) (by decide +kernel), by decide +kernel⟩
theorem gw_468 : Cond.code y_M_faults b_M_faults 1 (some .int) ∈ GW := List.mem_filter.mpr ⟨List.mem_of_getElem? (i := 468) (by decide +kernel), by decide +kernel⟩
theorem gw_469 : Cond.arrayClass .long ∈ GW := List.mem_filter.mpr ⟨List.mem_of_getElem? (i := 469) (by decide +kernel), by decide +kernel⟩
theorem gi_P : ∀ w ∈ u_ws R_P F_P 6, w ∈ GW := by decide +kernel
theorem gi_S : ∀ w ∈ u_ws R_S F_S 7, w ∈ GW := by decide +kernel
theorem gi_M : ∀ w ∈ u_ws R_M F_M 10, w ∈ GW := by decide +kernel
