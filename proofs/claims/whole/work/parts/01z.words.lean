theorem tb_0 : (Cond.constantLong RXJ 314 6148914691236517205) ∈ TB := tb_of (List.mem_of_getElem? (i := 471) (by decide +kernel)) rfl
theorem tb_1 : (Cond.constantLong RXJ 316 3689348814741910323) ∈ TB := tb_of (List.mem_of_getElem? (i := 472) (by decide +kernel)) rfl
theorem tb_2 : (Cond.constantLong RXJ 318 1085102592571150095) ∈ TB := tb_of (List.mem_of_getElem? (i := 473) (by decide +kernel)) rfl
theorem tb_3 : (Cond.constant RX5 178 65535) ∈ TB := tb_of (List.mem_of_getElem? (i := 312) (by decide +kernel)) rfl
theorem tb_4 : (Cond.constant RX5 179 1664525) ∈ TB := tb_of (List.mem_of_getElem? (i := 132) (by decide +kernel)) rfl
theorem tb_5 : (Cond.constant RX5 180 1013904223) ∈ TB := tb_of (List.mem_of_getElem? (i := 133) (by decide +kernel)) rfl
theorem tb_6 : (Cond.fieldLink RX0 21 "FountainRows$Bytes" "length" "I") ∈ TB := tb_of (List.mem_of_getElem? (i := 76) (by decide +kernel)) rfl
theorem tb_7 : (Cond.code yX0_has cX0_has 2 (some .boolean)) ∈ TB := tb_of (List.mem_of_getElem? (i := 374) (by decide +kernel)) rfl
theorem tb_8 : (Cond.methodLink RX0 25 yX0_has) ∈ TB := tb_of (List.mem_of_getElem? (i := 371) (by decide +kernel)) rfl
theorem tb_9 : (Cond.instanceMethod yX0_has) ∈ TB := tb_of (List.mem_of_getElem? (i := 372) (by decide +kernel)) rfl
theorem tb_10 : (Cond.selects RX0 yX0_has yX0_has) ∈ TB := tb_of (List.mem_of_getElem? (i := 373) (by decide +kernel)) rfl
theorem tb_11 : (Cond.initialized RX0) ∈ TB := tb_of (List.mem_of_getElem? (i := 41) (by decide +kernel)) rfl
theorem tb_12 : (Cond.fieldLink RX0 15 "FountainRows$Bytes" "cells" "[I") ∈ TB := tb_of (List.mem_of_getElem? (i := 75) (by decide +kernel)) rfl
theorem tb_13 : (Cond.code yX0_put cX0_put 3 none) ∈ TB := tb_of (List.mem_of_getElem? (i := 370) (by decide +kernel)) rfl
theorem tb_14 : (Cond.methodLink RX0 29 yX0_put) ∈ TB := tb_of (List.mem_of_getElem? (i := 367) (by decide +kernel)) rfl
theorem tb_15 : (Cond.instanceMethod yX0_put) ∈ TB := tb_of (List.mem_of_getElem? (i := 368) (by decide +kernel)) rfl
theorem tb_16 : (Cond.selects RX0 yX0_put yX0_put) ∈ TB := tb_of (List.mem_of_getElem? (i := 369) (by decide +kernel)) rfl
theorem tb_17 : (Cond.code yX0_at cX0_at 2 (some .int)) ∈ TB := tb_of (List.mem_of_getElem? (i := 389) (by decide +kernel)) rfl
theorem tb_18 : (Cond.methodLink RX0 33 yX0_at) ∈ TB := tb_of (List.mem_of_getElem? (i := 386) (by decide +kernel)) rfl
theorem tb_19 : (Cond.instanceMethod yX0_at) ∈ TB := tb_of (List.mem_of_getElem? (i := 387) (by decide +kernel)) rfl
theorem tb_20 : (Cond.selects RX0 yX0_at yX0_at) ∈ TB := tb_of (List.mem_of_getElem? (i := 388) (by decide +kernel)) rfl
theorem tb_21 : (Cond.constant RX0 37 65535) ∈ TB := tb_of (List.mem_of_getElem? (i := 385) (by decide +kernel)) rfl
theorem tb_22 : (Cond.code yX0_numberAt cX0_numberAt 6 (some .long)) ∈ TB := tb_of (List.mem_of_getElem? (i := 424) (by decide +kernel)) rfl
theorem tb_23 : (Cond.methodLink RX0 38 yX0_numberAt) ∈ TB := tb_of (List.mem_of_getElem? (i := 421) (by decide +kernel)) rfl
theorem tb_24 : (Cond.instanceMethod yX0_numberAt) ∈ TB := tb_of (List.mem_of_getElem? (i := 422) (by decide +kernel)) rfl
theorem tb_25 : (Cond.selects RX0 yX0_numberAt yX0_numberAt) ∈ TB := tb_of (List.mem_of_getElem? (i := 423) (by decide +kernel)) rfl
theorem tb_26 : (Cond.code yX0_sumOfFirst cX0_sumOfFirst 5 (some .int)) ∈ TB := tb_of (List.mem_of_getElem? (i := 384) (by decide +kernel)) rfl
theorem tb_27 : (Cond.methodLink RX0 42 yX0_sumOfFirst) ∈ TB := tb_of (List.mem_of_getElem? (i := 425) (by decide +kernel)) rfl
theorem tb_28 : (Cond.instanceMethod yX0_sumOfFirst) ∈ TB := tb_of (List.mem_of_getElem? (i := 382) (by decide +kernel)) rfl
theorem tb_29 : (Cond.selects RX0 yX0_sumOfFirst yX0_sumOfFirst) ∈ TB := tb_of (List.mem_of_getElem? (i := 383) (by decide +kernel)) rfl
theorem tb_30 : (Cond.methodLink RX0 3 objectInit) ∈ TB := tb_of (List.mem_of_getElem? (i := 71) (by decide +kernel)) rfl
theorem tb_31 : (Cond.instanceMethod objectInit) ∈ TB := tb_of (List.mem_of_getElem? (i := 55) (by decide +kernel)) rfl
theorem tb_32 : (Cond.code objectInit ⟨#[0xb1]⟩ 1 none) ∈ TB := tb_of (List.mem_of_getElem? (i := 56) (by decide +kernel)) rfl
theorem tb_33 : (Cond.methodLink RX0 9 Lib.Math.max.name) ∈ TB := tb_of (List.mem_of_getElem? (i := 72) (by decide +kernel)) rfl
theorem tb_34 : (Cond.static Lib.Math.max.name) ∈ TB := tb_of (List.mem_of_getElem? (i := 73) (by decide +kernel)) rfl
theorem tb_35 : (Cond.initialized "java/lang/Math") ∈ TB := tb_of (List.mem_of_getElem? (i := 42) (by decide +kernel)) rfl
theorem tb_36 : (Cond.code Lib.Math.max.name Lib.Math.max.code 2 (some .int)) ∈ TB := tb_of (List.mem_of_getElem? (i := 74) (by decide +kernel)) rfl
theorem tb_37 : (Cond.arrayClass .int) ∈ TB := tb_of (List.mem_of_getElem? (i := 84) (by decide +kernel)) rfl
theorem tb_38 : (Cond.fieldLink RX3 9 "FountainRows$Source" "symbolCount" "I") ∈ TB := tb_of (List.mem_of_getElem? (i := 137) (by decide +kernel)) rfl
theorem tb_39 : (Cond.fieldLink RX3 15 "FountainRows$Source" "sumCount" "I") ∈ TB := tb_of (List.mem_of_getElem? (i := 139) (by decide +kernel)) rfl
theorem tb_40 : (Cond.fieldLink RX3 18 "FountainRows$Source" "partCount" "I") ∈ TB := tb_of (List.mem_of_getElem? (i := 141) (by decide +kernel)) rfl
theorem tb_41 : (Cond.code yX3_hasSymbol cX3_hasSymbol 2 (some .boolean)) ∈ TB := tb_of (List.mem_of_getElem? (i := 298) (by decide +kernel)) rfl
theorem tb_42 : (Cond.methodLink RX3 64 yX3_hasSymbol) ∈ TB := tb_of (List.mem_of_getElem? (i := 303) (by decide +kernel)) rfl
theorem tb_43 : (Cond.instanceMethod yX3_hasSymbol) ∈ TB := tb_of (List.mem_of_getElem? (i := 296) (by decide +kernel)) rfl
theorem tb_44 : (Cond.selects RX3 yX3_hasSymbol yX3_hasSymbol) ∈ TB := tb_of (List.mem_of_getElem? (i := 297) (by decide +kernel)) rfl
theorem tb_45 : (Cond.initialized RX3) ∈ TB := tb_of (List.mem_of_getElem? (i := 44) (by decide +kernel)) rfl
theorem tb_46 : (Cond.fieldLink RX3 44 "FountainRows$Source" "symbols" "[J") ∈ TB := tb_of (List.mem_of_getElem? (i := 151) (by decide +kernel)) rfl
theorem tb_47 : (Cond.fieldLink RX3 21 "FountainRows$Source" "size" "I") ∈ TB := tb_of (List.mem_of_getElem? (i := 143) (by decide +kernel)) rfl
theorem tb_48 : (Cond.code yX3_hasSum cX3_hasSum 2 (some .boolean)) ∈ TB := tb_of (List.mem_of_getElem? (i := 236) (by decide +kernel)) rfl
theorem tb_49 : (Cond.methodLink RX3 68 yX3_hasSum) ∈ TB := tb_of (List.mem_of_getElem? (i := 233) (by decide +kernel)) rfl
theorem tb_50 : (Cond.instanceMethod yX3_hasSum) ∈ TB := tb_of (List.mem_of_getElem? (i := 234) (by decide +kernel)) rfl
theorem tb_51 : (Cond.selects RX3 yX3_hasSum yX3_hasSum) ∈ TB := tb_of (List.mem_of_getElem? (i := 235) (by decide +kernel)) rfl
theorem tb_52 : (Cond.fieldLink RX3 48 "FountainRows$Source" "sumSymbols" "[J") ∈ TB := tb_of (List.mem_of_getElem? (i := 150) (by decide +kernel)) rfl
theorem tb_53 : (Cond.code yX5_hasBit cX5_hasBit 3 (some .boolean)) ∈ TB := tb_of (List.mem_of_getElem? (i := 136) (by decide +kernel)) rfl
theorem tb_54 : (Cond.initialized RX5) ∈ TB := tb_of (List.mem_of_getElem? (i := 39) (by decide +kernel)) rfl
theorem tb_55 : (Cond.static yX5_hasBit) ∈ TB := tb_of (List.mem_of_getElem? (i := 135) (by decide +kernel)) rfl
theorem tb_56 : (Cond.code yX3_symbolsOfSum cX3_symbolsOfSum 2 (some .long)) ∈ TB := tb_of (List.mem_of_getElem? (i := 232) (by decide +kernel)) rfl
theorem tb_57 : (Cond.methodLink RX3 71 yX3_symbolsOfSum) ∈ TB := tb_of (List.mem_of_getElem? (i := 350) (by decide +kernel)) rfl
theorem tb_58 : (Cond.instanceMethod yX3_symbolsOfSum) ∈ TB := tb_of (List.mem_of_getElem? (i := 230) (by decide +kernel)) rfl
theorem tb_59 : (Cond.selects RX3 yX3_symbolsOfSum yX3_symbolsOfSum) ∈ TB := tb_of (List.mem_of_getElem? (i := 231) (by decide +kernel)) rfl
theorem tb_60 : (Cond.code yX3_valueOfSymbols cX3_valueOfSymbols 6 (some .long)) ∈ TB := tb_of (List.mem_of_getElem? (i := 354) (by decide +kernel)) rfl
theorem tb_61 : (Cond.methodLink RX3 75 yX3_valueOfSymbols) ∈ TB := tb_of (List.mem_of_getElem? (i := 351) (by decide +kernel)) rfl
theorem tb_62 : (Cond.instanceMethod yX3_valueOfSymbols) ∈ TB := tb_of (List.mem_of_getElem? (i := 353) (by decide +kernel)) rfl
theorem tb_63 : (Cond.selects RX3 yX3_valueOfSymbols yX3_valueOfSymbols) ∈ TB := tb_of (List.mem_of_getElem? (i := 6) (by decide +kernel)) rfl
theorem tb_64 : (Cond.code yX5_nextState cX5_nextState 1 (some .int)) ∈ TB := tb_of (List.mem_of_getElem? (i := 131) (by decide +kernel)) rfl
theorem tb_65 : (Cond.static yX5_nextState) ∈ TB := tb_of (List.mem_of_getElem? (i := 130) (by decide +kernel)) rfl
theorem tb_66 : (Cond.fieldLink RX3 27 "FountainRows$Source" "ownWeights" "[I") ∈ TB := tb_of (List.mem_of_getElem? (i := 148) (by decide +kernel)) rfl
theorem tb_67 : (Cond.code yX5_drawnModulo cX5_drawnModulo 2 (some .int)) ∈ TB := tb_of (List.mem_of_getElem? (i := 319) (by decide +kernel)) rfl
theorem tb_68 : (Cond.static yX5_drawnModulo) ∈ TB := tb_of (List.mem_of_getElem? (i := 318) (by decide +kernel)) rfl
theorem tb_69 : (Cond.code yX3_degreeFor cX3_degreeFor 4 (some .int)) ∈ TB := tb_of (List.mem_of_getElem? (i := 323) (by decide +kernel)) rfl
theorem tb_70 : (Cond.methodLink RX3 89 yX3_degreeFor) ∈ TB := tb_of (List.mem_of_getElem? (i := 320) (by decide +kernel)) rfl
theorem tb_71 : (Cond.instanceMethod yX3_degreeFor) ∈ TB := tb_of (List.mem_of_getElem? (i := 322) (by decide +kernel)) rfl
theorem tb_72 : (Cond.selects RX3 yX3_degreeFor yX3_degreeFor) ∈ TB := tb_of (List.mem_of_getElem? (i := 4) (by decide +kernel)) rfl
theorem tb_73 : (Cond.code yX3_firstOutside cX3_firstOutside 6 (some .int)) ∈ TB := tb_of (List.mem_of_getElem? (i := 330) (by decide +kernel)) rfl
theorem tb_74 : (Cond.methodLink RX3 97 yX3_firstOutside) ∈ TB := tb_of (List.mem_of_getElem? (i := 327) (by decide +kernel)) rfl
theorem tb_75 : (Cond.instanceMethod yX3_firstOutside) ∈ TB := tb_of (List.mem_of_getElem? (i := 329) (by decide +kernel)) rfl
theorem tb_76 : (Cond.selects RX3 yX3_firstOutside yX3_firstOutside) ∈ TB := tb_of (List.mem_of_getElem? (i := 5) (by decide +kernel)) rfl
theorem tb_77 : (Cond.fieldLink RX3 24 "FountainRows$Source" "seed" "I") ∈ TB := tb_of (List.mem_of_getElem? (i := 146) (by decide +kernel)) rfl
theorem tb_78 : (Cond.constant RX3 51 40503) ∈ TB := tb_of (List.mem_of_getElem? (i := 125) (by decide +kernel)) rfl
theorem tb_79 : (Cond.fieldLink RX3 41 "FountainRows$Source" "totalWeight" "I") ∈ TB := tb_of (List.mem_of_getElem? (i := 149) (by decide +kernel)) rfl
theorem tb_80 : (Cond.methodLink RX3 92 Lib.Math.min.name) ∈ TB := tb_of (List.mem_of_getElem? (i := 324) (by decide +kernel)) rfl
theorem tb_81 : (Cond.static Lib.Math.min.name) ∈ TB := tb_of (List.mem_of_getElem? (i := 325) (by decide +kernel)) rfl
theorem tb_82 : (Cond.code Lib.Math.min.name Lib.Math.min.code 2 (some .int)) ∈ TB := tb_of (List.mem_of_getElem? (i := 326) (by decide +kernel)) rfl
theorem tb_83 : (Cond.code yX3_rowOf cX3_rowOf 7 (some .long)) ∈ TB := tb_of (List.mem_of_getElem? (i := 316) (by decide +kernel)) rfl
theorem tb_84 : (Cond.methodLink RX3 79 yX3_rowOf) ∈ TB := tb_of (List.mem_of_getElem? (i := 379) (by decide +kernel)) rfl
theorem tb_85 : (Cond.instanceMethod yX3_rowOf) ∈ TB := tb_of (List.mem_of_getElem? (i := 314) (by decide +kernel)) rfl
theorem tb_86 : (Cond.selects RX3 yX3_rowOf yX3_rowOf) ∈ TB := tb_of (List.mem_of_getElem? (i := 315) (by decide +kernel)) rfl
theorem tb_87 : (Cond.code yX3_partValue cX3_partValue 2 (some .long)) ∈ TB := tb_of (List.mem_of_getElem? (i := 349) (by decide +kernel)) rfl
theorem tb_88 : (Cond.methodLink RX3 82 yX3_partValue) ∈ TB := tb_of (List.mem_of_getElem? (i := 380) (by decide +kernel)) rfl
theorem tb_89 : (Cond.instanceMethod yX3_partValue) ∈ TB := tb_of (List.mem_of_getElem? (i := 347) (by decide +kernel)) rfl
theorem tb_90 : (Cond.selects RX3 yX3_partValue yX3_partValue) ∈ TB := tb_of (List.mem_of_getElem? (i := 348) (by decide +kernel)) rfl
theorem tb_91 : (Cond.fieldLink RX4 18 "FountainRows$Span" "rank" "I") ∈ TB := tb_of (List.mem_of_getElem? (i := 186) (by decide +kernel)) rfl
theorem tb_92 : (Cond.fieldLink RX4 9 "FountainRows$Span" "rows" "[J") ∈ TB := tb_of (List.mem_of_getElem? (i := 183) (by decide +kernel)) rfl
theorem tb_93 : (Cond.fieldLink RX4 15 "FountainRows$Span" "values" "[J") ∈ TB := tb_of (List.mem_of_getElem? (i := 184) (by decide +kernel)) rfl
theorem tb_94 : (Cond.code yX4_holdsAlone cX4_holdsAlone 2 (some .boolean)) ∈ TB := tb_of (List.mem_of_getElem? (i := 455) (by decide +kernel)) rfl
theorem tb_95 : (Cond.methodLink RX4 41 yX4_holdsAlone) ∈ TB := tb_of (List.mem_of_getElem? (i := 452) (by decide +kernel)) rfl
theorem tb_96 : (Cond.instanceMethod yX4_holdsAlone) ∈ TB := tb_of (List.mem_of_getElem? (i := 453) (by decide +kernel)) rfl
theorem tb_97 : (Cond.selects RX4 yX4_holdsAlone yX4_holdsAlone) ∈ TB := tb_of (List.mem_of_getElem? (i := 454) (by decide +kernel)) rfl
theorem tb_98 : (Cond.initialized RX4) ∈ TB := tb_of (List.mem_of_getElem? (i := 46) (by decide +kernel)) rfl
theorem tb_99 : (Cond.fieldLink RX4 26 "FountainRows$Span" "restRow" "J") ∈ TB := tb_of (List.mem_of_getElem? (i := 189) (by decide +kernel)) rfl
theorem tb_100 : (Cond.fieldLink RX4 30 "FountainRows$Span" "restValue" "J") ∈ TB := tb_of (List.mem_of_getElem? (i := 190) (by decide +kernel)) rfl
theorem tb_101 : (Cond.code yX4_reduce cX4_reduce 6 none) ∈ TB := tb_of (List.mem_of_getElem? (i := 244) (by decide +kernel)) rfl
theorem tb_102 : (Cond.methodLink RX4 22 yX4_reduce) ∈ TB := tb_of (List.mem_of_getElem? (i := 241) (by decide +kernel)) rfl
theorem tb_103 : (Cond.instanceMethod yX4_reduce) ∈ TB := tb_of (List.mem_of_getElem? (i := 243) (by decide +kernel)) rfl
theorem tb_104 : (Cond.selects RX4 yX4_reduce yX4_reduce) ∈ TB := tb_of (List.mem_of_getElem? (i := 1) (by decide +kernel)) rfl
theorem tb_105 : (Cond.code yX4_lowestOfRest cX4_lowestOfRest 2 (some .int)) ∈ TB := tb_of (List.mem_of_getElem? (i := 249) (by decide +kernel)) rfl
theorem tb_106 : (Cond.methodLink RX4 33 yX4_lowestOfRest) ∈ TB := tb_of (List.mem_of_getElem? (i := 246) (by decide +kernel)) rfl
theorem tb_107 : (Cond.instanceMethod yX4_lowestOfRest) ∈ TB := tb_of (List.mem_of_getElem? (i := 248) (by decide +kernel)) rfl
theorem tb_108 : (Cond.selects RX4 yX4_lowestOfRest yX4_lowestOfRest) ∈ TB := tb_of (List.mem_of_getElem? (i := 2) (by decide +kernel)) rfl
theorem tb_109 : (Cond.code yXJ_bitCount cXJ_bitCount 2 (some .int)) ∈ TB := tb_of (List.mem_of_getElem? (i := 470) (by decide +kernel)) rfl
theorem tb_110 : (Cond.methodLink RX1 29 yXJ_bitCount) ∈ TB := tb_of (List.mem_of_getElem? (i := 468) (by decide +kernel)) rfl
theorem tb_111 : (Cond.static yXJ_bitCount) ∈ TB := tb_of (List.mem_of_getElem? (i := 469) (by decide +kernel)) rfl
theorem tb_112 : (Cond.initialized RXJ) ∈ TB := tb_of (List.mem_of_getElem? (i := 48) (by decide +kernel)) rfl
theorem tb_113 : (Cond.fieldLink RX1 7 "FountainRows$Peeling" "open" "J") ∈ TB := tb_of (List.mem_of_getElem? (i := 208) (by decide +kernel)) rfl
theorem tb_114 : (Cond.code yX1_countRowsWith cX1_countRowsWith 5 (some .int)) ∈ TB := tb_of (List.mem_of_getElem? (i := 481) (by decide +kernel)) rfl
theorem tb_115 : (Cond.methodLink RX1 41 yX1_countRowsWith) ∈ TB := tb_of (List.mem_of_getElem? (i := 479) (by decide +kernel)) rfl
theorem tb_116 : (Cond.static yX1_countRowsWith) ∈ TB := tb_of (List.mem_of_getElem? (i := 480) (by decide +kernel)) rfl
theorem tb_117 : (Cond.initialized RX1) ∈ TB := tb_of (List.mem_of_getElem? (i := 47) (by decide +kernel)) rfl
theorem tb_118 : (Cond.code yX1_onlyOpenPart cX1_onlyOpenPart 4 (some .long)) ∈ TB := tb_of (List.mem_of_getElem? (i := 467) (by decide +kernel)) rfl
theorem tb_119 : (Cond.methodLink RX1 19 yX1_onlyOpenPart) ∈ TB := tb_of (List.mem_of_getElem? (i := 464) (by decide +kernel)) rfl
theorem tb_120 : (Cond.instanceMethod yX1_onlyOpenPart) ∈ TB := tb_of (List.mem_of_getElem? (i := 466) (by decide +kernel)) rfl
theorem tb_121 : (Cond.selects RX1 yX1_onlyOpenPart yX1_onlyOpenPart) ∈ TB := tb_of (List.mem_of_getElem? (i := 11) (by decide +kernel)) rfl
theorem tb_122 : (Cond.code yX1_mostSharedPart cX1_mostSharedPart 9 (some .long)) ∈ TB := tb_of (List.mem_of_getElem? (i := 477) (by decide +kernel)) rfl
theorem tb_123 : (Cond.methodLink RX1 23 yX1_mostSharedPart) ∈ TB := tb_of (List.mem_of_getElem? (i := 474) (by decide +kernel)) rfl
theorem tb_124 : (Cond.instanceMethod yX1_mostSharedPart) ∈ TB := tb_of (List.mem_of_getElem? (i := 476) (by decide +kernel)) rfl
theorem tb_125 : (Cond.selects RX1 yX1_mostSharedPart yX1_mostSharedPart) ∈ TB := tb_of (List.mem_of_getElem? (i := 12) (by decide +kernel)) rfl
theorem tb_126 : (Cond.fieldLink RX1 13 "FountainRows$Peeling" "found" "J") ∈ TB := tb_of (List.mem_of_getElem? (i := 210) (by decide +kernel)) rfl
theorem tb_127 : (Cond.fieldLink RX1 16 "FountainRows$Peeling" "inactive" "J") ∈ TB := tb_of (List.mem_of_getElem? (i := 212) (by decide +kernel)) rfl
theorem tb_128 : (Cond.constantLong RX1 27 (-1)) ∈ TB := tb_of (List.mem_of_getElem? (i := 482) (by decide +kernel)) rfl
theorem tb_129 : (Cond.fieldLink RX2 43 "FountainRows$Receiver" "takenCount" "I") ∈ TB := tb_of (List.mem_of_getElem? (i := 260) (by decide +kernel)) rfl
theorem tb_130 : (Cond.fieldLink RX2 29 "FountainRows$Receiver" "numbers" "[I") ∈ TB := tb_of (List.mem_of_getElem? (i := 256) (by decide +kernel)) rfl
theorem tb_131 : (Cond.methodLink RX2 89 yX0_numberAt) ∈ TB := tb_of (List.mem_of_getElem? (i := 430) (by decide +kernel)) rfl
theorem tb_132 : (Cond.fieldLink RX2 9 "FountainRows$Receiver" "origin" "LFountainRows$Source;") ∈ TB := tb_of (List.mem_of_getElem? (i := 250) (by decide +kernel)) rfl
theorem tb_133 : (Cond.code yX1_run cX1_run 7 none) ∈ TB := tb_of (List.mem_of_getElem? (i := 463) (by decide +kernel)) rfl
theorem tb_134 : (Cond.methodLink RX2 141 yX1_run) ∈ TB := tb_of (List.mem_of_getElem? (i := 460) (by decide +kernel)) rfl
theorem tb_135 : (Cond.instanceMethod yX1_run) ∈ TB := tb_of (List.mem_of_getElem? (i := 461) (by decide +kernel)) rfl
theorem tb_136 : (Cond.selects RX1 yX1_run yX1_run) ∈ TB := tb_of (List.mem_of_getElem? (i := 462) (by decide +kernel)) rfl
theorem tb_137 : (Cond.fieldLink RX2 47 "FountainRows$Receiver" "peelingIsOld" "Z") ∈ TB := tb_of (List.mem_of_getElem? (i := 255) (by decide +kernel)) rfl
theorem tb_138 : (Cond.fieldLink RX2 25 "FountainRows$Receiver" "peeling" "LFountainRows$Peeling;") ∈ TB := tb_of (List.mem_of_getElem? (i := 254) (by decide +kernel)) rfl
theorem tb_139 : (Cond.fieldLink RX2 37 "FountainRows$Receiver" "rows" "[J") ∈ TB := tb_of (List.mem_of_getElem? (i := 259) (by decide +kernel)) rfl
theorem tb_140 : (Cond.code yX2_freshPeeling cX2_freshPeeling 1 (some (.object "FountainRows$Peeling"))) ∈ TB := tb_of (List.mem_of_getElem? (i := 459) (by decide +kernel)) rfl
theorem tb_141 : (Cond.methodLink RX2 117 yX2_freshPeeling) ∈ TB := tb_of (List.mem_of_getElem? (i := 456) (by decide +kernel)) rfl
theorem tb_142 : (Cond.instanceMethod yX2_freshPeeling) ∈ TB := tb_of (List.mem_of_getElem? (i := 458) (by decide +kernel)) rfl
theorem tb_143 : (Cond.selects RX2 yX2_freshPeeling yX2_freshPeeling) ∈ TB := tb_of (List.mem_of_getElem? (i := 10) (by decide +kernel)) rfl
theorem tb_144 : (Cond.initialized RX2) ∈ TB := tb_of (List.mem_of_getElem? (i := 45) (by decide +kernel)) rfl
theorem tb_145 : (Cond.code yX4_clear cX4_clear 2 none) ∈ TB := tb_of (List.mem_of_getElem? (i := 228) (by decide +kernel)) rfl
theorem tb_146 : (Cond.methodLink RX2 51 yX4_clear) ∈ TB := tb_of (List.mem_of_getElem? (i := 225) (by decide +kernel)) rfl
theorem tb_147 : (Cond.instanceMethod yX4_clear) ∈ TB := tb_of (List.mem_of_getElem? (i := 226) (by decide +kernel)) rfl
theorem tb_148 : (Cond.selects RX4 yX4_clear yX4_clear) ∈ TB := tb_of (List.mem_of_getElem? (i := 227) (by decide +kernel)) rfl
theorem tb_149 : (Cond.methodLink RX2 59 yX3_symbolsOfSum) ∈ TB := tb_of (List.mem_of_getElem? (i := 229) (by decide +kernel)) rfl
theorem tb_150 : (Cond.code yX4_add cX4_add 7 none) ∈ TB := tb_of (List.mem_of_getElem? (i := 240) (by decide +kernel)) rfl
theorem tb_151 : (Cond.methodLink RX2 66 yX4_add) ∈ TB := tb_of (List.mem_of_getElem? (i := 237) (by decide +kernel)) rfl
theorem tb_152 : (Cond.instanceMethod yX4_add) ∈ TB := tb_of (List.mem_of_getElem? (i := 238) (by decide +kernel)) rfl
theorem tb_153 : (Cond.selects RX4 yX4_add yX4_add) ∈ TB := tb_of (List.mem_of_getElem? (i := 239) (by decide +kernel)) rfl
theorem tb_154 : (Cond.fieldLink RX2 18 "FountainRows$Receiver" "span" "LFountainRows$Span;") ∈ TB := tb_of (List.mem_of_getElem? (i := 252) (by decide +kernel)) rfl
theorem tb_155 : (Cond.code yX2_hasTakenNumber cX2_hasTakenNumber 3 (some .boolean)) ∈ TB := tb_of (List.mem_of_getElem? (i := 434) (by decide +kernel)) rfl
theorem tb_156 : (Cond.methodLink RX2 96 yX2_hasTakenNumber) ∈ TB := tb_of (List.mem_of_getElem? (i := 431) (by decide +kernel)) rfl
theorem tb_157 : (Cond.instanceMethod yX2_hasTakenNumber) ∈ TB := tb_of (List.mem_of_getElem? (i := 433) (by decide +kernel)) rfl
theorem tb_158 : (Cond.selects RX2 yX2_hasTakenNumber yX2_hasTakenNumber) ∈ TB := tb_of (List.mem_of_getElem? (i := 9) (by decide +kernel)) rfl
theorem tb_159 : (Cond.methodLink RX2 100 yX3_rowOf) ∈ TB := tb_of (List.mem_of_getElem? (i := 435) (by decide +kernel)) rfl
theorem tb_160 : (Cond.code yX4_contradicts cX4_contradicts 5 (some .boolean)) ∈ TB := tb_of (List.mem_of_getElem? (i := 439) (by decide +kernel)) rfl
theorem tb_161 : (Cond.methodLink RX2 103 yX4_contradicts) ∈ TB := tb_of (List.mem_of_getElem? (i := 436) (by decide +kernel)) rfl
theorem tb_162 : (Cond.instanceMethod yX4_contradicts) ∈ TB := tb_of (List.mem_of_getElem? (i := 437) (by decide +kernel)) rfl
theorem tb_163 : (Cond.selects RX4 yX4_contradicts yX4_contradicts) ∈ TB := tb_of (List.mem_of_getElem? (i := 438) (by decide +kernel)) rfl
theorem tb_164 : (Cond.fieldLink RX2 33 "FountainRows$Receiver" "outputs" "[J") ∈ TB := tb_of (List.mem_of_getElem? (i := 258) (by decide +kernel)) rfl
theorem tb_165 : (Cond.code yX0_endsWithItsSum cX0_endsWithItsSum 2 (some .boolean)) ∈ TB := tb_of (List.mem_of_getElem? (i := 420) (by decide +kernel)) rfl
theorem tb_166 : (Cond.methodLink RX2 70 yX0_endsWithItsSum) ∈ TB := tb_of (List.mem_of_getElem? (i := 417) (by decide +kernel)) rfl
theorem tb_167 : (Cond.instanceMethod yX0_endsWithItsSum) ∈ TB := tb_of (List.mem_of_getElem? (i := 418) (by decide +kernel)) rfl
theorem tb_168 : (Cond.selects RX0 yX0_endsWithItsSum yX0_endsWithItsSum) ∈ TB := tb_of (List.mem_of_getElem? (i := 419) (by decide +kernel)) rfl
theorem tb_169 : (Cond.code yX2_accept cX2_accept 8 (some .int)) ∈ TB := tb_of (List.mem_of_getElem? (i := 429) (by decide +kernel)) rfl
theorem tb_170 : (Cond.methodLink RX2 79 yX2_accept) ∈ TB := tb_of (List.mem_of_getElem? (i := 426) (by decide +kernel)) rfl
theorem tb_171 : (Cond.instanceMethod yX2_accept) ∈ TB := tb_of (List.mem_of_getElem? (i := 428) (by decide +kernel)) rfl
theorem tb_172 : (Cond.selects RX2 yX2_accept yX2_accept) ∈ TB := tb_of (List.mem_of_getElem? (i := 8) (by decide +kernel)) rfl
theorem tb_173 : (Cond.fieldLink RX2 86 "FountainRows$Receiver" "contraryCount" "I") ∈ TB := tb_of (List.mem_of_getElem? (i := 263) (by decide +kernel)) rfl
theorem tb_174 : (Cond.fieldLink RX2 83 "FountainRows$Receiver" "twiceCount" "I") ∈ TB := tb_of (List.mem_of_getElem? (i := 262) (by decide +kernel)) rfl
theorem tb_175 : (Cond.fieldLink RX2 76 "FountainRows$Receiver" "wrongCount" "I") ∈ TB := tb_of (List.mem_of_getElem? (i := 261) (by decide +kernel)) rfl
theorem tb_176 : (Cond.methodLink RX2 163 yX0_at) ∈ TB := tb_of (List.mem_of_getElem? (i := 541) (by decide +kernel)) rfl
theorem tb_177 : (Cond.code yX2_countIn cX2_countIn 1 (some .int)) ∈ TB := tb_of (List.mem_of_getElem? (i := 544) (by decide +kernel)) rfl
theorem tb_178 : (Cond.methodLink RX2 166 yX2_countIn) ∈ TB := tb_of (List.mem_of_getElem? (i := 542) (by decide +kernel)) rfl
theorem tb_179 : (Cond.static yX2_countIn) ∈ TB := tb_of (List.mem_of_getElem? (i := 543) (by decide +kernel)) rfl
theorem tb_180 : (Cond.code yX2_entryBytes cX2_entryBytes 1 (some .int)) ∈ TB := tb_of (List.mem_of_getElem? (i := 548) (by decide +kernel)) rfl
theorem tb_181 : (Cond.methodLink RX2 170 yX2_entryBytes) ∈ TB := tb_of (List.mem_of_getElem? (i := 545) (by decide +kernel)) rfl
theorem tb_182 : (Cond.instanceMethod yX2_entryBytes) ∈ TB := tb_of (List.mem_of_getElem? (i := 547) (by decide +kernel)) rfl
theorem tb_183 : (Cond.selects RX2 yX2_entryBytes yX2_entryBytes) ∈ TB := tb_of (List.mem_of_getElem? (i := 13) (by decide +kernel)) rfl
theorem tb_184 : (Cond.code yX4_countAlone cX4_countAlone 3 (some .int)) ∈ TB := tb_of (List.mem_of_getElem? (i := 451) (by decide +kernel)) rfl
theorem tb_185 : (Cond.methodLink RX2 113 yX4_countAlone) ∈ TB := tb_of (List.mem_of_getElem? (i := 448) (by decide +kernel)) rfl
theorem tb_186 : (Cond.instanceMethod yX4_countAlone) ∈ TB := tb_of (List.mem_of_getElem? (i := 449) (by decide +kernel)) rfl
theorem tb_187 : (Cond.selects RX4 yX4_countAlone yX4_countAlone) ∈ TB := tb_of (List.mem_of_getElem? (i := 450) (by decide +kernel)) rfl
theorem tb_188 : (Cond.methodLink RX2 125 yXJ_bitCount) ∈ TB := tb_of (List.mem_of_getElem? (i := 483) (by decide +kernel)) rfl
theorem tb_189 : (Cond.code yX0_shorten cX0_shorten 2 none) ∈ TB := tb_of (List.mem_of_getElem? (i := 362) (by decide +kernel)) rfl
theorem tb_190 : (Cond.methodLink RX2 145 yX0_shorten) ∈ TB := tb_of (List.mem_of_getElem? (i := 518) (by decide +kernel)) rfl
theorem tb_191 : (Cond.instanceMethod yX0_shorten) ∈ TB := tb_of (List.mem_of_getElem? (i := 360) (by decide +kernel)) rfl
theorem tb_192 : (Cond.selects RX0 yX0_shorten yX0_shorten) ∈ TB := tb_of (List.mem_of_getElem? (i := 361) (by decide +kernel)) rfl
theorem tb_193 : (Cond.code yX0_append cX0_append 5 none) ∈ TB := tb_of (List.mem_of_getElem? (i := 366) (by decide +kernel)) rfl
theorem tb_194 : (Cond.methodLink RX2 149 yX0_append) ∈ TB := tb_of (List.mem_of_getElem? (i := 519) (by decide +kernel)) rfl
theorem tb_195 : (Cond.instanceMethod yX0_append) ∈ TB := tb_of (List.mem_of_getElem? (i := 364) (by decide +kernel)) rfl
theorem tb_196 : (Cond.selects RX0 yX0_append yX0_append) ∈ TB := tb_of (List.mem_of_getElem? (i := 365) (by decide +kernel)) rfl
theorem tb_197 : (Cond.methodLink RX2 159 yX0_sumOfFirst) ∈ TB := tb_of (List.mem_of_getElem? (i := 520) (by decide +kernel)) rfl
theorem tb_198 : (Cond.code yX2_startAnew cX2_startAnew 2 none) ∈ TB := tb_of (List.mem_of_getElem? (i := 224) (by decide +kernel)) rfl
theorem tb_199 : (Cond.methodLink RX2 40 yX2_startAnew) ∈ TB := tb_of (List.mem_of_getElem? (i := 221) (by decide +kernel)) rfl
theorem tb_200 : (Cond.instanceMethod yX2_startAnew) ∈ TB := tb_of (List.mem_of_getElem? (i := 223) (by decide +kernel)) rfl
theorem tb_201 : (Cond.selects RX2 yX2_startAnew yX2_startAnew) ∈ TB := tb_of (List.mem_of_getElem? (i := 0) (by decide +kernel)) rfl
theorem tb_202 : (Cond.methodLink RX1 1 objectInit) ∈ TB := tb_of (List.mem_of_getElem? (i := 207) (by decide +kernel)) rfl
theorem tb_203 : (Cond.methodLink RX4 3 objectInit) ∈ TB := tb_of (List.mem_of_getElem? (i := 182) (by decide +kernel)) rfl
theorem tb_204 : (Cond.arrayClass .long) ∈ TB := tb_of (List.mem_of_getElem? (i := 171) (by decide +kernel)) rfl
theorem tb_205 : (Cond.code yX5_totalOf cX5_totalOf 6 (some .int)) ∈ TB := tb_of (List.mem_of_getElem? (i := 117) (by decide +kernel)) rfl
theorem tb_206 : (Cond.static yX5_totalOf) ∈ TB := tb_of (List.mem_of_getElem? (i := 116) (by decide +kernel)) rfl
theorem tb_207 : (Cond.code yX3_drawSymbols cX3_drawSymbols 6 (some .long)) ∈ TB := tb_of (List.mem_of_getElem? (i := 128) (by decide +kernel)) rfl
theorem tb_208 : (Cond.methodLink RX3 52 yX3_drawSymbols) ∈ TB := tb_of (List.mem_of_getElem? (i := 126) (by decide +kernel)) rfl
theorem tb_209 : (Cond.static yX3_drawSymbols) ∈ TB := tb_of (List.mem_of_getElem? (i := 127) (by decide +kernel)) rfl
theorem tb_210 : (Cond.methodLink RX3 3 objectInit) ∈ TB := tb_of (List.mem_of_getElem? (i := 122) (by decide +kernel)) rfl
theorem tb_211 : (Cond.methodLink RX3 31 arraycopyName) ∈ TB := tb_of (List.mem_of_getElem? (i := 123) (by decide +kernel)) rfl
theorem tb_212 : (Cond.native arraycopyName) ∈ TB := tb_of (List.mem_of_getElem? (i := 61) (by decide +kernel)) rfl
theorem tb_213 : (Cond.static arraycopyName) ∈ TB := tb_of (List.mem_of_getElem? (i := 60) (by decide +kernel)) rfl
theorem tb_214 : (Cond.initialized "java/lang/System") ∈ TB := tb_of (List.mem_of_getElem? (i := 40) (by decide +kernel)) rfl
theorem tb_215 : (Cond.code yX4_init cX4_init 1 none) ∈ TB := tb_of (List.mem_of_getElem? (i := 181) (by decide +kernel)) rfl
theorem tb_216 : (Cond.instanceMethod yX4_init) ∈ TB := tb_of (List.mem_of_getElem? (i := 180) (by decide +kernel)) rfl
theorem tb_217 : (Cond.code yX1_init cX1_init 1 none) ∈ TB := tb_of (List.mem_of_getElem? (i := 206) (by decide +kernel)) rfl
theorem tb_218 : (Cond.instanceMethod yX1_init) ∈ TB := tb_of (List.mem_of_getElem? (i := 205) (by decide +kernel)) rfl
theorem tb_219 : (Cond.methodLink RX2 3 objectInit) ∈ TB := tb_of (List.mem_of_getElem? (i := 176) (by decide +kernel)) rfl
theorem tb_220 : (Cond.classLink RX2 15 RX4) ∈ TB := tb_of (List.mem_of_getElem? (i := 177) (by decide +kernel)) rfl
theorem tb_221 : (Cond.instantiable RX4 5) ∈ TB := tb_of (List.mem_of_getElem? (i := 178) (by decide +kernel)) rfl
theorem tb_222 : (Cond.classLink RX2 22 RX1) ∈ TB := tb_of (List.mem_of_getElem? (i := 202) (by decide +kernel)) rfl
theorem tb_223 : (Cond.instantiable RX1 3) ∈ TB := tb_of (List.mem_of_getElem? (i := 203) (by decide +kernel)) rfl
theorem tb_224 : (Cond.fieldLink RX5 34 "FountainRows" "sourceCount" "I") ∈ TB := tb_of (List.mem_of_getElem? (i := 88) (by decide +kernel)) rfl
theorem tb_225 : (Cond.fieldLink RX5 24 "FountainRows" "sources" "[LFountainRows$Source;") ∈ TB := tb_of (List.mem_of_getElem? (i := 86) (by decide +kernel)) rfl
theorem tb_226 : (Cond.fieldLink RX5 30 "FountainRows" "receivers" "[LFountainRows$Receiver;") ∈ TB := tb_of (List.mem_of_getElem? (i := 87) (by decide +kernel)) rfl
theorem tb_227 : (Cond.fieldLink RX5 9 "FountainRows" "weights" "[I") ∈ TB := tb_of (List.mem_of_getElem? (i := 85) (by decide +kernel)) rfl
theorem tb_228 : (Cond.methodLink RX5 118 yX0_has) ∈ TB := tb_of (List.mem_of_getElem? (i := 394) (by decide +kernel)) rfl
theorem tb_229 : (Cond.methodLink RX5 121 yX0_at) ∈ TB := tb_of (List.mem_of_getElem? (i := 395) (by decide +kernel)) rfl
theorem tb_230 : (Cond.fieldLink RX5 47 "FountainRows" "frameSource" "I") ∈ TB := tb_of (List.mem_of_getElem? (i := 90) (by decide +kernel)) rfl
theorem tb_231 : (Cond.fieldLink RX5 43 "FountainRows" "frameBytes" "LFountainRows$Bytes;") ∈ TB := tb_of (List.mem_of_getElem? (i := 89) (by decide +kernel)) rfl
theorem tb_232 : (Cond.methodLink RX5 124 yX0_put) ∈ TB := tb_of (List.mem_of_getElem? (i := 400) (by decide +kernel)) rfl
theorem tb_233 : (Cond.fieldLink RX5 50 "FountainRows" "imageBytes" "LFountainRows$Bytes;") ∈ TB := tb_of (List.mem_of_getElem? (i := 91) (by decide +kernel)) rfl
theorem tb_234 : (Cond.methodLink RX5 98 yX0_shorten) ∈ TB := tb_of (List.mem_of_getElem? (i := 359) (by decide +kernel)) rfl
theorem tb_235 : (Cond.methodLink RX5 114 yX0_sumOfFirst) ∈ TB := tb_of (List.mem_of_getElem? (i := 381) (by decide +kernel)) rfl
theorem tb_236 : (Cond.methodLink RX5 101 yX0_append) ∈ TB := tb_of (List.mem_of_getElem? (i := 363) (by decide +kernel)) rfl
theorem tb_237 : (Cond.code yX5_sourceAt cX5_sourceAt 2 (some (.object "FountainRows$Source"))) ∈ TB := tb_of (List.mem_of_getElem? (i := 294) (by decide +kernel)) rfl
theorem tb_238 : (Cond.methodLink RX5 63 yX5_sourceAt) ∈ TB := tb_of (List.mem_of_getElem? (i := 291) (by decide +kernel)) rfl
theorem tb_239 : (Cond.instanceMethod yX5_sourceAt) ∈ TB := tb_of (List.mem_of_getElem? (i := 293) (by decide +kernel)) rfl
theorem tb_240 : (Cond.selects RX5 yX5_sourceAt yX5_sourceAt) ∈ TB := tb_of (List.mem_of_getElem? (i := 3) (by decide +kernel)) rfl
theorem tb_241 : (Cond.constantLong RX5 75 (-1)) ∈ TB := tb_of (List.mem_of_getElem? (i := 308) (by decide +kernel)) rfl
theorem tb_242 : (Cond.code yX5_receiverAt cX5_receiverAt 2 (some (.object "FountainRows$Receiver"))) ∈ TB := tb_of (List.mem_of_getElem? (i := 412) (by decide +kernel)) rfl
theorem tb_243 : (Cond.methodLink RX5 128 yX5_receiverAt) ∈ TB := tb_of (List.mem_of_getElem? (i := 409) (by decide +kernel)) rfl
theorem tb_244 : (Cond.instanceMethod yX5_receiverAt) ∈ TB := tb_of (List.mem_of_getElem? (i := 411) (by decide +kernel)) rfl
theorem tb_245 : (Cond.selects RX5 yX5_receiverAt yX5_receiverAt) ∈ TB := tb_of (List.mem_of_getElem? (i := 7) (by decide +kernel)) rfl
theorem tb_246 : (Cond.code yX5_isNumber cX5_isNumber 1 (some .boolean)) ∈ TB := tb_of (List.mem_of_getElem? (i := 311) (by decide +kernel)) rfl
theorem tb_247 : (Cond.methodLink RX5 77 yX5_isNumber) ∈ TB := tb_of (List.mem_of_getElem? (i := 309) (by decide +kernel)) rfl
theorem tb_248 : (Cond.static yX5_isNumber) ∈ TB := tb_of (List.mem_of_getElem? (i := 310) (by decide +kernel)) rfl
theorem tb_249 : (Cond.methodLink RX5 80 yX3_rowOf) ∈ TB := tb_of (List.mem_of_getElem? (i := 313) (by decide +kernel)) rfl
theorem tb_250 : (Cond.constantLong RX5 84 (-2)) ∈ TB := tb_of (List.mem_of_getElem? (i := 331) (by decide +kernel)) rfl
theorem tb_251 : (Cond.methodLink RX5 86 yX3_hasSum) ∈ TB := tb_of (List.mem_of_getElem? (i := 336) (by decide +kernel)) rfl
theorem tb_252 : (Cond.methodLink RX5 89 yX3_symbolsOfSum) ∈ TB := tb_of (List.mem_of_getElem? (i := 337) (by decide +kernel)) rfl
theorem tb_253 : (Cond.code yX3_hasPart cX3_hasPart 2 (some .boolean)) ∈ TB := tb_of (List.mem_of_getElem? (i := 345) (by decide +kernel)) rfl
theorem tb_254 : (Cond.methodLink RX5 92 yX3_hasPart) ∈ TB := tb_of (List.mem_of_getElem? (i := 342) (by decide +kernel)) rfl
theorem tb_255 : (Cond.instanceMethod yX3_hasPart) ∈ TB := tb_of (List.mem_of_getElem? (i := 343) (by decide +kernel)) rfl
theorem tb_256 : (Cond.selects RX3 yX3_hasPart yX3_hasPart) ∈ TB := tb_of (List.mem_of_getElem? (i := 344) (by decide +kernel)) rfl
theorem tb_257 : (Cond.methodLink RX5 95 yX3_partValue) ∈ TB := tb_of (List.mem_of_getElem? (i := 346) (by decide +kernel)) rfl
theorem tb_258 : (Cond.methodLink RX5 67 yX3_hasSymbol) ∈ TB := tb_of (List.mem_of_getElem? (i := 295) (by decide +kernel)) rfl
theorem tb_259 : (Cond.code yX3_setSymbol cX3_setSymbol 4 none) ∈ TB := tb_of (List.mem_of_getElem? (i := 302) (by decide +kernel)) rfl
theorem tb_260 : (Cond.methodLink RX5 71 yX3_setSymbol) ∈ TB := tb_of (List.mem_of_getElem? (i := 299) (by decide +kernel)) rfl
theorem tb_261 : (Cond.instanceMethod yX3_setSymbol) ∈ TB := tb_of (List.mem_of_getElem? (i := 300) (by decide +kernel)) rfl
theorem tb_262 : (Cond.selects RX3 yX3_setSymbol yX3_setSymbol) ∈ TB := tb_of (List.mem_of_getElem? (i := 301) (by decide +kernel)) rfl
theorem tb_263 : (Cond.code yX3_outputOf cX3_outputOf 7 (some .long)) ∈ TB := tb_of (List.mem_of_getElem? (i := 378) (by decide +kernel)) rfl
theorem tb_264 : (Cond.methodLink RX5 105 yX3_outputOf) ∈ TB := tb_of (List.mem_of_getElem? (i := 375) (by decide +kernel)) rfl
theorem tb_265 : (Cond.instanceMethod yX3_outputOf) ∈ TB := tb_of (List.mem_of_getElem? (i := 376) (by decide +kernel)) rfl
theorem tb_266 : (Cond.selects RX3 yX3_outputOf yX3_outputOf) ∈ TB := tb_of (List.mem_of_getElem? (i := 377) (by decide +kernel)) rfl
theorem tb_267 : (Cond.code yX2_hasTaken cX2_hasTaken 2 (some .boolean)) ∈ TB := tb_of (List.mem_of_getElem? (i := 491) (by decide +kernel)) rfl
theorem tb_268 : (Cond.methodLink RX5 139 yX2_hasTaken) ∈ TB := tb_of (List.mem_of_getElem? (i := 488) (by decide +kernel)) rfl
theorem tb_269 : (Cond.instanceMethod yX2_hasTaken) ∈ TB := tb_of (List.mem_of_getElem? (i := 489) (by decide +kernel)) rfl
theorem tb_270 : (Cond.selects RX2 yX2_hasTaken yX2_hasTaken) ∈ TB := tb_of (List.mem_of_getElem? (i := 490) (by decide +kernel)) rfl
theorem tb_271 : (Cond.methodLink RX5 153 yX4_holdsAlone) ∈ TB := tb_of (List.mem_of_getElem? (i := 496) (by decide +kernel)) rfl
theorem tb_272 : (Cond.code yX2_peelingOf cX2_peelingOf 3 (some .int)) ∈ TB := tb_of (List.mem_of_getElem? (i := 508) (by decide +kernel)) rfl
theorem tb_273 : (Cond.methodLink RX5 162 yX2_peelingOf) ∈ TB := tb_of (List.mem_of_getElem? (i := 505) (by decide +kernel)) rfl
theorem tb_274 : (Cond.instanceMethod yX2_peelingOf) ∈ TB := tb_of (List.mem_of_getElem? (i := 506) (by decide +kernel)) rfl
theorem tb_275 : (Cond.selects RX2 yX2_peelingOf yX2_peelingOf) ∈ TB := tb_of (List.mem_of_getElem? (i := 507) (by decide +kernel)) rfl
theorem tb_276 : (Cond.code yX2_tell cX2_tell 2 (some .int)) ∈ TB := tb_of (List.mem_of_getElem? (i := 447) (by decide +kernel)) rfl
theorem tb_277 : (Cond.methodLink RX5 136 yX2_tell) ∈ TB := tb_of (List.mem_of_getElem? (i := 444) (by decide +kernel)) rfl
theorem tb_278 : (Cond.instanceMethod yX2_tell) ∈ TB := tb_of (List.mem_of_getElem? (i := 445) (by decide +kernel)) rfl
theorem tb_279 : (Cond.selects RX2 yX2_tell yX2_tell) ∈ TB := tb_of (List.mem_of_getElem? (i := 446) (by decide +kernel)) rfl
theorem tb_280 : (Cond.code yX2_writeTo cX2_writeTo 3 none) ∈ TB := tb_of (List.mem_of_getElem? (i := 517) (by decide +kernel)) rfl
theorem tb_281 : (Cond.methodLink RX5 165 yX2_writeTo) ∈ TB := tb_of (List.mem_of_getElem? (i := 514) (by decide +kernel)) rfl
theorem tb_282 : (Cond.instanceMethod yX2_writeTo) ∈ TB := tb_of (List.mem_of_getElem? (i := 515) (by decide +kernel)) rfl
theorem tb_283 : (Cond.selects RX2 yX2_writeTo yX2_writeTo) ∈ TB := tb_of (List.mem_of_getElem? (i := 516) (by decide +kernel)) rfl
theorem tb_284 : (Cond.code yX2_takeFrame cX2_takeFrame 3 (some .int)) ∈ TB := tb_of (List.mem_of_getElem? (i := 416) (by decide +kernel)) rfl
theorem tb_285 : (Cond.methodLink RX5 132 yX2_takeFrame) ∈ TB := tb_of (List.mem_of_getElem? (i := 413) (by decide +kernel)) rfl
theorem tb_286 : (Cond.instanceMethod yX2_takeFrame) ∈ TB := tb_of (List.mem_of_getElem? (i := 414) (by decide +kernel)) rfl
theorem tb_287 : (Cond.selects RX2 yX2_takeFrame yX2_takeFrame) ∈ TB := tb_of (List.mem_of_getElem? (i := 415) (by decide +kernel)) rfl
theorem tb_288 : (Cond.code yX2_faultOf cX2_faultOf 2 (some .int)) ∈ TB := tb_of (List.mem_of_getElem? (i := 540) (by decide +kernel)) rfl
theorem tb_289 : (Cond.methodLink RX5 169 yX2_faultOf) ∈ TB := tb_of (List.mem_of_getElem? (i := 537) (by decide +kernel)) rfl
theorem tb_290 : (Cond.instanceMethod yX2_faultOf) ∈ TB := tb_of (List.mem_of_getElem? (i := 538) (by decide +kernel)) rfl
theorem tb_291 : (Cond.selects RX2 yX2_faultOf yX2_faultOf) ∈ TB := tb_of (List.mem_of_getElem? (i := 539) (by decide +kernel)) rfl
theorem tb_292 : (Cond.code yX2_readFrom cX2_readFrom 4 none) ∈ TB := tb_of (List.mem_of_getElem? (i := 552) (by decide +kernel)) rfl
theorem tb_293 : (Cond.methodLink RX5 172 yX2_readFrom) ∈ TB := tb_of (List.mem_of_getElem? (i := 549) (by decide +kernel)) rfl
theorem tb_294 : (Cond.instanceMethod yX2_readFrom) ∈ TB := tb_of (List.mem_of_getElem? (i := 550) (by decide +kernel)) rfl
theorem tb_295 : (Cond.selects RX2 yX2_readFrom yX2_readFrom) ∈ TB := tb_of (List.mem_of_getElem? (i := 551) (by decide +kernel)) rfl
theorem tb_296 : (Cond.methodLink RX5 53 yX5_totalOf) ∈ TB := tb_of (List.mem_of_getElem? (i := 115) (by decide +kernel)) rfl
theorem tb_297 : (Cond.code yX3_init cX3_init 7 none) ∈ TB := tb_of (List.mem_of_getElem? (i := 121) (by decide +kernel)) rfl
theorem tb_298 : (Cond.methodLink RX5 57 yX3_init) ∈ TB := tb_of (List.mem_of_getElem? (i := 119) (by decide +kernel)) rfl
theorem tb_299 : (Cond.instanceMethod yX3_init) ∈ TB := tb_of (List.mem_of_getElem? (i := 120) (by decide +kernel)) rfl
theorem tb_300 : (Cond.code yX2_init cX2_init 2 none) ∈ TB := tb_of (List.mem_of_getElem? (i := 175) (by decide +kernel)) rfl
theorem tb_301 : (Cond.methodLink RX5 60 yX2_init) ∈ TB := tb_of (List.mem_of_getElem? (i := 173) (by decide +kernel)) rfl
theorem tb_302 : (Cond.instanceMethod yX2_init) ∈ TB := tb_of (List.mem_of_getElem? (i := 174) (by decide +kernel)) rfl
theorem tb_303 : (Cond.classLink RX5 22 RX3) ∈ TB := tb_of (List.mem_of_getElem? (i := 62) (by decide +kernel)) rfl
theorem tb_304 : (Cond.instantiable RX3 9) ∈ TB := tb_of (List.mem_of_getElem? (i := 118) (by decide +kernel)) rfl
theorem tb_305 : (Cond.classLink RX5 28 RX2) ∈ TB := tb_of (List.mem_of_getElem? (i := 64) (by decide +kernel)) rfl
theorem tb_306 : (Cond.instantiable RX2 11) ∈ TB := tb_of (List.mem_of_getElem? (i := 172) (by decide +kernel)) rfl
