theorem wm_max2 : Cond.static Lib.Math.max.name ∈ BG := mem_T (i := 278) (by decide +kernel) rfl
theorem wm_max4 : Cond.code Lib.Math.max.name Lib.Math.max.code 2 (some .int) ∈ BG := mem_T (i := 279) (by decide +kernel) rfl
theorem wm_min2 : Cond.static Lib.Math.min.name ∈ BG := mem_T (i := 281) (by decide +kernel) rfl
theorem wm_min4 : Cond.code Lib.Math.min.name Lib.Math.min.code 2 (some .int) ∈ BG := mem_T (i := 282) (by decide +kernel) rfl
theorem wm_ini : Cond.initialized "java/lang/Math" ∈ BG := mem_T (i := 8) (by decide +kernel) rfl
theorem wa_2 : Cond.native arraycopyName ∈ BG := mem_T (i := 332) (by decide +kernel) rfl
theorem wa_3 : Cond.static arraycopyName ∈ BG := mem_T (i := 331) (by decide +kernel) rfl
theorem wa_4 : Cond.initialized "java/lang/System" ∈ BG := mem_T (i := 9) (by decide +kernel) rfl
theorem wq_0 : Cond.fieldLink RX0 9 "HillDance$Reader" "tape" "[I" ∈ BG := mem_T (i := 87) (by decide +kernel) rfl
theorem wq_1 : Cond.fieldLink RX0 15 "HillDance$Reader" "length" "I" ∈ BG := mem_T (i := 88) (by decide +kernel) rfl
theorem wq_2 : Cond.fieldLink RX0 45 "HillDance$Reader" "number" "I" ∈ BG := mem_T (i := 93) (by decide +kernel) rfl
theorem wq_3 : Cond.fieldLink RX0 19 "HillDance$Reader" "end" "I" ∈ BG := mem_T (i := 91) (by decide +kernel) rfl
theorem wq_4 : Cond.methodLink RX0 117 yX0_isDigit ∈ BG := mem_T (i := 526) (by decide +kernel) rfl
theorem wq_5 : Cond.static yX0_isDigit ∈ BG := mem_T (i := 527) (by decide +kernel) rfl
theorem wq_6 : Cond.initialized RX0 ∈ BG := mem_T (i := 3) (by decide +kernel) rfl
theorem wq_7 : Cond.code yX0_isDigit cX0_isDigit 1 (some (.boolean)) ∈ BG := mem_T (i := 528) (by decide +kernel) rfl
theorem wq_8 : Cond.methodLink RX0 111 yX0_isLetter ∈ BG := mem_T (i := 519) (by decide +kernel) rfl
theorem wq_9 : Cond.static yX0_isLetter ∈ BG := mem_T (i := 520) (by decide +kernel) rfl
theorem wq_10 : Cond.code yX0_isLetter cX0_isLetter 1 (some (.boolean)) ∈ BG := mem_T (i := 521) (by decide +kernel) rfl
theorem wq_11 : Cond.fieldLink RX0 29 "HillDance$Reader" "begin" "I" ∈ BG := mem_T (i := 90) (by decide +kernel) rfl
theorem wq_12 : Cond.methodLink RX0 123 yX0_signOf ∈ BG := mem_T (i := 534) (by decide +kernel) rfl
theorem wq_13 : Cond.static yX0_signOf ∈ BG := mem_T (i := 535) (by decide +kernel) rfl
theorem wq_14 : Cond.code yX0_signOf cX0_signOf 1 (some (.int)) ∈ BG := mem_T (i := 536) (by decide +kernel) rfl
theorem wq_15 : Cond.fieldLink RX0 32 "HillDance$Reader" "token" "I" ∈ BG := mem_T (i := 92) (by decide +kernel) rfl
theorem wq_16 : Cond.methodLink RX0 120 yX0_takeDigits ∈ BG := mem_T (i := 529) (by decide +kernel) rfl
theorem wq_17 : Cond.instanceMethod yX0_takeDigits ∈ BG := mem_T (i := 531) (by decide +kernel) rfl
theorem wq_18 : Cond.selects RX0 yX0_takeDigits yX0_takeDigits ∈ BG := mem_P (i := 18) (by decide +kernel) rfl
theorem wq_19 : Cond.code yX0_takeDigits cX0_takeDigits 1 none ∈ BG := mem_T (i := 532) (by decide +kernel) rfl
theorem wq_20 : Cond.methodLink RX0 114 yX0_takeLetters ∈ BG := mem_T (i := 522) (by decide +kernel) rfl
theorem wq_21 : Cond.instanceMethod yX0_takeLetters ∈ BG := mem_T (i := 524) (by decide +kernel) rfl
theorem wq_22 : Cond.selects RX0 yX0_takeLetters yX0_takeLetters ∈ BG := mem_P (i := 17) (by decide +kernel) rfl
theorem wq_23 : Cond.code yX0_takeLetters cX0_takeLetters 1 none ∈ BG := mem_T (i := 525) (by decide +kernel) rfl
theorem wq_24 : Cond.methodLink RX0 103 yJ0_length_8abf5 ∈ BG := mem_T (i := 546) (by decide +kernel) rfl
theorem wq_25 : Cond.instanceMethod yJ0_length_8abf5 ∈ BG := mem_T (i := 547) (by decide +kernel) rfl
theorem wq_26 : Cond.selects RJ0 yJ0_length_8abf5 yJ0_length_8abf5 ∈ BG := mem_T (i := 548) (by decide +kernel) rfl
theorem wq_27 : Cond.initialized RJ0 ∈ BG := mem_T (i := 10) (by decide +kernel) rfl
theorem wq_28 : Cond.code yJ0_length_8abf5 cJ0_length_8abf5 1 (some (.int)) ∈ BG := mem_T (i := 549) (by decide +kernel) rfl
theorem wq_29 : Cond.methodLink RX0 107 yJ0_charAt_5068e ∈ BG := mem_T (i := 556) (by decide +kernel) rfl
theorem wq_30 : Cond.instanceMethod yJ0_charAt_5068e ∈ BG := mem_T (i := 557) (by decide +kernel) rfl
theorem wq_31 : Cond.selects RJ0 yJ0_charAt_5068e yJ0_charAt_5068e ∈ BG := mem_T (i := 558) (by decide +kernel) rfl
theorem wq_32 : Cond.code yJ0_charAt_5068e cJ0_charAt_5068e 2 (some (.char)) ∈ BG := mem_T (i := 559) (by decide +kernel) rfl
theorem wq_33 : Cond.methodLink RX0 85 yX0_wordOf ∈ BG := mem_T (i := 602) (by decide +kernel) rfl
theorem wq_34 : Cond.static yX0_wordOf ∈ BG := mem_T (i := 603) (by decide +kernel) rfl
theorem wq_35 : Cond.code yX0_wordOf cX0_wordOf 1 (some (.object "java/lang/String")) ∈ BG := mem_T (i := 604) (by decide +kernel) rfl
theorem wq_36 : Cond.methodLink RX0 37 yX0_isWord ∈ BG := mem_T (i := 542) (by decide +kernel) rfl
theorem wq_37 : Cond.instanceMethod yX0_isWord ∈ BG := mem_T (i := 544) (by decide +kernel) rfl
theorem wq_38 : Cond.selects RX0 yX0_isWord yX0_isWord ∈ BG := mem_P (i := 20) (by decide +kernel) rfl
theorem wq_39 : Cond.code yX0_isWord cX0_isWord 3 (some (.boolean)) ∈ BG := mem_T (i := 545) (by decide +kernel) rfl
theorem wq_40 : Cond.fieldLink RX2 46 "HillDance$Shire" "standing" "[I" ∈ BG := mem_T (i := 47) (by decide +kernel) rfl
theorem wq_41 : Cond.methodLink RX2 67 yJ7_fill_53178 ∈ BG := mem_T (i := 180) (by decide +kernel) rfl
theorem wq_42 : Cond.static yJ7_fill_53178 ∈ BG := mem_T (i := 181) (by decide +kernel) rfl
theorem wq_43 : Cond.initialized RJ7 ∈ BG := mem_T (i := 6) (by decide +kernel) rfl
theorem wq_44 : Cond.code yJ7_fill_53178 cJ7_fill_53178 4 none ∈ BG := mem_T (i := 182) (by decide +kernel) rfl
theorem wq_45 : Cond.fieldLink RX2 49 "HillDance$Shire" "looking" "[I" ∈ BG := mem_T (i := 48) (by decide +kernel) rfl
theorem wq_46 : Cond.fieldLink RX2 52 "HillDance$Shire" "hills" "I" ∈ BG := mem_T (i := 35) (by decide +kernel) rfl
theorem wq_47 : Cond.fieldLink RX2 43 "HillDance$Shire" "met" "[I" ∈ BG := mem_T (i := 46) (by decide +kernel) rfl
theorem wq_48 : Cond.fieldLink RX2 40 "HillDance$Shire" "faced" "[I" ∈ BG := mem_T (i := 45) (by decide +kernel) rfl
theorem wq_49 : Cond.fieldLink RX2 25 "HillDance$Shire" "valleys" "[I" ∈ BG := mem_T (i := 40) (by decide +kernel) rfl
theorem wq_50 : Cond.fieldLink RX2 31 "HillDance$Shire" "turns" "[I" ∈ BG := mem_T (i := 42) (by decide +kernel) rfl
theorem wq_51 : Cond.fieldLink RX2 22 "HillDance$Shire" "kinds" "[I" ∈ BG := mem_T (i := 39) (by decide +kernel) rfl
theorem wq_52 : Cond.methodLink RX2 55 yX2_lookAround ∈ BG := mem_T (i := 176) (by decide +kernel) rfl
theorem wq_53 : Cond.instanceMethod yX2_lookAround ∈ BG := mem_T (i := 178) (by decide +kernel) rfl
theorem wq_54 : Cond.selects RX2 yX2_lookAround yX2_lookAround ∈ BG := mem_P (i := 1) (by decide +kernel) rfl
theorem wq_55 : Cond.initialized RX2 ∈ BG := mem_T (i := 2) (by decide +kernel) rfl
theorem wq_56 : Cond.code yX2_lookAround cX2_lookAround 3 none ∈ BG := mem_T (i := 179) (by decide +kernel) rfl
theorem wq_57 : Cond.fieldLink RX2 28 "HillDance$Shire" "steps" "[I" ∈ BG := mem_T (i := 41) (by decide +kernel) rfl
theorem wq_58 : Cond.fieldLink RX2 34 "HillDance$Shire" "heights" "[I" ∈ BG := mem_T (i := 43) (by decide +kernel) rfl
theorem wq_59 : Cond.fieldLink RX2 37 "HillDance$Shire" "bows" "[I" ∈ BG := mem_T (i := 44) (by decide +kernel) rfl
theorem wq_60 : Cond.methodLink RX0 22 yX0_advance ∈ BG := mem_T (i := 515) (by decide +kernel) rfl
theorem wq_61 : Cond.instanceMethod yX0_advance ∈ BG := mem_T (i := 517) (by decide +kernel) rfl
theorem wq_62 : Cond.selects RX0 yX0_advance yX0_advance ∈ BG := mem_P (i := 16) (by decide +kernel) rfl
theorem wq_63 : Cond.code yX0_advance cX0_advance 1 none ∈ BG := mem_T (i := 518) (by decide +kernel) rfl
theorem wq_64 : Cond.static yX3_mostOf ∈ BG := mem_T (i := 239) (by decide +kernel) rfl
theorem wq_65 : Cond.initialized RX3 ∈ BG := mem_T (i := 1) (by decide +kernel) rfl
theorem wq_66 : Cond.code yX3_mostOf cX3_mostOf 1 (some (.int)) ∈ BG := mem_T (i := 240) (by decide +kernel) rfl
theorem wq_67 : Cond.methodLink RX0 41 yX0_isNumberTo ∈ BG := mem_T (i := 594) (by decide +kernel) rfl
theorem wq_68 : Cond.instanceMethod yX0_isNumberTo ∈ BG := mem_T (i := 596) (by decide +kernel) rfl
theorem wq_69 : Cond.selects RX0 yX0_isNumberTo yX0_isNumberTo ∈ BG := mem_P (i := 21) (by decide +kernel) rfl
theorem wq_70 : Cond.code yX0_isNumberTo cX0_isNumberTo 2 (some (.boolean)) ∈ BG := mem_T (i := 597) (by decide +kernel) rfl
theorem wq_71 : Cond.methodLink RX0 81 yX2_setTrait ∈ BG := mem_T (i := 620) (by decide +kernel) rfl
theorem wq_72 : Cond.instanceMethod yX2_setTrait ∈ BG := mem_T (i := 242) (by decide +kernel) rfl
theorem wq_73 : Cond.selects RX2 yX2_setTrait yX2_setTrait ∈ BG := mem_T (i := 243) (by decide +kernel) rfl
theorem wq_74 : Cond.code yX2_setTrait cX2_setTrait 4 none ∈ BG := mem_T (i := 244) (by decide +kernel) rfl
theorem wq_75 : Cond.methodLink RX0 53 yX0_kindTold ∈ BG := mem_T (i := 598) (by decide +kernel) rfl
theorem wq_76 : Cond.instanceMethod yX0_kindTold ∈ BG := mem_T (i := 600) (by decide +kernel) rfl
theorem wq_77 : Cond.selects RX0 yX0_kindTold yX0_kindTold ∈ BG := mem_P (i := 22) (by decide +kernel) rfl
theorem wq_78 : Cond.code yX0_kindTold cX0_kindTold 2 (some (.int)) ∈ BG := mem_T (i := 601) (by decide +kernel) rfl
theorem wq_79 : Cond.methodLink RX0 57 yX2_isCrowded ∈ BG := mem_T (i := 612) (by decide +kernel) rfl
theorem wq_80 : Cond.instanceMethod yX2_isCrowded ∈ BG := mem_T (i := 169) (by decide +kernel) rfl
theorem wq_81 : Cond.selects RX2 yX2_isCrowded yX2_isCrowded ∈ BG := mem_T (i := 170) (by decide +kernel) rfl
theorem wq_82 : Cond.code yX2_isCrowded cX2_isCrowded 1 (some (.boolean)) ∈ BG := mem_T (i := 171) (by decide +kernel) rfl
theorem wq_83 : Cond.methodLink RX0 61 yX2_raise ∈ BG := mem_T (i := 613) (by decide +kernel) rfl
theorem wq_84 : Cond.instanceMethod yX2_raise ∈ BG := mem_T (i := 173) (by decide +kernel) rfl
theorem wq_85 : Cond.selects RX2 yX2_raise yX2_raise ∈ BG := mem_T (i := 174) (by decide +kernel) rfl
theorem wq_86 : Cond.code yX2_raise cX2_raise 4 (some (.int)) ∈ BG := mem_T (i := 175) (by decide +kernel) rfl
theorem wq_87 : Cond.methodLink RX0 67 yX0_readTrait ∈ BG := mem_T (i := 615) (by decide +kernel) rfl
theorem wq_88 : Cond.instanceMethod yX0_readTrait ∈ BG := mem_T (i := 617) (by decide +kernel) rfl
theorem wq_89 : Cond.selects RX0 yX0_readTrait yX0_readTrait ∈ BG := mem_P (i := 23) (by decide +kernel) rfl
theorem wq_90 : Cond.code yX0_readTrait cX0_readTrait 6 (some (.boolean)) ∈ BG := mem_T (i := 618) (by decide +kernel) rfl
theorem wq_91 : Cond.methodLink RX0 25 yX0_readItem ∈ BG := mem_T (i := 537) (by decide +kernel) rfl
theorem wq_92 : Cond.instanceMethod yX0_readItem ∈ BG := mem_T (i := 539) (by decide +kernel) rfl
theorem wq_93 : Cond.selects RX0 yX0_readItem yX0_readItem ∈ BG := mem_P (i := 19) (by decide +kernel) rfl
theorem wq_94 : Cond.code yX0_readItem cX0_readItem 4 (some (.boolean)) ∈ BG := mem_T (i := 540) (by decide +kernel) rfl
theorem wq_95 : Cond.fieldLink RX1 15 "HillDance$Sheet" "bits" "I" ∈ BG := mem_T (i := 114) (by decide +kernel) rfl
theorem wq_96 : Cond.fieldLink RX1 19 "HillDance$Sheet" "length" "I" ∈ BG := mem_T (i := 116) (by decide +kernel) rfl
theorem wq_97 : Cond.fieldLink RX1 9 "HillDance$Sheet" "numbers" "[I" ∈ BG := mem_T (i := 118) (by decide +kernel) rfl
theorem wq_98 : Cond.methodLink RX1 22 yJ7_fill_53178 ∈ BG := mem_T (i := 646) (by decide +kernel) rfl
theorem wq_99 : Cond.fieldLink RX2 9 "HillDance$Shire" "rainfall" "I" ∈ BG := mem_T (i := 28) (by decide +kernel) rfl
theorem wq_100 : Cond.fieldLink RX2 58 "HillDance$Shire" "age" "I" ∈ BG := mem_T (i := 31) (by decide +kernel) rfl
theorem wq_101 : Cond.fieldLink RX2 15 "HillDance$Shire" "z" "I" ∈ BG := mem_T (i := 33) (by decide +kernel) rfl
theorem wq_102 : Cond.fieldLink RX2 18 "HillDance$Shire" "spots" "[I" ∈ BG := mem_T (i := 37) (by decide +kernel) rfl
theorem wq_103 : Cond.methodLink RX2 76 yX2_valleysIn ∈ BG := mem_T (i := 308) (by decide +kernel) rfl
theorem wq_104 : Cond.static yX2_valleysIn ∈ BG := mem_T (i := 309) (by decide +kernel) rfl
theorem wq_105 : Cond.code yX2_valleysIn cX2_valleysIn 3 (some (.int)) ∈ BG := mem_T (i := 310) (by decide +kernel) rfl
theorem wq_106 : Cond.methodLink RX2 80 yX2_sumOf ∈ BG := mem_T (i := 300) (by decide +kernel) rfl
theorem wq_107 : Cond.instanceMethod yX2_sumOf ∈ BG := mem_T (i := 302) (by decide +kernel) rfl
theorem wq_108 : Cond.selects RX2 yX2_sumOf yX2_sumOf ∈ BG := mem_P (i := 5) (by decide +kernel) rfl
theorem wq_109 : Cond.code yX2_sumOf cX2_sumOf 4 (some (.int)) ∈ BG := mem_T (i := 303) (by decide +kernel) rfl
theorem wq_110 : Cond.methodLink RX3 256 yJ9_floorMod_7cf53 ∈ BG := mem_T (i := 409) (by decide +kernel) rfl
theorem wq_111 : Cond.static yJ9_floorMod_7cf53 ∈ BG := mem_T (i := 284) (by decide +kernel) rfl
theorem wq_112 : Cond.initialized RJ9 ∈ BG := mem_T (i := 8) (by decide +kernel) rfl
theorem wq_113 : Cond.code yJ9_floorMod_7cf53 cJ9_floorMod_7cf53 3 (some (.int)) ∈ BG := mem_T (i := 285) (by decide +kernel) rfl
theorem wq_114 : Cond.static yX3_waysOn ∈ BG := mem_T (i := 407) (by decide +kernel) rfl
theorem wq_115 : Cond.code yX3_waysOn cX3_waysOn 2 (some (.int)) ∈ BG := mem_T (i := 408) (by decide +kernel) rfl
theorem wq_116 : Cond.methodLink RX2 87 yX2_climbOn ∈ BG := mem_T (i := 424) (by decide +kernel) rfl
theorem wq_117 : Cond.instanceMethod yX2_climbOn ∈ BG := mem_T (i := 411) (by decide +kernel) rfl
theorem wq_118 : Cond.selects RX2 yX2_climbOn yX2_climbOn ∈ BG := mem_T (i := 412) (by decide +kernel) rfl
theorem wq_119 : Cond.code yX2_climbOn cX2_climbOn 7 (some (.int)) ∈ BG := mem_T (i := 413) (by decide +kernel) rfl
theorem wq_120 : Cond.constant RJ6 265 (1431655765) ∈ BG := mem_T (i := 212) (by decide +kernel) rfl
theorem wq_121 : Cond.constant RJ6 266 (858993459) ∈ BG := mem_T (i := 213) (by decide +kernel) rfl
theorem wq_122 : Cond.constant RJ6 267 (252645135) ∈ BG := mem_T (i := 214) (by decide +kernel) rfl
theorem wq_123 : Cond.methodLink RX2 99 yX2_partnerMoves ∈ BG := mem_T (i := 201) (by decide +kernel) rfl
theorem wq_124 : Cond.instanceMethod yX2_partnerMoves ∈ BG := mem_T (i := 203) (by decide +kernel) rfl
theorem wq_125 : Cond.selects RX2 yX2_partnerMoves yX2_partnerMoves ∈ BG := mem_P (i := 3) (by decide +kernel) rfl
theorem wq_126 : Cond.code yX2_partnerMoves cX2_partnerMoves 2 (some (.int)) ∈ BG := mem_T (i := 204) (by decide +kernel) rfl
theorem wq_127 : Cond.methodLink RX2 105 yJ6_bitCount_0f7a4 ∈ BG := mem_T (i := 209) (by decide +kernel) rfl
theorem wq_128 : Cond.static yJ6_bitCount_0f7a4 ∈ BG := mem_T (i := 210) (by decide +kernel) rfl
theorem wq_129 : Cond.initialized RJ6 ∈ BG := mem_T (i := 7) (by decide +kernel) rfl
theorem wq_130 : Cond.code yJ6_bitCount_0f7a4 cJ6_bitCount_0f7a4 1 (some (.int)) ∈ BG := mem_T (i := 211) (by decide +kernel) rfl
theorem wq_131 : Cond.methodLink RX2 102 yX2_twinMoves ∈ BG := mem_T (i := 205) (by decide +kernel) rfl
theorem wq_132 : Cond.instanceMethod yX2_twinMoves ∈ BG := mem_T (i := 207) (by decide +kernel) rfl
theorem wq_133 : Cond.selects RX2 yX2_twinMoves yX2_twinMoves ∈ BG := mem_P (i := 4) (by decide +kernel) rfl
theorem wq_134 : Cond.code yX2_twinMoves cX2_twinMoves 2 (some (.int)) ∈ BG := mem_T (i := 208) (by decide +kernel) rfl
theorem wq_135 : Cond.methodLink RX2 95 yX2_tallOf ∈ BG := mem_T (i := 197) (by decide +kernel) rfl
theorem wq_136 : Cond.instanceMethod yX2_tallOf ∈ BG := mem_T (i := 199) (by decide +kernel) rfl
theorem wq_137 : Cond.selects RX2 yX2_tallOf yX2_tallOf ∈ BG := mem_P (i := 2) (by decide +kernel) rfl
theorem wq_138 : Cond.code yX2_tallOf cX2_tallOf 2 (some (.int)) ∈ BG := mem_T (i := 200) (by decide +kernel) rfl
theorem wq_139 : Cond.constant RX2 128 (99999) ∈ BG := mem_T (i := 286) (by decide +kernel) rfl
theorem wq_140 : Cond.methodLink RX2 113 yX2_movesOf ∈ BG := mem_T (i := 274) (by decide +kernel) rfl
theorem wq_141 : Cond.instanceMethod yX2_movesOf ∈ BG := mem_T (i := 194) (by decide +kernel) rfl
theorem wq_142 : Cond.selects RX2 yX2_movesOf yX2_movesOf ∈ BG := mem_T (i := 195) (by decide +kernel) rfl
theorem wq_143 : Cond.code yX2_movesOf cX2_movesOf 2 (some (.int)) ∈ BG := mem_T (i := 196) (by decide +kernel) rfl
theorem wq_144 : Cond.methodLink RX2 116 yX2_turnsOf ∈ BG := mem_T (i := 275) (by decide +kernel) rfl
theorem wq_145 : Cond.instanceMethod yX2_turnsOf ∈ BG := mem_T (i := 216) (by decide +kernel) rfl
theorem wq_146 : Cond.selects RX2 yX2_turnsOf yX2_turnsOf ∈ BG := mem_T (i := 217) (by decide +kernel) rfl
theorem wq_147 : Cond.code yX2_turnsOf cX2_turnsOf 2 (some (.int)) ∈ BG := mem_T (i := 218) (by decide +kernel) rfl
theorem wq_148 : Cond.methodLink RX2 125 yJ9_floorMod_7cf53 ∈ BG := mem_T (i := 283) (by decide +kernel) rfl
theorem wq_149 : Cond.methodLink RX2 119 yX2_sinksOf ∈ BG := mem_T (i := 276) (by decide +kernel) rfl
theorem wq_150 : Cond.instanceMethod yX2_sinksOf ∈ BG := mem_T (i := 220) (by decide +kernel) rfl
theorem wq_151 : Cond.selects RX2 yX2_sinksOf yX2_sinksOf ∈ BG := mem_T (i := 221) (by decide +kernel) rfl
theorem wq_152 : Cond.code yX2_sinksOf cX2_sinksOf 2 (some (.int)) ∈ BG := mem_T (i := 222) (by decide +kernel) rfl
theorem wq_153 : Cond.methodLink RX2 110 yX2_passAge ∈ BG := mem_T (i := 270) (by decide +kernel) rfl
theorem wq_154 : Cond.instanceMethod yX2_passAge ∈ BG := mem_T (i := 271) (by decide +kernel) rfl
theorem wq_155 : Cond.selects RX2 yX2_passAge yX2_passAge ∈ BG := mem_T (i := 272) (by decide +kernel) rfl
theorem wq_156 : Cond.code yX2_passAge cX2_passAge 4 none ∈ BG := mem_T (i := 273) (by decide +kernel) rfl
theorem wq_157 : Cond.constant RX2 129 (1103515245) ∈ BG := mem_T (i := 484) (by decide +kernel) rfl
theorem wq_158 : Cond.methodLink RX2 130 yX2_draw ∈ BG := mem_T (i := 480) (by decide +kernel) rfl
theorem wq_159 : Cond.instanceMethod yX2_draw ∈ BG := mem_T (i := 482) (by decide +kernel) rfl
theorem wq_160 : Cond.selects RX2 yX2_draw yX2_draw ∈ BG := mem_P (i := 15) (by decide +kernel) rfl
theorem wq_161 : Cond.code yX2_draw cX2_draw 1 (some (.int)) ∈ BG := mem_T (i := 483) (by decide +kernel) rfl
theorem wq_162 : Cond.methodLink RX2 134 yX2_lacks ∈ BG := mem_T (i := 485) (by decide +kernel) rfl
theorem wq_163 : Cond.instanceMethod yX2_lacks ∈ BG := mem_T (i := 190) (by decide +kernel) rfl
theorem wq_164 : Cond.selects RX2 yX2_lacks yX2_lacks ∈ BG := mem_T (i := 191) (by decide +kernel) rfl
theorem wq_165 : Cond.code yX2_lacks cX2_lacks 2 (some (.boolean)) ∈ BG := mem_T (i := 192) (by decide +kernel) rfl
theorem wq_166 : Cond.methodLink RX2 138 yX2_setTrait ∈ BG := mem_T (i := 486) (by decide +kernel) rfl
theorem wq_167 : Cond.fieldLink RX3 35 "HillDance" "found" "[I" ∈ BG := mem_T (i := 133) (by decide +kernel) rfl
theorem wq_168 : Cond.constant RX3 252 (-1000001) ∈ BG := mem_T (i := 160) (by decide +kernel) rfl
theorem wq_169 : Cond.methodLink RX3 40 yX3_isOutside ∈ BG := mem_T (i := 153) (by decide +kernel) rfl
theorem wq_170 : Cond.static yX3_isOutside ∈ BG := mem_T (i := 154) (by decide +kernel) rfl
theorem wq_171 : Cond.code yX3_isOutside cX3_isOutside 3 (some (.boolean)) ∈ BG := mem_T (i := 155) (by decide +kernel) rfl
theorem wq_172 : Cond.fieldLink RX3 10 "HillDance" "shire" "LHillDance$Shire;" ∈ BG := mem_T (i := 127) (by decide +kernel) rfl
theorem wq_173 : Cond.methodLink RX3 44 yX3_finding ∈ BG := mem_T (i := 156) (by decide +kernel) rfl
theorem wq_174 : Cond.instanceMethod yX3_finding ∈ BG := mem_T (i := 158) (by decide +kernel) rfl
theorem wq_175 : Cond.selects RX3 yX3_finding yX3_finding ∈ BG := mem_P (i := 0) (by decide +kernel) rfl
theorem wq_176 : Cond.code yX3_finding cX3_finding 2 (some (.int)) ∈ BG := mem_T (i := 159) (by decide +kernel) rfl
theorem wq_177 : Cond.methodLink RX3 52 yX3_isNoValley ∈ BG := mem_T (i := 165) (by decide +kernel) rfl
theorem wq_178 : Cond.static yX3_isNoValley ∈ BG := mem_T (i := 166) (by decide +kernel) rfl
theorem wq_179 : Cond.code yX3_isNoValley cX3_isNoValley 1 (some (.boolean)) ∈ BG := mem_T (i := 167) (by decide +kernel) rfl
theorem wq_180 : Cond.methodLink RX3 56 yX2_isCrowded ∈ BG := mem_T (i := 168) (by decide +kernel) rfl
theorem wq_181 : Cond.methodLink RX3 60 yX2_raise ∈ BG := mem_T (i := 172) (by decide +kernel) rfl
theorem wq_182 : Cond.methodLink RX3 64 yX2_lacks ∈ BG := mem_T (i := 189) (by decide +kernel) rfl
theorem wq_183 : Cond.methodLink RX3 67 yX2_movesOf ∈ BG := mem_T (i := 193) (by decide +kernel) rfl
theorem wq_184 : Cond.methodLink RX3 70 yX2_turnsOf ∈ BG := mem_T (i := 215) (by decide +kernel) rfl
theorem wq_185 : Cond.methodLink RX3 73 yX2_sinksOf ∈ BG := mem_T (i := 219) (by decide +kernel) rfl
theorem wq_186 : Cond.methodLink RX3 76 yX2_meetsOf ∈ BG := mem_T (i := 223) (by decide +kernel) rfl
theorem wq_187 : Cond.instanceMethod yX2_meetsOf ∈ BG := mem_T (i := 224) (by decide +kernel) rfl
theorem wq_188 : Cond.selects RX2 yX2_meetsOf yX2_meetsOf ∈ BG := mem_T (i := 225) (by decide +kernel) rfl
theorem wq_189 : Cond.code yX2_meetsOf cX2_meetsOf 2 (some (.int)) ∈ BG := mem_T (i := 226) (by decide +kernel) rfl
theorem wq_190 : Cond.methodLink RX3 79 yX2_trait ∈ BG := mem_T (i := 227) (by decide +kernel) rfl
theorem wq_191 : Cond.instanceMethod yX2_trait ∈ BG := mem_T (i := 228) (by decide +kernel) rfl
theorem wq_192 : Cond.selects RX2 yX2_trait yX2_trait ∈ BG := mem_T (i := 229) (by decide +kernel) rfl
theorem wq_193 : Cond.code yX2_trait cX2_trait 3 (some (.int)) ∈ BG := mem_T (i := 230) (by decide +kernel) rfl
theorem wq_194 : Cond.methodLink RX3 82 yX3_leastOf ∈ BG := mem_T (i := 235) (by decide +kernel) rfl
theorem wq_195 : Cond.static yX3_leastOf ∈ BG := mem_T (i := 236) (by decide +kernel) rfl
theorem wq_196 : Cond.code yX3_leastOf cX3_leastOf 1 (some (.int)) ∈ BG := mem_T (i := 237) (by decide +kernel) rfl
theorem wq_197 : Cond.methodLink RX3 85 yX3_mostOf ∈ BG := mem_T (i := 238) (by decide +kernel) rfl
theorem wq_198 : Cond.methodLink RX3 88 yX2_setTrait ∈ BG := mem_T (i := 241) (by decide +kernel) rfl
theorem wq_199 : Cond.methodLink RX3 92 yX2_standingAt ∈ BG := mem_T (i := 249) (by decide +kernel) rfl
theorem wq_200 : Cond.instanceMethod yX2_standingAt ∈ BG := mem_T (i := 250) (by decide +kernel) rfl
theorem wq_201 : Cond.selects RX2 yX2_standingAt yX2_standingAt ∈ BG := mem_T (i := 251) (by decide +kernel) rfl
theorem wq_202 : Cond.code yX2_standingAt cX2_standingAt 2 (some (.int)) ∈ BG := mem_T (i := 252) (by decide +kernel) rfl
theorem wq_203 : Cond.methodLink RX3 95 yX2_facing ∈ BG := mem_T (i := 253) (by decide +kernel) rfl
theorem wq_204 : Cond.instanceMethod yX2_facing ∈ BG := mem_T (i := 254) (by decide +kernel) rfl
theorem wq_205 : Cond.selects RX2 yX2_facing yX2_facing ∈ BG := mem_T (i := 255) (by decide +kernel) rfl
theorem wq_206 : Cond.code yX2_facing cX2_facing 2 (some (.int)) ∈ BG := mem_T (i := 256) (by decide +kernel) rfl
theorem wq_207 : Cond.methodLink RX3 98 yX2_highestAt ∈ BG := mem_T (i := 257) (by decide +kernel) rfl
theorem wq_208 : Cond.instanceMethod yX2_highestAt ∈ BG := mem_T (i := 258) (by decide +kernel) rfl
theorem wq_209 : Cond.selects RX2 yX2_highestAt yX2_highestAt ∈ BG := mem_T (i := 259) (by decide +kernel) rfl
theorem wq_210 : Cond.code yX2_highestAt cX2_highestAt 4 (some (.int)) ∈ BG := mem_T (i := 260) (by decide +kernel) rfl
theorem wq_211 : Cond.constant RX3 104 (99999) ∈ BG := mem_T (i := 265) (by decide +kernel) rfl
theorem wq_212 : Cond.methodLink RX3 105 yX2_passAges ∈ BG := mem_T (i := 266) (by decide +kernel) rfl
theorem wq_213 : Cond.instanceMethod yX2_passAges ∈ BG := mem_T (i := 267) (by decide +kernel) rfl
theorem wq_214 : Cond.selects RX2 yX2_passAges yX2_passAges ∈ BG := mem_T (i := 268) (by decide +kernel) rfl
theorem wq_215 : Cond.code yX2_passAges cX2_passAges 3 none ∈ BG := mem_T (i := 269) (by decide +kernel) rfl
theorem wq_216 : Cond.methodLink RX3 109 yX2_meeting ∈ BG := mem_T (i := 287) (by decide +kernel) rfl
theorem wq_217 : Cond.instanceMethod yX2_meeting ∈ BG := mem_T (i := 288) (by decide +kernel) rfl
theorem wq_218 : Cond.selects RX2 yX2_meeting yX2_meeting ∈ BG := mem_T (i := 289) (by decide +kernel) rfl
theorem wq_219 : Cond.code yX2_meeting cX2_meeting 3 (some (.int)) ∈ BG := mem_T (i := 290) (by decide +kernel) rfl
theorem wq_220 : Cond.methodLink RX3 113 yJ6_bitCount_0f7a4 ∈ BG := mem_T (i := 291) (by decide +kernel) rfl
theorem wq_221 : Cond.methodLink RX3 118 yX2_heightOfAll ∈ BG := mem_T (i := 296) (by decide +kernel) rfl
theorem wq_222 : Cond.instanceMethod yX2_heightOfAll ∈ BG := mem_T (i := 297) (by decide +kernel) rfl
theorem wq_223 : Cond.selects RX2 yX2_heightOfAll yX2_heightOfAll ∈ BG := mem_T (i := 298) (by decide +kernel) rfl
theorem wq_224 : Cond.code yX2_heightOfAll cX2_heightOfAll 1 (some (.int)) ∈ BG := mem_T (i := 299) (by decide +kernel) rfl
theorem wq_225 : Cond.methodLink RX3 121 yX2_valleysStoodAt ∈ BG := mem_T (i := 304) (by decide +kernel) rfl
theorem wq_226 : Cond.instanceMethod yX2_valleysStoodAt ∈ BG := mem_T (i := 305) (by decide +kernel) rfl
theorem wq_227 : Cond.selects RX2 yX2_valleysStoodAt yX2_valleysStoodAt ∈ BG := mem_T (i := 306) (by decide +kernel) rfl
theorem wq_228 : Cond.code yX2_valleysStoodAt cX2_valleysStoodAt 1 (some (.int)) ∈ BG := mem_T (i := 307) (by decide +kernel) rfl
theorem wq_229 : Cond.methodLink RX3 124 yX2_valleysFaced ∈ BG := mem_T (i := 311) (by decide +kernel) rfl
theorem wq_230 : Cond.instanceMethod yX2_valleysFaced ∈ BG := mem_T (i := 312) (by decide +kernel) rfl
theorem wq_231 : Cond.selects RX2 yX2_valleysFaced yX2_valleysFaced ∈ BG := mem_T (i := 313) (by decide +kernel) rfl
theorem wq_232 : Cond.code yX2_valleysFaced cX2_valleysFaced 1 (some (.int)) ∈ BG := mem_T (i := 314) (by decide +kernel) rfl
theorem wq_233 : Cond.methodLink RX3 127 yX2_bowedOfAll ∈ BG := mem_T (i := 315) (by decide +kernel) rfl
theorem wq_234 : Cond.instanceMethod yX2_bowedOfAll ∈ BG := mem_T (i := 316) (by decide +kernel) rfl
theorem wq_235 : Cond.selects RX2 yX2_bowedOfAll yX2_bowedOfAll ∈ BG := mem_T (i := 317) (by decide +kernel) rfl
theorem wq_236 : Cond.code yX2_bowedOfAll cX2_bowedOfAll 1 (some (.int)) ∈ BG := mem_T (i := 318) (by decide +kernel) rfl
theorem wq_237 : Cond.methodLink RX3 130 yX3_isForetold ∈ BG := mem_T (i := 323) (by decide +kernel) rfl
theorem wq_238 : Cond.static yX3_isForetold ∈ BG := mem_T (i := 324) (by decide +kernel) rfl
theorem wq_239 : Cond.code yX3_isForetold cX3_isForetold 1 (some (.boolean)) ∈ BG := mem_T (i := 325) (by decide +kernel) rfl
theorem wq_240 : Cond.fieldLink RX3 16 "HillDance" "trial" "LHillDance$Shire;" ∈ BG := mem_T (i := 128) (by decide +kernel) rfl
theorem wq_241 : Cond.methodLink RX3 133 yX2_become ∈ BG := mem_T (i := 326) (by decide +kernel) rfl
theorem wq_242 : Cond.instanceMethod yX2_become ∈ BG := mem_T (i := 327) (by decide +kernel) rfl
theorem wq_243 : Cond.selects RX2 yX2_become yX2_become ∈ BG := mem_T (i := 328) (by decide +kernel) rfl
theorem wq_244 : Cond.code yX2_become cX2_become 2 none ∈ BG := mem_T (i := 329) (by decide +kernel) rfl
theorem wq_245 : Cond.methodLink RX3 137 yX2_facedBy ∈ BG := mem_T (i := 337) (by decide +kernel) rfl
theorem wq_246 : Cond.instanceMethod yX2_facedBy ∈ BG := mem_T (i := 338) (by decide +kernel) rfl
theorem wq_247 : Cond.selects RX2 yX2_facedBy yX2_facedBy ∈ BG := mem_T (i := 339) (by decide +kernel) rfl
theorem wq_248 : Cond.code yX2_facedBy cX2_facedBy 2 (some (.int)) ∈ BG := mem_T (i := 340) (by decide +kernel) rfl
theorem wq_249 : Cond.methodLink RX3 140 yX2_passAge ∈ BG := mem_T (i := 341) (by decide +kernel) rfl
theorem wq_250 : Cond.methodLink RX3 143 yX3_isNoPair ∈ BG := mem_T (i := 346) (by decide +kernel) rfl
theorem wq_251 : Cond.instanceMethod yX3_isNoPair ∈ BG := mem_T (i := 348) (by decide +kernel) rfl
theorem wq_252 : Cond.selects RX3 yX3_isNoPair yX3_isNoPair ∈ BG := mem_P (i := 6) (by decide +kernel) rfl
theorem wq_253 : Cond.code yX3_isNoPair cX3_isNoPair 3 (some (.boolean)) ∈ BG := mem_T (i := 349) (by decide +kernel) rfl
theorem wq_254 : Cond.methodLink RX3 147 yX3_agesUntilMeeting ∈ BG := mem_T (i := 350) (by decide +kernel) rfl
theorem wq_255 : Cond.instanceMethod yX3_agesUntilMeeting ∈ BG := mem_T (i := 352) (by decide +kernel) rfl
theorem wq_256 : Cond.selects RX3 yX3_agesUntilMeeting yX3_agesUntilMeeting ∈ BG := mem_P (i := 7) (by decide +kernel) rfl
theorem wq_257 : Cond.code yX3_agesUntilMeeting cX3_agesUntilMeeting 5 (some (.int)) ∈ BG := mem_T (i := 353) (by decide +kernel) rfl
theorem wq_258 : Cond.methodLink RX3 151 yX2_standsAndTurnsAs ∈ BG := mem_T (i := 358) (by decide +kernel) rfl
theorem wq_259 : Cond.instanceMethod yX2_standsAndTurnsAs ∈ BG := mem_T (i := 359) (by decide +kernel) rfl
theorem wq_260 : Cond.selects RX2 yX2_standsAndTurnsAs yX2_standsAndTurnsAs ∈ BG := mem_T (i := 360) (by decide +kernel) rfl
theorem wq_261 : Cond.code yX2_standsAndTurnsAs cX2_standsAndTurnsAs 3 (some (.boolean)) ∈ BG := mem_T (i := 361) (by decide +kernel) rfl
theorem wq_262 : Cond.methodLink RX3 155 yX2_everyone ∈ BG := mem_T (i := 370) (by decide +kernel) rfl
theorem wq_263 : Cond.instanceMethod yX2_everyone ∈ BG := mem_T (i := 371) (by decide +kernel) rfl
theorem wq_264 : Cond.selects RX2 yX2_everyone yX2_everyone ∈ BG := mem_T (i := 372) (by decide +kernel) rfl
theorem wq_265 : Cond.code yX2_everyone cX2_everyone 1 (some (.int)) ∈ BG := mem_T (i := 373) (by decide +kernel) rfl
theorem wq_266 : Cond.methodLink RX3 161 yX3_tryWith ∈ BG := mem_T (i := 382) (by decide +kernel) rfl
theorem wq_267 : Cond.instanceMethod yX3_tryWith ∈ BG := mem_T (i := 384) (by decide +kernel) rfl
theorem wq_268 : Cond.selects RX3 yX3_tryWith yX3_tryWith ∈ BG := mem_P (i := 9) (by decide +kernel) rfl
theorem wq_269 : Cond.code yX3_tryWith cX3_tryWith 4 none ∈ BG := mem_T (i := 385) (by decide +kernel) rfl
theorem wq_270 : Cond.methodLink RX3 158 yX3_soonestWith ∈ BG := mem_T (i := 378) (by decide +kernel) rfl
theorem wq_271 : Cond.instanceMethod yX3_soonestWith ∈ BG := mem_T (i := 380) (by decide +kernel) rfl
theorem wq_272 : Cond.selects RX3 yX3_soonestWith yX3_soonestWith ∈ BG := mem_P (i := 8) (by decide +kernel) rfl
theorem wq_273 : Cond.code yX3_soonestWith cX3_soonestWith 8 (some (.int)) ∈ BG := mem_T (i := 381) (by decide +kernel) rfl
theorem wq_274 : Cond.methodLink RX3 164 yX3_waysOn ∈ BG := mem_T (i := 406) (by decide +kernel) rfl
theorem wq_275 : Cond.methodLink RX3 167 yX2_climbOn ∈ BG := mem_T (i := 410) (by decide +kernel) rfl
theorem wq_276 : Cond.methodLink RX3 175 yX2_leastClimb ∈ BG := mem_T (i := 420) (by decide +kernel) rfl
theorem wq_277 : Cond.instanceMethod yX2_leastClimb ∈ BG := mem_T (i := 421) (by decide +kernel) rfl
theorem wq_278 : Cond.selects RX2 yX2_leastClimb yX2_leastClimb ∈ BG := mem_T (i := 422) (by decide +kernel) rfl
theorem wq_279 : Cond.code yX2_leastClimb cX2_leastClimb 3 (some (.int)) ∈ BG := mem_T (i := 423) (by decide +kernel) rfl
theorem wq_280 : Cond.methodLink RX3 178 yX3_agesOpen ∈ BG := mem_T (i := 429) (by decide +kernel) rfl
theorem wq_281 : Cond.instanceMethod yX3_agesOpen ∈ BG := mem_T (i := 431) (by decide +kernel) rfl
theorem wq_282 : Cond.selects RX3 yX3_agesOpen yX3_agesOpen ∈ BG := mem_P (i := 10) (by decide +kernel) rfl
theorem wq_283 : Cond.code yX3_agesOpen cX3_agesOpen 7 (some (.int)) ∈ BG := mem_T (i := 432) (by decide +kernel) rfl
theorem wq_284 : Cond.fieldLink RX3 31 "HillDance" "sheets" "[LHillDance$Sheet;" ∈ BG := mem_T (i := 132) (by decide +kernel) rfl
theorem wq_285 : Cond.methodLink RX3 259 yX3_facesAsTold ∈ BG := mem_T (i := 460) (by decide +kernel) rfl
theorem wq_286 : Cond.instanceMethod yX3_facesAsTold ∈ BG := mem_T (i := 462) (by decide +kernel) rfl
theorem wq_287 : Cond.selects RX3 yX3_facesAsTold yX3_facesAsTold ∈ BG := mem_P (i := 14) (by decide +kernel) rfl
theorem wq_288 : Cond.code yX3_facesAsTold cX3_facesAsTold 5 (some (.boolean)) ∈ BG := mem_T (i := 463) (by decide +kernel) rfl
theorem wq_289 : Cond.methodLink RX3 210 yX3_isNoSheet ∈ BG := mem_T (i := 449) (by decide +kernel) rfl
theorem wq_290 : Cond.static yX3_isNoSheet ∈ BG := mem_T (i := 450) (by decide +kernel) rfl
theorem wq_291 : Cond.code yX3_isNoSheet cX3_isNoSheet 1 (some (.boolean)) ∈ BG := mem_T (i := 451) (by decide +kernel) rfl
theorem wq_292 : Cond.methodLink RX3 224 yX1_isMissing ∈ BG := mem_T (i := 452) (by decide +kernel) rfl
theorem wq_293 : Cond.instanceMethod yX1_isMissing ∈ BG := mem_T (i := 453) (by decide +kernel) rfl
theorem wq_294 : Cond.selects RX1 yX1_isMissing yX1_isMissing ∈ BG := mem_T (i := 454) (by decide +kernel) rfl
theorem wq_295 : Cond.initialized RX1 ∈ BG := mem_T (i := 4) (by decide +kernel) rfl
theorem wq_296 : Cond.code yX1_isMissing cX1_isMissing 1 (some (.boolean)) ∈ BG := mem_T (i := 455) (by decide +kernel) rfl
theorem wq_297 : Cond.methodLink RX3 218 yX3_wrongWithSheet ∈ BG := mem_T (i := 445) (by decide +kernel) rfl
theorem wq_298 : Cond.instanceMethod yX3_wrongWithSheet ∈ BG := mem_T (i := 447) (by decide +kernel) rfl
theorem wq_299 : Cond.selects RX3 yX3_wrongWithSheet yX3_wrongWithSheet ∈ BG := mem_P (i := 12) (by decide +kernel) rfl
theorem wq_300 : Cond.code yX3_wrongWithSheet cX3_wrongWithSheet 2 (some (.int)) ∈ BG := mem_T (i := 448) (by decide +kernel) rfl
theorem wq_301 : Cond.methodLink RX3 182 yX3_wrongWithTold ∈ BG := mem_T (i := 441) (by decide +kernel) rfl
theorem wq_302 : Cond.instanceMethod yX3_wrongWithTold ∈ BG := mem_T (i := 443) (by decide +kernel) rfl
theorem wq_303 : Cond.selects RX3 yX3_wrongWithTold yX3_wrongWithTold ∈ BG := mem_P (i := 11) (by decide +kernel) rfl
theorem wq_304 : Cond.code yX3_wrongWithTold cX3_wrongWithTold 4 (some (.int)) ∈ BG := mem_T (i := 444) (by decide +kernel) rfl
theorem wq_305 : Cond.methodLink RX3 185 yX3_fittingSet ∈ BG := mem_T (i := 456) (by decide +kernel) rfl
theorem wq_306 : Cond.instanceMethod yX3_fittingSet ∈ BG := mem_T (i := 458) (by decide +kernel) rfl
theorem wq_307 : Cond.selects RX3 yX3_fittingSet yX3_fittingSet ∈ BG := mem_P (i := 13) (by decide +kernel) rfl
theorem wq_308 : Cond.code yX3_fittingSet cX3_fittingSet 7 (some (.int)) ∈ BG := mem_T (i := 459) (by decide +kernel) rfl
theorem wq_309 : Cond.methodLink RX3 188 yX2_passWetAge ∈ BG := mem_T (i := 476) (by decide +kernel) rfl
theorem wq_310 : Cond.instanceMethod yX2_passWetAge ∈ BG := mem_T (i := 477) (by decide +kernel) rfl
theorem wq_311 : Cond.selects RX2 yX2_passWetAge yX2_passWetAge ∈ BG := mem_T (i := 478) (by decide +kernel) rfl
theorem wq_312 : Cond.code yX2_passWetAge cX2_passWetAge 2 none ∈ BG := mem_T (i := 479) (by decide +kernel) rfl
theorem wq_313 : Cond.fieldLink RX3 25 "HillDance" "reader" "LHillDance$Reader;" ∈ BG := mem_T (i := 131) (by decide +kernel) rfl
theorem wq_314 : Cond.methodLink RX3 197 yX0_append ∈ BG := mem_T (i := 499) (by decide +kernel) rfl
theorem wq_315 : Cond.instanceMethod yX0_append ∈ BG := mem_T (i := 500) (by decide +kernel) rfl
theorem wq_316 : Cond.selects RX0 yX0_append yX0_append ∈ BG := mem_T (i := 501) (by decide +kernel) rfl
theorem wq_317 : Cond.code yX0_append cX0_append 2 none ∈ BG := mem_T (i := 502) (by decide +kernel) rfl
theorem wq_318 : Cond.methodLink RX3 200 yX0_readInto ∈ BG := mem_T (i := 511) (by decide +kernel) rfl
theorem wq_319 : Cond.instanceMethod yX0_readInto ∈ BG := mem_T (i := 512) (by decide +kernel) rfl
theorem wq_320 : Cond.selects RX0 yX0_readInto yX0_readInto ∈ BG := mem_T (i := 513) (by decide +kernel) rfl
theorem wq_321 : Cond.code yX0_readInto cX0_readInto 3 (some (.int)) ∈ BG := mem_T (i := 514) (by decide +kernel) rfl
theorem wq_322 : Cond.fieldLink RX3 253 "HillDance" "KIND_ABOVE" "[I" ∈ BG := mem_T (i := 636) (by decide +kernel) rfl
theorem wq_323 : Cond.methodLink RX3 207 yX3_isUnder ∈ BG := mem_T (i := 633) (by decide +kernel) rfl
theorem wq_324 : Cond.static yX3_isUnder ∈ BG := mem_T (i := 634) (by decide +kernel) rfl
theorem wq_325 : Cond.code yX3_isUnder cX3_isUnder 4 (some (.boolean)) ∈ BG := mem_T (i := 635) (by decide +kernel) rfl
theorem wq_326 : Cond.methodLink RX3 213 yX1_begin ∈ BG := mem_T (i := 642) (by decide +kernel) rfl
theorem wq_327 : Cond.instanceMethod yX1_begin ∈ BG := mem_T (i := 643) (by decide +kernel) rfl
theorem wq_328 : Cond.selects RX1 yX1_begin yX1_begin ∈ BG := mem_T (i := 644) (by decide +kernel) rfl
theorem wq_329 : Cond.code yX1_begin cX1_begin 3 none ∈ BG := mem_T (i := 645) (by decide +kernel) rfl
theorem wq_330 : Cond.methodLink RX3 221 yX1_put ∈ BG := mem_T (i := 651) (by decide +kernel) rfl
theorem wq_331 : Cond.instanceMethod yX1_put ∈ BG := mem_T (i := 652) (by decide +kernel) rfl
theorem wq_332 : Cond.selects RX1 yX1_put yX1_put ∈ BG := mem_T (i := 653) (by decide +kernel) rfl
theorem wq_333 : Cond.code yX1_put cX1_put 3 none ∈ BG := mem_T (i := 654) (by decide +kernel) rfl
theorem wq_334 : Cond.methodLink RX3 230 yX1_reaches ∈ BG := mem_T (i := 659) (by decide +kernel) rfl
theorem wq_335 : Cond.instanceMethod yX1_reaches ∈ BG := mem_T (i := 660) (by decide +kernel) rfl
theorem wq_336 : Cond.selects RX1 yX1_reaches yX1_reaches ∈ BG := mem_T (i := 661) (by decide +kernel) rfl
theorem wq_337 : Cond.code yX1_reaches cX1_reaches 3 (some (.boolean)) ∈ BG := mem_T (i := 662) (by decide +kernel) rfl
theorem wq_338 : Cond.fieldLink RX3 19 "HillDance" "kept" "LHillDance$Shire;" ∈ BG := mem_T (i := 129) (by decide +kernel) rfl
theorem wq_339 : Cond.fieldLink RX3 242 "HillDance" "isKept" "Z" ∈ BG := mem_T (i := 130) (by decide +kernel) rfl
theorem wq_340 : Cond.methodLink RX3 249 yX2_spotsHeld ∈ BG := mem_T (i := 688) (by decide +kernel) rfl
theorem wq_341 : Cond.instanceMethod yX2_spotsHeld ∈ BG := mem_T (i := 689) (by decide +kernel) rfl
theorem wq_342 : Cond.selects RX2 yX2_spotsHeld yX2_spotsHeld ∈ BG := mem_T (i := 690) (by decide +kernel) rfl
theorem wq_343 : Cond.code yX2_spotsHeld cX2_spotsHeld 3 (some (.int)) ∈ BG := mem_T (i := 691) (by decide +kernel) rfl
theorem wq_344 : Cond.fieldLink RX4 19 "HillDanceModel" "found" "[I" ∈ BG := mem_T (i := 715) (by decide +kernel) rfl
theorem wq_345 : Cond.constant RX4 75 (-1000001) ∈ BG := mem_T (i := 798) (by decide +kernel) rfl
theorem wq_346 : Cond.fieldLink RX4 9 "HillDanceModel" "now" "[I" ∈ BG := mem_T (i := 711) (by decide +kernel) rfl
theorem wq_347 : Cond.fieldLink RX4 16 "HillDanceModel" "aside" "[I" ∈ BG := mem_T (i := 713) (by decide +kernel) rfl
theorem wq_348 : Cond.methodLink RX4 76 yX4_copyRow ∈ BG := mem_T (i := 929) (by decide +kernel) rfl
theorem wq_349 : Cond.static yX4_copyRow ∈ BG := mem_T (i := 930) (by decide +kernel) rfl
theorem wq_350 : Cond.initialized RX4 ∈ BG := mem_T (i := 5) (by decide +kernel) rfl
theorem wq_351 : Cond.code yX4_copyRow cX4_copyRow 3 none ∈ BG := mem_T (i := 931) (by decide +kernel) rfl
theorem wq_352 : Cond.constant RX4 80 (-1000004) ∈ BG := mem_T (i := 944) (by decide +kernel) rfl
theorem wq_353 : Cond.methodLink RX4 81 yX4_finding ∈ BG := mem_T (i := 799) (by decide +kernel) rfl
theorem wq_354 : Cond.instanceMethod yX4_finding ∈ BG := mem_T (i := 801) (by decide +kernel) rfl
theorem wq_355 : Cond.selects RX4 yX4_finding yX4_finding ∈ BG := mem_P (i := 25) (by decide +kernel) rfl
theorem wq_356 : Cond.code yX4_finding cX4_finding 2 (some (.int)) ∈ BG := mem_T (i := 802) (by decide +kernel) rfl
theorem wq_357 : Cond.methodLink RX4 85 yX4_within ∈ BG := mem_T (i := 791) (by decide +kernel) rfl
theorem wq_358 : Cond.static yX4_within ∈ BG := mem_T (i := 792) (by decide +kernel) rfl
theorem wq_359 : Cond.code yX4_within cX4_within 3 (some (.boolean)) ∈ BG := mem_T (i := 793) (by decide +kernel) rfl
theorem wq_360 : Cond.methodLink RX4 89 yX4_become ∈ BG := mem_T (i := 794) (by decide +kernel) rfl
theorem wq_361 : Cond.instanceMethod yX4_become ∈ BG := mem_T (i := 796) (by decide +kernel) rfl
theorem wq_362 : Cond.selects RX4 yX4_become yX4_become ∈ BG := mem_P (i := 24) (by decide +kernel) rfl
theorem wq_363 : Cond.code yX4_become cX4_become 4 (some (.int)) ∈ BG := mem_T (i := 797) (by decide +kernel) rfl
theorem wq_364 : Cond.methodLink RX4 93 yX4_at ∈ BG := mem_T (i := 818) (by decide +kernel) rfl
theorem wq_365 : Cond.static yX4_at ∈ BG := mem_T (i := 819) (by decide +kernel) rfl
theorem wq_366 : Cond.code yX4_at cX4_at 2 (some (.int)) ∈ BG := mem_T (i := 820) (by decide +kernel) rfl
theorem wq_367 : Cond.methodLink RX4 96 yX4_isKind ∈ BG := mem_T (i := 807) (by decide +kernel) rfl
theorem wq_368 : Cond.static yX4_isKind ∈ BG := mem_T (i := 808) (by decide +kernel) rfl
theorem wq_369 : Cond.code yX4_isKind cX4_isKind 1 (some (.boolean)) ∈ BG := mem_T (i := 809) (by decide +kernel) rfl
theorem wq_370 : Cond.methodLink RX4 100 yX4_isValley ∈ BG := mem_T (i := 810) (by decide +kernel) rfl
theorem wq_371 : Cond.static yX4_isValley ∈ BG := mem_T (i := 811) (by decide +kernel) rfl
theorem wq_372 : Cond.code yX4_isValley cX4_isValley 1 (some (.boolean)) ∈ BG := mem_T (i := 812) (by decide +kernel) rfl
theorem wq_373 : Cond.constant RX4 103 (-1000002) ∈ BG := mem_T (i := 813) (by decide +kernel) rfl
theorem wq_374 : Cond.methodLink RX4 104 yX4_comes ∈ BG := mem_T (i := 814) (by decide +kernel) rfl
theorem wq_375 : Cond.instanceMethod yX4_comes ∈ BG := mem_T (i := 816) (by decide +kernel) rfl
theorem wq_376 : Cond.selects RX4 yX4_comes yX4_comes ∈ BG := mem_P (i := 26) (by decide +kernel) rfl
theorem wq_377 : Cond.code yX4_comes cX4_comes 7 (some (.int)) ∈ BG := mem_T (i := 817) (by decide +kernel) rfl
theorem wq_378 : Cond.methodLink RX4 108 yX4_hillIs ∈ BG := mem_T (i := 841) (by decide +kernel) rfl
theorem wq_379 : Cond.instanceMethod yX4_hillIs ∈ BG := mem_T (i := 843) (by decide +kernel) rfl
theorem wq_380 : Cond.selects RX4 yX4_hillIs yX4_hillIs ∈ BG := mem_P (i := 31) (by decide +kernel) rfl
theorem wq_381 : Cond.code yX4_hillIs cX4_hillIs 3 (some (.int)) ∈ BG := mem_T (i := 844) (by decide +kernel) rfl
theorem wq_382 : Cond.fieldLink RX4 22 "HillDanceModel" "faces" "[I" ∈ BG := mem_T (i := 716) (by decide +kernel) rfl
theorem wq_383 : Cond.methodLink RX4 111 yX4_by12 ∈ BG := mem_T (i := 845) (by decide +kernel) rfl
theorem wq_384 : Cond.static yX4_by12 ∈ BG := mem_T (i := 846) (by decide +kernel) rfl
theorem wq_385 : Cond.code yX4_by12 cX4_by12 2 (some (.int)) ∈ BG := mem_T (i := 847) (by decide +kernel) rfl
theorem wq_386 : Cond.methodLink RX4 114 yX4_facesOf ∈ BG := mem_T (i := 837) (by decide +kernel) rfl
theorem wq_387 : Cond.instanceMethod yX4_facesOf ∈ BG := mem_T (i := 839) (by decide +kernel) rfl
theorem wq_388 : Cond.selects RX4 yX4_facesOf yX4_facesOf ∈ BG := mem_P (i := 30) (by decide +kernel) rfl
theorem wq_389 : Cond.code yX4_facesOf cX4_facesOf 2 (some (.int)) ∈ BG := mem_T (i := 840) (by decide +kernel) rfl
theorem wq_390 : Cond.fieldLink RX4 25 "HillDanceModel" "met" "[I" ∈ BG := mem_T (i := 717) (by decide +kernel) rfl
theorem wq_391 : Cond.methodLink RX4 117 yX4_movesOf ∈ BG := mem_T (i := 848) (by decide +kernel) rfl
theorem wq_392 : Cond.instanceMethod yX4_movesOf ∈ BG := mem_T (i := 850) (by decide +kernel) rfl
theorem wq_393 : Cond.selects RX4 yX4_movesOf yX4_movesOf ∈ BG := mem_P (i := 32) (by decide +kernel) rfl
theorem wq_394 : Cond.code yX4_movesOf cX4_movesOf 4 (some (.int)) ∈ BG := mem_T (i := 851) (by decide +kernel) rfl
theorem wq_395 : Cond.methodLink RX4 120 yX4_atValley ∈ BG := mem_T (i := 852) (by decide +kernel) rfl
theorem wq_396 : Cond.instanceMethod yX4_atValley ∈ BG := mem_T (i := 854) (by decide +kernel) rfl
theorem wq_397 : Cond.selects RX4 yX4_atValley yX4_atValley ∈ BG := mem_P (i := 33) (by decide +kernel) rfl
theorem wq_398 : Cond.code yX4_atValley cX4_atValley 4 (some (.int)) ∈ BG := mem_T (i := 855) (by decide +kernel) rfl
theorem wq_399 : Cond.methodLink RX4 123 yX4_bits ∈ BG := mem_T (i := 856) (by decide +kernel) rfl
theorem wq_400 : Cond.static yX4_bits ∈ BG := mem_T (i := 857) (by decide +kernel) rfl
theorem wq_401 : Cond.code yX4_bits cX4_bits 3 (some (.int)) ∈ BG := mem_T (i := 858) (by decide +kernel) rfl
theorem wq_402 : Cond.methodLink RX4 126 yX4_turnsOf ∈ BG := mem_T (i := 859) (by decide +kernel) rfl
theorem wq_403 : Cond.instanceMethod yX4_turnsOf ∈ BG := mem_T (i := 861) (by decide +kernel) rfl
theorem wq_404 : Cond.selects RX4 yX4_turnsOf yX4_turnsOf ∈ BG := mem_P (i := 34) (by decide +kernel) rfl
theorem wq_405 : Cond.code yX4_turnsOf cX4_turnsOf 3 (some (.int)) ∈ BG := mem_T (i := 862) (by decide +kernel) rfl
theorem wq_406 : Cond.methodLink RX4 129 yX4_meeting ∈ BG := mem_T (i := 833) (by decide +kernel) rfl
theorem wq_407 : Cond.instanceMethod yX4_meeting ∈ BG := mem_T (i := 835) (by decide +kernel) rfl
theorem wq_408 : Cond.selects RX4 yX4_meeting yX4_meeting ∈ BG := mem_P (i := 29) (by decide +kernel) rfl
theorem wq_409 : Cond.code yX4_meeting cX4_meeting 4 (some (.int)) ∈ BG := mem_T (i := 836) (by decide +kernel) rfl
theorem wq_410 : Cond.fieldLink RX4 28 "HillDanceModel" "moves" "[I" ∈ BG := mem_T (i := 718) (by decide +kernel) rfl
theorem wq_411 : Cond.fieldLink RX4 31 "HillDanceModel" "turns" "[I" ∈ BG := mem_T (i := 719) (by decide +kernel) rfl
theorem wq_412 : Cond.fieldLink RX4 34 "HillDanceModel" "sinks" "[I" ∈ BG := mem_T (i := 720) (by decide +kernel) rfl
theorem wq_413 : Cond.methodLink RX4 132 yX4_sinksOf ∈ BG := mem_T (i := 863) (by decide +kernel) rfl
theorem wq_414 : Cond.instanceMethod yX4_sinksOf ∈ BG := mem_T (i := 865) (by decide +kernel) rfl
theorem wq_415 : Cond.selects RX4 yX4_sinksOf yX4_sinksOf ∈ BG := mem_P (i := 35) (by decide +kernel) rfl
theorem wq_416 : Cond.code yX4_sinksOf cX4_sinksOf 3 (some (.int)) ∈ BG := mem_T (i := 866) (by decide +kernel) rfl
theorem wq_417 : Cond.methodLink RX4 135 yX4_isHill ∈ BG := mem_T (i := 825) (by decide +kernel) rfl
theorem wq_418 : Cond.instanceMethod yX4_isHill ∈ BG := mem_T (i := 827) (by decide +kernel) rfl
theorem wq_419 : Cond.selects RX4 yX4_isHill yX4_isHill ∈ BG := mem_P (i := 27) (by decide +kernel) rfl
theorem wq_420 : Cond.code yX4_isHill cX4_isHill 2 (some (.boolean)) ∈ BG := mem_T (i := 828) (by decide +kernel) rfl
theorem wq_421 : Cond.methodLink RX4 138 yX4_looksAt ∈ BG := mem_T (i := 829) (by decide +kernel) rfl
theorem wq_422 : Cond.instanceMethod yX4_looksAt ∈ BG := mem_T (i := 831) (by decide +kernel) rfl
theorem wq_423 : Cond.selects RX4 yX4_looksAt yX4_looksAt ∈ BG := mem_P (i := 28) (by decide +kernel) rfl
theorem wq_424 : Cond.code yX4_looksAt cX4_looksAt 2 none ∈ BG := mem_T (i := 832) (by decide +kernel) rfl
theorem wq_425 : Cond.methodLink RX4 141 yX4_isHigh ∈ BG := mem_T (i := 874) (by decide +kernel) rfl
theorem wq_426 : Cond.static yX4_isHigh ∈ BG := mem_T (i := 875) (by decide +kernel) rfl
theorem wq_427 : Cond.code yX4_isHigh cX4_isHigh 1 (some (.boolean)) ∈ BG := mem_T (i := 876) (by decide +kernel) rfl
theorem wq_428 : Cond.methodLink RX4 144 yX4_mayBe ∈ BG := mem_T (i := 871) (by decide +kernel) rfl
theorem wq_429 : Cond.static yX4_mayBe ∈ BG := mem_T (i := 872) (by decide +kernel) rfl
theorem wq_430 : Cond.code yX4_mayBe cX4_mayBe 2 (some (.boolean)) ∈ BG := mem_T (i := 873) (by decide +kernel) rfl
theorem wq_431 : Cond.methodLink RX4 153 yX4_facing ∈ BG := mem_T (i := 881) (by decide +kernel) rfl
theorem wq_432 : Cond.instanceMethod yX4_facing ∈ BG := mem_T (i := 883) (by decide +kernel) rfl
theorem wq_433 : Cond.selects RX4 yX4_facing yX4_facing ∈ BG := mem_P (i := 36) (by decide +kernel) rfl
theorem wq_434 : Cond.code yX4_facing cX4_facing 4 (some (.int)) ∈ BG := mem_T (i := 884) (by decide +kernel) rfl
theorem wq_435 : Cond.methodLink RX4 156 yX4_highestAt ∈ BG := mem_T (i := 885) (by decide +kernel) rfl
theorem wq_436 : Cond.instanceMethod yX4_highestAt ∈ BG := mem_T (i := 887) (by decide +kernel) rfl
theorem wq_437 : Cond.selects RX4 yX4_highestAt yX4_highestAt ∈ BG := mem_P (i := 37) (by decide +kernel) rfl
theorem wq_438 : Cond.code yX4_highestAt cX4_highestAt 4 (some (.int)) ∈ BG := mem_T (i := 888) (by decide +kernel) rfl
theorem wq_439 : Cond.methodLink RX4 162 yX4_age ∈ BG := mem_T (i := 900) (by decide +kernel) rfl
theorem wq_440 : Cond.instanceMethod yX4_age ∈ BG := mem_T (i := 902) (by decide +kernel) rfl
theorem wq_441 : Cond.selects RX4 yX4_age yX4_age ∈ BG := mem_P (i := 39) (by decide +kernel) rfl
theorem wq_442 : Cond.code yX4_age cX4_age 3 none ∈ BG := mem_T (i := 903) (by decide +kernel) rfl
theorem wq_443 : Cond.constant RX4 165 (99999) ∈ BG := mem_T (i := 894) (by decide +kernel) rfl
theorem wq_444 : Cond.methodLink RX4 167 yX4_ages ∈ BG := mem_T (i := 896) (by decide +kernel) rfl
theorem wq_445 : Cond.instanceMethod yX4_ages ∈ BG := mem_T (i := 898) (by decide +kernel) rfl
theorem wq_446 : Cond.selects RX4 yX4_ages yX4_ages ∈ BG := mem_P (i := 38) (by decide +kernel) rfl
theorem wq_447 : Cond.code yX4_ages cX4_ages 3 none ∈ BG := mem_T (i := 899) (by decide +kernel) rfl
theorem wq_448 : Cond.methodLink RX4 171 yX4_whoMeets ∈ BG := mem_T (i := 905) (by decide +kernel) rfl
theorem wq_449 : Cond.instanceMethod yX4_whoMeets ∈ BG := mem_T (i := 907) (by decide +kernel) rfl
theorem wq_450 : Cond.selects RX4 yX4_whoMeets yX4_whoMeets ∈ BG := mem_P (i := 40) (by decide +kernel) rfl
theorem wq_451 : Cond.code yX4_whoMeets cX4_whoMeets 3 (some (.int)) ∈ BG := mem_T (i := 908) (by decide +kernel) rfl
theorem wq_452 : Cond.constant RX4 166 (-1000005) ∈ BG := mem_T (i := 895) (by decide +kernel) rfl
theorem wq_453 : Cond.methodLink RX4 175 yX4_sumOf ∈ BG := mem_T (i := 913) (by decide +kernel) rfl
theorem wq_454 : Cond.instanceMethod yX4_sumOf ∈ BG := mem_T (i := 915) (by decide +kernel) rfl
theorem wq_455 : Cond.selects RX4 yX4_sumOf yX4_sumOf ∈ BG := mem_P (i := 41) (by decide +kernel) rfl
theorem wq_456 : Cond.code yX4_sumOf cX4_sumOf 4 (some (.int)) ∈ BG := mem_T (i := 916) (by decide +kernel) rfl
theorem wq_457 : Cond.methodLink RX4 178 yX4_valleysAt ∈ BG := mem_T (i := 917) (by decide +kernel) rfl
theorem wq_458 : Cond.instanceMethod yX4_valleysAt ∈ BG := mem_T (i := 919) (by decide +kernel) rfl
theorem wq_459 : Cond.selects RX4 yX4_valleysAt yX4_valleysAt ∈ BG := mem_P (i := 42) (by decide +kernel) rfl
theorem wq_460 : Cond.code yX4_valleysAt cX4_valleysAt 3 (some (.int)) ∈ BG := mem_T (i := 920) (by decide +kernel) rfl
theorem wq_461 : Cond.methodLink RX4 181 yX4_valleysFaced ∈ BG := mem_T (i := 921) (by decide +kernel) rfl
theorem wq_462 : Cond.instanceMethod yX4_valleysFaced ∈ BG := mem_T (i := 923) (by decide +kernel) rfl
theorem wq_463 : Cond.selects RX4 yX4_valleysFaced yX4_valleysFaced ∈ BG := mem_P (i := 43) (by decide +kernel) rfl
theorem wq_464 : Cond.code yX4_valleysFaced cX4_valleysFaced 3 (some (.int)) ∈ BG := mem_T (i := 924) (by decide +kernel) rfl
theorem wq_465 : Cond.methodLink RX4 184 yX4_putBack ∈ BG := mem_T (i := 932) (by decide +kernel) rfl
theorem wq_466 : Cond.instanceMethod yX4_putBack ∈ BG := mem_T (i := 934) (by decide +kernel) rfl
theorem wq_467 : Cond.selects RX4 yX4_putBack yX4_putBack ∈ BG := mem_P (i := 44) (by decide +kernel) rfl
theorem wq_468 : Cond.code yX4_putBack cX4_putBack 2 (some (.int)) ∈ BG := mem_T (i := 935) (by decide +kernel) rfl
theorem wq_469 : Cond.methodLink RX4 187 yX4_orNone ∈ BG := mem_T (i := 940) (by decide +kernel) rfl
theorem wq_470 : Cond.instanceMethod yX4_orNone ∈ BG := mem_T (i := 942) (by decide +kernel) rfl
theorem wq_471 : Cond.selects RX4 yX4_orNone yX4_orNone ∈ BG := mem_P (i := 45) (by decide +kernel) rfl
theorem wq_472 : Cond.code yX4_orNone cX4_orNone 2 (some (.int)) ∈ BG := mem_T (i := 943) (by decide +kernel) rfl
theorem wq_473 : Cond.methodLink RX4 190 yX4_doMeet ∈ BG := mem_T (i := 957) (by decide +kernel) rfl
theorem wq_474 : Cond.instanceMethod yX4_doMeet ∈ BG := mem_T (i := 959) (by decide +kernel) rfl
theorem wq_475 : Cond.selects RX4 yX4_doMeet yX4_doMeet ∈ BG := mem_P (i := 48) (by decide +kernel) rfl
theorem wq_476 : Cond.code yX4_doMeet cX4_doMeet 3 (some (.boolean)) ∈ BG := mem_T (i := 960) (by decide +kernel) rfl
theorem wq_477 : Cond.methodLink RX4 193 yX4_areTwo ∈ BG := mem_T (i := 949) (by decide +kernel) rfl
theorem wq_478 : Cond.instanceMethod yX4_areTwo ∈ BG := mem_T (i := 951) (by decide +kernel) rfl
theorem wq_479 : Cond.selects RX4 yX4_areTwo yX4_areTwo ∈ BG := mem_P (i := 46) (by decide +kernel) rfl
theorem wq_480 : Cond.code yX4_areTwo cX4_areTwo 3 (some (.boolean)) ∈ BG := mem_T (i := 952) (by decide +kernel) rfl
theorem wq_481 : Cond.methodLink RX4 196 yX4_meetIn ∈ BG := mem_T (i := 953) (by decide +kernel) rfl
theorem wq_482 : Cond.instanceMethod yX4_meetIn ∈ BG := mem_T (i := 955) (by decide +kernel) rfl
theorem wq_483 : Cond.selects RX4 yX4_meetIn yX4_meetIn ∈ BG := mem_P (i := 47) (by decide +kernel) rfl
theorem wq_484 : Cond.code yX4_meetIn cX4_meetIn 5 (some (.int)) ∈ BG := mem_T (i := 956) (by decide +kernel) rfl
theorem wq_485 : Cond.methodLink RX4 200 yX4_isAsAside ∈ BG := mem_T (i := 965) (by decide +kernel) rfl
theorem wq_486 : Cond.instanceMethod yX4_isAsAside ∈ BG := mem_T (i := 967) (by decide +kernel) rfl
theorem wq_487 : Cond.selects RX4 yX4_isAsAside yX4_isAsAside ∈ BG := mem_P (i := 49) (by decide +kernel) rfl
theorem wq_488 : Cond.code yX4_isAsAside cX4_isAsAside 3 (some (.boolean)) ∈ BG := mem_T (i := 968) (by decide +kernel) rfl
theorem wq_489 : Cond.methodLink RX4 204 yX4_isSoon ∈ BG := mem_T (i := 973) (by decide +kernel) rfl
theorem wq_490 : Cond.static yX4_isSoon ∈ BG := mem_T (i := 974) (by decide +kernel) rfl
theorem wq_491 : Cond.code yX4_isSoon cX4_isSoon 1 (some (.boolean)) ∈ BG := mem_T (i := 975) (by decide +kernel) rfl
theorem wq_492 : Cond.constant RX4 207 (-1000007) ∈ BG := mem_T (i := 988) (by decide +kernel) rfl
theorem wq_493 : Cond.methodLink RX4 208 yX4_soonest ∈ BG := mem_T (i := 984) (by decide +kernel) rfl
theorem wq_494 : Cond.instanceMethod yX4_soonest ∈ BG := mem_T (i := 986) (by decide +kernel) rfl
theorem wq_495 : Cond.selects RX4 yX4_soonest yX4_soonest ∈ BG := mem_P (i := 50) (by decide +kernel) rfl
theorem wq_496 : Cond.code yX4_soonest cX4_soonest 11 (some (.int)) ∈ BG := mem_T (i := 987) (by decide +kernel) rfl
theorem wq_497 : Cond.methodLink RX4 211 yX4_isGo ∈ BG := mem_T (i := 1001) (by decide +kernel) rfl
theorem wq_498 : Cond.static yX4_isGo ∈ BG := mem_T (i := 1002) (by decide +kernel) rfl
theorem wq_499 : Cond.code yX4_isGo cX4_isGo 1 (some (.boolean)) ∈ BG := mem_T (i := 1003) (by decide +kernel) rfl
theorem wq_500 : Cond.methodLink RX4 214 yX4_behind ∈ BG := mem_T (i := 1004) (by decide +kernel) rfl
theorem wq_501 : Cond.instanceMethod yX4_behind ∈ BG := mem_T (i := 1006) (by decide +kernel) rfl
theorem wq_502 : Cond.selects RX4 yX4_behind yX4_behind ∈ BG := mem_P (i := 51) (by decide +kernel) rfl
theorem wq_503 : Cond.code yX4_behind cX4_behind 4 (some (.int)) ∈ BG := mem_T (i := 1007) (by decide +kernel) rfl
theorem wq_504 : Cond.methodLink RX4 217 yX4_between ∈ BG := mem_T (i := 1023) (by decide +kernel) rfl
theorem wq_505 : Cond.instanceMethod yX4_between ∈ BG := mem_T (i := 1025) (by decide +kernel) rfl
theorem wq_506 : Cond.selects RX4 yX4_between yX4_between ∈ BG := mem_P (i := 53) (by decide +kernel) rfl
theorem wq_507 : Cond.code yX4_between cX4_between 6 (some (.int)) ∈ BG := mem_T (i := 1026) (by decide +kernel) rfl
theorem wq_508 : Cond.methodLink RX4 220 yX4_areEnds ∈ BG := mem_T (i := 1016) (by decide +kernel) rfl
theorem wq_509 : Cond.static yX4_areEnds ∈ BG := mem_T (i := 1017) (by decide +kernel) rfl
theorem wq_510 : Cond.code yX4_areEnds cX4_areEnds 2 (some (.boolean)) ∈ BG := mem_T (i := 1018) (by decide +kernel) rfl
theorem wq_511 : Cond.methodLink RX4 223 yX4_roadNow ∈ BG := mem_T (i := 1019) (by decide +kernel) rfl
theorem wq_512 : Cond.instanceMethod yX4_roadNow ∈ BG := mem_T (i := 1021) (by decide +kernel) rfl
theorem wq_513 : Cond.selects RX4 yX4_roadNow yX4_roadNow ∈ BG := mem_P (i := 52) (by decide +kernel) rfl
theorem wq_514 : Cond.code yX4_roadNow cX4_roadNow 6 (some (.int)) ∈ BG := mem_T (i := 1022) (by decide +kernel) rfl
theorem wq_515 : Cond.methodLink RX4 226 yX4_climbNow ∈ BG := mem_T (i := 1031) (by decide +kernel) rfl
theorem wq_516 : Cond.instanceMethod yX4_climbNow ∈ BG := mem_T (i := 1033) (by decide +kernel) rfl
theorem wq_517 : Cond.selects RX4 yX4_climbNow yX4_climbNow ∈ BG := mem_P (i := 54) (by decide +kernel) rfl
theorem wq_518 : Cond.code yX4_climbNow cX4_climbNow 3 (some (.int)) ∈ BG := mem_T (i := 1034) (by decide +kernel) rfl
theorem wq_519 : Cond.methodLink RX4 229 yX4_openIn ∈ BG := mem_T (i := 1039) (by decide +kernel) rfl
theorem wq_520 : Cond.instanceMethod yX4_openIn ∈ BG := mem_T (i := 1041) (by decide +kernel) rfl
theorem wq_521 : Cond.selects RX4 yX4_openIn yX4_openIn ∈ BG := mem_P (i := 55) (by decide +kernel) rfl
theorem wq_522 : Cond.code yX4_openIn cX4_openIn 7 (some (.int)) ∈ BG := mem_T (i := 1042) (by decide +kernel) rfl
theorem wq_523 : Cond.methodLink RX4 233 yX4_isSheet ∈ BG := mem_T (i := 1055) (by decide +kernel) rfl
theorem wq_524 : Cond.static yX4_isSheet ∈ BG := mem_T (i := 1056) (by decide +kernel) rfl
theorem wq_525 : Cond.code yX4_isSheet cX4_isSheet 1 (some (.boolean)) ∈ BG := mem_T (i := 1057) (by decide +kernel) rfl
theorem wq_526 : Cond.fieldLink RX4 63 "HillDanceModel" "widths" "[I" ∈ BG := mem_T (i := 732) (by decide +kernel) rfl
theorem wq_527 : Cond.constant RX4 236 (-1000006) ∈ BG := mem_T (i := 1058) (by decide +kernel) rfl
theorem wq_528 : Cond.fieldLink RX4 66 "HillDanceModel" "sizes" "[I" ∈ BG := mem_T (i := 733) (by decide +kernel) rfl
theorem wq_529 : Cond.fieldLink RX4 69 "HillDanceModel" "numbers" "[I" ∈ BG := mem_T (i := 734) (by decide +kernel) rfl
theorem wq_530 : Cond.methodLink RX4 237 yX4_facedSo ∈ BG := mem_T (i := 1063) (by decide +kernel) rfl
theorem wq_531 : Cond.instanceMethod yX4_facedSo ∈ BG := mem_T (i := 1065) (by decide +kernel) rfl
theorem wq_532 : Cond.selects RX4 yX4_facedSo yX4_facedSo ∈ BG := mem_P (i := 58) (by decide +kernel) rfl
theorem wq_533 : Cond.code yX4_facedSo cX4_facedSo 6 (some (.boolean)) ∈ BG := mem_T (i := 1066) (by decide +kernel) rfl
theorem wq_534 : Cond.methodLink RX4 240 yX4_lacks ∈ BG := mem_T (i := 1051) (by decide +kernel) rfl
theorem wq_535 : Cond.instanceMethod yX4_lacks ∈ BG := mem_T (i := 1053) (by decide +kernel) rfl
theorem wq_536 : Cond.selects RX4 yX4_lacks yX4_lacks ∈ BG := mem_P (i := 56) (by decide +kernel) rfl
theorem wq_537 : Cond.code yX4_lacks cX4_lacks 3 (some (.int)) ∈ BG := mem_T (i := 1054) (by decide +kernel) rfl
theorem wq_538 : Cond.methodLink RX4 243 yX4_fitting ∈ BG := mem_T (i := 1059) (by decide +kernel) rfl
theorem wq_539 : Cond.instanceMethod yX4_fitting ∈ BG := mem_T (i := 1061) (by decide +kernel) rfl
theorem wq_540 : Cond.selects RX4 yX4_fitting yX4_fitting ∈ BG := mem_P (i := 57) (by decide +kernel) rfl
theorem wq_541 : Cond.code yX4_fitting cX4_fitting 9 (some (.int)) ∈ BG := mem_T (i := 1062) (by decide +kernel) rfl
theorem wq_542 : Cond.constant RX4 246 (1103515245) ∈ BG := mem_T (i := 1083) (by decide +kernel) rfl
theorem wq_543 : Cond.methodLink RX4 247 yX4_drawn ∈ BG := mem_T (i := 1079) (by decide +kernel) rfl
theorem wq_544 : Cond.instanceMethod yX4_drawn ∈ BG := mem_T (i := 1081) (by decide +kernel) rfl
theorem wq_545 : Cond.selects RX4 yX4_drawn yX4_drawn ∈ BG := mem_P (i := 59) (by decide +kernel) rfl
theorem wq_546 : Cond.code yX4_drawn cX4_drawn 1 (some (.int)) ∈ BG := mem_T (i := 1082) (by decide +kernel) rfl
theorem wq_547 : Cond.fieldLink RX4 250 "HillDanceModel" "taped" "I" ∈ BG := mem_T (i := 722) (by decide +kernel) rfl
theorem wq_548 : Cond.fieldLink RX4 37 "HillDanceModel" "tape" "[I" ∈ BG := mem_T (i := 721) (by decide +kernel) rfl
theorem wq_549 : Cond.fieldLink RX4 254 "HillDanceModel" "ends" "I" ∈ BG := mem_T (i := 724) (by decide +kernel) rfl
theorem wq_550 : Cond.fieldLink RX4 257 "HillDanceModel" "begins" "I" ∈ BG := mem_T (i := 723) (by decide +kernel) rfl
theorem wq_551 : Cond.methodLink RX4 260 yX4_byteAt ∈ BG := mem_T (i := 1108) (by decide +kernel) rfl
theorem wq_552 : Cond.instanceMethod yX4_byteAt ∈ BG := mem_T (i := 1110) (by decide +kernel) rfl
theorem wq_553 : Cond.selects RX4 yX4_byteAt yX4_byteAt ∈ BG := mem_P (i := 61) (by decide +kernel) rfl
theorem wq_554 : Cond.code yX4_byteAt cX4_byteAt 2 (some (.int)) ∈ BG := mem_T (i := 1111) (by decide +kernel) rfl
theorem wq_555 : Cond.fieldLink RX4 263 "HillDanceModel" "value" "I" ∈ BG := mem_T (i := 726) (by decide +kernel) rfl
theorem wq_556 : Cond.fieldLink RX4 266 "HillDanceModel" "sort" "I" ∈ BG := mem_T (i := 725) (by decide +kernel) rfl
theorem wq_557 : Cond.methodLink RX4 269 yJ0_length_8abf5 ∈ BG := mem_T (i := 1124) (by decide +kernel) rfl
theorem wq_558 : Cond.methodLink RX4 272 yJ0_charAt_5068e ∈ BG := mem_T (i := 1125) (by decide +kernel) rfl
theorem wq_559 : Cond.fieldLink RX4 276 "HillDanceModel" "isWrong" "Z" ∈ BG := mem_T (i := 727) (by decide +kernel) rfl
theorem wq_560 : Cond.methodLink RX4 280 yX4_next ∈ BG := mem_T (i := 1104) (by decide +kernel) rfl
theorem wq_561 : Cond.instanceMethod yX4_next ∈ BG := mem_T (i := 1106) (by decide +kernel) rfl
theorem wq_562 : Cond.selects RX4 yX4_next yX4_next ∈ BG := mem_P (i := 60) (by decide +kernel) rfl
theorem wq_563 : Cond.code yX4_next cX4_next 2 none ∈ BG := mem_T (i := 1107) (by decide +kernel) rfl
theorem wq_564 : Cond.methodLink RX4 283 yX4_must ∈ BG := mem_T (i := 1126) (by decide +kernel) rfl
theorem wq_565 : Cond.instanceMethod yX4_must ∈ BG := mem_T (i := 1128) (by decide +kernel) rfl
theorem wq_566 : Cond.selects RX4 yX4_must yX4_must ∈ BG := mem_P (i := 65) (by decide +kernel) rfl
theorem wq_567 : Cond.code yX4_must cX4_must 2 none ∈ BG := mem_T (i := 1129) (by decide +kernel) rfl
theorem wq_568 : Cond.fieldLink RX4 287 "HillDanceModel" "itemMany" "I" ∈ BG := mem_T (i := 730) (by decide +kernel) rfl
theorem wq_569 : Cond.fieldLink RX4 60 "HillDanceModel" "items" "[I" ∈ BG := mem_T (i := 729) (by decide +kernel) rfl
theorem wq_570 : Cond.fieldLink RX4 56 "HillDanceModel" "kindNames" "[Ljava/lang/String;" ∈ BG := mem_T (i := 728) (by decide +kernel) rfl
theorem wq_571 : Cond.methodLink RX4 290 yX4_isWord ∈ BG := mem_T (i := 1120) (by decide +kernel) rfl
theorem wq_572 : Cond.instanceMethod yX4_isWord ∈ BG := mem_T (i := 1122) (by decide +kernel) rfl
theorem wq_573 : Cond.selects RX4 yX4_isWord yX4_isWord ∈ BG := mem_P (i := 64) (by decide +kernel) rfl
theorem wq_574 : Cond.code yX4_isWord cX4_isWord 4 (some (.boolean)) ∈ BG := mem_T (i := 1123) (by decide +kernel) rfl
theorem wq_575 : Cond.methodLink RX4 294 yX4_number ∈ BG := mem_T (i := 1135) (by decide +kernel) rfl
theorem wq_576 : Cond.instanceMethod yX4_number ∈ BG := mem_T (i := 1137) (by decide +kernel) rfl
theorem wq_577 : Cond.selects RX4 yX4_number yX4_number ∈ BG := mem_P (i := 67) (by decide +kernel) rfl
theorem wq_578 : Cond.code yX4_number cX4_number 4 (some (.int)) ∈ BG := mem_T (i := 1138) (by decide +kernel) rfl
theorem wq_579 : Cond.methodLink RX4 299 yX4_kindTold ∈ BG := mem_T (i := 1116) (by decide +kernel) rfl
theorem wq_580 : Cond.instanceMethod yX4_kindTold ∈ BG := mem_T (i := 1118) (by decide +kernel) rfl
theorem wq_581 : Cond.selects RX4 yX4_kindTold yX4_kindTold ∈ BG := mem_P (i := 63) (by decide +kernel) rfl
theorem wq_582 : Cond.code yX4_kindTold cX4_kindTold 3 (some (.int)) ∈ BG := mem_T (i := 1119) (by decide +kernel) rfl
theorem wq_583 : Cond.methodLink RX4 317 yX4_addItem ∈ BG := mem_T (i := 1146) (by decide +kernel) rfl
theorem wq_584 : Cond.instanceMethod yX4_addItem ∈ BG := mem_T (i := 1148) (by decide +kernel) rfl
theorem wq_585 : Cond.selects RX4 yX4_addItem yX4_addItem ∈ BG := mem_P (i := 69) (by decide +kernel) rfl
theorem wq_586 : Cond.code yX4_addItem cX4_addItem 7 none ∈ BG := mem_T (i := 1149) (by decide +kernel) rfl
theorem wq_587 : Cond.fieldLink RX4 302 "HillDanceModel" "hillThen" "I" ∈ BG := mem_T (i := 731) (by decide +kernel) rfl
theorem wq_588 : Cond.methodLink RX4 306 yX4_afterWord ∈ BG := mem_T (i := 1131) (by decide +kernel) rfl
theorem wq_589 : Cond.instanceMethod yX4_afterWord ∈ BG := mem_T (i := 1133) (by decide +kernel) rfl
theorem wq_590 : Cond.selects RX4 yX4_afterWord yX4_afterWord ∈ BG := mem_P (i := 66) (by decide +kernel) rfl
theorem wq_591 : Cond.code yX4_afterWord cX4_afterWord 4 (some (.int)) ∈ BG := mem_T (i := 1134) (by decide +kernel) rfl
theorem wq_592 : Cond.methodLink RX4 310 yX4_stepTold ∈ BG := mem_T (i := 1139) (by decide +kernel) rfl
theorem wq_593 : Cond.instanceMethod yX4_stepTold ∈ BG := mem_T (i := 1141) (by decide +kernel) rfl
theorem wq_594 : Cond.selects RX4 yX4_stepTold yX4_stepTold ∈ BG := mem_P (i := 68) (by decide +kernel) rfl
theorem wq_595 : Cond.code yX4_stepTold cX4_stepTold 3 (some (.int)) ∈ BG := mem_T (i := 1142) (by decide +kernel) rfl
theorem wq_596 : Cond.methodLink RX4 323 yX4_readItem ∈ BG := mem_T (i := 1112) (by decide +kernel) rfl
theorem wq_597 : Cond.instanceMethod yX4_readItem ∈ BG := mem_T (i := 1114) (by decide +kernel) rfl
theorem wq_598 : Cond.selects RX4 yX4_readItem yX4_readItem ∈ BG := mem_P (i := 62) (by decide +kernel) rfl
theorem wq_599 : Cond.code yX4_readItem cX4_readItem 5 none ∈ BG := mem_T (i := 1115) (by decide +kernel) rfl
theorem wq_600 : Cond.methodLink RX4 326 yX4_isToldSo ∈ BG := mem_T (i := 1151) (by decide +kernel) rfl
theorem wq_601 : Cond.instanceMethod yX4_isToldSo ∈ BG := mem_T (i := 1153) (by decide +kernel) rfl
theorem wq_602 : Cond.selects RX4 yX4_isToldSo yX4_isToldSo ∈ BG := mem_P (i := 70) (by decide +kernel) rfl
theorem wq_603 : Cond.code yX4_isToldSo cX4_isToldSo 3 (some (.int)) ∈ BG := mem_T (i := 1154) (by decide +kernel) rfl
theorem wq_604 : Cond.methodLink RX4 329 yX4_isSpot ∈ BG := mem_T (i := 1159) (by decide +kernel) rfl
theorem wq_605 : Cond.static yX4_isSpot ∈ BG := mem_T (i := 1160) (by decide +kernel) rfl
theorem wq_606 : Cond.code yX4_isSpot cX4_isSpot 1 (some (.boolean)) ∈ BG := mem_T (i := 1161) (by decide +kernel) rfl
theorem wq_607 : Cond.methodLink RX4 339 yX4_above ∈ BG := mem_T (i := 1169) (by decide +kernel) rfl
theorem wq_608 : Cond.static yX4_above ∈ BG := mem_T (i := 1170) (by decide +kernel) rfl
theorem wq_609 : Cond.code yX4_above cX4_above 1 (some (.int)) ∈ BG := mem_T (i := 1171) (by decide +kernel) rfl
theorem wq_610 : Cond.methodLink RX4 332 yX4_isUnder ∈ BG := mem_T (i := 1166) (by decide +kernel) rfl
theorem wq_611 : Cond.static yX4_isUnder ∈ BG := mem_T (i := 1167) (by decide +kernel) rfl
theorem wq_612 : Cond.code yX4_isUnder cX4_isUnder 3 (some (.boolean)) ∈ BG := mem_T (i := 1168) (by decide +kernel) rfl
theorem wq_613 : Cond.constant RX4 335 (-1000003) ∈ BG := mem_T (i := 1172) (by decide +kernel) rfl
theorem wq_614 : Cond.methodLink RX4 336 yX4_cutTo ∈ BG := mem_T (i := 1181) (by decide +kernel) rfl
theorem wq_615 : Cond.static yX4_cutTo ∈ BG := mem_T (i := 1182) (by decide +kernel) rfl
theorem wq_616 : Cond.code yX4_cutTo cX4_cutTo 2 (some (.int)) ∈ BG := mem_T (i := 1183) (by decide +kernel) rfl
theorem wq_617 : Cond.fieldLink RX4 72 "HillDanceModel" "moved" "[I" ∈ BG := mem_T (i := 735) (by decide +kernel) rfl
theorem wq_618 : Cond.methodLink RX4 342 yX4_lacksSheet ∈ BG := mem_T (i := 1192) (by decide +kernel) rfl
theorem wq_619 : Cond.instanceMethod yX4_lacksSheet ∈ BG := mem_T (i := 1194) (by decide +kernel) rfl
theorem wq_620 : Cond.selects RX4 yX4_lacksSheet yX4_lacksSheet ∈ BG := mem_P (i := 71) (by decide +kernel) rfl
theorem wq_621 : Cond.code yX4_lacksSheet cX4_lacksSheet 2 (some (.int)) ∈ BG := mem_T (i := 1195) (by decide +kernel) rfl
theorem wq_622 : Cond.fieldLink RX4 13 "HillDanceModel" "kept" "[I" ∈ BG := mem_T (i := 712) (by decide +kernel) rfl
theorem wq_623 : Cond.fieldLink RX4 345 "HillDanceModel" "isKept" "Z" ∈ BG := mem_T (i := 714) (by decide +kernel) rfl
theorem wq_624 : Cond.fieldLink RJ0 38 "java/lang/String" "COMPACT_STRINGS" "Z" ∈ BG := mem_T (i := 554) (by decide +kernel) rfl
theorem wq_625 : Cond.fieldLink RJ0 1053 "jdk/internal/util/Preconditions" "SIOOBE_FORMATTER" "Ljava/util/function/BiFunction;" ∈ BG := mem_T (i := 570) (by decide +kernel) rfl
theorem wq_626 : Cond.fieldLink RJ0 9 "java/lang/String" "value" "[B" ∈ BG := mem_T (i := 1220) (by decide +kernel) rfl
theorem wq_627 : Cond.fieldLink RJ0 15 "java/lang/String" "coder" "B" ∈ BG := mem_T (i := 1221) (by decide +kernel) rfl
theorem wq_628 : Cond.methodLink RJ0 335 yJ0_coder_7d493 ∈ BG := mem_T (i := 550) (by decide +kernel) rfl
theorem wq_629 : Cond.instanceMethod yJ0_coder_7d493 ∈ BG := mem_T (i := 551) (by decide +kernel) rfl
theorem wq_630 : Cond.selects RJ0 yJ0_coder_7d493 yJ0_coder_7d493 ∈ BG := mem_T (i := 552) (by decide +kernel) rfl
theorem wq_631 : Cond.code yJ0_coder_7d493 cJ0_coder_7d493 1 (some (.byte)) ∈ BG := mem_T (i := 553) (by decide +kernel) rfl
theorem wq_632 : Cond.methodLink RJ0 492 yJ0_isLatin1_aae02 ∈ BG := mem_T (i := 560) (by decide +kernel) rfl
theorem wq_633 : Cond.instanceMethod yJ0_isLatin1_aae02 ∈ BG := mem_T (i := 561) (by decide +kernel) rfl
theorem wq_634 : Cond.selects RJ0 yJ0_isLatin1_aae02 yJ0_isLatin1_aae02 ∈ BG := mem_T (i := 562) (by decide +kernel) rfl
theorem wq_635 : Cond.code yJ0_isLatin1_aae02 cJ0_isLatin1_aae02 1 (some (.boolean)) ∈ BG := mem_T (i := 563) (by decide +kernel) rfl
theorem wq_636 : Cond.methodLink RJ0 495 yJ1_charAt_3b067 ∈ BG := mem_T (i := 564) (by decide +kernel) rfl
theorem wq_637 : Cond.static yJ1_charAt_3b067 ∈ BG := mem_T (i := 565) (by decide +kernel) rfl
theorem wq_638 : Cond.initialized RJ1 ∈ BG := mem_T (i := 11) (by decide +kernel) rfl
theorem wq_639 : Cond.code yJ1_charAt_3b067 cJ1_charAt_3b067 2 (some (.char)) ∈ BG := mem_T (i := 566) (by decide +kernel) rfl
theorem wq_640 : Cond.methodLink RJ1 9 yJ0_checkIndex_df160 ∈ BG := mem_T (i := 567) (by decide +kernel) rfl
theorem wq_641 : Cond.static yJ0_checkIndex_df160 ∈ BG := mem_T (i := 568) (by decide +kernel) rfl
theorem wq_642 : Cond.code yJ0_checkIndex_df160 cJ0_checkIndex_df160 2 none ∈ BG := mem_T (i := 569) (by decide +kernel) rfl
theorem wq_643 : Cond.methodLink RJ0 1059 yJ3_checkIndex_8e157 ∈ BG := mem_T (i := 572) (by decide +kernel) rfl
theorem wq_644 : Cond.static yJ3_checkIndex_8e157 ∈ BG := mem_T (i := 573) (by decide +kernel) rfl
theorem wq_645 : Cond.initialized RJ3 ∈ BG := mem_T (i := 12) (by decide +kernel) rfl
theorem wq_646 : Cond.code yJ3_checkIndex_8e157 cJ3_checkIndex_8e157 3 (some (.int)) ∈ BG := mem_T (i := 574) (by decide +kernel) rfl
theorem wq_647 : Cond.methodLink RL 13 yX3_rain ∈ BG := mem_T (i := 149) (by decide +kernel) rfl
theorem wq_648 : Cond.instanceMethod yX3_rain ∈ BG := mem_T (i := 150) (by decide +kernel) rfl
theorem wq_649 : Cond.selects RX3 yX3_rain yX3_rain ∈ BG := mem_T (i := 151) (by decide +kernel) rfl
theorem wq_650 : Cond.code yX3_rain cX3_rain 3 (some (.int)) ∈ BG := mem_T (i := 152) (by decide +kernel) rfl
theorem wq_651 : Cond.methodLink RL 17 yX4_rain ∈ BG := mem_T (i := 787) (by decide +kernel) rfl
theorem wq_652 : Cond.instanceMethod yX4_rain ∈ BG := mem_T (i := 788) (by decide +kernel) rfl
theorem wq_653 : Cond.selects RX4 yX4_rain yX4_rain ∈ BG := mem_T (i := 789) (by decide +kernel) rfl
theorem wq_654 : Cond.code yX4_rain cX4_rain 2 (some (.int)) ∈ BG := mem_T (i := 790) (by decide +kernel) rfl
theorem wq_655 : Cond.methodLink RL 18 yX3_hill ∈ BG := mem_T (i := 161) (by decide +kernel) rfl
theorem wq_656 : Cond.instanceMethod yX3_hill ∈ BG := mem_T (i := 162) (by decide +kernel) rfl
theorem wq_657 : Cond.selects RX3 yX3_hill yX3_hill ∈ BG := mem_T (i := 163) (by decide +kernel) rfl
theorem wq_658 : Cond.code yX3_hill cX3_hill 3 (some (.int)) ∈ BG := mem_T (i := 164) (by decide +kernel) rfl
theorem wq_659 : Cond.methodLink RL 22 yX4_hill ∈ BG := mem_T (i := 803) (by decide +kernel) rfl
theorem wq_660 : Cond.instanceMethod yX4_hill ∈ BG := mem_T (i := 804) (by decide +kernel) rfl
theorem wq_661 : Cond.selects RX4 yX4_hill yX4_hill ∈ BG := mem_T (i := 805) (by decide +kernel) rfl
theorem wq_662 : Cond.code yX4_hill cX4_hill 3 (some (.int)) ∈ BG := mem_T (i := 806) (by decide +kernel) rfl
theorem wq_663 : Cond.methodLink RL 23 yX3_of ∈ BG := mem_T (i := 185) (by decide +kernel) rfl
theorem wq_664 : Cond.instanceMethod yX3_of ∈ BG := mem_T (i := 186) (by decide +kernel) rfl
theorem wq_665 : Cond.selects RX3 yX3_of yX3_of ∈ BG := mem_T (i := 187) (by decide +kernel) rfl
theorem wq_666 : Cond.code yX3_of cX3_of 3 (some (.int)) ∈ BG := mem_T (i := 188) (by decide +kernel) rfl
theorem wq_667 : Cond.methodLink RL 26 yX4_of ∈ BG := mem_T (i := 821) (by decide +kernel) rfl
theorem wq_668 : Cond.instanceMethod yX4_of ∈ BG := mem_T (i := 822) (by decide +kernel) rfl
theorem wq_669 : Cond.selects RX4 yX4_of yX4_of ∈ BG := mem_T (i := 823) (by decide +kernel) rfl
theorem wq_670 : Cond.code yX4_of cX4_of 3 (some (.int)) ∈ BG := mem_T (i := 824) (by decide +kernel) rfl
theorem wq_671 : Cond.methodLink RL 27 yX3_change ∈ BG := mem_T (i := 231) (by decide +kernel) rfl
theorem wq_672 : Cond.instanceMethod yX3_change ∈ BG := mem_T (i := 232) (by decide +kernel) rfl
theorem wq_673 : Cond.selects RX3 yX3_change yX3_change ∈ BG := mem_T (i := 233) (by decide +kernel) rfl
theorem wq_674 : Cond.code yX3_change cX3_change 5 (some (.int)) ∈ BG := mem_T (i := 234) (by decide +kernel) rfl
theorem wq_675 : Cond.methodLink RL 31 yX4_change ∈ BG := mem_T (i := 867) (by decide +kernel) rfl
theorem wq_676 : Cond.instanceMethod yX4_change ∈ BG := mem_T (i := 868) (by decide +kernel) rfl
theorem wq_677 : Cond.selects RX4 yX4_change yX4_change ∈ BG := mem_T (i := 869) (by decide +kernel) rfl
theorem wq_678 : Cond.code yX4_change cX4_change 4 (some (.int)) ∈ BG := mem_T (i := 870) (by decide +kernel) rfl
theorem wq_679 : Cond.methodLink RL 32 yX3_valley ∈ BG := mem_T (i := 245) (by decide +kernel) rfl
theorem wq_680 : Cond.instanceMethod yX3_valley ∈ BG := mem_T (i := 246) (by decide +kernel) rfl
theorem wq_681 : Cond.selects RX3 yX3_valley yX3_valley ∈ BG := mem_T (i := 247) (by decide +kernel) rfl
theorem wq_682 : Cond.code yX3_valley cX3_valley 3 (some (.int)) ∈ BG := mem_T (i := 248) (by decide +kernel) rfl
theorem wq_683 : Cond.methodLink RL 35 yX4_valley ∈ BG := mem_T (i := 877) (by decide +kernel) rfl
theorem wq_684 : Cond.instanceMethod yX4_valley ∈ BG := mem_T (i := 878) (by decide +kernel) rfl
theorem wq_685 : Cond.selects RX4 yX4_valley yX4_valley ∈ BG := mem_T (i := 879) (by decide +kernel) rfl
theorem wq_686 : Cond.code yX4_valley cX4_valley 3 (some (.int)) ∈ BG := mem_T (i := 880) (by decide +kernel) rfl
theorem wq_687 : Cond.methodLink RL 36 yX3_go ∈ BG := mem_T (i := 261) (by decide +kernel) rfl
theorem wq_688 : Cond.instanceMethod yX3_go ∈ BG := mem_T (i := 262) (by decide +kernel) rfl
theorem wq_689 : Cond.selects RX3 yX3_go yX3_go ∈ BG := mem_T (i := 263) (by decide +kernel) rfl
theorem wq_690 : Cond.code yX3_go cX3_go 2 (some (.int)) ∈ BG := mem_T (i := 264) (by decide +kernel) rfl
theorem wq_691 : Cond.methodLink RL 39 yX4_go ∈ BG := mem_T (i := 890) (by decide +kernel) rfl
theorem wq_692 : Cond.instanceMethod yX4_go ∈ BG := mem_T (i := 891) (by decide +kernel) rfl
theorem wq_693 : Cond.selects RX4 yX4_go yX4_go ∈ BG := mem_T (i := 892) (by decide +kernel) rfl
theorem wq_694 : Cond.code yX4_go cX4_go 2 (some (.int)) ∈ BG := mem_T (i := 893) (by decide +kernel) rfl
theorem wq_695 : Cond.methodLink RL 40 yX3_now ∈ BG := mem_T (i := 292) (by decide +kernel) rfl
theorem wq_696 : Cond.instanceMethod yX3_now ∈ BG := mem_T (i := 293) (by decide +kernel) rfl
theorem wq_697 : Cond.selects RX3 yX3_now yX3_now ∈ BG := mem_T (i := 294) (by decide +kernel) rfl
theorem wq_698 : Cond.code yX3_now cX3_now 2 (some (.int)) ∈ BG := mem_T (i := 295) (by decide +kernel) rfl
theorem wq_699 : Cond.methodLink RL 43 yX4_now ∈ BG := mem_T (i := 909) (by decide +kernel) rfl
theorem wq_700 : Cond.instanceMethod yX4_now ∈ BG := mem_T (i := 910) (by decide +kernel) rfl
theorem wq_701 : Cond.selects RX4 yX4_now yX4_now ∈ BG := mem_T (i := 911) (by decide +kernel) rfl
theorem wq_702 : Cond.code yX4_now cX4_now 2 (some (.int)) ∈ BG := mem_T (i := 912) (by decide +kernel) rfl
theorem wq_703 : Cond.methodLink RL 44 yX3_ahead ∈ BG := mem_T (i := 319) (by decide +kernel) rfl
theorem wq_704 : Cond.instanceMethod yX3_ahead ∈ BG := mem_T (i := 320) (by decide +kernel) rfl
theorem wq_705 : Cond.selects RX3 yX3_ahead yX3_ahead ∈ BG := mem_T (i := 321) (by decide +kernel) rfl
theorem wq_706 : Cond.code yX3_ahead cX3_ahead 4 (some (.int)) ∈ BG := mem_T (i := 322) (by decide +kernel) rfl
theorem wq_707 : Cond.methodLink RL 47 yX4_ahead ∈ BG := mem_T (i := 925) (by decide +kernel) rfl
theorem wq_708 : Cond.instanceMethod yX4_ahead ∈ BG := mem_T (i := 926) (by decide +kernel) rfl
theorem wq_709 : Cond.selects RX4 yX4_ahead yX4_ahead ∈ BG := mem_T (i := 927) (by decide +kernel) rfl
theorem wq_710 : Cond.code yX4_ahead cX4_ahead 4 (some (.int)) ∈ BG := mem_T (i := 928) (by decide +kernel) rfl
theorem wq_711 : Cond.methodLink RL 48 yX3_when ∈ BG := mem_T (i := 333) (by decide +kernel) rfl
theorem wq_712 : Cond.instanceMethod yX3_when ∈ BG := mem_T (i := 334) (by decide +kernel) rfl
theorem wq_713 : Cond.selects RX3 yX3_when yX3_when ∈ BG := mem_T (i := 335) (by decide +kernel) rfl
theorem wq_714 : Cond.code yX3_when cX3_when 4 (some (.int)) ∈ BG := mem_T (i := 336) (by decide +kernel) rfl
theorem wq_715 : Cond.methodLink RL 51 yX4_when ∈ BG := mem_T (i := 936) (by decide +kernel) rfl
theorem wq_716 : Cond.instanceMethod yX4_when ∈ BG := mem_T (i := 937) (by decide +kernel) rfl
theorem wq_717 : Cond.selects RX4 yX4_when yX4_when ∈ BG := mem_T (i := 938) (by decide +kernel) rfl
theorem wq_718 : Cond.code yX4_when cX4_when 4 (some (.int)) ∈ BG := mem_T (i := 939) (by decide +kernel) rfl
theorem wq_719 : Cond.methodLink RL 52 yX3_meet ∈ BG := mem_T (i := 342) (by decide +kernel) rfl
theorem wq_720 : Cond.instanceMethod yX3_meet ∈ BG := mem_T (i := 343) (by decide +kernel) rfl
theorem wq_721 : Cond.selects RX3 yX3_meet yX3_meet ∈ BG := mem_T (i := 344) (by decide +kernel) rfl
theorem wq_722 : Cond.code yX3_meet cX3_meet 4 (some (.int)) ∈ BG := mem_T (i := 345) (by decide +kernel) rfl
theorem wq_723 : Cond.methodLink RL 55 yX4_meet ∈ BG := mem_T (i := 945) (by decide +kernel) rfl
theorem wq_724 : Cond.instanceMethod yX4_meet ∈ BG := mem_T (i := 946) (by decide +kernel) rfl
theorem wq_725 : Cond.selects RX4 yX4_meet yX4_meet ∈ BG := mem_T (i := 947) (by decide +kernel) rfl
theorem wq_726 : Cond.code yX4_meet cX4_meet 3 (some (.int)) ∈ BG := mem_T (i := 948) (by decide +kernel) rfl
theorem wq_727 : Cond.methodLink RL 56 yX3_round ∈ BG := mem_T (i := 354) (by decide +kernel) rfl
theorem wq_728 : Cond.instanceMethod yX3_round ∈ BG := mem_T (i := 355) (by decide +kernel) rfl
theorem wq_729 : Cond.selects RX3 yX3_round yX3_round ∈ BG := mem_T (i := 356) (by decide +kernel) rfl
theorem wq_730 : Cond.code yX3_round cX3_round 2 (some (.int)) ∈ BG := mem_T (i := 357) (by decide +kernel) rfl
theorem wq_731 : Cond.methodLink RL 60 yX4_round ∈ BG := mem_T (i := 961) (by decide +kernel) rfl
theorem wq_732 : Cond.instanceMethod yX4_round ∈ BG := mem_T (i := 962) (by decide +kernel) rfl
theorem wq_733 : Cond.selects RX4 yX4_round yX4_round ∈ BG := mem_T (i := 963) (by decide +kernel) rfl
theorem wq_734 : Cond.code yX4_round cX4_round 2 (some (.int)) ∈ BG := mem_T (i := 964) (by decide +kernel) rfl
theorem wq_735 : Cond.methodLink RL 61 yX3_skylines ∈ BG := mem_T (i := 362) (by decide +kernel) rfl
theorem wq_736 : Cond.instanceMethod yX3_skylines ∈ BG := mem_T (i := 363) (by decide +kernel) rfl
theorem wq_737 : Cond.selects RX3 yX3_skylines yX3_skylines ∈ BG := mem_T (i := 364) (by decide +kernel) rfl
theorem wq_738 : Cond.code yX3_skylines cX3_skylines 5 (some (.int)) ∈ BG := mem_T (i := 365) (by decide +kernel) rfl
theorem wq_739 : Cond.methodLink RL 64 yX4_skylines ∈ BG := mem_T (i := 969) (by decide +kernel) rfl
theorem wq_740 : Cond.instanceMethod yX4_skylines ∈ BG := mem_T (i := 970) (by decide +kernel) rfl
theorem wq_741 : Cond.selects RX4 yX4_skylines yX4_skylines ∈ BG := mem_T (i := 971) (by decide +kernel) rfl
theorem wq_742 : Cond.code yX4_skylines cX4_skylines 5 (some (.int)) ∈ BG := mem_T (i := 972) (by decide +kernel) rfl
theorem wq_743 : Cond.methodLink RL 65 yX3_wallflowers ∈ BG := mem_T (i := 366) (by decide +kernel) rfl
theorem wq_744 : Cond.instanceMethod yX3_wallflowers ∈ BG := mem_T (i := 367) (by decide +kernel) rfl
theorem wq_745 : Cond.selects RX3 yX3_wallflowers yX3_wallflowers ∈ BG := mem_T (i := 368) (by decide +kernel) rfl
theorem wq_746 : Cond.code yX3_wallflowers cX3_wallflowers 4 (some (.int)) ∈ BG := mem_T (i := 369) (by decide +kernel) rfl
theorem wq_747 : Cond.methodLink RL 68 yX4_wallflowers ∈ BG := mem_T (i := 976) (by decide +kernel) rfl
theorem wq_748 : Cond.instanceMethod yX4_wallflowers ∈ BG := mem_T (i := 977) (by decide +kernel) rfl
theorem wq_749 : Cond.selects RX4 yX4_wallflowers yX4_wallflowers ∈ BG := mem_T (i := 978) (by decide +kernel) rfl
theorem wq_750 : Cond.code yX4_wallflowers cX4_wallflowers 4 (some (.int)) ∈ BG := mem_T (i := 979) (by decide +kernel) rfl
theorem wq_751 : Cond.methodLink RL 69 yX3_stand ∈ BG := mem_T (i := 374) (by decide +kernel) rfl
theorem wq_752 : Cond.instanceMethod yX3_stand ∈ BG := mem_T (i := 375) (by decide +kernel) rfl
theorem wq_753 : Cond.selects RX3 yX3_stand yX3_stand ∈ BG := mem_T (i := 376) (by decide +kernel) rfl
theorem wq_754 : Cond.code yX3_stand cX3_stand 3 (some (.int)) ∈ BG := mem_T (i := 377) (by decide +kernel) rfl
theorem wq_755 : Cond.methodLink RL 72 yX4_stand ∈ BG := mem_T (i := 980) (by decide +kernel) rfl
theorem wq_756 : Cond.instanceMethod yX4_stand ∈ BG := mem_T (i := 981) (by decide +kernel) rfl
theorem wq_757 : Cond.selects RX4 yX4_stand yX4_stand ∈ BG := mem_T (i := 982) (by decide +kernel) rfl
theorem wq_758 : Cond.code yX4_stand cX4_stand 3 (some (.int)) ∈ BG := mem_T (i := 983) (by decide +kernel) rfl
theorem wq_759 : Cond.methodLink RL 73 yX3_stepFor ∈ BG := mem_T (i := 386) (by decide +kernel) rfl
theorem wq_760 : Cond.instanceMethod yX3_stepFor ∈ BG := mem_T (i := 387) (by decide +kernel) rfl
theorem wq_761 : Cond.selects RX3 yX3_stepFor yX3_stepFor ∈ BG := mem_T (i := 388) (by decide +kernel) rfl
theorem wq_762 : Cond.code yX3_stepFor cX3_stepFor 3 (some (.int)) ∈ BG := mem_T (i := 389) (by decide +kernel) rfl
theorem wq_763 : Cond.methodLink RL 76 yX4_stepFor ∈ BG := mem_T (i := 989) (by decide +kernel) rfl
theorem wq_764 : Cond.instanceMethod yX4_stepFor ∈ BG := mem_T (i := 990) (by decide +kernel) rfl
theorem wq_765 : Cond.selects RX4 yX4_stepFor yX4_stepFor ∈ BG := mem_T (i := 991) (by decide +kernel) rfl
theorem wq_766 : Cond.code yX4_stepFor cX4_stepFor 3 (some (.int)) ∈ BG := mem_T (i := 992) (by decide +kernel) rfl
theorem wq_767 : Cond.methodLink RL 77 yX3_turnFor ∈ BG := mem_T (i := 390) (by decide +kernel) rfl
theorem wq_768 : Cond.instanceMethod yX3_turnFor ∈ BG := mem_T (i := 391) (by decide +kernel) rfl
theorem wq_769 : Cond.selects RX3 yX3_turnFor yX3_turnFor ∈ BG := mem_T (i := 392) (by decide +kernel) rfl
theorem wq_770 : Cond.code yX3_turnFor cX3_turnFor 3 (some (.int)) ∈ BG := mem_T (i := 393) (by decide +kernel) rfl
theorem wq_771 : Cond.methodLink RL 80 yX4_turnFor ∈ BG := mem_T (i := 993) (by decide +kernel) rfl
theorem wq_772 : Cond.instanceMethod yX4_turnFor ∈ BG := mem_T (i := 994) (by decide +kernel) rfl
theorem wq_773 : Cond.selects RX4 yX4_turnFor yX4_turnFor ∈ BG := mem_T (i := 995) (by decide +kernel) rfl
theorem wq_774 : Cond.code yX4_turnFor cX4_turnFor 3 (some (.int)) ∈ BG := mem_T (i := 996) (by decide +kernel) rfl
theorem wq_775 : Cond.methodLink RL 81 yX3_kindFor ∈ BG := mem_T (i := 394) (by decide +kernel) rfl
theorem wq_776 : Cond.instanceMethod yX3_kindFor ∈ BG := mem_T (i := 395) (by decide +kernel) rfl
theorem wq_777 : Cond.selects RX3 yX3_kindFor yX3_kindFor ∈ BG := mem_T (i := 396) (by decide +kernel) rfl
theorem wq_778 : Cond.code yX3_kindFor cX3_kindFor 7 (some (.int)) ∈ BG := mem_T (i := 397) (by decide +kernel) rfl
theorem wq_779 : Cond.methodLink RL 84 yX4_kindFor ∈ BG := mem_T (i := 997) (by decide +kernel) rfl
theorem wq_780 : Cond.instanceMethod yX4_kindFor ∈ BG := mem_T (i := 998) (by decide +kernel) rfl
theorem wq_781 : Cond.selects RX4 yX4_kindFor yX4_kindFor ∈ BG := mem_T (i := 999) (by decide +kernel) rfl
theorem wq_782 : Cond.code yX4_kindFor cX4_kindFor 8 (some (.int)) ∈ BG := mem_T (i := 1000) (by decide +kernel) rfl
theorem wq_783 : Cond.methodLink RL 85 yX3_rainFor ∈ BG := mem_T (i := 398) (by decide +kernel) rfl
theorem wq_784 : Cond.instanceMethod yX3_rainFor ∈ BG := mem_T (i := 399) (by decide +kernel) rfl
theorem wq_785 : Cond.selects RX3 yX3_rainFor yX3_rainFor ∈ BG := mem_T (i := 400) (by decide +kernel) rfl
theorem wq_786 : Cond.code yX3_rainFor cX3_rainFor 5 (some (.int)) ∈ BG := mem_T (i := 401) (by decide +kernel) rfl
theorem wq_787 : Cond.methodLink RL 88 yX4_rainFor ∈ BG := mem_T (i := 1008) (by decide +kernel) rfl
theorem wq_788 : Cond.instanceMethod yX4_rainFor ∈ BG := mem_T (i := 1009) (by decide +kernel) rfl
theorem wq_789 : Cond.selects RX4 yX4_rainFor yX4_rainFor ∈ BG := mem_T (i := 1010) (by decide +kernel) rfl
theorem wq_790 : Cond.code yX4_rainFor cX4_rainFor 7 (some (.int)) ∈ BG := mem_T (i := 1011) (by decide +kernel) rfl
theorem wq_791 : Cond.methodLink RL 89 yX3_road ∈ BG := mem_T (i := 402) (by decide +kernel) rfl
theorem wq_792 : Cond.instanceMethod yX3_road ∈ BG := mem_T (i := 403) (by decide +kernel) rfl
theorem wq_793 : Cond.selects RX3 yX3_road yX3_road ∈ BG := mem_T (i := 404) (by decide +kernel) rfl
theorem wq_794 : Cond.code yX3_road cX3_road 8 (some (.int)) ∈ BG := mem_T (i := 405) (by decide +kernel) rfl
theorem wq_795 : Cond.methodLink RL 92 yX4_road ∈ BG := mem_T (i := 1012) (by decide +kernel) rfl
theorem wq_796 : Cond.instanceMethod yX4_road ∈ BG := mem_T (i := 1013) (by decide +kernel) rfl
theorem wq_797 : Cond.selects RX4 yX4_road yX4_road ∈ BG := mem_T (i := 1014) (by decide +kernel) rfl
theorem wq_798 : Cond.code yX4_road cX4_road 5 (some (.int)) ∈ BG := mem_T (i := 1015) (by decide +kernel) rfl
theorem wq_799 : Cond.methodLink RL 93 yX3_climb ∈ BG := mem_T (i := 416) (by decide +kernel) rfl
theorem wq_800 : Cond.instanceMethod yX3_climb ∈ BG := mem_T (i := 417) (by decide +kernel) rfl
theorem wq_801 : Cond.selects RX3 yX3_climb yX3_climb ∈ BG := mem_T (i := 418) (by decide +kernel) rfl
theorem wq_802 : Cond.code yX3_climb cX3_climb 3 (some (.int)) ∈ BG := mem_T (i := 419) (by decide +kernel) rfl
theorem wq_803 : Cond.methodLink RL 96 yX4_climb ∈ BG := mem_T (i := 1027) (by decide +kernel) rfl
theorem wq_804 : Cond.instanceMethod yX4_climb ∈ BG := mem_T (i := 1028) (by decide +kernel) rfl
theorem wq_805 : Cond.selects RX4 yX4_climb yX4_climb ∈ BG := mem_T (i := 1029) (by decide +kernel) rfl
theorem wq_806 : Cond.code yX4_climb cX4_climb 3 (some (.int)) ∈ BG := mem_T (i := 1030) (by decide +kernel) rfl
theorem wq_807 : Cond.methodLink RL 97 yX3_open ∈ BG := mem_T (i := 425) (by decide +kernel) rfl
theorem wq_808 : Cond.instanceMethod yX3_open ∈ BG := mem_T (i := 426) (by decide +kernel) rfl
theorem wq_809 : Cond.selects RX3 yX3_open yX3_open ∈ BG := mem_T (i := 427) (by decide +kernel) rfl
theorem wq_810 : Cond.code yX3_open cX3_open 5 (some (.int)) ∈ BG := mem_T (i := 428) (by decide +kernel) rfl
theorem wq_811 : Cond.methodLink RL 101 yX4_open ∈ BG := mem_T (i := 1035) (by decide +kernel) rfl
theorem wq_812 : Cond.instanceMethod yX4_open ∈ BG := mem_T (i := 1036) (by decide +kernel) rfl
theorem wq_813 : Cond.selects RX4 yX4_open yX4_open ∈ BG := mem_T (i := 1037) (by decide +kernel) rfl
theorem wq_814 : Cond.code yX4_open cX4_open 5 (some (.int)) ∈ BG := mem_T (i := 1038) (by decide +kernel) rfl
theorem wq_815 : Cond.methodLink RL 102 yX3_lay ∈ BG := mem_T (i := 433) (by decide +kernel) rfl
theorem wq_816 : Cond.instanceMethod yX3_lay ∈ BG := mem_T (i := 434) (by decide +kernel) rfl
theorem wq_817 : Cond.selects RX3 yX3_lay yX3_lay ∈ BG := mem_T (i := 435) (by decide +kernel) rfl
theorem wq_818 : Cond.code yX3_lay cX3_lay 8 (some (.int)) ∈ BG := mem_T (i := 436) (by decide +kernel) rfl
theorem wq_819 : Cond.methodLink RL 105 yX4_lay ∈ BG := mem_T (i := 1043) (by decide +kernel) rfl
theorem wq_820 : Cond.instanceMethod yX4_lay ∈ BG := mem_T (i := 1044) (by decide +kernel) rfl
theorem wq_821 : Cond.selects RX4 yX4_lay yX4_lay ∈ BG := mem_T (i := 1045) (by decide +kernel) rfl
theorem wq_822 : Cond.code yX4_lay cX4_lay 8 (some (.int)) ∈ BG := mem_T (i := 1046) (by decide +kernel) rfl
theorem wq_823 : Cond.methodLink RL 106 yX3_fits ∈ BG := mem_T (i := 437) (by decide +kernel) rfl
theorem wq_824 : Cond.instanceMethod yX3_fits ∈ BG := mem_T (i := 438) (by decide +kernel) rfl
theorem wq_825 : Cond.selects RX3 yX3_fits yX3_fits ∈ BG := mem_T (i := 439) (by decide +kernel) rfl
theorem wq_826 : Cond.code yX3_fits cX3_fits 4 (some (.int)) ∈ BG := mem_T (i := 440) (by decide +kernel) rfl
theorem wq_827 : Cond.methodLink RL 109 yX4_fits ∈ BG := mem_T (i := 1047) (by decide +kernel) rfl
theorem wq_828 : Cond.instanceMethod yX4_fits ∈ BG := mem_T (i := 1048) (by decide +kernel) rfl
theorem wq_829 : Cond.selects RX4 yX4_fits yX4_fits ∈ BG := mem_T (i := 1049) (by decide +kernel) rfl
theorem wq_830 : Cond.code yX4_fits cX4_fits 3 (some (.int)) ∈ BG := mem_T (i := 1050) (by decide +kernel) rfl
theorem wq_831 : Cond.methodLink RL 110 yX3_step ∈ BG := mem_T (i := 464) (by decide +kernel) rfl
theorem wq_832 : Cond.instanceMethod yX3_step ∈ BG := mem_T (i := 465) (by decide +kernel) rfl
theorem wq_833 : Cond.selects RX3 yX3_step yX3_step ∈ BG := mem_T (i := 466) (by decide +kernel) rfl
theorem wq_834 : Cond.code yX3_step cX3_step 6 (some (.int)) ∈ BG := mem_T (i := 467) (by decide +kernel) rfl
theorem wq_835 : Cond.methodLink RL 113 yX4_step ∈ BG := mem_T (i := 1067) (by decide +kernel) rfl
theorem wq_836 : Cond.instanceMethod yX4_step ∈ BG := mem_T (i := 1068) (by decide +kernel) rfl
theorem wq_837 : Cond.selects RX4 yX4_step yX4_step ∈ BG := mem_T (i := 1069) (by decide +kernel) rfl
theorem wq_838 : Cond.code yX4_step cX4_step 4 (some (.int)) ∈ BG := mem_T (i := 1070) (by decide +kernel) rfl
theorem wq_839 : Cond.methodLink RL 114 yX3_kinds ∈ BG := mem_T (i := 468) (by decide +kernel) rfl
theorem wq_840 : Cond.instanceMethod yX3_kinds ∈ BG := mem_T (i := 469) (by decide +kernel) rfl
theorem wq_841 : Cond.selects RX3 yX3_kinds yX3_kinds ∈ BG := mem_T (i := 470) (by decide +kernel) rfl
theorem wq_842 : Cond.code yX3_kinds cX3_kinds 4 (some (.int)) ∈ BG := mem_T (i := 471) (by decide +kernel) rfl
theorem wq_843 : Cond.methodLink RL 117 yX4_kinds ∈ BG := mem_T (i := 1071) (by decide +kernel) rfl
theorem wq_844 : Cond.instanceMethod yX4_kinds ∈ BG := mem_T (i := 1072) (by decide +kernel) rfl
theorem wq_845 : Cond.selects RX4 yX4_kinds yX4_kinds ∈ BG := mem_T (i := 1073) (by decide +kernel) rfl
theorem wq_846 : Cond.code yX4_kinds cX4_kinds 3 (some (.int)) ∈ BG := mem_T (i := 1074) (by decide +kernel) rfl
theorem wq_847 : Cond.methodLink RL 118 yX3_rains ∈ BG := mem_T (i := 472) (by decide +kernel) rfl
theorem wq_848 : Cond.instanceMethod yX3_rains ∈ BG := mem_T (i := 473) (by decide +kernel) rfl
theorem wq_849 : Cond.selects RX3 yX3_rains yX3_rains ∈ BG := mem_T (i := 474) (by decide +kernel) rfl
theorem wq_850 : Cond.code yX3_rains cX3_rains 3 (some (.int)) ∈ BG := mem_T (i := 475) (by decide +kernel) rfl
theorem wq_851 : Cond.methodLink RL 121 yX4_rains ∈ BG := mem_T (i := 1075) (by decide +kernel) rfl
theorem wq_852 : Cond.instanceMethod yX4_rains ∈ BG := mem_T (i := 1076) (by decide +kernel) rfl
theorem wq_853 : Cond.selects RX4 yX4_rains yX4_rains ∈ BG := mem_T (i := 1077) (by decide +kernel) rfl
theorem wq_854 : Cond.code yX4_rains cX4_rains 4 (some (.int)) ∈ BG := mem_T (i := 1078) (by decide +kernel) rfl
theorem wq_855 : Cond.methodLink RL 122 yX3_odds ∈ BG := mem_T (i := 487) (by decide +kernel) rfl
theorem wq_856 : Cond.instanceMethod yX3_odds ∈ BG := mem_T (i := 488) (by decide +kernel) rfl
theorem wq_857 : Cond.selects RX3 yX3_odds yX3_odds ∈ BG := mem_T (i := 489) (by decide +kernel) rfl
theorem wq_858 : Cond.code yX3_odds cX3_odds 9 (some (.long)) ∈ BG := mem_T (i := 490) (by decide +kernel) rfl
theorem wq_859 : Cond.methodLink RL 126 yX4_odds ∈ BG := mem_T (i := 1084) (by decide +kernel) rfl
theorem wq_860 : Cond.instanceMethod yX4_odds ∈ BG := mem_T (i := 1085) (by decide +kernel) rfl
theorem wq_861 : Cond.selects RX4 yX4_odds yX4_odds ∈ BG := mem_T (i := 1086) (by decide +kernel) rfl
theorem wq_862 : Cond.code yX4_odds cX4_odds 9 (some (.long)) ∈ BG := mem_T (i := 1087) (by decide +kernel) rfl
theorem wq_863 : Cond.methodLink RL 127 yX3_seed ∈ BG := mem_T (i := 491) (by decide +kernel) rfl
theorem wq_864 : Cond.instanceMethod yX3_seed ∈ BG := mem_T (i := 492) (by decide +kernel) rfl
theorem wq_865 : Cond.selects RX3 yX3_seed yX3_seed ∈ BG := mem_T (i := 493) (by decide +kernel) rfl
theorem wq_866 : Cond.code yX3_seed cX3_seed 3 (some (.int)) ∈ BG := mem_T (i := 494) (by decide +kernel) rfl
theorem wq_867 : Cond.methodLink RL 130 yX4_seed ∈ BG := mem_T (i := 1088) (by decide +kernel) rfl
theorem wq_868 : Cond.instanceMethod yX4_seed ∈ BG := mem_T (i := 1089) (by decide +kernel) rfl
theorem wq_869 : Cond.selects RX4 yX4_seed yX4_seed ∈ BG := mem_T (i := 1090) (by decide +kernel) rfl
theorem wq_870 : Cond.code yX4_seed cX4_seed 2 (some (.int)) ∈ BG := mem_T (i := 1091) (by decide +kernel) rfl
theorem wq_871 : Cond.methodLink RL 131 yX3_feed ∈ BG := mem_T (i := 495) (by decide +kernel) rfl
theorem wq_872 : Cond.instanceMethod yX3_feed ∈ BG := mem_T (i := 496) (by decide +kernel) rfl
theorem wq_873 : Cond.selects RX3 yX3_feed yX3_feed ∈ BG := mem_T (i := 497) (by decide +kernel) rfl
theorem wq_874 : Cond.code yX3_feed cX3_feed 4 (some (.int)) ∈ BG := mem_T (i := 498) (by decide +kernel) rfl
theorem wq_875 : Cond.methodLink RL 134 yX4_feed ∈ BG := mem_T (i := 1092) (by decide +kernel) rfl
theorem wq_876 : Cond.instanceMethod yX4_feed ∈ BG := mem_T (i := 1093) (by decide +kernel) rfl
theorem wq_877 : Cond.selects RX4 yX4_feed yX4_feed ∈ BG := mem_T (i := 1094) (by decide +kernel) rfl
theorem wq_878 : Cond.code yX4_feed cX4_feed 4 (some (.int)) ∈ BG := mem_T (i := 1095) (by decide +kernel) rfl
theorem wq_879 : Cond.methodLink RL 135 yX3_wipe ∈ BG := mem_T (i := 503) (by decide +kernel) rfl
theorem wq_880 : Cond.instanceMethod yX3_wipe ∈ BG := mem_T (i := 504) (by decide +kernel) rfl
theorem wq_881 : Cond.selects RX3 yX3_wipe yX3_wipe ∈ BG := mem_T (i := 505) (by decide +kernel) rfl
theorem wq_882 : Cond.code yX3_wipe cX3_wipe 2 (some (.int)) ∈ BG := mem_T (i := 506) (by decide +kernel) rfl
theorem wq_883 : Cond.methodLink RL 138 yX4_wipe ∈ BG := mem_T (i := 1096) (by decide +kernel) rfl
theorem wq_884 : Cond.instanceMethod yX4_wipe ∈ BG := mem_T (i := 1097) (by decide +kernel) rfl
theorem wq_885 : Cond.selects RX4 yX4_wipe yX4_wipe ∈ BG := mem_T (i := 1098) (by decide +kernel) rfl
theorem wq_886 : Cond.code yX4_wipe cX4_wipe 2 (some (.int)) ∈ BG := mem_T (i := 1099) (by decide +kernel) rfl
theorem wq_887 : Cond.methodLink RL 139 yX3_text ∈ BG := mem_T (i := 507) (by decide +kernel) rfl
theorem wq_888 : Cond.instanceMethod yX3_text ∈ BG := mem_T (i := 508) (by decide +kernel) rfl
theorem wq_889 : Cond.selects RX3 yX3_text yX3_text ∈ BG := mem_T (i := 509) (by decide +kernel) rfl
theorem wq_890 : Cond.code yX3_text cX3_text 2 (some (.int)) ∈ BG := mem_T (i := 510) (by decide +kernel) rfl
theorem wq_891 : Cond.methodLink RL 142 yX4_text ∈ BG := mem_T (i := 1100) (by decide +kernel) rfl
theorem wq_892 : Cond.instanceMethod yX4_text ∈ BG := mem_T (i := 1101) (by decide +kernel) rfl
theorem wq_893 : Cond.selects RX4 yX4_text yX4_text ∈ BG := mem_T (i := 1102) (by decide +kernel) rfl
theorem wq_894 : Cond.code yX4_text cX4_text 3 (some (.int)) ∈ BG := mem_T (i := 1103) (by decide +kernel) rfl
theorem wq_895 : Cond.methodLink RL 143 yX3_hold ∈ BG := mem_T (i := 625) (by decide +kernel) rfl
theorem wq_896 : Cond.instanceMethod yX3_hold ∈ BG := mem_T (i := 626) (by decide +kernel) rfl
theorem wq_897 : Cond.selects RX3 yX3_hold yX3_hold ∈ BG := mem_T (i := 627) (by decide +kernel) rfl
theorem wq_898 : Cond.code yX3_hold cX3_hold 3 (some (.int)) ∈ BG := mem_T (i := 628) (by decide +kernel) rfl
theorem wq_899 : Cond.methodLink RL 146 yX4_hold ∈ BG := mem_T (i := 1155) (by decide +kernel) rfl
theorem wq_900 : Cond.instanceMethod yX4_hold ∈ BG := mem_T (i := 1156) (by decide +kernel) rfl
theorem wq_901 : Cond.selects RX4 yX4_hold yX4_hold ∈ BG := mem_T (i := 1157) (by decide +kernel) rfl
theorem wq_902 : Cond.code yX4_hold cX4_hold 3 (some (.int)) ∈ BG := mem_T (i := 1158) (by decide +kernel) rfl
theorem wq_903 : Cond.methodLink RL 147 yX3_as ∈ BG := mem_T (i := 629) (by decide +kernel) rfl
theorem wq_904 : Cond.instanceMethod yX3_as ∈ BG := mem_T (i := 630) (by decide +kernel) rfl
theorem wq_905 : Cond.selects RX3 yX3_as yX3_as ∈ BG := mem_T (i := 631) (by decide +kernel) rfl
theorem wq_906 : Cond.code yX3_as cX3_as 4 (some (.int)) ∈ BG := mem_T (i := 632) (by decide +kernel) rfl
theorem wq_907 : Cond.methodLink RL 150 yX4_as ∈ BG := mem_T (i := 1162) (by decide +kernel) rfl
theorem wq_908 : Cond.instanceMethod yX4_as ∈ BG := mem_T (i := 1163) (by decide +kernel) rfl
theorem wq_909 : Cond.selects RX4 yX4_as yX4_as ∈ BG := mem_T (i := 1164) (by decide +kernel) rfl
theorem wq_910 : Cond.code yX4_as cX4_as 4 (some (.int)) ∈ BG := mem_T (i := 1165) (by decide +kernel) rfl
theorem wq_911 : Cond.methodLink RL 151 yX3_sheet ∈ BG := mem_T (i := 638) (by decide +kernel) rfl
theorem wq_912 : Cond.instanceMethod yX3_sheet ∈ BG := mem_T (i := 639) (by decide +kernel) rfl
theorem wq_913 : Cond.selects RX3 yX3_sheet yX3_sheet ∈ BG := mem_T (i := 640) (by decide +kernel) rfl
theorem wq_914 : Cond.code yX3_sheet cX3_sheet 4 (some (.int)) ∈ BG := mem_T (i := 641) (by decide +kernel) rfl
theorem wq_915 : Cond.methodLink RL 154 yX4_sheet ∈ BG := mem_T (i := 1173) (by decide +kernel) rfl
theorem wq_916 : Cond.instanceMethod yX4_sheet ∈ BG := mem_T (i := 1174) (by decide +kernel) rfl
theorem wq_917 : Cond.selects RX4 yX4_sheet yX4_sheet ∈ BG := mem_T (i := 1175) (by decide +kernel) rfl
theorem wq_918 : Cond.code yX4_sheet cX4_sheet 5 (some (.int)) ∈ BG := mem_T (i := 1176) (by decide +kernel) rfl
theorem wq_919 : Cond.methodLink RL 155 yX3_write ∈ BG := mem_T (i := 647) (by decide +kernel) rfl
theorem wq_920 : Cond.instanceMethod yX3_write ∈ BG := mem_T (i := 648) (by decide +kernel) rfl
theorem wq_921 : Cond.selects RX3 yX3_write yX3_write ∈ BG := mem_T (i := 649) (by decide +kernel) rfl
theorem wq_922 : Cond.code yX3_write cX3_write 5 (some (.int)) ∈ BG := mem_T (i := 650) (by decide +kernel) rfl
theorem wq_923 : Cond.methodLink RL 158 yX4_write ∈ BG := mem_T (i := 1177) (by decide +kernel) rfl
theorem wq_924 : Cond.instanceMethod yX4_write ∈ BG := mem_T (i := 1178) (by decide +kernel) rfl
theorem wq_925 : Cond.selects RX4 yX4_write yX4_write ∈ BG := mem_T (i := 1179) (by decide +kernel) rfl
theorem wq_926 : Cond.code yX4_write cX4_write 4 (some (.int)) ∈ BG := mem_T (i := 1180) (by decide +kernel) rfl
theorem wq_927 : Cond.methodLink RL 159 yX3_copy ∈ BG := mem_T (i := 655) (by decide +kernel) rfl
theorem wq_928 : Cond.instanceMethod yX3_copy ∈ BG := mem_T (i := 656) (by decide +kernel) rfl
theorem wq_929 : Cond.selects RX3 yX3_copy yX3_copy ∈ BG := mem_T (i := 657) (by decide +kernel) rfl
theorem wq_930 : Cond.code yX3_copy cX3_copy 8 (some (.int)) ∈ BG := mem_T (i := 658) (by decide +kernel) rfl
theorem wq_931 : Cond.methodLink RL 163 yX4_copy ∈ BG := mem_T (i := 1184) (by decide +kernel) rfl
theorem wq_932 : Cond.instanceMethod yX4_copy ∈ BG := mem_T (i := 1185) (by decide +kernel) rfl
theorem wq_933 : Cond.selects RX4 yX4_copy yX4_copy ∈ BG := mem_T (i := 1186) (by decide +kernel) rfl
theorem wq_934 : Cond.code yX4_copy cX4_copy 7 (some (.int)) ∈ BG := mem_T (i := 1187) (by decide +kernel) rfl
theorem wq_935 : Cond.methodLink RL 164 yX3_load ∈ BG := mem_T (i := 664) (by decide +kernel) rfl
theorem wq_936 : Cond.instanceMethod yX3_load ∈ BG := mem_T (i := 665) (by decide +kernel) rfl
theorem wq_937 : Cond.selects RX3 yX3_load yX3_load ∈ BG := mem_T (i := 666) (by decide +kernel) rfl
theorem wq_938 : Cond.code yX3_load cX3_load 5 (some (.int)) ∈ BG := mem_T (i := 667) (by decide +kernel) rfl
theorem wq_939 : Cond.methodLink RL 167 yX4_load ∈ BG := mem_T (i := 1188) (by decide +kernel) rfl
theorem wq_940 : Cond.instanceMethod yX4_load ∈ BG := mem_T (i := 1189) (by decide +kernel) rfl
theorem wq_941 : Cond.selects RX4 yX4_load yX4_load ∈ BG := mem_T (i := 1190) (by decide +kernel) rfl
theorem wq_942 : Cond.code yX4_load cX4_load 3 (some (.int)) ∈ BG := mem_T (i := 1191) (by decide +kernel) rfl
theorem wq_943 : Cond.methodLink RL 168 yX3_judge ∈ BG := mem_T (i := 668) (by decide +kernel) rfl
theorem wq_944 : Cond.instanceMethod yX3_judge ∈ BG := mem_T (i := 669) (by decide +kernel) rfl
theorem wq_945 : Cond.selects RX3 yX3_judge yX3_judge ∈ BG := mem_T (i := 670) (by decide +kernel) rfl
theorem wq_946 : Cond.code yX3_judge cX3_judge 5 (some (.int)) ∈ BG := mem_T (i := 671) (by decide +kernel) rfl
theorem wq_947 : Cond.methodLink RL 171 yX4_judge ∈ BG := mem_T (i := 1196) (by decide +kernel) rfl
theorem wq_948 : Cond.instanceMethod yX4_judge ∈ BG := mem_T (i := 1197) (by decide +kernel) rfl
theorem wq_949 : Cond.selects RX4 yX4_judge yX4_judge ∈ BG := mem_T (i := 1198) (by decide +kernel) rfl
theorem wq_950 : Cond.code yX4_judge cX4_judge 3 (some (.int)) ∈ BG := mem_T (i := 1199) (by decide +kernel) rfl
theorem wq_951 : Cond.methodLink RL 172 yX3_image ∈ BG := mem_T (i := 672) (by decide +kernel) rfl
theorem wq_952 : Cond.instanceMethod yX3_image ∈ BG := mem_T (i := 673) (by decide +kernel) rfl
theorem wq_953 : Cond.selects RX3 yX3_image yX3_image ∈ BG := mem_T (i := 674) (by decide +kernel) rfl
theorem wq_954 : Cond.code yX3_image cX3_image 1 (some (.int)) ∈ BG := mem_T (i := 675) (by decide +kernel) rfl
theorem wq_955 : Cond.methodLink RL 175 yX4_image ∈ BG := mem_T (i := 1200) (by decide +kernel) rfl
theorem wq_956 : Cond.instanceMethod yX4_image ∈ BG := mem_T (i := 1201) (by decide +kernel) rfl
theorem wq_957 : Cond.selects RX4 yX4_image yX4_image ∈ BG := mem_T (i := 1202) (by decide +kernel) rfl
theorem wq_958 : Cond.code yX4_image cX4_image 1 (some (.int)) ∈ BG := mem_T (i := 1203) (by decide +kernel) rfl
theorem wq_959 : Cond.methodLink RL 176 yX3_undo ∈ BG := mem_T (i := 676) (by decide +kernel) rfl
theorem wq_960 : Cond.instanceMethod yX3_undo ∈ BG := mem_T (i := 677) (by decide +kernel) rfl
theorem wq_961 : Cond.selects RX3 yX3_undo yX3_undo ∈ BG := mem_T (i := 678) (by decide +kernel) rfl
theorem wq_962 : Cond.code yX3_undo cX3_undo 1 (some (.int)) ∈ BG := mem_T (i := 679) (by decide +kernel) rfl
theorem wq_963 : Cond.methodLink RL 179 yX4_undo ∈ BG := mem_T (i := 1204) (by decide +kernel) rfl
theorem wq_964 : Cond.instanceMethod yX4_undo ∈ BG := mem_T (i := 1205) (by decide +kernel) rfl
theorem wq_965 : Cond.selects RX4 yX4_undo yX4_undo ∈ BG := mem_T (i := 1206) (by decide +kernel) rfl
theorem wq_966 : Cond.code yX4_undo cX4_undo 1 (some (.int)) ∈ BG := mem_T (i := 1207) (by decide +kernel) rfl
theorem wq_967 : Cond.methodLink RL 180 yX3_tear ∈ BG := mem_T (i := 680) (by decide +kernel) rfl
theorem wq_968 : Cond.instanceMethod yX3_tear ∈ BG := mem_T (i := 681) (by decide +kernel) rfl
theorem wq_969 : Cond.selects RX3 yX3_tear yX3_tear ∈ BG := mem_T (i := 682) (by decide +kernel) rfl
theorem wq_970 : Cond.code yX3_tear cX3_tear 2 (some (.int)) ∈ BG := mem_T (i := 683) (by decide +kernel) rfl
theorem wq_971 : Cond.methodLink RL 183 yX4_tear ∈ BG := mem_T (i := 1208) (by decide +kernel) rfl
theorem wq_972 : Cond.instanceMethod yX4_tear ∈ BG := mem_T (i := 1209) (by decide +kernel) rfl
theorem wq_973 : Cond.selects RX4 yX4_tear yX4_tear ∈ BG := mem_T (i := 1210) (by decide +kernel) rfl
theorem wq_974 : Cond.code yX4_tear cX4_tear 2 (some (.int)) ∈ BG := mem_T (i := 1211) (by decide +kernel) rfl
theorem wq_975 : Cond.methodLink RL 184 yX3_count ∈ BG := mem_T (i := 684) (by decide +kernel) rfl
theorem wq_976 : Cond.instanceMethod yX3_count ∈ BG := mem_T (i := 685) (by decide +kernel) rfl
theorem wq_977 : Cond.selects RX3 yX3_count yX3_count ∈ BG := mem_T (i := 686) (by decide +kernel) rfl
theorem wq_978 : Cond.code yX3_count cX3_count 2 (some (.int)) ∈ BG := mem_T (i := 687) (by decide +kernel) rfl
theorem wq_979 : Cond.methodLink RL 187 yX4_count ∈ BG := mem_T (i := 1212) (by decide +kernel) rfl
theorem wq_980 : Cond.instanceMethod yX4_count ∈ BG := mem_T (i := 1213) (by decide +kernel) rfl
theorem wq_981 : Cond.selects RX4 yX4_count yX4_count ∈ BG := mem_T (i := 1214) (by decide +kernel) rfl
theorem wq_982 : Cond.code yX4_count cX4_count 4 (some (.int)) ∈ BG := mem_T (i := 1215) (by decide +kernel) rfl
theorem wq_983 : Cond.methodLink RL 188 yX3_status ∈ BG := mem_T (i := 692) (by decide +kernel) rfl
theorem wq_984 : Cond.instanceMethod yX3_status ∈ BG := mem_T (i := 693) (by decide +kernel) rfl
theorem wq_985 : Cond.selects RX3 yX3_status yX3_status ∈ BG := mem_T (i := 694) (by decide +kernel) rfl
theorem wq_986 : Cond.code yX3_status cX3_status 4 (some (.int)) ∈ BG := mem_T (i := 695) (by decide +kernel) rfl
theorem wq_987 : Cond.methodLink RL 191 yX4_status ∈ BG := mem_T (i := 1216) (by decide +kernel) rfl
theorem wq_988 : Cond.instanceMethod yX4_status ∈ BG := mem_T (i := 1217) (by decide +kernel) rfl
theorem wq_989 : Cond.selects RX4 yX4_status yX4_status ∈ BG := mem_T (i := 1218) (by decide +kernel) rfl
theorem wq_990 : Cond.code yX4_status cX4_status 2 (some (.int)) ∈ BG := mem_T (i := 1219) (by decide +kernel) rfl
theorem wm_X0_126 : Cond.methodLink RX0 126 Lib.Math.min.name ∈ BG := mem_T (i := 533) (by decide +kernel) rfl
theorem wa_X2_61 : Cond.methodLink RX2 61 arraycopyName ∈ BG := mem_T (i := 330) (by decide +kernel) rfl
theorem wm_X2_90 : Cond.methodLink RX2 90 Lib.Math.min.name ∈ BG := mem_T (i := 280) (by decide +kernel) rfl
theorem wm_X2_122 : Cond.methodLink RX2 122 Lib.Math.max.name ∈ BG := mem_T (i := 277) (by decide +kernel) rfl
theorem wm_X3_170 : Cond.methodLink RX3 170 Lib.Math.min.name ∈ BG := mem_T (i := 415) (by decide +kernel) rfl
theorem wa_X3_236 : Cond.methodLink RX3 236 arraycopyName ∈ BG := mem_T (i := 663) (by decide +kernel) rfl
theorem wm_X4_148 : Cond.methodLink RX4 148 Lib.Math.max.name ∈ BG := mem_T (i := 889) (by decide +kernel) rfl
theorem wm_X4_159 : Cond.methodLink RX4 159 Lib.Math.min.name ∈ BG := mem_T (i := 904) (by decide +kernel) rfl
theorem wl_X0_117 : WlS RX0 117 yX0_isDigit cX0_isDigit 1 (some (.boolean)) 1 := ⟨wq_4, wq_5, wq_6, wq_7, ⟨by decide +kernel, by decide +kernel, by decide +kernel⟩, by decide⟩
theorem wl_X0_111 : WlS RX0 111 yX0_isLetter cX0_isLetter 1 (some (.boolean)) 1 := ⟨wq_8, wq_9, wq_6, wq_10, ⟨by decide +kernel, by decide +kernel, by decide +kernel⟩, by decide⟩
theorem wl_X0_123 : WlS RX0 123 yX0_signOf cX0_signOf 1 (some (.int)) 1 := ⟨wq_12, wq_13, wq_6, wq_14, ⟨by decide +kernel, by decide +kernel, by decide +kernel⟩, by decide⟩
theorem wl_X0_120 : WlV RX0 120 RX0 yX0_takeDigits cX0_takeDigits 1 none 0 := ⟨wq_16, wq_17, wq_18, wq_6, wq_19, ⟨by decide +kernel, by decide +kernel, by decide +kernel⟩, by decide⟩
theorem wl_X0_114 : WlV RX0 114 RX0 yX0_takeLetters cX0_takeLetters 1 none 0 := ⟨wq_20, wq_21, wq_22, wq_6, wq_23, ⟨by decide +kernel, by decide +kernel, by decide +kernel⟩, by decide⟩
theorem wl_X0_103 : WlV RX0 103 RJ0 yJ0_length_8abf5 cJ0_length_8abf5 1 (some (.int)) 0 := ⟨wq_24, wq_25, wq_26, wq_27, wq_28, ⟨by decide +kernel, by decide +kernel, by decide +kernel⟩, by decide⟩
theorem wl_X0_107 : WlV RX0 107 RJ0 yJ0_charAt_5068e cJ0_charAt_5068e 2 (some (.char)) 1 := ⟨wq_29, wq_30, wq_31, wq_27, wq_32, ⟨by decide +kernel, by decide +kernel, by decide +kernel⟩, by decide⟩
theorem wl_X0_85 : WlS RX0 85 yX0_wordOf cX0_wordOf 1 (some (.object "java/lang/String")) 1 := ⟨wq_33, wq_34, wq_6, wq_35, ⟨by decide +kernel, by decide +kernel, by decide +kernel⟩, by decide⟩
theorem wl_X0_37 : WlV RX0 37 RX0 yX0_isWord cX0_isWord 3 (some (.boolean)) 1 := ⟨wq_36, wq_37, wq_38, wq_6, wq_39, ⟨by decide +kernel, by decide +kernel, by decide +kernel⟩, by decide⟩
theorem wl_X2_67 : WlS RX2 67 yJ7_fill_53178 cJ7_fill_53178 4 none 2 := ⟨wq_41, wq_42, wq_43, wq_44, ⟨by decide +kernel, by decide +kernel, by decide +kernel⟩, by decide⟩
theorem wl_X2_55 : WlV RX2 55 RX2 yX2_lookAround cX2_lookAround 3 none 0 := ⟨wq_52, wq_53, wq_54, wq_55, wq_56, ⟨by decide +kernel, by decide +kernel, by decide +kernel⟩, by decide⟩
theorem wl_X0_22 : WlV RX0 22 RX0 yX0_advance cX0_advance 1 none 0 := ⟨wq_60, wq_61, wq_62, wq_6, wq_63, ⟨by decide +kernel, by decide +kernel, by decide +kernel⟩, by decide⟩
theorem wl_X0_77 : WlN RX0 77 yX3_mostOf cX3_mostOf 1 (some (.int)) 1 := ⟨by decide +kernel, wq_64, wq_65, wq_66, ⟨by decide +kernel, by decide +kernel, by decide +kernel⟩, by decide⟩
theorem wl_X0_41 : WlV RX0 41 RX0 yX0_isNumberTo cX0_isNumberTo 2 (some (.boolean)) 1 := ⟨wq_67, wq_68, wq_69, wq_6, wq_70, ⟨by decide +kernel, by decide +kernel, by decide +kernel⟩, by decide⟩
theorem wl_X0_81 : WlV RX0 81 RX2 yX2_setTrait cX2_setTrait 4 none 3 := ⟨wq_71, wq_72, wq_73, wq_55, wq_74, ⟨by decide +kernel, by decide +kernel, by decide +kernel⟩, by decide⟩
theorem wl_X0_53 : WlV RX0 53 RX0 yX0_kindTold cX0_kindTold 2 (some (.int)) 0 := ⟨wq_75, wq_76, wq_77, wq_6, wq_78, ⟨by decide +kernel, by decide +kernel, by decide +kernel⟩, by decide⟩
theorem wl_X0_57 : WlV RX0 57 RX2 yX2_isCrowded cX2_isCrowded 1 (some (.boolean)) 0 := ⟨wq_79, wq_80, wq_81, wq_55, wq_82, ⟨by decide +kernel, by decide +kernel, by decide +kernel⟩, by decide⟩
theorem wl_X0_61 : WlV RX0 61 RX2 yX2_raise cX2_raise 4 (some (.int)) 2 := ⟨wq_83, wq_84, wq_85, wq_55, wq_86, ⟨by decide +kernel, by decide +kernel, by decide +kernel⟩, by decide⟩
theorem wl_X0_67 : WlV RX0 67 RX0 yX0_readTrait cX0_readTrait 6 (some (.boolean)) 4 := ⟨wq_87, wq_88, wq_89, wq_6, wq_90, ⟨by decide +kernel, by decide +kernel, by decide +kernel⟩, by decide⟩
theorem wl_X0_25 : WlV RX0 25 RX0 yX0_readItem cX0_readItem 4 (some (.boolean)) 1 := ⟨wq_91, wq_92, wq_93, wq_6, wq_94, ⟨by decide +kernel, by decide +kernel, by decide +kernel⟩, by decide⟩
theorem wl_X1_22 : WlS RX1 22 yJ7_fill_53178 cJ7_fill_53178 4 none 2 := ⟨wq_98, wq_42, wq_43, wq_44, ⟨by decide +kernel, by decide +kernel, by decide +kernel⟩, by decide⟩
theorem wl_X2_76 : WlS RX2 76 yX2_valleysIn cX2_valleysIn 3 (some (.int)) 1 := ⟨wq_103, wq_104, wq_55, wq_105, ⟨by decide +kernel, by decide +kernel, by decide +kernel⟩, by decide⟩
theorem wl_X2_80 : WlV RX2 80 RX2 yX2_sumOf cX2_sumOf 4 (some (.int)) 1 := ⟨wq_106, wq_107, wq_108, wq_55, wq_109, ⟨by decide +kernel, by decide +kernel, by decide +kernel⟩, by decide⟩
theorem wl_X3_256 : WlS RX3 256 yJ9_floorMod_7cf53 cJ9_floorMod_7cf53 3 (some (.int)) 2 := ⟨wq_110, wq_111, wq_112, wq_113, ⟨by decide +kernel, by decide +kernel, by decide +kernel⟩, by decide⟩
theorem wl_X2_83 : WlN RX2 83 yX3_waysOn cX3_waysOn 2 (some (.int)) 2 := ⟨by decide +kernel, wq_114, wq_65, wq_115, ⟨by decide +kernel, by decide +kernel, by decide +kernel⟩, by decide⟩
theorem wl_X2_87 : WlV RX2 87 RX2 yX2_climbOn cX2_climbOn 7 (some (.int)) 2 := ⟨wq_116, wq_117, wq_118, wq_55, wq_119, ⟨by decide +kernel, by decide +kernel, by decide +kernel⟩, by decide⟩
theorem wl_X2_99 : WlV RX2 99 RX2 yX2_partnerMoves cX2_partnerMoves 2 (some (.int)) 1 := ⟨wq_123, wq_124, wq_125, wq_55, wq_126, ⟨by decide +kernel, by decide +kernel, by decide +kernel⟩, by decide⟩
theorem wl_X2_105 : WlS RX2 105 yJ6_bitCount_0f7a4 cJ6_bitCount_0f7a4 1 (some (.int)) 1 := ⟨wq_127, wq_128, wq_129, wq_130, ⟨by decide +kernel, by decide +kernel, by decide +kernel⟩, by decide⟩
theorem wl_X2_102 : WlV RX2 102 RX2 yX2_twinMoves cX2_twinMoves 2 (some (.int)) 1 := ⟨wq_131, wq_132, wq_133, wq_55, wq_134, ⟨by decide +kernel, by decide +kernel, by decide +kernel⟩, by decide⟩
theorem wl_X2_95 : WlV RX2 95 RX2 yX2_tallOf cX2_tallOf 2 (some (.int)) 1 := ⟨wq_135, wq_136, wq_137, wq_55, wq_138, ⟨by decide +kernel, by decide +kernel, by decide +kernel⟩, by decide⟩
theorem wl_X2_113 : WlV RX2 113 RX2 yX2_movesOf cX2_movesOf 2 (some (.int)) 1 := ⟨wq_140, wq_141, wq_142, wq_55, wq_143, ⟨by decide +kernel, by decide +kernel, by decide +kernel⟩, by decide⟩
theorem wl_X2_116 : WlV RX2 116 RX2 yX2_turnsOf cX2_turnsOf 2 (some (.int)) 1 := ⟨wq_144, wq_145, wq_146, wq_55, wq_147, ⟨by decide +kernel, by decide +kernel, by decide +kernel⟩, by decide⟩
theorem wl_X2_125 : WlS RX2 125 yJ9_floorMod_7cf53 cJ9_floorMod_7cf53 3 (some (.int)) 2 := ⟨wq_148, wq_111, wq_112, wq_113, ⟨by decide +kernel, by decide +kernel, by decide +kernel⟩, by decide⟩
theorem wl_X2_119 : WlV RX2 119 RX2 yX2_sinksOf cX2_sinksOf 2 (some (.int)) 1 := ⟨wq_149, wq_150, wq_151, wq_55, wq_152, ⟨by decide +kernel, by decide +kernel, by decide +kernel⟩, by decide⟩
theorem wl_X2_110 : WlV RX2 110 RX2 yX2_passAge cX2_passAge 4 none 0 := ⟨wq_153, wq_154, wq_155, wq_55, wq_156, ⟨by decide +kernel, by decide +kernel, by decide +kernel⟩, by decide⟩
theorem wl_X2_130 : WlV RX2 130 RX2 yX2_draw cX2_draw 1 (some (.int)) 0 := ⟨wq_158, wq_159, wq_160, wq_55, wq_161, ⟨by decide +kernel, by decide +kernel, by decide +kernel⟩, by decide⟩
theorem wl_X2_134 : WlV RX2 134 RX2 yX2_lacks cX2_lacks 2 (some (.boolean)) 1 := ⟨wq_162, wq_163, wq_164, wq_55, wq_165, ⟨by decide +kernel, by decide +kernel, by decide +kernel⟩, by decide⟩
theorem wl_X2_138 : WlV RX2 138 RX2 yX2_setTrait cX2_setTrait 4 none 3 := ⟨wq_166, wq_72, wq_73, wq_55, wq_74, ⟨by decide +kernel, by decide +kernel, by decide +kernel⟩, by decide⟩
theorem wl_X3_40 : WlS RX3 40 yX3_isOutside cX3_isOutside 3 (some (.boolean)) 3 := ⟨wq_169, wq_170, wq_65, wq_171, ⟨by decide +kernel, by decide +kernel, by decide +kernel⟩, by decide⟩
theorem wl_X3_44 : WlV RX3 44 RX3 yX3_finding cX3_finding 2 (some (.int)) 1 := ⟨wq_173, wq_174, wq_175, wq_65, wq_176, ⟨by decide +kernel, by decide +kernel, by decide +kernel⟩, by decide⟩
theorem wl_X3_52 : WlS RX3 52 yX3_isNoValley cX3_isNoValley 1 (some (.boolean)) 1 := ⟨wq_177, wq_178, wq_65, wq_179, ⟨by decide +kernel, by decide +kernel, by decide +kernel⟩, by decide⟩
theorem wl_X3_56 : WlV RX3 56 RX2 yX2_isCrowded cX2_isCrowded 1 (some (.boolean)) 0 := ⟨wq_180, wq_80, wq_81, wq_55, wq_82, ⟨by decide +kernel, by decide +kernel, by decide +kernel⟩, by decide⟩
theorem wl_X3_60 : WlV RX3 60 RX2 yX2_raise cX2_raise 4 (some (.int)) 2 := ⟨wq_181, wq_84, wq_85, wq_55, wq_86, ⟨by decide +kernel, by decide +kernel, by decide +kernel⟩, by decide⟩
theorem wl_X3_64 : WlV RX3 64 RX2 yX2_lacks cX2_lacks 2 (some (.boolean)) 1 := ⟨wq_182, wq_163, wq_164, wq_55, wq_165, ⟨by decide +kernel, by decide +kernel, by decide +kernel⟩, by decide⟩
theorem wl_X3_67 : WlV RX3 67 RX2 yX2_movesOf cX2_movesOf 2 (some (.int)) 1 := ⟨wq_183, wq_141, wq_142, wq_55, wq_143, ⟨by decide +kernel, by decide +kernel, by decide +kernel⟩, by decide⟩
theorem wl_X3_70 : WlV RX3 70 RX2 yX2_turnsOf cX2_turnsOf 2 (some (.int)) 1 := ⟨wq_184, wq_145, wq_146, wq_55, wq_147, ⟨by decide +kernel, by decide +kernel, by decide +kernel⟩, by decide⟩
theorem wl_X3_73 : WlV RX3 73 RX2 yX2_sinksOf cX2_sinksOf 2 (some (.int)) 1 := ⟨wq_185, wq_150, wq_151, wq_55, wq_152, ⟨by decide +kernel, by decide +kernel, by decide +kernel⟩, by decide⟩
theorem wl_X3_76 : WlV RX3 76 RX2 yX2_meetsOf cX2_meetsOf 2 (some (.int)) 1 := ⟨wq_186, wq_187, wq_188, wq_55, wq_189, ⟨by decide +kernel, by decide +kernel, by decide +kernel⟩, by decide⟩
theorem wl_X3_79 : WlV RX3 79 RX2 yX2_trait cX2_trait 3 (some (.int)) 2 := ⟨wq_190, wq_191, wq_192, wq_55, wq_193, ⟨by decide +kernel, by decide +kernel, by decide +kernel⟩, by decide⟩
theorem wl_X3_82 : WlS RX3 82 yX3_leastOf cX3_leastOf 1 (some (.int)) 1 := ⟨wq_194, wq_195, wq_65, wq_196, ⟨by decide +kernel, by decide +kernel, by decide +kernel⟩, by decide⟩
theorem wl_X3_85 : WlS RX3 85 yX3_mostOf cX3_mostOf 1 (some (.int)) 1 := ⟨wq_197, wq_64, wq_65, wq_66, ⟨by decide +kernel, by decide +kernel, by decide +kernel⟩, by decide⟩
theorem wl_X3_88 : WlV RX3 88 RX2 yX2_setTrait cX2_setTrait 4 none 3 := ⟨wq_198, wq_72, wq_73, wq_55, wq_74, ⟨by decide +kernel, by decide +kernel, by decide +kernel⟩, by decide⟩
theorem wl_X3_92 : WlV RX3 92 RX2 yX2_standingAt cX2_standingAt 2 (some (.int)) 1 := ⟨wq_199, wq_200, wq_201, wq_55, wq_202, ⟨by decide +kernel, by decide +kernel, by decide +kernel⟩, by decide⟩
theorem wl_X3_95 : WlV RX3 95 RX2 yX2_facing cX2_facing 2 (some (.int)) 1 := ⟨wq_203, wq_204, wq_205, wq_55, wq_206, ⟨by decide +kernel, by decide +kernel, by decide +kernel⟩, by decide⟩
theorem wl_X3_98 : WlV RX3 98 RX2 yX2_highestAt cX2_highestAt 4 (some (.int)) 1 := ⟨wq_207, wq_208, wq_209, wq_55, wq_210, ⟨by decide +kernel, by decide +kernel, by decide +kernel⟩, by decide⟩
theorem wl_X3_105 : WlV RX3 105 RX2 yX2_passAges cX2_passAges 3 none 1 := ⟨wq_212, wq_213, wq_214, wq_55, wq_215, ⟨by decide +kernel, by decide +kernel, by decide +kernel⟩, by decide⟩
theorem wl_X3_109 : WlV RX3 109 RX2 yX2_meeting cX2_meeting 3 (some (.int)) 0 := ⟨wq_216, wq_217, wq_218, wq_55, wq_219, ⟨by decide +kernel, by decide +kernel, by decide +kernel⟩, by decide⟩
theorem wl_X3_113 : WlS RX3 113 yJ6_bitCount_0f7a4 cJ6_bitCount_0f7a4 1 (some (.int)) 1 := ⟨wq_220, wq_128, wq_129, wq_130, ⟨by decide +kernel, by decide +kernel, by decide +kernel⟩, by decide⟩
theorem wl_X3_118 : WlV RX3 118 RX2 yX2_heightOfAll cX2_heightOfAll 1 (some (.int)) 0 := ⟨wq_221, wq_222, wq_223, wq_55, wq_224, ⟨by decide +kernel, by decide +kernel, by decide +kernel⟩, by decide⟩
theorem wl_X3_121 : WlV RX3 121 RX2 yX2_valleysStoodAt cX2_valleysStoodAt 1 (some (.int)) 0 := ⟨wq_225, wq_226, wq_227, wq_55, wq_228, ⟨by decide +kernel, by decide +kernel, by decide +kernel⟩, by decide⟩
theorem wl_X3_124 : WlV RX3 124 RX2 yX2_valleysFaced cX2_valleysFaced 1 (some (.int)) 0 := ⟨wq_229, wq_230, wq_231, wq_55, wq_232, ⟨by decide +kernel, by decide +kernel, by decide +kernel⟩, by decide⟩
theorem wl_X3_127 : WlV RX3 127 RX2 yX2_bowedOfAll cX2_bowedOfAll 1 (some (.int)) 0 := ⟨wq_233, wq_234, wq_235, wq_55, wq_236, ⟨by decide +kernel, by decide +kernel, by decide +kernel⟩, by decide⟩
theorem wl_X3_130 : WlS RX3 130 yX3_isForetold cX3_isForetold 1 (some (.boolean)) 1 := ⟨wq_237, wq_238, wq_65, wq_239, ⟨by decide +kernel, by decide +kernel, by decide +kernel⟩, by decide⟩
theorem wl_X3_133 : WlV RX3 133 RX2 yX2_become cX2_become 2 none 1 := ⟨wq_241, wq_242, wq_243, wq_55, wq_244, ⟨by decide +kernel, by decide +kernel, by decide +kernel⟩, by decide⟩
theorem wl_X3_137 : WlV RX3 137 RX2 yX2_facedBy cX2_facedBy 2 (some (.int)) 1 := ⟨wq_245, wq_246, wq_247, wq_55, wq_248, ⟨by decide +kernel, by decide +kernel, by decide +kernel⟩, by decide⟩
theorem wl_X3_140 : WlV RX3 140 RX2 yX2_passAge cX2_passAge 4 none 0 := ⟨wq_249, wq_154, wq_155, wq_55, wq_156, ⟨by decide +kernel, by decide +kernel, by decide +kernel⟩, by decide⟩
theorem wl_X3_143 : WlV RX3 143 RX3 yX3_isNoPair cX3_isNoPair 3 (some (.boolean)) 2 := ⟨wq_250, wq_251, wq_252, wq_65, wq_253, ⟨by decide +kernel, by decide +kernel, by decide +kernel⟩, by decide⟩
theorem wl_X3_147 : WlV RX3 147 RX3 yX3_agesUntilMeeting cX3_agesUntilMeeting 5 (some (.int)) 3 := ⟨wq_254, wq_255, wq_256, wq_65, wq_257, ⟨by decide +kernel, by decide +kernel, by decide +kernel⟩, by decide⟩
theorem wl_X3_151 : WlV RX3 151 RX2 yX2_standsAndTurnsAs cX2_standsAndTurnsAs 3 (some (.boolean)) 1 := ⟨wq_258, wq_259, wq_260, wq_55, wq_261, ⟨by decide +kernel, by decide +kernel, by decide +kernel⟩, by decide⟩
theorem wl_X3_155 : WlV RX3 155 RX2 yX2_everyone cX2_everyone 1 (some (.int)) 0 := ⟨wq_262, wq_263, wq_264, wq_55, wq_265, ⟨by decide +kernel, by decide +kernel, by decide +kernel⟩, by decide⟩
theorem wl_X3_161 : WlV RX3 161 RX3 yX3_tryWith cX3_tryWith 4 none 3 := ⟨wq_266, wq_267, wq_268, wq_65, wq_269, ⟨by decide +kernel, by decide +kernel, by decide +kernel⟩, by decide⟩
theorem wl_X3_158 : WlV RX3 158 RX3 yX3_soonestWith cX3_soonestWith 8 (some (.int)) 3 := ⟨wq_270, wq_271, wq_272, wq_65, wq_273, ⟨by decide +kernel, by decide +kernel, by decide +kernel⟩, by decide⟩
theorem wl_X3_164 : WlS RX3 164 yX3_waysOn cX3_waysOn 2 (some (.int)) 2 := ⟨wq_274, wq_114, wq_65, wq_115, ⟨by decide +kernel, by decide +kernel, by decide +kernel⟩, by decide⟩
theorem wl_X3_167 : WlV RX3 167 RX2 yX2_climbOn cX2_climbOn 7 (some (.int)) 2 := ⟨wq_275, wq_117, wq_118, wq_55, wq_119, ⟨by decide +kernel, by decide +kernel, by decide +kernel⟩, by decide⟩
theorem wl_X3_175 : WlV RX3 175 RX2 yX2_leastClimb cX2_leastClimb 3 (some (.int)) 2 := ⟨wq_276, wq_277, wq_278, wq_55, wq_279, ⟨by decide +kernel, by decide +kernel, by decide +kernel⟩, by decide⟩
theorem wl_X3_178 : WlV RX3 178 RX3 yX3_agesOpen cX3_agesOpen 7 (some (.int)) 4 := ⟨wq_280, wq_281, wq_282, wq_65, wq_283, ⟨by decide +kernel, by decide +kernel, by decide +kernel⟩, by decide⟩
theorem wl_X3_259 : WlV RX3 259 RX3 yX3_facesAsTold cX3_facesAsTold 5 (some (.boolean)) 2 := ⟨wq_285, wq_286, wq_287, wq_65, wq_288, ⟨by decide +kernel, by decide +kernel, by decide +kernel⟩, by decide⟩
theorem wl_X3_210 : WlS RX3 210 yX3_isNoSheet cX3_isNoSheet 1 (some (.boolean)) 1 := ⟨wq_289, wq_290, wq_65, wq_291, ⟨by decide +kernel, by decide +kernel, by decide +kernel⟩, by decide⟩
theorem wl_X3_224 : WlV RX3 224 RX1 yX1_isMissing cX1_isMissing 1 (some (.boolean)) 0 := ⟨wq_292, wq_293, wq_294, wq_295, wq_296, ⟨by decide +kernel, by decide +kernel, by decide +kernel⟩, by decide⟩
theorem wl_X3_218 : WlV RX3 218 RX3 yX3_wrongWithSheet cX3_wrongWithSheet 2 (some (.int)) 1 := ⟨wq_297, wq_298, wq_299, wq_65, wq_300, ⟨by decide +kernel, by decide +kernel, by decide +kernel⟩, by decide⟩
theorem wl_X3_182 : WlV RX3 182 RX3 yX3_wrongWithTold cX3_wrongWithTold 4 (some (.int)) 2 := ⟨wq_301, wq_302, wq_303, wq_65, wq_304, ⟨by decide +kernel, by decide +kernel, by decide +kernel⟩, by decide⟩
theorem wl_X3_185 : WlV RX3 185 RX3 yX3_fittingSet cX3_fittingSet 7 (some (.int)) 3 := ⟨wq_305, wq_306, wq_307, wq_65, wq_308, ⟨by decide +kernel, by decide +kernel, by decide +kernel⟩, by decide⟩
theorem wl_X3_188 : WlV RX3 188 RX2 yX2_passWetAge cX2_passWetAge 2 none 0 := ⟨wq_309, wq_310, wq_311, wq_55, wq_312, ⟨by decide +kernel, by decide +kernel, by decide +kernel⟩, by decide⟩
theorem wl_X3_197 : WlV RX3 197 RX0 yX0_append cX0_append 2 none 1 := ⟨wq_314, wq_315, wq_316, wq_6, wq_317, ⟨by decide +kernel, by decide +kernel, by decide +kernel⟩, by decide⟩
theorem wl_X3_200 : WlV RX3 200 RX0 yX0_readInto cX0_readInto 3 (some (.int)) 1 := ⟨wq_318, wq_319, wq_320, wq_6, wq_321, ⟨by decide +kernel, by decide +kernel, by decide +kernel⟩, by decide⟩
theorem wl_X3_207 : WlS RX3 207 yX3_isUnder cX3_isUnder 4 (some (.boolean)) 2 := ⟨wq_323, wq_324, wq_65, wq_325, ⟨by decide +kernel, by decide +kernel, by decide +kernel⟩, by decide⟩
theorem wl_X3_213 : WlV RX3 213 RX1 yX1_begin cX1_begin 3 none 2 := ⟨wq_326, wq_327, wq_328, wq_295, wq_329, ⟨by decide +kernel, by decide +kernel, by decide +kernel⟩, by decide⟩
theorem wl_X3_221 : WlV RX3 221 RX1 yX1_put cX1_put 3 none 2 := ⟨wq_330, wq_331, wq_332, wq_295, wq_333, ⟨by decide +kernel, by decide +kernel, by decide +kernel⟩, by decide⟩
theorem wl_X3_230 : WlV RX3 230 RX1 yX1_reaches cX1_reaches 3 (some (.boolean)) 2 := ⟨wq_334, wq_335, wq_336, wq_295, wq_337, ⟨by decide +kernel, by decide +kernel, by decide +kernel⟩, by decide⟩
theorem wl_X3_249 : WlV RX3 249 RX2 yX2_spotsHeld cX2_spotsHeld 3 (some (.int)) 0 := ⟨wq_340, wq_341, wq_342, wq_55, wq_343, ⟨by decide +kernel, by decide +kernel, by decide +kernel⟩, by decide⟩
theorem wl_X4_76 : WlS RX4 76 yX4_copyRow cX4_copyRow 3 none 2 := ⟨wq_348, wq_349, wq_350, wq_351, ⟨by decide +kernel, by decide +kernel, by decide +kernel⟩, by decide⟩
theorem wl_X4_81 : WlV RX4 81 RX4 yX4_finding cX4_finding 2 (some (.int)) 1 := ⟨wq_353, wq_354, wq_355, wq_350, wq_356, ⟨by decide +kernel, by decide +kernel, by decide +kernel⟩, by decide⟩
theorem wl_X4_85 : WlS RX4 85 yX4_within cX4_within 3 (some (.boolean)) 3 := ⟨wq_357, wq_358, wq_350, wq_359, ⟨by decide +kernel, by decide +kernel, by decide +kernel⟩, by decide⟩
theorem wl_X4_89 : WlV RX4 89 RX4 yX4_become cX4_become 4 (some (.int)) 2 := ⟨wq_360, wq_361, wq_362, wq_350, wq_363, ⟨by decide +kernel, by decide +kernel, by decide +kernel⟩, by decide⟩
theorem wl_X4_93 : WlS RX4 93 yX4_at cX4_at 2 (some (.int)) 2 := ⟨wq_364, wq_365, wq_350, wq_366, ⟨by decide +kernel, by decide +kernel, by decide +kernel⟩, by decide⟩
theorem wl_X4_96 : WlS RX4 96 yX4_isKind cX4_isKind 1 (some (.boolean)) 1 := ⟨wq_367, wq_368, wq_350, wq_369, ⟨by decide +kernel, by decide +kernel, by decide +kernel⟩, by decide⟩
theorem wl_X4_100 : WlS RX4 100 yX4_isValley cX4_isValley 1 (some (.boolean)) 1 := ⟨wq_370, wq_371, wq_350, wq_372, ⟨by decide +kernel, by decide +kernel, by decide +kernel⟩, by decide⟩
theorem wl_X4_104 : WlV RX4 104 RX4 yX4_comes cX4_comes 7 (some (.int)) 5 := ⟨wq_374, wq_375, wq_376, wq_350, wq_377, ⟨by decide +kernel, by decide +kernel, by decide +kernel⟩, by decide⟩
theorem wl_X4_108 : WlV RX4 108 RX4 yX4_hillIs cX4_hillIs 3 (some (.int)) 2 := ⟨wq_378, wq_379, wq_380, wq_350, wq_381, ⟨by decide +kernel, by decide +kernel, by decide +kernel⟩, by decide⟩
theorem wl_X4_111 : WlS RX4 111 yX4_by12 cX4_by12 2 (some (.int)) 1 := ⟨wq_383, wq_384, wq_350, wq_385, ⟨by decide +kernel, by decide +kernel, by decide +kernel⟩, by decide⟩
theorem wl_X4_114 : WlV RX4 114 RX4 yX4_facesOf cX4_facesOf 2 (some (.int)) 1 := ⟨wq_386, wq_387, wq_388, wq_350, wq_389, ⟨by decide +kernel, by decide +kernel, by decide +kernel⟩, by decide⟩
theorem wl_X4_117 : WlV RX4 117 RX4 yX4_movesOf cX4_movesOf 4 (some (.int)) 2 := ⟨wq_391, wq_392, wq_393, wq_350, wq_394, ⟨by decide +kernel, by decide +kernel, by decide +kernel⟩, by decide⟩
theorem wl_X4_120 : WlV RX4 120 RX4 yX4_atValley cX4_atValley 4 (some (.int)) 1 := ⟨wq_395, wq_396, wq_397, wq_350, wq_398, ⟨by decide +kernel, by decide +kernel, by decide +kernel⟩, by decide⟩
theorem wl_X4_123 : WlS RX4 123 yX4_bits cX4_bits 3 (some (.int)) 1 := ⟨wq_399, wq_400, wq_350, wq_401, ⟨by decide +kernel, by decide +kernel, by decide +kernel⟩, by decide⟩
theorem wl_X4_126 : WlV RX4 126 RX4 yX4_turnsOf cX4_turnsOf 3 (some (.int)) 2 := ⟨wq_402, wq_403, wq_404, wq_350, wq_405, ⟨by decide +kernel, by decide +kernel, by decide +kernel⟩, by decide⟩
theorem wl_X4_129 : WlV RX4 129 RX4 yX4_meeting cX4_meeting 4 (some (.int)) 1 := ⟨wq_406, wq_407, wq_408, wq_350, wq_409, ⟨by decide +kernel, by decide +kernel, by decide +kernel⟩, by decide⟩
theorem wl_X4_132 : WlV RX4 132 RX4 yX4_sinksOf cX4_sinksOf 3 (some (.int)) 1 := ⟨wq_413, wq_414, wq_415, wq_350, wq_416, ⟨by decide +kernel, by decide +kernel, by decide +kernel⟩, by decide⟩
theorem wl_X4_135 : WlV RX4 135 RX4 yX4_isHill cX4_isHill 2 (some (.boolean)) 1 := ⟨wq_417, wq_418, wq_419, wq_350, wq_420, ⟨by decide +kernel, by decide +kernel, by decide +kernel⟩, by decide⟩
theorem wl_X4_138 : WlV RX4 138 RX4 yX4_looksAt cX4_looksAt 2 none 0 := ⟨wq_421, wq_422, wq_423, wq_350, wq_424, ⟨by decide +kernel, by decide +kernel, by decide +kernel⟩, by decide⟩
theorem wl_X4_141 : WlS RX4 141 yX4_isHigh cX4_isHigh 1 (some (.boolean)) 1 := ⟨wq_425, wq_426, wq_350, wq_427, ⟨by decide +kernel, by decide +kernel, by decide +kernel⟩, by decide⟩
theorem wl_X4_144 : WlS RX4 144 yX4_mayBe cX4_mayBe 2 (some (.boolean)) 2 := ⟨wq_428, wq_429, wq_350, wq_430, ⟨by decide +kernel, by decide +kernel, by decide +kernel⟩, by decide⟩
theorem wl_X4_153 : WlV RX4 153 RX4 yX4_facing cX4_facing 4 (some (.int)) 1 := ⟨wq_431, wq_432, wq_433, wq_350, wq_434, ⟨by decide +kernel, by decide +kernel, by decide +kernel⟩, by decide⟩
theorem wl_X4_156 : WlV RX4 156 RX4 yX4_highestAt cX4_highestAt 4 (some (.int)) 1 := ⟨wq_435, wq_436, wq_437, wq_350, wq_438, ⟨by decide +kernel, by decide +kernel, by decide +kernel⟩, by decide⟩
theorem wl_X4_162 : WlV RX4 162 RX4 yX4_age cX4_age 3 none 0 := ⟨wq_439, wq_440, wq_441, wq_350, wq_442, ⟨by decide +kernel, by decide +kernel, by decide +kernel⟩, by decide⟩
theorem wl_X4_167 : WlV RX4 167 RX4 yX4_ages cX4_ages 3 none 1 := ⟨wq_444, wq_445, wq_446, wq_350, wq_447, ⟨by decide +kernel, by decide +kernel, by decide +kernel⟩, by decide⟩
theorem wl_X4_171 : WlV RX4 171 RX4 yX4_whoMeets cX4_whoMeets 3 (some (.int)) 0 := ⟨wq_448, wq_449, wq_450, wq_350, wq_451, ⟨by decide +kernel, by decide +kernel, by decide +kernel⟩, by decide⟩
theorem wl_X4_175 : WlV RX4 175 RX4 yX4_sumOf cX4_sumOf 4 (some (.int)) 1 := ⟨wq_453, wq_454, wq_455, wq_350, wq_456, ⟨by decide +kernel, by decide +kernel, by decide +kernel⟩, by decide⟩
theorem wl_X4_178 : WlV RX4 178 RX4 yX4_valleysAt cX4_valleysAt 3 (some (.int)) 0 := ⟨wq_457, wq_458, wq_459, wq_350, wq_460, ⟨by decide +kernel, by decide +kernel, by decide +kernel⟩, by decide⟩
theorem wl_X4_181 : WlV RX4 181 RX4 yX4_valleysFaced cX4_valleysFaced 3 (some (.int)) 0 := ⟨wq_461, wq_462, wq_463, wq_350, wq_464, ⟨by decide +kernel, by decide +kernel, by decide +kernel⟩, by decide⟩
theorem wl_X4_184 : WlV RX4 184 RX4 yX4_putBack cX4_putBack 2 (some (.int)) 1 := ⟨wq_465, wq_466, wq_467, wq_350, wq_468, ⟨by decide +kernel, by decide +kernel, by decide +kernel⟩, by decide⟩
theorem wl_X4_187 : WlV RX4 187 RX4 yX4_orNone cX4_orNone 2 (some (.int)) 1 := ⟨wq_469, wq_470, wq_471, wq_350, wq_472, ⟨by decide +kernel, by decide +kernel, by decide +kernel⟩, by decide⟩
theorem wl_X4_190 : WlV RX4 190 RX4 yX4_doMeet cX4_doMeet 3 (some (.boolean)) 2 := ⟨wq_473, wq_474, wq_475, wq_350, wq_476, ⟨by decide +kernel, by decide +kernel, by decide +kernel⟩, by decide⟩
theorem wl_X4_193 : WlV RX4 193 RX4 yX4_areTwo cX4_areTwo 3 (some (.boolean)) 2 := ⟨wq_477, wq_478, wq_479, wq_350, wq_480, ⟨by decide +kernel, by decide +kernel, by decide +kernel⟩, by decide⟩
theorem wl_X4_196 : WlV RX4 196 RX4 yX4_meetIn cX4_meetIn 5 (some (.int)) 3 := ⟨wq_481, wq_482, wq_483, wq_350, wq_484, ⟨by decide +kernel, by decide +kernel, by decide +kernel⟩, by decide⟩
theorem wl_X4_200 : WlV RX4 200 RX4 yX4_isAsAside cX4_isAsAside 3 (some (.boolean)) 0 := ⟨wq_485, wq_486, wq_487, wq_350, wq_488, ⟨by decide +kernel, by decide +kernel, by decide +kernel⟩, by decide⟩
theorem wl_X4_204 : WlS RX4 204 yX4_isSoon cX4_isSoon 1 (some (.boolean)) 1 := ⟨wq_489, wq_490, wq_350, wq_491, ⟨by decide +kernel, by decide +kernel, by decide +kernel⟩, by decide⟩
theorem wl_X4_208 : WlV RX4 208 RX4 yX4_soonest cX4_soonest 11 (some (.int)) 5 := ⟨wq_493, wq_494, wq_495, wq_350, wq_496, ⟨by decide +kernel, by decide +kernel, by decide +kernel⟩, by decide⟩
theorem wl_X4_211 : WlS RX4 211 yX4_isGo cX4_isGo 1 (some (.boolean)) 1 := ⟨wq_497, wq_498, wq_350, wq_499, ⟨by decide +kernel, by decide +kernel, by decide +kernel⟩, by decide⟩
theorem wl_X4_214 : WlV RX4 214 RX4 yX4_behind cX4_behind 4 (some (.int)) 3 := ⟨wq_500, wq_501, wq_502, wq_350, wq_503, ⟨by decide +kernel, by decide +kernel, by decide +kernel⟩, by decide⟩
theorem wl_X4_217 : WlV RX4 217 RX4 yX4_between cX4_between 6 (some (.int)) 3 := ⟨wq_504, wq_505, wq_506, wq_350, wq_507, ⟨by decide +kernel, by decide +kernel, by decide +kernel⟩, by decide⟩
theorem wl_X4_220 : WlS RX4 220 yX4_areEnds cX4_areEnds 2 (some (.boolean)) 2 := ⟨wq_508, wq_509, wq_350, wq_510, ⟨by decide +kernel, by decide +kernel, by decide +kernel⟩, by decide⟩
theorem wl_X4_223 : WlV RX4 223 RX4 yX4_roadNow cX4_roadNow 6 (some (.int)) 3 := ⟨wq_511, wq_512, wq_513, wq_350, wq_514, ⟨by decide +kernel, by decide +kernel, by decide +kernel⟩, by decide⟩
theorem wl_X4_226 : WlV RX4 226 RX4 yX4_climbNow cX4_climbNow 3 (some (.int)) 2 := ⟨wq_515, wq_516, wq_517, wq_350, wq_518, ⟨by decide +kernel, by decide +kernel, by decide +kernel⟩, by decide⟩
theorem wl_X4_229 : WlV RX4 229 RX4 yX4_openIn cX4_openIn 7 (some (.int)) 4 := ⟨wq_519, wq_520, wq_521, wq_350, wq_522, ⟨by decide +kernel, by decide +kernel, by decide +kernel⟩, by decide⟩
theorem wl_X4_233 : WlS RX4 233 yX4_isSheet cX4_isSheet 1 (some (.boolean)) 1 := ⟨wq_523, wq_524, wq_350, wq_525, ⟨by decide +kernel, by decide +kernel, by decide +kernel⟩, by decide⟩
theorem wl_X4_237 : WlV RX4 237 RX4 yX4_facedSo cX4_facedSo 6 (some (.boolean)) 2 := ⟨wq_530, wq_531, wq_532, wq_350, wq_533, ⟨by decide +kernel, by decide +kernel, by decide +kernel⟩, by decide⟩
theorem wl_X4_240 : WlV RX4 240 RX4 yX4_lacks cX4_lacks 3 (some (.int)) 2 := ⟨wq_534, wq_535, wq_536, wq_350, wq_537, ⟨by decide +kernel, by decide +kernel, by decide +kernel⟩, by decide⟩
theorem wl_X4_243 : WlV RX4 243 RX4 yX4_fitting cX4_fitting 9 (some (.int)) 5 := ⟨wq_538, wq_539, wq_540, wq_350, wq_541, ⟨by decide +kernel, by decide +kernel, by decide +kernel⟩, by decide⟩
theorem wl_X4_247 : WlV RX4 247 RX4 yX4_drawn cX4_drawn 1 (some (.int)) 0 := ⟨wq_543, wq_544, wq_545, wq_350, wq_546, ⟨by decide +kernel, by decide +kernel, by decide +kernel⟩, by decide⟩
theorem wl_X4_260 : WlV RX4 260 RX4 yX4_byteAt cX4_byteAt 2 (some (.int)) 1 := ⟨wq_551, wq_552, wq_553, wq_350, wq_554, ⟨by decide +kernel, by decide +kernel, by decide +kernel⟩, by decide⟩
theorem wl_X4_269 : WlV RX4 269 RJ0 yJ0_length_8abf5 cJ0_length_8abf5 1 (some (.int)) 0 := ⟨wq_557, wq_25, wq_26, wq_27, wq_28, ⟨by decide +kernel, by decide +kernel, by decide +kernel⟩, by decide⟩
theorem wl_X4_272 : WlV RX4 272 RJ0 yJ0_charAt_5068e cJ0_charAt_5068e 2 (some (.char)) 1 := ⟨wq_558, wq_30, wq_31, wq_27, wq_32, ⟨by decide +kernel, by decide +kernel, by decide +kernel⟩, by decide⟩
theorem wl_X4_280 : WlV RX4 280 RX4 yX4_next cX4_next 2 none 0 := ⟨wq_560, wq_561, wq_562, wq_350, wq_563, ⟨by decide +kernel, by decide +kernel, by decide +kernel⟩, by decide⟩
theorem wl_X4_283 : WlV RX4 283 RX4 yX4_must cX4_must 2 none 1 := ⟨wq_564, wq_565, wq_566, wq_350, wq_567, ⟨by decide +kernel, by decide +kernel, by decide +kernel⟩, by decide⟩
theorem wl_X4_290 : WlV RX4 290 RX4 yX4_isWord cX4_isWord 4 (some (.boolean)) 1 := ⟨wq_571, wq_572, wq_573, wq_350, wq_574, ⟨by decide +kernel, by decide +kernel, by decide +kernel⟩, by decide⟩
theorem wl_X4_294 : WlV RX4 294 RX4 yX4_number cX4_number 4 (some (.int)) 2 := ⟨wq_575, wq_576, wq_577, wq_350, wq_578, ⟨by decide +kernel, by decide +kernel, by decide +kernel⟩, by decide⟩
theorem wl_X4_299 : WlV RX4 299 RX4 yX4_kindTold cX4_kindTold 3 (some (.int)) 0 := ⟨wq_579, wq_580, wq_581, wq_350, wq_582, ⟨by decide +kernel, by decide +kernel, by decide +kernel⟩, by decide⟩
theorem wl_X4_317 : WlV RX4 317 RX4 yX4_addItem cX4_addItem 7 none 5 := ⟨wq_583, wq_584, wq_585, wq_350, wq_586, ⟨by decide +kernel, by decide +kernel, by decide +kernel⟩, by decide⟩
theorem wl_X4_306 : WlV RX4 306 RX4 yX4_afterWord cX4_afterWord 4 (some (.int)) 3 := ⟨wq_588, wq_589, wq_590, wq_350, wq_591, ⟨by decide +kernel, by decide +kernel, by decide +kernel⟩, by decide⟩
theorem wl_X4_310 : WlV RX4 310 RX4 yX4_stepTold cX4_stepTold 3 (some (.int)) 0 := ⟨wq_592, wq_593, wq_594, wq_350, wq_595, ⟨by decide +kernel, by decide +kernel, by decide +kernel⟩, by decide⟩
theorem wl_X4_323 : WlV RX4 323 RX4 yX4_readItem cX4_readItem 5 none 0 := ⟨wq_596, wq_597, wq_598, wq_350, wq_599, ⟨by decide +kernel, by decide +kernel, by decide +kernel⟩, by decide⟩
theorem wl_X4_326 : WlV RX4 326 RX4 yX4_isToldSo cX4_isToldSo 3 (some (.int)) 1 := ⟨wq_600, wq_601, wq_602, wq_350, wq_603, ⟨by decide +kernel, by decide +kernel, by decide +kernel⟩, by decide⟩
theorem wl_X4_329 : WlS RX4 329 yX4_isSpot cX4_isSpot 1 (some (.boolean)) 1 := ⟨wq_604, wq_605, wq_350, wq_606, ⟨by decide +kernel, by decide +kernel, by decide +kernel⟩, by decide⟩
theorem wl_X4_339 : WlS RX4 339 yX4_above cX4_above 1 (some (.int)) 1 := ⟨wq_607, wq_608, wq_350, wq_609, ⟨by decide +kernel, by decide +kernel, by decide +kernel⟩, by decide⟩
theorem wl_X4_332 : WlS RX4 332 yX4_isUnder cX4_isUnder 3 (some (.boolean)) 2 := ⟨wq_610, wq_611, wq_350, wq_612, ⟨by decide +kernel, by decide +kernel, by decide +kernel⟩, by decide⟩
theorem wl_X4_336 : WlS RX4 336 yX4_cutTo cX4_cutTo 2 (some (.int)) 2 := ⟨wq_614, wq_615, wq_350, wq_616, ⟨by decide +kernel, by decide +kernel, by decide +kernel⟩, by decide⟩
theorem wl_X4_342 : WlV RX4 342 RX4 yX4_lacksSheet cX4_lacksSheet 2 (some (.int)) 1 := ⟨wq_618, wq_619, wq_620, wq_350, wq_621, ⟨by decide +kernel, by decide +kernel, by decide +kernel⟩, by decide⟩
theorem wl_J0_335 : WlV RJ0 335 RJ0 yJ0_coder_7d493 cJ0_coder_7d493 1 (some (.byte)) 0 := ⟨wq_628, wq_629, wq_630, wq_27, wq_631, ⟨by decide +kernel, by decide +kernel, by decide +kernel⟩, by decide⟩
theorem wl_J0_492 : WlV RJ0 492 RJ0 yJ0_isLatin1_aae02 cJ0_isLatin1_aae02 1 (some (.boolean)) 0 := ⟨wq_632, wq_633, wq_634, wq_27, wq_635, ⟨by decide +kernel, by decide +kernel, by decide +kernel⟩, by decide⟩
theorem wl_J0_495 : WlS RJ0 495 yJ1_charAt_3b067 cJ1_charAt_3b067 2 (some (.char)) 2 := ⟨wq_636, wq_637, wq_638, wq_639, ⟨by decide +kernel, by decide +kernel, by decide +kernel⟩, by decide⟩
theorem wl_J1_9 : WlS RJ1 9 yJ0_checkIndex_df160 cJ0_checkIndex_df160 2 none 2 := ⟨wq_640, wq_641, wq_27, wq_642, ⟨by decide +kernel, by decide +kernel, by decide +kernel⟩, by decide⟩
theorem wl_J0_1059 : WlS RJ0 1059 yJ3_checkIndex_8e157 cJ3_checkIndex_8e157 3 (some (.int)) 3 := ⟨wq_643, wq_644, wq_645, wq_646, ⟨by decide +kernel, by decide +kernel, by decide +kernel⟩, by decide⟩
theorem wl_L_13 : WlV RL 13 RX3 yX3_rain cX3_rain 3 (some (.int)) 1 := ⟨wq_647, wq_648, wq_649, wq_65, wq_650, ⟨by decide +kernel, by decide +kernel, by decide +kernel⟩, by decide⟩
theorem wl_L_17 : WlV RL 17 RX4 yX4_rain cX4_rain 2 (some (.int)) 1 := ⟨wq_651, wq_652, wq_653, wq_350, wq_654, ⟨by decide +kernel, by decide +kernel, by decide +kernel⟩, by decide⟩
theorem wl_L_18 : WlV RL 18 RX3 yX3_hill cX3_hill 3 (some (.int)) 2 := ⟨wq_655, wq_656, wq_657, wq_65, wq_658, ⟨by decide +kernel, by decide +kernel, by decide +kernel⟩, by decide⟩
theorem wl_L_22 : WlV RL 22 RX4 yX4_hill cX4_hill 3 (some (.int)) 2 := ⟨wq_659, wq_660, wq_661, wq_350, wq_662, ⟨by decide +kernel, by decide +kernel, by decide +kernel⟩, by decide⟩
theorem wl_L_23 : WlV RL 23 RX3 yX3_of cX3_of 3 (some (.int)) 2 := ⟨wq_663, wq_664, wq_665, wq_65, wq_666, ⟨by decide +kernel, by decide +kernel, by decide +kernel⟩, by decide⟩
theorem wl_L_26 : WlV RL 26 RX4 yX4_of cX4_of 3 (some (.int)) 2 := ⟨wq_667, wq_668, wq_669, wq_350, wq_670, ⟨by decide +kernel, by decide +kernel, by decide +kernel⟩, by decide⟩
theorem wl_L_27 : WlV RL 27 RX3 yX3_change cX3_change 5 (some (.int)) 3 := ⟨wq_671, wq_672, wq_673, wq_65, wq_674, ⟨by decide +kernel, by decide +kernel, by decide +kernel⟩, by decide⟩
theorem wl_L_31 : WlV RL 31 RX4 yX4_change cX4_change 4 (some (.int)) 3 := ⟨wq_675, wq_676, wq_677, wq_350, wq_678, ⟨by decide +kernel, by decide +kernel, by decide +kernel⟩, by decide⟩
theorem wl_L_32 : WlV RL 32 RX3 yX3_valley cX3_valley 3 (some (.int)) 2 := ⟨wq_679, wq_680, wq_681, wq_65, wq_682, ⟨by decide +kernel, by decide +kernel, by decide +kernel⟩, by decide⟩
theorem wl_L_35 : WlV RL 35 RX4 yX4_valley cX4_valley 3 (some (.int)) 2 := ⟨wq_683, wq_684, wq_685, wq_350, wq_686, ⟨by decide +kernel, by decide +kernel, by decide +kernel⟩, by decide⟩
theorem wl_L_36 : WlV RL 36 RX3 yX3_go cX3_go 2 (some (.int)) 1 := ⟨wq_687, wq_688, wq_689, wq_65, wq_690, ⟨by decide +kernel, by decide +kernel, by decide +kernel⟩, by decide⟩
theorem wl_L_39 : WlV RL 39 RX4 yX4_go cX4_go 2 (some (.int)) 1 := ⟨wq_691, wq_692, wq_693, wq_350, wq_694, ⟨by decide +kernel, by decide +kernel, by decide +kernel⟩, by decide⟩
theorem wl_L_40 : WlV RL 40 RX3 yX3_now cX3_now 2 (some (.int)) 1 := ⟨wq_695, wq_696, wq_697, wq_65, wq_698, ⟨by decide +kernel, by decide +kernel, by decide +kernel⟩, by decide⟩
theorem wl_L_43 : WlV RL 43 RX4 yX4_now cX4_now 2 (some (.int)) 1 := ⟨wq_699, wq_700, wq_701, wq_350, wq_702, ⟨by decide +kernel, by decide +kernel, by decide +kernel⟩, by decide⟩
theorem wl_L_44 : WlV RL 44 RX3 yX3_ahead cX3_ahead 4 (some (.int)) 3 := ⟨wq_703, wq_704, wq_705, wq_65, wq_706, ⟨by decide +kernel, by decide +kernel, by decide +kernel⟩, by decide⟩
theorem wl_L_47 : WlV RL 47 RX4 yX4_ahead cX4_ahead 4 (some (.int)) 3 := ⟨wq_707, wq_708, wq_709, wq_350, wq_710, ⟨by decide +kernel, by decide +kernel, by decide +kernel⟩, by decide⟩
theorem wl_L_48 : WlV RL 48 RX3 yX3_when cX3_when 4 (some (.int)) 2 := ⟨wq_711, wq_712, wq_713, wq_65, wq_714, ⟨by decide +kernel, by decide +kernel, by decide +kernel⟩, by decide⟩
theorem wl_L_51 : WlV RL 51 RX4 yX4_when cX4_when 4 (some (.int)) 2 := ⟨wq_715, wq_716, wq_717, wq_350, wq_718, ⟨by decide +kernel, by decide +kernel, by decide +kernel⟩, by decide⟩
theorem wl_L_52 : WlV RL 52 RX3 yX3_meet cX3_meet 4 (some (.int)) 2 := ⟨wq_719, wq_720, wq_721, wq_65, wq_722, ⟨by decide +kernel, by decide +kernel, by decide +kernel⟩, by decide⟩
theorem wl_L_55 : WlV RL 55 RX4 yX4_meet cX4_meet 3 (some (.int)) 2 := ⟨wq_723, wq_724, wq_725, wq_350, wq_726, ⟨by decide +kernel, by decide +kernel, by decide +kernel⟩, by decide⟩
theorem wl_L_56 : WlV RL 56 RX3 yX3_round cX3_round 2 (some (.int)) 0 := ⟨wq_727, wq_728, wq_729, wq_65, wq_730, ⟨by decide +kernel, by decide +kernel, by decide +kernel⟩, by decide⟩
theorem wl_L_60 : WlV RL 60 RX4 yX4_round cX4_round 2 (some (.int)) 0 := ⟨wq_731, wq_732, wq_733, wq_350, wq_734, ⟨by decide +kernel, by decide +kernel, by decide +kernel⟩, by decide⟩
theorem wl_L_61 : WlV RL 61 RX3 yX3_skylines cX3_skylines 5 (some (.int)) 2 := ⟨wq_735, wq_736, wq_737, wq_65, wq_738, ⟨by decide +kernel, by decide +kernel, by decide +kernel⟩, by decide⟩
theorem wl_L_64 : WlV RL 64 RX4 yX4_skylines cX4_skylines 5 (some (.int)) 2 := ⟨wq_739, wq_740, wq_741, wq_350, wq_742, ⟨by decide +kernel, by decide +kernel, by decide +kernel⟩, by decide⟩
theorem wl_L_65 : WlV RL 65 RX3 yX3_wallflowers cX3_wallflowers 4 (some (.int)) 1 := ⟨wq_743, wq_744, wq_745, wq_65, wq_746, ⟨by decide +kernel, by decide +kernel, by decide +kernel⟩, by decide⟩
theorem wl_L_68 : WlV RL 68 RX4 yX4_wallflowers cX4_wallflowers 4 (some (.int)) 1 := ⟨wq_747, wq_748, wq_749, wq_350, wq_750, ⟨by decide +kernel, by decide +kernel, by decide +kernel⟩, by decide⟩
theorem wl_L_69 : WlV RL 69 RX3 yX3_stand cX3_stand 3 (some (.int)) 2 := ⟨wq_751, wq_752, wq_753, wq_65, wq_754, ⟨by decide +kernel, by decide +kernel, by decide +kernel⟩, by decide⟩
theorem wl_L_72 : WlV RL 72 RX4 yX4_stand cX4_stand 3 (some (.int)) 2 := ⟨wq_755, wq_756, wq_757, wq_350, wq_758, ⟨by decide +kernel, by decide +kernel, by decide +kernel⟩, by decide⟩
theorem wl_L_73 : WlV RL 73 RX3 yX3_stepFor cX3_stepFor 3 (some (.int)) 2 := ⟨wq_759, wq_760, wq_761, wq_65, wq_762, ⟨by decide +kernel, by decide +kernel, by decide +kernel⟩, by decide⟩
theorem wl_L_76 : WlV RL 76 RX4 yX4_stepFor cX4_stepFor 3 (some (.int)) 2 := ⟨wq_763, wq_764, wq_765, wq_350, wq_766, ⟨by decide +kernel, by decide +kernel, by decide +kernel⟩, by decide⟩
theorem wl_L_77 : WlV RL 77 RX3 yX3_turnFor cX3_turnFor 3 (some (.int)) 2 := ⟨wq_767, wq_768, wq_769, wq_65, wq_770, ⟨by decide +kernel, by decide +kernel, by decide +kernel⟩, by decide⟩
theorem wl_L_80 : WlV RL 80 RX4 yX4_turnFor cX4_turnFor 3 (some (.int)) 2 := ⟨wq_771, wq_772, wq_773, wq_350, wq_774, ⟨by decide +kernel, by decide +kernel, by decide +kernel⟩, by decide⟩
theorem wl_L_81 : WlV RL 81 RX3 yX3_kindFor cX3_kindFor 7 (some (.int)) 2 := ⟨wq_775, wq_776, wq_777, wq_65, wq_778, ⟨by decide +kernel, by decide +kernel, by decide +kernel⟩, by decide⟩
theorem wl_L_84 : WlV RL 84 RX4 yX4_kindFor cX4_kindFor 8 (some (.int)) 2 := ⟨wq_779, wq_780, wq_781, wq_350, wq_782, ⟨by decide +kernel, by decide +kernel, by decide +kernel⟩, by decide⟩
theorem wl_L_85 : WlV RL 85 RX3 yX3_rainFor cX3_rainFor 5 (some (.int)) 3 := ⟨wq_783, wq_784, wq_785, wq_65, wq_786, ⟨by decide +kernel, by decide +kernel, by decide +kernel⟩, by decide⟩
theorem wl_L_88 : WlV RL 88 RX4 yX4_rainFor cX4_rainFor 7 (some (.int)) 3 := ⟨wq_787, wq_788, wq_789, wq_350, wq_790, ⟨by decide +kernel, by decide +kernel, by decide +kernel⟩, by decide⟩
theorem wl_L_89 : WlV RL 89 RX3 yX3_road cX3_road 8 (some (.int)) 3 := ⟨wq_791, wq_792, wq_793, wq_65, wq_794, ⟨by decide +kernel, by decide +kernel, by decide +kernel⟩, by decide⟩
theorem wl_L_92 : WlV RL 92 RX4 yX4_road cX4_road 5 (some (.int)) 3 := ⟨wq_795, wq_796, wq_797, wq_350, wq_798, ⟨by decide +kernel, by decide +kernel, by decide +kernel⟩, by decide⟩
theorem wl_L_93 : WlV RL 93 RX3 yX3_climb cX3_climb 3 (some (.int)) 2 := ⟨wq_799, wq_800, wq_801, wq_65, wq_802, ⟨by decide +kernel, by decide +kernel, by decide +kernel⟩, by decide⟩
theorem wl_L_96 : WlV RL 96 RX4 yX4_climb cX4_climb 3 (some (.int)) 2 := ⟨wq_803, wq_804, wq_805, wq_350, wq_806, ⟨by decide +kernel, by decide +kernel, by decide +kernel⟩, by decide⟩
theorem wl_L_97 : WlV RL 97 RX3 yX3_open cX3_open 5 (some (.int)) 4 := ⟨wq_807, wq_808, wq_809, wq_65, wq_810, ⟨by decide +kernel, by decide +kernel, by decide +kernel⟩, by decide⟩
theorem wl_L_101 : WlV RL 101 RX4 yX4_open cX4_open 5 (some (.int)) 4 := ⟨wq_811, wq_812, wq_813, wq_350, wq_814, ⟨by decide +kernel, by decide +kernel, by decide +kernel⟩, by decide⟩
theorem wl_L_102 : WlV RL 102 RX3 yX3_lay cX3_lay 8 (some (.int)) 3 := ⟨wq_815, wq_816, wq_817, wq_65, wq_818, ⟨by decide +kernel, by decide +kernel, by decide +kernel⟩, by decide⟩
theorem wl_L_105 : WlV RL 105 RX4 yX4_lay cX4_lay 8 (some (.int)) 3 := ⟨wq_819, wq_820, wq_821, wq_350, wq_822, ⟨by decide +kernel, by decide +kernel, by decide +kernel⟩, by decide⟩
theorem wl_L_106 : WlV RL 106 RX3 yX3_fits cX3_fits 4 (some (.int)) 2 := ⟨wq_823, wq_824, wq_825, wq_65, wq_826, ⟨by decide +kernel, by decide +kernel, by decide +kernel⟩, by decide⟩
theorem wl_L_109 : WlV RL 109 RX4 yX4_fits cX4_fits 3 (some (.int)) 2 := ⟨wq_827, wq_828, wq_829, wq_350, wq_830, ⟨by decide +kernel, by decide +kernel, by decide +kernel⟩, by decide⟩
theorem wl_L_110 : WlV RL 110 RX3 yX3_step cX3_step 6 (some (.int)) 2 := ⟨wq_831, wq_832, wq_833, wq_65, wq_834, ⟨by decide +kernel, by decide +kernel, by decide +kernel⟩, by decide⟩
theorem wl_L_113 : WlV RL 113 RX4 yX4_step cX4_step 4 (some (.int)) 2 := ⟨wq_835, wq_836, wq_837, wq_350, wq_838, ⟨by decide +kernel, by decide +kernel, by decide +kernel⟩, by decide⟩
theorem wl_L_114 : WlV RL 114 RX3 yX3_kinds cX3_kinds 4 (some (.int)) 2 := ⟨wq_839, wq_840, wq_841, wq_65, wq_842, ⟨by decide +kernel, by decide +kernel, by decide +kernel⟩, by decide⟩
theorem wl_L_117 : WlV RL 117 RX4 yX4_kinds cX4_kinds 3 (some (.int)) 2 := ⟨wq_843, wq_844, wq_845, wq_350, wq_846, ⟨by decide +kernel, by decide +kernel, by decide +kernel⟩, by decide⟩
theorem wl_L_118 : WlV RL 118 RX3 yX3_rains cX3_rains 3 (some (.int)) 1 := ⟨wq_847, wq_848, wq_849, wq_65, wq_850, ⟨by decide +kernel, by decide +kernel, by decide +kernel⟩, by decide⟩
theorem wl_L_121 : WlV RL 121 RX4 yX4_rains cX4_rains 4 (some (.int)) 1 := ⟨wq_851, wq_852, wq_853, wq_350, wq_854, ⟨by decide +kernel, by decide +kernel, by decide +kernel⟩, by decide⟩
theorem wl_L_122 : WlV RL 122 RX3 yX3_odds cX3_odds 9 (some (.long)) 2 := ⟨wq_855, wq_856, wq_857, wq_65, wq_858, ⟨by decide +kernel, by decide +kernel, by decide +kernel⟩, by decide⟩
theorem wl_L_126 : WlV RL 126 RX4 yX4_odds cX4_odds 9 (some (.long)) 2 := ⟨wq_859, wq_860, wq_861, wq_350, wq_862, ⟨by decide +kernel, by decide +kernel, by decide +kernel⟩, by decide⟩
theorem wl_L_127 : WlV RL 127 RX3 yX3_seed cX3_seed 3 (some (.int)) 1 := ⟨wq_863, wq_864, wq_865, wq_65, wq_866, ⟨by decide +kernel, by decide +kernel, by decide +kernel⟩, by decide⟩
theorem wl_L_130 : WlV RL 130 RX4 yX4_seed cX4_seed 2 (some (.int)) 1 := ⟨wq_867, wq_868, wq_869, wq_350, wq_870, ⟨by decide +kernel, by decide +kernel, by decide +kernel⟩, by decide⟩
theorem wl_L_131 : WlV RL 131 RX3 yX3_feed cX3_feed 4 (some (.int)) 2 := ⟨wq_871, wq_872, wq_873, wq_65, wq_874, ⟨by decide +kernel, by decide +kernel, by decide +kernel⟩, by decide⟩
theorem wl_L_134 : WlV RL 134 RX4 yX4_feed cX4_feed 4 (some (.int)) 2 := ⟨wq_875, wq_876, wq_877, wq_350, wq_878, ⟨by decide +kernel, by decide +kernel, by decide +kernel⟩, by decide⟩
theorem wl_L_135 : WlV RL 135 RX3 yX3_wipe cX3_wipe 2 (some (.int)) 0 := ⟨wq_879, wq_880, wq_881, wq_65, wq_882, ⟨by decide +kernel, by decide +kernel, by decide +kernel⟩, by decide⟩
theorem wl_L_138 : WlV RL 138 RX4 yX4_wipe cX4_wipe 2 (some (.int)) 0 := ⟨wq_883, wq_884, wq_885, wq_350, wq_886, ⟨by decide +kernel, by decide +kernel, by decide +kernel⟩, by decide⟩
theorem wl_L_139 : WlV RL 139 RX3 yX3_text cX3_text 2 (some (.int)) 0 := ⟨wq_887, wq_888, wq_889, wq_65, wq_890, ⟨by decide +kernel, by decide +kernel, by decide +kernel⟩, by decide⟩
theorem wl_L_142 : WlV RL 142 RX4 yX4_text cX4_text 3 (some (.int)) 0 := ⟨wq_891, wq_892, wq_893, wq_350, wq_894, ⟨by decide +kernel, by decide +kernel, by decide +kernel⟩, by decide⟩
theorem wl_L_143 : WlV RL 143 RX3 yX3_hold cX3_hold 3 (some (.int)) 2 := ⟨wq_895, wq_896, wq_897, wq_65, wq_898, ⟨by decide +kernel, by decide +kernel, by decide +kernel⟩, by decide⟩
theorem wl_L_146 : WlV RL 146 RX4 yX4_hold cX4_hold 3 (some (.int)) 2 := ⟨wq_899, wq_900, wq_901, wq_350, wq_902, ⟨by decide +kernel, by decide +kernel, by decide +kernel⟩, by decide⟩
theorem wl_L_147 : WlV RL 147 RX3 yX3_as cX3_as 4 (some (.int)) 2 := ⟨wq_903, wq_904, wq_905, wq_65, wq_906, ⟨by decide +kernel, by decide +kernel, by decide +kernel⟩, by decide⟩
theorem wl_L_150 : WlV RL 150 RX4 yX4_as cX4_as 4 (some (.int)) 2 := ⟨wq_907, wq_908, wq_909, wq_350, wq_910, ⟨by decide +kernel, by decide +kernel, by decide +kernel⟩, by decide⟩
theorem wl_L_151 : WlV RL 151 RX3 yX3_sheet cX3_sheet 4 (some (.int)) 3 := ⟨wq_911, wq_912, wq_913, wq_65, wq_914, ⟨by decide +kernel, by decide +kernel, by decide +kernel⟩, by decide⟩
theorem wl_L_154 : WlV RL 154 RX4 yX4_sheet cX4_sheet 5 (some (.int)) 3 := ⟨wq_915, wq_916, wq_917, wq_350, wq_918, ⟨by decide +kernel, by decide +kernel, by decide +kernel⟩, by decide⟩
theorem wl_L_155 : WlV RL 155 RX3 yX3_write cX3_write 5 (some (.int)) 3 := ⟨wq_919, wq_920, wq_921, wq_65, wq_922, ⟨by decide +kernel, by decide +kernel, by decide +kernel⟩, by decide⟩
theorem wl_L_158 : WlV RL 158 RX4 yX4_write cX4_write 4 (some (.int)) 3 := ⟨wq_923, wq_924, wq_925, wq_350, wq_926, ⟨by decide +kernel, by decide +kernel, by decide +kernel⟩, by decide⟩
theorem wl_L_159 : WlV RL 159 RX3 yX3_copy cX3_copy 8 (some (.int)) 5 := ⟨wq_927, wq_928, wq_929, wq_65, wq_930, ⟨by decide +kernel, by decide +kernel, by decide +kernel⟩, by decide⟩
theorem wl_L_163 : WlV RL 163 RX4 yX4_copy cX4_copy 7 (some (.int)) 5 := ⟨wq_931, wq_932, wq_933, wq_350, wq_934, ⟨by decide +kernel, by decide +kernel, by decide +kernel⟩, by decide⟩
theorem wl_L_164 : WlV RL 164 RX3 yX3_load cX3_load 5 (some (.int)) 1 := ⟨wq_935, wq_936, wq_937, wq_65, wq_938, ⟨by decide +kernel, by decide +kernel, by decide +kernel⟩, by decide⟩
theorem wl_L_167 : WlV RL 167 RX4 yX4_load cX4_load 3 (some (.int)) 1 := ⟨wq_939, wq_940, wq_941, wq_350, wq_942, ⟨by decide +kernel, by decide +kernel, by decide +kernel⟩, by decide⟩
theorem wl_L_168 : WlV RL 168 RX3 yX3_judge cX3_judge 5 (some (.int)) 1 := ⟨wq_943, wq_944, wq_945, wq_65, wq_946, ⟨by decide +kernel, by decide +kernel, by decide +kernel⟩, by decide⟩
theorem wl_L_171 : WlV RL 171 RX4 yX4_judge cX4_judge 3 (some (.int)) 1 := ⟨wq_947, wq_948, wq_949, wq_350, wq_950, ⟨by decide +kernel, by decide +kernel, by decide +kernel⟩, by decide⟩
theorem wl_L_172 : WlV RL 172 RX3 yX3_image cX3_image 1 (some (.int)) 0 := ⟨wq_951, wq_952, wq_953, wq_65, wq_954, ⟨by decide +kernel, by decide +kernel, by decide +kernel⟩, by decide⟩
theorem wl_L_175 : WlV RL 175 RX4 yX4_image cX4_image 1 (some (.int)) 0 := ⟨wq_955, wq_956, wq_957, wq_350, wq_958, ⟨by decide +kernel, by decide +kernel, by decide +kernel⟩, by decide⟩
theorem wl_L_176 : WlV RL 176 RX3 yX3_undo cX3_undo 1 (some (.int)) 0 := ⟨wq_959, wq_960, wq_961, wq_65, wq_962, ⟨by decide +kernel, by decide +kernel, by decide +kernel⟩, by decide⟩
theorem wl_L_179 : WlV RL 179 RX4 yX4_undo cX4_undo 1 (some (.int)) 0 := ⟨wq_963, wq_964, wq_965, wq_350, wq_966, ⟨by decide +kernel, by decide +kernel, by decide +kernel⟩, by decide⟩
theorem wl_L_180 : WlV RL 180 RX3 yX3_tear cX3_tear 2 (some (.int)) 0 := ⟨wq_967, wq_968, wq_969, wq_65, wq_970, ⟨by decide +kernel, by decide +kernel, by decide +kernel⟩, by decide⟩
theorem wl_L_183 : WlV RL 183 RX4 yX4_tear cX4_tear 2 (some (.int)) 0 := ⟨wq_971, wq_972, wq_973, wq_350, wq_974, ⟨by decide +kernel, by decide +kernel, by decide +kernel⟩, by decide⟩
theorem wl_L_184 : WlV RL 184 RX3 yX3_count cX3_count 2 (some (.int)) 1 := ⟨wq_975, wq_976, wq_977, wq_65, wq_978, ⟨by decide +kernel, by decide +kernel, by decide +kernel⟩, by decide⟩
theorem wl_L_187 : WlV RL 187 RX4 yX4_count cX4_count 4 (some (.int)) 1 := ⟨wq_979, wq_980, wq_981, wq_350, wq_982, ⟨by decide +kernel, by decide +kernel, by decide +kernel⟩, by decide⟩
theorem wl_L_188 : WlV RL 188 RX3 yX3_status cX3_status 4 (some (.int)) 1 := ⟨wq_983, wq_984, wq_985, wq_65, wq_986, ⟨by decide +kernel, by decide +kernel, by decide +kernel⟩, by decide⟩
theorem wl_L_191 : WlV RL 191 RX4 yX4_status cX4_status 2 (some (.int)) 1 := ⟨wq_987, wq_988, wq_989, wq_350, wq_990, ⟨by decide +kernel, by decide +kernel, by decide +kernel⟩, by decide⟩
