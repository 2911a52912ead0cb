theorem wm_max2 : Cond.static Lib.Math.max.name ∈ BG := mem_T (i := 278) (by decide +kernel) rfl
theorem wm_max4 : Cond.code Lib.Math.max.name Lib.Math.max.code 2 (some .int) ∈ BG := mem_T (i := 279) (by decide +kernel) rfl
theorem wm_min2 : Cond.static Lib.Math.min.name ∈ BG := mem_T (i := 281) (by decide +kernel) rfl
theorem wm_min4 : Cond.code Lib.Math.min.name Lib.Math.min.code 2 (some .int) ∈ BG := mem_T (i := 282) (by decide +kernel) rfl
theorem wm_ini : Cond.initialized "java/lang/Math" ∈ BG := mem_T (i := 8) (by decide +kernel) rfl
theorem wa_2 : Cond.native arraycopyName ∈ BG := mem_T (i := 332) (by decide +kernel) rfl
theorem wa_3 : Cond.static arraycopyName ∈ BG := mem_T (i := 331) (by decide +kernel) rfl
theorem wa_4 : Cond.initialized "java/lang/System" ∈ BG := mem_T (i := 9) (by decide +kernel) rfl
theorem wq_0 : Cond.fieldLink RX0 9 "HillDance$Reader" "tape" "[I" ∈ BG := mem_T (i := 87) (by decide +kernel) rfl
theorem wq_1 : Cond.fieldLink RX0 15 "HillDance$Reader" "length" "I" ∈ BG := mem_T (i := 88) (by decide +kernel) rfl
theorem wq_2 : Cond.fieldLink RX0 45 "HillDance$Reader" "number" "I" ∈ BG := mem_T (i := 93) (by decide +kernel) rfl
theorem wq_3 : Cond.fieldLink RX0 19 "HillDance$Reader" "end" "I" ∈ BG := mem_T (i := 91) (by decide +kernel) rfl
theorem wq_4 : Cond.methodLink RX0 117 yX0_isDigit ∈ BG := mem_T (i := 526) (by decide +kernel) rfl
theorem wq_5 : Cond.static yX0_isDigit ∈ BG := mem_T (i := 527) (by decide +kernel) rfl
theorem wq_6 : Cond.initialized RX0 ∈ BG := mem_T (i := 3) (by decide +kernel) rfl
theorem wq_7 : Cond.code yX0_isDigit cX0_isDigit 1 (some (.boolean)) ∈ BG := mem_T (i := 528) (by decide +kernel) rfl
theorem wq_8 : Cond.methodLink RX0 111 yX0_isLetter ∈ BG := mem_T (i := 519) (by decide +kernel) rfl
theorem wq_9 : Cond.static yX0_isLetter ∈ BG := mem_T (i := 520) (by decide +kernel) rfl
theorem wq_10 : Cond.code yX0_isLetter cX0_isLetter 1 (some (.boolean)) ∈ BG := mem_T (i := 521) (by decide +kernel) rfl
theorem wq_11 : Cond.fieldLink RX0 29 "HillDance$Reader" "begin" "I" ∈ BG := mem_T (i := 90) (by decide +kernel) rfl
theorem wq_12 : Cond.methodLink RX0 123 yX0_signOf ∈ BG := mem_T (i := 534) (by decide +kernel) rfl
theorem wq_13 : Cond.static yX0_signOf ∈ BG := mem_T (i := 535) (by decide +kernel) rfl
theorem wq_14 : Cond.code yX0_signOf cX0_signOf 1 (some (.int)) ∈ BG := mem_T (i := 536) (by decide +kernel) rfl
theorem wq_15 : Cond.fieldLink RX0 32 "HillDance$Reader" "token" "I" ∈ BG := mem_T (i := 92) (by decide +kernel) rfl
theorem wq_16 : Cond.methodLink RX0 120 yX0_takeDigits ∈ BG := mem_T (i := 529) (by decide +kernel) rfl
theorem wq_17 : Cond.instanceMethod yX0_takeDigits ∈ BG := mem_T (i := 531) (by decide +kernel) rfl
theorem wq_18 : Cond.selects RX0 yX0_takeDigits yX0_takeDigits ∈ BG := mem_P (i := 18) (by decide +kernel) rfl
theorem wq_19 : Cond.code yX0_takeDigits cX0_takeDigits 1 none ∈ BG := mem_T (i := 532) (by decide +kernel) rfl
theorem wq_20 : Cond.methodLink RX0 114 yX0_takeLetters ∈ BG := mem_T (i := 522) (by decide +kernel) rfl
theorem wq_21 : Cond.instanceMethod yX0_takeLetters ∈ BG := mem_T (i := 524) (by decide +kernel) rfl
theorem wq_22 : Cond.selects RX0 yX0_takeLetters yX0_takeLetters ∈ BG := mem_P (i := 17) (by decide +kernel) rfl
theorem wq_23 : Cond.code yX0_takeLetters cX0_takeLetters 1 none ∈ BG := mem_T (i := 525) (by decide +kernel) rfl
theorem wq_24 : Cond.methodLink RX0 103 yJ0_length_8abf5 ∈ BG := mem_T (i := 546) (by decide +kernel) rfl
theorem wq_25 : Cond.instanceMethod yJ0_length_8abf5 ∈ BG := mem_T (i := 547) (by decide +kernel) rfl
theorem wq_26 : Cond.selects RJ0 yJ0_length_8abf5 yJ0_length_8abf5 ∈ BG := mem_T (i := 548) (by decide +kernel) rfl
theorem wq_27 : Cond.initialized RJ0 ∈ BG := mem_T (i := 10) (by decide +kernel) rfl
theorem wq_28 : Cond.code yJ0_length_8abf5 cJ0_length_8abf5 1 (some (.int)) ∈ BG := mem_T (i := 549) (by decide +kernel) rfl
theorem wq_29 : Cond.methodLink RX0 107 yJ0_charAt_5068e ∈ BG := mem_T (i := 556) (by decide +kernel) rfl
theorem wq_30 : Cond.instanceMethod yJ0_charAt_5068e ∈ BG := mem_T (i := 557) (by decide +kernel) rfl
theorem wq_31 : Cond.selects RJ0 yJ0_charAt_5068e yJ0_charAt_5068e ∈ BG := mem_T (i := 558) (by decide +kernel) rfl
theorem wq_32 : Cond.code yJ0_charAt_5068e cJ0_charAt_5068e 2 (some (.char)) ∈ BG := mem_T (i := 559) (by decide +kernel) rfl
theorem wq_33 : Cond.methodLink RX0 85 yX0_wordOf ∈ BG := mem_T (i := 602) (by decide +kernel) rfl
theorem wq_34 : Cond.static yX0_wordOf ∈ BG := mem_T (i := 603) (by decide +kernel) rfl
theorem wq_35 : Cond.code yX0_wordOf cX0_wordOf 1 (some (.object "java/lang/String")) ∈ BG := mem_T (i := 604) (by decide +kernel) rfl
theorem wq_36 : Cond.methodLink RX0 37 yX0_isWord ∈ BG := mem_T (i := 542) (by decide +kernel) rfl
theorem wq_37 : Cond.instanceMethod yX0_isWord ∈ BG := mem_T (i := 544) (by decide +kernel) rfl
theorem wq_38 : Cond.selects RX0 yX0_isWord yX0_isWord ∈ BG := mem_P (i := 20) (by decide +kernel) rfl
theorem wq_39 : Cond.code yX0_isWord cX0_isWord 3 (some (.boolean)) ∈ BG := mem_T (i := 545) (by decide +kernel) rfl
theorem wq_40 : Cond.fieldLink RX2 46 "HillDance$Shire" "standing" "[I" ∈ BG := mem_T (i := 47) (by decide +kernel) rfl
theorem wq_41 : Cond.methodLink RX2 67 yJ7_fill_53178 ∈ BG := mem_T (i := 180) (by decide +kernel) rfl
theorem wq_42 : Cond.static yJ7_fill_53178 ∈ BG := mem_T (i := 181) (by decide +kernel) rfl
theorem wq_43 : Cond.initialized RJ7 ∈ BG := mem_T (i := 6) (by decide +kernel) rfl
theorem wq_44 : Cond.code yJ7_fill_53178 cJ7_fill_53178 4 none ∈ BG := mem_T (i := 182) (by decide +kernel) rfl
theorem wq_45 : Cond.fieldLink RX2 49 "HillDance$Shire" "looking" "[I" ∈ BG := mem_T (i := 48) (by decide +kernel) rfl
theorem wq_46 : Cond.fieldLink RX2 52 "HillDance$Shire" "hills" "I" ∈ BG := mem_T (i := 35) (by decide +kernel) rfl
theorem wq_47 : Cond.fieldLink RX2 43 "HillDance$Shire" "met" "[I" ∈ BG := mem_T (i := 46) (by decide +kernel) rfl
theorem wq_48 : Cond.fieldLink RX2 40 "HillDance$Shire" "faced" "[I" ∈ BG := mem_T (i := 45) (by decide +kernel) rfl
theorem wq_49 : Cond.fieldLink RX2 25 "HillDance$Shire" "valleys" "[I" ∈ BG := mem_T (i := 40) (by decide +kernel) rfl
theorem wq_50 : Cond.fieldLink RX2 31 "HillDance$Shire" "turns" "[I" ∈ BG := mem_T (i := 42) (by decide +kernel) rfl
theorem wq_51 : Cond.fieldLink RX2 22 "HillDance$Shire" "kinds" "[I" ∈ BG := mem_T (i := 39) (by decide +kernel) rfl
theorem wq_52 : Cond.methodLink RX2 55 yX2_lookAround ∈ BG := mem_T (i := 176) (by decide +kernel) rfl
theorem wq_53 : Cond.instanceMethod yX2_lookAround ∈ BG := mem_T (i := 178) (by decide +kernel) rfl
theorem wq_54 : Cond.selects RX2 yX2_lookAround yX2_lookAround ∈ BG := mem_P (i := 1) (by decide +kernel) rfl
theorem wq_55 : Cond.initialized RX2 ∈ BG := mem_T (i := 2) (by decide +kernel) rfl
theorem wq_56 : Cond.code yX2_lookAround cX2_lookAround 3 none ∈ BG := mem_T (i := 179) (by decide +kernel) rfl
theorem wq_57 : Cond.fieldLink RX2 28 "HillDance$Shire" "steps" "[I" ∈ BG := mem_T (i := 41) (by decide +kernel) rfl
theorem wq_58 : Cond.fieldLink RX2 34 "HillDance$Shire" "heights" "[I" ∈ BG := mem_T (i := 43) (by decide +kernel) rfl
theorem wq_59 : Cond.fieldLink RX2 37 "HillDance$Shire" "bows" "[I" ∈ BG := mem_T (i := 44) (by decide +kernel) rfl
theorem wq_60 : Cond.methodLink RX0 22 yX0_advance ∈ BG := mem_T (i := 515) (by decide +kernel) rfl
theorem wq_61 : Cond.instanceMethod yX0_advance ∈ BG := mem_T (i := 517) (by decide +kernel) rfl
theorem wq_62 : Cond.selects RX0 yX0_advance yX0_advance ∈ BG := mem_P (i := 16) (by decide +kernel) rfl
theorem wq_63 : Cond.code yX0_advance cX0_advance 1 none ∈ BG := mem_T (i := 518) (by decide +kernel) rfl
theorem wq_64 : Cond.static yX3_mostOf ∈ BG := mem_T (i := 239) (by decide +kernel) rfl
theorem wq_65 : Cond.initialized RX3 ∈ BG := mem_T (i := 1) (by decide +kernel) rfl
theorem wq_66 : Cond.code yX3_mostOf cX3_mostOf 1 (some (.int)) ∈ BG := mem_T (i := 240) (by decide +kernel) rfl
theorem wq_67 : Cond.methodLink RX0 41 yX0_isNumberTo ∈ BG := mem_T (i := 594) (by decide +kernel) rfl
theorem wq_68 : Cond.instanceMethod yX0_isNumberTo ∈ BG := mem_T (i := 596) (by decide +kernel) rfl
theorem wq_69 : Cond.selects RX0 yX0_isNumberTo yX0_isNumberTo ∈ BG := mem_P (i := 21) (by decide +kernel) rfl
theorem wq_70 : Cond.code yX0_isNumberTo cX0_isNumberTo 2 (some (.boolean)) ∈ BG := mem_T (i := 597) (by decide +kernel) rfl
theorem wq_71 : Cond.methodLink RX0 81 yX2_setTrait ∈ BG := mem_T (i := 620) (by decide +kernel) rfl
theorem wq_72 : Cond.instanceMethod yX2_setTrait ∈ BG := mem_T (i := 242) (by decide +kernel) rfl
theorem wq_73 : Cond.selects RX2 yX2_setTrait yX2_setTrait ∈ BG := mem_T (i := 243) (by decide +kernel) rfl
theorem wq_74 : Cond.code yX2_setTrait cX2_setTrait 4 none ∈ BG := mem_T (i := 244) (by decide +kernel) rfl
theorem wq_75 : Cond.methodLink RX0 53 yX0_kindTold ∈ BG := mem_T (i := 598) (by decide +kernel) rfl
theorem wq_76 : Cond.instanceMethod yX0_kindTold ∈ BG := mem_T (i := 600) (by decide +kernel) rfl
theorem wq_77 : Cond.selects RX0 yX0_kindTold yX0_kindTold ∈ BG := mem_P (i := 22) (by decide +kernel) rfl
theorem wq_78 : Cond.code yX0_kindTold cX0_kindTold 2 (some (.int)) ∈ BG := mem_T (i := 601) (by decide +kernel) rfl
theorem wq_79 : Cond.methodLink RX0 57 yX2_isCrowded ∈ BG := mem_T (i := 612) (by decide +kernel) rfl
theorem wq_80 : Cond.instanceMethod yX2_isCrowded ∈ BG := mem_T (i := 169) (by decide +kernel) rfl
theorem wq_81 : Cond.selects RX2 yX2_isCrowded yX2_isCrowded ∈ BG := mem_T (i := 170) (by decide +kernel) rfl
theorem wq_82 : Cond.code yX2_isCrowded cX2_isCrowded 1 (some (.boolean)) ∈ BG := mem_T (i := 171) (by decide +kernel) rfl
theorem wq_83 : Cond.methodLink RX0 61 yX2_raise ∈ BG := mem_T (i := 613) (by decide +kernel) rfl
theorem wq_84 : Cond.instanceMethod yX2_raise ∈ BG := mem_T (i := 173) (by decide +kernel) rfl
theorem wq_85 : Cond.selects RX2 yX2_raise yX2_raise ∈ BG := mem_T (i := 174) (by decide +kernel) rfl
theorem wq_86 : Cond.code yX2_raise cX2_raise 4 (some (.int)) ∈ BG := mem_T (i := 175) (by decide +kernel) rfl
theorem wq_87 : Cond.methodLink RX0 67 yX0_readTrait ∈ BG := mem_T (i := 615) (by decide +kernel) rfl
theorem wq_88 : Cond.instanceMethod yX0_readTrait ∈ BG := mem_T (i := 617) (by decide +kernel) rfl
theorem wq_89 : Cond.selects RX0 yX0_readTrait yX0_readTrait ∈ BG := mem_P (i := 23) (by decide +kernel) rfl
theorem wq_90 : Cond.code yX0_readTrait cX0_readTrait 6 (some (.boolean)) ∈ BG := mem_T (i := 618) (by decide +kernel) rfl
theorem wq_91 : Cond.methodLink RX0 25 yX0_readItem ∈ BG := mem_T (i := 537) (by decide +kernel) rfl
theorem wq_92 : Cond.instanceMethod yX0_readItem ∈ BG := mem_T (i := 539) (by decide +kernel) rfl
theorem wq_93 : Cond.selects RX0 yX0_readItem yX0_readItem ∈ BG := mem_P (i := 19) (by decide +kernel) rfl
theorem wq_94 : Cond.code yX0_readItem cX0_readItem 4 (some (.boolean)) ∈ BG := mem_T (i := 540) (by decide +kernel) rfl
theorem wq_95 : Cond.fieldLink RX1 15 "HillDance$Sheet" "bits" "I" ∈ BG := mem_T (i := 114) (by decide +kernel) rfl
theorem wq_96 : Cond.fieldLink RX1 19 "HillDance$Sheet" "length" "I" ∈ BG := mem_T (i := 116) (by decide +kernel) rfl
theorem wq_97 : Cond.fieldLink RX1 9 "HillDance$Sheet" "numbers" "[I" ∈ BG := mem_T (i := 118) (by decide +kernel) rfl
theorem wq_98 : Cond.methodLink RX1 22 yJ7_fill_53178 ∈ BG := mem_T (i := 646) (by decide +kernel) rfl
theorem wq_99 : Cond.fieldLink RX2 9 "HillDance$Shire" "rainfall" "I" ∈ BG := mem_T (i := 28) (by decide +kernel) rfl
theorem wq_100 : Cond.fieldLink RX2 58 "HillDance$Shire" "age" "I" ∈ BG := mem_T (i := 31) (by decide +kernel) rfl
theorem wq_101 : Cond.fieldLink RX2 15 "HillDance$Shire" "z" "I" ∈ BG := mem_T (i := 33) (by decide +kernel) rfl
theorem wq_102 : Cond.fieldLink RX2 18 "HillDance$Shire" "spots" "[I" ∈ BG := mem_T (i := 37) (by decide +kernel) rfl
theorem wq_103 : Cond.methodLink RX2 76 yX2_valleysIn ∈ BG := mem_T (i := 308) (by decide +kernel) rfl
theorem wq_104 : Cond.static yX2_valleysIn ∈ BG := mem_T (i := 309) (by decide +kernel) rfl
theorem wq_105 : Cond.code yX2_valleysIn cX2_valleysIn 3 (some (.int)) ∈ BG := mem_T (i := 310) (by decide +kernel) rfl
theorem wq_106 : Cond.methodLink RX2 80 yX2_sumOf ∈ BG := mem_T (i := 300) (by decide +kernel) rfl
theorem wq_107 : Cond.instanceMethod yX2_sumOf ∈ BG := mem_T (i := 302) (by decide +kernel) rfl
theorem wq_108 : Cond.selects RX2 yX2_sumOf yX2_sumOf ∈ BG := mem_P (i := 5) (by decide +kernel) rfl
theorem wq_109 : Cond.code yX2_sumOf cX2_sumOf 4 (some (.int)) ∈ BG := mem_T (i := 303) (by decide +kernel) rfl
theorem wq_110 : Cond.methodLink RX3 256 yJ9_floorMod_7cf53 ∈ BG := mem_T (i := 409) (by decide +kernel) rfl
theorem wq_111 : Cond.static yJ9_floorMod_7cf53 ∈ BG := mem_T (i := 284) (by decide +kernel) rfl
theorem wq_112 : Cond.initialized RJ9 ∈ BG := mem_T (i := 8) (by decide +kernel) rfl
theorem wq_113 : Cond.code yJ9_floorMod_7cf53 cJ9_floorMod_7cf53 3 (some (.int)) ∈ BG := mem_T (i := 285) (by decide +kernel) rfl
theorem wq_114 : Cond.static yX3_waysOn ∈ BG := mem_T (i := 407) (by decide +kernel) rfl
theorem wq_115 : Cond.code yX3_waysOn cX3_waysOn 2 (some (.int)) ∈ BG := mem_T (i := 408) (by decide +kernel) rfl
theorem wq_116 : Cond.methodLink RX2 87 yX2_climbOn ∈ BG := mem_T (i := 424) (by decide +kernel) rfl
theorem wq_117 : Cond.instanceMethod yX2_climbOn ∈ BG := mem_T (i := 411) (by decide +kernel) rfl
theorem wq_118 : Cond.selects RX2 yX2_climbOn yX2_climbOn ∈ BG := mem_T (i := 412) (by decide +kernel) rfl
theorem wq_119 : Cond.code yX2_climbOn cX2_climbOn 7 (some (.int)) ∈ BG := mem_T (i := 413) (by decide +kernel) rfl
theorem wq_120 : Cond.constant RJ6 265 (1431655765) ∈ BG := mem_T (i := 212) (by decide +kernel) rfl
theorem wq_121 : Cond.constant RJ6 266 (858993459) ∈ BG := mem_T (i := 213) (by decide +kernel) rfl
theorem wq_122 : Cond.constant RJ6 267 (252645135) ∈ BG := mem_T (i := 214) (by decide +kernel) rfl
theorem wq_123 : Cond.methodLink RX2 99 yX2_partnerMoves ∈ BG := mem_T (i := 201) (by decide +kernel) rfl
theorem wq_124 : Cond.instanceMethod yX2_partnerMoves ∈ BG := mem_T (i := 203) (by decide +kernel) rfl
theorem wq_125 : Cond.selects RX2 yX2_partnerMoves yX2_partnerMoves ∈ BG := mem_P (i := 3) (by decide +kernel) rfl
theorem wq_126 : Cond.code yX2_partnerMoves cX2_partnerMoves 2 (some (.int)) ∈ BG := mem_T (i := 204) (by decide +kernel) rfl
theorem wq_127 : Cond.methodLink RX2 105 yJ6_bitCount_0f7a4 ∈ BG := mem_T (i := 209) (by decide +kernel) rfl
theorem wq_128 : Cond.static yJ6_bitCount_0f7a4 ∈ BG := mem_T (i := 210) (by decide +kernel) rfl
theorem wq_129 : Cond.initialized RJ6 ∈ BG := mem_T (i := 7) (by decide +kernel) rfl
theorem wq_130 : Cond.code yJ6_bitCount_0f7a4 cJ6_bitCount_0f7a4 1 (some (.int)) ∈ BG := mem_T (i := 211) (by decide +kernel) rfl
theorem wq_131 : Cond.methodLink RX2 102 yX2_twinMoves ∈ BG := mem_T (i := 205) (by decide +kernel) rfl
theorem wq_132 : Cond.instanceMethod yX2_twinMoves ∈ BG := mem_T (i := 207) (by decide +kernel) rfl
theorem wq_133 : Cond.selects RX2 yX2_twinMoves yX2_twinMoves ∈ BG := mem_P (i := 4) (by decide +kernel) rfl
theorem wq_134 : Cond.code yX2_twinMoves cX2_twinMoves 2 (some (.int)) ∈ BG := mem_T (i := 208) (by decide +kernel) rfl
theorem wq_135 : Cond.methodLink RX2 95 yX2_tallOf ∈ BG := mem_T (i := 197) (by decide +kernel) rfl
theorem wq_136 : Cond.instanceMethod yX2_tallOf ∈ BG := mem_T (i := 199) (by decide +kernel) rfl
theorem wq_137 : Cond.selects RX2 yX2_tallOf yX2_tallOf ∈ BG := mem_P (i := 2) (by decide +kernel) rfl
theorem wq_138 : Cond.code yX2_tallOf cX2_tallOf 2 (some (.int)) ∈ BG := mem_T (i := 200) (by decide +kernel) rfl
theorem wq_139 : Cond.constant RX2 128 (99999) ∈ BG := mem_T (i := 286) (by decide +kernel) rfl
theorem wq_140 : Cond.methodLink RX2 113 yX2_movesOf ∈ BG := mem_T (i := 274) (by decide +kernel) rfl
theorem wq_141 : Cond.instanceMethod yX2_movesOf ∈ BG := mem_T (i := 194) (by decide +kernel) rfl
theorem wq_142 : Cond.selects RX2 yX2_movesOf yX2_movesOf ∈ BG := mem_T (i := 195) (by decide +kernel) rfl
theorem wq_143 : Cond.code yX2_movesOf cX2_movesOf 2 (some (.int)) ∈ BG := mem_T (i := 196) (by decide +kernel) rfl
theorem wq_144 : Cond.methodLink RX2 116 yX2_turnsOf ∈ BG := mem_T (i := 275) (by decide +kernel) rfl
theorem wq_145 : Cond.instanceMethod yX2_turnsOf ∈ BG := mem_T (i := 216) (by decide +kernel) rfl
theorem wq_146 : Cond.selects RX2 yX2_turnsOf yX2_turnsOf ∈ BG := mem_T (i := 217) (by decide +kernel) rfl
theorem wq_147 : Cond.code yX2_turnsOf cX2_turnsOf 2 (some (.int)) ∈ BG := mem_T (i := 218) (by decide +kernel) rfl
theorem wq_148 : Cond.methodLink RX2 125 yJ9_floorMod_7cf53 ∈ BG := mem_T (i := 283) (by decide +kernel) rfl
theorem wq_149 : Cond.methodLink RX2 119 yX2_sinksOf ∈ BG := mem_T (i := 276) (by decide +kernel) rfl
theorem wq_150 : Cond.instanceMethod yX2_sinksOf ∈ BG := mem_T (i := 220) (by decide +kernel) rfl
theorem wq_151 : Cond.selects RX2 yX2_sinksOf yX2_sinksOf ∈ BG := mem_T (i := 221) (by decide +kernel) rfl
theorem wq_152 : Cond.code yX2_sinksOf cX2_sinksOf 2 (some (.int)) ∈ BG := mem_T (i := 222) (by decide +kernel) rfl
theorem wq_153 : Cond.methodLink RX2 110 yX2_passAge ∈ BG := mem_T (i := 270) (by decide +kernel) rfl
theorem wq_154 : Cond.instanceMethod yX2_passAge ∈ BG := mem_T (i := 271) (by decide +kernel) rfl
theorem wq_155 : Cond.selects RX2 yX2_passAge yX2_passAge ∈ BG := mem_T (i := 272) (by decide +kernel) rfl
theorem wq_156 : Cond.code yX2_passAge cX2_passAge 4 none ∈ BG := mem_T (i := 273) (by decide +kernel) rfl
theorem wq_157 : Cond.constant RX2 129 (1103515245) ∈ BG := mem_T (i := 484) (by decide +kernel) rfl
theorem wq_158 : Cond.methodLink RX2 130 yX2_draw ∈ BG := mem_T (i := 480) (by decide +kernel) rfl
theorem wq_159 : Cond.instanceMethod yX2_draw ∈ BG := mem_T (i := 482) (by decide +kernel) rfl
theorem wq_160 : Cond.selects RX2 yX2_draw yX2_draw ∈ BG := mem_P (i := 15) (by decide +kernel) rfl
theorem wq_161 : Cond.code yX2_draw cX2_draw 1 (some (.int)) ∈ BG := mem_T (i := 483) (by decide +kernel) rfl
theorem wq_162 : Cond.methodLink RX2 134 yX2_lacks ∈ BG := mem_T (i := 485) (by decide +kernel) rfl
theorem wq_163 : Cond.instanceMethod yX2_lacks ∈ BG := mem_T (i := 190) (by decide +kernel) rfl
theorem wq_164 : Cond.selects RX2 yX2_lacks yX2_lacks ∈ BG := mem_T (i := 191) (by decide +kernel) rfl
theorem wq_165 : Cond.code yX2_lacks cX2_lacks 2 (some (.boolean)) ∈ BG := mem_T (i := 192) (by decide +kernel) rfl
theorem wq_166 : Cond.methodLink RX2 138 yX2_setTrait ∈ BG := mem_T (i := 486) (by decide +kernel) rfl
theorem wq_167 : Cond.fieldLink RX3 35 "HillDance" "found" "[I" ∈ BG := mem_T (i := 133) (by decide +kernel) rfl
theorem wq_168 : Cond.constant RX3 252 (-1000001) ∈ BG := mem_T (i := 160) (by decide +kernel) rfl
theorem wq_169 : Cond.methodLink RX3 40 yX3_isOutside ∈ BG := mem_T (i := 153) (by decide +kernel) rfl
theorem wq_170 : Cond.static yX3_isOutside ∈ BG := mem_T (i := 154) (by decide +kernel) rfl
theorem wq_171 : Cond.code yX3_isOutside cX3_isOutside 3 (some (.boolean)) ∈ BG := mem_T (i := 155) (by decide +kernel) rfl
theorem wq_172 : Cond.fieldLink RX3 10 "HillDance" "shire" "LHillDance$Shire;" ∈ BG := mem_T (i := 127) (by decide +kernel) rfl
theorem wq_173 : Cond.methodLink RX3 44 yX3_finding ∈ BG := mem_T (i := 156) (by decide +kernel) rfl
theorem wq_174 : Cond.instanceMethod yX3_finding ∈ BG := mem_T (i := 158) (by decide +kernel) rfl
theorem wq_175 : Cond.selects RX3 yX3_finding yX3_finding ∈ BG := mem_P (i := 0) (by decide +kernel) rfl
theorem wq_176 : Cond.code yX3_finding cX3_finding 2 (some (.int)) ∈ BG := mem_T (i := 159) (by decide +kernel) rfl
theorem wq_177 : Cond.methodLink RX3 52 yX3_isNoValley ∈ BG := mem_T (i := 165) (by decide +kernel) rfl
theorem wq_178 : Cond.static yX3_isNoValley ∈ BG := mem_T (i := 166) (by decide +kernel) rfl
theorem wq_179 : Cond.code yX3_isNoValley cX3_isNoValley 1 (some (.boolean)) ∈ BG := mem_T (i := 167) (by decide +kernel) rfl
theorem wq_180 : Cond.methodLink RX3 56 yX2_isCrowded ∈ BG := mem_T (i := 168) (by decide +kernel) rfl
theorem wq_181 : Cond.methodLink RX3 60 yX2_raise ∈ BG := mem_T (i := 172) (by decide +kernel) rfl
theorem wq_182 : Cond.methodLink RX3 64 yX2_lacks ∈ BG := mem_T (i := 189) (by decide +kernel) rfl
theorem wq_183 : Cond.methodLink RX3 67 yX2_movesOf ∈ BG := mem_T (i := 193) (by decide +kernel) rfl
theorem wq_184 : Cond.methodLink RX3 70 yX2_turnsOf ∈ BG := mem_T (i := 215) (by decide +kernel) rfl
theorem wq_185 : Cond.methodLink RX3 73 yX2_sinksOf ∈ BG := mem_T (i := 219) (by decide +kernel) rfl
theorem wq_186 : Cond.methodLink RX3 76 yX2_meetsOf ∈ BG := mem_T (i := 223) (by decide +kernel) rfl
theorem wq_187 : Cond.instanceMethod yX2_meetsOf ∈ BG := mem_T (i := 224) (by decide +kernel) rfl
theorem wq_188 : Cond.selects RX2 yX2_meetsOf yX2_meetsOf ∈ BG := mem_T (i := 225) (by decide +kernel) rfl
theorem wq_189 : Cond.code yX2_meetsOf cX2_meetsOf 2 (some (.int)) ∈ BG := mem_T (i := 226) (by decide +kernel) rfl
theorem wq_190 : Cond.methodLink RX3 79 yX2_trait ∈ BG := mem_T (i := 227) (by decide +kernel) rfl
theorem wq_191 : Cond.instanceMethod yX2_trait ∈ BG := mem_T (i := 228) (by decide +kernel) rfl
theorem wq_192 : Cond.selects RX2 yX2_trait yX2_trait ∈ BG := mem_T (i := 229) (by decide +kernel) rfl
theorem wq_193 : Cond.code yX2_trait cX2_trait 3 (some (.int)) ∈ BG := mem_T (i := 230) (by decide +kernel) rfl
theorem wq_194 : Cond.methodLink RX3 82 yX3_leastOf ∈ BG := mem_T (i := 235) (by decide +kernel) rfl
theorem wq_195 : Cond.static yX3_leastOf ∈ BG := mem_T (i := 236) (by decide +kernel) rfl
theorem wq_196 : Cond.code yX3_leastOf cX3_leastOf 1 (some (.int)) ∈ BG := mem_T (i := 237) (by decide +kernel) rfl
theorem wq_197 : Cond.methodLink RX3 85 yX3_mostOf ∈ BG := mem_T (i := 238) (by decide +kernel) rfl
theorem wq_198 : Cond.methodLink RX3 88 yX2_setTrait ∈ BG := mem_T (i := 241) (by decide +kernel) rfl
theorem wq_199 : Cond.methodLink RX3 92 yX2_standingAt ∈ BG := mem_T (i := 249) (by decide +kernel) rfl
theorem wq_200 : Cond.instanceMethod yX2_standingAt ∈ BG := mem_T (i := 250) (by decide +kernel) rfl
theorem wq_201 : Cond.selects RX2 yX2_standingAt yX2_standingAt ∈ BG := mem_T (i := 251) (by decide +kernel) rfl
theorem wq_202 : Cond.code yX2_standingAt cX2_standingAt 2 (some (.int)) ∈ BG := mem_T (i := 252) (by decide +kernel) rfl
theorem wq_203 : Cond.methodLink RX3 95 yX2_facing ∈ BG := mem_T (i := 253) (by decide +kernel) rfl
theorem wq_204 : Cond.instanceMethod yX2_facing ∈ BG := mem_T (i := 254) (by decide +kernel) rfl
theorem wq_205 : Cond.selects RX2 yX2_facing yX2_facing ∈ BG := mem_T (i := 255) (by decide +kernel) rfl
theorem wq_206 : Cond.code yX2_facing cX2_facing 2 (some (.int)) ∈ BG := mem_T (i := 256) (by decide +kernel) rfl
theorem wq_207 : Cond.methodLink RX3 98 yX2_highestAt ∈ BG := mem_T (i := 257) (by decide +kernel) rfl
theorem wq_208 : Cond.instanceMethod yX2_highestAt ∈ BG := mem_T (i := 258) (by decide +kernel) rfl
theorem wq_209 : Cond.selects RX2 yX2_highestAt yX2_highestAt ∈ BG := mem_T (i := 259) (by decide +kernel) rfl
theorem wq_210 : Cond.code yX2_highestAt cX2_highestAt 4 (some (.int)) ∈ BG := mem_T (i := 260) (by decide +kernel) rfl
theorem wq_211 : Cond.constant RX3 104 (99999) ∈ BG := mem_T (i := 265) (by decide +kernel) rfl
theorem wq_212 : Cond.methodLink RX3 105 yX2_passAges ∈ BG := mem_T (i := 266) (by decide +kernel) rfl
theorem wq_213 : Cond.instanceMethod yX2_passAges ∈ BG := mem_T (i := 267) (by decide +kernel) rfl
theorem wq_214 : Cond.selects RX2 yX2_passAges yX2_passAges ∈ BG := mem_T (i := 268) (by decide +kernel) rfl
theorem wq_215 : Cond.code yX2_passAges cX2_passAges 3 none ∈ BG := mem_T (i := 269) (by decide +kernel) rfl
theorem wq_216 : Cond.methodLink RX3 109 yX2_meeting ∈ BG := mem_T (i := 287) (by decide +kernel) rfl
theorem wq_217 : Cond.instanceMethod yX2_meeting ∈ BG := mem_T (i := 288) (by decide +kernel) rfl
theorem wq_218 : Cond.selects RX2 yX2_meeting yX2_meeting ∈ BG := mem_T (i := 289) (by decide +kernel) rfl
theorem wq_219 : Cond.code yX2_meeting cX2_meeting 3 (some (.int)) ∈ BG := mem_T (i := 290) (by decide +kernel) rfl
theorem wq_220 : Cond.methodLink RX3 113 yJ6_bitCount_0f7a4 ∈ BG := mem_T (i := 291) (by decide +kernel) rfl
theorem wq_221 : Cond.methodLink RX3 118 yX2_heightOfAll ∈ BG := mem_T (i := 296) (by decide +kernel) rfl
theorem wq_222 : Cond.instanceMethod yX2_heightOfAll ∈ BG := mem_T (i := 297) (by decide +kernel) rfl
theorem wq_223 : Cond.selects RX2 yX2_heightOfAll yX2_heightOfAll ∈ BG := mem_T (i := 298) (by decide +kernel) rfl
theorem wq_224 : Cond.code yX2_heightOfAll cX2_heightOfAll 1 (some (.int)) ∈ BG := mem_T (i := 299) (by decide +kernel) rfl
theorem wq_225 : Cond.methodLink RX3 121 yX2_valleysStoodAt ∈ BG := mem_T (i := 304) (by decide +kernel) rfl
theorem wq_226 : Cond.instanceMethod yX2_valleysStoodAt ∈ BG := mem_T (i := 305) (by decide +kernel) rfl
theorem wq_227 : Cond.selects RX2 yX2_valleysStoodAt yX2_valleysStoodAt ∈ BG := mem_T (i := 306) (by decide +kernel) rfl
theorem wq_228 : Cond.code yX2_valleysStoodAt cX2_valleysStoodAt 1 (some (.int)) ∈ BG := mem_T (i := 307) (by decide +kernel) rfl
theorem wq_229 : Cond.methodLink RX3 124 yX2_valleysFaced ∈ BG := mem_T (i := 311) (by decide +kernel) rfl
theorem wq_230 : Cond.instanceMethod yX2_valleysFaced ∈ BG := mem_T (i := 312) (by decide +kernel) rfl
theorem wq_231 : Cond.selects RX2 yX2_valleysFaced yX2_valleysFaced ∈ BG := mem_T (i := 313) (by decide +kernel) rfl
theorem wq_232 : Cond.code yX2_valleysFaced cX2_valleysFaced 1 (some (.int)) ∈ BG := mem_T (i := 314) (by decide +kernel) rfl
theorem wq_233 : Cond.methodLink RX3 127 yX2_bowedOfAll ∈ BG := mem_T (i := 315) (by decide +kernel) rfl
theorem wq_234 : Cond.instanceMethod yX2_bowedOfAll ∈ BG := mem_T (i := 316) (by decide +kernel) rfl
theorem wq_235 : Cond.selects RX2 yX2_bowedOfAll yX2_bowedOfAll ∈ BG := mem_T (i := 317) (by decide +kernel) rfl
theorem wq_236 : Cond.code yX2_bowedOfAll cX2_bowedOfAll 1 (some (.int)) ∈ BG := mem_T (i := 318) (by decide +kernel) rfl
theorem wq_237 : Cond.methodLink RX3 130 yX3_isForetold ∈ BG := mem_T (i := 323) (by decide +kernel) rfl
theorem wq_238 : Cond.static yX3_isForetold ∈ BG := mem_T (i := 324) (by decide +kernel) rfl
theorem wq_239 : Cond.code yX3_isForetold cX3_isForetold 1 (some (.boolean)) ∈ BG := mem_T (i := 325) (by decide +kernel) rfl
theorem wq_240 : Cond.fieldLink RX3 16 "HillDance" "trial" "LHillDance$Shire;" ∈ BG := mem_T (i := 128) (by decide +kernel) rfl
theorem wq_241 : Cond.methodLink RX3 133 yX2_become ∈ BG := mem_T (i := 326) (by decide +kernel) rfl
theorem wq_242 : Cond.instanceMethod yX2_become ∈ BG := mem_T (i := 327) (by decide +kernel) rfl
theorem wq_243 : Cond.selects RX2 yX2_become yX2_become ∈ BG := mem_T (i := 328) (by decide +kernel) rfl
theorem wq_244 : Cond.code yX2_become cX2_become 2 none ∈ BG := mem_T (i := 329) (by decide +kernel) rfl
theorem wq_245 : Cond.methodLink RX3 137 yX2_facedBy ∈ BG := mem_T (i := 337) (by decide +kernel) rfl
theorem wq_246 : Cond.instanceMethod yX2_facedBy ∈ BG := mem_T (i := 338) (by decide +kernel) rfl
theorem wq_247 : Cond.selects RX2 yX2_facedBy yX2_facedBy ∈ BG := mem_T (i := 339) (by decide +kernel) rfl
theorem wq_248 : Cond.code yX2_facedBy cX2_facedBy 2 (some (.int)) ∈ BG := mem_T (i := 340) (by decide +kernel) rfl
theorem wq_249 : Cond.methodLink RX3 140 yX2_passAge ∈ BG := mem_T (i := 341) (by decide +kernel) rfl
theorem wq_250 : Cond.methodLink RX3 143 yX3_isNoPair ∈ BG := mem_T (i := 346) (by decide +kernel) rfl
theorem wq_251 : Cond.instanceMethod yX3_isNoPair ∈ BG := mem_T (i := 348) (by decide +kernel) rfl
theorem wq_252 : Cond.selects RX3 yX3_isNoPair yX3_isNoPair ∈ BG := mem_P (i := 6) (by decide +kernel) rfl
theorem wq_253 : Cond.code yX3_isNoPair cX3_isNoPair 3 (some (.boolean)) ∈ BG := mem_T (i := 349) (by decide +kernel) rfl
theorem wq_254 : Cond.methodLink RX3 147 yX3_agesUntilMeeting ∈ BG := mem_T (i := 350) (by decide +kernel) rfl
theorem wq_255 : Cond.instanceMethod yX3_agesUntilMeeting ∈ BG := mem_T (i := 352) (by decide +kernel) rfl
theorem wq_256 : Cond.selects RX3 yX3_agesUntilMeeting yX3_agesUntilMeeting ∈ BG := mem_P (i := 7) (by decide +kernel) rfl
theorem wq_257 : Cond.code yX3_agesUntilMeeting cX3_agesUntilMeeting 5 (some (.int)) ∈ BG := mem_T (i := 353) (by decide +kernel) rfl
theorem wq_258 : Cond.methodLink RX3 151 yX2_standsAndTurnsAs ∈ BG := mem_T (i := 358) (by decide +kernel) rfl
theorem wq_259 : Cond.instanceMethod yX2_standsAndTurnsAs ∈ BG := mem_T (i := 359) (by decide +kernel) rfl
theorem wq_260 : Cond.selects RX2 yX2_standsAndTurnsAs yX2_standsAndTurnsAs ∈ BG := mem_T (i := 360) (by decide +kernel) rfl
theorem wq_261 : Cond.code yX2_standsAndTurnsAs cX2_standsAndTurnsAs 3 (some (.boolean)) ∈ BG := mem_T (i := 361) (by decide +kernel) rfl
theorem wq_262 : Cond.methodLink RX3 155 yX2_everyone ∈ BG := mem_T (i := 370) (by decide +kernel) rfl
theorem wq_263 : Cond.instanceMethod yX2_everyone ∈ BG := mem_T (i := 371) (by decide +kernel) rfl
theorem wq_264 : Cond.selects RX2 yX2_everyone yX2_everyone ∈ BG := mem_T (i := 372) (by decide +kernel) rfl
theorem wq_265 : Cond.code yX2_everyone cX2_everyone 1 (some (.int)) ∈ BG := mem_T (i := 373) (by decide +kernel) rfl
theorem wq_266 : Cond.methodLink RX3 161 yX3_tryWith ∈ BG := mem_T (i := 382) (by decide +kernel) rfl
theorem wq_267 : Cond.instanceMethod yX3_tryWith ∈ BG := mem_T (i := 384) (by decide +kernel) rfl
theorem wq_268 : Cond.selects RX3 yX3_tryWith yX3_tryWith ∈ BG := mem_P (i := 9) (by decide +kernel) rfl
theorem wq_269 : Cond.code yX3_tryWith cX3_tryWith 4 none ∈ BG := mem_T (i := 385) (by decide +kernel) rfl
theorem wq_270 : Cond.methodLink RX3 158 yX3_soonestWith ∈ BG := mem_T (i := 378) (by decide +kernel) rfl
theorem wq_271 : Cond.instanceMethod yX3_soonestWith ∈ BG := mem_T (i := 380) (by decide +kernel) rfl
theorem wq_272 : Cond.selects RX3 yX3_soonestWith yX3_soonestWith ∈ BG := mem_P (i := 8) (by decide +kernel) rfl
theorem wq_273 : Cond.code yX3_soonestWith cX3_soonestWith 8 (some (.int)) ∈ BG := mem_T (i := 381) (by decide +kernel) rfl
theorem wq_274 : Cond.methodLink RX3 164 yX3_waysOn ∈ BG := mem_T (i := 406) (by decide +kernel) rfl
theorem wq_275 : Cond.methodLink RX3 167 yX2_climbOn ∈ BG := mem_T (i := 410) (by decide +kernel) rfl
theorem wq_276 : Cond.methodLink RX3 175 yX2_leastClimb ∈ BG := mem_T (i := 420) (by decide +kernel) rfl
theorem wq_277 : Cond.instanceMethod yX2_leastClimb ∈ BG := mem_T (i := 421) (by decide +kernel) rfl
theorem wq_278 : Cond.selects RX2 yX2_leastClimb yX2_leastClimb ∈ BG := mem_T (i := 422) (by decide +kernel) rfl
theorem wq_279 : Cond.code yX2_leastClimb cX2_leastClimb 3 (some (.int)) ∈ BG := mem_T (i := 423) (by decide +kernel) rfl
theorem wq_280 : Cond.methodLink RX3 178 yX3_agesOpen ∈ BG := mem_T (i := 429) (by decide +kernel) rfl
theorem wq_281 : Cond.instanceMethod yX3_agesOpen ∈ BG := mem_T (i := 431) (by decide +kernel) rfl
theorem wq_282 : Cond.selects RX3 yX3_agesOpen yX3_agesOpen ∈ BG := mem_P (i := 10) (by decide +kernel) rfl
theorem wq_283 : Cond.code yX3_agesOpen cX3_agesOpen 7 (some (.int)) ∈ BG := mem_T (i := 432) (by decide +kernel) rfl
theorem wq_284 : Cond.fieldLink RX3 31 "HillDance" "sheets" "[LHillDance$Sheet;" ∈ BG := mem_T (i := 132) (by decide +kernel) rfl
theorem wq_285 : Cond.methodLink RX3 259 yX3_facesAsTold ∈ BG := mem_T (i := 460) (by decide +kernel) rfl
theorem wq_286 : Cond.instanceMethod yX3_facesAsTold ∈ BG := mem_T (i := 462) (by decide +kernel) rfl
theorem wq_287 : Cond.selects RX3 yX3_facesAsTold yX3_facesAsTold ∈ BG := mem_P (i := 14) (by decide +kernel) rfl
theorem wq_288 : Cond.code yX3_facesAsTold cX3_facesAsTold 5 (some (.boolean)) ∈ BG := mem_T (i := 463) (by decide +kernel) rfl
theorem wq_289 : Cond.methodLink RX3 210 yX3_isNoSheet ∈ BG := mem_T (i := 449) (by decide +kernel) rfl
theorem wq_290 : Cond.static yX3_isNoSheet ∈ BG := mem_T (i := 450) (by decide +kernel) rfl
theorem wq_291 : Cond.code yX3_isNoSheet cX3_isNoSheet 1 (some (.boolean)) ∈ BG := mem_T (i := 451) (by decide +kernel) rfl
theorem wq_292 : Cond.methodLink RX3 224 yX1_isMissing ∈ BG := mem_T (i := 452) (by decide +kernel) rfl
theorem wq_293 : Cond.instanceMethod yX1_isMissing ∈ BG := mem_T (i := 453) (by decide +kernel) rfl
theorem wq_294 : Cond.selects RX1 yX1_isMissing yX1_isMissing ∈ BG := mem_T (i := 454) (by decide +kernel) rfl
theorem wq_295 : Cond.initialized RX1 ∈ BG := mem_T (i := 4) (by decide +kernel) rfl
theorem wq_296 : Cond.code yX1_isMissing cX1_isMissing 1 (some (.boolean)) ∈ BG := mem_T (i := 455) (by decide +kernel) rfl
theorem wq_297 : Cond.methodLink RX3 218 yX3_wrongWithSheet ∈ BG := mem_T (i := 445) (by decide +kernel) rfl
theorem wq_298 : Cond.instanceMethod yX3_wrongWithSheet ∈ BG := mem_T (i := 447) (by decide +kernel) rfl
theorem wq_299 : Cond.selects RX3 yX3_wrongWithSheet yX3_wrongWithSheet ∈ BG := mem_P (i := 12) (by decide +kernel) rfl
theorem wq_300 : Cond.code yX3_wrongWithSheet cX3_wrongWithSheet 2 (some (.int)) ∈ BG := mem_T (i := 448) (by decide +kernel) rfl
theorem wq_301 : Cond.methodLink RX3 182 yX3_wrongWithTold ∈ BG := mem_T (i := 441) (by decide +kernel) rfl
theorem wq_302 : Cond.instanceMethod yX3_wrongWithTold ∈ BG := mem_T (i := 443) (by decide +kernel) rfl
theorem wq_303 : Cond.selects RX3 yX3_wrongWithTold yX3_wrongWithTold ∈ BG := mem_P (i := 11) (by decide +kernel) rfl
theorem wq_304 : Cond.code yX3_wrongWithTold cX3_wrongWithTold 4 (some (.int)) ∈ BG := mem_T (i := 444) (by decide +kernel) rfl
theorem wq_305 : Cond.methodLink RX3 185 yX3_fittingSet ∈ BG := mem_T (i := 456) (by decide +kernel) rfl
theorem wq_306 : Cond.instanceMethod yX3_fittingSet ∈ BG := mem_T (i := 458) (by decide +kernel) rfl
theorem wq_307 : Cond.selects RX3 yX3_fittingSet yX3_fittingSet ∈ BG := mem_P (i := 13) (by decide +kernel) rfl
theorem wq_308 : Cond.code yX3_fittingSet cX3_fittingSet 7 (some (.int)) ∈ BG := mem_T (i := 459) (by decide +kernel) rfl
theorem wq_309 : Cond.methodLink RX3 188 yX2_passWetAge ∈ BG := mem_T (i := 476) (by decide +kernel) rfl
theorem wq_310 : Cond.instanceMethod yX2_passWetAge ∈ BG := mem_T (i := 477) (by decide +kernel) rfl
theorem wq_311 : Cond.selects RX2 yX2_passWetAge yX2_passWetAge ∈ BG := mem_T (i := 478) (by decide +kernel) rfl
theorem wq_312 : Cond.code yX2_passWetAge cX2_passWetAge 2 none ∈ BG := mem_T (i := 479) (by decide +kernel) rfl
theorem wq_313 : Cond.fieldLink RX3 25 "HillDance" "reader" "LHillDance$Reader;" ∈ BG := mem_T (i := 131) (by decide +kernel) rfl
theorem wq_314 : Cond.methodLink RX3 197 yX0_append ∈ BG := mem_T (i := 499) (by decide +kernel) rfl
theorem wq_315 : Cond.instanceMethod yX0_append ∈ BG := mem_T (i := 500) (by decide +kernel) rfl
theorem wq_316 : Cond.selects RX0 yX0_append yX0_append ∈ BG := mem_T (i := 501) (by decide +kernel) rfl
theorem wq_317 : Cond.code yX0_append cX0_append 2 none ∈ BG := mem_T (i := 502) (by decide +kernel) rfl
theorem wq_318 : Cond.methodLink RX3 200 yX0_readInto ∈ BG := mem_T (i := 511) (by decide +kernel) rfl
theorem wq_319 : Cond.instanceMethod yX0_readInto ∈ BG := mem_T (i := 512) (by decide +kernel) rfl
theorem wq_320 : Cond.selects RX0 yX0_readInto yX0_readInto ∈ BG := mem_T (i := 513) (by decide +kernel) rfl
theorem wq_321 : Cond.code yX0_readInto cX0_readInto 3 (some (.int)) ∈ BG := mem_T (i := 514) (by decide +kernel) rfl
theorem wq_322 : Cond.fieldLink RX3 253 "HillDance" "KIND_ABOVE" "[I" ∈ BG := mem_T (i := 636) (by decide +kernel) rfl
theorem wq_323 : Cond.methodLink RX3 207 yX3_isUnder ∈ BG := mem_T (i := 633) (by decide +kernel) rfl
theorem wq_324 : Cond.static yX3_isUnder ∈ BG := mem_T (i := 634) (by decide +kernel) rfl
theorem wq_325 : Cond.code yX3_isUnder cX3_isUnder 4 (some (.boolean)) ∈ BG := mem_T (i := 635) (by decide +kernel) rfl
theorem wq_326 : Cond.methodLink RX3 213 yX1_begin ∈ BG := mem_T (i := 642) (by decide +kernel) rfl
theorem wq_327 : Cond.instanceMethod yX1_begin ∈ BG := mem_T (i := 643) (by decide +kernel) rfl
theorem wq_328 : Cond.selects RX1 yX1_begin yX1_begin ∈ BG := mem_T (i := 644) (by decide +kernel) rfl
theorem wq_329 : Cond.code yX1_begin cX1_begin 3 none ∈ BG := mem_T (i := 645) (by decide +kernel) rfl
theorem wq_330 : Cond.methodLink RX3 221 yX1_put ∈ BG := mem_T (i := 651) (by decide +kernel) rfl
theorem wq_331 : Cond.instanceMethod yX1_put ∈ BG := mem_T (i := 652) (by decide +kernel) rfl
theorem wq_332 : Cond.selects RX1 yX1_put yX1_put ∈ BG := mem_T (i := 653) (by decide +kernel) rfl
theorem wq_333 : Cond.code yX1_put cX1_put 3 none ∈ BG := mem_T (i := 654) (by decide +kernel) rfl
theorem wq_334 : Cond.methodLink RX3 230 yX1_reaches ∈ BG := mem_T (i := 659) (by decide +kernel) rfl
theorem wq_335 : Cond.instanceMethod yX1_reaches ∈ BG := mem_T (i := 660) (by decide +kernel) rfl
theorem wq_336 : Cond.selects RX1 yX1_reaches yX1_reaches ∈ BG := mem_T (i := 661) (by decide +kernel) rfl
theorem wq_337 : Cond.code yX1_reaches cX1_reaches 3 (some (.boolean)) ∈ BG := mem_T (i := 662) (by decide +kernel) rfl
theorem wq_338 : Cond.fieldLink RX3 19 "HillDance" "kept" "LHillDance$Shire;" ∈ BG := mem_T (i := 129) (by decide +kernel) rfl
theorem wq_339 : Cond.fieldLink RX3 242 "HillDance" "isKept" "Z" ∈ BG := mem_T (i := 130) (by decide +kernel) rfl
theorem wq_340 : Cond.methodLink RX3 249 yX2_spotsHeld ∈ BG := mem_T (i := 688) (by decide +kernel) rfl
theorem wq_341 : Cond.instanceMethod yX2_spotsHeld ∈ BG := mem_T (i := 689) (by decide +kernel) rfl
theorem wq_342 : Cond.selects RX2 yX2_spotsHeld yX2_spotsHeld ∈ BG := mem_T (i := 690) (by decide +kernel) rfl
theorem wq_343 : Cond.code yX2_spotsHeld cX2_spotsHeld 3 (some (.int)) ∈ BG := mem_T (i := 691) (by decide +kernel) rfl
theorem wq_344 : Cond.fieldLink RX4 19 "HillDanceModel" "found" "[I" ∈ BG := mem_T (i := 715) (by decide +kernel) rfl
theorem wq_345 : Cond.constant RX4 75 (-1000001) ∈ BG := mem_T (i := 798) (by decide +kernel) rfl
theorem wq_346 : Cond.fieldLink RX4 9 "HillDanceModel" "now" "[I" ∈ BG := mem_T (i := 711) (by decide +kernel) rfl
theorem wq_347 : Cond.fieldLink RX4 16 "HillDanceModel" "aside" "[I" ∈ BG := mem_T (i := 713) (by decide +kernel) rfl
theorem wq_348 : Cond.methodLink RX4 76 yX4_copyRow ∈ BG := mem_T (i := 929) (by decide +kernel) rfl
theorem wq_349 : Cond.static yX4_copyRow ∈ BG := mem_T (i := 930) (by decide +kernel) rfl
theorem wq_350 : Cond.initialized RX4 ∈ BG := mem_T (i := 5) (by decide +kernel) rfl
theorem wq_351 : Cond.code yX4_copyRow cX4_copyRow 3 none ∈ BG := mem_T (i := 931) (by decide +kernel) rfl
theorem wq_352 : Cond.constant RX4 80 (-1000004) ∈ BG := mem_T (i := 944) (by decide +kernel) rfl
theorem wq_353 : Cond.methodLink RX4 81 yX4_finding ∈ BG := mem_T (i := 799) (by decide +kernel) rfl
theorem wq_354 : Cond.instanceMethod yX4_finding ∈ BG := mem_T (i := 801) (by decide +kernel) rfl
theorem wq_355 : Cond.selects RX4 yX4_finding yX4_finding ∈ BG := mem_P (i := 25) (by decide +kernel) rfl
theorem wq_356 : Cond.code yX4_finding cX4_finding 2 (some (.int)) ∈ BG := mem_T (i := 802) (by decide +kernel) rfl
theorem wq_357 : Cond.methodLink RX4 85 yX4_within ∈ BG := mem_T (i := 791) (by decide +kernel) rfl
theorem wq_358 : Cond.static yX4_within ∈ BG := mem_T (i := 792) (by decide +kernel) rfl
theorem wq_359 : Cond.code yX4_within cX4_within 3 (some (.boolean)) ∈ BG := mem_T (i := 793) (by decide +kernel) rfl
theorem wq_360 : Cond.methodLink RX4 89 yX4_become ∈ BG := mem_T (i := 794) (by decide +kernel) rfl
theorem wq_361 : Cond.instanceMethod yX4_become ∈ BG := mem_T (i := 796) (by decide +kernel) rfl
theorem wq_362 : Cond.selects RX4 yX4_become yX4_become ∈ BG := mem_P (i := 24) (by decide +kernel) rfl
theorem wq_363 : Cond.code yX4_become cX4_become 4 (some (.int)) ∈ BG := mem_T (i := 797) (by decide +kernel) rfl
theorem wq_364 : Cond.methodLink RX4 93 yX4_at ∈ BG := mem_T (i := 818) (by decide +kernel) rfl
theorem wq_365 : Cond.static yX4_at ∈ BG := mem_T (i := 819) (by decide +kernel) rfl
theorem wq_366 : Cond.code yX4_at cX4_at 2 (some (.int)) ∈ BG := mem_T (i := 820) (by decide +kernel) rfl
theorem wq_367 : Cond.methodLink RX4 96 yX4_isKind ∈ BG := mem_T (i := 807) (by decide +kernel) rfl
theorem wq_368 : Cond.static yX4_isKind ∈ BG := mem_T (i := 808) (by decide +kernel) rfl
theorem wq_369 : Cond.code yX4_isKind cX4_isKind 1 (some (.boolean)) ∈ BG := mem_T (i := 809) (by decide +kernel) rfl
theorem wq_370 : Cond.methodLink RX4 100 yX4_isValley ∈ BG := mem_T (i := 810) (by decide +kernel) rfl
theorem wq_371 : Cond.static yX4_isValley ∈ BG := mem_T (i := 811) (by decide +kernel) rfl
theorem wq_372 : Cond.code yX4_isValley cX4_isValley 1 (some (.boolean)) ∈ BG := mem_T (i := 812) (by decide +kernel) rfl
theorem wq_373 : Cond.constant RX4 103 (-1000002) ∈ BG := mem_T (i := 813) (by decide +kernel) rfl
theorem wq_374 : Cond.methodLink RX4 104 yX4_comes ∈ BG := mem_T (i := 814) (by decide +kernel) rfl
theorem wq_375 : Cond.instanceMethod yX4_comes ∈ BG := mem_T (i := 816) (by decide +kernel) rfl
theorem wq_376 : Cond.selects RX4 yX4_comes yX4_comes ∈ BG := mem_P (i := 26) (by decide +kernel) rfl
theorem wq_377 : Cond.code yX4_comes cX4_comes 7 (some (.int)) ∈ BG := mem_T (i := 817) (by decide +kernel) rfl
theorem wq_378 : Cond.methodLink RX4 108 yX4_hillIs ∈ BG := mem_T (i := 841) (by decide +kernel) rfl
theorem wq_379 : Cond.instanceMethod yX4_hillIs ∈ BG := mem_T (i := 843) (by decide +kernel) rfl
theorem wq_380 : Cond.selects RX4 yX4_hillIs yX4_hillIs ∈ BG := mem_P (i := 31) (by decide +kernel) rfl
theorem wq_381 : Cond.code yX4_hillIs cX4_hillIs 3 (some (.int)) ∈ BG := mem_T (i := 844) (by decide +kernel) rfl
theorem wq_382 : Cond.fieldLink RX4 22 "HillDanceModel" "faces" "[I" ∈ BG := mem_T (i := 716) (by decide +kernel) rfl
theorem wq_383 : Cond.methodLink RX4 111 yX4_by12 ∈ BG := mem_T (i := 845) (by decide +kernel) rfl
theorem wq_384 : Cond.static yX4_by12 ∈ BG := mem_T (i := 846) (by decide +kernel) rfl
theorem wq_385 : Cond.code yX4_by12 cX4_by12 2 (some (.int)) ∈ BG := mem_T (i := 847) (by decide +kernel) rfl
theorem wq_386 : Cond.methodLink RX4 114 yX4_facesOf ∈ BG := mem_T (i := 837) (by decide +kernel) rfl
theorem wq_387 : Cond.instanceMethod yX4_facesOf ∈ BG := mem_T (i := 839) (by decide +kernel) rfl
theorem wq_388 : Cond.selects RX4 yX4_facesOf yX4_facesOf ∈ BG := mem_P (i := 30) (by decide +kernel) rfl
theorem wq_389 : Cond.code yX4_facesOf cX4_facesOf 2 (some (.int)) ∈ BG := mem_T (i := 840) (by decide +kernel) rfl
theorem wq_390 : Cond.fieldLink RX4 25 "HillDanceModel" "met" "[I" ∈ BG := mem_T (i := 717) (by decide +kernel) rfl
theorem wq_391 : Cond.methodLink RX4 117 yX4_movesOf ∈ BG := mem_T (i := 848) (by decide +kernel) rfl
theorem wq_392 : Cond.instanceMethod yX4_movesOf ∈ BG := mem_T (i := 850) (by decide +kernel) rfl
theorem wq_393 : Cond.selects RX4 yX4_movesOf yX4_movesOf ∈ BG := mem_P (i := 32) (by decide +kernel) rfl
theorem wq_394 : Cond.code yX4_movesOf cX4_movesOf 4 (some (.int)) ∈ BG := mem_T (i := 851) (by decide +kernel) rfl
theorem wq_395 : Cond.methodLink RX4 120 yX4_atValley ∈ BG := mem_T (i := 852) (by decide +kernel) rfl
theorem wq_396 : Cond.instanceMethod yX4_atValley ∈ BG := mem_T (i := 854) (by decide +kernel) rfl
theorem wq_397 : Cond.selects RX4 yX4_atValley yX4_atValley ∈ BG := mem_P (i := 33) (by decide +kernel) rfl
theorem wq_398 : Cond.code yX4_atValley cX4_atValley 4 (some (.int)) ∈ BG := mem_T (i := 855) (by decide +kernel) rfl
theorem wq_399 : Cond.methodLink RX4 123 yX4_bits ∈ BG := mem_T (i := 856) (by decide +kernel) rfl
theorem wq_400 : Cond.static yX4_bits ∈ BG := mem_T (i := 857) (by decide +kernel) rfl
theorem wq_401 : Cond.code yX4_bits cX4_bits 3 (some (.int)) ∈ BG := mem_T (i := 858) (by decide +kernel) rfl
theorem wq_402 : Cond.methodLink RX4 126 yX4_turnsOf ∈ BG := mem_T (i := 859) (by decide +kernel) rfl
theorem wq_403 : Cond.instanceMethod yX4_turnsOf ∈ BG := mem_T (i := 861) (by decide +kernel) rfl
theorem wq_404 : Cond.selects RX4 yX4_turnsOf yX4_turnsOf ∈ BG := mem_P (i := 34) (by decide +kernel) rfl
theorem wq_405 : Cond.code yX4_turnsOf cX4_turnsOf 3 (some (.int)) ∈ BG := mem_T (i := 862) (by decide +kernel) rfl
theorem wq_406 : Cond.methodLink RX4 129 yX4_meeting ∈ BG := mem_T (i := 833) (by decide +kernel) rfl
theorem wq_407 : Cond.instanceMethod yX4_meeting ∈ BG := mem_T (i := 835) (by decide +kernel) rfl
theorem wq_408 : Cond.selects RX4 yX4_meeting yX4_meeting ∈ BG := mem_P (i := 29) (by decide +kernel) rfl
theorem wq_409 : Cond.code yX4_meeting cX4_meeting 4 (some (.int)) ∈ BG := mem_T (i := 836) (by decide +kernel) rfl
theorem wq_410 : Cond.fieldLink RX4 28 "HillDanceModel" "moves" "[I" ∈ BG := mem_T (i := 718) (by decide +kernel) rfl
theorem wq_411 : Cond.fieldLink RX4 31 "HillDanceModel" "turns" "[I" ∈ BG := mem_T (i := 719) (by decide +kernel) rfl
theorem wq_412 : Cond.fieldLink RX4 34 "HillDanceModel" "sinks" "[I" ∈ BG := mem_T (i := 720) (by decide +kernel) rfl
theorem wq_413 : Cond.methodLink RX4 132 yX4_sinksOf ∈ BG := mem_T (i := 863) (by decide +kernel) rfl
theorem wq_414 : Cond.instanceMethod yX4_sinksOf ∈ BG := mem_T (i := 865) (by decide +kernel) rfl
theorem wq_415 : Cond.selects RX4 yX4_sinksOf yX4_sinksOf ∈ BG := mem_P (i := 35) (by decide +kernel) rfl
theorem wq_416 : Cond.code yX4_sinksOf cX4_sinksOf 3 (some (.int)) ∈ BG := mem_T (i := 866) (by decide +kernel) rfl
theorem wq_417 : Cond.methodLink RX4 135 yX4_isHill ∈ BG := mem_T (i := 825) (by decide +kernel) rfl
theorem wq_418 : Cond.instanceMethod yX4_isHill ∈ BG := mem_T (i := 827) (by decide +kernel) rfl
theorem wq_419 : Cond.selects RX4 yX4_isHill yX4_isHill ∈ BG := mem_P (i := 27) (by decide +kernel) rfl
theorem wq_420 : Cond.code yX4_isHill cX4_isHill 2 (some (.boolean)) ∈ BG := mem_T (i := 828) (by decide +kernel) rfl
theorem wq_421 : Cond.methodLink RX4 138 yX4_looksAt ∈ BG := mem_T (i := 829) (by decide +kernel) rfl
theorem wq_422 : Cond.instanceMethod yX4_looksAt ∈ BG := mem_T (i := 831) (by decide +kernel) rfl
theorem wq_423 : Cond.selects RX4 yX4_looksAt yX4_looksAt ∈ BG := mem_P (i := 28) (by decide +kernel) rfl
theorem wq_424 : Cond.code yX4_looksAt cX4_looksAt 2 none ∈ BG := mem_T (i := 832) (by decide +kernel) rfl
theorem wq_425 : Cond.methodLink RX4 141 yX4_isHigh ∈ BG := mem_T (i := 874) (by decide +kernel) rfl
theorem wq_426 : Cond.static yX4_isHigh ∈ BG := mem_T (i := 875) (by decide +kernel) rfl
theorem wq_427 : Cond.code yX4_isHigh cX4_isHigh 1 (some (.boolean)) ∈ BG := mem_T (i := 876) (by decide +kernel) rfl
theorem wq_428 : Cond.methodLink RX4 144 yX4_mayBe ∈ BG := mem_T (i := 871) (by decide +kernel) rfl
theorem wq_429 : Cond.static yX4_mayBe ∈ BG := mem_T (i := 872) (by decide +kernel) rfl
theorem wq_430 : Cond.code yX4_mayBe cX4_mayBe 2 (some (.boolean)) ∈ BG := mem_T (i := 873) (by decide +kernel) rfl
theorem wq_431 : Cond.methodLink RX4 153 yX4_facing ∈ BG := mem_T (i := 881) (by decide +kernel) rfl
theorem wq_432 : Cond.instanceMethod yX4_facing ∈ BG := mem_T (i := 883) (by decide +kernel) rfl
theorem wq_433 : Cond.selects RX4 yX4_facing yX4_facing ∈ BG := mem_P (i := 36) (by decide +kernel) rfl
theorem wq_434 : Cond.code yX4_facing cX4_facing 4 (some (.int)) ∈ BG := mem_T (i := 884) (by decide +kernel) rfl
theorem wq_435 : Cond.methodLink RX4 156 yX4_highestAt ∈ BG := mem_T (i := 885) (by decide +kernel) rfl
theorem wq_436 : Cond.instanceMethod yX4_highestAt ∈ BG := mem_T (i := 887) (by decide +kernel) rfl
theorem wq_437 : Cond.selects RX4 yX4_highestAt yX4_highestAt ∈ BG := mem_P (i := 37) (by decide +kernel) rfl
theorem wq_438 : Cond.code yX4_highestAt cX4_highestAt 4 (some (.int)) ∈ BG := mem_T (i := 888) (by decide +kernel) rfl
theorem wq_439 : Cond.methodLink RX4 162 yX4_age ∈ BG := mem_T (i := 900) (by decide +kernel) rfl
theorem wq_440 : Cond.instanceMethod yX4_age ∈ BG := mem_T (i := 902) (by decide +kernel) rfl
theorem wq_441 : Cond.selects RX4 yX4_age yX4_age ∈ BG := mem_P (i := 39) (by decide +kernel) rfl
theorem wq_442 : Cond.code yX4_age cX4_age 3 none ∈ BG := mem_T (i := 903) (by decide +kernel) rfl
theorem wq_443 : Cond.constant RX4 165 (99999) ∈ BG := mem_T (i := 894) (by decide +kernel) rfl
theorem wq_444 : Cond.methodLink RX4 167 yX4_ages ∈ BG := mem_T (i := 896) (by decide +kernel) rfl
theorem wq_445 : Cond.instanceMethod yX4_ages ∈ BG := mem_T (i := 898) (by decide +kernel) rfl
theorem wq_446 : Cond.selects RX4 yX4_ages yX4_ages ∈ BG := mem_P (i := 38) (by decide +kernel) rfl
theorem wq_447 : Cond.code yX4_ages cX4_ages 3 none ∈ BG := mem_T (i := 899) (by decide +kernel) rfl
theorem wq_448 : Cond.methodLink RX4 171 yX4_whoMeets ∈ BG := mem_T (i := 905) (by decide +kernel) rfl
theorem wq_449 : Cond.instanceMethod yX4_whoMeets ∈ BG := mem_T (i := 907) (by decide +kernel) rfl
theorem wq_450 : Cond.selects RX4 yX4_whoMeets yX4_whoMeets ∈ BG := mem_P (i := 40) (by decide +kernel) rfl
theorem wq_451 : Cond.code yX4_whoMeets cX4_whoMeets 3 (some (.int)) ∈ BG := mem_T (i := 908) (by decide +kernel) rfl
theorem wq_452 : Cond.constant RX4 166 (-1000005) ∈ BG := mem_T (i := 895) (by decide +kernel) rfl
theorem wq_453 : Cond.methodLink RX4 175 yX4_sumOf ∈ BG := mem_T (i := 913) (by decide +kernel) rfl
theorem wq_454 : Cond.instanceMethod yX4_sumOf ∈ BG := mem_T (i := 915) (by decide +kernel) rfl
theorem wq_455 : Cond.selects RX4 yX4_sumOf yX4_sumOf ∈ BG := mem_P (i := 41) (by decide +kernel) rfl
theorem wq_456 : Cond.code yX4_sumOf cX4_sumOf 4 (some (.int)) ∈ BG := mem_T (i := 916) (by decide +kernel) rfl
theorem wq_457 : Cond.methodLink RX4 178 yX4_valleysAt ∈ BG := mem_T (i := 917) (by decide +kernel) rfl
theorem wq_458 : Cond.instanceMethod yX4_valleysAt ∈ BG := mem_T (i := 919) (by decide +kernel) rfl
theorem wq_459 : Cond.selects RX4 yX4_valleysAt yX4_valleysAt ∈ BG := mem_P (i := 42) (by decide +kernel) rfl
theorem wq_460 : Cond.code yX4_valleysAt cX4_valleysAt 3 (some (.int)) ∈ BG := mem_T (i := 920) (by decide +kernel) rfl
theorem wq_461 : Cond.methodLink RX4 181 yX4_valleysFaced ∈ BG := mem_T (i := 921) (by decide +kernel) rfl
theorem wq_462 : Cond.instanceMethod yX4_valleysFaced ∈ BG := mem_T (i := 923) (by decide +kernel) rfl
theorem wq_463 : Cond.selects RX4 yX4_valleysFaced yX4_valleysFaced ∈ BG := mem_P (i := 43) (by decide +kernel) rfl
theorem wq_464 : Cond.code yX4_valleysFaced cX4_valleysFaced 3 (some (.int)) ∈ BG := mem_T (i := 924) (by decide +kernel) rfl
theorem wq_465 : Cond.methodLink RX4 184 yX4_putBack ∈ BG := mem_T (i := 932) (by decide +kernel) rfl
theorem wq_466 : Cond.instanceMethod yX4_putBack ∈ BG := mem_T (i := 934) (by decide +kernel) rfl
theorem wq_467 : Cond.selects RX4 yX4_putBack yX4_putBack ∈ BG := mem_P (i := 44) (by decide +kernel) rfl
theorem wq_468 : Cond.code yX4_putBack cX4_putBack 2 (some (.int)) ∈ BG := mem_T (i := 935) (by decide +kernel) rfl
theorem wq_469 : Cond.methodLink RX4 187 yX4_orNone ∈ BG := mem_T (i := 940) (by decide +kernel) rfl
theorem wq_470 : Cond.instanceMethod yX4_orNone ∈ BG := mem_T (i := 942) (by decide +kernel) rfl
theorem wq_471 : Cond.selects RX4 yX4_orNone yX4_orNone ∈ BG := mem_P (i := 45) (by decide +kernel) rfl
theorem wq_472 : Cond.code yX4_orNone cX4_orNone 2 (some (.int)) ∈ BG := mem_T (i := 943) (by decide +kernel) rfl
theorem wq_473 : Cond.methodLink RX4 190 yX4_doMeet ∈ BG := mem_T (i := 957) (by decide +kernel) rfl
theorem wq_474 : Cond.instanceMethod yX4_doMeet ∈ BG := mem_T (i := 959) (by decide +kernel) rfl
theorem wq_475 : Cond.selects RX4 yX4_doMeet yX4_doMeet ∈ BG := mem_P (i := 48) (by decide +kernel) rfl
theorem wq_476 : Cond.code yX4_doMeet cX4_doMeet 3 (some (.boolean)) ∈ BG := mem_T (i := 960) (by decide +kernel) rfl
theorem wq_477 : Cond.methodLink RX4 193 yX4_areTwo ∈ BG := mem_T (i := 949) (by decide +kernel) rfl
theorem wq_478 : Cond.instanceMethod yX4_areTwo ∈ BG := mem_T (i := 951) (by decide +kernel) rfl
theorem wq_479 : Cond.selects RX4 yX4_areTwo yX4_areTwo ∈ BG := mem_P (i := 46) (by decide +kernel) rfl
theorem wq_480 : Cond.code yX4_areTwo cX4_areTwo 3 (some (.boolean)) ∈ BG := mem_T (i := 952) (by decide +kernel) rfl
theorem wq_481 : Cond.methodLink RX4 196 yX4_meetIn ∈ BG := mem_T (i := 953) (by decide +kernel) rfl
theorem wq_482 : Cond.instanceMethod yX4_meetIn ∈ BG := mem_T (i := 955) (by decide +kernel) rfl
theorem wq_483 : Cond.selects RX4 yX4_meetIn yX4_meetIn ∈ BG := mem_P (i := 47) (by decide +kernel) rfl
theorem wq_484 : Cond.code yX4_meetIn cX4_meetIn 5 (some (.int)) ∈ BG := mem_T (i := 956) (by decide +kernel) rfl
theorem wq_485 : Cond.methodLink RX4 200 yX4_isAsAside ∈ BG := mem_T (i := 965) (by decide +kernel) rfl
theorem wq_486 : Cond.instanceMethod yX4_isAsAside ∈ BG := mem_T (i := 967) (by decide +kernel) rfl
theorem wq_487 : Cond.selects RX4 yX4_isAsAside yX4_isAsAside ∈ BG := mem_P (i := 49) (by decide +kernel) rfl
theorem wq_488 : Cond.code yX4_isAsAside cX4_isAsAside 3 (some (.boolean)) ∈ BG := mem_T (i := 968) (by decide +kernel) rfl
theorem wq_489 : Cond.methodLink RX4 204 yX4_isSoon ∈ BG := mem_T (i := 973) (by decide +kernel) rfl
theorem wq_490 : Cond.static yX4_isSoon ∈ BG := mem_T (i := 974) (by decide +kernel) rfl
theorem wq_491 : Cond.code yX4_isSoon cX4_isSoon 1 (some (.boolean)) ∈ BG := mem_T (i := 975) (by decide +kernel) rfl
theorem wq_492 : Cond.constant RX4 207 (-1000007) ∈ BG := mem_T (i := 988) (by decide +kernel) rfl
theorem wq_493 : Cond.methodLink RX4 208 yX4_soonest ∈ BG := mem_T (i := 984) (by decide +kernel) rfl
theorem wq_494 : Cond.instanceMethod yX4_soonest ∈ BG := mem_T (i := 986) (by decide +kernel) rfl
theorem wq_495 : Cond.selects RX4 yX4_soonest yX4_soonest ∈ BG := mem_P (i := 50) (by decide +kernel) rfl
theorem wq_496 : Cond.code yX4_soonest cX4_soonest 11 (some (.int)) ∈ BG := mem_T (i := 987) (by decide +kernel) rfl
theorem wq_497 : Cond.methodLink RX4 211 yX4_isGo ∈ BG := mem_T (i := 1001) (by decide +kernel) rfl
theorem wq_498 : Cond.static yX4_isGo ∈ BG := mem_T (i := 1002) (by decide +kernel) rfl
theorem wq_499 : Cond.code yX4_isGo cX4_isGo 1 (some (.boolean)) ∈ BG := mem_T (i := 1003) (by decide +kernel) rfl
theorem wq_500 : Cond.methodLink RX4 214 yX4_behind ∈ BG := mem_T (i := 1004) (by decide +kernel) rfl
theorem wq_501 : Cond.instanceMethod yX4_behind ∈ BG := mem_T (i := 1006) (by decide +kernel) rfl
theorem wq_502 : Cond.selects RX4 yX4_behind yX4_behind ∈ BG := mem_P (i := 51) (by decide +kernel) rfl
theorem wq_503 : Cond.code yX4_behind cX4_behind 4 (some (.int)) ∈ BG := mem_T (i := 1007) (by decide +kernel) rfl
theorem wq_504 : Cond.methodLink RX4 217 yX4_between ∈ BG := mem_T (i := 1023) (by decide +kernel) rfl
theorem wq_505 : Cond.instanceMethod yX4_between ∈ BG := mem_T (i := 1025) (by decide +kernel) rfl
theorem wq_506 : Cond.selects RX4 yX4_between yX4_between ∈ BG := mem_P (i := 53) (by decide +kernel) rfl
theorem wq_507 : Cond.code yX4_between cX4_between 6 (some (.int)) ∈ BG := mem_T (i := 1026) (by decide +kernel) rfl
theorem wq_508 : Cond.methodLink RX4 220 yX4_areEnds ∈ BG := mem_T (i := 1016) (by decide +kernel) rfl
theorem wq_509 : Cond.static yX4_areEnds ∈ BG := mem_T (i := 1017) (by decide +kernel) rfl
theorem wq_510 : Cond.code yX4_areEnds cX4_areEnds 2 (some (.boolean)) ∈ BG := mem_T (i := 1018) (by decide +kernel) rfl
theorem wq_511 : Cond.methodLink RX4 223 yX4_roadNow ∈ BG := mem_T (i := 1019) (by decide +kernel) rfl
theorem wq_512 : Cond.instanceMethod yX4_roadNow ∈ BG := mem_T (i := 1021) (by decide +kernel) rfl
theorem wq_513 : Cond.selects RX4 yX4_roadNow yX4_roadNow ∈ BG := mem_P (i := 52) (by decide +kernel) rfl
theorem wq_514 : Cond.code yX4_roadNow cX4_roadNow 6 (some (.int)) ∈ BG := mem_T (i := 1022) (by decide +kernel) rfl
theorem wq_515 : Cond.methodLink RX4 226 yX4_climbNow ∈ BG := mem_T (i := 1031) (by decide +kernel) rfl
theorem wq_516 : Cond.instanceMethod yX4_climbNow ∈ BG := mem_T (i := 1033) (by decide +kernel) rfl
theorem wq_517 : Cond.selects RX4 yX4_climbNow yX4_climbNow ∈ BG := mem_P (i := 54) (by decide +kernel) rfl
theorem wq_518 : Cond.code yX4_climbNow cX4_climbNow 3 (some (.int)) ∈ BG := mem_T (i := 1034) (by decide +kernel) rfl
theorem wq_519 : Cond.methodLink RX4 229 yX4_openIn ∈ BG := mem_T (i := 1039) (by decide +kernel) rfl
theorem wq_520 : Cond.instanceMethod yX4_openIn ∈ BG := mem_T (i := 1041) (by decide +kernel) rfl
theorem wq_521 : Cond.selects RX4 yX4_openIn yX4_openIn ∈ BG := mem_P (i := 55) (by decide +kernel) rfl
theorem wq_522 : Cond.code yX4_openIn cX4_openIn 7 (some (.int)) ∈ BG := mem_T (i := 1042) (by decide +kernel) rfl
theorem wq_523 : Cond.methodLink RX4 233 yX4_isSheet ∈ BG := mem_T (i := 1055) (by decide +kernel) rfl
theorem wq_524 : Cond.static yX4_isSheet ∈ BG := mem_T (i := 1056) (by decide +kernel) rfl
theorem wq_525 : Cond.code yX4_isSheet cX4_isSheet 1 (some (.boolean)) ∈ BG := mem_T (i := 1057) (by decide +kernel) rfl
theorem wq_526 : Cond.fieldLink RX4 63 "HillDanceModel" "widths" "[I" ∈ BG := mem_T (i := 732) (by decide +kernel) rfl
theorem wq_527 : Cond.constant RX4 236 (-1000006) ∈ BG := mem_T (i := 1058) (by decide +kernel) rfl
theorem wq_528 : Cond.fieldLink RX4 66 "HillDanceModel" "sizes" "[I" ∈ BG := mem_T (i := 733) (by decide +kernel) rfl
theorem wq_529 : Cond.fieldLink RX4 69 "HillDanceModel" "numbers" "[I" ∈ BG := mem_T (i := 734) (by decide +kernel) rfl
theorem wq_530 : Cond.methodLink RX4 237 yX4_facedSo ∈ BG := mem_T (i := 1063) (by decide +kernel) rfl
theorem wq_531 : Cond.instanceMethod yX4_facedSo ∈ BG := mem_T (i := 1065) (by decide +kernel) rfl
theorem wq_532 : Cond.selects RX4 yX4_facedSo yX4_facedSo ∈ BG := mem_P (i := 58) (by decide +kernel) rfl
theorem wq_533 : Cond.code yX4_facedSo cX4_facedSo 6 (some (.boolean)) ∈ BG := mem_T (i := 1066) (by decide +kernel) rfl
theorem wq_534 : Cond.methodLink RX4 240 yX4_lacks ∈ BG := mem_T (i := 1051) (by decide +kernel) rfl
theorem wq_535 : Cond.instanceMethod yX4_lacks ∈ BG := mem_T (i := 1053) (by decide +kernel) rfl
theorem wq_536 : Cond.selects RX4 yX4_lacks yX4_lacks ∈ BG := mem_P (i := 56) (by decide +kernel) rfl
theorem wq_537 : Cond.code yX4_lacks cX4_lacks 3 (some (.int)) ∈ BG := mem_T (i := 1054) (by decide +kernel) rfl
theorem wq_538 : Cond.methodLink RX4 243 yX4_fitting ∈ BG := mem_T (i := 1059) (by decide +kernel) rfl
theorem wq_539 : Cond.instanceMethod yX4_fitting ∈ BG := mem_T (i := 1061) (by decide +kernel) rfl
theorem wq_540 : Cond.selects RX4 yX4_fitting yX4_fitting ∈ BG := mem_P (i := 57) (by decide +kernel) rfl
theorem wq_541 : Cond.code yX4_fitting cX4_fitting 9 (some (.int)) ∈ BG := mem_T (i := 1062) (by decide +kernel) rfl
theorem wq_542 : Cond.constant RX4 246 (1103515245) ∈ BG := mem_T (i := 1083) (by decide +kernel) rfl
theorem wq_543 : Cond.methodLink RX4 247 yX4_drawn ∈ BG := mem_T (i := 1079) (by decide +kernel) rfl
theorem wq_544 : Cond.instanceMethod yX4_drawn ∈ BG := mem_T (i := 1081) (by decide +kernel) rfl
theorem wq_545 : Cond.selects RX4 yX4_drawn yX4_drawn ∈ BG := mem_P (i := 59) (by decide +kernel) rfl
theorem wq_546 : Cond.code yX4_drawn cX4_drawn 1 (some (.int)) ∈ BG := mem_T (i := 1082) (by decide +kernel) rfl
theorem wq_547 : Cond.fieldLink RX4 250 "HillDanceModel" "taped" "I" ∈ BG := mem_T (i := 722) (by decide +kernel) rfl
theorem wq_548 : Cond.fieldLink RX4 37 "HillDanceModel" "tape" "[I" ∈ BG := mem_T (i := 721) (by decide +kernel) rfl
theorem wq_549 : Cond.fieldLink RX4 254 "HillDanceModel" "ends" "I" ∈ BG := mem_T (i := 724) (by decide +kernel) rfl
theorem wq_550 : Cond.fieldLink RX4 257 "HillDanceModel" "begins" "I" ∈ BG := mem_T (i := 723) (by decide +kernel) rfl
theorem wq_551 : Cond.methodLink RX4 260 yX4_byteAt ∈ BG := mem_T (i := 1108) (by decide +kernel) rfl
theorem wq_552 : Cond.instanceMethod yX4_byteAt ∈ BG := mem_T (i := 1110) (by decide +kernel) rfl
theorem wq_553 : Cond.selects RX4 yX4_byteAt yX4_byteAt ∈ BG := mem_P (i := 61) (by decide +kernel) rfl
theorem wq_554 : Cond.code yX4_byteAt cX4_byteAt 2 (some (.int)) ∈ BG := mem_T (i := 1111) (by decide +kernel) rfl
theorem wq_555 : Cond.fieldLink RX4 263 "HillDanceModel" "value" "I" ∈ BG := mem_T (i := 726) (by decide +kernel) rfl
theorem wq_556 : Cond.fieldLink RX4 266 "HillDanceModel" "sort" "I" ∈ BG := mem_T (i := 725) (by decide +kernel) rfl
theorem wq_557 : Cond.methodLink RX4 269 yJ0_length_8abf5 ∈ BG := mem_T (i := 1124) (by decide +kernel) rfl
theorem wq_558 : Cond.methodLink RX4 272 yJ0_charAt_5068e ∈ BG := mem_T (i := 1125) (by decide +kernel) rfl
theorem wq_559 : Cond.fieldLink RX4 276 "HillDanceModel" "isWrong" "Z" ∈ BG := mem_T (i := 727) (by decide +kernel) rfl
theorem wq_560 : Cond.methodLink RX4 280 yX4_next ∈ BG := mem_T (i := 1104) (by decide +kernel) rfl
theorem wq_561 : Cond.instanceMethod yX4_next ∈ BG := mem_T (i := 1106) (by decide +kernel) rfl
theorem wq_562 : Cond.selects RX4 yX4_next yX4_next ∈ BG := mem_P (i := 60) (by decide +kernel) rfl
theorem wq_563 : Cond.code yX4_next cX4_next 2 none ∈ BG := mem_T (i := 1107) (by decide +kernel) rfl
theorem wq_564 : Cond.methodLink RX4 283 yX4_must ∈ BG := mem_T (i := 1126) (by decide +kernel) rfl
theorem wq_565 : Cond.instanceMethod yX4_must ∈ BG := mem_T (i := 1128) (by decide +kernel) rfl
theorem wq_566 : Cond.selects RX4 yX4_must yX4_must ∈ BG := mem_P (i := 65) (by decide +kernel) rfl
theorem wq_567 : Cond.code yX4_must cX4_must 2 none ∈ BG := mem_T (i := 1129) (by decide +kernel) rfl
theorem wq_568 : Cond.fieldLink RX4 287 "HillDanceModel" "itemMany" "I" ∈ BG := mem_T (i := 730) (by decide +kernel) rfl
theorem wq_569 : Cond.fieldLink RX4 60 "HillDanceModel" "items" "[I" ∈ BG := mem_T (i := 729) (by decide +kernel) rfl
theorem wq_570 : Cond.fieldLink RX4 56 "HillDanceModel" "kindNames" "[Ljava/lang/String;" ∈ BG := mem_T (i := 728) (by decide +kernel) rfl
theorem wq_571 : Cond.methodLink RX4 290 yX4_isWord ∈ BG := mem_T (i := 1120) (by decide +kernel) rfl
theorem wq_572 : Cond.instanceMethod yX4_isWord ∈ BG := mem_T (i := 1122) (by decide +kernel) rfl
theorem wq_573 : Cond.selects RX4 yX4_isWord yX4_isWord ∈ BG := mem_P (i := 64) (by decide +kernel) rfl
theorem wq_574 : Cond.code yX4_isWord cX4_isWord 4 (some (.boolean)) ∈ BG := mem_T (i := 1123) (by decide +kernel) rfl
theorem wq_575 : Cond.methodLink RX4 294 yX4_number ∈ BG := mem_T (i := 1135) (by decide +kernel) rfl
theorem wq_576 : Cond.instanceMethod yX4_number ∈ BG := mem_T (i := 1137) (by decide +kernel) rfl
theorem wq_577 : Cond.selects RX4 yX4_number yX4_number ∈ BG := mem_P (i := 67) (by decide +kernel) rfl
theorem wq_578 : Cond.code yX4_number cX4_number 4 (some (.int)) ∈ BG := mem_T (i := 1138) (by decide +kernel) rfl
theorem wq_579 : Cond.methodLink RX4 299 yX4_kindTold ∈ BG := mem_T (i := 1116) (by decide +kernel) rfl
theorem wq_580 : Cond.instanceMethod yX4_kindTold ∈ BG := mem_T (i := 1118) (by decide +kernel) rfl
theorem wq_581 : Cond.selects RX4 yX4_kindTold yX4_kindTold ∈ BG := mem_P (i := 63) (by decide +kernel) rfl
theorem wq_582 : Cond.code yX4_kindTold cX4_kindTold 3 (some (.int)) ∈ BG := mem_T (i := 1119) (by decide +kernel) rfl
theorem wq_583 : Cond.methodLink RX4 317 yX4_addItem ∈ BG := mem_T (i := 1146) (by decide +kernel) rfl
theorem wq_584 : Cond.instanceMethod yX4_addItem ∈ BG := mem_T (i := 1148) (by decide +kernel) rfl
theorem wq_585 : Cond.selects RX4 yX4_addItem yX4_addItem ∈ BG := mem_P (i := 69) (by decide +kernel) rfl
theorem wq_586 : Cond.code yX4_addItem cX4_addItem 7 none ∈ BG := mem_T (i := 1149) (by decide +kernel) rfl
theorem wq_587 : Cond.fieldLink RX4 302 "HillDanceModel" "hillThen" "I" ∈ BG := mem_T (i := 731) (by decide +kernel) rfl
theorem wq_588 : Cond.methodLink RX4 306 yX4_afterWord ∈ BG := mem_T (i := 1131) (by decide +kernel) rfl
theorem wq_589 : Cond.instanceMethod yX4_afterWord ∈ BG := mem_T (i := 1133) (by decide +kernel) rfl
theorem wq_590 : Cond.selects RX4 yX4_afterWord yX4_afterWord ∈ BG := mem_P (i := 66) (by decide +kernel) rfl
theorem wq_591 : Cond.code yX4_afterWord cX4_afterWord 4 (some (.int)) ∈ BG := mem_T (i := 1134) (by decide +kernel) rfl
theorem wq_592 : Cond.methodLink RX4 310 yX4_stepTold ∈ BG := mem_T (i := 1139) (by decide +kernel) rfl
theorem wq_593 : Cond.instanceMethod yX4_stepTold ∈ BG := mem_T (i := 1141) (by decide +kernel) rfl
theorem wq_594 : Cond.selects RX4 yX4_stepTold yX4_stepTold ∈ BG := mem_P (i := 68) (by decide +kernel) rfl
theorem wq_595 : Cond.code yX4_stepTold cX4_stepTold 3 (some (.int)) ∈ BG := mem_T (i := 1142) (by decide +kernel) rfl
theorem wq_596 : Cond.methodLink RX4 323 yX4_readItem ∈ BG := mem_T (i := 1112) (by decide +kernel) rfl
theorem wq_597 : Cond.instanceMethod yX4_readItem ∈ BG := mem_T (i := 1114) (by decide +kernel) rfl
theorem wq_598 : Cond.selects RX4 yX4_readItem yX4_readItem ∈ BG := mem_P (i := 62) (by decide +kernel) rfl
theorem wq_599 : Cond.code yX4_readItem cX4_readItem 5 none ∈ BG := mem_T (i := 1115) (by decide +kernel) rfl
theorem wq_600 : Cond.methodLink RX4 326 yX4_isToldSo ∈ BG := mem_T (i := 1151) (by decide +kernel) rfl
theorem wq_601 : Cond.instanceMethod yX4_isToldSo ∈ BG := mem_T (i := 1153) (by decide +kernel) rfl
theorem wq_602 : Cond.selects RX4 yX4_isToldSo yX4_isToldSo ∈ BG := mem_P (i := 70) (by decide +kernel) rfl
theorem wq_603 : Cond.code yX4_isToldSo cX4_isToldSo 3 (some (.int)) ∈ BG := mem_T (i := 1154) (by decide +kernel) rfl
theorem wq_604 : Cond.methodLink RX4 329 yX4_isSpot ∈ BG := mem_T (i := 1159) (by decide +kernel) rfl
theorem wq_605 : Cond.static yX4_isSpot ∈ BG := mem_T (i := 1160) (by decide +kernel) rfl
theorem wq_606 : Cond.code yX4_isSpot cX4_isSpot 1 (some (.boolean)) ∈ BG := mem_T (i := 1161) (by decide +kernel) rfl
theorem wq_607 : Cond.methodLink RX4 339 yX4_above ∈ BG := mem_T (i := 1169) (by decide +kernel) rfl
theorem wq_608 : Cond.static yX4_above ∈ BG := mem_T (i := 1170) (by decide +kernel) rfl
theorem wq_609 : Cond.code yX4_above cX4_above 1 (some (.int)) ∈ BG := mem_T (i := 1171) (by decide +kernel) rfl
theorem wq_610 : Cond.methodLink RX4 332 yX4_isUnder ∈ BG := mem_T (i := 1166) (by decide +kernel) rfl
theorem wq_611 : Cond.static yX4_isUnder ∈ BG := mem_T (i := 1167) (by decide +kernel) rfl
theorem wq_612 : Cond.code yX4_isUnder cX4_isUnder 3 (some (.boolean)) ∈ BG := mem_T (i := 1168) (by decide +kernel) rfl
theorem wq_613 : Cond.constant RX4 335 (-1000003) ∈ BG := mem_T (i := 1172) (by decide +kernel) rfl
theorem wq_614 : Cond.methodLink RX4 336 yX4_cutTo ∈ BG := mem_T (i := 1181) (by decide +kernel) rfl
theorem wq_615 : Cond.static yX4_cutTo ∈ BG := mem_T (i := 1182) (by decide +kernel) rfl
theorem wq_616 : Cond.code yX4_cutTo cX4_cutTo 2 (some (.int)) ∈ BG := mem_T (i := 1183) (by decide +kernel) rfl
theorem wq_617 : Cond.fieldLink RX4 72 "HillDanceModel" "moved" "[I" ∈ BG := mem_T (i := 735) (by decide +kernel) rfl
theorem wq_618 : Cond.methodLink RX4 342 yX4_lacksSheet ∈ BG := mem_T (i := 1192) (by decide +kernel) rfl
theorem wq_619 : Cond.instanceMethod yX4_lacksSheet ∈ BG := mem_T (i := 1194) (by decide +kernel) rfl
theorem wq_620 : Cond.selects RX4 yX4_lacksSheet yX4_lacksSheet ∈ BG := mem_P (i := 71) (by decide +kernel) rfl
theorem wq_621 : Cond.code yX4_lacksSheet cX4_lacksSheet 2 (some (.int)) ∈ BG := mem_T (i := 1195) (by decide +kernel) rfl
theorem wq_622 : Cond.fieldLink RX4 13 "HillDanceModel" "kept" "[I" ∈ BG := mem_T (i := 712) (by decide +kernel) rfl
theorem wq_623 : Cond.fieldLink RX4 345 "HillDanceModel" "isKept" "Z" ∈ BG := mem_T (i := 714) (by decide +kernel) rfl
theorem wq_624 : Cond.fieldLink RJ0 38 "java/lang/String" "COMPACT_STRINGS" "Z" ∈ BG := mem_T (i := 554) (by decide +kernel) rfl
theorem wq_625 : Cond.fieldLink RJ0 1053 "jdk/internal/util/Preconditions" "SIOOBE_FORMATTER" "Ljava/util/function/BiFunction;" ∈ BG := mem_T (i := 570) (by decide +kernel) rfl
theorem wq_626 : Cond.fieldLink RJ0 9 "java/lang/String" "value" "[B" ∈ BG := mem_T (i := 1220) (by decide +kernel) rfl
theorem wq_627 : Cond.fieldLink RJ0 15 "java/lang/String" "coder" "B" ∈ BG := mem_T (i := 1221) (by decide +kernel) rfl
theorem wq_628 : Cond.methodLink RJ0 335 yJ0_coder_7d493 ∈ BG := mem_T (i := 550) (by decide +kernel) rfl
theorem wq_629 : Cond.instanceMethod yJ0_coder_7d493 ∈ BG := mem_T (i := 551) (by decide +kernel) rfl
theorem wq_630 : Cond.selects RJ0 yJ0_coder_7d493 yJ0_coder_7d493 ∈ BG := mem_T (i := 552) (by decide +kernel) rfl
theorem wq_631 : Cond.code yJ0_coder_7d493 cJ0_coder_7d493 1 (some (.byte)) ∈ BG := mem_T (i := 553) (by decide +kernel) rfl
theorem wq_632 : Cond.methodLink RJ0 492 yJ0_isLatin1_aae02 ∈ BG := mem_T (i := 560) (by decide +kernel) rfl
theorem wq_633 : Cond.instanceMethod yJ0_isLatin1_aae02 ∈ BG := mem_T (i := 561) (by decide +kernel) rfl
theorem wq_634 : Cond.selects RJ0 yJ0_isLatin1_aae02 yJ0_isLatin1_aae02 ∈ BG := mem_T (i := 562) (by decide +kernel) rfl
theorem wq_635 : Cond.code yJ0_isLatin1_aae02 cJ0_isLatin1_aae02 1 (some (.boolean)) ∈ BG := mem_T (i := 563) (by decide +kernel) rfl
theorem wq_636 : Cond.methodLink RJ0 495 yJ1_charAt_3b067 ∈ BG := mem_T (i := 564) (by decide +kernel) rfl
theorem wq_637 : Cond.static yJ1_charAt_3b067 ∈ BG := mem_T (i := 565) (by decide +kernel) rfl
theorem wq_638 : Cond.initialized RJ1 ∈ BG := mem_T (i := 11) (by decide +kernel) rfl
theorem wq_639 : Cond.code yJ1_charAt_3b067 cJ1_charAt_3b067 2 (some (.char)) ∈ BG := mem_T (i := 566) (by decide +kernel) rfl
theorem wq_640 : Cond.methodLink RJ1 9 yJ0_checkIndex_df160 ∈ BG := mem_T (i := 567) (by decide +kernel) rfl
theorem wq_641 : Cond.static yJ0_checkIndex_df160 ∈ BG := mem_T (i := 568) (by decide +kernel) rfl
theorem wq_642 : Cond.code yJ0_checkIndex_df160 cJ0_checkIndex_df160 2 none ∈ BG := mem_T (i := 569) (by decide +kernel) rfl
theorem wq_643 : Cond.methodLink RJ0 1059 yJ3_checkIndex_8e157 ∈ BG := mem_T (i := 572) (by decide +kernel) rfl
theorem wq_644 : Cond.static yJ3_checkIndex_8e157 ∈ BG := mem_T (i := 573) (by decide +kernel) rfl
theorem wq_645 : Cond.initialized RJ3 ∈ BG := mem_T (i := 12) (by decide +kernel) rfl
theorem wq_646 : Cond.code yJ3_checkIndex_8e157 cJ3_checkIndex_8e157 3 (some (.int)) ∈ BG := mem_T (i := 574) (by decide +kernel) rfl
theorem wm_X0_126 : Cond.methodLink RX0 126 Lib.Math.min.name ∈ BG := mem_T (i := 533) (by decide +kernel) rfl
theorem wa_X2_61 : Cond.methodLink RX2 61 arraycopyName ∈ BG := mem_T (i := 330) (by decide +kernel) rfl
theorem wm_X2_90 : Cond.methodLink RX2 90 Lib.Math.min.name ∈ BG := mem_T (i := 280) (by decide +kernel) rfl
theorem wm_X2_122 : Cond.methodLink RX2 122 Lib.Math.max.name ∈ BG := mem_T (i := 277) (by decide +kernel) rfl
theorem wm_X3_170 : Cond.methodLink RX3 170 Lib.Math.min.name ∈ BG := mem_T (i := 415) (by decide +kernel) rfl
theorem wa_X3_236 : Cond.methodLink RX3 236 arraycopyName ∈ BG := mem_T (i := 663) (by decide +kernel) rfl
theorem wm_X4_148 : Cond.methodLink RX4 148 Lib.Math.max.name ∈ BG := mem_T (i := 889) (by decide +kernel) rfl
theorem wm_X4_159 : Cond.methodLink RX4 159 Lib.Math.min.name ∈ BG := mem_T (i := 904) (by decide +kernel) rfl
theorem wl_X0_117 : WlS RX0 117 yX0_isDigit cX0_isDigit 1 (some (.boolean)) 1 := ⟨wq_4, wq_5, wq_6, wq_7, ⟨by decide +kernel, by decide +kernel, by decide +kernel⟩, by decide⟩
theorem wl_X0_111 : WlS RX0 111 yX0_isLetter cX0_isLetter 1 (some (.boolean)) 1 := ⟨wq_8, wq_9, wq_6, wq_10, ⟨by decide +kernel, by decide +kernel, by decide +kernel⟩, by decide⟩
theorem wl_X0_123 : WlS RX0 123 yX0_signOf cX0_signOf 1 (some (.int)) 1 := ⟨wq_12, wq_13, wq_6, wq_14, ⟨by decide +kernel, by decide +kernel, by decide +kernel⟩, by decide⟩
theorem wl_X0_120 : WlV RX0 120 RX0 yX0_takeDigits cX0_takeDigits 1 none 0 := ⟨wq_16, wq_17, wq_18, wq_6, wq_19, ⟨by decide +kernel, by decide +kernel, by decide +kernel⟩, by decide⟩
theorem wl_X0_114 : WlV RX0 114 RX0 yX0_takeLetters cX0_takeLetters 1 none 0 := ⟨wq_20, wq_21, wq_22, wq_6, wq_23, ⟨by decide +kernel, by decide +kernel, by decide +kernel⟩, by decide⟩
theorem wl_X0_103 : WlV RX0 103 RJ0 yJ0_length_8abf5 cJ0_length_8abf5 1 (some (.int)) 0 := ⟨wq_24, wq_25, wq_26, wq_27, wq_28, ⟨by decide +kernel, by decide +kernel, by decide +kernel⟩, by decide⟩
theorem wl_X0_107 : WlV RX0 107 RJ0 yJ0_charAt_5068e cJ0_charAt_5068e 2 (some (.char)) 1 := ⟨wq_29, wq_30, wq_31, wq_27, wq_32, ⟨by decide +kernel, by decide +kernel, by decide +kernel⟩, by decide⟩
theorem wl_X0_85 : WlS RX0 85 yX0_wordOf cX0_wordOf 1 (some (.object "java/lang/String")) 1 := ⟨wq_33, wq_34, wq_6, wq_35, ⟨by decide +kernel, by decide +kernel, by decide +kernel⟩, by decide⟩
theorem wl_X0_37 : WlV RX0 37 RX0 yX0_isWord cX0_isWord 3 (some (.boolean)) 1 := ⟨wq_36, wq_37, wq_38, wq_6, wq_39, ⟨by decide +kernel, by decide +kernel, by decide +kernel⟩, by decide⟩
theorem wl_X2_67 : WlS RX2 67 yJ7_fill_53178 cJ7_fill_53178 4 none 2 := ⟨wq_41, wq_42, wq_43, wq_44, ⟨by decide +kernel, by decide +kernel, by decide +kernel⟩, by decide⟩
theorem wl_X2_55 : WlV RX2 55 RX2 yX2_lookAround cX2_lookAround 3 none 0 := ⟨wq_52, wq_53, wq_54, wq_55, wq_56, ⟨by decide +kernel, by decide +kernel, by decide +kernel⟩, by decide⟩
theorem wl_X0_22 : WlV RX0 22 RX0 yX0_advance cX0_advance 1 none 0 := ⟨wq_60, wq_61, wq_62, wq_6, wq_63, ⟨by decide +kernel, by decide +kernel, by decide +kernel⟩, by decide⟩
theorem wl_X0_77 : WlN RX0 77 yX3_mostOf cX3_mostOf 1 (some (.int)) 1 := ⟨by decide +kernel, wq_64, wq_65, wq_66, ⟨by decide +kernel, by decide +kernel, by decide +kernel⟩, by decide⟩
theorem wl_X0_41 : WlV RX0 41 RX0 yX0_isNumberTo cX0_isNumberTo 2 (some (.boolean)) 1 := ⟨wq_67, wq_68, wq_69, wq_6, wq_70, ⟨by decide +kernel, by decide +kernel, by decide +kernel⟩, by decide⟩
theorem wl_X0_81 : WlV RX0 81 RX2 yX2_setTrait cX2_setTrait 4 none 3 := ⟨wq_71, wq_72, wq_73, wq_55, wq_74, ⟨by decide +kernel, by decide +kernel, by decide +kernel⟩, by decide⟩
theorem wl_X0_53 : WlV RX0 53 RX0 yX0_kindTold cX0_kindTold 2 (some (.int)) 0 := ⟨wq_75, wq_76, wq_77, wq_6, wq_78, ⟨by decide +kernel, by decide +kernel, by decide +kernel⟩, by decide⟩
theorem wl_X0_57 : WlV RX0 57 RX2 yX2_isCrowded cX2_isCrowded 1 (some (.boolean)) 0 := ⟨wq_79, wq_80, wq_81, wq_55, wq_82, ⟨by decide +kernel, by decide +kernel, by decide +kernel⟩, by decide⟩
theorem wl_X0_61 : WlV RX0 61 RX2 yX2_raise cX2_raise 4 (some (.int)) 2 := ⟨wq_83, wq_84, wq_85, wq_55, wq_86, ⟨by decide +kernel, by decide +kernel, by decide +kernel⟩, by decide⟩
theorem wl_X0_67 : WlV RX0 67 RX0 yX0_readTrait cX0_readTrait 6 (some (.boolean)) 4 := ⟨wq_87, wq_88, wq_89, wq_6, wq_90, ⟨by decide +kernel, by decide +kernel, by decide +kernel⟩, by decide⟩
theorem wl_X0_25 : WlV RX0 25 RX0 yX0_readItem cX0_readItem 4 (some (.boolean)) 1 := ⟨wq_91, wq_92, wq_93, wq_6, wq_94, ⟨by decide +kernel, by decide +kernel, by decide +kernel⟩, by decide⟩
theorem wl_X1_22 : WlS RX1 22 yJ7_fill_53178 cJ7_fill_53178 4 none 2 := ⟨wq_98, wq_42, wq_43, wq_44, ⟨by decide +kernel, by decide +kernel, by decide +kernel⟩, by decide⟩
theorem wl_X2_76 : WlS RX2 76 yX2_valleysIn cX2_valleysIn 3 (some (.int)) 1 := ⟨wq_103, wq_104, wq_55, wq_105, ⟨by decide +kernel, by decide +kernel, by decide +kernel⟩, by decide⟩
theorem wl_X2_80 : WlV RX2 80 RX2 yX2_sumOf cX2_sumOf 4 (some (.int)) 1 := ⟨wq_106, wq_107, wq_108, wq_55, wq_109, ⟨by decide +kernel, by decide +kernel, by decide +kernel⟩, by decide⟩
theorem wl_X3_256 : WlS RX3 256 yJ9_floorMod_7cf53 cJ9_floorMod_7cf53 3 (some (.int)) 2 := ⟨wq_110, wq_111, wq_112, wq_113, ⟨by decide +kernel, by decide +kernel, by decide +kernel⟩, by decide⟩
theorem wl_X2_83 : WlN RX2 83 yX3_waysOn cX3_waysOn 2 (some (.int)) 2 := ⟨by decide +kernel, wq_114, wq_65, wq_115, ⟨by decide +kernel, by decide +kernel, by decide +kernel⟩, by decide⟩
theorem wl_X2_87 : WlV RX2 87 RX2 yX2_climbOn cX2_climbOn 7 (some (.int)) 2 := ⟨wq_116, wq_117, wq_118, wq_55, wq_119, ⟨by decide +kernel, by decide +kernel, by decide +kernel⟩, by decide⟩
theorem wl_X2_99 : WlV RX2 99 RX2 yX2_partnerMoves cX2_partnerMoves 2 (some (.int)) 1 := ⟨wq_123, wq_124, wq_125, wq_55, wq_126, ⟨by decide +kernel, by decide +kernel, by decide +kernel⟩, by decide⟩
theorem wl_X2_105 : WlS RX2 105 yJ6_bitCount_0f7a4 cJ6_bitCount_0f7a4 1 (some (.int)) 1 := ⟨wq_127, wq_128, wq_129, wq_130, ⟨by decide +kernel, by decide +kernel, by decide +kernel⟩, by decide⟩
theorem wl_X2_102 : WlV RX2 102 RX2 yX2_twinMoves cX2_twinMoves 2 (some (.int)) 1 := ⟨wq_131, wq_132, wq_133, wq_55, wq_134, ⟨by decide +kernel, by decide +kernel, by decide +kernel⟩, by decide⟩
theorem wl_X2_95 : WlV RX2 95 RX2 yX2_tallOf cX2_tallOf 2 (some (.int)) 1 := ⟨wq_135, wq_136, wq_137, wq_55, wq_138, ⟨by decide +kernel, by decide +kernel, by decide +kernel⟩, by decide⟩
theorem wl_X2_113 : WlV RX2 113 RX2 yX2_movesOf cX2_movesOf 2 (some (.int)) 1 := ⟨wq_140, wq_141, wq_142, wq_55, wq_143, ⟨by decide +kernel, by decide +kernel, by decide +kernel⟩, by decide⟩
theorem wl_X2_116 : WlV RX2 116 RX2 yX2_turnsOf cX2_turnsOf 2 (some (.int)) 1 := ⟨wq_144, wq_145, wq_146, wq_55, wq_147, ⟨by decide +kernel, by decide +kernel, by decide +kernel⟩, by decide⟩
theorem wl_X2_125 : WlS RX2 125 yJ9_floorMod_7cf53 cJ9_floorMod_7cf53 3 (some (.int)) 2 := ⟨wq_148, wq_111, wq_112, wq_113, ⟨by decide +kernel, by decide +kernel, by decide +kernel⟩, by decide⟩
theorem wl_X2_119 : WlV RX2 119 RX2 yX2_sinksOf cX2_sinksOf 2 (some (.int)) 1 := ⟨wq_149, wq_150, wq_151, wq_55, wq_152, ⟨by decide +kernel, by decide +kernel, by decide +kernel⟩, by decide⟩
theorem wl_X2_110 : WlV RX2 110 RX2 yX2_passAge cX2_passAge 4 none 0 := ⟨wq_153, wq_154, wq_155, wq_55, wq_156, ⟨by decide +kernel, by decide +kernel, by decide +kernel⟩, by decide⟩
theorem wl_X2_130 : WlV RX2 130 RX2 yX2_draw cX2_draw 1 (some (.int)) 0 := ⟨wq_158, wq_159, wq_160, wq_55, wq_161, ⟨by decide +kernel, by decide +kernel, by decide +kernel⟩, by decide⟩
theorem wl_X2_134 : WlV RX2 134 RX2 yX2_lacks cX2_lacks 2 (some (.boolean)) 1 := ⟨wq_162, wq_163, wq_164, wq_55, wq_165, ⟨by decide +kernel, by decide +kernel, by decide +kernel⟩, by decide⟩
theorem wl_X2_138 : WlV RX2 138 RX2 yX2_setTrait cX2_setTrait 4 none 3 := ⟨wq_166, wq_72, wq_73, wq_55, wq_74, ⟨by decide +kernel, by decide +kernel, by decide +kernel⟩, by decide⟩
theorem wl_X3_40 : WlS RX3 40 yX3_isOutside cX3_isOutside 3 (some (.boolean)) 3 := ⟨wq_169, wq_170, wq_65, wq_171, ⟨by decide +kernel, by decide +kernel, by decide +kernel⟩, by decide⟩
theorem wl_X3_44 : WlV RX3 44 RX3 yX3_finding cX3_finding 2 (some (.int)) 1 := ⟨wq_173, wq_174, wq_175, wq_65, wq_176, ⟨by decide +kernel, by decide +kernel, by decide +kernel⟩, by decide⟩
theorem wl_X3_52 : WlS RX3 52 yX3_isNoValley cX3_isNoValley 1 (some (.boolean)) 1 := ⟨wq_177, wq_178, wq_65, wq_179, ⟨by decide +kernel, by decide +kernel, by decide +kernel⟩, by decide⟩
theorem wl_X3_56 : WlV RX3 56 RX2 yX2_isCrowded cX2_isCrowded 1 (some (.boolean)) 0 := ⟨wq_180, wq_80, wq_81, wq_55, wq_82, ⟨by decide +kernel, by decide +kernel, by decide +kernel⟩, by decide⟩
theorem wl_X3_60 : WlV RX3 60 RX2 yX2_raise cX2_raise 4 (some (.int)) 2 := ⟨wq_181, wq_84, wq_85, wq_55, wq_86, ⟨by decide +kernel, by decide +kernel, by decide +kernel⟩, by decide⟩
theorem wl_X3_64 : WlV RX3 64 RX2 yX2_lacks cX2_lacks 2 (some (.boolean)) 1 := ⟨wq_182, wq_163, wq_164, wq_55, wq_165, ⟨by decide +kernel, by decide +kernel, by decide +kernel⟩, by decide⟩
theorem wl_X3_67 : WlV RX3 67 RX2 yX2_movesOf cX2_movesOf 2 (some (.int)) 1 := ⟨wq_183, wq_141, wq_142, wq_55, wq_143, ⟨by decide +kernel, by decide +kernel, by decide +kernel⟩, by decide⟩
theorem wl_X3_70 : WlV RX3 70 RX2 yX2_turnsOf cX2_turnsOf 2 (some (.int)) 1 := ⟨wq_184, wq_145, wq_146, wq_55, wq_147, ⟨by decide +kernel, by decide +kernel, by decide +kernel⟩, by decide⟩
theorem wl_X3_73 : WlV RX3 73 RX2 yX2_sinksOf cX2_sinksOf 2 (some (.int)) 1 := ⟨wq_185, wq_150, wq_151, wq_55, wq_152, ⟨by decide +kernel, by decide +kernel, by decide +kernel⟩, by decide⟩
theorem wl_X3_76 : WlV RX3 76 RX2 yX2_meetsOf cX2_meetsOf 2 (some (.int)) 1 := ⟨wq_186, wq_187, wq_188, wq_55, wq_189, ⟨by decide +kernel, by decide +kernel, by decide +kernel⟩, by decide⟩
theorem wl_X3_79 : WlV RX3 79 RX2 yX2_trait cX2_trait 3 (some (.int)) 2 := ⟨wq_190, wq_191, wq_192, wq_55, wq_193, ⟨by decide +kernel, by decide +kernel, by decide +kernel⟩, by decide⟩
theorem wl_X3_82 : WlS RX3 82 yX3_leastOf cX3_leastOf 1 (some (.int)) 1 := ⟨wq_194, wq_195, wq_65, wq_196, ⟨by decide +kernel, by decide +kernel, by decide +kernel⟩, by decide⟩
theorem wl_X3_85 : WlS RX3 85 yX3_mostOf cX3_mostOf 1 (some (.int)) 1 := ⟨wq_197, wq_64, wq_65, wq_66, ⟨by decide +kernel, by decide +kernel, by decide +kernel⟩, by decide⟩
theorem wl_X3_88 : WlV RX3 88 RX2 yX2_setTrait cX2_setTrait 4 none 3 := ⟨wq_198, wq_72, wq_73, wq_55, wq_74, ⟨by decide +kernel, by decide +kernel, by decide +kernel⟩, by decide⟩
theorem wl_X3_92 : WlV RX3 92 RX2 yX2_standingAt cX2_standingAt 2 (some (.int)) 1 := ⟨wq_199, wq_200, wq_201, wq_55, wq_202, ⟨by decide +kernel, by decide +kernel, by decide +kernel⟩, by decide⟩
theorem wl_X3_95 : WlV RX3 95 RX2 yX2_facing cX2_facing 2 (some (.int)) 1 := ⟨wq_203, wq_204, wq_205, wq_55, wq_206, ⟨by decide +kernel, by decide +kernel, by decide +kernel⟩, by decide⟩
theorem wl_X3_98 : WlV RX3 98 RX2 yX2_highestAt cX2_highestAt 4 (some (.int)) 1 := ⟨wq_207, wq_208, wq_209, wq_55, wq_210, ⟨by decide +kernel, by decide +kernel, by decide +kernel⟩, by decide⟩
theorem wl_X3_105 : WlV RX3 105 RX2 yX2_passAges cX2_passAges 3 none 1 := ⟨wq_212, wq_213, wq_214, wq_55, wq_215, ⟨by decide +kernel, by decide +kernel, by decide +kernel⟩, by decide⟩
theorem wl_X3_109 : WlV RX3 109 RX2 yX2_meeting cX2_meeting 3 (some (.int)) 0 := ⟨wq_216, wq_217, wq_218, wq_55, wq_219, ⟨by decide +kernel, by decide +kernel, by decide +kernel⟩, by decide⟩
theorem wl_X3_113 : WlS RX3 113 yJ6_bitCount_0f7a4 cJ6_bitCount_0f7a4 1 (some (.int)) 1 := ⟨wq_220, wq_128, wq_129, wq_130, ⟨by decide +kernel, by decide +kernel, by decide +kernel⟩, by decide⟩
theorem wl_X3_118 : WlV RX3 118 RX2 yX2_heightOfAll cX2_heightOfAll 1 (some (.int)) 0 := ⟨wq_221, wq_222, wq_223, wq_55, wq_224, ⟨by decide +kernel, by decide +kernel, by decide +kernel⟩, by decide⟩
theorem wl_X3_121 : WlV RX3 121 RX2 yX2_valleysStoodAt cX2_valleysStoodAt 1 (some (.int)) 0 := ⟨wq_225, wq_226, wq_227, wq_55, wq_228, ⟨by decide +kernel, by decide +kernel, by decide +kernel⟩, by decide⟩
theorem wl_X3_124 : WlV RX3 124 RX2 yX2_valleysFaced cX2_valleysFaced 1 (some (.int)) 0 := ⟨wq_229, wq_230, wq_231, wq_55, wq_232, ⟨by decide +kernel, by decide +kernel, by decide +kernel⟩, by decide⟩
theorem wl_X3_127 : WlV RX3 127 RX2 yX2_bowedOfAll cX2_bowedOfAll 1 (some (.int)) 0 := ⟨wq_233, wq_234, wq_235, wq_55, wq_236, ⟨by decide +kernel, by decide +kernel, by decide +kernel⟩, by decide⟩
theorem wl_X3_130 : WlS RX3 130 yX3_isForetold cX3_isForetold 1 (some (.boolean)) 1 := ⟨wq_237, wq_238, wq_65, wq_239, ⟨by decide +kernel, by decide +kernel, by decide +kernel⟩, by decide⟩
theorem wl_X3_133 : WlV RX3 133 RX2 yX2_become cX2_become 2 none 1 := ⟨wq_241, wq_242, wq_243, wq_55, wq_244, ⟨by decide +kernel, by decide +kernel, by decide +kernel⟩, by decide⟩
theorem wl_X3_137 : WlV RX3 137 RX2 yX2_facedBy cX2_facedBy 2 (some (.int)) 1 := ⟨wq_245, wq_246, wq_247, wq_55, wq_248, ⟨by decide +kernel, by decide +kernel, by decide +kernel⟩, by decide⟩
theorem wl_X3_140 : WlV RX3 140 RX2 yX2_passAge cX2_passAge 4 none 0 := ⟨wq_249, wq_154, wq_155, wq_55, wq_156, ⟨by decide +kernel, by decide +kernel, by decide +kernel⟩, by decide⟩
theorem wl_X3_143 : WlV RX3 143 RX3 yX3_isNoPair cX3_isNoPair 3 (some (.boolean)) 2 := ⟨wq_250, wq_251, wq_252, wq_65, wq_253, ⟨by decide +kernel, by decide +kernel, by decide +kernel⟩, by decide⟩
theorem wl_X3_147 : WlV RX3 147 RX3 yX3_agesUntilMeeting cX3_agesUntilMeeting 5 (some (.int)) 3 := ⟨wq_254, wq_255, wq_256, wq_65, wq_257, ⟨by decide +kernel, by decide +kernel, by decide +kernel⟩, by decide⟩
theorem wl_X3_151 : WlV RX3 151 RX2 yX2_standsAndTurnsAs cX2_standsAndTurnsAs 3 (some (.boolean)) 1 := ⟨wq_258, wq_259, wq_260, wq_55, wq_261, ⟨by decide +kernel, by decide +kernel, by decide +kernel⟩, by decide⟩
theorem wl_X3_155 : WlV RX3 155 RX2 yX2_everyone cX2_everyone 1 (some (.int)) 0 := ⟨wq_262, wq_263, wq_264, wq_55, wq_265, ⟨by decide +kernel, by decide +kernel, by decide +kernel⟩, by decide⟩
theorem wl_X3_161 : WlV RX3 161 RX3 yX3_tryWith cX3_tryWith 4 none 3 := ⟨wq_266, wq_267, wq_268, wq_65, wq_269, ⟨by decide +kernel, by decide +kernel, by decide +kernel⟩, by decide⟩
theorem wl_X3_158 : WlV RX3 158 RX3 yX3_soonestWith cX3_soonestWith 8 (some (.int)) 3 := ⟨wq_270, wq_271, wq_272, wq_65, wq_273, ⟨by decide +kernel, by decide +kernel, by decide +kernel⟩, by decide⟩
theorem wl_X3_164 : WlS RX3 164 yX3_waysOn cX3_waysOn 2 (some (.int)) 2 := ⟨wq_274, wq_114, wq_65, wq_115, ⟨by decide +kernel, by decide +kernel, by decide +kernel⟩, by decide⟩
theorem wl_X3_167 : WlV RX3 167 RX2 yX2_climbOn cX2_climbOn 7 (some (.int)) 2 := ⟨wq_275, wq_117, wq_118, wq_55, wq_119, ⟨by decide +kernel, by decide +kernel, by decide +kernel⟩, by decide⟩
theorem wl_X3_175 : WlV RX3 175 RX2 yX2_leastClimb cX2_leastClimb 3 (some (.int)) 2 := ⟨wq_276, wq_277, wq_278, wq_55, wq_279, ⟨by decide +kernel, by decide +kernel, by decide +kernel⟩, by decide⟩
theorem wl_X3_178 : WlV RX3 178 RX3 yX3_agesOpen cX3_agesOpen 7 (some (.int)) 4 := ⟨wq_280, wq_281, wq_282, wq_65, wq_283, ⟨by decide +kernel, by decide +kernel, by decide +kernel⟩, by decide⟩
theorem wl_X3_259 : WlV RX3 259 RX3 yX3_facesAsTold cX3_facesAsTold 5 (some (.boolean)) 2 := ⟨wq_285, wq_286, wq_287, wq_65, wq_288, ⟨by decide +kernel, by decide +kernel, by decide +kernel⟩, by decide⟩
theorem wl_X3_210 : WlS RX3 210 yX3_isNoSheet cX3_isNoSheet 1 (some (.boolean)) 1 := ⟨wq_289, wq_290, wq_65, wq_291, ⟨by decide +kernel, by decide +kernel, by decide +kernel⟩, by decide⟩
theorem wl_X3_224 : WlV RX3 224 RX1 yX1_isMissing cX1_isMissing 1 (some (.boolean)) 0 := ⟨wq_292, wq_293, wq_294, wq_295, wq_296, ⟨by decide +kernel, by decide +kernel, by decide +kernel⟩, by decide⟩
theorem wl_X3_218 : WlV RX3 218 RX3 yX3_wrongWithSheet cX3_wrongWithSheet 2 (some (.int)) 1 := ⟨wq_297, wq_298, wq_299, wq_65, wq_300, ⟨by decide +kernel, by decide +kernel, by decide +kernel⟩, by decide⟩
theorem wl_X3_182 : WlV RX3 182 RX3 yX3_wrongWithTold cX3_wrongWithTold 4 (some (.int)) 2 := ⟨wq_301, wq_302, wq_303, wq_65, wq_304, ⟨by decide +kernel, by decide +kernel, by decide +kernel⟩, by decide⟩
theorem wl_X3_185 : WlV RX3 185 RX3 yX3_fittingSet cX3_fittingSet 7 (some (.int)) 3 := ⟨wq_305, wq_306, wq_307, wq_65, wq_308, ⟨by decide +kernel, by decide +kernel, by decide +kernel⟩, by decide⟩
theorem wl_X3_188 : WlV RX3 188 RX2 yX2_passWetAge cX2_passWetAge 2 none 0 := ⟨wq_309, wq_310, wq_311, wq_55, wq_312, ⟨by decide +kernel, by decide +kernel, by decide +kernel⟩, by decide⟩
theorem wl_X3_197 : WlV RX3 197 RX0 yX0_append cX0_append 2 none 1 := ⟨wq_314, wq_315, wq_316, wq_6, wq_317, ⟨by decide +kernel, by decide +kernel, by decide +kernel⟩, by decide⟩
theorem wl_X3_200 : WlV RX3 200 RX0 yX0_readInto cX0_readInto 3 (some (.int)) 1 := ⟨wq_318, wq_319, wq_320, wq_6, wq_321, ⟨by decide +kernel, by decide +kernel, by decide +kernel⟩, by decide⟩
theorem wl_X3_207 : WlS RX3 207 yX3_isUnder cX3_isUnder 4 (some (.boolean)) 2 := ⟨wq_323, wq_324, wq_65, wq_325, ⟨by decide +kernel, by decide +kernel, by decide +kernel⟩, by decide⟩
theorem wl_X3_213 : WlV RX3 213 RX1 yX1_begin cX1_begin 3 none 2 := ⟨wq_326, wq_327, wq_328, wq_295, wq_329, ⟨by decide +kernel, by decide +kernel, by decide +kernel⟩, by decide⟩
theorem wl_X3_221 : WlV RX3 221 RX1 yX1_put cX1_put 3 none 2 := ⟨wq_330, wq_331, wq_332, wq_295, wq_333, ⟨by decide +kernel, by decide +kernel, by decide +kernel⟩, by decide⟩
theorem wl_X3_230 : WlV RX3 230 RX1 yX1_reaches cX1_reaches 3 (some (.boolean)) 2 := ⟨wq_334, wq_335, wq_336, wq_295, wq_337, ⟨by decide +kernel, by decide +kernel, by decide +kernel⟩, by decide⟩
theorem wl_X3_249 : WlV RX3 249 RX2 yX2_spotsHeld cX2_spotsHeld 3 (some (.int)) 0 := ⟨wq_340, wq_341, wq_342, wq_55, wq_343, ⟨by decide +kernel, by decide +kernel, by decide +kernel⟩, by decide⟩
theorem wl_X4_76 : WlS RX4 76 yX4_copyRow cX4_copyRow 3 none 2 := ⟨wq_348, wq_349, wq_350, wq_351, ⟨by decide +kernel, by decide +kernel, by decide +kernel⟩, by decide⟩
theorem wl_X4_81 : WlV RX4 81 RX4 yX4_finding cX4_finding 2 (some (.int)) 1 := ⟨wq_353, wq_354, wq_355, wq_350, wq_356, ⟨by decide +kernel, by decide +kernel, by decide +kernel⟩, by decide⟩
theorem wl_X4_85 : WlS RX4 85 yX4_within cX4_within 3 (some (.boolean)) 3 := ⟨wq_357, wq_358, wq_350, wq_359, ⟨by decide +kernel, by decide +kernel, by decide +kernel⟩, by decide⟩
theorem wl_X4_89 : WlV RX4 89 RX4 yX4_become cX4_become 4 (some (.int)) 2 := ⟨wq_360, wq_361, wq_362, wq_350, wq_363, ⟨by decide +kernel, by decide +kernel, by decide +kernel⟩, by decide⟩
theorem wl_X4_93 : WlS RX4 93 yX4_at cX4_at 2 (some (.int)) 2 := ⟨wq_364, wq_365, wq_350, wq_366, ⟨by decide +kernel, by decide +kernel, by decide +kernel⟩, by decide⟩
theorem wl_X4_96 : WlS RX4 96 yX4_isKind cX4_isKind 1 (some (.boolean)) 1 := ⟨wq_367, wq_368, wq_350, wq_369, ⟨by decide +kernel, by decide +kernel, by decide +kernel⟩, by decide⟩
theorem wl_X4_100 : WlS RX4 100 yX4_isValley cX4_isValley 1 (some (.boolean)) 1 := ⟨wq_370, wq_371, wq_350, wq_372, ⟨by decide +kernel, by decide +kernel, by decide +kernel⟩, by decide⟩
theorem wl_X4_104 : WlV RX4 104 RX4 yX4_comes cX4_comes 7 (some (.int)) 5 := ⟨wq_374, wq_375, wq_376, wq_350, wq_377, ⟨by decide +kernel, by decide +kernel, by decide +kernel⟩, by decide⟩
theorem wl_X4_108 : WlV RX4 108 RX4 yX4_hillIs cX4_hillIs 3 (some (.int)) 2 := ⟨wq_378, wq_379, wq_380, wq_350, wq_381, ⟨by decide +kernel, by decide +kernel, by decide +kernel⟩, by decide⟩
theorem wl_X4_111 : WlS RX4 111 yX4_by12 cX4_by12 2 (some (.int)) 1 := ⟨wq_383, wq_384, wq_350, wq_385, ⟨by decide +kernel, by decide +kernel, by decide +kernel⟩, by decide⟩
theorem wl_X4_114 : WlV RX4 114 RX4 yX4_facesOf cX4_facesOf 2 (some (.int)) 1 := ⟨wq_386, wq_387, wq_388, wq_350, wq_389, ⟨by decide +kernel, by decide +kernel, by decide +kernel⟩, by decide⟩
theorem wl_X4_117 : WlV RX4 117 RX4 yX4_movesOf cX4_movesOf 4 (some (.int)) 2 := ⟨wq_391, wq_392, wq_393, wq_350, wq_394, ⟨by decide +kernel, by decide +kernel, by decide +kernel⟩, by decide⟩
theorem wl_X4_120 : WlV RX4 120 RX4 yX4_atValley cX4_atValley 4 (some (.int)) 1 := ⟨wq_395, wq_396, wq_397, wq_350, wq_398, ⟨by decide +kernel, by decide +kernel, by decide +kernel⟩, by decide⟩
theorem wl_X4_123 : WlS RX4 123 yX4_bits cX4_bits 3 (some (.int)) 1 := ⟨wq_399, wq_400, wq_350, wq_401, ⟨by decide +kernel, by decide +kernel, by decide +kernel⟩, by decide⟩
theorem wl_X4_126 : WlV RX4 126 RX4 yX4_turnsOf cX4_turnsOf 3 (some (.int)) 2 := ⟨wq_402, wq_403, wq_404, wq_350, wq_405, ⟨by decide +kernel, by decide +kernel, by decide +kernel⟩, by decide⟩
theorem wl_X4_129 : WlV RX4 129 RX4 yX4_meeting cX4_meeting 4 (some (.int)) 1 := ⟨wq_406, wq_407, wq_408, wq_350, wq_409, ⟨by decide +kernel, by decide +kernel, by decide +kernel⟩, by decide⟩
theorem wl_X4_132 : WlV RX4 132 RX4 yX4_sinksOf cX4_sinksOf 3 (some (.int)) 1 := ⟨wq_413, wq_414, wq_415, wq_350, wq_416, ⟨by decide +kernel, by decide +kernel, by decide +kernel⟩, by decide⟩
theorem wl_X4_135 : WlV RX4 135 RX4 yX4_isHill cX4_isHill 2 (some (.boolean)) 1 := ⟨wq_417, wq_418, wq_419, wq_350, wq_420, ⟨by decide +kernel, by decide +kernel, by decide +kernel⟩, by decide⟩
theorem wl_X4_138 : WlV RX4 138 RX4 yX4_looksAt cX4_looksAt 2 none 0 := ⟨wq_421, wq_422, wq_423, wq_350, wq_424, ⟨by decide +kernel, by decide +kernel, by decide +kernel⟩, by decide⟩
theorem wl_X4_141 : WlS RX4 141 yX4_isHigh cX4_isHigh 1 (some (.boolean)) 1 := ⟨wq_425, wq_426, wq_350, wq_427, ⟨by decide +kernel, by decide +kernel, by decide +kernel⟩, by decide⟩
theorem wl_X4_144 : WlS RX4 144 yX4_mayBe cX4_mayBe 2 (some (.boolean)) 2 := ⟨wq_428, wq_429, wq_350, wq_430, ⟨by decide +kernel, by decide +kernel, by decide +kernel⟩, by decide⟩
theorem wl_X4_153 : WlV RX4 153 RX4 yX4_facing cX4_facing 4 (some (.int)) 1 := ⟨wq_431, wq_432, wq_433, wq_350, wq_434, ⟨by decide +kernel, by decide +kernel, by decide +kernel⟩, by decide⟩
theorem wl_X4_156 : WlV RX4 156 RX4 yX4_highestAt cX4_highestAt 4 (some (.int)) 1 := ⟨wq_435, wq_436, wq_437, wq_350, wq_438, ⟨by decide +kernel, by decide +kernel, by decide +kernel⟩, by decide⟩
theorem wl_X4_162 : WlV RX4 162 RX4 yX4_age cX4_age 3 none 0 := ⟨wq_439, wq_440, wq_441, wq_350, wq_442, ⟨by decide +kernel, by decide +kernel, by decide +kernel⟩, by decide⟩
theorem wl_X4_167 : WlV RX4 167 RX4 yX4_ages cX4_ages 3 none 1 := ⟨wq_444, wq_445, wq_446, wq_350, wq_447, ⟨by decide +kernel, by decide +kernel, by decide +kernel⟩, by decide⟩
theorem wl_X4_171 : WlV RX4 171 RX4 yX4_whoMeets cX4_whoMeets 3 (some (.int)) 0 := ⟨wq_448, wq_449, wq_450, wq_350, wq_451, ⟨by decide +kernel, by decide +kernel, by decide +kernel⟩, by decide⟩
theorem wl_X4_175 : WlV RX4 175 RX4 yX4_sumOf cX4_sumOf 4 (some (.int)) 1 := ⟨wq_453, wq_454, wq_455, wq_350, wq_456, ⟨by decide +kernel, by decide +kernel, by decide +kernel⟩, by decide⟩
theorem wl_X4_178 : WlV RX4 178 RX4 yX4_valleysAt cX4_valleysAt 3 (some (.int)) 0 := ⟨wq_457, wq_458, wq_459, wq_350, wq_460, ⟨by decide +kernel, by decide +kernel, by decide +kernel⟩, by decide⟩
theorem wl_X4_181 : WlV RX4 181 RX4 yX4_valleysFaced cX4_valleysFaced 3 (some (.int)) 0 := ⟨wq_461, wq_462, wq_463, wq_350, wq_464, ⟨by decide +kernel, by decide +kernel, by decide +kernel⟩, by decide⟩
theorem wl_X4_184 : WlV RX4 184 RX4 yX4_putBack cX4_putBack 2 (some (.int)) 1 := ⟨wq_465, wq_466, wq_467, wq_350, wq_468, ⟨by decide +kernel, by decide +kernel, by decide +kernel⟩, by decide⟩
theorem wl_X4_187 : WlV RX4 187 RX4 yX4_orNone cX4_orNone 2 (some (.int)) 1 := ⟨wq_469, wq_470, wq_471, wq_350, wq_472, ⟨by decide +kernel, by decide +kernel, by decide +kernel⟩, by decide⟩
theorem wl_X4_190 : WlV RX4 190 RX4 yX4_doMeet cX4_doMeet 3 (some (.boolean)) 2 := ⟨wq_473, wq_474, wq_475, wq_350, wq_476, ⟨by decide +kernel, by decide +kernel, by decide +kernel⟩, by decide⟩
theorem wl_X4_193 : WlV RX4 193 RX4 yX4_areTwo cX4_areTwo 3 (some (.boolean)) 2 := ⟨wq_477, wq_478, wq_479, wq_350, wq_480, ⟨by decide +kernel, by decide +kernel, by decide +kernel⟩, by decide⟩
theorem wl_X4_196 : WlV RX4 196 RX4 yX4_meetIn cX4_meetIn 5 (some (.int)) 3 := ⟨wq_481, wq_482, wq_483, wq_350, wq_484, ⟨by decide +kernel, by decide +kernel, by decide +kernel⟩, by decide⟩
theorem wl_X4_200 : WlV RX4 200 RX4 yX4_isAsAside cX4_isAsAside 3 (some (.boolean)) 0 := ⟨wq_485, wq_486, wq_487, wq_350, wq_488, ⟨by decide +kernel, by decide +kernel, by decide +kernel⟩, by decide⟩
theorem wl_X4_204 : WlS RX4 204 yX4_isSoon cX4_isSoon 1 (some (.boolean)) 1 := ⟨wq_489, wq_490, wq_350, wq_491, ⟨by decide +kernel, by decide +kernel, by decide +kernel⟩, by decide⟩
theorem wl_X4_208 : WlV RX4 208 RX4 yX4_soonest cX4_soonest 11 (some (.int)) 5 := ⟨wq_493, wq_494, wq_495, wq_350, wq_496, ⟨by decide +kernel, by decide +kernel, by decide +kernel⟩, by decide⟩
theorem wl_X4_211 : WlS RX4 211 yX4_isGo cX4_isGo 1 (some (.boolean)) 1 := ⟨wq_497, wq_498, wq_350, wq_499, ⟨by decide +kernel, by decide +kernel, by decide +kernel⟩, by decide⟩
theorem wl_X4_214 : WlV RX4 214 RX4 yX4_behind cX4_behind 4 (some (.int)) 3 := ⟨wq_500, wq_501, wq_502, wq_350, wq_503, ⟨by decide +kernel, by decide +kernel, by decide +kernel⟩, by decide⟩
theorem wl_X4_217 : WlV RX4 217 RX4 yX4_between cX4_between 6 (some (.int)) 3 := ⟨wq_504, wq_505, wq_506, wq_350, wq_507, ⟨by decide +kernel, by decide +kernel, by decide +kernel⟩, by decide⟩
theorem wl_X4_220 : WlS RX4 220 yX4_areEnds cX4_areEnds 2 (some (.boolean)) 2 := ⟨wq_508, wq_509, wq_350, wq_510, ⟨by decide +kernel, by decide +kernel, by decide +kernel⟩, by decide⟩
theorem wl_X4_223 : WlV RX4 223 RX4 yX4_roadNow cX4_roadNow 6 (some (.int)) 3 := ⟨wq_511, wq_512, wq_513, wq_350, wq_514, ⟨by decide +kernel, by decide +kernel, by decide +kernel⟩, by decide⟩
theorem wl_X4_226 : WlV RX4 226 RX4 yX4_climbNow cX4_climbNow 3 (some (.int)) 2 := ⟨wq_515, wq_516, wq_517, wq_350, wq_518, ⟨by decide +kernel, by decide +kernel, by decide +kernel⟩, by decide⟩
theorem wl_X4_229 : WlV RX4 229 RX4 yX4_openIn cX4_openIn 7 (some (.int)) 4 := ⟨wq_519, wq_520, wq_521, wq_350, wq_522, ⟨by decide +kernel, by decide +kernel, by decide +kernel⟩, by decide⟩
theorem wl_X4_233 : WlS RX4 233 yX4_isSheet cX4_isSheet 1 (some (.boolean)) 1 := ⟨wq_523, wq_524, wq_350, wq_525, ⟨by decide +kernel, by decide +kernel, by decide +kernel⟩, by decide⟩
theorem wl_X4_237 : WlV RX4 237 RX4 yX4_facedSo cX4_facedSo 6 (some (.boolean)) 2 := ⟨wq_530, wq_531, wq_532, wq_350, wq_533, ⟨by decide +kernel, by decide +kernel, by decide +kernel⟩, by decide⟩
theorem wl_X4_240 : WlV RX4 240 RX4 yX4_lacks cX4_lacks 3 (some (.int)) 2 := ⟨wq_534, wq_535, wq_536, wq_350, wq_537, ⟨by decide +kernel, by decide +kernel, by decide +kernel⟩, by decide⟩
theorem wl_X4_243 : WlV RX4 243 RX4 yX4_fitting cX4_fitting 9 (some (.int)) 5 := ⟨wq_538, wq_539, wq_540, wq_350, wq_541, ⟨by decide +kernel, by decide +kernel, by decide +kernel⟩, by decide⟩
theorem wl_X4_247 : WlV RX4 247 RX4 yX4_drawn cX4_drawn 1 (some (.int)) 0 := ⟨wq_543, wq_544, wq_545, wq_350, wq_546, ⟨by decide +kernel, by decide +kernel, by decide +kernel⟩, by decide⟩
theorem wl_X4_260 : WlV RX4 260 RX4 yX4_byteAt cX4_byteAt 2 (some (.int)) 1 := ⟨wq_551, wq_552, wq_553, wq_350, wq_554, ⟨by decide +kernel, by decide +kernel, by decide +kernel⟩, by decide⟩
theorem wl_X4_269 : WlV RX4 269 RJ0 yJ0_length_8abf5 cJ0_length_8abf5 1 (some (.int)) 0 := ⟨wq_557, wq_25, wq_26, wq_27, wq_28, ⟨by decide +kernel, by decide +kernel, by decide +kernel⟩, by decide⟩
theorem wl_X4_272 : WlV RX4 272 RJ0 yJ0_charAt_5068e cJ0_charAt_5068e 2 (some (.char)) 1 := ⟨wq_558, wq_30, wq_31, wq_27, wq_32, ⟨by decide +kernel, by decide +kernel, by decide +kernel⟩, by decide⟩
theorem wl_X4_280 : WlV RX4 280 RX4 yX4_next cX4_next 2 none 0 := ⟨wq_560, wq_561, wq_562, wq_350, wq_563, ⟨by decide +kernel, by decide +kernel, by decide +kernel⟩, by decide⟩
theorem wl_X4_283 : WlV RX4 283 RX4 yX4_must cX4_must 2 none 1 := ⟨wq_564, wq_565, wq_566, wq_350, wq_567, ⟨by decide +kernel, by decide +kernel, by decide +kernel⟩, by decide⟩
theorem wl_X4_290 : WlV RX4 290 RX4 yX4_isWord cX4_isWord 4 (some (.boolean)) 1 := ⟨wq_571, wq_572, wq_573, wq_350, wq_574, ⟨by decide +kernel, by decide +kernel, by decide +kernel⟩, by decide⟩
theorem wl_X4_294 : WlV RX4 294 RX4 yX4_number cX4_number 4 (some (.int)) 2 := ⟨wq_575, wq_576, wq_577, wq_350, wq_578, ⟨by decide +kernel, by decide +kernel, by decide +kernel⟩, by decide⟩
theorem wl_X4_299 : WlV RX4 299 RX4 yX4_kindTold cX4_kindTold 3 (some (.int)) 0 := ⟨wq_579, wq_580, wq_581, wq_350, wq_582, ⟨by decide +kernel, by decide +kernel, by decide +kernel⟩, by decide⟩
theorem wl_X4_317 : WlV RX4 317 RX4 yX4_addItem cX4_addItem 7 none 5 := ⟨wq_583, wq_584, wq_585, wq_350, wq_586, ⟨by decide +kernel, by decide +kernel, by decide +kernel⟩, by decide⟩
theorem wl_X4_306 : WlV RX4 306 RX4 yX4_afterWord cX4_afterWord 4 (some (.int)) 3 := ⟨wq_588, wq_589, wq_590, wq_350, wq_591, ⟨by decide +kernel, by decide +kernel, by decide +kernel⟩, by decide⟩
theorem wl_X4_310 : WlV RX4 310 RX4 yX4_stepTold cX4_stepTold 3 (some (.int)) 0 := ⟨wq_592, wq_593, wq_594, wq_350, wq_595, ⟨by decide +kernel, by decide +kernel, by decide +kernel⟩, by decide⟩
theorem wl_X4_323 : WlV RX4 323 RX4 yX4_readItem cX4_readItem 5 none 0 := ⟨wq_596, wq_597, wq_598, wq_350, wq_599, ⟨by decide +kernel, by decide +kernel, by decide +kernel⟩, by decide⟩
theorem wl_X4_326 : WlV RX4 326 RX4 yX4_isToldSo cX4_isToldSo 3 (some (.int)) 1 := ⟨wq_600, wq_601, wq_602, wq_350, wq_603, ⟨by decide +kernel, by decide +kernel, by decide +kernel⟩, by decide⟩
theorem wl_X4_329 : WlS RX4 329 yX4_isSpot cX4_isSpot 1 (some (.boolean)) 1 := ⟨wq_604, wq_605, wq_350, wq_606, ⟨by decide +kernel, by decide +kernel, by decide +kernel⟩, by decide⟩
theorem wl_X4_339 : WlS RX4 339 yX4_above cX4_above 1 (some (.int)) 1 := ⟨wq_607, wq_608, wq_350, wq_609, ⟨by decide +kernel, by decide +kernel, by decide +kernel⟩, by decide⟩
theorem wl_X4_332 : WlS RX4 332 yX4_isUnder cX4_isUnder 3 (some (.boolean)) 2 := ⟨wq_610, wq_611, wq_350, wq_612, ⟨by decide +kernel, by decide +kernel, by decide +kernel⟩, by decide⟩
theorem wl_X4_336 : WlS RX4 336 yX4_cutTo cX4_cutTo 2 (some (.int)) 2 := ⟨wq_614, wq_615, wq_350, wq_616, ⟨by decide +kernel, by decide +kernel, by decide +kernel⟩, by decide⟩
theorem wl_X4_342 : WlV RX4 342 RX4 yX4_lacksSheet cX4_lacksSheet 2 (some (.int)) 1 := ⟨wq_618, wq_619, wq_620, wq_350, wq_621, ⟨by decide +kernel, by decide +kernel, by decide +kernel⟩, by decide⟩
theorem wl_J0_335 : WlV RJ0 335 RJ0 yJ0_coder_7d493 cJ0_coder_7d493 1 (some (.byte)) 0 := ⟨wq_628, wq_629, wq_630, wq_27, wq_631, ⟨by decide +kernel, by decide +kernel, by decide +kernel⟩, by decide⟩
theorem wl_J0_492 : WlV RJ0 492 RJ0 yJ0_isLatin1_aae02 cJ0_isLatin1_aae02 1 (some (.boolean)) 0 := ⟨wq_632, wq_633, wq_634, wq_27, wq_635, ⟨by decide +kernel, by decide +kernel, by decide +kernel⟩, by decide⟩
theorem wl_J0_495 : WlS RJ0 495 yJ1_charAt_3b067 cJ1_charAt_3b067 2 (some (.char)) 2 := ⟨wq_636, wq_637, wq_638, wq_639, ⟨by decide +kernel, by decide +kernel, by decide +kernel⟩, by decide⟩
theorem wl_J1_9 : WlS RJ1 9 yJ0_checkIndex_df160 cJ0_checkIndex_df160 2 none 2 := ⟨wq_640, wq_641, wq_27, wq_642, ⟨by decide +kernel, by decide +kernel, by decide +kernel⟩, by decide⟩
theorem wl_J0_1059 : WlS RJ0 1059 yJ3_checkIndex_8e157 cJ3_checkIndex_8e157 3 (some (.int)) 3 := ⟨wq_643, wq_644, wq_645, wq_646, ⟨by decide +kernel, by decide +kernel, by decide +kernel⟩, by decide⟩
