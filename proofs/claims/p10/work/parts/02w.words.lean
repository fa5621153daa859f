theorem m_0 : Cond.fieldLink RX4 21 "GooseLetters$State" "gooseCount" "I" ∈ lwc := nv_1 (List.mem_of_getElem? (i := 34) rfl) rfl
theorem m_1 : Cond.fieldLink RX4 25 "GooseLetters$State" "marketCount" "I" ∈ lwc := nv_1 (List.mem_of_getElem? (i := 36) rfl) rfl
theorem m_2 : Cond.fieldLink RX4 11 "GooseLetters$State" "geese" "[I" ∈ lwc := nv_1 (List.mem_of_getElem? (i := 31) rfl) rfl
theorem m_3 : Cond.code yX4_hasGoose cX4_hasGoose 2 (some .boolean) ∈ lwc := nv_2 (List.mem_of_getElem? (i := 76) rfl) rfl
theorem m_4 : Cond.methodLink RX4 58 yX4_hasGoose ∈ lwc := nv_2 (List.mem_of_getElem? (i := 73) rfl) rfl
theorem m_5 : Cond.instanceMethod yX4_hasGoose ∈ lwc := nv_2 (List.mem_of_getElem? (i := 74) rfl) rfl
theorem m_6 : Cond.selects RX4 yX4_hasGoose yX4_hasGoose ∈ lwc := nv_2 (List.mem_of_getElem? (i := 75) rfl) rfl
theorem m_7 : Cond.initialized RX4 ∈ lwc := nv_1 (List.mem_of_getElem? (i := 2) rfl) rfl
theorem m_8 : Cond.fieldLink RX4 15 "GooseLetters$State" "markets" "[I" ∈ lwc := nv_1 (List.mem_of_getElem? (i := 32) rfl) rfl
theorem m_9 : Cond.code yX4_setGoose cX4_setGoose 4 none ∈ lwc := nv_2 (List.mem_of_getElem? (i := 72) rfl) rfl
theorem m_10 : Cond.methodLink RX4 62 yX4_setGoose ∈ lwc := nv_2 (List.mem_of_getElem? (i := 69) rfl) rfl
theorem m_11 : Cond.instanceMethod yX4_setGoose ∈ lwc := nv_2 (List.mem_of_getElem? (i := 70) rfl) rfl
theorem m_12 : Cond.selects RX4 yX4_setGoose yX4_setGoose ∈ lwc := nv_2 (List.mem_of_getElem? (i := 71) rfl) rfl
theorem m_13 : Cond.code yX4_ofGoose cX4_ofGoose 3 (some .int) ∈ lwc := nv_2 (List.mem_of_getElem? (i := 102) rfl) rfl
theorem m_14 : Cond.methodLink RX4 66 yX4_ofGoose ∈ lwc := nv_2 (List.mem_of_getElem? (i := 99) rfl) rfl
theorem m_15 : Cond.instanceMethod yX4_ofGoose ∈ lwc := nv_2 (List.mem_of_getElem? (i := 100) rfl) rfl
theorem m_16 : Cond.selects RX4 yX4_ofGoose yX4_ofGoose ∈ lwc := nv_2 (List.mem_of_getElem? (i := 101) rfl) rfl
theorem m_17 : Cond.code yX4_isHome cX4_isHome 2 (some .boolean) ∈ lwc := nv_2 (List.mem_of_getElem? (i := 98) rfl) rfl
theorem m_18 : Cond.methodLink RX4 70 yX4_isHome ∈ lwc := nv_2 (List.mem_of_getElem? (i := 190) rfl) rfl
theorem m_19 : Cond.instanceMethod yX4_isHome ∈ lwc := nv_2 (List.mem_of_getElem? (i := 96) rfl) rfl
theorem m_20 : Cond.selects RX4 yX4_isHome yX4_isHome ∈ lwc := nv_2 (List.mem_of_getElem? (i := 97) rfl) rfl
theorem m_21 : Cond.fieldLink RX4 34 "GooseLetters$State" "day" "I" ∈ lwc := nv_1 (List.mem_of_getElem? (i := 43) rfl) rfl
theorem m_22 : Cond.fieldLink RX4 31 "GooseLetters$State" "mouths" "I" ∈ lwc := nv_1 (List.mem_of_getElem? (i := 41) rfl) rfl
theorem m_23 : Cond.code yX4_countFate cX4_countFate 4 (some .int) ∈ lwc := nv_3 (List.mem_of_getElem? (i := 8) rfl) rfl
theorem m_24 : Cond.methodLink RX4 73 yX4_countFate ∈ lwc := nv_3 (List.mem_of_getElem? (i := 5) rfl) rfl
theorem m_25 : Cond.instanceMethod yX4_countFate ∈ lwc := nv_3 (List.mem_of_getElem? (i := 6) rfl) rfl
theorem m_26 : Cond.selects RX4 yX4_countFate yX4_countFate ∈ lwc := nv_3 (List.mem_of_getElem? (i := 7) rfl) rfl
theorem m_27 : Cond.code yX4_dailyNeed cX4_dailyNeed 1 (some .int) ∈ lwc := nv_3 (List.mem_of_getElem? (i := 4) rfl) rfl
theorem m_28 : Cond.methodLink RX4 77 yX4_dailyNeed ∈ lwc := nv_3 (List.mem_of_getElem? (i := 1) rfl) rfl
theorem m_29 : Cond.instanceMethod yX4_dailyNeed ∈ lwc := nv_3 (List.mem_of_getElem? (i := 2) rfl) rfl
theorem m_30 : Cond.selects RX4 yX4_dailyNeed yX4_dailyNeed ∈ lwc := nv_3 (List.mem_of_getElem? (i := 3) rfl) rfl
theorem m_31 : Cond.fieldLink RX4 28 "GooseLetters$State" "grain" "I" ∈ lwc := nv_1 (List.mem_of_getElem? (i := 39) rfl) rfl
theorem m_32 : Cond.code yX4_isFree cX4_isFree 2 (some .boolean) ∈ lwc := nv_2 (List.mem_of_getElem? (i := 189) rfl) rfl
theorem m_33 : Cond.methodLink RX4 81 yX4_isFree ∈ lwc := nv_3 (List.mem_of_getElem? (i := 9) rfl) rfl
theorem m_34 : Cond.instanceMethod yX4_isFree ∈ lwc := nv_2 (List.mem_of_getElem? (i := 187) rfl) rfl
theorem m_35 : Cond.selects RX4 yX4_isFree yX4_isFree ∈ lwc := nv_2 (List.mem_of_getElem? (i := 188) rfl) rfl
theorem m_36 : Cond.code yX4_settle cX4_settle 3 none ∈ lwc := nv_2 (List.mem_of_getElem? (i := 236) rfl) rfl
theorem m_37 : Cond.methodLink RX4 84 yX4_settle ∈ lwc := nv_3 (List.mem_of_getElem? (i := 10) rfl) rfl
theorem m_38 : Cond.instanceMethod yX4_settle ∈ lwc := nv_2 (List.mem_of_getElem? (i := 234) rfl) rfl
theorem m_39 : Cond.selects RX4 yX4_settle yX4_settle ∈ lwc := nv_2 (List.mem_of_getElem? (i := 235) rfl) rfl
theorem m_40 : Cond.fieldLink RX4 37 "GooseLetters$State" "x" "I" ∈ lwc := nv_1 (List.mem_of_getElem? (i := 47) rfl) rfl
theorem m_41 : Cond.fieldLink RX4 49 "GooseLetters$State" "stepCount" "I" ∈ lwc := nv_1 (List.mem_of_getElem? (i := 55) rfl) rfl
theorem m_42 : Cond.fieldLink RX4 46 "GooseLetters$State" "firstStep" "I" ∈ lwc := nv_1 (List.mem_of_getElem? (i := 54) rfl) rfl
theorem m_43 : Cond.fieldLink RX4 18 "GooseLetters$State" "steps" "[I" ∈ lwc := nv_1 (List.mem_of_getElem? (i := 33) rfl) rfl
theorem m_44 : Cond.methodLink RX4 52 arraycopyName ∈ lwc := nv_2 (List.mem_of_getElem? (i := 174) rfl) rfl
theorem m_45 : Cond.native arraycopyName ∈ lwc := nv_2 (List.mem_of_getElem? (i := 176) rfl) rfl
theorem m_46 : Cond.static arraycopyName ∈ lwc := nv_2 (List.mem_of_getElem? (i := 175) rfl) rfl
theorem m_47 : Cond.initialized "java/lang/System" ∈ lwc := nv_1 (List.mem_of_getElem? (i := 12) rfl) rfl
theorem m_48 : Cond.methodLink RX4 88 Lib.Math.max.name ∈ lwc := nv_3 (List.mem_of_getElem? (i := 234) rfl) rfl
theorem m_49 : Cond.static Lib.Math.max.name ∈ lwc := nv_2 (List.mem_of_getElem? (i := 168) rfl) rfl
theorem m_50 : Cond.initialized "java/lang/Math" ∈ lwc := nv_1 (List.mem_of_getElem? (i := 11) rfl) rfl
theorem m_51 : Cond.code Lib.Math.max.name Lib.Math.max.code 2 (some .int) ∈ lwc := nv_2 (List.mem_of_getElem? (i := 169) rfl) rfl
theorem m_52 : Cond.methodLink RX4 93 Lib.Math.min.name ∈ lwc := nv_3 (List.mem_of_getElem? (i := 235) rfl) rfl
theorem m_53 : Cond.static Lib.Math.min.name ∈ lwc := nv_2 (List.mem_of_getElem? (i := 165) rfl) rfl
theorem m_54 : Cond.code Lib.Math.min.name Lib.Math.min.code 2 (some .int) ∈ lwc := nv_2 (List.mem_of_getElem? (i := 166) rfl) rfl
theorem m_55 : Cond.fieldLink RX4 40 "GooseLetters$State" "textCount" "I" ∈ lwc := nv_1 (List.mem_of_getElem? (i := 49) rfl) rfl
theorem m_56 : Cond.fieldLink RX4 43 "GooseLetters$State" "ruling" "I" ∈ lwc := nv_1 (List.mem_of_getElem? (i := 51) rfl) rfl
theorem m_57 : Cond.code yX8_isLetter cX8_isLetter 1 (some .boolean) ∈ lwc := nv_2 (List.mem_of_getElem? (i := 94) rfl) rfl
theorem m_58 : Cond.methodLink RX8 185 yX8_isLetter ∈ lwc := nv_2 (List.mem_of_getElem? (i := 92) rfl) rfl
theorem m_59 : Cond.static yX8_isLetter ∈ lwc := nv_2 (List.mem_of_getElem? (i := 93) rfl) rfl
theorem m_60 : Cond.initialized RX8 ∈ lwc := nv_1 (List.mem_of_getElem? (i := 1) rfl) rfl
theorem m_61 : Cond.code yX9_in cX9_in 3 (some .boolean) ∈ lwc := nv_5 (List.mem_of_getElem? (i := 95) rfl) rfl
theorem m_62 : Cond.methodLink RX9 126 yX9_in ∈ lwc := nv_5 (List.mem_of_getElem? (i := 93) rfl) rfl
theorem m_63 : Cond.static yX9_in ∈ lwc := nv_5 (List.mem_of_getElem? (i := 94) rfl) rfl
theorem m_64 : Cond.initialized RX9 ∈ lwc := nv_1 (List.mem_of_getElem? (i := 10) rfl) rfl
theorem m_65 : Cond.constantLong RX9 170 (2394252282226) ∈ lwc := nv_5 (List.mem_of_getElem? (i := 217) rfl) rfl
theorem m_66 : Cond.constantLong RX9 172 (54316648818) ∈ lwc := nv_5 (List.mem_of_getElem? (i := 218) rfl) rfl
theorem m_67 : Cond.constantLong RX9 174 (170923) ∈ lwc := nv_5 (List.mem_of_getElem? (i := 219) rfl) rfl
theorem m_68 : Cond.constantLong RX9 176 (9369893) ∈ lwc := nv_5 (List.mem_of_getElem? (i := 220) rfl) rfl
theorem m_69 : Cond.constantLong RX9 178 (10132268) ∈ lwc := nv_5 (List.mem_of_getElem? (i := 221) rfl) rfl
theorem m_70 : Cond.constantLong RX9 180 (13523876) ∈ lwc := nv_5 (List.mem_of_getElem? (i := 222) rfl) rfl
theorem m_71 : Cond.constantLong RX9 182 (41369684334) ∈ lwc := nv_5 (List.mem_of_getElem? (i := 223) rfl) rfl
theorem m_72 : Cond.constantLong RX9 184 (12721395) ∈ lwc := nv_5 (List.mem_of_getElem? (i := 224) rfl) rfl
theorem m_73 : Cond.constantLong RX9 186 (14589224) ∈ lwc := nv_5 (List.mem_of_getElem? (i := 225) rfl) rfl
theorem m_74 : Cond.constantLong RX9 188 (3375) ∈ lwc := nv_5 (List.mem_of_getElem? (i := 226) rfl) rfl
theorem m_75 : Cond.constantLong RX9 190 (3058) ∈ lwc := nv_5 (List.mem_of_getElem? (i := 227) rfl) rfl
theorem m_76 : Cond.constantLong RX9 192 (138148) ∈ lwc := nv_5 (List.mem_of_getElem? (i := 228) rfl) rfl
theorem m_77 : Cond.constantLong RX9 194 (191476) ∈ lwc := nv_5 (List.mem_of_getElem? (i := 229) rfl) rfl
theorem m_78 : Cond.constantLong RX9 196 (666828005) ∈ lwc := nv_5 (List.mem_of_getElem? (i := 230) rfl) rfl
theorem m_79 : Cond.constantLong RX9 198 (59687467572) ∈ lwc := nv_5 (List.mem_of_getElem? (i := 231) rfl) rfl
theorem m_80 : Cond.constantLong RX9 200 (169704704597171) ∈ lwc := nv_5 (List.mem_of_getElem? (i := 232) rfl) rfl
theorem m_81 : Cond.constantLong RX9 202 (47879244146) ∈ lwc := nv_5 (List.mem_of_getElem? (i := 233) rfl) rfl
theorem m_82 : Cond.constantLong RX9 204 (12721332) ∈ lwc := nv_5 (List.mem_of_getElem? (i := 234) rfl) rfl
theorem m_83 : Cond.constantLong RX9 206 (149625) ∈ lwc := nv_5 (List.mem_of_getElem? (i := 235) rfl) rfl
theorem m_84 : Cond.constantLong RX9 208 (48885315956) ∈ lwc := nv_5 (List.mem_of_getElem? (i := 236) rfl) rfl
theorem m_85 : Cond.constantLong RX9 210 (667572580) ∈ lwc := nv_5 (List.mem_of_getElem? (i := 237) rfl) rfl
theorem m_86 : Cond.constantLong RX9 212 (9935219) ∈ lwc := nv_5 (List.mem_of_getElem? (i := 238) rfl) rfl
theorem m_87 : Cond.constantLong RX9 338 (1000000) ∈ lwc := nv_5 (List.mem_of_getElem? (i := 157) rfl) rfl
theorem m_88 : Cond.constantLong RX9 340 (-1000000) ∈ lwc := nv_5 (List.mem_of_getElem? (i := 158) rfl) rfl
theorem m_89 : Cond.code yX9_bound cX9_bound 2 (some .long) ∈ lwc := nv_5 (List.mem_of_getElem? (i := 156) rfl) rfl
theorem m_90 : Cond.methodLink RX9 342 yX9_bound ∈ lwc := nv_5 (List.mem_of_getElem? (i := 154) rfl) rfl
theorem m_91 : Cond.static yX9_bound ∈ lwc := nv_5 (List.mem_of_getElem? (i := 155) rfl) rfl
theorem m_92 : Cond.fieldLink RX9 7 "GooseLettersModel" "a" "[I" ∈ lwc := nv_4 (List.mem_of_getElem? (i := 169) rfl) rfl
theorem m_93 : Cond.fieldLink RX9 13 "GooseLettersModel" "image" "[I" ∈ lwc := nv_4 (List.mem_of_getElem? (i := 170) rfl) rfl
theorem m_94 : Cond.code yX9_tellsGoose cX9_tellsGoose 6 none ∈ lwc := nv_5 (List.mem_of_getElem? (i := 103) rfl) rfl
theorem m_95 : Cond.methodLink RX9 130 yX9_tellsGoose ∈ lwc := nv_5 (List.mem_of_getElem? (i := 100) rfl) rfl
theorem m_96 : Cond.instanceMethod yX9_tellsGoose ∈ lwc := nv_5 (List.mem_of_getElem? (i := 102) rfl) rfl
theorem m_97 : Cond.selects RX9 yX9_tellsGoose yX9_tellsGoose ∈ lwc := nv_0 (List.mem_of_getElem? (i := 34) rfl) rfl
theorem m_98 : Cond.code yX9_isGoose cX9_isGoose 2 (some .boolean) ∈ lwc := nv_5 (List.mem_of_getElem? (i := 127) rfl) rfl
theorem m_99 : Cond.methodLink RX9 134 yX9_isGoose ∈ lwc := nv_5 (List.mem_of_getElem? (i := 124) rfl) rfl
theorem m_100 : Cond.instanceMethod yX9_isGoose ∈ lwc := nv_5 (List.mem_of_getElem? (i := 126) rfl) rfl
theorem m_101 : Cond.selects RX9 yX9_isGoose yX9_isGoose ∈ lwc := nv_0 (List.mem_of_getElem? (i := 36) rfl) rfl
theorem m_102 : Cond.code yX9_ofGoose cX9_ofGoose 3 (some .int) ∈ lwc := nv_5 (List.mem_of_getElem? (i := 131) rfl) rfl
theorem m_103 : Cond.methodLink RX9 138 yX9_ofGoose ∈ lwc := nv_5 (List.mem_of_getElem? (i := 128) rfl) rfl
theorem m_104 : Cond.instanceMethod yX9_ofGoose ∈ lwc := nv_5 (List.mem_of_getElem? (i := 130) rfl) rfl
theorem m_105 : Cond.selects RX9 yX9_ofGoose yX9_ofGoose ∈ lwc := nv_0 (List.mem_of_getElem? (i := 37) rfl) rfl
theorem m_106 : Cond.fieldLink RX9 16 "GooseLettersModel" "tape" "[B" ∈ lwc := nv_4 (List.mem_of_getElem? (i := 171) rfl) rfl
theorem m_107 : Cond.fieldLink RX9 163 "GooseLettersModel" "taped" "I" ∈ lwc := nv_4 (List.mem_of_getElem? (i := 172) rfl) rfl
theorem m_108 : Cond.code yX9_put cX9_put 3 none ∈ lwc := nv_5 (List.mem_of_getElem? (i := 197) rfl) rfl
theorem m_109 : Cond.methodLink RX9 166 yX9_put ∈ lwc := nv_5 (List.mem_of_getElem? (i := 194) rfl) rfl
theorem m_110 : Cond.instanceMethod yX9_put ∈ lwc := nv_5 (List.mem_of_getElem? (i := 196) rfl) rfl
theorem m_111 : Cond.selects RX9 yX9_put yX9_put ∈ lwc := nv_0 (List.mem_of_getElem? (i := 45) rfl) rfl
theorem m_112 : Cond.code yX9_copies cX9_copies 3 none ∈ lwc := nv_4 (List.mem_of_getElem? (i := 168) rfl) rfl
theorem m_113 : Cond.methodLink RX9 122 yX9_copies ∈ lwc := nv_4 (List.mem_of_getElem? (i := 165) rfl) rfl
theorem m_114 : Cond.instanceMethod yX9_copies ∈ lwc := nv_4 (List.mem_of_getElem? (i := 167) rfl) rfl
theorem m_115 : Cond.selects RX9 yX9_copies yX9_copies ∈ lwc := nv_0 (List.mem_of_getElem? (i := 33) rfl) rfl
theorem m_116 : Cond.code yX9_isMarket cX9_isMarket 2 (some .boolean) ∈ lwc := nv_5 (List.mem_of_getElem? (i := 177) rfl) rfl
theorem m_117 : Cond.methodLink RX9 160 yX9_isMarket ∈ lwc := nv_5 (List.mem_of_getElem? (i := 174) rfl) rfl
theorem m_118 : Cond.instanceMethod yX9_isMarket ∈ lwc := nv_5 (List.mem_of_getElem? (i := 176) rfl) rfl
theorem m_119 : Cond.selects RX9 yX9_isMarket yX9_isMarket ∈ lwc := nv_0 (List.mem_of_getElem? (i := 44) rfl) rfl
theorem m_120 : Cond.code yX9_geeseOf cX9_geeseOf 4 (some .int) ∈ lwc := nv_6 (List.mem_of_getElem? (i := 125) rfl) rfl
theorem m_121 : Cond.methodLink RX9 378 yX9_geeseOf ∈ lwc := nv_6 (List.mem_of_getElem? (i := 122) rfl) rfl
theorem m_122 : Cond.instanceMethod yX9_geeseOf ∈ lwc := nv_6 (List.mem_of_getElem? (i := 124) rfl) rfl
theorem m_123 : Cond.selects RX9 yX9_geeseOf yX9_geeseOf ∈ lwc := nv_0 (List.mem_of_getElem? (i := 72) rfl) rfl
theorem m_124 : Cond.fieldLink RX9 214 "GooseLettersModel" "at" "I" ∈ lwc := nv_4 (List.mem_of_getElem? (i := 184) rfl) rfl
theorem m_125 : Cond.fieldLink RX9 217 "GooseLettersModel" "length" "I" ∈ lwc := nv_4 (List.mem_of_getElem? (i := 183) rfl) rfl
theorem m_126 : Cond.fieldLink RX9 220 "GooseLettersModel" "token" "I" ∈ lwc := nv_4 (List.mem_of_getElem? (i := 185) rfl) rfl
theorem m_127 : Cond.code yX9_isLetter cX9_isLetter 1 (some .boolean) ∈ lwc := nv_5 (List.mem_of_getElem? (i := 212) rfl) rfl
theorem m_128 : Cond.methodLink RX9 226 yX9_isLetter ∈ lwc := nv_5 (List.mem_of_getElem? (i := 210) rfl) rfl
theorem m_129 : Cond.static yX9_isLetter ∈ lwc := nv_5 (List.mem_of_getElem? (i := 211) rfl) rfl
theorem m_130 : Cond.fieldLink RX9 235 "GooseLettersModel" "told" "I" ∈ lwc := nv_4 (List.mem_of_getElem? (i := 187) rfl) rfl
theorem m_131 : Cond.fieldLink RX9 223 "GooseLettersModel" "sort" "I" ∈ lwc := nv_4 (List.mem_of_getElem? (i := 186) rfl) rfl
theorem m_132 : Cond.constant RX9 238 (99999) ∈ lwc := nv_5 (List.mem_of_getElem? (i := 239) rfl) rfl
theorem m_133 : Cond.constantLong RX9 229 (64) ∈ lwc := nv_5 (List.mem_of_getElem? (i := 213) rfl) rfl
theorem m_134 : Cond.code yX9_wordOf cX9_wordOf 2 (some .int) ∈ lwc := nv_5 (List.mem_of_getElem? (i := 216) rfl) rfl
theorem m_135 : Cond.methodLink RX9 231 yX9_wordOf ∈ lwc := nv_5 (List.mem_of_getElem? (i := 214) rfl) rfl
theorem m_136 : Cond.static yX9_wordOf ∈ lwc := nv_5 (List.mem_of_getElem? (i := 215) rfl) rfl
theorem m_137 : Cond.fieldLink RX9 239 "GooseLettersModel" "wrong" "I" ∈ lwc := nv_4 (List.mem_of_getElem? (i := 188) rfl) rfl
theorem m_138 : Cond.fieldLink RX9 242 "GooseLettersModel" "wrongAt" "I" ∈ lwc := nv_4 (List.mem_of_getElem? (i := 189) rfl) rfl
theorem m_139 : Cond.fieldLink RX9 78 "GooseLettersModel" "newOrder" "[I" ∈ lwc := nv_4 (List.mem_of_getElem? (i := 206) rfl) rfl
theorem m_140 : Cond.fieldLink RX9 245 "GooseLettersModel" "newOrders" "I" ∈ lwc := nv_4 (List.mem_of_getElem? (i := 205) rfl) rfl
theorem m_141 : Cond.fieldLink RX9 81 "GooseLettersModel" "newValue" "[I" ∈ lwc := nv_4 (List.mem_of_getElem? (i := 207) rfl) rfl
theorem m_142 : Cond.fieldLink RX9 51 "GooseLettersModel" "frame" "[I" ∈ lwc := nv_4 (List.mem_of_getElem? (i := 192) rfl) rfl
theorem m_143 : Cond.fieldLink RX9 248 "GooseLettersModel" "frames" "I" ∈ lwc := nv_4 (List.mem_of_getElem? (i := 191) rfl) rfl
theorem m_144 : Cond.fieldLink RX9 251 "GooseLettersModel" "open" "I" ∈ lwc := nv_4 (List.mem_of_getElem? (i := 190) rfl) rfl
theorem m_145 : Cond.code yX9_opensFrame cX9_opensFrame 2 none ∈ lwc := nv_6 (List.mem_of_getElem? (i := 19) rfl) rfl
theorem m_146 : Cond.methodLink RX9 257 yX9_opensFrame ∈ lwc := nv_6 (List.mem_of_getElem? (i := 16) rfl) rfl
theorem m_147 : Cond.instanceMethod yX9_opensFrame ∈ lwc := nv_6 (List.mem_of_getElem? (i := 18) rfl) rfl
theorem m_148 : Cond.selects RX9 yX9_opensFrame yX9_opensFrame ∈ lwc := nv_0 (List.mem_of_getElem? (i := 51) rfl) rfl
theorem m_149 : Cond.code yX9_next cX9_next 5 none ∈ lwc := nv_5 (List.mem_of_getElem? (i := 209) rfl) rfl
theorem m_150 : Cond.methodLink RX9 260 yX9_next ∈ lwc := nv_5 (List.mem_of_getElem? (i := 206) rfl) rfl
theorem m_151 : Cond.instanceMethod yX9_next ∈ lwc := nv_5 (List.mem_of_getElem? (i := 208) rfl) rfl
theorem m_152 : Cond.selects RX9 yX9_next yX9_next ∈ lwc := nv_0 (List.mem_of_getElem? (i := 46) rfl) rfl
theorem m_153 : Cond.code yX9_errs cX9_errs 2 none ∈ lwc := nv_6 (List.mem_of_getElem? (i := 15) rfl) rfl
theorem m_154 : Cond.methodLink RX9 254 yX9_errs ∈ lwc := nv_6 (List.mem_of_getElem? (i := 12) rfl) rfl
theorem m_155 : Cond.instanceMethod yX9_errs ∈ lwc := nv_6 (List.mem_of_getElem? (i := 14) rfl) rfl
theorem m_156 : Cond.selects RX9 yX9_errs yX9_errs ∈ lwc := nv_0 (List.mem_of_getElem? (i := 50) rfl) rfl
theorem m_157 : Cond.fieldLink RX9 263 "GooseLettersModel" "waits" "I" ∈ lwc := nv_4 (List.mem_of_getElem? (i := 194) rfl) rfl
theorem m_158 : Cond.fieldLink RX9 60 "GooseLettersModel" "waitFrame" "[I" ∈ lwc := nv_4 (List.mem_of_getElem? (i := 196) rfl) rfl
theorem m_159 : Cond.fieldLink RX9 57 "GooseLettersModel" "wait" "[I" ∈ lwc := nv_4 (List.mem_of_getElem? (i := 195) rfl) rfl
theorem m_160 : Cond.code yX9_rank cX9_rank 1 (some .int) ∈ lwc := nv_6 (List.mem_of_getElem? (i := 50) rfl) rfl
theorem m_161 : Cond.methodLink RX9 266 yX9_rank ∈ lwc := nv_6 (List.mem_of_getElem? (i := 48) rfl) rfl
theorem m_162 : Cond.static yX9_rank ∈ lwc := nv_6 (List.mem_of_getElem? (i := 49) rfl) rfl
theorem m_163 : Cond.code yX9_emits cX9_emits 3 none ∈ lwc := nv_6 (List.mem_of_getElem? (i := 27) rfl) rfl
theorem m_164 : Cond.methodLink RX9 270 yX9_emits ∈ lwc := nv_6 (List.mem_of_getElem? (i := 24) rfl) rfl
theorem m_165 : Cond.instanceMethod yX9_emits ∈ lwc := nv_6 (List.mem_of_getElem? (i := 26) rfl) rfl
theorem m_166 : Cond.selects RX9 yX9_emits yX9_emits ∈ lwc := nv_0 (List.mem_of_getElem? (i := 53) rfl) rfl
theorem m_167 : Cond.code yX9_works cX9_works 2 none ∈ lwc := nv_6 (List.mem_of_getElem? (i := 54) rfl) rfl
theorem m_168 : Cond.methodLink RX9 274 yX9_works ∈ lwc := nv_6 (List.mem_of_getElem? (i := 51) rfl) rfl
theorem m_169 : Cond.instanceMethod yX9_works ∈ lwc := nv_6 (List.mem_of_getElem? (i := 53) rfl) rfl
theorem m_170 : Cond.selects RX9 yX9_works yX9_works ∈ lwc := nv_0 (List.mem_of_getElem? (i := 59) rfl) rfl
theorem m_171 : Cond.code yX9_isWord cX9_isWord 2 (some .boolean) ∈ lwc := nv_6 (List.mem_of_getElem? (i := 7) rfl) rfl
theorem m_172 : Cond.methodLink RX9 277 yX9_isWord ∈ lwc := nv_6 (List.mem_of_getElem? (i := 4) rfl) rfl
theorem m_173 : Cond.instanceMethod yX9_isWord ∈ lwc := nv_6 (List.mem_of_getElem? (i := 6) rfl) rfl
theorem m_174 : Cond.selects RX9 yX9_isWord yX9_isWord ∈ lwc := nv_0 (List.mem_of_getElem? (i := 48) rfl) rfl
theorem m_175 : Cond.fieldLink RX9 283 "GooseLettersModel" "state" "I" ∈ lwc := nv_4 (List.mem_of_getElem? (i := 197) rfl) rfl
theorem m_176 : Cond.code yX9_opensSign cX9_opensSign 2 (some .boolean) ∈ lwc := nv_6 (List.mem_of_getElem? (i := 11) rfl) rfl
theorem m_177 : Cond.methodLink RX9 280 yX9_opensSign ∈ lwc := nv_6 (List.mem_of_getElem? (i := 8) rfl) rfl
theorem m_178 : Cond.instanceMethod yX9_opensSign ∈ lwc := nv_6 (List.mem_of_getElem? (i := 10) rfl) rfl
theorem m_179 : Cond.selects RX9 yX9_opensSign yX9_opensSign ∈ lwc := nv_0 (List.mem_of_getElem? (i := 49) rfl) rfl
theorem m_180 : Cond.code yX9_top cX9_top 1 (some .int) ∈ lwc := nv_6 (List.mem_of_getElem? (i := 35) rfl) rfl
theorem m_181 : Cond.methodLink RX9 295 yX9_top ∈ lwc := nv_6 (List.mem_of_getElem? (i := 32) rfl) rfl
theorem m_182 : Cond.instanceMethod yX9_top ∈ lwc := nv_6 (List.mem_of_getElem? (i := 34) rfl) rfl
theorem m_183 : Cond.selects RX9 yX9_top yX9_top ∈ lwc := nv_0 (List.mem_of_getElem? (i := 55) rfl) rfl
theorem m_184 : Cond.fieldLink RX9 289 "GooseLettersModel" "newKind" "I" ∈ lwc := nv_4 (List.mem_of_getElem? (i := 199) rfl) rfl
theorem m_185 : Cond.code yX9_oneIsOver cX9_oneIsOver 1 none ∈ lwc := nv_6 (List.mem_of_getElem? (i := 31) rfl) rfl
theorem m_186 : Cond.methodLink RX9 286 yX9_oneIsOver ∈ lwc := nv_6 (List.mem_of_getElem? (i := 28) rfl) rfl
theorem m_187 : Cond.instanceMethod yX9_oneIsOver ∈ lwc := nv_6 (List.mem_of_getElem? (i := 30) rfl) rfl
theorem m_188 : Cond.selects RX9 yX9_oneIsOver yX9_oneIsOver ∈ lwc := nv_0 (List.mem_of_getElem? (i := 54) rfl) rfl
theorem m_189 : Cond.code yX9_isSign cX9_isSign 2 (some .boolean) ∈ lwc := nv_6 (List.mem_of_getElem? (i := 39) rfl) rfl
theorem m_190 : Cond.methodLink RX9 292 yX9_isSign ∈ lwc := nv_6 (List.mem_of_getElem? (i := 36) rfl) rfl
theorem m_191 : Cond.instanceMethod yX9_isSign ∈ lwc := nv_6 (List.mem_of_getElem? (i := 38) rfl) rfl
theorem m_192 : Cond.selects RX9 yX9_isSign yX9_isSign ∈ lwc := nv_0 (List.mem_of_getElem? (i := 56) rfl) rfl
theorem m_193 : Cond.fieldLink RX9 311 "GooseLettersModel" "newClauses" "I" ∈ lwc := nv_4 (List.mem_of_getElem? (i := 198) rfl) rfl
theorem m_194 : Cond.code yX9_waitsFor cX9_waitsFor 2 none ∈ lwc := nv_6 (List.mem_of_getElem? (i := 47) rfl) rfl
theorem m_195 : Cond.methodLink RX9 299 yX9_waitsFor ∈ lwc := nv_6 (List.mem_of_getElem? (i := 44) rfl) rfl
theorem m_196 : Cond.instanceMethod yX9_waitsFor ∈ lwc := nv_6 (List.mem_of_getElem? (i := 46) rfl) rfl
theorem m_197 : Cond.selects RX9 yX9_waitsFor yX9_waitsFor ∈ lwc := nv_0 (List.mem_of_getElem? (i := 58) rfl) rfl
theorem m_198 : Cond.code yX9_isAsking cX9_isAsking 1 (some .boolean) ∈ lwc := nv_6 (List.mem_of_getElem? (i := 57) rfl) rfl
theorem m_199 : Cond.methodLink RX9 302 yX9_isAsking ∈ lwc := nv_6 (List.mem_of_getElem? (i := 55) rfl) rfl
theorem m_200 : Cond.static yX9_isAsking ∈ lwc := nv_6 (List.mem_of_getElem? (i := 56) rfl) rfl
theorem m_201 : Cond.fieldLink RX9 54 "GooseLettersModel" "compare" "[I" ∈ lwc := nv_4 (List.mem_of_getElem? (i := 193) rfl) rfl
theorem m_202 : Cond.code yX9_clauseIsOver cX9_clauseIsOver 1 none ∈ lwc := nv_6 (List.mem_of_getElem? (i := 65) rfl) rfl
theorem m_203 : Cond.methodLink RX9 308 yX9_clauseIsOver ∈ lwc := nv_6 (List.mem_of_getElem? (i := 62) rfl) rfl
theorem m_204 : Cond.instanceMethod yX9_clauseIsOver ∈ lwc := nv_6 (List.mem_of_getElem? (i := 64) rfl) rfl
theorem m_205 : Cond.selects RX9 yX9_clauseIsOver yX9_clauseIsOver ∈ lwc := nv_0 (List.mem_of_getElem? (i := 61) rfl) rfl
theorem m_206 : Cond.code yX9_askIsOver cX9_askIsOver 1 none ∈ lwc := nv_6 (List.mem_of_getElem? (i := 61) rfl) rfl
theorem m_207 : Cond.methodLink RX9 305 yX9_askIsOver ∈ lwc := nv_6 (List.mem_of_getElem? (i := 58) rfl) rfl
theorem m_208 : Cond.instanceMethod yX9_askIsOver ∈ lwc := nv_6 (List.mem_of_getElem? (i := 60) rfl) rfl
theorem m_209 : Cond.selects RX9 yX9_askIsOver yX9_askIsOver ∈ lwc := nv_0 (List.mem_of_getElem? (i := 60) rfl) rfl
theorem m_210 : Cond.fieldLink RX9 63 "GooseLettersModel" "newWord" "[I" ∈ lwc := nv_4 (List.mem_of_getElem? (i := 200) rfl) rfl
theorem m_211 : Cond.code yX9_wasTold cX9_wasTold 4 (some .boolean) ∈ lwc := nv_6 (List.mem_of_getElem? (i := 77) rfl) rfl
theorem m_212 : Cond.methodLink RX9 314 yX9_wasTold ∈ lwc := nv_6 (List.mem_of_getElem? (i := 74) rfl) rfl
theorem m_213 : Cond.instanceMethod yX9_wasTold ∈ lwc := nv_6 (List.mem_of_getElem? (i := 76) rfl) rfl
theorem m_214 : Cond.selects RX9 yX9_wasTold yX9_wasTold ∈ lwc := nv_0 (List.mem_of_getElem? (i := 64) rfl) rfl
theorem m_215 : Cond.fieldLink RX9 66 "GooseLettersModel" "newAt" "[I" ∈ lwc := nv_4 (List.mem_of_getElem? (i := 201) rfl) rfl
theorem m_216 : Cond.fieldLink RX9 69 "GooseLettersModel" "newOne" "[I" ∈ lwc := nv_4 (List.mem_of_getElem? (i := 202) rfl) rfl
theorem m_217 : Cond.fieldLink RX9 72 "GooseLettersModel" "newTwo" "[I" ∈ lwc := nv_4 (List.mem_of_getElem? (i := 203) rfl) rfl
theorem m_218 : Cond.fieldLink RX9 75 "GooseLettersModel" "newThree" "[I" ∈ lwc := nv_4 (List.mem_of_getElem? (i := 204) rfl) rfl
theorem m_219 : Cond.code yX9_number cX9_number 4 (some .int) ∈ lwc := nv_6 (List.mem_of_getElem? (i := 81) rfl) rfl
theorem m_220 : Cond.methodLink RX9 317 yX9_number ∈ lwc := nv_6 (List.mem_of_getElem? (i := 78) rfl) rfl
theorem m_221 : Cond.instanceMethod yX9_number ∈ lwc := nv_6 (List.mem_of_getElem? (i := 80) rfl) rfl
theorem m_222 : Cond.selects RX9 yX9_number yX9_number ∈ lwc := nv_0 (List.mem_of_getElem? (i := 65) rfl) rfl
theorem m_223 : Cond.code yX9_wants cX9_wants 2 none ∈ lwc := nv_6 (List.mem_of_getElem? (i := 85) rfl) rfl
theorem m_224 : Cond.methodLink RX9 320 yX9_wants ∈ lwc := nv_6 (List.mem_of_getElem? (i := 82) rfl) rfl
theorem m_225 : Cond.instanceMethod yX9_wants ∈ lwc := nv_6 (List.mem_of_getElem? (i := 84) rfl) rfl
theorem m_226 : Cond.selects RX9 yX9_wants yX9_wants ∈ lwc := nv_0 (List.mem_of_getElem? (i := 66) rfl) rfl
theorem m_227 : Cond.fieldLink RX9 20 "GooseLettersModel" "fault" "I" ∈ lwc := nv_4 (List.mem_of_getElem? (i := 173) rfl) rfl
theorem m_228 : Cond.fieldLink RX9 24 "GooseLettersModel" "faultAt" "I" ∈ lwc := nv_4 (List.mem_of_getElem? (i := 174) rfl) rfl
theorem m_229 : Cond.fieldLink RX9 27 "GooseLettersModel" "clauses" "[I" ∈ lwc := nv_4 (List.mem_of_getElem? (i := 175) rfl) rfl
theorem m_230 : Cond.code yX9_asks cX9_asks 2 none ∈ lwc := nv_6 (List.mem_of_getElem? (i := 3) rfl) rfl
theorem m_231 : Cond.methodLink RX9 323 yX9_asks ∈ lwc := nv_6 (List.mem_of_getElem? (i := 0) rfl) rfl
theorem m_232 : Cond.instanceMethod yX9_asks ∈ lwc := nv_6 (List.mem_of_getElem? (i := 2) rfl) rfl
theorem m_233 : Cond.selects RX9 yX9_asks yX9_asks ∈ lwc := nv_0 (List.mem_of_getElem? (i := 47) rfl) rfl
theorem m_234 : Cond.code yX9_begins cX9_begins 2 none ∈ lwc := nv_6 (List.mem_of_getElem? (i := 23) rfl) rfl
theorem m_235 : Cond.methodLink RX9 326 yX9_begins ∈ lwc := nv_6 (List.mem_of_getElem? (i := 20) rfl) rfl
theorem m_236 : Cond.instanceMethod yX9_begins ∈ lwc := nv_6 (List.mem_of_getElem? (i := 22) rfl) rfl
theorem m_237 : Cond.selects RX9 yX9_begins yX9_begins ∈ lwc := nv_0 (List.mem_of_getElem? (i := 52) rfl) rfl
theorem m_238 : Cond.code yX9_goesOn cX9_goesOn 3 none ∈ lwc := nv_6 (List.mem_of_getElem? (i := 43) rfl) rfl
theorem m_239 : Cond.methodLink RX9 329 yX9_goesOn ∈ lwc := nv_6 (List.mem_of_getElem? (i := 40) rfl) rfl
theorem m_240 : Cond.instanceMethod yX9_goesOn ∈ lwc := nv_6 (List.mem_of_getElem? (i := 42) rfl) rfl
theorem m_241 : Cond.selects RX9 yX9_goesOn yX9_goesOn ∈ lwc := nv_0 (List.mem_of_getElem? (i := 57) rfl) rfl
theorem m_242 : Cond.code yX9_asksOn cX9_asksOn 1 none ∈ lwc := nv_6 (List.mem_of_getElem? (i := 69) rfl) rfl
theorem m_243 : Cond.methodLink RX9 332 yX9_asksOn ∈ lwc := nv_6 (List.mem_of_getElem? (i := 66) rfl) rfl
theorem m_244 : Cond.instanceMethod yX9_asksOn ∈ lwc := nv_6 (List.mem_of_getElem? (i := 68) rfl) rfl
theorem m_245 : Cond.selects RX9 yX9_asksOn yX9_asksOn ∈ lwc := nv_0 (List.mem_of_getElem? (i := 62) rfl) rfl
theorem m_246 : Cond.code yX9_clause cX9_clause 1 none ∈ lwc := nv_6 (List.mem_of_getElem? (i := 73) rfl) rfl
theorem m_247 : Cond.methodLink RX9 335 yX9_clause ∈ lwc := nv_6 (List.mem_of_getElem? (i := 70) rfl) rfl
theorem m_248 : Cond.instanceMethod yX9_clause ∈ lwc := nv_6 (List.mem_of_getElem? (i := 72) rfl) rfl
theorem m_249 : Cond.selects RX9 yX9_clause yX9_clause ∈ lwc := nv_0 (List.mem_of_getElem? (i := 63) rfl) rfl
theorem m_250 : Cond.fieldLink RX9 30 "GooseLettersModel" "clauseWord" "[I" ∈ lwc := nv_4 (List.mem_of_getElem? (i := 176) rfl) rfl
theorem m_251 : Cond.fieldLink RX9 33 "GooseLettersModel" "clauseAt" "[I" ∈ lwc := nv_4 (List.mem_of_getElem? (i := 177) rfl) rfl
theorem m_252 : Cond.fieldLink RX9 36 "GooseLettersModel" "clauseOne" "[I" ∈ lwc := nv_4 (List.mem_of_getElem? (i := 178) rfl) rfl
theorem m_253 : Cond.fieldLink RX9 39 "GooseLettersModel" "clauseTwo" "[I" ∈ lwc := nv_4 (List.mem_of_getElem? (i := 179) rfl) rfl
theorem m_254 : Cond.fieldLink RX9 42 "GooseLettersModel" "clauseThree" "[I" ∈ lwc := nv_4 (List.mem_of_getElem? (i := 180) rfl) rfl
theorem m_255 : Cond.fieldLink RX9 45 "GooseLettersModel" "order" "[I" ∈ lwc := nv_4 (List.mem_of_getElem? (i := 181) rfl) rfl
theorem m_256 : Cond.fieldLink RX9 48 "GooseLettersModel" "value" "[I" ∈ lwc := nv_4 (List.mem_of_getElem? (i := 182) rfl) rfl
theorem m_257 : Cond.fieldLink RX9 87 "GooseLettersModel" "pile" "[J" ∈ lwc := nv_4 (List.mem_of_getElem? (i := 209) rfl) rfl
theorem m_258 : Cond.code yX9_worked cX9_worked 5 (some .long) ∈ lwc := nv_5 (List.mem_of_getElem? (i := 153) rfl) rfl
theorem m_259 : Cond.methodLink RX9 346 yX9_worked ∈ lwc := nv_5 (List.mem_of_getElem? (i := 151) rfl) rfl
theorem m_260 : Cond.static yX9_worked ∈ lwc := nv_5 (List.mem_of_getElem? (i := 152) rfl) rfl
theorem m_261 : Cond.fieldLink RX9 84 "GooseLettersModel" "name" "[I" ∈ lwc := nv_4 (List.mem_of_getElem? (i := 208) rfl) rfl
theorem m_262 : Cond.code yX9_ordersOf cX9_ordersOf 5 (some .int) ∈ lwc := nv_5 (List.mem_of_getElem? (i := 142) rfl) rfl
theorem m_263 : Cond.methodLink RX9 350 yX9_ordersOf ∈ lwc := nv_5 (List.mem_of_getElem? (i := 139) rfl) rfl
theorem m_264 : Cond.instanceMethod yX9_ordersOf ∈ lwc := nv_5 (List.mem_of_getElem? (i := 141) rfl) rfl
theorem m_265 : Cond.selects RX9 yX9_ordersOf yX9_ordersOf ∈ lwc := nv_0 (List.mem_of_getElem? (i := 39) rfl) rfl
theorem m_266 : Cond.code yX9_names cX9_names 5 none ∈ lwc := nv_5 (List.mem_of_getElem? (i := 146) rfl) rfl
theorem m_267 : Cond.methodLink RX9 353 yX9_names ∈ lwc := nv_5 (List.mem_of_getElem? (i := 143) rfl) rfl
theorem m_268 : Cond.instanceMethod yX9_names ∈ lwc := nv_5 (List.mem_of_getElem? (i := 145) rfl) rfl
theorem m_269 : Cond.selects RX9 yX9_names yX9_names ∈ lwc := nv_0 (List.mem_of_getElem? (i := 40) rfl) rfl
theorem m_270 : Cond.code yX9_saysOf cX9_saysOf 5 (some .long) ∈ lwc := nv_5 (List.mem_of_getElem? (i := 150) rfl) rfl
theorem m_271 : Cond.methodLink RX9 356 yX9_saysOf ∈ lwc := nv_5 (List.mem_of_getElem? (i := 147) rfl) rfl
theorem m_272 : Cond.instanceMethod yX9_saysOf ∈ lwc := nv_5 (List.mem_of_getElem? (i := 149) rfl) rfl
theorem m_273 : Cond.selects RX9 yX9_saysOf yX9_saysOf ∈ lwc := nv_0 (List.mem_of_getElem? (i := 41) rfl) rfl
theorem m_274 : Cond.code yX9_held cX9_held 4 (some .int) ∈ lwc := nv_5 (List.mem_of_getElem? (i := 161) rfl) rfl
theorem m_275 : Cond.methodLink RX9 360 yX9_held ∈ lwc := nv_5 (List.mem_of_getElem? (i := 159) rfl) rfl
theorem m_276 : Cond.static yX9_held ∈ lwc := nv_5 (List.mem_of_getElem? (i := 160) rfl) rfl
theorem m_277 : Cond.code yX9_isQuill cX9_isQuill 2 (some .boolean) ∈ lwc := nv_5 (List.mem_of_getElem? (i := 134) rfl) rfl
theorem m_278 : Cond.methodLink RX9 145 yX9_isQuill ∈ lwc := nv_5 (List.mem_of_getElem? (i := 132) rfl) rfl
theorem m_279 : Cond.static yX9_isQuill ∈ lwc := nv_5 (List.mem_of_getElem? (i := 133) rfl) rfl
theorem m_280 : Cond.code yX9_inkOf cX9_inkOf 5 (some .int) ∈ lwc := nv_5 (List.mem_of_getElem? (i := 138) rfl) rfl
theorem m_281 : Cond.methodLink RX9 149 yX9_inkOf ∈ lwc := nv_5 (List.mem_of_getElem? (i := 135) rfl) rfl
theorem m_282 : Cond.instanceMethod yX9_inkOf ∈ lwc := nv_5 (List.mem_of_getElem? (i := 137) rfl) rfl
theorem m_283 : Cond.selects RX9 yX9_inkOf yX9_inkOf ∈ lwc := nv_0 (List.mem_of_getElem? (i := 38) rfl) rfl
theorem m_284 : Cond.code yX9_isHome cX9_isHome 2 (some .boolean) ∈ lwc := nv_5 (List.mem_of_getElem? (i := 123) rfl) rfl
theorem m_285 : Cond.methodLink RX9 142 yX9_isHome ∈ lwc := nv_5 (List.mem_of_getElem? (i := 120) rfl) rfl
theorem m_286 : Cond.instanceMethod yX9_isHome ∈ lwc := nv_5 (List.mem_of_getElem? (i := 122) rfl) rfl
theorem m_287 : Cond.selects RX9 yX9_isHome yX9_isHome ∈ lwc := nv_0 (List.mem_of_getElem? (i := 35) rfl) rfl
theorem m_288 : Cond.code yX9_keepsStep cX9_keepsStep 2 none ∈ lwc := nv_5 (List.mem_of_getElem? (i := 165) rfl) rfl
theorem m_289 : Cond.methodLink RX9 153 yX9_keepsStep ∈ lwc := nv_5 (List.mem_of_getElem? (i := 162) rfl) rfl
theorem m_290 : Cond.instanceMethod yX9_keepsStep ∈ lwc := nv_5 (List.mem_of_getElem? (i := 164) rfl) rfl
theorem m_291 : Cond.selects RX9 yX9_keepsStep yX9_keepsStep ∈ lwc := nv_0 (List.mem_of_getElem? (i := 42) rfl) rfl
theorem m_292 : Cond.code yX9_puts cX9_puts 4 none ∈ lwc := nv_5 (List.mem_of_getElem? (i := 169) rfl) rfl
theorem m_293 : Cond.methodLink RX9 156 yX9_puts ∈ lwc := nv_5 (List.mem_of_getElem? (i := 166) rfl) rfl
theorem m_294 : Cond.instanceMethod yX9_puts ∈ lwc := nv_5 (List.mem_of_getElem? (i := 168) rfl) rfl
theorem m_295 : Cond.selects RX9 yX9_puts yX9_puts ∈ lwc := nv_0 (List.mem_of_getElem? (i := 43) rfl) rfl
theorem m_296 : Cond.code yX9_marketTells cX9_marketTells 10 (some .int) ∈ lwc := nv_6 (List.mem_of_getElem? (i := 117) rfl) rfl
theorem m_297 : Cond.methodLink RX9 364 yX9_marketTells ∈ lwc := nv_6 (List.mem_of_getElem? (i := 114) rfl) rfl
theorem m_298 : Cond.instanceMethod yX9_marketTells ∈ lwc := nv_6 (List.mem_of_getElem? (i := 116) rfl) rfl
theorem m_299 : Cond.selects RX9 yX9_marketTells yX9_marketTells ∈ lwc := nv_0 (List.mem_of_getElem? (i := 70) rfl) rfl
theorem m_300 : Cond.code yX9_isTrueBy cX9_isTrueBy 6 (some .boolean) ∈ lwc := nv_6 (List.mem_of_getElem? (i := 145) rfl) rfl
theorem m_301 : Cond.methodLink RX9 368 yX9_isTrueBy ∈ lwc := nv_6 (List.mem_of_getElem? (i := 142) rfl) rfl
theorem m_302 : Cond.instanceMethod yX9_isTrueBy ∈ lwc := nv_6 (List.mem_of_getElem? (i := 144) rfl) rfl
theorem m_303 : Cond.selects RX9 yX9_isTrueBy yX9_isTrueBy ∈ lwc := nv_0 (List.mem_of_getElem? (i := 74) rfl) rfl
theorem m_304 : Cond.code yX9_draw cX9_draw 2 (some .int) ∈ lwc := nv_6 (List.mem_of_getElem? (i := 109) rfl) rfl
theorem m_305 : Cond.methodLink RX9 372 yX9_draw ∈ lwc := nv_6 (List.mem_of_getElem? (i := 106) rfl) rfl
theorem m_306 : Cond.instanceMethod yX9_draw ∈ lwc := nv_6 (List.mem_of_getElem? (i := 108) rfl) rfl
theorem m_307 : Cond.selects RX9 yX9_draw yX9_draw ∈ lwc := nv_0 (List.mem_of_getElem? (i := 68) rfl) rfl
theorem m_308 : Cond.code yX9_marketOf cX9_marketOf 3 (some .int) ∈ lwc := nv_6 (List.mem_of_getElem? (i := 113) rfl) rfl
theorem m_309 : Cond.methodLink RX9 375 yX9_marketOf ∈ lwc := nv_6 (List.mem_of_getElem? (i := 110) rfl) rfl
theorem m_310 : Cond.instanceMethod yX9_marketOf ∈ lwc := nv_6 (List.mem_of_getElem? (i := 112) rfl) rfl
theorem m_311 : Cond.selects RX9 yX9_marketOf yX9_marketOf ∈ lwc := nv_0 (List.mem_of_getElem? (i := 69) rfl) rfl
theorem m_312 : Cond.code yX9_hungers cX9_hungers 3 none ∈ lwc := nv_6 (List.mem_of_getElem? (i := 121) rfl) rfl
theorem m_313 : Cond.methodLink RX9 384 yX9_hungers ∈ lwc := nv_6 (List.mem_of_getElem? (i := 118) rfl) rfl
theorem m_314 : Cond.instanceMethod yX9_hungers ∈ lwc := nv_6 (List.mem_of_getElem? (i := 120) rfl) rfl
theorem m_315 : Cond.selects RX9 yX9_hungers yX9_hungers ∈ lwc := nv_0 (List.mem_of_getElem? (i := 71) rfl) rfl
theorem m_316 : Cond.code yX9_comesThere cX9_comesThere 4 none ∈ lwc := nv_6 (List.mem_of_getElem? (i := 105) rfl) rfl
theorem m_317 : Cond.methodLink RX9 381 yX9_comesThere ∈ lwc := nv_6 (List.mem_of_getElem? (i := 102) rfl) rfl
theorem m_318 : Cond.instanceMethod yX9_comesThere ∈ lwc := nv_6 (List.mem_of_getElem? (i := 104) rfl) rfl
theorem m_319 : Cond.selects RX9 yX9_comesThere yX9_comesThere ∈ lwc := nv_0 (List.mem_of_getElem? (i := 67) rfl) rfl
theorem m_320 : Cond.code yX9_fill cX9_fill 5 (some .int) ∈ lwc := nv_5 (List.mem_of_getElem? (i := 119) rfl) rfl
theorem m_321 : Cond.methodLink RX9 387 yX9_fill ∈ lwc := nv_6 (List.mem_of_getElem? (i := 130) rfl) rfl
theorem m_322 : Cond.instanceMethod yX9_fill ∈ lwc := nv_5 (List.mem_of_getElem? (i := 117) rfl) rfl
theorem m_323 : Cond.selects RX9 yX9_fill yX9_fill ∈ lwc := nv_5 (List.mem_of_getElem? (i := 118) rfl) rfl
theorem m_324 : Cond.code yX9_send cX9_send 3 (some .int) ∈ lwc := nv_5 (List.mem_of_getElem? (i := 173) rfl) rfl
theorem m_325 : Cond.methodLink RX9 390 yX9_send ∈ lwc := nv_6 (List.mem_of_getElem? (i := 131) rfl) rfl
theorem m_326 : Cond.instanceMethod yX9_send ∈ lwc := nv_5 (List.mem_of_getElem? (i := 171) rfl) rfl
theorem m_327 : Cond.selects RX9 yX9_send yX9_send ∈ lwc := nv_5 (List.mem_of_getElem? (i := 172) rfl) rfl
theorem m_328 : Cond.code yX9_fatten cX9_fatten 2 (some .int) ∈ lwc := nv_5 (List.mem_of_getElem? (i := 181) rfl) rfl
theorem m_329 : Cond.methodLink RX9 393 yX9_fatten ∈ lwc := nv_6 (List.mem_of_getElem? (i := 132) rfl) rfl
theorem m_330 : Cond.instanceMethod yX9_fatten ∈ lwc := nv_5 (List.mem_of_getElem? (i := 179) rfl) rfl
theorem m_331 : Cond.selects RX9 yX9_fatten yX9_fatten ∈ lwc := nv_5 (List.mem_of_getElem? (i := 180) rfl) rfl
theorem m_332 : Cond.code yX9_pass cX9_pass 4 (some .int) ∈ lwc := nv_6 (List.mem_of_getElem? (i := 101) rfl) rfl
theorem m_333 : Cond.methodLink RX9 396 yX9_pass ∈ lwc := nv_6 (List.mem_of_getElem? (i := 133) rfl) rfl
theorem m_334 : Cond.instanceMethod yX9_pass ∈ lwc := nv_6 (List.mem_of_getElem? (i := 99) rfl) rfl
theorem m_335 : Cond.selects RX9 yX9_pass yX9_pass ∈ lwc := nv_6 (List.mem_of_getElem? (i := 100) rfl) rfl
theorem m_336 : Cond.code yX9_isTrue cX9_isTrue 2 (some .boolean) ∈ lwc := nv_6 (List.mem_of_getElem? (i := 141) rfl) rfl
theorem m_337 : Cond.methodLink RX9 399 yX9_isTrue ∈ lwc := nv_6 (List.mem_of_getElem? (i := 138) rfl) rfl
theorem m_338 : Cond.instanceMethod yX9_isTrue ∈ lwc := nv_6 (List.mem_of_getElem? (i := 140) rfl) rfl
theorem m_339 : Cond.selects RX9 yX9_isTrue yX9_isTrue ∈ lwc := nv_0 (List.mem_of_getElem? (i := 73) rfl) rfl
theorem m_340 : Cond.code yX9_halves cX9_halves 1 (some .int) ∈ lwc := nv_6 (List.mem_of_getElem? (i := 163) rfl) rfl
theorem m_341 : Cond.methodLink RX9 402 yX9_halves ∈ lwc := nv_6 (List.mem_of_getElem? (i := 161) rfl) rfl
theorem m_342 : Cond.static yX9_halves ∈ lwc := nv_6 (List.mem_of_getElem? (i := 162) rfl) rfl
theorem m_343 : Cond.code yX9_brought cX9_brought 5 (some .int) ∈ lwc := nv_6 (List.mem_of_getElem? (i := 160) rfl) rfl
theorem m_344 : Cond.methodLink RX9 405 yX9_brought ∈ lwc := nv_6 (List.mem_of_getElem? (i := 157) rfl) rfl
theorem m_345 : Cond.instanceMethod yX9_brought ∈ lwc := nv_6 (List.mem_of_getElem? (i := 159) rfl) rfl
theorem m_346 : Cond.selects RX9 yX9_brought yX9_brought ∈ lwc := nv_0 (List.mem_of_getElem? (i := 76) rfl) rfl
theorem m_347 : Cond.code yX9_isLetterNumber cX9_isLetterNumber 1 (some .boolean) ∈ lwc := nv_6 (List.mem_of_getElem? (i := 152) rfl) rfl
theorem m_348 : Cond.methodLink RX9 409 yX9_isLetterNumber ∈ lwc := nv_6 (List.mem_of_getElem? (i := 150) rfl) rfl
theorem m_349 : Cond.static yX9_isLetterNumber ∈ lwc := nv_6 (List.mem_of_getElem? (i := 151) rfl) rfl
theorem m_350 : Cond.code yX9_knownBy cX9_knownBy 6 (some .int) ∈ lwc := nv_6 (List.mem_of_getElem? (i := 156) rfl) rfl
theorem m_351 : Cond.methodLink RX9 412 yX9_knownBy ∈ lwc := nv_6 (List.mem_of_getElem? (i := 153) rfl) rfl
theorem m_352 : Cond.instanceMethod yX9_knownBy ∈ lwc := nv_6 (List.mem_of_getElem? (i := 155) rfl) rfl
theorem m_353 : Cond.selects RX9 yX9_knownBy yX9_knownBy ∈ lwc := nv_0 (List.mem_of_getElem? (i := 75) rfl) rfl
theorem m_354 : Cond.code yX9_led cX9_led 6 (some .int) ∈ lwc := nv_6 (List.mem_of_getElem? (i := 167) rfl) rfl
theorem m_355 : Cond.methodLink RX9 416 yX9_led ∈ lwc := nv_6 (List.mem_of_getElem? (i := 172) rfl) rfl
theorem m_356 : Cond.instanceMethod yX9_led ∈ lwc := nv_6 (List.mem_of_getElem? (i := 165) rfl) rfl
theorem m_357 : Cond.selects RX9 yX9_led yX9_led ∈ lwc := nv_6 (List.mem_of_getElem? (i := 166) rfl) rfl
theorem m_358 : Cond.fieldLink RX9 91 "GooseLettersModel" "many" "[J" ∈ lwc := nv_4 (List.mem_of_getElem? (i := 210) rfl) rfl
theorem m_359 : Cond.fieldLink RX9 94 "GooseLettersModel" "then" "[J" ∈ lwc := nv_4 (List.mem_of_getElem? (i := 211) rfl) rfl
theorem m_360 : Cond.constantLong RX9 420 (10) ∈ lwc := nv_6 (List.mem_of_getElem? (i := 190) rfl) rfl
theorem m_361 : Cond.code yX9_startsMany cX9_startsMany 4 none ∈ lwc := nv_6 (List.mem_of_getElem? (i := 185) rfl) rfl
theorem m_362 : Cond.methodLink RX9 424 yX9_startsMany ∈ lwc := nv_6 (List.mem_of_getElem? (i := 182) rfl) rfl
theorem m_363 : Cond.instanceMethod yX9_startsMany ∈ lwc := nv_6 (List.mem_of_getElem? (i := 184) rfl) rfl
theorem m_364 : Cond.selects RX9 yX9_startsMany yX9_startsMany ∈ lwc := nv_0 (List.mem_of_getElem? (i := 77) rfl) rfl
theorem m_365 : Cond.constantLong RX9 422 (-1) ∈ lwc := nv_6 (List.mem_of_getElem? (i := 181) rfl) rfl
theorem m_366 : Cond.code yX9_manyOf cX9_manyOf 7 (some .long) ∈ lwc := nv_6 (List.mem_of_getElem? (i := 195) rfl) rfl
theorem m_367 : Cond.methodLink RX9 433 yX9_manyOf ∈ lwc := nv_6 (List.mem_of_getElem? (i := 192) rfl) rfl
theorem m_368 : Cond.instanceMethod yX9_manyOf ∈ lwc := nv_6 (List.mem_of_getElem? (i := 194) rfl) rfl
theorem m_369 : Cond.selects RX9 yX9_manyOf yX9_manyOf ∈ lwc := nv_0 (List.mem_of_getElem? (i := 79) rfl) rfl
theorem m_370 : Cond.code yX9_comesMany cX9_comesMany 8 none ∈ lwc := nv_6 (List.mem_of_getElem? (i := 189) rfl) rfl
theorem m_371 : Cond.methodLink RX9 427 yX9_comesMany ∈ lwc := nv_6 (List.mem_of_getElem? (i := 186) rfl) rfl
theorem m_372 : Cond.instanceMethod yX9_comesMany ∈ lwc := nv_6 (List.mem_of_getElem? (i := 188) rfl) rfl
theorem m_373 : Cond.selects RX9 yX9_comesMany yX9_comesMany ∈ lwc := nv_0 (List.mem_of_getElem? (i := 78) rfl) rfl
theorem m_374 : Cond.constantLong RX9 431 (100) ∈ lwc := nv_6 (List.mem_of_getElem? (i := 191) rfl) rfl
theorem m_375 : Cond.fieldLink RX9 436 "GooseLettersModel" "flocks" "I" ∈ lwc := nv_4 (List.mem_of_getElem? (i := 216) rfl) rfl
theorem m_376 : Cond.fieldLink RX9 107 "GooseLettersModel" "flock" "[I" ∈ lwc := nv_4 (List.mem_of_getElem? (i := 215) rfl) rfl
theorem m_377 : Cond.fieldLink RX9 97 "GooseLettersModel" "eats" "[I" ∈ lwc := nv_4 (List.mem_of_getElem? (i := 212) rfl) rfl
theorem m_378 : Cond.fieldLink RX9 100 "GooseLettersModel" "reads" "[I" ∈ lwc := nv_4 (List.mem_of_getElem? (i := 213) rfl) rfl
theorem m_379 : Cond.fieldLink RX9 103 "GooseLettersModel" "trues" "[Z" ∈ lwc := nv_4 (List.mem_of_getElem? (i := 214) rfl) rfl
theorem m_380 : Cond.fieldLink RX9 439 "GooseLettersModel" "bestEnemy" "J" ∈ lwc := nv_4 (List.mem_of_getElem? (i := 221) rfl) rfl
theorem m_381 : Cond.fieldLink RX9 110 "GooseLettersModel" "chosen" "[I" ∈ lwc := nv_4 (List.mem_of_getElem? (i := 217) rfl) rfl
theorem m_382 : Cond.fieldLink RX9 113 "GooseLettersModel" "does" "[I" ∈ lwc := nv_4 (List.mem_of_getElem? (i := 218) rfl) rfl
theorem m_383 : Cond.fieldLink RX9 116 "GooseLettersModel" "bestChosen" "[I" ∈ lwc := nv_4 (List.mem_of_getElem? (i := 219) rfl) rfl
theorem m_384 : Cond.fieldLink RX9 119 "GooseLettersModel" "bestDoes" "[I" ∈ lwc := nv_4 (List.mem_of_getElem? (i := 220) rfl) rfl
theorem m_385 : Cond.code yX9_asksPlan cX9_asksPlan 8 none ∈ lwc := nv_6 (List.mem_of_getElem? (i := 215) rfl) rfl
theorem m_386 : Cond.methodLink RX9 443 yX9_asksPlan ∈ lwc := nv_6 (List.mem_of_getElem? (i := 212) rfl) rfl
theorem m_387 : Cond.instanceMethod yX9_asksPlan ∈ lwc := nv_6 (List.mem_of_getElem? (i := 214) rfl) rfl
theorem m_388 : Cond.selects RX9 yX9_asksPlan yX9_asksPlan ∈ lwc := nv_0 (List.mem_of_getElem? (i := 83) rfl) rfl
theorem m_389 : Cond.code yX9_triesDoings cX9_triesDoings 7 none ∈ lwc := nv_6 (List.mem_of_getElem? (i := 211) rfl) rfl
theorem m_390 : Cond.methodLink RX9 446 yX9_triesDoings ∈ lwc := nv_6 (List.mem_of_getElem? (i := 208) rfl) rfl
theorem m_391 : Cond.instanceMethod yX9_triesDoings ∈ lwc := nv_6 (List.mem_of_getElem? (i := 210) rfl) rfl
theorem m_392 : Cond.selects RX9 yX9_triesDoings yX9_triesDoings ∈ lwc := nv_0 (List.mem_of_getElem? (i := 82) rfl) rfl
theorem m_393 : Cond.code yX9_laysFlock cX9_laysFlock 6 none ∈ lwc := nv_6 (List.mem_of_getElem? (i := 203) rfl) rfl
theorem m_394 : Cond.methodLink RX9 449 yX9_laysFlock ∈ lwc := nv_6 (List.mem_of_getElem? (i := 200) rfl) rfl
theorem m_395 : Cond.instanceMethod yX9_laysFlock ∈ lwc := nv_6 (List.mem_of_getElem? (i := 202) rfl) rfl
theorem m_396 : Cond.selects RX9 yX9_laysFlock yX9_laysFlock ∈ lwc := nv_0 (List.mem_of_getElem? (i := 80) rfl) rfl
theorem m_397 : Cond.code yX9_plansOf cX9_plansOf 9 (some .boolean) ∈ lwc := nv_6 (List.mem_of_getElem? (i := 207) rfl) rfl
theorem m_398 : Cond.methodLink RX9 452 yX9_plansOf ∈ lwc := nv_6 (List.mem_of_getElem? (i := 204) rfl) rfl
theorem m_399 : Cond.instanceMethod yX9_plansOf ∈ lwc := nv_6 (List.mem_of_getElem? (i := 206) rfl) rfl
theorem m_400 : Cond.selects RX9 yX9_plansOf yX9_plansOf ∈ lwc := nv_0 (List.mem_of_getElem? (i := 81) rfl) rfl
theorem m_401 : Cond.fieldLink RX5 15 "GooseLetters$Tape" "length" "I" ∈ lwc := nv_1 (List.mem_of_getElem? (i := 92) rfl) rfl
theorem m_402 : Cond.fieldLink RX5 9 "GooseLetters$Tape" "bytes" "[I" ∈ lwc := nv_1 (List.mem_of_getElem? (i := 91) rfl) rfl
theorem m_403 : Cond.fieldLink RX7 25 "GooseLetters$Tokens" "at" "I" ∈ lwc := nv_1 (List.mem_of_getElem? (i := 110) rfl) rfl
theorem m_404 : Cond.fieldLink RX7 21 "GooseLetters$Tokens" "count" "I" ∈ lwc := nv_1 (List.mem_of_getElem? (i := 109) rfl) rfl
theorem m_405 : Cond.fieldLink RX7 9 "GooseLetters$Tokens" "kinds" "[I" ∈ lwc := nv_1 (List.mem_of_getElem? (i := 106) rfl) rfl
theorem m_406 : Cond.fieldLink RX7 15 "GooseLetters$Tokens" "starts" "[I" ∈ lwc := nv_1 (List.mem_of_getElem? (i := 107) rfl) rfl
theorem m_407 : Cond.fieldLink RX7 18 "GooseLetters$Tokens" "values" "[I" ∈ lwc := nv_1 (List.mem_of_getElem? (i := 108) rfl) rfl
theorem m_408 : Cond.fieldLink RX7 28 "GooseLetters$Tape" "length" "I" ∈ lwc := nv_1 (List.mem_of_getElem? (i := 93) rfl) rfl
theorem m_409 : Cond.code yX5_byteAt cX5_byteAt 2 (some .int) ∈ lwc := nv_3 (List.mem_of_getElem? (i := 35) rfl) rfl
theorem m_410 : Cond.methodLink RX7 33 yX5_byteAt ∈ lwc := nv_3 (List.mem_of_getElem? (i := 32) rfl) rfl
theorem m_411 : Cond.instanceMethod yX5_byteAt ∈ lwc := nv_3 (List.mem_of_getElem? (i := 33) rfl) rfl
theorem m_412 : Cond.selects RX5 yX5_byteAt yX5_byteAt ∈ lwc := nv_3 (List.mem_of_getElem? (i := 34) rfl) rfl
theorem m_413 : Cond.initialized RX5 ∈ lwc := nv_1 (List.mem_of_getElem? (i := 3) rfl) rfl
theorem m_414 : Cond.code yX7_isNumeral cX7_isNumeral 1 (some .boolean) ∈ lwc := nv_3 (List.mem_of_getElem? (i := 104) rfl) rfl
theorem m_415 : Cond.methodLink RX7 48 yX7_isNumeral ∈ lwc := nv_3 (List.mem_of_getElem? (i := 102) rfl) rfl
theorem m_416 : Cond.static yX7_isNumeral ∈ lwc := nv_3 (List.mem_of_getElem? (i := 103) rfl) rfl
theorem m_417 : Cond.initialized RX7 ∈ lwc := nv_1 (List.mem_of_getElem? (i := 4) rfl) rfl
theorem m_418 : Cond.methodLink RX7 76 Lib.Math.min.name ∈ lwc := nv_3 (List.mem_of_getElem? (i := 109) rfl) rfl
theorem m_419 : Cond.code yX7_add cX7_add 4 none ∈ lwc := nv_3 (List.mem_of_getElem? (i := 101) rfl) rfl
theorem m_420 : Cond.methodLink RX7 57 yX7_add ∈ lwc := nv_3 (List.mem_of_getElem? (i := 98) rfl) rfl
theorem m_421 : Cond.instanceMethod yX7_add ∈ lwc := nv_3 (List.mem_of_getElem? (i := 100) rfl) rfl
theorem m_422 : Cond.selects RX7 yX7_add yX7_add ∈ lwc := nv_0 (List.mem_of_getElem? (i := 7) rfl) rfl
theorem m_423 : Cond.code yX7_signKind cX7_signKind 1 (some .int) ∈ lwc := nv_3 (List.mem_of_getElem? (i := 116) rfl) rfl
theorem m_424 : Cond.methodLink RX7 82 yX7_signKind ∈ lwc := nv_3 (List.mem_of_getElem? (i := 114) rfl) rfl
theorem m_425 : Cond.static yX7_signKind ∈ lwc := nv_3 (List.mem_of_getElem? (i := 115) rfl) rfl
theorem m_426 : Cond.fieldLink RX1 24 "GooseLetters$Laws" "top" "I" ∈ lwc := nv_1 (List.mem_of_getElem? (i := 177) rfl) rfl
theorem m_427 : Cond.fieldLink RX1 21 "GooseLetters$Laws" "stack" "[I" ∈ lwc := nv_1 (List.mem_of_getElem? (i := 176) rfl) rfl
theorem m_428 : Cond.constantLong RX1 105 (1000000) ∈ lwc := nv_2 (List.mem_of_getElem? (i := 153) rfl) rfl
theorem m_429 : Cond.constantLong RX1 108 (-1000000) ∈ lwc := nv_2 (List.mem_of_getElem? (i := 155) rfl) rfl
theorem m_430 : Cond.constant RX1 110 (-1000000) ∈ lwc := nv_2 (List.mem_of_getElem? (i := 156) rfl) rfl
theorem m_431 : Cond.constant RX1 107 (1000000) ∈ lwc := nv_2 (List.mem_of_getElem? (i := 154) rfl) rfl
theorem m_432 : Cond.code yX1_pop cX1_pop 1 (some .int) ∈ lwc := nv_2 (List.mem_of_getElem? (i := 160) rfl) rfl
theorem m_433 : Cond.methodLink RX1 85 yX1_pop ∈ lwc := nv_2 (List.mem_of_getElem? (i := 157) rfl) rfl
theorem m_434 : Cond.instanceMethod yX1_pop ∈ lwc := nv_2 (List.mem_of_getElem? (i := 159) rfl) rfl
theorem m_435 : Cond.selects RX1 yX1_pop yX1_pop ∈ lwc := nv_0 (List.mem_of_getElem? (i := 3) rfl) rfl
theorem m_436 : Cond.initialized RX1 ∈ lwc := nv_1 (List.mem_of_getElem? (i := 6) rfl) rfl
theorem m_437 : Cond.code yX1_push cX1_push 3 none ∈ lwc := nv_2 (List.mem_of_getElem? (i := 152) rfl) rfl
theorem m_438 : Cond.methodLink RX1 97 yX1_push ∈ lwc := nv_2 (List.mem_of_getElem? (i := 149) rfl) rfl
theorem m_439 : Cond.instanceMethod yX1_push ∈ lwc := nv_2 (List.mem_of_getElem? (i := 151) rfl) rfl
theorem m_440 : Cond.selects RX1 yX1_push yX1_push ∈ lwc := nv_0 (List.mem_of_getElem? (i := 2) rfl) rfl
theorem m_441 : Cond.code yX1_joined cX1_joined 5 (some .long) ∈ lwc := nv_2 (List.mem_of_getElem? (i := 163) rfl) rfl
theorem m_442 : Cond.methodLink RX1 101 yX1_joined ∈ lwc := nv_2 (List.mem_of_getElem? (i := 161) rfl) rfl
theorem m_443 : Cond.static yX1_joined ∈ lwc := nv_2 (List.mem_of_getElem? (i := 162) rfl) rfl
theorem m_444 : Cond.fieldLink RX1 17 "GooseLetters$Laws" "names" "[I" ∈ lwc := nv_1 (List.mem_of_getElem? (i := 175) rfl) rfl
theorem m_445 : Cond.methodLink RX1 29 yX4_ofGoose ∈ lwc := nv_2 (List.mem_of_getElem? (i := 116) rfl) rfl
theorem m_446 : Cond.fieldLink RX1 35 "GooseLetters$State" "day" "I" ∈ lwc := nv_1 (List.mem_of_getElem? (i := 44) rfl) rfl
theorem m_447 : Cond.code yX1_lookAt cX1_lookAt 3 none ∈ lwc := nv_2 (List.mem_of_getElem? (i := 115) rfl) rfl
theorem m_448 : Cond.methodLink RX1 38 yX1_lookAt ∈ lwc := nv_2 (List.mem_of_getElem? (i := 112) rfl) rfl
theorem m_449 : Cond.instanceMethod yX1_lookAt ∈ lwc := nv_2 (List.mem_of_getElem? (i := 113) rfl) rfl
theorem m_450 : Cond.selects RX1 yX1_lookAt yX1_lookAt ∈ lwc := nv_2 (List.mem_of_getElem? (i := 114) rfl) rfl
theorem m_451 : Cond.code yX4_ofMarket cX4_ofMarket 3 (some .int) ∈ lwc := nv_2 (List.mem_of_getElem? (i := 194) rfl) rfl
theorem m_452 : Cond.methodLink RX1 42 yX4_ofMarket ∈ lwc := nv_2 (List.mem_of_getElem? (i := 227) rfl) rfl
theorem m_453 : Cond.instanceMethod yX4_ofMarket ∈ lwc := nv_2 (List.mem_of_getElem? (i := 192) rfl) rfl
theorem m_454 : Cond.selects RX4 yX4_ofMarket yX4_ofMarket ∈ lwc := nv_2 (List.mem_of_getElem? (i := 193) rfl) rfl
theorem m_455 : Cond.code yX1_lookAtMarket cX1_lookAtMarket 4 none ∈ lwc := nv_2 (List.mem_of_getElem? (i := 226) rfl) rfl
theorem m_456 : Cond.methodLink RX1 45 yX1_lookAtMarket ∈ lwc := nv_2 (List.mem_of_getElem? (i := 223) rfl) rfl
theorem m_457 : Cond.instanceMethod yX1_lookAtMarket ∈ lwc := nv_2 (List.mem_of_getElem? (i := 224) rfl) rfl
theorem m_458 : Cond.selects RX1 yX1_lookAtMarket yX1_lookAtMarket ∈ lwc := nv_2 (List.mem_of_getElem? (i := 225) rfl) rfl
theorem m_459 : Cond.fieldLink RX6 15 "GooseLetters$Text" "clauseCount" "I" ∈ lwc := nv_1 (List.mem_of_getElem? (i := 154) rfl) rfl
theorem m_460 : Cond.fieldLink RX6 28 "GooseLetters$Text" "stepCount" "I" ∈ lwc := nv_1 (List.mem_of_getElem? (i := 160) rfl) rfl
theorem m_461 : Cond.fieldLink RX6 22 "GooseLetters$Text" "from" "[I" ∈ lwc := nv_1 (List.mem_of_getElem? (i := 158) rfl) rfl
theorem m_462 : Cond.fieldLink RX6 25 "GooseLetters$Text" "to" "[I" ∈ lwc := nv_1 (List.mem_of_getElem? (i := 159) rfl) rfl
theorem m_463 : Cond.fieldLink RX6 19 "GooseLetters$Text" "steps" "[I" ∈ lwc := nv_1 (List.mem_of_getElem? (i := 157) rfl) rfl
theorem m_464 : Cond.fieldLink RX6 9 "GooseLetters$Text" "clauses" "[I" ∈ lwc := nv_1 (List.mem_of_getElem? (i := 153) rfl) rfl
theorem m_465 : Cond.fieldLink RX0 9 "GooseLetters$Chances" "count" "I" ∈ lwc := nv_1 (List.mem_of_getElem? (i := 193) rfl) rfl
theorem m_466 : Cond.fieldLink RX0 15 "GooseLetters$Chances" "total" "J" ∈ lwc := nv_1 (List.mem_of_getElem? (i := 195) rfl) rfl
theorem m_467 : Cond.fieldLink RX0 19 "GooseLetters$Chances" "weights" "[J" ∈ lwc := nv_1 (List.mem_of_getElem? (i := 197) rfl) rfl
theorem m_468 : Cond.fieldLink RX3 41 "GooseLetters$Search" "scale" "J" ∈ lwc := nv_1 (List.mem_of_getElem? (i := 224) rfl) rfl
theorem m_469 : Cond.constantLong RX3 84 (100) ∈ lwc := nv_4 (List.mem_of_getElem? (i := 91) rfl) rfl
theorem m_470 : Cond.fieldLink RX3 45 "GooseLetters$Search" "percent" "I" ∈ lwc := nv_1 (List.mem_of_getElem? (i := 225) rfl) rfl
theorem m_471 : Cond.fieldLink RX3 51 "GooseLetters$Search" "found" "Z" ∈ lwc := nv_1 (List.mem_of_getElem? (i := 227) rfl) rfl
theorem m_472 : Cond.fieldLink RX3 58 "GooseLetters$Search" "bestMiss" "J" ∈ lwc := nv_1 (List.mem_of_getElem? (i := 229) rfl) rfl
theorem m_473 : Cond.fieldLink RX3 55 "GooseLetters$Search" "foundInSet" "Z" ∈ lwc := nv_1 (List.mem_of_getElem? (i := 228) rfl) rfl
theorem m_474 : Cond.fieldLink RX3 61 "GooseLetters$Search" "bestOrder" "I" ∈ lwc := nv_1 (List.mem_of_getElem? (i := 230) rfl) rfl
theorem m_475 : Cond.fieldLink RX3 37 "GooseLetters$Search" "size" "I" ∈ lwc := nv_1 (List.mem_of_getElem? (i := 223) rfl) rfl
theorem m_476 : Cond.fieldLink RX3 31 "GooseLetters$Search" "bestSet" "[I" ∈ lwc := nv_1 (List.mem_of_getElem? (i := 221) rfl) rfl
theorem m_477 : Cond.fieldLink RX3 22 "GooseLetters$Search" "set" "[I" ∈ lwc := nv_1 (List.mem_of_getElem? (i := 218) rfl) rfl
theorem m_478 : Cond.fieldLink RX3 34 "GooseLetters$Search" "bestChoice" "[I" ∈ lwc := nv_1 (List.mem_of_getElem? (i := 222) rfl) rfl
theorem m_479 : Cond.fieldLink RX3 28 "GooseLetters$Search" "markets" "[I" ∈ lwc := nv_1 (List.mem_of_getElem? (i := 220) rfl) rfl
theorem m_480 : Cond.fieldLink RX3 25 "GooseLetters$Search" "parts" "[I" ∈ lwc := nv_1 (List.mem_of_getElem? (i := 219) rfl) rfl
theorem m_481 : Cond.fieldLink RX3 11 "GooseLetters$Search" "friends" "[I" ∈ lwc := nv_1 (List.mem_of_getElem? (i := 215) rfl) rfl
theorem m_482 : Cond.code yX3_missOf cX3_missOf 15 (some .long) ∈ lwc := nv_4 (List.mem_of_getElem? (i := 107) rfl) rfl
theorem m_483 : Cond.methodLink RX3 126 yX3_missOf ∈ lwc := nv_4 (List.mem_of_getElem? (i := 104) rfl) rfl
theorem m_484 : Cond.instanceMethod yX3_missOf ∈ lwc := nv_4 (List.mem_of_getElem? (i := 106) rfl) rfl
theorem m_485 : Cond.selects RX3 yX3_missOf yX3_missOf ∈ lwc := nv_0 (List.mem_of_getElem? (i := 26) rfl) rfl
theorem m_486 : Cond.initialized RX3 ∈ lwc := nv_1 (List.mem_of_getElem? (i := 9) rfl) rfl
theorem m_487 : Cond.code yX3_isEnough cX3_isEnough 3 (some .boolean) ∈ lwc := nv_4 (List.mem_of_getElem? (i := 111) rfl) rfl
theorem m_488 : Cond.methodLink RX3 130 yX3_isEnough ∈ lwc := nv_4 (List.mem_of_getElem? (i := 108) rfl) rfl
theorem m_489 : Cond.instanceMethod yX3_isEnough ∈ lwc := nv_4 (List.mem_of_getElem? (i := 110) rfl) rfl
theorem m_490 : Cond.selects RX3 yX3_isEnough yX3_isEnough ∈ lwc := nv_0 (List.mem_of_getElem? (i := 27) rfl) rfl
theorem m_491 : Cond.fieldLink RX3 15 "GooseLetters$Search" "reads" "[I" ∈ lwc := nv_1 (List.mem_of_getElem? (i := 216) rfl) rfl
theorem m_492 : Cond.code yX3_isBetter cX3_isBetter 3 (some .boolean) ∈ lwc := nv_4 (List.mem_of_getElem? (i := 115) rfl) rfl
theorem m_493 : Cond.methodLink RX3 134 yX3_isBetter ∈ lwc := nv_4 (List.mem_of_getElem? (i := 112) rfl) rfl
theorem m_494 : Cond.instanceMethod yX3_isBetter ∈ lwc := nv_4 (List.mem_of_getElem? (i := 114) rfl) rfl
theorem m_495 : Cond.selects RX3 yX3_isBetter yX3_isBetter ∈ lwc := nv_0 (List.mem_of_getElem? (i := 28) rfl) rfl
theorem m_496 : Cond.code yX3_keep cX3_keep 5 none ∈ lwc := nv_4 (List.mem_of_getElem? (i := 127) rfl) rfl
theorem m_497 : Cond.methodLink RX3 144 yX3_keep ∈ lwc := nv_4 (List.mem_of_getElem? (i := 124) rfl) rfl
theorem m_498 : Cond.instanceMethod yX3_keep ∈ lwc := nv_4 (List.mem_of_getElem? (i := 126) rfl) rfl
theorem m_499 : Cond.selects RX3 yX3_keep yX3_keep ∈ lwc := nv_0 (List.mem_of_getElem? (i := 31) rfl) rfl
theorem m_500 : Cond.fieldLink RJ0 1053 "jdk/internal/util/Preconditions" "SIOOBE_FORMATTER" "Ljava/util/function/BiFunction;" ∈ lwc := nv_3 (List.mem_of_getElem? (i := 74) rfl) rfl
theorem m_501 : Cond.methodLink RJ0 1059 yJ3_checkIndex_8e157 ∈ lwc := nv_3 (List.mem_of_getElem? (i := 76) rfl) rfl
theorem m_502 : Cond.static yJ3_checkIndex_8e157 ∈ lwc := nv_3 (List.mem_of_getElem? (i := 77) rfl) rfl
theorem m_503 : Cond.initialized RJ3 ∈ lwc := nv_1 (List.mem_of_getElem? (i := 15) rfl) rfl
theorem m_504 : Cond.code yJ3_checkIndex_8e157 cJ3_checkIndex_8e157 3 (some .int) ∈ lwc := nv_3 (List.mem_of_getElem? (i := 78) rfl) rfl
theorem m_505 : Cond.fieldLink RJ0 38 "java/lang/String" "COMPACT_STRINGS" "Z" ∈ lwc := nv_3 (List.mem_of_getElem? (i := 58) rfl) rfl
theorem m_506 : Cond.fieldLink RJ0 15 "java/lang/String" "coder" "B" ∈ lwc := nv_6 (List.mem_of_getElem? (i := 233) rfl) rfl
theorem m_507 : Cond.fieldLink RJ0 9 "java/lang/String" "value" "[B" ∈ lwc := nv_6 (List.mem_of_getElem? (i := 232) rfl) rfl
theorem m_508 : Cond.methodLink RJ0 335 yJ0_coder_7d493 ∈ lwc := nv_3 (List.mem_of_getElem? (i := 54) rfl) rfl
theorem m_509 : Cond.instanceMethod yJ0_coder_7d493 ∈ lwc := nv_3 (List.mem_of_getElem? (i := 55) rfl) rfl
theorem m_510 : Cond.selects RJ0 yJ0_coder_7d493 yJ0_coder_7d493 ∈ lwc := nv_3 (List.mem_of_getElem? (i := 56) rfl) rfl
theorem m_511 : Cond.initialized RJ0 ∈ lwc := nv_1 (List.mem_of_getElem? (i := 13) rfl) rfl
theorem m_512 : Cond.code yJ0_coder_7d493 cJ0_coder_7d493 1 (some .byte) ∈ lwc := nv_3 (List.mem_of_getElem? (i := 57) rfl) rfl
theorem m_513 : Cond.methodLink RJ1 9 yJ0_checkIndex_df160 ∈ lwc := nv_3 (List.mem_of_getElem? (i := 71) rfl) rfl
theorem m_514 : Cond.static yJ0_checkIndex_df160 ∈ lwc := nv_3 (List.mem_of_getElem? (i := 72) rfl) rfl
theorem m_515 : Cond.code yJ0_checkIndex_df160 cJ0_checkIndex_df160 2 none ∈ lwc := nv_3 (List.mem_of_getElem? (i := 73) rfl) rfl
theorem m_516 : Cond.methodLink RJ0 492 yJ0_isLatin1_aae02 ∈ lwc := nv_3 (List.mem_of_getElem? (i := 64) rfl) rfl
theorem m_517 : Cond.instanceMethod yJ0_isLatin1_aae02 ∈ lwc := nv_3 (List.mem_of_getElem? (i := 65) rfl) rfl
theorem m_518 : Cond.selects RJ0 yJ0_isLatin1_aae02 yJ0_isLatin1_aae02 ∈ lwc := nv_3 (List.mem_of_getElem? (i := 66) rfl) rfl
theorem m_519 : Cond.code yJ0_isLatin1_aae02 cJ0_isLatin1_aae02 1 (some .boolean) ∈ lwc := nv_3 (List.mem_of_getElem? (i := 67) rfl) rfl
theorem m_520 : Cond.methodLink RJ0 495 yJ1_charAt_3b067 ∈ lwc := nv_3 (List.mem_of_getElem? (i := 68) rfl) rfl
theorem m_521 : Cond.static yJ1_charAt_3b067 ∈ lwc := nv_3 (List.mem_of_getElem? (i := 69) rfl) rfl
theorem m_522 : Cond.initialized RJ1 ∈ lwc := nv_1 (List.mem_of_getElem? (i := 14) rfl) rfl
theorem m_523 : Cond.code yJ1_charAt_3b067 cJ1_charAt_3b067 2 (some .char) ∈ lwc := nv_3 (List.mem_of_getElem? (i := 70) rfl) rfl
theorem m_524 : Cond.code yJ0_length_8abf5 cJ0_length_8abf5 1 (some .int) ∈ lwc := nv_3 (List.mem_of_getElem? (i := 53) rfl) rfl
theorem m_525 : Cond.methodLink RX7 67 yJ0_length_8abf5 ∈ lwc := nv_3 (List.mem_of_getElem? (i := 50) rfl) rfl
theorem m_526 : Cond.instanceMethod yJ0_length_8abf5 ∈ lwc := nv_3 (List.mem_of_getElem? (i := 51) rfl) rfl
theorem m_527 : Cond.selects RJ0 yJ0_length_8abf5 yJ0_length_8abf5 ∈ lwc := nv_3 (List.mem_of_getElem? (i := 52) rfl) rfl
theorem m_528 : Cond.code yJ0_charAt_5068e cJ0_charAt_5068e 2 (some .char) ∈ lwc := nv_3 (List.mem_of_getElem? (i := 63) rfl) rfl
theorem m_529 : Cond.methodLink RX7 72 yJ0_charAt_5068e ∈ lwc := nv_3 (List.mem_of_getElem? (i := 60) rfl) rfl
theorem m_530 : Cond.instanceMethod yJ0_charAt_5068e ∈ lwc := nv_3 (List.mem_of_getElem? (i := 61) rfl) rfl
theorem m_531 : Cond.selects RJ0 yJ0_charAt_5068e yJ0_charAt_5068e ∈ lwc := nv_3 (List.mem_of_getElem? (i := 62) rfl) rfl
theorem m_532 : Cond.code yX7_isAlpha cX7_isAlpha 1 (some .boolean) ∈ lwc := nv_3 (List.mem_of_getElem? (i := 41) rfl) rfl
theorem m_533 : Cond.methodLink RX7 41 yX7_isAlpha ∈ lwc := nv_3 (List.mem_of_getElem? (i := 39) rfl) rfl
theorem m_534 : Cond.static yX7_isAlpha ∈ lwc := nv_3 (List.mem_of_getElem? (i := 40) rfl) rfl
theorem m_535 : Cond.code yX7_wordKind cX7_wordKind 8 (some .int) ∈ lwc := nv_3 (List.mem_of_getElem? (i := 48) rfl) rfl
theorem m_536 : Cond.methodLink RX7 61 yX7_wordKind ∈ lwc := nv_3 (List.mem_of_getElem? (i := 46) rfl) rfl
theorem m_537 : Cond.static yX7_wordKind ∈ lwc := nv_3 (List.mem_of_getElem? (i := 47) rfl) rfl
theorem m_538 : Cond.code yX7_isBlank cX7_isBlank 1 (some .boolean) ∈ lwc := nv_3 (List.mem_of_getElem? (i := 38) rfl) rfl
theorem m_539 : Cond.methodLink RX7 37 yX7_isBlank ∈ lwc := nv_3 (List.mem_of_getElem? (i := 36) rfl) rfl
theorem m_540 : Cond.static yX7_isBlank ∈ lwc := nv_3 (List.mem_of_getElem? (i := 37) rfl) rfl
theorem m_541 : Cond.code yX7_splitSign cX7_splitSign 5 (some .int) ∈ lwc := nv_3 (List.mem_of_getElem? (i := 113) rfl) rfl
theorem m_542 : Cond.methodLink RX7 54 yX7_splitSign ∈ lwc := nv_3 (List.mem_of_getElem? (i := 110) rfl) rfl
theorem m_543 : Cond.instanceMethod yX7_splitSign ∈ lwc := nv_3 (List.mem_of_getElem? (i := 112) rfl) rfl
theorem m_544 : Cond.selects RX7 yX7_splitSign yX7_splitSign ∈ lwc := nv_0 (List.mem_of_getElem? (i := 9) rfl) rfl
theorem m_545 : Cond.code yX7_splitNumber cX7_splitNumber 5 (some .int) ∈ lwc := nv_3 (List.mem_of_getElem? (i := 108) rfl) rfl
theorem m_546 : Cond.methodLink RX7 51 yX7_splitNumber ∈ lwc := nv_3 (List.mem_of_getElem? (i := 105) rfl) rfl
theorem m_547 : Cond.instanceMethod yX7_splitNumber ∈ lwc := nv_3 (List.mem_of_getElem? (i := 107) rfl) rfl
theorem m_548 : Cond.selects RX7 yX7_splitNumber yX7_splitNumber ∈ lwc := nv_0 (List.mem_of_getElem? (i := 8) rfl) rfl
theorem m_549 : Cond.code yX7_splitWord cX7_splitWord 4 (some .int) ∈ lwc := nv_3 (List.mem_of_getElem? (i := 45) rfl) rfl
theorem m_550 : Cond.methodLink RX7 44 yX7_splitWord ∈ lwc := nv_3 (List.mem_of_getElem? (i := 42) rfl) rfl
theorem m_551 : Cond.instanceMethod yX7_splitWord ∈ lwc := nv_3 (List.mem_of_getElem? (i := 44) rfl) rfl
theorem m_552 : Cond.selects RX7 yX7_splitWord yX7_splitWord ∈ lwc := nv_0 (List.mem_of_getElem? (i := 6) rfl) rfl
theorem m_553 : Cond.fieldLink RX1 11 "GooseLetters$Laws" "texts" "[LGooseLetters$Text;" ∈ lwc := nv_1 (List.mem_of_getElem? (i := 174) rfl) rfl
theorem m_554 : Cond.fieldLink RX1 57 "GooseLetters$State" "ruling" "I" ∈ lwc := nv_1 (List.mem_of_getElem? (i := 52) rfl) rfl
theorem m_555 : Cond.methodLink RX1 60 yX1_textOf ∈ lwc := nv_2 (List.mem_of_getElem? (i := 121) rfl) rfl
theorem m_556 : Cond.instanceMethod yX1_textOf ∈ lwc := nv_2 (List.mem_of_getElem? (i := 122) rfl) rfl
theorem m_557 : Cond.selects RX1 yX1_textOf yX1_textOf ∈ lwc := nv_2 (List.mem_of_getElem? (i := 123) rfl) rfl
theorem m_558 : Cond.code yX1_textOf cX1_textOf 2 (some (.object "GooseLetters$Text")) ∈ lwc := nv_2 (List.mem_of_getElem? (i := 124) rfl) rfl
theorem m_559 : Cond.code yX6_hasLaw cX6_hasLaw 2 (some .boolean) ∈ lwc := nv_2 (List.mem_of_getElem? (i := 128) rfl) rfl
theorem m_560 : Cond.methodLink RX1 64 yX6_hasLaw ∈ lwc := nv_2 (List.mem_of_getElem? (i := 125) rfl) rfl
theorem m_561 : Cond.instanceMethod yX6_hasLaw ∈ lwc := nv_2 (List.mem_of_getElem? (i := 126) rfl) rfl
theorem m_562 : Cond.selects RX6 yX6_hasLaw yX6_hasLaw ∈ lwc := nv_2 (List.mem_of_getElem? (i := 127) rfl) rfl
theorem m_563 : Cond.initialized RX6 ∈ lwc := nv_1 (List.mem_of_getElem? (i := 7) rfl) rfl
theorem m_564 : Cond.code yX6_stepsEnd cX6_stepsEnd 2 (some .int) ∈ lwc := nv_2 (List.mem_of_getElem? (i := 136) rfl) rfl
theorem m_565 : Cond.methodLink RX1 72 yX6_stepsEnd ∈ lwc := nv_2 (List.mem_of_getElem? (i := 133) rfl) rfl
theorem m_566 : Cond.instanceMethod yX6_stepsEnd ∈ lwc := nv_2 (List.mem_of_getElem? (i := 134) rfl) rfl
theorem m_567 : Cond.selects RX6 yX6_stepsEnd yX6_stepsEnd ∈ lwc := nv_2 (List.mem_of_getElem? (i := 135) rfl) rfl
theorem m_568 : Cond.code yX6_firstStep cX6_firstStep 2 (some .int) ∈ lwc := nv_2 (List.mem_of_getElem? (i := 140) rfl) rfl
theorem m_569 : Cond.methodLink RX1 75 yX6_firstStep ∈ lwc := nv_2 (List.mem_of_getElem? (i := 137) rfl) rfl
theorem m_570 : Cond.instanceMethod yX6_firstStep ∈ lwc := nv_2 (List.mem_of_getElem? (i := 138) rfl) rfl
theorem m_571 : Cond.selects RX6 yX6_firstStep yX6_firstStep ∈ lwc := nv_2 (List.mem_of_getElem? (i := 139) rfl) rfl
theorem m_572 : Cond.code yX6_stepAt cX6_stepAt 2 (some .int) ∈ lwc := nv_2 (List.mem_of_getElem? (i := 144) rfl) rfl
theorem m_573 : Cond.methodLink RX1 78 yX6_stepAt ∈ lwc := nv_2 (List.mem_of_getElem? (i := 141) rfl) rfl
theorem m_574 : Cond.instanceMethod yX6_stepAt ∈ lwc := nv_2 (List.mem_of_getElem? (i := 142) rfl) rfl
theorem m_575 : Cond.selects RX6 yX6_stepAt yX6_stepAt ∈ lwc := nv_2 (List.mem_of_getElem? (i := 143) rfl) rfl
theorem m_576 : Cond.code yX1_take cX1_take 3 none ∈ lwc := nv_2 (List.mem_of_getElem? (i := 148) rfl) rfl
theorem m_577 : Cond.methodLink RX1 81 yX1_take ∈ lwc := nv_2 (List.mem_of_getElem? (i := 145) rfl) rfl
theorem m_578 : Cond.instanceMethod yX1_take ∈ lwc := nv_2 (List.mem_of_getElem? (i := 147) rfl) rfl
theorem m_579 : Cond.selects RX1 yX1_take yX1_take ∈ lwc := nv_0 (List.mem_of_getElem? (i := 1) rfl) rfl
theorem m_580 : Cond.code yX1_without cX1_without 2 (some .int) ∈ lwc := nv_2 (List.mem_of_getElem? (i := 132) rfl) rfl
theorem m_581 : Cond.methodLink RX1 68 yX1_without ∈ lwc := nv_2 (List.mem_of_getElem? (i := 129) rfl) rfl
theorem m_582 : Cond.instanceMethod yX1_without ∈ lwc := nv_2 (List.mem_of_getElem? (i := 131) rfl) rfl
theorem m_583 : Cond.selects RX1 yX1_without yX1_without ∈ lwc := nv_0 (List.mem_of_getElem? (i := 0) rfl) rfl
theorem m_584 : Cond.methodLink RX1 89 Lib.Math.min.name ∈ lwc := nv_2 (List.mem_of_getElem? (i := 164) rfl) rfl
theorem m_585 : Cond.methodLink RX1 94 Lib.Math.max.name ∈ lwc := nv_2 (List.mem_of_getElem? (i := 167) rfl) rfl
theorem m_586 : Cond.code yX1_lookAtFilled cX1_lookAtFilled 5 none ∈ lwc := nv_2 (List.mem_of_getElem? (i := 111) rfl) rfl
theorem m_587 : Cond.methodLink RX1 49 yX1_lookAtFilled ∈ lwc := nv_2 (List.mem_of_getElem? (i := 108) rfl) rfl
theorem m_588 : Cond.instanceMethod yX1_lookAtFilled ∈ lwc := nv_2 (List.mem_of_getElem? (i := 109) rfl) rfl
theorem m_589 : Cond.selects RX1 yX1_lookAtFilled yX1_lookAtFilled ∈ lwc := nv_2 (List.mem_of_getElem? (i := 110) rfl) rfl
theorem m_590 : Cond.code yX1_rule cX1_rule 6 (some .int) ∈ lwc := nv_2 (List.mem_of_getElem? (i := 120) rfl) rfl
theorem m_591 : Cond.methodLink RX1 53 yX1_rule ∈ lwc := nv_2 (List.mem_of_getElem? (i := 117) rfl) rfl
theorem m_592 : Cond.instanceMethod yX1_rule ∈ lwc := nv_2 (List.mem_of_getElem? (i := 118) rfl) rfl
theorem m_593 : Cond.selects RX1 yX1_rule yX1_rule ∈ lwc := nv_2 (List.mem_of_getElem? (i := 119) rfl) rfl
theorem m_594 : Cond.methodLink RX0 26 yX4_ofGoose ∈ lwc := nv_4 (List.mem_of_getElem? (i := 54) rfl) rfl
theorem m_595 : Cond.code yX8_halvesOf cX8_halvesOf 1 (some .int) ∈ lwc := nv_4 (List.mem_of_getElem? (i := 23) rfl) rfl
theorem m_596 : Cond.static yX8_halvesOf ∈ lwc := nv_4 (List.mem_of_getElem? (i := 22) rfl) rfl
theorem m_597 : Cond.code yX1_isTrue cX1_isTrue 3 (some .boolean) ∈ lwc := nv_4 (List.mem_of_getElem? (i := 4) rfl) rfl
theorem m_598 : Cond.methodLink RX0 36 yX1_isTrue ∈ lwc := nv_4 (List.mem_of_getElem? (i := 56) rfl) rfl
theorem m_599 : Cond.instanceMethod yX1_isTrue ∈ lwc := nv_4 (List.mem_of_getElem? (i := 2) rfl) rfl
theorem m_600 : Cond.selects RX1 yX1_isTrue yX1_isTrue ∈ lwc := nv_4 (List.mem_of_getElem? (i := 3) rfl) rfl
theorem m_601 : Cond.code yX1_lookAtTraveller cX1_lookAtTraveller 3 none ∈ lwc := nv_2 (List.mem_of_getElem? (i := 222) rfl) rfl
theorem m_602 : Cond.methodLink RX0 42 yX1_lookAtTraveller ∈ lwc := nv_4 (List.mem_of_getElem? (i := 57) rfl) rfl
theorem m_603 : Cond.instanceMethod yX1_lookAtTraveller ∈ lwc := nv_2 (List.mem_of_getElem? (i := 220) rfl) rfl
theorem m_604 : Cond.selects RX1 yX1_lookAtTraveller yX1_lookAtTraveller ∈ lwc := nv_2 (List.mem_of_getElem? (i := 221) rfl) rfl
theorem m_605 : Cond.methodLink RX0 46 yX1_rule ∈ lwc := nv_4 (List.mem_of_getElem? (i := 58) rfl) rfl
theorem m_606 : Cond.fieldLink RX0 23 "GooseLetters$Chances" "fresh" "[J" ∈ lwc := nv_1 (List.mem_of_getElem? (i := 198) rfl) rfl
theorem m_607 : Cond.methodLink RX0 50 arraycopyName ∈ lwc := nv_4 (List.mem_of_getElem? (i := 59) rfl) rfl
theorem m_608 : Cond.constantLong RX0 56 (100) ∈ lwc := nv_4 (List.mem_of_getElem? (i := 60) rfl) rfl
theorem m_609 : Cond.code yX3_compare cX3_compare 5 none ∈ lwc := nv_4 (List.mem_of_getElem? (i := 123) rfl) rfl
theorem m_610 : Cond.methodLink RX3 141 yX3_compare ∈ lwc := nv_4 (List.mem_of_getElem? (i := 120) rfl) rfl
theorem m_611 : Cond.instanceMethod yX3_compare ∈ lwc := nv_4 (List.mem_of_getElem? (i := 122) rfl) rfl
theorem m_612 : Cond.selects RX3 yX3_compare yX3_compare ∈ lwc := nv_0 (List.mem_of_getElem? (i := 30) rfl) rfl
theorem m_613 : Cond.fieldLink RX3 48 "GooseLetters$Search" "marketCount" "I" ∈ lwc := nv_1 (List.mem_of_getElem? (i := 226) rfl) rfl
theorem m_614 : Cond.methodLink RX3 137 yX3_tryMarkets ∈ lwc := nv_4 (List.mem_of_getElem? (i := 116) rfl) rfl
theorem m_615 : Cond.instanceMethod yX3_tryMarkets ∈ lwc := nv_4 (List.mem_of_getElem? (i := 118) rfl) rfl
theorem m_616 : Cond.selects RX3 yX3_tryMarkets yX3_tryMarkets ∈ lwc := nv_0 (List.mem_of_getElem? (i := 29) rfl) rfl
theorem m_617 : Cond.code yX3_tryMarkets cX3_tryMarkets 3 none ∈ lwc := nv_4 (List.mem_of_getElem? (i := 119) rfl) rfl
theorem m_618 : Cond.fieldLink RX3 120 "GooseLetters$Search" "PATTERN_COUNTS" "[I" ∈ lwc := nv_4 (List.mem_of_getElem? (i := 100) rfl) rfl
theorem m_619 : Cond.fieldLink RX3 123 "GooseLetters$Search" "PATTERNS" "[I" ∈ lwc := nv_4 (List.mem_of_getElem? (i := 102) rfl) rfl
theorem m_620 : Cond.methodLink RX3 67 Lib.Math.min.name ∈ lwc := nv_4 (List.mem_of_getElem? (i := 76) rfl) rfl
theorem m_621 : Cond.code yX3_tryPatterns cX3_tryPatterns 5 none ∈ lwc := nv_4 (List.mem_of_getElem? (i := 99) rfl) rfl
theorem m_622 : Cond.methodLink RX3 117 yX3_tryPatterns ∈ lwc := nv_4 (List.mem_of_getElem? (i := 96) rfl) rfl
theorem m_623 : Cond.instanceMethod yX3_tryPatterns ∈ lwc := nv_4 (List.mem_of_getElem? (i := 98) rfl) rfl
theorem m_624 : Cond.selects RX3 yX3_tryPatterns yX3_tryPatterns ∈ lwc := nv_0 (List.mem_of_getElem? (i := 25) rfl) rfl
theorem m_625 : Cond.fieldLink RX3 18 "GooseLetters$Search" "ready" "[Z" ∈ lwc := nv_1 (List.mem_of_getElem? (i := 217) rfl) rfl
theorem m_626 : Cond.methodLink RX3 86 yX3_tryGeese ∈ lwc := nv_4 (List.mem_of_getElem? (i := 92) rfl) rfl
theorem m_627 : Cond.instanceMethod yX3_tryGeese ∈ lwc := nv_4 (List.mem_of_getElem? (i := 94) rfl) rfl
theorem m_628 : Cond.selects RX3 yX3_tryGeese yX3_tryGeese ∈ lwc := nv_0 (List.mem_of_getElem? (i := 24) rfl) rfl
theorem m_629 : Cond.code yX3_tryGeese cX3_tryGeese 4 none ∈ lwc := nv_4 (List.mem_of_getElem? (i := 95) rfl) rfl
theorem m_630 : Cond.methodLink RX3 90 yX1_lookAtFilled ∈ lwc := nv_4 (List.mem_of_getElem? (i := 83) rfl) rfl
theorem m_631 : Cond.methodLink RX3 96 yX1_rule ∈ lwc := nv_4 (List.mem_of_getElem? (i := 84) rfl) rfl
theorem m_632 : Cond.code yX3_cell cX3_cell 3 (some .int) ∈ lwc := nv_4 (List.mem_of_getElem? (i := 87) rfl) rfl
theorem m_633 : Cond.methodLink RX3 100 yX3_cell ∈ lwc := nv_4 (List.mem_of_getElem? (i := 85) rfl) rfl
theorem m_634 : Cond.static yX3_cell ∈ lwc := nv_4 (List.mem_of_getElem? (i := 86) rfl) rfl
theorem m_635 : Cond.fieldLink RX3 104 "GooseLetters$State" "day" "I" ∈ lwc := nv_1 (List.mem_of_getElem? (i := 45) rfl) rfl
theorem m_636 : Cond.methodLink RX3 107 yX4_ofMarket ∈ lwc := nv_4 (List.mem_of_getElem? (i := 88) rfl) rfl
theorem m_637 : Cond.methodLink RX3 110 yX1_lookAtMarket ∈ lwc := nv_4 (List.mem_of_getElem? (i := 89) rfl) rfl
theorem m_638 : Cond.methodLink RX3 114 Lib.Math.max.name ∈ lwc := nv_4 (List.mem_of_getElem? (i := 90) rfl) rfl
theorem m_639 : Cond.fieldLink RX3 64 "GooseLetters$State" "marketCount" "I" ∈ lwc := nv_1 (List.mem_of_getElem? (i := 37) rfl) rfl
theorem m_640 : Cond.methodLink RX3 73 yX4_isFree ∈ lwc := nv_4 (List.mem_of_getElem? (i := 77) rfl) rfl
theorem m_641 : Cond.methodLink RX3 77 yX4_ofGoose ∈ lwc := nv_4 (List.mem_of_getElem? (i := 78) rfl) rfl
theorem m_642 : Cond.code yX3_weighGoose cX3_weighGoose 11 none ∈ lwc := nv_4 (List.mem_of_getElem? (i := 82) rfl) rfl
theorem m_643 : Cond.methodLink RX3 80 yX3_weighGoose ∈ lwc := nv_4 (List.mem_of_getElem? (i := 79) rfl) rfl
theorem m_644 : Cond.instanceMethod yX3_weighGoose ∈ lwc := nv_4 (List.mem_of_getElem? (i := 81) rfl) rfl
theorem m_645 : Cond.selects RX3 yX3_weighGoose yX3_weighGoose ∈ lwc := nv_0 (List.mem_of_getElem? (i := 23) rfl) rfl
theorem m_646 : Cond.fieldLink RX2 9 "GooseLetters$Parser" "fault" "I" ∈ lwc := nv_1 (List.mem_of_getElem? (i := 128) rfl) rfl
theorem m_647 : Cond.code yX7_start cX7_start 1 (some .int) ∈ lwc := nv_3 (List.mem_of_getElem? (i := 140) rfl) rfl
theorem m_648 : Cond.methodLink RX2 36 yX7_start ∈ lwc := nv_3 (List.mem_of_getElem? (i := 137) rfl) rfl
theorem m_649 : Cond.instanceMethod yX7_start ∈ lwc := nv_3 (List.mem_of_getElem? (i := 138) rfl) rfl
theorem m_650 : Cond.selects RX7 yX7_start yX7_start ∈ lwc := nv_3 (List.mem_of_getElem? (i := 139) rfl) rfl
theorem m_651 : Cond.fieldLink RX2 15 "GooseLetters$Parser" "place" "I" ∈ lwc := nv_1 (List.mem_of_getElem? (i := 130) rfl) rfl
theorem m_652 : Cond.code yX7_kind cX7_kind 1 (some .int) ∈ lwc := nv_3 (List.mem_of_getElem? (i := 128) rfl) rfl
theorem m_653 : Cond.methodLink RX2 26 yX7_kind ∈ lwc := nv_3 (List.mem_of_getElem? (i := 125) rfl) rfl
theorem m_654 : Cond.instanceMethod yX7_kind ∈ lwc := nv_3 (List.mem_of_getElem? (i := 126) rfl) rfl
theorem m_655 : Cond.selects RX7 yX7_kind yX7_kind ∈ lwc := nv_3 (List.mem_of_getElem? (i := 127) rfl) rfl
theorem m_656 : Cond.code yX2_fail cX2_fail 3 none ∈ lwc := nv_3 (List.mem_of_getElem? (i := 136) rfl) rfl
theorem m_657 : Cond.methodLink RX2 39 yX2_fail ∈ lwc := nv_3 (List.mem_of_getElem? (i := 133) rfl) rfl
theorem m_658 : Cond.instanceMethod yX2_fail ∈ lwc := nv_3 (List.mem_of_getElem? (i := 135) rfl) rfl
theorem m_659 : Cond.selects RX2 yX2_fail yX2_fail ∈ lwc := nv_0 (List.mem_of_getElem? (i := 11) rfl) rfl
theorem m_660 : Cond.initialized RX2 ∈ lwc := nv_1 (List.mem_of_getElem? (i := 5) rfl) rfl
theorem m_661 : Cond.code yX7_advance cX7_advance 1 none ∈ lwc := nv_3 (List.mem_of_getElem? (i := 149) rfl) rfl
theorem m_662 : Cond.methodLink RX2 54 yX7_advance ∈ lwc := nv_3 (List.mem_of_getElem? (i := 146) rfl) rfl
theorem m_663 : Cond.instanceMethod yX7_advance ∈ lwc := nv_3 (List.mem_of_getElem? (i := 147) rfl) rfl
theorem m_664 : Cond.selects RX7 yX7_advance yX7_advance ∈ lwc := nv_3 (List.mem_of_getElem? (i := 148) rfl) rfl
theorem m_665 : Cond.code yX7_value cX7_value 1 (some .int) ∈ lwc := nv_3 (List.mem_of_getElem? (i := 181) rfl) rfl
theorem m_666 : Cond.methodLink RX2 79 yX7_value ∈ lwc := nv_3 (List.mem_of_getElem? (i := 178) rfl) rfl
theorem m_667 : Cond.instanceMethod yX7_value ∈ lwc := nv_3 (List.mem_of_getElem? (i := 179) rfl) rfl
theorem m_668 : Cond.selects RX7 yX7_value yX7_value ∈ lwc := nv_3 (List.mem_of_getElem? (i := 180) rfl) rfl
theorem m_669 : Cond.code yX6_addStep cX6_addStep 2 none ∈ lwc := nv_3 (List.mem_of_getElem? (i := 169) rfl) rfl
theorem m_670 : Cond.methodLink RX2 92 yX6_addStep ∈ lwc := nv_3 (List.mem_of_getElem? (i := 166) rfl) rfl
theorem m_671 : Cond.instanceMethod yX6_addStep ∈ lwc := nv_3 (List.mem_of_getElem? (i := 167) rfl) rfl
theorem m_672 : Cond.selects RX6 yX6_addStep yX6_addStep ∈ lwc := nv_3 (List.mem_of_getElem? (i := 168) rfl) rfl
theorem m_673 : Cond.fieldLink RX2 18 "GooseLetters$Parser" "law" "I" ∈ lwc := nv_1 (List.mem_of_getElem? (i := 132) rfl) rfl
theorem m_674 : Cond.fieldLink RX2 47 "GooseLetters$Text" "clauseCount" "I" ∈ lwc := nv_1 (List.mem_of_getElem? (i := 155) rfl) rfl
theorem m_675 : Cond.code yX6_setClause cX6_setClause 4 none ∈ lwc := nv_3 (List.mem_of_getElem? (i := 145) rfl) rfl
theorem m_676 : Cond.methodLink RX2 50 yX6_setClause ∈ lwc := nv_3 (List.mem_of_getElem? (i := 142) rfl) rfl
theorem m_677 : Cond.instanceMethod yX6_setClause ∈ lwc := nv_3 (List.mem_of_getElem? (i := 143) rfl) rfl
theorem m_678 : Cond.selects RX6 yX6_setClause yX6_setClause ∈ lwc := nv_3 (List.mem_of_getElem? (i := 144) rfl) rfl
theorem m_679 : Cond.code yX2_readNumber cX2_readNumber 6 none ∈ lwc := nv_3 (List.mem_of_getElem? (i := 204) rfl) rfl
theorem m_680 : Cond.methodLink RX2 75 yX2_readNumber ∈ lwc := nv_3 (List.mem_of_getElem? (i := 201) rfl) rfl
theorem m_681 : Cond.instanceMethod yX2_readNumber ∈ lwc := nv_3 (List.mem_of_getElem? (i := 203) rfl) rfl
theorem m_682 : Cond.selects RX2 yX2_readNumber yX2_readNumber ∈ lwc := nv_0 (List.mem_of_getElem? (i := 20) rfl) rfl
theorem m_683 : Cond.code yX2_expect cX2_expect 3 none ∈ lwc := nv_3 (List.mem_of_getElem? (i := 189) rfl) rfl
theorem m_684 : Cond.methodLink RX2 72 yX2_expect ∈ lwc := nv_3 (List.mem_of_getElem? (i := 186) rfl) rfl
theorem m_685 : Cond.instanceMethod yX2_expect ∈ lwc := nv_3 (List.mem_of_getElem? (i := 188) rfl) rfl
theorem m_686 : Cond.selects RX2 yX2_expect yX2_expect ∈ lwc := nv_0 (List.mem_of_getElem? (i := 18) rfl) rfl
theorem m_687 : Cond.methodLink RX2 61 yX2_readLevel ∈ lwc := nv_3 (List.mem_of_getElem? (i := 154) rfl) rfl
theorem m_688 : Cond.instanceMethod yX2_readLevel ∈ lwc := nv_3 (List.mem_of_getElem? (i := 156) rfl) rfl
theorem m_689 : Cond.selects RX2 yX2_readLevel yX2_readLevel ∈ lwc := nv_0 (List.mem_of_getElem? (i := 12) rfl) rfl
theorem m_690 : Cond.code yX2_readLevel cX2_readLevel 7 none ∈ lwc := nv_3 (List.mem_of_getElem? (i := 157) rfl) rfl
theorem m_691 : Cond.methodLink RX2 85 yX2_readOne ∈ lwc := nv_3 (List.mem_of_getElem? (i := 170) rfl) rfl
theorem m_692 : Cond.instanceMethod yX2_readOne ∈ lwc := nv_3 (List.mem_of_getElem? (i := 172) rfl) rfl
theorem m_693 : Cond.selects RX2 yX2_readOne yX2_readOne ∈ lwc := nv_0 (List.mem_of_getElem? (i := 15) rfl) rfl
theorem m_694 : Cond.code yX2_readOne cX2_readOne 5 none ∈ lwc := nv_3 (List.mem_of_getElem? (i := 173) rfl) rfl
theorem m_695 : Cond.methodLink RX2 82 yX2_readAsk ∈ lwc := nv_3 (List.mem_of_getElem? (i := 158) rfl) rfl
theorem m_696 : Cond.instanceMethod yX2_readAsk ∈ lwc := nv_3 (List.mem_of_getElem? (i := 160) rfl) rfl
theorem m_697 : Cond.selects RX2 yX2_readAsk yX2_readAsk ∈ lwc := nv_0 (List.mem_of_getElem? (i := 13) rfl) rfl
theorem m_698 : Cond.code yX2_readAsk cX2_readAsk 5 none ∈ lwc := nv_3 (List.mem_of_getElem? (i := 161) rfl) rfl
theorem m_699 : Cond.code yX2_levelOf cX2_levelOf 1 (some .int) ∈ lwc := nv_3 (List.mem_of_getElem? (i := 192) rfl) rfl
theorem m_700 : Cond.methodLink RX2 88 yX2_levelOf ∈ lwc := nv_3 (List.mem_of_getElem? (i := 190) rfl) rfl
theorem m_701 : Cond.static yX2_levelOf ∈ lwc := nv_3 (List.mem_of_getElem? (i := 191) rfl) rfl
theorem m_702 : Cond.code yX2_opens cX2_opens 3 (some .boolean) ∈ lwc := nv_3 (List.mem_of_getElem? (i := 165) rfl) rfl
theorem m_703 : Cond.methodLink RX2 95 yX2_opens ∈ lwc := nv_3 (List.mem_of_getElem? (i := 162) rfl) rfl
theorem m_704 : Cond.instanceMethod yX2_opens ∈ lwc := nv_3 (List.mem_of_getElem? (i := 164) rfl) rfl
theorem m_705 : Cond.selects RX2 yX2_opens yX2_opens ∈ lwc := nv_0 (List.mem_of_getElem? (i := 14) rfl) rfl
theorem m_706 : Cond.code yX2_readName cX2_readName 3 none ∈ lwc := nv_3 (List.mem_of_getElem? (i := 185) rfl) rfl
theorem m_707 : Cond.methodLink RX2 102 yX2_readName ∈ lwc := nv_3 (List.mem_of_getElem? (i := 182) rfl) rfl
theorem m_708 : Cond.instanceMethod yX2_readName ∈ lwc := nv_3 (List.mem_of_getElem? (i := 184) rfl) rfl
theorem m_709 : Cond.selects RX2 yX2_readName yX2_readName ∈ lwc := nv_0 (List.mem_of_getElem? (i := 17) rfl) rfl
theorem m_710 : Cond.code yX2_readValue cX2_readValue 3 none ∈ lwc := nv_3 (List.mem_of_getElem? (i := 177) rfl) rfl
theorem m_711 : Cond.methodLink RX2 99 yX2_readValue ∈ lwc := nv_3 (List.mem_of_getElem? (i := 174) rfl) rfl
theorem m_712 : Cond.instanceMethod yX2_readValue ∈ lwc := nv_3 (List.mem_of_getElem? (i := 176) rfl) rfl
theorem m_713 : Cond.selects RX2 yX2_readValue yX2_readValue ∈ lwc := nv_0 (List.mem_of_getElem? (i := 16) rfl) rfl
theorem m_714 : Cond.methodLink RX2 43 yX6_hasLaw ∈ lwc := nv_3 (List.mem_of_getElem? (i := 141) rfl) rfl
theorem m_715 : Cond.code yX2_readDeed cX2_readDeed 4 none ∈ lwc := nv_3 (List.mem_of_getElem? (i := 200) rfl) rfl
theorem m_716 : Cond.methodLink RX2 68 yX2_readDeed ∈ lwc := nv_3 (List.mem_of_getElem? (i := 197) rfl) rfl
theorem m_717 : Cond.instanceMethod yX2_readDeed ∈ lwc := nv_3 (List.mem_of_getElem? (i := 199) rfl) rfl
theorem m_718 : Cond.selects RX2 yX2_readDeed yX2_readDeed ∈ lwc := nv_0 (List.mem_of_getElem? (i := 19) rfl) rfl
theorem m_719 : Cond.code yX6_beginLaw cX6_beginLaw 2 none ∈ lwc := nv_3 (List.mem_of_getElem? (i := 153) rfl) rfl
theorem m_720 : Cond.methodLink RX2 57 yX6_beginLaw ∈ lwc := nv_3 (List.mem_of_getElem? (i := 150) rfl) rfl
theorem m_721 : Cond.instanceMethod yX6_beginLaw ∈ lwc := nv_3 (List.mem_of_getElem? (i := 151) rfl) rfl
theorem m_722 : Cond.selects RX6 yX6_beginLaw yX6_beginLaw ∈ lwc := nv_3 (List.mem_of_getElem? (i := 152) rfl) rfl
theorem m_723 : Cond.code yX6_closeLaw cX6_closeLaw 2 none ∈ lwc := nv_3 (List.mem_of_getElem? (i := 196) rfl) rfl
theorem m_724 : Cond.methodLink RX2 65 yX6_closeLaw ∈ lwc := nv_3 (List.mem_of_getElem? (i := 193) rfl) rfl
theorem m_725 : Cond.instanceMethod yX6_closeLaw ∈ lwc := nv_3 (List.mem_of_getElem? (i := 194) rfl) rfl
theorem m_726 : Cond.selects RX6 yX6_closeLaw yX6_closeLaw ∈ lwc := nv_3 (List.mem_of_getElem? (i := 195) rfl) rfl
theorem m_727 : Cond.code yX6_clear cX6_clear 2 none ∈ lwc := nv_3 (List.mem_of_getElem? (i := 124) rfl) rfl
theorem m_728 : Cond.methodLink RX2 21 yX6_clear ∈ lwc := nv_3 (List.mem_of_getElem? (i := 121) rfl) rfl
theorem m_729 : Cond.instanceMethod yX6_clear ∈ lwc := nv_3 (List.mem_of_getElem? (i := 122) rfl) rfl
theorem m_730 : Cond.selects RX6 yX6_clear yX6_clear ∈ lwc := nv_3 (List.mem_of_getElem? (i := 123) rfl) rfl
theorem m_731 : Cond.code yX2_readClause cX2_readClause 4 none ∈ lwc := nv_3 (List.mem_of_getElem? (i := 132) rfl) rfl
theorem m_732 : Cond.methodLink RX2 32 yX2_readClause ∈ lwc := nv_3 (List.mem_of_getElem? (i := 129) rfl) rfl
theorem m_733 : Cond.instanceMethod yX2_readClause ∈ lwc := nv_3 (List.mem_of_getElem? (i := 131) rfl) rfl
theorem m_734 : Cond.selects RX2 yX2_readClause yX2_readClause ∈ lwc := nv_0 (List.mem_of_getElem? (i := 10) rfl) rfl
theorem m_735 : Cond.code yX8_isDigit cX8_isDigit 1 (some .boolean) ∈ lwc := nv_2 (List.mem_of_getElem? (i := 56) rfl) rfl
theorem m_736 : Cond.methodLink RX8 61 yX8_isDigit ∈ lwc := nv_2 (List.mem_of_getElem? (i := 54) rfl) rfl
theorem m_737 : Cond.static yX8_isDigit ∈ lwc := nv_2 (List.mem_of_getElem? (i := 55) rfl) rfl
theorem m_738 : Cond.fieldLink RX8 10 "GooseLetters" "now" "LGooseLetters$State;" ∈ lwc := nv_2 (List.mem_of_getElem? (i := 25) rfl) rfl
theorem m_739 : Cond.code yX4_addMarket cX4_addMarket 5 (some .int) ∈ lwc := nv_2 (List.mem_of_getElem? (i := 60) rfl) rfl
theorem m_740 : Cond.methodLink RX8 65 yX4_addMarket ∈ lwc := nv_2 (List.mem_of_getElem? (i := 57) rfl) rfl
theorem m_741 : Cond.instanceMethod yX4_addMarket ∈ lwc := nv_2 (List.mem_of_getElem? (i := 58) rfl) rfl
theorem m_742 : Cond.selects RX4 yX4_addMarket yX4_addMarket ∈ lwc := nv_2 (List.mem_of_getElem? (i := 59) rfl) rfl
theorem m_743 : Cond.code yX4_addGoose cX4_addGoose 4 (some .int) ∈ lwc := nv_2 (List.mem_of_getElem? (i := 68) rfl) rfl
theorem m_744 : Cond.methodLink RX8 69 yX4_addGoose ∈ lwc := nv_2 (List.mem_of_getElem? (i := 65) rfl) rfl
theorem m_745 : Cond.instanceMethod yX4_addGoose ∈ lwc := nv_2 (List.mem_of_getElem? (i := 66) rfl) rfl
theorem m_746 : Cond.selects RX4 yX4_addGoose yX4_addGoose ∈ lwc := nv_2 (List.mem_of_getElem? (i := 67) rfl) rfl
theorem m_747 : Cond.fieldLink RX8 73 "GooseLetters$State" "grain" "I" ∈ lwc := nv_1 (List.mem_of_getElem? (i := 40) rfl) rfl
theorem m_748 : Cond.fieldLink RX8 77 "GooseLetters$State" "mouths" "I" ∈ lwc := nv_1 (List.mem_of_getElem? (i := 42) rfl) rfl
theorem m_749 : Cond.fieldLink RX8 80 "GooseLetters$State" "x" "I" ∈ lwc := nv_1 (List.mem_of_getElem? (i := 48) rfl) rfl
theorem m_750 : Cond.code yX8_isQuill cX8_isQuill 2 (some .boolean) ∈ lwc := nv_2 (List.mem_of_getElem? (i := 91) rfl) rfl
theorem m_751 : Cond.methodLink RX8 83 yX8_isQuill ∈ lwc := nv_2 (List.mem_of_getElem? (i := 89) rfl) rfl
theorem m_752 : Cond.static yX8_isQuill ∈ lwc := nv_2 (List.mem_of_getElem? (i := 90) rfl) rfl
theorem m_753 : Cond.methodLink RX8 87 yX4_isHome ∈ lwc := nv_2 (List.mem_of_getElem? (i := 95) rfl) rfl
theorem m_754 : Cond.methodLink RX8 90 yX4_ofGoose ∈ lwc := nv_2 (List.mem_of_getElem? (i := 103) rfl) rfl
theorem m_755 : Cond.fieldLink RX8 43 "GooseLetters" "laws" "LGooseLetters$Laws;" ∈ lwc := nv_2 (List.mem_of_getElem? (i := 30) rfl) rfl
theorem m_756 : Cond.code yX1_inkCost cX1_inkCost 5 (some .int) ∈ lwc := nv_2 (List.mem_of_getElem? (i := 107) rfl) rfl
theorem m_757 : Cond.methodLink RX8 93 yX1_inkCost ∈ lwc := nv_2 (List.mem_of_getElem? (i := 104) rfl) rfl
theorem m_758 : Cond.instanceMethod yX1_inkCost ∈ lwc := nv_2 (List.mem_of_getElem? (i := 105) rfl) rfl
theorem m_759 : Cond.selects RX1 yX1_inkCost yX1_inkCost ∈ lwc := nv_2 (List.mem_of_getElem? (i := 106) rfl) rfl
theorem m_760 : Cond.code yX4_keepStep cX4_keepStep 2 none ∈ lwc := nv_2 (List.mem_of_getElem? (i := 173) rfl) rfl
theorem m_761 : Cond.methodLink RX8 97 yX4_keepStep ∈ lwc := nv_2 (List.mem_of_getElem? (i := 170) rfl) rfl
theorem m_762 : Cond.instanceMethod yX4_keepStep ∈ lwc := nv_2 (List.mem_of_getElem? (i := 171) rfl) rfl
theorem m_763 : Cond.selects RX4 yX4_keepStep yX4_keepStep ∈ lwc := nv_2 (List.mem_of_getElem? (i := 172) rfl) rfl
theorem m_764 : Cond.methodLink RX8 100 yX4_setGoose ∈ lwc := nv_2 (List.mem_of_getElem? (i := 177) rfl) rfl
theorem m_765 : Cond.code yX4_hasMarket cX4_hasMarket 2 (some .boolean) ∈ lwc := nv_2 (List.mem_of_getElem? (i := 185) rfl) rfl
theorem m_766 : Cond.methodLink RX8 104 yX4_hasMarket ∈ lwc := nv_2 (List.mem_of_getElem? (i := 182) rfl) rfl
theorem m_767 : Cond.instanceMethod yX4_hasMarket ∈ lwc := nv_2 (List.mem_of_getElem? (i := 183) rfl) rfl
theorem m_768 : Cond.selects RX4 yX4_hasMarket yX4_hasMarket ∈ lwc := nv_2 (List.mem_of_getElem? (i := 184) rfl) rfl
theorem m_769 : Cond.methodLink RX8 107 yX4_isFree ∈ lwc := nv_2 (List.mem_of_getElem? (i := 186) rfl) rfl
theorem m_770 : Cond.fieldLink RX8 110 "GooseLetters$State" "day" "I" ∈ lwc := nv_1 (List.mem_of_getElem? (i := 46) rfl) rfl
theorem m_771 : Cond.methodLink RX8 113 yX4_ofMarket ∈ lwc := nv_2 (List.mem_of_getElem? (i := 191) rfl) rfl
theorem m_772 : Cond.methodLink RX8 270 yX1_lookAtTraveller ∈ lwc := nv_2 (List.mem_of_getElem? (i := 219) rfl) rfl
theorem m_773 : Cond.code yX4_draw cX4_draw 2 (some .int) ∈ lwc := nv_2 (List.mem_of_getElem? (i := 231) rfl) rfl
theorem m_774 : Cond.methodLink RX8 274 yX4_draw ∈ lwc := nv_2 (List.mem_of_getElem? (i := 228) rfl) rfl
theorem m_775 : Cond.instanceMethod yX4_draw ∈ lwc := nv_2 (List.mem_of_getElem? (i := 229) rfl) rfl
theorem m_776 : Cond.selects RX4 yX4_draw yX4_draw ∈ lwc := nv_2 (List.mem_of_getElem? (i := 230) rfl) rfl
theorem m_777 : Cond.methodLink RX8 277 yX1_rule ∈ lwc := nv_2 (List.mem_of_getElem? (i := 232) rfl) rfl
theorem m_778 : Cond.fieldLink RX8 192 "GooseLetters$State" "gooseCount" "I" ∈ lwc := nv_1 (List.mem_of_getElem? (i := 35) rfl) rfl
theorem m_779 : Cond.code yX4_eatDaily cX4_eatDaily 3 none ∈ lwc := nv_3 (List.mem_of_getElem? (i := 0) rfl) rfl
theorem m_780 : Cond.methodLink RX8 267 yX4_eatDaily ∈ lwc := nv_2 (List.mem_of_getElem? (i := 237) rfl) rfl
theorem m_781 : Cond.instanceMethod yX4_eatDaily ∈ lwc := nv_2 (List.mem_of_getElem? (i := 238) rfl) rfl
theorem m_782 : Cond.selects RX4 yX4_eatDaily yX4_eatDaily ∈ lwc := nv_2 (List.mem_of_getElem? (i := 239) rfl) rfl
theorem m_783 : Cond.code yX8_fateAtMarket cX8_fateAtMarket 2 (some .int) ∈ lwc := nv_2 (List.mem_of_getElem? (i := 218) rfl) rfl
theorem m_784 : Cond.methodLink RX8 261 yX8_fateAtMarket ∈ lwc := nv_2 (List.mem_of_getElem? (i := 215) rfl) rfl
theorem m_785 : Cond.instanceMethod yX8_fateAtMarket ∈ lwc := nv_2 (List.mem_of_getElem? (i := 217) rfl) rfl
theorem m_786 : Cond.selects RX8 yX8_fateAtMarket yX8_fateAtMarket ∈ lwc := nv_0 (List.mem_of_getElem? (i := 5) rfl) rfl
theorem m_787 : Cond.methodLink RX8 264 yX4_settle ∈ lwc := nv_2 (List.mem_of_getElem? (i := 233) rfl) rfl
theorem m_788 : Cond.code yX8_passOneDay cX8_passOneDay 2 none ∈ lwc := nv_2 (List.mem_of_getElem? (i := 214) rfl) rfl
theorem m_789 : Cond.methodLink RX8 116 yX8_passOneDay ∈ lwc := nv_2 (List.mem_of_getElem? (i := 211) rfl) rfl
theorem m_790 : Cond.instanceMethod yX8_passOneDay ∈ lwc := nv_2 (List.mem_of_getElem? (i := 213) rfl) rfl
theorem m_791 : Cond.selects RX8 yX8_passOneDay yX8_passOneDay ∈ lwc := nv_0 (List.mem_of_getElem? (i := 4) rfl) rfl
theorem m_792 : Cond.fieldLink RX8 22 "GooseLetters" "tape" "LGooseLetters$Tape;" ∈ lwc := nv_2 (List.mem_of_getElem? (i := 27) rfl) rfl
theorem m_793 : Cond.fieldLink RX8 119 "GooseLetters$Tape" "length" "I" ∈ lwc := nv_1 (List.mem_of_getElem? (i := 94) rfl) rfl
theorem m_794 : Cond.code yX5_addFour cX5_addFour 3 none ∈ lwc := nv_3 (List.mem_of_getElem? (i := 18) rfl) rfl
theorem m_795 : Cond.methodLink RX8 122 yX5_addFour ∈ lwc := nv_3 (List.mem_of_getElem? (i := 15) rfl) rfl
theorem m_796 : Cond.instanceMethod yX5_addFour ∈ lwc := nv_3 (List.mem_of_getElem? (i := 16) rfl) rfl
theorem m_797 : Cond.selects RX5 yX5_addFour yX5_addFour ∈ lwc := nv_3 (List.mem_of_getElem? (i := 17) rfl) rfl
theorem m_798 : Cond.fieldLink RX8 126 "GooseLetters$State" "textCount" "I" ∈ lwc := nv_1 (List.mem_of_getElem? (i := 50) rfl) rfl
theorem m_799 : Cond.methodLink RX8 129 yX1_textOf ∈ lwc := nv_3 (List.mem_of_getElem? (i := 27) rfl) rfl
theorem m_800 : Cond.fieldLink RX8 29 "GooseLetters" "tokens" "LGooseLetters$Tokens;" ∈ lwc := nv_2 (List.mem_of_getElem? (i := 28) rfl) rfl
theorem m_801 : Cond.code yX7_split cX7_split 5 none ∈ lwc := nv_3 (List.mem_of_getElem? (i := 31) rfl) rfl
theorem m_802 : Cond.methodLink RX8 133 yX7_split ∈ lwc := nv_3 (List.mem_of_getElem? (i := 28) rfl) rfl
theorem m_803 : Cond.instanceMethod yX7_split ∈ lwc := nv_3 (List.mem_of_getElem? (i := 29) rfl) rfl
theorem m_804 : Cond.selects RX7 yX7_split yX7_split ∈ lwc := nv_3 (List.mem_of_getElem? (i := 30) rfl) rfl
theorem m_805 : Cond.fieldLink RX8 36 "GooseLetters" "parser" "LGooseLetters$Parser;" ∈ lwc := nv_2 (List.mem_of_getElem? (i := 29) rfl) rfl
theorem m_806 : Cond.code yX2_parse cX2_parse 4 none ∈ lwc := nv_3 (List.mem_of_getElem? (i := 120) rfl) rfl
theorem m_807 : Cond.methodLink RX8 137 yX2_parse ∈ lwc := nv_3 (List.mem_of_getElem? (i := 117) rfl) rfl
theorem m_808 : Cond.instanceMethod yX2_parse ∈ lwc := nv_3 (List.mem_of_getElem? (i := 118) rfl) rfl
theorem m_809 : Cond.selects RX2 yX2_parse yX2_parse ∈ lwc := nv_3 (List.mem_of_getElem? (i := 119) rfl) rfl
theorem m_810 : Cond.fieldLink RX8 141 "GooseLetters$Parser" "fault" "I" ∈ lwc := nv_1 (List.mem_of_getElem? (i := 129) rfl) rfl
theorem m_811 : Cond.fieldLink RX8 144 "GooseLetters$Parser" "place" "I" ∈ lwc := nv_1 (List.mem_of_getElem? (i := 131) rfl) rfl
theorem m_812 : Cond.fieldLink RX8 147 "GooseLetters$State" "ruling" "I" ∈ lwc := nv_1 (List.mem_of_getElem? (i := 53) rfl) rfl
theorem m_813 : Cond.fieldLink RX8 150 "GooseLetters$Text" "clauseCount" "I" ∈ lwc := nv_1 (List.mem_of_getElem? (i := 156) rfl) rfl
theorem m_814 : Cond.code yX6_clauseField cX6_clauseField 3 (some .int) ∈ lwc := nv_3 (List.mem_of_getElem? (i := 221) rfl) rfl
theorem m_815 : Cond.methodLink RX8 155 yX6_clauseField ∈ lwc := nv_3 (List.mem_of_getElem? (i := 218) rfl) rfl
theorem m_816 : Cond.instanceMethod yX6_clauseField ∈ lwc := nv_3 (List.mem_of_getElem? (i := 219) rfl) rfl
theorem m_817 : Cond.selects RX6 yX6_clauseField yX6_clauseField ∈ lwc := nv_3 (List.mem_of_getElem? (i := 220) rfl) rfl
theorem m_818 : Cond.code yX8_fill cX8_fill 5 (some .int) ∈ lwc := nv_2 (List.mem_of_getElem? (i := 88) rfl) rfl
theorem m_819 : Cond.methodLink RX8 158 yX8_fill ∈ lwc := nv_3 (List.mem_of_getElem? (i := 222) rfl) rfl
theorem m_820 : Cond.instanceMethod yX8_fill ∈ lwc := nv_2 (List.mem_of_getElem? (i := 86) rfl) rfl
theorem m_821 : Cond.selects RX8 yX8_fill yX8_fill ∈ lwc := nv_2 (List.mem_of_getElem? (i := 87) rfl) rfl
theorem m_822 : Cond.code yX8_send cX8_send 4 (some .int) ∈ lwc := nv_2 (List.mem_of_getElem? (i := 181) rfl) rfl
theorem m_823 : Cond.methodLink RX8 161 yX8_send ∈ lwc := nv_3 (List.mem_of_getElem? (i := 223) rfl) rfl
theorem m_824 : Cond.instanceMethod yX8_send ∈ lwc := nv_2 (List.mem_of_getElem? (i := 179) rfl) rfl
theorem m_825 : Cond.selects RX8 yX8_send yX8_send ∈ lwc := nv_2 (List.mem_of_getElem? (i := 180) rfl) rfl
theorem m_826 : Cond.code yX8_fatten cX8_fatten 2 (some .int) ∈ lwc := nv_2 (List.mem_of_getElem? (i := 198) rfl) rfl
theorem m_827 : Cond.methodLink RX8 164 yX8_fatten ∈ lwc := nv_3 (List.mem_of_getElem? (i := 224) rfl) rfl
theorem m_828 : Cond.instanceMethod yX8_fatten ∈ lwc := nv_2 (List.mem_of_getElem? (i := 196) rfl) rfl
theorem m_829 : Cond.selects RX8 yX8_fatten yX8_fatten ∈ lwc := nv_2 (List.mem_of_getElem? (i := 197) rfl) rfl
theorem m_830 : Cond.code yX8_pass cX8_pass 3 (some .int) ∈ lwc := nv_2 (List.mem_of_getElem? (i := 210) rfl) rfl
theorem m_831 : Cond.methodLink RX8 168 yX8_pass ∈ lwc := nv_3 (List.mem_of_getElem? (i := 225) rfl) rfl
theorem m_832 : Cond.instanceMethod yX8_pass ∈ lwc := nv_2 (List.mem_of_getElem? (i := 208) rfl) rfl
theorem m_833 : Cond.selects RX8 yX8_pass yX8_pass ∈ lwc := nv_2 (List.mem_of_getElem? (i := 209) rfl) rfl
theorem m_834 : Cond.code yX4_takeStepBack cX4_takeStepBack 3 (some .boolean) ∈ lwc := nv_3 (List.mem_of_getElem? (i := 233) rfl) rfl
theorem m_835 : Cond.methodLink RX8 171 yX4_takeStepBack ∈ lwc := nv_3 (List.mem_of_getElem? (i := 230) rfl) rfl
theorem m_836 : Cond.instanceMethod yX4_takeStepBack ∈ lwc := nv_3 (List.mem_of_getElem? (i := 231) rfl) rfl
theorem m_837 : Cond.selects RX4 yX4_takeStepBack yX4_takeStepBack ∈ lwc := nv_3 (List.mem_of_getElem? (i := 232) rfl) rfl
theorem m_838 : Cond.fieldLink RX8 175 "GooseLetters$State" "stepCount" "I" ∈ lwc := nv_1 (List.mem_of_getElem? (i := 56) rfl) rfl
theorem m_839 : Cond.methodLink RX8 178 yX4_hasGoose ∈ lwc := nv_4 (List.mem_of_getElem? (i := 0) rfl) rfl
theorem m_840 : Cond.methodLink RX8 181 yX1_isTrue ∈ lwc := nv_4 (List.mem_of_getElem? (i := 1) rfl) rfl
theorem m_841 : Cond.code yX8_tells cX8_tells 4 (some .boolean) ∈ lwc := nv_4 (List.mem_of_getElem? (i := 20) rfl) rfl
theorem m_842 : Cond.methodLink RX8 195 yX8_tells ∈ lwc := nv_4 (List.mem_of_getElem? (i := 17) rfl) rfl
theorem m_843 : Cond.instanceMethod yX8_tells ∈ lwc := nv_4 (List.mem_of_getElem? (i := 19) rfl) rfl
theorem m_844 : Cond.selects RX8 yX8_tells yX8_tells ∈ lwc := nv_0 (List.mem_of_getElem? (i := 22) rfl) rfl
theorem m_845 : Cond.methodLink RX8 281 yX8_halvesOf ∈ lwc := nv_4 (List.mem_of_getElem? (i := 21) rfl) rfl
theorem m_846 : Cond.code yX8_halvesHad cX8_halvesHad 8 (some .int) ∈ lwc := nv_4 (List.mem_of_getElem? (i := 16) rfl) rfl
theorem m_847 : Cond.methodLink RX8 188 yX8_halvesHad ∈ lwc := nv_4 (List.mem_of_getElem? (i := 13) rfl) rfl
theorem m_848 : Cond.instanceMethod yX8_halvesHad ∈ lwc := nv_4 (List.mem_of_getElem? (i := 15) rfl) rfl
theorem m_849 : Cond.selects RX8 yX8_halvesHad yX8_halvesHad ∈ lwc := nv_0 (List.mem_of_getElem? (i := 21) rfl) rfl
theorem m_850 : Cond.code yX8_led cX8_led 7 (some .int) ∈ lwc := nv_4 (List.mem_of_getElem? (i := 27) rfl) rfl
theorem m_851 : Cond.methodLink RX8 199 yX8_led ∈ lwc := nv_4 (List.mem_of_getElem? (i := 32) rfl) rfl
theorem m_852 : Cond.instanceMethod yX8_led ∈ lwc := nv_4 (List.mem_of_getElem? (i := 25) rfl) rfl
theorem m_853 : Cond.selects RX8 yX8_led yX8_led ∈ lwc := nv_4 (List.mem_of_getElem? (i := 26) rfl) rfl
theorem m_854 : Cond.code yX1_isTrueWith cX1_isTrueWith 4 (some .boolean) ∈ lwc := nv_4 (List.mem_of_getElem? (i := 40) rfl) rfl
theorem m_855 : Cond.methodLink RX8 203 yX1_isTrueWith ∈ lwc := nv_4 (List.mem_of_getElem? (i := 37) rfl) rfl
theorem m_856 : Cond.instanceMethod yX1_isTrueWith ∈ lwc := nv_4 (List.mem_of_getElem? (i := 38) rfl) rfl
theorem m_857 : Cond.selects RX1 yX1_isTrueWith yX1_isTrueWith ∈ lwc := nv_4 (List.mem_of_getElem? (i := 39) rfl) rfl
theorem m_858 : Cond.fieldLink RX8 50 "GooseLetters" "chances" "LGooseLetters$Chances;" ∈ lwc := nv_2 (List.mem_of_getElem? (i := 31) rfl) rfl
theorem m_859 : Cond.code yX0_begin cX0_begin 4 none ∈ lwc := nv_4 (List.mem_of_getElem? (i := 49) rfl) rfl
theorem m_860 : Cond.methodLink RX8 209 yX0_begin ∈ lwc := nv_4 (List.mem_of_getElem? (i := 46) rfl) rfl
theorem m_861 : Cond.instanceMethod yX0_begin ∈ lwc := nv_4 (List.mem_of_getElem? (i := 47) rfl) rfl
theorem m_862 : Cond.selects RX0 yX0_begin yX0_begin ∈ lwc := nv_4 (List.mem_of_getElem? (i := 48) rfl) rfl
theorem m_863 : Cond.initialized RX0 ∈ lwc := nv_1 (List.mem_of_getElem? (i := 8) rfl) rfl
theorem m_864 : Cond.constantLong RX8 207 (-1) ∈ lwc := nv_4 (List.mem_of_getElem? (i := 45) rfl) rfl
theorem m_865 : Cond.fieldLink RX8 217 "GooseLetters$Chances" "count" "I" ∈ lwc := nv_1 (List.mem_of_getElem? (i := 194) rfl) rfl
theorem m_866 : Cond.code yX0_upper cX0_upper 7 (some .long) ∈ lwc := nv_4 (List.mem_of_getElem? (i := 64) rfl) rfl
theorem m_867 : Cond.methodLink RX8 220 yX0_upper ∈ lwc := nv_4 (List.mem_of_getElem? (i := 61) rfl) rfl
theorem m_868 : Cond.instanceMethod yX0_upper ∈ lwc := nv_4 (List.mem_of_getElem? (i := 62) rfl) rfl
theorem m_869 : Cond.selects RX0 yX0_upper yX0_upper ∈ lwc := nv_4 (List.mem_of_getElem? (i := 63) rfl) rfl
theorem m_870 : Cond.fieldLink RX8 224 "GooseLetters$Chances" "total" "J" ∈ lwc := nv_1 (List.mem_of_getElem? (i := 196) rfl) rfl
theorem m_871 : Cond.code yX8_commonDivisor cX8_commonDivisor 11 (some .long) ∈ lwc := nv_4 (List.mem_of_getElem? (i := 67) rfl) rfl
theorem m_872 : Cond.methodLink RX8 228 yX8_commonDivisor ∈ lwc := nv_4 (List.mem_of_getElem? (i := 65) rfl) rfl
theorem m_873 : Cond.static yX8_commonDivisor ∈ lwc := nv_4 (List.mem_of_getElem? (i := 66) rfl) rfl
theorem m_874 : Cond.code yX0_add cX0_add 10 none ∈ lwc := nv_4 (List.mem_of_getElem? (i := 53) rfl) rfl
theorem m_875 : Cond.methodLink RX8 213 yX0_add ∈ lwc := nv_4 (List.mem_of_getElem? (i := 50) rfl) rfl
theorem m_876 : Cond.instanceMethod yX0_add ∈ lwc := nv_4 (List.mem_of_getElem? (i := 51) rfl) rfl
theorem m_877 : Cond.selects RX0 yX0_add yX0_add ∈ lwc := nv_4 (List.mem_of_getElem? (i := 52) rfl) rfl
theorem m_878 : Cond.fieldLink RX8 57 "GooseLetters" "search" "LGooseLetters$Search;" ∈ lwc := nv_2 (List.mem_of_getElem? (i := 32) rfl) rfl
theorem m_879 : Cond.code yX3_fewest cX3_fewest 6 (some .int) ∈ lwc := nv_4 (List.mem_of_getElem? (i := 75) rfl) rfl
theorem m_880 : Cond.methodLink RX8 232 yX3_fewest ∈ lwc := nv_4 (List.mem_of_getElem? (i := 72) rfl) rfl
theorem m_881 : Cond.instanceMethod yX3_fewest ∈ lwc := nv_4 (List.mem_of_getElem? (i := 73) rfl) rfl
theorem m_882 : Cond.selects RX3 yX3_fewest yX3_fewest ∈ lwc := nv_4 (List.mem_of_getElem? (i := 74) rfl) rfl
theorem m_883 : Cond.code yX3_choiceOf cX3_choiceOf 3 (some .int) ∈ lwc := nv_4 (List.mem_of_getElem? (i := 131) rfl) rfl
theorem m_884 : Cond.methodLink RX8 236 yX3_choiceOf ∈ lwc := nv_4 (List.mem_of_getElem? (i := 128) rfl) rfl
theorem m_885 : Cond.instanceMethod yX3_choiceOf ∈ lwc := nv_4 (List.mem_of_getElem? (i := 129) rfl) rfl
theorem m_886 : Cond.selects RX3 yX3_choiceOf yX3_choiceOf ∈ lwc := nv_4 (List.mem_of_getElem? (i := 130) rfl) rfl
theorem m_887 : Cond.methodLink RX8 239 yX4_dailyNeed ∈ lwc := nv_4 (List.mem_of_getElem? (i := 136) rfl) rfl
theorem m_888 : Cond.methodLink RX8 243 Lib.Math.min.name ∈ lwc := nv_4 (List.mem_of_getElem? (i := 137) rfl) rfl
theorem m_889 : Cond.fieldLink RX8 16 "GooseLetters" "kept" "LGooseLetters$State;" ∈ lwc := nv_2 (List.mem_of_getElem? (i := 26) rfl) rfl
theorem m_890 : Cond.code yX4_copyFrom cX4_copyFrom 2 none ∈ lwc := nv_4 (List.mem_of_getElem? (i := 145) rfl) rfl
theorem m_891 : Cond.methodLink RX8 248 yX4_copyFrom ∈ lwc := nv_4 (List.mem_of_getElem? (i := 142) rfl) rfl
theorem m_892 : Cond.instanceMethod yX4_copyFrom ∈ lwc := nv_4 (List.mem_of_getElem? (i := 143) rfl) rfl
theorem m_893 : Cond.selects RX4 yX4_copyFrom yX4_copyFrom ∈ lwc := nv_4 (List.mem_of_getElem? (i := 144) rfl) rfl
theorem m_894 : Cond.methodLink RX8 258 yX4_countFate ∈ lwc := nv_4 (List.mem_of_getElem? (i := 158) rfl) rfl
theorem m_895 : Cond.fieldLink RX8 252 "GooseLetters$State" "marketCount" "I" ∈ lwc := nv_1 (List.mem_of_getElem? (i := 38) rfl) rfl
theorem m_896 : Cond.code yX8_aboutMany cX8_aboutMany 3 (some .int) ∈ lwc := nv_4 (List.mem_of_getElem? (i := 157) rfl) rfl
theorem m_897 : Cond.methodLink RX8 255 yX8_aboutMany ∈ lwc := nv_4 (List.mem_of_getElem? (i := 154) rfl) rfl
theorem m_898 : Cond.instanceMethod yX8_aboutMany ∈ lwc := nv_4 (List.mem_of_getElem? (i := 156) rfl) rfl
theorem m_899 : Cond.selects RX8 yX8_aboutMany yX8_aboutMany ∈ lwc := nv_0 (List.mem_of_getElem? (i := 32) rfl) rfl
set_option maxRecDepth 20000 in
theorem iw_X0 : ∀ w ∈ ([Cond.lays RX0 "GooseLetters$Chances" "count" "I", Cond.lays RX0 "GooseLetters$Chances" "total" "J", Cond.laysFinal RX0 "GooseLetters$Chances" "weights" "[J", Cond.laysFinal RX0 "GooseLetters$Chances" "fresh" "[J"] : List Cond), w ∈ lwc := List.forall_mem_cons.mpr ⟨(nv_1 (List.mem_of_getElem? (i := 199) (by decide +kernel)) (by decide +kernel)), List.forall_mem_cons.mpr ⟨(nv_1 (List.mem_of_getElem? (i := 201) (by decide +kernel)) (by decide +kernel)), List.forall_mem_cons.mpr ⟨(nv_1 (List.mem_of_getElem? (i := 203) (by decide +kernel)) (by decide +kernel)), List.forall_mem_cons.mpr ⟨(nv_1 (List.mem_of_getElem? (i := 205) (by decide +kernel)) (by decide +kernel)), fun _ h => absurd h List.not_mem_nil⟩⟩⟩⟩
theorem iX0 : ∀ w ∈ u_ws RX0 TX0 4, w ∈ lwc := iw_X0
set_option maxRecDepth 20000 in
theorem iw_X1 : ∀ w ∈ ([Cond.laysFinal RX1 "GooseLetters$Laws" "texts" "[LGooseLetters$Text;", Cond.laysFinal RX1 "GooseLetters$Laws" "names" "[I", Cond.laysFinal RX1 "GooseLetters$Laws" "stack" "[I", Cond.lays RX1 "GooseLetters$Laws" "top" "I"] : List Cond), w ∈ lwc := List.forall_mem_cons.mpr ⟨(nv_1 (List.mem_of_getElem? (i := 178) (by decide +kernel)) (by decide +kernel)), List.forall_mem_cons.mpr ⟨(nv_1 (List.mem_of_getElem? (i := 180) (by decide +kernel)) (by decide +kernel)), List.forall_mem_cons.mpr ⟨(nv_1 (List.mem_of_getElem? (i := 182) (by decide +kernel)) (by decide +kernel)), List.forall_mem_cons.mpr ⟨(nv_1 (List.mem_of_getElem? (i := 184) (by decide +kernel)) (by decide +kernel)), fun _ h => absurd h List.not_mem_nil⟩⟩⟩⟩
theorem iX1 : ∀ w ∈ u_ws RX1 TX1 4, w ∈ lwc := iw_X1
set_option maxRecDepth 20000 in
theorem iw_X2 : ∀ w ∈ ([Cond.lays RX2 "GooseLetters$Parser" "fault" "I", Cond.lays RX2 "GooseLetters$Parser" "place" "I", Cond.lays RX2 "GooseLetters$Parser" "law" "I"] : List Cond), w ∈ lwc := List.forall_mem_cons.mpr ⟨(nv_1 (List.mem_of_getElem? (i := 133) (by decide +kernel)) (by decide +kernel)), List.forall_mem_cons.mpr ⟨(nv_1 (List.mem_of_getElem? (i := 135) (by decide +kernel)) (by decide +kernel)), List.forall_mem_cons.mpr ⟨(nv_1 (List.mem_of_getElem? (i := 137) (by decide +kernel)) (by decide +kernel)), fun _ h => absurd h List.not_mem_nil⟩⟩⟩
theorem iX2 : ∀ w ∈ u_ws RX2 TX2 3, w ∈ lwc := iw_X2
set_option maxRecDepth 20000 in
theorem iw_X3 : ∀ w ∈ ([Cond.laysFinal RX3 "GooseLetters$Search" "friends" "[I", Cond.laysFinal RX3 "GooseLetters$Search" "reads" "[I", Cond.laysFinal RX3 "GooseLetters$Search" "ready" "[Z", Cond.laysFinal RX3 "GooseLetters$Search" "set" "[I", Cond.laysFinal RX3 "GooseLetters$Search" "parts" "[I", Cond.laysFinal RX3 "GooseLetters$Search" "markets" "[I", Cond.laysFinal RX3 "GooseLetters$Search" "bestSet" "[I", Cond.laysFinal RX3 "GooseLetters$Search" "bestChoice" "[I", Cond.lays RX3 "GooseLetters$Search" "size" "I", Cond.lays RX3 "GooseLetters$Search" "scale" "J", Cond.lays RX3 "GooseLetters$Search" "percent" "I", Cond.lays RX3 "GooseLetters$Search" "marketCount" "I", Cond.lays RX3 "GooseLetters$Search" "found" "Z", Cond.lays RX3 "GooseLetters$Search" "foundInSet" "Z", Cond.lays RX3 "GooseLetters$Search" "bestMiss" "J", Cond.lays RX3 "GooseLetters$Search" "bestOrder" "I"] : List Cond), w ∈ lwc := List.forall_mem_cons.mpr ⟨(nv_1 (List.mem_of_getElem? (i := 231) (by decide +kernel)) (by decide +kernel)), List.forall_mem_cons.mpr ⟨(nv_1 (List.mem_of_getElem? (i := 233) (by decide +kernel)) (by decide +kernel)), List.forall_mem_cons.mpr ⟨(nv_1 (List.mem_of_getElem? (i := 235) (by decide +kernel)) (by decide +kernel)), List.forall_mem_cons.mpr ⟨(nv_1 (List.mem_of_getElem? (i := 237) (by decide +kernel)) (by decide +kernel)), List.forall_mem_cons.mpr ⟨(nv_1 (List.mem_of_getElem? (i := 239) (by decide +kernel)) (by decide +kernel)), List.forall_mem_cons.mpr ⟨(nv_2 (List.mem_of_getElem? (i := 1) (by decide +kernel)) (by decide +kernel)), List.forall_mem_cons.mpr ⟨(nv_2 (List.mem_of_getElem? (i := 3) (by decide +kernel)) (by decide +kernel)), List.forall_mem_cons.mpr ⟨(nv_2 (List.mem_of_getElem? (i := 5) (by decide +kernel)) (by decide +kernel)), List.forall_mem_cons.mpr ⟨(nv_2 (List.mem_of_getElem? (i := 7) (by decide +kernel)) (by decide +kernel)), List.forall_mem_cons.mpr ⟨(nv_2 (List.mem_of_getElem? (i := 9) (by decide +kernel)) (by decide +kernel)), List.forall_mem_cons.mpr ⟨(nv_2 (List.mem_of_getElem? (i := 11) (by decide +kernel)) (by decide +kernel)), List.forall_mem_cons.mpr ⟨(nv_2 (List.mem_of_getElem? (i := 13) (by decide +kernel)) (by decide +kernel)), List.forall_mem_cons.mpr ⟨(nv_2 (List.mem_of_getElem? (i := 15) (by decide +kernel)) (by decide +kernel)), List.forall_mem_cons.mpr ⟨(nv_2 (List.mem_of_getElem? (i := 17) (by decide +kernel)) (by decide +kernel)), List.forall_mem_cons.mpr ⟨(nv_2 (List.mem_of_getElem? (i := 19) (by decide +kernel)) (by decide +kernel)), List.forall_mem_cons.mpr ⟨(nv_2 (List.mem_of_getElem? (i := 21) (by decide +kernel)) (by decide +kernel)), fun _ h => absurd h List.not_mem_nil⟩⟩⟩⟩⟩⟩⟩⟩⟩⟩⟩⟩⟩⟩⟩⟩
theorem iX3 : ∀ w ∈ u_ws RX3 TX3 16, w ∈ lwc := iw_X3
set_option maxRecDepth 20000 in
theorem iw_X4 : ∀ w ∈ ([Cond.laysFinal RX4 "GooseLetters$State" "geese" "[I", Cond.laysFinal RX4 "GooseLetters$State" "markets" "[I", Cond.laysFinal RX4 "GooseLetters$State" "steps" "[I", Cond.lays RX4 "GooseLetters$State" "gooseCount" "I", Cond.lays RX4 "GooseLetters$State" "marketCount" "I", Cond.lays RX4 "GooseLetters$State" "grain" "I", Cond.lays RX4 "GooseLetters$State" "mouths" "I", Cond.lays RX4 "GooseLetters$State" "day" "I", Cond.lays RX4 "GooseLetters$State" "x" "I", Cond.lays RX4 "GooseLetters$State" "textCount" "I", Cond.lays RX4 "GooseLetters$State" "ruling" "I", Cond.lays RX4 "GooseLetters$State" "firstStep" "I", Cond.lays RX4 "GooseLetters$State" "stepCount" "I"] : List Cond), w ∈ lwc := List.forall_mem_cons.mpr ⟨(nv_1 (List.mem_of_getElem? (i := 57) (by decide +kernel)) (by decide +kernel)), List.forall_mem_cons.mpr ⟨(nv_1 (List.mem_of_getElem? (i := 59) (by decide +kernel)) (by decide +kernel)), List.forall_mem_cons.mpr ⟨(nv_1 (List.mem_of_getElem? (i := 61) (by decide +kernel)) (by decide +kernel)), List.forall_mem_cons.mpr ⟨(nv_1 (List.mem_of_getElem? (i := 63) (by decide +kernel)) (by decide +kernel)), List.forall_mem_cons.mpr ⟨(nv_1 (List.mem_of_getElem? (i := 65) (by decide +kernel)) (by decide +kernel)), List.forall_mem_cons.mpr ⟨(nv_1 (List.mem_of_getElem? (i := 67) (by decide +kernel)) (by decide +kernel)), List.forall_mem_cons.mpr ⟨(nv_1 (List.mem_of_getElem? (i := 69) (by decide +kernel)) (by decide +kernel)), List.forall_mem_cons.mpr ⟨(nv_1 (List.mem_of_getElem? (i := 71) (by decide +kernel)) (by decide +kernel)), List.forall_mem_cons.mpr ⟨(nv_1 (List.mem_of_getElem? (i := 73) (by decide +kernel)) (by decide +kernel)), List.forall_mem_cons.mpr ⟨(nv_1 (List.mem_of_getElem? (i := 75) (by decide +kernel)) (by decide +kernel)), List.forall_mem_cons.mpr ⟨(nv_1 (List.mem_of_getElem? (i := 77) (by decide +kernel)) (by decide +kernel)), List.forall_mem_cons.mpr ⟨(nv_1 (List.mem_of_getElem? (i := 79) (by decide +kernel)) (by decide +kernel)), List.forall_mem_cons.mpr ⟨(nv_1 (List.mem_of_getElem? (i := 81) (by decide +kernel)) (by decide +kernel)), fun _ h => absurd h List.not_mem_nil⟩⟩⟩⟩⟩⟩⟩⟩⟩⟩⟩⟩⟩
theorem iX4 : ∀ w ∈ u_ws RX4 TX4 13, w ∈ lwc := iw_X4
set_option maxRecDepth 20000 in
theorem iw_X5 : ∀ w ∈ ([Cond.laysFinal RX5 "GooseLetters$Tape" "bytes" "[I", Cond.lays RX5 "GooseLetters$Tape" "length" "I"] : List Cond), w ∈ lwc := List.forall_mem_cons.mpr ⟨(nv_1 (List.mem_of_getElem? (i := 95) (by decide +kernel)) (by decide +kernel)), List.forall_mem_cons.mpr ⟨(nv_1 (List.mem_of_getElem? (i := 97) (by decide +kernel)) (by decide +kernel)), fun _ h => absurd h List.not_mem_nil⟩⟩
theorem iX5 : ∀ w ∈ u_ws RX5 TX5 2, w ∈ lwc := iw_X5
set_option maxRecDepth 20000 in
theorem iw_X6 : ∀ w ∈ ([Cond.laysFinal RX6 "GooseLetters$Text" "clauses" "[I", Cond.lays RX6 "GooseLetters$Text" "clauseCount" "I", Cond.laysFinal RX6 "GooseLetters$Text" "steps" "[I", Cond.laysFinal RX6 "GooseLetters$Text" "from" "[I", Cond.laysFinal RX6 "GooseLetters$Text" "to" "[I", Cond.lays RX6 "GooseLetters$Text" "stepCount" "I"] : List Cond), w ∈ lwc := List.forall_mem_cons.mpr ⟨(nv_1 (List.mem_of_getElem? (i := 161) (by decide +kernel)) (by decide +kernel)), List.forall_mem_cons.mpr ⟨(nv_1 (List.mem_of_getElem? (i := 163) (by decide +kernel)) (by decide +kernel)), List.forall_mem_cons.mpr ⟨(nv_1 (List.mem_of_getElem? (i := 165) (by decide +kernel)) (by decide +kernel)), List.forall_mem_cons.mpr ⟨(nv_1 (List.mem_of_getElem? (i := 167) (by decide +kernel)) (by decide +kernel)), List.forall_mem_cons.mpr ⟨(nv_1 (List.mem_of_getElem? (i := 169) (by decide +kernel)) (by decide +kernel)), List.forall_mem_cons.mpr ⟨(nv_1 (List.mem_of_getElem? (i := 171) (by decide +kernel)) (by decide +kernel)), fun _ h => absurd h List.not_mem_nil⟩⟩⟩⟩⟩⟩
theorem iX6 : ∀ w ∈ u_ws RX6 TX6 6, w ∈ lwc := iw_X6
set_option maxRecDepth 20000 in
theorem iw_X7 : ∀ w ∈ ([Cond.laysFinal RX7 "GooseLetters$Tokens" "kinds" "[I", Cond.laysFinal RX7 "GooseLetters$Tokens" "starts" "[I", Cond.laysFinal RX7 "GooseLetters$Tokens" "values" "[I", Cond.lays RX7 "GooseLetters$Tokens" "count" "I", Cond.lays RX7 "GooseLetters$Tokens" "at" "I"] : List Cond), w ∈ lwc := List.forall_mem_cons.mpr ⟨(nv_1 (List.mem_of_getElem? (i := 111) (by decide +kernel)) (by decide +kernel)), List.forall_mem_cons.mpr ⟨(nv_1 (List.mem_of_getElem? (i := 113) (by decide +kernel)) (by decide +kernel)), List.forall_mem_cons.mpr ⟨(nv_1 (List.mem_of_getElem? (i := 115) (by decide +kernel)) (by decide +kernel)), List.forall_mem_cons.mpr ⟨(nv_1 (List.mem_of_getElem? (i := 117) (by decide +kernel)) (by decide +kernel)), List.forall_mem_cons.mpr ⟨(nv_1 (List.mem_of_getElem? (i := 119) (by decide +kernel)) (by decide +kernel)), fun _ h => absurd h List.not_mem_nil⟩⟩⟩⟩⟩
theorem iX7 : ∀ w ∈ u_ws RX7 TX7 5, w ∈ lwc := iw_X7
set_option maxRecDepth 20000 in
theorem iw_X8 : ∀ w ∈ ([Cond.laysFinal RX8 "GooseLetters" "now" "LGooseLetters$State;", Cond.laysFinal RX8 "GooseLetters" "kept" "LGooseLetters$State;", Cond.laysFinal RX8 "GooseLetters" "tape" "LGooseLetters$Tape;", Cond.laysFinal RX8 "GooseLetters" "tokens" "LGooseLetters$Tokens;", Cond.laysFinal RX8 "GooseLetters" "parser" "LGooseLetters$Parser;", Cond.laysFinal RX8 "GooseLetters" "laws" "LGooseLetters$Laws;", Cond.laysFinal RX8 "GooseLetters" "chances" "LGooseLetters$Chances;", Cond.laysFinal RX8 "GooseLetters" "search" "LGooseLetters$Search;"] : List Cond), w ∈ lwc := List.forall_mem_cons.mpr ⟨(nv_2 (List.mem_of_getElem? (i := 33) (by decide +kernel)) (by decide +kernel)), List.forall_mem_cons.mpr ⟨(nv_2 (List.mem_of_getElem? (i := 35) (by decide +kernel)) (by decide +kernel)), List.forall_mem_cons.mpr ⟨(nv_2 (List.mem_of_getElem? (i := 37) (by decide +kernel)) (by decide +kernel)), List.forall_mem_cons.mpr ⟨(nv_2 (List.mem_of_getElem? (i := 39) (by decide +kernel)) (by decide +kernel)), List.forall_mem_cons.mpr ⟨(nv_2 (List.mem_of_getElem? (i := 41) (by decide +kernel)) (by decide +kernel)), List.forall_mem_cons.mpr ⟨(nv_2 (List.mem_of_getElem? (i := 43) (by decide +kernel)) (by decide +kernel)), List.forall_mem_cons.mpr ⟨(nv_2 (List.mem_of_getElem? (i := 45) (by decide +kernel)) (by decide +kernel)), List.forall_mem_cons.mpr ⟨(nv_2 (List.mem_of_getElem? (i := 47) (by decide +kernel)) (by decide +kernel)), fun _ h => absurd h List.not_mem_nil⟩⟩⟩⟩⟩⟩⟩⟩
theorem iX8 : ∀ w ∈ u_ws RX8 TX8 8, w ∈ lwc := iw_X8
set_option maxRecDepth 20000 in
theorem iw_X9 : ∀ w ∈ ([Cond.laysFinal RX9 "GooseLettersModel" "a" "[I", Cond.laysFinal RX9 "GooseLettersModel" "image" "[I", Cond.laysFinal RX9 "GooseLettersModel" "tape" "[B", Cond.lays RX9 "GooseLettersModel" "taped" "I", Cond.lays RX9 "GooseLettersModel" "fault" "I", Cond.lays RX9 "GooseLettersModel" "faultAt" "I", Cond.laysFinal RX9 "GooseLettersModel" "clauses" "[I", Cond.laysFinal RX9 "GooseLettersModel" "clauseWord" "[I", Cond.laysFinal RX9 "GooseLettersModel" "clauseAt" "[I", Cond.laysFinal RX9 "GooseLettersModel" "clauseOne" "[I", Cond.laysFinal RX9 "GooseLettersModel" "clauseTwo" "[I", Cond.laysFinal RX9 "GooseLettersModel" "clauseThree" "[I", Cond.laysFinal RX9 "GooseLettersModel" "order" "[I", Cond.laysFinal RX9 "GooseLettersModel" "value" "[I", Cond.lays RX9 "GooseLettersModel" "length" "I", Cond.lays RX9 "GooseLettersModel" "at" "I", Cond.lays RX9 "GooseLettersModel" "token" "I", Cond.lays RX9 "GooseLettersModel" "sort" "I", Cond.lays RX9 "GooseLettersModel" "told" "I", Cond.lays RX9 "GooseLettersModel" "wrong" "I", Cond.lays RX9 "GooseLettersModel" "wrongAt" "I", Cond.lays RX9 "GooseLettersModel" "open" "I", Cond.lays RX9 "GooseLettersModel" "frames" "I", Cond.laysFinal RX9 "GooseLettersModel" "frame" "[I", Cond.laysFinal RX9 "GooseLettersModel" "compare" "[I", Cond.lays RX9 "GooseLettersModel" "waits" "I", Cond.laysFinal RX9 "GooseLettersModel" "wait" "[I", Cond.laysFinal RX9 "GooseLettersModel" "waitFrame" "[I", Cond.lays RX9 "GooseLettersModel" "state" "I", Cond.lays RX9 "GooseLettersModel" "newClauses" "I", Cond.lays RX9 "GooseLettersModel" "newKind" "I", Cond.laysFinal RX9 "GooseLettersModel" "newWord" "[I", Cond.laysFinal RX9 "GooseLettersModel" "newAt" "[I", Cond.laysFinal RX9 "GooseLettersModel" "newOne" "[I", Cond.laysFinal RX9 "GooseLettersModel" "newTwo" "[I", Cond.laysFinal RX9 "GooseLettersModel" "newThree" "[I", Cond.lays RX9 "GooseLettersModel" "newOrders" "I", Cond.laysFinal RX9 "GooseLettersModel" "newOrder" "[I", Cond.laysFinal RX9 "GooseLettersModel" "newValue" "[I", Cond.laysFinal RX9 "GooseLettersModel" "name" "[I", Cond.laysFinal RX9 "GooseLettersModel" "pile" "[J", Cond.laysFinal RX9 "GooseLettersModel" "many" "[J", Cond.laysFinal RX9 "GooseLettersModel" "then" "[J", Cond.laysFinal RX9 "GooseLettersModel" "eats" "[I", Cond.laysFinal RX9 "GooseLettersModel" "reads" "[I", Cond.laysFinal RX9 "GooseLettersModel" "trues" "[Z", Cond.laysFinal RX9 "GooseLettersModel" "flock" "[I", Cond.lays RX9 "GooseLettersModel" "flocks" "I", Cond.laysFinal RX9 "GooseLettersModel" "chosen" "[I", Cond.laysFinal RX9 "GooseLettersModel" "does" "[I", Cond.laysFinal RX9 "GooseLettersModel" "bestChosen" "[I", Cond.laysFinal RX9 "GooseLettersModel" "bestDoes" "[I", Cond.lays RX9 "GooseLettersModel" "bestEnemy" "J"] : List Cond), w ∈ lwc := List.forall_mem_cons.mpr ⟨(nv_4 (List.mem_of_getElem? (i := 222) (by decide +kernel)) (by decide +kernel)), List.forall_mem_cons.mpr ⟨(nv_4 (List.mem_of_getElem? (i := 224) (by decide +kernel)) (by decide +kernel)), List.forall_mem_cons.mpr ⟨(nv_4 (List.mem_of_getElem? (i := 226) (by decide +kernel)) (by decide +kernel)), List.forall_mem_cons.mpr ⟨(nv_4 (List.mem_of_getElem? (i := 228) (by decide +kernel)) (by decide +kernel)), List.forall_mem_cons.mpr ⟨(nv_4 (List.mem_of_getElem? (i := 230) (by decide +kernel)) (by decide +kernel)), List.forall_mem_cons.mpr ⟨(nv_4 (List.mem_of_getElem? (i := 232) (by decide +kernel)) (by decide +kernel)), List.forall_mem_cons.mpr ⟨(nv_4 (List.mem_of_getElem? (i := 234) (by decide +kernel)) (by decide +kernel)), List.forall_mem_cons.mpr ⟨(nv_4 (List.mem_of_getElem? (i := 236) (by decide +kernel)) (by decide +kernel)), List.forall_mem_cons.mpr ⟨(nv_4 (List.mem_of_getElem? (i := 238) (by decide +kernel)) (by decide +kernel)), List.forall_mem_cons.mpr ⟨(nv_5 (List.mem_of_getElem? (i := 0) (by decide +kernel)) (by decide +kernel)), List.forall_mem_cons.mpr ⟨(nv_5 (List.mem_of_getElem? (i := 2) (by decide +kernel)) (by decide +kernel)), List.forall_mem_cons.mpr ⟨(nv_5 (List.mem_of_getElem? (i := 4) (by decide +kernel)) (by decide +kernel)), List.forall_mem_cons.mpr ⟨(nv_5 (List.mem_of_getElem? (i := 6) (by decide +kernel)) (by decide +kernel)), List.forall_mem_cons.mpr ⟨(nv_5 (List.mem_of_getElem? (i := 8) (by decide +kernel)) (by decide +kernel)), List.forall_mem_cons.mpr ⟨(nv_5 (List.mem_of_getElem? (i := 10) (by decide +kernel)) (by decide +kernel)), List.forall_mem_cons.mpr ⟨(nv_5 (List.mem_of_getElem? (i := 12) (by decide +kernel)) (by decide +kernel)), List.forall_mem_cons.mpr ⟨(nv_5 (List.mem_of_getElem? (i := 14) (by decide +kernel)) (by decide +kernel)), List.forall_mem_cons.mpr ⟨(nv_5 (List.mem_of_getElem? (i := 16) (by decide +kernel)) (by decide +kernel)), List.forall_mem_cons.mpr ⟨(nv_5 (List.mem_of_getElem? (i := 18) (by decide +kernel)) (by decide +kernel)), List.forall_mem_cons.mpr ⟨(nv_5 (List.mem_of_getElem? (i := 20) (by decide +kernel)) (by decide +kernel)), List.forall_mem_cons.mpr ⟨(nv_5 (List.mem_of_getElem? (i := 22) (by decide +kernel)) (by decide +kernel)), List.forall_mem_cons.mpr ⟨(nv_5 (List.mem_of_getElem? (i := 24) (by decide +kernel)) (by decide +kernel)), List.forall_mem_cons.mpr ⟨(nv_5 (List.mem_of_getElem? (i := 26) (by decide +kernel)) (by decide +kernel)), List.forall_mem_cons.mpr ⟨(nv_5 (List.mem_of_getElem? (i := 28) (by decide +kernel)) (by decide +kernel)), List.forall_mem_cons.mpr ⟨(nv_5 (List.mem_of_getElem? (i := 30) (by decide +kernel)) (by decide +kernel)), List.forall_mem_cons.mpr ⟨(nv_5 (List.mem_of_getElem? (i := 32) (by decide +kernel)) (by decide +kernel)), List.forall_mem_cons.mpr ⟨(nv_5 (List.mem_of_getElem? (i := 34) (by decide +kernel)) (by decide +kernel)), List.forall_mem_cons.mpr ⟨(nv_5 (List.mem_of_getElem? (i := 36) (by decide +kernel)) (by decide +kernel)), List.forall_mem_cons.mpr ⟨(nv_5 (List.mem_of_getElem? (i := 38) (by decide +kernel)) (by decide +kernel)), List.forall_mem_cons.mpr ⟨(nv_5 (List.mem_of_getElem? (i := 40) (by decide +kernel)) (by decide +kernel)), List.forall_mem_cons.mpr ⟨(nv_5 (List.mem_of_getElem? (i := 42) (by decide +kernel)) (by decide +kernel)), List.forall_mem_cons.mpr ⟨(nv_5 (List.mem_of_getElem? (i := 44) (by decide +kernel)) (by decide +kernel)), List.forall_mem_cons.mpr ⟨(nv_5 (List.mem_of_getElem? (i := 46) (by decide +kernel)) (by decide +kernel)), List.forall_mem_cons.mpr ⟨(nv_5 (List.mem_of_getElem? (i := 48) (by decide +kernel)) (by decide +kernel)), List.forall_mem_cons.mpr ⟨(nv_5 (List.mem_of_getElem? (i := 50) (by decide +kernel)) (by decide +kernel)), List.forall_mem_cons.mpr ⟨(nv_5 (List.mem_of_getElem? (i := 52) (by decide +kernel)) (by decide +kernel)), List.forall_mem_cons.mpr ⟨(nv_5 (List.mem_of_getElem? (i := 54) (by decide +kernel)) (by decide +kernel)), List.forall_mem_cons.mpr ⟨(nv_5 (List.mem_of_getElem? (i := 56) (by decide +kernel)) (by decide +kernel)), List.forall_mem_cons.mpr ⟨(nv_5 (List.mem_of_getElem? (i := 58) (by decide +kernel)) (by decide +kernel)), List.forall_mem_cons.mpr ⟨(nv_5 (List.mem_of_getElem? (i := 60) (by decide +kernel)) (by decide +kernel)), List.forall_mem_cons.mpr ⟨(nv_5 (List.mem_of_getElem? (i := 62) (by decide +kernel)) (by decide +kernel)), List.forall_mem_cons.mpr ⟨(nv_5 (List.mem_of_getElem? (i := 64) (by decide +kernel)) (by decide +kernel)), List.forall_mem_cons.mpr ⟨(nv_5 (List.mem_of_getElem? (i := 66) (by decide +kernel)) (by decide +kernel)), List.forall_mem_cons.mpr ⟨(nv_5 (List.mem_of_getElem? (i := 68) (by decide +kernel)) (by decide +kernel)), List.forall_mem_cons.mpr ⟨(nv_5 (List.mem_of_getElem? (i := 70) (by decide +kernel)) (by decide +kernel)), List.forall_mem_cons.mpr ⟨(nv_5 (List.mem_of_getElem? (i := 72) (by decide +kernel)) (by decide +kernel)), List.forall_mem_cons.mpr ⟨(nv_5 (List.mem_of_getElem? (i := 74) (by decide +kernel)) (by decide +kernel)), List.forall_mem_cons.mpr ⟨(nv_5 (List.mem_of_getElem? (i := 76) (by decide +kernel)) (by decide +kernel)), List.forall_mem_cons.mpr ⟨(nv_5 (List.mem_of_getElem? (i := 78) (by decide +kernel)) (by decide +kernel)), List.forall_mem_cons.mpr ⟨(nv_5 (List.mem_of_getElem? (i := 80) (by decide +kernel)) (by decide +kernel)), List.forall_mem_cons.mpr ⟨(nv_5 (List.mem_of_getElem? (i := 82) (by decide +kernel)) (by decide +kernel)), List.forall_mem_cons.mpr ⟨(nv_5 (List.mem_of_getElem? (i := 84) (by decide +kernel)) (by decide +kernel)), List.forall_mem_cons.mpr ⟨(nv_5 (List.mem_of_getElem? (i := 86) (by decide +kernel)) (by decide +kernel)), fun _ h => absurd h List.not_mem_nil⟩⟩⟩⟩⟩⟩⟩⟩⟩⟩⟩⟩⟩⟩⟩⟩⟩⟩⟩⟩⟩⟩⟩⟩⟩⟩⟩⟩⟩⟩⟩⟩⟩⟩⟩⟩⟩⟩⟩⟩⟩⟩⟩⟩⟩⟩⟩⟩⟩⟩⟩⟩⟩
theorem iX9 : ∀ w ∈ u_ws RX9 TX9 53, w ∈ lwc := iw_X9
/-! calls over a whole world -/
theorem gzf {v : Int32} (h : v = 0 ∨ v = 1) : fits .boolean (.int v) = true := by rcases h with rfl | rfl <;> rfl
section GX
variable {p : Program} {l : Launch} {e : Env} {R : Room} {s : State} {m : MethodId} {args : Array Value} {below : List Frame} {meth : Method} {c : Code} {H : Heap} {locs : List Loc} {cells slots : Nat} {Q : State → Prop} {pc : Nat} {ls : Array Slot} {rest st0 : List Value} {G : va_G} {tys : List (ClassId × FieldType)} {ws : va_W} {A : Nat → Prop} {H0 : Heap} {cc : ByteArray}
theorem gx_free (hD : va_D A ws) (hS : va_S A H0 H locs) (hA : ∀ q, H0.size ≤ q → A q) : ∀ q, va_A ws H.size q → A q := fun q h => h.elim (fun ⟨k, e, hk⟩ => hD.2 k _ hk) (fun h => hA q (Nat.le_trans hS.1 h))
theorem gx_runV {y : MethodName} {bytes : ByteArray} {maxL nL n index k ci N : Nat} {ret : Option FieldType} {wd wd' : List Cond} {Qc : Array Value → State → Outcome → State → Prop} {free : Addr → Prop} {Ts : List Cond} {own C : String} {b : Nat} {As : List Value} {fs : List Value} {T : u_T} (F : CallFix p m c cc nL s args Ts own) (hM : Met l y wd (gRm k) (va_Pc (.ref b :: As) (gP G tys ws H.size)) Qc 0 0 free) (hG : GoodIn Ts (wsV own index C y wd)) (hw : wd = Cond.code y bytes maxL ret :: wd') (hd : y.cls = C ∧ y.cls ≠ "java/lang/invoke/MethodHandle" ∧ y.cls ≠ "java/lang/invoke/VarHandle" ∧ (parseMethodDescriptor y.desc).map (fun d => d.parameters.length) = some n) (hR : k + 1 ≤ R.frames ∧ 8 + (maxL + 11) + 100 * k ≤ R.locals) (hK : va_K G vwCl tys s) (hP : va_P G vwCl ws H) (hD : va_D A ws) (hX : gEX G A s) (hS : va_S A s.heap H locs) (hA : ∀ q, s.heap.size ≤ q → A q) (q0 : Nat) (he : ws[q0]? = some (b, .inr (ci, fs))) (hc : vwCl[ci]? = some (C, T, N)) (hn : As.length = n) (hsize : ls.size = nL) (hst : st0 = As.reverse ++ .ref b :: rest) (hW : (rest.map fun v => v.category).sum ≤ 8) (hdg : decode cc pc = .ok (.invokevirtual index, 3)) (hf : cells ≤ R.cells ∧ slots ≤ R.slots) : va_Run p l e R s m args below meth c H locs cells slots 0 0 (F0 m pc ls st0) rest (Qc (Value.ref b :: As).toArray) free :=
  va_runV F hM (cwV n F.2.2.2.2 hG hw rfl rfl hd hR) ⟨gP_blind, va_recv hK hP hc he, fun U hU hWm => ⟨rfl, by rw [hU], by rw [hU]; exact hP, va_K.moved hWm.alike hK, hD.weaken (fun _ _ _ _ => trivial), gEX_step hX hS hWm hU (gx_free hD hS hA)⟩⟩ rfl hn hsize hst (lv_room hW) hdg hf
theorem gx_runS {y : MethodName} {bytes : ByteArray} {maxL nL n index k : Nat} {ret : Option FieldType} {wd wd' : List Cond} {Qc : Array Value → State → Outcome → State → Prop} {free : Addr → Prop} {Ts : List Cond} {own : String} {As : List Value} (F : CallFix p m c cc nL s args Ts own) (hM : Met l y wd (gRm k) (va_Pc As (gP G tys ws H.size)) Qc 0 0 free) (hG : GoodIn Ts (wsS own index y wd)) (hw : wd = Cond.code y bytes maxL ret :: wd') (hd : y.cls = own ∧ y.cls ≠ "java/lang/invoke/MethodHandle" ∧ y.cls ≠ "java/lang/invoke/VarHandle" ∧ (parseMethodDescriptor y.desc).map (fun d => d.parameters.length) = some n) (hR : k + 1 ≤ R.frames ∧ 8 + (maxL + 11) + 100 * k ≤ R.locals) (hK : va_K G vwCl tys s) (hP : va_P G vwCl ws H) (hD : va_D A ws) (hX : gEX G A s) (hS : va_S A s.heap H locs) (hA : ∀ q, s.heap.size ≤ q → A q) (hn : As.length = n) (hsize : ls.size = nL) (hst : st0 = As.reverse ++ rest) (hW : (rest.map fun v => v.category).sum ≤ 8) (hdg : decode cc pc = .ok (.invokestatic index, 3)) (hf : cells ≤ R.cells ∧ slots ≤ R.slots) : va_Run p l e R s m args below meth c H locs cells slots 0 0 (F0 m pc ls st0) rest (Qc As.toArray) free :=
  va_runS F hM (cwS n F.2.2.2.2 hG hw rfl rfl hd hR) ⟨gP_blind, fun U hU hWm => ⟨rfl, by rw [hU], by rw [hU]; exact hP, va_K.moved hWm.alike hK, hD.weaken (fun _ _ _ _ => trivial), gEX_step hX hS hWm hU (gx_free hD hS hA)⟩⟩ rfl hn hsize hst (lv_room hW) hdg hf
theorem gx_nilP : va_P G vwCl [] H := fun k q h => by simp at h
theorem gx_nilD : va_D A [] := ⟨fun i j p q h => by simp at h, fun k q h => by simp at h⟩
theorem gx_runS0 {y : MethodName} {bytes : ByteArray} {maxL nL n index k : Nat} {ret : Option FieldType} {wd wd' : List Cond} {Qc : Array Value → State → Outcome → State → Prop} {free : Addr → Prop} {Ts : List Cond} {own : String} {As : List Value} (F : CallFix p m c cc nL s args Ts own) (hM : Met l y wd (gRm k) (va_Pc As (gP G tys [] H.size)) Qc 0 0 free) (hG : GoodIn Ts (wsS own index y wd)) (hw : wd = Cond.code y bytes maxL ret :: wd') (hd : y.cls = own ∧ y.cls ≠ "java/lang/invoke/MethodHandle" ∧ y.cls ≠ "java/lang/invoke/VarHandle" ∧ (parseMethodDescriptor y.desc).map (fun d => d.parameters.length) = some n) (hR : k + 1 ≤ R.frames ∧ 8 + (maxL + 11) + 100 * k ≤ R.locals) (hK : va_K G vwCl tys s) (hX : gEX G A s) (hS : va_S A s.heap H locs) (hA : ∀ q, s.heap.size ≤ q → A q) (hn : As.length = n) (hsize : ls.size = nL) (hst : st0 = As.reverse ++ rest) (hW : (rest.map fun v => v.category).sum ≤ 8) (hdg : decode cc pc = .ok (.invokestatic index, 3)) (hf : cells ≤ R.cells ∧ slots ≤ R.slots) : va_Run p l e R s m args below meth c H locs cells slots 0 0 (F0 m pc ls st0) rest (Qc As.toArray) free :=
  gx_runS F hM hG hw hd hR hK gx_nilP (gx_nilD (A := A)) hX hS hA hn hsize hst hW hdg hf
theorem gw_tret {S : Type} {post : Int32 → S → Prop} {w1 : S → va_W} {v : Int32} {ty : FieldType} (u : S) (hx : p.tables.exec = Jvm.exec) (hb : c.code = cc) (hr : meth.sig.returnType = some ty) (hlocks : meth.locks = false) (hv : narrow ty (.int v) = .int v) (hP : va_P G vwCl (w1 u) H) (hD : va_D A (w1 u)) (hS : va_S A s.heap H locs) (hp : post v u) (hdg : decode cc pc = .ok (.ireturn, 1)) : W p l e R s m args below meth c H locs cells slots (MQ below (va_Qi post (gB G w1 A) A) args s cells slots A) (F0 m pc ls [.int v]) :=
  W.zret hx hb hr hv (fun t ht _ => ⟨⟨v, u, rfl, hp, by rw [ht]; exact hP, hD⟩, hS.F ht⟩) hS.2.2 hdg hlocks
theorem gx_runSx0 {y : MethodName} {bytes : ByteArray} {maxL nL n index k : Nat} {ret : Option FieldType} {wd wd' : List Cond} {Qc : Array Value → State → Outcome → State → Prop} {free : Addr → Prop} {Ts : List Cond} {own : String} {As : List Value} (F : CallFix p m c cc nL s args Ts own) (hM : Met l y wd (gRm k) (va_Pc As (gP G tys [] H.size)) Qc 0 0 free) (hG : GoodIn Ts (va_wsS own index y wd)) (hw : wd = Cond.code y bytes maxL ret :: wd') (hd : y.cls ≠ "java/lang/invoke/MethodHandle" ∧ y.cls ≠ "java/lang/invoke/VarHandle" ∧ (parseMethodDescriptor y.desc).map (fun d => d.parameters.length) = some n) (hR : k + 1 ≤ R.frames ∧ 8 + (maxL + 11) + 100 * k ≤ R.locals) (hK : va_K G vwCl tys s) (hX : gEX G A s) (hS : va_S A s.heap H locs) (hA : ∀ q, s.heap.size ≤ q → A q) (hn : As.length = n) (hsize : ls.size = nL) (hst : st0 = As.reverse ++ rest) (hW : (rest.map fun v => v.category).sum ≤ 8) (hdg : decode cc pc = .ok (.invokestatic index, 3)) (hf : cells ≤ R.cells ∧ slots ≤ R.slots) : va_Run p l e R s m args below meth c H locs cells slots 0 0 (F0 m pc ls st0) rest (Qc As.toArray) free :=
  va_runS F hM (va_cwS n F.2.2.2.2 hG hw rfl rfl hd hR) ⟨gP_blind, fun U hU hWm => ⟨rfl, by rw [hU], gx_nilP, va_K.moved hWm.alike hK, gx_nilD, gEX_step hX hS hWm hU (gx_free (gx_nilD (A := A)) hS hA)⟩⟩ rfl hn hsize hst (lv_room hW) hdg hf
theorem gx_runV0 {y : MethodName} {bytes : ByteArray} {maxL nL n index k : Nat} {ret : Option FieldType} {wd wd' : List Cond} {Qc : Array Value → State → Outcome → State → Prop} {free : Addr → Prop} {Ts : List Cond} {own C : String} {b : Nat} {As : List Value} (F : CallFix p m c cc nL s args Ts own) (hM : Met l y wd (gRm k) (va_Pc (.ref b :: As) (gP G tys [] H.size)) Qc 0 0 free) (hG : GoodIn Ts (wsV own index C y wd)) (hw : wd = Cond.code y bytes maxL ret :: wd') (hd : y.cls = C ∧ y.cls ≠ "java/lang/invoke/MethodHandle" ∧ y.cls ≠ "java/lang/invoke/VarHandle" ∧ (parseMethodDescriptor y.desc).map (fun d => d.parameters.length) = some n) (hR : k + 1 ≤ R.frames ∧ 8 + (maxL + 11) + 100 * k ≤ R.locals) (hK : va_K G vwCl tys s) (hX : gEX G A s) (hS : va_S A s.heap H locs) (hA : ∀ q, s.heap.size ≤ q → A q) (hrec : ∃ cellB : Cell, H[b]? = some cellB ∧ cellB.vm.isStatics = false ∧ s.vm.findClass C = some cellB.cls) (hn : As.length = n) (hsize : ls.size = nL) (hst : st0 = As.reverse ++ .ref b :: rest) (hW : (rest.map fun v => v.category).sum ≤ 8) (hdg : decode cc pc = .ok (.invokevirtual index, 3)) (hf : cells ≤ R.cells ∧ slots ≤ R.slots) : va_Run p l e R s m args below meth c H locs cells slots 0 0 (F0 m pc ls st0) rest (Qc (Value.ref b :: As).toArray) free :=
  va_runV F hM (cwV n F.2.2.2.2 hG hw rfl rfl hd hR) ⟨gP_blind, hrec, fun U hU hWm => ⟨rfl, by rw [hU], gx_nilP, va_K.moved hWm.alike hK, gx_nilD, gEX_step hX hS hWm hU (gx_free (gx_nilD (A := A)) hS hA)⟩⟩ rfl hn hsize hst (lv_room hW) hdg hf
theorem gx_runSN0 {y : MethodName} {bytes : ByteArray} {maxL nL n index k : Nat} {ret : Option FieldType} {wd wd' : List Cond} {Qc : Array Value → State → Outcome → State → Prop} {free : Addr → Prop} {Ts : List Cond} {own host : String} {As : List Value} (F : CallFix p m c cc nL s args Ts own) (hM : Met l y wd (gRm k) (va_Pc As (gP G tys [] H.size)) Qc 0 0 free) (hG : GoodIn Ts wd) (hw : wd = Cond.code y bytes maxL ret :: wd') (hlk : va_Nw (.methodLinkNest own index y host) s) (hini : (Cond.initialized y.cls).before args s = true) (hstat : (Cond.static y).before args s = true) (hd : y.cls ≠ "java/lang/invoke/MethodHandle" ∧ y.cls ≠ "java/lang/invoke/VarHandle" ∧ (parseMethodDescriptor y.desc).map (fun d => d.parameters.length) = some n) (hR : k + 1 ≤ R.frames ∧ 8 + (maxL + 11) + 100 * k ≤ R.locals) (hK : va_K G vwCl tys s) (hX : gEX G A s) (hS : va_S A s.heap H locs) (hA : ∀ q, s.heap.size ≤ q → A q) (hn : As.length = n) (hsize : ls.size = nL) (hst : st0 = As.reverse ++ rest) (hW : (rest.map fun v => v.category).sum ≤ 8) (hdg : decode cc pc = .ok (.invokestatic index, 3)) (hf : cells ≤ R.cells ∧ slots ≤ R.slots) : va_Run p l e R s m args below meth c H locs cells slots 0 0 (F0 m pc ls st0) rest (Qc As.toArray) free :=
  va_runSN F hM ⟨va_cnB n F.2.2.2.2 hG hw rfl rfl hlk hini hd hR, hstat, trivial⟩ ⟨gP_blind, fun U hU hWm => ⟨rfl, by rw [hU], gx_nilP, va_K.moved hWm.alike hK, gx_nilD, gEX_step hX hS hWm hU (gx_free (gx_nilD (A := A)) hS hA)⟩⟩ rfl hn hsize hst (lv_room hW) hdg hf
theorem gx_callq {S : Type} {post : Option Nat → S → Prop} {w1 : S → va_W} {a : Array Value} (run : va_Run p l e R s m args below meth c H locs cells slots 0 0 (F0 m pc ls st0) rest (va_Qq post (gB G w1 (va_A ws H.size)) (va_A ws H.size) a) (va_A ws H.size)) (hP : va_P G vwCl ws H) (hD : va_D A ws) (hS : va_S A H0 H locs) (hA : ∀ q, H0.size ≤ q → A q)
    (kk : ∀ (r : Option Nat) (u : S) (H1 : Heap) (locs1 : List Loc), post r u → va_P G vwCl (w1 u) H1 → va_D A (w1 u) → va_S A H0 H1 locs1 → W p l e R s m args below meth c H1 locs1 cells slots Q (F0 m (pc + 3) ls (va_rf r :: rest))) : W p l e R s m args below meth c H locs cells slots Q (F0 m pc ls st0) := by
  have hF := gx_free hD hS hA
  refine va_callq run hS (fun q _ h => hF q h) hF (fun r u t H1 locs1 ht hvm hw hB hz hk hS1 => ?_)
  obtain ⟨hP1, hD1⟩ := hB
  rw [ht] at hP1
  exact kk r u H1 locs1 hw hP1 (hD1.weaken (fun _ _ _ h => hF _ h)) hS1
theorem gx_calli {S : Type} {post : Int32 → S → Prop} {w1 : S → va_W} {a : Array Value} (run : va_Run p l e R s m args below meth c H locs cells slots 0 0 (F0 m pc ls st0) rest (va_Qi post (gB G w1 (va_A ws H.size)) (va_A ws H.size) a) (va_A ws H.size)) (hP : va_P G vwCl ws H) (hD : va_D A ws) (hS : va_S A H0 H locs) (hA : ∀ q, H0.size ≤ q → A q)
    (kk : ∀ (r : Int32) (u : S) (H1 : Heap) (locs1 : List Loc), post r u → va_P G vwCl (w1 u) H1 → va_D A (w1 u) → va_S A H0 H1 locs1 → W p l e R s m args below meth c H1 locs1 cells slots Q (F0 m (pc + 3) ls (.int r :: rest))) : W p l e R s m args below meth c H locs cells slots Q (F0 m pc ls st0) := by
  have hF := gx_free hD hS hA
  refine va_calli run hS (fun q _ h => hF q h) hF (fun r u t H1 locs1 ht hvm hw hB hz hk hS1 => ?_)
  obtain ⟨hP1, hD1⟩ := hB
  rw [ht] at hP1
  exact kk r u H1 locs1 hw hP1 (hD1.weaken (fun _ _ _ h => hF _ h)) hS1
theorem gx_calli0 {S : Type} {post : Int32 → S → Prop} {w1 : S → va_W} {a : Array Value} (run : va_Run p l e R s m args below meth c H locs cells slots 0 0 (F0 m pc ls st0) rest (va_Qi post (gB G w1 (va_A [] H.size)) (va_A [] H.size) a) (va_A [] H.size)) (hP : va_P G vwCl ws H) (hD : va_D A ws) (hS : va_S A H0 H locs) (hA : ∀ q, H0.size ≤ q → A q)
    (kk : ∀ (r : Int32) (u : S) (H1 : Heap) (locs1 : List Loc), post r u → va_P G vwCl ws H1 → va_D A ws → va_S A H0 H1 locs1 → W p l e R s m args below meth c H1 locs1 cells slots Q (F0 m (pc + 3) ls (.int r :: rest))) : W p l e R s m args below meth c H locs cells slots Q (F0 m pc ls st0) := by
  have hF := gx_free (gx_nilD (A := A)) hS hA
  refine va_calli run hS (fun q _ h => hF q h) hF (fun r u t H1 locs1 ht hvm hw hB hz hk hS1 => ?_)
  refine kk r u H1 locs1 hw (hP.kept (fun k x hx => hk x.1 ((hP k x hx).lt) ?_)) hD hS1
  intro h
  rcases h with ⟨k, e, h⟩ | h
  · simp at h
  · exact absurd ((hP _ x hx).lt) (Nat.not_lt.mpr h)
theorem gx_calll {S : Type} {post : Int64 → S → Prop} {w1 : S → va_W} {a : Array Value} (run : va_Run p l e R s m args below meth c H locs cells slots 0 0 (F0 m pc ls st0) rest (va_Ql post (gB G w1 (va_A ws H.size)) (va_A ws H.size) a) (va_A ws H.size)) (hP : va_P G vwCl ws H) (hD : va_D A ws) (hS : va_S A H0 H locs) (hA : ∀ q, H0.size ≤ q → A q)
    (kk : ∀ (r : Int64) (u : S) (H1 : Heap) (locs1 : List Loc), post r u → va_P G vwCl (w1 u) H1 → va_D A (w1 u) → va_S A H0 H1 locs1 → W p l e R s m args below meth c H1 locs1 cells slots Q (F0 m (pc + 3) ls (.long r :: rest))) : W p l e R s m args below meth c H locs cells slots Q (F0 m pc ls st0) := by
  have hF := gx_free hD hS hA
  refine va_calll run hS (fun q _ h => hF q h) hF (fun r u t H1 locs1 ht hvm hw hB hz hk hS1 => ?_)
  obtain ⟨hP1, hD1⟩ := hB
  rw [ht] at hP1
  exact kk r u H1 locs1 hw hP1 (hD1.weaken (fun _ _ _ h => hF _ h)) hS1
theorem gx_calll0 {S : Type} {post : Int64 → S → Prop} {w1 : S → va_W} {a : Array Value} (run : va_Run p l e R s m args below meth c H locs cells slots 0 0 (F0 m pc ls st0) rest (va_Ql post (gB G w1 (va_A [] H.size)) (va_A [] H.size) a) (va_A [] H.size)) (hP : va_P G vwCl ws H) (hD : va_D A ws) (hS : va_S A H0 H locs) (hA : ∀ q, H0.size ≤ q → A q)
    (kk : ∀ (r : Int64) (u : S) (H1 : Heap) (locs1 : List Loc), post r u → va_P G vwCl ws H1 → va_D A ws → va_S A H0 H1 locs1 → W p l e R s m args below meth c H1 locs1 cells slots Q (F0 m (pc + 3) ls (.long r :: rest))) : W p l e R s m args below meth c H locs cells slots Q (F0 m pc ls st0) := by
  have hF := gx_free (gx_nilD (A := A)) hS hA
  refine va_calll run hS (fun q _ h => hF q h) hF (fun r u t H1 locs1 ht hvm hw hB hz hk hS1 => ?_)
  refine kk r u H1 locs1 hw (hP.kept (fun k x hx => hk x.1 ((hP k x hx).lt) ?_)) hD hS1
  intro h
  rcases h with ⟨k, e, h⟩ | h
  · simp at h
  · exact absurd ((hP _ x hx).lt) (Nat.not_lt.mpr h)
theorem gx_callv {S : Type} {post : S → Prop} {w1 : S → va_W} {a : Array Value} (run : va_Run p l e R s m args below meth c H locs cells slots 0 0 (F0 m pc ls st0) rest (va_Qv post (gB G w1 (va_A ws H.size)) (va_A ws H.size) a) (va_A ws H.size)) (hP : va_P G vwCl ws H) (hD : va_D A ws) (hS : va_S A H0 H locs) (hA : ∀ q, H0.size ≤ q → A q)
    (kk : ∀ (u : S) (H1 : Heap) (locs1 : List Loc), post u → va_P G vwCl (w1 u) H1 → va_D A (w1 u) → va_S A H0 H1 locs1 → W p l e R s m args below meth c H1 locs1 cells slots Q (F0 m (pc + 3) ls (rest))) : W p l e R s m args below meth c H locs cells slots Q (F0 m pc ls st0) := by
  have hF := gx_free hD hS hA
  refine va_callv run hS (fun q _ h => hF q h) hF (fun u t H1 locs1 ht hvm hw hB hz hk hS1 => ?_)
  obtain ⟨hP1, hD1⟩ := hB
  rw [ht] at hP1
  exact kk u H1 locs1 hw hP1 (hD1.weaken (fun _ _ _ h => hF _ h)) hS1
theorem gx_callv0 {S : Type} {post : S → Prop} {w1 : S → va_W} {a : Array Value} (run : va_Run p l e R s m args below meth c H locs cells slots 0 0 (F0 m pc ls st0) rest (va_Qv post (gB G w1 (va_A [] H.size)) (va_A [] H.size) a) (va_A [] H.size)) (hP : va_P G vwCl ws H) (hD : va_D A ws) (hS : va_S A H0 H locs) (hA : ∀ q, H0.size ≤ q → A q)
    (kk : ∀ (u : S) (H1 : Heap) (locs1 : List Loc), post u → va_P G vwCl ws H1 → va_D A ws → va_S A H0 H1 locs1 → W p l e R s m args below meth c H1 locs1 cells slots Q (F0 m (pc + 3) ls (rest))) : W p l e R s m args below meth c H locs cells slots Q (F0 m pc ls st0) := by
  have hF := gx_free (gx_nilD (A := A)) hS hA
  refine va_callv run hS (fun q _ h => hF q h) hF (fun u t H1 locs1 ht hvm hw hB hz hk hS1 => ?_)
  refine kk u H1 locs1 hw (hP.kept (fun k x hx => hk x.1 ((hP k x hx).lt) ?_)) hD hS1
  intro h
  rcases h with ⟨k, e, h⟩ | h
  · simp at h
  · exact absurd ((hP _ x hx).lt) (Nat.not_lt.mpr h)
end GX
