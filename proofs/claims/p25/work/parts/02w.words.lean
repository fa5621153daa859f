def nthP (l : List Cond) (i : Nat) (w : Cond) : Prop := List.rec (motive := fun _ => Nat → Prop) (fun _ => False) (fun x _ ih i => Nat.rec (motive := fun _ => Prop) (x = w) (fun q _ => ih q) i) l i
theorem nthP_mem {l : List Cond} : ∀ {i : Nat} {w : Cond}, nthP l i w → w ∈ l := by
  induction l with
  | nil => intro i w h; exact False.elim h
  | cons x t ih =>
    intro i w h
    cases i with
    | zero => have h : x = w := h; rw [← h]; exact List.mem_cons_self ..
    | succ q => exact List.mem_cons_of_mem _ (ih (show nthP t q w from h))
theorem m_0 : Cond.fieldLink RX4 21 "GooseLetters$State" "gooseCount" "I" ∈ lwc := nv_1 (nthP_mem (i := 34) rfl) rfl
theorem m_1 : Cond.fieldLink RX4 25 "GooseLetters$State" "marketCount" "I" ∈ lwc := nv_1 (nthP_mem (i := 36) rfl) rfl
theorem m_2 : Cond.fieldLink RX4 11 "GooseLetters$State" "geese" "[I" ∈ lwc := nv_1 (nthP_mem (i := 31) rfl) rfl
theorem m_3 : Cond.code yX4_hasGoose cX4_hasGoose 2 (some .boolean) ∈ lwc := nv_2 (nthP_mem (i := 76) rfl) rfl
theorem m_4 : Cond.methodLink RX4 58 yX4_hasGoose ∈ lwc := nv_2 (nthP_mem (i := 73) rfl) rfl
theorem m_5 : Cond.instanceMethod yX4_hasGoose ∈ lwc := nv_2 (nthP_mem (i := 74) rfl) rfl
theorem m_6 : Cond.selects RX4 yX4_hasGoose yX4_hasGoose ∈ lwc := nv_2 (nthP_mem (i := 75) rfl) rfl
theorem m_7 : Cond.initialized RX4 ∈ lwc := nv_1 (nthP_mem (i := 2) rfl) rfl
theorem m_8 : Cond.fieldLink RX4 15 "GooseLetters$State" "markets" "[I" ∈ lwc := nv_1 (nthP_mem (i := 32) rfl) rfl
theorem m_9 : Cond.code yX4_setGoose cX4_setGoose 4 none ∈ lwc := nv_2 (nthP_mem (i := 72) rfl) rfl
theorem m_10 : Cond.methodLink RX4 62 yX4_setGoose ∈ lwc := nv_2 (nthP_mem (i := 69) rfl) rfl
theorem m_11 : Cond.instanceMethod yX4_setGoose ∈ lwc := nv_2 (nthP_mem (i := 70) rfl) rfl
theorem m_12 : Cond.selects RX4 yX4_setGoose yX4_setGoose ∈ lwc := nv_2 (nthP_mem (i := 71) rfl) rfl
theorem m_13 : Cond.code yX4_ofGoose cX4_ofGoose 3 (some .int) ∈ lwc := nv_2 (nthP_mem (i := 102) rfl) rfl
theorem m_14 : Cond.methodLink RX4 66 yX4_ofGoose ∈ lwc := nv_2 (nthP_mem (i := 99) rfl) rfl
theorem m_15 : Cond.instanceMethod yX4_ofGoose ∈ lwc := nv_2 (nthP_mem (i := 100) rfl) rfl
theorem m_16 : Cond.selects RX4 yX4_ofGoose yX4_ofGoose ∈ lwc := nv_2 (nthP_mem (i := 101) rfl) rfl
theorem m_17 : Cond.code yX4_isHome cX4_isHome 2 (some .boolean) ∈ lwc := nv_2 (nthP_mem (i := 98) rfl) rfl
theorem m_18 : Cond.methodLink RX4 70 yX4_isHome ∈ lwc := nv_2 (nthP_mem (i := 190) rfl) rfl
theorem m_19 : Cond.instanceMethod yX4_isHome ∈ lwc := nv_2 (nthP_mem (i := 96) rfl) rfl
theorem m_20 : Cond.selects RX4 yX4_isHome yX4_isHome ∈ lwc := nv_2 (nthP_mem (i := 97) rfl) rfl
theorem m_21 : Cond.fieldLink RX4 34 "GooseLetters$State" "day" "I" ∈ lwc := nv_1 (nthP_mem (i := 43) rfl) rfl
theorem m_22 : Cond.fieldLink RX4 31 "GooseLetters$State" "mouths" "I" ∈ lwc := nv_1 (nthP_mem (i := 41) rfl) rfl
theorem m_23 : Cond.code yX4_countFate cX4_countFate 4 (some .int) ∈ lwc := nv_3 (nthP_mem (i := 8) rfl) rfl
theorem m_24 : Cond.methodLink RX4 73 yX4_countFate ∈ lwc := nv_3 (nthP_mem (i := 5) rfl) rfl
theorem m_25 : Cond.instanceMethod yX4_countFate ∈ lwc := nv_3 (nthP_mem (i := 6) rfl) rfl
theorem m_26 : Cond.selects RX4 yX4_countFate yX4_countFate ∈ lwc := nv_3 (nthP_mem (i := 7) rfl) rfl
theorem m_27 : Cond.code yX4_dailyNeed cX4_dailyNeed 1 (some .int) ∈ lwc := nv_3 (nthP_mem (i := 4) rfl) rfl
theorem m_28 : Cond.methodLink RX4 77 yX4_dailyNeed ∈ lwc := nv_3 (nthP_mem (i := 1) rfl) rfl
theorem m_29 : Cond.instanceMethod yX4_dailyNeed ∈ lwc := nv_3 (nthP_mem (i := 2) rfl) rfl
theorem m_30 : Cond.selects RX4 yX4_dailyNeed yX4_dailyNeed ∈ lwc := nv_3 (nthP_mem (i := 3) rfl) rfl
theorem m_31 : Cond.fieldLink RX4 28 "GooseLetters$State" "grain" "I" ∈ lwc := nv_1 (nthP_mem (i := 39) rfl) rfl
theorem m_32 : Cond.code yX4_isFree cX4_isFree 2 (some .boolean) ∈ lwc := nv_2 (nthP_mem (i := 189) rfl) rfl
theorem m_33 : Cond.methodLink RX4 81 yX4_isFree ∈ lwc := nv_3 (nthP_mem (i := 9) rfl) rfl
theorem m_34 : Cond.instanceMethod yX4_isFree ∈ lwc := nv_2 (nthP_mem (i := 187) rfl) rfl
theorem m_35 : Cond.selects RX4 yX4_isFree yX4_isFree ∈ lwc := nv_2 (nthP_mem (i := 188) rfl) rfl
theorem m_36 : Cond.code yX4_settle cX4_settle 3 none ∈ lwc := nv_2 (nthP_mem (i := 236) rfl) rfl
theorem m_37 : Cond.methodLink RX4 84 yX4_settle ∈ lwc := nv_3 (nthP_mem (i := 10) rfl) rfl
theorem m_38 : Cond.instanceMethod yX4_settle ∈ lwc := nv_2 (nthP_mem (i := 234) rfl) rfl
theorem m_39 : Cond.selects RX4 yX4_settle yX4_settle ∈ lwc := nv_2 (nthP_mem (i := 235) rfl) rfl
theorem m_40 : Cond.fieldLink RX4 37 "GooseLetters$State" "x" "I" ∈ lwc := nv_1 (nthP_mem (i := 47) rfl) rfl
theorem m_41 : Cond.fieldLink RX4 49 "GooseLetters$State" "stepCount" "I" ∈ lwc := nv_1 (nthP_mem (i := 55) rfl) rfl
theorem m_42 : Cond.fieldLink RX4 46 "GooseLetters$State" "firstStep" "I" ∈ lwc := nv_1 (nthP_mem (i := 54) rfl) rfl
theorem m_43 : Cond.fieldLink RX4 18 "GooseLetters$State" "steps" "[I" ∈ lwc := nv_1 (nthP_mem (i := 33) rfl) rfl
theorem m_44 : Cond.methodLink RX4 52 arraycopyName ∈ lwc := nv_2 (nthP_mem (i := 174) rfl) rfl
theorem m_45 : Cond.native arraycopyName ∈ lwc := nv_2 (nthP_mem (i := 176) rfl) rfl
theorem m_46 : Cond.static arraycopyName ∈ lwc := nv_2 (nthP_mem (i := 175) rfl) rfl
theorem m_47 : Cond.initialized "java/lang/System" ∈ lwc := nv_1 (nthP_mem (i := 12) rfl) rfl
theorem m_48 : Cond.methodLink RX4 88 Lib.Math.max.name ∈ lwc := nv_3 (nthP_mem (i := 234) rfl) rfl
theorem m_49 : Cond.static Lib.Math.max.name ∈ lwc := nv_2 (nthP_mem (i := 168) rfl) rfl
theorem m_50 : Cond.initialized "java/lang/Math" ∈ lwc := nv_1 (nthP_mem (i := 11) rfl) rfl
theorem m_51 : Cond.code Lib.Math.max.name Lib.Math.max.code 2 (some .int) ∈ lwc := nv_2 (nthP_mem (i := 169) rfl) rfl
theorem m_52 : Cond.methodLink RX4 93 Lib.Math.min.name ∈ lwc := nv_3 (nthP_mem (i := 235) rfl) rfl
theorem m_53 : Cond.static Lib.Math.min.name ∈ lwc := nv_2 (nthP_mem (i := 165) rfl) rfl
theorem m_54 : Cond.code Lib.Math.min.name Lib.Math.min.code 2 (some .int) ∈ lwc := nv_2 (nthP_mem (i := 166) rfl) rfl
theorem m_55 : Cond.fieldLink RX4 40 "GooseLetters$State" "textCount" "I" ∈ lwc := nv_1 (nthP_mem (i := 49) rfl) rfl
theorem m_56 : Cond.fieldLink RX4 43 "GooseLetters$State" "ruling" "I" ∈ lwc := nv_1 (nthP_mem (i := 51) rfl) rfl
theorem m_57 : Cond.code yX8_isLetter cX8_isLetter 1 (some .boolean) ∈ lwc := nv_2 (nthP_mem (i := 94) rfl) rfl
theorem m_58 : Cond.methodLink RX8 185 yX8_isLetter ∈ lwc := nv_2 (nthP_mem (i := 92) rfl) rfl
theorem m_59 : Cond.static yX8_isLetter ∈ lwc := nv_2 (nthP_mem (i := 93) rfl) rfl
theorem m_60 : Cond.initialized RX8 ∈ lwc := nv_1 (nthP_mem (i := 1) rfl) rfl
theorem m_61 : Cond.code yX9_in cX9_in 3 (some .boolean) ∈ lwc := nv_5 (nthP_mem (i := 95) rfl) rfl
theorem m_62 : Cond.methodLink RX9 126 yX9_in ∈ lwc := nv_5 (nthP_mem (i := 93) rfl) rfl
theorem m_63 : Cond.static yX9_in ∈ lwc := nv_5 (nthP_mem (i := 94) rfl) rfl
theorem m_64 : Cond.initialized RX9 ∈ lwc := nv_1 (nthP_mem (i := 10) rfl) rfl
theorem m_65 : Cond.constantLong RX9 170 (2394252282226) ∈ lwc := nv_5 (nthP_mem (i := 217) rfl) rfl
theorem m_66 : Cond.constantLong RX9 172 (54316648818) ∈ lwc := nv_5 (nthP_mem (i := 218) rfl) rfl
theorem m_67 : Cond.constantLong RX9 174 (170923) ∈ lwc := nv_5 (nthP_mem (i := 219) rfl) rfl
theorem m_68 : Cond.constantLong RX9 176 (9369893) ∈ lwc := nv_5 (nthP_mem (i := 220) rfl) rfl
theorem m_69 : Cond.constantLong RX9 178 (10132268) ∈ lwc := nv_5 (nthP_mem (i := 221) rfl) rfl
theorem m_70 : Cond.constantLong RX9 180 (13523876) ∈ lwc := nv_5 (nthP_mem (i := 222) rfl) rfl
theorem m_71 : Cond.constantLong RX9 182 (41369684334) ∈ lwc := nv_5 (nthP_mem (i := 223) rfl) rfl
theorem m_72 : Cond.constantLong RX9 184 (12721395) ∈ lwc := nv_5 (nthP_mem (i := 224) rfl) rfl
theorem m_73 : Cond.constantLong RX9 186 (14589224) ∈ lwc := nv_5 (nthP_mem (i := 225) rfl) rfl
theorem m_74 : Cond.constantLong RX9 188 (3375) ∈ lwc := nv_5 (nthP_mem (i := 226) rfl) rfl
theorem m_75 : Cond.constantLong RX9 190 (3058) ∈ lwc := nv_5 (nthP_mem (i := 227) rfl) rfl
theorem m_76 : Cond.constantLong RX9 192 (138148) ∈ lwc := nv_5 (nthP_mem (i := 228) rfl) rfl
theorem m_77 : Cond.constantLong RX9 194 (191476) ∈ lwc := nv_5 (nthP_mem (i := 229) rfl) rfl
theorem m_78 : Cond.constantLong RX9 196 (666828005) ∈ lwc := nv_5 (nthP_mem (i := 230) rfl) rfl
theorem m_79 : Cond.constantLong RX9 198 (59687467572) ∈ lwc := nv_5 (nthP_mem (i := 231) rfl) rfl
theorem m_80 : Cond.constantLong RX9 200 (169704704597171) ∈ lwc := nv_5 (nthP_mem (i := 232) rfl) rfl
theorem m_81 : Cond.constantLong RX9 202 (47879244146) ∈ lwc := nv_5 (nthP_mem (i := 233) rfl) rfl
theorem m_82 : Cond.constantLong RX9 204 (12721332) ∈ lwc := nv_5 (nthP_mem (i := 234) rfl) rfl
theorem m_83 : Cond.constantLong RX9 206 (149625) ∈ lwc := nv_5 (nthP_mem (i := 235) rfl) rfl
theorem m_84 : Cond.constantLong RX9 208 (48885315956) ∈ lwc := nv_5 (nthP_mem (i := 236) rfl) rfl
theorem m_85 : Cond.constantLong RX9 210 (667572580) ∈ lwc := nv_5 (nthP_mem (i := 237) rfl) rfl
theorem m_86 : Cond.constantLong RX9 212 (9935219) ∈ lwc := nv_5 (nthP_mem (i := 238) rfl) rfl
theorem m_87 : Cond.constantLong RX9 338 (1000000) ∈ lwc := nv_5 (nthP_mem (i := 157) rfl) rfl
theorem m_88 : Cond.constantLong RX9 340 (-1000000) ∈ lwc := nv_5 (nthP_mem (i := 158) rfl) rfl
theorem m_89 : Cond.code yX9_bound cX9_bound 2 (some .long) ∈ lwc := nv_5 (nthP_mem (i := 156) rfl) rfl
theorem m_90 : Cond.methodLink RX9 342 yX9_bound ∈ lwc := nv_5 (nthP_mem (i := 154) rfl) rfl
theorem m_91 : Cond.static yX9_bound ∈ lwc := nv_5 (nthP_mem (i := 155) rfl) rfl
theorem m_92 : Cond.fieldLink RX9 7 "GooseLettersModel" "a" "[I" ∈ lwc := nv_4 (nthP_mem (i := 169) rfl) rfl
theorem m_93 : Cond.fieldLink RX9 13 "GooseLettersModel" "image" "[I" ∈ lwc := nv_4 (nthP_mem (i := 170) rfl) rfl
theorem m_94 : Cond.code yX9_tellsGoose cX9_tellsGoose 6 none ∈ lwc := nv_5 (nthP_mem (i := 103) rfl) rfl
theorem m_95 : Cond.methodLink RX9 130 yX9_tellsGoose ∈ lwc := nv_5 (nthP_mem (i := 100) rfl) rfl
theorem m_96 : Cond.instanceMethod yX9_tellsGoose ∈ lwc := nv_5 (nthP_mem (i := 102) rfl) rfl
theorem m_97 : Cond.selects RX9 yX9_tellsGoose yX9_tellsGoose ∈ lwc := nv_0 (nthP_mem (i := 34) rfl) rfl
theorem m_98 : Cond.code yX9_isGoose cX9_isGoose 2 (some .boolean) ∈ lwc := nv_5 (nthP_mem (i := 127) rfl) rfl
theorem m_99 : Cond.methodLink RX9 134 yX9_isGoose ∈ lwc := nv_5 (nthP_mem (i := 124) rfl) rfl
theorem m_100 : Cond.instanceMethod yX9_isGoose ∈ lwc := nv_5 (nthP_mem (i := 126) rfl) rfl
theorem m_101 : Cond.selects RX9 yX9_isGoose yX9_isGoose ∈ lwc := nv_0 (nthP_mem (i := 36) rfl) rfl
theorem m_102 : Cond.code yX9_ofGoose cX9_ofGoose 3 (some .int) ∈ lwc := nv_5 (nthP_mem (i := 131) rfl) rfl
theorem m_103 : Cond.methodLink RX9 138 yX9_ofGoose ∈ lwc := nv_5 (nthP_mem (i := 128) rfl) rfl
theorem m_104 : Cond.instanceMethod yX9_ofGoose ∈ lwc := nv_5 (nthP_mem (i := 130) rfl) rfl
theorem m_105 : Cond.selects RX9 yX9_ofGoose yX9_ofGoose ∈ lwc := nv_0 (nthP_mem (i := 37) rfl) rfl
theorem m_106 : Cond.fieldLink RX9 16 "GooseLettersModel" "tape" "[B" ∈ lwc := nv_4 (nthP_mem (i := 171) rfl) rfl
theorem m_107 : Cond.fieldLink RX9 163 "GooseLettersModel" "taped" "I" ∈ lwc := nv_4 (nthP_mem (i := 172) rfl) rfl
theorem m_108 : Cond.code yX9_put cX9_put 3 none ∈ lwc := nv_5 (nthP_mem (i := 197) rfl) rfl
theorem m_109 : Cond.methodLink RX9 166 yX9_put ∈ lwc := nv_5 (nthP_mem (i := 194) rfl) rfl
theorem m_110 : Cond.instanceMethod yX9_put ∈ lwc := nv_5 (nthP_mem (i := 196) rfl) rfl
theorem m_111 : Cond.selects RX9 yX9_put yX9_put ∈ lwc := nv_0 (nthP_mem (i := 45) rfl) rfl
theorem m_112 : Cond.code yX9_copies cX9_copies 3 none ∈ lwc := nv_4 (nthP_mem (i := 168) rfl) rfl
theorem m_113 : Cond.methodLink RX9 122 yX9_copies ∈ lwc := nv_4 (nthP_mem (i := 165) rfl) rfl
theorem m_114 : Cond.instanceMethod yX9_copies ∈ lwc := nv_4 (nthP_mem (i := 167) rfl) rfl
theorem m_115 : Cond.selects RX9 yX9_copies yX9_copies ∈ lwc := nv_0 (nthP_mem (i := 33) rfl) rfl
theorem m_116 : Cond.code yX9_isMarket cX9_isMarket 2 (some .boolean) ∈ lwc := nv_5 (nthP_mem (i := 177) rfl) rfl
theorem m_117 : Cond.methodLink RX9 160 yX9_isMarket ∈ lwc := nv_5 (nthP_mem (i := 174) rfl) rfl
theorem m_118 : Cond.instanceMethod yX9_isMarket ∈ lwc := nv_5 (nthP_mem (i := 176) rfl) rfl
theorem m_119 : Cond.selects RX9 yX9_isMarket yX9_isMarket ∈ lwc := nv_0 (nthP_mem (i := 44) rfl) rfl
theorem m_120 : Cond.code yX9_geeseOf cX9_geeseOf 4 (some .int) ∈ lwc := nv_6 (nthP_mem (i := 125) rfl) rfl
theorem m_121 : Cond.methodLink RX9 378 yX9_geeseOf ∈ lwc := nv_6 (nthP_mem (i := 122) rfl) rfl
theorem m_122 : Cond.instanceMethod yX9_geeseOf ∈ lwc := nv_6 (nthP_mem (i := 124) rfl) rfl
theorem m_123 : Cond.selects RX9 yX9_geeseOf yX9_geeseOf ∈ lwc := nv_0 (nthP_mem (i := 72) rfl) rfl
theorem m_124 : Cond.fieldLink RX9 214 "GooseLettersModel" "at" "I" ∈ lwc := nv_4 (nthP_mem (i := 184) rfl) rfl
theorem m_125 : Cond.fieldLink RX9 217 "GooseLettersModel" "length" "I" ∈ lwc := nv_4 (nthP_mem (i := 183) rfl) rfl
theorem m_126 : Cond.fieldLink RX9 220 "GooseLettersModel" "token" "I" ∈ lwc := nv_4 (nthP_mem (i := 185) rfl) rfl
theorem m_127 : Cond.code yX9_isLetter cX9_isLetter 1 (some .boolean) ∈ lwc := nv_5 (nthP_mem (i := 212) rfl) rfl
theorem m_128 : Cond.methodLink RX9 226 yX9_isLetter ∈ lwc := nv_5 (nthP_mem (i := 210) rfl) rfl
theorem m_129 : Cond.static yX9_isLetter ∈ lwc := nv_5 (nthP_mem (i := 211) rfl) rfl
theorem m_130 : Cond.fieldLink RX9 235 "GooseLettersModel" "told" "I" ∈ lwc := nv_4 (nthP_mem (i := 187) rfl) rfl
theorem m_131 : Cond.fieldLink RX9 223 "GooseLettersModel" "sort" "I" ∈ lwc := nv_4 (nthP_mem (i := 186) rfl) rfl
theorem m_132 : Cond.constant RX9 238 (99999) ∈ lwc := nv_5 (nthP_mem (i := 239) rfl) rfl
theorem m_133 : Cond.constantLong RX9 229 (64) ∈ lwc := nv_5 (nthP_mem (i := 213) rfl) rfl
theorem m_134 : Cond.code yX9_wordOf cX9_wordOf 2 (some .int) ∈ lwc := nv_5 (nthP_mem (i := 216) rfl) rfl
theorem m_135 : Cond.methodLink RX9 231 yX9_wordOf ∈ lwc := nv_5 (nthP_mem (i := 214) rfl) rfl
theorem m_136 : Cond.static yX9_wordOf ∈ lwc := nv_5 (nthP_mem (i := 215) rfl) rfl
theorem m_137 : Cond.fieldLink RX9 239 "GooseLettersModel" "wrong" "I" ∈ lwc := nv_4 (nthP_mem (i := 188) rfl) rfl
theorem m_138 : Cond.fieldLink RX9 242 "GooseLettersModel" "wrongAt" "I" ∈ lwc := nv_4 (nthP_mem (i := 189) rfl) rfl
theorem m_139 : Cond.fieldLink RX9 78 "GooseLettersModel" "newOrder" "[I" ∈ lwc := nv_4 (nthP_mem (i := 206) rfl) rfl
theorem m_140 : Cond.fieldLink RX9 245 "GooseLettersModel" "newOrders" "I" ∈ lwc := nv_4 (nthP_mem (i := 205) rfl) rfl
theorem m_141 : Cond.fieldLink RX9 81 "GooseLettersModel" "newValue" "[I" ∈ lwc := nv_4 (nthP_mem (i := 207) rfl) rfl
theorem m_142 : Cond.fieldLink RX9 51 "GooseLettersModel" "frame" "[I" ∈ lwc := nv_4 (nthP_mem (i := 192) rfl) rfl
theorem m_143 : Cond.fieldLink RX9 248 "GooseLettersModel" "frames" "I" ∈ lwc := nv_4 (nthP_mem (i := 191) rfl) rfl
theorem m_144 : Cond.fieldLink RX9 251 "GooseLettersModel" "open" "I" ∈ lwc := nv_4 (nthP_mem (i := 190) rfl) rfl
theorem m_145 : Cond.code yX9_opensFrame cX9_opensFrame 2 none ∈ lwc := nv_6 (nthP_mem (i := 19) rfl) rfl
theorem m_146 : Cond.methodLink RX9 257 yX9_opensFrame ∈ lwc := nv_6 (nthP_mem (i := 16) rfl) rfl
theorem m_147 : Cond.instanceMethod yX9_opensFrame ∈ lwc := nv_6 (nthP_mem (i := 18) rfl) rfl
theorem m_148 : Cond.selects RX9 yX9_opensFrame yX9_opensFrame ∈ lwc := nv_0 (nthP_mem (i := 51) rfl) rfl
theorem m_149 : Cond.code yX9_next cX9_next 5 none ∈ lwc := nv_5 (nthP_mem (i := 209) rfl) rfl
theorem m_150 : Cond.methodLink RX9 260 yX9_next ∈ lwc := nv_5 (nthP_mem (i := 206) rfl) rfl
theorem m_151 : Cond.instanceMethod yX9_next ∈ lwc := nv_5 (nthP_mem (i := 208) rfl) rfl
theorem m_152 : Cond.selects RX9 yX9_next yX9_next ∈ lwc := nv_0 (nthP_mem (i := 46) rfl) rfl
theorem m_153 : Cond.code yX9_errs cX9_errs 2 none ∈ lwc := nv_6 (nthP_mem (i := 15) rfl) rfl
theorem m_154 : Cond.methodLink RX9 254 yX9_errs ∈ lwc := nv_6 (nthP_mem (i := 12) rfl) rfl
theorem m_155 : Cond.instanceMethod yX9_errs ∈ lwc := nv_6 (nthP_mem (i := 14) rfl) rfl
theorem m_156 : Cond.selects RX9 yX9_errs yX9_errs ∈ lwc := nv_0 (nthP_mem (i := 50) rfl) rfl
theorem m_157 : Cond.fieldLink RX9 263 "GooseLettersModel" "waits" "I" ∈ lwc := nv_4 (nthP_mem (i := 194) rfl) rfl
theorem m_158 : Cond.fieldLink RX9 60 "GooseLettersModel" "waitFrame" "[I" ∈ lwc := nv_4 (nthP_mem (i := 196) rfl) rfl
theorem m_159 : Cond.fieldLink RX9 57 "GooseLettersModel" "wait" "[I" ∈ lwc := nv_4 (nthP_mem (i := 195) rfl) rfl
theorem m_160 : Cond.code yX9_rank cX9_rank 1 (some .int) ∈ lwc := nv_6 (nthP_mem (i := 50) rfl) rfl
theorem m_161 : Cond.methodLink RX9 266 yX9_rank ∈ lwc := nv_6 (nthP_mem (i := 48) rfl) rfl
theorem m_162 : Cond.static yX9_rank ∈ lwc := nv_6 (nthP_mem (i := 49) rfl) rfl
theorem m_163 : Cond.code yX9_emits cX9_emits 3 none ∈ lwc := nv_6 (nthP_mem (i := 27) rfl) rfl
theorem m_164 : Cond.methodLink RX9 270 yX9_emits ∈ lwc := nv_6 (nthP_mem (i := 24) rfl) rfl
theorem m_165 : Cond.instanceMethod yX9_emits ∈ lwc := nv_6 (nthP_mem (i := 26) rfl) rfl
theorem m_166 : Cond.selects RX9 yX9_emits yX9_emits ∈ lwc := nv_0 (nthP_mem (i := 53) rfl) rfl
theorem m_167 : Cond.code yX9_works cX9_works 2 none ∈ lwc := nv_6 (nthP_mem (i := 54) rfl) rfl
theorem m_168 : Cond.methodLink RX9 274 yX9_works ∈ lwc := nv_6 (nthP_mem (i := 51) rfl) rfl
theorem m_169 : Cond.instanceMethod yX9_works ∈ lwc := nv_6 (nthP_mem (i := 53) rfl) rfl
theorem m_170 : Cond.selects RX9 yX9_works yX9_works ∈ lwc := nv_0 (nthP_mem (i := 59) rfl) rfl
theorem m_171 : Cond.code yX9_isWord cX9_isWord 2 (some .boolean) ∈ lwc := nv_6 (nthP_mem (i := 7) rfl) rfl
theorem m_172 : Cond.methodLink RX9 277 yX9_isWord ∈ lwc := nv_6 (nthP_mem (i := 4) rfl) rfl
theorem m_173 : Cond.instanceMethod yX9_isWord ∈ lwc := nv_6 (nthP_mem (i := 6) rfl) rfl
theorem m_174 : Cond.selects RX9 yX9_isWord yX9_isWord ∈ lwc := nv_0 (nthP_mem (i := 48) rfl) rfl
theorem m_175 : Cond.fieldLink RX9 283 "GooseLettersModel" "state" "I" ∈ lwc := nv_4 (nthP_mem (i := 197) rfl) rfl
theorem m_176 : Cond.code yX9_opensSign cX9_opensSign 2 (some .boolean) ∈ lwc := nv_6 (nthP_mem (i := 11) rfl) rfl
theorem m_177 : Cond.methodLink RX9 280 yX9_opensSign ∈ lwc := nv_6 (nthP_mem (i := 8) rfl) rfl
theorem m_178 : Cond.instanceMethod yX9_opensSign ∈ lwc := nv_6 (nthP_mem (i := 10) rfl) rfl
theorem m_179 : Cond.selects RX9 yX9_opensSign yX9_opensSign ∈ lwc := nv_0 (nthP_mem (i := 49) rfl) rfl
theorem m_180 : Cond.code yX9_top cX9_top 1 (some .int) ∈ lwc := nv_6 (nthP_mem (i := 35) rfl) rfl
theorem m_181 : Cond.methodLink RX9 295 yX9_top ∈ lwc := nv_6 (nthP_mem (i := 32) rfl) rfl
theorem m_182 : Cond.instanceMethod yX9_top ∈ lwc := nv_6 (nthP_mem (i := 34) rfl) rfl
theorem m_183 : Cond.selects RX9 yX9_top yX9_top ∈ lwc := nv_0 (nthP_mem (i := 55) rfl) rfl
theorem m_184 : Cond.fieldLink RX9 289 "GooseLettersModel" "newKind" "I" ∈ lwc := nv_4 (nthP_mem (i := 199) rfl) rfl
theorem m_185 : Cond.code yX9_oneIsOver cX9_oneIsOver 1 none ∈ lwc := nv_6 (nthP_mem (i := 31) rfl) rfl
theorem m_186 : Cond.methodLink RX9 286 yX9_oneIsOver ∈ lwc := nv_6 (nthP_mem (i := 28) rfl) rfl
theorem m_187 : Cond.instanceMethod yX9_oneIsOver ∈ lwc := nv_6 (nthP_mem (i := 30) rfl) rfl
theorem m_188 : Cond.selects RX9 yX9_oneIsOver yX9_oneIsOver ∈ lwc := nv_0 (nthP_mem (i := 54) rfl) rfl
theorem m_189 : Cond.code yX9_isSign cX9_isSign 2 (some .boolean) ∈ lwc := nv_6 (nthP_mem (i := 39) rfl) rfl
theorem m_190 : Cond.methodLink RX9 292 yX9_isSign ∈ lwc := nv_6 (nthP_mem (i := 36) rfl) rfl
theorem m_191 : Cond.instanceMethod yX9_isSign ∈ lwc := nv_6 (nthP_mem (i := 38) rfl) rfl
theorem m_192 : Cond.selects RX9 yX9_isSign yX9_isSign ∈ lwc := nv_0 (nthP_mem (i := 56) rfl) rfl
theorem m_193 : Cond.fieldLink RX9 311 "GooseLettersModel" "newClauses" "I" ∈ lwc := nv_4 (nthP_mem (i := 198) rfl) rfl
theorem m_194 : Cond.code yX9_waitsFor cX9_waitsFor 2 none ∈ lwc := nv_6 (nthP_mem (i := 47) rfl) rfl
theorem m_195 : Cond.methodLink RX9 299 yX9_waitsFor ∈ lwc := nv_6 (nthP_mem (i := 44) rfl) rfl
theorem m_196 : Cond.instanceMethod yX9_waitsFor ∈ lwc := nv_6 (nthP_mem (i := 46) rfl) rfl
theorem m_197 : Cond.selects RX9 yX9_waitsFor yX9_waitsFor ∈ lwc := nv_0 (nthP_mem (i := 58) rfl) rfl
theorem m_198 : Cond.code yX9_isAsking cX9_isAsking 1 (some .boolean) ∈ lwc := nv_6 (nthP_mem (i := 57) rfl) rfl
theorem m_199 : Cond.methodLink RX9 302 yX9_isAsking ∈ lwc := nv_6 (nthP_mem (i := 55) rfl) rfl
theorem m_200 : Cond.static yX9_isAsking ∈ lwc := nv_6 (nthP_mem (i := 56) rfl) rfl
theorem m_201 : Cond.fieldLink RX9 54 "GooseLettersModel" "compare" "[I" ∈ lwc := nv_4 (nthP_mem (i := 193) rfl) rfl
theorem m_202 : Cond.code yX9_clauseIsOver cX9_clauseIsOver 1 none ∈ lwc := nv_6 (nthP_mem (i := 65) rfl) rfl
theorem m_203 : Cond.methodLink RX9 308 yX9_clauseIsOver ∈ lwc := nv_6 (nthP_mem (i := 62) rfl) rfl
theorem m_204 : Cond.instanceMethod yX9_clauseIsOver ∈ lwc := nv_6 (nthP_mem (i := 64) rfl) rfl
theorem m_205 : Cond.selects RX9 yX9_clauseIsOver yX9_clauseIsOver ∈ lwc := nv_0 (nthP_mem (i := 61) rfl) rfl
theorem m_206 : Cond.code yX9_askIsOver cX9_askIsOver 1 none ∈ lwc := nv_6 (nthP_mem (i := 61) rfl) rfl
theorem m_207 : Cond.methodLink RX9 305 yX9_askIsOver ∈ lwc := nv_6 (nthP_mem (i := 58) rfl) rfl
theorem m_208 : Cond.instanceMethod yX9_askIsOver ∈ lwc := nv_6 (nthP_mem (i := 60) rfl) rfl
theorem m_209 : Cond.selects RX9 yX9_askIsOver yX9_askIsOver ∈ lwc := nv_0 (nthP_mem (i := 60) rfl) rfl
theorem m_210 : Cond.fieldLink RX9 63 "GooseLettersModel" "newWord" "[I" ∈ lwc := nv_4 (nthP_mem (i := 200) rfl) rfl
theorem m_211 : Cond.code yX9_wasTold cX9_wasTold 4 (some .boolean) ∈ lwc := nv_6 (nthP_mem (i := 77) rfl) rfl
theorem m_212 : Cond.methodLink RX9 314 yX9_wasTold ∈ lwc := nv_6 (nthP_mem (i := 74) rfl) rfl
theorem m_213 : Cond.instanceMethod yX9_wasTold ∈ lwc := nv_6 (nthP_mem (i := 76) rfl) rfl
theorem m_214 : Cond.selects RX9 yX9_wasTold yX9_wasTold ∈ lwc := nv_0 (nthP_mem (i := 64) rfl) rfl
theorem m_215 : Cond.fieldLink RX9 66 "GooseLettersModel" "newAt" "[I" ∈ lwc := nv_4 (nthP_mem (i := 201) rfl) rfl
theorem m_216 : Cond.fieldLink RX9 69 "GooseLettersModel" "newOne" "[I" ∈ lwc := nv_4 (nthP_mem (i := 202) rfl) rfl
theorem m_217 : Cond.fieldLink RX9 72 "GooseLettersModel" "newTwo" "[I" ∈ lwc := nv_4 (nthP_mem (i := 203) rfl) rfl
theorem m_218 : Cond.fieldLink RX9 75 "GooseLettersModel" "newThree" "[I" ∈ lwc := nv_4 (nthP_mem (i := 204) rfl) rfl
theorem m_219 : Cond.code yX9_number cX9_number 4 (some .int) ∈ lwc := nv_6 (nthP_mem (i := 81) rfl) rfl
theorem m_220 : Cond.methodLink RX9 317 yX9_number ∈ lwc := nv_6 (nthP_mem (i := 78) rfl) rfl
theorem m_221 : Cond.instanceMethod yX9_number ∈ lwc := nv_6 (nthP_mem (i := 80) rfl) rfl
theorem m_222 : Cond.selects RX9 yX9_number yX9_number ∈ lwc := nv_0 (nthP_mem (i := 65) rfl) rfl
theorem m_223 : Cond.code yX9_wants cX9_wants 2 none ∈ lwc := nv_6 (nthP_mem (i := 85) rfl) rfl
theorem m_224 : Cond.methodLink RX9 320 yX9_wants ∈ lwc := nv_6 (nthP_mem (i := 82) rfl) rfl
theorem m_225 : Cond.instanceMethod yX9_wants ∈ lwc := nv_6 (nthP_mem (i := 84) rfl) rfl
theorem m_226 : Cond.selects RX9 yX9_wants yX9_wants ∈ lwc := nv_0 (nthP_mem (i := 66) rfl) rfl
theorem m_227 : Cond.fieldLink RX9 20 "GooseLettersModel" "fault" "I" ∈ lwc := nv_4 (nthP_mem (i := 173) rfl) rfl
theorem m_228 : Cond.fieldLink RX9 24 "GooseLettersModel" "faultAt" "I" ∈ lwc := nv_4 (nthP_mem (i := 174) rfl) rfl
theorem m_229 : Cond.fieldLink RX9 27 "GooseLettersModel" "clauses" "[I" ∈ lwc := nv_4 (nthP_mem (i := 175) rfl) rfl
theorem m_230 : Cond.code yX9_asks cX9_asks 2 none ∈ lwc := nv_6 (nthP_mem (i := 3) rfl) rfl
theorem m_231 : Cond.methodLink RX9 323 yX9_asks ∈ lwc := nv_6 (nthP_mem (i := 0) rfl) rfl
theorem m_232 : Cond.instanceMethod yX9_asks ∈ lwc := nv_6 (nthP_mem (i := 2) rfl) rfl
theorem m_233 : Cond.selects RX9 yX9_asks yX9_asks ∈ lwc := nv_0 (nthP_mem (i := 47) rfl) rfl
theorem m_234 : Cond.code yX9_begins cX9_begins 2 none ∈ lwc := nv_6 (nthP_mem (i := 23) rfl) rfl
theorem m_235 : Cond.methodLink RX9 326 yX9_begins ∈ lwc := nv_6 (nthP_mem (i := 20) rfl) rfl
theorem m_236 : Cond.instanceMethod yX9_begins ∈ lwc := nv_6 (nthP_mem (i := 22) rfl) rfl
theorem m_237 : Cond.selects RX9 yX9_begins yX9_begins ∈ lwc := nv_0 (nthP_mem (i := 52) rfl) rfl
theorem m_238 : Cond.code yX9_goesOn cX9_goesOn 3 none ∈ lwc := nv_6 (nthP_mem (i := 43) rfl) rfl
theorem m_239 : Cond.methodLink RX9 329 yX9_goesOn ∈ lwc := nv_6 (nthP_mem (i := 40) rfl) rfl
theorem m_240 : Cond.instanceMethod yX9_goesOn ∈ lwc := nv_6 (nthP_mem (i := 42) rfl) rfl
theorem m_241 : Cond.selects RX9 yX9_goesOn yX9_goesOn ∈ lwc := nv_0 (nthP_mem (i := 57) rfl) rfl
theorem m_242 : Cond.code yX9_asksOn cX9_asksOn 1 none ∈ lwc := nv_6 (nthP_mem (i := 69) rfl) rfl
theorem m_243 : Cond.methodLink RX9 332 yX9_asksOn ∈ lwc := nv_6 (nthP_mem (i := 66) rfl) rfl
theorem m_244 : Cond.instanceMethod yX9_asksOn ∈ lwc := nv_6 (nthP_mem (i := 68) rfl) rfl
theorem m_245 : Cond.selects RX9 yX9_asksOn yX9_asksOn ∈ lwc := nv_0 (nthP_mem (i := 62) rfl) rfl
theorem m_246 : Cond.code yX9_clause cX9_clause 1 none ∈ lwc := nv_6 (nthP_mem (i := 73) rfl) rfl
theorem m_247 : Cond.methodLink RX9 335 yX9_clause ∈ lwc := nv_6 (nthP_mem (i := 70) rfl) rfl
theorem m_248 : Cond.instanceMethod yX9_clause ∈ lwc := nv_6 (nthP_mem (i := 72) rfl) rfl
theorem m_249 : Cond.selects RX9 yX9_clause yX9_clause ∈ lwc := nv_0 (nthP_mem (i := 63) rfl) rfl
theorem m_250 : Cond.fieldLink RX9 30 "GooseLettersModel" "clauseWord" "[I" ∈ lwc := nv_4 (nthP_mem (i := 176) rfl) rfl
theorem m_251 : Cond.fieldLink RX9 33 "GooseLettersModel" "clauseAt" "[I" ∈ lwc := nv_4 (nthP_mem (i := 177) rfl) rfl
theorem m_252 : Cond.fieldLink RX9 36 "GooseLettersModel" "clauseOne" "[I" ∈ lwc := nv_4 (nthP_mem (i := 178) rfl) rfl
theorem m_253 : Cond.fieldLink RX9 39 "GooseLettersModel" "clauseTwo" "[I" ∈ lwc := nv_4 (nthP_mem (i := 179) rfl) rfl
theorem m_254 : Cond.fieldLink RX9 42 "GooseLettersModel" "clauseThree" "[I" ∈ lwc := nv_4 (nthP_mem (i := 180) rfl) rfl
theorem m_255 : Cond.fieldLink RX9 45 "GooseLettersModel" "order" "[I" ∈ lwc := nv_4 (nthP_mem (i := 181) rfl) rfl
theorem m_256 : Cond.fieldLink RX9 48 "GooseLettersModel" "value" "[I" ∈ lwc := nv_4 (nthP_mem (i := 182) rfl) rfl
theorem m_257 : Cond.fieldLink RX9 87 "GooseLettersModel" "pile" "[J" ∈ lwc := nv_4 (nthP_mem (i := 209) rfl) rfl
theorem m_258 : Cond.code yX9_worked cX9_worked 5 (some .long) ∈ lwc := nv_5 (nthP_mem (i := 153) rfl) rfl
theorem m_259 : Cond.methodLink RX9 346 yX9_worked ∈ lwc := nv_5 (nthP_mem (i := 151) rfl) rfl
theorem m_260 : Cond.static yX9_worked ∈ lwc := nv_5 (nthP_mem (i := 152) rfl) rfl
theorem m_261 : Cond.fieldLink RX9 84 "GooseLettersModel" "name" "[I" ∈ lwc := nv_4 (nthP_mem (i := 208) rfl) rfl
theorem m_262 : Cond.code yX9_ordersOf cX9_ordersOf 5 (some .int) ∈ lwc := nv_5 (nthP_mem (i := 142) rfl) rfl
theorem m_263 : Cond.methodLink RX9 350 yX9_ordersOf ∈ lwc := nv_5 (nthP_mem (i := 139) rfl) rfl
theorem m_264 : Cond.instanceMethod yX9_ordersOf ∈ lwc := nv_5 (nthP_mem (i := 141) rfl) rfl
theorem m_265 : Cond.selects RX9 yX9_ordersOf yX9_ordersOf ∈ lwc := nv_0 (nthP_mem (i := 39) rfl) rfl
theorem m_266 : Cond.code yX9_names cX9_names 5 none ∈ lwc := nv_5 (nthP_mem (i := 146) rfl) rfl
theorem m_267 : Cond.methodLink RX9 353 yX9_names ∈ lwc := nv_5 (nthP_mem (i := 143) rfl) rfl
theorem m_268 : Cond.instanceMethod yX9_names ∈ lwc := nv_5 (nthP_mem (i := 145) rfl) rfl
theorem m_269 : Cond.selects RX9 yX9_names yX9_names ∈ lwc := nv_0 (nthP_mem (i := 40) rfl) rfl
theorem m_270 : Cond.code yX9_saysOf cX9_saysOf 5 (some .long) ∈ lwc := nv_5 (nthP_mem (i := 150) rfl) rfl
theorem m_271 : Cond.methodLink RX9 356 yX9_saysOf ∈ lwc := nv_5 (nthP_mem (i := 147) rfl) rfl
theorem m_272 : Cond.instanceMethod yX9_saysOf ∈ lwc := nv_5 (nthP_mem (i := 149) rfl) rfl
theorem m_273 : Cond.selects RX9 yX9_saysOf yX9_saysOf ∈ lwc := nv_0 (nthP_mem (i := 41) rfl) rfl
theorem m_274 : Cond.code yX9_held cX9_held 4 (some .int) ∈ lwc := nv_5 (nthP_mem (i := 161) rfl) rfl
theorem m_275 : Cond.methodLink RX9 360 yX9_held ∈ lwc := nv_5 (nthP_mem (i := 159) rfl) rfl
theorem m_276 : Cond.static yX9_held ∈ lwc := nv_5 (nthP_mem (i := 160) rfl) rfl
theorem m_277 : Cond.code yX9_isQuill cX9_isQuill 2 (some .boolean) ∈ lwc := nv_5 (nthP_mem (i := 134) rfl) rfl
theorem m_278 : Cond.methodLink RX9 145 yX9_isQuill ∈ lwc := nv_5 (nthP_mem (i := 132) rfl) rfl
theorem m_279 : Cond.static yX9_isQuill ∈ lwc := nv_5 (nthP_mem (i := 133) rfl) rfl
theorem m_280 : Cond.code yX9_inkOf cX9_inkOf 5 (some .int) ∈ lwc := nv_5 (nthP_mem (i := 138) rfl) rfl
theorem m_281 : Cond.methodLink RX9 149 yX9_inkOf ∈ lwc := nv_5 (nthP_mem (i := 135) rfl) rfl
theorem m_282 : Cond.instanceMethod yX9_inkOf ∈ lwc := nv_5 (nthP_mem (i := 137) rfl) rfl
theorem m_283 : Cond.selects RX9 yX9_inkOf yX9_inkOf ∈ lwc := nv_0 (nthP_mem (i := 38) rfl) rfl
theorem m_284 : Cond.code yX9_isHome cX9_isHome 2 (some .boolean) ∈ lwc := nv_5 (nthP_mem (i := 123) rfl) rfl
theorem m_285 : Cond.methodLink RX9 142 yX9_isHome ∈ lwc := nv_5 (nthP_mem (i := 120) rfl) rfl
theorem m_286 : Cond.instanceMethod yX9_isHome ∈ lwc := nv_5 (nthP_mem (i := 122) rfl) rfl
theorem m_287 : Cond.selects RX9 yX9_isHome yX9_isHome ∈ lwc := nv_0 (nthP_mem (i := 35) rfl) rfl
theorem m_288 : Cond.code yX9_keepsStep cX9_keepsStep 2 none ∈ lwc := nv_5 (nthP_mem (i := 165) rfl) rfl
theorem m_289 : Cond.methodLink RX9 153 yX9_keepsStep ∈ lwc := nv_5 (nthP_mem (i := 162) rfl) rfl
theorem m_290 : Cond.instanceMethod yX9_keepsStep ∈ lwc := nv_5 (nthP_mem (i := 164) rfl) rfl
theorem m_291 : Cond.selects RX9 yX9_keepsStep yX9_keepsStep ∈ lwc := nv_0 (nthP_mem (i := 42) rfl) rfl
theorem m_292 : Cond.code yX9_puts cX9_puts 4 none ∈ lwc := nv_5 (nthP_mem (i := 169) rfl) rfl
theorem m_293 : Cond.methodLink RX9 156 yX9_puts ∈ lwc := nv_5 (nthP_mem (i := 166) rfl) rfl
theorem m_294 : Cond.instanceMethod yX9_puts ∈ lwc := nv_5 (nthP_mem (i := 168) rfl) rfl
theorem m_295 : Cond.selects RX9 yX9_puts yX9_puts ∈ lwc := nv_0 (nthP_mem (i := 43) rfl) rfl
theorem m_296 : Cond.code yX9_marketTells cX9_marketTells 10 (some .int) ∈ lwc := nv_6 (nthP_mem (i := 117) rfl) rfl
theorem m_297 : Cond.methodLink RX9 364 yX9_marketTells ∈ lwc := nv_6 (nthP_mem (i := 114) rfl) rfl
theorem m_298 : Cond.instanceMethod yX9_marketTells ∈ lwc := nv_6 (nthP_mem (i := 116) rfl) rfl
theorem m_299 : Cond.selects RX9 yX9_marketTells yX9_marketTells ∈ lwc := nv_0 (nthP_mem (i := 70) rfl) rfl
theorem m_300 : Cond.code yX9_isTrueBy cX9_isTrueBy 6 (some .boolean) ∈ lwc := nv_6 (nthP_mem (i := 145) rfl) rfl
theorem m_301 : Cond.methodLink RX9 368 yX9_isTrueBy ∈ lwc := nv_6 (nthP_mem (i := 142) rfl) rfl
theorem m_302 : Cond.instanceMethod yX9_isTrueBy ∈ lwc := nv_6 (nthP_mem (i := 144) rfl) rfl
theorem m_303 : Cond.selects RX9 yX9_isTrueBy yX9_isTrueBy ∈ lwc := nv_0 (nthP_mem (i := 74) rfl) rfl
theorem m_304 : Cond.code yX9_draw cX9_draw 2 (some .int) ∈ lwc := nv_6 (nthP_mem (i := 109) rfl) rfl
theorem m_305 : Cond.methodLink RX9 372 yX9_draw ∈ lwc := nv_6 (nthP_mem (i := 106) rfl) rfl
theorem m_306 : Cond.instanceMethod yX9_draw ∈ lwc := nv_6 (nthP_mem (i := 108) rfl) rfl
theorem m_307 : Cond.selects RX9 yX9_draw yX9_draw ∈ lwc := nv_0 (nthP_mem (i := 68) rfl) rfl
theorem m_308 : Cond.code yX9_marketOf cX9_marketOf 3 (some .int) ∈ lwc := nv_6 (nthP_mem (i := 113) rfl) rfl
theorem m_309 : Cond.methodLink RX9 375 yX9_marketOf ∈ lwc := nv_6 (nthP_mem (i := 110) rfl) rfl
theorem m_310 : Cond.instanceMethod yX9_marketOf ∈ lwc := nv_6 (nthP_mem (i := 112) rfl) rfl
theorem m_311 : Cond.selects RX9 yX9_marketOf yX9_marketOf ∈ lwc := nv_0 (nthP_mem (i := 69) rfl) rfl
theorem m_312 : Cond.code yX9_hungers cX9_hungers 3 none ∈ lwc := nv_6 (nthP_mem (i := 121) rfl) rfl
theorem m_313 : Cond.methodLink RX9 384 yX9_hungers ∈ lwc := nv_6 (nthP_mem (i := 118) rfl) rfl
theorem m_314 : Cond.instanceMethod yX9_hungers ∈ lwc := nv_6 (nthP_mem (i := 120) rfl) rfl
theorem m_315 : Cond.selects RX9 yX9_hungers yX9_hungers ∈ lwc := nv_0 (nthP_mem (i := 71) rfl) rfl
theorem m_316 : Cond.code yX9_comesThere cX9_comesThere 4 none ∈ lwc := nv_6 (nthP_mem (i := 105) rfl) rfl
theorem m_317 : Cond.methodLink RX9 381 yX9_comesThere ∈ lwc := nv_6 (nthP_mem (i := 102) rfl) rfl
theorem m_318 : Cond.instanceMethod yX9_comesThere ∈ lwc := nv_6 (nthP_mem (i := 104) rfl) rfl
theorem m_319 : Cond.selects RX9 yX9_comesThere yX9_comesThere ∈ lwc := nv_0 (nthP_mem (i := 67) rfl) rfl
theorem m_320 : Cond.code yX9_fill cX9_fill 5 (some .int) ∈ lwc := nv_5 (nthP_mem (i := 119) rfl) rfl
theorem m_321 : Cond.methodLink RX9 387 yX9_fill ∈ lwc := nv_6 (nthP_mem (i := 130) rfl) rfl
theorem m_322 : Cond.instanceMethod yX9_fill ∈ lwc := nv_5 (nthP_mem (i := 117) rfl) rfl
theorem m_323 : Cond.selects RX9 yX9_fill yX9_fill ∈ lwc := nv_5 (nthP_mem (i := 118) rfl) rfl
theorem m_324 : Cond.code yX9_send cX9_send 3 (some .int) ∈ lwc := nv_5 (nthP_mem (i := 173) rfl) rfl
theorem m_325 : Cond.methodLink RX9 390 yX9_send ∈ lwc := nv_6 (nthP_mem (i := 131) rfl) rfl
theorem m_326 : Cond.instanceMethod yX9_send ∈ lwc := nv_5 (nthP_mem (i := 171) rfl) rfl
theorem m_327 : Cond.selects RX9 yX9_send yX9_send ∈ lwc := nv_5 (nthP_mem (i := 172) rfl) rfl
theorem m_328 : Cond.code yX9_fatten cX9_fatten 2 (some .int) ∈ lwc := nv_5 (nthP_mem (i := 181) rfl) rfl
theorem m_329 : Cond.methodLink RX9 393 yX9_fatten ∈ lwc := nv_6 (nthP_mem (i := 132) rfl) rfl
theorem m_330 : Cond.instanceMethod yX9_fatten ∈ lwc := nv_5 (nthP_mem (i := 179) rfl) rfl
theorem m_331 : Cond.selects RX9 yX9_fatten yX9_fatten ∈ lwc := nv_5 (nthP_mem (i := 180) rfl) rfl
theorem m_332 : Cond.code yX9_pass cX9_pass 4 (some .int) ∈ lwc := nv_6 (nthP_mem (i := 101) rfl) rfl
theorem m_333 : Cond.methodLink RX9 396 yX9_pass ∈ lwc := nv_6 (nthP_mem (i := 133) rfl) rfl
theorem m_334 : Cond.instanceMethod yX9_pass ∈ lwc := nv_6 (nthP_mem (i := 99) rfl) rfl
theorem m_335 : Cond.selects RX9 yX9_pass yX9_pass ∈ lwc := nv_6 (nthP_mem (i := 100) rfl) rfl
theorem m_336 : Cond.code yX9_isTrue cX9_isTrue 2 (some .boolean) ∈ lwc := nv_6 (nthP_mem (i := 141) rfl) rfl
theorem m_337 : Cond.methodLink RX9 399 yX9_isTrue ∈ lwc := nv_6 (nthP_mem (i := 138) rfl) rfl
theorem m_338 : Cond.instanceMethod yX9_isTrue ∈ lwc := nv_6 (nthP_mem (i := 140) rfl) rfl
theorem m_339 : Cond.selects RX9 yX9_isTrue yX9_isTrue ∈ lwc := nv_0 (nthP_mem (i := 73) rfl) rfl
theorem m_340 : Cond.code yX9_halves cX9_halves 1 (some .int) ∈ lwc := nv_6 (nthP_mem (i := 163) rfl) rfl
theorem m_341 : Cond.methodLink RX9 402 yX9_halves ∈ lwc := nv_6 (nthP_mem (i := 161) rfl) rfl
theorem m_342 : Cond.static yX9_halves ∈ lwc := nv_6 (nthP_mem (i := 162) rfl) rfl
theorem m_343 : Cond.code yX9_brought cX9_brought 5 (some .int) ∈ lwc := nv_6 (nthP_mem (i := 160) rfl) rfl
theorem m_344 : Cond.methodLink RX9 405 yX9_brought ∈ lwc := nv_6 (nthP_mem (i := 157) rfl) rfl
theorem m_345 : Cond.instanceMethod yX9_brought ∈ lwc := nv_6 (nthP_mem (i := 159) rfl) rfl
theorem m_346 : Cond.selects RX9 yX9_brought yX9_brought ∈ lwc := nv_0 (nthP_mem (i := 76) rfl) rfl
theorem m_347 : Cond.code yX9_isLetterNumber cX9_isLetterNumber 1 (some .boolean) ∈ lwc := nv_6 (nthP_mem (i := 152) rfl) rfl
theorem m_348 : Cond.methodLink RX9 409 yX9_isLetterNumber ∈ lwc := nv_6 (nthP_mem (i := 150) rfl) rfl
theorem m_349 : Cond.static yX9_isLetterNumber ∈ lwc := nv_6 (nthP_mem (i := 151) rfl) rfl
theorem m_350 : Cond.code yX9_knownBy cX9_knownBy 6 (some .int) ∈ lwc := nv_6 (nthP_mem (i := 156) rfl) rfl
theorem m_351 : Cond.methodLink RX9 412 yX9_knownBy ∈ lwc := nv_6 (nthP_mem (i := 153) rfl) rfl
theorem m_352 : Cond.instanceMethod yX9_knownBy ∈ lwc := nv_6 (nthP_mem (i := 155) rfl) rfl
theorem m_353 : Cond.selects RX9 yX9_knownBy yX9_knownBy ∈ lwc := nv_0 (nthP_mem (i := 75) rfl) rfl
theorem m_354 : Cond.code yX9_led cX9_led 6 (some .int) ∈ lwc := nv_6 (nthP_mem (i := 167) rfl) rfl
theorem m_355 : Cond.methodLink RX9 416 yX9_led ∈ lwc := nv_6 (nthP_mem (i := 172) rfl) rfl
theorem m_356 : Cond.instanceMethod yX9_led ∈ lwc := nv_6 (nthP_mem (i := 165) rfl) rfl
theorem m_357 : Cond.selects RX9 yX9_led yX9_led ∈ lwc := nv_6 (nthP_mem (i := 166) rfl) rfl
theorem m_358 : Cond.fieldLink RX9 91 "GooseLettersModel" "many" "[J" ∈ lwc := nv_4 (nthP_mem (i := 210) rfl) rfl
theorem m_359 : Cond.fieldLink RX9 94 "GooseLettersModel" "then" "[J" ∈ lwc := nv_4 (nthP_mem (i := 211) rfl) rfl
theorem m_360 : Cond.constantLong RX9 420 (10) ∈ lwc := nv_6 (nthP_mem (i := 190) rfl) rfl
theorem m_361 : Cond.code yX9_startsMany cX9_startsMany 4 none ∈ lwc := nv_6 (nthP_mem (i := 185) rfl) rfl
theorem m_362 : Cond.methodLink RX9 424 yX9_startsMany ∈ lwc := nv_6 (nthP_mem (i := 182) rfl) rfl
theorem m_363 : Cond.instanceMethod yX9_startsMany ∈ lwc := nv_6 (nthP_mem (i := 184) rfl) rfl
theorem m_364 : Cond.selects RX9 yX9_startsMany yX9_startsMany ∈ lwc := nv_0 (nthP_mem (i := 77) rfl) rfl
theorem m_365 : Cond.constantLong RX9 422 (-1) ∈ lwc := nv_6 (nthP_mem (i := 181) rfl) rfl
theorem m_366 : Cond.code yX9_manyOf cX9_manyOf 7 (some .long) ∈ lwc := nv_6 (nthP_mem (i := 195) rfl) rfl
theorem m_367 : Cond.methodLink RX9 433 yX9_manyOf ∈ lwc := nv_6 (nthP_mem (i := 192) rfl) rfl
theorem m_368 : Cond.instanceMethod yX9_manyOf ∈ lwc := nv_6 (nthP_mem (i := 194) rfl) rfl
theorem m_369 : Cond.selects RX9 yX9_manyOf yX9_manyOf ∈ lwc := nv_0 (nthP_mem (i := 79) rfl) rfl
theorem m_370 : Cond.code yX9_comesMany cX9_comesMany 8 none ∈ lwc := nv_6 (nthP_mem (i := 189) rfl) rfl
theorem m_371 : Cond.methodLink RX9 427 yX9_comesMany ∈ lwc := nv_6 (nthP_mem (i := 186) rfl) rfl
theorem m_372 : Cond.instanceMethod yX9_comesMany ∈ lwc := nv_6 (nthP_mem (i := 188) rfl) rfl
theorem m_373 : Cond.selects RX9 yX9_comesMany yX9_comesMany ∈ lwc := nv_0 (nthP_mem (i := 78) rfl) rfl
theorem m_374 : Cond.constantLong RX9 431 (100) ∈ lwc := nv_6 (nthP_mem (i := 191) rfl) rfl
theorem m_375 : Cond.fieldLink RX9 436 "GooseLettersModel" "flocks" "I" ∈ lwc := nv_4 (nthP_mem (i := 216) rfl) rfl
theorem m_376 : Cond.fieldLink RX9 107 "GooseLettersModel" "flock" "[I" ∈ lwc := nv_4 (nthP_mem (i := 215) rfl) rfl
theorem m_377 : Cond.fieldLink RX9 97 "GooseLettersModel" "eats" "[I" ∈ lwc := nv_4 (nthP_mem (i := 212) rfl) rfl
theorem m_378 : Cond.fieldLink RX9 100 "GooseLettersModel" "reads" "[I" ∈ lwc := nv_4 (nthP_mem (i := 213) rfl) rfl
theorem m_379 : Cond.fieldLink RX9 103 "GooseLettersModel" "trues" "[Z" ∈ lwc := nv_4 (nthP_mem (i := 214) rfl) rfl
theorem m_380 : Cond.fieldLink RX9 439 "GooseLettersModel" "bestEnemy" "J" ∈ lwc := nv_4 (nthP_mem (i := 221) rfl) rfl
theorem m_381 : Cond.fieldLink RX9 110 "GooseLettersModel" "chosen" "[I" ∈ lwc := nv_4 (nthP_mem (i := 217) rfl) rfl
theorem m_382 : Cond.fieldLink RX9 113 "GooseLettersModel" "does" "[I" ∈ lwc := nv_4 (nthP_mem (i := 218) rfl) rfl
theorem m_383 : Cond.fieldLink RX9 116 "GooseLettersModel" "bestChosen" "[I" ∈ lwc := nv_4 (nthP_mem (i := 219) rfl) rfl
theorem m_384 : Cond.fieldLink RX9 119 "GooseLettersModel" "bestDoes" "[I" ∈ lwc := nv_4 (nthP_mem (i := 220) rfl) rfl
theorem m_385 : Cond.code yX9_asksPlan cX9_asksPlan 8 none ∈ lwc := nv_6 (nthP_mem (i := 215) rfl) rfl
theorem m_386 : Cond.methodLink RX9 443 yX9_asksPlan ∈ lwc := nv_6 (nthP_mem (i := 212) rfl) rfl
theorem m_387 : Cond.instanceMethod yX9_asksPlan ∈ lwc := nv_6 (nthP_mem (i := 214) rfl) rfl
theorem m_388 : Cond.selects RX9 yX9_asksPlan yX9_asksPlan ∈ lwc := nv_0 (nthP_mem (i := 83) rfl) rfl
theorem m_389 : Cond.code yX9_triesDoings cX9_triesDoings 7 none ∈ lwc := nv_6 (nthP_mem (i := 211) rfl) rfl
theorem m_390 : Cond.methodLink RX9 446 yX9_triesDoings ∈ lwc := nv_6 (nthP_mem (i := 208) rfl) rfl
theorem m_391 : Cond.instanceMethod yX9_triesDoings ∈ lwc := nv_6 (nthP_mem (i := 210) rfl) rfl
theorem m_392 : Cond.selects RX9 yX9_triesDoings yX9_triesDoings ∈ lwc := nv_0 (nthP_mem (i := 82) rfl) rfl
theorem m_393 : Cond.code yX9_laysFlock cX9_laysFlock 6 none ∈ lwc := nv_6 (nthP_mem (i := 203) rfl) rfl
theorem m_394 : Cond.methodLink RX9 449 yX9_laysFlock ∈ lwc := nv_6 (nthP_mem (i := 200) rfl) rfl
theorem m_395 : Cond.instanceMethod yX9_laysFlock ∈ lwc := nv_6 (nthP_mem (i := 202) rfl) rfl
theorem m_396 : Cond.selects RX9 yX9_laysFlock yX9_laysFlock ∈ lwc := nv_0 (nthP_mem (i := 80) rfl) rfl
theorem m_397 : Cond.code yX9_plansOf cX9_plansOf 9 (some .boolean) ∈ lwc := nv_6 (nthP_mem (i := 207) rfl) rfl
theorem m_398 : Cond.methodLink RX9 452 yX9_plansOf ∈ lwc := nv_6 (nthP_mem (i := 204) rfl) rfl
theorem m_399 : Cond.instanceMethod yX9_plansOf ∈ lwc := nv_6 (nthP_mem (i := 206) rfl) rfl
theorem m_400 : Cond.selects RX9 yX9_plansOf yX9_plansOf ∈ lwc := nv_0 (nthP_mem (i := 81) rfl) rfl
theorem m_401 : Cond.fieldLink RX5 15 "GooseLetters$Tape" "length" "I" ∈ lwc := nv_1 (nthP_mem (i := 92) rfl) rfl
theorem m_402 : Cond.fieldLink RX5 9 "GooseLetters$Tape" "bytes" "[I" ∈ lwc := nv_1 (nthP_mem (i := 91) rfl) rfl
theorem m_403 : Cond.fieldLink RX7 25 "GooseLetters$Tokens" "at" "I" ∈ lwc := nv_1 (nthP_mem (i := 110) rfl) rfl
theorem m_404 : Cond.fieldLink RX7 21 "GooseLetters$Tokens" "count" "I" ∈ lwc := nv_1 (nthP_mem (i := 109) rfl) rfl
theorem m_405 : Cond.fieldLink RX7 9 "GooseLetters$Tokens" "kinds" "[I" ∈ lwc := nv_1 (nthP_mem (i := 106) rfl) rfl
theorem m_406 : Cond.fieldLink RX7 15 "GooseLetters$Tokens" "starts" "[I" ∈ lwc := nv_1 (nthP_mem (i := 107) rfl) rfl
theorem m_407 : Cond.fieldLink RX7 18 "GooseLetters$Tokens" "values" "[I" ∈ lwc := nv_1 (nthP_mem (i := 108) rfl) rfl
theorem m_408 : Cond.fieldLink RX7 28 "GooseLetters$Tape" "length" "I" ∈ lwc := nv_1 (nthP_mem (i := 93) rfl) rfl
theorem m_409 : Cond.code yX5_byteAt cX5_byteAt 2 (some .int) ∈ lwc := nv_3 (nthP_mem (i := 35) rfl) rfl
theorem m_410 : Cond.methodLink RX7 33 yX5_byteAt ∈ lwc := nv_3 (nthP_mem (i := 32) rfl) rfl
theorem m_411 : Cond.instanceMethod yX5_byteAt ∈ lwc := nv_3 (nthP_mem (i := 33) rfl) rfl
theorem m_412 : Cond.selects RX5 yX5_byteAt yX5_byteAt ∈ lwc := nv_3 (nthP_mem (i := 34) rfl) rfl
theorem m_413 : Cond.initialized RX5 ∈ lwc := nv_1 (nthP_mem (i := 3) rfl) rfl
theorem m_414 : Cond.code yX7_isNumeral cX7_isNumeral 1 (some .boolean) ∈ lwc := nv_3 (nthP_mem (i := 104) rfl) rfl
theorem m_415 : Cond.methodLink RX7 48 yX7_isNumeral ∈ lwc := nv_3 (nthP_mem (i := 102) rfl) rfl
theorem m_416 : Cond.static yX7_isNumeral ∈ lwc := nv_3 (nthP_mem (i := 103) rfl) rfl
theorem m_417 : Cond.initialized RX7 ∈ lwc := nv_1 (nthP_mem (i := 4) rfl) rfl
theorem m_418 : Cond.methodLink RX7 76 Lib.Math.min.name ∈ lwc := nv_3 (nthP_mem (i := 109) rfl) rfl
theorem m_419 : Cond.code yX7_add cX7_add 4 none ∈ lwc := nv_3 (nthP_mem (i := 101) rfl) rfl
theorem m_420 : Cond.methodLink RX7 57 yX7_add ∈ lwc := nv_3 (nthP_mem (i := 98) rfl) rfl
theorem m_421 : Cond.instanceMethod yX7_add ∈ lwc := nv_3 (nthP_mem (i := 100) rfl) rfl
theorem m_422 : Cond.selects RX7 yX7_add yX7_add ∈ lwc := nv_0 (nthP_mem (i := 7) rfl) rfl
theorem m_423 : Cond.code yX7_signKind cX7_signKind 1 (some .int) ∈ lwc := nv_3 (nthP_mem (i := 116) rfl) rfl
theorem m_424 : Cond.methodLink RX7 82 yX7_signKind ∈ lwc := nv_3 (nthP_mem (i := 114) rfl) rfl
theorem m_425 : Cond.static yX7_signKind ∈ lwc := nv_3 (nthP_mem (i := 115) rfl) rfl
theorem m_426 : Cond.fieldLink RX1 24 "GooseLetters$Laws" "top" "I" ∈ lwc := nv_1 (nthP_mem (i := 177) rfl) rfl
theorem m_427 : Cond.fieldLink RX1 21 "GooseLetters$Laws" "stack" "[I" ∈ lwc := nv_1 (nthP_mem (i := 176) rfl) rfl
theorem m_428 : Cond.constantLong RX1 105 (1000000) ∈ lwc := nv_2 (nthP_mem (i := 153) rfl) rfl
theorem m_429 : Cond.constantLong RX1 108 (-1000000) ∈ lwc := nv_2 (nthP_mem (i := 155) rfl) rfl
theorem m_430 : Cond.constant RX1 110 (-1000000) ∈ lwc := nv_2 (nthP_mem (i := 156) rfl) rfl
theorem m_431 : Cond.constant RX1 107 (1000000) ∈ lwc := nv_2 (nthP_mem (i := 154) rfl) rfl
theorem m_432 : Cond.code yX1_pop cX1_pop 1 (some .int) ∈ lwc := nv_2 (nthP_mem (i := 160) rfl) rfl
theorem m_433 : Cond.methodLink RX1 85 yX1_pop ∈ lwc := nv_2 (nthP_mem (i := 157) rfl) rfl
theorem m_434 : Cond.instanceMethod yX1_pop ∈ lwc := nv_2 (nthP_mem (i := 159) rfl) rfl
theorem m_435 : Cond.selects RX1 yX1_pop yX1_pop ∈ lwc := nv_0 (nthP_mem (i := 3) rfl) rfl
theorem m_436 : Cond.initialized RX1 ∈ lwc := nv_1 (nthP_mem (i := 6) rfl) rfl
theorem m_437 : Cond.code yX1_push cX1_push 3 none ∈ lwc := nv_2 (nthP_mem (i := 152) rfl) rfl
theorem m_438 : Cond.methodLink RX1 97 yX1_push ∈ lwc := nv_2 (nthP_mem (i := 149) rfl) rfl
theorem m_439 : Cond.instanceMethod yX1_push ∈ lwc := nv_2 (nthP_mem (i := 151) rfl) rfl
theorem m_440 : Cond.selects RX1 yX1_push yX1_push ∈ lwc := nv_0 (nthP_mem (i := 2) rfl) rfl
theorem m_441 : Cond.code yX1_joined cX1_joined 5 (some .long) ∈ lwc := nv_2 (nthP_mem (i := 163) rfl) rfl
theorem m_442 : Cond.methodLink RX1 101 yX1_joined ∈ lwc := nv_2 (nthP_mem (i := 161) rfl) rfl
theorem m_443 : Cond.static yX1_joined ∈ lwc := nv_2 (nthP_mem (i := 162) rfl) rfl
theorem m_444 : Cond.fieldLink RX1 17 "GooseLetters$Laws" "names" "[I" ∈ lwc := nv_1 (nthP_mem (i := 175) rfl) rfl
theorem m_445 : Cond.methodLink RX1 29 yX4_ofGoose ∈ lwc := nv_2 (nthP_mem (i := 116) rfl) rfl
theorem m_446 : Cond.fieldLink RX1 35 "GooseLetters$State" "day" "I" ∈ lwc := nv_1 (nthP_mem (i := 44) rfl) rfl
theorem m_447 : Cond.code yX1_lookAt cX1_lookAt 3 none ∈ lwc := nv_2 (nthP_mem (i := 115) rfl) rfl
theorem m_448 : Cond.methodLink RX1 38 yX1_lookAt ∈ lwc := nv_2 (nthP_mem (i := 112) rfl) rfl
theorem m_449 : Cond.instanceMethod yX1_lookAt ∈ lwc := nv_2 (nthP_mem (i := 113) rfl) rfl
theorem m_450 : Cond.selects RX1 yX1_lookAt yX1_lookAt ∈ lwc := nv_2 (nthP_mem (i := 114) rfl) rfl
theorem m_451 : Cond.code yX4_ofMarket cX4_ofMarket 3 (some .int) ∈ lwc := nv_2 (nthP_mem (i := 194) rfl) rfl
theorem m_452 : Cond.methodLink RX1 42 yX4_ofMarket ∈ lwc := nv_2 (nthP_mem (i := 227) rfl) rfl
theorem m_453 : Cond.instanceMethod yX4_ofMarket ∈ lwc := nv_2 (nthP_mem (i := 192) rfl) rfl
theorem m_454 : Cond.selects RX4 yX4_ofMarket yX4_ofMarket ∈ lwc := nv_2 (nthP_mem (i := 193) rfl) rfl
theorem m_455 : Cond.code yX1_lookAtMarket cX1_lookAtMarket 4 none ∈ lwc := nv_2 (nthP_mem (i := 226) rfl) rfl
theorem m_456 : Cond.methodLink RX1 45 yX1_lookAtMarket ∈ lwc := nv_2 (nthP_mem (i := 223) rfl) rfl
theorem m_457 : Cond.instanceMethod yX1_lookAtMarket ∈ lwc := nv_2 (nthP_mem (i := 224) rfl) rfl
theorem m_458 : Cond.selects RX1 yX1_lookAtMarket yX1_lookAtMarket ∈ lwc := nv_2 (nthP_mem (i := 225) rfl) rfl
theorem m_459 : Cond.fieldLink RX6 15 "GooseLetters$Text" "clauseCount" "I" ∈ lwc := nv_1 (nthP_mem (i := 154) rfl) rfl
theorem m_460 : Cond.fieldLink RX6 28 "GooseLetters$Text" "stepCount" "I" ∈ lwc := nv_1 (nthP_mem (i := 160) rfl) rfl
theorem m_461 : Cond.fieldLink RX6 22 "GooseLetters$Text" "from" "[I" ∈ lwc := nv_1 (nthP_mem (i := 158) rfl) rfl
theorem m_462 : Cond.fieldLink RX6 25 "GooseLetters$Text" "to" "[I" ∈ lwc := nv_1 (nthP_mem (i := 159) rfl) rfl
theorem m_463 : Cond.fieldLink RX6 19 "GooseLetters$Text" "steps" "[I" ∈ lwc := nv_1 (nthP_mem (i := 157) rfl) rfl
theorem m_464 : Cond.fieldLink RX6 9 "GooseLetters$Text" "clauses" "[I" ∈ lwc := nv_1 (nthP_mem (i := 153) rfl) rfl
theorem m_465 : Cond.fieldLink RX0 9 "GooseLetters$Chances" "count" "I" ∈ lwc := nv_1 (nthP_mem (i := 193) rfl) rfl
theorem m_466 : Cond.fieldLink RX0 15 "GooseLetters$Chances" "total" "J" ∈ lwc := nv_1 (nthP_mem (i := 195) rfl) rfl
theorem m_467 : Cond.fieldLink RX0 19 "GooseLetters$Chances" "weights" "[J" ∈ lwc := nv_1 (nthP_mem (i := 197) rfl) rfl
theorem m_468 : Cond.fieldLink RX3 41 "GooseLetters$Search" "scale" "J" ∈ lwc := nv_1 (nthP_mem (i := 224) rfl) rfl
theorem m_469 : Cond.constantLong RX3 84 (100) ∈ lwc := nv_4 (nthP_mem (i := 91) rfl) rfl
theorem m_470 : Cond.fieldLink RX3 45 "GooseLetters$Search" "percent" "I" ∈ lwc := nv_1 (nthP_mem (i := 225) rfl) rfl
theorem m_471 : Cond.fieldLink RX3 51 "GooseLetters$Search" "found" "Z" ∈ lwc := nv_1 (nthP_mem (i := 227) rfl) rfl
theorem m_472 : Cond.fieldLink RX3 58 "GooseLetters$Search" "bestMiss" "J" ∈ lwc := nv_1 (nthP_mem (i := 229) rfl) rfl
theorem m_473 : Cond.fieldLink RX3 55 "GooseLetters$Search" "foundInSet" "Z" ∈ lwc := nv_1 (nthP_mem (i := 228) rfl) rfl
theorem m_474 : Cond.fieldLink RX3 61 "GooseLetters$Search" "bestOrder" "I" ∈ lwc := nv_1 (nthP_mem (i := 230) rfl) rfl
theorem m_475 : Cond.fieldLink RX3 37 "GooseLetters$Search" "size" "I" ∈ lwc := nv_1 (nthP_mem (i := 223) rfl) rfl
theorem m_476 : Cond.fieldLink RX3 31 "GooseLetters$Search" "bestSet" "[I" ∈ lwc := nv_1 (nthP_mem (i := 221) rfl) rfl
theorem m_477 : Cond.fieldLink RX3 22 "GooseLetters$Search" "set" "[I" ∈ lwc := nv_1 (nthP_mem (i := 218) rfl) rfl
theorem m_478 : Cond.fieldLink RX3 34 "GooseLetters$Search" "bestChoice" "[I" ∈ lwc := nv_1 (nthP_mem (i := 222) rfl) rfl
theorem m_479 : Cond.fieldLink RX3 28 "GooseLetters$Search" "markets" "[I" ∈ lwc := nv_1 (nthP_mem (i := 220) rfl) rfl
theorem m_480 : Cond.fieldLink RX3 25 "GooseLetters$Search" "parts" "[I" ∈ lwc := nv_1 (nthP_mem (i := 219) rfl) rfl
theorem m_481 : Cond.fieldLink RX3 11 "GooseLetters$Search" "friends" "[I" ∈ lwc := nv_1 (nthP_mem (i := 215) rfl) rfl
theorem m_482 : Cond.code yX3_missOf cX3_missOf 15 (some .long) ∈ lwc := nv_4 (nthP_mem (i := 107) rfl) rfl
theorem m_483 : Cond.methodLink RX3 126 yX3_missOf ∈ lwc := nv_4 (nthP_mem (i := 104) rfl) rfl
theorem m_484 : Cond.instanceMethod yX3_missOf ∈ lwc := nv_4 (nthP_mem (i := 106) rfl) rfl
theorem m_485 : Cond.selects RX3 yX3_missOf yX3_missOf ∈ lwc := nv_0 (nthP_mem (i := 26) rfl) rfl
theorem m_486 : Cond.initialized RX3 ∈ lwc := nv_1 (nthP_mem (i := 9) rfl) rfl
theorem m_487 : Cond.code yX3_isEnough cX3_isEnough 3 (some .boolean) ∈ lwc := nv_4 (nthP_mem (i := 111) rfl) rfl
theorem m_488 : Cond.methodLink RX3 130 yX3_isEnough ∈ lwc := nv_4 (nthP_mem (i := 108) rfl) rfl
theorem m_489 : Cond.instanceMethod yX3_isEnough ∈ lwc := nv_4 (nthP_mem (i := 110) rfl) rfl
theorem m_490 : Cond.selects RX3 yX3_isEnough yX3_isEnough ∈ lwc := nv_0 (nthP_mem (i := 27) rfl) rfl
theorem m_491 : Cond.fieldLink RX3 15 "GooseLetters$Search" "reads" "[I" ∈ lwc := nv_1 (nthP_mem (i := 216) rfl) rfl
theorem m_492 : Cond.code yX3_isBetter cX3_isBetter 3 (some .boolean) ∈ lwc := nv_4 (nthP_mem (i := 115) rfl) rfl
theorem m_493 : Cond.methodLink RX3 134 yX3_isBetter ∈ lwc := nv_4 (nthP_mem (i := 112) rfl) rfl
theorem m_494 : Cond.instanceMethod yX3_isBetter ∈ lwc := nv_4 (nthP_mem (i := 114) rfl) rfl
theorem m_495 : Cond.selects RX3 yX3_isBetter yX3_isBetter ∈ lwc := nv_0 (nthP_mem (i := 28) rfl) rfl
theorem m_496 : Cond.code yX3_keep cX3_keep 5 none ∈ lwc := nv_4 (nthP_mem (i := 127) rfl) rfl
theorem m_497 : Cond.methodLink RX3 144 yX3_keep ∈ lwc := nv_4 (nthP_mem (i := 124) rfl) rfl
theorem m_498 : Cond.instanceMethod yX3_keep ∈ lwc := nv_4 (nthP_mem (i := 126) rfl) rfl
theorem m_499 : Cond.selects RX3 yX3_keep yX3_keep ∈ lwc := nv_0 (nthP_mem (i := 31) rfl) rfl
theorem m_500 : Cond.fieldLink RJ0 1053 "jdk/internal/util/Preconditions" "SIOOBE_FORMATTER" "Ljava/util/function/BiFunction;" ∈ lwc := nv_3 (nthP_mem (i := 74) rfl) rfl
theorem m_501 : Cond.methodLink RJ0 1059 yJ3_checkIndex_8e157 ∈ lwc := nv_3 (nthP_mem (i := 76) rfl) rfl
theorem m_502 : Cond.static yJ3_checkIndex_8e157 ∈ lwc := nv_3 (nthP_mem (i := 77) rfl) rfl
theorem m_503 : Cond.initialized RJ3 ∈ lwc := nv_1 (nthP_mem (i := 15) rfl) rfl
theorem m_504 : Cond.code yJ3_checkIndex_8e157 cJ3_checkIndex_8e157 3 (some .int) ∈ lwc := nv_3 (nthP_mem (i := 78) rfl) rfl
theorem m_505 : Cond.fieldLink RJ0 38 "java/lang/String" "COMPACT_STRINGS" "Z" ∈ lwc := nv_3 (nthP_mem (i := 58) rfl) rfl
theorem m_506 : Cond.fieldLink RJ0 15 "java/lang/String" "coder" "B" ∈ lwc := nv_6 (nthP_mem (i := 233) rfl) rfl
theorem m_507 : Cond.fieldLink RJ0 9 "java/lang/String" "value" "[B" ∈ lwc := nv_6 (nthP_mem (i := 232) rfl) rfl
theorem m_508 : Cond.methodLink RJ0 335 yJ0_coder_7d493 ∈ lwc := nv_3 (nthP_mem (i := 54) rfl) rfl
theorem m_509 : Cond.instanceMethod yJ0_coder_7d493 ∈ lwc := nv_3 (nthP_mem (i := 55) rfl) rfl
theorem m_510 : Cond.selects RJ0 yJ0_coder_7d493 yJ0_coder_7d493 ∈ lwc := nv_3 (nthP_mem (i := 56) rfl) rfl
theorem m_511 : Cond.initialized RJ0 ∈ lwc := nv_1 (nthP_mem (i := 13) rfl) rfl
theorem m_512 : Cond.code yJ0_coder_7d493 cJ0_coder_7d493 1 (some .byte) ∈ lwc := nv_3 (nthP_mem (i := 57) rfl) rfl
theorem m_513 : Cond.methodLink RJ1 9 yJ0_checkIndex_df160 ∈ lwc := nv_3 (nthP_mem (i := 71) rfl) rfl
theorem m_514 : Cond.static yJ0_checkIndex_df160 ∈ lwc := nv_3 (nthP_mem (i := 72) rfl) rfl
theorem m_515 : Cond.code yJ0_checkIndex_df160 cJ0_checkIndex_df160 2 none ∈ lwc := nv_3 (nthP_mem (i := 73) rfl) rfl
theorem m_516 : Cond.methodLink RJ0 492 yJ0_isLatin1_aae02 ∈ lwc := nv_3 (nthP_mem (i := 64) rfl) rfl
theorem m_517 : Cond.instanceMethod yJ0_isLatin1_aae02 ∈ lwc := nv_3 (nthP_mem (i := 65) rfl) rfl
theorem m_518 : Cond.selects RJ0 yJ0_isLatin1_aae02 yJ0_isLatin1_aae02 ∈ lwc := nv_3 (nthP_mem (i := 66) rfl) rfl
theorem m_519 : Cond.code yJ0_isLatin1_aae02 cJ0_isLatin1_aae02 1 (some .boolean) ∈ lwc := nv_3 (nthP_mem (i := 67) rfl) rfl
theorem m_520 : Cond.methodLink RJ0 495 yJ1_charAt_3b067 ∈ lwc := nv_3 (nthP_mem (i := 68) rfl) rfl
theorem m_521 : Cond.static yJ1_charAt_3b067 ∈ lwc := nv_3 (nthP_mem (i := 69) rfl) rfl
theorem m_522 : Cond.initialized RJ1 ∈ lwc := nv_1 (nthP_mem (i := 14) rfl) rfl
theorem m_523 : Cond.code yJ1_charAt_3b067 cJ1_charAt_3b067 2 (some .char) ∈ lwc := nv_3 (nthP_mem (i := 70) rfl) rfl
theorem m_524 : Cond.code yJ0_length_8abf5 cJ0_length_8abf5 1 (some .int) ∈ lwc := nv_3 (nthP_mem (i := 53) rfl) rfl
theorem m_525 : Cond.methodLink RX7 67 yJ0_length_8abf5 ∈ lwc := nv_3 (nthP_mem (i := 50) rfl) rfl
theorem m_526 : Cond.instanceMethod yJ0_length_8abf5 ∈ lwc := nv_3 (nthP_mem (i := 51) rfl) rfl
theorem m_527 : Cond.selects RJ0 yJ0_length_8abf5 yJ0_length_8abf5 ∈ lwc := nv_3 (nthP_mem (i := 52) rfl) rfl
theorem m_528 : Cond.code yJ0_charAt_5068e cJ0_charAt_5068e 2 (some .char) ∈ lwc := nv_3 (nthP_mem (i := 63) rfl) rfl
theorem m_529 : Cond.methodLink RX7 72 yJ0_charAt_5068e ∈ lwc := nv_3 (nthP_mem (i := 60) rfl) rfl
theorem m_530 : Cond.instanceMethod yJ0_charAt_5068e ∈ lwc := nv_3 (nthP_mem (i := 61) rfl) rfl
theorem m_531 : Cond.selects RJ0 yJ0_charAt_5068e yJ0_charAt_5068e ∈ lwc := nv_3 (nthP_mem (i := 62) rfl) rfl
theorem m_532 : Cond.code yX7_isAlpha cX7_isAlpha 1 (some .boolean) ∈ lwc := nv_3 (nthP_mem (i := 41) rfl) rfl
theorem m_533 : Cond.methodLink RX7 41 yX7_isAlpha ∈ lwc := nv_3 (nthP_mem (i := 39) rfl) rfl
theorem m_534 : Cond.static yX7_isAlpha ∈ lwc := nv_3 (nthP_mem (i := 40) rfl) rfl
theorem m_535 : Cond.code yX7_wordKind cX7_wordKind 8 (some .int) ∈ lwc := nv_3 (nthP_mem (i := 48) rfl) rfl
theorem m_536 : Cond.methodLink RX7 61 yX7_wordKind ∈ lwc := nv_3 (nthP_mem (i := 46) rfl) rfl
theorem m_537 : Cond.static yX7_wordKind ∈ lwc := nv_3 (nthP_mem (i := 47) rfl) rfl
theorem m_538 : Cond.code yX7_isBlank cX7_isBlank 1 (some .boolean) ∈ lwc := nv_3 (nthP_mem (i := 38) rfl) rfl
theorem m_539 : Cond.methodLink RX7 37 yX7_isBlank ∈ lwc := nv_3 (nthP_mem (i := 36) rfl) rfl
theorem m_540 : Cond.static yX7_isBlank ∈ lwc := nv_3 (nthP_mem (i := 37) rfl) rfl
theorem m_541 : Cond.code yX7_splitSign cX7_splitSign 5 (some .int) ∈ lwc := nv_3 (nthP_mem (i := 113) rfl) rfl
theorem m_542 : Cond.methodLink RX7 54 yX7_splitSign ∈ lwc := nv_3 (nthP_mem (i := 110) rfl) rfl
theorem m_543 : Cond.instanceMethod yX7_splitSign ∈ lwc := nv_3 (nthP_mem (i := 112) rfl) rfl
theorem m_544 : Cond.selects RX7 yX7_splitSign yX7_splitSign ∈ lwc := nv_0 (nthP_mem (i := 9) rfl) rfl
theorem m_545 : Cond.code yX7_splitNumber cX7_splitNumber 5 (some .int) ∈ lwc := nv_3 (nthP_mem (i := 108) rfl) rfl
theorem m_546 : Cond.methodLink RX7 51 yX7_splitNumber ∈ lwc := nv_3 (nthP_mem (i := 105) rfl) rfl
theorem m_547 : Cond.instanceMethod yX7_splitNumber ∈ lwc := nv_3 (nthP_mem (i := 107) rfl) rfl
theorem m_548 : Cond.selects RX7 yX7_splitNumber yX7_splitNumber ∈ lwc := nv_0 (nthP_mem (i := 8) rfl) rfl
theorem m_549 : Cond.code yX7_splitWord cX7_splitWord 4 (some .int) ∈ lwc := nv_3 (nthP_mem (i := 45) rfl) rfl
theorem m_550 : Cond.methodLink RX7 44 yX7_splitWord ∈ lwc := nv_3 (nthP_mem (i := 42) rfl) rfl
theorem m_551 : Cond.instanceMethod yX7_splitWord ∈ lwc := nv_3 (nthP_mem (i := 44) rfl) rfl
theorem m_552 : Cond.selects RX7 yX7_splitWord yX7_splitWord ∈ lwc := nv_0 (nthP_mem (i := 6) rfl) rfl
theorem m_553 : Cond.fieldLink RX1 11 "GooseLetters$Laws" "texts" "[LGooseLetters$Text;" ∈ lwc := nv_1 (nthP_mem (i := 174) rfl) rfl
theorem m_554 : Cond.fieldLink RX1 57 "GooseLetters$State" "ruling" "I" ∈ lwc := nv_1 (nthP_mem (i := 52) rfl) rfl
theorem m_555 : Cond.methodLink RX1 60 yX1_textOf ∈ lwc := nv_2 (nthP_mem (i := 121) rfl) rfl
theorem m_556 : Cond.instanceMethod yX1_textOf ∈ lwc := nv_2 (nthP_mem (i := 122) rfl) rfl
theorem m_557 : Cond.selects RX1 yX1_textOf yX1_textOf ∈ lwc := nv_2 (nthP_mem (i := 123) rfl) rfl
theorem m_558 : Cond.code yX1_textOf cX1_textOf 2 (some (.object "GooseLetters$Text")) ∈ lwc := nv_2 (nthP_mem (i := 124) rfl) rfl
theorem m_559 : Cond.code yX6_hasLaw cX6_hasLaw 2 (some .boolean) ∈ lwc := nv_2 (nthP_mem (i := 128) rfl) rfl
theorem m_560 : Cond.methodLink RX1 64 yX6_hasLaw ∈ lwc := nv_2 (nthP_mem (i := 125) rfl) rfl
theorem m_561 : Cond.instanceMethod yX6_hasLaw ∈ lwc := nv_2 (nthP_mem (i := 126) rfl) rfl
theorem m_562 : Cond.selects RX6 yX6_hasLaw yX6_hasLaw ∈ lwc := nv_2 (nthP_mem (i := 127) rfl) rfl
theorem m_563 : Cond.initialized RX6 ∈ lwc := nv_1 (nthP_mem (i := 7) rfl) rfl
theorem m_564 : Cond.code yX6_stepsEnd cX6_stepsEnd 2 (some .int) ∈ lwc := nv_2 (nthP_mem (i := 136) rfl) rfl
theorem m_565 : Cond.methodLink RX1 72 yX6_stepsEnd ∈ lwc := nv_2 (nthP_mem (i := 133) rfl) rfl
theorem m_566 : Cond.instanceMethod yX6_stepsEnd ∈ lwc := nv_2 (nthP_mem (i := 134) rfl) rfl
theorem m_567 : Cond.selects RX6 yX6_stepsEnd yX6_stepsEnd ∈ lwc := nv_2 (nthP_mem (i := 135) rfl) rfl
theorem m_568 : Cond.code yX6_firstStep cX6_firstStep 2 (some .int) ∈ lwc := nv_2 (nthP_mem (i := 140) rfl) rfl
theorem m_569 : Cond.methodLink RX1 75 yX6_firstStep ∈ lwc := nv_2 (nthP_mem (i := 137) rfl) rfl
theorem m_570 : Cond.instanceMethod yX6_firstStep ∈ lwc := nv_2 (nthP_mem (i := 138) rfl) rfl
theorem m_571 : Cond.selects RX6 yX6_firstStep yX6_firstStep ∈ lwc := nv_2 (nthP_mem (i := 139) rfl) rfl
theorem m_572 : Cond.code yX6_stepAt cX6_stepAt 2 (some .int) ∈ lwc := nv_2 (nthP_mem (i := 144) rfl) rfl
theorem m_573 : Cond.methodLink RX1 78 yX6_stepAt ∈ lwc := nv_2 (nthP_mem (i := 141) rfl) rfl
theorem m_574 : Cond.instanceMethod yX6_stepAt ∈ lwc := nv_2 (nthP_mem (i := 142) rfl) rfl
theorem m_575 : Cond.selects RX6 yX6_stepAt yX6_stepAt ∈ lwc := nv_2 (nthP_mem (i := 143) rfl) rfl
theorem m_576 : Cond.code yX1_take cX1_take 3 none ∈ lwc := nv_2 (nthP_mem (i := 148) rfl) rfl
theorem m_577 : Cond.methodLink RX1 81 yX1_take ∈ lwc := nv_2 (nthP_mem (i := 145) rfl) rfl
theorem m_578 : Cond.instanceMethod yX1_take ∈ lwc := nv_2 (nthP_mem (i := 147) rfl) rfl
theorem m_579 : Cond.selects RX1 yX1_take yX1_take ∈ lwc := nv_0 (nthP_mem (i := 1) rfl) rfl
theorem m_580 : Cond.code yX1_without cX1_without 2 (some .int) ∈ lwc := nv_2 (nthP_mem (i := 132) rfl) rfl
theorem m_581 : Cond.methodLink RX1 68 yX1_without ∈ lwc := nv_2 (nthP_mem (i := 129) rfl) rfl
theorem m_582 : Cond.instanceMethod yX1_without ∈ lwc := nv_2 (nthP_mem (i := 131) rfl) rfl
theorem m_583 : Cond.selects RX1 yX1_without yX1_without ∈ lwc := nv_0 (nthP_mem (i := 0) rfl) rfl
theorem m_584 : Cond.methodLink RX1 89 Lib.Math.min.name ∈ lwc := nv_2 (nthP_mem (i := 164) rfl) rfl
theorem m_585 : Cond.methodLink RX1 94 Lib.Math.max.name ∈ lwc := nv_2 (nthP_mem (i := 167) rfl) rfl
theorem m_586 : Cond.code yX1_lookAtFilled cX1_lookAtFilled 5 none ∈ lwc := nv_2 (nthP_mem (i := 111) rfl) rfl
theorem m_587 : Cond.methodLink RX1 49 yX1_lookAtFilled ∈ lwc := nv_2 (nthP_mem (i := 108) rfl) rfl
theorem m_588 : Cond.instanceMethod yX1_lookAtFilled ∈ lwc := nv_2 (nthP_mem (i := 109) rfl) rfl
theorem m_589 : Cond.selects RX1 yX1_lookAtFilled yX1_lookAtFilled ∈ lwc := nv_2 (nthP_mem (i := 110) rfl) rfl
theorem m_590 : Cond.code yX1_rule cX1_rule 6 (some .int) ∈ lwc := nv_2 (nthP_mem (i := 120) rfl) rfl
theorem m_591 : Cond.methodLink RX1 53 yX1_rule ∈ lwc := nv_2 (nthP_mem (i := 117) rfl) rfl
theorem m_592 : Cond.instanceMethod yX1_rule ∈ lwc := nv_2 (nthP_mem (i := 118) rfl) rfl
theorem m_593 : Cond.selects RX1 yX1_rule yX1_rule ∈ lwc := nv_2 (nthP_mem (i := 119) rfl) rfl
theorem m_594 : Cond.methodLink RX0 26 yX4_ofGoose ∈ lwc := nv_4 (nthP_mem (i := 54) rfl) rfl
theorem m_595 : Cond.code yX8_halvesOf cX8_halvesOf 1 (some .int) ∈ lwc := nv_4 (nthP_mem (i := 23) rfl) rfl
theorem m_596 : Cond.static yX8_halvesOf ∈ lwc := nv_4 (nthP_mem (i := 22) rfl) rfl
theorem m_597 : Cond.code yX1_isTrue cX1_isTrue 3 (some .boolean) ∈ lwc := nv_4 (nthP_mem (i := 4) rfl) rfl
theorem m_598 : Cond.methodLink RX0 36 yX1_isTrue ∈ lwc := nv_4 (nthP_mem (i := 56) rfl) rfl
theorem m_599 : Cond.instanceMethod yX1_isTrue ∈ lwc := nv_4 (nthP_mem (i := 2) rfl) rfl
theorem m_600 : Cond.selects RX1 yX1_isTrue yX1_isTrue ∈ lwc := nv_4 (nthP_mem (i := 3) rfl) rfl
theorem m_601 : Cond.code yX1_lookAtTraveller cX1_lookAtTraveller 3 none ∈ lwc := nv_2 (nthP_mem (i := 222) rfl) rfl
theorem m_602 : Cond.methodLink RX0 42 yX1_lookAtTraveller ∈ lwc := nv_4 (nthP_mem (i := 57) rfl) rfl
theorem m_603 : Cond.instanceMethod yX1_lookAtTraveller ∈ lwc := nv_2 (nthP_mem (i := 220) rfl) rfl
theorem m_604 : Cond.selects RX1 yX1_lookAtTraveller yX1_lookAtTraveller ∈ lwc := nv_2 (nthP_mem (i := 221) rfl) rfl
theorem m_605 : Cond.methodLink RX0 46 yX1_rule ∈ lwc := nv_4 (nthP_mem (i := 58) rfl) rfl
theorem m_606 : Cond.fieldLink RX0 23 "GooseLetters$Chances" "fresh" "[J" ∈ lwc := nv_1 (nthP_mem (i := 198) rfl) rfl
theorem m_607 : Cond.methodLink RX0 50 arraycopyName ∈ lwc := nv_4 (nthP_mem (i := 59) rfl) rfl
theorem m_608 : Cond.constantLong RX0 56 (100) ∈ lwc := nv_4 (nthP_mem (i := 60) rfl) rfl
theorem m_609 : Cond.code yX3_compare cX3_compare 5 none ∈ lwc := nv_4 (nthP_mem (i := 123) rfl) rfl
theorem m_610 : Cond.methodLink RX3 141 yX3_compare ∈ lwc := nv_4 (nthP_mem (i := 120) rfl) rfl
theorem m_611 : Cond.instanceMethod yX3_compare ∈ lwc := nv_4 (nthP_mem (i := 122) rfl) rfl
theorem m_612 : Cond.selects RX3 yX3_compare yX3_compare ∈ lwc := nv_0 (nthP_mem (i := 30) rfl) rfl
theorem m_613 : Cond.fieldLink RX3 48 "GooseLetters$Search" "marketCount" "I" ∈ lwc := nv_1 (nthP_mem (i := 226) rfl) rfl
theorem m_614 : Cond.methodLink RX3 137 yX3_tryMarkets ∈ lwc := nv_4 (nthP_mem (i := 116) rfl) rfl
theorem m_615 : Cond.instanceMethod yX3_tryMarkets ∈ lwc := nv_4 (nthP_mem (i := 118) rfl) rfl
theorem m_616 : Cond.selects RX3 yX3_tryMarkets yX3_tryMarkets ∈ lwc := nv_0 (nthP_mem (i := 29) rfl) rfl
theorem m_617 : Cond.code yX3_tryMarkets cX3_tryMarkets 3 none ∈ lwc := nv_4 (nthP_mem (i := 119) rfl) rfl
theorem m_618 : Cond.fieldLink RX3 120 "GooseLetters$Search" "PATTERN_COUNTS" "[I" ∈ lwc := nv_4 (nthP_mem (i := 100) rfl) rfl
theorem m_619 : Cond.fieldLink RX3 123 "GooseLetters$Search" "PATTERNS" "[I" ∈ lwc := nv_4 (nthP_mem (i := 102) rfl) rfl
theorem m_620 : Cond.methodLink RX3 67 Lib.Math.min.name ∈ lwc := nv_4 (nthP_mem (i := 76) rfl) rfl
theorem m_621 : Cond.code yX3_tryPatterns cX3_tryPatterns 5 none ∈ lwc := nv_4 (nthP_mem (i := 99) rfl) rfl
theorem m_622 : Cond.methodLink RX3 117 yX3_tryPatterns ∈ lwc := nv_4 (nthP_mem (i := 96) rfl) rfl
theorem m_623 : Cond.instanceMethod yX3_tryPatterns ∈ lwc := nv_4 (nthP_mem (i := 98) rfl) rfl
theorem m_624 : Cond.selects RX3 yX3_tryPatterns yX3_tryPatterns ∈ lwc := nv_0 (nthP_mem (i := 25) rfl) rfl
theorem m_625 : Cond.fieldLink RX3 18 "GooseLetters$Search" "ready" "[Z" ∈ lwc := nv_1 (nthP_mem (i := 217) rfl) rfl
theorem m_626 : Cond.methodLink RX3 86 yX3_tryGeese ∈ lwc := nv_4 (nthP_mem (i := 92) rfl) rfl
theorem m_627 : Cond.instanceMethod yX3_tryGeese ∈ lwc := nv_4 (nthP_mem (i := 94) rfl) rfl
theorem m_628 : Cond.selects RX3 yX3_tryGeese yX3_tryGeese ∈ lwc := nv_0 (nthP_mem (i := 24) rfl) rfl
theorem m_629 : Cond.code yX3_tryGeese cX3_tryGeese 4 none ∈ lwc := nv_4 (nthP_mem (i := 95) rfl) rfl
theorem m_630 : Cond.methodLink RX3 90 yX1_lookAtFilled ∈ lwc := nv_4 (nthP_mem (i := 83) rfl) rfl
theorem m_631 : Cond.methodLink RX3 96 yX1_rule ∈ lwc := nv_4 (nthP_mem (i := 84) rfl) rfl
theorem m_632 : Cond.code yX3_cell cX3_cell 3 (some .int) ∈ lwc := nv_4 (nthP_mem (i := 87) rfl) rfl
theorem m_633 : Cond.methodLink RX3 100 yX3_cell ∈ lwc := nv_4 (nthP_mem (i := 85) rfl) rfl
theorem m_634 : Cond.static yX3_cell ∈ lwc := nv_4 (nthP_mem (i := 86) rfl) rfl
theorem m_635 : Cond.fieldLink RX3 104 "GooseLetters$State" "day" "I" ∈ lwc := nv_1 (nthP_mem (i := 45) rfl) rfl
theorem m_636 : Cond.methodLink RX3 107 yX4_ofMarket ∈ lwc := nv_4 (nthP_mem (i := 88) rfl) rfl
theorem m_637 : Cond.methodLink RX3 110 yX1_lookAtMarket ∈ lwc := nv_4 (nthP_mem (i := 89) rfl) rfl
theorem m_638 : Cond.methodLink RX3 114 Lib.Math.max.name ∈ lwc := nv_4 (nthP_mem (i := 90) rfl) rfl
theorem m_639 : Cond.fieldLink RX3 64 "GooseLetters$State" "marketCount" "I" ∈ lwc := nv_1 (nthP_mem (i := 37) rfl) rfl
theorem m_640 : Cond.methodLink RX3 73 yX4_isFree ∈ lwc := nv_4 (nthP_mem (i := 77) rfl) rfl
theorem m_641 : Cond.methodLink RX3 77 yX4_ofGoose ∈ lwc := nv_4 (nthP_mem (i := 78) rfl) rfl
theorem m_642 : Cond.code yX3_weighGoose cX3_weighGoose 11 none ∈ lwc := nv_4 (nthP_mem (i := 82) rfl) rfl
theorem m_643 : Cond.methodLink RX3 80 yX3_weighGoose ∈ lwc := nv_4 (nthP_mem (i := 79) rfl) rfl
theorem m_644 : Cond.instanceMethod yX3_weighGoose ∈ lwc := nv_4 (nthP_mem (i := 81) rfl) rfl
theorem m_645 : Cond.selects RX3 yX3_weighGoose yX3_weighGoose ∈ lwc := nv_0 (nthP_mem (i := 23) rfl) rfl
theorem m_646 : Cond.fieldLink RX2 9 "GooseLetters$Parser" "fault" "I" ∈ lwc := nv_1 (nthP_mem (i := 128) rfl) rfl
theorem m_647 : Cond.code yX7_start cX7_start 1 (some .int) ∈ lwc := nv_3 (nthP_mem (i := 140) rfl) rfl
theorem m_648 : Cond.methodLink RX2 36 yX7_start ∈ lwc := nv_3 (nthP_mem (i := 137) rfl) rfl
theorem m_649 : Cond.instanceMethod yX7_start ∈ lwc := nv_3 (nthP_mem (i := 138) rfl) rfl
theorem m_650 : Cond.selects RX7 yX7_start yX7_start ∈ lwc := nv_3 (nthP_mem (i := 139) rfl) rfl
theorem m_651 : Cond.fieldLink RX2 15 "GooseLetters$Parser" "place" "I" ∈ lwc := nv_1 (nthP_mem (i := 130) rfl) rfl
theorem m_652 : Cond.code yX7_kind cX7_kind 1 (some .int) ∈ lwc := nv_3 (nthP_mem (i := 128) rfl) rfl
theorem m_653 : Cond.methodLink RX2 26 yX7_kind ∈ lwc := nv_3 (nthP_mem (i := 125) rfl) rfl
theorem m_654 : Cond.instanceMethod yX7_kind ∈ lwc := nv_3 (nthP_mem (i := 126) rfl) rfl
theorem m_655 : Cond.selects RX7 yX7_kind yX7_kind ∈ lwc := nv_3 (nthP_mem (i := 127) rfl) rfl
theorem m_656 : Cond.code yX2_fail cX2_fail 3 none ∈ lwc := nv_3 (nthP_mem (i := 136) rfl) rfl
theorem m_657 : Cond.methodLink RX2 39 yX2_fail ∈ lwc := nv_3 (nthP_mem (i := 133) rfl) rfl
theorem m_658 : Cond.instanceMethod yX2_fail ∈ lwc := nv_3 (nthP_mem (i := 135) rfl) rfl
theorem m_659 : Cond.selects RX2 yX2_fail yX2_fail ∈ lwc := nv_0 (nthP_mem (i := 11) rfl) rfl
theorem m_660 : Cond.initialized RX2 ∈ lwc := nv_1 (nthP_mem (i := 5) rfl) rfl
theorem m_661 : Cond.code yX7_advance cX7_advance 1 none ∈ lwc := nv_3 (nthP_mem (i := 149) rfl) rfl
theorem m_662 : Cond.methodLink RX2 54 yX7_advance ∈ lwc := nv_3 (nthP_mem (i := 146) rfl) rfl
theorem m_663 : Cond.instanceMethod yX7_advance ∈ lwc := nv_3 (nthP_mem (i := 147) rfl) rfl
theorem m_664 : Cond.selects RX7 yX7_advance yX7_advance ∈ lwc := nv_3 (nthP_mem (i := 148) rfl) rfl
theorem m_665 : Cond.code yX7_value cX7_value 1 (some .int) ∈ lwc := nv_3 (nthP_mem (i := 181) rfl) rfl
theorem m_666 : Cond.methodLink RX2 79 yX7_value ∈ lwc := nv_3 (nthP_mem (i := 178) rfl) rfl
theorem m_667 : Cond.instanceMethod yX7_value ∈ lwc := nv_3 (nthP_mem (i := 179) rfl) rfl
theorem m_668 : Cond.selects RX7 yX7_value yX7_value ∈ lwc := nv_3 (nthP_mem (i := 180) rfl) rfl
theorem m_669 : Cond.code yX6_addStep cX6_addStep 2 none ∈ lwc := nv_3 (nthP_mem (i := 169) rfl) rfl
theorem m_670 : Cond.methodLink RX2 92 yX6_addStep ∈ lwc := nv_3 (nthP_mem (i := 166) rfl) rfl
theorem m_671 : Cond.instanceMethod yX6_addStep ∈ lwc := nv_3 (nthP_mem (i := 167) rfl) rfl
theorem m_672 : Cond.selects RX6 yX6_addStep yX6_addStep ∈ lwc := nv_3 (nthP_mem (i := 168) rfl) rfl
theorem m_673 : Cond.fieldLink RX2 18 "GooseLetters$Parser" "law" "I" ∈ lwc := nv_1 (nthP_mem (i := 132) rfl) rfl
theorem m_674 : Cond.fieldLink RX2 47 "GooseLetters$Text" "clauseCount" "I" ∈ lwc := nv_1 (nthP_mem (i := 155) rfl) rfl
theorem m_675 : Cond.code yX6_setClause cX6_setClause 4 none ∈ lwc := nv_3 (nthP_mem (i := 145) rfl) rfl
theorem m_676 : Cond.methodLink RX2 50 yX6_setClause ∈ lwc := nv_3 (nthP_mem (i := 142) rfl) rfl
theorem m_677 : Cond.instanceMethod yX6_setClause ∈ lwc := nv_3 (nthP_mem (i := 143) rfl) rfl
theorem m_678 : Cond.selects RX6 yX6_setClause yX6_setClause ∈ lwc := nv_3 (nthP_mem (i := 144) rfl) rfl
theorem m_679 : Cond.code yX2_readNumber cX2_readNumber 6 none ∈ lwc := nv_3 (nthP_mem (i := 204) rfl) rfl
theorem m_680 : Cond.methodLink RX2 75 yX2_readNumber ∈ lwc := nv_3 (nthP_mem (i := 201) rfl) rfl
theorem m_681 : Cond.instanceMethod yX2_readNumber ∈ lwc := nv_3 (nthP_mem (i := 203) rfl) rfl
theorem m_682 : Cond.selects RX2 yX2_readNumber yX2_readNumber ∈ lwc := nv_0 (nthP_mem (i := 20) rfl) rfl
theorem m_683 : Cond.code yX2_expect cX2_expect 3 none ∈ lwc := nv_3 (nthP_mem (i := 189) rfl) rfl
theorem m_684 : Cond.methodLink RX2 72 yX2_expect ∈ lwc := nv_3 (nthP_mem (i := 186) rfl) rfl
theorem m_685 : Cond.instanceMethod yX2_expect ∈ lwc := nv_3 (nthP_mem (i := 188) rfl) rfl
theorem m_686 : Cond.selects RX2 yX2_expect yX2_expect ∈ lwc := nv_0 (nthP_mem (i := 18) rfl) rfl
theorem m_687 : Cond.methodLink RX2 61 yX2_readLevel ∈ lwc := nv_3 (nthP_mem (i := 154) rfl) rfl
theorem m_688 : Cond.instanceMethod yX2_readLevel ∈ lwc := nv_3 (nthP_mem (i := 156) rfl) rfl
theorem m_689 : Cond.selects RX2 yX2_readLevel yX2_readLevel ∈ lwc := nv_0 (nthP_mem (i := 12) rfl) rfl
theorem m_690 : Cond.code yX2_readLevel cX2_readLevel 7 none ∈ lwc := nv_3 (nthP_mem (i := 157) rfl) rfl
theorem m_691 : Cond.methodLink RX2 85 yX2_readOne ∈ lwc := nv_3 (nthP_mem (i := 170) rfl) rfl
theorem m_692 : Cond.instanceMethod yX2_readOne ∈ lwc := nv_3 (nthP_mem (i := 172) rfl) rfl
theorem m_693 : Cond.selects RX2 yX2_readOne yX2_readOne ∈ lwc := nv_0 (nthP_mem (i := 15) rfl) rfl
theorem m_694 : Cond.code yX2_readOne cX2_readOne 5 none ∈ lwc := nv_3 (nthP_mem (i := 173) rfl) rfl
theorem m_695 : Cond.methodLink RX2 82 yX2_readAsk ∈ lwc := nv_3 (nthP_mem (i := 158) rfl) rfl
theorem m_696 : Cond.instanceMethod yX2_readAsk ∈ lwc := nv_3 (nthP_mem (i := 160) rfl) rfl
theorem m_697 : Cond.selects RX2 yX2_readAsk yX2_readAsk ∈ lwc := nv_0 (nthP_mem (i := 13) rfl) rfl
theorem m_698 : Cond.code yX2_readAsk cX2_readAsk 5 none ∈ lwc := nv_3 (nthP_mem (i := 161) rfl) rfl
theorem m_699 : Cond.code yX2_levelOf cX2_levelOf 1 (some .int) ∈ lwc := nv_3 (nthP_mem (i := 192) rfl) rfl
theorem m_700 : Cond.methodLink RX2 88 yX2_levelOf ∈ lwc := nv_3 (nthP_mem (i := 190) rfl) rfl
theorem m_701 : Cond.static yX2_levelOf ∈ lwc := nv_3 (nthP_mem (i := 191) rfl) rfl
theorem m_702 : Cond.code yX2_opens cX2_opens 3 (some .boolean) ∈ lwc := nv_3 (nthP_mem (i := 165) rfl) rfl
theorem m_703 : Cond.methodLink RX2 95 yX2_opens ∈ lwc := nv_3 (nthP_mem (i := 162) rfl) rfl
theorem m_704 : Cond.instanceMethod yX2_opens ∈ lwc := nv_3 (nthP_mem (i := 164) rfl) rfl
theorem m_705 : Cond.selects RX2 yX2_opens yX2_opens ∈ lwc := nv_0 (nthP_mem (i := 14) rfl) rfl
theorem m_706 : Cond.code yX2_readName cX2_readName 3 none ∈ lwc := nv_3 (nthP_mem (i := 185) rfl) rfl
theorem m_707 : Cond.methodLink RX2 102 yX2_readName ∈ lwc := nv_3 (nthP_mem (i := 182) rfl) rfl
theorem m_708 : Cond.instanceMethod yX2_readName ∈ lwc := nv_3 (nthP_mem (i := 184) rfl) rfl
theorem m_709 : Cond.selects RX2 yX2_readName yX2_readName ∈ lwc := nv_0 (nthP_mem (i := 17) rfl) rfl
theorem m_710 : Cond.code yX2_readValue cX2_readValue 3 none ∈ lwc := nv_3 (nthP_mem (i := 177) rfl) rfl
theorem m_711 : Cond.methodLink RX2 99 yX2_readValue ∈ lwc := nv_3 (nthP_mem (i := 174) rfl) rfl
theorem m_712 : Cond.instanceMethod yX2_readValue ∈ lwc := nv_3 (nthP_mem (i := 176) rfl) rfl
theorem m_713 : Cond.selects RX2 yX2_readValue yX2_readValue ∈ lwc := nv_0 (nthP_mem (i := 16) rfl) rfl
theorem m_714 : Cond.methodLink RX2 43 yX6_hasLaw ∈ lwc := nv_3 (nthP_mem (i := 141) rfl) rfl
theorem m_715 : Cond.code yX2_readDeed cX2_readDeed 4 none ∈ lwc := nv_3 (nthP_mem (i := 200) rfl) rfl
theorem m_716 : Cond.methodLink RX2 68 yX2_readDeed ∈ lwc := nv_3 (nthP_mem (i := 197) rfl) rfl
theorem m_717 : Cond.instanceMethod yX2_readDeed ∈ lwc := nv_3 (nthP_mem (i := 199) rfl) rfl
theorem m_718 : Cond.selects RX2 yX2_readDeed yX2_readDeed ∈ lwc := nv_0 (nthP_mem (i := 19) rfl) rfl
theorem m_719 : Cond.code yX6_beginLaw cX6_beginLaw 2 none ∈ lwc := nv_3 (nthP_mem (i := 153) rfl) rfl
theorem m_720 : Cond.methodLink RX2 57 yX6_beginLaw ∈ lwc := nv_3 (nthP_mem (i := 150) rfl) rfl
theorem m_721 : Cond.instanceMethod yX6_beginLaw ∈ lwc := nv_3 (nthP_mem (i := 151) rfl) rfl
theorem m_722 : Cond.selects RX6 yX6_beginLaw yX6_beginLaw ∈ lwc := nv_3 (nthP_mem (i := 152) rfl) rfl
theorem m_723 : Cond.code yX6_closeLaw cX6_closeLaw 2 none ∈ lwc := nv_3 (nthP_mem (i := 196) rfl) rfl
theorem m_724 : Cond.methodLink RX2 65 yX6_closeLaw ∈ lwc := nv_3 (nthP_mem (i := 193) rfl) rfl
theorem m_725 : Cond.instanceMethod yX6_closeLaw ∈ lwc := nv_3 (nthP_mem (i := 194) rfl) rfl
theorem m_726 : Cond.selects RX6 yX6_closeLaw yX6_closeLaw ∈ lwc := nv_3 (nthP_mem (i := 195) rfl) rfl
theorem m_727 : Cond.code yX6_clear cX6_clear 2 none ∈ lwc := nv_3 (nthP_mem (i := 124) rfl) rfl
theorem m_728 : Cond.methodLink RX2 21 yX6_clear ∈ lwc := nv_3 (nthP_mem (i := 121) rfl) rfl
theorem m_729 : Cond.instanceMethod yX6_clear ∈ lwc := nv_3 (nthP_mem (i := 122) rfl) rfl
theorem m_730 : Cond.selects RX6 yX6_clear yX6_clear ∈ lwc := nv_3 (nthP_mem (i := 123) rfl) rfl
theorem m_731 : Cond.code yX2_readClause cX2_readClause 4 none ∈ lwc := nv_3 (nthP_mem (i := 132) rfl) rfl
theorem m_732 : Cond.methodLink RX2 32 yX2_readClause ∈ lwc := nv_3 (nthP_mem (i := 129) rfl) rfl
theorem m_733 : Cond.instanceMethod yX2_readClause ∈ lwc := nv_3 (nthP_mem (i := 131) rfl) rfl
theorem m_734 : Cond.selects RX2 yX2_readClause yX2_readClause ∈ lwc := nv_0 (nthP_mem (i := 10) rfl) rfl
theorem m_735 : Cond.code yX8_isDigit cX8_isDigit 1 (some .boolean) ∈ lwc := nv_2 (nthP_mem (i := 56) rfl) rfl
theorem m_736 : Cond.methodLink RX8 61 yX8_isDigit ∈ lwc := nv_2 (nthP_mem (i := 54) rfl) rfl
theorem m_737 : Cond.static yX8_isDigit ∈ lwc := nv_2 (nthP_mem (i := 55) rfl) rfl
theorem m_738 : Cond.fieldLink RX8 10 "GooseLetters" "now" "LGooseLetters$State;" ∈ lwc := nv_2 (nthP_mem (i := 25) rfl) rfl
theorem m_739 : Cond.code yX4_addMarket cX4_addMarket 5 (some .int) ∈ lwc := nv_2 (nthP_mem (i := 60) rfl) rfl
theorem m_740 : Cond.methodLink RX8 65 yX4_addMarket ∈ lwc := nv_2 (nthP_mem (i := 57) rfl) rfl
theorem m_741 : Cond.instanceMethod yX4_addMarket ∈ lwc := nv_2 (nthP_mem (i := 58) rfl) rfl
theorem m_742 : Cond.selects RX4 yX4_addMarket yX4_addMarket ∈ lwc := nv_2 (nthP_mem (i := 59) rfl) rfl
theorem m_743 : Cond.code yX4_addGoose cX4_addGoose 4 (some .int) ∈ lwc := nv_2 (nthP_mem (i := 68) rfl) rfl
theorem m_744 : Cond.methodLink RX8 69 yX4_addGoose ∈ lwc := nv_2 (nthP_mem (i := 65) rfl) rfl
theorem m_745 : Cond.instanceMethod yX4_addGoose ∈ lwc := nv_2 (nthP_mem (i := 66) rfl) rfl
theorem m_746 : Cond.selects RX4 yX4_addGoose yX4_addGoose ∈ lwc := nv_2 (nthP_mem (i := 67) rfl) rfl
theorem m_747 : Cond.fieldLink RX8 73 "GooseLetters$State" "grain" "I" ∈ lwc := nv_1 (nthP_mem (i := 40) rfl) rfl
theorem m_748 : Cond.fieldLink RX8 77 "GooseLetters$State" "mouths" "I" ∈ lwc := nv_1 (nthP_mem (i := 42) rfl) rfl
theorem m_749 : Cond.fieldLink RX8 80 "GooseLetters$State" "x" "I" ∈ lwc := nv_1 (nthP_mem (i := 48) rfl) rfl
theorem m_750 : Cond.code yX8_isQuill cX8_isQuill 2 (some .boolean) ∈ lwc := nv_2 (nthP_mem (i := 91) rfl) rfl
theorem m_751 : Cond.methodLink RX8 83 yX8_isQuill ∈ lwc := nv_2 (nthP_mem (i := 89) rfl) rfl
theorem m_752 : Cond.static yX8_isQuill ∈ lwc := nv_2 (nthP_mem (i := 90) rfl) rfl
theorem m_753 : Cond.methodLink RX8 87 yX4_isHome ∈ lwc := nv_2 (nthP_mem (i := 95) rfl) rfl
theorem m_754 : Cond.methodLink RX8 90 yX4_ofGoose ∈ lwc := nv_2 (nthP_mem (i := 103) rfl) rfl
theorem m_755 : Cond.fieldLink RX8 43 "GooseLetters" "laws" "LGooseLetters$Laws;" ∈ lwc := nv_2 (nthP_mem (i := 30) rfl) rfl
theorem m_756 : Cond.code yX1_inkCost cX1_inkCost 5 (some .int) ∈ lwc := nv_2 (nthP_mem (i := 107) rfl) rfl
theorem m_757 : Cond.methodLink RX8 93 yX1_inkCost ∈ lwc := nv_2 (nthP_mem (i := 104) rfl) rfl
theorem m_758 : Cond.instanceMethod yX1_inkCost ∈ lwc := nv_2 (nthP_mem (i := 105) rfl) rfl
theorem m_759 : Cond.selects RX1 yX1_inkCost yX1_inkCost ∈ lwc := nv_2 (nthP_mem (i := 106) rfl) rfl
theorem m_760 : Cond.code yX4_keepStep cX4_keepStep 2 none ∈ lwc := nv_2 (nthP_mem (i := 173) rfl) rfl
theorem m_761 : Cond.methodLink RX8 97 yX4_keepStep ∈ lwc := nv_2 (nthP_mem (i := 170) rfl) rfl
theorem m_762 : Cond.instanceMethod yX4_keepStep ∈ lwc := nv_2 (nthP_mem (i := 171) rfl) rfl
theorem m_763 : Cond.selects RX4 yX4_keepStep yX4_keepStep ∈ lwc := nv_2 (nthP_mem (i := 172) rfl) rfl
theorem m_764 : Cond.methodLink RX8 100 yX4_setGoose ∈ lwc := nv_2 (nthP_mem (i := 177) rfl) rfl
theorem m_765 : Cond.code yX4_hasMarket cX4_hasMarket 2 (some .boolean) ∈ lwc := nv_2 (nthP_mem (i := 185) rfl) rfl
theorem m_766 : Cond.methodLink RX8 104 yX4_hasMarket ∈ lwc := nv_2 (nthP_mem (i := 182) rfl) rfl
theorem m_767 : Cond.instanceMethod yX4_hasMarket ∈ lwc := nv_2 (nthP_mem (i := 183) rfl) rfl
theorem m_768 : Cond.selects RX4 yX4_hasMarket yX4_hasMarket ∈ lwc := nv_2 (nthP_mem (i := 184) rfl) rfl
theorem m_769 : Cond.methodLink RX8 107 yX4_isFree ∈ lwc := nv_2 (nthP_mem (i := 186) rfl) rfl
theorem m_770 : Cond.fieldLink RX8 110 "GooseLetters$State" "day" "I" ∈ lwc := nv_1 (nthP_mem (i := 46) rfl) rfl
theorem m_771 : Cond.methodLink RX8 113 yX4_ofMarket ∈ lwc := nv_2 (nthP_mem (i := 191) rfl) rfl
theorem m_772 : Cond.methodLink RX8 270 yX1_lookAtTraveller ∈ lwc := nv_2 (nthP_mem (i := 219) rfl) rfl
theorem m_773 : Cond.code yX4_draw cX4_draw 2 (some .int) ∈ lwc := nv_2 (nthP_mem (i := 231) rfl) rfl
theorem m_774 : Cond.methodLink RX8 274 yX4_draw ∈ lwc := nv_2 (nthP_mem (i := 228) rfl) rfl
theorem m_775 : Cond.instanceMethod yX4_draw ∈ lwc := nv_2 (nthP_mem (i := 229) rfl) rfl
theorem m_776 : Cond.selects RX4 yX4_draw yX4_draw ∈ lwc := nv_2 (nthP_mem (i := 230) rfl) rfl
theorem m_777 : Cond.methodLink RX8 277 yX1_rule ∈ lwc := nv_2 (nthP_mem (i := 232) rfl) rfl
theorem m_778 : Cond.fieldLink RX8 192 "GooseLetters$State" "gooseCount" "I" ∈ lwc := nv_1 (nthP_mem (i := 35) rfl) rfl
theorem m_779 : Cond.code yX4_eatDaily cX4_eatDaily 3 none ∈ lwc := nv_3 (nthP_mem (i := 0) rfl) rfl
theorem m_780 : Cond.methodLink RX8 267 yX4_eatDaily ∈ lwc := nv_2 (nthP_mem (i := 237) rfl) rfl
theorem m_781 : Cond.instanceMethod yX4_eatDaily ∈ lwc := nv_2 (nthP_mem (i := 238) rfl) rfl
theorem m_782 : Cond.selects RX4 yX4_eatDaily yX4_eatDaily ∈ lwc := nv_2 (nthP_mem (i := 239) rfl) rfl
theorem m_783 : Cond.code yX8_fateAtMarket cX8_fateAtMarket 2 (some .int) ∈ lwc := nv_2 (nthP_mem (i := 218) rfl) rfl
theorem m_784 : Cond.methodLink RX8 261 yX8_fateAtMarket ∈ lwc := nv_2 (nthP_mem (i := 215) rfl) rfl
theorem m_785 : Cond.instanceMethod yX8_fateAtMarket ∈ lwc := nv_2 (nthP_mem (i := 217) rfl) rfl
theorem m_786 : Cond.selects RX8 yX8_fateAtMarket yX8_fateAtMarket ∈ lwc := nv_0 (nthP_mem (i := 5) rfl) rfl
theorem m_787 : Cond.methodLink RX8 264 yX4_settle ∈ lwc := nv_2 (nthP_mem (i := 233) rfl) rfl
theorem m_788 : Cond.code yX8_passOneDay cX8_passOneDay 2 none ∈ lwc := nv_2 (nthP_mem (i := 214) rfl) rfl
theorem m_789 : Cond.methodLink RX8 116 yX8_passOneDay ∈ lwc := nv_2 (nthP_mem (i := 211) rfl) rfl
theorem m_790 : Cond.instanceMethod yX8_passOneDay ∈ lwc := nv_2 (nthP_mem (i := 213) rfl) rfl
theorem m_791 : Cond.selects RX8 yX8_passOneDay yX8_passOneDay ∈ lwc := nv_0 (nthP_mem (i := 4) rfl) rfl
theorem m_792 : Cond.fieldLink RX8 22 "GooseLetters" "tape" "LGooseLetters$Tape;" ∈ lwc := nv_2 (nthP_mem (i := 27) rfl) rfl
theorem m_793 : Cond.fieldLink RX8 119 "GooseLetters$Tape" "length" "I" ∈ lwc := nv_1 (nthP_mem (i := 94) rfl) rfl
theorem m_794 : Cond.code yX5_addFour cX5_addFour 3 none ∈ lwc := nv_3 (nthP_mem (i := 18) rfl) rfl
theorem m_795 : Cond.methodLink RX8 122 yX5_addFour ∈ lwc := nv_3 (nthP_mem (i := 15) rfl) rfl
theorem m_796 : Cond.instanceMethod yX5_addFour ∈ lwc := nv_3 (nthP_mem (i := 16) rfl) rfl
theorem m_797 : Cond.selects RX5 yX5_addFour yX5_addFour ∈ lwc := nv_3 (nthP_mem (i := 17) rfl) rfl
theorem m_798 : Cond.fieldLink RX8 126 "GooseLetters$State" "textCount" "I" ∈ lwc := nv_1 (nthP_mem (i := 50) rfl) rfl
theorem m_799 : Cond.methodLink RX8 129 yX1_textOf ∈ lwc := nv_3 (nthP_mem (i := 27) rfl) rfl
theorem m_800 : Cond.fieldLink RX8 29 "GooseLetters" "tokens" "LGooseLetters$Tokens;" ∈ lwc := nv_2 (nthP_mem (i := 28) rfl) rfl
theorem m_801 : Cond.code yX7_split cX7_split 5 none ∈ lwc := nv_3 (nthP_mem (i := 31) rfl) rfl
theorem m_802 : Cond.methodLink RX8 133 yX7_split ∈ lwc := nv_3 (nthP_mem (i := 28) rfl) rfl
theorem m_803 : Cond.instanceMethod yX7_split ∈ lwc := nv_3 (nthP_mem (i := 29) rfl) rfl
theorem m_804 : Cond.selects RX7 yX7_split yX7_split ∈ lwc := nv_3 (nthP_mem (i := 30) rfl) rfl
theorem m_805 : Cond.fieldLink RX8 36 "GooseLetters" "parser" "LGooseLetters$Parser;" ∈ lwc := nv_2 (nthP_mem (i := 29) rfl) rfl
theorem m_806 : Cond.code yX2_parse cX2_parse 4 none ∈ lwc := nv_3 (nthP_mem (i := 120) rfl) rfl
theorem m_807 : Cond.methodLink RX8 137 yX2_parse ∈ lwc := nv_3 (nthP_mem (i := 117) rfl) rfl
theorem m_808 : Cond.instanceMethod yX2_parse ∈ lwc := nv_3 (nthP_mem (i := 118) rfl) rfl
theorem m_809 : Cond.selects RX2 yX2_parse yX2_parse ∈ lwc := nv_3 (nthP_mem (i := 119) rfl) rfl
theorem m_810 : Cond.fieldLink RX8 141 "GooseLetters$Parser" "fault" "I" ∈ lwc := nv_1 (nthP_mem (i := 129) rfl) rfl
theorem m_811 : Cond.fieldLink RX8 144 "GooseLetters$Parser" "place" "I" ∈ lwc := nv_1 (nthP_mem (i := 131) rfl) rfl
theorem m_812 : Cond.fieldLink RX8 147 "GooseLetters$State" "ruling" "I" ∈ lwc := nv_1 (nthP_mem (i := 53) rfl) rfl
theorem m_813 : Cond.fieldLink RX8 150 "GooseLetters$Text" "clauseCount" "I" ∈ lwc := nv_1 (nthP_mem (i := 156) rfl) rfl
theorem m_814 : Cond.code yX6_clauseField cX6_clauseField 3 (some .int) ∈ lwc := nv_3 (nthP_mem (i := 221) rfl) rfl
theorem m_815 : Cond.methodLink RX8 155 yX6_clauseField ∈ lwc := nv_3 (nthP_mem (i := 218) rfl) rfl
theorem m_816 : Cond.instanceMethod yX6_clauseField ∈ lwc := nv_3 (nthP_mem (i := 219) rfl) rfl
theorem m_817 : Cond.selects RX6 yX6_clauseField yX6_clauseField ∈ lwc := nv_3 (nthP_mem (i := 220) rfl) rfl
theorem m_818 : Cond.code yX8_fill cX8_fill 5 (some .int) ∈ lwc := nv_2 (nthP_mem (i := 88) rfl) rfl
theorem m_819 : Cond.methodLink RX8 158 yX8_fill ∈ lwc := nv_3 (nthP_mem (i := 222) rfl) rfl
theorem m_820 : Cond.instanceMethod yX8_fill ∈ lwc := nv_2 (nthP_mem (i := 86) rfl) rfl
theorem m_821 : Cond.selects RX8 yX8_fill yX8_fill ∈ lwc := nv_2 (nthP_mem (i := 87) rfl) rfl
theorem m_822 : Cond.code yX8_send cX8_send 4 (some .int) ∈ lwc := nv_2 (nthP_mem (i := 181) rfl) rfl
theorem m_823 : Cond.methodLink RX8 161 yX8_send ∈ lwc := nv_3 (nthP_mem (i := 223) rfl) rfl
theorem m_824 : Cond.instanceMethod yX8_send ∈ lwc := nv_2 (nthP_mem (i := 179) rfl) rfl
theorem m_825 : Cond.selects RX8 yX8_send yX8_send ∈ lwc := nv_2 (nthP_mem (i := 180) rfl) rfl
theorem m_826 : Cond.code yX8_fatten cX8_fatten 2 (some .int) ∈ lwc := nv_2 (nthP_mem (i := 198) rfl) rfl
theorem m_827 : Cond.methodLink RX8 164 yX8_fatten ∈ lwc := nv_3 (nthP_mem (i := 224) rfl) rfl
theorem m_828 : Cond.instanceMethod yX8_fatten ∈ lwc := nv_2 (nthP_mem (i := 196) rfl) rfl
theorem m_829 : Cond.selects RX8 yX8_fatten yX8_fatten ∈ lwc := nv_2 (nthP_mem (i := 197) rfl) rfl
theorem m_830 : Cond.code yX8_pass cX8_pass 3 (some .int) ∈ lwc := nv_2 (nthP_mem (i := 210) rfl) rfl
theorem m_831 : Cond.methodLink RX8 168 yX8_pass ∈ lwc := nv_3 (nthP_mem (i := 225) rfl) rfl
theorem m_832 : Cond.instanceMethod yX8_pass ∈ lwc := nv_2 (nthP_mem (i := 208) rfl) rfl
theorem m_833 : Cond.selects RX8 yX8_pass yX8_pass ∈ lwc := nv_2 (nthP_mem (i := 209) rfl) rfl
theorem m_834 : Cond.code yX4_takeStepBack cX4_takeStepBack 3 (some .boolean) ∈ lwc := nv_3 (nthP_mem (i := 233) rfl) rfl
theorem m_835 : Cond.methodLink RX8 171 yX4_takeStepBack ∈ lwc := nv_3 (nthP_mem (i := 230) rfl) rfl
theorem m_836 : Cond.instanceMethod yX4_takeStepBack ∈ lwc := nv_3 (nthP_mem (i := 231) rfl) rfl
theorem m_837 : Cond.selects RX4 yX4_takeStepBack yX4_takeStepBack ∈ lwc := nv_3 (nthP_mem (i := 232) rfl) rfl
theorem m_838 : Cond.fieldLink RX8 175 "GooseLetters$State" "stepCount" "I" ∈ lwc := nv_1 (nthP_mem (i := 56) rfl) rfl
theorem m_839 : Cond.methodLink RX8 178 yX4_hasGoose ∈ lwc := nv_4 (nthP_mem (i := 0) rfl) rfl
theorem m_840 : Cond.methodLink RX8 181 yX1_isTrue ∈ lwc := nv_4 (nthP_mem (i := 1) rfl) rfl
theorem m_841 : Cond.code yX8_tells cX8_tells 4 (some .boolean) ∈ lwc := nv_4 (nthP_mem (i := 20) rfl) rfl
theorem m_842 : Cond.methodLink RX8 195 yX8_tells ∈ lwc := nv_4 (nthP_mem (i := 17) rfl) rfl
theorem m_843 : Cond.instanceMethod yX8_tells ∈ lwc := nv_4 (nthP_mem (i := 19) rfl) rfl
theorem m_844 : Cond.selects RX8 yX8_tells yX8_tells ∈ lwc := nv_0 (nthP_mem (i := 22) rfl) rfl
theorem m_845 : Cond.methodLink RX8 281 yX8_halvesOf ∈ lwc := nv_4 (nthP_mem (i := 21) rfl) rfl
theorem m_846 : Cond.code yX8_halvesHad cX8_halvesHad 8 (some .int) ∈ lwc := nv_4 (nthP_mem (i := 16) rfl) rfl
theorem m_847 : Cond.methodLink RX8 188 yX8_halvesHad ∈ lwc := nv_4 (nthP_mem (i := 13) rfl) rfl
theorem m_848 : Cond.instanceMethod yX8_halvesHad ∈ lwc := nv_4 (nthP_mem (i := 15) rfl) rfl
theorem m_849 : Cond.selects RX8 yX8_halvesHad yX8_halvesHad ∈ lwc := nv_0 (nthP_mem (i := 21) rfl) rfl
theorem m_850 : Cond.code yX8_led cX8_led 7 (some .int) ∈ lwc := nv_4 (nthP_mem (i := 27) rfl) rfl
theorem m_851 : Cond.methodLink RX8 199 yX8_led ∈ lwc := nv_4 (nthP_mem (i := 32) rfl) rfl
theorem m_852 : Cond.instanceMethod yX8_led ∈ lwc := nv_4 (nthP_mem (i := 25) rfl) rfl
theorem m_853 : Cond.selects RX8 yX8_led yX8_led ∈ lwc := nv_4 (nthP_mem (i := 26) rfl) rfl
theorem m_854 : Cond.code yX1_isTrueWith cX1_isTrueWith 4 (some .boolean) ∈ lwc := nv_4 (nthP_mem (i := 40) rfl) rfl
theorem m_855 : Cond.methodLink RX8 203 yX1_isTrueWith ∈ lwc := nv_4 (nthP_mem (i := 37) rfl) rfl
theorem m_856 : Cond.instanceMethod yX1_isTrueWith ∈ lwc := nv_4 (nthP_mem (i := 38) rfl) rfl
theorem m_857 : Cond.selects RX1 yX1_isTrueWith yX1_isTrueWith ∈ lwc := nv_4 (nthP_mem (i := 39) rfl) rfl
theorem m_858 : Cond.fieldLink RX8 50 "GooseLetters" "chances" "LGooseLetters$Chances;" ∈ lwc := nv_2 (nthP_mem (i := 31) rfl) rfl
theorem m_859 : Cond.code yX0_begin cX0_begin 4 none ∈ lwc := nv_4 (nthP_mem (i := 49) rfl) rfl
theorem m_860 : Cond.methodLink RX8 209 yX0_begin ∈ lwc := nv_4 (nthP_mem (i := 46) rfl) rfl
theorem m_861 : Cond.instanceMethod yX0_begin ∈ lwc := nv_4 (nthP_mem (i := 47) rfl) rfl
theorem m_862 : Cond.selects RX0 yX0_begin yX0_begin ∈ lwc := nv_4 (nthP_mem (i := 48) rfl) rfl
theorem m_863 : Cond.initialized RX0 ∈ lwc := nv_1 (nthP_mem (i := 8) rfl) rfl
theorem m_864 : Cond.constantLong RX8 207 (-1) ∈ lwc := nv_4 (nthP_mem (i := 45) rfl) rfl
theorem m_865 : Cond.fieldLink RX8 217 "GooseLetters$Chances" "count" "I" ∈ lwc := nv_1 (nthP_mem (i := 194) rfl) rfl
theorem m_866 : Cond.code yX0_upper cX0_upper 7 (some .long) ∈ lwc := nv_4 (nthP_mem (i := 64) rfl) rfl
theorem m_867 : Cond.methodLink RX8 220 yX0_upper ∈ lwc := nv_4 (nthP_mem (i := 61) rfl) rfl
theorem m_868 : Cond.instanceMethod yX0_upper ∈ lwc := nv_4 (nthP_mem (i := 62) rfl) rfl
theorem m_869 : Cond.selects RX0 yX0_upper yX0_upper ∈ lwc := nv_4 (nthP_mem (i := 63) rfl) rfl
theorem m_870 : Cond.fieldLink RX8 224 "GooseLetters$Chances" "total" "J" ∈ lwc := nv_1 (nthP_mem (i := 196) rfl) rfl
theorem m_871 : Cond.code yX8_commonDivisor cX8_commonDivisor 11 (some .long) ∈ lwc := nv_4 (nthP_mem (i := 67) rfl) rfl
theorem m_872 : Cond.methodLink RX8 228 yX8_commonDivisor ∈ lwc := nv_4 (nthP_mem (i := 65) rfl) rfl
theorem m_873 : Cond.static yX8_commonDivisor ∈ lwc := nv_4 (nthP_mem (i := 66) rfl) rfl
theorem m_874 : Cond.code yX0_add cX0_add 10 none ∈ lwc := nv_4 (nthP_mem (i := 53) rfl) rfl
theorem m_875 : Cond.methodLink RX8 213 yX0_add ∈ lwc := nv_4 (nthP_mem (i := 50) rfl) rfl
theorem m_876 : Cond.instanceMethod yX0_add ∈ lwc := nv_4 (nthP_mem (i := 51) rfl) rfl
theorem m_877 : Cond.selects RX0 yX0_add yX0_add ∈ lwc := nv_4 (nthP_mem (i := 52) rfl) rfl
theorem m_878 : Cond.fieldLink RX8 57 "GooseLetters" "search" "LGooseLetters$Search;" ∈ lwc := nv_2 (nthP_mem (i := 32) rfl) rfl
theorem m_879 : Cond.code yX3_fewest cX3_fewest 6 (some .int) ∈ lwc := nv_4 (nthP_mem (i := 75) rfl) rfl
theorem m_880 : Cond.methodLink RX8 232 yX3_fewest ∈ lwc := nv_4 (nthP_mem (i := 72) rfl) rfl
theorem m_881 : Cond.instanceMethod yX3_fewest ∈ lwc := nv_4 (nthP_mem (i := 73) rfl) rfl
theorem m_882 : Cond.selects RX3 yX3_fewest yX3_fewest ∈ lwc := nv_4 (nthP_mem (i := 74) rfl) rfl
theorem m_883 : Cond.code yX3_choiceOf cX3_choiceOf 3 (some .int) ∈ lwc := nv_4 (nthP_mem (i := 131) rfl) rfl
theorem m_884 : Cond.methodLink RX8 236 yX3_choiceOf ∈ lwc := nv_4 (nthP_mem (i := 128) rfl) rfl
theorem m_885 : Cond.instanceMethod yX3_choiceOf ∈ lwc := nv_4 (nthP_mem (i := 129) rfl) rfl
theorem m_886 : Cond.selects RX3 yX3_choiceOf yX3_choiceOf ∈ lwc := nv_4 (nthP_mem (i := 130) rfl) rfl
theorem m_887 : Cond.methodLink RX8 239 yX4_dailyNeed ∈ lwc := nv_4 (nthP_mem (i := 136) rfl) rfl
theorem m_888 : Cond.methodLink RX8 243 Lib.Math.min.name ∈ lwc := nv_4 (nthP_mem (i := 137) rfl) rfl
theorem m_889 : Cond.fieldLink RX8 16 "GooseLetters" "kept" "LGooseLetters$State;" ∈ lwc := nv_2 (nthP_mem (i := 26) rfl) rfl
theorem m_890 : Cond.code yX4_copyFrom cX4_copyFrom 2 none ∈ lwc := nv_4 (nthP_mem (i := 145) rfl) rfl
theorem m_891 : Cond.methodLink RX8 248 yX4_copyFrom ∈ lwc := nv_4 (nthP_mem (i := 142) rfl) rfl
theorem m_892 : Cond.instanceMethod yX4_copyFrom ∈ lwc := nv_4 (nthP_mem (i := 143) rfl) rfl
theorem m_893 : Cond.selects RX4 yX4_copyFrom yX4_copyFrom ∈ lwc := nv_4 (nthP_mem (i := 144) rfl) rfl
theorem m_894 : Cond.methodLink RX8 258 yX4_countFate ∈ lwc := nv_4 (nthP_mem (i := 158) rfl) rfl
theorem m_895 : Cond.fieldLink RX8 252 "GooseLetters$State" "marketCount" "I" ∈ lwc := nv_1 (nthP_mem (i := 38) rfl) rfl
theorem m_896 : Cond.code yX8_aboutMany cX8_aboutMany 3 (some .int) ∈ lwc := nv_4 (nthP_mem (i := 157) rfl) rfl
theorem m_897 : Cond.methodLink RX8 255 yX8_aboutMany ∈ lwc := nv_4 (nthP_mem (i := 154) rfl) rfl
theorem m_898 : Cond.instanceMethod yX8_aboutMany ∈ lwc := nv_4 (nthP_mem (i := 156) rfl) rfl
theorem m_899 : Cond.selects RX8 yX8_aboutMany yX8_aboutMany ∈ lwc := nv_0 (nthP_mem (i := 32) rfl) rfl
set_option maxRecDepth 20000 in
theorem iw_X0 : ∀ w ∈ ([Cond.lays RX0 "GooseLetters$Chances" "count" "I", Cond.lays RX0 "GooseLetters$Chances" "total" "J", Cond.laysFinal RX0 "GooseLetters$Chances" "weights" "[J", Cond.laysFinal RX0 "GooseLetters$Chances" "fresh" "[J"] : List Cond), w ∈ lwc := List.forall_mem_cons.mpr ⟨(nv_1 (List.mem_of_getElem? (i := 199) (by decide +kernel)) (by decide +kernel)), List.forall_mem_cons.mpr ⟨(nv_1 (List.mem_of_getElem? (i := 201) (by decide +kernel)) (by decide +kernel)), List.forall_mem_cons.mpr ⟨(nv_1 (List.mem_of_getElem? (i := 203) (by decide +kernel)) (by decide +kernel)), List.forall_mem_cons.mpr ⟨(nv_1 (List.mem_of_getElem? (i := 205) (by decide +kernel)) (by decide +kernel)), fun _ h => absurd h List.not_mem_nil⟩⟩⟩⟩
theorem iX0 : ∀ w ∈ u_ws RX0 TX0 4, w ∈ lwc := iw_X0
set_option maxRecDepth 20000 in
theorem iw_X1 : ∀ w ∈ ([Cond.laysFinal RX1 "GooseLetters$Laws" "texts" "[LGooseLetters$Text;", Cond.laysFinal RX1 "GooseLetters$Laws" "names" "[I", Cond.laysFinal RX1 "GooseLetters$Laws" "stack" "[I", Cond.lays RX1 "GooseLetters$Laws" "top" "I"] : List Cond), w ∈ lwc := List.forall_mem_cons.mpr ⟨(nv_1 (List.mem_of_getElem? (i := 178) (by decide +kernel)) (by decide +kernel)), List.forall_mem_cons.mpr ⟨(nv_1 (List.mem_of_getElem? (i := 180) (by decide +kernel)) (by decide +kernel)), List.forall_mem_cons.mpr ⟨(nv_1 (List.mem_of_getElem? (i := 182) (by decide +kernel)) (by decide +kernel)), List.forall_mem_cons.mpr ⟨(nv_1 (List.mem_of_getElem? (i := 184) (by decide +kernel)) (by decide +kernel)), fun _ h => absurd h List.not_mem_nil⟩⟩⟩⟩
theorem iX1 : ∀ w ∈ u_ws RX1 TX1 4, w ∈ lwc := iw_X1
set_option maxRecDepth 20000 in
theorem iw_X2 : ∀ w ∈ ([Cond.lays RX2 "GooseLetters$Parser" "fault" "I", Cond.lays RX2 "GooseLetters$Parser" "place" "I", Cond.lays RX2 "GooseLetters$Parser" "law" "I"] : List Cond), w ∈ lwc := List.forall_mem_cons.mpr ⟨(nv_1 (List.mem_of_getElem? (i := 133) (by decide +kernel)) (by decide +kernel)), List.forall_mem_cons.mpr ⟨(nv_1 (List.mem_of_getElem? (i := 135) (by decide +kernel)) (by decide +kernel)), List.forall_mem_cons.mpr ⟨(nv_1 (List.mem_of_getElem? (i := 137) (by decide +kernel)) (by decide +kernel)), fun _ h => absurd h List.not_mem_nil⟩⟩⟩
theorem iX2 : ∀ w ∈ u_ws RX2 TX2 3, w ∈ lwc := iw_X2
set_option maxRecDepth 20000 in
theorem iw_X3 : ∀ w ∈ ([Cond.laysFinal RX3 "GooseLetters$Search" "friends" "[I", Cond.laysFinal RX3 "GooseLetters$Search" "reads" "[I", Cond.laysFinal RX3 "GooseLetters$Search" "ready" "[Z", Cond.laysFinal RX3 "GooseLetters$Search" "set" "[I", Cond.laysFinal RX3 "GooseLetters$Search" "parts" "[I", Cond.laysFinal RX3 "GooseLetters$Search" "markets" "[I", Cond.laysFinal RX3 "GooseLetters$Search" "bestSet" "[I", Cond.laysFinal RX3 "GooseLetters$Search" "bestChoice" "[I", Cond.lays RX3 "GooseLetters$Search" "size" "I", Cond.lays RX3 "GooseLetters$Search" "scale" "J", Cond.lays RX3 "GooseLetters$Search" "percent" "I", Cond.lays RX3 "GooseLetters$Search" "marketCount" "I", Cond.lays RX3 "GooseLetters$Search" "found" "Z", Cond.lays RX3 "GooseLetters$Search" "foundInSet" "Z", Cond.lays RX3 "GooseLetters$Search" "bestMiss" "J", Cond.lays RX3 "GooseLetters$Search" "bestOrder" "I"] : List Cond), w ∈ lwc := List.forall_mem_cons.mpr ⟨(nv_1 (List.mem_of_getElem? (i := 231) (by decide +kernel)) (by decide +kernel)), List.forall_mem_cons.mpr ⟨(nv_1 (List.mem_of_getElem? (i := 233) (by decide +kernel)) (by decide +kernel)), List.forall_mem_cons.mpr ⟨(nv_1 (List.mem_of_getElem? (i := 235) (by decide +kernel)) (by decide +kernel)), List.forall_mem_cons.mpr ⟨(nv_1 (List.mem_of_getElem? (i := 237) (by decide +kernel)) (by decide +kernel)), List.forall_mem_cons.mpr ⟨(nv_1 (List.mem_of_getElem? (i := 239) (by decide +kernel)) (by decide +kernel)), List.forall_mem_cons.mpr ⟨(nv_2 (List.mem_of_getElem? (i := 1) (by decide +kernel)) (by decide +kernel)), List.forall_mem_cons.mpr ⟨(nv_2 (List.mem_of_getElem? (i := 3) (by decide +kernel)) (by decide +kernel)), List.forall_mem_cons.mpr ⟨(nv_2 (List.mem_of_getElem? (i := 5) (by decide +kernel)) (by decide +kernel)), List.forall_mem_cons.mpr ⟨(nv_2 (List.mem_of_getElem? (i := 7) (by decide +kernel)) (by decide +kernel)), List.forall_mem_cons.mpr ⟨(nv_2 (List.mem_of_getElem? (i := 9) (by decide +kernel)) (by decide +kernel)), List.forall_mem_cons.mpr ⟨(nv_2 (List.mem_of_getElem? (i := 11) (by decide +kernel)) (by decide +kernel)), List.forall_mem_cons.mpr ⟨(nv_2 (List.mem_of_getElem? (i := 13) (by decide +kernel)) (by decide +kernel)), List.forall_mem_cons.mpr ⟨(nv_2 (List.mem_of_getElem? (i := 15) (by decide +kernel)) (by decide +kernel)), List.forall_mem_cons.mpr ⟨(nv_2 (List.mem_of_getElem? (i := 17) (by decide +kernel)) (by decide +kernel)), List.forall_mem_cons.mpr ⟨(nv_2 (List.mem_of_getElem? (i := 19) (by decide +kernel)) (by decide +kernel)), List.forall_mem_cons.mpr ⟨(nv_2 (List.mem_of_getElem? (i := 21) (by decide +kernel)) (by decide +kernel)), fun _ h => absurd h List.not_mem_nil⟩⟩⟩⟩⟩⟩⟩⟩⟩⟩⟩⟩⟩⟩⟩⟩
theorem iX3 : ∀ w ∈ u_ws RX3 TX3 16, w ∈ lwc := iw_X3
set_option maxRecDepth 20000 in
theorem iw_X4 : ∀ w ∈ ([Cond.laysFinal RX4 "GooseLetters$State" "geese" "[I", Cond.laysFinal RX4 "GooseLetters$State" "markets" "[I", Cond.laysFinal RX4 "GooseLetters$State" "steps" "[I", Cond.lays RX4 "GooseLetters$State" "gooseCount" "I", Cond.lays RX4 "GooseLetters$State" "marketCount" "I", Cond.lays RX4 "GooseLetters$State" "grain" "I", Cond.lays RX4 "GooseLetters$State" "mouths" "I", Cond.lays RX4 "GooseLetters$State" "day" "I", Cond.lays RX4 "GooseLetters$State" "x" "I", Cond.lays RX4 "GooseLetters$State" "textCount" "I", Cond.lays RX4 "GooseLetters$State" "ruling" "I", Cond.lays RX4 "GooseLetters$State" "firstStep" "I", Cond.lays RX4 "GooseLetters$State" "stepCount" "I"] : List Cond), w ∈ lwc := List.forall_mem_cons.mpr ⟨(nv_1 (List.mem_of_getElem? (i := 57) (by decide +kernel)) (by decide +kernel)), List.forall_mem_cons.mpr ⟨(nv_1 (List.mem_of_getElem? (i := 59) (by decide +kernel)) (by decide +kernel)), List.forall_mem_cons.mpr ⟨(nv_1 (List.mem_of_getElem? (i := 61) (by decide +kernel)) (by decide +kernel)), List.forall_mem_cons.mpr ⟨(nv_1 (List.mem_of_getElem? (i := 63) (by decide +kernel)) (by decide +kernel)), List.forall_mem_cons.mpr ⟨(nv_1 (List.mem_of_getElem? (i := 65) (by decide +kernel)) (by decide +kernel)), List.forall_mem_cons.mpr ⟨(nv_1 (List.mem_of_getElem? (i := 67) (by decide +kernel)) (by decide +kernel)), List.forall_mem_cons.mpr ⟨(nv_1 (List.mem_of_getElem? (i := 69) (by decide +kernel)) (by decide +kernel)), List.forall_mem_cons.mpr ⟨(nv_1 (List.mem_of_getElem? (i := 71) (by decide +kernel)) (by decide +kernel)), List.forall_mem_cons.mpr ⟨(nv_1 (List.mem_of_getElem? (i := 73) (by decide +kernel)) (by decide +kernel)), List.forall_mem_cons.mpr ⟨(nv_1 (List.mem_of_getElem? (i := 75) (by decide +kernel)) (by decide +kernel)), List.forall_mem_cons.mpr ⟨(nv_1 (List.mem_of_getElem? (i := 77) (by decide +kernel)) (by decide +kernel)), List.forall_mem_cons.mpr ⟨(nv_1 (List.mem_of_getElem? (i := 79) (by decide +kernel)) (by decide +kernel)), List.forall_mem_cons.mpr ⟨(nv_1 (List.mem_of_getElem? (i := 81) (by decide +kernel)) (by decide +kernel)), fun _ h => absurd h List.not_mem_nil⟩⟩⟩⟩⟩⟩⟩⟩⟩⟩⟩⟩⟩
theorem iX4 : ∀ w ∈ u_ws RX4 TX4 13, w ∈ lwc := iw_X4
set_option maxRecDepth 20000 in
theorem iw_X5 : ∀ w ∈ ([Cond.laysFinal RX5 "GooseLetters$Tape" "bytes" "[I", Cond.lays RX5 "GooseLetters$Tape" "length" "I"] : List Cond), w ∈ lwc := List.forall_mem_cons.mpr ⟨(nv_1 (List.mem_of_getElem? (i := 95) (by decide +kernel)) (by decide +kernel)), List.forall_mem_cons.mpr ⟨(nv_1 (List.mem_of_getElem? (i := 97) (by decide +kernel)) (by decide +kernel)), fun _ h => absurd h List.not_mem_nil⟩⟩
theorem iX5 : ∀ w ∈ u_ws RX5 TX5 2, w ∈ lwc := iw_X5
set_option maxRecDepth 20000 in
theorem iw_X6 : ∀ w ∈ ([Cond.laysFinal RX6 "GooseLetters$Text" "clauses" "[I", Cond.lays RX6 "GooseLetters$Text" "clauseCount" "I", Cond.laysFinal RX6 "GooseLetters$Text" "steps" "[I", Cond.laysFinal RX6 "GooseLetters$Text" "from" "[I", Cond.laysFinal RX6 "GooseLetters$Text" "to" "[I", Cond.lays RX6 "GooseLetters$Text" "stepCount" "I"] : List Cond), w ∈ lwc := List.forall_mem_cons.mpr ⟨(nv_1 (List.mem_of_getElem? (i := 161) (by decide +kernel)) (by decide +kernel)), List.forall_mem_cons.mpr ⟨(nv_1 (List.mem_of_getElem? (i := 163) (by decide +kernel)) (by decide +kernel)), List.forall_mem_cons.mpr ⟨(nv_1 (List.mem_of_getElem? (i := 165) (by decide +kernel)) (by decide +kernel)), List.forall_mem_cons.mpr ⟨(nv_1 (List.mem_of_getElem? (i := 167) (by decide +kernel)) (by decide +kernel)), List.forall_mem_cons.mpr ⟨(nv_1 (List.mem_of_getElem? (i := 169) (by decide +kernel)) (by decide +kernel)), List.forall_mem_cons.mpr ⟨(nv_1 (List.mem_of_getElem? (i := 171) (by decide +kernel)) (by decide +kernel)), fun _ h => absurd h List.not_mem_nil⟩⟩⟩⟩⟩⟩
theorem iX6 : ∀ w ∈ u_ws RX6 TX6 6, w ∈ lwc := iw_X6
set_option maxRecDepth 20000 in
theorem iw_X7 : ∀ w ∈ ([Cond.laysFinal RX7 "GooseLetters$Tokens" "kinds" "[I", Cond.laysFinal RX7 "GooseLetters$Tokens" "starts" "[I", Cond.laysFinal RX7 "GooseLetters$Tokens" "values" "[I", Cond.lays RX7 "GooseLetters$Tokens" "count" "I", Cond.lays RX7 "GooseLetters$Tokens" "at" "I"] : List Cond), w ∈ lwc := List.forall_mem_cons.mpr ⟨(nv_1 (List.mem_of_getElem? (i := 111) (by decide +kernel)) (by decide +kernel)), List.forall_mem_cons.mpr ⟨(nv_1 (List.mem_of_getElem? (i := 113) (by decide +kernel)) (by decide +kernel)), List.forall_mem_cons.mpr ⟨(nv_1 (List.mem_of_getElem? (i := 115) (by decide +kernel)) (by decide +kernel)), List.forall_mem_cons.mpr ⟨(nv_1 (List.mem_of_getElem? (i := 117) (by decide +kernel)) (by decide +kernel)), List.forall_mem_cons.mpr ⟨(nv_1 (List.mem_of_getElem? (i := 119) (by decide +kernel)) (by decide +kernel)), fun _ h => absurd h List.not_mem_nil⟩⟩⟩⟩⟩
theorem iX7 : ∀ w ∈ u_ws RX7 TX7 5, w ∈ lwc := iw_X7
set_option maxRecDepth 20000 in
theorem iw_X8 : ∀ w ∈ ([Cond.laysFinal RX8 "GooseLetters" "now" "LGooseLetters$State;", Cond.laysFinal RX8 "GooseLetters" "kept" "LGooseLetters$State;", Cond.laysFinal RX8 "GooseLetters" "tape" "LGooseLetters$Tape;", Cond.laysFinal RX8 "GooseLetters" "tokens" "LGooseLetters$Tokens;", Cond.laysFinal RX8 "GooseLetters" "parser" "LGooseLetters$Parser;", Cond.laysFinal RX8 "GooseLetters" "laws" "LGooseLetters$Laws;", Cond.laysFinal RX8 "GooseLetters" "chances" "LGooseLetters$Chances;", Cond.laysFinal RX8 "GooseLetters" "search" "LGooseLetters$Search;"] : List Cond), w ∈ lwc := List.forall_mem_cons.mpr ⟨(nv_2 (List.mem_of_getElem? (i := 33) (by decide +kernel)) (by decide +kernel)), List.forall_mem_cons.mpr ⟨(nv_2 (List.mem_of_getElem? (i := 35) (by decide +kernel)) (by decide +kernel)), List.forall_mem_cons.mpr ⟨(nv_2 (List.mem_of_getElem? (i := 37) (by decide +kernel)) (by decide +kernel)), List.forall_mem_cons.mpr ⟨(nv_2 (List.mem_of_getElem? (i := 39) (by decide +kernel)) (by decide +kernel)), List.forall_mem_cons.mpr ⟨(nv_2 (List.mem_of_getElem? (i := 41) (by decide +kernel)) (by decide +kernel)), List.forall_mem_cons.mpr ⟨(nv_2 (List.mem_of_getElem? (i := 43) (by decide +kernel)) (by decide +kernel)), List.forall_mem_cons.mpr ⟨(nv_2 (List.mem_of_getElem? (i := 45) (by decide +kernel)) (by decide +kernel)), List.forall_mem_cons.mpr ⟨(nv_2 (List.mem_of_getElem? (i := 47) (by decide +kernel)) (by decide +kernel)), fun _ h => absurd h List.not_mem_nil⟩⟩⟩⟩⟩⟩⟩⟩
theorem iX8 : ∀ w ∈ u_ws RX8 TX8 8, w ∈ lwc := iw_X8
set_option maxRecDepth 20000 in
theorem iw_X9 : ∀ w ∈ ([Cond.laysFinal RX9 "GooseLettersModel" "a" "[I", Cond.laysFinal RX9 "GooseLettersModel" "image" "[I", Cond.laysFinal RX9 "GooseLettersModel" "tape" "[B", Cond.lays RX9 "GooseLettersModel" "taped" "I", Cond.lays RX9 "GooseLettersModel" "fault" "I", Cond.lays RX9 "GooseLettersModel" "faultAt" "I", Cond.laysFinal RX9 "GooseLettersModel" "clauses" "[I", Cond.laysFinal RX9 "GooseLettersModel" "clauseWord" "[I", Cond.laysFinal RX9 "GooseLettersModel" "clauseAt" "[I", Cond.laysFinal RX9 "GooseLettersModel" "clauseOne" "[I", Cond.laysFinal RX9 "GooseLettersModel" "clauseTwo" "[I", Cond.laysFinal RX9 "GooseLettersModel" "clauseThree" "[I", Cond.laysFinal RX9 "GooseLettersModel" "order" "[I", Cond.laysFinal RX9 "GooseLettersModel" "value" "[I", Cond.lays RX9 "GooseLettersModel" "length" "I", Cond.lays RX9 "GooseLettersModel" "at" "I", Cond.lays RX9 "GooseLettersModel" "token" "I", Cond.lays RX9 "GooseLettersModel" "sort" "I", Cond.lays RX9 "GooseLettersModel" "told" "I", Cond.lays RX9 "GooseLettersModel" "wrong" "I", Cond.lays RX9 "GooseLettersModel" "wrongAt" "I", Cond.lays RX9 "GooseLettersModel" "open" "I", Cond.lays RX9 "GooseLettersModel" "frames" "I", Cond.laysFinal RX9 "GooseLettersModel" "frame" "[I", Cond.laysFinal RX9 "GooseLettersModel" "compare" "[I", Cond.lays RX9 "GooseLettersModel" "waits" "I", Cond.laysFinal RX9 "GooseLettersModel" "wait" "[I", Cond.laysFinal RX9 "GooseLettersModel" "waitFrame" "[I", Cond.lays RX9 "GooseLettersModel" "state" "I", Cond.lays RX9 "GooseLettersModel" "newClauses" "I", Cond.lays RX9 "GooseLettersModel" "newKind" "I", Cond.laysFinal RX9 "GooseLettersModel" "newWord" "[I", Cond.laysFinal RX9 "GooseLettersModel" "newAt" "[I", Cond.laysFinal RX9 "GooseLettersModel" "newOne" "[I", Cond.laysFinal RX9 "GooseLettersModel" "newTwo" "[I", Cond.laysFinal RX9 "GooseLettersModel" "newThree" "[I", Cond.lays RX9 "GooseLettersModel" "newOrders" "I", Cond.laysFinal RX9 "GooseLettersModel" "newOrder" "[I", Cond.laysFinal RX9 "GooseLettersModel" "newValue" "[I", Cond.laysFinal RX9 "GooseLettersModel" "name" "[I", Cond.laysFinal RX9 "GooseLettersModel" "pile" "[J", Cond.laysFinal RX9 "GooseLettersModel" "many" "[J", Cond.laysFinal RX9 "GooseLettersModel" "then" "[J", Cond.laysFinal RX9 "GooseLettersModel" "eats" "[I", Cond.laysFinal RX9 "GooseLettersModel" "reads" "[I", Cond.laysFinal RX9 "GooseLettersModel" "trues" "[Z", Cond.laysFinal RX9 "GooseLettersModel" "flock" "[I", Cond.lays RX9 "GooseLettersModel" "flocks" "I", Cond.laysFinal RX9 "GooseLettersModel" "chosen" "[I", Cond.laysFinal RX9 "GooseLettersModel" "does" "[I", Cond.laysFinal RX9 "GooseLettersModel" "bestChosen" "[I", Cond.laysFinal RX9 "GooseLettersModel" "bestDoes" "[I", Cond.lays RX9 "GooseLettersModel" "bestEnemy" "J"] : List Cond), w ∈ lwc := List.forall_mem_cons.mpr ⟨(nv_4 (List.mem_of_getElem? (i := 222) (by decide +kernel)) (by decide +kernel)), List.forall_mem_cons.mpr ⟨(nv_4 (List.mem_of_getElem? (i := 224) (by decide +kernel)) (by decide +kernel)), List.forall_mem_cons.mpr ⟨(nv_4 (List.mem_of_getElem? (i := 226) (by decide +kernel)) (by decide +kernel)), List.forall_mem_cons.mpr ⟨(nv_4 (List.mem_of_getElem? (i := 228) (by decide +kernel)) (by decide +kernel)), List.forall_mem_cons.mpr ⟨(nv_4 (List.mem_of_getElem? (i := 230) (by decide +kernel)) (by decide +kernel)), List.forall_mem_cons.mpr ⟨(nv_4 (List.mem_of_getElem? (i := 232) (by decide +kernel)) (by decide +kernel)), List.forall_mem_cons.mpr ⟨(nv_4 (List.mem_of_getElem? (i := 234) (by decide +kernel)) (by decide +kernel)), List.forall_mem_cons.mpr ⟨(nv_4 (List.mem_of_getElem? (i := 236) (by decide +kernel)) (by decide +kernel)), List.forall_mem_cons.mpr ⟨(nv_4 (List.mem_of_getElem? (i := 238) (by decide +kernel)) (by decide +kernel)), List.forall_mem_cons.mpr ⟨(nv_5 (List.mem_of_getElem? (i := 0) (by decide +kernel)) (by decide +kernel)), List.forall_mem_cons.mpr ⟨(nv_5 (List.mem_of_getElem? (i := 2) (by decide +kernel)) (by decide +kernel)), List.forall_mem_cons.mpr ⟨(nv_5 (List.mem_of_getElem? (i := 4) (by decide +kernel)) (by decide +kernel)), List.forall_mem_cons.mpr ⟨(nv_5 (List.mem_of_getElem? (i := 6) (by decide +kernel)) (by decide +kernel)), List.forall_mem_cons.mpr ⟨(nv_5 (List.mem_of_getElem? (i := 8) (by decide +kernel)) (by decide +kernel)), List.forall_mem_cons.mpr ⟨(nv_5 (List.mem_of_getElem? (i := 10) (by decide +kernel)) (by decide +kernel)), List.forall_mem_cons.mpr ⟨(nv_5 (List.mem_of_getElem? (i := 12) (by decide +kernel)) (by decide +kernel)), List.forall_mem_cons.mpr ⟨(nv_5 (List.mem_of_getElem? (i := 14) (by decide +kernel)) (by decide +kernel)), List.forall_mem_cons.mpr ⟨(nv_5 (List.mem_of_getElem? (i := 16) (by decide +kernel)) (by decide +kernel)), List.forall_mem_cons.mpr ⟨(nv_5 (List.mem_of_getElem? (i := 18) (by decide +kernel)) (by decide +kernel)), List.forall_mem_cons.mpr ⟨(nv_5 (List.mem_of_getElem? (i := 20) (by decide +kernel)) (by decide +kernel)), List.forall_mem_cons.mpr ⟨(nv_5 (List.mem_of_getElem? (i := 22) (by decide +kernel)) (by decide +kernel)), List.forall_mem_cons.mpr ⟨(nv_5 (List.mem_of_getElem? (i := 24) (by decide +kernel)) (by decide +kernel)), List.forall_mem_cons.mpr ⟨(nv_5 (List.mem_of_getElem? (i := 26) (by decide +kernel)) (by decide +kernel)), List.forall_mem_cons.mpr ⟨(nv_5 (List.mem_of_getElem? (i := 28) (by decide +kernel)) (by decide +kernel)), List.forall_mem_cons.mpr ⟨(nv_5 (List.mem_of_getElem? (i := 30) (by decide +kernel)) (by decide +kernel)), List.forall_mem_cons.mpr ⟨(nv_5 (List.mem_of_getElem? (i := 32) (by decide +kernel)) (by decide +kernel)), List.forall_mem_cons.mpr ⟨(nv_5 (List.mem_of_getElem? (i := 34) (by decide +kernel)) (by decide +kernel)), List.forall_mem_cons.mpr ⟨(nv_5 (List.mem_of_getElem? (i := 36) (by decide +kernel)) (by decide +kernel)), List.forall_mem_cons.mpr ⟨(nv_5 (List.mem_of_getElem? (i := 38) (by decide +kernel)) (by decide +kernel)), List.forall_mem_cons.mpr ⟨(nv_5 (List.mem_of_getElem? (i := 40) (by decide +kernel)) (by decide +kernel)), List.forall_mem_cons.mpr ⟨(nv_5 (List.mem_of_getElem? (i := 42) (by decide +kernel)) (by decide +kernel)), List.forall_mem_cons.mpr ⟨(nv_5 (List.mem_of_getElem? (i := 44) (by decide +kernel)) (by decide +kernel)), List.forall_mem_cons.mpr ⟨(nv_5 (List.mem_of_getElem? (i := 46) (by decide +kernel)) (by decide +kernel)), List.forall_mem_cons.mpr ⟨(nv_5 (List.mem_of_getElem? (i := 48) (by decide +kernel)) (by decide +kernel)), List.forall_mem_cons.mpr ⟨(nv_5 (List.mem_of_getElem? (i := 50) (by decide +kernel)) (by decide +kernel)), List.forall_mem_cons.mpr ⟨(nv_5 (List.mem_of_getElem? (i := 52) (by decide +kernel)) (by decide +kernel)), List.forall_mem_cons.mpr ⟨(nv_5 (List.mem_of_getElem? (i := 54) (by decide +kernel)) (by decide +kernel)), List.forall_mem_cons.mpr ⟨(nv_5 (List.mem_of_getElem? (i := 56) (by decide +kernel)) (by decide +kernel)), List.forall_mem_cons.mpr ⟨(nv_5 (List.mem_of_getElem? (i := 58) (by decide +kernel)) (by decide +kernel)), List.forall_mem_cons.mpr ⟨(nv_5 (List.mem_of_getElem? (i := 60) (by decide +kernel)) (by decide +kernel)), List.forall_mem_cons.mpr ⟨(nv_5 (List.mem_of_getElem? (i := 62) (by decide +kernel)) (by decide +kernel)), List.forall_mem_cons.mpr ⟨(nv_5 (List.mem_of_getElem? (i := 64) (by decide +kernel)) (by decide +kernel)), List.forall_mem_cons.mpr ⟨(nv_5 (List.mem_of_getElem? (i := 66) (by decide +kernel)) (by decide +kernel)), List.forall_mem_cons.mpr ⟨(nv_5 (List.mem_of_getElem? (i := 68) (by decide +kernel)) (by decide +kernel)), List.forall_mem_cons.mpr ⟨(nv_5 (List.mem_of_getElem? (i := 70) (by decide +kernel)) (by decide +kernel)), List.forall_mem_cons.mpr ⟨(nv_5 (List.mem_of_getElem? (i := 72) (by decide +kernel)) (by decide +kernel)), List.forall_mem_cons.mpr ⟨(nv_5 (List.mem_of_getElem? (i := 74) (by decide +kernel)) (by decide +kernel)), List.forall_mem_cons.mpr ⟨(nv_5 (List.mem_of_getElem? (i := 76) (by decide +kernel)) (by decide +kernel)), List.forall_mem_cons.mpr ⟨(nv_5 (List.mem_of_getElem? (i := 78) (by decide +kernel)) (by decide +kernel)), List.forall_mem_cons.mpr ⟨(nv_5 (List.mem_of_getElem? (i := 80) (by decide +kernel)) (by decide +kernel)), List.forall_mem_cons.mpr ⟨(nv_5 (List.mem_of_getElem? (i := 82) (by decide +kernel)) (by decide +kernel)), List.forall_mem_cons.mpr ⟨(nv_5 (List.mem_of_getElem? (i := 84) (by decide +kernel)) (by decide +kernel)), List.forall_mem_cons.mpr ⟨(nv_5 (List.mem_of_getElem? (i := 86) (by decide +kernel)) (by decide +kernel)), fun _ h => absurd h List.not_mem_nil⟩⟩⟩⟩⟩⟩⟩⟩⟩⟩⟩⟩⟩⟩⟩⟩⟩⟩⟩⟩⟩⟩⟩⟩⟩⟩⟩⟩⟩⟩⟩⟩⟩⟩⟩⟩⟩⟩⟩⟩⟩⟩⟩⟩⟩⟩⟩⟩⟩⟩⟩⟩⟩
theorem iX9 : ∀ w ∈ u_ws RX9 TX9 53, w ∈ lwc := iw_X9
/-! calls over a whole world -/
theorem gzf {v : Int32} (h : v = 0 ∨ v = 1) : fits .boolean (.int v) = true := by rcases h with rfl | rfl <;> rfl
section GX
variable {p : Program} {l : Launch} {e : Env} {R : Room} {s : State} {m : MethodId} {args : Array Value} {below : List Frame} {meth : Method} {c : Code} {H : Heap} {locs : List Loc} {cells slots : Nat} {Q : State → Prop} {pc : Nat} {ls : Array Slot} {rest st0 : List Value} {G : va_G} {tys : List (ClassId × FieldType)} {ws : va_W} {A : Nat → Prop} {H0 : Heap} {cc : ByteArray}
theorem gx_free (hD : va_D A ws) (hS : va_S A H0 H locs) (hA : ∀ q, H0.size ≤ q → A q) : ∀ q, va_A ws H.size q → A q := fun q h => h.elim (fun ⟨k, e, hk⟩ => hD.2 k _ hk) (fun h => hA q (Nat.le_trans hS.1 h))
theorem gx_runV {y : MethodName} {bytes : ByteArray} {maxL nL n index k ci N : Nat} {ret : Option FieldType} {wd wd' : List Cond} {Qc : Array Value → State → Outcome → State → Prop} {free : Addr → Prop} {Ts : List Cond} {own C : String} {b : Nat} {As : List Value} {fs : List Value} {T : u_T} (F : CallFix p m c cc nL s args Ts own) (hM : Met l y wd (gRm k) (va_Pc (.ref b :: As) (gP G tys ws H.size)) Qc 0 0 free) (hG : GoodIn Ts (wsV own index C y wd)) (hw : wd = Cond.code y bytes maxL ret :: wd') (hd : y.cls = C ∧ y.cls ≠ "java/lang/invoke/MethodHandle" ∧ y.cls ≠ "java/lang/invoke/VarHandle" ∧ (parseMethodDescriptor y.desc).map (fun d => d.parameters.length) = some n) (hR : k + 1 ≤ R.frames ∧ 8 + (maxL + 11) + 100 * k ≤ R.locals) (hK : va_K G vwCl tys s) (hP : va_P G vwCl ws H) (hD : va_D A ws) (hX : gEX G A s) (hS : va_S A s.heap H locs) (hA : ∀ q, s.heap.size ≤ q → A q) (q0 : Nat) (he : ws[q0]? = some (b, .inr (ci, fs))) (hc : vwCl[ci]? = some (C, T, N)) (hn : As.length = n) (hsize : ls.size = nL) (hst : st0 = As.reverse ++ .ref b :: rest) (hW : (rest.map fun v => v.category).sum ≤ 8) (hdg : decode cc pc = .ok (.invokevirtual index, 3)) (hf : cells ≤ R.cells ∧ slots ≤ R.slots) : va_Run p l e R s m args below meth c H locs cells slots 0 0 (F0 m pc ls st0) rest (Qc (Value.ref b :: As).toArray) free :=
  va_runV F hM (cwV n F.2.2.2.2 hG hw rfl rfl hd hR) ⟨gP_blind, va_recv hK hP hc he, fun U hU hWm => ⟨rfl, by rw [hU], by rw [hU]; exact hP, va_K.moved hWm.alike hK, hD.weaken (fun _ _ _ _ => trivial), gEX_step hX hS hWm hU (gx_free hD hS hA)⟩⟩ rfl hn hsize hst (lv_room hW) hdg hf
theorem gx_runS {y : MethodName} {bytes : ByteArray} {maxL nL n index k : Nat} {ret : Option FieldType} {wd wd' : List Cond} {Qc : Array Value → State → Outcome → State → Prop} {free : Addr → Prop} {Ts : List Cond} {own : String} {As : List Value} (F : CallFix p m c cc nL s args Ts own) (hM : Met l y wd (gRm k) (va_Pc As (gP G tys ws H.size)) Qc 0 0 free) (hG : GoodIn Ts (wsS own index y wd)) (hw : wd = Cond.code y bytes maxL ret :: wd') (hd : y.cls = own ∧ y.cls ≠ "java/lang/invoke/MethodHandle" ∧ y.cls ≠ "java/lang/invoke/VarHandle" ∧ (parseMethodDescriptor y.desc).map (fun d => d.parameters.length) = some n) (hR : k + 1 ≤ R.frames ∧ 8 + (maxL + 11) + 100 * k ≤ R.locals) (hK : va_K G vwCl tys s) (hP : va_P G vwCl ws H) (hD : va_D A ws) (hX : gEX G A s) (hS : va_S A s.heap H locs) (hA : ∀ q, s.heap.size ≤ q → A q) (hn : As.length = n) (hsize : ls.size = nL) (hst : st0 = As.reverse ++ rest) (hW : (rest.map fun v => v.category).sum ≤ 8) (hdg : decode cc pc = .ok (.invokestatic index, 3)) (hf : cells ≤ R.cells ∧ slots ≤ R.slots) : va_Run p l e R s m args below meth c H locs cells slots 0 0 (F0 m pc ls st0) rest (Qc As.toArray) free :=
  va_runS F hM (cwS n F.2.2.2.2 hG hw rfl rfl hd hR) ⟨gP_blind, fun U hU hWm => ⟨rfl, by rw [hU], by rw [hU]; exact hP, va_K.moved hWm.alike hK, hD.weaken (fun _ _ _ _ => trivial), gEX_step hX hS hWm hU (gx_free hD hS hA)⟩⟩ rfl hn hsize hst (lv_room hW) hdg hf
theorem gx_nilP : va_P G vwCl [] H := fun k q h => by simp at h
theorem gx_nilD : va_D A [] := ⟨fun i j p q h => by simp at h, fun k q h => by simp at h⟩
theorem gx_runS0 {y : MethodName} {bytes : ByteArray} {maxL nL n index k : Nat} {ret : Option FieldType} {wd wd' : List Cond} {Qc : Array Value → State → Outcome → State → Prop} {free : Addr → Prop} {Ts : List Cond} {own : String} {As : List Value} (F : CallFix p m c cc nL s args Ts own) (hM : Met l y wd (gRm k) (va_Pc As (gP G tys [] H.size)) Qc 0 0 free) (hG : GoodIn Ts (wsS own index y wd)) (hw : wd = Cond.code y bytes maxL ret :: wd') (hd : y.cls = own ∧ y.cls ≠ "java/lang/invoke/MethodHandle" ∧ y.cls ≠ "java/lang/invoke/VarHandle" ∧ (parseMethodDescriptor y.desc).map (fun d => d.parameters.length) = some n) (hR : k + 1 ≤ R.frames ∧ 8 + (maxL + 11) + 100 * k ≤ R.locals) (hK : va_K G vwCl tys s) (hX : gEX G A s) (hS : va_S A s.heap H locs) (hA : ∀ q, s.heap.size ≤ q → A q) (hn : As.length = n) (hsize : ls.size = nL) (hst : st0 = As.reverse ++ rest) (hW : (rest.map fun v => v.category).sum ≤ 8) (hdg : decode cc pc = .ok (.invokestatic index, 3)) (hf : cells ≤ R.cells ∧ slots ≤ R.slots) : va_Run p l e R s m args below meth c H locs cells slots 0 0 (F0 m pc ls st0) rest (Qc As.toArray) free :=
  gx_runS F hM hG hw hd hR hK gx_nilP (gx_nilD (A := A)) hX hS hA hn hsize hst hW hdg hf
theorem gw_tret {S : Type} {post : Int32 → S → Prop} {w1 : S → va_W} {v : Int32} {ty : FieldType} (u : S) (hx : p.tables.exec = Jvm.exec) (hb : c.code = cc) (hr : meth.sig.returnType = some ty) (hlocks : meth.locks = false) (hv : narrow ty (.int v) = .int v) (hP : va_P G vwCl (w1 u) H) (hD : va_D A (w1 u)) (hS : va_S A s.heap H locs) (hp : post v u) (hdg : decode cc pc = .ok (.ireturn, 1)) : W p l e R s m args below meth c H locs cells slots (MQ below (va_Qi post (gB G w1 A) A) args s cells slots A) (F0 m pc ls [.int v]) :=
  W.zret hx hb hr hv (fun t ht _ => ⟨⟨v, u, rfl, hp, by rw [ht]; exact hP, hD⟩, hS.F ht⟩) hS.2.2 hdg hlocks
theorem gx_runSx0 {y : MethodName} {bytes : ByteArray} {maxL nL n index k : Nat} {ret : Option FieldType} {wd wd' : List Cond} {Qc : Array Value → State → Outcome → State → Prop} {free : Addr → Prop} {Ts : List Cond} {own : String} {As : List Value} (F : CallFix p m c cc nL s args Ts own) (hM : Met l y wd (gRm k) (va_Pc As (gP G tys [] H.size)) Qc 0 0 free) (hG : GoodIn Ts (va_wsS own index y wd)) (hw : wd = Cond.code y bytes maxL ret :: wd') (hd : y.cls ≠ "java/lang/invoke/MethodHandle" ∧ y.cls ≠ "java/lang/invoke/VarHandle" ∧ (parseMethodDescriptor y.desc).map (fun d => d.parameters.length) = some n) (hR : k + 1 ≤ R.frames ∧ 8 + (maxL + 11) + 100 * k ≤ R.locals) (hK : va_K G vwCl tys s) (hX : gEX G A s) (hS : va_S A s.heap H locs) (hA : ∀ q, s.heap.size ≤ q → A q) (hn : As.length = n) (hsize : ls.size = nL) (hst : st0 = As.reverse ++ rest) (hW : (rest.map fun v => v.category).sum ≤ 8) (hdg : decode cc pc = .ok (.invokestatic index, 3)) (hf : cells ≤ R.cells ∧ slots ≤ R.slots) : va_Run p l e R s m args below meth c H locs cells slots 0 0 (F0 m pc ls st0) rest (Qc As.toArray) free :=
  va_runS F hM (va_cwS n F.2.2.2.2 hG hw rfl rfl hd hR) ⟨gP_blind, fun U hU hWm => ⟨rfl, by rw [hU], gx_nilP, va_K.moved hWm.alike hK, gx_nilD, gEX_step hX hS hWm hU (gx_free (gx_nilD (A := A)) hS hA)⟩⟩ rfl hn hsize hst (lv_room hW) hdg hf
theorem gx_runV0 {y : MethodName} {bytes : ByteArray} {maxL nL n index k : Nat} {ret : Option FieldType} {wd wd' : List Cond} {Qc : Array Value → State → Outcome → State → Prop} {free : Addr → Prop} {Ts : List Cond} {own C : String} {b : Nat} {As : List Value} (F : CallFix p m c cc nL s args Ts own) (hM : Met l y wd (gRm k) (va_Pc (.ref b :: As) (gP G tys [] H.size)) Qc 0 0 free) (hG : GoodIn Ts (wsV own index C y wd)) (hw : wd = Cond.code y bytes maxL ret :: wd') (hd : y.cls = C ∧ y.cls ≠ "java/lang/invoke/MethodHandle" ∧ y.cls ≠ "java/lang/invoke/VarHandle" ∧ (parseMethodDescriptor y.desc).map (fun d => d.parameters.length) = some n) (hR : k + 1 ≤ R.frames ∧ 8 + (maxL + 11) + 100 * k ≤ R.locals) (hK : va_K G vwCl tys s) (hX : gEX G A s) (hS : va_S A s.heap H locs) (hA : ∀ q, s.heap.size ≤ q → A q) (hrec : ∃ cellB : Cell, H[b]? = some cellB ∧ cellB.vm.isStatics = false ∧ s.vm.findClass C = some cellB.cls) (hn : As.length = n) (hsize : ls.size = nL) (hst : st0 = As.reverse ++ .ref b :: rest) (hW : (rest.map fun v => v.category).sum ≤ 8) (hdg : decode cc pc = .ok (.invokevirtual index, 3)) (hf : cells ≤ R.cells ∧ slots ≤ R.slots) : va_Run p l e R s m args below meth c H locs cells slots 0 0 (F0 m pc ls st0) rest (Qc (Value.ref b :: As).toArray) free :=
  va_runV F hM (cwV n F.2.2.2.2 hG hw rfl rfl hd hR) ⟨gP_blind, hrec, fun U hU hWm => ⟨rfl, by rw [hU], gx_nilP, va_K.moved hWm.alike hK, gx_nilD, gEX_step hX hS hWm hU (gx_free (gx_nilD (A := A)) hS hA)⟩⟩ rfl hn hsize hst (lv_room hW) hdg hf
theorem gx_runSN0 {y : MethodName} {bytes : ByteArray} {maxL nL n index k : Nat} {ret : Option FieldType} {wd wd' : List Cond} {Qc : Array Value → State → Outcome → State → Prop} {free : Addr → Prop} {Ts : List Cond} {own host : String} {As : List Value} (F : CallFix p m c cc nL s args Ts own) (hM : Met l y wd (gRm k) (va_Pc As (gP G tys [] H.size)) Qc 0 0 free) (hG : GoodIn Ts wd) (hw : wd = Cond.code y bytes maxL ret :: wd') (hlk : va_Nw (.methodLinkNest own index y host) s) (hini : (Cond.initialized y.cls).before args s = true) (hstat : (Cond.static y).before args s = true) (hd : y.cls ≠ "java/lang/invoke/MethodHandle" ∧ y.cls ≠ "java/lang/invoke/VarHandle" ∧ (parseMethodDescriptor y.desc).map (fun d => d.parameters.length) = some n) (hR : k + 1 ≤ R.frames ∧ 8 + (maxL + 11) + 100 * k ≤ R.locals) (hK : va_K G vwCl tys s) (hX : gEX G A s) (hS : va_S A s.heap H locs) (hA : ∀ q, s.heap.size ≤ q → A q) (hn : As.length = n) (hsize : ls.size = nL) (hst : st0 = As.reverse ++ rest) (hW : (rest.map fun v => v.category).sum ≤ 8) (hdg : decode cc pc = .ok (.invokestatic index, 3)) (hf : cells ≤ R.cells ∧ slots ≤ R.slots) : va_Run p l e R s m args below meth c H locs cells slots 0 0 (F0 m pc ls st0) rest (Qc As.toArray) free :=
  va_runSN F hM ⟨va_cnB n F.2.2.2.2 hG hw rfl rfl hlk hini hd hR, hstat, trivial⟩ ⟨gP_blind, fun U hU hWm => ⟨rfl, by rw [hU], gx_nilP, va_K.moved hWm.alike hK, gx_nilD, gEX_step hX hS hWm hU (gx_free (gx_nilD (A := A)) hS hA)⟩⟩ rfl hn hsize hst (lv_room hW) hdg hf
theorem gx_callq {S : Type} {post : Option Nat → S → Prop} {w1 : S → va_W} {a : Array Value} (run : va_Run p l e R s m args below meth c H locs cells slots 0 0 (F0 m pc ls st0) rest (va_Qq post (gB G w1 (va_A ws H.size)) (va_A ws H.size) a) (va_A ws H.size)) (hP : va_P G vwCl ws H) (hD : va_D A ws) (hS : va_S A H0 H locs) (hA : ∀ q, H0.size ≤ q → A q)
    (kk : ∀ (r : Option Nat) (u : S) (H1 : Heap) (locs1 : List Loc), post r u → va_P G vwCl (w1 u) H1 → va_D A (w1 u) → va_S A H0 H1 locs1 → W p l e R s m args below meth c H1 locs1 cells slots Q (F0 m (pc + 3) ls (va_rf r :: rest))) : W p l e R s m args below meth c H locs cells slots Q (F0 m pc ls st0) := by
  have hF := gx_free hD hS hA
  refine va_callq run hS (fun q _ h => hF q h) hF (fun r u t H1 locs1 ht hvm hw hB hz hk hS1 => ?_)
  obtain ⟨hP1, hD1⟩ := hB
  rw [ht] at hP1
  exact kk r u H1 locs1 hw hP1 (hD1.weaken (fun _ _ _ h => hF _ h)) hS1
theorem gx_calli {S : Type} {post : Int32 → S → Prop} {w1 : S → va_W} {a : Array Value} (run : va_Run p l e R s m args below meth c H locs cells slots 0 0 (F0 m pc ls st0) rest (va_Qi post (gB G w1 (va_A ws H.size)) (va_A ws H.size) a) (va_A ws H.size)) (hP : va_P G vwCl ws H) (hD : va_D A ws) (hS : va_S A H0 H locs) (hA : ∀ q, H0.size ≤ q → A q)
    (kk : ∀ (r : Int32) (u : S) (H1 : Heap) (locs1 : List Loc), post r u → va_P G vwCl (w1 u) H1 → va_D A (w1 u) → va_S A H0 H1 locs1 → W p l e R s m args below meth c H1 locs1 cells slots Q (F0 m (pc + 3) ls (.int r :: rest))) : W p l e R s m args below meth c H locs cells slots Q (F0 m pc ls st0) := by
  have hF := gx_free hD hS hA
  refine va_calli run hS (fun q _ h => hF q h) hF (fun r u t H1 locs1 ht hvm hw hB hz hk hS1 => ?_)
  obtain ⟨hP1, hD1⟩ := hB
  rw [ht] at hP1
  exact kk r u H1 locs1 hw hP1 (hD1.weaken (fun _ _ _ h => hF _ h)) hS1
theorem gx_calli0 {S : Type} {post : Int32 → S → Prop} {w1 : S → va_W} {a : Array Value} (run : va_Run p l e R s m args below meth c H locs cells slots 0 0 (F0 m pc ls st0) rest (va_Qi post (gB G w1 (va_A [] H.size)) (va_A [] H.size) a) (va_A [] H.size)) (hP : va_P G vwCl ws H) (hD : va_D A ws) (hS : va_S A H0 H locs) (hA : ∀ q, H0.size ≤ q → A q)
    (kk : ∀ (r : Int32) (u : S) (H1 : Heap) (locs1 : List Loc), post r u → va_P G vwCl ws H1 → va_D A ws → va_S A H0 H1 locs1 → W p l e R s m args below meth c H1 locs1 cells slots Q (F0 m (pc + 3) ls (.int r :: rest))) : W p l e R s m args below meth c H locs cells slots Q (F0 m pc ls st0) := by
  have hF := gx_free (gx_nilD (A := A)) hS hA
  refine va_calli run hS (fun q _ h => hF q h) hF (fun r u t H1 locs1 ht hvm hw hB hz hk hS1 => ?_)
  refine kk r u H1 locs1 hw (hP.kept (fun k x hx => hk x.1 ((hP k x hx).lt) ?_)) hD hS1
  intro h
  rcases h with ⟨k, e, h⟩ | h
  · simp at h
  · exact absurd ((hP _ x hx).lt) (Nat.not_lt.mpr h)
theorem gx_calll {S : Type} {post : Int64 → S → Prop} {w1 : S → va_W} {a : Array Value} (run : va_Run p l e R s m args below meth c H locs cells slots 0 0 (F0 m pc ls st0) rest (va_Ql post (gB G w1 (va_A ws H.size)) (va_A ws H.size) a) (va_A ws H.size)) (hP : va_P G vwCl ws H) (hD : va_D A ws) (hS : va_S A H0 H locs) (hA : ∀ q, H0.size ≤ q → A q)
    (kk : ∀ (r : Int64) (u : S) (H1 : Heap) (locs1 : List Loc), post r u → va_P G vwCl (w1 u) H1 → va_D A (w1 u) → va_S A H0 H1 locs1 → W p l e R s m args below meth c H1 locs1 cells slots Q (F0 m (pc + 3) ls (.long r :: rest))) : W p l e R s m args below meth c H locs cells slots Q (F0 m pc ls st0) := by
  have hF := gx_free hD hS hA
  refine va_calll run hS (fun q _ h => hF q h) hF (fun r u t H1 locs1 ht hvm hw hB hz hk hS1 => ?_)
  obtain ⟨hP1, hD1⟩ := hB
  rw [ht] at hP1
  exact kk r u H1 locs1 hw hP1 (hD1.weaken (fun _ _ _ h => hF _ h)) hS1
theorem gx_calll0 {S : Type} {post : Int64 → S → Prop} {w1 : S → va_W} {a : Array Value} (run : va_Run p l e R s m args below meth c H locs cells slots 0 0 (F0 m pc ls st0) rest (va_Ql post (gB G w1 (va_A [] H.size)) (va_A [] H.size) a) (va_A [] H.size)) (hP : va_P G vwCl ws H) (hD : va_D A ws) (hS : va_S A H0 H locs) (hA : ∀ q, H0.size ≤ q → A q)
    (kk : ∀ (r : Int64) (u : S) (H1 : Heap) (locs1 : List Loc), post r u → va_P G vwCl ws H1 → va_D A ws → va_S A H0 H1 locs1 → W p l e R s m args below meth c H1 locs1 cells slots Q (F0 m (pc + 3) ls (.long r :: rest))) : W p l e R s m args below meth c H locs cells slots Q (F0 m pc ls st0) := by
  have hF := gx_free (gx_nilD (A := A)) hS hA
  refine va_calll run hS (fun q _ h => hF q h) hF (fun r u t H1 locs1 ht hvm hw hB hz hk hS1 => ?_)
  refine kk r u H1 locs1 hw (hP.kept (fun k x hx => hk x.1 ((hP k x hx).lt) ?_)) hD hS1
  intro h
  rcases h with ⟨k, e, h⟩ | h
  · simp at h
  · exact absurd ((hP _ x hx).lt) (Nat.not_lt.mpr h)
theorem gx_callv {S : Type} {post : S → Prop} {w1 : S → va_W} {a : Array Value} (run : va_Run p l e R s m args below meth c H locs cells slots 0 0 (F0 m pc ls st0) rest (va_Qv post (gB G w1 (va_A ws H.size)) (va_A ws H.size) a) (va_A ws H.size)) (hP : va_P G vwCl ws H) (hD : va_D A ws) (hS : va_S A H0 H locs) (hA : ∀ q, H0.size ≤ q → A q)
    (kk : ∀ (u : S) (H1 : Heap) (locs1 : List Loc), post u → va_P G vwCl (w1 u) H1 → va_D A (w1 u) → va_S A H0 H1 locs1 → W p l e R s m args below meth c H1 locs1 cells slots Q (F0 m (pc + 3) ls (rest))) : W p l e R s m args below meth c H locs cells slots Q (F0 m pc ls st0) := by
  have hF := gx_free hD hS hA
  refine va_callv run hS (fun q _ h => hF q h) hF (fun u t H1 locs1 ht hvm hw hB hz hk hS1 => ?_)
  obtain ⟨hP1, hD1⟩ := hB
  rw [ht] at hP1
  exact kk u H1 locs1 hw hP1 (hD1.weaken (fun _ _ _ h => hF _ h)) hS1
theorem gx_callv0 {S : Type} {post : S → Prop} {w1 : S → va_W} {a : Array Value} (run : va_Run p l e R s m args below meth c H locs cells slots 0 0 (F0 m pc ls st0) rest (va_Qv post (gB G w1 (va_A [] H.size)) (va_A [] H.size) a) (va_A [] H.size)) (hP : va_P G vwCl ws H) (hD : va_D A ws) (hS : va_S A H0 H locs) (hA : ∀ q, H0.size ≤ q → A q)
    (kk : ∀ (u : S) (H1 : Heap) (locs1 : List Loc), post u → va_P G vwCl ws H1 → va_D A ws → va_S A H0 H1 locs1 → W p l e R s m args below meth c H1 locs1 cells slots Q (F0 m (pc + 3) ls (rest))) : W p l e R s m args below meth c H locs cells slots Q (F0 m pc ls st0) := by
  have hF := gx_free (gx_nilD (A := A)) hS hA
  refine va_callv run hS (fun q _ h => hF q h) hF (fun u t H1 locs1 ht hvm hw hB hz hk hS1 => ?_)
  refine kk u H1 locs1 hw (hP.kept (fun k x hx => hk x.1 ((hP k x hx).lt) ?_)) hD hS1
  intro h
  rcases h with ⟨k, e, h⟩ | h
  · simp at h
  · exact absurd ((hP _ x hx).lt) (Nat.not_lt.mpr h)
end GX
/-! a row an opcode: what decode answers, out of the bytes alone -/
noncomputable def ubl (l : List UInt8) (p : Nat) : Nat := List.rec (motive := fun _ => Nat → Nat) (fun _ => 256) (fun x _ ih p => Nat.rec (motive := fun _ => Nat) x.toNat (fun q _ => ih q) p) l p
theorem ubl_eq (l : List UInt8) : ∀ p : Nat, ubl l p = (match l[p]? with
  | some x => x.toNat
  | none => 256) := by
  induction l with
  | nil => intro p; rw [List.getElem?_nil]; rfl
  | cons x t ih =>
    intro p
    cases p with
    | zero => rw [List.getElem?_cons_zero]; rfl
    | succ q => rw [List.getElem?_cons_succ]; exact ih q
noncomputable def ub (c : ByteArray) (p : Nat) : Nat := ubl c.data.toList p
theorem ub_u1 {c : ByteArray} {p b : Nat} (h : ub c p = b) (hb : b < 256) : (Reader.u1 : Decoder Nat) c p = .ok (b, p + 1) := by
  have e : (Reader.u1 : Decoder Nat) c p = (if h : p < c.size then .ok (c[p].toNat, p + 1) else .error (HasTruncated.truncated p)) := by
    show (do if h : p < c.size then do set (p + 1); Pure.pure c[p].toNat else MonadExcept.throw (HasTruncated.truncated p) : Decoder Nat) c p = _
    by_cases hi : p < c.size
    · rw [dif_pos hi, dif_pos hi]; rfl
    · rw [dif_neg hi, dif_neg hi]; rfl
  unfold ub at h
  rw [ubl_eq] at h
  cases hx : c.data.toList[p]? with
  | none => rw [hx] at h; have h : 256 = b := h; omega
  | some x =>
    rw [hx] at h
    have h : x.toNat = b := h
    obtain ⟨h1, h2⟩ := List.getElem?_eq_some_iff.mp hx
    have hs : p < c.size := by simpa using h1
    have hc : c[p] = x := h2
    rw [e, dif_pos hs, hc, h]
theorem dk_bind {α β : Type} {r : Decoder α} {f : α → Decoder β} {c : ByteArray} {p s : Nat} {a : α} {y : Except DecodeError (β × Nat)} (h : r c p = .ok (a, s)) (g : f a c s = y) : (r >>= f) c p = y := by
  show (do let (a, s) ← r c p; f a c s : Except DecodeError (β × Nat)) = y
  rw [h]; exact g
theorem dk_map {α β : Type} {r : Decoder α} {f : α → β} {c : ByteArray} {p s : Nat} {a : α} (h : r c p = .ok (a, s)) : (f <$> r) c p = .ok (f a, s) := by
  show (do let (a, s) ← r c p; .ok (f a, s) : Except DecodeError (β × Nat)) = _
  rw [h]; rfl
theorem dk_of {c : ByteArray} {p n : Nat} {i : Instr} (h : Decoder.instr p c p = .ok (i, p + n)) : decode c p = .ok (i, n) := by
  show (do let (i, s) ← Decoder.instr p c p; .ok (i, s - p) : Except DecodeError (Instr × Nat)) = _
  rw [h]
  show Except.ok (i, p + n - p) = _
  rw [Nat.add_sub_cancel_left]
noncomputable def ck0 (c : ByteArray) (p k : Nat) : Bool := Nat.beq (ub c p) k
noncomputable def ck1 (c : ByteArray) (p k a : Nat) : Bool := Nat.beq (ub c p) k && (Nat.blt a 256 && Nat.beq (ub c (p + 1)) a)
noncomputable def ck1s (c : ByteArray) (p k : Nat) (v : Int) : Bool := Nat.beq (ub c p) k && (Nat.blt (ub c (p + 1)) 256 && decide (Reader.signed 8 (ub c (p + 1)) = v))
noncomputable def ck2 (c : ByteArray) (p k n : Nat) : Bool := Nat.beq (ub c p) k && (Nat.blt (ub c (p + 1)) 256 && (Nat.blt (ub c (p + 2)) 256 && Nat.beq (ub c (p + 1) * 256 + ub c (p + 2)) n))
noncomputable def ck2s (c : ByteArray) (p k : Nat) (v : Int) : Bool := Nat.beq (ub c p) k && (Nat.blt (ub c (p + 1)) 256 && (Nat.blt (ub c (p + 2)) 256 && decide (Reader.signed 16 (ub c (p + 1) * 256 + ub c (p + 2)) = v)))
noncomputable def cki (c : ByteArray) (p a : Nat) (v : Int) : Bool := ck1 c p 132 a && (Nat.blt (ub c (p + 2)) 256 && decide (Reader.signed 8 (ub c (p + 2)) = v))
theorem ck_and {a b : Bool} (h : (a && b) = true) : a = true ∧ b = true := by cases a <;> cases b <;> first | exact ⟨rfl, rfl⟩ | cases h
theorem ck_lt {a b : Nat} (h : Nat.blt a b = true) : a < b := Nat.le_of_ble_eq_true h
theorem ck0_u {c : ByteArray} {p k : Nat} (h : ck0 c p k = true) (hk : k < 256) : (Reader.u1 : Decoder Nat) c p = .ok (k, p + 1) := ub_u1 (Nat.eq_of_beq_eq_true h) hk
theorem ck1_u {c : ByteArray} {p k a : Nat} (h : ck1 c p k a = true) (hk : k < 256) : (Reader.u1 : Decoder Nat) c p = .ok (k, p + 1) ∧ (Reader.u1 : Decoder Nat) c (p + 1) = .ok (a, p + 2) := by
  obtain ⟨h1, h2⟩ := ck_and h
  obtain ⟨h2, h3⟩ := ck_and h2
  exact ⟨ck0_u h1 hk, ub_u1 (Nat.eq_of_beq_eq_true h3) (ck_lt h2)⟩
theorem ck1s_u {c : ByteArray} {p k : Nat} {v : Int} (h : ck1s c p k v = true) (hk : k < 256) : (Reader.u1 : Decoder Nat) c p = .ok (k, p + 1) ∧ (Reader.s1 : Decoder Int) c (p + 1) = .ok (v, p + 2) := by
  obtain ⟨h1, h2⟩ := ck_and h
  obtain ⟨h2, h3⟩ := ck_and h2
  have h3 : Reader.signed 8 (ub c (p + 1)) = v := of_decide_eq_true h3
  refine ⟨ck0_u h1 hk, ?_⟩
  have e := dk_map (f := Reader.signed 8) (ub_u1 (c := c) (p := p + 1) rfl (ck_lt h2))
  rw [h3] at e
  exact e
theorem ck2_w {c : ByteArray} {p : Nat} (h1 : Nat.blt (ub c (p + 1)) 256 = true) (h2 : Nat.blt (ub c (p + 2)) 256 = true) : (Reader.u2 : Decoder Nat) c (p + 1) = .ok (ub c (p + 1) * 256 + ub c (p + 2), p + 3) := dk_bind (ub_u1 rfl (ck_lt h1)) (dk_bind (ub_u1 (c := c) (p := p + 2) rfl (ck_lt h2)) rfl)
theorem ck2_u {c : ByteArray} {p k n : Nat} (h : ck2 c p k n = true) (hk : k < 256) : (Reader.u1 : Decoder Nat) c p = .ok (k, p + 1) ∧ (Reader.u2 : Decoder Nat) c (p + 1) = .ok (n, p + 3) := by
  obtain ⟨h1, h2⟩ := ck_and h
  obtain ⟨h2, h3⟩ := ck_and h2
  obtain ⟨h3, h4⟩ := ck_and h3
  have e := ck2_w h2 h3
  rw [Nat.eq_of_beq_eq_true h4] at e
  exact ⟨ck0_u h1 hk, e⟩
theorem ck2s_u {c : ByteArray} {p k : Nat} {v : Int} (h : ck2s c p k v = true) (hk : k < 256) : (Reader.u1 : Decoder Nat) c p = .ok (k, p + 1) ∧ (Reader.s2 : Decoder Int) c (p + 1) = .ok (v, p + 3) := by
  obtain ⟨h1, h2⟩ := ck_and h
  obtain ⟨h2, h3⟩ := ck_and h2
  obtain ⟨h3, h4⟩ := ck_and h3
  have h4 : Reader.signed 16 (ub c (p + 1) * 256 + ub c (p + 2)) = v := of_decide_eq_true h4
  have e := dk_map (f := Reader.signed 16) (ck2_w h2 h3)
  rw [h4] at e
  exact ⟨ck0_u h1 hk, e⟩
theorem dk_1 {c : ByteArray} {p : Nat} (h : ck0 c p 1 = true) : decode c p = .ok (.aconst_null, 1) := by
  refine dk_of ?_
  unfold Decoder.instr
  exact dk_bind (ck0_u h (by decide)) rfl
theorem dk_2 {c : ByteArray} {p : Nat} (h : ck0 c p 2 = true) : decode c p = .ok (.iconst (-1), 1) := by
  refine dk_of ?_
  unfold Decoder.instr
  exact dk_bind (ck0_u h (by decide)) rfl
theorem dk_3 {c : ByteArray} {p : Nat} (h : ck0 c p 3 = true) : decode c p = .ok (.iconst 0, 1) := by
  refine dk_of ?_
  unfold Decoder.instr
  exact dk_bind (ck0_u h (by decide)) rfl
theorem dk_188_4 {c : ByteArray} {p : Nat} (h : ck1 c p 188 4 = true) : decode c p = .ok (.newarray .boolean, 2) := by
  refine dk_of ?_
  unfold Decoder.instr
  exact dk_bind (ck1_u h (by decide)).1 (dk_bind (ck1_u h (by decide)).2 rfl)
theorem dk_4 {c : ByteArray} {p : Nat} (h : ck0 c p 4 = true) : decode c p = .ok (.iconst 1, 1) := by
  refine dk_of ?_
  unfold Decoder.instr
  exact dk_bind (ck0_u h (by decide)) rfl
theorem dk_5 {c : ByteArray} {p : Nat} (h : ck0 c p 5 = true) : decode c p = .ok (.iconst 2, 1) := by
  refine dk_of ?_
  unfold Decoder.instr
  exact dk_bind (ck0_u h (by decide)) rfl
theorem dk_6 {c : ByteArray} {p : Nat} (h : ck0 c p 6 = true) : decode c p = .ok (.iconst 3, 1) := by
  refine dk_of ?_
  unfold Decoder.instr
  exact dk_bind (ck0_u h (by decide)) rfl
theorem dk_7 {c : ByteArray} {p : Nat} (h : ck0 c p 7 = true) : decode c p = .ok (.iconst 4, 1) := by
  refine dk_of ?_
  unfold Decoder.instr
  exact dk_bind (ck0_u h (by decide)) rfl
theorem dk_188_8 {c : ByteArray} {p : Nat} (h : ck1 c p 188 8 = true) : decode c p = .ok (.newarray .byte, 2) := by
  refine dk_of ?_
  unfold Decoder.instr
  exact dk_bind (ck1_u h (by decide)).1 (dk_bind (ck1_u h (by decide)).2 rfl)
theorem dk_8 {c : ByteArray} {p : Nat} (h : ck0 c p 8 = true) : decode c p = .ok (.iconst 5, 1) := by
  refine dk_of ?_
  unfold Decoder.instr
  exact dk_bind (ck0_u h (by decide)) rfl
theorem dk_9 {c : ByteArray} {p : Nat} (h : ck0 c p 9 = true) : decode c p = .ok (.lconst 0, 1) := by
  refine dk_of ?_
  unfold Decoder.instr
  exact dk_bind (ck0_u h (by decide)) rfl
theorem dk_188_10 {c : ByteArray} {p : Nat} (h : ck1 c p 188 10 = true) : decode c p = .ok (.newarray .int, 2) := by
  refine dk_of ?_
  unfold Decoder.instr
  exact dk_bind (ck1_u h (by decide)).1 (dk_bind (ck1_u h (by decide)).2 rfl)
theorem dk_10 {c : ByteArray} {p : Nat} (h : ck0 c p 10 = true) : decode c p = .ok (.lconst 1, 1) := by
  refine dk_of ?_
  unfold Decoder.instr
  exact dk_bind (ck0_u h (by decide)) rfl
theorem dk_188_11 {c : ByteArray} {p : Nat} (h : ck1 c p 188 11 = true) : decode c p = .ok (.newarray .long, 2) := by
  refine dk_of ?_
  unfold Decoder.instr
  exact dk_bind (ck1_u h (by decide)).1 (dk_bind (ck1_u h (by decide)).2 rfl)
theorem dk_16 {c : ByteArray} {p : Nat} {v : Int} (h : ck1s c p 16 v = true) : decode c p = .ok (.bipush v, 2) := by
  refine dk_of ?_
  unfold Decoder.instr
  exact dk_bind (ck1s_u h (by decide)).1 (dk_bind (ck1s_u h (by decide)).2 rfl)
theorem dk_17 {c : ByteArray} {p : Nat} {v : Int} (h : ck2s c p 17 v = true) : decode c p = .ok (.sipush v, 3) := by
  refine dk_of ?_
  unfold Decoder.instr
  exact dk_bind (ck2s_u h (by decide)).1 (dk_bind (ck2s_u h (by decide)).2 rfl)
theorem dk_18 {c : ByteArray} {p n : Nat} (h : ck1 c p 18 n = true) : decode c p = .ok (.ldc n, 2) := by
  refine dk_of ?_
  unfold Decoder.instr
  exact dk_bind (ck1_u h (by decide)).1 (dk_bind (ck1_u h (by decide)).2 rfl)
theorem dk_20 {c : ByteArray} {p n : Nat} (h : ck2 c p 20 n = true) : decode c p = .ok (.ldc2_w n, 3) := by
  refine dk_of ?_
  unfold Decoder.instr
  exact dk_bind (ck2_u h (by decide)).1 (dk_bind (ck2_u h (by decide)).2 rfl)
theorem dk_21 {c : ByteArray} {p n : Nat} (h : ck1 c p 21 n = true) : decode c p = .ok (.iload n, 2) := by
  refine dk_of ?_
  unfold Decoder.instr
  exact dk_bind (ck1_u h (by decide)).1 (dk_bind (ck1_u h (by decide)).2 rfl)
theorem dk_22 {c : ByteArray} {p n : Nat} (h : ck1 c p 22 n = true) : decode c p = .ok (.lload n, 2) := by
  refine dk_of ?_
  unfold Decoder.instr
  exact dk_bind (ck1_u h (by decide)).1 (dk_bind (ck1_u h (by decide)).2 rfl)
theorem dk_26 {c : ByteArray} {p : Nat} (h : ck0 c p 26 = true) : decode c p = .ok (.iload_n 0, 1) := by
  refine dk_of ?_
  unfold Decoder.instr
  exact dk_bind (ck0_u h (by decide)) rfl
theorem dk_27 {c : ByteArray} {p : Nat} (h : ck0 c p 27 = true) : decode c p = .ok (.iload_n 1, 1) := by
  refine dk_of ?_
  unfold Decoder.instr
  exact dk_bind (ck0_u h (by decide)) rfl
theorem dk_28 {c : ByteArray} {p : Nat} (h : ck0 c p 28 = true) : decode c p = .ok (.iload_n 2, 1) := by
  refine dk_of ?_
  unfold Decoder.instr
  exact dk_bind (ck0_u h (by decide)) rfl
theorem dk_29 {c : ByteArray} {p : Nat} (h : ck0 c p 29 = true) : decode c p = .ok (.iload_n 3, 1) := by
  refine dk_of ?_
  unfold Decoder.instr
  exact dk_bind (ck0_u h (by decide)) rfl
theorem dk_30 {c : ByteArray} {p : Nat} (h : ck0 c p 30 = true) : decode c p = .ok (.lload_n 0, 1) := by
  refine dk_of ?_
  unfold Decoder.instr
  exact dk_bind (ck0_u h (by decide)) rfl
theorem dk_31 {c : ByteArray} {p : Nat} (h : ck0 c p 31 = true) : decode c p = .ok (.lload_n 1, 1) := by
  refine dk_of ?_
  unfold Decoder.instr
  exact dk_bind (ck0_u h (by decide)) rfl
theorem dk_32 {c : ByteArray} {p : Nat} (h : ck0 c p 32 = true) : decode c p = .ok (.lload_n 2, 1) := by
  refine dk_of ?_
  unfold Decoder.instr
  exact dk_bind (ck0_u h (by decide)) rfl
theorem dk_33 {c : ByteArray} {p : Nat} (h : ck0 c p 33 = true) : decode c p = .ok (.lload_n 3, 1) := by
  refine dk_of ?_
  unfold Decoder.instr
  exact dk_bind (ck0_u h (by decide)) rfl
theorem dk_42 {c : ByteArray} {p : Nat} (h : ck0 c p 42 = true) : decode c p = .ok (.aload_n 0, 1) := by
  refine dk_of ?_
  unfold Decoder.instr
  exact dk_bind (ck0_u h (by decide)) rfl
theorem dk_43 {c : ByteArray} {p : Nat} (h : ck0 c p 43 = true) : decode c p = .ok (.aload_n 1, 1) := by
  refine dk_of ?_
  unfold Decoder.instr
  exact dk_bind (ck0_u h (by decide)) rfl
theorem dk_44 {c : ByteArray} {p : Nat} (h : ck0 c p 44 = true) : decode c p = .ok (.aload_n 2, 1) := by
  refine dk_of ?_
  unfold Decoder.instr
  exact dk_bind (ck0_u h (by decide)) rfl
theorem dk_45 {c : ByteArray} {p : Nat} (h : ck0 c p 45 = true) : decode c p = .ok (.aload_n 3, 1) := by
  refine dk_of ?_
  unfold Decoder.instr
  exact dk_bind (ck0_u h (by decide)) rfl
theorem dk_46 {c : ByteArray} {p : Nat} (h : ck0 c p 46 = true) : decode c p = .ok (.iaload, 1) := by
  refine dk_of ?_
  unfold Decoder.instr
  exact dk_bind (ck0_u h (by decide)) rfl
theorem dk_47 {c : ByteArray} {p : Nat} (h : ck0 c p 47 = true) : decode c p = .ok (.laload, 1) := by
  refine dk_of ?_
  unfold Decoder.instr
  exact dk_bind (ck0_u h (by decide)) rfl
theorem dk_50 {c : ByteArray} {p : Nat} (h : ck0 c p 50 = true) : decode c p = .ok (.aaload, 1) := by
  refine dk_of ?_
  unfold Decoder.instr
  exact dk_bind (ck0_u h (by decide)) rfl
theorem dk_51 {c : ByteArray} {p : Nat} (h : ck0 c p 51 = true) : decode c p = .ok (.baload, 1) := by
  refine dk_of ?_
  unfold Decoder.instr
  exact dk_bind (ck0_u h (by decide)) rfl
theorem dk_54 {c : ByteArray} {p n : Nat} (h : ck1 c p 54 n = true) : decode c p = .ok (.istore n, 2) := by
  refine dk_of ?_
  unfold Decoder.instr
  exact dk_bind (ck1_u h (by decide)).1 (dk_bind (ck1_u h (by decide)).2 rfl)
theorem dk_55 {c : ByteArray} {p n : Nat} (h : ck1 c p 55 n = true) : decode c p = .ok (.lstore n, 2) := by
  refine dk_of ?_
  unfold Decoder.instr
  exact dk_bind (ck1_u h (by decide)).1 (dk_bind (ck1_u h (by decide)).2 rfl)
theorem dk_60 {c : ByteArray} {p : Nat} (h : ck0 c p 60 = true) : decode c p = .ok (.istore_n 1, 1) := by
  refine dk_of ?_
  unfold Decoder.instr
  exact dk_bind (ck0_u h (by decide)) rfl
theorem dk_61 {c : ByteArray} {p : Nat} (h : ck0 c p 61 = true) : decode c p = .ok (.istore_n 2, 1) := by
  refine dk_of ?_
  unfold Decoder.instr
  exact dk_bind (ck0_u h (by decide)) rfl
theorem dk_62 {c : ByteArray} {p : Nat} (h : ck0 c p 62 = true) : decode c p = .ok (.istore_n 3, 1) := by
  refine dk_of ?_
  unfold Decoder.instr
  exact dk_bind (ck0_u h (by decide)) rfl
theorem dk_64 {c : ByteArray} {p : Nat} (h : ck0 c p 64 = true) : decode c p = .ok (.lstore_n 1, 1) := by
  refine dk_of ?_
  unfold Decoder.instr
  exact dk_bind (ck0_u h (by decide)) rfl
theorem dk_65 {c : ByteArray} {p : Nat} (h : ck0 c p 65 = true) : decode c p = .ok (.lstore_n 2, 1) := by
  refine dk_of ?_
  unfold Decoder.instr
  exact dk_bind (ck0_u h (by decide)) rfl
theorem dk_66 {c : ByteArray} {p : Nat} (h : ck0 c p 66 = true) : decode c p = .ok (.lstore_n 3, 1) := by
  refine dk_of ?_
  unfold Decoder.instr
  exact dk_bind (ck0_u h (by decide)) rfl
theorem dk_76 {c : ByteArray} {p : Nat} (h : ck0 c p 76 = true) : decode c p = .ok (.astore_n 1, 1) := by
  refine dk_of ?_
  unfold Decoder.instr
  exact dk_bind (ck0_u h (by decide)) rfl
theorem dk_77 {c : ByteArray} {p : Nat} (h : ck0 c p 77 = true) : decode c p = .ok (.astore_n 2, 1) := by
  refine dk_of ?_
  unfold Decoder.instr
  exact dk_bind (ck0_u h (by decide)) rfl
theorem dk_78 {c : ByteArray} {p : Nat} (h : ck0 c p 78 = true) : decode c p = .ok (.astore_n 3, 1) := by
  refine dk_of ?_
  unfold Decoder.instr
  exact dk_bind (ck0_u h (by decide)) rfl
theorem dk_79 {c : ByteArray} {p : Nat} (h : ck0 c p 79 = true) : decode c p = .ok (.iastore, 1) := by
  refine dk_of ?_
  unfold Decoder.instr
  exact dk_bind (ck0_u h (by decide)) rfl
theorem dk_80 {c : ByteArray} {p : Nat} (h : ck0 c p 80 = true) : decode c p = .ok (.lastore, 1) := by
  refine dk_of ?_
  unfold Decoder.instr
  exact dk_bind (ck0_u h (by decide)) rfl
theorem dk_83 {c : ByteArray} {p : Nat} (h : ck0 c p 83 = true) : decode c p = .ok (.aastore, 1) := by
  refine dk_of ?_
  unfold Decoder.instr
  exact dk_bind (ck0_u h (by decide)) rfl
theorem dk_84 {c : ByteArray} {p : Nat} (h : ck0 c p 84 = true) : decode c p = .ok (.bastore, 1) := by
  refine dk_of ?_
  unfold Decoder.instr
  exact dk_bind (ck0_u h (by decide)) rfl
theorem dk_87 {c : ByteArray} {p : Nat} (h : ck0 c p 87 = true) : decode c p = .ok (.pop, 1) := by
  refine dk_of ?_
  unfold Decoder.instr
  exact dk_bind (ck0_u h (by decide)) rfl
theorem dk_89 {c : ByteArray} {p : Nat} (h : ck0 c p 89 = true) : decode c p = .ok (.dup, 1) := by
  refine dk_of ?_
  unfold Decoder.instr
  exact dk_bind (ck0_u h (by decide)) rfl
theorem dk_92 {c : ByteArray} {p : Nat} (h : ck0 c p 92 = true) : decode c p = .ok (.dup2, 1) := by
  refine dk_of ?_
  unfold Decoder.instr
  exact dk_bind (ck0_u h (by decide)) rfl
theorem dk_96 {c : ByteArray} {p : Nat} (h : ck0 c p 96 = true) : decode c p = .ok (.iadd, 1) := by
  refine dk_of ?_
  unfold Decoder.instr
  exact dk_bind (ck0_u h (by decide)) rfl
theorem dk_97 {c : ByteArray} {p : Nat} (h : ck0 c p 97 = true) : decode c p = .ok (.ladd, 1) := by
  refine dk_of ?_
  unfold Decoder.instr
  exact dk_bind (ck0_u h (by decide)) rfl
theorem dk_100 {c : ByteArray} {p : Nat} (h : ck0 c p 100 = true) : decode c p = .ok (.isub, 1) := by
  refine dk_of ?_
  unfold Decoder.instr
  exact dk_bind (ck0_u h (by decide)) rfl
theorem dk_101 {c : ByteArray} {p : Nat} (h : ck0 c p 101 = true) : decode c p = .ok (.lsub, 1) := by
  refine dk_of ?_
  unfold Decoder.instr
  exact dk_bind (ck0_u h (by decide)) rfl
theorem dk_104 {c : ByteArray} {p : Nat} (h : ck0 c p 104 = true) : decode c p = .ok (.imul, 1) := by
  refine dk_of ?_
  unfold Decoder.instr
  exact dk_bind (ck0_u h (by decide)) rfl
theorem dk_105 {c : ByteArray} {p : Nat} (h : ck0 c p 105 = true) : decode c p = .ok (.lmul, 1) := by
  refine dk_of ?_
  unfold Decoder.instr
  exact dk_bind (ck0_u h (by decide)) rfl
theorem dk_108 {c : ByteArray} {p : Nat} (h : ck0 c p 108 = true) : decode c p = .ok (.idiv, 1) := by
  refine dk_of ?_
  unfold Decoder.instr
  exact dk_bind (ck0_u h (by decide)) rfl
theorem dk_109 {c : ByteArray} {p : Nat} (h : ck0 c p 109 = true) : decode c p = .ok (.ldiv, 1) := by
  refine dk_of ?_
  unfold Decoder.instr
  exact dk_bind (ck0_u h (by decide)) rfl
theorem dk_112 {c : ByteArray} {p : Nat} (h : ck0 c p 112 = true) : decode c p = .ok (.irem, 1) := by
  refine dk_of ?_
  unfold Decoder.instr
  exact dk_bind (ck0_u h (by decide)) rfl
theorem dk_113 {c : ByteArray} {p : Nat} (h : ck0 c p 113 = true) : decode c p = .ok (.lrem, 1) := by
  refine dk_of ?_
  unfold Decoder.instr
  exact dk_bind (ck0_u h (by decide)) rfl
theorem dk_116 {c : ByteArray} {p : Nat} (h : ck0 c p 116 = true) : decode c p = .ok (.ineg, 1) := by
  refine dk_of ?_
  unfold Decoder.instr
  exact dk_bind (ck0_u h (by decide)) rfl
theorem dk_117 {c : ByteArray} {p : Nat} (h : ck0 c p 117 = true) : decode c p = .ok (.lneg, 1) := by
  refine dk_of ?_
  unfold Decoder.instr
  exact dk_bind (ck0_u h (by decide)) rfl
theorem dk_122 {c : ByteArray} {p : Nat} (h : ck0 c p 122 = true) : decode c p = .ok (.ishr, 1) := by
  refine dk_of ?_
  unfold Decoder.instr
  exact dk_bind (ck0_u h (by decide)) rfl
theorem dk_126 {c : ByteArray} {p : Nat} (h : ck0 c p 126 = true) : decode c p = .ok (.iand, 1) := by
  refine dk_of ?_
  unfold Decoder.instr
  exact dk_bind (ck0_u h (by decide)) rfl
theorem dk_127 {c : ByteArray} {p : Nat} (h : ck0 c p 127 = true) : decode c p = .ok (.land, 1) := by
  refine dk_of ?_
  unfold Decoder.instr
  exact dk_bind (ck0_u h (by decide)) rfl
theorem dk_128 {c : ByteArray} {p : Nat} (h : ck0 c p 128 = true) : decode c p = .ok (.ior, 1) := by
  refine dk_of ?_
  unfold Decoder.instr
  exact dk_bind (ck0_u h (by decide)) rfl
theorem dk_129 {c : ByteArray} {p : Nat} (h : ck0 c p 129 = true) : decode c p = .ok (.lor, 1) := by
  refine dk_of ?_
  unfold Decoder.instr
  exact dk_bind (ck0_u h (by decide)) rfl
theorem dk_132 {c : ByteArray} {p a : Nat} {v : Int} (h : cki c p a v = true) : decode c p = .ok (.iinc a v, 3) := by
  obtain ⟨h1, h2⟩ := ck_and h
  obtain ⟨h2, h3⟩ := ck_and h2
  have h3 : Reader.signed 8 (ub c (p + 2)) = v := of_decide_eq_true h3
  have e := dk_map (f := Reader.signed 8) (ub_u1 (c := c) (p := p + 2) rfl (ck_lt h2))
  rw [h3] at e
  refine dk_of ?_
  unfold Decoder.instr
  exact dk_bind (ck1_u h1 (by decide)).1 (dk_bind (ck1_u h1 (by decide)).2 (dk_bind e rfl))
theorem dk_133 {c : ByteArray} {p : Nat} (h : ck0 c p 133 = true) : decode c p = .ok (.i2l, 1) := by
  refine dk_of ?_
  unfold Decoder.instr
  exact dk_bind (ck0_u h (by decide)) rfl
theorem dk_136 {c : ByteArray} {p : Nat} (h : ck0 c p 136 = true) : decode c p = .ok (.l2i, 1) := by
  refine dk_of ?_
  unfold Decoder.instr
  exact dk_bind (ck0_u h (by decide)) rfl
theorem dk_145 {c : ByteArray} {p : Nat} (h : ck0 c p 145 = true) : decode c p = .ok (.i2b, 1) := by
  refine dk_of ?_
  unfold Decoder.instr
  exact dk_bind (ck0_u h (by decide)) rfl
theorem dk_146 {c : ByteArray} {p : Nat} (h : ck0 c p 146 = true) : decode c p = .ok (.i2c, 1) := by
  refine dk_of ?_
  unfold Decoder.instr
  exact dk_bind (ck0_u h (by decide)) rfl
theorem dk_148 {c : ByteArray} {p : Nat} (h : ck0 c p 148 = true) : decode c p = .ok (.lcmp, 1) := by
  refine dk_of ?_
  unfold Decoder.instr
  exact dk_bind (ck0_u h (by decide)) rfl
theorem dk_153 {c : ByteArray} {p : Nat} {v : Int} (h : ck2s c p 153 v = true) : decode c p = .ok (.ifCond .eq v, 3) := by
  refine dk_of ?_
  unfold Decoder.instr
  exact dk_bind (ck2s_u h (by decide)).1 (dk_bind (ck2s_u h (by decide)).2 rfl)
theorem dk_154 {c : ByteArray} {p : Nat} {v : Int} (h : ck2s c p 154 v = true) : decode c p = .ok (.ifCond .ne v, 3) := by
  refine dk_of ?_
  unfold Decoder.instr
  exact dk_bind (ck2s_u h (by decide)).1 (dk_bind (ck2s_u h (by decide)).2 rfl)
theorem dk_155 {c : ByteArray} {p : Nat} {v : Int} (h : ck2s c p 155 v = true) : decode c p = .ok (.ifCond .lt v, 3) := by
  refine dk_of ?_
  unfold Decoder.instr
  exact dk_bind (ck2s_u h (by decide)).1 (dk_bind (ck2s_u h (by decide)).2 rfl)
theorem dk_156 {c : ByteArray} {p : Nat} {v : Int} (h : ck2s c p 156 v = true) : decode c p = .ok (.ifCond .ge v, 3) := by
  refine dk_of ?_
  unfold Decoder.instr
  exact dk_bind (ck2s_u h (by decide)).1 (dk_bind (ck2s_u h (by decide)).2 rfl)
theorem dk_157 {c : ByteArray} {p : Nat} {v : Int} (h : ck2s c p 157 v = true) : decode c p = .ok (.ifCond .gt v, 3) := by
  refine dk_of ?_
  unfold Decoder.instr
  exact dk_bind (ck2s_u h (by decide)).1 (dk_bind (ck2s_u h (by decide)).2 rfl)
theorem dk_158 {c : ByteArray} {p : Nat} {v : Int} (h : ck2s c p 158 v = true) : decode c p = .ok (.ifCond .le v, 3) := by
  refine dk_of ?_
  unfold Decoder.instr
  exact dk_bind (ck2s_u h (by decide)).1 (dk_bind (ck2s_u h (by decide)).2 rfl)
theorem dk_159 {c : ByteArray} {p : Nat} {v : Int} (h : ck2s c p 159 v = true) : decode c p = .ok (.if_icmp .eq v, 3) := by
  refine dk_of ?_
  unfold Decoder.instr
  exact dk_bind (ck2s_u h (by decide)).1 (dk_bind (ck2s_u h (by decide)).2 rfl)
theorem dk_160 {c : ByteArray} {p : Nat} {v : Int} (h : ck2s c p 160 v = true) : decode c p = .ok (.if_icmp .ne v, 3) := by
  refine dk_of ?_
  unfold Decoder.instr
  exact dk_bind (ck2s_u h (by decide)).1 (dk_bind (ck2s_u h (by decide)).2 rfl)
theorem dk_161 {c : ByteArray} {p : Nat} {v : Int} (h : ck2s c p 161 v = true) : decode c p = .ok (.if_icmp .lt v, 3) := by
  refine dk_of ?_
  unfold Decoder.instr
  exact dk_bind (ck2s_u h (by decide)).1 (dk_bind (ck2s_u h (by decide)).2 rfl)
theorem dk_162 {c : ByteArray} {p : Nat} {v : Int} (h : ck2s c p 162 v = true) : decode c p = .ok (.if_icmp .ge v, 3) := by
  refine dk_of ?_
  unfold Decoder.instr
  exact dk_bind (ck2s_u h (by decide)).1 (dk_bind (ck2s_u h (by decide)).2 rfl)
theorem dk_163 {c : ByteArray} {p : Nat} {v : Int} (h : ck2s c p 163 v = true) : decode c p = .ok (.if_icmp .gt v, 3) := by
  refine dk_of ?_
  unfold Decoder.instr
  exact dk_bind (ck2s_u h (by decide)).1 (dk_bind (ck2s_u h (by decide)).2 rfl)
theorem dk_164 {c : ByteArray} {p : Nat} {v : Int} (h : ck2s c p 164 v = true) : decode c p = .ok (.if_icmp .le v, 3) := by
  refine dk_of ?_
  unfold Decoder.instr
  exact dk_bind (ck2s_u h (by decide)).1 (dk_bind (ck2s_u h (by decide)).2 rfl)
theorem dk_167 {c : ByteArray} {p : Nat} {v : Int} (h : ck2s c p 167 v = true) : decode c p = .ok (.goto v, 3) := by
  refine dk_of ?_
  unfold Decoder.instr
  exact dk_bind (ck2s_u h (by decide)).1 (dk_bind (ck2s_u h (by decide)).2 rfl)
theorem dk_172 {c : ByteArray} {p : Nat} (h : ck0 c p 172 = true) : decode c p = .ok (.ireturn, 1) := by
  refine dk_of ?_
  unfold Decoder.instr
  exact dk_bind (ck0_u h (by decide)) rfl
theorem dk_173 {c : ByteArray} {p : Nat} (h : ck0 c p 173 = true) : decode c p = .ok (.lreturn, 1) := by
  refine dk_of ?_
  unfold Decoder.instr
  exact dk_bind (ck0_u h (by decide)) rfl
theorem dk_176 {c : ByteArray} {p : Nat} (h : ck0 c p 176 = true) : decode c p = .ok (.areturn, 1) := by
  refine dk_of ?_
  unfold Decoder.instr
  exact dk_bind (ck0_u h (by decide)) rfl
theorem dk_177 {c : ByteArray} {p : Nat} (h : ck0 c p 177 = true) : decode c p = .ok (.return_, 1) := by
  refine dk_of ?_
  unfold Decoder.instr
  exact dk_bind (ck0_u h (by decide)) rfl
theorem dk_178 {c : ByteArray} {p n : Nat} (h : ck2 c p 178 n = true) : decode c p = .ok (.getstatic n, 3) := by
  refine dk_of ?_
  unfold Decoder.instr
  exact dk_bind (ck2_u h (by decide)).1 (dk_bind (ck2_u h (by decide)).2 rfl)
theorem dk_180 {c : ByteArray} {p n : Nat} (h : ck2 c p 180 n = true) : decode c p = .ok (.getfield n, 3) := by
  refine dk_of ?_
  unfold Decoder.instr
  exact dk_bind (ck2_u h (by decide)).1 (dk_bind (ck2_u h (by decide)).2 rfl)
theorem dk_181 {c : ByteArray} {p n : Nat} (h : ck2 c p 181 n = true) : decode c p = .ok (.putfield n, 3) := by
  refine dk_of ?_
  unfold Decoder.instr
  exact dk_bind (ck2_u h (by decide)).1 (dk_bind (ck2_u h (by decide)).2 rfl)
theorem dk_182 {c : ByteArray} {p n : Nat} (h : ck2 c p 182 n = true) : decode c p = .ok (.invokevirtual n, 3) := by
  refine dk_of ?_
  unfold Decoder.instr
  exact dk_bind (ck2_u h (by decide)).1 (dk_bind (ck2_u h (by decide)).2 rfl)
theorem dk_183 {c : ByteArray} {p n : Nat} (h : ck2 c p 183 n = true) : decode c p = .ok (.invokespecial n, 3) := by
  refine dk_of ?_
  unfold Decoder.instr
  exact dk_bind (ck2_u h (by decide)).1 (dk_bind (ck2_u h (by decide)).2 rfl)
theorem dk_184 {c : ByteArray} {p n : Nat} (h : ck2 c p 184 n = true) : decode c p = .ok (.invokestatic n, 3) := by
  refine dk_of ?_
  unfold Decoder.instr
  exact dk_bind (ck2_u h (by decide)).1 (dk_bind (ck2_u h (by decide)).2 rfl)
theorem dk_187 {c : ByteArray} {p n : Nat} (h : ck2 c p 187 n = true) : decode c p = .ok (.new n, 3) := by
  refine dk_of ?_
  unfold Decoder.instr
  exact dk_bind (ck2_u h (by decide)).1 (dk_bind (ck2_u h (by decide)).2 rfl)
theorem dk_189 {c : ByteArray} {p n : Nat} (h : ck2 c p 189 n = true) : decode c p = .ok (.anewarray n, 3) := by
  refine dk_of ?_
  unfold Decoder.instr
  exact dk_bind (ck2_u h (by decide)).1 (dk_bind (ck2_u h (by decide)).2 rfl)
theorem dk_190 {c : ByteArray} {p : Nat} (h : ck0 c p 190 = true) : decode c p = .ok (.arraylength, 1) := by
  refine dk_of ?_
  unfold Decoder.instr
  exact dk_bind (ck0_u h (by decide)) rfl
theorem dk_198 {c : ByteArray} {p : Nat} {v : Int} (h : ck2s c p 198 v = true) : decode c p = .ok (.ifnull v, 3) := by
  refine dk_of ?_
  unfold Decoder.instr
  exact dk_bind (ck2s_u h (by decide)).1 (dk_bind (ck2s_u h (by decide)).2 rfl)
theorem dk_199 {c : ByteArray} {p : Nat} {v : Int} (h : ck2s c p 199 v = true) : decode c p = .ok (.ifnonnull v, 3) := by
  refine dk_of ?_
  unfold Decoder.instr
  exact dk_bind (ck2s_u h (by decide)).1 (dk_bind (ck2s_u h (by decide)).2 rfl)
theorem dJ0_length_8abf5_0 : decode cJ0_length_8abf5 0 = .ok (.aload_n 0, 1) := dk_42 (by decide +kernel)
theorem dJ0_length_8abf5_1 : decode cJ0_length_8abf5 1 = .ok (.getfield 9, 3) := dk_180 (by decide +kernel)
theorem dJ0_length_8abf5_4 : decode cJ0_length_8abf5 4 = .ok (.arraylength, 1) := dk_190 (by decide +kernel)
theorem dJ0_length_8abf5_5 : decode cJ0_length_8abf5 5 = .ok (.aload_n 0, 1) := dk_42 (by decide +kernel)
theorem dJ0_length_8abf5_6 : decode cJ0_length_8abf5 6 = .ok (.invokevirtual 335, 3) := dk_182 (by decide +kernel)
theorem dJ0_length_8abf5_9 : decode cJ0_length_8abf5 9 = .ok (.ishr, 1) := dk_122 (by decide +kernel)
theorem dJ0_length_8abf5_10 : decode cJ0_length_8abf5 10 = .ok (.ireturn, 1) := dk_172 (by decide +kernel)
theorem dJ0_charAt_5068e_0 : decode cJ0_charAt_5068e 0 = .ok (.aload_n 0, 1) := dk_42 (by decide +kernel)
theorem dJ0_charAt_5068e_1 : decode cJ0_charAt_5068e 1 = .ok (.invokevirtual 492, 3) := dk_182 (by decide +kernel)
theorem dJ0_charAt_5068e_4 : decode cJ0_charAt_5068e 4 = .ok (.ifCond .eq 12, 3) := dk_153 (by decide +kernel)
theorem dJ0_charAt_5068e_7 : decode cJ0_charAt_5068e 7 = .ok (.aload_n 0, 1) := dk_42 (by decide +kernel)
theorem dJ0_charAt_5068e_8 : decode cJ0_charAt_5068e 8 = .ok (.getfield 9, 3) := dk_180 (by decide +kernel)
theorem dJ0_charAt_5068e_11 : decode cJ0_charAt_5068e 11 = .ok (.iload_n 1, 1) := dk_27 (by decide +kernel)
theorem dJ0_charAt_5068e_12 : decode cJ0_charAt_5068e 12 = .ok (.invokestatic 495, 3) := dk_184 (by decide +kernel)
theorem dJ0_charAt_5068e_15 : decode cJ0_charAt_5068e 15 = .ok (.ireturn, 1) := dk_172 (by decide +kernel)
theorem dJ0_coder_7d493_0 : decode cJ0_coder_7d493 0 = .ok (.getstatic 38, 3) := dk_178 (by decide +kernel)
theorem dJ0_coder_7d493_3 : decode cJ0_coder_7d493 3 = .ok (.ifCond .eq 10, 3) := dk_153 (by decide +kernel)
theorem dJ0_coder_7d493_6 : decode cJ0_coder_7d493 6 = .ok (.aload_n 0, 1) := dk_42 (by decide +kernel)
theorem dJ0_coder_7d493_7 : decode cJ0_coder_7d493 7 = .ok (.getfield 15, 3) := dk_180 (by decide +kernel)
theorem dJ0_coder_7d493_10 : decode cJ0_coder_7d493 10 = .ok (.goto 4, 3) := dk_167 (by decide +kernel)
theorem dJ0_coder_7d493_14 : decode cJ0_coder_7d493 14 = .ok (.ireturn, 1) := dk_172 (by decide +kernel)
theorem dJ0_isLatin1_aae02_0 : decode cJ0_isLatin1_aae02 0 = .ok (.getstatic 38, 3) := dk_178 (by decide +kernel)
theorem dJ0_isLatin1_aae02_3 : decode cJ0_isLatin1_aae02 3 = .ok (.ifCond .eq 14, 3) := dk_153 (by decide +kernel)
theorem dJ0_isLatin1_aae02_6 : decode cJ0_isLatin1_aae02 6 = .ok (.aload_n 0, 1) := dk_42 (by decide +kernel)
theorem dJ0_isLatin1_aae02_7 : decode cJ0_isLatin1_aae02 7 = .ok (.getfield 15, 3) := dk_180 (by decide +kernel)
theorem dJ0_isLatin1_aae02_10 : decode cJ0_isLatin1_aae02 10 = .ok (.ifCond .ne 7, 3) := dk_154 (by decide +kernel)
theorem dJ0_isLatin1_aae02_13 : decode cJ0_isLatin1_aae02 13 = .ok (.iconst 1, 1) := dk_4 (by decide +kernel)
theorem dJ0_isLatin1_aae02_14 : decode cJ0_isLatin1_aae02 14 = .ok (.goto 4, 3) := dk_167 (by decide +kernel)
theorem dJ0_isLatin1_aae02_18 : decode cJ0_isLatin1_aae02 18 = .ok (.ireturn, 1) := dk_172 (by decide +kernel)
theorem dJ0_checkIndex_df160_0 : decode cJ0_checkIndex_df160 0 = .ok (.iload_n 0, 1) := dk_26 (by decide +kernel)
theorem dJ0_checkIndex_df160_1 : decode cJ0_checkIndex_df160 1 = .ok (.iload_n 1, 1) := dk_27 (by decide +kernel)
theorem dJ0_checkIndex_df160_2 : decode cJ0_checkIndex_df160 2 = .ok (.getstatic 1053, 3) := dk_178 (by decide +kernel)
theorem dJ0_checkIndex_df160_5 : decode cJ0_checkIndex_df160 5 = .ok (.invokestatic 1059, 3) := dk_184 (by decide +kernel)
theorem dJ0_checkIndex_df160_8 : decode cJ0_checkIndex_df160 8 = .ok (.pop, 1) := dk_87 (by decide +kernel)
theorem dJ0_checkIndex_df160_9 : decode cJ0_checkIndex_df160 9 = .ok (.return_, 1) := dk_177 (by decide +kernel)
theorem dJ1_charAt_3b067_0 : decode cJ1_charAt_3b067 0 = .ok (.iload_n 1, 1) := dk_27 (by decide +kernel)
theorem dJ1_charAt_3b067_1 : decode cJ1_charAt_3b067 1 = .ok (.aload_n 0, 1) := dk_42 (by decide +kernel)
theorem dJ1_charAt_3b067_2 : decode cJ1_charAt_3b067 2 = .ok (.arraylength, 1) := dk_190 (by decide +kernel)
theorem dJ1_charAt_3b067_3 : decode cJ1_charAt_3b067 3 = .ok (.invokestatic 9, 3) := dk_184 (by decide +kernel)
theorem dJ1_charAt_3b067_6 : decode cJ1_charAt_3b067 6 = .ok (.aload_n 0, 1) := dk_42 (by decide +kernel)
theorem dJ1_charAt_3b067_7 : decode cJ1_charAt_3b067 7 = .ok (.iload_n 1, 1) := dk_27 (by decide +kernel)
theorem dJ1_charAt_3b067_8 : decode cJ1_charAt_3b067 8 = .ok (.baload, 1) := dk_51 (by decide +kernel)
theorem dJ1_charAt_3b067_9 : decode cJ1_charAt_3b067 9 = .ok (.sipush 255, 3) := dk_17 (by decide +kernel)
theorem dJ1_charAt_3b067_12 : decode cJ1_charAt_3b067 12 = .ok (.iand, 1) := dk_126 (by decide +kernel)
theorem dJ1_charAt_3b067_13 : decode cJ1_charAt_3b067 13 = .ok (.i2c, 1) := dk_146 (by decide +kernel)
theorem dJ1_charAt_3b067_14 : decode cJ1_charAt_3b067 14 = .ok (.ireturn, 1) := dk_172 (by decide +kernel)
theorem dJ3_checkIndex_8e157_0 : decode cJ3_checkIndex_8e157 0 = .ok (.iload_n 0, 1) := dk_26 (by decide +kernel)
theorem dJ3_checkIndex_8e157_1 : decode cJ3_checkIndex_8e157 1 = .ok (.ifCond .lt 8, 3) := dk_155 (by decide +kernel)
theorem dJ3_checkIndex_8e157_4 : decode cJ3_checkIndex_8e157 4 = .ok (.iload_n 0, 1) := dk_26 (by decide +kernel)
theorem dJ3_checkIndex_8e157_5 : decode cJ3_checkIndex_8e157 5 = .ok (.iload_n 1, 1) := dk_27 (by decide +kernel)
theorem dJ3_checkIndex_8e157_6 : decode cJ3_checkIndex_8e157 6 = .ok (.if_icmp .lt 10, 3) := dk_161 (by decide +kernel)
theorem dJ3_checkIndex_8e157_16 : decode cJ3_checkIndex_8e157 16 = .ok (.iload_n 0, 1) := dk_26 (by decide +kernel)
theorem dJ3_checkIndex_8e157_17 : decode cJ3_checkIndex_8e157 17 = .ok (.ireturn, 1) := dk_172 (by decide +kernel)
theorem dX0_begin_0 : decode cX0_begin 0 = .ok (.aload_n 0, 1) := dk_42 (by decide +kernel)
theorem dX0_begin_1 : decode cX0_begin 1 = .ok (.iconst 0, 1) := dk_3 (by decide +kernel)
theorem dX0_begin_2 : decode cX0_begin 2 = .ok (.putfield 9, 3) := dk_181 (by decide +kernel)
theorem dX0_begin_5 : decode cX0_begin 5 = .ok (.aload_n 0, 1) := dk_42 (by decide +kernel)
theorem dX0_begin_6 : decode cX0_begin 6 = .ok (.lconst 1, 1) := dk_10 (by decide +kernel)
theorem dX0_begin_7 : decode cX0_begin 7 = .ok (.putfield 15, 3) := dk_181 (by decide +kernel)
theorem dX0_begin_10 : decode cX0_begin 10 = .ok (.iconst 0, 1) := dk_3 (by decide +kernel)
theorem dX0_begin_11 : decode cX0_begin 11 = .ok (.istore_n 3, 1) := dk_62 (by decide +kernel)
theorem dX0_begin_12 : decode cX0_begin 12 = .ok (.iload_n 3, 1) := dk_29 (by decide +kernel)
theorem dX0_begin_13 : decode cX0_begin 13 = .ok (.aload_n 0, 1) := dk_42 (by decide +kernel)
theorem dX0_begin_14 : decode cX0_begin 14 = .ok (.getfield 19, 3) := dk_180 (by decide +kernel)
theorem dX0_begin_17 : decode cX0_begin 17 = .ok (.arraylength, 1) := dk_190 (by decide +kernel)
theorem dX0_begin_18 : decode cX0_begin 18 = .ok (.if_icmp .ge 29, 3) := dk_162 (by decide +kernel)
theorem dX0_begin_21 : decode cX0_begin 21 = .ok (.aload_n 0, 1) := dk_42 (by decide +kernel)
theorem dX0_begin_22 : decode cX0_begin 22 = .ok (.getfield 19, 3) := dk_180 (by decide +kernel)
theorem dX0_begin_25 : decode cX0_begin 25 = .ok (.iload_n 3, 1) := dk_29 (by decide +kernel)
theorem dX0_begin_26 : decode cX0_begin 26 = .ok (.iload_n 3, 1) := dk_29 (by decide +kernel)
theorem dX0_begin_27 : decode cX0_begin 27 = .ok (.iload_n 1, 1) := dk_27 (by decide +kernel)
theorem dX0_begin_28 : decode cX0_begin 28 = .ok (.iconst 4, 1) := dk_7 (by decide +kernel)
theorem dX0_begin_29 : decode cX0_begin 29 = .ok (.imul, 1) := dk_104 (by decide +kernel)
theorem dX0_begin_30 : decode cX0_begin 30 = .ok (.iload_n 2, 1) := dk_28 (by decide +kernel)
theorem dX0_begin_31 : decode cX0_begin 31 = .ok (.iadd, 1) := dk_96 (by decide +kernel)
theorem dX0_begin_32 : decode cX0_begin 32 = .ok (.if_icmp .ne 7, 3) := dk_160 (by decide +kernel)
theorem dX0_begin_35 : decode cX0_begin 35 = .ok (.lconst 1, 1) := dk_10 (by decide +kernel)
theorem dX0_begin_36 : decode cX0_begin 36 = .ok (.goto 4, 3) := dk_167 (by decide +kernel)
theorem dX0_begin_39 : decode cX0_begin 39 = .ok (.lconst 0, 1) := dk_9 (by decide +kernel)
theorem dX0_begin_40 : decode cX0_begin 40 = .ok (.lastore, 1) := dk_80 (by decide +kernel)
theorem dX0_begin_41 : decode cX0_begin 41 = .ok (.iinc 3 1, 3) := dk_132 (by decide +kernel)
theorem dX0_begin_44 : decode cX0_begin 44 = .ok (.goto (-32), 3) := dk_167 (by decide +kernel)
theorem dX0_begin_47 : decode cX0_begin 47 = .ok (.return_, 1) := dk_177 (by decide +kernel)
theorem dX0_add_0 : decode cX0_add 0 = .ok (.aload_n 0, 1) := dk_42 (by decide +kernel)
theorem dX0_add_1 : decode cX0_add 1 = .ok (.dup, 1) := dk_89 (by decide +kernel)
theorem dX0_add_2 : decode cX0_add 2 = .ok (.getfield 9, 3) := dk_180 (by decide +kernel)
theorem dX0_add_5 : decode cX0_add 5 = .ok (.iconst 1, 1) := dk_4 (by decide +kernel)
theorem dX0_add_6 : decode cX0_add 6 = .ok (.iadd, 1) := dk_96 (by decide +kernel)
theorem dX0_add_7 : decode cX0_add 7 = .ok (.putfield 9, 3) := dk_181 (by decide +kernel)
theorem dX0_add_10 : decode cX0_add 10 = .ok (.aload_n 0, 1) := dk_42 (by decide +kernel)
theorem dX0_add_11 : decode cX0_add 11 = .ok (.getfield 9, 3) := dk_180 (by decide +kernel)
theorem dX0_add_14 : decode cX0_add 14 = .ok (.bipush 8, 2) := dk_16 (by decide +kernel)
theorem dX0_add_16 : decode cX0_add 16 = .ok (.if_icmp .le 4, 3) := dk_164 (by decide +kernel)
theorem dX0_add_19 : decode cX0_add 19 = .ok (.return_, 1) := dk_177 (by decide +kernel)
theorem dX0_add_20 : decode cX0_add 20 = .ok (.aload_n 1, 1) := dk_43 (by decide +kernel)
theorem dX0_add_21 : decode cX0_add 21 = .ok (.iload_n 3, 1) := dk_29 (by decide +kernel)
theorem dX0_add_22 : decode cX0_add 22 = .ok (.iconst 3, 1) := dk_6 (by decide +kernel)
theorem dX0_add_23 : decode cX0_add 23 = .ok (.invokevirtual 26, 3) := dk_182 (by decide +kernel)
theorem dX0_add_26 : decode cX0_add 26 = .ok (.invokestatic 32, 3) := dk_184 (by decide +kernel)
theorem dX0_add_29 : decode cX0_add 29 = .ok (.istore 4, 2) := dk_54 (by decide +kernel)
theorem dX0_add_31 : decode cX0_add 31 = .ok (.aload_n 2, 1) := dk_44 (by decide +kernel)
theorem dX0_add_32 : decode cX0_add 32 = .ok (.aload_n 1, 1) := dk_43 (by decide +kernel)
theorem dX0_add_33 : decode cX0_add 33 = .ok (.iload_n 3, 1) := dk_29 (by decide +kernel)
theorem dX0_add_34 : decode cX0_add 34 = .ok (.invokevirtual 36, 3) := dk_182 (by decide +kernel)
theorem dX0_add_37 : decode cX0_add 37 = .ok (.ifCond .eq 8, 3) := dk_153 (by decide +kernel)
theorem dX0_add_40 : decode cX0_add 40 = .ok (.iload 4, 2) := dk_21 (by decide +kernel)
theorem dX0_add_42 : decode cX0_add 42 = .ok (.goto 4, 3) := dk_167 (by decide +kernel)
theorem dX0_add_45 : decode cX0_add 45 = .ok (.iconst 0, 1) := dk_3 (by decide +kernel)
theorem dX0_add_46 : decode cX0_add 46 = .ok (.istore 5, 2) := dk_54 (by decide +kernel)
theorem dX0_add_48 : decode cX0_add 48 = .ok (.aload_n 2, 1) := dk_44 (by decide +kernel)
theorem dX0_add_49 : decode cX0_add 49 = .ok (.aload_n 1, 1) := dk_43 (by decide +kernel)
theorem dX0_add_50 : decode cX0_add 50 = .ok (.iload_n 3, 1) := dk_29 (by decide +kernel)
theorem dX0_add_51 : decode cX0_add 51 = .ok (.invokevirtual 42, 3) := dk_182 (by decide +kernel)
theorem dX0_add_54 : decode cX0_add 54 = .ok (.aload_n 2, 1) := dk_44 (by decide +kernel)
theorem dX0_add_55 : decode cX0_add 55 = .ok (.aload_n 1, 1) := dk_43 (by decide +kernel)
theorem dX0_add_56 : decode cX0_add 56 = .ok (.iconst 0, 1) := dk_3 (by decide +kernel)
theorem dX0_add_57 : decode cX0_add 57 = .ok (.invokevirtual 46, 3) := dk_182 (by decide +kernel)
theorem dX0_add_60 : decode cX0_add 60 = .ok (.istore 6, 2) := dk_54 (by decide +kernel)
theorem dX0_add_62 : decode cX0_add 62 = .ok (.iload 6, 2) := dk_21 (by decide +kernel)
theorem dX0_add_64 : decode cX0_add 64 = .ok (.aload_n 2, 1) := dk_44 (by decide +kernel)
theorem dX0_add_65 : decode cX0_add 65 = .ok (.aload_n 1, 1) := dk_43 (by decide +kernel)
theorem dX0_add_66 : decode cX0_add 66 = .ok (.iconst 1, 1) := dk_4 (by decide +kernel)
theorem dX0_add_67 : decode cX0_add 67 = .ok (.invokevirtual 46, 3) := dk_182 (by decide +kernel)
theorem dX0_add_70 : decode cX0_add 70 = .ok (.imul, 1) := dk_104 (by decide +kernel)
theorem dX0_add_71 : decode cX0_add 71 = .ok (.istore 7, 2) := dk_54 (by decide +kernel)
theorem dX0_add_73 : decode cX0_add 73 = .ok (.bipush 10, 2) := dk_16 (by decide +kernel)
theorem dX0_add_75 : decode cX0_add 75 = .ok (.iload 6, 2) := dk_21 (by decide +kernel)
theorem dX0_add_77 : decode cX0_add 77 = .ok (.isub, 1) := dk_100 (by decide +kernel)
theorem dX0_add_78 : decode cX0_add 78 = .ok (.bipush 10, 2) := dk_16 (by decide +kernel)
theorem dX0_add_80 : decode cX0_add 80 = .ok (.imul, 1) := dk_104 (by decide +kernel)
theorem dX0_add_81 : decode cX0_add 81 = .ok (.istore 8, 2) := dk_54 (by decide +kernel)
theorem dX0_add_83 : decode cX0_add 83 = .ok (.iconst 0, 1) := dk_3 (by decide +kernel)
theorem dX0_add_84 : decode cX0_add 84 = .ok (.istore 9, 2) := dk_54 (by decide +kernel)
theorem dX0_add_86 : decode cX0_add 86 = .ok (.iload 9, 2) := dk_21 (by decide +kernel)
theorem dX0_add_88 : decode cX0_add 88 = .ok (.aload_n 0, 1) := dk_42 (by decide +kernel)
theorem dX0_add_89 : decode cX0_add 89 = .ok (.getfield 23, 3) := dk_180 (by decide +kernel)
theorem dX0_add_92 : decode cX0_add 92 = .ok (.arraylength, 1) := dk_190 (by decide +kernel)
theorem dX0_add_93 : decode cX0_add 93 = .ok (.if_icmp .ge 33, 3) := dk_162 (by decide +kernel)
theorem dX0_add_96 : decode cX0_add 96 = .ok (.aload_n 0, 1) := dk_42 (by decide +kernel)
theorem dX0_add_97 : decode cX0_add 97 = .ok (.getfield 23, 3) := dk_180 (by decide +kernel)
theorem dX0_add_100 : decode cX0_add 100 = .ok (.iload 9, 2) := dk_21 (by decide +kernel)
theorem dX0_add_102 : decode cX0_add 102 = .ok (.aload_n 0, 1) := dk_42 (by decide +kernel)
theorem dX0_add_103 : decode cX0_add 103 = .ok (.getfield 19, 3) := dk_180 (by decide +kernel)
theorem dX0_add_106 : decode cX0_add 106 = .ok (.iload 9, 2) := dk_21 (by decide +kernel)
theorem dX0_add_108 : decode cX0_add 108 = .ok (.laload, 1) := dk_47 (by decide +kernel)
theorem dX0_add_109 : decode cX0_add 109 = .ok (.bipush 100, 2) := dk_16 (by decide +kernel)
theorem dX0_add_111 : decode cX0_add 111 = .ok (.iload 8, 2) := dk_21 (by decide +kernel)
theorem dX0_add_113 : decode cX0_add 113 = .ok (.isub, 1) := dk_100 (by decide +kernel)
theorem dX0_add_114 : decode cX0_add 114 = .ok (.iload 7, 2) := dk_21 (by decide +kernel)
theorem dX0_add_116 : decode cX0_add 116 = .ok (.isub, 1) := dk_100 (by decide +kernel)
theorem dX0_add_117 : decode cX0_add 117 = .ok (.i2l, 1) := dk_133 (by decide +kernel)
theorem dX0_add_118 : decode cX0_add 118 = .ok (.lmul, 1) := dk_105 (by decide +kernel)
theorem dX0_add_119 : decode cX0_add 119 = .ok (.lastore, 1) := dk_80 (by decide +kernel)
theorem dX0_add_120 : decode cX0_add 120 = .ok (.iinc 9 1, 3) := dk_132 (by decide +kernel)
theorem dX0_add_123 : decode cX0_add 123 = .ok (.goto (-37), 3) := dk_167 (by decide +kernel)
theorem dX0_add_126 : decode cX0_add 126 = .ok (.iconst 0, 1) := dk_3 (by decide +kernel)
theorem dX0_add_127 : decode cX0_add 127 = .ok (.istore 9, 2) := dk_54 (by decide +kernel)
theorem dX0_add_129 : decode cX0_add 129 = .ok (.iload 9, 2) := dk_21 (by decide +kernel)
theorem dX0_add_131 : decode cX0_add 131 = .ok (.aload_n 0, 1) := dk_42 (by decide +kernel)
theorem dX0_add_132 : decode cX0_add 132 = .ok (.getfield 19, 3) := dk_180 (by decide +kernel)
theorem dX0_add_135 : decode cX0_add 135 = .ok (.arraylength, 1) := dk_190 (by decide +kernel)
theorem dX0_add_136 : decode cX0_add 136 = .ok (.if_icmp .ge 59, 3) := dk_162 (by decide +kernel)
theorem dX0_add_139 : decode cX0_add 139 = .ok (.aload_n 0, 1) := dk_42 (by decide +kernel)
theorem dX0_add_140 : decode cX0_add 140 = .ok (.getfield 23, 3) := dk_180 (by decide +kernel)
theorem dX0_add_143 : decode cX0_add 143 = .ok (.iload 9, 2) := dk_21 (by decide +kernel)
theorem dX0_add_145 : decode cX0_add 145 = .ok (.iload 5, 2) := dk_21 (by decide +kernel)
theorem dX0_add_147 : decode cX0_add 147 = .ok (.iconst 4, 1) := dk_7 (by decide +kernel)
theorem dX0_add_148 : decode cX0_add 148 = .ok (.imul, 1) := dk_104 (by decide +kernel)
theorem dX0_add_149 : decode cX0_add 149 = .ok (.ior, 1) := dk_128 (by decide +kernel)
theorem dX0_add_150 : decode cX0_add 150 = .ok (.dup2, 1) := dk_92 (by decide +kernel)
theorem dX0_add_151 : decode cX0_add 151 = .ok (.laload, 1) := dk_47 (by decide +kernel)
theorem dX0_add_152 : decode cX0_add 152 = .ok (.aload_n 0, 1) := dk_42 (by decide +kernel)
theorem dX0_add_153 : decode cX0_add 153 = .ok (.getfield 19, 3) := dk_180 (by decide +kernel)
theorem dX0_add_156 : decode cX0_add 156 = .ok (.iload 9, 2) := dk_21 (by decide +kernel)
theorem dX0_add_158 : decode cX0_add 158 = .ok (.laload, 1) := dk_47 (by decide +kernel)
theorem dX0_add_159 : decode cX0_add 159 = .ok (.iload 8, 2) := dk_21 (by decide +kernel)
theorem dX0_add_161 : decode cX0_add 161 = .ok (.i2l, 1) := dk_133 (by decide +kernel)
theorem dX0_add_162 : decode cX0_add 162 = .ok (.lmul, 1) := dk_105 (by decide +kernel)
theorem dX0_add_163 : decode cX0_add 163 = .ok (.ladd, 1) := dk_97 (by decide +kernel)
theorem dX0_add_164 : decode cX0_add 164 = .ok (.lastore, 1) := dk_80 (by decide +kernel)
theorem dX0_add_165 : decode cX0_add 165 = .ok (.aload_n 0, 1) := dk_42 (by decide +kernel)
theorem dX0_add_166 : decode cX0_add 166 = .ok (.getfield 23, 3) := dk_180 (by decide +kernel)
theorem dX0_add_169 : decode cX0_add 169 = .ok (.iload 9, 2) := dk_21 (by decide +kernel)
theorem dX0_add_171 : decode cX0_add 171 = .ok (.iload 4, 2) := dk_21 (by decide +kernel)
theorem dX0_add_173 : decode cX0_add 173 = .ok (.ior, 1) := dk_128 (by decide +kernel)
theorem dX0_add_174 : decode cX0_add 174 = .ok (.dup2, 1) := dk_92 (by decide +kernel)
theorem dX0_add_175 : decode cX0_add 175 = .ok (.laload, 1) := dk_47 (by decide +kernel)
theorem dX0_add_176 : decode cX0_add 176 = .ok (.aload_n 0, 1) := dk_42 (by decide +kernel)
theorem dX0_add_177 : decode cX0_add 177 = .ok (.getfield 19, 3) := dk_180 (by decide +kernel)
theorem dX0_add_180 : decode cX0_add 180 = .ok (.iload 9, 2) := dk_21 (by decide +kernel)
theorem dX0_add_182 : decode cX0_add 182 = .ok (.laload, 1) := dk_47 (by decide +kernel)
theorem dX0_add_183 : decode cX0_add 183 = .ok (.iload 7, 2) := dk_21 (by decide +kernel)
theorem dX0_add_185 : decode cX0_add 185 = .ok (.i2l, 1) := dk_133 (by decide +kernel)
theorem dX0_add_186 : decode cX0_add 186 = .ok (.lmul, 1) := dk_105 (by decide +kernel)
theorem dX0_add_187 : decode cX0_add 187 = .ok (.ladd, 1) := dk_97 (by decide +kernel)
theorem dX0_add_188 : decode cX0_add 188 = .ok (.lastore, 1) := dk_80 (by decide +kernel)
theorem dX0_add_189 : decode cX0_add 189 = .ok (.iinc 9 1, 3) := dk_132 (by decide +kernel)
theorem dX0_add_192 : decode cX0_add 192 = .ok (.goto (-63), 3) := dk_167 (by decide +kernel)
theorem dX0_add_195 : decode cX0_add 195 = .ok (.aload_n 0, 1) := dk_42 (by decide +kernel)
theorem dX0_add_196 : decode cX0_add 196 = .ok (.getfield 23, 3) := dk_180 (by decide +kernel)
theorem dX0_add_199 : decode cX0_add 199 = .ok (.iconst 0, 1) := dk_3 (by decide +kernel)
theorem dX0_add_200 : decode cX0_add 200 = .ok (.aload_n 0, 1) := dk_42 (by decide +kernel)
theorem dX0_add_201 : decode cX0_add 201 = .ok (.getfield 19, 3) := dk_180 (by decide +kernel)
theorem dX0_add_204 : decode cX0_add 204 = .ok (.iconst 0, 1) := dk_3 (by decide +kernel)
theorem dX0_add_205 : decode cX0_add 205 = .ok (.aload_n 0, 1) := dk_42 (by decide +kernel)
theorem dX0_add_206 : decode cX0_add 206 = .ok (.getfield 19, 3) := dk_180 (by decide +kernel)
theorem dX0_add_209 : decode cX0_add 209 = .ok (.arraylength, 1) := dk_190 (by decide +kernel)
theorem dX0_add_210 : decode cX0_add 210 = .ok (.invokestatic 50, 3) := dk_184 (by decide +kernel)
theorem dX0_add_213 : decode cX0_add 213 = .ok (.aload_n 0, 1) := dk_42 (by decide +kernel)
theorem dX0_add_214 : decode cX0_add 214 = .ok (.dup, 1) := dk_89 (by decide +kernel)
theorem dX0_add_215 : decode cX0_add 215 = .ok (.getfield 15, 3) := dk_180 (by decide +kernel)
theorem dX0_add_218 : decode cX0_add 218 = .ok (.ldc2_w 56, 3) := dk_20 (by decide +kernel)
theorem dX0_add_221 : decode cX0_add 221 = .ok (.lmul, 1) := dk_105 (by decide +kernel)
theorem dX0_add_222 : decode cX0_add 222 = .ok (.putfield 15, 3) := dk_181 (by decide +kernel)
theorem dX0_add_225 : decode cX0_add 225 = .ok (.return_, 1) := dk_177 (by decide +kernel)
theorem dX0_upper_0 : decode cX0_upper 0 = .ok (.lconst 0, 1) := dk_9 (by decide +kernel)
theorem dX0_upper_1 : decode cX0_upper 1 = .ok (.lstore_n 2, 1) := dk_65 (by decide +kernel)
theorem dX0_upper_2 : decode cX0_upper 2 = .ok (.iconst 0, 1) := dk_3 (by decide +kernel)
theorem dX0_upper_3 : decode cX0_upper 3 = .ok (.istore 4, 2) := dk_54 (by decide +kernel)
theorem dX0_upper_5 : decode cX0_upper 5 = .ok (.iload 4, 2) := dk_21 (by decide +kernel)
theorem dX0_upper_7 : decode cX0_upper 7 = .ok (.aload_n 0, 1) := dk_42 (by decide +kernel)
theorem dX0_upper_8 : decode cX0_upper 8 = .ok (.getfield 19, 3) := dk_180 (by decide +kernel)
theorem dX0_upper_11 : decode cX0_upper 11 = .ok (.arraylength, 1) := dk_190 (by decide +kernel)
theorem dX0_upper_12 : decode cX0_upper 12 = .ok (.if_icmp .ge 84, 3) := dk_162 (by decide +kernel)
theorem dX0_upper_15 : decode cX0_upper 15 = .ok (.iload 4, 2) := dk_21 (by decide +kernel)
theorem dX0_upper_17 : decode cX0_upper 17 = .ok (.iconst 4, 1) := dk_7 (by decide +kernel)
theorem dX0_upper_18 : decode cX0_upper 18 = .ok (.idiv, 1) := dk_108 (by decide +kernel)
theorem dX0_upper_19 : decode cX0_upper 19 = .ok (.iconst 3, 1) := dk_6 (by decide +kernel)
theorem dX0_upper_20 : decode cX0_upper 20 = .ok (.if_icmp .ne 7, 3) := dk_160 (by decide +kernel)
theorem dX0_upper_23 : decode cX0_upper 23 = .ok (.iconst 1, 1) := dk_4 (by decide +kernel)
theorem dX0_upper_24 : decode cX0_upper 24 = .ok (.goto 4, 3) := dk_167 (by decide +kernel)
theorem dX0_upper_27 : decode cX0_upper 27 = .ok (.iconst 0, 1) := dk_3 (by decide +kernel)
theorem dX0_upper_28 : decode cX0_upper 28 = .ok (.istore 5, 2) := dk_54 (by decide +kernel)
theorem dX0_upper_30 : decode cX0_upper 30 = .ok (.iload 4, 2) := dk_21 (by decide +kernel)
theorem dX0_upper_32 : decode cX0_upper 32 = .ok (.iconst 4, 1) := dk_7 (by decide +kernel)
theorem dX0_upper_33 : decode cX0_upper 33 = .ok (.irem, 1) := dk_112 (by decide +kernel)
theorem dX0_upper_34 : decode cX0_upper 34 = .ok (.iconst 3, 1) := dk_6 (by decide +kernel)
theorem dX0_upper_35 : decode cX0_upper 35 = .ok (.if_icmp .ne 7, 3) := dk_160 (by decide +kernel)
theorem dX0_upper_38 : decode cX0_upper 38 = .ok (.iconst 1, 1) := dk_4 (by decide +kernel)
theorem dX0_upper_39 : decode cX0_upper 39 = .ok (.goto 4, 3) := dk_167 (by decide +kernel)
theorem dX0_upper_42 : decode cX0_upper 42 = .ok (.iconst 0, 1) := dk_3 (by decide +kernel)
theorem dX0_upper_43 : decode cX0_upper 43 = .ok (.istore 6, 2) := dk_54 (by decide +kernel)
theorem dX0_upper_45 : decode cX0_upper 45 = .ok (.iload_n 1, 1) := dk_27 (by decide +kernel)
theorem dX0_upper_46 : decode cX0_upper 46 = .ok (.ifCond .ne 11, 3) := dk_154 (by decide +kernel)
theorem dX0_upper_49 : decode cX0_upper 49 = .ok (.iload 5, 2) := dk_21 (by decide +kernel)
theorem dX0_upper_51 : decode cX0_upper 51 = .ok (.ifCond .eq 39, 3) := dk_153 (by decide +kernel)
theorem dX0_upper_54 : decode cX0_upper 54 = .ok (.goto 26, 3) := dk_167 (by decide +kernel)
theorem dX0_upper_57 : decode cX0_upper 57 = .ok (.iload_n 1, 1) := dk_27 (by decide +kernel)
theorem dX0_upper_58 : decode cX0_upper 58 = .ok (.iconst 1, 1) := dk_4 (by decide +kernel)
theorem dX0_upper_59 : decode cX0_upper 59 = .ok (.if_icmp .ne 11, 3) := dk_160 (by decide +kernel)
theorem dX0_upper_62 : decode cX0_upper 62 = .ok (.iload 6, 2) := dk_21 (by decide +kernel)
theorem dX0_upper_64 : decode cX0_upper 64 = .ok (.ifCond .eq 26, 3) := dk_153 (by decide +kernel)
theorem dX0_upper_67 : decode cX0_upper 67 = .ok (.goto 13, 3) := dk_167 (by decide +kernel)
theorem dX0_upper_70 : decode cX0_upper 70 = .ok (.iload 5, 2) := dk_21 (by decide +kernel)
theorem dX0_upper_72 : decode cX0_upper 72 = .ok (.ifCond .eq 18, 3) := dk_153 (by decide +kernel)
theorem dX0_upper_75 : decode cX0_upper 75 = .ok (.iload 6, 2) := dk_21 (by decide +kernel)
theorem dX0_upper_77 : decode cX0_upper 77 = .ok (.ifCond .ne 13, 3) := dk_154 (by decide +kernel)
theorem dX0_upper_80 : decode cX0_upper 80 = .ok (.lload_n 2, 1) := dk_32 (by decide +kernel)
theorem dX0_upper_81 : decode cX0_upper 81 = .ok (.aload_n 0, 1) := dk_42 (by decide +kernel)
theorem dX0_upper_82 : decode cX0_upper 82 = .ok (.getfield 19, 3) := dk_180 (by decide +kernel)
theorem dX0_upper_85 : decode cX0_upper 85 = .ok (.iload 4, 2) := dk_21 (by decide +kernel)
theorem dX0_upper_87 : decode cX0_upper 87 = .ok (.laload, 1) := dk_47 (by decide +kernel)
theorem dX0_upper_88 : decode cX0_upper 88 = .ok (.ladd, 1) := dk_97 (by decide +kernel)
theorem dX0_upper_89 : decode cX0_upper 89 = .ok (.lstore_n 2, 1) := dk_65 (by decide +kernel)
theorem dX0_upper_90 : decode cX0_upper 90 = .ok (.iinc 4 1, 3) := dk_132 (by decide +kernel)
theorem dX0_upper_93 : decode cX0_upper 93 = .ok (.goto (-88), 3) := dk_167 (by decide +kernel)
theorem dX0_upper_96 : decode cX0_upper 96 = .ok (.lload_n 2, 1) := dk_32 (by decide +kernel)
theorem dX0_upper_97 : decode cX0_upper 97 = .ok (.lreturn, 1) := dk_173 (by decide +kernel)
theorem dX1_textOf_0 : decode cX1_textOf 0 = .ok (.iload_n 1, 1) := dk_27 (by decide +kernel)
theorem dX1_textOf_1 : decode cX1_textOf 1 = .ok (.ifCond .lt 17, 3) := dk_155 (by decide +kernel)
theorem dX1_textOf_4 : decode cX1_textOf 4 = .ok (.iload_n 1, 1) := dk_27 (by decide +kernel)
theorem dX1_textOf_5 : decode cX1_textOf 5 = .ok (.iconst 4, 1) := dk_7 (by decide +kernel)
theorem dX1_textOf_6 : decode cX1_textOf 6 = .ok (.if_icmp .ge 12, 3) := dk_162 (by decide +kernel)
theorem dX1_textOf_9 : decode cX1_textOf 9 = .ok (.aload_n 0, 1) := dk_42 (by decide +kernel)
theorem dX1_textOf_10 : decode cX1_textOf 10 = .ok (.getfield 11, 3) := dk_180 (by decide +kernel)
theorem dX1_textOf_13 : decode cX1_textOf 13 = .ok (.iload_n 1, 1) := dk_27 (by decide +kernel)
theorem dX1_textOf_14 : decode cX1_textOf 14 = .ok (.aaload, 1) := dk_50 (by decide +kernel)
theorem dX1_textOf_15 : decode cX1_textOf 15 = .ok (.goto 4, 3) := dk_167 (by decide +kernel)
theorem dX1_textOf_18 : decode cX1_textOf 18 = .ok (.aconst_null, 1) := dk_1 (by decide +kernel)
theorem dX1_textOf_19 : decode cX1_textOf 19 = .ok (.areturn, 1) := dk_176 (by decide +kernel)
theorem dX1_lookAt_0 : decode cX1_lookAt 0 = .ok (.aload_n 0, 1) := dk_42 (by decide +kernel)
theorem dX1_lookAt_1 : decode cX1_lookAt 1 = .ok (.getfield 17, 3) := dk_180 (by decide +kernel)
theorem dX1_lookAt_4 : decode cX1_lookAt 4 = .ok (.iconst 0, 1) := dk_3 (by decide +kernel)
theorem dX1_lookAt_5 : decode cX1_lookAt 5 = .ok (.iload_n 2, 1) := dk_28 (by decide +kernel)
theorem dX1_lookAt_6 : decode cX1_lookAt 6 = .ok (.iastore, 1) := dk_79 (by decide +kernel)
theorem dX1_lookAt_7 : decode cX1_lookAt 7 = .ok (.aload_n 0, 1) := dk_42 (by decide +kernel)
theorem dX1_lookAt_8 : decode cX1_lookAt 8 = .ok (.getfield 17, 3) := dk_180 (by decide +kernel)
theorem dX1_lookAt_11 : decode cX1_lookAt 11 = .ok (.iconst 1, 1) := dk_4 (by decide +kernel)
theorem dX1_lookAt_12 : decode cX1_lookAt 12 = .ok (.aload_n 1, 1) := dk_43 (by decide +kernel)
theorem dX1_lookAt_13 : decode cX1_lookAt 13 = .ok (.iload_n 2, 1) := dk_28 (by decide +kernel)
theorem dX1_lookAt_14 : decode cX1_lookAt 14 = .ok (.iconst 0, 1) := dk_3 (by decide +kernel)
theorem dX1_lookAt_15 : decode cX1_lookAt 15 = .ok (.invokevirtual 29, 3) := dk_182 (by decide +kernel)
theorem dX1_lookAt_18 : decode cX1_lookAt 18 = .ok (.iastore, 1) := dk_79 (by decide +kernel)
theorem dX1_lookAt_19 : decode cX1_lookAt 19 = .ok (.aload_n 0, 1) := dk_42 (by decide +kernel)
theorem dX1_lookAt_20 : decode cX1_lookAt 20 = .ok (.getfield 17, 3) := dk_180 (by decide +kernel)
theorem dX1_lookAt_23 : decode cX1_lookAt 23 = .ok (.iconst 2, 1) := dk_5 (by decide +kernel)
theorem dX1_lookAt_24 : decode cX1_lookAt 24 = .ok (.aload_n 1, 1) := dk_43 (by decide +kernel)
theorem dX1_lookAt_25 : decode cX1_lookAt 25 = .ok (.iload_n 2, 1) := dk_28 (by decide +kernel)
theorem dX1_lookAt_26 : decode cX1_lookAt 26 = .ok (.iconst 1, 1) := dk_4 (by decide +kernel)
theorem dX1_lookAt_27 : decode cX1_lookAt 27 = .ok (.invokevirtual 29, 3) := dk_182 (by decide +kernel)
theorem dX1_lookAt_30 : decode cX1_lookAt 30 = .ok (.iastore, 1) := dk_79 (by decide +kernel)
theorem dX1_lookAt_31 : decode cX1_lookAt 31 = .ok (.aload_n 0, 1) := dk_42 (by decide +kernel)
theorem dX1_lookAt_32 : decode cX1_lookAt 32 = .ok (.getfield 17, 3) := dk_180 (by decide +kernel)
theorem dX1_lookAt_35 : decode cX1_lookAt 35 = .ok (.iconst 3, 1) := dk_6 (by decide +kernel)
theorem dX1_lookAt_36 : decode cX1_lookAt 36 = .ok (.aload_n 1, 1) := dk_43 (by decide +kernel)
theorem dX1_lookAt_37 : decode cX1_lookAt 37 = .ok (.iload_n 2, 1) := dk_28 (by decide +kernel)
theorem dX1_lookAt_38 : decode cX1_lookAt 38 = .ok (.iconst 2, 1) := dk_5 (by decide +kernel)
theorem dX1_lookAt_39 : decode cX1_lookAt 39 = .ok (.invokevirtual 29, 3) := dk_182 (by decide +kernel)
theorem dX1_lookAt_42 : decode cX1_lookAt 42 = .ok (.iastore, 1) := dk_79 (by decide +kernel)
theorem dX1_lookAt_43 : decode cX1_lookAt 43 = .ok (.aload_n 0, 1) := dk_42 (by decide +kernel)
theorem dX1_lookAt_44 : decode cX1_lookAt 44 = .ok (.getfield 17, 3) := dk_180 (by decide +kernel)
theorem dX1_lookAt_47 : decode cX1_lookAt 47 = .ok (.iconst 4, 1) := dk_7 (by decide +kernel)
theorem dX1_lookAt_48 : decode cX1_lookAt 48 = .ok (.aload_n 1, 1) := dk_43 (by decide +kernel)
theorem dX1_lookAt_49 : decode cX1_lookAt 49 = .ok (.iload_n 2, 1) := dk_28 (by decide +kernel)
theorem dX1_lookAt_50 : decode cX1_lookAt 50 = .ok (.iconst 3, 1) := dk_6 (by decide +kernel)
theorem dX1_lookAt_51 : decode cX1_lookAt 51 = .ok (.invokevirtual 29, 3) := dk_182 (by decide +kernel)
theorem dX1_lookAt_54 : decode cX1_lookAt 54 = .ok (.iastore, 1) := dk_79 (by decide +kernel)
theorem dX1_lookAt_55 : decode cX1_lookAt 55 = .ok (.aload_n 0, 1) := dk_42 (by decide +kernel)
theorem dX1_lookAt_56 : decode cX1_lookAt 56 = .ok (.getfield 17, 3) := dk_180 (by decide +kernel)
theorem dX1_lookAt_59 : decode cX1_lookAt 59 = .ok (.iconst 5, 1) := dk_8 (by decide +kernel)
theorem dX1_lookAt_60 : decode cX1_lookAt 60 = .ok (.aload_n 1, 1) := dk_43 (by decide +kernel)
theorem dX1_lookAt_61 : decode cX1_lookAt 61 = .ok (.getfield 35, 3) := dk_180 (by decide +kernel)
theorem dX1_lookAt_64 : decode cX1_lookAt 64 = .ok (.iastore, 1) := dk_79 (by decide +kernel)
theorem dX1_lookAt_65 : decode cX1_lookAt 65 = .ok (.return_, 1) := dk_177 (by decide +kernel)
theorem dX1_lookAtFilled_0 : decode cX1_lookAtFilled 0 = .ok (.aload_n 0, 1) := dk_42 (by decide +kernel)
theorem dX1_lookAtFilled_1 : decode cX1_lookAtFilled 1 = .ok (.aload_n 1, 1) := dk_43 (by decide +kernel)
theorem dX1_lookAtFilled_2 : decode cX1_lookAtFilled 2 = .ok (.iload_n 2, 1) := dk_28 (by decide +kernel)
theorem dX1_lookAtFilled_3 : decode cX1_lookAtFilled 3 = .ok (.invokevirtual 38, 3) := dk_182 (by decide +kernel)
theorem dX1_lookAtFilled_6 : decode cX1_lookAtFilled 6 = .ok (.aload_n 0, 1) := dk_42 (by decide +kernel)
theorem dX1_lookAtFilled_7 : decode cX1_lookAtFilled 7 = .ok (.getfield 17, 3) := dk_180 (by decide +kernel)
theorem dX1_lookAtFilled_10 : decode cX1_lookAtFilled 10 = .ok (.iconst 3, 1) := dk_6 (by decide +kernel)
theorem dX1_lookAtFilled_11 : decode cX1_lookAtFilled 11 = .ok (.iload_n 3, 1) := dk_29 (by decide +kernel)
theorem dX1_lookAtFilled_12 : decode cX1_lookAtFilled 12 = .ok (.iastore, 1) := dk_79 (by decide +kernel)
theorem dX1_lookAtFilled_13 : decode cX1_lookAtFilled 13 = .ok (.aload_n 0, 1) := dk_42 (by decide +kernel)
theorem dX1_lookAtFilled_14 : decode cX1_lookAtFilled 14 = .ok (.getfield 17, 3) := dk_180 (by decide +kernel)
theorem dX1_lookAtFilled_17 : decode cX1_lookAtFilled 17 = .ok (.iconst 4, 1) := dk_7 (by decide +kernel)
theorem dX1_lookAtFilled_18 : decode cX1_lookAtFilled 18 = .ok (.iload 4, 2) := dk_21 (by decide +kernel)
theorem dX1_lookAtFilled_20 : decode cX1_lookAtFilled 20 = .ok (.iastore, 1) := dk_79 (by decide +kernel)
theorem dX1_lookAtFilled_21 : decode cX1_lookAtFilled 21 = .ok (.return_, 1) := dk_177 (by decide +kernel)
theorem dX1_lookAtMarket_0 : decode cX1_lookAtMarket 0 = .ok (.aload_n 0, 1) := dk_42 (by decide +kernel)
theorem dX1_lookAtMarket_1 : decode cX1_lookAtMarket 1 = .ok (.getfield 17, 3) := dk_180 (by decide +kernel)
theorem dX1_lookAtMarket_4 : decode cX1_lookAtMarket 4 = .ok (.iconst 5, 1) := dk_8 (by decide +kernel)
theorem dX1_lookAtMarket_5 : decode cX1_lookAtMarket 5 = .ok (.iload_n 3, 1) := dk_29 (by decide +kernel)
theorem dX1_lookAtMarket_6 : decode cX1_lookAtMarket 6 = .ok (.iastore, 1) := dk_79 (by decide +kernel)
theorem dX1_lookAtMarket_7 : decode cX1_lookAtMarket 7 = .ok (.aload_n 0, 1) := dk_42 (by decide +kernel)
theorem dX1_lookAtMarket_8 : decode cX1_lookAtMarket 8 = .ok (.getfield 17, 3) := dk_180 (by decide +kernel)
theorem dX1_lookAtMarket_11 : decode cX1_lookAtMarket 11 = .ok (.bipush 6, 2) := dk_16 (by decide +kernel)
theorem dX1_lookAtMarket_13 : decode cX1_lookAtMarket 13 = .ok (.iload_n 2, 1) := dk_28 (by decide +kernel)
theorem dX1_lookAtMarket_14 : decode cX1_lookAtMarket 14 = .ok (.iastore, 1) := dk_79 (by decide +kernel)
theorem dX1_lookAtMarket_15 : decode cX1_lookAtMarket 15 = .ok (.aload_n 0, 1) := dk_42 (by decide +kernel)
theorem dX1_lookAtMarket_16 : decode cX1_lookAtMarket 16 = .ok (.getfield 17, 3) := dk_180 (by decide +kernel)
theorem dX1_lookAtMarket_19 : decode cX1_lookAtMarket 19 = .ok (.bipush 7, 2) := dk_16 (by decide +kernel)
theorem dX1_lookAtMarket_21 : decode cX1_lookAtMarket 21 = .ok (.aload_n 1, 1) := dk_43 (by decide +kernel)
theorem dX1_lookAtMarket_22 : decode cX1_lookAtMarket 22 = .ok (.iload_n 2, 1) := dk_28 (by decide +kernel)
theorem dX1_lookAtMarket_23 : decode cX1_lookAtMarket 23 = .ok (.iconst 1, 1) := dk_4 (by decide +kernel)
theorem dX1_lookAtMarket_24 : decode cX1_lookAtMarket 24 = .ok (.invokevirtual 42, 3) := dk_182 (by decide +kernel)
theorem dX1_lookAtMarket_27 : decode cX1_lookAtMarket 27 = .ok (.iastore, 1) := dk_79 (by decide +kernel)
theorem dX1_lookAtMarket_28 : decode cX1_lookAtMarket 28 = .ok (.aload_n 0, 1) := dk_42 (by decide +kernel)
theorem dX1_lookAtMarket_29 : decode cX1_lookAtMarket 29 = .ok (.getfield 17, 3) := dk_180 (by decide +kernel)
theorem dX1_lookAtMarket_32 : decode cX1_lookAtMarket 32 = .ok (.bipush 8, 2) := dk_16 (by decide +kernel)
theorem dX1_lookAtMarket_34 : decode cX1_lookAtMarket 34 = .ok (.aload_n 1, 1) := dk_43 (by decide +kernel)
theorem dX1_lookAtMarket_35 : decode cX1_lookAtMarket 35 = .ok (.iload_n 2, 1) := dk_28 (by decide +kernel)
theorem dX1_lookAtMarket_36 : decode cX1_lookAtMarket 36 = .ok (.iconst 2, 1) := dk_5 (by decide +kernel)
theorem dX1_lookAtMarket_37 : decode cX1_lookAtMarket 37 = .ok (.invokevirtual 42, 3) := dk_182 (by decide +kernel)
theorem dX1_lookAtMarket_40 : decode cX1_lookAtMarket 40 = .ok (.iastore, 1) := dk_79 (by decide +kernel)
theorem dX1_lookAtMarket_41 : decode cX1_lookAtMarket 41 = .ok (.return_, 1) := dk_177 (by decide +kernel)
theorem dX1_lookAtTraveller_0 : decode cX1_lookAtTraveller 0 = .ok (.aload_n 0, 1) := dk_42 (by decide +kernel)
theorem dX1_lookAtTraveller_1 : decode cX1_lookAtTraveller 1 = .ok (.aload_n 1, 1) := dk_43 (by decide +kernel)
theorem dX1_lookAtTraveller_2 : decode cX1_lookAtTraveller 2 = .ok (.iload_n 2, 1) := dk_28 (by decide +kernel)
theorem dX1_lookAtTraveller_3 : decode cX1_lookAtTraveller 3 = .ok (.invokevirtual 38, 3) := dk_182 (by decide +kernel)
theorem dX1_lookAtTraveller_6 : decode cX1_lookAtTraveller 6 = .ok (.aload_n 0, 1) := dk_42 (by decide +kernel)
theorem dX1_lookAtTraveller_7 : decode cX1_lookAtTraveller 7 = .ok (.aload_n 1, 1) := dk_43 (by decide +kernel)
theorem dX1_lookAtTraveller_8 : decode cX1_lookAtTraveller 8 = .ok (.aload_n 1, 1) := dk_43 (by decide +kernel)
theorem dX1_lookAtTraveller_9 : decode cX1_lookAtTraveller 9 = .ok (.iload_n 2, 1) := dk_28 (by decide +kernel)
theorem dX1_lookAtTraveller_10 : decode cX1_lookAtTraveller 10 = .ok (.iconst 5, 1) := dk_8 (by decide +kernel)
theorem dX1_lookAtTraveller_11 : decode cX1_lookAtTraveller 11 = .ok (.invokevirtual 29, 3) := dk_182 (by decide +kernel)
theorem dX1_lookAtTraveller_14 : decode cX1_lookAtTraveller 14 = .ok (.aload_n 1, 1) := dk_43 (by decide +kernel)
theorem dX1_lookAtTraveller_15 : decode cX1_lookAtTraveller 15 = .ok (.iload_n 2, 1) := dk_28 (by decide +kernel)
theorem dX1_lookAtTraveller_16 : decode cX1_lookAtTraveller 16 = .ok (.bipush 6, 2) := dk_16 (by decide +kernel)
theorem dX1_lookAtTraveller_18 : decode cX1_lookAtTraveller 18 = .ok (.invokevirtual 29, 3) := dk_182 (by decide +kernel)
theorem dX1_lookAtTraveller_21 : decode cX1_lookAtTraveller 21 = .ok (.invokevirtual 45, 3) := dk_182 (by decide +kernel)
theorem dX1_lookAtTraveller_24 : decode cX1_lookAtTraveller 24 = .ok (.return_, 1) := dk_177 (by decide +kernel)
theorem dX1_inkCost_0 : decode cX1_inkCost 0 = .ok (.aload_n 0, 1) := dk_42 (by decide +kernel)
theorem dX1_inkCost_1 : decode cX1_inkCost 1 = .ok (.aload_n 1, 1) := dk_43 (by decide +kernel)
theorem dX1_inkCost_2 : decode cX1_inkCost 2 = .ok (.iload_n 2, 1) := dk_28 (by decide +kernel)
theorem dX1_inkCost_3 : decode cX1_inkCost 3 = .ok (.iload_n 3, 1) := dk_29 (by decide +kernel)
theorem dX1_inkCost_4 : decode cX1_inkCost 4 = .ok (.iload 4, 2) := dk_21 (by decide +kernel)
theorem dX1_inkCost_6 : decode cX1_inkCost 6 = .ok (.invokevirtual 49, 3) := dk_182 (by decide +kernel)
theorem dX1_inkCost_9 : decode cX1_inkCost 9 = .ok (.aload_n 0, 1) := dk_42 (by decide +kernel)
theorem dX1_inkCost_10 : decode cX1_inkCost 10 = .ok (.aload_n 1, 1) := dk_43 (by decide +kernel)
theorem dX1_inkCost_11 : decode cX1_inkCost 11 = .ok (.iconst 2, 1) := dk_5 (by decide +kernel)
theorem dX1_inkCost_12 : decode cX1_inkCost 12 = .ok (.invokevirtual 53, 3) := dk_182 (by decide +kernel)
theorem dX1_inkCost_15 : decode cX1_inkCost 15 = .ok (.ireturn, 1) := dk_172 (by decide +kernel)
theorem dX1_isTrue_0 : decode cX1_isTrue 0 = .ok (.aload_n 0, 1) := dk_42 (by decide +kernel)
theorem dX1_isTrue_1 : decode cX1_isTrue 1 = .ok (.aload_n 1, 1) := dk_43 (by decide +kernel)
theorem dX1_isTrue_2 : decode cX1_isTrue 2 = .ok (.iload_n 2, 1) := dk_28 (by decide +kernel)
theorem dX1_isTrue_3 : decode cX1_isTrue 3 = .ok (.invokevirtual 38, 3) := dk_182 (by decide +kernel)
theorem dX1_isTrue_6 : decode cX1_isTrue 6 = .ok (.aload_n 0, 1) := dk_42 (by decide +kernel)
theorem dX1_isTrue_7 : decode cX1_isTrue 7 = .ok (.aload_n 1, 1) := dk_43 (by decide +kernel)
theorem dX1_isTrue_8 : decode cX1_isTrue 8 = .ok (.iconst 3, 1) := dk_6 (by decide +kernel)
theorem dX1_isTrue_9 : decode cX1_isTrue 9 = .ok (.invokevirtual 53, 3) := dk_182 (by decide +kernel)
theorem dX1_isTrue_12 : decode cX1_isTrue 12 = .ok (.ifCond .eq 7, 3) := dk_153 (by decide +kernel)
theorem dX1_isTrue_15 : decode cX1_isTrue 15 = .ok (.iconst 1, 1) := dk_4 (by decide +kernel)
theorem dX1_isTrue_16 : decode cX1_isTrue 16 = .ok (.goto 4, 3) := dk_167 (by decide +kernel)
theorem dX1_isTrue_19 : decode cX1_isTrue 19 = .ok (.iconst 0, 1) := dk_3 (by decide +kernel)
theorem dX1_isTrue_20 : decode cX1_isTrue 20 = .ok (.ireturn, 1) := dk_172 (by decide +kernel)
theorem dX1_isTrueWith_0 : decode cX1_isTrueWith 0 = .ok (.aload_n 0, 1) := dk_42 (by decide +kernel)
theorem dX1_isTrueWith_1 : decode cX1_isTrueWith 1 = .ok (.aload_n 1, 1) := dk_43 (by decide +kernel)
theorem dX1_isTrueWith_2 : decode cX1_isTrueWith 2 = .ok (.iload_n 2, 1) := dk_28 (by decide +kernel)
theorem dX1_isTrueWith_3 : decode cX1_isTrueWith 3 = .ok (.invokevirtual 38, 3) := dk_182 (by decide +kernel)
theorem dX1_isTrueWith_6 : decode cX1_isTrueWith 6 = .ok (.aload_n 0, 1) := dk_42 (by decide +kernel)
theorem dX1_isTrueWith_7 : decode cX1_isTrueWith 7 = .ok (.getfield 17, 3) := dk_180 (by decide +kernel)
theorem dX1_isTrueWith_10 : decode cX1_isTrueWith 10 = .ok (.iconst 2, 1) := dk_5 (by decide +kernel)
theorem dX1_isTrueWith_11 : decode cX1_isTrueWith 11 = .ok (.iload_n 3, 1) := dk_29 (by decide +kernel)
theorem dX1_isTrueWith_12 : decode cX1_isTrueWith 12 = .ok (.iastore, 1) := dk_79 (by decide +kernel)
theorem dX1_isTrueWith_13 : decode cX1_isTrueWith 13 = .ok (.aload_n 0, 1) := dk_42 (by decide +kernel)
theorem dX1_isTrueWith_14 : decode cX1_isTrueWith 14 = .ok (.aload_n 1, 1) := dk_43 (by decide +kernel)
theorem dX1_isTrueWith_15 : decode cX1_isTrueWith 15 = .ok (.iconst 3, 1) := dk_6 (by decide +kernel)
theorem dX1_isTrueWith_16 : decode cX1_isTrueWith 16 = .ok (.invokevirtual 53, 3) := dk_182 (by decide +kernel)
theorem dX1_isTrueWith_19 : decode cX1_isTrueWith 19 = .ok (.ifCond .eq 7, 3) := dk_153 (by decide +kernel)
theorem dX1_isTrueWith_22 : decode cX1_isTrueWith 22 = .ok (.iconst 1, 1) := dk_4 (by decide +kernel)
theorem dX1_isTrueWith_23 : decode cX1_isTrueWith 23 = .ok (.goto 4, 3) := dk_167 (by decide +kernel)
theorem dX1_isTrueWith_26 : decode cX1_isTrueWith 26 = .ok (.iconst 0, 1) := dk_3 (by decide +kernel)
theorem dX1_isTrueWith_27 : decode cX1_isTrueWith 27 = .ok (.ireturn, 1) := dk_172 (by decide +kernel)
theorem dX1_rule_0 : decode cX1_rule 0 = .ok (.aload_n 0, 1) := dk_42 (by decide +kernel)
theorem dX1_rule_1 : decode cX1_rule 1 = .ok (.aload_n 1, 1) := dk_43 (by decide +kernel)
theorem dX1_rule_2 : decode cX1_rule 2 = .ok (.getfield 57, 3) := dk_180 (by decide +kernel)
theorem dX1_rule_5 : decode cX1_rule 5 = .ok (.invokevirtual 60, 3) := dk_182 (by decide +kernel)
theorem dX1_rule_8 : decode cX1_rule 8 = .ok (.astore_n 3, 1) := dk_78 (by decide +kernel)
theorem dX1_rule_9 : decode cX1_rule 9 = .ok (.aload_n 3, 1) := dk_45 (by decide +kernel)
theorem dX1_rule_10 : decode cX1_rule 10 = .ok (.ifnull 11, 3) := dk_198 (by decide +kernel)
theorem dX1_rule_13 : decode cX1_rule 13 = .ok (.aload_n 3, 1) := dk_45 (by decide +kernel)
theorem dX1_rule_14 : decode cX1_rule 14 = .ok (.iload_n 2, 1) := dk_28 (by decide +kernel)
theorem dX1_rule_15 : decode cX1_rule 15 = .ok (.invokevirtual 64, 3) := dk_182 (by decide +kernel)
theorem dX1_rule_18 : decode cX1_rule 18 = .ok (.ifCond .ne 9, 3) := dk_154 (by decide +kernel)
theorem dX1_rule_21 : decode cX1_rule 21 = .ok (.aload_n 0, 1) := dk_42 (by decide +kernel)
theorem dX1_rule_22 : decode cX1_rule 22 = .ok (.iload_n 2, 1) := dk_28 (by decide +kernel)
theorem dX1_rule_23 : decode cX1_rule 23 = .ok (.invokevirtual 68, 3) := dk_182 (by decide +kernel)
theorem dX1_rule_26 : decode cX1_rule 26 = .ok (.ireturn, 1) := dk_172 (by decide +kernel)
theorem dX1_rule_27 : decode cX1_rule 27 = .ok (.aload_n 0, 1) := dk_42 (by decide +kernel)
theorem dX1_rule_28 : decode cX1_rule 28 = .ok (.iconst 0, 1) := dk_3 (by decide +kernel)
theorem dX1_rule_29 : decode cX1_rule 29 = .ok (.putfield 24, 3) := dk_181 (by decide +kernel)
theorem dX1_rule_32 : decode cX1_rule 32 = .ok (.aload_n 3, 1) := dk_45 (by decide +kernel)
theorem dX1_rule_33 : decode cX1_rule 33 = .ok (.iload_n 2, 1) := dk_28 (by decide +kernel)
theorem dX1_rule_34 : decode cX1_rule 34 = .ok (.invokevirtual 72, 3) := dk_182 (by decide +kernel)
theorem dX1_rule_37 : decode cX1_rule 37 = .ok (.istore 4, 2) := dk_54 (by decide +kernel)
theorem dX1_rule_39 : decode cX1_rule 39 = .ok (.aload_n 3, 1) := dk_45 (by decide +kernel)
theorem dX1_rule_40 : decode cX1_rule 40 = .ok (.iload_n 2, 1) := dk_28 (by decide +kernel)
theorem dX1_rule_41 : decode cX1_rule 41 = .ok (.invokevirtual 75, 3) := dk_182 (by decide +kernel)
theorem dX1_rule_44 : decode cX1_rule 44 = .ok (.istore 5, 2) := dk_54 (by decide +kernel)
theorem dX1_rule_46 : decode cX1_rule 46 = .ok (.iload 5, 2) := dk_21 (by decide +kernel)
theorem dX1_rule_48 : decode cX1_rule 48 = .ok (.iload 4, 2) := dk_21 (by decide +kernel)
theorem dX1_rule_50 : decode cX1_rule 50 = .ok (.if_icmp .ge 19, 3) := dk_162 (by decide +kernel)
theorem dX1_rule_53 : decode cX1_rule 53 = .ok (.aload_n 0, 1) := dk_42 (by decide +kernel)
theorem dX1_rule_54 : decode cX1_rule 54 = .ok (.aload_n 3, 1) := dk_45 (by decide +kernel)
theorem dX1_rule_55 : decode cX1_rule 55 = .ok (.iload 5, 2) := dk_21 (by decide +kernel)
theorem dX1_rule_57 : decode cX1_rule 57 = .ok (.invokevirtual 78, 3) := dk_182 (by decide +kernel)
theorem dX1_rule_60 : decode cX1_rule 60 = .ok (.invokevirtual 81, 3) := dk_182 (by decide +kernel)
theorem dX1_rule_63 : decode cX1_rule 63 = .ok (.iinc 5 1, 3) := dk_132 (by decide +kernel)
theorem dX1_rule_66 : decode cX1_rule 66 = .ok (.goto (-20), 3) := dk_167 (by decide +kernel)
theorem dX1_rule_69 : decode cX1_rule 69 = .ok (.iconst 0, 1) := dk_3 (by decide +kernel)
theorem dX1_rule_70 : decode cX1_rule 70 = .ok (.iload_n 2, 1) := dk_28 (by decide +kernel)
theorem dX1_rule_71 : decode cX1_rule 71 = .ok (.iconst 2, 1) := dk_5 (by decide +kernel)
theorem dX1_rule_72 : decode cX1_rule 72 = .ok (.if_icmp .ne 8, 3) := dk_160 (by decide +kernel)
theorem dX1_rule_75 : decode cX1_rule 75 = .ok (.bipush 99, 2) := dk_16 (by decide +kernel)
theorem dX1_rule_77 : decode cX1_rule 77 = .ok (.goto 5, 3) := dk_167 (by decide +kernel)
theorem dX1_rule_80 : decode cX1_rule 80 = .ok (.bipush 10, 2) := dk_16 (by decide +kernel)
theorem dX1_rule_82 : decode cX1_rule 82 = .ok (.aload_n 0, 1) := dk_42 (by decide +kernel)
theorem dX1_rule_83 : decode cX1_rule 83 = .ok (.invokevirtual 85, 3) := dk_182 (by decide +kernel)
theorem dX1_rule_86 : decode cX1_rule 86 = .ok (.invokestatic 89, 3) := dk_184 (by decide +kernel)
theorem dX1_rule_89 : decode cX1_rule 89 = .ok (.invokestatic 94, 3) := dk_184 (by decide +kernel)
theorem dX1_rule_92 : decode cX1_rule 92 = .ok (.ireturn, 1) := dk_172 (by decide +kernel)
theorem dX1_without_0 : decode cX1_without 0 = .ok (.iload_n 1, 1) := dk_27 (by decide +kernel)
theorem dX1_without_1 : decode cX1_without 1 = .ok (.lookupswitch 43 #[(0, 27), (1, 35)], 27) := by decide +kernel
theorem dX1_without_28 : decode cX1_without 28 = .ok (.aload_n 0, 1) := dk_42 (by decide +kernel)
theorem dX1_without_29 : decode cX1_without 29 = .ok (.getfield 17, 3) := dk_180 (by decide +kernel)
theorem dX1_without_32 : decode cX1_without 32 = .ok (.bipush 7, 2) := dk_16 (by decide +kernel)
theorem dX1_without_34 : decode cX1_without 34 = .ok (.iaload, 1) := dk_46 (by decide +kernel)
theorem dX1_without_35 : decode cX1_without 35 = .ok (.ireturn, 1) := dk_172 (by decide +kernel)
theorem dX1_without_36 : decode cX1_without 36 = .ok (.aload_n 0, 1) := dk_42 (by decide +kernel)
theorem dX1_without_37 : decode cX1_without 37 = .ok (.getfield 17, 3) := dk_180 (by decide +kernel)
theorem dX1_without_40 : decode cX1_without 40 = .ok (.bipush 8, 2) := dk_16 (by decide +kernel)
theorem dX1_without_42 : decode cX1_without 42 = .ok (.iaload, 1) := dk_46 (by decide +kernel)
theorem dX1_without_43 : decode cX1_without 43 = .ok (.ireturn, 1) := dk_172 (by decide +kernel)
theorem dX1_without_44 : decode cX1_without 44 = .ok (.iconst 1, 1) := dk_4 (by decide +kernel)
theorem dX1_without_45 : decode cX1_without 45 = .ok (.ireturn, 1) := dk_172 (by decide +kernel)
theorem dX1_take_0 : decode cX1_take 0 = .ok (.iload_n 1, 1) := dk_27 (by decide +kernel)
theorem dX1_take_1 : decode cX1_take 1 = .ok (.sipush 10000, 3) := dk_17 (by decide +kernel)
theorem dX1_take_4 : decode cX1_take 4 = .ok (.if_icmp .ge 12, 3) := dk_162 (by decide +kernel)
theorem dX1_take_7 : decode cX1_take 7 = .ok (.aload_n 0, 1) := dk_42 (by decide +kernel)
theorem dX1_take_8 : decode cX1_take 8 = .ok (.iload_n 1, 1) := dk_27 (by decide +kernel)
theorem dX1_take_9 : decode cX1_take 9 = .ok (.i2l, 1) := dk_133 (by decide +kernel)
theorem dX1_take_10 : decode cX1_take 10 = .ok (.invokevirtual 97, 3) := dk_182 (by decide +kernel)
theorem dX1_take_13 : decode cX1_take 13 = .ok (.goto 115, 3) := dk_167 (by decide +kernel)
theorem dX1_take_16 : decode cX1_take 16 = .ok (.iload_n 1, 1) := dk_27 (by decide +kernel)
theorem dX1_take_17 : decode cX1_take 17 = .ok (.sipush 20000, 3) := dk_17 (by decide +kernel)
theorem dX1_take_20 : decode cX1_take 20 = .ok (.if_icmp .ge 33, 3) := dk_162 (by decide +kernel)
theorem dX1_take_23 : decode cX1_take 23 = .ok (.iload_n 1, 1) := dk_27 (by decide +kernel)
theorem dX1_take_24 : decode cX1_take 24 = .ok (.sipush 10000, 3) := dk_17 (by decide +kernel)
theorem dX1_take_27 : decode cX1_take 27 = .ok (.isub, 1) := dk_100 (by decide +kernel)
theorem dX1_take_28 : decode cX1_take 28 = .ok (.istore_n 2, 1) := dk_61 (by decide +kernel)
theorem dX1_take_29 : decode cX1_take 29 = .ok (.aload_n 0, 1) := dk_42 (by decide +kernel)
theorem dX1_take_30 : decode cX1_take 30 = .ok (.iload_n 2, 1) := dk_28 (by decide +kernel)
theorem dX1_take_31 : decode cX1_take 31 = .ok (.bipush 9, 2) := dk_16 (by decide +kernel)
theorem dX1_take_33 : decode cX1_take 33 = .ok (.if_icmp .ge 13, 3) := dk_162 (by decide +kernel)
theorem dX1_take_36 : decode cX1_take 36 = .ok (.aload_n 0, 1) := dk_42 (by decide +kernel)
theorem dX1_take_37 : decode cX1_take 37 = .ok (.getfield 17, 3) := dk_180 (by decide +kernel)
theorem dX1_take_40 : decode cX1_take 40 = .ok (.iload_n 2, 1) := dk_28 (by decide +kernel)
theorem dX1_take_41 : decode cX1_take 41 = .ok (.iaload, 1) := dk_46 (by decide +kernel)
theorem dX1_take_42 : decode cX1_take 42 = .ok (.i2l, 1) := dk_133 (by decide +kernel)
theorem dX1_take_43 : decode cX1_take 43 = .ok (.goto 4, 3) := dk_167 (by decide +kernel)
theorem dX1_take_46 : decode cX1_take 46 = .ok (.lconst 0, 1) := dk_9 (by decide +kernel)
theorem dX1_take_47 : decode cX1_take 47 = .ok (.invokevirtual 97, 3) := dk_182 (by decide +kernel)
theorem dX1_take_50 : decode cX1_take 50 = .ok (.goto 78, 3) := dk_167 (by decide +kernel)
theorem dX1_take_53 : decode cX1_take 53 = .ok (.aload_n 0, 1) := dk_42 (by decide +kernel)
theorem dX1_take_54 : decode cX1_take 54 = .ok (.invokevirtual 85, 3) := dk_182 (by decide +kernel)
theorem dX1_take_57 : decode cX1_take 57 = .ok (.istore_n 2, 1) := dk_61 (by decide +kernel)
theorem dX1_take_58 : decode cX1_take 58 = .ok (.iload_n 1, 1) := dk_27 (by decide +kernel)
theorem dX1_take_59 : decode cX1_take 59 = .ok (.sipush 20000, 3) := dk_17 (by decide +kernel)
theorem dX1_take_62 : decode cX1_take 62 = .ok (.isub, 1) := dk_100 (by decide +kernel)
theorem dX1_take_63 : decode cX1_take 63 = .ok (.lookupswitch 46 #[(28, 35), (38, 25)], 25) := by decide +kernel
theorem dX1_take_88 : decode cX1_take 88 = .ok (.aload_n 0, 1) := dk_42 (by decide +kernel)
theorem dX1_take_89 : decode cX1_take 89 = .ok (.iload_n 2, 1) := dk_28 (by decide +kernel)
theorem dX1_take_90 : decode cX1_take 90 = .ok (.ineg, 1) := dk_116 (by decide +kernel)
theorem dX1_take_91 : decode cX1_take 91 = .ok (.i2l, 1) := dk_133 (by decide +kernel)
theorem dX1_take_92 : decode cX1_take 92 = .ok (.invokevirtual 97, 3) := dk_182 (by decide +kernel)
theorem dX1_take_95 : decode cX1_take 95 = .ok (.goto 33, 3) := dk_167 (by decide +kernel)
theorem dX1_take_98 : decode cX1_take 98 = .ok (.aload_n 0, 1) := dk_42 (by decide +kernel)
theorem dX1_take_99 : decode cX1_take 99 = .ok (.iconst 1, 1) := dk_4 (by decide +kernel)
theorem dX1_take_100 : decode cX1_take 100 = .ok (.iload_n 2, 1) := dk_28 (by decide +kernel)
theorem dX1_take_101 : decode cX1_take 101 = .ok (.isub, 1) := dk_100 (by decide +kernel)
theorem dX1_take_102 : decode cX1_take 102 = .ok (.i2l, 1) := dk_133 (by decide +kernel)
theorem dX1_take_103 : decode cX1_take 103 = .ok (.invokevirtual 97, 3) := dk_182 (by decide +kernel)
theorem dX1_take_106 : decode cX1_take 106 = .ok (.goto 22, 3) := dk_167 (by decide +kernel)
theorem dX1_take_109 : decode cX1_take 109 = .ok (.aload_n 0, 1) := dk_42 (by decide +kernel)
theorem dX1_take_110 : decode cX1_take 110 = .ok (.iload_n 1, 1) := dk_27 (by decide +kernel)
theorem dX1_take_111 : decode cX1_take 111 = .ok (.sipush 20000, 3) := dk_17 (by decide +kernel)
theorem dX1_take_114 : decode cX1_take 114 = .ok (.isub, 1) := dk_100 (by decide +kernel)
theorem dX1_take_115 : decode cX1_take 115 = .ok (.aload_n 0, 1) := dk_42 (by decide +kernel)
theorem dX1_take_116 : decode cX1_take 116 = .ok (.invokevirtual 85, 3) := dk_182 (by decide +kernel)
theorem dX1_take_119 : decode cX1_take 119 = .ok (.i2l, 1) := dk_133 (by decide +kernel)
theorem dX1_take_120 : decode cX1_take 120 = .ok (.iload_n 2, 1) := dk_28 (by decide +kernel)
theorem dX1_take_121 : decode cX1_take 121 = .ok (.i2l, 1) := dk_133 (by decide +kernel)
theorem dX1_take_122 : decode cX1_take 122 = .ok (.invokestatic 101, 3) := dk_184 (by decide +kernel)
theorem dX1_take_125 : decode cX1_take 125 = .ok (.invokevirtual 97, 3) := dk_182 (by decide +kernel)
theorem dX1_take_128 : decode cX1_take 128 = .ok (.return_, 1) := dk_177 (by decide +kernel)
theorem dX1_push_0 : decode cX1_push 0 = .ok (.aload_n 0, 1) := dk_42 (by decide +kernel)
theorem dX1_push_1 : decode cX1_push 1 = .ok (.getfield 24, 3) := dk_180 (by decide +kernel)
theorem dX1_push_4 : decode cX1_push 4 = .ok (.ifCond .lt 62, 3) := dk_155 (by decide +kernel)
theorem dX1_push_7 : decode cX1_push 7 = .ok (.aload_n 0, 1) := dk_42 (by decide +kernel)
theorem dX1_push_8 : decode cX1_push 8 = .ok (.getfield 24, 3) := dk_180 (by decide +kernel)
theorem dX1_push_11 : decode cX1_push 11 = .ok (.aload_n 0, 1) := dk_42 (by decide +kernel)
theorem dX1_push_12 : decode cX1_push 12 = .ok (.getfield 21, 3) := dk_180 (by decide +kernel)
theorem dX1_push_15 : decode cX1_push 15 = .ok (.arraylength, 1) := dk_190 (by decide +kernel)
theorem dX1_push_16 : decode cX1_push 16 = .ok (.if_icmp .ge 50, 3) := dk_162 (by decide +kernel)
theorem dX1_push_19 : decode cX1_push 19 = .ok (.aload_n 0, 1) := dk_42 (by decide +kernel)
theorem dX1_push_20 : decode cX1_push 20 = .ok (.getfield 21, 3) := dk_180 (by decide +kernel)
theorem dX1_push_23 : decode cX1_push 23 = .ok (.aload_n 0, 1) := dk_42 (by decide +kernel)
theorem dX1_push_24 : decode cX1_push 24 = .ok (.getfield 24, 3) := dk_180 (by decide +kernel)
theorem dX1_push_27 : decode cX1_push 27 = .ok (.lload_n 1, 1) := dk_31 (by decide +kernel)
theorem dX1_push_28 : decode cX1_push 28 = .ok (.ldc2_w 105, 3) := dk_20 (by decide +kernel)
theorem dX1_push_31 : decode cX1_push 31 = .ok (.lcmp, 1) := dk_148 (by decide +kernel)
theorem dX1_push_32 : decode cX1_push 32 = .ok (.ifCond .le 8, 3) := dk_158 (by decide +kernel)
theorem dX1_push_35 : decode cX1_push 35 = .ok (.ldc 107, 2) := dk_18 (by decide +kernel)
theorem dX1_push_37 : decode cX1_push 37 = .ok (.goto 18, 3) := dk_167 (by decide +kernel)
theorem dX1_push_40 : decode cX1_push 40 = .ok (.lload_n 1, 1) := dk_31 (by decide +kernel)
theorem dX1_push_41 : decode cX1_push 41 = .ok (.ldc2_w 108, 3) := dk_20 (by decide +kernel)
theorem dX1_push_44 : decode cX1_push 44 = .ok (.lcmp, 1) := dk_148 (by decide +kernel)
theorem dX1_push_45 : decode cX1_push 45 = .ok (.ifCond .ge 8, 3) := dk_156 (by decide +kernel)
theorem dX1_push_48 : decode cX1_push 48 = .ok (.ldc 110, 2) := dk_18 (by decide +kernel)
theorem dX1_push_50 : decode cX1_push 50 = .ok (.goto 5, 3) := dk_167 (by decide +kernel)
theorem dX1_push_53 : decode cX1_push 53 = .ok (.lload_n 1, 1) := dk_31 (by decide +kernel)
theorem dX1_push_54 : decode cX1_push 54 = .ok (.l2i, 1) := dk_136 (by decide +kernel)
theorem dX1_push_55 : decode cX1_push 55 = .ok (.iastore, 1) := dk_79 (by decide +kernel)
theorem dX1_push_56 : decode cX1_push 56 = .ok (.aload_n 0, 1) := dk_42 (by decide +kernel)
theorem dX1_push_57 : decode cX1_push 57 = .ok (.dup, 1) := dk_89 (by decide +kernel)
theorem dX1_push_58 : decode cX1_push 58 = .ok (.getfield 24, 3) := dk_180 (by decide +kernel)
theorem dX1_push_61 : decode cX1_push 61 = .ok (.iconst 1, 1) := dk_4 (by decide +kernel)
theorem dX1_push_62 : decode cX1_push 62 = .ok (.iadd, 1) := dk_96 (by decide +kernel)
theorem dX1_push_63 : decode cX1_push 63 = .ok (.putfield 24, 3) := dk_181 (by decide +kernel)
theorem dX1_push_66 : decode cX1_push 66 = .ok (.return_, 1) := dk_177 (by decide +kernel)
theorem dX1_pop_0 : decode cX1_pop 0 = .ok (.aload_n 0, 1) := dk_42 (by decide +kernel)
theorem dX1_pop_1 : decode cX1_pop 1 = .ok (.getfield 24, 3) := dk_180 (by decide +kernel)
theorem dX1_pop_4 : decode cX1_pop 4 = .ok (.iconst 1, 1) := dk_4 (by decide +kernel)
theorem dX1_pop_5 : decode cX1_pop 5 = .ok (.if_icmp .lt 15, 3) := dk_161 (by decide +kernel)
theorem dX1_pop_8 : decode cX1_pop 8 = .ok (.aload_n 0, 1) := dk_42 (by decide +kernel)
theorem dX1_pop_9 : decode cX1_pop 9 = .ok (.getfield 24, 3) := dk_180 (by decide +kernel)
theorem dX1_pop_12 : decode cX1_pop 12 = .ok (.aload_n 0, 1) := dk_42 (by decide +kernel)
theorem dX1_pop_13 : decode cX1_pop 13 = .ok (.getfield 21, 3) := dk_180 (by decide +kernel)
theorem dX1_pop_16 : decode cX1_pop 16 = .ok (.arraylength, 1) := dk_190 (by decide +kernel)
theorem dX1_pop_17 : decode cX1_pop 17 = .ok (.if_icmp .le 5, 3) := dk_164 (by decide +kernel)
theorem dX1_pop_20 : decode cX1_pop 20 = .ok (.iconst 0, 1) := dk_3 (by decide +kernel)
theorem dX1_pop_21 : decode cX1_pop 21 = .ok (.ireturn, 1) := dk_172 (by decide +kernel)
theorem dX1_pop_22 : decode cX1_pop 22 = .ok (.aload_n 0, 1) := dk_42 (by decide +kernel)
theorem dX1_pop_23 : decode cX1_pop 23 = .ok (.dup, 1) := dk_89 (by decide +kernel)
theorem dX1_pop_24 : decode cX1_pop 24 = .ok (.getfield 24, 3) := dk_180 (by decide +kernel)
theorem dX1_pop_27 : decode cX1_pop 27 = .ok (.iconst 1, 1) := dk_4 (by decide +kernel)
theorem dX1_pop_28 : decode cX1_pop 28 = .ok (.isub, 1) := dk_100 (by decide +kernel)
theorem dX1_pop_29 : decode cX1_pop 29 = .ok (.putfield 24, 3) := dk_181 (by decide +kernel)
theorem dX1_pop_32 : decode cX1_pop 32 = .ok (.aload_n 0, 1) := dk_42 (by decide +kernel)
theorem dX1_pop_33 : decode cX1_pop 33 = .ok (.getfield 21, 3) := dk_180 (by decide +kernel)
theorem dX1_pop_36 : decode cX1_pop 36 = .ok (.aload_n 0, 1) := dk_42 (by decide +kernel)
theorem dX1_pop_37 : decode cX1_pop 37 = .ok (.getfield 24, 3) := dk_180 (by decide +kernel)
theorem dX1_pop_40 : decode cX1_pop 40 = .ok (.iaload, 1) := dk_46 (by decide +kernel)
theorem dX1_pop_41 : decode cX1_pop 41 = .ok (.ireturn, 1) := dk_172 (by decide +kernel)
theorem dX1_joined_0 : decode cX1_joined 0 = .ok (.iload_n 0, 1) := dk_26 (by decide +kernel)
theorem dX1_joined_1 : decode cX1_joined 1 = .ok (.tableswitch 217 3 27 #[141, 153, 165, 177, 189, 201, 115, 119, 123, 127, 217, 217, 217, 217, 217, 217, 217, 217, 217, 217, 217, 217, 217, 217, 213], 115) := by decide +kernel
theorem dX1_joined_116 : decode cX1_joined 116 = .ok (.lload_n 1, 1) := dk_31 (by decide +kernel)
theorem dX1_joined_117 : decode cX1_joined 117 = .ok (.lload_n 3, 1) := dk_33 (by decide +kernel)
theorem dX1_joined_118 : decode cX1_joined 118 = .ok (.ladd, 1) := dk_97 (by decide +kernel)
theorem dX1_joined_119 : decode cX1_joined 119 = .ok (.lreturn, 1) := dk_173 (by decide +kernel)
theorem dX1_joined_120 : decode cX1_joined 120 = .ok (.lload_n 1, 1) := dk_31 (by decide +kernel)
theorem dX1_joined_121 : decode cX1_joined 121 = .ok (.lload_n 3, 1) := dk_33 (by decide +kernel)
theorem dX1_joined_122 : decode cX1_joined 122 = .ok (.lsub, 1) := dk_101 (by decide +kernel)
theorem dX1_joined_123 : decode cX1_joined 123 = .ok (.lreturn, 1) := dk_173 (by decide +kernel)
theorem dX1_joined_124 : decode cX1_joined 124 = .ok (.lload_n 1, 1) := dk_31 (by decide +kernel)
theorem dX1_joined_125 : decode cX1_joined 125 = .ok (.lload_n 3, 1) := dk_33 (by decide +kernel)
theorem dX1_joined_126 : decode cX1_joined 126 = .ok (.lmul, 1) := dk_105 (by decide +kernel)
theorem dX1_joined_127 : decode cX1_joined 127 = .ok (.lreturn, 1) := dk_173 (by decide +kernel)
theorem dX1_joined_128 : decode cX1_joined 128 = .ok (.lload_n 3, 1) := dk_33 (by decide +kernel)
theorem dX1_joined_129 : decode cX1_joined 129 = .ok (.lconst 0, 1) := dk_9 (by decide +kernel)
theorem dX1_joined_130 : decode cX1_joined 130 = .ok (.lcmp, 1) := dk_148 (by decide +kernel)
theorem dX1_joined_131 : decode cX1_joined 131 = .ok (.ifCond .ne 7, 3) := dk_154 (by decide +kernel)
theorem dX1_joined_134 : decode cX1_joined 134 = .ok (.lconst 0, 1) := dk_9 (by decide +kernel)
theorem dX1_joined_135 : decode cX1_joined 135 = .ok (.goto 6, 3) := dk_167 (by decide +kernel)
theorem dX1_joined_138 : decode cX1_joined 138 = .ok (.lload_n 1, 1) := dk_31 (by decide +kernel)
theorem dX1_joined_139 : decode cX1_joined 139 = .ok (.lload_n 3, 1) := dk_33 (by decide +kernel)
theorem dX1_joined_140 : decode cX1_joined 140 = .ok (.ldiv, 1) := dk_109 (by decide +kernel)
theorem dX1_joined_141 : decode cX1_joined 141 = .ok (.lreturn, 1) := dk_173 (by decide +kernel)
theorem dX1_joined_142 : decode cX1_joined 142 = .ok (.lload_n 1, 1) := dk_31 (by decide +kernel)
theorem dX1_joined_143 : decode cX1_joined 143 = .ok (.lload_n 3, 1) := dk_33 (by decide +kernel)
theorem dX1_joined_144 : decode cX1_joined 144 = .ok (.lcmp, 1) := dk_148 (by decide +kernel)
theorem dX1_joined_145 : decode cX1_joined 145 = .ok (.ifCond .ge 7, 3) := dk_156 (by decide +kernel)
theorem dX1_joined_148 : decode cX1_joined 148 = .ok (.lconst 1, 1) := dk_10 (by decide +kernel)
theorem dX1_joined_149 : decode cX1_joined 149 = .ok (.goto 4, 3) := dk_167 (by decide +kernel)
theorem dX1_joined_152 : decode cX1_joined 152 = .ok (.lconst 0, 1) := dk_9 (by decide +kernel)
theorem dX1_joined_153 : decode cX1_joined 153 = .ok (.lreturn, 1) := dk_173 (by decide +kernel)
theorem dX1_joined_154 : decode cX1_joined 154 = .ok (.lload_n 1, 1) := dk_31 (by decide +kernel)
theorem dX1_joined_155 : decode cX1_joined 155 = .ok (.lload_n 3, 1) := dk_33 (by decide +kernel)
theorem dX1_joined_156 : decode cX1_joined 156 = .ok (.lcmp, 1) := dk_148 (by decide +kernel)
theorem dX1_joined_157 : decode cX1_joined 157 = .ok (.ifCond .gt 7, 3) := dk_157 (by decide +kernel)
theorem dX1_joined_160 : decode cX1_joined 160 = .ok (.lconst 1, 1) := dk_10 (by decide +kernel)
theorem dX1_joined_161 : decode cX1_joined 161 = .ok (.goto 4, 3) := dk_167 (by decide +kernel)
theorem dX1_joined_164 : decode cX1_joined 164 = .ok (.lconst 0, 1) := dk_9 (by decide +kernel)
theorem dX1_joined_165 : decode cX1_joined 165 = .ok (.lreturn, 1) := dk_173 (by decide +kernel)
theorem dX1_joined_166 : decode cX1_joined 166 = .ok (.lload_n 1, 1) := dk_31 (by decide +kernel)
theorem dX1_joined_167 : decode cX1_joined 167 = .ok (.lload_n 3, 1) := dk_33 (by decide +kernel)
theorem dX1_joined_168 : decode cX1_joined 168 = .ok (.lcmp, 1) := dk_148 (by decide +kernel)
theorem dX1_joined_169 : decode cX1_joined 169 = .ok (.ifCond .le 7, 3) := dk_158 (by decide +kernel)
theorem dX1_joined_172 : decode cX1_joined 172 = .ok (.lconst 1, 1) := dk_10 (by decide +kernel)
theorem dX1_joined_173 : decode cX1_joined 173 = .ok (.goto 4, 3) := dk_167 (by decide +kernel)
theorem dX1_joined_176 : decode cX1_joined 176 = .ok (.lconst 0, 1) := dk_9 (by decide +kernel)
theorem dX1_joined_177 : decode cX1_joined 177 = .ok (.lreturn, 1) := dk_173 (by decide +kernel)
theorem dX1_joined_178 : decode cX1_joined 178 = .ok (.lload_n 1, 1) := dk_31 (by decide +kernel)
theorem dX1_joined_179 : decode cX1_joined 179 = .ok (.lload_n 3, 1) := dk_33 (by decide +kernel)
theorem dX1_joined_180 : decode cX1_joined 180 = .ok (.lcmp, 1) := dk_148 (by decide +kernel)
theorem dX1_joined_181 : decode cX1_joined 181 = .ok (.ifCond .lt 7, 3) := dk_155 (by decide +kernel)
theorem dX1_joined_184 : decode cX1_joined 184 = .ok (.lconst 1, 1) := dk_10 (by decide +kernel)
theorem dX1_joined_185 : decode cX1_joined 185 = .ok (.goto 4, 3) := dk_167 (by decide +kernel)
theorem dX1_joined_188 : decode cX1_joined 188 = .ok (.lconst 0, 1) := dk_9 (by decide +kernel)
theorem dX1_joined_189 : decode cX1_joined 189 = .ok (.lreturn, 1) := dk_173 (by decide +kernel)
theorem dX1_joined_190 : decode cX1_joined 190 = .ok (.lload_n 1, 1) := dk_31 (by decide +kernel)
theorem dX1_joined_191 : decode cX1_joined 191 = .ok (.lload_n 3, 1) := dk_33 (by decide +kernel)
theorem dX1_joined_192 : decode cX1_joined 192 = .ok (.lcmp, 1) := dk_148 (by decide +kernel)
theorem dX1_joined_193 : decode cX1_joined 193 = .ok (.ifCond .ne 7, 3) := dk_154 (by decide +kernel)
theorem dX1_joined_196 : decode cX1_joined 196 = .ok (.lconst 1, 1) := dk_10 (by decide +kernel)
theorem dX1_joined_197 : decode cX1_joined 197 = .ok (.goto 4, 3) := dk_167 (by decide +kernel)
theorem dX1_joined_200 : decode cX1_joined 200 = .ok (.lconst 0, 1) := dk_9 (by decide +kernel)
theorem dX1_joined_201 : decode cX1_joined 201 = .ok (.lreturn, 1) := dk_173 (by decide +kernel)
theorem dX1_joined_202 : decode cX1_joined 202 = .ok (.lload_n 1, 1) := dk_31 (by decide +kernel)
theorem dX1_joined_203 : decode cX1_joined 203 = .ok (.lload_n 3, 1) := dk_33 (by decide +kernel)
theorem dX1_joined_204 : decode cX1_joined 204 = .ok (.lcmp, 1) := dk_148 (by decide +kernel)
theorem dX1_joined_205 : decode cX1_joined 205 = .ok (.ifCond .eq 7, 3) := dk_153 (by decide +kernel)
theorem dX1_joined_208 : decode cX1_joined 208 = .ok (.lconst 1, 1) := dk_10 (by decide +kernel)
theorem dX1_joined_209 : decode cX1_joined 209 = .ok (.goto 4, 3) := dk_167 (by decide +kernel)
theorem dX1_joined_212 : decode cX1_joined 212 = .ok (.lconst 0, 1) := dk_9 (by decide +kernel)
theorem dX1_joined_213 : decode cX1_joined 213 = .ok (.lreturn, 1) := dk_173 (by decide +kernel)
theorem dX1_joined_214 : decode cX1_joined 214 = .ok (.lload_n 1, 1) := dk_31 (by decide +kernel)
theorem dX1_joined_215 : decode cX1_joined 215 = .ok (.lload_n 3, 1) := dk_33 (by decide +kernel)
theorem dX1_joined_216 : decode cX1_joined 216 = .ok (.land, 1) := dk_127 (by decide +kernel)
theorem dX1_joined_217 : decode cX1_joined 217 = .ok (.lreturn, 1) := dk_173 (by decide +kernel)
theorem dX1_joined_218 : decode cX1_joined 218 = .ok (.lload_n 1, 1) := dk_31 (by decide +kernel)
theorem dX1_joined_219 : decode cX1_joined 219 = .ok (.lload_n 3, 1) := dk_33 (by decide +kernel)
theorem dX1_joined_220 : decode cX1_joined 220 = .ok (.lor, 1) := dk_129 (by decide +kernel)
theorem dX1_joined_221 : decode cX1_joined 221 = .ok (.lreturn, 1) := dk_173 (by decide +kernel)
theorem dX2_parse_0 : decode cX2_parse 0 = .ok (.aload_n 0, 1) := dk_42 (by decide +kernel)
theorem dX2_parse_1 : decode cX2_parse 1 = .ok (.iconst 0, 1) := dk_3 (by decide +kernel)
theorem dX2_parse_2 : decode cX2_parse 2 = .ok (.putfield 9, 3) := dk_181 (by decide +kernel)
theorem dX2_parse_5 : decode cX2_parse 5 = .ok (.aload_n 0, 1) := dk_42 (by decide +kernel)
theorem dX2_parse_6 : decode cX2_parse 6 = .ok (.iconst (-1), 1) := dk_2 (by decide +kernel)
theorem dX2_parse_7 : decode cX2_parse 7 = .ok (.putfield 15, 3) := dk_181 (by decide +kernel)
theorem dX2_parse_10 : decode cX2_parse 10 = .ok (.aload_n 2, 1) := dk_44 (by decide +kernel)
theorem dX2_parse_11 : decode cX2_parse 11 = .ok (.invokevirtual 21, 3) := dk_182 (by decide +kernel)
theorem dX2_parse_14 : decode cX2_parse 14 = .ok (.iconst 0, 1) := dk_3 (by decide +kernel)
theorem dX2_parse_15 : decode cX2_parse 15 = .ok (.istore_n 3, 1) := dk_62 (by decide +kernel)
theorem dX2_parse_16 : decode cX2_parse 16 = .ok (.iload_n 3, 1) := dk_29 (by decide +kernel)
theorem dX2_parse_17 : decode cX2_parse 17 = .ok (.bipush 24, 2) := dk_16 (by decide +kernel)
theorem dX2_parse_19 : decode cX2_parse 19 = .ok (.if_icmp .gt 29, 3) := dk_163 (by decide +kernel)
theorem dX2_parse_22 : decode cX2_parse 22 = .ok (.aload_n 0, 1) := dk_42 (by decide +kernel)
theorem dX2_parse_23 : decode cX2_parse 23 = .ok (.getfield 9, 3) := dk_180 (by decide +kernel)
theorem dX2_parse_26 : decode cX2_parse 26 = .ok (.ifCond .ne 22, 3) := dk_154 (by decide +kernel)
theorem dX2_parse_29 : decode cX2_parse 29 = .ok (.aload_n 1, 1) := dk_43 (by decide +kernel)
theorem dX2_parse_30 : decode cX2_parse 30 = .ok (.invokevirtual 26, 3) := dk_182 (by decide +kernel)
theorem dX2_parse_33 : decode cX2_parse 33 = .ok (.ifCond .eq 15, 3) := dk_153 (by decide +kernel)
theorem dX2_parse_36 : decode cX2_parse 36 = .ok (.aload_n 0, 1) := dk_42 (by decide +kernel)
theorem dX2_parse_37 : decode cX2_parse 37 = .ok (.aload_n 1, 1) := dk_43 (by decide +kernel)
theorem dX2_parse_38 : decode cX2_parse 38 = .ok (.aload_n 2, 1) := dk_44 (by decide +kernel)
theorem dX2_parse_39 : decode cX2_parse 39 = .ok (.invokevirtual 32, 3) := dk_182 (by decide +kernel)
theorem dX2_parse_42 : decode cX2_parse 42 = .ok (.iinc 3 1, 3) := dk_132 (by decide +kernel)
theorem dX2_parse_45 : decode cX2_parse 45 = .ok (.goto (-29), 3) := dk_167 (by decide +kernel)
theorem dX2_parse_48 : decode cX2_parse 48 = .ok (.return_, 1) := dk_177 (by decide +kernel)
theorem dX2_fail_0 : decode cX2_fail 0 = .ok (.aload_n 0, 1) := dk_42 (by decide +kernel)
theorem dX2_fail_1 : decode cX2_fail 1 = .ok (.getfield 9, 3) := dk_180 (by decide +kernel)
theorem dX2_fail_4 : decode cX2_fail 4 = .ok (.ifCond .ne 16, 3) := dk_154 (by decide +kernel)
theorem dX2_fail_7 : decode cX2_fail 7 = .ok (.aload_n 0, 1) := dk_42 (by decide +kernel)
theorem dX2_fail_8 : decode cX2_fail 8 = .ok (.iload_n 2, 1) := dk_28 (by decide +kernel)
theorem dX2_fail_9 : decode cX2_fail 9 = .ok (.putfield 9, 3) := dk_181 (by decide +kernel)
theorem dX2_fail_12 : decode cX2_fail 12 = .ok (.aload_n 0, 1) := dk_42 (by decide +kernel)
theorem dX2_fail_13 : decode cX2_fail 13 = .ok (.aload_n 1, 1) := dk_43 (by decide +kernel)
theorem dX2_fail_14 : decode cX2_fail 14 = .ok (.invokevirtual 36, 3) := dk_182 (by decide +kernel)
theorem dX2_fail_17 : decode cX2_fail 17 = .ok (.putfield 15, 3) := dk_181 (by decide +kernel)
theorem dX2_fail_20 : decode cX2_fail 20 = .ok (.return_, 1) := dk_177 (by decide +kernel)
theorem dX2_readClause_0 : decode cX2_readClause 0 = .ok (.aload_n 1, 1) := dk_43 (by decide +kernel)
theorem dX2_readClause_1 : decode cX2_readClause 1 = .ok (.invokevirtual 26, 3) := dk_182 (by decide +kernel)
theorem dX2_readClause_4 : decode cX2_readClause 4 = .ok (.istore_n 3, 1) := dk_62 (by decide +kernel)
theorem dX2_readClause_5 : decode cX2_readClause 5 = .ok (.aload_n 0, 1) := dk_42 (by decide +kernel)
theorem dX2_readClause_6 : decode cX2_readClause 6 = .ok (.iload_n 3, 1) := dk_29 (by decide +kernel)
theorem dX2_readClause_7 : decode cX2_readClause 7 = .ok (.bipush 16, 2) := dk_16 (by decide +kernel)
theorem dX2_readClause_9 : decode cX2_readClause 9 = .ok (.isub, 1) := dk_100 (by decide +kernel)
theorem dX2_readClause_10 : decode cX2_readClause 10 = .ok (.putfield 18, 3) := dk_181 (by decide +kernel)
theorem dX2_readClause_13 : decode cX2_readClause 13 = .ok (.iload_n 3, 1) := dk_29 (by decide +kernel)
theorem dX2_readClause_14 : decode cX2_readClause 14 = .ok (.bipush 16, 2) := dk_16 (by decide +kernel)
theorem dX2_readClause_16 : decode cX2_readClause 16 = .ok (.if_icmp .lt 9, 3) := dk_161 (by decide +kernel)
theorem dX2_readClause_19 : decode cX2_readClause 19 = .ok (.iload_n 3, 1) := dk_29 (by decide +kernel)
theorem dX2_readClause_20 : decode cX2_readClause 20 = .ok (.bipush 23, 2) := dk_16 (by decide +kernel)
theorem dX2_readClause_22 : decode cX2_readClause 22 = .ok (.if_icmp .le 12, 3) := dk_164 (by decide +kernel)
theorem dX2_readClause_25 : decode cX2_readClause 25 = .ok (.aload_n 0, 1) := dk_42 (by decide +kernel)
theorem dX2_readClause_26 : decode cX2_readClause 26 = .ok (.aload_n 1, 1) := dk_43 (by decide +kernel)
theorem dX2_readClause_27 : decode cX2_readClause 27 = .ok (.iconst 1, 1) := dk_4 (by decide +kernel)
theorem dX2_readClause_28 : decode cX2_readClause 28 = .ok (.invokevirtual 39, 3) := dk_182 (by decide +kernel)
theorem dX2_readClause_31 : decode cX2_readClause 31 = .ok (.goto 127, 3) := dk_167 (by decide +kernel)
theorem dX2_readClause_34 : decode cX2_readClause 34 = .ok (.aload_n 2, 1) := dk_44 (by decide +kernel)
theorem dX2_readClause_35 : decode cX2_readClause 35 = .ok (.aload_n 0, 1) := dk_42 (by decide +kernel)
theorem dX2_readClause_36 : decode cX2_readClause 36 = .ok (.getfield 18, 3) := dk_180 (by decide +kernel)
theorem dX2_readClause_39 : decode cX2_readClause 39 = .ok (.invokevirtual 43, 3) := dk_182 (by decide +kernel)
theorem dX2_readClause_42 : decode cX2_readClause 42 = .ok (.ifCond .eq 12, 3) := dk_153 (by decide +kernel)
theorem dX2_readClause_45 : decode cX2_readClause 45 = .ok (.aload_n 0, 1) := dk_42 (by decide +kernel)
theorem dX2_readClause_46 : decode cX2_readClause 46 = .ok (.aload_n 1, 1) := dk_43 (by decide +kernel)
theorem dX2_readClause_47 : decode cX2_readClause 47 = .ok (.iconst 4, 1) := dk_7 (by decide +kernel)
theorem dX2_readClause_48 : decode cX2_readClause 48 = .ok (.invokevirtual 39, 3) := dk_182 (by decide +kernel)
theorem dX2_readClause_51 : decode cX2_readClause 51 = .ok (.goto 107, 3) := dk_167 (by decide +kernel)
theorem dX2_readClause_54 : decode cX2_readClause 54 = .ok (.aload_n 2, 1) := dk_44 (by decide +kernel)
theorem dX2_readClause_55 : decode cX2_readClause 55 = .ok (.getfield 47, 3) := dk_180 (by decide +kernel)
theorem dX2_readClause_58 : decode cX2_readClause 58 = .ok (.bipush 24, 2) := dk_16 (by decide +kernel)
theorem dX2_readClause_60 : decode cX2_readClause 60 = .ok (.if_icmp .lt 13, 3) := dk_161 (by decide +kernel)
theorem dX2_readClause_63 : decode cX2_readClause 63 = .ok (.aload_n 0, 1) := dk_42 (by decide +kernel)
theorem dX2_readClause_64 : decode cX2_readClause 64 = .ok (.aload_n 1, 1) := dk_43 (by decide +kernel)
theorem dX2_readClause_65 : decode cX2_readClause 65 = .ok (.bipush 6, 2) := dk_16 (by decide +kernel)
theorem dX2_readClause_67 : decode cX2_readClause 67 = .ok (.invokevirtual 39, 3) := dk_182 (by decide +kernel)
theorem dX2_readClause_70 : decode cX2_readClause 70 = .ok (.goto 88, 3) := dk_167 (by decide +kernel)
theorem dX2_readClause_73 : decode cX2_readClause 73 = .ok (.aload_n 2, 1) := dk_44 (by decide +kernel)
theorem dX2_readClause_74 : decode cX2_readClause 74 = .ok (.aload_n 2, 1) := dk_44 (by decide +kernel)
theorem dX2_readClause_75 : decode cX2_readClause 75 = .ok (.getfield 47, 3) := dk_180 (by decide +kernel)
theorem dX2_readClause_78 : decode cX2_readClause 78 = .ok (.iconst 0, 1) := dk_3 (by decide +kernel)
theorem dX2_readClause_79 : decode cX2_readClause 79 = .ok (.iload_n 3, 1) := dk_29 (by decide +kernel)
theorem dX2_readClause_80 : decode cX2_readClause 80 = .ok (.invokevirtual 50, 3) := dk_182 (by decide +kernel)
theorem dX2_readClause_83 : decode cX2_readClause 83 = .ok (.aload_n 1, 1) := dk_43 (by decide +kernel)
theorem dX2_readClause_84 : decode cX2_readClause 84 = .ok (.invokevirtual 54, 3) := dk_182 (by decide +kernel)
theorem dX2_readClause_87 : decode cX2_readClause 87 = .ok (.aload_n 0, 1) := dk_42 (by decide +kernel)
theorem dX2_readClause_88 : decode cX2_readClause 88 = .ok (.getfield 18, 3) := dk_180 (by decide +kernel)
theorem dX2_readClause_91 : decode cX2_readClause 91 = .ok (.iconst 4, 1) := dk_7 (by decide +kernel)
theorem dX2_readClause_92 : decode cX2_readClause 92 = .ok (.if_icmp .ge 42, 3) := dk_162 (by decide +kernel)
theorem dX2_readClause_95 : decode cX2_readClause 95 = .ok (.aload_n 2, 1) := dk_44 (by decide +kernel)
theorem dX2_readClause_96 : decode cX2_readClause 96 = .ok (.aload_n 0, 1) := dk_42 (by decide +kernel)
theorem dX2_readClause_97 : decode cX2_readClause 97 = .ok (.getfield 18, 3) := dk_180 (by decide +kernel)
theorem dX2_readClause_100 : decode cX2_readClause 100 = .ok (.invokevirtual 57, 3) := dk_182 (by decide +kernel)
theorem dX2_readClause_103 : decode cX2_readClause 103 = .ok (.aload_n 0, 1) := dk_42 (by decide +kernel)
theorem dX2_readClause_104 : decode cX2_readClause 104 = .ok (.aload_n 1, 1) := dk_43 (by decide +kernel)
theorem dX2_readClause_105 : decode cX2_readClause 105 = .ok (.aload_n 2, 1) := dk_44 (by decide +kernel)
theorem dX2_readClause_106 : decode cX2_readClause 106 = .ok (.aload_n 0, 1) := dk_42 (by decide +kernel)
theorem dX2_readClause_107 : decode cX2_readClause 107 = .ok (.getfield 18, 3) := dk_180 (by decide +kernel)
theorem dX2_readClause_110 : decode cX2_readClause 110 = .ok (.iconst 3, 1) := dk_6 (by decide +kernel)
theorem dX2_readClause_111 : decode cX2_readClause 111 = .ok (.if_icmp .ne 7, 3) := dk_160 (by decide +kernel)
theorem dX2_readClause_114 : decode cX2_readClause 114 = .ok (.iconst 0, 1) := dk_3 (by decide +kernel)
theorem dX2_readClause_115 : decode cX2_readClause 115 = .ok (.goto 4, 3) := dk_167 (by decide +kernel)
theorem dX2_readClause_118 : decode cX2_readClause 118 = .ok (.iconst 3, 1) := dk_6 (by decide +kernel)
theorem dX2_readClause_119 : decode cX2_readClause 119 = .ok (.iconst 0, 1) := dk_3 (by decide +kernel)
theorem dX2_readClause_120 : decode cX2_readClause 120 = .ok (.invokevirtual 61, 3) := dk_182 (by decide +kernel)
theorem dX2_readClause_123 : decode cX2_readClause 123 = .ok (.aload_n 2, 1) := dk_44 (by decide +kernel)
theorem dX2_readClause_124 : decode cX2_readClause 124 = .ok (.aload_n 0, 1) := dk_42 (by decide +kernel)
theorem dX2_readClause_125 : decode cX2_readClause 125 = .ok (.getfield 18, 3) := dk_180 (by decide +kernel)
theorem dX2_readClause_128 : decode cX2_readClause 128 = .ok (.invokevirtual 65, 3) := dk_182 (by decide +kernel)
theorem dX2_readClause_131 : decode cX2_readClause 131 = .ok (.goto 10, 3) := dk_167 (by decide +kernel)
theorem dX2_readClause_134 : decode cX2_readClause 134 = .ok (.aload_n 0, 1) := dk_42 (by decide +kernel)
theorem dX2_readClause_135 : decode cX2_readClause 135 = .ok (.aload_n 1, 1) := dk_43 (by decide +kernel)
theorem dX2_readClause_136 : decode cX2_readClause 136 = .ok (.aload_n 2, 1) := dk_44 (by decide +kernel)
theorem dX2_readClause_137 : decode cX2_readClause 137 = .ok (.iload_n 3, 1) := dk_29 (by decide +kernel)
theorem dX2_readClause_138 : decode cX2_readClause 138 = .ok (.invokevirtual 68, 3) := dk_182 (by decide +kernel)
theorem dX2_readClause_141 : decode cX2_readClause 141 = .ok (.aload_n 0, 1) := dk_42 (by decide +kernel)
theorem dX2_readClause_142 : decode cX2_readClause 142 = .ok (.aload_n 1, 1) := dk_43 (by decide +kernel)
theorem dX2_readClause_143 : decode cX2_readClause 143 = .ok (.bipush 15, 2) := dk_16 (by decide +kernel)
theorem dX2_readClause_145 : decode cX2_readClause 145 = .ok (.invokevirtual 72, 3) := dk_182 (by decide +kernel)
theorem dX2_readClause_148 : decode cX2_readClause 148 = .ok (.aload_n 2, 1) := dk_44 (by decide +kernel)
theorem dX2_readClause_149 : decode cX2_readClause 149 = .ok (.dup, 1) := dk_89 (by decide +kernel)
theorem dX2_readClause_150 : decode cX2_readClause 150 = .ok (.getfield 47, 3) := dk_180 (by decide +kernel)
theorem dX2_readClause_153 : decode cX2_readClause 153 = .ok (.iconst 1, 1) := dk_4 (by decide +kernel)
theorem dX2_readClause_154 : decode cX2_readClause 154 = .ok (.iadd, 1) := dk_96 (by decide +kernel)
theorem dX2_readClause_155 : decode cX2_readClause 155 = .ok (.putfield 47, 3) := dk_181 (by decide +kernel)
theorem dX2_readClause_158 : decode cX2_readClause 158 = .ok (.return_, 1) := dk_177 (by decide +kernel)
theorem dX2_readDeed_0 : decode cX2_readDeed 0 = .ok (.iload_n 3, 1) := dk_29 (by decide +kernel)
theorem dX2_readDeed_1 : decode cX2_readDeed 1 = .ok (.bipush 23, 2) := dk_16 (by decide +kernel)
theorem dX2_readDeed_3 : decode cX2_readDeed 3 = .ok (.if_icmp .ne 14, 3) := dk_160 (by decide +kernel)
theorem dX2_readDeed_6 : decode cX2_readDeed 6 = .ok (.aload_n 0, 1) := dk_42 (by decide +kernel)
theorem dX2_readDeed_7 : decode cX2_readDeed 7 = .ok (.aload_n 1, 1) := dk_43 (by decide +kernel)
theorem dX2_readDeed_8 : decode cX2_readDeed 8 = .ok (.aload_n 2, 1) := dk_44 (by decide +kernel)
theorem dX2_readDeed_9 : decode cX2_readDeed 9 = .ok (.iconst 1, 1) := dk_4 (by decide +kernel)
theorem dX2_readDeed_10 : decode cX2_readDeed 10 = .ok (.iconst 1, 1) := dk_4 (by decide +kernel)
theorem dX2_readDeed_11 : decode cX2_readDeed 11 = .ok (.bipush 99, 2) := dk_16 (by decide +kernel)
theorem dX2_readDeed_13 : decode cX2_readDeed 13 = .ok (.invokevirtual 75, 3) := dk_182 (by decide +kernel)
theorem dX2_readDeed_16 : decode cX2_readDeed 16 = .ok (.return_, 1) := dk_177 (by decide +kernel)
theorem dX2_readDeed_17 : decode cX2_readDeed 17 = .ok (.aload_n 0, 1) := dk_42 (by decide +kernel)
theorem dX2_readDeed_18 : decode cX2_readDeed 18 = .ok (.aload_n 1, 1) := dk_43 (by decide +kernel)
theorem dX2_readDeed_19 : decode cX2_readDeed 19 = .ok (.aload_n 2, 1) := dk_44 (by decide +kernel)
theorem dX2_readDeed_20 : decode cX2_readDeed 20 = .ok (.iconst 1, 1) := dk_4 (by decide +kernel)
theorem dX2_readDeed_21 : decode cX2_readDeed 21 = .ok (.iconst 0, 1) := dk_3 (by decide +kernel)
theorem dX2_readDeed_22 : decode cX2_readDeed 22 = .ok (.bipush 9, 2) := dk_16 (by decide +kernel)
theorem dX2_readDeed_24 : decode cX2_readDeed 24 = .ok (.invokevirtual 75, 3) := dk_182 (by decide +kernel)
theorem dX2_readDeed_27 : decode cX2_readDeed 27 = .ok (.iload_n 3, 1) := dk_29 (by decide +kernel)
theorem dX2_readDeed_28 : decode cX2_readDeed 28 = .ok (.bipush 20, 2) := dk_16 (by decide +kernel)
theorem dX2_readDeed_30 : decode cX2_readDeed 30 = .ok (.if_icmp .ne 38, 3) := dk_160 (by decide +kernel)
theorem dX2_readDeed_33 : decode cX2_readDeed 33 = .ok (.aload_n 0, 1) := dk_42 (by decide +kernel)
theorem dX2_readDeed_34 : decode cX2_readDeed 34 = .ok (.aload_n 1, 1) := dk_43 (by decide +kernel)
theorem dX2_readDeed_35 : decode cX2_readDeed 35 = .ok (.bipush 24, 2) := dk_16 (by decide +kernel)
theorem dX2_readDeed_37 : decode cX2_readDeed 37 = .ok (.invokevirtual 72, 3) := dk_182 (by decide +kernel)
theorem dX2_readDeed_40 : decode cX2_readDeed 40 = .ok (.aload_n 0, 1) := dk_42 (by decide +kernel)
theorem dX2_readDeed_41 : decode cX2_readDeed 41 = .ok (.aload_n 1, 1) := dk_43 (by decide +kernel)
theorem dX2_readDeed_42 : decode cX2_readDeed 42 = .ok (.aload_n 2, 1) := dk_44 (by decide +kernel)
theorem dX2_readDeed_43 : decode cX2_readDeed 43 = .ok (.iconst 2, 1) := dk_5 (by decide +kernel)
theorem dX2_readDeed_44 : decode cX2_readDeed 44 = .ok (.iconst 0, 1) := dk_3 (by decide +kernel)
theorem dX2_readDeed_45 : decode cX2_readDeed 45 = .ok (.iconst 5, 1) := dk_8 (by decide +kernel)
theorem dX2_readDeed_46 : decode cX2_readDeed 46 = .ok (.invokevirtual 75, 3) := dk_182 (by decide +kernel)
theorem dX2_readDeed_49 : decode cX2_readDeed 49 = .ok (.aload_n 0, 1) := dk_42 (by decide +kernel)
theorem dX2_readDeed_50 : decode cX2_readDeed 50 = .ok (.aload_n 1, 1) := dk_43 (by decide +kernel)
theorem dX2_readDeed_51 : decode cX2_readDeed 51 = .ok (.bipush 33, 2) := dk_16 (by decide +kernel)
theorem dX2_readDeed_53 : decode cX2_readDeed 53 = .ok (.invokevirtual 72, 3) := dk_182 (by decide +kernel)
theorem dX2_readDeed_56 : decode cX2_readDeed 56 = .ok (.aload_n 0, 1) := dk_42 (by decide +kernel)
theorem dX2_readDeed_57 : decode cX2_readDeed 57 = .ok (.aload_n 1, 1) := dk_43 (by decide +kernel)
theorem dX2_readDeed_58 : decode cX2_readDeed 58 = .ok (.aload_n 2, 1) := dk_44 (by decide +kernel)
theorem dX2_readDeed_59 : decode cX2_readDeed 59 = .ok (.iconst 3, 1) := dk_6 (by decide +kernel)
theorem dX2_readDeed_60 : decode cX2_readDeed 60 = .ok (.iconst 0, 1) := dk_3 (by decide +kernel)
theorem dX2_readDeed_61 : decode cX2_readDeed 61 = .ok (.iconst 2, 1) := dk_5 (by decide +kernel)
theorem dX2_readDeed_62 : decode cX2_readDeed 62 = .ok (.invokevirtual 75, 3) := dk_182 (by decide +kernel)
theorem dX2_readDeed_65 : decode cX2_readDeed 65 = .ok (.goto 25, 3) := dk_167 (by decide +kernel)
theorem dX2_readDeed_68 : decode cX2_readDeed 68 = .ok (.iload_n 3, 1) := dk_29 (by decide +kernel)
theorem dX2_readDeed_69 : decode cX2_readDeed 69 = .ok (.bipush 21, 2) := dk_16 (by decide +kernel)
theorem dX2_readDeed_71 : decode cX2_readDeed 71 = .ok (.if_icmp .ne 19, 3) := dk_160 (by decide +kernel)
theorem dX2_readDeed_74 : decode cX2_readDeed 74 = .ok (.aload_n 0, 1) := dk_42 (by decide +kernel)
theorem dX2_readDeed_75 : decode cX2_readDeed 75 = .ok (.aload_n 1, 1) := dk_43 (by decide +kernel)
theorem dX2_readDeed_76 : decode cX2_readDeed 76 = .ok (.bipush 25, 2) := dk_16 (by decide +kernel)
theorem dX2_readDeed_78 : decode cX2_readDeed 78 = .ok (.invokevirtual 72, 3) := dk_182 (by decide +kernel)
theorem dX2_readDeed_81 : decode cX2_readDeed 81 = .ok (.aload_n 0, 1) := dk_42 (by decide +kernel)
theorem dX2_readDeed_82 : decode cX2_readDeed 82 = .ok (.aload_n 1, 1) := dk_43 (by decide +kernel)
theorem dX2_readDeed_83 : decode cX2_readDeed 83 = .ok (.aload_n 2, 1) := dk_44 (by decide +kernel)
theorem dX2_readDeed_84 : decode cX2_readDeed 84 = .ok (.iconst 2, 1) := dk_5 (by decide +kernel)
theorem dX2_readDeed_85 : decode cX2_readDeed 85 = .ok (.iconst 0, 1) := dk_3 (by decide +kernel)
theorem dX2_readDeed_86 : decode cX2_readDeed 86 = .ok (.iconst 3, 1) := dk_6 (by decide +kernel)
theorem dX2_readDeed_87 : decode cX2_readDeed 87 = .ok (.invokevirtual 75, 3) := dk_182 (by decide +kernel)
theorem dX2_readDeed_90 : decode cX2_readDeed 90 = .ok (.return_, 1) := dk_177 (by decide +kernel)
theorem dX2_expect_0 : decode cX2_expect 0 = .ok (.aload_n 0, 1) := dk_42 (by decide +kernel)
theorem dX2_expect_1 : decode cX2_expect 1 = .ok (.getfield 9, 3) := dk_180 (by decide +kernel)
theorem dX2_expect_4 : decode cX2_expect 4 = .ok (.ifCond .eq 4, 3) := dk_153 (by decide +kernel)
theorem dX2_expect_7 : decode cX2_expect 7 = .ok (.return_, 1) := dk_177 (by decide +kernel)
theorem dX2_expect_8 : decode cX2_expect 8 = .ok (.aload_n 1, 1) := dk_43 (by decide +kernel)
theorem dX2_expect_9 : decode cX2_expect 9 = .ok (.invokevirtual 26, 3) := dk_182 (by decide +kernel)
theorem dX2_expect_12 : decode cX2_expect 12 = .ok (.iload_n 2, 1) := dk_28 (by decide +kernel)
theorem dX2_expect_13 : decode cX2_expect 13 = .ok (.if_icmp .ne 10, 3) := dk_160 (by decide +kernel)
theorem dX2_expect_16 : decode cX2_expect 16 = .ok (.aload_n 1, 1) := dk_43 (by decide +kernel)
theorem dX2_expect_17 : decode cX2_expect 17 = .ok (.invokevirtual 54, 3) := dk_182 (by decide +kernel)
theorem dX2_expect_20 : decode cX2_expect 20 = .ok (.goto 9, 3) := dk_167 (by decide +kernel)
theorem dX2_expect_23 : decode cX2_expect 23 = .ok (.aload_n 0, 1) := dk_42 (by decide +kernel)
theorem dX2_expect_24 : decode cX2_expect 24 = .ok (.aload_n 1, 1) := dk_43 (by decide +kernel)
theorem dX2_expect_25 : decode cX2_expect 25 = .ok (.iconst 1, 1) := dk_4 (by decide +kernel)
theorem dX2_expect_26 : decode cX2_expect 26 = .ok (.invokevirtual 39, 3) := dk_182 (by decide +kernel)
theorem dX2_expect_29 : decode cX2_expect 29 = .ok (.return_, 1) := dk_177 (by decide +kernel)
theorem dX2_readNumber_0 : decode cX2_readNumber 0 = .ok (.aload_n 0, 1) := dk_42 (by decide +kernel)
theorem dX2_readNumber_1 : decode cX2_readNumber 1 = .ok (.getfield 9, 3) := dk_180 (by decide +kernel)
theorem dX2_readNumber_4 : decode cX2_readNumber 4 = .ok (.ifCond .eq 4, 3) := dk_153 (by decide +kernel)
theorem dX2_readNumber_7 : decode cX2_readNumber 7 = .ok (.return_, 1) := dk_177 (by decide +kernel)
theorem dX2_readNumber_8 : decode cX2_readNumber 8 = .ok (.aload_n 1, 1) := dk_43 (by decide +kernel)
theorem dX2_readNumber_9 : decode cX2_readNumber 9 = .ok (.invokevirtual 26, 3) := dk_182 (by decide +kernel)
theorem dX2_readNumber_12 : decode cX2_readNumber 12 = .ok (.iconst 2, 1) := dk_5 (by decide +kernel)
theorem dX2_readNumber_13 : decode cX2_readNumber 13 = .ok (.if_icmp .eq 12, 3) := dk_159 (by decide +kernel)
theorem dX2_readNumber_16 : decode cX2_readNumber 16 = .ok (.aload_n 0, 1) := dk_42 (by decide +kernel)
theorem dX2_readNumber_17 : decode cX2_readNumber 17 = .ok (.aload_n 1, 1) := dk_43 (by decide +kernel)
theorem dX2_readNumber_18 : decode cX2_readNumber 18 = .ok (.iconst 1, 1) := dk_4 (by decide +kernel)
theorem dX2_readNumber_19 : decode cX2_readNumber 19 = .ok (.invokevirtual 39, 3) := dk_182 (by decide +kernel)
theorem dX2_readNumber_22 : decode cX2_readNumber 22 = .ok (.goto 47, 3) := dk_167 (by decide +kernel)
theorem dX2_readNumber_25 : decode cX2_readNumber 25 = .ok (.aload_n 1, 1) := dk_43 (by decide +kernel)
theorem dX2_readNumber_26 : decode cX2_readNumber 26 = .ok (.invokevirtual 79, 3) := dk_182 (by decide +kernel)
theorem dX2_readNumber_29 : decode cX2_readNumber 29 = .ok (.iload 4, 2) := dk_21 (by decide +kernel)
theorem dX2_readNumber_31 : decode cX2_readNumber 31 = .ok (.if_icmp .lt 12, 3) := dk_161 (by decide +kernel)
theorem dX2_readNumber_34 : decode cX2_readNumber 34 = .ok (.aload_n 1, 1) := dk_43 (by decide +kernel)
theorem dX2_readNumber_35 : decode cX2_readNumber 35 = .ok (.invokevirtual 79, 3) := dk_182 (by decide +kernel)
theorem dX2_readNumber_38 : decode cX2_readNumber 38 = .ok (.iload 5, 2) := dk_21 (by decide +kernel)
theorem dX2_readNumber_40 : decode cX2_readNumber 40 = .ok (.if_icmp .le 12, 3) := dk_164 (by decide +kernel)
theorem dX2_readNumber_43 : decode cX2_readNumber 43 = .ok (.aload_n 0, 1) := dk_42 (by decide +kernel)
theorem dX2_readNumber_44 : decode cX2_readNumber 44 = .ok (.aload_n 1, 1) := dk_43 (by decide +kernel)
theorem dX2_readNumber_45 : decode cX2_readNumber 45 = .ok (.iconst 2, 1) := dk_5 (by decide +kernel)
theorem dX2_readNumber_46 : decode cX2_readNumber 46 = .ok (.invokevirtual 39, 3) := dk_182 (by decide +kernel)
theorem dX2_readNumber_49 : decode cX2_readNumber 49 = .ok (.goto 20, 3) := dk_167 (by decide +kernel)
theorem dX2_readNumber_52 : decode cX2_readNumber 52 = .ok (.aload_n 2, 1) := dk_44 (by decide +kernel)
theorem dX2_readNumber_53 : decode cX2_readNumber 53 = .ok (.aload_n 2, 1) := dk_44 (by decide +kernel)
theorem dX2_readNumber_54 : decode cX2_readNumber 54 = .ok (.getfield 47, 3) := dk_180 (by decide +kernel)
theorem dX2_readNumber_57 : decode cX2_readNumber 57 = .ok (.iload_n 3, 1) := dk_29 (by decide +kernel)
theorem dX2_readNumber_58 : decode cX2_readNumber 58 = .ok (.aload_n 1, 1) := dk_43 (by decide +kernel)
theorem dX2_readNumber_59 : decode cX2_readNumber 59 = .ok (.invokevirtual 79, 3) := dk_182 (by decide +kernel)
theorem dX2_readNumber_62 : decode cX2_readNumber 62 = .ok (.invokevirtual 50, 3) := dk_182 (by decide +kernel)
theorem dX2_readNumber_65 : decode cX2_readNumber 65 = .ok (.aload_n 1, 1) := dk_43 (by decide +kernel)
theorem dX2_readNumber_66 : decode cX2_readNumber 66 = .ok (.invokevirtual 54, 3) := dk_182 (by decide +kernel)
theorem dX2_readNumber_69 : decode cX2_readNumber 69 = .ok (.return_, 1) := dk_177 (by decide +kernel)
theorem dX2_readLevel_0 : decode cX2_readLevel 0 = .ok (.iload_n 3, 1) := dk_29 (by decide +kernel)
theorem dX2_readLevel_1 : decode cX2_readLevel 1 = .ok (.iconst 2, 1) := dk_5 (by decide +kernel)
theorem dX2_readLevel_2 : decode cX2_readLevel 2 = .ok (.if_icmp .ne 12, 3) := dk_160 (by decide +kernel)
theorem dX2_readLevel_5 : decode cX2_readLevel 5 = .ok (.aload_n 0, 1) := dk_42 (by decide +kernel)
theorem dX2_readLevel_6 : decode cX2_readLevel 6 = .ok (.aload_n 1, 1) := dk_43 (by decide +kernel)
theorem dX2_readLevel_7 : decode cX2_readLevel 7 = .ok (.aload_n 2, 1) := dk_44 (by decide +kernel)
theorem dX2_readLevel_8 : decode cX2_readLevel 8 = .ok (.iload 4, 2) := dk_21 (by decide +kernel)
theorem dX2_readLevel_10 : decode cX2_readLevel 10 = .ok (.invokevirtual 82, 3) := dk_182 (by decide +kernel)
theorem dX2_readLevel_13 : decode cX2_readLevel 13 = .ok (.return_, 1) := dk_177 (by decide +kernel)
theorem dX2_readLevel_14 : decode cX2_readLevel 14 = .ok (.iload_n 3, 1) := dk_29 (by decide +kernel)
theorem dX2_readLevel_15 : decode cX2_readLevel 15 = .ok (.iconst 5, 1) := dk_8 (by decide +kernel)
theorem dX2_readLevel_16 : decode cX2_readLevel 16 = .ok (.if_icmp .ne 12, 3) := dk_160 (by decide +kernel)
theorem dX2_readLevel_19 : decode cX2_readLevel 19 = .ok (.aload_n 0, 1) := dk_42 (by decide +kernel)
theorem dX2_readLevel_20 : decode cX2_readLevel 20 = .ok (.aload_n 1, 1) := dk_43 (by decide +kernel)
theorem dX2_readLevel_21 : decode cX2_readLevel 21 = .ok (.aload_n 2, 1) := dk_44 (by decide +kernel)
theorem dX2_readLevel_22 : decode cX2_readLevel 22 = .ok (.iload 4, 2) := dk_21 (by decide +kernel)
theorem dX2_readLevel_24 : decode cX2_readLevel 24 = .ok (.invokevirtual 85, 3) := dk_182 (by decide +kernel)
theorem dX2_readLevel_27 : decode cX2_readLevel 27 = .ok (.return_, 1) := dk_177 (by decide +kernel)
theorem dX2_readLevel_28 : decode cX2_readLevel 28 = .ok (.aload_n 0, 1) := dk_42 (by decide +kernel)
theorem dX2_readLevel_29 : decode cX2_readLevel 29 = .ok (.aload_n 1, 1) := dk_43 (by decide +kernel)
theorem dX2_readLevel_30 : decode cX2_readLevel 30 = .ok (.aload_n 2, 1) := dk_44 (by decide +kernel)
theorem dX2_readLevel_31 : decode cX2_readLevel 31 = .ok (.iload_n 3, 1) := dk_29 (by decide +kernel)
theorem dX2_readLevel_32 : decode cX2_readLevel 32 = .ok (.iconst 1, 1) := dk_4 (by decide +kernel)
theorem dX2_readLevel_33 : decode cX2_readLevel 33 = .ok (.iadd, 1) := dk_96 (by decide +kernel)
theorem dX2_readLevel_34 : decode cX2_readLevel 34 = .ok (.iload 4, 2) := dk_21 (by decide +kernel)
theorem dX2_readLevel_36 : decode cX2_readLevel 36 = .ok (.invokevirtual 61, 3) := dk_182 (by decide +kernel)
theorem dX2_readLevel_39 : decode cX2_readLevel 39 = .ok (.iconst 0, 1) := dk_3 (by decide +kernel)
theorem dX2_readLevel_40 : decode cX2_readLevel 40 = .ok (.istore 5, 2) := dk_54 (by decide +kernel)
theorem dX2_readLevel_42 : decode cX2_readLevel 42 = .ok (.iload 5, 2) := dk_21 (by decide +kernel)
theorem dX2_readLevel_44 : decode cX2_readLevel 44 = .ok (.sipush 300, 3) := dk_17 (by decide +kernel)
theorem dX2_readLevel_47 : decode cX2_readLevel 47 = .ok (.if_icmp .ge 58, 3) := dk_162 (by decide +kernel)
theorem dX2_readLevel_50 : decode cX2_readLevel 50 = .ok (.aload_n 0, 1) := dk_42 (by decide +kernel)
theorem dX2_readLevel_51 : decode cX2_readLevel 51 = .ok (.getfield 9, 3) := dk_180 (by decide +kernel)
theorem dX2_readLevel_54 : decode cX2_readLevel 54 = .ok (.ifCond .ne 51, 3) := dk_154 (by decide +kernel)
theorem dX2_readLevel_57 : decode cX2_readLevel 57 = .ok (.aload_n 1, 1) := dk_43 (by decide +kernel)
theorem dX2_readLevel_58 : decode cX2_readLevel 58 = .ok (.invokevirtual 26, 3) := dk_182 (by decide +kernel)
theorem dX2_readLevel_61 : decode cX2_readLevel 61 = .ok (.invokestatic 88, 3) := dk_184 (by decide +kernel)
theorem dX2_readLevel_64 : decode cX2_readLevel 64 = .ok (.iload_n 3, 1) := dk_29 (by decide +kernel)
theorem dX2_readLevel_65 : decode cX2_readLevel 65 = .ok (.if_icmp .ne 40, 3) := dk_160 (by decide +kernel)
theorem dX2_readLevel_68 : decode cX2_readLevel 68 = .ok (.aload_n 1, 1) := dk_43 (by decide +kernel)
theorem dX2_readLevel_69 : decode cX2_readLevel 69 = .ok (.invokevirtual 26, 3) := dk_182 (by decide +kernel)
theorem dX2_readLevel_72 : decode cX2_readLevel 72 = .ok (.istore 6, 2) := dk_54 (by decide +kernel)
theorem dX2_readLevel_74 : decode cX2_readLevel 74 = .ok (.aload_n 1, 1) := dk_43 (by decide +kernel)
theorem dX2_readLevel_75 : decode cX2_readLevel 75 = .ok (.invokevirtual 54, 3) := dk_182 (by decide +kernel)
theorem dX2_readLevel_78 : decode cX2_readLevel 78 = .ok (.aload_n 0, 1) := dk_42 (by decide +kernel)
theorem dX2_readLevel_79 : decode cX2_readLevel 79 = .ok (.aload_n 1, 1) := dk_43 (by decide +kernel)
theorem dX2_readLevel_80 : decode cX2_readLevel 80 = .ok (.aload_n 2, 1) := dk_44 (by decide +kernel)
theorem dX2_readLevel_81 : decode cX2_readLevel 81 = .ok (.iload_n 3, 1) := dk_29 (by decide +kernel)
theorem dX2_readLevel_82 : decode cX2_readLevel 82 = .ok (.iconst 1, 1) := dk_4 (by decide +kernel)
theorem dX2_readLevel_83 : decode cX2_readLevel 83 = .ok (.iadd, 1) := dk_96 (by decide +kernel)
theorem dX2_readLevel_84 : decode cX2_readLevel 84 = .ok (.iload 4, 2) := dk_21 (by decide +kernel)
theorem dX2_readLevel_86 : decode cX2_readLevel 86 = .ok (.invokevirtual 61, 3) := dk_182 (by decide +kernel)
theorem dX2_readLevel_89 : decode cX2_readLevel 89 = .ok (.aload_n 2, 1) := dk_44 (by decide +kernel)
theorem dX2_readLevel_90 : decode cX2_readLevel 90 = .ok (.sipush 20000, 3) := dk_17 (by decide +kernel)
theorem dX2_readLevel_93 : decode cX2_readLevel 93 = .ok (.iload 6, 2) := dk_21 (by decide +kernel)
theorem dX2_readLevel_95 : decode cX2_readLevel 95 = .ok (.iadd, 1) := dk_96 (by decide +kernel)
theorem dX2_readLevel_96 : decode cX2_readLevel 96 = .ok (.invokevirtual 92, 3) := dk_182 (by decide +kernel)
theorem dX2_readLevel_99 : decode cX2_readLevel 99 = .ok (.iinc 5 1, 3) := dk_132 (by decide +kernel)
theorem dX2_readLevel_102 : decode cX2_readLevel 102 = .ok (.goto (-60), 3) := dk_167 (by decide +kernel)
theorem dX2_readLevel_105 : decode cX2_readLevel 105 = .ok (.return_, 1) := dk_177 (by decide +kernel)
theorem dX2_levelOf_0 : decode cX2_levelOf 0 = .ok (.iload_n 0, 1) := dk_26 (by decide +kernel)
theorem dX2_levelOf_1 : decode cX2_levelOf 1 = .ok (.tableswitch 103 9 27 #[95, 97, 99, 101, 103, 103, 103, 103, 103, 103, 103, 103, 103, 103, 103, 103, 103, 91, 93], 91) := by decide +kernel
theorem dX2_levelOf_92 : decode cX2_levelOf 92 = .ok (.iconst 0, 1) := dk_3 (by decide +kernel)
theorem dX2_levelOf_93 : decode cX2_levelOf 93 = .ok (.ireturn, 1) := dk_172 (by decide +kernel)
theorem dX2_levelOf_94 : decode cX2_levelOf 94 = .ok (.iconst 1, 1) := dk_4 (by decide +kernel)
theorem dX2_levelOf_95 : decode cX2_levelOf 95 = .ok (.ireturn, 1) := dk_172 (by decide +kernel)
theorem dX2_levelOf_96 : decode cX2_levelOf 96 = .ok (.iconst 3, 1) := dk_6 (by decide +kernel)
theorem dX2_levelOf_97 : decode cX2_levelOf 97 = .ok (.ireturn, 1) := dk_172 (by decide +kernel)
theorem dX2_levelOf_98 : decode cX2_levelOf 98 = .ok (.iconst 3, 1) := dk_6 (by decide +kernel)
theorem dX2_levelOf_99 : decode cX2_levelOf 99 = .ok (.ireturn, 1) := dk_172 (by decide +kernel)
theorem dX2_levelOf_100 : decode cX2_levelOf 100 = .ok (.iconst 4, 1) := dk_7 (by decide +kernel)
theorem dX2_levelOf_101 : decode cX2_levelOf 101 = .ok (.ireturn, 1) := dk_172 (by decide +kernel)
theorem dX2_levelOf_102 : decode cX2_levelOf 102 = .ok (.iconst 4, 1) := dk_7 (by decide +kernel)
theorem dX2_levelOf_103 : decode cX2_levelOf 103 = .ok (.ireturn, 1) := dk_172 (by decide +kernel)
theorem dX2_levelOf_104 : decode cX2_levelOf 104 = .ok (.iconst (-1), 1) := dk_2 (by decide +kernel)
theorem dX2_levelOf_105 : decode cX2_levelOf 105 = .ok (.ireturn, 1) := dk_172 (by decide +kernel)
theorem dX2_readAsk_0 : decode cX2_readAsk 0 = .ok (.aload_n 1, 1) := dk_43 (by decide +kernel)
theorem dX2_readAsk_1 : decode cX2_readAsk 1 = .ok (.invokevirtual 26, 3) := dk_182 (by decide +kernel)
theorem dX2_readAsk_4 : decode cX2_readAsk 4 = .ok (.bipush 28, 2) := dk_16 (by decide +kernel)
theorem dX2_readAsk_6 : decode cX2_readAsk 6 = .ok (.if_icmp .ne 29, 3) := dk_160 (by decide +kernel)
theorem dX2_readAsk_9 : decode cX2_readAsk 9 = .ok (.aload_n 0, 1) := dk_42 (by decide +kernel)
theorem dX2_readAsk_10 : decode cX2_readAsk 10 = .ok (.aload_n 1, 1) := dk_43 (by decide +kernel)
theorem dX2_readAsk_11 : decode cX2_readAsk 11 = .ok (.iload_n 3, 1) := dk_29 (by decide +kernel)
theorem dX2_readAsk_12 : decode cX2_readAsk 12 = .ok (.invokevirtual 95, 3) := dk_182 (by decide +kernel)
theorem dX2_readAsk_15 : decode cX2_readAsk 15 = .ok (.ifCond .eq 19, 3) := dk_153 (by decide +kernel)
theorem dX2_readAsk_18 : decode cX2_readAsk 18 = .ok (.aload_n 0, 1) := dk_42 (by decide +kernel)
theorem dX2_readAsk_19 : decode cX2_readAsk 19 = .ok (.aload_n 1, 1) := dk_43 (by decide +kernel)
theorem dX2_readAsk_20 : decode cX2_readAsk 20 = .ok (.aload_n 2, 1) := dk_44 (by decide +kernel)
theorem dX2_readAsk_21 : decode cX2_readAsk 21 = .ok (.iload_n 3, 1) := dk_29 (by decide +kernel)
theorem dX2_readAsk_22 : decode cX2_readAsk 22 = .ok (.iconst 1, 1) := dk_4 (by decide +kernel)
theorem dX2_readAsk_23 : decode cX2_readAsk 23 = .ok (.iadd, 1) := dk_96 (by decide +kernel)
theorem dX2_readAsk_24 : decode cX2_readAsk 24 = .ok (.invokevirtual 82, 3) := dk_182 (by decide +kernel)
theorem dX2_readAsk_27 : decode cX2_readAsk 27 = .ok (.aload_n 2, 1) := dk_44 (by decide +kernel)
theorem dX2_readAsk_28 : decode cX2_readAsk 28 = .ok (.sipush 20028, 3) := dk_17 (by decide +kernel)
theorem dX2_readAsk_31 : decode cX2_readAsk 31 = .ok (.invokevirtual 92, 3) := dk_182 (by decide +kernel)
theorem dX2_readAsk_34 : decode cX2_readAsk 34 = .ok (.return_, 1) := dk_177 (by decide +kernel)
theorem dX2_readAsk_35 : decode cX2_readAsk 35 = .ok (.aload_n 0, 1) := dk_42 (by decide +kernel)
theorem dX2_readAsk_36 : decode cX2_readAsk 36 = .ok (.aload_n 1, 1) := dk_43 (by decide +kernel)
theorem dX2_readAsk_37 : decode cX2_readAsk 37 = .ok (.aload_n 2, 1) := dk_44 (by decide +kernel)
theorem dX2_readAsk_38 : decode cX2_readAsk 38 = .ok (.iconst 3, 1) := dk_6 (by decide +kernel)
theorem dX2_readAsk_39 : decode cX2_readAsk 39 = .ok (.iload_n 3, 1) := dk_29 (by decide +kernel)
theorem dX2_readAsk_40 : decode cX2_readAsk 40 = .ok (.invokevirtual 61, 3) := dk_182 (by decide +kernel)
theorem dX2_readAsk_43 : decode cX2_readAsk 43 = .ok (.aload_n 1, 1) := dk_43 (by decide +kernel)
theorem dX2_readAsk_44 : decode cX2_readAsk 44 = .ok (.invokevirtual 26, 3) := dk_182 (by decide +kernel)
theorem dX2_readAsk_47 : decode cX2_readAsk 47 = .ok (.istore 4, 2) := dk_54 (by decide +kernel)
theorem dX2_readAsk_49 : decode cX2_readAsk 49 = .ok (.iload 4, 2) := dk_21 (by decide +kernel)
theorem dX2_readAsk_51 : decode cX2_readAsk 51 = .ok (.iconst 3, 1) := dk_6 (by decide +kernel)
theorem dX2_readAsk_52 : decode cX2_readAsk 52 = .ok (.if_icmp .lt 10, 3) := dk_161 (by decide +kernel)
theorem dX2_readAsk_55 : decode cX2_readAsk 55 = .ok (.iload 4, 2) := dk_21 (by decide +kernel)
theorem dX2_readAsk_57 : decode cX2_readAsk 57 = .ok (.bipush 8, 2) := dk_16 (by decide +kernel)
theorem dX2_readAsk_59 : decode cX2_readAsk 59 = .ok (.if_icmp .le 9, 3) := dk_164 (by decide +kernel)
theorem dX2_readAsk_62 : decode cX2_readAsk 62 = .ok (.aload_n 0, 1) := dk_42 (by decide +kernel)
theorem dX2_readAsk_63 : decode cX2_readAsk 63 = .ok (.aload_n 1, 1) := dk_43 (by decide +kernel)
theorem dX2_readAsk_64 : decode cX2_readAsk 64 = .ok (.iconst 1, 1) := dk_4 (by decide +kernel)
theorem dX2_readAsk_65 : decode cX2_readAsk 65 = .ok (.invokevirtual 39, 3) := dk_182 (by decide +kernel)
theorem dX2_readAsk_68 : decode cX2_readAsk 68 = .ok (.aload_n 0, 1) := dk_42 (by decide +kernel)
theorem dX2_readAsk_69 : decode cX2_readAsk 69 = .ok (.getfield 9, 3) := dk_180 (by decide +kernel)
theorem dX2_readAsk_72 : decode cX2_readAsk 72 = .ok (.ifCond .ne 25, 3) := dk_154 (by decide +kernel)
theorem dX2_readAsk_75 : decode cX2_readAsk 75 = .ok (.aload_n 1, 1) := dk_43 (by decide +kernel)
theorem dX2_readAsk_76 : decode cX2_readAsk 76 = .ok (.invokevirtual 54, 3) := dk_182 (by decide +kernel)
theorem dX2_readAsk_79 : decode cX2_readAsk 79 = .ok (.aload_n 0, 1) := dk_42 (by decide +kernel)
theorem dX2_readAsk_80 : decode cX2_readAsk 80 = .ok (.aload_n 1, 1) := dk_43 (by decide +kernel)
theorem dX2_readAsk_81 : decode cX2_readAsk 81 = .ok (.aload_n 2, 1) := dk_44 (by decide +kernel)
theorem dX2_readAsk_82 : decode cX2_readAsk 82 = .ok (.iconst 3, 1) := dk_6 (by decide +kernel)
theorem dX2_readAsk_83 : decode cX2_readAsk 83 = .ok (.iload_n 3, 1) := dk_29 (by decide +kernel)
theorem dX2_readAsk_84 : decode cX2_readAsk 84 = .ok (.invokevirtual 61, 3) := dk_182 (by decide +kernel)
theorem dX2_readAsk_87 : decode cX2_readAsk 87 = .ok (.aload_n 2, 1) := dk_44 (by decide +kernel)
theorem dX2_readAsk_88 : decode cX2_readAsk 88 = .ok (.sipush 20000, 3) := dk_17 (by decide +kernel)
theorem dX2_readAsk_91 : decode cX2_readAsk 91 = .ok (.iload 4, 2) := dk_21 (by decide +kernel)
theorem dX2_readAsk_93 : decode cX2_readAsk 93 = .ok (.iadd, 1) := dk_96 (by decide +kernel)
theorem dX2_readAsk_94 : decode cX2_readAsk 94 = .ok (.invokevirtual 92, 3) := dk_182 (by decide +kernel)
theorem dX2_readAsk_97 : decode cX2_readAsk 97 = .ok (.return_, 1) := dk_177 (by decide +kernel)
theorem dX2_readOne_0 : decode cX2_readOne 0 = .ok (.aload_n 1, 1) := dk_43 (by decide +kernel)
theorem dX2_readOne_1 : decode cX2_readOne 1 = .ok (.invokevirtual 26, 3) := dk_182 (by decide +kernel)
theorem dX2_readOne_4 : decode cX2_readOne 4 = .ok (.istore 4, 2) := dk_54 (by decide +kernel)
theorem dX2_readOne_6 : decode cX2_readOne 6 = .ok (.iload 4, 2) := dk_21 (by decide +kernel)
theorem dX2_readOne_8 : decode cX2_readOne 8 = .ok (.iconst 2, 1) := dk_5 (by decide +kernel)
theorem dX2_readOne_9 : decode cX2_readOne 9 = .ok (.if_icmp .ne 12, 3) := dk_160 (by decide +kernel)
theorem dX2_readOne_12 : decode cX2_readOne 12 = .ok (.aload_n 0, 1) := dk_42 (by decide +kernel)
theorem dX2_readOne_13 : decode cX2_readOne 13 = .ok (.aload_n 1, 1) := dk_43 (by decide +kernel)
theorem dX2_readOne_14 : decode cX2_readOne 14 = .ok (.aload_n 2, 1) := dk_44 (by decide +kernel)
theorem dX2_readOne_15 : decode cX2_readOne 15 = .ok (.invokevirtual 99, 3) := dk_182 (by decide +kernel)
theorem dX2_readOne_18 : decode cX2_readOne 18 = .ok (.goto 103, 3) := dk_167 (by decide +kernel)
theorem dX2_readOne_21 : decode cX2_readOne 21 = .ok (.iload 4, 2) := dk_21 (by decide +kernel)
theorem dX2_readOne_23 : decode cX2_readOne 23 = .ok (.bipush 29, 2) := dk_16 (by decide +kernel)
theorem dX2_readOne_25 : decode cX2_readOne 25 = .ok (.if_icmp .lt 19, 3) := dk_161 (by decide +kernel)
theorem dX2_readOne_28 : decode cX2_readOne 28 = .ok (.iload 4, 2) := dk_21 (by decide +kernel)
theorem dX2_readOne_30 : decode cX2_readOne 30 = .ok (.bipush 37, 2) := dk_16 (by decide +kernel)
theorem dX2_readOne_32 : decode cX2_readOne 32 = .ok (.if_icmp .gt 12, 3) := dk_163 (by decide +kernel)
theorem dX2_readOne_35 : decode cX2_readOne 35 = .ok (.aload_n 0, 1) := dk_42 (by decide +kernel)
theorem dX2_readOne_36 : decode cX2_readOne 36 = .ok (.aload_n 1, 1) := dk_43 (by decide +kernel)
theorem dX2_readOne_37 : decode cX2_readOne 37 = .ok (.aload_n 2, 1) := dk_44 (by decide +kernel)
theorem dX2_readOne_38 : decode cX2_readOne 38 = .ok (.invokevirtual 102, 3) := dk_182 (by decide +kernel)
theorem dX2_readOne_41 : decode cX2_readOne 41 = .ok (.goto 80, 3) := dk_167 (by decide +kernel)
theorem dX2_readOne_44 : decode cX2_readOne 44 = .ok (.iload 4, 2) := dk_21 (by decide +kernel)
theorem dX2_readOne_46 : decode cX2_readOne 46 = .ok (.bipush 13, 2) := dk_16 (by decide +kernel)
theorem dX2_readOne_48 : decode cX2_readOne 48 = .ok (.if_icmp .ne 32, 3) := dk_160 (by decide +kernel)
theorem dX2_readOne_51 : decode cX2_readOne 51 = .ok (.aload_n 0, 1) := dk_42 (by decide +kernel)
theorem dX2_readOne_52 : decode cX2_readOne 52 = .ok (.aload_n 1, 1) := dk_43 (by decide +kernel)
theorem dX2_readOne_53 : decode cX2_readOne 53 = .ok (.iload_n 3, 1) := dk_29 (by decide +kernel)
theorem dX2_readOne_54 : decode cX2_readOne 54 = .ok (.invokevirtual 95, 3) := dk_182 (by decide +kernel)
theorem dX2_readOne_57 : decode cX2_readOne 57 = .ok (.ifCond .eq 64, 3) := dk_153 (by decide +kernel)
theorem dX2_readOne_60 : decode cX2_readOne 60 = .ok (.aload_n 0, 1) := dk_42 (by decide +kernel)
theorem dX2_readOne_61 : decode cX2_readOne 61 = .ok (.aload_n 1, 1) := dk_43 (by decide +kernel)
theorem dX2_readOne_62 : decode cX2_readOne 62 = .ok (.aload_n 2, 1) := dk_44 (by decide +kernel)
theorem dX2_readOne_63 : decode cX2_readOne 63 = .ok (.iconst 3, 1) := dk_6 (by decide +kernel)
theorem dX2_readOne_64 : decode cX2_readOne 64 = .ok (.iload_n 3, 1) := dk_29 (by decide +kernel)
theorem dX2_readOne_65 : decode cX2_readOne 65 = .ok (.iconst 1, 1) := dk_4 (by decide +kernel)
theorem dX2_readOne_66 : decode cX2_readOne 66 = .ok (.iadd, 1) := dk_96 (by decide +kernel)
theorem dX2_readOne_67 : decode cX2_readOne 67 = .ok (.invokevirtual 61, 3) := dk_182 (by decide +kernel)
theorem dX2_readOne_70 : decode cX2_readOne 70 = .ok (.aload_n 0, 1) := dk_42 (by decide +kernel)
theorem dX2_readOne_71 : decode cX2_readOne 71 = .ok (.aload_n 1, 1) := dk_43 (by decide +kernel)
theorem dX2_readOne_72 : decode cX2_readOne 72 = .ok (.bipush 14, 2) := dk_16 (by decide +kernel)
theorem dX2_readOne_74 : decode cX2_readOne 74 = .ok (.invokevirtual 72, 3) := dk_182 (by decide +kernel)
theorem dX2_readOne_77 : decode cX2_readOne 77 = .ok (.goto 44, 3) := dk_167 (by decide +kernel)
theorem dX2_readOne_80 : decode cX2_readOne 80 = .ok (.iload 4, 2) := dk_21 (by decide +kernel)
theorem dX2_readOne_82 : decode cX2_readOne 82 = .ok (.bipush 10, 2) := dk_16 (by decide +kernel)
theorem dX2_readOne_84 : decode cX2_readOne 84 = .ok (.if_icmp .ne 31, 3) := dk_160 (by decide +kernel)
theorem dX2_readOne_87 : decode cX2_readOne 87 = .ok (.aload_n 0, 1) := dk_42 (by decide +kernel)
theorem dX2_readOne_88 : decode cX2_readOne 88 = .ok (.aload_n 1, 1) := dk_43 (by decide +kernel)
theorem dX2_readOne_89 : decode cX2_readOne 89 = .ok (.iload_n 3, 1) := dk_29 (by decide +kernel)
theorem dX2_readOne_90 : decode cX2_readOne 90 = .ok (.invokevirtual 95, 3) := dk_182 (by decide +kernel)
theorem dX2_readOne_93 : decode cX2_readOne 93 = .ok (.ifCond .eq 28, 3) := dk_153 (by decide +kernel)
theorem dX2_readOne_96 : decode cX2_readOne 96 = .ok (.aload_n 0, 1) := dk_42 (by decide +kernel)
theorem dX2_readOne_97 : decode cX2_readOne 97 = .ok (.aload_n 1, 1) := dk_43 (by decide +kernel)
theorem dX2_readOne_98 : decode cX2_readOne 98 = .ok (.aload_n 2, 1) := dk_44 (by decide +kernel)
theorem dX2_readOne_99 : decode cX2_readOne 99 = .ok (.iload_n 3, 1) := dk_29 (by decide +kernel)
theorem dX2_readOne_100 : decode cX2_readOne 100 = .ok (.iconst 1, 1) := dk_4 (by decide +kernel)
theorem dX2_readOne_101 : decode cX2_readOne 101 = .ok (.iadd, 1) := dk_96 (by decide +kernel)
theorem dX2_readOne_102 : decode cX2_readOne 102 = .ok (.invokevirtual 85, 3) := dk_182 (by decide +kernel)
theorem dX2_readOne_105 : decode cX2_readOne 105 = .ok (.aload_n 2, 1) := dk_44 (by decide +kernel)
theorem dX2_readOne_106 : decode cX2_readOne 106 = .ok (.sipush 20038, 3) := dk_17 (by decide +kernel)
theorem dX2_readOne_109 : decode cX2_readOne 109 = .ok (.invokevirtual 92, 3) := dk_182 (by decide +kernel)
theorem dX2_readOne_112 : decode cX2_readOne 112 = .ok (.goto 9, 3) := dk_167 (by decide +kernel)
theorem dX2_readOne_115 : decode cX2_readOne 115 = .ok (.aload_n 0, 1) := dk_42 (by decide +kernel)
theorem dX2_readOne_116 : decode cX2_readOne 116 = .ok (.aload_n 1, 1) := dk_43 (by decide +kernel)
theorem dX2_readOne_117 : decode cX2_readOne 117 = .ok (.iconst 1, 1) := dk_4 (by decide +kernel)
theorem dX2_readOne_118 : decode cX2_readOne 118 = .ok (.invokevirtual 39, 3) := dk_182 (by decide +kernel)
theorem dX2_readOne_121 : decode cX2_readOne 121 = .ok (.return_, 1) := dk_177 (by decide +kernel)
theorem dX2_opens_0 : decode cX2_opens 0 = .ok (.iload_n 2, 1) := dk_28 (by decide +kernel)
theorem dX2_opens_1 : decode cX2_opens 1 = .ok (.bipush 8, 2) := dk_16 (by decide +kernel)
theorem dX2_opens_3 : decode cX2_opens 3 = .ok (.if_icmp .lt 11, 3) := dk_161 (by decide +kernel)
theorem dX2_opens_6 : decode cX2_opens 6 = .ok (.aload_n 0, 1) := dk_42 (by decide +kernel)
theorem dX2_opens_7 : decode cX2_opens 7 = .ok (.aload_n 1, 1) := dk_43 (by decide +kernel)
theorem dX2_opens_8 : decode cX2_opens 8 = .ok (.iconst 3, 1) := dk_6 (by decide +kernel)
theorem dX2_opens_9 : decode cX2_opens 9 = .ok (.invokevirtual 39, 3) := dk_182 (by decide +kernel)
theorem dX2_opens_12 : decode cX2_opens 12 = .ok (.iconst 0, 1) := dk_3 (by decide +kernel)
theorem dX2_opens_13 : decode cX2_opens 13 = .ok (.ireturn, 1) := dk_172 (by decide +kernel)
theorem dX2_opens_14 : decode cX2_opens 14 = .ok (.aload_n 1, 1) := dk_43 (by decide +kernel)
theorem dX2_opens_15 : decode cX2_opens 15 = .ok (.invokevirtual 54, 3) := dk_182 (by decide +kernel)
theorem dX2_opens_18 : decode cX2_opens 18 = .ok (.iconst 1, 1) := dk_4 (by decide +kernel)
theorem dX2_opens_19 : decode cX2_opens 19 = .ok (.ireturn, 1) := dk_172 (by decide +kernel)
theorem dX2_readValue_0 : decode cX2_readValue 0 = .ok (.aload_n 1, 1) := dk_43 (by decide +kernel)
theorem dX2_readValue_1 : decode cX2_readValue 1 = .ok (.invokevirtual 79, 3) := dk_182 (by decide +kernel)
theorem dX2_readValue_4 : decode cX2_readValue 4 = .ok (.sipush 9999, 3) := dk_17 (by decide +kernel)
theorem dX2_readValue_7 : decode cX2_readValue 7 = .ok (.if_icmp .le 10, 3) := dk_164 (by decide +kernel)
theorem dX2_readValue_10 : decode cX2_readValue 10 = .ok (.aload_n 0, 1) := dk_42 (by decide +kernel)
theorem dX2_readValue_11 : decode cX2_readValue 11 = .ok (.aload_n 1, 1) := dk_43 (by decide +kernel)
theorem dX2_readValue_12 : decode cX2_readValue 12 = .ok (.iconst 2, 1) := dk_5 (by decide +kernel)
theorem dX2_readValue_13 : decode cX2_readValue 13 = .ok (.invokevirtual 39, 3) := dk_182 (by decide +kernel)
theorem dX2_readValue_16 : decode cX2_readValue 16 = .ok (.return_, 1) := dk_177 (by decide +kernel)
theorem dX2_readValue_17 : decode cX2_readValue 17 = .ok (.aload_n 2, 1) := dk_44 (by decide +kernel)
theorem dX2_readValue_18 : decode cX2_readValue 18 = .ok (.aload_n 1, 1) := dk_43 (by decide +kernel)
theorem dX2_readValue_19 : decode cX2_readValue 19 = .ok (.invokevirtual 79, 3) := dk_182 (by decide +kernel)
theorem dX2_readValue_22 : decode cX2_readValue 22 = .ok (.invokevirtual 92, 3) := dk_182 (by decide +kernel)
theorem dX2_readValue_25 : decode cX2_readValue 25 = .ok (.aload_n 1, 1) := dk_43 (by decide +kernel)
theorem dX2_readValue_26 : decode cX2_readValue 26 = .ok (.invokevirtual 54, 3) := dk_182 (by decide +kernel)
theorem dX2_readValue_29 : decode cX2_readValue 29 = .ok (.return_, 1) := dk_177 (by decide +kernel)
theorem dX2_readName_0 : decode cX2_readName 0 = .ok (.aload_n 1, 1) := dk_43 (by decide +kernel)
theorem dX2_readName_1 : decode cX2_readName 1 = .ok (.invokevirtual 26, 3) := dk_182 (by decide +kernel)
theorem dX2_readName_4 : decode cX2_readName 4 = .ok (.bipush 35, 2) := dk_16 (by decide +kernel)
theorem dX2_readName_6 : decode cX2_readName 6 = .ok (.if_icmp .lt 25, 3) := dk_161 (by decide +kernel)
theorem dX2_readName_9 : decode cX2_readName 9 = .ok (.aload_n 0, 1) := dk_42 (by decide +kernel)
theorem dX2_readName_10 : decode cX2_readName 10 = .ok (.getfield 18, 3) := dk_180 (by decide +kernel)
theorem dX2_readName_13 : decode cX2_readName 13 = .ok (.ifCond .eq 18, 3) := dk_153 (by decide +kernel)
theorem dX2_readName_16 : decode cX2_readName 16 = .ok (.aload_n 0, 1) := dk_42 (by decide +kernel)
theorem dX2_readName_17 : decode cX2_readName 17 = .ok (.getfield 18, 3) := dk_180 (by decide +kernel)
theorem dX2_readName_20 : decode cX2_readName 20 = .ok (.iconst 1, 1) := dk_4 (by decide +kernel)
theorem dX2_readName_21 : decode cX2_readName 21 = .ok (.if_icmp .eq 10, 3) := dk_159 (by decide +kernel)
theorem dX2_readName_24 : decode cX2_readName 24 = .ok (.aload_n 0, 1) := dk_42 (by decide +kernel)
theorem dX2_readName_25 : decode cX2_readName 25 = .ok (.aload_n 1, 1) := dk_43 (by decide +kernel)
theorem dX2_readName_26 : decode cX2_readName 26 = .ok (.iconst 5, 1) := dk_8 (by decide +kernel)
theorem dX2_readName_27 : decode cX2_readName 27 = .ok (.invokevirtual 39, 3) := dk_182 (by decide +kernel)
theorem dX2_readName_30 : decode cX2_readName 30 = .ok (.return_, 1) := dk_177 (by decide +kernel)
theorem dX2_readName_31 : decode cX2_readName 31 = .ok (.aload_n 2, 1) := dk_44 (by decide +kernel)
theorem dX2_readName_32 : decode cX2_readName 32 = .ok (.sipush 10000, 3) := dk_17 (by decide +kernel)
theorem dX2_readName_35 : decode cX2_readName 35 = .ok (.aload_n 1, 1) := dk_43 (by decide +kernel)
theorem dX2_readName_36 : decode cX2_readName 36 = .ok (.invokevirtual 26, 3) := dk_182 (by decide +kernel)
theorem dX2_readName_39 : decode cX2_readName 39 = .ok (.iadd, 1) := dk_96 (by decide +kernel)
theorem dX2_readName_40 : decode cX2_readName 40 = .ok (.bipush 29, 2) := dk_16 (by decide +kernel)
theorem dX2_readName_42 : decode cX2_readName 42 = .ok (.isub, 1) := dk_100 (by decide +kernel)
theorem dX2_readName_43 : decode cX2_readName 43 = .ok (.invokevirtual 92, 3) := dk_182 (by decide +kernel)
theorem dX2_readName_46 : decode cX2_readName 46 = .ok (.aload_n 1, 1) := dk_43 (by decide +kernel)
theorem dX2_readName_47 : decode cX2_readName 47 = .ok (.invokevirtual 54, 3) := dk_182 (by decide +kernel)
theorem dX2_readName_50 : decode cX2_readName 50 = .ok (.return_, 1) := dk_177 (by decide +kernel)
