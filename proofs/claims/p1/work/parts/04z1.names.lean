set_option maxRecDepth 20000 in
theorem ggX9_odds_X9_manyOf : GoodIn wsX9_odds wsX9_manyOf := goodIn_r _ [86, 65, 87, 88, 89, 90, 91, 92, 93, 94, 95, 96, 97, 98, 99, 100, 101, 102, 103, 104, 105, 106, 107, 108, 109, 110, 111, 112, 113, 114, 115, 116, 117, 118, 119, 120, 121, 122, 123, 124, 125, 126, 127, 128, 129, 130, 131, 132, 133, 134, 135, 136, 137, 138, 139] (by decide +kernel) (by decide +kernel)
set_option maxRecDepth 20000 in
theorem gX9_odds_X9_manyOf : GoodIn wsX9_odds (wsV RX9 433 RX9 yX9_manyOf wsX9_manyOf) := goodIn_app (goodIn_of _ (by decide +kernel)) ggX9_odds_X9_manyOf
theorem dX9_odds_0 : decode cX9_odds 0 = .ok (.iload_n 1, 1) := by decide +kernel
theorem dX9_odds_1 : decode cX9_odds 1 = .ok (.invokestatic 409, 3) := by decide +kernel
theorem dX9_odds_4 : decode cX9_odds 4 = .ok (.ifCond .eq 12, 3) := by decide +kernel
theorem dX9_odds_7 : decode cX9_odds 7 = .ok (.iload_n 2, 1) := by decide +kernel
theorem dX9_odds_8 : decode cX9_odds 8 = .ok (.iconst 0, 1) := by decide +kernel
theorem dX9_odds_9 : decode cX9_odds 9 = .ok (.iconst 2, 1) := by decide +kernel
theorem dX9_odds_10 : decode cX9_odds 10 = .ok (.invokestatic 126, 3) := by decide +kernel
theorem dX9_odds_13 : decode cX9_odds 13 = .ok (.ifCond .ne 7, 3) := by decide +kernel
theorem dX9_odds_16 : decode cX9_odds 16 = .ok (.ldc2_w 422, 3) := by decide +kernel
theorem dX9_odds_19 : decode cX9_odds 19 = .ok (.lreturn, 1) := by decide +kernel
theorem dX9_odds_20 : decode cX9_odds 20 = .ok (.aload_n 0, 1) := by decide +kernel
theorem dX9_odds_21 : decode cX9_odds 21 = .ok (.aload_n 0, 1) := by decide +kernel
theorem dX9_odds_22 : decode cX9_odds 22 = .ok (.iload_n 1, 1) := by decide +kernel
theorem dX9_odds_23 : decode cX9_odds 23 = .ok (.sipush 999, 3) := by decide +kernel
theorem dX9_odds_26 : decode cX9_odds 26 = .ok (.iconst 0, 1) := by decide +kernel
theorem dX9_odds_27 : decode cX9_odds 27 = .ok (.invokevirtual 412, 3) := by decide +kernel
theorem dX9_odds_30 : decode cX9_odds 30 = .ok (.aload_n 0, 1) := by decide +kernel
theorem dX9_odds_31 : decode cX9_odds 31 = .ok (.iload_n 1, 1) := by decide +kernel
theorem dX9_odds_32 : decode cX9_odds 32 = .ok (.sipush 999, 3) := by decide +kernel
theorem dX9_odds_35 : decode cX9_odds 35 = .ok (.iconst 1, 1) := by decide +kernel
theorem dX9_odds_36 : decode cX9_odds 36 = .ok (.invokevirtual 412, 3) := by decide +kernel
theorem dX9_odds_39 : decode cX9_odds 39 = .ok (.invokevirtual 424, 3) := by decide +kernel
theorem dX9_odds_42 : decode cX9_odds 42 = .ok (.iconst 0, 1) := by decide +kernel
theorem dX9_odds_43 : decode cX9_odds 43 = .ok (.istore 4, 2) := by decide +kernel

theorem dX9_odds_45 : decode cX9_odds 45 = .ok (.lconst 1, 1) := by decide +kernel
theorem dX9_odds_46 : decode cX9_odds 46 = .ok (.lstore 5, 2) := by decide +kernel
theorem dX9_odds_48 : decode cX9_odds 48 = .ok (.iconst 0, 1) := by decide +kernel
theorem dX9_odds_49 : decode cX9_odds 49 = .ok (.istore 7, 2) := by decide +kernel
theorem dX9_odds_51 : decode cX9_odds 51 = .ok (.iload 7, 2) := by decide +kernel
theorem dX9_odds_53 : decode cX9_odds 53 = .ok (.aload_n 0, 1) := by decide +kernel
theorem dX9_odds_54 : decode cX9_odds 54 = .ok (.getfield 7, 3) := by decide +kernel
theorem dX9_odds_57 : decode cX9_odds 57 = .ok (.iconst 1, 1) := by decide +kernel
theorem dX9_odds_58 : decode cX9_odds 58 = .ok (.iaload, 1) := by decide +kernel
theorem dX9_odds_59 : decode cX9_odds 59 = .ok (.if_icmp .ge 96, 3) := by decide +kernel
theorem dX9_odds_155 : decode cX9_odds 155 = .ok (.aload_n 0, 1) := by decide +kernel
theorem dX9_odds_156 : decode cX9_odds 156 = .ok (.iload_n 2, 1) := by decide +kernel
theorem dX9_odds_157 : decode cX9_odds 157 = .ok (.invokevirtual 433, 3) := by decide +kernel
theorem dX9_odds_160 : decode cX9_odds 160 = .ok (.lstore 7, 2) := by decide +kernel
theorem dX9_odds_162 : decode cX9_odds 162 = .ok (.lload 5, 2) := by decide +kernel
theorem dX9_odds_164 : decode cX9_odds 164 = .ok (.lstore 9, 2) := by decide +kernel
theorem dX9_odds_166 : decode cX9_odds 166 = .ok (.lload 7, 2) := by decide +kernel
theorem dX9_odds_168 : decode cX9_odds 168 = .ok (.lstore 11, 2) := by decide +kernel
theorem dX9_odds_170 : decode cX9_odds 170 = .ok (.lload 11, 2) := by decide +kernel
theorem dX9_odds_172 : decode cX9_odds 172 = .ok (.lconst 0, 1) := by decide +kernel
theorem dX9_odds_173 : decode cX9_odds 173 = .ok (.lcmp, 1) := by decide +kernel
theorem dX9_odds_174 : decode cX9_odds 174 = .ok (.ifCond .eq 21, 3) := by decide +kernel
theorem dX9_odds_195 : decode cX9_odds 195 = .ok (.iload_n 3, 1) := by decide +kernel
theorem dX9_odds_196 : decode cX9_odds 196 = .ok (.ifCond .eq 11, 3) := by decide +kernel
theorem dX9_odds_199 : decode cX9_odds 199 = .ok (.lload 5, 2) := by decide +kernel
theorem dX9_odds_201 : decode cX9_odds 201 = .ok (.lload 9, 2) := by decide +kernel
theorem dX9_odds_203 : decode cX9_odds 203 = .ok (.ldiv, 1) := by decide +kernel
theorem dX9_odds_204 : decode cX9_odds 204 = .ok (.goto 8, 3) := by decide +kernel
theorem dX9_odds_207 : decode cX9_odds 207 = .ok (.lload 7, 2) := by decide +kernel
theorem dX9_odds_209 : decode cX9_odds 209 = .ok (.lload 9, 2) := by decide +kernel
theorem dX9_odds_211 : decode cX9_odds 211 = .ok (.ldiv, 1) := by decide +kernel
theorem dX9_odds_212 : decode cX9_odds 212 = .ok (.lreturn, 1) := by decide +kernel
theorem dX9_laysFlock_0 : decode cX9_laysFlock 0 = .ok (.aload_n 0, 1) := by decide +kernel
theorem dX9_laysFlock_1 : decode cX9_laysFlock 1 = .ok (.iconst 0, 1) := by decide +kernel
theorem dX9_laysFlock_2 : decode cX9_laysFlock 2 = .ok (.putfield 436, 3) := by decide +kernel
theorem dX9_laysFlock_5 : decode cX9_laysFlock 5 = .ok (.iconst 0, 1) := by decide +kernel
theorem dX9_laysFlock_6 : decode cX9_laysFlock 6 = .ok (.istore_n 2, 1) := by decide +kernel
theorem dX9_laysFlock_7 : decode cX9_laysFlock 7 = .ok (.iload_n 2, 1) := by decide +kernel
theorem dX9_laysFlock_8 : decode cX9_laysFlock 8 = .ok (.aload_n 0, 1) := by decide +kernel
theorem dX9_laysFlock_9 : decode cX9_laysFlock 9 = .ok (.getfield 7, 3) := by decide +kernel
theorem dX9_laysFlock_12 : decode cX9_laysFlock 12 = .ok (.iconst 1, 1) := by decide +kernel
theorem dX9_laysFlock_13 : decode cX9_laysFlock 13 = .ok (.iaload, 1) := by decide +kernel
theorem dX9_laysFlock_14 : decode cX9_laysFlock 14 = .ok (.if_icmp .ge 180, 3) := by decide +kernel
theorem dX9_laysFlock_194 : decode cX9_laysFlock 194 = .ok (.return_, 1) := by decide +kernel
theorem dX9_plansOf_0 : decode cX9_plansOf 0 = .ok (.aload_n 0, 1) := by decide +kernel
theorem dX9_plansOf_1 : decode cX9_plansOf 1 = .ok (.ldc2_w 422, 3) := by decide +kernel
theorem dX9_plansOf_4 : decode cX9_plansOf 4 = .ok (.putfield 439, 3) := by decide +kernel
theorem dX9_plansOf_7 : decode cX9_plansOf 7 = .ok (.iconst 0, 1) := by decide +kernel
theorem dX9_plansOf_8 : decode cX9_plansOf 8 = .ok (.istore_n 3, 1) := by decide +kernel
theorem dX9_plansOf_9 : decode cX9_plansOf 9 = .ok (.iload_n 3, 1) := by decide +kernel
theorem dX9_plansOf_10 : decode cX9_plansOf 10 = .ok (.sipush 1024, 3) := by decide +kernel
theorem dX9_plansOf_13 : decode cX9_plansOf 13 = .ok (.if_icmp .ge 138, 3) := by decide +kernel
theorem dX9_plansOf_16 : decode cX9_plansOf 16 = .ok (.iconst 0, 1) := by decide +kernel
theorem dX9_plansOf_17 : decode cX9_plansOf 17 = .ok (.istore 4, 2) := by decide +kernel
theorem dX9_plansOf_19 : decode cX9_plansOf 19 = .ok (.iconst 1, 1) := by decide +kernel
theorem dX9_plansOf_20 : decode cX9_plansOf 20 = .ok (.istore 5, 2) := by decide +kernel
theorem dX9_plansOf_22 : decode cX9_plansOf 22 = .ok (.iconst 0, 1) := by decide +kernel
theorem dX9_plansOf_23 : decode cX9_plansOf 23 = .ok (.istore 6, 2) := by decide +kernel
theorem dX9_plansOf_25 : decode cX9_plansOf 25 = .ok (.iload 6, 2) := by decide +kernel
theorem dX9_plansOf_27 : decode cX9_plansOf 27 = .ok (.bipush 10, 2) := by decide +kernel
theorem dX9_plansOf_29 : decode cX9_plansOf 29 = .ok (.if_icmp .ge 99, 3) := by decide +kernel
theorem dX9_plansOf_32 : decode cX9_plansOf 32 = .ok (.iload_n 3, 1) := by decide +kernel
theorem dX9_plansOf_33 : decode cX9_plansOf 33 = .ok (.iload 6, 2) := by decide +kernel
theorem dX9_plansOf_35 : decode cX9_plansOf 35 = .ok (.ishr, 1) := by decide +kernel
theorem dX9_plansOf_36 : decode cX9_plansOf 36 = .ok (.iconst 1, 1) := by decide +kernel
theorem dX9_plansOf_37 : decode cX9_plansOf 37 = .ok (.iand, 1) := by decide +kernel
theorem dX9_plansOf_38 : decode cX9_plansOf 38 = .ok (.iconst 1, 1) := by decide +kernel
theorem dX9_plansOf_39 : decode cX9_plansOf 39 = .ok (.if_icmp .ne 83, 3) := by decide +kernel
theorem dX9_plansOf_42 : decode cX9_plansOf 42 = .ok (.iconst 0, 1) := by decide +kernel
theorem dX9_plansOf_43 : decode cX9_plansOf 43 = .ok (.istore 7, 2) := by decide +kernel
theorem dX9_plansOf_45 : decode cX9_plansOf 45 = .ok (.iconst 0, 1) := by decide +kernel
theorem dX9_plansOf_46 : decode cX9_plansOf 46 = .ok (.istore 8, 2) := by decide +kernel
theorem dX9_plansOf_48 : decode cX9_plansOf 48 = .ok (.iload 8, 2) := by decide +kernel
theorem dX9_plansOf_50 : decode cX9_plansOf 50 = .ok (.aload_n 0, 1) := by decide +kernel
theorem dX9_plansOf_51 : decode cX9_plansOf 51 = .ok (.getfield 436, 3) := by decide +kernel
theorem dX9_plansOf_54 : decode cX9_plansOf 54 = .ok (.if_icmp .ge 33, 3) := by decide +kernel
theorem dX9_plansOf_87 : decode cX9_plansOf 87 = .ok (.iload 5, 2) := by decide +kernel
theorem dX9_plansOf_89 : decode cX9_plansOf 89 = .ok (.ifCond .eq 12, 3) := by decide +kernel
theorem dX9_plansOf_92 : decode cX9_plansOf 92 = .ok (.iload 7, 2) := by decide +kernel
theorem dX9_plansOf_94 : decode cX9_plansOf 94 = .ok (.ifCond .eq 7, 3) := by decide +kernel
theorem dX9_plansOf_101 : decode cX9_plansOf 101 = .ok (.iconst 0, 1) := by decide +kernel
theorem dX9_plansOf_102 : decode cX9_plansOf 102 = .ok (.istore 5, 2) := by decide +kernel
theorem dX9_plansOf_104 : decode cX9_plansOf 104 = .ok (.iload 4, 2) := by decide +kernel
theorem dX9_plansOf_106 : decode cX9_plansOf 106 = .ok (.iconst 3, 1) := by decide +kernel
theorem dX9_plansOf_107 : decode cX9_plansOf 107 = .ok (.if_icmp .ge 12, 3) := by decide +kernel
theorem dX9_plansOf_110 : decode cX9_plansOf 110 = .ok (.aload_n 0, 1) := by decide +kernel
theorem dX9_plansOf_111 : decode cX9_plansOf 111 = .ok (.getfield 110, 3) := by decide +kernel
theorem dX9_plansOf_114 : decode cX9_plansOf 114 = .ok (.iload 4, 2) := by decide +kernel
theorem dX9_plansOf_116 : decode cX9_plansOf 116 = .ok (.iload 6, 2) := by decide +kernel
theorem dX9_plansOf_118 : decode cX9_plansOf 118 = .ok (.iastore, 1) := by decide +kernel
theorem dX9_plansOf_119 : decode cX9_plansOf 119 = .ok (.iinc 4 1, 3) := by decide +kernel
theorem dX9_plansOf_122 : decode cX9_plansOf 122 = .ok (.iinc 6 1, 3) := by decide +kernel
theorem dX9_plansOf_125 : decode cX9_plansOf 125 = .ok (.goto (-100), 3) := by decide +kernel
theorem dX9_plansOf_128 : decode cX9_plansOf 128 = .ok (.iload 5, 2) := by decide +kernel
theorem dX9_plansOf_130 : decode cX9_plansOf 130 = .ok (.ifCond .eq 15, 3) := by decide +kernel
theorem dX9_plansOf_133 : decode cX9_plansOf 133 = .ok (.iload 4, 2) := by decide +kernel
theorem dX9_plansOf_135 : decode cX9_plansOf 135 = .ok (.iload_n 1, 1) := by decide +kernel
theorem dX9_plansOf_136 : decode cX9_plansOf 136 = .ok (.if_icmp .ne 9, 3) := by decide +kernel
theorem dX9_plansOf_145 : decode cX9_plansOf 145 = .ok (.iinc 3 1, 3) := by decide +kernel
theorem dX9_plansOf_148 : decode cX9_plansOf 148 = .ok (.goto (-139), 3) := by decide +kernel
theorem dX9_plansOf_151 : decode cX9_plansOf 151 = .ok (.aload_n 0, 1) := by decide +kernel
theorem dX9_plansOf_152 : decode cX9_plansOf 152 = .ok (.getfield 439, 3) := by decide +kernel
theorem dX9_plansOf_155 : decode cX9_plansOf 155 = .ok (.ldc2_w 422, 3) := by decide +kernel
theorem dX9_plansOf_158 : decode cX9_plansOf 158 = .ok (.lcmp, 1) := by decide +kernel
theorem dX9_plansOf_159 : decode cX9_plansOf 159 = .ok (.ifCond .eq 7, 3) := by decide +kernel
theorem dX9_plansOf_166 : decode cX9_plansOf 166 = .ok (.iconst 0, 1) := by decide +kernel
theorem dX9_plansOf_167 : decode cX9_plansOf 167 = .ok (.ireturn, 1) := by decide +kernel
set_option maxRecDepth 20000 in
theorem ggX9_plan_X9_isLetterNumber : GoodIn wsX9_plan wsX9_isLetterNumber := goodIn_r _ [6, 7, 8, 5, 9] (by decide +kernel) (by decide +kernel)
set_option maxRecDepth 20000 in
theorem gX9_plan_X9_isLetterNumber : GoodIn wsX9_plan (va_wsS RX9 409 yX9_isLetterNumber wsX9_isLetterNumber) := goodIn_app (goodIn_of _ (by decide +kernel)) ggX9_plan_X9_isLetterNumber
set_option maxRecDepth 20000 in
theorem ggX9_plan_X9_in : GoodIn wsX9_plan wsX9_in := goodIn_r _ [9] (by decide +kernel) (by decide +kernel)
set_option maxRecDepth 20000 in
theorem gX9_plan_X9_in : GoodIn wsX9_plan (va_wsS RX9 126 yX9_in wsX9_in) := goodIn_app (goodIn_of _ (by decide +kernel)) ggX9_plan_X9_in
set_option maxRecDepth 20000 in
theorem ggX9_plan_X9_isGoose : GoodIn wsX9_plan wsX9_isGoose := goodIn_r _ [13, 14, 7, 8, 5, 9, 105, 106, 107, 108, 109, 110, 111, 112, 113, 114, 115, 116, 117, 118, 119, 120, 121, 122, 123, 124, 125, 126, 127, 128, 129, 130, 131, 132, 133, 134, 135, 136, 137, 138, 139, 140, 141, 142, 143, 144, 145, 146, 147, 148, 149, 150, 151, 152, 153, 154, 155, 156, 157] (by decide +kernel) (by decide +kernel)
set_option maxRecDepth 20000 in
theorem gX9_plan_X9_isGoose : GoodIn wsX9_plan (wsV RX9 134 RX9 yX9_isGoose wsX9_isGoose) := goodIn_app (goodIn_of _ (by decide +kernel)) ggX9_plan_X9_isGoose
set_option maxRecDepth 20000 in
theorem ggX9_plan_X9_laysFlock : GoodIn wsX9_plan wsX9_laysFlock := goodIn_r _ [18, 19, 14, 20, 21, 22, 23, 24, 25, 26, 5, 27, 10, 11, 12, 13, 7, 8, 9, 28, 29, 30, 31, 32, 33, 34, 35, 36, 37, 38, 39, 40, 41, 42, 43, 44, 45, 46, 47, 48, 49, 50, 51, 52, 53, 54, 55, 56, 57, 58, 59, 60, 61, 62, 63, 64, 65, 66, 67, 68, 69, 105, 106, 107, 108, 109, 110, 111, 112, 113, 114, 115, 116, 117, 118, 119, 120, 121, 122, 123, 124, 125, 126, 127, 128, 129, 130, 131, 132, 133, 134, 135, 136, 137, 138, 139, 140, 141, 142, 143, 144, 145, 146, 147, 148, 149, 150, 151, 152, 153, 154, 155, 156, 157] (by decide +kernel) (by decide +kernel)
set_option maxRecDepth 20000 in
theorem gX9_plan_X9_laysFlock : GoodIn wsX9_plan (wsV RX9 449 RX9 yX9_laysFlock wsX9_laysFlock) := goodIn_app (goodIn_of _ (by decide +kernel)) ggX9_plan_X9_laysFlock
set_option maxRecDepth 20000 in
theorem ggX9_plan_X9_plansOf : GoodIn wsX9_plan wsX9_plansOf := goodIn_r _ [73, 74, 75, 19, 20, 76, 77, 78, 79, 5, 80, 14, 81, 82, 83, 84, 85, 21, 22, 23, 86, 1, 2, 87, 88, 89, 90, 91, 92, 93, 94, 95, 96, 97, 98, 99, 100, 101, 102, 103, 104, 105, 106, 107, 108, 109, 110, 111, 112, 113, 114, 115, 116, 117, 118, 119, 120, 121, 122, 123, 124, 125, 126, 127, 128, 129, 130, 131, 132, 133, 134, 135, 136, 137, 138, 139, 140, 141, 142, 143, 144, 145, 146, 147, 148, 149, 150, 151, 152, 153, 154, 155, 156, 157] (by decide +kernel) (by decide +kernel)
set_option maxRecDepth 20000 in
theorem gX9_plan_X9_plansOf : GoodIn wsX9_plan (wsV RX9 452 RX9 yX9_plansOf wsX9_plansOf) := goodIn_app (goodIn_of _ (by decide +kernel)) ggX9_plan_X9_plansOf
theorem dX9_plan_0 : decode cX9_plan 0 = .ok (.iload_n 1, 1) := by decide +kernel
theorem dX9_plan_1 : decode cX9_plan 1 = .ok (.invokestatic 409, 3) := by decide +kernel
theorem dX9_plan_4 : decode cX9_plan 4 = .ok (.ifCond .eq 26, 3) := by decide +kernel
theorem dX9_plan_7 : decode cX9_plan 7 = .ok (.iload_n 2, 1) := by decide +kernel
theorem dX9_plan_8 : decode cX9_plan 8 = .ok (.iconst 1, 1) := by decide +kernel
theorem dX9_plan_9 : decode cX9_plan 9 = .ok (.bipush 100, 2) := by decide +kernel
theorem dX9_plan_11 : decode cX9_plan 11 = .ok (.invokestatic 126, 3) := by decide +kernel
theorem dX9_plan_14 : decode cX9_plan 14 = .ok (.ifCond .eq 16, 3) := by decide +kernel
theorem dX9_plan_17 : decode cX9_plan 17 = .ok (.iload_n 3, 1) := by decide +kernel
theorem dX9_plan_18 : decode cX9_plan 18 = .ok (.iconst (-1), 1) := by decide +kernel
theorem dX9_plan_19 : decode cX9_plan 19 = .ok (.if_icmp .eq 14, 3) := by decide +kernel
theorem dX9_plan_22 : decode cX9_plan 22 = .ok (.aload_n 0, 1) := by decide +kernel
theorem dX9_plan_23 : decode cX9_plan 23 = .ok (.iload_n 3, 1) := by decide +kernel
theorem dX9_plan_24 : decode cX9_plan 24 = .ok (.invokevirtual 134, 3) := by decide +kernel
theorem dX9_plan_27 : decode cX9_plan 27 = .ok (.ifCond .ne 6, 3) := by decide +kernel
theorem dX9_plan_30 : decode cX9_plan 30 = .ok (.bipush (-2), 2) := by decide +kernel
theorem dX9_plan_32 : decode cX9_plan 32 = .ok (.ireturn, 1) := by decide +kernel
theorem dX9_plan_33 : decode cX9_plan 33 = .ok (.aload_n 0, 1) := by decide +kernel
theorem dX9_plan_34 : decode cX9_plan 34 = .ok (.iload_n 1, 1) := by decide +kernel
theorem dX9_plan_35 : decode cX9_plan 35 = .ok (.invokevirtual 449, 3) := by decide +kernel
theorem dX9_plan_38 : decode cX9_plan 38 = .ok (.iconst 1, 1) := by decide +kernel
theorem dX9_plan_39 : decode cX9_plan 39 = .ok (.istore 4, 2) := by decide +kernel
theorem dX9_plan_41 : decode cX9_plan 41 = .ok (.iload 4, 2) := by decide +kernel
theorem dX9_plan_43 : decode cX9_plan 43 = .ok (.iconst 4, 1) := by decide +kernel
theorem dX9_plan_44 : decode cX9_plan 44 = .ok (.if_icmp .ge 96, 3) := by decide +kernel
theorem dX9_plan_47 : decode cX9_plan 47 = .ok (.aload_n 0, 1) := by decide +kernel
theorem dX9_plan_48 : decode cX9_plan 48 = .ok (.iload 4, 2) := by decide +kernel
theorem dX9_plan_50 : decode cX9_plan 50 = .ok (.iload_n 2, 1) := by decide +kernel
theorem dX9_plan_51 : decode cX9_plan 51 = .ok (.invokevirtual 452, 3) := by decide +kernel
theorem dX9_plan_54 : decode cX9_plan 54 = .ok (.ifCond .eq 80, 3) := by decide +kernel
theorem dX9_plan_134 : decode cX9_plan 134 = .ok (.iinc 4 1, 3) := by decide +kernel
theorem dX9_plan_137 : decode cX9_plan 137 = .ok (.goto (-96), 3) := by decide +kernel
theorem dX9_plan_140 : decode cX9_plan 140 = .ok (.bipush (-2), 2) := by decide +kernel
theorem dX9_plan_142 : decode cX9_plan 142 = .ok (.ireturn, 1) := by decide +kernel
set_option maxRecDepth 20000 in
theorem ggX9_holds_X9_geeseOf : GoodIn wsX9_holds wsX9_geeseOf := goodIn_r _ [6, 1, 7, 8, 9, 5, 10, 11, 12, 13, 14, 15, 16, 17, 18, 19, 20, 21, 22, 23, 24, 25, 26, 27, 28, 29, 30, 31, 32, 33, 34, 35, 36, 37, 38, 39, 40, 41, 42, 43, 44, 45, 46, 47, 48, 49, 50, 51, 52, 53, 54, 55, 56, 57, 58, 59, 60, 61, 62, 63] (by decide +kernel) (by decide +kernel)
set_option maxRecDepth 20000 in
theorem gX9_holds_X9_geeseOf : GoodIn wsX9_holds (wsV RX9 378 RX9 yX9_geeseOf wsX9_geeseOf) := goodIn_app (goodIn_of _ (by decide +kernel)) ggX9_holds_X9_geeseOf
theorem dX9_holds_0 : decode cX9_holds 0 = .ok (.aload_n 0, 1) := by decide +kernel
theorem dX9_holds_1 : decode cX9_holds 1 = .ok (.getfield 7, 3) := by decide +kernel
theorem dX9_holds_4 : decode cX9_holds 4 = .ok (.iconst 2, 1) := by decide +kernel
theorem dX9_holds_5 : decode cX9_holds 5 = .ok (.iaload, 1) := by decide +kernel
theorem dX9_holds_6 : decode cX9_holds 6 = .ok (.aload_n 0, 1) := by decide +kernel
theorem dX9_holds_7 : decode cX9_holds 7 = .ok (.iconst 0, 1) := by decide +kernel
theorem dX9_holds_8 : decode cX9_holds 8 = .ok (.invokevirtual 378, 3) := by decide +kernel
theorem dX9_holds_11 : decode cX9_holds 11 = .ok (.iadd, 1) := by decide +kernel
theorem dX9_holds_12 : decode cX9_holds 12 = .ok (.istore_n 1, 1) := by decide +kernel
theorem dX9_holds_13 : decode cX9_holds 13 = .ok (.iload_n 1, 1) := by decide +kernel
theorem dX9_holds_14 : decode cX9_holds 14 = .ok (.ifCond .ne 7, 3) := by decide +kernel
theorem dX9_holds_17 : decode cX9_holds 17 = .ok (.sipush 999, 3) := by decide +kernel
theorem dX9_holds_20 : decode cX9_holds 20 = .ok (.ireturn, 1) := by decide +kernel
set_option maxRecDepth 20000 in
theorem ggX9_image_X9_copies : GoodIn wsX9_image wsX9_copies := goodIn_r _ [6, 7, 1, 8, 9, 10, 11, 12, 13, 14, 15, 16, 17, 18, 19, 20, 21, 22, 23, 24, 25, 26, 27, 28, 29, 30, 31, 32, 33, 34, 35, 36, 37, 38, 39, 40, 41, 42, 43, 44, 45, 46, 47, 48, 49, 50, 51, 52, 53, 54, 55, 56, 57, 58, 59, 60] (by decide +kernel) (by decide +kernel)
set_option maxRecDepth 20000 in
theorem gX9_image_X9_copies : GoodIn wsX9_image (wsV RX9 122 RX9 yX9_copies wsX9_copies) := goodIn_app (goodIn_of _ (by decide +kernel)) ggX9_image_X9_copies
theorem dX9_image_0 : decode cX9_image 0 = .ok (.aload_n 0, 1) := by decide +kernel
theorem dX9_image_1 : decode cX9_image 1 = .ok (.iconst 1, 1) := by decide +kernel
theorem dX9_image_2 : decode cX9_image 2 = .ok (.invokevirtual 122, 3) := by decide +kernel
theorem dX9_image_5 : decode cX9_image 5 = .ok (.aload_n 0, 1) := by decide +kernel
theorem dX9_image_6 : decode cX9_image 6 = .ok (.getfield 7, 3) := by decide +kernel
theorem dX9_image_9 : decode cX9_image 9 = .ok (.bipush 121, 2) := by decide +kernel
theorem dX9_image_11 : decode cX9_image 11 = .ok (.iaload, 1) := by decide +kernel
theorem dX9_image_12 : decode cX9_image 12 = .ok (.ireturn, 1) := by decide +kernel
set_option maxRecDepth 20000 in
theorem ggX9_back_X9_copies : GoodIn wsX9_back wsX9_copies := goodIn_r _ [6, 7, 1, 8, 9, 10, 11, 12, 13, 14, 15, 16, 17, 18, 19, 20, 21, 22, 23, 24, 25, 26, 27, 28, 29, 30, 31, 32, 33, 34, 35, 36, 37, 38, 39, 40, 41, 42, 43, 44, 45, 46, 47, 48, 49, 50, 51, 52, 53, 54, 55, 56, 57, 58, 59, 60] (by decide +kernel) (by decide +kernel)
set_option maxRecDepth 20000 in
theorem gX9_back_X9_copies : GoodIn wsX9_back (wsV RX9 122 RX9 yX9_copies wsX9_copies) := goodIn_app (goodIn_of _ (by decide +kernel)) ggX9_back_X9_copies
theorem dX9_back_0 : decode cX9_back 0 = .ok (.aload_n 0, 1) := by decide +kernel
theorem dX9_back_1 : decode cX9_back 1 = .ok (.iconst 0, 1) := by decide +kernel
theorem dX9_back_2 : decode cX9_back 2 = .ok (.invokevirtual 122, 3) := by decide +kernel
theorem dX9_back_5 : decode cX9_back 5 = .ok (.aload_n 0, 1) := by decide +kernel
theorem dX9_back_6 : decode cX9_back 6 = .ok (.getfield 7, 3) := by decide +kernel
theorem dX9_back_9 : decode cX9_back 9 = .ok (.bipush 121, 2) := by decide +kernel
theorem dX9_back_11 : decode cX9_back 11 = .ok (.iaload, 1) := by decide +kernel
theorem dX9_back_12 : decode cX9_back 12 = .ok (.ireturn, 1) := by decide +kernel
set_option maxRecDepth 20000 in
theorem ggX9_about_X9_isMarket : GoodIn wsX9_about wsX9_isMarket := goodIn_r _ [7, 1, 8, 9, 6, 10, 19, 20, 21, 22, 23, 24, 25, 26, 27, 28, 29, 30, 31, 32, 33, 34, 35, 36, 37, 38, 39, 40, 41, 42, 43, 44, 45, 46, 47, 48, 49, 50, 51, 52, 53, 54, 55, 56, 57, 58, 59, 60, 61, 62, 63, 64, 65, 66, 67, 68, 69, 70, 71] (by decide +kernel) (by decide +kernel)
set_option maxRecDepth 20000 in
theorem gX9_about_X9_isMarket : GoodIn wsX9_about (wsV RX9 160 RX9 yX9_isMarket wsX9_isMarket) := goodIn_app (goodIn_of _ (by decide +kernel)) ggX9_about_X9_isMarket
set_option maxRecDepth 20000 in
theorem ggX9_about_X9_in : GoodIn wsX9_about wsX9_in := goodIn_r _ [10] (by decide +kernel) (by decide +kernel)
set_option maxRecDepth 20000 in
theorem gX9_about_X9_in : GoodIn wsX9_about (va_wsS RX9 126 yX9_in wsX9_in) := goodIn_app (goodIn_of _ (by decide +kernel)) ggX9_about_X9_in
set_option maxRecDepth 20000 in
theorem ggX9_about_X9_geeseOf : GoodIn wsX9_about wsX9_geeseOf := goodIn_r _ [14, 1, 15, 16, 17, 6, 18, 19, 20, 21, 22, 23, 24, 25, 26, 27, 28, 29, 30, 31, 32, 33, 34, 35, 36, 37, 38, 39, 40, 41, 42, 43, 44, 45, 46, 47, 48, 49, 50, 51, 52, 53, 54, 55, 56, 57, 58, 59, 60, 61, 62, 63, 64, 65, 66, 67, 68, 69, 70, 71] (by decide +kernel) (by decide +kernel)
set_option maxRecDepth 20000 in
theorem gX9_about_X9_geeseOf : GoodIn wsX9_about (wsV RX9 378 RX9 yX9_geeseOf wsX9_geeseOf) := goodIn_app (goodIn_of _ (by decide +kernel)) ggX9_about_X9_geeseOf
theorem dX9_about_0 : decode cX9_about 0 = .ok (.iload_n 1, 1) := by decide +kernel
theorem dX9_about_1 : decode cX9_about 1 = .ok (.tableswitch 126 0 9 #[55, 62, 69, 77, 84, 92, 100, 107, 114, 121], 55) := by decide +kernel
theorem dX9_about_56 : decode cX9_about 56 = .ok (.aload_n 0, 1) := by decide +kernel
theorem dX9_about_57 : decode cX9_about 57 = .ok (.getfield 7, 3) := by decide +kernel
theorem dX9_about_60 : decode cX9_about 60 = .ok (.iconst 0, 1) := by decide +kernel
theorem dX9_about_61 : decode cX9_about 61 = .ok (.iaload, 1) := by decide +kernel
theorem dX9_about_62 : decode cX9_about 62 = .ok (.ireturn, 1) := by decide +kernel
theorem dX9_about_63 : decode cX9_about 63 = .ok (.aload_n 0, 1) := by decide +kernel
theorem dX9_about_64 : decode cX9_about 64 = .ok (.getfield 7, 3) := by decide +kernel
theorem dX9_about_67 : decode cX9_about 67 = .ok (.iconst 1, 1) := by decide +kernel
theorem dX9_about_68 : decode cX9_about 68 = .ok (.iaload, 1) := by decide +kernel
theorem dX9_about_69 : decode cX9_about 69 = .ok (.ireturn, 1) := by decide +kernel
theorem dX9_about_70 : decode cX9_about 70 = .ok (.aload_n 0, 1) := by decide +kernel
theorem dX9_about_71 : decode cX9_about 71 = .ok (.getfield 7, 3) := by decide +kernel
theorem dX9_about_74 : decode cX9_about 74 = .ok (.bipush 120, 2) := by decide +kernel
theorem dX9_about_76 : decode cX9_about 76 = .ok (.iaload, 1) := by decide +kernel
theorem dX9_about_77 : decode cX9_about 77 = .ok (.ireturn, 1) := by decide +kernel
theorem dX9_about_78 : decode cX9_about 78 = .ok (.aload_n 0, 1) := by decide +kernel
theorem dX9_about_79 : decode cX9_about 79 = .ok (.getfield 7, 3) := by decide +kernel
theorem dX9_about_82 : decode cX9_about 82 = .ok (.iconst 2, 1) := by decide +kernel
theorem dX9_about_83 : decode cX9_about 83 = .ok (.iaload, 1) := by decide +kernel
theorem dX9_about_84 : decode cX9_about 84 = .ok (.ireturn, 1) := by decide +kernel
theorem dX9_about_85 : decode cX9_about 85 = .ok (.aload_n 0, 1) := by decide +kernel
theorem dX9_about_86 : decode cX9_about 86 = .ok (.getfield 7, 3) := by decide +kernel
theorem dX9_about_89 : decode cX9_about 89 = .ok (.bipush 121, 2) := by decide +kernel
theorem dX9_about_91 : decode cX9_about 91 = .ok (.iaload, 1) := by decide +kernel
theorem dX9_about_92 : decode cX9_about 92 = .ok (.ireturn, 1) := by decide +kernel
theorem dX9_about_93 : decode cX9_about 93 = .ok (.aload_n 0, 1) := by decide +kernel
theorem dX9_about_94 : decode cX9_about 94 = .ok (.getfield 7, 3) := by decide +kernel
theorem dX9_about_97 : decode cX9_about 97 = .ok (.bipush 122, 2) := by decide +kernel
theorem dX9_about_99 : decode cX9_about 99 = .ok (.iaload, 1) := by decide +kernel
theorem dX9_about_100 : decode cX9_about 100 = .ok (.ireturn, 1) := by decide +kernel
theorem dX9_about_101 : decode cX9_about 101 = .ok (.aload_n 0, 1) := by decide +kernel
theorem dX9_about_102 : decode cX9_about 102 = .ok (.getfield 7, 3) := by decide +kernel
theorem dX9_about_105 : decode cX9_about 105 = .ok (.iconst 3, 1) := by decide +kernel
theorem dX9_about_106 : decode cX9_about 106 = .ok (.iaload, 1) := by decide +kernel
theorem dX9_about_107 : decode cX9_about 107 = .ok (.ireturn, 1) := by decide +kernel
theorem dX9_about_108 : decode cX9_about 108 = .ok (.aload_n 0, 1) := by decide +kernel
theorem dX9_about_109 : decode cX9_about 109 = .ok (.getfield 7, 3) := by decide +kernel
theorem dX9_about_112 : decode cX9_about 112 = .ok (.iconst 4, 1) := by decide +kernel
theorem dX9_about_113 : decode cX9_about 113 = .ok (.iaload, 1) := by decide +kernel
theorem dX9_about_114 : decode cX9_about 114 = .ok (.ireturn, 1) := by decide +kernel
theorem dX9_about_115 : decode cX9_about 115 = .ok (.aload_n 0, 1) := by decide +kernel
theorem dX9_about_116 : decode cX9_about 116 = .ok (.getfield 7, 3) := by decide +kernel
theorem dX9_about_119 : decode cX9_about 119 = .ok (.iconst 5, 1) := by decide +kernel
theorem dX9_about_120 : decode cX9_about 120 = .ok (.iaload, 1) := by decide +kernel
theorem dX9_about_121 : decode cX9_about 121 = .ok (.ireturn, 1) := by decide +kernel
theorem dX9_about_122 : decode cX9_about 122 = .ok (.aload_n 0, 1) := by decide +kernel
theorem dX9_about_123 : decode cX9_about 123 = .ok (.getfield 163, 3) := by decide +kernel
theorem dX9_about_126 : decode cX9_about 126 = .ok (.ireturn, 1) := by decide +kernel
theorem dX9_about_127 : decode cX9_about 127 = .ok (.aload_n 0, 1) := by decide +kernel
theorem dX9_about_128 : decode cX9_about 128 = .ok (.iload_n 1, 1) := by decide +kernel
theorem dX9_about_129 : decode cX9_about 129 = .ok (.bipush 10, 2) := by decide +kernel
theorem dX9_about_131 : decode cX9_about 131 = .ok (.isub, 1) := by decide +kernel
theorem dX9_about_132 : decode cX9_about 132 = .ok (.invokevirtual 160, 3) := by decide +kernel
theorem dX9_about_135 : decode cX9_about 135 = .ok (.ifCond .eq 44, 3) := by decide +kernel
theorem dX9_about_179 : decode cX9_about 179 = .ok (.iload_n 1, 1) := by decide +kernel
theorem dX9_about_180 : decode cX9_about 180 = .ok (.bipush 20, 2) := by decide +kernel
theorem dX9_about_182 : decode cX9_about 182 = .ok (.bipush 25, 2) := by decide +kernel
theorem dX9_about_184 : decode cX9_about 184 = .ok (.invokestatic 126, 3) := by decide +kernel
theorem dX9_about_187 : decode cX9_about 187 = .ok (.ifCond .eq 14, 3) := by decide +kernel
theorem dX9_about_190 : decode cX9_about 190 = .ok (.aload_n 0, 1) := by decide +kernel
theorem dX9_about_191 : decode cX9_about 191 = .ok (.iload_n 1, 1) := by decide +kernel
theorem dX9_about_192 : decode cX9_about 192 = .ok (.bipush 20, 2) := by decide +kernel
theorem dX9_about_194 : decode cX9_about 194 = .ok (.isub, 1) := by decide +kernel
theorem dX9_about_195 : decode cX9_about 195 = .ok (.invokevirtual 378, 3) := by decide +kernel
theorem dX9_about_198 : decode cX9_about 198 = .ok (.goto 5, 3) := by decide +kernel
theorem dX9_about_201 : decode cX9_about 201 = .ok (.bipush (-2), 2) := by decide +kernel
theorem dX9_about_203 : decode cX9_about 203 = .ok (.ireturn, 1) := by decide +kernel
