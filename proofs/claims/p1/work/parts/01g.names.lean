theorem dX9_odds_45 : decode cX9_odds 45 = .ok (.lconst 1, 1) := by decide +kernel
theorem dX9_odds_46 : decode cX9_odds 46 = .ok (.lstore 5, 2) := by decide +kernel
theorem dX9_odds_48 : decode cX9_odds 48 = .ok (.iconst 0, 1) := by decide +kernel
theorem dX9_odds_49 : decode cX9_odds 49 = .ok (.istore 7, 2) := by decide +kernel
theorem dX9_odds_51 : decode cX9_odds 51 = .ok (.iload 7, 2) := by decide +kernel
theorem dX9_odds_53 : decode cX9_odds 53 = .ok (.aload_n 0, 1) := by decide +kernel
theorem dX9_odds_54 : decode cX9_odds 54 = .ok (.getfield 7, 3) := by decide +kernel
theorem dX9_odds_57 : decode cX9_odds 57 = .ok (.iconst 1, 1) := by decide +kernel
theorem dX9_odds_58 : decode cX9_odds 58 = .ok (.iaload, 1) := by decide +kernel
theorem dX9_odds_59 : decode cX9_odds 59 = .ok (.if_icmp .ge 96, 3) := by decide +kernel
theorem dX9_odds_62 : decode cX9_odds 62 = .ok (.aload_n 0, 1) := by decide +kernel
theorem dX9_odds_63 : decode cX9_odds 63 = .ok (.iload 7, 2) := by decide +kernel
theorem dX9_odds_65 : decode cX9_odds 65 = .ok (.iconst 2, 1) := by decide +kernel
theorem dX9_odds_66 : decode cX9_odds 66 = .ok (.invokevirtual 138, 3) := by decide +kernel
theorem dX9_odds_69 : decode cX9_odds 69 = .ok (.iload_n 1, 1) := by decide +kernel
theorem dX9_odds_70 : decode cX9_odds 70 = .ok (.if_icmp .ne 79, 3) := by decide +kernel
theorem dX9_odds_73 : decode cX9_odds 73 = .ok (.aload_n 0, 1) := by decide +kernel
theorem dX9_odds_74 : decode cX9_odds 74 = .ok (.iload 7, 2) := by decide +kernel
theorem dX9_odds_76 : decode cX9_odds 76 = .ok (.iconst 4, 1) := by decide +kernel
theorem dX9_odds_77 : decode cX9_odds 77 = .ok (.invokevirtual 138, 3) := by decide +kernel
theorem dX9_odds_80 : decode cX9_odds 80 = .ok (.iconst 1, 1) := by decide +kernel
theorem dX9_odds_81 : decode cX9_odds 81 = .ok (.if_icmp .ne 68, 3) := by decide +kernel
theorem dX9_odds_84 : decode cX9_odds 84 = .ok (.iinc 4 1, 3) := by decide +kernel
theorem dX9_odds_87 : decode cX9_odds 87 = .ok (.iload 4, 2) := by decide +kernel
theorem dX9_odds_89 : decode cX9_odds 89 = .ok (.bipush 8, 2) := by decide +kernel
theorem dX9_odds_91 : decode cX9_odds 91 = .ok (.if_icmp .le 7, 3) := by decide +kernel
theorem dX9_odds_94 : decode cX9_odds 94 = .ok (.ldc2_w 422, 3) := by decide +kernel
theorem dX9_odds_97 : decode cX9_odds 97 = .ok (.lreturn, 1) := by decide +kernel
theorem dX9_odds_98 : decode cX9_odds 98 = .ok (.aload_n 0, 1) := by decide +kernel
theorem dX9_odds_99 : decode cX9_odds 99 = .ok (.iconst 0, 1) := by decide +kernel
theorem dX9_odds_100 : decode cX9_odds 100 = .ok (.iload 7, 2) := by decide +kernel
theorem dX9_odds_102 : decode cX9_odds 102 = .ok (.invokevirtual 375, 3) := by decide +kernel
theorem dX9_odds_105 : decode cX9_odds 105 = .ok (.istore 8, 2) := by decide +kernel
theorem dX9_odds_107 : decode cX9_odds 107 = .ok (.aload_n 0, 1) := by decide +kernel
theorem dX9_odds_108 : decode cX9_odds 108 = .ok (.iconst 1, 1) := by decide +kernel
theorem dX9_odds_109 : decode cX9_odds 109 = .ok (.iload 7, 2) := by decide +kernel
theorem dX9_odds_111 : decode cX9_odds 111 = .ok (.invokevirtual 375, 3) := by decide +kernel
theorem dX9_odds_114 : decode cX9_odds 114 = .ok (.istore 9, 2) := by decide +kernel
theorem dX9_odds_116 : decode cX9_odds 116 = .ok (.aload_n 0, 1) := by decide +kernel
theorem dX9_odds_117 : decode cX9_odds 117 = .ok (.iload 7, 2) := by decide +kernel
theorem dX9_odds_119 : decode cX9_odds 119 = .ok (.invokevirtual 399, 3) := by decide +kernel
theorem dX9_odds_122 : decode cX9_odds 122 = .ok (.istore 10, 2) := by decide +kernel
theorem dX9_odds_124 : decode cX9_odds 124 = .ok (.aload_n 0, 1) := by decide +kernel
theorem dX9_odds_125 : decode cX9_odds 125 = .ok (.iload 8, 2) := by decide +kernel
theorem dX9_odds_127 : decode cX9_odds 127 = .ok (.iload 9, 2) := by decide +kernel
theorem dX9_odds_129 : decode cX9_odds 129 = .ok (.aload_n 0, 1) := by decide +kernel
theorem dX9_odds_130 : decode cX9_odds 130 = .ok (.iload 7, 2) := by decide +kernel
theorem dX9_odds_132 : decode cX9_odds 132 = .ok (.iconst 3, 1) := by decide +kernel
theorem dX9_odds_133 : decode cX9_odds 133 = .ok (.invokevirtual 138, 3) := by decide +kernel
theorem dX9_odds_136 : decode cX9_odds 136 = .ok (.iload 10, 2) := by decide +kernel
theorem dX9_odds_138 : decode cX9_odds 138 = .ok (.invokevirtual 427, 3) := by decide +kernel
theorem dX9_odds_141 : decode cX9_odds 141 = .ok (.lload 5, 2) := by decide +kernel
theorem dX9_odds_143 : decode cX9_odds 143 = .ok (.ldc2_w 431, 3) := by decide +kernel
theorem dX9_odds_146 : decode cX9_odds 146 = .ok (.lmul, 1) := by decide +kernel
theorem dX9_odds_147 : decode cX9_odds 147 = .ok (.lstore 5, 2) := by decide +kernel
theorem dX9_odds_149 : decode cX9_odds 149 = .ok (.iinc 7 1, 3) := by decide +kernel
theorem dX9_odds_152 : decode cX9_odds 152 = .ok (.goto (-101), 3) := by decide +kernel
theorem dX9_odds_155 : decode cX9_odds 155 = .ok (.aload_n 0, 1) := by decide +kernel
theorem dX9_odds_156 : decode cX9_odds 156 = .ok (.iload_n 2, 1) := by decide +kernel
theorem dX9_odds_157 : decode cX9_odds 157 = .ok (.invokevirtual 433, 3) := by decide +kernel
theorem dX9_odds_160 : decode cX9_odds 160 = .ok (.lstore 7, 2) := by decide +kernel
theorem dX9_odds_162 : decode cX9_odds 162 = .ok (.lload 5, 2) := by decide +kernel
theorem dX9_odds_164 : decode cX9_odds 164 = .ok (.lstore 9, 2) := by decide +kernel
theorem dX9_odds_166 : decode cX9_odds 166 = .ok (.lload 7, 2) := by decide +kernel
theorem dX9_odds_168 : decode cX9_odds 168 = .ok (.lstore 11, 2) := by decide +kernel
theorem dX9_odds_170 : decode cX9_odds 170 = .ok (.lload 11, 2) := by decide +kernel
theorem dX9_odds_172 : decode cX9_odds 172 = .ok (.lconst 0, 1) := by decide +kernel
theorem dX9_odds_173 : decode cX9_odds 173 = .ok (.lcmp, 1) := by decide +kernel
theorem dX9_odds_174 : decode cX9_odds 174 = .ok (.ifCond .eq 21, 3) := by decide +kernel
theorem dX9_odds_177 : decode cX9_odds 177 = .ok (.lload 9, 2) := by decide +kernel
theorem dX9_odds_179 : decode cX9_odds 179 = .ok (.lload 11, 2) := by decide +kernel
theorem dX9_odds_181 : decode cX9_odds 181 = .ok (.lrem, 1) := by decide +kernel
theorem dX9_odds_182 : decode cX9_odds 182 = .ok (.lstore 13, 2) := by decide +kernel
theorem dX9_odds_184 : decode cX9_odds 184 = .ok (.lload 11, 2) := by decide +kernel
theorem dX9_odds_186 : decode cX9_odds 186 = .ok (.lstore 9, 2) := by decide +kernel
theorem dX9_odds_188 : decode cX9_odds 188 = .ok (.lload 13, 2) := by decide +kernel
theorem dX9_odds_190 : decode cX9_odds 190 = .ok (.lstore 11, 2) := by decide +kernel
theorem dX9_odds_192 : decode cX9_odds 192 = .ok (.goto (-22), 3) := by decide +kernel
theorem dX9_odds_195 : decode cX9_odds 195 = .ok (.iload_n 3, 1) := by decide +kernel
theorem dX9_odds_196 : decode cX9_odds 196 = .ok (.ifCond .eq 11, 3) := by decide +kernel
theorem dX9_odds_199 : decode cX9_odds 199 = .ok (.lload 5, 2) := by decide +kernel
theorem dX9_odds_201 : decode cX9_odds 201 = .ok (.lload 9, 2) := by decide +kernel
theorem dX9_odds_203 : decode cX9_odds 203 = .ok (.ldiv, 1) := by decide +kernel
theorem dX9_odds_204 : decode cX9_odds 204 = .ok (.goto 8, 3) := by decide +kernel
theorem dX9_odds_207 : decode cX9_odds 207 = .ok (.lload 7, 2) := by decide +kernel
theorem dX9_odds_209 : decode cX9_odds 209 = .ok (.lload 9, 2) := by decide +kernel
theorem dX9_odds_211 : decode cX9_odds 211 = .ok (.ldiv, 1) := by decide +kernel
theorem dX9_odds_212 : decode cX9_odds 212 = .ok (.lreturn, 1) := by decide +kernel
set_option maxRecDepth 20000 in
theorem ggX9_laysFlock_X9_isHome : GoodIn wsX9_laysFlock wsX9_isHome := goodIn_r _ [11, 12, 13, 14, 10, 15, 2, 16, 17, 18, 19, 20, 21, 22, 61, 62, 63, 64, 65, 66, 67, 68, 69, 70, 71, 72, 73, 74, 75, 76, 77, 78, 79, 80, 81, 82, 83, 84, 85, 86, 87, 88, 89, 90, 91, 92, 93, 94, 95, 96, 97, 98, 99, 100, 101, 102, 103, 104, 105, 106, 107, 108, 109, 110, 111, 112, 113] (by decide +kernel) (by decide +kernel)
set_option maxRecDepth 20000 in
theorem gX9_laysFlock_X9_isHome : GoodIn wsX9_laysFlock (wsV RX9 142 RX9 yX9_isHome wsX9_isHome) := goodIn_app (goodIn_of _ (by decide +kernel)) ggX9_laysFlock_X9_isHome
set_option maxRecDepth 20000 in
theorem ggX9_laysFlock_X9_ofGoose : GoodIn wsX9_laysFlock wsX9_ofGoose := goodIn_r _ [22, 2, 61, 62, 63, 64, 65, 66, 67, 68, 69, 70, 71, 72, 73, 74, 75, 76, 77, 78, 79, 80, 81, 82, 83, 84, 85, 86, 87, 88, 89, 90, 91, 92, 93, 94, 95, 96, 97, 98, 99, 100, 101, 102, 103, 104, 105, 106, 107, 108, 109, 110, 111, 112, 113] (by decide +kernel) (by decide +kernel)
set_option maxRecDepth 20000 in
theorem gX9_laysFlock_X9_ofGoose : GoodIn wsX9_laysFlock (wsV RX9 138 RX9 yX9_ofGoose wsX9_ofGoose) := goodIn_app (goodIn_of _ (by decide +kernel)) ggX9_laysFlock_X9_ofGoose
set_option maxRecDepth 20000 in
theorem ggX9_laysFlock_X9_marketTells : GoodIn wsX9_laysFlock wsX9_marketTells := goodIn_r _ [26, 2, 27, 28, 29, 30, 10, 31, 32, 33, 34, 35, 36, 37, 38, 19, 20, 21, 22, 39, 40, 41, 42, 43, 44, 45, 46, 47, 48, 49, 50, 51, 52, 53, 54, 55, 56, 61, 62, 63, 64, 65, 66, 67, 68, 69, 70, 71, 72, 73, 74, 75, 76, 77, 78, 79, 80, 81, 82, 83, 84, 85, 86, 87, 88, 89, 90, 91, 92, 93, 94, 95, 96, 97, 98, 99, 100, 101, 102, 103, 104, 105, 106, 107, 108, 109, 110, 111, 112, 113] (by decide +kernel) (by decide +kernel)
set_option maxRecDepth 20000 in
theorem gX9_laysFlock_X9_marketTells : GoodIn wsX9_laysFlock (wsV RX9 364 RX9 yX9_marketTells wsX9_marketTells) := goodIn_app (goodIn_of _ (by decide +kernel)) ggX9_laysFlock_X9_marketTells
set_option maxRecDepth 20000 in
theorem ggX9_laysFlock_X9_isTrueBy : GoodIn wsX9_laysFlock wsX9_isTrueBy := goodIn_r _ [60, 2, 27, 28, 29, 30, 10, 31, 32, 33, 34, 35, 36, 37, 38, 19, 20, 21, 22, 39, 40, 41, 42, 43, 44, 45, 46, 47, 48, 49, 50, 51, 52, 53, 61, 62, 63, 64, 65, 66, 67, 68, 69, 70, 71, 72, 73, 74, 75, 76, 77, 78, 79, 80, 81, 82, 83, 84, 85, 86, 87, 88, 89, 90, 91, 92, 93, 94, 95, 96, 97, 98, 99, 100, 101, 102, 103, 104, 105, 106, 107, 108, 109, 110, 111, 112, 113] (by decide +kernel) (by decide +kernel)
set_option maxRecDepth 20000 in
theorem gX9_laysFlock_X9_isTrueBy : GoodIn wsX9_laysFlock (wsV RX9 368 RX9 yX9_isTrueBy wsX9_isTrueBy) := goodIn_app (goodIn_of _ (by decide +kernel)) ggX9_laysFlock_X9_isTrueBy
theorem dX9_laysFlock_0 : decode cX9_laysFlock 0 = .ok (.aload_n 0, 1) := by decide +kernel
theorem dX9_laysFlock_1 : decode cX9_laysFlock 1 = .ok (.iconst 0, 1) := by decide +kernel
theorem dX9_laysFlock_2 : decode cX9_laysFlock 2 = .ok (.putfield 436, 3) := by decide +kernel
theorem dX9_laysFlock_5 : decode cX9_laysFlock 5 = .ok (.iconst 0, 1) := by decide +kernel
theorem dX9_laysFlock_6 : decode cX9_laysFlock 6 = .ok (.istore_n 2, 1) := by decide +kernel
theorem dX9_laysFlock_7 : decode cX9_laysFlock 7 = .ok (.iload_n 2, 1) := by decide +kernel
theorem dX9_laysFlock_8 : decode cX9_laysFlock 8 = .ok (.aload_n 0, 1) := by decide +kernel
theorem dX9_laysFlock_9 : decode cX9_laysFlock 9 = .ok (.getfield 7, 3) := by decide +kernel
theorem dX9_laysFlock_12 : decode cX9_laysFlock 12 = .ok (.iconst 1, 1) := by decide +kernel
theorem dX9_laysFlock_13 : decode cX9_laysFlock 13 = .ok (.iaload, 1) := by decide +kernel
theorem dX9_laysFlock_14 : decode cX9_laysFlock 14 = .ok (.if_icmp .ge 180, 3) := by decide +kernel
theorem dX9_laysFlock_17 : decode cX9_laysFlock 17 = .ok (.aload_n 0, 1) := by decide +kernel
theorem dX9_laysFlock_18 : decode cX9_laysFlock 18 = .ok (.iload_n 2, 1) := by decide +kernel
theorem dX9_laysFlock_19 : decode cX9_laysFlock 19 = .ok (.invokevirtual 142, 3) := by decide +kernel
theorem dX9_laysFlock_22 : decode cX9_laysFlock 22 = .ok (.ifCond .eq 166, 3) := by decide +kernel
theorem dX9_laysFlock_25 : decode cX9_laysFlock 25 = .ok (.aload_n 0, 1) := by decide +kernel
theorem dX9_laysFlock_26 : decode cX9_laysFlock 26 = .ok (.iload_n 2, 1) := by decide +kernel
theorem dX9_laysFlock_27 : decode cX9_laysFlock 27 = .ok (.bipush 8, 2) := by decide +kernel
theorem dX9_laysFlock_29 : decode cX9_laysFlock 29 = .ok (.invokevirtual 138, 3) := by decide +kernel
theorem dX9_laysFlock_32 : decode cX9_laysFlock 32 = .ok (.ifCond .ne 156, 3) := by decide +kernel
theorem dX9_laysFlock_35 : decode cX9_laysFlock 35 = .ok (.aload_n 0, 1) := by decide +kernel
theorem dX9_laysFlock_36 : decode cX9_laysFlock 36 = .ok (.iload_n 2, 1) := by decide +kernel
theorem dX9_laysFlock_37 : decode cX9_laysFlock 37 = .ok (.iconst 2, 1) := by decide +kernel
theorem dX9_laysFlock_38 : decode cX9_laysFlock 38 = .ok (.invokevirtual 138, 3) := by decide +kernel
theorem dX9_laysFlock_41 : decode cX9_laysFlock 41 = .ok (.iconst (-1), 1) := by decide +kernel
theorem dX9_laysFlock_42 : decode cX9_laysFlock 42 = .ok (.if_icmp .ne 146, 3) := by decide +kernel
theorem dX9_laysFlock_45 : decode cX9_laysFlock 45 = .ok (.aload_n 0, 1) := by decide +kernel
theorem dX9_laysFlock_46 : decode cX9_laysFlock 46 = .ok (.getfield 107, 3) := by decide +kernel
theorem dX9_laysFlock_49 : decode cX9_laysFlock 49 = .ok (.aload_n 0, 1) := by decide +kernel
theorem dX9_laysFlock_50 : decode cX9_laysFlock 50 = .ok (.getfield 436, 3) := by decide +kernel
theorem dX9_laysFlock_53 : decode cX9_laysFlock 53 = .ok (.iload_n 2, 1) := by decide +kernel
theorem dX9_laysFlock_54 : decode cX9_laysFlock 54 = .ok (.iastore, 1) := by decide +kernel
theorem dX9_laysFlock_55 : decode cX9_laysFlock 55 = .ok (.aload_n 0, 1) := by decide +kernel
theorem dX9_laysFlock_56 : decode cX9_laysFlock 56 = .ok (.dup, 1) := by decide +kernel
theorem dX9_laysFlock_57 : decode cX9_laysFlock 57 = .ok (.getfield 436, 3) := by decide +kernel
theorem dX9_laysFlock_60 : decode cX9_laysFlock 60 = .ok (.iconst 1, 1) := by decide +kernel
theorem dX9_laysFlock_61 : decode cX9_laysFlock 61 = .ok (.iadd, 1) := by decide +kernel
theorem dX9_laysFlock_62 : decode cX9_laysFlock 62 = .ok (.putfield 436, 3) := by decide +kernel
theorem dX9_laysFlock_65 : decode cX9_laysFlock 65 = .ok (.iconst 0, 1) := by decide +kernel
theorem dX9_laysFlock_66 : decode cX9_laysFlock 66 = .ok (.istore_n 3, 1) := by decide +kernel
theorem dX9_laysFlock_67 : decode cX9_laysFlock 67 = .ok (.iload_n 3, 1) := by decide +kernel
theorem dX9_laysFlock_68 : decode cX9_laysFlock 68 = .ok (.iconst 3, 1) := by decide +kernel
theorem dX9_laysFlock_69 : decode cX9_laysFlock 69 = .ok (.aload_n 0, 1) := by decide +kernel
theorem dX9_laysFlock_70 : decode cX9_laysFlock 70 = .ok (.getfield 7, 3) := by decide +kernel
theorem dX9_laysFlock_73 : decode cX9_laysFlock 73 = .ok (.iconst 0, 1) := by decide +kernel
theorem dX9_laysFlock_74 : decode cX9_laysFlock 74 = .ok (.iaload, 1) := by decide +kernel
theorem dX9_laysFlock_75 : decode cX9_laysFlock 75 = .ok (.imul, 1) := by decide +kernel
theorem dX9_laysFlock_76 : decode cX9_laysFlock 76 = .ok (.if_icmp .ge 112, 3) := by decide +kernel
theorem dX9_laysFlock_79 : decode cX9_laysFlock 79 = .ok (.iload_n 3, 1) := by decide +kernel
theorem dX9_laysFlock_80 : decode cX9_laysFlock 80 = .ok (.iconst 3, 1) := by decide +kernel
theorem dX9_laysFlock_81 : decode cX9_laysFlock 81 = .ok (.idiv, 1) := by decide +kernel
theorem dX9_laysFlock_82 : decode cX9_laysFlock 82 = .ok (.istore 4, 2) := by decide +kernel
theorem dX9_laysFlock_84 : decode cX9_laysFlock 84 = .ok (.aload_n 0, 1) := by decide +kernel
theorem dX9_laysFlock_85 : decode cX9_laysFlock 85 = .ok (.getfield 7, 3) := by decide +kernel
theorem dX9_laysFlock_88 : decode cX9_laysFlock 88 = .ok (.bipush 121, 2) := by decide +kernel
theorem dX9_laysFlock_90 : decode cX9_laysFlock 90 = .ok (.iaload, 1) := by decide +kernel
theorem dX9_laysFlock_91 : decode cX9_laysFlock 91 = .ok (.aload_n 0, 1) := by decide +kernel
theorem dX9_laysFlock_92 : decode cX9_laysFlock 92 = .ok (.getfield 7, 3) := by decide +kernel
theorem dX9_laysFlock_95 : decode cX9_laysFlock 95 = .ok (.bipush 10, 2) := by decide +kernel
theorem dX9_laysFlock_97 : decode cX9_laysFlock 97 = .ok (.iconst 3, 1) := by decide +kernel
theorem dX9_laysFlock_98 : decode cX9_laysFlock 98 = .ok (.iload 4, 2) := by decide +kernel
theorem dX9_laysFlock_100 : decode cX9_laysFlock 100 = .ok (.imul, 1) := by decide +kernel
theorem dX9_laysFlock_101 : decode cX9_laysFlock 101 = .ok (.iadd, 1) := by decide +kernel
theorem dX9_laysFlock_102 : decode cX9_laysFlock 102 = .ok (.iaload, 1) := by decide +kernel
theorem dX9_laysFlock_103 : decode cX9_laysFlock 103 = .ok (.iadd, 1) := by decide +kernel
theorem dX9_laysFlock_104 : decode cX9_laysFlock 104 = .ok (.istore 5, 2) := by decide +kernel
theorem dX9_laysFlock_106 : decode cX9_laysFlock 106 = .ok (.aload_n 0, 1) := by decide +kernel
theorem dX9_laysFlock_107 : decode cX9_laysFlock 107 = .ok (.getfield 97, 3) := by decide +kernel
theorem dX9_laysFlock_110 : decode cX9_laysFlock 110 = .ok (.bipush 12, 2) := by decide +kernel
theorem dX9_laysFlock_112 : decode cX9_laysFlock 112 = .ok (.iload_n 2, 1) := by decide +kernel
theorem dX9_laysFlock_113 : decode cX9_laysFlock 113 = .ok (.imul, 1) := by decide +kernel
theorem dX9_laysFlock_114 : decode cX9_laysFlock 114 = .ok (.iload_n 3, 1) := by decide +kernel
theorem dX9_laysFlock_115 : decode cX9_laysFlock 115 = .ok (.iadd, 1) := by decide +kernel
theorem dX9_laysFlock_116 : decode cX9_laysFlock 116 = .ok (.aload_n 0, 1) := by decide +kernel
theorem dX9_laysFlock_117 : decode cX9_laysFlock 117 = .ok (.iconst 0, 1) := by decide +kernel
theorem dX9_laysFlock_118 : decode cX9_laysFlock 118 = .ok (.iload_n 2, 1) := by decide +kernel
theorem dX9_laysFlock_119 : decode cX9_laysFlock 119 = .ok (.iload_n 1, 1) := by decide +kernel
theorem dX9_laysFlock_120 : decode cX9_laysFlock 120 = .ok (.iload_n 3, 1) := by decide +kernel
theorem dX9_laysFlock_121 : decode cX9_laysFlock 121 = .ok (.iconst 3, 1) := by decide +kernel
theorem dX9_laysFlock_122 : decode cX9_laysFlock 122 = .ok (.irem, 1) := by decide +kernel
theorem dX9_laysFlock_123 : decode cX9_laysFlock 123 = .ok (.iload 4, 2) := by decide +kernel
theorem dX9_laysFlock_125 : decode cX9_laysFlock 125 = .ok (.iload 5, 2) := by decide +kernel
theorem dX9_laysFlock_127 : decode cX9_laysFlock 127 = .ok (.invokevirtual 364, 3) := by decide +kernel
theorem dX9_laysFlock_130 : decode cX9_laysFlock 130 = .ok (.iastore, 1) := by decide +kernel
theorem dX9_laysFlock_131 : decode cX9_laysFlock 131 = .ok (.aload_n 0, 1) := by decide +kernel
theorem dX9_laysFlock_132 : decode cX9_laysFlock 132 = .ok (.getfield 100, 3) := by decide +kernel
theorem dX9_laysFlock_135 : decode cX9_laysFlock 135 = .ok (.bipush 12, 2) := by decide +kernel
theorem dX9_laysFlock_137 : decode cX9_laysFlock 137 = .ok (.iload_n 2, 1) := by decide +kernel
theorem dX9_laysFlock_138 : decode cX9_laysFlock 138 = .ok (.imul, 1) := by decide +kernel
theorem dX9_laysFlock_139 : decode cX9_laysFlock 139 = .ok (.iload_n 3, 1) := by decide +kernel
theorem dX9_laysFlock_140 : decode cX9_laysFlock 140 = .ok (.iadd, 1) := by decide +kernel
theorem dX9_laysFlock_141 : decode cX9_laysFlock 141 = .ok (.aload_n 0, 1) := by decide +kernel
theorem dX9_laysFlock_142 : decode cX9_laysFlock 142 = .ok (.iconst 1, 1) := by decide +kernel
theorem dX9_laysFlock_143 : decode cX9_laysFlock 143 = .ok (.iload_n 2, 1) := by decide +kernel
theorem dX9_laysFlock_144 : decode cX9_laysFlock 144 = .ok (.iload_n 1, 1) := by decide +kernel
theorem dX9_laysFlock_145 : decode cX9_laysFlock 145 = .ok (.iload_n 3, 1) := by decide +kernel
theorem dX9_laysFlock_146 : decode cX9_laysFlock 146 = .ok (.iconst 3, 1) := by decide +kernel
theorem dX9_laysFlock_147 : decode cX9_laysFlock 147 = .ok (.irem, 1) := by decide +kernel
theorem dX9_laysFlock_148 : decode cX9_laysFlock 148 = .ok (.iload 4, 2) := by decide +kernel
theorem dX9_laysFlock_150 : decode cX9_laysFlock 150 = .ok (.iload 5, 2) := by decide +kernel
theorem dX9_laysFlock_152 : decode cX9_laysFlock 152 = .ok (.invokevirtual 364, 3) := by decide +kernel
theorem dX9_laysFlock_155 : decode cX9_laysFlock 155 = .ok (.iastore, 1) := by decide +kernel
theorem dX9_laysFlock_156 : decode cX9_laysFlock 156 = .ok (.aload_n 0, 1) := by decide +kernel
theorem dX9_laysFlock_157 : decode cX9_laysFlock 157 = .ok (.getfield 103, 3) := by decide +kernel
theorem dX9_laysFlock_160 : decode cX9_laysFlock 160 = .ok (.bipush 12, 2) := by decide +kernel
theorem dX9_laysFlock_162 : decode cX9_laysFlock 162 = .ok (.iload_n 2, 1) := by decide +kernel
theorem dX9_laysFlock_163 : decode cX9_laysFlock 163 = .ok (.imul, 1) := by decide +kernel
theorem dX9_laysFlock_164 : decode cX9_laysFlock 164 = .ok (.iload_n 3, 1) := by decide +kernel
theorem dX9_laysFlock_165 : decode cX9_laysFlock 165 = .ok (.iadd, 1) := by decide +kernel
theorem dX9_laysFlock_166 : decode cX9_laysFlock 166 = .ok (.aload_n 0, 1) := by decide +kernel
theorem dX9_laysFlock_167 : decode cX9_laysFlock 167 = .ok (.iload_n 2, 1) := by decide +kernel
theorem dX9_laysFlock_168 : decode cX9_laysFlock 168 = .ok (.iload_n 1, 1) := by decide +kernel
theorem dX9_laysFlock_169 : decode cX9_laysFlock 169 = .ok (.iload_n 3, 1) := by decide +kernel
theorem dX9_laysFlock_170 : decode cX9_laysFlock 170 = .ok (.iconst 3, 1) := by decide +kernel
theorem dX9_laysFlock_171 : decode cX9_laysFlock 171 = .ok (.irem, 1) := by decide +kernel
theorem dX9_laysFlock_172 : decode cX9_laysFlock 172 = .ok (.aload_n 0, 1) := by decide +kernel
theorem dX9_laysFlock_173 : decode cX9_laysFlock 173 = .ok (.iload_n 2, 1) := by decide +kernel
theorem dX9_laysFlock_174 : decode cX9_laysFlock 174 = .ok (.iconst 1, 1) := by decide +kernel
theorem dX9_laysFlock_175 : decode cX9_laysFlock 175 = .ok (.invokevirtual 138, 3) := by decide +kernel
theorem dX9_laysFlock_178 : decode cX9_laysFlock 178 = .ok (.invokevirtual 368, 3) := by decide +kernel
theorem dX9_laysFlock_181 : decode cX9_laysFlock 181 = .ok (.bastore, 1) := by decide +kernel
theorem dX9_laysFlock_182 : decode cX9_laysFlock 182 = .ok (.iinc 3 1, 3) := by decide +kernel
theorem dX9_laysFlock_185 : decode cX9_laysFlock 185 = .ok (.goto (-118), 3) := by decide +kernel
theorem dX9_laysFlock_188 : decode cX9_laysFlock 188 = .ok (.iinc 2 1, 3) := by decide +kernel
theorem dX9_laysFlock_191 : decode cX9_laysFlock 191 = .ok (.goto (-184), 3) := by decide +kernel
theorem dX9_laysFlock_194 : decode cX9_laysFlock 194 = .ok (.return_, 1) := by decide +kernel
set_option maxRecDepth 20000 in
theorem ggX9_asksPlan_X9_startsMany : GoodIn wsX9_asksPlan wsX9_startsMany := goodIn_r _ [15, 16, 30, 31, 32, 33, 34, 35, 36, 37, 38, 39, 40, 41, 42, 43, 44, 45, 46, 47, 48, 49, 50, 51, 52, 53, 54, 55, 56, 57, 58, 59, 60, 61, 62, 63, 64, 65, 66, 67, 68, 69, 70, 71, 72, 73, 74, 75, 76, 77, 78, 79, 80, 81, 82] (by decide +kernel) (by decide +kernel)
set_option maxRecDepth 20000 in
theorem gX9_asksPlan_X9_startsMany : GoodIn wsX9_asksPlan (wsV RX9 424 RX9 yX9_startsMany wsX9_startsMany) := goodIn_app (goodIn_of _ (by decide +kernel)) ggX9_asksPlan_X9_startsMany
set_option maxRecDepth 20000 in
theorem ggX9_asksPlan_X9_comesMany : GoodIn wsX9_asksPlan wsX9_comesMany := goodIn_r _ [20, 21, 16, 22, 23, 24, 14, 25, 30, 31, 32, 33, 34, 35, 36, 37, 38, 39, 40, 41, 42, 43, 44, 45, 46, 47, 48, 49, 50, 51, 52, 53, 54, 55, 56, 57, 58, 59, 60, 61, 62, 63, 64, 65, 66, 67, 68, 69, 70, 71, 72, 73, 74, 75, 76, 77, 78, 79, 80, 81, 82] (by decide +kernel) (by decide +kernel)
set_option maxRecDepth 20000 in
theorem gX9_asksPlan_X9_comesMany : GoodIn wsX9_asksPlan (wsV RX9 427 RX9 yX9_comesMany wsX9_comesMany) := goodIn_app (goodIn_of _ (by decide +kernel)) ggX9_asksPlan_X9_comesMany
set_option maxRecDepth 20000 in
theorem ggX9_asksPlan_X9_manyOf : GoodIn wsX9_asksPlan wsX9_manyOf := goodIn_r _ [29, 16, 30, 31, 32, 33, 34, 35, 36, 37, 38, 39, 40, 41, 42, 43, 44, 45, 46, 47, 48, 49, 50, 51, 52, 53, 54, 55, 56, 57, 58, 59, 60, 61, 62, 63, 64, 65, 66, 67, 68, 69, 70, 71, 72, 73, 74, 75, 76, 77, 78, 79, 80, 81, 82] (by decide +kernel) (by decide +kernel)
set_option maxRecDepth 20000 in
theorem gX9_asksPlan_X9_manyOf : GoodIn wsX9_asksPlan (wsV RX9 433 RX9 yX9_manyOf wsX9_manyOf) := goodIn_app (goodIn_of _ (by decide +kernel)) ggX9_asksPlan_X9_manyOf
theorem dX9_asksPlan_0 : decode cX9_asksPlan 0 = .ok (.aload_n 0, 1) := by decide +kernel
theorem dX9_asksPlan_1 : decode cX9_asksPlan 1 = .ok (.iconst 0, 1) := by decide +kernel
theorem dX9_asksPlan_2 : decode cX9_asksPlan 2 = .ok (.iconst 0, 1) := by decide +kernel
theorem dX9_asksPlan_3 : decode cX9_asksPlan 3 = .ok (.invokevirtual 424, 3) := by decide +kernel
theorem dX9_asksPlan_6 : decode cX9_asksPlan 6 = .ok (.lconst 1, 1) := by decide +kernel
theorem dX9_asksPlan_7 : decode cX9_asksPlan 7 = .ok (.lstore_n 3, 1) := by decide +kernel
theorem dX9_asksPlan_8 : decode cX9_asksPlan 8 = .ok (.iconst 0, 1) := by decide +kernel
theorem dX9_asksPlan_9 : decode cX9_asksPlan 9 = .ok (.istore 5, 2) := by decide +kernel
theorem dX9_asksPlan_11 : decode cX9_asksPlan 11 = .ok (.iload 5, 2) := by decide +kernel
theorem dX9_asksPlan_13 : decode cX9_asksPlan 13 = .ok (.iload_n 1, 1) := by decide +kernel
theorem dX9_asksPlan_14 : decode cX9_asksPlan 14 = .ok (.if_icmp .ge 69, 3) := by decide +kernel
theorem dX9_asksPlan_17 : decode cX9_asksPlan 17 = .ok (.bipush 12, 2) := by decide +kernel
theorem dX9_asksPlan_19 : decode cX9_asksPlan 19 = .ok (.aload_n 0, 1) := by decide +kernel
theorem dX9_asksPlan_20 : decode cX9_asksPlan 20 = .ok (.getfield 110, 3) := by decide +kernel
theorem dX9_asksPlan_23 : decode cX9_asksPlan 23 = .ok (.iload 5, 2) := by decide +kernel
theorem dX9_asksPlan_25 : decode cX9_asksPlan 25 = .ok (.iaload, 1) := by decide +kernel
theorem dX9_asksPlan_26 : decode cX9_asksPlan 26 = .ok (.imul, 1) := by decide +kernel
theorem dX9_asksPlan_27 : decode cX9_asksPlan 27 = .ok (.aload_n 0, 1) := by decide +kernel
theorem dX9_asksPlan_28 : decode cX9_asksPlan 28 = .ok (.getfield 113, 3) := by decide +kernel
theorem dX9_asksPlan_31 : decode cX9_asksPlan 31 = .ok (.iload 5, 2) := by decide +kernel
theorem dX9_asksPlan_33 : decode cX9_asksPlan 33 = .ok (.iaload, 1) := by decide +kernel
theorem dX9_asksPlan_34 : decode cX9_asksPlan 34 = .ok (.iadd, 1) := by decide +kernel
theorem dX9_asksPlan_35 : decode cX9_asksPlan 35 = .ok (.istore 6, 2) := by decide +kernel
theorem dX9_asksPlan_37 : decode cX9_asksPlan 37 = .ok (.aload_n 0, 1) := by decide +kernel
theorem dX9_asksPlan_38 : decode cX9_asksPlan 38 = .ok (.aload_n 0, 1) := by decide +kernel
theorem dX9_asksPlan_39 : decode cX9_asksPlan 39 = .ok (.getfield 97, 3) := by decide +kernel
theorem dX9_asksPlan_42 : decode cX9_asksPlan 42 = .ok (.iload 6, 2) := by decide +kernel
theorem dX9_asksPlan_44 : decode cX9_asksPlan 44 = .ok (.iaload, 1) := by decide +kernel
theorem dX9_asksPlan_45 : decode cX9_asksPlan 45 = .ok (.aload_n 0, 1) := by decide +kernel
theorem dX9_asksPlan_46 : decode cX9_asksPlan 46 = .ok (.getfield 100, 3) := by decide +kernel
theorem dX9_asksPlan_49 : decode cX9_asksPlan 49 = .ok (.iload 6, 2) := by decide +kernel
theorem dX9_asksPlan_51 : decode cX9_asksPlan 51 = .ok (.iaload, 1) := by decide +kernel
theorem dX9_asksPlan_52 : decode cX9_asksPlan 52 = .ok (.aload_n 0, 1) := by decide +kernel
theorem dX9_asksPlan_53 : decode cX9_asksPlan 53 = .ok (.getfield 113, 3) := by decide +kernel
theorem dX9_asksPlan_56 : decode cX9_asksPlan 56 = .ok (.iload 5, 2) := by decide +kernel
theorem dX9_asksPlan_58 : decode cX9_asksPlan 58 = .ok (.iaload, 1) := by decide +kernel
theorem dX9_asksPlan_59 : decode cX9_asksPlan 59 = .ok (.iconst 3, 1) := by decide +kernel
theorem dX9_asksPlan_60 : decode cX9_asksPlan 60 = .ok (.irem, 1) := by decide +kernel
theorem dX9_asksPlan_61 : decode cX9_asksPlan 61 = .ok (.aload_n 0, 1) := by decide +kernel
theorem dX9_asksPlan_62 : decode cX9_asksPlan 62 = .ok (.getfield 103, 3) := by decide +kernel
theorem dX9_asksPlan_65 : decode cX9_asksPlan 65 = .ok (.iload 6, 2) := by decide +kernel
theorem dX9_asksPlan_67 : decode cX9_asksPlan 67 = .ok (.baload, 1) := by decide +kernel
theorem dX9_asksPlan_68 : decode cX9_asksPlan 68 = .ok (.invokevirtual 427, 3) := by decide +kernel
theorem dX9_asksPlan_71 : decode cX9_asksPlan 71 = .ok (.lload_n 3, 1) := by decide +kernel
theorem dX9_asksPlan_72 : decode cX9_asksPlan 72 = .ok (.ldc2_w 431, 3) := by decide +kernel
theorem dX9_asksPlan_75 : decode cX9_asksPlan 75 = .ok (.lmul, 1) := by decide +kernel
theorem dX9_asksPlan_76 : decode cX9_asksPlan 76 = .ok (.lstore_n 3, 1) := by decide +kernel
theorem dX9_asksPlan_77 : decode cX9_asksPlan 77 = .ok (.iinc 5 1, 3) := by decide +kernel
theorem dX9_asksPlan_80 : decode cX9_asksPlan 80 = .ok (.goto (-69), 3) := by decide +kernel
theorem dX9_asksPlan_83 : decode cX9_asksPlan 83 = .ok (.aload_n 0, 1) := by decide +kernel
theorem dX9_asksPlan_84 : decode cX9_asksPlan 84 = .ok (.iconst 1, 1) := by decide +kernel
theorem dX9_asksPlan_85 : decode cX9_asksPlan 85 = .ok (.invokevirtual 433, 3) := by decide +kernel
theorem dX9_asksPlan_88 : decode cX9_asksPlan 88 = .ok (.lstore 5, 2) := by decide +kernel
theorem dX9_asksPlan_90 : decode cX9_asksPlan 90 = .ok (.aload_n 0, 1) := by decide +kernel
theorem dX9_asksPlan_91 : decode cX9_asksPlan 91 = .ok (.iconst 0, 1) := by decide +kernel
theorem dX9_asksPlan_92 : decode cX9_asksPlan 92 = .ok (.invokevirtual 433, 3) := by decide +kernel
theorem dX9_asksPlan_95 : decode cX9_asksPlan 95 = .ok (.ldc2_w 431, 3) := by decide +kernel
theorem dX9_asksPlan_98 : decode cX9_asksPlan 98 = .ok (.lmul, 1) := by decide +kernel
theorem dX9_asksPlan_99 : decode cX9_asksPlan 99 = .ok (.lload_n 3, 1) := by decide +kernel
theorem dX9_asksPlan_100 : decode cX9_asksPlan 100 = .ok (.iload_n 2, 1) := by decide +kernel
theorem dX9_asksPlan_101 : decode cX9_asksPlan 101 = .ok (.i2l, 1) := by decide +kernel
theorem dX9_asksPlan_102 : decode cX9_asksPlan 102 = .ok (.lmul, 1) := by decide +kernel
theorem dX9_asksPlan_103 : decode cX9_asksPlan 103 = .ok (.lcmp, 1) := by decide +kernel
theorem dX9_asksPlan_104 : decode cX9_asksPlan 104 = .ok (.ifCond .lt 24, 3) := by decide +kernel
theorem dX9_asksPlan_107 : decode cX9_asksPlan 107 = .ok (.aload_n 0, 1) := by decide +kernel
theorem dX9_asksPlan_108 : decode cX9_asksPlan 108 = .ok (.getfield 439, 3) := by decide +kernel
theorem dX9_asksPlan_111 : decode cX9_asksPlan 111 = .ok (.ldc2_w 422, 3) := by decide +kernel
theorem dX9_asksPlan_114 : decode cX9_asksPlan 114 = .ok (.lcmp, 1) := by decide +kernel
theorem dX9_asksPlan_115 : decode cX9_asksPlan 115 = .ok (.ifCond .eq 14, 3) := by decide +kernel
theorem dX9_asksPlan_118 : decode cX9_asksPlan 118 = .ok (.lload 5, 2) := by decide +kernel
theorem dX9_asksPlan_120 : decode cX9_asksPlan 120 = .ok (.aload_n 0, 1) := by decide +kernel
theorem dX9_asksPlan_121 : decode cX9_asksPlan 121 = .ok (.getfield 439, 3) := by decide +kernel
theorem dX9_asksPlan_124 : decode cX9_asksPlan 124 = .ok (.lcmp, 1) := by decide +kernel
theorem dX9_asksPlan_125 : decode cX9_asksPlan 125 = .ok (.ifCond .lt 4, 3) := by decide +kernel
theorem dX9_asksPlan_128 : decode cX9_asksPlan 128 = .ok (.return_, 1) := by decide +kernel
theorem dX9_asksPlan_129 : decode cX9_asksPlan 129 = .ok (.aload_n 0, 1) := by decide +kernel
theorem dX9_asksPlan_130 : decode cX9_asksPlan 130 = .ok (.lload 5, 2) := by decide +kernel
theorem dX9_asksPlan_132 : decode cX9_asksPlan 132 = .ok (.putfield 439, 3) := by decide +kernel
theorem dX9_asksPlan_135 : decode cX9_asksPlan 135 = .ok (.iconst 0, 1) := by decide +kernel
theorem dX9_asksPlan_136 : decode cX9_asksPlan 136 = .ok (.istore 7, 2) := by decide +kernel
theorem dX9_asksPlan_138 : decode cX9_asksPlan 138 = .ok (.iload 7, 2) := by decide +kernel
theorem dX9_asksPlan_140 : decode cX9_asksPlan 140 = .ok (.iload_n 1, 1) := by decide +kernel
theorem dX9_asksPlan_141 : decode cX9_asksPlan 141 = .ok (.if_icmp .ge 37, 3) := by decide +kernel
theorem dX9_asksPlan_144 : decode cX9_asksPlan 144 = .ok (.aload_n 0, 1) := by decide +kernel
theorem dX9_asksPlan_145 : decode cX9_asksPlan 145 = .ok (.getfield 116, 3) := by decide +kernel
theorem dX9_asksPlan_148 : decode cX9_asksPlan 148 = .ok (.iload 7, 2) := by decide +kernel
theorem dX9_asksPlan_150 : decode cX9_asksPlan 150 = .ok (.aload_n 0, 1) := by decide +kernel
theorem dX9_asksPlan_151 : decode cX9_asksPlan 151 = .ok (.getfield 110, 3) := by decide +kernel
theorem dX9_asksPlan_154 : decode cX9_asksPlan 154 = .ok (.iload 7, 2) := by decide +kernel
theorem dX9_asksPlan_156 : decode cX9_asksPlan 156 = .ok (.iaload, 1) := by decide +kernel
theorem dX9_asksPlan_157 : decode cX9_asksPlan 157 = .ok (.iastore, 1) := by decide +kernel
theorem dX9_asksPlan_158 : decode cX9_asksPlan 158 = .ok (.aload_n 0, 1) := by decide +kernel
theorem dX9_asksPlan_159 : decode cX9_asksPlan 159 = .ok (.getfield 119, 3) := by decide +kernel
theorem dX9_asksPlan_162 : decode cX9_asksPlan 162 = .ok (.iload 7, 2) := by decide +kernel
theorem dX9_asksPlan_164 : decode cX9_asksPlan 164 = .ok (.aload_n 0, 1) := by decide +kernel
theorem dX9_asksPlan_165 : decode cX9_asksPlan 165 = .ok (.getfield 113, 3) := by decide +kernel
theorem dX9_asksPlan_168 : decode cX9_asksPlan 168 = .ok (.iload 7, 2) := by decide +kernel
theorem dX9_asksPlan_170 : decode cX9_asksPlan 170 = .ok (.iaload, 1) := by decide +kernel
theorem dX9_asksPlan_171 : decode cX9_asksPlan 171 = .ok (.iastore, 1) := by decide +kernel
theorem dX9_asksPlan_172 : decode cX9_asksPlan 172 = .ok (.iinc 7 1, 3) := by decide +kernel
theorem dX9_asksPlan_175 : decode cX9_asksPlan 175 = .ok (.goto (-37), 3) := by decide +kernel
theorem dX9_asksPlan_178 : decode cX9_asksPlan 178 = .ok (.return_, 1) := by decide +kernel
set_option maxRecDepth 20000 in
theorem ggX9_triesDoings_X9_asksPlan : GoodIn wsX9_triesDoings wsX9_asksPlan := goodIn_r _ [7, 8, 2, 9, 10, 11, 12, 13, 14, 15, 16, 17, 18, 19, 6, 20, 21, 22, 23, 24, 25, 26, 27, 28, 29, 30, 31, 32, 33, 34, 35, 36, 37, 38, 39, 40, 41, 42, 43, 44, 45, 46, 47, 48, 49, 50, 51, 52, 53, 54, 55, 56, 57, 58, 59, 60, 61, 62, 63, 64, 65, 66, 67, 68, 69, 70, 71, 72, 73, 74, 75, 76, 77, 78, 79, 80, 81, 82, 83, 84, 85, 86, 87] (by decide +kernel) (by decide +kernel)
set_option maxRecDepth 20000 in
theorem gX9_triesDoings_X9_asksPlan : GoodIn wsX9_triesDoings (wsV RX9 443 RX9 yX9_asksPlan wsX9_asksPlan) := goodIn_app (goodIn_of _ (by decide +kernel)) ggX9_triesDoings_X9_asksPlan
theorem dX9_triesDoings_0 : decode cX9_triesDoings 0 = .ok (.iconst 1, 1) := by decide +kernel
theorem dX9_triesDoings_1 : decode cX9_triesDoings 1 = .ok (.istore_n 3, 1) := by decide +kernel
theorem dX9_triesDoings_2 : decode cX9_triesDoings 2 = .ok (.iconst 0, 1) := by decide +kernel
theorem dX9_triesDoings_3 : decode cX9_triesDoings 3 = .ok (.istore 4, 2) := by decide +kernel
theorem dX9_triesDoings_5 : decode cX9_triesDoings 5 = .ok (.iload 4, 2) := by decide +kernel
theorem dX9_triesDoings_7 : decode cX9_triesDoings 7 = .ok (.iload_n 1, 1) := by decide +kernel
theorem dX9_triesDoings_8 : decode cX9_triesDoings 8 = .ok (.if_icmp .ge 20, 3) := by decide +kernel
theorem dX9_triesDoings_11 : decode cX9_triesDoings 11 = .ok (.iload_n 3, 1) := by decide +kernel
theorem dX9_triesDoings_12 : decode cX9_triesDoings 12 = .ok (.iconst 3, 1) := by decide +kernel
theorem dX9_triesDoings_13 : decode cX9_triesDoings 13 = .ok (.imul, 1) := by decide +kernel
theorem dX9_triesDoings_14 : decode cX9_triesDoings 14 = .ok (.aload_n 0, 1) := by decide +kernel
theorem dX9_triesDoings_15 : decode cX9_triesDoings 15 = .ok (.getfield 7, 3) := by decide +kernel
theorem dX9_triesDoings_18 : decode cX9_triesDoings 18 = .ok (.iconst 0, 1) := by decide +kernel
theorem dX9_triesDoings_19 : decode cX9_triesDoings 19 = .ok (.iaload, 1) := by decide +kernel
theorem dX9_triesDoings_20 : decode cX9_triesDoings 20 = .ok (.imul, 1) := by decide +kernel
theorem dX9_triesDoings_21 : decode cX9_triesDoings 21 = .ok (.istore_n 3, 1) := by decide +kernel
theorem dX9_triesDoings_22 : decode cX9_triesDoings 22 = .ok (.iinc 4 1, 3) := by decide +kernel
theorem dX9_triesDoings_25 : decode cX9_triesDoings 25 = .ok (.goto (-20), 3) := by decide +kernel
theorem dX9_triesDoings_28 : decode cX9_triesDoings 28 = .ok (.iconst 0, 1) := by decide +kernel
theorem dX9_triesDoings_29 : decode cX9_triesDoings 29 = .ok (.istore 4, 2) := by decide +kernel
theorem dX9_triesDoings_31 : decode cX9_triesDoings 31 = .ok (.iload 4, 2) := by decide +kernel
theorem dX9_triesDoings_33 : decode cX9_triesDoings 33 = .ok (.iload_n 3, 1) := by decide +kernel
theorem dX9_triesDoings_34 : decode cX9_triesDoings 34 = .ok (.if_icmp .ge 66, 3) := by decide +kernel
theorem dX9_triesDoings_37 : decode cX9_triesDoings 37 = .ok (.iload 4, 2) := by decide +kernel
theorem dX9_triesDoings_39 : decode cX9_triesDoings 39 = .ok (.istore 5, 2) := by decide +kernel
theorem dX9_triesDoings_41 : decode cX9_triesDoings 41 = .ok (.iload_n 1, 1) := by decide +kernel
theorem dX9_triesDoings_42 : decode cX9_triesDoings 42 = .ok (.iconst 1, 1) := by decide +kernel
theorem dX9_triesDoings_43 : decode cX9_triesDoings 43 = .ok (.isub, 1) := by decide +kernel
theorem dX9_triesDoings_44 : decode cX9_triesDoings 44 = .ok (.istore 6, 2) := by decide +kernel
theorem dX9_triesDoings_46 : decode cX9_triesDoings 46 = .ok (.iload 6, 2) := by decide +kernel
theorem dX9_triesDoings_48 : decode cX9_triesDoings 48 = .ok (.ifCond .lt 40, 3) := by decide +kernel
theorem dX9_triesDoings_51 : decode cX9_triesDoings 51 = .ok (.aload_n 0, 1) := by decide +kernel
theorem dX9_triesDoings_52 : decode cX9_triesDoings 52 = .ok (.getfield 113, 3) := by decide +kernel
theorem dX9_triesDoings_55 : decode cX9_triesDoings 55 = .ok (.iload 6, 2) := by decide +kernel
theorem dX9_triesDoings_57 : decode cX9_triesDoings 57 = .ok (.iload 5, 2) := by decide +kernel
theorem dX9_triesDoings_59 : decode cX9_triesDoings 59 = .ok (.iconst 3, 1) := by decide +kernel
theorem dX9_triesDoings_60 : decode cX9_triesDoings 60 = .ok (.aload_n 0, 1) := by decide +kernel
theorem dX9_triesDoings_61 : decode cX9_triesDoings 61 = .ok (.getfield 7, 3) := by decide +kernel
theorem dX9_triesDoings_64 : decode cX9_triesDoings 64 = .ok (.iconst 0, 1) := by decide +kernel
theorem dX9_triesDoings_65 : decode cX9_triesDoings 65 = .ok (.iaload, 1) := by decide +kernel
theorem dX9_triesDoings_66 : decode cX9_triesDoings 66 = .ok (.imul, 1) := by decide +kernel
theorem dX9_triesDoings_67 : decode cX9_triesDoings 67 = .ok (.irem, 1) := by decide +kernel
theorem dX9_triesDoings_68 : decode cX9_triesDoings 68 = .ok (.iastore, 1) := by decide +kernel
theorem dX9_triesDoings_69 : decode cX9_triesDoings 69 = .ok (.iload 5, 2) := by decide +kernel
theorem dX9_triesDoings_71 : decode cX9_triesDoings 71 = .ok (.iconst 3, 1) := by decide +kernel
theorem dX9_triesDoings_72 : decode cX9_triesDoings 72 = .ok (.aload_n 0, 1) := by decide +kernel
theorem dX9_triesDoings_73 : decode cX9_triesDoings 73 = .ok (.getfield 7, 3) := by decide +kernel
theorem dX9_triesDoings_76 : decode cX9_triesDoings 76 = .ok (.iconst 0, 1) := by decide +kernel
theorem dX9_triesDoings_77 : decode cX9_triesDoings 77 = .ok (.iaload, 1) := by decide +kernel
theorem dX9_triesDoings_78 : decode cX9_triesDoings 78 = .ok (.imul, 1) := by decide +kernel
theorem dX9_triesDoings_79 : decode cX9_triesDoings 79 = .ok (.idiv, 1) := by decide +kernel
theorem dX9_triesDoings_80 : decode cX9_triesDoings 80 = .ok (.istore 5, 2) := by decide +kernel
theorem dX9_triesDoings_82 : decode cX9_triesDoings 82 = .ok (.iinc 6 (-1), 3) := by decide +kernel
theorem dX9_triesDoings_85 : decode cX9_triesDoings 85 = .ok (.goto (-39), 3) := by decide +kernel
theorem dX9_triesDoings_88 : decode cX9_triesDoings 88 = .ok (.aload_n 0, 1) := by decide +kernel
theorem dX9_triesDoings_89 : decode cX9_triesDoings 89 = .ok (.iload_n 1, 1) := by decide +kernel
theorem dX9_triesDoings_90 : decode cX9_triesDoings 90 = .ok (.iload_n 2, 1) := by decide +kernel
theorem dX9_triesDoings_91 : decode cX9_triesDoings 91 = .ok (.invokevirtual 443, 3) := by decide +kernel
theorem dX9_triesDoings_94 : decode cX9_triesDoings 94 = .ok (.iinc 4 1, 3) := by decide +kernel
theorem dX9_triesDoings_97 : decode cX9_triesDoings 97 = .ok (.goto (-66), 3) := by decide +kernel
theorem dX9_triesDoings_100 : decode cX9_triesDoings 100 = .ok (.return_, 1) := by decide +kernel
set_option maxRecDepth 20000 in
theorem ggX9_plansOf_X9_triesDoings : GoodIn wsX9_plansOf wsX9_triesDoings := goodIn_r _ [10, 11, 12, 13, 14, 15, 9, 16, 5, 17, 18, 19, 20, 2, 1, 21, 22, 23, 24, 25, 26, 27, 28, 29, 30, 31, 32, 33, 34, 35, 36, 37, 38, 39, 40, 41, 42, 43, 44, 45, 46, 47, 48, 49, 50, 51, 52, 53, 54, 55, 56, 57, 58, 59, 60, 61, 62, 63, 64, 65, 66, 67, 68, 69, 70, 71, 72, 73, 74, 75, 76, 77, 78, 79, 80, 81, 82, 83, 84, 85, 86, 87, 88, 89, 90, 91, 92, 93] (by decide +kernel) (by decide +kernel)
set_option maxRecDepth 20000 in
theorem gX9_plansOf_X9_triesDoings : GoodIn wsX9_plansOf (wsV RX9 446 RX9 yX9_triesDoings wsX9_triesDoings) := goodIn_app (goodIn_of _ (by decide +kernel)) ggX9_plansOf_X9_triesDoings
theorem dX9_plansOf_0 : decode cX9_plansOf 0 = .ok (.aload_n 0, 1) := by decide +kernel
theorem dX9_plansOf_1 : decode cX9_plansOf 1 = .ok (.ldc2_w 422, 3) := by decide +kernel
theorem dX9_plansOf_4 : decode cX9_plansOf 4 = .ok (.putfield 439, 3) := by decide +kernel
theorem dX9_plansOf_7 : decode cX9_plansOf 7 = .ok (.iconst 0, 1) := by decide +kernel
theorem dX9_plansOf_8 : decode cX9_plansOf 8 = .ok (.istore_n 3, 1) := by decide +kernel
theorem dX9_plansOf_9 : decode cX9_plansOf 9 = .ok (.iload_n 3, 1) := by decide +kernel
theorem dX9_plansOf_10 : decode cX9_plansOf 10 = .ok (.sipush 1024, 3) := by decide +kernel
theorem dX9_plansOf_13 : decode cX9_plansOf 13 = .ok (.if_icmp .ge 138, 3) := by decide +kernel
theorem dX9_plansOf_16 : decode cX9_plansOf 16 = .ok (.iconst 0, 1) := by decide +kernel
theorem dX9_plansOf_17 : decode cX9_plansOf 17 = .ok (.istore 4, 2) := by decide +kernel
theorem dX9_plansOf_19 : decode cX9_plansOf 19 = .ok (.iconst 1, 1) := by decide +kernel
theorem dX9_plansOf_20 : decode cX9_plansOf 20 = .ok (.istore 5, 2) := by decide +kernel
theorem dX9_plansOf_22 : decode cX9_plansOf 22 = .ok (.iconst 0, 1) := by decide +kernel
theorem dX9_plansOf_23 : decode cX9_plansOf 23 = .ok (.istore 6, 2) := by decide +kernel
theorem dX9_plansOf_25 : decode cX9_plansOf 25 = .ok (.iload 6, 2) := by decide +kernel
theorem dX9_plansOf_27 : decode cX9_plansOf 27 = .ok (.bipush 10, 2) := by decide +kernel
theorem dX9_plansOf_29 : decode cX9_plansOf 29 = .ok (.if_icmp .ge 99, 3) := by decide +kernel
theorem dX9_plansOf_32 : decode cX9_plansOf 32 = .ok (.iload_n 3, 1) := by decide +kernel
theorem dX9_plansOf_33 : decode cX9_plansOf 33 = .ok (.iload 6, 2) := by decide +kernel
theorem dX9_plansOf_35 : decode cX9_plansOf 35 = .ok (.ishr, 1) := by decide +kernel
theorem dX9_plansOf_36 : decode cX9_plansOf 36 = .ok (.iconst 1, 1) := by decide +kernel
theorem dX9_plansOf_37 : decode cX9_plansOf 37 = .ok (.iand, 1) := by decide +kernel
theorem dX9_plansOf_38 : decode cX9_plansOf 38 = .ok (.iconst 1, 1) := by decide +kernel
theorem dX9_plansOf_39 : decode cX9_plansOf 39 = .ok (.if_icmp .ne 83, 3) := by decide +kernel
theorem dX9_plansOf_42 : decode cX9_plansOf 42 = .ok (.iconst 0, 1) := by decide +kernel
theorem dX9_plansOf_43 : decode cX9_plansOf 43 = .ok (.istore 7, 2) := by decide +kernel
theorem dX9_plansOf_45 : decode cX9_plansOf 45 = .ok (.iconst 0, 1) := by decide +kernel
theorem dX9_plansOf_46 : decode cX9_plansOf 46 = .ok (.istore 8, 2) := by decide +kernel
theorem dX9_plansOf_48 : decode cX9_plansOf 48 = .ok (.iload 8, 2) := by decide +kernel
theorem dX9_plansOf_50 : decode cX9_plansOf 50 = .ok (.aload_n 0, 1) := by decide +kernel
theorem dX9_plansOf_51 : decode cX9_plansOf 51 = .ok (.getfield 436, 3) := by decide +kernel
theorem dX9_plansOf_54 : decode cX9_plansOf 54 = .ok (.if_icmp .ge 33, 3) := by decide +kernel
theorem dX9_plansOf_57 : decode cX9_plansOf 57 = .ok (.iload 7, 2) := by decide +kernel
theorem dX9_plansOf_59 : decode cX9_plansOf 59 = .ok (.ifCond .ne 15, 3) := by decide +kernel
theorem dX9_plansOf_62 : decode cX9_plansOf 62 = .ok (.aload_n 0, 1) := by decide +kernel
theorem dX9_plansOf_63 : decode cX9_plansOf 63 = .ok (.getfield 107, 3) := by decide +kernel
theorem dX9_plansOf_66 : decode cX9_plansOf 66 = .ok (.iload 8, 2) := by decide +kernel
theorem dX9_plansOf_68 : decode cX9_plansOf 68 = .ok (.iaload, 1) := by decide +kernel
theorem dX9_plansOf_69 : decode cX9_plansOf 69 = .ok (.iload 6, 2) := by decide +kernel
theorem dX9_plansOf_71 : decode cX9_plansOf 71 = .ok (.if_icmp .ne 7, 3) := by decide +kernel
theorem dX9_plansOf_74 : decode cX9_plansOf 74 = .ok (.iconst 1, 1) := by decide +kernel
theorem dX9_plansOf_75 : decode cX9_plansOf 75 = .ok (.goto 4, 3) := by decide +kernel
theorem dX9_plansOf_78 : decode cX9_plansOf 78 = .ok (.iconst 0, 1) := by decide +kernel
theorem dX9_plansOf_79 : decode cX9_plansOf 79 = .ok (.istore 7, 2) := by decide +kernel
theorem dX9_plansOf_81 : decode cX9_plansOf 81 = .ok (.iinc 8 1, 3) := by decide +kernel
theorem dX9_plansOf_84 : decode cX9_plansOf 84 = .ok (.goto (-36), 3) := by decide +kernel
theorem dX9_plansOf_87 : decode cX9_plansOf 87 = .ok (.iload 5, 2) := by decide +kernel
theorem dX9_plansOf_89 : decode cX9_plansOf 89 = .ok (.ifCond .eq 12, 3) := by decide +kernel
theorem dX9_plansOf_92 : decode cX9_plansOf 92 = .ok (.iload 7, 2) := by decide +kernel
theorem dX9_plansOf_94 : decode cX9_plansOf 94 = .ok (.ifCond .eq 7, 3) := by decide +kernel
theorem dX9_plansOf_97 : decode cX9_plansOf 97 = .ok (.iconst 1, 1) := by decide +kernel
theorem dX9_plansOf_98 : decode cX9_plansOf 98 = .ok (.goto 4, 3) := by decide +kernel
theorem dX9_plansOf_101 : decode cX9_plansOf 101 = .ok (.iconst 0, 1) := by decide +kernel
theorem dX9_plansOf_102 : decode cX9_plansOf 102 = .ok (.istore 5, 2) := by decide +kernel
theorem dX9_plansOf_104 : decode cX9_plansOf 104 = .ok (.iload 4, 2) := by decide +kernel
theorem dX9_plansOf_106 : decode cX9_plansOf 106 = .ok (.iconst 3, 1) := by decide +kernel
theorem dX9_plansOf_107 : decode cX9_plansOf 107 = .ok (.if_icmp .ge 12, 3) := by decide +kernel
theorem dX9_plansOf_110 : decode cX9_plansOf 110 = .ok (.aload_n 0, 1) := by decide +kernel
theorem dX9_plansOf_111 : decode cX9_plansOf 111 = .ok (.getfield 110, 3) := by decide +kernel
theorem dX9_plansOf_114 : decode cX9_plansOf 114 = .ok (.iload 4, 2) := by decide +kernel
theorem dX9_plansOf_116 : decode cX9_plansOf 116 = .ok (.iload 6, 2) := by decide +kernel
theorem dX9_plansOf_118 : decode cX9_plansOf 118 = .ok (.iastore, 1) := by decide +kernel
theorem dX9_plansOf_119 : decode cX9_plansOf 119 = .ok (.iinc 4 1, 3) := by decide +kernel
theorem dX9_plansOf_122 : decode cX9_plansOf 122 = .ok (.iinc 6 1, 3) := by decide +kernel
theorem dX9_plansOf_125 : decode cX9_plansOf 125 = .ok (.goto (-100), 3) := by decide +kernel
theorem dX9_plansOf_128 : decode cX9_plansOf 128 = .ok (.iload 5, 2) := by decide +kernel
theorem dX9_plansOf_130 : decode cX9_plansOf 130 = .ok (.ifCond .eq 15, 3) := by decide +kernel
theorem dX9_plansOf_133 : decode cX9_plansOf 133 = .ok (.iload 4, 2) := by decide +kernel
theorem dX9_plansOf_135 : decode cX9_plansOf 135 = .ok (.iload_n 1, 1) := by decide +kernel
theorem dX9_plansOf_136 : decode cX9_plansOf 136 = .ok (.if_icmp .ne 9, 3) := by decide +kernel
theorem dX9_plansOf_139 : decode cX9_plansOf 139 = .ok (.aload_n 0, 1) := by decide +kernel
theorem dX9_plansOf_140 : decode cX9_plansOf 140 = .ok (.iload_n 1, 1) := by decide +kernel
theorem dX9_plansOf_141 : decode cX9_plansOf 141 = .ok (.iload_n 2, 1) := by decide +kernel
theorem dX9_plansOf_142 : decode cX9_plansOf 142 = .ok (.invokevirtual 446, 3) := by decide +kernel
theorem dX9_plansOf_145 : decode cX9_plansOf 145 = .ok (.iinc 3 1, 3) := by decide +kernel
theorem dX9_plansOf_148 : decode cX9_plansOf 148 = .ok (.goto (-139), 3) := by decide +kernel
theorem dX9_plansOf_151 : decode cX9_plansOf 151 = .ok (.aload_n 0, 1) := by decide +kernel
theorem dX9_plansOf_152 : decode cX9_plansOf 152 = .ok (.getfield 439, 3) := by decide +kernel
theorem dX9_plansOf_155 : decode cX9_plansOf 155 = .ok (.ldc2_w 422, 3) := by decide +kernel
theorem dX9_plansOf_158 : decode cX9_plansOf 158 = .ok (.lcmp, 1) := by decide +kernel
theorem dX9_plansOf_159 : decode cX9_plansOf 159 = .ok (.ifCond .eq 7, 3) := by decide +kernel
theorem dX9_plansOf_162 : decode cX9_plansOf 162 = .ok (.iconst 1, 1) := by decide +kernel
theorem dX9_plansOf_163 : decode cX9_plansOf 163 = .ok (.goto 4, 3) := by decide +kernel
theorem dX9_plansOf_166 : decode cX9_plansOf 166 = .ok (.iconst 0, 1) := by decide +kernel
theorem dX9_plansOf_167 : decode cX9_plansOf 167 = .ok (.ireturn, 1) := by decide +kernel
set_option maxRecDepth 20000 in
theorem ggX9_plan_X9_isLetterNumber : GoodIn wsX9_plan wsX9_isLetterNumber := goodIn_r _ [6, 7, 8, 5, 9] (by decide +kernel) (by decide +kernel)
set_option maxRecDepth 20000 in
theorem gX9_plan_X9_isLetterNumber : GoodIn wsX9_plan (va_wsS RX9 409 yX9_isLetterNumber wsX9_isLetterNumber) := goodIn_app (goodIn_of _ (by decide +kernel)) ggX9_plan_X9_isLetterNumber
set_option maxRecDepth 20000 in
theorem ggX9_plan_X9_in : GoodIn wsX9_plan wsX9_in := goodIn_r _ [9] (by decide +kernel) (by decide +kernel)
set_option maxRecDepth 20000 in
theorem gX9_plan_X9_in : GoodIn wsX9_plan (va_wsS RX9 126 yX9_in wsX9_in) := goodIn_app (goodIn_of _ (by decide +kernel)) ggX9_plan_X9_in
set_option maxRecDepth 20000 in
theorem ggX9_plan_X9_isGoose : GoodIn wsX9_plan wsX9_isGoose := goodIn_r _ [13, 14, 7, 8, 5, 9, 105, 106, 107, 108, 109, 110, 111, 112, 113, 114, 115, 116, 117, 118, 119, 120, 121, 122, 123, 124, 125, 126, 127, 128, 129, 130, 131, 132, 133, 134, 135, 136, 137, 138, 139, 140, 141, 142, 143, 144, 145, 146, 147, 148, 149, 150, 151, 152, 153, 154, 155, 156, 157] (by decide +kernel) (by decide +kernel)
set_option maxRecDepth 20000 in
theorem gX9_plan_X9_isGoose : GoodIn wsX9_plan (wsV RX9 134 RX9 yX9_isGoose wsX9_isGoose) := goodIn_app (goodIn_of _ (by decide +kernel)) ggX9_plan_X9_isGoose
set_option maxRecDepth 20000 in
theorem ggX9_plan_X9_laysFlock : GoodIn wsX9_plan wsX9_laysFlock := goodIn_r _ [18, 19, 14, 20, 21, 22, 23, 24, 25, 26, 5, 27, 10, 11, 12, 13, 7, 8, 9, 28, 29, 30, 31, 32, 33, 34, 35, 36, 37, 38, 39, 40, 41, 42, 43, 44, 45, 46, 47, 48, 49, 50, 51, 52, 53, 54, 55, 56, 57, 58, 59, 60, 61, 62, 63, 64, 65, 66, 67, 68, 69, 105, 106, 107, 108, 109, 110, 111, 112, 113, 114, 115, 116, 117, 118, 119, 120, 121, 122, 123, 124, 125, 126, 127, 128, 129, 130, 131, 132, 133, 134, 135, 136, 137, 138, 139, 140, 141, 142, 143, 144, 145, 146, 147, 148, 149, 150, 151, 152, 153, 154, 155, 156, 157] (by decide +kernel) (by decide +kernel)
set_option maxRecDepth 20000 in
theorem gX9_plan_X9_laysFlock : GoodIn wsX9_plan (wsV RX9 449 RX9 yX9_laysFlock wsX9_laysFlock) := goodIn_app (goodIn_of _ (by decide +kernel)) ggX9_plan_X9_laysFlock
set_option maxRecDepth 20000 in
theorem ggX9_plan_X9_plansOf : GoodIn wsX9_plan wsX9_plansOf := goodIn_r _ [73, 74, 75, 19, 20, 76, 77, 78, 79, 5, 80, 14, 81, 82, 83, 84, 85, 21, 22, 23, 86, 1, 2, 87, 88, 89, 90, 91, 92, 93, 94, 95, 96, 97, 98, 99, 100, 101, 102, 103, 104, 105, 106, 107, 108, 109, 110, 111, 112, 113, 114, 115, 116, 117, 118, 119, 120, 121, 122, 123, 124, 125, 126, 127, 128, 129, 130, 131, 132, 133, 134, 135, 136, 137, 138, 139, 140, 141, 142, 143, 144, 145, 146, 147, 148, 149, 150, 151, 152, 153, 154, 155, 156, 157] (by decide +kernel) (by decide +kernel)
set_option maxRecDepth 20000 in
theorem gX9_plan_X9_plansOf : GoodIn wsX9_plan (wsV RX9 452 RX9 yX9_plansOf wsX9_plansOf) := goodIn_app (goodIn_of _ (by decide +kernel)) ggX9_plan_X9_plansOf
theorem dX9_plan_0 : decode cX9_plan 0 = .ok (.iload_n 1, 1) := by decide +kernel
theorem dX9_plan_1 : decode cX9_plan 1 = .ok (.invokestatic 409, 3) := by decide +kernel
theorem dX9_plan_4 : decode cX9_plan 4 = .ok (.ifCond .eq 26, 3) := by decide +kernel
theorem dX9_plan_7 : decode cX9_plan 7 = .ok (.iload_n 2, 1) := by decide +kernel
theorem dX9_plan_8 : decode cX9_plan 8 = .ok (.iconst 1, 1) := by decide +kernel
theorem dX9_plan_9 : decode cX9_plan 9 = .ok (.bipush 100, 2) := by decide +kernel
theorem dX9_plan_11 : decode cX9_plan 11 = .ok (.invokestatic 126, 3) := by decide +kernel
theorem dX9_plan_14 : decode cX9_plan 14 = .ok (.ifCond .eq 16, 3) := by decide +kernel
theorem dX9_plan_17 : decode cX9_plan 17 = .ok (.iload_n 3, 1) := by decide +kernel
theorem dX9_plan_18 : decode cX9_plan 18 = .ok (.iconst (-1), 1) := by decide +kernel
theorem dX9_plan_19 : decode cX9_plan 19 = .ok (.if_icmp .eq 14, 3) := by decide +kernel
theorem dX9_plan_22 : decode cX9_plan 22 = .ok (.aload_n 0, 1) := by decide +kernel
theorem dX9_plan_23 : decode cX9_plan 23 = .ok (.iload_n 3, 1) := by decide +kernel
theorem dX9_plan_24 : decode cX9_plan 24 = .ok (.invokevirtual 134, 3) := by decide +kernel
theorem dX9_plan_27 : decode cX9_plan 27 = .ok (.ifCond .ne 6, 3) := by decide +kernel
theorem dX9_plan_30 : decode cX9_plan 30 = .ok (.bipush (-2), 2) := by decide +kernel
theorem dX9_plan_32 : decode cX9_plan 32 = .ok (.ireturn, 1) := by decide +kernel
theorem dX9_plan_33 : decode cX9_plan 33 = .ok (.aload_n 0, 1) := by decide +kernel
theorem dX9_plan_34 : decode cX9_plan 34 = .ok (.iload_n 1, 1) := by decide +kernel
theorem dX9_plan_35 : decode cX9_plan 35 = .ok (.invokevirtual 449, 3) := by decide +kernel
theorem dX9_plan_38 : decode cX9_plan 38 = .ok (.iconst 1, 1) := by decide +kernel
theorem dX9_plan_39 : decode cX9_plan 39 = .ok (.istore 4, 2) := by decide +kernel
theorem dX9_plan_41 : decode cX9_plan 41 = .ok (.iload 4, 2) := by decide +kernel
theorem dX9_plan_43 : decode cX9_plan 43 = .ok (.iconst 4, 1) := by decide +kernel
theorem dX9_plan_44 : decode cX9_plan 44 = .ok (.if_icmp .ge 96, 3) := by decide +kernel
theorem dX9_plan_47 : decode cX9_plan 47 = .ok (.aload_n 0, 1) := by decide +kernel
theorem dX9_plan_48 : decode cX9_plan 48 = .ok (.iload 4, 2) := by decide +kernel
theorem dX9_plan_50 : decode cX9_plan 50 = .ok (.iload_n 2, 1) := by decide +kernel
theorem dX9_plan_51 : decode cX9_plan 51 = .ok (.invokevirtual 452, 3) := by decide +kernel
theorem dX9_plan_54 : decode cX9_plan 54 = .ok (.ifCond .eq 80, 3) := by decide +kernel
theorem dX9_plan_57 : decode cX9_plan 57 = .ok (.iload_n 3, 1) := by decide +kernel
theorem dX9_plan_58 : decode cX9_plan 58 = .ok (.iconst (-1), 1) := by decide +kernel
theorem dX9_plan_59 : decode cX9_plan 59 = .ok (.if_icmp .ne 8, 3) := by decide +kernel
theorem dX9_plan_62 : decode cX9_plan 62 = .ok (.iload 4, 2) := by decide +kernel
theorem dX9_plan_64 : decode cX9_plan 64 = .ok (.goto 4, 3) := by decide +kernel
theorem dX9_plan_67 : decode cX9_plan 67 = .ok (.iconst (-1), 1) := by decide +kernel
theorem dX9_plan_68 : decode cX9_plan 68 = .ok (.istore 5, 2) := by decide +kernel
theorem dX9_plan_70 : decode cX9_plan 70 = .ok (.iconst 0, 1) := by decide +kernel
theorem dX9_plan_71 : decode cX9_plan 71 = .ok (.istore 6, 2) := by decide +kernel
theorem dX9_plan_73 : decode cX9_plan 73 = .ok (.iload 6, 2) := by decide +kernel
theorem dX9_plan_75 : decode cX9_plan 75 = .ok (.iload 4, 2) := by decide +kernel
theorem dX9_plan_77 : decode cX9_plan 77 = .ok (.if_icmp .ge 54, 3) := by decide +kernel
theorem dX9_plan_80 : decode cX9_plan 80 = .ok (.iload_n 3, 1) := by decide +kernel
theorem dX9_plan_81 : decode cX9_plan 81 = .ok (.iconst (-1), 1) := by decide +kernel
theorem dX9_plan_82 : decode cX9_plan 82 = .ok (.if_icmp .eq 49, 3) := by decide +kernel
theorem dX9_plan_85 : decode cX9_plan 85 = .ok (.aload_n 0, 1) := by decide +kernel
theorem dX9_plan_86 : decode cX9_plan 86 = .ok (.getfield 116, 3) := by decide +kernel
theorem dX9_plan_89 : decode cX9_plan 89 = .ok (.iload 6, 2) := by decide +kernel
theorem dX9_plan_91 : decode cX9_plan 91 = .ok (.iaload, 1) := by decide +kernel
theorem dX9_plan_92 : decode cX9_plan 92 = .ok (.iload_n 3, 1) := by decide +kernel
theorem dX9_plan_93 : decode cX9_plan 93 = .ok (.if_icmp .ne 28, 3) := by decide +kernel
theorem dX9_plan_96 : decode cX9_plan 96 = .ok (.bipush 10, 2) := by decide +kernel
theorem dX9_plan_98 : decode cX9_plan 98 = .ok (.aload_n 0, 1) := by decide +kernel
theorem dX9_plan_99 : decode cX9_plan 99 = .ok (.getfield 119, 3) := by decide +kernel
theorem dX9_plan_102 : decode cX9_plan 102 = .ok (.iload 6, 2) := by decide +kernel
theorem dX9_plan_104 : decode cX9_plan 104 = .ok (.iaload, 1) := by decide +kernel
theorem dX9_plan_105 : decode cX9_plan 105 = .ok (.iconst 3, 1) := by decide +kernel
theorem dX9_plan_106 : decode cX9_plan 106 = .ok (.idiv, 1) := by decide +kernel
theorem dX9_plan_107 : decode cX9_plan 107 = .ok (.imul, 1) := by decide +kernel
theorem dX9_plan_108 : decode cX9_plan 108 = .ok (.aload_n 0, 1) := by decide +kernel
theorem dX9_plan_109 : decode cX9_plan 109 = .ok (.getfield 119, 3) := by decide +kernel
theorem dX9_plan_112 : decode cX9_plan 112 = .ok (.iload 6, 2) := by decide +kernel
theorem dX9_plan_114 : decode cX9_plan 114 = .ok (.iaload, 1) := by decide +kernel
theorem dX9_plan_115 : decode cX9_plan 115 = .ok (.iconst 3, 1) := by decide +kernel
theorem dX9_plan_116 : decode cX9_plan 116 = .ok (.irem, 1) := by decide +kernel
theorem dX9_plan_117 : decode cX9_plan 117 = .ok (.iadd, 1) := by decide +kernel
theorem dX9_plan_118 : decode cX9_plan 118 = .ok (.goto 5, 3) := by decide +kernel
theorem dX9_plan_121 : decode cX9_plan 121 = .ok (.iload 5, 2) := by decide +kernel
theorem dX9_plan_123 : decode cX9_plan 123 = .ok (.istore 5, 2) := by decide +kernel
theorem dX9_plan_125 : decode cX9_plan 125 = .ok (.iinc 6 1, 3) := by decide +kernel
theorem dX9_plan_128 : decode cX9_plan 128 = .ok (.goto (-55), 3) := by decide +kernel
theorem dX9_plan_131 : decode cX9_plan 131 = .ok (.iload 5, 2) := by decide +kernel
theorem dX9_plan_133 : decode cX9_plan 133 = .ok (.ireturn, 1) := by decide +kernel
theorem dX9_plan_134 : decode cX9_plan 134 = .ok (.iinc 4 1, 3) := by decide +kernel
theorem dX9_plan_137 : decode cX9_plan 137 = .ok (.goto (-96), 3) := by decide +kernel
theorem dX9_plan_140 : decode cX9_plan 140 = .ok (.bipush (-2), 2) := by decide +kernel
theorem dX9_plan_142 : decode cX9_plan 142 = .ok (.ireturn, 1) := by decide +kernel
set_option maxRecDepth 20000 in
theorem ggX9_holds_X9_geeseOf : GoodIn wsX9_holds wsX9_geeseOf := goodIn_r _ [6, 1, 7, 8, 9, 5, 10, 11, 12, 13, 14, 15, 16, 17, 18, 19, 20, 21, 22, 23, 24, 25, 26, 27, 28, 29, 30, 31, 32, 33, 34, 35, 36, 37, 38, 39, 40, 41, 42, 43, 44, 45, 46, 47, 48, 49, 50, 51, 52, 53, 54, 55, 56, 57, 58, 59, 60, 61, 62, 63] (by decide +kernel) (by decide +kernel)
set_option maxRecDepth 20000 in
theorem gX9_holds_X9_geeseOf : GoodIn wsX9_holds (wsV RX9 378 RX9 yX9_geeseOf wsX9_geeseOf) := goodIn_app (goodIn_of _ (by decide +kernel)) ggX9_holds_X9_geeseOf
theorem dX9_holds_0 : decode cX9_holds 0 = .ok (.aload_n 0, 1) := by decide +kernel
theorem dX9_holds_1 : decode cX9_holds 1 = .ok (.getfield 7, 3) := by decide +kernel
theorem dX9_holds_4 : decode cX9_holds 4 = .ok (.iconst 2, 1) := by decide +kernel
theorem dX9_holds_5 : decode cX9_holds 5 = .ok (.iaload, 1) := by decide +kernel
theorem dX9_holds_6 : decode cX9_holds 6 = .ok (.aload_n 0, 1) := by decide +kernel
theorem dX9_holds_7 : decode cX9_holds 7 = .ok (.iconst 0, 1) := by decide +kernel
theorem dX9_holds_8 : decode cX9_holds 8 = .ok (.invokevirtual 378, 3) := by decide +kernel
theorem dX9_holds_11 : decode cX9_holds 11 = .ok (.iadd, 1) := by decide +kernel
theorem dX9_holds_12 : decode cX9_holds 12 = .ok (.istore_n 1, 1) := by decide +kernel
theorem dX9_holds_13 : decode cX9_holds 13 = .ok (.iload_n 1, 1) := by decide +kernel
theorem dX9_holds_14 : decode cX9_holds 14 = .ok (.ifCond .ne 7, 3) := by decide +kernel
theorem dX9_holds_17 : decode cX9_holds 17 = .ok (.sipush 999, 3) := by decide +kernel
theorem dX9_holds_20 : decode cX9_holds 20 = .ok (.ireturn, 1) := by decide +kernel
theorem dX9_holds_21 : decode cX9_holds 21 = .ok (.aload_n 0, 1) := by decide +kernel
theorem dX9_holds_22 : decode cX9_holds 22 = .ok (.getfield 7, 3) := by decide +kernel
theorem dX9_holds_25 : decode cX9_holds 25 = .ok (.bipush 120, 2) := by decide +kernel
theorem dX9_holds_27 : decode cX9_holds 27 = .ok (.iaload, 1) := by decide +kernel
theorem dX9_holds_28 : decode cX9_holds 28 = .ok (.iload_n 1, 1) := by decide +kernel
theorem dX9_holds_29 : decode cX9_holds 29 = .ok (.idiv, 1) := by decide +kernel
theorem dX9_holds_30 : decode cX9_holds 30 = .ok (.istore_n 2, 1) := by decide +kernel
theorem dX9_holds_31 : decode cX9_holds 31 = .ok (.iload_n 2, 1) := by decide +kernel
theorem dX9_holds_32 : decode cX9_holds 32 = .ok (.sipush 999, 3) := by decide +kernel
theorem dX9_holds_35 : decode cX9_holds 35 = .ok (.if_icmp .le 9, 3) := by decide +kernel
theorem dX9_holds_38 : decode cX9_holds 38 = .ok (.sipush 999, 3) := by decide +kernel
theorem dX9_holds_41 : decode cX9_holds 41 = .ok (.goto 4, 3) := by decide +kernel
theorem dX9_holds_44 : decode cX9_holds 44 = .ok (.iload_n 2, 1) := by decide +kernel
theorem dX9_holds_45 : decode cX9_holds 45 = .ok (.ireturn, 1) := by decide +kernel
set_option maxRecDepth 20000 in
theorem ggX9_image_X9_copies : GoodIn wsX9_image wsX9_copies := goodIn_r _ [6, 7, 1, 8, 9, 10, 11, 12, 13, 14, 15, 16, 17, 18, 19, 20, 21, 22, 23, 24, 25, 26, 27, 28, 29, 30, 31, 32, 33, 34, 35, 36, 37, 38, 39, 40, 41, 42, 43, 44, 45, 46, 47, 48, 49, 50, 51, 52, 53, 54, 55, 56, 57, 58, 59, 60] (by decide +kernel) (by decide +kernel)
set_option maxRecDepth 20000 in
theorem gX9_image_X9_copies : GoodIn wsX9_image (wsV RX9 122 RX9 yX9_copies wsX9_copies) := goodIn_app (goodIn_of _ (by decide +kernel)) ggX9_image_X9_copies
theorem dX9_image_0 : decode cX9_image 0 = .ok (.aload_n 0, 1) := by decide +kernel
theorem dX9_image_1 : decode cX9_image 1 = .ok (.iconst 1, 1) := by decide +kernel
theorem dX9_image_2 : decode cX9_image 2 = .ok (.invokevirtual 122, 3) := by decide +kernel
theorem dX9_image_5 : decode cX9_image 5 = .ok (.aload_n 0, 1) := by decide +kernel
theorem dX9_image_6 : decode cX9_image 6 = .ok (.getfield 7, 3) := by decide +kernel
theorem dX9_image_9 : decode cX9_image 9 = .ok (.bipush 121, 2) := by decide +kernel
theorem dX9_image_11 : decode cX9_image 11 = .ok (.iaload, 1) := by decide +kernel
theorem dX9_image_12 : decode cX9_image 12 = .ok (.ireturn, 1) := by decide +kernel
set_option maxRecDepth 20000 in
theorem ggX9_back_X9_copies : GoodIn wsX9_back wsX9_copies := goodIn_r _ [6, 7, 1, 8, 9, 10, 11, 12, 13, 14, 15, 16, 17, 18, 19, 20, 21, 22, 23, 24, 25, 26, 27, 28, 29, 30, 31, 32, 33, 34, 35, 36, 37, 38, 39, 40, 41, 42, 43, 44, 45, 46, 47, 48, 49, 50, 51, 52, 53, 54, 55, 56, 57, 58, 59, 60] (by decide +kernel) (by decide +kernel)
set_option maxRecDepth 20000 in
theorem gX9_back_X9_copies : GoodIn wsX9_back (wsV RX9 122 RX9 yX9_copies wsX9_copies) := goodIn_app (goodIn_of _ (by decide +kernel)) ggX9_back_X9_copies
theorem dX9_back_0 : decode cX9_back 0 = .ok (.aload_n 0, 1) := by decide +kernel
theorem dX9_back_1 : decode cX9_back 1 = .ok (.iconst 0, 1) := by decide +kernel
theorem dX9_back_2 : decode cX9_back 2 = .ok (.invokevirtual 122, 3) := by decide +kernel
theorem dX9_back_5 : decode cX9_back 5 = .ok (.aload_n 0, 1) := by decide +kernel
theorem dX9_back_6 : decode cX9_back 6 = .ok (.getfield 7, 3) := by decide +kernel
theorem dX9_back_9 : decode cX9_back 9 = .ok (.bipush 121, 2) := by decide +kernel
theorem dX9_back_11 : decode cX9_back 11 = .ok (.iaload, 1) := by decide +kernel
theorem dX9_back_12 : decode cX9_back 12 = .ok (.ireturn, 1) := by decide +kernel
set_option maxRecDepth 20000 in
theorem ggX9_about_X9_isMarket : GoodIn wsX9_about wsX9_isMarket := goodIn_r _ [7, 1, 8, 9, 6, 10, 19, 20, 21, 22, 23, 24, 25, 26, 27, 28, 29, 30, 31, 32, 33, 34, 35, 36, 37, 38, 39, 40, 41, 42, 43, 44, 45, 46, 47, 48, 49, 50, 51, 52, 53, 54, 55, 56, 57, 58, 59, 60, 61, 62, 63, 64, 65, 66, 67, 68, 69, 70, 71] (by decide +kernel) (by decide +kernel)
set_option maxRecDepth 20000 in
theorem gX9_about_X9_isMarket : GoodIn wsX9_about (wsV RX9 160 RX9 yX9_isMarket wsX9_isMarket) := goodIn_app (goodIn_of _ (by decide +kernel)) ggX9_about_X9_isMarket
set_option maxRecDepth 20000 in
theorem ggX9_about_X9_in : GoodIn wsX9_about wsX9_in := goodIn_r _ [10] (by decide +kernel) (by decide +kernel)
set_option maxRecDepth 20000 in
theorem gX9_about_X9_in : GoodIn wsX9_about (va_wsS RX9 126 yX9_in wsX9_in) := goodIn_app (goodIn_of _ (by decide +kernel)) ggX9_about_X9_in
set_option maxRecDepth 20000 in
theorem ggX9_about_X9_geeseOf : GoodIn wsX9_about wsX9_geeseOf := goodIn_r _ [14, 1, 15, 16, 17, 6, 18, 19, 20, 21, 22, 23, 24, 25, 26, 27, 28, 29, 30, 31, 32, 33, 34, 35, 36, 37, 38, 39, 40, 41, 42, 43, 44, 45, 46, 47, 48, 49, 50, 51, 52, 53, 54, 55, 56, 57, 58, 59, 60, 61, 62, 63, 64, 65, 66, 67, 68, 69, 70, 71] (by decide +kernel) (by decide +kernel)
set_option maxRecDepth 20000 in
theorem gX9_about_X9_geeseOf : GoodIn wsX9_about (wsV RX9 378 RX9 yX9_geeseOf wsX9_geeseOf) := goodIn_app (goodIn_of _ (by decide +kernel)) ggX9_about_X9_geeseOf
theorem dX9_about_0 : decode cX9_about 0 = .ok (.iload_n 1, 1) := by decide +kernel
theorem dX9_about_1 : decode cX9_about 1 = .ok (.tableswitch 126 0 9 #[55, 62, 69, 77, 84, 92, 100, 107, 114, 121], 55) := by decide +kernel
theorem dX9_about_56 : decode cX9_about 56 = .ok (.aload_n 0, 1) := by decide +kernel
theorem dX9_about_57 : decode cX9_about 57 = .ok (.getfield 7, 3) := by decide +kernel
theorem dX9_about_60 : decode cX9_about 60 = .ok (.iconst 0, 1) := by decide +kernel
theorem dX9_about_61 : decode cX9_about 61 = .ok (.iaload, 1) := by decide +kernel
theorem dX9_about_62 : decode cX9_about 62 = .ok (.ireturn, 1) := by decide +kernel
theorem dX9_about_63 : decode cX9_about 63 = .ok (.aload_n 0, 1) := by decide +kernel
theorem dX9_about_64 : decode cX9_about 64 = .ok (.getfield 7, 3) := by decide +kernel
theorem dX9_about_67 : decode cX9_about 67 = .ok (.iconst 1, 1) := by decide +kernel
theorem dX9_about_68 : decode cX9_about 68 = .ok (.iaload, 1) := by decide +kernel
theorem dX9_about_69 : decode cX9_about 69 = .ok (.ireturn, 1) := by decide +kernel
theorem dX9_about_70 : decode cX9_about 70 = .ok (.aload_n 0, 1) := by decide +kernel
theorem dX9_about_71 : decode cX9_about 71 = .ok (.getfield 7, 3) := by decide +kernel
theorem dX9_about_74 : decode cX9_about 74 = .ok (.bipush 120, 2) := by decide +kernel
theorem dX9_about_76 : decode cX9_about 76 = .ok (.iaload, 1) := by decide +kernel
theorem dX9_about_77 : decode cX9_about 77 = .ok (.ireturn, 1) := by decide +kernel
theorem dX9_about_78 : decode cX9_about 78 = .ok (.aload_n 0, 1) := by decide +kernel
theorem dX9_about_79 : decode cX9_about 79 = .ok (.getfield 7, 3) := by decide +kernel
theorem dX9_about_82 : decode cX9_about 82 = .ok (.iconst 2, 1) := by decide +kernel
theorem dX9_about_83 : decode cX9_about 83 = .ok (.iaload, 1) := by decide +kernel
theorem dX9_about_84 : decode cX9_about 84 = .ok (.ireturn, 1) := by decide +kernel
theorem dX9_about_85 : decode cX9_about 85 = .ok (.aload_n 0, 1) := by decide +kernel
theorem dX9_about_86 : decode cX9_about 86 = .ok (.getfield 7, 3) := by decide +kernel
theorem dX9_about_89 : decode cX9_about 89 = .ok (.bipush 121, 2) := by decide +kernel
theorem dX9_about_91 : decode cX9_about 91 = .ok (.iaload, 1) := by decide +kernel
theorem dX9_about_92 : decode cX9_about 92 = .ok (.ireturn, 1) := by decide +kernel
theorem dX9_about_93 : decode cX9_about 93 = .ok (.aload_n 0, 1) := by decide +kernel
theorem dX9_about_94 : decode cX9_about 94 = .ok (.getfield 7, 3) := by decide +kernel
theorem dX9_about_97 : decode cX9_about 97 = .ok (.bipush 122, 2) := by decide +kernel
theorem dX9_about_99 : decode cX9_about 99 = .ok (.iaload, 1) := by decide +kernel
theorem dX9_about_100 : decode cX9_about 100 = .ok (.ireturn, 1) := by decide +kernel
theorem dX9_about_101 : decode cX9_about 101 = .ok (.aload_n 0, 1) := by decide +kernel
theorem dX9_about_102 : decode cX9_about 102 = .ok (.getfield 7, 3) := by decide +kernel
theorem dX9_about_105 : decode cX9_about 105 = .ok (.iconst 3, 1) := by decide +kernel
theorem dX9_about_106 : decode cX9_about 106 = .ok (.iaload, 1) := by decide +kernel
theorem dX9_about_107 : decode cX9_about 107 = .ok (.ireturn, 1) := by decide +kernel
theorem dX9_about_108 : decode cX9_about 108 = .ok (.aload_n 0, 1) := by decide +kernel
theorem dX9_about_109 : decode cX9_about 109 = .ok (.getfield 7, 3) := by decide +kernel
theorem dX9_about_112 : decode cX9_about 112 = .ok (.iconst 4, 1) := by decide +kernel
theorem dX9_about_113 : decode cX9_about 113 = .ok (.iaload, 1) := by decide +kernel
theorem dX9_about_114 : decode cX9_about 114 = .ok (.ireturn, 1) := by decide +kernel
theorem dX9_about_115 : decode cX9_about 115 = .ok (.aload_n 0, 1) := by decide +kernel
theorem dX9_about_116 : decode cX9_about 116 = .ok (.getfield 7, 3) := by decide +kernel
theorem dX9_about_119 : decode cX9_about 119 = .ok (.iconst 5, 1) := by decide +kernel
theorem dX9_about_120 : decode cX9_about 120 = .ok (.iaload, 1) := by decide +kernel
theorem dX9_about_121 : decode cX9_about 121 = .ok (.ireturn, 1) := by decide +kernel
theorem dX9_about_122 : decode cX9_about 122 = .ok (.aload_n 0, 1) := by decide +kernel
theorem dX9_about_123 : decode cX9_about 123 = .ok (.getfield 163, 3) := by decide +kernel
theorem dX9_about_126 : decode cX9_about 126 = .ok (.ireturn, 1) := by decide +kernel
theorem dX9_about_127 : decode cX9_about 127 = .ok (.aload_n 0, 1) := by decide +kernel
theorem dX9_about_128 : decode cX9_about 128 = .ok (.iload_n 1, 1) := by decide +kernel
theorem dX9_about_129 : decode cX9_about 129 = .ok (.bipush 10, 2) := by decide +kernel
theorem dX9_about_131 : decode cX9_about 131 = .ok (.isub, 1) := by decide +kernel
theorem dX9_about_132 : decode cX9_about 132 = .ok (.invokevirtual 160, 3) := by decide +kernel
theorem dX9_about_135 : decode cX9_about 135 = .ok (.ifCond .eq 44, 3) := by decide +kernel
theorem dX9_about_138 : decode cX9_about 138 = .ok (.bipush 10, 2) := by decide +kernel
theorem dX9_about_140 : decode cX9_about 140 = .ok (.iconst 3, 1) := by decide +kernel
theorem dX9_about_141 : decode cX9_about 141 = .ok (.iload_n 1, 1) := by decide +kernel
theorem dX9_about_142 : decode cX9_about 142 = .ok (.bipush 10, 2) := by decide +kernel
theorem dX9_about_144 : decode cX9_about 144 = .ok (.isub, 1) := by decide +kernel
theorem dX9_about_145 : decode cX9_about 145 = .ok (.imul, 1) := by decide +kernel
theorem dX9_about_146 : decode cX9_about 146 = .ok (.iadd, 1) := by decide +kernel
theorem dX9_about_147 : decode cX9_about 147 = .ok (.istore_n 2, 1) := by decide +kernel
theorem dX9_about_148 : decode cX9_about 148 = .ok (.bipush 100, 2) := by decide +kernel
theorem dX9_about_150 : decode cX9_about 150 = .ok (.aload_n 0, 1) := by decide +kernel
theorem dX9_about_151 : decode cX9_about 151 = .ok (.getfield 7, 3) := by decide +kernel
theorem dX9_about_154 : decode cX9_about 154 = .ok (.iload_n 2, 1) := by decide +kernel
theorem dX9_about_155 : decode cX9_about 155 = .ok (.iaload, 1) := by decide +kernel
theorem dX9_about_156 : decode cX9_about 156 = .ok (.imul, 1) := by decide +kernel
theorem dX9_about_157 : decode cX9_about 157 = .ok (.bipush 10, 2) := by decide +kernel
theorem dX9_about_159 : decode cX9_about 159 = .ok (.aload_n 0, 1) := by decide +kernel
theorem dX9_about_160 : decode cX9_about 160 = .ok (.getfield 7, 3) := by decide +kernel
theorem dX9_about_163 : decode cX9_about 163 = .ok (.iload_n 2, 1) := by decide +kernel
theorem dX9_about_164 : decode cX9_about 164 = .ok (.iconst 1, 1) := by decide +kernel
theorem dX9_about_165 : decode cX9_about 165 = .ok (.iadd, 1) := by decide +kernel
theorem dX9_about_166 : decode cX9_about 166 = .ok (.iaload, 1) := by decide +kernel
theorem dX9_about_167 : decode cX9_about 167 = .ok (.imul, 1) := by decide +kernel
theorem dX9_about_168 : decode cX9_about 168 = .ok (.iadd, 1) := by decide +kernel
theorem dX9_about_169 : decode cX9_about 169 = .ok (.aload_n 0, 1) := by decide +kernel
theorem dX9_about_170 : decode cX9_about 170 = .ok (.getfield 7, 3) := by decide +kernel
theorem dX9_about_173 : decode cX9_about 173 = .ok (.iload_n 2, 1) := by decide +kernel
theorem dX9_about_174 : decode cX9_about 174 = .ok (.iconst 2, 1) := by decide +kernel
theorem dX9_about_175 : decode cX9_about 175 = .ok (.iadd, 1) := by decide +kernel
theorem dX9_about_176 : decode cX9_about 176 = .ok (.iaload, 1) := by decide +kernel
theorem dX9_about_177 : decode cX9_about 177 = .ok (.iadd, 1) := by decide +kernel
theorem dX9_about_178 : decode cX9_about 178 = .ok (.ireturn, 1) := by decide +kernel
theorem dX9_about_179 : decode cX9_about 179 = .ok (.iload_n 1, 1) := by decide +kernel
theorem dX9_about_180 : decode cX9_about 180 = .ok (.bipush 20, 2) := by decide +kernel
theorem dX9_about_182 : decode cX9_about 182 = .ok (.bipush 25, 2) := by decide +kernel
theorem dX9_about_184 : decode cX9_about 184 = .ok (.invokestatic 126, 3) := by decide +kernel
theorem dX9_about_187 : decode cX9_about 187 = .ok (.ifCond .eq 14, 3) := by decide +kernel
theorem dX9_about_190 : decode cX9_about 190 = .ok (.aload_n 0, 1) := by decide +kernel
theorem dX9_about_191 : decode cX9_about 191 = .ok (.iload_n 1, 1) := by decide +kernel
theorem dX9_about_192 : decode cX9_about 192 = .ok (.bipush 20, 2) := by decide +kernel
theorem dX9_about_194 : decode cX9_about 194 = .ok (.isub, 1) := by decide +kernel
theorem dX9_about_195 : decode cX9_about 195 = .ok (.invokevirtual 378, 3) := by decide +kernel
theorem dX9_about_198 : decode cX9_about 198 = .ok (.goto 5, 3) := by decide +kernel
theorem dX9_about_201 : decode cX9_about 201 = .ok (.bipush (-2), 2) := by decide +kernel
theorem dX9_about_203 : decode cX9_about 203 = .ok (.ireturn, 1) := by decide +kernel
theorem dJ9_max_7cf53_0 : decode cJ9_max_7cf53 0 = .ok (.iload_n 0, 1) := by decide +kernel
theorem dJ9_max_7cf53_1 : decode cJ9_max_7cf53 1 = .ok (.iload_n 1, 1) := by decide +kernel
theorem dJ9_max_7cf53_2 : decode cJ9_max_7cf53 2 = .ok (.if_icmp .lt 7, 3) := by decide +kernel
theorem dJ9_max_7cf53_5 : decode cJ9_max_7cf53 5 = .ok (.iload_n 0, 1) := by decide +kernel
theorem dJ9_max_7cf53_6 : decode cJ9_max_7cf53 6 = .ok (.goto 4, 3) := by decide +kernel
theorem dJ9_max_7cf53_9 : decode cJ9_max_7cf53 9 = .ok (.iload_n 1, 1) := by decide +kernel
theorem dJ9_max_7cf53_10 : decode cJ9_max_7cf53 10 = .ok (.ireturn, 1) := by decide +kernel
theorem dJ9_min_7cf53_0 : decode cJ9_min_7cf53 0 = .ok (.iload_n 0, 1) := by decide +kernel
theorem dJ9_min_7cf53_1 : decode cJ9_min_7cf53 1 = .ok (.iload_n 1, 1) := by decide +kernel
theorem dJ9_min_7cf53_2 : decode cJ9_min_7cf53 2 = .ok (.if_icmp .gt 7, 3) := by decide +kernel
theorem dJ9_min_7cf53_5 : decode cJ9_min_7cf53 5 = .ok (.iload_n 0, 1) := by decide +kernel
theorem dJ9_min_7cf53_6 : decode cJ9_min_7cf53 6 = .ok (.goto 4, 3) := by decide +kernel
theorem dJ9_min_7cf53_9 : decode cJ9_min_7cf53 9 = .ok (.iload_n 1, 1) := by decide +kernel
theorem dJ9_min_7cf53_10 : decode cJ9_min_7cf53 10 = .ok (.ireturn, 1) := by decide +kernel
set_option maxRecDepth 20000 in
theorem ggJ0_length_8abf5_J0_coder_7d493 : GoodIn wsJ0_length_8abf5 wsJ0_coder_7d493 := goodIn_r _ [6, 7, 8] (by decide +kernel) (by decide +kernel)
set_option maxRecDepth 20000 in
theorem gJ0_length_8abf5_J0_coder_7d493 : GoodIn wsJ0_length_8abf5 (wsV RJ0 335 RJ0 yJ0_coder_7d493 wsJ0_coder_7d493) := goodIn_app (goodIn_of _ (by decide +kernel)) ggJ0_length_8abf5_J0_coder_7d493
theorem dJ0_length_8abf5_0 : decode cJ0_length_8abf5 0 = .ok (.aload_n 0, 1) := by decide +kernel
theorem dJ0_length_8abf5_1 : decode cJ0_length_8abf5 1 = .ok (.getfield 9, 3) := by decide +kernel
theorem dJ0_length_8abf5_4 : decode cJ0_length_8abf5 4 = .ok (.arraylength, 1) := by decide +kernel
theorem dJ0_length_8abf5_5 : decode cJ0_length_8abf5 5 = .ok (.aload_n 0, 1) := by decide +kernel
theorem dJ0_length_8abf5_6 : decode cJ0_length_8abf5 6 = .ok (.invokevirtual 335, 3) := by decide +kernel
theorem dJ0_length_8abf5_9 : decode cJ0_length_8abf5 9 = .ok (.ishr, 1) := by decide +kernel
theorem dJ0_length_8abf5_10 : decode cJ0_length_8abf5 10 = .ok (.ireturn, 1) := by decide +kernel
set_option maxRecDepth 20000 in
theorem ggJ0_charAt_5068e_J0_isLatin1_aae02 : GoodIn wsJ0_charAt_5068e wsJ0_isLatin1_aae02 := goodIn_r _ [6, 7, 8] (by decide +kernel) (by decide +kernel)
set_option maxRecDepth 20000 in
theorem gJ0_charAt_5068e_J0_isLatin1_aae02 : GoodIn wsJ0_charAt_5068e (wsV RJ0 492 RJ0 yJ0_isLatin1_aae02 wsJ0_isLatin1_aae02) := goodIn_app (goodIn_of _ (by decide +kernel)) ggJ0_charAt_5068e_J0_isLatin1_aae02
set_option maxRecDepth 20000 in
theorem ggJ0_charAt_5068e_J1_charAt_3b067 : GoodIn wsJ0_charAt_5068e wsJ1_charAt_3b067 := goodIn_r _ [12, 13, 14, 5, 15, 16, 17, 18, 19, 20] (by decide +kernel) (by decide +kernel)
set_option maxRecDepth 20000 in
theorem gJ0_charAt_5068e_J1_charAt_3b067 : GoodIn wsJ0_charAt_5068e (va_wsS RJ0 495 yJ1_charAt_3b067 wsJ1_charAt_3b067) := goodIn_app (goodIn_of _ (by decide +kernel)) ggJ0_charAt_5068e_J1_charAt_3b067
set_option maxRecDepth 20000 in
theorem ggJ0_charAt_5068e_J2_charAt_3b067 : GoodIn wsJ0_charAt_5068e wsJ2_charAt_3b067 := goodIn_r _ [24, 25, 26, 23, 27, 28, 29, 30, 31, 14, 5, 15, 16, 17, 18, 19, 20, 32, 33, 34, 35, 36, 37] (by decide +kernel) (by decide +kernel)
set_option maxRecDepth 20000 in
theorem gJ0_charAt_5068e_J2_charAt_3b067 : GoodIn wsJ0_charAt_5068e (va_wsS RJ0 498 yJ2_charAt_3b067 wsJ2_charAt_3b067) := goodIn_app (goodIn_of _ (by decide +kernel)) ggJ0_charAt_5068e_J2_charAt_3b067
theorem dJ0_charAt_5068e_0 : decode cJ0_charAt_5068e 0 = .ok (.aload_n 0, 1) := by decide +kernel
theorem dJ0_charAt_5068e_1 : decode cJ0_charAt_5068e 1 = .ok (.invokevirtual 492, 3) := by decide +kernel
theorem dJ0_charAt_5068e_4 : decode cJ0_charAt_5068e 4 = .ok (.ifCond .eq 12, 3) := by decide +kernel
theorem dJ0_charAt_5068e_7 : decode cJ0_charAt_5068e 7 = .ok (.aload_n 0, 1) := by decide +kernel
theorem dJ0_charAt_5068e_8 : decode cJ0_charAt_5068e 8 = .ok (.getfield 9, 3) := by decide +kernel
theorem dJ0_charAt_5068e_11 : decode cJ0_charAt_5068e 11 = .ok (.iload_n 1, 1) := by decide +kernel
theorem dJ0_charAt_5068e_12 : decode cJ0_charAt_5068e 12 = .ok (.invokestatic 495, 3) := by decide +kernel
theorem dJ0_charAt_5068e_15 : decode cJ0_charAt_5068e 15 = .ok (.ireturn, 1) := by decide +kernel
theorem dJ0_charAt_5068e_16 : decode cJ0_charAt_5068e 16 = .ok (.aload_n 0, 1) := by decide +kernel
theorem dJ0_charAt_5068e_17 : decode cJ0_charAt_5068e 17 = .ok (.getfield 9, 3) := by decide +kernel
theorem dJ0_charAt_5068e_20 : decode cJ0_charAt_5068e 20 = .ok (.iload_n 1, 1) := by decide +kernel
theorem dJ0_charAt_5068e_21 : decode cJ0_charAt_5068e 21 = .ok (.invokestatic 498, 3) := by decide +kernel
theorem dJ0_charAt_5068e_24 : decode cJ0_charAt_5068e 24 = .ok (.ireturn, 1) := by decide +kernel
theorem dJ0_coder_7d493_0 : decode cJ0_coder_7d493 0 = .ok (.getstatic 38, 3) := by decide +kernel
theorem dJ0_coder_7d493_3 : decode cJ0_coder_7d493 3 = .ok (.ifCond .eq 10, 3) := by decide +kernel
theorem dJ0_coder_7d493_6 : decode cJ0_coder_7d493 6 = .ok (.aload_n 0, 1) := by decide +kernel
theorem dJ0_coder_7d493_7 : decode cJ0_coder_7d493 7 = .ok (.getfield 15, 3) := by decide +kernel
theorem dJ0_coder_7d493_10 : decode cJ0_coder_7d493 10 = .ok (.goto 4, 3) := by decide +kernel
theorem dJ0_coder_7d493_13 : decode cJ0_coder_7d493 13 = .ok (.iconst 1, 1) := by decide +kernel
theorem dJ0_coder_7d493_14 : decode cJ0_coder_7d493 14 = .ok (.ireturn, 1) := by decide +kernel
theorem dJ0_isLatin1_aae02_0 : decode cJ0_isLatin1_aae02 0 = .ok (.getstatic 38, 3) := by decide +kernel
theorem dJ0_isLatin1_aae02_3 : decode cJ0_isLatin1_aae02 3 = .ok (.ifCond .eq 14, 3) := by decide +kernel
theorem dJ0_isLatin1_aae02_6 : decode cJ0_isLatin1_aae02 6 = .ok (.aload_n 0, 1) := by decide +kernel
theorem dJ0_isLatin1_aae02_7 : decode cJ0_isLatin1_aae02 7 = .ok (.getfield 15, 3) := by decide +kernel
theorem dJ0_isLatin1_aae02_10 : decode cJ0_isLatin1_aae02 10 = .ok (.ifCond .ne 7, 3) := by decide +kernel
theorem dJ0_isLatin1_aae02_13 : decode cJ0_isLatin1_aae02 13 = .ok (.iconst 1, 1) := by decide +kernel
theorem dJ0_isLatin1_aae02_14 : decode cJ0_isLatin1_aae02 14 = .ok (.goto 4, 3) := by decide +kernel
theorem dJ0_isLatin1_aae02_17 : decode cJ0_isLatin1_aae02 17 = .ok (.iconst 0, 1) := by decide +kernel
theorem dJ0_isLatin1_aae02_18 : decode cJ0_isLatin1_aae02 18 = .ok (.ireturn, 1) := by decide +kernel
set_option maxRecDepth 20000 in
theorem ggJ0_checkIndex_df160_J3_checkIndex_8e157 : GoodIn wsJ0_checkIndex_df160 wsJ3_checkIndex_8e157 := goodIn_r _ [5] (by decide +kernel) (by decide +kernel)
set_option maxRecDepth 20000 in
theorem gJ0_checkIndex_df160_J3_checkIndex_8e157 : GoodIn wsJ0_checkIndex_df160 (va_wsS RJ0 1059 yJ3_checkIndex_8e157 wsJ3_checkIndex_8e157) := goodIn_app (goodIn_of _ (by decide +kernel)) ggJ0_checkIndex_df160_J3_checkIndex_8e157
theorem dJ0_checkIndex_df160_0 : decode cJ0_checkIndex_df160 0 = .ok (.iload_n 0, 1) := by decide +kernel
theorem dJ0_checkIndex_df160_1 : decode cJ0_checkIndex_df160 1 = .ok (.iload_n 1, 1) := by decide +kernel
theorem dJ0_checkIndex_df160_2 : decode cJ0_checkIndex_df160 2 = .ok (.getstatic 1053, 3) := by decide +kernel
theorem dJ0_checkIndex_df160_5 : decode cJ0_checkIndex_df160 5 = .ok (.invokestatic 1059, 3) := by decide +kernel
theorem dJ0_checkIndex_df160_8 : decode cJ0_checkIndex_df160 8 = .ok (.pop, 1) := by decide +kernel
theorem dJ0_checkIndex_df160_9 : decode cJ0_checkIndex_df160 9 = .ok (.return_, 1) := by decide +kernel
set_option maxRecDepth 20000 in
theorem ggJ1_charAt_3b067_J0_checkIndex_df160 : GoodIn wsJ1_charAt_3b067 wsJ0_checkIndex_df160 := goodIn_r _ [4, 5, 6, 7, 8, 9] (by decide +kernel) (by decide +kernel)
set_option maxRecDepth 20000 in
theorem gJ1_charAt_3b067_J0_checkIndex_df160 : GoodIn wsJ1_charAt_3b067 (va_wsS RJ1 9 yJ0_checkIndex_df160 wsJ0_checkIndex_df160) := goodIn_app (goodIn_of _ (by decide +kernel)) ggJ1_charAt_3b067_J0_checkIndex_df160
theorem dJ1_charAt_3b067_0 : decode cJ1_charAt_3b067 0 = .ok (.iload_n 1, 1) := by decide +kernel
theorem dJ1_charAt_3b067_1 : decode cJ1_charAt_3b067 1 = .ok (.aload_n 0, 1) := by decide +kernel
theorem dJ1_charAt_3b067_2 : decode cJ1_charAt_3b067 2 = .ok (.arraylength, 1) := by decide +kernel
theorem dJ1_charAt_3b067_3 : decode cJ1_charAt_3b067 3 = .ok (.invokestatic 9, 3) := by decide +kernel
theorem dJ1_charAt_3b067_6 : decode cJ1_charAt_3b067 6 = .ok (.aload_n 0, 1) := by decide +kernel
theorem dJ1_charAt_3b067_7 : decode cJ1_charAt_3b067 7 = .ok (.iload_n 1, 1) := by decide +kernel
theorem dJ1_charAt_3b067_8 : decode cJ1_charAt_3b067 8 = .ok (.baload, 1) := by decide +kernel
theorem dJ1_charAt_3b067_9 : decode cJ1_charAt_3b067 9 = .ok (.sipush 255, 3) := by decide +kernel
theorem dJ1_charAt_3b067_12 : decode cJ1_charAt_3b067 12 = .ok (.iand, 1) := by decide +kernel
theorem dJ1_charAt_3b067_13 : decode cJ1_charAt_3b067 13 = .ok (.i2c, 1) := by decide +kernel
theorem dJ1_charAt_3b067_14 : decode cJ1_charAt_3b067 14 = .ok (.ireturn, 1) := by decide +kernel
set_option maxRecDepth 20000 in
theorem ggJ2_getChar_3b067_J2_length_9d52b : GoodIn wsJ2_getChar_3b067 wsJ2_length_9d52b := goodIn_r _ [7] (by decide +kernel) (by decide +kernel)
set_option maxRecDepth 20000 in
theorem gJ2_getChar_3b067_J2_length_9d52b : GoodIn wsJ2_getChar_3b067 (va_wsS RJ2 48 yJ2_length_9d52b wsJ2_length_9d52b) := goodIn_app (goodIn_of _ (by decide +kernel)) ggJ2_getChar_3b067_J2_length_9d52b
theorem dJ2_getChar_3b067_0 : decode cJ2_getChar_3b067 0 = .ok (.getstatic 44, 3) := by decide +kernel
theorem dJ2_getChar_3b067_3 : decode cJ2_getChar_3b067 3 = .ok (.ifCond .ne 25, 3) := by decide +kernel
theorem dJ2_getChar_3b067_6 : decode cJ2_getChar_3b067 6 = .ok (.iload_n 1, 1) := by decide +kernel
theorem dJ2_getChar_3b067_7 : decode cJ2_getChar_3b067 7 = .ok (.ifCond .lt 11, 3) := by decide +kernel
theorem dJ2_getChar_3b067_10 : decode cJ2_getChar_3b067 10 = .ok (.iload_n 1, 1) := by decide +kernel
theorem dJ2_getChar_3b067_11 : decode cJ2_getChar_3b067 11 = .ok (.aload_n 0, 1) := by decide +kernel
theorem dJ2_getChar_3b067_12 : decode cJ2_getChar_3b067 12 = .ok (.invokestatic 48, 3) := by decide +kernel
theorem dJ2_getChar_3b067_15 : decode cJ2_getChar_3b067 15 = .ok (.if_icmp .lt 13, 3) := by decide +kernel
theorem dJ2_getChar_3b067_18 : decode cJ2_getChar_3b067 18 = .ok (.new 52, 3) := by decide +kernel
theorem dJ2_getChar_3b067_21 : decode cJ2_getChar_3b067 21 = .ok (.dup, 1) := by decide +kernel
theorem dJ2_getChar_3b067_22 : decode cJ2_getChar_3b067 22 = .ok (.ldc 54, 2) := by decide +kernel
theorem dJ2_getChar_3b067_24 : decode cJ2_getChar_3b067 24 = .ok (.invokespecial 56, 3) := by decide +kernel
theorem dJ2_getChar_3b067_27 : decode cJ2_getChar_3b067 27 = .ok (.athrow, 1) := by decide +kernel
theorem dJ2_getChar_3b067_28 : decode cJ2_getChar_3b067 28 = .ok (.iload_n 1, 1) := by decide +kernel
theorem dJ2_getChar_3b067_29 : decode cJ2_getChar_3b067 29 = .ok (.iconst 1, 1) := by decide +kernel
theorem dJ2_getChar_3b067_30 : decode cJ2_getChar_3b067 30 = .ok (.ishl, 1) := by decide +kernel
theorem dJ2_getChar_3b067_31 : decode cJ2_getChar_3b067 31 = .ok (.istore_n 1, 1) := by decide +kernel
theorem dJ2_getChar_3b067_32 : decode cJ2_getChar_3b067 32 = .ok (.aload_n 0, 1) := by decide +kernel
theorem dJ2_getChar_3b067_33 : decode cJ2_getChar_3b067 33 = .ok (.iload_n 1, 1) := by decide +kernel
theorem dJ2_getChar_3b067_34 : decode cJ2_getChar_3b067 34 = .ok (.iinc 1 1, 3) := by decide +kernel
theorem dJ2_getChar_3b067_37 : decode cJ2_getChar_3b067 37 = .ok (.baload, 1) := by decide +kernel
theorem dJ2_getChar_3b067_38 : decode cJ2_getChar_3b067 38 = .ok (.sipush 255, 3) := by decide +kernel
theorem dJ2_getChar_3b067_41 : decode cJ2_getChar_3b067 41 = .ok (.iand, 1) := by decide +kernel
theorem dJ2_getChar_3b067_42 : decode cJ2_getChar_3b067 42 = .ok (.getstatic 59, 3) := by decide +kernel
theorem dJ2_getChar_3b067_45 : decode cJ2_getChar_3b067 45 = .ok (.ishl, 1) := by decide +kernel
theorem dJ2_getChar_3b067_46 : decode cJ2_getChar_3b067 46 = .ok (.aload_n 0, 1) := by decide +kernel
theorem dJ2_getChar_3b067_47 : decode cJ2_getChar_3b067 47 = .ok (.iload_n 1, 1) := by decide +kernel
theorem dJ2_getChar_3b067_48 : decode cJ2_getChar_3b067 48 = .ok (.baload, 1) := by decide +kernel
theorem dJ2_getChar_3b067_49 : decode cJ2_getChar_3b067 49 = .ok (.sipush 255, 3) := by decide +kernel
theorem dJ2_getChar_3b067_52 : decode cJ2_getChar_3b067 52 = .ok (.iand, 1) := by decide +kernel
theorem dJ2_getChar_3b067_53 : decode cJ2_getChar_3b067 53 = .ok (.getstatic 63, 3) := by decide +kernel
theorem dJ2_getChar_3b067_56 : decode cJ2_getChar_3b067 56 = .ok (.ishl, 1) := by decide +kernel
theorem dJ2_getChar_3b067_57 : decode cJ2_getChar_3b067 57 = .ok (.ior, 1) := by decide +kernel
theorem dJ2_getChar_3b067_58 : decode cJ2_getChar_3b067 58 = .ok (.i2c, 1) := by decide +kernel
theorem dJ2_getChar_3b067_59 : decode cJ2_getChar_3b067 59 = .ok (.ireturn, 1) := by decide +kernel
theorem dJ2_length_9d52b_0 : decode cJ2_length_9d52b 0 = .ok (.aload_n 0, 1) := by decide +kernel
theorem dJ2_length_9d52b_1 : decode cJ2_length_9d52b 1 = .ok (.arraylength, 1) := by decide +kernel
theorem dJ2_length_9d52b_2 : decode cJ2_length_9d52b 2 = .ok (.iconst 1, 1) := by decide +kernel
theorem dJ2_length_9d52b_3 : decode cJ2_length_9d52b 3 = .ok (.ishr, 1) := by decide +kernel
theorem dJ2_length_9d52b_4 : decode cJ2_length_9d52b 4 = .ok (.ireturn, 1) := by decide +kernel
set_option maxRecDepth 20000 in
theorem ggJ2_charAt_3b067_J2_checkIndex_2214a : GoodIn wsJ2_charAt_3b067 wsJ2_checkIndex_2214a := goodIn_r _ [4, 5, 6, 3, 7, 8, 9, 10, 11, 12, 13, 14, 15, 16] (by decide +kernel) (by decide +kernel)
set_option maxRecDepth 20000 in
theorem gJ2_charAt_3b067_J2_checkIndex_2214a : GoodIn wsJ2_charAt_3b067 (va_wsS RJ2 67 yJ2_checkIndex_2214a wsJ2_checkIndex_2214a) := goodIn_app (goodIn_of _ (by decide +kernel)) ggJ2_charAt_3b067_J2_checkIndex_2214a
set_option maxRecDepth 20000 in
theorem ggJ2_charAt_3b067_J2_getChar_3b067 : GoodIn wsJ2_charAt_3b067 wsJ2_getChar_3b067 := goodIn_r _ [19, 20, 21, 22, 5, 6, 3, 7] (by decide +kernel) (by decide +kernel)
set_option maxRecDepth 20000 in
theorem gJ2_charAt_3b067_J2_getChar_3b067 : GoodIn wsJ2_charAt_3b067 (va_wsS RJ2 71 yJ2_getChar_3b067 wsJ2_getChar_3b067) := goodIn_app (goodIn_of _ (by decide +kernel)) ggJ2_charAt_3b067_J2_getChar_3b067
theorem dJ2_charAt_3b067_0 : decode cJ2_charAt_3b067 0 = .ok (.iload_n 1, 1) := by decide +kernel
theorem dJ2_charAt_3b067_1 : decode cJ2_charAt_3b067 1 = .ok (.aload_n 0, 1) := by decide +kernel
theorem dJ2_charAt_3b067_2 : decode cJ2_charAt_3b067 2 = .ok (.invokestatic 67, 3) := by decide +kernel
theorem dJ2_charAt_3b067_5 : decode cJ2_charAt_3b067 5 = .ok (.aload_n 0, 1) := by decide +kernel
theorem dJ2_charAt_3b067_6 : decode cJ2_charAt_3b067 6 = .ok (.iload_n 1, 1) := by decide +kernel
theorem dJ2_charAt_3b067_7 : decode cJ2_charAt_3b067 7 = .ok (.invokestatic 71, 3) := by decide +kernel
theorem dJ2_charAt_3b067_10 : decode cJ2_charAt_3b067 10 = .ok (.ireturn, 1) := by decide +kernel
set_option maxRecDepth 20000 in
theorem ggJ2_checkIndex_2214a_J2_length_9d52b : GoodIn wsJ2_checkIndex_2214a wsJ2_length_9d52b := goodIn_r _ [4] (by decide +kernel) (by decide +kernel)
set_option maxRecDepth 20000 in
theorem gJ2_checkIndex_2214a_J2_length_9d52b : GoodIn wsJ2_checkIndex_2214a (va_wsS RJ2 48 yJ2_length_9d52b wsJ2_length_9d52b) := goodIn_app (goodIn_of _ (by decide +kernel)) ggJ2_checkIndex_2214a_J2_length_9d52b
set_option maxRecDepth 20000 in
theorem ggJ2_checkIndex_2214a_J0_checkIndex_df160 : GoodIn wsJ2_checkIndex_2214a wsJ0_checkIndex_df160 := goodIn_r _ [8, 9, 10, 11, 12, 13] (by decide +kernel) (by decide +kernel)
set_option maxRecDepth 20000 in
theorem gJ2_checkIndex_2214a_J0_checkIndex_df160 : GoodIn wsJ2_checkIndex_2214a (va_wsS RJ2 414 yJ0_checkIndex_df160 wsJ0_checkIndex_df160) := goodIn_app (goodIn_of _ (by decide +kernel)) ggJ2_checkIndex_2214a_J0_checkIndex_df160
theorem dJ2_checkIndex_2214a_0 : decode cJ2_checkIndex_2214a 0 = .ok (.iload_n 0, 1) := by decide +kernel
theorem dJ2_checkIndex_2214a_1 : decode cJ2_checkIndex_2214a 1 = .ok (.aload_n 1, 1) := by decide +kernel
theorem dJ2_checkIndex_2214a_2 : decode cJ2_checkIndex_2214a 2 = .ok (.invokestatic 48, 3) := by decide +kernel
theorem dJ2_checkIndex_2214a_5 : decode cJ2_checkIndex_2214a 5 = .ok (.invokestatic 414, 3) := by decide +kernel
theorem dJ2_checkIndex_2214a_8 : decode cJ2_checkIndex_2214a 8 = .ok (.return_, 1) := by decide +kernel
theorem dJ3_checkIndex_8e157_0 : decode cJ3_checkIndex_8e157 0 = .ok (.iload_n 0, 1) := by decide +kernel
theorem dJ3_checkIndex_8e157_1 : decode cJ3_checkIndex_8e157 1 = .ok (.ifCond .lt 8, 3) := by decide +kernel
theorem dJ3_checkIndex_8e157_4 : decode cJ3_checkIndex_8e157 4 = .ok (.iload_n 0, 1) := by decide +kernel
theorem dJ3_checkIndex_8e157_5 : decode cJ3_checkIndex_8e157 5 = .ok (.iload_n 1, 1) := by decide +kernel
theorem dJ3_checkIndex_8e157_6 : decode cJ3_checkIndex_8e157 6 = .ok (.if_icmp .lt 10, 3) := by decide +kernel
theorem dJ3_checkIndex_8e157_9 : decode cJ3_checkIndex_8e157 9 = .ok (.aload_n 2, 1) := by decide +kernel
theorem dJ3_checkIndex_8e157_10 : decode cJ3_checkIndex_8e157 10 = .ok (.iload_n 0, 1) := by decide +kernel
theorem dJ3_checkIndex_8e157_11 : decode cJ3_checkIndex_8e157 11 = .ok (.iload_n 1, 1) := by decide +kernel
theorem dJ3_checkIndex_8e157_12 : decode cJ3_checkIndex_8e157 12 = .ok (.invokestatic 95, 3) := by decide +kernel
theorem dJ3_checkIndex_8e157_15 : decode cJ3_checkIndex_8e157 15 = .ok (.athrow, 1) := by decide +kernel
theorem dJ3_checkIndex_8e157_16 : decode cJ3_checkIndex_8e157 16 = .ok (.iload_n 0, 1) := by decide +kernel
theorem dJ3_checkIndex_8e157_17 : decode cJ3_checkIndex_8e157 17 = .ok (.ireturn, 1) := by decide +kernel
set_option maxRecDepth 20000 in
theorem ggL_law_X8_init : GoodIn wsL_law wsX8_init := goodIn_r _ [8, 9, 10, 11, 12, 13, 14, 15, 16, 17, 18, 19, 20, 21, 22, 23, 24, 25, 26, 27, 28, 29, 30, 31, 32, 33, 34, 35, 36, 37, 38, 39, 40, 41, 42, 43, 44, 45, 46, 47, 48, 49, 50, 51, 52, 53, 54, 55, 56, 57, 58, 59, 60, 61, 62, 63, 64, 65, 66, 67, 68, 69, 70, 71, 72, 73, 74, 75, 76, 77, 78, 79, 80, 81, 82, 83, 84, 85, 86, 87, 88, 89, 90, 91, 92, 93, 94, 95, 96, 97, 98, 99, 100, 101, 102, 103, 104, 105, 106, 107, 108, 109, 110, 111, 112, 113, 114, 115, 116, 117, 118, 119, 120, 121, 122, 123, 124, 1239, 1240, 1241, 1242, 1243, 1244, 1245, 1246, 1247, 1248, 1249, 1250, 1251, 1178, 1179, 1180, 1181, 1182, 1183, 1184, 1185, 1252, 1253, 1254, 1255, 1256, 1257, 1258, 1259, 1260, 1261, 1262, 1263, 1264, 1265, 1266, 1267, 1268, 1269, 1270, 1271, 1272, 1273, 1274, 1275, 1276, 1277, 1278, 1279, 1280, 1281, 1282, 1283, 1284, 1285, 1286, 1287, 1288, 1289, 1290, 1291] (by decide +kernel) (by decide +kernel)
set_option maxRecDepth 20000 in
theorem gL_law_X8_init : GoodIn wsL_law (wsX8_init) := ggL_law_X8_init
set_option maxRecDepth 20000 in
theorem ggL_law_X9_init : GoodIn wsL_law wsX9_init := goodIn_r _ [127, 128, 10, 11, 44, 129, 130, 131, 132, 133, 134, 135, 136, 137, 138, 139, 140, 141, 142, 143, 144, 145, 146, 147, 148, 149, 150, 151, 152, 153, 154, 102, 155, 156, 157, 158, 159, 110, 160, 161, 162, 163, 164, 165, 166, 167, 168, 5, 169, 1186, 1187, 1188, 1189, 1190, 1191, 1192, 1193, 1194, 1195, 1196, 1197, 1198, 1199, 1200, 1201, 1202, 1203, 1204, 1205, 1206, 1207, 1208, 1209, 1210, 1211, 1212, 1213, 1214, 1215, 1216, 1217, 1218, 1219, 1220, 1221, 1222, 1223, 1224, 1225, 1226, 1227, 1228, 1229, 1230, 1231, 1232, 1233, 1234, 1235, 1236, 1237, 1238] (by decide +kernel) (by decide +kernel)
set_option maxRecDepth 20000 in
theorem gL_law_X9_init : GoodIn wsL_law (wsX9_init) := ggL_law_X9_init
set_option maxRecDepth 20000 in
theorem ggL_law_X8_market : GoodIn wsL_law wsX8_market := goodIn_r _ [173, 15, 174, 175, 2, 176, 177, 178, 179, 14, 180, 49, 46, 1178, 1179, 1180, 1181, 1182, 1183, 1184, 1185, 1239, 1240, 1241, 1242, 1243, 1244, 1245, 1246, 1247, 1248, 1249, 1250, 1251] (by decide +kernel) (by decide +kernel)
set_option maxRecDepth 20000 in
theorem gL_law_X8_market : GoodIn wsL_law (wsV RL 13 RX8 yX8_market wsX8_market) := goodIn_app (goodIn_of _ (by decide +kernel)) ggL_law_X8_market
set_option maxRecDepth 20000 in
theorem ggL_law_X9_market : GoodIn wsL_law wsX9_market := goodIn_r _ [184, 129, 185, 186, 5, 187, 1186, 1187, 1188, 1189, 1190, 1191, 1192, 1193, 1194, 1195, 1196, 1197, 1198, 1199, 1200, 1201, 1202, 1203, 1204, 1205, 1206, 1207, 1208, 1209, 1210, 1211, 1212, 1213, 1214, 1215, 1216, 1217, 1218, 1219, 1220, 1221, 1222, 1223, 1224, 1225, 1226, 1227, 1228, 1229, 1230, 1231, 1232, 1233, 1234, 1235, 1236, 1237, 1238] (by decide +kernel) (by decide +kernel)
set_option maxRecDepth 20000 in
theorem gL_law_X9_market : GoodIn wsL_law (wsV RL 17 RX9 yX9_market wsX9_market) := goodIn_app (goodIn_of _ (by decide +kernel)) ggL_law_X9_market
set_option maxRecDepth 20000 in
theorem ggL_law_X8_goose : GoodIn wsL_law wsX8_goose := goodIn_r _ [191, 15, 192, 193, 194, 14, 195, 48, 196, 197, 198, 199, 45, 200, 201, 202, 203, 1178, 1179, 1180, 1181, 1182, 1183, 1184, 1185, 1239, 1240, 1241, 1242, 1243, 1244, 1245, 1246, 1247, 1248, 1249, 1250, 1251] (by decide +kernel) (by decide +kernel)
set_option maxRecDepth 20000 in
theorem gL_law_X8_goose : GoodIn wsL_law (wsV RL 18 RX8 yX8_goose wsX8_goose) := goodIn_app (goodIn_of _ (by decide +kernel)) ggL_law_X8_goose
set_option maxRecDepth 20000 in
theorem ggL_law_X9_goose : GoodIn wsL_law wsX9_goose := goodIn_r _ [207, 129, 185, 186, 5, 187, 208, 209, 210, 211, 1186, 1187, 1188, 1189, 1190, 1191, 1192, 1193, 1194, 1195, 1196, 1197, 1198, 1199, 1200, 1201, 1202, 1203, 1204, 1205, 1206, 1207, 1208, 1209, 1210, 1211, 1212, 1213, 1214, 1215, 1216, 1217, 1218, 1219, 1220, 1221, 1222, 1223, 1224, 1225, 1226, 1227, 1228, 1229, 1230, 1231, 1232, 1233, 1234, 1235, 1236, 1237, 1238] (by decide +kernel) (by decide +kernel)
set_option maxRecDepth 20000 in
theorem gL_law_X9_goose : GoodIn wsL_law (wsV RL 22 RX9 yX9_goose wsX9_goose) := goodIn_app (goodIn_of _ (by decide +kernel)) ggL_law_X9_goose
set_option maxRecDepth 20000 in
theorem ggL_law_X8_store : GoodIn wsL_law wsX8_store := goodIn_r _ [215, 15, 216, 217, 1178, 1179, 1180, 1181, 1182, 1183, 1184, 1185, 1239, 1240, 1241, 1242, 1243, 1244, 1245, 1246, 1247, 1248, 1249, 1250, 1251] (by decide +kernel) (by decide +kernel)
set_option maxRecDepth 20000 in
theorem gL_law_X8_store : GoodIn wsL_law (wsV RL 23 RX8 yX8_store wsX8_store) := goodIn_app (goodIn_of _ (by decide +kernel)) ggL_law_X8_store
set_option maxRecDepth 20000 in
theorem ggL_law_X9_store : GoodIn wsL_law wsX9_store := goodIn_r _ [221, 129, 185, 186, 5, 187, 1186, 1187, 1188, 1189, 1190, 1191, 1192, 1193, 1194, 1195, 1196, 1197, 1198, 1199, 1200, 1201, 1202, 1203, 1204, 1205, 1206, 1207, 1208, 1209, 1210, 1211, 1212, 1213, 1214, 1215, 1216, 1217, 1218, 1219, 1220, 1221, 1222, 1223, 1224, 1225, 1226, 1227, 1228, 1229, 1230, 1231, 1232, 1233, 1234, 1235, 1236, 1237, 1238] (by decide +kernel) (by decide +kernel)
set_option maxRecDepth 20000 in
theorem gL_law_X9_store : GoodIn wsL_law (wsV RL 27 RX9 yX9_store wsX9_store) := goodIn_app (goodIn_of _ (by decide +kernel)) ggL_law_X9_store
set_option maxRecDepth 20000 in
theorem ggL_law_X8_seed : GoodIn wsL_law wsX8_seed := goodIn_r _ [225, 15, 226, 1178, 1179, 1180, 1181, 1182, 1183, 1184, 1185, 1239, 1240, 1241, 1242, 1243, 1244, 1245, 1246, 1247, 1248, 1249, 1250, 1251] (by decide +kernel) (by decide +kernel)
set_option maxRecDepth 20000 in
theorem gL_law_X8_seed : GoodIn wsL_law (wsV RL 28 RX8 yX8_seed wsX8_seed) := goodIn_app (goodIn_of _ (by decide +kernel)) ggL_law_X8_seed
set_option maxRecDepth 20000 in
theorem ggL_law_X9_seed : GoodIn wsL_law wsX9_seed := goodIn_r _ [230, 129, 185, 186, 5, 187, 1186, 1187, 1188, 1189, 1190, 1191, 1192, 1193, 1194, 1195, 1196, 1197, 1198, 1199, 1200, 1201, 1202, 1203, 1204, 1205, 1206, 1207, 1208, 1209, 1210, 1211, 1212, 1213, 1214, 1215, 1216, 1217, 1218, 1219, 1220, 1221, 1222, 1223, 1224, 1225, 1226, 1227, 1228, 1229, 1230, 1231, 1232, 1233, 1234, 1235, 1236, 1237, 1238] (by decide +kernel) (by decide +kernel)
set_option maxRecDepth 20000 in
theorem gL_law_X9_seed : GoodIn wsL_law (wsV RL 32 RX9 yX9_seed wsX9_seed) := goodIn_app (goodIn_of _ (by decide +kernel)) ggL_law_X9_seed
set_option maxRecDepth 20000 in
theorem ggL_law_X8_fill : GoodIn wsL_law wsX8_fill := goodIn_r _ [234, 15, 32, 216, 235, 236, 2, 237, 238, 239, 240, 241, 242, 243, 14, 244, 245, 246, 247, 248, 48, 45, 249, 250, 251, 252, 31, 253, 254, 255, 256, 257, 83, 258, 259, 260, 261, 262, 263, 264, 265, 266, 267, 268, 85, 269, 270, 271, 272, 273, 274, 275, 276, 277, 278, 279, 82, 280, 281, 282, 87, 283, 94, 284, 285, 286, 287, 288, 289, 290, 291, 95, 292, 293, 294, 295, 296, 297, 298, 299, 96, 93, 300, 301, 302, 303, 304, 305, 306, 307, 84, 308, 309, 310, 311, 312, 313, 314, 315, 316, 317, 318, 319, 320, 321, 322, 57, 56, 47, 323, 324, 325, 326, 50, 52, 53, 327, 197, 198, 199, 200, 201, 202, 203, 1178, 1179, 1180, 1181, 1182, 1183, 1184, 1185, 1239, 1240, 1241, 1242, 1243, 1244, 1245, 1246, 1247, 1248, 1249, 1250, 1251, 1262, 1263, 1264, 1265, 1286, 1287, 1288, 1289, 1290, 1291] (by decide +kernel) (by decide +kernel)
set_option maxRecDepth 20000 in
theorem gL_law_X8_fill : GoodIn wsL_law (wsV RL 33 RX8 yX8_fill wsX8_fill) := goodIn_app (goodIn_of _ (by decide +kernel)) ggL_law_X8_fill
set_option maxRecDepth 20000 in
theorem ggL_law_X9_fill : GoodIn wsL_law wsX9_fill := goodIn_r _ [331, 129, 332, 333, 334, 5, 335, 336, 337, 338, 339, 185, 186, 187, 340, 341, 342, 343, 344, 345, 346, 347, 348, 349, 350, 351, 352, 353, 354, 135, 136, 137, 355, 356, 357, 358, 154, 359, 360, 361, 362, 141, 155, 142, 363, 364, 365, 366, 367, 368, 369, 370, 371, 372, 373, 374, 375, 376, 377, 378, 379, 380, 381, 1186, 1187, 1188, 1189, 1190, 1191, 1192, 1193, 1194, 1195, 1196, 1197, 1198, 1199, 1200, 1201, 1202, 1203, 1204, 1205, 1206, 1207, 1208, 1209, 1210, 1211, 1212, 1213, 1214, 1215, 1216, 1217, 1218, 1219, 1220, 1221, 1222, 1223, 1224, 1225, 1226, 1227, 1228, 1229, 1230, 1231, 1232, 1233, 1234, 1235, 1236, 1237, 1238] (by decide +kernel) (by decide +kernel)
set_option maxRecDepth 20000 in
theorem gL_law_X9_fill : GoodIn wsL_law (wsV RL 36 RX9 yX9_fill wsX9_fill) := goodIn_app (goodIn_of _ (by decide +kernel)) ggL_law_X9_fill
set_option maxRecDepth 20000 in
theorem ggL_law_X8_send : GoodIn wsL_law wsX8_send := goodIn_r _ [385, 15, 386, 387, 388, 389, 14, 390, 49, 391, 392, 393, 394, 395, 242, 243, 244, 245, 246, 247, 248, 48, 45, 319, 320, 321, 322, 57, 56, 47, 323, 324, 325, 326, 50, 52, 53, 396, 397, 398, 399, 46, 327, 197, 198, 199, 200, 201, 202, 203, 1178, 1179, 1180, 1181, 1182, 1183, 1184, 1185, 1239, 1240, 1241, 1242, 1243, 1244, 1245, 1246, 1247, 1248, 1249, 1250, 1251] (by decide +kernel) (by decide +kernel)
set_option maxRecDepth 20000 in
theorem gL_law_X8_send : GoodIn wsL_law (wsV RL 37 RX8 yX8_send wsX8_send) := goodIn_app (goodIn_of _ (by decide +kernel)) ggL_law_X8_send
set_option maxRecDepth 20000 in
theorem ggL_law_X9_send : GoodIn wsL_law wsX9_send := goodIn_r _ [403, 129, 332, 333, 334, 5, 335, 336, 337, 338, 339, 185, 186, 187, 340, 341, 342, 343, 404, 405, 406, 407, 374, 375, 376, 377, 378, 379, 380, 381, 1186, 1187, 1188, 1189, 1190, 1191, 1192, 1193, 1194, 1195, 1196, 1197, 1198, 1199, 1200, 1201, 1202, 1203, 1204, 1205, 1206, 1207, 1208, 1209, 1210, 1211, 1212, 1213, 1214, 1215, 1216, 1217, 1218, 1219, 1220, 1221, 1222, 1223, 1224, 1225, 1226, 1227, 1228, 1229, 1230, 1231, 1232, 1233, 1234, 1235, 1236, 1237, 1238] (by decide +kernel) (by decide +kernel)
set_option maxRecDepth 20000 in
theorem gL_law_X9_send : GoodIn wsL_law (wsV RL 40 RX9 yX9_send wsX9_send) := goodIn_app (goodIn_of _ (by decide +kernel)) ggL_law_X9_send
set_option maxRecDepth 20000 in
theorem ggL_law_X8_fatten : GoodIn wsL_law wsX8_fatten := goodIn_r _ [411, 15, 216, 241, 242, 243, 14, 244, 245, 246, 247, 248, 48, 45, 249, 319, 320, 321, 322, 57, 56, 47, 323, 324, 325, 326, 50, 52, 53, 327, 197, 198, 199, 200, 201, 202, 203, 1178, 1179, 1180, 1181, 1182, 1183, 1184, 1185, 1239, 1240, 1241, 1242, 1243, 1244, 1245, 1246, 1247, 1248, 1249, 1250, 1251] (by decide +kernel) (by decide +kernel)
set_option maxRecDepth 20000 in
theorem gL_law_X8_fatten : GoodIn wsL_law (wsV RL 41 RX8 yX8_fatten wsX8_fatten) := goodIn_app (goodIn_of _ (by decide +kernel)) ggL_law_X8_fatten
set_option maxRecDepth 20000 in
theorem ggL_law_X9_fatten : GoodIn wsL_law wsX9_fatten := goodIn_r _ [415, 129, 332, 333, 334, 5, 335, 336, 337, 338, 339, 185, 186, 187, 340, 341, 342, 343, 374, 375, 376, 377, 378, 379, 380, 381, 1186, 1187, 1188, 1189, 1190, 1191, 1192, 1193, 1194, 1195, 1196, 1197, 1198, 1199, 1200, 1201, 1202, 1203, 1204, 1205, 1206, 1207, 1208, 1209, 1210, 1211, 1212, 1213, 1214, 1215, 1216, 1217, 1218, 1219, 1220, 1221, 1222, 1223, 1224, 1225, 1226, 1227, 1228, 1229, 1230, 1231, 1232, 1233, 1234, 1235, 1236, 1237, 1238] (by decide +kernel) (by decide +kernel)
set_option maxRecDepth 20000 in
theorem gL_law_X9_fatten : GoodIn wsL_law (wsV RL 45 RX9 yX9_fatten wsX9_fatten) := goodIn_app (goodIn_of _ (by decide +kernel)) ggL_law_X9_fatten
set_option maxRecDepth 20000 in
theorem ggL_law_X8_pluck : GoodIn wsL_law wsX8_pluck := goodIn_r _ [419, 15, 241, 242, 243, 14, 244, 245, 246, 247, 248, 48, 45, 249, 319, 320, 321, 322, 57, 56, 47, 323, 324, 325, 326, 50, 52, 53, 327, 197, 198, 199, 200, 201, 202, 203, 1178, 1179, 1180, 1181, 1182, 1183, 1184, 1185, 1239, 1240, 1241, 1242, 1243, 1244, 1245, 1246, 1247, 1248, 1249, 1250, 1251] (by decide +kernel) (by decide +kernel)
set_option maxRecDepth 20000 in
theorem gL_law_X8_pluck : GoodIn wsL_law (wsV RL 46 RX8 yX8_pluck wsX8_pluck) := goodIn_app (goodIn_of _ (by decide +kernel)) ggL_law_X8_pluck
set_option maxRecDepth 20000 in
theorem ggL_law_X9_pluck : GoodIn wsL_law wsX9_pluck := goodIn_r _ [423, 332, 333, 334, 5, 335, 336, 337, 338, 339, 129, 185, 186, 187, 340, 341, 342, 343, 374, 375, 376, 377, 378, 379, 380, 381, 1186, 1187, 1188, 1189, 1190, 1191, 1192, 1193, 1194, 1195, 1196, 1197, 1198, 1199, 1200, 1201, 1202, 1203, 1204, 1205, 1206, 1207, 1208, 1209, 1210, 1211, 1212, 1213, 1214, 1215, 1216, 1217, 1218, 1219, 1220, 1221, 1222, 1223, 1224, 1225, 1226, 1227, 1228, 1229, 1230, 1231, 1232, 1233, 1234, 1235, 1236, 1237, 1238] (by decide +kernel) (by decide +kernel)
set_option maxRecDepth 20000 in
theorem gL_law_X9_pluck : GoodIn wsL_law (wsV RL 49 RX9 yX9_pluck wsX9_pluck) := goodIn_app (goodIn_of _ (by decide +kernel)) ggL_law_X9_pluck
set_option maxRecDepth 20000 in
theorem ggL_law_X8_name : GoodIn wsL_law wsX8_name := goodIn_r _ [427, 15, 391, 392, 393, 14, 394, 395, 242, 243, 244, 245, 246, 247, 248, 48, 45, 319, 320, 321, 322, 57, 56, 47, 323, 324, 325, 326, 50, 52, 53, 327, 197, 198, 199, 200, 201, 202, 203, 1178, 1179, 1180, 1181, 1182, 1183, 1184, 1185, 1239, 1240, 1241, 1242, 1243, 1244, 1245, 1246, 1247, 1248, 1249, 1250, 1251] (by decide +kernel) (by decide +kernel)
set_option maxRecDepth 20000 in
theorem gL_law_X8_name : GoodIn wsL_law (wsV RL 50 RX8 yX8_name wsX8_name) := goodIn_app (goodIn_of _ (by decide +kernel)) ggL_law_X8_name
set_option maxRecDepth 20000 in
theorem ggL_law_X9_name : GoodIn wsL_law wsX9_name := goodIn_r _ [431, 332, 333, 334, 5, 335, 336, 337, 338, 339, 129, 185, 186, 187, 340, 341, 342, 343, 374, 375, 376, 377, 378, 379, 380, 381, 1186, 1187, 1188, 1189, 1190, 1191, 1192, 1193, 1194, 1195, 1196, 1197, 1198, 1199, 1200, 1201, 1202, 1203, 1204, 1205, 1206, 1207, 1208, 1209, 1210, 1211, 1212, 1213, 1214, 1215, 1216, 1217, 1218, 1219, 1220, 1221, 1222, 1223, 1224, 1225, 1226, 1227, 1228, 1229, 1230, 1231, 1232, 1233, 1234, 1235, 1236, 1237, 1238] (by decide +kernel) (by decide +kernel)
set_option maxRecDepth 20000 in
theorem gL_law_X9_name : GoodIn wsL_law (wsV RL 53 RX9 yX9_name wsX9_name) := goodIn_app (goodIn_of _ (by decide +kernel)) ggL_law_X9_name
set_option maxRecDepth 20000 in
theorem ggL_law_X8_pass : GoodIn wsL_law wsX8_pass := goodIn_r _ [435, 15, 386, 319, 320, 321, 14, 322, 57, 56, 47, 45, 323, 324, 325, 326, 48, 50, 52, 53, 436, 437, 438, 2, 439, 440, 249, 246, 247, 248, 441, 442, 443, 444, 32, 445, 446, 447, 31, 448, 258, 259, 260, 261, 83, 262, 263, 449, 450, 451, 452, 453, 397, 398, 399, 49, 46, 454, 455, 456, 457, 458, 265, 266, 267, 268, 85, 269, 270, 271, 272, 273, 274, 275, 276, 277, 278, 279, 82, 280, 281, 282, 87, 283, 94, 284, 285, 286, 287, 288, 289, 290, 291, 95, 292, 293, 294, 295, 296, 297, 298, 299, 96, 93, 300, 301, 302, 303, 304, 305, 306, 307, 84, 308, 309, 310, 311, 312, 313, 314, 315, 316, 317, 318, 459, 460, 461, 462, 196, 197, 198, 199, 200, 201, 202, 203, 463, 464, 465, 466, 467, 468, 469, 470, 51, 471, 472, 473, 474, 245, 475, 392, 393, 394, 395, 242, 243, 244, 476, 1178, 1179, 1180, 1181, 1182, 1183, 1184, 1185, 1239, 1240, 1241, 1242, 1243, 1244, 1245, 1246, 1247, 1248, 1249, 1250, 1251, 1262, 1263, 1264, 1265, 1286, 1287, 1288, 1289, 1290, 1291] (by decide +kernel) (by decide +kernel)
set_option maxRecDepth 20000 in
theorem gL_law_X8_pass : GoodIn wsL_law (wsV RL 54 RX8 yX8_pass wsX8_pass) := goodIn_app (goodIn_of _ (by decide +kernel)) ggL_law_X8_pass
set_option maxRecDepth 20000 in
theorem ggL_law_X9_pass : GoodIn wsL_law wsX9_pass := goodIn_r _ [480, 129, 185, 186, 5, 187, 374, 375, 376, 377, 340, 341, 342, 343, 481, 482, 483, 484, 485, 486, 487, 488, 489, 490, 491, 492, 493, 494, 495, 496, 154, 351, 352, 353, 354, 135, 136, 137, 355, 356, 357, 358, 359, 360, 361, 362, 141, 155, 142, 363, 364, 365, 366, 367, 368, 369, 370, 371, 372, 373, 378, 379, 380, 381, 497, 498, 499, 500, 501, 502, 503, 504, 1186, 1187, 1188, 1189, 1190, 1191, 1192, 1193, 1194, 1195, 1196, 1197, 1198, 1199, 1200, 1201, 1202, 1203, 1204, 1205, 1206, 1207, 1208, 1209, 1210, 1211, 1212, 1213, 1214, 1215, 1216, 1217, 1218, 1219, 1220, 1221, 1222, 1223, 1224, 1225, 1226, 1227, 1228, 1229, 1230, 1231, 1232, 1233, 1234, 1235, 1236, 1237, 1238] (by decide +kernel) (by decide +kernel)
set_option maxRecDepth 20000 in
theorem gL_law_X9_pass : GoodIn wsL_law (wsV RL 57 RX9 yX9_pass wsX9_pass) := goodIn_app (goodIn_of _ (by decide +kernel)) ggL_law_X9_pass
set_option maxRecDepth 20000 in
theorem ggL_law_X8_feed : GoodIn wsL_law wsX8_feed := goodIn_r _ [508, 20, 509, 510, 511, 512, 19, 513, 62, 61, 1178, 1179, 1180, 1181, 1182, 1183, 1184, 1185, 1252, 1253] (by decide +kernel) (by decide +kernel)
set_option maxRecDepth 20000 in
theorem gL_law_X8_feed : GoodIn wsL_law (wsV RL 58 RX8 yX8_feed wsX8_feed) := goodIn_app (goodIn_of _ (by decide +kernel)) ggL_law_X8_feed
set_option maxRecDepth 20000 in
theorem ggL_law_X9_feed : GoodIn wsL_law wsX9_feed := goodIn_r _ [517, 518, 519, 520, 521, 5, 522, 132, 1186, 1187, 1188, 1189, 1190, 1191, 1192, 1193, 1194, 1195, 1196, 1197, 1198, 1199, 1200, 1201, 1202, 1203, 1204, 1205, 1206, 1207, 1208, 1209, 1210, 1211, 1212, 1213, 1214, 1215, 1216, 1217, 1218, 1219, 1220, 1221, 1222, 1223, 1224, 1225, 1226, 1227, 1228, 1229, 1230, 1231, 1232, 1233, 1234, 1235, 1236, 1237, 1238] (by decide +kernel) (by decide +kernel)
set_option maxRecDepth 20000 in
theorem gL_law_X9_feed : GoodIn wsL_law (wsV RL 62 RX9 yX9_feed wsX9_feed) := goodIn_app (goodIn_of _ (by decide +kernel)) ggL_law_X9_feed
set_option maxRecDepth 20000 in
theorem ggL_law_X8_end : GoodIn wsL_law wsX8_end := goodIn_r _ [526, 20, 509, 1178, 1179, 1180, 1181, 1182, 1183, 1184, 1185, 1252, 1253] (by decide +kernel) (by decide +kernel)
set_option maxRecDepth 20000 in
theorem gL_law_X8_end : GoodIn wsL_law (wsV RL 63 RX8 yX8_end wsX8_end) := goodIn_app (goodIn_of _ (by decide +kernel)) ggL_law_X8_end
set_option maxRecDepth 20000 in
theorem ggL_law_X9_end : GoodIn wsL_law wsX9_end := goodIn_r _ [530, 518, 185, 186, 5, 187, 1186, 1187, 1188, 1189, 1190, 1191, 1192, 1193, 1194, 1195, 1196, 1197, 1198, 1199, 1200, 1201, 1202, 1203, 1204, 1205, 1206, 1207, 1208, 1209, 1210, 1211, 1212, 1213, 1214, 1215, 1216, 1217, 1218, 1219, 1220, 1221, 1222, 1223, 1224, 1225, 1226, 1227, 1228, 1229, 1230, 1231, 1232, 1233, 1234, 1235, 1236, 1237, 1238] (by decide +kernel) (by decide +kernel)
set_option maxRecDepth 20000 in
theorem gL_law_X9_end : GoodIn wsL_law (wsV RL 66 RX9 yX9_end wsX9_end) := goodIn_app (goodIn_of _ (by decide +kernel)) ggL_law_X9_end
set_option maxRecDepth 20000 in
theorem ggL_law_X8_text : GoodIn wsL_law wsX8_text := goodIn_r _ [534, 32, 15, 535, 24, 20, 28, 509, 536, 537, 277, 278, 31, 279, 82, 538, 539, 540, 23, 541, 70, 69, 542, 543, 544, 545, 19, 546, 62, 61, 547, 548, 549, 550, 551, 552, 553, 554, 555, 556, 557, 558, 559, 560, 561, 562, 563, 564, 565, 566, 567, 568, 569, 570, 571, 572, 573, 574, 575, 576, 577, 578, 579, 580, 581, 582, 583, 584, 585, 586, 587, 588, 589, 590, 591, 592, 593, 594, 595, 596, 597, 598, 599, 600, 601, 602, 603, 604, 605, 606, 607, 608, 609, 610, 611, 612, 66, 67, 68, 613, 614, 615, 616, 617, 618, 619, 620, 270, 271, 272, 621, 622, 623, 624, 625, 626, 627, 628, 629, 630, 27, 631, 74, 75, 632, 633, 634, 87, 635, 92, 96, 94, 95, 636, 637, 638, 639, 640, 641, 642, 643, 76, 644, 645, 646, 647, 648, 649, 650, 651, 652, 653, 281, 282, 283, 654, 655, 656, 657, 91, 658, 659, 660, 661, 662, 663, 664, 665, 666, 667, 668, 669, 670, 671, 672, 673, 674, 675, 676, 677, 678, 679, 680, 681, 682, 93, 683, 684, 685, 686, 687, 688, 689, 690, 691, 692, 693, 694, 695, 696, 697, 698, 699, 700, 701, 702, 703, 704, 705, 706, 707, 708, 709, 710, 711, 712, 713, 714, 715, 716, 1178, 1179, 1180, 1181, 1182, 1183, 1184, 1185, 1239, 1240, 1241, 1242, 1243, 1244, 1245, 1246, 1247, 1248, 1249, 1250, 1251, 1252, 1253, 1259, 1260, 1261, 1262, 1263, 1264, 1265, 1254, 1255, 1256, 1257, 1258, 1286, 1287, 1288, 1289, 1290, 1291] (by decide +kernel) (by decide +kernel)
set_option maxRecDepth 20000 in
theorem gL_law_X8_text : GoodIn wsL_law (wsV RL 67 RX8 yX8_text wsX8_text) := goodIn_app (goodIn_of _ (by decide +kernel)) ggL_law_X8_text
set_option maxRecDepth 20000 in
theorem ggL_law_X9_text : GoodIn wsL_law wsX9_text := goodIn_r _ [720, 129, 518, 721, 722, 723, 724, 725, 726, 727, 728, 729, 730, 731, 133, 134, 135, 136, 147, 137, 148, 138, 149, 139, 150, 140, 151, 141, 152, 142, 153, 732, 733, 734, 5, 735, 132, 736, 737, 738, 739, 740, 741, 742, 185, 186, 187, 743, 744, 745, 746, 747, 748, 749, 750, 751, 752, 753, 754, 755, 756, 757, 758, 759, 760, 761, 762, 763, 764, 765, 766, 767, 768, 769, 770, 771, 772, 773, 774, 775, 776, 777, 778, 779, 780, 781, 782, 783, 784, 785, 786, 787, 143, 788, 789, 790, 791, 792, 793, 794, 795, 796, 797, 798, 799, 800, 801, 802, 803, 804, 805, 806, 807, 808, 809, 810, 811, 812, 144, 813, 814, 815, 816, 145, 146, 817, 818, 819, 820, 821, 822, 823, 824, 825, 826, 827, 828, 829, 830, 831, 832, 833, 834, 835, 836, 837, 838, 839, 840, 841, 842, 843, 844, 845, 846, 847, 848, 849, 850, 851, 852, 853, 854, 1186, 1187, 1188, 1189, 1190, 1191, 1192, 1193, 1194, 1195, 1196, 1197, 1198, 1199, 1200, 1201, 1202, 1203, 1204, 1205, 1206, 1207, 1208, 1209, 1210, 1211, 1212, 1213, 1214, 1215, 1216, 1217, 1218, 1219, 1220, 1221, 1222, 1223, 1224, 1225, 1226, 1227, 1228, 1229, 1230, 1231, 1232, 1233, 1234, 1235, 1236, 1237, 1238] (by decide +kernel) (by decide +kernel)
set_option maxRecDepth 20000 in
theorem gL_law_X9_text : GoodIn wsL_law (wsV RL 71 RX9 yX9_text wsX9_text) := goodIn_app (goodIn_of _ (by decide +kernel)) ggL_law_X9_text
set_option maxRecDepth 20000 in
theorem ggL_law_X8_fault : GoodIn wsL_law wsX8_fault := goodIn_r _ [858, 28, 536, 859, 1178, 1179, 1180, 1181, 1182, 1183, 1184, 1185, 1259, 1260, 1261] (by decide +kernel) (by decide +kernel)
set_option maxRecDepth 20000 in
theorem gL_law_X8_fault : GoodIn wsL_law (wsV RL 72 RX8 yX8_fault wsX8_fault) := goodIn_app (goodIn_of _ (by decide +kernel)) ggL_law_X8_fault
set_option maxRecDepth 20000 in
theorem ggL_law_X9_fault : GoodIn wsL_law wsX9_fault := goodIn_r _ [863, 133, 134, 1186, 1187, 1188, 1189, 1190, 1191, 1192, 1193, 1194, 1195, 1196, 1197, 1198, 1199, 1200, 1201, 1202, 1203, 1204, 1205, 1206, 1207, 1208, 1209, 1210, 1211, 1212, 1213, 1214, 1215, 1216, 1217, 1218, 1219, 1220, 1221, 1222, 1223, 1224, 1225, 1226, 1227, 1228, 1229, 1230, 1231, 1232, 1233, 1234, 1235, 1236, 1237, 1238] (by decide +kernel) (by decide +kernel)
set_option maxRecDepth 20000 in
theorem gL_law_X9_fault : GoodIn wsL_law (wsV RL 75 RX9 yX9_fault wsX9_fault) := goodIn_app (goodIn_of _ (by decide +kernel)) ggL_law_X9_fault
set_option maxRecDepth 20000 in
theorem ggL_law_X8_by : GoodIn wsL_law wsX8_by := goodIn_r _ [867, 15, 535, 868, 1178, 1179, 1180, 1181, 1182, 1183, 1184, 1185, 1239, 1240, 1241, 1242, 1243, 1244, 1245, 1246, 1247, 1248, 1249, 1250, 1251] (by decide +kernel) (by decide +kernel)
set_option maxRecDepth 20000 in
theorem gL_law_X8_by : GoodIn wsL_law (wsV RL 76 RX8 yX8_by wsX8_by) := goodIn_app (goodIn_of _ (by decide +kernel)) ggL_law_X8_by
set_option maxRecDepth 20000 in
theorem ggL_law_X9_by : GoodIn wsL_law wsX9_by := goodIn_r _ [872, 129, 185, 186, 5, 187, 1186, 1187, 1188, 1189, 1190, 1191, 1192, 1193, 1194, 1195, 1196, 1197, 1198, 1199, 1200, 1201, 1202, 1203, 1204, 1205, 1206, 1207, 1208, 1209, 1210, 1211, 1212, 1213, 1214, 1215, 1216, 1217, 1218, 1219, 1220, 1221, 1222, 1223, 1224, 1225, 1226, 1227, 1228, 1229, 1230, 1231, 1232, 1233, 1234, 1235, 1236, 1237, 1238] (by decide +kernel) (by decide +kernel)
set_option maxRecDepth 20000 in
theorem gL_law_X9_by : GoodIn wsL_law (wsV RL 79 RX9 yX9_by wsX9_by) := goodIn_app (goodIn_of _ (by decide +kernel)) ggL_law_X9_by
set_option maxRecDepth 20000 in
theorem ggL_law_X8_played : GoodIn wsL_law wsX8_played := goodIn_r _ [876, 32, 15, 535, 877, 537, 277, 278, 31, 279, 82, 878, 879, 880, 87, 881, 91, 882, 232, 233, 2, 234, 216, 235, 236, 237, 238, 239, 240, 241, 242, 243, 14, 244, 245, 246, 247, 248, 48, 45, 249, 250, 251, 252, 253, 254, 255, 256, 257, 83, 258, 259, 260, 261, 262, 263, 264, 265, 266, 267, 268, 85, 269, 270, 271, 272, 273, 274, 275, 276, 280, 281, 282, 283, 94, 284, 285, 286, 287, 288, 289, 290, 291, 95, 292, 293, 294, 295, 296, 297, 298, 299, 96, 93, 300, 301, 302, 303, 304, 305, 306, 307, 84, 308, 309, 310, 311, 312, 313, 314, 315, 316, 317, 318, 319, 320, 321, 322, 57, 56, 47, 323, 324, 325, 326, 50, 52, 53, 327, 197, 198, 199, 200, 201, 202, 203, 883, 383, 384, 385, 386, 387, 388, 389, 390, 49, 391, 392, 393, 394, 395, 396, 397, 398, 399, 46, 884, 409, 410, 411, 885, 433, 434, 435, 436, 437, 438, 439, 440, 441, 442, 443, 444, 445, 446, 447, 448, 449, 450, 451, 452, 453, 454, 455, 456, 457, 458, 459, 460, 461, 462, 196, 463, 464, 465, 466, 467, 468, 469, 470, 51, 471, 472, 473, 474, 475, 476, 1178, 1179, 1180, 1181, 1182, 1183, 1184, 1185, 1239, 1240, 1241, 1242, 1243, 1244, 1245, 1246, 1247, 1248, 1249, 1250, 1251, 1286, 1287, 1288, 1289, 1290, 1291, 1262, 1263, 1264, 1265] (by decide +kernel) (by decide +kernel)
set_option maxRecDepth 20000 in
theorem gL_law_X8_played : GoodIn wsL_law (wsV RL 80 RX8 yX8_played wsX8_played) := goodIn_app (goodIn_of _ (by decide +kernel)) ggL_law_X8_played
set_option maxRecDepth 20000 in
theorem ggL_law_X9_played : GoodIn wsL_law wsX9_played := goodIn_r _ [889, 129, 135, 136, 138, 139, 140, 185, 186, 5, 187, 890, 329, 330, 331, 332, 333, 334, 335, 336, 337, 338, 339, 340, 341, 342, 343, 344, 345, 346, 347, 348, 349, 350, 351, 352, 353, 354, 137, 355, 356, 357, 358, 154, 359, 360, 361, 362, 141, 155, 142, 363, 364, 365, 366, 367, 368, 369, 370, 371, 372, 373, 374, 375, 376, 377, 378, 379, 380, 381, 891, 401, 402, 403, 404, 405, 406, 407, 892, 413, 414, 415, 893, 478, 479, 480, 481, 482, 483, 484, 485, 486, 487, 488, 489, 490, 491, 492, 493, 494, 495, 496, 497, 498, 499, 500, 501, 502, 503, 504, 1186, 1187, 1188, 1189, 1190, 1191, 1192, 1193, 1194, 1195, 1196, 1197, 1198, 1199, 1200, 1201, 1202, 1203, 1204, 1205, 1206, 1207, 1208, 1209, 1210, 1211, 1212, 1213, 1214, 1215, 1216, 1217, 1218, 1219, 1220, 1221, 1222, 1223, 1224, 1225, 1226, 1227, 1228, 1229, 1230, 1231, 1232, 1233, 1234, 1235, 1236, 1237, 1238] (by decide +kernel) (by decide +kernel)
set_option maxRecDepth 20000 in
theorem gL_law_X9_played : GoodIn wsL_law (wsV RL 83 RX9 yX9_played wsX9_played) := goodIn_app (goodIn_of _ (by decide +kernel)) ggL_law_X9_played
set_option maxRecDepth 20000 in
theorem ggL_law_X8_undo : GoodIn wsL_law wsX8_undo := goodIn_r _ [897, 15, 898, 899, 900, 901, 14, 902, 56, 57, 47, 903, 274, 271, 275, 904, 270, 272, 45, 323, 324, 325, 326, 50, 52, 53, 1178, 1179, 1180, 1181, 1182, 1183, 1184, 1185, 1239, 1240, 1241, 1242, 1243, 1244, 1245, 1246, 1247, 1248, 1249, 1250, 1251] (by decide +kernel) (by decide +kernel)
set_option maxRecDepth 20000 in
theorem gL_law_X8_undo : GoodIn wsL_law (wsV RL 84 RX8 yX8_undo wsX8_undo) := goodIn_app (goodIn_of _ (by decide +kernel)) ggL_law_X8_undo
set_option maxRecDepth 20000 in
theorem ggL_law_X9_undo : GoodIn wsL_law wsX9_undo := goodIn_r _ [908, 129, 1186, 1187, 1188, 1189, 1190, 1191, 1192, 1193, 1194, 1195, 1196, 1197, 1198, 1199, 1200, 1201, 1202, 1203, 1204, 1205, 1206, 1207, 1208, 1209, 1210, 1211, 1212, 1213, 1214, 1215, 1216, 1217, 1218, 1219, 1220, 1221, 1222, 1223, 1224, 1225, 1226, 1227, 1228, 1229, 1230, 1231, 1232, 1233, 1234, 1235, 1236, 1237, 1238] (by decide +kernel) (by decide +kernel)
set_option maxRecDepth 20000 in
theorem gL_law_X9_undo : GoodIn wsL_law (wsV RL 87 RX9 yX9_undo wsX9_undo) := goodIn_app (goodIn_of _ (by decide +kernel)) ggL_law_X9_undo
set_option maxRecDepth 20000 in
theorem ggL_law_X8_of : GoodIn wsL_law wsX8_of := goodIn_r _ [912, 15, 32, 913, 201, 202, 14, 203, 48, 914, 915, 916, 31, 917, 258, 259, 260, 261, 83, 262, 263, 246, 247, 248, 45, 264, 265, 266, 267, 268, 85, 269, 270, 271, 272, 273, 274, 275, 276, 277, 278, 279, 82, 280, 281, 282, 87, 283, 94, 284, 285, 286, 287, 288, 289, 290, 291, 95, 292, 293, 294, 295, 296, 297, 298, 299, 96, 93, 300, 301, 302, 303, 304, 305, 306, 307, 84, 308, 309, 310, 311, 312, 313, 314, 315, 316, 317, 318, 249, 1178, 1179, 1180, 1181, 1182, 1183, 1184, 1185, 1239, 1240, 1241, 1242, 1243, 1244, 1245, 1246, 1247, 1248, 1249, 1250, 1251, 1262, 1263, 1264, 1265, 1286, 1287, 1288, 1289, 1290, 1291] (by decide +kernel) (by decide +kernel)
set_option maxRecDepth 20000 in
theorem gL_law_X8_of : GoodIn wsL_law (wsV RL 88 RX8 yX8_of wsX8_of) := goodIn_app (goodIn_of _ (by decide +kernel)) ggL_law_X8_of
set_option maxRecDepth 20000 in
theorem ggL_law_X9_of : GoodIn wsL_law wsX9_of := goodIn_r _ [921, 336, 337, 338, 5, 339, 129, 185, 186, 187, 340, 341, 342, 343, 922, 923, 924, 925, 926, 927, 928, 929, 154, 351, 352, 353, 354, 135, 136, 137, 355, 356, 357, 358, 359, 360, 361, 362, 141, 155, 142, 363, 364, 365, 366, 367, 368, 369, 370, 1186, 1187, 1188, 1189, 1190, 1191, 1192, 1193, 1194, 1195, 1196, 1197, 1198, 1199, 1200, 1201, 1202, 1203, 1204, 1205, 1206, 1207, 1208, 1209, 1210, 1211, 1212, 1213, 1214, 1215, 1216, 1217, 1218, 1219, 1220, 1221, 1222, 1223, 1224, 1225, 1226, 1227, 1228, 1229, 1230, 1231, 1232, 1233, 1234, 1235, 1236, 1237, 1238] (by decide +kernel) (by decide +kernel)
set_option maxRecDepth 20000 in
theorem gL_law_X9_of : GoodIn wsL_law (wsV RL 91 RX9 yX9_of wsX9_of) := goodIn_app (goodIn_of _ (by decide +kernel)) ggL_law_X9_of
set_option maxRecDepth 20000 in
theorem ggL_law_X8_ink : GoodIn wsL_law wsX8_ink := goodIn_r _ [933, 15, 32, 913, 201, 202, 14, 203, 48, 235, 236, 2, 237, 238, 239, 240, 250, 251, 252, 31, 253, 254, 255, 256, 257, 83, 258, 259, 260, 261, 262, 263, 246, 247, 248, 45, 264, 265, 266, 267, 268, 85, 269, 270, 271, 272, 273, 274, 275, 276, 277, 278, 279, 82, 280, 281, 282, 87, 283, 94, 284, 285, 286, 287, 288, 289, 290, 291, 95, 292, 293, 294, 295, 296, 297, 298, 299, 96, 93, 300, 301, 302, 303, 304, 305, 306, 307, 84, 308, 309, 310, 311, 312, 313, 314, 315, 316, 317, 318, 1178, 1179, 1180, 1181, 1182, 1183, 1184, 1185, 1239, 1240, 1241, 1242, 1243, 1244, 1245, 1246, 1247, 1248, 1249, 1250, 1251, 1262, 1263, 1264, 1265, 1286, 1287, 1288, 1289, 1290, 1291] (by decide +kernel) (by decide +kernel)
set_option maxRecDepth 20000 in
theorem gL_law_X8_ink : GoodIn wsL_law (wsV RL 92 RX8 yX8_ink wsX8_ink) := goodIn_app (goodIn_of _ (by decide +kernel)) ggL_law_X8_ink
set_option maxRecDepth 20000 in
theorem ggL_law_X9_ink : GoodIn wsL_law wsX9_ink := goodIn_r _ [937, 336, 337, 338, 5, 339, 129, 185, 186, 187, 344, 345, 346, 347, 348, 349, 350, 351, 352, 353, 354, 135, 136, 137, 355, 356, 357, 358, 154, 340, 341, 342, 343, 359, 360, 361, 362, 141, 155, 142, 363, 364, 365, 366, 367, 368, 369, 370, 371, 372, 373, 1186, 1187, 1188, 1189, 1190, 1191, 1192, 1193, 1194, 1195, 1196, 1197, 1198, 1199, 1200, 1201, 1202, 1203, 1204, 1205, 1206, 1207, 1208, 1209, 1210, 1211, 1212, 1213, 1214, 1215, 1216, 1217, 1218, 1219, 1220, 1221, 1222, 1223, 1224, 1225, 1226, 1227, 1228, 1229, 1230, 1231, 1232, 1233, 1234, 1235, 1236, 1237, 1238] (by decide +kernel) (by decide +kernel)
set_option maxRecDepth 20000 in
theorem gL_law_X9_ink : GoodIn wsL_law (wsV RL 95 RX9 yX9_ink wsX9_ink) := goodIn_app (goodIn_of _ (by decide +kernel)) ggL_law_X9_ink
set_option maxRecDepth 20000 in
theorem ggL_law_X8_known : GoodIn wsL_law wsX8_known := goodIn_r _ [941, 238, 239, 2, 240, 942, 943, 944, 945, 15, 440, 249, 246, 247, 14, 248, 48, 45, 946, 947, 948, 949, 32, 914, 915, 916, 31, 917, 258, 259, 260, 261, 83, 262, 263, 264, 265, 266, 267, 268, 85, 269, 270, 271, 272, 273, 274, 275, 276, 277, 278, 279, 82, 280, 281, 282, 87, 283, 94, 284, 285, 286, 287, 288, 289, 290, 291, 95, 292, 293, 294, 295, 296, 297, 298, 299, 96, 93, 300, 301, 302, 303, 304, 305, 306, 307, 84, 308, 309, 310, 311, 312, 313, 314, 315, 316, 317, 318, 950, 951, 952, 1178, 1179, 1180, 1181, 1182, 1183, 1184, 1185, 1239, 1240, 1241, 1242, 1243, 1244, 1245, 1246, 1247, 1248, 1249, 1250, 1251, 1262, 1263, 1264, 1265, 1286, 1287, 1288, 1289, 1290, 1291] (by decide +kernel) (by decide +kernel)
set_option maxRecDepth 20000 in
theorem gL_law_X8_known : GoodIn wsL_law (wsV RL 96 RX8 yX8_known wsX8_known) := goodIn_app (goodIn_of _ (by decide +kernel)) ggL_law_X8_known
set_option maxRecDepth 20000 in
theorem ggL_law_X9_known : GoodIn wsL_law wsX9_known := goodIn_r _ [956, 957, 958, 5, 959, 185, 186, 187, 960, 961, 962, 963, 129, 964, 965, 966, 967, 340, 341, 342, 343, 922, 923, 924, 925, 926, 927, 928, 929, 154, 351, 352, 353, 354, 135, 136, 137, 355, 356, 357, 358, 359, 360, 361, 362, 141, 155, 142, 363, 364, 365, 366, 367, 368, 369, 370, 968, 969, 970, 1186, 1187, 1188, 1189, 1190, 1191, 1192, 1193, 1194, 1195, 1196, 1197, 1198, 1199, 1200, 1201, 1202, 1203, 1204, 1205, 1206, 1207, 1208, 1209, 1210, 1211, 1212, 1213, 1214, 1215, 1216, 1217, 1218, 1219, 1220, 1221, 1222, 1223, 1224, 1225, 1226, 1227, 1228, 1229, 1230, 1231, 1232, 1233, 1234, 1235, 1236, 1237, 1238] (by decide +kernel) (by decide +kernel)
set_option maxRecDepth 20000 in
theorem gL_law_X9_known : GoodIn wsL_law (wsV RL 99 RX9 yX9_known wsX9_known) := goodIn_app (goodIn_of _ (by decide +kernel)) ggL_law_X9_known
set_option maxRecDepth 20000 in
theorem ggL_law_X8_led : GoodIn wsL_law wsX8_led := goodIn_r _ [974, 15, 440, 238, 239, 2, 240, 249, 246, 247, 14, 248, 48, 45, 946, 947, 948, 949, 32, 914, 915, 916, 31, 917, 258, 259, 260, 261, 83, 262, 263, 264, 265, 266, 267, 268, 85, 269, 270, 271, 272, 273, 274, 275, 276, 277, 278, 279, 82, 280, 281, 282, 87, 283, 94, 284, 285, 286, 287, 288, 289, 290, 291, 95, 292, 293, 294, 295, 296, 297, 298, 299, 96, 93, 300, 301, 302, 303, 304, 305, 306, 307, 84, 308, 309, 310, 311, 312, 313, 314, 315, 316, 317, 318, 942, 943, 944, 945, 950, 951, 952, 1178, 1179, 1180, 1181, 1182, 1183, 1184, 1185, 1239, 1240, 1241, 1242, 1243, 1244, 1245, 1246, 1247, 1248, 1249, 1250, 1251, 1262, 1263, 1264, 1265, 1286, 1287, 1288, 1289, 1290, 1291] (by decide +kernel) (by decide +kernel)
set_option maxRecDepth 20000 in
theorem gL_law_X8_led : GoodIn wsL_law (wsV RL 100 RX8 yX8_led wsX8_led) := goodIn_app (goodIn_of _ (by decide +kernel)) ggL_law_X8_led
set_option maxRecDepth 20000 in
theorem ggL_law_X9_led : GoodIn wsL_law wsX9_led := goodIn_r _ [978, 129, 957, 958, 5, 959, 185, 186, 187, 340, 341, 342, 343, 964, 965, 966, 967, 922, 923, 924, 925, 926, 927, 928, 929, 154, 351, 352, 353, 354, 135, 136, 137, 355, 356, 357, 358, 359, 360, 361, 362, 141, 155, 142, 363, 364, 365, 366, 367, 368, 369, 370, 968, 969, 970, 1186, 1187, 1188, 1189, 1190, 1191, 1192, 1193, 1194, 1195, 1196, 1197, 1198, 1199, 1200, 1201, 1202, 1203, 1204, 1205, 1206, 1207, 1208, 1209, 1210, 1211, 1212, 1213, 1214, 1215, 1216, 1217, 1218, 1219, 1220, 1221, 1222, 1223, 1224, 1225, 1226, 1227, 1228, 1229, 1230, 1231, 1232, 1233, 1234, 1235, 1236, 1237, 1238] (by decide +kernel) (by decide +kernel)
set_option maxRecDepth 20000 in
theorem gL_law_X9_led : GoodIn wsL_law (wsV RL 104 RX9 yX9_led wsX9_led) := goodIn_app (goodIn_of _ (by decide +kernel)) ggL_law_X9_led
set_option maxRecDepth 20000 in
theorem ggL_law_X8_answer : GoodIn wsL_law wsX8_answer := goodIn_r _ [982, 15, 983, 972, 973, 2, 974, 440, 238, 239, 240, 249, 246, 247, 14, 248, 48, 45, 946, 947, 948, 949, 32, 914, 915, 916, 31, 917, 258, 259, 260, 261, 83, 262, 263, 264, 265, 266, 267, 268, 85, 269, 270, 271, 272, 273, 274, 275, 276, 277, 278, 279, 82, 280, 281, 282, 87, 283, 94, 284, 285, 286, 287, 288, 289, 290, 291, 95, 292, 293, 294, 295, 296, 297, 298, 299, 96, 93, 300, 301, 302, 303, 304, 305, 306, 307, 84, 308, 309, 310, 311, 312, 313, 314, 315, 316, 317, 318, 942, 943, 944, 945, 950, 951, 952, 396, 397, 398, 399, 49, 46, 1178, 1179, 1180, 1181, 1182, 1183, 1184, 1185, 1239, 1240, 1241, 1242, 1243, 1244, 1245, 1246, 1247, 1248, 1249, 1250, 1251, 1262, 1263, 1264, 1265, 1286, 1287, 1288, 1289, 1290, 1291] (by decide +kernel) (by decide +kernel)
set_option maxRecDepth 20000 in
theorem gL_law_X8_answer : GoodIn wsL_law (wsV RL 105 RX8 yX8_answer wsX8_answer) := goodIn_app (goodIn_of _ (by decide +kernel)) ggL_law_X8_answer
set_option maxRecDepth 20000 in
theorem ggL_law_X9_answer : GoodIn wsL_law wsX9_answer := goodIn_r _ [987, 129, 988, 976, 977, 5, 978, 957, 958, 959, 185, 186, 187, 340, 341, 342, 343, 964, 965, 966, 967, 922, 923, 924, 925, 926, 927, 928, 929, 154, 351, 352, 353, 354, 135, 136, 137, 355, 356, 357, 358, 359, 360, 361, 362, 141, 155, 142, 363, 364, 365, 366, 367, 368, 369, 370, 968, 969, 970, 1186, 1187, 1188, 1189, 1190, 1191, 1192, 1193, 1194, 1195, 1196, 1197, 1198, 1199, 1200, 1201, 1202, 1203, 1204, 1205, 1206, 1207, 1208, 1209, 1210, 1211, 1212, 1213, 1214, 1215, 1216, 1217, 1218, 1219, 1220, 1221, 1222, 1223, 1224, 1225, 1226, 1227, 1228, 1229, 1230, 1231, 1232, 1233, 1234, 1235, 1236, 1237, 1238] (by decide +kernel) (by decide +kernel)
set_option maxRecDepth 20000 in
theorem gL_law_X9_answer : GoodIn wsL_law (wsV RL 108 RX9 yX9_answer wsX9_answer) := goodIn_app (goodIn_of _ (by decide +kernel)) ggL_law_X9_answer
set_option maxRecDepth 20000 in
theorem ggL_law_X8_plucks : GoodIn wsL_law wsX8_plucks := goodIn_r _ [992, 15, 32, 249, 246, 247, 14, 248, 48, 45, 993, 994, 995, 31, 996, 83, 258, 259, 260, 261, 262, 263, 264, 265, 266, 267, 268, 85, 269, 270, 271, 272, 273, 274, 275, 276, 277, 278, 279, 82, 280, 281, 282, 87, 283, 94, 284, 285, 286, 287, 288, 289, 290, 291, 95, 292, 293, 294, 295, 296, 297, 298, 299, 96, 93, 300, 301, 302, 303, 304, 305, 306, 307, 84, 308, 309, 310, 311, 312, 313, 314, 315, 316, 317, 318, 1178, 1179, 1180, 1181, 1182, 1183, 1184, 1185, 1239, 1240, 1241, 1242, 1243, 1244, 1245, 1246, 1247, 1248, 1249, 1250, 1251, 1262, 1263, 1264, 1265, 1286, 1287, 1288, 1289, 1290, 1291] (by decide +kernel) (by decide +kernel)
set_option maxRecDepth 20000 in
theorem gL_law_X8_plucks : GoodIn wsL_law (wsV RL 109 RX8 yX8_plucks wsX8_plucks) := goodIn_app (goodIn_of _ (by decide +kernel)) ggL_law_X8_plucks
set_option maxRecDepth 20000 in
theorem ggL_law_X9_plucks : GoodIn wsL_law wsX9_plucks := goodIn_r _ [1000, 336, 337, 338, 5, 339, 129, 185, 186, 187, 340, 341, 342, 343, 926, 927, 928, 929, 154, 351, 352, 353, 354, 135, 136, 137, 355, 356, 357, 358, 359, 360, 361, 362, 141, 155, 142, 363, 364, 365, 366, 367, 368, 369, 370, 1186, 1187, 1188, 1189, 1190, 1191, 1192, 1193, 1194, 1195, 1196, 1197, 1198, 1199, 1200, 1201, 1202, 1203, 1204, 1205, 1206, 1207, 1208, 1209, 1210, 1211, 1212, 1213, 1214, 1215, 1216, 1217, 1218, 1219, 1220, 1221, 1222, 1223, 1224, 1225, 1226, 1227, 1228, 1229, 1230, 1231, 1232, 1233, 1234, 1235, 1236, 1237, 1238] (by decide +kernel) (by decide +kernel)
set_option maxRecDepth 20000 in
theorem gL_law_X9_plucks : GoodIn wsL_law (wsV RL 112 RX9 yX9_plucks wsX9_plucks) := goodIn_app (goodIn_of _ (by decide +kernel)) ggL_law_X9_plucks
set_option maxRecDepth 20000 in
theorem ggL_law_X8_odds : GoodIn wsL_law wsX8_odds := goodIn_r _ [1004, 1005, 36, 15, 440, 32, 1006, 1007, 238, 239, 2, 240, 942, 943, 944, 945, 249, 246, 247, 14, 248, 48, 45, 946, 947, 948, 949, 914, 915, 916, 31, 917, 258, 259, 260, 261, 83, 262, 263, 264, 265, 266, 267, 268, 85, 269, 270, 271, 272, 273, 274, 275, 276, 277, 278, 279, 82, 280, 281, 282, 87, 283, 94, 284, 285, 286, 287, 288, 289, 290, 291, 95, 292, 293, 294, 295, 296, 297, 298, 299, 96, 93, 300, 301, 302, 303, 304, 305, 306, 307, 84, 308, 309, 310, 311, 312, 313, 314, 315, 316, 317, 318, 950, 951, 952, 1008, 1009, 1010, 35, 1011, 100, 101, 103, 1012, 1013, 1014, 1015, 104, 1016, 324, 325, 326, 1017, 1018, 1019, 1020, 446, 447, 448, 449, 450, 451, 452, 453, 397, 398, 399, 49, 46, 1021, 1022, 1023, 1024, 1025, 1026, 1027, 1028, 1178, 1179, 1180, 1181, 1182, 1183, 1184, 1185, 1239, 1240, 1241, 1242, 1243, 1244, 1245, 1246, 1247, 1248, 1249, 1250, 1251, 1266, 1267, 1268, 1269, 1262, 1263, 1264, 1265, 1286, 1287, 1288, 1289, 1290, 1291] (by decide +kernel) (by decide +kernel)
set_option maxRecDepth 20000 in
theorem gL_law_X8_odds : GoodIn wsL_law (wsV RL 113 RX8 yX8_odds wsX8_odds) := goodIn_app (goodIn_of _ (by decide +kernel)) ggL_law_X8_odds
set_option maxRecDepth 20000 in
theorem ggL_law_X9_odds : GoodIn wsL_law wsX9_odds := goodIn_r _ [1032, 1033, 129, 1034, 957, 958, 5, 959, 185, 186, 187, 960, 961, 962, 963, 964, 965, 966, 967, 340, 341, 342, 343, 922, 923, 924, 925, 926, 927, 928, 929, 154, 351, 352, 353, 354, 135, 136, 137, 355, 356, 357, 358, 359, 360, 361, 362, 141, 155, 142, 363, 364, 365, 366, 367, 368, 369, 370, 968, 969, 970, 1035, 1036, 1037, 1038, 156, 489, 490, 491, 492, 493, 494, 495, 496, 371, 372, 373, 1039, 1040, 1041, 1042, 157, 1043, 1044, 1045, 1046, 1047, 1186, 1187, 1188, 1189, 1190, 1191, 1192, 1193, 1194, 1195, 1196, 1197, 1198, 1199, 1200, 1201, 1202, 1203, 1204, 1205, 1206, 1207, 1208, 1209, 1210, 1211, 1212, 1213, 1214, 1215, 1216, 1217, 1218, 1219, 1220, 1221, 1222, 1223, 1224, 1225, 1226, 1227, 1228, 1229, 1230, 1231, 1232, 1233, 1234, 1235, 1236, 1237, 1238] (by decide +kernel) (by decide +kernel)
set_option maxRecDepth 20000 in
theorem gL_law_X9_odds : GoodIn wsL_law (wsV RL 117 RX9 yX9_odds wsX9_odds) := goodIn_app (goodIn_of _ (by decide +kernel)) ggL_law_X9_odds
set_option maxRecDepth 20000 in
theorem ggL_law_X8_plan : GoodIn wsL_law wsX8_plan := goodIn_r _ [1051, 15, 40, 32, 238, 239, 2, 240, 913, 201, 202, 14, 203, 48, 1052, 1053, 1054, 39, 1055, 119, 118, 121, 1056, 1057, 270, 271, 272, 120, 111, 117, 1058, 1059, 392, 393, 394, 395, 242, 243, 244, 245, 246, 247, 248, 45, 1060, 1061, 1062, 1063, 1064, 108, 109, 1065, 1066, 274, 275, 1067, 255, 256, 31, 257, 83, 258, 259, 260, 261, 262, 263, 1068, 265, 266, 267, 268, 85, 269, 273, 276, 277, 278, 279, 82, 280, 281, 282, 87, 283, 94, 284, 285, 286, 287, 288, 289, 290, 291, 95, 292, 293, 294, 295, 296, 297, 298, 299, 96, 93, 300, 301, 302, 303, 304, 305, 306, 307, 84, 308, 309, 310, 311, 312, 313, 314, 315, 316, 317, 318, 1069, 1070, 1071, 1072, 397, 398, 399, 49, 46, 1073, 450, 451, 452, 453, 1074, 1075, 1076, 1077, 112, 1078, 1079, 1080, 1081, 122, 1082, 1083, 113, 114, 1084, 1085, 1086, 1087, 1088, 1089, 1090, 1091, 1092, 1093, 1094, 1095, 123, 1096, 1097, 1098, 1099, 1100, 1101, 1102, 1103, 124, 1104, 1105, 1106, 1107, 115, 116, 1108, 1109, 1110, 1111, 1178, 1179, 1180, 1181, 1182, 1183, 1184, 1185, 1239, 1240, 1241, 1242, 1243, 1244, 1245, 1246, 1247, 1248, 1249, 1250, 1251, 1270, 1271, 1272, 1273, 1274, 1275, 1276, 1277, 1278, 1279, 1280, 1281, 1282, 1283, 1284, 1285, 1262, 1263, 1264, 1265, 1286, 1287, 1288, 1289, 1290, 1291] (by decide +kernel) (by decide +kernel)
set_option maxRecDepth 20000 in
theorem gL_law_X8_plan : GoodIn wsL_law (wsV RL 118 RX8 yX8_plan wsX8_plan) := goodIn_app (goodIn_of _ (by decide +kernel)) ggL_law_X8_plan
set_option maxRecDepth 20000 in
theorem ggL_law_X9_plan : GoodIn wsL_law wsX9_plan := goodIn_r _ [1115, 164, 165, 957, 958, 5, 959, 185, 186, 187, 336, 337, 338, 339, 129, 1116, 1117, 1118, 1119, 1120, 161, 158, 159, 160, 332, 333, 334, 335, 340, 341, 342, 343, 493, 494, 495, 496, 154, 351, 352, 353, 354, 135, 136, 137, 355, 356, 357, 358, 359, 360, 361, 362, 141, 155, 142, 363, 364, 365, 366, 367, 368, 369, 370, 371, 372, 373, 926, 927, 928, 929, 1121, 1122, 1123, 1124, 1033, 1125, 162, 1126, 1127, 1128, 1129, 163, 1130, 1131, 1132, 1133, 1034, 1035, 1036, 1037, 1038, 156, 1039, 1040, 1041, 1042, 157, 1043, 968, 969, 970, 1044, 1045, 1046, 1047, 1186, 1187, 1188, 1189, 1190, 1191, 1192, 1193, 1194, 1195, 1196, 1197, 1198, 1199, 1200, 1201, 1202, 1203, 1204, 1205, 1206, 1207, 1208, 1209, 1210, 1211, 1212, 1213, 1214, 1215, 1216, 1217, 1218, 1219, 1220, 1221, 1222, 1223, 1224, 1225, 1226, 1227, 1228, 1229, 1230, 1231, 1232, 1233, 1234, 1235, 1236, 1237, 1238] (by decide +kernel) (by decide +kernel)
set_option maxRecDepth 20000 in
theorem gL_law_X9_plan : GoodIn wsL_law (wsV RL 121 RX9 yX9_plan wsX9_plan) := goodIn_app (goodIn_of _ (by decide +kernel)) ggL_law_X9_plan
set_option maxRecDepth 20000 in
theorem ggL_law_X8_holds : GoodIn wsL_law wsX8_holds := goodIn_r _ [1137, 15, 216, 1138, 270, 271, 272, 1139, 468, 469, 14, 470, 51, 471, 472, 473, 474, 48, 245, 246, 247, 248, 45, 1178, 1179, 1180, 1181, 1182, 1183, 1184, 1185, 1239, 1240, 1241, 1242, 1243, 1244, 1245, 1246, 1247, 1248, 1249, 1250, 1251] (by decide +kernel) (by decide +kernel)
set_option maxRecDepth 20000 in
theorem gL_law_X8_holds : GoodIn wsL_law (wsV RL 122 RX8 yX8_holds wsX8_holds) := goodIn_app (goodIn_of _ (by decide +kernel)) ggL_law_X8_holds
set_option maxRecDepth 20000 in
theorem ggL_law_X9_holds : GoodIn wsL_law wsX9_holds := goodIn_r _ [1143, 129, 501, 502, 503, 5, 504, 340, 341, 342, 343, 1186, 1187, 1188, 1189, 1190, 1191, 1192, 1193, 1194, 1195, 1196, 1197, 1198, 1199, 1200, 1201, 1202, 1203, 1204, 1205, 1206, 1207, 1208, 1209, 1210, 1211, 1212, 1213, 1214, 1215, 1216, 1217, 1218, 1219, 1220, 1221, 1222, 1223, 1224, 1225, 1226, 1227, 1228, 1229, 1230, 1231, 1232, 1233, 1234, 1235, 1236, 1237, 1238] (by decide +kernel) (by decide +kernel)
set_option maxRecDepth 20000 in
theorem gL_law_X9_holds : GoodIn wsL_law (wsV RL 125 RX9 yX9_holds wsX9_holds) := goodIn_app (goodIn_of _ (by decide +kernel)) ggL_law_X9_holds
set_option maxRecDepth 20000 in
theorem ggL_law_X8_image : GoodIn wsL_law wsX8_image := goodIn_r _ [1147, 16, 15, 386, 1148, 1149, 1150, 14, 1151, 45, 323, 324, 325, 326, 46, 47, 48, 49, 50, 51, 52, 53, 54, 55, 56, 57, 1178, 1179, 1180, 1181, 1182, 1183, 1184, 1185, 1239, 1240, 1241, 1242, 1243, 1244, 1245, 1246, 1247, 1248, 1249, 1250, 1251] (by decide +kernel) (by decide +kernel)
set_option maxRecDepth 20000 in
theorem gL_law_X8_image : GoodIn wsL_law (wsV RL 126 RX8 yX8_image wsX8_image) := goodIn_app (goodIn_of _ (by decide +kernel)) ggL_law_X8_image
set_option maxRecDepth 20000 in
theorem ggL_law_X9_image : GoodIn wsL_law wsX9_image := goodIn_r _ [1155, 129, 166, 167, 168, 5, 169, 130, 1186, 1187, 1188, 1189, 1190, 1191, 1192, 1193, 1194, 1195, 1196, 1197, 1198, 1199, 1200, 1201, 1202, 1203, 1204, 1205, 1206, 1207, 1208, 1209, 1210, 1211, 1212, 1213, 1214, 1215, 1216, 1217, 1218, 1219, 1220, 1221, 1222, 1223, 1224, 1225, 1226, 1227, 1228, 1229, 1230, 1231, 1232, 1233, 1234, 1235, 1236, 1237, 1238] (by decide +kernel) (by decide +kernel)
set_option maxRecDepth 20000 in
theorem gL_law_X9_image : GoodIn wsL_law (wsV RL 129 RX9 yX9_image wsX9_image) := goodIn_app (goodIn_of _ (by decide +kernel)) ggL_law_X9_image
set_option maxRecDepth 20000 in
theorem ggL_law_X8_back : GoodIn wsL_law wsX8_back := goodIn_r _ [1159, 15, 16, 386, 1148, 1149, 1150, 14, 1151, 45, 323, 324, 325, 326, 46, 47, 48, 49, 50, 51, 52, 53, 54, 55, 56, 57, 1178, 1179, 1180, 1181, 1182, 1183, 1184, 1185, 1239, 1240, 1241, 1242, 1243, 1244, 1245, 1246, 1247, 1248, 1249, 1250, 1251] (by decide +kernel) (by decide +kernel)
set_option maxRecDepth 20000 in
theorem gL_law_X8_back : GoodIn wsL_law (wsV RL 130 RX8 yX8_back wsX8_back) := goodIn_app (goodIn_of _ (by decide +kernel)) ggL_law_X8_back
set_option maxRecDepth 20000 in
theorem ggL_law_X9_back : GoodIn wsL_law wsX9_back := goodIn_r _ [1163, 129, 166, 167, 168, 5, 169, 130, 1186, 1187, 1188, 1189, 1190, 1191, 1192, 1193, 1194, 1195, 1196, 1197, 1198, 1199, 1200, 1201, 1202, 1203, 1204, 1205, 1206, 1207, 1208, 1209, 1210, 1211, 1212, 1213, 1214, 1215, 1216, 1217, 1218, 1219, 1220, 1221, 1222, 1223, 1224, 1225, 1226, 1227, 1228, 1229, 1230, 1231, 1232, 1233, 1234, 1235, 1236, 1237, 1238] (by decide +kernel) (by decide +kernel)
set_option maxRecDepth 20000 in
theorem gL_law_X9_back : GoodIn wsL_law (wsV RL 133 RX9 yX9_back wsX9_back) := goodIn_app (goodIn_of _ (by decide +kernel)) ggL_law_X9_back
set_option maxRecDepth 20000 in
theorem ggL_law_X8_about : GoodIn wsL_law wsX8_about := goodIn_r _ [1167, 15, 1168, 440, 216, 217, 386, 226, 535, 868, 898, 20, 509, 1169, 1170, 1171, 2, 1172, 1173, 472, 473, 14, 474, 48, 245, 246, 247, 248, 45, 396, 397, 398, 399, 49, 46, 1178, 1179, 1180, 1181, 1182, 1183, 1184, 1185, 1239, 1240, 1241, 1242, 1243, 1244, 1245, 1246, 1247, 1248, 1249, 1250, 1251, 1252, 1253] (by decide +kernel) (by decide +kernel)
set_option maxRecDepth 20000 in
theorem gL_law_X8_about : GoodIn wsL_law (wsV RL 134 RX8 yX8_about wsX8_about) := goodIn_app (goodIn_of _ (by decide +kernel)) ggL_law_X8_about
set_option maxRecDepth 20000 in
theorem ggL_law_X9_about : GoodIn wsL_law wsX9_about := goodIn_r _ [1177, 129, 518, 404, 405, 406, 5, 407, 185, 186, 187, 501, 502, 503, 504, 340, 341, 342, 343, 1186, 1187, 1188, 1189, 1190, 1191, 1192, 1193, 1194, 1195, 1196, 1197, 1198, 1199, 1200, 1201, 1202, 1203, 1204, 1205, 1206, 1207, 1208, 1209, 1210, 1211, 1212, 1213, 1214, 1215, 1216, 1217, 1218, 1219, 1220, 1221, 1222, 1223, 1224, 1225, 1226, 1227, 1228, 1229, 1230, 1231, 1232, 1233, 1234, 1235, 1236, 1237, 1238] (by decide +kernel) (by decide +kernel)
set_option maxRecDepth 20000 in
theorem gL_law_X9_about : GoodIn wsL_law (wsV RL 137 RX9 yX9_about wsX9_about) := goodIn_app (goodIn_of _ (by decide +kernel)) ggL_law_X9_about
theorem dL_law_0 : decode cL_law 0 = .ok (.new 7, 3) := by decide +kernel
theorem dL_law_3 : decode cL_law 3 = .ok (.dup, 1) := by decide +kernel
theorem dL_law_4 : decode cL_law 4 = .ok (.invokespecial 9, 3) := by decide +kernel
theorem dL_law_7 : decode cL_law 7 = .ok (.astore_n 1, 1) := by decide +kernel
theorem dL_law_8 : decode cL_law 8 = .ok (.new 10, 3) := by decide +kernel
theorem dL_law_11 : decode cL_law 11 = .ok (.dup, 1) := by decide +kernel
theorem dL_law_12 : decode cL_law 12 = .ok (.invokespecial 12, 3) := by decide +kernel
theorem dL_law_15 : decode cL_law 15 = .ok (.astore_n 2, 1) := by decide +kernel
theorem dL_law_16 : decode cL_law 16 = .ok (.iconst 0, 1) := by decide +kernel
theorem dL_law_17 : decode cL_law 17 = .ok (.istore_n 3, 1) := by decide +kernel
theorem dL_law_18 : decode cL_law 18 = .ok (.iload_n 3, 1) := by decide +kernel
theorem dL_law_19 : decode cL_law 19 = .ok (.aload_n 0, 1) := by decide +kernel
theorem dL_law_20 : decode cL_law 20 = .ok (.arraylength, 1) := by decide +kernel
theorem dL_law_21 : decode cL_law 21 = .ok (.bipush 6, 2) := by decide +kernel
theorem dL_law_23 : decode cL_law 23 = .ok (.isub, 1) := by decide +kernel
theorem dL_law_24 : decode cL_law 24 = .ok (.if_icmp .gt 996, 3) := by decide +kernel
theorem dL_law_27 : decode cL_law 27 = .ok (.aload_n 0, 1) := by decide +kernel
theorem dL_law_28 : decode cL_law 28 = .ok (.iload_n 3, 1) := by decide +kernel
theorem dL_law_29 : decode cL_law 29 = .ok (.iaload, 1) := by decide +kernel
theorem dL_law_30 : decode cL_law 30 = .ok (.bipush 31, 2) := by decide +kernel
theorem dL_law_32 : decode cL_law 32 = .ok (.iand, 1) := by decide +kernel
theorem dL_law_33 : decode cL_law 33 = .ok (.tableswitch 981 0 28 #[131, 174, 207, 240, 263, 306, 339, 362, 385, 408, 431, 494, 517, 530, 553, 576, 599, 612, 645, 688, 721, 770, 793, 816, 876, 919, 932, 945, 958], 131) := by decide +kernel
theorem dL_law_164 : decode cL_law 164 = .ok (.aload_n 1, 1) := by decide +kernel
theorem dL_law_165 : decode cL_law 165 = .ok (.aload_n 0, 1) := by decide +kernel
theorem dL_law_166 : decode cL_law 166 = .ok (.iload_n 3, 1) := by decide +kernel
theorem dL_law_167 : decode cL_law 167 = .ok (.iconst 1, 1) := by decide +kernel
theorem dL_law_168 : decode cL_law 168 = .ok (.iadd, 1) := by decide +kernel
theorem dL_law_169 : decode cL_law 169 = .ok (.iaload, 1) := by decide +kernel
theorem dL_law_170 : decode cL_law 170 = .ok (.aload_n 0, 1) := by decide +kernel
theorem dL_law_171 : decode cL_law 171 = .ok (.iload_n 3, 1) := by decide +kernel
theorem dL_law_172 : decode cL_law 172 = .ok (.iconst 2, 1) := by decide +kernel
theorem dL_law_173 : decode cL_law 173 = .ok (.iadd, 1) := by decide +kernel
theorem dL_law_174 : decode cL_law 174 = .ok (.iaload, 1) := by decide +kernel
theorem dL_law_175 : decode cL_law 175 = .ok (.aload_n 0, 1) := by decide +kernel
theorem dL_law_176 : decode cL_law 176 = .ok (.iload_n 3, 1) := by decide +kernel
theorem dL_law_177 : decode cL_law 177 = .ok (.iconst 3, 1) := by decide +kernel
theorem dL_law_178 : decode cL_law 178 = .ok (.iadd, 1) := by decide +kernel
theorem dL_law_179 : decode cL_law 179 = .ok (.iaload, 1) := by decide +kernel
theorem dL_law_180 : decode cL_law 180 = .ok (.invokevirtual 13, 3) := by decide +kernel
theorem dL_law_183 : decode cL_law 183 = .ok (.aload_n 2, 1) := by decide +kernel
theorem dL_law_184 : decode cL_law 184 = .ok (.aload_n 0, 1) := by decide +kernel
theorem dL_law_185 : decode cL_law 185 = .ok (.iload_n 3, 1) := by decide +kernel
theorem dL_law_186 : decode cL_law 186 = .ok (.iconst 1, 1) := by decide +kernel
theorem dL_law_187 : decode cL_law 187 = .ok (.iadd, 1) := by decide +kernel
theorem dL_law_188 : decode cL_law 188 = .ok (.iaload, 1) := by decide +kernel
theorem dL_law_189 : decode cL_law 189 = .ok (.aload_n 0, 1) := by decide +kernel
theorem dL_law_190 : decode cL_law 190 = .ok (.iload_n 3, 1) := by decide +kernel
theorem dL_law_191 : decode cL_law 191 = .ok (.iconst 2, 1) := by decide +kernel
theorem dL_law_192 : decode cL_law 192 = .ok (.iadd, 1) := by decide +kernel
theorem dL_law_193 : decode cL_law 193 = .ok (.iaload, 1) := by decide +kernel
theorem dL_law_194 : decode cL_law 194 = .ok (.aload_n 0, 1) := by decide +kernel
theorem dL_law_195 : decode cL_law 195 = .ok (.iload_n 3, 1) := by decide +kernel
theorem dL_law_196 : decode cL_law 196 = .ok (.iconst 3, 1) := by decide +kernel
theorem dL_law_197 : decode cL_law 197 = .ok (.iadd, 1) := by decide +kernel
theorem dL_law_198 : decode cL_law 198 = .ok (.iaload, 1) := by decide +kernel
theorem dL_law_199 : decode cL_law 199 = .ok (.invokevirtual 17, 3) := by decide +kernel
theorem dL_law_202 : decode cL_law 202 = .ok (.if_icmp .eq 812, 3) := by decide +kernel
theorem dL_law_205 : decode cL_law 205 = .ok (.iconst 0, 1) := by decide +kernel
theorem dL_law_206 : decode cL_law 206 = .ok (.ireturn, 1) := by decide +kernel
theorem dL_law_207 : decode cL_law 207 = .ok (.aload_n 1, 1) := by decide +kernel
theorem dL_law_208 : decode cL_law 208 = .ok (.aload_n 0, 1) := by decide +kernel
theorem dL_law_209 : decode cL_law 209 = .ok (.iload_n 3, 1) := by decide +kernel
theorem dL_law_210 : decode cL_law 210 = .ok (.iconst 1, 1) := by decide +kernel
theorem dL_law_211 : decode cL_law 211 = .ok (.iadd, 1) := by decide +kernel
theorem dL_law_212 : decode cL_law 212 = .ok (.iaload, 1) := by decide +kernel
theorem dL_law_213 : decode cL_law 213 = .ok (.aload_n 0, 1) := by decide +kernel
theorem dL_law_214 : decode cL_law 214 = .ok (.iload_n 3, 1) := by decide +kernel
theorem dL_law_215 : decode cL_law 215 = .ok (.iconst 2, 1) := by decide +kernel
theorem dL_law_216 : decode cL_law 216 = .ok (.iadd, 1) := by decide +kernel
theorem dL_law_217 : decode cL_law 217 = .ok (.iaload, 1) := by decide +kernel
theorem dL_law_218 : decode cL_law 218 = .ok (.invokevirtual 18, 3) := by decide +kernel
theorem dL_law_221 : decode cL_law 221 = .ok (.aload_n 2, 1) := by decide +kernel
theorem dL_law_222 : decode cL_law 222 = .ok (.aload_n 0, 1) := by decide +kernel
theorem dL_law_223 : decode cL_law 223 = .ok (.iload_n 3, 1) := by decide +kernel
theorem dL_law_224 : decode cL_law 224 = .ok (.iconst 1, 1) := by decide +kernel
theorem dL_law_225 : decode cL_law 225 = .ok (.iadd, 1) := by decide +kernel
theorem dL_law_226 : decode cL_law 226 = .ok (.iaload, 1) := by decide +kernel
theorem dL_law_227 : decode cL_law 227 = .ok (.aload_n 0, 1) := by decide +kernel
theorem dL_law_228 : decode cL_law 228 = .ok (.iload_n 3, 1) := by decide +kernel
theorem dL_law_229 : decode cL_law 229 = .ok (.iconst 2, 1) := by decide +kernel
theorem dL_law_230 : decode cL_law 230 = .ok (.iadd, 1) := by decide +kernel
theorem dL_law_231 : decode cL_law 231 = .ok (.iaload, 1) := by decide +kernel
theorem dL_law_232 : decode cL_law 232 = .ok (.invokevirtual 22, 3) := by decide +kernel
theorem dL_law_235 : decode cL_law 235 = .ok (.if_icmp .eq 779, 3) := by decide +kernel
theorem dL_law_238 : decode cL_law 238 = .ok (.iconst 0, 1) := by decide +kernel
theorem dL_law_239 : decode cL_law 239 = .ok (.ireturn, 1) := by decide +kernel
theorem dL_law_240 : decode cL_law 240 = .ok (.aload_n 1, 1) := by decide +kernel
theorem dL_law_241 : decode cL_law 241 = .ok (.aload_n 0, 1) := by decide +kernel
theorem dL_law_242 : decode cL_law 242 = .ok (.iload_n 3, 1) := by decide +kernel
theorem dL_law_243 : decode cL_law 243 = .ok (.iconst 1, 1) := by decide +kernel
theorem dL_law_244 : decode cL_law 244 = .ok (.iadd, 1) := by decide +kernel
theorem dL_law_245 : decode cL_law 245 = .ok (.iaload, 1) := by decide +kernel
theorem dL_law_246 : decode cL_law 246 = .ok (.aload_n 0, 1) := by decide +kernel
theorem dL_law_247 : decode cL_law 247 = .ok (.iload_n 3, 1) := by decide +kernel
theorem dL_law_248 : decode cL_law 248 = .ok (.iconst 2, 1) := by decide +kernel
theorem dL_law_249 : decode cL_law 249 = .ok (.iadd, 1) := by decide +kernel
theorem dL_law_250 : decode cL_law 250 = .ok (.iaload, 1) := by decide +kernel
theorem dL_law_251 : decode cL_law 251 = .ok (.invokevirtual 23, 3) := by decide +kernel
theorem dL_law_254 : decode cL_law 254 = .ok (.aload_n 2, 1) := by decide +kernel
theorem dL_law_255 : decode cL_law 255 = .ok (.aload_n 0, 1) := by decide +kernel
theorem dL_law_256 : decode cL_law 256 = .ok (.iload_n 3, 1) := by decide +kernel
theorem dL_law_257 : decode cL_law 257 = .ok (.iconst 1, 1) := by decide +kernel
theorem dL_law_258 : decode cL_law 258 = .ok (.iadd, 1) := by decide +kernel
theorem dL_law_259 : decode cL_law 259 = .ok (.iaload, 1) := by decide +kernel
theorem dL_law_260 : decode cL_law 260 = .ok (.aload_n 0, 1) := by decide +kernel
theorem dL_law_261 : decode cL_law 261 = .ok (.iload_n 3, 1) := by decide +kernel
theorem dL_law_262 : decode cL_law 262 = .ok (.iconst 2, 1) := by decide +kernel
theorem dL_law_263 : decode cL_law 263 = .ok (.iadd, 1) := by decide +kernel
theorem dL_law_264 : decode cL_law 264 = .ok (.iaload, 1) := by decide +kernel
theorem dL_law_265 : decode cL_law 265 = .ok (.invokevirtual 27, 3) := by decide +kernel
theorem dL_law_268 : decode cL_law 268 = .ok (.if_icmp .eq 746, 3) := by decide +kernel
theorem dL_law_271 : decode cL_law 271 = .ok (.iconst 0, 1) := by decide +kernel
theorem dL_law_272 : decode cL_law 272 = .ok (.ireturn, 1) := by decide +kernel
theorem dL_law_273 : decode cL_law 273 = .ok (.aload_n 1, 1) := by decide +kernel
theorem dL_law_274 : decode cL_law 274 = .ok (.aload_n 0, 1) := by decide +kernel
theorem dL_law_275 : decode cL_law 275 = .ok (.iload_n 3, 1) := by decide +kernel
theorem dL_law_276 : decode cL_law 276 = .ok (.iconst 1, 1) := by decide +kernel
theorem dL_law_277 : decode cL_law 277 = .ok (.iadd, 1) := by decide +kernel
theorem dL_law_278 : decode cL_law 278 = .ok (.iaload, 1) := by decide +kernel
theorem dL_law_279 : decode cL_law 279 = .ok (.invokevirtual 28, 3) := by decide +kernel
theorem dL_law_282 : decode cL_law 282 = .ok (.aload_n 2, 1) := by decide +kernel
theorem dL_law_283 : decode cL_law 283 = .ok (.aload_n 0, 1) := by decide +kernel
theorem dL_law_284 : decode cL_law 284 = .ok (.iload_n 3, 1) := by decide +kernel
theorem dL_law_285 : decode cL_law 285 = .ok (.iconst 1, 1) := by decide +kernel
theorem dL_law_286 : decode cL_law 286 = .ok (.iadd, 1) := by decide +kernel
theorem dL_law_287 : decode cL_law 287 = .ok (.iaload, 1) := by decide +kernel
theorem dL_law_288 : decode cL_law 288 = .ok (.invokevirtual 32, 3) := by decide +kernel
theorem dL_law_291 : decode cL_law 291 = .ok (.if_icmp .eq 723, 3) := by decide +kernel
theorem dL_law_294 : decode cL_law 294 = .ok (.iconst 0, 1) := by decide +kernel
theorem dL_law_295 : decode cL_law 295 = .ok (.ireturn, 1) := by decide +kernel
theorem dL_law_296 : decode cL_law 296 = .ok (.aload_n 1, 1) := by decide +kernel
theorem dL_law_297 : decode cL_law 297 = .ok (.aload_n 0, 1) := by decide +kernel
theorem dL_law_298 : decode cL_law 298 = .ok (.iload_n 3, 1) := by decide +kernel
theorem dL_law_299 : decode cL_law 299 = .ok (.iconst 1, 1) := by decide +kernel
theorem dL_law_300 : decode cL_law 300 = .ok (.iadd, 1) := by decide +kernel
theorem dL_law_301 : decode cL_law 301 = .ok (.iaload, 1) := by decide +kernel
theorem dL_law_302 : decode cL_law 302 = .ok (.aload_n 0, 1) := by decide +kernel
theorem dL_law_303 : decode cL_law 303 = .ok (.iload_n 3, 1) := by decide +kernel
theorem dL_law_304 : decode cL_law 304 = .ok (.iconst 2, 1) := by decide +kernel
theorem dL_law_305 : decode cL_law 305 = .ok (.iadd, 1) := by decide +kernel
theorem dL_law_306 : decode cL_law 306 = .ok (.iaload, 1) := by decide +kernel
theorem dL_law_307 : decode cL_law 307 = .ok (.aload_n 0, 1) := by decide +kernel
theorem dL_law_308 : decode cL_law 308 = .ok (.iload_n 3, 1) := by decide +kernel
theorem dL_law_309 : decode cL_law 309 = .ok (.iconst 3, 1) := by decide +kernel
theorem dL_law_310 : decode cL_law 310 = .ok (.iadd, 1) := by decide +kernel
theorem dL_law_311 : decode cL_law 311 = .ok (.iaload, 1) := by decide +kernel
theorem dL_law_312 : decode cL_law 312 = .ok (.invokevirtual 33, 3) := by decide +kernel
theorem dL_law_315 : decode cL_law 315 = .ok (.aload_n 2, 1) := by decide +kernel
theorem dL_law_316 : decode cL_law 316 = .ok (.aload_n 0, 1) := by decide +kernel
theorem dL_law_317 : decode cL_law 317 = .ok (.iload_n 3, 1) := by decide +kernel
theorem dL_law_318 : decode cL_law 318 = .ok (.iconst 1, 1) := by decide +kernel
theorem dL_law_319 : decode cL_law 319 = .ok (.iadd, 1) := by decide +kernel
theorem dL_law_320 : decode cL_law 320 = .ok (.iaload, 1) := by decide +kernel
theorem dL_law_321 : decode cL_law 321 = .ok (.aload_n 0, 1) := by decide +kernel
theorem dL_law_322 : decode cL_law 322 = .ok (.iload_n 3, 1) := by decide +kernel
theorem dL_law_323 : decode cL_law 323 = .ok (.iconst 2, 1) := by decide +kernel
theorem dL_law_324 : decode cL_law 324 = .ok (.iadd, 1) := by decide +kernel
theorem dL_law_325 : decode cL_law 325 = .ok (.iaload, 1) := by decide +kernel
theorem dL_law_326 : decode cL_law 326 = .ok (.aload_n 0, 1) := by decide +kernel
theorem dL_law_327 : decode cL_law 327 = .ok (.iload_n 3, 1) := by decide +kernel
theorem dL_law_328 : decode cL_law 328 = .ok (.iconst 3, 1) := by decide +kernel
theorem dL_law_329 : decode cL_law 329 = .ok (.iadd, 1) := by decide +kernel
theorem dL_law_330 : decode cL_law 330 = .ok (.iaload, 1) := by decide +kernel
theorem dL_law_331 : decode cL_law 331 = .ok (.invokevirtual 36, 3) := by decide +kernel
theorem dL_law_334 : decode cL_law 334 = .ok (.if_icmp .eq 680, 3) := by decide +kernel
theorem dL_law_337 : decode cL_law 337 = .ok (.iconst 0, 1) := by decide +kernel
theorem dL_law_338 : decode cL_law 338 = .ok (.ireturn, 1) := by decide +kernel
theorem dL_law_339 : decode cL_law 339 = .ok (.aload_n 1, 1) := by decide +kernel
theorem dL_law_340 : decode cL_law 340 = .ok (.aload_n 0, 1) := by decide +kernel
theorem dL_law_341 : decode cL_law 341 = .ok (.iload_n 3, 1) := by decide +kernel
theorem dL_law_342 : decode cL_law 342 = .ok (.iconst 1, 1) := by decide +kernel
theorem dL_law_343 : decode cL_law 343 = .ok (.iadd, 1) := by decide +kernel
theorem dL_law_344 : decode cL_law 344 = .ok (.iaload, 1) := by decide +kernel
theorem dL_law_345 : decode cL_law 345 = .ok (.aload_n 0, 1) := by decide +kernel
theorem dL_law_346 : decode cL_law 346 = .ok (.iload_n 3, 1) := by decide +kernel
theorem dL_law_347 : decode cL_law 347 = .ok (.iconst 2, 1) := by decide +kernel
theorem dL_law_348 : decode cL_law 348 = .ok (.iadd, 1) := by decide +kernel
theorem dL_law_349 : decode cL_law 349 = .ok (.iaload, 1) := by decide +kernel
theorem dL_law_350 : decode cL_law 350 = .ok (.invokevirtual 37, 3) := by decide +kernel
theorem dL_law_353 : decode cL_law 353 = .ok (.aload_n 2, 1) := by decide +kernel
theorem dL_law_354 : decode cL_law 354 = .ok (.aload_n 0, 1) := by decide +kernel
theorem dL_law_355 : decode cL_law 355 = .ok (.iload_n 3, 1) := by decide +kernel
theorem dL_law_356 : decode cL_law 356 = .ok (.iconst 1, 1) := by decide +kernel
theorem dL_law_357 : decode cL_law 357 = .ok (.iadd, 1) := by decide +kernel
theorem dL_law_358 : decode cL_law 358 = .ok (.iaload, 1) := by decide +kernel
theorem dL_law_359 : decode cL_law 359 = .ok (.aload_n 0, 1) := by decide +kernel
theorem dL_law_360 : decode cL_law 360 = .ok (.iload_n 3, 1) := by decide +kernel
theorem dL_law_361 : decode cL_law 361 = .ok (.iconst 2, 1) := by decide +kernel
theorem dL_law_362 : decode cL_law 362 = .ok (.iadd, 1) := by decide +kernel
theorem dL_law_363 : decode cL_law 363 = .ok (.iaload, 1) := by decide +kernel
theorem dL_law_364 : decode cL_law 364 = .ok (.invokevirtual 40, 3) := by decide +kernel
theorem dL_law_367 : decode cL_law 367 = .ok (.if_icmp .eq 647, 3) := by decide +kernel
theorem dL_law_370 : decode cL_law 370 = .ok (.iconst 0, 1) := by decide +kernel
theorem dL_law_371 : decode cL_law 371 = .ok (.ireturn, 1) := by decide +kernel
theorem dL_law_372 : decode cL_law 372 = .ok (.aload_n 1, 1) := by decide +kernel
theorem dL_law_373 : decode cL_law 373 = .ok (.aload_n 0, 1) := by decide +kernel
theorem dL_law_374 : decode cL_law 374 = .ok (.iload_n 3, 1) := by decide +kernel
theorem dL_law_375 : decode cL_law 375 = .ok (.iconst 1, 1) := by decide +kernel
theorem dL_law_376 : decode cL_law 376 = .ok (.iadd, 1) := by decide +kernel
theorem dL_law_377 : decode cL_law 377 = .ok (.iaload, 1) := by decide +kernel
theorem dL_law_378 : decode cL_law 378 = .ok (.invokevirtual 41, 3) := by decide +kernel
theorem dL_law_381 : decode cL_law 381 = .ok (.aload_n 2, 1) := by decide +kernel
theorem dL_law_382 : decode cL_law 382 = .ok (.aload_n 0, 1) := by decide +kernel
theorem dL_law_383 : decode cL_law 383 = .ok (.iload_n 3, 1) := by decide +kernel
theorem dL_law_384 : decode cL_law 384 = .ok (.iconst 1, 1) := by decide +kernel
theorem dL_law_385 : decode cL_law 385 = .ok (.iadd, 1) := by decide +kernel
theorem dL_law_386 : decode cL_law 386 = .ok (.iaload, 1) := by decide +kernel
theorem dL_law_387 : decode cL_law 387 = .ok (.invokevirtual 45, 3) := by decide +kernel
theorem dL_law_390 : decode cL_law 390 = .ok (.if_icmp .eq 624, 3) := by decide +kernel
theorem dL_law_393 : decode cL_law 393 = .ok (.iconst 0, 1) := by decide +kernel
theorem dL_law_394 : decode cL_law 394 = .ok (.ireturn, 1) := by decide +kernel
theorem dL_law_395 : decode cL_law 395 = .ok (.aload_n 1, 1) := by decide +kernel
theorem dL_law_396 : decode cL_law 396 = .ok (.aload_n 0, 1) := by decide +kernel
theorem dL_law_397 : decode cL_law 397 = .ok (.iload_n 3, 1) := by decide +kernel
theorem dL_law_398 : decode cL_law 398 = .ok (.iconst 1, 1) := by decide +kernel
theorem dL_law_399 : decode cL_law 399 = .ok (.iadd, 1) := by decide +kernel
theorem dL_law_400 : decode cL_law 400 = .ok (.iaload, 1) := by decide +kernel
theorem dL_law_401 : decode cL_law 401 = .ok (.invokevirtual 46, 3) := by decide +kernel
theorem dL_law_404 : decode cL_law 404 = .ok (.aload_n 2, 1) := by decide +kernel
theorem dL_law_405 : decode cL_law 405 = .ok (.aload_n 0, 1) := by decide +kernel
theorem dL_law_406 : decode cL_law 406 = .ok (.iload_n 3, 1) := by decide +kernel
theorem dL_law_407 : decode cL_law 407 = .ok (.iconst 1, 1) := by decide +kernel
theorem dL_law_408 : decode cL_law 408 = .ok (.iadd, 1) := by decide +kernel
theorem dL_law_409 : decode cL_law 409 = .ok (.iaload, 1) := by decide +kernel
theorem dL_law_410 : decode cL_law 410 = .ok (.invokevirtual 49, 3) := by decide +kernel
theorem dL_law_413 : decode cL_law 413 = .ok (.if_icmp .eq 601, 3) := by decide +kernel
theorem dL_law_416 : decode cL_law 416 = .ok (.iconst 0, 1) := by decide +kernel
theorem dL_law_417 : decode cL_law 417 = .ok (.ireturn, 1) := by decide +kernel
theorem dL_law_418 : decode cL_law 418 = .ok (.aload_n 1, 1) := by decide +kernel
theorem dL_law_419 : decode cL_law 419 = .ok (.aload_n 0, 1) := by decide +kernel
theorem dL_law_420 : decode cL_law 420 = .ok (.iload_n 3, 1) := by decide +kernel
theorem dL_law_421 : decode cL_law 421 = .ok (.iconst 1, 1) := by decide +kernel
theorem dL_law_422 : decode cL_law 422 = .ok (.iadd, 1) := by decide +kernel
theorem dL_law_423 : decode cL_law 423 = .ok (.iaload, 1) := by decide +kernel
theorem dL_law_424 : decode cL_law 424 = .ok (.invokevirtual 50, 3) := by decide +kernel
theorem dL_law_427 : decode cL_law 427 = .ok (.aload_n 2, 1) := by decide +kernel
theorem dL_law_428 : decode cL_law 428 = .ok (.aload_n 0, 1) := by decide +kernel
theorem dL_law_429 : decode cL_law 429 = .ok (.iload_n 3, 1) := by decide +kernel
theorem dL_law_430 : decode cL_law 430 = .ok (.iconst 1, 1) := by decide +kernel
theorem dL_law_431 : decode cL_law 431 = .ok (.iadd, 1) := by decide +kernel
theorem dL_law_432 : decode cL_law 432 = .ok (.iaload, 1) := by decide +kernel
theorem dL_law_433 : decode cL_law 433 = .ok (.invokevirtual 53, 3) := by decide +kernel
theorem dL_law_436 : decode cL_law 436 = .ok (.if_icmp .eq 578, 3) := by decide +kernel
theorem dL_law_439 : decode cL_law 439 = .ok (.iconst 0, 1) := by decide +kernel
theorem dL_law_440 : decode cL_law 440 = .ok (.ireturn, 1) := by decide +kernel
theorem dL_law_441 : decode cL_law 441 = .ok (.aload_n 1, 1) := by decide +kernel
theorem dL_law_442 : decode cL_law 442 = .ok (.aload_n 0, 1) := by decide +kernel
theorem dL_law_443 : decode cL_law 443 = .ok (.iload_n 3, 1) := by decide +kernel
theorem dL_law_444 : decode cL_law 444 = .ok (.iconst 1, 1) := by decide +kernel
theorem dL_law_445 : decode cL_law 445 = .ok (.iadd, 1) := by decide +kernel
theorem dL_law_446 : decode cL_law 446 = .ok (.iaload, 1) := by decide +kernel
theorem dL_law_447 : decode cL_law 447 = .ok (.invokevirtual 54, 3) := by decide +kernel
theorem dL_law_450 : decode cL_law 450 = .ok (.aload_n 2, 1) := by decide +kernel
theorem dL_law_451 : decode cL_law 451 = .ok (.aload_n 0, 1) := by decide +kernel
theorem dL_law_452 : decode cL_law 452 = .ok (.iload_n 3, 1) := by decide +kernel
theorem dL_law_453 : decode cL_law 453 = .ok (.iconst 1, 1) := by decide +kernel
theorem dL_law_454 : decode cL_law 454 = .ok (.iadd, 1) := by decide +kernel
theorem dL_law_455 : decode cL_law 455 = .ok (.iaload, 1) := by decide +kernel
theorem dL_law_456 : decode cL_law 456 = .ok (.invokevirtual 57, 3) := by decide +kernel
theorem dL_law_459 : decode cL_law 459 = .ok (.if_icmp .eq 555, 3) := by decide +kernel
theorem dL_law_462 : decode cL_law 462 = .ok (.iconst 0, 1) := by decide +kernel
theorem dL_law_463 : decode cL_law 463 = .ok (.ireturn, 1) := by decide +kernel
theorem dL_law_464 : decode cL_law 464 = .ok (.aload_n 1, 1) := by decide +kernel
theorem dL_law_465 : decode cL_law 465 = .ok (.aload_n 0, 1) := by decide +kernel
theorem dL_law_466 : decode cL_law 466 = .ok (.iload_n 3, 1) := by decide +kernel
theorem dL_law_467 : decode cL_law 467 = .ok (.iconst 1, 1) := by decide +kernel
theorem dL_law_468 : decode cL_law 468 = .ok (.iadd, 1) := by decide +kernel
theorem dL_law_469 : decode cL_law 469 = .ok (.iaload, 1) := by decide +kernel
theorem dL_law_470 : decode cL_law 470 = .ok (.aload_n 0, 1) := by decide +kernel
theorem dL_law_471 : decode cL_law 471 = .ok (.iload_n 3, 1) := by decide +kernel
theorem dL_law_472 : decode cL_law 472 = .ok (.iconst 2, 1) := by decide +kernel
theorem dL_law_473 : decode cL_law 473 = .ok (.iadd, 1) := by decide +kernel
theorem dL_law_474 : decode cL_law 474 = .ok (.iaload, 1) := by decide +kernel
theorem dL_law_475 : decode cL_law 475 = .ok (.aload_n 0, 1) := by decide +kernel
theorem dL_law_476 : decode cL_law 476 = .ok (.iload_n 3, 1) := by decide +kernel
theorem dL_law_477 : decode cL_law 477 = .ok (.iconst 3, 1) := by decide +kernel
theorem dL_law_478 : decode cL_law 478 = .ok (.iadd, 1) := by decide +kernel
theorem dL_law_479 : decode cL_law 479 = .ok (.iaload, 1) := by decide +kernel
theorem dL_law_480 : decode cL_law 480 = .ok (.aload_n 0, 1) := by decide +kernel
theorem dL_law_481 : decode cL_law 481 = .ok (.iload_n 3, 1) := by decide +kernel
theorem dL_law_482 : decode cL_law 482 = .ok (.iconst 4, 1) := by decide +kernel
theorem dL_law_483 : decode cL_law 483 = .ok (.iadd, 1) := by decide +kernel
theorem dL_law_484 : decode cL_law 484 = .ok (.iaload, 1) := by decide +kernel
theorem dL_law_485 : decode cL_law 485 = .ok (.aload_n 0, 1) := by decide +kernel
theorem dL_law_486 : decode cL_law 486 = .ok (.iload_n 3, 1) := by decide +kernel
theorem dL_law_487 : decode cL_law 487 = .ok (.iconst 5, 1) := by decide +kernel
theorem dL_law_488 : decode cL_law 488 = .ok (.iadd, 1) := by decide +kernel
theorem dL_law_489 : decode cL_law 489 = .ok (.iaload, 1) := by decide +kernel
theorem dL_law_490 : decode cL_law 490 = .ok (.invokevirtual 58, 3) := by decide +kernel
theorem dL_law_493 : decode cL_law 493 = .ok (.aload_n 2, 1) := by decide +kernel
theorem dL_law_494 : decode cL_law 494 = .ok (.aload_n 0, 1) := by decide +kernel
theorem dL_law_495 : decode cL_law 495 = .ok (.iload_n 3, 1) := by decide +kernel
theorem dL_law_496 : decode cL_law 496 = .ok (.iconst 1, 1) := by decide +kernel
theorem dL_law_497 : decode cL_law 497 = .ok (.iadd, 1) := by decide +kernel
theorem dL_law_498 : decode cL_law 498 = .ok (.iaload, 1) := by decide +kernel
theorem dL_law_499 : decode cL_law 499 = .ok (.aload_n 0, 1) := by decide +kernel
theorem dL_law_500 : decode cL_law 500 = .ok (.iload_n 3, 1) := by decide +kernel
theorem dL_law_501 : decode cL_law 501 = .ok (.iconst 2, 1) := by decide +kernel
theorem dL_law_502 : decode cL_law 502 = .ok (.iadd, 1) := by decide +kernel
theorem dL_law_503 : decode cL_law 503 = .ok (.iaload, 1) := by decide +kernel
theorem dL_law_504 : decode cL_law 504 = .ok (.aload_n 0, 1) := by decide +kernel
theorem dL_law_505 : decode cL_law 505 = .ok (.iload_n 3, 1) := by decide +kernel
theorem dL_law_506 : decode cL_law 506 = .ok (.iconst 3, 1) := by decide +kernel
theorem dL_law_507 : decode cL_law 507 = .ok (.iadd, 1) := by decide +kernel
theorem dL_law_508 : decode cL_law 508 = .ok (.iaload, 1) := by decide +kernel
theorem dL_law_509 : decode cL_law 509 = .ok (.aload_n 0, 1) := by decide +kernel
theorem dL_law_510 : decode cL_law 510 = .ok (.iload_n 3, 1) := by decide +kernel
theorem dL_law_511 : decode cL_law 511 = .ok (.iconst 4, 1) := by decide +kernel
theorem dL_law_512 : decode cL_law 512 = .ok (.iadd, 1) := by decide +kernel
theorem dL_law_513 : decode cL_law 513 = .ok (.iaload, 1) := by decide +kernel
theorem dL_law_514 : decode cL_law 514 = .ok (.aload_n 0, 1) := by decide +kernel
theorem dL_law_515 : decode cL_law 515 = .ok (.iload_n 3, 1) := by decide +kernel
theorem dL_law_516 : decode cL_law 516 = .ok (.iconst 5, 1) := by decide +kernel
theorem dL_law_517 : decode cL_law 517 = .ok (.iadd, 1) := by decide +kernel
theorem dL_law_518 : decode cL_law 518 = .ok (.iaload, 1) := by decide +kernel
theorem dL_law_519 : decode cL_law 519 = .ok (.invokevirtual 62, 3) := by decide +kernel
theorem dL_law_522 : decode cL_law 522 = .ok (.if_icmp .eq 492, 3) := by decide +kernel
theorem dL_law_525 : decode cL_law 525 = .ok (.iconst 0, 1) := by decide +kernel
theorem dL_law_526 : decode cL_law 526 = .ok (.ireturn, 1) := by decide +kernel
theorem dL_law_527 : decode cL_law 527 = .ok (.aload_n 1, 1) := by decide +kernel
theorem dL_law_528 : decode cL_law 528 = .ok (.aload_n 0, 1) := by decide +kernel
theorem dL_law_529 : decode cL_law 529 = .ok (.iload_n 3, 1) := by decide +kernel
theorem dL_law_530 : decode cL_law 530 = .ok (.iconst 1, 1) := by decide +kernel
theorem dL_law_531 : decode cL_law 531 = .ok (.iadd, 1) := by decide +kernel
theorem dL_law_532 : decode cL_law 532 = .ok (.iaload, 1) := by decide +kernel
theorem dL_law_533 : decode cL_law 533 = .ok (.invokevirtual 63, 3) := by decide +kernel
theorem dL_law_536 : decode cL_law 536 = .ok (.aload_n 2, 1) := by decide +kernel
theorem dL_law_537 : decode cL_law 537 = .ok (.aload_n 0, 1) := by decide +kernel
theorem dL_law_538 : decode cL_law 538 = .ok (.iload_n 3, 1) := by decide +kernel
theorem dL_law_539 : decode cL_law 539 = .ok (.iconst 1, 1) := by decide +kernel
theorem dL_law_540 : decode cL_law 540 = .ok (.iadd, 1) := by decide +kernel
theorem dL_law_541 : decode cL_law 541 = .ok (.iaload, 1) := by decide +kernel
theorem dL_law_542 : decode cL_law 542 = .ok (.invokevirtual 66, 3) := by decide +kernel
theorem dL_law_545 : decode cL_law 545 = .ok (.if_icmp .eq 469, 3) := by decide +kernel
theorem dL_law_548 : decode cL_law 548 = .ok (.iconst 0, 1) := by decide +kernel
theorem dL_law_549 : decode cL_law 549 = .ok (.ireturn, 1) := by decide +kernel
theorem dL_law_550 : decode cL_law 550 = .ok (.aload_n 1, 1) := by decide +kernel
theorem dL_law_551 : decode cL_law 551 = .ok (.invokevirtual 67, 3) := by decide +kernel
theorem dL_law_554 : decode cL_law 554 = .ok (.aload_n 2, 1) := by decide +kernel
theorem dL_law_555 : decode cL_law 555 = .ok (.invokevirtual 71, 3) := by decide +kernel
theorem dL_law_558 : decode cL_law 558 = .ok (.if_icmp .eq 456, 3) := by decide +kernel
theorem dL_law_561 : decode cL_law 561 = .ok (.iconst 0, 1) := by decide +kernel
theorem dL_law_562 : decode cL_law 562 = .ok (.ireturn, 1) := by decide +kernel
theorem dL_law_563 : decode cL_law 563 = .ok (.aload_n 1, 1) := by decide +kernel
theorem dL_law_564 : decode cL_law 564 = .ok (.aload_n 0, 1) := by decide +kernel
theorem dL_law_565 : decode cL_law 565 = .ok (.iload_n 3, 1) := by decide +kernel
theorem dL_law_566 : decode cL_law 566 = .ok (.iconst 1, 1) := by decide +kernel
theorem dL_law_567 : decode cL_law 567 = .ok (.iadd, 1) := by decide +kernel
theorem dL_law_568 : decode cL_law 568 = .ok (.iaload, 1) := by decide +kernel
theorem dL_law_569 : decode cL_law 569 = .ok (.invokevirtual 72, 3) := by decide +kernel
theorem dL_law_572 : decode cL_law 572 = .ok (.aload_n 2, 1) := by decide +kernel
theorem dL_law_573 : decode cL_law 573 = .ok (.aload_n 0, 1) := by decide +kernel
theorem dL_law_574 : decode cL_law 574 = .ok (.iload_n 3, 1) := by decide +kernel
theorem dL_law_575 : decode cL_law 575 = .ok (.iconst 1, 1) := by decide +kernel
theorem dL_law_576 : decode cL_law 576 = .ok (.iadd, 1) := by decide +kernel
theorem dL_law_577 : decode cL_law 577 = .ok (.iaload, 1) := by decide +kernel
theorem dL_law_578 : decode cL_law 578 = .ok (.invokevirtual 75, 3) := by decide +kernel
theorem dL_law_581 : decode cL_law 581 = .ok (.if_icmp .eq 433, 3) := by decide +kernel
theorem dL_law_584 : decode cL_law 584 = .ok (.iconst 0, 1) := by decide +kernel
theorem dL_law_585 : decode cL_law 585 = .ok (.ireturn, 1) := by decide +kernel
theorem dL_law_586 : decode cL_law 586 = .ok (.aload_n 1, 1) := by decide +kernel
theorem dL_law_587 : decode cL_law 587 = .ok (.aload_n 0, 1) := by decide +kernel
theorem dL_law_588 : decode cL_law 588 = .ok (.iload_n 3, 1) := by decide +kernel
theorem dL_law_589 : decode cL_law 589 = .ok (.iconst 1, 1) := by decide +kernel
theorem dL_law_590 : decode cL_law 590 = .ok (.iadd, 1) := by decide +kernel
theorem dL_law_591 : decode cL_law 591 = .ok (.iaload, 1) := by decide +kernel
theorem dL_law_592 : decode cL_law 592 = .ok (.invokevirtual 76, 3) := by decide +kernel
theorem dL_law_595 : decode cL_law 595 = .ok (.aload_n 2, 1) := by decide +kernel
theorem dL_law_596 : decode cL_law 596 = .ok (.aload_n 0, 1) := by decide +kernel
theorem dL_law_597 : decode cL_law 597 = .ok (.iload_n 3, 1) := by decide +kernel
theorem dL_law_598 : decode cL_law 598 = .ok (.iconst 1, 1) := by decide +kernel
theorem dL_law_599 : decode cL_law 599 = .ok (.iadd, 1) := by decide +kernel
theorem dL_law_600 : decode cL_law 600 = .ok (.iaload, 1) := by decide +kernel
theorem dL_law_601 : decode cL_law 601 = .ok (.invokevirtual 79, 3) := by decide +kernel
theorem dL_law_604 : decode cL_law 604 = .ok (.if_icmp .eq 410, 3) := by decide +kernel
theorem dL_law_607 : decode cL_law 607 = .ok (.iconst 0, 1) := by decide +kernel
theorem dL_law_608 : decode cL_law 608 = .ok (.ireturn, 1) := by decide +kernel
theorem dL_law_609 : decode cL_law 609 = .ok (.aload_n 1, 1) := by decide +kernel
theorem dL_law_610 : decode cL_law 610 = .ok (.aload_n 0, 1) := by decide +kernel
theorem dL_law_611 : decode cL_law 611 = .ok (.iload_n 3, 1) := by decide +kernel
theorem dL_law_612 : decode cL_law 612 = .ok (.iconst 1, 1) := by decide +kernel
theorem dL_law_613 : decode cL_law 613 = .ok (.iadd, 1) := by decide +kernel
theorem dL_law_614 : decode cL_law 614 = .ok (.iaload, 1) := by decide +kernel
theorem dL_law_615 : decode cL_law 615 = .ok (.invokevirtual 80, 3) := by decide +kernel
theorem dL_law_618 : decode cL_law 618 = .ok (.aload_n 2, 1) := by decide +kernel
theorem dL_law_619 : decode cL_law 619 = .ok (.aload_n 0, 1) := by decide +kernel
theorem dL_law_620 : decode cL_law 620 = .ok (.iload_n 3, 1) := by decide +kernel
theorem dL_law_621 : decode cL_law 621 = .ok (.iconst 1, 1) := by decide +kernel
theorem dL_law_622 : decode cL_law 622 = .ok (.iadd, 1) := by decide +kernel
theorem dL_law_623 : decode cL_law 623 = .ok (.iaload, 1) := by decide +kernel
theorem dL_law_624 : decode cL_law 624 = .ok (.invokevirtual 83, 3) := by decide +kernel
theorem dL_law_627 : decode cL_law 627 = .ok (.if_icmp .eq 387, 3) := by decide +kernel
theorem dL_law_630 : decode cL_law 630 = .ok (.iconst 0, 1) := by decide +kernel
theorem dL_law_631 : decode cL_law 631 = .ok (.ireturn, 1) := by decide +kernel
theorem dL_law_632 : decode cL_law 632 = .ok (.aload_n 1, 1) := by decide +kernel
theorem dL_law_633 : decode cL_law 633 = .ok (.invokevirtual 84, 3) := by decide +kernel
theorem dL_law_636 : decode cL_law 636 = .ok (.aload_n 2, 1) := by decide +kernel
theorem dL_law_637 : decode cL_law 637 = .ok (.invokevirtual 87, 3) := by decide +kernel
theorem dL_law_640 : decode cL_law 640 = .ok (.if_icmp .eq 374, 3) := by decide +kernel
theorem dL_law_643 : decode cL_law 643 = .ok (.iconst 0, 1) := by decide +kernel
theorem dL_law_644 : decode cL_law 644 = .ok (.ireturn, 1) := by decide +kernel
theorem dL_law_645 : decode cL_law 645 = .ok (.aload_n 1, 1) := by decide +kernel
theorem dL_law_646 : decode cL_law 646 = .ok (.aload_n 0, 1) := by decide +kernel
theorem dL_law_647 : decode cL_law 647 = .ok (.iload_n 3, 1) := by decide +kernel
theorem dL_law_648 : decode cL_law 648 = .ok (.iconst 1, 1) := by decide +kernel
theorem dL_law_649 : decode cL_law 649 = .ok (.iadd, 1) := by decide +kernel
theorem dL_law_650 : decode cL_law 650 = .ok (.iaload, 1) := by decide +kernel
theorem dL_law_651 : decode cL_law 651 = .ok (.aload_n 0, 1) := by decide +kernel
theorem dL_law_652 : decode cL_law 652 = .ok (.iload_n 3, 1) := by decide +kernel
theorem dL_law_653 : decode cL_law 653 = .ok (.iconst 2, 1) := by decide +kernel
theorem dL_law_654 : decode cL_law 654 = .ok (.iadd, 1) := by decide +kernel
theorem dL_law_655 : decode cL_law 655 = .ok (.iaload, 1) := by decide +kernel
theorem dL_law_656 : decode cL_law 656 = .ok (.invokevirtual 88, 3) := by decide +kernel
theorem dL_law_659 : decode cL_law 659 = .ok (.aload_n 2, 1) := by decide +kernel
theorem dL_law_660 : decode cL_law 660 = .ok (.aload_n 0, 1) := by decide +kernel
theorem dL_law_661 : decode cL_law 661 = .ok (.iload_n 3, 1) := by decide +kernel
theorem dL_law_662 : decode cL_law 662 = .ok (.iconst 1, 1) := by decide +kernel
theorem dL_law_663 : decode cL_law 663 = .ok (.iadd, 1) := by decide +kernel
theorem dL_law_664 : decode cL_law 664 = .ok (.iaload, 1) := by decide +kernel
theorem dL_law_665 : decode cL_law 665 = .ok (.aload_n 0, 1) := by decide +kernel
theorem dL_law_666 : decode cL_law 666 = .ok (.iload_n 3, 1) := by decide +kernel
theorem dL_law_667 : decode cL_law 667 = .ok (.iconst 2, 1) := by decide +kernel
theorem dL_law_668 : decode cL_law 668 = .ok (.iadd, 1) := by decide +kernel
theorem dL_law_669 : decode cL_law 669 = .ok (.iaload, 1) := by decide +kernel
theorem dL_law_670 : decode cL_law 670 = .ok (.invokevirtual 91, 3) := by decide +kernel
theorem dL_law_673 : decode cL_law 673 = .ok (.if_icmp .eq 341, 3) := by decide +kernel
theorem dL_law_676 : decode cL_law 676 = .ok (.iconst 0, 1) := by decide +kernel
theorem dL_law_677 : decode cL_law 677 = .ok (.ireturn, 1) := by decide +kernel
theorem dL_law_678 : decode cL_law 678 = .ok (.aload_n 1, 1) := by decide +kernel
theorem dL_law_679 : decode cL_law 679 = .ok (.aload_n 0, 1) := by decide +kernel
theorem dL_law_680 : decode cL_law 680 = .ok (.iload_n 3, 1) := by decide +kernel
theorem dL_law_681 : decode cL_law 681 = .ok (.iconst 1, 1) := by decide +kernel
theorem dL_law_682 : decode cL_law 682 = .ok (.iadd, 1) := by decide +kernel
theorem dL_law_683 : decode cL_law 683 = .ok (.iaload, 1) := by decide +kernel
theorem dL_law_684 : decode cL_law 684 = .ok (.aload_n 0, 1) := by decide +kernel
theorem dL_law_685 : decode cL_law 685 = .ok (.iload_n 3, 1) := by decide +kernel
theorem dL_law_686 : decode cL_law 686 = .ok (.iconst 2, 1) := by decide +kernel
theorem dL_law_687 : decode cL_law 687 = .ok (.iadd, 1) := by decide +kernel
theorem dL_law_688 : decode cL_law 688 = .ok (.iaload, 1) := by decide +kernel
theorem dL_law_689 : decode cL_law 689 = .ok (.aload_n 0, 1) := by decide +kernel
theorem dL_law_690 : decode cL_law 690 = .ok (.iload_n 3, 1) := by decide +kernel
theorem dL_law_691 : decode cL_law 691 = .ok (.iconst 3, 1) := by decide +kernel
theorem dL_law_692 : decode cL_law 692 = .ok (.iadd, 1) := by decide +kernel
theorem dL_law_693 : decode cL_law 693 = .ok (.iaload, 1) := by decide +kernel
theorem dL_law_694 : decode cL_law 694 = .ok (.invokevirtual 92, 3) := by decide +kernel
theorem dL_law_697 : decode cL_law 697 = .ok (.aload_n 2, 1) := by decide +kernel
theorem dL_law_698 : decode cL_law 698 = .ok (.aload_n 0, 1) := by decide +kernel
theorem dL_law_699 : decode cL_law 699 = .ok (.iload_n 3, 1) := by decide +kernel
theorem dL_law_700 : decode cL_law 700 = .ok (.iconst 1, 1) := by decide +kernel
theorem dL_law_701 : decode cL_law 701 = .ok (.iadd, 1) := by decide +kernel
theorem dL_law_702 : decode cL_law 702 = .ok (.iaload, 1) := by decide +kernel
theorem dL_law_703 : decode cL_law 703 = .ok (.aload_n 0, 1) := by decide +kernel
theorem dL_law_704 : decode cL_law 704 = .ok (.iload_n 3, 1) := by decide +kernel
theorem dL_law_705 : decode cL_law 705 = .ok (.iconst 2, 1) := by decide +kernel
theorem dL_law_706 : decode cL_law 706 = .ok (.iadd, 1) := by decide +kernel
theorem dL_law_707 : decode cL_law 707 = .ok (.iaload, 1) := by decide +kernel
theorem dL_law_708 : decode cL_law 708 = .ok (.aload_n 0, 1) := by decide +kernel
theorem dL_law_709 : decode cL_law 709 = .ok (.iload_n 3, 1) := by decide +kernel
theorem dL_law_710 : decode cL_law 710 = .ok (.iconst 3, 1) := by decide +kernel
theorem dL_law_711 : decode cL_law 711 = .ok (.iadd, 1) := by decide +kernel
theorem dL_law_712 : decode cL_law 712 = .ok (.iaload, 1) := by decide +kernel
theorem dL_law_713 : decode cL_law 713 = .ok (.invokevirtual 95, 3) := by decide +kernel
theorem dL_law_716 : decode cL_law 716 = .ok (.if_icmp .eq 298, 3) := by decide +kernel
theorem dL_law_719 : decode cL_law 719 = .ok (.iconst 0, 1) := by decide +kernel
theorem dL_law_720 : decode cL_law 720 = .ok (.ireturn, 1) := by decide +kernel
theorem dL_law_721 : decode cL_law 721 = .ok (.aload_n 1, 1) := by decide +kernel
theorem dL_law_722 : decode cL_law 722 = .ok (.aload_n 0, 1) := by decide +kernel
theorem dL_law_723 : decode cL_law 723 = .ok (.iload_n 3, 1) := by decide +kernel
theorem dL_law_724 : decode cL_law 724 = .ok (.iconst 1, 1) := by decide +kernel
theorem dL_law_725 : decode cL_law 725 = .ok (.iadd, 1) := by decide +kernel
theorem dL_law_726 : decode cL_law 726 = .ok (.iaload, 1) := by decide +kernel
theorem dL_law_727 : decode cL_law 727 = .ok (.aload_n 0, 1) := by decide +kernel
theorem dL_law_728 : decode cL_law 728 = .ok (.iload_n 3, 1) := by decide +kernel
theorem dL_law_729 : decode cL_law 729 = .ok (.iconst 2, 1) := by decide +kernel
theorem dL_law_730 : decode cL_law 730 = .ok (.iadd, 1) := by decide +kernel
theorem dL_law_731 : decode cL_law 731 = .ok (.iaload, 1) := by decide +kernel
theorem dL_law_732 : decode cL_law 732 = .ok (.invokevirtual 96, 3) := by decide +kernel
theorem dL_law_735 : decode cL_law 735 = .ok (.aload_n 2, 1) := by decide +kernel
theorem dL_law_736 : decode cL_law 736 = .ok (.aload_n 0, 1) := by decide +kernel
theorem dL_law_737 : decode cL_law 737 = .ok (.iload_n 3, 1) := by decide +kernel
theorem dL_law_738 : decode cL_law 738 = .ok (.iconst 1, 1) := by decide +kernel
theorem dL_law_739 : decode cL_law 739 = .ok (.iadd, 1) := by decide +kernel
theorem dL_law_740 : decode cL_law 740 = .ok (.iaload, 1) := by decide +kernel
theorem dL_law_741 : decode cL_law 741 = .ok (.aload_n 0, 1) := by decide +kernel
theorem dL_law_742 : decode cL_law 742 = .ok (.iload_n 3, 1) := by decide +kernel
theorem dL_law_743 : decode cL_law 743 = .ok (.iconst 2, 1) := by decide +kernel
theorem dL_law_744 : decode cL_law 744 = .ok (.iadd, 1) := by decide +kernel
theorem dL_law_745 : decode cL_law 745 = .ok (.iaload, 1) := by decide +kernel
theorem dL_law_746 : decode cL_law 746 = .ok (.invokevirtual 99, 3) := by decide +kernel
theorem dL_law_749 : decode cL_law 749 = .ok (.if_icmp .eq 265, 3) := by decide +kernel
theorem dL_law_752 : decode cL_law 752 = .ok (.iconst 0, 1) := by decide +kernel
theorem dL_law_753 : decode cL_law 753 = .ok (.ireturn, 1) := by decide +kernel
theorem dL_law_754 : decode cL_law 754 = .ok (.aload_n 1, 1) := by decide +kernel
theorem dL_law_755 : decode cL_law 755 = .ok (.aload_n 0, 1) := by decide +kernel
theorem dL_law_756 : decode cL_law 756 = .ok (.iload_n 3, 1) := by decide +kernel
theorem dL_law_757 : decode cL_law 757 = .ok (.iconst 1, 1) := by decide +kernel
theorem dL_law_758 : decode cL_law 758 = .ok (.iadd, 1) := by decide +kernel
theorem dL_law_759 : decode cL_law 759 = .ok (.iaload, 1) := by decide +kernel
theorem dL_law_760 : decode cL_law 760 = .ok (.aload_n 0, 1) := by decide +kernel
theorem dL_law_761 : decode cL_law 761 = .ok (.iload_n 3, 1) := by decide +kernel
theorem dL_law_762 : decode cL_law 762 = .ok (.iconst 2, 1) := by decide +kernel
theorem dL_law_763 : decode cL_law 763 = .ok (.iadd, 1) := by decide +kernel
theorem dL_law_764 : decode cL_law 764 = .ok (.iaload, 1) := by decide +kernel
theorem dL_law_765 : decode cL_law 765 = .ok (.ifCond .eq 7, 3) := by decide +kernel
theorem dL_law_768 : decode cL_law 768 = .ok (.iconst 1, 1) := by decide +kernel
theorem dL_law_769 : decode cL_law 769 = .ok (.goto 4, 3) := by decide +kernel
theorem dL_law_772 : decode cL_law 772 = .ok (.iconst 0, 1) := by decide +kernel
theorem dL_law_773 : decode cL_law 773 = .ok (.invokevirtual 100, 3) := by decide +kernel
theorem dL_law_776 : decode cL_law 776 = .ok (.aload_n 2, 1) := by decide +kernel
theorem dL_law_777 : decode cL_law 777 = .ok (.aload_n 0, 1) := by decide +kernel
theorem dL_law_778 : decode cL_law 778 = .ok (.iload_n 3, 1) := by decide +kernel
theorem dL_law_779 : decode cL_law 779 = .ok (.iconst 1, 1) := by decide +kernel
theorem dL_law_780 : decode cL_law 780 = .ok (.iadd, 1) := by decide +kernel
theorem dL_law_781 : decode cL_law 781 = .ok (.iaload, 1) := by decide +kernel
theorem dL_law_782 : decode cL_law 782 = .ok (.aload_n 0, 1) := by decide +kernel
theorem dL_law_783 : decode cL_law 783 = .ok (.iload_n 3, 1) := by decide +kernel
theorem dL_law_784 : decode cL_law 784 = .ok (.iconst 2, 1) := by decide +kernel
theorem dL_law_785 : decode cL_law 785 = .ok (.iadd, 1) := by decide +kernel
theorem dL_law_786 : decode cL_law 786 = .ok (.iaload, 1) := by decide +kernel
theorem dL_law_787 : decode cL_law 787 = .ok (.ifCond .eq 7, 3) := by decide +kernel
theorem dL_law_790 : decode cL_law 790 = .ok (.iconst 1, 1) := by decide +kernel
theorem dL_law_791 : decode cL_law 791 = .ok (.goto 4, 3) := by decide +kernel
theorem dL_law_794 : decode cL_law 794 = .ok (.iconst 0, 1) := by decide +kernel
theorem dL_law_795 : decode cL_law 795 = .ok (.invokevirtual 104, 3) := by decide +kernel
theorem dL_law_798 : decode cL_law 798 = .ok (.if_icmp .eq 216, 3) := by decide +kernel
theorem dL_law_801 : decode cL_law 801 = .ok (.iconst 0, 1) := by decide +kernel
theorem dL_law_802 : decode cL_law 802 = .ok (.ireturn, 1) := by decide +kernel
theorem dL_law_803 : decode cL_law 803 = .ok (.aload_n 1, 1) := by decide +kernel
theorem dL_law_804 : decode cL_law 804 = .ok (.aload_n 0, 1) := by decide +kernel
theorem dL_law_805 : decode cL_law 805 = .ok (.iload_n 3, 1) := by decide +kernel
theorem dL_law_806 : decode cL_law 806 = .ok (.iconst 1, 1) := by decide +kernel
theorem dL_law_807 : decode cL_law 807 = .ok (.iadd, 1) := by decide +kernel
theorem dL_law_808 : decode cL_law 808 = .ok (.iaload, 1) := by decide +kernel
theorem dL_law_809 : decode cL_law 809 = .ok (.invokevirtual 105, 3) := by decide +kernel
theorem dL_law_812 : decode cL_law 812 = .ok (.aload_n 2, 1) := by decide +kernel
theorem dL_law_813 : decode cL_law 813 = .ok (.aload_n 0, 1) := by decide +kernel
theorem dL_law_814 : decode cL_law 814 = .ok (.iload_n 3, 1) := by decide +kernel
theorem dL_law_815 : decode cL_law 815 = .ok (.iconst 1, 1) := by decide +kernel
theorem dL_law_816 : decode cL_law 816 = .ok (.iadd, 1) := by decide +kernel
theorem dL_law_817 : decode cL_law 817 = .ok (.iaload, 1) := by decide +kernel
theorem dL_law_818 : decode cL_law 818 = .ok (.invokevirtual 108, 3) := by decide +kernel
theorem dL_law_821 : decode cL_law 821 = .ok (.if_icmp .eq 193, 3) := by decide +kernel
theorem dL_law_824 : decode cL_law 824 = .ok (.iconst 0, 1) := by decide +kernel
theorem dL_law_825 : decode cL_law 825 = .ok (.ireturn, 1) := by decide +kernel
theorem dL_law_826 : decode cL_law 826 = .ok (.aload_n 1, 1) := by decide +kernel
theorem dL_law_827 : decode cL_law 827 = .ok (.aload_n 0, 1) := by decide +kernel
theorem dL_law_828 : decode cL_law 828 = .ok (.iload_n 3, 1) := by decide +kernel
theorem dL_law_829 : decode cL_law 829 = .ok (.iconst 1, 1) := by decide +kernel
theorem dL_law_830 : decode cL_law 830 = .ok (.iadd, 1) := by decide +kernel
theorem dL_law_831 : decode cL_law 831 = .ok (.iaload, 1) := by decide +kernel
theorem dL_law_832 : decode cL_law 832 = .ok (.invokevirtual 109, 3) := by decide +kernel
theorem dL_law_835 : decode cL_law 835 = .ok (.aload_n 2, 1) := by decide +kernel
theorem dL_law_836 : decode cL_law 836 = .ok (.aload_n 0, 1) := by decide +kernel
theorem dL_law_837 : decode cL_law 837 = .ok (.iload_n 3, 1) := by decide +kernel
theorem dL_law_838 : decode cL_law 838 = .ok (.iconst 1, 1) := by decide +kernel
theorem dL_law_839 : decode cL_law 839 = .ok (.iadd, 1) := by decide +kernel
theorem dL_law_840 : decode cL_law 840 = .ok (.iaload, 1) := by decide +kernel
theorem dL_law_841 : decode cL_law 841 = .ok (.invokevirtual 112, 3) := by decide +kernel
theorem dL_law_844 : decode cL_law 844 = .ok (.if_icmp .eq 170, 3) := by decide +kernel
theorem dL_law_847 : decode cL_law 847 = .ok (.iconst 0, 1) := by decide +kernel
theorem dL_law_848 : decode cL_law 848 = .ok (.ireturn, 1) := by decide +kernel
theorem dL_law_849 : decode cL_law 849 = .ok (.aload_n 1, 1) := by decide +kernel
theorem dL_law_850 : decode cL_law 850 = .ok (.aload_n 0, 1) := by decide +kernel
theorem dL_law_851 : decode cL_law 851 = .ok (.iload_n 3, 1) := by decide +kernel
theorem dL_law_852 : decode cL_law 852 = .ok (.iconst 1, 1) := by decide +kernel
theorem dL_law_853 : decode cL_law 853 = .ok (.iadd, 1) := by decide +kernel
theorem dL_law_854 : decode cL_law 854 = .ok (.iaload, 1) := by decide +kernel
theorem dL_law_855 : decode cL_law 855 = .ok (.aload_n 0, 1) := by decide +kernel
theorem dL_law_856 : decode cL_law 856 = .ok (.iload_n 3, 1) := by decide +kernel
theorem dL_law_857 : decode cL_law 857 = .ok (.iconst 2, 1) := by decide +kernel
theorem dL_law_858 : decode cL_law 858 = .ok (.iadd, 1) := by decide +kernel
theorem dL_law_859 : decode cL_law 859 = .ok (.iaload, 1) := by decide +kernel
theorem dL_law_860 : decode cL_law 860 = .ok (.aload_n 0, 1) := by decide +kernel
theorem dL_law_861 : decode cL_law 861 = .ok (.iload_n 3, 1) := by decide +kernel
theorem dL_law_862 : decode cL_law 862 = .ok (.iconst 3, 1) := by decide +kernel
theorem dL_law_863 : decode cL_law 863 = .ok (.iadd, 1) := by decide +kernel
theorem dL_law_864 : decode cL_law 864 = .ok (.iaload, 1) := by decide +kernel
theorem dL_law_865 : decode cL_law 865 = .ok (.ifCond .eq 7, 3) := by decide +kernel
theorem dL_law_868 : decode cL_law 868 = .ok (.iconst 1, 1) := by decide +kernel
theorem dL_law_869 : decode cL_law 869 = .ok (.goto 4, 3) := by decide +kernel
theorem dL_law_872 : decode cL_law 872 = .ok (.iconst 0, 1) := by decide +kernel
theorem dL_law_873 : decode cL_law 873 = .ok (.invokevirtual 113, 3) := by decide +kernel
theorem dL_law_876 : decode cL_law 876 = .ok (.aload_n 2, 1) := by decide +kernel
theorem dL_law_877 : decode cL_law 877 = .ok (.aload_n 0, 1) := by decide +kernel
theorem dL_law_878 : decode cL_law 878 = .ok (.iload_n 3, 1) := by decide +kernel
theorem dL_law_879 : decode cL_law 879 = .ok (.iconst 1, 1) := by decide +kernel
theorem dL_law_880 : decode cL_law 880 = .ok (.iadd, 1) := by decide +kernel
theorem dL_law_881 : decode cL_law 881 = .ok (.iaload, 1) := by decide +kernel
theorem dL_law_882 : decode cL_law 882 = .ok (.aload_n 0, 1) := by decide +kernel
theorem dL_law_883 : decode cL_law 883 = .ok (.iload_n 3, 1) := by decide +kernel
theorem dL_law_884 : decode cL_law 884 = .ok (.iconst 2, 1) := by decide +kernel
theorem dL_law_885 : decode cL_law 885 = .ok (.iadd, 1) := by decide +kernel
theorem dL_law_886 : decode cL_law 886 = .ok (.iaload, 1) := by decide +kernel
theorem dL_law_887 : decode cL_law 887 = .ok (.aload_n 0, 1) := by decide +kernel
theorem dL_law_888 : decode cL_law 888 = .ok (.iload_n 3, 1) := by decide +kernel
theorem dL_law_889 : decode cL_law 889 = .ok (.iconst 3, 1) := by decide +kernel
theorem dL_law_890 : decode cL_law 890 = .ok (.iadd, 1) := by decide +kernel
theorem dL_law_891 : decode cL_law 891 = .ok (.iaload, 1) := by decide +kernel
theorem dL_law_892 : decode cL_law 892 = .ok (.ifCond .eq 7, 3) := by decide +kernel
theorem dL_law_895 : decode cL_law 895 = .ok (.iconst 1, 1) := by decide +kernel
theorem dL_law_896 : decode cL_law 896 = .ok (.goto 4, 3) := by decide +kernel
theorem dL_law_899 : decode cL_law 899 = .ok (.iconst 0, 1) := by decide +kernel
theorem dL_law_900 : decode cL_law 900 = .ok (.invokevirtual 117, 3) := by decide +kernel
theorem dL_law_903 : decode cL_law 903 = .ok (.lcmp, 1) := by decide +kernel
theorem dL_law_904 : decode cL_law 904 = .ok (.ifCond .eq 110, 3) := by decide +kernel
theorem dL_law_907 : decode cL_law 907 = .ok (.iconst 0, 1) := by decide +kernel
theorem dL_law_908 : decode cL_law 908 = .ok (.ireturn, 1) := by decide +kernel
theorem dL_law_909 : decode cL_law 909 = .ok (.aload_n 1, 1) := by decide +kernel
theorem dL_law_910 : decode cL_law 910 = .ok (.aload_n 0, 1) := by decide +kernel
theorem dL_law_911 : decode cL_law 911 = .ok (.iload_n 3, 1) := by decide +kernel
theorem dL_law_912 : decode cL_law 912 = .ok (.iconst 1, 1) := by decide +kernel
theorem dL_law_913 : decode cL_law 913 = .ok (.iadd, 1) := by decide +kernel
theorem dL_law_914 : decode cL_law 914 = .ok (.iaload, 1) := by decide +kernel
theorem dL_law_915 : decode cL_law 915 = .ok (.aload_n 0, 1) := by decide +kernel
theorem dL_law_916 : decode cL_law 916 = .ok (.iload_n 3, 1) := by decide +kernel
theorem dL_law_917 : decode cL_law 917 = .ok (.iconst 2, 1) := by decide +kernel
theorem dL_law_918 : decode cL_law 918 = .ok (.iadd, 1) := by decide +kernel
theorem dL_law_919 : decode cL_law 919 = .ok (.iaload, 1) := by decide +kernel
theorem dL_law_920 : decode cL_law 920 = .ok (.aload_n 0, 1) := by decide +kernel
theorem dL_law_921 : decode cL_law 921 = .ok (.iload_n 3, 1) := by decide +kernel
theorem dL_law_922 : decode cL_law 922 = .ok (.iconst 3, 1) := by decide +kernel
theorem dL_law_923 : decode cL_law 923 = .ok (.iadd, 1) := by decide +kernel
theorem dL_law_924 : decode cL_law 924 = .ok (.iaload, 1) := by decide +kernel
theorem dL_law_925 : decode cL_law 925 = .ok (.invokevirtual 118, 3) := by decide +kernel
theorem dL_law_928 : decode cL_law 928 = .ok (.aload_n 2, 1) := by decide +kernel
theorem dL_law_929 : decode cL_law 929 = .ok (.aload_n 0, 1) := by decide +kernel
theorem dL_law_930 : decode cL_law 930 = .ok (.iload_n 3, 1) := by decide +kernel
theorem dL_law_931 : decode cL_law 931 = .ok (.iconst 1, 1) := by decide +kernel
theorem dL_law_932 : decode cL_law 932 = .ok (.iadd, 1) := by decide +kernel
theorem dL_law_933 : decode cL_law 933 = .ok (.iaload, 1) := by decide +kernel
theorem dL_law_934 : decode cL_law 934 = .ok (.aload_n 0, 1) := by decide +kernel
theorem dL_law_935 : decode cL_law 935 = .ok (.iload_n 3, 1) := by decide +kernel
theorem dL_law_936 : decode cL_law 936 = .ok (.iconst 2, 1) := by decide +kernel
theorem dL_law_937 : decode cL_law 937 = .ok (.iadd, 1) := by decide +kernel
theorem dL_law_938 : decode cL_law 938 = .ok (.iaload, 1) := by decide +kernel
theorem dL_law_939 : decode cL_law 939 = .ok (.aload_n 0, 1) := by decide +kernel
theorem dL_law_940 : decode cL_law 940 = .ok (.iload_n 3, 1) := by decide +kernel
theorem dL_law_941 : decode cL_law 941 = .ok (.iconst 3, 1) := by decide +kernel
theorem dL_law_942 : decode cL_law 942 = .ok (.iadd, 1) := by decide +kernel
theorem dL_law_943 : decode cL_law 943 = .ok (.iaload, 1) := by decide +kernel
theorem dL_law_944 : decode cL_law 944 = .ok (.invokevirtual 121, 3) := by decide +kernel
theorem dL_law_947 : decode cL_law 947 = .ok (.if_icmp .eq 67, 3) := by decide +kernel
theorem dL_law_950 : decode cL_law 950 = .ok (.iconst 0, 1) := by decide +kernel
theorem dL_law_951 : decode cL_law 951 = .ok (.ireturn, 1) := by decide +kernel
theorem dL_law_952 : decode cL_law 952 = .ok (.aload_n 1, 1) := by decide +kernel
theorem dL_law_953 : decode cL_law 953 = .ok (.invokevirtual 122, 3) := by decide +kernel
theorem dL_law_956 : decode cL_law 956 = .ok (.aload_n 2, 1) := by decide +kernel
theorem dL_law_957 : decode cL_law 957 = .ok (.invokevirtual 125, 3) := by decide +kernel
theorem dL_law_960 : decode cL_law 960 = .ok (.if_icmp .eq 54, 3) := by decide +kernel
theorem dL_law_963 : decode cL_law 963 = .ok (.iconst 0, 1) := by decide +kernel
theorem dL_law_964 : decode cL_law 964 = .ok (.ireturn, 1) := by decide +kernel
theorem dL_law_965 : decode cL_law 965 = .ok (.aload_n 1, 1) := by decide +kernel
theorem dL_law_966 : decode cL_law 966 = .ok (.invokevirtual 126, 3) := by decide +kernel
theorem dL_law_969 : decode cL_law 969 = .ok (.aload_n 2, 1) := by decide +kernel
theorem dL_law_970 : decode cL_law 970 = .ok (.invokevirtual 129, 3) := by decide +kernel
theorem dL_law_973 : decode cL_law 973 = .ok (.if_icmp .eq 41, 3) := by decide +kernel
theorem dL_law_976 : decode cL_law 976 = .ok (.iconst 0, 1) := by decide +kernel
theorem dL_law_977 : decode cL_law 977 = .ok (.ireturn, 1) := by decide +kernel
theorem dL_law_978 : decode cL_law 978 = .ok (.aload_n 1, 1) := by decide +kernel
theorem dL_law_979 : decode cL_law 979 = .ok (.invokevirtual 130, 3) := by decide +kernel
theorem dL_law_982 : decode cL_law 982 = .ok (.aload_n 2, 1) := by decide +kernel
theorem dL_law_983 : decode cL_law 983 = .ok (.invokevirtual 133, 3) := by decide +kernel
theorem dL_law_986 : decode cL_law 986 = .ok (.if_icmp .eq 28, 3) := by decide +kernel
theorem dL_law_989 : decode cL_law 989 = .ok (.iconst 0, 1) := by decide +kernel
theorem dL_law_990 : decode cL_law 990 = .ok (.ireturn, 1) := by decide +kernel
theorem dL_law_991 : decode cL_law 991 = .ok (.aload_n 1, 1) := by decide +kernel
theorem dL_law_992 : decode cL_law 992 = .ok (.aload_n 0, 1) := by decide +kernel
theorem dL_law_993 : decode cL_law 993 = .ok (.iload_n 3, 1) := by decide +kernel
theorem dL_law_994 : decode cL_law 994 = .ok (.iconst 1, 1) := by decide +kernel
theorem dL_law_995 : decode cL_law 995 = .ok (.iadd, 1) := by decide +kernel
theorem dL_law_996 : decode cL_law 996 = .ok (.iaload, 1) := by decide +kernel
theorem dL_law_997 : decode cL_law 997 = .ok (.invokevirtual 134, 3) := by decide +kernel
theorem dL_law_1000 : decode cL_law 1000 = .ok (.aload_n 2, 1) := by decide +kernel
theorem dL_law_1001 : decode cL_law 1001 = .ok (.aload_n 0, 1) := by decide +kernel
theorem dL_law_1002 : decode cL_law 1002 = .ok (.iload_n 3, 1) := by decide +kernel
theorem dL_law_1003 : decode cL_law 1003 = .ok (.iconst 1, 1) := by decide +kernel
theorem dL_law_1004 : decode cL_law 1004 = .ok (.iadd, 1) := by decide +kernel
theorem dL_law_1005 : decode cL_law 1005 = .ok (.iaload, 1) := by decide +kernel
theorem dL_law_1006 : decode cL_law 1006 = .ok (.invokevirtual 137, 3) := by decide +kernel
theorem dL_law_1009 : decode cL_law 1009 = .ok (.if_icmp .eq 5, 3) := by decide +kernel
theorem dL_law_1012 : decode cL_law 1012 = .ok (.iconst 0, 1) := by decide +kernel
theorem dL_law_1013 : decode cL_law 1013 = .ok (.ireturn, 1) := by decide +kernel
theorem dL_law_1014 : decode cL_law 1014 = .ok (.iinc 3 6, 3) := by decide +kernel
theorem dL_law_1017 : decode cL_law 1017 = .ok (.goto (-999), 3) := by decide +kernel
theorem dL_law_1020 : decode cL_law 1020 = .ok (.iconst 1, 1) := by decide +kernel
theorem dL_law_1021 : decode cL_law 1021 = .ok (.ireturn, 1) := by decide +kernel
abbrev vwCl : List vw_C := [(RX0, TX0, 4), (RX1, TX1, 4), (RX2, TX2, 3), (RX3, TX3, 16), (RX4, TX4, 13), (RX5, TX5, 2), (RX6, TX6, 6), (RX7, TX7, 5), (RX8, TX8, 8), (RX9, TX9, 53)]
