theorem dX3_choiceOf_0 : decode cX3_choiceOf 0 = .ok (.iconst 0, 1) := by decide +kernel
theorem dX3_choiceOf_1 : decode cX3_choiceOf 1 = .ok (.istore_n 2, 1) := by decide +kernel
theorem dX3_choiceOf_2 : decode cX3_choiceOf 2 = .ok (.iload_n 2, 1) := by decide +kernel
theorem dX3_choiceOf_3 : decode cX3_choiceOf 3 = .ok (.aload_n 0, 1) := by decide +kernel
theorem dX3_choiceOf_4 : decode cX3_choiceOf 4 = .ok (.getfield 37, 3) := by decide +kernel
theorem dX3_choiceOf_7 : decode cX3_choiceOf 7 = .ok (.if_icmp .ge 31, 3) := by decide +kernel
theorem dX3_choiceOf_10 : decode cX3_choiceOf 10 = .ok (.iload_n 2, 1) := by decide +kernel
theorem dX3_choiceOf_11 : decode cX3_choiceOf 11 = .ok (.iconst 3, 1) := by decide +kernel
theorem dX3_choiceOf_12 : decode cX3_choiceOf 12 = .ok (.if_icmp .ge 26, 3) := by decide +kernel
theorem dX3_choiceOf_15 : decode cX3_choiceOf 15 = .ok (.aload_n 0, 1) := by decide +kernel
theorem dX3_choiceOf_16 : decode cX3_choiceOf 16 = .ok (.getfield 31, 3) := by decide +kernel
theorem dX3_choiceOf_19 : decode cX3_choiceOf 19 = .ok (.iload_n 2, 1) := by decide +kernel
theorem dX3_choiceOf_20 : decode cX3_choiceOf 20 = .ok (.iaload, 1) := by decide +kernel
theorem dX3_choiceOf_21 : decode cX3_choiceOf 21 = .ok (.iload_n 1, 1) := by decide +kernel
theorem dX3_choiceOf_22 : decode cX3_choiceOf 22 = .ok (.if_icmp .ne 10, 3) := by decide +kernel
theorem dX3_choiceOf_25 : decode cX3_choiceOf 25 = .ok (.aload_n 0, 1) := by decide +kernel
theorem dX3_choiceOf_26 : decode cX3_choiceOf 26 = .ok (.getfield 34, 3) := by decide +kernel
theorem dX3_choiceOf_29 : decode cX3_choiceOf 29 = .ok (.iload_n 2, 1) := by decide +kernel
theorem dX3_choiceOf_30 : decode cX3_choiceOf 30 = .ok (.iaload, 1) := by decide +kernel
theorem dX3_choiceOf_31 : decode cX3_choiceOf 31 = .ok (.ireturn, 1) := by decide +kernel
theorem dX3_choiceOf_32 : decode cX3_choiceOf 32 = .ok (.iinc 2 1, 3) := by decide +kernel
theorem dX3_choiceOf_35 : decode cX3_choiceOf 35 = .ok (.goto (-33), 3) := by decide +kernel
theorem dX3_choiceOf_38 : decode cX3_choiceOf 38 = .ok (.iconst (-1), 1) := by decide +kernel
theorem dX3_choiceOf_39 : decode cX3_choiceOf 39 = .ok (.ireturn, 1) := by decide +kernel
theorem dX3_cell_0 : decode cX3_cell 0 = .ok (.iload_n 0, 1) := by decide +kernel
theorem dX3_cell_1 : decode cX3_cell 1 = .ok (.iconst 3, 1) := by decide +kernel
theorem dX3_cell_2 : decode cX3_cell 2 = .ok (.imul, 1) := by decide +kernel
theorem dX3_cell_3 : decode cX3_cell 3 = .ok (.iload_n 1, 1) := by decide +kernel
theorem dX3_cell_4 : decode cX3_cell 4 = .ok (.iadd, 1) := by decide +kernel
theorem dX3_cell_5 : decode cX3_cell 5 = .ok (.iconst 5, 1) := by decide +kernel
theorem dX3_cell_6 : decode cX3_cell 6 = .ok (.imul, 1) := by decide +kernel
theorem dX3_cell_7 : decode cX3_cell 7 = .ok (.iload_n 2, 1) := by decide +kernel
theorem dX3_cell_8 : decode cX3_cell 8 = .ok (.iadd, 1) := by decide +kernel
theorem dX3_cell_9 : decode cX3_cell 9 = .ok (.ireturn, 1) := by decide +kernel
theorem dX3_isEnough_0 : decode cX3_isEnough 0 = .ok (.aload_n 0, 1) := by decide +kernel
theorem dX3_isEnough_1 : decode cX3_isEnough 1 = .ok (.getfield 41, 3) := by decide +kernel
theorem dX3_isEnough_4 : decode cX3_isEnough 4 = .ok (.lload_n 1, 1) := by decide +kernel
theorem dX3_isEnough_5 : decode cX3_isEnough 5 = .ok (.lsub, 1) := by decide +kernel
theorem dX3_isEnough_6 : decode cX3_isEnough 6 = .ok (.ldc2_w 84, 3) := by decide +kernel
theorem dX3_isEnough_9 : decode cX3_isEnough 9 = .ok (.lmul, 1) := by decide +kernel
theorem dX3_isEnough_10 : decode cX3_isEnough 10 = .ok (.aload_n 0, 1) := by decide +kernel
theorem dX3_isEnough_11 : decode cX3_isEnough 11 = .ok (.getfield 45, 3) := by decide +kernel
theorem dX3_isEnough_14 : decode cX3_isEnough 14 = .ok (.i2l, 1) := by decide +kernel
theorem dX3_isEnough_15 : decode cX3_isEnough 15 = .ok (.aload_n 0, 1) := by decide +kernel
theorem dX3_isEnough_16 : decode cX3_isEnough 16 = .ok (.getfield 41, 3) := by decide +kernel
theorem dX3_isEnough_19 : decode cX3_isEnough 19 = .ok (.lmul, 1) := by decide +kernel
theorem dX3_isEnough_20 : decode cX3_isEnough 20 = .ok (.lcmp, 1) := by decide +kernel
theorem dX3_isEnough_21 : decode cX3_isEnough 21 = .ok (.ifCond .lt 7, 3) := by decide +kernel
theorem dX3_isEnough_24 : decode cX3_isEnough 24 = .ok (.iconst 1, 1) := by decide +kernel
theorem dX3_isEnough_25 : decode cX3_isEnough 25 = .ok (.goto 4, 3) := by decide +kernel
theorem dX3_isEnough_28 : decode cX3_isEnough 28 = .ok (.iconst 0, 1) := by decide +kernel
theorem dX3_isEnough_29 : decode cX3_isEnough 29 = .ok (.ireturn, 1) := by decide +kernel
theorem dX3_missOf_0 : decode cX3_missOf 0 = .ok (.lconst 1, 1) := by decide +kernel
theorem dX3_missOf_1 : decode cX3_missOf 1 = .ok (.lstore_n 2, 1) := by decide +kernel
theorem dX3_missOf_2 : decode cX3_missOf 2 = .ok (.lconst 1, 1) := by decide +kernel
theorem dX3_missOf_3 : decode cX3_missOf 3 = .ok (.lstore 4, 2) := by decide +kernel
theorem dX3_missOf_5 : decode cX3_missOf 5 = .ok (.lconst 1, 1) := by decide +kernel
theorem dX3_missOf_6 : decode cX3_missOf 6 = .ok (.lstore 6, 2) := by decide +kernel
theorem dX3_missOf_8 : decode cX3_missOf 8 = .ok (.lconst 1, 1) := by decide +kernel
theorem dX3_missOf_9 : decode cX3_missOf 9 = .ok (.lstore 8, 2) := by decide +kernel
theorem dX3_missOf_11 : decode cX3_missOf 11 = .ok (.lconst 1, 1) := by decide +kernel
theorem dX3_missOf_12 : decode cX3_missOf 12 = .ok (.lstore 10, 2) := by decide +kernel
theorem dX3_missOf_14 : decode cX3_missOf 14 = .ok (.iconst 0, 1) := by decide +kernel
theorem dX3_missOf_15 : decode cX3_missOf 15 = .ok (.istore 12, 2) := by decide +kernel
theorem dX3_missOf_17 : decode cX3_missOf 17 = .ok (.iload 12, 2) := by decide +kernel
theorem dX3_missOf_19 : decode cX3_missOf 19 = .ok (.aload_n 0, 1) := by decide +kernel
theorem dX3_missOf_20 : decode cX3_missOf 20 = .ok (.getfield 37, 3) := by decide +kernel
theorem dX3_missOf_23 : decode cX3_missOf 23 = .ok (.if_icmp .ge 135, 3) := by decide +kernel
theorem dX3_missOf_26 : decode cX3_missOf 26 = .ok (.iload 12, 2) := by decide +kernel
theorem dX3_missOf_28 : decode cX3_missOf 28 = .ok (.iconst 3, 1) := by decide +kernel
theorem dX3_missOf_29 : decode cX3_missOf 29 = .ok (.if_icmp .ge 129, 3) := by decide +kernel
theorem dX3_missOf_32 : decode cX3_missOf 32 = .ok (.aload_n 0, 1) := by decide +kernel
theorem dX3_missOf_33 : decode cX3_missOf 33 = .ok (.getfield 22, 3) := by decide +kernel
theorem dX3_missOf_36 : decode cX3_missOf 36 = .ok (.iload 12, 2) := by decide +kernel
theorem dX3_missOf_38 : decode cX3_missOf 38 = .ok (.iaload, 1) := by decide +kernel
theorem dX3_missOf_39 : decode cX3_missOf 39 = .ok (.iconst 3, 1) := by decide +kernel
theorem dX3_missOf_40 : decode cX3_missOf 40 = .ok (.imul, 1) := by decide +kernel
theorem dX3_missOf_41 : decode cX3_missOf 41 = .ok (.aload_n 0, 1) := by decide +kernel
theorem dX3_missOf_42 : decode cX3_missOf 42 = .ok (.getfield 25, 3) := by decide +kernel
theorem dX3_missOf_45 : decode cX3_missOf 45 = .ok (.iload 12, 2) := by decide +kernel
theorem dX3_missOf_47 : decode cX3_missOf 47 = .ok (.iaload, 1) := by decide +kernel
theorem dX3_missOf_48 : decode cX3_missOf 48 = .ok (.iadd, 1) := by decide +kernel
theorem dX3_missOf_49 : decode cX3_missOf 49 = .ok (.iconst 5, 1) := by decide +kernel
theorem dX3_missOf_50 : decode cX3_missOf 50 = .ok (.imul, 1) := by decide +kernel
theorem dX3_missOf_51 : decode cX3_missOf 51 = .ok (.aload_n 0, 1) := by decide +kernel
theorem dX3_missOf_52 : decode cX3_missOf 52 = .ok (.getfield 28, 3) := by decide +kernel
theorem dX3_missOf_55 : decode cX3_missOf 55 = .ok (.iload 12, 2) := by decide +kernel
theorem dX3_missOf_57 : decode cX3_missOf 57 = .ok (.iaload, 1) := by decide +kernel
theorem dX3_missOf_58 : decode cX3_missOf 58 = .ok (.iadd, 1) := by decide +kernel
theorem dX3_missOf_59 : decode cX3_missOf 59 = .ok (.istore 13, 2) := by decide +kernel
theorem dX3_missOf_61 : decode cX3_missOf 61 = .ok (.iload 13, 2) := by decide +kernel
theorem dX3_missOf_63 : decode cX3_missOf 63 = .ok (.ifCond .lt 20, 3) := by decide +kernel
theorem dX3_missOf_66 : decode cX3_missOf 66 = .ok (.iload 13, 2) := by decide +kernel
theorem dX3_missOf_68 : decode cX3_missOf 68 = .ok (.aload_n 1, 1) := by decide +kernel
theorem dX3_missOf_69 : decode cX3_missOf 69 = .ok (.arraylength, 1) := by decide +kernel
theorem dX3_missOf_70 : decode cX3_missOf 70 = .ok (.if_icmp .ge 13, 3) := by decide +kernel
theorem dX3_missOf_73 : decode cX3_missOf 73 = .ok (.bipush 100, 2) := by decide +kernel
theorem dX3_missOf_75 : decode cX3_missOf 75 = .ok (.aload_n 1, 1) := by decide +kernel
theorem dX3_missOf_76 : decode cX3_missOf 76 = .ok (.iload 13, 2) := by decide +kernel
theorem dX3_missOf_78 : decode cX3_missOf 78 = .ok (.iaload, 1) := by decide +kernel
theorem dX3_missOf_79 : decode cX3_missOf 79 = .ok (.isub, 1) := by decide +kernel
theorem dX3_missOf_80 : decode cX3_missOf 80 = .ok (.goto 5, 3) := by decide +kernel
theorem dX3_missOf_83 : decode cX3_missOf 83 = .ok (.bipush 100, 2) := by decide +kernel
theorem dX3_missOf_85 : decode cX3_missOf 85 = .ok (.istore 14, 2) := by decide +kernel
theorem dX3_missOf_87 : decode cX3_missOf 87 = .ok (.aload_n 0, 1) := by decide +kernel
theorem dX3_missOf_88 : decode cX3_missOf 88 = .ok (.getfield 25, 3) := by decide +kernel
theorem dX3_missOf_91 : decode cX3_missOf 91 = .ok (.iload 12, 2) := by decide +kernel
theorem dX3_missOf_93 : decode cX3_missOf 93 = .ok (.iaload, 1) := by decide +kernel
theorem dX3_missOf_94 : decode cX3_missOf 94 = .ok (.ifCond .ne 12, 3) := by decide +kernel
theorem dX3_missOf_97 : decode cX3_missOf 97 = .ok (.lload_n 2, 1) := by decide +kernel
theorem dX3_missOf_98 : decode cX3_missOf 98 = .ok (.iload 14, 2) := by decide +kernel
theorem dX3_missOf_100 : decode cX3_missOf 100 = .ok (.i2l, 1) := by decide +kernel
theorem dX3_missOf_101 : decode cX3_missOf 101 = .ok (.lmul, 1) := by decide +kernel
theorem dX3_missOf_102 : decode cX3_missOf 102 = .ok (.lstore_n 2, 1) := by decide +kernel
theorem dX3_missOf_103 : decode cX3_missOf 103 = .ok (.goto 49, 3) := by decide +kernel
theorem dX3_missOf_106 : decode cX3_missOf 106 = .ok (.aload_n 0, 1) := by decide +kernel
theorem dX3_missOf_107 : decode cX3_missOf 107 = .ok (.getfield 25, 3) := by decide +kernel
theorem dX3_missOf_110 : decode cX3_missOf 110 = .ok (.iload 12, 2) := by decide +kernel
theorem dX3_missOf_112 : decode cX3_missOf 112 = .ok (.iaload, 1) := by decide +kernel
theorem dX3_missOf_113 : decode cX3_missOf 113 = .ok (.iconst 1, 1) := by decide +kernel
theorem dX3_missOf_114 : decode cX3_missOf 114 = .ok (.if_icmp .ne 22, 3) := by decide +kernel
theorem dX3_missOf_117 : decode cX3_missOf 117 = .ok (.lload 4, 2) := by decide +kernel
theorem dX3_missOf_119 : decode cX3_missOf 119 = .ok (.iload 14, 2) := by decide +kernel
theorem dX3_missOf_121 : decode cX3_missOf 121 = .ok (.i2l, 1) := by decide +kernel
theorem dX3_missOf_122 : decode cX3_missOf 122 = .ok (.lmul, 1) := by decide +kernel
theorem dX3_missOf_123 : decode cX3_missOf 123 = .ok (.lstore 4, 2) := by decide +kernel
theorem dX3_missOf_125 : decode cX3_missOf 125 = .ok (.lload 6, 2) := by decide +kernel
theorem dX3_missOf_127 : decode cX3_missOf 127 = .ok (.ldc2_w 84, 3) := by decide +kernel
theorem dX3_missOf_130 : decode cX3_missOf 130 = .ok (.lmul, 1) := by decide +kernel
theorem dX3_missOf_131 : decode cX3_missOf 131 = .ok (.lstore 6, 2) := by decide +kernel
theorem dX3_missOf_133 : decode cX3_missOf 133 = .ok (.goto 19, 3) := by decide +kernel
theorem dX3_missOf_136 : decode cX3_missOf 136 = .ok (.lload 8, 2) := by decide +kernel
theorem dX3_missOf_138 : decode cX3_missOf 138 = .ok (.iload 14, 2) := by decide +kernel
theorem dX3_missOf_140 : decode cX3_missOf 140 = .ok (.i2l, 1) := by decide +kernel
theorem dX3_missOf_141 : decode cX3_missOf 141 = .ok (.lmul, 1) := by decide +kernel
theorem dX3_missOf_142 : decode cX3_missOf 142 = .ok (.lstore 8, 2) := by decide +kernel
theorem dX3_missOf_144 : decode cX3_missOf 144 = .ok (.lload 10, 2) := by decide +kernel
theorem dX3_missOf_146 : decode cX3_missOf 146 = .ok (.ldc2_w 84, 3) := by decide +kernel
theorem dX3_missOf_149 : decode cX3_missOf 149 = .ok (.lmul, 1) := by decide +kernel
theorem dX3_missOf_150 : decode cX3_missOf 150 = .ok (.lstore 10, 2) := by decide +kernel
theorem dX3_missOf_152 : decode cX3_missOf 152 = .ok (.iinc 12 1, 3) := by decide +kernel
theorem dX3_missOf_155 : decode cX3_missOf 155 = .ok (.goto (-138), 3) := by decide +kernel
theorem dX3_missOf_158 : decode cX3_missOf 158 = .ok (.lload_n 2, 1) := by decide +kernel
theorem dX3_missOf_159 : decode cX3_missOf 159 = .ok (.lload 6, 2) := by decide +kernel
theorem dX3_missOf_161 : decode cX3_missOf 161 = .ok (.lload 10, 2) := by decide +kernel
theorem dX3_missOf_163 : decode cX3_missOf 163 = .ok (.lmul, 1) := by decide +kernel
theorem dX3_missOf_164 : decode cX3_missOf 164 = .ok (.lload 6, 2) := by decide +kernel
theorem dX3_missOf_166 : decode cX3_missOf 166 = .ok (.lload 4, 2) := by decide +kernel
theorem dX3_missOf_168 : decode cX3_missOf 168 = .ok (.lsub, 1) := by decide +kernel
theorem dX3_missOf_169 : decode cX3_missOf 169 = .ok (.lload 10, 2) := by decide +kernel
theorem dX3_missOf_171 : decode cX3_missOf 171 = .ok (.lload 8, 2) := by decide +kernel
theorem dX3_missOf_173 : decode cX3_missOf 173 = .ok (.lsub, 1) := by decide +kernel
theorem dX3_missOf_174 : decode cX3_missOf 174 = .ok (.lmul, 1) := by decide +kernel
theorem dX3_missOf_175 : decode cX3_missOf 175 = .ok (.lsub, 1) := by decide +kernel
theorem dX3_missOf_176 : decode cX3_missOf 176 = .ok (.lmul, 1) := by decide +kernel
theorem dX3_missOf_177 : decode cX3_missOf 177 = .ok (.lreturn, 1) := by decide +kernel
theorem dX3_isBetter_0 : decode cX3_isBetter 0 = .ok (.aload_n 0, 1) := by decide +kernel
theorem dX3_isBetter_1 : decode cX3_isBetter 1 = .ok (.getfield 51, 3) := by decide +kernel
theorem dX3_isBetter_4 : decode cX3_isBetter 4 = .ok (.ifCond .eq 12, 3) := by decide +kernel
theorem dX3_isBetter_7 : decode cX3_isBetter 7 = .ok (.lload_n 1, 1) := by decide +kernel
theorem dX3_isBetter_8 : decode cX3_isBetter 8 = .ok (.aload_n 0, 1) := by decide +kernel
theorem dX3_isBetter_9 : decode cX3_isBetter 9 = .ok (.getfield 58, 3) := by decide +kernel
theorem dX3_isBetter_12 : decode cX3_isBetter 12 = .ok (.lcmp, 1) := by decide +kernel
theorem dX3_isBetter_13 : decode cX3_isBetter 13 = .ok (.ifCond .le 7, 3) := by decide +kernel
theorem dX3_isBetter_16 : decode cX3_isBetter 16 = .ok (.iconst 1, 1) := by decide +kernel
theorem dX3_isBetter_17 : decode cX3_isBetter 17 = .ok (.goto 4, 3) := by decide +kernel
theorem dX3_isBetter_20 : decode cX3_isBetter 20 = .ok (.iconst 0, 1) := by decide +kernel
theorem dX3_isBetter_21 : decode cX3_isBetter 21 = .ok (.ireturn, 1) := by decide +kernel
theorem dX3_compare_0 : decode cX3_compare 0 = .ok (.aload_n 0, 1) := by decide +kernel
theorem dX3_compare_1 : decode cX3_compare 1 = .ok (.aload_n 0, 1) := by decide +kernel
theorem dX3_compare_2 : decode cX3_compare 2 = .ok (.aload_n 0, 1) := by decide +kernel
theorem dX3_compare_3 : decode cX3_compare 3 = .ok (.getfield 11, 3) := by decide +kernel
theorem dX3_compare_6 : decode cX3_compare 6 = .ok (.invokevirtual 126, 3) := by decide +kernel
theorem dX3_compare_9 : decode cX3_compare 9 = .ok (.invokevirtual 130, 3) := by decide +kernel
theorem dX3_compare_12 : decode cX3_compare 12 = .ok (.ifCond .ne 4, 3) := by decide +kernel
theorem dX3_compare_15 : decode cX3_compare 15 = .ok (.return_, 1) := by decide +kernel
theorem dX3_compare_16 : decode cX3_compare 16 = .ok (.aload_n 0, 1) := by decide +kernel
theorem dX3_compare_17 : decode cX3_compare 17 = .ok (.aload_n 0, 1) := by decide +kernel
theorem dX3_compare_18 : decode cX3_compare 18 = .ok (.getfield 15, 3) := by decide +kernel
theorem dX3_compare_21 : decode cX3_compare 21 = .ok (.invokevirtual 126, 3) := by decide +kernel
theorem dX3_compare_24 : decode cX3_compare 24 = .ok (.lstore_n 1, 1) := by decide +kernel
theorem dX3_compare_25 : decode cX3_compare 25 = .ok (.iconst 0, 1) := by decide +kernel
theorem dX3_compare_26 : decode cX3_compare 26 = .ok (.istore_n 3, 1) := by decide +kernel
theorem dX3_compare_27 : decode cX3_compare 27 = .ok (.iconst 0, 1) := by decide +kernel
theorem dX3_compare_28 : decode cX3_compare 28 = .ok (.istore 4, 2) := by decide +kernel
theorem dX3_compare_30 : decode cX3_compare 30 = .ok (.iload 4, 2) := by decide +kernel
theorem dX3_compare_32 : decode cX3_compare 32 = .ok (.aload_n 0, 1) := by decide +kernel
theorem dX3_compare_33 : decode cX3_compare 33 = .ok (.getfield 37, 3) := by decide +kernel
theorem dX3_compare_36 : decode cX3_compare 36 = .ok (.if_icmp .ge 39, 3) := by decide +kernel
theorem dX3_compare_39 : decode cX3_compare 39 = .ok (.iload 4, 2) := by decide +kernel
theorem dX3_compare_41 : decode cX3_compare 41 = .ok (.iconst 3, 1) := by decide +kernel
theorem dX3_compare_42 : decode cX3_compare 42 = .ok (.if_icmp .ge 33, 3) := by decide +kernel
theorem dX3_compare_45 : decode cX3_compare 45 = .ok (.iload_n 3, 1) := by decide +kernel
theorem dX3_compare_46 : decode cX3_compare 46 = .ok (.bipush 100, 2) := by decide +kernel
theorem dX3_compare_48 : decode cX3_compare 48 = .ok (.imul, 1) := by decide +kernel
theorem dX3_compare_49 : decode cX3_compare 49 = .ok (.aload_n 0, 1) := by decide +kernel
theorem dX3_compare_50 : decode cX3_compare 50 = .ok (.getfield 28, 3) := by decide +kernel
theorem dX3_compare_53 : decode cX3_compare 53 = .ok (.iload 4, 2) := by decide +kernel
theorem dX3_compare_55 : decode cX3_compare 55 = .ok (.iaload, 1) := by decide +kernel
theorem dX3_compare_56 : decode cX3_compare 56 = .ok (.bipush 10, 2) := by decide +kernel
theorem dX3_compare_58 : decode cX3_compare 58 = .ok (.imul, 1) := by decide +kernel
theorem dX3_compare_59 : decode cX3_compare 59 = .ok (.iadd, 1) := by decide +kernel
theorem dX3_compare_60 : decode cX3_compare 60 = .ok (.aload_n 0, 1) := by decide +kernel
theorem dX3_compare_61 : decode cX3_compare 61 = .ok (.getfield 25, 3) := by decide +kernel
theorem dX3_compare_64 : decode cX3_compare 64 = .ok (.iload 4, 2) := by decide +kernel
theorem dX3_compare_66 : decode cX3_compare 66 = .ok (.iaload, 1) := by decide +kernel
theorem dX3_compare_67 : decode cX3_compare 67 = .ok (.iadd, 1) := by decide +kernel
theorem dX3_compare_68 : decode cX3_compare 68 = .ok (.istore_n 3, 1) := by decide +kernel
theorem dX3_compare_69 : decode cX3_compare 69 = .ok (.iinc 4 1, 3) := by decide +kernel
theorem dX3_compare_72 : decode cX3_compare 72 = .ok (.goto (-42), 3) := by decide +kernel
theorem dX3_compare_75 : decode cX3_compare 75 = .ok (.aload_n 0, 1) := by decide +kernel
theorem dX3_compare_76 : decode cX3_compare 76 = .ok (.lload_n 1, 1) := by decide +kernel
theorem dX3_compare_77 : decode cX3_compare 77 = .ok (.invokevirtual 134, 3) := by decide +kernel
theorem dX3_compare_80 : decode cX3_compare 80 = .ok (.ifCond .ne 27, 3) := by decide +kernel
theorem dX3_compare_83 : decode cX3_compare 83 = .ok (.aload_n 0, 1) := by decide +kernel
theorem dX3_compare_84 : decode cX3_compare 84 = .ok (.getfield 55, 3) := by decide +kernel
theorem dX3_compare_87 : decode cX3_compare 87 = .ok (.ifCond .eq 26, 3) := by decide +kernel
theorem dX3_compare_90 : decode cX3_compare 90 = .ok (.lload_n 1, 1) := by decide +kernel
theorem dX3_compare_91 : decode cX3_compare 91 = .ok (.aload_n 0, 1) := by decide +kernel
theorem dX3_compare_92 : decode cX3_compare 92 = .ok (.getfield 58, 3) := by decide +kernel
theorem dX3_compare_95 : decode cX3_compare 95 = .ok (.lcmp, 1) := by decide +kernel
theorem dX3_compare_96 : decode cX3_compare 96 = .ok (.ifCond .ne 17, 3) := by decide +kernel
theorem dX3_compare_99 : decode cX3_compare 99 = .ok (.iload_n 3, 1) := by decide +kernel
theorem dX3_compare_100 : decode cX3_compare 100 = .ok (.aload_n 0, 1) := by decide +kernel
theorem dX3_compare_101 : decode cX3_compare 101 = .ok (.getfield 61, 3) := by decide +kernel
theorem dX3_compare_104 : decode cX3_compare 104 = .ok (.if_icmp .ge 9, 3) := by decide +kernel
theorem dX3_compare_107 : decode cX3_compare 107 = .ok (.aload_n 0, 1) := by decide +kernel
theorem dX3_compare_108 : decode cX3_compare 108 = .ok (.lload_n 1, 1) := by decide +kernel
theorem dX3_compare_109 : decode cX3_compare 109 = .ok (.iload_n 3, 1) := by decide +kernel
theorem dX3_compare_110 : decode cX3_compare 110 = .ok (.invokevirtual 144, 3) := by decide +kernel
theorem dX3_compare_113 : decode cX3_compare 113 = .ok (.return_, 1) := by decide +kernel
theorem dX3_keep_0 : decode cX3_keep 0 = .ok (.aload_n 0, 1) := by decide +kernel
theorem dX3_keep_1 : decode cX3_keep 1 = .ok (.iconst 1, 1) := by decide +kernel
theorem dX3_keep_2 : decode cX3_keep 2 = .ok (.putfield 51, 3) := by decide +kernel
theorem dX3_keep_5 : decode cX3_keep 5 = .ok (.aload_n 0, 1) := by decide +kernel
theorem dX3_keep_6 : decode cX3_keep 6 = .ok (.iconst 1, 1) := by decide +kernel
theorem dX3_keep_7 : decode cX3_keep 7 = .ok (.putfield 55, 3) := by decide +kernel
theorem dX3_keep_10 : decode cX3_keep 10 = .ok (.aload_n 0, 1) := by decide +kernel
theorem dX3_keep_11 : decode cX3_keep 11 = .ok (.lload_n 1, 1) := by decide +kernel
theorem dX3_keep_12 : decode cX3_keep 12 = .ok (.putfield 58, 3) := by decide +kernel
theorem dX3_keep_15 : decode cX3_keep 15 = .ok (.aload_n 0, 1) := by decide +kernel
theorem dX3_keep_16 : decode cX3_keep 16 = .ok (.iload_n 3, 1) := by decide +kernel
theorem dX3_keep_17 : decode cX3_keep 17 = .ok (.putfield 61, 3) := by decide +kernel
theorem dX3_keep_20 : decode cX3_keep 20 = .ok (.iconst 0, 1) := by decide +kernel
theorem dX3_keep_21 : decode cX3_keep 21 = .ok (.istore 4, 2) := by decide +kernel
theorem dX3_keep_23 : decode cX3_keep 23 = .ok (.iload 4, 2) := by decide +kernel
theorem dX3_keep_25 : decode cX3_keep 25 = .ok (.aload_n 0, 1) := by decide +kernel
theorem dX3_keep_26 : decode cX3_keep 26 = .ok (.getfield 37, 3) := by decide +kernel
theorem dX3_keep_29 : decode cX3_keep 29 = .ok (.if_icmp .ge 54, 3) := by decide +kernel
theorem dX3_keep_32 : decode cX3_keep 32 = .ok (.iload 4, 2) := by decide +kernel
theorem dX3_keep_34 : decode cX3_keep 34 = .ok (.iconst 3, 1) := by decide +kernel
theorem dX3_keep_35 : decode cX3_keep 35 = .ok (.if_icmp .ge 48, 3) := by decide +kernel
theorem dX3_keep_38 : decode cX3_keep 38 = .ok (.aload_n 0, 1) := by decide +kernel
theorem dX3_keep_39 : decode cX3_keep 39 = .ok (.getfield 31, 3) := by decide +kernel
theorem dX3_keep_42 : decode cX3_keep 42 = .ok (.iload 4, 2) := by decide +kernel
theorem dX3_keep_44 : decode cX3_keep 44 = .ok (.aload_n 0, 1) := by decide +kernel
theorem dX3_keep_45 : decode cX3_keep 45 = .ok (.getfield 22, 3) := by decide +kernel
theorem dX3_keep_48 : decode cX3_keep 48 = .ok (.iload 4, 2) := by decide +kernel
theorem dX3_keep_50 : decode cX3_keep 50 = .ok (.iaload, 1) := by decide +kernel
theorem dX3_keep_51 : decode cX3_keep 51 = .ok (.iastore, 1) := by decide +kernel
theorem dX3_keep_52 : decode cX3_keep 52 = .ok (.aload_n 0, 1) := by decide +kernel
theorem dX3_keep_53 : decode cX3_keep 53 = .ok (.getfield 34, 3) := by decide +kernel
theorem dX3_keep_56 : decode cX3_keep 56 = .ok (.iload 4, 2) := by decide +kernel
theorem dX3_keep_58 : decode cX3_keep 58 = .ok (.aload_n 0, 1) := by decide +kernel
theorem dX3_keep_59 : decode cX3_keep 59 = .ok (.getfield 28, 3) := by decide +kernel
theorem dX3_keep_62 : decode cX3_keep 62 = .ok (.iload 4, 2) := by decide +kernel
theorem dX3_keep_64 : decode cX3_keep 64 = .ok (.iaload, 1) := by decide +kernel
theorem dX3_keep_65 : decode cX3_keep 65 = .ok (.bipush 10, 2) := by decide +kernel
theorem dX3_keep_67 : decode cX3_keep 67 = .ok (.imul, 1) := by decide +kernel
theorem dX3_keep_68 : decode cX3_keep 68 = .ok (.aload_n 0, 1) := by decide +kernel
theorem dX3_keep_69 : decode cX3_keep 69 = .ok (.getfield 25, 3) := by decide +kernel
theorem dX3_keep_72 : decode cX3_keep 72 = .ok (.iload 4, 2) := by decide +kernel
theorem dX3_keep_74 : decode cX3_keep 74 = .ok (.iaload, 1) := by decide +kernel
theorem dX3_keep_75 : decode cX3_keep 75 = .ok (.iadd, 1) := by decide +kernel
theorem dX3_keep_76 : decode cX3_keep 76 = .ok (.iastore, 1) := by decide +kernel
theorem dX3_keep_77 : decode cX3_keep 77 = .ok (.iinc 4 1, 3) := by decide +kernel
theorem dX3_keep_80 : decode cX3_keep 80 = .ok (.goto (-57), 3) := by decide +kernel
theorem dX3_keep_83 : decode cX3_keep 83 = .ok (.return_, 1) := by decide +kernel
