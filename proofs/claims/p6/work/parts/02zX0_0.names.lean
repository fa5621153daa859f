theorem dX0_begin_0 : decode cX0_begin 0 = .ok (.aload_n 0, 1) := by decide +kernel
theorem dX0_begin_1 : decode cX0_begin 1 = .ok (.iconst 0, 1) := by decide +kernel
theorem dX0_begin_2 : decode cX0_begin 2 = .ok (.putfield 9, 3) := by decide +kernel
theorem dX0_begin_5 : decode cX0_begin 5 = .ok (.aload_n 0, 1) := by decide +kernel
theorem dX0_begin_6 : decode cX0_begin 6 = .ok (.lconst 1, 1) := by decide +kernel
theorem dX0_begin_7 : decode cX0_begin 7 = .ok (.putfield 15, 3) := by decide +kernel
theorem dX0_begin_10 : decode cX0_begin 10 = .ok (.iconst 0, 1) := by decide +kernel
theorem dX0_begin_11 : decode cX0_begin 11 = .ok (.istore_n 3, 1) := by decide +kernel
theorem dX0_begin_12 : decode cX0_begin 12 = .ok (.iload_n 3, 1) := by decide +kernel
theorem dX0_begin_13 : decode cX0_begin 13 = .ok (.aload_n 0, 1) := by decide +kernel
theorem dX0_begin_14 : decode cX0_begin 14 = .ok (.getfield 19, 3) := by decide +kernel
theorem dX0_begin_17 : decode cX0_begin 17 = .ok (.arraylength, 1) := by decide +kernel
theorem dX0_begin_18 : decode cX0_begin 18 = .ok (.if_icmp .ge 29, 3) := by decide +kernel
theorem dX0_begin_21 : decode cX0_begin 21 = .ok (.aload_n 0, 1) := by decide +kernel
theorem dX0_begin_22 : decode cX0_begin 22 = .ok (.getfield 19, 3) := by decide +kernel
theorem dX0_begin_25 : decode cX0_begin 25 = .ok (.iload_n 3, 1) := by decide +kernel
theorem dX0_begin_26 : decode cX0_begin 26 = .ok (.iload_n 3, 1) := by decide +kernel
theorem dX0_begin_27 : decode cX0_begin 27 = .ok (.iload_n 1, 1) := by decide +kernel
theorem dX0_begin_28 : decode cX0_begin 28 = .ok (.iconst 4, 1) := by decide +kernel
theorem dX0_begin_29 : decode cX0_begin 29 = .ok (.imul, 1) := by decide +kernel
theorem dX0_begin_30 : decode cX0_begin 30 = .ok (.iload_n 2, 1) := by decide +kernel
theorem dX0_begin_31 : decode cX0_begin 31 = .ok (.iadd, 1) := by decide +kernel
theorem dX0_begin_32 : decode cX0_begin 32 = .ok (.if_icmp .ne 7, 3) := by decide +kernel
theorem dX0_begin_35 : decode cX0_begin 35 = .ok (.lconst 1, 1) := by decide +kernel
theorem dX0_begin_36 : decode cX0_begin 36 = .ok (.goto 4, 3) := by decide +kernel
theorem dX0_begin_39 : decode cX0_begin 39 = .ok (.lconst 0, 1) := by decide +kernel
theorem dX0_begin_40 : decode cX0_begin 40 = .ok (.lastore, 1) := by decide +kernel
theorem dX0_begin_41 : decode cX0_begin 41 = .ok (.iinc 3 1, 3) := by decide +kernel
theorem dX0_begin_44 : decode cX0_begin 44 = .ok (.goto (-32), 3) := by decide +kernel
theorem dX0_begin_47 : decode cX0_begin 47 = .ok (.return_, 1) := by decide +kernel
theorem dX0_add_0 : decode cX0_add 0 = .ok (.aload_n 0, 1) := by decide +kernel
theorem dX0_add_1 : decode cX0_add 1 = .ok (.dup, 1) := by decide +kernel
theorem dX0_add_2 : decode cX0_add 2 = .ok (.getfield 9, 3) := by decide +kernel
theorem dX0_add_5 : decode cX0_add 5 = .ok (.iconst 1, 1) := by decide +kernel
theorem dX0_add_6 : decode cX0_add 6 = .ok (.iadd, 1) := by decide +kernel
theorem dX0_add_7 : decode cX0_add 7 = .ok (.putfield 9, 3) := by decide +kernel
theorem dX0_add_10 : decode cX0_add 10 = .ok (.aload_n 0, 1) := by decide +kernel
theorem dX0_add_11 : decode cX0_add 11 = .ok (.getfield 9, 3) := by decide +kernel
theorem dX0_add_14 : decode cX0_add 14 = .ok (.bipush 8, 2) := by decide +kernel
theorem dX0_add_16 : decode cX0_add 16 = .ok (.if_icmp .le 4, 3) := by decide +kernel
theorem dX0_add_19 : decode cX0_add 19 = .ok (.return_, 1) := by decide +kernel
theorem dX0_add_20 : decode cX0_add 20 = .ok (.aload_n 1, 1) := by decide +kernel
theorem dX0_add_21 : decode cX0_add 21 = .ok (.iload_n 3, 1) := by decide +kernel
theorem dX0_add_22 : decode cX0_add 22 = .ok (.iconst 3, 1) := by decide +kernel
theorem dX0_add_23 : decode cX0_add 23 = .ok (.invokevirtual 26, 3) := by decide +kernel
theorem dX0_add_26 : decode cX0_add 26 = .ok (.invokestatic 32, 3) := by decide +kernel
theorem dX0_add_29 : decode cX0_add 29 = .ok (.istore 4, 2) := by decide +kernel
theorem dX0_add_31 : decode cX0_add 31 = .ok (.aload_n 2, 1) := by decide +kernel
theorem dX0_add_32 : decode cX0_add 32 = .ok (.aload_n 1, 1) := by decide +kernel
theorem dX0_add_33 : decode cX0_add 33 = .ok (.iload_n 3, 1) := by decide +kernel
theorem dX0_add_34 : decode cX0_add 34 = .ok (.invokevirtual 36, 3) := by decide +kernel
theorem dX0_add_37 : decode cX0_add 37 = .ok (.ifCond .eq 8, 3) := by decide +kernel
theorem dX0_add_40 : decode cX0_add 40 = .ok (.iload 4, 2) := by decide +kernel
theorem dX0_add_42 : decode cX0_add 42 = .ok (.goto 4, 3) := by decide +kernel
theorem dX0_add_45 : decode cX0_add 45 = .ok (.iconst 0, 1) := by decide +kernel
theorem dX0_add_46 : decode cX0_add 46 = .ok (.istore 5, 2) := by decide +kernel
theorem dX0_add_48 : decode cX0_add 48 = .ok (.aload_n 2, 1) := by decide +kernel
theorem dX0_add_49 : decode cX0_add 49 = .ok (.aload_n 1, 1) := by decide +kernel
theorem dX0_add_50 : decode cX0_add 50 = .ok (.iload_n 3, 1) := by decide +kernel
theorem dX0_add_51 : decode cX0_add 51 = .ok (.invokevirtual 42, 3) := by decide +kernel
theorem dX0_add_54 : decode cX0_add 54 = .ok (.aload_n 2, 1) := by decide +kernel
theorem dX0_add_55 : decode cX0_add 55 = .ok (.aload_n 1, 1) := by decide +kernel
theorem dX0_add_56 : decode cX0_add 56 = .ok (.iconst 0, 1) := by decide +kernel
theorem dX0_add_57 : decode cX0_add 57 = .ok (.invokevirtual 46, 3) := by decide +kernel
theorem dX0_add_60 : decode cX0_add 60 = .ok (.istore 6, 2) := by decide +kernel
theorem dX0_add_62 : decode cX0_add 62 = .ok (.iload 6, 2) := by decide +kernel
theorem dX0_add_64 : decode cX0_add 64 = .ok (.aload_n 2, 1) := by decide +kernel
theorem dX0_add_65 : decode cX0_add 65 = .ok (.aload_n 1, 1) := by decide +kernel
theorem dX0_add_66 : decode cX0_add 66 = .ok (.iconst 1, 1) := by decide +kernel
theorem dX0_add_67 : decode cX0_add 67 = .ok (.invokevirtual 46, 3) := by decide +kernel
theorem dX0_add_70 : decode cX0_add 70 = .ok (.imul, 1) := by decide +kernel
theorem dX0_add_71 : decode cX0_add 71 = .ok (.istore 7, 2) := by decide +kernel
theorem dX0_add_73 : decode cX0_add 73 = .ok (.bipush 10, 2) := by decide +kernel
theorem dX0_add_75 : decode cX0_add 75 = .ok (.iload 6, 2) := by decide +kernel
theorem dX0_add_77 : decode cX0_add 77 = .ok (.isub, 1) := by decide +kernel
theorem dX0_add_78 : decode cX0_add 78 = .ok (.bipush 10, 2) := by decide +kernel
theorem dX0_add_80 : decode cX0_add 80 = .ok (.imul, 1) := by decide +kernel
theorem dX0_add_81 : decode cX0_add 81 = .ok (.istore 8, 2) := by decide +kernel
theorem dX0_add_83 : decode cX0_add 83 = .ok (.iconst 0, 1) := by decide +kernel
theorem dX0_add_84 : decode cX0_add 84 = .ok (.istore 9, 2) := by decide +kernel
theorem dX0_add_86 : decode cX0_add 86 = .ok (.iload 9, 2) := by decide +kernel
theorem dX0_add_88 : decode cX0_add 88 = .ok (.aload_n 0, 1) := by decide +kernel
theorem dX0_add_89 : decode cX0_add 89 = .ok (.getfield 23, 3) := by decide +kernel
theorem dX0_add_92 : decode cX0_add 92 = .ok (.arraylength, 1) := by decide +kernel
theorem dX0_add_93 : decode cX0_add 93 = .ok (.if_icmp .ge 33, 3) := by decide +kernel
theorem dX0_add_96 : decode cX0_add 96 = .ok (.aload_n 0, 1) := by decide +kernel
theorem dX0_add_97 : decode cX0_add 97 = .ok (.getfield 23, 3) := by decide +kernel
theorem dX0_add_100 : decode cX0_add 100 = .ok (.iload 9, 2) := by decide +kernel
theorem dX0_add_102 : decode cX0_add 102 = .ok (.aload_n 0, 1) := by decide +kernel
theorem dX0_add_103 : decode cX0_add 103 = .ok (.getfield 19, 3) := by decide +kernel
theorem dX0_add_106 : decode cX0_add 106 = .ok (.iload 9, 2) := by decide +kernel
theorem dX0_add_108 : decode cX0_add 108 = .ok (.laload, 1) := by decide +kernel
theorem dX0_add_109 : decode cX0_add 109 = .ok (.bipush 100, 2) := by decide +kernel
theorem dX0_add_111 : decode cX0_add 111 = .ok (.iload 8, 2) := by decide +kernel
theorem dX0_add_113 : decode cX0_add 113 = .ok (.isub, 1) := by decide +kernel
theorem dX0_add_114 : decode cX0_add 114 = .ok (.iload 7, 2) := by decide +kernel
theorem dX0_add_116 : decode cX0_add 116 = .ok (.isub, 1) := by decide +kernel
theorem dX0_add_117 : decode cX0_add 117 = .ok (.i2l, 1) := by decide +kernel
theorem dX0_add_118 : decode cX0_add 118 = .ok (.lmul, 1) := by decide +kernel
theorem dX0_add_119 : decode cX0_add 119 = .ok (.lastore, 1) := by decide +kernel
theorem dX0_add_120 : decode cX0_add 120 = .ok (.iinc 9 1, 3) := by decide +kernel
theorem dX0_add_123 : decode cX0_add 123 = .ok (.goto (-37), 3) := by decide +kernel
theorem dX0_add_126 : decode cX0_add 126 = .ok (.iconst 0, 1) := by decide +kernel
theorem dX0_add_127 : decode cX0_add 127 = .ok (.istore 9, 2) := by decide +kernel
theorem dX0_add_129 : decode cX0_add 129 = .ok (.iload 9, 2) := by decide +kernel
theorem dX0_add_131 : decode cX0_add 131 = .ok (.aload_n 0, 1) := by decide +kernel
theorem dX0_add_132 : decode cX0_add 132 = .ok (.getfield 19, 3) := by decide +kernel
theorem dX0_add_135 : decode cX0_add 135 = .ok (.arraylength, 1) := by decide +kernel
theorem dX0_add_136 : decode cX0_add 136 = .ok (.if_icmp .ge 59, 3) := by decide +kernel
theorem dX0_add_139 : decode cX0_add 139 = .ok (.aload_n 0, 1) := by decide +kernel
theorem dX0_add_140 : decode cX0_add 140 = .ok (.getfield 23, 3) := by decide +kernel
theorem dX0_add_143 : decode cX0_add 143 = .ok (.iload 9, 2) := by decide +kernel
theorem dX0_add_145 : decode cX0_add 145 = .ok (.iload 5, 2) := by decide +kernel
theorem dX0_add_147 : decode cX0_add 147 = .ok (.iconst 4, 1) := by decide +kernel
theorem dX0_add_148 : decode cX0_add 148 = .ok (.imul, 1) := by decide +kernel
theorem dX0_add_149 : decode cX0_add 149 = .ok (.ior, 1) := by decide +kernel
theorem dX0_add_150 : decode cX0_add 150 = .ok (.dup2, 1) := by decide +kernel
theorem dX0_add_151 : decode cX0_add 151 = .ok (.laload, 1) := by decide +kernel
theorem dX0_add_152 : decode cX0_add 152 = .ok (.aload_n 0, 1) := by decide +kernel
theorem dX0_add_153 : decode cX0_add 153 = .ok (.getfield 19, 3) := by decide +kernel
theorem dX0_add_156 : decode cX0_add 156 = .ok (.iload 9, 2) := by decide +kernel
theorem dX0_add_158 : decode cX0_add 158 = .ok (.laload, 1) := by decide +kernel
theorem dX0_add_159 : decode cX0_add 159 = .ok (.iload 8, 2) := by decide +kernel
theorem dX0_add_161 : decode cX0_add 161 = .ok (.i2l, 1) := by decide +kernel
theorem dX0_add_162 : decode cX0_add 162 = .ok (.lmul, 1) := by decide +kernel
theorem dX0_add_163 : decode cX0_add 163 = .ok (.ladd, 1) := by decide +kernel
theorem dX0_add_164 : decode cX0_add 164 = .ok (.lastore, 1) := by decide +kernel
theorem dX0_add_165 : decode cX0_add 165 = .ok (.aload_n 0, 1) := by decide +kernel
theorem dX0_add_166 : decode cX0_add 166 = .ok (.getfield 23, 3) := by decide +kernel
theorem dX0_add_169 : decode cX0_add 169 = .ok (.iload 9, 2) := by decide +kernel
theorem dX0_add_171 : decode cX0_add 171 = .ok (.iload 4, 2) := by decide +kernel
theorem dX0_add_173 : decode cX0_add 173 = .ok (.ior, 1) := by decide +kernel
theorem dX0_add_174 : decode cX0_add 174 = .ok (.dup2, 1) := by decide +kernel
theorem dX0_add_175 : decode cX0_add 175 = .ok (.laload, 1) := by decide +kernel
theorem dX0_add_176 : decode cX0_add 176 = .ok (.aload_n 0, 1) := by decide +kernel
theorem dX0_add_177 : decode cX0_add 177 = .ok (.getfield 19, 3) := by decide +kernel
theorem dX0_add_180 : decode cX0_add 180 = .ok (.iload 9, 2) := by decide +kernel
theorem dX0_add_182 : decode cX0_add 182 = .ok (.laload, 1) := by decide +kernel
theorem dX0_add_183 : decode cX0_add 183 = .ok (.iload 7, 2) := by decide +kernel
theorem dX0_add_185 : decode cX0_add 185 = .ok (.i2l, 1) := by decide +kernel
theorem dX0_add_186 : decode cX0_add 186 = .ok (.lmul, 1) := by decide +kernel
theorem dX0_add_187 : decode cX0_add 187 = .ok (.ladd, 1) := by decide +kernel
theorem dX0_add_188 : decode cX0_add 188 = .ok (.lastore, 1) := by decide +kernel
theorem dX0_add_189 : decode cX0_add 189 = .ok (.iinc 9 1, 3) := by decide +kernel
theorem dX0_add_192 : decode cX0_add 192 = .ok (.goto (-63), 3) := by decide +kernel
theorem dX0_add_195 : decode cX0_add 195 = .ok (.aload_n 0, 1) := by decide +kernel
theorem dX0_add_196 : decode cX0_add 196 = .ok (.getfield 23, 3) := by decide +kernel
theorem dX0_add_199 : decode cX0_add 199 = .ok (.iconst 0, 1) := by decide +kernel
theorem dX0_add_200 : decode cX0_add 200 = .ok (.aload_n 0, 1) := by decide +kernel
theorem dX0_add_201 : decode cX0_add 201 = .ok (.getfield 19, 3) := by decide +kernel
theorem dX0_add_204 : decode cX0_add 204 = .ok (.iconst 0, 1) := by decide +kernel
theorem dX0_add_205 : decode cX0_add 205 = .ok (.aload_n 0, 1) := by decide +kernel
theorem dX0_add_206 : decode cX0_add 206 = .ok (.getfield 19, 3) := by decide +kernel
theorem dX0_add_209 : decode cX0_add 209 = .ok (.arraylength, 1) := by decide +kernel
theorem dX0_add_210 : decode cX0_add 210 = .ok (.invokestatic 50, 3) := by decide +kernel
theorem dX0_add_213 : decode cX0_add 213 = .ok (.aload_n 0, 1) := by decide +kernel
theorem dX0_add_214 : decode cX0_add 214 = .ok (.dup, 1) := by decide +kernel
theorem dX0_add_215 : decode cX0_add 215 = .ok (.getfield 15, 3) := by decide +kernel
theorem dX0_add_218 : decode cX0_add 218 = .ok (.ldc2_w 56, 3) := by decide +kernel
theorem dX0_add_221 : decode cX0_add 221 = .ok (.lmul, 1) := by decide +kernel
theorem dX0_add_222 : decode cX0_add 222 = .ok (.putfield 15, 3) := by decide +kernel
theorem dX0_add_225 : decode cX0_add 225 = .ok (.return_, 1) := by decide +kernel
theorem dX0_upper_0 : decode cX0_upper 0 = .ok (.lconst 0, 1) := by decide +kernel
theorem dX0_upper_1 : decode cX0_upper 1 = .ok (.lstore_n 2, 1) := by decide +kernel
theorem dX0_upper_2 : decode cX0_upper 2 = .ok (.iconst 0, 1) := by decide +kernel
theorem dX0_upper_3 : decode cX0_upper 3 = .ok (.istore 4, 2) := by decide +kernel
theorem dX0_upper_5 : decode cX0_upper 5 = .ok (.iload 4, 2) := by decide +kernel
theorem dX0_upper_7 : decode cX0_upper 7 = .ok (.aload_n 0, 1) := by decide +kernel
theorem dX0_upper_8 : decode cX0_upper 8 = .ok (.getfield 19, 3) := by decide +kernel
theorem dX0_upper_11 : decode cX0_upper 11 = .ok (.arraylength, 1) := by decide +kernel
theorem dX0_upper_12 : decode cX0_upper 12 = .ok (.if_icmp .ge 84, 3) := by decide +kernel
theorem dX0_upper_15 : decode cX0_upper 15 = .ok (.iload 4, 2) := by decide +kernel
theorem dX0_upper_17 : decode cX0_upper 17 = .ok (.iconst 4, 1) := by decide +kernel
theorem dX0_upper_18 : decode cX0_upper 18 = .ok (.idiv, 1) := by decide +kernel
theorem dX0_upper_19 : decode cX0_upper 19 = .ok (.iconst 3, 1) := by decide +kernel
theorem dX0_upper_20 : decode cX0_upper 20 = .ok (.if_icmp .ne 7, 3) := by decide +kernel
theorem dX0_upper_23 : decode cX0_upper 23 = .ok (.iconst 1, 1) := by decide +kernel
theorem dX0_upper_24 : decode cX0_upper 24 = .ok (.goto 4, 3) := by decide +kernel
theorem dX0_upper_27 : decode cX0_upper 27 = .ok (.iconst 0, 1) := by decide +kernel
theorem dX0_upper_28 : decode cX0_upper 28 = .ok (.istore 5, 2) := by decide +kernel
theorem dX0_upper_30 : decode cX0_upper 30 = .ok (.iload 4, 2) := by decide +kernel
theorem dX0_upper_32 : decode cX0_upper 32 = .ok (.iconst 4, 1) := by decide +kernel
theorem dX0_upper_33 : decode cX0_upper 33 = .ok (.irem, 1) := by decide +kernel
theorem dX0_upper_34 : decode cX0_upper 34 = .ok (.iconst 3, 1) := by decide +kernel
theorem dX0_upper_35 : decode cX0_upper 35 = .ok (.if_icmp .ne 7, 3) := by decide +kernel
theorem dX0_upper_38 : decode cX0_upper 38 = .ok (.iconst 1, 1) := by decide +kernel
theorem dX0_upper_39 : decode cX0_upper 39 = .ok (.goto 4, 3) := by decide +kernel
theorem dX0_upper_42 : decode cX0_upper 42 = .ok (.iconst 0, 1) := by decide +kernel
theorem dX0_upper_43 : decode cX0_upper 43 = .ok (.istore 6, 2) := by decide +kernel
theorem dX0_upper_45 : decode cX0_upper 45 = .ok (.iload_n 1, 1) := by decide +kernel
theorem dX0_upper_46 : decode cX0_upper 46 = .ok (.ifCond .ne 11, 3) := by decide +kernel
theorem dX0_upper_49 : decode cX0_upper 49 = .ok (.iload 5, 2) := by decide +kernel
theorem dX0_upper_51 : decode cX0_upper 51 = .ok (.ifCond .eq 39, 3) := by decide +kernel
theorem dX0_upper_54 : decode cX0_upper 54 = .ok (.goto 26, 3) := by decide +kernel
theorem dX0_upper_57 : decode cX0_upper 57 = .ok (.iload_n 1, 1) := by decide +kernel
theorem dX0_upper_58 : decode cX0_upper 58 = .ok (.iconst 1, 1) := by decide +kernel
theorem dX0_upper_59 : decode cX0_upper 59 = .ok (.if_icmp .ne 11, 3) := by decide +kernel
theorem dX0_upper_62 : decode cX0_upper 62 = .ok (.iload 6, 2) := by decide +kernel
theorem dX0_upper_64 : decode cX0_upper 64 = .ok (.ifCond .eq 26, 3) := by decide +kernel
theorem dX0_upper_67 : decode cX0_upper 67 = .ok (.goto 13, 3) := by decide +kernel
theorem dX0_upper_70 : decode cX0_upper 70 = .ok (.iload 5, 2) := by decide +kernel
theorem dX0_upper_72 : decode cX0_upper 72 = .ok (.ifCond .eq 18, 3) := by decide +kernel
theorem dX0_upper_75 : decode cX0_upper 75 = .ok (.iload 6, 2) := by decide +kernel
theorem dX0_upper_77 : decode cX0_upper 77 = .ok (.ifCond .ne 13, 3) := by decide +kernel
theorem dX0_upper_80 : decode cX0_upper 80 = .ok (.lload_n 2, 1) := by decide +kernel
theorem dX0_upper_81 : decode cX0_upper 81 = .ok (.aload_n 0, 1) := by decide +kernel
theorem dX0_upper_82 : decode cX0_upper 82 = .ok (.getfield 19, 3) := by decide +kernel
theorem dX0_upper_85 : decode cX0_upper 85 = .ok (.iload 4, 2) := by decide +kernel
theorem dX0_upper_87 : decode cX0_upper 87 = .ok (.laload, 1) := by decide +kernel
theorem dX0_upper_88 : decode cX0_upper 88 = .ok (.ladd, 1) := by decide +kernel
theorem dX0_upper_89 : decode cX0_upper 89 = .ok (.lstore_n 2, 1) := by decide +kernel
theorem dX0_upper_90 : decode cX0_upper 90 = .ok (.iinc 4 1, 3) := by decide +kernel
theorem dX0_upper_93 : decode cX0_upper 93 = .ok (.goto (-88), 3) := by decide +kernel
theorem dX0_upper_96 : decode cX0_upper 96 = .ok (.lload_n 2, 1) := by decide +kernel
theorem dX0_upper_97 : decode cX0_upper 97 = .ok (.lreturn, 1) := by decide +kernel
