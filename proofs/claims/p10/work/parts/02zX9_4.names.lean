theorem dX9_laysFlock_170 : decode cX9_laysFlock 170 = .ok (.iconst 3, 1) := dk_6 (by decide +kernel)
theorem dX9_laysFlock_171 : decode cX9_laysFlock 171 = .ok (.irem, 1) := dk_112 (by decide +kernel)
theorem dX9_laysFlock_172 : decode cX9_laysFlock 172 = .ok (.aload_n 0, 1) := dk_42 (by decide +kernel)
theorem dX9_laysFlock_173 : decode cX9_laysFlock 173 = .ok (.iload_n 2, 1) := dk_28 (by decide +kernel)
theorem dX9_laysFlock_174 : decode cX9_laysFlock 174 = .ok (.iconst 1, 1) := dk_4 (by decide +kernel)
theorem dX9_laysFlock_175 : decode cX9_laysFlock 175 = .ok (.invokevirtual 138, 3) := dk_182 (by decide +kernel)
theorem dX9_laysFlock_178 : decode cX9_laysFlock 178 = .ok (.invokevirtual 368, 3) := dk_182 (by decide +kernel)
theorem dX9_laysFlock_181 : decode cX9_laysFlock 181 = .ok (.bastore, 1) := dk_84 (by decide +kernel)
theorem dX9_laysFlock_182 : decode cX9_laysFlock 182 = .ok (.iinc 3 1, 3) := dk_132 (by decide +kernel)
theorem dX9_laysFlock_185 : decode cX9_laysFlock 185 = .ok (.goto (-118), 3) := dk_167 (by decide +kernel)
theorem dX9_laysFlock_188 : decode cX9_laysFlock 188 = .ok (.iinc 2 1, 3) := dk_132 (by decide +kernel)
theorem dX9_laysFlock_191 : decode cX9_laysFlock 191 = .ok (.goto (-184), 3) := dk_167 (by decide +kernel)
theorem dX9_laysFlock_194 : decode cX9_laysFlock 194 = .ok (.return_, 1) := dk_177 (by decide +kernel)
theorem dX9_asksPlan_0 : decode cX9_asksPlan 0 = .ok (.aload_n 0, 1) := dk_42 (by decide +kernel)
theorem dX9_asksPlan_1 : decode cX9_asksPlan 1 = .ok (.iconst 0, 1) := dk_3 (by decide +kernel)
theorem dX9_asksPlan_2 : decode cX9_asksPlan 2 = .ok (.iconst 0, 1) := dk_3 (by decide +kernel)
theorem dX9_asksPlan_3 : decode cX9_asksPlan 3 = .ok (.invokevirtual 424, 3) := dk_182 (by decide +kernel)
theorem dX9_asksPlan_6 : decode cX9_asksPlan 6 = .ok (.lconst 1, 1) := dk_10 (by decide +kernel)
theorem dX9_asksPlan_7 : decode cX9_asksPlan 7 = .ok (.lstore_n 3, 1) := dk_66 (by decide +kernel)
theorem dX9_asksPlan_8 : decode cX9_asksPlan 8 = .ok (.iconst 0, 1) := dk_3 (by decide +kernel)
theorem dX9_asksPlan_9 : decode cX9_asksPlan 9 = .ok (.istore 5, 2) := dk_54 (by decide +kernel)
theorem dX9_asksPlan_11 : decode cX9_asksPlan 11 = .ok (.iload 5, 2) := dk_21 (by decide +kernel)
theorem dX9_asksPlan_13 : decode cX9_asksPlan 13 = .ok (.iload_n 1, 1) := dk_27 (by decide +kernel)
theorem dX9_asksPlan_14 : decode cX9_asksPlan 14 = .ok (.if_icmp .ge 69, 3) := dk_162 (by decide +kernel)
theorem dX9_asksPlan_17 : decode cX9_asksPlan 17 = .ok (.bipush 12, 2) := dk_16 (by decide +kernel)
theorem dX9_asksPlan_19 : decode cX9_asksPlan 19 = .ok (.aload_n 0, 1) := dk_42 (by decide +kernel)
theorem dX9_asksPlan_20 : decode cX9_asksPlan 20 = .ok (.getfield 110, 3) := dk_180 (by decide +kernel)
theorem dX9_asksPlan_23 : decode cX9_asksPlan 23 = .ok (.iload 5, 2) := dk_21 (by decide +kernel)
theorem dX9_asksPlan_25 : decode cX9_asksPlan 25 = .ok (.iaload, 1) := dk_46 (by decide +kernel)
theorem dX9_asksPlan_26 : decode cX9_asksPlan 26 = .ok (.imul, 1) := dk_104 (by decide +kernel)
theorem dX9_asksPlan_27 : decode cX9_asksPlan 27 = .ok (.aload_n 0, 1) := dk_42 (by decide +kernel)
theorem dX9_asksPlan_28 : decode cX9_asksPlan 28 = .ok (.getfield 113, 3) := dk_180 (by decide +kernel)
theorem dX9_asksPlan_31 : decode cX9_asksPlan 31 = .ok (.iload 5, 2) := dk_21 (by decide +kernel)
theorem dX9_asksPlan_33 : decode cX9_asksPlan 33 = .ok (.iaload, 1) := dk_46 (by decide +kernel)
theorem dX9_asksPlan_34 : decode cX9_asksPlan 34 = .ok (.iadd, 1) := dk_96 (by decide +kernel)
theorem dX9_asksPlan_35 : decode cX9_asksPlan 35 = .ok (.istore 6, 2) := dk_54 (by decide +kernel)
theorem dX9_asksPlan_37 : decode cX9_asksPlan 37 = .ok (.aload_n 0, 1) := dk_42 (by decide +kernel)
theorem dX9_asksPlan_38 : decode cX9_asksPlan 38 = .ok (.aload_n 0, 1) := dk_42 (by decide +kernel)
theorem dX9_asksPlan_39 : decode cX9_asksPlan 39 = .ok (.getfield 97, 3) := dk_180 (by decide +kernel)
theorem dX9_asksPlan_42 : decode cX9_asksPlan 42 = .ok (.iload 6, 2) := dk_21 (by decide +kernel)
theorem dX9_asksPlan_44 : decode cX9_asksPlan 44 = .ok (.iaload, 1) := dk_46 (by decide +kernel)
theorem dX9_asksPlan_45 : decode cX9_asksPlan 45 = .ok (.aload_n 0, 1) := dk_42 (by decide +kernel)
theorem dX9_asksPlan_46 : decode cX9_asksPlan 46 = .ok (.getfield 100, 3) := dk_180 (by decide +kernel)
theorem dX9_asksPlan_49 : decode cX9_asksPlan 49 = .ok (.iload 6, 2) := dk_21 (by decide +kernel)
theorem dX9_asksPlan_51 : decode cX9_asksPlan 51 = .ok (.iaload, 1) := dk_46 (by decide +kernel)
theorem dX9_asksPlan_52 : decode cX9_asksPlan 52 = .ok (.aload_n 0, 1) := dk_42 (by decide +kernel)
theorem dX9_asksPlan_53 : decode cX9_asksPlan 53 = .ok (.getfield 113, 3) := dk_180 (by decide +kernel)
theorem dX9_asksPlan_56 : decode cX9_asksPlan 56 = .ok (.iload 5, 2) := dk_21 (by decide +kernel)
theorem dX9_asksPlan_58 : decode cX9_asksPlan 58 = .ok (.iaload, 1) := dk_46 (by decide +kernel)
theorem dX9_asksPlan_59 : decode cX9_asksPlan 59 = .ok (.iconst 3, 1) := dk_6 (by decide +kernel)
theorem dX9_asksPlan_60 : decode cX9_asksPlan 60 = .ok (.irem, 1) := dk_112 (by decide +kernel)
theorem dX9_asksPlan_61 : decode cX9_asksPlan 61 = .ok (.aload_n 0, 1) := dk_42 (by decide +kernel)
theorem dX9_asksPlan_62 : decode cX9_asksPlan 62 = .ok (.getfield 103, 3) := dk_180 (by decide +kernel)
theorem dX9_asksPlan_65 : decode cX9_asksPlan 65 = .ok (.iload 6, 2) := dk_21 (by decide +kernel)
theorem dX9_asksPlan_67 : decode cX9_asksPlan 67 = .ok (.baload, 1) := dk_51 (by decide +kernel)
theorem dX9_asksPlan_68 : decode cX9_asksPlan 68 = .ok (.invokevirtual 427, 3) := dk_182 (by decide +kernel)
theorem dX9_asksPlan_71 : decode cX9_asksPlan 71 = .ok (.lload_n 3, 1) := dk_33 (by decide +kernel)
theorem dX9_asksPlan_72 : decode cX9_asksPlan 72 = .ok (.ldc2_w 431, 3) := dk_20 (by decide +kernel)
theorem dX9_asksPlan_75 : decode cX9_asksPlan 75 = .ok (.lmul, 1) := dk_105 (by decide +kernel)
theorem dX9_asksPlan_76 : decode cX9_asksPlan 76 = .ok (.lstore_n 3, 1) := dk_66 (by decide +kernel)
theorem dX9_asksPlan_77 : decode cX9_asksPlan 77 = .ok (.iinc 5 1, 3) := dk_132 (by decide +kernel)
theorem dX9_asksPlan_80 : decode cX9_asksPlan 80 = .ok (.goto (-69), 3) := dk_167 (by decide +kernel)
theorem dX9_asksPlan_83 : decode cX9_asksPlan 83 = .ok (.aload_n 0, 1) := dk_42 (by decide +kernel)
theorem dX9_asksPlan_84 : decode cX9_asksPlan 84 = .ok (.iconst 1, 1) := dk_4 (by decide +kernel)
theorem dX9_asksPlan_85 : decode cX9_asksPlan 85 = .ok (.invokevirtual 433, 3) := dk_182 (by decide +kernel)
theorem dX9_asksPlan_88 : decode cX9_asksPlan 88 = .ok (.lstore 5, 2) := dk_55 (by decide +kernel)
theorem dX9_asksPlan_90 : decode cX9_asksPlan 90 = .ok (.aload_n 0, 1) := dk_42 (by decide +kernel)
theorem dX9_asksPlan_91 : decode cX9_asksPlan 91 = .ok (.iconst 0, 1) := dk_3 (by decide +kernel)
theorem dX9_asksPlan_92 : decode cX9_asksPlan 92 = .ok (.invokevirtual 433, 3) := dk_182 (by decide +kernel)
theorem dX9_asksPlan_95 : decode cX9_asksPlan 95 = .ok (.ldc2_w 431, 3) := dk_20 (by decide +kernel)
theorem dX9_asksPlan_98 : decode cX9_asksPlan 98 = .ok (.lmul, 1) := dk_105 (by decide +kernel)
theorem dX9_asksPlan_99 : decode cX9_asksPlan 99 = .ok (.lload_n 3, 1) := dk_33 (by decide +kernel)
theorem dX9_asksPlan_100 : decode cX9_asksPlan 100 = .ok (.iload_n 2, 1) := dk_28 (by decide +kernel)
theorem dX9_asksPlan_101 : decode cX9_asksPlan 101 = .ok (.i2l, 1) := dk_133 (by decide +kernel)
theorem dX9_asksPlan_102 : decode cX9_asksPlan 102 = .ok (.lmul, 1) := dk_105 (by decide +kernel)
theorem dX9_asksPlan_103 : decode cX9_asksPlan 103 = .ok (.lcmp, 1) := dk_148 (by decide +kernel)
theorem dX9_asksPlan_104 : decode cX9_asksPlan 104 = .ok (.ifCond .lt 24, 3) := dk_155 (by decide +kernel)
theorem dX9_asksPlan_107 : decode cX9_asksPlan 107 = .ok (.aload_n 0, 1) := dk_42 (by decide +kernel)
theorem dX9_asksPlan_108 : decode cX9_asksPlan 108 = .ok (.getfield 439, 3) := dk_180 (by decide +kernel)
theorem dX9_asksPlan_111 : decode cX9_asksPlan 111 = .ok (.ldc2_w 422, 3) := dk_20 (by decide +kernel)
theorem dX9_asksPlan_114 : decode cX9_asksPlan 114 = .ok (.lcmp, 1) := dk_148 (by decide +kernel)
theorem dX9_asksPlan_115 : decode cX9_asksPlan 115 = .ok (.ifCond .eq 14, 3) := dk_153 (by decide +kernel)
theorem dX9_asksPlan_118 : decode cX9_asksPlan 118 = .ok (.lload 5, 2) := dk_22 (by decide +kernel)
theorem dX9_asksPlan_120 : decode cX9_asksPlan 120 = .ok (.aload_n 0, 1) := dk_42 (by decide +kernel)
theorem dX9_asksPlan_121 : decode cX9_asksPlan 121 = .ok (.getfield 439, 3) := dk_180 (by decide +kernel)
theorem dX9_asksPlan_124 : decode cX9_asksPlan 124 = .ok (.lcmp, 1) := dk_148 (by decide +kernel)
theorem dX9_asksPlan_125 : decode cX9_asksPlan 125 = .ok (.ifCond .lt 4, 3) := dk_155 (by decide +kernel)
theorem dX9_asksPlan_128 : decode cX9_asksPlan 128 = .ok (.return_, 1) := dk_177 (by decide +kernel)
theorem dX9_asksPlan_129 : decode cX9_asksPlan 129 = .ok (.aload_n 0, 1) := dk_42 (by decide +kernel)
theorem dX9_asksPlan_130 : decode cX9_asksPlan 130 = .ok (.lload 5, 2) := dk_22 (by decide +kernel)
theorem dX9_asksPlan_132 : decode cX9_asksPlan 132 = .ok (.putfield 439, 3) := dk_181 (by decide +kernel)
theorem dX9_asksPlan_135 : decode cX9_asksPlan 135 = .ok (.iconst 0, 1) := dk_3 (by decide +kernel)
theorem dX9_asksPlan_136 : decode cX9_asksPlan 136 = .ok (.istore 7, 2) := dk_54 (by decide +kernel)
theorem dX9_asksPlan_138 : decode cX9_asksPlan 138 = .ok (.iload 7, 2) := dk_21 (by decide +kernel)
theorem dX9_asksPlan_140 : decode cX9_asksPlan 140 = .ok (.iload_n 1, 1) := dk_27 (by decide +kernel)
theorem dX9_asksPlan_141 : decode cX9_asksPlan 141 = .ok (.if_icmp .ge 37, 3) := dk_162 (by decide +kernel)
theorem dX9_asksPlan_144 : decode cX9_asksPlan 144 = .ok (.aload_n 0, 1) := dk_42 (by decide +kernel)
theorem dX9_asksPlan_145 : decode cX9_asksPlan 145 = .ok (.getfield 116, 3) := dk_180 (by decide +kernel)
theorem dX9_asksPlan_148 : decode cX9_asksPlan 148 = .ok (.iload 7, 2) := dk_21 (by decide +kernel)
theorem dX9_asksPlan_150 : decode cX9_asksPlan 150 = .ok (.aload_n 0, 1) := dk_42 (by decide +kernel)
theorem dX9_asksPlan_151 : decode cX9_asksPlan 151 = .ok (.getfield 110, 3) := dk_180 (by decide +kernel)
theorem dX9_asksPlan_154 : decode cX9_asksPlan 154 = .ok (.iload 7, 2) := dk_21 (by decide +kernel)
theorem dX9_asksPlan_156 : decode cX9_asksPlan 156 = .ok (.iaload, 1) := dk_46 (by decide +kernel)
theorem dX9_asksPlan_157 : decode cX9_asksPlan 157 = .ok (.iastore, 1) := dk_79 (by decide +kernel)
theorem dX9_asksPlan_158 : decode cX9_asksPlan 158 = .ok (.aload_n 0, 1) := dk_42 (by decide +kernel)
theorem dX9_asksPlan_159 : decode cX9_asksPlan 159 = .ok (.getfield 119, 3) := dk_180 (by decide +kernel)
theorem dX9_asksPlan_162 : decode cX9_asksPlan 162 = .ok (.iload 7, 2) := dk_21 (by decide +kernel)
theorem dX9_asksPlan_164 : decode cX9_asksPlan 164 = .ok (.aload_n 0, 1) := dk_42 (by decide +kernel)
theorem dX9_asksPlan_165 : decode cX9_asksPlan 165 = .ok (.getfield 113, 3) := dk_180 (by decide +kernel)
theorem dX9_asksPlan_168 : decode cX9_asksPlan 168 = .ok (.iload 7, 2) := dk_21 (by decide +kernel)
theorem dX9_asksPlan_170 : decode cX9_asksPlan 170 = .ok (.iaload, 1) := dk_46 (by decide +kernel)
theorem dX9_asksPlan_171 : decode cX9_asksPlan 171 = .ok (.iastore, 1) := dk_79 (by decide +kernel)
theorem dX9_asksPlan_172 : decode cX9_asksPlan 172 = .ok (.iinc 7 1, 3) := dk_132 (by decide +kernel)
theorem dX9_asksPlan_175 : decode cX9_asksPlan 175 = .ok (.goto (-37), 3) := dk_167 (by decide +kernel)
theorem dX9_asksPlan_178 : decode cX9_asksPlan 178 = .ok (.return_, 1) := dk_177 (by decide +kernel)
theorem dX9_triesDoings_0 : decode cX9_triesDoings 0 = .ok (.iconst 1, 1) := dk_4 (by decide +kernel)
theorem dX9_triesDoings_1 : decode cX9_triesDoings 1 = .ok (.istore_n 3, 1) := dk_62 (by decide +kernel)
theorem dX9_triesDoings_2 : decode cX9_triesDoings 2 = .ok (.iconst 0, 1) := dk_3 (by decide +kernel)
theorem dX9_triesDoings_3 : decode cX9_triesDoings 3 = .ok (.istore 4, 2) := dk_54 (by decide +kernel)
theorem dX9_triesDoings_5 : decode cX9_triesDoings 5 = .ok (.iload 4, 2) := dk_21 (by decide +kernel)
theorem dX9_triesDoings_7 : decode cX9_triesDoings 7 = .ok (.iload_n 1, 1) := dk_27 (by decide +kernel)
theorem dX9_triesDoings_8 : decode cX9_triesDoings 8 = .ok (.if_icmp .ge 20, 3) := dk_162 (by decide +kernel)
theorem dX9_triesDoings_11 : decode cX9_triesDoings 11 = .ok (.iload_n 3, 1) := dk_29 (by decide +kernel)
theorem dX9_triesDoings_12 : decode cX9_triesDoings 12 = .ok (.iconst 3, 1) := dk_6 (by decide +kernel)
theorem dX9_triesDoings_13 : decode cX9_triesDoings 13 = .ok (.imul, 1) := dk_104 (by decide +kernel)
theorem dX9_triesDoings_14 : decode cX9_triesDoings 14 = .ok (.aload_n 0, 1) := dk_42 (by decide +kernel)
theorem dX9_triesDoings_15 : decode cX9_triesDoings 15 = .ok (.getfield 7, 3) := dk_180 (by decide +kernel)
theorem dX9_triesDoings_18 : decode cX9_triesDoings 18 = .ok (.iconst 0, 1) := dk_3 (by decide +kernel)
theorem dX9_triesDoings_19 : decode cX9_triesDoings 19 = .ok (.iaload, 1) := dk_46 (by decide +kernel)
theorem dX9_triesDoings_20 : decode cX9_triesDoings 20 = .ok (.imul, 1) := dk_104 (by decide +kernel)
theorem dX9_triesDoings_21 : decode cX9_triesDoings 21 = .ok (.istore_n 3, 1) := dk_62 (by decide +kernel)
theorem dX9_triesDoings_22 : decode cX9_triesDoings 22 = .ok (.iinc 4 1, 3) := dk_132 (by decide +kernel)
theorem dX9_triesDoings_25 : decode cX9_triesDoings 25 = .ok (.goto (-20), 3) := dk_167 (by decide +kernel)
theorem dX9_triesDoings_28 : decode cX9_triesDoings 28 = .ok (.iconst 0, 1) := dk_3 (by decide +kernel)
theorem dX9_triesDoings_29 : decode cX9_triesDoings 29 = .ok (.istore 4, 2) := dk_54 (by decide +kernel)
theorem dX9_triesDoings_31 : decode cX9_triesDoings 31 = .ok (.iload 4, 2) := dk_21 (by decide +kernel)
theorem dX9_triesDoings_33 : decode cX9_triesDoings 33 = .ok (.iload_n 3, 1) := dk_29 (by decide +kernel)
theorem dX9_triesDoings_34 : decode cX9_triesDoings 34 = .ok (.if_icmp .ge 66, 3) := dk_162 (by decide +kernel)
theorem dX9_triesDoings_37 : decode cX9_triesDoings 37 = .ok (.iload 4, 2) := dk_21 (by decide +kernel)
theorem dX9_triesDoings_39 : decode cX9_triesDoings 39 = .ok (.istore 5, 2) := dk_54 (by decide +kernel)
theorem dX9_triesDoings_41 : decode cX9_triesDoings 41 = .ok (.iload_n 1, 1) := dk_27 (by decide +kernel)
theorem dX9_triesDoings_42 : decode cX9_triesDoings 42 = .ok (.iconst 1, 1) := dk_4 (by decide +kernel)
theorem dX9_triesDoings_43 : decode cX9_triesDoings 43 = .ok (.isub, 1) := dk_100 (by decide +kernel)
theorem dX9_triesDoings_44 : decode cX9_triesDoings 44 = .ok (.istore 6, 2) := dk_54 (by decide +kernel)
theorem dX9_triesDoings_46 : decode cX9_triesDoings 46 = .ok (.iload 6, 2) := dk_21 (by decide +kernel)
theorem dX9_triesDoings_48 : decode cX9_triesDoings 48 = .ok (.ifCond .lt 40, 3) := dk_155 (by decide +kernel)
theorem dX9_triesDoings_51 : decode cX9_triesDoings 51 = .ok (.aload_n 0, 1) := dk_42 (by decide +kernel)
theorem dX9_triesDoings_52 : decode cX9_triesDoings 52 = .ok (.getfield 113, 3) := dk_180 (by decide +kernel)
theorem dX9_triesDoings_55 : decode cX9_triesDoings 55 = .ok (.iload 6, 2) := dk_21 (by decide +kernel)
theorem dX9_triesDoings_57 : decode cX9_triesDoings 57 = .ok (.iload 5, 2) := dk_21 (by decide +kernel)
theorem dX9_triesDoings_59 : decode cX9_triesDoings 59 = .ok (.iconst 3, 1) := dk_6 (by decide +kernel)
theorem dX9_triesDoings_60 : decode cX9_triesDoings 60 = .ok (.aload_n 0, 1) := dk_42 (by decide +kernel)
theorem dX9_triesDoings_61 : decode cX9_triesDoings 61 = .ok (.getfield 7, 3) := dk_180 (by decide +kernel)
theorem dX9_triesDoings_64 : decode cX9_triesDoings 64 = .ok (.iconst 0, 1) := dk_3 (by decide +kernel)
theorem dX9_triesDoings_65 : decode cX9_triesDoings 65 = .ok (.iaload, 1) := dk_46 (by decide +kernel)
theorem dX9_triesDoings_66 : decode cX9_triesDoings 66 = .ok (.imul, 1) := dk_104 (by decide +kernel)
theorem dX9_triesDoings_67 : decode cX9_triesDoings 67 = .ok (.irem, 1) := dk_112 (by decide +kernel)
theorem dX9_triesDoings_68 : decode cX9_triesDoings 68 = .ok (.iastore, 1) := dk_79 (by decide +kernel)
theorem dX9_triesDoings_69 : decode cX9_triesDoings 69 = .ok (.iload 5, 2) := dk_21 (by decide +kernel)
theorem dX9_triesDoings_71 : decode cX9_triesDoings 71 = .ok (.iconst 3, 1) := dk_6 (by decide +kernel)
theorem dX9_triesDoings_72 : decode cX9_triesDoings 72 = .ok (.aload_n 0, 1) := dk_42 (by decide +kernel)
theorem dX9_triesDoings_73 : decode cX9_triesDoings 73 = .ok (.getfield 7, 3) := dk_180 (by decide +kernel)
theorem dX9_triesDoings_76 : decode cX9_triesDoings 76 = .ok (.iconst 0, 1) := dk_3 (by decide +kernel)
theorem dX9_triesDoings_77 : decode cX9_triesDoings 77 = .ok (.iaload, 1) := dk_46 (by decide +kernel)
theorem dX9_triesDoings_78 : decode cX9_triesDoings 78 = .ok (.imul, 1) := dk_104 (by decide +kernel)
theorem dX9_triesDoings_79 : decode cX9_triesDoings 79 = .ok (.idiv, 1) := dk_108 (by decide +kernel)
theorem dX9_triesDoings_80 : decode cX9_triesDoings 80 = .ok (.istore 5, 2) := dk_54 (by decide +kernel)
theorem dX9_triesDoings_82 : decode cX9_triesDoings 82 = .ok (.iinc 6 (-1), 3) := dk_132 (by decide +kernel)
theorem dX9_triesDoings_85 : decode cX9_triesDoings 85 = .ok (.goto (-39), 3) := dk_167 (by decide +kernel)
theorem dX9_triesDoings_88 : decode cX9_triesDoings 88 = .ok (.aload_n 0, 1) := dk_42 (by decide +kernel)
theorem dX9_triesDoings_89 : decode cX9_triesDoings 89 = .ok (.iload_n 1, 1) := dk_27 (by decide +kernel)
theorem dX9_triesDoings_90 : decode cX9_triesDoings 90 = .ok (.iload_n 2, 1) := dk_28 (by decide +kernel)
theorem dX9_triesDoings_91 : decode cX9_triesDoings 91 = .ok (.invokevirtual 443, 3) := dk_182 (by decide +kernel)
theorem dX9_triesDoings_94 : decode cX9_triesDoings 94 = .ok (.iinc 4 1, 3) := dk_132 (by decide +kernel)
theorem dX9_triesDoings_97 : decode cX9_triesDoings 97 = .ok (.goto (-66), 3) := dk_167 (by decide +kernel)
theorem dX9_triesDoings_100 : decode cX9_triesDoings 100 = .ok (.return_, 1) := dk_177 (by decide +kernel)
theorem dX9_plansOf_0 : decode cX9_plansOf 0 = .ok (.aload_n 0, 1) := dk_42 (by decide +kernel)
theorem dX9_plansOf_1 : decode cX9_plansOf 1 = .ok (.ldc2_w 422, 3) := dk_20 (by decide +kernel)
theorem dX9_plansOf_4 : decode cX9_plansOf 4 = .ok (.putfield 439, 3) := dk_181 (by decide +kernel)
theorem dX9_plansOf_7 : decode cX9_plansOf 7 = .ok (.iconst 0, 1) := dk_3 (by decide +kernel)
theorem dX9_plansOf_8 : decode cX9_plansOf 8 = .ok (.istore_n 3, 1) := dk_62 (by decide +kernel)
theorem dX9_plansOf_9 : decode cX9_plansOf 9 = .ok (.iload_n 3, 1) := dk_29 (by decide +kernel)
theorem dX9_plansOf_10 : decode cX9_plansOf 10 = .ok (.sipush 1024, 3) := dk_17 (by decide +kernel)
theorem dX9_plansOf_13 : decode cX9_plansOf 13 = .ok (.if_icmp .ge 138, 3) := dk_162 (by decide +kernel)
theorem dX9_plansOf_16 : decode cX9_plansOf 16 = .ok (.iconst 0, 1) := dk_3 (by decide +kernel)
theorem dX9_plansOf_17 : decode cX9_plansOf 17 = .ok (.istore 4, 2) := dk_54 (by decide +kernel)
theorem dX9_plansOf_19 : decode cX9_plansOf 19 = .ok (.iconst 1, 1) := dk_4 (by decide +kernel)
theorem dX9_plansOf_20 : decode cX9_plansOf 20 = .ok (.istore 5, 2) := dk_54 (by decide +kernel)
theorem dX9_plansOf_22 : decode cX9_plansOf 22 = .ok (.iconst 0, 1) := dk_3 (by decide +kernel)
theorem dX9_plansOf_23 : decode cX9_plansOf 23 = .ok (.istore 6, 2) := dk_54 (by decide +kernel)
theorem dX9_plansOf_25 : decode cX9_plansOf 25 = .ok (.iload 6, 2) := dk_21 (by decide +kernel)
theorem dX9_plansOf_27 : decode cX9_plansOf 27 = .ok (.bipush 10, 2) := dk_16 (by decide +kernel)
theorem dX9_plansOf_29 : decode cX9_plansOf 29 = .ok (.if_icmp .ge 99, 3) := dk_162 (by decide +kernel)
theorem dX9_plansOf_32 : decode cX9_plansOf 32 = .ok (.iload_n 3, 1) := dk_29 (by decide +kernel)
theorem dX9_plansOf_33 : decode cX9_plansOf 33 = .ok (.iload 6, 2) := dk_21 (by decide +kernel)
theorem dX9_plansOf_35 : decode cX9_plansOf 35 = .ok (.ishr, 1) := dk_122 (by decide +kernel)
theorem dX9_plansOf_36 : decode cX9_plansOf 36 = .ok (.iconst 1, 1) := dk_4 (by decide +kernel)
theorem dX9_plansOf_37 : decode cX9_plansOf 37 = .ok (.iand, 1) := dk_126 (by decide +kernel)
theorem dX9_plansOf_38 : decode cX9_plansOf 38 = .ok (.iconst 1, 1) := dk_4 (by decide +kernel)
theorem dX9_plansOf_39 : decode cX9_plansOf 39 = .ok (.if_icmp .ne 83, 3) := dk_160 (by decide +kernel)
theorem dX9_plansOf_42 : decode cX9_plansOf 42 = .ok (.iconst 0, 1) := dk_3 (by decide +kernel)
theorem dX9_plansOf_43 : decode cX9_plansOf 43 = .ok (.istore 7, 2) := dk_54 (by decide +kernel)
theorem dX9_plansOf_45 : decode cX9_plansOf 45 = .ok (.iconst 0, 1) := dk_3 (by decide +kernel)
theorem dX9_plansOf_46 : decode cX9_plansOf 46 = .ok (.istore 8, 2) := dk_54 (by decide +kernel)
theorem dX9_plansOf_48 : decode cX9_plansOf 48 = .ok (.iload 8, 2) := dk_21 (by decide +kernel)
theorem dX9_plansOf_50 : decode cX9_plansOf 50 = .ok (.aload_n 0, 1) := dk_42 (by decide +kernel)
theorem dX9_plansOf_51 : decode cX9_plansOf 51 = .ok (.getfield 436, 3) := dk_180 (by decide +kernel)
theorem dX9_plansOf_54 : decode cX9_plansOf 54 = .ok (.if_icmp .ge 33, 3) := dk_162 (by decide +kernel)
theorem dX9_plansOf_57 : decode cX9_plansOf 57 = .ok (.iload 7, 2) := dk_21 (by decide +kernel)
theorem dX9_plansOf_59 : decode cX9_plansOf 59 = .ok (.ifCond .ne 15, 3) := dk_154 (by decide +kernel)
theorem dX9_plansOf_62 : decode cX9_plansOf 62 = .ok (.aload_n 0, 1) := dk_42 (by decide +kernel)
theorem dX9_plansOf_63 : decode cX9_plansOf 63 = .ok (.getfield 107, 3) := dk_180 (by decide +kernel)
theorem dX9_plansOf_66 : decode cX9_plansOf 66 = .ok (.iload 8, 2) := dk_21 (by decide +kernel)
theorem dX9_plansOf_68 : decode cX9_plansOf 68 = .ok (.iaload, 1) := dk_46 (by decide +kernel)
theorem dX9_plansOf_69 : decode cX9_plansOf 69 = .ok (.iload 6, 2) := dk_21 (by decide +kernel)
theorem dX9_plansOf_71 : decode cX9_plansOf 71 = .ok (.if_icmp .ne 7, 3) := dk_160 (by decide +kernel)
theorem dX9_plansOf_74 : decode cX9_plansOf 74 = .ok (.iconst 1, 1) := dk_4 (by decide +kernel)
theorem dX9_plansOf_75 : decode cX9_plansOf 75 = .ok (.goto 4, 3) := dk_167 (by decide +kernel)
theorem dX9_plansOf_78 : decode cX9_plansOf 78 = .ok (.iconst 0, 1) := dk_3 (by decide +kernel)
theorem dX9_plansOf_79 : decode cX9_plansOf 79 = .ok (.istore 7, 2) := dk_54 (by decide +kernel)
theorem dX9_plansOf_81 : decode cX9_plansOf 81 = .ok (.iinc 8 1, 3) := dk_132 (by decide +kernel)
theorem dX9_plansOf_84 : decode cX9_plansOf 84 = .ok (.goto (-36), 3) := dk_167 (by decide +kernel)
theorem dX9_plansOf_87 : decode cX9_plansOf 87 = .ok (.iload 5, 2) := dk_21 (by decide +kernel)
theorem dX9_plansOf_89 : decode cX9_plansOf 89 = .ok (.ifCond .eq 12, 3) := dk_153 (by decide +kernel)
theorem dX9_plansOf_92 : decode cX9_plansOf 92 = .ok (.iload 7, 2) := dk_21 (by decide +kernel)
theorem dX9_plansOf_94 : decode cX9_plansOf 94 = .ok (.ifCond .eq 7, 3) := dk_153 (by decide +kernel)
theorem dX9_plansOf_97 : decode cX9_plansOf 97 = .ok (.iconst 1, 1) := dk_4 (by decide +kernel)
theorem dX9_plansOf_98 : decode cX9_plansOf 98 = .ok (.goto 4, 3) := dk_167 (by decide +kernel)
theorem dX9_plansOf_101 : decode cX9_plansOf 101 = .ok (.iconst 0, 1) := dk_3 (by decide +kernel)
theorem dX9_plansOf_102 : decode cX9_plansOf 102 = .ok (.istore 5, 2) := dk_54 (by decide +kernel)
theorem dX9_plansOf_104 : decode cX9_plansOf 104 = .ok (.iload 4, 2) := dk_21 (by decide +kernel)
theorem dX9_plansOf_106 : decode cX9_plansOf 106 = .ok (.iconst 3, 1) := dk_6 (by decide +kernel)
theorem dX9_plansOf_107 : decode cX9_plansOf 107 = .ok (.if_icmp .ge 12, 3) := dk_162 (by decide +kernel)
theorem dX9_plansOf_110 : decode cX9_plansOf 110 = .ok (.aload_n 0, 1) := dk_42 (by decide +kernel)
theorem dX9_plansOf_111 : decode cX9_plansOf 111 = .ok (.getfield 110, 3) := dk_180 (by decide +kernel)
theorem dX9_plansOf_114 : decode cX9_plansOf 114 = .ok (.iload 4, 2) := dk_21 (by decide +kernel)
theorem dX9_plansOf_116 : decode cX9_plansOf 116 = .ok (.iload 6, 2) := dk_21 (by decide +kernel)
theorem dX9_plansOf_118 : decode cX9_plansOf 118 = .ok (.iastore, 1) := dk_79 (by decide +kernel)
theorem dX9_plansOf_119 : decode cX9_plansOf 119 = .ok (.iinc 4 1, 3) := dk_132 (by decide +kernel)
theorem dX9_plansOf_122 : decode cX9_plansOf 122 = .ok (.iinc 6 1, 3) := dk_132 (by decide +kernel)
theorem dX9_plansOf_125 : decode cX9_plansOf 125 = .ok (.goto (-100), 3) := dk_167 (by decide +kernel)
theorem dX9_plansOf_128 : decode cX9_plansOf 128 = .ok (.iload 5, 2) := dk_21 (by decide +kernel)
theorem dX9_plansOf_130 : decode cX9_plansOf 130 = .ok (.ifCond .eq 15, 3) := dk_153 (by decide +kernel)
theorem dX9_plansOf_133 : decode cX9_plansOf 133 = .ok (.iload 4, 2) := dk_21 (by decide +kernel)
theorem dX9_plansOf_135 : decode cX9_plansOf 135 = .ok (.iload_n 1, 1) := dk_27 (by decide +kernel)
theorem dX9_plansOf_136 : decode cX9_plansOf 136 = .ok (.if_icmp .ne 9, 3) := dk_160 (by decide +kernel)
theorem dX9_plansOf_139 : decode cX9_plansOf 139 = .ok (.aload_n 0, 1) := dk_42 (by decide +kernel)
theorem dX9_plansOf_140 : decode cX9_plansOf 140 = .ok (.iload_n 1, 1) := dk_27 (by decide +kernel)
theorem dX9_plansOf_141 : decode cX9_plansOf 141 = .ok (.iload_n 2, 1) := dk_28 (by decide +kernel)
theorem dX9_plansOf_142 : decode cX9_plansOf 142 = .ok (.invokevirtual 446, 3) := dk_182 (by decide +kernel)
theorem dX9_plansOf_145 : decode cX9_plansOf 145 = .ok (.iinc 3 1, 3) := dk_132 (by decide +kernel)
theorem dX9_plansOf_148 : decode cX9_plansOf 148 = .ok (.goto (-139), 3) := dk_167 (by decide +kernel)
theorem dX9_plansOf_151 : decode cX9_plansOf 151 = .ok (.aload_n 0, 1) := dk_42 (by decide +kernel)
theorem dX9_plansOf_152 : decode cX9_plansOf 152 = .ok (.getfield 439, 3) := dk_180 (by decide +kernel)
theorem dX9_plansOf_155 : decode cX9_plansOf 155 = .ok (.ldc2_w 422, 3) := dk_20 (by decide +kernel)
theorem dX9_plansOf_158 : decode cX9_plansOf 158 = .ok (.lcmp, 1) := dk_148 (by decide +kernel)
theorem dX9_plansOf_159 : decode cX9_plansOf 159 = .ok (.ifCond .eq 7, 3) := dk_153 (by decide +kernel)
theorem dX9_plansOf_162 : decode cX9_plansOf 162 = .ok (.iconst 1, 1) := dk_4 (by decide +kernel)
theorem dX9_plansOf_163 : decode cX9_plansOf 163 = .ok (.goto 4, 3) := dk_167 (by decide +kernel)
theorem dX9_plansOf_166 : decode cX9_plansOf 166 = .ok (.iconst 0, 1) := dk_3 (by decide +kernel)
theorem dX9_plansOf_167 : decode cX9_plansOf 167 = .ok (.ireturn, 1) := dk_172 (by decide +kernel)
theorem dX9_plan_0 : decode cX9_plan 0 = .ok (.iload_n 1, 1) := dk_27 (by decide +kernel)
theorem dX9_plan_1 : decode cX9_plan 1 = .ok (.invokestatic 409, 3) := dk_184 (by decide +kernel)
theorem dX9_plan_4 : decode cX9_plan 4 = .ok (.ifCond .eq 26, 3) := dk_153 (by decide +kernel)
theorem dX9_plan_7 : decode cX9_plan 7 = .ok (.iload_n 2, 1) := dk_28 (by decide +kernel)
theorem dX9_plan_8 : decode cX9_plan 8 = .ok (.iconst 1, 1) := dk_4 (by decide +kernel)
theorem dX9_plan_9 : decode cX9_plan 9 = .ok (.bipush 100, 2) := dk_16 (by decide +kernel)
theorem dX9_plan_11 : decode cX9_plan 11 = .ok (.invokestatic 126, 3) := dk_184 (by decide +kernel)
theorem dX9_plan_14 : decode cX9_plan 14 = .ok (.ifCond .eq 16, 3) := dk_153 (by decide +kernel)
theorem dX9_plan_17 : decode cX9_plan 17 = .ok (.iload_n 3, 1) := dk_29 (by decide +kernel)
theorem dX9_plan_18 : decode cX9_plan 18 = .ok (.iconst (-1), 1) := dk_2 (by decide +kernel)
theorem dX9_plan_19 : decode cX9_plan 19 = .ok (.if_icmp .eq 14, 3) := dk_159 (by decide +kernel)
theorem dX9_plan_22 : decode cX9_plan 22 = .ok (.aload_n 0, 1) := dk_42 (by decide +kernel)
theorem dX9_plan_23 : decode cX9_plan 23 = .ok (.iload_n 3, 1) := dk_29 (by decide +kernel)
theorem dX9_plan_24 : decode cX9_plan 24 = .ok (.invokevirtual 134, 3) := dk_182 (by decide +kernel)
theorem dX9_plan_27 : decode cX9_plan 27 = .ok (.ifCond .ne 6, 3) := dk_154 (by decide +kernel)
theorem dX9_plan_30 : decode cX9_plan 30 = .ok (.bipush (-2), 2) := dk_16 (by decide +kernel)
theorem dX9_plan_32 : decode cX9_plan 32 = .ok (.ireturn, 1) := dk_172 (by decide +kernel)
theorem dX9_plan_33 : decode cX9_plan 33 = .ok (.aload_n 0, 1) := dk_42 (by decide +kernel)
theorem dX9_plan_34 : decode cX9_plan 34 = .ok (.iload_n 1, 1) := dk_27 (by decide +kernel)
theorem dX9_plan_35 : decode cX9_plan 35 = .ok (.invokevirtual 449, 3) := dk_182 (by decide +kernel)
theorem dX9_plan_38 : decode cX9_plan 38 = .ok (.iconst 1, 1) := dk_4 (by decide +kernel)
theorem dX9_plan_39 : decode cX9_plan 39 = .ok (.istore 4, 2) := dk_54 (by decide +kernel)
theorem dX9_plan_41 : decode cX9_plan 41 = .ok (.iload 4, 2) := dk_21 (by decide +kernel)
theorem dX9_plan_43 : decode cX9_plan 43 = .ok (.iconst 4, 1) := dk_7 (by decide +kernel)
theorem dX9_plan_44 : decode cX9_plan 44 = .ok (.if_icmp .ge 96, 3) := dk_162 (by decide +kernel)
theorem dX9_plan_47 : decode cX9_plan 47 = .ok (.aload_n 0, 1) := dk_42 (by decide +kernel)
theorem dX9_plan_48 : decode cX9_plan 48 = .ok (.iload 4, 2) := dk_21 (by decide +kernel)
theorem dX9_plan_50 : decode cX9_plan 50 = .ok (.iload_n 2, 1) := dk_28 (by decide +kernel)
theorem dX9_plan_51 : decode cX9_plan 51 = .ok (.invokevirtual 452, 3) := dk_182 (by decide +kernel)
theorem dX9_plan_54 : decode cX9_plan 54 = .ok (.ifCond .eq 80, 3) := dk_153 (by decide +kernel)
theorem dX9_plan_57 : decode cX9_plan 57 = .ok (.iload_n 3, 1) := dk_29 (by decide +kernel)
theorem dX9_plan_58 : decode cX9_plan 58 = .ok (.iconst (-1), 1) := dk_2 (by decide +kernel)
theorem dX9_plan_59 : decode cX9_plan 59 = .ok (.if_icmp .ne 8, 3) := dk_160 (by decide +kernel)
theorem dX9_plan_62 : decode cX9_plan 62 = .ok (.iload 4, 2) := dk_21 (by decide +kernel)
theorem dX9_plan_64 : decode cX9_plan 64 = .ok (.goto 4, 3) := dk_167 (by decide +kernel)
theorem dX9_plan_67 : decode cX9_plan 67 = .ok (.iconst (-1), 1) := dk_2 (by decide +kernel)
theorem dX9_plan_68 : decode cX9_plan 68 = .ok (.istore 5, 2) := dk_54 (by decide +kernel)
theorem dX9_plan_70 : decode cX9_plan 70 = .ok (.iconst 0, 1) := dk_3 (by decide +kernel)
theorem dX9_plan_71 : decode cX9_plan 71 = .ok (.istore 6, 2) := dk_54 (by decide +kernel)
theorem dX9_plan_73 : decode cX9_plan 73 = .ok (.iload 6, 2) := dk_21 (by decide +kernel)
theorem dX9_plan_75 : decode cX9_plan 75 = .ok (.iload 4, 2) := dk_21 (by decide +kernel)
theorem dX9_plan_77 : decode cX9_plan 77 = .ok (.if_icmp .ge 54, 3) := dk_162 (by decide +kernel)
theorem dX9_plan_80 : decode cX9_plan 80 = .ok (.iload_n 3, 1) := dk_29 (by decide +kernel)
theorem dX9_plan_81 : decode cX9_plan 81 = .ok (.iconst (-1), 1) := dk_2 (by decide +kernel)
theorem dX9_plan_82 : decode cX9_plan 82 = .ok (.if_icmp .eq 49, 3) := dk_159 (by decide +kernel)
theorem dX9_plan_85 : decode cX9_plan 85 = .ok (.aload_n 0, 1) := dk_42 (by decide +kernel)
theorem dX9_plan_86 : decode cX9_plan 86 = .ok (.getfield 116, 3) := dk_180 (by decide +kernel)
theorem dX9_plan_89 : decode cX9_plan 89 = .ok (.iload 6, 2) := dk_21 (by decide +kernel)
theorem dX9_plan_91 : decode cX9_plan 91 = .ok (.iaload, 1) := dk_46 (by decide +kernel)
theorem dX9_plan_92 : decode cX9_plan 92 = .ok (.iload_n 3, 1) := dk_29 (by decide +kernel)
theorem dX9_plan_93 : decode cX9_plan 93 = .ok (.if_icmp .ne 28, 3) := dk_160 (by decide +kernel)
theorem dX9_plan_96 : decode cX9_plan 96 = .ok (.bipush 10, 2) := dk_16 (by decide +kernel)
theorem dX9_plan_98 : decode cX9_plan 98 = .ok (.aload_n 0, 1) := dk_42 (by decide +kernel)
theorem dX9_plan_99 : decode cX9_plan 99 = .ok (.getfield 119, 3) := dk_180 (by decide +kernel)
theorem dX9_plan_102 : decode cX9_plan 102 = .ok (.iload 6, 2) := dk_21 (by decide +kernel)
theorem dX9_plan_104 : decode cX9_plan 104 = .ok (.iaload, 1) := dk_46 (by decide +kernel)
theorem dX9_plan_105 : decode cX9_plan 105 = .ok (.iconst 3, 1) := dk_6 (by decide +kernel)
theorem dX9_plan_106 : decode cX9_plan 106 = .ok (.idiv, 1) := dk_108 (by decide +kernel)
theorem dX9_plan_107 : decode cX9_plan 107 = .ok (.imul, 1) := dk_104 (by decide +kernel)
theorem dX9_plan_108 : decode cX9_plan 108 = .ok (.aload_n 0, 1) := dk_42 (by decide +kernel)
theorem dX9_plan_109 : decode cX9_plan 109 = .ok (.getfield 119, 3) := dk_180 (by decide +kernel)
theorem dX9_plan_112 : decode cX9_plan 112 = .ok (.iload 6, 2) := dk_21 (by decide +kernel)
theorem dX9_plan_114 : decode cX9_plan 114 = .ok (.iaload, 1) := dk_46 (by decide +kernel)
theorem dX9_plan_115 : decode cX9_plan 115 = .ok (.iconst 3, 1) := dk_6 (by decide +kernel)
theorem dX9_plan_116 : decode cX9_plan 116 = .ok (.irem, 1) := dk_112 (by decide +kernel)
theorem dX9_plan_117 : decode cX9_plan 117 = .ok (.iadd, 1) := dk_96 (by decide +kernel)
theorem dX9_plan_118 : decode cX9_plan 118 = .ok (.goto 5, 3) := dk_167 (by decide +kernel)
theorem dX9_plan_121 : decode cX9_plan 121 = .ok (.iload 5, 2) := dk_21 (by decide +kernel)
theorem dX9_plan_123 : decode cX9_plan 123 = .ok (.istore 5, 2) := dk_54 (by decide +kernel)
theorem dX9_plan_125 : decode cX9_plan 125 = .ok (.iinc 6 1, 3) := dk_132 (by decide +kernel)
theorem dX9_plan_128 : decode cX9_plan 128 = .ok (.goto (-55), 3) := dk_167 (by decide +kernel)
theorem dX9_plan_131 : decode cX9_plan 131 = .ok (.iload 5, 2) := dk_21 (by decide +kernel)
theorem dX9_plan_133 : decode cX9_plan 133 = .ok (.ireturn, 1) := dk_172 (by decide +kernel)
theorem dX9_plan_134 : decode cX9_plan 134 = .ok (.iinc 4 1, 3) := dk_132 (by decide +kernel)
theorem dX9_plan_137 : decode cX9_plan 137 = .ok (.goto (-96), 3) := dk_167 (by decide +kernel)
theorem dX9_plan_140 : decode cX9_plan 140 = .ok (.bipush (-2), 2) := dk_16 (by decide +kernel)
theorem dX9_plan_142 : decode cX9_plan 142 = .ok (.ireturn, 1) := dk_172 (by decide +kernel)
theorem dX9_holds_0 : decode cX9_holds 0 = .ok (.aload_n 0, 1) := dk_42 (by decide +kernel)
theorem dX9_holds_1 : decode cX9_holds 1 = .ok (.getfield 7, 3) := dk_180 (by decide +kernel)
theorem dX9_holds_4 : decode cX9_holds 4 = .ok (.iconst 2, 1) := dk_5 (by decide +kernel)
theorem dX9_holds_5 : decode cX9_holds 5 = .ok (.iaload, 1) := dk_46 (by decide +kernel)
theorem dX9_holds_6 : decode cX9_holds 6 = .ok (.aload_n 0, 1) := dk_42 (by decide +kernel)
theorem dX9_holds_7 : decode cX9_holds 7 = .ok (.iconst 0, 1) := dk_3 (by decide +kernel)
theorem dX9_holds_8 : decode cX9_holds 8 = .ok (.invokevirtual 378, 3) := dk_182 (by decide +kernel)
theorem dX9_holds_11 : decode cX9_holds 11 = .ok (.iadd, 1) := dk_96 (by decide +kernel)
theorem dX9_holds_12 : decode cX9_holds 12 = .ok (.istore_n 1, 1) := dk_60 (by decide +kernel)
theorem dX9_holds_13 : decode cX9_holds 13 = .ok (.iload_n 1, 1) := dk_27 (by decide +kernel)
theorem dX9_holds_14 : decode cX9_holds 14 = .ok (.ifCond .ne 7, 3) := dk_154 (by decide +kernel)
theorem dX9_holds_17 : decode cX9_holds 17 = .ok (.sipush 999, 3) := dk_17 (by decide +kernel)
theorem dX9_holds_20 : decode cX9_holds 20 = .ok (.ireturn, 1) := dk_172 (by decide +kernel)
theorem dX9_holds_21 : decode cX9_holds 21 = .ok (.aload_n 0, 1) := dk_42 (by decide +kernel)
theorem dX9_holds_22 : decode cX9_holds 22 = .ok (.getfield 7, 3) := dk_180 (by decide +kernel)
theorem dX9_holds_25 : decode cX9_holds 25 = .ok (.bipush 120, 2) := dk_16 (by decide +kernel)
theorem dX9_holds_27 : decode cX9_holds 27 = .ok (.iaload, 1) := dk_46 (by decide +kernel)
theorem dX9_holds_28 : decode cX9_holds 28 = .ok (.iload_n 1, 1) := dk_27 (by decide +kernel)
theorem dX9_holds_29 : decode cX9_holds 29 = .ok (.idiv, 1) := dk_108 (by decide +kernel)
theorem dX9_holds_30 : decode cX9_holds 30 = .ok (.istore_n 2, 1) := dk_61 (by decide +kernel)
theorem dX9_holds_31 : decode cX9_holds 31 = .ok (.iload_n 2, 1) := dk_28 (by decide +kernel)
theorem dX9_holds_32 : decode cX9_holds 32 = .ok (.sipush 999, 3) := dk_17 (by decide +kernel)
theorem dX9_holds_35 : decode cX9_holds 35 = .ok (.if_icmp .le 9, 3) := dk_164 (by decide +kernel)
theorem dX9_holds_38 : decode cX9_holds 38 = .ok (.sipush 999, 3) := dk_17 (by decide +kernel)
theorem dX9_holds_41 : decode cX9_holds 41 = .ok (.goto 4, 3) := dk_167 (by decide +kernel)
theorem dX9_holds_44 : decode cX9_holds 44 = .ok (.iload_n 2, 1) := dk_28 (by decide +kernel)
theorem dX9_holds_45 : decode cX9_holds 45 = .ok (.ireturn, 1) := dk_172 (by decide +kernel)
theorem dX9_image_0 : decode cX9_image 0 = .ok (.aload_n 0, 1) := dk_42 (by decide +kernel)
theorem dX9_image_1 : decode cX9_image 1 = .ok (.iconst 1, 1) := dk_4 (by decide +kernel)
theorem dX9_image_2 : decode cX9_image 2 = .ok (.invokevirtual 122, 3) := dk_182 (by decide +kernel)
theorem dX9_image_5 : decode cX9_image 5 = .ok (.aload_n 0, 1) := dk_42 (by decide +kernel)
theorem dX9_image_6 : decode cX9_image 6 = .ok (.getfield 7, 3) := dk_180 (by decide +kernel)
theorem dX9_image_9 : decode cX9_image 9 = .ok (.bipush 121, 2) := dk_16 (by decide +kernel)
theorem dX9_image_11 : decode cX9_image 11 = .ok (.iaload, 1) := dk_46 (by decide +kernel)
theorem dX9_image_12 : decode cX9_image 12 = .ok (.ireturn, 1) := dk_172 (by decide +kernel)
theorem dX9_back_0 : decode cX9_back 0 = .ok (.aload_n 0, 1) := dk_42 (by decide +kernel)
theorem dX9_back_1 : decode cX9_back 1 = .ok (.iconst 0, 1) := dk_3 (by decide +kernel)
theorem dX9_back_2 : decode cX9_back 2 = .ok (.invokevirtual 122, 3) := dk_182 (by decide +kernel)
theorem dX9_back_5 : decode cX9_back 5 = .ok (.aload_n 0, 1) := dk_42 (by decide +kernel)
theorem dX9_back_6 : decode cX9_back 6 = .ok (.getfield 7, 3) := dk_180 (by decide +kernel)
theorem dX9_back_9 : decode cX9_back 9 = .ok (.bipush 121, 2) := dk_16 (by decide +kernel)
theorem dX9_back_11 : decode cX9_back 11 = .ok (.iaload, 1) := dk_46 (by decide +kernel)
theorem dX9_back_12 : decode cX9_back 12 = .ok (.ireturn, 1) := dk_172 (by decide +kernel)
theorem dX9_about_0 : decode cX9_about 0 = .ok (.iload_n 1, 1) := dk_27 (by decide +kernel)
theorem dX9_about_1 : decode cX9_about 1 = .ok (.tableswitch 126 0 9 #[55, 62, 69, 77, 84, 92, 100, 107, 114, 121], 55) := by decide +kernel
theorem dX9_about_56 : decode cX9_about 56 = .ok (.aload_n 0, 1) := dk_42 (by decide +kernel)
theorem dX9_about_57 : decode cX9_about 57 = .ok (.getfield 7, 3) := dk_180 (by decide +kernel)
theorem dX9_about_60 : decode cX9_about 60 = .ok (.iconst 0, 1) := dk_3 (by decide +kernel)
theorem dX9_about_61 : decode cX9_about 61 = .ok (.iaload, 1) := dk_46 (by decide +kernel)
theorem dX9_about_62 : decode cX9_about 62 = .ok (.ireturn, 1) := dk_172 (by decide +kernel)
theorem dX9_about_63 : decode cX9_about 63 = .ok (.aload_n 0, 1) := dk_42 (by decide +kernel)
theorem dX9_about_64 : decode cX9_about 64 = .ok (.getfield 7, 3) := dk_180 (by decide +kernel)
theorem dX9_about_67 : decode cX9_about 67 = .ok (.iconst 1, 1) := dk_4 (by decide +kernel)
theorem dX9_about_68 : decode cX9_about 68 = .ok (.iaload, 1) := dk_46 (by decide +kernel)
theorem dX9_about_69 : decode cX9_about 69 = .ok (.ireturn, 1) := dk_172 (by decide +kernel)
theorem dX9_about_70 : decode cX9_about 70 = .ok (.aload_n 0, 1) := dk_42 (by decide +kernel)
theorem dX9_about_71 : decode cX9_about 71 = .ok (.getfield 7, 3) := dk_180 (by decide +kernel)
theorem dX9_about_74 : decode cX9_about 74 = .ok (.bipush 120, 2) := dk_16 (by decide +kernel)
theorem dX9_about_76 : decode cX9_about 76 = .ok (.iaload, 1) := dk_46 (by decide +kernel)
theorem dX9_about_77 : decode cX9_about 77 = .ok (.ireturn, 1) := dk_172 (by decide +kernel)
theorem dX9_about_78 : decode cX9_about 78 = .ok (.aload_n 0, 1) := dk_42 (by decide +kernel)
theorem dX9_about_79 : decode cX9_about 79 = .ok (.getfield 7, 3) := dk_180 (by decide +kernel)
theorem dX9_about_82 : decode cX9_about 82 = .ok (.iconst 2, 1) := dk_5 (by decide +kernel)
theorem dX9_about_83 : decode cX9_about 83 = .ok (.iaload, 1) := dk_46 (by decide +kernel)
theorem dX9_about_84 : decode cX9_about 84 = .ok (.ireturn, 1) := dk_172 (by decide +kernel)
theorem dX9_about_85 : decode cX9_about 85 = .ok (.aload_n 0, 1) := dk_42 (by decide +kernel)
theorem dX9_about_86 : decode cX9_about 86 = .ok (.getfield 7, 3) := dk_180 (by decide +kernel)
theorem dX9_about_89 : decode cX9_about 89 = .ok (.bipush 121, 2) := dk_16 (by decide +kernel)
theorem dX9_about_91 : decode cX9_about 91 = .ok (.iaload, 1) := dk_46 (by decide +kernel)
theorem dX9_about_92 : decode cX9_about 92 = .ok (.ireturn, 1) := dk_172 (by decide +kernel)
theorem dX9_about_93 : decode cX9_about 93 = .ok (.aload_n 0, 1) := dk_42 (by decide +kernel)
theorem dX9_about_94 : decode cX9_about 94 = .ok (.getfield 7, 3) := dk_180 (by decide +kernel)
theorem dX9_about_97 : decode cX9_about 97 = .ok (.bipush 122, 2) := dk_16 (by decide +kernel)
theorem dX9_about_99 : decode cX9_about 99 = .ok (.iaload, 1) := dk_46 (by decide +kernel)
theorem dX9_about_100 : decode cX9_about 100 = .ok (.ireturn, 1) := dk_172 (by decide +kernel)
theorem dX9_about_101 : decode cX9_about 101 = .ok (.aload_n 0, 1) := dk_42 (by decide +kernel)
theorem dX9_about_102 : decode cX9_about 102 = .ok (.getfield 7, 3) := dk_180 (by decide +kernel)
theorem dX9_about_105 : decode cX9_about 105 = .ok (.iconst 3, 1) := dk_6 (by decide +kernel)
theorem dX9_about_106 : decode cX9_about 106 = .ok (.iaload, 1) := dk_46 (by decide +kernel)
theorem dX9_about_107 : decode cX9_about 107 = .ok (.ireturn, 1) := dk_172 (by decide +kernel)
theorem dX9_about_108 : decode cX9_about 108 = .ok (.aload_n 0, 1) := dk_42 (by decide +kernel)
theorem dX9_about_109 : decode cX9_about 109 = .ok (.getfield 7, 3) := dk_180 (by decide +kernel)
theorem dX9_about_112 : decode cX9_about 112 = .ok (.iconst 4, 1) := dk_7 (by decide +kernel)
theorem dX9_about_113 : decode cX9_about 113 = .ok (.iaload, 1) := dk_46 (by decide +kernel)
theorem dX9_about_114 : decode cX9_about 114 = .ok (.ireturn, 1) := dk_172 (by decide +kernel)
theorem dX9_about_115 : decode cX9_about 115 = .ok (.aload_n 0, 1) := dk_42 (by decide +kernel)
theorem dX9_about_116 : decode cX9_about 116 = .ok (.getfield 7, 3) := dk_180 (by decide +kernel)
theorem dX9_about_119 : decode cX9_about 119 = .ok (.iconst 5, 1) := dk_8 (by decide +kernel)
theorem dX9_about_120 : decode cX9_about 120 = .ok (.iaload, 1) := dk_46 (by decide +kernel)
theorem dX9_about_121 : decode cX9_about 121 = .ok (.ireturn, 1) := dk_172 (by decide +kernel)
theorem dX9_about_122 : decode cX9_about 122 = .ok (.aload_n 0, 1) := dk_42 (by decide +kernel)
theorem dX9_about_123 : decode cX9_about 123 = .ok (.getfield 163, 3) := dk_180 (by decide +kernel)
theorem dX9_about_126 : decode cX9_about 126 = .ok (.ireturn, 1) := dk_172 (by decide +kernel)
theorem dX9_about_127 : decode cX9_about 127 = .ok (.aload_n 0, 1) := dk_42 (by decide +kernel)
theorem dX9_about_128 : decode cX9_about 128 = .ok (.iload_n 1, 1) := dk_27 (by decide +kernel)
theorem dX9_about_129 : decode cX9_about 129 = .ok (.bipush 10, 2) := dk_16 (by decide +kernel)
theorem dX9_about_131 : decode cX9_about 131 = .ok (.isub, 1) := dk_100 (by decide +kernel)
theorem dX9_about_132 : decode cX9_about 132 = .ok (.invokevirtual 160, 3) := dk_182 (by decide +kernel)
theorem dX9_about_135 : decode cX9_about 135 = .ok (.ifCond .eq 44, 3) := dk_153 (by decide +kernel)
theorem dX9_about_138 : decode cX9_about 138 = .ok (.bipush 10, 2) := dk_16 (by decide +kernel)
theorem dX9_about_140 : decode cX9_about 140 = .ok (.iconst 3, 1) := dk_6 (by decide +kernel)
theorem dX9_about_141 : decode cX9_about 141 = .ok (.iload_n 1, 1) := dk_27 (by decide +kernel)
theorem dX9_about_142 : decode cX9_about 142 = .ok (.bipush 10, 2) := dk_16 (by decide +kernel)
theorem dX9_about_144 : decode cX9_about 144 = .ok (.isub, 1) := dk_100 (by decide +kernel)
theorem dX9_about_145 : decode cX9_about 145 = .ok (.imul, 1) := dk_104 (by decide +kernel)
theorem dX9_about_146 : decode cX9_about 146 = .ok (.iadd, 1) := dk_96 (by decide +kernel)
theorem dX9_about_147 : decode cX9_about 147 = .ok (.istore_n 2, 1) := dk_61 (by decide +kernel)
theorem dX9_about_148 : decode cX9_about 148 = .ok (.bipush 100, 2) := dk_16 (by decide +kernel)
theorem dX9_about_150 : decode cX9_about 150 = .ok (.aload_n 0, 1) := dk_42 (by decide +kernel)
theorem dX9_about_151 : decode cX9_about 151 = .ok (.getfield 7, 3) := dk_180 (by decide +kernel)
theorem dX9_about_154 : decode cX9_about 154 = .ok (.iload_n 2, 1) := dk_28 (by decide +kernel)
theorem dX9_about_155 : decode cX9_about 155 = .ok (.iaload, 1) := dk_46 (by decide +kernel)
theorem dX9_about_156 : decode cX9_about 156 = .ok (.imul, 1) := dk_104 (by decide +kernel)
theorem dX9_about_157 : decode cX9_about 157 = .ok (.bipush 10, 2) := dk_16 (by decide +kernel)
theorem dX9_about_159 : decode cX9_about 159 = .ok (.aload_n 0, 1) := dk_42 (by decide +kernel)
theorem dX9_about_160 : decode cX9_about 160 = .ok (.getfield 7, 3) := dk_180 (by decide +kernel)
theorem dX9_about_163 : decode cX9_about 163 = .ok (.iload_n 2, 1) := dk_28 (by decide +kernel)
theorem dX9_about_164 : decode cX9_about 164 = .ok (.iconst 1, 1) := dk_4 (by decide +kernel)
theorem dX9_about_165 : decode cX9_about 165 = .ok (.iadd, 1) := dk_96 (by decide +kernel)
theorem dX9_about_166 : decode cX9_about 166 = .ok (.iaload, 1) := dk_46 (by decide +kernel)
theorem dX9_about_167 : decode cX9_about 167 = .ok (.imul, 1) := dk_104 (by decide +kernel)
theorem dX9_about_168 : decode cX9_about 168 = .ok (.iadd, 1) := dk_96 (by decide +kernel)
theorem dX9_about_169 : decode cX9_about 169 = .ok (.aload_n 0, 1) := dk_42 (by decide +kernel)
theorem dX9_about_170 : decode cX9_about 170 = .ok (.getfield 7, 3) := dk_180 (by decide +kernel)
theorem dX9_about_173 : decode cX9_about 173 = .ok (.iload_n 2, 1) := dk_28 (by decide +kernel)
theorem dX9_about_174 : decode cX9_about 174 = .ok (.iconst 2, 1) := dk_5 (by decide +kernel)
theorem dX9_about_175 : decode cX9_about 175 = .ok (.iadd, 1) := dk_96 (by decide +kernel)
theorem dX9_about_176 : decode cX9_about 176 = .ok (.iaload, 1) := dk_46 (by decide +kernel)
theorem dX9_about_177 : decode cX9_about 177 = .ok (.iadd, 1) := dk_96 (by decide +kernel)
theorem dX9_about_178 : decode cX9_about 178 = .ok (.ireturn, 1) := dk_172 (by decide +kernel)
theorem dX9_about_179 : decode cX9_about 179 = .ok (.iload_n 1, 1) := dk_27 (by decide +kernel)
theorem dX9_about_180 : decode cX9_about 180 = .ok (.bipush 20, 2) := dk_16 (by decide +kernel)
theorem dX9_about_182 : decode cX9_about 182 = .ok (.bipush 25, 2) := dk_16 (by decide +kernel)
theorem dX9_about_184 : decode cX9_about 184 = .ok (.invokestatic 126, 3) := dk_184 (by decide +kernel)
theorem dX9_about_187 : decode cX9_about 187 = .ok (.ifCond .eq 14, 3) := dk_153 (by decide +kernel)
theorem dX9_about_190 : decode cX9_about 190 = .ok (.aload_n 0, 1) := dk_42 (by decide +kernel)
theorem dX9_about_191 : decode cX9_about 191 = .ok (.iload_n 1, 1) := dk_27 (by decide +kernel)
theorem dX9_about_192 : decode cX9_about 192 = .ok (.bipush 20, 2) := dk_16 (by decide +kernel)
theorem dX9_about_194 : decode cX9_about 194 = .ok (.isub, 1) := dk_100 (by decide +kernel)
theorem dX9_about_195 : decode cX9_about 195 = .ok (.invokevirtual 378, 3) := dk_182 (by decide +kernel)
theorem dX9_about_198 : decode cX9_about 198 = .ok (.goto 5, 3) := dk_167 (by decide +kernel)
theorem dX9_about_201 : decode cX9_about 201 = .ok (.bipush (-2), 2) := dk_16 (by decide +kernel)
theorem dX9_about_203 : decode cX9_about 203 = .ok (.ireturn, 1) := dk_172 (by decide +kernel)
def f_X4_hasGoose_23 (h : HS) (y0 : Int32) : Option (Int32 × HS) := (if y0 = 0 ∨ y0 = 1 then (some (y0, h)) else none)
def f_X4_hasGoose_22 (h : HS) : Option (Int32 × HS) := (f_X4_hasGoose_23 h 0)
def f_X4_hasGoose (h : HS) (p1 : Int32) : Option (Int32 × HS) := (if p1 < 0 then (f_X4_hasGoose_22 h) else (if (eI h 1 3) ≤ p1 then (f_X4_hasGoose_22 h) else (if 10 ≤ p1 then (f_X4_hasGoose_22 h) else (f_X4_hasGoose_23 h 1))))
set_option maxHeartbeats 4000000 in
set_option maxRecDepth 100000 in
theorem c_X4_hasGoose (l : Launch) (G : va_G) (cI cJ cZ cB cT : ClassId) (q : Nat → Nat) (h : HS) (p1 : Int32) (rr : Int32) (hh : HS) (hF : f_X4_hasGoose h p1 = some (rr, hh)) : gMi l yX4_hasGoose (gws yX4_hasGoose cX4_hasGoose 2 (some .boolean)) 1 G (gT cI cJ cZ cB cT) [.ref (q 1), .int p1] (wC q cI cJ cZ cB cT h) (fun x (_ : Unit) => x = rr) (fun (_ : Unit) => (wC q cI cJ cZ cB cT hh)) := by
  intro sz
  refine gM_start (y := yX4_hasGoose) (av := [.ref (q 1), .int p1]) (ws := (wC q cI cJ cZ cB cT h)) (Qf := fun A => va_Qi (fun x (_ : Unit) => x = rr) (gB G (fun (_ : Unit) => (wC q cI cJ cZ cB cT hh)) A) A) (cc := cX4_hasGoose) (maxL := 2) (ret := (some .boolean)) (by decide) (Nat.le_of_ble_eq_true rfl) ?_
  intro p e s m args below meth c A ls H hx hb hr hts hown hin hlocks hml hP hK hD hA hS hl hE
  have hl : lv_has ls 2 [(0, .ref (q 1)), (1, .int p1)] := hl
  have hJ_23 : ∀ (h : HS) (y0 : Int32), f_X4_hasGoose_23 h y0 = some (rr, hh) → ∀ (H : Heap) (locs : List Loc) (ls : Array Slot), va_P G vwCl (wC q cI cJ cZ cB cT h) H → va_D A (wC q cI cJ cZ cB cT h) → va_S A s.heap H locs → lv_has ls 2 [] → W p l e (gRm 1) s m args below meth c H locs 0 0 (MQ below (va_Qi (fun x (_ : Unit) => x = rr) (gB G (fun (_ : Unit) => (wC q cI cJ cZ cB cT hh)) A) A) args s 0 0 A) (F0 m 23 ls [.int y0]) := by
    intro h y0 hF H locs ls hP hD hS hl
    unfold f_X4_hasGoose_23 at hF
    obtain ⟨hz_4, hF⟩ := ob_if hF
    obtain ⟨rfl, rfl⟩ := ob_pair hF
    exact gw_zret () hx hb hr hlocks (gz hz_4) hP hD hS rfl dX4_hasGoose_23
  have hJ_22 : ∀ (h : HS), f_X4_hasGoose_22 h = some (rr, hh) → ∀ (H : Heap) (locs : List Loc) (ls : Array Slot), va_P G vwCl (wC q cI cJ cZ cB cT h) H → va_D A (wC q cI cJ cZ cB cT h) → va_S A s.heap H locs → lv_has ls 2 [] → W p l e (gRm 1) s m args below meth c H locs 0 0 (MQ below (va_Qi (fun x (_ : Unit) => x = rr) (gB G (fun (_ : Unit) => (wC q cI cJ cZ cB cT hh)) A) A) args s 0 0 A) (F0 m 22 ls []) := by
    intro h hF H locs ls hP hD hS hl
    unfold f_X4_hasGoose_22 at hF
    refine lv_iconst (v := 0) hx hb dX4_hasGoose_22 (by decide) ?_
    exact hJ_23 h 0 hF H _ ls hP hD hS (lv_sub hl [] rfl)
  unfold f_X4_hasGoose at hF
  refine lv_iload_n hx hb dX4_hasGoose_0 rfl (lv_at hl 1 rfl) ?_
  refine lv_if_lt (tgt := 22) hx hb dX4_hasGoose_1 (by decide) (fun c_1 => ?_) (fun c_1 => ?_)
  · have hF := ob_pos c_1 hF
    exact hJ_22 h hF H _ ls hP hD hS (lv_sub hl [] rfl)
  · have hF := ob_neg c_1 hF
    refine lv_iload_n hx hb dX4_hasGoose_4 rfl (lv_at hl 1 rfl) ?_
    refine lv_aload_n hx hb dX4_hasGoose_5 rfl (lv_at hl 0 rfl) ?_
    refine va_get (D := G) (ci := 4) (v := .int (eI h 1 3)) (C := RX4) (T := TX4) (N := 13) hx hb hts iX4 hown hK hP 1 wC_at1 rfl 3 (by decide) (hts _ m_0) (fun _ h9 => h9) rfl dX4_hasGoose_6 ?_
    refine lv_icmp_ge (tgt := 22) hx hb dX4_hasGoose_9 (by decide) (fun c_2 => ?_) (fun c_2 => ?_)
    · have hF := ob_pos c_2 hF
      exact hJ_22 h hF H _ ls hP hD hS (lv_sub hl [] rfl)
    · have hF := ob_neg c_2 hF
      refine lv_iload_n hx hb dX4_hasGoose_12 rfl (lv_at hl 1 rfl) ?_
      refine lv_bipush (v := 10) hx hb dX4_hasGoose_13 (by decide) ?_
      refine lv_icmp_ge (tgt := 22) hx hb dX4_hasGoose_15 (by decide) (fun c_3 => ?_) (fun c_3 => ?_)
      · have hF := ob_pos c_3 hF
        exact hJ_22 h hF H _ ls hP hD hS (lv_sub hl [] rfl)
      · have hF := ob_neg c_3 hF
        refine lv_iconst (v := 1) hx hb dX4_hasGoose_18 (by decide) ?_
        refine lv_goto (tgt := 23) hx hb dX4_hasGoose_19 (by decide) ?_
        exact hJ_23 h 1 hF H _ ls hP hD hS (lv_sub hl [] rfl)
def f_X4_hasMarket_22 (h : HS) (y0 : Int32) : Option (Int32 × HS) := (if y0 = 0 ∨ y0 = 1 then (some (y0, h)) else none)
def f_X4_hasMarket_21 (h : HS) : Option (Int32 × HS) := (f_X4_hasMarket_22 h 0)
def f_X4_hasMarket (h : HS) (p1 : Int32) : Option (Int32 × HS) := (if p1 < 0 then (f_X4_hasMarket_21 h) else (if (eI h 1 4) ≤ p1 then (f_X4_hasMarket_21 h) else (if 4 ≤ p1 then (f_X4_hasMarket_21 h) else (f_X4_hasMarket_22 h 1))))
set_option maxHeartbeats 4000000 in
set_option maxRecDepth 100000 in
theorem c_X4_hasMarket (l : Launch) (G : va_G) (cI cJ cZ cB cT : ClassId) (q : Nat → Nat) (h : HS) (p1 : Int32) (rr : Int32) (hh : HS) (hF : f_X4_hasMarket h p1 = some (rr, hh)) : gMi l yX4_hasMarket (gws yX4_hasMarket cX4_hasMarket 2 (some .boolean)) 1 G (gT cI cJ cZ cB cT) [.ref (q 1), .int p1] (wC q cI cJ cZ cB cT h) (fun x (_ : Unit) => x = rr) (fun (_ : Unit) => (wC q cI cJ cZ cB cT hh)) := by
  intro sz
  refine gM_start (y := yX4_hasMarket) (av := [.ref (q 1), .int p1]) (ws := (wC q cI cJ cZ cB cT h)) (Qf := fun A => va_Qi (fun x (_ : Unit) => x = rr) (gB G (fun (_ : Unit) => (wC q cI cJ cZ cB cT hh)) A) A) (cc := cX4_hasMarket) (maxL := 2) (ret := (some .boolean)) (by decide) (Nat.le_of_ble_eq_true rfl) ?_
  intro p e s m args below meth c A ls H hx hb hr hts hown hin hlocks hml hP hK hD hA hS hl hE
  have hl : lv_has ls 2 [(0, .ref (q 1)), (1, .int p1)] := hl
  have hJ_22 : ∀ (h : HS) (y0 : Int32), f_X4_hasMarket_22 h y0 = some (rr, hh) → ∀ (H : Heap) (locs : List Loc) (ls : Array Slot), va_P G vwCl (wC q cI cJ cZ cB cT h) H → va_D A (wC q cI cJ cZ cB cT h) → va_S A s.heap H locs → lv_has ls 2 [] → W p l e (gRm 1) s m args below meth c H locs 0 0 (MQ below (va_Qi (fun x (_ : Unit) => x = rr) (gB G (fun (_ : Unit) => (wC q cI cJ cZ cB cT hh)) A) A) args s 0 0 A) (F0 m 22 ls [.int y0]) := by
    intro h y0 hF H locs ls hP hD hS hl
    unfold f_X4_hasMarket_22 at hF
    obtain ⟨hz_4, hF⟩ := ob_if hF
    obtain ⟨rfl, rfl⟩ := ob_pair hF
    exact gw_zret () hx hb hr hlocks (gz hz_4) hP hD hS rfl dX4_hasMarket_22
  have hJ_21 : ∀ (h : HS), f_X4_hasMarket_21 h = some (rr, hh) → ∀ (H : Heap) (locs : List Loc) (ls : Array Slot), va_P G vwCl (wC q cI cJ cZ cB cT h) H → va_D A (wC q cI cJ cZ cB cT h) → va_S A s.heap H locs → lv_has ls 2 [] → W p l e (gRm 1) s m args below meth c H locs 0 0 (MQ below (va_Qi (fun x (_ : Unit) => x = rr) (gB G (fun (_ : Unit) => (wC q cI cJ cZ cB cT hh)) A) A) args s 0 0 A) (F0 m 21 ls []) := by
    intro h hF H locs ls hP hD hS hl
    unfold f_X4_hasMarket_21 at hF
    refine lv_iconst (v := 0) hx hb dX4_hasMarket_21 (by decide) ?_
    exact hJ_22 h 0 hF H _ ls hP hD hS (lv_sub hl [] rfl)
  unfold f_X4_hasMarket at hF
  refine lv_iload_n hx hb dX4_hasMarket_0 rfl (lv_at hl 1 rfl) ?_
  refine lv_if_lt (tgt := 21) hx hb dX4_hasMarket_1 (by decide) (fun c_1 => ?_) (fun c_1 => ?_)
  · have hF := ob_pos c_1 hF
    exact hJ_21 h hF H _ ls hP hD hS (lv_sub hl [] rfl)
  · have hF := ob_neg c_1 hF
    refine lv_iload_n hx hb dX4_hasMarket_4 rfl (lv_at hl 1 rfl) ?_
    refine lv_aload_n hx hb dX4_hasMarket_5 rfl (lv_at hl 0 rfl) ?_
    refine va_get (D := G) (ci := 4) (v := .int (eI h 1 4)) (C := RX4) (T := TX4) (N := 13) hx hb hts iX4 hown hK hP 1 wC_at1 rfl 4 (by decide) (hts _ m_1) (fun _ h9 => h9) rfl dX4_hasMarket_6 ?_
    refine lv_icmp_ge (tgt := 21) hx hb dX4_hasMarket_9 (by decide) (fun c_2 => ?_) (fun c_2 => ?_)
    · have hF := ob_pos c_2 hF
      exact hJ_21 h hF H _ ls hP hD hS (lv_sub hl [] rfl)
    · have hF := ob_neg c_2 hF
      refine lv_iload_n hx hb dX4_hasMarket_12 rfl (lv_at hl 1 rfl) ?_
      refine lv_iconst (v := 4) hx hb dX4_hasMarket_13 (by decide) ?_
      refine lv_icmp_ge (tgt := 21) hx hb dX4_hasMarket_14 (by decide) (fun c_3 => ?_) (fun c_3 => ?_)
      · have hF := ob_pos c_3 hF
        exact hJ_21 h hF H _ ls hP hD hS (lv_sub hl [] rfl)
      · have hF := ob_neg c_3 hF
        refine lv_iconst (v := 1) hx hb dX4_hasMarket_17 (by decide) ?_
        refine lv_goto (tgt := 22) hx hb dX4_hasMarket_18 (by decide) ?_
        exact hJ_22 h 1 hF H _ ls hP hD hS (lv_sub hl [] rfl)
def f_X4_ofGoose_28 (h : HS) : Option (Int32 × HS) := (some ((-1), h))
def f_X4_ofGoose (h : HS) (p1 : Int32) (p2 : Int32) : Option (Int32 × HS) := (if p1 < 0 then (f_X4_ofGoose_28 h) else (if (eI h 1 3) ≤ p1 then (f_X4_ofGoose_28 h) else (if 10 ≤ p1 then (f_X4_ofGoose_28 h) else (if p2 < 0 then (f_X4_ofGoose_28 h) else (if p2 < 9 then (if 0 ≤ (((p1 * 9) + p2)).toInt ∧ (((p1 * 9) + p2)).toInt < 90 then (some (((eA h 1 0) ((((p1 * 9) + p2)).toNatClampNeg)), h)) else none) else (f_X4_ofGoose_28 h))))))
set_option maxHeartbeats 4000000 in
set_option maxRecDepth 100000 in
theorem c_X4_ofGoose (l : Launch) (G : va_G) (cI cJ cZ cB cT : ClassId) (q : Nat → Nat) (h : HS) (p1 : Int32) (p2 : Int32) (rr : Int32) (hh : HS) (hF : f_X4_ofGoose h p1 p2 = some (rr, hh)) : gMi l yX4_ofGoose (gws yX4_ofGoose cX4_ofGoose 3 (some .int)) 1 G (gT cI cJ cZ cB cT) [.ref (q 1), .int p1, .int p2] (wC q cI cJ cZ cB cT h) (fun x (_ : Unit) => x = rr) (fun (_ : Unit) => (wC q cI cJ cZ cB cT hh)) := by
  intro sz
  refine gM_start (y := yX4_ofGoose) (av := [.ref (q 1), .int p1, .int p2]) (ws := (wC q cI cJ cZ cB cT h)) (Qf := fun A => va_Qi (fun x (_ : Unit) => x = rr) (gB G (fun (_ : Unit) => (wC q cI cJ cZ cB cT hh)) A) A) (cc := cX4_ofGoose) (maxL := 3) (ret := (some .int)) (by decide) (Nat.le_of_ble_eq_true rfl) ?_
  intro p e s m args below meth c A ls H hx hb hr hts hown hin hlocks hml hP hK hD hA hS hl hE
  have hl : lv_has ls 3 [(0, .ref (q 1)), (1, .int p1), (2, .int p2)] := hl
  have hJ_28 : ∀ (h : HS), f_X4_ofGoose_28 h = some (rr, hh) → ∀ (H : Heap) (locs : List Loc) (ls : Array Slot), va_P G vwCl (wC q cI cJ cZ cB cT h) H → va_D A (wC q cI cJ cZ cB cT h) → va_S A s.heap H locs → lv_has ls 3 [] → W p l e (gRm 1) s m args below meth c H locs 0 0 (MQ below (va_Qi (fun x (_ : Unit) => x = rr) (gB G (fun (_ : Unit) => (wC q cI cJ cZ cB cT hh)) A) A) args s 0 0 A) (F0 m 28 ls []) := by
    intro h hF H locs ls hP hD hS hl
    unfold f_X4_ofGoose_28 at hF
    refine lv_iconst (v := (-1)) hx hb dX4_ofGoose_28 (by decide) ?_
    obtain ⟨rfl, rfl⟩ := ob_pair hF
    exact gw_iret () hx hb hr hlocks hP hD hS rfl dX4_ofGoose_29
  unfold f_X4_ofGoose at hF
  refine lv_iload_n hx hb dX4_ofGoose_0 rfl (lv_at hl 1 rfl) ?_
  refine lv_if_lt (tgt := 28) hx hb dX4_ofGoose_1 (by decide) (fun c_1 => ?_) (fun c_1 => ?_)
  · have hF := ob_pos c_1 hF
    exact hJ_28 h hF H _ ls hP hD hS (lv_sub hl [] rfl)
  · have hF := ob_neg c_1 hF
    refine lv_iload_n hx hb dX4_ofGoose_4 rfl (lv_at hl 1 rfl) ?_
    refine lv_aload_n hx hb dX4_ofGoose_5 rfl (lv_at hl 0 rfl) ?_
    refine va_get (D := G) (ci := 4) (v := .int (eI h 1 3)) (C := RX4) (T := TX4) (N := 13) hx hb hts iX4 hown hK hP 1 wC_at1 rfl 3 (by decide) (hts _ m_0) (fun _ h9 => h9) rfl dX4_ofGoose_6 ?_
    refine lv_icmp_ge (tgt := 28) hx hb dX4_ofGoose_9 (by decide) (fun c_2 => ?_) (fun c_2 => ?_)
    · have hF := ob_pos c_2 hF
      exact hJ_28 h hF H _ ls hP hD hS (lv_sub hl [] rfl)
    · have hF := ob_neg c_2 hF
      refine lv_iload_n hx hb dX4_ofGoose_12 rfl (lv_at hl 1 rfl) ?_
      refine lv_bipush (v := 10) hx hb dX4_ofGoose_13 (by decide) ?_
      refine lv_icmp_ge (tgt := 28) hx hb dX4_ofGoose_15 (by decide) (fun c_3 => ?_) (fun c_3 => ?_)
      · have hF := ob_pos c_3 hF
        exact hJ_28 h hF H _ ls hP hD hS (lv_sub hl [] rfl)
      · have hF := ob_neg c_3 hF
        refine lv_iload_n hx hb dX4_ofGoose_18 rfl (lv_at hl 2 rfl) ?_
        refine lv_if_lt (tgt := 28) hx hb dX4_ofGoose_19 (by decide) (fun c_4 => ?_) (fun c_4 => ?_)
        · have hF := ob_pos c_4 hF
          exact hJ_28 h hF H _ ls hP hD hS (lv_sub hl [] rfl)
        · have hF := ob_neg c_4 hF
          refine lv_iload_n hx hb dX4_ofGoose_22 rfl (lv_at hl 2 rfl) ?_
          refine lv_bipush (v := 9) hx hb dX4_ofGoose_23 (by decide) ?_
          refine lv_icmp_lt (tgt := 30) hx hb dX4_ofGoose_25 (by decide) (fun c_5 => ?_) (fun c_5 => ?_)
          · have hF := ob_pos c_5 hF
            refine lv_aload_n hx hb dX4_ofGoose_30 rfl (lv_at hl 0 rfl) ?_
            refine va_get (D := G) (ci := 4) (v := .ref (q 2)) (C := RX4) (T := TX4) (N := 13) hx hb hts iX4 hown hK hP 1 wC_at1 rfl 0 (by decide) (hts _ m_2) (fun _ h9 => h9) rfl dX4_ofGoose_31 ?_
            refine lv_iload_n hx hb dX4_ofGoose_34 rfl (lv_at hl 1 rfl) ?_
            refine lv_bipush (v := 9) hx hb dX4_ofGoose_35 (by decide) ?_
            refine lv_imul hx hb dX4_ofGoose_37 ?_
            refine lv_iload_n hx hb dX4_ofGoose_38 rfl (lv_at hl 2 rfl) ?_
            refine lv_iadd hx hb dX4_ofGoose_39 ?_
            obtain ⟨hi_6, hF⟩ := ob_if hF
            refine va_iald (D := G) hx hb hK hP 2 0 wC_at2 rfl (vp_in_iff.mpr hi_6) dX4_ofGoose_40 ?_
            refine gw_topi (y := ((eA h 1 0) ((((p1 * 9) + p2)).toNatClampNeg))) rfl ?_
            obtain ⟨rfl, rfl⟩ := ob_pair hF
            exact gw_iret () hx hb hr hlocks hP hD hS rfl dX4_ofGoose_41
          · have hF := ob_neg c_5 hF
            exact hJ_28 h hF H _ ls hP hD hS (lv_sub hl [] rfl)
def f_X4_setGoose_30 (h : HS) : Option HS := (some h)
def f_X4_setGoose (h : HS) (p1 : Int32) (p2 : Int32) (p3 : Int32) : Option HS := (ob2 (f_X4_hasGoose h p1) (fun r_1 h_1 => (if r_1 = 0 then (f_X4_setGoose_30 h_1) else (if p2 < 0 then (f_X4_setGoose_30 h_1) else (if 9 ≤ p2 then (f_X4_setGoose_30 h_1) else (if 0 ≤ (((p1 * 9) + p2)).toInt ∧ (((p1 * 9) + p2)).toInt < 90 then (f_X4_setGoose_30 (sA h_1 1 0 (upd (eA h_1 1 0) ((((p1 * 9) + p2)).toNatClampNeg) p3))) else none))))))
theorem e_X4_hasGoose : yX4_hasGoose.cls = RX4 ∧ yX4_hasGoose.cls ≠ "java/lang/invoke/MethodHandle" ∧ yX4_hasGoose.cls ≠ "java/lang/invoke/VarHandle" ∧ (parseMethodDescriptor yX4_hasGoose.desc).map (fun d => d.parameters.length) = some 1 := by decide +kernel
set_option maxHeartbeats 4000000 in
set_option maxRecDepth 100000 in
theorem c_X4_setGoose (l : Launch) (G : va_G) (cI cJ cZ cB cT : ClassId) (q : Nat → Nat) (h : HS) (p1 : Int32) (p2 : Int32) (p3 : Int32) (hh : HS) (hF : f_X4_setGoose h p1 p2 p3 = some hh) : gMv l yX4_setGoose (gws yX4_setGoose cX4_setGoose 4 none) 2 G (gT cI cJ cZ cB cT) [.ref (q 1), .int p1, .int p2, .int p3] (wC q cI cJ cZ cB cT h) (fun (_ : Unit) => True) (fun (_ : Unit) => (wC q cI cJ cZ cB cT hh)) := by
  intro sz
  refine gM_start (y := yX4_setGoose) (av := [.ref (q 1), .int p1, .int p2, .int p3]) (ws := (wC q cI cJ cZ cB cT h)) (Qf := fun A => va_Qv (fun (_ : Unit) => True) (gB G (fun (_ : Unit) => (wC q cI cJ cZ cB cT hh)) A) A) (cc := cX4_setGoose) (maxL := 4) (ret := none) (by decide) (Nat.le_of_ble_eq_true rfl) ?_
  intro p e s m args below meth c A ls H hx hb hr hts hown hin hlocks hml hP hK hD hA hS hl hE
  have hl : lv_has ls 4 [(0, .ref (q 1)), (1, .int p1), (2, .int p2), (3, .int p3)] := hl
  have hJ_30 : ∀ (h : HS), f_X4_setGoose_30 h = some hh → ∀ (H : Heap) (locs : List Loc) (ls : Array Slot), va_P G vwCl (wC q cI cJ cZ cB cT h) H → va_D A (wC q cI cJ cZ cB cT h) → va_S A s.heap H locs → lv_has ls 4 [] → W p l e (gRm 2) s m args below meth c H locs 0 0 (MQ below (va_Qv (fun (_ : Unit) => True) (gB G (fun (_ : Unit) => (wC q cI cJ cZ cB cT hh)) A) A) args s 0 0 A) (F0 m 30 ls []) := by
    intro h hF H locs ls hP hD hS hl
    unfold f_X4_setGoose_30 at hF
    obtain rfl := ob_one hF
    exact gw_vret () hx hb hr hlocks hP hD hS trivial dX4_setGoose_30
  unfold f_X4_setGoose at hF
  refine lv_aload_n hx hb dX4_setGoose_0 rfl (lv_at hl 0 rfl) ?_
  refine lv_iload_n hx hb dX4_setGoose_1 rfl (lv_at hl 1 rfl) ?_
  obtain ⟨r_1, h_1, e_1, hF⟩ := ob2_some hF
  refine gx_calli (gx_runV (As := [.int p1]) (rest := []) ⟨hx, hb, hml, hown, hts⟩ (c_X4_hasGoose l G cI cJ cZ cB cT q h p1 r_1 h_1 e_1 H.size) (gG_V m_4 m_5 m_6 m_7 m_3) rfl e_X4_hasGoose ⟨Nat.le_of_ble_eq_true rfl, Nat.le_of_ble_eq_true rfl⟩ hK hP hD hE hS hA 1 wC_at1 rfl rfl hl.1 rfl (Nat.le_of_ble_eq_true rfl) dX4_setGoose_2 ⟨Nat.le_refl _, Nat.le_refl _⟩) hP hD hS hA (fun x_1 u_1 H locs hw_1 hP hD hS => ?_)
  subst x_1
  refine lv_if_eq (tgt := 30) hx hb dX4_setGoose_5 (by decide) (fun c_2 => ?_) (fun c_2 => ?_)
  · have hF := ob_pos c_2 hF
    exact hJ_30 h_1 hF H _ ls hP hD hS (lv_sub hl [] rfl)
  · have hF := ob_neg c_2 hF
    refine lv_iload_n hx hb dX4_setGoose_8 rfl (lv_at hl 2 rfl) ?_
    refine lv_if_lt (tgt := 30) hx hb dX4_setGoose_9 (by decide) (fun c_3 => ?_) (fun c_3 => ?_)
    · have hF := ob_pos c_3 hF
      exact hJ_30 h_1 hF H _ ls hP hD hS (lv_sub hl [] rfl)
    · have hF := ob_neg c_3 hF
      refine lv_iload_n hx hb dX4_setGoose_12 rfl (lv_at hl 2 rfl) ?_
      refine lv_bipush (v := 9) hx hb dX4_setGoose_13 (by decide) ?_
      refine lv_icmp_ge (tgt := 30) hx hb dX4_setGoose_15 (by decide) (fun c_4 => ?_) (fun c_4 => ?_)
      · have hF := ob_pos c_4 hF
        exact hJ_30 h_1 hF H _ ls hP hD hS (lv_sub hl [] rfl)
      · have hF := ob_neg c_4 hF
        refine lv_aload_n hx hb dX4_setGoose_18 rfl (lv_at hl 0 rfl) ?_
        refine va_get (D := G) (ci := 4) (v := .ref (q 2)) (C := RX4) (T := TX4) (N := 13) hx hb hts iX4 hown hK hP 1 wC_at1 rfl 0 (by decide) (hts _ m_2) (fun _ h9 => h9) rfl dX4_setGoose_19 ?_
        refine lv_iload_n hx hb dX4_setGoose_22 rfl (lv_at hl 1 rfl) ?_
        refine lv_bipush (v := 9) hx hb dX4_setGoose_23 (by decide) ?_
        refine lv_imul hx hb dX4_setGoose_25 ?_
        refine lv_iload_n hx hb dX4_setGoose_26 rfl (lv_at hl 2 rfl) ?_
        refine lv_iadd hx hb dX4_setGoose_27 ?_
        refine lv_iload_n hx hb dX4_setGoose_28 rfl (lv_at hl 3 rfl) ?_
        obtain ⟨hi_5, hF⟩ := ob_if hF
        refine va_iast (D := G) hx hb hK hP hD hS 2 0 wC_at2 rfl (vp_in_iff.mpr hi_5) dX4_setGoose_29 (fun H locs hP hD hS => ?_)
        rw [wC_sA2] at hP hD
        have hP : va_P G vwCl (wC q cI cJ cZ cB cT (sA h_1 1 0 (upd (eA h_1 1 0) ((((p1 * 9) + p2)).toNatClampNeg) p3))) H := hP
        have hD : va_D A (wC q cI cJ cZ cB cT (sA h_1 1 0 (upd (eA h_1 1 0) ((((p1 * 9) + p2)).toNatClampNeg) p3))) := hD
        exact hJ_30 (sA h_1 1 0 (upd (eA h_1 1 0) ((((p1 * 9) + p2)).toNatClampNeg) p3)) hF H _ ls hP hD hS (lv_sub hl [] rfl)
def f_X4_ofMarket_26 (h : HS) : Option (Int32 × HS) := (some (0, h))
def f_X4_ofMarket (h : HS) (p1 : Int32) (p2 : Int32) : Option (Int32 × HS) := (if p1 < 0 then (f_X4_ofMarket_26 h) else (if (eI h 1 4) ≤ p1 then (f_X4_ofMarket_26 h) else (if 4 ≤ p1 then (f_X4_ofMarket_26 h) else (if p2 < 0 then (f_X4_ofMarket_26 h) else (if p2 < 3 then (if 0 ≤ (((p1 * 3) + p2)).toInt ∧ (((p1 * 3) + p2)).toInt < 12 then (some (((eA h 1 1) ((((p1 * 3) + p2)).toNatClampNeg)), h)) else none) else (f_X4_ofMarket_26 h))))))
set_option maxHeartbeats 4000000 in
set_option maxRecDepth 100000 in
theorem c_X4_ofMarket (l : Launch) (G : va_G) (cI cJ cZ cB cT : ClassId) (q : Nat → Nat) (h : HS) (p1 : Int32) (p2 : Int32) (rr : Int32) (hh : HS) (hF : f_X4_ofMarket h p1 p2 = some (rr, hh)) : gMi l yX4_ofMarket (gws yX4_ofMarket cX4_ofMarket 3 (some .int)) 1 G (gT cI cJ cZ cB cT) [.ref (q 1), .int p1, .int p2] (wC q cI cJ cZ cB cT h) (fun x (_ : Unit) => x = rr) (fun (_ : Unit) => (wC q cI cJ cZ cB cT hh)) := by
  intro sz
  refine gM_start (y := yX4_ofMarket) (av := [.ref (q 1), .int p1, .int p2]) (ws := (wC q cI cJ cZ cB cT h)) (Qf := fun A => va_Qi (fun x (_ : Unit) => x = rr) (gB G (fun (_ : Unit) => (wC q cI cJ cZ cB cT hh)) A) A) (cc := cX4_ofMarket) (maxL := 3) (ret := (some .int)) (by decide) (Nat.le_of_ble_eq_true rfl) ?_
  intro p e s m args below meth c A ls H hx hb hr hts hown hin hlocks hml hP hK hD hA hS hl hE
  have hl : lv_has ls 3 [(0, .ref (q 1)), (1, .int p1), (2, .int p2)] := hl
  have hJ_26 : ∀ (h : HS), f_X4_ofMarket_26 h = some (rr, hh) → ∀ (H : Heap) (locs : List Loc) (ls : Array Slot), va_P G vwCl (wC q cI cJ cZ cB cT h) H → va_D A (wC q cI cJ cZ cB cT h) → va_S A s.heap H locs → lv_has ls 3 [] → W p l e (gRm 1) s m args below meth c H locs 0 0 (MQ below (va_Qi (fun x (_ : Unit) => x = rr) (gB G (fun (_ : Unit) => (wC q cI cJ cZ cB cT hh)) A) A) args s 0 0 A) (F0 m 26 ls []) := by
    intro h hF H locs ls hP hD hS hl
    unfold f_X4_ofMarket_26 at hF
    refine lv_iconst (v := 0) hx hb dX4_ofMarket_26 (by decide) ?_
    obtain ⟨rfl, rfl⟩ := ob_pair hF
    exact gw_iret () hx hb hr hlocks hP hD hS rfl dX4_ofMarket_27
  unfold f_X4_ofMarket at hF
  refine lv_iload_n hx hb dX4_ofMarket_0 rfl (lv_at hl 1 rfl) ?_
  refine lv_if_lt (tgt := 26) hx hb dX4_ofMarket_1 (by decide) (fun c_1 => ?_) (fun c_1 => ?_)
  · have hF := ob_pos c_1 hF
    exact hJ_26 h hF H _ ls hP hD hS (lv_sub hl [] rfl)
  · have hF := ob_neg c_1 hF
    refine lv_iload_n hx hb dX4_ofMarket_4 rfl (lv_at hl 1 rfl) ?_
    refine lv_aload_n hx hb dX4_ofMarket_5 rfl (lv_at hl 0 rfl) ?_
    refine va_get (D := G) (ci := 4) (v := .int (eI h 1 4)) (C := RX4) (T := TX4) (N := 13) hx hb hts iX4 hown hK hP 1 wC_at1 rfl 4 (by decide) (hts _ m_1) (fun _ h9 => h9) rfl dX4_ofMarket_6 ?_
    refine lv_icmp_ge (tgt := 26) hx hb dX4_ofMarket_9 (by decide) (fun c_2 => ?_) (fun c_2 => ?_)
    · have hF := ob_pos c_2 hF
      exact hJ_26 h hF H _ ls hP hD hS (lv_sub hl [] rfl)
    · have hF := ob_neg c_2 hF
      refine lv_iload_n hx hb dX4_ofMarket_12 rfl (lv_at hl 1 rfl) ?_
      refine lv_iconst (v := 4) hx hb dX4_ofMarket_13 (by decide) ?_
      refine lv_icmp_ge (tgt := 26) hx hb dX4_ofMarket_14 (by decide) (fun c_3 => ?_) (fun c_3 => ?_)
      · have hF := ob_pos c_3 hF
        exact hJ_26 h hF H _ ls hP hD hS (lv_sub hl [] rfl)
      · have hF := ob_neg c_3 hF
        refine lv_iload_n hx hb dX4_ofMarket_17 rfl (lv_at hl 2 rfl) ?_
        refine lv_if_lt (tgt := 26) hx hb dX4_ofMarket_18 (by decide) (fun c_4 => ?_) (fun c_4 => ?_)
        · have hF := ob_pos c_4 hF
          exact hJ_26 h hF H _ ls hP hD hS (lv_sub hl [] rfl)
        · have hF := ob_neg c_4 hF
          refine lv_iload_n hx hb dX4_ofMarket_21 rfl (lv_at hl 2 rfl) ?_
          refine lv_iconst (v := 3) hx hb dX4_ofMarket_22 (by decide) ?_
          refine lv_icmp_lt (tgt := 28) hx hb dX4_ofMarket_23 (by decide) (fun c_5 => ?_) (fun c_5 => ?_)
          · have hF := ob_pos c_5 hF
            refine lv_aload_n hx hb dX4_ofMarket_28 rfl (lv_at hl 0 rfl) ?_
            refine va_get (D := G) (ci := 4) (v := .ref (q 3)) (C := RX4) (T := TX4) (N := 13) hx hb hts iX4 hown hK hP 1 wC_at1 rfl 1 (by decide) (hts _ m_8) (fun _ h9 => h9) rfl dX4_ofMarket_29 ?_
            refine lv_iload_n hx hb dX4_ofMarket_32 rfl (lv_at hl 1 rfl) ?_
            refine lv_iconst (v := 3) hx hb dX4_ofMarket_33 (by decide) ?_
            refine lv_imul hx hb dX4_ofMarket_34 ?_
            refine lv_iload_n hx hb dX4_ofMarket_35 rfl (lv_at hl 2 rfl) ?_
            refine lv_iadd hx hb dX4_ofMarket_36 ?_
            obtain ⟨hi_6, hF⟩ := ob_if hF
            refine va_iald (D := G) hx hb hK hP 3 0 wC_at3 rfl (vp_in_iff.mpr hi_6) dX4_ofMarket_37 ?_
            refine gw_topi (y := ((eA h 1 1) ((((p1 * 3) + p2)).toNatClampNeg))) rfl ?_
            obtain ⟨rfl, rfl⟩ := ob_pair hF
            exact gw_iret () hx hb hr hlocks hP hD hS rfl dX4_ofMarket_38
          · have hF := ob_neg c_5 hF
            exact hJ_26 h hF H _ ls hP hD hS (lv_sub hl [] rfl)
def f_X4_addMarket (h : HS) (p1 : Int32) (p2 : Int32) (p3 : Int32) : Option (Int32 × HS) := (if (eI h 1 4) < 4 then (if 0 ≤ ((((eI h 1 4) * 3) + 0)).toInt ∧ ((((eI h 1 4) * 3) + 0)).toInt < 12 then (if 0 ≤ ((((eI h 1 4) * 3) + 1)).toInt ∧ ((((eI h 1 4) * 3) + 1)).toInt < 12 then (if 0 ≤ ((((eI h 1 4) * 3) + 2)).toInt ∧ ((((eI h 1 4) * 3) + 2)).toInt < 12 then (some ((((eI h 1 4) + 1) - 1), (sI (sA (sA (sA h 1 1 (upd (eA h 1 1) (((((eI h 1 4) * 3) + 0)).toNatClampNeg) p1)) 1 1 (upd (upd (eA h 1 1) (((((eI h 1 4) * 3) + 0)).toNatClampNeg) p1) (((((eI h 1 4) * 3) + 1)).toNatClampNeg) p2)) 1 1 (upd (upd (upd (eA h 1 1) (((((eI h 1 4) * 3) + 0)).toNatClampNeg) p1) (((((eI h 1 4) * 3) + 1)).toNatClampNeg) p2) (((((eI h 1 4) * 3) + 2)).toNatClampNeg) p3)) 1 4 ((eI h 1 4) + 1)))) else none) else none) else none) else (some ((-1), h)))
set_option maxHeartbeats 4000000 in
set_option maxRecDepth 100000 in
theorem c_X4_addMarket (l : Launch) (G : va_G) (cI cJ cZ cB cT : ClassId) (q : Nat → Nat) (h : HS) (p1 : Int32) (p2 : Int32) (p3 : Int32) (rr : Int32) (hh : HS) (hF : f_X4_addMarket h p1 p2 p3 = some (rr, hh)) : gMi l yX4_addMarket (gws yX4_addMarket cX4_addMarket 5 (some .int)) 1 G (gT cI cJ cZ cB cT) [.ref (q 1), .int p1, .int p2, .int p3] (wC q cI cJ cZ cB cT h) (fun x (_ : Unit) => x = rr) (fun (_ : Unit) => (wC q cI cJ cZ cB cT hh)) := by
  intro sz
  refine gM_start (y := yX4_addMarket) (av := [.ref (q 1), .int p1, .int p2, .int p3]) (ws := (wC q cI cJ cZ cB cT h)) (Qf := fun A => va_Qi (fun x (_ : Unit) => x = rr) (gB G (fun (_ : Unit) => (wC q cI cJ cZ cB cT hh)) A) A) (cc := cX4_addMarket) (maxL := 5) (ret := (some .int)) (by decide) (Nat.le_of_ble_eq_true rfl) ?_
  intro p e s m args below meth c A ls H hx hb hr hts hown hin hlocks hml hP hK hD hA hS hl hE
  have hl : lv_has ls 5 [(0, .ref (q 1)), (1, .int p1), (2, .int p2), (3, .int p3)] := hl
  unfold f_X4_addMarket at hF
  refine lv_aload_n hx hb dX4_addMarket_0 rfl (lv_at hl 0 rfl) ?_
  refine va_get (D := G) (ci := 4) (v := .int (eI h 1 4)) (C := RX4) (T := TX4) (N := 13) hx hb hts iX4 hown hK hP 1 wC_at1 rfl 4 (by decide) (hts _ m_1) (fun _ h9 => h9) rfl dX4_addMarket_1 ?_
  refine lv_iconst (v := 4) hx hb dX4_addMarket_4 (by decide) ?_
  refine lv_icmp_lt (tgt := 10) hx hb dX4_addMarket_5 (by decide) (fun c_1 => ?_) (fun c_1 => ?_)
  · have hF := ob_pos c_1 hF
    refine lv_aload_n hx hb dX4_addMarket_10 rfl (lv_at hl 0 rfl) ?_
    refine va_get (D := G) (ci := 4) (v := .int (eI h 1 4)) (C := RX4) (T := TX4) (N := 13) hx hb hts iX4 hown hK hP 1 wC_at1 rfl 4 (by decide) (hts _ m_1) (fun _ h9 => h9) rfl dX4_addMarket_11 ?_
    refine lv_iconst (v := 3) hx hb dX4_addMarket_14 (by decide) ?_
    refine lv_imul hx hb dX4_addMarket_15 ?_
    refine lv_istore (lv' := [(4, .int ((eI h 1 4) * 3)), (0, .ref (q 1)), (1, .int p1), (2, .int p2), (3, .int p3)]) hx hb dX4_addMarket_16 hl (by decide) rfl (fun ls hl => ?_)
    refine lv_aload_n hx hb dX4_addMarket_18 rfl (lv_at hl 1 rfl) ?_
    refine va_get (D := G) (ci := 4) (v := .ref (q 3)) (C := RX4) (T := TX4) (N := 13) hx hb hts iX4 hown hK hP 1 wC_at1 rfl 1 (by decide) (hts _ m_8) (fun _ h9 => h9) rfl dX4_addMarket_19 ?_
    refine lv_iload hx hb dX4_addMarket_22 (lv_at hl 0 rfl) ?_
    refine lv_iconst (v := 0) hx hb dX4_addMarket_24 (by decide) ?_
    refine lv_iadd hx hb dX4_addMarket_25 ?_
    refine lv_iload_n hx hb dX4_addMarket_26 rfl (lv_at hl 2 rfl) ?_
    obtain ⟨hi_2, hF⟩ := ob_if hF
    refine va_iast (D := G) hx hb hK hP hD hS 3 0 wC_at3 rfl (vp_in_iff.mpr hi_2) dX4_addMarket_27 (fun H locs hP hD hS => ?_)
    rw [wC_sA3] at hP hD
    have hP : va_P G vwCl (wC q cI cJ cZ cB cT (sA h 1 1 (upd (eA h 1 1) (((((eI h 1 4) * 3) + 0)).toNatClampNeg) p1))) H := hP
    have hD : va_D A (wC q cI cJ cZ cB cT (sA h 1 1 (upd (eA h 1 1) (((((eI h 1 4) * 3) + 0)).toNatClampNeg) p1))) := hD
    refine lv_aload_n hx hb dX4_addMarket_28 rfl (lv_at hl 1 rfl) ?_
    refine va_get (D := G) (ci := 4) (v := .ref (q 3)) (C := RX4) (T := TX4) (N := 13) hx hb hts iX4 hown hK hP 1 wC_at1 rfl 1 (by decide) (hts _ m_8) (fun _ h9 => h9) rfl dX4_addMarket_29 ?_
    refine lv_iload hx hb dX4_addMarket_32 (lv_at hl 0 rfl) ?_
    refine lv_iconst (v := 1) hx hb dX4_addMarket_34 (by decide) ?_
    refine lv_iadd hx hb dX4_addMarket_35 ?_
    refine lv_iload_n hx hb dX4_addMarket_36 rfl (lv_at hl 3 rfl) ?_
    obtain ⟨hi_3, hF⟩ := ob_if hF
    refine va_iast (D := G) hx hb hK hP hD hS 3 0 wC_at3 rfl (vp_in_iff.mpr hi_3) dX4_addMarket_37 (fun H locs hP hD hS => ?_)
    rw [wC_sA3] at hP hD
    have hP : va_P G vwCl (wC q cI cJ cZ cB cT (sA (sA h 1 1 (upd (eA h 1 1) (((((eI h 1 4) * 3) + 0)).toNatClampNeg) p1)) 1 1 (upd (upd (eA h 1 1) (((((eI h 1 4) * 3) + 0)).toNatClampNeg) p1) (((((eI h 1 4) * 3) + 1)).toNatClampNeg) p2))) H := hP
    have hD : va_D A (wC q cI cJ cZ cB cT (sA (sA h 1 1 (upd (eA h 1 1) (((((eI h 1 4) * 3) + 0)).toNatClampNeg) p1)) 1 1 (upd (upd (eA h 1 1) (((((eI h 1 4) * 3) + 0)).toNatClampNeg) p1) (((((eI h 1 4) * 3) + 1)).toNatClampNeg) p2))) := hD
    refine lv_aload_n hx hb dX4_addMarket_38 rfl (lv_at hl 1 rfl) ?_
    refine va_get (D := G) (ci := 4) (v := .ref (q 3)) (C := RX4) (T := TX4) (N := 13) hx hb hts iX4 hown hK hP 1 wC_at1 rfl 1 (by decide) (hts _ m_8) (fun _ h9 => h9) rfl dX4_addMarket_39 ?_
    refine lv_iload hx hb dX4_addMarket_42 (lv_at hl 0 rfl) ?_
    refine lv_iconst (v := 2) hx hb dX4_addMarket_44 (by decide) ?_
    refine lv_iadd hx hb dX4_addMarket_45 ?_
    refine lv_iload_n hx hb dX4_addMarket_46 rfl (lv_at hl 4 rfl) ?_
    obtain ⟨hi_4, hF⟩ := ob_if hF
    refine va_iast (D := G) hx hb hK hP hD hS 3 0 wC_at3 rfl (vp_in_iff.mpr hi_4) dX4_addMarket_47 (fun H locs hP hD hS => ?_)
    rw [wC_sA3] at hP hD
    have hP : va_P G vwCl (wC q cI cJ cZ cB cT (sA (sA (sA h 1 1 (upd (eA h 1 1) (((((eI h 1 4) * 3) + 0)).toNatClampNeg) p1)) 1 1 (upd (upd (eA h 1 1) (((((eI h 1 4) * 3) + 0)).toNatClampNeg) p1) (((((eI h 1 4) * 3) + 1)).toNatClampNeg) p2)) 1 1 (upd (upd (upd (eA h 1 1) (((((eI h 1 4) * 3) + 0)).toNatClampNeg) p1) (((((eI h 1 4) * 3) + 1)).toNatClampNeg) p2) (((((eI h 1 4) * 3) + 2)).toNatClampNeg) p3))) H := hP
    have hD : va_D A (wC q cI cJ cZ cB cT (sA (sA (sA h 1 1 (upd (eA h 1 1) (((((eI h 1 4) * 3) + 0)).toNatClampNeg) p1)) 1 1 (upd (upd (eA h 1 1) (((((eI h 1 4) * 3) + 0)).toNatClampNeg) p1) (((((eI h 1 4) * 3) + 1)).toNatClampNeg) p2)) 1 1 (upd (upd (upd (eA h 1 1) (((((eI h 1 4) * 3) + 0)).toNatClampNeg) p1) (((((eI h 1 4) * 3) + 1)).toNatClampNeg) p2) (((((eI h 1 4) * 3) + 2)).toNatClampNeg) p3))) := hD
    refine lv_aload_n hx hb dX4_addMarket_48 rfl (lv_at hl 1 rfl) ?_
    refine lv_dup hx hb dX4_addMarket_49 rfl ?_
    refine va_get (D := G) (ci := 4) (v := .int (eI h 1 4)) (C := RX4) (T := TX4) (N := 13) hx hb hts iX4 hown hK hP 1 wC_at1 rfl 4 (by decide) (hts _ m_1) (fun _ h9 => h9) rfl dX4_addMarket_50 ?_
    refine lv_iconst (v := 1) hx hb dX4_addMarket_53 (by decide) ?_
    refine lv_iadd hx hb dX4_addMarket_54 ?_
    refine va_put (D := G) (ci := 4) (v := .int ((eI h 1 4) + 1)) (ty := .int) (C := RX4) (T := TX4) (N := 13) hx hb hts iX4 tyX4 tyX4_ok nmX4 hown hK hP hD hS 1 wC_at1 rfl 4 (by decide) (hts _ m_1) (fun _ h9 => h9) rfl (tyX4_ok 4 (by decide)) rfl rfl (Nat.le_of_ble_eq_true rfl) dX4_addMarket_55 (fun H locs hP hD hS => ?_)
    rw [wC_sI1_4] at hP hD
    refine lv_aload_n hx hb dX4_addMarket_58 rfl (lv_at hl 1 rfl) ?_
    refine va_get (D := G) (ci := 4) (v := .int ((eI h 1 4) + 1)) (C := RX4) (T := TX4) (N := 13) hx hb hts iX4 hown hK hP 1 wC_at1 rfl 4 (by decide) (hts _ m_1) (fun _ h9 => h9) rfl dX4_addMarket_59 ?_
    refine lv_iconst (v := 1) hx hb dX4_addMarket_62 (by decide) ?_
    refine lv_isub hx hb dX4_addMarket_63 ?_
    obtain ⟨rfl, rfl⟩ := ob_pair hF
    exact gw_iret () hx hb hr hlocks hP hD hS rfl dX4_addMarket_64
  · have hF := ob_neg c_1 hF
    refine lv_iconst (v := (-1)) hx hb dX4_addMarket_8 (by decide) ?_
    obtain ⟨rfl, rfl⟩ := ob_pair hF
    exact gw_iret () hx hb hr hlocks hP hD hS rfl dX4_addMarket_9
def f_X4_addGoose (h : HS) (p1 : Int32) (p2 : Int32) : Option (Int32 × HS) := (if (eI h 1 3) < 10 then (ob1 (f_X4_setGoose (sI h 1 3 ((eI h 1 3) + 1)) (eI h 1 3) 0 p1) (fun h_2 => (ob1 (f_X4_setGoose h_2 (eI h 1 3) 1 p2) (fun h_3 => (ob1 (f_X4_setGoose h_3 (eI h 1 3) 2 (-1)) (fun h_4 => (ob1 (f_X4_setGoose h_4 (eI h 1 3) 3 (-1)) (fun h_5 => (ob1 (f_X4_setGoose h_5 (eI h 1 3) 4 0) (fun h_6 => (ob1 (f_X4_setGoose h_6 (eI h 1 3) 5 (-1)) (fun h_7 => (ob1 (f_X4_setGoose h_7 (eI h 1 3) 6 (-1)) (fun h_8 => (ob1 (f_X4_setGoose h_8 (eI h 1 3) 7 (-1)) (fun h_9 => (ob1 (f_X4_setGoose h_9 (eI h 1 3) 8 0) (fun h_10 => (some ((eI h 1 3), h_10)))))))))))))))))))) else (some ((-1), h)))
theorem e_X4_setGoose : yX4_setGoose.cls = RX4 ∧ yX4_setGoose.cls ≠ "java/lang/invoke/MethodHandle" ∧ yX4_setGoose.cls ≠ "java/lang/invoke/VarHandle" ∧ (parseMethodDescriptor yX4_setGoose.desc).map (fun d => d.parameters.length) = some 3 := by decide +kernel
set_option maxHeartbeats 4000000 in
set_option maxRecDepth 100000 in
theorem c_X4_addGoose (l : Launch) (G : va_G) (cI cJ cZ cB cT : ClassId) (q : Nat → Nat) (h : HS) (p1 : Int32) (p2 : Int32) (rr : Int32) (hh : HS) (hF : f_X4_addGoose h p1 p2 = some (rr, hh)) : gMi l yX4_addGoose (gws yX4_addGoose cX4_addGoose 4 (some .int)) 3 G (gT cI cJ cZ cB cT) [.ref (q 1), .int p1, .int p2] (wC q cI cJ cZ cB cT h) (fun x (_ : Unit) => x = rr) (fun (_ : Unit) => (wC q cI cJ cZ cB cT hh)) := by
  intro sz
  refine gM_start (y := yX4_addGoose) (av := [.ref (q 1), .int p1, .int p2]) (ws := (wC q cI cJ cZ cB cT h)) (Qf := fun A => va_Qi (fun x (_ : Unit) => x = rr) (gB G (fun (_ : Unit) => (wC q cI cJ cZ cB cT hh)) A) A) (cc := cX4_addGoose) (maxL := 4) (ret := (some .int)) (by decide) (Nat.le_of_ble_eq_true rfl) ?_
  intro p e s m args below meth c A ls H hx hb hr hts hown hin hlocks hml hP hK hD hA hS hl hE
  have hl : lv_has ls 4 [(0, .ref (q 1)), (1, .int p1), (2, .int p2)] := hl
  unfold f_X4_addGoose at hF
  refine lv_aload_n hx hb dX4_addGoose_0 rfl (lv_at hl 0 rfl) ?_
  refine va_get (D := G) (ci := 4) (v := .int (eI h 1 3)) (C := RX4) (T := TX4) (N := 13) hx hb hts iX4 hown hK hP 1 wC_at1 rfl 3 (by decide) (hts _ m_0) (fun _ h9 => h9) rfl dX4_addGoose_1 ?_
  refine lv_bipush (v := 10) hx hb dX4_addGoose_4 (by decide) ?_
  refine lv_icmp_lt (tgt := 11) hx hb dX4_addGoose_6 (by decide) (fun c_1 => ?_) (fun c_1 => ?_)
  · have hF := ob_pos c_1 hF
    refine lv_aload_n hx hb dX4_addGoose_11 rfl (lv_at hl 0 rfl) ?_
    refine va_get (D := G) (ci := 4) (v := .int (eI h 1 3)) (C := RX4) (T := TX4) (N := 13) hx hb hts iX4 hown hK hP 1 wC_at1 rfl 3 (by decide) (hts _ m_0) (fun _ h9 => h9) rfl dX4_addGoose_12 ?_
    refine lv_istore_n (lv' := [(3, .int (eI h 1 3)), (0, .ref (q 1)), (1, .int p1), (2, .int p2)]) hx hb dX4_addGoose_15 rfl hl (by decide) rfl (fun ls hl => ?_)
    refine lv_aload_n hx hb dX4_addGoose_16 rfl (lv_at hl 1 rfl) ?_
    refine lv_dup hx hb dX4_addGoose_17 rfl ?_
    refine va_get (D := G) (ci := 4) (v := .int (eI h 1 3)) (C := RX4) (T := TX4) (N := 13) hx hb hts iX4 hown hK hP 1 wC_at1 rfl 3 (by decide) (hts _ m_0) (fun _ h9 => h9) rfl dX4_addGoose_18 ?_
    refine lv_iconst (v := 1) hx hb dX4_addGoose_21 (by decide) ?_
    refine lv_iadd hx hb dX4_addGoose_22 ?_
    refine va_put (D := G) (ci := 4) (v := .int ((eI h 1 3) + 1)) (ty := .int) (C := RX4) (T := TX4) (N := 13) hx hb hts iX4 tyX4 tyX4_ok nmX4 hown hK hP hD hS 1 wC_at1 rfl 3 (by decide) (hts _ m_0) (fun _ h9 => h9) rfl (tyX4_ok 3 (by decide)) rfl rfl (Nat.le_of_ble_eq_true rfl) dX4_addGoose_23 (fun H locs hP hD hS => ?_)
    rw [wC_sI1_3] at hP hD
    refine lv_aload_n hx hb dX4_addGoose_26 rfl (lv_at hl 1 rfl) ?_
    refine lv_iload_n hx hb dX4_addGoose_27 rfl (lv_at hl 0 rfl) ?_
    refine lv_iconst (v := 0) hx hb dX4_addGoose_28 (by decide) ?_
    refine lv_iload_n hx hb dX4_addGoose_29 rfl (lv_at hl 2 rfl) ?_
    obtain ⟨h_2, e_2, hF⟩ := ob1_some hF
    refine gx_callv (gx_runV (As := [.int (eI h 1 3), .int 0, .int p1]) (rest := []) ⟨hx, hb, hml, hown, hts⟩ (c_X4_setGoose l G cI cJ cZ cB cT q (sI h 1 3 ((eI h 1 3) + 1)) (eI h 1 3) 0 p1 h_2 e_2 H.size) (gG_V m_10 m_11 m_12 m_7 m_9) rfl e_X4_setGoose ⟨Nat.le_of_ble_eq_true rfl, Nat.le_of_ble_eq_true rfl⟩ hK hP hD hE hS hA 1 wC_at1 rfl rfl hl.1 rfl (Nat.le_of_ble_eq_true rfl) dX4_addGoose_30 ⟨Nat.le_refl _, Nat.le_refl _⟩) hP hD hS hA (fun u_2 H locs hw_2 hP hD hS => ?_)
    refine lv_aload_n hx hb dX4_addGoose_33 rfl (lv_at hl 1 rfl) ?_
    refine lv_iload_n hx hb dX4_addGoose_34 rfl (lv_at hl 0 rfl) ?_
    refine lv_iconst (v := 1) hx hb dX4_addGoose_35 (by decide) ?_
    refine lv_iload_n hx hb dX4_addGoose_36 rfl (lv_at hl 3 rfl) ?_
    obtain ⟨h_3, e_3, hF⟩ := ob1_some hF
    refine gx_callv (gx_runV (As := [.int (eI h 1 3), .int 1, .int p2]) (rest := []) ⟨hx, hb, hml, hown, hts⟩ (c_X4_setGoose l G cI cJ cZ cB cT q h_2 (eI h 1 3) 1 p2 h_3 e_3 H.size) (gG_V m_10 m_11 m_12 m_7 m_9) rfl e_X4_setGoose ⟨Nat.le_of_ble_eq_true rfl, Nat.le_of_ble_eq_true rfl⟩ hK hP hD hE hS hA 1 wC_at1 rfl rfl hl.1 rfl (Nat.le_of_ble_eq_true rfl) dX4_addGoose_37 ⟨Nat.le_refl _, Nat.le_refl _⟩) hP hD hS hA (fun u_3 H locs hw_3 hP hD hS => ?_)
    refine lv_aload_n hx hb dX4_addGoose_40 rfl (lv_at hl 1 rfl) ?_
    refine lv_iload_n hx hb dX4_addGoose_41 rfl (lv_at hl 0 rfl) ?_
    refine lv_iconst (v := 2) hx hb dX4_addGoose_42 (by decide) ?_
    refine lv_iconst (v := (-1)) hx hb dX4_addGoose_43 (by decide) ?_
    obtain ⟨h_4, e_4, hF⟩ := ob1_some hF
    refine gx_callv (gx_runV (As := [.int (eI h 1 3), .int 2, .int (-1)]) (rest := []) ⟨hx, hb, hml, hown, hts⟩ (c_X4_setGoose l G cI cJ cZ cB cT q h_3 (eI h 1 3) 2 (-1) h_4 e_4 H.size) (gG_V m_10 m_11 m_12 m_7 m_9) rfl e_X4_setGoose ⟨Nat.le_of_ble_eq_true rfl, Nat.le_of_ble_eq_true rfl⟩ hK hP hD hE hS hA 1 wC_at1 rfl rfl hl.1 rfl (Nat.le_of_ble_eq_true rfl) dX4_addGoose_44 ⟨Nat.le_refl _, Nat.le_refl _⟩) hP hD hS hA (fun u_4 H locs hw_4 hP hD hS => ?_)
    refine lv_aload_n hx hb dX4_addGoose_47 rfl (lv_at hl 1 rfl) ?_
    refine lv_iload_n hx hb dX4_addGoose_48 rfl (lv_at hl 0 rfl) ?_
    refine lv_iconst (v := 3) hx hb dX4_addGoose_49 (by decide) ?_
    refine lv_iconst (v := (-1)) hx hb dX4_addGoose_50 (by decide) ?_
    obtain ⟨h_5, e_5, hF⟩ := ob1_some hF
    refine gx_callv (gx_runV (As := [.int (eI h 1 3), .int 3, .int (-1)]) (rest := []) ⟨hx, hb, hml, hown, hts⟩ (c_X4_setGoose l G cI cJ cZ cB cT q h_4 (eI h 1 3) 3 (-1) h_5 e_5 H.size) (gG_V m_10 m_11 m_12 m_7 m_9) rfl e_X4_setGoose ⟨Nat.le_of_ble_eq_true rfl, Nat.le_of_ble_eq_true rfl⟩ hK hP hD hE hS hA 1 wC_at1 rfl rfl hl.1 rfl (Nat.le_of_ble_eq_true rfl) dX4_addGoose_51 ⟨Nat.le_refl _, Nat.le_refl _⟩) hP hD hS hA (fun u_5 H locs hw_5 hP hD hS => ?_)
    refine lv_aload_n hx hb dX4_addGoose_54 rfl (lv_at hl 1 rfl) ?_
    refine lv_iload_n hx hb dX4_addGoose_55 rfl (lv_at hl 0 rfl) ?_
    refine lv_iconst (v := 4) hx hb dX4_addGoose_56 (by decide) ?_
    refine lv_iconst (v := 0) hx hb dX4_addGoose_57 (by decide) ?_
    obtain ⟨h_6, e_6, hF⟩ := ob1_some hF
    refine gx_callv (gx_runV (As := [.int (eI h 1 3), .int 4, .int 0]) (rest := []) ⟨hx, hb, hml, hown, hts⟩ (c_X4_setGoose l G cI cJ cZ cB cT q h_5 (eI h 1 3) 4 0 h_6 e_6 H.size) (gG_V m_10 m_11 m_12 m_7 m_9) rfl e_X4_setGoose ⟨Nat.le_of_ble_eq_true rfl, Nat.le_of_ble_eq_true rfl⟩ hK hP hD hE hS hA 1 wC_at1 rfl rfl hl.1 rfl (Nat.le_of_ble_eq_true rfl) dX4_addGoose_58 ⟨Nat.le_refl _, Nat.le_refl _⟩) hP hD hS hA (fun u_6 H locs hw_6 hP hD hS => ?_)
    refine lv_aload_n hx hb dX4_addGoose_61 rfl (lv_at hl 1 rfl) ?_
    refine lv_iload_n hx hb dX4_addGoose_62 rfl (lv_at hl 0 rfl) ?_
    refine lv_iconst (v := 5) hx hb dX4_addGoose_63 (by decide) ?_
    refine lv_iconst (v := (-1)) hx hb dX4_addGoose_64 (by decide) ?_
    obtain ⟨h_7, e_7, hF⟩ := ob1_some hF
    refine gx_callv (gx_runV (As := [.int (eI h 1 3), .int 5, .int (-1)]) (rest := []) ⟨hx, hb, hml, hown, hts⟩ (c_X4_setGoose l G cI cJ cZ cB cT q h_6 (eI h 1 3) 5 (-1) h_7 e_7 H.size) (gG_V m_10 m_11 m_12 m_7 m_9) rfl e_X4_setGoose ⟨Nat.le_of_ble_eq_true rfl, Nat.le_of_ble_eq_true rfl⟩ hK hP hD hE hS hA 1 wC_at1 rfl rfl hl.1 rfl (Nat.le_of_ble_eq_true rfl) dX4_addGoose_65 ⟨Nat.le_refl _, Nat.le_refl _⟩) hP hD hS hA (fun u_7 H locs hw_7 hP hD hS => ?_)
    refine lv_aload_n hx hb dX4_addGoose_68 rfl (lv_at hl 1 rfl) ?_
    refine lv_iload_n hx hb dX4_addGoose_69 rfl (lv_at hl 0 rfl) ?_
    refine lv_bipush (v := 6) hx hb dX4_addGoose_70 (by decide) ?_
    refine lv_iconst (v := (-1)) hx hb dX4_addGoose_72 (by decide) ?_
    obtain ⟨h_8, e_8, hF⟩ := ob1_some hF
    refine gx_callv (gx_runV (As := [.int (eI h 1 3), .int 6, .int (-1)]) (rest := []) ⟨hx, hb, hml, hown, hts⟩ (c_X4_setGoose l G cI cJ cZ cB cT q h_7 (eI h 1 3) 6 (-1) h_8 e_8 H.size) (gG_V m_10 m_11 m_12 m_7 m_9) rfl e_X4_setGoose ⟨Nat.le_of_ble_eq_true rfl, Nat.le_of_ble_eq_true rfl⟩ hK hP hD hE hS hA 1 wC_at1 rfl rfl hl.1 rfl (Nat.le_of_ble_eq_true rfl) dX4_addGoose_73 ⟨Nat.le_refl _, Nat.le_refl _⟩) hP hD hS hA (fun u_8 H locs hw_8 hP hD hS => ?_)
    refine lv_aload_n hx hb dX4_addGoose_76 rfl (lv_at hl 1 rfl) ?_
    refine lv_iload_n hx hb dX4_addGoose_77 rfl (lv_at hl 0 rfl) ?_
    refine lv_bipush (v := 7) hx hb dX4_addGoose_78 (by decide) ?_
    refine lv_iconst (v := (-1)) hx hb dX4_addGoose_80 (by decide) ?_
    obtain ⟨h_9, e_9, hF⟩ := ob1_some hF
    refine gx_callv (gx_runV (As := [.int (eI h 1 3), .int 7, .int (-1)]) (rest := []) ⟨hx, hb, hml, hown, hts⟩ (c_X4_setGoose l G cI cJ cZ cB cT q h_8 (eI h 1 3) 7 (-1) h_9 e_9 H.size) (gG_V m_10 m_11 m_12 m_7 m_9) rfl e_X4_setGoose ⟨Nat.le_of_ble_eq_true rfl, Nat.le_of_ble_eq_true rfl⟩ hK hP hD hE hS hA 1 wC_at1 rfl rfl hl.1 rfl (Nat.le_of_ble_eq_true rfl) dX4_addGoose_81 ⟨Nat.le_refl _, Nat.le_refl _⟩) hP hD hS hA (fun u_9 H locs hw_9 hP hD hS => ?_)
    refine lv_aload_n hx hb dX4_addGoose_84 rfl (lv_at hl 1 rfl) ?_
    refine lv_iload_n hx hb dX4_addGoose_85 rfl (lv_at hl 0 rfl) ?_
    refine lv_bipush (v := 8) hx hb dX4_addGoose_86 (by decide) ?_
    refine lv_iconst (v := 0) hx hb dX4_addGoose_88 (by decide) ?_
    obtain ⟨h_10, e_10, hF⟩ := ob1_some hF
    refine gx_callv (gx_runV (As := [.int (eI h 1 3), .int 8, .int 0]) (rest := []) ⟨hx, hb, hml, hown, hts⟩ (c_X4_setGoose l G cI cJ cZ cB cT q h_9 (eI h 1 3) 8 0 h_10 e_10 H.size) (gG_V m_10 m_11 m_12 m_7 m_9) rfl e_X4_setGoose ⟨Nat.le_of_ble_eq_true rfl, Nat.le_of_ble_eq_true rfl⟩ hK hP hD hE hS hA 1 wC_at1 rfl rfl hl.1 rfl (Nat.le_of_ble_eq_true rfl) dX4_addGoose_89 ⟨Nat.le_refl _, Nat.le_refl _⟩) hP hD hS hA (fun u_10 H locs hw_10 hP hD hS => ?_)
    refine lv_iload_n hx hb dX4_addGoose_92 rfl (lv_at hl 0 rfl) ?_
    obtain ⟨rfl, rfl⟩ := ob_pair hF
    exact gw_iret () hx hb hr hlocks hP hD hS rfl dX4_addGoose_93
  · have hF := ob_neg c_1 hF
    refine lv_iconst (v := (-1)) hx hb dX4_addGoose_9 (by decide) ?_
    obtain ⟨rfl, rfl⟩ := ob_pair hF
    exact gw_iret () hx hb hr hlocks hP hD hS rfl dX4_addGoose_10
def f_X4_isHome_14 (h : HS) (y0 : Int32) : Option (Int32 × HS) := (if y0 = 0 ∨ y0 = 1 then (some (y0, h)) else none)
def f_X4_isHome (h : HS) (p1 : Int32) : Option (Int32 × HS) := (ob2 (f_X4_ofGoose h p1 4) (fun r_1 h_1 => (if r_1 = 0 then (f_X4_isHome_14 h_1 1) else (f_X4_isHome_14 h_1 0))))
theorem e_X4_ofGoose : yX4_ofGoose.cls = RX4 ∧ yX4_ofGoose.cls ≠ "java/lang/invoke/MethodHandle" ∧ yX4_ofGoose.cls ≠ "java/lang/invoke/VarHandle" ∧ (parseMethodDescriptor yX4_ofGoose.desc).map (fun d => d.parameters.length) = some 2 := by decide +kernel
set_option maxHeartbeats 4000000 in
set_option maxRecDepth 100000 in
theorem c_X4_isHome (l : Launch) (G : va_G) (cI cJ cZ cB cT : ClassId) (q : Nat → Nat) (h : HS) (p1 : Int32) (rr : Int32) (hh : HS) (hF : f_X4_isHome h p1 = some (rr, hh)) : gMi l yX4_isHome (gws yX4_isHome cX4_isHome 2 (some .boolean)) 2 G (gT cI cJ cZ cB cT) [.ref (q 1), .int p1] (wC q cI cJ cZ cB cT h) (fun x (_ : Unit) => x = rr) (fun (_ : Unit) => (wC q cI cJ cZ cB cT hh)) := by
  intro sz
  refine gM_start (y := yX4_isHome) (av := [.ref (q 1), .int p1]) (ws := (wC q cI cJ cZ cB cT h)) (Qf := fun A => va_Qi (fun x (_ : Unit) => x = rr) (gB G (fun (_ : Unit) => (wC q cI cJ cZ cB cT hh)) A) A) (cc := cX4_isHome) (maxL := 2) (ret := (some .boolean)) (by decide) (Nat.le_of_ble_eq_true rfl) ?_
  intro p e s m args below meth c A ls H hx hb hr hts hown hin hlocks hml hP hK hD hA hS hl hE
  have hl : lv_has ls 2 [(0, .ref (q 1)), (1, .int p1)] := hl
  have hJ_14 : ∀ (h : HS) (y0 : Int32), f_X4_isHome_14 h y0 = some (rr, hh) → ∀ (H : Heap) (locs : List Loc) (ls : Array Slot), va_P G vwCl (wC q cI cJ cZ cB cT h) H → va_D A (wC q cI cJ cZ cB cT h) → va_S A s.heap H locs → lv_has ls 2 [] → W p l e (gRm 2) s m args below meth c H locs 0 0 (MQ below (va_Qi (fun x (_ : Unit) => x = rr) (gB G (fun (_ : Unit) => (wC q cI cJ cZ cB cT hh)) A) A) args s 0 0 A) (F0 m 14 ls [.int y0]) := by
    intro h y0 hF H locs ls hP hD hS hl
    unfold f_X4_isHome_14 at hF
    obtain ⟨hz_3, hF⟩ := ob_if hF
    obtain ⟨rfl, rfl⟩ := ob_pair hF
    exact gw_zret () hx hb hr hlocks (gz hz_3) hP hD hS rfl dX4_isHome_14
  unfold f_X4_isHome at hF
  refine lv_aload_n hx hb dX4_isHome_0 rfl (lv_at hl 0 rfl) ?_
  refine lv_iload_n hx hb dX4_isHome_1 rfl (lv_at hl 1 rfl) ?_
  refine lv_iconst (v := 4) hx hb dX4_isHome_2 (by decide) ?_
  obtain ⟨r_1, h_1, e_1, hF⟩ := ob2_some hF
  refine gx_calli (gx_runV (As := [.int p1, .int 4]) (rest := []) ⟨hx, hb, hml, hown, hts⟩ (c_X4_ofGoose l G cI cJ cZ cB cT q h p1 4 r_1 h_1 e_1 H.size) (gG_V m_14 m_15 m_16 m_7 m_13) rfl e_X4_ofGoose ⟨Nat.le_of_ble_eq_true rfl, Nat.le_of_ble_eq_true rfl⟩ hK hP hD hE hS hA 1 wC_at1 rfl rfl hl.1 rfl (Nat.le_of_ble_eq_true rfl) dX4_isHome_3 ⟨Nat.le_refl _, Nat.le_refl _⟩) hP hD hS hA (fun x_1 u_1 H locs hw_1 hP hD hS => ?_)
  subst x_1
  refine lv_if_ne (tgt := 13) hx hb dX4_isHome_6 (by decide) (fun c_2 => ?_) (fun c_2 => ?_)
  · have hF := ob_neg c_2 hF
    refine lv_iconst (v := 0) hx hb dX4_isHome_13 (by decide) ?_
    exact hJ_14 h_1 0 hF H _ ls hP hD hS (lv_sub hl [] rfl)
  · have hF := ob_pos c_2 hF
    refine lv_iconst (v := 1) hx hb dX4_isHome_9 (by decide) ?_
    refine lv_goto (tgt := 14) hx hb dX4_isHome_10 (by decide) ?_
    exact hJ_14 h_1 1 hF H _ ls hP hD hS (lv_sub hl [] rfl)
def f_X4_isFree_23 (h : HS) (y0 : Int32) : Option (Int32 × HS) := (if y0 = 0 ∨ y0 = 1 then (some (y0, h)) else none)
def f_X4_isFree_22 (h : HS) : Option (Int32 × HS) := (f_X4_isFree_23 h 0)
def f_X4_isFree (h : HS) (p1 : Int32) : Option (Int32 × HS) := (ob2 (f_X4_isHome h p1) (fun r_1 h_1 => (if r_1 = 0 then (f_X4_isFree_22 h_1) else (ob2 (f_X4_ofGoose h_1 p1 8) (fun r_3 h_3 => (if r_3 = 0 then (f_X4_isFree_23 h_3 1) else (f_X4_isFree_22 h_3)))))))
theorem e_X4_isHome : yX4_isHome.cls = RX4 ∧ yX4_isHome.cls ≠ "java/lang/invoke/MethodHandle" ∧ yX4_isHome.cls ≠ "java/lang/invoke/VarHandle" ∧ (parseMethodDescriptor yX4_isHome.desc).map (fun d => d.parameters.length) = some 1 := by decide +kernel
set_option maxHeartbeats 4000000 in
set_option maxRecDepth 100000 in
theorem c_X4_isFree (l : Launch) (G : va_G) (cI cJ cZ cB cT : ClassId) (q : Nat → Nat) (h : HS) (p1 : Int32) (rr : Int32) (hh : HS) (hF : f_X4_isFree h p1 = some (rr, hh)) : gMi l yX4_isFree (gws yX4_isFree cX4_isFree 2 (some .boolean)) 3 G (gT cI cJ cZ cB cT) [.ref (q 1), .int p1] (wC q cI cJ cZ cB cT h) (fun x (_ : Unit) => x = rr) (fun (_ : Unit) => (wC q cI cJ cZ cB cT hh)) := by
  intro sz
  refine gM_start (y := yX4_isFree) (av := [.ref (q 1), .int p1]) (ws := (wC q cI cJ cZ cB cT h)) (Qf := fun A => va_Qi (fun x (_ : Unit) => x = rr) (gB G (fun (_ : Unit) => (wC q cI cJ cZ cB cT hh)) A) A) (cc := cX4_isFree) (maxL := 2) (ret := (some .boolean)) (by decide) (Nat.le_of_ble_eq_true rfl) ?_
  intro p e s m args below meth c A ls H hx hb hr hts hown hin hlocks hml hP hK hD hA hS hl hE
  have hl : lv_has ls 2 [(0, .ref (q 1)), (1, .int p1)] := hl
  have hJ_23 : ∀ (h : HS) (y0 : Int32), f_X4_isFree_23 h y0 = some (rr, hh) → ∀ (H : Heap) (locs : List Loc) (ls : Array Slot), va_P G vwCl (wC q cI cJ cZ cB cT h) H → va_D A (wC q cI cJ cZ cB cT h) → va_S A s.heap H locs → lv_has ls 2 [] → W p l e (gRm 3) s m args below meth c H locs 0 0 (MQ below (va_Qi (fun x (_ : Unit) => x = rr) (gB G (fun (_ : Unit) => (wC q cI cJ cZ cB cT hh)) A) A) args s 0 0 A) (F0 m 23 ls [.int y0]) := by
    intro h y0 hF H locs ls hP hD hS hl
    unfold f_X4_isFree_23 at hF
    obtain ⟨hz_5, hF⟩ := ob_if hF
    obtain ⟨rfl, rfl⟩ := ob_pair hF
    exact gw_zret () hx hb hr hlocks (gz hz_5) hP hD hS rfl dX4_isFree_23
  have hJ_22 : ∀ (h : HS), f_X4_isFree_22 h = some (rr, hh) → ∀ (H : Heap) (locs : List Loc) (ls : Array Slot), va_P G vwCl (wC q cI cJ cZ cB cT h) H → va_D A (wC q cI cJ cZ cB cT h) → va_S A s.heap H locs → lv_has ls 2 [] → W p l e (gRm 3) s m args below meth c H locs 0 0 (MQ below (va_Qi (fun x (_ : Unit) => x = rr) (gB G (fun (_ : Unit) => (wC q cI cJ cZ cB cT hh)) A) A) args s 0 0 A) (F0 m 22 ls []) := by
    intro h hF H locs ls hP hD hS hl
    unfold f_X4_isFree_22 at hF
    refine lv_iconst (v := 0) hx hb dX4_isFree_22 (by decide) ?_
    exact hJ_23 h 0 hF H _ ls hP hD hS (lv_sub hl [] rfl)
  unfold f_X4_isFree at hF
  refine lv_aload_n hx hb dX4_isFree_0 rfl (lv_at hl 0 rfl) ?_
  refine lv_iload_n hx hb dX4_isFree_1 rfl (lv_at hl 1 rfl) ?_
  obtain ⟨r_1, h_1, e_1, hF⟩ := ob2_some hF
  refine gx_calli (gx_runV (As := [.int p1]) (rest := []) ⟨hx, hb, hml, hown, hts⟩ (c_X4_isHome l G cI cJ cZ cB cT q h p1 r_1 h_1 e_1 H.size) (gG_V m_18 m_19 m_20 m_7 m_17) rfl e_X4_isHome ⟨Nat.le_of_ble_eq_true rfl, Nat.le_of_ble_eq_true rfl⟩ hK hP hD hE hS hA 1 wC_at1 rfl rfl hl.1 rfl (Nat.le_of_ble_eq_true rfl) dX4_isFree_2 ⟨Nat.le_refl _, Nat.le_refl _⟩) hP hD hS hA (fun x_1 u_1 H locs hw_1 hP hD hS => ?_)
  subst x_1
  refine lv_if_eq (tgt := 22) hx hb dX4_isFree_5 (by decide) (fun c_2 => ?_) (fun c_2 => ?_)
  · have hF := ob_pos c_2 hF
    exact hJ_22 h_1 hF H _ ls hP hD hS (lv_sub hl [] rfl)
  · have hF := ob_neg c_2 hF
    refine lv_aload_n hx hb dX4_isFree_8 rfl (lv_at hl 0 rfl) ?_
    refine lv_iload_n hx hb dX4_isFree_9 rfl (lv_at hl 1 rfl) ?_
    refine lv_bipush (v := 8) hx hb dX4_isFree_10 (by decide) ?_
    obtain ⟨r_3, h_3, e_3, hF⟩ := ob2_some hF
    refine gx_calli (gx_runV (As := [.int p1, .int 8]) (rest := []) ⟨hx, hb, hml, hown, hts⟩ (c_X4_ofGoose l G cI cJ cZ cB cT q h_1 p1 8 r_3 h_3 e_3 H.size) (gG_V m_14 m_15 m_16 m_7 m_13) rfl e_X4_ofGoose ⟨Nat.le_of_ble_eq_true rfl, Nat.le_of_ble_eq_true rfl⟩ hK hP hD hE hS hA 1 wC_at1 rfl rfl hl.1 rfl (Nat.le_of_ble_eq_true rfl) dX4_isFree_12 ⟨Nat.le_refl _, Nat.le_refl _⟩) hP hD hS hA (fun x_3 u_3 H locs hw_3 hP hD hS => ?_)
    subst x_3
    refine lv_if_ne (tgt := 22) hx hb dX4_isFree_15 (by decide) (fun c_4 => ?_) (fun c_4 => ?_)
    · have hF := ob_neg c_4 hF
      exact hJ_22 h_3 hF H _ ls hP hD hS (lv_sub hl [] rfl)
    · have hF := ob_pos c_4 hF
      refine lv_iconst (v := 1) hx hb dX4_isFree_18 (by decide) ?_
      refine lv_goto (tgt := 23) hx hb dX4_isFree_19 (by decide) ?_
      exact hJ_23 h_3 1 hF H _ ls hP hD hS (lv_sub hl [] rfl)
def f_X4_settle (h : HS) (p1 : Int32) (p2 : Int32) : Option HS := (ob1 (f_X4_setGoose h p1 4 p2) (fun h_1 => (ob1 (f_X4_setGoose h_1 p1 7 (eI h_1 1 7)) (fun h_2 => (some h_2)))))
set_option maxHeartbeats 4000000 in
set_option maxRecDepth 100000 in
theorem c_X4_settle (l : Launch) (G : va_G) (cI cJ cZ cB cT : ClassId) (q : Nat → Nat) (h : HS) (p1 : Int32) (p2 : Int32) (hh : HS) (hF : f_X4_settle h p1 p2 = some hh) : gMv l yX4_settle (gws yX4_settle cX4_settle 3 none) 3 G (gT cI cJ cZ cB cT) [.ref (q 1), .int p1, .int p2] (wC q cI cJ cZ cB cT h) (fun (_ : Unit) => True) (fun (_ : Unit) => (wC q cI cJ cZ cB cT hh)) := by
  intro sz
  refine gM_start (y := yX4_settle) (av := [.ref (q 1), .int p1, .int p2]) (ws := (wC q cI cJ cZ cB cT h)) (Qf := fun A => va_Qv (fun (_ : Unit) => True) (gB G (fun (_ : Unit) => (wC q cI cJ cZ cB cT hh)) A) A) (cc := cX4_settle) (maxL := 3) (ret := none) (by decide) (Nat.le_of_ble_eq_true rfl) ?_
  intro p e s m args below meth c A ls H hx hb hr hts hown hin hlocks hml hP hK hD hA hS hl hE
  have hl : lv_has ls 3 [(0, .ref (q 1)), (1, .int p1), (2, .int p2)] := hl
  unfold f_X4_settle at hF
  refine lv_aload_n hx hb dX4_settle_0 rfl (lv_at hl 0 rfl) ?_
  refine lv_iload_n hx hb dX4_settle_1 rfl (lv_at hl 1 rfl) ?_
  refine lv_iconst (v := 4) hx hb dX4_settle_2 (by decide) ?_
  refine lv_iload_n hx hb dX4_settle_3 rfl (lv_at hl 2 rfl) ?_
  obtain ⟨h_1, e_1, hF⟩ := ob1_some hF
  refine gx_callv (gx_runV (As := [.int p1, .int 4, .int p2]) (rest := []) ⟨hx, hb, hml, hown, hts⟩ (c_X4_setGoose l G cI cJ cZ cB cT q h p1 4 p2 h_1 e_1 H.size) (gG_V m_10 m_11 m_12 m_7 m_9) rfl e_X4_setGoose ⟨Nat.le_of_ble_eq_true rfl, Nat.le_of_ble_eq_true rfl⟩ hK hP hD hE hS hA 1 wC_at1 rfl rfl hl.1 rfl (Nat.le_of_ble_eq_true rfl) dX4_settle_4 ⟨Nat.le_refl _, Nat.le_refl _⟩) hP hD hS hA (fun u_1 H locs hw_1 hP hD hS => ?_)
  refine lv_aload_n hx hb dX4_settle_7 rfl (lv_at hl 0 rfl) ?_
  refine lv_iload_n hx hb dX4_settle_8 rfl (lv_at hl 1 rfl) ?_
  refine lv_bipush (v := 7) hx hb dX4_settle_9 (by decide) ?_
  refine lv_aload_n hx hb dX4_settle_11 rfl (lv_at hl 0 rfl) ?_
  refine va_get (D := G) (ci := 4) (v := .int (eI h_1 1 7)) (C := RX4) (T := TX4) (N := 13) hx hb hts iX4 hown hK hP 1 wC_at1 rfl 7 (by decide) (hts _ m_21) (fun _ h9 => h9) rfl dX4_settle_12 ?_
  obtain ⟨h_2, e_2, hF⟩ := ob1_some hF
  refine gx_callv (gx_runV (As := [.int p1, .int 7, .int (eI h_1 1 7)]) (rest := []) ⟨hx, hb, hml, hown, hts⟩ (c_X4_setGoose l G cI cJ cZ cB cT q h_1 p1 7 (eI h_1 1 7) h_2 e_2 H.size) (gG_V m_10 m_11 m_12 m_7 m_9) rfl e_X4_setGoose ⟨Nat.le_of_ble_eq_true rfl, Nat.le_of_ble_eq_true rfl⟩ hK hP hD hE hS hA 1 wC_at1 rfl rfl hl.1 rfl (Nat.le_of_ble_eq_true rfl) dX4_settle_15 ⟨Nat.le_refl _, Nat.le_refl _⟩) hP hD hS hA (fun u_2 H locs hw_2 hP hD hS => ?_)
  obtain rfl := ob_one hF
  exact gw_vret () hx hb hr hlocks hP hD hS trivial dX4_settle_18
def f_X4_countFate_25 (k4 : HS → Int32 → Int32 → Int32 → Option (Int32 × HS)) (h : HS) (x1 : Int32) (x2 : Int32) (x3 : Int32) : Option (Int32 × HS) := (k4 h x1 x2 (x3 + 1))
def f_X4_countFate_4 : Nat → HS → Int32 → Int32 → Int32 → Option (Int32 × HS)
  | 0, _, _, _, _ => none
  | n + 1, h, x1, x2, x3 => (if (eI h 1 3) ≤ x3 then (some (x2, h)) else (ob2 (f_X4_ofGoose h x3 4) (fun r_2 h_2 => (if r_2 = x1 then (f_X4_countFate_25 (f_X4_countFate_4 n) h_2 x1 (x2 + 1) x3) else (f_X4_countFate_25 (f_X4_countFate_4 n) h_2 x1 x2 x3)))))
theorem f_X4_countFate_4_s (n : Nat) (h : HS) (x1 : Int32) (x2 : Int32) (x3 : Int32) : f_X4_countFate_4 (n + 1) h x1 x2 x3 = (if (eI h 1 3) ≤ x3 then (some (x2, h)) else (ob2 (f_X4_ofGoose h x3 4) (fun r_2 h_2 => (if r_2 = x1 then (f_X4_countFate_25 (f_X4_countFate_4 n) h_2 x1 (x2 + 1) x3) else (f_X4_countFate_25 (f_X4_countFate_4 n) h_2 x1 x2 x3))))) := rfl
def f_X4_countFate (h : HS) (p1 : Int32) : Option (Int32 × HS) := (f_X4_countFate_4 8589934592 h p1 0 0)
set_option maxHeartbeats 4000000 in
set_option maxRecDepth 100000 in
theorem c_X4_countFate (l : Launch) (G : va_G) (cI cJ cZ cB cT : ClassId) (q : Nat → Nat) (h : HS) (p1 : Int32) (rr : Int32) (hh : HS) (hF : f_X4_countFate h p1 = some (rr, hh)) : gMi l yX4_countFate (gws yX4_countFate cX4_countFate 4 (some .int)) 2 G (gT cI cJ cZ cB cT) [.ref (q 1), .int p1] (wC q cI cJ cZ cB cT h) (fun x (_ : Unit) => x = rr) (fun (_ : Unit) => (wC q cI cJ cZ cB cT hh)) := by
  intro sz
  refine gM_start (y := yX4_countFate) (av := [.ref (q 1), .int p1]) (ws := (wC q cI cJ cZ cB cT h)) (Qf := fun A => va_Qi (fun x (_ : Unit) => x = rr) (gB G (fun (_ : Unit) => (wC q cI cJ cZ cB cT hh)) A) A) (cc := cX4_countFate) (maxL := 4) (ret := (some .int)) (by decide) (Nat.le_of_ble_eq_true rfl) ?_
  intro p e s m args below meth c A ls H hx hb hr hts hown hin hlocks hml hP hK hD hA hS hl hE
  have hl : lv_has ls 4 [(0, .ref (q 1)), (1, .int p1)] := hl
  have hJ_4 : ∀ (n_4 : Nat) (h : HS) (x1 : Int32) (x2 : Int32) (x3 : Int32), f_X4_countFate_4 n_4 h x1 x2 x3 = some (rr, hh) → ∀ (H : Heap) (locs : List Loc) (ls : Array Slot), va_P G vwCl (wC q cI cJ cZ cB cT h) H → va_D A (wC q cI cJ cZ cB cT h) → va_S A s.heap H locs → lv_has ls 4 [(0, .ref (q 1)), (1, .int x1), (2, .int x2), (3, .int x3)] → W p l e (gRm 2) s m args below meth c H locs 0 0 (MQ below (va_Qi (fun x (_ : Unit) => x = rr) (gB G (fun (_ : Unit) => (wC q cI cJ cZ cB cT hh)) A) A) args s 0 0 A) (F0 m 4 ls []) := by
    intro n_4
    induction n_4 with
    | zero =>
      intro h x1 x2 x3 hF
      exact absurd hF (by simp [f_X4_countFate_4])
    | succ n_4 ih_4 =>
      have hJ_25 : ∀ (h : HS) (x1 : Int32) (x2 : Int32) (x3 : Int32), f_X4_countFate_25 (f_X4_countFate_4 n_4) h x1 x2 x3 = some (rr, hh) → ∀ (H : Heap) (locs : List Loc) (ls : Array Slot), va_P G vwCl (wC q cI cJ cZ cB cT h) H → va_D A (wC q cI cJ cZ cB cT h) → va_S A s.heap H locs → lv_has ls 4 [(0, .ref (q 1)), (1, .int x1), (2, .int x2), (3, .int x3)] → W p l e (gRm 2) s m args below meth c H locs 0 0 (MQ below (va_Qi (fun x (_ : Unit) => x = rr) (gB G (fun (_ : Unit) => (wC q cI cJ cZ cB cT hh)) A) A) args s 0 0 A) (F0 m 25 ls []) := by
        intro h x1 x2 x3 hF H locs ls hP hD hS hl
        unfold f_X4_countFate_25 at hF
        refine lv_iinc (v := (x3 + 1)) (lv' := [(3, .int (x3 + 1)), (0, .ref (q 1)), (1, .int x1), (2, .int x2)]) hx hb dX4_countFate_25 hl (k := 3) rfl rfl (by decide) rfl (fun ls hl => ?_)
        refine lv_goto (tgt := 4) hx hb dX4_countFate_28 (by decide) ?_
        exact ih_4 h x1 x2 (x3 + 1) hF H _ ls hP hD hS (lv_sub hl [1, 2, 3, 0] rfl)
      intro h x1 x2 x3 hF H locs ls hP hD hS hl
      rw [f_X4_countFate_4_s] at hF
      refine lv_iload_n hx hb dX4_countFate_4 rfl (lv_at hl 3 rfl) ?_
      refine lv_aload_n hx hb dX4_countFate_5 rfl (lv_at hl 0 rfl) ?_
      refine va_get (D := G) (ci := 4) (v := .int (eI h 1 3)) (C := RX4) (T := TX4) (N := 13) hx hb hts iX4 hown hK hP 1 wC_at1 rfl 3 (by decide) (hts _ m_0) (fun _ h9 => h9) rfl dX4_countFate_6 ?_
      refine lv_icmp_ge (tgt := 31) hx hb dX4_countFate_9 (by decide) (fun c_1 => ?_) (fun c_1 => ?_)
      · have hF := ob_pos c_1 hF
        refine lv_iload_n hx hb dX4_countFate_31 rfl (lv_at hl 2 rfl) ?_
        obtain ⟨rfl, rfl⟩ := ob_pair hF
        exact gw_iret () hx hb hr hlocks hP hD hS rfl dX4_countFate_32
      · have hF := ob_neg c_1 hF
        refine lv_aload_n hx hb dX4_countFate_12 rfl (lv_at hl 0 rfl) ?_
        refine lv_iload_n hx hb dX4_countFate_13 rfl (lv_at hl 3 rfl) ?_
        refine lv_iconst (v := 4) hx hb dX4_countFate_14 (by decide) ?_
        obtain ⟨r_2, h_2, e_2, hF⟩ := ob2_some hF
        refine gx_calli (gx_runV (As := [.int x3, .int 4]) (rest := []) ⟨hx, hb, hml, hown, hts⟩ (c_X4_ofGoose l G cI cJ cZ cB cT q h x3 4 r_2 h_2 e_2 H.size) (gG_V m_14 m_15 m_16 m_7 m_13) rfl e_X4_ofGoose ⟨Nat.le_of_ble_eq_true rfl, Nat.le_of_ble_eq_true rfl⟩ hK hP hD hE hS hA 1 wC_at1 rfl rfl hl.1 rfl (Nat.le_of_ble_eq_true rfl) dX4_countFate_15 ⟨Nat.le_refl _, Nat.le_refl _⟩) hP hD hS hA (fun x_2 u_2 H locs hw_2 hP hD hS => ?_)
        subst x_2
        refine lv_iload_n hx hb dX4_countFate_18 rfl (lv_at hl 1 rfl) ?_
        refine lv_icmp_ne (tgt := 25) hx hb dX4_countFate_19 (by decide) (fun c_3 => ?_) (fun c_3 => ?_)
        · have hF := ob_neg c_3 hF
          exact hJ_25 h_2 x1 x2 x3 hF H _ ls hP hD hS (lv_sub hl [0, 1, 2, 3] rfl)
        · have hF := ob_pos c_3 hF
          refine lv_iinc (v := (x2 + 1)) (lv' := [(2, .int (x2 + 1)), (0, .ref (q 1)), (1, .int x1), (3, .int x3)]) hx hb dX4_countFate_22 hl (k := 2) rfl rfl (by decide) rfl (fun ls hl => ?_)
          exact hJ_25 h_2 x1 (x2 + 1) x3 hF H _ ls hP hD hS (lv_sub hl [1, 2, 0, 3] rfl)
  unfold f_X4_countFate at hF
  refine lv_iconst (v := 0) hx hb dX4_countFate_0 (by decide) ?_
  refine lv_istore_n (lv' := [(2, .int 0), (0, .ref (q 1)), (1, .int p1)]) hx hb dX4_countFate_1 rfl hl (by decide) rfl (fun ls hl => ?_)
  refine lv_iconst (v := 0) hx hb dX4_countFate_2 (by decide) ?_
  refine lv_istore_n (lv' := [(3, .int 0), (2, .int 0), (0, .ref (q 1)), (1, .int p1)]) hx hb dX4_countFate_3 rfl hl (by decide) rfl (fun ls hl => ?_)
  exact hJ_4 8589934592 h p1 0 0 hF H _ ls hP hD hS (lv_sub hl [2, 3, 1, 0] rfl)
def f_X4_dailyNeed (h : HS) : Option (Int32 × HS) := (ob2 (f_X4_countFate h 0) (fun r_1 h_1 => (some (((eI h 1 6) + r_1), h_1))))
theorem e_X4_countFate : yX4_countFate.cls = RX4 ∧ yX4_countFate.cls ≠ "java/lang/invoke/MethodHandle" ∧ yX4_countFate.cls ≠ "java/lang/invoke/VarHandle" ∧ (parseMethodDescriptor yX4_countFate.desc).map (fun d => d.parameters.length) = some 1 := by decide +kernel
set_option maxHeartbeats 4000000 in
set_option maxRecDepth 100000 in
theorem c_X4_dailyNeed (l : Launch) (G : va_G) (cI cJ cZ cB cT : ClassId) (q : Nat → Nat) (h : HS)  (rr : Int32) (hh : HS) (hF : f_X4_dailyNeed h = some (rr, hh)) : gMi l yX4_dailyNeed (gws yX4_dailyNeed cX4_dailyNeed 1 (some .int)) 3 G (gT cI cJ cZ cB cT) [.ref (q 1)] (wC q cI cJ cZ cB cT h) (fun x (_ : Unit) => x = rr) (fun (_ : Unit) => (wC q cI cJ cZ cB cT hh)) := by
  intro sz
  refine gM_start (y := yX4_dailyNeed) (av := [.ref (q 1)]) (ws := (wC q cI cJ cZ cB cT h)) (Qf := fun A => va_Qi (fun x (_ : Unit) => x = rr) (gB G (fun (_ : Unit) => (wC q cI cJ cZ cB cT hh)) A) A) (cc := cX4_dailyNeed) (maxL := 1) (ret := (some .int)) (by decide) (Nat.le_of_ble_eq_true rfl) ?_
  intro p e s m args below meth c A ls H hx hb hr hts hown hin hlocks hml hP hK hD hA hS hl hE
  have hl : lv_has ls 1 [(0, .ref (q 1))] := hl
  unfold f_X4_dailyNeed at hF
  refine lv_aload_n hx hb dX4_dailyNeed_0 rfl (lv_at hl 0 rfl) ?_
  refine va_get (D := G) (ci := 4) (v := .int (eI h 1 6)) (C := RX4) (T := TX4) (N := 13) hx hb hts iX4 hown hK hP 1 wC_at1 rfl 6 (by decide) (hts _ m_22) (fun _ h9 => h9) rfl dX4_dailyNeed_1 ?_
  refine lv_aload_n hx hb dX4_dailyNeed_4 rfl (lv_at hl 0 rfl) ?_
  refine lv_iconst (v := 0) hx hb dX4_dailyNeed_5 (by decide) ?_
  obtain ⟨r_1, h_1, e_1, hF⟩ := ob2_some hF
  refine gx_calli (gx_runV (As := [.int 0]) (rest := [.int (eI h 1 6)]) ⟨hx, hb, hml, hown, hts⟩ (c_X4_countFate l G cI cJ cZ cB cT q h 0 r_1 h_1 e_1 H.size) (gG_V m_24 m_25 m_26 m_7 m_23) rfl e_X4_countFate ⟨Nat.le_of_ble_eq_true rfl, Nat.le_of_ble_eq_true rfl⟩ hK hP hD hE hS hA 1 wC_at1 rfl rfl hl.1 rfl (Nat.le_of_ble_eq_true rfl) dX4_dailyNeed_6 ⟨Nat.le_refl _, Nat.le_refl _⟩) hP hD hS hA (fun x_1 u_1 H locs hw_1 hP hD hS => ?_)
  subst x_1
  refine lv_iadd hx hb dX4_dailyNeed_9 ?_
  obtain ⟨rfl, rfl⟩ := ob_pair hF
  exact gw_iret () hx hb hr hlocks hP hD hS rfl dX4_dailyNeed_10
def f_X4_eatDaily_31 : Nat → HS → Int32 → Option HS
  | 0, _, _ => none
  | n + 1, h, x2 => (if (eI h 1 3) ≤ x2 then (some h) else (ob2 (f_X4_isFree h x2) (fun r_4 h_4 => (if r_4 = 0 then ((f_X4_eatDaily_31 n) h_4 (x2 + 1)) else (ob1 (f_X4_settle h_4 x2 5) (fun h_6 => (ob2 (f_X4_ofGoose h_6 x2 0) (fun r_7 h_7 => (some (sI h_7 1 5 r_7))))))))))
theorem f_X4_eatDaily_31_s (n : Nat) (h : HS) (x2 : Int32) : f_X4_eatDaily_31 (n + 1) h x2 = (if (eI h 1 3) ≤ x2 then (some h) else (ob2 (f_X4_isFree h x2) (fun r_4 h_4 => (if r_4 = 0 then ((f_X4_eatDaily_31 n) h_4 (x2 + 1)) else (ob1 (f_X4_settle h_4 x2 5) (fun h_6 => (ob2 (f_X4_ofGoose h_6 x2 0) (fun r_7 h_7 => (some (sI h_7 1 5 r_7)))))))))) := rfl
def f_X4_eatDaily (h : HS) : Option HS := (ob2 (f_X4_dailyNeed h) (fun r_1 h_1 => (if (eI h_1 1 5) < r_1 then (f_X4_eatDaily_31 8589934592 (sI h_1 1 5 0) 0) else (some (sI h_1 1 5 ((eI h_1 1 5) - r_1))))))
theorem e_X4_dailyNeed : yX4_dailyNeed.cls = RX4 ∧ yX4_dailyNeed.cls ≠ "java/lang/invoke/MethodHandle" ∧ yX4_dailyNeed.cls ≠ "java/lang/invoke/VarHandle" ∧ (parseMethodDescriptor yX4_dailyNeed.desc).map (fun d => d.parameters.length) = some 0 := by decide +kernel
theorem e_X4_isFree : yX4_isFree.cls = RX4 ∧ yX4_isFree.cls ≠ "java/lang/invoke/MethodHandle" ∧ yX4_isFree.cls ≠ "java/lang/invoke/VarHandle" ∧ (parseMethodDescriptor yX4_isFree.desc).map (fun d => d.parameters.length) = some 1 := by decide +kernel
theorem e_X4_settle : yX4_settle.cls = RX4 ∧ yX4_settle.cls ≠ "java/lang/invoke/MethodHandle" ∧ yX4_settle.cls ≠ "java/lang/invoke/VarHandle" ∧ (parseMethodDescriptor yX4_settle.desc).map (fun d => d.parameters.length) = some 2 := by decide +kernel
set_option maxHeartbeats 4000000 in
set_option maxRecDepth 100000 in
theorem c_X4_eatDaily (l : Launch) (G : va_G) (cI cJ cZ cB cT : ClassId) (q : Nat → Nat) (h : HS)  (hh : HS) (hF : f_X4_eatDaily h = some hh) : gMv l yX4_eatDaily (gws yX4_eatDaily cX4_eatDaily 3 none) 4 G (gT cI cJ cZ cB cT) [.ref (q 1)] (wC q cI cJ cZ cB cT h) (fun (_ : Unit) => True) (fun (_ : Unit) => (wC q cI cJ cZ cB cT hh)) := by
  intro sz
  refine gM_start (y := yX4_eatDaily) (av := [.ref (q 1)]) (ws := (wC q cI cJ cZ cB cT h)) (Qf := fun A => va_Qv (fun (_ : Unit) => True) (gB G (fun (_ : Unit) => (wC q cI cJ cZ cB cT hh)) A) A) (cc := cX4_eatDaily) (maxL := 3) (ret := none) (by decide) (Nat.le_of_ble_eq_true rfl) ?_
  intro p e s m args below meth c A ls H hx hb hr hts hown hin hlocks hml hP hK hD hA hS hl hE
  have hl : lv_has ls 3 [(0, .ref (q 1))] := hl
  have hJ_31 : ∀ (n_31 : Nat) (h : HS) (x2 : Int32), f_X4_eatDaily_31 n_31 h x2 = some hh → ∀ (H : Heap) (locs : List Loc) (ls : Array Slot), va_P G vwCl (wC q cI cJ cZ cB cT h) H → va_D A (wC q cI cJ cZ cB cT h) → va_S A s.heap H locs → lv_has ls 3 [(0, .ref (q 1)), (2, .int x2)] → W p l e (gRm 4) s m args below meth c H locs 0 0 (MQ below (va_Qv (fun (_ : Unit) => True) (gB G (fun (_ : Unit) => (wC q cI cJ cZ cB cT hh)) A) A) args s 0 0 A) (F0 m 31 ls []) := by
    intro n_31
    induction n_31 with
    | zero =>
      intro h x2 hF
      exact absurd hF (by simp [f_X4_eatDaily_31])
    | succ n_31 ih_31 =>
      intro h x2 hF H locs ls hP hD hS hl
      rw [f_X4_eatDaily_31_s] at hF
      refine lv_iload_n hx hb dX4_eatDaily_31 rfl (lv_at hl 1 rfl) ?_
      refine lv_aload_n hx hb dX4_eatDaily_32 rfl (lv_at hl 0 rfl) ?_
      refine va_get (D := G) (ci := 4) (v := .int (eI h 1 3)) (C := RX4) (T := TX4) (N := 13) hx hb hts iX4 hown hK hP 1 wC_at1 rfl 3 (by decide) (hts _ m_0) (fun _ h9 => h9) rfl dX4_eatDaily_33 ?_
      refine lv_icmp_ge (tgt := 70) hx hb dX4_eatDaily_36 (by decide) (fun c_3 => ?_) (fun c_3 => ?_)
      · have hF := ob_pos c_3 hF
        obtain rfl := ob_one hF
        exact gw_vret () hx hb hr hlocks hP hD hS trivial dX4_eatDaily_70
      · have hF := ob_neg c_3 hF
        refine lv_aload_n hx hb dX4_eatDaily_39 rfl (lv_at hl 0 rfl) ?_
        refine lv_iload_n hx hb dX4_eatDaily_40 rfl (lv_at hl 1 rfl) ?_
        obtain ⟨r_4, h_4, e_4, hF⟩ := ob2_some hF
        refine gx_calli (gx_runV (As := [.int x2]) (rest := []) ⟨hx, hb, hml, hown, hts⟩ (c_X4_isFree l G cI cJ cZ cB cT q h x2 r_4 h_4 e_4 H.size) (gG_V m_33 m_34 m_35 m_7 m_32) rfl e_X4_isFree ⟨Nat.le_of_ble_eq_true rfl, Nat.le_of_ble_eq_true rfl⟩ hK hP hD hE hS hA 1 wC_at1 rfl rfl hl.1 rfl (Nat.le_of_ble_eq_true rfl) dX4_eatDaily_41 ⟨Nat.le_refl _, Nat.le_refl _⟩) hP hD hS hA (fun x_4 u_4 H locs hw_4 hP hD hS => ?_)
        subst x_4
        refine lv_if_eq (tgt := 64) hx hb dX4_eatDaily_44 (by decide) (fun c_5 => ?_) (fun c_5 => ?_)
        · have hF := ob_pos c_5 hF
          refine lv_iinc (v := (x2 + 1)) (lv' := [(2, .int (x2 + 1)), (0, .ref (q 1))]) hx hb dX4_eatDaily_64 hl (k := 1) rfl rfl (by decide) rfl (fun ls hl => ?_)
          refine lv_goto (tgt := 31) hx hb dX4_eatDaily_67 (by decide) ?_
          exact ih_31 h_4 (x2 + 1) hF H _ ls hP hD hS (lv_sub hl [1, 0] rfl)
        · have hF := ob_neg c_5 hF
          refine lv_aload_n hx hb dX4_eatDaily_47 rfl (lv_at hl 0 rfl) ?_
          refine lv_iload_n hx hb dX4_eatDaily_48 rfl (lv_at hl 1 rfl) ?_
          refine lv_iconst (v := 5) hx hb dX4_eatDaily_49 (by decide) ?_
          obtain ⟨h_6, e_6, hF⟩ := ob1_some hF
          refine gx_callv (gx_runV (As := [.int x2, .int 5]) (rest := []) ⟨hx, hb, hml, hown, hts⟩ (c_X4_settle l G cI cJ cZ cB cT q h_4 x2 5 h_6 e_6 H.size) (gG_V m_37 m_38 m_39 m_7 m_36) rfl e_X4_settle ⟨Nat.le_of_ble_eq_true rfl, Nat.le_of_ble_eq_true rfl⟩ hK hP hD hE hS hA 1 wC_at1 rfl rfl hl.1 rfl (Nat.le_of_ble_eq_true rfl) dX4_eatDaily_50 ⟨Nat.le_refl _, Nat.le_refl _⟩) hP hD hS hA (fun u_6 H locs hw_6 hP hD hS => ?_)
          refine lv_aload_n hx hb dX4_eatDaily_53 rfl (lv_at hl 0 rfl) ?_
          refine lv_aload_n hx hb dX4_eatDaily_54 rfl (lv_at hl 0 rfl) ?_
          refine lv_iload_n hx hb dX4_eatDaily_55 rfl (lv_at hl 1 rfl) ?_
          refine lv_iconst (v := 0) hx hb dX4_eatDaily_56 (by decide) ?_
          obtain ⟨r_7, h_7, e_7, hF⟩ := ob2_some hF
          refine gx_calli (gx_runV (As := [.int x2, .int 0]) (rest := [.ref (q 1)]) ⟨hx, hb, hml, hown, hts⟩ (c_X4_ofGoose l G cI cJ cZ cB cT q h_6 x2 0 r_7 h_7 e_7 H.size) (gG_V m_14 m_15 m_16 m_7 m_13) rfl e_X4_ofGoose ⟨Nat.le_of_ble_eq_true rfl, Nat.le_of_ble_eq_true rfl⟩ hK hP hD hE hS hA 1 wC_at1 rfl rfl hl.1 rfl (Nat.le_of_ble_eq_true rfl) dX4_eatDaily_57 ⟨Nat.le_refl _, Nat.le_refl _⟩) hP hD hS hA (fun x_7 u_7 H locs hw_7 hP hD hS => ?_)
          subst x_7
          refine va_put (D := G) (ci := 4) (v := .int r_7) (ty := .int) (C := RX4) (T := TX4) (N := 13) hx hb hts iX4 tyX4 tyX4_ok nmX4 hown hK hP hD hS 1 wC_at1 rfl 5 (by decide) (hts _ m_31) (fun _ h9 => h9) rfl (tyX4_ok 5 (by decide)) rfl rfl (Nat.le_of_ble_eq_true rfl) dX4_eatDaily_60 (fun H locs hP hD hS => ?_)
          rw [wC_sI1_5] at hP hD
          obtain rfl := ob_one hF
          exact gw_vret () hx hb hr hlocks hP hD hS trivial dX4_eatDaily_63
  unfold f_X4_eatDaily at hF
  refine lv_aload_n hx hb dX4_eatDaily_0 rfl (lv_at hl 0 rfl) ?_
  obtain ⟨r_1, h_1, e_1, hF⟩ := ob2_some hF
  refine gx_calli (gx_runV (As := []) (rest := []) ⟨hx, hb, hml, hown, hts⟩ (c_X4_dailyNeed l G cI cJ cZ cB cT q h  r_1 h_1 e_1 H.size) (gG_V m_28 m_29 m_30 m_7 m_27) rfl e_X4_dailyNeed ⟨Nat.le_of_ble_eq_true rfl, Nat.le_of_ble_eq_true rfl⟩ hK hP hD hE hS hA 1 wC_at1 rfl rfl hl.1 rfl (Nat.le_of_ble_eq_true rfl) dX4_eatDaily_1 ⟨Nat.le_refl _, Nat.le_refl _⟩) hP hD hS hA (fun x_1 u_1 H locs hw_1 hP hD hS => ?_)
  subst x_1
  refine lv_istore_n (lv' := [(1, .int r_1), (0, .ref (q 1))]) hx hb dX4_eatDaily_4 rfl hl (by decide) rfl (fun ls hl => ?_)
  refine lv_iload_n hx hb dX4_eatDaily_5 rfl (lv_at hl 0 rfl) ?_
  refine lv_aload_n hx hb dX4_eatDaily_6 rfl (lv_at hl 1 rfl) ?_
  refine va_get (D := G) (ci := 4) (v := .int (eI h_1 1 5)) (C := RX4) (T := TX4) (N := 13) hx hb hts iX4 hown hK hP 1 wC_at1 rfl 5 (by decide) (hts _ m_31) (fun _ h9 => h9) rfl dX4_eatDaily_7 ?_
  refine lv_icmp_gt (tgt := 24) hx hb dX4_eatDaily_10 (by decide) (fun c_2 => ?_) (fun c_2 => ?_)
  · have hF := ob_pos c_2 hF
    refine lv_aload_n hx hb dX4_eatDaily_24 rfl (lv_at hl 1 rfl) ?_
    refine lv_iconst (v := 0) hx hb dX4_eatDaily_25 (by decide) ?_
    refine va_put (D := G) (ci := 4) (v := .int 0) (ty := .int) (C := RX4) (T := TX4) (N := 13) hx hb hts iX4 tyX4 tyX4_ok nmX4 hown hK hP hD hS 1 wC_at1 rfl 5 (by decide) (hts _ m_31) (fun _ h9 => h9) rfl (tyX4_ok 5 (by decide)) rfl rfl (Nat.le_of_ble_eq_true rfl) dX4_eatDaily_26 (fun H locs hP hD hS => ?_)
    rw [wC_sI1_5] at hP hD
    refine lv_iconst (v := 0) hx hb dX4_eatDaily_29 (by decide) ?_
    refine lv_istore_n (lv' := [(2, .int 0), (1, .int r_1), (0, .ref (q 1))]) hx hb dX4_eatDaily_30 rfl hl (by decide) rfl (fun ls hl => ?_)
    exact hJ_31 8589934592 (sI h_1 1 5 0) 0 hF H _ ls hP hD hS (lv_sub hl [2, 0] rfl)
  · have hF := ob_neg c_2 hF
    refine lv_aload_n hx hb dX4_eatDaily_13 rfl (lv_at hl 1 rfl) ?_
    refine lv_dup hx hb dX4_eatDaily_14 rfl ?_
    refine va_get (D := G) (ci := 4) (v := .int (eI h_1 1 5)) (C := RX4) (T := TX4) (N := 13) hx hb hts iX4 hown hK hP 1 wC_at1 rfl 5 (by decide) (hts _ m_31) (fun _ h9 => h9) rfl dX4_eatDaily_15 ?_
    refine lv_iload_n hx hb dX4_eatDaily_18 rfl (lv_at hl 0 rfl) ?_
    refine lv_isub hx hb dX4_eatDaily_19 ?_
    refine va_put (D := G) (ci := 4) (v := .int ((eI h_1 1 5) - r_1)) (ty := .int) (C := RX4) (T := TX4) (N := 13) hx hb hts iX4 tyX4 tyX4_ok nmX4 hown hK hP hD hS 1 wC_at1 rfl 5 (by decide) (hts _ m_31) (fun _ h9 => h9) rfl (tyX4_ok 5 (by decide)) rfl rfl (Nat.le_of_ble_eq_true rfl) dX4_eatDaily_20 (fun H locs hP hD hS => ?_)
    rw [wC_sI1_5] at hP hD
    obtain rfl := ob_one hF
    exact gw_vret () hx hb hr hlocks hP hD hS trivial dX4_eatDaily_23
def f_X4_draw (h : HS) : Option (Int32 × HS) := (some (((eI h 1 8) - (eI h 1 8) / 10 * 10), (sI h 1 8 ((((eI h 1 8) * 157) + 61) - (((eI h 1 8) * 157) + 61) / 30071 * 30071))))
set_option maxHeartbeats 4000000 in
set_option maxRecDepth 100000 in
theorem c_X4_draw (l : Launch) (G : va_G) (cI cJ cZ cB cT : ClassId) (q : Nat → Nat) (h : HS)  (rr : Int32) (hh : HS) (hF : f_X4_draw h = some (rr, hh)) : gMi l yX4_draw (gws yX4_draw cX4_draw 2 (some .int)) 1 G (gT cI cJ cZ cB cT) [.ref (q 1)] (wC q cI cJ cZ cB cT h) (fun x (_ : Unit) => x = rr) (fun (_ : Unit) => (wC q cI cJ cZ cB cT hh)) := by
  intro sz
  refine gM_start (y := yX4_draw) (av := [.ref (q 1)]) (ws := (wC q cI cJ cZ cB cT h)) (Qf := fun A => va_Qi (fun x (_ : Unit) => x = rr) (gB G (fun (_ : Unit) => (wC q cI cJ cZ cB cT hh)) A) A) (cc := cX4_draw) (maxL := 2) (ret := (some .int)) (by decide) (Nat.le_of_ble_eq_true rfl) ?_
  intro p e s m args below meth c A ls H hx hb hr hts hown hin hlocks hml hP hK hD hA hS hl hE
  have hl : lv_has ls 2 [(0, .ref (q 1))] := hl
  unfold f_X4_draw at hF
  refine lv_aload_n hx hb dX4_draw_0 rfl (lv_at hl 0 rfl) ?_
  refine va_get (D := G) (ci := 4) (v := .int (eI h 1 8)) (C := RX4) (T := TX4) (N := 13) hx hb hts iX4 hown hK hP 1 wC_at1 rfl 8 (by decide) (hts _ m_40) (fun _ h9 => h9) rfl dX4_draw_1 ?_
  refine lv_bipush (v := 10) hx hb dX4_draw_4 (by decide) ?_
  refine lv_irem hx hb dX4_draw_6 (by decide) ?_
  refine lv_istore_n (lv' := [(1, .int ((eI h 1 8) - (eI h 1 8) / 10 * 10)), (0, .ref (q 1))]) hx hb dX4_draw_7 rfl hl (by decide) rfl (fun ls hl => ?_)
  refine lv_aload_n hx hb dX4_draw_8 rfl (lv_at hl 1 rfl) ?_
  refine lv_aload_n hx hb dX4_draw_9 rfl (lv_at hl 1 rfl) ?_
  refine va_get (D := G) (ci := 4) (v := .int (eI h 1 8)) (C := RX4) (T := TX4) (N := 13) hx hb hts iX4 hown hK hP 1 wC_at1 rfl 8 (by decide) (hts _ m_40) (fun _ h9 => h9) rfl dX4_draw_10 ?_
  refine lv_sipush (v := 157) hx hb dX4_draw_13 (by decide) ?_
  refine lv_imul hx hb dX4_draw_16 ?_
  refine lv_bipush (v := 61) hx hb dX4_draw_17 (by decide) ?_
  refine lv_iadd hx hb dX4_draw_19 ?_
  refine lv_sipush (v := 30071) hx hb dX4_draw_20 (by decide) ?_
  refine lv_irem hx hb dX4_draw_23 (by decide) ?_
  refine va_put (D := G) (ci := 4) (v := .int ((((eI h 1 8) * 157) + 61) - (((eI h 1 8) * 157) + 61) / 30071 * 30071)) (ty := .int) (C := RX4) (T := TX4) (N := 13) hx hb hts iX4 tyX4 tyX4_ok nmX4 hown hK hP hD hS 1 wC_at1 rfl 8 (by decide) (hts _ m_40) (fun _ h9 => h9) rfl (tyX4_ok 8 (by decide)) rfl rfl (Nat.le_of_ble_eq_true rfl) dX4_draw_24 (fun H locs hP hD hS => ?_)
  rw [wC_sI1_8] at hP hD
  refine lv_iload_n hx hb dX4_draw_27 rfl (lv_at hl 0 rfl) ?_
  obtain ⟨rfl, rfl⟩ := ob_pair hF
  exact gw_iret () hx hb hr hlocks hP hD hS rfl dX4_draw_28
def f_X4_keepStep_69 (h : HS) : Option HS := (some h)
def f_X4_keepStep_35 (h : HS) : Option HS := (if (((((eI h 1 11) + (eI h 1 12)) - 1) - (((eI h 1 11) + (eI h 1 12)) - 1) / 20 * 20) * 94) < 0 then (f_X4_keepStep_69 h) else (if ((((((eI h 1 11) + (eI h 1 12)) - 1) - (((eI h 1 11) + (eI h 1 12)) - 1) / 20 * 20) * 94) + 94) ≤ 1880 then (if ¬ (((((eI h 1 11) + (eI h 1 12)) - 1) - (((eI h 1 11) + (eI h 1 12)) - 1) / 20 * 20) * 94) < 0 then (if ((((((eI h 1 11) + (eI h 1 12)) - 1) - (((eI h 1 11) + (eI h 1 12)) - 1) / 20 * 20) * 94)).toNatClampNeg + 90 ≤ 1880 then (if 0 ≤ (((((((eI h 1 11) + (eI h 1 12)) - 1) - (((eI h 1 11) + (eI h 1 12)) - 1) / 20 * 20) * 94) + 90)).toInt ∧ (((((((eI h 1 11) + (eI h 1 12)) - 1) - (((eI h 1 11) + (eI h 1 12)) - 1) / 20 * 20) * 94) + 90)).toInt < 1880 then (if 0 ≤ ((((((((eI h 1 11) + (eI h 1 12)) - 1) - (((eI h 1 11) + (eI h 1 12)) - 1) / 20 * 20) * 94) + 90) + 1)).toInt ∧ ((((((((eI h 1 11) + (eI h 1 12)) - 1) - (((eI h 1 11) + (eI h 1 12)) - 1) / 20 * 20) * 94) + 90) + 1)).toInt < 1880 then (if 0 ≤ ((((((((eI h 1 11) + (eI h 1 12)) - 1) - (((eI h 1 11) + (eI h 1 12)) - 1) / 20 * 20) * 94) + 90) + 2)).toInt ∧ ((((((((eI h 1 11) + (eI h 1 12)) - 1) - (((eI h 1 11) + (eI h 1 12)) - 1) / 20 * 20) * 94) + 90) + 2)).toInt < 1880 then (if 0 ≤ ((((((((eI h 1 11) + (eI h 1 12)) - 1) - (((eI h 1 11) + (eI h 1 12)) - 1) / 20 * 20) * 94) + 90) + 3)).toInt ∧ ((((((((eI h 1 11) + (eI h 1 12)) - 1) - (((eI h 1 11) + (eI h 1 12)) - 1) / 20 * 20) * 94) + 90) + 3)).toInt < 1880 then (some (sA (sA (sA (sA (sA h 1 2 (va_cpy (eA h 1 0) (eA h 1 2) 0 (((((((eI h 1 11) + (eI h 1 12)) - 1) - (((eI h 1 11) + (eI h 1 12)) - 1) / 20 * 20) * 94)).toNatClampNeg) 90)) 1 2 (upd (va_cpy (eA h 1 0) (eA h 1 2) 0 (((((((eI h 1 11) + (eI h 1 12)) - 1) - (((eI h 1 11) + (eI h 1 12)) - 1) / 20 * 20) * 94)).toNatClampNeg) 90) ((((((((eI h 1 11) + (eI h 1 12)) - 1) - (((eI h 1 11) + (eI h 1 12)) - 1) / 20 * 20) * 94) + 90)).toNatClampNeg) (eI h 1 3))) 1 2 (upd (upd (va_cpy (eA h 1 0) (eA h 1 2) 0 (((((((eI h 1 11) + (eI h 1 12)) - 1) - (((eI h 1 11) + (eI h 1 12)) - 1) / 20 * 20) * 94)).toNatClampNeg) 90) ((((((((eI h 1 11) + (eI h 1 12)) - 1) - (((eI h 1 11) + (eI h 1 12)) - 1) / 20 * 20) * 94) + 90)).toNatClampNeg) (eI h 1 3)) (((((((((eI h 1 11) + (eI h 1 12)) - 1) - (((eI h 1 11) + (eI h 1 12)) - 1) / 20 * 20) * 94) + 90) + 1)).toNatClampNeg) (eI h 1 5))) 1 2 (upd (upd (upd (va_cpy (eA h 1 0) (eA h 1 2) 0 (((((((eI h 1 11) + (eI h 1 12)) - 1) - (((eI h 1 11) + (eI h 1 12)) - 1) / 20 * 20) * 94)).toNatClampNeg) 90) ((((((((eI h 1 11) + (eI h 1 12)) - 1) - (((eI h 1 11) + (eI h 1 12)) - 1) / 20 * 20) * 94) + 90)).toNatClampNeg) (eI h 1 3)) (((((((((eI h 1 11) + (eI h 1 12)) - 1) - (((eI h 1 11) + (eI h 1 12)) - 1) / 20 * 20) * 94) + 90) + 1)).toNatClampNeg) (eI h 1 5)) (((((((((eI h 1 11) + (eI h 1 12)) - 1) - (((eI h 1 11) + (eI h 1 12)) - 1) / 20 * 20) * 94) + 90) + 2)).toNatClampNeg) (eI h 1 7))) 1 2 (upd (upd (upd (upd (va_cpy (eA h 1 0) (eA h 1 2) 0 (((((((eI h 1 11) + (eI h 1 12)) - 1) - (((eI h 1 11) + (eI h 1 12)) - 1) / 20 * 20) * 94)).toNatClampNeg) 90) ((((((((eI h 1 11) + (eI h 1 12)) - 1) - (((eI h 1 11) + (eI h 1 12)) - 1) / 20 * 20) * 94) + 90)).toNatClampNeg) (eI h 1 3)) (((((((((eI h 1 11) + (eI h 1 12)) - 1) - (((eI h 1 11) + (eI h 1 12)) - 1) / 20 * 20) * 94) + 90) + 1)).toNatClampNeg) (eI h 1 5)) (((((((((eI h 1 11) + (eI h 1 12)) - 1) - (((eI h 1 11) + (eI h 1 12)) - 1) / 20 * 20) * 94) + 90) + 2)).toNatClampNeg) (eI h 1 7)) (((((((((eI h 1 11) + (eI h 1 12)) - 1) - (((eI h 1 11) + (eI h 1 12)) - 1) / 20 * 20) * 94) + 90) + 3)).toNatClampNeg) (eI h 1 8)))) else none) else none) else none) else none) else none) else none) else (f_X4_keepStep_69 h)))
def f_X4_keepStep (h : HS) : Option HS := (if 20 ≤ (eI h 1 12) then (f_X4_keepStep_35 (sI h 1 11 (((eI h 1 11) + 1) - ((eI h 1 11) + 1) / 20 * 20))) else (f_X4_keepStep_35 (sI h 1 12 ((eI h 1 12) + 1))))
set_option maxHeartbeats 4000000 in
set_option maxRecDepth 100000 in
theorem c_X4_keepStep (l : Launch) (G : va_G) (cI cJ cZ cB cT : ClassId) (q : Nat → Nat) (h : HS)  (hh : HS) (hF : f_X4_keepStep h = some hh) : gMv l yX4_keepStep (gws yX4_keepStep cX4_keepStep 2 none) 1 G (gT cI cJ cZ cB cT) [.ref (q 1)] (wC q cI cJ cZ cB cT h) (fun (_ : Unit) => True) (fun (_ : Unit) => (wC q cI cJ cZ cB cT hh)) := by
  intro sz
  refine gM_start (y := yX4_keepStep) (av := [.ref (q 1)]) (ws := (wC q cI cJ cZ cB cT h)) (Qf := fun A => va_Qv (fun (_ : Unit) => True) (gB G (fun (_ : Unit) => (wC q cI cJ cZ cB cT hh)) A) A) (cc := cX4_keepStep) (maxL := 2) (ret := none) (by decide) (Nat.le_of_ble_eq_true rfl) ?_
  intro p e s m args below meth c A ls H hx hb hr hts hown hin hlocks hml hP hK hD hA hS hl hE
  have hl : lv_has ls 2 [(0, .ref (q 1))] := hl
  have hJ_69 : ∀ (h : HS), f_X4_keepStep_69 h = some hh → ∀ (H : Heap) (locs : List Loc) (ls : Array Slot), va_P G vwCl (wC q cI cJ cZ cB cT h) H → va_D A (wC q cI cJ cZ cB cT h) → va_S A s.heap H locs → lv_has ls 2 [] → W p l e (gRm 1) s m args below meth c H locs 0 0 (MQ below (va_Qv (fun (_ : Unit) => True) (gB G (fun (_ : Unit) => (wC q cI cJ cZ cB cT hh)) A) A) args s 0 0 A) (F0 m 69 ls []) := by
    intro h hF H locs ls hP hD hS hl
    unfold f_X4_keepStep_69 at hF
    obtain rfl := ob_one hF
    exact gw_vret () hx hb hr hlocks hP hD hS trivial dX4_keepStep_69
  have hJ_35 : ∀ (h : HS), f_X4_keepStep_35 h = some hh → ∀ (H : Heap) (locs : List Loc) (ls : Array Slot), va_P G vwCl (wC q cI cJ cZ cB cT h) H → va_D A (wC q cI cJ cZ cB cT h) → va_S A s.heap H locs → lv_has ls 2 [(0, .ref (q 1))] → W p l e (gRm 1) s m args below meth c H locs 0 0 (MQ below (va_Qv (fun (_ : Unit) => True) (gB G (fun (_ : Unit) => (wC q cI cJ cZ cB cT hh)) A) A) args s 0 0 A) (F0 m 35 ls []) := by
    intro h hF H locs ls hP hD hS hl
    unfold f_X4_keepStep_35 at hF
    refine lv_aload_n hx hb dX4_keepStep_35 rfl (lv_at hl 0 rfl) ?_
    refine va_get (D := G) (ci := 4) (v := .int (eI h 1 11)) (C := RX4) (T := TX4) (N := 13) hx hb hts iX4 hown hK hP 1 wC_at1 rfl 11 (by decide) (hts _ m_42) (fun _ h9 => h9) rfl dX4_keepStep_36 ?_
    refine lv_aload_n hx hb dX4_keepStep_39 rfl (lv_at hl 0 rfl) ?_
    refine va_get (D := G) (ci := 4) (v := .int (eI h 1 12)) (C := RX4) (T := TX4) (N := 13) hx hb hts iX4 hown hK hP 1 wC_at1 rfl 12 (by decide) (hts _ m_41) (fun _ h9 => h9) rfl dX4_keepStep_40 ?_
    refine lv_iadd hx hb dX4_keepStep_43 ?_
    refine lv_iconst (v := 1) hx hb dX4_keepStep_44 (by decide) ?_
    refine lv_isub hx hb dX4_keepStep_45 ?_
    refine lv_bipush (v := 20) hx hb dX4_keepStep_46 (by decide) ?_
    refine lv_irem hx hb dX4_keepStep_48 (by decide) ?_
    refine lv_bipush (v := 94) hx hb dX4_keepStep_49 (by decide) ?_
    refine lv_imul hx hb dX4_keepStep_51 ?_
    refine lv_istore_n (lv' := [(1, .int (((((eI h 1 11) + (eI h 1 12)) - 1) - (((eI h 1 11) + (eI h 1 12)) - 1) / 20 * 20) * 94)), (0, .ref (q 1))]) hx hb dX4_keepStep_52 rfl hl (by decide) rfl (fun ls hl => ?_)
    refine lv_iload_n hx hb dX4_keepStep_53 rfl (lv_at hl 0 rfl) ?_
    refine lv_if_lt (tgt := 69) hx hb dX4_keepStep_54 (by decide) (fun c_2 => ?_) (fun c_2 => ?_)
    · have hF := ob_pos c_2 hF
      exact hJ_69 h hF H _ ls hP hD hS (lv_sub hl [] rfl)
    · have hF := ob_neg c_2 hF
      refine lv_iload_n hx hb dX4_keepStep_57 rfl (lv_at hl 0 rfl) ?_
      refine lv_bipush (v := 94) hx hb dX4_keepStep_58 (by decide) ?_
      refine lv_iadd hx hb dX4_keepStep_60 ?_
      refine lv_aload_n hx hb dX4_keepStep_61 rfl (lv_at hl 1 rfl) ?_
      refine va_get (D := G) (ci := 4) (v := .ref (q 4)) (C := RX4) (T := TX4) (N := 13) hx hb hts iX4 hown hK hP 1 wC_at1 rfl 2 (by decide) (hts _ m_43) (fun _ h9 => h9) rfl dX4_keepStep_62 ?_
      refine va_alen (D := G) hx hb hK hP 4 0 wC_at4 rfl (v := 1880) rfl dX4_keepStep_65 ?_
      refine lv_icmp_le (tgt := 70) hx hb dX4_keepStep_66 (by decide) (fun c_3 => ?_) (fun c_3 => ?_)
      · have hF := ob_pos c_3 hF
        refine lv_aload_n hx hb dX4_keepStep_70 rfl (lv_at hl 1 rfl) ?_
        refine va_get (D := G) (ci := 4) (v := .ref (q 2)) (C := RX4) (T := TX4) (N := 13) hx hb hts iX4 hown hK hP 1 wC_at1 rfl 0 (by decide) (hts _ m_2) (fun _ h9 => h9) rfl dX4_keepStep_71 ?_
        refine lv_iconst (v := 0) hx hb dX4_keepStep_74 (by decide) ?_
        refine lv_aload_n hx hb dX4_keepStep_75 rfl (lv_at hl 1 rfl) ?_
        refine va_get (D := G) (ci := 4) (v := .ref (q 4)) (C := RX4) (T := TX4) (N := 13) hx hb hts iX4 hown hK hP 1 wC_at1 rfl 2 (by decide) (hts _ m_43) (fun _ h9 => h9) rfl dX4_keepStep_76 ?_
        refine lv_iload_n hx hb dX4_keepStep_79 rfl (lv_at hl 0 rfl) ?_
        refine lv_bipush (v := 90) hx hb dX4_keepStep_80 (by decide) ?_
        obtain ⟨hn_4, hF⟩ := ob_if hF
        obtain ⟨hq_5, hF⟩ := ob_if hF
        refine va_copyi (D := G) hx hb (by rw [hml]; exact hl.1.symm) hown (hts _ m_44) (hts _ m_45) (hts _ m_46) (hts _ m_47) hK hP hD hS 2 4 0 0 wC_at2 wC_at4 rfl rfl rfl (by decide) hn_4 (by decide) (by decide) hq_5 (fun _ _ => rfl) (Nat.le_of_ble_eq_true rfl) (Nat.le_of_ble_eq_true rfl) dX4_keepStep_82 (fun H locs hP hD hS => ?_)
        rw [wC_sA4] at hP hD
        have hP : va_P G vwCl (wC q cI cJ cZ cB cT (sA h 1 2 (va_cpy (eA h 1 0) (eA h 1 2) 0 (((((((eI h 1 11) + (eI h 1 12)) - 1) - (((eI h 1 11) + (eI h 1 12)) - 1) / 20 * 20) * 94)).toNatClampNeg) 90))) H := hP
        have hD : va_D A (wC q cI cJ cZ cB cT (sA h 1 2 (va_cpy (eA h 1 0) (eA h 1 2) 0 (((((((eI h 1 11) + (eI h 1 12)) - 1) - (((eI h 1 11) + (eI h 1 12)) - 1) / 20 * 20) * 94)).toNatClampNeg) 90))) := hD
        refine lv_aload_n hx hb dX4_keepStep_85 rfl (lv_at hl 1 rfl) ?_
        refine va_get (D := G) (ci := 4) (v := .ref (q 4)) (C := RX4) (T := TX4) (N := 13) hx hb hts iX4 hown hK hP 1 wC_at1 rfl 2 (by decide) (hts _ m_43) (fun _ h9 => h9) rfl dX4_keepStep_86 ?_
        refine lv_iload_n hx hb dX4_keepStep_89 rfl (lv_at hl 0 rfl) ?_
        refine lv_bipush (v := 90) hx hb dX4_keepStep_90 (by decide) ?_
        refine lv_iadd hx hb dX4_keepStep_92 ?_
        refine lv_aload_n hx hb dX4_keepStep_93 rfl (lv_at hl 1 rfl) ?_
        refine va_get (D := G) (ci := 4) (v := .int (eI h 1 3)) (C := RX4) (T := TX4) (N := 13) hx hb hts iX4 hown hK hP 1 wC_at1 rfl 3 (by decide) (hts _ m_0) (fun _ h9 => h9) rfl dX4_keepStep_94 ?_
        obtain ⟨hi_6, hF⟩ := ob_if hF
        refine va_iast (D := G) hx hb hK hP hD hS 4 0 wC_at4 rfl (vp_in_iff.mpr hi_6) dX4_keepStep_97 (fun H locs hP hD hS => ?_)
        rw [wC_sA4] at hP hD
        have hP : va_P G vwCl (wC q cI cJ cZ cB cT (sA (sA h 1 2 (va_cpy (eA h 1 0) (eA h 1 2) 0 (((((((eI h 1 11) + (eI h 1 12)) - 1) - (((eI h 1 11) + (eI h 1 12)) - 1) / 20 * 20) * 94)).toNatClampNeg) 90)) 1 2 (upd (va_cpy (eA h 1 0) (eA h 1 2) 0 (((((((eI h 1 11) + (eI h 1 12)) - 1) - (((eI h 1 11) + (eI h 1 12)) - 1) / 20 * 20) * 94)).toNatClampNeg) 90) ((((((((eI h 1 11) + (eI h 1 12)) - 1) - (((eI h 1 11) + (eI h 1 12)) - 1) / 20 * 20) * 94) + 90)).toNatClampNeg) (eI h 1 3)))) H := hP
        have hD : va_D A (wC q cI cJ cZ cB cT (sA (sA h 1 2 (va_cpy (eA h 1 0) (eA h 1 2) 0 (((((((eI h 1 11) + (eI h 1 12)) - 1) - (((eI h 1 11) + (eI h 1 12)) - 1) / 20 * 20) * 94)).toNatClampNeg) 90)) 1 2 (upd (va_cpy (eA h 1 0) (eA h 1 2) 0 (((((((eI h 1 11) + (eI h 1 12)) - 1) - (((eI h 1 11) + (eI h 1 12)) - 1) / 20 * 20) * 94)).toNatClampNeg) 90) ((((((((eI h 1 11) + (eI h 1 12)) - 1) - (((eI h 1 11) + (eI h 1 12)) - 1) / 20 * 20) * 94) + 90)).toNatClampNeg) (eI h 1 3)))) := hD
        refine lv_aload_n hx hb dX4_keepStep_98 rfl (lv_at hl 1 rfl) ?_
        refine va_get (D := G) (ci := 4) (v := .ref (q 4)) (C := RX4) (T := TX4) (N := 13) hx hb hts iX4 hown hK hP 1 wC_at1 rfl 2 (by decide) (hts _ m_43) (fun _ h9 => h9) rfl dX4_keepStep_99 ?_
        refine lv_iload_n hx hb dX4_keepStep_102 rfl (lv_at hl 0 rfl) ?_
        refine lv_bipush (v := 90) hx hb dX4_keepStep_103 (by decide) ?_
        refine lv_iadd hx hb dX4_keepStep_105 ?_
        refine lv_iconst (v := 1) hx hb dX4_keepStep_106 (by decide) ?_
        refine lv_iadd hx hb dX4_keepStep_107 ?_
        refine lv_aload_n hx hb dX4_keepStep_108 rfl (lv_at hl 1 rfl) ?_
        refine va_get (D := G) (ci := 4) (v := .int (eI h 1 5)) (C := RX4) (T := TX4) (N := 13) hx hb hts iX4 hown hK hP 1 wC_at1 rfl 5 (by decide) (hts _ m_31) (fun _ h9 => h9) rfl dX4_keepStep_109 ?_
        obtain ⟨hi_7, hF⟩ := ob_if hF
        refine va_iast (D := G) hx hb hK hP hD hS 4 0 wC_at4 rfl (vp_in_iff.mpr hi_7) dX4_keepStep_112 (fun H locs hP hD hS => ?_)
        rw [wC_sA4] at hP hD
        have hP : va_P G vwCl (wC q cI cJ cZ cB cT (sA (sA (sA h 1 2 (va_cpy (eA h 1 0) (eA h 1 2) 0 (((((((eI h 1 11) + (eI h 1 12)) - 1) - (((eI h 1 11) + (eI h 1 12)) - 1) / 20 * 20) * 94)).toNatClampNeg) 90)) 1 2 (upd (va_cpy (eA h 1 0) (eA h 1 2) 0 (((((((eI h 1 11) + (eI h 1 12)) - 1) - (((eI h 1 11) + (eI h 1 12)) - 1) / 20 * 20) * 94)).toNatClampNeg) 90) ((((((((eI h 1 11) + (eI h 1 12)) - 1) - (((eI h 1 11) + (eI h 1 12)) - 1) / 20 * 20) * 94) + 90)).toNatClampNeg) (eI h 1 3))) 1 2 (upd (upd (va_cpy (eA h 1 0) (eA h 1 2) 0 (((((((eI h 1 11) + (eI h 1 12)) - 1) - (((eI h 1 11) + (eI h 1 12)) - 1) / 20 * 20) * 94)).toNatClampNeg) 90) ((((((((eI h 1 11) + (eI h 1 12)) - 1) - (((eI h 1 11) + (eI h 1 12)) - 1) / 20 * 20) * 94) + 90)).toNatClampNeg) (eI h 1 3)) (((((((((eI h 1 11) + (eI h 1 12)) - 1) - (((eI h 1 11) + (eI h 1 12)) - 1) / 20 * 20) * 94) + 90) + 1)).toNatClampNeg) (eI h 1 5)))) H := hP
        have hD : va_D A (wC q cI cJ cZ cB cT (sA (sA (sA h 1 2 (va_cpy (eA h 1 0) (eA h 1 2) 0 (((((((eI h 1 11) + (eI h 1 12)) - 1) - (((eI h 1 11) + (eI h 1 12)) - 1) / 20 * 20) * 94)).toNatClampNeg) 90)) 1 2 (upd (va_cpy (eA h 1 0) (eA h 1 2) 0 (((((((eI h 1 11) + (eI h 1 12)) - 1) - (((eI h 1 11) + (eI h 1 12)) - 1) / 20 * 20) * 94)).toNatClampNeg) 90) ((((((((eI h 1 11) + (eI h 1 12)) - 1) - (((eI h 1 11) + (eI h 1 12)) - 1) / 20 * 20) * 94) + 90)).toNatClampNeg) (eI h 1 3))) 1 2 (upd (upd (va_cpy (eA h 1 0) (eA h 1 2) 0 (((((((eI h 1 11) + (eI h 1 12)) - 1) - (((eI h 1 11) + (eI h 1 12)) - 1) / 20 * 20) * 94)).toNatClampNeg) 90) ((((((((eI h 1 11) + (eI h 1 12)) - 1) - (((eI h 1 11) + (eI h 1 12)) - 1) / 20 * 20) * 94) + 90)).toNatClampNeg) (eI h 1 3)) (((((((((eI h 1 11) + (eI h 1 12)) - 1) - (((eI h 1 11) + (eI h 1 12)) - 1) / 20 * 20) * 94) + 90) + 1)).toNatClampNeg) (eI h 1 5)))) := hD
        refine lv_aload_n hx hb dX4_keepStep_113 rfl (lv_at hl 1 rfl) ?_
        refine va_get (D := G) (ci := 4) (v := .ref (q 4)) (C := RX4) (T := TX4) (N := 13) hx hb hts iX4 hown hK hP 1 wC_at1 rfl 2 (by decide) (hts _ m_43) (fun _ h9 => h9) rfl dX4_keepStep_114 ?_
        refine lv_iload_n hx hb dX4_keepStep_117 rfl (lv_at hl 0 rfl) ?_
        refine lv_bipush (v := 90) hx hb dX4_keepStep_118 (by decide) ?_
        refine lv_iadd hx hb dX4_keepStep_120 ?_
        refine lv_iconst (v := 2) hx hb dX4_keepStep_121 (by decide) ?_
        refine lv_iadd hx hb dX4_keepStep_122 ?_
        refine lv_aload_n hx hb dX4_keepStep_123 rfl (lv_at hl 1 rfl) ?_
        refine va_get (D := G) (ci := 4) (v := .int (eI h 1 7)) (C := RX4) (T := TX4) (N := 13) hx hb hts iX4 hown hK hP 1 wC_at1 rfl 7 (by decide) (hts _ m_21) (fun _ h9 => h9) rfl dX4_keepStep_124 ?_
        obtain ⟨hi_8, hF⟩ := ob_if hF
        refine va_iast (D := G) hx hb hK hP hD hS 4 0 wC_at4 rfl (vp_in_iff.mpr hi_8) dX4_keepStep_127 (fun H locs hP hD hS => ?_)
        rw [wC_sA4] at hP hD
        have hP : va_P G vwCl (wC q cI cJ cZ cB cT (sA (sA (sA (sA h 1 2 (va_cpy (eA h 1 0) (eA h 1 2) 0 (((((((eI h 1 11) + (eI h 1 12)) - 1) - (((eI h 1 11) + (eI h 1 12)) - 1) / 20 * 20) * 94)).toNatClampNeg) 90)) 1 2 (upd (va_cpy (eA h 1 0) (eA h 1 2) 0 (((((((eI h 1 11) + (eI h 1 12)) - 1) - (((eI h 1 11) + (eI h 1 12)) - 1) / 20 * 20) * 94)).toNatClampNeg) 90) ((((((((eI h 1 11) + (eI h 1 12)) - 1) - (((eI h 1 11) + (eI h 1 12)) - 1) / 20 * 20) * 94) + 90)).toNatClampNeg) (eI h 1 3))) 1 2 (upd (upd (va_cpy (eA h 1 0) (eA h 1 2) 0 (((((((eI h 1 11) + (eI h 1 12)) - 1) - (((eI h 1 11) + (eI h 1 12)) - 1) / 20 * 20) * 94)).toNatClampNeg) 90) ((((((((eI h 1 11) + (eI h 1 12)) - 1) - (((eI h 1 11) + (eI h 1 12)) - 1) / 20 * 20) * 94) + 90)).toNatClampNeg) (eI h 1 3)) (((((((((eI h 1 11) + (eI h 1 12)) - 1) - (((eI h 1 11) + (eI h 1 12)) - 1) / 20 * 20) * 94) + 90) + 1)).toNatClampNeg) (eI h 1 5))) 1 2 (upd (upd (upd (va_cpy (eA h 1 0) (eA h 1 2) 0 (((((((eI h 1 11) + (eI h 1 12)) - 1) - (((eI h 1 11) + (eI h 1 12)) - 1) / 20 * 20) * 94)).toNatClampNeg) 90) ((((((((eI h 1 11) + (eI h 1 12)) - 1) - (((eI h 1 11) + (eI h 1 12)) - 1) / 20 * 20) * 94) + 90)).toNatClampNeg) (eI h 1 3)) (((((((((eI h 1 11) + (eI h 1 12)) - 1) - (((eI h 1 11) + (eI h 1 12)) - 1) / 20 * 20) * 94) + 90) + 1)).toNatClampNeg) (eI h 1 5)) (((((((((eI h 1 11) + (eI h 1 12)) - 1) - (((eI h 1 11) + (eI h 1 12)) - 1) / 20 * 20) * 94) + 90) + 2)).toNatClampNeg) (eI h 1 7)))) H := hP
        have hD : va_D A (wC q cI cJ cZ cB cT (sA (sA (sA (sA h 1 2 (va_cpy (eA h 1 0) (eA h 1 2) 0 (((((((eI h 1 11) + (eI h 1 12)) - 1) - (((eI h 1 11) + (eI h 1 12)) - 1) / 20 * 20) * 94)).toNatClampNeg) 90)) 1 2 (upd (va_cpy (eA h 1 0) (eA h 1 2) 0 (((((((eI h 1 11) + (eI h 1 12)) - 1) - (((eI h 1 11) + (eI h 1 12)) - 1) / 20 * 20) * 94)).toNatClampNeg) 90) ((((((((eI h 1 11) + (eI h 1 12)) - 1) - (((eI h 1 11) + (eI h 1 12)) - 1) / 20 * 20) * 94) + 90)).toNatClampNeg) (eI h 1 3))) 1 2 (upd (upd (va_cpy (eA h 1 0) (eA h 1 2) 0 (((((((eI h 1 11) + (eI h 1 12)) - 1) - (((eI h 1 11) + (eI h 1 12)) - 1) / 20 * 20) * 94)).toNatClampNeg) 90) ((((((((eI h 1 11) + (eI h 1 12)) - 1) - (((eI h 1 11) + (eI h 1 12)) - 1) / 20 * 20) * 94) + 90)).toNatClampNeg) (eI h 1 3)) (((((((((eI h 1 11) + (eI h 1 12)) - 1) - (((eI h 1 11) + (eI h 1 12)) - 1) / 20 * 20) * 94) + 90) + 1)).toNatClampNeg) (eI h 1 5))) 1 2 (upd (upd (upd (va_cpy (eA h 1 0) (eA h 1 2) 0 (((((((eI h 1 11) + (eI h 1 12)) - 1) - (((eI h 1 11) + (eI h 1 12)) - 1) / 20 * 20) * 94)).toNatClampNeg) 90) ((((((((eI h 1 11) + (eI h 1 12)) - 1) - (((eI h 1 11) + (eI h 1 12)) - 1) / 20 * 20) * 94) + 90)).toNatClampNeg) (eI h 1 3)) (((((((((eI h 1 11) + (eI h 1 12)) - 1) - (((eI h 1 11) + (eI h 1 12)) - 1) / 20 * 20) * 94) + 90) + 1)).toNatClampNeg) (eI h 1 5)) (((((((((eI h 1 11) + (eI h 1 12)) - 1) - (((eI h 1 11) + (eI h 1 12)) - 1) / 20 * 20) * 94) + 90) + 2)).toNatClampNeg) (eI h 1 7)))) := hD
        refine lv_aload_n hx hb dX4_keepStep_128 rfl (lv_at hl 1 rfl) ?_
        refine va_get (D := G) (ci := 4) (v := .ref (q 4)) (C := RX4) (T := TX4) (N := 13) hx hb hts iX4 hown hK hP 1 wC_at1 rfl 2 (by decide) (hts _ m_43) (fun _ h9 => h9) rfl dX4_keepStep_129 ?_
        refine lv_iload_n hx hb dX4_keepStep_132 rfl (lv_at hl 0 rfl) ?_
        refine lv_bipush (v := 90) hx hb dX4_keepStep_133 (by decide) ?_
        refine lv_iadd hx hb dX4_keepStep_135 ?_
        refine lv_iconst (v := 3) hx hb dX4_keepStep_136 (by decide) ?_
        refine lv_iadd hx hb dX4_keepStep_137 ?_
        refine lv_aload_n hx hb dX4_keepStep_138 rfl (lv_at hl 1 rfl) ?_
        refine va_get (D := G) (ci := 4) (v := .int (eI h 1 8)) (C := RX4) (T := TX4) (N := 13) hx hb hts iX4 hown hK hP 1 wC_at1 rfl 8 (by decide) (hts _ m_40) (fun _ h9 => h9) rfl dX4_keepStep_139 ?_
        obtain ⟨hi_9, hF⟩ := ob_if hF
        refine va_iast (D := G) hx hb hK hP hD hS 4 0 wC_at4 rfl (vp_in_iff.mpr hi_9) dX4_keepStep_142 (fun H locs hP hD hS => ?_)
        rw [wC_sA4] at hP hD
        have hP : va_P G vwCl (wC q cI cJ cZ cB cT (sA (sA (sA (sA (sA h 1 2 (va_cpy (eA h 1 0) (eA h 1 2) 0 (((((((eI h 1 11) + (eI h 1 12)) - 1) - (((eI h 1 11) + (eI h 1 12)) - 1) / 20 * 20) * 94)).toNatClampNeg) 90)) 1 2 (upd (va_cpy (eA h 1 0) (eA h 1 2) 0 (((((((eI h 1 11) + (eI h 1 12)) - 1) - (((eI h 1 11) + (eI h 1 12)) - 1) / 20 * 20) * 94)).toNatClampNeg) 90) ((((((((eI h 1 11) + (eI h 1 12)) - 1) - (((eI h 1 11) + (eI h 1 12)) - 1) / 20 * 20) * 94) + 90)).toNatClampNeg) (eI h 1 3))) 1 2 (upd (upd (va_cpy (eA h 1 0) (eA h 1 2) 0 (((((((eI h 1 11) + (eI h 1 12)) - 1) - (((eI h 1 11) + (eI h 1 12)) - 1) / 20 * 20) * 94)).toNatClampNeg) 90) ((((((((eI h 1 11) + (eI h 1 12)) - 1) - (((eI h 1 11) + (eI h 1 12)) - 1) / 20 * 20) * 94) + 90)).toNatClampNeg) (eI h 1 3)) (((((((((eI h 1 11) + (eI h 1 12)) - 1) - (((eI h 1 11) + (eI h 1 12)) - 1) / 20 * 20) * 94) + 90) + 1)).toNatClampNeg) (eI h 1 5))) 1 2 (upd (upd (upd (va_cpy (eA h 1 0) (eA h 1 2) 0 (((((((eI h 1 11) + (eI h 1 12)) - 1) - (((eI h 1 11) + (eI h 1 12)) - 1) / 20 * 20) * 94)).toNatClampNeg) 90) ((((((((eI h 1 11) + (eI h 1 12)) - 1) - (((eI h 1 11) + (eI h 1 12)) - 1) / 20 * 20) * 94) + 90)).toNatClampNeg) (eI h 1 3)) (((((((((eI h 1 11) + (eI h 1 12)) - 1) - (((eI h 1 11) + (eI h 1 12)) - 1) / 20 * 20) * 94) + 90) + 1)).toNatClampNeg) (eI h 1 5)) (((((((((eI h 1 11) + (eI h 1 12)) - 1) - (((eI h 1 11) + (eI h 1 12)) - 1) / 20 * 20) * 94) + 90) + 2)).toNatClampNeg) (eI h 1 7))) 1 2 (upd (upd (upd (upd (va_cpy (eA h 1 0) (eA h 1 2) 0 (((((((eI h 1 11) + (eI h 1 12)) - 1) - (((eI h 1 11) + (eI h 1 12)) - 1) / 20 * 20) * 94)).toNatClampNeg) 90) ((((((((eI h 1 11) + (eI h 1 12)) - 1) - (((eI h 1 11) + (eI h 1 12)) - 1) / 20 * 20) * 94) + 90)).toNatClampNeg) (eI h 1 3)) (((((((((eI h 1 11) + (eI h 1 12)) - 1) - (((eI h 1 11) + (eI h 1 12)) - 1) / 20 * 20) * 94) + 90) + 1)).toNatClampNeg) (eI h 1 5)) (((((((((eI h 1 11) + (eI h 1 12)) - 1) - (((eI h 1 11) + (eI h 1 12)) - 1) / 20 * 20) * 94) + 90) + 2)).toNatClampNeg) (eI h 1 7)) (((((((((eI h 1 11) + (eI h 1 12)) - 1) - (((eI h 1 11) + (eI h 1 12)) - 1) / 20 * 20) * 94) + 90) + 3)).toNatClampNeg) (eI h 1 8)))) H := hP
        have hD : va_D A (wC q cI cJ cZ cB cT (sA (sA (sA (sA (sA h 1 2 (va_cpy (eA h 1 0) (eA h 1 2) 0 (((((((eI h 1 11) + (eI h 1 12)) - 1) - (((eI h 1 11) + (eI h 1 12)) - 1) / 20 * 20) * 94)).toNatClampNeg) 90)) 1 2 (upd (va_cpy (eA h 1 0) (eA h 1 2) 0 (((((((eI h 1 11) + (eI h 1 12)) - 1) - (((eI h 1 11) + (eI h 1 12)) - 1) / 20 * 20) * 94)).toNatClampNeg) 90) ((((((((eI h 1 11) + (eI h 1 12)) - 1) - (((eI h 1 11) + (eI h 1 12)) - 1) / 20 * 20) * 94) + 90)).toNatClampNeg) (eI h 1 3))) 1 2 (upd (upd (va_cpy (eA h 1 0) (eA h 1 2) 0 (((((((eI h 1 11) + (eI h 1 12)) - 1) - (((eI h 1 11) + (eI h 1 12)) - 1) / 20 * 20) * 94)).toNatClampNeg) 90) ((((((((eI h 1 11) + (eI h 1 12)) - 1) - (((eI h 1 11) + (eI h 1 12)) - 1) / 20 * 20) * 94) + 90)).toNatClampNeg) (eI h 1 3)) (((((((((eI h 1 11) + (eI h 1 12)) - 1) - (((eI h 1 11) + (eI h 1 12)) - 1) / 20 * 20) * 94) + 90) + 1)).toNatClampNeg) (eI h 1 5))) 1 2 (upd (upd (upd (va_cpy (eA h 1 0) (eA h 1 2) 0 (((((((eI h 1 11) + (eI h 1 12)) - 1) - (((eI h 1 11) + (eI h 1 12)) - 1) / 20 * 20) * 94)).toNatClampNeg) 90) ((((((((eI h 1 11) + (eI h 1 12)) - 1) - (((eI h 1 11) + (eI h 1 12)) - 1) / 20 * 20) * 94) + 90)).toNatClampNeg) (eI h 1 3)) (((((((((eI h 1 11) + (eI h 1 12)) - 1) - (((eI h 1 11) + (eI h 1 12)) - 1) / 20 * 20) * 94) + 90) + 1)).toNatClampNeg) (eI h 1 5)) (((((((((eI h 1 11) + (eI h 1 12)) - 1) - (((eI h 1 11) + (eI h 1 12)) - 1) / 20 * 20) * 94) + 90) + 2)).toNatClampNeg) (eI h 1 7))) 1 2 (upd (upd (upd (upd (va_cpy (eA h 1 0) (eA h 1 2) 0 (((((((eI h 1 11) + (eI h 1 12)) - 1) - (((eI h 1 11) + (eI h 1 12)) - 1) / 20 * 20) * 94)).toNatClampNeg) 90) ((((((((eI h 1 11) + (eI h 1 12)) - 1) - (((eI h 1 11) + (eI h 1 12)) - 1) / 20 * 20) * 94) + 90)).toNatClampNeg) (eI h 1 3)) (((((((((eI h 1 11) + (eI h 1 12)) - 1) - (((eI h 1 11) + (eI h 1 12)) - 1) / 20 * 20) * 94) + 90) + 1)).toNatClampNeg) (eI h 1 5)) (((((((((eI h 1 11) + (eI h 1 12)) - 1) - (((eI h 1 11) + (eI h 1 12)) - 1) / 20 * 20) * 94) + 90) + 2)).toNatClampNeg) (eI h 1 7)) (((((((((eI h 1 11) + (eI h 1 12)) - 1) - (((eI h 1 11) + (eI h 1 12)) - 1) / 20 * 20) * 94) + 90) + 3)).toNatClampNeg) (eI h 1 8)))) := hD
        obtain rfl := ob_one hF
        exact gw_vret () hx hb hr hlocks hP hD hS trivial dX4_keepStep_143
      · have hF := ob_neg c_3 hF
        exact hJ_69 h hF H _ ls hP hD hS (lv_sub hl [] rfl)
  unfold f_X4_keepStep at hF
  refine lv_aload_n hx hb dX4_keepStep_0 rfl (lv_at hl 0 rfl) ?_
  refine va_get (D := G) (ci := 4) (v := .int (eI h 1 12)) (C := RX4) (T := TX4) (N := 13) hx hb hts iX4 hown hK hP 1 wC_at1 rfl 12 (by decide) (hts _ m_41) (fun _ h9 => h9) rfl dX4_keepStep_1 ?_
  refine lv_bipush (v := 20) hx hb dX4_keepStep_4 (by decide) ?_
  refine lv_icmp_ge (tgt := 22) hx hb dX4_keepStep_6 (by decide) (fun c_1 => ?_) (fun c_1 => ?_)
  · have hF := ob_pos c_1 hF
    refine lv_aload_n hx hb dX4_keepStep_22 rfl (lv_at hl 0 rfl) ?_
    refine lv_aload_n hx hb dX4_keepStep_23 rfl (lv_at hl 0 rfl) ?_
    refine va_get (D := G) (ci := 4) (v := .int (eI h 1 11)) (C := RX4) (T := TX4) (N := 13) hx hb hts iX4 hown hK hP 1 wC_at1 rfl 11 (by decide) (hts _ m_42) (fun _ h9 => h9) rfl dX4_keepStep_24 ?_
    refine lv_iconst (v := 1) hx hb dX4_keepStep_27 (by decide) ?_
    refine lv_iadd hx hb dX4_keepStep_28 ?_
    refine lv_bipush (v := 20) hx hb dX4_keepStep_29 (by decide) ?_
    refine lv_irem hx hb dX4_keepStep_31 (by decide) ?_
    refine va_put (D := G) (ci := 4) (v := .int (((eI h 1 11) + 1) - ((eI h 1 11) + 1) / 20 * 20)) (ty := .int) (C := RX4) (T := TX4) (N := 13) hx hb hts iX4 tyX4 tyX4_ok nmX4 hown hK hP hD hS 1 wC_at1 rfl 11 (by decide) (hts _ m_42) (fun _ h9 => h9) rfl (tyX4_ok 11 (by decide)) rfl rfl (Nat.le_of_ble_eq_true rfl) dX4_keepStep_32 (fun H locs hP hD hS => ?_)
    rw [wC_sI1_11] at hP hD
    exact hJ_35 (sI h 1 11 (((eI h 1 11) + 1) - ((eI h 1 11) + 1) / 20 * 20)) hF H _ ls hP hD hS (lv_sub hl [0] rfl)
  · have hF := ob_neg c_1 hF
    refine lv_aload_n hx hb dX4_keepStep_9 rfl (lv_at hl 0 rfl) ?_
    refine lv_dup hx hb dX4_keepStep_10 rfl ?_
    refine va_get (D := G) (ci := 4) (v := .int (eI h 1 12)) (C := RX4) (T := TX4) (N := 13) hx hb hts iX4 hown hK hP 1 wC_at1 rfl 12 (by decide) (hts _ m_41) (fun _ h9 => h9) rfl dX4_keepStep_11 ?_
    refine lv_iconst (v := 1) hx hb dX4_keepStep_14 (by decide) ?_
    refine lv_iadd hx hb dX4_keepStep_15 ?_
    refine va_put (D := G) (ci := 4) (v := .int ((eI h 1 12) + 1)) (ty := .int) (C := RX4) (T := TX4) (N := 13) hx hb hts iX4 tyX4 tyX4_ok nmX4 hown hK hP hD hS 1 wC_at1 rfl 12 (by decide) (hts _ m_41) (fun _ h9 => h9) rfl (tyX4_ok 12 (by decide)) rfl rfl (Nat.le_of_ble_eq_true rfl) dX4_keepStep_16 (fun H locs hP hD hS => ?_)
    rw [wC_sI1_12] at hP hD
    refine lv_goto (tgt := 35) hx hb dX4_keepStep_19 (by decide) ?_
    exact hJ_35 (sI h 1 12 ((eI h 1 12) + 1)) hF H _ ls hP hD hS (lv_sub hl [0] rfl)
def f_X4_takeStepBack_42 (h : HS) : Option (Int32 × HS) := (some (0, h))
def f_X4_takeStepBack (h : HS) : Option (Int32 × HS) := (if (eI h 1 12) < 1 then (f_X4_takeStepBack_42 h) else (if (((((eI h 1 11) + (eI h 1 12)) - 1) - (((eI h 1 11) + (eI h 1 12)) - 1) / 20 * 20) * 94) < 0 then (f_X4_takeStepBack_42 h) else (if ((((((eI h 1 11) + (eI h 1 12)) - 1) - (((eI h 1 11) + (eI h 1 12)) - 1) / 20 * 20) * 94) + 94) ≤ 1880 then (if 0 ≤ (((((((eI h 1 11) + (eI h 1 12)) - 1) - (((eI h 1 11) + (eI h 1 12)) - 1) / 20 * 20) * 94) + 90)).toInt ∧ (((((((eI h 1 11) + (eI h 1 12)) - 1) - (((eI h 1 11) + (eI h 1 12)) - 1) / 20 * 20) * 94) + 90)).toInt < 1880 then (if ¬ (((((eI h 1 11) + (eI h 1 12)) - 1) - (((eI h 1 11) + (eI h 1 12)) - 1) / 20 * 20) * 94) < 0 then (if ¬ (if (if 0 < (((eA h 1 2) ((((((((eI h 1 11) + (eI h 1 12)) - 1) - (((eI h 1 11) + (eI h 1 12)) - 1) / 20 * 20) * 94) + 90)).toNatClampNeg)) * 9) then (((eA h 1 2) ((((((((eI h 1 11) + (eI h 1 12)) - 1) - (((eI h 1 11) + (eI h 1 12)) - 1) / 20 * 20) * 94) + 90)).toNatClampNeg)) * 9) else 0) < 90 then (if 0 < (((eA h 1 2) ((((((((eI h 1 11) + (eI h 1 12)) - 1) - (((eI h 1 11) + (eI h 1 12)) - 1) / 20 * 20) * 94) + 90)).toNatClampNeg)) * 9) then (((eA h 1 2) ((((((((eI h 1 11) + (eI h 1 12)) - 1) - (((eI h 1 11) + (eI h 1 12)) - 1) / 20 * 20) * 94) + 90)).toNatClampNeg)) * 9) else 0) else 90) < 0 then (if ((((((eI h 1 11) + (eI h 1 12)) - 1) - (((eI h 1 11) + (eI h 1 12)) - 1) / 20 * 20) * 94)).toNatClampNeg + ((if (if 0 < (((eA h 1 2) ((((((((eI h 1 11) + (eI h 1 12)) - 1) - (((eI h 1 11) + (eI h 1 12)) - 1) / 20 * 20) * 94) + 90)).toNatClampNeg)) * 9) then (((eA h 1 2) ((((((((eI h 1 11) + (eI h 1 12)) - 1) - (((eI h 1 11) + (eI h 1 12)) - 1) / 20 * 20) * 94) + 90)).toNatClampNeg)) * 9) else 0) < 90 then (if 0 < (((eA h 1 2) ((((((((eI h 1 11) + (eI h 1 12)) - 1) - (((eI h 1 11) + (eI h 1 12)) - 1) / 20 * 20) * 94) + 90)).toNatClampNeg)) * 9) then (((eA h 1 2) ((((((((eI h 1 11) + (eI h 1 12)) - 1) - (((eI h 1 11) + (eI h 1 12)) - 1) / 20 * 20) * 94) + 90)).toNatClampNeg)) * 9) else 0) else 90)).toNatClampNeg ≤ 1880 then (if 0 + ((if (if 0 < (((eA h 1 2) ((((((((eI h 1 11) + (eI h 1 12)) - 1) - (((eI h 1 11) + (eI h 1 12)) - 1) / 20 * 20) * 94) + 90)).toNatClampNeg)) * 9) then (((eA h 1 2) ((((((((eI h 1 11) + (eI h 1 12)) - 1) - (((eI h 1 11) + (eI h 1 12)) - 1) / 20 * 20) * 94) + 90)).toNatClampNeg)) * 9) else 0) < 90 then (if 0 < (((eA h 1 2) ((((((((eI h 1 11) + (eI h 1 12)) - 1) - (((eI h 1 11) + (eI h 1 12)) - 1) / 20 * 20) * 94) + 90)).toNatClampNeg)) * 9) then (((eA h 1 2) ((((((((eI h 1 11) + (eI h 1 12)) - 1) - (((eI h 1 11) + (eI h 1 12)) - 1) / 20 * 20) * 94) + 90)).toNatClampNeg)) * 9) else 0) else 90)).toNatClampNeg ≤ 90 then (if 0 ≤ ((((((((eI h 1 11) + (eI h 1 12)) - 1) - (((eI h 1 11) + (eI h 1 12)) - 1) / 20 * 20) * 94) + 90) + 1)).toInt ∧ ((((((((eI h 1 11) + (eI h 1 12)) - 1) - (((eI h 1 11) + (eI h 1 12)) - 1) / 20 * 20) * 94) + 90) + 1)).toInt < 1880 then (if 0 ≤ ((((((((eI h 1 11) + (eI h 1 12)) - 1) - (((eI h 1 11) + (eI h 1 12)) - 1) / 20 * 20) * 94) + 90) + 2)).toInt ∧ ((((((((eI h 1 11) + (eI h 1 12)) - 1) - (((eI h 1 11) + (eI h 1 12)) - 1) / 20 * 20) * 94) + 90) + 2)).toInt < 1880 then (if 0 ≤ ((((((((eI h 1 11) + (eI h 1 12)) - 1) - (((eI h 1 11) + (eI h 1 12)) - 1) / 20 * 20) * 94) + 90) + 3)).toInt ∧ ((((((((eI h 1 11) + (eI h 1 12)) - 1) - (((eI h 1 11) + (eI h 1 12)) - 1) / 20 * 20) * 94) + 90) + 3)).toInt < 1880 then (some (1, (sI (sI (sI (sA (sI h 1 12 ((eI h 1 12) - 1)) 1 0 (va_cpy (eA h 1 2) (eA h 1 0) (((((((eI h 1 11) + (eI h 1 12)) - 1) - (((eI h 1 11) + (eI h 1 12)) - 1) / 20 * 20) * 94)).toNatClampNeg) 0 (((if (if 0 < (((eA h 1 2) ((((((((eI h 1 11) + (eI h 1 12)) - 1) - (((eI h 1 11) + (eI h 1 12)) - 1) / 20 * 20) * 94) + 90)).toNatClampNeg)) * 9) then (((eA h 1 2) ((((((((eI h 1 11) + (eI h 1 12)) - 1) - (((eI h 1 11) + (eI h 1 12)) - 1) / 20 * 20) * 94) + 90)).toNatClampNeg)) * 9) else 0) < 90 then (if 0 < (((eA h 1 2) ((((((((eI h 1 11) + (eI h 1 12)) - 1) - (((eI h 1 11) + (eI h 1 12)) - 1) / 20 * 20) * 94) + 90)).toNatClampNeg)) * 9) then (((eA h 1 2) ((((((((eI h 1 11) + (eI h 1 12)) - 1) - (((eI h 1 11) + (eI h 1 12)) - 1) / 20 * 20) * 94) + 90)).toNatClampNeg)) * 9) else 0) else 90)).toNatClampNeg))) 1 5 ((eA h 1 2) (((((((((eI h 1 11) + (eI h 1 12)) - 1) - (((eI h 1 11) + (eI h 1 12)) - 1) / 20 * 20) * 94) + 90) + 1)).toNatClampNeg))) 1 7 ((eA h 1 2) (((((((((eI h 1 11) + (eI h 1 12)) - 1) - (((eI h 1 11) + (eI h 1 12)) - 1) / 20 * 20) * 94) + 90) + 2)).toNatClampNeg))) 1 8 ((eA h 1 2) (((((((((eI h 1 11) + (eI h 1 12)) - 1) - (((eI h 1 11) + (eI h 1 12)) - 1) / 20 * 20) * 94) + 90) + 3)).toNatClampNeg))))) else none) else none) else none) else none) else none) else none) else none) else none) else (f_X4_takeStepBack_42 h))))
set_option maxHeartbeats 4000000 in
set_option maxRecDepth 100000 in
theorem c_X4_takeStepBack (l : Launch) (G : va_G) (cI cJ cZ cB cT : ClassId) (q : Nat → Nat) (h : HS)  (rr : Int32) (hh : HS) (hF : f_X4_takeStepBack h = some (rr, hh)) : gMi l yX4_takeStepBack (gws yX4_takeStepBack cX4_takeStepBack 3 (some .boolean)) 1 G (gT cI cJ cZ cB cT) [.ref (q 1)] (wC q cI cJ cZ cB cT h) (fun x (_ : Unit) => x = rr) (fun (_ : Unit) => (wC q cI cJ cZ cB cT hh)) := by
  intro sz
  refine gM_start (y := yX4_takeStepBack) (av := [.ref (q 1)]) (ws := (wC q cI cJ cZ cB cT h)) (Qf := fun A => va_Qi (fun x (_ : Unit) => x = rr) (gB G (fun (_ : Unit) => (wC q cI cJ cZ cB cT hh)) A) A) (cc := cX4_takeStepBack) (maxL := 3) (ret := (some .boolean)) (by decide) (Nat.le_of_ble_eq_true rfl) ?_
  intro p e s m args below meth c A ls H hx hb hr hts hown hin hlocks hml hP hK hD hA hS hl hE
  have hl : lv_has ls 3 [(0, .ref (q 1))] := hl
  have hJ_42 : ∀ (h : HS), f_X4_takeStepBack_42 h = some (rr, hh) → ∀ (H : Heap) (locs : List Loc) (ls : Array Slot), va_P G vwCl (wC q cI cJ cZ cB cT h) H → va_D A (wC q cI cJ cZ cB cT h) → va_S A s.heap H locs → lv_has ls 3 [] → W p l e (gRm 1) s m args below meth c H locs 0 0 (MQ below (va_Qi (fun x (_ : Unit) => x = rr) (gB G (fun (_ : Unit) => (wC q cI cJ cZ cB cT hh)) A) A) args s 0 0 A) (F0 m 42 ls []) := by
    intro h hF H locs ls hP hD hS hl
    unfold f_X4_takeStepBack_42 at hF
    refine lv_iconst (v := 0) hx hb dX4_takeStepBack_42 (by decide) ?_
    obtain ⟨rfl, rfl⟩ := ob_pair hF
    exact gw_zret () hx hb hr hlocks rfl hP hD hS rfl dX4_takeStepBack_43
  unfold f_X4_takeStepBack at hF
  refine lv_aload_n hx hb dX4_takeStepBack_0 rfl (lv_at hl 0 rfl) ?_
  refine va_get (D := G) (ci := 4) (v := .int (eI h 1 11)) (C := RX4) (T := TX4) (N := 13) hx hb hts iX4 hown hK hP 1 wC_at1 rfl 11 (by decide) (hts _ m_42) (fun _ h9 => h9) rfl dX4_takeStepBack_1 ?_
  refine lv_aload_n hx hb dX4_takeStepBack_4 rfl (lv_at hl 0 rfl) ?_
  refine va_get (D := G) (ci := 4) (v := .int (eI h 1 12)) (C := RX4) (T := TX4) (N := 13) hx hb hts iX4 hown hK hP 1 wC_at1 rfl 12 (by decide) (hts _ m_41) (fun _ h9 => h9) rfl dX4_takeStepBack_5 ?_
  refine lv_iadd hx hb dX4_takeStepBack_8 ?_
  refine lv_iconst (v := 1) hx hb dX4_takeStepBack_9 (by decide) ?_
  refine lv_isub hx hb dX4_takeStepBack_10 ?_
  refine lv_bipush (v := 20) hx hb dX4_takeStepBack_11 (by decide) ?_
  refine lv_irem hx hb dX4_takeStepBack_13 (by decide) ?_
  refine lv_bipush (v := 94) hx hb dX4_takeStepBack_14 (by decide) ?_
  refine lv_imul hx hb dX4_takeStepBack_16 ?_
  refine lv_istore_n (lv' := [(1, .int (((((eI h 1 11) + (eI h 1 12)) - 1) - (((eI h 1 11) + (eI h 1 12)) - 1) / 20 * 20) * 94)), (0, .ref (q 1))]) hx hb dX4_takeStepBack_17 rfl hl (by decide) rfl (fun ls hl => ?_)
  refine lv_aload_n hx hb dX4_takeStepBack_18 rfl (lv_at hl 1 rfl) ?_
  refine va_get (D := G) (ci := 4) (v := .int (eI h 1 12)) (C := RX4) (T := TX4) (N := 13) hx hb hts iX4 hown hK hP 1 wC_at1 rfl 12 (by decide) (hts _ m_41) (fun _ h9 => h9) rfl dX4_takeStepBack_19 ?_
  refine lv_iconst (v := 1) hx hb dX4_takeStepBack_22 (by decide) ?_
  refine lv_icmp_lt (tgt := 42) hx hb dX4_takeStepBack_23 (by decide) (fun c_1 => ?_) (fun c_1 => ?_)
  · have hF := ob_pos c_1 hF
    exact hJ_42 h hF H _ ls hP hD hS (lv_sub hl [] rfl)
  · have hF := ob_neg c_1 hF
    refine lv_iload_n hx hb dX4_takeStepBack_26 rfl (lv_at hl 0 rfl) ?_
    refine lv_if_lt (tgt := 42) hx hb dX4_takeStepBack_27 (by decide) (fun c_2 => ?_) (fun c_2 => ?_)
    · have hF := ob_pos c_2 hF
      exact hJ_42 h hF H _ ls hP hD hS (lv_sub hl [] rfl)
    · have hF := ob_neg c_2 hF
      refine lv_iload_n hx hb dX4_takeStepBack_30 rfl (lv_at hl 0 rfl) ?_
      refine lv_bipush (v := 94) hx hb dX4_takeStepBack_31 (by decide) ?_
      refine lv_iadd hx hb dX4_takeStepBack_33 ?_
      refine lv_aload_n hx hb dX4_takeStepBack_34 rfl (lv_at hl 1 rfl) ?_
      refine va_get (D := G) (ci := 4) (v := .ref (q 4)) (C := RX4) (T := TX4) (N := 13) hx hb hts iX4 hown hK hP 1 wC_at1 rfl 2 (by decide) (hts _ m_43) (fun _ h9 => h9) rfl dX4_takeStepBack_35 ?_
      refine va_alen (D := G) hx hb hK hP 4 0 wC_at4 rfl (v := 1880) rfl dX4_takeStepBack_38 ?_
      refine lv_icmp_le (tgt := 44) hx hb dX4_takeStepBack_39 (by decide) (fun c_3 => ?_) (fun c_3 => ?_)
      · have hF := ob_pos c_3 hF
        refine lv_aload_n hx hb dX4_takeStepBack_44 rfl (lv_at hl 1 rfl) ?_
        refine lv_dup hx hb dX4_takeStepBack_45 rfl ?_
        refine va_get (D := G) (ci := 4) (v := .int (eI h 1 12)) (C := RX4) (T := TX4) (N := 13) hx hb hts iX4 hown hK hP 1 wC_at1 rfl 12 (by decide) (hts _ m_41) (fun _ h9 => h9) rfl dX4_takeStepBack_46 ?_
        refine lv_iconst (v := 1) hx hb dX4_takeStepBack_49 (by decide) ?_
        refine lv_isub hx hb dX4_takeStepBack_50 ?_
        refine va_put (D := G) (ci := 4) (v := .int ((eI h 1 12) - 1)) (ty := .int) (C := RX4) (T := TX4) (N := 13) hx hb hts iX4 tyX4 tyX4_ok nmX4 hown hK hP hD hS 1 wC_at1 rfl 12 (by decide) (hts _ m_41) (fun _ h9 => h9) rfl (tyX4_ok 12 (by decide)) rfl rfl (Nat.le_of_ble_eq_true rfl) dX4_takeStepBack_51 (fun H locs hP hD hS => ?_)
        rw [wC_sI1_12] at hP hD
        refine lv_bipush (v := 90) hx hb dX4_takeStepBack_54 (by decide) ?_
        refine lv_iconst (v := 0) hx hb dX4_takeStepBack_56 (by decide) ?_
        refine lv_aload_n hx hb dX4_takeStepBack_57 rfl (lv_at hl 1 rfl) ?_
        refine va_get (D := G) (ci := 4) (v := .ref (q 4)) (C := RX4) (T := TX4) (N := 13) hx hb hts iX4 hown hK hP 1 wC_at1 rfl 2 (by decide) (hts _ m_43) (fun _ h9 => h9) rfl dX4_takeStepBack_58 ?_
        refine lv_iload_n hx hb dX4_takeStepBack_61 rfl (lv_at hl 0 rfl) ?_
        refine lv_bipush (v := 90) hx hb dX4_takeStepBack_62 (by decide) ?_
        refine lv_iadd hx hb dX4_takeStepBack_64 ?_
        obtain ⟨hi_4, hF⟩ := ob_if hF
        refine va_iald (D := G) hx hb hK hP 4 0 wC_at4 rfl (vp_in_iff.mpr hi_4) dX4_takeStepBack_65 ?_
        refine gw_topi (y := ((eA h 1 2) ((((((((eI h 1 11) + (eI h 1 12)) - 1) - (((eI h 1 11) + (eI h 1 12)) - 1) / 20 * 20) * 94) + 90)).toNatClampNeg))) rfl ?_
        refine lv_bipush (v := 9) hx hb dX4_takeStepBack_66 (by decide) ?_
        refine lv_imul hx hb dX4_takeStepBack_68 ?_
        refine va_mmax hx hb (by rw [hml]; exact hl.1.symm) hown (hts _ m_48) (hts _ m_49) (hts _ m_50) (hts _ m_51) (Nat.le_of_ble_eq_true rfl) (Nat.le_of_ble_eq_true rfl) (Nat.le_of_ble_eq_true rfl) (Nat.le_of_ble_eq_true rfl) dX4_takeStepBack_69 ?_
        refine va_mmin hx hb (by rw [hml]; exact hl.1.symm) hown (hts _ m_52) (hts _ m_53) (hts _ m_50) (hts _ m_54) (Nat.le_of_ble_eq_true rfl) (Nat.le_of_ble_eq_true rfl) (Nat.le_of_ble_eq_true rfl) (Nat.le_of_ble_eq_true rfl) dX4_takeStepBack_72 ?_
        refine lv_istore_n (lv' := [(2, .int (if (if 0 < (((eA h 1 2) ((((((((eI h 1 11) + (eI h 1 12)) - 1) - (((eI h 1 11) + (eI h 1 12)) - 1) / 20 * 20) * 94) + 90)).toNatClampNeg)) * 9) then (((eA h 1 2) ((((((((eI h 1 11) + (eI h 1 12)) - 1) - (((eI h 1 11) + (eI h 1 12)) - 1) / 20 * 20) * 94) + 90)).toNatClampNeg)) * 9) else 0) < 90 then (if 0 < (((eA h 1 2) ((((((((eI h 1 11) + (eI h 1 12)) - 1) - (((eI h 1 11) + (eI h 1 12)) - 1) / 20 * 20) * 94) + 90)).toNatClampNeg)) * 9) then (((eA h 1 2) ((((((((eI h 1 11) + (eI h 1 12)) - 1) - (((eI h 1 11) + (eI h 1 12)) - 1) / 20 * 20) * 94) + 90)).toNatClampNeg)) * 9) else 0) else 90)), (1, .int (((((eI h 1 11) + (eI h 1 12)) - 1) - (((eI h 1 11) + (eI h 1 12)) - 1) / 20 * 20) * 94)), (0, .ref (q 1))]) hx hb dX4_takeStepBack_75 rfl hl (by decide) rfl (fun ls hl => ?_)
        refine lv_aload_n hx hb dX4_takeStepBack_76 rfl (lv_at hl 2 rfl) ?_
        refine va_get (D := G) (ci := 4) (v := .ref (q 4)) (C := RX4) (T := TX4) (N := 13) hx hb hts iX4 hown hK hP 1 wC_at1 rfl 2 (by decide) (hts _ m_43) (fun _ h9 => h9) rfl dX4_takeStepBack_77 ?_
        refine lv_iload_n hx hb dX4_takeStepBack_80 rfl (lv_at hl 1 rfl) ?_
        refine lv_aload_n hx hb dX4_takeStepBack_81 rfl (lv_at hl 2 rfl) ?_
        refine va_get (D := G) (ci := 4) (v := .ref (q 2)) (C := RX4) (T := TX4) (N := 13) hx hb hts iX4 hown hK hP 1 wC_at1 rfl 0 (by decide) (hts _ m_2) (fun _ h9 => h9) rfl dX4_takeStepBack_82 ?_
        refine lv_iconst (v := 0) hx hb dX4_takeStepBack_85 (by decide) ?_
        refine lv_iload_n hx hb dX4_takeStepBack_86 rfl (lv_at hl 0 rfl) ?_
        obtain ⟨hn_5, hF⟩ := ob_if hF
        obtain ⟨hn_6, hF⟩ := ob_if hF
        obtain ⟨hq_7, hF⟩ := ob_if hF
        obtain ⟨hq_8, hF⟩ := ob_if hF
        refine va_copyi (D := G) hx hb (by rw [hml]; exact hl.1.symm) hown (hts _ m_44) (hts _ m_45) (hts _ m_46) (hts _ m_47) hK hP hD hS 4 2 0 0 wC_at4 wC_at2 rfl rfl rfl hn_5 (by decide) hn_6 hq_7 hq_8 (fun _ _ => rfl) (Nat.le_of_ble_eq_true rfl) (Nat.le_of_ble_eq_true rfl) dX4_takeStepBack_87 (fun H locs hP hD hS => ?_)
        rw [wC_sA2] at hP hD
        have hP : va_P G vwCl (wC q cI cJ cZ cB cT (sA (sI h 1 12 ((eI h 1 12) - 1)) 1 0 (va_cpy (eA h 1 2) (eA h 1 0) (((((((eI h 1 11) + (eI h 1 12)) - 1) - (((eI h 1 11) + (eI h 1 12)) - 1) / 20 * 20) * 94)).toNatClampNeg) 0 (((if (if 0 < (((eA h 1 2) ((((((((eI h 1 11) + (eI h 1 12)) - 1) - (((eI h 1 11) + (eI h 1 12)) - 1) / 20 * 20) * 94) + 90)).toNatClampNeg)) * 9) then (((eA h 1 2) ((((((((eI h 1 11) + (eI h 1 12)) - 1) - (((eI h 1 11) + (eI h 1 12)) - 1) / 20 * 20) * 94) + 90)).toNatClampNeg)) * 9) else 0) < 90 then (if 0 < (((eA h 1 2) ((((((((eI h 1 11) + (eI h 1 12)) - 1) - (((eI h 1 11) + (eI h 1 12)) - 1) / 20 * 20) * 94) + 90)).toNatClampNeg)) * 9) then (((eA h 1 2) ((((((((eI h 1 11) + (eI h 1 12)) - 1) - (((eI h 1 11) + (eI h 1 12)) - 1) / 20 * 20) * 94) + 90)).toNatClampNeg)) * 9) else 0) else 90)).toNatClampNeg)))) H := hP
        have hD : va_D A (wC q cI cJ cZ cB cT (sA (sI h 1 12 ((eI h 1 12) - 1)) 1 0 (va_cpy (eA h 1 2) (eA h 1 0) (((((((eI h 1 11) + (eI h 1 12)) - 1) - (((eI h 1 11) + (eI h 1 12)) - 1) / 20 * 20) * 94)).toNatClampNeg) 0 (((if (if 0 < (((eA h 1 2) ((((((((eI h 1 11) + (eI h 1 12)) - 1) - (((eI h 1 11) + (eI h 1 12)) - 1) / 20 * 20) * 94) + 90)).toNatClampNeg)) * 9) then (((eA h 1 2) ((((((((eI h 1 11) + (eI h 1 12)) - 1) - (((eI h 1 11) + (eI h 1 12)) - 1) / 20 * 20) * 94) + 90)).toNatClampNeg)) * 9) else 0) < 90 then (if 0 < (((eA h 1 2) ((((((((eI h 1 11) + (eI h 1 12)) - 1) - (((eI h 1 11) + (eI h 1 12)) - 1) / 20 * 20) * 94) + 90)).toNatClampNeg)) * 9) then (((eA h 1 2) ((((((((eI h 1 11) + (eI h 1 12)) - 1) - (((eI h 1 11) + (eI h 1 12)) - 1) / 20 * 20) * 94) + 90)).toNatClampNeg)) * 9) else 0) else 90)).toNatClampNeg)))) := hD
        refine lv_aload_n hx hb dX4_takeStepBack_90 rfl (lv_at hl 2 rfl) ?_
        refine lv_aload_n hx hb dX4_takeStepBack_91 rfl (lv_at hl 2 rfl) ?_
        refine va_get (D := G) (ci := 4) (v := .ref (q 4)) (C := RX4) (T := TX4) (N := 13) hx hb hts iX4 hown hK hP 1 wC_at1 rfl 2 (by decide) (hts _ m_43) (fun _ h9 => h9) rfl dX4_takeStepBack_92 ?_
        refine lv_iload_n hx hb dX4_takeStepBack_95 rfl (lv_at hl 1 rfl) ?_
        refine lv_bipush (v := 90) hx hb dX4_takeStepBack_96 (by decide) ?_
        refine lv_iadd hx hb dX4_takeStepBack_98 ?_
        refine lv_iconst (v := 1) hx hb dX4_takeStepBack_99 (by decide) ?_
        refine lv_iadd hx hb dX4_takeStepBack_100 ?_
        obtain ⟨hi_9, hF⟩ := ob_if hF
        refine va_iald (D := G) hx hb hK hP 4 0 wC_at4 rfl (vp_in_iff.mpr hi_9) dX4_takeStepBack_101 ?_
        refine gw_topi (y := ((eA h 1 2) (((((((((eI h 1 11) + (eI h 1 12)) - 1) - (((eI h 1 11) + (eI h 1 12)) - 1) / 20 * 20) * 94) + 90) + 1)).toNatClampNeg))) rfl ?_
        refine va_put (D := G) (ci := 4) (v := .int ((eA h 1 2) (((((((((eI h 1 11) + (eI h 1 12)) - 1) - (((eI h 1 11) + (eI h 1 12)) - 1) / 20 * 20) * 94) + 90) + 1)).toNatClampNeg))) (ty := .int) (C := RX4) (T := TX4) (N := 13) hx hb hts iX4 tyX4 tyX4_ok nmX4 hown hK hP hD hS 1 wC_at1 rfl 5 (by decide) (hts _ m_31) (fun _ h9 => h9) rfl (tyX4_ok 5 (by decide)) rfl rfl (Nat.le_of_ble_eq_true rfl) dX4_takeStepBack_102 (fun H locs hP hD hS => ?_)
        rw [wC_sI1_5] at hP hD
        refine lv_aload_n hx hb dX4_takeStepBack_105 rfl (lv_at hl 2 rfl) ?_
        refine lv_aload_n hx hb dX4_takeStepBack_106 rfl (lv_at hl 2 rfl) ?_
        refine va_get (D := G) (ci := 4) (v := .ref (q 4)) (C := RX4) (T := TX4) (N := 13) hx hb hts iX4 hown hK hP 1 wC_at1 rfl 2 (by decide) (hts _ m_43) (fun _ h9 => h9) rfl dX4_takeStepBack_107 ?_
        refine lv_iload_n hx hb dX4_takeStepBack_110 rfl (lv_at hl 1 rfl) ?_
        refine lv_bipush (v := 90) hx hb dX4_takeStepBack_111 (by decide) ?_
        refine lv_iadd hx hb dX4_takeStepBack_113 ?_
        refine lv_iconst (v := 2) hx hb dX4_takeStepBack_114 (by decide) ?_
        refine lv_iadd hx hb dX4_takeStepBack_115 ?_
        obtain ⟨hi_10, hF⟩ := ob_if hF
        refine va_iald (D := G) hx hb hK hP 4 0 wC_at4 rfl (vp_in_iff.mpr hi_10) dX4_takeStepBack_116 ?_
        refine gw_topi (y := ((eA h 1 2) (((((((((eI h 1 11) + (eI h 1 12)) - 1) - (((eI h 1 11) + (eI h 1 12)) - 1) / 20 * 20) * 94) + 90) + 2)).toNatClampNeg))) rfl ?_
        refine va_put (D := G) (ci := 4) (v := .int ((eA h 1 2) (((((((((eI h 1 11) + (eI h 1 12)) - 1) - (((eI h 1 11) + (eI h 1 12)) - 1) / 20 * 20) * 94) + 90) + 2)).toNatClampNeg))) (ty := .int) (C := RX4) (T := TX4) (N := 13) hx hb hts iX4 tyX4 tyX4_ok nmX4 hown hK hP hD hS 1 wC_at1 rfl 7 (by decide) (hts _ m_21) (fun _ h9 => h9) rfl (tyX4_ok 7 (by decide)) rfl rfl (Nat.le_of_ble_eq_true rfl) dX4_takeStepBack_117 (fun H locs hP hD hS => ?_)
        rw [wC_sI1_7] at hP hD
        refine lv_aload_n hx hb dX4_takeStepBack_120 rfl (lv_at hl 2 rfl) ?_
        refine lv_aload_n hx hb dX4_takeStepBack_121 rfl (lv_at hl 2 rfl) ?_
        refine va_get (D := G) (ci := 4) (v := .ref (q 4)) (C := RX4) (T := TX4) (N := 13) hx hb hts iX4 hown hK hP 1 wC_at1 rfl 2 (by decide) (hts _ m_43) (fun _ h9 => h9) rfl dX4_takeStepBack_122 ?_
        refine lv_iload_n hx hb dX4_takeStepBack_125 rfl (lv_at hl 1 rfl) ?_
        refine lv_bipush (v := 90) hx hb dX4_takeStepBack_126 (by decide) ?_
        refine lv_iadd hx hb dX4_takeStepBack_128 ?_
        refine lv_iconst (v := 3) hx hb dX4_takeStepBack_129 (by decide) ?_
        refine lv_iadd hx hb dX4_takeStepBack_130 ?_
        obtain ⟨hi_11, hF⟩ := ob_if hF
        refine va_iald (D := G) hx hb hK hP 4 0 wC_at4 rfl (vp_in_iff.mpr hi_11) dX4_takeStepBack_131 ?_
        refine gw_topi (y := ((eA h 1 2) (((((((((eI h 1 11) + (eI h 1 12)) - 1) - (((eI h 1 11) + (eI h 1 12)) - 1) / 20 * 20) * 94) + 90) + 3)).toNatClampNeg))) rfl ?_
        refine va_put (D := G) (ci := 4) (v := .int ((eA h 1 2) (((((((((eI h 1 11) + (eI h 1 12)) - 1) - (((eI h 1 11) + (eI h 1 12)) - 1) / 20 * 20) * 94) + 90) + 3)).toNatClampNeg))) (ty := .int) (C := RX4) (T := TX4) (N := 13) hx hb hts iX4 tyX4 tyX4_ok nmX4 hown hK hP hD hS 1 wC_at1 rfl 8 (by decide) (hts _ m_40) (fun _ h9 => h9) rfl (tyX4_ok 8 (by decide)) rfl rfl (Nat.le_of_ble_eq_true rfl) dX4_takeStepBack_132 (fun H locs hP hD hS => ?_)
        rw [wC_sI1_8] at hP hD
        refine lv_iconst (v := 1) hx hb dX4_takeStepBack_135 (by decide) ?_
        obtain ⟨rfl, rfl⟩ := ob_pair hF
        exact gw_zret () hx hb hr hlocks rfl hP hD hS rfl dX4_takeStepBack_136
      · have hF := ob_neg c_3 hF
        exact hJ_42 h hF H _ ls hP hD hS (lv_sub hl [] rfl)
def f_X4_copyFrom_i (h : HS) : Option HS := (some (sI (sI (sI (sI (sI (sI (sI (sI (sI (sI (sA (sA (sA h 2 0 (va_cpy (eA h 1 0) (eA h 2 0) 0 0 90)) 2 1 (va_cpy (eA h 1 1) (eA h 2 1) 0 0 12)) 2 2 (va_cpy (eA h 1 2) (eA h 2 2) 0 0 1880)) 2 3 (eI h 1 3)) 2 4 (eI h 1 4)) 2 5 (eI h 1 5)) 2 6 (eI h 1 6)) 2 7 (eI h 1 7)) 2 8 (eI h 1 8)) 2 9 (eI h 1 9)) 2 10 (eI h 1 10)) 2 11 (eI h 1 11)) 2 12 (eI h 1 12)))
set_option maxHeartbeats 4000000 in
set_option maxRecDepth 100000 in
theorem c_X4_copyFrom_i (l : Launch) (G : va_G) (cI cJ cZ cB cT : ClassId) (q : Nat → Nat) (h : HS)  (hh : HS) (hF : f_X4_copyFrom_i h = some hh) : gMv l yX4_copyFrom (gws yX4_copyFrom cX4_copyFrom 2 none) 1 G (gT cI cJ cZ cB cT) [.ref (q 5), .ref (q 1)] (wC q cI cJ cZ cB cT h) (fun (_ : Unit) => True) (fun (_ : Unit) => (wC q cI cJ cZ cB cT hh)) := by
  intro sz
  refine gM_start (y := yX4_copyFrom) (av := [.ref (q 5), .ref (q 1)]) (ws := (wC q cI cJ cZ cB cT h)) (Qf := fun A => va_Qv (fun (_ : Unit) => True) (gB G (fun (_ : Unit) => (wC q cI cJ cZ cB cT hh)) A) A) (cc := cX4_copyFrom) (maxL := 2) (ret := none) (by decide) (Nat.le_of_ble_eq_true rfl) ?_
  intro p e s m args below meth c A ls H hx hb hr hts hown hin hlocks hml hP hK hD hA hS hl hE
  have hl : lv_has ls 2 [(0, .ref (q 5)), (1, .ref (q 1))] := hl
  unfold f_X4_copyFrom_i at hF
  refine lv_aload_n hx hb dX4_copyFrom_0 rfl (lv_at hl 1 rfl) ?_
  refine va_get (D := G) (ci := 4) (v := .ref (q 2)) (C := RX4) (T := TX4) (N := 13) hx hb hts iX4 hown hK hP 1 wC_at1 rfl 0 (by decide) (hts _ m_2) (fun _ h9 => h9) rfl dX4_copyFrom_1 ?_
  refine lv_iconst (v := 0) hx hb dX4_copyFrom_4 (by decide) ?_
  refine lv_aload_n hx hb dX4_copyFrom_5 rfl (lv_at hl 0 rfl) ?_
  refine va_get (D := G) (ci := 4) (v := .ref (q 6)) (C := RX4) (T := TX4) (N := 13) hx hb hts iX4 hown hK hP 5 wC_at5 rfl 0 (by decide) (hts _ m_2) (fun _ h9 => h9) rfl dX4_copyFrom_6 ?_
  refine lv_iconst (v := 0) hx hb dX4_copyFrom_9 (by decide) ?_
  refine lv_aload_n hx hb dX4_copyFrom_10 rfl (lv_at hl 0 rfl) ?_
  refine va_get (D := G) (ci := 4) (v := .ref (q 6)) (C := RX4) (T := TX4) (N := 13) hx hb hts iX4 hown hK hP 5 wC_at5 rfl 0 (by decide) (hts _ m_2) (fun _ h9 => h9) rfl dX4_copyFrom_11 ?_
  refine va_alen (D := G) hx hb hK hP 6 0 wC_at6 rfl (v := 90) rfl dX4_copyFrom_14 ?_
  refine va_copyi (D := G) hx hb (by rw [hml]; exact hl.1.symm) hown (hts _ m_44) (hts _ m_45) (hts _ m_46) (hts _ m_47) hK hP hD hS 2 6 0 0 wC_at2 wC_at6 rfl rfl rfl (by decide) (by decide) (by decide) (by decide) (by decide) (fun _ _ => rfl) (Nat.le_of_ble_eq_true rfl) (Nat.le_of_ble_eq_true rfl) dX4_copyFrom_15 (fun H locs hP hD hS => ?_)
  rw [wC_sA6] at hP hD
  have hP : va_P G vwCl (wC q cI cJ cZ cB cT (sA h 2 0 (va_cpy (eA h 1 0) (eA h 2 0) 0 0 90))) H := hP
  have hD : va_D A (wC q cI cJ cZ cB cT (sA h 2 0 (va_cpy (eA h 1 0) (eA h 2 0) 0 0 90))) := hD
  refine lv_aload_n hx hb dX4_copyFrom_18 rfl (lv_at hl 1 rfl) ?_
  refine va_get (D := G) (ci := 4) (v := .ref (q 3)) (C := RX4) (T := TX4) (N := 13) hx hb hts iX4 hown hK hP 1 wC_at1 rfl 1 (by decide) (hts _ m_8) (fun _ h9 => h9) rfl dX4_copyFrom_19 ?_
  refine lv_iconst (v := 0) hx hb dX4_copyFrom_22 (by decide) ?_
  refine lv_aload_n hx hb dX4_copyFrom_23 rfl (lv_at hl 0 rfl) ?_
  refine va_get (D := G) (ci := 4) (v := .ref (q 7)) (C := RX4) (T := TX4) (N := 13) hx hb hts iX4 hown hK hP 5 wC_at5 rfl 1 (by decide) (hts _ m_8) (fun _ h9 => h9) rfl dX4_copyFrom_24 ?_
  refine lv_iconst (v := 0) hx hb dX4_copyFrom_27 (by decide) ?_
  refine lv_aload_n hx hb dX4_copyFrom_28 rfl (lv_at hl 0 rfl) ?_
  refine va_get (D := G) (ci := 4) (v := .ref (q 7)) (C := RX4) (T := TX4) (N := 13) hx hb hts iX4 hown hK hP 5 wC_at5 rfl 1 (by decide) (hts _ m_8) (fun _ h9 => h9) rfl dX4_copyFrom_29 ?_
  refine va_alen (D := G) hx hb hK hP 7 0 wC_at7 rfl (v := 12) rfl dX4_copyFrom_32 ?_
  refine va_copyi (D := G) hx hb (by rw [hml]; exact hl.1.symm) hown (hts _ m_44) (hts _ m_45) (hts _ m_46) (hts _ m_47) hK hP hD hS 3 7 0 0 wC_at3 wC_at7 rfl rfl rfl (by decide) (by decide) (by decide) (by decide) (by decide) (fun _ _ => rfl) (Nat.le_of_ble_eq_true rfl) (Nat.le_of_ble_eq_true rfl) dX4_copyFrom_33 (fun H locs hP hD hS => ?_)
  rw [wC_sA7] at hP hD
  have hP : va_P G vwCl (wC q cI cJ cZ cB cT (sA (sA h 2 0 (va_cpy (eA h 1 0) (eA h 2 0) 0 0 90)) 2 1 (va_cpy (eA h 1 1) (eA h 2 1) 0 0 12))) H := hP
  have hD : va_D A (wC q cI cJ cZ cB cT (sA (sA h 2 0 (va_cpy (eA h 1 0) (eA h 2 0) 0 0 90)) 2 1 (va_cpy (eA h 1 1) (eA h 2 1) 0 0 12))) := hD
  refine lv_aload_n hx hb dX4_copyFrom_36 rfl (lv_at hl 1 rfl) ?_
  refine va_get (D := G) (ci := 4) (v := .ref (q 4)) (C := RX4) (T := TX4) (N := 13) hx hb hts iX4 hown hK hP 1 wC_at1 rfl 2 (by decide) (hts _ m_43) (fun _ h9 => h9) rfl dX4_copyFrom_37 ?_
  refine lv_iconst (v := 0) hx hb dX4_copyFrom_40 (by decide) ?_
  refine lv_aload_n hx hb dX4_copyFrom_41 rfl (lv_at hl 0 rfl) ?_
  refine va_get (D := G) (ci := 4) (v := .ref (q 8)) (C := RX4) (T := TX4) (N := 13) hx hb hts iX4 hown hK hP 5 wC_at5 rfl 2 (by decide) (hts _ m_43) (fun _ h9 => h9) rfl dX4_copyFrom_42 ?_
  refine lv_iconst (v := 0) hx hb dX4_copyFrom_45 (by decide) ?_
  refine lv_aload_n hx hb dX4_copyFrom_46 rfl (lv_at hl 0 rfl) ?_
  refine va_get (D := G) (ci := 4) (v := .ref (q 8)) (C := RX4) (T := TX4) (N := 13) hx hb hts iX4 hown hK hP 5 wC_at5 rfl 2 (by decide) (hts _ m_43) (fun _ h9 => h9) rfl dX4_copyFrom_47 ?_
  refine va_alen (D := G) hx hb hK hP 8 0 wC_at8 rfl (v := 1880) rfl dX4_copyFrom_50 ?_
  refine va_copyi (D := G) hx hb (by rw [hml]; exact hl.1.symm) hown (hts _ m_44) (hts _ m_45) (hts _ m_46) (hts _ m_47) hK hP hD hS 4 8 0 0 wC_at4 wC_at8 rfl rfl rfl (by decide) (by decide) (by decide) (by decide) (by decide) (fun _ _ => rfl) (Nat.le_of_ble_eq_true rfl) (Nat.le_of_ble_eq_true rfl) dX4_copyFrom_51 (fun H locs hP hD hS => ?_)
  rw [wC_sA8] at hP hD
  have hP : va_P G vwCl (wC q cI cJ cZ cB cT (sA (sA (sA h 2 0 (va_cpy (eA h 1 0) (eA h 2 0) 0 0 90)) 2 1 (va_cpy (eA h 1 1) (eA h 2 1) 0 0 12)) 2 2 (va_cpy (eA h 1 2) (eA h 2 2) 0 0 1880))) H := hP
  have hD : va_D A (wC q cI cJ cZ cB cT (sA (sA (sA h 2 0 (va_cpy (eA h 1 0) (eA h 2 0) 0 0 90)) 2 1 (va_cpy (eA h 1 1) (eA h 2 1) 0 0 12)) 2 2 (va_cpy (eA h 1 2) (eA h 2 2) 0 0 1880))) := hD
  refine lv_aload_n hx hb dX4_copyFrom_54 rfl (lv_at hl 0 rfl) ?_
  refine lv_aload_n hx hb dX4_copyFrom_55 rfl (lv_at hl 1 rfl) ?_
  refine va_get (D := G) (ci := 4) (v := .int (eI h 1 3)) (C := RX4) (T := TX4) (N := 13) hx hb hts iX4 hown hK hP 1 wC_at1 rfl 3 (by decide) (hts _ m_0) (fun _ h9 => h9) rfl dX4_copyFrom_56 ?_
  refine va_put (D := G) (ci := 4) (v := .int (eI h 1 3)) (ty := .int) (C := RX4) (T := TX4) (N := 13) hx hb hts iX4 tyX4 tyX4_ok nmX4 hown hK hP hD hS 5 wC_at5 rfl 3 (by decide) (hts _ m_0) (fun _ h9 => h9) rfl (tyX4_ok 3 (by decide)) rfl rfl (Nat.le_of_ble_eq_true rfl) dX4_copyFrom_59 (fun H locs hP hD hS => ?_)
  rw [wC_sI5_3] at hP hD
  refine lv_aload_n hx hb dX4_copyFrom_62 rfl (lv_at hl 0 rfl) ?_
  refine lv_aload_n hx hb dX4_copyFrom_63 rfl (lv_at hl 1 rfl) ?_
  refine va_get (D := G) (ci := 4) (v := .int (eI h 1 4)) (C := RX4) (T := TX4) (N := 13) hx hb hts iX4 hown hK hP 1 wC_at1 rfl 4 (by decide) (hts _ m_1) (fun _ h9 => h9) rfl dX4_copyFrom_64 ?_
  refine va_put (D := G) (ci := 4) (v := .int (eI h 1 4)) (ty := .int) (C := RX4) (T := TX4) (N := 13) hx hb hts iX4 tyX4 tyX4_ok nmX4 hown hK hP hD hS 5 wC_at5 rfl 4 (by decide) (hts _ m_1) (fun _ h9 => h9) rfl (tyX4_ok 4 (by decide)) rfl rfl (Nat.le_of_ble_eq_true rfl) dX4_copyFrom_67 (fun H locs hP hD hS => ?_)
  rw [wC_sI5_4] at hP hD
  refine lv_aload_n hx hb dX4_copyFrom_70 rfl (lv_at hl 0 rfl) ?_
  refine lv_aload_n hx hb dX4_copyFrom_71 rfl (lv_at hl 1 rfl) ?_
  refine va_get (D := G) (ci := 4) (v := .int (eI h 1 5)) (C := RX4) (T := TX4) (N := 13) hx hb hts iX4 hown hK hP 1 wC_at1 rfl 5 (by decide) (hts _ m_31) (fun _ h9 => h9) rfl dX4_copyFrom_72 ?_
  refine va_put (D := G) (ci := 4) (v := .int (eI h 1 5)) (ty := .int) (C := RX4) (T := TX4) (N := 13) hx hb hts iX4 tyX4 tyX4_ok nmX4 hown hK hP hD hS 5 wC_at5 rfl 5 (by decide) (hts _ m_31) (fun _ h9 => h9) rfl (tyX4_ok 5 (by decide)) rfl rfl (Nat.le_of_ble_eq_true rfl) dX4_copyFrom_75 (fun H locs hP hD hS => ?_)
  rw [wC_sI5_5] at hP hD
  refine lv_aload_n hx hb dX4_copyFrom_78 rfl (lv_at hl 0 rfl) ?_
  refine lv_aload_n hx hb dX4_copyFrom_79 rfl (lv_at hl 1 rfl) ?_
  refine va_get (D := G) (ci := 4) (v := .int (eI h 1 6)) (C := RX4) (T := TX4) (N := 13) hx hb hts iX4 hown hK hP 1 wC_at1 rfl 6 (by decide) (hts _ m_22) (fun _ h9 => h9) rfl dX4_copyFrom_80 ?_
  refine va_put (D := G) (ci := 4) (v := .int (eI h 1 6)) (ty := .int) (C := RX4) (T := TX4) (N := 13) hx hb hts iX4 tyX4 tyX4_ok nmX4 hown hK hP hD hS 5 wC_at5 rfl 6 (by decide) (hts _ m_22) (fun _ h9 => h9) rfl (tyX4_ok 6 (by decide)) rfl rfl (Nat.le_of_ble_eq_true rfl) dX4_copyFrom_83 (fun H locs hP hD hS => ?_)
  rw [wC_sI5_6] at hP hD
  refine lv_aload_n hx hb dX4_copyFrom_86 rfl (lv_at hl 0 rfl) ?_
  refine lv_aload_n hx hb dX4_copyFrom_87 rfl (lv_at hl 1 rfl) ?_
  refine va_get (D := G) (ci := 4) (v := .int (eI h 1 7)) (C := RX4) (T := TX4) (N := 13) hx hb hts iX4 hown hK hP 1 wC_at1 rfl 7 (by decide) (hts _ m_21) (fun _ h9 => h9) rfl dX4_copyFrom_88 ?_
  refine va_put (D := G) (ci := 4) (v := .int (eI h 1 7)) (ty := .int) (C := RX4) (T := TX4) (N := 13) hx hb hts iX4 tyX4 tyX4_ok nmX4 hown hK hP hD hS 5 wC_at5 rfl 7 (by decide) (hts _ m_21) (fun _ h9 => h9) rfl (tyX4_ok 7 (by decide)) rfl rfl (Nat.le_of_ble_eq_true rfl) dX4_copyFrom_91 (fun H locs hP hD hS => ?_)
  rw [wC_sI5_7] at hP hD
  refine lv_aload_n hx hb dX4_copyFrom_94 rfl (lv_at hl 0 rfl) ?_
  refine lv_aload_n hx hb dX4_copyFrom_95 rfl (lv_at hl 1 rfl) ?_
  refine va_get (D := G) (ci := 4) (v := .int (eI h 1 8)) (C := RX4) (T := TX4) (N := 13) hx hb hts iX4 hown hK hP 1 wC_at1 rfl 8 (by decide) (hts _ m_40) (fun _ h9 => h9) rfl dX4_copyFrom_96 ?_
  refine va_put (D := G) (ci := 4) (v := .int (eI h 1 8)) (ty := .int) (C := RX4) (T := TX4) (N := 13) hx hb hts iX4 tyX4 tyX4_ok nmX4 hown hK hP hD hS 5 wC_at5 rfl 8 (by decide) (hts _ m_40) (fun _ h9 => h9) rfl (tyX4_ok 8 (by decide)) rfl rfl (Nat.le_of_ble_eq_true rfl) dX4_copyFrom_99 (fun H locs hP hD hS => ?_)
  rw [wC_sI5_8] at hP hD
  refine lv_aload_n hx hb dX4_copyFrom_102 rfl (lv_at hl 0 rfl) ?_
  refine lv_aload_n hx hb dX4_copyFrom_103 rfl (lv_at hl 1 rfl) ?_
  refine va_get (D := G) (ci := 4) (v := .int (eI h 1 9)) (C := RX4) (T := TX4) (N := 13) hx hb hts iX4 hown hK hP 1 wC_at1 rfl 9 (by decide) (hts _ m_55) (fun _ h9 => h9) rfl dX4_copyFrom_104 ?_
  refine va_put (D := G) (ci := 4) (v := .int (eI h 1 9)) (ty := .int) (C := RX4) (T := TX4) (N := 13) hx hb hts iX4 tyX4 tyX4_ok nmX4 hown hK hP hD hS 5 wC_at5 rfl 9 (by decide) (hts _ m_55) (fun _ h9 => h9) rfl (tyX4_ok 9 (by decide)) rfl rfl (Nat.le_of_ble_eq_true rfl) dX4_copyFrom_107 (fun H locs hP hD hS => ?_)
  rw [wC_sI5_9] at hP hD
  refine lv_aload_n hx hb dX4_copyFrom_110 rfl (lv_at hl 0 rfl) ?_
  refine lv_aload_n hx hb dX4_copyFrom_111 rfl (lv_at hl 1 rfl) ?_
  refine va_get (D := G) (ci := 4) (v := .int (eI h 1 10)) (C := RX4) (T := TX4) (N := 13) hx hb hts iX4 hown hK hP 1 wC_at1 rfl 10 (by decide) (hts _ m_56) (fun _ h9 => h9) rfl dX4_copyFrom_112 ?_
  refine va_put (D := G) (ci := 4) (v := .int (eI h 1 10)) (ty := .int) (C := RX4) (T := TX4) (N := 13) hx hb hts iX4 tyX4 tyX4_ok nmX4 hown hK hP hD hS 5 wC_at5 rfl 10 (by decide) (hts _ m_56) (fun _ h9 => h9) rfl (tyX4_ok 10 (by decide)) rfl rfl (Nat.le_of_ble_eq_true rfl) dX4_copyFrom_115 (fun H locs hP hD hS => ?_)
  rw [wC_sI5_10] at hP hD
  refine lv_aload_n hx hb dX4_copyFrom_118 rfl (lv_at hl 0 rfl) ?_
  refine lv_aload_n hx hb dX4_copyFrom_119 rfl (lv_at hl 1 rfl) ?_
  refine va_get (D := G) (ci := 4) (v := .int (eI h 1 11)) (C := RX4) (T := TX4) (N := 13) hx hb hts iX4 hown hK hP 1 wC_at1 rfl 11 (by decide) (hts _ m_42) (fun _ h9 => h9) rfl dX4_copyFrom_120 ?_
  refine va_put (D := G) (ci := 4) (v := .int (eI h 1 11)) (ty := .int) (C := RX4) (T := TX4) (N := 13) hx hb hts iX4 tyX4 tyX4_ok nmX4 hown hK hP hD hS 5 wC_at5 rfl 11 (by decide) (hts _ m_42) (fun _ h9 => h9) rfl (tyX4_ok 11 (by decide)) rfl rfl (Nat.le_of_ble_eq_true rfl) dX4_copyFrom_123 (fun H locs hP hD hS => ?_)
  rw [wC_sI5_11] at hP hD
  refine lv_aload_n hx hb dX4_copyFrom_126 rfl (lv_at hl 0 rfl) ?_
  refine lv_aload_n hx hb dX4_copyFrom_127 rfl (lv_at hl 1 rfl) ?_
  refine va_get (D := G) (ci := 4) (v := .int (eI h 1 12)) (C := RX4) (T := TX4) (N := 13) hx hb hts iX4 hown hK hP 1 wC_at1 rfl 12 (by decide) (hts _ m_41) (fun _ h9 => h9) rfl dX4_copyFrom_128 ?_
  refine va_put (D := G) (ci := 4) (v := .int (eI h 1 12)) (ty := .int) (C := RX4) (T := TX4) (N := 13) hx hb hts iX4 tyX4 tyX4_ok nmX4 hown hK hP hD hS 5 wC_at5 rfl 12 (by decide) (hts _ m_41) (fun _ h9 => h9) rfl (tyX4_ok 12 (by decide)) rfl rfl (Nat.le_of_ble_eq_true rfl) dX4_copyFrom_131 (fun H locs hP hD hS => ?_)
  rw [wC_sI5_12] at hP hD
  obtain rfl := ob_one hF
  exact gw_vret () hx hb hr hlocks hP hD hS trivial dX4_copyFrom_134
def f_X4_copyFrom_b (h : HS) : Option HS := (some (sI (sI (sI (sI (sI (sI (sI (sI (sI (sI (sA (sA (sA h 1 0 (va_cpy (eA h 2 0) (eA h 1 0) 0 0 90)) 1 1 (va_cpy (eA h 2 1) (eA h 1 1) 0 0 12)) 1 2 (va_cpy (eA h 2 2) (eA h 1 2) 0 0 1880)) 1 3 (eI h 2 3)) 1 4 (eI h 2 4)) 1 5 (eI h 2 5)) 1 6 (eI h 2 6)) 1 7 (eI h 2 7)) 1 8 (eI h 2 8)) 1 9 (eI h 2 9)) 1 10 (eI h 2 10)) 1 11 (eI h 2 11)) 1 12 (eI h 2 12)))
set_option maxHeartbeats 4000000 in
set_option maxRecDepth 100000 in
theorem c_X4_copyFrom_b (l : Launch) (G : va_G) (cI cJ cZ cB cT : ClassId) (q : Nat → Nat) (h : HS)  (hh : HS) (hF : f_X4_copyFrom_b h = some hh) : gMv l yX4_copyFrom (gws yX4_copyFrom cX4_copyFrom 2 none) 1 G (gT cI cJ cZ cB cT) [.ref (q 1), .ref (q 5)] (wC q cI cJ cZ cB cT h) (fun (_ : Unit) => True) (fun (_ : Unit) => (wC q cI cJ cZ cB cT hh)) := by
  intro sz
  refine gM_start (y := yX4_copyFrom) (av := [.ref (q 1), .ref (q 5)]) (ws := (wC q cI cJ cZ cB cT h)) (Qf := fun A => va_Qv (fun (_ : Unit) => True) (gB G (fun (_ : Unit) => (wC q cI cJ cZ cB cT hh)) A) A) (cc := cX4_copyFrom) (maxL := 2) (ret := none) (by decide) (Nat.le_of_ble_eq_true rfl) ?_
  intro p e s m args below meth c A ls H hx hb hr hts hown hin hlocks hml hP hK hD hA hS hl hE
  have hl : lv_has ls 2 [(0, .ref (q 1)), (1, .ref (q 5))] := hl
  unfold f_X4_copyFrom_b at hF
  refine lv_aload_n hx hb dX4_copyFrom_0 rfl (lv_at hl 1 rfl) ?_
  refine va_get (D := G) (ci := 4) (v := .ref (q 6)) (C := RX4) (T := TX4) (N := 13) hx hb hts iX4 hown hK hP 5 wC_at5 rfl 0 (by decide) (hts _ m_2) (fun _ h9 => h9) rfl dX4_copyFrom_1 ?_
  refine lv_iconst (v := 0) hx hb dX4_copyFrom_4 (by decide) ?_
  refine lv_aload_n hx hb dX4_copyFrom_5 rfl (lv_at hl 0 rfl) ?_
  refine va_get (D := G) (ci := 4) (v := .ref (q 2)) (C := RX4) (T := TX4) (N := 13) hx hb hts iX4 hown hK hP 1 wC_at1 rfl 0 (by decide) (hts _ m_2) (fun _ h9 => h9) rfl dX4_copyFrom_6 ?_
  refine lv_iconst (v := 0) hx hb dX4_copyFrom_9 (by decide) ?_
  refine lv_aload_n hx hb dX4_copyFrom_10 rfl (lv_at hl 0 rfl) ?_
  refine va_get (D := G) (ci := 4) (v := .ref (q 2)) (C := RX4) (T := TX4) (N := 13) hx hb hts iX4 hown hK hP 1 wC_at1 rfl 0 (by decide) (hts _ m_2) (fun _ h9 => h9) rfl dX4_copyFrom_11 ?_
  refine va_alen (D := G) hx hb hK hP 2 0 wC_at2 rfl (v := 90) rfl dX4_copyFrom_14 ?_
  refine va_copyi (D := G) hx hb (by rw [hml]; exact hl.1.symm) hown (hts _ m_44) (hts _ m_45) (hts _ m_46) (hts _ m_47) hK hP hD hS 6 2 0 0 wC_at6 wC_at2 rfl rfl rfl (by decide) (by decide) (by decide) (by decide) (by decide) (fun _ _ => rfl) (Nat.le_of_ble_eq_true rfl) (Nat.le_of_ble_eq_true rfl) dX4_copyFrom_15 (fun H locs hP hD hS => ?_)
  rw [wC_sA2] at hP hD
  have hP : va_P G vwCl (wC q cI cJ cZ cB cT (sA h 1 0 (va_cpy (eA h 2 0) (eA h 1 0) 0 0 90))) H := hP
  have hD : va_D A (wC q cI cJ cZ cB cT (sA h 1 0 (va_cpy (eA h 2 0) (eA h 1 0) 0 0 90))) := hD
  refine lv_aload_n hx hb dX4_copyFrom_18 rfl (lv_at hl 1 rfl) ?_
  refine va_get (D := G) (ci := 4) (v := .ref (q 7)) (C := RX4) (T := TX4) (N := 13) hx hb hts iX4 hown hK hP 5 wC_at5 rfl 1 (by decide) (hts _ m_8) (fun _ h9 => h9) rfl dX4_copyFrom_19 ?_
  refine lv_iconst (v := 0) hx hb dX4_copyFrom_22 (by decide) ?_
  refine lv_aload_n hx hb dX4_copyFrom_23 rfl (lv_at hl 0 rfl) ?_
  refine va_get (D := G) (ci := 4) (v := .ref (q 3)) (C := RX4) (T := TX4) (N := 13) hx hb hts iX4 hown hK hP 1 wC_at1 rfl 1 (by decide) (hts _ m_8) (fun _ h9 => h9) rfl dX4_copyFrom_24 ?_
  refine lv_iconst (v := 0) hx hb dX4_copyFrom_27 (by decide) ?_
  refine lv_aload_n hx hb dX4_copyFrom_28 rfl (lv_at hl 0 rfl) ?_
  refine va_get (D := G) (ci := 4) (v := .ref (q 3)) (C := RX4) (T := TX4) (N := 13) hx hb hts iX4 hown hK hP 1 wC_at1 rfl 1 (by decide) (hts _ m_8) (fun _ h9 => h9) rfl dX4_copyFrom_29 ?_
  refine va_alen (D := G) hx hb hK hP 3 0 wC_at3 rfl (v := 12) rfl dX4_copyFrom_32 ?_
  refine va_copyi (D := G) hx hb (by rw [hml]; exact hl.1.symm) hown (hts _ m_44) (hts _ m_45) (hts _ m_46) (hts _ m_47) hK hP hD hS 7 3 0 0 wC_at7 wC_at3 rfl rfl rfl (by decide) (by decide) (by decide) (by decide) (by decide) (fun _ _ => rfl) (Nat.le_of_ble_eq_true rfl) (Nat.le_of_ble_eq_true rfl) dX4_copyFrom_33 (fun H locs hP hD hS => ?_)
  rw [wC_sA3] at hP hD
  have hP : va_P G vwCl (wC q cI cJ cZ cB cT (sA (sA h 1 0 (va_cpy (eA h 2 0) (eA h 1 0) 0 0 90)) 1 1 (va_cpy (eA h 2 1) (eA h 1 1) 0 0 12))) H := hP
  have hD : va_D A (wC q cI cJ cZ cB cT (sA (sA h 1 0 (va_cpy (eA h 2 0) (eA h 1 0) 0 0 90)) 1 1 (va_cpy (eA h 2 1) (eA h 1 1) 0 0 12))) := hD
  refine lv_aload_n hx hb dX4_copyFrom_36 rfl (lv_at hl 1 rfl) ?_
  refine va_get (D := G) (ci := 4) (v := .ref (q 8)) (C := RX4) (T := TX4) (N := 13) hx hb hts iX4 hown hK hP 5 wC_at5 rfl 2 (by decide) (hts _ m_43) (fun _ h9 => h9) rfl dX4_copyFrom_37 ?_
  refine lv_iconst (v := 0) hx hb dX4_copyFrom_40 (by decide) ?_
  refine lv_aload_n hx hb dX4_copyFrom_41 rfl (lv_at hl 0 rfl) ?_
  refine va_get (D := G) (ci := 4) (v := .ref (q 4)) (C := RX4) (T := TX4) (N := 13) hx hb hts iX4 hown hK hP 1 wC_at1 rfl 2 (by decide) (hts _ m_43) (fun _ h9 => h9) rfl dX4_copyFrom_42 ?_
  refine lv_iconst (v := 0) hx hb dX4_copyFrom_45 (by decide) ?_
  refine lv_aload_n hx hb dX4_copyFrom_46 rfl (lv_at hl 0 rfl) ?_
  refine va_get (D := G) (ci := 4) (v := .ref (q 4)) (C := RX4) (T := TX4) (N := 13) hx hb hts iX4 hown hK hP 1 wC_at1 rfl 2 (by decide) (hts _ m_43) (fun _ h9 => h9) rfl dX4_copyFrom_47 ?_
  refine va_alen (D := G) hx hb hK hP 4 0 wC_at4 rfl (v := 1880) rfl dX4_copyFrom_50 ?_
  refine va_copyi (D := G) hx hb (by rw [hml]; exact hl.1.symm) hown (hts _ m_44) (hts _ m_45) (hts _ m_46) (hts _ m_47) hK hP hD hS 8 4 0 0 wC_at8 wC_at4 rfl rfl rfl (by decide) (by decide) (by decide) (by decide) (by decide) (fun _ _ => rfl) (Nat.le_of_ble_eq_true rfl) (Nat.le_of_ble_eq_true rfl) dX4_copyFrom_51 (fun H locs hP hD hS => ?_)
  rw [wC_sA4] at hP hD
  have hP : va_P G vwCl (wC q cI cJ cZ cB cT (sA (sA (sA h 1 0 (va_cpy (eA h 2 0) (eA h 1 0) 0 0 90)) 1 1 (va_cpy (eA h 2 1) (eA h 1 1) 0 0 12)) 1 2 (va_cpy (eA h 2 2) (eA h 1 2) 0 0 1880))) H := hP
  have hD : va_D A (wC q cI cJ cZ cB cT (sA (sA (sA h 1 0 (va_cpy (eA h 2 0) (eA h 1 0) 0 0 90)) 1 1 (va_cpy (eA h 2 1) (eA h 1 1) 0 0 12)) 1 2 (va_cpy (eA h 2 2) (eA h 1 2) 0 0 1880))) := hD
  refine lv_aload_n hx hb dX4_copyFrom_54 rfl (lv_at hl 0 rfl) ?_
  refine lv_aload_n hx hb dX4_copyFrom_55 rfl (lv_at hl 1 rfl) ?_
  refine va_get (D := G) (ci := 4) (v := .int (eI h 2 3)) (C := RX4) (T := TX4) (N := 13) hx hb hts iX4 hown hK hP 5 wC_at5 rfl 3 (by decide) (hts _ m_0) (fun _ h9 => h9) rfl dX4_copyFrom_56 ?_
  refine va_put (D := G) (ci := 4) (v := .int (eI h 2 3)) (ty := .int) (C := RX4) (T := TX4) (N := 13) hx hb hts iX4 tyX4 tyX4_ok nmX4 hown hK hP hD hS 1 wC_at1 rfl 3 (by decide) (hts _ m_0) (fun _ h9 => h9) rfl (tyX4_ok 3 (by decide)) rfl rfl (Nat.le_of_ble_eq_true rfl) dX4_copyFrom_59 (fun H locs hP hD hS => ?_)
  rw [wC_sI1_3] at hP hD
  refine lv_aload_n hx hb dX4_copyFrom_62 rfl (lv_at hl 0 rfl) ?_
  refine lv_aload_n hx hb dX4_copyFrom_63 rfl (lv_at hl 1 rfl) ?_
  refine va_get (D := G) (ci := 4) (v := .int (eI h 2 4)) (C := RX4) (T := TX4) (N := 13) hx hb hts iX4 hown hK hP 5 wC_at5 rfl 4 (by decide) (hts _ m_1) (fun _ h9 => h9) rfl dX4_copyFrom_64 ?_
  refine va_put (D := G) (ci := 4) (v := .int (eI h 2 4)) (ty := .int) (C := RX4) (T := TX4) (N := 13) hx hb hts iX4 tyX4 tyX4_ok nmX4 hown hK hP hD hS 1 wC_at1 rfl 4 (by decide) (hts _ m_1) (fun _ h9 => h9) rfl (tyX4_ok 4 (by decide)) rfl rfl (Nat.le_of_ble_eq_true rfl) dX4_copyFrom_67 (fun H locs hP hD hS => ?_)
  rw [wC_sI1_4] at hP hD
  refine lv_aload_n hx hb dX4_copyFrom_70 rfl (lv_at hl 0 rfl) ?_
  refine lv_aload_n hx hb dX4_copyFrom_71 rfl (lv_at hl 1 rfl) ?_
  refine va_get (D := G) (ci := 4) (v := .int (eI h 2 5)) (C := RX4) (T := TX4) (N := 13) hx hb hts iX4 hown hK hP 5 wC_at5 rfl 5 (by decide) (hts _ m_31) (fun _ h9 => h9) rfl dX4_copyFrom_72 ?_
  refine va_put (D := G) (ci := 4) (v := .int (eI h 2 5)) (ty := .int) (C := RX4) (T := TX4) (N := 13) hx hb hts iX4 tyX4 tyX4_ok nmX4 hown hK hP hD hS 1 wC_at1 rfl 5 (by decide) (hts _ m_31) (fun _ h9 => h9) rfl (tyX4_ok 5 (by decide)) rfl rfl (Nat.le_of_ble_eq_true rfl) dX4_copyFrom_75 (fun H locs hP hD hS => ?_)
  rw [wC_sI1_5] at hP hD
  refine lv_aload_n hx hb dX4_copyFrom_78 rfl (lv_at hl 0 rfl) ?_
  refine lv_aload_n hx hb dX4_copyFrom_79 rfl (lv_at hl 1 rfl) ?_
  refine va_get (D := G) (ci := 4) (v := .int (eI h 2 6)) (C := RX4) (T := TX4) (N := 13) hx hb hts iX4 hown hK hP 5 wC_at5 rfl 6 (by decide) (hts _ m_22) (fun _ h9 => h9) rfl dX4_copyFrom_80 ?_
  refine va_put (D := G) (ci := 4) (v := .int (eI h 2 6)) (ty := .int) (C := RX4) (T := TX4) (N := 13) hx hb hts iX4 tyX4 tyX4_ok nmX4 hown hK hP hD hS 1 wC_at1 rfl 6 (by decide) (hts _ m_22) (fun _ h9 => h9) rfl (tyX4_ok 6 (by decide)) rfl rfl (Nat.le_of_ble_eq_true rfl) dX4_copyFrom_83 (fun H locs hP hD hS => ?_)
  rw [wC_sI1_6] at hP hD
  refine lv_aload_n hx hb dX4_copyFrom_86 rfl (lv_at hl 0 rfl) ?_
  refine lv_aload_n hx hb dX4_copyFrom_87 rfl (lv_at hl 1 rfl) ?_
  refine va_get (D := G) (ci := 4) (v := .int (eI h 2 7)) (C := RX4) (T := TX4) (N := 13) hx hb hts iX4 hown hK hP 5 wC_at5 rfl 7 (by decide) (hts _ m_21) (fun _ h9 => h9) rfl dX4_copyFrom_88 ?_
  refine va_put (D := G) (ci := 4) (v := .int (eI h 2 7)) (ty := .int) (C := RX4) (T := TX4) (N := 13) hx hb hts iX4 tyX4 tyX4_ok nmX4 hown hK hP hD hS 1 wC_at1 rfl 7 (by decide) (hts _ m_21) (fun _ h9 => h9) rfl (tyX4_ok 7 (by decide)) rfl rfl (Nat.le_of_ble_eq_true rfl) dX4_copyFrom_91 (fun H locs hP hD hS => ?_)
  rw [wC_sI1_7] at hP hD
  refine lv_aload_n hx hb dX4_copyFrom_94 rfl (lv_at hl 0 rfl) ?_
  refine lv_aload_n hx hb dX4_copyFrom_95 rfl (lv_at hl 1 rfl) ?_
  refine va_get (D := G) (ci := 4) (v := .int (eI h 2 8)) (C := RX4) (T := TX4) (N := 13) hx hb hts iX4 hown hK hP 5 wC_at5 rfl 8 (by decide) (hts _ m_40) (fun _ h9 => h9) rfl dX4_copyFrom_96 ?_
  refine va_put (D := G) (ci := 4) (v := .int (eI h 2 8)) (ty := .int) (C := RX4) (T := TX4) (N := 13) hx hb hts iX4 tyX4 tyX4_ok nmX4 hown hK hP hD hS 1 wC_at1 rfl 8 (by decide) (hts _ m_40) (fun _ h9 => h9) rfl (tyX4_ok 8 (by decide)) rfl rfl (Nat.le_of_ble_eq_true rfl) dX4_copyFrom_99 (fun H locs hP hD hS => ?_)
  rw [wC_sI1_8] at hP hD
  refine lv_aload_n hx hb dX4_copyFrom_102 rfl (lv_at hl 0 rfl) ?_
  refine lv_aload_n hx hb dX4_copyFrom_103 rfl (lv_at hl 1 rfl) ?_
  refine va_get (D := G) (ci := 4) (v := .int (eI h 2 9)) (C := RX4) (T := TX4) (N := 13) hx hb hts iX4 hown hK hP 5 wC_at5 rfl 9 (by decide) (hts _ m_55) (fun _ h9 => h9) rfl dX4_copyFrom_104 ?_
  refine va_put (D := G) (ci := 4) (v := .int (eI h 2 9)) (ty := .int) (C := RX4) (T := TX4) (N := 13) hx hb hts iX4 tyX4 tyX4_ok nmX4 hown hK hP hD hS 1 wC_at1 rfl 9 (by decide) (hts _ m_55) (fun _ h9 => h9) rfl (tyX4_ok 9 (by decide)) rfl rfl (Nat.le_of_ble_eq_true rfl) dX4_copyFrom_107 (fun H locs hP hD hS => ?_)
  rw [wC_sI1_9] at hP hD
  refine lv_aload_n hx hb dX4_copyFrom_110 rfl (lv_at hl 0 rfl) ?_
  refine lv_aload_n hx hb dX4_copyFrom_111 rfl (lv_at hl 1 rfl) ?_
  refine va_get (D := G) (ci := 4) (v := .int (eI h 2 10)) (C := RX4) (T := TX4) (N := 13) hx hb hts iX4 hown hK hP 5 wC_at5 rfl 10 (by decide) (hts _ m_56) (fun _ h9 => h9) rfl dX4_copyFrom_112 ?_
  refine va_put (D := G) (ci := 4) (v := .int (eI h 2 10)) (ty := .int) (C := RX4) (T := TX4) (N := 13) hx hb hts iX4 tyX4 tyX4_ok nmX4 hown hK hP hD hS 1 wC_at1 rfl 10 (by decide) (hts _ m_56) (fun _ h9 => h9) rfl (tyX4_ok 10 (by decide)) rfl rfl (Nat.le_of_ble_eq_true rfl) dX4_copyFrom_115 (fun H locs hP hD hS => ?_)
  rw [wC_sI1_10] at hP hD
  refine lv_aload_n hx hb dX4_copyFrom_118 rfl (lv_at hl 0 rfl) ?_
  refine lv_aload_n hx hb dX4_copyFrom_119 rfl (lv_at hl 1 rfl) ?_
  refine va_get (D := G) (ci := 4) (v := .int (eI h 2 11)) (C := RX4) (T := TX4) (N := 13) hx hb hts iX4 hown hK hP 5 wC_at5 rfl 11 (by decide) (hts _ m_42) (fun _ h9 => h9) rfl dX4_copyFrom_120 ?_
  refine va_put (D := G) (ci := 4) (v := .int (eI h 2 11)) (ty := .int) (C := RX4) (T := TX4) (N := 13) hx hb hts iX4 tyX4 tyX4_ok nmX4 hown hK hP hD hS 1 wC_at1 rfl 11 (by decide) (hts _ m_42) (fun _ h9 => h9) rfl (tyX4_ok 11 (by decide)) rfl rfl (Nat.le_of_ble_eq_true rfl) dX4_copyFrom_123 (fun H locs hP hD hS => ?_)
  rw [wC_sI1_11] at hP hD
  refine lv_aload_n hx hb dX4_copyFrom_126 rfl (lv_at hl 0 rfl) ?_
  refine lv_aload_n hx hb dX4_copyFrom_127 rfl (lv_at hl 1 rfl) ?_
  refine va_get (D := G) (ci := 4) (v := .int (eI h 2 12)) (C := RX4) (T := TX4) (N := 13) hx hb hts iX4 hown hK hP 5 wC_at5 rfl 12 (by decide) (hts _ m_41) (fun _ h9 => h9) rfl dX4_copyFrom_128 ?_
  refine va_put (D := G) (ci := 4) (v := .int (eI h 2 12)) (ty := .int) (C := RX4) (T := TX4) (N := 13) hx hb hts iX4 tyX4 tyX4_ok nmX4 hown hK hP hD hS 1 wC_at1 rfl 12 (by decide) (hts _ m_41) (fun _ h9 => h9) rfl (tyX4_ok 12 (by decide)) rfl rfl (Nat.le_of_ble_eq_true rfl) dX4_copyFrom_131 (fun H locs hP hD hS => ?_)
  rw [wC_sI1_12] at hP hD
  obtain rfl := ob_one hF
  exact gw_vret () hx hb hr hlocks hP hD hS trivial dX4_copyFrom_134
