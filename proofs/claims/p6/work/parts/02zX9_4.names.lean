theorem dX9_laysFlock_170 : decode cX9_laysFlock 170 = .ok (.iconst 3, 1) := by decide +kernel
theorem dX9_laysFlock_171 : decode cX9_laysFlock 171 = .ok (.irem, 1) := by decide +kernel
theorem dX9_laysFlock_172 : decode cX9_laysFlock 172 = .ok (.aload_n 0, 1) := by decide +kernel
theorem dX9_laysFlock_173 : decode cX9_laysFlock 173 = .ok (.iload_n 2, 1) := by decide +kernel
theorem dX9_laysFlock_174 : decode cX9_laysFlock 174 = .ok (.iconst 1, 1) := by decide +kernel
theorem dX9_laysFlock_175 : decode cX9_laysFlock 175 = .ok (.invokevirtual 138, 3) := by decide +kernel
theorem dX9_laysFlock_178 : decode cX9_laysFlock 178 = .ok (.invokevirtual 368, 3) := by decide +kernel
theorem dX9_laysFlock_181 : decode cX9_laysFlock 181 = .ok (.bastore, 1) := by decide +kernel
theorem dX9_laysFlock_182 : decode cX9_laysFlock 182 = .ok (.iinc 3 1, 3) := by decide +kernel
theorem dX9_laysFlock_185 : decode cX9_laysFlock 185 = .ok (.goto (-118), 3) := by decide +kernel
theorem dX9_laysFlock_188 : decode cX9_laysFlock 188 = .ok (.iinc 2 1, 3) := by decide +kernel
theorem dX9_laysFlock_191 : decode cX9_laysFlock 191 = .ok (.goto (-184), 3) := by decide +kernel
theorem dX9_laysFlock_194 : decode cX9_laysFlock 194 = .ok (.return_, 1) := by decide +kernel
theorem dX9_asksPlan_0 : decode cX9_asksPlan 0 = .ok (.aload_n 0, 1) := by decide +kernel
theorem dX9_asksPlan_1 : decode cX9_asksPlan 1 = .ok (.iconst 0, 1) := by decide +kernel
theorem dX9_asksPlan_2 : decode cX9_asksPlan 2 = .ok (.iconst 0, 1) := by decide +kernel
theorem dX9_asksPlan_3 : decode cX9_asksPlan 3 = .ok (.invokevirtual 424, 3) := by decide +kernel
theorem dX9_asksPlan_6 : decode cX9_asksPlan 6 = .ok (.lconst 1, 1) := by decide +kernel
theorem dX9_asksPlan_7 : decode cX9_asksPlan 7 = .ok (.lstore_n 3, 1) := by decide +kernel
theorem dX9_asksPlan_8 : decode cX9_asksPlan 8 = .ok (.iconst 0, 1) := by decide +kernel
theorem dX9_asksPlan_9 : decode cX9_asksPlan 9 = .ok (.istore 5, 2) := by decide +kernel
theorem dX9_asksPlan_11 : decode cX9_asksPlan 11 = .ok (.iload 5, 2) := by decide +kernel
theorem dX9_asksPlan_13 : decode cX9_asksPlan 13 = .ok (.iload_n 1, 1) := by decide +kernel
theorem dX9_asksPlan_14 : decode cX9_asksPlan 14 = .ok (.if_icmp .ge 69, 3) := by decide +kernel
theorem dX9_asksPlan_17 : decode cX9_asksPlan 17 = .ok (.bipush 12, 2) := by decide +kernel
theorem dX9_asksPlan_19 : decode cX9_asksPlan 19 = .ok (.aload_n 0, 1) := by decide +kernel
theorem dX9_asksPlan_20 : decode cX9_asksPlan 20 = .ok (.getfield 110, 3) := by decide +kernel
theorem dX9_asksPlan_23 : decode cX9_asksPlan 23 = .ok (.iload 5, 2) := by decide +kernel
theorem dX9_asksPlan_25 : decode cX9_asksPlan 25 = .ok (.iaload, 1) := by decide +kernel
theorem dX9_asksPlan_26 : decode cX9_asksPlan 26 = .ok (.imul, 1) := by decide +kernel
theorem dX9_asksPlan_27 : decode cX9_asksPlan 27 = .ok (.aload_n 0, 1) := by decide +kernel
theorem dX9_asksPlan_28 : decode cX9_asksPlan 28 = .ok (.getfield 113, 3) := by decide +kernel
theorem dX9_asksPlan_31 : decode cX9_asksPlan 31 = .ok (.iload 5, 2) := by decide +kernel
theorem dX9_asksPlan_33 : decode cX9_asksPlan 33 = .ok (.iaload, 1) := by decide +kernel
theorem dX9_asksPlan_34 : decode cX9_asksPlan 34 = .ok (.iadd, 1) := by decide +kernel
theorem dX9_asksPlan_35 : decode cX9_asksPlan 35 = .ok (.istore 6, 2) := by decide +kernel
theorem dX9_asksPlan_37 : decode cX9_asksPlan 37 = .ok (.aload_n 0, 1) := by decide +kernel
theorem dX9_asksPlan_38 : decode cX9_asksPlan 38 = .ok (.aload_n 0, 1) := by decide +kernel
theorem dX9_asksPlan_39 : decode cX9_asksPlan 39 = .ok (.getfield 97, 3) := by decide +kernel
theorem dX9_asksPlan_42 : decode cX9_asksPlan 42 = .ok (.iload 6, 2) := by decide +kernel
theorem dX9_asksPlan_44 : decode cX9_asksPlan 44 = .ok (.iaload, 1) := by decide +kernel
theorem dX9_asksPlan_45 : decode cX9_asksPlan 45 = .ok (.aload_n 0, 1) := by decide +kernel
theorem dX9_asksPlan_46 : decode cX9_asksPlan 46 = .ok (.getfield 100, 3) := by decide +kernel
theorem dX9_asksPlan_49 : decode cX9_asksPlan 49 = .ok (.iload 6, 2) := by decide +kernel
theorem dX9_asksPlan_51 : decode cX9_asksPlan 51 = .ok (.iaload, 1) := by decide +kernel
theorem dX9_asksPlan_52 : decode cX9_asksPlan 52 = .ok (.aload_n 0, 1) := by decide +kernel
theorem dX9_asksPlan_53 : decode cX9_asksPlan 53 = .ok (.getfield 113, 3) := by decide +kernel
theorem dX9_asksPlan_56 : decode cX9_asksPlan 56 = .ok (.iload 5, 2) := by decide +kernel
theorem dX9_asksPlan_58 : decode cX9_asksPlan 58 = .ok (.iaload, 1) := by decide +kernel
theorem dX9_asksPlan_59 : decode cX9_asksPlan 59 = .ok (.iconst 3, 1) := by decide +kernel
theorem dX9_asksPlan_60 : decode cX9_asksPlan 60 = .ok (.irem, 1) := by decide +kernel
theorem dX9_asksPlan_61 : decode cX9_asksPlan 61 = .ok (.aload_n 0, 1) := by decide +kernel
theorem dX9_asksPlan_62 : decode cX9_asksPlan 62 = .ok (.getfield 103, 3) := by decide +kernel
theorem dX9_asksPlan_65 : decode cX9_asksPlan 65 = .ok (.iload 6, 2) := by decide +kernel
theorem dX9_asksPlan_67 : decode cX9_asksPlan 67 = .ok (.baload, 1) := by decide +kernel
theorem dX9_asksPlan_68 : decode cX9_asksPlan 68 = .ok (.invokevirtual 427, 3) := by decide +kernel
theorem dX9_asksPlan_71 : decode cX9_asksPlan 71 = .ok (.lload_n 3, 1) := by decide +kernel
theorem dX9_asksPlan_72 : decode cX9_asksPlan 72 = .ok (.ldc2_w 431, 3) := by decide +kernel
theorem dX9_asksPlan_75 : decode cX9_asksPlan 75 = .ok (.lmul, 1) := by decide +kernel
theorem dX9_asksPlan_76 : decode cX9_asksPlan 76 = .ok (.lstore_n 3, 1) := by decide +kernel
theorem dX9_asksPlan_77 : decode cX9_asksPlan 77 = .ok (.iinc 5 1, 3) := by decide +kernel
theorem dX9_asksPlan_80 : decode cX9_asksPlan 80 = .ok (.goto (-69), 3) := by decide +kernel
theorem dX9_asksPlan_83 : decode cX9_asksPlan 83 = .ok (.aload_n 0, 1) := by decide +kernel
theorem dX9_asksPlan_84 : decode cX9_asksPlan 84 = .ok (.iconst 1, 1) := by decide +kernel
theorem dX9_asksPlan_85 : decode cX9_asksPlan 85 = .ok (.invokevirtual 433, 3) := by decide +kernel
theorem dX9_asksPlan_88 : decode cX9_asksPlan 88 = .ok (.lstore 5, 2) := by decide +kernel
theorem dX9_asksPlan_90 : decode cX9_asksPlan 90 = .ok (.aload_n 0, 1) := by decide +kernel
theorem dX9_asksPlan_91 : decode cX9_asksPlan 91 = .ok (.iconst 0, 1) := by decide +kernel
theorem dX9_asksPlan_92 : decode cX9_asksPlan 92 = .ok (.invokevirtual 433, 3) := by decide +kernel
theorem dX9_asksPlan_95 : decode cX9_asksPlan 95 = .ok (.ldc2_w 431, 3) := by decide +kernel
theorem dX9_asksPlan_98 : decode cX9_asksPlan 98 = .ok (.lmul, 1) := by decide +kernel
theorem dX9_asksPlan_99 : decode cX9_asksPlan 99 = .ok (.lload_n 3, 1) := by decide +kernel
theorem dX9_asksPlan_100 : decode cX9_asksPlan 100 = .ok (.iload_n 2, 1) := by decide +kernel
theorem dX9_asksPlan_101 : decode cX9_asksPlan 101 = .ok (.i2l, 1) := by decide +kernel
theorem dX9_asksPlan_102 : decode cX9_asksPlan 102 = .ok (.lmul, 1) := by decide +kernel
theorem dX9_asksPlan_103 : decode cX9_asksPlan 103 = .ok (.lcmp, 1) := by decide +kernel
theorem dX9_asksPlan_104 : decode cX9_asksPlan 104 = .ok (.ifCond .lt 24, 3) := by decide +kernel
theorem dX9_asksPlan_107 : decode cX9_asksPlan 107 = .ok (.aload_n 0, 1) := by decide +kernel
theorem dX9_asksPlan_108 : decode cX9_asksPlan 108 = .ok (.getfield 439, 3) := by decide +kernel
theorem dX9_asksPlan_111 : decode cX9_asksPlan 111 = .ok (.ldc2_w 422, 3) := by decide +kernel
theorem dX9_asksPlan_114 : decode cX9_asksPlan 114 = .ok (.lcmp, 1) := by decide +kernel
theorem dX9_asksPlan_115 : decode cX9_asksPlan 115 = .ok (.ifCond .eq 14, 3) := by decide +kernel
theorem dX9_asksPlan_118 : decode cX9_asksPlan 118 = .ok (.lload 5, 2) := by decide +kernel
theorem dX9_asksPlan_120 : decode cX9_asksPlan 120 = .ok (.aload_n 0, 1) := by decide +kernel
theorem dX9_asksPlan_121 : decode cX9_asksPlan 121 = .ok (.getfield 439, 3) := by decide +kernel
theorem dX9_asksPlan_124 : decode cX9_asksPlan 124 = .ok (.lcmp, 1) := by decide +kernel
theorem dX9_asksPlan_125 : decode cX9_asksPlan 125 = .ok (.ifCond .lt 4, 3) := by decide +kernel
theorem dX9_asksPlan_128 : decode cX9_asksPlan 128 = .ok (.return_, 1) := by decide +kernel
theorem dX9_asksPlan_129 : decode cX9_asksPlan 129 = .ok (.aload_n 0, 1) := by decide +kernel
theorem dX9_asksPlan_130 : decode cX9_asksPlan 130 = .ok (.lload 5, 2) := by decide +kernel
theorem dX9_asksPlan_132 : decode cX9_asksPlan 132 = .ok (.putfield 439, 3) := by decide +kernel
theorem dX9_asksPlan_135 : decode cX9_asksPlan 135 = .ok (.iconst 0, 1) := by decide +kernel
theorem dX9_asksPlan_136 : decode cX9_asksPlan 136 = .ok (.istore 7, 2) := by decide +kernel
theorem dX9_asksPlan_138 : decode cX9_asksPlan 138 = .ok (.iload 7, 2) := by decide +kernel
theorem dX9_asksPlan_140 : decode cX9_asksPlan 140 = .ok (.iload_n 1, 1) := by decide +kernel
theorem dX9_asksPlan_141 : decode cX9_asksPlan 141 = .ok (.if_icmp .ge 37, 3) := by decide +kernel
theorem dX9_asksPlan_144 : decode cX9_asksPlan 144 = .ok (.aload_n 0, 1) := by decide +kernel
theorem dX9_asksPlan_145 : decode cX9_asksPlan 145 = .ok (.getfield 116, 3) := by decide +kernel
theorem dX9_asksPlan_148 : decode cX9_asksPlan 148 = .ok (.iload 7, 2) := by decide +kernel
theorem dX9_asksPlan_150 : decode cX9_asksPlan 150 = .ok (.aload_n 0, 1) := by decide +kernel
theorem dX9_asksPlan_151 : decode cX9_asksPlan 151 = .ok (.getfield 110, 3) := by decide +kernel
theorem dX9_asksPlan_154 : decode cX9_asksPlan 154 = .ok (.iload 7, 2) := by decide +kernel
theorem dX9_asksPlan_156 : decode cX9_asksPlan 156 = .ok (.iaload, 1) := by decide +kernel
theorem dX9_asksPlan_157 : decode cX9_asksPlan 157 = .ok (.iastore, 1) := by decide +kernel
theorem dX9_asksPlan_158 : decode cX9_asksPlan 158 = .ok (.aload_n 0, 1) := by decide +kernel
theorem dX9_asksPlan_159 : decode cX9_asksPlan 159 = .ok (.getfield 119, 3) := by decide +kernel
theorem dX9_asksPlan_162 : decode cX9_asksPlan 162 = .ok (.iload 7, 2) := by decide +kernel
theorem dX9_asksPlan_164 : decode cX9_asksPlan 164 = .ok (.aload_n 0, 1) := by decide +kernel
theorem dX9_asksPlan_165 : decode cX9_asksPlan 165 = .ok (.getfield 113, 3) := by decide +kernel
theorem dX9_asksPlan_168 : decode cX9_asksPlan 168 = .ok (.iload 7, 2) := by decide +kernel
theorem dX9_asksPlan_170 : decode cX9_asksPlan 170 = .ok (.iaload, 1) := by decide +kernel
theorem dX9_asksPlan_171 : decode cX9_asksPlan 171 = .ok (.iastore, 1) := by decide +kernel
theorem dX9_asksPlan_172 : decode cX9_asksPlan 172 = .ok (.iinc 7 1, 3) := by decide +kernel
theorem dX9_asksPlan_175 : decode cX9_asksPlan 175 = .ok (.goto (-37), 3) := by decide +kernel
theorem dX9_asksPlan_178 : decode cX9_asksPlan 178 = .ok (.return_, 1) := by decide +kernel
theorem dX9_triesDoings_0 : decode cX9_triesDoings 0 = .ok (.iconst 1, 1) := by decide +kernel
theorem dX9_triesDoings_1 : decode cX9_triesDoings 1 = .ok (.istore_n 3, 1) := by decide +kernel
theorem dX9_triesDoings_2 : decode cX9_triesDoings 2 = .ok (.iconst 0, 1) := by decide +kernel
theorem dX9_triesDoings_3 : decode cX9_triesDoings 3 = .ok (.istore 4, 2) := by decide +kernel
theorem dX9_triesDoings_5 : decode cX9_triesDoings 5 = .ok (.iload 4, 2) := by decide +kernel
theorem dX9_triesDoings_7 : decode cX9_triesDoings 7 = .ok (.iload_n 1, 1) := by decide +kernel
theorem dX9_triesDoings_8 : decode cX9_triesDoings 8 = .ok (.if_icmp .ge 20, 3) := by decide +kernel
theorem dX9_triesDoings_11 : decode cX9_triesDoings 11 = .ok (.iload_n 3, 1) := by decide +kernel
theorem dX9_triesDoings_12 : decode cX9_triesDoings 12 = .ok (.iconst 3, 1) := by decide +kernel
theorem dX9_triesDoings_13 : decode cX9_triesDoings 13 = .ok (.imul, 1) := by decide +kernel
theorem dX9_triesDoings_14 : decode cX9_triesDoings 14 = .ok (.aload_n 0, 1) := by decide +kernel
theorem dX9_triesDoings_15 : decode cX9_triesDoings 15 = .ok (.getfield 7, 3) := by decide +kernel
theorem dX9_triesDoings_18 : decode cX9_triesDoings 18 = .ok (.iconst 0, 1) := by decide +kernel
theorem dX9_triesDoings_19 : decode cX9_triesDoings 19 = .ok (.iaload, 1) := by decide +kernel
theorem dX9_triesDoings_20 : decode cX9_triesDoings 20 = .ok (.imul, 1) := by decide +kernel
theorem dX9_triesDoings_21 : decode cX9_triesDoings 21 = .ok (.istore_n 3, 1) := by decide +kernel
theorem dX9_triesDoings_22 : decode cX9_triesDoings 22 = .ok (.iinc 4 1, 3) := by decide +kernel
theorem dX9_triesDoings_25 : decode cX9_triesDoings 25 = .ok (.goto (-20), 3) := by decide +kernel
theorem dX9_triesDoings_28 : decode cX9_triesDoings 28 = .ok (.iconst 0, 1) := by decide +kernel
theorem dX9_triesDoings_29 : decode cX9_triesDoings 29 = .ok (.istore 4, 2) := by decide +kernel
theorem dX9_triesDoings_31 : decode cX9_triesDoings 31 = .ok (.iload 4, 2) := by decide +kernel
theorem dX9_triesDoings_33 : decode cX9_triesDoings 33 = .ok (.iload_n 3, 1) := by decide +kernel
theorem dX9_triesDoings_34 : decode cX9_triesDoings 34 = .ok (.if_icmp .ge 66, 3) := by decide +kernel
theorem dX9_triesDoings_37 : decode cX9_triesDoings 37 = .ok (.iload 4, 2) := by decide +kernel
theorem dX9_triesDoings_39 : decode cX9_triesDoings 39 = .ok (.istore 5, 2) := by decide +kernel
theorem dX9_triesDoings_41 : decode cX9_triesDoings 41 = .ok (.iload_n 1, 1) := by decide +kernel
theorem dX9_triesDoings_42 : decode cX9_triesDoings 42 = .ok (.iconst 1, 1) := by decide +kernel
theorem dX9_triesDoings_43 : decode cX9_triesDoings 43 = .ok (.isub, 1) := by decide +kernel
theorem dX9_triesDoings_44 : decode cX9_triesDoings 44 = .ok (.istore 6, 2) := by decide +kernel
theorem dX9_triesDoings_46 : decode cX9_triesDoings 46 = .ok (.iload 6, 2) := by decide +kernel
theorem dX9_triesDoings_48 : decode cX9_triesDoings 48 = .ok (.ifCond .lt 40, 3) := by decide +kernel
theorem dX9_triesDoings_51 : decode cX9_triesDoings 51 = .ok (.aload_n 0, 1) := by decide +kernel
theorem dX9_triesDoings_52 : decode cX9_triesDoings 52 = .ok (.getfield 113, 3) := by decide +kernel
theorem dX9_triesDoings_55 : decode cX9_triesDoings 55 = .ok (.iload 6, 2) := by decide +kernel
theorem dX9_triesDoings_57 : decode cX9_triesDoings 57 = .ok (.iload 5, 2) := by decide +kernel
theorem dX9_triesDoings_59 : decode cX9_triesDoings 59 = .ok (.iconst 3, 1) := by decide +kernel
theorem dX9_triesDoings_60 : decode cX9_triesDoings 60 = .ok (.aload_n 0, 1) := by decide +kernel
theorem dX9_triesDoings_61 : decode cX9_triesDoings 61 = .ok (.getfield 7, 3) := by decide +kernel
theorem dX9_triesDoings_64 : decode cX9_triesDoings 64 = .ok (.iconst 0, 1) := by decide +kernel
theorem dX9_triesDoings_65 : decode cX9_triesDoings 65 = .ok (.iaload, 1) := by decide +kernel
theorem dX9_triesDoings_66 : decode cX9_triesDoings 66 = .ok (.imul, 1) := by decide +kernel
theorem dX9_triesDoings_67 : decode cX9_triesDoings 67 = .ok (.irem, 1) := by decide +kernel
theorem dX9_triesDoings_68 : decode cX9_triesDoings 68 = .ok (.iastore, 1) := by decide +kernel
theorem dX9_triesDoings_69 : decode cX9_triesDoings 69 = .ok (.iload 5, 2) := by decide +kernel
theorem dX9_triesDoings_71 : decode cX9_triesDoings 71 = .ok (.iconst 3, 1) := by decide +kernel
theorem dX9_triesDoings_72 : decode cX9_triesDoings 72 = .ok (.aload_n 0, 1) := by decide +kernel
theorem dX9_triesDoings_73 : decode cX9_triesDoings 73 = .ok (.getfield 7, 3) := by decide +kernel
theorem dX9_triesDoings_76 : decode cX9_triesDoings 76 = .ok (.iconst 0, 1) := by decide +kernel
theorem dX9_triesDoings_77 : decode cX9_triesDoings 77 = .ok (.iaload, 1) := by decide +kernel
theorem dX9_triesDoings_78 : decode cX9_triesDoings 78 = .ok (.imul, 1) := by decide +kernel
theorem dX9_triesDoings_79 : decode cX9_triesDoings 79 = .ok (.idiv, 1) := by decide +kernel
theorem dX9_triesDoings_80 : decode cX9_triesDoings 80 = .ok (.istore 5, 2) := by decide +kernel
theorem dX9_triesDoings_82 : decode cX9_triesDoings 82 = .ok (.iinc 6 (-1), 3) := by decide +kernel
theorem dX9_triesDoings_85 : decode cX9_triesDoings 85 = .ok (.goto (-39), 3) := by decide +kernel
theorem dX9_triesDoings_88 : decode cX9_triesDoings 88 = .ok (.aload_n 0, 1) := by decide +kernel
theorem dX9_triesDoings_89 : decode cX9_triesDoings 89 = .ok (.iload_n 1, 1) := by decide +kernel
theorem dX9_triesDoings_90 : decode cX9_triesDoings 90 = .ok (.iload_n 2, 1) := by decide +kernel
theorem dX9_triesDoings_91 : decode cX9_triesDoings 91 = .ok (.invokevirtual 443, 3) := by decide +kernel
theorem dX9_triesDoings_94 : decode cX9_triesDoings 94 = .ok (.iinc 4 1, 3) := by decide +kernel
theorem dX9_triesDoings_97 : decode cX9_triesDoings 97 = .ok (.goto (-66), 3) := by decide +kernel
theorem dX9_triesDoings_100 : decode cX9_triesDoings 100 = .ok (.return_, 1) := by decide +kernel
theorem dX9_plansOf_0 : decode cX9_plansOf 0 = .ok (.aload_n 0, 1) := by decide +kernel
theorem dX9_plansOf_1 : decode cX9_plansOf 1 = .ok (.ldc2_w 422, 3) := by decide +kernel
theorem dX9_plansOf_4 : decode cX9_plansOf 4 = .ok (.putfield 439, 3) := by decide +kernel
theorem dX9_plansOf_7 : decode cX9_plansOf 7 = .ok (.iconst 0, 1) := by decide +kernel
theorem dX9_plansOf_8 : decode cX9_plansOf 8 = .ok (.istore_n 3, 1) := by decide +kernel
theorem dX9_plansOf_9 : decode cX9_plansOf 9 = .ok (.iload_n 3, 1) := by decide +kernel
theorem dX9_plansOf_10 : decode cX9_plansOf 10 = .ok (.sipush 1024, 3) := by decide +kernel
theorem dX9_plansOf_13 : decode cX9_plansOf 13 = .ok (.if_icmp .ge 138, 3) := by decide +kernel
theorem dX9_plansOf_16 : decode cX9_plansOf 16 = .ok (.iconst 0, 1) := by decide +kernel
theorem dX9_plansOf_17 : decode cX9_plansOf 17 = .ok (.istore 4, 2) := by decide +kernel
theorem dX9_plansOf_19 : decode cX9_plansOf 19 = .ok (.iconst 1, 1) := by decide +kernel
theorem dX9_plansOf_20 : decode cX9_plansOf 20 = .ok (.istore 5, 2) := by decide +kernel
theorem dX9_plansOf_22 : decode cX9_plansOf 22 = .ok (.iconst 0, 1) := by decide +kernel
theorem dX9_plansOf_23 : decode cX9_plansOf 23 = .ok (.istore 6, 2) := by decide +kernel
theorem dX9_plansOf_25 : decode cX9_plansOf 25 = .ok (.iload 6, 2) := by decide +kernel
theorem dX9_plansOf_27 : decode cX9_plansOf 27 = .ok (.bipush 10, 2) := by decide +kernel
theorem dX9_plansOf_29 : decode cX9_plansOf 29 = .ok (.if_icmp .ge 99, 3) := by decide +kernel
theorem dX9_plansOf_32 : decode cX9_plansOf 32 = .ok (.iload_n 3, 1) := by decide +kernel
theorem dX9_plansOf_33 : decode cX9_plansOf 33 = .ok (.iload 6, 2) := by decide +kernel
theorem dX9_plansOf_35 : decode cX9_plansOf 35 = .ok (.ishr, 1) := by decide +kernel
theorem dX9_plansOf_36 : decode cX9_plansOf 36 = .ok (.iconst 1, 1) := by decide +kernel
theorem dX9_plansOf_37 : decode cX9_plansOf 37 = .ok (.iand, 1) := by decide +kernel
theorem dX9_plansOf_38 : decode cX9_plansOf 38 = .ok (.iconst 1, 1) := by decide +kernel
theorem dX9_plansOf_39 : decode cX9_plansOf 39 = .ok (.if_icmp .ne 83, 3) := by decide +kernel
theorem dX9_plansOf_42 : decode cX9_plansOf 42 = .ok (.iconst 0, 1) := by decide +kernel
theorem dX9_plansOf_43 : decode cX9_plansOf 43 = .ok (.istore 7, 2) := by decide +kernel
theorem dX9_plansOf_45 : decode cX9_plansOf 45 = .ok (.iconst 0, 1) := by decide +kernel
theorem dX9_plansOf_46 : decode cX9_plansOf 46 = .ok (.istore 8, 2) := by decide +kernel
theorem dX9_plansOf_48 : decode cX9_plansOf 48 = .ok (.iload 8, 2) := by decide +kernel
theorem dX9_plansOf_50 : decode cX9_plansOf 50 = .ok (.aload_n 0, 1) := by decide +kernel
theorem dX9_plansOf_51 : decode cX9_plansOf 51 = .ok (.getfield 436, 3) := by decide +kernel
theorem dX9_plansOf_54 : decode cX9_plansOf 54 = .ok (.if_icmp .ge 33, 3) := by decide +kernel
theorem dX9_plansOf_57 : decode cX9_plansOf 57 = .ok (.iload 7, 2) := by decide +kernel
theorem dX9_plansOf_59 : decode cX9_plansOf 59 = .ok (.ifCond .ne 15, 3) := by decide +kernel
theorem dX9_plansOf_62 : decode cX9_plansOf 62 = .ok (.aload_n 0, 1) := by decide +kernel
theorem dX9_plansOf_63 : decode cX9_plansOf 63 = .ok (.getfield 107, 3) := by decide +kernel
theorem dX9_plansOf_66 : decode cX9_plansOf 66 = .ok (.iload 8, 2) := by decide +kernel
theorem dX9_plansOf_68 : decode cX9_plansOf 68 = .ok (.iaload, 1) := by decide +kernel
theorem dX9_plansOf_69 : decode cX9_plansOf 69 = .ok (.iload 6, 2) := by decide +kernel
theorem dX9_plansOf_71 : decode cX9_plansOf 71 = .ok (.if_icmp .ne 7, 3) := by decide +kernel
theorem dX9_plansOf_74 : decode cX9_plansOf 74 = .ok (.iconst 1, 1) := by decide +kernel
theorem dX9_plansOf_75 : decode cX9_plansOf 75 = .ok (.goto 4, 3) := by decide +kernel
theorem dX9_plansOf_78 : decode cX9_plansOf 78 = .ok (.iconst 0, 1) := by decide +kernel
theorem dX9_plansOf_79 : decode cX9_plansOf 79 = .ok (.istore 7, 2) := by decide +kernel
theorem dX9_plansOf_81 : decode cX9_plansOf 81 = .ok (.iinc 8 1, 3) := by decide +kernel
theorem dX9_plansOf_84 : decode cX9_plansOf 84 = .ok (.goto (-36), 3) := by decide +kernel
theorem dX9_plansOf_87 : decode cX9_plansOf 87 = .ok (.iload 5, 2) := by decide +kernel
theorem dX9_plansOf_89 : decode cX9_plansOf 89 = .ok (.ifCond .eq 12, 3) := by decide +kernel
theorem dX9_plansOf_92 : decode cX9_plansOf 92 = .ok (.iload 7, 2) := by decide +kernel
theorem dX9_plansOf_94 : decode cX9_plansOf 94 = .ok (.ifCond .eq 7, 3) := by decide +kernel
theorem dX9_plansOf_97 : decode cX9_plansOf 97 = .ok (.iconst 1, 1) := by decide +kernel
theorem dX9_plansOf_98 : decode cX9_plansOf 98 = .ok (.goto 4, 3) := by decide +kernel
theorem dX9_plansOf_101 : decode cX9_plansOf 101 = .ok (.iconst 0, 1) := by decide +kernel
theorem dX9_plansOf_102 : decode cX9_plansOf 102 = .ok (.istore 5, 2) := by decide +kernel
theorem dX9_plansOf_104 : decode cX9_plansOf 104 = .ok (.iload 4, 2) := by decide +kernel
theorem dX9_plansOf_106 : decode cX9_plansOf 106 = .ok (.iconst 3, 1) := by decide +kernel
theorem dX9_plansOf_107 : decode cX9_plansOf 107 = .ok (.if_icmp .ge 12, 3) := by decide +kernel
theorem dX9_plansOf_110 : decode cX9_plansOf 110 = .ok (.aload_n 0, 1) := by decide +kernel
theorem dX9_plansOf_111 : decode cX9_plansOf 111 = .ok (.getfield 110, 3) := by decide +kernel
theorem dX9_plansOf_114 : decode cX9_plansOf 114 = .ok (.iload 4, 2) := by decide +kernel
theorem dX9_plansOf_116 : decode cX9_plansOf 116 = .ok (.iload 6, 2) := by decide +kernel
theorem dX9_plansOf_118 : decode cX9_plansOf 118 = .ok (.iastore, 1) := by decide +kernel
theorem dX9_plansOf_119 : decode cX9_plansOf 119 = .ok (.iinc 4 1, 3) := by decide +kernel
theorem dX9_plansOf_122 : decode cX9_plansOf 122 = .ok (.iinc 6 1, 3) := by decide +kernel
theorem dX9_plansOf_125 : decode cX9_plansOf 125 = .ok (.goto (-100), 3) := by decide +kernel
theorem dX9_plansOf_128 : decode cX9_plansOf 128 = .ok (.iload 5, 2) := by decide +kernel
theorem dX9_plansOf_130 : decode cX9_plansOf 130 = .ok (.ifCond .eq 15, 3) := by decide +kernel
theorem dX9_plansOf_133 : decode cX9_plansOf 133 = .ok (.iload 4, 2) := by decide +kernel
theorem dX9_plansOf_135 : decode cX9_plansOf 135 = .ok (.iload_n 1, 1) := by decide +kernel
theorem dX9_plansOf_136 : decode cX9_plansOf 136 = .ok (.if_icmp .ne 9, 3) := by decide +kernel
theorem dX9_plansOf_139 : decode cX9_plansOf 139 = .ok (.aload_n 0, 1) := by decide +kernel
theorem dX9_plansOf_140 : decode cX9_plansOf 140 = .ok (.iload_n 1, 1) := by decide +kernel
theorem dX9_plansOf_141 : decode cX9_plansOf 141 = .ok (.iload_n 2, 1) := by decide +kernel
theorem dX9_plansOf_142 : decode cX9_plansOf 142 = .ok (.invokevirtual 446, 3) := by decide +kernel
theorem dX9_plansOf_145 : decode cX9_plansOf 145 = .ok (.iinc 3 1, 3) := by decide +kernel
theorem dX9_plansOf_148 : decode cX9_plansOf 148 = .ok (.goto (-139), 3) := by decide +kernel
theorem dX9_plansOf_151 : decode cX9_plansOf 151 = .ok (.aload_n 0, 1) := by decide +kernel
theorem dX9_plansOf_152 : decode cX9_plansOf 152 = .ok (.getfield 439, 3) := by decide +kernel
theorem dX9_plansOf_155 : decode cX9_plansOf 155 = .ok (.ldc2_w 422, 3) := by decide +kernel
theorem dX9_plansOf_158 : decode cX9_plansOf 158 = .ok (.lcmp, 1) := by decide +kernel
theorem dX9_plansOf_159 : decode cX9_plansOf 159 = .ok (.ifCond .eq 7, 3) := by decide +kernel
theorem dX9_plansOf_162 : decode cX9_plansOf 162 = .ok (.iconst 1, 1) := by decide +kernel
theorem dX9_plansOf_163 : decode cX9_plansOf 163 = .ok (.goto 4, 3) := by decide +kernel
theorem dX9_plansOf_166 : decode cX9_plansOf 166 = .ok (.iconst 0, 1) := by decide +kernel
theorem dX9_plansOf_167 : decode cX9_plansOf 167 = .ok (.ireturn, 1) := by decide +kernel
theorem dX9_plan_0 : decode cX9_plan 0 = .ok (.iload_n 1, 1) := by decide +kernel
theorem dX9_plan_1 : decode cX9_plan 1 = .ok (.invokestatic 409, 3) := by decide +kernel
theorem dX9_plan_4 : decode cX9_plan 4 = .ok (.ifCond .eq 26, 3) := by decide +kernel
theorem dX9_plan_7 : decode cX9_plan 7 = .ok (.iload_n 2, 1) := by decide +kernel
theorem dX9_plan_8 : decode cX9_plan 8 = .ok (.iconst 1, 1) := by decide +kernel
theorem dX9_plan_9 : decode cX9_plan 9 = .ok (.bipush 100, 2) := by decide +kernel
theorem dX9_plan_11 : decode cX9_plan 11 = .ok (.invokestatic 126, 3) := by decide +kernel
theorem dX9_plan_14 : decode cX9_plan 14 = .ok (.ifCond .eq 16, 3) := by decide +kernel
theorem dX9_plan_17 : decode cX9_plan 17 = .ok (.iload_n 3, 1) := by decide +kernel
theorem dX9_plan_18 : decode cX9_plan 18 = .ok (.iconst (-1), 1) := by decide +kernel
theorem dX9_plan_19 : decode cX9_plan 19 = .ok (.if_icmp .eq 14, 3) := by decide +kernel
theorem dX9_plan_22 : decode cX9_plan 22 = .ok (.aload_n 0, 1) := by decide +kernel
theorem dX9_plan_23 : decode cX9_plan 23 = .ok (.iload_n 3, 1) := by decide +kernel
theorem dX9_plan_24 : decode cX9_plan 24 = .ok (.invokevirtual 134, 3) := by decide +kernel
theorem dX9_plan_27 : decode cX9_plan 27 = .ok (.ifCond .ne 6, 3) := by decide +kernel
theorem dX9_plan_30 : decode cX9_plan 30 = .ok (.bipush (-2), 2) := by decide +kernel
theorem dX9_plan_32 : decode cX9_plan 32 = .ok (.ireturn, 1) := by decide +kernel
theorem dX9_plan_33 : decode cX9_plan 33 = .ok (.aload_n 0, 1) := by decide +kernel
theorem dX9_plan_34 : decode cX9_plan 34 = .ok (.iload_n 1, 1) := by decide +kernel
theorem dX9_plan_35 : decode cX9_plan 35 = .ok (.invokevirtual 449, 3) := by decide +kernel
theorem dX9_plan_38 : decode cX9_plan 38 = .ok (.iconst 1, 1) := by decide +kernel
theorem dX9_plan_39 : decode cX9_plan 39 = .ok (.istore 4, 2) := by decide +kernel
theorem dX9_plan_41 : decode cX9_plan 41 = .ok (.iload 4, 2) := by decide +kernel
theorem dX9_plan_43 : decode cX9_plan 43 = .ok (.iconst 4, 1) := by decide +kernel
theorem dX9_plan_44 : decode cX9_plan 44 = .ok (.if_icmp .ge 96, 3) := by decide +kernel
theorem dX9_plan_47 : decode cX9_plan 47 = .ok (.aload_n 0, 1) := by decide +kernel
theorem dX9_plan_48 : decode cX9_plan 48 = .ok (.iload 4, 2) := by decide +kernel
theorem dX9_plan_50 : decode cX9_plan 50 = .ok (.iload_n 2, 1) := by decide +kernel
theorem dX9_plan_51 : decode cX9_plan 51 = .ok (.invokevirtual 452, 3) := by decide +kernel
theorem dX9_plan_54 : decode cX9_plan 54 = .ok (.ifCond .eq 80, 3) := by decide +kernel
theorem dX9_plan_57 : decode cX9_plan 57 = .ok (.iload_n 3, 1) := by decide +kernel
theorem dX9_plan_58 : decode cX9_plan 58 = .ok (.iconst (-1), 1) := by decide +kernel
theorem dX9_plan_59 : decode cX9_plan 59 = .ok (.if_icmp .ne 8, 3) := by decide +kernel
theorem dX9_plan_62 : decode cX9_plan 62 = .ok (.iload 4, 2) := by decide +kernel
theorem dX9_plan_64 : decode cX9_plan 64 = .ok (.goto 4, 3) := by decide +kernel
theorem dX9_plan_67 : decode cX9_plan 67 = .ok (.iconst (-1), 1) := by decide +kernel
theorem dX9_plan_68 : decode cX9_plan 68 = .ok (.istore 5, 2) := by decide +kernel
theorem dX9_plan_70 : decode cX9_plan 70 = .ok (.iconst 0, 1) := by decide +kernel
theorem dX9_plan_71 : decode cX9_plan 71 = .ok (.istore 6, 2) := by decide +kernel
theorem dX9_plan_73 : decode cX9_plan 73 = .ok (.iload 6, 2) := by decide +kernel
theorem dX9_plan_75 : decode cX9_plan 75 = .ok (.iload 4, 2) := by decide +kernel
theorem dX9_plan_77 : decode cX9_plan 77 = .ok (.if_icmp .ge 54, 3) := by decide +kernel
theorem dX9_plan_80 : decode cX9_plan 80 = .ok (.iload_n 3, 1) := by decide +kernel
theorem dX9_plan_81 : decode cX9_plan 81 = .ok (.iconst (-1), 1) := by decide +kernel
theorem dX9_plan_82 : decode cX9_plan 82 = .ok (.if_icmp .eq 49, 3) := by decide +kernel
theorem dX9_plan_85 : decode cX9_plan 85 = .ok (.aload_n 0, 1) := by decide +kernel
theorem dX9_plan_86 : decode cX9_plan 86 = .ok (.getfield 116, 3) := by decide +kernel
theorem dX9_plan_89 : decode cX9_plan 89 = .ok (.iload 6, 2) := by decide +kernel
theorem dX9_plan_91 : decode cX9_plan 91 = .ok (.iaload, 1) := by decide +kernel
theorem dX9_plan_92 : decode cX9_plan 92 = .ok (.iload_n 3, 1) := by decide +kernel
theorem dX9_plan_93 : decode cX9_plan 93 = .ok (.if_icmp .ne 28, 3) := by decide +kernel
theorem dX9_plan_96 : decode cX9_plan 96 = .ok (.bipush 10, 2) := by decide +kernel
theorem dX9_plan_98 : decode cX9_plan 98 = .ok (.aload_n 0, 1) := by decide +kernel
theorem dX9_plan_99 : decode cX9_plan 99 = .ok (.getfield 119, 3) := by decide +kernel
theorem dX9_plan_102 : decode cX9_plan 102 = .ok (.iload 6, 2) := by decide +kernel
theorem dX9_plan_104 : decode cX9_plan 104 = .ok (.iaload, 1) := by decide +kernel
theorem dX9_plan_105 : decode cX9_plan 105 = .ok (.iconst 3, 1) := by decide +kernel
theorem dX9_plan_106 : decode cX9_plan 106 = .ok (.idiv, 1) := by decide +kernel
theorem dX9_plan_107 : decode cX9_plan 107 = .ok (.imul, 1) := by decide +kernel
theorem dX9_plan_108 : decode cX9_plan 108 = .ok (.aload_n 0, 1) := by decide +kernel
theorem dX9_plan_109 : decode cX9_plan 109 = .ok (.getfield 119, 3) := by decide +kernel
theorem dX9_plan_112 : decode cX9_plan 112 = .ok (.iload 6, 2) := by decide +kernel
theorem dX9_plan_114 : decode cX9_plan 114 = .ok (.iaload, 1) := by decide +kernel
theorem dX9_plan_115 : decode cX9_plan 115 = .ok (.iconst 3, 1) := by decide +kernel
theorem dX9_plan_116 : decode cX9_plan 116 = .ok (.irem, 1) := by decide +kernel
theorem dX9_plan_117 : decode cX9_plan 117 = .ok (.iadd, 1) := by decide +kernel
theorem dX9_plan_118 : decode cX9_plan 118 = .ok (.goto 5, 3) := by decide +kernel
theorem dX9_plan_121 : decode cX9_plan 121 = .ok (.iload 5, 2) := by decide +kernel
theorem dX9_plan_123 : decode cX9_plan 123 = .ok (.istore 5, 2) := by decide +kernel
theorem dX9_plan_125 : decode cX9_plan 125 = .ok (.iinc 6 1, 3) := by decide +kernel
theorem dX9_plan_128 : decode cX9_plan 128 = .ok (.goto (-55), 3) := by decide +kernel
theorem dX9_plan_131 : decode cX9_plan 131 = .ok (.iload 5, 2) := by decide +kernel
theorem dX9_plan_133 : decode cX9_plan 133 = .ok (.ireturn, 1) := by decide +kernel
theorem dX9_plan_134 : decode cX9_plan 134 = .ok (.iinc 4 1, 3) := by decide +kernel
theorem dX9_plan_137 : decode cX9_plan 137 = .ok (.goto (-96), 3) := by decide +kernel
theorem dX9_plan_140 : decode cX9_plan 140 = .ok (.bipush (-2), 2) := by decide +kernel
theorem dX9_plan_142 : decode cX9_plan 142 = .ok (.ireturn, 1) := by decide +kernel
theorem dX9_holds_0 : decode cX9_holds 0 = .ok (.aload_n 0, 1) := by decide +kernel
theorem dX9_holds_1 : decode cX9_holds 1 = .ok (.getfield 7, 3) := by decide +kernel
theorem dX9_holds_4 : decode cX9_holds 4 = .ok (.iconst 2, 1) := by decide +kernel
theorem dX9_holds_5 : decode cX9_holds 5 = .ok (.iaload, 1) := by decide +kernel
theorem dX9_holds_6 : decode cX9_holds 6 = .ok (.aload_n 0, 1) := by decide +kernel
theorem dX9_holds_7 : decode cX9_holds 7 = .ok (.iconst 0, 1) := by decide +kernel
theorem dX9_holds_8 : decode cX9_holds 8 = .ok (.invokevirtual 378, 3) := by decide +kernel
theorem dX9_holds_11 : decode cX9_holds 11 = .ok (.iadd, 1) := by decide +kernel
theorem dX9_holds_12 : decode cX9_holds 12 = .ok (.istore_n 1, 1) := by decide +kernel
theorem dX9_holds_13 : decode cX9_holds 13 = .ok (.iload_n 1, 1) := by decide +kernel
theorem dX9_holds_14 : decode cX9_holds 14 = .ok (.ifCond .ne 7, 3) := by decide +kernel
theorem dX9_holds_17 : decode cX9_holds 17 = .ok (.sipush 999, 3) := by decide +kernel
theorem dX9_holds_20 : decode cX9_holds 20 = .ok (.ireturn, 1) := by decide +kernel
theorem dX9_holds_21 : decode cX9_holds 21 = .ok (.aload_n 0, 1) := by decide +kernel
theorem dX9_holds_22 : decode cX9_holds 22 = .ok (.getfield 7, 3) := by decide +kernel
theorem dX9_holds_25 : decode cX9_holds 25 = .ok (.bipush 120, 2) := by decide +kernel
theorem dX9_holds_27 : decode cX9_holds 27 = .ok (.iaload, 1) := by decide +kernel
theorem dX9_holds_28 : decode cX9_holds 28 = .ok (.iload_n 1, 1) := by decide +kernel
theorem dX9_holds_29 : decode cX9_holds 29 = .ok (.idiv, 1) := by decide +kernel
theorem dX9_holds_30 : decode cX9_holds 30 = .ok (.istore_n 2, 1) := by decide +kernel
theorem dX9_holds_31 : decode cX9_holds 31 = .ok (.iload_n 2, 1) := by decide +kernel
theorem dX9_holds_32 : decode cX9_holds 32 = .ok (.sipush 999, 3) := by decide +kernel
theorem dX9_holds_35 : decode cX9_holds 35 = .ok (.if_icmp .le 9, 3) := by decide +kernel
theorem dX9_holds_38 : decode cX9_holds 38 = .ok (.sipush 999, 3) := by decide +kernel
theorem dX9_holds_41 : decode cX9_holds 41 = .ok (.goto 4, 3) := by decide +kernel
theorem dX9_holds_44 : decode cX9_holds 44 = .ok (.iload_n 2, 1) := by decide +kernel
theorem dX9_holds_45 : decode cX9_holds 45 = .ok (.ireturn, 1) := by decide +kernel
theorem dX9_image_0 : decode cX9_image 0 = .ok (.aload_n 0, 1) := by decide +kernel
theorem dX9_image_1 : decode cX9_image 1 = .ok (.iconst 1, 1) := by decide +kernel
theorem dX9_image_2 : decode cX9_image 2 = .ok (.invokevirtual 122, 3) := by decide +kernel
theorem dX9_image_5 : decode cX9_image 5 = .ok (.aload_n 0, 1) := by decide +kernel
theorem dX9_image_6 : decode cX9_image 6 = .ok (.getfield 7, 3) := by decide +kernel
theorem dX9_image_9 : decode cX9_image 9 = .ok (.bipush 121, 2) := by decide +kernel
theorem dX9_image_11 : decode cX9_image 11 = .ok (.iaload, 1) := by decide +kernel
theorem dX9_image_12 : decode cX9_image 12 = .ok (.ireturn, 1) := by decide +kernel
theorem dX9_back_0 : decode cX9_back 0 = .ok (.aload_n 0, 1) := by decide +kernel
theorem dX9_back_1 : decode cX9_back 1 = .ok (.iconst 0, 1) := by decide +kernel
theorem dX9_back_2 : decode cX9_back 2 = .ok (.invokevirtual 122, 3) := by decide +kernel
theorem dX9_back_5 : decode cX9_back 5 = .ok (.aload_n 0, 1) := by decide +kernel
theorem dX9_back_6 : decode cX9_back 6 = .ok (.getfield 7, 3) := by decide +kernel
theorem dX9_back_9 : decode cX9_back 9 = .ok (.bipush 121, 2) := by decide +kernel
theorem dX9_back_11 : decode cX9_back 11 = .ok (.iaload, 1) := by decide +kernel
theorem dX9_back_12 : decode cX9_back 12 = .ok (.ireturn, 1) := by decide +kernel
theorem dX9_about_0 : decode cX9_about 0 = .ok (.iload_n 1, 1) := by decide +kernel
theorem dX9_about_1 : decode cX9_about 1 = .ok (.tableswitch 126 0 9 #[55, 62, 69, 77, 84, 92, 100, 107, 114, 121], 55) := by decide +kernel
theorem dX9_about_56 : decode cX9_about 56 = .ok (.aload_n 0, 1) := by decide +kernel
theorem dX9_about_57 : decode cX9_about 57 = .ok (.getfield 7, 3) := by decide +kernel
theorem dX9_about_60 : decode cX9_about 60 = .ok (.iconst 0, 1) := by decide +kernel
theorem dX9_about_61 : decode cX9_about 61 = .ok (.iaload, 1) := by decide +kernel
theorem dX9_about_62 : decode cX9_about 62 = .ok (.ireturn, 1) := by decide +kernel
theorem dX9_about_63 : decode cX9_about 63 = .ok (.aload_n 0, 1) := by decide +kernel
theorem dX9_about_64 : decode cX9_about 64 = .ok (.getfield 7, 3) := by decide +kernel
theorem dX9_about_67 : decode cX9_about 67 = .ok (.iconst 1, 1) := by decide +kernel
theorem dX9_about_68 : decode cX9_about 68 = .ok (.iaload, 1) := by decide +kernel
theorem dX9_about_69 : decode cX9_about 69 = .ok (.ireturn, 1) := by decide +kernel
theorem dX9_about_70 : decode cX9_about 70 = .ok (.aload_n 0, 1) := by decide +kernel
theorem dX9_about_71 : decode cX9_about 71 = .ok (.getfield 7, 3) := by decide +kernel
theorem dX9_about_74 : decode cX9_about 74 = .ok (.bipush 120, 2) := by decide +kernel
theorem dX9_about_76 : decode cX9_about 76 = .ok (.iaload, 1) := by decide +kernel
theorem dX9_about_77 : decode cX9_about 77 = .ok (.ireturn, 1) := by decide +kernel
theorem dX9_about_78 : decode cX9_about 78 = .ok (.aload_n 0, 1) := by decide +kernel
theorem dX9_about_79 : decode cX9_about 79 = .ok (.getfield 7, 3) := by decide +kernel
theorem dX9_about_82 : decode cX9_about 82 = .ok (.iconst 2, 1) := by decide +kernel
theorem dX9_about_83 : decode cX9_about 83 = .ok (.iaload, 1) := by decide +kernel
theorem dX9_about_84 : decode cX9_about 84 = .ok (.ireturn, 1) := by decide +kernel
theorem dX9_about_85 : decode cX9_about 85 = .ok (.aload_n 0, 1) := by decide +kernel
theorem dX9_about_86 : decode cX9_about 86 = .ok (.getfield 7, 3) := by decide +kernel
theorem dX9_about_89 : decode cX9_about 89 = .ok (.bipush 121, 2) := by decide +kernel
theorem dX9_about_91 : decode cX9_about 91 = .ok (.iaload, 1) := by decide +kernel
theorem dX9_about_92 : decode cX9_about 92 = .ok (.ireturn, 1) := by decide +kernel
theorem dX9_about_93 : decode cX9_about 93 = .ok (.aload_n 0, 1) := by decide +kernel
theorem dX9_about_94 : decode cX9_about 94 = .ok (.getfield 7, 3) := by decide +kernel
theorem dX9_about_97 : decode cX9_about 97 = .ok (.bipush 122, 2) := by decide +kernel
theorem dX9_about_99 : decode cX9_about 99 = .ok (.iaload, 1) := by decide +kernel
theorem dX9_about_100 : decode cX9_about 100 = .ok (.ireturn, 1) := by decide +kernel
theorem dX9_about_101 : decode cX9_about 101 = .ok (.aload_n 0, 1) := by decide +kernel
theorem dX9_about_102 : decode cX9_about 102 = .ok (.getfield 7, 3) := by decide +kernel
theorem dX9_about_105 : decode cX9_about 105 = .ok (.iconst 3, 1) := by decide +kernel
theorem dX9_about_106 : decode cX9_about 106 = .ok (.iaload, 1) := by decide +kernel
theorem dX9_about_107 : decode cX9_about 107 = .ok (.ireturn, 1) := by decide +kernel
theorem dX9_about_108 : decode cX9_about 108 = .ok (.aload_n 0, 1) := by decide +kernel
theorem dX9_about_109 : decode cX9_about 109 = .ok (.getfield 7, 3) := by decide +kernel
theorem dX9_about_112 : decode cX9_about 112 = .ok (.iconst 4, 1) := by decide +kernel
theorem dX9_about_113 : decode cX9_about 113 = .ok (.iaload, 1) := by decide +kernel
theorem dX9_about_114 : decode cX9_about 114 = .ok (.ireturn, 1) := by decide +kernel
theorem dX9_about_115 : decode cX9_about 115 = .ok (.aload_n 0, 1) := by decide +kernel
theorem dX9_about_116 : decode cX9_about 116 = .ok (.getfield 7, 3) := by decide +kernel
theorem dX9_about_119 : decode cX9_about 119 = .ok (.iconst 5, 1) := by decide +kernel
theorem dX9_about_120 : decode cX9_about 120 = .ok (.iaload, 1) := by decide +kernel
theorem dX9_about_121 : decode cX9_about 121 = .ok (.ireturn, 1) := by decide +kernel
theorem dX9_about_122 : decode cX9_about 122 = .ok (.aload_n 0, 1) := by decide +kernel
theorem dX9_about_123 : decode cX9_about 123 = .ok (.getfield 163, 3) := by decide +kernel
theorem dX9_about_126 : decode cX9_about 126 = .ok (.ireturn, 1) := by decide +kernel
theorem dX9_about_127 : decode cX9_about 127 = .ok (.aload_n 0, 1) := by decide +kernel
theorem dX9_about_128 : decode cX9_about 128 = .ok (.iload_n 1, 1) := by decide +kernel
theorem dX9_about_129 : decode cX9_about 129 = .ok (.bipush 10, 2) := by decide +kernel
theorem dX9_about_131 : decode cX9_about 131 = .ok (.isub, 1) := by decide +kernel
theorem dX9_about_132 : decode cX9_about 132 = .ok (.invokevirtual 160, 3) := by decide +kernel
theorem dX9_about_135 : decode cX9_about 135 = .ok (.ifCond .eq 44, 3) := by decide +kernel
theorem dX9_about_138 : decode cX9_about 138 = .ok (.bipush 10, 2) := by decide +kernel
theorem dX9_about_140 : decode cX9_about 140 = .ok (.iconst 3, 1) := by decide +kernel
theorem dX9_about_141 : decode cX9_about 141 = .ok (.iload_n 1, 1) := by decide +kernel
theorem dX9_about_142 : decode cX9_about 142 = .ok (.bipush 10, 2) := by decide +kernel
theorem dX9_about_144 : decode cX9_about 144 = .ok (.isub, 1) := by decide +kernel
theorem dX9_about_145 : decode cX9_about 145 = .ok (.imul, 1) := by decide +kernel
theorem dX9_about_146 : decode cX9_about 146 = .ok (.iadd, 1) := by decide +kernel
theorem dX9_about_147 : decode cX9_about 147 = .ok (.istore_n 2, 1) := by decide +kernel
theorem dX9_about_148 : decode cX9_about 148 = .ok (.bipush 100, 2) := by decide +kernel
theorem dX9_about_150 : decode cX9_about 150 = .ok (.aload_n 0, 1) := by decide +kernel
theorem dX9_about_151 : decode cX9_about 151 = .ok (.getfield 7, 3) := by decide +kernel
theorem dX9_about_154 : decode cX9_about 154 = .ok (.iload_n 2, 1) := by decide +kernel
theorem dX9_about_155 : decode cX9_about 155 = .ok (.iaload, 1) := by decide +kernel
theorem dX9_about_156 : decode cX9_about 156 = .ok (.imul, 1) := by decide +kernel
theorem dX9_about_157 : decode cX9_about 157 = .ok (.bipush 10, 2) := by decide +kernel
theorem dX9_about_159 : decode cX9_about 159 = .ok (.aload_n 0, 1) := by decide +kernel
theorem dX9_about_160 : decode cX9_about 160 = .ok (.getfield 7, 3) := by decide +kernel
theorem dX9_about_163 : decode cX9_about 163 = .ok (.iload_n 2, 1) := by decide +kernel
theorem dX9_about_164 : decode cX9_about 164 = .ok (.iconst 1, 1) := by decide +kernel
theorem dX9_about_165 : decode cX9_about 165 = .ok (.iadd, 1) := by decide +kernel
theorem dX9_about_166 : decode cX9_about 166 = .ok (.iaload, 1) := by decide +kernel
theorem dX9_about_167 : decode cX9_about 167 = .ok (.imul, 1) := by decide +kernel
theorem dX9_about_168 : decode cX9_about 168 = .ok (.iadd, 1) := by decide +kernel
theorem dX9_about_169 : decode cX9_about 169 = .ok (.aload_n 0, 1) := by decide +kernel
theorem dX9_about_170 : decode cX9_about 170 = .ok (.getfield 7, 3) := by decide +kernel
theorem dX9_about_173 : decode cX9_about 173 = .ok (.iload_n 2, 1) := by decide +kernel
theorem dX9_about_174 : decode cX9_about 174 = .ok (.iconst 2, 1) := by decide +kernel
theorem dX9_about_175 : decode cX9_about 175 = .ok (.iadd, 1) := by decide +kernel
theorem dX9_about_176 : decode cX9_about 176 = .ok (.iaload, 1) := by decide +kernel
theorem dX9_about_177 : decode cX9_about 177 = .ok (.iadd, 1) := by decide +kernel
theorem dX9_about_178 : decode cX9_about 178 = .ok (.ireturn, 1) := by decide +kernel
theorem dX9_about_179 : decode cX9_about 179 = .ok (.iload_n 1, 1) := by decide +kernel
theorem dX9_about_180 : decode cX9_about 180 = .ok (.bipush 20, 2) := by decide +kernel
theorem dX9_about_182 : decode cX9_about 182 = .ok (.bipush 25, 2) := by decide +kernel
theorem dX9_about_184 : decode cX9_about 184 = .ok (.invokestatic 126, 3) := by decide +kernel
theorem dX9_about_187 : decode cX9_about 187 = .ok (.ifCond .eq 14, 3) := by decide +kernel
theorem dX9_about_190 : decode cX9_about 190 = .ok (.aload_n 0, 1) := by decide +kernel
theorem dX9_about_191 : decode cX9_about 191 = .ok (.iload_n 1, 1) := by decide +kernel
theorem dX9_about_192 : decode cX9_about 192 = .ok (.bipush 20, 2) := by decide +kernel
theorem dX9_about_194 : decode cX9_about 194 = .ok (.isub, 1) := by decide +kernel
theorem dX9_about_195 : decode cX9_about 195 = .ok (.invokevirtual 378, 3) := by decide +kernel
theorem dX9_about_198 : decode cX9_about 198 = .ok (.goto 5, 3) := by decide +kernel
theorem dX9_about_201 : decode cX9_about 201 = .ok (.bipush (-2), 2) := by decide +kernel
theorem dX9_about_203 : decode cX9_about 203 = .ok (.ireturn, 1) := by decide +kernel
