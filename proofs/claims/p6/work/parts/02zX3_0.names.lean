theorem dX3_fewest_0 : decode cX3_fewest 0 = .ok (.aload_n 0, 1) := by decide +kernel
theorem dX3_fewest_1 : decode cX3_fewest 1 = .ok (.iload 4, 2) := by decide +kernel
theorem dX3_fewest_3 : decode cX3_fewest 3 = .ok (.putfield 45, 3) := by decide +kernel
theorem dX3_fewest_6 : decode cX3_fewest 6 = .ok (.aload_n 0, 1) := by decide +kernel
theorem dX3_fewest_7 : decode cX3_fewest 7 = .ok (.lconst 1, 1) := by decide +kernel
theorem dX3_fewest_8 : decode cX3_fewest 8 = .ok (.putfield 41, 3) := by decide +kernel
theorem dX3_fewest_11 : decode cX3_fewest 11 = .ok (.aload_n 0, 1) := by decide +kernel
theorem dX3_fewest_12 : decode cX3_fewest 12 = .ok (.iconst 0, 1) := by decide +kernel
theorem dX3_fewest_13 : decode cX3_fewest 13 = .ok (.putfield 51, 3) := by decide +kernel
theorem dX3_fewest_16 : decode cX3_fewest 16 = .ok (.aload_n 0, 1) := by decide +kernel
theorem dX3_fewest_17 : decode cX3_fewest 17 = .ok (.iconst 4, 1) := by decide +kernel
theorem dX3_fewest_18 : decode cX3_fewest 18 = .ok (.aload_n 1, 1) := by decide +kernel
theorem dX3_fewest_19 : decode cX3_fewest 19 = .ok (.getfield 64, 3) := by decide +kernel
theorem dX3_fewest_22 : decode cX3_fewest 22 = .ok (.invokestatic 67, 3) := by decide +kernel
theorem dX3_fewest_25 : decode cX3_fewest 25 = .ok (.putfield 48, 3) := by decide +kernel
theorem dX3_fewest_28 : decode cX3_fewest 28 = .ok (.iconst 0, 1) := by decide +kernel
theorem dX3_fewest_29 : decode cX3_fewest 29 = .ok (.istore 5, 2) := by decide +kernel
theorem dX3_fewest_31 : decode cX3_fewest 31 = .ok (.iload 5, 2) := by decide +kernel
theorem dX3_fewest_33 : decode cX3_fewest 33 = .ok (.bipush 10, 2) := by decide +kernel
theorem dX3_fewest_35 : decode cX3_fewest 35 = .ok (.if_icmp .ge 60, 3) := by decide +kernel
theorem dX3_fewest_38 : decode cX3_fewest 38 = .ok (.aload_n 0, 1) := by decide +kernel
theorem dX3_fewest_39 : decode cX3_fewest 39 = .ok (.getfield 18, 3) := by decide +kernel
theorem dX3_fewest_42 : decode cX3_fewest 42 = .ok (.iload 5, 2) := by decide +kernel
theorem dX3_fewest_44 : decode cX3_fewest 44 = .ok (.aload_n 1, 1) := by decide +kernel
theorem dX3_fewest_45 : decode cX3_fewest 45 = .ok (.iload 5, 2) := by decide +kernel
theorem dX3_fewest_47 : decode cX3_fewest 47 = .ok (.invokevirtual 73, 3) := by decide +kernel
theorem dX3_fewest_50 : decode cX3_fewest 50 = .ok (.ifCond .eq 18, 3) := by decide +kernel
theorem dX3_fewest_53 : decode cX3_fewest 53 = .ok (.aload_n 1, 1) := by decide +kernel
theorem dX3_fewest_54 : decode cX3_fewest 54 = .ok (.iload 5, 2) := by decide +kernel
theorem dX3_fewest_56 : decode cX3_fewest 56 = .ok (.iconst 2, 1) := by decide +kernel
theorem dX3_fewest_57 : decode cX3_fewest 57 = .ok (.invokevirtual 77, 3) := by decide +kernel
theorem dX3_fewest_60 : decode cX3_fewest 60 = .ok (.iconst (-1), 1) := by decide +kernel
theorem dX3_fewest_61 : decode cX3_fewest 61 = .ok (.if_icmp .ne 7, 3) := by decide +kernel
theorem dX3_fewest_64 : decode cX3_fewest 64 = .ok (.iconst 1, 1) := by decide +kernel
theorem dX3_fewest_65 : decode cX3_fewest 65 = .ok (.goto 4, 3) := by decide +kernel
theorem dX3_fewest_68 : decode cX3_fewest 68 = .ok (.iconst 0, 1) := by decide +kernel
theorem dX3_fewest_69 : decode cX3_fewest 69 = .ok (.bastore, 1) := by decide +kernel
theorem dX3_fewest_70 : decode cX3_fewest 70 = .ok (.aload_n 0, 1) := by decide +kernel
theorem dX3_fewest_71 : decode cX3_fewest 71 = .ok (.getfield 18, 3) := by decide +kernel
theorem dX3_fewest_74 : decode cX3_fewest 74 = .ok (.iload 5, 2) := by decide +kernel
theorem dX3_fewest_76 : decode cX3_fewest 76 = .ok (.baload, 1) := by decide +kernel
theorem dX3_fewest_77 : decode cX3_fewest 77 = .ok (.ifCond .eq 12, 3) := by decide +kernel
theorem dX3_fewest_80 : decode cX3_fewest 80 = .ok (.aload_n 0, 1) := by decide +kernel
theorem dX3_fewest_81 : decode cX3_fewest 81 = .ok (.aload_n 1, 1) := by decide +kernel
theorem dX3_fewest_82 : decode cX3_fewest 82 = .ok (.aload_n 2, 1) := by decide +kernel
theorem dX3_fewest_83 : decode cX3_fewest 83 = .ok (.iload 5, 2) := by decide +kernel
theorem dX3_fewest_85 : decode cX3_fewest 85 = .ok (.iload_n 3, 1) := by decide +kernel
theorem dX3_fewest_86 : decode cX3_fewest 86 = .ok (.invokevirtual 80, 3) := by decide +kernel
theorem dX3_fewest_89 : decode cX3_fewest 89 = .ok (.iinc 5 1, 3) := by decide +kernel
theorem dX3_fewest_92 : decode cX3_fewest 92 = .ok (.goto (-61), 3) := by decide +kernel
theorem dX3_fewest_95 : decode cX3_fewest 95 = .ok (.iconst 1, 1) := by decide +kernel
theorem dX3_fewest_96 : decode cX3_fewest 96 = .ok (.istore 5, 2) := by decide +kernel
theorem dX3_fewest_98 : decode cX3_fewest 98 = .ok (.iload 5, 2) := by decide +kernel
theorem dX3_fewest_100 : decode cX3_fewest 100 = .ok (.iconst 3, 1) := by decide +kernel
theorem dX3_fewest_101 : decode cX3_fewest 101 = .ok (.if_icmp .gt 45, 3) := by decide +kernel
theorem dX3_fewest_104 : decode cX3_fewest 104 = .ok (.aload_n 0, 1) := by decide +kernel
theorem dX3_fewest_105 : decode cX3_fewest 105 = .ok (.iload 5, 2) := by decide +kernel
theorem dX3_fewest_107 : decode cX3_fewest 107 = .ok (.putfield 37, 3) := by decide +kernel
theorem dX3_fewest_110 : decode cX3_fewest 110 = .ok (.aload_n 0, 1) := by decide +kernel
theorem dX3_fewest_111 : decode cX3_fewest 111 = .ok (.dup, 1) := by decide +kernel
theorem dX3_fewest_112 : decode cX3_fewest 112 = .ok (.getfield 41, 3) := by decide +kernel
theorem dX3_fewest_115 : decode cX3_fewest 115 = .ok (.ldc2_w 84, 3) := by decide +kernel
theorem dX3_fewest_118 : decode cX3_fewest 118 = .ok (.lmul, 1) := by decide +kernel
theorem dX3_fewest_119 : decode cX3_fewest 119 = .ok (.putfield 41, 3) := by decide +kernel
theorem dX3_fewest_122 : decode cX3_fewest 122 = .ok (.aload_n 0, 1) := by decide +kernel
theorem dX3_fewest_123 : decode cX3_fewest 123 = .ok (.iconst 0, 1) := by decide +kernel
theorem dX3_fewest_124 : decode cX3_fewest 124 = .ok (.iconst 0, 1) := by decide +kernel
theorem dX3_fewest_125 : decode cX3_fewest 125 = .ok (.invokevirtual 86, 3) := by decide +kernel
theorem dX3_fewest_128 : decode cX3_fewest 128 = .ok (.aload_n 0, 1) := by decide +kernel
theorem dX3_fewest_129 : decode cX3_fewest 129 = .ok (.getfield 51, 3) := by decide +kernel
theorem dX3_fewest_132 : decode cX3_fewest 132 = .ok (.ifCond .eq 8, 3) := by decide +kernel
theorem dX3_fewest_135 : decode cX3_fewest 135 = .ok (.aload_n 0, 1) := by decide +kernel
theorem dX3_fewest_136 : decode cX3_fewest 136 = .ok (.getfield 37, 3) := by decide +kernel
theorem dX3_fewest_139 : decode cX3_fewest 139 = .ok (.ireturn, 1) := by decide +kernel
theorem dX3_fewest_140 : decode cX3_fewest 140 = .ok (.iinc 5 1, 3) := by decide +kernel
theorem dX3_fewest_143 : decode cX3_fewest 143 = .ok (.goto (-45), 3) := by decide +kernel
theorem dX3_fewest_146 : decode cX3_fewest 146 = .ok (.iconst 0, 1) := by decide +kernel
theorem dX3_fewest_147 : decode cX3_fewest 147 = .ok (.ireturn, 1) := by decide +kernel
theorem dX3_choiceOf_0 : decode cX3_choiceOf 0 = .ok (.iconst 0, 1) := by decide +kernel
theorem dX3_choiceOf_1 : decode cX3_choiceOf 1 = .ok (.istore_n 2, 1) := by decide +kernel
theorem dX3_choiceOf_2 : decode cX3_choiceOf 2 = .ok (.iload_n 2, 1) := by decide +kernel
theorem dX3_choiceOf_3 : decode cX3_choiceOf 3 = .ok (.aload_n 0, 1) := by decide +kernel
theorem dX3_choiceOf_4 : decode cX3_choiceOf 4 = .ok (.getfield 37, 3) := by decide +kernel
theorem dX3_choiceOf_7 : decode cX3_choiceOf 7 = .ok (.if_icmp .ge 31, 3) := by decide +kernel
theorem dX3_choiceOf_10 : decode cX3_choiceOf 10 = .ok (.iload_n 2, 1) := by decide +kernel
theorem dX3_choiceOf_11 : decode cX3_choiceOf 11 = .ok (.iconst 3, 1) := by decide +kernel
theorem dX3_choiceOf_12 : decode cX3_choiceOf 12 = .ok (.if_icmp .ge 26, 3) := by decide +kernel
theorem dX3_choiceOf_15 : decode cX3_choiceOf 15 = .ok (.aload_n 0, 1) := by decide +kernel
theorem dX3_choiceOf_16 : decode cX3_choiceOf 16 = .ok (.getfield 31, 3) := by decide +kernel
theorem dX3_choiceOf_19 : decode cX3_choiceOf 19 = .ok (.iload_n 2, 1) := by decide +kernel
theorem dX3_choiceOf_20 : decode cX3_choiceOf 20 = .ok (.iaload, 1) := by decide +kernel
theorem dX3_choiceOf_21 : decode cX3_choiceOf 21 = .ok (.iload_n 1, 1) := by decide +kernel
theorem dX3_choiceOf_22 : decode cX3_choiceOf 22 = .ok (.if_icmp .ne 10, 3) := by decide +kernel
theorem dX3_choiceOf_25 : decode cX3_choiceOf 25 = .ok (.aload_n 0, 1) := by decide +kernel
theorem dX3_choiceOf_26 : decode cX3_choiceOf 26 = .ok (.getfield 34, 3) := by decide +kernel
theorem dX3_choiceOf_29 : decode cX3_choiceOf 29 = .ok (.iload_n 2, 1) := by decide +kernel
theorem dX3_choiceOf_30 : decode cX3_choiceOf 30 = .ok (.iaload, 1) := by decide +kernel
theorem dX3_choiceOf_31 : decode cX3_choiceOf 31 = .ok (.ireturn, 1) := by decide +kernel
theorem dX3_choiceOf_32 : decode cX3_choiceOf 32 = .ok (.iinc 2 1, 3) := by decide +kernel
theorem dX3_choiceOf_35 : decode cX3_choiceOf 35 = .ok (.goto (-33), 3) := by decide +kernel
theorem dX3_choiceOf_38 : decode cX3_choiceOf 38 = .ok (.iconst (-1), 1) := by decide +kernel
theorem dX3_choiceOf_39 : decode cX3_choiceOf 39 = .ok (.ireturn, 1) := by decide +kernel
theorem dX3_cell_0 : decode cX3_cell 0 = .ok (.iload_n 0, 1) := by decide +kernel
theorem dX3_cell_1 : decode cX3_cell 1 = .ok (.iconst 3, 1) := by decide +kernel
theorem dX3_cell_2 : decode cX3_cell 2 = .ok (.imul, 1) := by decide +kernel
theorem dX3_cell_3 : decode cX3_cell 3 = .ok (.iload_n 1, 1) := by decide +kernel
theorem dX3_cell_4 : decode cX3_cell 4 = .ok (.iadd, 1) := by decide +kernel
theorem dX3_cell_5 : decode cX3_cell 5 = .ok (.iconst 5, 1) := by decide +kernel
theorem dX3_cell_6 : decode cX3_cell 6 = .ok (.imul, 1) := by decide +kernel
theorem dX3_cell_7 : decode cX3_cell 7 = .ok (.iload_n 2, 1) := by decide +kernel
theorem dX3_cell_8 : decode cX3_cell 8 = .ok (.iadd, 1) := by decide +kernel
theorem dX3_cell_9 : decode cX3_cell 9 = .ok (.ireturn, 1) := by decide +kernel
theorem dX3_weighGoose_0 : decode cX3_weighGoose 0 = .ok (.iconst 0, 1) := by decide +kernel
theorem dX3_weighGoose_1 : decode cX3_weighGoose 1 = .ok (.istore 5, 2) := by decide +kernel
theorem dX3_weighGoose_3 : decode cX3_weighGoose 3 = .ok (.iload 5, 2) := by decide +kernel
theorem dX3_weighGoose_5 : decode cX3_weighGoose 5 = .ok (.iconst 3, 1) := by decide +kernel
theorem dX3_weighGoose_6 : decode cX3_weighGoose 6 = .ok (.if_icmp .ge 204, 3) := by decide +kernel
theorem dX3_weighGoose_9 : decode cX3_weighGoose 9 = .ok (.aload_n 2, 1) := by decide +kernel
theorem dX3_weighGoose_10 : decode cX3_weighGoose 10 = .ok (.aload_n 1, 1) := by decide +kernel
theorem dX3_weighGoose_11 : decode cX3_weighGoose 11 = .ok (.iload_n 3, 1) := by decide +kernel
theorem dX3_weighGoose_12 : decode cX3_weighGoose 12 = .ok (.iload 4, 2) := by decide +kernel
theorem dX3_weighGoose_14 : decode cX3_weighGoose 14 = .ok (.iload 5, 2) := by decide +kernel
theorem dX3_weighGoose_16 : decode cX3_weighGoose 16 = .ok (.invokevirtual 90, 3) := by decide +kernel
theorem dX3_weighGoose_19 : decode cX3_weighGoose 19 = .ok (.aload_n 2, 1) := by decide +kernel
theorem dX3_weighGoose_20 : decode cX3_weighGoose 20 = .ok (.aload_n 1, 1) := by decide +kernel
theorem dX3_weighGoose_21 : decode cX3_weighGoose 21 = .ok (.iconst 3, 1) := by decide +kernel
theorem dX3_weighGoose_22 : decode cX3_weighGoose 22 = .ok (.invokevirtual 96, 3) := by decide +kernel
theorem dX3_weighGoose_25 : decode cX3_weighGoose 25 = .ok (.ifCond .eq 7, 3) := by decide +kernel
theorem dX3_weighGoose_28 : decode cX3_weighGoose 28 = .ok (.iconst 1, 1) := by decide +kernel
theorem dX3_weighGoose_29 : decode cX3_weighGoose 29 = .ok (.goto 4, 3) := by decide +kernel
theorem dX3_weighGoose_32 : decode cX3_weighGoose 32 = .ok (.iconst 0, 1) := by decide +kernel
theorem dX3_weighGoose_33 : decode cX3_weighGoose 33 = .ok (.istore 6, 2) := by decide +kernel
theorem dX3_weighGoose_35 : decode cX3_weighGoose 35 = .ok (.iload_n 3, 1) := by decide +kernel
theorem dX3_weighGoose_36 : decode cX3_weighGoose 36 = .ok (.iload 5, 2) := by decide +kernel
theorem dX3_weighGoose_38 : decode cX3_weighGoose 38 = .ok (.iconst 4, 1) := by decide +kernel
theorem dX3_weighGoose_39 : decode cX3_weighGoose 39 = .ok (.invokestatic 100, 3) := by decide +kernel
theorem dX3_weighGoose_42 : decode cX3_weighGoose 42 = .ok (.istore 7, 2) := by decide +kernel
theorem dX3_weighGoose_44 : decode cX3_weighGoose 44 = .ok (.aload_n 0, 1) := by decide +kernel
theorem dX3_weighGoose_45 : decode cX3_weighGoose 45 = .ok (.getfield 11, 3) := by decide +kernel
theorem dX3_weighGoose_48 : decode cX3_weighGoose 48 = .ok (.iload 7, 2) := by decide +kernel
theorem dX3_weighGoose_50 : decode cX3_weighGoose 50 = .ok (.iconst 0, 1) := by decide +kernel
theorem dX3_weighGoose_51 : decode cX3_weighGoose 51 = .ok (.iastore, 1) := by decide +kernel
theorem dX3_weighGoose_52 : decode cX3_weighGoose 52 = .ok (.aload_n 0, 1) := by decide +kernel
theorem dX3_weighGoose_53 : decode cX3_weighGoose 53 = .ok (.getfield 15, 3) := by decide +kernel
theorem dX3_weighGoose_56 : decode cX3_weighGoose 56 = .ok (.iload 7, 2) := by decide +kernel
theorem dX3_weighGoose_58 : decode cX3_weighGoose 58 = .ok (.bipush 100, 2) := by decide +kernel
theorem dX3_weighGoose_60 : decode cX3_weighGoose 60 = .ok (.iastore, 1) := by decide +kernel
theorem dX3_weighGoose_61 : decode cX3_weighGoose 61 = .ok (.iconst 0, 1) := by decide +kernel
theorem dX3_weighGoose_62 : decode cX3_weighGoose 62 = .ok (.istore 8, 2) := by decide +kernel
theorem dX3_weighGoose_64 : decode cX3_weighGoose 64 = .ok (.iload 8, 2) := by decide +kernel
theorem dX3_weighGoose_66 : decode cX3_weighGoose 66 = .ok (.aload_n 0, 1) := by decide +kernel
theorem dX3_weighGoose_67 : decode cX3_weighGoose 67 = .ok (.getfield 48, 3) := by decide +kernel
theorem dX3_weighGoose_70 : decode cX3_weighGoose 70 = .ok (.if_icmp .ge 134, 3) := by decide +kernel
theorem dX3_weighGoose_73 : decode cX3_weighGoose 73 = .ok (.aload_n 2, 1) := by decide +kernel
theorem dX3_weighGoose_74 : decode cX3_weighGoose 74 = .ok (.aload_n 1, 1) := by decide +kernel
theorem dX3_weighGoose_75 : decode cX3_weighGoose 75 = .ok (.iload 8, 2) := by decide +kernel
theorem dX3_weighGoose_77 : decode cX3_weighGoose 77 = .ok (.aload_n 1, 1) := by decide +kernel
theorem dX3_weighGoose_78 : decode cX3_weighGoose 78 = .ok (.getfield 104, 3) := by decide +kernel
theorem dX3_weighGoose_81 : decode cX3_weighGoose 81 = .ok (.aload_n 1, 1) := by decide +kernel
theorem dX3_weighGoose_82 : decode cX3_weighGoose 82 = .ok (.iload 8, 2) := by decide +kernel
theorem dX3_weighGoose_84 : decode cX3_weighGoose 84 = .ok (.iconst 0, 1) := by decide +kernel
theorem dX3_weighGoose_85 : decode cX3_weighGoose 85 = .ok (.invokevirtual 107, 3) := by decide +kernel
theorem dX3_weighGoose_88 : decode cX3_weighGoose 88 = .ok (.iadd, 1) := by decide +kernel
theorem dX3_weighGoose_89 : decode cX3_weighGoose 89 = .ok (.invokevirtual 110, 3) := by decide +kernel
theorem dX3_weighGoose_92 : decode cX3_weighGoose 92 = .ok (.aload_n 2, 1) := by decide +kernel
theorem dX3_weighGoose_93 : decode cX3_weighGoose 93 = .ok (.aload_n 1, 1) := by decide +kernel
theorem dX3_weighGoose_94 : decode cX3_weighGoose 94 = .ok (.iconst 0, 1) := by decide +kernel
theorem dX3_weighGoose_95 : decode cX3_weighGoose 95 = .ok (.invokevirtual 96, 3) := by decide +kernel
theorem dX3_weighGoose_98 : decode cX3_weighGoose 98 = .ok (.istore 9, 2) := by decide +kernel
theorem dX3_weighGoose_100 : decode cX3_weighGoose 100 = .ok (.iload_n 3, 1) := by decide +kernel
theorem dX3_weighGoose_101 : decode cX3_weighGoose 101 = .ok (.iload 5, 2) := by decide +kernel
theorem dX3_weighGoose_103 : decode cX3_weighGoose 103 = .ok (.iload 8, 2) := by decide +kernel
theorem dX3_weighGoose_105 : decode cX3_weighGoose 105 = .ok (.invokestatic 100, 3) := by decide +kernel
theorem dX3_weighGoose_108 : decode cX3_weighGoose 108 = .ok (.istore 10, 2) := by decide +kernel
theorem dX3_weighGoose_110 : decode cX3_weighGoose 110 = .ok (.aload_n 0, 1) := by decide +kernel
theorem dX3_weighGoose_111 : decode cX3_weighGoose 111 = .ok (.getfield 11, 3) := by decide +kernel
theorem dX3_weighGoose_114 : decode cX3_weighGoose 114 = .ok (.iload 10, 2) := by decide +kernel
theorem dX3_weighGoose_116 : decode cX3_weighGoose 116 = .ok (.iload 6, 2) := by decide +kernel
theorem dX3_weighGoose_118 : decode cX3_weighGoose 118 = .ok (.ifCond .eq 14, 3) := by decide +kernel
theorem dX3_weighGoose_121 : decode cX3_weighGoose 121 = .ok (.bipush 10, 2) := by decide +kernel
theorem dX3_weighGoose_123 : decode cX3_weighGoose 123 = .ok (.iload 9, 2) := by decide +kernel
theorem dX3_weighGoose_125 : decode cX3_weighGoose 125 = .ok (.isub, 1) := by decide +kernel
theorem dX3_weighGoose_126 : decode cX3_weighGoose 126 = .ok (.bipush 10, 2) := by decide +kernel
theorem dX3_weighGoose_128 : decode cX3_weighGoose 128 = .ok (.imul, 1) := by decide +kernel
theorem dX3_weighGoose_129 : decode cX3_weighGoose 129 = .ok (.goto 4, 3) := by decide +kernel
theorem dX3_weighGoose_132 : decode cX3_weighGoose 132 = .ok (.iconst 0, 1) := by decide +kernel
theorem dX3_weighGoose_133 : decode cX3_weighGoose 133 = .ok (.iastore, 1) := by decide +kernel
theorem dX3_weighGoose_134 : decode cX3_weighGoose 134 = .ok (.aload_n 0, 1) := by decide +kernel
theorem dX3_weighGoose_135 : decode cX3_weighGoose 135 = .ok (.getfield 15, 3) := by decide +kernel
theorem dX3_weighGoose_138 : decode cX3_weighGoose 138 = .ok (.iload 10, 2) := by decide +kernel
theorem dX3_weighGoose_140 : decode cX3_weighGoose 140 = .ok (.iload 9, 2) := by decide +kernel
theorem dX3_weighGoose_142 : decode cX3_weighGoose 142 = .ok (.aload_n 2, 1) := by decide +kernel
theorem dX3_weighGoose_143 : decode cX3_weighGoose 143 = .ok (.aload_n 1, 1) := by decide +kernel
theorem dX3_weighGoose_144 : decode cX3_weighGoose 144 = .ok (.iconst 1, 1) := by decide +kernel
theorem dX3_weighGoose_145 : decode cX3_weighGoose 145 = .ok (.invokevirtual 96, 3) := by decide +kernel
theorem dX3_weighGoose_148 : decode cX3_weighGoose 148 = .ok (.imul, 1) := by decide +kernel
theorem dX3_weighGoose_149 : decode cX3_weighGoose 149 = .ok (.iastore, 1) := by decide +kernel
theorem dX3_weighGoose_150 : decode cX3_weighGoose 150 = .ok (.aload_n 0, 1) := by decide +kernel
theorem dX3_weighGoose_151 : decode cX3_weighGoose 151 = .ok (.getfield 11, 3) := by decide +kernel
theorem dX3_weighGoose_154 : decode cX3_weighGoose 154 = .ok (.iload 7, 2) := by decide +kernel
theorem dX3_weighGoose_156 : decode cX3_weighGoose 156 = .ok (.aload_n 0, 1) := by decide +kernel
theorem dX3_weighGoose_157 : decode cX3_weighGoose 157 = .ok (.getfield 11, 3) := by decide +kernel
theorem dX3_weighGoose_160 : decode cX3_weighGoose 160 = .ok (.iload 7, 2) := by decide +kernel
theorem dX3_weighGoose_162 : decode cX3_weighGoose 162 = .ok (.iaload, 1) := by decide +kernel
theorem dX3_weighGoose_163 : decode cX3_weighGoose 163 = .ok (.aload_n 0, 1) := by decide +kernel
theorem dX3_weighGoose_164 : decode cX3_weighGoose 164 = .ok (.getfield 11, 3) := by decide +kernel
theorem dX3_weighGoose_167 : decode cX3_weighGoose 167 = .ok (.iload 10, 2) := by decide +kernel
theorem dX3_weighGoose_169 : decode cX3_weighGoose 169 = .ok (.iaload, 1) := by decide +kernel
theorem dX3_weighGoose_170 : decode cX3_weighGoose 170 = .ok (.invokestatic 114, 3) := by decide +kernel
theorem dX3_weighGoose_173 : decode cX3_weighGoose 173 = .ok (.iastore, 1) := by decide +kernel
theorem dX3_weighGoose_174 : decode cX3_weighGoose 174 = .ok (.aload_n 0, 1) := by decide +kernel
theorem dX3_weighGoose_175 : decode cX3_weighGoose 175 = .ok (.getfield 15, 3) := by decide +kernel
theorem dX3_weighGoose_178 : decode cX3_weighGoose 178 = .ok (.iload 7, 2) := by decide +kernel
theorem dX3_weighGoose_180 : decode cX3_weighGoose 180 = .ok (.aload_n 0, 1) := by decide +kernel
theorem dX3_weighGoose_181 : decode cX3_weighGoose 181 = .ok (.getfield 15, 3) := by decide +kernel
theorem dX3_weighGoose_184 : decode cX3_weighGoose 184 = .ok (.iload 7, 2) := by decide +kernel
theorem dX3_weighGoose_186 : decode cX3_weighGoose 186 = .ok (.iaload, 1) := by decide +kernel
theorem dX3_weighGoose_187 : decode cX3_weighGoose 187 = .ok (.aload_n 0, 1) := by decide +kernel
theorem dX3_weighGoose_188 : decode cX3_weighGoose 188 = .ok (.getfield 15, 3) := by decide +kernel
theorem dX3_weighGoose_191 : decode cX3_weighGoose 191 = .ok (.iload 10, 2) := by decide +kernel
theorem dX3_weighGoose_193 : decode cX3_weighGoose 193 = .ok (.iaload, 1) := by decide +kernel
theorem dX3_weighGoose_194 : decode cX3_weighGoose 194 = .ok (.invokestatic 67, 3) := by decide +kernel
theorem dX3_weighGoose_197 : decode cX3_weighGoose 197 = .ok (.iastore, 1) := by decide +kernel
theorem dX3_weighGoose_198 : decode cX3_weighGoose 198 = .ok (.iinc 8 1, 3) := by decide +kernel
theorem dX3_weighGoose_201 : decode cX3_weighGoose 201 = .ok (.goto (-137), 3) := by decide +kernel
theorem dX3_weighGoose_204 : decode cX3_weighGoose 204 = .ok (.iinc 5 1, 3) := by decide +kernel
theorem dX3_weighGoose_207 : decode cX3_weighGoose 207 = .ok (.goto (-204), 3) := by decide +kernel
theorem dX3_weighGoose_210 : decode cX3_weighGoose 210 = .ok (.return_, 1) := by decide +kernel
theorem dX3_tryGeese_0 : decode cX3_tryGeese 0 = .ok (.iload_n 1, 1) := by decide +kernel
theorem dX3_tryGeese_1 : decode cX3_tryGeese 1 = .ok (.aload_n 0, 1) := by decide +kernel
theorem dX3_tryGeese_2 : decode cX3_tryGeese 2 = .ok (.getfield 37, 3) := by decide +kernel
theorem dX3_tryGeese_5 : decode cX3_tryGeese 5 = .ok (.if_icmp .ge 8, 3) := by decide +kernel
theorem dX3_tryGeese_8 : decode cX3_tryGeese 8 = .ok (.iload_n 1, 1) := by decide +kernel
theorem dX3_tryGeese_9 : decode cX3_tryGeese 9 = .ok (.iconst 3, 1) := by decide +kernel
theorem dX3_tryGeese_10 : decode cX3_tryGeese 10 = .ok (.if_icmp .lt 8, 3) := by decide +kernel
theorem dX3_tryGeese_13 : decode cX3_tryGeese 13 = .ok (.aload_n 0, 1) := by decide +kernel
theorem dX3_tryGeese_14 : decode cX3_tryGeese 14 = .ok (.invokevirtual 117, 3) := by decide +kernel
theorem dX3_tryGeese_17 : decode cX3_tryGeese 17 = .ok (.return_, 1) := by decide +kernel
theorem dX3_tryGeese_18 : decode cX3_tryGeese 18 = .ok (.iload_n 2, 1) := by decide +kernel
theorem dX3_tryGeese_19 : decode cX3_tryGeese 19 = .ok (.istore_n 3, 1) := by decide +kernel
theorem dX3_tryGeese_20 : decode cX3_tryGeese 20 = .ok (.iload_n 3, 1) := by decide +kernel
theorem dX3_tryGeese_21 : decode cX3_tryGeese 21 = .ok (.bipush 10, 2) := by decide +kernel
theorem dX3_tryGeese_23 : decode cX3_tryGeese 23 = .ok (.if_icmp .ge 35, 3) := by decide +kernel
theorem dX3_tryGeese_26 : decode cX3_tryGeese 26 = .ok (.aload_n 0, 1) := by decide +kernel
theorem dX3_tryGeese_27 : decode cX3_tryGeese 27 = .ok (.getfield 18, 3) := by decide +kernel
theorem dX3_tryGeese_30 : decode cX3_tryGeese 30 = .ok (.iload_n 3, 1) := by decide +kernel
theorem dX3_tryGeese_31 : decode cX3_tryGeese 31 = .ok (.baload, 1) := by decide +kernel
theorem dX3_tryGeese_32 : decode cX3_tryGeese 32 = .ok (.ifCond .eq 20, 3) := by decide +kernel
theorem dX3_tryGeese_35 : decode cX3_tryGeese 35 = .ok (.aload_n 0, 1) := by decide +kernel
theorem dX3_tryGeese_36 : decode cX3_tryGeese 36 = .ok (.getfield 22, 3) := by decide +kernel
theorem dX3_tryGeese_39 : decode cX3_tryGeese 39 = .ok (.iload_n 1, 1) := by decide +kernel
theorem dX3_tryGeese_40 : decode cX3_tryGeese 40 = .ok (.iload_n 3, 1) := by decide +kernel
theorem dX3_tryGeese_41 : decode cX3_tryGeese 41 = .ok (.iastore, 1) := by decide +kernel
theorem dX3_tryGeese_42 : decode cX3_tryGeese 42 = .ok (.aload_n 0, 1) := by decide +kernel
theorem dX3_tryGeese_43 : decode cX3_tryGeese 43 = .ok (.iload_n 1, 1) := by decide +kernel
theorem dX3_tryGeese_44 : decode cX3_tryGeese 44 = .ok (.iconst 1, 1) := by decide +kernel
theorem dX3_tryGeese_45 : decode cX3_tryGeese 45 = .ok (.iadd, 1) := by decide +kernel
theorem dX3_tryGeese_46 : decode cX3_tryGeese 46 = .ok (.iload_n 3, 1) := by decide +kernel
theorem dX3_tryGeese_47 : decode cX3_tryGeese 47 = .ok (.iconst 1, 1) := by decide +kernel
theorem dX3_tryGeese_48 : decode cX3_tryGeese 48 = .ok (.iadd, 1) := by decide +kernel
theorem dX3_tryGeese_49 : decode cX3_tryGeese 49 = .ok (.invokevirtual 86, 3) := by decide +kernel
theorem dX3_tryGeese_52 : decode cX3_tryGeese 52 = .ok (.iinc 3 1, 3) := by decide +kernel
theorem dX3_tryGeese_55 : decode cX3_tryGeese 55 = .ok (.goto (-35), 3) := by decide +kernel
theorem dX3_tryGeese_58 : decode cX3_tryGeese 58 = .ok (.return_, 1) := by decide +kernel
theorem dX3_tryPatterns_0 : decode cX3_tryPatterns 0 = .ok (.aload_n 0, 1) := by decide +kernel
theorem dX3_tryPatterns_1 : decode cX3_tryPatterns 1 = .ok (.iconst 0, 1) := by decide +kernel
theorem dX3_tryPatterns_2 : decode cX3_tryPatterns 2 = .ok (.putfield 55, 3) := by decide +kernel
theorem dX3_tryPatterns_5 : decode cX3_tryPatterns 5 = .ok (.aload_n 0, 1) := by decide +kernel
theorem dX3_tryPatterns_6 : decode cX3_tryPatterns 6 = .ok (.getfield 37, 3) := by decide +kernel
theorem dX3_tryPatterns_9 : decode cX3_tryPatterns 9 = .ok (.ifCond .lt 25, 3) := by decide +kernel
theorem dX3_tryPatterns_12 : decode cX3_tryPatterns 12 = .ok (.aload_n 0, 1) := by decide +kernel
theorem dX3_tryPatterns_13 : decode cX3_tryPatterns 13 = .ok (.getfield 37, 3) := by decide +kernel
theorem dX3_tryPatterns_16 : decode cX3_tryPatterns 16 = .ok (.getstatic 120, 3) := by decide +kernel
theorem dX3_tryPatterns_19 : decode cX3_tryPatterns 19 = .ok (.arraylength, 1) := by decide +kernel
theorem dX3_tryPatterns_20 : decode cX3_tryPatterns 20 = .ok (.if_icmp .ge 14, 3) := by decide +kernel
theorem dX3_tryPatterns_23 : decode cX3_tryPatterns 23 = .ok (.getstatic 120, 3) := by decide +kernel
theorem dX3_tryPatterns_26 : decode cX3_tryPatterns 26 = .ok (.aload_n 0, 1) := by decide +kernel
theorem dX3_tryPatterns_27 : decode cX3_tryPatterns 27 = .ok (.getfield 37, 3) := by decide +kernel
theorem dX3_tryPatterns_30 : decode cX3_tryPatterns 30 = .ok (.iaload, 1) := by decide +kernel
theorem dX3_tryPatterns_31 : decode cX3_tryPatterns 31 = .ok (.goto 4, 3) := by decide +kernel
theorem dX3_tryPatterns_34 : decode cX3_tryPatterns 34 = .ok (.iconst 0, 1) := by decide +kernel
theorem dX3_tryPatterns_35 : decode cX3_tryPatterns 35 = .ok (.istore_n 1, 1) := by decide +kernel
theorem dX3_tryPatterns_36 : decode cX3_tryPatterns 36 = .ok (.iconst 0, 1) := by decide +kernel
theorem dX3_tryPatterns_37 : decode cX3_tryPatterns 37 = .ok (.istore_n 2, 1) := by decide +kernel
theorem dX3_tryPatterns_38 : decode cX3_tryPatterns 38 = .ok (.iload_n 2, 1) := by decide +kernel
theorem dX3_tryPatterns_39 : decode cX3_tryPatterns 39 = .ok (.iload_n 1, 1) := by decide +kernel
theorem dX3_tryPatterns_40 : decode cX3_tryPatterns 40 = .ok (.if_icmp .ge 112, 3) := by decide +kernel
theorem dX3_tryPatterns_43 : decode cX3_tryPatterns 43 = .ok (.iload_n 2, 1) := by decide +kernel
theorem dX3_tryPatterns_44 : decode cX3_tryPatterns 44 = .ok (.getstatic 123, 3) := by decide +kernel
theorem dX3_tryPatterns_47 : decode cX3_tryPatterns 47 = .ok (.arraylength, 1) := by decide +kernel
theorem dX3_tryPatterns_48 : decode cX3_tryPatterns 48 = .ok (.if_icmp .ge 104, 3) := by decide +kernel
theorem dX3_tryPatterns_51 : decode cX3_tryPatterns 51 = .ok (.getstatic 123, 3) := by decide +kernel
theorem dX3_tryPatterns_54 : decode cX3_tryPatterns 54 = .ok (.iload_n 2, 1) := by decide +kernel
theorem dX3_tryPatterns_55 : decode cX3_tryPatterns 55 = .ok (.iaload, 1) := by decide +kernel
theorem dX3_tryPatterns_56 : decode cX3_tryPatterns 56 = .ok (.istore_n 3, 1) := by decide +kernel
theorem dX3_tryPatterns_57 : decode cX3_tryPatterns 57 = .ok (.aload_n 0, 1) := by decide +kernel
theorem dX3_tryPatterns_58 : decode cX3_tryPatterns 58 = .ok (.getfield 37, 3) := by decide +kernel
theorem dX3_tryPatterns_61 : decode cX3_tryPatterns 61 = .ok (.iconst 3, 1) := by decide +kernel
theorem dX3_tryPatterns_62 : decode cX3_tryPatterns 62 = .ok (.invokestatic 67, 3) := by decide +kernel
theorem dX3_tryPatterns_65 : decode cX3_tryPatterns 65 = .ok (.iconst 1, 1) := by decide +kernel
theorem dX3_tryPatterns_66 : decode cX3_tryPatterns 66 = .ok (.isub, 1) := by decide +kernel
theorem dX3_tryPatterns_67 : decode cX3_tryPatterns 67 = .ok (.istore 4, 2) := by decide +kernel
theorem dX3_tryPatterns_69 : decode cX3_tryPatterns 69 = .ok (.iload 4, 2) := by decide +kernel
theorem dX3_tryPatterns_71 : decode cX3_tryPatterns 71 = .ok (.ifCond .lt 33, 3) := by decide +kernel
theorem dX3_tryPatterns_74 : decode cX3_tryPatterns 74 = .ok (.aload_n 0, 1) := by decide +kernel
theorem dX3_tryPatterns_75 : decode cX3_tryPatterns 75 = .ok (.getfield 25, 3) := by decide +kernel
theorem dX3_tryPatterns_78 : decode cX3_tryPatterns 78 = .ok (.iload 4, 2) := by decide +kernel
theorem dX3_tryPatterns_80 : decode cX3_tryPatterns 80 = .ok (.iload_n 3, 1) := by decide +kernel
theorem dX3_tryPatterns_81 : decode cX3_tryPatterns 81 = .ok (.bipush 10, 2) := by decide +kernel
theorem dX3_tryPatterns_83 : decode cX3_tryPatterns 83 = .ok (.irem, 1) := by decide +kernel
theorem dX3_tryPatterns_84 : decode cX3_tryPatterns 84 = .ok (.iastore, 1) := by decide +kernel
theorem dX3_tryPatterns_85 : decode cX3_tryPatterns 85 = .ok (.iload_n 3, 1) := by decide +kernel
theorem dX3_tryPatterns_86 : decode cX3_tryPatterns 86 = .ok (.bipush 10, 2) := by decide +kernel
theorem dX3_tryPatterns_88 : decode cX3_tryPatterns 88 = .ok (.idiv, 1) := by decide +kernel
theorem dX3_tryPatterns_89 : decode cX3_tryPatterns 89 = .ok (.istore_n 3, 1) := by decide +kernel
theorem dX3_tryPatterns_90 : decode cX3_tryPatterns 90 = .ok (.aload_n 0, 1) := by decide +kernel
theorem dX3_tryPatterns_91 : decode cX3_tryPatterns 91 = .ok (.getfield 28, 3) := by decide +kernel
theorem dX3_tryPatterns_94 : decode cX3_tryPatterns 94 = .ok (.iload 4, 2) := by decide +kernel
theorem dX3_tryPatterns_96 : decode cX3_tryPatterns 96 = .ok (.iconst 4, 1) := by decide +kernel
theorem dX3_tryPatterns_97 : decode cX3_tryPatterns 97 = .ok (.iastore, 1) := by decide +kernel
theorem dX3_tryPatterns_98 : decode cX3_tryPatterns 98 = .ok (.iinc 4 (-1), 3) := by decide +kernel
theorem dX3_tryPatterns_101 : decode cX3_tryPatterns 101 = .ok (.goto (-32), 3) := by decide +kernel
theorem dX3_tryPatterns_104 : decode cX3_tryPatterns 104 = .ok (.aload_n 0, 1) := by decide +kernel
theorem dX3_tryPatterns_105 : decode cX3_tryPatterns 105 = .ok (.aload_n 0, 1) := by decide +kernel
theorem dX3_tryPatterns_106 : decode cX3_tryPatterns 106 = .ok (.aload_n 0, 1) := by decide +kernel
theorem dX3_tryPatterns_107 : decode cX3_tryPatterns 107 = .ok (.getfield 11, 3) := by decide +kernel
theorem dX3_tryPatterns_110 : decode cX3_tryPatterns 110 = .ok (.invokevirtual 126, 3) := by decide +kernel
theorem dX3_tryPatterns_113 : decode cX3_tryPatterns 113 = .ok (.invokevirtual 130, 3) := by decide +kernel
theorem dX3_tryPatterns_116 : decode cX3_tryPatterns 116 = .ok (.ifCond .eq 30, 3) := by decide +kernel
theorem dX3_tryPatterns_119 : decode cX3_tryPatterns 119 = .ok (.aload_n 0, 1) := by decide +kernel
theorem dX3_tryPatterns_120 : decode cX3_tryPatterns 120 = .ok (.getfield 55, 3) := by decide +kernel
theorem dX3_tryPatterns_123 : decode cX3_tryPatterns 123 = .ok (.ifCond .ne 18, 3) := by decide +kernel
theorem dX3_tryPatterns_126 : decode cX3_tryPatterns 126 = .ok (.aload_n 0, 1) := by decide +kernel
theorem dX3_tryPatterns_127 : decode cX3_tryPatterns 127 = .ok (.aload_n 0, 1) := by decide +kernel
theorem dX3_tryPatterns_128 : decode cX3_tryPatterns 128 = .ok (.aload_n 0, 1) := by decide +kernel
theorem dX3_tryPatterns_129 : decode cX3_tryPatterns 129 = .ok (.getfield 15, 3) := by decide +kernel
theorem dX3_tryPatterns_132 : decode cX3_tryPatterns 132 = .ok (.invokevirtual 126, 3) := by decide +kernel
theorem dX3_tryPatterns_135 : decode cX3_tryPatterns 135 = .ok (.invokevirtual 134, 3) := by decide +kernel
theorem dX3_tryPatterns_138 : decode cX3_tryPatterns 138 = .ok (.ifCond .eq 8, 3) := by decide +kernel
theorem dX3_tryPatterns_141 : decode cX3_tryPatterns 141 = .ok (.aload_n 0, 1) := by decide +kernel
theorem dX3_tryPatterns_142 : decode cX3_tryPatterns 142 = .ok (.iconst 0, 1) := by decide +kernel
theorem dX3_tryPatterns_143 : decode cX3_tryPatterns 143 = .ok (.invokevirtual 137, 3) := by decide +kernel
theorem dX3_tryPatterns_146 : decode cX3_tryPatterns 146 = .ok (.iinc 2 1, 3) := by decide +kernel
theorem dX3_tryPatterns_149 : decode cX3_tryPatterns 149 = .ok (.goto (-111), 3) := by decide +kernel
theorem dX3_tryPatterns_152 : decode cX3_tryPatterns 152 = .ok (.return_, 1) := by decide +kernel
theorem dX3_tryMarkets_0 : decode cX3_tryMarkets 0 = .ok (.iload_n 1, 1) := by decide +kernel
theorem dX3_tryMarkets_1 : decode cX3_tryMarkets 1 = .ok (.aload_n 0, 1) := by decide +kernel
theorem dX3_tryMarkets_2 : decode cX3_tryMarkets 2 = .ok (.getfield 37, 3) := by decide +kernel
theorem dX3_tryMarkets_5 : decode cX3_tryMarkets 5 = .ok (.if_icmp .ge 8, 3) := by decide +kernel
theorem dX3_tryMarkets_8 : decode cX3_tryMarkets 8 = .ok (.iload_n 1, 1) := by decide +kernel
theorem dX3_tryMarkets_9 : decode cX3_tryMarkets 9 = .ok (.iconst 3, 1) := by decide +kernel
theorem dX3_tryMarkets_10 : decode cX3_tryMarkets 10 = .ok (.if_icmp .lt 8, 3) := by decide +kernel
theorem dX3_tryMarkets_13 : decode cX3_tryMarkets 13 = .ok (.aload_n 0, 1) := by decide +kernel
theorem dX3_tryMarkets_14 : decode cX3_tryMarkets 14 = .ok (.invokevirtual 141, 3) := by decide +kernel
theorem dX3_tryMarkets_17 : decode cX3_tryMarkets 17 = .ok (.return_, 1) := by decide +kernel
theorem dX3_tryMarkets_18 : decode cX3_tryMarkets 18 = .ok (.iconst 0, 1) := by decide +kernel
theorem dX3_tryMarkets_19 : decode cX3_tryMarkets 19 = .ok (.istore_n 2, 1) := by decide +kernel
theorem dX3_tryMarkets_20 : decode cX3_tryMarkets 20 = .ok (.iload_n 2, 1) := by decide +kernel
theorem dX3_tryMarkets_21 : decode cX3_tryMarkets 21 = .ok (.aload_n 0, 1) := by decide +kernel
theorem dX3_tryMarkets_22 : decode cX3_tryMarkets 22 = .ok (.getfield 48, 3) := by decide +kernel
theorem dX3_tryMarkets_25 : decode cX3_tryMarkets 25 = .ok (.if_icmp .ge 23, 3) := by decide +kernel
theorem dX3_tryMarkets_28 : decode cX3_tryMarkets 28 = .ok (.aload_n 0, 1) := by decide +kernel
theorem dX3_tryMarkets_29 : decode cX3_tryMarkets 29 = .ok (.getfield 28, 3) := by decide +kernel
theorem dX3_tryMarkets_32 : decode cX3_tryMarkets 32 = .ok (.iload_n 1, 1) := by decide +kernel
theorem dX3_tryMarkets_33 : decode cX3_tryMarkets 33 = .ok (.iload_n 2, 1) := by decide +kernel
theorem dX3_tryMarkets_34 : decode cX3_tryMarkets 34 = .ok (.iastore, 1) := by decide +kernel
theorem dX3_tryMarkets_35 : decode cX3_tryMarkets 35 = .ok (.aload_n 0, 1) := by decide +kernel
theorem dX3_tryMarkets_36 : decode cX3_tryMarkets 36 = .ok (.iload_n 1, 1) := by decide +kernel
theorem dX3_tryMarkets_37 : decode cX3_tryMarkets 37 = .ok (.iconst 1, 1) := by decide +kernel
theorem dX3_tryMarkets_38 : decode cX3_tryMarkets 38 = .ok (.iadd, 1) := by decide +kernel
theorem dX3_tryMarkets_39 : decode cX3_tryMarkets 39 = .ok (.invokevirtual 137, 3) := by decide +kernel
theorem dX3_tryMarkets_42 : decode cX3_tryMarkets 42 = .ok (.iinc 2 1, 3) := by decide +kernel
theorem dX3_tryMarkets_45 : decode cX3_tryMarkets 45 = .ok (.goto (-25), 3) := by decide +kernel
theorem dX3_tryMarkets_48 : decode cX3_tryMarkets 48 = .ok (.return_, 1) := by decide +kernel
theorem dX3_isEnough_0 : decode cX3_isEnough 0 = .ok (.aload_n 0, 1) := by decide +kernel
theorem dX3_isEnough_1 : decode cX3_isEnough 1 = .ok (.getfield 41, 3) := by decide +kernel
theorem dX3_isEnough_4 : decode cX3_isEnough 4 = .ok (.lload_n 1, 1) := by decide +kernel
theorem dX3_isEnough_5 : decode cX3_isEnough 5 = .ok (.lsub, 1) := by decide +kernel
theorem dX3_isEnough_6 : decode cX3_isEnough 6 = .ok (.ldc2_w 84, 3) := by decide +kernel
theorem dX3_isEnough_9 : decode cX3_isEnough 9 = .ok (.lmul, 1) := by decide +kernel
theorem dX3_isEnough_10 : decode cX3_isEnough 10 = .ok (.aload_n 0, 1) := by decide +kernel
theorem dX3_isEnough_11 : decode cX3_isEnough 11 = .ok (.getfield 45, 3) := by decide +kernel
theorem dX3_isEnough_14 : decode cX3_isEnough 14 = .ok (.i2l, 1) := by decide +kernel
theorem dX3_isEnough_15 : decode cX3_isEnough 15 = .ok (.aload_n 0, 1) := by decide +kernel
theorem dX3_isEnough_16 : decode cX3_isEnough 16 = .ok (.getfield 41, 3) := by decide +kernel
theorem dX3_isEnough_19 : decode cX3_isEnough 19 = .ok (.lmul, 1) := by decide +kernel
theorem dX3_isEnough_20 : decode cX3_isEnough 20 = .ok (.lcmp, 1) := by decide +kernel
theorem dX3_isEnough_21 : decode cX3_isEnough 21 = .ok (.ifCond .lt 7, 3) := by decide +kernel
theorem dX3_isEnough_24 : decode cX3_isEnough 24 = .ok (.iconst 1, 1) := by decide +kernel
theorem dX3_isEnough_25 : decode cX3_isEnough 25 = .ok (.goto 4, 3) := by decide +kernel
theorem dX3_isEnough_28 : decode cX3_isEnough 28 = .ok (.iconst 0, 1) := by decide +kernel
theorem dX3_isEnough_29 : decode cX3_isEnough 29 = .ok (.ireturn, 1) := by decide +kernel
theorem dX3_missOf_0 : decode cX3_missOf 0 = .ok (.lconst 1, 1) := by decide +kernel
theorem dX3_missOf_1 : decode cX3_missOf 1 = .ok (.lstore_n 2, 1) := by decide +kernel
theorem dX3_missOf_2 : decode cX3_missOf 2 = .ok (.lconst 1, 1) := by decide +kernel
theorem dX3_missOf_3 : decode cX3_missOf 3 = .ok (.lstore 4, 2) := by decide +kernel
theorem dX3_missOf_5 : decode cX3_missOf 5 = .ok (.lconst 1, 1) := by decide +kernel
theorem dX3_missOf_6 : decode cX3_missOf 6 = .ok (.lstore 6, 2) := by decide +kernel
theorem dX3_missOf_8 : decode cX3_missOf 8 = .ok (.lconst 1, 1) := by decide +kernel
theorem dX3_missOf_9 : decode cX3_missOf 9 = .ok (.lstore 8, 2) := by decide +kernel
theorem dX3_missOf_11 : decode cX3_missOf 11 = .ok (.lconst 1, 1) := by decide +kernel
theorem dX3_missOf_12 : decode cX3_missOf 12 = .ok (.lstore 10, 2) := by decide +kernel
theorem dX3_missOf_14 : decode cX3_missOf 14 = .ok (.iconst 0, 1) := by decide +kernel
theorem dX3_missOf_15 : decode cX3_missOf 15 = .ok (.istore 12, 2) := by decide +kernel
theorem dX3_missOf_17 : decode cX3_missOf 17 = .ok (.iload 12, 2) := by decide +kernel
theorem dX3_missOf_19 : decode cX3_missOf 19 = .ok (.aload_n 0, 1) := by decide +kernel
theorem dX3_missOf_20 : decode cX3_missOf 20 = .ok (.getfield 37, 3) := by decide +kernel
theorem dX3_missOf_23 : decode cX3_missOf 23 = .ok (.if_icmp .ge 135, 3) := by decide +kernel
theorem dX3_missOf_26 : decode cX3_missOf 26 = .ok (.iload 12, 2) := by decide +kernel
theorem dX3_missOf_28 : decode cX3_missOf 28 = .ok (.iconst 3, 1) := by decide +kernel
theorem dX3_missOf_29 : decode cX3_missOf 29 = .ok (.if_icmp .ge 129, 3) := by decide +kernel
theorem dX3_missOf_32 : decode cX3_missOf 32 = .ok (.aload_n 0, 1) := by decide +kernel
theorem dX3_missOf_33 : decode cX3_missOf 33 = .ok (.getfield 22, 3) := by decide +kernel
theorem dX3_missOf_36 : decode cX3_missOf 36 = .ok (.iload 12, 2) := by decide +kernel
theorem dX3_missOf_38 : decode cX3_missOf 38 = .ok (.iaload, 1) := by decide +kernel
theorem dX3_missOf_39 : decode cX3_missOf 39 = .ok (.iconst 3, 1) := by decide +kernel
theorem dX3_missOf_40 : decode cX3_missOf 40 = .ok (.imul, 1) := by decide +kernel
theorem dX3_missOf_41 : decode cX3_missOf 41 = .ok (.aload_n 0, 1) := by decide +kernel
theorem dX3_missOf_42 : decode cX3_missOf 42 = .ok (.getfield 25, 3) := by decide +kernel
theorem dX3_missOf_45 : decode cX3_missOf 45 = .ok (.iload 12, 2) := by decide +kernel
theorem dX3_missOf_47 : decode cX3_missOf 47 = .ok (.iaload, 1) := by decide +kernel
theorem dX3_missOf_48 : decode cX3_missOf 48 = .ok (.iadd, 1) := by decide +kernel
theorem dX3_missOf_49 : decode cX3_missOf 49 = .ok (.iconst 5, 1) := by decide +kernel
theorem dX3_missOf_50 : decode cX3_missOf 50 = .ok (.imul, 1) := by decide +kernel
theorem dX3_missOf_51 : decode cX3_missOf 51 = .ok (.aload_n 0, 1) := by decide +kernel
theorem dX3_missOf_52 : decode cX3_missOf 52 = .ok (.getfield 28, 3) := by decide +kernel
theorem dX3_missOf_55 : decode cX3_missOf 55 = .ok (.iload 12, 2) := by decide +kernel
theorem dX3_missOf_57 : decode cX3_missOf 57 = .ok (.iaload, 1) := by decide +kernel
theorem dX3_missOf_58 : decode cX3_missOf 58 = .ok (.iadd, 1) := by decide +kernel
theorem dX3_missOf_59 : decode cX3_missOf 59 = .ok (.istore 13, 2) := by decide +kernel
theorem dX3_missOf_61 : decode cX3_missOf 61 = .ok (.iload 13, 2) := by decide +kernel
theorem dX3_missOf_63 : decode cX3_missOf 63 = .ok (.ifCond .lt 20, 3) := by decide +kernel
theorem dX3_missOf_66 : decode cX3_missOf 66 = .ok (.iload 13, 2) := by decide +kernel
theorem dX3_missOf_68 : decode cX3_missOf 68 = .ok (.aload_n 1, 1) := by decide +kernel
theorem dX3_missOf_69 : decode cX3_missOf 69 = .ok (.arraylength, 1) := by decide +kernel
theorem dX3_missOf_70 : decode cX3_missOf 70 = .ok (.if_icmp .ge 13, 3) := by decide +kernel
theorem dX3_missOf_73 : decode cX3_missOf 73 = .ok (.bipush 100, 2) := by decide +kernel
theorem dX3_missOf_75 : decode cX3_missOf 75 = .ok (.aload_n 1, 1) := by decide +kernel
theorem dX3_missOf_76 : decode cX3_missOf 76 = .ok (.iload 13, 2) := by decide +kernel
theorem dX3_missOf_78 : decode cX3_missOf 78 = .ok (.iaload, 1) := by decide +kernel
theorem dX3_missOf_79 : decode cX3_missOf 79 = .ok (.isub, 1) := by decide +kernel
theorem dX3_missOf_80 : decode cX3_missOf 80 = .ok (.goto 5, 3) := by decide +kernel
theorem dX3_missOf_83 : decode cX3_missOf 83 = .ok (.bipush 100, 2) := by decide +kernel
theorem dX3_missOf_85 : decode cX3_missOf 85 = .ok (.istore 14, 2) := by decide +kernel
theorem dX3_missOf_87 : decode cX3_missOf 87 = .ok (.aload_n 0, 1) := by decide +kernel
theorem dX3_missOf_88 : decode cX3_missOf 88 = .ok (.getfield 25, 3) := by decide +kernel
theorem dX3_missOf_91 : decode cX3_missOf 91 = .ok (.iload 12, 2) := by decide +kernel
theorem dX3_missOf_93 : decode cX3_missOf 93 = .ok (.iaload, 1) := by decide +kernel
theorem dX3_missOf_94 : decode cX3_missOf 94 = .ok (.ifCond .ne 12, 3) := by decide +kernel
theorem dX3_missOf_97 : decode cX3_missOf 97 = .ok (.lload_n 2, 1) := by decide +kernel
theorem dX3_missOf_98 : decode cX3_missOf 98 = .ok (.iload 14, 2) := by decide +kernel
theorem dX3_missOf_100 : decode cX3_missOf 100 = .ok (.i2l, 1) := by decide +kernel
theorem dX3_missOf_101 : decode cX3_missOf 101 = .ok (.lmul, 1) := by decide +kernel
theorem dX3_missOf_102 : decode cX3_missOf 102 = .ok (.lstore_n 2, 1) := by decide +kernel
theorem dX3_missOf_103 : decode cX3_missOf 103 = .ok (.goto 49, 3) := by decide +kernel
theorem dX3_missOf_106 : decode cX3_missOf 106 = .ok (.aload_n 0, 1) := by decide +kernel
theorem dX3_missOf_107 : decode cX3_missOf 107 = .ok (.getfield 25, 3) := by decide +kernel
theorem dX3_missOf_110 : decode cX3_missOf 110 = .ok (.iload 12, 2) := by decide +kernel
theorem dX3_missOf_112 : decode cX3_missOf 112 = .ok (.iaload, 1) := by decide +kernel
theorem dX3_missOf_113 : decode cX3_missOf 113 = .ok (.iconst 1, 1) := by decide +kernel
theorem dX3_missOf_114 : decode cX3_missOf 114 = .ok (.if_icmp .ne 22, 3) := by decide +kernel
theorem dX3_missOf_117 : decode cX3_missOf 117 = .ok (.lload 4, 2) := by decide +kernel
theorem dX3_missOf_119 : decode cX3_missOf 119 = .ok (.iload 14, 2) := by decide +kernel
theorem dX3_missOf_121 : decode cX3_missOf 121 = .ok (.i2l, 1) := by decide +kernel
theorem dX3_missOf_122 : decode cX3_missOf 122 = .ok (.lmul, 1) := by decide +kernel
theorem dX3_missOf_123 : decode cX3_missOf 123 = .ok (.lstore 4, 2) := by decide +kernel
theorem dX3_missOf_125 : decode cX3_missOf 125 = .ok (.lload 6, 2) := by decide +kernel
theorem dX3_missOf_127 : decode cX3_missOf 127 = .ok (.ldc2_w 84, 3) := by decide +kernel
theorem dX3_missOf_130 : decode cX3_missOf 130 = .ok (.lmul, 1) := by decide +kernel
theorem dX3_missOf_131 : decode cX3_missOf 131 = .ok (.lstore 6, 2) := by decide +kernel
theorem dX3_missOf_133 : decode cX3_missOf 133 = .ok (.goto 19, 3) := by decide +kernel
theorem dX3_missOf_136 : decode cX3_missOf 136 = .ok (.lload 8, 2) := by decide +kernel
theorem dX3_missOf_138 : decode cX3_missOf 138 = .ok (.iload 14, 2) := by decide +kernel
theorem dX3_missOf_140 : decode cX3_missOf 140 = .ok (.i2l, 1) := by decide +kernel
theorem dX3_missOf_141 : decode cX3_missOf 141 = .ok (.lmul, 1) := by decide +kernel
theorem dX3_missOf_142 : decode cX3_missOf 142 = .ok (.lstore 8, 2) := by decide +kernel
theorem dX3_missOf_144 : decode cX3_missOf 144 = .ok (.lload 10, 2) := by decide +kernel
theorem dX3_missOf_146 : decode cX3_missOf 146 = .ok (.ldc2_w 84, 3) := by decide +kernel
theorem dX3_missOf_149 : decode cX3_missOf 149 = .ok (.lmul, 1) := by decide +kernel
theorem dX3_missOf_150 : decode cX3_missOf 150 = .ok (.lstore 10, 2) := by decide +kernel
theorem dX3_missOf_152 : decode cX3_missOf 152 = .ok (.iinc 12 1, 3) := by decide +kernel
theorem dX3_missOf_155 : decode cX3_missOf 155 = .ok (.goto (-138), 3) := by decide +kernel
theorem dX3_missOf_158 : decode cX3_missOf 158 = .ok (.lload_n 2, 1) := by decide +kernel
theorem dX3_missOf_159 : decode cX3_missOf 159 = .ok (.lload 6, 2) := by decide +kernel
theorem dX3_missOf_161 : decode cX3_missOf 161 = .ok (.lload 10, 2) := by decide +kernel
theorem dX3_missOf_163 : decode cX3_missOf 163 = .ok (.lmul, 1) := by decide +kernel
theorem dX3_missOf_164 : decode cX3_missOf 164 = .ok (.lload 6, 2) := by decide +kernel
theorem dX3_missOf_166 : decode cX3_missOf 166 = .ok (.lload 4, 2) := by decide +kernel
theorem dX3_missOf_168 : decode cX3_missOf 168 = .ok (.lsub, 1) := by decide +kernel
theorem dX3_missOf_169 : decode cX3_missOf 169 = .ok (.lload 10, 2) := by decide +kernel
theorem dX3_missOf_171 : decode cX3_missOf 171 = .ok (.lload 8, 2) := by decide +kernel
theorem dX3_missOf_173 : decode cX3_missOf 173 = .ok (.lsub, 1) := by decide +kernel
theorem dX3_missOf_174 : decode cX3_missOf 174 = .ok (.lmul, 1) := by decide +kernel
theorem dX3_missOf_175 : decode cX3_missOf 175 = .ok (.lsub, 1) := by decide +kernel
theorem dX3_missOf_176 : decode cX3_missOf 176 = .ok (.lmul, 1) := by decide +kernel
theorem dX3_missOf_177 : decode cX3_missOf 177 = .ok (.lreturn, 1) := by decide +kernel
theorem dX3_isBetter_0 : decode cX3_isBetter 0 = .ok (.aload_n 0, 1) := by decide +kernel
theorem dX3_isBetter_1 : decode cX3_isBetter 1 = .ok (.getfield 51, 3) := by decide +kernel
theorem dX3_isBetter_4 : decode cX3_isBetter 4 = .ok (.ifCond .eq 12, 3) := by decide +kernel
theorem dX3_isBetter_7 : decode cX3_isBetter 7 = .ok (.lload_n 1, 1) := by decide +kernel
theorem dX3_isBetter_8 : decode cX3_isBetter 8 = .ok (.aload_n 0, 1) := by decide +kernel
theorem dX3_isBetter_9 : decode cX3_isBetter 9 = .ok (.getfield 58, 3) := by decide +kernel
theorem dX3_isBetter_12 : decode cX3_isBetter 12 = .ok (.lcmp, 1) := by decide +kernel
theorem dX3_isBetter_13 : decode cX3_isBetter 13 = .ok (.ifCond .le 7, 3) := by decide +kernel
theorem dX3_isBetter_16 : decode cX3_isBetter 16 = .ok (.iconst 1, 1) := by decide +kernel
theorem dX3_isBetter_17 : decode cX3_isBetter 17 = .ok (.goto 4, 3) := by decide +kernel
theorem dX3_isBetter_20 : decode cX3_isBetter 20 = .ok (.iconst 0, 1) := by decide +kernel
theorem dX3_isBetter_21 : decode cX3_isBetter 21 = .ok (.ireturn, 1) := by decide +kernel
theorem dX3_compare_0 : decode cX3_compare 0 = .ok (.aload_n 0, 1) := by decide +kernel
theorem dX3_compare_1 : decode cX3_compare 1 = .ok (.aload_n 0, 1) := by decide +kernel
theorem dX3_compare_2 : decode cX3_compare 2 = .ok (.aload_n 0, 1) := by decide +kernel
theorem dX3_compare_3 : decode cX3_compare 3 = .ok (.getfield 11, 3) := by decide +kernel
theorem dX3_compare_6 : decode cX3_compare 6 = .ok (.invokevirtual 126, 3) := by decide +kernel
theorem dX3_compare_9 : decode cX3_compare 9 = .ok (.invokevirtual 130, 3) := by decide +kernel
theorem dX3_compare_12 : decode cX3_compare 12 = .ok (.ifCond .ne 4, 3) := by decide +kernel
theorem dX3_compare_15 : decode cX3_compare 15 = .ok (.return_, 1) := by decide +kernel
theorem dX3_compare_16 : decode cX3_compare 16 = .ok (.aload_n 0, 1) := by decide +kernel
theorem dX3_compare_17 : decode cX3_compare 17 = .ok (.aload_n 0, 1) := by decide +kernel
theorem dX3_compare_18 : decode cX3_compare 18 = .ok (.getfield 15, 3) := by decide +kernel
theorem dX3_compare_21 : decode cX3_compare 21 = .ok (.invokevirtual 126, 3) := by decide +kernel
theorem dX3_compare_24 : decode cX3_compare 24 = .ok (.lstore_n 1, 1) := by decide +kernel
theorem dX3_compare_25 : decode cX3_compare 25 = .ok (.iconst 0, 1) := by decide +kernel
theorem dX3_compare_26 : decode cX3_compare 26 = .ok (.istore_n 3, 1) := by decide +kernel
theorem dX3_compare_27 : decode cX3_compare 27 = .ok (.iconst 0, 1) := by decide +kernel
theorem dX3_compare_28 : decode cX3_compare 28 = .ok (.istore 4, 2) := by decide +kernel
theorem dX3_compare_30 : decode cX3_compare 30 = .ok (.iload 4, 2) := by decide +kernel
theorem dX3_compare_32 : decode cX3_compare 32 = .ok (.aload_n 0, 1) := by decide +kernel
theorem dX3_compare_33 : decode cX3_compare 33 = .ok (.getfield 37, 3) := by decide +kernel
theorem dX3_compare_36 : decode cX3_compare 36 = .ok (.if_icmp .ge 39, 3) := by decide +kernel
theorem dX3_compare_39 : decode cX3_compare 39 = .ok (.iload 4, 2) := by decide +kernel
theorem dX3_compare_41 : decode cX3_compare 41 = .ok (.iconst 3, 1) := by decide +kernel
theorem dX3_compare_42 : decode cX3_compare 42 = .ok (.if_icmp .ge 33, 3) := by decide +kernel
theorem dX3_compare_45 : decode cX3_compare 45 = .ok (.iload_n 3, 1) := by decide +kernel
theorem dX3_compare_46 : decode cX3_compare 46 = .ok (.bipush 100, 2) := by decide +kernel
theorem dX3_compare_48 : decode cX3_compare 48 = .ok (.imul, 1) := by decide +kernel
theorem dX3_compare_49 : decode cX3_compare 49 = .ok (.aload_n 0, 1) := by decide +kernel
theorem dX3_compare_50 : decode cX3_compare 50 = .ok (.getfield 28, 3) := by decide +kernel
theorem dX3_compare_53 : decode cX3_compare 53 = .ok (.iload 4, 2) := by decide +kernel
theorem dX3_compare_55 : decode cX3_compare 55 = .ok (.iaload, 1) := by decide +kernel
theorem dX3_compare_56 : decode cX3_compare 56 = .ok (.bipush 10, 2) := by decide +kernel
theorem dX3_compare_58 : decode cX3_compare 58 = .ok (.imul, 1) := by decide +kernel
theorem dX3_compare_59 : decode cX3_compare 59 = .ok (.iadd, 1) := by decide +kernel
theorem dX3_compare_60 : decode cX3_compare 60 = .ok (.aload_n 0, 1) := by decide +kernel
theorem dX3_compare_61 : decode cX3_compare 61 = .ok (.getfield 25, 3) := by decide +kernel
theorem dX3_compare_64 : decode cX3_compare 64 = .ok (.iload 4, 2) := by decide +kernel
theorem dX3_compare_66 : decode cX3_compare 66 = .ok (.iaload, 1) := by decide +kernel
theorem dX3_compare_67 : decode cX3_compare 67 = .ok (.iadd, 1) := by decide +kernel
theorem dX3_compare_68 : decode cX3_compare 68 = .ok (.istore_n 3, 1) := by decide +kernel
theorem dX3_compare_69 : decode cX3_compare 69 = .ok (.iinc 4 1, 3) := by decide +kernel
theorem dX3_compare_72 : decode cX3_compare 72 = .ok (.goto (-42), 3) := by decide +kernel
theorem dX3_compare_75 : decode cX3_compare 75 = .ok (.aload_n 0, 1) := by decide +kernel
theorem dX3_compare_76 : decode cX3_compare 76 = .ok (.lload_n 1, 1) := by decide +kernel
theorem dX3_compare_77 : decode cX3_compare 77 = .ok (.invokevirtual 134, 3) := by decide +kernel
theorem dX3_compare_80 : decode cX3_compare 80 = .ok (.ifCond .ne 27, 3) := by decide +kernel
theorem dX3_compare_83 : decode cX3_compare 83 = .ok (.aload_n 0, 1) := by decide +kernel
theorem dX3_compare_84 : decode cX3_compare 84 = .ok (.getfield 55, 3) := by decide +kernel
theorem dX3_compare_87 : decode cX3_compare 87 = .ok (.ifCond .eq 26, 3) := by decide +kernel
theorem dX3_compare_90 : decode cX3_compare 90 = .ok (.lload_n 1, 1) := by decide +kernel
theorem dX3_compare_91 : decode cX3_compare 91 = .ok (.aload_n 0, 1) := by decide +kernel
theorem dX3_compare_92 : decode cX3_compare 92 = .ok (.getfield 58, 3) := by decide +kernel
theorem dX3_compare_95 : decode cX3_compare 95 = .ok (.lcmp, 1) := by decide +kernel
theorem dX3_compare_96 : decode cX3_compare 96 = .ok (.ifCond .ne 17, 3) := by decide +kernel
theorem dX3_compare_99 : decode cX3_compare 99 = .ok (.iload_n 3, 1) := by decide +kernel
theorem dX3_compare_100 : decode cX3_compare 100 = .ok (.aload_n 0, 1) := by decide +kernel
theorem dX3_compare_101 : decode cX3_compare 101 = .ok (.getfield 61, 3) := by decide +kernel
theorem dX3_compare_104 : decode cX3_compare 104 = .ok (.if_icmp .ge 9, 3) := by decide +kernel
theorem dX3_compare_107 : decode cX3_compare 107 = .ok (.aload_n 0, 1) := by decide +kernel
theorem dX3_compare_108 : decode cX3_compare 108 = .ok (.lload_n 1, 1) := by decide +kernel
theorem dX3_compare_109 : decode cX3_compare 109 = .ok (.iload_n 3, 1) := by decide +kernel
theorem dX3_compare_110 : decode cX3_compare 110 = .ok (.invokevirtual 144, 3) := by decide +kernel
theorem dX3_compare_113 : decode cX3_compare 113 = .ok (.return_, 1) := by decide +kernel
theorem dX3_keep_0 : decode cX3_keep 0 = .ok (.aload_n 0, 1) := by decide +kernel
theorem dX3_keep_1 : decode cX3_keep 1 = .ok (.iconst 1, 1) := by decide +kernel
theorem dX3_keep_2 : decode cX3_keep 2 = .ok (.putfield 51, 3) := by decide +kernel
theorem dX3_keep_5 : decode cX3_keep 5 = .ok (.aload_n 0, 1) := by decide +kernel
theorem dX3_keep_6 : decode cX3_keep 6 = .ok (.iconst 1, 1) := by decide +kernel
theorem dX3_keep_7 : decode cX3_keep 7 = .ok (.putfield 55, 3) := by decide +kernel
theorem dX3_keep_10 : decode cX3_keep 10 = .ok (.aload_n 0, 1) := by decide +kernel
theorem dX3_keep_11 : decode cX3_keep 11 = .ok (.lload_n 1, 1) := by decide +kernel
theorem dX3_keep_12 : decode cX3_keep 12 = .ok (.putfield 58, 3) := by decide +kernel
theorem dX3_keep_15 : decode cX3_keep 15 = .ok (.aload_n 0, 1) := by decide +kernel
theorem dX3_keep_16 : decode cX3_keep 16 = .ok (.iload_n 3, 1) := by decide +kernel
theorem dX3_keep_17 : decode cX3_keep 17 = .ok (.putfield 61, 3) := by decide +kernel
theorem dX3_keep_20 : decode cX3_keep 20 = .ok (.iconst 0, 1) := by decide +kernel
theorem dX3_keep_21 : decode cX3_keep 21 = .ok (.istore 4, 2) := by decide +kernel
theorem dX3_keep_23 : decode cX3_keep 23 = .ok (.iload 4, 2) := by decide +kernel
theorem dX3_keep_25 : decode cX3_keep 25 = .ok (.aload_n 0, 1) := by decide +kernel
theorem dX3_keep_26 : decode cX3_keep 26 = .ok (.getfield 37, 3) := by decide +kernel
theorem dX3_keep_29 : decode cX3_keep 29 = .ok (.if_icmp .ge 54, 3) := by decide +kernel
theorem dX3_keep_32 : decode cX3_keep 32 = .ok (.iload 4, 2) := by decide +kernel
theorem dX3_keep_34 : decode cX3_keep 34 = .ok (.iconst 3, 1) := by decide +kernel
theorem dX3_keep_35 : decode cX3_keep 35 = .ok (.if_icmp .ge 48, 3) := by decide +kernel
theorem dX3_keep_38 : decode cX3_keep 38 = .ok (.aload_n 0, 1) := by decide +kernel
theorem dX3_keep_39 : decode cX3_keep 39 = .ok (.getfield 31, 3) := by decide +kernel
theorem dX3_keep_42 : decode cX3_keep 42 = .ok (.iload 4, 2) := by decide +kernel
theorem dX3_keep_44 : decode cX3_keep 44 = .ok (.aload_n 0, 1) := by decide +kernel
theorem dX3_keep_45 : decode cX3_keep 45 = .ok (.getfield 22, 3) := by decide +kernel
theorem dX3_keep_48 : decode cX3_keep 48 = .ok (.iload 4, 2) := by decide +kernel
theorem dX3_keep_50 : decode cX3_keep 50 = .ok (.iaload, 1) := by decide +kernel
theorem dX3_keep_51 : decode cX3_keep 51 = .ok (.iastore, 1) := by decide +kernel
theorem dX3_keep_52 : decode cX3_keep 52 = .ok (.aload_n 0, 1) := by decide +kernel
theorem dX3_keep_53 : decode cX3_keep 53 = .ok (.getfield 34, 3) := by decide +kernel
theorem dX3_keep_56 : decode cX3_keep 56 = .ok (.iload 4, 2) := by decide +kernel
theorem dX3_keep_58 : decode cX3_keep 58 = .ok (.aload_n 0, 1) := by decide +kernel
theorem dX3_keep_59 : decode cX3_keep 59 = .ok (.getfield 28, 3) := by decide +kernel
theorem dX3_keep_62 : decode cX3_keep 62 = .ok (.iload 4, 2) := by decide +kernel
theorem dX3_keep_64 : decode cX3_keep 64 = .ok (.iaload, 1) := by decide +kernel
theorem dX3_keep_65 : decode cX3_keep 65 = .ok (.bipush 10, 2) := by decide +kernel
theorem dX3_keep_67 : decode cX3_keep 67 = .ok (.imul, 1) := by decide +kernel
theorem dX3_keep_68 : decode cX3_keep 68 = .ok (.aload_n 0, 1) := by decide +kernel
theorem dX3_keep_69 : decode cX3_keep 69 = .ok (.getfield 25, 3) := by decide +kernel
theorem dX3_keep_72 : decode cX3_keep 72 = .ok (.iload 4, 2) := by decide +kernel
theorem dX3_keep_74 : decode cX3_keep 74 = .ok (.iaload, 1) := by decide +kernel
theorem dX3_keep_75 : decode cX3_keep 75 = .ok (.iadd, 1) := by decide +kernel
theorem dX3_keep_76 : decode cX3_keep 76 = .ok (.iastore, 1) := by decide +kernel
theorem dX3_keep_77 : decode cX3_keep 77 = .ok (.iinc 4 1, 3) := by decide +kernel
theorem dX3_keep_80 : decode cX3_keep 80 = .ok (.goto (-57), 3) := by decide +kernel
theorem dX3_keep_83 : decode cX3_keep 83 = .ok (.return_, 1) := by decide +kernel
