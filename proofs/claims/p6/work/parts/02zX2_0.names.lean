theorem dX2_parse_0 : decode cX2_parse 0 = .ok (.aload_n 0, 1) := by decide +kernel
theorem dX2_parse_1 : decode cX2_parse 1 = .ok (.iconst 0, 1) := by decide +kernel
theorem dX2_parse_2 : decode cX2_parse 2 = .ok (.putfield 9, 3) := by decide +kernel
theorem dX2_parse_5 : decode cX2_parse 5 = .ok (.aload_n 0, 1) := by decide +kernel
theorem dX2_parse_6 : decode cX2_parse 6 = .ok (.iconst (-1), 1) := by decide +kernel
theorem dX2_parse_7 : decode cX2_parse 7 = .ok (.putfield 15, 3) := by decide +kernel
theorem dX2_parse_10 : decode cX2_parse 10 = .ok (.aload_n 2, 1) := by decide +kernel
theorem dX2_parse_11 : decode cX2_parse 11 = .ok (.invokevirtual 21, 3) := by decide +kernel
theorem dX2_parse_14 : decode cX2_parse 14 = .ok (.iconst 0, 1) := by decide +kernel
theorem dX2_parse_15 : decode cX2_parse 15 = .ok (.istore_n 3, 1) := by decide +kernel
theorem dX2_parse_16 : decode cX2_parse 16 = .ok (.iload_n 3, 1) := by decide +kernel
theorem dX2_parse_17 : decode cX2_parse 17 = .ok (.bipush 24, 2) := by decide +kernel
theorem dX2_parse_19 : decode cX2_parse 19 = .ok (.if_icmp .gt 29, 3) := by decide +kernel
theorem dX2_parse_22 : decode cX2_parse 22 = .ok (.aload_n 0, 1) := by decide +kernel
theorem dX2_parse_23 : decode cX2_parse 23 = .ok (.getfield 9, 3) := by decide +kernel
theorem dX2_parse_26 : decode cX2_parse 26 = .ok (.ifCond .ne 22, 3) := by decide +kernel
theorem dX2_parse_29 : decode cX2_parse 29 = .ok (.aload_n 1, 1) := by decide +kernel
theorem dX2_parse_30 : decode cX2_parse 30 = .ok (.invokevirtual 26, 3) := by decide +kernel
theorem dX2_parse_33 : decode cX2_parse 33 = .ok (.ifCond .eq 15, 3) := by decide +kernel
theorem dX2_parse_36 : decode cX2_parse 36 = .ok (.aload_n 0, 1) := by decide +kernel
theorem dX2_parse_37 : decode cX2_parse 37 = .ok (.aload_n 1, 1) := by decide +kernel
theorem dX2_parse_38 : decode cX2_parse 38 = .ok (.aload_n 2, 1) := by decide +kernel
theorem dX2_parse_39 : decode cX2_parse 39 = .ok (.invokevirtual 32, 3) := by decide +kernel
theorem dX2_parse_42 : decode cX2_parse 42 = .ok (.iinc 3 1, 3) := by decide +kernel
theorem dX2_parse_45 : decode cX2_parse 45 = .ok (.goto (-29), 3) := by decide +kernel
theorem dX2_parse_48 : decode cX2_parse 48 = .ok (.return_, 1) := by decide +kernel
theorem dX2_fail_0 : decode cX2_fail 0 = .ok (.aload_n 0, 1) := by decide +kernel
theorem dX2_fail_1 : decode cX2_fail 1 = .ok (.getfield 9, 3) := by decide +kernel
theorem dX2_fail_4 : decode cX2_fail 4 = .ok (.ifCond .ne 16, 3) := by decide +kernel
theorem dX2_fail_7 : decode cX2_fail 7 = .ok (.aload_n 0, 1) := by decide +kernel
theorem dX2_fail_8 : decode cX2_fail 8 = .ok (.iload_n 2, 1) := by decide +kernel
theorem dX2_fail_9 : decode cX2_fail 9 = .ok (.putfield 9, 3) := by decide +kernel
theorem dX2_fail_12 : decode cX2_fail 12 = .ok (.aload_n 0, 1) := by decide +kernel
theorem dX2_fail_13 : decode cX2_fail 13 = .ok (.aload_n 1, 1) := by decide +kernel
theorem dX2_fail_14 : decode cX2_fail 14 = .ok (.invokevirtual 36, 3) := by decide +kernel
theorem dX2_fail_17 : decode cX2_fail 17 = .ok (.putfield 15, 3) := by decide +kernel
theorem dX2_fail_20 : decode cX2_fail 20 = .ok (.return_, 1) := by decide +kernel
theorem dX2_readClause_0 : decode cX2_readClause 0 = .ok (.aload_n 1, 1) := by decide +kernel
theorem dX2_readClause_1 : decode cX2_readClause 1 = .ok (.invokevirtual 26, 3) := by decide +kernel
theorem dX2_readClause_4 : decode cX2_readClause 4 = .ok (.istore_n 3, 1) := by decide +kernel
theorem dX2_readClause_5 : decode cX2_readClause 5 = .ok (.aload_n 0, 1) := by decide +kernel
theorem dX2_readClause_6 : decode cX2_readClause 6 = .ok (.iload_n 3, 1) := by decide +kernel
theorem dX2_readClause_7 : decode cX2_readClause 7 = .ok (.bipush 16, 2) := by decide +kernel
theorem dX2_readClause_9 : decode cX2_readClause 9 = .ok (.isub, 1) := by decide +kernel
theorem dX2_readClause_10 : decode cX2_readClause 10 = .ok (.putfield 18, 3) := by decide +kernel
theorem dX2_readClause_13 : decode cX2_readClause 13 = .ok (.iload_n 3, 1) := by decide +kernel
theorem dX2_readClause_14 : decode cX2_readClause 14 = .ok (.bipush 16, 2) := by decide +kernel
theorem dX2_readClause_16 : decode cX2_readClause 16 = .ok (.if_icmp .lt 9, 3) := by decide +kernel
theorem dX2_readClause_19 : decode cX2_readClause 19 = .ok (.iload_n 3, 1) := by decide +kernel
theorem dX2_readClause_20 : decode cX2_readClause 20 = .ok (.bipush 23, 2) := by decide +kernel
theorem dX2_readClause_22 : decode cX2_readClause 22 = .ok (.if_icmp .le 12, 3) := by decide +kernel
theorem dX2_readClause_25 : decode cX2_readClause 25 = .ok (.aload_n 0, 1) := by decide +kernel
theorem dX2_readClause_26 : decode cX2_readClause 26 = .ok (.aload_n 1, 1) := by decide +kernel
theorem dX2_readClause_27 : decode cX2_readClause 27 = .ok (.iconst 1, 1) := by decide +kernel
theorem dX2_readClause_28 : decode cX2_readClause 28 = .ok (.invokevirtual 39, 3) := by decide +kernel
theorem dX2_readClause_31 : decode cX2_readClause 31 = .ok (.goto 127, 3) := by decide +kernel
theorem dX2_readClause_34 : decode cX2_readClause 34 = .ok (.aload_n 2, 1) := by decide +kernel
theorem dX2_readClause_35 : decode cX2_readClause 35 = .ok (.aload_n 0, 1) := by decide +kernel
theorem dX2_readClause_36 : decode cX2_readClause 36 = .ok (.getfield 18, 3) := by decide +kernel
theorem dX2_readClause_39 : decode cX2_readClause 39 = .ok (.invokevirtual 43, 3) := by decide +kernel
theorem dX2_readClause_42 : decode cX2_readClause 42 = .ok (.ifCond .eq 12, 3) := by decide +kernel
theorem dX2_readClause_45 : decode cX2_readClause 45 = .ok (.aload_n 0, 1) := by decide +kernel
theorem dX2_readClause_46 : decode cX2_readClause 46 = .ok (.aload_n 1, 1) := by decide +kernel
theorem dX2_readClause_47 : decode cX2_readClause 47 = .ok (.iconst 4, 1) := by decide +kernel
theorem dX2_readClause_48 : decode cX2_readClause 48 = .ok (.invokevirtual 39, 3) := by decide +kernel
theorem dX2_readClause_51 : decode cX2_readClause 51 = .ok (.goto 107, 3) := by decide +kernel
theorem dX2_readClause_54 : decode cX2_readClause 54 = .ok (.aload_n 2, 1) := by decide +kernel
theorem dX2_readClause_55 : decode cX2_readClause 55 = .ok (.getfield 47, 3) := by decide +kernel
theorem dX2_readClause_58 : decode cX2_readClause 58 = .ok (.bipush 24, 2) := by decide +kernel
theorem dX2_readClause_60 : decode cX2_readClause 60 = .ok (.if_icmp .lt 13, 3) := by decide +kernel
theorem dX2_readClause_63 : decode cX2_readClause 63 = .ok (.aload_n 0, 1) := by decide +kernel
theorem dX2_readClause_64 : decode cX2_readClause 64 = .ok (.aload_n 1, 1) := by decide +kernel
theorem dX2_readClause_65 : decode cX2_readClause 65 = .ok (.bipush 6, 2) := by decide +kernel
theorem dX2_readClause_67 : decode cX2_readClause 67 = .ok (.invokevirtual 39, 3) := by decide +kernel
theorem dX2_readClause_70 : decode cX2_readClause 70 = .ok (.goto 88, 3) := by decide +kernel
theorem dX2_readClause_73 : decode cX2_readClause 73 = .ok (.aload_n 2, 1) := by decide +kernel
theorem dX2_readClause_74 : decode cX2_readClause 74 = .ok (.aload_n 2, 1) := by decide +kernel
theorem dX2_readClause_75 : decode cX2_readClause 75 = .ok (.getfield 47, 3) := by decide +kernel
theorem dX2_readClause_78 : decode cX2_readClause 78 = .ok (.iconst 0, 1) := by decide +kernel
theorem dX2_readClause_79 : decode cX2_readClause 79 = .ok (.iload_n 3, 1) := by decide +kernel
theorem dX2_readClause_80 : decode cX2_readClause 80 = .ok (.invokevirtual 50, 3) := by decide +kernel
theorem dX2_readClause_83 : decode cX2_readClause 83 = .ok (.aload_n 1, 1) := by decide +kernel
theorem dX2_readClause_84 : decode cX2_readClause 84 = .ok (.invokevirtual 54, 3) := by decide +kernel
theorem dX2_readClause_87 : decode cX2_readClause 87 = .ok (.aload_n 0, 1) := by decide +kernel
theorem dX2_readClause_88 : decode cX2_readClause 88 = .ok (.getfield 18, 3) := by decide +kernel
theorem dX2_readClause_91 : decode cX2_readClause 91 = .ok (.iconst 4, 1) := by decide +kernel
theorem dX2_readClause_92 : decode cX2_readClause 92 = .ok (.if_icmp .ge 42, 3) := by decide +kernel
theorem dX2_readClause_95 : decode cX2_readClause 95 = .ok (.aload_n 2, 1) := by decide +kernel
theorem dX2_readClause_96 : decode cX2_readClause 96 = .ok (.aload_n 0, 1) := by decide +kernel
theorem dX2_readClause_97 : decode cX2_readClause 97 = .ok (.getfield 18, 3) := by decide +kernel
theorem dX2_readClause_100 : decode cX2_readClause 100 = .ok (.invokevirtual 57, 3) := by decide +kernel
theorem dX2_readClause_103 : decode cX2_readClause 103 = .ok (.aload_n 0, 1) := by decide +kernel
theorem dX2_readClause_104 : decode cX2_readClause 104 = .ok (.aload_n 1, 1) := by decide +kernel
theorem dX2_readClause_105 : decode cX2_readClause 105 = .ok (.aload_n 2, 1) := by decide +kernel
theorem dX2_readClause_106 : decode cX2_readClause 106 = .ok (.aload_n 0, 1) := by decide +kernel
theorem dX2_readClause_107 : decode cX2_readClause 107 = .ok (.getfield 18, 3) := by decide +kernel
theorem dX2_readClause_110 : decode cX2_readClause 110 = .ok (.iconst 3, 1) := by decide +kernel
theorem dX2_readClause_111 : decode cX2_readClause 111 = .ok (.if_icmp .ne 7, 3) := by decide +kernel
theorem dX2_readClause_114 : decode cX2_readClause 114 = .ok (.iconst 0, 1) := by decide +kernel
theorem dX2_readClause_115 : decode cX2_readClause 115 = .ok (.goto 4, 3) := by decide +kernel
theorem dX2_readClause_118 : decode cX2_readClause 118 = .ok (.iconst 3, 1) := by decide +kernel
theorem dX2_readClause_119 : decode cX2_readClause 119 = .ok (.iconst 0, 1) := by decide +kernel
theorem dX2_readClause_120 : decode cX2_readClause 120 = .ok (.invokevirtual 61, 3) := by decide +kernel
theorem dX2_readClause_123 : decode cX2_readClause 123 = .ok (.aload_n 2, 1) := by decide +kernel
theorem dX2_readClause_124 : decode cX2_readClause 124 = .ok (.aload_n 0, 1) := by decide +kernel
theorem dX2_readClause_125 : decode cX2_readClause 125 = .ok (.getfield 18, 3) := by decide +kernel
theorem dX2_readClause_128 : decode cX2_readClause 128 = .ok (.invokevirtual 65, 3) := by decide +kernel
theorem dX2_readClause_131 : decode cX2_readClause 131 = .ok (.goto 10, 3) := by decide +kernel
theorem dX2_readClause_134 : decode cX2_readClause 134 = .ok (.aload_n 0, 1) := by decide +kernel
theorem dX2_readClause_135 : decode cX2_readClause 135 = .ok (.aload_n 1, 1) := by decide +kernel
theorem dX2_readClause_136 : decode cX2_readClause 136 = .ok (.aload_n 2, 1) := by decide +kernel
theorem dX2_readClause_137 : decode cX2_readClause 137 = .ok (.iload_n 3, 1) := by decide +kernel
theorem dX2_readClause_138 : decode cX2_readClause 138 = .ok (.invokevirtual 68, 3) := by decide +kernel
theorem dX2_readClause_141 : decode cX2_readClause 141 = .ok (.aload_n 0, 1) := by decide +kernel
theorem dX2_readClause_142 : decode cX2_readClause 142 = .ok (.aload_n 1, 1) := by decide +kernel
theorem dX2_readClause_143 : decode cX2_readClause 143 = .ok (.bipush 15, 2) := by decide +kernel
theorem dX2_readClause_145 : decode cX2_readClause 145 = .ok (.invokevirtual 72, 3) := by decide +kernel
theorem dX2_readClause_148 : decode cX2_readClause 148 = .ok (.aload_n 2, 1) := by decide +kernel
theorem dX2_readClause_149 : decode cX2_readClause 149 = .ok (.dup, 1) := by decide +kernel
theorem dX2_readClause_150 : decode cX2_readClause 150 = .ok (.getfield 47, 3) := by decide +kernel
theorem dX2_readClause_153 : decode cX2_readClause 153 = .ok (.iconst 1, 1) := by decide +kernel
theorem dX2_readClause_154 : decode cX2_readClause 154 = .ok (.iadd, 1) := by decide +kernel
theorem dX2_readClause_155 : decode cX2_readClause 155 = .ok (.putfield 47, 3) := by decide +kernel
theorem dX2_readClause_158 : decode cX2_readClause 158 = .ok (.return_, 1) := by decide +kernel
theorem dX2_readDeed_0 : decode cX2_readDeed 0 = .ok (.iload_n 3, 1) := by decide +kernel
theorem dX2_readDeed_1 : decode cX2_readDeed 1 = .ok (.bipush 23, 2) := by decide +kernel
theorem dX2_readDeed_3 : decode cX2_readDeed 3 = .ok (.if_icmp .ne 14, 3) := by decide +kernel
theorem dX2_readDeed_6 : decode cX2_readDeed 6 = .ok (.aload_n 0, 1) := by decide +kernel
theorem dX2_readDeed_7 : decode cX2_readDeed 7 = .ok (.aload_n 1, 1) := by decide +kernel
theorem dX2_readDeed_8 : decode cX2_readDeed 8 = .ok (.aload_n 2, 1) := by decide +kernel
theorem dX2_readDeed_9 : decode cX2_readDeed 9 = .ok (.iconst 1, 1) := by decide +kernel
theorem dX2_readDeed_10 : decode cX2_readDeed 10 = .ok (.iconst 1, 1) := by decide +kernel
theorem dX2_readDeed_11 : decode cX2_readDeed 11 = .ok (.bipush 99, 2) := by decide +kernel
theorem dX2_readDeed_13 : decode cX2_readDeed 13 = .ok (.invokevirtual 75, 3) := by decide +kernel
theorem dX2_readDeed_16 : decode cX2_readDeed 16 = .ok (.return_, 1) := by decide +kernel
theorem dX2_readDeed_17 : decode cX2_readDeed 17 = .ok (.aload_n 0, 1) := by decide +kernel
theorem dX2_readDeed_18 : decode cX2_readDeed 18 = .ok (.aload_n 1, 1) := by decide +kernel
theorem dX2_readDeed_19 : decode cX2_readDeed 19 = .ok (.aload_n 2, 1) := by decide +kernel
theorem dX2_readDeed_20 : decode cX2_readDeed 20 = .ok (.iconst 1, 1) := by decide +kernel
theorem dX2_readDeed_21 : decode cX2_readDeed 21 = .ok (.iconst 0, 1) := by decide +kernel
theorem dX2_readDeed_22 : decode cX2_readDeed 22 = .ok (.bipush 9, 2) := by decide +kernel
theorem dX2_readDeed_24 : decode cX2_readDeed 24 = .ok (.invokevirtual 75, 3) := by decide +kernel
theorem dX2_readDeed_27 : decode cX2_readDeed 27 = .ok (.iload_n 3, 1) := by decide +kernel
theorem dX2_readDeed_28 : decode cX2_readDeed 28 = .ok (.bipush 20, 2) := by decide +kernel
theorem dX2_readDeed_30 : decode cX2_readDeed 30 = .ok (.if_icmp .ne 38, 3) := by decide +kernel
theorem dX2_readDeed_33 : decode cX2_readDeed 33 = .ok (.aload_n 0, 1) := by decide +kernel
theorem dX2_readDeed_34 : decode cX2_readDeed 34 = .ok (.aload_n 1, 1) := by decide +kernel
theorem dX2_readDeed_35 : decode cX2_readDeed 35 = .ok (.bipush 24, 2) := by decide +kernel
theorem dX2_readDeed_37 : decode cX2_readDeed 37 = .ok (.invokevirtual 72, 3) := by decide +kernel
theorem dX2_readDeed_40 : decode cX2_readDeed 40 = .ok (.aload_n 0, 1) := by decide +kernel
theorem dX2_readDeed_41 : decode cX2_readDeed 41 = .ok (.aload_n 1, 1) := by decide +kernel
theorem dX2_readDeed_42 : decode cX2_readDeed 42 = .ok (.aload_n 2, 1) := by decide +kernel
theorem dX2_readDeed_43 : decode cX2_readDeed 43 = .ok (.iconst 2, 1) := by decide +kernel
theorem dX2_readDeed_44 : decode cX2_readDeed 44 = .ok (.iconst 0, 1) := by decide +kernel
theorem dX2_readDeed_45 : decode cX2_readDeed 45 = .ok (.iconst 5, 1) := by decide +kernel
theorem dX2_readDeed_46 : decode cX2_readDeed 46 = .ok (.invokevirtual 75, 3) := by decide +kernel
theorem dX2_readDeed_49 : decode cX2_readDeed 49 = .ok (.aload_n 0, 1) := by decide +kernel
theorem dX2_readDeed_50 : decode cX2_readDeed 50 = .ok (.aload_n 1, 1) := by decide +kernel
theorem dX2_readDeed_51 : decode cX2_readDeed 51 = .ok (.bipush 33, 2) := by decide +kernel
theorem dX2_readDeed_53 : decode cX2_readDeed 53 = .ok (.invokevirtual 72, 3) := by decide +kernel
theorem dX2_readDeed_56 : decode cX2_readDeed 56 = .ok (.aload_n 0, 1) := by decide +kernel
theorem dX2_readDeed_57 : decode cX2_readDeed 57 = .ok (.aload_n 1, 1) := by decide +kernel
theorem dX2_readDeed_58 : decode cX2_readDeed 58 = .ok (.aload_n 2, 1) := by decide +kernel
theorem dX2_readDeed_59 : decode cX2_readDeed 59 = .ok (.iconst 3, 1) := by decide +kernel
theorem dX2_readDeed_60 : decode cX2_readDeed 60 = .ok (.iconst 0, 1) := by decide +kernel
theorem dX2_readDeed_61 : decode cX2_readDeed 61 = .ok (.iconst 2, 1) := by decide +kernel
theorem dX2_readDeed_62 : decode cX2_readDeed 62 = .ok (.invokevirtual 75, 3) := by decide +kernel
theorem dX2_readDeed_65 : decode cX2_readDeed 65 = .ok (.goto 25, 3) := by decide +kernel
theorem dX2_readDeed_68 : decode cX2_readDeed 68 = .ok (.iload_n 3, 1) := by decide +kernel
theorem dX2_readDeed_69 : decode cX2_readDeed 69 = .ok (.bipush 21, 2) := by decide +kernel
theorem dX2_readDeed_71 : decode cX2_readDeed 71 = .ok (.if_icmp .ne 19, 3) := by decide +kernel
theorem dX2_readDeed_74 : decode cX2_readDeed 74 = .ok (.aload_n 0, 1) := by decide +kernel
theorem dX2_readDeed_75 : decode cX2_readDeed 75 = .ok (.aload_n 1, 1) := by decide +kernel
theorem dX2_readDeed_76 : decode cX2_readDeed 76 = .ok (.bipush 25, 2) := by decide +kernel
theorem dX2_readDeed_78 : decode cX2_readDeed 78 = .ok (.invokevirtual 72, 3) := by decide +kernel
theorem dX2_readDeed_81 : decode cX2_readDeed 81 = .ok (.aload_n 0, 1) := by decide +kernel
theorem dX2_readDeed_82 : decode cX2_readDeed 82 = .ok (.aload_n 1, 1) := by decide +kernel
theorem dX2_readDeed_83 : decode cX2_readDeed 83 = .ok (.aload_n 2, 1) := by decide +kernel
theorem dX2_readDeed_84 : decode cX2_readDeed 84 = .ok (.iconst 2, 1) := by decide +kernel
theorem dX2_readDeed_85 : decode cX2_readDeed 85 = .ok (.iconst 0, 1) := by decide +kernel
theorem dX2_readDeed_86 : decode cX2_readDeed 86 = .ok (.iconst 3, 1) := by decide +kernel
theorem dX2_readDeed_87 : decode cX2_readDeed 87 = .ok (.invokevirtual 75, 3) := by decide +kernel
theorem dX2_readDeed_90 : decode cX2_readDeed 90 = .ok (.return_, 1) := by decide +kernel
theorem dX2_expect_0 : decode cX2_expect 0 = .ok (.aload_n 0, 1) := by decide +kernel
theorem dX2_expect_1 : decode cX2_expect 1 = .ok (.getfield 9, 3) := by decide +kernel
theorem dX2_expect_4 : decode cX2_expect 4 = .ok (.ifCond .eq 4, 3) := by decide +kernel
theorem dX2_expect_7 : decode cX2_expect 7 = .ok (.return_, 1) := by decide +kernel
theorem dX2_expect_8 : decode cX2_expect 8 = .ok (.aload_n 1, 1) := by decide +kernel
theorem dX2_expect_9 : decode cX2_expect 9 = .ok (.invokevirtual 26, 3) := by decide +kernel
theorem dX2_expect_12 : decode cX2_expect 12 = .ok (.iload_n 2, 1) := by decide +kernel
theorem dX2_expect_13 : decode cX2_expect 13 = .ok (.if_icmp .ne 10, 3) := by decide +kernel
theorem dX2_expect_16 : decode cX2_expect 16 = .ok (.aload_n 1, 1) := by decide +kernel
theorem dX2_expect_17 : decode cX2_expect 17 = .ok (.invokevirtual 54, 3) := by decide +kernel
theorem dX2_expect_20 : decode cX2_expect 20 = .ok (.goto 9, 3) := by decide +kernel
theorem dX2_expect_23 : decode cX2_expect 23 = .ok (.aload_n 0, 1) := by decide +kernel
theorem dX2_expect_24 : decode cX2_expect 24 = .ok (.aload_n 1, 1) := by decide +kernel
theorem dX2_expect_25 : decode cX2_expect 25 = .ok (.iconst 1, 1) := by decide +kernel
theorem dX2_expect_26 : decode cX2_expect 26 = .ok (.invokevirtual 39, 3) := by decide +kernel
theorem dX2_expect_29 : decode cX2_expect 29 = .ok (.return_, 1) := by decide +kernel
theorem dX2_readNumber_0 : decode cX2_readNumber 0 = .ok (.aload_n 0, 1) := by decide +kernel
theorem dX2_readNumber_1 : decode cX2_readNumber 1 = .ok (.getfield 9, 3) := by decide +kernel
theorem dX2_readNumber_4 : decode cX2_readNumber 4 = .ok (.ifCond .eq 4, 3) := by decide +kernel
theorem dX2_readNumber_7 : decode cX2_readNumber 7 = .ok (.return_, 1) := by decide +kernel
theorem dX2_readNumber_8 : decode cX2_readNumber 8 = .ok (.aload_n 1, 1) := by decide +kernel
theorem dX2_readNumber_9 : decode cX2_readNumber 9 = .ok (.invokevirtual 26, 3) := by decide +kernel
theorem dX2_readNumber_12 : decode cX2_readNumber 12 = .ok (.iconst 2, 1) := by decide +kernel
theorem dX2_readNumber_13 : decode cX2_readNumber 13 = .ok (.if_icmp .eq 12, 3) := by decide +kernel
theorem dX2_readNumber_16 : decode cX2_readNumber 16 = .ok (.aload_n 0, 1) := by decide +kernel
theorem dX2_readNumber_17 : decode cX2_readNumber 17 = .ok (.aload_n 1, 1) := by decide +kernel
theorem dX2_readNumber_18 : decode cX2_readNumber 18 = .ok (.iconst 1, 1) := by decide +kernel
theorem dX2_readNumber_19 : decode cX2_readNumber 19 = .ok (.invokevirtual 39, 3) := by decide +kernel
theorem dX2_readNumber_22 : decode cX2_readNumber 22 = .ok (.goto 47, 3) := by decide +kernel
theorem dX2_readNumber_25 : decode cX2_readNumber 25 = .ok (.aload_n 1, 1) := by decide +kernel
theorem dX2_readNumber_26 : decode cX2_readNumber 26 = .ok (.invokevirtual 79, 3) := by decide +kernel
theorem dX2_readNumber_29 : decode cX2_readNumber 29 = .ok (.iload 4, 2) := by decide +kernel
theorem dX2_readNumber_31 : decode cX2_readNumber 31 = .ok (.if_icmp .lt 12, 3) := by decide +kernel
theorem dX2_readNumber_34 : decode cX2_readNumber 34 = .ok (.aload_n 1, 1) := by decide +kernel
theorem dX2_readNumber_35 : decode cX2_readNumber 35 = .ok (.invokevirtual 79, 3) := by decide +kernel
theorem dX2_readNumber_38 : decode cX2_readNumber 38 = .ok (.iload 5, 2) := by decide +kernel
theorem dX2_readNumber_40 : decode cX2_readNumber 40 = .ok (.if_icmp .le 12, 3) := by decide +kernel
theorem dX2_readNumber_43 : decode cX2_readNumber 43 = .ok (.aload_n 0, 1) := by decide +kernel
theorem dX2_readNumber_44 : decode cX2_readNumber 44 = .ok (.aload_n 1, 1) := by decide +kernel
theorem dX2_readNumber_45 : decode cX2_readNumber 45 = .ok (.iconst 2, 1) := by decide +kernel
theorem dX2_readNumber_46 : decode cX2_readNumber 46 = .ok (.invokevirtual 39, 3) := by decide +kernel
theorem dX2_readNumber_49 : decode cX2_readNumber 49 = .ok (.goto 20, 3) := by decide +kernel
theorem dX2_readNumber_52 : decode cX2_readNumber 52 = .ok (.aload_n 2, 1) := by decide +kernel
theorem dX2_readNumber_53 : decode cX2_readNumber 53 = .ok (.aload_n 2, 1) := by decide +kernel
theorem dX2_readNumber_54 : decode cX2_readNumber 54 = .ok (.getfield 47, 3) := by decide +kernel
theorem dX2_readNumber_57 : decode cX2_readNumber 57 = .ok (.iload_n 3, 1) := by decide +kernel
theorem dX2_readNumber_58 : decode cX2_readNumber 58 = .ok (.aload_n 1, 1) := by decide +kernel
theorem dX2_readNumber_59 : decode cX2_readNumber 59 = .ok (.invokevirtual 79, 3) := by decide +kernel
theorem dX2_readNumber_62 : decode cX2_readNumber 62 = .ok (.invokevirtual 50, 3) := by decide +kernel
theorem dX2_readNumber_65 : decode cX2_readNumber 65 = .ok (.aload_n 1, 1) := by decide +kernel
theorem dX2_readNumber_66 : decode cX2_readNumber 66 = .ok (.invokevirtual 54, 3) := by decide +kernel
theorem dX2_readNumber_69 : decode cX2_readNumber 69 = .ok (.return_, 1) := by decide +kernel
theorem dX2_readLevel_0 : decode cX2_readLevel 0 = .ok (.iload_n 3, 1) := by decide +kernel
theorem dX2_readLevel_1 : decode cX2_readLevel 1 = .ok (.iconst 2, 1) := by decide +kernel
theorem dX2_readLevel_2 : decode cX2_readLevel 2 = .ok (.if_icmp .ne 12, 3) := by decide +kernel
theorem dX2_readLevel_5 : decode cX2_readLevel 5 = .ok (.aload_n 0, 1) := by decide +kernel
theorem dX2_readLevel_6 : decode cX2_readLevel 6 = .ok (.aload_n 1, 1) := by decide +kernel
theorem dX2_readLevel_7 : decode cX2_readLevel 7 = .ok (.aload_n 2, 1) := by decide +kernel
theorem dX2_readLevel_8 : decode cX2_readLevel 8 = .ok (.iload 4, 2) := by decide +kernel
theorem dX2_readLevel_10 : decode cX2_readLevel 10 = .ok (.invokevirtual 82, 3) := by decide +kernel
theorem dX2_readLevel_13 : decode cX2_readLevel 13 = .ok (.return_, 1) := by decide +kernel
theorem dX2_readLevel_14 : decode cX2_readLevel 14 = .ok (.iload_n 3, 1) := by decide +kernel
theorem dX2_readLevel_15 : decode cX2_readLevel 15 = .ok (.iconst 5, 1) := by decide +kernel
theorem dX2_readLevel_16 : decode cX2_readLevel 16 = .ok (.if_icmp .ne 12, 3) := by decide +kernel
theorem dX2_readLevel_19 : decode cX2_readLevel 19 = .ok (.aload_n 0, 1) := by decide +kernel
theorem dX2_readLevel_20 : decode cX2_readLevel 20 = .ok (.aload_n 1, 1) := by decide +kernel
theorem dX2_readLevel_21 : decode cX2_readLevel 21 = .ok (.aload_n 2, 1) := by decide +kernel
theorem dX2_readLevel_22 : decode cX2_readLevel 22 = .ok (.iload 4, 2) := by decide +kernel
theorem dX2_readLevel_24 : decode cX2_readLevel 24 = .ok (.invokevirtual 85, 3) := by decide +kernel
theorem dX2_readLevel_27 : decode cX2_readLevel 27 = .ok (.return_, 1) := by decide +kernel
theorem dX2_readLevel_28 : decode cX2_readLevel 28 = .ok (.aload_n 0, 1) := by decide +kernel
theorem dX2_readLevel_29 : decode cX2_readLevel 29 = .ok (.aload_n 1, 1) := by decide +kernel
theorem dX2_readLevel_30 : decode cX2_readLevel 30 = .ok (.aload_n 2, 1) := by decide +kernel
theorem dX2_readLevel_31 : decode cX2_readLevel 31 = .ok (.iload_n 3, 1) := by decide +kernel
theorem dX2_readLevel_32 : decode cX2_readLevel 32 = .ok (.iconst 1, 1) := by decide +kernel
theorem dX2_readLevel_33 : decode cX2_readLevel 33 = .ok (.iadd, 1) := by decide +kernel
theorem dX2_readLevel_34 : decode cX2_readLevel 34 = .ok (.iload 4, 2) := by decide +kernel
theorem dX2_readLevel_36 : decode cX2_readLevel 36 = .ok (.invokevirtual 61, 3) := by decide +kernel
theorem dX2_readLevel_39 : decode cX2_readLevel 39 = .ok (.iconst 0, 1) := by decide +kernel
theorem dX2_readLevel_40 : decode cX2_readLevel 40 = .ok (.istore 5, 2) := by decide +kernel
theorem dX2_readLevel_42 : decode cX2_readLevel 42 = .ok (.iload 5, 2) := by decide +kernel
theorem dX2_readLevel_44 : decode cX2_readLevel 44 = .ok (.sipush 300, 3) := by decide +kernel
theorem dX2_readLevel_47 : decode cX2_readLevel 47 = .ok (.if_icmp .ge 58, 3) := by decide +kernel
theorem dX2_readLevel_50 : decode cX2_readLevel 50 = .ok (.aload_n 0, 1) := by decide +kernel
theorem dX2_readLevel_51 : decode cX2_readLevel 51 = .ok (.getfield 9, 3) := by decide +kernel
theorem dX2_readLevel_54 : decode cX2_readLevel 54 = .ok (.ifCond .ne 51, 3) := by decide +kernel
theorem dX2_readLevel_57 : decode cX2_readLevel 57 = .ok (.aload_n 1, 1) := by decide +kernel
theorem dX2_readLevel_58 : decode cX2_readLevel 58 = .ok (.invokevirtual 26, 3) := by decide +kernel
theorem dX2_readLevel_61 : decode cX2_readLevel 61 = .ok (.invokestatic 88, 3) := by decide +kernel
theorem dX2_readLevel_64 : decode cX2_readLevel 64 = .ok (.iload_n 3, 1) := by decide +kernel
theorem dX2_readLevel_65 : decode cX2_readLevel 65 = .ok (.if_icmp .ne 40, 3) := by decide +kernel
theorem dX2_readLevel_68 : decode cX2_readLevel 68 = .ok (.aload_n 1, 1) := by decide +kernel
theorem dX2_readLevel_69 : decode cX2_readLevel 69 = .ok (.invokevirtual 26, 3) := by decide +kernel
theorem dX2_readLevel_72 : decode cX2_readLevel 72 = .ok (.istore 6, 2) := by decide +kernel
theorem dX2_readLevel_74 : decode cX2_readLevel 74 = .ok (.aload_n 1, 1) := by decide +kernel
theorem dX2_readLevel_75 : decode cX2_readLevel 75 = .ok (.invokevirtual 54, 3) := by decide +kernel
theorem dX2_readLevel_78 : decode cX2_readLevel 78 = .ok (.aload_n 0, 1) := by decide +kernel
theorem dX2_readLevel_79 : decode cX2_readLevel 79 = .ok (.aload_n 1, 1) := by decide +kernel
theorem dX2_readLevel_80 : decode cX2_readLevel 80 = .ok (.aload_n 2, 1) := by decide +kernel
theorem dX2_readLevel_81 : decode cX2_readLevel 81 = .ok (.iload_n 3, 1) := by decide +kernel
theorem dX2_readLevel_82 : decode cX2_readLevel 82 = .ok (.iconst 1, 1) := by decide +kernel
theorem dX2_readLevel_83 : decode cX2_readLevel 83 = .ok (.iadd, 1) := by decide +kernel
theorem dX2_readLevel_84 : decode cX2_readLevel 84 = .ok (.iload 4, 2) := by decide +kernel
theorem dX2_readLevel_86 : decode cX2_readLevel 86 = .ok (.invokevirtual 61, 3) := by decide +kernel
theorem dX2_readLevel_89 : decode cX2_readLevel 89 = .ok (.aload_n 2, 1) := by decide +kernel
theorem dX2_readLevel_90 : decode cX2_readLevel 90 = .ok (.sipush 20000, 3) := by decide +kernel
theorem dX2_readLevel_93 : decode cX2_readLevel 93 = .ok (.iload 6, 2) := by decide +kernel
theorem dX2_readLevel_95 : decode cX2_readLevel 95 = .ok (.iadd, 1) := by decide +kernel
theorem dX2_readLevel_96 : decode cX2_readLevel 96 = .ok (.invokevirtual 92, 3) := by decide +kernel
theorem dX2_readLevel_99 : decode cX2_readLevel 99 = .ok (.iinc 5 1, 3) := by decide +kernel
theorem dX2_readLevel_102 : decode cX2_readLevel 102 = .ok (.goto (-60), 3) := by decide +kernel
theorem dX2_readLevel_105 : decode cX2_readLevel 105 = .ok (.return_, 1) := by decide +kernel
theorem dX2_levelOf_0 : decode cX2_levelOf 0 = .ok (.iload_n 0, 1) := by decide +kernel
theorem dX2_levelOf_1 : decode cX2_levelOf 1 = .ok (.tableswitch 103 9 27 #[95, 97, 99, 101, 103, 103, 103, 103, 103, 103, 103, 103, 103, 103, 103, 103, 103, 91, 93], 91) := by decide +kernel
theorem dX2_levelOf_92 : decode cX2_levelOf 92 = .ok (.iconst 0, 1) := by decide +kernel
theorem dX2_levelOf_93 : decode cX2_levelOf 93 = .ok (.ireturn, 1) := by decide +kernel
theorem dX2_levelOf_94 : decode cX2_levelOf 94 = .ok (.iconst 1, 1) := by decide +kernel
theorem dX2_levelOf_95 : decode cX2_levelOf 95 = .ok (.ireturn, 1) := by decide +kernel
theorem dX2_levelOf_96 : decode cX2_levelOf 96 = .ok (.iconst 3, 1) := by decide +kernel
theorem dX2_levelOf_97 : decode cX2_levelOf 97 = .ok (.ireturn, 1) := by decide +kernel
theorem dX2_levelOf_98 : decode cX2_levelOf 98 = .ok (.iconst 3, 1) := by decide +kernel
theorem dX2_levelOf_99 : decode cX2_levelOf 99 = .ok (.ireturn, 1) := by decide +kernel
theorem dX2_levelOf_100 : decode cX2_levelOf 100 = .ok (.iconst 4, 1) := by decide +kernel
theorem dX2_levelOf_101 : decode cX2_levelOf 101 = .ok (.ireturn, 1) := by decide +kernel
theorem dX2_levelOf_102 : decode cX2_levelOf 102 = .ok (.iconst 4, 1) := by decide +kernel
theorem dX2_levelOf_103 : decode cX2_levelOf 103 = .ok (.ireturn, 1) := by decide +kernel
theorem dX2_levelOf_104 : decode cX2_levelOf 104 = .ok (.iconst (-1), 1) := by decide +kernel
theorem dX2_levelOf_105 : decode cX2_levelOf 105 = .ok (.ireturn, 1) := by decide +kernel
theorem dX2_readAsk_0 : decode cX2_readAsk 0 = .ok (.aload_n 1, 1) := by decide +kernel
theorem dX2_readAsk_1 : decode cX2_readAsk 1 = .ok (.invokevirtual 26, 3) := by decide +kernel
theorem dX2_readAsk_4 : decode cX2_readAsk 4 = .ok (.bipush 28, 2) := by decide +kernel
theorem dX2_readAsk_6 : decode cX2_readAsk 6 = .ok (.if_icmp .ne 29, 3) := by decide +kernel
theorem dX2_readAsk_9 : decode cX2_readAsk 9 = .ok (.aload_n 0, 1) := by decide +kernel
theorem dX2_readAsk_10 : decode cX2_readAsk 10 = .ok (.aload_n 1, 1) := by decide +kernel
theorem dX2_readAsk_11 : decode cX2_readAsk 11 = .ok (.iload_n 3, 1) := by decide +kernel
theorem dX2_readAsk_12 : decode cX2_readAsk 12 = .ok (.invokevirtual 95, 3) := by decide +kernel
theorem dX2_readAsk_15 : decode cX2_readAsk 15 = .ok (.ifCond .eq 19, 3) := by decide +kernel
theorem dX2_readAsk_18 : decode cX2_readAsk 18 = .ok (.aload_n 0, 1) := by decide +kernel
theorem dX2_readAsk_19 : decode cX2_readAsk 19 = .ok (.aload_n 1, 1) := by decide +kernel
theorem dX2_readAsk_20 : decode cX2_readAsk 20 = .ok (.aload_n 2, 1) := by decide +kernel
theorem dX2_readAsk_21 : decode cX2_readAsk 21 = .ok (.iload_n 3, 1) := by decide +kernel
theorem dX2_readAsk_22 : decode cX2_readAsk 22 = .ok (.iconst 1, 1) := by decide +kernel
theorem dX2_readAsk_23 : decode cX2_readAsk 23 = .ok (.iadd, 1) := by decide +kernel
theorem dX2_readAsk_24 : decode cX2_readAsk 24 = .ok (.invokevirtual 82, 3) := by decide +kernel
theorem dX2_readAsk_27 : decode cX2_readAsk 27 = .ok (.aload_n 2, 1) := by decide +kernel
theorem dX2_readAsk_28 : decode cX2_readAsk 28 = .ok (.sipush 20028, 3) := by decide +kernel
theorem dX2_readAsk_31 : decode cX2_readAsk 31 = .ok (.invokevirtual 92, 3) := by decide +kernel
theorem dX2_readAsk_34 : decode cX2_readAsk 34 = .ok (.return_, 1) := by decide +kernel
theorem dX2_readAsk_35 : decode cX2_readAsk 35 = .ok (.aload_n 0, 1) := by decide +kernel
theorem dX2_readAsk_36 : decode cX2_readAsk 36 = .ok (.aload_n 1, 1) := by decide +kernel
theorem dX2_readAsk_37 : decode cX2_readAsk 37 = .ok (.aload_n 2, 1) := by decide +kernel
theorem dX2_readAsk_38 : decode cX2_readAsk 38 = .ok (.iconst 3, 1) := by decide +kernel
theorem dX2_readAsk_39 : decode cX2_readAsk 39 = .ok (.iload_n 3, 1) := by decide +kernel
theorem dX2_readAsk_40 : decode cX2_readAsk 40 = .ok (.invokevirtual 61, 3) := by decide +kernel
theorem dX2_readAsk_43 : decode cX2_readAsk 43 = .ok (.aload_n 1, 1) := by decide +kernel
theorem dX2_readAsk_44 : decode cX2_readAsk 44 = .ok (.invokevirtual 26, 3) := by decide +kernel
theorem dX2_readAsk_47 : decode cX2_readAsk 47 = .ok (.istore 4, 2) := by decide +kernel
theorem dX2_readAsk_49 : decode cX2_readAsk 49 = .ok (.iload 4, 2) := by decide +kernel
theorem dX2_readAsk_51 : decode cX2_readAsk 51 = .ok (.iconst 3, 1) := by decide +kernel
theorem dX2_readAsk_52 : decode cX2_readAsk 52 = .ok (.if_icmp .lt 10, 3) := by decide +kernel
theorem dX2_readAsk_55 : decode cX2_readAsk 55 = .ok (.iload 4, 2) := by decide +kernel
theorem dX2_readAsk_57 : decode cX2_readAsk 57 = .ok (.bipush 8, 2) := by decide +kernel
theorem dX2_readAsk_59 : decode cX2_readAsk 59 = .ok (.if_icmp .le 9, 3) := by decide +kernel
theorem dX2_readAsk_62 : decode cX2_readAsk 62 = .ok (.aload_n 0, 1) := by decide +kernel
theorem dX2_readAsk_63 : decode cX2_readAsk 63 = .ok (.aload_n 1, 1) := by decide +kernel
theorem dX2_readAsk_64 : decode cX2_readAsk 64 = .ok (.iconst 1, 1) := by decide +kernel
theorem dX2_readAsk_65 : decode cX2_readAsk 65 = .ok (.invokevirtual 39, 3) := by decide +kernel
theorem dX2_readAsk_68 : decode cX2_readAsk 68 = .ok (.aload_n 0, 1) := by decide +kernel
theorem dX2_readAsk_69 : decode cX2_readAsk 69 = .ok (.getfield 9, 3) := by decide +kernel
theorem dX2_readAsk_72 : decode cX2_readAsk 72 = .ok (.ifCond .ne 25, 3) := by decide +kernel
theorem dX2_readAsk_75 : decode cX2_readAsk 75 = .ok (.aload_n 1, 1) := by decide +kernel
theorem dX2_readAsk_76 : decode cX2_readAsk 76 = .ok (.invokevirtual 54, 3) := by decide +kernel
theorem dX2_readAsk_79 : decode cX2_readAsk 79 = .ok (.aload_n 0, 1) := by decide +kernel
theorem dX2_readAsk_80 : decode cX2_readAsk 80 = .ok (.aload_n 1, 1) := by decide +kernel
theorem dX2_readAsk_81 : decode cX2_readAsk 81 = .ok (.aload_n 2, 1) := by decide +kernel
theorem dX2_readAsk_82 : decode cX2_readAsk 82 = .ok (.iconst 3, 1) := by decide +kernel
theorem dX2_readAsk_83 : decode cX2_readAsk 83 = .ok (.iload_n 3, 1) := by decide +kernel
theorem dX2_readAsk_84 : decode cX2_readAsk 84 = .ok (.invokevirtual 61, 3) := by decide +kernel
theorem dX2_readAsk_87 : decode cX2_readAsk 87 = .ok (.aload_n 2, 1) := by decide +kernel
theorem dX2_readAsk_88 : decode cX2_readAsk 88 = .ok (.sipush 20000, 3) := by decide +kernel
theorem dX2_readAsk_91 : decode cX2_readAsk 91 = .ok (.iload 4, 2) := by decide +kernel
theorem dX2_readAsk_93 : decode cX2_readAsk 93 = .ok (.iadd, 1) := by decide +kernel
theorem dX2_readAsk_94 : decode cX2_readAsk 94 = .ok (.invokevirtual 92, 3) := by decide +kernel
theorem dX2_readAsk_97 : decode cX2_readAsk 97 = .ok (.return_, 1) := by decide +kernel
theorem dX2_readOne_0 : decode cX2_readOne 0 = .ok (.aload_n 1, 1) := by decide +kernel
theorem dX2_readOne_1 : decode cX2_readOne 1 = .ok (.invokevirtual 26, 3) := by decide +kernel
theorem dX2_readOne_4 : decode cX2_readOne 4 = .ok (.istore 4, 2) := by decide +kernel
theorem dX2_readOne_6 : decode cX2_readOne 6 = .ok (.iload 4, 2) := by decide +kernel
theorem dX2_readOne_8 : decode cX2_readOne 8 = .ok (.iconst 2, 1) := by decide +kernel
theorem dX2_readOne_9 : decode cX2_readOne 9 = .ok (.if_icmp .ne 12, 3) := by decide +kernel
theorem dX2_readOne_12 : decode cX2_readOne 12 = .ok (.aload_n 0, 1) := by decide +kernel
theorem dX2_readOne_13 : decode cX2_readOne 13 = .ok (.aload_n 1, 1) := by decide +kernel
theorem dX2_readOne_14 : decode cX2_readOne 14 = .ok (.aload_n 2, 1) := by decide +kernel
theorem dX2_readOne_15 : decode cX2_readOne 15 = .ok (.invokevirtual 99, 3) := by decide +kernel
theorem dX2_readOne_18 : decode cX2_readOne 18 = .ok (.goto 103, 3) := by decide +kernel
theorem dX2_readOne_21 : decode cX2_readOne 21 = .ok (.iload 4, 2) := by decide +kernel
theorem dX2_readOne_23 : decode cX2_readOne 23 = .ok (.bipush 29, 2) := by decide +kernel
theorem dX2_readOne_25 : decode cX2_readOne 25 = .ok (.if_icmp .lt 19, 3) := by decide +kernel
theorem dX2_readOne_28 : decode cX2_readOne 28 = .ok (.iload 4, 2) := by decide +kernel
theorem dX2_readOne_30 : decode cX2_readOne 30 = .ok (.bipush 37, 2) := by decide +kernel
theorem dX2_readOne_32 : decode cX2_readOne 32 = .ok (.if_icmp .gt 12, 3) := by decide +kernel
theorem dX2_readOne_35 : decode cX2_readOne 35 = .ok (.aload_n 0, 1) := by decide +kernel
theorem dX2_readOne_36 : decode cX2_readOne 36 = .ok (.aload_n 1, 1) := by decide +kernel
theorem dX2_readOne_37 : decode cX2_readOne 37 = .ok (.aload_n 2, 1) := by decide +kernel
theorem dX2_readOne_38 : decode cX2_readOne 38 = .ok (.invokevirtual 102, 3) := by decide +kernel
theorem dX2_readOne_41 : decode cX2_readOne 41 = .ok (.goto 80, 3) := by decide +kernel
theorem dX2_readOne_44 : decode cX2_readOne 44 = .ok (.iload 4, 2) := by decide +kernel
theorem dX2_readOne_46 : decode cX2_readOne 46 = .ok (.bipush 13, 2) := by decide +kernel
theorem dX2_readOne_48 : decode cX2_readOne 48 = .ok (.if_icmp .ne 32, 3) := by decide +kernel
theorem dX2_readOne_51 : decode cX2_readOne 51 = .ok (.aload_n 0, 1) := by decide +kernel
theorem dX2_readOne_52 : decode cX2_readOne 52 = .ok (.aload_n 1, 1) := by decide +kernel
theorem dX2_readOne_53 : decode cX2_readOne 53 = .ok (.iload_n 3, 1) := by decide +kernel
theorem dX2_readOne_54 : decode cX2_readOne 54 = .ok (.invokevirtual 95, 3) := by decide +kernel
theorem dX2_readOne_57 : decode cX2_readOne 57 = .ok (.ifCond .eq 64, 3) := by decide +kernel
theorem dX2_readOne_60 : decode cX2_readOne 60 = .ok (.aload_n 0, 1) := by decide +kernel
theorem dX2_readOne_61 : decode cX2_readOne 61 = .ok (.aload_n 1, 1) := by decide +kernel
theorem dX2_readOne_62 : decode cX2_readOne 62 = .ok (.aload_n 2, 1) := by decide +kernel
theorem dX2_readOne_63 : decode cX2_readOne 63 = .ok (.iconst 3, 1) := by decide +kernel
theorem dX2_readOne_64 : decode cX2_readOne 64 = .ok (.iload_n 3, 1) := by decide +kernel
theorem dX2_readOne_65 : decode cX2_readOne 65 = .ok (.iconst 1, 1) := by decide +kernel
theorem dX2_readOne_66 : decode cX2_readOne 66 = .ok (.iadd, 1) := by decide +kernel
theorem dX2_readOne_67 : decode cX2_readOne 67 = .ok (.invokevirtual 61, 3) := by decide +kernel
theorem dX2_readOne_70 : decode cX2_readOne 70 = .ok (.aload_n 0, 1) := by decide +kernel
theorem dX2_readOne_71 : decode cX2_readOne 71 = .ok (.aload_n 1, 1) := by decide +kernel
theorem dX2_readOne_72 : decode cX2_readOne 72 = .ok (.bipush 14, 2) := by decide +kernel
theorem dX2_readOne_74 : decode cX2_readOne 74 = .ok (.invokevirtual 72, 3) := by decide +kernel
theorem dX2_readOne_77 : decode cX2_readOne 77 = .ok (.goto 44, 3) := by decide +kernel
theorem dX2_readOne_80 : decode cX2_readOne 80 = .ok (.iload 4, 2) := by decide +kernel
theorem dX2_readOne_82 : decode cX2_readOne 82 = .ok (.bipush 10, 2) := by decide +kernel
theorem dX2_readOne_84 : decode cX2_readOne 84 = .ok (.if_icmp .ne 31, 3) := by decide +kernel
theorem dX2_readOne_87 : decode cX2_readOne 87 = .ok (.aload_n 0, 1) := by decide +kernel
theorem dX2_readOne_88 : decode cX2_readOne 88 = .ok (.aload_n 1, 1) := by decide +kernel
theorem dX2_readOne_89 : decode cX2_readOne 89 = .ok (.iload_n 3, 1) := by decide +kernel
theorem dX2_readOne_90 : decode cX2_readOne 90 = .ok (.invokevirtual 95, 3) := by decide +kernel
theorem dX2_readOne_93 : decode cX2_readOne 93 = .ok (.ifCond .eq 28, 3) := by decide +kernel
theorem dX2_readOne_96 : decode cX2_readOne 96 = .ok (.aload_n 0, 1) := by decide +kernel
theorem dX2_readOne_97 : decode cX2_readOne 97 = .ok (.aload_n 1, 1) := by decide +kernel
theorem dX2_readOne_98 : decode cX2_readOne 98 = .ok (.aload_n 2, 1) := by decide +kernel
theorem dX2_readOne_99 : decode cX2_readOne 99 = .ok (.iload_n 3, 1) := by decide +kernel
theorem dX2_readOne_100 : decode cX2_readOne 100 = .ok (.iconst 1, 1) := by decide +kernel
theorem dX2_readOne_101 : decode cX2_readOne 101 = .ok (.iadd, 1) := by decide +kernel
theorem dX2_readOne_102 : decode cX2_readOne 102 = .ok (.invokevirtual 85, 3) := by decide +kernel
theorem dX2_readOne_105 : decode cX2_readOne 105 = .ok (.aload_n 2, 1) := by decide +kernel
theorem dX2_readOne_106 : decode cX2_readOne 106 = .ok (.sipush 20038, 3) := by decide +kernel
theorem dX2_readOne_109 : decode cX2_readOne 109 = .ok (.invokevirtual 92, 3) := by decide +kernel
theorem dX2_readOne_112 : decode cX2_readOne 112 = .ok (.goto 9, 3) := by decide +kernel
theorem dX2_readOne_115 : decode cX2_readOne 115 = .ok (.aload_n 0, 1) := by decide +kernel
theorem dX2_readOne_116 : decode cX2_readOne 116 = .ok (.aload_n 1, 1) := by decide +kernel
theorem dX2_readOne_117 : decode cX2_readOne 117 = .ok (.iconst 1, 1) := by decide +kernel
theorem dX2_readOne_118 : decode cX2_readOne 118 = .ok (.invokevirtual 39, 3) := by decide +kernel
theorem dX2_readOne_121 : decode cX2_readOne 121 = .ok (.return_, 1) := by decide +kernel
theorem dX2_opens_0 : decode cX2_opens 0 = .ok (.iload_n 2, 1) := by decide +kernel
theorem dX2_opens_1 : decode cX2_opens 1 = .ok (.bipush 8, 2) := by decide +kernel
theorem dX2_opens_3 : decode cX2_opens 3 = .ok (.if_icmp .lt 11, 3) := by decide +kernel
theorem dX2_opens_6 : decode cX2_opens 6 = .ok (.aload_n 0, 1) := by decide +kernel
theorem dX2_opens_7 : decode cX2_opens 7 = .ok (.aload_n 1, 1) := by decide +kernel
theorem dX2_opens_8 : decode cX2_opens 8 = .ok (.iconst 3, 1) := by decide +kernel
theorem dX2_opens_9 : decode cX2_opens 9 = .ok (.invokevirtual 39, 3) := by decide +kernel
theorem dX2_opens_12 : decode cX2_opens 12 = .ok (.iconst 0, 1) := by decide +kernel
theorem dX2_opens_13 : decode cX2_opens 13 = .ok (.ireturn, 1) := by decide +kernel
theorem dX2_opens_14 : decode cX2_opens 14 = .ok (.aload_n 1, 1) := by decide +kernel
theorem dX2_opens_15 : decode cX2_opens 15 = .ok (.invokevirtual 54, 3) := by decide +kernel
theorem dX2_opens_18 : decode cX2_opens 18 = .ok (.iconst 1, 1) := by decide +kernel
theorem dX2_opens_19 : decode cX2_opens 19 = .ok (.ireturn, 1) := by decide +kernel
theorem dX2_readValue_0 : decode cX2_readValue 0 = .ok (.aload_n 1, 1) := by decide +kernel
theorem dX2_readValue_1 : decode cX2_readValue 1 = .ok (.invokevirtual 79, 3) := by decide +kernel
theorem dX2_readValue_4 : decode cX2_readValue 4 = .ok (.sipush 9999, 3) := by decide +kernel
theorem dX2_readValue_7 : decode cX2_readValue 7 = .ok (.if_icmp .le 10, 3) := by decide +kernel
theorem dX2_readValue_10 : decode cX2_readValue 10 = .ok (.aload_n 0, 1) := by decide +kernel
theorem dX2_readValue_11 : decode cX2_readValue 11 = .ok (.aload_n 1, 1) := by decide +kernel
theorem dX2_readValue_12 : decode cX2_readValue 12 = .ok (.iconst 2, 1) := by decide +kernel
theorem dX2_readValue_13 : decode cX2_readValue 13 = .ok (.invokevirtual 39, 3) := by decide +kernel
theorem dX2_readValue_16 : decode cX2_readValue 16 = .ok (.return_, 1) := by decide +kernel
theorem dX2_readValue_17 : decode cX2_readValue 17 = .ok (.aload_n 2, 1) := by decide +kernel
theorem dX2_readValue_18 : decode cX2_readValue 18 = .ok (.aload_n 1, 1) := by decide +kernel
theorem dX2_readValue_19 : decode cX2_readValue 19 = .ok (.invokevirtual 79, 3) := by decide +kernel
theorem dX2_readValue_22 : decode cX2_readValue 22 = .ok (.invokevirtual 92, 3) := by decide +kernel
theorem dX2_readValue_25 : decode cX2_readValue 25 = .ok (.aload_n 1, 1) := by decide +kernel
theorem dX2_readValue_26 : decode cX2_readValue 26 = .ok (.invokevirtual 54, 3) := by decide +kernel
theorem dX2_readValue_29 : decode cX2_readValue 29 = .ok (.return_, 1) := by decide +kernel
theorem dX2_readName_0 : decode cX2_readName 0 = .ok (.aload_n 1, 1) := by decide +kernel
theorem dX2_readName_1 : decode cX2_readName 1 = .ok (.invokevirtual 26, 3) := by decide +kernel
theorem dX2_readName_4 : decode cX2_readName 4 = .ok (.bipush 35, 2) := by decide +kernel
theorem dX2_readName_6 : decode cX2_readName 6 = .ok (.if_icmp .lt 25, 3) := by decide +kernel
theorem dX2_readName_9 : decode cX2_readName 9 = .ok (.aload_n 0, 1) := by decide +kernel
theorem dX2_readName_10 : decode cX2_readName 10 = .ok (.getfield 18, 3) := by decide +kernel
theorem dX2_readName_13 : decode cX2_readName 13 = .ok (.ifCond .eq 18, 3) := by decide +kernel
theorem dX2_readName_16 : decode cX2_readName 16 = .ok (.aload_n 0, 1) := by decide +kernel
theorem dX2_readName_17 : decode cX2_readName 17 = .ok (.getfield 18, 3) := by decide +kernel
theorem dX2_readName_20 : decode cX2_readName 20 = .ok (.iconst 1, 1) := by decide +kernel
theorem dX2_readName_21 : decode cX2_readName 21 = .ok (.if_icmp .eq 10, 3) := by decide +kernel
theorem dX2_readName_24 : decode cX2_readName 24 = .ok (.aload_n 0, 1) := by decide +kernel
theorem dX2_readName_25 : decode cX2_readName 25 = .ok (.aload_n 1, 1) := by decide +kernel
theorem dX2_readName_26 : decode cX2_readName 26 = .ok (.iconst 5, 1) := by decide +kernel
theorem dX2_readName_27 : decode cX2_readName 27 = .ok (.invokevirtual 39, 3) := by decide +kernel
theorem dX2_readName_30 : decode cX2_readName 30 = .ok (.return_, 1) := by decide +kernel
theorem dX2_readName_31 : decode cX2_readName 31 = .ok (.aload_n 2, 1) := by decide +kernel
theorem dX2_readName_32 : decode cX2_readName 32 = .ok (.sipush 10000, 3) := by decide +kernel
theorem dX2_readName_35 : decode cX2_readName 35 = .ok (.aload_n 1, 1) := by decide +kernel
theorem dX2_readName_36 : decode cX2_readName 36 = .ok (.invokevirtual 26, 3) := by decide +kernel
theorem dX2_readName_39 : decode cX2_readName 39 = .ok (.iadd, 1) := by decide +kernel
theorem dX2_readName_40 : decode cX2_readName 40 = .ok (.bipush 29, 2) := by decide +kernel
theorem dX2_readName_42 : decode cX2_readName 42 = .ok (.isub, 1) := by decide +kernel
theorem dX2_readName_43 : decode cX2_readName 43 = .ok (.invokevirtual 92, 3) := by decide +kernel
theorem dX2_readName_46 : decode cX2_readName 46 = .ok (.aload_n 1, 1) := by decide +kernel
theorem dX2_readName_47 : decode cX2_readName 47 = .ok (.invokevirtual 54, 3) := by decide +kernel
theorem dX2_readName_50 : decode cX2_readName 50 = .ok (.return_, 1) := by decide +kernel
