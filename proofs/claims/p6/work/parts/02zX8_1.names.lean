theorem dX8_about_84 : decode cX8_about 84 = .ok (.getfield 77, 3) := by decide +kernel
theorem dX8_about_87 : decode cX8_about 87 = .ok (.ireturn, 1) := by decide +kernel
theorem dX8_about_88 : decode cX8_about 88 = .ok (.aload_n 0, 1) := by decide +kernel
theorem dX8_about_89 : decode cX8_about 89 = .ok (.getfield 10, 3) := by decide +kernel
theorem dX8_about_92 : decode cX8_about 92 = .ok (.getfield 110, 3) := by decide +kernel
theorem dX8_about_95 : decode cX8_about 95 = .ok (.ireturn, 1) := by decide +kernel
theorem dX8_about_96 : decode cX8_about 96 = .ok (.aload_n 0, 1) := by decide +kernel
theorem dX8_about_97 : decode cX8_about 97 = .ok (.getfield 10, 3) := by decide +kernel
theorem dX8_about_100 : decode cX8_about 100 = .ok (.getfield 80, 3) := by decide +kernel
theorem dX8_about_103 : decode cX8_about 103 = .ok (.ireturn, 1) := by decide +kernel
theorem dX8_about_104 : decode cX8_about 104 = .ok (.aload_n 0, 1) := by decide +kernel
theorem dX8_about_105 : decode cX8_about 105 = .ok (.getfield 10, 3) := by decide +kernel
theorem dX8_about_108 : decode cX8_about 108 = .ok (.getfield 126, 3) := by decide +kernel
theorem dX8_about_111 : decode cX8_about 111 = .ok (.ireturn, 1) := by decide +kernel
theorem dX8_about_112 : decode cX8_about 112 = .ok (.aload_n 0, 1) := by decide +kernel
theorem dX8_about_113 : decode cX8_about 113 = .ok (.getfield 10, 3) := by decide +kernel
theorem dX8_about_116 : decode cX8_about 116 = .ok (.getfield 147, 3) := by decide +kernel
theorem dX8_about_119 : decode cX8_about 119 = .ok (.ireturn, 1) := by decide +kernel
theorem dX8_about_120 : decode cX8_about 120 = .ok (.aload_n 0, 1) := by decide +kernel
theorem dX8_about_121 : decode cX8_about 121 = .ok (.getfield 10, 3) := by decide +kernel
theorem dX8_about_124 : decode cX8_about 124 = .ok (.getfield 175, 3) := by decide +kernel
theorem dX8_about_127 : decode cX8_about 127 = .ok (.ireturn, 1) := by decide +kernel
theorem dX8_about_128 : decode cX8_about 128 = .ok (.aload_n 0, 1) := by decide +kernel
theorem dX8_about_129 : decode cX8_about 129 = .ok (.getfield 22, 3) := by decide +kernel
theorem dX8_about_132 : decode cX8_about 132 = .ok (.getfield 119, 3) := by decide +kernel
theorem dX8_about_135 : decode cX8_about 135 = .ok (.ireturn, 1) := by decide +kernel
theorem dX8_about_136 : decode cX8_about 136 = .ok (.aload_n 0, 1) := by decide +kernel
theorem dX8_about_137 : decode cX8_about 137 = .ok (.iload_n 1, 1) := by decide +kernel
theorem dX8_about_138 : decode cX8_about 138 = .ok (.invokevirtual 255, 3) := by decide +kernel
theorem dX8_about_141 : decode cX8_about 141 = .ok (.ireturn, 1) := by decide +kernel
theorem dX8_aboutMany_0 : decode cX8_aboutMany 0 = .ok (.iload_n 1, 1) := by decide +kernel
theorem dX8_aboutMany_1 : decode cX8_aboutMany 1 = .ok (.bipush 20, 2) := by decide +kernel
theorem dX8_aboutMany_3 : decode cX8_aboutMany 3 = .ok (.if_icmp .lt 21, 3) := by decide +kernel
theorem dX8_aboutMany_6 : decode cX8_aboutMany 6 = .ok (.iload_n 1, 1) := by decide +kernel
theorem dX8_aboutMany_7 : decode cX8_aboutMany 7 = .ok (.bipush 26, 2) := by decide +kernel
theorem dX8_aboutMany_9 : decode cX8_aboutMany 9 = .ok (.if_icmp .ge 15, 3) := by decide +kernel
theorem dX8_aboutMany_12 : decode cX8_aboutMany 12 = .ok (.aload_n 0, 1) := by decide +kernel
theorem dX8_aboutMany_13 : decode cX8_aboutMany 13 = .ok (.getfield 10, 3) := by decide +kernel
theorem dX8_aboutMany_16 : decode cX8_aboutMany 16 = .ok (.iload_n 1, 1) := by decide +kernel
theorem dX8_aboutMany_17 : decode cX8_aboutMany 17 = .ok (.bipush 20, 2) := by decide +kernel
theorem dX8_aboutMany_19 : decode cX8_aboutMany 19 = .ok (.isub, 1) := by decide +kernel
theorem dX8_aboutMany_20 : decode cX8_aboutMany 20 = .ok (.invokevirtual 258, 3) := by decide +kernel
theorem dX8_aboutMany_23 : decode cX8_aboutMany 23 = .ok (.ireturn, 1) := by decide +kernel
theorem dX8_aboutMany_24 : decode cX8_aboutMany 24 = .ok (.iload_n 1, 1) := by decide +kernel
theorem dX8_aboutMany_25 : decode cX8_aboutMany 25 = .ok (.bipush 10, 2) := by decide +kernel
theorem dX8_aboutMany_27 : decode cX8_aboutMany 27 = .ok (.if_icmp .lt 17, 3) := by decide +kernel
theorem dX8_aboutMany_30 : decode cX8_aboutMany 30 = .ok (.iload_n 1, 1) := by decide +kernel
theorem dX8_aboutMany_31 : decode cX8_aboutMany 31 = .ok (.bipush 10, 2) := by decide +kernel
theorem dX8_aboutMany_33 : decode cX8_aboutMany 33 = .ok (.aload_n 0, 1) := by decide +kernel
theorem dX8_aboutMany_34 : decode cX8_aboutMany 34 = .ok (.getfield 10, 3) := by decide +kernel
theorem dX8_aboutMany_37 : decode cX8_aboutMany 37 = .ok (.getfield 252, 3) := by decide +kernel
theorem dX8_aboutMany_40 : decode cX8_aboutMany 40 = .ok (.iadd, 1) := by decide +kernel
theorem dX8_aboutMany_41 : decode cX8_aboutMany 41 = .ok (.if_icmp .lt 6, 3) := by decide +kernel
theorem dX8_aboutMany_44 : decode cX8_aboutMany 44 = .ok (.bipush (-2), 2) := by decide +kernel
theorem dX8_aboutMany_46 : decode cX8_aboutMany 46 = .ok (.ireturn, 1) := by decide +kernel
theorem dX8_aboutMany_47 : decode cX8_aboutMany 47 = .ok (.iload_n 1, 1) := by decide +kernel
theorem dX8_aboutMany_48 : decode cX8_aboutMany 48 = .ok (.bipush 10, 2) := by decide +kernel
theorem dX8_aboutMany_50 : decode cX8_aboutMany 50 = .ok (.isub, 1) := by decide +kernel
theorem dX8_aboutMany_51 : decode cX8_aboutMany 51 = .ok (.istore_n 2, 1) := by decide +kernel
theorem dX8_aboutMany_52 : decode cX8_aboutMany 52 = .ok (.aload_n 0, 1) := by decide +kernel
theorem dX8_aboutMany_53 : decode cX8_aboutMany 53 = .ok (.getfield 10, 3) := by decide +kernel
theorem dX8_aboutMany_56 : decode cX8_aboutMany 56 = .ok (.iload_n 2, 1) := by decide +kernel
theorem dX8_aboutMany_57 : decode cX8_aboutMany 57 = .ok (.iconst 0, 1) := by decide +kernel
theorem dX8_aboutMany_58 : decode cX8_aboutMany 58 = .ok (.invokevirtual 113, 3) := by decide +kernel
theorem dX8_aboutMany_61 : decode cX8_aboutMany 61 = .ok (.bipush 100, 2) := by decide +kernel
theorem dX8_aboutMany_63 : decode cX8_aboutMany 63 = .ok (.imul, 1) := by decide +kernel
theorem dX8_aboutMany_64 : decode cX8_aboutMany 64 = .ok (.aload_n 0, 1) := by decide +kernel
theorem dX8_aboutMany_65 : decode cX8_aboutMany 65 = .ok (.getfield 10, 3) := by decide +kernel
theorem dX8_aboutMany_68 : decode cX8_aboutMany 68 = .ok (.iload_n 2, 1) := by decide +kernel
theorem dX8_aboutMany_69 : decode cX8_aboutMany 69 = .ok (.iconst 1, 1) := by decide +kernel
theorem dX8_aboutMany_70 : decode cX8_aboutMany 70 = .ok (.invokevirtual 113, 3) := by decide +kernel
theorem dX8_aboutMany_73 : decode cX8_aboutMany 73 = .ok (.bipush 10, 2) := by decide +kernel
theorem dX8_aboutMany_75 : decode cX8_aboutMany 75 = .ok (.imul, 1) := by decide +kernel
theorem dX8_aboutMany_76 : decode cX8_aboutMany 76 = .ok (.iadd, 1) := by decide +kernel
theorem dX8_aboutMany_77 : decode cX8_aboutMany 77 = .ok (.aload_n 0, 1) := by decide +kernel
theorem dX8_aboutMany_78 : decode cX8_aboutMany 78 = .ok (.getfield 10, 3) := by decide +kernel
theorem dX8_aboutMany_81 : decode cX8_aboutMany 81 = .ok (.iload_n 2, 1) := by decide +kernel
theorem dX8_aboutMany_82 : decode cX8_aboutMany 82 = .ok (.iconst 2, 1) := by decide +kernel
theorem dX8_aboutMany_83 : decode cX8_aboutMany 83 = .ok (.invokevirtual 113, 3) := by decide +kernel
theorem dX8_aboutMany_86 : decode cX8_aboutMany 86 = .ok (.iadd, 1) := by decide +kernel
theorem dX8_aboutMany_87 : decode cX8_aboutMany 87 = .ok (.ireturn, 1) := by decide +kernel
theorem dX8_isDigit_0 : decode cX8_isDigit 0 = .ok (.iload_n 0, 1) := by decide +kernel
theorem dX8_isDigit_1 : decode cX8_isDigit 1 = .ok (.ifCond .lt 13, 3) := by decide +kernel
theorem dX8_isDigit_4 : decode cX8_isDigit 4 = .ok (.iload_n 0, 1) := by decide +kernel
theorem dX8_isDigit_5 : decode cX8_isDigit 5 = .ok (.bipush 9, 2) := by decide +kernel
theorem dX8_isDigit_7 : decode cX8_isDigit 7 = .ok (.if_icmp .gt 7, 3) := by decide +kernel
theorem dX8_isDigit_10 : decode cX8_isDigit 10 = .ok (.iconst 1, 1) := by decide +kernel
theorem dX8_isDigit_11 : decode cX8_isDigit 11 = .ok (.goto 4, 3) := by decide +kernel
theorem dX8_isDigit_14 : decode cX8_isDigit 14 = .ok (.iconst 0, 1) := by decide +kernel
theorem dX8_isDigit_15 : decode cX8_isDigit 15 = .ok (.ireturn, 1) := by decide +kernel
theorem dX8_isLetter_0 : decode cX8_isLetter 0 = .ok (.iload_n 0, 1) := by decide +kernel
theorem dX8_isLetter_1 : decode cX8_isLetter 1 = .ok (.ifCond .lt 13, 3) := by decide +kernel
theorem dX8_isLetter_4 : decode cX8_isLetter 4 = .ok (.iload_n 0, 1) := by decide +kernel
theorem dX8_isLetter_5 : decode cX8_isLetter 5 = .ok (.bipush 6, 2) := by decide +kernel
theorem dX8_isLetter_7 : decode cX8_isLetter 7 = .ok (.if_icmp .ge 7, 3) := by decide +kernel
theorem dX8_isLetter_10 : decode cX8_isLetter 10 = .ok (.iconst 1, 1) := by decide +kernel
theorem dX8_isLetter_11 : decode cX8_isLetter 11 = .ok (.goto 4, 3) := by decide +kernel
theorem dX8_isLetter_14 : decode cX8_isLetter 14 = .ok (.iconst 0, 1) := by decide +kernel
theorem dX8_isLetter_15 : decode cX8_isLetter 15 = .ok (.ireturn, 1) := by decide +kernel
theorem dX8_isQuill_0 : decode cX8_isQuill 0 = .ok (.iload_n 0, 1) := by decide +kernel
theorem dX8_isQuill_1 : decode cX8_isQuill 1 = .ok (.invokestatic 185, 3) := by decide +kernel
theorem dX8_isQuill_4 : decode cX8_isQuill 4 = .ok (.ifCond .eq 16, 3) := by decide +kernel
theorem dX8_isQuill_7 : decode cX8_isQuill 7 = .ok (.iload_n 1, 1) := by decide +kernel
theorem dX8_isQuill_8 : decode cX8_isQuill 8 = .ok (.ifCond .lt 12, 3) := by decide +kernel
theorem dX8_isQuill_11 : decode cX8_isQuill 11 = .ok (.iload_n 1, 1) := by decide +kernel
theorem dX8_isQuill_12 : decode cX8_isQuill 12 = .ok (.iconst 3, 1) := by decide +kernel
theorem dX8_isQuill_13 : decode cX8_isQuill 13 = .ok (.if_icmp .ge 7, 3) := by decide +kernel
theorem dX8_isQuill_16 : decode cX8_isQuill 16 = .ok (.iconst 1, 1) := by decide +kernel
theorem dX8_isQuill_17 : decode cX8_isQuill 17 = .ok (.goto 4, 3) := by decide +kernel
theorem dX8_isQuill_20 : decode cX8_isQuill 20 = .ok (.iconst 0, 1) := by decide +kernel
theorem dX8_isQuill_21 : decode cX8_isQuill 21 = .ok (.ireturn, 1) := by decide +kernel
theorem dX8_halvesOf_0 : decode cX8_halvesOf 0 = .ok (.iload_n 0, 1) := by decide +kernel
theorem dX8_halvesOf_1 : decode cX8_halvesOf 1 = .ok (.ifCond .ne 5, 3) := by decide +kernel
theorem dX8_halvesOf_4 : decode cX8_halvesOf 4 = .ok (.iconst 3, 1) := by decide +kernel
theorem dX8_halvesOf_5 : decode cX8_halvesOf 5 = .ok (.ireturn, 1) := by decide +kernel
theorem dX8_halvesOf_6 : decode cX8_halvesOf 6 = .ok (.iload_n 0, 1) := by decide +kernel
theorem dX8_halvesOf_7 : decode cX8_halvesOf 7 = .ok (.iconst 1, 1) := by decide +kernel
theorem dX8_halvesOf_8 : decode cX8_halvesOf 8 = .ok (.if_icmp .eq 8, 3) := by decide +kernel
theorem dX8_halvesOf_11 : decode cX8_halvesOf 11 = .ok (.iload_n 0, 1) := by decide +kernel
theorem dX8_halvesOf_12 : decode cX8_halvesOf 12 = .ok (.iconst 2, 1) := by decide +kernel
theorem dX8_halvesOf_13 : decode cX8_halvesOf 13 = .ok (.if_icmp .ne 7, 3) := by decide +kernel
theorem dX8_halvesOf_16 : decode cX8_halvesOf 16 = .ok (.iload_n 0, 1) := by decide +kernel
theorem dX8_halvesOf_17 : decode cX8_halvesOf 17 = .ok (.goto 4, 3) := by decide +kernel
theorem dX8_halvesOf_20 : decode cX8_halvesOf 20 = .ok (.iconst 0, 1) := by decide +kernel
theorem dX8_halvesOf_21 : decode cX8_halvesOf 21 = .ok (.ireturn, 1) := by decide +kernel
theorem dX8_commonDivisor_0 : decode cX8_commonDivisor 0 = .ok (.lload_n 0, 1) := by decide +kernel
theorem dX8_commonDivisor_1 : decode cX8_commonDivisor 1 = .ok (.lstore 4, 2) := by decide +kernel
theorem dX8_commonDivisor_3 : decode cX8_commonDivisor 3 = .ok (.lload_n 2, 1) := by decide +kernel
theorem dX8_commonDivisor_4 : decode cX8_commonDivisor 4 = .ok (.lstore 6, 2) := by decide +kernel
theorem dX8_commonDivisor_6 : decode cX8_commonDivisor 6 = .ok (.iconst 0, 1) := by decide +kernel
theorem dX8_commonDivisor_7 : decode cX8_commonDivisor 7 = .ok (.istore 8, 2) := by decide +kernel
theorem dX8_commonDivisor_9 : decode cX8_commonDivisor 9 = .ok (.iload 8, 2) := by decide +kernel
theorem dX8_commonDivisor_11 : decode cX8_commonDivisor 11 = .ok (.sipush 200, 3) := by decide +kernel
theorem dX8_commonDivisor_14 : decode cX8_commonDivisor 14 = .ok (.if_icmp .ge 31, 3) := by decide +kernel
theorem dX8_commonDivisor_17 : decode cX8_commonDivisor 17 = .ok (.lload 6, 2) := by decide +kernel
theorem dX8_commonDivisor_19 : decode cX8_commonDivisor 19 = .ok (.lconst 0, 1) := by decide +kernel
theorem dX8_commonDivisor_20 : decode cX8_commonDivisor 20 = .ok (.lcmp, 1) := by decide +kernel
theorem dX8_commonDivisor_21 : decode cX8_commonDivisor 21 = .ok (.ifCond .eq 24, 3) := by decide +kernel
theorem dX8_commonDivisor_24 : decode cX8_commonDivisor 24 = .ok (.lload 4, 2) := by decide +kernel
theorem dX8_commonDivisor_26 : decode cX8_commonDivisor 26 = .ok (.lload 6, 2) := by decide +kernel
theorem dX8_commonDivisor_28 : decode cX8_commonDivisor 28 = .ok (.lrem, 1) := by decide +kernel
theorem dX8_commonDivisor_29 : decode cX8_commonDivisor 29 = .ok (.lstore 9, 2) := by decide +kernel
theorem dX8_commonDivisor_31 : decode cX8_commonDivisor 31 = .ok (.lload 6, 2) := by decide +kernel
theorem dX8_commonDivisor_33 : decode cX8_commonDivisor 33 = .ok (.lstore 4, 2) := by decide +kernel
theorem dX8_commonDivisor_35 : decode cX8_commonDivisor 35 = .ok (.lload 9, 2) := by decide +kernel
theorem dX8_commonDivisor_37 : decode cX8_commonDivisor 37 = .ok (.lstore 6, 2) := by decide +kernel
theorem dX8_commonDivisor_39 : decode cX8_commonDivisor 39 = .ok (.iinc 8 1, 3) := by decide +kernel
theorem dX8_commonDivisor_42 : decode cX8_commonDivisor 42 = .ok (.goto (-33), 3) := by decide +kernel
theorem dX8_commonDivisor_45 : decode cX8_commonDivisor 45 = .ok (.lload 4, 2) := by decide +kernel
theorem dX8_commonDivisor_47 : decode cX8_commonDivisor 47 = .ok (.lconst 0, 1) := by decide +kernel
theorem dX8_commonDivisor_48 : decode cX8_commonDivisor 48 = .ok (.lcmp, 1) := by decide +kernel
theorem dX8_commonDivisor_49 : decode cX8_commonDivisor 49 = .ok (.ifCond .le 8, 3) := by decide +kernel
theorem dX8_commonDivisor_52 : decode cX8_commonDivisor 52 = .ok (.lload 4, 2) := by decide +kernel
theorem dX8_commonDivisor_54 : decode cX8_commonDivisor 54 = .ok (.goto 4, 3) := by decide +kernel
theorem dX8_commonDivisor_57 : decode cX8_commonDivisor 57 = .ok (.lconst 1, 1) := by decide +kernel
theorem dX8_commonDivisor_58 : decode cX8_commonDivisor 58 = .ok (.lreturn, 1) := by decide +kernel
theorem dX8_passOneDay_0 : decode cX8_passOneDay 0 = .ok (.aload_n 0, 1) := by decide +kernel
theorem dX8_passOneDay_1 : decode cX8_passOneDay 1 = .ok (.getfield 10, 3) := by decide +kernel
theorem dX8_passOneDay_4 : decode cX8_passOneDay 4 = .ok (.dup, 1) := by decide +kernel
theorem dX8_passOneDay_5 : decode cX8_passOneDay 5 = .ok (.getfield 110, 3) := by decide +kernel
theorem dX8_passOneDay_8 : decode cX8_passOneDay 8 = .ok (.iconst 1, 1) := by decide +kernel
theorem dX8_passOneDay_9 : decode cX8_passOneDay 9 = .ok (.iadd, 1) := by decide +kernel
theorem dX8_passOneDay_10 : decode cX8_passOneDay 10 = .ok (.putfield 110, 3) := by decide +kernel
theorem dX8_passOneDay_13 : decode cX8_passOneDay 13 = .ok (.iconst 0, 1) := by decide +kernel
theorem dX8_passOneDay_14 : decode cX8_passOneDay 14 = .ok (.istore_n 1, 1) := by decide +kernel
theorem dX8_passOneDay_15 : decode cX8_passOneDay 15 = .ok (.iload_n 1, 1) := by decide +kernel
theorem dX8_passOneDay_16 : decode cX8_passOneDay 16 = .ok (.aload_n 0, 1) := by decide +kernel
theorem dX8_passOneDay_17 : decode cX8_passOneDay 17 = .ok (.getfield 10, 3) := by decide +kernel
theorem dX8_passOneDay_20 : decode cX8_passOneDay 20 = .ok (.getfield 192, 3) := by decide +kernel
theorem dX8_passOneDay_23 : decode cX8_passOneDay 23 = .ok (.if_icmp .ge 55, 3) := by decide +kernel
theorem dX8_passOneDay_26 : decode cX8_passOneDay 26 = .ok (.aload_n 0, 1) := by decide +kernel
theorem dX8_passOneDay_27 : decode cX8_passOneDay 27 = .ok (.getfield 10, 3) := by decide +kernel
theorem dX8_passOneDay_30 : decode cX8_passOneDay 30 = .ok (.iload_n 1, 1) := by decide +kernel
theorem dX8_passOneDay_31 : decode cX8_passOneDay 31 = .ok (.iconst 4, 1) := by decide +kernel
theorem dX8_passOneDay_32 : decode cX8_passOneDay 32 = .ok (.invokevirtual 90, 3) := by decide +kernel
theorem dX8_passOneDay_35 : decode cX8_passOneDay 35 = .ok (.iconst 1, 1) := by decide +kernel
theorem dX8_passOneDay_36 : decode cX8_passOneDay 36 = .ok (.if_icmp .ne 36, 3) := by decide +kernel
theorem dX8_passOneDay_39 : decode cX8_passOneDay 39 = .ok (.aload_n 0, 1) := by decide +kernel
theorem dX8_passOneDay_40 : decode cX8_passOneDay 40 = .ok (.getfield 10, 3) := by decide +kernel
theorem dX8_passOneDay_43 : decode cX8_passOneDay 43 = .ok (.iload_n 1, 1) := by decide +kernel
theorem dX8_passOneDay_44 : decode cX8_passOneDay 44 = .ok (.bipush 6, 2) := by decide +kernel
theorem dX8_passOneDay_46 : decode cX8_passOneDay 46 = .ok (.invokevirtual 90, 3) := by decide +kernel
theorem dX8_passOneDay_49 : decode cX8_passOneDay 49 = .ok (.aload_n 0, 1) := by decide +kernel
theorem dX8_passOneDay_50 : decode cX8_passOneDay 50 = .ok (.getfield 10, 3) := by decide +kernel
theorem dX8_passOneDay_53 : decode cX8_passOneDay 53 = .ok (.getfield 110, 3) := by decide +kernel
theorem dX8_passOneDay_56 : decode cX8_passOneDay 56 = .ok (.if_icmp .ne 16, 3) := by decide +kernel
theorem dX8_passOneDay_59 : decode cX8_passOneDay 59 = .ok (.aload_n 0, 1) := by decide +kernel
theorem dX8_passOneDay_60 : decode cX8_passOneDay 60 = .ok (.getfield 10, 3) := by decide +kernel
theorem dX8_passOneDay_63 : decode cX8_passOneDay 63 = .ok (.iload_n 1, 1) := by decide +kernel
theorem dX8_passOneDay_64 : decode cX8_passOneDay 64 = .ok (.aload_n 0, 1) := by decide +kernel
theorem dX8_passOneDay_65 : decode cX8_passOneDay 65 = .ok (.iload_n 1, 1) := by decide +kernel
theorem dX8_passOneDay_66 : decode cX8_passOneDay 66 = .ok (.invokevirtual 261, 3) := by decide +kernel
theorem dX8_passOneDay_69 : decode cX8_passOneDay 69 = .ok (.invokevirtual 264, 3) := by decide +kernel
theorem dX8_passOneDay_72 : decode cX8_passOneDay 72 = .ok (.iinc 1 1, 3) := by decide +kernel
theorem dX8_passOneDay_75 : decode cX8_passOneDay 75 = .ok (.goto (-60), 3) := by decide +kernel
theorem dX8_passOneDay_78 : decode cX8_passOneDay 78 = .ok (.aload_n 0, 1) := by decide +kernel
theorem dX8_passOneDay_79 : decode cX8_passOneDay 79 = .ok (.getfield 10, 3) := by decide +kernel
theorem dX8_passOneDay_82 : decode cX8_passOneDay 82 = .ok (.invokevirtual 267, 3) := by decide +kernel
theorem dX8_passOneDay_85 : decode cX8_passOneDay 85 = .ok (.return_, 1) := by decide +kernel
theorem dX8_fateAtMarket_0 : decode cX8_fateAtMarket 0 = .ok (.aload_n 0, 1) := by decide +kernel
theorem dX8_fateAtMarket_1 : decode cX8_fateAtMarket 1 = .ok (.getfield 43, 3) := by decide +kernel
theorem dX8_fateAtMarket_4 : decode cX8_fateAtMarket 4 = .ok (.aload_n 0, 1) := by decide +kernel
theorem dX8_fateAtMarket_5 : decode cX8_fateAtMarket 5 = .ok (.getfield 10, 3) := by decide +kernel
theorem dX8_fateAtMarket_8 : decode cX8_fateAtMarket 8 = .ok (.iload_n 1, 1) := by decide +kernel
theorem dX8_fateAtMarket_9 : decode cX8_fateAtMarket 9 = .ok (.invokevirtual 270, 3) := by decide +kernel
theorem dX8_fateAtMarket_12 : decode cX8_fateAtMarket 12 = .ok (.aload_n 0, 1) := by decide +kernel
theorem dX8_fateAtMarket_13 : decode cX8_fateAtMarket 13 = .ok (.getfield 10, 3) := by decide +kernel
theorem dX8_fateAtMarket_16 : decode cX8_fateAtMarket 16 = .ok (.invokevirtual 274, 3) := by decide +kernel
theorem dX8_fateAtMarket_19 : decode cX8_fateAtMarket 19 = .ok (.aload_n 0, 1) := by decide +kernel
theorem dX8_fateAtMarket_20 : decode cX8_fateAtMarket 20 = .ok (.getfield 43, 3) := by decide +kernel
theorem dX8_fateAtMarket_23 : decode cX8_fateAtMarket 23 = .ok (.aload_n 0, 1) := by decide +kernel
theorem dX8_fateAtMarket_24 : decode cX8_fateAtMarket 24 = .ok (.getfield 10, 3) := by decide +kernel
theorem dX8_fateAtMarket_27 : decode cX8_fateAtMarket 27 = .ok (.iconst 0, 1) := by decide +kernel
theorem dX8_fateAtMarket_28 : decode cX8_fateAtMarket 28 = .ok (.invokevirtual 277, 3) := by decide +kernel
theorem dX8_fateAtMarket_31 : decode cX8_fateAtMarket 31 = .ok (.if_icmp .lt 5, 3) := by decide +kernel
theorem dX8_fateAtMarket_34 : decode cX8_fateAtMarket 34 = .ok (.iconst 2, 1) := by decide +kernel
theorem dX8_fateAtMarket_35 : decode cX8_fateAtMarket 35 = .ok (.ireturn, 1) := by decide +kernel
theorem dX8_fateAtMarket_36 : decode cX8_fateAtMarket 36 = .ok (.aload_n 0, 1) := by decide +kernel
theorem dX8_fateAtMarket_37 : decode cX8_fateAtMarket 37 = .ok (.getfield 10, 3) := by decide +kernel
theorem dX8_fateAtMarket_40 : decode cX8_fateAtMarket 40 = .ok (.iload_n 1, 1) := by decide +kernel
theorem dX8_fateAtMarket_41 : decode cX8_fateAtMarket 41 = .ok (.iconst 2, 1) := by decide +kernel
theorem dX8_fateAtMarket_42 : decode cX8_fateAtMarket 42 = .ok (.invokevirtual 90, 3) := by decide +kernel
theorem dX8_fateAtMarket_45 : decode cX8_fateAtMarket 45 = .ok (.iconst (-1), 1) := by decide +kernel
theorem dX8_fateAtMarket_46 : decode cX8_fateAtMarket 46 = .ok (.if_icmp .ne 5, 3) := by decide +kernel
theorem dX8_fateAtMarket_49 : decode cX8_fateAtMarket 49 = .ok (.iconst 3, 1) := by decide +kernel
theorem dX8_fateAtMarket_50 : decode cX8_fateAtMarket 50 = .ok (.ireturn, 1) := by decide +kernel
theorem dX8_fateAtMarket_51 : decode cX8_fateAtMarket 51 = .ok (.aload_n 0, 1) := by decide +kernel
theorem dX8_fateAtMarket_52 : decode cX8_fateAtMarket 52 = .ok (.getfield 10, 3) := by decide +kernel
theorem dX8_fateAtMarket_55 : decode cX8_fateAtMarket 55 = .ok (.invokevirtual 274, 3) := by decide +kernel
theorem dX8_fateAtMarket_58 : decode cX8_fateAtMarket 58 = .ok (.aload_n 0, 1) := by decide +kernel
theorem dX8_fateAtMarket_59 : decode cX8_fateAtMarket 59 = .ok (.getfield 43, 3) := by decide +kernel
theorem dX8_fateAtMarket_62 : decode cX8_fateAtMarket 62 = .ok (.aload_n 0, 1) := by decide +kernel
theorem dX8_fateAtMarket_63 : decode cX8_fateAtMarket 63 = .ok (.getfield 10, 3) := by decide +kernel
theorem dX8_fateAtMarket_66 : decode cX8_fateAtMarket 66 = .ok (.iconst 1, 1) := by decide +kernel
theorem dX8_fateAtMarket_67 : decode cX8_fateAtMarket 67 = .ok (.invokevirtual 277, 3) := by decide +kernel
theorem dX8_fateAtMarket_70 : decode cX8_fateAtMarket 70 = .ok (.if_icmp .ge 7, 3) := by decide +kernel
theorem dX8_fateAtMarket_73 : decode cX8_fateAtMarket 73 = .ok (.iconst 4, 1) := by decide +kernel
theorem dX8_fateAtMarket_74 : decode cX8_fateAtMarket 74 = .ok (.goto 4, 3) := by decide +kernel
theorem dX8_fateAtMarket_77 : decode cX8_fateAtMarket 77 = .ok (.iconst 3, 1) := by decide +kernel
theorem dX8_fateAtMarket_78 : decode cX8_fateAtMarket 78 = .ok (.ireturn, 1) := by decide +kernel
theorem dX8_tells_0 : decode cX8_tells 0 = .ok (.aload_n 0, 1) := by decide +kernel
theorem dX8_tells_1 : decode cX8_tells 1 = .ok (.getfield 10, 3) := by decide +kernel
theorem dX8_tells_4 : decode cX8_tells 4 = .ok (.iload_n 1, 1) := by decide +kernel
theorem dX8_tells_5 : decode cX8_tells 5 = .ok (.iconst 2, 1) := by decide +kernel
theorem dX8_tells_6 : decode cX8_tells 6 = .ok (.invokevirtual 90, 3) := by decide +kernel
theorem dX8_tells_9 : decode cX8_tells 9 = .ok (.iload_n 2, 1) := by decide +kernel
theorem dX8_tells_10 : decode cX8_tells 10 = .ok (.if_icmp .eq 5, 3) := by decide +kernel
theorem dX8_tells_13 : decode cX8_tells 13 = .ok (.iconst 0, 1) := by decide +kernel
theorem dX8_tells_14 : decode cX8_tells 14 = .ok (.ireturn, 1) := by decide +kernel
theorem dX8_tells_15 : decode cX8_tells 15 = .ok (.iload_n 3, 1) := by decide +kernel
theorem dX8_tells_16 : decode cX8_tells 16 = .ok (.ifCond .eq 22, 3) := by decide +kernel
theorem dX8_tells_19 : decode cX8_tells 19 = .ok (.aload_n 0, 1) := by decide +kernel
theorem dX8_tells_20 : decode cX8_tells 20 = .ok (.getfield 10, 3) := by decide +kernel
theorem dX8_tells_23 : decode cX8_tells 23 = .ok (.iload_n 1, 1) := by decide +kernel
theorem dX8_tells_24 : decode cX8_tells 24 = .ok (.iconst 4, 1) := by decide +kernel
theorem dX8_tells_25 : decode cX8_tells 25 = .ok (.invokevirtual 90, 3) := by decide +kernel
theorem dX8_tells_28 : decode cX8_tells 28 = .ok (.iconst 4, 1) := by decide +kernel
theorem dX8_tells_29 : decode cX8_tells 29 = .ok (.if_icmp .ne 7, 3) := by decide +kernel
theorem dX8_tells_32 : decode cX8_tells 32 = .ok (.iconst 1, 1) := by decide +kernel
theorem dX8_tells_33 : decode cX8_tells 33 = .ok (.goto 4, 3) := by decide +kernel
theorem dX8_tells_36 : decode cX8_tells 36 = .ok (.iconst 0, 1) := by decide +kernel
theorem dX8_tells_37 : decode cX8_tells 37 = .ok (.ireturn, 1) := by decide +kernel
theorem dX8_tells_38 : decode cX8_tells 38 = .ok (.aload_n 0, 1) := by decide +kernel
theorem dX8_tells_39 : decode cX8_tells 39 = .ok (.getfield 10, 3) := by decide +kernel
theorem dX8_tells_42 : decode cX8_tells 42 = .ok (.iload_n 1, 1) := by decide +kernel
theorem dX8_tells_43 : decode cX8_tells 43 = .ok (.iconst 4, 1) := by decide +kernel
theorem dX8_tells_44 : decode cX8_tells 44 = .ok (.invokevirtual 90, 3) := by decide +kernel
theorem dX8_tells_47 : decode cX8_tells 47 = .ok (.iconst 2, 1) := by decide +kernel
theorem dX8_tells_48 : decode cX8_tells 48 = .ok (.if_icmp .ne 22, 3) := by decide +kernel
theorem dX8_tells_51 : decode cX8_tells 51 = .ok (.aload_n 0, 1) := by decide +kernel
theorem dX8_tells_52 : decode cX8_tells 52 = .ok (.getfield 43, 3) := by decide +kernel
theorem dX8_tells_55 : decode cX8_tells 55 = .ok (.aload_n 0, 1) := by decide +kernel
theorem dX8_tells_56 : decode cX8_tells 56 = .ok (.getfield 10, 3) := by decide +kernel
theorem dX8_tells_59 : decode cX8_tells 59 = .ok (.iload_n 1, 1) := by decide +kernel
theorem dX8_tells_60 : decode cX8_tells 60 = .ok (.invokevirtual 181, 3) := by decide +kernel
theorem dX8_tells_63 : decode cX8_tells 63 = .ok (.ifCond .eq 7, 3) := by decide +kernel
theorem dX8_tells_66 : decode cX8_tells 66 = .ok (.iconst 1, 1) := by decide +kernel
theorem dX8_tells_67 : decode cX8_tells 67 = .ok (.goto 4, 3) := by decide +kernel
theorem dX8_tells_70 : decode cX8_tells 70 = .ok (.iconst 0, 1) := by decide +kernel
theorem dX8_tells_71 : decode cX8_tells 71 = .ok (.ireturn, 1) := by decide +kernel
theorem dX8_halvesHad_0 : decode cX8_halvesHad 0 = .ok (.iconst 0, 1) := by decide +kernel
theorem dX8_halvesHad_1 : decode cX8_halvesHad 1 = .ok (.istore 5, 2) := by decide +kernel
theorem dX8_halvesHad_3 : decode cX8_halvesHad 3 = .ok (.iconst 0, 1) := by decide +kernel
theorem dX8_halvesHad_4 : decode cX8_halvesHad 4 = .ok (.istore 6, 2) := by decide +kernel
theorem dX8_halvesHad_6 : decode cX8_halvesHad 6 = .ok (.iload 6, 2) := by decide +kernel
theorem dX8_halvesHad_8 : decode cX8_halvesHad 8 = .ok (.aload_n 0, 1) := by decide +kernel
theorem dX8_halvesHad_9 : decode cX8_halvesHad 9 = .ok (.getfield 10, 3) := by decide +kernel
theorem dX8_halvesHad_12 : decode cX8_halvesHad 12 = .ok (.getfield 192, 3) := by decide +kernel
theorem dX8_halvesHad_15 : decode cX8_halvesHad 15 = .ok (.if_icmp .ge 70, 3) := by decide +kernel
theorem dX8_halvesHad_18 : decode cX8_halvesHad 18 = .ok (.aload_n 0, 1) := by decide +kernel
theorem dX8_halvesHad_19 : decode cX8_halvesHad 19 = .ok (.getfield 10, 3) := by decide +kernel
theorem dX8_halvesHad_22 : decode cX8_halvesHad 22 = .ok (.iload 6, 2) := by decide +kernel
theorem dX8_halvesHad_24 : decode cX8_halvesHad 24 = .ok (.bipush 7, 2) := by decide +kernel
theorem dX8_halvesHad_26 : decode cX8_halvesHad 26 = .ok (.invokevirtual 90, 3) := by decide +kernel
theorem dX8_halvesHad_29 : decode cX8_halvesHad 29 = .ok (.istore 7, 2) := by decide +kernel
theorem dX8_halvesHad_31 : decode cX8_halvesHad 31 = .ok (.iload 7, 2) := by decide +kernel
theorem dX8_halvesHad_33 : decode cX8_halvesHad 33 = .ok (.iload_n 3, 1) := by decide +kernel
theorem dX8_halvesHad_34 : decode cX8_halvesHad 34 = .ok (.if_icmp .lt 16, 3) := by decide +kernel
theorem dX8_halvesHad_37 : decode cX8_halvesHad 37 = .ok (.iload 7, 2) := by decide +kernel
theorem dX8_halvesHad_39 : decode cX8_halvesHad 39 = .ok (.iload_n 3, 1) := by decide +kernel
theorem dX8_halvesHad_40 : decode cX8_halvesHad 40 = .ok (.if_icmp .ne 39, 3) := by decide +kernel
theorem dX8_halvesHad_43 : decode cX8_halvesHad 43 = .ok (.iload 6, 2) := by decide +kernel
theorem dX8_halvesHad_45 : decode cX8_halvesHad 45 = .ok (.iload 4, 2) := by decide +kernel
theorem dX8_halvesHad_47 : decode cX8_halvesHad 47 = .ok (.if_icmp .ge 32, 3) := by decide +kernel
theorem dX8_halvesHad_50 : decode cX8_halvesHad 50 = .ok (.aload_n 0, 1) := by decide +kernel
theorem dX8_halvesHad_51 : decode cX8_halvesHad 51 = .ok (.iload 6, 2) := by decide +kernel
theorem dX8_halvesHad_53 : decode cX8_halvesHad 53 = .ok (.iload_n 1, 1) := by decide +kernel
theorem dX8_halvesHad_54 : decode cX8_halvesHad 54 = .ok (.iload_n 2, 1) := by decide +kernel
theorem dX8_halvesHad_55 : decode cX8_halvesHad 55 = .ok (.invokevirtual 195, 3) := by decide +kernel
theorem dX8_halvesHad_58 : decode cX8_halvesHad 58 = .ok (.ifCond .eq 21, 3) := by decide +kernel
theorem dX8_halvesHad_61 : decode cX8_halvesHad 61 = .ok (.iload 5, 2) := by decide +kernel
theorem dX8_halvesHad_63 : decode cX8_halvesHad 63 = .ok (.aload_n 0, 1) := by decide +kernel
theorem dX8_halvesHad_64 : decode cX8_halvesHad 64 = .ok (.getfield 10, 3) := by decide +kernel
theorem dX8_halvesHad_67 : decode cX8_halvesHad 67 = .ok (.iload 6, 2) := by decide +kernel
theorem dX8_halvesHad_69 : decode cX8_halvesHad 69 = .ok (.iconst 3, 1) := by decide +kernel
theorem dX8_halvesHad_70 : decode cX8_halvesHad 70 = .ok (.invokevirtual 90, 3) := by decide +kernel
theorem dX8_halvesHad_73 : decode cX8_halvesHad 73 = .ok (.invokestatic 281, 3) := by decide +kernel
theorem dX8_halvesHad_76 : decode cX8_halvesHad 76 = .ok (.ior, 1) := by decide +kernel
theorem dX8_halvesHad_77 : decode cX8_halvesHad 77 = .ok (.istore 5, 2) := by decide +kernel
theorem dX8_halvesHad_79 : decode cX8_halvesHad 79 = .ok (.iinc 6 1, 3) := by decide +kernel
theorem dX8_halvesHad_82 : decode cX8_halvesHad 82 = .ok (.goto (-76), 3) := by decide +kernel
theorem dX8_halvesHad_85 : decode cX8_halvesHad 85 = .ok (.iload 5, 2) := by decide +kernel
theorem dX8_halvesHad_87 : decode cX8_halvesHad 87 = .ok (.ireturn, 1) := by decide +kernel
