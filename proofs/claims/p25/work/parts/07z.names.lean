theorem dX0_init_0 : decode cX0_init 0 = .ok (.aload_n 0, 1) := dk_42 (by decide +kernel)
theorem dX0_init_1 : decode cX0_init 1 = .ok (.invokespecial 3, 3) := dk_183 (by decide +kernel)
theorem dX0_init_4 : decode cX0_init 4 = .ok (.aload_n 0, 1) := dk_42 (by decide +kernel)
theorem dX0_init_5 : decode cX0_init 5 = .ok (.iconst 0, 1) := dk_3 (by decide +kernel)
theorem dX0_init_6 : decode cX0_init 6 = .ok (.putfield 9, 3) := dk_181 (by decide +kernel)
theorem dX0_init_9 : decode cX0_init 9 = .ok (.aload_n 0, 1) := dk_42 (by decide +kernel)
theorem dX0_init_10 : decode cX0_init 10 = .ok (.lconst 1, 1) := dk_10 (by decide +kernel)
theorem dX0_init_11 : decode cX0_init 11 = .ok (.putfield 15, 3) := dk_181 (by decide +kernel)
theorem dX0_init_14 : decode cX0_init 14 = .ok (.aload_n 0, 1) := dk_42 (by decide +kernel)
theorem dX0_init_15 : decode cX0_init 15 = .ok (.bipush 16, 2) := dk_16 (by decide +kernel)
theorem dX0_init_17 : decode cX0_init 17 = .ok (.newarray .long, 2) := dk_188_11 (by decide +kernel)
theorem dX0_init_19 : decode cX0_init 19 = .ok (.putfield 19, 3) := dk_181 (by decide +kernel)
theorem dX0_init_22 : decode cX0_init 22 = .ok (.aload_n 0, 1) := dk_42 (by decide +kernel)
theorem dX0_init_23 : decode cX0_init 23 = .ok (.bipush 16, 2) := dk_16 (by decide +kernel)
theorem dX0_init_25 : decode cX0_init 25 = .ok (.newarray .long, 2) := dk_188_11 (by decide +kernel)
theorem dX0_init_27 : decode cX0_init 27 = .ok (.putfield 23, 3) := dk_181 (by decide +kernel)
theorem dX0_init_30 : decode cX0_init 30 = .ok (.return_, 1) := dk_177 (by decide +kernel)
theorem dX1_init_0 : decode cX1_init 0 = .ok (.aload_n 0, 1) := dk_42 (by decide +kernel)
theorem dX1_init_1 : decode cX1_init 1 = .ok (.invokespecial 3, 3) := dk_183 (by decide +kernel)
theorem dX1_init_4 : decode cX1_init 4 = .ok (.aload_n 0, 1) := dk_42 (by decide +kernel)
theorem dX1_init_5 : decode cX1_init 5 = .ok (.iconst 4, 1) := dk_7 (by decide +kernel)
theorem dX1_init_6 : decode cX1_init 6 = .ok (.anewarray 9, 3) := dk_189 (by decide +kernel)
theorem dX1_init_9 : decode cX1_init 9 = .ok (.putfield 11, 3) := dk_181 (by decide +kernel)
theorem dX1_init_12 : decode cX1_init 12 = .ok (.aload_n 0, 1) := dk_42 (by decide +kernel)
theorem dX1_init_13 : decode cX1_init 13 = .ok (.bipush 9, 2) := dk_16 (by decide +kernel)
theorem dX1_init_15 : decode cX1_init 15 = .ok (.newarray .int, 2) := dk_188_10 (by decide +kernel)
theorem dX1_init_17 : decode cX1_init 17 = .ok (.putfield 17, 3) := dk_181 (by decide +kernel)
theorem dX1_init_20 : decode cX1_init 20 = .ok (.aload_n 0, 1) := dk_42 (by decide +kernel)
theorem dX1_init_21 : decode cX1_init 21 = .ok (.bipush 40, 2) := dk_16 (by decide +kernel)
theorem dX1_init_23 : decode cX1_init 23 = .ok (.newarray .int, 2) := dk_188_10 (by decide +kernel)
theorem dX1_init_25 : decode cX1_init 25 = .ok (.putfield 21, 3) := dk_181 (by decide +kernel)
theorem dX1_init_28 : decode cX1_init 28 = .ok (.aload_n 0, 1) := dk_42 (by decide +kernel)
theorem dX1_init_29 : decode cX1_init 29 = .ok (.iconst 0, 1) := dk_3 (by decide +kernel)
theorem dX1_init_30 : decode cX1_init 30 = .ok (.putfield 24, 3) := dk_181 (by decide +kernel)
theorem dX1_init_33 : decode cX1_init 33 = .ok (.iconst 0, 1) := dk_3 (by decide +kernel)
theorem dX1_init_34 : decode cX1_init 34 = .ok (.istore_n 1, 1) := dk_60 (by decide +kernel)
theorem dX1_init_35 : decode cX1_init 35 = .ok (.iload_n 1, 1) := dk_27 (by decide +kernel)
theorem dX1_init_36 : decode cX1_init 36 = .ok (.iconst 4, 1) := dk_7 (by decide +kernel)
theorem dX1_init_37 : decode cX1_init 37 = .ok (.if_icmp .ge 22, 3) := dk_162 (by decide +kernel)
theorem dX1_init_40 : decode cX1_init 40 = .ok (.aload_n 0, 1) := dk_42 (by decide +kernel)
theorem dX1_init_41 : decode cX1_init 41 = .ok (.getfield 11, 3) := dk_180 (by decide +kernel)
theorem dX1_init_44 : decode cX1_init 44 = .ok (.iload_n 1, 1) := dk_27 (by decide +kernel)
theorem dX1_init_45 : decode cX1_init 45 = .ok (.new 9, 3) := dk_187 (by decide +kernel)
theorem dX1_init_48 : decode cX1_init 48 = .ok (.dup, 1) := dk_89 (by decide +kernel)
theorem dX1_init_49 : decode cX1_init 49 = .ok (.invokespecial 28, 3) := dk_183 (by decide +kernel)
theorem dX1_init_52 : decode cX1_init 52 = .ok (.aastore, 1) := dk_83 (by decide +kernel)
theorem dX1_init_53 : decode cX1_init 53 = .ok (.iinc 1 1, 3) := dk_132 (by decide +kernel)
theorem dX1_init_56 : decode cX1_init 56 = .ok (.goto (-21), 3) := dk_167 (by decide +kernel)
theorem dX1_init_59 : decode cX1_init 59 = .ok (.return_, 1) := dk_177 (by decide +kernel)
theorem dX2_init_0 : decode cX2_init 0 = .ok (.aload_n 0, 1) := dk_42 (by decide +kernel)
theorem dX2_init_1 : decode cX2_init 1 = .ok (.invokespecial 3, 3) := dk_183 (by decide +kernel)
theorem dX2_init_4 : decode cX2_init 4 = .ok (.aload_n 0, 1) := dk_42 (by decide +kernel)
theorem dX2_init_5 : decode cX2_init 5 = .ok (.iconst (-1), 1) := dk_2 (by decide +kernel)
theorem dX2_init_6 : decode cX2_init 6 = .ok (.putfield 9, 3) := dk_181 (by decide +kernel)
theorem dX2_init_9 : decode cX2_init 9 = .ok (.aload_n 0, 1) := dk_42 (by decide +kernel)
theorem dX2_init_10 : decode cX2_init 10 = .ok (.iconst (-1), 1) := dk_2 (by decide +kernel)
theorem dX2_init_11 : decode cX2_init 11 = .ok (.putfield 15, 3) := dk_181 (by decide +kernel)
theorem dX2_init_14 : decode cX2_init 14 = .ok (.aload_n 0, 1) := dk_42 (by decide +kernel)
theorem dX2_init_15 : decode cX2_init 15 = .ok (.iconst (-1), 1) := dk_2 (by decide +kernel)
theorem dX2_init_16 : decode cX2_init 16 = .ok (.putfield 18, 3) := dk_181 (by decide +kernel)
theorem dX2_init_19 : decode cX2_init 19 = .ok (.return_, 1) := dk_177 (by decide +kernel)
theorem dX3_init_0 : decode cX3_init 0 = .ok (.aload_n 0, 1) := dk_42 (by decide +kernel)
theorem dX3_init_1 : decode cX3_init 1 = .ok (.invokespecial 3, 3) := dk_183 (by decide +kernel)
theorem dX3_init_4 : decode cX3_init 4 = .ok (.aload_n 0, 1) := dk_42 (by decide +kernel)
theorem dX3_init_5 : decode cX3_init 5 = .ok (.sipush 150, 3) := dk_17 (by decide +kernel)
theorem dX3_init_8 : decode cX3_init 8 = .ok (.newarray .int, 2) := dk_188_10 (by decide +kernel)
theorem dX3_init_10 : decode cX3_init 10 = .ok (.putfield 11, 3) := dk_181 (by decide +kernel)
theorem dX3_init_13 : decode cX3_init 13 = .ok (.aload_n 0, 1) := dk_42 (by decide +kernel)
theorem dX3_init_14 : decode cX3_init 14 = .ok (.sipush 150, 3) := dk_17 (by decide +kernel)
theorem dX3_init_17 : decode cX3_init 17 = .ok (.newarray .int, 2) := dk_188_10 (by decide +kernel)
theorem dX3_init_19 : decode cX3_init 19 = .ok (.putfield 15, 3) := dk_181 (by decide +kernel)
theorem dX3_init_22 : decode cX3_init 22 = .ok (.aload_n 0, 1) := dk_42 (by decide +kernel)
theorem dX3_init_23 : decode cX3_init 23 = .ok (.bipush 10, 2) := dk_16 (by decide +kernel)
theorem dX3_init_25 : decode cX3_init 25 = .ok (.newarray .boolean, 2) := dk_188_4 (by decide +kernel)
theorem dX3_init_27 : decode cX3_init 27 = .ok (.putfield 18, 3) := dk_181 (by decide +kernel)
theorem dX3_init_30 : decode cX3_init 30 = .ok (.aload_n 0, 1) := dk_42 (by decide +kernel)
theorem dX3_init_31 : decode cX3_init 31 = .ok (.iconst 3, 1) := dk_6 (by decide +kernel)
theorem dX3_init_32 : decode cX3_init 32 = .ok (.newarray .int, 2) := dk_188_10 (by decide +kernel)
theorem dX3_init_34 : decode cX3_init 34 = .ok (.putfield 22, 3) := dk_181 (by decide +kernel)
theorem dX3_init_37 : decode cX3_init 37 = .ok (.aload_n 0, 1) := dk_42 (by decide +kernel)
theorem dX3_init_38 : decode cX3_init 38 = .ok (.iconst 3, 1) := dk_6 (by decide +kernel)
theorem dX3_init_39 : decode cX3_init 39 = .ok (.newarray .int, 2) := dk_188_10 (by decide +kernel)
theorem dX3_init_41 : decode cX3_init 41 = .ok (.putfield 25, 3) := dk_181 (by decide +kernel)
theorem dX3_init_44 : decode cX3_init 44 = .ok (.aload_n 0, 1) := dk_42 (by decide +kernel)
theorem dX3_init_45 : decode cX3_init 45 = .ok (.iconst 3, 1) := dk_6 (by decide +kernel)
theorem dX3_init_46 : decode cX3_init 46 = .ok (.newarray .int, 2) := dk_188_10 (by decide +kernel)
theorem dX3_init_48 : decode cX3_init 48 = .ok (.putfield 28, 3) := dk_181 (by decide +kernel)
theorem dX3_init_51 : decode cX3_init 51 = .ok (.aload_n 0, 1) := dk_42 (by decide +kernel)
theorem dX3_init_52 : decode cX3_init 52 = .ok (.iconst 3, 1) := dk_6 (by decide +kernel)
theorem dX3_init_53 : decode cX3_init 53 = .ok (.newarray .int, 2) := dk_188_10 (by decide +kernel)
theorem dX3_init_55 : decode cX3_init 55 = .ok (.putfield 31, 3) := dk_181 (by decide +kernel)
theorem dX3_init_58 : decode cX3_init 58 = .ok (.aload_n 0, 1) := dk_42 (by decide +kernel)
theorem dX3_init_59 : decode cX3_init 59 = .ok (.iconst 3, 1) := dk_6 (by decide +kernel)
theorem dX3_init_60 : decode cX3_init 60 = .ok (.newarray .int, 2) := dk_188_10 (by decide +kernel)
theorem dX3_init_62 : decode cX3_init 62 = .ok (.putfield 34, 3) := dk_181 (by decide +kernel)
theorem dX3_init_65 : decode cX3_init 65 = .ok (.aload_n 0, 1) := dk_42 (by decide +kernel)
theorem dX3_init_66 : decode cX3_init 66 = .ok (.iconst 0, 1) := dk_3 (by decide +kernel)
theorem dX3_init_67 : decode cX3_init 67 = .ok (.putfield 37, 3) := dk_181 (by decide +kernel)
theorem dX3_init_70 : decode cX3_init 70 = .ok (.aload_n 0, 1) := dk_42 (by decide +kernel)
theorem dX3_init_71 : decode cX3_init 71 = .ok (.lconst 1, 1) := dk_10 (by decide +kernel)
theorem dX3_init_72 : decode cX3_init 72 = .ok (.putfield 41, 3) := dk_181 (by decide +kernel)
theorem dX3_init_75 : decode cX3_init 75 = .ok (.aload_n 0, 1) := dk_42 (by decide +kernel)
theorem dX3_init_76 : decode cX3_init 76 = .ok (.iconst 0, 1) := dk_3 (by decide +kernel)
theorem dX3_init_77 : decode cX3_init 77 = .ok (.putfield 45, 3) := dk_181 (by decide +kernel)
theorem dX3_init_80 : decode cX3_init 80 = .ok (.aload_n 0, 1) := dk_42 (by decide +kernel)
theorem dX3_init_81 : decode cX3_init 81 = .ok (.iconst 0, 1) := dk_3 (by decide +kernel)
theorem dX3_init_82 : decode cX3_init 82 = .ok (.putfield 48, 3) := dk_181 (by decide +kernel)
theorem dX3_init_85 : decode cX3_init 85 = .ok (.aload_n 0, 1) := dk_42 (by decide +kernel)
theorem dX3_init_86 : decode cX3_init 86 = .ok (.iconst 0, 1) := dk_3 (by decide +kernel)
theorem dX3_init_87 : decode cX3_init 87 = .ok (.putfield 51, 3) := dk_181 (by decide +kernel)
theorem dX3_init_90 : decode cX3_init 90 = .ok (.aload_n 0, 1) := dk_42 (by decide +kernel)
theorem dX3_init_91 : decode cX3_init 91 = .ok (.iconst 0, 1) := dk_3 (by decide +kernel)
theorem dX3_init_92 : decode cX3_init 92 = .ok (.putfield 55, 3) := dk_181 (by decide +kernel)
theorem dX3_init_95 : decode cX3_init 95 = .ok (.aload_n 0, 1) := dk_42 (by decide +kernel)
theorem dX3_init_96 : decode cX3_init 96 = .ok (.lconst 0, 1) := dk_9 (by decide +kernel)
theorem dX3_init_97 : decode cX3_init 97 = .ok (.putfield 58, 3) := dk_181 (by decide +kernel)
theorem dX3_init_100 : decode cX3_init 100 = .ok (.aload_n 0, 1) := dk_42 (by decide +kernel)
theorem dX3_init_101 : decode cX3_init 101 = .ok (.iconst 0, 1) := dk_3 (by decide +kernel)
theorem dX3_init_102 : decode cX3_init 102 = .ok (.putfield 61, 3) := dk_181 (by decide +kernel)
theorem dX3_init_105 : decode cX3_init 105 = .ok (.return_, 1) := dk_177 (by decide +kernel)
theorem dX4_init_0 : decode cX4_init 0 = .ok (.aload_n 0, 1) := dk_42 (by decide +kernel)
theorem dX4_init_1 : decode cX4_init 1 = .ok (.invokespecial 5, 3) := dk_183 (by decide +kernel)
theorem dX4_init_4 : decode cX4_init 4 = .ok (.aload_n 0, 1) := dk_42 (by decide +kernel)
theorem dX4_init_5 : decode cX4_init 5 = .ok (.bipush 90, 2) := dk_16 (by decide +kernel)
theorem dX4_init_7 : decode cX4_init 7 = .ok (.newarray .int, 2) := dk_188_10 (by decide +kernel)
theorem dX4_init_9 : decode cX4_init 9 = .ok (.putfield 11, 3) := dk_181 (by decide +kernel)
theorem dX4_init_12 : decode cX4_init 12 = .ok (.aload_n 0, 1) := dk_42 (by decide +kernel)
theorem dX4_init_13 : decode cX4_init 13 = .ok (.bipush 12, 2) := dk_16 (by decide +kernel)
theorem dX4_init_15 : decode cX4_init 15 = .ok (.newarray .int, 2) := dk_188_10 (by decide +kernel)
theorem dX4_init_17 : decode cX4_init 17 = .ok (.putfield 15, 3) := dk_181 (by decide +kernel)
theorem dX4_init_20 : decode cX4_init 20 = .ok (.aload_n 0, 1) := dk_42 (by decide +kernel)
theorem dX4_init_21 : decode cX4_init 21 = .ok (.sipush 1880, 3) := dk_17 (by decide +kernel)
theorem dX4_init_24 : decode cX4_init 24 = .ok (.newarray .int, 2) := dk_188_10 (by decide +kernel)
theorem dX4_init_26 : decode cX4_init 26 = .ok (.putfield 18, 3) := dk_181 (by decide +kernel)
theorem dX4_init_29 : decode cX4_init 29 = .ok (.aload_n 0, 1) := dk_42 (by decide +kernel)
theorem dX4_init_30 : decode cX4_init 30 = .ok (.iconst 0, 1) := dk_3 (by decide +kernel)
theorem dX4_init_31 : decode cX4_init 31 = .ok (.putfield 21, 3) := dk_181 (by decide +kernel)
theorem dX4_init_34 : decode cX4_init 34 = .ok (.aload_n 0, 1) := dk_42 (by decide +kernel)
theorem dX4_init_35 : decode cX4_init 35 = .ok (.iconst 0, 1) := dk_3 (by decide +kernel)
theorem dX4_init_36 : decode cX4_init 36 = .ok (.putfield 25, 3) := dk_181 (by decide +kernel)
theorem dX4_init_39 : decode cX4_init 39 = .ok (.aload_n 0, 1) := dk_42 (by decide +kernel)
theorem dX4_init_40 : decode cX4_init 40 = .ok (.iconst 0, 1) := dk_3 (by decide +kernel)
theorem dX4_init_41 : decode cX4_init 41 = .ok (.putfield 28, 3) := dk_181 (by decide +kernel)
theorem dX4_init_44 : decode cX4_init 44 = .ok (.aload_n 0, 1) := dk_42 (by decide +kernel)
theorem dX4_init_45 : decode cX4_init 45 = .ok (.iconst 0, 1) := dk_3 (by decide +kernel)
theorem dX4_init_46 : decode cX4_init 46 = .ok (.putfield 31, 3) := dk_181 (by decide +kernel)
theorem dX4_init_49 : decode cX4_init 49 = .ok (.aload_n 0, 1) := dk_42 (by decide +kernel)
theorem dX4_init_50 : decode cX4_init 50 = .ok (.iconst 0, 1) := dk_3 (by decide +kernel)
theorem dX4_init_51 : decode cX4_init 51 = .ok (.putfield 34, 3) := dk_181 (by decide +kernel)
theorem dX4_init_54 : decode cX4_init 54 = .ok (.aload_n 0, 1) := dk_42 (by decide +kernel)
theorem dX4_init_55 : decode cX4_init 55 = .ok (.bipush 9, 2) := dk_16 (by decide +kernel)
theorem dX4_init_57 : decode cX4_init 57 = .ok (.putfield 37, 3) := dk_181 (by decide +kernel)
theorem dX4_init_60 : decode cX4_init 60 = .ok (.aload_n 0, 1) := dk_42 (by decide +kernel)
theorem dX4_init_61 : decode cX4_init 61 = .ok (.iconst 0, 1) := dk_3 (by decide +kernel)
theorem dX4_init_62 : decode cX4_init 62 = .ok (.putfield 40, 3) := dk_181 (by decide +kernel)
theorem dX4_init_65 : decode cX4_init 65 = .ok (.aload_n 0, 1) := dk_42 (by decide +kernel)
theorem dX4_init_66 : decode cX4_init 66 = .ok (.iconst (-1), 1) := dk_2 (by decide +kernel)
theorem dX4_init_67 : decode cX4_init 67 = .ok (.putfield 43, 3) := dk_181 (by decide +kernel)
theorem dX4_init_70 : decode cX4_init 70 = .ok (.aload_n 0, 1) := dk_42 (by decide +kernel)
theorem dX4_init_71 : decode cX4_init 71 = .ok (.iconst 0, 1) := dk_3 (by decide +kernel)
theorem dX4_init_72 : decode cX4_init 72 = .ok (.putfield 46, 3) := dk_181 (by decide +kernel)
theorem dX4_init_75 : decode cX4_init 75 = .ok (.aload_n 0, 1) := dk_42 (by decide +kernel)
theorem dX4_init_76 : decode cX4_init 76 = .ok (.iconst 0, 1) := dk_3 (by decide +kernel)
theorem dX4_init_77 : decode cX4_init 77 = .ok (.putfield 49, 3) := dk_181 (by decide +kernel)
theorem dX4_init_80 : decode cX4_init 80 = .ok (.return_, 1) := dk_177 (by decide +kernel)
theorem dX5_init_0 : decode cX5_init 0 = .ok (.aload_n 0, 1) := dk_42 (by decide +kernel)
theorem dX5_init_1 : decode cX5_init 1 = .ok (.invokespecial 3, 3) := dk_183 (by decide +kernel)
theorem dX5_init_4 : decode cX5_init 4 = .ok (.aload_n 0, 1) := dk_42 (by decide +kernel)
theorem dX5_init_5 : decode cX5_init 5 = .ok (.sipush 300, 3) := dk_17 (by decide +kernel)
theorem dX5_init_8 : decode cX5_init 8 = .ok (.newarray .int, 2) := dk_188_10 (by decide +kernel)
theorem dX5_init_10 : decode cX5_init 10 = .ok (.putfield 9, 3) := dk_181 (by decide +kernel)
theorem dX5_init_13 : decode cX5_init 13 = .ok (.aload_n 0, 1) := dk_42 (by decide +kernel)
theorem dX5_init_14 : decode cX5_init 14 = .ok (.iconst 0, 1) := dk_3 (by decide +kernel)
theorem dX5_init_15 : decode cX5_init 15 = .ok (.putfield 15, 3) := dk_181 (by decide +kernel)
theorem dX5_init_18 : decode cX5_init 18 = .ok (.return_, 1) := dk_177 (by decide +kernel)
theorem dX6_init_0 : decode cX6_init 0 = .ok (.aload_n 0, 1) := dk_42 (by decide +kernel)
theorem dX6_init_1 : decode cX6_init 1 = .ok (.invokespecial 3, 3) := dk_183 (by decide +kernel)
theorem dX6_init_4 : decode cX6_init 4 = .ok (.aload_n 0, 1) := dk_42 (by decide +kernel)
theorem dX6_init_5 : decode cX6_init 5 = .ok (.bipush 96, 2) := dk_16 (by decide +kernel)
theorem dX6_init_7 : decode cX6_init 7 = .ok (.newarray .int, 2) := dk_188_10 (by decide +kernel)
theorem dX6_init_9 : decode cX6_init 9 = .ok (.putfield 9, 3) := dk_181 (by decide +kernel)
theorem dX6_init_12 : decode cX6_init 12 = .ok (.aload_n 0, 1) := dk_42 (by decide +kernel)
theorem dX6_init_13 : decode cX6_init 13 = .ok (.iconst 0, 1) := dk_3 (by decide +kernel)
theorem dX6_init_14 : decode cX6_init 14 = .ok (.putfield 15, 3) := dk_181 (by decide +kernel)
theorem dX6_init_17 : decode cX6_init 17 = .ok (.aload_n 0, 1) := dk_42 (by decide +kernel)
theorem dX6_init_18 : decode cX6_init 18 = .ok (.sipush 300, 3) := dk_17 (by decide +kernel)
theorem dX6_init_21 : decode cX6_init 21 = .ok (.newarray .int, 2) := dk_188_10 (by decide +kernel)
theorem dX6_init_23 : decode cX6_init 23 = .ok (.putfield 19, 3) := dk_181 (by decide +kernel)
theorem dX6_init_26 : decode cX6_init 26 = .ok (.aload_n 0, 1) := dk_42 (by decide +kernel)
theorem dX6_init_27 : decode cX6_init 27 = .ok (.iconst 4, 1) := dk_7 (by decide +kernel)
theorem dX6_init_28 : decode cX6_init 28 = .ok (.newarray .int, 2) := dk_188_10 (by decide +kernel)
theorem dX6_init_30 : decode cX6_init 30 = .ok (.putfield 22, 3) := dk_181 (by decide +kernel)
theorem dX6_init_33 : decode cX6_init 33 = .ok (.aload_n 0, 1) := dk_42 (by decide +kernel)
theorem dX6_init_34 : decode cX6_init 34 = .ok (.iconst 4, 1) := dk_7 (by decide +kernel)
theorem dX6_init_35 : decode cX6_init 35 = .ok (.newarray .int, 2) := dk_188_10 (by decide +kernel)
theorem dX6_init_37 : decode cX6_init 37 = .ok (.putfield 25, 3) := dk_181 (by decide +kernel)
theorem dX6_init_40 : decode cX6_init 40 = .ok (.aload_n 0, 1) := dk_42 (by decide +kernel)
theorem dX6_init_41 : decode cX6_init 41 = .ok (.iconst 0, 1) := dk_3 (by decide +kernel)
theorem dX6_init_42 : decode cX6_init 42 = .ok (.putfield 28, 3) := dk_181 (by decide +kernel)
theorem dX6_init_45 : decode cX6_init 45 = .ok (.return_, 1) := dk_177 (by decide +kernel)
theorem dX7_init_0 : decode cX7_init 0 = .ok (.aload_n 0, 1) := dk_42 (by decide +kernel)
theorem dX7_init_1 : decode cX7_init 1 = .ok (.invokespecial 3, 3) := dk_183 (by decide +kernel)
theorem dX7_init_4 : decode cX7_init 4 = .ok (.aload_n 0, 1) := dk_42 (by decide +kernel)
theorem dX7_init_5 : decode cX7_init 5 = .ok (.sipush 301, 3) := dk_17 (by decide +kernel)
theorem dX7_init_8 : decode cX7_init 8 = .ok (.newarray .int, 2) := dk_188_10 (by decide +kernel)
theorem dX7_init_10 : decode cX7_init 10 = .ok (.putfield 9, 3) := dk_181 (by decide +kernel)
theorem dX7_init_13 : decode cX7_init 13 = .ok (.aload_n 0, 1) := dk_42 (by decide +kernel)
theorem dX7_init_14 : decode cX7_init 14 = .ok (.sipush 301, 3) := dk_17 (by decide +kernel)
theorem dX7_init_17 : decode cX7_init 17 = .ok (.newarray .int, 2) := dk_188_10 (by decide +kernel)
theorem dX7_init_19 : decode cX7_init 19 = .ok (.putfield 15, 3) := dk_181 (by decide +kernel)
theorem dX7_init_22 : decode cX7_init 22 = .ok (.aload_n 0, 1) := dk_42 (by decide +kernel)
theorem dX7_init_23 : decode cX7_init 23 = .ok (.sipush 301, 3) := dk_17 (by decide +kernel)
theorem dX7_init_26 : decode cX7_init 26 = .ok (.newarray .int, 2) := dk_188_10 (by decide +kernel)
theorem dX7_init_28 : decode cX7_init 28 = .ok (.putfield 18, 3) := dk_181 (by decide +kernel)
theorem dX7_init_31 : decode cX7_init 31 = .ok (.aload_n 0, 1) := dk_42 (by decide +kernel)
theorem dX7_init_32 : decode cX7_init 32 = .ok (.iconst 0, 1) := dk_3 (by decide +kernel)
theorem dX7_init_33 : decode cX7_init 33 = .ok (.putfield 21, 3) := dk_181 (by decide +kernel)
theorem dX7_init_36 : decode cX7_init 36 = .ok (.aload_n 0, 1) := dk_42 (by decide +kernel)
theorem dX7_init_37 : decode cX7_init 37 = .ok (.iconst 0, 1) := dk_3 (by decide +kernel)
theorem dX7_init_38 : decode cX7_init 38 = .ok (.putfield 25, 3) := dk_181 (by decide +kernel)
theorem dX7_init_41 : decode cX7_init 41 = .ok (.return_, 1) := dk_177 (by decide +kernel)
theorem dX8_init_0 : decode cX8_init 0 = .ok (.aload_n 0, 1) := dk_42 (by decide +kernel)
theorem dX8_init_1 : decode cX8_init 1 = .ok (.invokespecial 1, 3) := dk_183 (by decide +kernel)
theorem dX8_init_4 : decode cX8_init 4 = .ok (.aload_n 0, 1) := dk_42 (by decide +kernel)
theorem dX8_init_5 : decode cX8_init 5 = .ok (.new 7, 3) := dk_187 (by decide +kernel)
theorem dX8_init_8 : decode cX8_init 8 = .ok (.dup, 1) := dk_89 (by decide +kernel)
theorem dX8_init_9 : decode cX8_init 9 = .ok (.invokespecial 9, 3) := dk_183 (by decide +kernel)
theorem dX8_init_12 : decode cX8_init 12 = .ok (.putfield 10, 3) := dk_181 (by decide +kernel)
theorem dX8_init_15 : decode cX8_init 15 = .ok (.aload_n 0, 1) := dk_42 (by decide +kernel)
theorem dX8_init_16 : decode cX8_init 16 = .ok (.new 7, 3) := dk_187 (by decide +kernel)
theorem dX8_init_19 : decode cX8_init 19 = .ok (.dup, 1) := dk_89 (by decide +kernel)
theorem dX8_init_20 : decode cX8_init 20 = .ok (.invokespecial 9, 3) := dk_183 (by decide +kernel)
theorem dX8_init_23 : decode cX8_init 23 = .ok (.putfield 16, 3) := dk_181 (by decide +kernel)
theorem dX8_init_26 : decode cX8_init 26 = .ok (.aload_n 0, 1) := dk_42 (by decide +kernel)
theorem dX8_init_27 : decode cX8_init 27 = .ok (.new 19, 3) := dk_187 (by decide +kernel)
theorem dX8_init_30 : decode cX8_init 30 = .ok (.dup, 1) := dk_89 (by decide +kernel)
theorem dX8_init_31 : decode cX8_init 31 = .ok (.invokespecial 21, 3) := dk_183 (by decide +kernel)
theorem dX8_init_34 : decode cX8_init 34 = .ok (.putfield 22, 3) := dk_181 (by decide +kernel)
theorem dX8_init_37 : decode cX8_init 37 = .ok (.aload_n 0, 1) := dk_42 (by decide +kernel)
theorem dX8_init_38 : decode cX8_init 38 = .ok (.new 26, 3) := dk_187 (by decide +kernel)
theorem dX8_init_41 : decode cX8_init 41 = .ok (.dup, 1) := dk_89 (by decide +kernel)
theorem dX8_init_42 : decode cX8_init 42 = .ok (.invokespecial 28, 3) := dk_183 (by decide +kernel)
theorem dX8_init_45 : decode cX8_init 45 = .ok (.putfield 29, 3) := dk_181 (by decide +kernel)
theorem dX8_init_48 : decode cX8_init 48 = .ok (.aload_n 0, 1) := dk_42 (by decide +kernel)
theorem dX8_init_49 : decode cX8_init 49 = .ok (.new 33, 3) := dk_187 (by decide +kernel)
theorem dX8_init_52 : decode cX8_init 52 = .ok (.dup, 1) := dk_89 (by decide +kernel)
theorem dX8_init_53 : decode cX8_init 53 = .ok (.invokespecial 35, 3) := dk_183 (by decide +kernel)
theorem dX8_init_56 : decode cX8_init 56 = .ok (.putfield 36, 3) := dk_181 (by decide +kernel)
theorem dX8_init_59 : decode cX8_init 59 = .ok (.aload_n 0, 1) := dk_42 (by decide +kernel)
theorem dX8_init_60 : decode cX8_init 60 = .ok (.new 40, 3) := dk_187 (by decide +kernel)
theorem dX8_init_63 : decode cX8_init 63 = .ok (.dup, 1) := dk_89 (by decide +kernel)
theorem dX8_init_64 : decode cX8_init 64 = .ok (.invokespecial 42, 3) := dk_183 (by decide +kernel)
theorem dX8_init_67 : decode cX8_init 67 = .ok (.putfield 43, 3) := dk_181 (by decide +kernel)
theorem dX8_init_70 : decode cX8_init 70 = .ok (.aload_n 0, 1) := dk_42 (by decide +kernel)
theorem dX8_init_71 : decode cX8_init 71 = .ok (.new 47, 3) := dk_187 (by decide +kernel)
theorem dX8_init_74 : decode cX8_init 74 = .ok (.dup, 1) := dk_89 (by decide +kernel)
theorem dX8_init_75 : decode cX8_init 75 = .ok (.invokespecial 49, 3) := dk_183 (by decide +kernel)
theorem dX8_init_78 : decode cX8_init 78 = .ok (.putfield 50, 3) := dk_181 (by decide +kernel)
theorem dX8_init_81 : decode cX8_init 81 = .ok (.aload_n 0, 1) := dk_42 (by decide +kernel)
theorem dX8_init_82 : decode cX8_init 82 = .ok (.new 54, 3) := dk_187 (by decide +kernel)
theorem dX8_init_85 : decode cX8_init 85 = .ok (.dup, 1) := dk_89 (by decide +kernel)
theorem dX8_init_86 : decode cX8_init 86 = .ok (.invokespecial 56, 3) := dk_183 (by decide +kernel)
theorem dX8_init_89 : decode cX8_init 89 = .ok (.putfield 57, 3) := dk_181 (by decide +kernel)
theorem dX8_init_92 : decode cX8_init 92 = .ok (.return_, 1) := dk_177 (by decide +kernel)
theorem dX9_init_0 : decode cX9_init 0 = .ok (.aload_n 0, 1) := dk_42 (by decide +kernel)
theorem dX9_init_1 : decode cX9_init 1 = .ok (.invokespecial 1, 3) := dk_183 (by decide +kernel)
theorem dX9_init_4 : decode cX9_init 4 = .ok (.aload_n 0, 1) := dk_42 (by decide +kernel)
theorem dX9_init_5 : decode cX9_init 5 = .ok (.sipush 1990, 3) := dk_17 (by decide +kernel)
theorem dX9_init_8 : decode cX9_init 8 = .ok (.newarray .int, 2) := dk_188_10 (by decide +kernel)
theorem dX9_init_10 : decode cX9_init 10 = .ok (.putfield 7, 3) := dk_181 (by decide +kernel)
theorem dX9_init_13 : decode cX9_init 13 = .ok (.aload_n 0, 1) := dk_42 (by decide +kernel)
theorem dX9_init_14 : decode cX9_init 14 = .ok (.sipush 1990, 3) := dk_17 (by decide +kernel)
theorem dX9_init_17 : decode cX9_init 17 = .ok (.newarray .int, 2) := dk_188_10 (by decide +kernel)
theorem dX9_init_19 : decode cX9_init 19 = .ok (.putfield 13, 3) := dk_181 (by decide +kernel)
theorem dX9_init_22 : decode cX9_init 22 = .ok (.aload_n 0, 1) := dk_42 (by decide +kernel)
theorem dX9_init_23 : decode cX9_init 23 = .ok (.sipush 300, 3) := dk_17 (by decide +kernel)
theorem dX9_init_26 : decode cX9_init 26 = .ok (.newarray .byte, 2) := dk_188_8 (by decide +kernel)
theorem dX9_init_28 : decode cX9_init 28 = .ok (.putfield 16, 3) := dk_181 (by decide +kernel)
theorem dX9_init_31 : decode cX9_init 31 = .ok (.aload_n 0, 1) := dk_42 (by decide +kernel)
theorem dX9_init_32 : decode cX9_init 32 = .ok (.iconst (-1), 1) := dk_2 (by decide +kernel)
theorem dX9_init_33 : decode cX9_init 33 = .ok (.putfield 20, 3) := dk_181 (by decide +kernel)
theorem dX9_init_36 : decode cX9_init 36 = .ok (.aload_n 0, 1) := dk_42 (by decide +kernel)
theorem dX9_init_37 : decode cX9_init 37 = .ok (.iconst (-1), 1) := dk_2 (by decide +kernel)
theorem dX9_init_38 : decode cX9_init 38 = .ok (.putfield 24, 3) := dk_181 (by decide +kernel)
theorem dX9_init_41 : decode cX9_init 41 = .ok (.aload_n 0, 1) := dk_42 (by decide +kernel)
theorem dX9_init_42 : decode cX9_init 42 = .ok (.iconst 4, 1) := dk_7 (by decide +kernel)
theorem dX9_init_43 : decode cX9_init 43 = .ok (.newarray .int, 2) := dk_188_10 (by decide +kernel)
theorem dX9_init_45 : decode cX9_init 45 = .ok (.putfield 27, 3) := dk_181 (by decide +kernel)
theorem dX9_init_48 : decode cX9_init 48 = .ok (.aload_n 0, 1) := dk_42 (by decide +kernel)
theorem dX9_init_49 : decode cX9_init 49 = .ok (.bipush 96, 2) := dk_16 (by decide +kernel)
theorem dX9_init_51 : decode cX9_init 51 = .ok (.newarray .int, 2) := dk_188_10 (by decide +kernel)
theorem dX9_init_53 : decode cX9_init 53 = .ok (.putfield 30, 3) := dk_181 (by decide +kernel)
theorem dX9_init_56 : decode cX9_init 56 = .ok (.aload_n 0, 1) := dk_42 (by decide +kernel)
theorem dX9_init_57 : decode cX9_init 57 = .ok (.bipush 96, 2) := dk_16 (by decide +kernel)
theorem dX9_init_59 : decode cX9_init 59 = .ok (.newarray .int, 2) := dk_188_10 (by decide +kernel)
theorem dX9_init_61 : decode cX9_init 61 = .ok (.putfield 33, 3) := dk_181 (by decide +kernel)
theorem dX9_init_64 : decode cX9_init 64 = .ok (.aload_n 0, 1) := dk_42 (by decide +kernel)
theorem dX9_init_65 : decode cX9_init 65 = .ok (.bipush 96, 2) := dk_16 (by decide +kernel)
theorem dX9_init_67 : decode cX9_init 67 = .ok (.newarray .int, 2) := dk_188_10 (by decide +kernel)
theorem dX9_init_69 : decode cX9_init 69 = .ok (.putfield 36, 3) := dk_181 (by decide +kernel)
theorem dX9_init_72 : decode cX9_init 72 = .ok (.aload_n 0, 1) := dk_42 (by decide +kernel)
theorem dX9_init_73 : decode cX9_init 73 = .ok (.bipush 96, 2) := dk_16 (by decide +kernel)
theorem dX9_init_75 : decode cX9_init 75 = .ok (.newarray .int, 2) := dk_188_10 (by decide +kernel)
theorem dX9_init_77 : decode cX9_init 77 = .ok (.putfield 39, 3) := dk_181 (by decide +kernel)
theorem dX9_init_80 : decode cX9_init 80 = .ok (.aload_n 0, 1) := dk_42 (by decide +kernel)
theorem dX9_init_81 : decode cX9_init 81 = .ok (.bipush 96, 2) := dk_16 (by decide +kernel)
theorem dX9_init_83 : decode cX9_init 83 = .ok (.newarray .int, 2) := dk_188_10 (by decide +kernel)
theorem dX9_init_85 : decode cX9_init 85 = .ok (.putfield 42, 3) := dk_181 (by decide +kernel)
theorem dX9_init_88 : decode cX9_init 88 = .ok (.aload_n 0, 1) := dk_42 (by decide +kernel)
theorem dX9_init_89 : decode cX9_init 89 = .ok (.sipush 1600, 3) := dk_17 (by decide +kernel)
theorem dX9_init_92 : decode cX9_init 92 = .ok (.newarray .int, 2) := dk_188_10 (by decide +kernel)
theorem dX9_init_94 : decode cX9_init 94 = .ok (.putfield 45, 3) := dk_181 (by decide +kernel)
theorem dX9_init_97 : decode cX9_init 97 = .ok (.aload_n 0, 1) := dk_42 (by decide +kernel)
theorem dX9_init_98 : decode cX9_init 98 = .ok (.sipush 1600, 3) := dk_17 (by decide +kernel)
theorem dX9_init_101 : decode cX9_init 101 = .ok (.newarray .int, 2) := dk_188_10 (by decide +kernel)
theorem dX9_init_103 : decode cX9_init 103 = .ok (.putfield 48, 3) := dk_181 (by decide +kernel)
theorem dX9_init_106 : decode cX9_init 106 = .ok (.aload_n 0, 1) := dk_42 (by decide +kernel)
theorem dX9_init_107 : decode cX9_init 107 = .ok (.bipush 40, 2) := dk_16 (by decide +kernel)
theorem dX9_init_109 : decode cX9_init 109 = .ok (.newarray .int, 2) := dk_188_10 (by decide +kernel)
theorem dX9_init_111 : decode cX9_init 111 = .ok (.putfield 51, 3) := dk_181 (by decide +kernel)
theorem dX9_init_114 : decode cX9_init 114 = .ok (.aload_n 0, 1) := dk_42 (by decide +kernel)
theorem dX9_init_115 : decode cX9_init 115 = .ok (.bipush 41, 2) := dk_16 (by decide +kernel)
theorem dX9_init_117 : decode cX9_init 117 = .ok (.newarray .int, 2) := dk_188_10 (by decide +kernel)
theorem dX9_init_119 : decode cX9_init 119 = .ok (.putfield 54, 3) := dk_181 (by decide +kernel)
theorem dX9_init_122 : decode cX9_init 122 = .ok (.aload_n 0, 1) := dk_42 (by decide +kernel)
theorem dX9_init_123 : decode cX9_init 123 = .ok (.bipush 80, 2) := dk_16 (by decide +kernel)
theorem dX9_init_125 : decode cX9_init 125 = .ok (.newarray .int, 2) := dk_188_10 (by decide +kernel)
theorem dX9_init_127 : decode cX9_init 127 = .ok (.putfield 57, 3) := dk_181 (by decide +kernel)
theorem dX9_init_130 : decode cX9_init 130 = .ok (.aload_n 0, 1) := dk_42 (by decide +kernel)
theorem dX9_init_131 : decode cX9_init 131 = .ok (.bipush 80, 2) := dk_16 (by decide +kernel)
theorem dX9_init_133 : decode cX9_init 133 = .ok (.newarray .int, 2) := dk_188_10 (by decide +kernel)
theorem dX9_init_135 : decode cX9_init 135 = .ok (.putfield 60, 3) := dk_181 (by decide +kernel)
theorem dX9_init_138 : decode cX9_init 138 = .ok (.aload_n 0, 1) := dk_42 (by decide +kernel)
theorem dX9_init_139 : decode cX9_init 139 = .ok (.bipush 24, 2) := dk_16 (by decide +kernel)
theorem dX9_init_141 : decode cX9_init 141 = .ok (.newarray .int, 2) := dk_188_10 (by decide +kernel)
theorem dX9_init_143 : decode cX9_init 143 = .ok (.putfield 63, 3) := dk_181 (by decide +kernel)
theorem dX9_init_146 : decode cX9_init 146 = .ok (.aload_n 0, 1) := dk_42 (by decide +kernel)
theorem dX9_init_147 : decode cX9_init 147 = .ok (.bipush 24, 2) := dk_16 (by decide +kernel)
theorem dX9_init_149 : decode cX9_init 149 = .ok (.newarray .int, 2) := dk_188_10 (by decide +kernel)
theorem dX9_init_151 : decode cX9_init 151 = .ok (.putfield 66, 3) := dk_181 (by decide +kernel)
theorem dX9_init_154 : decode cX9_init 154 = .ok (.aload_n 0, 1) := dk_42 (by decide +kernel)
theorem dX9_init_155 : decode cX9_init 155 = .ok (.bipush 24, 2) := dk_16 (by decide +kernel)
theorem dX9_init_157 : decode cX9_init 157 = .ok (.newarray .int, 2) := dk_188_10 (by decide +kernel)
theorem dX9_init_159 : decode cX9_init 159 = .ok (.putfield 69, 3) := dk_181 (by decide +kernel)
theorem dX9_init_162 : decode cX9_init 162 = .ok (.aload_n 0, 1) := dk_42 (by decide +kernel)
theorem dX9_init_163 : decode cX9_init 163 = .ok (.bipush 24, 2) := dk_16 (by decide +kernel)
theorem dX9_init_165 : decode cX9_init 165 = .ok (.newarray .int, 2) := dk_188_10 (by decide +kernel)
theorem dX9_init_167 : decode cX9_init 167 = .ok (.putfield 72, 3) := dk_181 (by decide +kernel)
theorem dX9_init_170 : decode cX9_init 170 = .ok (.aload_n 0, 1) := dk_42 (by decide +kernel)
theorem dX9_init_171 : decode cX9_init 171 = .ok (.bipush 24, 2) := dk_16 (by decide +kernel)
theorem dX9_init_173 : decode cX9_init 173 = .ok (.newarray .int, 2) := dk_188_10 (by decide +kernel)
theorem dX9_init_175 : decode cX9_init 175 = .ok (.putfield 75, 3) := dk_181 (by decide +kernel)
theorem dX9_init_178 : decode cX9_init 178 = .ok (.aload_n 0, 1) := dk_42 (by decide +kernel)
theorem dX9_init_179 : decode cX9_init 179 = .ok (.sipush 400, 3) := dk_17 (by decide +kernel)
theorem dX9_init_182 : decode cX9_init 182 = .ok (.newarray .int, 2) := dk_188_10 (by decide +kernel)
theorem dX9_init_184 : decode cX9_init 184 = .ok (.putfield 78, 3) := dk_181 (by decide +kernel)
theorem dX9_init_187 : decode cX9_init 187 = .ok (.aload_n 0, 1) := dk_42 (by decide +kernel)
theorem dX9_init_188 : decode cX9_init 188 = .ok (.sipush 400, 3) := dk_17 (by decide +kernel)
theorem dX9_init_191 : decode cX9_init 191 = .ok (.newarray .int, 2) := dk_188_10 (by decide +kernel)
theorem dX9_init_193 : decode cX9_init 193 = .ok (.putfield 81, 3) := dk_181 (by decide +kernel)
theorem dX9_init_196 : decode cX9_init 196 = .ok (.aload_n 0, 1) := dk_42 (by decide +kernel)
theorem dX9_init_197 : decode cX9_init 197 = .ok (.bipush 9, 2) := dk_16 (by decide +kernel)
theorem dX9_init_199 : decode cX9_init 199 = .ok (.newarray .int, 2) := dk_188_10 (by decide +kernel)
theorem dX9_init_201 : decode cX9_init 201 = .ok (.putfield 84, 3) := dk_181 (by decide +kernel)
theorem dX9_init_204 : decode cX9_init 204 = .ok (.aload_n 0, 1) := dk_42 (by decide +kernel)
theorem dX9_init_205 : decode cX9_init 205 = .ok (.sipush 200, 3) := dk_17 (by decide +kernel)
theorem dX9_init_208 : decode cX9_init 208 = .ok (.newarray .long, 2) := dk_188_11 (by decide +kernel)
theorem dX9_init_210 : decode cX9_init 210 = .ok (.putfield 87, 3) := dk_181 (by decide +kernel)
theorem dX9_init_213 : decode cX9_init 213 = .ok (.aload_n 0, 1) := dk_42 (by decide +kernel)
theorem dX9_init_214 : decode cX9_init 214 = .ok (.bipush 16, 2) := dk_16 (by decide +kernel)
theorem dX9_init_216 : decode cX9_init 216 = .ok (.newarray .long, 2) := dk_188_11 (by decide +kernel)
theorem dX9_init_218 : decode cX9_init 218 = .ok (.putfield 91, 3) := dk_181 (by decide +kernel)
theorem dX9_init_221 : decode cX9_init 221 = .ok (.aload_n 0, 1) := dk_42 (by decide +kernel)
theorem dX9_init_222 : decode cX9_init 222 = .ok (.bipush 16, 2) := dk_16 (by decide +kernel)
theorem dX9_init_224 : decode cX9_init 224 = .ok (.newarray .long, 2) := dk_188_11 (by decide +kernel)
theorem dX9_init_226 : decode cX9_init 226 = .ok (.putfield 94, 3) := dk_181 (by decide +kernel)
theorem dX9_init_229 : decode cX9_init 229 = .ok (.aload_n 0, 1) := dk_42 (by decide +kernel)
theorem dX9_init_230 : decode cX9_init 230 = .ok (.bipush 120, 2) := dk_16 (by decide +kernel)
theorem dX9_init_232 : decode cX9_init 232 = .ok (.newarray .int, 2) := dk_188_10 (by decide +kernel)
theorem dX9_init_234 : decode cX9_init 234 = .ok (.putfield 97, 3) := dk_181 (by decide +kernel)
theorem dX9_init_237 : decode cX9_init 237 = .ok (.aload_n 0, 1) := dk_42 (by decide +kernel)
theorem dX9_init_238 : decode cX9_init 238 = .ok (.bipush 120, 2) := dk_16 (by decide +kernel)
theorem dX9_init_240 : decode cX9_init 240 = .ok (.newarray .int, 2) := dk_188_10 (by decide +kernel)
theorem dX9_init_242 : decode cX9_init 242 = .ok (.putfield 100, 3) := dk_181 (by decide +kernel)
theorem dX9_init_245 : decode cX9_init 245 = .ok (.aload_n 0, 1) := dk_42 (by decide +kernel)
theorem dX9_init_246 : decode cX9_init 246 = .ok (.bipush 120, 2) := dk_16 (by decide +kernel)
theorem dX9_init_248 : decode cX9_init 248 = .ok (.newarray .boolean, 2) := dk_188_4 (by decide +kernel)
theorem dX9_init_250 : decode cX9_init 250 = .ok (.putfield 103, 3) := dk_181 (by decide +kernel)
theorem dX9_init_253 : decode cX9_init 253 = .ok (.aload_n 0, 1) := dk_42 (by decide +kernel)
theorem dX9_init_254 : decode cX9_init 254 = .ok (.bipush 10, 2) := dk_16 (by decide +kernel)
theorem dX9_init_256 : decode cX9_init 256 = .ok (.newarray .int, 2) := dk_188_10 (by decide +kernel)
theorem dX9_init_258 : decode cX9_init 258 = .ok (.putfield 107, 3) := dk_181 (by decide +kernel)
theorem dX9_init_261 : decode cX9_init 261 = .ok (.aload_n 0, 1) := dk_42 (by decide +kernel)
theorem dX9_init_262 : decode cX9_init 262 = .ok (.iconst 3, 1) := dk_6 (by decide +kernel)
theorem dX9_init_263 : decode cX9_init 263 = .ok (.newarray .int, 2) := dk_188_10 (by decide +kernel)
theorem dX9_init_265 : decode cX9_init 265 = .ok (.putfield 110, 3) := dk_181 (by decide +kernel)
theorem dX9_init_268 : decode cX9_init 268 = .ok (.aload_n 0, 1) := dk_42 (by decide +kernel)
theorem dX9_init_269 : decode cX9_init 269 = .ok (.iconst 3, 1) := dk_6 (by decide +kernel)
theorem dX9_init_270 : decode cX9_init 270 = .ok (.newarray .int, 2) := dk_188_10 (by decide +kernel)
theorem dX9_init_272 : decode cX9_init 272 = .ok (.putfield 113, 3) := dk_181 (by decide +kernel)
theorem dX9_init_275 : decode cX9_init 275 = .ok (.aload_n 0, 1) := dk_42 (by decide +kernel)
theorem dX9_init_276 : decode cX9_init 276 = .ok (.iconst 3, 1) := dk_6 (by decide +kernel)
theorem dX9_init_277 : decode cX9_init 277 = .ok (.newarray .int, 2) := dk_188_10 (by decide +kernel)
theorem dX9_init_279 : decode cX9_init 279 = .ok (.putfield 116, 3) := dk_181 (by decide +kernel)
theorem dX9_init_282 : decode cX9_init 282 = .ok (.aload_n 0, 1) := dk_42 (by decide +kernel)
theorem dX9_init_283 : decode cX9_init 283 = .ok (.iconst 3, 1) := dk_6 (by decide +kernel)
theorem dX9_init_284 : decode cX9_init 284 = .ok (.newarray .int, 2) := dk_188_10 (by decide +kernel)
theorem dX9_init_286 : decode cX9_init 286 = .ok (.putfield 119, 3) := dk_181 (by decide +kernel)
theorem dX9_init_289 : decode cX9_init 289 = .ok (.aload_n 0, 1) := dk_42 (by decide +kernel)
theorem dX9_init_290 : decode cX9_init 290 = .ok (.getfield 7, 3) := dk_180 (by decide +kernel)
theorem dX9_init_293 : decode cX9_init 293 = .ok (.iconst 4, 1) := dk_7 (by decide +kernel)
theorem dX9_init_294 : decode cX9_init 294 = .ok (.iconst (-1), 1) := dk_2 (by decide +kernel)
theorem dX9_init_295 : decode cX9_init 295 = .ok (.iastore, 1) := dk_79 (by decide +kernel)
theorem dX9_init_296 : decode cX9_init 296 = .ok (.aload_n 0, 1) := dk_42 (by decide +kernel)
theorem dX9_init_297 : decode cX9_init 297 = .ok (.getfield 7, 3) := dk_180 (by decide +kernel)
theorem dX9_init_300 : decode cX9_init 300 = .ok (.bipush 122, 2) := dk_16 (by decide +kernel)
theorem dX9_init_302 : decode cX9_init 302 = .ok (.bipush 9, 2) := dk_16 (by decide +kernel)
theorem dX9_init_304 : decode cX9_init 304 = .ok (.iastore, 1) := dk_79 (by decide +kernel)
theorem dX9_init_305 : decode cX9_init 305 = .ok (.aload_n 0, 1) := dk_42 (by decide +kernel)
theorem dX9_init_306 : decode cX9_init 306 = .ok (.iconst 1, 1) := dk_4 (by decide +kernel)
theorem dX9_init_307 : decode cX9_init 307 = .ok (.invokevirtual 122, 3) := dk_182 (by decide +kernel)
theorem dX9_init_310 : decode cX9_init 310 = .ok (.return_, 1) := dk_177 (by decide +kernel)
theorem dL_law_18 : decode cL_law 18 = .ok (.iload_n 3, 1) := dk_29 (by decide +kernel)
theorem dL_law_19 : decode cL_law 19 = .ok (.aload_n 0, 1) := dk_42 (by decide +kernel)
theorem dL_law_20 : decode cL_law 20 = .ok (.arraylength, 1) := dk_190 (by decide +kernel)
theorem dL_law_21 : decode cL_law 21 = .ok (.bipush 6, 2) := dk_16 (by decide +kernel)
theorem dL_law_23 : decode cL_law 23 = .ok (.isub, 1) := dk_100 (by decide +kernel)
theorem dL_law_24 : decode cL_law 24 = .ok (.if_icmp .gt 996, 3) := dk_163 (by decide +kernel)
theorem dL_law_27 : decode cL_law 27 = .ok (.aload_n 0, 1) := dk_42 (by decide +kernel)
theorem dL_law_28 : decode cL_law 28 = .ok (.iload_n 3, 1) := dk_29 (by decide +kernel)
theorem dL_law_29 : decode cL_law 29 = .ok (.iaload, 1) := dk_46 (by decide +kernel)
theorem dL_law_30 : decode cL_law 30 = .ok (.bipush 31, 2) := dk_16 (by decide +kernel)
theorem dL_law_32 : decode cL_law 32 = .ok (.iand, 1) := dk_126 (by decide +kernel)
theorem dL_law_33 : decode cL_law 33 = .ok (.tableswitch 981 0 28 #[131, 174, 207, 240, 263, 306, 339, 362, 385, 408, 431, 494, 517, 530, 553, 576, 599, 612, 645, 688, 721, 770, 793, 816, 876, 919, 932, 945, 958], 131) := by decide +kernel
theorem dL_law_164 : decode cL_law 164 = .ok (.aload_n 1, 1) := dk_43 (by decide +kernel)
theorem dL_law_165 : decode cL_law 165 = .ok (.aload_n 0, 1) := dk_42 (by decide +kernel)
theorem dL_law_166 : decode cL_law 166 = .ok (.iload_n 3, 1) := dk_29 (by decide +kernel)
theorem dL_law_167 : decode cL_law 167 = .ok (.iconst 1, 1) := dk_4 (by decide +kernel)
theorem dL_law_168 : decode cL_law 168 = .ok (.iadd, 1) := dk_96 (by decide +kernel)
theorem dL_law_169 : decode cL_law 169 = .ok (.iaload, 1) := dk_46 (by decide +kernel)
theorem dL_law_170 : decode cL_law 170 = .ok (.aload_n 0, 1) := dk_42 (by decide +kernel)
theorem dL_law_171 : decode cL_law 171 = .ok (.iload_n 3, 1) := dk_29 (by decide +kernel)
theorem dL_law_172 : decode cL_law 172 = .ok (.iconst 2, 1) := dk_5 (by decide +kernel)
theorem dL_law_173 : decode cL_law 173 = .ok (.iadd, 1) := dk_96 (by decide +kernel)
theorem dL_law_174 : decode cL_law 174 = .ok (.iaload, 1) := dk_46 (by decide +kernel)
theorem dL_law_175 : decode cL_law 175 = .ok (.aload_n 0, 1) := dk_42 (by decide +kernel)
theorem dL_law_176 : decode cL_law 176 = .ok (.iload_n 3, 1) := dk_29 (by decide +kernel)
theorem dL_law_177 : decode cL_law 177 = .ok (.iconst 3, 1) := dk_6 (by decide +kernel)
theorem dL_law_178 : decode cL_law 178 = .ok (.iadd, 1) := dk_96 (by decide +kernel)
theorem dL_law_179 : decode cL_law 179 = .ok (.iaload, 1) := dk_46 (by decide +kernel)
theorem dL_law_180 : decode cL_law 180 = .ok (.invokevirtual 13, 3) := dk_182 (by decide +kernel)
theorem dL_law_183 : decode cL_law 183 = .ok (.pop, 1) := dk_87 (by decide +kernel)
theorem dL_law_184 : decode cL_law 184 = .ok (.aload_n 2, 1) := dk_44 (by decide +kernel)
theorem dL_law_185 : decode cL_law 185 = .ok (.aload_n 0, 1) := dk_42 (by decide +kernel)
theorem dL_law_186 : decode cL_law 186 = .ok (.iload_n 3, 1) := dk_29 (by decide +kernel)
theorem dL_law_187 : decode cL_law 187 = .ok (.iconst 1, 1) := dk_4 (by decide +kernel)
theorem dL_law_188 : decode cL_law 188 = .ok (.iadd, 1) := dk_96 (by decide +kernel)
theorem dL_law_189 : decode cL_law 189 = .ok (.iaload, 1) := dk_46 (by decide +kernel)
theorem dL_law_190 : decode cL_law 190 = .ok (.aload_n 0, 1) := dk_42 (by decide +kernel)
theorem dL_law_191 : decode cL_law 191 = .ok (.iload_n 3, 1) := dk_29 (by decide +kernel)
theorem dL_law_192 : decode cL_law 192 = .ok (.iconst 2, 1) := dk_5 (by decide +kernel)
theorem dL_law_193 : decode cL_law 193 = .ok (.iadd, 1) := dk_96 (by decide +kernel)
theorem dL_law_194 : decode cL_law 194 = .ok (.iaload, 1) := dk_46 (by decide +kernel)
theorem dL_law_195 : decode cL_law 195 = .ok (.aload_n 0, 1) := dk_42 (by decide +kernel)
theorem dL_law_196 : decode cL_law 196 = .ok (.iload_n 3, 1) := dk_29 (by decide +kernel)
theorem dL_law_197 : decode cL_law 197 = .ok (.iconst 3, 1) := dk_6 (by decide +kernel)
theorem dL_law_198 : decode cL_law 198 = .ok (.iadd, 1) := dk_96 (by decide +kernel)
theorem dL_law_199 : decode cL_law 199 = .ok (.iaload, 1) := dk_46 (by decide +kernel)
theorem dL_law_200 : decode cL_law 200 = .ok (.invokevirtual 17, 3) := dk_182 (by decide +kernel)
theorem dL_law_203 : decode cL_law 203 = .ok (.pop, 1) := dk_87 (by decide +kernel)
theorem dL_law_204 : decode cL_law 204 = .ok (.goto 810, 3) := dk_167 (by decide +kernel)
theorem dL_law_207 : decode cL_law 207 = .ok (.aload_n 1, 1) := dk_43 (by decide +kernel)
theorem dL_law_208 : decode cL_law 208 = .ok (.aload_n 0, 1) := dk_42 (by decide +kernel)
theorem dL_law_209 : decode cL_law 209 = .ok (.iload_n 3, 1) := dk_29 (by decide +kernel)
theorem dL_law_210 : decode cL_law 210 = .ok (.iconst 1, 1) := dk_4 (by decide +kernel)
theorem dL_law_211 : decode cL_law 211 = .ok (.iadd, 1) := dk_96 (by decide +kernel)
theorem dL_law_212 : decode cL_law 212 = .ok (.iaload, 1) := dk_46 (by decide +kernel)
theorem dL_law_213 : decode cL_law 213 = .ok (.aload_n 0, 1) := dk_42 (by decide +kernel)
theorem dL_law_214 : decode cL_law 214 = .ok (.iload_n 3, 1) := dk_29 (by decide +kernel)
theorem dL_law_215 : decode cL_law 215 = .ok (.iconst 2, 1) := dk_5 (by decide +kernel)
theorem dL_law_216 : decode cL_law 216 = .ok (.iadd, 1) := dk_96 (by decide +kernel)
theorem dL_law_217 : decode cL_law 217 = .ok (.iaload, 1) := dk_46 (by decide +kernel)
theorem dL_law_218 : decode cL_law 218 = .ok (.invokevirtual 18, 3) := dk_182 (by decide +kernel)
theorem dL_law_221 : decode cL_law 221 = .ok (.pop, 1) := dk_87 (by decide +kernel)
theorem dL_law_222 : decode cL_law 222 = .ok (.aload_n 2, 1) := dk_44 (by decide +kernel)
theorem dL_law_223 : decode cL_law 223 = .ok (.aload_n 0, 1) := dk_42 (by decide +kernel)
theorem dL_law_224 : decode cL_law 224 = .ok (.iload_n 3, 1) := dk_29 (by decide +kernel)
theorem dL_law_225 : decode cL_law 225 = .ok (.iconst 1, 1) := dk_4 (by decide +kernel)
theorem dL_law_226 : decode cL_law 226 = .ok (.iadd, 1) := dk_96 (by decide +kernel)
theorem dL_law_227 : decode cL_law 227 = .ok (.iaload, 1) := dk_46 (by decide +kernel)
theorem dL_law_228 : decode cL_law 228 = .ok (.aload_n 0, 1) := dk_42 (by decide +kernel)
theorem dL_law_229 : decode cL_law 229 = .ok (.iload_n 3, 1) := dk_29 (by decide +kernel)
theorem dL_law_230 : decode cL_law 230 = .ok (.iconst 2, 1) := dk_5 (by decide +kernel)
theorem dL_law_231 : decode cL_law 231 = .ok (.iadd, 1) := dk_96 (by decide +kernel)
theorem dL_law_232 : decode cL_law 232 = .ok (.iaload, 1) := dk_46 (by decide +kernel)
theorem dL_law_233 : decode cL_law 233 = .ok (.invokevirtual 22, 3) := dk_182 (by decide +kernel)
theorem dL_law_236 : decode cL_law 236 = .ok (.pop, 1) := dk_87 (by decide +kernel)
theorem dL_law_237 : decode cL_law 237 = .ok (.goto 777, 3) := dk_167 (by decide +kernel)
theorem dL_law_240 : decode cL_law 240 = .ok (.aload_n 1, 1) := dk_43 (by decide +kernel)
theorem dL_law_241 : decode cL_law 241 = .ok (.aload_n 0, 1) := dk_42 (by decide +kernel)
theorem dL_law_242 : decode cL_law 242 = .ok (.iload_n 3, 1) := dk_29 (by decide +kernel)
theorem dL_law_243 : decode cL_law 243 = .ok (.iconst 1, 1) := dk_4 (by decide +kernel)
theorem dL_law_244 : decode cL_law 244 = .ok (.iadd, 1) := dk_96 (by decide +kernel)
theorem dL_law_245 : decode cL_law 245 = .ok (.iaload, 1) := dk_46 (by decide +kernel)
theorem dL_law_246 : decode cL_law 246 = .ok (.aload_n 0, 1) := dk_42 (by decide +kernel)
theorem dL_law_247 : decode cL_law 247 = .ok (.iload_n 3, 1) := dk_29 (by decide +kernel)
theorem dL_law_248 : decode cL_law 248 = .ok (.iconst 2, 1) := dk_5 (by decide +kernel)
theorem dL_law_249 : decode cL_law 249 = .ok (.iadd, 1) := dk_96 (by decide +kernel)
theorem dL_law_250 : decode cL_law 250 = .ok (.iaload, 1) := dk_46 (by decide +kernel)
theorem dL_law_251 : decode cL_law 251 = .ok (.invokevirtual 23, 3) := dk_182 (by decide +kernel)
theorem dL_law_254 : decode cL_law 254 = .ok (.pop, 1) := dk_87 (by decide +kernel)
theorem dL_law_255 : decode cL_law 255 = .ok (.aload_n 2, 1) := dk_44 (by decide +kernel)
theorem dL_law_256 : decode cL_law 256 = .ok (.aload_n 0, 1) := dk_42 (by decide +kernel)
theorem dL_law_257 : decode cL_law 257 = .ok (.iload_n 3, 1) := dk_29 (by decide +kernel)
theorem dL_law_258 : decode cL_law 258 = .ok (.iconst 1, 1) := dk_4 (by decide +kernel)
theorem dL_law_259 : decode cL_law 259 = .ok (.iadd, 1) := dk_96 (by decide +kernel)
theorem dL_law_260 : decode cL_law 260 = .ok (.iaload, 1) := dk_46 (by decide +kernel)
theorem dL_law_261 : decode cL_law 261 = .ok (.aload_n 0, 1) := dk_42 (by decide +kernel)
theorem dL_law_262 : decode cL_law 262 = .ok (.iload_n 3, 1) := dk_29 (by decide +kernel)
theorem dL_law_263 : decode cL_law 263 = .ok (.iconst 2, 1) := dk_5 (by decide +kernel)
theorem dL_law_264 : decode cL_law 264 = .ok (.iadd, 1) := dk_96 (by decide +kernel)
theorem dL_law_265 : decode cL_law 265 = .ok (.iaload, 1) := dk_46 (by decide +kernel)
theorem dL_law_266 : decode cL_law 266 = .ok (.invokevirtual 27, 3) := dk_182 (by decide +kernel)
theorem dL_law_269 : decode cL_law 269 = .ok (.pop, 1) := dk_87 (by decide +kernel)
theorem dL_law_270 : decode cL_law 270 = .ok (.goto 744, 3) := dk_167 (by decide +kernel)
theorem dL_law_273 : decode cL_law 273 = .ok (.aload_n 1, 1) := dk_43 (by decide +kernel)
theorem dL_law_274 : decode cL_law 274 = .ok (.aload_n 0, 1) := dk_42 (by decide +kernel)
theorem dL_law_275 : decode cL_law 275 = .ok (.iload_n 3, 1) := dk_29 (by decide +kernel)
theorem dL_law_276 : decode cL_law 276 = .ok (.iconst 1, 1) := dk_4 (by decide +kernel)
theorem dL_law_277 : decode cL_law 277 = .ok (.iadd, 1) := dk_96 (by decide +kernel)
theorem dL_law_278 : decode cL_law 278 = .ok (.iaload, 1) := dk_46 (by decide +kernel)
theorem dL_law_279 : decode cL_law 279 = .ok (.invokevirtual 28, 3) := dk_182 (by decide +kernel)
theorem dL_law_282 : decode cL_law 282 = .ok (.pop, 1) := dk_87 (by decide +kernel)
theorem dL_law_283 : decode cL_law 283 = .ok (.aload_n 2, 1) := dk_44 (by decide +kernel)
theorem dL_law_284 : decode cL_law 284 = .ok (.aload_n 0, 1) := dk_42 (by decide +kernel)
theorem dL_law_285 : decode cL_law 285 = .ok (.iload_n 3, 1) := dk_29 (by decide +kernel)
theorem dL_law_286 : decode cL_law 286 = .ok (.iconst 1, 1) := dk_4 (by decide +kernel)
theorem dL_law_287 : decode cL_law 287 = .ok (.iadd, 1) := dk_96 (by decide +kernel)
theorem dL_law_288 : decode cL_law 288 = .ok (.iaload, 1) := dk_46 (by decide +kernel)
theorem dL_law_289 : decode cL_law 289 = .ok (.invokevirtual 32, 3) := dk_182 (by decide +kernel)
theorem dL_law_292 : decode cL_law 292 = .ok (.pop, 1) := dk_87 (by decide +kernel)
theorem dL_law_293 : decode cL_law 293 = .ok (.goto 721, 3) := dk_167 (by decide +kernel)
theorem dL_law_296 : decode cL_law 296 = .ok (.aload_n 1, 1) := dk_43 (by decide +kernel)
theorem dL_law_297 : decode cL_law 297 = .ok (.aload_n 0, 1) := dk_42 (by decide +kernel)
theorem dL_law_298 : decode cL_law 298 = .ok (.iload_n 3, 1) := dk_29 (by decide +kernel)
theorem dL_law_299 : decode cL_law 299 = .ok (.iconst 1, 1) := dk_4 (by decide +kernel)
theorem dL_law_300 : decode cL_law 300 = .ok (.iadd, 1) := dk_96 (by decide +kernel)
theorem dL_law_301 : decode cL_law 301 = .ok (.iaload, 1) := dk_46 (by decide +kernel)
theorem dL_law_302 : decode cL_law 302 = .ok (.aload_n 0, 1) := dk_42 (by decide +kernel)
theorem dL_law_303 : decode cL_law 303 = .ok (.iload_n 3, 1) := dk_29 (by decide +kernel)
theorem dL_law_304 : decode cL_law 304 = .ok (.iconst 2, 1) := dk_5 (by decide +kernel)
theorem dL_law_305 : decode cL_law 305 = .ok (.iadd, 1) := dk_96 (by decide +kernel)
theorem dL_law_306 : decode cL_law 306 = .ok (.iaload, 1) := dk_46 (by decide +kernel)
theorem dL_law_307 : decode cL_law 307 = .ok (.aload_n 0, 1) := dk_42 (by decide +kernel)
theorem dL_law_308 : decode cL_law 308 = .ok (.iload_n 3, 1) := dk_29 (by decide +kernel)
theorem dL_law_309 : decode cL_law 309 = .ok (.iconst 3, 1) := dk_6 (by decide +kernel)
theorem dL_law_310 : decode cL_law 310 = .ok (.iadd, 1) := dk_96 (by decide +kernel)
theorem dL_law_311 : decode cL_law 311 = .ok (.iaload, 1) := dk_46 (by decide +kernel)
theorem dL_law_312 : decode cL_law 312 = .ok (.invokevirtual 33, 3) := dk_182 (by decide +kernel)
theorem dL_law_315 : decode cL_law 315 = .ok (.pop, 1) := dk_87 (by decide +kernel)
theorem dL_law_316 : decode cL_law 316 = .ok (.aload_n 2, 1) := dk_44 (by decide +kernel)
theorem dL_law_317 : decode cL_law 317 = .ok (.aload_n 0, 1) := dk_42 (by decide +kernel)
theorem dL_law_318 : decode cL_law 318 = .ok (.iload_n 3, 1) := dk_29 (by decide +kernel)
theorem dL_law_319 : decode cL_law 319 = .ok (.iconst 1, 1) := dk_4 (by decide +kernel)
theorem dL_law_320 : decode cL_law 320 = .ok (.iadd, 1) := dk_96 (by decide +kernel)
theorem dL_law_321 : decode cL_law 321 = .ok (.iaload, 1) := dk_46 (by decide +kernel)
theorem dL_law_322 : decode cL_law 322 = .ok (.aload_n 0, 1) := dk_42 (by decide +kernel)
theorem dL_law_323 : decode cL_law 323 = .ok (.iload_n 3, 1) := dk_29 (by decide +kernel)
theorem dL_law_324 : decode cL_law 324 = .ok (.iconst 2, 1) := dk_5 (by decide +kernel)
theorem dL_law_325 : decode cL_law 325 = .ok (.iadd, 1) := dk_96 (by decide +kernel)
theorem dL_law_326 : decode cL_law 326 = .ok (.iaload, 1) := dk_46 (by decide +kernel)
theorem dL_law_327 : decode cL_law 327 = .ok (.aload_n 0, 1) := dk_42 (by decide +kernel)
theorem dL_law_328 : decode cL_law 328 = .ok (.iload_n 3, 1) := dk_29 (by decide +kernel)
theorem dL_law_329 : decode cL_law 329 = .ok (.iconst 3, 1) := dk_6 (by decide +kernel)
theorem dL_law_330 : decode cL_law 330 = .ok (.iadd, 1) := dk_96 (by decide +kernel)
theorem dL_law_331 : decode cL_law 331 = .ok (.iaload, 1) := dk_46 (by decide +kernel)
theorem dL_law_332 : decode cL_law 332 = .ok (.invokevirtual 36, 3) := dk_182 (by decide +kernel)
theorem dL_law_335 : decode cL_law 335 = .ok (.pop, 1) := dk_87 (by decide +kernel)
theorem dL_law_336 : decode cL_law 336 = .ok (.goto 678, 3) := dk_167 (by decide +kernel)
theorem dL_law_339 : decode cL_law 339 = .ok (.aload_n 1, 1) := dk_43 (by decide +kernel)
theorem dL_law_340 : decode cL_law 340 = .ok (.aload_n 0, 1) := dk_42 (by decide +kernel)
theorem dL_law_341 : decode cL_law 341 = .ok (.iload_n 3, 1) := dk_29 (by decide +kernel)
theorem dL_law_342 : decode cL_law 342 = .ok (.iconst 1, 1) := dk_4 (by decide +kernel)
theorem dL_law_343 : decode cL_law 343 = .ok (.iadd, 1) := dk_96 (by decide +kernel)
theorem dL_law_344 : decode cL_law 344 = .ok (.iaload, 1) := dk_46 (by decide +kernel)
theorem dL_law_345 : decode cL_law 345 = .ok (.aload_n 0, 1) := dk_42 (by decide +kernel)
theorem dL_law_346 : decode cL_law 346 = .ok (.iload_n 3, 1) := dk_29 (by decide +kernel)
theorem dL_law_347 : decode cL_law 347 = .ok (.iconst 2, 1) := dk_5 (by decide +kernel)
theorem dL_law_348 : decode cL_law 348 = .ok (.iadd, 1) := dk_96 (by decide +kernel)
theorem dL_law_349 : decode cL_law 349 = .ok (.iaload, 1) := dk_46 (by decide +kernel)
theorem dL_law_350 : decode cL_law 350 = .ok (.invokevirtual 37, 3) := dk_182 (by decide +kernel)
theorem dL_law_353 : decode cL_law 353 = .ok (.pop, 1) := dk_87 (by decide +kernel)
theorem dL_law_354 : decode cL_law 354 = .ok (.aload_n 2, 1) := dk_44 (by decide +kernel)
theorem dL_law_355 : decode cL_law 355 = .ok (.aload_n 0, 1) := dk_42 (by decide +kernel)
theorem dL_law_356 : decode cL_law 356 = .ok (.iload_n 3, 1) := dk_29 (by decide +kernel)
theorem dL_law_357 : decode cL_law 357 = .ok (.iconst 1, 1) := dk_4 (by decide +kernel)
theorem dL_law_358 : decode cL_law 358 = .ok (.iadd, 1) := dk_96 (by decide +kernel)
theorem dL_law_359 : decode cL_law 359 = .ok (.iaload, 1) := dk_46 (by decide +kernel)
theorem dL_law_360 : decode cL_law 360 = .ok (.aload_n 0, 1) := dk_42 (by decide +kernel)
theorem dL_law_361 : decode cL_law 361 = .ok (.iload_n 3, 1) := dk_29 (by decide +kernel)
theorem dL_law_362 : decode cL_law 362 = .ok (.iconst 2, 1) := dk_5 (by decide +kernel)
theorem dL_law_363 : decode cL_law 363 = .ok (.iadd, 1) := dk_96 (by decide +kernel)
theorem dL_law_364 : decode cL_law 364 = .ok (.iaload, 1) := dk_46 (by decide +kernel)
theorem dL_law_365 : decode cL_law 365 = .ok (.invokevirtual 40, 3) := dk_182 (by decide +kernel)
theorem dL_law_368 : decode cL_law 368 = .ok (.pop, 1) := dk_87 (by decide +kernel)
theorem dL_law_369 : decode cL_law 369 = .ok (.goto 645, 3) := dk_167 (by decide +kernel)
theorem dL_law_372 : decode cL_law 372 = .ok (.aload_n 1, 1) := dk_43 (by decide +kernel)
theorem dL_law_373 : decode cL_law 373 = .ok (.aload_n 0, 1) := dk_42 (by decide +kernel)
theorem dL_law_374 : decode cL_law 374 = .ok (.iload_n 3, 1) := dk_29 (by decide +kernel)
theorem dL_law_375 : decode cL_law 375 = .ok (.iconst 1, 1) := dk_4 (by decide +kernel)
theorem dL_law_376 : decode cL_law 376 = .ok (.iadd, 1) := dk_96 (by decide +kernel)
theorem dL_law_377 : decode cL_law 377 = .ok (.iaload, 1) := dk_46 (by decide +kernel)
theorem dL_law_378 : decode cL_law 378 = .ok (.invokevirtual 41, 3) := dk_182 (by decide +kernel)
theorem dL_law_381 : decode cL_law 381 = .ok (.pop, 1) := dk_87 (by decide +kernel)
theorem dL_law_382 : decode cL_law 382 = .ok (.aload_n 2, 1) := dk_44 (by decide +kernel)
theorem dL_law_383 : decode cL_law 383 = .ok (.aload_n 0, 1) := dk_42 (by decide +kernel)
theorem dL_law_384 : decode cL_law 384 = .ok (.iload_n 3, 1) := dk_29 (by decide +kernel)
theorem dL_law_385 : decode cL_law 385 = .ok (.iconst 1, 1) := dk_4 (by decide +kernel)
theorem dL_law_386 : decode cL_law 386 = .ok (.iadd, 1) := dk_96 (by decide +kernel)
theorem dL_law_387 : decode cL_law 387 = .ok (.iaload, 1) := dk_46 (by decide +kernel)
theorem dL_law_388 : decode cL_law 388 = .ok (.invokevirtual 45, 3) := dk_182 (by decide +kernel)
theorem dL_law_391 : decode cL_law 391 = .ok (.pop, 1) := dk_87 (by decide +kernel)
theorem dL_law_392 : decode cL_law 392 = .ok (.goto 622, 3) := dk_167 (by decide +kernel)
theorem dL_law_395 : decode cL_law 395 = .ok (.aload_n 1, 1) := dk_43 (by decide +kernel)
theorem dL_law_396 : decode cL_law 396 = .ok (.aload_n 0, 1) := dk_42 (by decide +kernel)
theorem dL_law_397 : decode cL_law 397 = .ok (.iload_n 3, 1) := dk_29 (by decide +kernel)
theorem dL_law_398 : decode cL_law 398 = .ok (.iconst 1, 1) := dk_4 (by decide +kernel)
theorem dL_law_399 : decode cL_law 399 = .ok (.iadd, 1) := dk_96 (by decide +kernel)
theorem dL_law_400 : decode cL_law 400 = .ok (.iaload, 1) := dk_46 (by decide +kernel)
theorem dL_law_401 : decode cL_law 401 = .ok (.invokevirtual 46, 3) := dk_182 (by decide +kernel)
theorem dL_law_404 : decode cL_law 404 = .ok (.pop, 1) := dk_87 (by decide +kernel)
theorem dL_law_405 : decode cL_law 405 = .ok (.aload_n 2, 1) := dk_44 (by decide +kernel)
theorem dL_law_406 : decode cL_law 406 = .ok (.aload_n 0, 1) := dk_42 (by decide +kernel)
theorem dL_law_407 : decode cL_law 407 = .ok (.iload_n 3, 1) := dk_29 (by decide +kernel)
theorem dL_law_408 : decode cL_law 408 = .ok (.iconst 1, 1) := dk_4 (by decide +kernel)
theorem dL_law_409 : decode cL_law 409 = .ok (.iadd, 1) := dk_96 (by decide +kernel)
theorem dL_law_410 : decode cL_law 410 = .ok (.iaload, 1) := dk_46 (by decide +kernel)
theorem dL_law_411 : decode cL_law 411 = .ok (.invokevirtual 49, 3) := dk_182 (by decide +kernel)
theorem dL_law_414 : decode cL_law 414 = .ok (.pop, 1) := dk_87 (by decide +kernel)
theorem dL_law_415 : decode cL_law 415 = .ok (.goto 599, 3) := dk_167 (by decide +kernel)
theorem dL_law_418 : decode cL_law 418 = .ok (.aload_n 1, 1) := dk_43 (by decide +kernel)
theorem dL_law_419 : decode cL_law 419 = .ok (.aload_n 0, 1) := dk_42 (by decide +kernel)
theorem dL_law_420 : decode cL_law 420 = .ok (.iload_n 3, 1) := dk_29 (by decide +kernel)
theorem dL_law_421 : decode cL_law 421 = .ok (.iconst 1, 1) := dk_4 (by decide +kernel)
theorem dL_law_422 : decode cL_law 422 = .ok (.iadd, 1) := dk_96 (by decide +kernel)
theorem dL_law_423 : decode cL_law 423 = .ok (.iaload, 1) := dk_46 (by decide +kernel)
theorem dL_law_424 : decode cL_law 424 = .ok (.invokevirtual 50, 3) := dk_182 (by decide +kernel)
theorem dL_law_427 : decode cL_law 427 = .ok (.pop, 1) := dk_87 (by decide +kernel)
theorem dL_law_428 : decode cL_law 428 = .ok (.aload_n 2, 1) := dk_44 (by decide +kernel)
theorem dL_law_429 : decode cL_law 429 = .ok (.aload_n 0, 1) := dk_42 (by decide +kernel)
theorem dL_law_430 : decode cL_law 430 = .ok (.iload_n 3, 1) := dk_29 (by decide +kernel)
theorem dL_law_431 : decode cL_law 431 = .ok (.iconst 1, 1) := dk_4 (by decide +kernel)
theorem dL_law_432 : decode cL_law 432 = .ok (.iadd, 1) := dk_96 (by decide +kernel)
theorem dL_law_433 : decode cL_law 433 = .ok (.iaload, 1) := dk_46 (by decide +kernel)
theorem dL_law_434 : decode cL_law 434 = .ok (.invokevirtual 53, 3) := dk_182 (by decide +kernel)
theorem dL_law_437 : decode cL_law 437 = .ok (.pop, 1) := dk_87 (by decide +kernel)
theorem dL_law_438 : decode cL_law 438 = .ok (.goto 576, 3) := dk_167 (by decide +kernel)
theorem dL_law_441 : decode cL_law 441 = .ok (.aload_n 1, 1) := dk_43 (by decide +kernel)
theorem dL_law_442 : decode cL_law 442 = .ok (.aload_n 0, 1) := dk_42 (by decide +kernel)
theorem dL_law_443 : decode cL_law 443 = .ok (.iload_n 3, 1) := dk_29 (by decide +kernel)
theorem dL_law_444 : decode cL_law 444 = .ok (.iconst 1, 1) := dk_4 (by decide +kernel)
theorem dL_law_445 : decode cL_law 445 = .ok (.iadd, 1) := dk_96 (by decide +kernel)
theorem dL_law_446 : decode cL_law 446 = .ok (.iaload, 1) := dk_46 (by decide +kernel)
theorem dL_law_447 : decode cL_law 447 = .ok (.invokevirtual 54, 3) := dk_182 (by decide +kernel)
theorem dL_law_450 : decode cL_law 450 = .ok (.pop, 1) := dk_87 (by decide +kernel)
theorem dL_law_451 : decode cL_law 451 = .ok (.aload_n 2, 1) := dk_44 (by decide +kernel)
theorem dL_law_452 : decode cL_law 452 = .ok (.aload_n 0, 1) := dk_42 (by decide +kernel)
theorem dL_law_453 : decode cL_law 453 = .ok (.iload_n 3, 1) := dk_29 (by decide +kernel)
theorem dL_law_454 : decode cL_law 454 = .ok (.iconst 1, 1) := dk_4 (by decide +kernel)
theorem dL_law_455 : decode cL_law 455 = .ok (.iadd, 1) := dk_96 (by decide +kernel)
theorem dL_law_456 : decode cL_law 456 = .ok (.iaload, 1) := dk_46 (by decide +kernel)
theorem dL_law_457 : decode cL_law 457 = .ok (.invokevirtual 57, 3) := dk_182 (by decide +kernel)
theorem dL_law_460 : decode cL_law 460 = .ok (.pop, 1) := dk_87 (by decide +kernel)
theorem dL_law_461 : decode cL_law 461 = .ok (.goto 553, 3) := dk_167 (by decide +kernel)
theorem dL_law_464 : decode cL_law 464 = .ok (.aload_n 1, 1) := dk_43 (by decide +kernel)
theorem dL_law_465 : decode cL_law 465 = .ok (.aload_n 0, 1) := dk_42 (by decide +kernel)
theorem dL_law_466 : decode cL_law 466 = .ok (.iload_n 3, 1) := dk_29 (by decide +kernel)
theorem dL_law_467 : decode cL_law 467 = .ok (.iconst 1, 1) := dk_4 (by decide +kernel)
theorem dL_law_468 : decode cL_law 468 = .ok (.iadd, 1) := dk_96 (by decide +kernel)
theorem dL_law_469 : decode cL_law 469 = .ok (.iaload, 1) := dk_46 (by decide +kernel)
theorem dL_law_470 : decode cL_law 470 = .ok (.aload_n 0, 1) := dk_42 (by decide +kernel)
theorem dL_law_471 : decode cL_law 471 = .ok (.iload_n 3, 1) := dk_29 (by decide +kernel)
theorem dL_law_472 : decode cL_law 472 = .ok (.iconst 2, 1) := dk_5 (by decide +kernel)
theorem dL_law_473 : decode cL_law 473 = .ok (.iadd, 1) := dk_96 (by decide +kernel)
theorem dL_law_474 : decode cL_law 474 = .ok (.iaload, 1) := dk_46 (by decide +kernel)
theorem dL_law_475 : decode cL_law 475 = .ok (.aload_n 0, 1) := dk_42 (by decide +kernel)
theorem dL_law_476 : decode cL_law 476 = .ok (.iload_n 3, 1) := dk_29 (by decide +kernel)
theorem dL_law_477 : decode cL_law 477 = .ok (.iconst 3, 1) := dk_6 (by decide +kernel)
theorem dL_law_478 : decode cL_law 478 = .ok (.iadd, 1) := dk_96 (by decide +kernel)
theorem dL_law_479 : decode cL_law 479 = .ok (.iaload, 1) := dk_46 (by decide +kernel)
theorem dL_law_480 : decode cL_law 480 = .ok (.aload_n 0, 1) := dk_42 (by decide +kernel)
theorem dL_law_481 : decode cL_law 481 = .ok (.iload_n 3, 1) := dk_29 (by decide +kernel)
theorem dL_law_482 : decode cL_law 482 = .ok (.iconst 4, 1) := dk_7 (by decide +kernel)
theorem dL_law_483 : decode cL_law 483 = .ok (.iadd, 1) := dk_96 (by decide +kernel)
theorem dL_law_484 : decode cL_law 484 = .ok (.iaload, 1) := dk_46 (by decide +kernel)
theorem dL_law_485 : decode cL_law 485 = .ok (.aload_n 0, 1) := dk_42 (by decide +kernel)
theorem dL_law_486 : decode cL_law 486 = .ok (.iload_n 3, 1) := dk_29 (by decide +kernel)
theorem dL_law_487 : decode cL_law 487 = .ok (.iconst 5, 1) := dk_8 (by decide +kernel)
theorem dL_law_488 : decode cL_law 488 = .ok (.iadd, 1) := dk_96 (by decide +kernel)
theorem dL_law_489 : decode cL_law 489 = .ok (.iaload, 1) := dk_46 (by decide +kernel)
theorem dL_law_490 : decode cL_law 490 = .ok (.invokevirtual 58, 3) := dk_182 (by decide +kernel)
theorem dL_law_493 : decode cL_law 493 = .ok (.pop, 1) := dk_87 (by decide +kernel)
theorem dL_law_494 : decode cL_law 494 = .ok (.aload_n 2, 1) := dk_44 (by decide +kernel)
theorem dL_law_495 : decode cL_law 495 = .ok (.aload_n 0, 1) := dk_42 (by decide +kernel)
theorem dL_law_496 : decode cL_law 496 = .ok (.iload_n 3, 1) := dk_29 (by decide +kernel)
theorem dL_law_497 : decode cL_law 497 = .ok (.iconst 1, 1) := dk_4 (by decide +kernel)
theorem dL_law_498 : decode cL_law 498 = .ok (.iadd, 1) := dk_96 (by decide +kernel)
theorem dL_law_499 : decode cL_law 499 = .ok (.iaload, 1) := dk_46 (by decide +kernel)
theorem dL_law_500 : decode cL_law 500 = .ok (.aload_n 0, 1) := dk_42 (by decide +kernel)
theorem dL_law_501 : decode cL_law 501 = .ok (.iload_n 3, 1) := dk_29 (by decide +kernel)
theorem dL_law_502 : decode cL_law 502 = .ok (.iconst 2, 1) := dk_5 (by decide +kernel)
theorem dL_law_503 : decode cL_law 503 = .ok (.iadd, 1) := dk_96 (by decide +kernel)
theorem dL_law_504 : decode cL_law 504 = .ok (.iaload, 1) := dk_46 (by decide +kernel)
theorem dL_law_505 : decode cL_law 505 = .ok (.aload_n 0, 1) := dk_42 (by decide +kernel)
theorem dL_law_506 : decode cL_law 506 = .ok (.iload_n 3, 1) := dk_29 (by decide +kernel)
theorem dL_law_507 : decode cL_law 507 = .ok (.iconst 3, 1) := dk_6 (by decide +kernel)
theorem dL_law_508 : decode cL_law 508 = .ok (.iadd, 1) := dk_96 (by decide +kernel)
theorem dL_law_509 : decode cL_law 509 = .ok (.iaload, 1) := dk_46 (by decide +kernel)
theorem dL_law_510 : decode cL_law 510 = .ok (.aload_n 0, 1) := dk_42 (by decide +kernel)
theorem dL_law_511 : decode cL_law 511 = .ok (.iload_n 3, 1) := dk_29 (by decide +kernel)
theorem dL_law_512 : decode cL_law 512 = .ok (.iconst 4, 1) := dk_7 (by decide +kernel)
theorem dL_law_513 : decode cL_law 513 = .ok (.iadd, 1) := dk_96 (by decide +kernel)
theorem dL_law_514 : decode cL_law 514 = .ok (.iaload, 1) := dk_46 (by decide +kernel)
theorem dL_law_515 : decode cL_law 515 = .ok (.aload_n 0, 1) := dk_42 (by decide +kernel)
theorem dL_law_516 : decode cL_law 516 = .ok (.iload_n 3, 1) := dk_29 (by decide +kernel)
theorem dL_law_517 : decode cL_law 517 = .ok (.iconst 5, 1) := dk_8 (by decide +kernel)
theorem dL_law_518 : decode cL_law 518 = .ok (.iadd, 1) := dk_96 (by decide +kernel)
theorem dL_law_519 : decode cL_law 519 = .ok (.iaload, 1) := dk_46 (by decide +kernel)
theorem dL_law_520 : decode cL_law 520 = .ok (.invokevirtual 62, 3) := dk_182 (by decide +kernel)
theorem dL_law_523 : decode cL_law 523 = .ok (.pop, 1) := dk_87 (by decide +kernel)
theorem dL_law_524 : decode cL_law 524 = .ok (.goto 490, 3) := dk_167 (by decide +kernel)
theorem dL_law_527 : decode cL_law 527 = .ok (.aload_n 1, 1) := dk_43 (by decide +kernel)
theorem dL_law_528 : decode cL_law 528 = .ok (.aload_n 0, 1) := dk_42 (by decide +kernel)
theorem dL_law_529 : decode cL_law 529 = .ok (.iload_n 3, 1) := dk_29 (by decide +kernel)
theorem dL_law_530 : decode cL_law 530 = .ok (.iconst 1, 1) := dk_4 (by decide +kernel)
theorem dL_law_531 : decode cL_law 531 = .ok (.iadd, 1) := dk_96 (by decide +kernel)
theorem dL_law_532 : decode cL_law 532 = .ok (.iaload, 1) := dk_46 (by decide +kernel)
theorem dL_law_533 : decode cL_law 533 = .ok (.invokevirtual 63, 3) := dk_182 (by decide +kernel)
theorem dL_law_536 : decode cL_law 536 = .ok (.pop, 1) := dk_87 (by decide +kernel)
theorem dL_law_537 : decode cL_law 537 = .ok (.aload_n 2, 1) := dk_44 (by decide +kernel)
theorem dL_law_538 : decode cL_law 538 = .ok (.aload_n 0, 1) := dk_42 (by decide +kernel)
theorem dL_law_539 : decode cL_law 539 = .ok (.iload_n 3, 1) := dk_29 (by decide +kernel)
theorem dL_law_540 : decode cL_law 540 = .ok (.iconst 1, 1) := dk_4 (by decide +kernel)
theorem dL_law_541 : decode cL_law 541 = .ok (.iadd, 1) := dk_96 (by decide +kernel)
theorem dL_law_542 : decode cL_law 542 = .ok (.iaload, 1) := dk_46 (by decide +kernel)
theorem dL_law_543 : decode cL_law 543 = .ok (.invokevirtual 66, 3) := dk_182 (by decide +kernel)
theorem dL_law_546 : decode cL_law 546 = .ok (.pop, 1) := dk_87 (by decide +kernel)
theorem dL_law_547 : decode cL_law 547 = .ok (.goto 467, 3) := dk_167 (by decide +kernel)
theorem dL_law_550 : decode cL_law 550 = .ok (.aload_n 1, 1) := dk_43 (by decide +kernel)
theorem dL_law_551 : decode cL_law 551 = .ok (.invokevirtual 67, 3) := dk_182 (by decide +kernel)
theorem dL_law_554 : decode cL_law 554 = .ok (.pop, 1) := dk_87 (by decide +kernel)
theorem dL_law_555 : decode cL_law 555 = .ok (.aload_n 2, 1) := dk_44 (by decide +kernel)
theorem dL_law_556 : decode cL_law 556 = .ok (.invokevirtual 71, 3) := dk_182 (by decide +kernel)
theorem dL_law_559 : decode cL_law 559 = .ok (.pop, 1) := dk_87 (by decide +kernel)
theorem dL_law_560 : decode cL_law 560 = .ok (.goto 454, 3) := dk_167 (by decide +kernel)
theorem dL_law_563 : decode cL_law 563 = .ok (.aload_n 1, 1) := dk_43 (by decide +kernel)
theorem dL_law_564 : decode cL_law 564 = .ok (.aload_n 0, 1) := dk_42 (by decide +kernel)
theorem dL_law_565 : decode cL_law 565 = .ok (.iload_n 3, 1) := dk_29 (by decide +kernel)
theorem dL_law_566 : decode cL_law 566 = .ok (.iconst 1, 1) := dk_4 (by decide +kernel)
theorem dL_law_567 : decode cL_law 567 = .ok (.iadd, 1) := dk_96 (by decide +kernel)
theorem dL_law_568 : decode cL_law 568 = .ok (.iaload, 1) := dk_46 (by decide +kernel)
theorem dL_law_569 : decode cL_law 569 = .ok (.invokevirtual 72, 3) := dk_182 (by decide +kernel)
theorem dL_law_572 : decode cL_law 572 = .ok (.pop, 1) := dk_87 (by decide +kernel)
theorem dL_law_573 : decode cL_law 573 = .ok (.aload_n 2, 1) := dk_44 (by decide +kernel)
theorem dL_law_574 : decode cL_law 574 = .ok (.aload_n 0, 1) := dk_42 (by decide +kernel)
theorem dL_law_575 : decode cL_law 575 = .ok (.iload_n 3, 1) := dk_29 (by decide +kernel)
theorem dL_law_576 : decode cL_law 576 = .ok (.iconst 1, 1) := dk_4 (by decide +kernel)
theorem dL_law_577 : decode cL_law 577 = .ok (.iadd, 1) := dk_96 (by decide +kernel)
theorem dL_law_578 : decode cL_law 578 = .ok (.iaload, 1) := dk_46 (by decide +kernel)
theorem dL_law_579 : decode cL_law 579 = .ok (.invokevirtual 75, 3) := dk_182 (by decide +kernel)
theorem dL_law_582 : decode cL_law 582 = .ok (.pop, 1) := dk_87 (by decide +kernel)
theorem dL_law_583 : decode cL_law 583 = .ok (.goto 431, 3) := dk_167 (by decide +kernel)
theorem dL_law_586 : decode cL_law 586 = .ok (.aload_n 1, 1) := dk_43 (by decide +kernel)
theorem dL_law_587 : decode cL_law 587 = .ok (.aload_n 0, 1) := dk_42 (by decide +kernel)
theorem dL_law_588 : decode cL_law 588 = .ok (.iload_n 3, 1) := dk_29 (by decide +kernel)
theorem dL_law_589 : decode cL_law 589 = .ok (.iconst 1, 1) := dk_4 (by decide +kernel)
theorem dL_law_590 : decode cL_law 590 = .ok (.iadd, 1) := dk_96 (by decide +kernel)
theorem dL_law_591 : decode cL_law 591 = .ok (.iaload, 1) := dk_46 (by decide +kernel)
theorem dL_law_592 : decode cL_law 592 = .ok (.invokevirtual 76, 3) := dk_182 (by decide +kernel)
theorem dL_law_595 : decode cL_law 595 = .ok (.pop, 1) := dk_87 (by decide +kernel)
theorem dL_law_596 : decode cL_law 596 = .ok (.aload_n 2, 1) := dk_44 (by decide +kernel)
theorem dL_law_597 : decode cL_law 597 = .ok (.aload_n 0, 1) := dk_42 (by decide +kernel)
theorem dL_law_598 : decode cL_law 598 = .ok (.iload_n 3, 1) := dk_29 (by decide +kernel)
theorem dL_law_599 : decode cL_law 599 = .ok (.iconst 1, 1) := dk_4 (by decide +kernel)
theorem dL_law_600 : decode cL_law 600 = .ok (.iadd, 1) := dk_96 (by decide +kernel)
theorem dL_law_601 : decode cL_law 601 = .ok (.iaload, 1) := dk_46 (by decide +kernel)
theorem dL_law_602 : decode cL_law 602 = .ok (.invokevirtual 79, 3) := dk_182 (by decide +kernel)
theorem dL_law_605 : decode cL_law 605 = .ok (.pop, 1) := dk_87 (by decide +kernel)
theorem dL_law_606 : decode cL_law 606 = .ok (.goto 408, 3) := dk_167 (by decide +kernel)
theorem dL_law_609 : decode cL_law 609 = .ok (.aload_n 1, 1) := dk_43 (by decide +kernel)
theorem dL_law_610 : decode cL_law 610 = .ok (.aload_n 0, 1) := dk_42 (by decide +kernel)
theorem dL_law_611 : decode cL_law 611 = .ok (.iload_n 3, 1) := dk_29 (by decide +kernel)
theorem dL_law_612 : decode cL_law 612 = .ok (.iconst 1, 1) := dk_4 (by decide +kernel)
theorem dL_law_613 : decode cL_law 613 = .ok (.iadd, 1) := dk_96 (by decide +kernel)
theorem dL_law_614 : decode cL_law 614 = .ok (.iaload, 1) := dk_46 (by decide +kernel)
theorem dL_law_615 : decode cL_law 615 = .ok (.invokevirtual 80, 3) := dk_182 (by decide +kernel)
theorem dL_law_618 : decode cL_law 618 = .ok (.pop, 1) := dk_87 (by decide +kernel)
theorem dL_law_619 : decode cL_law 619 = .ok (.aload_n 2, 1) := dk_44 (by decide +kernel)
theorem dL_law_620 : decode cL_law 620 = .ok (.aload_n 0, 1) := dk_42 (by decide +kernel)
theorem dL_law_621 : decode cL_law 621 = .ok (.iload_n 3, 1) := dk_29 (by decide +kernel)
theorem dL_law_622 : decode cL_law 622 = .ok (.iconst 1, 1) := dk_4 (by decide +kernel)
theorem dL_law_623 : decode cL_law 623 = .ok (.iadd, 1) := dk_96 (by decide +kernel)
theorem dL_law_624 : decode cL_law 624 = .ok (.iaload, 1) := dk_46 (by decide +kernel)
theorem dL_law_625 : decode cL_law 625 = .ok (.invokevirtual 83, 3) := dk_182 (by decide +kernel)
theorem dL_law_628 : decode cL_law 628 = .ok (.pop, 1) := dk_87 (by decide +kernel)
theorem dL_law_629 : decode cL_law 629 = .ok (.goto 385, 3) := dk_167 (by decide +kernel)
theorem dL_law_632 : decode cL_law 632 = .ok (.aload_n 1, 1) := dk_43 (by decide +kernel)
theorem dL_law_633 : decode cL_law 633 = .ok (.invokevirtual 84, 3) := dk_182 (by decide +kernel)
theorem dL_law_636 : decode cL_law 636 = .ok (.pop, 1) := dk_87 (by decide +kernel)
theorem dL_law_637 : decode cL_law 637 = .ok (.aload_n 2, 1) := dk_44 (by decide +kernel)
theorem dL_law_638 : decode cL_law 638 = .ok (.invokevirtual 87, 3) := dk_182 (by decide +kernel)
theorem dL_law_641 : decode cL_law 641 = .ok (.pop, 1) := dk_87 (by decide +kernel)
theorem dL_law_642 : decode cL_law 642 = .ok (.goto 372, 3) := dk_167 (by decide +kernel)
theorem dL_law_645 : decode cL_law 645 = .ok (.aload_n 1, 1) := dk_43 (by decide +kernel)
theorem dL_law_646 : decode cL_law 646 = .ok (.aload_n 0, 1) := dk_42 (by decide +kernel)
theorem dL_law_647 : decode cL_law 647 = .ok (.iload_n 3, 1) := dk_29 (by decide +kernel)
theorem dL_law_648 : decode cL_law 648 = .ok (.iconst 1, 1) := dk_4 (by decide +kernel)
theorem dL_law_649 : decode cL_law 649 = .ok (.iadd, 1) := dk_96 (by decide +kernel)
theorem dL_law_650 : decode cL_law 650 = .ok (.iaload, 1) := dk_46 (by decide +kernel)
theorem dL_law_651 : decode cL_law 651 = .ok (.aload_n 0, 1) := dk_42 (by decide +kernel)
theorem dL_law_652 : decode cL_law 652 = .ok (.iload_n 3, 1) := dk_29 (by decide +kernel)
theorem dL_law_653 : decode cL_law 653 = .ok (.iconst 2, 1) := dk_5 (by decide +kernel)
theorem dL_law_654 : decode cL_law 654 = .ok (.iadd, 1) := dk_96 (by decide +kernel)
theorem dL_law_655 : decode cL_law 655 = .ok (.iaload, 1) := dk_46 (by decide +kernel)
theorem dL_law_656 : decode cL_law 656 = .ok (.invokevirtual 88, 3) := dk_182 (by decide +kernel)
theorem dL_law_659 : decode cL_law 659 = .ok (.pop, 1) := dk_87 (by decide +kernel)
theorem dL_law_660 : decode cL_law 660 = .ok (.aload_n 2, 1) := dk_44 (by decide +kernel)
theorem dL_law_661 : decode cL_law 661 = .ok (.aload_n 0, 1) := dk_42 (by decide +kernel)
theorem dL_law_662 : decode cL_law 662 = .ok (.iload_n 3, 1) := dk_29 (by decide +kernel)
theorem dL_law_663 : decode cL_law 663 = .ok (.iconst 1, 1) := dk_4 (by decide +kernel)
theorem dL_law_664 : decode cL_law 664 = .ok (.iadd, 1) := dk_96 (by decide +kernel)
theorem dL_law_665 : decode cL_law 665 = .ok (.iaload, 1) := dk_46 (by decide +kernel)
theorem dL_law_666 : decode cL_law 666 = .ok (.aload_n 0, 1) := dk_42 (by decide +kernel)
theorem dL_law_667 : decode cL_law 667 = .ok (.iload_n 3, 1) := dk_29 (by decide +kernel)
theorem dL_law_668 : decode cL_law 668 = .ok (.iconst 2, 1) := dk_5 (by decide +kernel)
theorem dL_law_669 : decode cL_law 669 = .ok (.iadd, 1) := dk_96 (by decide +kernel)
theorem dL_law_670 : decode cL_law 670 = .ok (.iaload, 1) := dk_46 (by decide +kernel)
theorem dL_law_671 : decode cL_law 671 = .ok (.invokevirtual 91, 3) := dk_182 (by decide +kernel)
theorem dL_law_674 : decode cL_law 674 = .ok (.pop, 1) := dk_87 (by decide +kernel)
theorem dL_law_675 : decode cL_law 675 = .ok (.goto 339, 3) := dk_167 (by decide +kernel)
theorem dL_law_678 : decode cL_law 678 = .ok (.aload_n 1, 1) := dk_43 (by decide +kernel)
theorem dL_law_679 : decode cL_law 679 = .ok (.aload_n 0, 1) := dk_42 (by decide +kernel)
theorem dL_law_680 : decode cL_law 680 = .ok (.iload_n 3, 1) := dk_29 (by decide +kernel)
theorem dL_law_681 : decode cL_law 681 = .ok (.iconst 1, 1) := dk_4 (by decide +kernel)
theorem dL_law_682 : decode cL_law 682 = .ok (.iadd, 1) := dk_96 (by decide +kernel)
theorem dL_law_683 : decode cL_law 683 = .ok (.iaload, 1) := dk_46 (by decide +kernel)
theorem dL_law_684 : decode cL_law 684 = .ok (.aload_n 0, 1) := dk_42 (by decide +kernel)
theorem dL_law_685 : decode cL_law 685 = .ok (.iload_n 3, 1) := dk_29 (by decide +kernel)
theorem dL_law_686 : decode cL_law 686 = .ok (.iconst 2, 1) := dk_5 (by decide +kernel)
theorem dL_law_687 : decode cL_law 687 = .ok (.iadd, 1) := dk_96 (by decide +kernel)
theorem dL_law_688 : decode cL_law 688 = .ok (.iaload, 1) := dk_46 (by decide +kernel)
theorem dL_law_689 : decode cL_law 689 = .ok (.aload_n 0, 1) := dk_42 (by decide +kernel)
theorem dL_law_690 : decode cL_law 690 = .ok (.iload_n 3, 1) := dk_29 (by decide +kernel)
theorem dL_law_691 : decode cL_law 691 = .ok (.iconst 3, 1) := dk_6 (by decide +kernel)
theorem dL_law_692 : decode cL_law 692 = .ok (.iadd, 1) := dk_96 (by decide +kernel)
theorem dL_law_693 : decode cL_law 693 = .ok (.iaload, 1) := dk_46 (by decide +kernel)
theorem dL_law_694 : decode cL_law 694 = .ok (.invokevirtual 92, 3) := dk_182 (by decide +kernel)
theorem dL_law_697 : decode cL_law 697 = .ok (.pop, 1) := dk_87 (by decide +kernel)
theorem dL_law_698 : decode cL_law 698 = .ok (.aload_n 2, 1) := dk_44 (by decide +kernel)
theorem dL_law_699 : decode cL_law 699 = .ok (.aload_n 0, 1) := dk_42 (by decide +kernel)
theorem dL_law_700 : decode cL_law 700 = .ok (.iload_n 3, 1) := dk_29 (by decide +kernel)
theorem dL_law_701 : decode cL_law 701 = .ok (.iconst 1, 1) := dk_4 (by decide +kernel)
theorem dL_law_702 : decode cL_law 702 = .ok (.iadd, 1) := dk_96 (by decide +kernel)
theorem dL_law_703 : decode cL_law 703 = .ok (.iaload, 1) := dk_46 (by decide +kernel)
theorem dL_law_704 : decode cL_law 704 = .ok (.aload_n 0, 1) := dk_42 (by decide +kernel)
theorem dL_law_705 : decode cL_law 705 = .ok (.iload_n 3, 1) := dk_29 (by decide +kernel)
theorem dL_law_706 : decode cL_law 706 = .ok (.iconst 2, 1) := dk_5 (by decide +kernel)
theorem dL_law_707 : decode cL_law 707 = .ok (.iadd, 1) := dk_96 (by decide +kernel)
theorem dL_law_708 : decode cL_law 708 = .ok (.iaload, 1) := dk_46 (by decide +kernel)
theorem dL_law_709 : decode cL_law 709 = .ok (.aload_n 0, 1) := dk_42 (by decide +kernel)
theorem dL_law_710 : decode cL_law 710 = .ok (.iload_n 3, 1) := dk_29 (by decide +kernel)
theorem dL_law_711 : decode cL_law 711 = .ok (.iconst 3, 1) := dk_6 (by decide +kernel)
theorem dL_law_712 : decode cL_law 712 = .ok (.iadd, 1) := dk_96 (by decide +kernel)
theorem dL_law_713 : decode cL_law 713 = .ok (.iaload, 1) := dk_46 (by decide +kernel)
theorem dL_law_714 : decode cL_law 714 = .ok (.invokevirtual 95, 3) := dk_182 (by decide +kernel)
theorem dL_law_717 : decode cL_law 717 = .ok (.pop, 1) := dk_87 (by decide +kernel)
theorem dL_law_718 : decode cL_law 718 = .ok (.goto 296, 3) := dk_167 (by decide +kernel)
theorem dL_law_721 : decode cL_law 721 = .ok (.aload_n 1, 1) := dk_43 (by decide +kernel)
theorem dL_law_722 : decode cL_law 722 = .ok (.aload_n 0, 1) := dk_42 (by decide +kernel)
theorem dL_law_723 : decode cL_law 723 = .ok (.iload_n 3, 1) := dk_29 (by decide +kernel)
theorem dL_law_724 : decode cL_law 724 = .ok (.iconst 1, 1) := dk_4 (by decide +kernel)
theorem dL_law_725 : decode cL_law 725 = .ok (.iadd, 1) := dk_96 (by decide +kernel)
theorem dL_law_726 : decode cL_law 726 = .ok (.iaload, 1) := dk_46 (by decide +kernel)
theorem dL_law_727 : decode cL_law 727 = .ok (.aload_n 0, 1) := dk_42 (by decide +kernel)
theorem dL_law_728 : decode cL_law 728 = .ok (.iload_n 3, 1) := dk_29 (by decide +kernel)
theorem dL_law_729 : decode cL_law 729 = .ok (.iconst 2, 1) := dk_5 (by decide +kernel)
theorem dL_law_730 : decode cL_law 730 = .ok (.iadd, 1) := dk_96 (by decide +kernel)
theorem dL_law_731 : decode cL_law 731 = .ok (.iaload, 1) := dk_46 (by decide +kernel)
theorem dL_law_732 : decode cL_law 732 = .ok (.invokevirtual 96, 3) := dk_182 (by decide +kernel)
theorem dL_law_735 : decode cL_law 735 = .ok (.pop, 1) := dk_87 (by decide +kernel)
theorem dL_law_736 : decode cL_law 736 = .ok (.aload_n 2, 1) := dk_44 (by decide +kernel)
theorem dL_law_737 : decode cL_law 737 = .ok (.aload_n 0, 1) := dk_42 (by decide +kernel)
theorem dL_law_738 : decode cL_law 738 = .ok (.iload_n 3, 1) := dk_29 (by decide +kernel)
theorem dL_law_739 : decode cL_law 739 = .ok (.iconst 1, 1) := dk_4 (by decide +kernel)
theorem dL_law_740 : decode cL_law 740 = .ok (.iadd, 1) := dk_96 (by decide +kernel)
theorem dL_law_741 : decode cL_law 741 = .ok (.iaload, 1) := dk_46 (by decide +kernel)
theorem dL_law_742 : decode cL_law 742 = .ok (.aload_n 0, 1) := dk_42 (by decide +kernel)
theorem dL_law_743 : decode cL_law 743 = .ok (.iload_n 3, 1) := dk_29 (by decide +kernel)
theorem dL_law_744 : decode cL_law 744 = .ok (.iconst 2, 1) := dk_5 (by decide +kernel)
theorem dL_law_745 : decode cL_law 745 = .ok (.iadd, 1) := dk_96 (by decide +kernel)
theorem dL_law_746 : decode cL_law 746 = .ok (.iaload, 1) := dk_46 (by decide +kernel)
theorem dL_law_747 : decode cL_law 747 = .ok (.invokevirtual 99, 3) := dk_182 (by decide +kernel)
theorem dL_law_750 : decode cL_law 750 = .ok (.pop, 1) := dk_87 (by decide +kernel)
theorem dL_law_751 : decode cL_law 751 = .ok (.goto 263, 3) := dk_167 (by decide +kernel)
theorem dL_law_754 : decode cL_law 754 = .ok (.aload_n 1, 1) := dk_43 (by decide +kernel)
theorem dL_law_755 : decode cL_law 755 = .ok (.aload_n 0, 1) := dk_42 (by decide +kernel)
theorem dL_law_756 : decode cL_law 756 = .ok (.iload_n 3, 1) := dk_29 (by decide +kernel)
theorem dL_law_757 : decode cL_law 757 = .ok (.iconst 1, 1) := dk_4 (by decide +kernel)
theorem dL_law_758 : decode cL_law 758 = .ok (.iadd, 1) := dk_96 (by decide +kernel)
theorem dL_law_759 : decode cL_law 759 = .ok (.iaload, 1) := dk_46 (by decide +kernel)
theorem dL_law_760 : decode cL_law 760 = .ok (.aload_n 0, 1) := dk_42 (by decide +kernel)
theorem dL_law_761 : decode cL_law 761 = .ok (.iload_n 3, 1) := dk_29 (by decide +kernel)
theorem dL_law_762 : decode cL_law 762 = .ok (.iconst 2, 1) := dk_5 (by decide +kernel)
theorem dL_law_763 : decode cL_law 763 = .ok (.iadd, 1) := dk_96 (by decide +kernel)
theorem dL_law_764 : decode cL_law 764 = .ok (.iaload, 1) := dk_46 (by decide +kernel)
theorem dL_law_765 : decode cL_law 765 = .ok (.ifCond .eq 7, 3) := dk_153 (by decide +kernel)
theorem dL_law_768 : decode cL_law 768 = .ok (.iconst 1, 1) := dk_4 (by decide +kernel)
theorem dL_law_769 : decode cL_law 769 = .ok (.goto 4, 3) := dk_167 (by decide +kernel)
theorem dL_law_772 : decode cL_law 772 = .ok (.iconst 0, 1) := dk_3 (by decide +kernel)
theorem dL_law_773 : decode cL_law 773 = .ok (.invokevirtual 100, 3) := dk_182 (by decide +kernel)
theorem dL_law_776 : decode cL_law 776 = .ok (.pop, 1) := dk_87 (by decide +kernel)
theorem dL_law_777 : decode cL_law 777 = .ok (.aload_n 2, 1) := dk_44 (by decide +kernel)
theorem dL_law_778 : decode cL_law 778 = .ok (.aload_n 0, 1) := dk_42 (by decide +kernel)
theorem dL_law_779 : decode cL_law 779 = .ok (.iload_n 3, 1) := dk_29 (by decide +kernel)
theorem dL_law_780 : decode cL_law 780 = .ok (.iconst 1, 1) := dk_4 (by decide +kernel)
theorem dL_law_781 : decode cL_law 781 = .ok (.iadd, 1) := dk_96 (by decide +kernel)
theorem dL_law_782 : decode cL_law 782 = .ok (.iaload, 1) := dk_46 (by decide +kernel)
theorem dL_law_783 : decode cL_law 783 = .ok (.aload_n 0, 1) := dk_42 (by decide +kernel)
theorem dL_law_784 : decode cL_law 784 = .ok (.iload_n 3, 1) := dk_29 (by decide +kernel)
theorem dL_law_785 : decode cL_law 785 = .ok (.iconst 2, 1) := dk_5 (by decide +kernel)
theorem dL_law_786 : decode cL_law 786 = .ok (.iadd, 1) := dk_96 (by decide +kernel)
theorem dL_law_787 : decode cL_law 787 = .ok (.iaload, 1) := dk_46 (by decide +kernel)
theorem dL_law_788 : decode cL_law 788 = .ok (.ifCond .eq 7, 3) := dk_153 (by decide +kernel)
theorem dL_law_791 : decode cL_law 791 = .ok (.iconst 1, 1) := dk_4 (by decide +kernel)
theorem dL_law_792 : decode cL_law 792 = .ok (.goto 4, 3) := dk_167 (by decide +kernel)
theorem dL_law_795 : decode cL_law 795 = .ok (.iconst 0, 1) := dk_3 (by decide +kernel)
theorem dL_law_796 : decode cL_law 796 = .ok (.invokevirtual 104, 3) := dk_182 (by decide +kernel)
theorem dL_law_799 : decode cL_law 799 = .ok (.pop, 1) := dk_87 (by decide +kernel)
theorem dL_law_800 : decode cL_law 800 = .ok (.goto 214, 3) := dk_167 (by decide +kernel)
theorem dL_law_803 : decode cL_law 803 = .ok (.aload_n 1, 1) := dk_43 (by decide +kernel)
theorem dL_law_804 : decode cL_law 804 = .ok (.aload_n 0, 1) := dk_42 (by decide +kernel)
theorem dL_law_805 : decode cL_law 805 = .ok (.iload_n 3, 1) := dk_29 (by decide +kernel)
theorem dL_law_806 : decode cL_law 806 = .ok (.iconst 1, 1) := dk_4 (by decide +kernel)
theorem dL_law_807 : decode cL_law 807 = .ok (.iadd, 1) := dk_96 (by decide +kernel)
theorem dL_law_808 : decode cL_law 808 = .ok (.iaload, 1) := dk_46 (by decide +kernel)
theorem dL_law_809 : decode cL_law 809 = .ok (.invokevirtual 105, 3) := dk_182 (by decide +kernel)
theorem dL_law_812 : decode cL_law 812 = .ok (.pop, 1) := dk_87 (by decide +kernel)
theorem dL_law_813 : decode cL_law 813 = .ok (.aload_n 2, 1) := dk_44 (by decide +kernel)
theorem dL_law_814 : decode cL_law 814 = .ok (.aload_n 0, 1) := dk_42 (by decide +kernel)
theorem dL_law_815 : decode cL_law 815 = .ok (.iload_n 3, 1) := dk_29 (by decide +kernel)
theorem dL_law_816 : decode cL_law 816 = .ok (.iconst 1, 1) := dk_4 (by decide +kernel)
theorem dL_law_817 : decode cL_law 817 = .ok (.iadd, 1) := dk_96 (by decide +kernel)
theorem dL_law_818 : decode cL_law 818 = .ok (.iaload, 1) := dk_46 (by decide +kernel)
theorem dL_law_819 : decode cL_law 819 = .ok (.invokevirtual 108, 3) := dk_182 (by decide +kernel)
theorem dL_law_822 : decode cL_law 822 = .ok (.pop, 1) := dk_87 (by decide +kernel)
theorem dL_law_823 : decode cL_law 823 = .ok (.goto 191, 3) := dk_167 (by decide +kernel)
theorem dL_law_826 : decode cL_law 826 = .ok (.aload_n 1, 1) := dk_43 (by decide +kernel)
theorem dL_law_827 : decode cL_law 827 = .ok (.aload_n 0, 1) := dk_42 (by decide +kernel)
theorem dL_law_828 : decode cL_law 828 = .ok (.iload_n 3, 1) := dk_29 (by decide +kernel)
theorem dL_law_829 : decode cL_law 829 = .ok (.iconst 1, 1) := dk_4 (by decide +kernel)
theorem dL_law_830 : decode cL_law 830 = .ok (.iadd, 1) := dk_96 (by decide +kernel)
theorem dL_law_831 : decode cL_law 831 = .ok (.iaload, 1) := dk_46 (by decide +kernel)
theorem dL_law_832 : decode cL_law 832 = .ok (.invokevirtual 109, 3) := dk_182 (by decide +kernel)
theorem dL_law_835 : decode cL_law 835 = .ok (.pop, 1) := dk_87 (by decide +kernel)
theorem dL_law_836 : decode cL_law 836 = .ok (.aload_n 2, 1) := dk_44 (by decide +kernel)
theorem dL_law_837 : decode cL_law 837 = .ok (.aload_n 0, 1) := dk_42 (by decide +kernel)
theorem dL_law_838 : decode cL_law 838 = .ok (.iload_n 3, 1) := dk_29 (by decide +kernel)
theorem dL_law_839 : decode cL_law 839 = .ok (.iconst 1, 1) := dk_4 (by decide +kernel)
theorem dL_law_840 : decode cL_law 840 = .ok (.iadd, 1) := dk_96 (by decide +kernel)
theorem dL_law_841 : decode cL_law 841 = .ok (.iaload, 1) := dk_46 (by decide +kernel)
theorem dL_law_842 : decode cL_law 842 = .ok (.invokevirtual 112, 3) := dk_182 (by decide +kernel)
theorem dL_law_845 : decode cL_law 845 = .ok (.pop, 1) := dk_87 (by decide +kernel)
theorem dL_law_846 : decode cL_law 846 = .ok (.goto 168, 3) := dk_167 (by decide +kernel)
theorem dL_law_849 : decode cL_law 849 = .ok (.aload_n 1, 1) := dk_43 (by decide +kernel)
theorem dL_law_850 : decode cL_law 850 = .ok (.aload_n 0, 1) := dk_42 (by decide +kernel)
theorem dL_law_851 : decode cL_law 851 = .ok (.iload_n 3, 1) := dk_29 (by decide +kernel)
theorem dL_law_852 : decode cL_law 852 = .ok (.iconst 1, 1) := dk_4 (by decide +kernel)
theorem dL_law_853 : decode cL_law 853 = .ok (.iadd, 1) := dk_96 (by decide +kernel)
theorem dL_law_854 : decode cL_law 854 = .ok (.iaload, 1) := dk_46 (by decide +kernel)
theorem dL_law_855 : decode cL_law 855 = .ok (.aload_n 0, 1) := dk_42 (by decide +kernel)
theorem dL_law_856 : decode cL_law 856 = .ok (.iload_n 3, 1) := dk_29 (by decide +kernel)
theorem dL_law_857 : decode cL_law 857 = .ok (.iconst 2, 1) := dk_5 (by decide +kernel)
theorem dL_law_858 : decode cL_law 858 = .ok (.iadd, 1) := dk_96 (by decide +kernel)
theorem dL_law_859 : decode cL_law 859 = .ok (.iaload, 1) := dk_46 (by decide +kernel)
theorem dL_law_860 : decode cL_law 860 = .ok (.aload_n 0, 1) := dk_42 (by decide +kernel)
theorem dL_law_861 : decode cL_law 861 = .ok (.iload_n 3, 1) := dk_29 (by decide +kernel)
theorem dL_law_862 : decode cL_law 862 = .ok (.iconst 3, 1) := dk_6 (by decide +kernel)
theorem dL_law_863 : decode cL_law 863 = .ok (.iadd, 1) := dk_96 (by decide +kernel)
theorem dL_law_864 : decode cL_law 864 = .ok (.iaload, 1) := dk_46 (by decide +kernel)
theorem dL_law_865 : decode cL_law 865 = .ok (.ifCond .eq 7, 3) := dk_153 (by decide +kernel)
theorem dL_law_868 : decode cL_law 868 = .ok (.iconst 1, 1) := dk_4 (by decide +kernel)
theorem dL_law_869 : decode cL_law 869 = .ok (.goto 4, 3) := dk_167 (by decide +kernel)
theorem dL_law_872 : decode cL_law 872 = .ok (.iconst 0, 1) := dk_3 (by decide +kernel)
theorem dL_law_873 : decode cL_law 873 = .ok (.invokevirtual 113, 3) := dk_182 (by decide +kernel)
theorem dL_law_876 : decode cL_law 876 = .ok (.aload_n 2, 1) := dk_44 (by decide +kernel)
theorem dL_law_877 : decode cL_law 877 = .ok (.aload_n 0, 1) := dk_42 (by decide +kernel)
theorem dL_law_878 : decode cL_law 878 = .ok (.iload_n 3, 1) := dk_29 (by decide +kernel)
theorem dL_law_879 : decode cL_law 879 = .ok (.iconst 1, 1) := dk_4 (by decide +kernel)
theorem dL_law_880 : decode cL_law 880 = .ok (.iadd, 1) := dk_96 (by decide +kernel)
theorem dL_law_881 : decode cL_law 881 = .ok (.iaload, 1) := dk_46 (by decide +kernel)
theorem dL_law_882 : decode cL_law 882 = .ok (.aload_n 0, 1) := dk_42 (by decide +kernel)
theorem dL_law_883 : decode cL_law 883 = .ok (.iload_n 3, 1) := dk_29 (by decide +kernel)
theorem dL_law_884 : decode cL_law 884 = .ok (.iconst 2, 1) := dk_5 (by decide +kernel)
theorem dL_law_885 : decode cL_law 885 = .ok (.iadd, 1) := dk_96 (by decide +kernel)
theorem dL_law_886 : decode cL_law 886 = .ok (.iaload, 1) := dk_46 (by decide +kernel)
theorem dL_law_887 : decode cL_law 887 = .ok (.aload_n 0, 1) := dk_42 (by decide +kernel)
theorem dL_law_888 : decode cL_law 888 = .ok (.iload_n 3, 1) := dk_29 (by decide +kernel)
theorem dL_law_889 : decode cL_law 889 = .ok (.iconst 3, 1) := dk_6 (by decide +kernel)
theorem dL_law_890 : decode cL_law 890 = .ok (.iadd, 1) := dk_96 (by decide +kernel)
theorem dL_law_891 : decode cL_law 891 = .ok (.iaload, 1) := dk_46 (by decide +kernel)
theorem dL_law_892 : decode cL_law 892 = .ok (.ifCond .eq 7, 3) := dk_153 (by decide +kernel)
theorem dL_law_895 : decode cL_law 895 = .ok (.iconst 1, 1) := dk_4 (by decide +kernel)
theorem dL_law_896 : decode cL_law 896 = .ok (.goto 4, 3) := dk_167 (by decide +kernel)
theorem dL_law_899 : decode cL_law 899 = .ok (.iconst 0, 1) := dk_3 (by decide +kernel)
theorem dL_law_900 : decode cL_law 900 = .ok (.invokevirtual 117, 3) := dk_182 (by decide +kernel)
theorem dL_law_903 : decode cL_law 903 = .ok (.lcmp, 1) := dk_148 (by decide +kernel)
theorem dL_law_904 : decode cL_law 904 = .ok (.ifCond .eq 110, 3) := dk_153 (by decide +kernel)
theorem dL_law_909 : decode cL_law 909 = .ok (.aload_n 1, 1) := dk_43 (by decide +kernel)
theorem dL_law_910 : decode cL_law 910 = .ok (.aload_n 0, 1) := dk_42 (by decide +kernel)
theorem dL_law_911 : decode cL_law 911 = .ok (.iload_n 3, 1) := dk_29 (by decide +kernel)
theorem dL_law_912 : decode cL_law 912 = .ok (.iconst 1, 1) := dk_4 (by decide +kernel)
theorem dL_law_913 : decode cL_law 913 = .ok (.iadd, 1) := dk_96 (by decide +kernel)
theorem dL_law_914 : decode cL_law 914 = .ok (.iaload, 1) := dk_46 (by decide +kernel)
theorem dL_law_915 : decode cL_law 915 = .ok (.aload_n 0, 1) := dk_42 (by decide +kernel)
theorem dL_law_916 : decode cL_law 916 = .ok (.iload_n 3, 1) := dk_29 (by decide +kernel)
theorem dL_law_917 : decode cL_law 917 = .ok (.iconst 2, 1) := dk_5 (by decide +kernel)
theorem dL_law_918 : decode cL_law 918 = .ok (.iadd, 1) := dk_96 (by decide +kernel)
theorem dL_law_919 : decode cL_law 919 = .ok (.iaload, 1) := dk_46 (by decide +kernel)
theorem dL_law_920 : decode cL_law 920 = .ok (.aload_n 0, 1) := dk_42 (by decide +kernel)
theorem dL_law_921 : decode cL_law 921 = .ok (.iload_n 3, 1) := dk_29 (by decide +kernel)
theorem dL_law_922 : decode cL_law 922 = .ok (.iconst 3, 1) := dk_6 (by decide +kernel)
theorem dL_law_923 : decode cL_law 923 = .ok (.iadd, 1) := dk_96 (by decide +kernel)
theorem dL_law_924 : decode cL_law 924 = .ok (.iaload, 1) := dk_46 (by decide +kernel)
theorem dL_law_925 : decode cL_law 925 = .ok (.invokevirtual 118, 3) := dk_182 (by decide +kernel)
theorem dL_law_928 : decode cL_law 928 = .ok (.pop, 1) := dk_87 (by decide +kernel)
theorem dL_law_929 : decode cL_law 929 = .ok (.aload_n 2, 1) := dk_44 (by decide +kernel)
theorem dL_law_930 : decode cL_law 930 = .ok (.aload_n 0, 1) := dk_42 (by decide +kernel)
theorem dL_law_931 : decode cL_law 931 = .ok (.iload_n 3, 1) := dk_29 (by decide +kernel)
theorem dL_law_932 : decode cL_law 932 = .ok (.iconst 1, 1) := dk_4 (by decide +kernel)
theorem dL_law_933 : decode cL_law 933 = .ok (.iadd, 1) := dk_96 (by decide +kernel)
theorem dL_law_934 : decode cL_law 934 = .ok (.iaload, 1) := dk_46 (by decide +kernel)
theorem dL_law_935 : decode cL_law 935 = .ok (.aload_n 0, 1) := dk_42 (by decide +kernel)
theorem dL_law_936 : decode cL_law 936 = .ok (.iload_n 3, 1) := dk_29 (by decide +kernel)
theorem dL_law_937 : decode cL_law 937 = .ok (.iconst 2, 1) := dk_5 (by decide +kernel)
theorem dL_law_938 : decode cL_law 938 = .ok (.iadd, 1) := dk_96 (by decide +kernel)
theorem dL_law_939 : decode cL_law 939 = .ok (.iaload, 1) := dk_46 (by decide +kernel)
theorem dL_law_940 : decode cL_law 940 = .ok (.aload_n 0, 1) := dk_42 (by decide +kernel)
theorem dL_law_941 : decode cL_law 941 = .ok (.iload_n 3, 1) := dk_29 (by decide +kernel)
theorem dL_law_942 : decode cL_law 942 = .ok (.iconst 3, 1) := dk_6 (by decide +kernel)
theorem dL_law_943 : decode cL_law 943 = .ok (.iadd, 1) := dk_96 (by decide +kernel)
theorem dL_law_944 : decode cL_law 944 = .ok (.iaload, 1) := dk_46 (by decide +kernel)
theorem dL_law_945 : decode cL_law 945 = .ok (.invokevirtual 121, 3) := dk_182 (by decide +kernel)
theorem dL_law_948 : decode cL_law 948 = .ok (.pop, 1) := dk_87 (by decide +kernel)
theorem dL_law_949 : decode cL_law 949 = .ok (.goto 65, 3) := dk_167 (by decide +kernel)
theorem dL_law_952 : decode cL_law 952 = .ok (.aload_n 1, 1) := dk_43 (by decide +kernel)
theorem dL_law_953 : decode cL_law 953 = .ok (.invokevirtual 122, 3) := dk_182 (by decide +kernel)
theorem dL_law_956 : decode cL_law 956 = .ok (.pop, 1) := dk_87 (by decide +kernel)
theorem dL_law_957 : decode cL_law 957 = .ok (.aload_n 2, 1) := dk_44 (by decide +kernel)
theorem dL_law_958 : decode cL_law 958 = .ok (.invokevirtual 125, 3) := dk_182 (by decide +kernel)
theorem dL_law_961 : decode cL_law 961 = .ok (.pop, 1) := dk_87 (by decide +kernel)
theorem dL_law_962 : decode cL_law 962 = .ok (.goto 52, 3) := dk_167 (by decide +kernel)
theorem dL_law_965 : decode cL_law 965 = .ok (.aload_n 1, 1) := dk_43 (by decide +kernel)
theorem dL_law_966 : decode cL_law 966 = .ok (.invokevirtual 126, 3) := dk_182 (by decide +kernel)
theorem dL_law_969 : decode cL_law 969 = .ok (.pop, 1) := dk_87 (by decide +kernel)
theorem dL_law_970 : decode cL_law 970 = .ok (.aload_n 2, 1) := dk_44 (by decide +kernel)
theorem dL_law_971 : decode cL_law 971 = .ok (.invokevirtual 129, 3) := dk_182 (by decide +kernel)
theorem dL_law_974 : decode cL_law 974 = .ok (.pop, 1) := dk_87 (by decide +kernel)
theorem dL_law_975 : decode cL_law 975 = .ok (.goto 39, 3) := dk_167 (by decide +kernel)
theorem dL_law_978 : decode cL_law 978 = .ok (.aload_n 1, 1) := dk_43 (by decide +kernel)
theorem dL_law_979 : decode cL_law 979 = .ok (.invokevirtual 130, 3) := dk_182 (by decide +kernel)
theorem dL_law_982 : decode cL_law 982 = .ok (.pop, 1) := dk_87 (by decide +kernel)
theorem dL_law_983 : decode cL_law 983 = .ok (.aload_n 2, 1) := dk_44 (by decide +kernel)
theorem dL_law_984 : decode cL_law 984 = .ok (.invokevirtual 133, 3) := dk_182 (by decide +kernel)
theorem dL_law_987 : decode cL_law 987 = .ok (.pop, 1) := dk_87 (by decide +kernel)
theorem dL_law_988 : decode cL_law 988 = .ok (.goto 26, 3) := dk_167 (by decide +kernel)
theorem dL_law_991 : decode cL_law 991 = .ok (.aload_n 1, 1) := dk_43 (by decide +kernel)
theorem dL_law_992 : decode cL_law 992 = .ok (.aload_n 0, 1) := dk_42 (by decide +kernel)
theorem dL_law_993 : decode cL_law 993 = .ok (.iload_n 3, 1) := dk_29 (by decide +kernel)
theorem dL_law_994 : decode cL_law 994 = .ok (.iconst 1, 1) := dk_4 (by decide +kernel)
theorem dL_law_995 : decode cL_law 995 = .ok (.iadd, 1) := dk_96 (by decide +kernel)
theorem dL_law_996 : decode cL_law 996 = .ok (.iaload, 1) := dk_46 (by decide +kernel)
theorem dL_law_997 : decode cL_law 997 = .ok (.invokevirtual 134, 3) := dk_182 (by decide +kernel)
theorem dL_law_1000 : decode cL_law 1000 = .ok (.pop, 1) := dk_87 (by decide +kernel)
theorem dL_law_1001 : decode cL_law 1001 = .ok (.aload_n 2, 1) := dk_44 (by decide +kernel)
theorem dL_law_1002 : decode cL_law 1002 = .ok (.aload_n 0, 1) := dk_42 (by decide +kernel)
theorem dL_law_1003 : decode cL_law 1003 = .ok (.iload_n 3, 1) := dk_29 (by decide +kernel)
theorem dL_law_1004 : decode cL_law 1004 = .ok (.iconst 1, 1) := dk_4 (by decide +kernel)
theorem dL_law_1005 : decode cL_law 1005 = .ok (.iadd, 1) := dk_96 (by decide +kernel)
theorem dL_law_1006 : decode cL_law 1006 = .ok (.iaload, 1) := dk_46 (by decide +kernel)
theorem dL_law_1007 : decode cL_law 1007 = .ok (.invokevirtual 137, 3) := dk_182 (by decide +kernel)
theorem dL_law_1010 : decode cL_law 1010 = .ok (.pop, 1) := dk_87 (by decide +kernel)
theorem dL_law_1011 : decode cL_law 1011 = .ok (.goto 3, 3) := dk_167 (by decide +kernel)
theorem dL_law_1014 : decode cL_law 1014 = .ok (.iinc 3 6, 3) := dk_132 (by decide +kernel)
theorem dL_law_1017 : decode cL_law 1017 = .ok (.goto (-999), 3) := dk_167 (by decide +kernel)
theorem dL_law_1020 : decode cL_law 1020 = .ok (.iconst 1, 1) := dk_4 (by decide +kernel)
theorem dL_law_1021 : decode cL_law 1021 = .ok (.ireturn, 1) := dk_172 (by decide +kernel)
def gPD (G : va_G) (A : Nat → Prop) (ws : va_W) (H : Heap) : Prop := va_P G vwCl ws H ∧ va_D A ws
set_option maxHeartbeats 4000000 in
set_option maxRecDepth 100000 in
theorem c_X4_init (l : Launch) (G : va_G) (cI cJ cZ cB cT : ClassId) (h : Nat) : gMc l yX4_init (gws yX4_init cX4_init 1 none) 1 3 1982 G (gT cI cJ cZ cB cT) (fun _ => True) [.ref h] [(h, .inr (4, [.null, .null, .null, .int 0, .int 0, .int 0, .int 0, .int 0, .int 0, .int 0, .int 0, .int 0, .int 0]))] (fun (_ : Nat → Nat) => True) (fun (u : Nat → Nat) => ([(h, .inr (4, [.ref (u 0), .ref (u 1), .ref (u 2), .int 0, .int 0, .int 0, .int 0, .int 0, .int 9, .int 0, .int (-1), .int 0, .int 0])), ((u 0), .inl (cI, 90, .inl (fun _ => 0))), ((u 1), .inl (cI, 12, .inl (fun _ => 0))), ((u 2), .inl (cI, 1880, .inl (fun _ => 0)))] : va_W)) := by
  intro sz
  refine gM_startx (Ex := (fun _ => True)) (Qf := fun A => va_Qv (fun (_ : Nat → Nat) => True) (gB G (fun (u : Nat → Nat) => ([(h, .inr (4, [.ref (u 0), .ref (u 1), .ref (u 2), .int 0, .int 0, .int 0, .int 0, .int 0, .int 9, .int 0, .int (-1), .int 0, .int 0])), ((u 0), .inl (cI, 90, .inl (fun _ => 0))), ((u 1), .inl (cI, 12, .inl (fun _ => 0))), ((u 2), .inl (cI, 1880, .inl (fun _ => 0)))] : va_W)) A) A) (cc := cX4_init) (maxL := 1) (ret := none) (by decide) (Nat.le_of_ble_eq_true rfl) ?_
  intro p e s m args below meth c A ls H hx hb hr hts hown hin hlocks hml hP hK hD hA hS hl hE hX
  have hl : lv_has ls 1 [(0, .ref h)] := hl
  refine lv_aload_n hx hb dX4_init_0 rfl (lv_at hl 0 rfl) ?_
  refine W.objInit hx hb hown (hts _ m_900) (hts _ m_901) (hts _ m_902) rfl (by rw [hml]; exact hl.1) rfl dX4_init_1 (Nat.le_of_ble_eq_true rfl) (Nat.le_of_ble_eq_true rfl) ?_
  refine W.eq (g2 := F0 m 4 ls []) rfl ?_
  refine lv_aload_n hx hb dX4_init_4 rfl (lv_at hl 0 rfl) ?_
  refine lv_bipush (v := 90) hx hb dX4_init_5 (by decide) ?_
  refine gw_newa (atype := .int) (ty := .int) (N' := 90) (a0 := (90, .inl (fun _ => 0))) hx hb (hts _ m_903) rfl hK hP hD hS hA 0 rfl (fun _ _ h => h) (fun _ => rfl) (by decide) (by decide) (by decide) (Nat.le_of_ble_eq_true rfl) (Nat.le_of_ble_eq_true rfl) dX4_init_7 (fun q_1 H hP hD hS => ?_)
  have hPD : gPD G A [(h, .inr (4, [.null, .null, .null, .int 0, .int 0, .int 0, .int 0, .int 0, .int 0, .int 0, .int 0, .int 0, .int 0])), (q_1, .inl (cI, 90, .inl (fun _ => 0)))] H := ⟨hP, hD⟩
  obtain ⟨hP, hD⟩ := hPD
  refine va_putF (D := G) (ci := 4) (v := .ref q_1) (ty := (tyX4 0)) (C := RX4) (T := TX4) (N := 13) hx hb hts iX4 tyX4 tyX4_ok nmX4 hown hK hP hD hS 0 rfl rfl 0 (by decide) (hts _ m_2) (fun _ h9 => h9) rfl hin rfl (tyX4_ok 0 (by decide)) rfl rfl (Nat.le_of_ble_eq_true rfl) dX4_init_9 (fun H locs hP hD hS => ?_)
  have hPD : gPD G A [(h, .inr (4, [.ref q_1, .null, .null, .int 0, .int 0, .int 0, .int 0, .int 0, .int 0, .int 0, .int 0, .int 0, .int 0])), (q_1, .inl (cI, 90, .inl (fun _ => 0)))] H := ⟨hP, hD⟩
  obtain ⟨hP, hD⟩ := hPD
  refine lv_aload_n hx hb dX4_init_12 rfl (lv_at hl 0 rfl) ?_
  refine lv_bipush (v := 12) hx hb dX4_init_13 (by decide) ?_
  refine gw_newa (atype := .int) (ty := .int) (N' := 12) (a0 := (12, .inl (fun _ => 0))) hx hb (hts _ m_903) rfl hK hP hD hS hA 0 rfl (fun _ _ h => h) (fun _ => rfl) (by decide) (by decide) (by decide) (Nat.le_of_ble_eq_true rfl) (Nat.le_of_ble_eq_true rfl) dX4_init_15 (fun q_2 H hP hD hS => ?_)
  have hPD : gPD G A [(h, .inr (4, [.ref q_1, .null, .null, .int 0, .int 0, .int 0, .int 0, .int 0, .int 0, .int 0, .int 0, .int 0, .int 0])), (q_1, .inl (cI, 90, .inl (fun _ => 0))), (q_2, .inl (cI, 12, .inl (fun _ => 0)))] H := ⟨hP, hD⟩
  obtain ⟨hP, hD⟩ := hPD
  refine va_putF (D := G) (ci := 4) (v := .ref q_2) (ty := (tyX4 1)) (C := RX4) (T := TX4) (N := 13) hx hb hts iX4 tyX4 tyX4_ok nmX4 hown hK hP hD hS 0 rfl rfl 1 (by decide) (hts _ m_8) (fun _ h9 => h9) rfl hin rfl (tyX4_ok 1 (by decide)) rfl rfl (Nat.le_of_ble_eq_true rfl) dX4_init_17 (fun H locs hP hD hS => ?_)
  have hPD : gPD G A [(h, .inr (4, [.ref q_1, .ref q_2, .null, .int 0, .int 0, .int 0, .int 0, .int 0, .int 0, .int 0, .int 0, .int 0, .int 0])), (q_1, .inl (cI, 90, .inl (fun _ => 0))), (q_2, .inl (cI, 12, .inl (fun _ => 0)))] H := ⟨hP, hD⟩
  obtain ⟨hP, hD⟩ := hPD
  refine lv_aload_n hx hb dX4_init_20 rfl (lv_at hl 0 rfl) ?_
  refine lv_sipush (v := 1880) hx hb dX4_init_21 (by decide) ?_
  refine gw_newa (atype := .int) (ty := .int) (N' := 1880) (a0 := (1880, .inl (fun _ => 0))) hx hb (hts _ m_903) rfl hK hP hD hS hA 0 rfl (fun _ _ h => h) (fun _ => rfl) (by decide) (by decide) (by decide) (Nat.le_of_ble_eq_true rfl) (Nat.le_of_ble_eq_true rfl) dX4_init_24 (fun q_3 H hP hD hS => ?_)
  have hPD : gPD G A [(h, .inr (4, [.ref q_1, .ref q_2, .null, .int 0, .int 0, .int 0, .int 0, .int 0, .int 0, .int 0, .int 0, .int 0, .int 0])), (q_1, .inl (cI, 90, .inl (fun _ => 0))), (q_2, .inl (cI, 12, .inl (fun _ => 0))), (q_3, .inl (cI, 1880, .inl (fun _ => 0)))] H := ⟨hP, hD⟩
  obtain ⟨hP, hD⟩ := hPD
  refine va_putF (D := G) (ci := 4) (v := .ref q_3) (ty := (tyX4 2)) (C := RX4) (T := TX4) (N := 13) hx hb hts iX4 tyX4 tyX4_ok nmX4 hown hK hP hD hS 0 rfl rfl 2 (by decide) (hts _ m_43) (fun _ h9 => h9) rfl hin rfl (tyX4_ok 2 (by decide)) rfl rfl (Nat.le_of_ble_eq_true rfl) dX4_init_26 (fun H locs hP hD hS => ?_)
  have hPD : gPD G A [(h, .inr (4, [.ref q_1, .ref q_2, .ref q_3, .int 0, .int 0, .int 0, .int 0, .int 0, .int 0, .int 0, .int 0, .int 0, .int 0])), (q_1, .inl (cI, 90, .inl (fun _ => 0))), (q_2, .inl (cI, 12, .inl (fun _ => 0))), (q_3, .inl (cI, 1880, .inl (fun _ => 0)))] H := ⟨hP, hD⟩
  obtain ⟨hP, hD⟩ := hPD
  refine lv_aload_n hx hb dX4_init_29 rfl (lv_at hl 0 rfl) ?_
  refine lv_iconst (v := 0) hx hb dX4_init_30 (by decide) ?_
  refine va_put (D := G) (ci := 4) (v := .int 0) (ty := .int) (C := RX4) (T := TX4) (N := 13) hx hb hts iX4 tyX4 tyX4_ok nmX4 hown hK hP hD hS 0 rfl rfl 3 (by decide) (hts _ m_0) (fun _ h9 => h9) rfl (tyX4_ok 3 (by decide)) rfl rfl (Nat.le_of_ble_eq_true rfl) dX4_init_31 (fun H locs hP hD hS => ?_)
  have hPD : gPD G A [(h, .inr (4, [.ref q_1, .ref q_2, .ref q_3, .int 0, .int 0, .int 0, .int 0, .int 0, .int 0, .int 0, .int 0, .int 0, .int 0])), (q_1, .inl (cI, 90, .inl (fun _ => 0))), (q_2, .inl (cI, 12, .inl (fun _ => 0))), (q_3, .inl (cI, 1880, .inl (fun _ => 0)))] H := ⟨hP, hD⟩
  obtain ⟨hP, hD⟩ := hPD
  refine lv_aload_n hx hb dX4_init_34 rfl (lv_at hl 0 rfl) ?_
  refine lv_iconst (v := 0) hx hb dX4_init_35 (by decide) ?_
  refine va_put (D := G) (ci := 4) (v := .int 0) (ty := .int) (C := RX4) (T := TX4) (N := 13) hx hb hts iX4 tyX4 tyX4_ok nmX4 hown hK hP hD hS 0 rfl rfl 4 (by decide) (hts _ m_1) (fun _ h9 => h9) rfl (tyX4_ok 4 (by decide)) rfl rfl (Nat.le_of_ble_eq_true rfl) dX4_init_36 (fun H locs hP hD hS => ?_)
  have hPD : gPD G A [(h, .inr (4, [.ref q_1, .ref q_2, .ref q_3, .int 0, .int 0, .int 0, .int 0, .int 0, .int 0, .int 0, .int 0, .int 0, .int 0])), (q_1, .inl (cI, 90, .inl (fun _ => 0))), (q_2, .inl (cI, 12, .inl (fun _ => 0))), (q_3, .inl (cI, 1880, .inl (fun _ => 0)))] H := ⟨hP, hD⟩
  obtain ⟨hP, hD⟩ := hPD
  refine lv_aload_n hx hb dX4_init_39 rfl (lv_at hl 0 rfl) ?_
  refine lv_iconst (v := 0) hx hb dX4_init_40 (by decide) ?_
  refine va_put (D := G) (ci := 4) (v := .int 0) (ty := .int) (C := RX4) (T := TX4) (N := 13) hx hb hts iX4 tyX4 tyX4_ok nmX4 hown hK hP hD hS 0 rfl rfl 5 (by decide) (hts _ m_31) (fun _ h9 => h9) rfl (tyX4_ok 5 (by decide)) rfl rfl (Nat.le_of_ble_eq_true rfl) dX4_init_41 (fun H locs hP hD hS => ?_)
  have hPD : gPD G A [(h, .inr (4, [.ref q_1, .ref q_2, .ref q_3, .int 0, .int 0, .int 0, .int 0, .int 0, .int 0, .int 0, .int 0, .int 0, .int 0])), (q_1, .inl (cI, 90, .inl (fun _ => 0))), (q_2, .inl (cI, 12, .inl (fun _ => 0))), (q_3, .inl (cI, 1880, .inl (fun _ => 0)))] H := ⟨hP, hD⟩
  obtain ⟨hP, hD⟩ := hPD
  refine lv_aload_n hx hb dX4_init_44 rfl (lv_at hl 0 rfl) ?_
  refine lv_iconst (v := 0) hx hb dX4_init_45 (by decide) ?_
  refine va_put (D := G) (ci := 4) (v := .int 0) (ty := .int) (C := RX4) (T := TX4) (N := 13) hx hb hts iX4 tyX4 tyX4_ok nmX4 hown hK hP hD hS 0 rfl rfl 6 (by decide) (hts _ m_22) (fun _ h9 => h9) rfl (tyX4_ok 6 (by decide)) rfl rfl (Nat.le_of_ble_eq_true rfl) dX4_init_46 (fun H locs hP hD hS => ?_)
  have hPD : gPD G A [(h, .inr (4, [.ref q_1, .ref q_2, .ref q_3, .int 0, .int 0, .int 0, .int 0, .int 0, .int 0, .int 0, .int 0, .int 0, .int 0])), (q_1, .inl (cI, 90, .inl (fun _ => 0))), (q_2, .inl (cI, 12, .inl (fun _ => 0))), (q_3, .inl (cI, 1880, .inl (fun _ => 0)))] H := ⟨hP, hD⟩
  obtain ⟨hP, hD⟩ := hPD
  refine lv_aload_n hx hb dX4_init_49 rfl (lv_at hl 0 rfl) ?_
  refine lv_iconst (v := 0) hx hb dX4_init_50 (by decide) ?_
  refine va_put (D := G) (ci := 4) (v := .int 0) (ty := .int) (C := RX4) (T := TX4) (N := 13) hx hb hts iX4 tyX4 tyX4_ok nmX4 hown hK hP hD hS 0 rfl rfl 7 (by decide) (hts _ m_21) (fun _ h9 => h9) rfl (tyX4_ok 7 (by decide)) rfl rfl (Nat.le_of_ble_eq_true rfl) dX4_init_51 (fun H locs hP hD hS => ?_)
  have hPD : gPD G A [(h, .inr (4, [.ref q_1, .ref q_2, .ref q_3, .int 0, .int 0, .int 0, .int 0, .int 0, .int 0, .int 0, .int 0, .int 0, .int 0])), (q_1, .inl (cI, 90, .inl (fun _ => 0))), (q_2, .inl (cI, 12, .inl (fun _ => 0))), (q_3, .inl (cI, 1880, .inl (fun _ => 0)))] H := ⟨hP, hD⟩
  obtain ⟨hP, hD⟩ := hPD
  refine lv_aload_n hx hb dX4_init_54 rfl (lv_at hl 0 rfl) ?_
  refine lv_bipush (v := 9) hx hb dX4_init_55 (by decide) ?_
  refine va_put (D := G) (ci := 4) (v := .int 9) (ty := .int) (C := RX4) (T := TX4) (N := 13) hx hb hts iX4 tyX4 tyX4_ok nmX4 hown hK hP hD hS 0 rfl rfl 8 (by decide) (hts _ m_40) (fun _ h9 => h9) rfl (tyX4_ok 8 (by decide)) rfl rfl (Nat.le_of_ble_eq_true rfl) dX4_init_57 (fun H locs hP hD hS => ?_)
  have hPD : gPD G A [(h, .inr (4, [.ref q_1, .ref q_2, .ref q_3, .int 0, .int 0, .int 0, .int 0, .int 0, .int 9, .int 0, .int 0, .int 0, .int 0])), (q_1, .inl (cI, 90, .inl (fun _ => 0))), (q_2, .inl (cI, 12, .inl (fun _ => 0))), (q_3, .inl (cI, 1880, .inl (fun _ => 0)))] H := ⟨hP, hD⟩
  obtain ⟨hP, hD⟩ := hPD
  refine lv_aload_n hx hb dX4_init_60 rfl (lv_at hl 0 rfl) ?_
  refine lv_iconst (v := 0) hx hb dX4_init_61 (by decide) ?_
  refine va_put (D := G) (ci := 4) (v := .int 0) (ty := .int) (C := RX4) (T := TX4) (N := 13) hx hb hts iX4 tyX4 tyX4_ok nmX4 hown hK hP hD hS 0 rfl rfl 9 (by decide) (hts _ m_55) (fun _ h9 => h9) rfl (tyX4_ok 9 (by decide)) rfl rfl (Nat.le_of_ble_eq_true rfl) dX4_init_62 (fun H locs hP hD hS => ?_)
  have hPD : gPD G A [(h, .inr (4, [.ref q_1, .ref q_2, .ref q_3, .int 0, .int 0, .int 0, .int 0, .int 0, .int 9, .int 0, .int 0, .int 0, .int 0])), (q_1, .inl (cI, 90, .inl (fun _ => 0))), (q_2, .inl (cI, 12, .inl (fun _ => 0))), (q_3, .inl (cI, 1880, .inl (fun _ => 0)))] H := ⟨hP, hD⟩
  obtain ⟨hP, hD⟩ := hPD
  refine lv_aload_n hx hb dX4_init_65 rfl (lv_at hl 0 rfl) ?_
  refine lv_iconst (v := (-1)) hx hb dX4_init_66 (by decide) ?_
  refine va_put (D := G) (ci := 4) (v := .int (-1)) (ty := .int) (C := RX4) (T := TX4) (N := 13) hx hb hts iX4 tyX4 tyX4_ok nmX4 hown hK hP hD hS 0 rfl rfl 10 (by decide) (hts _ m_56) (fun _ h9 => h9) rfl (tyX4_ok 10 (by decide)) rfl rfl (Nat.le_of_ble_eq_true rfl) dX4_init_67 (fun H locs hP hD hS => ?_)
  have hPD : gPD G A [(h, .inr (4, [.ref q_1, .ref q_2, .ref q_3, .int 0, .int 0, .int 0, .int 0, .int 0, .int 9, .int 0, .int (-1), .int 0, .int 0])), (q_1, .inl (cI, 90, .inl (fun _ => 0))), (q_2, .inl (cI, 12, .inl (fun _ => 0))), (q_3, .inl (cI, 1880, .inl (fun _ => 0)))] H := ⟨hP, hD⟩
  obtain ⟨hP, hD⟩ := hPD
  refine lv_aload_n hx hb dX4_init_70 rfl (lv_at hl 0 rfl) ?_
  refine lv_iconst (v := 0) hx hb dX4_init_71 (by decide) ?_
  refine va_put (D := G) (ci := 4) (v := .int 0) (ty := .int) (C := RX4) (T := TX4) (N := 13) hx hb hts iX4 tyX4 tyX4_ok nmX4 hown hK hP hD hS 0 rfl rfl 11 (by decide) (hts _ m_42) (fun _ h9 => h9) rfl (tyX4_ok 11 (by decide)) rfl rfl (Nat.le_of_ble_eq_true rfl) dX4_init_72 (fun H locs hP hD hS => ?_)
  have hPD : gPD G A [(h, .inr (4, [.ref q_1, .ref q_2, .ref q_3, .int 0, .int 0, .int 0, .int 0, .int 0, .int 9, .int 0, .int (-1), .int 0, .int 0])), (q_1, .inl (cI, 90, .inl (fun _ => 0))), (q_2, .inl (cI, 12, .inl (fun _ => 0))), (q_3, .inl (cI, 1880, .inl (fun _ => 0)))] H := ⟨hP, hD⟩
  obtain ⟨hP, hD⟩ := hPD
  refine lv_aload_n hx hb dX4_init_75 rfl (lv_at hl 0 rfl) ?_
  refine lv_iconst (v := 0) hx hb dX4_init_76 (by decide) ?_
  refine va_put (D := G) (ci := 4) (v := .int 0) (ty := .int) (C := RX4) (T := TX4) (N := 13) hx hb hts iX4 tyX4 tyX4_ok nmX4 hown hK hP hD hS 0 rfl rfl 12 (by decide) (hts _ m_41) (fun _ h9 => h9) rfl (tyX4_ok 12 (by decide)) rfl rfl (Nat.le_of_ble_eq_true rfl) dX4_init_77 (fun H locs hP hD hS => ?_)
  have hPD : gPD G A [(h, .inr (4, [.ref q_1, .ref q_2, .ref q_3, .int 0, .int 0, .int 0, .int 0, .int 0, .int 9, .int 0, .int (-1), .int 0, .int 0])), (q_1, .inl (cI, 90, .inl (fun _ => 0))), (q_2, .inl (cI, 12, .inl (fun _ => 0))), (q_3, .inl (cI, 1880, .inl (fun _ => 0)))] H := ⟨hP, hD⟩
  obtain ⟨hP, hD⟩ := hPD
  refine W.widen (k := 3) (n := 1982) (Nat.le_of_ble_eq_true rfl) (Nat.le_of_ble_eq_true rfl) ?_
  exact gw_vret (fun k => [q_1, q_2, q_3].getD k 0) hx hb hr hlocks (hP.sub [0, 1, 2, 3] rfl) (hD.sub [0, 1, 2, 3] (by decide) rfl) hS trivial dX4_init_80
set_option maxHeartbeats 4000000 in
set_option maxRecDepth 100000 in
theorem c_X5_init (l : Launch) (G : va_G) (cI cJ cZ cB cT : ClassId) (h : Nat) : gMc l yX5_init (gws yX5_init cX5_init 1 none) 1 1 300 G (gT cI cJ cZ cB cT) (fun _ => True) [.ref h] [(h, .inr (5, [.null, .int 0]))] (fun (_ : Nat → Nat) => True) (fun (u : Nat → Nat) => ([(h, .inr (5, [.ref (u 0), .int 0])), ((u 0), .inl (cI, 300, .inl (fun _ => 0)))] : va_W)) := by
  intro sz
  refine gM_startx (Ex := (fun _ => True)) (Qf := fun A => va_Qv (fun (_ : Nat → Nat) => True) (gB G (fun (u : Nat → Nat) => ([(h, .inr (5, [.ref (u 0), .int 0])), ((u 0), .inl (cI, 300, .inl (fun _ => 0)))] : va_W)) A) A) (cc := cX5_init) (maxL := 1) (ret := none) (by decide) (Nat.le_of_ble_eq_true rfl) ?_
  intro p e s m args below meth c A ls H hx hb hr hts hown hin hlocks hml hP hK hD hA hS hl hE hX
  have hl : lv_has ls 1 [(0, .ref h)] := hl
  refine lv_aload_n hx hb dX5_init_0 rfl (lv_at hl 0 rfl) ?_
  refine W.objInit hx hb hown (hts _ m_904) (hts _ m_901) (hts _ m_902) rfl (by rw [hml]; exact hl.1) rfl dX5_init_1 (Nat.le_of_ble_eq_true rfl) (Nat.le_of_ble_eq_true rfl) ?_
  refine W.eq (g2 := F0 m 4 ls []) rfl ?_
  refine lv_aload_n hx hb dX5_init_4 rfl (lv_at hl 0 rfl) ?_
  refine lv_sipush (v := 300) hx hb dX5_init_5 (by decide) ?_
  refine gw_newa (atype := .int) (ty := .int) (N' := 300) (a0 := (300, .inl (fun _ => 0))) hx hb (hts _ m_903) rfl hK hP hD hS hA 0 rfl (fun _ _ h => h) (fun _ => rfl) (by decide) (by decide) (by decide) (Nat.le_of_ble_eq_true rfl) (Nat.le_of_ble_eq_true rfl) dX5_init_8 (fun q_1 H hP hD hS => ?_)
  have hPD : gPD G A [(h, .inr (5, [.null, .int 0])), (q_1, .inl (cI, 300, .inl (fun _ => 0)))] H := ⟨hP, hD⟩
  obtain ⟨hP, hD⟩ := hPD
  refine va_putF (D := G) (ci := 5) (v := .ref q_1) (ty := (tyX5 0)) (C := RX5) (T := TX5) (N := 2) hx hb hts iX5 tyX5 tyX5_ok nmX5 hown hK hP hD hS 0 rfl rfl 0 (by decide) (hts _ m_402) (fun _ h9 => h9) rfl hin rfl (tyX5_ok 0 (by decide)) rfl rfl (Nat.le_of_ble_eq_true rfl) dX5_init_10 (fun H locs hP hD hS => ?_)
  have hPD : gPD G A [(h, .inr (5, [.ref q_1, .int 0])), (q_1, .inl (cI, 300, .inl (fun _ => 0)))] H := ⟨hP, hD⟩
  obtain ⟨hP, hD⟩ := hPD
  refine lv_aload_n hx hb dX5_init_13 rfl (lv_at hl 0 rfl) ?_
  refine lv_iconst (v := 0) hx hb dX5_init_14 (by decide) ?_
  refine va_put (D := G) (ci := 5) (v := .int 0) (ty := .int) (C := RX5) (T := TX5) (N := 2) hx hb hts iX5 tyX5 tyX5_ok nmX5 hown hK hP hD hS 0 rfl rfl 1 (by decide) (hts _ m_401) (fun _ h9 => h9) rfl (tyX5_ok 1 (by decide)) rfl rfl (Nat.le_of_ble_eq_true rfl) dX5_init_15 (fun H locs hP hD hS => ?_)
  have hPD : gPD G A [(h, .inr (5, [.ref q_1, .int 0])), (q_1, .inl (cI, 300, .inl (fun _ => 0)))] H := ⟨hP, hD⟩
  obtain ⟨hP, hD⟩ := hPD
  refine W.widen (k := 1) (n := 300) (Nat.le_of_ble_eq_true rfl) (Nat.le_of_ble_eq_true rfl) ?_
  exact gw_vret (fun k => [q_1].getD k 0) hx hb hr hlocks (hP.sub [0, 1] rfl) (hD.sub [0, 1] (by decide) rfl) hS trivial dX5_init_18
set_option maxHeartbeats 4000000 in
set_option maxRecDepth 100000 in
theorem c_X7_init (l : Launch) (G : va_G) (cI cJ cZ cB cT : ClassId) (h : Nat) : gMc l yX7_init (gws yX7_init cX7_init 1 none) 1 3 903 G (gT cI cJ cZ cB cT) (fun _ => True) [.ref h] [(h, .inr (7, [.null, .null, .null, .int 0, .int 0]))] (fun (_ : Nat → Nat) => True) (fun (u : Nat → Nat) => ([(h, .inr (7, [.ref (u 0), .ref (u 1), .ref (u 2), .int 0, .int 0])), ((u 0), .inl (cI, 301, .inl (fun _ => 0))), ((u 1), .inl (cI, 301, .inl (fun _ => 0))), ((u 2), .inl (cI, 301, .inl (fun _ => 0)))] : va_W)) := by
  intro sz
  refine gM_startx (Ex := (fun _ => True)) (Qf := fun A => va_Qv (fun (_ : Nat → Nat) => True) (gB G (fun (u : Nat → Nat) => ([(h, .inr (7, [.ref (u 0), .ref (u 1), .ref (u 2), .int 0, .int 0])), ((u 0), .inl (cI, 301, .inl (fun _ => 0))), ((u 1), .inl (cI, 301, .inl (fun _ => 0))), ((u 2), .inl (cI, 301, .inl (fun _ => 0)))] : va_W)) A) A) (cc := cX7_init) (maxL := 1) (ret := none) (by decide) (Nat.le_of_ble_eq_true rfl) ?_
  intro p e s m args below meth c A ls H hx hb hr hts hown hin hlocks hml hP hK hD hA hS hl hE hX
  have hl : lv_has ls 1 [(0, .ref h)] := hl
  refine lv_aload_n hx hb dX7_init_0 rfl (lv_at hl 0 rfl) ?_
  refine W.objInit hx hb hown (hts _ m_905) (hts _ m_901) (hts _ m_902) rfl (by rw [hml]; exact hl.1) rfl dX7_init_1 (Nat.le_of_ble_eq_true rfl) (Nat.le_of_ble_eq_true rfl) ?_
  refine W.eq (g2 := F0 m 4 ls []) rfl ?_
  refine lv_aload_n hx hb dX7_init_4 rfl (lv_at hl 0 rfl) ?_
  refine lv_sipush (v := 301) hx hb dX7_init_5 (by decide) ?_
  refine gw_newa (atype := .int) (ty := .int) (N' := 301) (a0 := (301, .inl (fun _ => 0))) hx hb (hts _ m_903) rfl hK hP hD hS hA 0 rfl (fun _ _ h => h) (fun _ => rfl) (by decide) (by decide) (by decide) (Nat.le_of_ble_eq_true rfl) (Nat.le_of_ble_eq_true rfl) dX7_init_8 (fun q_1 H hP hD hS => ?_)
  have hPD : gPD G A [(h, .inr (7, [.null, .null, .null, .int 0, .int 0])), (q_1, .inl (cI, 301, .inl (fun _ => 0)))] H := ⟨hP, hD⟩
  obtain ⟨hP, hD⟩ := hPD
  refine va_putF (D := G) (ci := 7) (v := .ref q_1) (ty := (tyX7 0)) (C := RX7) (T := TX7) (N := 5) hx hb hts iX7 tyX7 tyX7_ok nmX7 hown hK hP hD hS 0 rfl rfl 0 (by decide) (hts _ m_405) (fun _ h9 => h9) rfl hin rfl (tyX7_ok 0 (by decide)) rfl rfl (Nat.le_of_ble_eq_true rfl) dX7_init_10 (fun H locs hP hD hS => ?_)
  have hPD : gPD G A [(h, .inr (7, [.ref q_1, .null, .null, .int 0, .int 0])), (q_1, .inl (cI, 301, .inl (fun _ => 0)))] H := ⟨hP, hD⟩
  obtain ⟨hP, hD⟩ := hPD
  refine lv_aload_n hx hb dX7_init_13 rfl (lv_at hl 0 rfl) ?_
  refine lv_sipush (v := 301) hx hb dX7_init_14 (by decide) ?_
  refine gw_newa (atype := .int) (ty := .int) (N' := 301) (a0 := (301, .inl (fun _ => 0))) hx hb (hts _ m_903) rfl hK hP hD hS hA 0 rfl (fun _ _ h => h) (fun _ => rfl) (by decide) (by decide) (by decide) (Nat.le_of_ble_eq_true rfl) (Nat.le_of_ble_eq_true rfl) dX7_init_17 (fun q_2 H hP hD hS => ?_)
  have hPD : gPD G A [(h, .inr (7, [.ref q_1, .null, .null, .int 0, .int 0])), (q_1, .inl (cI, 301, .inl (fun _ => 0))), (q_2, .inl (cI, 301, .inl (fun _ => 0)))] H := ⟨hP, hD⟩
  obtain ⟨hP, hD⟩ := hPD
  refine va_putF (D := G) (ci := 7) (v := .ref q_2) (ty := (tyX7 1)) (C := RX7) (T := TX7) (N := 5) hx hb hts iX7 tyX7 tyX7_ok nmX7 hown hK hP hD hS 0 rfl rfl 1 (by decide) (hts _ m_406) (fun _ h9 => h9) rfl hin rfl (tyX7_ok 1 (by decide)) rfl rfl (Nat.le_of_ble_eq_true rfl) dX7_init_19 (fun H locs hP hD hS => ?_)
  have hPD : gPD G A [(h, .inr (7, [.ref q_1, .ref q_2, .null, .int 0, .int 0])), (q_1, .inl (cI, 301, .inl (fun _ => 0))), (q_2, .inl (cI, 301, .inl (fun _ => 0)))] H := ⟨hP, hD⟩
  obtain ⟨hP, hD⟩ := hPD
  refine lv_aload_n hx hb dX7_init_22 rfl (lv_at hl 0 rfl) ?_
  refine lv_sipush (v := 301) hx hb dX7_init_23 (by decide) ?_
  refine gw_newa (atype := .int) (ty := .int) (N' := 301) (a0 := (301, .inl (fun _ => 0))) hx hb (hts _ m_903) rfl hK hP hD hS hA 0 rfl (fun _ _ h => h) (fun _ => rfl) (by decide) (by decide) (by decide) (Nat.le_of_ble_eq_true rfl) (Nat.le_of_ble_eq_true rfl) dX7_init_26 (fun q_3 H hP hD hS => ?_)
  have hPD : gPD G A [(h, .inr (7, [.ref q_1, .ref q_2, .null, .int 0, .int 0])), (q_1, .inl (cI, 301, .inl (fun _ => 0))), (q_2, .inl (cI, 301, .inl (fun _ => 0))), (q_3, .inl (cI, 301, .inl (fun _ => 0)))] H := ⟨hP, hD⟩
  obtain ⟨hP, hD⟩ := hPD
  refine va_putF (D := G) (ci := 7) (v := .ref q_3) (ty := (tyX7 2)) (C := RX7) (T := TX7) (N := 5) hx hb hts iX7 tyX7 tyX7_ok nmX7 hown hK hP hD hS 0 rfl rfl 2 (by decide) (hts _ m_407) (fun _ h9 => h9) rfl hin rfl (tyX7_ok 2 (by decide)) rfl rfl (Nat.le_of_ble_eq_true rfl) dX7_init_28 (fun H locs hP hD hS => ?_)
  have hPD : gPD G A [(h, .inr (7, [.ref q_1, .ref q_2, .ref q_3, .int 0, .int 0])), (q_1, .inl (cI, 301, .inl (fun _ => 0))), (q_2, .inl (cI, 301, .inl (fun _ => 0))), (q_3, .inl (cI, 301, .inl (fun _ => 0)))] H := ⟨hP, hD⟩
  obtain ⟨hP, hD⟩ := hPD
  refine lv_aload_n hx hb dX7_init_31 rfl (lv_at hl 0 rfl) ?_
  refine lv_iconst (v := 0) hx hb dX7_init_32 (by decide) ?_
  refine va_put (D := G) (ci := 7) (v := .int 0) (ty := .int) (C := RX7) (T := TX7) (N := 5) hx hb hts iX7 tyX7 tyX7_ok nmX7 hown hK hP hD hS 0 rfl rfl 3 (by decide) (hts _ m_404) (fun _ h9 => h9) rfl (tyX7_ok 3 (by decide)) rfl rfl (Nat.le_of_ble_eq_true rfl) dX7_init_33 (fun H locs hP hD hS => ?_)
  have hPD : gPD G A [(h, .inr (7, [.ref q_1, .ref q_2, .ref q_3, .int 0, .int 0])), (q_1, .inl (cI, 301, .inl (fun _ => 0))), (q_2, .inl (cI, 301, .inl (fun _ => 0))), (q_3, .inl (cI, 301, .inl (fun _ => 0)))] H := ⟨hP, hD⟩
  obtain ⟨hP, hD⟩ := hPD
  refine lv_aload_n hx hb dX7_init_36 rfl (lv_at hl 0 rfl) ?_
  refine lv_iconst (v := 0) hx hb dX7_init_37 (by decide) ?_
  refine va_put (D := G) (ci := 7) (v := .int 0) (ty := .int) (C := RX7) (T := TX7) (N := 5) hx hb hts iX7 tyX7 tyX7_ok nmX7 hown hK hP hD hS 0 rfl rfl 4 (by decide) (hts _ m_403) (fun _ h9 => h9) rfl (tyX7_ok 4 (by decide)) rfl rfl (Nat.le_of_ble_eq_true rfl) dX7_init_38 (fun H locs hP hD hS => ?_)
  have hPD : gPD G A [(h, .inr (7, [.ref q_1, .ref q_2, .ref q_3, .int 0, .int 0])), (q_1, .inl (cI, 301, .inl (fun _ => 0))), (q_2, .inl (cI, 301, .inl (fun _ => 0))), (q_3, .inl (cI, 301, .inl (fun _ => 0)))] H := ⟨hP, hD⟩
  obtain ⟨hP, hD⟩ := hPD
  refine W.widen (k := 3) (n := 903) (Nat.le_of_ble_eq_true rfl) (Nat.le_of_ble_eq_true rfl) ?_
  exact gw_vret (fun k => [q_1, q_2, q_3].getD k 0) hx hb hr hlocks (hP.sub [0, 1, 2, 3] rfl) (hD.sub [0, 1, 2, 3] (by decide) rfl) hS trivial dX7_init_41
set_option maxHeartbeats 4000000 in
set_option maxRecDepth 100000 in
theorem c_X2_init (l : Launch) (G : va_G) (cI cJ cZ cB cT : ClassId) (h : Nat) : gMc l yX2_init (gws yX2_init cX2_init 1 none) 1 0 0 G (gT cI cJ cZ cB cT) (fun _ => True) [.ref h] [(h, .inr (2, [.int 0, .int 0, .int 0]))] (fun (_ : Nat → Nat) => True) (fun (u : Nat → Nat) => ([(h, .inr (2, [.int (-1), .int (-1), .int (-1)]))] : va_W)) := by
  intro sz
  refine gM_startx (Ex := (fun _ => True)) (Qf := fun A => va_Qv (fun (_ : Nat → Nat) => True) (gB G (fun (u : Nat → Nat) => ([(h, .inr (2, [.int (-1), .int (-1), .int (-1)]))] : va_W)) A) A) (cc := cX2_init) (maxL := 1) (ret := none) (by decide) (Nat.le_of_ble_eq_true rfl) ?_
  intro p e s m args below meth c A ls H hx hb hr hts hown hin hlocks hml hP hK hD hA hS hl hE hX
  have hl : lv_has ls 1 [(0, .ref h)] := hl
  refine lv_aload_n hx hb dX2_init_0 rfl (lv_at hl 0 rfl) ?_
  refine W.objInit hx hb hown (hts _ m_906) (hts _ m_901) (hts _ m_902) rfl (by rw [hml]; exact hl.1) rfl dX2_init_1 (Nat.le_of_ble_eq_true rfl) (Nat.le_of_ble_eq_true rfl) ?_
  refine W.eq (g2 := F0 m 4 ls []) rfl ?_
  refine lv_aload_n hx hb dX2_init_4 rfl (lv_at hl 0 rfl) ?_
  refine lv_iconst (v := (-1)) hx hb dX2_init_5 (by decide) ?_
  refine va_put (D := G) (ci := 2) (v := .int (-1)) (ty := .int) (C := RX2) (T := TX2) (N := 3) hx hb hts iX2 tyX2 tyX2_ok nmX2 hown hK hP hD hS 0 rfl rfl 0 (by decide) (hts _ m_646) (fun _ h9 => h9) rfl (tyX2_ok 0 (by decide)) rfl rfl (Nat.le_of_ble_eq_true rfl) dX2_init_6 (fun H locs hP hD hS => ?_)
  have hPD : gPD G A [(h, .inr (2, [.int (-1), .int 0, .int 0]))] H := ⟨hP, hD⟩
  obtain ⟨hP, hD⟩ := hPD
  refine lv_aload_n hx hb dX2_init_9 rfl (lv_at hl 0 rfl) ?_
  refine lv_iconst (v := (-1)) hx hb dX2_init_10 (by decide) ?_
  refine va_put (D := G) (ci := 2) (v := .int (-1)) (ty := .int) (C := RX2) (T := TX2) (N := 3) hx hb hts iX2 tyX2 tyX2_ok nmX2 hown hK hP hD hS 0 rfl rfl 1 (by decide) (hts _ m_651) (fun _ h9 => h9) rfl (tyX2_ok 1 (by decide)) rfl rfl (Nat.le_of_ble_eq_true rfl) dX2_init_11 (fun H locs hP hD hS => ?_)
  have hPD : gPD G A [(h, .inr (2, [.int (-1), .int (-1), .int 0]))] H := ⟨hP, hD⟩
  obtain ⟨hP, hD⟩ := hPD
  refine lv_aload_n hx hb dX2_init_14 rfl (lv_at hl 0 rfl) ?_
  refine lv_iconst (v := (-1)) hx hb dX2_init_15 (by decide) ?_
  refine va_put (D := G) (ci := 2) (v := .int (-1)) (ty := .int) (C := RX2) (T := TX2) (N := 3) hx hb hts iX2 tyX2 tyX2_ok nmX2 hown hK hP hD hS 0 rfl rfl 2 (by decide) (hts _ m_673) (fun _ h9 => h9) rfl (tyX2_ok 2 (by decide)) rfl rfl (Nat.le_of_ble_eq_true rfl) dX2_init_16 (fun H locs hP hD hS => ?_)
  have hPD : gPD G A [(h, .inr (2, [.int (-1), .int (-1), .int (-1)]))] H := ⟨hP, hD⟩
  obtain ⟨hP, hD⟩ := hPD
  refine W.widen (k := 0) (n := 0) (Nat.le_of_ble_eq_true rfl) (Nat.le_of_ble_eq_true rfl) ?_
  exact gw_vret (fun _ => 0) hx hb hr hlocks (hP.sub [0] rfl) (hD.sub [0] (by decide) rfl) hS trivial dX2_init_19
set_option maxHeartbeats 4000000 in
set_option maxRecDepth 100000 in
theorem c_X0_init (l : Launch) (G : va_G) (cI cJ cZ cB cT : ClassId) (h : Nat) : gMc l yX0_init (gws yX0_init cX0_init 1 none) 1 2 32 G (gT cI cJ cZ cB cT) (fun _ => True) [.ref h] [(h, .inr (0, [.int 0, .long 0, .null, .null]))] (fun (_ : Nat → Nat) => True) (fun (u : Nat → Nat) => ([(h, .inr (0, [.int 0, .long 1, .ref (u 0), .ref (u 1)])), ((u 0), .inl (cJ, 16, .inr (.inl (fun _ => 0)))), ((u 1), .inl (cJ, 16, .inr (.inl (fun _ => 0))))] : va_W)) := by
  intro sz
  refine gM_startx (Ex := (fun _ => True)) (Qf := fun A => va_Qv (fun (_ : Nat → Nat) => True) (gB G (fun (u : Nat → Nat) => ([(h, .inr (0, [.int 0, .long 1, .ref (u 0), .ref (u 1)])), ((u 0), .inl (cJ, 16, .inr (.inl (fun _ => 0)))), ((u 1), .inl (cJ, 16, .inr (.inl (fun _ => 0))))] : va_W)) A) A) (cc := cX0_init) (maxL := 1) (ret := none) (by decide) (Nat.le_of_ble_eq_true rfl) ?_
  intro p e s m args below meth c A ls H hx hb hr hts hown hin hlocks hml hP hK hD hA hS hl hE hX
  have hl : lv_has ls 1 [(0, .ref h)] := hl
  refine lv_aload_n hx hb dX0_init_0 rfl (lv_at hl 0 rfl) ?_
  refine W.objInit hx hb hown (hts _ m_907) (hts _ m_901) (hts _ m_902) rfl (by rw [hml]; exact hl.1) rfl dX0_init_1 (Nat.le_of_ble_eq_true rfl) (Nat.le_of_ble_eq_true rfl) ?_
  refine W.eq (g2 := F0 m 4 ls []) rfl ?_
  refine lv_aload_n hx hb dX0_init_4 rfl (lv_at hl 0 rfl) ?_
  refine lv_iconst (v := 0) hx hb dX0_init_5 (by decide) ?_
  refine va_put (D := G) (ci := 0) (v := .int 0) (ty := .int) (C := RX0) (T := TX0) (N := 4) hx hb hts iX0 tyX0 tyX0_ok nmX0 hown hK hP hD hS 0 rfl rfl 0 (by decide) (hts _ m_465) (fun _ h9 => h9) rfl (tyX0_ok 0 (by decide)) rfl rfl (Nat.le_of_ble_eq_true rfl) dX0_init_6 (fun H locs hP hD hS => ?_)
  have hPD : gPD G A [(h, .inr (0, [.int 0, .long 0, .null, .null]))] H := ⟨hP, hD⟩
  obtain ⟨hP, hD⟩ := hPD
  refine lv_aload_n hx hb dX0_init_9 rfl (lv_at hl 0 rfl) ?_
  refine lv_lconst (v := 1) hx hb dX0_init_10 (by decide) ?_
  refine va_put (D := G) (ci := 0) (v := .long 1) (ty := .long) (C := RX0) (T := TX0) (N := 4) hx hb hts iX0 tyX0 tyX0_ok nmX0 hown hK hP hD hS 0 rfl rfl 1 (by decide) (hts _ m_466) (fun _ h9 => h9) rfl (tyX0_ok 1 (by decide)) rfl rfl (Nat.le_of_ble_eq_true rfl) dX0_init_11 (fun H locs hP hD hS => ?_)
  have hPD : gPD G A [(h, .inr (0, [.int 0, .long 1, .null, .null]))] H := ⟨hP, hD⟩
  obtain ⟨hP, hD⟩ := hPD
  refine lv_aload_n hx hb dX0_init_14 rfl (lv_at hl 0 rfl) ?_
  refine lv_bipush (v := 16) hx hb dX0_init_15 (by decide) ?_
  refine gw_newa (atype := .long) (ty := .long) (N' := 16) (a0 := (16, .inr (.inl (fun _ => 0)))) hx hb (hts _ m_908) rfl hK hP hD hS hA 1 rfl (fun _ _ h => h) (fun _ => rfl) (by decide) (by decide) (by decide) (Nat.le_of_ble_eq_true rfl) (Nat.le_of_ble_eq_true rfl) dX0_init_17 (fun q_1 H hP hD hS => ?_)
  have hPD : gPD G A [(h, .inr (0, [.int 0, .long 1, .null, .null])), (q_1, .inl (cJ, 16, .inr (.inl (fun _ => 0))))] H := ⟨hP, hD⟩
  obtain ⟨hP, hD⟩ := hPD
  refine va_putF (D := G) (ci := 0) (v := .ref q_1) (ty := (tyX0 2)) (C := RX0) (T := TX0) (N := 4) hx hb hts iX0 tyX0 tyX0_ok nmX0 hown hK hP hD hS 0 rfl rfl 2 (by decide) (hts _ m_467) (fun _ h9 => h9) rfl hin rfl (tyX0_ok 2 (by decide)) rfl rfl (Nat.le_of_ble_eq_true rfl) dX0_init_19 (fun H locs hP hD hS => ?_)
  have hPD : gPD G A [(h, .inr (0, [.int 0, .long 1, .ref q_1, .null])), (q_1, .inl (cJ, 16, .inr (.inl (fun _ => 0))))] H := ⟨hP, hD⟩
  obtain ⟨hP, hD⟩ := hPD
  refine lv_aload_n hx hb dX0_init_22 rfl (lv_at hl 0 rfl) ?_
  refine lv_bipush (v := 16) hx hb dX0_init_23 (by decide) ?_
  refine gw_newa (atype := .long) (ty := .long) (N' := 16) (a0 := (16, .inr (.inl (fun _ => 0)))) hx hb (hts _ m_908) rfl hK hP hD hS hA 1 rfl (fun _ _ h => h) (fun _ => rfl) (by decide) (by decide) (by decide) (Nat.le_of_ble_eq_true rfl) (Nat.le_of_ble_eq_true rfl) dX0_init_25 (fun q_2 H hP hD hS => ?_)
  have hPD : gPD G A [(h, .inr (0, [.int 0, .long 1, .ref q_1, .null])), (q_1, .inl (cJ, 16, .inr (.inl (fun _ => 0)))), (q_2, .inl (cJ, 16, .inr (.inl (fun _ => 0))))] H := ⟨hP, hD⟩
  obtain ⟨hP, hD⟩ := hPD
  refine va_putF (D := G) (ci := 0) (v := .ref q_2) (ty := (tyX0 3)) (C := RX0) (T := TX0) (N := 4) hx hb hts iX0 tyX0 tyX0_ok nmX0 hown hK hP hD hS 0 rfl rfl 3 (by decide) (hts _ m_606) (fun _ h9 => h9) rfl hin rfl (tyX0_ok 3 (by decide)) rfl rfl (Nat.le_of_ble_eq_true rfl) dX0_init_27 (fun H locs hP hD hS => ?_)
  have hPD : gPD G A [(h, .inr (0, [.int 0, .long 1, .ref q_1, .ref q_2])), (q_1, .inl (cJ, 16, .inr (.inl (fun _ => 0)))), (q_2, .inl (cJ, 16, .inr (.inl (fun _ => 0))))] H := ⟨hP, hD⟩
  obtain ⟨hP, hD⟩ := hPD
  refine W.widen (k := 2) (n := 32) (Nat.le_of_ble_eq_true rfl) (Nat.le_of_ble_eq_true rfl) ?_
  exact gw_vret (fun k => [q_1, q_2].getD k 0) hx hb hr hlocks (hP.sub [0, 1, 2] rfl) (hD.sub [0, 1, 2] (by decide) rfl) hS trivial dX0_init_30
set_option maxHeartbeats 4000000 in
set_option maxRecDepth 100000 in
theorem c_X3_init (l : Launch) (G : va_G) (cI cJ cZ cB cT : ClassId) (h : Nat) : gMc l yX3_init (gws yX3_init cX3_init 1 none) 1 8 325 G (gT cI cJ cZ cB cT) (fun _ => True) [.ref h] [(h, .inr (3, [.null, .null, .null, .null, .null, .null, .null, .null, .int 0, .long 0, .int 0, .int 0, .int 0, .int 0, .long 0, .int 0]))] (fun (_ : Nat → Nat) => True) (fun (u : Nat → Nat) => ([(h, .inr (3, [.ref (u 0), .ref (u 1), .ref (u 2), .ref (u 3), .ref (u 4), .ref (u 5), .ref (u 6), .ref (u 7), .int 0, .long 1, .int 0, .int 0, .int 0, .int 0, .long 0, .int 0])), ((u 0), .inl (cI, 150, .inl (fun _ => 0))), ((u 1), .inl (cI, 150, .inl (fun _ => 0))), ((u 2), .inl (cZ, 10, .inl (fun _ => 0))), ((u 3), .inl (cI, 3, .inl (fun _ => 0))), ((u 4), .inl (cI, 3, .inl (fun _ => 0))), ((u 5), .inl (cI, 3, .inl (fun _ => 0))), ((u 6), .inl (cI, 3, .inl (fun _ => 0))), ((u 7), .inl (cI, 3, .inl (fun _ => 0)))] : va_W)) := by
  intro sz
  refine gM_startx (Ex := (fun _ => True)) (Qf := fun A => va_Qv (fun (_ : Nat → Nat) => True) (gB G (fun (u : Nat → Nat) => ([(h, .inr (3, [.ref (u 0), .ref (u 1), .ref (u 2), .ref (u 3), .ref (u 4), .ref (u 5), .ref (u 6), .ref (u 7), .int 0, .long 1, .int 0, .int 0, .int 0, .int 0, .long 0, .int 0])), ((u 0), .inl (cI, 150, .inl (fun _ => 0))), ((u 1), .inl (cI, 150, .inl (fun _ => 0))), ((u 2), .inl (cZ, 10, .inl (fun _ => 0))), ((u 3), .inl (cI, 3, .inl (fun _ => 0))), ((u 4), .inl (cI, 3, .inl (fun _ => 0))), ((u 5), .inl (cI, 3, .inl (fun _ => 0))), ((u 6), .inl (cI, 3, .inl (fun _ => 0))), ((u 7), .inl (cI, 3, .inl (fun _ => 0)))] : va_W)) A) A) (cc := cX3_init) (maxL := 1) (ret := none) (by decide) (Nat.le_of_ble_eq_true rfl) ?_
  intro p e s m args below meth c A ls H hx hb hr hts hown hin hlocks hml hP hK hD hA hS hl hE hX
  have hl : lv_has ls 1 [(0, .ref h)] := hl
  refine lv_aload_n hx hb dX3_init_0 rfl (lv_at hl 0 rfl) ?_
  refine W.objInit hx hb hown (hts _ m_909) (hts _ m_901) (hts _ m_902) rfl (by rw [hml]; exact hl.1) rfl dX3_init_1 (Nat.le_of_ble_eq_true rfl) (Nat.le_of_ble_eq_true rfl) ?_
  refine W.eq (g2 := F0 m 4 ls []) rfl ?_
  refine lv_aload_n hx hb dX3_init_4 rfl (lv_at hl 0 rfl) ?_
  refine lv_sipush (v := 150) hx hb dX3_init_5 (by decide) ?_
  refine gw_newa (atype := .int) (ty := .int) (N' := 150) (a0 := (150, .inl (fun _ => 0))) hx hb (hts _ m_903) rfl hK hP hD hS hA 0 rfl (fun _ _ h => h) (fun _ => rfl) (by decide) (by decide) (by decide) (Nat.le_of_ble_eq_true rfl) (Nat.le_of_ble_eq_true rfl) dX3_init_8 (fun q_1 H hP hD hS => ?_)
  have hPD : gPD G A [(h, .inr (3, [.null, .null, .null, .null, .null, .null, .null, .null, .int 0, .long 0, .int 0, .int 0, .int 0, .int 0, .long 0, .int 0])), (q_1, .inl (cI, 150, .inl (fun _ => 0)))] H := ⟨hP, hD⟩
  obtain ⟨hP, hD⟩ := hPD
  refine va_putF (D := G) (ci := 3) (v := .ref q_1) (ty := (tyX3 0)) (C := RX3) (T := TX3) (N := 16) hx hb hts iX3 tyX3 tyX3_ok nmX3 hown hK hP hD hS 0 rfl rfl 0 (by decide) (hts _ m_481) (fun _ h9 => h9) rfl hin rfl (tyX3_ok 0 (by decide)) rfl rfl (Nat.le_of_ble_eq_true rfl) dX3_init_10 (fun H locs hP hD hS => ?_)
  have hPD : gPD G A [(h, .inr (3, [.ref q_1, .null, .null, .null, .null, .null, .null, .null, .int 0, .long 0, .int 0, .int 0, .int 0, .int 0, .long 0, .int 0])), (q_1, .inl (cI, 150, .inl (fun _ => 0)))] H := ⟨hP, hD⟩
  obtain ⟨hP, hD⟩ := hPD
  refine lv_aload_n hx hb dX3_init_13 rfl (lv_at hl 0 rfl) ?_
  refine lv_sipush (v := 150) hx hb dX3_init_14 (by decide) ?_
  refine gw_newa (atype := .int) (ty := .int) (N' := 150) (a0 := (150, .inl (fun _ => 0))) hx hb (hts _ m_903) rfl hK hP hD hS hA 0 rfl (fun _ _ h => h) (fun _ => rfl) (by decide) (by decide) (by decide) (Nat.le_of_ble_eq_true rfl) (Nat.le_of_ble_eq_true rfl) dX3_init_17 (fun q_2 H hP hD hS => ?_)
  have hPD : gPD G A [(h, .inr (3, [.ref q_1, .null, .null, .null, .null, .null, .null, .null, .int 0, .long 0, .int 0, .int 0, .int 0, .int 0, .long 0, .int 0])), (q_1, .inl (cI, 150, .inl (fun _ => 0))), (q_2, .inl (cI, 150, .inl (fun _ => 0)))] H := ⟨hP, hD⟩
  obtain ⟨hP, hD⟩ := hPD
  refine va_putF (D := G) (ci := 3) (v := .ref q_2) (ty := (tyX3 1)) (C := RX3) (T := TX3) (N := 16) hx hb hts iX3 tyX3 tyX3_ok nmX3 hown hK hP hD hS 0 rfl rfl 1 (by decide) (hts _ m_491) (fun _ h9 => h9) rfl hin rfl (tyX3_ok 1 (by decide)) rfl rfl (Nat.le_of_ble_eq_true rfl) dX3_init_19 (fun H locs hP hD hS => ?_)
  have hPD : gPD G A [(h, .inr (3, [.ref q_1, .ref q_2, .null, .null, .null, .null, .null, .null, .int 0, .long 0, .int 0, .int 0, .int 0, .int 0, .long 0, .int 0])), (q_1, .inl (cI, 150, .inl (fun _ => 0))), (q_2, .inl (cI, 150, .inl (fun _ => 0)))] H := ⟨hP, hD⟩
  obtain ⟨hP, hD⟩ := hPD
  refine lv_aload_n hx hb dX3_init_22 rfl (lv_at hl 0 rfl) ?_
  refine lv_bipush (v := 10) hx hb dX3_init_23 (by decide) ?_
  refine gw_newa (atype := .boolean) (ty := .boolean) (N' := 10) (a0 := (10, .inl (fun _ => 0))) hx hb (hts _ m_910) rfl hK hP hD hS hA 2 rfl (fun _ _ h => h) (fun _ => rfl) (by decide) (by decide) (by decide) (Nat.le_of_ble_eq_true rfl) (Nat.le_of_ble_eq_true rfl) dX3_init_25 (fun q_3 H hP hD hS => ?_)
  have hPD : gPD G A [(h, .inr (3, [.ref q_1, .ref q_2, .null, .null, .null, .null, .null, .null, .int 0, .long 0, .int 0, .int 0, .int 0, .int 0, .long 0, .int 0])), (q_1, .inl (cI, 150, .inl (fun _ => 0))), (q_2, .inl (cI, 150, .inl (fun _ => 0))), (q_3, .inl (cZ, 10, .inl (fun _ => 0)))] H := ⟨hP, hD⟩
  obtain ⟨hP, hD⟩ := hPD
  refine va_putF (D := G) (ci := 3) (v := .ref q_3) (ty := (tyX3 2)) (C := RX3) (T := TX3) (N := 16) hx hb hts iX3 tyX3 tyX3_ok nmX3 hown hK hP hD hS 0 rfl rfl 2 (by decide) (hts _ m_625) (fun _ h9 => h9) rfl hin rfl (tyX3_ok 2 (by decide)) rfl rfl (Nat.le_of_ble_eq_true rfl) dX3_init_27 (fun H locs hP hD hS => ?_)
  have hPD : gPD G A [(h, .inr (3, [.ref q_1, .ref q_2, .ref q_3, .null, .null, .null, .null, .null, .int 0, .long 0, .int 0, .int 0, .int 0, .int 0, .long 0, .int 0])), (q_1, .inl (cI, 150, .inl (fun _ => 0))), (q_2, .inl (cI, 150, .inl (fun _ => 0))), (q_3, .inl (cZ, 10, .inl (fun _ => 0)))] H := ⟨hP, hD⟩
  obtain ⟨hP, hD⟩ := hPD
  refine lv_aload_n hx hb dX3_init_30 rfl (lv_at hl 0 rfl) ?_
  refine lv_iconst (v := 3) hx hb dX3_init_31 (by decide) ?_
  refine gw_newa (atype := .int) (ty := .int) (N' := 3) (a0 := (3, .inl (fun _ => 0))) hx hb (hts _ m_903) rfl hK hP hD hS hA 0 rfl (fun _ _ h => h) (fun _ => rfl) (by decide) (by decide) (by decide) (Nat.le_of_ble_eq_true rfl) (Nat.le_of_ble_eq_true rfl) dX3_init_32 (fun q_4 H hP hD hS => ?_)
  have hPD : gPD G A [(h, .inr (3, [.ref q_1, .ref q_2, .ref q_3, .null, .null, .null, .null, .null, .int 0, .long 0, .int 0, .int 0, .int 0, .int 0, .long 0, .int 0])), (q_1, .inl (cI, 150, .inl (fun _ => 0))), (q_2, .inl (cI, 150, .inl (fun _ => 0))), (q_3, .inl (cZ, 10, .inl (fun _ => 0))), (q_4, .inl (cI, 3, .inl (fun _ => 0)))] H := ⟨hP, hD⟩
  obtain ⟨hP, hD⟩ := hPD
  refine va_putF (D := G) (ci := 3) (v := .ref q_4) (ty := (tyX3 3)) (C := RX3) (T := TX3) (N := 16) hx hb hts iX3 tyX3 tyX3_ok nmX3 hown hK hP hD hS 0 rfl rfl 3 (by decide) (hts _ m_477) (fun _ h9 => h9) rfl hin rfl (tyX3_ok 3 (by decide)) rfl rfl (Nat.le_of_ble_eq_true rfl) dX3_init_34 (fun H locs hP hD hS => ?_)
  have hPD : gPD G A [(h, .inr (3, [.ref q_1, .ref q_2, .ref q_3, .ref q_4, .null, .null, .null, .null, .int 0, .long 0, .int 0, .int 0, .int 0, .int 0, .long 0, .int 0])), (q_1, .inl (cI, 150, .inl (fun _ => 0))), (q_2, .inl (cI, 150, .inl (fun _ => 0))), (q_3, .inl (cZ, 10, .inl (fun _ => 0))), (q_4, .inl (cI, 3, .inl (fun _ => 0)))] H := ⟨hP, hD⟩
  obtain ⟨hP, hD⟩ := hPD
  refine lv_aload_n hx hb dX3_init_37 rfl (lv_at hl 0 rfl) ?_
  refine lv_iconst (v := 3) hx hb dX3_init_38 (by decide) ?_
  refine gw_newa (atype := .int) (ty := .int) (N' := 3) (a0 := (3, .inl (fun _ => 0))) hx hb (hts _ m_903) rfl hK hP hD hS hA 0 rfl (fun _ _ h => h) (fun _ => rfl) (by decide) (by decide) (by decide) (Nat.le_of_ble_eq_true rfl) (Nat.le_of_ble_eq_true rfl) dX3_init_39 (fun q_5 H hP hD hS => ?_)
  have hPD : gPD G A [(h, .inr (3, [.ref q_1, .ref q_2, .ref q_3, .ref q_4, .null, .null, .null, .null, .int 0, .long 0, .int 0, .int 0, .int 0, .int 0, .long 0, .int 0])), (q_1, .inl (cI, 150, .inl (fun _ => 0))), (q_2, .inl (cI, 150, .inl (fun _ => 0))), (q_3, .inl (cZ, 10, .inl (fun _ => 0))), (q_4, .inl (cI, 3, .inl (fun _ => 0))), (q_5, .inl (cI, 3, .inl (fun _ => 0)))] H := ⟨hP, hD⟩
  obtain ⟨hP, hD⟩ := hPD
  refine va_putF (D := G) (ci := 3) (v := .ref q_5) (ty := (tyX3 4)) (C := RX3) (T := TX3) (N := 16) hx hb hts iX3 tyX3 tyX3_ok nmX3 hown hK hP hD hS 0 rfl rfl 4 (by decide) (hts _ m_480) (fun _ h9 => h9) rfl hin rfl (tyX3_ok 4 (by decide)) rfl rfl (Nat.le_of_ble_eq_true rfl) dX3_init_41 (fun H locs hP hD hS => ?_)
  have hPD : gPD G A [(h, .inr (3, [.ref q_1, .ref q_2, .ref q_3, .ref q_4, .ref q_5, .null, .null, .null, .int 0, .long 0, .int 0, .int 0, .int 0, .int 0, .long 0, .int 0])), (q_1, .inl (cI, 150, .inl (fun _ => 0))), (q_2, .inl (cI, 150, .inl (fun _ => 0))), (q_3, .inl (cZ, 10, .inl (fun _ => 0))), (q_4, .inl (cI, 3, .inl (fun _ => 0))), (q_5, .inl (cI, 3, .inl (fun _ => 0)))] H := ⟨hP, hD⟩
  obtain ⟨hP, hD⟩ := hPD
  refine lv_aload_n hx hb dX3_init_44 rfl (lv_at hl 0 rfl) ?_
  refine lv_iconst (v := 3) hx hb dX3_init_45 (by decide) ?_
  refine gw_newa (atype := .int) (ty := .int) (N' := 3) (a0 := (3, .inl (fun _ => 0))) hx hb (hts _ m_903) rfl hK hP hD hS hA 0 rfl (fun _ _ h => h) (fun _ => rfl) (by decide) (by decide) (by decide) (Nat.le_of_ble_eq_true rfl) (Nat.le_of_ble_eq_true rfl) dX3_init_46 (fun q_6 H hP hD hS => ?_)
  have hPD : gPD G A [(h, .inr (3, [.ref q_1, .ref q_2, .ref q_3, .ref q_4, .ref q_5, .null, .null, .null, .int 0, .long 0, .int 0, .int 0, .int 0, .int 0, .long 0, .int 0])), (q_1, .inl (cI, 150, .inl (fun _ => 0))), (q_2, .inl (cI, 150, .inl (fun _ => 0))), (q_3, .inl (cZ, 10, .inl (fun _ => 0))), (q_4, .inl (cI, 3, .inl (fun _ => 0))), (q_5, .inl (cI, 3, .inl (fun _ => 0))), (q_6, .inl (cI, 3, .inl (fun _ => 0)))] H := ⟨hP, hD⟩
  obtain ⟨hP, hD⟩ := hPD
  refine va_putF (D := G) (ci := 3) (v := .ref q_6) (ty := (tyX3 5)) (C := RX3) (T := TX3) (N := 16) hx hb hts iX3 tyX3 tyX3_ok nmX3 hown hK hP hD hS 0 rfl rfl 5 (by decide) (hts _ m_479) (fun _ h9 => h9) rfl hin rfl (tyX3_ok 5 (by decide)) rfl rfl (Nat.le_of_ble_eq_true rfl) dX3_init_48 (fun H locs hP hD hS => ?_)
  have hPD : gPD G A [(h, .inr (3, [.ref q_1, .ref q_2, .ref q_3, .ref q_4, .ref q_5, .ref q_6, .null, .null, .int 0, .long 0, .int 0, .int 0, .int 0, .int 0, .long 0, .int 0])), (q_1, .inl (cI, 150, .inl (fun _ => 0))), (q_2, .inl (cI, 150, .inl (fun _ => 0))), (q_3, .inl (cZ, 10, .inl (fun _ => 0))), (q_4, .inl (cI, 3, .inl (fun _ => 0))), (q_5, .inl (cI, 3, .inl (fun _ => 0))), (q_6, .inl (cI, 3, .inl (fun _ => 0)))] H := ⟨hP, hD⟩
  obtain ⟨hP, hD⟩ := hPD
  refine lv_aload_n hx hb dX3_init_51 rfl (lv_at hl 0 rfl) ?_
  refine lv_iconst (v := 3) hx hb dX3_init_52 (by decide) ?_
  refine gw_newa (atype := .int) (ty := .int) (N' := 3) (a0 := (3, .inl (fun _ => 0))) hx hb (hts _ m_903) rfl hK hP hD hS hA 0 rfl (fun _ _ h => h) (fun _ => rfl) (by decide) (by decide) (by decide) (Nat.le_of_ble_eq_true rfl) (Nat.le_of_ble_eq_true rfl) dX3_init_53 (fun q_7 H hP hD hS => ?_)
  have hPD : gPD G A [(h, .inr (3, [.ref q_1, .ref q_2, .ref q_3, .ref q_4, .ref q_5, .ref q_6, .null, .null, .int 0, .long 0, .int 0, .int 0, .int 0, .int 0, .long 0, .int 0])), (q_1, .inl (cI, 150, .inl (fun _ => 0))), (q_2, .inl (cI, 150, .inl (fun _ => 0))), (q_3, .inl (cZ, 10, .inl (fun _ => 0))), (q_4, .inl (cI, 3, .inl (fun _ => 0))), (q_5, .inl (cI, 3, .inl (fun _ => 0))), (q_6, .inl (cI, 3, .inl (fun _ => 0))), (q_7, .inl (cI, 3, .inl (fun _ => 0)))] H := ⟨hP, hD⟩
  obtain ⟨hP, hD⟩ := hPD
  refine va_putF (D := G) (ci := 3) (v := .ref q_7) (ty := (tyX3 6)) (C := RX3) (T := TX3) (N := 16) hx hb hts iX3 tyX3 tyX3_ok nmX3 hown hK hP hD hS 0 rfl rfl 6 (by decide) (hts _ m_476) (fun _ h9 => h9) rfl hin rfl (tyX3_ok 6 (by decide)) rfl rfl (Nat.le_of_ble_eq_true rfl) dX3_init_55 (fun H locs hP hD hS => ?_)
  have hPD : gPD G A [(h, .inr (3, [.ref q_1, .ref q_2, .ref q_3, .ref q_4, .ref q_5, .ref q_6, .ref q_7, .null, .int 0, .long 0, .int 0, .int 0, .int 0, .int 0, .long 0, .int 0])), (q_1, .inl (cI, 150, .inl (fun _ => 0))), (q_2, .inl (cI, 150, .inl (fun _ => 0))), (q_3, .inl (cZ, 10, .inl (fun _ => 0))), (q_4, .inl (cI, 3, .inl (fun _ => 0))), (q_5, .inl (cI, 3, .inl (fun _ => 0))), (q_6, .inl (cI, 3, .inl (fun _ => 0))), (q_7, .inl (cI, 3, .inl (fun _ => 0)))] H := ⟨hP, hD⟩
  obtain ⟨hP, hD⟩ := hPD
  refine lv_aload_n hx hb dX3_init_58 rfl (lv_at hl 0 rfl) ?_
  refine lv_iconst (v := 3) hx hb dX3_init_59 (by decide) ?_
  refine gw_newa (atype := .int) (ty := .int) (N' := 3) (a0 := (3, .inl (fun _ => 0))) hx hb (hts _ m_903) rfl hK hP hD hS hA 0 rfl (fun _ _ h => h) (fun _ => rfl) (by decide) (by decide) (by decide) (Nat.le_of_ble_eq_true rfl) (Nat.le_of_ble_eq_true rfl) dX3_init_60 (fun q_8 H hP hD hS => ?_)
  have hPD : gPD G A [(h, .inr (3, [.ref q_1, .ref q_2, .ref q_3, .ref q_4, .ref q_5, .ref q_6, .ref q_7, .null, .int 0, .long 0, .int 0, .int 0, .int 0, .int 0, .long 0, .int 0])), (q_1, .inl (cI, 150, .inl (fun _ => 0))), (q_2, .inl (cI, 150, .inl (fun _ => 0))), (q_3, .inl (cZ, 10, .inl (fun _ => 0))), (q_4, .inl (cI, 3, .inl (fun _ => 0))), (q_5, .inl (cI, 3, .inl (fun _ => 0))), (q_6, .inl (cI, 3, .inl (fun _ => 0))), (q_7, .inl (cI, 3, .inl (fun _ => 0))), (q_8, .inl (cI, 3, .inl (fun _ => 0)))] H := ⟨hP, hD⟩
  obtain ⟨hP, hD⟩ := hPD
  refine va_putF (D := G) (ci := 3) (v := .ref q_8) (ty := (tyX3 7)) (C := RX3) (T := TX3) (N := 16) hx hb hts iX3 tyX3 tyX3_ok nmX3 hown hK hP hD hS 0 rfl rfl 7 (by decide) (hts _ m_478) (fun _ h9 => h9) rfl hin rfl (tyX3_ok 7 (by decide)) rfl rfl (Nat.le_of_ble_eq_true rfl) dX3_init_62 (fun H locs hP hD hS => ?_)
  have hPD : gPD G A [(h, .inr (3, [.ref q_1, .ref q_2, .ref q_3, .ref q_4, .ref q_5, .ref q_6, .ref q_7, .ref q_8, .int 0, .long 0, .int 0, .int 0, .int 0, .int 0, .long 0, .int 0])), (q_1, .inl (cI, 150, .inl (fun _ => 0))), (q_2, .inl (cI, 150, .inl (fun _ => 0))), (q_3, .inl (cZ, 10, .inl (fun _ => 0))), (q_4, .inl (cI, 3, .inl (fun _ => 0))), (q_5, .inl (cI, 3, .inl (fun _ => 0))), (q_6, .inl (cI, 3, .inl (fun _ => 0))), (q_7, .inl (cI, 3, .inl (fun _ => 0))), (q_8, .inl (cI, 3, .inl (fun _ => 0)))] H := ⟨hP, hD⟩
  obtain ⟨hP, hD⟩ := hPD
  refine lv_aload_n hx hb dX3_init_65 rfl (lv_at hl 0 rfl) ?_
  refine lv_iconst (v := 0) hx hb dX3_init_66 (by decide) ?_
  refine va_put (D := G) (ci := 3) (v := .int 0) (ty := .int) (C := RX3) (T := TX3) (N := 16) hx hb hts iX3 tyX3 tyX3_ok nmX3 hown hK hP hD hS 0 rfl rfl 8 (by decide) (hts _ m_475) (fun _ h9 => h9) rfl (tyX3_ok 8 (by decide)) rfl rfl (Nat.le_of_ble_eq_true rfl) dX3_init_67 (fun H locs hP hD hS => ?_)
  have hPD : gPD G A [(h, .inr (3, [.ref q_1, .ref q_2, .ref q_3, .ref q_4, .ref q_5, .ref q_6, .ref q_7, .ref q_8, .int 0, .long 0, .int 0, .int 0, .int 0, .int 0, .long 0, .int 0])), (q_1, .inl (cI, 150, .inl (fun _ => 0))), (q_2, .inl (cI, 150, .inl (fun _ => 0))), (q_3, .inl (cZ, 10, .inl (fun _ => 0))), (q_4, .inl (cI, 3, .inl (fun _ => 0))), (q_5, .inl (cI, 3, .inl (fun _ => 0))), (q_6, .inl (cI, 3, .inl (fun _ => 0))), (q_7, .inl (cI, 3, .inl (fun _ => 0))), (q_8, .inl (cI, 3, .inl (fun _ => 0)))] H := ⟨hP, hD⟩
  obtain ⟨hP, hD⟩ := hPD
  refine lv_aload_n hx hb dX3_init_70 rfl (lv_at hl 0 rfl) ?_
  refine lv_lconst (v := 1) hx hb dX3_init_71 (by decide) ?_
  refine va_put (D := G) (ci := 3) (v := .long 1) (ty := .long) (C := RX3) (T := TX3) (N := 16) hx hb hts iX3 tyX3 tyX3_ok nmX3 hown hK hP hD hS 0 rfl rfl 9 (by decide) (hts _ m_468) (fun _ h9 => h9) rfl (tyX3_ok 9 (by decide)) rfl rfl (Nat.le_of_ble_eq_true rfl) dX3_init_72 (fun H locs hP hD hS => ?_)
  have hPD : gPD G A [(h, .inr (3, [.ref q_1, .ref q_2, .ref q_3, .ref q_4, .ref q_5, .ref q_6, .ref q_7, .ref q_8, .int 0, .long 1, .int 0, .int 0, .int 0, .int 0, .long 0, .int 0])), (q_1, .inl (cI, 150, .inl (fun _ => 0))), (q_2, .inl (cI, 150, .inl (fun _ => 0))), (q_3, .inl (cZ, 10, .inl (fun _ => 0))), (q_4, .inl (cI, 3, .inl (fun _ => 0))), (q_5, .inl (cI, 3, .inl (fun _ => 0))), (q_6, .inl (cI, 3, .inl (fun _ => 0))), (q_7, .inl (cI, 3, .inl (fun _ => 0))), (q_8, .inl (cI, 3, .inl (fun _ => 0)))] H := ⟨hP, hD⟩
  obtain ⟨hP, hD⟩ := hPD
  refine lv_aload_n hx hb dX3_init_75 rfl (lv_at hl 0 rfl) ?_
  refine lv_iconst (v := 0) hx hb dX3_init_76 (by decide) ?_
  refine va_put (D := G) (ci := 3) (v := .int 0) (ty := .int) (C := RX3) (T := TX3) (N := 16) hx hb hts iX3 tyX3 tyX3_ok nmX3 hown hK hP hD hS 0 rfl rfl 10 (by decide) (hts _ m_470) (fun _ h9 => h9) rfl (tyX3_ok 10 (by decide)) rfl rfl (Nat.le_of_ble_eq_true rfl) dX3_init_77 (fun H locs hP hD hS => ?_)
  have hPD : gPD G A [(h, .inr (3, [.ref q_1, .ref q_2, .ref q_3, .ref q_4, .ref q_5, .ref q_6, .ref q_7, .ref q_8, .int 0, .long 1, .int 0, .int 0, .int 0, .int 0, .long 0, .int 0])), (q_1, .inl (cI, 150, .inl (fun _ => 0))), (q_2, .inl (cI, 150, .inl (fun _ => 0))), (q_3, .inl (cZ, 10, .inl (fun _ => 0))), (q_4, .inl (cI, 3, .inl (fun _ => 0))), (q_5, .inl (cI, 3, .inl (fun _ => 0))), (q_6, .inl (cI, 3, .inl (fun _ => 0))), (q_7, .inl (cI, 3, .inl (fun _ => 0))), (q_8, .inl (cI, 3, .inl (fun _ => 0)))] H := ⟨hP, hD⟩
  obtain ⟨hP, hD⟩ := hPD
  refine lv_aload_n hx hb dX3_init_80 rfl (lv_at hl 0 rfl) ?_
  refine lv_iconst (v := 0) hx hb dX3_init_81 (by decide) ?_
  refine va_put (D := G) (ci := 3) (v := .int 0) (ty := .int) (C := RX3) (T := TX3) (N := 16) hx hb hts iX3 tyX3 tyX3_ok nmX3 hown hK hP hD hS 0 rfl rfl 11 (by decide) (hts _ m_613) (fun _ h9 => h9) rfl (tyX3_ok 11 (by decide)) rfl rfl (Nat.le_of_ble_eq_true rfl) dX3_init_82 (fun H locs hP hD hS => ?_)
  have hPD : gPD G A [(h, .inr (3, [.ref q_1, .ref q_2, .ref q_3, .ref q_4, .ref q_5, .ref q_6, .ref q_7, .ref q_8, .int 0, .long 1, .int 0, .int 0, .int 0, .int 0, .long 0, .int 0])), (q_1, .inl (cI, 150, .inl (fun _ => 0))), (q_2, .inl (cI, 150, .inl (fun _ => 0))), (q_3, .inl (cZ, 10, .inl (fun _ => 0))), (q_4, .inl (cI, 3, .inl (fun _ => 0))), (q_5, .inl (cI, 3, .inl (fun _ => 0))), (q_6, .inl (cI, 3, .inl (fun _ => 0))), (q_7, .inl (cI, 3, .inl (fun _ => 0))), (q_8, .inl (cI, 3, .inl (fun _ => 0)))] H := ⟨hP, hD⟩
  obtain ⟨hP, hD⟩ := hPD
  refine lv_aload_n hx hb dX3_init_85 rfl (lv_at hl 0 rfl) ?_
  refine lv_iconst (v := 0) hx hb dX3_init_86 (by decide) ?_
  refine va_put (D := G) (ci := 3) (v := .int 0) (ty := .boolean) (C := RX3) (T := TX3) (N := 16) hx hb hts iX3 tyX3 tyX3_ok nmX3 hown hK hP hD hS 0 rfl rfl 12 (by decide) (hts _ m_471) (fun _ h9 => h9) rfl (tyX3_ok 12 (by decide)) rfl rfl (Nat.le_of_ble_eq_true rfl) dX3_init_87 (fun H locs hP hD hS => ?_)
  have hPD : gPD G A [(h, .inr (3, [.ref q_1, .ref q_2, .ref q_3, .ref q_4, .ref q_5, .ref q_6, .ref q_7, .ref q_8, .int 0, .long 1, .int 0, .int 0, .int 0, .int 0, .long 0, .int 0])), (q_1, .inl (cI, 150, .inl (fun _ => 0))), (q_2, .inl (cI, 150, .inl (fun _ => 0))), (q_3, .inl (cZ, 10, .inl (fun _ => 0))), (q_4, .inl (cI, 3, .inl (fun _ => 0))), (q_5, .inl (cI, 3, .inl (fun _ => 0))), (q_6, .inl (cI, 3, .inl (fun _ => 0))), (q_7, .inl (cI, 3, .inl (fun _ => 0))), (q_8, .inl (cI, 3, .inl (fun _ => 0)))] H := ⟨hP, hD⟩
  obtain ⟨hP, hD⟩ := hPD
  refine lv_aload_n hx hb dX3_init_90 rfl (lv_at hl 0 rfl) ?_
  refine lv_iconst (v := 0) hx hb dX3_init_91 (by decide) ?_
  refine va_put (D := G) (ci := 3) (v := .int 0) (ty := .boolean) (C := RX3) (T := TX3) (N := 16) hx hb hts iX3 tyX3 tyX3_ok nmX3 hown hK hP hD hS 0 rfl rfl 13 (by decide) (hts _ m_473) (fun _ h9 => h9) rfl (tyX3_ok 13 (by decide)) rfl rfl (Nat.le_of_ble_eq_true rfl) dX3_init_92 (fun H locs hP hD hS => ?_)
  have hPD : gPD G A [(h, .inr (3, [.ref q_1, .ref q_2, .ref q_3, .ref q_4, .ref q_5, .ref q_6, .ref q_7, .ref q_8, .int 0, .long 1, .int 0, .int 0, .int 0, .int 0, .long 0, .int 0])), (q_1, .inl (cI, 150, .inl (fun _ => 0))), (q_2, .inl (cI, 150, .inl (fun _ => 0))), (q_3, .inl (cZ, 10, .inl (fun _ => 0))), (q_4, .inl (cI, 3, .inl (fun _ => 0))), (q_5, .inl (cI, 3, .inl (fun _ => 0))), (q_6, .inl (cI, 3, .inl (fun _ => 0))), (q_7, .inl (cI, 3, .inl (fun _ => 0))), (q_8, .inl (cI, 3, .inl (fun _ => 0)))] H := ⟨hP, hD⟩
  obtain ⟨hP, hD⟩ := hPD
  refine lv_aload_n hx hb dX3_init_95 rfl (lv_at hl 0 rfl) ?_
  refine lv_lconst (v := 0) hx hb dX3_init_96 (by decide) ?_
  refine va_put (D := G) (ci := 3) (v := .long 0) (ty := .long) (C := RX3) (T := TX3) (N := 16) hx hb hts iX3 tyX3 tyX3_ok nmX3 hown hK hP hD hS 0 rfl rfl 14 (by decide) (hts _ m_472) (fun _ h9 => h9) rfl (tyX3_ok 14 (by decide)) rfl rfl (Nat.le_of_ble_eq_true rfl) dX3_init_97 (fun H locs hP hD hS => ?_)
  have hPD : gPD G A [(h, .inr (3, [.ref q_1, .ref q_2, .ref q_3, .ref q_4, .ref q_5, .ref q_6, .ref q_7, .ref q_8, .int 0, .long 1, .int 0, .int 0, .int 0, .int 0, .long 0, .int 0])), (q_1, .inl (cI, 150, .inl (fun _ => 0))), (q_2, .inl (cI, 150, .inl (fun _ => 0))), (q_3, .inl (cZ, 10, .inl (fun _ => 0))), (q_4, .inl (cI, 3, .inl (fun _ => 0))), (q_5, .inl (cI, 3, .inl (fun _ => 0))), (q_6, .inl (cI, 3, .inl (fun _ => 0))), (q_7, .inl (cI, 3, .inl (fun _ => 0))), (q_8, .inl (cI, 3, .inl (fun _ => 0)))] H := ⟨hP, hD⟩
  obtain ⟨hP, hD⟩ := hPD
  refine lv_aload_n hx hb dX3_init_100 rfl (lv_at hl 0 rfl) ?_
  refine lv_iconst (v := 0) hx hb dX3_init_101 (by decide) ?_
  refine va_put (D := G) (ci := 3) (v := .int 0) (ty := .int) (C := RX3) (T := TX3) (N := 16) hx hb hts iX3 tyX3 tyX3_ok nmX3 hown hK hP hD hS 0 rfl rfl 15 (by decide) (hts _ m_474) (fun _ h9 => h9) rfl (tyX3_ok 15 (by decide)) rfl rfl (Nat.le_of_ble_eq_true rfl) dX3_init_102 (fun H locs hP hD hS => ?_)
  have hPD : gPD G A [(h, .inr (3, [.ref q_1, .ref q_2, .ref q_3, .ref q_4, .ref q_5, .ref q_6, .ref q_7, .ref q_8, .int 0, .long 1, .int 0, .int 0, .int 0, .int 0, .long 0, .int 0])), (q_1, .inl (cI, 150, .inl (fun _ => 0))), (q_2, .inl (cI, 150, .inl (fun _ => 0))), (q_3, .inl (cZ, 10, .inl (fun _ => 0))), (q_4, .inl (cI, 3, .inl (fun _ => 0))), (q_5, .inl (cI, 3, .inl (fun _ => 0))), (q_6, .inl (cI, 3, .inl (fun _ => 0))), (q_7, .inl (cI, 3, .inl (fun _ => 0))), (q_8, .inl (cI, 3, .inl (fun _ => 0)))] H := ⟨hP, hD⟩
  obtain ⟨hP, hD⟩ := hPD
  refine W.widen (k := 8) (n := 325) (Nat.le_of_ble_eq_true rfl) (Nat.le_of_ble_eq_true rfl) ?_
  exact gw_vret (fun k => [q_1, q_2, q_3, q_4, q_5, q_6, q_7, q_8].getD k 0) hx hb hr hlocks (hP.sub [0, 1, 2, 3, 4, 5, 6, 7, 8] rfl) (hD.sub [0, 1, 2, 3, 4, 5, 6, 7, 8] (by decide) rfl) hS trivial dX3_init_105
set_option maxHeartbeats 4000000 in
set_option maxRecDepth 100000 in
theorem c_X6_init (l : Launch) (G : va_G) (cI cJ cZ cB cT : ClassId) (h : Nat) : gMc l yX6_init (gws yX6_init cX6_init 1 none) 1 4 404 G (gT cI cJ cZ cB cT) (fun _ => True) [.ref h] [(h, .inr (6, [.null, .int 0, .null, .null, .null, .int 0]))] (fun (_ : Nat → Nat) => True) (fun (u : Nat → Nat) => ([(h, .inr (6, [.ref (u 0), .int 0, .ref (u 1), .ref (u 2), .ref (u 3), .int 0])), ((u 0), .inl (cI, 96, .inl (fun _ => 0))), ((u 1), .inl (cI, 300, .inl (fun _ => 0))), ((u 2), .inl (cI, 4, .inl (fun _ => 0))), ((u 3), .inl (cI, 4, .inl (fun _ => 0)))] : va_W)) := by
  intro sz
  refine gM_startx (Ex := (fun _ => True)) (Qf := fun A => va_Qv (fun (_ : Nat → Nat) => True) (gB G (fun (u : Nat → Nat) => ([(h, .inr (6, [.ref (u 0), .int 0, .ref (u 1), .ref (u 2), .ref (u 3), .int 0])), ((u 0), .inl (cI, 96, .inl (fun _ => 0))), ((u 1), .inl (cI, 300, .inl (fun _ => 0))), ((u 2), .inl (cI, 4, .inl (fun _ => 0))), ((u 3), .inl (cI, 4, .inl (fun _ => 0)))] : va_W)) A) A) (cc := cX6_init) (maxL := 1) (ret := none) (by decide) (Nat.le_of_ble_eq_true rfl) ?_
  intro p e s m args below meth c A ls H hx hb hr hts hown hin hlocks hml hP hK hD hA hS hl hE hX
  have hl : lv_has ls 1 [(0, .ref h)] := hl
  refine lv_aload_n hx hb dX6_init_0 rfl (lv_at hl 0 rfl) ?_
  refine W.objInit hx hb hown (hts _ m_911) (hts _ m_901) (hts _ m_902) rfl (by rw [hml]; exact hl.1) rfl dX6_init_1 (Nat.le_of_ble_eq_true rfl) (Nat.le_of_ble_eq_true rfl) ?_
  refine W.eq (g2 := F0 m 4 ls []) rfl ?_
  refine lv_aload_n hx hb dX6_init_4 rfl (lv_at hl 0 rfl) ?_
  refine lv_bipush (v := 96) hx hb dX6_init_5 (by decide) ?_
  refine gw_newa (atype := .int) (ty := .int) (N' := 96) (a0 := (96, .inl (fun _ => 0))) hx hb (hts _ m_903) rfl hK hP hD hS hA 0 rfl (fun _ _ h => h) (fun _ => rfl) (by decide) (by decide) (by decide) (Nat.le_of_ble_eq_true rfl) (Nat.le_of_ble_eq_true rfl) dX6_init_7 (fun q_1 H hP hD hS => ?_)
  have hPD : gPD G A [(h, .inr (6, [.null, .int 0, .null, .null, .null, .int 0])), (q_1, .inl (cI, 96, .inl (fun _ => 0)))] H := ⟨hP, hD⟩
  obtain ⟨hP, hD⟩ := hPD
  refine va_putF (D := G) (ci := 6) (v := .ref q_1) (ty := (tyX6 0)) (C := RX6) (T := TX6) (N := 6) hx hb hts iX6 tyX6 tyX6_ok nmX6 hown hK hP hD hS 0 rfl rfl 0 (by decide) (hts _ m_464) (fun _ h9 => h9) rfl hin rfl (tyX6_ok 0 (by decide)) rfl rfl (Nat.le_of_ble_eq_true rfl) dX6_init_9 (fun H locs hP hD hS => ?_)
  have hPD : gPD G A [(h, .inr (6, [.ref q_1, .int 0, .null, .null, .null, .int 0])), (q_1, .inl (cI, 96, .inl (fun _ => 0)))] H := ⟨hP, hD⟩
  obtain ⟨hP, hD⟩ := hPD
  refine lv_aload_n hx hb dX6_init_12 rfl (lv_at hl 0 rfl) ?_
  refine lv_iconst (v := 0) hx hb dX6_init_13 (by decide) ?_
  refine va_put (D := G) (ci := 6) (v := .int 0) (ty := .int) (C := RX6) (T := TX6) (N := 6) hx hb hts iX6 tyX6 tyX6_ok nmX6 hown hK hP hD hS 0 rfl rfl 1 (by decide) (hts _ m_459) (fun _ h9 => h9) rfl (tyX6_ok 1 (by decide)) rfl rfl (Nat.le_of_ble_eq_true rfl) dX6_init_14 (fun H locs hP hD hS => ?_)
  have hPD : gPD G A [(h, .inr (6, [.ref q_1, .int 0, .null, .null, .null, .int 0])), (q_1, .inl (cI, 96, .inl (fun _ => 0)))] H := ⟨hP, hD⟩
  obtain ⟨hP, hD⟩ := hPD
  refine lv_aload_n hx hb dX6_init_17 rfl (lv_at hl 0 rfl) ?_
  refine lv_sipush (v := 300) hx hb dX6_init_18 (by decide) ?_
  refine gw_newa (atype := .int) (ty := .int) (N' := 300) (a0 := (300, .inl (fun _ => 0))) hx hb (hts _ m_903) rfl hK hP hD hS hA 0 rfl (fun _ _ h => h) (fun _ => rfl) (by decide) (by decide) (by decide) (Nat.le_of_ble_eq_true rfl) (Nat.le_of_ble_eq_true rfl) dX6_init_21 (fun q_2 H hP hD hS => ?_)
  have hPD : gPD G A [(h, .inr (6, [.ref q_1, .int 0, .null, .null, .null, .int 0])), (q_1, .inl (cI, 96, .inl (fun _ => 0))), (q_2, .inl (cI, 300, .inl (fun _ => 0)))] H := ⟨hP, hD⟩
  obtain ⟨hP, hD⟩ := hPD
  refine va_putF (D := G) (ci := 6) (v := .ref q_2) (ty := (tyX6 2)) (C := RX6) (T := TX6) (N := 6) hx hb hts iX6 tyX6 tyX6_ok nmX6 hown hK hP hD hS 0 rfl rfl 2 (by decide) (hts _ m_463) (fun _ h9 => h9) rfl hin rfl (tyX6_ok 2 (by decide)) rfl rfl (Nat.le_of_ble_eq_true rfl) dX6_init_23 (fun H locs hP hD hS => ?_)
  have hPD : gPD G A [(h, .inr (6, [.ref q_1, .int 0, .ref q_2, .null, .null, .int 0])), (q_1, .inl (cI, 96, .inl (fun _ => 0))), (q_2, .inl (cI, 300, .inl (fun _ => 0)))] H := ⟨hP, hD⟩
  obtain ⟨hP, hD⟩ := hPD
  refine lv_aload_n hx hb dX6_init_26 rfl (lv_at hl 0 rfl) ?_
  refine lv_iconst (v := 4) hx hb dX6_init_27 (by decide) ?_
  refine gw_newa (atype := .int) (ty := .int) (N' := 4) (a0 := (4, .inl (fun _ => 0))) hx hb (hts _ m_903) rfl hK hP hD hS hA 0 rfl (fun _ _ h => h) (fun _ => rfl) (by decide) (by decide) (by decide) (Nat.le_of_ble_eq_true rfl) (Nat.le_of_ble_eq_true rfl) dX6_init_28 (fun q_3 H hP hD hS => ?_)
  have hPD : gPD G A [(h, .inr (6, [.ref q_1, .int 0, .ref q_2, .null, .null, .int 0])), (q_1, .inl (cI, 96, .inl (fun _ => 0))), (q_2, .inl (cI, 300, .inl (fun _ => 0))), (q_3, .inl (cI, 4, .inl (fun _ => 0)))] H := ⟨hP, hD⟩
  obtain ⟨hP, hD⟩ := hPD
  refine va_putF (D := G) (ci := 6) (v := .ref q_3) (ty := (tyX6 3)) (C := RX6) (T := TX6) (N := 6) hx hb hts iX6 tyX6 tyX6_ok nmX6 hown hK hP hD hS 0 rfl rfl 3 (by decide) (hts _ m_461) (fun _ h9 => h9) rfl hin rfl (tyX6_ok 3 (by decide)) rfl rfl (Nat.le_of_ble_eq_true rfl) dX6_init_30 (fun H locs hP hD hS => ?_)
  have hPD : gPD G A [(h, .inr (6, [.ref q_1, .int 0, .ref q_2, .ref q_3, .null, .int 0])), (q_1, .inl (cI, 96, .inl (fun _ => 0))), (q_2, .inl (cI, 300, .inl (fun _ => 0))), (q_3, .inl (cI, 4, .inl (fun _ => 0)))] H := ⟨hP, hD⟩
  obtain ⟨hP, hD⟩ := hPD
  refine lv_aload_n hx hb dX6_init_33 rfl (lv_at hl 0 rfl) ?_
  refine lv_iconst (v := 4) hx hb dX6_init_34 (by decide) ?_
  refine gw_newa (atype := .int) (ty := .int) (N' := 4) (a0 := (4, .inl (fun _ => 0))) hx hb (hts _ m_903) rfl hK hP hD hS hA 0 rfl (fun _ _ h => h) (fun _ => rfl) (by decide) (by decide) (by decide) (Nat.le_of_ble_eq_true rfl) (Nat.le_of_ble_eq_true rfl) dX6_init_35 (fun q_4 H hP hD hS => ?_)
  have hPD : gPD G A [(h, .inr (6, [.ref q_1, .int 0, .ref q_2, .ref q_3, .null, .int 0])), (q_1, .inl (cI, 96, .inl (fun _ => 0))), (q_2, .inl (cI, 300, .inl (fun _ => 0))), (q_3, .inl (cI, 4, .inl (fun _ => 0))), (q_4, .inl (cI, 4, .inl (fun _ => 0)))] H := ⟨hP, hD⟩
  obtain ⟨hP, hD⟩ := hPD
  refine va_putF (D := G) (ci := 6) (v := .ref q_4) (ty := (tyX6 4)) (C := RX6) (T := TX6) (N := 6) hx hb hts iX6 tyX6 tyX6_ok nmX6 hown hK hP hD hS 0 rfl rfl 4 (by decide) (hts _ m_462) (fun _ h9 => h9) rfl hin rfl (tyX6_ok 4 (by decide)) rfl rfl (Nat.le_of_ble_eq_true rfl) dX6_init_37 (fun H locs hP hD hS => ?_)
  have hPD : gPD G A [(h, .inr (6, [.ref q_1, .int 0, .ref q_2, .ref q_3, .ref q_4, .int 0])), (q_1, .inl (cI, 96, .inl (fun _ => 0))), (q_2, .inl (cI, 300, .inl (fun _ => 0))), (q_3, .inl (cI, 4, .inl (fun _ => 0))), (q_4, .inl (cI, 4, .inl (fun _ => 0)))] H := ⟨hP, hD⟩
  obtain ⟨hP, hD⟩ := hPD
  refine lv_aload_n hx hb dX6_init_40 rfl (lv_at hl 0 rfl) ?_
  refine lv_iconst (v := 0) hx hb dX6_init_41 (by decide) ?_
  refine va_put (D := G) (ci := 6) (v := .int 0) (ty := .int) (C := RX6) (T := TX6) (N := 6) hx hb hts iX6 tyX6 tyX6_ok nmX6 hown hK hP hD hS 0 rfl rfl 5 (by decide) (hts _ m_460) (fun _ h9 => h9) rfl (tyX6_ok 5 (by decide)) rfl rfl (Nat.le_of_ble_eq_true rfl) dX6_init_42 (fun H locs hP hD hS => ?_)
  have hPD : gPD G A [(h, .inr (6, [.ref q_1, .int 0, .ref q_2, .ref q_3, .ref q_4, .int 0])), (q_1, .inl (cI, 96, .inl (fun _ => 0))), (q_2, .inl (cI, 300, .inl (fun _ => 0))), (q_3, .inl (cI, 4, .inl (fun _ => 0))), (q_4, .inl (cI, 4, .inl (fun _ => 0)))] H := ⟨hP, hD⟩
  obtain ⟨hP, hD⟩ := hPD
  refine W.widen (k := 4) (n := 404) (Nat.le_of_ble_eq_true rfl) (Nat.le_of_ble_eq_true rfl) ?_
  exact gw_vret (fun k => [q_1, q_2, q_3, q_4].getD k 0) hx hb hr hlocks (hP.sub [0, 1, 2, 3, 4] rfl) (hD.sub [0, 1, 2, 3, 4] (by decide) rfl) hS trivial dX6_init_45
