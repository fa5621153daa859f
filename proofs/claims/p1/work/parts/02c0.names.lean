theorem dX0_init_0 : decode cX0_init 0 = .ok (.aload_n 0, 1) := by decide +kernel
theorem dX0_init_1 : decode cX0_init 1 = .ok (.invokespecial 3, 3) := by decide +kernel
theorem dX0_init_4 : decode cX0_init 4 = .ok (.aload_n 0, 1) := by decide +kernel
theorem dX0_init_5 : decode cX0_init 5 = .ok (.iconst 0, 1) := by decide +kernel
theorem dX0_init_6 : decode cX0_init 6 = .ok (.putfield 9, 3) := by decide +kernel
theorem dX0_init_9 : decode cX0_init 9 = .ok (.aload_n 0, 1) := by decide +kernel
theorem dX0_init_10 : decode cX0_init 10 = .ok (.lconst 1, 1) := by decide +kernel
theorem dX0_init_11 : decode cX0_init 11 = .ok (.putfield 15, 3) := by decide +kernel
theorem dX0_init_14 : decode cX0_init 14 = .ok (.aload_n 0, 1) := by decide +kernel
theorem dX0_init_15 : decode cX0_init 15 = .ok (.bipush 16, 2) := by decide +kernel
theorem dX0_init_17 : decode cX0_init 17 = .ok (.newarray .long, 2) := by decide +kernel
theorem dX0_init_19 : decode cX0_init 19 = .ok (.putfield 19, 3) := by decide +kernel
theorem dX0_init_22 : decode cX0_init 22 = .ok (.aload_n 0, 1) := by decide +kernel
theorem dX0_init_23 : decode cX0_init 23 = .ok (.bipush 16, 2) := by decide +kernel
theorem dX0_init_25 : decode cX0_init 25 = .ok (.newarray .long, 2) := by decide +kernel
theorem dX0_init_27 : decode cX0_init 27 = .ok (.putfield 23, 3) := by decide +kernel
theorem dX0_init_30 : decode cX0_init 30 = .ok (.return_, 1) := by decide +kernel
theorem dX0_begin_0 : decode cX0_begin 0 = .ok (.aload_n 0, 1) := by decide +kernel
theorem dX0_begin_1 : decode cX0_begin 1 = .ok (.iconst 0, 1) := by decide +kernel
theorem dX0_begin_2 : decode cX0_begin 2 = .ok (.putfield 9, 3) := by decide +kernel
theorem dX0_begin_5 : decode cX0_begin 5 = .ok (.aload_n 0, 1) := by decide +kernel
theorem dX0_begin_6 : decode cX0_begin 6 = .ok (.lconst 1, 1) := by decide +kernel
theorem dX0_begin_7 : decode cX0_begin 7 = .ok (.putfield 15, 3) := by decide +kernel
theorem dX0_begin_10 : decode cX0_begin 10 = .ok (.iconst 0, 1) := by decide +kernel
theorem dX0_begin_11 : decode cX0_begin 11 = .ok (.istore_n 3, 1) := by decide +kernel
theorem dX0_begin_12 : decode cX0_begin 12 = .ok (.iload_n 3, 1) := by decide +kernel
theorem dX0_begin_13 : decode cX0_begin 13 = .ok (.aload_n 0, 1) := by decide +kernel
theorem dX0_begin_14 : decode cX0_begin 14 = .ok (.getfield 19, 3) := by decide +kernel
theorem dX0_begin_17 : decode cX0_begin 17 = .ok (.arraylength, 1) := by decide +kernel
theorem dX0_begin_18 : decode cX0_begin 18 = .ok (.if_icmp .ge 29, 3) := by decide +kernel
theorem dX0_begin_21 : decode cX0_begin 21 = .ok (.aload_n 0, 1) := by decide +kernel
theorem dX0_begin_22 : decode cX0_begin 22 = .ok (.getfield 19, 3) := by decide +kernel
theorem dX0_begin_25 : decode cX0_begin 25 = .ok (.iload_n 3, 1) := by decide +kernel
theorem dX0_begin_26 : decode cX0_begin 26 = .ok (.iload_n 3, 1) := by decide +kernel
theorem dX0_begin_27 : decode cX0_begin 27 = .ok (.iload_n 1, 1) := by decide +kernel
theorem dX0_begin_28 : decode cX0_begin 28 = .ok (.iconst 4, 1) := by decide +kernel
theorem dX0_begin_29 : decode cX0_begin 29 = .ok (.imul, 1) := by decide +kernel
theorem dX0_begin_30 : decode cX0_begin 30 = .ok (.iload_n 2, 1) := by decide +kernel
theorem dX0_begin_31 : decode cX0_begin 31 = .ok (.iadd, 1) := by decide +kernel
theorem dX0_begin_32 : decode cX0_begin 32 = .ok (.if_icmp .ne 7, 3) := by decide +kernel
theorem dX0_begin_35 : decode cX0_begin 35 = .ok (.lconst 1, 1) := by decide +kernel
theorem dX0_begin_36 : decode cX0_begin 36 = .ok (.goto 4, 3) := by decide +kernel
theorem dX0_begin_39 : decode cX0_begin 39 = .ok (.lconst 0, 1) := by decide +kernel
theorem dX0_begin_40 : decode cX0_begin 40 = .ok (.lastore, 1) := by decide +kernel
theorem dX0_begin_41 : decode cX0_begin 41 = .ok (.iinc 3 1, 3) := by decide +kernel
theorem dX0_begin_44 : decode cX0_begin 44 = .ok (.goto (-32), 3) := by decide +kernel
theorem dX0_begin_47 : decode cX0_begin 47 = .ok (.return_, 1) := by decide +kernel
theorem dX0_upper_0 : decode cX0_upper 0 = .ok (.lconst 0, 1) := by decide +kernel
theorem dX0_upper_1 : decode cX0_upper 1 = .ok (.lstore_n 2, 1) := by decide +kernel
theorem dX0_upper_2 : decode cX0_upper 2 = .ok (.iconst 0, 1) := by decide +kernel
theorem dX0_upper_3 : decode cX0_upper 3 = .ok (.istore 4, 2) := by decide +kernel
theorem dX0_upper_5 : decode cX0_upper 5 = .ok (.iload 4, 2) := by decide +kernel
theorem dX0_upper_7 : decode cX0_upper 7 = .ok (.aload_n 0, 1) := by decide +kernel
theorem dX0_upper_8 : decode cX0_upper 8 = .ok (.getfield 19, 3) := by decide +kernel
theorem dX0_upper_11 : decode cX0_upper 11 = .ok (.arraylength, 1) := by decide +kernel
theorem dX0_upper_12 : decode cX0_upper 12 = .ok (.if_icmp .ge 84, 3) := by decide +kernel
theorem dX0_upper_15 : decode cX0_upper 15 = .ok (.iload 4, 2) := by decide +kernel
theorem dX0_upper_17 : decode cX0_upper 17 = .ok (.iconst 4, 1) := by decide +kernel
theorem dX0_upper_18 : decode cX0_upper 18 = .ok (.idiv, 1) := by decide +kernel
theorem dX0_upper_19 : decode cX0_upper 19 = .ok (.iconst 3, 1) := by decide +kernel
theorem dX0_upper_20 : decode cX0_upper 20 = .ok (.if_icmp .ne 7, 3) := by decide +kernel
theorem dX0_upper_23 : decode cX0_upper 23 = .ok (.iconst 1, 1) := by decide +kernel
theorem dX0_upper_24 : decode cX0_upper 24 = .ok (.goto 4, 3) := by decide +kernel
theorem dX0_upper_27 : decode cX0_upper 27 = .ok (.iconst 0, 1) := by decide +kernel
theorem dX0_upper_28 : decode cX0_upper 28 = .ok (.istore 5, 2) := by decide +kernel
theorem dX0_upper_30 : decode cX0_upper 30 = .ok (.iload 4, 2) := by decide +kernel
theorem dX0_upper_32 : decode cX0_upper 32 = .ok (.iconst 4, 1) := by decide +kernel
theorem dX0_upper_33 : decode cX0_upper 33 = .ok (.irem, 1) := by decide +kernel
theorem dX0_upper_34 : decode cX0_upper 34 = .ok (.iconst 3, 1) := by decide +kernel
theorem dX0_upper_35 : decode cX0_upper 35 = .ok (.if_icmp .ne 7, 3) := by decide +kernel
theorem dX0_upper_38 : decode cX0_upper 38 = .ok (.iconst 1, 1) := by decide +kernel
theorem dX0_upper_39 : decode cX0_upper 39 = .ok (.goto 4, 3) := by decide +kernel
theorem dX0_upper_42 : decode cX0_upper 42 = .ok (.iconst 0, 1) := by decide +kernel
theorem dX0_upper_43 : decode cX0_upper 43 = .ok (.istore 6, 2) := by decide +kernel
theorem dX0_upper_45 : decode cX0_upper 45 = .ok (.iload_n 1, 1) := by decide +kernel
theorem dX0_upper_46 : decode cX0_upper 46 = .ok (.ifCond .ne 11, 3) := by decide +kernel
theorem dX0_upper_49 : decode cX0_upper 49 = .ok (.iload 5, 2) := by decide +kernel
theorem dX0_upper_51 : decode cX0_upper 51 = .ok (.ifCond .eq 39, 3) := by decide +kernel
theorem dX0_upper_54 : decode cX0_upper 54 = .ok (.goto 26, 3) := by decide +kernel
theorem dX0_upper_57 : decode cX0_upper 57 = .ok (.iload_n 1, 1) := by decide +kernel
theorem dX0_upper_58 : decode cX0_upper 58 = .ok (.iconst 1, 1) := by decide +kernel
theorem dX0_upper_59 : decode cX0_upper 59 = .ok (.if_icmp .ne 11, 3) := by decide +kernel
theorem dX0_upper_62 : decode cX0_upper 62 = .ok (.iload 6, 2) := by decide +kernel
theorem dX0_upper_64 : decode cX0_upper 64 = .ok (.ifCond .eq 26, 3) := by decide +kernel
theorem dX0_upper_67 : decode cX0_upper 67 = .ok (.goto 13, 3) := by decide +kernel
theorem dX0_upper_70 : decode cX0_upper 70 = .ok (.iload 5, 2) := by decide +kernel
theorem dX0_upper_72 : decode cX0_upper 72 = .ok (.ifCond .eq 18, 3) := by decide +kernel
theorem dX0_upper_75 : decode cX0_upper 75 = .ok (.iload 6, 2) := by decide +kernel
theorem dX0_upper_77 : decode cX0_upper 77 = .ok (.ifCond .ne 13, 3) := by decide +kernel
theorem dX0_upper_80 : decode cX0_upper 80 = .ok (.lload_n 2, 1) := by decide +kernel
theorem dX0_upper_81 : decode cX0_upper 81 = .ok (.aload_n 0, 1) := by decide +kernel
theorem dX0_upper_82 : decode cX0_upper 82 = .ok (.getfield 19, 3) := by decide +kernel
theorem dX0_upper_85 : decode cX0_upper 85 = .ok (.iload 4, 2) := by decide +kernel
theorem dX0_upper_87 : decode cX0_upper 87 = .ok (.laload, 1) := by decide +kernel
theorem dX0_upper_88 : decode cX0_upper 88 = .ok (.ladd, 1) := by decide +kernel
theorem dX0_upper_89 : decode cX0_upper 89 = .ok (.lstore_n 2, 1) := by decide +kernel
theorem dX0_upper_90 : decode cX0_upper 90 = .ok (.iinc 4 1, 3) := by decide +kernel
theorem dX0_upper_93 : decode cX0_upper 93 = .ok (.goto (-88), 3) := by decide +kernel
theorem dX0_upper_96 : decode cX0_upper 96 = .ok (.lload_n 2, 1) := by decide +kernel
theorem dX0_upper_97 : decode cX0_upper 97 = .ok (.lreturn, 1) := by decide +kernel
theorem dX1_init_0 : decode cX1_init 0 = .ok (.aload_n 0, 1) := by decide +kernel
theorem dX1_init_1 : decode cX1_init 1 = .ok (.invokespecial 3, 3) := by decide +kernel
theorem dX1_init_4 : decode cX1_init 4 = .ok (.aload_n 0, 1) := by decide +kernel
theorem dX1_init_5 : decode cX1_init 5 = .ok (.iconst 4, 1) := by decide +kernel
theorem dX1_init_6 : decode cX1_init 6 = .ok (.anewarray 9, 3) := by decide +kernel
theorem dX1_init_9 : decode cX1_init 9 = .ok (.putfield 11, 3) := by decide +kernel
theorem dX1_init_12 : decode cX1_init 12 = .ok (.aload_n 0, 1) := by decide +kernel
theorem dX1_init_13 : decode cX1_init 13 = .ok (.bipush 9, 2) := by decide +kernel
theorem dX1_init_15 : decode cX1_init 15 = .ok (.newarray .int, 2) := by decide +kernel
theorem dX1_init_17 : decode cX1_init 17 = .ok (.putfield 17, 3) := by decide +kernel
theorem dX1_init_20 : decode cX1_init 20 = .ok (.aload_n 0, 1) := by decide +kernel
theorem dX1_init_21 : decode cX1_init 21 = .ok (.bipush 40, 2) := by decide +kernel
theorem dX1_init_23 : decode cX1_init 23 = .ok (.newarray .int, 2) := by decide +kernel
theorem dX1_init_25 : decode cX1_init 25 = .ok (.putfield 21, 3) := by decide +kernel
theorem dX1_init_28 : decode cX1_init 28 = .ok (.aload_n 0, 1) := by decide +kernel
theorem dX1_init_29 : decode cX1_init 29 = .ok (.iconst 0, 1) := by decide +kernel
theorem dX1_init_30 : decode cX1_init 30 = .ok (.putfield 24, 3) := by decide +kernel
theorem dX1_init_33 : decode cX1_init 33 = .ok (.iconst 0, 1) := by decide +kernel
theorem dX1_init_34 : decode cX1_init 34 = .ok (.istore_n 1, 1) := by decide +kernel
theorem dX1_init_35 : decode cX1_init 35 = .ok (.iload_n 1, 1) := by decide +kernel
theorem dX1_init_36 : decode cX1_init 36 = .ok (.iconst 4, 1) := by decide +kernel
theorem dX1_init_37 : decode cX1_init 37 = .ok (.if_icmp .ge 22, 3) := by decide +kernel
theorem dX1_init_40 : decode cX1_init 40 = .ok (.aload_n 0, 1) := by decide +kernel
theorem dX1_init_41 : decode cX1_init 41 = .ok (.getfield 11, 3) := by decide +kernel
theorem dX1_init_44 : decode cX1_init 44 = .ok (.iload_n 1, 1) := by decide +kernel
theorem dX1_init_45 : decode cX1_init 45 = .ok (.new 9, 3) := by decide +kernel
theorem dX1_init_48 : decode cX1_init 48 = .ok (.dup, 1) := by decide +kernel
theorem dX1_init_49 : decode cX1_init 49 = .ok (.invokespecial 28, 3) := by decide +kernel
theorem dX1_init_52 : decode cX1_init 52 = .ok (.aastore, 1) := by decide +kernel
theorem dX1_init_53 : decode cX1_init 53 = .ok (.iinc 1 1, 3) := by decide +kernel
theorem dX1_init_56 : decode cX1_init 56 = .ok (.goto (-21), 3) := by decide +kernel
theorem dX1_init_59 : decode cX1_init 59 = .ok (.return_, 1) := by decide +kernel
theorem dX1_textOf_0 : decode cX1_textOf 0 = .ok (.iload_n 1, 1) := by decide +kernel
theorem dX1_textOf_1 : decode cX1_textOf 1 = .ok (.ifCond .lt 17, 3) := by decide +kernel
theorem dX1_textOf_4 : decode cX1_textOf 4 = .ok (.iload_n 1, 1) := by decide +kernel
theorem dX1_textOf_5 : decode cX1_textOf 5 = .ok (.iconst 4, 1) := by decide +kernel
theorem dX1_textOf_6 : decode cX1_textOf 6 = .ok (.if_icmp .ge 12, 3) := by decide +kernel
theorem dX1_textOf_9 : decode cX1_textOf 9 = .ok (.aload_n 0, 1) := by decide +kernel
theorem dX1_textOf_10 : decode cX1_textOf 10 = .ok (.getfield 11, 3) := by decide +kernel
theorem dX1_textOf_13 : decode cX1_textOf 13 = .ok (.iload_n 1, 1) := by decide +kernel
theorem dX1_textOf_14 : decode cX1_textOf 14 = .ok (.aaload, 1) := by decide +kernel
theorem dX1_textOf_15 : decode cX1_textOf 15 = .ok (.goto 4, 3) := by decide +kernel
theorem dX1_textOf_18 : decode cX1_textOf 18 = .ok (.aconst_null, 1) := by decide +kernel
theorem dX1_textOf_19 : decode cX1_textOf 19 = .ok (.areturn, 1) := by decide +kernel
theorem dX2_init_0 : decode cX2_init 0 = .ok (.aload_n 0, 1) := by decide +kernel
theorem dX2_init_1 : decode cX2_init 1 = .ok (.invokespecial 3, 3) := by decide +kernel
theorem dX2_init_4 : decode cX2_init 4 = .ok (.aload_n 0, 1) := by decide +kernel
theorem dX2_init_5 : decode cX2_init 5 = .ok (.iconst (-1), 1) := by decide +kernel
theorem dX2_init_6 : decode cX2_init 6 = .ok (.putfield 9, 3) := by decide +kernel
theorem dX2_init_9 : decode cX2_init 9 = .ok (.aload_n 0, 1) := by decide +kernel
theorem dX2_init_10 : decode cX2_init 10 = .ok (.iconst (-1), 1) := by decide +kernel
theorem dX2_init_11 : decode cX2_init 11 = .ok (.putfield 15, 3) := by decide +kernel
theorem dX2_init_14 : decode cX2_init 14 = .ok (.aload_n 0, 1) := by decide +kernel
theorem dX2_init_15 : decode cX2_init 15 = .ok (.iconst (-1), 1) := by decide +kernel
theorem dX2_init_16 : decode cX2_init 16 = .ok (.putfield 18, 3) := by decide +kernel
theorem dX2_init_19 : decode cX2_init 19 = .ok (.return_, 1) := by decide +kernel
theorem dX2_parse_0 : decode cX2_parse 0 = .ok (.aload_n 0, 1) := by decide +kernel
theorem dX2_parse_1 : decode cX2_parse 1 = .ok (.iconst 0, 1) := by decide +kernel
theorem dX2_parse_2 : decode cX2_parse 2 = .ok (.putfield 9, 3) := by decide +kernel
theorem dX2_parse_5 : decode cX2_parse 5 = .ok (.aload_n 0, 1) := by decide +kernel
theorem dX2_parse_6 : decode cX2_parse 6 = .ok (.iconst (-1), 1) := by decide +kernel
theorem dX2_parse_7 : decode cX2_parse 7 = .ok (.putfield 15, 3) := by decide +kernel
theorem dX2_parse_10 : decode cX2_parse 10 = .ok (.aload_n 2, 1) := by decide +kernel
theorem dX2_parse_11 : decode cX2_parse 11 = .ok (.invokevirtual 21, 3) := by decide +kernel
theorem dX2_parse_14 : decode cX2_parse 14 = .ok (.iconst 0, 1) := by decide +kernel
theorem dX2_parse_15 : decode cX2_parse 15 = .ok (.istore_n 3, 1) := by decide +kernel
theorem dX2_parse_16 : decode cX2_parse 16 = .ok (.iload_n 3, 1) := by decide +kernel
theorem dX2_parse_17 : decode cX2_parse 17 = .ok (.bipush 24, 2) := by decide +kernel
theorem dX2_parse_19 : decode cX2_parse 19 = .ok (.if_icmp .gt 29, 3) := by decide +kernel
theorem dX2_parse_22 : decode cX2_parse 22 = .ok (.aload_n 0, 1) := by decide +kernel
theorem dX2_parse_23 : decode cX2_parse 23 = .ok (.getfield 9, 3) := by decide +kernel
theorem dX2_parse_26 : decode cX2_parse 26 = .ok (.ifCond .ne 22, 3) := by decide +kernel
theorem dX2_parse_29 : decode cX2_parse 29 = .ok (.aload_n 1, 1) := by decide +kernel
theorem dX2_parse_30 : decode cX2_parse 30 = .ok (.invokevirtual 26, 3) := by decide +kernel
theorem dX2_parse_33 : decode cX2_parse 33 = .ok (.ifCond .eq 15, 3) := by decide +kernel
theorem dX2_parse_48 : decode cX2_parse 48 = .ok (.return_, 1) := by decide +kernel
theorem dX3_init_0 : decode cX3_init 0 = .ok (.aload_n 0, 1) := by decide +kernel
theorem dX3_init_1 : decode cX3_init 1 = .ok (.invokespecial 3, 3) := by decide +kernel
theorem dX3_init_4 : decode cX3_init 4 = .ok (.aload_n 0, 1) := by decide +kernel
theorem dX3_init_5 : decode cX3_init 5 = .ok (.sipush 150, 3) := by decide +kernel
theorem dX3_init_8 : decode cX3_init 8 = .ok (.newarray .int, 2) := by decide +kernel
theorem dX3_init_10 : decode cX3_init 10 = .ok (.putfield 11, 3) := by decide +kernel
theorem dX3_init_13 : decode cX3_init 13 = .ok (.aload_n 0, 1) := by decide +kernel
theorem dX3_init_14 : decode cX3_init 14 = .ok (.sipush 150, 3) := by decide +kernel
theorem dX3_init_17 : decode cX3_init 17 = .ok (.newarray .int, 2) := by decide +kernel
theorem dX3_init_19 : decode cX3_init 19 = .ok (.putfield 15, 3) := by decide +kernel
theorem dX3_init_22 : decode cX3_init 22 = .ok (.aload_n 0, 1) := by decide +kernel
theorem dX3_init_23 : decode cX3_init 23 = .ok (.bipush 10, 2) := by decide +kernel
theorem dX3_init_25 : decode cX3_init 25 = .ok (.newarray .boolean, 2) := by decide +kernel
theorem dX3_init_27 : decode cX3_init 27 = .ok (.putfield 18, 3) := by decide +kernel
theorem dX3_init_30 : decode cX3_init 30 = .ok (.aload_n 0, 1) := by decide +kernel
theorem dX3_init_31 : decode cX3_init 31 = .ok (.iconst 3, 1) := by decide +kernel
theorem dX3_init_32 : decode cX3_init 32 = .ok (.newarray .int, 2) := by decide +kernel
theorem dX3_init_34 : decode cX3_init 34 = .ok (.putfield 22, 3) := by decide +kernel
theorem dX3_init_37 : decode cX3_init 37 = .ok (.aload_n 0, 1) := by decide +kernel
theorem dX3_init_38 : decode cX3_init 38 = .ok (.iconst 3, 1) := by decide +kernel
theorem dX3_init_39 : decode cX3_init 39 = .ok (.newarray .int, 2) := by decide +kernel
theorem dX3_init_41 : decode cX3_init 41 = .ok (.putfield 25, 3) := by decide +kernel
theorem dX3_init_44 : decode cX3_init 44 = .ok (.aload_n 0, 1) := by decide +kernel
theorem dX3_init_45 : decode cX3_init 45 = .ok (.iconst 3, 1) := by decide +kernel
theorem dX3_init_46 : decode cX3_init 46 = .ok (.newarray .int, 2) := by decide +kernel
theorem dX3_init_48 : decode cX3_init 48 = .ok (.putfield 28, 3) := by decide +kernel
theorem dX3_init_51 : decode cX3_init 51 = .ok (.aload_n 0, 1) := by decide +kernel
theorem dX3_init_52 : decode cX3_init 52 = .ok (.iconst 3, 1) := by decide +kernel
theorem dX3_init_53 : decode cX3_init 53 = .ok (.newarray .int, 2) := by decide +kernel
theorem dX3_init_55 : decode cX3_init 55 = .ok (.putfield 31, 3) := by decide +kernel
theorem dX3_init_58 : decode cX3_init 58 = .ok (.aload_n 0, 1) := by decide +kernel
theorem dX3_init_59 : decode cX3_init 59 = .ok (.iconst 3, 1) := by decide +kernel
theorem dX3_init_60 : decode cX3_init 60 = .ok (.newarray .int, 2) := by decide +kernel
theorem dX3_init_62 : decode cX3_init 62 = .ok (.putfield 34, 3) := by decide +kernel
theorem dX3_init_65 : decode cX3_init 65 = .ok (.aload_n 0, 1) := by decide +kernel
theorem dX3_init_66 : decode cX3_init 66 = .ok (.iconst 0, 1) := by decide +kernel
theorem dX3_init_67 : decode cX3_init 67 = .ok (.putfield 37, 3) := by decide +kernel
theorem dX3_init_70 : decode cX3_init 70 = .ok (.aload_n 0, 1) := by decide +kernel
theorem dX3_init_71 : decode cX3_init 71 = .ok (.lconst 1, 1) := by decide +kernel
theorem dX3_init_72 : decode cX3_init 72 = .ok (.putfield 41, 3) := by decide +kernel
theorem dX3_init_75 : decode cX3_init 75 = .ok (.aload_n 0, 1) := by decide +kernel
theorem dX3_init_76 : decode cX3_init 76 = .ok (.iconst 0, 1) := by decide +kernel
theorem dX3_init_77 : decode cX3_init 77 = .ok (.putfield 45, 3) := by decide +kernel
theorem dX3_init_80 : decode cX3_init 80 = .ok (.aload_n 0, 1) := by decide +kernel
theorem dX3_init_81 : decode cX3_init 81 = .ok (.iconst 0, 1) := by decide +kernel
theorem dX3_init_82 : decode cX3_init 82 = .ok (.putfield 48, 3) := by decide +kernel
theorem dX3_init_85 : decode cX3_init 85 = .ok (.aload_n 0, 1) := by decide +kernel
theorem dX3_init_86 : decode cX3_init 86 = .ok (.iconst 0, 1) := by decide +kernel
theorem dX3_init_87 : decode cX3_init 87 = .ok (.putfield 51, 3) := by decide +kernel
theorem dX3_init_90 : decode cX3_init 90 = .ok (.aload_n 0, 1) := by decide +kernel
theorem dX3_init_91 : decode cX3_init 91 = .ok (.iconst 0, 1) := by decide +kernel
theorem dX3_init_92 : decode cX3_init 92 = .ok (.putfield 55, 3) := by decide +kernel
theorem dX3_init_95 : decode cX3_init 95 = .ok (.aload_n 0, 1) := by decide +kernel
theorem dX3_init_96 : decode cX3_init 96 = .ok (.lconst 0, 1) := by decide +kernel
theorem dX3_init_97 : decode cX3_init 97 = .ok (.putfield 58, 3) := by decide +kernel
theorem dX3_init_100 : decode cX3_init 100 = .ok (.aload_n 0, 1) := by decide +kernel
theorem dX3_init_101 : decode cX3_init 101 = .ok (.iconst 0, 1) := by decide +kernel
theorem dX3_init_102 : decode cX3_init 102 = .ok (.putfield 61, 3) := by decide +kernel
theorem dX3_init_105 : decode cX3_init 105 = .ok (.return_, 1) := by decide +kernel
theorem dX3_fewest_0 : decode cX3_fewest 0 = .ok (.aload_n 0, 1) := by decide +kernel
theorem dX3_fewest_1 : decode cX3_fewest 1 = .ok (.iload 4, 2) := by decide +kernel
theorem dX3_fewest_3 : decode cX3_fewest 3 = .ok (.putfield 45, 3) := by decide +kernel
theorem dX3_fewest_6 : decode cX3_fewest 6 = .ok (.aload_n 0, 1) := by decide +kernel
theorem dX3_fewest_7 : decode cX3_fewest 7 = .ok (.lconst 1, 1) := by decide +kernel
theorem dX3_fewest_8 : decode cX3_fewest 8 = .ok (.putfield 41, 3) := by decide +kernel
theorem dX3_fewest_11 : decode cX3_fewest 11 = .ok (.aload_n 0, 1) := by decide +kernel
theorem dX3_fewest_12 : decode cX3_fewest 12 = .ok (.iconst 0, 1) := by decide +kernel
theorem dX3_fewest_13 : decode cX3_fewest 13 = .ok (.putfield 51, 3) := by decide +kernel
theorem dX3_fewest_16 : decode cX3_fewest 16 = .ok (.aload_n 0, 1) := by decide +kernel
theorem dX3_fewest_17 : decode cX3_fewest 17 = .ok (.iconst 4, 1) := by decide +kernel
theorem dX3_fewest_18 : decode cX3_fewest 18 = .ok (.aload_n 1, 1) := by decide +kernel
theorem dX3_fewest_19 : decode cX3_fewest 19 = .ok (.getfield 64, 3) := by decide +kernel
theorem dX3_fewest_22 : decode cX3_fewest 22 = .ok (.invokestatic 67, 3) := by decide +kernel
theorem dX3_fewest_25 : decode cX3_fewest 25 = .ok (.putfield 48, 3) := by decide +kernel
theorem dX3_fewest_28 : decode cX3_fewest 28 = .ok (.iconst 0, 1) := by decide +kernel
theorem dX3_fewest_29 : decode cX3_fewest 29 = .ok (.istore 5, 2) := by decide +kernel
theorem dX3_fewest_31 : decode cX3_fewest 31 = .ok (.iload 5, 2) := by decide +kernel
theorem dX3_fewest_33 : decode cX3_fewest 33 = .ok (.bipush 10, 2) := by decide +kernel
theorem dX3_fewest_35 : decode cX3_fewest 35 = .ok (.if_icmp .ge 60, 3) := by decide +kernel
theorem dX3_fewest_38 : decode cX3_fewest 38 = .ok (.aload_n 0, 1) := by decide +kernel
theorem dX3_fewest_39 : decode cX3_fewest 39 = .ok (.getfield 18, 3) := by decide +kernel
theorem dX3_fewest_42 : decode cX3_fewest 42 = .ok (.iload 5, 2) := by decide +kernel
theorem dX3_fewest_44 : decode cX3_fewest 44 = .ok (.aload_n 1, 1) := by decide +kernel
theorem dX3_fewest_45 : decode cX3_fewest 45 = .ok (.iload 5, 2) := by decide +kernel
theorem dX3_fewest_47 : decode cX3_fewest 47 = .ok (.invokevirtual 73, 3) := by decide +kernel
theorem dX3_fewest_50 : decode cX3_fewest 50 = .ok (.ifCond .eq 18, 3) := by decide +kernel
theorem dX3_fewest_68 : decode cX3_fewest 68 = .ok (.iconst 0, 1) := by decide +kernel
theorem dX3_fewest_69 : decode cX3_fewest 69 = .ok (.bastore, 1) := by decide +kernel
theorem dX3_fewest_70 : decode cX3_fewest 70 = .ok (.aload_n 0, 1) := by decide +kernel
theorem dX3_fewest_71 : decode cX3_fewest 71 = .ok (.getfield 18, 3) := by decide +kernel
theorem dX3_fewest_74 : decode cX3_fewest 74 = .ok (.iload 5, 2) := by decide +kernel
theorem dX3_fewest_76 : decode cX3_fewest 76 = .ok (.baload, 1) := by decide +kernel
theorem dX3_fewest_77 : decode cX3_fewest 77 = .ok (.ifCond .eq 12, 3) := by decide +kernel
theorem dX3_fewest_89 : decode cX3_fewest 89 = .ok (.iinc 5 1, 3) := by decide +kernel
theorem dX3_fewest_92 : decode cX3_fewest 92 = .ok (.goto (-61), 3) := by decide +kernel
theorem dX3_fewest_95 : decode cX3_fewest 95 = .ok (.iconst 1, 1) := by decide +kernel
theorem dX3_fewest_96 : decode cX3_fewest 96 = .ok (.istore 5, 2) := by decide +kernel
theorem dX3_fewest_98 : decode cX3_fewest 98 = .ok (.iload 5, 2) := by decide +kernel
theorem dX3_fewest_100 : decode cX3_fewest 100 = .ok (.iconst 3, 1) := by decide +kernel
theorem dX3_fewest_101 : decode cX3_fewest 101 = .ok (.if_icmp .gt 45, 3) := by decide +kernel
theorem dX3_fewest_104 : decode cX3_fewest 104 = .ok (.aload_n 0, 1) := by decide +kernel
theorem dX3_fewest_105 : decode cX3_fewest 105 = .ok (.iload 5, 2) := by decide +kernel
theorem dX3_fewest_107 : decode cX3_fewest 107 = .ok (.putfield 37, 3) := by decide +kernel
theorem dX3_fewest_110 : decode cX3_fewest 110 = .ok (.aload_n 0, 1) := by decide +kernel
theorem dX3_fewest_111 : decode cX3_fewest 111 = .ok (.dup, 1) := by decide +kernel
theorem dX3_fewest_112 : decode cX3_fewest 112 = .ok (.getfield 41, 3) := by decide +kernel
theorem dX3_fewest_115 : decode cX3_fewest 115 = .ok (.ldc2_w 84, 3) := by decide +kernel
theorem dX3_fewest_118 : decode cX3_fewest 118 = .ok (.lmul, 1) := by decide +kernel
theorem dX3_fewest_119 : decode cX3_fewest 119 = .ok (.putfield 41, 3) := by decide +kernel
theorem dX3_fewest_122 : decode cX3_fewest 122 = .ok (.aload_n 0, 1) := by decide +kernel
theorem dX3_fewest_123 : decode cX3_fewest 123 = .ok (.iconst 0, 1) := by decide +kernel
theorem dX3_fewest_124 : decode cX3_fewest 124 = .ok (.iconst 0, 1) := by decide +kernel
theorem dX3_fewest_125 : decode cX3_fewest 125 = .ok (.invokevirtual 86, 3) := by decide +kernel
theorem dX3_fewest_128 : decode cX3_fewest 128 = .ok (.aload_n 0, 1) := by decide +kernel
theorem dX3_fewest_129 : decode cX3_fewest 129 = .ok (.getfield 51, 3) := by decide +kernel
theorem dX3_fewest_132 : decode cX3_fewest 132 = .ok (.ifCond .eq 8, 3) := by decide +kernel
theorem dX3_fewest_140 : decode cX3_fewest 140 = .ok (.iinc 5 1, 3) := by decide +kernel
theorem dX3_fewest_143 : decode cX3_fewest 143 = .ok (.goto (-45), 3) := by decide +kernel
theorem dX3_fewest_146 : decode cX3_fewest 146 = .ok (.iconst 0, 1) := by decide +kernel
theorem dX3_fewest_147 : decode cX3_fewest 147 = .ok (.ireturn, 1) := by decide +kernel
theorem dX3_tryGeese_0 : decode cX3_tryGeese 0 = .ok (.iload_n 1, 1) := by decide +kernel
theorem dX3_tryGeese_1 : decode cX3_tryGeese 1 = .ok (.aload_n 0, 1) := by decide +kernel
theorem dX3_tryGeese_2 : decode cX3_tryGeese 2 = .ok (.getfield 37, 3) := by decide +kernel
theorem dX3_tryGeese_5 : decode cX3_tryGeese 5 = .ok (.if_icmp .ge 8, 3) := by decide +kernel
theorem dX3_tryGeese_8 : decode cX3_tryGeese 8 = .ok (.iload_n 1, 1) := by decide +kernel
theorem dX3_tryGeese_9 : decode cX3_tryGeese 9 = .ok (.iconst 3, 1) := by decide +kernel
theorem dX3_tryGeese_10 : decode cX3_tryGeese 10 = .ok (.if_icmp .lt 8, 3) := by decide +kernel
theorem dX3_tryGeese_18 : decode cX3_tryGeese 18 = .ok (.iload_n 2, 1) := by decide +kernel
theorem dX3_tryGeese_19 : decode cX3_tryGeese 19 = .ok (.istore_n 3, 1) := by decide +kernel
theorem dX3_tryGeese_20 : decode cX3_tryGeese 20 = .ok (.iload_n 3, 1) := by decide +kernel
theorem dX3_tryGeese_21 : decode cX3_tryGeese 21 = .ok (.bipush 10, 2) := by decide +kernel
theorem dX3_tryGeese_23 : decode cX3_tryGeese 23 = .ok (.if_icmp .ge 35, 3) := by decide +kernel
theorem dX3_tryGeese_26 : decode cX3_tryGeese 26 = .ok (.aload_n 0, 1) := by decide +kernel
theorem dX3_tryGeese_27 : decode cX3_tryGeese 27 = .ok (.getfield 18, 3) := by decide +kernel
theorem dX3_tryGeese_30 : decode cX3_tryGeese 30 = .ok (.iload_n 3, 1) := by decide +kernel
theorem dX3_tryGeese_31 : decode cX3_tryGeese 31 = .ok (.baload, 1) := by decide +kernel
theorem dX3_tryGeese_32 : decode cX3_tryGeese 32 = .ok (.ifCond .eq 20, 3) := by decide +kernel
theorem dX3_tryGeese_52 : decode cX3_tryGeese 52 = .ok (.iinc 3 1, 3) := by decide +kernel
theorem dX3_tryGeese_55 : decode cX3_tryGeese 55 = .ok (.goto (-35), 3) := by decide +kernel
theorem dX3_tryGeese_58 : decode cX3_tryGeese 58 = .ok (.return_, 1) := by decide +kernel
theorem dX4_init_0 : decode cX4_init 0 = .ok (.aload_n 0, 1) := by decide +kernel
theorem dX4_init_1 : decode cX4_init 1 = .ok (.invokespecial 5, 3) := by decide +kernel
theorem dX4_init_4 : decode cX4_init 4 = .ok (.aload_n 0, 1) := by decide +kernel
theorem dX4_init_5 : decode cX4_init 5 = .ok (.bipush 90, 2) := by decide +kernel
theorem dX4_init_7 : decode cX4_init 7 = .ok (.newarray .int, 2) := by decide +kernel
theorem dX4_init_9 : decode cX4_init 9 = .ok (.putfield 11, 3) := by decide +kernel
theorem dX4_init_12 : decode cX4_init 12 = .ok (.aload_n 0, 1) := by decide +kernel
theorem dX4_init_13 : decode cX4_init 13 = .ok (.bipush 12, 2) := by decide +kernel
theorem dX4_init_15 : decode cX4_init 15 = .ok (.newarray .int, 2) := by decide +kernel
theorem dX4_init_17 : decode cX4_init 17 = .ok (.putfield 15, 3) := by decide +kernel
theorem dX4_init_20 : decode cX4_init 20 = .ok (.aload_n 0, 1) := by decide +kernel
theorem dX4_init_21 : decode cX4_init 21 = .ok (.sipush 1880, 3) := by decide +kernel
theorem dX4_init_24 : decode cX4_init 24 = .ok (.newarray .int, 2) := by decide +kernel
theorem dX4_init_26 : decode cX4_init 26 = .ok (.putfield 18, 3) := by decide +kernel
theorem dX4_init_29 : decode cX4_init 29 = .ok (.aload_n 0, 1) := by decide +kernel
theorem dX4_init_30 : decode cX4_init 30 = .ok (.iconst 0, 1) := by decide +kernel
theorem dX4_init_31 : decode cX4_init 31 = .ok (.putfield 21, 3) := by decide +kernel
theorem dX4_init_34 : decode cX4_init 34 = .ok (.aload_n 0, 1) := by decide +kernel
theorem dX4_init_35 : decode cX4_init 35 = .ok (.iconst 0, 1) := by decide +kernel
theorem dX4_init_36 : decode cX4_init 36 = .ok (.putfield 25, 3) := by decide +kernel
theorem dX4_init_39 : decode cX4_init 39 = .ok (.aload_n 0, 1) := by decide +kernel
theorem dX4_init_40 : decode cX4_init 40 = .ok (.iconst 0, 1) := by decide +kernel
theorem dX4_init_41 : decode cX4_init 41 = .ok (.putfield 28, 3) := by decide +kernel
theorem dX4_init_44 : decode cX4_init 44 = .ok (.aload_n 0, 1) := by decide +kernel
theorem dX4_init_45 : decode cX4_init 45 = .ok (.iconst 0, 1) := by decide +kernel
theorem dX4_init_46 : decode cX4_init 46 = .ok (.putfield 31, 3) := by decide +kernel
theorem dX4_init_49 : decode cX4_init 49 = .ok (.aload_n 0, 1) := by decide +kernel
theorem dX4_init_50 : decode cX4_init 50 = .ok (.iconst 0, 1) := by decide +kernel
theorem dX4_init_51 : decode cX4_init 51 = .ok (.putfield 34, 3) := by decide +kernel
theorem dX4_init_54 : decode cX4_init 54 = .ok (.aload_n 0, 1) := by decide +kernel
theorem dX4_init_55 : decode cX4_init 55 = .ok (.bipush 9, 2) := by decide +kernel
theorem dX4_init_57 : decode cX4_init 57 = .ok (.putfield 37, 3) := by decide +kernel
theorem dX4_init_60 : decode cX4_init 60 = .ok (.aload_n 0, 1) := by decide +kernel
theorem dX4_init_61 : decode cX4_init 61 = .ok (.iconst 0, 1) := by decide +kernel
theorem dX4_init_62 : decode cX4_init 62 = .ok (.putfield 40, 3) := by decide +kernel
theorem dX4_init_65 : decode cX4_init 65 = .ok (.aload_n 0, 1) := by decide +kernel
theorem dX4_init_66 : decode cX4_init 66 = .ok (.iconst (-1), 1) := by decide +kernel
theorem dX4_init_67 : decode cX4_init 67 = .ok (.putfield 43, 3) := by decide +kernel
theorem dX4_init_70 : decode cX4_init 70 = .ok (.aload_n 0, 1) := by decide +kernel
theorem dX4_init_71 : decode cX4_init 71 = .ok (.iconst 0, 1) := by decide +kernel
theorem dX4_init_72 : decode cX4_init 72 = .ok (.putfield 46, 3) := by decide +kernel
theorem dX4_init_75 : decode cX4_init 75 = .ok (.aload_n 0, 1) := by decide +kernel
theorem dX4_init_76 : decode cX4_init 76 = .ok (.iconst 0, 1) := by decide +kernel
theorem dX4_init_77 : decode cX4_init 77 = .ok (.putfield 49, 3) := by decide +kernel
theorem dX4_init_80 : decode cX4_init 80 = .ok (.return_, 1) := by decide +kernel
theorem dX4_copyFrom_0 : decode cX4_copyFrom 0 = .ok (.aload_n 1, 1) := by decide +kernel
theorem dX4_copyFrom_1 : decode cX4_copyFrom 1 = .ok (.getfield 11, 3) := by decide +kernel
theorem dX4_copyFrom_4 : decode cX4_copyFrom 4 = .ok (.iconst 0, 1) := by decide +kernel
theorem dX4_copyFrom_5 : decode cX4_copyFrom 5 = .ok (.aload_n 0, 1) := by decide +kernel
theorem dX4_copyFrom_6 : decode cX4_copyFrom 6 = .ok (.getfield 11, 3) := by decide +kernel
theorem dX4_copyFrom_9 : decode cX4_copyFrom 9 = .ok (.iconst 0, 1) := by decide +kernel
theorem dX4_copyFrom_10 : decode cX4_copyFrom 10 = .ok (.aload_n 0, 1) := by decide +kernel
theorem dX4_copyFrom_11 : decode cX4_copyFrom 11 = .ok (.getfield 11, 3) := by decide +kernel
theorem dX4_copyFrom_14 : decode cX4_copyFrom 14 = .ok (.arraylength, 1) := by decide +kernel
theorem dX4_copyFrom_15 : decode cX4_copyFrom 15 = .ok (.invokestatic 52, 3) := by decide +kernel
theorem dX4_copyFrom_18 : decode cX4_copyFrom 18 = .ok (.aload_n 1, 1) := by decide +kernel
theorem dX4_copyFrom_19 : decode cX4_copyFrom 19 = .ok (.getfield 15, 3) := by decide +kernel
theorem dX4_copyFrom_22 : decode cX4_copyFrom 22 = .ok (.iconst 0, 1) := by decide +kernel
theorem dX4_copyFrom_23 : decode cX4_copyFrom 23 = .ok (.aload_n 0, 1) := by decide +kernel
theorem dX4_copyFrom_24 : decode cX4_copyFrom 24 = .ok (.getfield 15, 3) := by decide +kernel
theorem dX4_copyFrom_27 : decode cX4_copyFrom 27 = .ok (.iconst 0, 1) := by decide +kernel
theorem dX4_copyFrom_28 : decode cX4_copyFrom 28 = .ok (.aload_n 0, 1) := by decide +kernel
theorem dX4_copyFrom_29 : decode cX4_copyFrom 29 = .ok (.getfield 15, 3) := by decide +kernel
theorem dX4_copyFrom_32 : decode cX4_copyFrom 32 = .ok (.arraylength, 1) := by decide +kernel
theorem dX4_copyFrom_33 : decode cX4_copyFrom 33 = .ok (.invokestatic 52, 3) := by decide +kernel
theorem dX4_copyFrom_36 : decode cX4_copyFrom 36 = .ok (.aload_n 1, 1) := by decide +kernel
theorem dX4_copyFrom_37 : decode cX4_copyFrom 37 = .ok (.getfield 18, 3) := by decide +kernel
theorem dX4_copyFrom_40 : decode cX4_copyFrom 40 = .ok (.iconst 0, 1) := by decide +kernel
theorem dX4_copyFrom_41 : decode cX4_copyFrom 41 = .ok (.aload_n 0, 1) := by decide +kernel
theorem dX4_copyFrom_42 : decode cX4_copyFrom 42 = .ok (.getfield 18, 3) := by decide +kernel
theorem dX4_copyFrom_45 : decode cX4_copyFrom 45 = .ok (.iconst 0, 1) := by decide +kernel
theorem dX4_copyFrom_46 : decode cX4_copyFrom 46 = .ok (.aload_n 0, 1) := by decide +kernel
theorem dX4_copyFrom_47 : decode cX4_copyFrom 47 = .ok (.getfield 18, 3) := by decide +kernel
theorem dX4_copyFrom_50 : decode cX4_copyFrom 50 = .ok (.arraylength, 1) := by decide +kernel
theorem dX4_copyFrom_51 : decode cX4_copyFrom 51 = .ok (.invokestatic 52, 3) := by decide +kernel
theorem dX4_copyFrom_54 : decode cX4_copyFrom 54 = .ok (.aload_n 0, 1) := by decide +kernel
theorem dX4_copyFrom_55 : decode cX4_copyFrom 55 = .ok (.aload_n 1, 1) := by decide +kernel
theorem dX4_copyFrom_56 : decode cX4_copyFrom 56 = .ok (.getfield 21, 3) := by decide +kernel
theorem dX4_copyFrom_59 : decode cX4_copyFrom 59 = .ok (.putfield 21, 3) := by decide +kernel
theorem dX4_copyFrom_62 : decode cX4_copyFrom 62 = .ok (.aload_n 0, 1) := by decide +kernel
theorem dX4_copyFrom_63 : decode cX4_copyFrom 63 = .ok (.aload_n 1, 1) := by decide +kernel
theorem dX4_copyFrom_64 : decode cX4_copyFrom 64 = .ok (.getfield 25, 3) := by decide +kernel
theorem dX4_copyFrom_67 : decode cX4_copyFrom 67 = .ok (.putfield 25, 3) := by decide +kernel
theorem dX4_copyFrom_70 : decode cX4_copyFrom 70 = .ok (.aload_n 0, 1) := by decide +kernel
theorem dX4_copyFrom_71 : decode cX4_copyFrom 71 = .ok (.aload_n 1, 1) := by decide +kernel
theorem dX4_copyFrom_72 : decode cX4_copyFrom 72 = .ok (.getfield 28, 3) := by decide +kernel
theorem dX4_copyFrom_75 : decode cX4_copyFrom 75 = .ok (.putfield 28, 3) := by decide +kernel
theorem dX4_copyFrom_78 : decode cX4_copyFrom 78 = .ok (.aload_n 0, 1) := by decide +kernel
theorem dX4_copyFrom_79 : decode cX4_copyFrom 79 = .ok (.aload_n 1, 1) := by decide +kernel
theorem dX4_copyFrom_80 : decode cX4_copyFrom 80 = .ok (.getfield 31, 3) := by decide +kernel
theorem dX4_copyFrom_83 : decode cX4_copyFrom 83 = .ok (.putfield 31, 3) := by decide +kernel
theorem dX4_copyFrom_86 : decode cX4_copyFrom 86 = .ok (.aload_n 0, 1) := by decide +kernel
theorem dX4_copyFrom_87 : decode cX4_copyFrom 87 = .ok (.aload_n 1, 1) := by decide +kernel
theorem dX4_copyFrom_88 : decode cX4_copyFrom 88 = .ok (.getfield 34, 3) := by decide +kernel
theorem dX4_copyFrom_91 : decode cX4_copyFrom 91 = .ok (.putfield 34, 3) := by decide +kernel
theorem dX4_copyFrom_94 : decode cX4_copyFrom 94 = .ok (.aload_n 0, 1) := by decide +kernel
theorem dX4_copyFrom_95 : decode cX4_copyFrom 95 = .ok (.aload_n 1, 1) := by decide +kernel
theorem dX4_copyFrom_96 : decode cX4_copyFrom 96 = .ok (.getfield 37, 3) := by decide +kernel
theorem dX4_copyFrom_99 : decode cX4_copyFrom 99 = .ok (.putfield 37, 3) := by decide +kernel
theorem dX4_copyFrom_102 : decode cX4_copyFrom 102 = .ok (.aload_n 0, 1) := by decide +kernel
theorem dX4_copyFrom_103 : decode cX4_copyFrom 103 = .ok (.aload_n 1, 1) := by decide +kernel
theorem dX4_copyFrom_104 : decode cX4_copyFrom 104 = .ok (.getfield 40, 3) := by decide +kernel
theorem dX4_copyFrom_107 : decode cX4_copyFrom 107 = .ok (.putfield 40, 3) := by decide +kernel
theorem dX4_copyFrom_110 : decode cX4_copyFrom 110 = .ok (.aload_n 0, 1) := by decide +kernel
theorem dX4_copyFrom_111 : decode cX4_copyFrom 111 = .ok (.aload_n 1, 1) := by decide +kernel
theorem dX4_copyFrom_112 : decode cX4_copyFrom 112 = .ok (.getfield 43, 3) := by decide +kernel
theorem dX4_copyFrom_115 : decode cX4_copyFrom 115 = .ok (.putfield 43, 3) := by decide +kernel
theorem dX4_copyFrom_118 : decode cX4_copyFrom 118 = .ok (.aload_n 0, 1) := by decide +kernel
theorem dX4_copyFrom_119 : decode cX4_copyFrom 119 = .ok (.aload_n 1, 1) := by decide +kernel
theorem dX4_copyFrom_120 : decode cX4_copyFrom 120 = .ok (.getfield 46, 3) := by decide +kernel
theorem dX4_copyFrom_123 : decode cX4_copyFrom 123 = .ok (.putfield 46, 3) := by decide +kernel
theorem dX4_copyFrom_126 : decode cX4_copyFrom 126 = .ok (.aload_n 0, 1) := by decide +kernel
theorem dX4_copyFrom_127 : decode cX4_copyFrom 127 = .ok (.aload_n 1, 1) := by decide +kernel
theorem dX4_copyFrom_128 : decode cX4_copyFrom 128 = .ok (.getfield 49, 3) := by decide +kernel
theorem dX4_copyFrom_131 : decode cX4_copyFrom 131 = .ok (.putfield 49, 3) := by decide +kernel
theorem dX4_copyFrom_134 : decode cX4_copyFrom 134 = .ok (.return_, 1) := by decide +kernel
theorem dX4_hasGoose_0 : decode cX4_hasGoose 0 = .ok (.iload_n 1, 1) := by decide +kernel
theorem dX4_hasGoose_1 : decode cX4_hasGoose 1 = .ok (.ifCond .lt 21, 3) := by decide +kernel
theorem dX4_hasGoose_4 : decode cX4_hasGoose 4 = .ok (.iload_n 1, 1) := by decide +kernel
theorem dX4_hasGoose_5 : decode cX4_hasGoose 5 = .ok (.aload_n 0, 1) := by decide +kernel
theorem dX4_hasGoose_6 : decode cX4_hasGoose 6 = .ok (.getfield 21, 3) := by decide +kernel
theorem dX4_hasGoose_9 : decode cX4_hasGoose 9 = .ok (.if_icmp .ge 13, 3) := by decide +kernel
theorem dX4_hasGoose_12 : decode cX4_hasGoose 12 = .ok (.iload_n 1, 1) := by decide +kernel
theorem dX4_hasGoose_13 : decode cX4_hasGoose 13 = .ok (.bipush 10, 2) := by decide +kernel
theorem dX4_hasGoose_15 : decode cX4_hasGoose 15 = .ok (.if_icmp .ge 7, 3) := by decide +kernel
theorem dX4_hasGoose_18 : decode cX4_hasGoose 18 = .ok (.iconst 1, 1) := by decide +kernel
theorem dX4_hasGoose_19 : decode cX4_hasGoose 19 = .ok (.goto 4, 3) := by decide +kernel
theorem dX4_hasGoose_22 : decode cX4_hasGoose 22 = .ok (.iconst 0, 1) := by decide +kernel
theorem dX4_hasGoose_23 : decode cX4_hasGoose 23 = .ok (.ireturn, 1) := by decide +kernel
theorem dX4_hasMarket_0 : decode cX4_hasMarket 0 = .ok (.iload_n 1, 1) := by decide +kernel
theorem dX4_hasMarket_1 : decode cX4_hasMarket 1 = .ok (.ifCond .lt 20, 3) := by decide +kernel
theorem dX4_hasMarket_4 : decode cX4_hasMarket 4 = .ok (.iload_n 1, 1) := by decide +kernel
theorem dX4_hasMarket_5 : decode cX4_hasMarket 5 = .ok (.aload_n 0, 1) := by decide +kernel
theorem dX4_hasMarket_6 : decode cX4_hasMarket 6 = .ok (.getfield 25, 3) := by decide +kernel
theorem dX4_hasMarket_9 : decode cX4_hasMarket 9 = .ok (.if_icmp .ge 12, 3) := by decide +kernel
theorem dX4_hasMarket_21 : decode cX4_hasMarket 21 = .ok (.iconst 0, 1) := by decide +kernel
theorem dX4_hasMarket_22 : decode cX4_hasMarket 22 = .ok (.ireturn, 1) := by decide +kernel
theorem dX4_ofGoose_0 : decode cX4_ofGoose 0 = .ok (.iload_n 1, 1) := by decide +kernel
theorem dX4_ofGoose_1 : decode cX4_ofGoose 1 = .ok (.ifCond .lt 27, 3) := by decide +kernel
theorem dX4_ofGoose_4 : decode cX4_ofGoose 4 = .ok (.iload_n 1, 1) := by decide +kernel
theorem dX4_ofGoose_5 : decode cX4_ofGoose 5 = .ok (.aload_n 0, 1) := by decide +kernel
theorem dX4_ofGoose_6 : decode cX4_ofGoose 6 = .ok (.getfield 21, 3) := by decide +kernel
theorem dX4_ofGoose_9 : decode cX4_ofGoose 9 = .ok (.if_icmp .ge 19, 3) := by decide +kernel
theorem dX4_ofGoose_28 : decode cX4_ofGoose 28 = .ok (.iconst (-1), 1) := by decide +kernel
theorem dX4_ofGoose_29 : decode cX4_ofGoose 29 = .ok (.ireturn, 1) := by decide +kernel
theorem dX4_setGoose_0 : decode cX4_setGoose 0 = .ok (.aload_n 0, 1) := by decide +kernel
theorem dX4_setGoose_1 : decode cX4_setGoose 1 = .ok (.iload_n 1, 1) := by decide +kernel
theorem dX4_setGoose_2 : decode cX4_setGoose 2 = .ok (.invokevirtual 58, 3) := by decide +kernel
theorem dX4_setGoose_5 : decode cX4_setGoose 5 = .ok (.ifCond .eq 25, 3) := by decide +kernel
theorem dX4_setGoose_8 : decode cX4_setGoose 8 = .ok (.iload_n 2, 1) := by decide +kernel
theorem dX4_setGoose_9 : decode cX4_setGoose 9 = .ok (.ifCond .lt 21, 3) := by decide +kernel
theorem dX4_setGoose_12 : decode cX4_setGoose 12 = .ok (.iload_n 2, 1) := by decide +kernel
theorem dX4_setGoose_13 : decode cX4_setGoose 13 = .ok (.bipush 9, 2) := by decide +kernel
theorem dX4_setGoose_15 : decode cX4_setGoose 15 = .ok (.if_icmp .ge 15, 3) := by decide +kernel
theorem dX4_setGoose_18 : decode cX4_setGoose 18 = .ok (.aload_n 0, 1) := by decide +kernel
theorem dX4_setGoose_19 : decode cX4_setGoose 19 = .ok (.getfield 11, 3) := by decide +kernel
theorem dX4_setGoose_22 : decode cX4_setGoose 22 = .ok (.iload_n 1, 1) := by decide +kernel
theorem dX4_setGoose_23 : decode cX4_setGoose 23 = .ok (.bipush 9, 2) := by decide +kernel
theorem dX4_setGoose_25 : decode cX4_setGoose 25 = .ok (.imul, 1) := by decide +kernel
theorem dX4_setGoose_26 : decode cX4_setGoose 26 = .ok (.iload_n 2, 1) := by decide +kernel
theorem dX4_setGoose_27 : decode cX4_setGoose 27 = .ok (.iadd, 1) := by decide +kernel
theorem dX4_setGoose_28 : decode cX4_setGoose 28 = .ok (.iload_n 3, 1) := by decide +kernel
theorem dX4_setGoose_29 : decode cX4_setGoose 29 = .ok (.iastore, 1) := by decide +kernel
theorem dX4_setGoose_30 : decode cX4_setGoose 30 = .ok (.return_, 1) := by decide +kernel
theorem dX4_ofMarket_0 : decode cX4_ofMarket 0 = .ok (.iload_n 1, 1) := by decide +kernel
theorem dX4_ofMarket_1 : decode cX4_ofMarket 1 = .ok (.ifCond .lt 25, 3) := by decide +kernel
theorem dX4_ofMarket_4 : decode cX4_ofMarket 4 = .ok (.iload_n 1, 1) := by decide +kernel
theorem dX4_ofMarket_5 : decode cX4_ofMarket 5 = .ok (.aload_n 0, 1) := by decide +kernel
theorem dX4_ofMarket_6 : decode cX4_ofMarket 6 = .ok (.getfield 25, 3) := by decide +kernel
theorem dX4_ofMarket_9 : decode cX4_ofMarket 9 = .ok (.if_icmp .ge 17, 3) := by decide +kernel
theorem dX4_ofMarket_26 : decode cX4_ofMarket 26 = .ok (.iconst 0, 1) := by decide +kernel
theorem dX4_ofMarket_27 : decode cX4_ofMarket 27 = .ok (.ireturn, 1) := by decide +kernel
theorem dX4_addMarket_0 : decode cX4_addMarket 0 = .ok (.aload_n 0, 1) := by decide +kernel
theorem dX4_addMarket_1 : decode cX4_addMarket 1 = .ok (.getfield 25, 3) := by decide +kernel
theorem dX4_addMarket_4 : decode cX4_addMarket 4 = .ok (.iconst 4, 1) := by decide +kernel
theorem dX4_addMarket_5 : decode cX4_addMarket 5 = .ok (.if_icmp .lt 5, 3) := by decide +kernel
theorem dX4_addMarket_10 : decode cX4_addMarket 10 = .ok (.aload_n 0, 1) := by decide +kernel
theorem dX4_addMarket_11 : decode cX4_addMarket 11 = .ok (.getfield 25, 3) := by decide +kernel
theorem dX4_addMarket_14 : decode cX4_addMarket 14 = .ok (.iconst 3, 1) := by decide +kernel
theorem dX4_addMarket_15 : decode cX4_addMarket 15 = .ok (.imul, 1) := by decide +kernel
theorem dX4_addMarket_16 : decode cX4_addMarket 16 = .ok (.istore 4, 2) := by decide +kernel
theorem dX4_addMarket_18 : decode cX4_addMarket 18 = .ok (.aload_n 0, 1) := by decide +kernel
theorem dX4_addMarket_19 : decode cX4_addMarket 19 = .ok (.getfield 15, 3) := by decide +kernel
theorem dX4_addMarket_22 : decode cX4_addMarket 22 = .ok (.iload 4, 2) := by decide +kernel
theorem dX4_addMarket_24 : decode cX4_addMarket 24 = .ok (.iconst 0, 1) := by decide +kernel
theorem dX4_addMarket_25 : decode cX4_addMarket 25 = .ok (.iadd, 1) := by decide +kernel
theorem dX4_addMarket_26 : decode cX4_addMarket 26 = .ok (.iload_n 1, 1) := by decide +kernel
theorem dX4_addMarket_27 : decode cX4_addMarket 27 = .ok (.iastore, 1) := by decide +kernel
theorem dX4_addMarket_28 : decode cX4_addMarket 28 = .ok (.aload_n 0, 1) := by decide +kernel
theorem dX4_addMarket_29 : decode cX4_addMarket 29 = .ok (.getfield 15, 3) := by decide +kernel
theorem dX4_addMarket_32 : decode cX4_addMarket 32 = .ok (.iload 4, 2) := by decide +kernel
theorem dX4_addMarket_34 : decode cX4_addMarket 34 = .ok (.iconst 1, 1) := by decide +kernel
theorem dX4_addMarket_35 : decode cX4_addMarket 35 = .ok (.iadd, 1) := by decide +kernel
theorem dX4_addMarket_36 : decode cX4_addMarket 36 = .ok (.iload_n 2, 1) := by decide +kernel
theorem dX4_addMarket_37 : decode cX4_addMarket 37 = .ok (.iastore, 1) := by decide +kernel
theorem dX4_addMarket_38 : decode cX4_addMarket 38 = .ok (.aload_n 0, 1) := by decide +kernel
theorem dX4_addMarket_39 : decode cX4_addMarket 39 = .ok (.getfield 15, 3) := by decide +kernel
theorem dX4_addMarket_42 : decode cX4_addMarket 42 = .ok (.iload 4, 2) := by decide +kernel
theorem dX4_addMarket_44 : decode cX4_addMarket 44 = .ok (.iconst 2, 1) := by decide +kernel
theorem dX4_addMarket_45 : decode cX4_addMarket 45 = .ok (.iadd, 1) := by decide +kernel
theorem dX4_addMarket_46 : decode cX4_addMarket 46 = .ok (.iload_n 3, 1) := by decide +kernel
theorem dX4_addMarket_47 : decode cX4_addMarket 47 = .ok (.iastore, 1) := by decide +kernel
theorem dX4_addMarket_48 : decode cX4_addMarket 48 = .ok (.aload_n 0, 1) := by decide +kernel
theorem dX4_addMarket_49 : decode cX4_addMarket 49 = .ok (.dup, 1) := by decide +kernel
theorem dX4_addMarket_50 : decode cX4_addMarket 50 = .ok (.getfield 25, 3) := by decide +kernel
theorem dX4_addMarket_53 : decode cX4_addMarket 53 = .ok (.iconst 1, 1) := by decide +kernel
theorem dX4_addMarket_54 : decode cX4_addMarket 54 = .ok (.iadd, 1) := by decide +kernel
theorem dX4_addMarket_55 : decode cX4_addMarket 55 = .ok (.putfield 25, 3) := by decide +kernel
theorem dX4_addMarket_58 : decode cX4_addMarket 58 = .ok (.aload_n 0, 1) := by decide +kernel
theorem dX4_addMarket_59 : decode cX4_addMarket 59 = .ok (.getfield 25, 3) := by decide +kernel
theorem dX4_addMarket_62 : decode cX4_addMarket 62 = .ok (.iconst 1, 1) := by decide +kernel
theorem dX4_addMarket_63 : decode cX4_addMarket 63 = .ok (.isub, 1) := by decide +kernel
theorem dX4_addMarket_64 : decode cX4_addMarket 64 = .ok (.ireturn, 1) := by decide +kernel
theorem dX4_addGoose_0 : decode cX4_addGoose 0 = .ok (.aload_n 0, 1) := by decide +kernel
theorem dX4_addGoose_1 : decode cX4_addGoose 1 = .ok (.getfield 21, 3) := by decide +kernel
theorem dX4_addGoose_4 : decode cX4_addGoose 4 = .ok (.bipush 10, 2) := by decide +kernel
theorem dX4_addGoose_6 : decode cX4_addGoose 6 = .ok (.if_icmp .lt 5, 3) := by decide +kernel
theorem dX4_addGoose_11 : decode cX4_addGoose 11 = .ok (.aload_n 0, 1) := by decide +kernel
theorem dX4_addGoose_12 : decode cX4_addGoose 12 = .ok (.getfield 21, 3) := by decide +kernel
theorem dX4_addGoose_15 : decode cX4_addGoose 15 = .ok (.istore_n 3, 1) := by decide +kernel
theorem dX4_addGoose_16 : decode cX4_addGoose 16 = .ok (.aload_n 0, 1) := by decide +kernel
theorem dX4_addGoose_17 : decode cX4_addGoose 17 = .ok (.dup, 1) := by decide +kernel
theorem dX4_addGoose_18 : decode cX4_addGoose 18 = .ok (.getfield 21, 3) := by decide +kernel
theorem dX4_addGoose_21 : decode cX4_addGoose 21 = .ok (.iconst 1, 1) := by decide +kernel
theorem dX4_addGoose_22 : decode cX4_addGoose 22 = .ok (.iadd, 1) := by decide +kernel
theorem dX4_addGoose_23 : decode cX4_addGoose 23 = .ok (.putfield 21, 3) := by decide +kernel
theorem dX4_addGoose_26 : decode cX4_addGoose 26 = .ok (.aload_n 0, 1) := by decide +kernel
theorem dX4_addGoose_27 : decode cX4_addGoose 27 = .ok (.iload_n 3, 1) := by decide +kernel
theorem dX4_addGoose_28 : decode cX4_addGoose 28 = .ok (.iconst 0, 1) := by decide +kernel
theorem dX4_addGoose_29 : decode cX4_addGoose 29 = .ok (.iload_n 1, 1) := by decide +kernel
theorem dX4_addGoose_30 : decode cX4_addGoose 30 = .ok (.invokevirtual 62, 3) := by decide +kernel
theorem dX4_addGoose_33 : decode cX4_addGoose 33 = .ok (.aload_n 0, 1) := by decide +kernel
theorem dX4_addGoose_34 : decode cX4_addGoose 34 = .ok (.iload_n 3, 1) := by decide +kernel
theorem dX4_addGoose_35 : decode cX4_addGoose 35 = .ok (.iconst 1, 1) := by decide +kernel
theorem dX4_addGoose_36 : decode cX4_addGoose 36 = .ok (.iload_n 2, 1) := by decide +kernel

theorem dX4_addGoose_37 : decode cX4_addGoose 37 = .ok (.invokevirtual 62, 3) := by decide +kernel
theorem dX4_addGoose_40 : decode cX4_addGoose 40 = .ok (.aload_n 0, 1) := by decide +kernel
theorem dX4_addGoose_41 : decode cX4_addGoose 41 = .ok (.iload_n 3, 1) := by decide +kernel
theorem dX4_addGoose_42 : decode cX4_addGoose 42 = .ok (.iconst 2, 1) := by decide +kernel
theorem dX4_addGoose_43 : decode cX4_addGoose 43 = .ok (.iconst (-1), 1) := by decide +kernel
theorem dX4_addGoose_44 : decode cX4_addGoose 44 = .ok (.invokevirtual 62, 3) := by decide +kernel
theorem dX4_addGoose_47 : decode cX4_addGoose 47 = .ok (.aload_n 0, 1) := by decide +kernel
theorem dX4_addGoose_48 : decode cX4_addGoose 48 = .ok (.iload_n 3, 1) := by decide +kernel
theorem dX4_addGoose_49 : decode cX4_addGoose 49 = .ok (.iconst 3, 1) := by decide +kernel
theorem dX4_addGoose_50 : decode cX4_addGoose 50 = .ok (.iconst (-1), 1) := by decide +kernel
theorem dX4_addGoose_51 : decode cX4_addGoose 51 = .ok (.invokevirtual 62, 3) := by decide +kernel
theorem dX4_addGoose_54 : decode cX4_addGoose 54 = .ok (.aload_n 0, 1) := by decide +kernel
theorem dX4_addGoose_55 : decode cX4_addGoose 55 = .ok (.iload_n 3, 1) := by decide +kernel
theorem dX4_addGoose_56 : decode cX4_addGoose 56 = .ok (.iconst 4, 1) := by decide +kernel
theorem dX4_addGoose_57 : decode cX4_addGoose 57 = .ok (.iconst 0, 1) := by decide +kernel
theorem dX4_addGoose_58 : decode cX4_addGoose 58 = .ok (.invokevirtual 62, 3) := by decide +kernel
theorem dX4_addGoose_61 : decode cX4_addGoose 61 = .ok (.aload_n 0, 1) := by decide +kernel
theorem dX4_addGoose_62 : decode cX4_addGoose 62 = .ok (.iload_n 3, 1) := by decide +kernel
theorem dX4_addGoose_63 : decode cX4_addGoose 63 = .ok (.iconst 5, 1) := by decide +kernel
theorem dX4_addGoose_64 : decode cX4_addGoose 64 = .ok (.iconst (-1), 1) := by decide +kernel
theorem dX4_addGoose_65 : decode cX4_addGoose 65 = .ok (.invokevirtual 62, 3) := by decide +kernel
theorem dX4_addGoose_68 : decode cX4_addGoose 68 = .ok (.aload_n 0, 1) := by decide +kernel
theorem dX4_addGoose_69 : decode cX4_addGoose 69 = .ok (.iload_n 3, 1) := by decide +kernel
theorem dX4_addGoose_70 : decode cX4_addGoose 70 = .ok (.bipush 6, 2) := by decide +kernel
theorem dX4_addGoose_72 : decode cX4_addGoose 72 = .ok (.iconst (-1), 1) := by decide +kernel
theorem dX4_addGoose_73 : decode cX4_addGoose 73 = .ok (.invokevirtual 62, 3) := by decide +kernel
theorem dX4_addGoose_76 : decode cX4_addGoose 76 = .ok (.aload_n 0, 1) := by decide +kernel
theorem dX4_addGoose_77 : decode cX4_addGoose 77 = .ok (.iload_n 3, 1) := by decide +kernel
theorem dX4_addGoose_78 : decode cX4_addGoose 78 = .ok (.bipush 7, 2) := by decide +kernel
theorem dX4_addGoose_80 : decode cX4_addGoose 80 = .ok (.iconst (-1), 1) := by decide +kernel
theorem dX4_addGoose_81 : decode cX4_addGoose 81 = .ok (.invokevirtual 62, 3) := by decide +kernel
theorem dX4_addGoose_84 : decode cX4_addGoose 84 = .ok (.aload_n 0, 1) := by decide +kernel
theorem dX4_addGoose_85 : decode cX4_addGoose 85 = .ok (.iload_n 3, 1) := by decide +kernel
theorem dX4_addGoose_86 : decode cX4_addGoose 86 = .ok (.bipush 8, 2) := by decide +kernel
theorem dX4_addGoose_88 : decode cX4_addGoose 88 = .ok (.iconst 0, 1) := by decide +kernel
theorem dX4_addGoose_89 : decode cX4_addGoose 89 = .ok (.invokevirtual 62, 3) := by decide +kernel
theorem dX4_addGoose_92 : decode cX4_addGoose 92 = .ok (.iload_n 3, 1) := by decide +kernel
theorem dX4_addGoose_93 : decode cX4_addGoose 93 = .ok (.ireturn, 1) := by decide +kernel
theorem dX4_isHome_0 : decode cX4_isHome 0 = .ok (.aload_n 0, 1) := by decide +kernel
theorem dX4_isHome_1 : decode cX4_isHome 1 = .ok (.iload_n 1, 1) := by decide +kernel
theorem dX4_isHome_2 : decode cX4_isHome 2 = .ok (.iconst 4, 1) := by decide +kernel
theorem dX4_isHome_3 : decode cX4_isHome 3 = .ok (.invokevirtual 66, 3) := by decide +kernel
theorem dX4_isHome_6 : decode cX4_isHome 6 = .ok (.ifCond .ne 7, 3) := by decide +kernel
theorem dX4_isHome_13 : decode cX4_isHome 13 = .ok (.iconst 0, 1) := by decide +kernel
theorem dX4_isHome_14 : decode cX4_isHome 14 = .ok (.ireturn, 1) := by decide +kernel
theorem dX4_isFree_0 : decode cX4_isFree 0 = .ok (.aload_n 0, 1) := by decide +kernel
theorem dX4_isFree_1 : decode cX4_isFree 1 = .ok (.iload_n 1, 1) := by decide +kernel
theorem dX4_isFree_2 : decode cX4_isFree 2 = .ok (.invokevirtual 70, 3) := by decide +kernel
theorem dX4_isFree_5 : decode cX4_isFree 5 = .ok (.ifCond .eq 17, 3) := by decide +kernel
theorem dX4_isFree_22 : decode cX4_isFree 22 = .ok (.iconst 0, 1) := by decide +kernel
theorem dX4_isFree_23 : decode cX4_isFree 23 = .ok (.ireturn, 1) := by decide +kernel
theorem dX4_countFate_0 : decode cX4_countFate 0 = .ok (.iconst 0, 1) := by decide +kernel
theorem dX4_countFate_1 : decode cX4_countFate 1 = .ok (.istore_n 2, 1) := by decide +kernel
theorem dX4_countFate_2 : decode cX4_countFate 2 = .ok (.iconst 0, 1) := by decide +kernel
theorem dX4_countFate_3 : decode cX4_countFate 3 = .ok (.istore_n 3, 1) := by decide +kernel
theorem dX4_countFate_4 : decode cX4_countFate 4 = .ok (.iload_n 3, 1) := by decide +kernel
theorem dX4_countFate_5 : decode cX4_countFate 5 = .ok (.aload_n 0, 1) := by decide +kernel
theorem dX4_countFate_6 : decode cX4_countFate 6 = .ok (.getfield 21, 3) := by decide +kernel
theorem dX4_countFate_9 : decode cX4_countFate 9 = .ok (.if_icmp .ge 22, 3) := by decide +kernel
theorem dX4_countFate_31 : decode cX4_countFate 31 = .ok (.iload_n 2, 1) := by decide +kernel
theorem dX4_countFate_32 : decode cX4_countFate 32 = .ok (.ireturn, 1) := by decide +kernel
theorem dX4_dailyNeed_0 : decode cX4_dailyNeed 0 = .ok (.aload_n 0, 1) := by decide +kernel
theorem dX4_dailyNeed_1 : decode cX4_dailyNeed 1 = .ok (.getfield 31, 3) := by decide +kernel
theorem dX4_dailyNeed_4 : decode cX4_dailyNeed 4 = .ok (.aload_n 0, 1) := by decide +kernel
theorem dX4_dailyNeed_5 : decode cX4_dailyNeed 5 = .ok (.iconst 0, 1) := by decide +kernel
theorem dX4_dailyNeed_6 : decode cX4_dailyNeed 6 = .ok (.invokevirtual 73, 3) := by decide +kernel
theorem dX4_dailyNeed_9 : decode cX4_dailyNeed 9 = .ok (.iadd, 1) := by decide +kernel
theorem dX4_dailyNeed_10 : decode cX4_dailyNeed 10 = .ok (.ireturn, 1) := by decide +kernel
theorem dX4_eatDaily_0 : decode cX4_eatDaily 0 = .ok (.aload_n 0, 1) := by decide +kernel
theorem dX4_eatDaily_1 : decode cX4_eatDaily 1 = .ok (.invokevirtual 77, 3) := by decide +kernel
theorem dX4_eatDaily_4 : decode cX4_eatDaily 4 = .ok (.istore_n 1, 1) := by decide +kernel
theorem dX4_eatDaily_5 : decode cX4_eatDaily 5 = .ok (.iload_n 1, 1) := by decide +kernel
theorem dX4_eatDaily_6 : decode cX4_eatDaily 6 = .ok (.aload_n 0, 1) := by decide +kernel
theorem dX4_eatDaily_7 : decode cX4_eatDaily 7 = .ok (.getfield 28, 3) := by decide +kernel
theorem dX4_eatDaily_10 : decode cX4_eatDaily 10 = .ok (.if_icmp .gt 14, 3) := by decide +kernel
theorem dX4_eatDaily_13 : decode cX4_eatDaily 13 = .ok (.aload_n 0, 1) := by decide +kernel
theorem dX4_eatDaily_14 : decode cX4_eatDaily 14 = .ok (.dup, 1) := by decide +kernel
theorem dX4_eatDaily_15 : decode cX4_eatDaily 15 = .ok (.getfield 28, 3) := by decide +kernel
theorem dX4_eatDaily_18 : decode cX4_eatDaily 18 = .ok (.iload_n 1, 1) := by decide +kernel
theorem dX4_eatDaily_19 : decode cX4_eatDaily 19 = .ok (.isub, 1) := by decide +kernel
theorem dX4_eatDaily_20 : decode cX4_eatDaily 20 = .ok (.putfield 28, 3) := by decide +kernel
theorem dX4_eatDaily_23 : decode cX4_eatDaily 23 = .ok (.return_, 1) := by decide +kernel
theorem dX4_eatDaily_24 : decode cX4_eatDaily 24 = .ok (.aload_n 0, 1) := by decide +kernel
theorem dX4_eatDaily_25 : decode cX4_eatDaily 25 = .ok (.iconst 0, 1) := by decide +kernel
theorem dX4_eatDaily_26 : decode cX4_eatDaily 26 = .ok (.putfield 28, 3) := by decide +kernel
theorem dX4_eatDaily_29 : decode cX4_eatDaily 29 = .ok (.iconst 0, 1) := by decide +kernel
theorem dX4_eatDaily_30 : decode cX4_eatDaily 30 = .ok (.istore_n 2, 1) := by decide +kernel
theorem dX4_eatDaily_31 : decode cX4_eatDaily 31 = .ok (.iload_n 2, 1) := by decide +kernel
theorem dX4_eatDaily_32 : decode cX4_eatDaily 32 = .ok (.aload_n 0, 1) := by decide +kernel
theorem dX4_eatDaily_33 : decode cX4_eatDaily 33 = .ok (.getfield 21, 3) := by decide +kernel
theorem dX4_eatDaily_36 : decode cX4_eatDaily 36 = .ok (.if_icmp .ge 34, 3) := by decide +kernel
theorem dX4_eatDaily_70 : decode cX4_eatDaily 70 = .ok (.return_, 1) := by decide +kernel
theorem dX4_keepStep_0 : decode cX4_keepStep 0 = .ok (.aload_n 0, 1) := by decide +kernel
theorem dX4_keepStep_1 : decode cX4_keepStep 1 = .ok (.getfield 49, 3) := by decide +kernel
theorem dX4_keepStep_4 : decode cX4_keepStep 4 = .ok (.bipush 20, 2) := by decide +kernel
theorem dX4_keepStep_6 : decode cX4_keepStep 6 = .ok (.if_icmp .ge 16, 3) := by decide +kernel
theorem dX4_keepStep_9 : decode cX4_keepStep 9 = .ok (.aload_n 0, 1) := by decide +kernel
theorem dX4_keepStep_10 : decode cX4_keepStep 10 = .ok (.dup, 1) := by decide +kernel
theorem dX4_keepStep_11 : decode cX4_keepStep 11 = .ok (.getfield 49, 3) := by decide +kernel
theorem dX4_keepStep_14 : decode cX4_keepStep 14 = .ok (.iconst 1, 1) := by decide +kernel
theorem dX4_keepStep_15 : decode cX4_keepStep 15 = .ok (.iadd, 1) := by decide +kernel
theorem dX4_keepStep_16 : decode cX4_keepStep 16 = .ok (.putfield 49, 3) := by decide +kernel
theorem dX4_keepStep_19 : decode cX4_keepStep 19 = .ok (.goto 16, 3) := by decide +kernel
theorem dX4_keepStep_35 : decode cX4_keepStep 35 = .ok (.aload_n 0, 1) := by decide +kernel
theorem dX4_keepStep_36 : decode cX4_keepStep 36 = .ok (.getfield 46, 3) := by decide +kernel
theorem dX4_keepStep_39 : decode cX4_keepStep 39 = .ok (.aload_n 0, 1) := by decide +kernel
theorem dX4_keepStep_40 : decode cX4_keepStep 40 = .ok (.getfield 49, 3) := by decide +kernel
theorem dX4_keepStep_43 : decode cX4_keepStep 43 = .ok (.iadd, 1) := by decide +kernel
theorem dX4_keepStep_44 : decode cX4_keepStep 44 = .ok (.iconst 1, 1) := by decide +kernel
theorem dX4_keepStep_45 : decode cX4_keepStep 45 = .ok (.isub, 1) := by decide +kernel
theorem dX4_keepStep_46 : decode cX4_keepStep 46 = .ok (.bipush 20, 2) := by decide +kernel
theorem dX4_keepStep_48 : decode cX4_keepStep 48 = .ok (.irem, 1) := by decide +kernel
theorem dX4_keepStep_49 : decode cX4_keepStep 49 = .ok (.bipush 94, 2) := by decide +kernel
theorem dX4_keepStep_51 : decode cX4_keepStep 51 = .ok (.imul, 1) := by decide +kernel
theorem dX4_keepStep_52 : decode cX4_keepStep 52 = .ok (.istore_n 1, 1) := by decide +kernel
theorem dX4_keepStep_53 : decode cX4_keepStep 53 = .ok (.iload_n 1, 1) := by decide +kernel
theorem dX4_keepStep_54 : decode cX4_keepStep 54 = .ok (.ifCond .lt 15, 3) := by decide +kernel
theorem dX4_keepStep_57 : decode cX4_keepStep 57 = .ok (.iload_n 1, 1) := by decide +kernel
theorem dX4_keepStep_58 : decode cX4_keepStep 58 = .ok (.bipush 94, 2) := by decide +kernel
theorem dX4_keepStep_60 : decode cX4_keepStep 60 = .ok (.iadd, 1) := by decide +kernel
theorem dX4_keepStep_61 : decode cX4_keepStep 61 = .ok (.aload_n 0, 1) := by decide +kernel
theorem dX4_keepStep_62 : decode cX4_keepStep 62 = .ok (.getfield 18, 3) := by decide +kernel
theorem dX4_keepStep_65 : decode cX4_keepStep 65 = .ok (.arraylength, 1) := by decide +kernel
theorem dX4_keepStep_66 : decode cX4_keepStep 66 = .ok (.if_icmp .le 4, 3) := by decide +kernel
theorem dX4_keepStep_70 : decode cX4_keepStep 70 = .ok (.aload_n 0, 1) := by decide +kernel
theorem dX4_keepStep_71 : decode cX4_keepStep 71 = .ok (.getfield 11, 3) := by decide +kernel
theorem dX4_keepStep_74 : decode cX4_keepStep 74 = .ok (.iconst 0, 1) := by decide +kernel
theorem dX4_keepStep_75 : decode cX4_keepStep 75 = .ok (.aload_n 0, 1) := by decide +kernel
theorem dX4_keepStep_76 : decode cX4_keepStep 76 = .ok (.getfield 18, 3) := by decide +kernel
theorem dX4_keepStep_79 : decode cX4_keepStep 79 = .ok (.iload_n 1, 1) := by decide +kernel
theorem dX4_keepStep_80 : decode cX4_keepStep 80 = .ok (.bipush 90, 2) := by decide +kernel
theorem dX4_keepStep_82 : decode cX4_keepStep 82 = .ok (.invokestatic 52, 3) := by decide +kernel
theorem dX4_keepStep_85 : decode cX4_keepStep 85 = .ok (.aload_n 0, 1) := by decide +kernel
theorem dX4_keepStep_86 : decode cX4_keepStep 86 = .ok (.getfield 18, 3) := by decide +kernel
theorem dX4_keepStep_89 : decode cX4_keepStep 89 = .ok (.iload_n 1, 1) := by decide +kernel
theorem dX4_keepStep_90 : decode cX4_keepStep 90 = .ok (.bipush 90, 2) := by decide +kernel
theorem dX4_keepStep_92 : decode cX4_keepStep 92 = .ok (.iadd, 1) := by decide +kernel
theorem dX4_keepStep_93 : decode cX4_keepStep 93 = .ok (.aload_n 0, 1) := by decide +kernel
theorem dX4_keepStep_94 : decode cX4_keepStep 94 = .ok (.getfield 21, 3) := by decide +kernel
theorem dX4_keepStep_97 : decode cX4_keepStep 97 = .ok (.iastore, 1) := by decide +kernel
theorem dX4_keepStep_98 : decode cX4_keepStep 98 = .ok (.aload_n 0, 1) := by decide +kernel
theorem dX4_keepStep_99 : decode cX4_keepStep 99 = .ok (.getfield 18, 3) := by decide +kernel
theorem dX4_keepStep_102 : decode cX4_keepStep 102 = .ok (.iload_n 1, 1) := by decide +kernel
theorem dX4_keepStep_103 : decode cX4_keepStep 103 = .ok (.bipush 90, 2) := by decide +kernel
theorem dX4_keepStep_105 : decode cX4_keepStep 105 = .ok (.iadd, 1) := by decide +kernel
theorem dX4_keepStep_106 : decode cX4_keepStep 106 = .ok (.iconst 1, 1) := by decide +kernel
theorem dX4_keepStep_107 : decode cX4_keepStep 107 = .ok (.iadd, 1) := by decide +kernel
theorem dX4_keepStep_108 : decode cX4_keepStep 108 = .ok (.aload_n 0, 1) := by decide +kernel
theorem dX4_keepStep_109 : decode cX4_keepStep 109 = .ok (.getfield 28, 3) := by decide +kernel
theorem dX4_keepStep_112 : decode cX4_keepStep 112 = .ok (.iastore, 1) := by decide +kernel
theorem dX4_keepStep_113 : decode cX4_keepStep 113 = .ok (.aload_n 0, 1) := by decide +kernel
theorem dX4_keepStep_114 : decode cX4_keepStep 114 = .ok (.getfield 18, 3) := by decide +kernel
theorem dX4_keepStep_117 : decode cX4_keepStep 117 = .ok (.iload_n 1, 1) := by decide +kernel
theorem dX4_keepStep_118 : decode cX4_keepStep 118 = .ok (.bipush 90, 2) := by decide +kernel
theorem dX4_keepStep_120 : decode cX4_keepStep 120 = .ok (.iadd, 1) := by decide +kernel
theorem dX4_keepStep_121 : decode cX4_keepStep 121 = .ok (.iconst 2, 1) := by decide +kernel
theorem dX4_keepStep_122 : decode cX4_keepStep 122 = .ok (.iadd, 1) := by decide +kernel
theorem dX4_keepStep_123 : decode cX4_keepStep 123 = .ok (.aload_n 0, 1) := by decide +kernel
theorem dX4_keepStep_124 : decode cX4_keepStep 124 = .ok (.getfield 34, 3) := by decide +kernel
theorem dX4_keepStep_127 : decode cX4_keepStep 127 = .ok (.iastore, 1) := by decide +kernel
theorem dX4_keepStep_128 : decode cX4_keepStep 128 = .ok (.aload_n 0, 1) := by decide +kernel
theorem dX4_keepStep_129 : decode cX4_keepStep 129 = .ok (.getfield 18, 3) := by decide +kernel
theorem dX4_keepStep_132 : decode cX4_keepStep 132 = .ok (.iload_n 1, 1) := by decide +kernel
theorem dX4_keepStep_133 : decode cX4_keepStep 133 = .ok (.bipush 90, 2) := by decide +kernel
theorem dX4_keepStep_135 : decode cX4_keepStep 135 = .ok (.iadd, 1) := by decide +kernel
theorem dX4_keepStep_136 : decode cX4_keepStep 136 = .ok (.iconst 3, 1) := by decide +kernel
theorem dX4_keepStep_137 : decode cX4_keepStep 137 = .ok (.iadd, 1) := by decide +kernel
theorem dX4_keepStep_138 : decode cX4_keepStep 138 = .ok (.aload_n 0, 1) := by decide +kernel
theorem dX4_keepStep_139 : decode cX4_keepStep 139 = .ok (.getfield 37, 3) := by decide +kernel
theorem dX4_keepStep_142 : decode cX4_keepStep 142 = .ok (.iastore, 1) := by decide +kernel
theorem dX4_keepStep_143 : decode cX4_keepStep 143 = .ok (.return_, 1) := by decide +kernel
theorem dX4_takeStepBack_0 : decode cX4_takeStepBack 0 = .ok (.aload_n 0, 1) := by decide +kernel
theorem dX4_takeStepBack_1 : decode cX4_takeStepBack 1 = .ok (.getfield 46, 3) := by decide +kernel
theorem dX4_takeStepBack_4 : decode cX4_takeStepBack 4 = .ok (.aload_n 0, 1) := by decide +kernel
theorem dX4_takeStepBack_5 : decode cX4_takeStepBack 5 = .ok (.getfield 49, 3) := by decide +kernel
theorem dX4_takeStepBack_8 : decode cX4_takeStepBack 8 = .ok (.iadd, 1) := by decide +kernel
theorem dX4_takeStepBack_9 : decode cX4_takeStepBack 9 = .ok (.iconst 1, 1) := by decide +kernel
theorem dX4_takeStepBack_10 : decode cX4_takeStepBack 10 = .ok (.isub, 1) := by decide +kernel
theorem dX4_takeStepBack_11 : decode cX4_takeStepBack 11 = .ok (.bipush 20, 2) := by decide +kernel
theorem dX4_takeStepBack_13 : decode cX4_takeStepBack 13 = .ok (.irem, 1) := by decide +kernel
theorem dX4_takeStepBack_14 : decode cX4_takeStepBack 14 = .ok (.bipush 94, 2) := by decide +kernel
theorem dX4_takeStepBack_16 : decode cX4_takeStepBack 16 = .ok (.imul, 1) := by decide +kernel
theorem dX4_takeStepBack_17 : decode cX4_takeStepBack 17 = .ok (.istore_n 1, 1) := by decide +kernel
theorem dX4_takeStepBack_18 : decode cX4_takeStepBack 18 = .ok (.aload_n 0, 1) := by decide +kernel
theorem dX4_takeStepBack_19 : decode cX4_takeStepBack 19 = .ok (.getfield 49, 3) := by decide +kernel
theorem dX4_takeStepBack_22 : decode cX4_takeStepBack 22 = .ok (.iconst 1, 1) := by decide +kernel
theorem dX4_takeStepBack_23 : decode cX4_takeStepBack 23 = .ok (.if_icmp .lt 19, 3) := by decide +kernel
theorem dX4_takeStepBack_42 : decode cX4_takeStepBack 42 = .ok (.iconst 0, 1) := by decide +kernel
theorem dX4_takeStepBack_43 : decode cX4_takeStepBack 43 = .ok (.ireturn, 1) := by decide +kernel
theorem dX5_init_0 : decode cX5_init 0 = .ok (.aload_n 0, 1) := by decide +kernel
theorem dX5_init_1 : decode cX5_init 1 = .ok (.invokespecial 3, 3) := by decide +kernel
theorem dX5_init_4 : decode cX5_init 4 = .ok (.aload_n 0, 1) := by decide +kernel
theorem dX5_init_5 : decode cX5_init 5 = .ok (.sipush 300, 3) := by decide +kernel
theorem dX5_init_8 : decode cX5_init 8 = .ok (.newarray .int, 2) := by decide +kernel
theorem dX5_init_10 : decode cX5_init 10 = .ok (.putfield 9, 3) := by decide +kernel
theorem dX5_init_13 : decode cX5_init 13 = .ok (.aload_n 0, 1) := by decide +kernel
theorem dX5_init_14 : decode cX5_init 14 = .ok (.iconst 0, 1) := by decide +kernel
theorem dX5_init_15 : decode cX5_init 15 = .ok (.putfield 15, 3) := by decide +kernel
theorem dX5_init_18 : decode cX5_init 18 = .ok (.return_, 1) := by decide +kernel
theorem dX5_addFour_0 : decode cX5_addFour 0 = .ok (.bipush 24, 2) := by decide +kernel
theorem dX5_addFour_2 : decode cX5_addFour 2 = .ok (.istore_n 2, 1) := by decide +kernel
theorem dX5_addFour_3 : decode cX5_addFour 3 = .ok (.iload_n 2, 1) := by decide +kernel
theorem dX5_addFour_4 : decode cX5_addFour 4 = .ok (.ifCond .lt 47, 3) := by decide +kernel
theorem dX5_addFour_7 : decode cX5_addFour 7 = .ok (.aload_n 0, 1) := by decide +kernel
theorem dX5_addFour_8 : decode cX5_addFour 8 = .ok (.getfield 15, 3) := by decide +kernel
theorem dX5_addFour_11 : decode cX5_addFour 11 = .ok (.aload_n 0, 1) := by decide +kernel
theorem dX5_addFour_12 : decode cX5_addFour 12 = .ok (.getfield 9, 3) := by decide +kernel
theorem dX5_addFour_15 : decode cX5_addFour 15 = .ok (.arraylength, 1) := by decide +kernel
theorem dX5_addFour_16 : decode cX5_addFour 16 = .ok (.if_icmp .ge 29, 3) := by decide +kernel
theorem dX5_addFour_19 : decode cX5_addFour 19 = .ok (.aload_n 0, 1) := by decide +kernel
theorem dX5_addFour_20 : decode cX5_addFour 20 = .ok (.getfield 9, 3) := by decide +kernel
theorem dX5_addFour_23 : decode cX5_addFour 23 = .ok (.aload_n 0, 1) := by decide +kernel
theorem dX5_addFour_24 : decode cX5_addFour 24 = .ok (.getfield 15, 3) := by decide +kernel
theorem dX5_addFour_27 : decode cX5_addFour 27 = .ok (.iload_n 1, 1) := by decide +kernel
theorem dX5_addFour_28 : decode cX5_addFour 28 = .ok (.iload_n 2, 1) := by decide +kernel
theorem dX5_addFour_29 : decode cX5_addFour 29 = .ok (.ishr, 1) := by decide +kernel
theorem dX5_addFour_30 : decode cX5_addFour 30 = .ok (.sipush 255, 3) := by decide +kernel
theorem dX5_addFour_33 : decode cX5_addFour 33 = .ok (.iand, 1) := by decide +kernel
theorem dX5_addFour_34 : decode cX5_addFour 34 = .ok (.iastore, 1) := by decide +kernel
theorem dX5_addFour_35 : decode cX5_addFour 35 = .ok (.aload_n 0, 1) := by decide +kernel
theorem dX5_addFour_36 : decode cX5_addFour 36 = .ok (.dup, 1) := by decide +kernel
theorem dX5_addFour_37 : decode cX5_addFour 37 = .ok (.getfield 15, 3) := by decide +kernel
theorem dX5_addFour_40 : decode cX5_addFour 40 = .ok (.iconst 1, 1) := by decide +kernel
theorem dX5_addFour_41 : decode cX5_addFour 41 = .ok (.iadd, 1) := by decide +kernel
theorem dX5_addFour_42 : decode cX5_addFour 42 = .ok (.putfield 15, 3) := by decide +kernel
theorem dX5_addFour_45 : decode cX5_addFour 45 = .ok (.iinc 2 (-8), 3) := by decide +kernel
theorem dX5_addFour_48 : decode cX5_addFour 48 = .ok (.goto (-45), 3) := by decide +kernel
theorem dX5_addFour_51 : decode cX5_addFour 51 = .ok (.return_, 1) := by decide +kernel
theorem dX6_init_0 : decode cX6_init 0 = .ok (.aload_n 0, 1) := by decide +kernel
theorem dX6_init_1 : decode cX6_init 1 = .ok (.invokespecial 3, 3) := by decide +kernel
theorem dX6_init_4 : decode cX6_init 4 = .ok (.aload_n 0, 1) := by decide +kernel
theorem dX6_init_5 : decode cX6_init 5 = .ok (.bipush 96, 2) := by decide +kernel
theorem dX6_init_7 : decode cX6_init 7 = .ok (.newarray .int, 2) := by decide +kernel
theorem dX6_init_9 : decode cX6_init 9 = .ok (.putfield 9, 3) := by decide +kernel
theorem dX6_init_12 : decode cX6_init 12 = .ok (.aload_n 0, 1) := by decide +kernel
theorem dX6_init_13 : decode cX6_init 13 = .ok (.iconst 0, 1) := by decide +kernel
theorem dX6_init_14 : decode cX6_init 14 = .ok (.putfield 15, 3) := by decide +kernel
theorem dX6_init_17 : decode cX6_init 17 = .ok (.aload_n 0, 1) := by decide +kernel
theorem dX6_init_18 : decode cX6_init 18 = .ok (.sipush 300, 3) := by decide +kernel
theorem dX6_init_21 : decode cX6_init 21 = .ok (.newarray .int, 2) := by decide +kernel
theorem dX6_init_23 : decode cX6_init 23 = .ok (.putfield 19, 3) := by decide +kernel
theorem dX6_init_26 : decode cX6_init 26 = .ok (.aload_n 0, 1) := by decide +kernel
theorem dX6_init_27 : decode cX6_init 27 = .ok (.iconst 4, 1) := by decide +kernel
theorem dX6_init_28 : decode cX6_init 28 = .ok (.newarray .int, 2) := by decide +kernel
theorem dX6_init_30 : decode cX6_init 30 = .ok (.putfield 22, 3) := by decide +kernel
theorem dX6_init_33 : decode cX6_init 33 = .ok (.aload_n 0, 1) := by decide +kernel
theorem dX6_init_34 : decode cX6_init 34 = .ok (.iconst 4, 1) := by decide +kernel
theorem dX6_init_35 : decode cX6_init 35 = .ok (.newarray .int, 2) := by decide +kernel
theorem dX6_init_37 : decode cX6_init 37 = .ok (.putfield 25, 3) := by decide +kernel
theorem dX6_init_40 : decode cX6_init 40 = .ok (.aload_n 0, 1) := by decide +kernel
theorem dX6_init_41 : decode cX6_init 41 = .ok (.iconst 0, 1) := by decide +kernel
theorem dX6_init_42 : decode cX6_init 42 = .ok (.putfield 28, 3) := by decide +kernel
theorem dX6_init_45 : decode cX6_init 45 = .ok (.return_, 1) := by decide +kernel
theorem dX6_clear_0 : decode cX6_clear 0 = .ok (.aload_n 0, 1) := by decide +kernel
theorem dX6_clear_1 : decode cX6_clear 1 = .ok (.iconst 0, 1) := by decide +kernel
theorem dX6_clear_2 : decode cX6_clear 2 = .ok (.putfield 15, 3) := by decide +kernel
theorem dX6_clear_5 : decode cX6_clear 5 = .ok (.aload_n 0, 1) := by decide +kernel
theorem dX6_clear_6 : decode cX6_clear 6 = .ok (.iconst 0, 1) := by decide +kernel
theorem dX6_clear_7 : decode cX6_clear 7 = .ok (.putfield 28, 3) := by decide +kernel
theorem dX6_clear_10 : decode cX6_clear 10 = .ok (.iconst 0, 1) := by decide +kernel
theorem dX6_clear_11 : decode cX6_clear 11 = .ok (.istore_n 1, 1) := by decide +kernel
theorem dX6_clear_12 : decode cX6_clear 12 = .ok (.iload_n 1, 1) := by decide +kernel
theorem dX6_clear_13 : decode cX6_clear 13 = .ok (.iconst 4, 1) := by decide +kernel
theorem dX6_clear_14 : decode cX6_clear 14 = .ok (.if_icmp .ge 23, 3) := by decide +kernel
theorem dX6_clear_17 : decode cX6_clear 17 = .ok (.aload_n 0, 1) := by decide +kernel
theorem dX6_clear_18 : decode cX6_clear 18 = .ok (.getfield 22, 3) := by decide +kernel
theorem dX6_clear_21 : decode cX6_clear 21 = .ok (.iload_n 1, 1) := by decide +kernel
theorem dX6_clear_22 : decode cX6_clear 22 = .ok (.iconst (-1), 1) := by decide +kernel
theorem dX6_clear_23 : decode cX6_clear 23 = .ok (.iastore, 1) := by decide +kernel
theorem dX6_clear_24 : decode cX6_clear 24 = .ok (.aload_n 0, 1) := by decide +kernel
theorem dX6_clear_25 : decode cX6_clear 25 = .ok (.getfield 25, 3) := by decide +kernel
theorem dX6_clear_28 : decode cX6_clear 28 = .ok (.iload_n 1, 1) := by decide +kernel
theorem dX6_clear_29 : decode cX6_clear 29 = .ok (.iconst (-1), 1) := by decide +kernel
theorem dX6_clear_30 : decode cX6_clear 30 = .ok (.iastore, 1) := by decide +kernel
theorem dX6_clear_31 : decode cX6_clear 31 = .ok (.iinc 1 1, 3) := by decide +kernel
theorem dX6_clear_34 : decode cX6_clear 34 = .ok (.goto (-22), 3) := by decide +kernel
theorem dX6_clear_37 : decode cX6_clear 37 = .ok (.return_, 1) := by decide +kernel
theorem dX7_init_0 : decode cX7_init 0 = .ok (.aload_n 0, 1) := by decide +kernel
theorem dX7_init_1 : decode cX7_init 1 = .ok (.invokespecial 3, 3) := by decide +kernel
theorem dX7_init_4 : decode cX7_init 4 = .ok (.aload_n 0, 1) := by decide +kernel
theorem dX7_init_5 : decode cX7_init 5 = .ok (.sipush 301, 3) := by decide +kernel
theorem dX7_init_8 : decode cX7_init 8 = .ok (.newarray .int, 2) := by decide +kernel
theorem dX7_init_10 : decode cX7_init 10 = .ok (.putfield 9, 3) := by decide +kernel
theorem dX7_init_13 : decode cX7_init 13 = .ok (.aload_n 0, 1) := by decide +kernel
theorem dX7_init_14 : decode cX7_init 14 = .ok (.sipush 301, 3) := by decide +kernel
theorem dX7_init_17 : decode cX7_init 17 = .ok (.newarray .int, 2) := by decide +kernel
theorem dX7_init_19 : decode cX7_init 19 = .ok (.putfield 15, 3) := by decide +kernel
theorem dX7_init_22 : decode cX7_init 22 = .ok (.aload_n 0, 1) := by decide +kernel
theorem dX7_init_23 : decode cX7_init 23 = .ok (.sipush 301, 3) := by decide +kernel
theorem dX7_init_26 : decode cX7_init 26 = .ok (.newarray .int, 2) := by decide +kernel
theorem dX7_init_28 : decode cX7_init 28 = .ok (.putfield 18, 3) := by decide +kernel
theorem dX7_init_31 : decode cX7_init 31 = .ok (.aload_n 0, 1) := by decide +kernel
theorem dX7_init_32 : decode cX7_init 32 = .ok (.iconst 0, 1) := by decide +kernel
theorem dX7_init_33 : decode cX7_init 33 = .ok (.putfield 21, 3) := by decide +kernel
theorem dX7_init_36 : decode cX7_init 36 = .ok (.aload_n 0, 1) := by decide +kernel
theorem dX7_init_37 : decode cX7_init 37 = .ok (.iconst 0, 1) := by decide +kernel
theorem dX7_init_38 : decode cX7_init 38 = .ok (.putfield 25, 3) := by decide +kernel
theorem dX7_init_41 : decode cX7_init 41 = .ok (.return_, 1) := by decide +kernel
theorem dX7_split_0 : decode cX7_split 0 = .ok (.aload_n 0, 1) := by decide +kernel
theorem dX7_split_1 : decode cX7_split 1 = .ok (.iconst 0, 1) := by decide +kernel
theorem dX7_split_2 : decode cX7_split 2 = .ok (.putfield 25, 3) := by decide +kernel
theorem dX7_split_5 : decode cX7_split 5 = .ok (.aload_n 0, 1) := by decide +kernel
theorem dX7_split_6 : decode cX7_split 6 = .ok (.iconst 0, 1) := by decide +kernel
theorem dX7_split_7 : decode cX7_split 7 = .ok (.putfield 21, 3) := by decide +kernel
theorem dX7_split_10 : decode cX7_split 10 = .ok (.iconst 0, 1) := by decide +kernel
theorem dX7_split_11 : decode cX7_split 11 = .ok (.istore_n 2, 1) := by decide +kernel
theorem dX7_split_12 : decode cX7_split 12 = .ok (.iconst 0, 1) := by decide +kernel
theorem dX7_split_13 : decode cX7_split 13 = .ok (.istore_n 3, 1) := by decide +kernel
theorem dX7_split_14 : decode cX7_split 14 = .ok (.iload_n 3, 1) := by decide +kernel
theorem dX7_split_15 : decode cX7_split 15 = .ok (.sipush 300, 3) := by decide +kernel
theorem dX7_split_18 : decode cX7_split 18 = .ok (.if_icmp .ge 81, 3) := by decide +kernel
theorem dX7_split_21 : decode cX7_split 21 = .ok (.iload_n 2, 1) := by decide +kernel
theorem dX7_split_22 : decode cX7_split 22 = .ok (.aload_n 1, 1) := by decide +kernel
theorem dX7_split_23 : decode cX7_split 23 = .ok (.getfield 28, 3) := by decide +kernel
theorem dX7_split_26 : decode cX7_split 26 = .ok (.if_icmp .ge 73, 3) := by decide +kernel
theorem dX7_split_99 : decode cX7_split 99 = .ok (.aload_n 0, 1) := by decide +kernel
theorem dX7_split_100 : decode cX7_split 100 = .ok (.iconst 0, 1) := by decide +kernel
theorem dX7_split_101 : decode cX7_split 101 = .ok (.aload_n 1, 1) := by decide +kernel
theorem dX7_split_102 : decode cX7_split 102 = .ok (.getfield 28, 3) := by decide +kernel
theorem dX7_split_105 : decode cX7_split 105 = .ok (.iconst 0, 1) := by decide +kernel
theorem dX7_split_106 : decode cX7_split 106 = .ok (.invokevirtual 57, 3) := by decide +kernel
theorem dX7_split_109 : decode cX7_split 109 = .ok (.return_, 1) := by decide +kernel
theorem dX7_kind_0 : decode cX7_kind 0 = .ok (.aload_n 0, 1) := by decide +kernel
theorem dX7_kind_1 : decode cX7_kind 1 = .ok (.getfield 25, 3) := by decide +kernel
theorem dX7_kind_4 : decode cX7_kind 4 = .ok (.aload_n 0, 1) := by decide +kernel
theorem dX7_kind_5 : decode cX7_kind 5 = .ok (.getfield 21, 3) := by decide +kernel
theorem dX7_kind_8 : decode cX7_kind 8 = .ok (.if_icmp .ge 27, 3) := by decide +kernel
theorem dX7_kind_11 : decode cX7_kind 11 = .ok (.aload_n 0, 1) := by decide +kernel
theorem dX7_kind_12 : decode cX7_kind 12 = .ok (.getfield 25, 3) := by decide +kernel
theorem dX7_kind_15 : decode cX7_kind 15 = .ok (.aload_n 0, 1) := by decide +kernel
theorem dX7_kind_16 : decode cX7_kind 16 = .ok (.getfield 9, 3) := by decide +kernel
theorem dX7_kind_19 : decode cX7_kind 19 = .ok (.arraylength, 1) := by decide +kernel
theorem dX7_kind_20 : decode cX7_kind 20 = .ok (.if_icmp .ge 15, 3) := by decide +kernel
theorem dX7_kind_23 : decode cX7_kind 23 = .ok (.aload_n 0, 1) := by decide +kernel
theorem dX7_kind_24 : decode cX7_kind 24 = .ok (.getfield 9, 3) := by decide +kernel
theorem dX7_kind_27 : decode cX7_kind 27 = .ok (.aload_n 0, 1) := by decide +kernel
theorem dX7_kind_28 : decode cX7_kind 28 = .ok (.getfield 25, 3) := by decide +kernel
theorem dX7_kind_31 : decode cX7_kind 31 = .ok (.iaload, 1) := by decide +kernel
theorem dX7_kind_32 : decode cX7_kind 32 = .ok (.goto 4, 3) := by decide +kernel
theorem dX7_kind_36 : decode cX7_kind 36 = .ok (.ireturn, 1) := by decide +kernel
theorem dX7_add_0 : decode cX7_add 0 = .ok (.aload_n 0, 1) := by decide +kernel
theorem dX7_add_1 : decode cX7_add 1 = .ok (.getfield 21, 3) := by decide +kernel
theorem dX7_add_4 : decode cX7_add 4 = .ok (.aload_n 0, 1) := by decide +kernel
theorem dX7_add_5 : decode cX7_add 5 = .ok (.getfield 9, 3) := by decide +kernel
theorem dX7_add_8 : decode cX7_add 8 = .ok (.arraylength, 1) := by decide +kernel
theorem dX7_add_9 : decode cX7_add 9 = .ok (.if_icmp .ge 67, 3) := by decide +kernel
theorem dX7_add_12 : decode cX7_add 12 = .ok (.aload_n 0, 1) := by decide +kernel
theorem dX7_add_13 : decode cX7_add 13 = .ok (.getfield 21, 3) := by decide +kernel
theorem dX7_add_16 : decode cX7_add 16 = .ok (.aload_n 0, 1) := by decide +kernel
theorem dX7_add_17 : decode cX7_add 17 = .ok (.getfield 15, 3) := by decide +kernel
theorem dX7_add_20 : decode cX7_add 20 = .ok (.arraylength, 1) := by decide +kernel
theorem dX7_add_21 : decode cX7_add 21 = .ok (.if_icmp .ge 55, 3) := by decide +kernel
theorem dX7_add_24 : decode cX7_add 24 = .ok (.aload_n 0, 1) := by decide +kernel
theorem dX7_add_25 : decode cX7_add 25 = .ok (.getfield 21, 3) := by decide +kernel
theorem dX7_add_28 : decode cX7_add 28 = .ok (.aload_n 0, 1) := by decide +kernel
theorem dX7_add_29 : decode cX7_add 29 = .ok (.getfield 18, 3) := by decide +kernel
theorem dX7_add_32 : decode cX7_add 32 = .ok (.arraylength, 1) := by decide +kernel
theorem dX7_add_33 : decode cX7_add 33 = .ok (.if_icmp .ge 43, 3) := by decide +kernel
theorem dX7_add_36 : decode cX7_add 36 = .ok (.aload_n 0, 1) := by decide +kernel
theorem dX7_add_37 : decode cX7_add 37 = .ok (.getfield 9, 3) := by decide +kernel
theorem dX7_add_40 : decode cX7_add 40 = .ok (.aload_n 0, 1) := by decide +kernel
theorem dX7_add_41 : decode cX7_add 41 = .ok (.getfield 21, 3) := by decide +kernel
theorem dX7_add_44 : decode cX7_add 44 = .ok (.iload_n 1, 1) := by decide +kernel
theorem dX7_add_45 : decode cX7_add 45 = .ok (.iastore, 1) := by decide +kernel
theorem dX7_add_46 : decode cX7_add 46 = .ok (.aload_n 0, 1) := by decide +kernel
theorem dX7_add_47 : decode cX7_add 47 = .ok (.getfield 15, 3) := by decide +kernel
theorem dX7_add_50 : decode cX7_add 50 = .ok (.aload_n 0, 1) := by decide +kernel
theorem dX7_add_51 : decode cX7_add 51 = .ok (.getfield 21, 3) := by decide +kernel
theorem dX7_add_54 : decode cX7_add 54 = .ok (.iload_n 2, 1) := by decide +kernel
theorem dX7_add_55 : decode cX7_add 55 = .ok (.iastore, 1) := by decide +kernel
theorem dX7_add_56 : decode cX7_add 56 = .ok (.aload_n 0, 1) := by decide +kernel
theorem dX7_add_57 : decode cX7_add 57 = .ok (.getfield 18, 3) := by decide +kernel
theorem dX7_add_60 : decode cX7_add 60 = .ok (.aload_n 0, 1) := by decide +kernel
theorem dX7_add_61 : decode cX7_add 61 = .ok (.getfield 21, 3) := by decide +kernel
theorem dX7_add_64 : decode cX7_add 64 = .ok (.iload_n 3, 1) := by decide +kernel
theorem dX7_add_65 : decode cX7_add 65 = .ok (.iastore, 1) := by decide +kernel
theorem dX7_add_66 : decode cX7_add 66 = .ok (.aload_n 0, 1) := by decide +kernel
theorem dX7_add_67 : decode cX7_add 67 = .ok (.dup, 1) := by decide +kernel
theorem dX7_add_68 : decode cX7_add 68 = .ok (.getfield 21, 3) := by decide +kernel
theorem dX7_add_71 : decode cX7_add 71 = .ok (.iconst 1, 1) := by decide +kernel
theorem dX7_add_72 : decode cX7_add 72 = .ok (.iadd, 1) := by decide +kernel
theorem dX7_add_73 : decode cX7_add 73 = .ok (.putfield 21, 3) := by decide +kernel
theorem dX7_add_76 : decode cX7_add 76 = .ok (.return_, 1) := by decide +kernel
