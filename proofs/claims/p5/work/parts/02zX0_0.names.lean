theorem dX0_begin_0 : decode cX0_begin 0 = .ok (.aload_n 0, 1) := by decide +kernel
theorem dX0_begin_1 : decode cX0_begin 1 = .ok (.iconst 0, 1) := by decide +kernel
theorem dX0_begin_2 : decode cX0_begin 2 = .ok (.putfield 9, 3) := by decide +kernel
theorem dX0_begin_5 : decode cX0_begin 5 = .ok (.aload_n 0, 1) := by decide +kernel
theorem dX0_begin_6 : decode cX0_begin 6 = .ok (.lconst 1, 1) := by decide +kernel
theorem dX0_begin_7 : decode cX0_begin 7 = .ok (.putfield 15, 3) := by decide +kernel
theorem dX0_begin_10 : decode cX0_begin 10 = .ok (.iconst 0, 1) := by decide +kernel
theorem dX0_begin_11 : decode cX0_begin 11 = .ok (.istore_n 3, 1) := by decide +kernel
theorem dX0_begin_12 : decode cX0_begin 12 = .ok (.iload_n 3, 1) := by decide +kernel
theorem dX0_begin_13 : decode cX0_begin 13 = .ok (.aload_n 0, 1) := by decide +kernel
theorem dX0_begin_14 : decode cX0_begin 14 = .ok (.getfield 19, 3) := by decide +kernel
theorem dX0_begin_17 : decode cX0_begin 17 = .ok (.arraylength, 1) := by decide +kernel
theorem dX0_begin_18 : decode cX0_begin 18 = .ok (.if_icmp .ge 29, 3) := by decide +kernel
theorem dX0_begin_21 : decode cX0_begin 21 = .ok (.aload_n 0, 1) := by decide +kernel
theorem dX0_begin_22 : decode cX0_begin 22 = .ok (.getfield 19, 3) := by decide +kernel
theorem dX0_begin_25 : decode cX0_begin 25 = .ok (.iload_n 3, 1) := by decide +kernel
theorem dX0_begin_26 : decode cX0_begin 26 = .ok (.iload_n 3, 1) := by decide +kernel
theorem dX0_begin_27 : decode cX0_begin 27 = .ok (.iload_n 1, 1) := by decide +kernel
theorem dX0_begin_28 : decode cX0_begin 28 = .ok (.iconst 4, 1) := by decide +kernel
theorem dX0_begin_29 : decode cX0_begin 29 = .ok (.imul, 1) := by decide +kernel
theorem dX0_begin_30 : decode cX0_begin 30 = .ok (.iload_n 2, 1) := by decide +kernel
theorem dX0_begin_31 : decode cX0_begin 31 = .ok (.iadd, 1) := by decide +kernel
theorem dX0_begin_32 : decode cX0_begin 32 = .ok (.if_icmp .ne 7, 3) := by decide +kernel
theorem dX0_begin_35 : decode cX0_begin 35 = .ok (.lconst 1, 1) := by decide +kernel
theorem dX0_begin_36 : decode cX0_begin 36 = .ok (.goto 4, 3) := by decide +kernel
theorem dX0_begin_39 : decode cX0_begin 39 = .ok (.lconst 0, 1) := by decide +kernel
theorem dX0_begin_40 : decode cX0_begin 40 = .ok (.lastore, 1) := by decide +kernel
theorem dX0_begin_41 : decode cX0_begin 41 = .ok (.iinc 3 1, 3) := by decide +kernel
theorem dX0_begin_44 : decode cX0_begin 44 = .ok (.goto (-32), 3) := by decide +kernel
theorem dX0_begin_47 : decode cX0_begin 47 = .ok (.return_, 1) := by decide +kernel
theorem dX0_upper_0 : decode cX0_upper 0 = .ok (.lconst 0, 1) := by decide +kernel
theorem dX0_upper_1 : decode cX0_upper 1 = .ok (.lstore_n 2, 1) := by decide +kernel
theorem dX0_upper_2 : decode cX0_upper 2 = .ok (.iconst 0, 1) := by decide +kernel
theorem dX0_upper_3 : decode cX0_upper 3 = .ok (.istore 4, 2) := by decide +kernel
theorem dX0_upper_5 : decode cX0_upper 5 = .ok (.iload 4, 2) := by decide +kernel
theorem dX0_upper_7 : decode cX0_upper 7 = .ok (.aload_n 0, 1) := by decide +kernel
theorem dX0_upper_8 : decode cX0_upper 8 = .ok (.getfield 19, 3) := by decide +kernel
theorem dX0_upper_11 : decode cX0_upper 11 = .ok (.arraylength, 1) := by decide +kernel
theorem dX0_upper_12 : decode cX0_upper 12 = .ok (.if_icmp .ge 84, 3) := by decide +kernel
theorem dX0_upper_15 : decode cX0_upper 15 = .ok (.iload 4, 2) := by decide +kernel
theorem dX0_upper_17 : decode cX0_upper 17 = .ok (.iconst 4, 1) := by decide +kernel
theorem dX0_upper_18 : decode cX0_upper 18 = .ok (.idiv, 1) := by decide +kernel
theorem dX0_upper_19 : decode cX0_upper 19 = .ok (.iconst 3, 1) := by decide +kernel
theorem dX0_upper_20 : decode cX0_upper 20 = .ok (.if_icmp .ne 7, 3) := by decide +kernel
theorem dX0_upper_23 : decode cX0_upper 23 = .ok (.iconst 1, 1) := by decide +kernel
theorem dX0_upper_24 : decode cX0_upper 24 = .ok (.goto 4, 3) := by decide +kernel
theorem dX0_upper_27 : decode cX0_upper 27 = .ok (.iconst 0, 1) := by decide +kernel
theorem dX0_upper_28 : decode cX0_upper 28 = .ok (.istore 5, 2) := by decide +kernel
theorem dX0_upper_30 : decode cX0_upper 30 = .ok (.iload 4, 2) := by decide +kernel
theorem dX0_upper_32 : decode cX0_upper 32 = .ok (.iconst 4, 1) := by decide +kernel
theorem dX0_upper_33 : decode cX0_upper 33 = .ok (.irem, 1) := by decide +kernel
theorem dX0_upper_34 : decode cX0_upper 34 = .ok (.iconst 3, 1) := by decide +kernel
theorem dX0_upper_35 : decode cX0_upper 35 = .ok (.if_icmp .ne 7, 3) := by decide +kernel
theorem dX0_upper_38 : decode cX0_upper 38 = .ok (.iconst 1, 1) := by decide +kernel
theorem dX0_upper_39 : decode cX0_upper 39 = .ok (.goto 4, 3) := by decide +kernel
theorem dX0_upper_42 : decode cX0_upper 42 = .ok (.iconst 0, 1) := by decide +kernel
theorem dX0_upper_43 : decode cX0_upper 43 = .ok (.istore 6, 2) := by decide +kernel
theorem dX0_upper_45 : decode cX0_upper 45 = .ok (.iload_n 1, 1) := by decide +kernel
theorem dX0_upper_46 : decode cX0_upper 46 = .ok (.ifCond .ne 11, 3) := by decide +kernel
theorem dX0_upper_49 : decode cX0_upper 49 = .ok (.iload 5, 2) := by decide +kernel
theorem dX0_upper_51 : decode cX0_upper 51 = .ok (.ifCond .eq 39, 3) := by decide +kernel
theorem dX0_upper_54 : decode cX0_upper 54 = .ok (.goto 26, 3) := by decide +kernel
theorem dX0_upper_57 : decode cX0_upper 57 = .ok (.iload_n 1, 1) := by decide +kernel
theorem dX0_upper_58 : decode cX0_upper 58 = .ok (.iconst 1, 1) := by decide +kernel
theorem dX0_upper_59 : decode cX0_upper 59 = .ok (.if_icmp .ne 11, 3) := by decide +kernel
theorem dX0_upper_62 : decode cX0_upper 62 = .ok (.iload 6, 2) := by decide +kernel
theorem dX0_upper_64 : decode cX0_upper 64 = .ok (.ifCond .eq 26, 3) := by decide +kernel
theorem dX0_upper_67 : decode cX0_upper 67 = .ok (.goto 13, 3) := by decide +kernel
theorem dX0_upper_70 : decode cX0_upper 70 = .ok (.iload 5, 2) := by decide +kernel
theorem dX0_upper_72 : decode cX0_upper 72 = .ok (.ifCond .eq 18, 3) := by decide +kernel
theorem dX0_upper_75 : decode cX0_upper 75 = .ok (.iload 6, 2) := by decide +kernel
theorem dX0_upper_77 : decode cX0_upper 77 = .ok (.ifCond .ne 13, 3) := by decide +kernel
theorem dX0_upper_80 : decode cX0_upper 80 = .ok (.lload_n 2, 1) := by decide +kernel
theorem dX0_upper_81 : decode cX0_upper 81 = .ok (.aload_n 0, 1) := by decide +kernel
theorem dX0_upper_82 : decode cX0_upper 82 = .ok (.getfield 19, 3) := by decide +kernel
theorem dX0_upper_85 : decode cX0_upper 85 = .ok (.iload 4, 2) := by decide +kernel
theorem dX0_upper_87 : decode cX0_upper 87 = .ok (.laload, 1) := by decide +kernel
theorem dX0_upper_88 : decode cX0_upper 88 = .ok (.ladd, 1) := by decide +kernel
theorem dX0_upper_89 : decode cX0_upper 89 = .ok (.lstore_n 2, 1) := by decide +kernel
theorem dX0_upper_90 : decode cX0_upper 90 = .ok (.iinc 4 1, 3) := by decide +kernel
theorem dX0_upper_93 : decode cX0_upper 93 = .ok (.goto (-88), 3) := by decide +kernel
theorem dX0_upper_96 : decode cX0_upper 96 = .ok (.lload_n 2, 1) := by decide +kernel
theorem dX0_upper_97 : decode cX0_upper 97 = .ok (.lreturn, 1) := by decide +kernel
