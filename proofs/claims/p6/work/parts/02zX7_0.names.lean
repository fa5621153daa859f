theorem dX7_split_0 : decode cX7_split 0 = .ok (.aload_n 0, 1) := by decide +kernel
theorem dX7_split_1 : decode cX7_split 1 = .ok (.iconst 0, 1) := by decide +kernel
theorem dX7_split_2 : decode cX7_split 2 = .ok (.putfield 25, 3) := by decide +kernel
theorem dX7_split_5 : decode cX7_split 5 = .ok (.aload_n 0, 1) := by decide +kernel
theorem dX7_split_6 : decode cX7_split 6 = .ok (.iconst 0, 1) := by decide +kernel
theorem dX7_split_7 : decode cX7_split 7 = .ok (.putfield 21, 3) := by decide +kernel
theorem dX7_split_10 : decode cX7_split 10 = .ok (.iconst 0, 1) := by decide +kernel
theorem dX7_split_11 : decode cX7_split 11 = .ok (.istore_n 2, 1) := by decide +kernel
theorem dX7_split_12 : decode cX7_split 12 = .ok (.iconst 0, 1) := by decide +kernel
theorem dX7_split_13 : decode cX7_split 13 = .ok (.istore_n 3, 1) := by decide +kernel
theorem dX7_split_14 : decode cX7_split 14 = .ok (.iload_n 3, 1) := by decide +kernel
theorem dX7_split_15 : decode cX7_split 15 = .ok (.sipush 300, 3) := by decide +kernel
theorem dX7_split_18 : decode cX7_split 18 = .ok (.if_icmp .ge 81, 3) := by decide +kernel
theorem dX7_split_21 : decode cX7_split 21 = .ok (.iload_n 2, 1) := by decide +kernel
theorem dX7_split_22 : decode cX7_split 22 = .ok (.aload_n 1, 1) := by decide +kernel
theorem dX7_split_23 : decode cX7_split 23 = .ok (.getfield 28, 3) := by decide +kernel
theorem dX7_split_26 : decode cX7_split 26 = .ok (.if_icmp .ge 73, 3) := by decide +kernel
theorem dX7_split_29 : decode cX7_split 29 = .ok (.aload_n 1, 1) := by decide +kernel
theorem dX7_split_30 : decode cX7_split 30 = .ok (.iload_n 2, 1) := by decide +kernel
theorem dX7_split_31 : decode cX7_split 31 = .ok (.invokevirtual 33, 3) := by decide +kernel
theorem dX7_split_34 : decode cX7_split 34 = .ok (.istore 4, 2) := by decide +kernel
theorem dX7_split_36 : decode cX7_split 36 = .ok (.iload 4, 2) := by decide +kernel
theorem dX7_split_38 : decode cX7_split 38 = .ok (.invokestatic 37, 3) := by decide +kernel
theorem dX7_split_41 : decode cX7_split 41 = .ok (.ifCond .eq 9, 3) := by decide +kernel
theorem dX7_split_44 : decode cX7_split 44 = .ok (.iinc 2 1, 3) := by decide +kernel
theorem dX7_split_47 : decode cX7_split 47 = .ok (.goto 46, 3) := by decide +kernel
theorem dX7_split_50 : decode cX7_split 50 = .ok (.iload 4, 2) := by decide +kernel
theorem dX7_split_52 : decode cX7_split 52 = .ok (.invokestatic 41, 3) := by decide +kernel
theorem dX7_split_55 : decode cX7_split 55 = .ok (.ifCond .eq 13, 3) := by decide +kernel
theorem dX7_split_58 : decode cX7_split 58 = .ok (.aload_n 0, 1) := by decide +kernel
theorem dX7_split_59 : decode cX7_split 59 = .ok (.aload_n 1, 1) := by decide +kernel
theorem dX7_split_60 : decode cX7_split 60 = .ok (.iload_n 2, 1) := by decide +kernel
theorem dX7_split_61 : decode cX7_split 61 = .ok (.invokevirtual 44, 3) := by decide +kernel
theorem dX7_split_64 : decode cX7_split 64 = .ok (.istore_n 2, 1) := by decide +kernel
theorem dX7_split_65 : decode cX7_split 65 = .ok (.goto 28, 3) := by decide +kernel
theorem dX7_split_68 : decode cX7_split 68 = .ok (.iload 4, 2) := by decide +kernel
theorem dX7_split_70 : decode cX7_split 70 = .ok (.invokestatic 48, 3) := by decide +kernel
theorem dX7_split_73 : decode cX7_split 73 = .ok (.ifCond .eq 13, 3) := by decide +kernel
theorem dX7_split_76 : decode cX7_split 76 = .ok (.aload_n 0, 1) := by decide +kernel
theorem dX7_split_77 : decode cX7_split 77 = .ok (.aload_n 1, 1) := by decide +kernel
theorem dX7_split_78 : decode cX7_split 78 = .ok (.iload_n 2, 1) := by decide +kernel
theorem dX7_split_79 : decode cX7_split 79 = .ok (.invokevirtual 51, 3) := by decide +kernel
theorem dX7_split_82 : decode cX7_split 82 = .ok (.istore_n 2, 1) := by decide +kernel
theorem dX7_split_83 : decode cX7_split 83 = .ok (.goto 10, 3) := by decide +kernel
theorem dX7_split_86 : decode cX7_split 86 = .ok (.aload_n 0, 1) := by decide +kernel
theorem dX7_split_87 : decode cX7_split 87 = .ok (.aload_n 1, 1) := by decide +kernel
theorem dX7_split_88 : decode cX7_split 88 = .ok (.iload_n 2, 1) := by decide +kernel
theorem dX7_split_89 : decode cX7_split 89 = .ok (.invokevirtual 54, 3) := by decide +kernel
theorem dX7_split_92 : decode cX7_split 92 = .ok (.istore_n 2, 1) := by decide +kernel
theorem dX7_split_93 : decode cX7_split 93 = .ok (.iinc 3 1, 3) := by decide +kernel
theorem dX7_split_96 : decode cX7_split 96 = .ok (.goto (-82), 3) := by decide +kernel
theorem dX7_split_99 : decode cX7_split 99 = .ok (.aload_n 0, 1) := by decide +kernel
theorem dX7_split_100 : decode cX7_split 100 = .ok (.iconst 0, 1) := by decide +kernel
theorem dX7_split_101 : decode cX7_split 101 = .ok (.aload_n 1, 1) := by decide +kernel
theorem dX7_split_102 : decode cX7_split 102 = .ok (.getfield 28, 3) := by decide +kernel
theorem dX7_split_105 : decode cX7_split 105 = .ok (.iconst 0, 1) := by decide +kernel
theorem dX7_split_106 : decode cX7_split 106 = .ok (.invokevirtual 57, 3) := by decide +kernel
theorem dX7_split_109 : decode cX7_split 109 = .ok (.return_, 1) := by decide +kernel
theorem dX7_kind_0 : decode cX7_kind 0 = .ok (.aload_n 0, 1) := by decide +kernel
theorem dX7_kind_1 : decode cX7_kind 1 = .ok (.getfield 25, 3) := by decide +kernel
theorem dX7_kind_4 : decode cX7_kind 4 = .ok (.aload_n 0, 1) := by decide +kernel
theorem dX7_kind_5 : decode cX7_kind 5 = .ok (.getfield 21, 3) := by decide +kernel
theorem dX7_kind_8 : decode cX7_kind 8 = .ok (.if_icmp .ge 27, 3) := by decide +kernel
theorem dX7_kind_11 : decode cX7_kind 11 = .ok (.aload_n 0, 1) := by decide +kernel
theorem dX7_kind_12 : decode cX7_kind 12 = .ok (.getfield 25, 3) := by decide +kernel
theorem dX7_kind_15 : decode cX7_kind 15 = .ok (.aload_n 0, 1) := by decide +kernel
theorem dX7_kind_16 : decode cX7_kind 16 = .ok (.getfield 9, 3) := by decide +kernel
theorem dX7_kind_19 : decode cX7_kind 19 = .ok (.arraylength, 1) := by decide +kernel
theorem dX7_kind_20 : decode cX7_kind 20 = .ok (.if_icmp .ge 15, 3) := by decide +kernel
theorem dX7_kind_23 : decode cX7_kind 23 = .ok (.aload_n 0, 1) := by decide +kernel
theorem dX7_kind_24 : decode cX7_kind 24 = .ok (.getfield 9, 3) := by decide +kernel
theorem dX7_kind_27 : decode cX7_kind 27 = .ok (.aload_n 0, 1) := by decide +kernel
theorem dX7_kind_28 : decode cX7_kind 28 = .ok (.getfield 25, 3) := by decide +kernel
theorem dX7_kind_31 : decode cX7_kind 31 = .ok (.iaload, 1) := by decide +kernel
theorem dX7_kind_32 : decode cX7_kind 32 = .ok (.goto 4, 3) := by decide +kernel
theorem dX7_kind_35 : decode cX7_kind 35 = .ok (.iconst 0, 1) := by decide +kernel
theorem dX7_kind_36 : decode cX7_kind 36 = .ok (.ireturn, 1) := by decide +kernel
theorem dX7_start_0 : decode cX7_start 0 = .ok (.aload_n 0, 1) := by decide +kernel
theorem dX7_start_1 : decode cX7_start 1 = .ok (.getfield 25, 3) := by decide +kernel
theorem dX7_start_4 : decode cX7_start 4 = .ok (.aload_n 0, 1) := by decide +kernel
theorem dX7_start_5 : decode cX7_start 5 = .ok (.getfield 21, 3) := by decide +kernel
theorem dX7_start_8 : decode cX7_start 8 = .ok (.if_icmp .ge 27, 3) := by decide +kernel
theorem dX7_start_11 : decode cX7_start 11 = .ok (.aload_n 0, 1) := by decide +kernel
theorem dX7_start_12 : decode cX7_start 12 = .ok (.getfield 25, 3) := by decide +kernel
theorem dX7_start_15 : decode cX7_start 15 = .ok (.aload_n 0, 1) := by decide +kernel
theorem dX7_start_16 : decode cX7_start 16 = .ok (.getfield 15, 3) := by decide +kernel
theorem dX7_start_19 : decode cX7_start 19 = .ok (.arraylength, 1) := by decide +kernel
theorem dX7_start_20 : decode cX7_start 20 = .ok (.if_icmp .ge 15, 3) := by decide +kernel
theorem dX7_start_23 : decode cX7_start 23 = .ok (.aload_n 0, 1) := by decide +kernel
theorem dX7_start_24 : decode cX7_start 24 = .ok (.getfield 15, 3) := by decide +kernel
theorem dX7_start_27 : decode cX7_start 27 = .ok (.aload_n 0, 1) := by decide +kernel
theorem dX7_start_28 : decode cX7_start 28 = .ok (.getfield 25, 3) := by decide +kernel
theorem dX7_start_31 : decode cX7_start 31 = .ok (.iaload, 1) := by decide +kernel
theorem dX7_start_32 : decode cX7_start 32 = .ok (.goto 4, 3) := by decide +kernel
theorem dX7_start_35 : decode cX7_start 35 = .ok (.iconst 0, 1) := by decide +kernel
theorem dX7_start_36 : decode cX7_start 36 = .ok (.ireturn, 1) := by decide +kernel
theorem dX7_value_0 : decode cX7_value 0 = .ok (.aload_n 0, 1) := by decide +kernel
theorem dX7_value_1 : decode cX7_value 1 = .ok (.getfield 25, 3) := by decide +kernel
theorem dX7_value_4 : decode cX7_value 4 = .ok (.aload_n 0, 1) := by decide +kernel
theorem dX7_value_5 : decode cX7_value 5 = .ok (.getfield 21, 3) := by decide +kernel
theorem dX7_value_8 : decode cX7_value 8 = .ok (.if_icmp .ge 27, 3) := by decide +kernel
theorem dX7_value_11 : decode cX7_value 11 = .ok (.aload_n 0, 1) := by decide +kernel
theorem dX7_value_12 : decode cX7_value 12 = .ok (.getfield 25, 3) := by decide +kernel
theorem dX7_value_15 : decode cX7_value 15 = .ok (.aload_n 0, 1) := by decide +kernel
theorem dX7_value_16 : decode cX7_value 16 = .ok (.getfield 18, 3) := by decide +kernel
theorem dX7_value_19 : decode cX7_value 19 = .ok (.arraylength, 1) := by decide +kernel
theorem dX7_value_20 : decode cX7_value 20 = .ok (.if_icmp .ge 15, 3) := by decide +kernel
theorem dX7_value_23 : decode cX7_value 23 = .ok (.aload_n 0, 1) := by decide +kernel
theorem dX7_value_24 : decode cX7_value 24 = .ok (.getfield 18, 3) := by decide +kernel
theorem dX7_value_27 : decode cX7_value 27 = .ok (.aload_n 0, 1) := by decide +kernel
theorem dX7_value_28 : decode cX7_value 28 = .ok (.getfield 25, 3) := by decide +kernel
theorem dX7_value_31 : decode cX7_value 31 = .ok (.iaload, 1) := by decide +kernel
theorem dX7_value_32 : decode cX7_value 32 = .ok (.goto 4, 3) := by decide +kernel
theorem dX7_value_35 : decode cX7_value 35 = .ok (.iconst 0, 1) := by decide +kernel
theorem dX7_value_36 : decode cX7_value 36 = .ok (.ireturn, 1) := by decide +kernel
theorem dX7_advance_0 : decode cX7_advance 0 = .ok (.aload_n 0, 1) := by decide +kernel
theorem dX7_advance_1 : decode cX7_advance 1 = .ok (.getfield 25, 3) := by decide +kernel
theorem dX7_advance_4 : decode cX7_advance 4 = .ok (.aload_n 0, 1) := by decide +kernel
theorem dX7_advance_5 : decode cX7_advance 5 = .ok (.getfield 21, 3) := by decide +kernel
theorem dX7_advance_8 : decode cX7_advance 8 = .ok (.iconst 1, 1) := by decide +kernel
theorem dX7_advance_9 : decode cX7_advance 9 = .ok (.isub, 1) := by decide +kernel
theorem dX7_advance_10 : decode cX7_advance 10 = .ok (.if_icmp .ge 13, 3) := by decide +kernel
theorem dX7_advance_13 : decode cX7_advance 13 = .ok (.aload_n 0, 1) := by decide +kernel
theorem dX7_advance_14 : decode cX7_advance 14 = .ok (.dup, 1) := by decide +kernel
theorem dX7_advance_15 : decode cX7_advance 15 = .ok (.getfield 25, 3) := by decide +kernel
theorem dX7_advance_18 : decode cX7_advance 18 = .ok (.iconst 1, 1) := by decide +kernel
theorem dX7_advance_19 : decode cX7_advance 19 = .ok (.iadd, 1) := by decide +kernel
theorem dX7_advance_20 : decode cX7_advance 20 = .ok (.putfield 25, 3) := by decide +kernel
theorem dX7_advance_23 : decode cX7_advance 23 = .ok (.return_, 1) := by decide +kernel
theorem dX7_add_0 : decode cX7_add 0 = .ok (.aload_n 0, 1) := by decide +kernel
theorem dX7_add_1 : decode cX7_add 1 = .ok (.getfield 21, 3) := by decide +kernel
theorem dX7_add_4 : decode cX7_add 4 = .ok (.aload_n 0, 1) := by decide +kernel
theorem dX7_add_5 : decode cX7_add 5 = .ok (.getfield 9, 3) := by decide +kernel
theorem dX7_add_8 : decode cX7_add 8 = .ok (.arraylength, 1) := by decide +kernel
theorem dX7_add_9 : decode cX7_add 9 = .ok (.if_icmp .ge 67, 3) := by decide +kernel
theorem dX7_add_12 : decode cX7_add 12 = .ok (.aload_n 0, 1) := by decide +kernel
theorem dX7_add_13 : decode cX7_add 13 = .ok (.getfield 21, 3) := by decide +kernel
theorem dX7_add_16 : decode cX7_add 16 = .ok (.aload_n 0, 1) := by decide +kernel
theorem dX7_add_17 : decode cX7_add 17 = .ok (.getfield 15, 3) := by decide +kernel
theorem dX7_add_20 : decode cX7_add 20 = .ok (.arraylength, 1) := by decide +kernel
theorem dX7_add_21 : decode cX7_add 21 = .ok (.if_icmp .ge 55, 3) := by decide +kernel
theorem dX7_add_24 : decode cX7_add 24 = .ok (.aload_n 0, 1) := by decide +kernel
theorem dX7_add_25 : decode cX7_add 25 = .ok (.getfield 21, 3) := by decide +kernel
theorem dX7_add_28 : decode cX7_add 28 = .ok (.aload_n 0, 1) := by decide +kernel
theorem dX7_add_29 : decode cX7_add 29 = .ok (.getfield 18, 3) := by decide +kernel
theorem dX7_add_32 : decode cX7_add 32 = .ok (.arraylength, 1) := by decide +kernel
theorem dX7_add_33 : decode cX7_add 33 = .ok (.if_icmp .ge 43, 3) := by decide +kernel
theorem dX7_add_36 : decode cX7_add 36 = .ok (.aload_n 0, 1) := by decide +kernel
theorem dX7_add_37 : decode cX7_add 37 = .ok (.getfield 9, 3) := by decide +kernel
theorem dX7_add_40 : decode cX7_add 40 = .ok (.aload_n 0, 1) := by decide +kernel
theorem dX7_add_41 : decode cX7_add 41 = .ok (.getfield 21, 3) := by decide +kernel
theorem dX7_add_44 : decode cX7_add 44 = .ok (.iload_n 1, 1) := by decide +kernel
theorem dX7_add_45 : decode cX7_add 45 = .ok (.iastore, 1) := by decide +kernel
theorem dX7_add_46 : decode cX7_add 46 = .ok (.aload_n 0, 1) := by decide +kernel
theorem dX7_add_47 : decode cX7_add 47 = .ok (.getfield 15, 3) := by decide +kernel
theorem dX7_add_50 : decode cX7_add 50 = .ok (.aload_n 0, 1) := by decide +kernel
theorem dX7_add_51 : decode cX7_add 51 = .ok (.getfield 21, 3) := by decide +kernel
theorem dX7_add_54 : decode cX7_add 54 = .ok (.iload_n 2, 1) := by decide +kernel
theorem dX7_add_55 : decode cX7_add 55 = .ok (.iastore, 1) := by decide +kernel
theorem dX7_add_56 : decode cX7_add 56 = .ok (.aload_n 0, 1) := by decide +kernel
theorem dX7_add_57 : decode cX7_add 57 = .ok (.getfield 18, 3) := by decide +kernel
theorem dX7_add_60 : decode cX7_add 60 = .ok (.aload_n 0, 1) := by decide +kernel
theorem dX7_add_61 : decode cX7_add 61 = .ok (.getfield 21, 3) := by decide +kernel
theorem dX7_add_64 : decode cX7_add 64 = .ok (.iload_n 3, 1) := by decide +kernel
theorem dX7_add_65 : decode cX7_add 65 = .ok (.iastore, 1) := by decide +kernel
theorem dX7_add_66 : decode cX7_add 66 = .ok (.aload_n 0, 1) := by decide +kernel
theorem dX7_add_67 : decode cX7_add 67 = .ok (.dup, 1) := by decide +kernel
theorem dX7_add_68 : decode cX7_add 68 = .ok (.getfield 21, 3) := by decide +kernel
theorem dX7_add_71 : decode cX7_add 71 = .ok (.iconst 1, 1) := by decide +kernel
theorem dX7_add_72 : decode cX7_add 72 = .ok (.iadd, 1) := by decide +kernel
theorem dX7_add_73 : decode cX7_add 73 = .ok (.putfield 21, 3) := by decide +kernel
theorem dX7_add_76 : decode cX7_add 76 = .ok (.return_, 1) := by decide +kernel
theorem dX7_splitWord_0 : decode cX7_splitWord 0 = .ok (.iload_n 2, 1) := by decide +kernel
theorem dX7_splitWord_1 : decode cX7_splitWord 1 = .ok (.istore_n 3, 1) := by decide +kernel
theorem dX7_splitWord_2 : decode cX7_splitWord 2 = .ok (.iload_n 3, 1) := by decide +kernel
theorem dX7_splitWord_3 : decode cX7_splitWord 3 = .ok (.aload_n 1, 1) := by decide +kernel
theorem dX7_splitWord_4 : decode cX7_splitWord 4 = .ok (.getfield 28, 3) := by decide +kernel
theorem dX7_splitWord_7 : decode cX7_splitWord 7 = .ok (.if_icmp .ge 20, 3) := by decide +kernel
theorem dX7_splitWord_10 : decode cX7_splitWord 10 = .ok (.aload_n 1, 1) := by decide +kernel
theorem dX7_splitWord_11 : decode cX7_splitWord 11 = .ok (.iload_n 3, 1) := by decide +kernel
theorem dX7_splitWord_12 : decode cX7_splitWord 12 = .ok (.invokevirtual 33, 3) := by decide +kernel
theorem dX7_splitWord_15 : decode cX7_splitWord 15 = .ok (.invokestatic 41, 3) := by decide +kernel
theorem dX7_splitWord_18 : decode cX7_splitWord 18 = .ok (.ifCond .eq 9, 3) := by decide +kernel
theorem dX7_splitWord_21 : decode cX7_splitWord 21 = .ok (.iinc 3 1, 3) := by decide +kernel
theorem dX7_splitWord_24 : decode cX7_splitWord 24 = .ok (.goto (-22), 3) := by decide +kernel
theorem dX7_splitWord_27 : decode cX7_splitWord 27 = .ok (.aload_n 0, 1) := by decide +kernel
theorem dX7_splitWord_28 : decode cX7_splitWord 28 = .ok (.aload_n 1, 1) := by decide +kernel
theorem dX7_splitWord_29 : decode cX7_splitWord 29 = .ok (.iload_n 2, 1) := by decide +kernel
theorem dX7_splitWord_30 : decode cX7_splitWord 30 = .ok (.iload_n 3, 1) := by decide +kernel
theorem dX7_splitWord_31 : decode cX7_splitWord 31 = .ok (.iload_n 2, 1) := by decide +kernel
theorem dX7_splitWord_32 : decode cX7_splitWord 32 = .ok (.isub, 1) := by decide +kernel
theorem dX7_splitWord_33 : decode cX7_splitWord 33 = .ok (.invokestatic 61, 3) := by decide +kernel
theorem dX7_splitWord_36 : decode cX7_splitWord 36 = .ok (.iload_n 2, 1) := by decide +kernel
theorem dX7_splitWord_37 : decode cX7_splitWord 37 = .ok (.iconst 0, 1) := by decide +kernel
theorem dX7_splitWord_38 : decode cX7_splitWord 38 = .ok (.invokevirtual 57, 3) := by decide +kernel
theorem dX7_splitWord_41 : decode cX7_splitWord 41 = .ok (.iload_n 3, 1) := by decide +kernel
theorem dX7_splitWord_42 : decode cX7_splitWord 42 = .ok (.ireturn, 1) := by decide +kernel
theorem dX7_wordKind_0 : decode cX7_wordKind 0 = .ok (.bipush 16, 2) := by decide +kernel
theorem dX7_wordKind_2 : decode cX7_wordKind 2 = .ok (.istore_n 3, 1) := by decide +kernel
theorem dX7_wordKind_3 : decode cX7_wordKind 3 = .ok (.iconst 0, 1) := by decide +kernel
theorem dX7_wordKind_4 : decode cX7_wordKind 4 = .ok (.istore 4, 2) := by decide +kernel
theorem dX7_wordKind_6 : decode cX7_wordKind 6 = .ok (.iconst 1, 1) := by decide +kernel
theorem dX7_wordKind_7 : decode cX7_wordKind 7 = .ok (.istore 5, 2) := by decide +kernel
theorem dX7_wordKind_9 : decode cX7_wordKind 9 = .ok (.iconst 0, 1) := by decide +kernel
theorem dX7_wordKind_10 : decode cX7_wordKind 10 = .ok (.istore 6, 2) := by decide +kernel
theorem dX7_wordKind_12 : decode cX7_wordKind 12 = .ok (.iload 6, 2) := by decide +kernel
theorem dX7_wordKind_14 : decode cX7_wordKind 14 = .ok (.ldc 65, 2) := by decide +kernel
theorem dX7_wordKind_16 : decode cX7_wordKind 16 = .ok (.invokevirtual 67, 3) := by decide +kernel
theorem dX7_wordKind_19 : decode cX7_wordKind 19 = .ok (.if_icmp .ge 93, 3) := by decide +kernel
theorem dX7_wordKind_22 : decode cX7_wordKind 22 = .ok (.ldc 65, 2) := by decide +kernel
theorem dX7_wordKind_24 : decode cX7_wordKind 24 = .ok (.iload 6, 2) := by decide +kernel
theorem dX7_wordKind_26 : decode cX7_wordKind 26 = .ok (.invokevirtual 72, 3) := by decide +kernel
theorem dX7_wordKind_29 : decode cX7_wordKind 29 = .ok (.istore 7, 2) := by decide +kernel
theorem dX7_wordKind_31 : decode cX7_wordKind 31 = .ok (.iload 7, 2) := by decide +kernel
theorem dX7_wordKind_33 : decode cX7_wordKind 33 = .ok (.bipush 32, 2) := by decide +kernel
theorem dX7_wordKind_35 : decode cX7_wordKind 35 = .ok (.if_icmp .eq 43, 3) := by decide +kernel
theorem dX7_wordKind_38 : decode cX7_wordKind 38 = .ok (.iload 5, 2) := by decide +kernel
theorem dX7_wordKind_40 : decode cX7_wordKind 40 = .ok (.ifCond .eq 32, 3) := by decide +kernel
theorem dX7_wordKind_43 : decode cX7_wordKind 43 = .ok (.iload 6, 2) := by decide +kernel
theorem dX7_wordKind_45 : decode cX7_wordKind 45 = .ok (.iload 4, 2) := by decide +kernel
theorem dX7_wordKind_47 : decode cX7_wordKind 47 = .ok (.isub, 1) := by decide +kernel
theorem dX7_wordKind_48 : decode cX7_wordKind 48 = .ok (.iload_n 2, 1) := by decide +kernel
theorem dX7_wordKind_49 : decode cX7_wordKind 49 = .ok (.if_icmp .ge 23, 3) := by decide +kernel
theorem dX7_wordKind_52 : decode cX7_wordKind 52 = .ok (.aload_n 0, 1) := by decide +kernel
theorem dX7_wordKind_53 : decode cX7_wordKind 53 = .ok (.iload_n 1, 1) := by decide +kernel
theorem dX7_wordKind_54 : decode cX7_wordKind 54 = .ok (.iload 6, 2) := by decide +kernel
theorem dX7_wordKind_56 : decode cX7_wordKind 56 = .ok (.iadd, 1) := by decide +kernel
theorem dX7_wordKind_57 : decode cX7_wordKind 57 = .ok (.iload 4, 2) := by decide +kernel
theorem dX7_wordKind_59 : decode cX7_wordKind 59 = .ok (.isub, 1) := by decide +kernel
theorem dX7_wordKind_60 : decode cX7_wordKind 60 = .ok (.invokevirtual 33, 3) := by decide +kernel
theorem dX7_wordKind_63 : decode cX7_wordKind 63 = .ok (.iload 7, 2) := by decide +kernel
theorem dX7_wordKind_65 : decode cX7_wordKind 65 = .ok (.if_icmp .ne 7, 3) := by decide +kernel
theorem dX7_wordKind_68 : decode cX7_wordKind 68 = .ok (.iconst 1, 1) := by decide +kernel
theorem dX7_wordKind_69 : decode cX7_wordKind 69 = .ok (.goto 4, 3) := by decide +kernel
theorem dX7_wordKind_72 : decode cX7_wordKind 72 = .ok (.iconst 0, 1) := by decide +kernel
theorem dX7_wordKind_73 : decode cX7_wordKind 73 = .ok (.istore 5, 2) := by decide +kernel
theorem dX7_wordKind_75 : decode cX7_wordKind 75 = .ok (.goto 31, 3) := by decide +kernel
theorem dX7_wordKind_78 : decode cX7_wordKind 78 = .ok (.iload 5, 2) := by decide +kernel
theorem dX7_wordKind_80 : decode cX7_wordKind 80 = .ok (.ifCond .eq 14, 3) := by decide +kernel
theorem dX7_wordKind_83 : decode cX7_wordKind 83 = .ok (.iload 6, 2) := by decide +kernel
theorem dX7_wordKind_85 : decode cX7_wordKind 85 = .ok (.iload 4, 2) := by decide +kernel
theorem dX7_wordKind_87 : decode cX7_wordKind 87 = .ok (.isub, 1) := by decide +kernel
theorem dX7_wordKind_88 : decode cX7_wordKind 88 = .ok (.iload_n 2, 1) := by decide +kernel
theorem dX7_wordKind_89 : decode cX7_wordKind 89 = .ok (.if_icmp .ne 5, 3) := by decide +kernel
theorem dX7_wordKind_92 : decode cX7_wordKind 92 = .ok (.iload_n 3, 1) := by decide +kernel
theorem dX7_wordKind_93 : decode cX7_wordKind 93 = .ok (.ireturn, 1) := by decide +kernel
theorem dX7_wordKind_94 : decode cX7_wordKind 94 = .ok (.iinc 3 1, 3) := by decide +kernel
theorem dX7_wordKind_97 : decode cX7_wordKind 97 = .ok (.iload 6, 2) := by decide +kernel
theorem dX7_wordKind_99 : decode cX7_wordKind 99 = .ok (.iconst 1, 1) := by decide +kernel
theorem dX7_wordKind_100 : decode cX7_wordKind 100 = .ok (.iadd, 1) := by decide +kernel
theorem dX7_wordKind_101 : decode cX7_wordKind 101 = .ok (.istore 4, 2) := by decide +kernel
theorem dX7_wordKind_103 : decode cX7_wordKind 103 = .ok (.iconst 1, 1) := by decide +kernel
theorem dX7_wordKind_104 : decode cX7_wordKind 104 = .ok (.istore 5, 2) := by decide +kernel
theorem dX7_wordKind_106 : decode cX7_wordKind 106 = .ok (.iinc 6 1, 3) := by decide +kernel
theorem dX7_wordKind_109 : decode cX7_wordKind 109 = .ok (.goto (-97), 3) := by decide +kernel
theorem dX7_wordKind_112 : decode cX7_wordKind 112 = .ok (.iconst 1, 1) := by decide +kernel
theorem dX7_wordKind_113 : decode cX7_wordKind 113 = .ok (.ireturn, 1) := by decide +kernel
theorem dX7_splitNumber_0 : decode cX7_splitNumber 0 = .ok (.iload_n 2, 1) := by decide +kernel
theorem dX7_splitNumber_1 : decode cX7_splitNumber 1 = .ok (.istore_n 3, 1) := by decide +kernel
theorem dX7_splitNumber_2 : decode cX7_splitNumber 2 = .ok (.iconst 0, 1) := by decide +kernel
theorem dX7_splitNumber_3 : decode cX7_splitNumber 3 = .ok (.istore 4, 2) := by decide +kernel
theorem dX7_splitNumber_5 : decode cX7_splitNumber 5 = .ok (.iload_n 3, 1) := by decide +kernel
theorem dX7_splitNumber_6 : decode cX7_splitNumber 6 = .ok (.aload_n 1, 1) := by decide +kernel
theorem dX7_splitNumber_7 : decode cX7_splitNumber 7 = .ok (.getfield 28, 3) := by decide +kernel
theorem dX7_splitNumber_10 : decode cX7_splitNumber 10 = .ok (.if_icmp .ge 42, 3) := by decide +kernel
theorem dX7_splitNumber_13 : decode cX7_splitNumber 13 = .ok (.aload_n 1, 1) := by decide +kernel
theorem dX7_splitNumber_14 : decode cX7_splitNumber 14 = .ok (.iload_n 3, 1) := by decide +kernel
theorem dX7_splitNumber_15 : decode cX7_splitNumber 15 = .ok (.invokevirtual 33, 3) := by decide +kernel
theorem dX7_splitNumber_18 : decode cX7_splitNumber 18 = .ok (.invokestatic 48, 3) := by decide +kernel
theorem dX7_splitNumber_21 : decode cX7_splitNumber 21 = .ok (.ifCond .eq 31, 3) := by decide +kernel
theorem dX7_splitNumber_24 : decode cX7_splitNumber 24 = .ok (.sipush 10000, 3) := by decide +kernel
theorem dX7_splitNumber_27 : decode cX7_splitNumber 27 = .ok (.iload 4, 2) := by decide +kernel
theorem dX7_splitNumber_29 : decode cX7_splitNumber 29 = .ok (.bipush 10, 2) := by decide +kernel
theorem dX7_splitNumber_31 : decode cX7_splitNumber 31 = .ok (.imul, 1) := by decide +kernel
theorem dX7_splitNumber_32 : decode cX7_splitNumber 32 = .ok (.aload_n 1, 1) := by decide +kernel
theorem dX7_splitNumber_33 : decode cX7_splitNumber 33 = .ok (.iload_n 3, 1) := by decide +kernel
theorem dX7_splitNumber_34 : decode cX7_splitNumber 34 = .ok (.invokevirtual 33, 3) := by decide +kernel
theorem dX7_splitNumber_37 : decode cX7_splitNumber 37 = .ok (.iadd, 1) := by decide +kernel
theorem dX7_splitNumber_38 : decode cX7_splitNumber 38 = .ok (.bipush 48, 2) := by decide +kernel
theorem dX7_splitNumber_40 : decode cX7_splitNumber 40 = .ok (.isub, 1) := by decide +kernel
theorem dX7_splitNumber_41 : decode cX7_splitNumber 41 = .ok (.invokestatic 76, 3) := by decide +kernel
theorem dX7_splitNumber_44 : decode cX7_splitNumber 44 = .ok (.istore 4, 2) := by decide +kernel
theorem dX7_splitNumber_46 : decode cX7_splitNumber 46 = .ok (.iinc 3 1, 3) := by decide +kernel
theorem dX7_splitNumber_49 : decode cX7_splitNumber 49 = .ok (.goto (-44), 3) := by decide +kernel
theorem dX7_splitNumber_52 : decode cX7_splitNumber 52 = .ok (.aload_n 0, 1) := by decide +kernel
theorem dX7_splitNumber_53 : decode cX7_splitNumber 53 = .ok (.iconst 2, 1) := by decide +kernel
theorem dX7_splitNumber_54 : decode cX7_splitNumber 54 = .ok (.iload_n 2, 1) := by decide +kernel
theorem dX7_splitNumber_55 : decode cX7_splitNumber 55 = .ok (.iload 4, 2) := by decide +kernel
theorem dX7_splitNumber_57 : decode cX7_splitNumber 57 = .ok (.invokevirtual 57, 3) := by decide +kernel
theorem dX7_splitNumber_60 : decode cX7_splitNumber 60 = .ok (.iload_n 3, 1) := by decide +kernel
theorem dX7_splitNumber_61 : decode cX7_splitNumber 61 = .ok (.ireturn, 1) := by decide +kernel
theorem dX7_splitSign_0 : decode cX7_splitSign 0 = .ok (.aload_n 1, 1) := by decide +kernel
theorem dX7_splitSign_1 : decode cX7_splitSign 1 = .ok (.iload_n 2, 1) := by decide +kernel
theorem dX7_splitSign_2 : decode cX7_splitSign 2 = .ok (.invokevirtual 33, 3) := by decide +kernel
theorem dX7_splitSign_5 : decode cX7_splitSign 5 = .ok (.invokestatic 82, 3) := by decide +kernel
theorem dX7_splitSign_8 : decode cX7_splitSign 8 = .ok (.istore_n 3, 1) := by decide +kernel
theorem dX7_splitSign_9 : decode cX7_splitSign 9 = .ok (.iload_n 3, 1) := by decide +kernel
theorem dX7_splitSign_10 : decode cX7_splitSign 10 = .ok (.iconst 3, 1) := by decide +kernel
theorem dX7_splitSign_11 : decode cX7_splitSign 11 = .ok (.if_icmp .eq 8, 3) := by decide +kernel
theorem dX7_splitSign_14 : decode cX7_splitSign 14 = .ok (.iload_n 3, 1) := by decide +kernel
theorem dX7_splitSign_15 : decode cX7_splitSign 15 = .ok (.iconst 5, 1) := by decide +kernel
theorem dX7_splitSign_16 : decode cX7_splitSign 16 = .ok (.if_icmp .ne 19, 3) := by decide +kernel
theorem dX7_splitSign_19 : decode cX7_splitSign 19 = .ok (.aload_n 1, 1) := by decide +kernel
theorem dX7_splitSign_20 : decode cX7_splitSign 20 = .ok (.iload_n 2, 1) := by decide +kernel
theorem dX7_splitSign_21 : decode cX7_splitSign 21 = .ok (.iconst 1, 1) := by decide +kernel
theorem dX7_splitSign_22 : decode cX7_splitSign 22 = .ok (.iadd, 1) := by decide +kernel
theorem dX7_splitSign_23 : decode cX7_splitSign 23 = .ok (.invokevirtual 33, 3) := by decide +kernel
theorem dX7_splitSign_26 : decode cX7_splitSign 26 = .ok (.bipush 61, 2) := by decide +kernel
theorem dX7_splitSign_28 : decode cX7_splitSign 28 = .ok (.if_icmp .ne 7, 3) := by decide +kernel
theorem dX7_splitSign_31 : decode cX7_splitSign 31 = .ok (.iconst 1, 1) := by decide +kernel
theorem dX7_splitSign_32 : decode cX7_splitSign 32 = .ok (.goto 4, 3) := by decide +kernel
theorem dX7_splitSign_35 : decode cX7_splitSign 35 = .ok (.iconst 0, 1) := by decide +kernel
theorem dX7_splitSign_36 : decode cX7_splitSign 36 = .ok (.istore 4, 2) := by decide +kernel
theorem dX7_splitSign_38 : decode cX7_splitSign 38 = .ok (.iload 4, 2) := by decide +kernel
theorem dX7_splitSign_40 : decode cX7_splitSign 40 = .ok (.ifCond .eq 15, 3) := by decide +kernel
theorem dX7_splitSign_43 : decode cX7_splitSign 43 = .ok (.iload_n 3, 1) := by decide +kernel
theorem dX7_splitSign_44 : decode cX7_splitSign 44 = .ok (.iconst 3, 1) := by decide +kernel
theorem dX7_splitSign_45 : decode cX7_splitSign 45 = .ok (.if_icmp .ne 7, 3) := by decide +kernel
theorem dX7_splitSign_48 : decode cX7_splitSign 48 = .ok (.iconst 4, 1) := by decide +kernel
theorem dX7_splitSign_49 : decode cX7_splitSign 49 = .ok (.goto 5, 3) := by decide +kernel
theorem dX7_splitSign_52 : decode cX7_splitSign 52 = .ok (.bipush 6, 2) := by decide +kernel
theorem dX7_splitSign_54 : decode cX7_splitSign 54 = .ok (.istore_n 3, 1) := by decide +kernel
theorem dX7_splitSign_55 : decode cX7_splitSign 55 = .ok (.aload_n 0, 1) := by decide +kernel
theorem dX7_splitSign_56 : decode cX7_splitSign 56 = .ok (.iload_n 3, 1) := by decide +kernel
theorem dX7_splitSign_57 : decode cX7_splitSign 57 = .ok (.iload_n 2, 1) := by decide +kernel
theorem dX7_splitSign_58 : decode cX7_splitSign 58 = .ok (.iconst 0, 1) := by decide +kernel
theorem dX7_splitSign_59 : decode cX7_splitSign 59 = .ok (.invokevirtual 57, 3) := by decide +kernel
theorem dX7_splitSign_62 : decode cX7_splitSign 62 = .ok (.iload 4, 2) := by decide +kernel
theorem dX7_splitSign_64 : decode cX7_splitSign 64 = .ok (.ifCond .eq 9, 3) := by decide +kernel
theorem dX7_splitSign_67 : decode cX7_splitSign 67 = .ok (.iload_n 2, 1) := by decide +kernel
theorem dX7_splitSign_68 : decode cX7_splitSign 68 = .ok (.iconst 2, 1) := by decide +kernel
theorem dX7_splitSign_69 : decode cX7_splitSign 69 = .ok (.iadd, 1) := by decide +kernel
theorem dX7_splitSign_70 : decode cX7_splitSign 70 = .ok (.goto 6, 3) := by decide +kernel
theorem dX7_splitSign_73 : decode cX7_splitSign 73 = .ok (.iload_n 2, 1) := by decide +kernel
theorem dX7_splitSign_74 : decode cX7_splitSign 74 = .ok (.iconst 1, 1) := by decide +kernel
theorem dX7_splitSign_75 : decode cX7_splitSign 75 = .ok (.iadd, 1) := by decide +kernel
theorem dX7_splitSign_76 : decode cX7_splitSign 76 = .ok (.ireturn, 1) := by decide +kernel
theorem dX7_signKind_0 : decode cX7_signKind 0 = .ok (.iload_n 0, 1) := by decide +kernel
theorem dX7_signKind_1 : decode cX7_signKind 1 = .ok (.tableswitch 158 35 62 #[134, 158, 158, 158, 158, 149, 152, 143, 137, 158, 140, 158, 146, 158, 158, 158, 158, 158, 158, 158, 158, 158, 158, 158, 155, 127, 131, 129], 127) := by decide +kernel
theorem dX7_signKind_128 : decode cX7_signKind 128 = .ok (.iconst 3, 1) := by decide +kernel
theorem dX7_signKind_129 : decode cX7_signKind 129 = .ok (.ireturn, 1) := by decide +kernel
theorem dX7_signKind_130 : decode cX7_signKind 130 = .ok (.iconst 5, 1) := by decide +kernel
theorem dX7_signKind_131 : decode cX7_signKind 131 = .ok (.ireturn, 1) := by decide +kernel
theorem dX7_signKind_132 : decode cX7_signKind 132 = .ok (.bipush 7, 2) := by decide +kernel
theorem dX7_signKind_134 : decode cX7_signKind 134 = .ok (.ireturn, 1) := by decide +kernel
theorem dX7_signKind_135 : decode cX7_signKind 135 = .ok (.bipush 8, 2) := by decide +kernel
theorem dX7_signKind_137 : decode cX7_signKind 137 = .ok (.ireturn, 1) := by decide +kernel
theorem dX7_signKind_138 : decode cX7_signKind 138 = .ok (.bipush 9, 2) := by decide +kernel
theorem dX7_signKind_140 : decode cX7_signKind 140 = .ok (.ireturn, 1) := by decide +kernel
theorem dX7_signKind_141 : decode cX7_signKind 141 = .ok (.bipush 10, 2) := by decide +kernel
theorem dX7_signKind_143 : decode cX7_signKind 143 = .ok (.ireturn, 1) := by decide +kernel
theorem dX7_signKind_144 : decode cX7_signKind 144 = .ok (.bipush 11, 2) := by decide +kernel
theorem dX7_signKind_146 : decode cX7_signKind 146 = .ok (.ireturn, 1) := by decide +kernel
theorem dX7_signKind_147 : decode cX7_signKind 147 = .ok (.bipush 12, 2) := by decide +kernel
theorem dX7_signKind_149 : decode cX7_signKind 149 = .ok (.ireturn, 1) := by decide +kernel
theorem dX7_signKind_150 : decode cX7_signKind 150 = .ok (.bipush 13, 2) := by decide +kernel
theorem dX7_signKind_152 : decode cX7_signKind 152 = .ok (.ireturn, 1) := by decide +kernel
theorem dX7_signKind_153 : decode cX7_signKind 153 = .ok (.bipush 14, 2) := by decide +kernel
theorem dX7_signKind_155 : decode cX7_signKind 155 = .ok (.ireturn, 1) := by decide +kernel
theorem dX7_signKind_156 : decode cX7_signKind 156 = .ok (.bipush 15, 2) := by decide +kernel
theorem dX7_signKind_158 : decode cX7_signKind 158 = .ok (.ireturn, 1) := by decide +kernel
theorem dX7_signKind_159 : decode cX7_signKind 159 = .ok (.iconst 1, 1) := by decide +kernel
theorem dX7_signKind_160 : decode cX7_signKind 160 = .ok (.ireturn, 1) := by decide +kernel
theorem dX7_isBlank_0 : decode cX7_isBlank 0 = .ok (.iload_n 0, 1) := by decide +kernel
theorem dX7_isBlank_1 : decode cX7_isBlank 1 = .ok (.bipush 32, 2) := by decide +kernel
theorem dX7_isBlank_3 : decode cX7_isBlank 3 = .ok (.if_icmp .eq 9, 3) := by decide +kernel
theorem dX7_isBlank_6 : decode cX7_isBlank 6 = .ok (.iload_n 0, 1) := by decide +kernel
theorem dX7_isBlank_7 : decode cX7_isBlank 7 = .ok (.bipush 10, 2) := by decide +kernel
theorem dX7_isBlank_9 : decode cX7_isBlank 9 = .ok (.if_icmp .ne 7, 3) := by decide +kernel
theorem dX7_isBlank_12 : decode cX7_isBlank 12 = .ok (.iconst 1, 1) := by decide +kernel
theorem dX7_isBlank_13 : decode cX7_isBlank 13 = .ok (.goto 4, 3) := by decide +kernel
theorem dX7_isBlank_16 : decode cX7_isBlank 16 = .ok (.iconst 0, 1) := by decide +kernel
theorem dX7_isBlank_17 : decode cX7_isBlank 17 = .ok (.ireturn, 1) := by decide +kernel
theorem dX7_isAlpha_0 : decode cX7_isAlpha 0 = .ok (.iload_n 0, 1) := by decide +kernel
theorem dX7_isAlpha_1 : decode cX7_isAlpha 1 = .ok (.bipush 97, 2) := by decide +kernel
theorem dX7_isAlpha_3 : decode cX7_isAlpha 3 = .ok (.if_icmp .lt 9, 3) := by decide +kernel
theorem dX7_isAlpha_6 : decode cX7_isAlpha 6 = .ok (.iload_n 0, 1) := by decide +kernel
theorem dX7_isAlpha_7 : decode cX7_isAlpha 7 = .ok (.bipush 122, 2) := by decide +kernel
theorem dX7_isAlpha_9 : decode cX7_isAlpha 9 = .ok (.if_icmp .le 15, 3) := by decide +kernel
theorem dX7_isAlpha_12 : decode cX7_isAlpha 12 = .ok (.iload_n 0, 1) := by decide +kernel
theorem dX7_isAlpha_13 : decode cX7_isAlpha 13 = .ok (.bipush 65, 2) := by decide +kernel
theorem dX7_isAlpha_15 : decode cX7_isAlpha 15 = .ok (.if_icmp .lt 13, 3) := by decide +kernel
theorem dX7_isAlpha_18 : decode cX7_isAlpha 18 = .ok (.iload_n 0, 1) := by decide +kernel
theorem dX7_isAlpha_19 : decode cX7_isAlpha 19 = .ok (.bipush 90, 2) := by decide +kernel
theorem dX7_isAlpha_21 : decode cX7_isAlpha 21 = .ok (.if_icmp .gt 7, 3) := by decide +kernel
theorem dX7_isAlpha_24 : decode cX7_isAlpha 24 = .ok (.iconst 1, 1) := by decide +kernel
theorem dX7_isAlpha_25 : decode cX7_isAlpha 25 = .ok (.goto 4, 3) := by decide +kernel
theorem dX7_isAlpha_28 : decode cX7_isAlpha 28 = .ok (.iconst 0, 1) := by decide +kernel
theorem dX7_isAlpha_29 : decode cX7_isAlpha 29 = .ok (.ireturn, 1) := by decide +kernel
theorem dX7_isNumeral_0 : decode cX7_isNumeral 0 = .ok (.iload_n 0, 1) := by decide +kernel
theorem dX7_isNumeral_1 : decode cX7_isNumeral 1 = .ok (.bipush 48, 2) := by decide +kernel
theorem dX7_isNumeral_3 : decode cX7_isNumeral 3 = .ok (.if_icmp .lt 13, 3) := by decide +kernel
theorem dX7_isNumeral_6 : decode cX7_isNumeral 6 = .ok (.iload_n 0, 1) := by decide +kernel
theorem dX7_isNumeral_7 : decode cX7_isNumeral 7 = .ok (.bipush 57, 2) := by decide +kernel
theorem dX7_isNumeral_9 : decode cX7_isNumeral 9 = .ok (.if_icmp .gt 7, 3) := by decide +kernel
theorem dX7_isNumeral_12 : decode cX7_isNumeral 12 = .ok (.iconst 1, 1) := by decide +kernel
theorem dX7_isNumeral_13 : decode cX7_isNumeral 13 = .ok (.goto 4, 3) := by decide +kernel
theorem dX7_isNumeral_16 : decode cX7_isNumeral 16 = .ok (.iconst 0, 1) := by decide +kernel
theorem dX7_isNumeral_17 : decode cX7_isNumeral 17 = .ok (.ireturn, 1) := by decide +kernel
