theorem dX4_copyFrom_0 : decode cX4_copyFrom 0 = .ok (.aload_n 1, 1) := by decide +kernel
theorem dX4_copyFrom_1 : decode cX4_copyFrom 1 = .ok (.getfield 11, 3) := by decide +kernel
theorem dX4_copyFrom_4 : decode cX4_copyFrom 4 = .ok (.iconst 0, 1) := by decide +kernel
theorem dX4_copyFrom_5 : decode cX4_copyFrom 5 = .ok (.aload_n 0, 1) := by decide +kernel
theorem dX4_copyFrom_6 : decode cX4_copyFrom 6 = .ok (.getfield 11, 3) := by decide +kernel
theorem dX4_copyFrom_9 : decode cX4_copyFrom 9 = .ok (.iconst 0, 1) := by decide +kernel
theorem dX4_copyFrom_10 : decode cX4_copyFrom 10 = .ok (.aload_n 0, 1) := by decide +kernel
theorem dX4_copyFrom_11 : decode cX4_copyFrom 11 = .ok (.getfield 11, 3) := by decide +kernel
theorem dX4_copyFrom_14 : decode cX4_copyFrom 14 = .ok (.arraylength, 1) := by decide +kernel
theorem dX4_copyFrom_15 : decode cX4_copyFrom 15 = .ok (.invokestatic 52, 3) := by decide +kernel
theorem dX4_copyFrom_18 : decode cX4_copyFrom 18 = .ok (.aload_n 1, 1) := by decide +kernel
theorem dX4_copyFrom_19 : decode cX4_copyFrom 19 = .ok (.getfield 15, 3) := by decide +kernel
theorem dX4_copyFrom_22 : decode cX4_copyFrom 22 = .ok (.iconst 0, 1) := by decide +kernel
theorem dX4_copyFrom_23 : decode cX4_copyFrom 23 = .ok (.aload_n 0, 1) := by decide +kernel
theorem dX4_copyFrom_24 : decode cX4_copyFrom 24 = .ok (.getfield 15, 3) := by decide +kernel
theorem dX4_copyFrom_27 : decode cX4_copyFrom 27 = .ok (.iconst 0, 1) := by decide +kernel
theorem dX4_copyFrom_28 : decode cX4_copyFrom 28 = .ok (.aload_n 0, 1) := by decide +kernel
theorem dX4_copyFrom_29 : decode cX4_copyFrom 29 = .ok (.getfield 15, 3) := by decide +kernel
theorem dX4_copyFrom_32 : decode cX4_copyFrom 32 = .ok (.arraylength, 1) := by decide +kernel
theorem dX4_copyFrom_33 : decode cX4_copyFrom 33 = .ok (.invokestatic 52, 3) := by decide +kernel
theorem dX4_copyFrom_36 : decode cX4_copyFrom 36 = .ok (.aload_n 1, 1) := by decide +kernel
theorem dX4_copyFrom_37 : decode cX4_copyFrom 37 = .ok (.getfield 18, 3) := by decide +kernel
theorem dX4_copyFrom_40 : decode cX4_copyFrom 40 = .ok (.iconst 0, 1) := by decide +kernel
theorem dX4_copyFrom_41 : decode cX4_copyFrom 41 = .ok (.aload_n 0, 1) := by decide +kernel
theorem dX4_copyFrom_42 : decode cX4_copyFrom 42 = .ok (.getfield 18, 3) := by decide +kernel
theorem dX4_copyFrom_45 : decode cX4_copyFrom 45 = .ok (.iconst 0, 1) := by decide +kernel
theorem dX4_copyFrom_46 : decode cX4_copyFrom 46 = .ok (.aload_n 0, 1) := by decide +kernel
theorem dX4_copyFrom_47 : decode cX4_copyFrom 47 = .ok (.getfield 18, 3) := by decide +kernel
theorem dX4_copyFrom_50 : decode cX4_copyFrom 50 = .ok (.arraylength, 1) := by decide +kernel
theorem dX4_copyFrom_51 : decode cX4_copyFrom 51 = .ok (.invokestatic 52, 3) := by decide +kernel
theorem dX4_copyFrom_54 : decode cX4_copyFrom 54 = .ok (.aload_n 0, 1) := by decide +kernel
theorem dX4_copyFrom_55 : decode cX4_copyFrom 55 = .ok (.aload_n 1, 1) := by decide +kernel
theorem dX4_copyFrom_56 : decode cX4_copyFrom 56 = .ok (.getfield 21, 3) := by decide +kernel
theorem dX4_copyFrom_59 : decode cX4_copyFrom 59 = .ok (.putfield 21, 3) := by decide +kernel
theorem dX4_copyFrom_62 : decode cX4_copyFrom 62 = .ok (.aload_n 0, 1) := by decide +kernel
theorem dX4_copyFrom_63 : decode cX4_copyFrom 63 = .ok (.aload_n 1, 1) := by decide +kernel
theorem dX4_copyFrom_64 : decode cX4_copyFrom 64 = .ok (.getfield 25, 3) := by decide +kernel
theorem dX4_copyFrom_67 : decode cX4_copyFrom 67 = .ok (.putfield 25, 3) := by decide +kernel
theorem dX4_copyFrom_70 : decode cX4_copyFrom 70 = .ok (.aload_n 0, 1) := by decide +kernel
theorem dX4_copyFrom_71 : decode cX4_copyFrom 71 = .ok (.aload_n 1, 1) := by decide +kernel
theorem dX4_copyFrom_72 : decode cX4_copyFrom 72 = .ok (.getfield 28, 3) := by decide +kernel
theorem dX4_copyFrom_75 : decode cX4_copyFrom 75 = .ok (.putfield 28, 3) := by decide +kernel
theorem dX4_copyFrom_78 : decode cX4_copyFrom 78 = .ok (.aload_n 0, 1) := by decide +kernel
theorem dX4_copyFrom_79 : decode cX4_copyFrom 79 = .ok (.aload_n 1, 1) := by decide +kernel
theorem dX4_copyFrom_80 : decode cX4_copyFrom 80 = .ok (.getfield 31, 3) := by decide +kernel
theorem dX4_copyFrom_83 : decode cX4_copyFrom 83 = .ok (.putfield 31, 3) := by decide +kernel
theorem dX4_copyFrom_86 : decode cX4_copyFrom 86 = .ok (.aload_n 0, 1) := by decide +kernel
theorem dX4_copyFrom_87 : decode cX4_copyFrom 87 = .ok (.aload_n 1, 1) := by decide +kernel
theorem dX4_copyFrom_88 : decode cX4_copyFrom 88 = .ok (.getfield 34, 3) := by decide +kernel
theorem dX4_copyFrom_91 : decode cX4_copyFrom 91 = .ok (.putfield 34, 3) := by decide +kernel
theorem dX4_copyFrom_94 : decode cX4_copyFrom 94 = .ok (.aload_n 0, 1) := by decide +kernel
theorem dX4_copyFrom_95 : decode cX4_copyFrom 95 = .ok (.aload_n 1, 1) := by decide +kernel
theorem dX4_copyFrom_96 : decode cX4_copyFrom 96 = .ok (.getfield 37, 3) := by decide +kernel
theorem dX4_copyFrom_99 : decode cX4_copyFrom 99 = .ok (.putfield 37, 3) := by decide +kernel
theorem dX4_copyFrom_102 : decode cX4_copyFrom 102 = .ok (.aload_n 0, 1) := by decide +kernel
theorem dX4_copyFrom_103 : decode cX4_copyFrom 103 = .ok (.aload_n 1, 1) := by decide +kernel
theorem dX4_copyFrom_104 : decode cX4_copyFrom 104 = .ok (.getfield 40, 3) := by decide +kernel
theorem dX4_copyFrom_107 : decode cX4_copyFrom 107 = .ok (.putfield 40, 3) := by decide +kernel
theorem dX4_copyFrom_110 : decode cX4_copyFrom 110 = .ok (.aload_n 0, 1) := by decide +kernel
theorem dX4_copyFrom_111 : decode cX4_copyFrom 111 = .ok (.aload_n 1, 1) := by decide +kernel
theorem dX4_copyFrom_112 : decode cX4_copyFrom 112 = .ok (.getfield 43, 3) := by decide +kernel
theorem dX4_copyFrom_115 : decode cX4_copyFrom 115 = .ok (.putfield 43, 3) := by decide +kernel
theorem dX4_copyFrom_118 : decode cX4_copyFrom 118 = .ok (.aload_n 0, 1) := by decide +kernel
theorem dX4_copyFrom_119 : decode cX4_copyFrom 119 = .ok (.aload_n 1, 1) := by decide +kernel
theorem dX4_copyFrom_120 : decode cX4_copyFrom 120 = .ok (.getfield 46, 3) := by decide +kernel
theorem dX4_copyFrom_123 : decode cX4_copyFrom 123 = .ok (.putfield 46, 3) := by decide +kernel
theorem dX4_copyFrom_126 : decode cX4_copyFrom 126 = .ok (.aload_n 0, 1) := by decide +kernel
theorem dX4_copyFrom_127 : decode cX4_copyFrom 127 = .ok (.aload_n 1, 1) := by decide +kernel
theorem dX4_copyFrom_128 : decode cX4_copyFrom 128 = .ok (.getfield 49, 3) := by decide +kernel
theorem dX4_copyFrom_131 : decode cX4_copyFrom 131 = .ok (.putfield 49, 3) := by decide +kernel
theorem dX4_copyFrom_134 : decode cX4_copyFrom 134 = .ok (.return_, 1) := by decide +kernel
theorem dX4_hasGoose_0 : decode cX4_hasGoose 0 = .ok (.iload_n 1, 1) := by decide +kernel
theorem dX4_hasGoose_1 : decode cX4_hasGoose 1 = .ok (.ifCond .lt 21, 3) := by decide +kernel
theorem dX4_hasGoose_4 : decode cX4_hasGoose 4 = .ok (.iload_n 1, 1) := by decide +kernel
theorem dX4_hasGoose_5 : decode cX4_hasGoose 5 = .ok (.aload_n 0, 1) := by decide +kernel
theorem dX4_hasGoose_6 : decode cX4_hasGoose 6 = .ok (.getfield 21, 3) := by decide +kernel
theorem dX4_hasGoose_9 : decode cX4_hasGoose 9 = .ok (.if_icmp .ge 13, 3) := by decide +kernel
theorem dX4_hasGoose_12 : decode cX4_hasGoose 12 = .ok (.iload_n 1, 1) := by decide +kernel
theorem dX4_hasGoose_13 : decode cX4_hasGoose 13 = .ok (.bipush 10, 2) := by decide +kernel
theorem dX4_hasGoose_15 : decode cX4_hasGoose 15 = .ok (.if_icmp .ge 7, 3) := by decide +kernel
theorem dX4_hasGoose_18 : decode cX4_hasGoose 18 = .ok (.iconst 1, 1) := by decide +kernel
theorem dX4_hasGoose_19 : decode cX4_hasGoose 19 = .ok (.goto 4, 3) := by decide +kernel
theorem dX4_hasGoose_22 : decode cX4_hasGoose 22 = .ok (.iconst 0, 1) := by decide +kernel
theorem dX4_hasGoose_23 : decode cX4_hasGoose 23 = .ok (.ireturn, 1) := by decide +kernel
theorem dX4_hasMarket_0 : decode cX4_hasMarket 0 = .ok (.iload_n 1, 1) := by decide +kernel
theorem dX4_hasMarket_1 : decode cX4_hasMarket 1 = .ok (.ifCond .lt 20, 3) := by decide +kernel
theorem dX4_hasMarket_4 : decode cX4_hasMarket 4 = .ok (.iload_n 1, 1) := by decide +kernel
theorem dX4_hasMarket_5 : decode cX4_hasMarket 5 = .ok (.aload_n 0, 1) := by decide +kernel
theorem dX4_hasMarket_6 : decode cX4_hasMarket 6 = .ok (.getfield 25, 3) := by decide +kernel
theorem dX4_hasMarket_9 : decode cX4_hasMarket 9 = .ok (.if_icmp .ge 12, 3) := by decide +kernel
theorem dX4_hasMarket_12 : decode cX4_hasMarket 12 = .ok (.iload_n 1, 1) := by decide +kernel
theorem dX4_hasMarket_13 : decode cX4_hasMarket 13 = .ok (.iconst 4, 1) := by decide +kernel
theorem dX4_hasMarket_14 : decode cX4_hasMarket 14 = .ok (.if_icmp .ge 7, 3) := by decide +kernel
theorem dX4_hasMarket_17 : decode cX4_hasMarket 17 = .ok (.iconst 1, 1) := by decide +kernel
theorem dX4_hasMarket_18 : decode cX4_hasMarket 18 = .ok (.goto 4, 3) := by decide +kernel
theorem dX4_hasMarket_21 : decode cX4_hasMarket 21 = .ok (.iconst 0, 1) := by decide +kernel
theorem dX4_hasMarket_22 : decode cX4_hasMarket 22 = .ok (.ireturn, 1) := by decide +kernel
theorem dX4_ofGoose_0 : decode cX4_ofGoose 0 = .ok (.iload_n 1, 1) := by decide +kernel
theorem dX4_ofGoose_1 : decode cX4_ofGoose 1 = .ok (.ifCond .lt 27, 3) := by decide +kernel
theorem dX4_ofGoose_4 : decode cX4_ofGoose 4 = .ok (.iload_n 1, 1) := by decide +kernel
theorem dX4_ofGoose_5 : decode cX4_ofGoose 5 = .ok (.aload_n 0, 1) := by decide +kernel
theorem dX4_ofGoose_6 : decode cX4_ofGoose 6 = .ok (.getfield 21, 3) := by decide +kernel
theorem dX4_ofGoose_9 : decode cX4_ofGoose 9 = .ok (.if_icmp .ge 19, 3) := by decide +kernel
theorem dX4_ofGoose_12 : decode cX4_ofGoose 12 = .ok (.iload_n 1, 1) := by decide +kernel
theorem dX4_ofGoose_13 : decode cX4_ofGoose 13 = .ok (.bipush 10, 2) := by decide +kernel
theorem dX4_ofGoose_15 : decode cX4_ofGoose 15 = .ok (.if_icmp .ge 13, 3) := by decide +kernel
theorem dX4_ofGoose_18 : decode cX4_ofGoose 18 = .ok (.iload_n 2, 1) := by decide +kernel
theorem dX4_ofGoose_19 : decode cX4_ofGoose 19 = .ok (.ifCond .lt 9, 3) := by decide +kernel
theorem dX4_ofGoose_22 : decode cX4_ofGoose 22 = .ok (.iload_n 2, 1) := by decide +kernel
theorem dX4_ofGoose_23 : decode cX4_ofGoose 23 = .ok (.bipush 9, 2) := by decide +kernel
theorem dX4_ofGoose_25 : decode cX4_ofGoose 25 = .ok (.if_icmp .lt 5, 3) := by decide +kernel
theorem dX4_ofGoose_28 : decode cX4_ofGoose 28 = .ok (.iconst (-1), 1) := by decide +kernel
theorem dX4_ofGoose_29 : decode cX4_ofGoose 29 = .ok (.ireturn, 1) := by decide +kernel
theorem dX4_ofGoose_30 : decode cX4_ofGoose 30 = .ok (.aload_n 0, 1) := by decide +kernel
theorem dX4_ofGoose_31 : decode cX4_ofGoose 31 = .ok (.getfield 11, 3) := by decide +kernel
theorem dX4_ofGoose_34 : decode cX4_ofGoose 34 = .ok (.iload_n 1, 1) := by decide +kernel
theorem dX4_ofGoose_35 : decode cX4_ofGoose 35 = .ok (.bipush 9, 2) := by decide +kernel
theorem dX4_ofGoose_37 : decode cX4_ofGoose 37 = .ok (.imul, 1) := by decide +kernel
theorem dX4_ofGoose_38 : decode cX4_ofGoose 38 = .ok (.iload_n 2, 1) := by decide +kernel
theorem dX4_ofGoose_39 : decode cX4_ofGoose 39 = .ok (.iadd, 1) := by decide +kernel
theorem dX4_ofGoose_40 : decode cX4_ofGoose 40 = .ok (.iaload, 1) := by decide +kernel
theorem dX4_ofGoose_41 : decode cX4_ofGoose 41 = .ok (.ireturn, 1) := by decide +kernel
theorem dX4_setGoose_0 : decode cX4_setGoose 0 = .ok (.aload_n 0, 1) := by decide +kernel
theorem dX4_setGoose_1 : decode cX4_setGoose 1 = .ok (.iload_n 1, 1) := by decide +kernel
theorem dX4_setGoose_2 : decode cX4_setGoose 2 = .ok (.invokevirtual 58, 3) := by decide +kernel
theorem dX4_setGoose_5 : decode cX4_setGoose 5 = .ok (.ifCond .eq 25, 3) := by decide +kernel
theorem dX4_setGoose_8 : decode cX4_setGoose 8 = .ok (.iload_n 2, 1) := by decide +kernel
theorem dX4_setGoose_9 : decode cX4_setGoose 9 = .ok (.ifCond .lt 21, 3) := by decide +kernel
theorem dX4_setGoose_12 : decode cX4_setGoose 12 = .ok (.iload_n 2, 1) := by decide +kernel
theorem dX4_setGoose_13 : decode cX4_setGoose 13 = .ok (.bipush 9, 2) := by decide +kernel
theorem dX4_setGoose_15 : decode cX4_setGoose 15 = .ok (.if_icmp .ge 15, 3) := by decide +kernel
theorem dX4_setGoose_18 : decode cX4_setGoose 18 = .ok (.aload_n 0, 1) := by decide +kernel
theorem dX4_setGoose_19 : decode cX4_setGoose 19 = .ok (.getfield 11, 3) := by decide +kernel
theorem dX4_setGoose_22 : decode cX4_setGoose 22 = .ok (.iload_n 1, 1) := by decide +kernel
theorem dX4_setGoose_23 : decode cX4_setGoose 23 = .ok (.bipush 9, 2) := by decide +kernel
theorem dX4_setGoose_25 : decode cX4_setGoose 25 = .ok (.imul, 1) := by decide +kernel
theorem dX4_setGoose_26 : decode cX4_setGoose 26 = .ok (.iload_n 2, 1) := by decide +kernel
theorem dX4_setGoose_27 : decode cX4_setGoose 27 = .ok (.iadd, 1) := by decide +kernel
theorem dX4_setGoose_28 : decode cX4_setGoose 28 = .ok (.iload_n 3, 1) := by decide +kernel
theorem dX4_setGoose_29 : decode cX4_setGoose 29 = .ok (.iastore, 1) := by decide +kernel
theorem dX4_setGoose_30 : decode cX4_setGoose 30 = .ok (.return_, 1) := by decide +kernel
theorem dX4_ofMarket_0 : decode cX4_ofMarket 0 = .ok (.iload_n 1, 1) := by decide +kernel
theorem dX4_ofMarket_1 : decode cX4_ofMarket 1 = .ok (.ifCond .lt 25, 3) := by decide +kernel
theorem dX4_ofMarket_4 : decode cX4_ofMarket 4 = .ok (.iload_n 1, 1) := by decide +kernel
theorem dX4_ofMarket_5 : decode cX4_ofMarket 5 = .ok (.aload_n 0, 1) := by decide +kernel
theorem dX4_ofMarket_6 : decode cX4_ofMarket 6 = .ok (.getfield 25, 3) := by decide +kernel
theorem dX4_ofMarket_9 : decode cX4_ofMarket 9 = .ok (.if_icmp .ge 17, 3) := by decide +kernel
theorem dX4_ofMarket_12 : decode cX4_ofMarket 12 = .ok (.iload_n 1, 1) := by decide +kernel
theorem dX4_ofMarket_13 : decode cX4_ofMarket 13 = .ok (.iconst 4, 1) := by decide +kernel
theorem dX4_ofMarket_14 : decode cX4_ofMarket 14 = .ok (.if_icmp .ge 12, 3) := by decide +kernel
theorem dX4_ofMarket_17 : decode cX4_ofMarket 17 = .ok (.iload_n 2, 1) := by decide +kernel
theorem dX4_ofMarket_18 : decode cX4_ofMarket 18 = .ok (.ifCond .lt 8, 3) := by decide +kernel
theorem dX4_ofMarket_21 : decode cX4_ofMarket 21 = .ok (.iload_n 2, 1) := by decide +kernel
theorem dX4_ofMarket_22 : decode cX4_ofMarket 22 = .ok (.iconst 3, 1) := by decide +kernel
theorem dX4_ofMarket_23 : decode cX4_ofMarket 23 = .ok (.if_icmp .lt 5, 3) := by decide +kernel
theorem dX4_ofMarket_26 : decode cX4_ofMarket 26 = .ok (.iconst 0, 1) := by decide +kernel
theorem dX4_ofMarket_27 : decode cX4_ofMarket 27 = .ok (.ireturn, 1) := by decide +kernel
theorem dX4_ofMarket_28 : decode cX4_ofMarket 28 = .ok (.aload_n 0, 1) := by decide +kernel
theorem dX4_ofMarket_29 : decode cX4_ofMarket 29 = .ok (.getfield 15, 3) := by decide +kernel
theorem dX4_ofMarket_32 : decode cX4_ofMarket 32 = .ok (.iload_n 1, 1) := by decide +kernel
theorem dX4_ofMarket_33 : decode cX4_ofMarket 33 = .ok (.iconst 3, 1) := by decide +kernel
theorem dX4_ofMarket_34 : decode cX4_ofMarket 34 = .ok (.imul, 1) := by decide +kernel
theorem dX4_ofMarket_35 : decode cX4_ofMarket 35 = .ok (.iload_n 2, 1) := by decide +kernel
theorem dX4_ofMarket_36 : decode cX4_ofMarket 36 = .ok (.iadd, 1) := by decide +kernel
theorem dX4_ofMarket_37 : decode cX4_ofMarket 37 = .ok (.iaload, 1) := by decide +kernel
theorem dX4_ofMarket_38 : decode cX4_ofMarket 38 = .ok (.ireturn, 1) := by decide +kernel
theorem dX4_addMarket_0 : decode cX4_addMarket 0 = .ok (.aload_n 0, 1) := by decide +kernel
theorem dX4_addMarket_1 : decode cX4_addMarket 1 = .ok (.getfield 25, 3) := by decide +kernel
theorem dX4_addMarket_4 : decode cX4_addMarket 4 = .ok (.iconst 4, 1) := by decide +kernel
theorem dX4_addMarket_5 : decode cX4_addMarket 5 = .ok (.if_icmp .lt 5, 3) := by decide +kernel
theorem dX4_addMarket_8 : decode cX4_addMarket 8 = .ok (.iconst (-1), 1) := by decide +kernel
theorem dX4_addMarket_9 : decode cX4_addMarket 9 = .ok (.ireturn, 1) := by decide +kernel
theorem dX4_addMarket_10 : decode cX4_addMarket 10 = .ok (.aload_n 0, 1) := by decide +kernel
theorem dX4_addMarket_11 : decode cX4_addMarket 11 = .ok (.getfield 25, 3) := by decide +kernel
theorem dX4_addMarket_14 : decode cX4_addMarket 14 = .ok (.iconst 3, 1) := by decide +kernel
theorem dX4_addMarket_15 : decode cX4_addMarket 15 = .ok (.imul, 1) := by decide +kernel
theorem dX4_addMarket_16 : decode cX4_addMarket 16 = .ok (.istore 4, 2) := by decide +kernel
theorem dX4_addMarket_18 : decode cX4_addMarket 18 = .ok (.aload_n 0, 1) := by decide +kernel
theorem dX4_addMarket_19 : decode cX4_addMarket 19 = .ok (.getfield 15, 3) := by decide +kernel
theorem dX4_addMarket_22 : decode cX4_addMarket 22 = .ok (.iload 4, 2) := by decide +kernel
theorem dX4_addMarket_24 : decode cX4_addMarket 24 = .ok (.iconst 0, 1) := by decide +kernel
theorem dX4_addMarket_25 : decode cX4_addMarket 25 = .ok (.iadd, 1) := by decide +kernel
theorem dX4_addMarket_26 : decode cX4_addMarket 26 = .ok (.iload_n 1, 1) := by decide +kernel
theorem dX4_addMarket_27 : decode cX4_addMarket 27 = .ok (.iastore, 1) := by decide +kernel
theorem dX4_addMarket_28 : decode cX4_addMarket 28 = .ok (.aload_n 0, 1) := by decide +kernel
theorem dX4_addMarket_29 : decode cX4_addMarket 29 = .ok (.getfield 15, 3) := by decide +kernel
theorem dX4_addMarket_32 : decode cX4_addMarket 32 = .ok (.iload 4, 2) := by decide +kernel
theorem dX4_addMarket_34 : decode cX4_addMarket 34 = .ok (.iconst 1, 1) := by decide +kernel
theorem dX4_addMarket_35 : decode cX4_addMarket 35 = .ok (.iadd, 1) := by decide +kernel
theorem dX4_addMarket_36 : decode cX4_addMarket 36 = .ok (.iload_n 2, 1) := by decide +kernel
theorem dX4_addMarket_37 : decode cX4_addMarket 37 = .ok (.iastore, 1) := by decide +kernel
theorem dX4_addMarket_38 : decode cX4_addMarket 38 = .ok (.aload_n 0, 1) := by decide +kernel
theorem dX4_addMarket_39 : decode cX4_addMarket 39 = .ok (.getfield 15, 3) := by decide +kernel
theorem dX4_addMarket_42 : decode cX4_addMarket 42 = .ok (.iload 4, 2) := by decide +kernel
theorem dX4_addMarket_44 : decode cX4_addMarket 44 = .ok (.iconst 2, 1) := by decide +kernel
theorem dX4_addMarket_45 : decode cX4_addMarket 45 = .ok (.iadd, 1) := by decide +kernel
theorem dX4_addMarket_46 : decode cX4_addMarket 46 = .ok (.iload_n 3, 1) := by decide +kernel
theorem dX4_addMarket_47 : decode cX4_addMarket 47 = .ok (.iastore, 1) := by decide +kernel
theorem dX4_addMarket_48 : decode cX4_addMarket 48 = .ok (.aload_n 0, 1) := by decide +kernel
theorem dX4_addMarket_49 : decode cX4_addMarket 49 = .ok (.dup, 1) := by decide +kernel
theorem dX4_addMarket_50 : decode cX4_addMarket 50 = .ok (.getfield 25, 3) := by decide +kernel
theorem dX4_addMarket_53 : decode cX4_addMarket 53 = .ok (.iconst 1, 1) := by decide +kernel
theorem dX4_addMarket_54 : decode cX4_addMarket 54 = .ok (.iadd, 1) := by decide +kernel
theorem dX4_addMarket_55 : decode cX4_addMarket 55 = .ok (.putfield 25, 3) := by decide +kernel
theorem dX4_addMarket_58 : decode cX4_addMarket 58 = .ok (.aload_n 0, 1) := by decide +kernel
theorem dX4_addMarket_59 : decode cX4_addMarket 59 = .ok (.getfield 25, 3) := by decide +kernel
theorem dX4_addMarket_62 : decode cX4_addMarket 62 = .ok (.iconst 1, 1) := by decide +kernel
theorem dX4_addMarket_63 : decode cX4_addMarket 63 = .ok (.isub, 1) := by decide +kernel
theorem dX4_addMarket_64 : decode cX4_addMarket 64 = .ok (.ireturn, 1) := by decide +kernel
theorem dX4_addGoose_0 : decode cX4_addGoose 0 = .ok (.aload_n 0, 1) := by decide +kernel
theorem dX4_addGoose_1 : decode cX4_addGoose 1 = .ok (.getfield 21, 3) := by decide +kernel
theorem dX4_addGoose_4 : decode cX4_addGoose 4 = .ok (.bipush 10, 2) := by decide +kernel
theorem dX4_addGoose_6 : decode cX4_addGoose 6 = .ok (.if_icmp .lt 5, 3) := by decide +kernel
theorem dX4_addGoose_9 : decode cX4_addGoose 9 = .ok (.iconst (-1), 1) := by decide +kernel
theorem dX4_addGoose_10 : decode cX4_addGoose 10 = .ok (.ireturn, 1) := by decide +kernel
theorem dX4_addGoose_11 : decode cX4_addGoose 11 = .ok (.aload_n 0, 1) := by decide +kernel
theorem dX4_addGoose_12 : decode cX4_addGoose 12 = .ok (.getfield 21, 3) := by decide +kernel
theorem dX4_addGoose_15 : decode cX4_addGoose 15 = .ok (.istore_n 3, 1) := by decide +kernel
theorem dX4_addGoose_16 : decode cX4_addGoose 16 = .ok (.aload_n 0, 1) := by decide +kernel
theorem dX4_addGoose_17 : decode cX4_addGoose 17 = .ok (.dup, 1) := by decide +kernel
theorem dX4_addGoose_18 : decode cX4_addGoose 18 = .ok (.getfield 21, 3) := by decide +kernel
theorem dX4_addGoose_21 : decode cX4_addGoose 21 = .ok (.iconst 1, 1) := by decide +kernel
theorem dX4_addGoose_22 : decode cX4_addGoose 22 = .ok (.iadd, 1) := by decide +kernel
theorem dX4_addGoose_23 : decode cX4_addGoose 23 = .ok (.putfield 21, 3) := by decide +kernel
theorem dX4_addGoose_26 : decode cX4_addGoose 26 = .ok (.aload_n 0, 1) := by decide +kernel
theorem dX4_addGoose_27 : decode cX4_addGoose 27 = .ok (.iload_n 3, 1) := by decide +kernel
theorem dX4_addGoose_28 : decode cX4_addGoose 28 = .ok (.iconst 0, 1) := by decide +kernel
theorem dX4_addGoose_29 : decode cX4_addGoose 29 = .ok (.iload_n 1, 1) := by decide +kernel
theorem dX4_addGoose_30 : decode cX4_addGoose 30 = .ok (.invokevirtual 62, 3) := by decide +kernel
theorem dX4_addGoose_33 : decode cX4_addGoose 33 = .ok (.aload_n 0, 1) := by decide +kernel
theorem dX4_addGoose_34 : decode cX4_addGoose 34 = .ok (.iload_n 3, 1) := by decide +kernel
theorem dX4_addGoose_35 : decode cX4_addGoose 35 = .ok (.iconst 1, 1) := by decide +kernel
theorem dX4_addGoose_36 : decode cX4_addGoose 36 = .ok (.iload_n 2, 1) := by decide +kernel
theorem dX4_addGoose_37 : decode cX4_addGoose 37 = .ok (.invokevirtual 62, 3) := by decide +kernel
theorem dX4_addGoose_40 : decode cX4_addGoose 40 = .ok (.aload_n 0, 1) := by decide +kernel
theorem dX4_addGoose_41 : decode cX4_addGoose 41 = .ok (.iload_n 3, 1) := by decide +kernel
theorem dX4_addGoose_42 : decode cX4_addGoose 42 = .ok (.iconst 2, 1) := by decide +kernel
theorem dX4_addGoose_43 : decode cX4_addGoose 43 = .ok (.iconst (-1), 1) := by decide +kernel
theorem dX4_addGoose_44 : decode cX4_addGoose 44 = .ok (.invokevirtual 62, 3) := by decide +kernel
theorem dX4_addGoose_47 : decode cX4_addGoose 47 = .ok (.aload_n 0, 1) := by decide +kernel
theorem dX4_addGoose_48 : decode cX4_addGoose 48 = .ok (.iload_n 3, 1) := by decide +kernel
theorem dX4_addGoose_49 : decode cX4_addGoose 49 = .ok (.iconst 3, 1) := by decide +kernel
theorem dX4_addGoose_50 : decode cX4_addGoose 50 = .ok (.iconst (-1), 1) := by decide +kernel
theorem dX4_addGoose_51 : decode cX4_addGoose 51 = .ok (.invokevirtual 62, 3) := by decide +kernel
theorem dX4_addGoose_54 : decode cX4_addGoose 54 = .ok (.aload_n 0, 1) := by decide +kernel
theorem dX4_addGoose_55 : decode cX4_addGoose 55 = .ok (.iload_n 3, 1) := by decide +kernel
theorem dX4_addGoose_56 : decode cX4_addGoose 56 = .ok (.iconst 4, 1) := by decide +kernel
theorem dX4_addGoose_57 : decode cX4_addGoose 57 = .ok (.iconst 0, 1) := by decide +kernel
theorem dX4_addGoose_58 : decode cX4_addGoose 58 = .ok (.invokevirtual 62, 3) := by decide +kernel
theorem dX4_addGoose_61 : decode cX4_addGoose 61 = .ok (.aload_n 0, 1) := by decide +kernel
theorem dX4_addGoose_62 : decode cX4_addGoose 62 = .ok (.iload_n 3, 1) := by decide +kernel
theorem dX4_addGoose_63 : decode cX4_addGoose 63 = .ok (.iconst 5, 1) := by decide +kernel
theorem dX4_addGoose_64 : decode cX4_addGoose 64 = .ok (.iconst (-1), 1) := by decide +kernel
theorem dX4_addGoose_65 : decode cX4_addGoose 65 = .ok (.invokevirtual 62, 3) := by decide +kernel
theorem dX4_addGoose_68 : decode cX4_addGoose 68 = .ok (.aload_n 0, 1) := by decide +kernel
theorem dX4_addGoose_69 : decode cX4_addGoose 69 = .ok (.iload_n 3, 1) := by decide +kernel
theorem dX4_addGoose_70 : decode cX4_addGoose 70 = .ok (.bipush 6, 2) := by decide +kernel
theorem dX4_addGoose_72 : decode cX4_addGoose 72 = .ok (.iconst (-1), 1) := by decide +kernel
theorem dX4_addGoose_73 : decode cX4_addGoose 73 = .ok (.invokevirtual 62, 3) := by decide +kernel
theorem dX4_addGoose_76 : decode cX4_addGoose 76 = .ok (.aload_n 0, 1) := by decide +kernel
theorem dX4_addGoose_77 : decode cX4_addGoose 77 = .ok (.iload_n 3, 1) := by decide +kernel
theorem dX4_addGoose_78 : decode cX4_addGoose 78 = .ok (.bipush 7, 2) := by decide +kernel
theorem dX4_addGoose_80 : decode cX4_addGoose 80 = .ok (.iconst (-1), 1) := by decide +kernel
theorem dX4_addGoose_81 : decode cX4_addGoose 81 = .ok (.invokevirtual 62, 3) := by decide +kernel
theorem dX4_addGoose_84 : decode cX4_addGoose 84 = .ok (.aload_n 0, 1) := by decide +kernel
theorem dX4_addGoose_85 : decode cX4_addGoose 85 = .ok (.iload_n 3, 1) := by decide +kernel
theorem dX4_addGoose_86 : decode cX4_addGoose 86 = .ok (.bipush 8, 2) := by decide +kernel
theorem dX4_addGoose_88 : decode cX4_addGoose 88 = .ok (.iconst 0, 1) := by decide +kernel
theorem dX4_addGoose_89 : decode cX4_addGoose 89 = .ok (.invokevirtual 62, 3) := by decide +kernel
theorem dX4_addGoose_92 : decode cX4_addGoose 92 = .ok (.iload_n 3, 1) := by decide +kernel
theorem dX4_addGoose_93 : decode cX4_addGoose 93 = .ok (.ireturn, 1) := by decide +kernel
theorem dX4_isHome_0 : decode cX4_isHome 0 = .ok (.aload_n 0, 1) := by decide +kernel
theorem dX4_isHome_1 : decode cX4_isHome 1 = .ok (.iload_n 1, 1) := by decide +kernel
theorem dX4_isHome_2 : decode cX4_isHome 2 = .ok (.iconst 4, 1) := by decide +kernel
theorem dX4_isHome_3 : decode cX4_isHome 3 = .ok (.invokevirtual 66, 3) := by decide +kernel
theorem dX4_isHome_6 : decode cX4_isHome 6 = .ok (.ifCond .ne 7, 3) := by decide +kernel
theorem dX4_isHome_9 : decode cX4_isHome 9 = .ok (.iconst 1, 1) := by decide +kernel
theorem dX4_isHome_10 : decode cX4_isHome 10 = .ok (.goto 4, 3) := by decide +kernel
theorem dX4_isHome_13 : decode cX4_isHome 13 = .ok (.iconst 0, 1) := by decide +kernel
theorem dX4_isHome_14 : decode cX4_isHome 14 = .ok (.ireturn, 1) := by decide +kernel
theorem dX4_isFree_0 : decode cX4_isFree 0 = .ok (.aload_n 0, 1) := by decide +kernel
theorem dX4_isFree_1 : decode cX4_isFree 1 = .ok (.iload_n 1, 1) := by decide +kernel
theorem dX4_isFree_2 : decode cX4_isFree 2 = .ok (.invokevirtual 70, 3) := by decide +kernel
theorem dX4_isFree_5 : decode cX4_isFree 5 = .ok (.ifCond .eq 17, 3) := by decide +kernel
theorem dX4_isFree_8 : decode cX4_isFree 8 = .ok (.aload_n 0, 1) := by decide +kernel
theorem dX4_isFree_9 : decode cX4_isFree 9 = .ok (.iload_n 1, 1) := by decide +kernel
theorem dX4_isFree_10 : decode cX4_isFree 10 = .ok (.bipush 8, 2) := by decide +kernel
theorem dX4_isFree_12 : decode cX4_isFree 12 = .ok (.invokevirtual 66, 3) := by decide +kernel
theorem dX4_isFree_15 : decode cX4_isFree 15 = .ok (.ifCond .ne 7, 3) := by decide +kernel
theorem dX4_isFree_18 : decode cX4_isFree 18 = .ok (.iconst 1, 1) := by decide +kernel
theorem dX4_isFree_19 : decode cX4_isFree 19 = .ok (.goto 4, 3) := by decide +kernel
theorem dX4_isFree_22 : decode cX4_isFree 22 = .ok (.iconst 0, 1) := by decide +kernel
theorem dX4_isFree_23 : decode cX4_isFree 23 = .ok (.ireturn, 1) := by decide +kernel
theorem dX4_settle_0 : decode cX4_settle 0 = .ok (.aload_n 0, 1) := by decide +kernel
theorem dX4_settle_1 : decode cX4_settle 1 = .ok (.iload_n 1, 1) := by decide +kernel
theorem dX4_settle_2 : decode cX4_settle 2 = .ok (.iconst 4, 1) := by decide +kernel
theorem dX4_settle_3 : decode cX4_settle 3 = .ok (.iload_n 2, 1) := by decide +kernel
theorem dX4_settle_4 : decode cX4_settle 4 = .ok (.invokevirtual 62, 3) := by decide +kernel
theorem dX4_settle_7 : decode cX4_settle 7 = .ok (.aload_n 0, 1) := by decide +kernel
theorem dX4_settle_8 : decode cX4_settle 8 = .ok (.iload_n 1, 1) := by decide +kernel
theorem dX4_settle_9 : decode cX4_settle 9 = .ok (.bipush 7, 2) := by decide +kernel
theorem dX4_settle_11 : decode cX4_settle 11 = .ok (.aload_n 0, 1) := by decide +kernel
theorem dX4_settle_12 : decode cX4_settle 12 = .ok (.getfield 34, 3) := by decide +kernel
theorem dX4_settle_15 : decode cX4_settle 15 = .ok (.invokevirtual 62, 3) := by decide +kernel
theorem dX4_settle_18 : decode cX4_settle 18 = .ok (.return_, 1) := by decide +kernel
theorem dX4_countFate_0 : decode cX4_countFate 0 = .ok (.iconst 0, 1) := by decide +kernel
theorem dX4_countFate_1 : decode cX4_countFate 1 = .ok (.istore_n 2, 1) := by decide +kernel
theorem dX4_countFate_2 : decode cX4_countFate 2 = .ok (.iconst 0, 1) := by decide +kernel
theorem dX4_countFate_3 : decode cX4_countFate 3 = .ok (.istore_n 3, 1) := by decide +kernel
theorem dX4_countFate_4 : decode cX4_countFate 4 = .ok (.iload_n 3, 1) := by decide +kernel
theorem dX4_countFate_5 : decode cX4_countFate 5 = .ok (.aload_n 0, 1) := by decide +kernel
theorem dX4_countFate_6 : decode cX4_countFate 6 = .ok (.getfield 21, 3) := by decide +kernel
theorem dX4_countFate_9 : decode cX4_countFate 9 = .ok (.if_icmp .ge 22, 3) := by decide +kernel
theorem dX4_countFate_12 : decode cX4_countFate 12 = .ok (.aload_n 0, 1) := by decide +kernel
theorem dX4_countFate_13 : decode cX4_countFate 13 = .ok (.iload_n 3, 1) := by decide +kernel
theorem dX4_countFate_14 : decode cX4_countFate 14 = .ok (.iconst 4, 1) := by decide +kernel
theorem dX4_countFate_15 : decode cX4_countFate 15 = .ok (.invokevirtual 66, 3) := by decide +kernel
theorem dX4_countFate_18 : decode cX4_countFate 18 = .ok (.iload_n 1, 1) := by decide +kernel
theorem dX4_countFate_19 : decode cX4_countFate 19 = .ok (.if_icmp .ne 6, 3) := by decide +kernel
theorem dX4_countFate_22 : decode cX4_countFate 22 = .ok (.iinc 2 1, 3) := by decide +kernel
theorem dX4_countFate_25 : decode cX4_countFate 25 = .ok (.iinc 3 1, 3) := by decide +kernel
theorem dX4_countFate_28 : decode cX4_countFate 28 = .ok (.goto (-24), 3) := by decide +kernel
theorem dX4_countFate_31 : decode cX4_countFate 31 = .ok (.iload_n 2, 1) := by decide +kernel
theorem dX4_countFate_32 : decode cX4_countFate 32 = .ok (.ireturn, 1) := by decide +kernel
theorem dX4_dailyNeed_0 : decode cX4_dailyNeed 0 = .ok (.aload_n 0, 1) := by decide +kernel
theorem dX4_dailyNeed_1 : decode cX4_dailyNeed 1 = .ok (.getfield 31, 3) := by decide +kernel
theorem dX4_dailyNeed_4 : decode cX4_dailyNeed 4 = .ok (.aload_n 0, 1) := by decide +kernel
theorem dX4_dailyNeed_5 : decode cX4_dailyNeed 5 = .ok (.iconst 0, 1) := by decide +kernel
theorem dX4_dailyNeed_6 : decode cX4_dailyNeed 6 = .ok (.invokevirtual 73, 3) := by decide +kernel
theorem dX4_dailyNeed_9 : decode cX4_dailyNeed 9 = .ok (.iadd, 1) := by decide +kernel
theorem dX4_dailyNeed_10 : decode cX4_dailyNeed 10 = .ok (.ireturn, 1) := by decide +kernel
theorem dX4_eatDaily_0 : decode cX4_eatDaily 0 = .ok (.aload_n 0, 1) := by decide +kernel
theorem dX4_eatDaily_1 : decode cX4_eatDaily 1 = .ok (.invokevirtual 77, 3) := by decide +kernel
theorem dX4_eatDaily_4 : decode cX4_eatDaily 4 = .ok (.istore_n 1, 1) := by decide +kernel
theorem dX4_eatDaily_5 : decode cX4_eatDaily 5 = .ok (.iload_n 1, 1) := by decide +kernel
theorem dX4_eatDaily_6 : decode cX4_eatDaily 6 = .ok (.aload_n 0, 1) := by decide +kernel
theorem dX4_eatDaily_7 : decode cX4_eatDaily 7 = .ok (.getfield 28, 3) := by decide +kernel
theorem dX4_eatDaily_10 : decode cX4_eatDaily 10 = .ok (.if_icmp .gt 14, 3) := by decide +kernel
theorem dX4_eatDaily_13 : decode cX4_eatDaily 13 = .ok (.aload_n 0, 1) := by decide +kernel
theorem dX4_eatDaily_14 : decode cX4_eatDaily 14 = .ok (.dup, 1) := by decide +kernel
theorem dX4_eatDaily_15 : decode cX4_eatDaily 15 = .ok (.getfield 28, 3) := by decide +kernel
theorem dX4_eatDaily_18 : decode cX4_eatDaily 18 = .ok (.iload_n 1, 1) := by decide +kernel
theorem dX4_eatDaily_19 : decode cX4_eatDaily 19 = .ok (.isub, 1) := by decide +kernel
theorem dX4_eatDaily_20 : decode cX4_eatDaily 20 = .ok (.putfield 28, 3) := by decide +kernel
theorem dX4_eatDaily_23 : decode cX4_eatDaily 23 = .ok (.return_, 1) := by decide +kernel
theorem dX4_eatDaily_24 : decode cX4_eatDaily 24 = .ok (.aload_n 0, 1) := by decide +kernel
theorem dX4_eatDaily_25 : decode cX4_eatDaily 25 = .ok (.iconst 0, 1) := by decide +kernel
theorem dX4_eatDaily_26 : decode cX4_eatDaily 26 = .ok (.putfield 28, 3) := by decide +kernel
theorem dX4_eatDaily_29 : decode cX4_eatDaily 29 = .ok (.iconst 0, 1) := by decide +kernel
theorem dX4_eatDaily_30 : decode cX4_eatDaily 30 = .ok (.istore_n 2, 1) := by decide +kernel
theorem dX4_eatDaily_31 : decode cX4_eatDaily 31 = .ok (.iload_n 2, 1) := by decide +kernel
theorem dX4_eatDaily_32 : decode cX4_eatDaily 32 = .ok (.aload_n 0, 1) := by decide +kernel
theorem dX4_eatDaily_33 : decode cX4_eatDaily 33 = .ok (.getfield 21, 3) := by decide +kernel
theorem dX4_eatDaily_36 : decode cX4_eatDaily 36 = .ok (.if_icmp .ge 34, 3) := by decide +kernel
theorem dX4_eatDaily_39 : decode cX4_eatDaily 39 = .ok (.aload_n 0, 1) := by decide +kernel
theorem dX4_eatDaily_40 : decode cX4_eatDaily 40 = .ok (.iload_n 2, 1) := by decide +kernel
theorem dX4_eatDaily_41 : decode cX4_eatDaily 41 = .ok (.invokevirtual 81, 3) := by decide +kernel
theorem dX4_eatDaily_44 : decode cX4_eatDaily 44 = .ok (.ifCond .eq 20, 3) := by decide +kernel
theorem dX4_eatDaily_47 : decode cX4_eatDaily 47 = .ok (.aload_n 0, 1) := by decide +kernel
theorem dX4_eatDaily_48 : decode cX4_eatDaily 48 = .ok (.iload_n 2, 1) := by decide +kernel
theorem dX4_eatDaily_49 : decode cX4_eatDaily 49 = .ok (.iconst 5, 1) := by decide +kernel
theorem dX4_eatDaily_50 : decode cX4_eatDaily 50 = .ok (.invokevirtual 84, 3) := by decide +kernel
theorem dX4_eatDaily_53 : decode cX4_eatDaily 53 = .ok (.aload_n 0, 1) := by decide +kernel
theorem dX4_eatDaily_54 : decode cX4_eatDaily 54 = .ok (.aload_n 0, 1) := by decide +kernel
theorem dX4_eatDaily_55 : decode cX4_eatDaily 55 = .ok (.iload_n 2, 1) := by decide +kernel
theorem dX4_eatDaily_56 : decode cX4_eatDaily 56 = .ok (.iconst 0, 1) := by decide +kernel
theorem dX4_eatDaily_57 : decode cX4_eatDaily 57 = .ok (.invokevirtual 66, 3) := by decide +kernel
theorem dX4_eatDaily_60 : decode cX4_eatDaily 60 = .ok (.putfield 28, 3) := by decide +kernel
theorem dX4_eatDaily_63 : decode cX4_eatDaily 63 = .ok (.return_, 1) := by decide +kernel
theorem dX4_eatDaily_64 : decode cX4_eatDaily 64 = .ok (.iinc 2 1, 3) := by decide +kernel
theorem dX4_eatDaily_67 : decode cX4_eatDaily 67 = .ok (.goto (-36), 3) := by decide +kernel
theorem dX4_eatDaily_70 : decode cX4_eatDaily 70 = .ok (.return_, 1) := by decide +kernel
theorem dX4_draw_0 : decode cX4_draw 0 = .ok (.aload_n 0, 1) := by decide +kernel
theorem dX4_draw_1 : decode cX4_draw 1 = .ok (.getfield 37, 3) := by decide +kernel
theorem dX4_draw_4 : decode cX4_draw 4 = .ok (.bipush 10, 2) := by decide +kernel
theorem dX4_draw_6 : decode cX4_draw 6 = .ok (.irem, 1) := by decide +kernel
theorem dX4_draw_7 : decode cX4_draw 7 = .ok (.istore_n 1, 1) := by decide +kernel
theorem dX4_draw_8 : decode cX4_draw 8 = .ok (.aload_n 0, 1) := by decide +kernel
theorem dX4_draw_9 : decode cX4_draw 9 = .ok (.aload_n 0, 1) := by decide +kernel
theorem dX4_draw_10 : decode cX4_draw 10 = .ok (.getfield 37, 3) := by decide +kernel
theorem dX4_draw_13 : decode cX4_draw 13 = .ok (.sipush 157, 3) := by decide +kernel
theorem dX4_draw_16 : decode cX4_draw 16 = .ok (.imul, 1) := by decide +kernel
theorem dX4_draw_17 : decode cX4_draw 17 = .ok (.bipush 61, 2) := by decide +kernel
theorem dX4_draw_19 : decode cX4_draw 19 = .ok (.iadd, 1) := by decide +kernel
theorem dX4_draw_20 : decode cX4_draw 20 = .ok (.sipush 30071, 3) := by decide +kernel
theorem dX4_draw_23 : decode cX4_draw 23 = .ok (.irem, 1) := by decide +kernel
theorem dX4_draw_24 : decode cX4_draw 24 = .ok (.putfield 37, 3) := by decide +kernel
theorem dX4_draw_27 : decode cX4_draw 27 = .ok (.iload_n 1, 1) := by decide +kernel
theorem dX4_draw_28 : decode cX4_draw 28 = .ok (.ireturn, 1) := by decide +kernel
theorem dX4_keepStep_0 : decode cX4_keepStep 0 = .ok (.aload_n 0, 1) := by decide +kernel
theorem dX4_keepStep_1 : decode cX4_keepStep 1 = .ok (.getfield 49, 3) := by decide +kernel
theorem dX4_keepStep_4 : decode cX4_keepStep 4 = .ok (.bipush 20, 2) := by decide +kernel
theorem dX4_keepStep_6 : decode cX4_keepStep 6 = .ok (.if_icmp .ge 16, 3) := by decide +kernel
theorem dX4_keepStep_9 : decode cX4_keepStep 9 = .ok (.aload_n 0, 1) := by decide +kernel
theorem dX4_keepStep_10 : decode cX4_keepStep 10 = .ok (.dup, 1) := by decide +kernel
theorem dX4_keepStep_11 : decode cX4_keepStep 11 = .ok (.getfield 49, 3) := by decide +kernel
theorem dX4_keepStep_14 : decode cX4_keepStep 14 = .ok (.iconst 1, 1) := by decide +kernel
theorem dX4_keepStep_15 : decode cX4_keepStep 15 = .ok (.iadd, 1) := by decide +kernel
theorem dX4_keepStep_16 : decode cX4_keepStep 16 = .ok (.putfield 49, 3) := by decide +kernel
theorem dX4_keepStep_19 : decode cX4_keepStep 19 = .ok (.goto 16, 3) := by decide +kernel
theorem dX4_keepStep_22 : decode cX4_keepStep 22 = .ok (.aload_n 0, 1) := by decide +kernel
theorem dX4_keepStep_23 : decode cX4_keepStep 23 = .ok (.aload_n 0, 1) := by decide +kernel
theorem dX4_keepStep_24 : decode cX4_keepStep 24 = .ok (.getfield 46, 3) := by decide +kernel
theorem dX4_keepStep_27 : decode cX4_keepStep 27 = .ok (.iconst 1, 1) := by decide +kernel
theorem dX4_keepStep_28 : decode cX4_keepStep 28 = .ok (.iadd, 1) := by decide +kernel
theorem dX4_keepStep_29 : decode cX4_keepStep 29 = .ok (.bipush 20, 2) := by decide +kernel
theorem dX4_keepStep_31 : decode cX4_keepStep 31 = .ok (.irem, 1) := by decide +kernel
theorem dX4_keepStep_32 : decode cX4_keepStep 32 = .ok (.putfield 46, 3) := by decide +kernel
theorem dX4_keepStep_35 : decode cX4_keepStep 35 = .ok (.aload_n 0, 1) := by decide +kernel
theorem dX4_keepStep_36 : decode cX4_keepStep 36 = .ok (.getfield 46, 3) := by decide +kernel
theorem dX4_keepStep_39 : decode cX4_keepStep 39 = .ok (.aload_n 0, 1) := by decide +kernel
theorem dX4_keepStep_40 : decode cX4_keepStep 40 = .ok (.getfield 49, 3) := by decide +kernel
theorem dX4_keepStep_43 : decode cX4_keepStep 43 = .ok (.iadd, 1) := by decide +kernel
theorem dX4_keepStep_44 : decode cX4_keepStep 44 = .ok (.iconst 1, 1) := by decide +kernel
theorem dX4_keepStep_45 : decode cX4_keepStep 45 = .ok (.isub, 1) := by decide +kernel
theorem dX4_keepStep_46 : decode cX4_keepStep 46 = .ok (.bipush 20, 2) := by decide +kernel
theorem dX4_keepStep_48 : decode cX4_keepStep 48 = .ok (.irem, 1) := by decide +kernel
theorem dX4_keepStep_49 : decode cX4_keepStep 49 = .ok (.bipush 94, 2) := by decide +kernel
theorem dX4_keepStep_51 : decode cX4_keepStep 51 = .ok (.imul, 1) := by decide +kernel
theorem dX4_keepStep_52 : decode cX4_keepStep 52 = .ok (.istore_n 1, 1) := by decide +kernel
theorem dX4_keepStep_53 : decode cX4_keepStep 53 = .ok (.iload_n 1, 1) := by decide +kernel
theorem dX4_keepStep_54 : decode cX4_keepStep 54 = .ok (.ifCond .lt 15, 3) := by decide +kernel
theorem dX4_keepStep_57 : decode cX4_keepStep 57 = .ok (.iload_n 1, 1) := by decide +kernel
theorem dX4_keepStep_58 : decode cX4_keepStep 58 = .ok (.bipush 94, 2) := by decide +kernel
theorem dX4_keepStep_60 : decode cX4_keepStep 60 = .ok (.iadd, 1) := by decide +kernel
theorem dX4_keepStep_61 : decode cX4_keepStep 61 = .ok (.aload_n 0, 1) := by decide +kernel
theorem dX4_keepStep_62 : decode cX4_keepStep 62 = .ok (.getfield 18, 3) := by decide +kernel
theorem dX4_keepStep_65 : decode cX4_keepStep 65 = .ok (.arraylength, 1) := by decide +kernel
theorem dX4_keepStep_66 : decode cX4_keepStep 66 = .ok (.if_icmp .le 4, 3) := by decide +kernel
theorem dX4_keepStep_69 : decode cX4_keepStep 69 = .ok (.return_, 1) := by decide +kernel
theorem dX4_keepStep_70 : decode cX4_keepStep 70 = .ok (.aload_n 0, 1) := by decide +kernel
theorem dX4_keepStep_71 : decode cX4_keepStep 71 = .ok (.getfield 11, 3) := by decide +kernel
theorem dX4_keepStep_74 : decode cX4_keepStep 74 = .ok (.iconst 0, 1) := by decide +kernel
theorem dX4_keepStep_75 : decode cX4_keepStep 75 = .ok (.aload_n 0, 1) := by decide +kernel
theorem dX4_keepStep_76 : decode cX4_keepStep 76 = .ok (.getfield 18, 3) := by decide +kernel
theorem dX4_keepStep_79 : decode cX4_keepStep 79 = .ok (.iload_n 1, 1) := by decide +kernel
theorem dX4_keepStep_80 : decode cX4_keepStep 80 = .ok (.bipush 90, 2) := by decide +kernel
theorem dX4_keepStep_82 : decode cX4_keepStep 82 = .ok (.invokestatic 52, 3) := by decide +kernel
theorem dX4_keepStep_85 : decode cX4_keepStep 85 = .ok (.aload_n 0, 1) := by decide +kernel
theorem dX4_keepStep_86 : decode cX4_keepStep 86 = .ok (.getfield 18, 3) := by decide +kernel
theorem dX4_keepStep_89 : decode cX4_keepStep 89 = .ok (.iload_n 1, 1) := by decide +kernel
theorem dX4_keepStep_90 : decode cX4_keepStep 90 = .ok (.bipush 90, 2) := by decide +kernel
theorem dX4_keepStep_92 : decode cX4_keepStep 92 = .ok (.iadd, 1) := by decide +kernel
theorem dX4_keepStep_93 : decode cX4_keepStep 93 = .ok (.aload_n 0, 1) := by decide +kernel
theorem dX4_keepStep_94 : decode cX4_keepStep 94 = .ok (.getfield 21, 3) := by decide +kernel
theorem dX4_keepStep_97 : decode cX4_keepStep 97 = .ok (.iastore, 1) := by decide +kernel
theorem dX4_keepStep_98 : decode cX4_keepStep 98 = .ok (.aload_n 0, 1) := by decide +kernel
theorem dX4_keepStep_99 : decode cX4_keepStep 99 = .ok (.getfield 18, 3) := by decide +kernel
theorem dX4_keepStep_102 : decode cX4_keepStep 102 = .ok (.iload_n 1, 1) := by decide +kernel
theorem dX4_keepStep_103 : decode cX4_keepStep 103 = .ok (.bipush 90, 2) := by decide +kernel
theorem dX4_keepStep_105 : decode cX4_keepStep 105 = .ok (.iadd, 1) := by decide +kernel
theorem dX4_keepStep_106 : decode cX4_keepStep 106 = .ok (.iconst 1, 1) := by decide +kernel
theorem dX4_keepStep_107 : decode cX4_keepStep 107 = .ok (.iadd, 1) := by decide +kernel
theorem dX4_keepStep_108 : decode cX4_keepStep 108 = .ok (.aload_n 0, 1) := by decide +kernel
theorem dX4_keepStep_109 : decode cX4_keepStep 109 = .ok (.getfield 28, 3) := by decide +kernel
theorem dX4_keepStep_112 : decode cX4_keepStep 112 = .ok (.iastore, 1) := by decide +kernel
theorem dX4_keepStep_113 : decode cX4_keepStep 113 = .ok (.aload_n 0, 1) := by decide +kernel
theorem dX4_keepStep_114 : decode cX4_keepStep 114 = .ok (.getfield 18, 3) := by decide +kernel
theorem dX4_keepStep_117 : decode cX4_keepStep 117 = .ok (.iload_n 1, 1) := by decide +kernel
theorem dX4_keepStep_118 : decode cX4_keepStep 118 = .ok (.bipush 90, 2) := by decide +kernel
theorem dX4_keepStep_120 : decode cX4_keepStep 120 = .ok (.iadd, 1) := by decide +kernel
theorem dX4_keepStep_121 : decode cX4_keepStep 121 = .ok (.iconst 2, 1) := by decide +kernel
theorem dX4_keepStep_122 : decode cX4_keepStep 122 = .ok (.iadd, 1) := by decide +kernel
theorem dX4_keepStep_123 : decode cX4_keepStep 123 = .ok (.aload_n 0, 1) := by decide +kernel
theorem dX4_keepStep_124 : decode cX4_keepStep 124 = .ok (.getfield 34, 3) := by decide +kernel
theorem dX4_keepStep_127 : decode cX4_keepStep 127 = .ok (.iastore, 1) := by decide +kernel
theorem dX4_keepStep_128 : decode cX4_keepStep 128 = .ok (.aload_n 0, 1) := by decide +kernel
theorem dX4_keepStep_129 : decode cX4_keepStep 129 = .ok (.getfield 18, 3) := by decide +kernel
theorem dX4_keepStep_132 : decode cX4_keepStep 132 = .ok (.iload_n 1, 1) := by decide +kernel
theorem dX4_keepStep_133 : decode cX4_keepStep 133 = .ok (.bipush 90, 2) := by decide +kernel
theorem dX4_keepStep_135 : decode cX4_keepStep 135 = .ok (.iadd, 1) := by decide +kernel
theorem dX4_keepStep_136 : decode cX4_keepStep 136 = .ok (.iconst 3, 1) := by decide +kernel
theorem dX4_keepStep_137 : decode cX4_keepStep 137 = .ok (.iadd, 1) := by decide +kernel
theorem dX4_keepStep_138 : decode cX4_keepStep 138 = .ok (.aload_n 0, 1) := by decide +kernel
theorem dX4_keepStep_139 : decode cX4_keepStep 139 = .ok (.getfield 37, 3) := by decide +kernel
theorem dX4_keepStep_142 : decode cX4_keepStep 142 = .ok (.iastore, 1) := by decide +kernel
theorem dX4_keepStep_143 : decode cX4_keepStep 143 = .ok (.return_, 1) := by decide +kernel
theorem dX4_takeStepBack_0 : decode cX4_takeStepBack 0 = .ok (.aload_n 0, 1) := by decide +kernel
theorem dX4_takeStepBack_1 : decode cX4_takeStepBack 1 = .ok (.getfield 46, 3) := by decide +kernel
theorem dX4_takeStepBack_4 : decode cX4_takeStepBack 4 = .ok (.aload_n 0, 1) := by decide +kernel
theorem dX4_takeStepBack_5 : decode cX4_takeStepBack 5 = .ok (.getfield 49, 3) := by decide +kernel
theorem dX4_takeStepBack_8 : decode cX4_takeStepBack 8 = .ok (.iadd, 1) := by decide +kernel
theorem dX4_takeStepBack_9 : decode cX4_takeStepBack 9 = .ok (.iconst 1, 1) := by decide +kernel
theorem dX4_takeStepBack_10 : decode cX4_takeStepBack 10 = .ok (.isub, 1) := by decide +kernel
theorem dX4_takeStepBack_11 : decode cX4_takeStepBack 11 = .ok (.bipush 20, 2) := by decide +kernel
theorem dX4_takeStepBack_13 : decode cX4_takeStepBack 13 = .ok (.irem, 1) := by decide +kernel
theorem dX4_takeStepBack_14 : decode cX4_takeStepBack 14 = .ok (.bipush 94, 2) := by decide +kernel
theorem dX4_takeStepBack_16 : decode cX4_takeStepBack 16 = .ok (.imul, 1) := by decide +kernel
theorem dX4_takeStepBack_17 : decode cX4_takeStepBack 17 = .ok (.istore_n 1, 1) := by decide +kernel
theorem dX4_takeStepBack_18 : decode cX4_takeStepBack 18 = .ok (.aload_n 0, 1) := by decide +kernel
theorem dX4_takeStepBack_19 : decode cX4_takeStepBack 19 = .ok (.getfield 49, 3) := by decide +kernel
theorem dX4_takeStepBack_22 : decode cX4_takeStepBack 22 = .ok (.iconst 1, 1) := by decide +kernel
theorem dX4_takeStepBack_23 : decode cX4_takeStepBack 23 = .ok (.if_icmp .lt 19, 3) := by decide +kernel
theorem dX4_takeStepBack_26 : decode cX4_takeStepBack 26 = .ok (.iload_n 1, 1) := by decide +kernel
theorem dX4_takeStepBack_27 : decode cX4_takeStepBack 27 = .ok (.ifCond .lt 15, 3) := by decide +kernel
theorem dX4_takeStepBack_30 : decode cX4_takeStepBack 30 = .ok (.iload_n 1, 1) := by decide +kernel
theorem dX4_takeStepBack_31 : decode cX4_takeStepBack 31 = .ok (.bipush 94, 2) := by decide +kernel
theorem dX4_takeStepBack_33 : decode cX4_takeStepBack 33 = .ok (.iadd, 1) := by decide +kernel
theorem dX4_takeStepBack_34 : decode cX4_takeStepBack 34 = .ok (.aload_n 0, 1) := by decide +kernel
theorem dX4_takeStepBack_35 : decode cX4_takeStepBack 35 = .ok (.getfield 18, 3) := by decide +kernel
theorem dX4_takeStepBack_38 : decode cX4_takeStepBack 38 = .ok (.arraylength, 1) := by decide +kernel
theorem dX4_takeStepBack_39 : decode cX4_takeStepBack 39 = .ok (.if_icmp .le 5, 3) := by decide +kernel
theorem dX4_takeStepBack_42 : decode cX4_takeStepBack 42 = .ok (.iconst 0, 1) := by decide +kernel
theorem dX4_takeStepBack_43 : decode cX4_takeStepBack 43 = .ok (.ireturn, 1) := by decide +kernel
theorem dX4_takeStepBack_44 : decode cX4_takeStepBack 44 = .ok (.aload_n 0, 1) := by decide +kernel
theorem dX4_takeStepBack_45 : decode cX4_takeStepBack 45 = .ok (.dup, 1) := by decide +kernel
theorem dX4_takeStepBack_46 : decode cX4_takeStepBack 46 = .ok (.getfield 49, 3) := by decide +kernel
theorem dX4_takeStepBack_49 : decode cX4_takeStepBack 49 = .ok (.iconst 1, 1) := by decide +kernel
theorem dX4_takeStepBack_50 : decode cX4_takeStepBack 50 = .ok (.isub, 1) := by decide +kernel
theorem dX4_takeStepBack_51 : decode cX4_takeStepBack 51 = .ok (.putfield 49, 3) := by decide +kernel
theorem dX4_takeStepBack_54 : decode cX4_takeStepBack 54 = .ok (.bipush 90, 2) := by decide +kernel
theorem dX4_takeStepBack_56 : decode cX4_takeStepBack 56 = .ok (.iconst 0, 1) := by decide +kernel
theorem dX4_takeStepBack_57 : decode cX4_takeStepBack 57 = .ok (.aload_n 0, 1) := by decide +kernel
theorem dX4_takeStepBack_58 : decode cX4_takeStepBack 58 = .ok (.getfield 18, 3) := by decide +kernel
theorem dX4_takeStepBack_61 : decode cX4_takeStepBack 61 = .ok (.iload_n 1, 1) := by decide +kernel
theorem dX4_takeStepBack_62 : decode cX4_takeStepBack 62 = .ok (.bipush 90, 2) := by decide +kernel
theorem dX4_takeStepBack_64 : decode cX4_takeStepBack 64 = .ok (.iadd, 1) := by decide +kernel
theorem dX4_takeStepBack_65 : decode cX4_takeStepBack 65 = .ok (.iaload, 1) := by decide +kernel
theorem dX4_takeStepBack_66 : decode cX4_takeStepBack 66 = .ok (.bipush 9, 2) := by decide +kernel
theorem dX4_takeStepBack_68 : decode cX4_takeStepBack 68 = .ok (.imul, 1) := by decide +kernel
theorem dX4_takeStepBack_69 : decode cX4_takeStepBack 69 = .ok (.invokestatic 88, 3) := by decide +kernel
theorem dX4_takeStepBack_72 : decode cX4_takeStepBack 72 = .ok (.invokestatic 93, 3) := by decide +kernel
theorem dX4_takeStepBack_75 : decode cX4_takeStepBack 75 = .ok (.istore_n 2, 1) := by decide +kernel
theorem dX4_takeStepBack_76 : decode cX4_takeStepBack 76 = .ok (.aload_n 0, 1) := by decide +kernel
theorem dX4_takeStepBack_77 : decode cX4_takeStepBack 77 = .ok (.getfield 18, 3) := by decide +kernel
theorem dX4_takeStepBack_80 : decode cX4_takeStepBack 80 = .ok (.iload_n 1, 1) := by decide +kernel
theorem dX4_takeStepBack_81 : decode cX4_takeStepBack 81 = .ok (.aload_n 0, 1) := by decide +kernel
theorem dX4_takeStepBack_82 : decode cX4_takeStepBack 82 = .ok (.getfield 11, 3) := by decide +kernel
theorem dX4_takeStepBack_85 : decode cX4_takeStepBack 85 = .ok (.iconst 0, 1) := by decide +kernel
theorem dX4_takeStepBack_86 : decode cX4_takeStepBack 86 = .ok (.iload_n 2, 1) := by decide +kernel
theorem dX4_takeStepBack_87 : decode cX4_takeStepBack 87 = .ok (.invokestatic 52, 3) := by decide +kernel
theorem dX4_takeStepBack_90 : decode cX4_takeStepBack 90 = .ok (.aload_n 0, 1) := by decide +kernel
theorem dX4_takeStepBack_91 : decode cX4_takeStepBack 91 = .ok (.aload_n 0, 1) := by decide +kernel
theorem dX4_takeStepBack_92 : decode cX4_takeStepBack 92 = .ok (.getfield 18, 3) := by decide +kernel
theorem dX4_takeStepBack_95 : decode cX4_takeStepBack 95 = .ok (.iload_n 1, 1) := by decide +kernel
theorem dX4_takeStepBack_96 : decode cX4_takeStepBack 96 = .ok (.bipush 90, 2) := by decide +kernel
theorem dX4_takeStepBack_98 : decode cX4_takeStepBack 98 = .ok (.iadd, 1) := by decide +kernel
theorem dX4_takeStepBack_99 : decode cX4_takeStepBack 99 = .ok (.iconst 1, 1) := by decide +kernel
theorem dX4_takeStepBack_100 : decode cX4_takeStepBack 100 = .ok (.iadd, 1) := by decide +kernel
theorem dX4_takeStepBack_101 : decode cX4_takeStepBack 101 = .ok (.iaload, 1) := by decide +kernel
theorem dX4_takeStepBack_102 : decode cX4_takeStepBack 102 = .ok (.putfield 28, 3) := by decide +kernel
theorem dX4_takeStepBack_105 : decode cX4_takeStepBack 105 = .ok (.aload_n 0, 1) := by decide +kernel
theorem dX4_takeStepBack_106 : decode cX4_takeStepBack 106 = .ok (.aload_n 0, 1) := by decide +kernel
theorem dX4_takeStepBack_107 : decode cX4_takeStepBack 107 = .ok (.getfield 18, 3) := by decide +kernel
theorem dX4_takeStepBack_110 : decode cX4_takeStepBack 110 = .ok (.iload_n 1, 1) := by decide +kernel
theorem dX4_takeStepBack_111 : decode cX4_takeStepBack 111 = .ok (.bipush 90, 2) := by decide +kernel
theorem dX4_takeStepBack_113 : decode cX4_takeStepBack 113 = .ok (.iadd, 1) := by decide +kernel
theorem dX4_takeStepBack_114 : decode cX4_takeStepBack 114 = .ok (.iconst 2, 1) := by decide +kernel
theorem dX4_takeStepBack_115 : decode cX4_takeStepBack 115 = .ok (.iadd, 1) := by decide +kernel
theorem dX4_takeStepBack_116 : decode cX4_takeStepBack 116 = .ok (.iaload, 1) := by decide +kernel
theorem dX4_takeStepBack_117 : decode cX4_takeStepBack 117 = .ok (.putfield 34, 3) := by decide +kernel
theorem dX4_takeStepBack_120 : decode cX4_takeStepBack 120 = .ok (.aload_n 0, 1) := by decide +kernel
theorem dX4_takeStepBack_121 : decode cX4_takeStepBack 121 = .ok (.aload_n 0, 1) := by decide +kernel
theorem dX4_takeStepBack_122 : decode cX4_takeStepBack 122 = .ok (.getfield 18, 3) := by decide +kernel
theorem dX4_takeStepBack_125 : decode cX4_takeStepBack 125 = .ok (.iload_n 1, 1) := by decide +kernel
theorem dX4_takeStepBack_126 : decode cX4_takeStepBack 126 = .ok (.bipush 90, 2) := by decide +kernel
theorem dX4_takeStepBack_128 : decode cX4_takeStepBack 128 = .ok (.iadd, 1) := by decide +kernel
theorem dX4_takeStepBack_129 : decode cX4_takeStepBack 129 = .ok (.iconst 3, 1) := by decide +kernel
theorem dX4_takeStepBack_130 : decode cX4_takeStepBack 130 = .ok (.iadd, 1) := by decide +kernel
theorem dX4_takeStepBack_131 : decode cX4_takeStepBack 131 = .ok (.iaload, 1) := by decide +kernel
theorem dX4_takeStepBack_132 : decode cX4_takeStepBack 132 = .ok (.putfield 37, 3) := by decide +kernel
theorem dX4_takeStepBack_135 : decode cX4_takeStepBack 135 = .ok (.iconst 1, 1) := by decide +kernel
theorem dX4_takeStepBack_136 : decode cX4_takeStepBack 136 = .ok (.ireturn, 1) := by decide +kernel
