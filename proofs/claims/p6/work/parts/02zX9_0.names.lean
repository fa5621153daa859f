theorem dX9_in_0 : decode cX9_in 0 = .ok (.iload_n 0, 1) := by decide +kernel
theorem dX9_in_1 : decode cX9_in 1 = .ok (.iload_n 1, 1) := by decide +kernel
theorem dX9_in_2 : decode cX9_in 2 = .ok (.if_icmp .lt 12, 3) := by decide +kernel
theorem dX9_in_5 : decode cX9_in 5 = .ok (.iload_n 0, 1) := by decide +kernel
theorem dX9_in_6 : decode cX9_in 6 = .ok (.iload_n 2, 1) := by decide +kernel
theorem dX9_in_7 : decode cX9_in 7 = .ok (.if_icmp .gt 7, 3) := by decide +kernel
theorem dX9_in_10 : decode cX9_in 10 = .ok (.iconst 1, 1) := by decide +kernel
theorem dX9_in_11 : decode cX9_in 11 = .ok (.goto 4, 3) := by decide +kernel
theorem dX9_in_14 : decode cX9_in 14 = .ok (.iconst 0, 1) := by decide +kernel
theorem dX9_in_15 : decode cX9_in 15 = .ok (.ireturn, 1) := by decide +kernel
theorem dX9_copies_0 : decode cX9_copies 0 = .ok (.iconst 0, 1) := by decide +kernel
theorem dX9_copies_1 : decode cX9_copies 1 = .ok (.istore_n 2, 1) := by decide +kernel
theorem dX9_copies_2 : decode cX9_copies 2 = .ok (.iload_n 2, 1) := by decide +kernel
theorem dX9_copies_3 : decode cX9_copies 3 = .ok (.sipush 1990, 3) := by decide +kernel
theorem dX9_copies_6 : decode cX9_copies 6 = .ok (.if_icmp .ge 40, 3) := by decide +kernel
theorem dX9_copies_9 : decode cX9_copies 9 = .ok (.iload_n 1, 1) := by decide +kernel
theorem dX9_copies_10 : decode cX9_copies 10 = .ok (.ifCond .eq 18, 3) := by decide +kernel
theorem dX9_copies_13 : decode cX9_copies 13 = .ok (.aload_n 0, 1) := by decide +kernel
theorem dX9_copies_14 : decode cX9_copies 14 = .ok (.getfield 13, 3) := by decide +kernel
theorem dX9_copies_17 : decode cX9_copies 17 = .ok (.iload_n 2, 1) := by decide +kernel
theorem dX9_copies_18 : decode cX9_copies 18 = .ok (.aload_n 0, 1) := by decide +kernel
theorem dX9_copies_19 : decode cX9_copies 19 = .ok (.getfield 7, 3) := by decide +kernel
theorem dX9_copies_22 : decode cX9_copies 22 = .ok (.iload_n 2, 1) := by decide +kernel
theorem dX9_copies_23 : decode cX9_copies 23 = .ok (.iaload, 1) := by decide +kernel
theorem dX9_copies_24 : decode cX9_copies 24 = .ok (.iastore, 1) := by decide +kernel
theorem dX9_copies_25 : decode cX9_copies 25 = .ok (.goto 15, 3) := by decide +kernel
theorem dX9_copies_28 : decode cX9_copies 28 = .ok (.aload_n 0, 1) := by decide +kernel
theorem dX9_copies_29 : decode cX9_copies 29 = .ok (.getfield 7, 3) := by decide +kernel
theorem dX9_copies_32 : decode cX9_copies 32 = .ok (.iload_n 2, 1) := by decide +kernel
theorem dX9_copies_33 : decode cX9_copies 33 = .ok (.aload_n 0, 1) := by decide +kernel
theorem dX9_copies_34 : decode cX9_copies 34 = .ok (.getfield 13, 3) := by decide +kernel
theorem dX9_copies_37 : decode cX9_copies 37 = .ok (.iload_n 2, 1) := by decide +kernel
theorem dX9_copies_38 : decode cX9_copies 38 = .ok (.iaload, 1) := by decide +kernel
theorem dX9_copies_39 : decode cX9_copies 39 = .ok (.iastore, 1) := by decide +kernel
theorem dX9_copies_40 : decode cX9_copies 40 = .ok (.iinc 2 1, 3) := by decide +kernel
theorem dX9_copies_43 : decode cX9_copies 43 = .ok (.goto (-41), 3) := by decide +kernel
theorem dX9_copies_46 : decode cX9_copies 46 = .ok (.return_, 1) := by decide +kernel
theorem dX9_isMarket_0 : decode cX9_isMarket 0 = .ok (.iload_n 1, 1) := by decide +kernel
theorem dX9_isMarket_1 : decode cX9_isMarket 1 = .ok (.iconst 0, 1) := by decide +kernel
theorem dX9_isMarket_2 : decode cX9_isMarket 2 = .ok (.aload_n 0, 1) := by decide +kernel
theorem dX9_isMarket_3 : decode cX9_isMarket 3 = .ok (.getfield 7, 3) := by decide +kernel
theorem dX9_isMarket_6 : decode cX9_isMarket 6 = .ok (.iconst 0, 1) := by decide +kernel
theorem dX9_isMarket_7 : decode cX9_isMarket 7 = .ok (.iaload, 1) := by decide +kernel
theorem dX9_isMarket_8 : decode cX9_isMarket 8 = .ok (.iconst 1, 1) := by decide +kernel
theorem dX9_isMarket_9 : decode cX9_isMarket 9 = .ok (.isub, 1) := by decide +kernel
theorem dX9_isMarket_10 : decode cX9_isMarket 10 = .ok (.invokestatic 126, 3) := by decide +kernel
theorem dX9_isMarket_13 : decode cX9_isMarket 13 = .ok (.ireturn, 1) := by decide +kernel
theorem dX9_isGoose_0 : decode cX9_isGoose 0 = .ok (.iload_n 1, 1) := by decide +kernel
theorem dX9_isGoose_1 : decode cX9_isGoose 1 = .ok (.iconst 0, 1) := by decide +kernel
theorem dX9_isGoose_2 : decode cX9_isGoose 2 = .ok (.aload_n 0, 1) := by decide +kernel
theorem dX9_isGoose_3 : decode cX9_isGoose 3 = .ok (.getfield 7, 3) := by decide +kernel
theorem dX9_isGoose_6 : decode cX9_isGoose 6 = .ok (.iconst 1, 1) := by decide +kernel
theorem dX9_isGoose_7 : decode cX9_isGoose 7 = .ok (.iaload, 1) := by decide +kernel
theorem dX9_isGoose_8 : decode cX9_isGoose 8 = .ok (.iconst 1, 1) := by decide +kernel
theorem dX9_isGoose_9 : decode cX9_isGoose 9 = .ok (.isub, 1) := by decide +kernel
theorem dX9_isGoose_10 : decode cX9_isGoose 10 = .ok (.invokestatic 126, 3) := by decide +kernel
theorem dX9_isGoose_13 : decode cX9_isGoose 13 = .ok (.ireturn, 1) := by decide +kernel
theorem dX9_ofGoose_0 : decode cX9_ofGoose 0 = .ok (.aload_n 0, 1) := by decide +kernel
theorem dX9_ofGoose_1 : decode cX9_ofGoose 1 = .ok (.getfield 7, 3) := by decide +kernel
theorem dX9_ofGoose_4 : decode cX9_ofGoose 4 = .ok (.bipush 30, 2) := by decide +kernel
theorem dX9_ofGoose_6 : decode cX9_ofGoose 6 = .ok (.bipush 9, 2) := by decide +kernel
theorem dX9_ofGoose_8 : decode cX9_ofGoose 8 = .ok (.iload_n 1, 1) := by decide +kernel
theorem dX9_ofGoose_9 : decode cX9_ofGoose 9 = .ok (.imul, 1) := by decide +kernel
theorem dX9_ofGoose_10 : decode cX9_ofGoose 10 = .ok (.iadd, 1) := by decide +kernel
theorem dX9_ofGoose_11 : decode cX9_ofGoose 11 = .ok (.iload_n 2, 1) := by decide +kernel
theorem dX9_ofGoose_12 : decode cX9_ofGoose 12 = .ok (.iadd, 1) := by decide +kernel
theorem dX9_ofGoose_13 : decode cX9_ofGoose 13 = .ok (.iaload, 1) := by decide +kernel
theorem dX9_ofGoose_14 : decode cX9_ofGoose 14 = .ok (.ireturn, 1) := by decide +kernel
theorem dX9_puts_0 : decode cX9_puts 0 = .ok (.aload_n 0, 1) := by decide +kernel
theorem dX9_puts_1 : decode cX9_puts 1 = .ok (.getfield 7, 3) := by decide +kernel
theorem dX9_puts_4 : decode cX9_puts 4 = .ok (.bipush 30, 2) := by decide +kernel
theorem dX9_puts_6 : decode cX9_puts 6 = .ok (.bipush 9, 2) := by decide +kernel
theorem dX9_puts_8 : decode cX9_puts 8 = .ok (.iload_n 1, 1) := by decide +kernel
theorem dX9_puts_9 : decode cX9_puts 9 = .ok (.imul, 1) := by decide +kernel
theorem dX9_puts_10 : decode cX9_puts 10 = .ok (.iadd, 1) := by decide +kernel
theorem dX9_puts_11 : decode cX9_puts 11 = .ok (.iload_n 2, 1) := by decide +kernel
theorem dX9_puts_12 : decode cX9_puts 12 = .ok (.iadd, 1) := by decide +kernel
theorem dX9_puts_13 : decode cX9_puts 13 = .ok (.iload_n 3, 1) := by decide +kernel
theorem dX9_puts_14 : decode cX9_puts 14 = .ok (.iastore, 1) := by decide +kernel
theorem dX9_puts_15 : decode cX9_puts 15 = .ok (.return_, 1) := by decide +kernel
theorem dX9_market_0 : decode cX9_market 0 = .ok (.iload_n 1, 1) := by decide +kernel
theorem dX9_market_1 : decode cX9_market 1 = .ok (.iconst 1, 1) := by decide +kernel
theorem dX9_market_2 : decode cX9_market 2 = .ok (.bipush 9, 2) := by decide +kernel
theorem dX9_market_4 : decode cX9_market 4 = .ok (.invokestatic 126, 3) := by decide +kernel
theorem dX9_market_7 : decode cX9_market 7 = .ok (.ifCond .eq 33, 3) := by decide +kernel
theorem dX9_market_10 : decode cX9_market 10 = .ok (.iload_n 2, 1) := by decide +kernel
theorem dX9_market_11 : decode cX9_market 11 = .ok (.iconst 0, 1) := by decide +kernel
theorem dX9_market_12 : decode cX9_market 12 = .ok (.bipush 9, 2) := by decide +kernel
theorem dX9_market_14 : decode cX9_market 14 = .ok (.invokestatic 126, 3) := by decide +kernel
theorem dX9_market_17 : decode cX9_market 17 = .ok (.ifCond .eq 23, 3) := by decide +kernel
theorem dX9_market_20 : decode cX9_market 20 = .ok (.iload_n 3, 1) := by decide +kernel
theorem dX9_market_21 : decode cX9_market 21 = .ok (.iconst 0, 1) := by decide +kernel
theorem dX9_market_22 : decode cX9_market 22 = .ok (.bipush 9, 2) := by decide +kernel
theorem dX9_market_24 : decode cX9_market 24 = .ok (.invokestatic 126, 3) := by decide +kernel
theorem dX9_market_27 : decode cX9_market 27 = .ok (.ifCond .eq 13, 3) := by decide +kernel
theorem dX9_market_30 : decode cX9_market 30 = .ok (.aload_n 0, 1) := by decide +kernel
theorem dX9_market_31 : decode cX9_market 31 = .ok (.getfield 7, 3) := by decide +kernel
theorem dX9_market_34 : decode cX9_market 34 = .ok (.iconst 0, 1) := by decide +kernel
theorem dX9_market_35 : decode cX9_market 35 = .ok (.iaload, 1) := by decide +kernel
theorem dX9_market_36 : decode cX9_market 36 = .ok (.iconst 4, 1) := by decide +kernel
theorem dX9_market_37 : decode cX9_market 37 = .ok (.if_icmp .ne 5, 3) := by decide +kernel
theorem dX9_market_40 : decode cX9_market 40 = .ok (.iconst (-1), 1) := by decide +kernel
theorem dX9_market_41 : decode cX9_market 41 = .ok (.ireturn, 1) := by decide +kernel
theorem dX9_market_42 : decode cX9_market 42 = .ok (.bipush 10, 2) := by decide +kernel
theorem dX9_market_44 : decode cX9_market 44 = .ok (.iconst 3, 1) := by decide +kernel
theorem dX9_market_45 : decode cX9_market 45 = .ok (.aload_n 0, 1) := by decide +kernel
theorem dX9_market_46 : decode cX9_market 46 = .ok (.getfield 7, 3) := by decide +kernel
theorem dX9_market_49 : decode cX9_market 49 = .ok (.iconst 0, 1) := by decide +kernel
theorem dX9_market_50 : decode cX9_market 50 = .ok (.iaload, 1) := by decide +kernel
theorem dX9_market_51 : decode cX9_market 51 = .ok (.imul, 1) := by decide +kernel
theorem dX9_market_52 : decode cX9_market 52 = .ok (.iadd, 1) := by decide +kernel
theorem dX9_market_53 : decode cX9_market 53 = .ok (.istore 4, 2) := by decide +kernel
theorem dX9_market_55 : decode cX9_market 55 = .ok (.aload_n 0, 1) := by decide +kernel
theorem dX9_market_56 : decode cX9_market 56 = .ok (.getfield 7, 3) := by decide +kernel
theorem dX9_market_59 : decode cX9_market 59 = .ok (.iload 4, 2) := by decide +kernel
theorem dX9_market_61 : decode cX9_market 61 = .ok (.iload_n 1, 1) := by decide +kernel
theorem dX9_market_62 : decode cX9_market 62 = .ok (.iastore, 1) := by decide +kernel
theorem dX9_market_63 : decode cX9_market 63 = .ok (.aload_n 0, 1) := by decide +kernel
theorem dX9_market_64 : decode cX9_market 64 = .ok (.getfield 7, 3) := by decide +kernel
theorem dX9_market_67 : decode cX9_market 67 = .ok (.iload 4, 2) := by decide +kernel
theorem dX9_market_69 : decode cX9_market 69 = .ok (.iconst 1, 1) := by decide +kernel
theorem dX9_market_70 : decode cX9_market 70 = .ok (.iadd, 1) := by decide +kernel
theorem dX9_market_71 : decode cX9_market 71 = .ok (.iload_n 2, 1) := by decide +kernel
theorem dX9_market_72 : decode cX9_market 72 = .ok (.iastore, 1) := by decide +kernel
theorem dX9_market_73 : decode cX9_market 73 = .ok (.aload_n 0, 1) := by decide +kernel
theorem dX9_market_74 : decode cX9_market 74 = .ok (.getfield 7, 3) := by decide +kernel
theorem dX9_market_77 : decode cX9_market 77 = .ok (.iload 4, 2) := by decide +kernel
theorem dX9_market_79 : decode cX9_market 79 = .ok (.iconst 2, 1) := by decide +kernel
theorem dX9_market_80 : decode cX9_market 80 = .ok (.iadd, 1) := by decide +kernel
theorem dX9_market_81 : decode cX9_market 81 = .ok (.iload_n 3, 1) := by decide +kernel
theorem dX9_market_82 : decode cX9_market 82 = .ok (.iastore, 1) := by decide +kernel
theorem dX9_market_83 : decode cX9_market 83 = .ok (.aload_n 0, 1) := by decide +kernel
theorem dX9_market_84 : decode cX9_market 84 = .ok (.getfield 7, 3) := by decide +kernel
theorem dX9_market_87 : decode cX9_market 87 = .ok (.iconst 0, 1) := by decide +kernel
theorem dX9_market_88 : decode cX9_market 88 = .ok (.dup2, 1) := by decide +kernel
theorem dX9_market_89 : decode cX9_market 89 = .ok (.iaload, 1) := by decide +kernel
theorem dX9_market_90 : decode cX9_market 90 = .ok (.iconst 1, 1) := by decide +kernel
theorem dX9_market_91 : decode cX9_market 91 = .ok (.iadd, 1) := by decide +kernel
theorem dX9_market_92 : decode cX9_market 92 = .ok (.iastore, 1) := by decide +kernel
theorem dX9_market_93 : decode cX9_market 93 = .ok (.aload_n 0, 1) := by decide +kernel
theorem dX9_market_94 : decode cX9_market 94 = .ok (.getfield 7, 3) := by decide +kernel
theorem dX9_market_97 : decode cX9_market 97 = .ok (.iconst 0, 1) := by decide +kernel
theorem dX9_market_98 : decode cX9_market 98 = .ok (.iaload, 1) := by decide +kernel
theorem dX9_market_99 : decode cX9_market 99 = .ok (.iconst 1, 1) := by decide +kernel
theorem dX9_market_100 : decode cX9_market 100 = .ok (.isub, 1) := by decide +kernel
theorem dX9_market_101 : decode cX9_market 101 = .ok (.ireturn, 1) := by decide +kernel
theorem dX9_tellsGoose_0 : decode cX9_tellsGoose 0 = .ok (.iload_n 1, 1) := by decide +kernel
theorem dX9_tellsGoose_1 : decode cX9_tellsGoose 1 = .ok (.bipush 9, 2) := by decide +kernel
theorem dX9_tellsGoose_3 : decode cX9_tellsGoose 3 = .ok (.iload_n 2, 1) := by decide +kernel
theorem dX9_tellsGoose_4 : decode cX9_tellsGoose 4 = .ok (.imul, 1) := by decide +kernel
theorem dX9_tellsGoose_5 : decode cX9_tellsGoose 5 = .ok (.iadd, 1) := by decide +kernel
theorem dX9_tellsGoose_6 : decode cX9_tellsGoose 6 = .ok (.istore 5, 2) := by decide +kernel
theorem dX9_tellsGoose_8 : decode cX9_tellsGoose 8 = .ok (.aload_n 0, 1) := by decide +kernel
theorem dX9_tellsGoose_9 : decode cX9_tellsGoose 9 = .ok (.getfield 7, 3) := by decide +kernel
theorem dX9_tellsGoose_12 : decode cX9_tellsGoose 12 = .ok (.iload 5, 2) := by decide +kernel
theorem dX9_tellsGoose_14 : decode cX9_tellsGoose 14 = .ok (.iconst 0, 1) := by decide +kernel
theorem dX9_tellsGoose_15 : decode cX9_tellsGoose 15 = .ok (.iadd, 1) := by decide +kernel
theorem dX9_tellsGoose_16 : decode cX9_tellsGoose 16 = .ok (.iload_n 3, 1) := by decide +kernel
theorem dX9_tellsGoose_17 : decode cX9_tellsGoose 17 = .ok (.iastore, 1) := by decide +kernel
theorem dX9_tellsGoose_18 : decode cX9_tellsGoose 18 = .ok (.aload_n 0, 1) := by decide +kernel
theorem dX9_tellsGoose_19 : decode cX9_tellsGoose 19 = .ok (.getfield 7, 3) := by decide +kernel
theorem dX9_tellsGoose_22 : decode cX9_tellsGoose 22 = .ok (.iload 5, 2) := by decide +kernel
theorem dX9_tellsGoose_24 : decode cX9_tellsGoose 24 = .ok (.iconst 1, 1) := by decide +kernel
theorem dX9_tellsGoose_25 : decode cX9_tellsGoose 25 = .ok (.iadd, 1) := by decide +kernel
theorem dX9_tellsGoose_26 : decode cX9_tellsGoose 26 = .ok (.iload 4, 2) := by decide +kernel
theorem dX9_tellsGoose_28 : decode cX9_tellsGoose 28 = .ok (.iastore, 1) := by decide +kernel
theorem dX9_tellsGoose_29 : decode cX9_tellsGoose 29 = .ok (.aload_n 0, 1) := by decide +kernel
theorem dX9_tellsGoose_30 : decode cX9_tellsGoose 30 = .ok (.getfield 7, 3) := by decide +kernel
theorem dX9_tellsGoose_33 : decode cX9_tellsGoose 33 = .ok (.iload 5, 2) := by decide +kernel
theorem dX9_tellsGoose_35 : decode cX9_tellsGoose 35 = .ok (.iconst 2, 1) := by decide +kernel
theorem dX9_tellsGoose_36 : decode cX9_tellsGoose 36 = .ok (.iadd, 1) := by decide +kernel
theorem dX9_tellsGoose_37 : decode cX9_tellsGoose 37 = .ok (.iconst (-1), 1) := by decide +kernel
theorem dX9_tellsGoose_38 : decode cX9_tellsGoose 38 = .ok (.iastore, 1) := by decide +kernel
theorem dX9_tellsGoose_39 : decode cX9_tellsGoose 39 = .ok (.aload_n 0, 1) := by decide +kernel
theorem dX9_tellsGoose_40 : decode cX9_tellsGoose 40 = .ok (.getfield 7, 3) := by decide +kernel
theorem dX9_tellsGoose_43 : decode cX9_tellsGoose 43 = .ok (.iload 5, 2) := by decide +kernel
theorem dX9_tellsGoose_45 : decode cX9_tellsGoose 45 = .ok (.iconst 3, 1) := by decide +kernel
theorem dX9_tellsGoose_46 : decode cX9_tellsGoose 46 = .ok (.iadd, 1) := by decide +kernel
theorem dX9_tellsGoose_47 : decode cX9_tellsGoose 47 = .ok (.iconst (-1), 1) := by decide +kernel
theorem dX9_tellsGoose_48 : decode cX9_tellsGoose 48 = .ok (.iastore, 1) := by decide +kernel
theorem dX9_tellsGoose_49 : decode cX9_tellsGoose 49 = .ok (.aload_n 0, 1) := by decide +kernel
theorem dX9_tellsGoose_50 : decode cX9_tellsGoose 50 = .ok (.getfield 7, 3) := by decide +kernel
theorem dX9_tellsGoose_53 : decode cX9_tellsGoose 53 = .ok (.iload 5, 2) := by decide +kernel
theorem dX9_tellsGoose_55 : decode cX9_tellsGoose 55 = .ok (.iconst 4, 1) := by decide +kernel
theorem dX9_tellsGoose_56 : decode cX9_tellsGoose 56 = .ok (.iadd, 1) := by decide +kernel
theorem dX9_tellsGoose_57 : decode cX9_tellsGoose 57 = .ok (.iconst 0, 1) := by decide +kernel
theorem dX9_tellsGoose_58 : decode cX9_tellsGoose 58 = .ok (.iastore, 1) := by decide +kernel
theorem dX9_tellsGoose_59 : decode cX9_tellsGoose 59 = .ok (.aload_n 0, 1) := by decide +kernel
theorem dX9_tellsGoose_60 : decode cX9_tellsGoose 60 = .ok (.getfield 7, 3) := by decide +kernel
theorem dX9_tellsGoose_63 : decode cX9_tellsGoose 63 = .ok (.iload 5, 2) := by decide +kernel
theorem dX9_tellsGoose_65 : decode cX9_tellsGoose 65 = .ok (.iconst 5, 1) := by decide +kernel
theorem dX9_tellsGoose_66 : decode cX9_tellsGoose 66 = .ok (.iadd, 1) := by decide +kernel
theorem dX9_tellsGoose_67 : decode cX9_tellsGoose 67 = .ok (.iconst (-1), 1) := by decide +kernel
theorem dX9_tellsGoose_68 : decode cX9_tellsGoose 68 = .ok (.iastore, 1) := by decide +kernel
theorem dX9_tellsGoose_69 : decode cX9_tellsGoose 69 = .ok (.aload_n 0, 1) := by decide +kernel
theorem dX9_tellsGoose_70 : decode cX9_tellsGoose 70 = .ok (.getfield 7, 3) := by decide +kernel
theorem dX9_tellsGoose_73 : decode cX9_tellsGoose 73 = .ok (.iload 5, 2) := by decide +kernel
theorem dX9_tellsGoose_75 : decode cX9_tellsGoose 75 = .ok (.bipush 6, 2) := by decide +kernel
theorem dX9_tellsGoose_77 : decode cX9_tellsGoose 77 = .ok (.iadd, 1) := by decide +kernel
theorem dX9_tellsGoose_78 : decode cX9_tellsGoose 78 = .ok (.iconst (-1), 1) := by decide +kernel
theorem dX9_tellsGoose_79 : decode cX9_tellsGoose 79 = .ok (.iastore, 1) := by decide +kernel
theorem dX9_tellsGoose_80 : decode cX9_tellsGoose 80 = .ok (.aload_n 0, 1) := by decide +kernel
theorem dX9_tellsGoose_81 : decode cX9_tellsGoose 81 = .ok (.getfield 7, 3) := by decide +kernel
theorem dX9_tellsGoose_84 : decode cX9_tellsGoose 84 = .ok (.iload 5, 2) := by decide +kernel
theorem dX9_tellsGoose_86 : decode cX9_tellsGoose 86 = .ok (.bipush 7, 2) := by decide +kernel
theorem dX9_tellsGoose_88 : decode cX9_tellsGoose 88 = .ok (.iadd, 1) := by decide +kernel
theorem dX9_tellsGoose_89 : decode cX9_tellsGoose 89 = .ok (.iconst (-1), 1) := by decide +kernel
theorem dX9_tellsGoose_90 : decode cX9_tellsGoose 90 = .ok (.iastore, 1) := by decide +kernel
theorem dX9_tellsGoose_91 : decode cX9_tellsGoose 91 = .ok (.aload_n 0, 1) := by decide +kernel
theorem dX9_tellsGoose_92 : decode cX9_tellsGoose 92 = .ok (.getfield 7, 3) := by decide +kernel
theorem dX9_tellsGoose_95 : decode cX9_tellsGoose 95 = .ok (.iload 5, 2) := by decide +kernel
theorem dX9_tellsGoose_97 : decode cX9_tellsGoose 97 = .ok (.bipush 8, 2) := by decide +kernel
theorem dX9_tellsGoose_99 : decode cX9_tellsGoose 99 = .ok (.iadd, 1) := by decide +kernel
theorem dX9_tellsGoose_100 : decode cX9_tellsGoose 100 = .ok (.iconst 0, 1) := by decide +kernel
theorem dX9_tellsGoose_101 : decode cX9_tellsGoose 101 = .ok (.iastore, 1) := by decide +kernel
theorem dX9_tellsGoose_102 : decode cX9_tellsGoose 102 = .ok (.return_, 1) := by decide +kernel
theorem dX9_goose_0 : decode cX9_goose 0 = .ok (.iload_n 1, 1) := by decide +kernel
theorem dX9_goose_1 : decode cX9_goose 1 = .ok (.iconst 1, 1) := by decide +kernel
theorem dX9_goose_2 : decode cX9_goose 2 = .ok (.bipush 20, 2) := by decide +kernel
theorem dX9_goose_4 : decode cX9_goose 4 = .ok (.invokestatic 126, 3) := by decide +kernel
theorem dX9_goose_7 : decode cX9_goose 7 = .ok (.ifCond .eq 24, 3) := by decide +kernel
theorem dX9_goose_10 : decode cX9_goose 10 = .ok (.iload_n 2, 1) := by decide +kernel
theorem dX9_goose_11 : decode cX9_goose 11 = .ok (.iconst 0, 1) := by decide +kernel
theorem dX9_goose_12 : decode cX9_goose 12 = .ok (.bipush 99, 2) := by decide +kernel
theorem dX9_goose_14 : decode cX9_goose 14 = .ok (.invokestatic 126, 3) := by decide +kernel
theorem dX9_goose_17 : decode cX9_goose 17 = .ok (.ifCond .eq 14, 3) := by decide +kernel
theorem dX9_goose_20 : decode cX9_goose 20 = .ok (.aload_n 0, 1) := by decide +kernel
theorem dX9_goose_21 : decode cX9_goose 21 = .ok (.getfield 7, 3) := by decide +kernel
theorem dX9_goose_24 : decode cX9_goose 24 = .ok (.iconst 1, 1) := by decide +kernel
theorem dX9_goose_25 : decode cX9_goose 25 = .ok (.iaload, 1) := by decide +kernel
theorem dX9_goose_26 : decode cX9_goose 26 = .ok (.bipush 10, 2) := by decide +kernel
theorem dX9_goose_28 : decode cX9_goose 28 = .ok (.if_icmp .ne 5, 3) := by decide +kernel
theorem dX9_goose_31 : decode cX9_goose 31 = .ok (.iconst (-1), 1) := by decide +kernel
theorem dX9_goose_32 : decode cX9_goose 32 = .ok (.ireturn, 1) := by decide +kernel
theorem dX9_goose_33 : decode cX9_goose 33 = .ok (.aload_n 0, 1) := by decide +kernel
theorem dX9_goose_34 : decode cX9_goose 34 = .ok (.bipush 30, 2) := by decide +kernel
theorem dX9_goose_36 : decode cX9_goose 36 = .ok (.aload_n 0, 1) := by decide +kernel
theorem dX9_goose_37 : decode cX9_goose 37 = .ok (.getfield 7, 3) := by decide +kernel
theorem dX9_goose_40 : decode cX9_goose 40 = .ok (.iconst 1, 1) := by decide +kernel
theorem dX9_goose_41 : decode cX9_goose 41 = .ok (.iaload, 1) := by decide +kernel
theorem dX9_goose_42 : decode cX9_goose 42 = .ok (.iload_n 1, 1) := by decide +kernel
theorem dX9_goose_43 : decode cX9_goose 43 = .ok (.iload_n 2, 1) := by decide +kernel
theorem dX9_goose_44 : decode cX9_goose 44 = .ok (.invokevirtual 130, 3) := by decide +kernel
theorem dX9_goose_47 : decode cX9_goose 47 = .ok (.iconst 0, 1) := by decide +kernel
theorem dX9_goose_48 : decode cX9_goose 48 = .ok (.istore_n 3, 1) := by decide +kernel
theorem dX9_goose_49 : decode cX9_goose 49 = .ok (.iload_n 3, 1) := by decide +kernel
theorem dX9_goose_50 : decode cX9_goose 50 = .ok (.aload_n 0, 1) := by decide +kernel
theorem dX9_goose_51 : decode cX9_goose 51 = .ok (.getfield 7, 3) := by decide +kernel
theorem dX9_goose_54 : decode cX9_goose 54 = .ok (.iconst 5, 1) := by decide +kernel
theorem dX9_goose_55 : decode cX9_goose 55 = .ok (.iaload, 1) := by decide +kernel
theorem dX9_goose_56 : decode cX9_goose 56 = .ok (.if_icmp .ge 29, 3) := by decide +kernel
theorem dX9_goose_59 : decode cX9_goose 59 = .ok (.aload_n 0, 1) := by decide +kernel
theorem dX9_goose_60 : decode cX9_goose 60 = .ok (.sipush 130, 3) := by decide +kernel
theorem dX9_goose_63 : decode cX9_goose 63 = .ok (.bipush 93, 2) := by decide +kernel
theorem dX9_goose_65 : decode cX9_goose 65 = .ok (.iload_n 3, 1) := by decide +kernel
theorem dX9_goose_66 : decode cX9_goose 66 = .ok (.imul, 1) := by decide +kernel
theorem dX9_goose_67 : decode cX9_goose 67 = .ok (.iadd, 1) := by decide +kernel
theorem dX9_goose_68 : decode cX9_goose 68 = .ok (.aload_n 0, 1) := by decide +kernel
theorem dX9_goose_69 : decode cX9_goose 69 = .ok (.getfield 7, 3) := by decide +kernel
theorem dX9_goose_72 : decode cX9_goose 72 = .ok (.iconst 1, 1) := by decide +kernel
theorem dX9_goose_73 : decode cX9_goose 73 = .ok (.iaload, 1) := by decide +kernel
theorem dX9_goose_74 : decode cX9_goose 74 = .ok (.iload_n 1, 1) := by decide +kernel
theorem dX9_goose_75 : decode cX9_goose 75 = .ok (.iload_n 2, 1) := by decide +kernel
theorem dX9_goose_76 : decode cX9_goose 76 = .ok (.invokevirtual 130, 3) := by decide +kernel
theorem dX9_goose_79 : decode cX9_goose 79 = .ok (.iinc 3 1, 3) := by decide +kernel
theorem dX9_goose_82 : decode cX9_goose 82 = .ok (.goto (-33), 3) := by decide +kernel
theorem dX9_goose_85 : decode cX9_goose 85 = .ok (.aload_n 0, 1) := by decide +kernel
theorem dX9_goose_86 : decode cX9_goose 86 = .ok (.getfield 7, 3) := by decide +kernel
theorem dX9_goose_89 : decode cX9_goose 89 = .ok (.iconst 1, 1) := by decide +kernel
theorem dX9_goose_90 : decode cX9_goose 90 = .ok (.dup2, 1) := by decide +kernel
theorem dX9_goose_91 : decode cX9_goose 91 = .ok (.iaload, 1) := by decide +kernel
theorem dX9_goose_92 : decode cX9_goose 92 = .ok (.iconst 1, 1) := by decide +kernel
theorem dX9_goose_93 : decode cX9_goose 93 = .ok (.iadd, 1) := by decide +kernel
theorem dX9_goose_94 : decode cX9_goose 94 = .ok (.iastore, 1) := by decide +kernel
theorem dX9_goose_95 : decode cX9_goose 95 = .ok (.aload_n 0, 1) := by decide +kernel
theorem dX9_goose_96 : decode cX9_goose 96 = .ok (.getfield 7, 3) := by decide +kernel
theorem dX9_goose_99 : decode cX9_goose 99 = .ok (.iconst 1, 1) := by decide +kernel
theorem dX9_goose_100 : decode cX9_goose 100 = .ok (.iaload, 1) := by decide +kernel
theorem dX9_goose_101 : decode cX9_goose 101 = .ok (.iconst 1, 1) := by decide +kernel
theorem dX9_goose_102 : decode cX9_goose 102 = .ok (.isub, 1) := by decide +kernel
theorem dX9_goose_103 : decode cX9_goose 103 = .ok (.ireturn, 1) := by decide +kernel
theorem dX9_store_0 : decode cX9_store 0 = .ok (.iload_n 1, 1) := by decide +kernel
theorem dX9_store_1 : decode cX9_store 1 = .ok (.iconst 0, 1) := by decide +kernel
theorem dX9_store_2 : decode cX9_store 2 = .ok (.sipush 9999, 3) := by decide +kernel
theorem dX9_store_5 : decode cX9_store 5 = .ok (.invokestatic 126, 3) := by decide +kernel
theorem dX9_store_8 : decode cX9_store 8 = .ok (.ifCond .eq 13, 3) := by decide +kernel
theorem dX9_store_11 : decode cX9_store 11 = .ok (.iload_n 2, 1) := by decide +kernel
theorem dX9_store_12 : decode cX9_store 12 = .ok (.iconst 0, 1) := by decide +kernel
theorem dX9_store_13 : decode cX9_store 13 = .ok (.bipush 99, 2) := by decide +kernel
theorem dX9_store_15 : decode cX9_store 15 = .ok (.invokestatic 126, 3) := by decide +kernel
theorem dX9_store_18 : decode cX9_store 18 = .ok (.ifCond .ne 5, 3) := by decide +kernel
theorem dX9_store_21 : decode cX9_store 21 = .ok (.iconst 0, 1) := by decide +kernel
theorem dX9_store_22 : decode cX9_store 22 = .ok (.ireturn, 1) := by decide +kernel
theorem dX9_store_23 : decode cX9_store 23 = .ok (.aload_n 0, 1) := by decide +kernel
theorem dX9_store_24 : decode cX9_store 24 = .ok (.getfield 7, 3) := by decide +kernel
theorem dX9_store_27 : decode cX9_store 27 = .ok (.bipush 120, 2) := by decide +kernel
theorem dX9_store_29 : decode cX9_store 29 = .ok (.iload_n 1, 1) := by decide +kernel
theorem dX9_store_30 : decode cX9_store 30 = .ok (.iastore, 1) := by decide +kernel
theorem dX9_store_31 : decode cX9_store 31 = .ok (.aload_n 0, 1) := by decide +kernel
theorem dX9_store_32 : decode cX9_store 32 = .ok (.getfield 7, 3) := by decide +kernel
theorem dX9_store_35 : decode cX9_store 35 = .ok (.iconst 2, 1) := by decide +kernel
theorem dX9_store_36 : decode cX9_store 36 = .ok (.iload_n 2, 1) := by decide +kernel
theorem dX9_store_37 : decode cX9_store 37 = .ok (.iastore, 1) := by decide +kernel
theorem dX9_store_38 : decode cX9_store 38 = .ok (.iconst 1, 1) := by decide +kernel
theorem dX9_store_39 : decode cX9_store 39 = .ok (.ireturn, 1) := by decide +kernel
theorem dX9_seed_0 : decode cX9_seed 0 = .ok (.iload_n 1, 1) := by decide +kernel
theorem dX9_seed_1 : decode cX9_seed 1 = .ok (.iconst 0, 1) := by decide +kernel
theorem dX9_seed_2 : decode cX9_seed 2 = .ok (.sipush 9999, 3) := by decide +kernel
theorem dX9_seed_5 : decode cX9_seed 5 = .ok (.invokestatic 126, 3) := by decide +kernel
theorem dX9_seed_8 : decode cX9_seed 8 = .ok (.ifCond .ne 5, 3) := by decide +kernel
theorem dX9_seed_11 : decode cX9_seed 11 = .ok (.iconst 0, 1) := by decide +kernel
theorem dX9_seed_12 : decode cX9_seed 12 = .ok (.ireturn, 1) := by decide +kernel
theorem dX9_seed_13 : decode cX9_seed 13 = .ok (.aload_n 0, 1) := by decide +kernel
theorem dX9_seed_14 : decode cX9_seed 14 = .ok (.getfield 7, 3) := by decide +kernel
theorem dX9_seed_17 : decode cX9_seed 17 = .ok (.bipush 122, 2) := by decide +kernel
theorem dX9_seed_19 : decode cX9_seed 19 = .ok (.iload_n 1, 1) := by decide +kernel
theorem dX9_seed_20 : decode cX9_seed 20 = .ok (.bipush 11, 2) := by decide +kernel
theorem dX9_seed_22 : decode cX9_seed 22 = .ok (.imul, 1) := by decide +kernel
theorem dX9_seed_23 : decode cX9_seed 23 = .ok (.bipush 9, 2) := by decide +kernel
theorem dX9_seed_25 : decode cX9_seed 25 = .ok (.iadd, 1) := by decide +kernel
theorem dX9_seed_26 : decode cX9_seed 26 = .ok (.iastore, 1) := by decide +kernel
theorem dX9_seed_27 : decode cX9_seed 27 = .ok (.iconst 1, 1) := by decide +kernel
theorem dX9_seed_28 : decode cX9_seed 28 = .ok (.ireturn, 1) := by decide +kernel
theorem dX9_keepsStep_0 : decode cX9_keepsStep 0 = .ok (.aload_n 0, 1) := by decide +kernel
theorem dX9_keepsStep_1 : decode cX9_keepsStep 1 = .ok (.getfield 7, 3) := by decide +kernel
theorem dX9_keepsStep_4 : decode cX9_keepsStep 4 = .ok (.iconst 5, 1) := by decide +kernel
theorem dX9_keepsStep_5 : decode cX9_keepsStep 5 = .ok (.iaload, 1) := by decide +kernel
theorem dX9_keepsStep_6 : decode cX9_keepsStep 6 = .ok (.bipush 20, 2) := by decide +kernel
theorem dX9_keepsStep_8 : decode cX9_keepsStep 8 = .ok (.if_icmp .ne 43, 3) := by decide +kernel
theorem dX9_keepsStep_11 : decode cX9_keepsStep 11 = .ok (.sipush 130, 3) := by decide +kernel
theorem dX9_keepsStep_14 : decode cX9_keepsStep 14 = .ok (.istore_n 1, 1) := by decide +kernel
theorem dX9_keepsStep_15 : decode cX9_keepsStep 15 = .ok (.iload_n 1, 1) := by decide +kernel
theorem dX9_keepsStep_16 : decode cX9_keepsStep 16 = .ok (.sipush 1897, 3) := by decide +kernel
theorem dX9_keepsStep_19 : decode cX9_keepsStep 19 = .ok (.if_icmp .ge 24, 3) := by decide +kernel
theorem dX9_keepsStep_22 : decode cX9_keepsStep 22 = .ok (.aload_n 0, 1) := by decide +kernel
theorem dX9_keepsStep_23 : decode cX9_keepsStep 23 = .ok (.getfield 7, 3) := by decide +kernel
theorem dX9_keepsStep_26 : decode cX9_keepsStep 26 = .ok (.iload_n 1, 1) := by decide +kernel
theorem dX9_keepsStep_27 : decode cX9_keepsStep 27 = .ok (.aload_n 0, 1) := by decide +kernel
theorem dX9_keepsStep_28 : decode cX9_keepsStep 28 = .ok (.getfield 7, 3) := by decide +kernel
theorem dX9_keepsStep_31 : decode cX9_keepsStep 31 = .ok (.iload_n 1, 1) := by decide +kernel
theorem dX9_keepsStep_32 : decode cX9_keepsStep 32 = .ok (.bipush 93, 2) := by decide +kernel
theorem dX9_keepsStep_34 : decode cX9_keepsStep 34 = .ok (.iadd, 1) := by decide +kernel
theorem dX9_keepsStep_35 : decode cX9_keepsStep 35 = .ok (.iaload, 1) := by decide +kernel
theorem dX9_keepsStep_36 : decode cX9_keepsStep 36 = .ok (.iastore, 1) := by decide +kernel
theorem dX9_keepsStep_37 : decode cX9_keepsStep 37 = .ok (.iinc 1 1, 3) := by decide +kernel
theorem dX9_keepsStep_40 : decode cX9_keepsStep 40 = .ok (.goto (-25), 3) := by decide +kernel
theorem dX9_keepsStep_43 : decode cX9_keepsStep 43 = .ok (.aload_n 0, 1) := by decide +kernel
theorem dX9_keepsStep_44 : decode cX9_keepsStep 44 = .ok (.getfield 7, 3) := by decide +kernel
theorem dX9_keepsStep_47 : decode cX9_keepsStep 47 = .ok (.iconst 5, 1) := by decide +kernel
theorem dX9_keepsStep_48 : decode cX9_keepsStep 48 = .ok (.bipush 19, 2) := by decide +kernel
theorem dX9_keepsStep_50 : decode cX9_keepsStep 50 = .ok (.iastore, 1) := by decide +kernel
theorem dX9_keepsStep_51 : decode cX9_keepsStep 51 = .ok (.iconst 0, 1) := by decide +kernel
theorem dX9_keepsStep_52 : decode cX9_keepsStep 52 = .ok (.istore_n 1, 1) := by decide +kernel
theorem dX9_keepsStep_53 : decode cX9_keepsStep 53 = .ok (.iload_n 1, 1) := by decide +kernel
theorem dX9_keepsStep_54 : decode cX9_keepsStep 54 = .ok (.bipush 93, 2) := by decide +kernel
theorem dX9_keepsStep_56 : decode cX9_keepsStep 56 = .ok (.if_icmp .ge 38, 3) := by decide +kernel
theorem dX9_keepsStep_59 : decode cX9_keepsStep 59 = .ok (.aload_n 0, 1) := by decide +kernel
theorem dX9_keepsStep_60 : decode cX9_keepsStep 60 = .ok (.getfield 7, 3) := by decide +kernel
theorem dX9_keepsStep_63 : decode cX9_keepsStep 63 = .ok (.sipush 130, 3) := by decide +kernel
theorem dX9_keepsStep_66 : decode cX9_keepsStep 66 = .ok (.bipush 93, 2) := by decide +kernel
theorem dX9_keepsStep_68 : decode cX9_keepsStep 68 = .ok (.aload_n 0, 1) := by decide +kernel
theorem dX9_keepsStep_69 : decode cX9_keepsStep 69 = .ok (.getfield 7, 3) := by decide +kernel
theorem dX9_keepsStep_72 : decode cX9_keepsStep 72 = .ok (.iconst 5, 1) := by decide +kernel
theorem dX9_keepsStep_73 : decode cX9_keepsStep 73 = .ok (.iaload, 1) := by decide +kernel
theorem dX9_keepsStep_74 : decode cX9_keepsStep 74 = .ok (.imul, 1) := by decide +kernel
theorem dX9_keepsStep_75 : decode cX9_keepsStep 75 = .ok (.iadd, 1) := by decide +kernel
theorem dX9_keepsStep_76 : decode cX9_keepsStep 76 = .ok (.iload_n 1, 1) := by decide +kernel
theorem dX9_keepsStep_77 : decode cX9_keepsStep 77 = .ok (.iadd, 1) := by decide +kernel
theorem dX9_keepsStep_78 : decode cX9_keepsStep 78 = .ok (.aload_n 0, 1) := by decide +kernel
theorem dX9_keepsStep_79 : decode cX9_keepsStep 79 = .ok (.getfield 7, 3) := by decide +kernel
theorem dX9_keepsStep_82 : decode cX9_keepsStep 82 = .ok (.bipush 30, 2) := by decide +kernel
theorem dX9_keepsStep_84 : decode cX9_keepsStep 84 = .ok (.iload_n 1, 1) := by decide +kernel
theorem dX9_keepsStep_85 : decode cX9_keepsStep 85 = .ok (.iadd, 1) := by decide +kernel
theorem dX9_keepsStep_86 : decode cX9_keepsStep 86 = .ok (.iaload, 1) := by decide +kernel
theorem dX9_keepsStep_87 : decode cX9_keepsStep 87 = .ok (.iastore, 1) := by decide +kernel
theorem dX9_keepsStep_88 : decode cX9_keepsStep 88 = .ok (.iinc 1 1, 3) := by decide +kernel
theorem dX9_keepsStep_91 : decode cX9_keepsStep 91 = .ok (.goto (-38), 3) := by decide +kernel
theorem dX9_keepsStep_94 : decode cX9_keepsStep 94 = .ok (.aload_n 0, 1) := by decide +kernel
theorem dX9_keepsStep_95 : decode cX9_keepsStep 95 = .ok (.getfield 7, 3) := by decide +kernel
theorem dX9_keepsStep_98 : decode cX9_keepsStep 98 = .ok (.iconst 5, 1) := by decide +kernel
theorem dX9_keepsStep_99 : decode cX9_keepsStep 99 = .ok (.dup2, 1) := by decide +kernel
theorem dX9_keepsStep_100 : decode cX9_keepsStep 100 = .ok (.iaload, 1) := by decide +kernel
theorem dX9_keepsStep_101 : decode cX9_keepsStep 101 = .ok (.iconst 1, 1) := by decide +kernel
theorem dX9_keepsStep_102 : decode cX9_keepsStep 102 = .ok (.iadd, 1) := by decide +kernel
theorem dX9_keepsStep_103 : decode cX9_keepsStep 103 = .ok (.iastore, 1) := by decide +kernel
theorem dX9_keepsStep_104 : decode cX9_keepsStep 104 = .ok (.return_, 1) := by decide +kernel
theorem dX9_undo_0 : decode cX9_undo 0 = .ok (.aload_n 0, 1) := by decide +kernel
theorem dX9_undo_1 : decode cX9_undo 1 = .ok (.getfield 7, 3) := by decide +kernel
theorem dX9_undo_4 : decode cX9_undo 4 = .ok (.iconst 5, 1) := by decide +kernel
theorem dX9_undo_5 : decode cX9_undo 5 = .ok (.iaload, 1) := by decide +kernel
theorem dX9_undo_6 : decode cX9_undo 6 = .ok (.ifCond .ne 5, 3) := by decide +kernel
theorem dX9_undo_9 : decode cX9_undo 9 = .ok (.iconst (-1), 1) := by decide +kernel
theorem dX9_undo_10 : decode cX9_undo 10 = .ok (.ireturn, 1) := by decide +kernel
theorem dX9_undo_11 : decode cX9_undo 11 = .ok (.aload_n 0, 1) := by decide +kernel
theorem dX9_undo_12 : decode cX9_undo 12 = .ok (.getfield 7, 3) := by decide +kernel
theorem dX9_undo_15 : decode cX9_undo 15 = .ok (.iconst 5, 1) := by decide +kernel
theorem dX9_undo_16 : decode cX9_undo 16 = .ok (.dup2, 1) := by decide +kernel
theorem dX9_undo_17 : decode cX9_undo 17 = .ok (.iaload, 1) := by decide +kernel
theorem dX9_undo_18 : decode cX9_undo 18 = .ok (.iconst 1, 1) := by decide +kernel
theorem dX9_undo_19 : decode cX9_undo 19 = .ok (.isub, 1) := by decide +kernel
theorem dX9_undo_20 : decode cX9_undo 20 = .ok (.iastore, 1) := by decide +kernel
theorem dX9_undo_21 : decode cX9_undo 21 = .ok (.iconst 0, 1) := by decide +kernel
theorem dX9_undo_22 : decode cX9_undo 22 = .ok (.istore_n 1, 1) := by decide +kernel
theorem dX9_undo_23 : decode cX9_undo 23 = .ok (.iload_n 1, 1) := by decide +kernel
theorem dX9_undo_24 : decode cX9_undo 24 = .ok (.bipush 93, 2) := by decide +kernel
theorem dX9_undo_26 : decode cX9_undo 26 = .ok (.if_icmp .ge 38, 3) := by decide +kernel
theorem dX9_undo_29 : decode cX9_undo 29 = .ok (.aload_n 0, 1) := by decide +kernel
theorem dX9_undo_30 : decode cX9_undo 30 = .ok (.getfield 7, 3) := by decide +kernel
theorem dX9_undo_33 : decode cX9_undo 33 = .ok (.bipush 30, 2) := by decide +kernel
theorem dX9_undo_35 : decode cX9_undo 35 = .ok (.iload_n 1, 1) := by decide +kernel
theorem dX9_undo_36 : decode cX9_undo 36 = .ok (.iadd, 1) := by decide +kernel
theorem dX9_undo_37 : decode cX9_undo 37 = .ok (.aload_n 0, 1) := by decide +kernel
theorem dX9_undo_38 : decode cX9_undo 38 = .ok (.getfield 7, 3) := by decide +kernel
theorem dX9_undo_41 : decode cX9_undo 41 = .ok (.sipush 130, 3) := by decide +kernel
theorem dX9_undo_44 : decode cX9_undo 44 = .ok (.bipush 93, 2) := by decide +kernel
theorem dX9_undo_46 : decode cX9_undo 46 = .ok (.aload_n 0, 1) := by decide +kernel
theorem dX9_undo_47 : decode cX9_undo 47 = .ok (.getfield 7, 3) := by decide +kernel
theorem dX9_undo_50 : decode cX9_undo 50 = .ok (.iconst 5, 1) := by decide +kernel
theorem dX9_undo_51 : decode cX9_undo 51 = .ok (.iaload, 1) := by decide +kernel
theorem dX9_undo_52 : decode cX9_undo 52 = .ok (.imul, 1) := by decide +kernel
theorem dX9_undo_53 : decode cX9_undo 53 = .ok (.iadd, 1) := by decide +kernel
theorem dX9_undo_54 : decode cX9_undo 54 = .ok (.iload_n 1, 1) := by decide +kernel
theorem dX9_undo_55 : decode cX9_undo 55 = .ok (.iadd, 1) := by decide +kernel
theorem dX9_undo_56 : decode cX9_undo 56 = .ok (.iaload, 1) := by decide +kernel
theorem dX9_undo_57 : decode cX9_undo 57 = .ok (.iastore, 1) := by decide +kernel
theorem dX9_undo_58 : decode cX9_undo 58 = .ok (.iinc 1 1, 3) := by decide +kernel
theorem dX9_undo_61 : decode cX9_undo 61 = .ok (.goto (-38), 3) := by decide +kernel
theorem dX9_undo_64 : decode cX9_undo 64 = .ok (.aload_n 0, 1) := by decide +kernel
theorem dX9_undo_65 : decode cX9_undo 65 = .ok (.getfield 7, 3) := by decide +kernel
theorem dX9_undo_68 : decode cX9_undo 68 = .ok (.iconst 5, 1) := by decide +kernel
theorem dX9_undo_69 : decode cX9_undo 69 = .ok (.iaload, 1) := by decide +kernel
theorem dX9_undo_70 : decode cX9_undo 70 = .ok (.ireturn, 1) := by decide +kernel
theorem dX9_isHome_0 : decode cX9_isHome 0 = .ok (.aload_n 0, 1) := by decide +kernel
theorem dX9_isHome_1 : decode cX9_isHome 1 = .ok (.iload_n 1, 1) := by decide +kernel
theorem dX9_isHome_2 : decode cX9_isHome 2 = .ok (.invokevirtual 134, 3) := by decide +kernel
theorem dX9_isHome_5 : decode cX9_isHome 5 = .ok (.ifCond .eq 16, 3) := by decide +kernel
theorem dX9_isHome_8 : decode cX9_isHome 8 = .ok (.aload_n 0, 1) := by decide +kernel
theorem dX9_isHome_9 : decode cX9_isHome 9 = .ok (.iload_n 1, 1) := by decide +kernel
theorem dX9_isHome_10 : decode cX9_isHome 10 = .ok (.iconst 4, 1) := by decide +kernel
theorem dX9_isHome_11 : decode cX9_isHome 11 = .ok (.invokevirtual 138, 3) := by decide +kernel
theorem dX9_isHome_14 : decode cX9_isHome 14 = .ok (.ifCond .ne 7, 3) := by decide +kernel
theorem dX9_isHome_17 : decode cX9_isHome 17 = .ok (.iconst 1, 1) := by decide +kernel
theorem dX9_isHome_18 : decode cX9_isHome 18 = .ok (.goto 4, 3) := by decide +kernel
theorem dX9_isHome_21 : decode cX9_isHome 21 = .ok (.iconst 0, 1) := by decide +kernel
theorem dX9_isHome_22 : decode cX9_isHome 22 = .ok (.ireturn, 1) := by decide +kernel
theorem dX9_isQuill_0 : decode cX9_isQuill 0 = .ok (.iload_n 0, 1) := by decide +kernel
theorem dX9_isQuill_1 : decode cX9_isQuill 1 = .ok (.iconst 0, 1) := by decide +kernel
theorem dX9_isQuill_2 : decode cX9_isQuill 2 = .ok (.iconst 5, 1) := by decide +kernel
theorem dX9_isQuill_3 : decode cX9_isQuill 3 = .ok (.invokestatic 126, 3) := by decide +kernel
theorem dX9_isQuill_6 : decode cX9_isQuill 6 = .ok (.ifCond .eq 16, 3) := by decide +kernel
theorem dX9_isQuill_9 : decode cX9_isQuill 9 = .ok (.iload_n 1, 1) := by decide +kernel
theorem dX9_isQuill_10 : decode cX9_isQuill 10 = .ok (.iconst 0, 1) := by decide +kernel
theorem dX9_isQuill_11 : decode cX9_isQuill 11 = .ok (.iconst 2, 1) := by decide +kernel
theorem dX9_isQuill_12 : decode cX9_isQuill 12 = .ok (.invokestatic 126, 3) := by decide +kernel
theorem dX9_isQuill_15 : decode cX9_isQuill 15 = .ok (.ifCond .eq 7, 3) := by decide +kernel
theorem dX9_isQuill_18 : decode cX9_isQuill 18 = .ok (.iconst 1, 1) := by decide +kernel
theorem dX9_isQuill_19 : decode cX9_isQuill 19 = .ok (.goto 4, 3) := by decide +kernel
theorem dX9_isQuill_22 : decode cX9_isQuill 22 = .ok (.iconst 0, 1) := by decide +kernel
theorem dX9_isQuill_23 : decode cX9_isQuill 23 = .ok (.ireturn, 1) := by decide +kernel
theorem dX9_fill_0 : decode cX9_fill 0 = .ok (.aload_n 0, 1) := by decide +kernel
theorem dX9_fill_1 : decode cX9_fill 1 = .ok (.iload_n 1, 1) := by decide +kernel
theorem dX9_fill_2 : decode cX9_fill 2 = .ok (.invokevirtual 142, 3) := by decide +kernel
theorem dX9_fill_5 : decode cX9_fill 5 = .ok (.ifCond .eq 38, 3) := by decide +kernel
theorem dX9_fill_8 : decode cX9_fill 8 = .ok (.aload_n 0, 1) := by decide +kernel
theorem dX9_fill_9 : decode cX9_fill 9 = .ok (.iload_n 1, 1) := by decide +kernel
theorem dX9_fill_10 : decode cX9_fill 10 = .ok (.iconst 2, 1) := by decide +kernel
theorem dX9_fill_11 : decode cX9_fill 11 = .ok (.invokevirtual 138, 3) := by decide +kernel
theorem dX9_fill_14 : decode cX9_fill 14 = .ok (.iconst (-1), 1) := by decide +kernel
theorem dX9_fill_15 : decode cX9_fill 15 = .ok (.if_icmp .ne 28, 3) := by decide +kernel
theorem dX9_fill_18 : decode cX9_fill 18 = .ok (.iload_n 2, 1) := by decide +kernel
theorem dX9_fill_19 : decode cX9_fill 19 = .ok (.iload_n 3, 1) := by decide +kernel
theorem dX9_fill_20 : decode cX9_fill 20 = .ok (.invokestatic 145, 3) := by decide +kernel
theorem dX9_fill_23 : decode cX9_fill 23 = .ok (.ifCond .eq 20, 3) := by decide +kernel
theorem dX9_fill_26 : decode cX9_fill 26 = .ok (.aload_n 0, 1) := by decide +kernel
theorem dX9_fill_27 : decode cX9_fill 27 = .ok (.iload_n 1, 1) := by decide +kernel
theorem dX9_fill_28 : decode cX9_fill 28 = .ok (.iload_n 2, 1) := by decide +kernel
theorem dX9_fill_29 : decode cX9_fill 29 = .ok (.iload_n 3, 1) := by decide +kernel
theorem dX9_fill_30 : decode cX9_fill 30 = .ok (.invokevirtual 149, 3) := by decide +kernel
theorem dX9_fill_33 : decode cX9_fill 33 = .ok (.aload_n 0, 1) := by decide +kernel
theorem dX9_fill_34 : decode cX9_fill 34 = .ok (.getfield 7, 3) := by decide +kernel
theorem dX9_fill_37 : decode cX9_fill 37 = .ok (.bipush 120, 2) := by decide +kernel
theorem dX9_fill_39 : decode cX9_fill 39 = .ok (.iaload, 1) := by decide +kernel
theorem dX9_fill_40 : decode cX9_fill 40 = .ok (.if_icmp .le 5, 3) := by decide +kernel
theorem dX9_fill_43 : decode cX9_fill 43 = .ok (.iconst (-1), 1) := by decide +kernel
theorem dX9_fill_44 : decode cX9_fill 44 = .ok (.ireturn, 1) := by decide +kernel
theorem dX9_fill_45 : decode cX9_fill 45 = .ok (.aload_n 0, 1) := by decide +kernel
theorem dX9_fill_46 : decode cX9_fill 46 = .ok (.iload_n 1, 1) := by decide +kernel
theorem dX9_fill_47 : decode cX9_fill 47 = .ok (.iload_n 2, 1) := by decide +kernel
theorem dX9_fill_48 : decode cX9_fill 48 = .ok (.iload_n 3, 1) := by decide +kernel
theorem dX9_fill_49 : decode cX9_fill 49 = .ok (.invokevirtual 149, 3) := by decide +kernel
theorem dX9_fill_52 : decode cX9_fill 52 = .ok (.istore 4, 2) := by decide +kernel
theorem dX9_fill_54 : decode cX9_fill 54 = .ok (.aload_n 0, 1) := by decide +kernel
theorem dX9_fill_55 : decode cX9_fill 55 = .ok (.invokevirtual 153, 3) := by decide +kernel
theorem dX9_fill_58 : decode cX9_fill 58 = .ok (.aload_n 0, 1) := by decide +kernel
theorem dX9_fill_59 : decode cX9_fill 59 = .ok (.iload_n 1, 1) := by decide +kernel
theorem dX9_fill_60 : decode cX9_fill 60 = .ok (.iconst 2, 1) := by decide +kernel
theorem dX9_fill_61 : decode cX9_fill 61 = .ok (.iload_n 2, 1) := by decide +kernel
theorem dX9_fill_62 : decode cX9_fill 62 = .ok (.invokevirtual 156, 3) := by decide +kernel
theorem dX9_fill_65 : decode cX9_fill 65 = .ok (.aload_n 0, 1) := by decide +kernel
theorem dX9_fill_66 : decode cX9_fill 66 = .ok (.iload_n 1, 1) := by decide +kernel
theorem dX9_fill_67 : decode cX9_fill 67 = .ok (.iconst 3, 1) := by decide +kernel
theorem dX9_fill_68 : decode cX9_fill 68 = .ok (.iload_n 3, 1) := by decide +kernel
theorem dX9_fill_69 : decode cX9_fill 69 = .ok (.invokevirtual 156, 3) := by decide +kernel
theorem dX9_fill_72 : decode cX9_fill 72 = .ok (.aload_n 0, 1) := by decide +kernel
theorem dX9_fill_73 : decode cX9_fill 73 = .ok (.getfield 7, 3) := by decide +kernel
theorem dX9_fill_76 : decode cX9_fill 76 = .ok (.bipush 120, 2) := by decide +kernel
theorem dX9_fill_78 : decode cX9_fill 78 = .ok (.dup2, 1) := by decide +kernel
theorem dX9_fill_79 : decode cX9_fill 79 = .ok (.iaload, 1) := by decide +kernel
theorem dX9_fill_80 : decode cX9_fill 80 = .ok (.iload 4, 2) := by decide +kernel
theorem dX9_fill_82 : decode cX9_fill 82 = .ok (.isub, 1) := by decide +kernel
theorem dX9_fill_83 : decode cX9_fill 83 = .ok (.iastore, 1) := by decide +kernel
theorem dX9_fill_84 : decode cX9_fill 84 = .ok (.aload_n 0, 1) := by decide +kernel
theorem dX9_fill_85 : decode cX9_fill 85 = .ok (.getfield 7, 3) := by decide +kernel
theorem dX9_fill_88 : decode cX9_fill 88 = .ok (.bipush 120, 2) := by decide +kernel
theorem dX9_fill_90 : decode cX9_fill 90 = .ok (.iaload, 1) := by decide +kernel
theorem dX9_fill_91 : decode cX9_fill 91 = .ok (.ireturn, 1) := by decide +kernel
theorem dX9_send_0 : decode cX9_send 0 = .ok (.aload_n 0, 1) := by decide +kernel
theorem dX9_send_1 : decode cX9_send 1 = .ok (.iload_n 1, 1) := by decide +kernel
theorem dX9_send_2 : decode cX9_send 2 = .ok (.invokevirtual 142, 3) := by decide +kernel
theorem dX9_send_5 : decode cX9_send 5 = .ok (.ifCond .eq 22, 3) := by decide +kernel
theorem dX9_send_8 : decode cX9_send 8 = .ok (.aload_n 0, 1) := by decide +kernel
theorem dX9_send_9 : decode cX9_send 9 = .ok (.iload_n 1, 1) := by decide +kernel
theorem dX9_send_10 : decode cX9_send 10 = .ok (.bipush 8, 2) := by decide +kernel
theorem dX9_send_12 : decode cX9_send 12 = .ok (.invokevirtual 138, 3) := by decide +kernel
theorem dX9_send_15 : decode cX9_send 15 = .ok (.iconst 1, 1) := by decide +kernel
theorem dX9_send_16 : decode cX9_send 16 = .ok (.if_icmp .eq 11, 3) := by decide +kernel
theorem dX9_send_19 : decode cX9_send 19 = .ok (.aload_n 0, 1) := by decide +kernel
theorem dX9_send_20 : decode cX9_send 20 = .ok (.iload_n 2, 1) := by decide +kernel
theorem dX9_send_21 : decode cX9_send 21 = .ok (.invokevirtual 160, 3) := by decide +kernel
theorem dX9_send_24 : decode cX9_send 24 = .ok (.ifCond .ne 5, 3) := by decide +kernel
theorem dX9_send_27 : decode cX9_send 27 = .ok (.iconst (-1), 1) := by decide +kernel
theorem dX9_send_28 : decode cX9_send 28 = .ok (.ireturn, 1) := by decide +kernel
theorem dX9_send_29 : decode cX9_send 29 = .ok (.aload_n 0, 1) := by decide +kernel
theorem dX9_send_30 : decode cX9_send 30 = .ok (.invokevirtual 153, 3) := by decide +kernel
theorem dX9_send_33 : decode cX9_send 33 = .ok (.aload_n 0, 1) := by decide +kernel
theorem dX9_send_34 : decode cX9_send 34 = .ok (.iload_n 1, 1) := by decide +kernel
theorem dX9_send_35 : decode cX9_send 35 = .ok (.iconst 4, 1) := by decide +kernel
theorem dX9_send_36 : decode cX9_send 36 = .ok (.iconst 1, 1) := by decide +kernel
theorem dX9_send_37 : decode cX9_send 37 = .ok (.invokevirtual 156, 3) := by decide +kernel
theorem dX9_send_40 : decode cX9_send 40 = .ok (.aload_n 0, 1) := by decide +kernel
theorem dX9_send_41 : decode cX9_send 41 = .ok (.iload_n 1, 1) := by decide +kernel
theorem dX9_send_42 : decode cX9_send 42 = .ok (.iconst 5, 1) := by decide +kernel
theorem dX9_send_43 : decode cX9_send 43 = .ok (.iload_n 2, 1) := by decide +kernel
theorem dX9_send_44 : decode cX9_send 44 = .ok (.invokevirtual 156, 3) := by decide +kernel
theorem dX9_send_47 : decode cX9_send 47 = .ok (.aload_n 0, 1) := by decide +kernel
theorem dX9_send_48 : decode cX9_send 48 = .ok (.iload_n 1, 1) := by decide +kernel
theorem dX9_send_49 : decode cX9_send 49 = .ok (.bipush 6, 2) := by decide +kernel
theorem dX9_send_51 : decode cX9_send 51 = .ok (.aload_n 0, 1) := by decide +kernel
theorem dX9_send_52 : decode cX9_send 52 = .ok (.getfield 7, 3) := by decide +kernel
theorem dX9_send_55 : decode cX9_send 55 = .ok (.bipush 121, 2) := by decide +kernel
theorem dX9_send_57 : decode cX9_send 57 = .ok (.iaload, 1) := by decide +kernel
theorem dX9_send_58 : decode cX9_send 58 = .ok (.aload_n 0, 1) := by decide +kernel
theorem dX9_send_59 : decode cX9_send 59 = .ok (.getfield 7, 3) := by decide +kernel
theorem dX9_send_62 : decode cX9_send 62 = .ok (.bipush 10, 2) := by decide +kernel
theorem dX9_send_64 : decode cX9_send 64 = .ok (.iconst 3, 1) := by decide +kernel
theorem dX9_send_65 : decode cX9_send 65 = .ok (.iload_n 2, 1) := by decide +kernel
theorem dX9_send_66 : decode cX9_send 66 = .ok (.imul, 1) := by decide +kernel
theorem dX9_send_67 : decode cX9_send 67 = .ok (.iadd, 1) := by decide +kernel
theorem dX9_send_68 : decode cX9_send 68 = .ok (.iaload, 1) := by decide +kernel
theorem dX9_send_69 : decode cX9_send 69 = .ok (.iadd, 1) := by decide +kernel
theorem dX9_send_70 : decode cX9_send 70 = .ok (.invokevirtual 156, 3) := by decide +kernel
theorem dX9_send_73 : decode cX9_send 73 = .ok (.aload_n 0, 1) := by decide +kernel
theorem dX9_send_74 : decode cX9_send 74 = .ok (.iload_n 1, 1) := by decide +kernel
theorem dX9_send_75 : decode cX9_send 75 = .ok (.bipush 6, 2) := by decide +kernel
theorem dX9_send_77 : decode cX9_send 77 = .ok (.invokevirtual 138, 3) := by decide +kernel
theorem dX9_send_80 : decode cX9_send 80 = .ok (.ireturn, 1) := by decide +kernel
theorem dX9_fatten_0 : decode cX9_fatten 0 = .ok (.aload_n 0, 1) := by decide +kernel
theorem dX9_fatten_1 : decode cX9_fatten 1 = .ok (.iload_n 1, 1) := by decide +kernel
theorem dX9_fatten_2 : decode cX9_fatten 2 = .ok (.invokevirtual 142, 3) := by decide +kernel
theorem dX9_fatten_5 : decode cX9_fatten 5 = .ok (.ifCond .eq 24, 3) := by decide +kernel
theorem dX9_fatten_8 : decode cX9_fatten 8 = .ok (.aload_n 0, 1) := by decide +kernel
theorem dX9_fatten_9 : decode cX9_fatten 9 = .ok (.iload_n 1, 1) := by decide +kernel
theorem dX9_fatten_10 : decode cX9_fatten 10 = .ok (.iconst 0, 1) := by decide +kernel
theorem dX9_fatten_11 : decode cX9_fatten 11 = .ok (.invokevirtual 138, 3) := by decide +kernel
theorem dX9_fatten_14 : decode cX9_fatten 14 = .ok (.bipush 20, 2) := by decide +kernel
theorem dX9_fatten_16 : decode cX9_fatten 16 = .ok (.if_icmp .eq 13, 3) := by decide +kernel
theorem dX9_fatten_19 : decode cX9_fatten 19 = .ok (.aload_n 0, 1) := by decide +kernel
theorem dX9_fatten_20 : decode cX9_fatten 20 = .ok (.getfield 7, 3) := by decide +kernel
theorem dX9_fatten_23 : decode cX9_fatten 23 = .ok (.bipush 120, 2) := by decide +kernel
theorem dX9_fatten_25 : decode cX9_fatten 25 = .ok (.iaload, 1) := by decide +kernel
theorem dX9_fatten_26 : decode cX9_fatten 26 = .ok (.ifCond .ne 5, 3) := by decide +kernel
theorem dX9_fatten_29 : decode cX9_fatten 29 = .ok (.iconst (-1), 1) := by decide +kernel
theorem dX9_fatten_30 : decode cX9_fatten 30 = .ok (.ireturn, 1) := by decide +kernel
theorem dX9_fatten_31 : decode cX9_fatten 31 = .ok (.aload_n 0, 1) := by decide +kernel
theorem dX9_fatten_32 : decode cX9_fatten 32 = .ok (.invokevirtual 153, 3) := by decide +kernel
theorem dX9_fatten_35 : decode cX9_fatten 35 = .ok (.aload_n 0, 1) := by decide +kernel
theorem dX9_fatten_36 : decode cX9_fatten 36 = .ok (.iload_n 1, 1) := by decide +kernel
theorem dX9_fatten_37 : decode cX9_fatten 37 = .ok (.iconst 0, 1) := by decide +kernel
theorem dX9_fatten_38 : decode cX9_fatten 38 = .ok (.aload_n 0, 1) := by decide +kernel
theorem dX9_fatten_39 : decode cX9_fatten 39 = .ok (.iload_n 1, 1) := by decide +kernel
theorem dX9_fatten_40 : decode cX9_fatten 40 = .ok (.iconst 0, 1) := by decide +kernel
theorem dX9_fatten_41 : decode cX9_fatten 41 = .ok (.invokevirtual 138, 3) := by decide +kernel
theorem dX9_fatten_44 : decode cX9_fatten 44 = .ok (.iconst 1, 1) := by decide +kernel
theorem dX9_fatten_45 : decode cX9_fatten 45 = .ok (.iadd, 1) := by decide +kernel
theorem dX9_fatten_46 : decode cX9_fatten 46 = .ok (.invokevirtual 156, 3) := by decide +kernel
theorem dX9_fatten_49 : decode cX9_fatten 49 = .ok (.aload_n 0, 1) := by decide +kernel
theorem dX9_fatten_50 : decode cX9_fatten 50 = .ok (.getfield 7, 3) := by decide +kernel
theorem dX9_fatten_53 : decode cX9_fatten 53 = .ok (.bipush 120, 2) := by decide +kernel
theorem dX9_fatten_55 : decode cX9_fatten 55 = .ok (.dup2, 1) := by decide +kernel
theorem dX9_fatten_56 : decode cX9_fatten 56 = .ok (.iaload, 1) := by decide +kernel
theorem dX9_fatten_57 : decode cX9_fatten 57 = .ok (.iconst 1, 1) := by decide +kernel
theorem dX9_fatten_58 : decode cX9_fatten 58 = .ok (.isub, 1) := by decide +kernel
theorem dX9_fatten_59 : decode cX9_fatten 59 = .ok (.iastore, 1) := by decide +kernel
theorem dX9_fatten_60 : decode cX9_fatten 60 = .ok (.aload_n 0, 1) := by decide +kernel
theorem dX9_fatten_61 : decode cX9_fatten 61 = .ok (.iload_n 1, 1) := by decide +kernel
theorem dX9_fatten_62 : decode cX9_fatten 62 = .ok (.iconst 0, 1) := by decide +kernel
theorem dX9_fatten_63 : decode cX9_fatten 63 = .ok (.invokevirtual 138, 3) := by decide +kernel
theorem dX9_fatten_66 : decode cX9_fatten 66 = .ok (.ireturn, 1) := by decide +kernel
theorem dX9_pluck_0 : decode cX9_pluck 0 = .ok (.aload_n 0, 1) := by decide +kernel
theorem dX9_pluck_1 : decode cX9_pluck 1 = .ok (.iload_n 1, 1) := by decide +kernel
theorem dX9_pluck_2 : decode cX9_pluck 2 = .ok (.invokevirtual 142, 3) := by decide +kernel
theorem dX9_pluck_5 : decode cX9_pluck 5 = .ok (.ifCond .eq 12, 3) := by decide +kernel
theorem dX9_pluck_8 : decode cX9_pluck 8 = .ok (.aload_n 0, 1) := by decide +kernel
theorem dX9_pluck_9 : decode cX9_pluck 9 = .ok (.iload_n 1, 1) := by decide +kernel
theorem dX9_pluck_10 : decode cX9_pluck 10 = .ok (.iconst 1, 1) := by decide +kernel
theorem dX9_pluck_11 : decode cX9_pluck 11 = .ok (.invokevirtual 138, 3) := by decide +kernel
theorem dX9_pluck_14 : decode cX9_pluck 14 = .ok (.ifCond .ne 5, 3) := by decide +kernel
theorem dX9_pluck_17 : decode cX9_pluck 17 = .ok (.iconst (-1), 1) := by decide +kernel
theorem dX9_pluck_18 : decode cX9_pluck 18 = .ok (.ireturn, 1) := by decide +kernel
theorem dX9_pluck_19 : decode cX9_pluck 19 = .ok (.aload_n 0, 1) := by decide +kernel
theorem dX9_pluck_20 : decode cX9_pluck 20 = .ok (.invokevirtual 153, 3) := by decide +kernel
theorem dX9_pluck_23 : decode cX9_pluck 23 = .ok (.aload_n 0, 1) := by decide +kernel
theorem dX9_pluck_24 : decode cX9_pluck 24 = .ok (.iload_n 1, 1) := by decide +kernel
theorem dX9_pluck_25 : decode cX9_pluck 25 = .ok (.iconst 1, 1) := by decide +kernel
theorem dX9_pluck_26 : decode cX9_pluck 26 = .ok (.aload_n 0, 1) := by decide +kernel
theorem dX9_pluck_27 : decode cX9_pluck 27 = .ok (.iload_n 1, 1) := by decide +kernel
theorem dX9_pluck_28 : decode cX9_pluck 28 = .ok (.iconst 1, 1) := by decide +kernel
theorem dX9_pluck_29 : decode cX9_pluck 29 = .ok (.invokevirtual 138, 3) := by decide +kernel
theorem dX9_pluck_32 : decode cX9_pluck 32 = .ok (.iconst 1, 1) := by decide +kernel
theorem dX9_pluck_33 : decode cX9_pluck 33 = .ok (.isub, 1) := by decide +kernel
theorem dX9_pluck_34 : decode cX9_pluck 34 = .ok (.invokevirtual 156, 3) := by decide +kernel
theorem dX9_pluck_37 : decode cX9_pluck 37 = .ok (.aload_n 0, 1) := by decide +kernel
theorem dX9_pluck_38 : decode cX9_pluck 38 = .ok (.iload_n 1, 1) := by decide +kernel
theorem dX9_pluck_39 : decode cX9_pluck 39 = .ok (.iconst 1, 1) := by decide +kernel
theorem dX9_pluck_40 : decode cX9_pluck 40 = .ok (.invokevirtual 138, 3) := by decide +kernel
theorem dX9_pluck_43 : decode cX9_pluck 43 = .ok (.ireturn, 1) := by decide +kernel
theorem dX9_name_0 : decode cX9_name 0 = .ok (.aload_n 0, 1) := by decide +kernel
theorem dX9_name_1 : decode cX9_name 1 = .ok (.iload_n 1, 1) := by decide +kernel
theorem dX9_name_2 : decode cX9_name 2 = .ok (.invokevirtual 142, 3) := by decide +kernel
theorem dX9_name_5 : decode cX9_name 5 = .ok (.ifCond .eq 14, 3) := by decide +kernel
theorem dX9_name_8 : decode cX9_name 8 = .ok (.aload_n 0, 1) := by decide +kernel
theorem dX9_name_9 : decode cX9_name 9 = .ok (.iload_n 1, 1) := by decide +kernel
theorem dX9_name_10 : decode cX9_name 10 = .ok (.bipush 8, 2) := by decide +kernel
theorem dX9_name_12 : decode cX9_name 12 = .ok (.invokevirtual 138, 3) := by decide +kernel
theorem dX9_name_15 : decode cX9_name 15 = .ok (.iconst 1, 1) := by decide +kernel
theorem dX9_name_16 : decode cX9_name 16 = .ok (.if_icmp .ne 5, 3) := by decide +kernel
theorem dX9_name_19 : decode cX9_name 19 = .ok (.iconst 0, 1) := by decide +kernel
theorem dX9_name_20 : decode cX9_name 20 = .ok (.ireturn, 1) := by decide +kernel
theorem dX9_name_21 : decode cX9_name 21 = .ok (.aload_n 0, 1) := by decide +kernel
theorem dX9_name_22 : decode cX9_name 22 = .ok (.invokevirtual 153, 3) := by decide +kernel
theorem dX9_name_25 : decode cX9_name 25 = .ok (.aload_n 0, 1) := by decide +kernel
theorem dX9_name_26 : decode cX9_name 26 = .ok (.iload_n 1, 1) := by decide +kernel
theorem dX9_name_27 : decode cX9_name 27 = .ok (.bipush 8, 2) := by decide +kernel
theorem dX9_name_29 : decode cX9_name 29 = .ok (.iconst 1, 1) := by decide +kernel
theorem dX9_name_30 : decode cX9_name 30 = .ok (.invokevirtual 156, 3) := by decide +kernel
theorem dX9_name_33 : decode cX9_name 33 = .ok (.iconst 1, 1) := by decide +kernel
theorem dX9_name_34 : decode cX9_name 34 = .ok (.ireturn, 1) := by decide +kernel
theorem dX9_put_0 : decode cX9_put 0 = .ok (.bipush 24, 2) := by decide +kernel
theorem dX9_put_2 : decode cX9_put 2 = .ok (.istore_n 2, 1) := by decide +kernel
theorem dX9_put_3 : decode cX9_put 3 = .ok (.iload_n 2, 1) := by decide +kernel
theorem dX9_put_4 : decode cX9_put 4 = .ok (.ifCond .lt 34, 3) := by decide +kernel
theorem dX9_put_7 : decode cX9_put 7 = .ok (.aload_n 0, 1) := by decide +kernel
theorem dX9_put_8 : decode cX9_put 8 = .ok (.getfield 16, 3) := by decide +kernel
theorem dX9_put_11 : decode cX9_put 11 = .ok (.aload_n 0, 1) := by decide +kernel
theorem dX9_put_12 : decode cX9_put 12 = .ok (.getfield 163, 3) := by decide +kernel
theorem dX9_put_15 : decode cX9_put 15 = .ok (.iload_n 1, 1) := by decide +kernel
theorem dX9_put_16 : decode cX9_put 16 = .ok (.iload_n 2, 1) := by decide +kernel
theorem dX9_put_17 : decode cX9_put 17 = .ok (.ishr, 1) := by decide +kernel
theorem dX9_put_18 : decode cX9_put 18 = .ok (.i2b, 1) := by decide +kernel
theorem dX9_put_19 : decode cX9_put 19 = .ok (.bastore, 1) := by decide +kernel
theorem dX9_put_20 : decode cX9_put 20 = .ok (.aload_n 0, 1) := by decide +kernel
theorem dX9_put_21 : decode cX9_put 21 = .ok (.dup, 1) := by decide +kernel
theorem dX9_put_22 : decode cX9_put 22 = .ok (.getfield 163, 3) := by decide +kernel
theorem dX9_put_25 : decode cX9_put 25 = .ok (.iconst 1, 1) := by decide +kernel
theorem dX9_put_26 : decode cX9_put 26 = .ok (.iadd, 1) := by decide +kernel
theorem dX9_put_27 : decode cX9_put 27 = .ok (.putfield 163, 3) := by decide +kernel
theorem dX9_put_30 : decode cX9_put 30 = .ok (.iload_n 2, 1) := by decide +kernel
theorem dX9_put_31 : decode cX9_put 31 = .ok (.bipush 8, 2) := by decide +kernel
theorem dX9_put_33 : decode cX9_put 33 = .ok (.isub, 1) := by decide +kernel
theorem dX9_put_34 : decode cX9_put 34 = .ok (.istore_n 2, 1) := by decide +kernel
theorem dX9_put_35 : decode cX9_put 35 = .ok (.goto (-32), 3) := by decide +kernel
theorem dX9_put_38 : decode cX9_put 38 = .ok (.return_, 1) := by decide +kernel
theorem dX9_feed_0 : decode cX9_feed 0 = .ok (.aload_n 0, 1) := by decide +kernel
theorem dX9_feed_1 : decode cX9_feed 1 = .ok (.getfield 163, 3) := by decide +kernel
theorem dX9_feed_4 : decode cX9_feed 4 = .ok (.bipush 20, 2) := by decide +kernel
theorem dX9_feed_6 : decode cX9_feed 6 = .ok (.iadd, 1) := by decide +kernel
theorem dX9_feed_7 : decode cX9_feed 7 = .ok (.sipush 300, 3) := by decide +kernel
theorem dX9_feed_10 : decode cX9_feed 10 = .ok (.if_icmp .le 5, 3) := by decide +kernel
theorem dX9_feed_13 : decode cX9_feed 13 = .ok (.iconst (-1), 1) := by decide +kernel
theorem dX9_feed_14 : decode cX9_feed 14 = .ok (.ireturn, 1) := by decide +kernel
theorem dX9_feed_15 : decode cX9_feed 15 = .ok (.aload_n 0, 1) := by decide +kernel
theorem dX9_feed_16 : decode cX9_feed 16 = .ok (.iload_n 1, 1) := by decide +kernel
theorem dX9_feed_17 : decode cX9_feed 17 = .ok (.invokevirtual 166, 3) := by decide +kernel
theorem dX9_feed_20 : decode cX9_feed 20 = .ok (.aload_n 0, 1) := by decide +kernel
theorem dX9_feed_21 : decode cX9_feed 21 = .ok (.iload_n 2, 1) := by decide +kernel
theorem dX9_feed_22 : decode cX9_feed 22 = .ok (.invokevirtual 166, 3) := by decide +kernel
theorem dX9_feed_25 : decode cX9_feed 25 = .ok (.aload_n 0, 1) := by decide +kernel
theorem dX9_feed_26 : decode cX9_feed 26 = .ok (.iload_n 3, 1) := by decide +kernel
theorem dX9_feed_27 : decode cX9_feed 27 = .ok (.invokevirtual 166, 3) := by decide +kernel
theorem dX9_feed_30 : decode cX9_feed 30 = .ok (.aload_n 0, 1) := by decide +kernel
theorem dX9_feed_31 : decode cX9_feed 31 = .ok (.iload 4, 2) := by decide +kernel
theorem dX9_feed_33 : decode cX9_feed 33 = .ok (.invokevirtual 166, 3) := by decide +kernel
theorem dX9_feed_36 : decode cX9_feed 36 = .ok (.aload_n 0, 1) := by decide +kernel
theorem dX9_feed_37 : decode cX9_feed 37 = .ok (.iload 5, 2) := by decide +kernel
theorem dX9_feed_39 : decode cX9_feed 39 = .ok (.invokevirtual 166, 3) := by decide +kernel
theorem dX9_feed_42 : decode cX9_feed 42 = .ok (.aload_n 0, 1) := by decide +kernel
theorem dX9_feed_43 : decode cX9_feed 43 = .ok (.getfield 163, 3) := by decide +kernel
theorem dX9_feed_46 : decode cX9_feed 46 = .ok (.ireturn, 1) := by decide +kernel
theorem dX9_end_0 : decode cX9_end 0 = .ok (.iload_n 1, 1) := by decide +kernel
theorem dX9_end_1 : decode cX9_end 1 = .ok (.iconst 0, 1) := by decide +kernel
theorem dX9_end_2 : decode cX9_end 2 = .ok (.aload_n 0, 1) := by decide +kernel
theorem dX9_end_3 : decode cX9_end 3 = .ok (.getfield 163, 3) := by decide +kernel
theorem dX9_end_6 : decode cX9_end 6 = .ok (.invokestatic 126, 3) := by decide +kernel
theorem dX9_end_9 : decode cX9_end 9 = .ok (.ifCond .ne 5, 3) := by decide +kernel
theorem dX9_end_12 : decode cX9_end 12 = .ok (.iconst (-1), 1) := by decide +kernel
theorem dX9_end_13 : decode cX9_end 13 = .ok (.ireturn, 1) := by decide +kernel
theorem dX9_end_14 : decode cX9_end 14 = .ok (.aload_n 0, 1) := by decide +kernel
theorem dX9_end_15 : decode cX9_end 15 = .ok (.iload_n 1, 1) := by decide +kernel
theorem dX9_end_16 : decode cX9_end 16 = .ok (.putfield 163, 3) := by decide +kernel
theorem dX9_end_19 : decode cX9_end 19 = .ok (.iload_n 1, 1) := by decide +kernel
theorem dX9_end_20 : decode cX9_end 20 = .ok (.ireturn, 1) := by decide +kernel
theorem dX9_isLetter_0 : decode cX9_isLetter 0 = .ok (.iload_n 0, 1) := by decide +kernel
theorem dX9_isLetter_1 : decode cX9_isLetter 1 = .ok (.bipush 97, 2) := by decide +kernel
theorem dX9_isLetter_3 : decode cX9_isLetter 3 = .ok (.bipush 122, 2) := by decide +kernel
theorem dX9_isLetter_5 : decode cX9_isLetter 5 = .ok (.invokestatic 126, 3) := by decide +kernel
theorem dX9_isLetter_8 : decode cX9_isLetter 8 = .ok (.ifCond .ne 14, 3) := by decide +kernel
theorem dX9_isLetter_11 : decode cX9_isLetter 11 = .ok (.iload_n 0, 1) := by decide +kernel
theorem dX9_isLetter_12 : decode cX9_isLetter 12 = .ok (.bipush 65, 2) := by decide +kernel
theorem dX9_isLetter_14 : decode cX9_isLetter 14 = .ok (.bipush 90, 2) := by decide +kernel
theorem dX9_isLetter_16 : decode cX9_isLetter 16 = .ok (.invokestatic 126, 3) := by decide +kernel
theorem dX9_isLetter_19 : decode cX9_isLetter 19 = .ok (.ifCond .eq 7, 3) := by decide +kernel
theorem dX9_isLetter_22 : decode cX9_isLetter 22 = .ok (.iconst 1, 1) := by decide +kernel
theorem dX9_isLetter_23 : decode cX9_isLetter 23 = .ok (.goto 4, 3) := by decide +kernel
theorem dX9_isLetter_26 : decode cX9_isLetter 26 = .ok (.iconst 0, 1) := by decide +kernel
theorem dX9_isLetter_27 : decode cX9_isLetter 27 = .ok (.ireturn, 1) := by decide +kernel
theorem dX9_wordOf_0 : decode cX9_wordOf 0 = .ok (.lload_n 0, 1) := by decide +kernel
theorem dX9_wordOf_1 : decode cX9_wordOf 1 = .ok (.ldc2_w 170, 3) := by decide +kernel
theorem dX9_wordOf_4 : decode cX9_wordOf 4 = .ok (.lcmp, 1) := by decide +kernel
theorem dX9_wordOf_5 : decode cX9_wordOf 5 = .ok (.ifCond .ne 5, 3) := by decide +kernel
theorem dX9_wordOf_8 : decode cX9_wordOf 8 = .ok (.iconst 0, 1) := by decide +kernel
theorem dX9_wordOf_9 : decode cX9_wordOf 9 = .ok (.ireturn, 1) := by decide +kernel
theorem dX9_wordOf_10 : decode cX9_wordOf 10 = .ok (.lload_n 0, 1) := by decide +kernel
theorem dX9_wordOf_11 : decode cX9_wordOf 11 = .ok (.ldc2_w 172, 3) := by decide +kernel
theorem dX9_wordOf_14 : decode cX9_wordOf 14 = .ok (.lcmp, 1) := by decide +kernel
theorem dX9_wordOf_15 : decode cX9_wordOf 15 = .ok (.ifCond .ne 5, 3) := by decide +kernel
theorem dX9_wordOf_18 : decode cX9_wordOf 18 = .ok (.iconst 1, 1) := by decide +kernel
theorem dX9_wordOf_19 : decode cX9_wordOf 19 = .ok (.ireturn, 1) := by decide +kernel
theorem dX9_wordOf_20 : decode cX9_wordOf 20 = .ok (.lload_n 0, 1) := by decide +kernel
theorem dX9_wordOf_21 : decode cX9_wordOf 21 = .ok (.ldc2_w 174, 3) := by decide +kernel
theorem dX9_wordOf_24 : decode cX9_wordOf 24 = .ok (.lcmp, 1) := by decide +kernel
theorem dX9_wordOf_25 : decode cX9_wordOf 25 = .ok (.ifCond .ne 5, 3) := by decide +kernel
theorem dX9_wordOf_28 : decode cX9_wordOf 28 = .ok (.iconst 2, 1) := by decide +kernel
theorem dX9_wordOf_29 : decode cX9_wordOf 29 = .ok (.ireturn, 1) := by decide +kernel
theorem dX9_wordOf_30 : decode cX9_wordOf 30 = .ok (.lload_n 0, 1) := by decide +kernel
theorem dX9_wordOf_31 : decode cX9_wordOf 31 = .ok (.ldc2_w 176, 3) := by decide +kernel
theorem dX9_wordOf_34 : decode cX9_wordOf 34 = .ok (.lcmp, 1) := by decide +kernel
theorem dX9_wordOf_35 : decode cX9_wordOf 35 = .ok (.ifCond .ne 5, 3) := by decide +kernel
theorem dX9_wordOf_38 : decode cX9_wordOf 38 = .ok (.iconst 3, 1) := by decide +kernel
theorem dX9_wordOf_39 : decode cX9_wordOf 39 = .ok (.ireturn, 1) := by decide +kernel
theorem dX9_wordOf_40 : decode cX9_wordOf 40 = .ok (.lload_n 0, 1) := by decide +kernel
theorem dX9_wordOf_41 : decode cX9_wordOf 41 = .ok (.ldc2_w 178, 3) := by decide +kernel
theorem dX9_wordOf_44 : decode cX9_wordOf 44 = .ok (.lcmp, 1) := by decide +kernel
theorem dX9_wordOf_45 : decode cX9_wordOf 45 = .ok (.ifCond .ne 5, 3) := by decide +kernel
theorem dX9_wordOf_48 : decode cX9_wordOf 48 = .ok (.iconst 4, 1) := by decide +kernel
theorem dX9_wordOf_49 : decode cX9_wordOf 49 = .ok (.ireturn, 1) := by decide +kernel
theorem dX9_wordOf_50 : decode cX9_wordOf 50 = .ok (.lload_n 0, 1) := by decide +kernel
theorem dX9_wordOf_51 : decode cX9_wordOf 51 = .ok (.ldc2_w 180, 3) := by decide +kernel
theorem dX9_wordOf_54 : decode cX9_wordOf 54 = .ok (.lcmp, 1) := by decide +kernel
theorem dX9_wordOf_55 : decode cX9_wordOf 55 = .ok (.ifCond .ne 5, 3) := by decide +kernel
theorem dX9_wordOf_58 : decode cX9_wordOf 58 = .ok (.iconst 5, 1) := by decide +kernel
theorem dX9_wordOf_59 : decode cX9_wordOf 59 = .ok (.ireturn, 1) := by decide +kernel
theorem dX9_wordOf_60 : decode cX9_wordOf 60 = .ok (.lload_n 0, 1) := by decide +kernel
theorem dX9_wordOf_61 : decode cX9_wordOf 61 = .ok (.ldc2_w 182, 3) := by decide +kernel
theorem dX9_wordOf_64 : decode cX9_wordOf 64 = .ok (.lcmp, 1) := by decide +kernel
theorem dX9_wordOf_65 : decode cX9_wordOf 65 = .ok (.ifCond .ne 6, 3) := by decide +kernel
theorem dX9_wordOf_68 : decode cX9_wordOf 68 = .ok (.bipush 6, 2) := by decide +kernel
theorem dX9_wordOf_70 : decode cX9_wordOf 70 = .ok (.ireturn, 1) := by decide +kernel
theorem dX9_wordOf_71 : decode cX9_wordOf 71 = .ok (.lload_n 0, 1) := by decide +kernel
theorem dX9_wordOf_72 : decode cX9_wordOf 72 = .ok (.ldc2_w 184, 3) := by decide +kernel
theorem dX9_wordOf_75 : decode cX9_wordOf 75 = .ok (.lcmp, 1) := by decide +kernel
theorem dX9_wordOf_76 : decode cX9_wordOf 76 = .ok (.ifCond .ne 6, 3) := by decide +kernel
theorem dX9_wordOf_79 : decode cX9_wordOf 79 = .ok (.bipush 7, 2) := by decide +kernel
theorem dX9_wordOf_81 : decode cX9_wordOf 81 = .ok (.ireturn, 1) := by decide +kernel
theorem dX9_wordOf_82 : decode cX9_wordOf 82 = .ok (.lload_n 0, 1) := by decide +kernel
theorem dX9_wordOf_83 : decode cX9_wordOf 83 = .ok (.ldc2_w 186, 3) := by decide +kernel
theorem dX9_wordOf_86 : decode cX9_wordOf 86 = .ok (.lcmp, 1) := by decide +kernel
theorem dX9_wordOf_87 : decode cX9_wordOf 87 = .ok (.ifCond .ne 6, 3) := by decide +kernel
theorem dX9_wordOf_90 : decode cX9_wordOf 90 = .ok (.bipush 8, 2) := by decide +kernel
theorem dX9_wordOf_92 : decode cX9_wordOf 92 = .ok (.ireturn, 1) := by decide +kernel
theorem dX9_wordOf_93 : decode cX9_wordOf 93 = .ok (.lload_n 0, 1) := by decide +kernel
theorem dX9_wordOf_94 : decode cX9_wordOf 94 = .ok (.ldc2_w 188, 3) := by decide +kernel
theorem dX9_wordOf_97 : decode cX9_wordOf 97 = .ok (.lcmp, 1) := by decide +kernel
theorem dX9_wordOf_98 : decode cX9_wordOf 98 = .ok (.ifCond .ne 6, 3) := by decide +kernel
theorem dX9_wordOf_101 : decode cX9_wordOf 101 = .ok (.bipush 9, 2) := by decide +kernel
theorem dX9_wordOf_103 : decode cX9_wordOf 103 = .ok (.ireturn, 1) := by decide +kernel
theorem dX9_wordOf_104 : decode cX9_wordOf 104 = .ok (.lload_n 0, 1) := by decide +kernel
theorem dX9_wordOf_105 : decode cX9_wordOf 105 = .ok (.ldc2_w 190, 3) := by decide +kernel
theorem dX9_wordOf_108 : decode cX9_wordOf 108 = .ok (.lcmp, 1) := by decide +kernel
theorem dX9_wordOf_109 : decode cX9_wordOf 109 = .ok (.ifCond .ne 6, 3) := by decide +kernel
theorem dX9_wordOf_112 : decode cX9_wordOf 112 = .ok (.bipush 10, 2) := by decide +kernel
theorem dX9_wordOf_114 : decode cX9_wordOf 114 = .ok (.ireturn, 1) := by decide +kernel
theorem dX9_wordOf_115 : decode cX9_wordOf 115 = .ok (.lload_n 0, 1) := by decide +kernel
theorem dX9_wordOf_116 : decode cX9_wordOf 116 = .ok (.ldc2_w 192, 3) := by decide +kernel
theorem dX9_wordOf_119 : decode cX9_wordOf 119 = .ok (.lcmp, 1) := by decide +kernel
theorem dX9_wordOf_120 : decode cX9_wordOf 120 = .ok (.ifCond .ne 6, 3) := by decide +kernel
theorem dX9_wordOf_123 : decode cX9_wordOf 123 = .ok (.bipush 11, 2) := by decide +kernel
theorem dX9_wordOf_125 : decode cX9_wordOf 125 = .ok (.ireturn, 1) := by decide +kernel
theorem dX9_wordOf_126 : decode cX9_wordOf 126 = .ok (.lload_n 0, 1) := by decide +kernel
theorem dX9_wordOf_127 : decode cX9_wordOf 127 = .ok (.ldc2_w 194, 3) := by decide +kernel
theorem dX9_wordOf_130 : decode cX9_wordOf 130 = .ok (.lcmp, 1) := by decide +kernel
theorem dX9_wordOf_131 : decode cX9_wordOf 131 = .ok (.ifCond .ne 6, 3) := by decide +kernel
theorem dX9_wordOf_134 : decode cX9_wordOf 134 = .ok (.bipush 12, 2) := by decide +kernel
theorem dX9_wordOf_136 : decode cX9_wordOf 136 = .ok (.ireturn, 1) := by decide +kernel
theorem dX9_wordOf_137 : decode cX9_wordOf 137 = .ok (.lload_n 0, 1) := by decide +kernel
theorem dX9_wordOf_138 : decode cX9_wordOf 138 = .ok (.ldc2_w 196, 3) := by decide +kernel
theorem dX9_wordOf_141 : decode cX9_wordOf 141 = .ok (.lcmp, 1) := by decide +kernel
theorem dX9_wordOf_142 : decode cX9_wordOf 142 = .ok (.ifCond .ne 6, 3) := by decide +kernel
theorem dX9_wordOf_145 : decode cX9_wordOf 145 = .ok (.bipush 13, 2) := by decide +kernel
theorem dX9_wordOf_147 : decode cX9_wordOf 147 = .ok (.ireturn, 1) := by decide +kernel
theorem dX9_wordOf_148 : decode cX9_wordOf 148 = .ok (.lload_n 0, 1) := by decide +kernel
theorem dX9_wordOf_149 : decode cX9_wordOf 149 = .ok (.ldc2_w 198, 3) := by decide +kernel
theorem dX9_wordOf_152 : decode cX9_wordOf 152 = .ok (.lcmp, 1) := by decide +kernel
theorem dX9_wordOf_153 : decode cX9_wordOf 153 = .ok (.ifCond .ne 6, 3) := by decide +kernel
theorem dX9_wordOf_156 : decode cX9_wordOf 156 = .ok (.bipush 14, 2) := by decide +kernel
theorem dX9_wordOf_158 : decode cX9_wordOf 158 = .ok (.ireturn, 1) := by decide +kernel
theorem dX9_wordOf_159 : decode cX9_wordOf 159 = .ok (.lload_n 0, 1) := by decide +kernel
theorem dX9_wordOf_160 : decode cX9_wordOf 160 = .ok (.ldc2_w 200, 3) := by decide +kernel
theorem dX9_wordOf_163 : decode cX9_wordOf 163 = .ok (.lcmp, 1) := by decide +kernel
theorem dX9_wordOf_164 : decode cX9_wordOf 164 = .ok (.ifCond .ne 6, 3) := by decide +kernel
theorem dX9_wordOf_167 : decode cX9_wordOf 167 = .ok (.bipush 15, 2) := by decide +kernel
theorem dX9_wordOf_169 : decode cX9_wordOf 169 = .ok (.ireturn, 1) := by decide +kernel
theorem dX9_wordOf_170 : decode cX9_wordOf 170 = .ok (.lload_n 0, 1) := by decide +kernel
theorem dX9_wordOf_171 : decode cX9_wordOf 171 = .ok (.ldc2_w 202, 3) := by decide +kernel
theorem dX9_wordOf_174 : decode cX9_wordOf 174 = .ok (.lcmp, 1) := by decide +kernel
theorem dX9_wordOf_175 : decode cX9_wordOf 175 = .ok (.ifCond .ne 6, 3) := by decide +kernel
theorem dX9_wordOf_178 : decode cX9_wordOf 178 = .ok (.bipush 16, 2) := by decide +kernel
theorem dX9_wordOf_180 : decode cX9_wordOf 180 = .ok (.ireturn, 1) := by decide +kernel
theorem dX9_wordOf_181 : decode cX9_wordOf 181 = .ok (.lload_n 0, 1) := by decide +kernel
theorem dX9_wordOf_182 : decode cX9_wordOf 182 = .ok (.ldc2_w 204, 3) := by decide +kernel
theorem dX9_wordOf_185 : decode cX9_wordOf 185 = .ok (.lcmp, 1) := by decide +kernel
theorem dX9_wordOf_186 : decode cX9_wordOf 186 = .ok (.ifCond .ne 6, 3) := by decide +kernel
theorem dX9_wordOf_189 : decode cX9_wordOf 189 = .ok (.bipush 17, 2) := by decide +kernel
theorem dX9_wordOf_191 : decode cX9_wordOf 191 = .ok (.ireturn, 1) := by decide +kernel
theorem dX9_wordOf_192 : decode cX9_wordOf 192 = .ok (.lload_n 0, 1) := by decide +kernel
theorem dX9_wordOf_193 : decode cX9_wordOf 193 = .ok (.ldc2_w 206, 3) := by decide +kernel
theorem dX9_wordOf_196 : decode cX9_wordOf 196 = .ok (.lcmp, 1) := by decide +kernel
theorem dX9_wordOf_197 : decode cX9_wordOf 197 = .ok (.ifCond .ne 6, 3) := by decide +kernel
theorem dX9_wordOf_200 : decode cX9_wordOf 200 = .ok (.bipush 18, 2) := by decide +kernel
theorem dX9_wordOf_202 : decode cX9_wordOf 202 = .ok (.ireturn, 1) := by decide +kernel
theorem dX9_wordOf_203 : decode cX9_wordOf 203 = .ok (.lload_n 0, 1) := by decide +kernel
theorem dX9_wordOf_204 : decode cX9_wordOf 204 = .ok (.ldc2_w 208, 3) := by decide +kernel
theorem dX9_wordOf_207 : decode cX9_wordOf 207 = .ok (.lcmp, 1) := by decide +kernel
theorem dX9_wordOf_208 : decode cX9_wordOf 208 = .ok (.ifCond .ne 6, 3) := by decide +kernel
theorem dX9_wordOf_211 : decode cX9_wordOf 211 = .ok (.bipush 19, 2) := by decide +kernel
theorem dX9_wordOf_213 : decode cX9_wordOf 213 = .ok (.ireturn, 1) := by decide +kernel
theorem dX9_wordOf_214 : decode cX9_wordOf 214 = .ok (.lload_n 0, 1) := by decide +kernel
theorem dX9_wordOf_215 : decode cX9_wordOf 215 = .ok (.ldc2_w 210, 3) := by decide +kernel
theorem dX9_wordOf_218 : decode cX9_wordOf 218 = .ok (.lcmp, 1) := by decide +kernel
theorem dX9_wordOf_219 : decode cX9_wordOf 219 = .ok (.ifCond .ne 6, 3) := by decide +kernel
theorem dX9_wordOf_222 : decode cX9_wordOf 222 = .ok (.bipush 20, 2) := by decide +kernel
theorem dX9_wordOf_224 : decode cX9_wordOf 224 = .ok (.ireturn, 1) := by decide +kernel
theorem dX9_wordOf_225 : decode cX9_wordOf 225 = .ok (.lload_n 0, 1) := by decide +kernel
theorem dX9_wordOf_226 : decode cX9_wordOf 226 = .ok (.ldc2_w 212, 3) := by decide +kernel
theorem dX9_wordOf_229 : decode cX9_wordOf 229 = .ok (.lcmp, 1) := by decide +kernel
theorem dX9_wordOf_230 : decode cX9_wordOf 230 = .ok (.ifCond .ne 6, 3) := by decide +kernel
theorem dX9_wordOf_233 : decode cX9_wordOf 233 = .ok (.bipush 21, 2) := by decide +kernel
theorem dX9_wordOf_235 : decode cX9_wordOf 235 = .ok (.ireturn, 1) := by decide +kernel
theorem dX9_wordOf_236 : decode cX9_wordOf 236 = .ok (.iconst (-1), 1) := by decide +kernel
theorem dX9_wordOf_237 : decode cX9_wordOf 237 = .ok (.ireturn, 1) := by decide +kernel
theorem dX9_next_0 : decode cX9_next 0 = .ok (.aload_n 0, 1) := by decide +kernel
theorem dX9_next_1 : decode cX9_next 1 = .ok (.getfield 214, 3) := by decide +kernel
theorem dX9_next_4 : decode cX9_next 4 = .ok (.aload_n 0, 1) := by decide +kernel
theorem dX9_next_5 : decode cX9_next 5 = .ok (.getfield 217, 3) := by decide +kernel
theorem dX9_next_8 : decode cX9_next 8 = .ok (.if_icmp .ge 44, 3) := by decide +kernel
theorem dX9_next_11 : decode cX9_next 11 = .ok (.aload_n 0, 1) := by decide +kernel
theorem dX9_next_12 : decode cX9_next 12 = .ok (.getfield 16, 3) := by decide +kernel
theorem dX9_next_15 : decode cX9_next 15 = .ok (.aload_n 0, 1) := by decide +kernel
theorem dX9_next_16 : decode cX9_next 16 = .ok (.getfield 214, 3) := by decide +kernel
theorem dX9_next_19 : decode cX9_next 19 = .ok (.baload, 1) := by decide +kernel
theorem dX9_next_20 : decode cX9_next 20 = .ok (.bipush 32, 2) := by decide +kernel
theorem dX9_next_22 : decode cX9_next 22 = .ok (.if_icmp .eq 17, 3) := by decide +kernel
theorem dX9_next_25 : decode cX9_next 25 = .ok (.aload_n 0, 1) := by decide +kernel
theorem dX9_next_26 : decode cX9_next 26 = .ok (.getfield 16, 3) := by decide +kernel
theorem dX9_next_29 : decode cX9_next 29 = .ok (.aload_n 0, 1) := by decide +kernel
theorem dX9_next_30 : decode cX9_next 30 = .ok (.getfield 214, 3) := by decide +kernel
theorem dX9_next_33 : decode cX9_next 33 = .ok (.baload, 1) := by decide +kernel
theorem dX9_next_34 : decode cX9_next 34 = .ok (.bipush 10, 2) := by decide +kernel
theorem dX9_next_36 : decode cX9_next 36 = .ok (.if_icmp .ne 16, 3) := by decide +kernel
theorem dX9_next_39 : decode cX9_next 39 = .ok (.aload_n 0, 1) := by decide +kernel
theorem dX9_next_40 : decode cX9_next 40 = .ok (.dup, 1) := by decide +kernel
theorem dX9_next_41 : decode cX9_next 41 = .ok (.getfield 214, 3) := by decide +kernel
theorem dX9_next_44 : decode cX9_next 44 = .ok (.iconst 1, 1) := by decide +kernel
theorem dX9_next_45 : decode cX9_next 45 = .ok (.iadd, 1) := by decide +kernel
theorem dX9_next_46 : decode cX9_next 46 = .ok (.putfield 214, 3) := by decide +kernel
theorem dX9_next_49 : decode cX9_next 49 = .ok (.goto (-49), 3) := by decide +kernel
theorem dX9_next_52 : decode cX9_next 52 = .ok (.aload_n 0, 1) := by decide +kernel
theorem dX9_next_53 : decode cX9_next 53 = .ok (.aload_n 0, 1) := by decide +kernel
theorem dX9_next_54 : decode cX9_next 54 = .ok (.getfield 214, 3) := by decide +kernel
theorem dX9_next_57 : decode cX9_next 57 = .ok (.putfield 220, 3) := by decide +kernel
theorem dX9_next_60 : decode cX9_next 60 = .ok (.aload_n 0, 1) := by decide +kernel
