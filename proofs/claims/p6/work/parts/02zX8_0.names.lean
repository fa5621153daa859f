theorem dX8_market_0 : decode cX8_market 0 = .ok (.iload_n 1, 1) := by decide +kernel
theorem dX8_market_1 : decode cX8_market 1 = .ok (.iconst 1, 1) := by decide +kernel
theorem dX8_market_2 : decode cX8_market 2 = .ok (.if_icmp .lt 23, 3) := by decide +kernel
theorem dX8_market_5 : decode cX8_market 5 = .ok (.iload_n 1, 1) := by decide +kernel
theorem dX8_market_6 : decode cX8_market 6 = .ok (.bipush 9, 2) := by decide +kernel
theorem dX8_market_8 : decode cX8_market 8 = .ok (.if_icmp .gt 17, 3) := by decide +kernel
theorem dX8_market_11 : decode cX8_market 11 = .ok (.iload_n 2, 1) := by decide +kernel
theorem dX8_market_12 : decode cX8_market 12 = .ok (.invokestatic 61, 3) := by decide +kernel
theorem dX8_market_15 : decode cX8_market 15 = .ok (.ifCond .eq 10, 3) := by decide +kernel
theorem dX8_market_18 : decode cX8_market 18 = .ok (.iload_n 3, 1) := by decide +kernel
theorem dX8_market_19 : decode cX8_market 19 = .ok (.invokestatic 61, 3) := by decide +kernel
theorem dX8_market_22 : decode cX8_market 22 = .ok (.ifCond .ne 5, 3) := by decide +kernel
theorem dX8_market_25 : decode cX8_market 25 = .ok (.iconst (-1), 1) := by decide +kernel
theorem dX8_market_26 : decode cX8_market 26 = .ok (.ireturn, 1) := by decide +kernel
theorem dX8_market_27 : decode cX8_market 27 = .ok (.aload_n 0, 1) := by decide +kernel
theorem dX8_market_28 : decode cX8_market 28 = .ok (.getfield 10, 3) := by decide +kernel
theorem dX8_market_31 : decode cX8_market 31 = .ok (.iload_n 1, 1) := by decide +kernel
theorem dX8_market_32 : decode cX8_market 32 = .ok (.iload_n 2, 1) := by decide +kernel
theorem dX8_market_33 : decode cX8_market 33 = .ok (.iload_n 3, 1) := by decide +kernel
theorem dX8_market_34 : decode cX8_market 34 = .ok (.invokevirtual 65, 3) := by decide +kernel
theorem dX8_market_37 : decode cX8_market 37 = .ok (.ireturn, 1) := by decide +kernel
theorem dX8_goose_0 : decode cX8_goose 0 = .ok (.iload_n 1, 1) := by decide +kernel
theorem dX8_goose_1 : decode cX8_goose 1 = .ok (.iconst 1, 1) := by decide +kernel
theorem dX8_goose_2 : decode cX8_goose 2 = .ok (.if_icmp .lt 19, 3) := by decide +kernel
theorem dX8_goose_5 : decode cX8_goose 5 = .ok (.iload_n 1, 1) := by decide +kernel
theorem dX8_goose_6 : decode cX8_goose 6 = .ok (.bipush 20, 2) := by decide +kernel
theorem dX8_goose_8 : decode cX8_goose 8 = .ok (.if_icmp .gt 13, 3) := by decide +kernel
theorem dX8_goose_11 : decode cX8_goose 11 = .ok (.iload_n 2, 1) := by decide +kernel
theorem dX8_goose_12 : decode cX8_goose 12 = .ok (.ifCond .lt 9, 3) := by decide +kernel
theorem dX8_goose_15 : decode cX8_goose 15 = .ok (.iload_n 2, 1) := by decide +kernel
theorem dX8_goose_16 : decode cX8_goose 16 = .ok (.bipush 99, 2) := by decide +kernel
theorem dX8_goose_18 : decode cX8_goose 18 = .ok (.if_icmp .le 5, 3) := by decide +kernel
theorem dX8_goose_21 : decode cX8_goose 21 = .ok (.iconst (-1), 1) := by decide +kernel
theorem dX8_goose_22 : decode cX8_goose 22 = .ok (.ireturn, 1) := by decide +kernel
theorem dX8_goose_23 : decode cX8_goose 23 = .ok (.aload_n 0, 1) := by decide +kernel
theorem dX8_goose_24 : decode cX8_goose 24 = .ok (.getfield 10, 3) := by decide +kernel
theorem dX8_goose_27 : decode cX8_goose 27 = .ok (.iload_n 1, 1) := by decide +kernel
theorem dX8_goose_28 : decode cX8_goose 28 = .ok (.iload_n 2, 1) := by decide +kernel
theorem dX8_goose_29 : decode cX8_goose 29 = .ok (.invokevirtual 69, 3) := by decide +kernel
theorem dX8_goose_32 : decode cX8_goose 32 = .ok (.ireturn, 1) := by decide +kernel
theorem dX8_store_0 : decode cX8_store 0 = .ok (.iload_n 1, 1) := by decide +kernel
theorem dX8_store_1 : decode cX8_store 1 = .ok (.ifCond .lt 20, 3) := by decide +kernel
theorem dX8_store_4 : decode cX8_store 4 = .ok (.iload_n 1, 1) := by decide +kernel
theorem dX8_store_5 : decode cX8_store 5 = .ok (.sipush 9999, 3) := by decide +kernel
theorem dX8_store_8 : decode cX8_store 8 = .ok (.if_icmp .gt 13, 3) := by decide +kernel
theorem dX8_store_11 : decode cX8_store 11 = .ok (.iload_n 2, 1) := by decide +kernel
theorem dX8_store_12 : decode cX8_store 12 = .ok (.ifCond .lt 9, 3) := by decide +kernel
theorem dX8_store_15 : decode cX8_store 15 = .ok (.iload_n 2, 1) := by decide +kernel
theorem dX8_store_16 : decode cX8_store 16 = .ok (.bipush 99, 2) := by decide +kernel
theorem dX8_store_18 : decode cX8_store 18 = .ok (.if_icmp .le 5, 3) := by decide +kernel
theorem dX8_store_21 : decode cX8_store 21 = .ok (.iconst 0, 1) := by decide +kernel
theorem dX8_store_22 : decode cX8_store 22 = .ok (.ireturn, 1) := by decide +kernel
theorem dX8_store_23 : decode cX8_store 23 = .ok (.aload_n 0, 1) := by decide +kernel
theorem dX8_store_24 : decode cX8_store 24 = .ok (.getfield 10, 3) := by decide +kernel
theorem dX8_store_27 : decode cX8_store 27 = .ok (.iload_n 1, 1) := by decide +kernel
theorem dX8_store_28 : decode cX8_store 28 = .ok (.putfield 73, 3) := by decide +kernel
theorem dX8_store_31 : decode cX8_store 31 = .ok (.aload_n 0, 1) := by decide +kernel
theorem dX8_store_32 : decode cX8_store 32 = .ok (.getfield 10, 3) := by decide +kernel
theorem dX8_store_35 : decode cX8_store 35 = .ok (.iload_n 2, 1) := by decide +kernel
theorem dX8_store_36 : decode cX8_store 36 = .ok (.putfield 77, 3) := by decide +kernel
theorem dX8_store_39 : decode cX8_store 39 = .ok (.iconst 1, 1) := by decide +kernel
theorem dX8_store_40 : decode cX8_store 40 = .ok (.ireturn, 1) := by decide +kernel
theorem dX8_seed_0 : decode cX8_seed 0 = .ok (.iload_n 1, 1) := by decide +kernel
theorem dX8_seed_1 : decode cX8_seed 1 = .ok (.ifCond .lt 10, 3) := by decide +kernel
theorem dX8_seed_4 : decode cX8_seed 4 = .ok (.iload_n 1, 1) := by decide +kernel
theorem dX8_seed_5 : decode cX8_seed 5 = .ok (.sipush 9999, 3) := by decide +kernel
theorem dX8_seed_8 : decode cX8_seed 8 = .ok (.if_icmp .le 5, 3) := by decide +kernel
theorem dX8_seed_11 : decode cX8_seed 11 = .ok (.iconst 0, 1) := by decide +kernel
theorem dX8_seed_12 : decode cX8_seed 12 = .ok (.ireturn, 1) := by decide +kernel
theorem dX8_seed_13 : decode cX8_seed 13 = .ok (.aload_n 0, 1) := by decide +kernel
theorem dX8_seed_14 : decode cX8_seed 14 = .ok (.getfield 10, 3) := by decide +kernel
theorem dX8_seed_17 : decode cX8_seed 17 = .ok (.iload_n 1, 1) := by decide +kernel
theorem dX8_seed_18 : decode cX8_seed 18 = .ok (.bipush 11, 2) := by decide +kernel
theorem dX8_seed_20 : decode cX8_seed 20 = .ok (.imul, 1) := by decide +kernel
theorem dX8_seed_21 : decode cX8_seed 21 = .ok (.bipush 9, 2) := by decide +kernel
theorem dX8_seed_23 : decode cX8_seed 23 = .ok (.iadd, 1) := by decide +kernel
theorem dX8_seed_24 : decode cX8_seed 24 = .ok (.putfield 80, 3) := by decide +kernel
theorem dX8_seed_27 : decode cX8_seed 27 = .ok (.iconst 1, 1) := by decide +kernel
theorem dX8_seed_28 : decode cX8_seed 28 = .ok (.ireturn, 1) := by decide +kernel
theorem dX8_fill_0 : decode cX8_fill 0 = .ok (.iload_n 2, 1) := by decide +kernel
theorem dX8_fill_1 : decode cX8_fill 1 = .ok (.iload_n 3, 1) := by decide +kernel
theorem dX8_fill_2 : decode cX8_fill 2 = .ok (.invokestatic 83, 3) := by decide +kernel
theorem dX8_fill_5 : decode cX8_fill 5 = .ok (.ifCond .eq 27, 3) := by decide +kernel
theorem dX8_fill_8 : decode cX8_fill 8 = .ok (.aload_n 0, 1) := by decide +kernel
theorem dX8_fill_9 : decode cX8_fill 9 = .ok (.getfield 10, 3) := by decide +kernel
theorem dX8_fill_12 : decode cX8_fill 12 = .ok (.iload_n 1, 1) := by decide +kernel
theorem dX8_fill_13 : decode cX8_fill 13 = .ok (.invokevirtual 87, 3) := by decide +kernel
theorem dX8_fill_16 : decode cX8_fill 16 = .ok (.ifCond .eq 16, 3) := by decide +kernel
theorem dX8_fill_19 : decode cX8_fill 19 = .ok (.aload_n 0, 1) := by decide +kernel
theorem dX8_fill_20 : decode cX8_fill 20 = .ok (.getfield 10, 3) := by decide +kernel
theorem dX8_fill_23 : decode cX8_fill 23 = .ok (.iload_n 1, 1) := by decide +kernel
theorem dX8_fill_24 : decode cX8_fill 24 = .ok (.iconst 2, 1) := by decide +kernel
theorem dX8_fill_25 : decode cX8_fill 25 = .ok (.invokevirtual 90, 3) := by decide +kernel
theorem dX8_fill_28 : decode cX8_fill 28 = .ok (.iconst (-1), 1) := by decide +kernel
theorem dX8_fill_29 : decode cX8_fill 29 = .ok (.if_icmp .eq 5, 3) := by decide +kernel
theorem dX8_fill_32 : decode cX8_fill 32 = .ok (.iconst (-1), 1) := by decide +kernel
theorem dX8_fill_33 : decode cX8_fill 33 = .ok (.ireturn, 1) := by decide +kernel
theorem dX8_fill_34 : decode cX8_fill 34 = .ok (.aload_n 0, 1) := by decide +kernel
theorem dX8_fill_35 : decode cX8_fill 35 = .ok (.getfield 43, 3) := by decide +kernel
theorem dX8_fill_38 : decode cX8_fill 38 = .ok (.aload_n 0, 1) := by decide +kernel
theorem dX8_fill_39 : decode cX8_fill 39 = .ok (.getfield 10, 3) := by decide +kernel
theorem dX8_fill_42 : decode cX8_fill 42 = .ok (.iload_n 1, 1) := by decide +kernel
theorem dX8_fill_43 : decode cX8_fill 43 = .ok (.iload_n 2, 1) := by decide +kernel
theorem dX8_fill_44 : decode cX8_fill 44 = .ok (.iload_n 3, 1) := by decide +kernel
theorem dX8_fill_45 : decode cX8_fill 45 = .ok (.invokevirtual 93, 3) := by decide +kernel
theorem dX8_fill_48 : decode cX8_fill 48 = .ok (.istore 4, 2) := by decide +kernel
theorem dX8_fill_50 : decode cX8_fill 50 = .ok (.iload 4, 2) := by decide +kernel
theorem dX8_fill_52 : decode cX8_fill 52 = .ok (.aload_n 0, 1) := by decide +kernel
theorem dX8_fill_53 : decode cX8_fill 53 = .ok (.getfield 10, 3) := by decide +kernel
theorem dX8_fill_56 : decode cX8_fill 56 = .ok (.getfield 73, 3) := by decide +kernel
theorem dX8_fill_59 : decode cX8_fill 59 = .ok (.if_icmp .le 5, 3) := by decide +kernel
theorem dX8_fill_62 : decode cX8_fill 62 = .ok (.iconst (-1), 1) := by decide +kernel
theorem dX8_fill_63 : decode cX8_fill 63 = .ok (.ireturn, 1) := by decide +kernel
theorem dX8_fill_64 : decode cX8_fill 64 = .ok (.aload_n 0, 1) := by decide +kernel
theorem dX8_fill_65 : decode cX8_fill 65 = .ok (.getfield 10, 3) := by decide +kernel
theorem dX8_fill_68 : decode cX8_fill 68 = .ok (.invokevirtual 97, 3) := by decide +kernel
theorem dX8_fill_71 : decode cX8_fill 71 = .ok (.aload_n 0, 1) := by decide +kernel
theorem dX8_fill_72 : decode cX8_fill 72 = .ok (.getfield 10, 3) := by decide +kernel
theorem dX8_fill_75 : decode cX8_fill 75 = .ok (.dup, 1) := by decide +kernel
theorem dX8_fill_76 : decode cX8_fill 76 = .ok (.getfield 73, 3) := by decide +kernel
theorem dX8_fill_79 : decode cX8_fill 79 = .ok (.iload 4, 2) := by decide +kernel
theorem dX8_fill_81 : decode cX8_fill 81 = .ok (.isub, 1) := by decide +kernel
theorem dX8_fill_82 : decode cX8_fill 82 = .ok (.putfield 73, 3) := by decide +kernel
theorem dX8_fill_85 : decode cX8_fill 85 = .ok (.aload_n 0, 1) := by decide +kernel
theorem dX8_fill_86 : decode cX8_fill 86 = .ok (.getfield 10, 3) := by decide +kernel
theorem dX8_fill_89 : decode cX8_fill 89 = .ok (.iload_n 1, 1) := by decide +kernel
theorem dX8_fill_90 : decode cX8_fill 90 = .ok (.iconst 2, 1) := by decide +kernel
theorem dX8_fill_91 : decode cX8_fill 91 = .ok (.iload_n 2, 1) := by decide +kernel
theorem dX8_fill_92 : decode cX8_fill 92 = .ok (.invokevirtual 100, 3) := by decide +kernel
theorem dX8_fill_95 : decode cX8_fill 95 = .ok (.aload_n 0, 1) := by decide +kernel
theorem dX8_fill_96 : decode cX8_fill 96 = .ok (.getfield 10, 3) := by decide +kernel
theorem dX8_fill_99 : decode cX8_fill 99 = .ok (.iload_n 1, 1) := by decide +kernel
theorem dX8_fill_100 : decode cX8_fill 100 = .ok (.iconst 3, 1) := by decide +kernel
theorem dX8_fill_101 : decode cX8_fill 101 = .ok (.iload_n 3, 1) := by decide +kernel
theorem dX8_fill_102 : decode cX8_fill 102 = .ok (.invokevirtual 100, 3) := by decide +kernel
theorem dX8_fill_105 : decode cX8_fill 105 = .ok (.aload_n 0, 1) := by decide +kernel
theorem dX8_fill_106 : decode cX8_fill 106 = .ok (.getfield 10, 3) := by decide +kernel
theorem dX8_fill_109 : decode cX8_fill 109 = .ok (.getfield 73, 3) := by decide +kernel
theorem dX8_fill_112 : decode cX8_fill 112 = .ok (.ireturn, 1) := by decide +kernel
theorem dX8_send_0 : decode cX8_send 0 = .ok (.aload_n 0, 1) := by decide +kernel
theorem dX8_send_1 : decode cX8_send 1 = .ok (.getfield 10, 3) := by decide +kernel
theorem dX8_send_4 : decode cX8_send 4 = .ok (.iload_n 2, 1) := by decide +kernel
theorem dX8_send_5 : decode cX8_send 5 = .ok (.invokevirtual 104, 3) := by decide +kernel
theorem dX8_send_8 : decode cX8_send 8 = .ok (.ifCond .eq 14, 3) := by decide +kernel
theorem dX8_send_11 : decode cX8_send 11 = .ok (.aload_n 0, 1) := by decide +kernel
theorem dX8_send_12 : decode cX8_send 12 = .ok (.getfield 10, 3) := by decide +kernel
theorem dX8_send_15 : decode cX8_send 15 = .ok (.iload_n 1, 1) := by decide +kernel
theorem dX8_send_16 : decode cX8_send 16 = .ok (.invokevirtual 107, 3) := by decide +kernel
theorem dX8_send_19 : decode cX8_send 19 = .ok (.ifCond .ne 5, 3) := by decide +kernel
theorem dX8_send_22 : decode cX8_send 22 = .ok (.iconst (-1), 1) := by decide +kernel
theorem dX8_send_23 : decode cX8_send 23 = .ok (.ireturn, 1) := by decide +kernel
theorem dX8_send_24 : decode cX8_send 24 = .ok (.aload_n 0, 1) := by decide +kernel
theorem dX8_send_25 : decode cX8_send 25 = .ok (.getfield 10, 3) := by decide +kernel
theorem dX8_send_28 : decode cX8_send 28 = .ok (.invokevirtual 97, 3) := by decide +kernel
theorem dX8_send_31 : decode cX8_send 31 = .ok (.aload_n 0, 1) := by decide +kernel
theorem dX8_send_32 : decode cX8_send 32 = .ok (.getfield 10, 3) := by decide +kernel
theorem dX8_send_35 : decode cX8_send 35 = .ok (.getfield 110, 3) := by decide +kernel
theorem dX8_send_38 : decode cX8_send 38 = .ok (.aload_n 0, 1) := by decide +kernel
theorem dX8_send_39 : decode cX8_send 39 = .ok (.getfield 10, 3) := by decide +kernel
theorem dX8_send_42 : decode cX8_send 42 = .ok (.iload_n 2, 1) := by decide +kernel
theorem dX8_send_43 : decode cX8_send 43 = .ok (.iconst 0, 1) := by decide +kernel
theorem dX8_send_44 : decode cX8_send 44 = .ok (.invokevirtual 113, 3) := by decide +kernel
theorem dX8_send_47 : decode cX8_send 47 = .ok (.iadd, 1) := by decide +kernel
theorem dX8_send_48 : decode cX8_send 48 = .ok (.istore_n 3, 1) := by decide +kernel
theorem dX8_send_49 : decode cX8_send 49 = .ok (.aload_n 0, 1) := by decide +kernel
theorem dX8_send_50 : decode cX8_send 50 = .ok (.getfield 10, 3) := by decide +kernel
theorem dX8_send_53 : decode cX8_send 53 = .ok (.iload_n 1, 1) := by decide +kernel
theorem dX8_send_54 : decode cX8_send 54 = .ok (.iconst 4, 1) := by decide +kernel
theorem dX8_send_55 : decode cX8_send 55 = .ok (.iconst 1, 1) := by decide +kernel
theorem dX8_send_56 : decode cX8_send 56 = .ok (.invokevirtual 100, 3) := by decide +kernel
theorem dX8_send_59 : decode cX8_send 59 = .ok (.aload_n 0, 1) := by decide +kernel
theorem dX8_send_60 : decode cX8_send 60 = .ok (.getfield 10, 3) := by decide +kernel
theorem dX8_send_63 : decode cX8_send 63 = .ok (.iload_n 1, 1) := by decide +kernel
theorem dX8_send_64 : decode cX8_send 64 = .ok (.iconst 5, 1) := by decide +kernel
theorem dX8_send_65 : decode cX8_send 65 = .ok (.iload_n 2, 1) := by decide +kernel
theorem dX8_send_66 : decode cX8_send 66 = .ok (.invokevirtual 100, 3) := by decide +kernel
theorem dX8_send_69 : decode cX8_send 69 = .ok (.aload_n 0, 1) := by decide +kernel
theorem dX8_send_70 : decode cX8_send 70 = .ok (.getfield 10, 3) := by decide +kernel
theorem dX8_send_73 : decode cX8_send 73 = .ok (.iload_n 1, 1) := by decide +kernel
theorem dX8_send_74 : decode cX8_send 74 = .ok (.bipush 6, 2) := by decide +kernel
theorem dX8_send_76 : decode cX8_send 76 = .ok (.iload_n 3, 1) := by decide +kernel
theorem dX8_send_77 : decode cX8_send 77 = .ok (.invokevirtual 100, 3) := by decide +kernel
theorem dX8_send_80 : decode cX8_send 80 = .ok (.iload_n 3, 1) := by decide +kernel
theorem dX8_send_81 : decode cX8_send 81 = .ok (.ireturn, 1) := by decide +kernel
theorem dX8_fatten_0 : decode cX8_fatten 0 = .ok (.aload_n 0, 1) := by decide +kernel
theorem dX8_fatten_1 : decode cX8_fatten 1 = .ok (.getfield 10, 3) := by decide +kernel
theorem dX8_fatten_4 : decode cX8_fatten 4 = .ok (.iload_n 1, 1) := by decide +kernel
theorem dX8_fatten_5 : decode cX8_fatten 5 = .ok (.invokevirtual 87, 3) := by decide +kernel
theorem dX8_fatten_8 : decode cX8_fatten 8 = .ok (.ifCond .eq 28, 3) := by decide +kernel
theorem dX8_fatten_11 : decode cX8_fatten 11 = .ok (.aload_n 0, 1) := by decide +kernel
theorem dX8_fatten_12 : decode cX8_fatten 12 = .ok (.getfield 10, 3) := by decide +kernel
theorem dX8_fatten_15 : decode cX8_fatten 15 = .ok (.iload_n 1, 1) := by decide +kernel
theorem dX8_fatten_16 : decode cX8_fatten 16 = .ok (.iconst 0, 1) := by decide +kernel
theorem dX8_fatten_17 : decode cX8_fatten 17 = .ok (.invokevirtual 90, 3) := by decide +kernel
theorem dX8_fatten_20 : decode cX8_fatten 20 = .ok (.bipush 20, 2) := by decide +kernel
theorem dX8_fatten_22 : decode cX8_fatten 22 = .ok (.if_icmp .ge 14, 3) := by decide +kernel
theorem dX8_fatten_25 : decode cX8_fatten 25 = .ok (.aload_n 0, 1) := by decide +kernel
theorem dX8_fatten_26 : decode cX8_fatten 26 = .ok (.getfield 10, 3) := by decide +kernel
theorem dX8_fatten_29 : decode cX8_fatten 29 = .ok (.getfield 73, 3) := by decide +kernel
theorem dX8_fatten_32 : decode cX8_fatten 32 = .ok (.iconst 1, 1) := by decide +kernel
theorem dX8_fatten_33 : decode cX8_fatten 33 = .ok (.if_icmp .ge 5, 3) := by decide +kernel
theorem dX8_fatten_36 : decode cX8_fatten 36 = .ok (.iconst (-1), 1) := by decide +kernel
theorem dX8_fatten_37 : decode cX8_fatten 37 = .ok (.ireturn, 1) := by decide +kernel
theorem dX8_fatten_38 : decode cX8_fatten 38 = .ok (.aload_n 0, 1) := by decide +kernel
theorem dX8_fatten_39 : decode cX8_fatten 39 = .ok (.getfield 10, 3) := by decide +kernel
theorem dX8_fatten_42 : decode cX8_fatten 42 = .ok (.invokevirtual 97, 3) := by decide +kernel
theorem dX8_fatten_45 : decode cX8_fatten 45 = .ok (.aload_n 0, 1) := by decide +kernel
theorem dX8_fatten_46 : decode cX8_fatten 46 = .ok (.getfield 10, 3) := by decide +kernel
theorem dX8_fatten_49 : decode cX8_fatten 49 = .ok (.dup, 1) := by decide +kernel
theorem dX8_fatten_50 : decode cX8_fatten 50 = .ok (.getfield 73, 3) := by decide +kernel
theorem dX8_fatten_53 : decode cX8_fatten 53 = .ok (.iconst 1, 1) := by decide +kernel
theorem dX8_fatten_54 : decode cX8_fatten 54 = .ok (.isub, 1) := by decide +kernel
theorem dX8_fatten_55 : decode cX8_fatten 55 = .ok (.putfield 73, 3) := by decide +kernel
theorem dX8_fatten_58 : decode cX8_fatten 58 = .ok (.aload_n 0, 1) := by decide +kernel
theorem dX8_fatten_59 : decode cX8_fatten 59 = .ok (.getfield 10, 3) := by decide +kernel
theorem dX8_fatten_62 : decode cX8_fatten 62 = .ok (.iload_n 1, 1) := by decide +kernel
theorem dX8_fatten_63 : decode cX8_fatten 63 = .ok (.iconst 0, 1) := by decide +kernel
theorem dX8_fatten_64 : decode cX8_fatten 64 = .ok (.aload_n 0, 1) := by decide +kernel
theorem dX8_fatten_65 : decode cX8_fatten 65 = .ok (.getfield 10, 3) := by decide +kernel
theorem dX8_fatten_68 : decode cX8_fatten 68 = .ok (.iload_n 1, 1) := by decide +kernel
theorem dX8_fatten_69 : decode cX8_fatten 69 = .ok (.iconst 0, 1) := by decide +kernel
theorem dX8_fatten_70 : decode cX8_fatten 70 = .ok (.invokevirtual 90, 3) := by decide +kernel
theorem dX8_fatten_73 : decode cX8_fatten 73 = .ok (.iconst 1, 1) := by decide +kernel
theorem dX8_fatten_74 : decode cX8_fatten 74 = .ok (.iadd, 1) := by decide +kernel
theorem dX8_fatten_75 : decode cX8_fatten 75 = .ok (.invokevirtual 100, 3) := by decide +kernel
theorem dX8_fatten_78 : decode cX8_fatten 78 = .ok (.aload_n 0, 1) := by decide +kernel
theorem dX8_fatten_79 : decode cX8_fatten 79 = .ok (.getfield 10, 3) := by decide +kernel
theorem dX8_fatten_82 : decode cX8_fatten 82 = .ok (.iload_n 1, 1) := by decide +kernel
theorem dX8_fatten_83 : decode cX8_fatten 83 = .ok (.iconst 0, 1) := by decide +kernel
theorem dX8_fatten_84 : decode cX8_fatten 84 = .ok (.invokevirtual 90, 3) := by decide +kernel
theorem dX8_fatten_87 : decode cX8_fatten 87 = .ok (.ireturn, 1) := by decide +kernel
theorem dX8_pluck_0 : decode cX8_pluck 0 = .ok (.aload_n 0, 1) := by decide +kernel
theorem dX8_pluck_1 : decode cX8_pluck 1 = .ok (.getfield 10, 3) := by decide +kernel
theorem dX8_pluck_4 : decode cX8_pluck 4 = .ok (.iload_n 1, 1) := by decide +kernel
theorem dX8_pluck_5 : decode cX8_pluck 5 = .ok (.invokevirtual 87, 3) := by decide +kernel
theorem dX8_pluck_8 : decode cX8_pluck 8 = .ok (.ifCond .eq 16, 3) := by decide +kernel
theorem dX8_pluck_11 : decode cX8_pluck 11 = .ok (.aload_n 0, 1) := by decide +kernel
theorem dX8_pluck_12 : decode cX8_pluck 12 = .ok (.getfield 10, 3) := by decide +kernel
theorem dX8_pluck_15 : decode cX8_pluck 15 = .ok (.iload_n 1, 1) := by decide +kernel
theorem dX8_pluck_16 : decode cX8_pluck 16 = .ok (.iconst 1, 1) := by decide +kernel
theorem dX8_pluck_17 : decode cX8_pluck 17 = .ok (.invokevirtual 90, 3) := by decide +kernel
theorem dX8_pluck_20 : decode cX8_pluck 20 = .ok (.iconst 1, 1) := by decide +kernel
theorem dX8_pluck_21 : decode cX8_pluck 21 = .ok (.if_icmp .ge 5, 3) := by decide +kernel
theorem dX8_pluck_24 : decode cX8_pluck 24 = .ok (.iconst (-1), 1) := by decide +kernel
theorem dX8_pluck_25 : decode cX8_pluck 25 = .ok (.ireturn, 1) := by decide +kernel
theorem dX8_pluck_26 : decode cX8_pluck 26 = .ok (.aload_n 0, 1) := by decide +kernel
theorem dX8_pluck_27 : decode cX8_pluck 27 = .ok (.getfield 10, 3) := by decide +kernel
theorem dX8_pluck_30 : decode cX8_pluck 30 = .ok (.invokevirtual 97, 3) := by decide +kernel
theorem dX8_pluck_33 : decode cX8_pluck 33 = .ok (.aload_n 0, 1) := by decide +kernel
theorem dX8_pluck_34 : decode cX8_pluck 34 = .ok (.getfield 10, 3) := by decide +kernel
theorem dX8_pluck_37 : decode cX8_pluck 37 = .ok (.iload_n 1, 1) := by decide +kernel
theorem dX8_pluck_38 : decode cX8_pluck 38 = .ok (.iconst 1, 1) := by decide +kernel
theorem dX8_pluck_39 : decode cX8_pluck 39 = .ok (.aload_n 0, 1) := by decide +kernel
theorem dX8_pluck_40 : decode cX8_pluck 40 = .ok (.getfield 10, 3) := by decide +kernel
theorem dX8_pluck_43 : decode cX8_pluck 43 = .ok (.iload_n 1, 1) := by decide +kernel
theorem dX8_pluck_44 : decode cX8_pluck 44 = .ok (.iconst 1, 1) := by decide +kernel
theorem dX8_pluck_45 : decode cX8_pluck 45 = .ok (.invokevirtual 90, 3) := by decide +kernel
theorem dX8_pluck_48 : decode cX8_pluck 48 = .ok (.iconst 1, 1) := by decide +kernel
theorem dX8_pluck_49 : decode cX8_pluck 49 = .ok (.isub, 1) := by decide +kernel
theorem dX8_pluck_50 : decode cX8_pluck 50 = .ok (.invokevirtual 100, 3) := by decide +kernel
theorem dX8_pluck_53 : decode cX8_pluck 53 = .ok (.aload_n 0, 1) := by decide +kernel
theorem dX8_pluck_54 : decode cX8_pluck 54 = .ok (.getfield 10, 3) := by decide +kernel
theorem dX8_pluck_57 : decode cX8_pluck 57 = .ok (.iload_n 1, 1) := by decide +kernel
theorem dX8_pluck_58 : decode cX8_pluck 58 = .ok (.iconst 1, 1) := by decide +kernel
theorem dX8_pluck_59 : decode cX8_pluck 59 = .ok (.invokevirtual 90, 3) := by decide +kernel
theorem dX8_pluck_62 : decode cX8_pluck 62 = .ok (.ireturn, 1) := by decide +kernel
theorem dX8_name_0 : decode cX8_name 0 = .ok (.aload_n 0, 1) := by decide +kernel
theorem dX8_name_1 : decode cX8_name 1 = .ok (.getfield 10, 3) := by decide +kernel
theorem dX8_name_4 : decode cX8_name 4 = .ok (.iload_n 1, 1) := by decide +kernel
theorem dX8_name_5 : decode cX8_name 5 = .ok (.invokevirtual 107, 3) := by decide +kernel
theorem dX8_name_8 : decode cX8_name 8 = .ok (.ifCond .ne 5, 3) := by decide +kernel
theorem dX8_name_11 : decode cX8_name 11 = .ok (.iconst 0, 1) := by decide +kernel
theorem dX8_name_12 : decode cX8_name 12 = .ok (.ireturn, 1) := by decide +kernel
theorem dX8_name_13 : decode cX8_name 13 = .ok (.aload_n 0, 1) := by decide +kernel
theorem dX8_name_14 : decode cX8_name 14 = .ok (.getfield 10, 3) := by decide +kernel
theorem dX8_name_17 : decode cX8_name 17 = .ok (.invokevirtual 97, 3) := by decide +kernel
theorem dX8_name_20 : decode cX8_name 20 = .ok (.aload_n 0, 1) := by decide +kernel
theorem dX8_name_21 : decode cX8_name 21 = .ok (.getfield 10, 3) := by decide +kernel
theorem dX8_name_24 : decode cX8_name 24 = .ok (.iload_n 1, 1) := by decide +kernel
theorem dX8_name_25 : decode cX8_name 25 = .ok (.bipush 8, 2) := by decide +kernel
theorem dX8_name_27 : decode cX8_name 27 = .ok (.iconst 1, 1) := by decide +kernel
theorem dX8_name_28 : decode cX8_name 28 = .ok (.invokevirtual 100, 3) := by decide +kernel
theorem dX8_name_31 : decode cX8_name 31 = .ok (.iconst 1, 1) := by decide +kernel
theorem dX8_name_32 : decode cX8_name 32 = .ok (.ireturn, 1) := by decide +kernel
theorem dX8_pass_0 : decode cX8_pass 0 = .ok (.iload_n 1, 1) := by decide +kernel
theorem dX8_pass_1 : decode cX8_pass 1 = .ok (.iconst 1, 1) := by decide +kernel
theorem dX8_pass_2 : decode cX8_pass 2 = .ok (.if_icmp .lt 24, 3) := by decide +kernel
theorem dX8_pass_5 : decode cX8_pass 5 = .ok (.iload_n 1, 1) := by decide +kernel
theorem dX8_pass_6 : decode cX8_pass 6 = .ok (.bipush 99, 2) := by decide +kernel
theorem dX8_pass_8 : decode cX8_pass 8 = .ok (.if_icmp .gt 18, 3) := by decide +kernel
theorem dX8_pass_11 : decode cX8_pass 11 = .ok (.aload_n 0, 1) := by decide +kernel
theorem dX8_pass_12 : decode cX8_pass 12 = .ok (.getfield 10, 3) := by decide +kernel
theorem dX8_pass_15 : decode cX8_pass 15 = .ok (.getfield 110, 3) := by decide +kernel
theorem dX8_pass_18 : decode cX8_pass 18 = .ok (.iload_n 1, 1) := by decide +kernel
theorem dX8_pass_19 : decode cX8_pass 19 = .ok (.iadd, 1) := by decide +kernel
theorem dX8_pass_20 : decode cX8_pass 20 = .ok (.sipush 999, 3) := by decide +kernel
theorem dX8_pass_23 : decode cX8_pass 23 = .ok (.if_icmp .le 5, 3) := by decide +kernel
theorem dX8_pass_26 : decode cX8_pass 26 = .ok (.iconst (-1), 1) := by decide +kernel
theorem dX8_pass_27 : decode cX8_pass 27 = .ok (.ireturn, 1) := by decide +kernel
theorem dX8_pass_28 : decode cX8_pass 28 = .ok (.aload_n 0, 1) := by decide +kernel
theorem dX8_pass_29 : decode cX8_pass 29 = .ok (.getfield 10, 3) := by decide +kernel
theorem dX8_pass_32 : decode cX8_pass 32 = .ok (.invokevirtual 97, 3) := by decide +kernel
theorem dX8_pass_35 : decode cX8_pass 35 = .ok (.iconst 0, 1) := by decide +kernel
theorem dX8_pass_36 : decode cX8_pass 36 = .ok (.istore_n 2, 1) := by decide +kernel
theorem dX8_pass_37 : decode cX8_pass 37 = .ok (.iload_n 2, 1) := by decide +kernel
theorem dX8_pass_38 : decode cX8_pass 38 = .ok (.iload_n 1, 1) := by decide +kernel
theorem dX8_pass_39 : decode cX8_pass 39 = .ok (.if_icmp .ge 13, 3) := by decide +kernel
theorem dX8_pass_42 : decode cX8_pass 42 = .ok (.aload_n 0, 1) := by decide +kernel
theorem dX8_pass_43 : decode cX8_pass 43 = .ok (.invokevirtual 116, 3) := by decide +kernel
theorem dX8_pass_46 : decode cX8_pass 46 = .ok (.iinc 2 1, 3) := by decide +kernel
theorem dX8_pass_49 : decode cX8_pass 49 = .ok (.goto (-12), 3) := by decide +kernel
theorem dX8_pass_52 : decode cX8_pass 52 = .ok (.aload_n 0, 1) := by decide +kernel
theorem dX8_pass_53 : decode cX8_pass 53 = .ok (.getfield 10, 3) := by decide +kernel
theorem dX8_pass_56 : decode cX8_pass 56 = .ok (.getfield 110, 3) := by decide +kernel
theorem dX8_pass_59 : decode cX8_pass 59 = .ok (.ireturn, 1) := by decide +kernel
theorem dX8_feed_0 : decode cX8_feed 0 = .ok (.aload_n 0, 1) := by decide +kernel
theorem dX8_feed_1 : decode cX8_feed 1 = .ok (.getfield 22, 3) := by decide +kernel
theorem dX8_feed_4 : decode cX8_feed 4 = .ok (.getfield 119, 3) := by decide +kernel
theorem dX8_feed_7 : decode cX8_feed 7 = .ok (.bipush 20, 2) := by decide +kernel
theorem dX8_feed_9 : decode cX8_feed 9 = .ok (.iadd, 1) := by decide +kernel
theorem dX8_feed_10 : decode cX8_feed 10 = .ok (.sipush 300, 3) := by decide +kernel
theorem dX8_feed_13 : decode cX8_feed 13 = .ok (.if_icmp .le 5, 3) := by decide +kernel
theorem dX8_feed_16 : decode cX8_feed 16 = .ok (.iconst (-1), 1) := by decide +kernel
theorem dX8_feed_17 : decode cX8_feed 17 = .ok (.ireturn, 1) := by decide +kernel
theorem dX8_feed_18 : decode cX8_feed 18 = .ok (.aload_n 0, 1) := by decide +kernel
theorem dX8_feed_19 : decode cX8_feed 19 = .ok (.getfield 22, 3) := by decide +kernel
theorem dX8_feed_22 : decode cX8_feed 22 = .ok (.iload_n 1, 1) := by decide +kernel
theorem dX8_feed_23 : decode cX8_feed 23 = .ok (.invokevirtual 122, 3) := by decide +kernel
theorem dX8_feed_26 : decode cX8_feed 26 = .ok (.aload_n 0, 1) := by decide +kernel
theorem dX8_feed_27 : decode cX8_feed 27 = .ok (.getfield 22, 3) := by decide +kernel
theorem dX8_feed_30 : decode cX8_feed 30 = .ok (.iload_n 2, 1) := by decide +kernel
theorem dX8_feed_31 : decode cX8_feed 31 = .ok (.invokevirtual 122, 3) := by decide +kernel
theorem dX8_feed_34 : decode cX8_feed 34 = .ok (.aload_n 0, 1) := by decide +kernel
theorem dX8_feed_35 : decode cX8_feed 35 = .ok (.getfield 22, 3) := by decide +kernel
theorem dX8_feed_38 : decode cX8_feed 38 = .ok (.iload_n 3, 1) := by decide +kernel
theorem dX8_feed_39 : decode cX8_feed 39 = .ok (.invokevirtual 122, 3) := by decide +kernel
theorem dX8_feed_42 : decode cX8_feed 42 = .ok (.aload_n 0, 1) := by decide +kernel
theorem dX8_feed_43 : decode cX8_feed 43 = .ok (.getfield 22, 3) := by decide +kernel
theorem dX8_feed_46 : decode cX8_feed 46 = .ok (.iload 4, 2) := by decide +kernel
theorem dX8_feed_48 : decode cX8_feed 48 = .ok (.invokevirtual 122, 3) := by decide +kernel
theorem dX8_feed_51 : decode cX8_feed 51 = .ok (.aload_n 0, 1) := by decide +kernel
theorem dX8_feed_52 : decode cX8_feed 52 = .ok (.getfield 22, 3) := by decide +kernel
theorem dX8_feed_55 : decode cX8_feed 55 = .ok (.iload 5, 2) := by decide +kernel
theorem dX8_feed_57 : decode cX8_feed 57 = .ok (.invokevirtual 122, 3) := by decide +kernel
theorem dX8_feed_60 : decode cX8_feed 60 = .ok (.aload_n 0, 1) := by decide +kernel
theorem dX8_feed_61 : decode cX8_feed 61 = .ok (.getfield 22, 3) := by decide +kernel
theorem dX8_feed_64 : decode cX8_feed 64 = .ok (.getfield 119, 3) := by decide +kernel
theorem dX8_feed_67 : decode cX8_feed 67 = .ok (.ireturn, 1) := by decide +kernel
theorem dX8_end_0 : decode cX8_end 0 = .ok (.iload_n 1, 1) := by decide +kernel
theorem dX8_end_1 : decode cX8_end 1 = .ok (.ifCond .lt 14, 3) := by decide +kernel
theorem dX8_end_4 : decode cX8_end 4 = .ok (.iload_n 1, 1) := by decide +kernel
theorem dX8_end_5 : decode cX8_end 5 = .ok (.aload_n 0, 1) := by decide +kernel
theorem dX8_end_6 : decode cX8_end 6 = .ok (.getfield 22, 3) := by decide +kernel
theorem dX8_end_9 : decode cX8_end 9 = .ok (.getfield 119, 3) := by decide +kernel
theorem dX8_end_12 : decode cX8_end 12 = .ok (.if_icmp .le 5, 3) := by decide +kernel
theorem dX8_end_15 : decode cX8_end 15 = .ok (.iconst (-1), 1) := by decide +kernel
theorem dX8_end_16 : decode cX8_end 16 = .ok (.ireturn, 1) := by decide +kernel
theorem dX8_end_17 : decode cX8_end 17 = .ok (.aload_n 0, 1) := by decide +kernel
theorem dX8_end_18 : decode cX8_end 18 = .ok (.getfield 22, 3) := by decide +kernel
theorem dX8_end_21 : decode cX8_end 21 = .ok (.iload_n 1, 1) := by decide +kernel
theorem dX8_end_22 : decode cX8_end 22 = .ok (.putfield 119, 3) := by decide +kernel
theorem dX8_end_25 : decode cX8_end 25 = .ok (.iload_n 1, 1) := by decide +kernel
theorem dX8_end_26 : decode cX8_end 26 = .ok (.ireturn, 1) := by decide +kernel
theorem dX8_text_0 : decode cX8_text 0 = .ok (.aload_n 0, 1) := by decide +kernel
theorem dX8_text_1 : decode cX8_text 1 = .ok (.getfield 43, 3) := by decide +kernel
theorem dX8_text_4 : decode cX8_text 4 = .ok (.aload_n 0, 1) := by decide +kernel
theorem dX8_text_5 : decode cX8_text 5 = .ok (.getfield 10, 3) := by decide +kernel
theorem dX8_text_8 : decode cX8_text 8 = .ok (.getfield 126, 3) := by decide +kernel
theorem dX8_text_11 : decode cX8_text 11 = .ok (.invokevirtual 129, 3) := by decide +kernel
theorem dX8_text_14 : decode cX8_text 14 = .ok (.astore_n 1, 1) := by decide +kernel
theorem dX8_text_15 : decode cX8_text 15 = .ok (.aload_n 1, 1) := by decide +kernel
theorem dX8_text_16 : decode cX8_text 16 = .ok (.ifnonnull 5, 3) := by decide +kernel
theorem dX8_text_19 : decode cX8_text 19 = .ok (.iconst (-1), 1) := by decide +kernel
theorem dX8_text_20 : decode cX8_text 20 = .ok (.ireturn, 1) := by decide +kernel
theorem dX8_text_21 : decode cX8_text 21 = .ok (.aload_n 0, 1) := by decide +kernel
theorem dX8_text_22 : decode cX8_text 22 = .ok (.getfield 29, 3) := by decide +kernel
theorem dX8_text_25 : decode cX8_text 25 = .ok (.aload_n 0, 1) := by decide +kernel
theorem dX8_text_26 : decode cX8_text 26 = .ok (.getfield 22, 3) := by decide +kernel
theorem dX8_text_29 : decode cX8_text 29 = .ok (.invokevirtual 133, 3) := by decide +kernel
theorem dX8_text_32 : decode cX8_text 32 = .ok (.aload_n 0, 1) := by decide +kernel
theorem dX8_text_33 : decode cX8_text 33 = .ok (.getfield 36, 3) := by decide +kernel
theorem dX8_text_36 : decode cX8_text 36 = .ok (.aload_n 0, 1) := by decide +kernel
theorem dX8_text_37 : decode cX8_text 37 = .ok (.getfield 29, 3) := by decide +kernel
theorem dX8_text_40 : decode cX8_text 40 = .ok (.aload_n 1, 1) := by decide +kernel
theorem dX8_text_41 : decode cX8_text 41 = .ok (.invokevirtual 137, 3) := by decide +kernel
theorem dX8_text_44 : decode cX8_text 44 = .ok (.aload_n 0, 1) := by decide +kernel
theorem dX8_text_45 : decode cX8_text 45 = .ok (.getfield 22, 3) := by decide +kernel
theorem dX8_text_48 : decode cX8_text 48 = .ok (.iconst 0, 1) := by decide +kernel
theorem dX8_text_49 : decode cX8_text 49 = .ok (.putfield 119, 3) := by decide +kernel
theorem dX8_text_52 : decode cX8_text 52 = .ok (.aload_n 0, 1) := by decide +kernel
theorem dX8_text_53 : decode cX8_text 53 = .ok (.getfield 36, 3) := by decide +kernel
theorem dX8_text_56 : decode cX8_text 56 = .ok (.getfield 141, 3) := by decide +kernel
theorem dX8_text_59 : decode cX8_text 59 = .ok (.ifCond .eq 5, 3) := by decide +kernel
theorem dX8_text_62 : decode cX8_text 62 = .ok (.iconst (-1), 1) := by decide +kernel
theorem dX8_text_63 : decode cX8_text 63 = .ok (.ireturn, 1) := by decide +kernel
theorem dX8_text_64 : decode cX8_text 64 = .ok (.aload_n 0, 1) := by decide +kernel
theorem dX8_text_65 : decode cX8_text 65 = .ok (.getfield 10, 3) := by decide +kernel
theorem dX8_text_68 : decode cX8_text 68 = .ok (.dup, 1) := by decide +kernel
theorem dX8_text_69 : decode cX8_text 69 = .ok (.getfield 126, 3) := by decide +kernel
theorem dX8_text_72 : decode cX8_text 72 = .ok (.iconst 1, 1) := by decide +kernel
theorem dX8_text_73 : decode cX8_text 73 = .ok (.iadd, 1) := by decide +kernel
theorem dX8_text_74 : decode cX8_text 74 = .ok (.putfield 126, 3) := by decide +kernel
theorem dX8_text_77 : decode cX8_text 77 = .ok (.aload_n 0, 1) := by decide +kernel
theorem dX8_text_78 : decode cX8_text 78 = .ok (.getfield 10, 3) := by decide +kernel
theorem dX8_text_81 : decode cX8_text 81 = .ok (.getfield 126, 3) := by decide +kernel
theorem dX8_text_84 : decode cX8_text 84 = .ok (.iconst 1, 1) := by decide +kernel
theorem dX8_text_85 : decode cX8_text 85 = .ok (.isub, 1) := by decide +kernel
theorem dX8_text_86 : decode cX8_text 86 = .ok (.ireturn, 1) := by decide +kernel
theorem dX8_fault_0 : decode cX8_fault 0 = .ok (.iload_n 1, 1) := by decide +kernel
theorem dX8_fault_1 : decode cX8_fault 1 = .ok (.ifCond .ne 11, 3) := by decide +kernel
theorem dX8_fault_4 : decode cX8_fault 4 = .ok (.aload_n 0, 1) := by decide +kernel
theorem dX8_fault_5 : decode cX8_fault 5 = .ok (.getfield 36, 3) := by decide +kernel
theorem dX8_fault_8 : decode cX8_fault 8 = .ok (.getfield 141, 3) := by decide +kernel
theorem dX8_fault_11 : decode cX8_fault 11 = .ok (.ireturn, 1) := by decide +kernel
theorem dX8_fault_12 : decode cX8_fault 12 = .ok (.iload_n 1, 1) := by decide +kernel
theorem dX8_fault_13 : decode cX8_fault 13 = .ok (.iconst 1, 1) := by decide +kernel
theorem dX8_fault_14 : decode cX8_fault 14 = .ok (.if_icmp .ne 13, 3) := by decide +kernel
theorem dX8_fault_17 : decode cX8_fault 17 = .ok (.aload_n 0, 1) := by decide +kernel
theorem dX8_fault_18 : decode cX8_fault 18 = .ok (.getfield 36, 3) := by decide +kernel
theorem dX8_fault_21 : decode cX8_fault 21 = .ok (.getfield 144, 3) := by decide +kernel
theorem dX8_fault_24 : decode cX8_fault 24 = .ok (.goto 4, 3) := by decide +kernel
theorem dX8_fault_27 : decode cX8_fault 27 = .ok (.iconst (-1), 1) := by decide +kernel
theorem dX8_fault_28 : decode cX8_fault 28 = .ok (.ireturn, 1) := by decide +kernel
theorem dX8_by_0 : decode cX8_by 0 = .ok (.iload_n 1, 1) := by decide +kernel
theorem dX8_by_1 : decode cX8_by 1 = .ok (.iconst (-1), 1) := by decide +kernel
theorem dX8_by_2 : decode cX8_by 2 = .ok (.if_icmp .lt 14, 3) := by decide +kernel
theorem dX8_by_5 : decode cX8_by 5 = .ok (.iload_n 1, 1) := by decide +kernel
theorem dX8_by_6 : decode cX8_by 6 = .ok (.aload_n 0, 1) := by decide +kernel
theorem dX8_by_7 : decode cX8_by 7 = .ok (.getfield 10, 3) := by decide +kernel
theorem dX8_by_10 : decode cX8_by 10 = .ok (.getfield 126, 3) := by decide +kernel
theorem dX8_by_13 : decode cX8_by 13 = .ok (.if_icmp .lt 5, 3) := by decide +kernel
theorem dX8_by_16 : decode cX8_by 16 = .ok (.iconst 0, 1) := by decide +kernel
theorem dX8_by_17 : decode cX8_by 17 = .ok (.ireturn, 1) := by decide +kernel
theorem dX8_by_18 : decode cX8_by 18 = .ok (.aload_n 0, 1) := by decide +kernel
theorem dX8_by_19 : decode cX8_by 19 = .ok (.getfield 10, 3) := by decide +kernel
theorem dX8_by_22 : decode cX8_by 22 = .ok (.iload_n 1, 1) := by decide +kernel
theorem dX8_by_23 : decode cX8_by 23 = .ok (.putfield 147, 3) := by decide +kernel
theorem dX8_by_26 : decode cX8_by 26 = .ok (.iconst 1, 1) := by decide +kernel
theorem dX8_by_27 : decode cX8_by 27 = .ok (.ireturn, 1) := by decide +kernel
theorem dX8_played_0 : decode cX8_played 0 = .ok (.aload_n 0, 1) := by decide +kernel
theorem dX8_played_1 : decode cX8_played 1 = .ok (.getfield 43, 3) := by decide +kernel
theorem dX8_played_4 : decode cX8_played 4 = .ok (.iload_n 1, 1) := by decide +kernel
theorem dX8_played_5 : decode cX8_played 5 = .ok (.invokevirtual 129, 3) := by decide +kernel
theorem dX8_played_8 : decode cX8_played 8 = .ok (.astore_n 2, 1) := by decide +kernel
theorem dX8_played_9 : decode cX8_played 9 = .ok (.iload_n 1, 1) := by decide +kernel
theorem dX8_played_10 : decode cX8_played 10 = .ok (.aload_n 0, 1) := by decide +kernel
theorem dX8_played_11 : decode cX8_played 11 = .ok (.getfield 10, 3) := by decide +kernel
theorem dX8_played_14 : decode cX8_played 14 = .ok (.getfield 126, 3) := by decide +kernel
theorem dX8_played_17 : decode cX8_played 17 = .ok (.if_icmp .ge 7, 3) := by decide +kernel
theorem dX8_played_20 : decode cX8_played 20 = .ok (.aload_n 2, 1) := by decide +kernel
theorem dX8_played_21 : decode cX8_played 21 = .ok (.ifnonnull 6, 3) := by decide +kernel
theorem dX8_played_24 : decode cX8_played 24 = .ok (.bipush (-2), 2) := by decide +kernel
theorem dX8_played_26 : decode cX8_played 26 = .ok (.ireturn, 1) := by decide +kernel
theorem dX8_played_27 : decode cX8_played 27 = .ok (.iconst 0, 1) := by decide +kernel
theorem dX8_played_28 : decode cX8_played 28 = .ok (.istore_n 3, 1) := by decide +kernel
theorem dX8_played_29 : decode cX8_played 29 = .ok (.iload_n 3, 1) := by decide +kernel
theorem dX8_played_30 : decode cX8_played 30 = .ok (.aload_n 2, 1) := by decide +kernel
theorem dX8_played_31 : decode cX8_played 31 = .ok (.getfield 150, 3) := by decide +kernel
theorem dX8_played_34 : decode cX8_played 34 = .ok (.if_icmp .ge 126, 3) := by decide +kernel
theorem dX8_played_37 : decode cX8_played 37 = .ok (.aload_n 2, 1) := by decide +kernel
theorem dX8_played_38 : decode cX8_played 38 = .ok (.iload_n 3, 1) := by decide +kernel
theorem dX8_played_39 : decode cX8_played 39 = .ok (.iconst 1, 1) := by decide +kernel
theorem dX8_played_40 : decode cX8_played 40 = .ok (.invokevirtual 155, 3) := by decide +kernel
theorem dX8_played_43 : decode cX8_played 43 = .ok (.istore 4, 2) := by decide +kernel
theorem dX8_played_45 : decode cX8_played 45 = .ok (.aload_n 2, 1) := by decide +kernel
theorem dX8_played_46 : decode cX8_played 46 = .ok (.iload_n 3, 1) := by decide +kernel
theorem dX8_played_47 : decode cX8_played 47 = .ok (.iconst 2, 1) := by decide +kernel
theorem dX8_played_48 : decode cX8_played 48 = .ok (.invokevirtual 155, 3) := by decide +kernel
theorem dX8_played_51 : decode cX8_played 51 = .ok (.istore 5, 2) := by decide +kernel
theorem dX8_played_53 : decode cX8_played 53 = .ok (.iconst 0, 1) := by decide +kernel
theorem dX8_played_54 : decode cX8_played 54 = .ok (.istore 6, 2) := by decide +kernel
theorem dX8_played_56 : decode cX8_played 56 = .ok (.aload_n 2, 1) := by decide +kernel
theorem dX8_played_57 : decode cX8_played 57 = .ok (.iload_n 3, 1) := by decide +kernel
theorem dX8_played_58 : decode cX8_played 58 = .ok (.iconst 0, 1) := by decide +kernel
theorem dX8_played_59 : decode cX8_played 59 = .ok (.invokevirtual 155, 3) := by decide +kernel
theorem dX8_played_62 : decode cX8_played 62 = .ok (.tableswitch 84 20 23 #[30, 49, 62, 73], 30) := by decide +kernel
theorem dX8_played_92 : decode cX8_played 92 = .ok (.aload_n 0, 1) := by decide +kernel
theorem dX8_played_93 : decode cX8_played 93 = .ok (.iload 4, 2) := by decide +kernel
theorem dX8_played_95 : decode cX8_played 95 = .ok (.iload 5, 2) := by decide +kernel
theorem dX8_played_97 : decode cX8_played 97 = .ok (.aload_n 2, 1) := by decide +kernel
theorem dX8_played_98 : decode cX8_played 98 = .ok (.iload_n 3, 1) := by decide +kernel
theorem dX8_played_99 : decode cX8_played 99 = .ok (.iconst 3, 1) := by decide +kernel
theorem dX8_played_100 : decode cX8_played 100 = .ok (.invokevirtual 155, 3) := by decide +kernel
theorem dX8_played_103 : decode cX8_played 103 = .ok (.invokevirtual 158, 3) := by decide +kernel
theorem dX8_played_106 : decode cX8_played 106 = .ok (.istore 6, 2) := by decide +kernel
theorem dX8_played_108 : decode cX8_played 108 = .ok (.goto 38, 3) := by decide +kernel
theorem dX8_played_111 : decode cX8_played 111 = .ok (.aload_n 0, 1) := by decide +kernel
theorem dX8_played_112 : decode cX8_played 112 = .ok (.iload 4, 2) := by decide +kernel
theorem dX8_played_114 : decode cX8_played 114 = .ok (.iload 5, 2) := by decide +kernel
theorem dX8_played_116 : decode cX8_played 116 = .ok (.invokevirtual 161, 3) := by decide +kernel
theorem dX8_played_119 : decode cX8_played 119 = .ok (.istore 6, 2) := by decide +kernel
theorem dX8_played_121 : decode cX8_played 121 = .ok (.goto 25, 3) := by decide +kernel
theorem dX8_played_124 : decode cX8_played 124 = .ok (.aload_n 0, 1) := by decide +kernel
theorem dX8_played_125 : decode cX8_played 125 = .ok (.iload 4, 2) := by decide +kernel
theorem dX8_played_127 : decode cX8_played 127 = .ok (.invokevirtual 164, 3) := by decide +kernel
theorem dX8_played_130 : decode cX8_played 130 = .ok (.istore 6, 2) := by decide +kernel
theorem dX8_played_132 : decode cX8_played 132 = .ok (.goto 14, 3) := by decide +kernel
theorem dX8_played_135 : decode cX8_played 135 = .ok (.aload_n 0, 1) := by decide +kernel
theorem dX8_played_136 : decode cX8_played 136 = .ok (.iload 4, 2) := by decide +kernel
theorem dX8_played_138 : decode cX8_played 138 = .ok (.invokevirtual 168, 3) := by decide +kernel
theorem dX8_played_141 : decode cX8_played 141 = .ok (.istore 6, 2) := by decide +kernel
theorem dX8_played_143 : decode cX8_played 143 = .ok (.goto 3, 3) := by decide +kernel
theorem dX8_played_146 : decode cX8_played 146 = .ok (.iload 6, 2) := by decide +kernel
theorem dX8_played_148 : decode cX8_played 148 = .ok (.iconst (-1), 1) := by decide +kernel
theorem dX8_played_149 : decode cX8_played 149 = .ok (.if_icmp .ne 5, 3) := by decide +kernel
theorem dX8_played_152 : decode cX8_played 152 = .ok (.iload_n 3, 1) := by decide +kernel
theorem dX8_played_153 : decode cX8_played 153 = .ok (.ireturn, 1) := by decide +kernel
theorem dX8_played_154 : decode cX8_played 154 = .ok (.iinc 3 1, 3) := by decide +kernel
theorem dX8_played_157 : decode cX8_played 157 = .ok (.goto (-128), 3) := by decide +kernel
theorem dX8_played_160 : decode cX8_played 160 = .ok (.iconst (-1), 1) := by decide +kernel
theorem dX8_played_161 : decode cX8_played 161 = .ok (.ireturn, 1) := by decide +kernel
theorem dX8_undo_0 : decode cX8_undo 0 = .ok (.aload_n 0, 1) := by decide +kernel
theorem dX8_undo_1 : decode cX8_undo 1 = .ok (.getfield 10, 3) := by decide +kernel
theorem dX8_undo_4 : decode cX8_undo 4 = .ok (.invokevirtual 171, 3) := by decide +kernel
theorem dX8_undo_7 : decode cX8_undo 7 = .ok (.ifCond .eq 13, 3) := by decide +kernel
theorem dX8_undo_10 : decode cX8_undo 10 = .ok (.aload_n 0, 1) := by decide +kernel
theorem dX8_undo_11 : decode cX8_undo 11 = .ok (.getfield 10, 3) := by decide +kernel
theorem dX8_undo_14 : decode cX8_undo 14 = .ok (.getfield 175, 3) := by decide +kernel
theorem dX8_undo_17 : decode cX8_undo 17 = .ok (.goto 4, 3) := by decide +kernel
theorem dX8_undo_20 : decode cX8_undo 20 = .ok (.iconst (-1), 1) := by decide +kernel
theorem dX8_undo_21 : decode cX8_undo 21 = .ok (.ireturn, 1) := by decide +kernel
theorem dX8_of_0 : decode cX8_of 0 = .ok (.aload_n 0, 1) := by decide +kernel
theorem dX8_of_1 : decode cX8_of 1 = .ok (.getfield 10, 3) := by decide +kernel
theorem dX8_of_4 : decode cX8_of 4 = .ok (.iload_n 1, 1) := by decide +kernel
theorem dX8_of_5 : decode cX8_of 5 = .ok (.invokevirtual 178, 3) := by decide +kernel
theorem dX8_of_8 : decode cX8_of 8 = .ok (.ifCond .eq 13, 3) := by decide +kernel
theorem dX8_of_11 : decode cX8_of 11 = .ok (.iload_n 2, 1) := by decide +kernel
theorem dX8_of_12 : decode cX8_of 12 = .ok (.ifCond .lt 9, 3) := by decide +kernel
theorem dX8_of_15 : decode cX8_of 15 = .ok (.iload_n 2, 1) := by decide +kernel
theorem dX8_of_16 : decode cX8_of 16 = .ok (.bipush 9, 2) := by decide +kernel
theorem dX8_of_18 : decode cX8_of 18 = .ok (.if_icmp .le 6, 3) := by decide +kernel
theorem dX8_of_21 : decode cX8_of 21 = .ok (.bipush (-2), 2) := by decide +kernel
theorem dX8_of_23 : decode cX8_of 23 = .ok (.ireturn, 1) := by decide +kernel
theorem dX8_of_24 : decode cX8_of 24 = .ok (.iload_n 2, 1) := by decide +kernel
theorem dX8_of_25 : decode cX8_of 25 = .ok (.bipush 9, 2) := by decide +kernel
theorem dX8_of_27 : decode cX8_of 27 = .ok (.if_icmp .ne 24, 3) := by decide +kernel
theorem dX8_of_30 : decode cX8_of 30 = .ok (.aload_n 0, 1) := by decide +kernel
theorem dX8_of_31 : decode cX8_of 31 = .ok (.getfield 43, 3) := by decide +kernel
theorem dX8_of_34 : decode cX8_of 34 = .ok (.aload_n 0, 1) := by decide +kernel
theorem dX8_of_35 : decode cX8_of 35 = .ok (.getfield 10, 3) := by decide +kernel
theorem dX8_of_38 : decode cX8_of 38 = .ok (.iload_n 1, 1) := by decide +kernel
theorem dX8_of_39 : decode cX8_of 39 = .ok (.invokevirtual 181, 3) := by decide +kernel
theorem dX8_of_42 : decode cX8_of 42 = .ok (.ifCond .eq 7, 3) := by decide +kernel
theorem dX8_of_45 : decode cX8_of 45 = .ok (.iconst 1, 1) := by decide +kernel
theorem dX8_of_46 : decode cX8_of 46 = .ok (.goto 4, 3) := by decide +kernel
theorem dX8_of_49 : decode cX8_of 49 = .ok (.iconst 0, 1) := by decide +kernel
theorem dX8_of_50 : decode cX8_of 50 = .ok (.ireturn, 1) := by decide +kernel
theorem dX8_of_51 : decode cX8_of 51 = .ok (.aload_n 0, 1) := by decide +kernel
theorem dX8_of_52 : decode cX8_of 52 = .ok (.getfield 10, 3) := by decide +kernel
theorem dX8_of_55 : decode cX8_of 55 = .ok (.iload_n 1, 1) := by decide +kernel
theorem dX8_of_56 : decode cX8_of 56 = .ok (.iload_n 2, 1) := by decide +kernel
theorem dX8_of_57 : decode cX8_of 57 = .ok (.invokevirtual 90, 3) := by decide +kernel
theorem dX8_of_60 : decode cX8_of 60 = .ok (.ireturn, 1) := by decide +kernel
theorem dX8_ink_0 : decode cX8_ink 0 = .ok (.aload_n 0, 1) := by decide +kernel
theorem dX8_ink_1 : decode cX8_ink 1 = .ok (.getfield 10, 3) := by decide +kernel
theorem dX8_ink_4 : decode cX8_ink 4 = .ok (.iload_n 1, 1) := by decide +kernel
theorem dX8_ink_5 : decode cX8_ink 5 = .ok (.invokevirtual 178, 3) := by decide +kernel
theorem dX8_ink_8 : decode cX8_ink 8 = .ok (.ifCond .eq 11, 3) := by decide +kernel
theorem dX8_ink_11 : decode cX8_ink 11 = .ok (.iload_n 2, 1) := by decide +kernel
theorem dX8_ink_12 : decode cX8_ink 12 = .ok (.iload_n 3, 1) := by decide +kernel
theorem dX8_ink_13 : decode cX8_ink 13 = .ok (.invokestatic 83, 3) := by decide +kernel
theorem dX8_ink_16 : decode cX8_ink 16 = .ok (.ifCond .ne 5, 3) := by decide +kernel
theorem dX8_ink_19 : decode cX8_ink 19 = .ok (.iconst (-1), 1) := by decide +kernel
theorem dX8_ink_20 : decode cX8_ink 20 = .ok (.ireturn, 1) := by decide +kernel
theorem dX8_ink_21 : decode cX8_ink 21 = .ok (.aload_n 0, 1) := by decide +kernel
theorem dX8_ink_22 : decode cX8_ink 22 = .ok (.getfield 43, 3) := by decide +kernel
theorem dX8_ink_25 : decode cX8_ink 25 = .ok (.aload_n 0, 1) := by decide +kernel
theorem dX8_ink_26 : decode cX8_ink 26 = .ok (.getfield 10, 3) := by decide +kernel
theorem dX8_ink_29 : decode cX8_ink 29 = .ok (.iload_n 1, 1) := by decide +kernel
theorem dX8_ink_30 : decode cX8_ink 30 = .ok (.iload_n 2, 1) := by decide +kernel
theorem dX8_ink_31 : decode cX8_ink 31 = .ok (.iload_n 3, 1) := by decide +kernel
theorem dX8_ink_32 : decode cX8_ink 32 = .ok (.invokevirtual 93, 3) := by decide +kernel
theorem dX8_ink_35 : decode cX8_ink 35 = .ok (.ireturn, 1) := by decide +kernel
theorem dX8_known_0 : decode cX8_known 0 = .ok (.iload_n 1, 1) := by decide +kernel
theorem dX8_known_1 : decode cX8_known 1 = .ok (.invokestatic 185, 3) := by decide +kernel
theorem dX8_known_4 : decode cX8_known 4 = .ok (.ifCond .eq 14, 3) := by decide +kernel
theorem dX8_known_7 : decode cX8_known 7 = .ok (.iload_n 2, 1) := by decide +kernel
theorem dX8_known_8 : decode cX8_known 8 = .ok (.ifCond .lt 10, 3) := by decide +kernel
theorem dX8_known_11 : decode cX8_known 11 = .ok (.iload_n 2, 1) := by decide +kernel
theorem dX8_known_12 : decode cX8_known 12 = .ok (.sipush 999, 3) := by decide +kernel
theorem dX8_known_15 : decode cX8_known 15 = .ok (.if_icmp .le 5, 3) := by decide +kernel
theorem dX8_known_18 : decode cX8_known 18 = .ok (.iconst (-1), 1) := by decide +kernel
theorem dX8_known_19 : decode cX8_known 19 = .ok (.ireturn, 1) := by decide +kernel
theorem dX8_known_20 : decode cX8_known 20 = .ok (.aload_n 0, 1) := by decide +kernel
theorem dX8_known_21 : decode cX8_known 21 = .ok (.iload_n 1, 1) := by decide +kernel
theorem dX8_known_22 : decode cX8_known 22 = .ok (.iconst 0, 1) := by decide +kernel
theorem dX8_known_23 : decode cX8_known 23 = .ok (.iload_n 2, 1) := by decide +kernel
theorem dX8_known_24 : decode cX8_known 24 = .ok (.bipush 10, 2) := by decide +kernel
theorem dX8_known_26 : decode cX8_known 26 = .ok (.invokevirtual 188, 3) := by decide +kernel
theorem dX8_known_29 : decode cX8_known 29 = .ok (.iconst 3, 1) := by decide +kernel
theorem dX8_known_30 : decode cX8_known 30 = .ok (.if_icmp .ne 7, 3) := by decide +kernel
theorem dX8_known_33 : decode cX8_known 33 = .ok (.iconst 1, 1) := by decide +kernel
theorem dX8_known_34 : decode cX8_known 34 = .ok (.goto 4, 3) := by decide +kernel
theorem dX8_known_37 : decode cX8_known 37 = .ok (.iconst 0, 1) := by decide +kernel
theorem dX8_known_38 : decode cX8_known 38 = .ok (.istore_n 3, 1) := by decide +kernel
theorem dX8_known_39 : decode cX8_known 39 = .ok (.aload_n 0, 1) := by decide +kernel
theorem dX8_known_40 : decode cX8_known 40 = .ok (.iload_n 1, 1) := by decide +kernel
theorem dX8_known_41 : decode cX8_known 41 = .ok (.iconst 1, 1) := by decide +kernel
theorem dX8_known_42 : decode cX8_known 42 = .ok (.iload_n 2, 1) := by decide +kernel
theorem dX8_known_43 : decode cX8_known 43 = .ok (.bipush 10, 2) := by decide +kernel
theorem dX8_known_45 : decode cX8_known 45 = .ok (.invokevirtual 188, 3) := by decide +kernel
theorem dX8_known_48 : decode cX8_known 48 = .ok (.iconst 3, 1) := by decide +kernel
theorem dX8_known_49 : decode cX8_known 49 = .ok (.if_icmp .ne 7, 3) := by decide +kernel
theorem dX8_known_52 : decode cX8_known 52 = .ok (.iconst 2, 1) := by decide +kernel
theorem dX8_known_53 : decode cX8_known 53 = .ok (.goto 4, 3) := by decide +kernel
theorem dX8_known_56 : decode cX8_known 56 = .ok (.iconst 0, 1) := by decide +kernel
theorem dX8_known_57 : decode cX8_known 57 = .ok (.istore 4, 2) := by decide +kernel
theorem dX8_known_59 : decode cX8_known 59 = .ok (.iload_n 3, 1) := by decide +kernel
theorem dX8_known_60 : decode cX8_known 60 = .ok (.iload 4, 2) := by decide +kernel
theorem dX8_known_62 : decode cX8_known 62 = .ok (.iadd, 1) := by decide +kernel
theorem dX8_known_63 : decode cX8_known 63 = .ok (.ireturn, 1) := by decide +kernel
theorem dX8_led_0 : decode cX8_led 0 = .ok (.iconst (-1), 1) := by decide +kernel
theorem dX8_led_1 : decode cX8_led 1 = .ok (.istore_n 3, 1) := by decide +kernel
theorem dX8_led_2 : decode cX8_led 2 = .ok (.iload_n 1, 1) := by decide +kernel
theorem dX8_led_3 : decode cX8_led 3 = .ok (.invokestatic 185, 3) := by decide +kernel
theorem dX8_led_6 : decode cX8_led 6 = .ok (.ifCond .ne 5, 3) := by decide +kernel
theorem dX8_led_9 : decode cX8_led 9 = .ok (.iload_n 3, 1) := by decide +kernel
theorem dX8_led_10 : decode cX8_led 10 = .ok (.ireturn, 1) := by decide +kernel
theorem dX8_led_11 : decode cX8_led 11 = .ok (.iconst 0, 1) := by decide +kernel
theorem dX8_led_12 : decode cX8_led 12 = .ok (.istore 4, 2) := by decide +kernel
theorem dX8_led_14 : decode cX8_led 14 = .ok (.iload 4, 2) := by decide +kernel
theorem dX8_led_16 : decode cX8_led 16 = .ok (.aload_n 0, 1) := by decide +kernel
theorem dX8_led_17 : decode cX8_led 17 = .ok (.getfield 10, 3) := by decide +kernel
theorem dX8_led_20 : decode cX8_led 20 = .ok (.getfield 192, 3) := by decide +kernel
theorem dX8_led_23 : decode cX8_led 23 = .ok (.if_icmp .ge 84, 3) := by decide +kernel
theorem dX8_led_26 : decode cX8_led 26 = .ok (.aload_n 0, 1) := by decide +kernel
theorem dX8_led_27 : decode cX8_led 27 = .ok (.getfield 10, 3) := by decide +kernel
theorem dX8_led_30 : decode cX8_led 30 = .ok (.iload 4, 2) := by decide +kernel
theorem dX8_led_32 : decode cX8_led 32 = .ok (.bipush 7, 2) := by decide +kernel
theorem dX8_led_34 : decode cX8_led 34 = .ok (.invokevirtual 90, 3) := by decide +kernel
theorem dX8_led_37 : decode cX8_led 37 = .ok (.istore 5, 2) := by decide +kernel
theorem dX8_led_39 : decode cX8_led 39 = .ok (.iload_n 3, 1) := by decide +kernel
theorem dX8_led_40 : decode cX8_led 40 = .ok (.iconst (-1), 1) := by decide +kernel
theorem dX8_led_41 : decode cX8_led 41 = .ok (.if_icmp .eq 18, 3) := by decide +kernel
theorem dX8_led_44 : decode cX8_led 44 = .ok (.iload 5, 2) := by decide +kernel
theorem dX8_led_46 : decode cX8_led 46 = .ok (.aload_n 0, 1) := by decide +kernel
theorem dX8_led_47 : decode cX8_led 47 = .ok (.getfield 10, 3) := by decide +kernel
theorem dX8_led_50 : decode cX8_led 50 = .ok (.iload_n 3, 1) := by decide +kernel
theorem dX8_led_51 : decode cX8_led 51 = .ok (.bipush 7, 2) := by decide +kernel
theorem dX8_led_53 : decode cX8_led 53 = .ok (.invokevirtual 90, 3) := by decide +kernel
theorem dX8_led_56 : decode cX8_led 56 = .ok (.if_icmp .ge 7, 3) := by decide +kernel
theorem dX8_led_59 : decode cX8_led 59 = .ok (.iconst 1, 1) := by decide +kernel
theorem dX8_led_60 : decode cX8_led 60 = .ok (.goto 4, 3) := by decide +kernel
theorem dX8_led_63 : decode cX8_led 63 = .ok (.iconst 0, 1) := by decide +kernel
theorem dX8_led_64 : decode cX8_led 64 = .ok (.istore 6, 2) := by decide +kernel
theorem dX8_led_66 : decode cX8_led 66 = .ok (.iload 6, 2) := by decide +kernel
theorem dX8_led_68 : decode cX8_led 68 = .ok (.ifCond .eq 33, 3) := by decide +kernel
theorem dX8_led_71 : decode cX8_led 71 = .ok (.aload_n 0, 1) := by decide +kernel
theorem dX8_led_72 : decode cX8_led 72 = .ok (.iload 4, 2) := by decide +kernel
theorem dX8_led_74 : decode cX8_led 74 = .ok (.iload_n 1, 1) := by decide +kernel
theorem dX8_led_75 : decode cX8_led 75 = .ok (.iload_n 2, 1) := by decide +kernel
theorem dX8_led_76 : decode cX8_led 76 = .ok (.invokevirtual 195, 3) := by decide +kernel
theorem dX8_led_79 : decode cX8_led 79 = .ok (.ifCond .eq 22, 3) := by decide +kernel
theorem dX8_led_82 : decode cX8_led 82 = .ok (.aload_n 0, 1) := by decide +kernel
theorem dX8_led_83 : decode cX8_led 83 = .ok (.iload_n 1, 1) := by decide +kernel
theorem dX8_led_84 : decode cX8_led 84 = .ok (.iload_n 2, 1) := by decide +kernel
theorem dX8_led_85 : decode cX8_led 85 = .ok (.iload 5, 2) := by decide +kernel
theorem dX8_led_87 : decode cX8_led 87 = .ok (.iload 4, 2) := by decide +kernel
theorem dX8_led_89 : decode cX8_led 89 = .ok (.iconst 1, 1) := by decide +kernel
theorem dX8_led_90 : decode cX8_led 90 = .ok (.iadd, 1) := by decide +kernel
theorem dX8_led_91 : decode cX8_led 91 = .ok (.invokevirtual 188, 3) := by decide +kernel
theorem dX8_led_94 : decode cX8_led 94 = .ok (.iconst 3, 1) := by decide +kernel
theorem dX8_led_95 : decode cX8_led 95 = .ok (.if_icmp .ne 6, 3) := by decide +kernel
theorem dX8_led_98 : decode cX8_led 98 = .ok (.iload 4, 2) := by decide +kernel
theorem dX8_led_100 : decode cX8_led 100 = .ok (.istore_n 3, 1) := by decide +kernel
theorem dX8_led_101 : decode cX8_led 101 = .ok (.iinc 4 1, 3) := by decide +kernel
theorem dX8_led_104 : decode cX8_led 104 = .ok (.goto (-90), 3) := by decide +kernel
theorem dX8_led_107 : decode cX8_led 107 = .ok (.iload_n 3, 1) := by decide +kernel
theorem dX8_led_108 : decode cX8_led 108 = .ok (.ireturn, 1) := by decide +kernel
theorem dX8_answer_0 : decode cX8_answer 0 = .ok (.aload_n 0, 1) := by decide +kernel
theorem dX8_answer_1 : decode cX8_answer 1 = .ok (.iload_n 1, 1) := by decide +kernel
theorem dX8_answer_2 : decode cX8_answer 2 = .ok (.iconst 0, 1) := by decide +kernel
theorem dX8_answer_3 : decode cX8_answer 3 = .ok (.invokevirtual 199, 3) := by decide +kernel
theorem dX8_answer_6 : decode cX8_answer 6 = .ok (.istore_n 2, 1) := by decide +kernel
theorem dX8_answer_7 : decode cX8_answer 7 = .ok (.iload_n 2, 1) := by decide +kernel
theorem dX8_answer_8 : decode cX8_answer 8 = .ok (.iconst (-1), 1) := by decide +kernel
theorem dX8_answer_9 : decode cX8_answer 9 = .ok (.if_icmp .ne 5, 3) := by decide +kernel
theorem dX8_answer_12 : decode cX8_answer 12 = .ok (.iconst (-1), 1) := by decide +kernel
theorem dX8_answer_13 : decode cX8_answer 13 = .ok (.ireturn, 1) := by decide +kernel
theorem dX8_answer_14 : decode cX8_answer 14 = .ok (.aload_n 0, 1) := by decide +kernel
theorem dX8_answer_15 : decode cX8_answer 15 = .ok (.getfield 10, 3) := by decide +kernel
theorem dX8_answer_18 : decode cX8_answer 18 = .ok (.iload_n 2, 1) := by decide +kernel
theorem dX8_answer_19 : decode cX8_answer 19 = .ok (.bipush 7, 2) := by decide +kernel
theorem dX8_answer_21 : decode cX8_answer 21 = .ok (.invokevirtual 90, 3) := by decide +kernel
theorem dX8_answer_24 : decode cX8_answer 24 = .ok (.aload_n 0, 1) := by decide +kernel
theorem dX8_answer_25 : decode cX8_answer 25 = .ok (.getfield 10, 3) := by decide +kernel
theorem dX8_answer_28 : decode cX8_answer 28 = .ok (.aload_n 0, 1) := by decide +kernel
theorem dX8_answer_29 : decode cX8_answer 29 = .ok (.getfield 10, 3) := by decide +kernel
theorem dX8_answer_32 : decode cX8_answer 32 = .ok (.iload_n 2, 1) := by decide +kernel
theorem dX8_answer_33 : decode cX8_answer 33 = .ok (.iconst 5, 1) := by decide +kernel
theorem dX8_answer_34 : decode cX8_answer 34 = .ok (.invokevirtual 90, 3) := by decide +kernel
theorem dX8_answer_37 : decode cX8_answer 37 = .ok (.iconst 0, 1) := by decide +kernel
theorem dX8_answer_38 : decode cX8_answer 38 = .ok (.invokevirtual 113, 3) := by decide +kernel
theorem dX8_answer_41 : decode cX8_answer 41 = .ok (.iadd, 1) := by decide +kernel
theorem dX8_answer_42 : decode cX8_answer 42 = .ok (.ireturn, 1) := by decide +kernel
theorem dX8_plucks_0 : decode cX8_plucks 0 = .ok (.aload_n 0, 1) := by decide +kernel
theorem dX8_plucks_1 : decode cX8_plucks 1 = .ok (.getfield 10, 3) := by decide +kernel
theorem dX8_plucks_4 : decode cX8_plucks 4 = .ok (.iload_n 1, 1) := by decide +kernel
theorem dX8_plucks_5 : decode cX8_plucks 5 = .ok (.iconst 1, 1) := by decide +kernel
theorem dX8_plucks_6 : decode cX8_plucks 6 = .ok (.invokevirtual 90, 3) := by decide +kernel
theorem dX8_plucks_9 : decode cX8_plucks 9 = .ok (.istore_n 2, 1) := by decide +kernel
theorem dX8_plucks_10 : decode cX8_plucks 10 = .ok (.iconst 0, 1) := by decide +kernel
theorem dX8_plucks_11 : decode cX8_plucks 11 = .ok (.istore_n 3, 1) := by decide +kernel
theorem dX8_plucks_12 : decode cX8_plucks 12 = .ok (.iload_n 3, 1) := by decide +kernel
theorem dX8_plucks_13 : decode cX8_plucks 13 = .ok (.iload_n 2, 1) := by decide +kernel
theorem dX8_plucks_14 : decode cX8_plucks 14 = .ok (.if_icmp .gt 29, 3) := by decide +kernel
theorem dX8_plucks_17 : decode cX8_plucks 17 = .ok (.aload_n 0, 1) := by decide +kernel
theorem dX8_plucks_18 : decode cX8_plucks 18 = .ok (.getfield 43, 3) := by decide +kernel
theorem dX8_plucks_21 : decode cX8_plucks 21 = .ok (.aload_n 0, 1) := by decide +kernel
theorem dX8_plucks_22 : decode cX8_plucks 22 = .ok (.getfield 10, 3) := by decide +kernel
theorem dX8_plucks_25 : decode cX8_plucks 25 = .ok (.iload_n 1, 1) := by decide +kernel
theorem dX8_plucks_26 : decode cX8_plucks 26 = .ok (.iload_n 2, 1) := by decide +kernel
theorem dX8_plucks_27 : decode cX8_plucks 27 = .ok (.iload_n 3, 1) := by decide +kernel
theorem dX8_plucks_28 : decode cX8_plucks 28 = .ok (.isub, 1) := by decide +kernel
theorem dX8_plucks_29 : decode cX8_plucks 29 = .ok (.invokevirtual 203, 3) := by decide +kernel
theorem dX8_plucks_32 : decode cX8_plucks 32 = .ok (.ifCond .eq 5, 3) := by decide +kernel
theorem dX8_plucks_35 : decode cX8_plucks 35 = .ok (.iload_n 3, 1) := by decide +kernel
theorem dX8_plucks_36 : decode cX8_plucks 36 = .ok (.ireturn, 1) := by decide +kernel
theorem dX8_plucks_37 : decode cX8_plucks 37 = .ok (.iinc 3 1, 3) := by decide +kernel
theorem dX8_plucks_40 : decode cX8_plucks 40 = .ok (.goto (-28), 3) := by decide +kernel
theorem dX8_plucks_43 : decode cX8_plucks 43 = .ok (.iconst (-1), 1) := by decide +kernel
theorem dX8_plucks_44 : decode cX8_plucks 44 = .ok (.ireturn, 1) := by decide +kernel
theorem dX8_odds_0 : decode cX8_odds 0 = .ok (.iload_n 1, 1) := by decide +kernel
theorem dX8_odds_1 : decode cX8_odds 1 = .ok (.invokestatic 185, 3) := by decide +kernel
theorem dX8_odds_4 : decode cX8_odds 4 = .ok (.ifCond .eq 12, 3) := by decide +kernel
theorem dX8_odds_7 : decode cX8_odds 7 = .ok (.iload_n 2, 1) := by decide +kernel
theorem dX8_odds_8 : decode cX8_odds 8 = .ok (.ifCond .lt 8, 3) := by decide +kernel
theorem dX8_odds_11 : decode cX8_odds 11 = .ok (.iload_n 2, 1) := by decide +kernel
theorem dX8_odds_12 : decode cX8_odds 12 = .ok (.iconst 2, 1) := by decide +kernel
theorem dX8_odds_13 : decode cX8_odds 13 = .ok (.if_icmp .le 7, 3) := by decide +kernel
theorem dX8_odds_16 : decode cX8_odds 16 = .ok (.ldc2_w 207, 3) := by decide +kernel
theorem dX8_odds_19 : decode cX8_odds 19 = .ok (.lreturn, 1) := by decide +kernel
theorem dX8_odds_20 : decode cX8_odds 20 = .ok (.aload_n 0, 1) := by decide +kernel
theorem dX8_odds_21 : decode cX8_odds 21 = .ok (.getfield 50, 3) := by decide +kernel
theorem dX8_odds_24 : decode cX8_odds 24 = .ok (.aload_n 0, 1) := by decide +kernel
theorem dX8_odds_25 : decode cX8_odds 25 = .ok (.iload_n 1, 1) := by decide +kernel
theorem dX8_odds_26 : decode cX8_odds 26 = .ok (.iconst 0, 1) := by decide +kernel
theorem dX8_odds_27 : decode cX8_odds 27 = .ok (.sipush 999, 3) := by decide +kernel
theorem dX8_odds_30 : decode cX8_odds 30 = .ok (.bipush 10, 2) := by decide +kernel
theorem dX8_odds_32 : decode cX8_odds 32 = .ok (.invokevirtual 188, 3) := by decide +kernel
theorem dX8_odds_35 : decode cX8_odds 35 = .ok (.aload_n 0, 1) := by decide +kernel
theorem dX8_odds_36 : decode cX8_odds 36 = .ok (.iload_n 1, 1) := by decide +kernel
theorem dX8_odds_37 : decode cX8_odds 37 = .ok (.iconst 1, 1) := by decide +kernel
theorem dX8_odds_38 : decode cX8_odds 38 = .ok (.sipush 999, 3) := by decide +kernel
theorem dX8_odds_41 : decode cX8_odds 41 = .ok (.bipush 10, 2) := by decide +kernel
theorem dX8_odds_43 : decode cX8_odds 43 = .ok (.invokevirtual 188, 3) := by decide +kernel
theorem dX8_odds_46 : decode cX8_odds 46 = .ok (.invokevirtual 209, 3) := by decide +kernel
theorem dX8_odds_49 : decode cX8_odds 49 = .ok (.iconst 0, 1) := by decide +kernel
theorem dX8_odds_50 : decode cX8_odds 50 = .ok (.istore 4, 2) := by decide +kernel
theorem dX8_odds_52 : decode cX8_odds 52 = .ok (.iload 4, 2) := by decide +kernel
theorem dX8_odds_54 : decode cX8_odds 54 = .ok (.aload_n 0, 1) := by decide +kernel
theorem dX8_odds_55 : decode cX8_odds 55 = .ok (.getfield 10, 3) := by decide +kernel
theorem dX8_odds_58 : decode cX8_odds 58 = .ok (.getfield 192, 3) := by decide +kernel
theorem dX8_odds_61 : decode cX8_odds 61 = .ok (.if_icmp .ge 54, 3) := by decide +kernel
theorem dX8_odds_64 : decode cX8_odds 64 = .ok (.aload_n 0, 1) := by decide +kernel
theorem dX8_odds_65 : decode cX8_odds 65 = .ok (.getfield 10, 3) := by decide +kernel
theorem dX8_odds_68 : decode cX8_odds 68 = .ok (.iload 4, 2) := by decide +kernel
theorem dX8_odds_70 : decode cX8_odds 70 = .ok (.iconst 4, 1) := by decide +kernel
theorem dX8_odds_71 : decode cX8_odds 71 = .ok (.invokevirtual 90, 3) := by decide +kernel
theorem dX8_odds_74 : decode cX8_odds 74 = .ok (.iconst 1, 1) := by decide +kernel
theorem dX8_odds_75 : decode cX8_odds 75 = .ok (.if_icmp .ne 34, 3) := by decide +kernel
theorem dX8_odds_78 : decode cX8_odds 78 = .ok (.aload_n 0, 1) := by decide +kernel
theorem dX8_odds_79 : decode cX8_odds 79 = .ok (.getfield 10, 3) := by decide +kernel
theorem dX8_odds_82 : decode cX8_odds 82 = .ok (.iload 4, 2) := by decide +kernel
theorem dX8_odds_84 : decode cX8_odds 84 = .ok (.iconst 2, 1) := by decide +kernel
theorem dX8_odds_85 : decode cX8_odds 85 = .ok (.invokevirtual 90, 3) := by decide +kernel
theorem dX8_odds_88 : decode cX8_odds 88 = .ok (.iload_n 1, 1) := by decide +kernel
theorem dX8_odds_89 : decode cX8_odds 89 = .ok (.if_icmp .ne 20, 3) := by decide +kernel
theorem dX8_odds_92 : decode cX8_odds 92 = .ok (.aload_n 0, 1) := by decide +kernel
theorem dX8_odds_93 : decode cX8_odds 93 = .ok (.getfield 50, 3) := by decide +kernel
theorem dX8_odds_96 : decode cX8_odds 96 = .ok (.aload_n 0, 1) := by decide +kernel
theorem dX8_odds_97 : decode cX8_odds 97 = .ok (.getfield 10, 3) := by decide +kernel
theorem dX8_odds_100 : decode cX8_odds 100 = .ok (.aload_n 0, 1) := by decide +kernel
theorem dX8_odds_101 : decode cX8_odds 101 = .ok (.getfield 43, 3) := by decide +kernel
theorem dX8_odds_104 : decode cX8_odds 104 = .ok (.iload 4, 2) := by decide +kernel
theorem dX8_odds_106 : decode cX8_odds 106 = .ok (.invokevirtual 213, 3) := by decide +kernel
theorem dX8_odds_109 : decode cX8_odds 109 = .ok (.iinc 4 1, 3) := by decide +kernel
theorem dX8_odds_112 : decode cX8_odds 112 = .ok (.goto (-60), 3) := by decide +kernel
theorem dX8_odds_115 : decode cX8_odds 115 = .ok (.aload_n 0, 1) := by decide +kernel
theorem dX8_odds_116 : decode cX8_odds 116 = .ok (.getfield 50, 3) := by decide +kernel
theorem dX8_odds_119 : decode cX8_odds 119 = .ok (.getfield 217, 3) := by decide +kernel
theorem dX8_odds_122 : decode cX8_odds 122 = .ok (.bipush 8, 2) := by decide +kernel
theorem dX8_odds_124 : decode cX8_odds 124 = .ok (.if_icmp .le 7, 3) := by decide +kernel
theorem dX8_odds_127 : decode cX8_odds 127 = .ok (.ldc2_w 207, 3) := by decide +kernel
theorem dX8_odds_130 : decode cX8_odds 130 = .ok (.lreturn, 1) := by decide +kernel
theorem dX8_odds_131 : decode cX8_odds 131 = .ok (.aload_n 0, 1) := by decide +kernel
theorem dX8_odds_132 : decode cX8_odds 132 = .ok (.getfield 50, 3) := by decide +kernel
theorem dX8_odds_135 : decode cX8_odds 135 = .ok (.iload_n 2, 1) := by decide +kernel
theorem dX8_odds_136 : decode cX8_odds 136 = .ok (.invokevirtual 220, 3) := by decide +kernel
theorem dX8_odds_139 : decode cX8_odds 139 = .ok (.lstore 4, 2) := by decide +kernel
theorem dX8_odds_141 : decode cX8_odds 141 = .ok (.aload_n 0, 1) := by decide +kernel
theorem dX8_odds_142 : decode cX8_odds 142 = .ok (.getfield 50, 3) := by decide +kernel
theorem dX8_odds_145 : decode cX8_odds 145 = .ok (.getfield 224, 3) := by decide +kernel
theorem dX8_odds_148 : decode cX8_odds 148 = .ok (.lload 4, 2) := by decide +kernel
theorem dX8_odds_150 : decode cX8_odds 150 = .ok (.invokestatic 228, 3) := by decide +kernel
theorem dX8_odds_153 : decode cX8_odds 153 = .ok (.lstore 6, 2) := by decide +kernel
theorem dX8_odds_155 : decode cX8_odds 155 = .ok (.iload_n 3, 1) := by decide +kernel
theorem dX8_odds_156 : decode cX8_odds 156 = .ok (.ifCond .eq 13, 3) := by decide +kernel
theorem dX8_odds_159 : decode cX8_odds 159 = .ok (.aload_n 0, 1) := by decide +kernel
theorem dX8_odds_160 : decode cX8_odds 160 = .ok (.getfield 50, 3) := by decide +kernel
theorem dX8_odds_163 : decode cX8_odds 163 = .ok (.getfield 224, 3) := by decide +kernel
theorem dX8_odds_166 : decode cX8_odds 166 = .ok (.goto 5, 3) := by decide +kernel
theorem dX8_odds_169 : decode cX8_odds 169 = .ok (.lload 4, 2) := by decide +kernel
theorem dX8_odds_171 : decode cX8_odds 171 = .ok (.lload 6, 2) := by decide +kernel
theorem dX8_odds_173 : decode cX8_odds 173 = .ok (.ldiv, 1) := by decide +kernel
theorem dX8_odds_174 : decode cX8_odds 174 = .ok (.lreturn, 1) := by decide +kernel
theorem dX8_plan_0 : decode cX8_plan 0 = .ok (.iload_n 1, 1) := by decide +kernel
theorem dX8_plan_1 : decode cX8_plan 1 = .ok (.invokestatic 185, 3) := by decide +kernel
theorem dX8_plan_4 : decode cX8_plan 4 = .ok (.ifCond .eq 30, 3) := by decide +kernel
theorem dX8_plan_7 : decode cX8_plan 7 = .ok (.iload_n 2, 1) := by decide +kernel
theorem dX8_plan_8 : decode cX8_plan 8 = .ok (.iconst 1, 1) := by decide +kernel
theorem dX8_plan_9 : decode cX8_plan 9 = .ok (.if_icmp .lt 25, 3) := by decide +kernel
theorem dX8_plan_12 : decode cX8_plan 12 = .ok (.iload_n 2, 1) := by decide +kernel
theorem dX8_plan_13 : decode cX8_plan 13 = .ok (.bipush 100, 2) := by decide +kernel
theorem dX8_plan_15 : decode cX8_plan 15 = .ok (.if_icmp .gt 19, 3) := by decide +kernel
theorem dX8_plan_18 : decode cX8_plan 18 = .ok (.iload_n 3, 1) := by decide +kernel
theorem dX8_plan_19 : decode cX8_plan 19 = .ok (.iconst (-1), 1) := by decide +kernel
theorem dX8_plan_20 : decode cX8_plan 20 = .ok (.if_icmp .eq 17, 3) := by decide +kernel
theorem dX8_plan_23 : decode cX8_plan 23 = .ok (.aload_n 0, 1) := by decide +kernel
theorem dX8_plan_24 : decode cX8_plan 24 = .ok (.getfield 10, 3) := by decide +kernel
theorem dX8_plan_27 : decode cX8_plan 27 = .ok (.iload_n 3, 1) := by decide +kernel
theorem dX8_plan_28 : decode cX8_plan 28 = .ok (.invokevirtual 178, 3) := by decide +kernel
theorem dX8_plan_31 : decode cX8_plan 31 = .ok (.ifCond .ne 6, 3) := by decide +kernel
theorem dX8_plan_34 : decode cX8_plan 34 = .ok (.bipush (-2), 2) := by decide +kernel
theorem dX8_plan_36 : decode cX8_plan 36 = .ok (.ireturn, 1) := by decide +kernel
theorem dX8_plan_37 : decode cX8_plan 37 = .ok (.aload_n 0, 1) := by decide +kernel
theorem dX8_plan_38 : decode cX8_plan 38 = .ok (.getfield 57, 3) := by decide +kernel
theorem dX8_plan_41 : decode cX8_plan 41 = .ok (.aload_n 0, 1) := by decide +kernel
theorem dX8_plan_42 : decode cX8_plan 42 = .ok (.getfield 10, 3) := by decide +kernel
theorem dX8_plan_45 : decode cX8_plan 45 = .ok (.aload_n 0, 1) := by decide +kernel
theorem dX8_plan_46 : decode cX8_plan 46 = .ok (.getfield 43, 3) := by decide +kernel
theorem dX8_plan_49 : decode cX8_plan 49 = .ok (.iload_n 1, 1) := by decide +kernel
theorem dX8_plan_50 : decode cX8_plan 50 = .ok (.iload_n 2, 1) := by decide +kernel
theorem dX8_plan_51 : decode cX8_plan 51 = .ok (.invokevirtual 232, 3) := by decide +kernel
theorem dX8_plan_54 : decode cX8_plan 54 = .ok (.istore 4, 2) := by decide +kernel
theorem dX8_plan_56 : decode cX8_plan 56 = .ok (.iload 4, 2) := by decide +kernel
theorem dX8_plan_58 : decode cX8_plan 58 = .ok (.ifCond .ne 6, 3) := by decide +kernel
theorem dX8_plan_61 : decode cX8_plan 61 = .ok (.bipush (-2), 2) := by decide +kernel
theorem dX8_plan_63 : decode cX8_plan 63 = .ok (.ireturn, 1) := by decide +kernel
theorem dX8_plan_64 : decode cX8_plan 64 = .ok (.iload_n 3, 1) := by decide +kernel
theorem dX8_plan_65 : decode cX8_plan 65 = .ok (.iconst (-1), 1) := by decide +kernel
theorem dX8_plan_66 : decode cX8_plan 66 = .ok (.if_icmp .ne 8, 3) := by decide +kernel
theorem dX8_plan_69 : decode cX8_plan 69 = .ok (.iload 4, 2) := by decide +kernel
theorem dX8_plan_71 : decode cX8_plan 71 = .ok (.goto 11, 3) := by decide +kernel
theorem dX8_plan_74 : decode cX8_plan 74 = .ok (.aload_n 0, 1) := by decide +kernel
theorem dX8_plan_75 : decode cX8_plan 75 = .ok (.getfield 57, 3) := by decide +kernel
theorem dX8_plan_78 : decode cX8_plan 78 = .ok (.iload_n 3, 1) := by decide +kernel
theorem dX8_plan_79 : decode cX8_plan 79 = .ok (.invokevirtual 236, 3) := by decide +kernel
theorem dX8_plan_82 : decode cX8_plan 82 = .ok (.ireturn, 1) := by decide +kernel
theorem dX8_holds_0 : decode cX8_holds 0 = .ok (.aload_n 0, 1) := by decide +kernel
theorem dX8_holds_1 : decode cX8_holds 1 = .ok (.getfield 10, 3) := by decide +kernel
theorem dX8_holds_4 : decode cX8_holds 4 = .ok (.invokevirtual 239, 3) := by decide +kernel
theorem dX8_holds_7 : decode cX8_holds 7 = .ok (.istore_n 1, 1) := by decide +kernel
theorem dX8_holds_8 : decode cX8_holds 8 = .ok (.iload_n 1, 1) := by decide +kernel
theorem dX8_holds_9 : decode cX8_holds 9 = .ok (.iconst 1, 1) := by decide +kernel
theorem dX8_holds_10 : decode cX8_holds 10 = .ok (.if_icmp .ge 7, 3) := by decide +kernel
theorem dX8_holds_13 : decode cX8_holds 13 = .ok (.sipush 999, 3) := by decide +kernel
theorem dX8_holds_16 : decode cX8_holds 16 = .ok (.ireturn, 1) := by decide +kernel
theorem dX8_holds_17 : decode cX8_holds 17 = .ok (.sipush 999, 3) := by decide +kernel
theorem dX8_holds_20 : decode cX8_holds 20 = .ok (.aload_n 0, 1) := by decide +kernel
theorem dX8_holds_21 : decode cX8_holds 21 = .ok (.getfield 10, 3) := by decide +kernel
theorem dX8_holds_24 : decode cX8_holds 24 = .ok (.getfield 73, 3) := by decide +kernel
theorem dX8_holds_27 : decode cX8_holds 27 = .ok (.iload_n 1, 1) := by decide +kernel
theorem dX8_holds_28 : decode cX8_holds 28 = .ok (.idiv, 1) := by decide +kernel
theorem dX8_holds_29 : decode cX8_holds 29 = .ok (.invokestatic 243, 3) := by decide +kernel
theorem dX8_holds_32 : decode cX8_holds 32 = .ok (.ireturn, 1) := by decide +kernel
theorem dX8_image_0 : decode cX8_image 0 = .ok (.aload_n 0, 1) := by decide +kernel
theorem dX8_image_1 : decode cX8_image 1 = .ok (.getfield 16, 3) := by decide +kernel
theorem dX8_image_4 : decode cX8_image 4 = .ok (.aload_n 0, 1) := by decide +kernel
theorem dX8_image_5 : decode cX8_image 5 = .ok (.getfield 10, 3) := by decide +kernel
theorem dX8_image_8 : decode cX8_image 8 = .ok (.invokevirtual 248, 3) := by decide +kernel
theorem dX8_image_11 : decode cX8_image 11 = .ok (.aload_n 0, 1) := by decide +kernel
theorem dX8_image_12 : decode cX8_image 12 = .ok (.getfield 10, 3) := by decide +kernel
theorem dX8_image_15 : decode cX8_image 15 = .ok (.getfield 110, 3) := by decide +kernel
theorem dX8_image_18 : decode cX8_image 18 = .ok (.ireturn, 1) := by decide +kernel
theorem dX8_back_0 : decode cX8_back 0 = .ok (.aload_n 0, 1) := by decide +kernel
theorem dX8_back_1 : decode cX8_back 1 = .ok (.getfield 10, 3) := by decide +kernel
theorem dX8_back_4 : decode cX8_back 4 = .ok (.aload_n 0, 1) := by decide +kernel
theorem dX8_back_5 : decode cX8_back 5 = .ok (.getfield 16, 3) := by decide +kernel
theorem dX8_back_8 : decode cX8_back 8 = .ok (.invokevirtual 248, 3) := by decide +kernel
theorem dX8_back_11 : decode cX8_back 11 = .ok (.aload_n 0, 1) := by decide +kernel
theorem dX8_back_12 : decode cX8_back 12 = .ok (.getfield 10, 3) := by decide +kernel
theorem dX8_back_15 : decode cX8_back 15 = .ok (.getfield 110, 3) := by decide +kernel
theorem dX8_back_18 : decode cX8_back 18 = .ok (.ireturn, 1) := by decide +kernel
theorem dX8_about_0 : decode cX8_about 0 = .ok (.iload_n 1, 1) := by decide +kernel
theorem dX8_about_1 : decode cX8_about 1 = .ok (.tableswitch 135 0 9 #[55, 63, 71, 79, 87, 95, 103, 111, 119, 127], 55) := by decide +kernel
theorem dX8_about_56 : decode cX8_about 56 = .ok (.aload_n 0, 1) := by decide +kernel
theorem dX8_about_57 : decode cX8_about 57 = .ok (.getfield 10, 3) := by decide +kernel
theorem dX8_about_60 : decode cX8_about 60 = .ok (.getfield 252, 3) := by decide +kernel
theorem dX8_about_63 : decode cX8_about 63 = .ok (.ireturn, 1) := by decide +kernel
theorem dX8_about_64 : decode cX8_about 64 = .ok (.aload_n 0, 1) := by decide +kernel
theorem dX8_about_65 : decode cX8_about 65 = .ok (.getfield 10, 3) := by decide +kernel
theorem dX8_about_68 : decode cX8_about 68 = .ok (.getfield 192, 3) := by decide +kernel
theorem dX8_about_71 : decode cX8_about 71 = .ok (.ireturn, 1) := by decide +kernel
theorem dX8_about_72 : decode cX8_about 72 = .ok (.aload_n 0, 1) := by decide +kernel
theorem dX8_about_73 : decode cX8_about 73 = .ok (.getfield 10, 3) := by decide +kernel
theorem dX8_about_76 : decode cX8_about 76 = .ok (.getfield 73, 3) := by decide +kernel
theorem dX8_about_79 : decode cX8_about 79 = .ok (.ireturn, 1) := by decide +kernel
theorem dX8_about_80 : decode cX8_about 80 = .ok (.aload_n 0, 1) := by decide +kernel
theorem dX8_about_81 : decode cX8_about 81 = .ok (.getfield 10, 3) := by decide +kernel
