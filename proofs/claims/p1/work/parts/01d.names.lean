theorem dX4_addGoose_37 : decode cX4_addGoose 37 = .ok (.invokevirtual 62, 3) := by decide +kernel
theorem dX4_addGoose_40 : decode cX4_addGoose 40 = .ok (.aload_n 0, 1) := by decide +kernel
theorem dX4_addGoose_41 : decode cX4_addGoose 41 = .ok (.iload_n 3, 1) := by decide +kernel
theorem dX4_addGoose_42 : decode cX4_addGoose 42 = .ok (.iconst 2, 1) := by decide +kernel
theorem dX4_addGoose_43 : decode cX4_addGoose 43 = .ok (.iconst (-1), 1) := by decide +kernel
theorem dX4_addGoose_44 : decode cX4_addGoose 44 = .ok (.invokevirtual 62, 3) := by decide +kernel
theorem dX4_addGoose_47 : decode cX4_addGoose 47 = .ok (.aload_n 0, 1) := by decide +kernel
theorem dX4_addGoose_48 : decode cX4_addGoose 48 = .ok (.iload_n 3, 1) := by decide +kernel
theorem dX4_addGoose_49 : decode cX4_addGoose 49 = .ok (.iconst 3, 1) := by decide +kernel
theorem dX4_addGoose_50 : decode cX4_addGoose 50 = .ok (.iconst (-1), 1) := by decide +kernel
theorem dX4_addGoose_51 : decode cX4_addGoose 51 = .ok (.invokevirtual 62, 3) := by decide +kernel
theorem dX4_addGoose_54 : decode cX4_addGoose 54 = .ok (.aload_n 0, 1) := by decide +kernel
theorem dX4_addGoose_55 : decode cX4_addGoose 55 = .ok (.iload_n 3, 1) := by decide +kernel
theorem dX4_addGoose_56 : decode cX4_addGoose 56 = .ok (.iconst 4, 1) := by decide +kernel
theorem dX4_addGoose_57 : decode cX4_addGoose 57 = .ok (.iconst 0, 1) := by decide +kernel
theorem dX4_addGoose_58 : decode cX4_addGoose 58 = .ok (.invokevirtual 62, 3) := by decide +kernel
theorem dX4_addGoose_61 : decode cX4_addGoose 61 = .ok (.aload_n 0, 1) := by decide +kernel
theorem dX4_addGoose_62 : decode cX4_addGoose 62 = .ok (.iload_n 3, 1) := by decide +kernel
theorem dX4_addGoose_63 : decode cX4_addGoose 63 = .ok (.iconst 5, 1) := by decide +kernel
theorem dX4_addGoose_64 : decode cX4_addGoose 64 = .ok (.iconst (-1), 1) := by decide +kernel
theorem dX4_addGoose_65 : decode cX4_addGoose 65 = .ok (.invokevirtual 62, 3) := by decide +kernel
theorem dX4_addGoose_68 : decode cX4_addGoose 68 = .ok (.aload_n 0, 1) := by decide +kernel
theorem dX4_addGoose_69 : decode cX4_addGoose 69 = .ok (.iload_n 3, 1) := by decide +kernel
theorem dX4_addGoose_70 : decode cX4_addGoose 70 = .ok (.bipush 6, 2) := by decide +kernel
theorem dX4_addGoose_72 : decode cX4_addGoose 72 = .ok (.iconst (-1), 1) := by decide +kernel
theorem dX4_addGoose_73 : decode cX4_addGoose 73 = .ok (.invokevirtual 62, 3) := by decide +kernel
theorem dX4_addGoose_76 : decode cX4_addGoose 76 = .ok (.aload_n 0, 1) := by decide +kernel
theorem dX4_addGoose_77 : decode cX4_addGoose 77 = .ok (.iload_n 3, 1) := by decide +kernel
theorem dX4_addGoose_78 : decode cX4_addGoose 78 = .ok (.bipush 7, 2) := by decide +kernel
theorem dX4_addGoose_80 : decode cX4_addGoose 80 = .ok (.iconst (-1), 1) := by decide +kernel
theorem dX4_addGoose_81 : decode cX4_addGoose 81 = .ok (.invokevirtual 62, 3) := by decide +kernel
theorem dX4_addGoose_84 : decode cX4_addGoose 84 = .ok (.aload_n 0, 1) := by decide +kernel
theorem dX4_addGoose_85 : decode cX4_addGoose 85 = .ok (.iload_n 3, 1) := by decide +kernel
theorem dX4_addGoose_86 : decode cX4_addGoose 86 = .ok (.bipush 8, 2) := by decide +kernel
theorem dX4_addGoose_88 : decode cX4_addGoose 88 = .ok (.iconst 0, 1) := by decide +kernel
theorem dX4_addGoose_89 : decode cX4_addGoose 89 = .ok (.invokevirtual 62, 3) := by decide +kernel
theorem dX4_addGoose_92 : decode cX4_addGoose 92 = .ok (.iload_n 3, 1) := by decide +kernel
theorem dX4_addGoose_93 : decode cX4_addGoose 93 = .ok (.ireturn, 1) := by decide +kernel
set_option maxRecDepth 20000 in
theorem ggX4_isHome_X4_ofGoose : GoodIn wsX4_isHome wsX4_ofGoose := goodIn_r _ [5, 6, 7, 8, 9, 10, 11, 12, 13, 14, 15, 16, 17, 18, 19, 20] (by decide +kernel) (by decide +kernel)
set_option maxRecDepth 20000 in
theorem gX4_isHome_X4_ofGoose : GoodIn wsX4_isHome (wsV RX4 66 RX4 yX4_ofGoose wsX4_ofGoose) := goodIn_app (goodIn_of _ (by decide +kernel)) ggX4_isHome_X4_ofGoose
theorem dX4_isHome_0 : decode cX4_isHome 0 = .ok (.aload_n 0, 1) := by decide +kernel
theorem dX4_isHome_1 : decode cX4_isHome 1 = .ok (.iload_n 1, 1) := by decide +kernel
theorem dX4_isHome_2 : decode cX4_isHome 2 = .ok (.iconst 4, 1) := by decide +kernel
theorem dX4_isHome_3 : decode cX4_isHome 3 = .ok (.invokevirtual 66, 3) := by decide +kernel
theorem dX4_isHome_6 : decode cX4_isHome 6 = .ok (.ifCond .ne 7, 3) := by decide +kernel
theorem dX4_isHome_9 : decode cX4_isHome 9 = .ok (.iconst 1, 1) := by decide +kernel
theorem dX4_isHome_10 : decode cX4_isHome 10 = .ok (.goto 4, 3) := by decide +kernel
theorem dX4_isHome_13 : decode cX4_isHome 13 = .ok (.iconst 0, 1) := by decide +kernel
theorem dX4_isHome_14 : decode cX4_isHome 14 = .ok (.ireturn, 1) := by decide +kernel
set_option maxRecDepth 20000 in
theorem ggX4_isFree_X4_isHome : GoodIn wsX4_isFree wsX4_isHome := goodIn_r _ [5, 6, 7, 8, 4, 9, 10, 11, 12, 13, 14, 15, 16, 17, 18, 19, 20, 21, 22, 23, 24] (by decide +kernel) (by decide +kernel)
set_option maxRecDepth 20000 in
theorem gX4_isFree_X4_isHome : GoodIn wsX4_isFree (wsV RX4 70 RX4 yX4_isHome wsX4_isHome) := goodIn_app (goodIn_of _ (by decide +kernel)) ggX4_isFree_X4_isHome
set_option maxRecDepth 20000 in
theorem ggX4_isFree_X4_ofGoose : GoodIn wsX4_isFree wsX4_ofGoose := goodIn_r _ [9, 10, 11, 12, 13, 14, 15, 16, 17, 18, 19, 20, 21, 22, 23, 24] (by decide +kernel) (by decide +kernel)
set_option maxRecDepth 20000 in
theorem gX4_isFree_X4_ofGoose : GoodIn wsX4_isFree (wsV RX4 66 RX4 yX4_ofGoose wsX4_ofGoose) := goodIn_app (goodIn_of _ (by decide +kernel)) ggX4_isFree_X4_ofGoose
theorem dX4_isFree_0 : decode cX4_isFree 0 = .ok (.aload_n 0, 1) := by decide +kernel
theorem dX4_isFree_1 : decode cX4_isFree 1 = .ok (.iload_n 1, 1) := by decide +kernel
theorem dX4_isFree_2 : decode cX4_isFree 2 = .ok (.invokevirtual 70, 3) := by decide +kernel
theorem dX4_isFree_5 : decode cX4_isFree 5 = .ok (.ifCond .eq 17, 3) := by decide +kernel
theorem dX4_isFree_8 : decode cX4_isFree 8 = .ok (.aload_n 0, 1) := by decide +kernel
theorem dX4_isFree_9 : decode cX4_isFree 9 = .ok (.iload_n 1, 1) := by decide +kernel
theorem dX4_isFree_10 : decode cX4_isFree 10 = .ok (.bipush 8, 2) := by decide +kernel
theorem dX4_isFree_12 : decode cX4_isFree 12 = .ok (.invokevirtual 66, 3) := by decide +kernel
theorem dX4_isFree_15 : decode cX4_isFree 15 = .ok (.ifCond .ne 7, 3) := by decide +kernel
theorem dX4_isFree_18 : decode cX4_isFree 18 = .ok (.iconst 1, 1) := by decide +kernel
theorem dX4_isFree_19 : decode cX4_isFree 19 = .ok (.goto 4, 3) := by decide +kernel
theorem dX4_isFree_22 : decode cX4_isFree 22 = .ok (.iconst 0, 1) := by decide +kernel
theorem dX4_isFree_23 : decode cX4_isFree 23 = .ok (.ireturn, 1) := by decide +kernel
set_option maxRecDepth 20000 in
theorem ggX4_settle_X4_setGoose : GoodIn wsX4_settle wsX4_setGoose := goodIn_r _ [6, 7, 8, 9, 10, 5, 11, 12, 13, 14, 15, 16, 17, 18, 19, 20, 21, 22, 23, 24, 25] (by decide +kernel) (by decide +kernel)
set_option maxRecDepth 20000 in
theorem gX4_settle_X4_setGoose : GoodIn wsX4_settle (wsV RX4 62 RX4 yX4_setGoose wsX4_setGoose) := goodIn_app (goodIn_of _ (by decide +kernel)) ggX4_settle_X4_setGoose
theorem dX4_settle_0 : decode cX4_settle 0 = .ok (.aload_n 0, 1) := by decide +kernel
theorem dX4_settle_1 : decode cX4_settle 1 = .ok (.iload_n 1, 1) := by decide +kernel
theorem dX4_settle_2 : decode cX4_settle 2 = .ok (.iconst 4, 1) := by decide +kernel
theorem dX4_settle_3 : decode cX4_settle 3 = .ok (.iload_n 2, 1) := by decide +kernel
theorem dX4_settle_4 : decode cX4_settle 4 = .ok (.invokevirtual 62, 3) := by decide +kernel
theorem dX4_settle_7 : decode cX4_settle 7 = .ok (.aload_n 0, 1) := by decide +kernel
theorem dX4_settle_8 : decode cX4_settle 8 = .ok (.iload_n 1, 1) := by decide +kernel
theorem dX4_settle_9 : decode cX4_settle 9 = .ok (.bipush 7, 2) := by decide +kernel
theorem dX4_settle_11 : decode cX4_settle 11 = .ok (.aload_n 0, 1) := by decide +kernel
theorem dX4_settle_12 : decode cX4_settle 12 = .ok (.getfield 34, 3) := by decide +kernel
theorem dX4_settle_15 : decode cX4_settle 15 = .ok (.invokevirtual 62, 3) := by decide +kernel
theorem dX4_settle_18 : decode cX4_settle 18 = .ok (.return_, 1) := by decide +kernel
set_option maxRecDepth 20000 in
theorem ggX4_countFate_X4_ofGoose : GoodIn wsX4_countFate wsX4_ofGoose := goodIn_r _ [6, 1, 7, 8, 9, 10, 11, 12, 13, 14, 15, 16, 17, 18, 19, 20] (by decide +kernel) (by decide +kernel)
set_option maxRecDepth 20000 in
theorem gX4_countFate_X4_ofGoose : GoodIn wsX4_countFate (wsV RX4 66 RX4 yX4_ofGoose wsX4_ofGoose) := goodIn_app (goodIn_of _ (by decide +kernel)) ggX4_countFate_X4_ofGoose
theorem dX4_countFate_0 : decode cX4_countFate 0 = .ok (.iconst 0, 1) := by decide +kernel
theorem dX4_countFate_1 : decode cX4_countFate 1 = .ok (.istore_n 2, 1) := by decide +kernel
theorem dX4_countFate_2 : decode cX4_countFate 2 = .ok (.iconst 0, 1) := by decide +kernel
theorem dX4_countFate_3 : decode cX4_countFate 3 = .ok (.istore_n 3, 1) := by decide +kernel
theorem dX4_countFate_4 : decode cX4_countFate 4 = .ok (.iload_n 3, 1) := by decide +kernel
theorem dX4_countFate_5 : decode cX4_countFate 5 = .ok (.aload_n 0, 1) := by decide +kernel
theorem dX4_countFate_6 : decode cX4_countFate 6 = .ok (.getfield 21, 3) := by decide +kernel
theorem dX4_countFate_9 : decode cX4_countFate 9 = .ok (.if_icmp .ge 22, 3) := by decide +kernel
theorem dX4_countFate_12 : decode cX4_countFate 12 = .ok (.aload_n 0, 1) := by decide +kernel
theorem dX4_countFate_13 : decode cX4_countFate 13 = .ok (.iload_n 3, 1) := by decide +kernel
theorem dX4_countFate_14 : decode cX4_countFate 14 = .ok (.iconst 4, 1) := by decide +kernel
theorem dX4_countFate_15 : decode cX4_countFate 15 = .ok (.invokevirtual 66, 3) := by decide +kernel
theorem dX4_countFate_18 : decode cX4_countFate 18 = .ok (.iload_n 1, 1) := by decide +kernel
theorem dX4_countFate_19 : decode cX4_countFate 19 = .ok (.if_icmp .ne 6, 3) := by decide +kernel
theorem dX4_countFate_22 : decode cX4_countFate 22 = .ok (.iinc 2 1, 3) := by decide +kernel
theorem dX4_countFate_25 : decode cX4_countFate 25 = .ok (.iinc 3 1, 3) := by decide +kernel
theorem dX4_countFate_28 : decode cX4_countFate 28 = .ok (.goto (-24), 3) := by decide +kernel
theorem dX4_countFate_31 : decode cX4_countFate 31 = .ok (.iload_n 2, 1) := by decide +kernel
theorem dX4_countFate_32 : decode cX4_countFate 32 = .ok (.ireturn, 1) := by decide +kernel
set_option maxRecDepth 20000 in
theorem ggX4_dailyNeed_X4_countFate : GoodIn wsX4_dailyNeed wsX4_countFate := goodIn_r _ [6, 7, 8, 9, 10, 5, 11, 12, 13, 14, 15, 16, 17, 18, 19, 20, 21, 22, 23, 24, 25] (by decide +kernel) (by decide +kernel)
set_option maxRecDepth 20000 in
theorem gX4_dailyNeed_X4_countFate : GoodIn wsX4_dailyNeed (wsV RX4 73 RX4 yX4_countFate wsX4_countFate) := goodIn_app (goodIn_of _ (by decide +kernel)) ggX4_dailyNeed_X4_countFate
theorem dX4_dailyNeed_0 : decode cX4_dailyNeed 0 = .ok (.aload_n 0, 1) := by decide +kernel
theorem dX4_dailyNeed_1 : decode cX4_dailyNeed 1 = .ok (.getfield 31, 3) := by decide +kernel
theorem dX4_dailyNeed_4 : decode cX4_dailyNeed 4 = .ok (.aload_n 0, 1) := by decide +kernel
theorem dX4_dailyNeed_5 : decode cX4_dailyNeed 5 = .ok (.iconst 0, 1) := by decide +kernel
theorem dX4_dailyNeed_6 : decode cX4_dailyNeed 6 = .ok (.invokevirtual 73, 3) := by decide +kernel
theorem dX4_dailyNeed_9 : decode cX4_dailyNeed 9 = .ok (.iadd, 1) := by decide +kernel
theorem dX4_dailyNeed_10 : decode cX4_dailyNeed 10 = .ok (.ireturn, 1) := by decide +kernel
set_option maxRecDepth 20000 in
theorem ggX4_eatDaily_X4_dailyNeed : GoodIn wsX4_eatDaily wsX4_dailyNeed := goodIn_r _ [7, 8, 9, 10, 11, 6, 12, 2, 13, 14, 15, 16, 17, 39, 40, 41, 42, 43, 44, 45, 46, 47, 48, 49, 50, 51] (by decide +kernel) (by decide +kernel)
set_option maxRecDepth 20000 in
theorem gX4_eatDaily_X4_dailyNeed : GoodIn wsX4_eatDaily (wsV RX4 77 RX4 yX4_dailyNeed wsX4_dailyNeed) := goodIn_app (goodIn_of _ (by decide +kernel)) ggX4_eatDaily_X4_dailyNeed
set_option maxRecDepth 20000 in
theorem ggX4_eatDaily_X4_isFree : GoodIn wsX4_eatDaily wsX4_isFree := goodIn_r _ [21, 22, 23, 24, 6, 25, 13, 14, 15, 16, 2, 17, 39, 40, 41, 42, 43, 44, 45, 46, 47, 48, 49, 50, 51] (by decide +kernel) (by decide +kernel)
set_option maxRecDepth 20000 in
theorem gX4_eatDaily_X4_isFree : GoodIn wsX4_eatDaily (wsV RX4 81 RX4 yX4_isFree wsX4_isFree) := goodIn_app (goodIn_of _ (by decide +kernel)) ggX4_eatDaily_X4_isFree
set_option maxRecDepth 20000 in
theorem ggX4_eatDaily_X4_settle : GoodIn wsX4_eatDaily wsX4_settle := goodIn_r _ [29, 30, 31, 32, 33, 6, 34, 17, 35, 36, 37, 38, 2, 39, 40, 41, 42, 43, 44, 45, 46, 47, 48, 49, 50, 51] (by decide +kernel) (by decide +kernel)
set_option maxRecDepth 20000 in
theorem gX4_eatDaily_X4_settle : GoodIn wsX4_eatDaily (wsV RX4 84 RX4 yX4_settle wsX4_settle) := goodIn_app (goodIn_of _ (by decide +kernel)) ggX4_eatDaily_X4_settle
set_option maxRecDepth 20000 in
theorem ggX4_eatDaily_X4_ofGoose : GoodIn wsX4_eatDaily wsX4_ofGoose := goodIn_r _ [16, 2, 17, 39, 40, 41, 42, 43, 44, 45, 46, 47, 48, 49, 50, 51] (by decide +kernel) (by decide +kernel)
set_option maxRecDepth 20000 in
theorem gX4_eatDaily_X4_ofGoose : GoodIn wsX4_eatDaily (wsV RX4 66 RX4 yX4_ofGoose wsX4_ofGoose) := goodIn_app (goodIn_of _ (by decide +kernel)) ggX4_eatDaily_X4_ofGoose
theorem dX4_eatDaily_0 : decode cX4_eatDaily 0 = .ok (.aload_n 0, 1) := by decide +kernel
theorem dX4_eatDaily_1 : decode cX4_eatDaily 1 = .ok (.invokevirtual 77, 3) := by decide +kernel
theorem dX4_eatDaily_4 : decode cX4_eatDaily 4 = .ok (.istore_n 1, 1) := by decide +kernel
theorem dX4_eatDaily_5 : decode cX4_eatDaily 5 = .ok (.iload_n 1, 1) := by decide +kernel
theorem dX4_eatDaily_6 : decode cX4_eatDaily 6 = .ok (.aload_n 0, 1) := by decide +kernel
theorem dX4_eatDaily_7 : decode cX4_eatDaily 7 = .ok (.getfield 28, 3) := by decide +kernel
theorem dX4_eatDaily_10 : decode cX4_eatDaily 10 = .ok (.if_icmp .gt 14, 3) := by decide +kernel
theorem dX4_eatDaily_13 : decode cX4_eatDaily 13 = .ok (.aload_n 0, 1) := by decide +kernel
theorem dX4_eatDaily_14 : decode cX4_eatDaily 14 = .ok (.dup, 1) := by decide +kernel
theorem dX4_eatDaily_15 : decode cX4_eatDaily 15 = .ok (.getfield 28, 3) := by decide +kernel
theorem dX4_eatDaily_18 : decode cX4_eatDaily 18 = .ok (.iload_n 1, 1) := by decide +kernel
theorem dX4_eatDaily_19 : decode cX4_eatDaily 19 = .ok (.isub, 1) := by decide +kernel
theorem dX4_eatDaily_20 : decode cX4_eatDaily 20 = .ok (.putfield 28, 3) := by decide +kernel
theorem dX4_eatDaily_23 : decode cX4_eatDaily 23 = .ok (.return_, 1) := by decide +kernel
theorem dX4_eatDaily_24 : decode cX4_eatDaily 24 = .ok (.aload_n 0, 1) := by decide +kernel
theorem dX4_eatDaily_25 : decode cX4_eatDaily 25 = .ok (.iconst 0, 1) := by decide +kernel
theorem dX4_eatDaily_26 : decode cX4_eatDaily 26 = .ok (.putfield 28, 3) := by decide +kernel
theorem dX4_eatDaily_29 : decode cX4_eatDaily 29 = .ok (.iconst 0, 1) := by decide +kernel
theorem dX4_eatDaily_30 : decode cX4_eatDaily 30 = .ok (.istore_n 2, 1) := by decide +kernel
theorem dX4_eatDaily_31 : decode cX4_eatDaily 31 = .ok (.iload_n 2, 1) := by decide +kernel
theorem dX4_eatDaily_32 : decode cX4_eatDaily 32 = .ok (.aload_n 0, 1) := by decide +kernel
theorem dX4_eatDaily_33 : decode cX4_eatDaily 33 = .ok (.getfield 21, 3) := by decide +kernel
theorem dX4_eatDaily_36 : decode cX4_eatDaily 36 = .ok (.if_icmp .ge 34, 3) := by decide +kernel
theorem dX4_eatDaily_39 : decode cX4_eatDaily 39 = .ok (.aload_n 0, 1) := by decide +kernel
theorem dX4_eatDaily_40 : decode cX4_eatDaily 40 = .ok (.iload_n 2, 1) := by decide +kernel
theorem dX4_eatDaily_41 : decode cX4_eatDaily 41 = .ok (.invokevirtual 81, 3) := by decide +kernel
theorem dX4_eatDaily_44 : decode cX4_eatDaily 44 = .ok (.ifCond .eq 20, 3) := by decide +kernel
theorem dX4_eatDaily_47 : decode cX4_eatDaily 47 = .ok (.aload_n 0, 1) := by decide +kernel
theorem dX4_eatDaily_48 : decode cX4_eatDaily 48 = .ok (.iload_n 2, 1) := by decide +kernel
theorem dX4_eatDaily_49 : decode cX4_eatDaily 49 = .ok (.iconst 5, 1) := by decide +kernel
theorem dX4_eatDaily_50 : decode cX4_eatDaily 50 = .ok (.invokevirtual 84, 3) := by decide +kernel
theorem dX4_eatDaily_53 : decode cX4_eatDaily 53 = .ok (.aload_n 0, 1) := by decide +kernel
theorem dX4_eatDaily_54 : decode cX4_eatDaily 54 = .ok (.aload_n 0, 1) := by decide +kernel
theorem dX4_eatDaily_55 : decode cX4_eatDaily 55 = .ok (.iload_n 2, 1) := by decide +kernel
theorem dX4_eatDaily_56 : decode cX4_eatDaily 56 = .ok (.iconst 0, 1) := by decide +kernel
theorem dX4_eatDaily_57 : decode cX4_eatDaily 57 = .ok (.invokevirtual 66, 3) := by decide +kernel
theorem dX4_eatDaily_60 : decode cX4_eatDaily 60 = .ok (.putfield 28, 3) := by decide +kernel
theorem dX4_eatDaily_63 : decode cX4_eatDaily 63 = .ok (.return_, 1) := by decide +kernel
theorem dX4_eatDaily_64 : decode cX4_eatDaily 64 = .ok (.iinc 2 1, 3) := by decide +kernel
theorem dX4_eatDaily_67 : decode cX4_eatDaily 67 = .ok (.goto (-36), 3) := by decide +kernel
theorem dX4_eatDaily_70 : decode cX4_eatDaily 70 = .ok (.return_, 1) := by decide +kernel
theorem dX4_draw_0 : decode cX4_draw 0 = .ok (.aload_n 0, 1) := by decide +kernel
theorem dX4_draw_1 : decode cX4_draw 1 = .ok (.getfield 37, 3) := by decide +kernel
theorem dX4_draw_4 : decode cX4_draw 4 = .ok (.bipush 10, 2) := by decide +kernel
theorem dX4_draw_6 : decode cX4_draw 6 = .ok (.irem, 1) := by decide +kernel
theorem dX4_draw_7 : decode cX4_draw 7 = .ok (.istore_n 1, 1) := by decide +kernel
theorem dX4_draw_8 : decode cX4_draw 8 = .ok (.aload_n 0, 1) := by decide +kernel
theorem dX4_draw_9 : decode cX4_draw 9 = .ok (.aload_n 0, 1) := by decide +kernel
theorem dX4_draw_10 : decode cX4_draw 10 = .ok (.getfield 37, 3) := by decide +kernel
theorem dX4_draw_13 : decode cX4_draw 13 = .ok (.sipush 157, 3) := by decide +kernel
theorem dX4_draw_16 : decode cX4_draw 16 = .ok (.imul, 1) := by decide +kernel
theorem dX4_draw_17 : decode cX4_draw 17 = .ok (.bipush 61, 2) := by decide +kernel
theorem dX4_draw_19 : decode cX4_draw 19 = .ok (.iadd, 1) := by decide +kernel
theorem dX4_draw_20 : decode cX4_draw 20 = .ok (.sipush 30071, 3) := by decide +kernel
theorem dX4_draw_23 : decode cX4_draw 23 = .ok (.irem, 1) := by decide +kernel
theorem dX4_draw_24 : decode cX4_draw 24 = .ok (.putfield 37, 3) := by decide +kernel
theorem dX4_draw_27 : decode cX4_draw 27 = .ok (.iload_n 1, 1) := by decide +kernel
theorem dX4_draw_28 : decode cX4_draw 28 = .ok (.ireturn, 1) := by decide +kernel
theorem dX4_keepStep_0 : decode cX4_keepStep 0 = .ok (.aload_n 0, 1) := by decide +kernel
theorem dX4_keepStep_1 : decode cX4_keepStep 1 = .ok (.getfield 49, 3) := by decide +kernel
theorem dX4_keepStep_4 : decode cX4_keepStep 4 = .ok (.bipush 20, 2) := by decide +kernel
theorem dX4_keepStep_6 : decode cX4_keepStep 6 = .ok (.if_icmp .ge 16, 3) := by decide +kernel
theorem dX4_keepStep_9 : decode cX4_keepStep 9 = .ok (.aload_n 0, 1) := by decide +kernel
theorem dX4_keepStep_10 : decode cX4_keepStep 10 = .ok (.dup, 1) := by decide +kernel
theorem dX4_keepStep_11 : decode cX4_keepStep 11 = .ok (.getfield 49, 3) := by decide +kernel
theorem dX4_keepStep_14 : decode cX4_keepStep 14 = .ok (.iconst 1, 1) := by decide +kernel
theorem dX4_keepStep_15 : decode cX4_keepStep 15 = .ok (.iadd, 1) := by decide +kernel
theorem dX4_keepStep_16 : decode cX4_keepStep 16 = .ok (.putfield 49, 3) := by decide +kernel
theorem dX4_keepStep_19 : decode cX4_keepStep 19 = .ok (.goto 16, 3) := by decide +kernel
theorem dX4_keepStep_22 : decode cX4_keepStep 22 = .ok (.aload_n 0, 1) := by decide +kernel
theorem dX4_keepStep_23 : decode cX4_keepStep 23 = .ok (.aload_n 0, 1) := by decide +kernel
theorem dX4_keepStep_24 : decode cX4_keepStep 24 = .ok (.getfield 46, 3) := by decide +kernel
theorem dX4_keepStep_27 : decode cX4_keepStep 27 = .ok (.iconst 1, 1) := by decide +kernel
theorem dX4_keepStep_28 : decode cX4_keepStep 28 = .ok (.iadd, 1) := by decide +kernel
theorem dX4_keepStep_29 : decode cX4_keepStep 29 = .ok (.bipush 20, 2) := by decide +kernel
theorem dX4_keepStep_31 : decode cX4_keepStep 31 = .ok (.irem, 1) := by decide +kernel
theorem dX4_keepStep_32 : decode cX4_keepStep 32 = .ok (.putfield 46, 3) := by decide +kernel
theorem dX4_keepStep_35 : decode cX4_keepStep 35 = .ok (.aload_n 0, 1) := by decide +kernel
theorem dX4_keepStep_36 : decode cX4_keepStep 36 = .ok (.getfield 46, 3) := by decide +kernel
theorem dX4_keepStep_39 : decode cX4_keepStep 39 = .ok (.aload_n 0, 1) := by decide +kernel
theorem dX4_keepStep_40 : decode cX4_keepStep 40 = .ok (.getfield 49, 3) := by decide +kernel
theorem dX4_keepStep_43 : decode cX4_keepStep 43 = .ok (.iadd, 1) := by decide +kernel
theorem dX4_keepStep_44 : decode cX4_keepStep 44 = .ok (.iconst 1, 1) := by decide +kernel
theorem dX4_keepStep_45 : decode cX4_keepStep 45 = .ok (.isub, 1) := by decide +kernel
theorem dX4_keepStep_46 : decode cX4_keepStep 46 = .ok (.bipush 20, 2) := by decide +kernel
theorem dX4_keepStep_48 : decode cX4_keepStep 48 = .ok (.irem, 1) := by decide +kernel
theorem dX4_keepStep_49 : decode cX4_keepStep 49 = .ok (.bipush 94, 2) := by decide +kernel
theorem dX4_keepStep_51 : decode cX4_keepStep 51 = .ok (.imul, 1) := by decide +kernel
theorem dX4_keepStep_52 : decode cX4_keepStep 52 = .ok (.istore_n 1, 1) := by decide +kernel
theorem dX4_keepStep_53 : decode cX4_keepStep 53 = .ok (.iload_n 1, 1) := by decide +kernel
theorem dX4_keepStep_54 : decode cX4_keepStep 54 = .ok (.ifCond .lt 15, 3) := by decide +kernel
theorem dX4_keepStep_57 : decode cX4_keepStep 57 = .ok (.iload_n 1, 1) := by decide +kernel
theorem dX4_keepStep_58 : decode cX4_keepStep 58 = .ok (.bipush 94, 2) := by decide +kernel
theorem dX4_keepStep_60 : decode cX4_keepStep 60 = .ok (.iadd, 1) := by decide +kernel
theorem dX4_keepStep_61 : decode cX4_keepStep 61 = .ok (.aload_n 0, 1) := by decide +kernel
theorem dX4_keepStep_62 : decode cX4_keepStep 62 = .ok (.getfield 18, 3) := by decide +kernel
theorem dX4_keepStep_65 : decode cX4_keepStep 65 = .ok (.arraylength, 1) := by decide +kernel
theorem dX4_keepStep_66 : decode cX4_keepStep 66 = .ok (.if_icmp .le 4, 3) := by decide +kernel
theorem dX4_keepStep_69 : decode cX4_keepStep 69 = .ok (.return_, 1) := by decide +kernel
theorem dX4_keepStep_70 : decode cX4_keepStep 70 = .ok (.aload_n 0, 1) := by decide +kernel
theorem dX4_keepStep_71 : decode cX4_keepStep 71 = .ok (.getfield 11, 3) := by decide +kernel
theorem dX4_keepStep_74 : decode cX4_keepStep 74 = .ok (.iconst 0, 1) := by decide +kernel
theorem dX4_keepStep_75 : decode cX4_keepStep 75 = .ok (.aload_n 0, 1) := by decide +kernel
theorem dX4_keepStep_76 : decode cX4_keepStep 76 = .ok (.getfield 18, 3) := by decide +kernel
theorem dX4_keepStep_79 : decode cX4_keepStep 79 = .ok (.iload_n 1, 1) := by decide +kernel
theorem dX4_keepStep_80 : decode cX4_keepStep 80 = .ok (.bipush 90, 2) := by decide +kernel
theorem dX4_keepStep_82 : decode cX4_keepStep 82 = .ok (.invokestatic 52, 3) := by decide +kernel
theorem dX4_keepStep_85 : decode cX4_keepStep 85 = .ok (.aload_n 0, 1) := by decide +kernel
theorem dX4_keepStep_86 : decode cX4_keepStep 86 = .ok (.getfield 18, 3) := by decide +kernel
theorem dX4_keepStep_89 : decode cX4_keepStep 89 = .ok (.iload_n 1, 1) := by decide +kernel
theorem dX4_keepStep_90 : decode cX4_keepStep 90 = .ok (.bipush 90, 2) := by decide +kernel
theorem dX4_keepStep_92 : decode cX4_keepStep 92 = .ok (.iadd, 1) := by decide +kernel
theorem dX4_keepStep_93 : decode cX4_keepStep 93 = .ok (.aload_n 0, 1) := by decide +kernel
theorem dX4_keepStep_94 : decode cX4_keepStep 94 = .ok (.getfield 21, 3) := by decide +kernel
theorem dX4_keepStep_97 : decode cX4_keepStep 97 = .ok (.iastore, 1) := by decide +kernel
theorem dX4_keepStep_98 : decode cX4_keepStep 98 = .ok (.aload_n 0, 1) := by decide +kernel
theorem dX4_keepStep_99 : decode cX4_keepStep 99 = .ok (.getfield 18, 3) := by decide +kernel
theorem dX4_keepStep_102 : decode cX4_keepStep 102 = .ok (.iload_n 1, 1) := by decide +kernel
theorem dX4_keepStep_103 : decode cX4_keepStep 103 = .ok (.bipush 90, 2) := by decide +kernel
theorem dX4_keepStep_105 : decode cX4_keepStep 105 = .ok (.iadd, 1) := by decide +kernel
theorem dX4_keepStep_106 : decode cX4_keepStep 106 = .ok (.iconst 1, 1) := by decide +kernel
theorem dX4_keepStep_107 : decode cX4_keepStep 107 = .ok (.iadd, 1) := by decide +kernel
theorem dX4_keepStep_108 : decode cX4_keepStep 108 = .ok (.aload_n 0, 1) := by decide +kernel
theorem dX4_keepStep_109 : decode cX4_keepStep 109 = .ok (.getfield 28, 3) := by decide +kernel
theorem dX4_keepStep_112 : decode cX4_keepStep 112 = .ok (.iastore, 1) := by decide +kernel
theorem dX4_keepStep_113 : decode cX4_keepStep 113 = .ok (.aload_n 0, 1) := by decide +kernel
theorem dX4_keepStep_114 : decode cX4_keepStep 114 = .ok (.getfield 18, 3) := by decide +kernel
theorem dX4_keepStep_117 : decode cX4_keepStep 117 = .ok (.iload_n 1, 1) := by decide +kernel
theorem dX4_keepStep_118 : decode cX4_keepStep 118 = .ok (.bipush 90, 2) := by decide +kernel
theorem dX4_keepStep_120 : decode cX4_keepStep 120 = .ok (.iadd, 1) := by decide +kernel
theorem dX4_keepStep_121 : decode cX4_keepStep 121 = .ok (.iconst 2, 1) := by decide +kernel
theorem dX4_keepStep_122 : decode cX4_keepStep 122 = .ok (.iadd, 1) := by decide +kernel
theorem dX4_keepStep_123 : decode cX4_keepStep 123 = .ok (.aload_n 0, 1) := by decide +kernel
theorem dX4_keepStep_124 : decode cX4_keepStep 124 = .ok (.getfield 34, 3) := by decide +kernel
theorem dX4_keepStep_127 : decode cX4_keepStep 127 = .ok (.iastore, 1) := by decide +kernel
theorem dX4_keepStep_128 : decode cX4_keepStep 128 = .ok (.aload_n 0, 1) := by decide +kernel
theorem dX4_keepStep_129 : decode cX4_keepStep 129 = .ok (.getfield 18, 3) := by decide +kernel
theorem dX4_keepStep_132 : decode cX4_keepStep 132 = .ok (.iload_n 1, 1) := by decide +kernel
theorem dX4_keepStep_133 : decode cX4_keepStep 133 = .ok (.bipush 90, 2) := by decide +kernel
theorem dX4_keepStep_135 : decode cX4_keepStep 135 = .ok (.iadd, 1) := by decide +kernel
theorem dX4_keepStep_136 : decode cX4_keepStep 136 = .ok (.iconst 3, 1) := by decide +kernel
theorem dX4_keepStep_137 : decode cX4_keepStep 137 = .ok (.iadd, 1) := by decide +kernel
theorem dX4_keepStep_138 : decode cX4_keepStep 138 = .ok (.aload_n 0, 1) := by decide +kernel
theorem dX4_keepStep_139 : decode cX4_keepStep 139 = .ok (.getfield 37, 3) := by decide +kernel
theorem dX4_keepStep_142 : decode cX4_keepStep 142 = .ok (.iastore, 1) := by decide +kernel
theorem dX4_keepStep_143 : decode cX4_keepStep 143 = .ok (.return_, 1) := by decide +kernel
theorem dX4_takeStepBack_0 : decode cX4_takeStepBack 0 = .ok (.aload_n 0, 1) := by decide +kernel
theorem dX4_takeStepBack_1 : decode cX4_takeStepBack 1 = .ok (.getfield 46, 3) := by decide +kernel
theorem dX4_takeStepBack_4 : decode cX4_takeStepBack 4 = .ok (.aload_n 0, 1) := by decide +kernel
theorem dX4_takeStepBack_5 : decode cX4_takeStepBack 5 = .ok (.getfield 49, 3) := by decide +kernel
theorem dX4_takeStepBack_8 : decode cX4_takeStepBack 8 = .ok (.iadd, 1) := by decide +kernel
theorem dX4_takeStepBack_9 : decode cX4_takeStepBack 9 = .ok (.iconst 1, 1) := by decide +kernel
theorem dX4_takeStepBack_10 : decode cX4_takeStepBack 10 = .ok (.isub, 1) := by decide +kernel
theorem dX4_takeStepBack_11 : decode cX4_takeStepBack 11 = .ok (.bipush 20, 2) := by decide +kernel
theorem dX4_takeStepBack_13 : decode cX4_takeStepBack 13 = .ok (.irem, 1) := by decide +kernel
theorem dX4_takeStepBack_14 : decode cX4_takeStepBack 14 = .ok (.bipush 94, 2) := by decide +kernel
theorem dX4_takeStepBack_16 : decode cX4_takeStepBack 16 = .ok (.imul, 1) := by decide +kernel
theorem dX4_takeStepBack_17 : decode cX4_takeStepBack 17 = .ok (.istore_n 1, 1) := by decide +kernel
theorem dX4_takeStepBack_18 : decode cX4_takeStepBack 18 = .ok (.aload_n 0, 1) := by decide +kernel
theorem dX4_takeStepBack_19 : decode cX4_takeStepBack 19 = .ok (.getfield 49, 3) := by decide +kernel
theorem dX4_takeStepBack_22 : decode cX4_takeStepBack 22 = .ok (.iconst 1, 1) := by decide +kernel
theorem dX4_takeStepBack_23 : decode cX4_takeStepBack 23 = .ok (.if_icmp .lt 19, 3) := by decide +kernel
theorem dX4_takeStepBack_26 : decode cX4_takeStepBack 26 = .ok (.iload_n 1, 1) := by decide +kernel
theorem dX4_takeStepBack_27 : decode cX4_takeStepBack 27 = .ok (.ifCond .lt 15, 3) := by decide +kernel
theorem dX4_takeStepBack_30 : decode cX4_takeStepBack 30 = .ok (.iload_n 1, 1) := by decide +kernel
theorem dX4_takeStepBack_31 : decode cX4_takeStepBack 31 = .ok (.bipush 94, 2) := by decide +kernel
theorem dX4_takeStepBack_33 : decode cX4_takeStepBack 33 = .ok (.iadd, 1) := by decide +kernel
theorem dX4_takeStepBack_34 : decode cX4_takeStepBack 34 = .ok (.aload_n 0, 1) := by decide +kernel
theorem dX4_takeStepBack_35 : decode cX4_takeStepBack 35 = .ok (.getfield 18, 3) := by decide +kernel
theorem dX4_takeStepBack_38 : decode cX4_takeStepBack 38 = .ok (.arraylength, 1) := by decide +kernel
theorem dX4_takeStepBack_39 : decode cX4_takeStepBack 39 = .ok (.if_icmp .le 5, 3) := by decide +kernel
theorem dX4_takeStepBack_42 : decode cX4_takeStepBack 42 = .ok (.iconst 0, 1) := by decide +kernel
theorem dX4_takeStepBack_43 : decode cX4_takeStepBack 43 = .ok (.ireturn, 1) := by decide +kernel
theorem dX4_takeStepBack_44 : decode cX4_takeStepBack 44 = .ok (.aload_n 0, 1) := by decide +kernel
theorem dX4_takeStepBack_45 : decode cX4_takeStepBack 45 = .ok (.dup, 1) := by decide +kernel
theorem dX4_takeStepBack_46 : decode cX4_takeStepBack 46 = .ok (.getfield 49, 3) := by decide +kernel
theorem dX4_takeStepBack_49 : decode cX4_takeStepBack 49 = .ok (.iconst 1, 1) := by decide +kernel
theorem dX4_takeStepBack_50 : decode cX4_takeStepBack 50 = .ok (.isub, 1) := by decide +kernel
theorem dX4_takeStepBack_51 : decode cX4_takeStepBack 51 = .ok (.putfield 49, 3) := by decide +kernel
theorem dX4_takeStepBack_54 : decode cX4_takeStepBack 54 = .ok (.bipush 90, 2) := by decide +kernel
theorem dX4_takeStepBack_56 : decode cX4_takeStepBack 56 = .ok (.iconst 0, 1) := by decide +kernel
theorem dX4_takeStepBack_57 : decode cX4_takeStepBack 57 = .ok (.aload_n 0, 1) := by decide +kernel
theorem dX4_takeStepBack_58 : decode cX4_takeStepBack 58 = .ok (.getfield 18, 3) := by decide +kernel
theorem dX4_takeStepBack_61 : decode cX4_takeStepBack 61 = .ok (.iload_n 1, 1) := by decide +kernel
theorem dX4_takeStepBack_62 : decode cX4_takeStepBack 62 = .ok (.bipush 90, 2) := by decide +kernel
theorem dX4_takeStepBack_64 : decode cX4_takeStepBack 64 = .ok (.iadd, 1) := by decide +kernel
theorem dX4_takeStepBack_65 : decode cX4_takeStepBack 65 = .ok (.iaload, 1) := by decide +kernel
theorem dX4_takeStepBack_66 : decode cX4_takeStepBack 66 = .ok (.bipush 9, 2) := by decide +kernel
theorem dX4_takeStepBack_68 : decode cX4_takeStepBack 68 = .ok (.imul, 1) := by decide +kernel
theorem dX4_takeStepBack_69 : decode cX4_takeStepBack 69 = .ok (.invokestatic 88, 3) := by decide +kernel
theorem dX4_takeStepBack_72 : decode cX4_takeStepBack 72 = .ok (.invokestatic 93, 3) := by decide +kernel
theorem dX4_takeStepBack_75 : decode cX4_takeStepBack 75 = .ok (.istore_n 2, 1) := by decide +kernel
theorem dX4_takeStepBack_76 : decode cX4_takeStepBack 76 = .ok (.aload_n 0, 1) := by decide +kernel
theorem dX4_takeStepBack_77 : decode cX4_takeStepBack 77 = .ok (.getfield 18, 3) := by decide +kernel
theorem dX4_takeStepBack_80 : decode cX4_takeStepBack 80 = .ok (.iload_n 1, 1) := by decide +kernel
theorem dX4_takeStepBack_81 : decode cX4_takeStepBack 81 = .ok (.aload_n 0, 1) := by decide +kernel
theorem dX4_takeStepBack_82 : decode cX4_takeStepBack 82 = .ok (.getfield 11, 3) := by decide +kernel
theorem dX4_takeStepBack_85 : decode cX4_takeStepBack 85 = .ok (.iconst 0, 1) := by decide +kernel
theorem dX4_takeStepBack_86 : decode cX4_takeStepBack 86 = .ok (.iload_n 2, 1) := by decide +kernel
theorem dX4_takeStepBack_87 : decode cX4_takeStepBack 87 = .ok (.invokestatic 52, 3) := by decide +kernel
theorem dX4_takeStepBack_90 : decode cX4_takeStepBack 90 = .ok (.aload_n 0, 1) := by decide +kernel
theorem dX4_takeStepBack_91 : decode cX4_takeStepBack 91 = .ok (.aload_n 0, 1) := by decide +kernel
theorem dX4_takeStepBack_92 : decode cX4_takeStepBack 92 = .ok (.getfield 18, 3) := by decide +kernel
theorem dX4_takeStepBack_95 : decode cX4_takeStepBack 95 = .ok (.iload_n 1, 1) := by decide +kernel
theorem dX4_takeStepBack_96 : decode cX4_takeStepBack 96 = .ok (.bipush 90, 2) := by decide +kernel
theorem dX4_takeStepBack_98 : decode cX4_takeStepBack 98 = .ok (.iadd, 1) := by decide +kernel
theorem dX4_takeStepBack_99 : decode cX4_takeStepBack 99 = .ok (.iconst 1, 1) := by decide +kernel
theorem dX4_takeStepBack_100 : decode cX4_takeStepBack 100 = .ok (.iadd, 1) := by decide +kernel
theorem dX4_takeStepBack_101 : decode cX4_takeStepBack 101 = .ok (.iaload, 1) := by decide +kernel
theorem dX4_takeStepBack_102 : decode cX4_takeStepBack 102 = .ok (.putfield 28, 3) := by decide +kernel
theorem dX4_takeStepBack_105 : decode cX4_takeStepBack 105 = .ok (.aload_n 0, 1) := by decide +kernel
theorem dX4_takeStepBack_106 : decode cX4_takeStepBack 106 = .ok (.aload_n 0, 1) := by decide +kernel
theorem dX4_takeStepBack_107 : decode cX4_takeStepBack 107 = .ok (.getfield 18, 3) := by decide +kernel
theorem dX4_takeStepBack_110 : decode cX4_takeStepBack 110 = .ok (.iload_n 1, 1) := by decide +kernel
theorem dX4_takeStepBack_111 : decode cX4_takeStepBack 111 = .ok (.bipush 90, 2) := by decide +kernel
theorem dX4_takeStepBack_113 : decode cX4_takeStepBack 113 = .ok (.iadd, 1) := by decide +kernel
theorem dX4_takeStepBack_114 : decode cX4_takeStepBack 114 = .ok (.iconst 2, 1) := by decide +kernel
theorem dX4_takeStepBack_115 : decode cX4_takeStepBack 115 = .ok (.iadd, 1) := by decide +kernel
theorem dX4_takeStepBack_116 : decode cX4_takeStepBack 116 = .ok (.iaload, 1) := by decide +kernel
theorem dX4_takeStepBack_117 : decode cX4_takeStepBack 117 = .ok (.putfield 34, 3) := by decide +kernel
theorem dX4_takeStepBack_120 : decode cX4_takeStepBack 120 = .ok (.aload_n 0, 1) := by decide +kernel
theorem dX4_takeStepBack_121 : decode cX4_takeStepBack 121 = .ok (.aload_n 0, 1) := by decide +kernel
theorem dX4_takeStepBack_122 : decode cX4_takeStepBack 122 = .ok (.getfield 18, 3) := by decide +kernel
theorem dX4_takeStepBack_125 : decode cX4_takeStepBack 125 = .ok (.iload_n 1, 1) := by decide +kernel
theorem dX4_takeStepBack_126 : decode cX4_takeStepBack 126 = .ok (.bipush 90, 2) := by decide +kernel
theorem dX4_takeStepBack_128 : decode cX4_takeStepBack 128 = .ok (.iadd, 1) := by decide +kernel
theorem dX4_takeStepBack_129 : decode cX4_takeStepBack 129 = .ok (.iconst 3, 1) := by decide +kernel
theorem dX4_takeStepBack_130 : decode cX4_takeStepBack 130 = .ok (.iadd, 1) := by decide +kernel
theorem dX4_takeStepBack_131 : decode cX4_takeStepBack 131 = .ok (.iaload, 1) := by decide +kernel
theorem dX4_takeStepBack_132 : decode cX4_takeStepBack 132 = .ok (.putfield 37, 3) := by decide +kernel
theorem dX4_takeStepBack_135 : decode cX4_takeStepBack 135 = .ok (.iconst 1, 1) := by decide +kernel
theorem dX4_takeStepBack_136 : decode cX4_takeStepBack 136 = .ok (.ireturn, 1) := by decide +kernel
theorem dX5_init_0 : decode cX5_init 0 = .ok (.aload_n 0, 1) := by decide +kernel
theorem dX5_init_1 : decode cX5_init 1 = .ok (.invokespecial 3, 3) := by decide +kernel
theorem dX5_init_4 : decode cX5_init 4 = .ok (.aload_n 0, 1) := by decide +kernel
theorem dX5_init_5 : decode cX5_init 5 = .ok (.sipush 300, 3) := by decide +kernel
theorem dX5_init_8 : decode cX5_init 8 = .ok (.newarray .int, 2) := by decide +kernel
theorem dX5_init_10 : decode cX5_init 10 = .ok (.putfield 9, 3) := by decide +kernel
theorem dX5_init_13 : decode cX5_init 13 = .ok (.aload_n 0, 1) := by decide +kernel
theorem dX5_init_14 : decode cX5_init 14 = .ok (.iconst 0, 1) := by decide +kernel
theorem dX5_init_15 : decode cX5_init 15 = .ok (.putfield 15, 3) := by decide +kernel
theorem dX5_init_18 : decode cX5_init 18 = .ok (.return_, 1) := by decide +kernel
theorem dX5_addFour_0 : decode cX5_addFour 0 = .ok (.bipush 24, 2) := by decide +kernel
theorem dX5_addFour_2 : decode cX5_addFour 2 = .ok (.istore_n 2, 1) := by decide +kernel
theorem dX5_addFour_3 : decode cX5_addFour 3 = .ok (.iload_n 2, 1) := by decide +kernel
theorem dX5_addFour_4 : decode cX5_addFour 4 = .ok (.ifCond .lt 47, 3) := by decide +kernel
theorem dX5_addFour_7 : decode cX5_addFour 7 = .ok (.aload_n 0, 1) := by decide +kernel
theorem dX5_addFour_8 : decode cX5_addFour 8 = .ok (.getfield 15, 3) := by decide +kernel
theorem dX5_addFour_11 : decode cX5_addFour 11 = .ok (.aload_n 0, 1) := by decide +kernel
theorem dX5_addFour_12 : decode cX5_addFour 12 = .ok (.getfield 9, 3) := by decide +kernel
theorem dX5_addFour_15 : decode cX5_addFour 15 = .ok (.arraylength, 1) := by decide +kernel
theorem dX5_addFour_16 : decode cX5_addFour 16 = .ok (.if_icmp .ge 29, 3) := by decide +kernel
theorem dX5_addFour_19 : decode cX5_addFour 19 = .ok (.aload_n 0, 1) := by decide +kernel
theorem dX5_addFour_20 : decode cX5_addFour 20 = .ok (.getfield 9, 3) := by decide +kernel
theorem dX5_addFour_23 : decode cX5_addFour 23 = .ok (.aload_n 0, 1) := by decide +kernel
theorem dX5_addFour_24 : decode cX5_addFour 24 = .ok (.getfield 15, 3) := by decide +kernel
theorem dX5_addFour_27 : decode cX5_addFour 27 = .ok (.iload_n 1, 1) := by decide +kernel
theorem dX5_addFour_28 : decode cX5_addFour 28 = .ok (.iload_n 2, 1) := by decide +kernel
theorem dX5_addFour_29 : decode cX5_addFour 29 = .ok (.ishr, 1) := by decide +kernel
theorem dX5_addFour_30 : decode cX5_addFour 30 = .ok (.sipush 255, 3) := by decide +kernel
theorem dX5_addFour_33 : decode cX5_addFour 33 = .ok (.iand, 1) := by decide +kernel
theorem dX5_addFour_34 : decode cX5_addFour 34 = .ok (.iastore, 1) := by decide +kernel
theorem dX5_addFour_35 : decode cX5_addFour 35 = .ok (.aload_n 0, 1) := by decide +kernel
theorem dX5_addFour_36 : decode cX5_addFour 36 = .ok (.dup, 1) := by decide +kernel
theorem dX5_addFour_37 : decode cX5_addFour 37 = .ok (.getfield 15, 3) := by decide +kernel
theorem dX5_addFour_40 : decode cX5_addFour 40 = .ok (.iconst 1, 1) := by decide +kernel
theorem dX5_addFour_41 : decode cX5_addFour 41 = .ok (.iadd, 1) := by decide +kernel
theorem dX5_addFour_42 : decode cX5_addFour 42 = .ok (.putfield 15, 3) := by decide +kernel
theorem dX5_addFour_45 : decode cX5_addFour 45 = .ok (.iinc 2 (-8), 3) := by decide +kernel
theorem dX5_addFour_48 : decode cX5_addFour 48 = .ok (.goto (-45), 3) := by decide +kernel
theorem dX5_addFour_51 : decode cX5_addFour 51 = .ok (.return_, 1) := by decide +kernel
theorem dX5_byteAt_0 : decode cX5_byteAt 0 = .ok (.iload_n 1, 1) := by decide +kernel
theorem dX5_byteAt_1 : decode cX5_byteAt 1 = .ok (.ifCond .lt 29, 3) := by decide +kernel
theorem dX5_byteAt_4 : decode cX5_byteAt 4 = .ok (.iload_n 1, 1) := by decide +kernel
theorem dX5_byteAt_5 : decode cX5_byteAt 5 = .ok (.aload_n 0, 1) := by decide +kernel
theorem dX5_byteAt_6 : decode cX5_byteAt 6 = .ok (.getfield 15, 3) := by decide +kernel
theorem dX5_byteAt_9 : decode cX5_byteAt 9 = .ok (.if_icmp .ge 21, 3) := by decide +kernel
theorem dX5_byteAt_12 : decode cX5_byteAt 12 = .ok (.iload_n 1, 1) := by decide +kernel
theorem dX5_byteAt_13 : decode cX5_byteAt 13 = .ok (.aload_n 0, 1) := by decide +kernel
theorem dX5_byteAt_14 : decode cX5_byteAt 14 = .ok (.getfield 9, 3) := by decide +kernel
theorem dX5_byteAt_17 : decode cX5_byteAt 17 = .ok (.arraylength, 1) := by decide +kernel
theorem dX5_byteAt_18 : decode cX5_byteAt 18 = .ok (.if_icmp .ge 12, 3) := by decide +kernel
theorem dX5_byteAt_21 : decode cX5_byteAt 21 = .ok (.aload_n 0, 1) := by decide +kernel
theorem dX5_byteAt_22 : decode cX5_byteAt 22 = .ok (.getfield 9, 3) := by decide +kernel
theorem dX5_byteAt_25 : decode cX5_byteAt 25 = .ok (.iload_n 1, 1) := by decide +kernel
theorem dX5_byteAt_26 : decode cX5_byteAt 26 = .ok (.iaload, 1) := by decide +kernel
theorem dX5_byteAt_27 : decode cX5_byteAt 27 = .ok (.goto 4, 3) := by decide +kernel
theorem dX5_byteAt_30 : decode cX5_byteAt 30 = .ok (.iconst 0, 1) := by decide +kernel
theorem dX5_byteAt_31 : decode cX5_byteAt 31 = .ok (.ireturn, 1) := by decide +kernel
theorem dX6_init_0 : decode cX6_init 0 = .ok (.aload_n 0, 1) := by decide +kernel
theorem dX6_init_1 : decode cX6_init 1 = .ok (.invokespecial 3, 3) := by decide +kernel
theorem dX6_init_4 : decode cX6_init 4 = .ok (.aload_n 0, 1) := by decide +kernel
theorem dX6_init_5 : decode cX6_init 5 = .ok (.bipush 96, 2) := by decide +kernel
theorem dX6_init_7 : decode cX6_init 7 = .ok (.newarray .int, 2) := by decide +kernel
theorem dX6_init_9 : decode cX6_init 9 = .ok (.putfield 9, 3) := by decide +kernel
theorem dX6_init_12 : decode cX6_init 12 = .ok (.aload_n 0, 1) := by decide +kernel
theorem dX6_init_13 : decode cX6_init 13 = .ok (.iconst 0, 1) := by decide +kernel
theorem dX6_init_14 : decode cX6_init 14 = .ok (.putfield 15, 3) := by decide +kernel
theorem dX6_init_17 : decode cX6_init 17 = .ok (.aload_n 0, 1) := by decide +kernel
theorem dX6_init_18 : decode cX6_init 18 = .ok (.sipush 300, 3) := by decide +kernel
theorem dX6_init_21 : decode cX6_init 21 = .ok (.newarray .int, 2) := by decide +kernel
theorem dX6_init_23 : decode cX6_init 23 = .ok (.putfield 19, 3) := by decide +kernel
theorem dX6_init_26 : decode cX6_init 26 = .ok (.aload_n 0, 1) := by decide +kernel
theorem dX6_init_27 : decode cX6_init 27 = .ok (.iconst 4, 1) := by decide +kernel
theorem dX6_init_28 : decode cX6_init 28 = .ok (.newarray .int, 2) := by decide +kernel
theorem dX6_init_30 : decode cX6_init 30 = .ok (.putfield 22, 3) := by decide +kernel
theorem dX6_init_33 : decode cX6_init 33 = .ok (.aload_n 0, 1) := by decide +kernel
theorem dX6_init_34 : decode cX6_init 34 = .ok (.iconst 4, 1) := by decide +kernel
theorem dX6_init_35 : decode cX6_init 35 = .ok (.newarray .int, 2) := by decide +kernel
theorem dX6_init_37 : decode cX6_init 37 = .ok (.putfield 25, 3) := by decide +kernel
theorem dX6_init_40 : decode cX6_init 40 = .ok (.aload_n 0, 1) := by decide +kernel
theorem dX6_init_41 : decode cX6_init 41 = .ok (.iconst 0, 1) := by decide +kernel
theorem dX6_init_42 : decode cX6_init 42 = .ok (.putfield 28, 3) := by decide +kernel
theorem dX6_init_45 : decode cX6_init 45 = .ok (.return_, 1) := by decide +kernel
theorem dX6_clear_0 : decode cX6_clear 0 = .ok (.aload_n 0, 1) := by decide +kernel
theorem dX6_clear_1 : decode cX6_clear 1 = .ok (.iconst 0, 1) := by decide +kernel
theorem dX6_clear_2 : decode cX6_clear 2 = .ok (.putfield 15, 3) := by decide +kernel
theorem dX6_clear_5 : decode cX6_clear 5 = .ok (.aload_n 0, 1) := by decide +kernel
theorem dX6_clear_6 : decode cX6_clear 6 = .ok (.iconst 0, 1) := by decide +kernel
theorem dX6_clear_7 : decode cX6_clear 7 = .ok (.putfield 28, 3) := by decide +kernel
theorem dX6_clear_10 : decode cX6_clear 10 = .ok (.iconst 0, 1) := by decide +kernel
theorem dX6_clear_11 : decode cX6_clear 11 = .ok (.istore_n 1, 1) := by decide +kernel
theorem dX6_clear_12 : decode cX6_clear 12 = .ok (.iload_n 1, 1) := by decide +kernel
theorem dX6_clear_13 : decode cX6_clear 13 = .ok (.iconst 4, 1) := by decide +kernel
theorem dX6_clear_14 : decode cX6_clear 14 = .ok (.if_icmp .ge 23, 3) := by decide +kernel
theorem dX6_clear_17 : decode cX6_clear 17 = .ok (.aload_n 0, 1) := by decide +kernel
theorem dX6_clear_18 : decode cX6_clear 18 = .ok (.getfield 22, 3) := by decide +kernel
theorem dX6_clear_21 : decode cX6_clear 21 = .ok (.iload_n 1, 1) := by decide +kernel
theorem dX6_clear_22 : decode cX6_clear 22 = .ok (.iconst (-1), 1) := by decide +kernel
theorem dX6_clear_23 : decode cX6_clear 23 = .ok (.iastore, 1) := by decide +kernel
theorem dX6_clear_24 : decode cX6_clear 24 = .ok (.aload_n 0, 1) := by decide +kernel
theorem dX6_clear_25 : decode cX6_clear 25 = .ok (.getfield 25, 3) := by decide +kernel
theorem dX6_clear_28 : decode cX6_clear 28 = .ok (.iload_n 1, 1) := by decide +kernel
theorem dX6_clear_29 : decode cX6_clear 29 = .ok (.iconst (-1), 1) := by decide +kernel
theorem dX6_clear_30 : decode cX6_clear 30 = .ok (.iastore, 1) := by decide +kernel
theorem dX6_clear_31 : decode cX6_clear 31 = .ok (.iinc 1 1, 3) := by decide +kernel
theorem dX6_clear_34 : decode cX6_clear 34 = .ok (.goto (-22), 3) := by decide +kernel
theorem dX6_clear_37 : decode cX6_clear 37 = .ok (.return_, 1) := by decide +kernel
theorem dX6_hasLaw_0 : decode cX6_hasLaw 0 = .ok (.iload_n 1, 1) := by decide +kernel
theorem dX6_hasLaw_1 : decode cX6_hasLaw 1 = .ok (.ifCond .lt 22, 3) := by decide +kernel
theorem dX6_hasLaw_4 : decode cX6_hasLaw 4 = .ok (.iload_n 1, 1) := by decide +kernel
theorem dX6_hasLaw_5 : decode cX6_hasLaw 5 = .ok (.iconst 4, 1) := by decide +kernel
theorem dX6_hasLaw_6 : decode cX6_hasLaw 6 = .ok (.if_icmp .ge 17, 3) := by decide +kernel
theorem dX6_hasLaw_9 : decode cX6_hasLaw 9 = .ok (.aload_n 0, 1) := by decide +kernel
theorem dX6_hasLaw_10 : decode cX6_hasLaw 10 = .ok (.getfield 22, 3) := by decide +kernel
theorem dX6_hasLaw_13 : decode cX6_hasLaw 13 = .ok (.iload_n 1, 1) := by decide +kernel
theorem dX6_hasLaw_14 : decode cX6_hasLaw 14 = .ok (.iaload, 1) := by decide +kernel
theorem dX6_hasLaw_15 : decode cX6_hasLaw 15 = .ok (.iconst (-1), 1) := by decide +kernel
theorem dX6_hasLaw_16 : decode cX6_hasLaw 16 = .ok (.if_icmp .eq 7, 3) := by decide +kernel
theorem dX6_hasLaw_19 : decode cX6_hasLaw 19 = .ok (.iconst 1, 1) := by decide +kernel
theorem dX6_hasLaw_20 : decode cX6_hasLaw 20 = .ok (.goto 4, 3) := by decide +kernel
theorem dX6_hasLaw_23 : decode cX6_hasLaw 23 = .ok (.iconst 0, 1) := by decide +kernel
theorem dX6_hasLaw_24 : decode cX6_hasLaw 24 = .ok (.ireturn, 1) := by decide +kernel
theorem dX6_beginLaw_0 : decode cX6_beginLaw 0 = .ok (.iload_n 1, 1) := by decide +kernel
theorem dX6_beginLaw_1 : decode cX6_beginLaw 1 = .ok (.ifCond .lt 18, 3) := by decide +kernel
theorem dX6_beginLaw_4 : decode cX6_beginLaw 4 = .ok (.iload_n 1, 1) := by decide +kernel
theorem dX6_beginLaw_5 : decode cX6_beginLaw 5 = .ok (.iconst 4, 1) := by decide +kernel
theorem dX6_beginLaw_6 : decode cX6_beginLaw 6 = .ok (.if_icmp .ge 13, 3) := by decide +kernel
theorem dX6_beginLaw_9 : decode cX6_beginLaw 9 = .ok (.aload_n 0, 1) := by decide +kernel
theorem dX6_beginLaw_10 : decode cX6_beginLaw 10 = .ok (.getfield 22, 3) := by decide +kernel
theorem dX6_beginLaw_13 : decode cX6_beginLaw 13 = .ok (.iload_n 1, 1) := by decide +kernel
theorem dX6_beginLaw_14 : decode cX6_beginLaw 14 = .ok (.aload_n 0, 1) := by decide +kernel
theorem dX6_beginLaw_15 : decode cX6_beginLaw 15 = .ok (.getfield 28, 3) := by decide +kernel
theorem dX6_beginLaw_18 : decode cX6_beginLaw 18 = .ok (.iastore, 1) := by decide +kernel
theorem dX6_beginLaw_19 : decode cX6_beginLaw 19 = .ok (.return_, 1) := by decide +kernel
theorem dX6_closeLaw_0 : decode cX6_closeLaw 0 = .ok (.iload_n 1, 1) := by decide +kernel
theorem dX6_closeLaw_1 : decode cX6_closeLaw 1 = .ok (.ifCond .lt 18, 3) := by decide +kernel
theorem dX6_closeLaw_4 : decode cX6_closeLaw 4 = .ok (.iload_n 1, 1) := by decide +kernel
theorem dX6_closeLaw_5 : decode cX6_closeLaw 5 = .ok (.iconst 4, 1) := by decide +kernel
theorem dX6_closeLaw_6 : decode cX6_closeLaw 6 = .ok (.if_icmp .ge 13, 3) := by decide +kernel
theorem dX6_closeLaw_9 : decode cX6_closeLaw 9 = .ok (.aload_n 0, 1) := by decide +kernel
theorem dX6_closeLaw_10 : decode cX6_closeLaw 10 = .ok (.getfield 25, 3) := by decide +kernel
theorem dX6_closeLaw_13 : decode cX6_closeLaw 13 = .ok (.iload_n 1, 1) := by decide +kernel
theorem dX6_closeLaw_14 : decode cX6_closeLaw 14 = .ok (.aload_n 0, 1) := by decide +kernel
theorem dX6_closeLaw_15 : decode cX6_closeLaw 15 = .ok (.getfield 28, 3) := by decide +kernel
theorem dX6_closeLaw_18 : decode cX6_closeLaw 18 = .ok (.iastore, 1) := by decide +kernel
theorem dX6_closeLaw_19 : decode cX6_closeLaw 19 = .ok (.return_, 1) := by decide +kernel
theorem dX6_firstStep_0 : decode cX6_firstStep 0 = .ok (.iload_n 1, 1) := by decide +kernel
theorem dX6_firstStep_1 : decode cX6_firstStep 1 = .ok (.ifCond .lt 17, 3) := by decide +kernel
theorem dX6_firstStep_4 : decode cX6_firstStep 4 = .ok (.iload_n 1, 1) := by decide +kernel
theorem dX6_firstStep_5 : decode cX6_firstStep 5 = .ok (.iconst 4, 1) := by decide +kernel
theorem dX6_firstStep_6 : decode cX6_firstStep 6 = .ok (.if_icmp .ge 12, 3) := by decide +kernel
theorem dX6_firstStep_9 : decode cX6_firstStep 9 = .ok (.aload_n 0, 1) := by decide +kernel
theorem dX6_firstStep_10 : decode cX6_firstStep 10 = .ok (.getfield 22, 3) := by decide +kernel
theorem dX6_firstStep_13 : decode cX6_firstStep 13 = .ok (.iload_n 1, 1) := by decide +kernel
theorem dX6_firstStep_14 : decode cX6_firstStep 14 = .ok (.iaload, 1) := by decide +kernel
theorem dX6_firstStep_15 : decode cX6_firstStep 15 = .ok (.goto 4, 3) := by decide +kernel
theorem dX6_firstStep_18 : decode cX6_firstStep 18 = .ok (.iconst 0, 1) := by decide +kernel
theorem dX6_firstStep_19 : decode cX6_firstStep 19 = .ok (.ireturn, 1) := by decide +kernel
theorem dX6_stepsEnd_0 : decode cX6_stepsEnd 0 = .ok (.iload_n 1, 1) := by decide +kernel
theorem dX6_stepsEnd_1 : decode cX6_stepsEnd 1 = .ok (.ifCond .lt 17, 3) := by decide +kernel
theorem dX6_stepsEnd_4 : decode cX6_stepsEnd 4 = .ok (.iload_n 1, 1) := by decide +kernel
theorem dX6_stepsEnd_5 : decode cX6_stepsEnd 5 = .ok (.iconst 4, 1) := by decide +kernel
theorem dX6_stepsEnd_6 : decode cX6_stepsEnd 6 = .ok (.if_icmp .ge 12, 3) := by decide +kernel
theorem dX6_stepsEnd_9 : decode cX6_stepsEnd 9 = .ok (.aload_n 0, 1) := by decide +kernel
theorem dX6_stepsEnd_10 : decode cX6_stepsEnd 10 = .ok (.getfield 25, 3) := by decide +kernel
theorem dX6_stepsEnd_13 : decode cX6_stepsEnd 13 = .ok (.iload_n 1, 1) := by decide +kernel
theorem dX6_stepsEnd_14 : decode cX6_stepsEnd 14 = .ok (.iaload, 1) := by decide +kernel
theorem dX6_stepsEnd_15 : decode cX6_stepsEnd 15 = .ok (.goto 4, 3) := by decide +kernel
theorem dX6_stepsEnd_18 : decode cX6_stepsEnd 18 = .ok (.iconst 0, 1) := by decide +kernel
theorem dX6_stepsEnd_19 : decode cX6_stepsEnd 19 = .ok (.ireturn, 1) := by decide +kernel
theorem dX6_addStep_0 : decode cX6_addStep 0 = .ok (.aload_n 0, 1) := by decide +kernel
theorem dX6_addStep_1 : decode cX6_addStep 1 = .ok (.getfield 28, 3) := by decide +kernel
theorem dX6_addStep_4 : decode cX6_addStep 4 = .ok (.aload_n 0, 1) := by decide +kernel
theorem dX6_addStep_5 : decode cX6_addStep 5 = .ok (.getfield 19, 3) := by decide +kernel
theorem dX6_addStep_8 : decode cX6_addStep 8 = .ok (.arraylength, 1) := by decide +kernel
theorem dX6_addStep_9 : decode cX6_addStep 9 = .ok (.if_icmp .ge 23, 3) := by decide +kernel
theorem dX6_addStep_12 : decode cX6_addStep 12 = .ok (.aload_n 0, 1) := by decide +kernel
theorem dX6_addStep_13 : decode cX6_addStep 13 = .ok (.getfield 19, 3) := by decide +kernel
theorem dX6_addStep_16 : decode cX6_addStep 16 = .ok (.aload_n 0, 1) := by decide +kernel
theorem dX6_addStep_17 : decode cX6_addStep 17 = .ok (.getfield 28, 3) := by decide +kernel
theorem dX6_addStep_20 : decode cX6_addStep 20 = .ok (.iload_n 1, 1) := by decide +kernel
theorem dX6_addStep_21 : decode cX6_addStep 21 = .ok (.iastore, 1) := by decide +kernel
theorem dX6_addStep_22 : decode cX6_addStep 22 = .ok (.aload_n 0, 1) := by decide +kernel
theorem dX6_addStep_23 : decode cX6_addStep 23 = .ok (.dup, 1) := by decide +kernel
theorem dX6_addStep_24 : decode cX6_addStep 24 = .ok (.getfield 28, 3) := by decide +kernel
theorem dX6_addStep_27 : decode cX6_addStep 27 = .ok (.iconst 1, 1) := by decide +kernel
theorem dX6_addStep_28 : decode cX6_addStep 28 = .ok (.iadd, 1) := by decide +kernel
theorem dX6_addStep_29 : decode cX6_addStep 29 = .ok (.putfield 28, 3) := by decide +kernel
theorem dX6_addStep_32 : decode cX6_addStep 32 = .ok (.return_, 1) := by decide +kernel
theorem dX6_stepAt_0 : decode cX6_stepAt 0 = .ok (.iload_n 1, 1) := by decide +kernel
theorem dX6_stepAt_1 : decode cX6_stepAt 1 = .ok (.ifCond .lt 29, 3) := by decide +kernel
theorem dX6_stepAt_4 : decode cX6_stepAt 4 = .ok (.iload_n 1, 1) := by decide +kernel
theorem dX6_stepAt_5 : decode cX6_stepAt 5 = .ok (.aload_n 0, 1) := by decide +kernel
theorem dX6_stepAt_6 : decode cX6_stepAt 6 = .ok (.getfield 28, 3) := by decide +kernel
theorem dX6_stepAt_9 : decode cX6_stepAt 9 = .ok (.if_icmp .ge 21, 3) := by decide +kernel
theorem dX6_stepAt_12 : decode cX6_stepAt 12 = .ok (.iload_n 1, 1) := by decide +kernel
theorem dX6_stepAt_13 : decode cX6_stepAt 13 = .ok (.aload_n 0, 1) := by decide +kernel
theorem dX6_stepAt_14 : decode cX6_stepAt 14 = .ok (.getfield 19, 3) := by decide +kernel
theorem dX6_stepAt_17 : decode cX6_stepAt 17 = .ok (.arraylength, 1) := by decide +kernel
theorem dX6_stepAt_18 : decode cX6_stepAt 18 = .ok (.if_icmp .ge 12, 3) := by decide +kernel
theorem dX6_stepAt_21 : decode cX6_stepAt 21 = .ok (.aload_n 0, 1) := by decide +kernel
theorem dX6_stepAt_22 : decode cX6_stepAt 22 = .ok (.getfield 19, 3) := by decide +kernel
theorem dX6_stepAt_25 : decode cX6_stepAt 25 = .ok (.iload_n 1, 1) := by decide +kernel
theorem dX6_stepAt_26 : decode cX6_stepAt 26 = .ok (.iaload, 1) := by decide +kernel
theorem dX6_stepAt_27 : decode cX6_stepAt 27 = .ok (.goto 4, 3) := by decide +kernel
theorem dX6_stepAt_30 : decode cX6_stepAt 30 = .ok (.iconst 0, 1) := by decide +kernel
theorem dX6_stepAt_31 : decode cX6_stepAt 31 = .ok (.ireturn, 1) := by decide +kernel
theorem dX6_clauseField_0 : decode cX6_clauseField 0 = .ok (.iload_n 1, 1) := by decide +kernel
theorem dX6_clauseField_1 : decode cX6_clauseField 1 = .ok (.ifCond .lt 18, 3) := by decide +kernel
theorem dX6_clauseField_4 : decode cX6_clauseField 4 = .ok (.iload_n 1, 1) := by decide +kernel
theorem dX6_clauseField_5 : decode cX6_clauseField 5 = .ok (.bipush 24, 2) := by decide +kernel
theorem dX6_clauseField_7 : decode cX6_clauseField 7 = .ok (.if_icmp .ge 12, 3) := by decide +kernel
theorem dX6_clauseField_10 : decode cX6_clauseField 10 = .ok (.iload_n 2, 1) := by decide +kernel
theorem dX6_clauseField_11 : decode cX6_clauseField 11 = .ok (.ifCond .lt 8, 3) := by decide +kernel
theorem dX6_clauseField_14 : decode cX6_clauseField 14 = .ok (.iload_n 2, 1) := by decide +kernel
theorem dX6_clauseField_15 : decode cX6_clauseField 15 = .ok (.iconst 4, 1) := by decide +kernel
theorem dX6_clauseField_16 : decode cX6_clauseField 16 = .ok (.if_icmp .lt 5, 3) := by decide +kernel
theorem dX6_clauseField_19 : decode cX6_clauseField 19 = .ok (.iconst (-1), 1) := by decide +kernel
theorem dX6_clauseField_20 : decode cX6_clauseField 20 = .ok (.ireturn, 1) := by decide +kernel
theorem dX6_clauseField_21 : decode cX6_clauseField 21 = .ok (.aload_n 0, 1) := by decide +kernel
theorem dX6_clauseField_22 : decode cX6_clauseField 22 = .ok (.getfield 9, 3) := by decide +kernel
theorem dX6_clauseField_25 : decode cX6_clauseField 25 = .ok (.iload_n 1, 1) := by decide +kernel
theorem dX6_clauseField_26 : decode cX6_clauseField 26 = .ok (.iconst 4, 1) := by decide +kernel
theorem dX6_clauseField_27 : decode cX6_clauseField 27 = .ok (.imul, 1) := by decide +kernel
theorem dX6_clauseField_28 : decode cX6_clauseField 28 = .ok (.iload_n 2, 1) := by decide +kernel
theorem dX6_clauseField_29 : decode cX6_clauseField 29 = .ok (.iadd, 1) := by decide +kernel
theorem dX6_clauseField_30 : decode cX6_clauseField 30 = .ok (.iaload, 1) := by decide +kernel
theorem dX6_clauseField_31 : decode cX6_clauseField 31 = .ok (.ireturn, 1) := by decide +kernel
theorem dX6_setClause_0 : decode cX6_setClause 0 = .ok (.iload_n 1, 1) := by decide +kernel
theorem dX6_setClause_1 : decode cX6_setClause 1 = .ok (.ifCond .lt 29, 3) := by decide +kernel
theorem dX6_setClause_4 : decode cX6_setClause 4 = .ok (.iload_n 1, 1) := by decide +kernel
theorem dX6_setClause_5 : decode cX6_setClause 5 = .ok (.bipush 24, 2) := by decide +kernel
theorem dX6_setClause_7 : decode cX6_setClause 7 = .ok (.if_icmp .ge 23, 3) := by decide +kernel
theorem dX6_setClause_10 : decode cX6_setClause 10 = .ok (.iload_n 2, 1) := by decide +kernel
theorem dX6_setClause_11 : decode cX6_setClause 11 = .ok (.ifCond .lt 19, 3) := by decide +kernel
theorem dX6_setClause_14 : decode cX6_setClause 14 = .ok (.iload_n 2, 1) := by decide +kernel
theorem dX6_setClause_15 : decode cX6_setClause 15 = .ok (.iconst 4, 1) := by decide +kernel
theorem dX6_setClause_16 : decode cX6_setClause 16 = .ok (.if_icmp .ge 14, 3) := by decide +kernel
theorem dX6_setClause_19 : decode cX6_setClause 19 = .ok (.aload_n 0, 1) := by decide +kernel
theorem dX6_setClause_20 : decode cX6_setClause 20 = .ok (.getfield 9, 3) := by decide +kernel
theorem dX6_setClause_23 : decode cX6_setClause 23 = .ok (.iload_n 1, 1) := by decide +kernel
theorem dX6_setClause_24 : decode cX6_setClause 24 = .ok (.iconst 4, 1) := by decide +kernel
theorem dX6_setClause_25 : decode cX6_setClause 25 = .ok (.imul, 1) := by decide +kernel
theorem dX6_setClause_26 : decode cX6_setClause 26 = .ok (.iload_n 2, 1) := by decide +kernel
theorem dX6_setClause_27 : decode cX6_setClause 27 = .ok (.iadd, 1) := by decide +kernel
theorem dX6_setClause_28 : decode cX6_setClause 28 = .ok (.iload_n 3, 1) := by decide +kernel
theorem dX6_setClause_29 : decode cX6_setClause 29 = .ok (.iastore, 1) := by decide +kernel
theorem dX6_setClause_30 : decode cX6_setClause 30 = .ok (.return_, 1) := by decide +kernel
theorem dX7_init_0 : decode cX7_init 0 = .ok (.aload_n 0, 1) := by decide +kernel
theorem dX7_init_1 : decode cX7_init 1 = .ok (.invokespecial 3, 3) := by decide +kernel
theorem dX7_init_4 : decode cX7_init 4 = .ok (.aload_n 0, 1) := by decide +kernel
theorem dX7_init_5 : decode cX7_init 5 = .ok (.sipush 301, 3) := by decide +kernel
theorem dX7_init_8 : decode cX7_init 8 = .ok (.newarray .int, 2) := by decide +kernel
theorem dX7_init_10 : decode cX7_init 10 = .ok (.putfield 9, 3) := by decide +kernel
theorem dX7_init_13 : decode cX7_init 13 = .ok (.aload_n 0, 1) := by decide +kernel
theorem dX7_init_14 : decode cX7_init 14 = .ok (.sipush 301, 3) := by decide +kernel
theorem dX7_init_17 : decode cX7_init 17 = .ok (.newarray .int, 2) := by decide +kernel
theorem dX7_init_19 : decode cX7_init 19 = .ok (.putfield 15, 3) := by decide +kernel
theorem dX7_init_22 : decode cX7_init 22 = .ok (.aload_n 0, 1) := by decide +kernel
theorem dX7_init_23 : decode cX7_init 23 = .ok (.sipush 301, 3) := by decide +kernel
theorem dX7_init_26 : decode cX7_init 26 = .ok (.newarray .int, 2) := by decide +kernel
theorem dX7_init_28 : decode cX7_init 28 = .ok (.putfield 18, 3) := by decide +kernel
theorem dX7_init_31 : decode cX7_init 31 = .ok (.aload_n 0, 1) := by decide +kernel
theorem dX7_init_32 : decode cX7_init 32 = .ok (.iconst 0, 1) := by decide +kernel
theorem dX7_init_33 : decode cX7_init 33 = .ok (.putfield 21, 3) := by decide +kernel
theorem dX7_init_36 : decode cX7_init 36 = .ok (.aload_n 0, 1) := by decide +kernel
theorem dX7_init_37 : decode cX7_init 37 = .ok (.iconst 0, 1) := by decide +kernel
theorem dX7_init_38 : decode cX7_init 38 = .ok (.putfield 25, 3) := by decide +kernel
theorem dX7_init_41 : decode cX7_init 41 = .ok (.return_, 1) := by decide +kernel
set_option maxRecDepth 20000 in
theorem ggX7_split_X5_byteAt : GoodIn wsX7_split wsX5_byteAt := goodIn_r _ [8, 9, 10, 104, 105] (by decide +kernel) (by decide +kernel)
set_option maxRecDepth 20000 in
theorem gX7_split_X5_byteAt : GoodIn wsX7_split (wsV RX7 33 RX5 yX5_byteAt wsX5_byteAt) := goodIn_app (goodIn_of _ (by decide +kernel)) ggX7_split_X5_byteAt
set_option maxRecDepth 20000 in
theorem ggX7_split_X7_isBlank : GoodIn wsX7_split wsX7_isBlank := goodIn_r _ [14] (by decide +kernel) (by decide +kernel)
set_option maxRecDepth 20000 in
theorem gX7_split_X7_isBlank : GoodIn wsX7_split (va_wsS RX7 37 yX7_isBlank wsX7_isBlank) := goodIn_app (goodIn_of _ (by decide +kernel)) ggX7_split_X7_isBlank
set_option maxRecDepth 20000 in
theorem ggX7_split_X7_isAlpha : GoodIn wsX7_split wsX7_isAlpha := goodIn_r _ [17] (by decide +kernel) (by decide +kernel)
set_option maxRecDepth 20000 in
theorem gX7_split_X7_isAlpha : GoodIn wsX7_split (va_wsS RX7 41 yX7_isAlpha wsX7_isAlpha) := goodIn_app (goodIn_of _ (by decide +kernel)) ggX7_split_X7_isAlpha
set_option maxRecDepth 20000 in
theorem ggX7_split_X7_splitWord : GoodIn wsX7_split wsX7_splitWord := goodIn_r _ [21, 3, 4, 5, 6, 7, 8, 9, 10, 15, 16, 13, 17, 22, 23, 24, 25, 26, 27, 28, 29, 30, 31, 32, 33, 34, 35, 36, 37, 38, 39, 40, 41, 42, 43, 44, 45, 46, 47, 48, 49, 50, 51, 52, 53, 54, 55, 56, 57, 58, 59, 60, 61, 62, 63, 64, 65, 66, 67, 68, 69, 70, 71, 72, 73, 74, 75, 76, 77, 2, 78, 79, 80, 104, 105, 99, 100, 101, 102, 103] (by decide +kernel) (by decide +kernel)
set_option maxRecDepth 20000 in
theorem gX7_split_X7_splitWord : GoodIn wsX7_split (wsV RX7 44 RX7 yX7_splitWord wsX7_splitWord) := goodIn_app (goodIn_of _ (by decide +kernel)) ggX7_split_X7_splitWord
set_option maxRecDepth 20000 in
theorem ggX7_split_X7_isNumeral : GoodIn wsX7_split wsX7_isNumeral := goodIn_r _ [83] (by decide +kernel) (by decide +kernel)
set_option maxRecDepth 20000 in
theorem gX7_split_X7_isNumeral : GoodIn wsX7_split (va_wsS RX7 48 yX7_isNumeral wsX7_isNumeral) := goodIn_app (goodIn_of _ (by decide +kernel)) ggX7_split_X7_isNumeral
set_option maxRecDepth 20000 in
theorem ggX7_split_X7_splitNumber : GoodIn wsX7_split wsX7_splitNumber := goodIn_r _ [87, 3, 88, 89, 90, 91, 4, 5, 6, 7, 8, 9, 10, 81, 82, 13, 83, 74, 75, 76, 77, 2, 78, 79, 80, 104, 105, 99, 100, 101, 102, 103] (by decide +kernel) (by decide +kernel)
set_option maxRecDepth 20000 in
theorem gX7_split_X7_splitNumber : GoodIn wsX7_split (wsV RX7 51 RX7 yX7_splitNumber wsX7_splitNumber) := goodIn_app (goodIn_of _ (by decide +kernel)) ggX7_split_X7_splitNumber
set_option maxRecDepth 20000 in
theorem ggX7_split_X7_splitSign : GoodIn wsX7_split wsX7_splitSign := goodIn_r _ [95, 4, 5, 6, 7, 8, 9, 10, 96, 97, 13, 98, 74, 75, 76, 77, 2, 78, 79, 80, 104, 105, 99, 100, 101, 102, 103] (by decide +kernel) (by decide +kernel)
set_option maxRecDepth 20000 in
theorem gX7_split_X7_splitSign : GoodIn wsX7_split (wsV RX7 54 RX7 yX7_splitSign wsX7_splitSign) := goodIn_app (goodIn_of _ (by decide +kernel)) ggX7_split_X7_splitSign
set_option maxRecDepth 20000 in
theorem ggX7_split_X7_add : GoodIn wsX7_split wsX7_add := goodIn_r _ [77, 2, 78, 79, 80, 99, 100, 101, 102, 103] (by decide +kernel) (by decide +kernel)
set_option maxRecDepth 20000 in
theorem gX7_split_X7_add : GoodIn wsX7_split (wsV RX7 57 RX7 yX7_add wsX7_add) := goodIn_app (goodIn_of _ (by decide +kernel)) ggX7_split_X7_add
theorem dX7_split_0 : decode cX7_split 0 = .ok (.aload_n 0, 1) := by decide +kernel
theorem dX7_split_1 : decode cX7_split 1 = .ok (.iconst 0, 1) := by decide +kernel
theorem dX7_split_2 : decode cX7_split 2 = .ok (.putfield 25, 3) := by decide +kernel
theorem dX7_split_5 : decode cX7_split 5 = .ok (.aload_n 0, 1) := by decide +kernel
theorem dX7_split_6 : decode cX7_split 6 = .ok (.iconst 0, 1) := by decide +kernel
theorem dX7_split_7 : decode cX7_split 7 = .ok (.putfield 21, 3) := by decide +kernel
theorem dX7_split_10 : decode cX7_split 10 = .ok (.iconst 0, 1) := by decide +kernel
theorem dX7_split_11 : decode cX7_split 11 = .ok (.istore_n 2, 1) := by decide +kernel
theorem dX7_split_12 : decode cX7_split 12 = .ok (.iconst 0, 1) := by decide +kernel
theorem dX7_split_13 : decode cX7_split 13 = .ok (.istore_n 3, 1) := by decide +kernel
theorem dX7_split_14 : decode cX7_split 14 = .ok (.iload_n 3, 1) := by decide +kernel
theorem dX7_split_15 : decode cX7_split 15 = .ok (.sipush 300, 3) := by decide +kernel
theorem dX7_split_18 : decode cX7_split 18 = .ok (.if_icmp .ge 81, 3) := by decide +kernel
theorem dX7_split_21 : decode cX7_split 21 = .ok (.iload_n 2, 1) := by decide +kernel
theorem dX7_split_22 : decode cX7_split 22 = .ok (.aload_n 1, 1) := by decide +kernel
theorem dX7_split_23 : decode cX7_split 23 = .ok (.getfield 28, 3) := by decide +kernel
theorem dX7_split_26 : decode cX7_split 26 = .ok (.if_icmp .ge 73, 3) := by decide +kernel
theorem dX7_split_29 : decode cX7_split 29 = .ok (.aload_n 1, 1) := by decide +kernel
theorem dX7_split_30 : decode cX7_split 30 = .ok (.iload_n 2, 1) := by decide +kernel
theorem dX7_split_31 : decode cX7_split 31 = .ok (.invokevirtual 33, 3) := by decide +kernel
theorem dX7_split_34 : decode cX7_split 34 = .ok (.istore 4, 2) := by decide +kernel
theorem dX7_split_36 : decode cX7_split 36 = .ok (.iload 4, 2) := by decide +kernel
theorem dX7_split_38 : decode cX7_split 38 = .ok (.invokestatic 37, 3) := by decide +kernel
theorem dX7_split_41 : decode cX7_split 41 = .ok (.ifCond .eq 9, 3) := by decide +kernel
theorem dX7_split_44 : decode cX7_split 44 = .ok (.iinc 2 1, 3) := by decide +kernel
theorem dX7_split_47 : decode cX7_split 47 = .ok (.goto 46, 3) := by decide +kernel
theorem dX7_split_50 : decode cX7_split 50 = .ok (.iload 4, 2) := by decide +kernel
theorem dX7_split_52 : decode cX7_split 52 = .ok (.invokestatic 41, 3) := by decide +kernel
theorem dX7_split_55 : decode cX7_split 55 = .ok (.ifCond .eq 13, 3) := by decide +kernel
theorem dX7_split_58 : decode cX7_split 58 = .ok (.aload_n 0, 1) := by decide +kernel
theorem dX7_split_59 : decode cX7_split 59 = .ok (.aload_n 1, 1) := by decide +kernel
theorem dX7_split_60 : decode cX7_split 60 = .ok (.iload_n 2, 1) := by decide +kernel
theorem dX7_split_61 : decode cX7_split 61 = .ok (.invokevirtual 44, 3) := by decide +kernel
theorem dX7_split_64 : decode cX7_split 64 = .ok (.istore_n 2, 1) := by decide +kernel
theorem dX7_split_65 : decode cX7_split 65 = .ok (.goto 28, 3) := by decide +kernel
theorem dX7_split_68 : decode cX7_split 68 = .ok (.iload 4, 2) := by decide +kernel
theorem dX7_split_70 : decode cX7_split 70 = .ok (.invokestatic 48, 3) := by decide +kernel
theorem dX7_split_73 : decode cX7_split 73 = .ok (.ifCond .eq 13, 3) := by decide +kernel
theorem dX7_split_76 : decode cX7_split 76 = .ok (.aload_n 0, 1) := by decide +kernel
theorem dX7_split_77 : decode cX7_split 77 = .ok (.aload_n 1, 1) := by decide +kernel
theorem dX7_split_78 : decode cX7_split 78 = .ok (.iload_n 2, 1) := by decide +kernel
theorem dX7_split_79 : decode cX7_split 79 = .ok (.invokevirtual 51, 3) := by decide +kernel
theorem dX7_split_82 : decode cX7_split 82 = .ok (.istore_n 2, 1) := by decide +kernel
theorem dX7_split_83 : decode cX7_split 83 = .ok (.goto 10, 3) := by decide +kernel
theorem dX7_split_86 : decode cX7_split 86 = .ok (.aload_n 0, 1) := by decide +kernel
theorem dX7_split_87 : decode cX7_split 87 = .ok (.aload_n 1, 1) := by decide +kernel
theorem dX7_split_88 : decode cX7_split 88 = .ok (.iload_n 2, 1) := by decide +kernel
theorem dX7_split_89 : decode cX7_split 89 = .ok (.invokevirtual 54, 3) := by decide +kernel
theorem dX7_split_92 : decode cX7_split 92 = .ok (.istore_n 2, 1) := by decide +kernel
theorem dX7_split_93 : decode cX7_split 93 = .ok (.iinc 3 1, 3) := by decide +kernel
theorem dX7_split_96 : decode cX7_split 96 = .ok (.goto (-82), 3) := by decide +kernel
theorem dX7_split_99 : decode cX7_split 99 = .ok (.aload_n 0, 1) := by decide +kernel
theorem dX7_split_100 : decode cX7_split 100 = .ok (.iconst 0, 1) := by decide +kernel
theorem dX7_split_101 : decode cX7_split 101 = .ok (.aload_n 1, 1) := by decide +kernel
theorem dX7_split_102 : decode cX7_split 102 = .ok (.getfield 28, 3) := by decide +kernel
theorem dX7_split_105 : decode cX7_split 105 = .ok (.iconst 0, 1) := by decide +kernel
theorem dX7_split_106 : decode cX7_split 106 = .ok (.invokevirtual 57, 3) := by decide +kernel
theorem dX7_split_109 : decode cX7_split 109 = .ok (.return_, 1) := by decide +kernel
theorem dX7_kind_0 : decode cX7_kind 0 = .ok (.aload_n 0, 1) := by decide +kernel
theorem dX7_kind_1 : decode cX7_kind 1 = .ok (.getfield 25, 3) := by decide +kernel
theorem dX7_kind_4 : decode cX7_kind 4 = .ok (.aload_n 0, 1) := by decide +kernel
theorem dX7_kind_5 : decode cX7_kind 5 = .ok (.getfield 21, 3) := by decide +kernel
theorem dX7_kind_8 : decode cX7_kind 8 = .ok (.if_icmp .ge 27, 3) := by decide +kernel
theorem dX7_kind_11 : decode cX7_kind 11 = .ok (.aload_n 0, 1) := by decide +kernel
theorem dX7_kind_12 : decode cX7_kind 12 = .ok (.getfield 25, 3) := by decide +kernel
theorem dX7_kind_15 : decode cX7_kind 15 = .ok (.aload_n 0, 1) := by decide +kernel
theorem dX7_kind_16 : decode cX7_kind 16 = .ok (.getfield 9, 3) := by decide +kernel
theorem dX7_kind_19 : decode cX7_kind 19 = .ok (.arraylength, 1) := by decide +kernel
theorem dX7_kind_20 : decode cX7_kind 20 = .ok (.if_icmp .ge 15, 3) := by decide +kernel
theorem dX7_kind_23 : decode cX7_kind 23 = .ok (.aload_n 0, 1) := by decide +kernel
theorem dX7_kind_24 : decode cX7_kind 24 = .ok (.getfield 9, 3) := by decide +kernel
theorem dX7_kind_27 : decode cX7_kind 27 = .ok (.aload_n 0, 1) := by decide +kernel
theorem dX7_kind_28 : decode cX7_kind 28 = .ok (.getfield 25, 3) := by decide +kernel
theorem dX7_kind_31 : decode cX7_kind 31 = .ok (.iaload, 1) := by decide +kernel
theorem dX7_kind_32 : decode cX7_kind 32 = .ok (.goto 4, 3) := by decide +kernel
theorem dX7_kind_35 : decode cX7_kind 35 = .ok (.iconst 0, 1) := by decide +kernel
theorem dX7_kind_36 : decode cX7_kind 36 = .ok (.ireturn, 1) := by decide +kernel
theorem dX7_start_0 : decode cX7_start 0 = .ok (.aload_n 0, 1) := by decide +kernel
theorem dX7_start_1 : decode cX7_start 1 = .ok (.getfield 25, 3) := by decide +kernel
theorem dX7_start_4 : decode cX7_start 4 = .ok (.aload_n 0, 1) := by decide +kernel
theorem dX7_start_5 : decode cX7_start 5 = .ok (.getfield 21, 3) := by decide +kernel
theorem dX7_start_8 : decode cX7_start 8 = .ok (.if_icmp .ge 27, 3) := by decide +kernel
theorem dX7_start_11 : decode cX7_start 11 = .ok (.aload_n 0, 1) := by decide +kernel
theorem dX7_start_12 : decode cX7_start 12 = .ok (.getfield 25, 3) := by decide +kernel
theorem dX7_start_15 : decode cX7_start 15 = .ok (.aload_n 0, 1) := by decide +kernel
theorem dX7_start_16 : decode cX7_start 16 = .ok (.getfield 15, 3) := by decide +kernel
theorem dX7_start_19 : decode cX7_start 19 = .ok (.arraylength, 1) := by decide +kernel
theorem dX7_start_20 : decode cX7_start 20 = .ok (.if_icmp .ge 15, 3) := by decide +kernel
theorem dX7_start_23 : decode cX7_start 23 = .ok (.aload_n 0, 1) := by decide +kernel
theorem dX7_start_24 : decode cX7_start 24 = .ok (.getfield 15, 3) := by decide +kernel
theorem dX7_start_27 : decode cX7_start 27 = .ok (.aload_n 0, 1) := by decide +kernel
theorem dX7_start_28 : decode cX7_start 28 = .ok (.getfield 25, 3) := by decide +kernel
theorem dX7_start_31 : decode cX7_start 31 = .ok (.iaload, 1) := by decide +kernel
theorem dX7_start_32 : decode cX7_start 32 = .ok (.goto 4, 3) := by decide +kernel
theorem dX7_start_35 : decode cX7_start 35 = .ok (.iconst 0, 1) := by decide +kernel
theorem dX7_start_36 : decode cX7_start 36 = .ok (.ireturn, 1) := by decide +kernel
theorem dX7_value_0 : decode cX7_value 0 = .ok (.aload_n 0, 1) := by decide +kernel
theorem dX7_value_1 : decode cX7_value 1 = .ok (.getfield 25, 3) := by decide +kernel
theorem dX7_value_4 : decode cX7_value 4 = .ok (.aload_n 0, 1) := by decide +kernel
theorem dX7_value_5 : decode cX7_value 5 = .ok (.getfield 21, 3) := by decide +kernel
theorem dX7_value_8 : decode cX7_value 8 = .ok (.if_icmp .ge 27, 3) := by decide +kernel
theorem dX7_value_11 : decode cX7_value 11 = .ok (.aload_n 0, 1) := by decide +kernel
theorem dX7_value_12 : decode cX7_value 12 = .ok (.getfield 25, 3) := by decide +kernel
theorem dX7_value_15 : decode cX7_value 15 = .ok (.aload_n 0, 1) := by decide +kernel
theorem dX7_value_16 : decode cX7_value 16 = .ok (.getfield 18, 3) := by decide +kernel
theorem dX7_value_19 : decode cX7_value 19 = .ok (.arraylength, 1) := by decide +kernel
theorem dX7_value_20 : decode cX7_value 20 = .ok (.if_icmp .ge 15, 3) := by decide +kernel
theorem dX7_value_23 : decode cX7_value 23 = .ok (.aload_n 0, 1) := by decide +kernel
theorem dX7_value_24 : decode cX7_value 24 = .ok (.getfield 18, 3) := by decide +kernel
theorem dX7_value_27 : decode cX7_value 27 = .ok (.aload_n 0, 1) := by decide +kernel
theorem dX7_value_28 : decode cX7_value 28 = .ok (.getfield 25, 3) := by decide +kernel
theorem dX7_value_31 : decode cX7_value 31 = .ok (.iaload, 1) := by decide +kernel
theorem dX7_value_32 : decode cX7_value 32 = .ok (.goto 4, 3) := by decide +kernel
theorem dX7_value_35 : decode cX7_value 35 = .ok (.iconst 0, 1) := by decide +kernel
theorem dX7_value_36 : decode cX7_value 36 = .ok (.ireturn, 1) := by decide +kernel
theorem dX7_advance_0 : decode cX7_advance 0 = .ok (.aload_n 0, 1) := by decide +kernel
theorem dX7_advance_1 : decode cX7_advance 1 = .ok (.getfield 25, 3) := by decide +kernel
theorem dX7_advance_4 : decode cX7_advance 4 = .ok (.aload_n 0, 1) := by decide +kernel
theorem dX7_advance_5 : decode cX7_advance 5 = .ok (.getfield 21, 3) := by decide +kernel
theorem dX7_advance_8 : decode cX7_advance 8 = .ok (.iconst 1, 1) := by decide +kernel
theorem dX7_advance_9 : decode cX7_advance 9 = .ok (.isub, 1) := by decide +kernel
theorem dX7_advance_10 : decode cX7_advance 10 = .ok (.if_icmp .ge 13, 3) := by decide +kernel
theorem dX7_advance_13 : decode cX7_advance 13 = .ok (.aload_n 0, 1) := by decide +kernel
theorem dX7_advance_14 : decode cX7_advance 14 = .ok (.dup, 1) := by decide +kernel
theorem dX7_advance_15 : decode cX7_advance 15 = .ok (.getfield 25, 3) := by decide +kernel
theorem dX7_advance_18 : decode cX7_advance 18 = .ok (.iconst 1, 1) := by decide +kernel
theorem dX7_advance_19 : decode cX7_advance 19 = .ok (.iadd, 1) := by decide +kernel
theorem dX7_advance_20 : decode cX7_advance 20 = .ok (.putfield 25, 3) := by decide +kernel
theorem dX7_advance_23 : decode cX7_advance 23 = .ok (.return_, 1) := by decide +kernel
theorem dX7_add_0 : decode cX7_add 0 = .ok (.aload_n 0, 1) := by decide +kernel
theorem dX7_add_1 : decode cX7_add 1 = .ok (.getfield 21, 3) := by decide +kernel
theorem dX7_add_4 : decode cX7_add 4 = .ok (.aload_n 0, 1) := by decide +kernel
theorem dX7_add_5 : decode cX7_add 5 = .ok (.getfield 9, 3) := by decide +kernel
theorem dX7_add_8 : decode cX7_add 8 = .ok (.arraylength, 1) := by decide +kernel
theorem dX7_add_9 : decode cX7_add 9 = .ok (.if_icmp .ge 67, 3) := by decide +kernel
theorem dX7_add_12 : decode cX7_add 12 = .ok (.aload_n 0, 1) := by decide +kernel
theorem dX7_add_13 : decode cX7_add 13 = .ok (.getfield 21, 3) := by decide +kernel
theorem dX7_add_16 : decode cX7_add 16 = .ok (.aload_n 0, 1) := by decide +kernel
theorem dX7_add_17 : decode cX7_add 17 = .ok (.getfield 15, 3) := by decide +kernel
theorem dX7_add_20 : decode cX7_add 20 = .ok (.arraylength, 1) := by decide +kernel
theorem dX7_add_21 : decode cX7_add 21 = .ok (.if_icmp .ge 55, 3) := by decide +kernel
theorem dX7_add_24 : decode cX7_add 24 = .ok (.aload_n 0, 1) := by decide +kernel
theorem dX7_add_25 : decode cX7_add 25 = .ok (.getfield 21, 3) := by decide +kernel
theorem dX7_add_28 : decode cX7_add 28 = .ok (.aload_n 0, 1) := by decide +kernel
theorem dX7_add_29 : decode cX7_add 29 = .ok (.getfield 18, 3) := by decide +kernel
theorem dX7_add_32 : decode cX7_add 32 = .ok (.arraylength, 1) := by decide +kernel
theorem dX7_add_33 : decode cX7_add 33 = .ok (.if_icmp .ge 43, 3) := by decide +kernel
theorem dX7_add_36 : decode cX7_add 36 = .ok (.aload_n 0, 1) := by decide +kernel
theorem dX7_add_37 : decode cX7_add 37 = .ok (.getfield 9, 3) := by decide +kernel
theorem dX7_add_40 : decode cX7_add 40 = .ok (.aload_n 0, 1) := by decide +kernel
theorem dX7_add_41 : decode cX7_add 41 = .ok (.getfield 21, 3) := by decide +kernel
theorem dX7_add_44 : decode cX7_add 44 = .ok (.iload_n 1, 1) := by decide +kernel
theorem dX7_add_45 : decode cX7_add 45 = .ok (.iastore, 1) := by decide +kernel
theorem dX7_add_46 : decode cX7_add 46 = .ok (.aload_n 0, 1) := by decide +kernel
theorem dX7_add_47 : decode cX7_add 47 = .ok (.getfield 15, 3) := by decide +kernel
theorem dX7_add_50 : decode cX7_add 50 = .ok (.aload_n 0, 1) := by decide +kernel
theorem dX7_add_51 : decode cX7_add 51 = .ok (.getfield 21, 3) := by decide +kernel
theorem dX7_add_54 : decode cX7_add 54 = .ok (.iload_n 2, 1) := by decide +kernel
theorem dX7_add_55 : decode cX7_add 55 = .ok (.iastore, 1) := by decide +kernel
theorem dX7_add_56 : decode cX7_add 56 = .ok (.aload_n 0, 1) := by decide +kernel
theorem dX7_add_57 : decode cX7_add 57 = .ok (.getfield 18, 3) := by decide +kernel
theorem dX7_add_60 : decode cX7_add 60 = .ok (.aload_n 0, 1) := by decide +kernel
theorem dX7_add_61 : decode cX7_add 61 = .ok (.getfield 21, 3) := by decide +kernel
theorem dX7_add_64 : decode cX7_add 64 = .ok (.iload_n 3, 1) := by decide +kernel
theorem dX7_add_65 : decode cX7_add 65 = .ok (.iastore, 1) := by decide +kernel
theorem dX7_add_66 : decode cX7_add 66 = .ok (.aload_n 0, 1) := by decide +kernel
theorem dX7_add_67 : decode cX7_add 67 = .ok (.dup, 1) := by decide +kernel
theorem dX7_add_68 : decode cX7_add 68 = .ok (.getfield 21, 3) := by decide +kernel
theorem dX7_add_71 : decode cX7_add 71 = .ok (.iconst 1, 1) := by decide +kernel
theorem dX7_add_72 : decode cX7_add 72 = .ok (.iadd, 1) := by decide +kernel
theorem dX7_add_73 : decode cX7_add 73 = .ok (.putfield 21, 3) := by decide +kernel
theorem dX7_add_76 : decode cX7_add 76 = .ok (.return_, 1) := by decide +kernel
set_option maxRecDepth 20000 in
theorem ggX7_splitWord_X5_byteAt : GoodIn wsX7_splitWord wsX5_byteAt := goodIn_r _ [6, 7, 8, 73, 74] (by decide +kernel) (by decide +kernel)
set_option maxRecDepth 20000 in
theorem gX7_splitWord_X5_byteAt : GoodIn wsX7_splitWord (wsV RX7 33 RX5 yX5_byteAt wsX5_byteAt) := goodIn_app (goodIn_of _ (by decide +kernel)) ggX7_splitWord_X5_byteAt
set_option maxRecDepth 20000 in
theorem ggX7_splitWord_X7_isAlpha : GoodIn wsX7_splitWord wsX7_isAlpha := goodIn_r _ [12] (by decide +kernel) (by decide +kernel)
set_option maxRecDepth 20000 in
theorem gX7_splitWord_X7_isAlpha : GoodIn wsX7_splitWord (va_wsS RX7 41 yX7_isAlpha wsX7_isAlpha) := goodIn_app (goodIn_of _ (by decide +kernel)) ggX7_splitWord_X7_isAlpha
set_option maxRecDepth 20000 in
theorem ggX7_splitWord_X7_wordKind : GoodIn wsX7_splitWord wsX7_wordKind := goodIn_r _ [15, 16, 17, 18, 19, 20, 21, 22, 23, 24, 25, 26, 27, 28, 29, 30, 31, 32, 33, 34, 35, 36, 37, 38, 39, 40, 41, 42, 43, 44, 45, 46, 47, 48, 49, 50, 51, 52, 53, 54, 55, 56, 57, 58, 59, 60, 61, 62, 63, 64, 2, 3, 4, 5, 6, 7, 8, 73, 74] (by decide +kernel) (by decide +kernel)
set_option maxRecDepth 20000 in
theorem gX7_splitWord_X7_wordKind : GoodIn wsX7_splitWord (va_wsS RX7 61 yX7_wordKind wsX7_wordKind) := goodIn_app (goodIn_of _ (by decide +kernel)) ggX7_splitWord_X7_wordKind
set_option maxRecDepth 20000 in
theorem ggX7_splitWord_X7_add : GoodIn wsX7_splitWord wsX7_add := goodIn_r _ [68, 69, 70, 71, 72, 75, 76, 77, 78, 79] (by decide +kernel) (by decide +kernel)
set_option maxRecDepth 20000 in
theorem gX7_splitWord_X7_add : GoodIn wsX7_splitWord (wsV RX7 57 RX7 yX7_add wsX7_add) := goodIn_app (goodIn_of _ (by decide +kernel)) ggX7_splitWord_X7_add
theorem dX7_splitWord_0 : decode cX7_splitWord 0 = .ok (.iload_n 2, 1) := by decide +kernel
theorem dX7_splitWord_1 : decode cX7_splitWord 1 = .ok (.istore_n 3, 1) := by decide +kernel
theorem dX7_splitWord_2 : decode cX7_splitWord 2 = .ok (.iload_n 3, 1) := by decide +kernel
theorem dX7_splitWord_3 : decode cX7_splitWord 3 = .ok (.aload_n 1, 1) := by decide +kernel
theorem dX7_splitWord_4 : decode cX7_splitWord 4 = .ok (.getfield 28, 3) := by decide +kernel
theorem dX7_splitWord_7 : decode cX7_splitWord 7 = .ok (.if_icmp .ge 20, 3) := by decide +kernel
theorem dX7_splitWord_10 : decode cX7_splitWord 10 = .ok (.aload_n 1, 1) := by decide +kernel
theorem dX7_splitWord_11 : decode cX7_splitWord 11 = .ok (.iload_n 3, 1) := by decide +kernel
theorem dX7_splitWord_12 : decode cX7_splitWord 12 = .ok (.invokevirtual 33, 3) := by decide +kernel
theorem dX7_splitWord_15 : decode cX7_splitWord 15 = .ok (.invokestatic 41, 3) := by decide +kernel
theorem dX7_splitWord_18 : decode cX7_splitWord 18 = .ok (.ifCond .eq 9, 3) := by decide +kernel
theorem dX7_splitWord_21 : decode cX7_splitWord 21 = .ok (.iinc 3 1, 3) := by decide +kernel
theorem dX7_splitWord_24 : decode cX7_splitWord 24 = .ok (.goto (-22), 3) := by decide +kernel
theorem dX7_splitWord_27 : decode cX7_splitWord 27 = .ok (.aload_n 0, 1) := by decide +kernel
theorem dX7_splitWord_28 : decode cX7_splitWord 28 = .ok (.aload_n 1, 1) := by decide +kernel
theorem dX7_splitWord_29 : decode cX7_splitWord 29 = .ok (.iload_n 2, 1) := by decide +kernel
theorem dX7_splitWord_30 : decode cX7_splitWord 30 = .ok (.iload_n 3, 1) := by decide +kernel
theorem dX7_splitWord_31 : decode cX7_splitWord 31 = .ok (.iload_n 2, 1) := by decide +kernel
theorem dX7_splitWord_32 : decode cX7_splitWord 32 = .ok (.isub, 1) := by decide +kernel
theorem dX7_splitWord_33 : decode cX7_splitWord 33 = .ok (.invokestatic 61, 3) := by decide +kernel
theorem dX7_splitWord_36 : decode cX7_splitWord 36 = .ok (.iload_n 2, 1) := by decide +kernel
theorem dX7_splitWord_37 : decode cX7_splitWord 37 = .ok (.iconst 0, 1) := by decide +kernel
theorem dX7_splitWord_38 : decode cX7_splitWord 38 = .ok (.invokevirtual 57, 3) := by decide +kernel
theorem dX7_splitWord_41 : decode cX7_splitWord 41 = .ok (.iload_n 3, 1) := by decide +kernel
theorem dX7_splitWord_42 : decode cX7_splitWord 42 = .ok (.ireturn, 1) := by decide +kernel
set_option maxRecDepth 20000 in
theorem ggX7_wordKind_J0_length_8abf5 : GoodIn wsX7_wordKind wsJ0_length_8abf5 := goodIn_r _ [5, 6, 7, 8, 9, 4, 10, 11, 12] (by decide +kernel) (by decide +kernel)
set_option maxRecDepth 20000 in
theorem gX7_wordKind_J0_length_8abf5 : GoodIn wsX7_wordKind (wsV RX7 67 RJ0 yJ0_length_8abf5 wsJ0_length_8abf5) := goodIn_app (goodIn_of _ (by decide +kernel)) ggX7_wordKind_J0_length_8abf5
set_option maxRecDepth 20000 in
theorem ggX7_wordKind_J0_charAt_5068e : GoodIn wsX7_wordKind wsJ0_charAt_5068e := goodIn_r _ [16, 6, 17, 18, 19, 4, 20, 11, 12, 21, 22, 23, 24, 25, 26, 27, 28, 29, 30, 31, 32, 33, 34, 35, 36, 37, 38, 39, 40, 41, 42, 43, 44, 45, 46, 47, 48, 49] (by decide +kernel) (by decide +kernel)
set_option maxRecDepth 20000 in
theorem gX7_wordKind_J0_charAt_5068e : GoodIn wsX7_wordKind (wsV RX7 72 RJ0 yJ0_charAt_5068e wsJ0_charAt_5068e) := goodIn_app (goodIn_of _ (by decide +kernel)) ggX7_wordKind_J0_charAt_5068e
set_option maxRecDepth 20000 in
theorem ggX7_wordKind_X5_byteAt : GoodIn wsX7_wordKind wsX5_byteAt := goodIn_r _ [54, 55, 56, 57, 58] (by decide +kernel) (by decide +kernel)
set_option maxRecDepth 20000 in
theorem gX7_wordKind_X5_byteAt : GoodIn wsX7_wordKind (wsV RX7 33 RX5 yX5_byteAt wsX5_byteAt) := goodIn_app (goodIn_of _ (by decide +kernel)) ggX7_wordKind_X5_byteAt
theorem dX7_wordKind_0 : decode cX7_wordKind 0 = .ok (.bipush 16, 2) := by decide +kernel
theorem dX7_wordKind_2 : decode cX7_wordKind 2 = .ok (.istore_n 3, 1) := by decide +kernel
theorem dX7_wordKind_3 : decode cX7_wordKind 3 = .ok (.iconst 0, 1) := by decide +kernel
theorem dX7_wordKind_4 : decode cX7_wordKind 4 = .ok (.istore 4, 2) := by decide +kernel
theorem dX7_wordKind_6 : decode cX7_wordKind 6 = .ok (.iconst 1, 1) := by decide +kernel
theorem dX7_wordKind_7 : decode cX7_wordKind 7 = .ok (.istore 5, 2) := by decide +kernel
theorem dX7_wordKind_9 : decode cX7_wordKind 9 = .ok (.iconst 0, 1) := by decide +kernel
theorem dX7_wordKind_10 : decode cX7_wordKind 10 = .ok (.istore 6, 2) := by decide +kernel
theorem dX7_wordKind_12 : decode cX7_wordKind 12 = .ok (.iload 6, 2) := by decide +kernel
theorem dX7_wordKind_14 : decode cX7_wordKind 14 = .ok (.ldc 65, 2) := by decide +kernel
theorem dX7_wordKind_16 : decode cX7_wordKind 16 = .ok (.invokevirtual 67, 3) := by decide +kernel
theorem dX7_wordKind_19 : decode cX7_wordKind 19 = .ok (.if_icmp .ge 93, 3) := by decide +kernel
theorem dX7_wordKind_22 : decode cX7_wordKind 22 = .ok (.ldc 65, 2) := by decide +kernel
theorem dX7_wordKind_24 : decode cX7_wordKind 24 = .ok (.iload 6, 2) := by decide +kernel
theorem dX7_wordKind_26 : decode cX7_wordKind 26 = .ok (.invokevirtual 72, 3) := by decide +kernel
theorem dX7_wordKind_29 : decode cX7_wordKind 29 = .ok (.istore 7, 2) := by decide +kernel
theorem dX7_wordKind_31 : decode cX7_wordKind 31 = .ok (.iload 7, 2) := by decide +kernel
theorem dX7_wordKind_33 : decode cX7_wordKind 33 = .ok (.bipush 32, 2) := by decide +kernel
theorem dX7_wordKind_35 : decode cX7_wordKind 35 = .ok (.if_icmp .eq 43, 3) := by decide +kernel
theorem dX7_wordKind_38 : decode cX7_wordKind 38 = .ok (.iload 5, 2) := by decide +kernel
theorem dX7_wordKind_40 : decode cX7_wordKind 40 = .ok (.ifCond .eq 32, 3) := by decide +kernel
theorem dX7_wordKind_43 : decode cX7_wordKind 43 = .ok (.iload 6, 2) := by decide +kernel
theorem dX7_wordKind_45 : decode cX7_wordKind 45 = .ok (.iload 4, 2) := by decide +kernel
theorem dX7_wordKind_47 : decode cX7_wordKind 47 = .ok (.isub, 1) := by decide +kernel
theorem dX7_wordKind_48 : decode cX7_wordKind 48 = .ok (.iload_n 2, 1) := by decide +kernel
theorem dX7_wordKind_49 : decode cX7_wordKind 49 = .ok (.if_icmp .ge 23, 3) := by decide +kernel
theorem dX7_wordKind_52 : decode cX7_wordKind 52 = .ok (.aload_n 0, 1) := by decide +kernel
theorem dX7_wordKind_53 : decode cX7_wordKind 53 = .ok (.iload_n 1, 1) := by decide +kernel
theorem dX7_wordKind_54 : decode cX7_wordKind 54 = .ok (.iload 6, 2) := by decide +kernel
theorem dX7_wordKind_56 : decode cX7_wordKind 56 = .ok (.iadd, 1) := by decide +kernel
theorem dX7_wordKind_57 : decode cX7_wordKind 57 = .ok (.iload 4, 2) := by decide +kernel
theorem dX7_wordKind_59 : decode cX7_wordKind 59 = .ok (.isub, 1) := by decide +kernel
theorem dX7_wordKind_60 : decode cX7_wordKind 60 = .ok (.invokevirtual 33, 3) := by decide +kernel
theorem dX7_wordKind_63 : decode cX7_wordKind 63 = .ok (.iload 7, 2) := by decide +kernel
theorem dX7_wordKind_65 : decode cX7_wordKind 65 = .ok (.if_icmp .ne 7, 3) := by decide +kernel
theorem dX7_wordKind_68 : decode cX7_wordKind 68 = .ok (.iconst 1, 1) := by decide +kernel
theorem dX7_wordKind_69 : decode cX7_wordKind 69 = .ok (.goto 4, 3) := by decide +kernel
theorem dX7_wordKind_72 : decode cX7_wordKind 72 = .ok (.iconst 0, 1) := by decide +kernel
theorem dX7_wordKind_73 : decode cX7_wordKind 73 = .ok (.istore 5, 2) := by decide +kernel
theorem dX7_wordKind_75 : decode cX7_wordKind 75 = .ok (.goto 31, 3) := by decide +kernel
theorem dX7_wordKind_78 : decode cX7_wordKind 78 = .ok (.iload 5, 2) := by decide +kernel
theorem dX7_wordKind_80 : decode cX7_wordKind 80 = .ok (.ifCond .eq 14, 3) := by decide +kernel
theorem dX7_wordKind_83 : decode cX7_wordKind 83 = .ok (.iload 6, 2) := by decide +kernel
theorem dX7_wordKind_85 : decode cX7_wordKind 85 = .ok (.iload 4, 2) := by decide +kernel
theorem dX7_wordKind_87 : decode cX7_wordKind 87 = .ok (.isub, 1) := by decide +kernel
theorem dX7_wordKind_88 : decode cX7_wordKind 88 = .ok (.iload_n 2, 1) := by decide +kernel
theorem dX7_wordKind_89 : decode cX7_wordKind 89 = .ok (.if_icmp .ne 5, 3) := by decide +kernel
theorem dX7_wordKind_92 : decode cX7_wordKind 92 = .ok (.iload_n 3, 1) := by decide +kernel
theorem dX7_wordKind_93 : decode cX7_wordKind 93 = .ok (.ireturn, 1) := by decide +kernel
theorem dX7_wordKind_94 : decode cX7_wordKind 94 = .ok (.iinc 3 1, 3) := by decide +kernel
theorem dX7_wordKind_97 : decode cX7_wordKind 97 = .ok (.iload 6, 2) := by decide +kernel
theorem dX7_wordKind_99 : decode cX7_wordKind 99 = .ok (.iconst 1, 1) := by decide +kernel
theorem dX7_wordKind_100 : decode cX7_wordKind 100 = .ok (.iadd, 1) := by decide +kernel
theorem dX7_wordKind_101 : decode cX7_wordKind 101 = .ok (.istore 4, 2) := by decide +kernel
theorem dX7_wordKind_103 : decode cX7_wordKind 103 = .ok (.iconst 1, 1) := by decide +kernel
theorem dX7_wordKind_104 : decode cX7_wordKind 104 = .ok (.istore 5, 2) := by decide +kernel
theorem dX7_wordKind_106 : decode cX7_wordKind 106 = .ok (.iinc 6 1, 3) := by decide +kernel
theorem dX7_wordKind_109 : decode cX7_wordKind 109 = .ok (.goto (-97), 3) := by decide +kernel
theorem dX7_wordKind_112 : decode cX7_wordKind 112 = .ok (.iconst 1, 1) := by decide +kernel
theorem dX7_wordKind_113 : decode cX7_wordKind 113 = .ok (.ireturn, 1) := by decide +kernel
set_option maxRecDepth 20000 in
theorem ggX7_splitNumber_X5_byteAt : GoodIn wsX7_splitNumber wsX5_byteAt := goodIn_r _ [10, 11, 12, 25, 26] (by decide +kernel) (by decide +kernel)
set_option maxRecDepth 20000 in
theorem gX7_splitNumber_X5_byteAt : GoodIn wsX7_splitNumber (wsV RX7 33 RX5 yX5_byteAt wsX5_byteAt) := goodIn_app (goodIn_of _ (by decide +kernel)) ggX7_splitNumber_X5_byteAt
set_option maxRecDepth 20000 in
theorem ggX7_splitNumber_X7_isNumeral : GoodIn wsX7_splitNumber wsX7_isNumeral := goodIn_r _ [16] (by decide +kernel) (by decide +kernel)
set_option maxRecDepth 20000 in
theorem gX7_splitNumber_X7_isNumeral : GoodIn wsX7_splitNumber (va_wsS RX7 48 yX7_isNumeral wsX7_isNumeral) := goodIn_app (goodIn_of _ (by decide +kernel)) ggX7_splitNumber_X7_isNumeral
set_option maxRecDepth 20000 in
theorem ggX7_splitNumber_X7_add : GoodIn wsX7_splitNumber wsX7_add := goodIn_r _ [20, 21, 22, 23, 24, 27, 28, 29, 30, 31] (by decide +kernel) (by decide +kernel)
set_option maxRecDepth 20000 in
theorem gX7_splitNumber_X7_add : GoodIn wsX7_splitNumber (wsV RX7 57 RX7 yX7_add wsX7_add) := goodIn_app (goodIn_of _ (by decide +kernel)) ggX7_splitNumber_X7_add
theorem dX7_splitNumber_0 : decode cX7_splitNumber 0 = .ok (.iload_n 2, 1) := by decide +kernel
theorem dX7_splitNumber_1 : decode cX7_splitNumber 1 = .ok (.istore_n 3, 1) := by decide +kernel
theorem dX7_splitNumber_2 : decode cX7_splitNumber 2 = .ok (.iconst 0, 1) := by decide +kernel
theorem dX7_splitNumber_3 : decode cX7_splitNumber 3 = .ok (.istore 4, 2) := by decide +kernel
theorem dX7_splitNumber_5 : decode cX7_splitNumber 5 = .ok (.iload_n 3, 1) := by decide +kernel
theorem dX7_splitNumber_6 : decode cX7_splitNumber 6 = .ok (.aload_n 1, 1) := by decide +kernel
theorem dX7_splitNumber_7 : decode cX7_splitNumber 7 = .ok (.getfield 28, 3) := by decide +kernel
theorem dX7_splitNumber_10 : decode cX7_splitNumber 10 = .ok (.if_icmp .ge 42, 3) := by decide +kernel
theorem dX7_splitNumber_13 : decode cX7_splitNumber 13 = .ok (.aload_n 1, 1) := by decide +kernel
theorem dX7_splitNumber_14 : decode cX7_splitNumber 14 = .ok (.iload_n 3, 1) := by decide +kernel
theorem dX7_splitNumber_15 : decode cX7_splitNumber 15 = .ok (.invokevirtual 33, 3) := by decide +kernel
theorem dX7_splitNumber_18 : decode cX7_splitNumber 18 = .ok (.invokestatic 48, 3) := by decide +kernel
theorem dX7_splitNumber_21 : decode cX7_splitNumber 21 = .ok (.ifCond .eq 31, 3) := by decide +kernel
theorem dX7_splitNumber_24 : decode cX7_splitNumber 24 = .ok (.sipush 10000, 3) := by decide +kernel
theorem dX7_splitNumber_27 : decode cX7_splitNumber 27 = .ok (.iload 4, 2) := by decide +kernel
theorem dX7_splitNumber_29 : decode cX7_splitNumber 29 = .ok (.bipush 10, 2) := by decide +kernel
theorem dX7_splitNumber_31 : decode cX7_splitNumber 31 = .ok (.imul, 1) := by decide +kernel
theorem dX7_splitNumber_32 : decode cX7_splitNumber 32 = .ok (.aload_n 1, 1) := by decide +kernel
theorem dX7_splitNumber_33 : decode cX7_splitNumber 33 = .ok (.iload_n 3, 1) := by decide +kernel
theorem dX7_splitNumber_34 : decode cX7_splitNumber 34 = .ok (.invokevirtual 33, 3) := by decide +kernel
theorem dX7_splitNumber_37 : decode cX7_splitNumber 37 = .ok (.iadd, 1) := by decide +kernel
theorem dX7_splitNumber_38 : decode cX7_splitNumber 38 = .ok (.bipush 48, 2) := by decide +kernel
theorem dX7_splitNumber_40 : decode cX7_splitNumber 40 = .ok (.isub, 1) := by decide +kernel
theorem dX7_splitNumber_41 : decode cX7_splitNumber 41 = .ok (.invokestatic 76, 3) := by decide +kernel
theorem dX7_splitNumber_44 : decode cX7_splitNumber 44 = .ok (.istore 4, 2) := by decide +kernel
theorem dX7_splitNumber_46 : decode cX7_splitNumber 46 = .ok (.iinc 3 1, 3) := by decide +kernel
theorem dX7_splitNumber_49 : decode cX7_splitNumber 49 = .ok (.goto (-44), 3) := by decide +kernel
theorem dX7_splitNumber_52 : decode cX7_splitNumber 52 = .ok (.aload_n 0, 1) := by decide +kernel
theorem dX7_splitNumber_53 : decode cX7_splitNumber 53 = .ok (.iconst 2, 1) := by decide +kernel
theorem dX7_splitNumber_54 : decode cX7_splitNumber 54 = .ok (.iload_n 2, 1) := by decide +kernel
theorem dX7_splitNumber_55 : decode cX7_splitNumber 55 = .ok (.iload 4, 2) := by decide +kernel
theorem dX7_splitNumber_57 : decode cX7_splitNumber 57 = .ok (.invokevirtual 57, 3) := by decide +kernel
theorem dX7_splitNumber_60 : decode cX7_splitNumber 60 = .ok (.iload_n 3, 1) := by decide +kernel
theorem dX7_splitNumber_61 : decode cX7_splitNumber 61 = .ok (.ireturn, 1) := by decide +kernel
set_option maxRecDepth 20000 in
theorem ggX7_splitSign_X5_byteAt : GoodIn wsX7_splitSign wsX5_byteAt := goodIn_r _ [5, 6, 7, 20, 21] (by decide +kernel) (by decide +kernel)
set_option maxRecDepth 20000 in
theorem gX7_splitSign_X5_byteAt : GoodIn wsX7_splitSign (wsV RX7 33 RX5 yX5_byteAt wsX5_byteAt) := goodIn_app (goodIn_of _ (by decide +kernel)) ggX7_splitSign_X5_byteAt
set_option maxRecDepth 20000 in
theorem ggX7_splitSign_X7_signKind : GoodIn wsX7_splitSign wsX7_signKind := goodIn_r _ [11] (by decide +kernel) (by decide +kernel)
set_option maxRecDepth 20000 in
theorem gX7_splitSign_X7_signKind : GoodIn wsX7_splitSign (va_wsS RX7 82 yX7_signKind wsX7_signKind) := goodIn_app (goodIn_of _ (by decide +kernel)) ggX7_splitSign_X7_signKind
set_option maxRecDepth 20000 in
theorem ggX7_splitSign_X7_add : GoodIn wsX7_splitSign wsX7_add := goodIn_r _ [15, 16, 17, 18, 19, 22, 23, 24, 25, 26] (by decide +kernel) (by decide +kernel)
set_option maxRecDepth 20000 in
theorem gX7_splitSign_X7_add : GoodIn wsX7_splitSign (wsV RX7 57 RX7 yX7_add wsX7_add) := goodIn_app (goodIn_of _ (by decide +kernel)) ggX7_splitSign_X7_add
theorem dX7_splitSign_0 : decode cX7_splitSign 0 = .ok (.aload_n 1, 1) := by decide +kernel
theorem dX7_splitSign_1 : decode cX7_splitSign 1 = .ok (.iload_n 2, 1) := by decide +kernel
theorem dX7_splitSign_2 : decode cX7_splitSign 2 = .ok (.invokevirtual 33, 3) := by decide +kernel
theorem dX7_splitSign_5 : decode cX7_splitSign 5 = .ok (.invokestatic 82, 3) := by decide +kernel
theorem dX7_splitSign_8 : decode cX7_splitSign 8 = .ok (.istore_n 3, 1) := by decide +kernel
theorem dX7_splitSign_9 : decode cX7_splitSign 9 = .ok (.iload_n 3, 1) := by decide +kernel
theorem dX7_splitSign_10 : decode cX7_splitSign 10 = .ok (.iconst 3, 1) := by decide +kernel
theorem dX7_splitSign_11 : decode cX7_splitSign 11 = .ok (.if_icmp .eq 8, 3) := by decide +kernel
theorem dX7_splitSign_14 : decode cX7_splitSign 14 = .ok (.iload_n 3, 1) := by decide +kernel
theorem dX7_splitSign_15 : decode cX7_splitSign 15 = .ok (.iconst 5, 1) := by decide +kernel
theorem dX7_splitSign_16 : decode cX7_splitSign 16 = .ok (.if_icmp .ne 19, 3) := by decide +kernel
theorem dX7_splitSign_19 : decode cX7_splitSign 19 = .ok (.aload_n 1, 1) := by decide +kernel
theorem dX7_splitSign_20 : decode cX7_splitSign 20 = .ok (.iload_n 2, 1) := by decide +kernel
theorem dX7_splitSign_21 : decode cX7_splitSign 21 = .ok (.iconst 1, 1) := by decide +kernel
theorem dX7_splitSign_22 : decode cX7_splitSign 22 = .ok (.iadd, 1) := by decide +kernel
theorem dX7_splitSign_23 : decode cX7_splitSign 23 = .ok (.invokevirtual 33, 3) := by decide +kernel
theorem dX7_splitSign_26 : decode cX7_splitSign 26 = .ok (.bipush 61, 2) := by decide +kernel
theorem dX7_splitSign_28 : decode cX7_splitSign 28 = .ok (.if_icmp .ne 7, 3) := by decide +kernel
theorem dX7_splitSign_31 : decode cX7_splitSign 31 = .ok (.iconst 1, 1) := by decide +kernel
theorem dX7_splitSign_32 : decode cX7_splitSign 32 = .ok (.goto 4, 3) := by decide +kernel
theorem dX7_splitSign_35 : decode cX7_splitSign 35 = .ok (.iconst 0, 1) := by decide +kernel
theorem dX7_splitSign_36 : decode cX7_splitSign 36 = .ok (.istore 4, 2) := by decide +kernel
theorem dX7_splitSign_38 : decode cX7_splitSign 38 = .ok (.iload 4, 2) := by decide +kernel
theorem dX7_splitSign_40 : decode cX7_splitSign 40 = .ok (.ifCond .eq 15, 3) := by decide +kernel
theorem dX7_splitSign_43 : decode cX7_splitSign 43 = .ok (.iload_n 3, 1) := by decide +kernel
theorem dX7_splitSign_44 : decode cX7_splitSign 44 = .ok (.iconst 3, 1) := by decide +kernel
theorem dX7_splitSign_45 : decode cX7_splitSign 45 = .ok (.if_icmp .ne 7, 3) := by decide +kernel
theorem dX7_splitSign_48 : decode cX7_splitSign 48 = .ok (.iconst 4, 1) := by decide +kernel
theorem dX7_splitSign_49 : decode cX7_splitSign 49 = .ok (.goto 5, 3) := by decide +kernel
theorem dX7_splitSign_52 : decode cX7_splitSign 52 = .ok (.bipush 6, 2) := by decide +kernel
theorem dX7_splitSign_54 : decode cX7_splitSign 54 = .ok (.istore_n 3, 1) := by decide +kernel
theorem dX7_splitSign_55 : decode cX7_splitSign 55 = .ok (.aload_n 0, 1) := by decide +kernel
theorem dX7_splitSign_56 : decode cX7_splitSign 56 = .ok (.iload_n 3, 1) := by decide +kernel
theorem dX7_splitSign_57 : decode cX7_splitSign 57 = .ok (.iload_n 2, 1) := by decide +kernel
theorem dX7_splitSign_58 : decode cX7_splitSign 58 = .ok (.iconst 0, 1) := by decide +kernel
theorem dX7_splitSign_59 : decode cX7_splitSign 59 = .ok (.invokevirtual 57, 3) := by decide +kernel
theorem dX7_splitSign_62 : decode cX7_splitSign 62 = .ok (.iload 4, 2) := by decide +kernel
theorem dX7_splitSign_64 : decode cX7_splitSign 64 = .ok (.ifCond .eq 9, 3) := by decide +kernel
theorem dX7_splitSign_67 : decode cX7_splitSign 67 = .ok (.iload_n 2, 1) := by decide +kernel
theorem dX7_splitSign_68 : decode cX7_splitSign 68 = .ok (.iconst 2, 1) := by decide +kernel
theorem dX7_splitSign_69 : decode cX7_splitSign 69 = .ok (.iadd, 1) := by decide +kernel
theorem dX7_splitSign_70 : decode cX7_splitSign 70 = .ok (.goto 6, 3) := by decide +kernel
theorem dX7_splitSign_73 : decode cX7_splitSign 73 = .ok (.iload_n 2, 1) := by decide +kernel
theorem dX7_splitSign_74 : decode cX7_splitSign 74 = .ok (.iconst 1, 1) := by decide +kernel
theorem dX7_splitSign_75 : decode cX7_splitSign 75 = .ok (.iadd, 1) := by decide +kernel
theorem dX7_splitSign_76 : decode cX7_splitSign 76 = .ok (.ireturn, 1) := by decide +kernel
theorem dX7_signKind_0 : decode cX7_signKind 0 = .ok (.iload_n 0, 1) := by decide +kernel
theorem dX7_signKind_1 : decode cX7_signKind 1 = .ok (.tableswitch 158 35 62 #[134, 158, 158, 158, 158, 149, 152, 143, 137, 158, 140, 158, 146, 158, 158, 158, 158, 158, 158, 158, 158, 158, 158, 158, 155, 127, 131, 129], 127) := by decide +kernel
theorem dX7_signKind_128 : decode cX7_signKind 128 = .ok (.iconst 3, 1) := by decide +kernel
theorem dX7_signKind_129 : decode cX7_signKind 129 = .ok (.ireturn, 1) := by decide +kernel
theorem dX7_signKind_130 : decode cX7_signKind 130 = .ok (.iconst 5, 1) := by decide +kernel
theorem dX7_signKind_131 : decode cX7_signKind 131 = .ok (.ireturn, 1) := by decide +kernel
theorem dX7_signKind_132 : decode cX7_signKind 132 = .ok (.bipush 7, 2) := by decide +kernel
theorem dX7_signKind_134 : decode cX7_signKind 134 = .ok (.ireturn, 1) := by decide +kernel
theorem dX7_signKind_135 : decode cX7_signKind 135 = .ok (.bipush 8, 2) := by decide +kernel
theorem dX7_signKind_137 : decode cX7_signKind 137 = .ok (.ireturn, 1) := by decide +kernel
theorem dX7_signKind_138 : decode cX7_signKind 138 = .ok (.bipush 9, 2) := by decide +kernel
theorem dX7_signKind_140 : decode cX7_signKind 140 = .ok (.ireturn, 1) := by decide +kernel
theorem dX7_signKind_141 : decode cX7_signKind 141 = .ok (.bipush 10, 2) := by decide +kernel
theorem dX7_signKind_143 : decode cX7_signKind 143 = .ok (.ireturn, 1) := by decide +kernel
theorem dX7_signKind_144 : decode cX7_signKind 144 = .ok (.bipush 11, 2) := by decide +kernel
theorem dX7_signKind_146 : decode cX7_signKind 146 = .ok (.ireturn, 1) := by decide +kernel
theorem dX7_signKind_147 : decode cX7_signKind 147 = .ok (.bipush 12, 2) := by decide +kernel
theorem dX7_signKind_149 : decode cX7_signKind 149 = .ok (.ireturn, 1) := by decide +kernel
theorem dX7_signKind_150 : decode cX7_signKind 150 = .ok (.bipush 13, 2) := by decide +kernel
theorem dX7_signKind_152 : decode cX7_signKind 152 = .ok (.ireturn, 1) := by decide +kernel
theorem dX7_signKind_153 : decode cX7_signKind 153 = .ok (.bipush 14, 2) := by decide +kernel
theorem dX7_signKind_155 : decode cX7_signKind 155 = .ok (.ireturn, 1) := by decide +kernel
theorem dX7_signKind_156 : decode cX7_signKind 156 = .ok (.bipush 15, 2) := by decide +kernel
theorem dX7_signKind_158 : decode cX7_signKind 158 = .ok (.ireturn, 1) := by decide +kernel
theorem dX7_signKind_159 : decode cX7_signKind 159 = .ok (.iconst 1, 1) := by decide +kernel
theorem dX7_signKind_160 : decode cX7_signKind 160 = .ok (.ireturn, 1) := by decide +kernel
theorem dX7_isBlank_0 : decode cX7_isBlank 0 = .ok (.iload_n 0, 1) := by decide +kernel
theorem dX7_isBlank_1 : decode cX7_isBlank 1 = .ok (.bipush 32, 2) := by decide +kernel
theorem dX7_isBlank_3 : decode cX7_isBlank 3 = .ok (.if_icmp .eq 9, 3) := by decide +kernel
theorem dX7_isBlank_6 : decode cX7_isBlank 6 = .ok (.iload_n 0, 1) := by decide +kernel
theorem dX7_isBlank_7 : decode cX7_isBlank 7 = .ok (.bipush 10, 2) := by decide +kernel
theorem dX7_isBlank_9 : decode cX7_isBlank 9 = .ok (.if_icmp .ne 7, 3) := by decide +kernel
theorem dX7_isBlank_12 : decode cX7_isBlank 12 = .ok (.iconst 1, 1) := by decide +kernel
theorem dX7_isBlank_13 : decode cX7_isBlank 13 = .ok (.goto 4, 3) := by decide +kernel
theorem dX7_isBlank_16 : decode cX7_isBlank 16 = .ok (.iconst 0, 1) := by decide +kernel
theorem dX7_isBlank_17 : decode cX7_isBlank 17 = .ok (.ireturn, 1) := by decide +kernel
theorem dX7_isAlpha_0 : decode cX7_isAlpha 0 = .ok (.iload_n 0, 1) := by decide +kernel
theorem dX7_isAlpha_1 : decode cX7_isAlpha 1 = .ok (.bipush 97, 2) := by decide +kernel
theorem dX7_isAlpha_3 : decode cX7_isAlpha 3 = .ok (.if_icmp .lt 9, 3) := by decide +kernel
theorem dX7_isAlpha_6 : decode cX7_isAlpha 6 = .ok (.iload_n 0, 1) := by decide +kernel
theorem dX7_isAlpha_7 : decode cX7_isAlpha 7 = .ok (.bipush 122, 2) := by decide +kernel
theorem dX7_isAlpha_9 : decode cX7_isAlpha 9 = .ok (.if_icmp .le 15, 3) := by decide +kernel
theorem dX7_isAlpha_12 : decode cX7_isAlpha 12 = .ok (.iload_n 0, 1) := by decide +kernel
theorem dX7_isAlpha_13 : decode cX7_isAlpha 13 = .ok (.bipush 65, 2) := by decide +kernel
theorem dX7_isAlpha_15 : decode cX7_isAlpha 15 = .ok (.if_icmp .lt 13, 3) := by decide +kernel
theorem dX7_isAlpha_18 : decode cX7_isAlpha 18 = .ok (.iload_n 0, 1) := by decide +kernel
theorem dX7_isAlpha_19 : decode cX7_isAlpha 19 = .ok (.bipush 90, 2) := by decide +kernel
theorem dX7_isAlpha_21 : decode cX7_isAlpha 21 = .ok (.if_icmp .gt 7, 3) := by decide +kernel
theorem dX7_isAlpha_24 : decode cX7_isAlpha 24 = .ok (.iconst 1, 1) := by decide +kernel
theorem dX7_isAlpha_25 : decode cX7_isAlpha 25 = .ok (.goto 4, 3) := by decide +kernel
theorem dX7_isAlpha_28 : decode cX7_isAlpha 28 = .ok (.iconst 0, 1) := by decide +kernel
theorem dX7_isAlpha_29 : decode cX7_isAlpha 29 = .ok (.ireturn, 1) := by decide +kernel
theorem dX7_isNumeral_0 : decode cX7_isNumeral 0 = .ok (.iload_n 0, 1) := by decide +kernel
theorem dX7_isNumeral_1 : decode cX7_isNumeral 1 = .ok (.bipush 48, 2) := by decide +kernel
theorem dX7_isNumeral_3 : decode cX7_isNumeral 3 = .ok (.if_icmp .lt 13, 3) := by decide +kernel
theorem dX7_isNumeral_6 : decode cX7_isNumeral 6 = .ok (.iload_n 0, 1) := by decide +kernel
theorem dX7_isNumeral_7 : decode cX7_isNumeral 7 = .ok (.bipush 57, 2) := by decide +kernel
theorem dX7_isNumeral_9 : decode cX7_isNumeral 9 = .ok (.if_icmp .gt 7, 3) := by decide +kernel
theorem dX7_isNumeral_12 : decode cX7_isNumeral 12 = .ok (.iconst 1, 1) := by decide +kernel
theorem dX7_isNumeral_13 : decode cX7_isNumeral 13 = .ok (.goto 4, 3) := by decide +kernel
theorem dX7_isNumeral_16 : decode cX7_isNumeral 16 = .ok (.iconst 0, 1) := by decide +kernel
theorem dX7_isNumeral_17 : decode cX7_isNumeral 17 = .ok (.ireturn, 1) := by decide +kernel
set_option maxRecDepth 20000 in
theorem ggX8_init_X4_init : GoodIn wsX8_init wsX4_init := goodIn_r _ [34, 35, 2, 3, 36, 37, 38, 39, 40, 41, 42, 43, 44, 45, 46, 47, 48, 49, 117, 118, 119, 120, 121, 122, 123, 124, 125, 126, 127, 128, 129] (by decide +kernel) (by decide +kernel)
set_option maxRecDepth 20000 in
theorem gX8_init_X4_init_n9 : GoodIn wsX8_init (wsX4_init) := ggX8_init_X4_init
set_option maxRecDepth 20000 in
theorem ggX8_init_X5_init : GoodIn wsX8_init wsX5_init := goodIn_r _ [51, 52, 2, 3, 36, 53, 54, 138, 139] (by decide +kernel) (by decide +kernel)
set_option maxRecDepth 20000 in
theorem gX8_init_X5_init_n21 : GoodIn wsX8_init (wsX5_init) := ggX8_init_X5_init
set_option maxRecDepth 20000 in
theorem ggX8_init_X7_init : GoodIn wsX8_init wsX7_init := goodIn_r _ [56, 57, 2, 3, 36, 58, 59, 60, 61, 62, 140, 141, 142, 143, 144] (by decide +kernel) (by decide +kernel)
set_option maxRecDepth 20000 in
theorem gX8_init_X7_init_n28 : GoodIn wsX8_init (wsX7_init) := ggX8_init_X7_init
set_option maxRecDepth 20000 in
theorem ggX8_init_X2_init : GoodIn wsX8_init wsX2_init := goodIn_r _ [64, 65, 2, 3, 66, 67, 68, 145, 146, 147] (by decide +kernel) (by decide +kernel)
set_option maxRecDepth 20000 in
theorem gX8_init_X2_init_n35 : GoodIn wsX8_init (wsX2_init) := ggX8_init_X2_init
set_option maxRecDepth 20000 in
theorem ggX8_init_X1_init : GoodIn wsX8_init wsX1_init := goodIn_r _ [71, 72, 2, 3, 73, 74, 36, 75, 76, 77, 78, 79, 80, 81, 82, 83, 84, 85, 86, 87, 88, 148, 149, 150, 151, 172, 173, 174, 175, 176, 177] (by decide +kernel) (by decide +kernel)
set_option maxRecDepth 20000 in
theorem gX8_init_X1_init : GoodIn wsX8_init (wsX1_init) := ggX8_init_X1_init
set_option maxRecDepth 20000 in
theorem ggX8_init_X0_init : GoodIn wsX8_init wsX0_init := goodIn_r _ [90, 91, 2, 3, 92, 93, 94, 95, 96, 152, 153, 154, 155] (by decide +kernel) (by decide +kernel)
set_option maxRecDepth 20000 in
theorem gX8_init_X0_init_n49 : GoodIn wsX8_init (wsX0_init) := ggX8_init_X0_init
set_option maxRecDepth 20000 in
theorem ggX8_init_X3_init : GoodIn wsX8_init wsX3_init := goodIn_r _ [98, 99, 2, 3, 36, 100, 101, 102, 103, 104, 105, 106, 107, 108, 109, 110, 111, 112, 113, 114, 115, 116, 156, 157, 158, 159, 160, 161, 162, 163, 164, 165, 166, 167, 168, 169, 170, 171] (by decide +kernel) (by decide +kernel)
set_option maxRecDepth 20000 in
theorem gX8_init_X3_init_n56 : GoodIn wsX8_init (wsX3_init) := ggX8_init_X3_init
theorem dX8_init_0 : decode cX8_init 0 = .ok (.aload_n 0, 1) := by decide +kernel
theorem dX8_init_1 : decode cX8_init 1 = .ok (.invokespecial 1, 3) := by decide +kernel
theorem dX8_init_4 : decode cX8_init 4 = .ok (.aload_n 0, 1) := by decide +kernel
theorem dX8_init_5 : decode cX8_init 5 = .ok (.new 7, 3) := by decide +kernel
theorem dX8_init_8 : decode cX8_init 8 = .ok (.dup, 1) := by decide +kernel
theorem dX8_init_9 : decode cX8_init 9 = .ok (.invokespecial 9, 3) := by decide +kernel
theorem dX8_init_12 : decode cX8_init 12 = .ok (.putfield 10, 3) := by decide +kernel
theorem dX8_init_15 : decode cX8_init 15 = .ok (.aload_n 0, 1) := by decide +kernel
theorem dX8_init_16 : decode cX8_init 16 = .ok (.new 7, 3) := by decide +kernel
theorem dX8_init_19 : decode cX8_init 19 = .ok (.dup, 1) := by decide +kernel
theorem dX8_init_20 : decode cX8_init 20 = .ok (.invokespecial 9, 3) := by decide +kernel
theorem dX8_init_23 : decode cX8_init 23 = .ok (.putfield 16, 3) := by decide +kernel
theorem dX8_init_26 : decode cX8_init 26 = .ok (.aload_n 0, 1) := by decide +kernel
theorem dX8_init_27 : decode cX8_init 27 = .ok (.new 19, 3) := by decide +kernel
theorem dX8_init_30 : decode cX8_init 30 = .ok (.dup, 1) := by decide +kernel
theorem dX8_init_31 : decode cX8_init 31 = .ok (.invokespecial 21, 3) := by decide +kernel
theorem dX8_init_34 : decode cX8_init 34 = .ok (.putfield 22, 3) := by decide +kernel
theorem dX8_init_37 : decode cX8_init 37 = .ok (.aload_n 0, 1) := by decide +kernel
theorem dX8_init_38 : decode cX8_init 38 = .ok (.new 26, 3) := by decide +kernel
theorem dX8_init_41 : decode cX8_init 41 = .ok (.dup, 1) := by decide +kernel
theorem dX8_init_42 : decode cX8_init 42 = .ok (.invokespecial 28, 3) := by decide +kernel
theorem dX8_init_45 : decode cX8_init 45 = .ok (.putfield 29, 3) := by decide +kernel
theorem dX8_init_48 : decode cX8_init 48 = .ok (.aload_n 0, 1) := by decide +kernel
theorem dX8_init_49 : decode cX8_init 49 = .ok (.new 33, 3) := by decide +kernel
theorem dX8_init_52 : decode cX8_init 52 = .ok (.dup, 1) := by decide +kernel
theorem dX8_init_53 : decode cX8_init 53 = .ok (.invokespecial 35, 3) := by decide +kernel
theorem dX8_init_56 : decode cX8_init 56 = .ok (.putfield 36, 3) := by decide +kernel
theorem dX8_init_59 : decode cX8_init 59 = .ok (.aload_n 0, 1) := by decide +kernel
theorem dX8_init_60 : decode cX8_init 60 = .ok (.new 40, 3) := by decide +kernel
theorem dX8_init_63 : decode cX8_init 63 = .ok (.dup, 1) := by decide +kernel
theorem dX8_init_64 : decode cX8_init 64 = .ok (.invokespecial 42, 3) := by decide +kernel
theorem dX8_init_67 : decode cX8_init 67 = .ok (.putfield 43, 3) := by decide +kernel
theorem dX8_init_70 : decode cX8_init 70 = .ok (.aload_n 0, 1) := by decide +kernel
theorem dX8_init_71 : decode cX8_init 71 = .ok (.new 47, 3) := by decide +kernel
theorem dX8_init_74 : decode cX8_init 74 = .ok (.dup, 1) := by decide +kernel
theorem dX8_init_75 : decode cX8_init 75 = .ok (.invokespecial 49, 3) := by decide +kernel
theorem dX8_init_78 : decode cX8_init 78 = .ok (.putfield 50, 3) := by decide +kernel
theorem dX8_init_81 : decode cX8_init 81 = .ok (.aload_n 0, 1) := by decide +kernel
theorem dX8_init_82 : decode cX8_init 82 = .ok (.new 54, 3) := by decide +kernel
theorem dX8_init_85 : decode cX8_init 85 = .ok (.dup, 1) := by decide +kernel
theorem dX8_init_86 : decode cX8_init 86 = .ok (.invokespecial 56, 3) := by decide +kernel
theorem dX8_init_89 : decode cX8_init 89 = .ok (.putfield 57, 3) := by decide +kernel
theorem dX8_init_92 : decode cX8_init 92 = .ok (.return_, 1) := by decide +kernel
set_option maxRecDepth 20000 in
theorem ggX8_market_X8_isDigit : GoodIn wsX8_market wsX8_isDigit := goodIn_r _ [5] (by decide +kernel) (by decide +kernel)
set_option maxRecDepth 20000 in
theorem gX8_market_X8_isDigit : GoodIn wsX8_market (va_wsS RX8 61 yX8_isDigit wsX8_isDigit) := goodIn_app (goodIn_of _ (by decide +kernel)) ggX8_market_X8_isDigit
set_option maxRecDepth 20000 in
theorem ggX8_market_X4_addMarket : GoodIn wsX8_market wsX4_addMarket := goodIn_r _ [10, 11, 12, 21, 22, 23, 24, 25, 26, 27, 28, 29, 30, 31, 32, 33] (by decide +kernel) (by decide +kernel)
set_option maxRecDepth 20000 in
theorem gX8_market_X4_addMarket : GoodIn wsX8_market (wsV RX8 65 RX4 yX4_addMarket wsX4_addMarket) := goodIn_app (goodIn_of _ (by decide +kernel)) ggX8_market_X4_addMarket
theorem dX8_market_0 : decode cX8_market 0 = .ok (.iload_n 1, 1) := by decide +kernel
theorem dX8_market_1 : decode cX8_market 1 = .ok (.iconst 1, 1) := by decide +kernel
theorem dX8_market_2 : decode cX8_market 2 = .ok (.if_icmp .lt 23, 3) := by decide +kernel
theorem dX8_market_5 : decode cX8_market 5 = .ok (.iload_n 1, 1) := by decide +kernel
theorem dX8_market_6 : decode cX8_market 6 = .ok (.bipush 9, 2) := by decide +kernel
theorem dX8_market_8 : decode cX8_market 8 = .ok (.if_icmp .gt 17, 3) := by decide +kernel
theorem dX8_market_11 : decode cX8_market 11 = .ok (.iload_n 2, 1) := by decide +kernel
theorem dX8_market_12 : decode cX8_market 12 = .ok (.invokestatic 61, 3) := by decide +kernel
theorem dX8_market_15 : decode cX8_market 15 = .ok (.ifCond .eq 10, 3) := by decide +kernel
theorem dX8_market_18 : decode cX8_market 18 = .ok (.iload_n 3, 1) := by decide +kernel
theorem dX8_market_19 : decode cX8_market 19 = .ok (.invokestatic 61, 3) := by decide +kernel
theorem dX8_market_22 : decode cX8_market 22 = .ok (.ifCond .ne 5, 3) := by decide +kernel
theorem dX8_market_25 : decode cX8_market 25 = .ok (.iconst (-1), 1) := by decide +kernel
theorem dX8_market_26 : decode cX8_market 26 = .ok (.ireturn, 1) := by decide +kernel
theorem dX8_market_27 : decode cX8_market 27 = .ok (.aload_n 0, 1) := by decide +kernel
theorem dX8_market_28 : decode cX8_market 28 = .ok (.getfield 10, 3) := by decide +kernel
theorem dX8_market_31 : decode cX8_market 31 = .ok (.iload_n 1, 1) := by decide +kernel
theorem dX8_market_32 : decode cX8_market 32 = .ok (.iload_n 2, 1) := by decide +kernel
theorem dX8_market_33 : decode cX8_market 33 = .ok (.iload_n 3, 1) := by decide +kernel
theorem dX8_market_34 : decode cX8_market 34 = .ok (.invokevirtual 65, 3) := by decide +kernel
theorem dX8_market_37 : decode cX8_market 37 = .ok (.ireturn, 1) := by decide +kernel
set_option maxRecDepth 20000 in
theorem ggX8_goose_X4_addGoose : GoodIn wsX8_goose wsX4_addGoose := goodIn_r _ [6, 7, 8, 9, 10, 5, 11, 12, 13, 14, 15, 16, 25, 26, 27, 28, 29, 30, 31, 32, 33, 34, 35, 36, 37] (by decide +kernel) (by decide +kernel)
set_option maxRecDepth 20000 in
theorem gX8_goose_X4_addGoose : GoodIn wsX8_goose (wsV RX8 69 RX4 yX4_addGoose wsX4_addGoose) := goodIn_app (goodIn_of _ (by decide +kernel)) ggX8_goose_X4_addGoose
theorem dX8_goose_0 : decode cX8_goose 0 = .ok (.iload_n 1, 1) := by decide +kernel
theorem dX8_goose_1 : decode cX8_goose 1 = .ok (.iconst 1, 1) := by decide +kernel
theorem dX8_goose_2 : decode cX8_goose 2 = .ok (.if_icmp .lt 19, 3) := by decide +kernel
theorem dX8_goose_5 : decode cX8_goose 5 = .ok (.iload_n 1, 1) := by decide +kernel
theorem dX8_goose_6 : decode cX8_goose 6 = .ok (.bipush 20, 2) := by decide +kernel
theorem dX8_goose_8 : decode cX8_goose 8 = .ok (.if_icmp .gt 13, 3) := by decide +kernel
theorem dX8_goose_11 : decode cX8_goose 11 = .ok (.iload_n 2, 1) := by decide +kernel
theorem dX8_goose_12 : decode cX8_goose 12 = .ok (.ifCond .lt 9, 3) := by decide +kernel
theorem dX8_goose_15 : decode cX8_goose 15 = .ok (.iload_n 2, 1) := by decide +kernel
theorem dX8_goose_16 : decode cX8_goose 16 = .ok (.bipush 99, 2) := by decide +kernel
theorem dX8_goose_18 : decode cX8_goose 18 = .ok (.if_icmp .le 5, 3) := by decide +kernel
theorem dX8_goose_21 : decode cX8_goose 21 = .ok (.iconst (-1), 1) := by decide +kernel
theorem dX8_goose_22 : decode cX8_goose 22 = .ok (.ireturn, 1) := by decide +kernel
theorem dX8_goose_23 : decode cX8_goose 23 = .ok (.aload_n 0, 1) := by decide +kernel
theorem dX8_goose_24 : decode cX8_goose 24 = .ok (.getfield 10, 3) := by decide +kernel
theorem dX8_goose_27 : decode cX8_goose 27 = .ok (.iload_n 1, 1) := by decide +kernel
theorem dX8_goose_28 : decode cX8_goose 28 = .ok (.iload_n 2, 1) := by decide +kernel
theorem dX8_goose_29 : decode cX8_goose 29 = .ok (.invokevirtual 69, 3) := by decide +kernel
theorem dX8_goose_32 : decode cX8_goose 32 = .ok (.ireturn, 1) := by decide +kernel
theorem dX8_store_0 : decode cX8_store 0 = .ok (.iload_n 1, 1) := by decide +kernel
theorem dX8_store_1 : decode cX8_store 1 = .ok (.ifCond .lt 20, 3) := by decide +kernel
theorem dX8_store_4 : decode cX8_store 4 = .ok (.iload_n 1, 1) := by decide +kernel
theorem dX8_store_5 : decode cX8_store 5 = .ok (.sipush 9999, 3) := by decide +kernel
theorem dX8_store_8 : decode cX8_store 8 = .ok (.if_icmp .gt 13, 3) := by decide +kernel
theorem dX8_store_11 : decode cX8_store 11 = .ok (.iload_n 2, 1) := by decide +kernel
theorem dX8_store_12 : decode cX8_store 12 = .ok (.ifCond .lt 9, 3) := by decide +kernel
theorem dX8_store_15 : decode cX8_store 15 = .ok (.iload_n 2, 1) := by decide +kernel
theorem dX8_store_16 : decode cX8_store 16 = .ok (.bipush 99, 2) := by decide +kernel
theorem dX8_store_18 : decode cX8_store 18 = .ok (.if_icmp .le 5, 3) := by decide +kernel
theorem dX8_store_21 : decode cX8_store 21 = .ok (.iconst 0, 1) := by decide +kernel
theorem dX8_store_22 : decode cX8_store 22 = .ok (.ireturn, 1) := by decide +kernel
theorem dX8_store_23 : decode cX8_store 23 = .ok (.aload_n 0, 1) := by decide +kernel
theorem dX8_store_24 : decode cX8_store 24 = .ok (.getfield 10, 3) := by decide +kernel
theorem dX8_store_27 : decode cX8_store 27 = .ok (.iload_n 1, 1) := by decide +kernel
theorem dX8_store_28 : decode cX8_store 28 = .ok (.putfield 73, 3) := by decide +kernel
theorem dX8_store_31 : decode cX8_store 31 = .ok (.aload_n 0, 1) := by decide +kernel
theorem dX8_store_32 : decode cX8_store 32 = .ok (.getfield 10, 3) := by decide +kernel
theorem dX8_store_35 : decode cX8_store 35 = .ok (.iload_n 2, 1) := by decide +kernel
theorem dX8_store_36 : decode cX8_store 36 = .ok (.putfield 77, 3) := by decide +kernel
theorem dX8_store_39 : decode cX8_store 39 = .ok (.iconst 1, 1) := by decide +kernel
theorem dX8_store_40 : decode cX8_store 40 = .ok (.ireturn, 1) := by decide +kernel
theorem dX8_seed_0 : decode cX8_seed 0 = .ok (.iload_n 1, 1) := by decide +kernel
theorem dX8_seed_1 : decode cX8_seed 1 = .ok (.ifCond .lt 10, 3) := by decide +kernel
theorem dX8_seed_4 : decode cX8_seed 4 = .ok (.iload_n 1, 1) := by decide +kernel
theorem dX8_seed_5 : decode cX8_seed 5 = .ok (.sipush 9999, 3) := by decide +kernel
theorem dX8_seed_8 : decode cX8_seed 8 = .ok (.if_icmp .le 5, 3) := by decide +kernel
theorem dX8_seed_11 : decode cX8_seed 11 = .ok (.iconst 0, 1) := by decide +kernel
theorem dX8_seed_12 : decode cX8_seed 12 = .ok (.ireturn, 1) := by decide +kernel
theorem dX8_seed_13 : decode cX8_seed 13 = .ok (.aload_n 0, 1) := by decide +kernel
theorem dX8_seed_14 : decode cX8_seed 14 = .ok (.getfield 10, 3) := by decide +kernel
theorem dX8_seed_17 : decode cX8_seed 17 = .ok (.iload_n 1, 1) := by decide +kernel
theorem dX8_seed_18 : decode cX8_seed 18 = .ok (.bipush 11, 2) := by decide +kernel
theorem dX8_seed_20 : decode cX8_seed 20 = .ok (.imul, 1) := by decide +kernel
theorem dX8_seed_21 : decode cX8_seed 21 = .ok (.bipush 9, 2) := by decide +kernel
theorem dX8_seed_23 : decode cX8_seed 23 = .ok (.iadd, 1) := by decide +kernel
theorem dX8_seed_24 : decode cX8_seed 24 = .ok (.putfield 80, 3) := by decide +kernel
theorem dX8_seed_27 : decode cX8_seed 27 = .ok (.iconst 1, 1) := by decide +kernel
theorem dX8_seed_28 : decode cX8_seed 28 = .ok (.ireturn, 1) := by decide +kernel
set_option maxRecDepth 20000 in
theorem ggX8_fill_X8_isQuill : GoodIn wsX8_fill wsX8_isQuill := goodIn_r _ [7, 8, 9, 6, 10] (by decide +kernel) (by decide +kernel)
set_option maxRecDepth 20000 in
theorem gX8_fill_X8_isQuill : GoodIn wsX8_fill (va_wsS RX8 83 yX8_isQuill wsX8_isQuill) := goodIn_app (goodIn_of _ (by decide +kernel)) ggX8_fill_X8_isQuill
set_option maxRecDepth 20000 in
theorem ggX8_fill_X4_isHome : GoodIn wsX8_fill wsX4_isHome := goodIn_r _ [15, 16, 17, 18, 14, 19, 20, 21, 132, 133, 134, 135, 136, 137, 138, 139, 140, 141, 142, 143, 144] (by decide +kernel) (by decide +kernel)
set_option maxRecDepth 20000 in
theorem gX8_fill_X4_isHome : GoodIn wsX8_fill (wsV RX8 87 RX4 yX4_isHome wsX4_isHome) := goodIn_app (goodIn_of _ (by decide +kernel)) ggX8_fill_X4_isHome
set_option maxRecDepth 20000 in
theorem ggX8_fill_X4_ofGoose : GoodIn wsX8_fill wsX4_ofGoose := goodIn_r _ [19, 20, 21, 132, 133, 134, 135, 136, 137, 138, 139, 140, 141, 142, 143, 144] (by decide +kernel) (by decide +kernel)
set_option maxRecDepth 20000 in
theorem gX8_fill_X4_ofGoose : GoodIn wsX8_fill (wsV RX8 90 RX4 yX4_ofGoose wsX4_ofGoose) := goodIn_app (goodIn_of _ (by decide +kernel)) ggX8_fill_X4_ofGoose
set_option maxRecDepth 20000 in
theorem ggX8_fill_X1_inkCost : GoodIn wsX8_fill wsX1_inkCost := goodIn_r _ [27, 28, 29, 30, 26, 31, 32, 33, 34, 35, 36, 37, 38, 17, 18, 14, 19, 20, 21, 39, 40, 41, 42, 43, 44, 45, 46, 47, 48, 49, 50, 51, 52, 53, 54, 55, 56, 57, 58, 59, 60, 61, 62, 63, 64, 65, 66, 67, 68, 69, 70, 71, 72, 73, 74, 75, 76, 77, 78, 79, 80, 81, 82, 83, 84, 85, 86, 87, 88, 89, 90, 91, 92, 93, 94, 95, 96, 97, 98, 99, 100, 101, 145, 146, 147, 148, 132, 133, 134, 135, 136, 137, 138, 139, 140, 141, 142, 143, 144, 149, 150, 151, 152, 153, 154] (by decide +kernel) (by decide +kernel)
set_option maxRecDepth 20000 in
theorem gX8_fill_X1_inkCost : GoodIn wsX8_fill (wsV RX8 93 RX1 yX1_inkCost wsX1_inkCost) := goodIn_app (goodIn_of _ (by decide +kernel)) ggX8_fill_X1_inkCost
set_option maxRecDepth 20000 in
theorem ggX8_fill_X4_keepStep : GoodIn wsX8_fill wsX4_keepStep := goodIn_r _ [105, 106, 107, 108, 21, 109, 110, 111, 112, 20, 113, 114, 115, 132, 133, 134, 135, 136, 137, 138, 139, 140, 141, 142, 143, 144] (by decide +kernel) (by decide +kernel)
set_option maxRecDepth 20000 in
theorem gX8_fill_X4_keepStep : GoodIn wsX8_fill (wsV RX8 97 RX4 yX4_keepStep wsX4_keepStep) := goodIn_app (goodIn_of _ (by decide +kernel)) ggX8_fill_X4_keepStep
set_option maxRecDepth 20000 in
theorem ggX8_fill_X4_setGoose : GoodIn wsX8_fill wsX4_setGoose := goodIn_r _ [119, 21, 120, 121, 122, 14, 123, 20, 132, 133, 134, 135, 136, 137, 138, 139, 140, 141, 142, 143, 144] (by decide +kernel) (by decide +kernel)
set_option maxRecDepth 20000 in
theorem gX8_fill_X4_setGoose : GoodIn wsX8_fill (wsV RX8 100 RX4 yX4_setGoose wsX4_setGoose) := goodIn_app (goodIn_of _ (by decide +kernel)) ggX8_fill_X4_setGoose
theorem dX8_fill_0 : decode cX8_fill 0 = .ok (.iload_n 2, 1) := by decide +kernel
theorem dX8_fill_1 : decode cX8_fill 1 = .ok (.iload_n 3, 1) := by decide +kernel
theorem dX8_fill_2 : decode cX8_fill 2 = .ok (.invokestatic 83, 3) := by decide +kernel
theorem dX8_fill_5 : decode cX8_fill 5 = .ok (.ifCond .eq 27, 3) := by decide +kernel
theorem dX8_fill_8 : decode cX8_fill 8 = .ok (.aload_n 0, 1) := by decide +kernel
theorem dX8_fill_9 : decode cX8_fill 9 = .ok (.getfield 10, 3) := by decide +kernel
theorem dX8_fill_12 : decode cX8_fill 12 = .ok (.iload_n 1, 1) := by decide +kernel
theorem dX8_fill_13 : decode cX8_fill 13 = .ok (.invokevirtual 87, 3) := by decide +kernel
theorem dX8_fill_16 : decode cX8_fill 16 = .ok (.ifCond .eq 16, 3) := by decide +kernel
theorem dX8_fill_19 : decode cX8_fill 19 = .ok (.aload_n 0, 1) := by decide +kernel
theorem dX8_fill_20 : decode cX8_fill 20 = .ok (.getfield 10, 3) := by decide +kernel
theorem dX8_fill_23 : decode cX8_fill 23 = .ok (.iload_n 1, 1) := by decide +kernel
theorem dX8_fill_24 : decode cX8_fill 24 = .ok (.iconst 2, 1) := by decide +kernel
theorem dX8_fill_25 : decode cX8_fill 25 = .ok (.invokevirtual 90, 3) := by decide +kernel
theorem dX8_fill_28 : decode cX8_fill 28 = .ok (.iconst (-1), 1) := by decide +kernel
theorem dX8_fill_29 : decode cX8_fill 29 = .ok (.if_icmp .eq 5, 3) := by decide +kernel
theorem dX8_fill_32 : decode cX8_fill 32 = .ok (.iconst (-1), 1) := by decide +kernel
theorem dX8_fill_33 : decode cX8_fill 33 = .ok (.ireturn, 1) := by decide +kernel
theorem dX8_fill_34 : decode cX8_fill 34 = .ok (.aload_n 0, 1) := by decide +kernel
theorem dX8_fill_35 : decode cX8_fill 35 = .ok (.getfield 43, 3) := by decide +kernel
theorem dX8_fill_38 : decode cX8_fill 38 = .ok (.aload_n 0, 1) := by decide +kernel
theorem dX8_fill_39 : decode cX8_fill 39 = .ok (.getfield 10, 3) := by decide +kernel
theorem dX8_fill_42 : decode cX8_fill 42 = .ok (.iload_n 1, 1) := by decide +kernel
theorem dX8_fill_43 : decode cX8_fill 43 = .ok (.iload_n 2, 1) := by decide +kernel
theorem dX8_fill_44 : decode cX8_fill 44 = .ok (.iload_n 3, 1) := by decide +kernel
theorem dX8_fill_45 : decode cX8_fill 45 = .ok (.invokevirtual 93, 3) := by decide +kernel
theorem dX8_fill_48 : decode cX8_fill 48 = .ok (.istore 4, 2) := by decide +kernel
theorem dX8_fill_50 : decode cX8_fill 50 = .ok (.iload 4, 2) := by decide +kernel
theorem dX8_fill_52 : decode cX8_fill 52 = .ok (.aload_n 0, 1) := by decide +kernel
theorem dX8_fill_53 : decode cX8_fill 53 = .ok (.getfield 10, 3) := by decide +kernel
theorem dX8_fill_56 : decode cX8_fill 56 = .ok (.getfield 73, 3) := by decide +kernel
theorem dX8_fill_59 : decode cX8_fill 59 = .ok (.if_icmp .le 5, 3) := by decide +kernel
theorem dX8_fill_62 : decode cX8_fill 62 = .ok (.iconst (-1), 1) := by decide +kernel
theorem dX8_fill_63 : decode cX8_fill 63 = .ok (.ireturn, 1) := by decide +kernel
theorem dX8_fill_64 : decode cX8_fill 64 = .ok (.aload_n 0, 1) := by decide +kernel
theorem dX8_fill_65 : decode cX8_fill 65 = .ok (.getfield 10, 3) := by decide +kernel
theorem dX8_fill_68 : decode cX8_fill 68 = .ok (.invokevirtual 97, 3) := by decide +kernel
theorem dX8_fill_71 : decode cX8_fill 71 = .ok (.aload_n 0, 1) := by decide +kernel
theorem dX8_fill_72 : decode cX8_fill 72 = .ok (.getfield 10, 3) := by decide +kernel
theorem dX8_fill_75 : decode cX8_fill 75 = .ok (.dup, 1) := by decide +kernel
theorem dX8_fill_76 : decode cX8_fill 76 = .ok (.getfield 73, 3) := by decide +kernel
theorem dX8_fill_79 : decode cX8_fill 79 = .ok (.iload 4, 2) := by decide +kernel
theorem dX8_fill_81 : decode cX8_fill 81 = .ok (.isub, 1) := by decide +kernel
theorem dX8_fill_82 : decode cX8_fill 82 = .ok (.putfield 73, 3) := by decide +kernel
theorem dX8_fill_85 : decode cX8_fill 85 = .ok (.aload_n 0, 1) := by decide +kernel
theorem dX8_fill_86 : decode cX8_fill 86 = .ok (.getfield 10, 3) := by decide +kernel
theorem dX8_fill_89 : decode cX8_fill 89 = .ok (.iload_n 1, 1) := by decide +kernel
theorem dX8_fill_90 : decode cX8_fill 90 = .ok (.iconst 2, 1) := by decide +kernel
theorem dX8_fill_91 : decode cX8_fill 91 = .ok (.iload_n 2, 1) := by decide +kernel
theorem dX8_fill_92 : decode cX8_fill 92 = .ok (.invokevirtual 100, 3) := by decide +kernel
theorem dX8_fill_95 : decode cX8_fill 95 = .ok (.aload_n 0, 1) := by decide +kernel
theorem dX8_fill_96 : decode cX8_fill 96 = .ok (.getfield 10, 3) := by decide +kernel
theorem dX8_fill_99 : decode cX8_fill 99 = .ok (.iload_n 1, 1) := by decide +kernel
theorem dX8_fill_100 : decode cX8_fill 100 = .ok (.iconst 3, 1) := by decide +kernel
theorem dX8_fill_101 : decode cX8_fill 101 = .ok (.iload_n 3, 1) := by decide +kernel
theorem dX8_fill_102 : decode cX8_fill 102 = .ok (.invokevirtual 100, 3) := by decide +kernel
theorem dX8_fill_105 : decode cX8_fill 105 = .ok (.aload_n 0, 1) := by decide +kernel
theorem dX8_fill_106 : decode cX8_fill 106 = .ok (.getfield 10, 3) := by decide +kernel
theorem dX8_fill_109 : decode cX8_fill 109 = .ok (.getfield 73, 3) := by decide +kernel
theorem dX8_fill_112 : decode cX8_fill 112 = .ok (.ireturn, 1) := by decide +kernel
set_option maxRecDepth 20000 in
theorem ggX8_send_X4_hasMarket : GoodIn wsX8_send wsX4_hasMarket := goodIn_r _ [7, 8, 58, 59, 60, 61, 62, 63, 64, 65, 66, 67, 68, 69, 70] (by decide +kernel) (by decide +kernel)
set_option maxRecDepth 20000 in
theorem gX8_send_X4_hasMarket : GoodIn wsX8_send (wsV RX8 104 RX4 yX4_hasMarket wsX4_hasMarket) := goodIn_app (goodIn_of _ (by decide +kernel)) ggX8_send_X4_hasMarket
set_option maxRecDepth 20000 in
theorem ggX8_send_X4_isFree : GoodIn wsX8_send wsX4_isFree := goodIn_r _ [12, 13, 14, 15, 6, 16, 17, 18, 19, 20, 21, 22, 58, 59, 60, 61, 62, 63, 64, 65, 66, 67, 68, 69, 70] (by decide +kernel) (by decide +kernel)
set_option maxRecDepth 20000 in
theorem gX8_send_X4_isFree : GoodIn wsX8_send (wsV RX8 107 RX4 yX4_isFree wsX4_isFree) := goodIn_app (goodIn_of _ (by decide +kernel)) ggX8_send_X4_isFree
set_option maxRecDepth 20000 in
theorem ggX8_send_X4_keepStep : GoodIn wsX8_send wsX4_keepStep := goodIn_r _ [26, 27, 28, 29, 22, 30, 31, 32, 33, 21, 34, 35, 36, 58, 59, 60, 61, 62, 63, 64, 65, 66, 67, 68, 69, 70] (by decide +kernel) (by decide +kernel)
set_option maxRecDepth 20000 in
theorem gX8_send_X4_keepStep : GoodIn wsX8_send (wsV RX8 97 RX4 yX4_keepStep wsX4_keepStep) := goodIn_app (goodIn_of _ (by decide +kernel)) ggX8_send_X4_keepStep
set_option maxRecDepth 20000 in
theorem ggX8_send_X4_ofMarket : GoodIn wsX8_send wsX4_ofMarket := goodIn_r _ [40, 8, 41, 58, 59, 60, 61, 62, 63, 64, 65, 66, 67, 68, 69, 70] (by decide +kernel) (by decide +kernel)
set_option maxRecDepth 20000 in
theorem gX8_send_X4_ofMarket : GoodIn wsX8_send (wsV RX8 113 RX4 yX4_ofMarket wsX4_ofMarket) := goodIn_app (goodIn_of _ (by decide +kernel)) ggX8_send_X4_ofMarket
set_option maxRecDepth 20000 in
theorem ggX8_send_X4_setGoose : GoodIn wsX8_send wsX4_setGoose := goodIn_r _ [45, 22, 46, 47, 48, 6, 49, 21, 58, 59, 60, 61, 62, 63, 64, 65, 66, 67, 68, 69, 70] (by decide +kernel) (by decide +kernel)
set_option maxRecDepth 20000 in
theorem gX8_send_X4_setGoose : GoodIn wsX8_send (wsV RX8 100 RX4 yX4_setGoose wsX4_setGoose) := goodIn_app (goodIn_of _ (by decide +kernel)) ggX8_send_X4_setGoose
theorem dX8_send_0 : decode cX8_send 0 = .ok (.aload_n 0, 1) := by decide +kernel
theorem dX8_send_1 : decode cX8_send 1 = .ok (.getfield 10, 3) := by decide +kernel
theorem dX8_send_4 : decode cX8_send 4 = .ok (.iload_n 2, 1) := by decide +kernel
theorem dX8_send_5 : decode cX8_send 5 = .ok (.invokevirtual 104, 3) := by decide +kernel
theorem dX8_send_8 : decode cX8_send 8 = .ok (.ifCond .eq 14, 3) := by decide +kernel
theorem dX8_send_11 : decode cX8_send 11 = .ok (.aload_n 0, 1) := by decide +kernel
theorem dX8_send_12 : decode cX8_send 12 = .ok (.getfield 10, 3) := by decide +kernel
theorem dX8_send_15 : decode cX8_send 15 = .ok (.iload_n 1, 1) := by decide +kernel
theorem dX8_send_16 : decode cX8_send 16 = .ok (.invokevirtual 107, 3) := by decide +kernel
theorem dX8_send_19 : decode cX8_send 19 = .ok (.ifCond .ne 5, 3) := by decide +kernel
theorem dX8_send_22 : decode cX8_send 22 = .ok (.iconst (-1), 1) := by decide +kernel
theorem dX8_send_23 : decode cX8_send 23 = .ok (.ireturn, 1) := by decide +kernel
theorem dX8_send_24 : decode cX8_send 24 = .ok (.aload_n 0, 1) := by decide +kernel
theorem dX8_send_25 : decode cX8_send 25 = .ok (.getfield 10, 3) := by decide +kernel
theorem dX8_send_28 : decode cX8_send 28 = .ok (.invokevirtual 97, 3) := by decide +kernel
theorem dX8_send_31 : decode cX8_send 31 = .ok (.aload_n 0, 1) := by decide +kernel
theorem dX8_send_32 : decode cX8_send 32 = .ok (.getfield 10, 3) := by decide +kernel
theorem dX8_send_35 : decode cX8_send 35 = .ok (.getfield 110, 3) := by decide +kernel
theorem dX8_send_38 : decode cX8_send 38 = .ok (.aload_n 0, 1) := by decide +kernel
theorem dX8_send_39 : decode cX8_send 39 = .ok (.getfield 10, 3) := by decide +kernel
theorem dX8_send_42 : decode cX8_send 42 = .ok (.iload_n 2, 1) := by decide +kernel
theorem dX8_send_43 : decode cX8_send 43 = .ok (.iconst 0, 1) := by decide +kernel
theorem dX8_send_44 : decode cX8_send 44 = .ok (.invokevirtual 113, 3) := by decide +kernel
theorem dX8_send_47 : decode cX8_send 47 = .ok (.iadd, 1) := by decide +kernel
theorem dX8_send_48 : decode cX8_send 48 = .ok (.istore_n 3, 1) := by decide +kernel
theorem dX8_send_49 : decode cX8_send 49 = .ok (.aload_n 0, 1) := by decide +kernel
theorem dX8_send_50 : decode cX8_send 50 = .ok (.getfield 10, 3) := by decide +kernel
theorem dX8_send_53 : decode cX8_send 53 = .ok (.iload_n 1, 1) := by decide +kernel
theorem dX8_send_54 : decode cX8_send 54 = .ok (.iconst 4, 1) := by decide +kernel
theorem dX8_send_55 : decode cX8_send 55 = .ok (.iconst 1, 1) := by decide +kernel
theorem dX8_send_56 : decode cX8_send 56 = .ok (.invokevirtual 100, 3) := by decide +kernel
theorem dX8_send_59 : decode cX8_send 59 = .ok (.aload_n 0, 1) := by decide +kernel
theorem dX8_send_60 : decode cX8_send 60 = .ok (.getfield 10, 3) := by decide +kernel
theorem dX8_send_63 : decode cX8_send 63 = .ok (.iload_n 1, 1) := by decide +kernel
theorem dX8_send_64 : decode cX8_send 64 = .ok (.iconst 5, 1) := by decide +kernel
theorem dX8_send_65 : decode cX8_send 65 = .ok (.iload_n 2, 1) := by decide +kernel
theorem dX8_send_66 : decode cX8_send 66 = .ok (.invokevirtual 100, 3) := by decide +kernel
theorem dX8_send_69 : decode cX8_send 69 = .ok (.aload_n 0, 1) := by decide +kernel
theorem dX8_send_70 : decode cX8_send 70 = .ok (.getfield 10, 3) := by decide +kernel
theorem dX8_send_73 : decode cX8_send 73 = .ok (.iload_n 1, 1) := by decide +kernel
theorem dX8_send_74 : decode cX8_send 74 = .ok (.bipush 6, 2) := by decide +kernel
theorem dX8_send_76 : decode cX8_send 76 = .ok (.iload_n 3, 1) := by decide +kernel
theorem dX8_send_77 : decode cX8_send 77 = .ok (.invokevirtual 100, 3) := by decide +kernel
theorem dX8_send_80 : decode cX8_send 80 = .ok (.iload_n 3, 1) := by decide +kernel
theorem dX8_send_81 : decode cX8_send 81 = .ok (.ireturn, 1) := by decide +kernel
set_option maxRecDepth 20000 in
theorem ggX8_fatten_X4_isHome : GoodIn wsX8_fatten wsX4_isHome := goodIn_r _ [7, 8, 9, 10, 6, 11, 12, 13, 45, 46, 47, 48, 49, 50, 51, 52, 53, 54, 55, 56, 57] (by decide +kernel) (by decide +kernel)
set_option maxRecDepth 20000 in
theorem gX8_fatten_X4_isHome : GoodIn wsX8_fatten (wsV RX8 87 RX4 yX4_isHome wsX4_isHome) := goodIn_app (goodIn_of _ (by decide +kernel)) ggX8_fatten_X4_isHome
set_option maxRecDepth 20000 in
theorem ggX8_fatten_X4_ofGoose : GoodIn wsX8_fatten wsX4_ofGoose := goodIn_r _ [11, 12, 13, 45, 46, 47, 48, 49, 50, 51, 52, 53, 54, 55, 56, 57] (by decide +kernel) (by decide +kernel)
set_option maxRecDepth 20000 in
theorem gX8_fatten_X4_ofGoose : GoodIn wsX8_fatten (wsV RX8 90 RX4 yX4_ofGoose wsX4_ofGoose) := goodIn_app (goodIn_of _ (by decide +kernel)) ggX8_fatten_X4_ofGoose
set_option maxRecDepth 20000 in
theorem ggX8_fatten_X4_keepStep : GoodIn wsX8_fatten wsX4_keepStep := goodIn_r _ [18, 19, 20, 21, 13, 22, 23, 24, 25, 12, 26, 27, 28, 45, 46, 47, 48, 49, 50, 51, 52, 53, 54, 55, 56, 57] (by decide +kernel) (by decide +kernel)
set_option maxRecDepth 20000 in
theorem gX8_fatten_X4_keepStep : GoodIn wsX8_fatten (wsV RX8 97 RX4 yX4_keepStep wsX4_keepStep) := goodIn_app (goodIn_of _ (by decide +kernel)) ggX8_fatten_X4_keepStep
set_option maxRecDepth 20000 in
theorem ggX8_fatten_X4_setGoose : GoodIn wsX8_fatten wsX4_setGoose := goodIn_r _ [32, 13, 33, 34, 35, 6, 36, 12, 45, 46, 47, 48, 49, 50, 51, 52, 53, 54, 55, 56, 57] (by decide +kernel) (by decide +kernel)
set_option maxRecDepth 20000 in
theorem gX8_fatten_X4_setGoose : GoodIn wsX8_fatten (wsV RX8 100 RX4 yX4_setGoose wsX4_setGoose) := goodIn_app (goodIn_of _ (by decide +kernel)) ggX8_fatten_X4_setGoose
theorem dX8_fatten_0 : decode cX8_fatten 0 = .ok (.aload_n 0, 1) := by decide +kernel
theorem dX8_fatten_1 : decode cX8_fatten 1 = .ok (.getfield 10, 3) := by decide +kernel
theorem dX8_fatten_4 : decode cX8_fatten 4 = .ok (.iload_n 1, 1) := by decide +kernel
theorem dX8_fatten_5 : decode cX8_fatten 5 = .ok (.invokevirtual 87, 3) := by decide +kernel
theorem dX8_fatten_8 : decode cX8_fatten 8 = .ok (.ifCond .eq 28, 3) := by decide +kernel
theorem dX8_fatten_11 : decode cX8_fatten 11 = .ok (.aload_n 0, 1) := by decide +kernel
theorem dX8_fatten_12 : decode cX8_fatten 12 = .ok (.getfield 10, 3) := by decide +kernel
theorem dX8_fatten_15 : decode cX8_fatten 15 = .ok (.iload_n 1, 1) := by decide +kernel
theorem dX8_fatten_16 : decode cX8_fatten 16 = .ok (.iconst 0, 1) := by decide +kernel
theorem dX8_fatten_17 : decode cX8_fatten 17 = .ok (.invokevirtual 90, 3) := by decide +kernel
theorem dX8_fatten_20 : decode cX8_fatten 20 = .ok (.bipush 20, 2) := by decide +kernel
theorem dX8_fatten_22 : decode cX8_fatten 22 = .ok (.if_icmp .ge 14, 3) := by decide +kernel
theorem dX8_fatten_25 : decode cX8_fatten 25 = .ok (.aload_n 0, 1) := by decide +kernel
theorem dX8_fatten_26 : decode cX8_fatten 26 = .ok (.getfield 10, 3) := by decide +kernel
theorem dX8_fatten_29 : decode cX8_fatten 29 = .ok (.getfield 73, 3) := by decide +kernel
theorem dX8_fatten_32 : decode cX8_fatten 32 = .ok (.iconst 1, 1) := by decide +kernel
theorem dX8_fatten_33 : decode cX8_fatten 33 = .ok (.if_icmp .ge 5, 3) := by decide +kernel
theorem dX8_fatten_36 : decode cX8_fatten 36 = .ok (.iconst (-1), 1) := by decide +kernel
theorem dX8_fatten_37 : decode cX8_fatten 37 = .ok (.ireturn, 1) := by decide +kernel
theorem dX8_fatten_38 : decode cX8_fatten 38 = .ok (.aload_n 0, 1) := by decide +kernel
theorem dX8_fatten_39 : decode cX8_fatten 39 = .ok (.getfield 10, 3) := by decide +kernel
theorem dX8_fatten_42 : decode cX8_fatten 42 = .ok (.invokevirtual 97, 3) := by decide +kernel
theorem dX8_fatten_45 : decode cX8_fatten 45 = .ok (.aload_n 0, 1) := by decide +kernel
theorem dX8_fatten_46 : decode cX8_fatten 46 = .ok (.getfield 10, 3) := by decide +kernel
theorem dX8_fatten_49 : decode cX8_fatten 49 = .ok (.dup, 1) := by decide +kernel
theorem dX8_fatten_50 : decode cX8_fatten 50 = .ok (.getfield 73, 3) := by decide +kernel
theorem dX8_fatten_53 : decode cX8_fatten 53 = .ok (.iconst 1, 1) := by decide +kernel
theorem dX8_fatten_54 : decode cX8_fatten 54 = .ok (.isub, 1) := by decide +kernel
theorem dX8_fatten_55 : decode cX8_fatten 55 = .ok (.putfield 73, 3) := by decide +kernel
theorem dX8_fatten_58 : decode cX8_fatten 58 = .ok (.aload_n 0, 1) := by decide +kernel
theorem dX8_fatten_59 : decode cX8_fatten 59 = .ok (.getfield 10, 3) := by decide +kernel
theorem dX8_fatten_62 : decode cX8_fatten 62 = .ok (.iload_n 1, 1) := by decide +kernel
theorem dX8_fatten_63 : decode cX8_fatten 63 = .ok (.iconst 0, 1) := by decide +kernel
theorem dX8_fatten_64 : decode cX8_fatten 64 = .ok (.aload_n 0, 1) := by decide +kernel
theorem dX8_fatten_65 : decode cX8_fatten 65 = .ok (.getfield 10, 3) := by decide +kernel
theorem dX8_fatten_68 : decode cX8_fatten 68 = .ok (.iload_n 1, 1) := by decide +kernel
theorem dX8_fatten_69 : decode cX8_fatten 69 = .ok (.iconst 0, 1) := by decide +kernel
theorem dX8_fatten_70 : decode cX8_fatten 70 = .ok (.invokevirtual 90, 3) := by decide +kernel
theorem dX8_fatten_73 : decode cX8_fatten 73 = .ok (.iconst 1, 1) := by decide +kernel
theorem dX8_fatten_74 : decode cX8_fatten 74 = .ok (.iadd, 1) := by decide +kernel
theorem dX8_fatten_75 : decode cX8_fatten 75 = .ok (.invokevirtual 100, 3) := by decide +kernel
theorem dX8_fatten_78 : decode cX8_fatten 78 = .ok (.aload_n 0, 1) := by decide +kernel
theorem dX8_fatten_79 : decode cX8_fatten 79 = .ok (.getfield 10, 3) := by decide +kernel
theorem dX8_fatten_82 : decode cX8_fatten 82 = .ok (.iload_n 1, 1) := by decide +kernel
theorem dX8_fatten_83 : decode cX8_fatten 83 = .ok (.iconst 0, 1) := by decide +kernel
theorem dX8_fatten_84 : decode cX8_fatten 84 = .ok (.invokevirtual 90, 3) := by decide +kernel
theorem dX8_fatten_87 : decode cX8_fatten 87 = .ok (.ireturn, 1) := by decide +kernel
set_option maxRecDepth 20000 in
theorem ggX8_pluck_X4_isHome : GoodIn wsX8_pluck wsX4_isHome := goodIn_r _ [6, 7, 8, 9, 5, 10, 11, 12, 44, 45, 46, 47, 48, 49, 50, 51, 52, 53, 54, 55, 56] (by decide +kernel) (by decide +kernel)
set_option maxRecDepth 20000 in
theorem gX8_pluck_X4_isHome : GoodIn wsX8_pluck (wsV RX8 87 RX4 yX4_isHome wsX4_isHome) := goodIn_app (goodIn_of _ (by decide +kernel)) ggX8_pluck_X4_isHome
set_option maxRecDepth 20000 in
theorem ggX8_pluck_X4_ofGoose : GoodIn wsX8_pluck wsX4_ofGoose := goodIn_r _ [10, 11, 12, 44, 45, 46, 47, 48, 49, 50, 51, 52, 53, 54, 55, 56] (by decide +kernel) (by decide +kernel)
set_option maxRecDepth 20000 in
theorem gX8_pluck_X4_ofGoose : GoodIn wsX8_pluck (wsV RX8 90 RX4 yX4_ofGoose wsX4_ofGoose) := goodIn_app (goodIn_of _ (by decide +kernel)) ggX8_pluck_X4_ofGoose
set_option maxRecDepth 20000 in
theorem ggX8_pluck_X4_keepStep : GoodIn wsX8_pluck wsX4_keepStep := goodIn_r _ [17, 18, 19, 20, 12, 21, 22, 23, 24, 11, 25, 26, 27, 44, 45, 46, 47, 48, 49, 50, 51, 52, 53, 54, 55, 56] (by decide +kernel) (by decide +kernel)
set_option maxRecDepth 20000 in
theorem gX8_pluck_X4_keepStep : GoodIn wsX8_pluck (wsV RX8 97 RX4 yX4_keepStep wsX4_keepStep) := goodIn_app (goodIn_of _ (by decide +kernel)) ggX8_pluck_X4_keepStep
set_option maxRecDepth 20000 in
theorem ggX8_pluck_X4_setGoose : GoodIn wsX8_pluck wsX4_setGoose := goodIn_r _ [31, 12, 32, 33, 34, 5, 35, 11, 44, 45, 46, 47, 48, 49, 50, 51, 52, 53, 54, 55, 56] (by decide +kernel) (by decide +kernel)
set_option maxRecDepth 20000 in
theorem gX8_pluck_X4_setGoose : GoodIn wsX8_pluck (wsV RX8 100 RX4 yX4_setGoose wsX4_setGoose) := goodIn_app (goodIn_of _ (by decide +kernel)) ggX8_pluck_X4_setGoose
theorem dX8_pluck_0 : decode cX8_pluck 0 = .ok (.aload_n 0, 1) := by decide +kernel
theorem dX8_pluck_1 : decode cX8_pluck 1 = .ok (.getfield 10, 3) := by decide +kernel
theorem dX8_pluck_4 : decode cX8_pluck 4 = .ok (.iload_n 1, 1) := by decide +kernel
theorem dX8_pluck_5 : decode cX8_pluck 5 = .ok (.invokevirtual 87, 3) := by decide +kernel
theorem dX8_pluck_8 : decode cX8_pluck 8 = .ok (.ifCond .eq 16, 3) := by decide +kernel
theorem dX8_pluck_11 : decode cX8_pluck 11 = .ok (.aload_n 0, 1) := by decide +kernel
theorem dX8_pluck_12 : decode cX8_pluck 12 = .ok (.getfield 10, 3) := by decide +kernel
theorem dX8_pluck_15 : decode cX8_pluck 15 = .ok (.iload_n 1, 1) := by decide +kernel
theorem dX8_pluck_16 : decode cX8_pluck 16 = .ok (.iconst 1, 1) := by decide +kernel
theorem dX8_pluck_17 : decode cX8_pluck 17 = .ok (.invokevirtual 90, 3) := by decide +kernel
theorem dX8_pluck_20 : decode cX8_pluck 20 = .ok (.iconst 1, 1) := by decide +kernel
theorem dX8_pluck_21 : decode cX8_pluck 21 = .ok (.if_icmp .ge 5, 3) := by decide +kernel
theorem dX8_pluck_24 : decode cX8_pluck 24 = .ok (.iconst (-1), 1) := by decide +kernel
theorem dX8_pluck_25 : decode cX8_pluck 25 = .ok (.ireturn, 1) := by decide +kernel
theorem dX8_pluck_26 : decode cX8_pluck 26 = .ok (.aload_n 0, 1) := by decide +kernel
theorem dX8_pluck_27 : decode cX8_pluck 27 = .ok (.getfield 10, 3) := by decide +kernel
theorem dX8_pluck_30 : decode cX8_pluck 30 = .ok (.invokevirtual 97, 3) := by decide +kernel
theorem dX8_pluck_33 : decode cX8_pluck 33 = .ok (.aload_n 0, 1) := by decide +kernel
theorem dX8_pluck_34 : decode cX8_pluck 34 = .ok (.getfield 10, 3) := by decide +kernel
theorem dX8_pluck_37 : decode cX8_pluck 37 = .ok (.iload_n 1, 1) := by decide +kernel
theorem dX8_pluck_38 : decode cX8_pluck 38 = .ok (.iconst 1, 1) := by decide +kernel
theorem dX8_pluck_39 : decode cX8_pluck 39 = .ok (.aload_n 0, 1) := by decide +kernel
theorem dX8_pluck_40 : decode cX8_pluck 40 = .ok (.getfield 10, 3) := by decide +kernel
theorem dX8_pluck_43 : decode cX8_pluck 43 = .ok (.iload_n 1, 1) := by decide +kernel
theorem dX8_pluck_44 : decode cX8_pluck 44 = .ok (.iconst 1, 1) := by decide +kernel
theorem dX8_pluck_45 : decode cX8_pluck 45 = .ok (.invokevirtual 90, 3) := by decide +kernel
theorem dX8_pluck_48 : decode cX8_pluck 48 = .ok (.iconst 1, 1) := by decide +kernel
theorem dX8_pluck_49 : decode cX8_pluck 49 = .ok (.isub, 1) := by decide +kernel
theorem dX8_pluck_50 : decode cX8_pluck 50 = .ok (.invokevirtual 100, 3) := by decide +kernel
theorem dX8_pluck_53 : decode cX8_pluck 53 = .ok (.aload_n 0, 1) := by decide +kernel
theorem dX8_pluck_54 : decode cX8_pluck 54 = .ok (.getfield 10, 3) := by decide +kernel
theorem dX8_pluck_57 : decode cX8_pluck 57 = .ok (.iload_n 1, 1) := by decide +kernel
theorem dX8_pluck_58 : decode cX8_pluck 58 = .ok (.iconst 1, 1) := by decide +kernel
theorem dX8_pluck_59 : decode cX8_pluck 59 = .ok (.invokevirtual 90, 3) := by decide +kernel
theorem dX8_pluck_62 : decode cX8_pluck 62 = .ok (.ireturn, 1) := by decide +kernel
set_option maxRecDepth 20000 in
theorem ggX8_name_X4_isFree : GoodIn wsX8_name wsX4_isFree := goodIn_r _ [6, 7, 8, 9, 5, 10, 11, 12, 13, 14, 15, 16, 47, 48, 49, 50, 51, 52, 53, 54, 55, 56, 57, 58, 59] (by decide +kernel) (by decide +kernel)
set_option maxRecDepth 20000 in
theorem gX8_name_X4_isFree : GoodIn wsX8_name (wsV RX8 107 RX4 yX4_isFree wsX4_isFree) := goodIn_app (goodIn_of _ (by decide +kernel)) ggX8_name_X4_isFree
set_option maxRecDepth 20000 in
theorem ggX8_name_X4_keepStep : GoodIn wsX8_name wsX4_keepStep := goodIn_r _ [20, 21, 22, 23, 16, 24, 25, 26, 27, 15, 28, 29, 30, 47, 48, 49, 50, 51, 52, 53, 54, 55, 56, 57, 58, 59] (by decide +kernel) (by decide +kernel)
set_option maxRecDepth 20000 in
theorem gX8_name_X4_keepStep : GoodIn wsX8_name (wsV RX8 97 RX4 yX4_keepStep wsX4_keepStep) := goodIn_app (goodIn_of _ (by decide +kernel)) ggX8_name_X4_keepStep
set_option maxRecDepth 20000 in
theorem ggX8_name_X4_setGoose : GoodIn wsX8_name wsX4_setGoose := goodIn_r _ [34, 16, 35, 36, 37, 5, 38, 15, 47, 48, 49, 50, 51, 52, 53, 54, 55, 56, 57, 58, 59] (by decide +kernel) (by decide +kernel)
set_option maxRecDepth 20000 in
theorem gX8_name_X4_setGoose : GoodIn wsX8_name (wsV RX8 100 RX4 yX4_setGoose wsX4_setGoose) := goodIn_app (goodIn_of _ (by decide +kernel)) ggX8_name_X4_setGoose
theorem dX8_name_0 : decode cX8_name 0 = .ok (.aload_n 0, 1) := by decide +kernel
theorem dX8_name_1 : decode cX8_name 1 = .ok (.getfield 10, 3) := by decide +kernel
theorem dX8_name_4 : decode cX8_name 4 = .ok (.iload_n 1, 1) := by decide +kernel
theorem dX8_name_5 : decode cX8_name 5 = .ok (.invokevirtual 107, 3) := by decide +kernel
theorem dX8_name_8 : decode cX8_name 8 = .ok (.ifCond .ne 5, 3) := by decide +kernel
theorem dX8_name_11 : decode cX8_name 11 = .ok (.iconst 0, 1) := by decide +kernel
theorem dX8_name_12 : decode cX8_name 12 = .ok (.ireturn, 1) := by decide +kernel
theorem dX8_name_13 : decode cX8_name 13 = .ok (.aload_n 0, 1) := by decide +kernel
theorem dX8_name_14 : decode cX8_name 14 = .ok (.getfield 10, 3) := by decide +kernel
theorem dX8_name_17 : decode cX8_name 17 = .ok (.invokevirtual 97, 3) := by decide +kernel
theorem dX8_name_20 : decode cX8_name 20 = .ok (.aload_n 0, 1) := by decide +kernel
theorem dX8_name_21 : decode cX8_name 21 = .ok (.getfield 10, 3) := by decide +kernel
theorem dX8_name_24 : decode cX8_name 24 = .ok (.iload_n 1, 1) := by decide +kernel
theorem dX8_name_25 : decode cX8_name 25 = .ok (.bipush 8, 2) := by decide +kernel
theorem dX8_name_27 : decode cX8_name 27 = .ok (.iconst 1, 1) := by decide +kernel
theorem dX8_name_28 : decode cX8_name 28 = .ok (.invokevirtual 100, 3) := by decide +kernel
theorem dX8_name_31 : decode cX8_name 31 = .ok (.iconst 1, 1) := by decide +kernel
theorem dX8_name_32 : decode cX8_name 32 = .ok (.ireturn, 1) := by decide +kernel
set_option maxRecDepth 20000 in
theorem ggX8_pass_X4_keepStep : GoodIn wsX8_pass wsX4_keepStep := goodIn_r _ [7, 8, 9, 10, 11, 12, 13, 14, 15, 16, 17, 18, 19, 167, 168, 169, 170, 171, 172, 173, 174, 175, 176, 177, 178, 179] (by decide +kernel) (by decide +kernel)
set_option maxRecDepth 20000 in
theorem gX8_pass_X4_keepStep : GoodIn wsX8_pass (wsV RX8 97 RX4 yX4_keepStep wsX4_keepStep) := goodIn_app (goodIn_of _ (by decide +kernel)) ggX8_pass_X4_keepStep
set_option maxRecDepth 20000 in
theorem ggX8_pass_X8_passOneDay : GoodIn wsX8_pass wsX8_passOneDay := goodIn_r _ [24, 1, 2, 25, 26, 27, 28, 6, 29, 16, 11, 30, 31, 32, 23, 33, 34, 35, 36, 37, 38, 39, 40, 41, 42, 43, 44, 45, 46, 47, 48, 49, 50, 51, 52, 53, 54, 55, 56, 57, 58, 59, 60, 19, 61, 62, 63, 64, 65, 66, 67, 68, 69, 70, 71, 72, 73, 74, 75, 76, 77, 78, 79, 80, 81, 82, 83, 84, 85, 86, 87, 88, 89, 90, 91, 92, 93, 94, 95, 96, 97, 98, 99, 100, 101, 102, 103, 104, 105, 106, 107, 108, 109, 110, 111, 112, 113, 114, 115, 116, 117, 118, 119, 120, 121, 122, 123, 124, 125, 126, 127, 18, 128, 129, 130, 131, 132, 133, 134, 135, 136, 137, 138, 139, 17, 140, 141, 142, 143, 144, 145, 146, 147, 148, 149, 150, 151, 152, 153, 154, 155, 156, 157, 158, 159, 160, 161, 162, 163, 164, 165, 166, 167, 168, 169, 170, 171, 172, 173, 174, 175, 176, 177, 178, 179, 180, 181, 182, 183, 184, 185, 186, 187, 188, 189] (by decide +kernel) (by decide +kernel)
set_option maxRecDepth 20000 in
theorem gX8_pass_X8_passOneDay : GoodIn wsX8_pass (wsV RX8 116 RX8 yX8_passOneDay wsX8_passOneDay) := goodIn_app (goodIn_of _ (by decide +kernel)) ggX8_pass_X8_passOneDay
theorem dX8_pass_0 : decode cX8_pass 0 = .ok (.iload_n 1, 1) := by decide +kernel
theorem dX8_pass_1 : decode cX8_pass 1 = .ok (.iconst 1, 1) := by decide +kernel
theorem dX8_pass_2 : decode cX8_pass 2 = .ok (.if_icmp .lt 24, 3) := by decide +kernel
theorem dX8_pass_5 : decode cX8_pass 5 = .ok (.iload_n 1, 1) := by decide +kernel
theorem dX8_pass_6 : decode cX8_pass 6 = .ok (.bipush 99, 2) := by decide +kernel
theorem dX8_pass_8 : decode cX8_pass 8 = .ok (.if_icmp .gt 18, 3) := by decide +kernel
theorem dX8_pass_11 : decode cX8_pass 11 = .ok (.aload_n 0, 1) := by decide +kernel
theorem dX8_pass_12 : decode cX8_pass 12 = .ok (.getfield 10, 3) := by decide +kernel
theorem dX8_pass_15 : decode cX8_pass 15 = .ok (.getfield 110, 3) := by decide +kernel
theorem dX8_pass_18 : decode cX8_pass 18 = .ok (.iload_n 1, 1) := by decide +kernel
theorem dX8_pass_19 : decode cX8_pass 19 = .ok (.iadd, 1) := by decide +kernel
theorem dX8_pass_20 : decode cX8_pass 20 = .ok (.sipush 999, 3) := by decide +kernel
theorem dX8_pass_23 : decode cX8_pass 23 = .ok (.if_icmp .le 5, 3) := by decide +kernel
theorem dX8_pass_26 : decode cX8_pass 26 = .ok (.iconst (-1), 1) := by decide +kernel
theorem dX8_pass_27 : decode cX8_pass 27 = .ok (.ireturn, 1) := by decide +kernel
theorem dX8_pass_28 : decode cX8_pass 28 = .ok (.aload_n 0, 1) := by decide +kernel
theorem dX8_pass_29 : decode cX8_pass 29 = .ok (.getfield 10, 3) := by decide +kernel
theorem dX8_pass_32 : decode cX8_pass 32 = .ok (.invokevirtual 97, 3) := by decide +kernel
theorem dX8_pass_35 : decode cX8_pass 35 = .ok (.iconst 0, 1) := by decide +kernel
theorem dX8_pass_36 : decode cX8_pass 36 = .ok (.istore_n 2, 1) := by decide +kernel
theorem dX8_pass_37 : decode cX8_pass 37 = .ok (.iload_n 2, 1) := by decide +kernel
theorem dX8_pass_38 : decode cX8_pass 38 = .ok (.iload_n 1, 1) := by decide +kernel
theorem dX8_pass_39 : decode cX8_pass 39 = .ok (.if_icmp .ge 13, 3) := by decide +kernel
theorem dX8_pass_42 : decode cX8_pass 42 = .ok (.aload_n 0, 1) := by decide +kernel
theorem dX8_pass_43 : decode cX8_pass 43 = .ok (.invokevirtual 116, 3) := by decide +kernel
theorem dX8_pass_46 : decode cX8_pass 46 = .ok (.iinc 2 1, 3) := by decide +kernel
theorem dX8_pass_49 : decode cX8_pass 49 = .ok (.goto (-12), 3) := by decide +kernel
theorem dX8_pass_52 : decode cX8_pass 52 = .ok (.aload_n 0, 1) := by decide +kernel
theorem dX8_pass_53 : decode cX8_pass 53 = .ok (.getfield 10, 3) := by decide +kernel
theorem dX8_pass_56 : decode cX8_pass 56 = .ok (.getfield 110, 3) := by decide +kernel
theorem dX8_pass_59 : decode cX8_pass 59 = .ok (.ireturn, 1) := by decide +kernel
set_option maxRecDepth 20000 in
theorem ggX8_feed_X5_addFour : GoodIn wsX8_feed wsX5_addFour := goodIn_r _ [7, 8, 9, 18, 19] (by decide +kernel) (by decide +kernel)
set_option maxRecDepth 20000 in
theorem gX8_feed_X5_addFour : GoodIn wsX8_feed (wsV RX8 122 RX5 yX5_addFour wsX5_addFour) := goodIn_app (goodIn_of _ (by decide +kernel)) ggX8_feed_X5_addFour
theorem dX8_feed_0 : decode cX8_feed 0 = .ok (.aload_n 0, 1) := by decide +kernel
theorem dX8_feed_1 : decode cX8_feed 1 = .ok (.getfield 22, 3) := by decide +kernel
theorem dX8_feed_4 : decode cX8_feed 4 = .ok (.getfield 119, 3) := by decide +kernel
theorem dX8_feed_7 : decode cX8_feed 7 = .ok (.bipush 20, 2) := by decide +kernel
theorem dX8_feed_9 : decode cX8_feed 9 = .ok (.iadd, 1) := by decide +kernel
theorem dX8_feed_10 : decode cX8_feed 10 = .ok (.sipush 300, 3) := by decide +kernel
theorem dX8_feed_13 : decode cX8_feed 13 = .ok (.if_icmp .le 5, 3) := by decide +kernel
theorem dX8_feed_16 : decode cX8_feed 16 = .ok (.iconst (-1), 1) := by decide +kernel
theorem dX8_feed_17 : decode cX8_feed 17 = .ok (.ireturn, 1) := by decide +kernel
theorem dX8_feed_18 : decode cX8_feed 18 = .ok (.aload_n 0, 1) := by decide +kernel
theorem dX8_feed_19 : decode cX8_feed 19 = .ok (.getfield 22, 3) := by decide +kernel
theorem dX8_feed_22 : decode cX8_feed 22 = .ok (.iload_n 1, 1) := by decide +kernel
theorem dX8_feed_23 : decode cX8_feed 23 = .ok (.invokevirtual 122, 3) := by decide +kernel
theorem dX8_feed_26 : decode cX8_feed 26 = .ok (.aload_n 0, 1) := by decide +kernel
theorem dX8_feed_27 : decode cX8_feed 27 = .ok (.getfield 22, 3) := by decide +kernel
theorem dX8_feed_30 : decode cX8_feed 30 = .ok (.iload_n 2, 1) := by decide +kernel
theorem dX8_feed_31 : decode cX8_feed 31 = .ok (.invokevirtual 122, 3) := by decide +kernel
theorem dX8_feed_34 : decode cX8_feed 34 = .ok (.aload_n 0, 1) := by decide +kernel
theorem dX8_feed_35 : decode cX8_feed 35 = .ok (.getfield 22, 3) := by decide +kernel
theorem dX8_feed_38 : decode cX8_feed 38 = .ok (.iload_n 3, 1) := by decide +kernel
theorem dX8_feed_39 : decode cX8_feed 39 = .ok (.invokevirtual 122, 3) := by decide +kernel
theorem dX8_feed_42 : decode cX8_feed 42 = .ok (.aload_n 0, 1) := by decide +kernel
theorem dX8_feed_43 : decode cX8_feed 43 = .ok (.getfield 22, 3) := by decide +kernel
theorem dX8_feed_46 : decode cX8_feed 46 = .ok (.iload 4, 2) := by decide +kernel
theorem dX8_feed_48 : decode cX8_feed 48 = .ok (.invokevirtual 122, 3) := by decide +kernel
theorem dX8_feed_51 : decode cX8_feed 51 = .ok (.aload_n 0, 1) := by decide +kernel
theorem dX8_feed_52 : decode cX8_feed 52 = .ok (.getfield 22, 3) := by decide +kernel
theorem dX8_feed_55 : decode cX8_feed 55 = .ok (.iload 5, 2) := by decide +kernel
theorem dX8_feed_57 : decode cX8_feed 57 = .ok (.invokevirtual 122, 3) := by decide +kernel
theorem dX8_feed_60 : decode cX8_feed 60 = .ok (.aload_n 0, 1) := by decide +kernel
theorem dX8_feed_61 : decode cX8_feed 61 = .ok (.getfield 22, 3) := by decide +kernel
theorem dX8_feed_64 : decode cX8_feed 64 = .ok (.getfield 119, 3) := by decide +kernel
theorem dX8_feed_67 : decode cX8_feed 67 = .ok (.ireturn, 1) := by decide +kernel
theorem dX8_end_0 : decode cX8_end 0 = .ok (.iload_n 1, 1) := by decide +kernel
theorem dX8_end_1 : decode cX8_end 1 = .ok (.ifCond .lt 14, 3) := by decide +kernel
theorem dX8_end_4 : decode cX8_end 4 = .ok (.iload_n 1, 1) := by decide +kernel
theorem dX8_end_5 : decode cX8_end 5 = .ok (.aload_n 0, 1) := by decide +kernel
theorem dX8_end_6 : decode cX8_end 6 = .ok (.getfield 22, 3) := by decide +kernel
theorem dX8_end_9 : decode cX8_end 9 = .ok (.getfield 119, 3) := by decide +kernel
theorem dX8_end_12 : decode cX8_end 12 = .ok (.if_icmp .le 5, 3) := by decide +kernel
theorem dX8_end_15 : decode cX8_end 15 = .ok (.iconst (-1), 1) := by decide +kernel
theorem dX8_end_16 : decode cX8_end 16 = .ok (.ireturn, 1) := by decide +kernel
theorem dX8_end_17 : decode cX8_end 17 = .ok (.aload_n 0, 1) := by decide +kernel
theorem dX8_end_18 : decode cX8_end 18 = .ok (.getfield 22, 3) := by decide +kernel
theorem dX8_end_21 : decode cX8_end 21 = .ok (.iload_n 1, 1) := by decide +kernel
theorem dX8_end_22 : decode cX8_end 22 = .ok (.putfield 119, 3) := by decide +kernel
theorem dX8_end_25 : decode cX8_end 25 = .ok (.iload_n 1, 1) := by decide +kernel
theorem dX8_end_26 : decode cX8_end 26 = .ok (.ireturn, 1) := by decide +kernel
set_option maxRecDepth 20000 in
theorem ggX8_text_X1_textOf : GoodIn wsX8_text wsX1_textOf := goodIn_r _ [13, 14, 246, 247, 248, 249] (by decide +kernel) (by decide +kernel)
set_option maxRecDepth 20000 in
theorem gX8_text_X1_textOf : GoodIn wsX8_text (wsV RX8 129 RX1 yX1_textOf wsX1_textOf) := goodIn_app (goodIn_of _ (by decide +kernel)) ggX8_text_X1_textOf
set_option maxRecDepth 20000 in
theorem ggX8_text_X7_split : GoodIn wsX8_text wsX7_split := goodIn_r _ [19, 20, 21, 22, 23, 24, 25, 26, 27, 28, 29, 30, 31, 18, 32, 33, 34, 35, 36, 37, 38, 39, 40, 41, 42, 43, 44, 45, 46, 47, 48, 49, 50, 51, 52, 53, 54, 55, 56, 57, 58, 59, 60, 61, 62, 63, 64, 65, 66, 67, 68, 69, 70, 71, 72, 73, 74, 75, 76, 77, 78, 79, 80, 81, 82, 83, 84, 85, 86, 87, 88, 89, 90, 91, 92, 93, 94, 95, 96, 97, 98, 99, 100, 101, 102, 103, 104, 105, 106, 107, 108, 109, 110, 111, 112, 113, 114, 115, 116, 250, 251, 252, 253, 254, 241, 242] (by decide +kernel) (by decide +kernel)
set_option maxRecDepth 20000 in
theorem gX8_text_X7_split : GoodIn wsX8_text (wsV RX8 133 RX7 yX7_split wsX7_split) := goodIn_app (goodIn_of _ (by decide +kernel)) ggX8_text_X7_split
set_option maxRecDepth 20000 in
theorem ggX8_text_X2_parse : GoodIn wsX8_text wsX2_parse := goodIn_r _ [121, 122, 123, 124, 125, 126, 127, 128, 129, 130, 131, 132, 133, 134, 135, 18, 136, 20, 21, 96, 137, 138, 139, 120, 140, 141, 142, 143, 144, 145, 146, 147, 148, 149, 150, 97, 151, 152, 153, 154, 155, 156, 157, 158, 159, 160, 161, 162, 163, 164, 165, 166, 167, 168, 169, 170, 171, 172, 173, 174, 175, 176, 177, 178, 179, 180, 181, 182, 183, 184, 185, 186, 187, 188, 189, 190, 191, 192, 193, 194, 195, 196, 197, 198, 199, 98, 200, 201, 202, 203, 204, 205, 206, 207, 208, 209, 210, 211, 212, 213, 214, 215, 216, 217, 218, 219, 243, 244, 245, 255, 256, 257, 258, 259, 260, 250, 251, 252, 253, 254] (by decide +kernel) (by decide +kernel)
set_option maxRecDepth 20000 in
theorem gX8_text_X2_parse : GoodIn wsX8_text (wsV RX8 137 RX2 yX2_parse wsX2_parse) := goodIn_app (goodIn_of _ (by decide +kernel)) ggX8_text_X2_parse
theorem dX8_text_0 : decode cX8_text 0 = .ok (.aload_n 0, 1) := by decide +kernel
theorem dX8_text_1 : decode cX8_text 1 = .ok (.getfield 43, 3) := by decide +kernel
theorem dX8_text_4 : decode cX8_text 4 = .ok (.aload_n 0, 1) := by decide +kernel
theorem dX8_text_5 : decode cX8_text 5 = .ok (.getfield 10, 3) := by decide +kernel
theorem dX8_text_8 : decode cX8_text 8 = .ok (.getfield 126, 3) := by decide +kernel
theorem dX8_text_11 : decode cX8_text 11 = .ok (.invokevirtual 129, 3) := by decide +kernel
theorem dX8_text_14 : decode cX8_text 14 = .ok (.astore_n 1, 1) := by decide +kernel
theorem dX8_text_15 : decode cX8_text 15 = .ok (.aload_n 1, 1) := by decide +kernel
theorem dX8_text_16 : decode cX8_text 16 = .ok (.ifnonnull 5, 3) := by decide +kernel
theorem dX8_text_19 : decode cX8_text 19 = .ok (.iconst (-1), 1) := by decide +kernel
theorem dX8_text_20 : decode cX8_text 20 = .ok (.ireturn, 1) := by decide +kernel
theorem dX8_text_21 : decode cX8_text 21 = .ok (.aload_n 0, 1) := by decide +kernel
theorem dX8_text_22 : decode cX8_text 22 = .ok (.getfield 29, 3) := by decide +kernel
theorem dX8_text_25 : decode cX8_text 25 = .ok (.aload_n 0, 1) := by decide +kernel
theorem dX8_text_26 : decode cX8_text 26 = .ok (.getfield 22, 3) := by decide +kernel
theorem dX8_text_29 : decode cX8_text 29 = .ok (.invokevirtual 133, 3) := by decide +kernel
theorem dX8_text_32 : decode cX8_text 32 = .ok (.aload_n 0, 1) := by decide +kernel
theorem dX8_text_33 : decode cX8_text 33 = .ok (.getfield 36, 3) := by decide +kernel
theorem dX8_text_36 : decode cX8_text 36 = .ok (.aload_n 0, 1) := by decide +kernel
theorem dX8_text_37 : decode cX8_text 37 = .ok (.getfield 29, 3) := by decide +kernel
theorem dX8_text_40 : decode cX8_text 40 = .ok (.aload_n 1, 1) := by decide +kernel
theorem dX8_text_41 : decode cX8_text 41 = .ok (.invokevirtual 137, 3) := by decide +kernel
theorem dX8_text_44 : decode cX8_text 44 = .ok (.aload_n 0, 1) := by decide +kernel
theorem dX8_text_45 : decode cX8_text 45 = .ok (.getfield 22, 3) := by decide +kernel
theorem dX8_text_48 : decode cX8_text 48 = .ok (.iconst 0, 1) := by decide +kernel
theorem dX8_text_49 : decode cX8_text 49 = .ok (.putfield 119, 3) := by decide +kernel
theorem dX8_text_52 : decode cX8_text 52 = .ok (.aload_n 0, 1) := by decide +kernel
theorem dX8_text_53 : decode cX8_text 53 = .ok (.getfield 36, 3) := by decide +kernel
theorem dX8_text_56 : decode cX8_text 56 = .ok (.getfield 141, 3) := by decide +kernel
theorem dX8_text_59 : decode cX8_text 59 = .ok (.ifCond .eq 5, 3) := by decide +kernel
theorem dX8_text_62 : decode cX8_text 62 = .ok (.iconst (-1), 1) := by decide +kernel
theorem dX8_text_63 : decode cX8_text 63 = .ok (.ireturn, 1) := by decide +kernel
theorem dX8_text_64 : decode cX8_text 64 = .ok (.aload_n 0, 1) := by decide +kernel
theorem dX8_text_65 : decode cX8_text 65 = .ok (.getfield 10, 3) := by decide +kernel
theorem dX8_text_68 : decode cX8_text 68 = .ok (.dup, 1) := by decide +kernel
theorem dX8_text_69 : decode cX8_text 69 = .ok (.getfield 126, 3) := by decide +kernel
theorem dX8_text_72 : decode cX8_text 72 = .ok (.iconst 1, 1) := by decide +kernel
theorem dX8_text_73 : decode cX8_text 73 = .ok (.iadd, 1) := by decide +kernel
theorem dX8_text_74 : decode cX8_text 74 = .ok (.putfield 126, 3) := by decide +kernel
theorem dX8_text_77 : decode cX8_text 77 = .ok (.aload_n 0, 1) := by decide +kernel
theorem dX8_text_78 : decode cX8_text 78 = .ok (.getfield 10, 3) := by decide +kernel
theorem dX8_text_81 : decode cX8_text 81 = .ok (.getfield 126, 3) := by decide +kernel
theorem dX8_text_84 : decode cX8_text 84 = .ok (.iconst 1, 1) := by decide +kernel
theorem dX8_text_85 : decode cX8_text 85 = .ok (.isub, 1) := by decide +kernel
theorem dX8_text_86 : decode cX8_text 86 = .ok (.ireturn, 1) := by decide +kernel
theorem dX8_fault_0 : decode cX8_fault 0 = .ok (.iload_n 1, 1) := by decide +kernel
theorem dX8_fault_1 : decode cX8_fault 1 = .ok (.ifCond .ne 11, 3) := by decide +kernel
theorem dX8_fault_4 : decode cX8_fault 4 = .ok (.aload_n 0, 1) := by decide +kernel
theorem dX8_fault_5 : decode cX8_fault 5 = .ok (.getfield 36, 3) := by decide +kernel
theorem dX8_fault_8 : decode cX8_fault 8 = .ok (.getfield 141, 3) := by decide +kernel
theorem dX8_fault_11 : decode cX8_fault 11 = .ok (.ireturn, 1) := by decide +kernel
theorem dX8_fault_12 : decode cX8_fault 12 = .ok (.iload_n 1, 1) := by decide +kernel
theorem dX8_fault_13 : decode cX8_fault 13 = .ok (.iconst 1, 1) := by decide +kernel
theorem dX8_fault_14 : decode cX8_fault 14 = .ok (.if_icmp .ne 13, 3) := by decide +kernel
theorem dX8_fault_17 : decode cX8_fault 17 = .ok (.aload_n 0, 1) := by decide +kernel
theorem dX8_fault_18 : decode cX8_fault 18 = .ok (.getfield 36, 3) := by decide +kernel
theorem dX8_fault_21 : decode cX8_fault 21 = .ok (.getfield 144, 3) := by decide +kernel
theorem dX8_fault_24 : decode cX8_fault 24 = .ok (.goto 4, 3) := by decide +kernel
theorem dX8_fault_27 : decode cX8_fault 27 = .ok (.iconst (-1), 1) := by decide +kernel
theorem dX8_fault_28 : decode cX8_fault 28 = .ok (.ireturn, 1) := by decide +kernel
theorem dX8_by_0 : decode cX8_by 0 = .ok (.iload_n 1, 1) := by decide +kernel
theorem dX8_by_1 : decode cX8_by 1 = .ok (.iconst (-1), 1) := by decide +kernel
theorem dX8_by_2 : decode cX8_by 2 = .ok (.if_icmp .lt 14, 3) := by decide +kernel
theorem dX8_by_5 : decode cX8_by 5 = .ok (.iload_n 1, 1) := by decide +kernel
theorem dX8_by_6 : decode cX8_by 6 = .ok (.aload_n 0, 1) := by decide +kernel
theorem dX8_by_7 : decode cX8_by 7 = .ok (.getfield 10, 3) := by decide +kernel
theorem dX8_by_10 : decode cX8_by 10 = .ok (.getfield 126, 3) := by decide +kernel
theorem dX8_by_13 : decode cX8_by 13 = .ok (.if_icmp .lt 5, 3) := by decide +kernel
theorem dX8_by_16 : decode cX8_by 16 = .ok (.iconst 0, 1) := by decide +kernel
theorem dX8_by_17 : decode cX8_by 17 = .ok (.ireturn, 1) := by decide +kernel
theorem dX8_by_18 : decode cX8_by 18 = .ok (.aload_n 0, 1) := by decide +kernel
theorem dX8_by_19 : decode cX8_by 19 = .ok (.getfield 10, 3) := by decide +kernel
theorem dX8_by_22 : decode cX8_by 22 = .ok (.iload_n 1, 1) := by decide +kernel
theorem dX8_by_23 : decode cX8_by 23 = .ok (.putfield 147, 3) := by decide +kernel
theorem dX8_by_26 : decode cX8_by 26 = .ok (.iconst 1, 1) := by decide +kernel
theorem dX8_by_27 : decode cX8_by 27 = .ok (.ireturn, 1) := by decide +kernel
set_option maxRecDepth 20000 in
theorem ggX8_played_X1_textOf : GoodIn wsX8_played wsX1_textOf := goodIn_r _ [9, 10, 234, 235, 236, 237] (by decide +kernel) (by decide +kernel)
set_option maxRecDepth 20000 in
theorem gX8_played_X1_textOf : GoodIn wsX8_played (wsV RX8 129 RX1 yX1_textOf wsX1_textOf) := goodIn_app (goodIn_of _ (by decide +kernel)) ggX8_played_X1_textOf
set_option maxRecDepth 20000 in
theorem ggX8_played_X6_clauseField : GoodIn wsX8_played wsX6_clauseField := goodIn_r _ [15, 16, 228, 229, 230, 231, 232, 233] (by decide +kernel) (by decide +kernel)
set_option maxRecDepth 20000 in
theorem gX8_played_X6_clauseField : GoodIn wsX8_played (wsV RX8 155 RX6 yX6_clauseField wsX6_clauseField) := goodIn_app (goodIn_of _ (by decide +kernel)) ggX8_played_X6_clauseField
set_option maxRecDepth 20000 in
theorem ggX8_played_X8_fill : GoodIn wsX8_played wsX8_fill := goodIn_r _ [21, 2, 1, 22, 23, 24, 20, 25, 26, 27, 28, 29, 30, 31, 32, 33, 34, 35, 36, 37, 38, 39, 40, 41, 42, 43, 8, 44, 45, 46, 47, 48, 49, 50, 51, 52, 53, 54, 55, 56, 57, 58, 59, 60, 61, 62, 63, 64, 65, 66, 67, 68, 69, 6, 7, 9, 10, 70, 71, 72, 14, 73, 74, 75, 76, 77, 78, 79, 80, 81, 82, 83, 84, 85, 86, 87, 88, 89, 90, 91, 92, 93, 94, 95, 96, 97, 98, 99, 100, 101, 102, 103, 104, 105, 106, 107, 108, 109, 110, 111, 112, 113, 114, 115, 116, 117, 118, 119, 120, 121, 122, 123, 124, 125, 126, 127, 128, 129, 130, 131, 132, 133, 134, 135, 207, 208, 209, 210, 211, 212, 213, 214, 215, 216, 217, 218, 219, 220, 221, 222, 223, 224, 225, 226, 227, 234, 235, 236, 237, 228, 229, 230, 231, 232, 233] (by decide +kernel) (by decide +kernel)
set_option maxRecDepth 20000 in
theorem gX8_played_X8_fill : GoodIn wsX8_played (wsV RX8 158 RX8 yX8_fill wsX8_fill) := goodIn_app (goodIn_of _ (by decide +kernel)) ggX8_played_X8_fill
set_option maxRecDepth 20000 in
theorem ggX8_played_X8_send : GoodIn wsX8_played wsX8_send := goodIn_r _ [139, 2, 140, 141, 142, 143, 32, 144, 145, 146, 147, 148, 149, 150, 30, 31, 33, 34, 35, 36, 37, 38, 39, 114, 115, 116, 117, 118, 119, 120, 121, 122, 123, 124, 125, 126, 127, 151, 152, 153, 154, 155, 128, 129, 130, 131, 132, 133, 134, 135, 207, 208, 209, 210, 211, 212, 213, 214, 215, 216, 217, 218, 219, 220, 221, 222, 223, 224, 225, 226, 227] (by decide +kernel) (by decide +kernel)
set_option maxRecDepth 20000 in
theorem gX8_played_X8_send : GoodIn wsX8_played (wsV RX8 161 RX8 yX8_send wsX8_send) := goodIn_app (goodIn_of _ (by decide +kernel)) ggX8_played_X8_send
set_option maxRecDepth 20000 in
theorem ggX8_played_X8_fatten : GoodIn wsX8_played wsX8_fatten := goodIn_r _ [159, 2, 22, 29, 30, 31, 32, 33, 34, 35, 36, 37, 38, 39, 40, 114, 115, 116, 117, 118, 119, 120, 121, 122, 123, 124, 125, 126, 127, 128, 129, 130, 131, 132, 133, 134, 135, 207, 208, 209, 210, 211, 212, 213, 214, 215, 216, 217, 218, 219, 220, 221, 222, 223, 224, 225, 226, 227] (by decide +kernel) (by decide +kernel)
set_option maxRecDepth 20000 in
theorem gX8_played_X8_fatten : GoodIn wsX8_played (wsV RX8 164 RX8 yX8_fatten wsX8_fatten) := goodIn_app (goodIn_of _ (by decide +kernel)) ggX8_played_X8_fatten
set_option maxRecDepth 20000 in
theorem ggX8_played_X8_pass : GoodIn wsX8_played wsX8_pass := goodIn_r _ [163, 2, 140, 114, 115, 116, 32, 117, 118, 119, 120, 39, 121, 122, 123, 124, 38, 125, 126, 127, 164, 165, 166, 20, 167, 168, 40, 35, 36, 37, 169, 170, 171, 172, 1, 173, 174, 175, 8, 176, 50, 51, 52, 53, 49, 54, 55, 177, 178, 179, 180, 181, 152, 153, 154, 145, 155, 182, 183, 184, 185, 186, 57, 58, 59, 60, 61, 62, 63, 64, 65, 66, 67, 68, 69, 6, 7, 9, 10, 70, 71, 72, 14, 73, 74, 75, 76, 77, 78, 79, 80, 81, 82, 83, 84, 85, 86, 87, 88, 89, 90, 91, 92, 93, 94, 95, 96, 97, 98, 99, 100, 101, 102, 103, 104, 105, 106, 107, 108, 109, 110, 111, 112, 113, 187, 188, 189, 190, 191, 129, 130, 131, 132, 133, 134, 135, 192, 193, 194, 195, 196, 197, 198, 199, 200, 201, 202, 203, 204, 34, 205, 147, 148, 149, 150, 30, 31, 33, 206, 207, 208, 209, 210, 211, 212, 213, 214, 215, 216, 217, 218, 219, 220, 221, 222, 223, 224, 225, 226, 227, 234, 235, 236, 237, 228, 229, 230, 231, 232, 233] (by decide +kernel) (by decide +kernel)
set_option maxRecDepth 20000 in
theorem gX8_played_X8_pass : GoodIn wsX8_played (wsV RX8 168 RX8 yX8_pass wsX8_pass) := goodIn_app (goodIn_of _ (by decide +kernel)) ggX8_played_X8_pass
theorem dX8_played_0 : decode cX8_played 0 = .ok (.aload_n 0, 1) := by decide +kernel
theorem dX8_played_1 : decode cX8_played 1 = .ok (.getfield 43, 3) := by decide +kernel
theorem dX8_played_4 : decode cX8_played 4 = .ok (.iload_n 1, 1) := by decide +kernel
theorem dX8_played_5 : decode cX8_played 5 = .ok (.invokevirtual 129, 3) := by decide +kernel
theorem dX8_played_8 : decode cX8_played 8 = .ok (.astore_n 2, 1) := by decide +kernel
theorem dX8_played_9 : decode cX8_played 9 = .ok (.iload_n 1, 1) := by decide +kernel
theorem dX8_played_10 : decode cX8_played 10 = .ok (.aload_n 0, 1) := by decide +kernel
theorem dX8_played_11 : decode cX8_played 11 = .ok (.getfield 10, 3) := by decide +kernel
theorem dX8_played_14 : decode cX8_played 14 = .ok (.getfield 126, 3) := by decide +kernel
theorem dX8_played_17 : decode cX8_played 17 = .ok (.if_icmp .ge 7, 3) := by decide +kernel
theorem dX8_played_20 : decode cX8_played 20 = .ok (.aload_n 2, 1) := by decide +kernel
theorem dX8_played_21 : decode cX8_played 21 = .ok (.ifnonnull 6, 3) := by decide +kernel
theorem dX8_played_24 : decode cX8_played 24 = .ok (.bipush (-2), 2) := by decide +kernel
theorem dX8_played_26 : decode cX8_played 26 = .ok (.ireturn, 1) := by decide +kernel
theorem dX8_played_27 : decode cX8_played 27 = .ok (.iconst 0, 1) := by decide +kernel
theorem dX8_played_28 : decode cX8_played 28 = .ok (.istore_n 3, 1) := by decide +kernel
theorem dX8_played_29 : decode cX8_played 29 = .ok (.iload_n 3, 1) := by decide +kernel
theorem dX8_played_30 : decode cX8_played 30 = .ok (.aload_n 2, 1) := by decide +kernel
theorem dX8_played_31 : decode cX8_played 31 = .ok (.getfield 150, 3) := by decide +kernel
theorem dX8_played_34 : decode cX8_played 34 = .ok (.if_icmp .ge 126, 3) := by decide +kernel
theorem dX8_played_37 : decode cX8_played 37 = .ok (.aload_n 2, 1) := by decide +kernel
theorem dX8_played_38 : decode cX8_played 38 = .ok (.iload_n 3, 1) := by decide +kernel
theorem dX8_played_39 : decode cX8_played 39 = .ok (.iconst 1, 1) := by decide +kernel
theorem dX8_played_40 : decode cX8_played 40 = .ok (.invokevirtual 155, 3) := by decide +kernel
theorem dX8_played_43 : decode cX8_played 43 = .ok (.istore 4, 2) := by decide +kernel
theorem dX8_played_45 : decode cX8_played 45 = .ok (.aload_n 2, 1) := by decide +kernel
theorem dX8_played_46 : decode cX8_played 46 = .ok (.iload_n 3, 1) := by decide +kernel
theorem dX8_played_47 : decode cX8_played 47 = .ok (.iconst 2, 1) := by decide +kernel
theorem dX8_played_48 : decode cX8_played 48 = .ok (.invokevirtual 155, 3) := by decide +kernel
theorem dX8_played_51 : decode cX8_played 51 = .ok (.istore 5, 2) := by decide +kernel
theorem dX8_played_53 : decode cX8_played 53 = .ok (.iconst 0, 1) := by decide +kernel
theorem dX8_played_54 : decode cX8_played 54 = .ok (.istore 6, 2) := by decide +kernel
theorem dX8_played_56 : decode cX8_played 56 = .ok (.aload_n 2, 1) := by decide +kernel
theorem dX8_played_57 : decode cX8_played 57 = .ok (.iload_n 3, 1) := by decide +kernel
theorem dX8_played_58 : decode cX8_played 58 = .ok (.iconst 0, 1) := by decide +kernel
theorem dX8_played_59 : decode cX8_played 59 = .ok (.invokevirtual 155, 3) := by decide +kernel
theorem dX8_played_62 : decode cX8_played 62 = .ok (.tableswitch 84 20 23 #[30, 49, 62, 73], 30) := by decide +kernel
theorem dX8_played_92 : decode cX8_played 92 = .ok (.aload_n 0, 1) := by decide +kernel
theorem dX8_played_93 : decode cX8_played 93 = .ok (.iload 4, 2) := by decide +kernel
theorem dX8_played_95 : decode cX8_played 95 = .ok (.iload 5, 2) := by decide +kernel
theorem dX8_played_97 : decode cX8_played 97 = .ok (.aload_n 2, 1) := by decide +kernel
theorem dX8_played_98 : decode cX8_played 98 = .ok (.iload_n 3, 1) := by decide +kernel
theorem dX8_played_99 : decode cX8_played 99 = .ok (.iconst 3, 1) := by decide +kernel
theorem dX8_played_100 : decode cX8_played 100 = .ok (.invokevirtual 155, 3) := by decide +kernel
theorem dX8_played_103 : decode cX8_played 103 = .ok (.invokevirtual 158, 3) := by decide +kernel
theorem dX8_played_106 : decode cX8_played 106 = .ok (.istore 6, 2) := by decide +kernel
theorem dX8_played_108 : decode cX8_played 108 = .ok (.goto 38, 3) := by decide +kernel
theorem dX8_played_111 : decode cX8_played 111 = .ok (.aload_n 0, 1) := by decide +kernel
theorem dX8_played_112 : decode cX8_played 112 = .ok (.iload 4, 2) := by decide +kernel
theorem dX8_played_114 : decode cX8_played 114 = .ok (.iload 5, 2) := by decide +kernel
theorem dX8_played_116 : decode cX8_played 116 = .ok (.invokevirtual 161, 3) := by decide +kernel
theorem dX8_played_119 : decode cX8_played 119 = .ok (.istore 6, 2) := by decide +kernel
theorem dX8_played_121 : decode cX8_played 121 = .ok (.goto 25, 3) := by decide +kernel
theorem dX8_played_124 : decode cX8_played 124 = .ok (.aload_n 0, 1) := by decide +kernel
theorem dX8_played_125 : decode cX8_played 125 = .ok (.iload 4, 2) := by decide +kernel
theorem dX8_played_127 : decode cX8_played 127 = .ok (.invokevirtual 164, 3) := by decide +kernel
theorem dX8_played_130 : decode cX8_played 130 = .ok (.istore 6, 2) := by decide +kernel
theorem dX8_played_132 : decode cX8_played 132 = .ok (.goto 14, 3) := by decide +kernel
theorem dX8_played_135 : decode cX8_played 135 = .ok (.aload_n 0, 1) := by decide +kernel
theorem dX8_played_136 : decode cX8_played 136 = .ok (.iload 4, 2) := by decide +kernel
theorem dX8_played_138 : decode cX8_played 138 = .ok (.invokevirtual 168, 3) := by decide +kernel
theorem dX8_played_141 : decode cX8_played 141 = .ok (.istore 6, 2) := by decide +kernel
theorem dX8_played_143 : decode cX8_played 143 = .ok (.goto 3, 3) := by decide +kernel
theorem dX8_played_146 : decode cX8_played 146 = .ok (.iload 6, 2) := by decide +kernel
theorem dX8_played_148 : decode cX8_played 148 = .ok (.iconst (-1), 1) := by decide +kernel
theorem dX8_played_149 : decode cX8_played 149 = .ok (.if_icmp .ne 5, 3) := by decide +kernel
theorem dX8_played_152 : decode cX8_played 152 = .ok (.iload_n 3, 1) := by decide +kernel
theorem dX8_played_153 : decode cX8_played 153 = .ok (.ireturn, 1) := by decide +kernel
theorem dX8_played_154 : decode cX8_played 154 = .ok (.iinc 3 1, 3) := by decide +kernel
theorem dX8_played_157 : decode cX8_played 157 = .ok (.goto (-128), 3) := by decide +kernel
theorem dX8_played_160 : decode cX8_played 160 = .ok (.iconst (-1), 1) := by decide +kernel
theorem dX8_played_161 : decode cX8_played 161 = .ok (.ireturn, 1) := by decide +kernel
set_option maxRecDepth 20000 in
theorem ggX8_undo_X4_takeStepBack : GoodIn wsX8_undo wsX4_takeStepBack := goodIn_r _ [7, 8, 9, 10, 11, 12, 13, 14, 15, 16, 17, 18, 19, 20, 21, 22, 23, 24, 25, 34, 35, 36, 37, 38, 39, 40, 41, 42, 43, 44, 45, 46] (by decide +kernel) (by decide +kernel)
set_option maxRecDepth 20000 in
theorem gX8_undo_X4_takeStepBack : GoodIn wsX8_undo (wsV RX8 171 RX4 yX4_takeStepBack wsX4_takeStepBack) := goodIn_app (goodIn_of _ (by decide +kernel)) ggX8_undo_X4_takeStepBack
theorem dX8_undo_0 : decode cX8_undo 0 = .ok (.aload_n 0, 1) := by decide +kernel
theorem dX8_undo_1 : decode cX8_undo 1 = .ok (.getfield 10, 3) := by decide +kernel
theorem dX8_undo_4 : decode cX8_undo 4 = .ok (.invokevirtual 171, 3) := by decide +kernel
theorem dX8_undo_7 : decode cX8_undo 7 = .ok (.ifCond .eq 13, 3) := by decide +kernel
theorem dX8_undo_10 : decode cX8_undo 10 = .ok (.aload_n 0, 1) := by decide +kernel
theorem dX8_undo_11 : decode cX8_undo 11 = .ok (.getfield 10, 3) := by decide +kernel
theorem dX8_undo_14 : decode cX8_undo 14 = .ok (.getfield 175, 3) := by decide +kernel
theorem dX8_undo_17 : decode cX8_undo 17 = .ok (.goto 4, 3) := by decide +kernel
theorem dX8_undo_20 : decode cX8_undo 20 = .ok (.iconst (-1), 1) := by decide +kernel
theorem dX8_undo_21 : decode cX8_undo 21 = .ok (.ireturn, 1) := by decide +kernel
set_option maxRecDepth 20000 in
theorem ggX8_of_X4_hasGoose : GoodIn wsX8_of wsX4_hasGoose := goodIn_r _ [7, 8, 97, 98, 99, 100, 101, 102, 103, 104, 105, 106, 107, 108, 109] (by decide +kernel) (by decide +kernel)
set_option maxRecDepth 20000 in
theorem gX8_of_X4_hasGoose : GoodIn wsX8_of (wsV RX8 178 RX4 yX4_hasGoose wsX4_hasGoose) := goodIn_app (goodIn_of _ (by decide +kernel)) ggX8_of_X4_hasGoose
set_option maxRecDepth 20000 in
theorem ggX8_of_X1_isTrue : GoodIn wsX8_of wsX1_isTrue := goodIn_r _ [13, 14, 15, 16, 12, 17, 18, 19, 20, 21, 22, 6, 23, 8, 24, 25, 26, 27, 28, 29, 30, 31, 32, 33, 34, 35, 36, 37, 38, 39, 40, 41, 42, 43, 44, 45, 46, 47, 48, 49, 50, 51, 52, 53, 54, 55, 56, 57, 58, 59, 60, 61, 62, 63, 64, 65, 66, 67, 68, 69, 70, 71, 72, 73, 74, 75, 76, 77, 78, 79, 80, 81, 82, 83, 84, 85, 86, 87, 110, 111, 112, 113, 97, 98, 99, 100, 101, 102, 103, 104, 105, 106, 107, 108, 109, 114, 115, 116, 117, 118, 119] (by decide +kernel) (by decide +kernel)
set_option maxRecDepth 20000 in
theorem gX8_of_X1_isTrue : GoodIn wsX8_of (wsV RX8 181 RX1 yX1_isTrue wsX1_isTrue) := goodIn_app (goodIn_of _ (by decide +kernel)) ggX8_of_X1_isTrue
set_option maxRecDepth 20000 in
theorem ggX8_of_X4_ofGoose : GoodIn wsX8_of wsX4_ofGoose := goodIn_r _ [23, 8, 24, 97, 98, 99, 100, 101, 102, 103, 104, 105, 106, 107, 108, 109] (by decide +kernel) (by decide +kernel)
set_option maxRecDepth 20000 in
theorem gX8_of_X4_ofGoose : GoodIn wsX8_of (wsV RX8 90 RX4 yX4_ofGoose wsX4_ofGoose) := goodIn_app (goodIn_of _ (by decide +kernel)) ggX8_of_X4_ofGoose
theorem dX8_of_0 : decode cX8_of 0 = .ok (.aload_n 0, 1) := by decide +kernel
theorem dX8_of_1 : decode cX8_of 1 = .ok (.getfield 10, 3) := by decide +kernel
theorem dX8_of_4 : decode cX8_of 4 = .ok (.iload_n 1, 1) := by decide +kernel
theorem dX8_of_5 : decode cX8_of 5 = .ok (.invokevirtual 178, 3) := by decide +kernel
theorem dX8_of_8 : decode cX8_of 8 = .ok (.ifCond .eq 13, 3) := by decide +kernel
theorem dX8_of_11 : decode cX8_of 11 = .ok (.iload_n 2, 1) := by decide +kernel
theorem dX8_of_12 : decode cX8_of 12 = .ok (.ifCond .lt 9, 3) := by decide +kernel
theorem dX8_of_15 : decode cX8_of 15 = .ok (.iload_n 2, 1) := by decide +kernel
theorem dX8_of_16 : decode cX8_of 16 = .ok (.bipush 9, 2) := by decide +kernel
theorem dX8_of_18 : decode cX8_of 18 = .ok (.if_icmp .le 6, 3) := by decide +kernel
theorem dX8_of_21 : decode cX8_of 21 = .ok (.bipush (-2), 2) := by decide +kernel
theorem dX8_of_23 : decode cX8_of 23 = .ok (.ireturn, 1) := by decide +kernel
theorem dX8_of_24 : decode cX8_of 24 = .ok (.iload_n 2, 1) := by decide +kernel
theorem dX8_of_25 : decode cX8_of 25 = .ok (.bipush 9, 2) := by decide +kernel
theorem dX8_of_27 : decode cX8_of 27 = .ok (.if_icmp .ne 24, 3) := by decide +kernel
theorem dX8_of_30 : decode cX8_of 30 = .ok (.aload_n 0, 1) := by decide +kernel
theorem dX8_of_31 : decode cX8_of 31 = .ok (.getfield 43, 3) := by decide +kernel
theorem dX8_of_34 : decode cX8_of 34 = .ok (.aload_n 0, 1) := by decide +kernel
theorem dX8_of_35 : decode cX8_of 35 = .ok (.getfield 10, 3) := by decide +kernel
theorem dX8_of_38 : decode cX8_of 38 = .ok (.iload_n 1, 1) := by decide +kernel
theorem dX8_of_39 : decode cX8_of 39 = .ok (.invokevirtual 181, 3) := by decide +kernel
theorem dX8_of_42 : decode cX8_of 42 = .ok (.ifCond .eq 7, 3) := by decide +kernel
theorem dX8_of_45 : decode cX8_of 45 = .ok (.iconst 1, 1) := by decide +kernel
theorem dX8_of_46 : decode cX8_of 46 = .ok (.goto 4, 3) := by decide +kernel
theorem dX8_of_49 : decode cX8_of 49 = .ok (.iconst 0, 1) := by decide +kernel
theorem dX8_of_50 : decode cX8_of 50 = .ok (.ireturn, 1) := by decide +kernel
theorem dX8_of_51 : decode cX8_of 51 = .ok (.aload_n 0, 1) := by decide +kernel
theorem dX8_of_52 : decode cX8_of 52 = .ok (.getfield 10, 3) := by decide +kernel
theorem dX8_of_55 : decode cX8_of 55 = .ok (.iload_n 1, 1) := by decide +kernel
theorem dX8_of_56 : decode cX8_of 56 = .ok (.iload_n 2, 1) := by decide +kernel
theorem dX8_of_57 : decode cX8_of 57 = .ok (.invokevirtual 90, 3) := by decide +kernel
theorem dX8_of_60 : decode cX8_of 60 = .ok (.ireturn, 1) := by decide +kernel
set_option maxRecDepth 20000 in
theorem ggX8_ink_X4_hasGoose : GoodIn wsX8_ink wsX4_hasGoose := goodIn_r _ [7, 8, 107, 108, 109, 110, 111, 112, 113, 114, 115, 116, 117, 118, 119] (by decide +kernel) (by decide +kernel)
set_option maxRecDepth 20000 in
theorem gX8_ink_X4_hasGoose : GoodIn wsX8_ink (wsV RX8 178 RX4 yX4_hasGoose wsX4_hasGoose) := goodIn_app (goodIn_of _ (by decide +kernel)) ggX8_ink_X4_hasGoose
set_option maxRecDepth 20000 in
theorem ggX8_ink_X8_isQuill : GoodIn wsX8_ink wsX8_isQuill := goodIn_r _ [12, 13, 14, 11, 15] (by decide +kernel) (by decide +kernel)
set_option maxRecDepth 20000 in
theorem gX8_ink_X8_isQuill : GoodIn wsX8_ink (va_wsS RX8 83 yX8_isQuill wsX8_isQuill) := goodIn_app (goodIn_of _ (by decide +kernel)) ggX8_ink_X8_isQuill
set_option maxRecDepth 20000 in
theorem ggX8_ink_X1_inkCost : GoodIn wsX8_ink wsX1_inkCost := goodIn_r _ [20, 21, 22, 23, 19, 24, 25, 26, 27, 28, 29, 30, 31, 32, 33, 6, 34, 8, 35, 36, 37, 38, 39, 40, 41, 42, 43, 44, 45, 46, 47, 48, 49, 50, 51, 52, 53, 54, 55, 56, 57, 58, 59, 60, 61, 62, 63, 64, 65, 66, 67, 68, 69, 70, 71, 72, 73, 74, 75, 76, 77, 78, 79, 80, 81, 82, 83, 84, 85, 86, 87, 88, 89, 90, 91, 92, 93, 94, 95, 96, 97, 98, 120, 121, 122, 123, 107, 108, 109, 110, 111, 112, 113, 114, 115, 116, 117, 118, 119, 124, 125, 126, 127, 128, 129] (by decide +kernel) (by decide +kernel)
set_option maxRecDepth 20000 in
theorem gX8_ink_X1_inkCost : GoodIn wsX8_ink (wsV RX8 93 RX1 yX1_inkCost wsX1_inkCost) := goodIn_app (goodIn_of _ (by decide +kernel)) ggX8_ink_X1_inkCost
theorem dX8_ink_0 : decode cX8_ink 0 = .ok (.aload_n 0, 1) := by decide +kernel
theorem dX8_ink_1 : decode cX8_ink 1 = .ok (.getfield 10, 3) := by decide +kernel
theorem dX8_ink_4 : decode cX8_ink 4 = .ok (.iload_n 1, 1) := by decide +kernel
theorem dX8_ink_5 : decode cX8_ink 5 = .ok (.invokevirtual 178, 3) := by decide +kernel
theorem dX8_ink_8 : decode cX8_ink 8 = .ok (.ifCond .eq 11, 3) := by decide +kernel
theorem dX8_ink_11 : decode cX8_ink 11 = .ok (.iload_n 2, 1) := by decide +kernel
theorem dX8_ink_12 : decode cX8_ink 12 = .ok (.iload_n 3, 1) := by decide +kernel
theorem dX8_ink_13 : decode cX8_ink 13 = .ok (.invokestatic 83, 3) := by decide +kernel
theorem dX8_ink_16 : decode cX8_ink 16 = .ok (.ifCond .ne 5, 3) := by decide +kernel
theorem dX8_ink_19 : decode cX8_ink 19 = .ok (.iconst (-1), 1) := by decide +kernel
theorem dX8_ink_20 : decode cX8_ink 20 = .ok (.ireturn, 1) := by decide +kernel
theorem dX8_ink_21 : decode cX8_ink 21 = .ok (.aload_n 0, 1) := by decide +kernel
theorem dX8_ink_22 : decode cX8_ink 22 = .ok (.getfield 43, 3) := by decide +kernel
theorem dX8_ink_25 : decode cX8_ink 25 = .ok (.aload_n 0, 1) := by decide +kernel
theorem dX8_ink_26 : decode cX8_ink 26 = .ok (.getfield 10, 3) := by decide +kernel
theorem dX8_ink_29 : decode cX8_ink 29 = .ok (.iload_n 1, 1) := by decide +kernel
theorem dX8_ink_30 : decode cX8_ink 30 = .ok (.iload_n 2, 1) := by decide +kernel
theorem dX8_ink_31 : decode cX8_ink 31 = .ok (.iload_n 3, 1) := by decide +kernel
theorem dX8_ink_32 : decode cX8_ink 32 = .ok (.invokevirtual 93, 3) := by decide +kernel
theorem dX8_ink_35 : decode cX8_ink 35 = .ok (.ireturn, 1) := by decide +kernel
set_option maxRecDepth 20000 in
theorem ggX8_known_X8_isLetter : GoodIn wsX8_known wsX8_isLetter := goodIn_r _ [4] (by decide +kernel) (by decide +kernel)
set_option maxRecDepth 20000 in
theorem gX8_known_X8_isLetter : GoodIn wsX8_known (va_wsS RX8 185 yX8_isLetter wsX8_isLetter) := goodIn_app (goodIn_of _ (by decide +kernel)) ggX8_known_X8_isLetter
set_option maxRecDepth 20000 in
theorem ggX8_known_X8_halvesHad : GoodIn wsX8_known wsX8_halvesHad := goodIn_r _ [8, 9, 10, 11, 12, 13, 14, 15, 16, 17, 18, 19, 20, 3, 21, 22, 23, 24, 25, 26, 27, 28, 29, 30, 31, 32, 33, 34, 35, 36, 37, 38, 39, 40, 41, 42, 43, 44, 45, 46, 47, 48, 49, 50, 51, 52, 53, 54, 55, 56, 57, 58, 59, 60, 61, 62, 63, 64, 65, 66, 67, 68, 69, 70, 71, 72, 73, 74, 75, 76, 77, 78, 79, 80, 81, 82, 83, 84, 85, 86, 87, 88, 89, 90, 91, 92, 93, 94, 95, 96, 97, 98, 99, 100, 101, 102, 103, 104, 105, 106, 107, 108, 109, 110, 111, 112, 113, 114, 115, 116, 117, 118, 119, 120, 121, 122, 123, 124, 125, 126, 127, 128, 129, 130, 131] (by decide +kernel) (by decide +kernel)
set_option maxRecDepth 20000 in
theorem gX8_known_X8_halvesHad : GoodIn wsX8_known (wsV RX8 188 RX8 yX8_halvesHad wsX8_halvesHad) := goodIn_app (goodIn_of _ (by decide +kernel)) ggX8_known_X8_halvesHad
theorem dX8_known_0 : decode cX8_known 0 = .ok (.iload_n 1, 1) := by decide +kernel
theorem dX8_known_1 : decode cX8_known 1 = .ok (.invokestatic 185, 3) := by decide +kernel
theorem dX8_known_4 : decode cX8_known 4 = .ok (.ifCond .eq 14, 3) := by decide +kernel
theorem dX8_known_7 : decode cX8_known 7 = .ok (.iload_n 2, 1) := by decide +kernel
theorem dX8_known_8 : decode cX8_known 8 = .ok (.ifCond .lt 10, 3) := by decide +kernel
theorem dX8_known_11 : decode cX8_known 11 = .ok (.iload_n 2, 1) := by decide +kernel
theorem dX8_known_12 : decode cX8_known 12 = .ok (.sipush 999, 3) := by decide +kernel
theorem dX8_known_15 : decode cX8_known 15 = .ok (.if_icmp .le 5, 3) := by decide +kernel
theorem dX8_known_18 : decode cX8_known 18 = .ok (.iconst (-1), 1) := by decide +kernel
theorem dX8_known_19 : decode cX8_known 19 = .ok (.ireturn, 1) := by decide +kernel
theorem dX8_known_20 : decode cX8_known 20 = .ok (.aload_n 0, 1) := by decide +kernel
theorem dX8_known_21 : decode cX8_known 21 = .ok (.iload_n 1, 1) := by decide +kernel
theorem dX8_known_22 : decode cX8_known 22 = .ok (.iconst 0, 1) := by decide +kernel
theorem dX8_known_23 : decode cX8_known 23 = .ok (.iload_n 2, 1) := by decide +kernel
theorem dX8_known_24 : decode cX8_known 24 = .ok (.bipush 10, 2) := by decide +kernel
theorem dX8_known_26 : decode cX8_known 26 = .ok (.invokevirtual 188, 3) := by decide +kernel
theorem dX8_known_29 : decode cX8_known 29 = .ok (.iconst 3, 1) := by decide +kernel
theorem dX8_known_30 : decode cX8_known 30 = .ok (.if_icmp .ne 7, 3) := by decide +kernel
theorem dX8_known_33 : decode cX8_known 33 = .ok (.iconst 1, 1) := by decide +kernel
theorem dX8_known_34 : decode cX8_known 34 = .ok (.goto 4, 3) := by decide +kernel
theorem dX8_known_37 : decode cX8_known 37 = .ok (.iconst 0, 1) := by decide +kernel
theorem dX8_known_38 : decode cX8_known 38 = .ok (.istore_n 3, 1) := by decide +kernel
theorem dX8_known_39 : decode cX8_known 39 = .ok (.aload_n 0, 1) := by decide +kernel
theorem dX8_known_40 : decode cX8_known 40 = .ok (.iload_n 1, 1) := by decide +kernel
theorem dX8_known_41 : decode cX8_known 41 = .ok (.iconst 1, 1) := by decide +kernel
theorem dX8_known_42 : decode cX8_known 42 = .ok (.iload_n 2, 1) := by decide +kernel
theorem dX8_known_43 : decode cX8_known 43 = .ok (.bipush 10, 2) := by decide +kernel
theorem dX8_known_45 : decode cX8_known 45 = .ok (.invokevirtual 188, 3) := by decide +kernel
theorem dX8_known_48 : decode cX8_known 48 = .ok (.iconst 3, 1) := by decide +kernel
theorem dX8_known_49 : decode cX8_known 49 = .ok (.if_icmp .ne 7, 3) := by decide +kernel
theorem dX8_known_52 : decode cX8_known 52 = .ok (.iconst 2, 1) := by decide +kernel
theorem dX8_known_53 : decode cX8_known 53 = .ok (.goto 4, 3) := by decide +kernel
theorem dX8_known_56 : decode cX8_known 56 = .ok (.iconst 0, 1) := by decide +kernel
theorem dX8_known_57 : decode cX8_known 57 = .ok (.istore 4, 2) := by decide +kernel
theorem dX8_known_59 : decode cX8_known 59 = .ok (.iload_n 3, 1) := by decide +kernel
theorem dX8_known_60 : decode cX8_known 60 = .ok (.iload 4, 2) := by decide +kernel
theorem dX8_known_62 : decode cX8_known 62 = .ok (.iadd, 1) := by decide +kernel
theorem dX8_known_63 : decode cX8_known 63 = .ok (.ireturn, 1) := by decide +kernel
set_option maxRecDepth 20000 in
theorem ggX8_led_X8_isLetter : GoodIn wsX8_led wsX8_isLetter := goodIn_r _ [6] (by decide +kernel) (by decide +kernel)
set_option maxRecDepth 20000 in
theorem gX8_led_X8_isLetter : GoodIn wsX8_led (va_wsS RX8 185 yX8_isLetter wsX8_isLetter) := goodIn_app (goodIn_of _ (by decide +kernel)) ggX8_led_X8_isLetter
set_option maxRecDepth 20000 in
theorem ggX8_led_X4_ofGoose : GoodIn wsX8_led wsX4_ofGoose := goodIn_r _ [11, 12, 13, 109, 110, 111, 112, 113, 114, 115, 116, 117, 118, 119, 120, 121] (by decide +kernel) (by decide +kernel)
set_option maxRecDepth 20000 in
theorem gX8_led_X4_ofGoose : GoodIn wsX8_led (wsV RX8 90 RX4 yX4_ofGoose wsX4_ofGoose) := goodIn_app (goodIn_of _ (by decide +kernel)) ggX8_led_X4_ofGoose
set_option maxRecDepth 20000 in
theorem ggX8_led_X8_tells : GoodIn wsX8_led wsX8_tells := goodIn_r _ [17, 1, 18, 7, 8, 9, 10, 11, 12, 13, 19, 20, 21, 22, 23, 24, 25, 26, 27, 28, 29, 30, 31, 32, 33, 34, 35, 36, 37, 38, 39, 40, 41, 42, 43, 44, 45, 46, 47, 48, 49, 50, 51, 52, 53, 54, 55, 56, 57, 58, 59, 60, 61, 62, 63, 64, 65, 66, 67, 68, 69, 70, 71, 72, 73, 74, 75, 76, 77, 78, 79, 80, 81, 82, 83, 84, 85, 86, 87, 88, 89, 90, 91, 92, 93, 101, 102, 103, 104, 105, 106, 107, 108, 109, 110, 111, 112, 113, 114, 115, 116, 117, 118, 119, 120, 121, 122, 123, 124, 125, 126, 127, 128, 129, 130, 131] (by decide +kernel) (by decide +kernel)
set_option maxRecDepth 20000 in
theorem gX8_led_X8_tells : GoodIn wsX8_led (wsV RX8 195 RX8 yX8_tells wsX8_tells) := goodIn_app (goodIn_of _ (by decide +kernel)) ggX8_led_X8_tells
set_option maxRecDepth 20000 in
theorem ggX8_led_X8_halvesHad : GoodIn wsX8_led wsX8_halvesHad := goodIn_r _ [97, 1, 2, 7, 8, 9, 10, 11, 12, 13, 14, 15, 16, 5, 17, 18, 19, 20, 21, 22, 23, 24, 25, 26, 27, 28, 29, 30, 31, 32, 33, 34, 35, 36, 37, 38, 39, 40, 41, 42, 43, 44, 45, 46, 47, 48, 49, 50, 51, 52, 53, 54, 55, 56, 57, 58, 59, 60, 61, 62, 63, 64, 65, 66, 67, 68, 69, 70, 71, 72, 73, 74, 75, 76, 77, 78, 79, 80, 81, 82, 83, 84, 85, 86, 87, 88, 89, 90, 91, 92, 93, 98, 99, 100, 101, 102, 103, 104, 105, 106, 107, 108, 109, 110, 111, 112, 113, 114, 115, 116, 117, 118, 119, 120, 121, 122, 123, 124, 125, 126, 127, 128, 129, 130, 131] (by decide +kernel) (by decide +kernel)
set_option maxRecDepth 20000 in
theorem gX8_led_X8_halvesHad : GoodIn wsX8_led (wsV RX8 188 RX8 yX8_halvesHad wsX8_halvesHad) := goodIn_app (goodIn_of _ (by decide +kernel)) ggX8_led_X8_halvesHad
theorem dX8_led_0 : decode cX8_led 0 = .ok (.iconst (-1), 1) := by decide +kernel
theorem dX8_led_1 : decode cX8_led 1 = .ok (.istore_n 3, 1) := by decide +kernel
theorem dX8_led_2 : decode cX8_led 2 = .ok (.iload_n 1, 1) := by decide +kernel
theorem dX8_led_3 : decode cX8_led 3 = .ok (.invokestatic 185, 3) := by decide +kernel
theorem dX8_led_6 : decode cX8_led 6 = .ok (.ifCond .ne 5, 3) := by decide +kernel
theorem dX8_led_9 : decode cX8_led 9 = .ok (.iload_n 3, 1) := by decide +kernel
theorem dX8_led_10 : decode cX8_led 10 = .ok (.ireturn, 1) := by decide +kernel
theorem dX8_led_11 : decode cX8_led 11 = .ok (.iconst 0, 1) := by decide +kernel
theorem dX8_led_12 : decode cX8_led 12 = .ok (.istore 4, 2) := by decide +kernel
theorem dX8_led_14 : decode cX8_led 14 = .ok (.iload 4, 2) := by decide +kernel
theorem dX8_led_16 : decode cX8_led 16 = .ok (.aload_n 0, 1) := by decide +kernel
theorem dX8_led_17 : decode cX8_led 17 = .ok (.getfield 10, 3) := by decide +kernel
theorem dX8_led_20 : decode cX8_led 20 = .ok (.getfield 192, 3) := by decide +kernel
theorem dX8_led_23 : decode cX8_led 23 = .ok (.if_icmp .ge 84, 3) := by decide +kernel
theorem dX8_led_26 : decode cX8_led 26 = .ok (.aload_n 0, 1) := by decide +kernel
theorem dX8_led_27 : decode cX8_led 27 = .ok (.getfield 10, 3) := by decide +kernel
theorem dX8_led_30 : decode cX8_led 30 = .ok (.iload 4, 2) := by decide +kernel
theorem dX8_led_32 : decode cX8_led 32 = .ok (.bipush 7, 2) := by decide +kernel
theorem dX8_led_34 : decode cX8_led 34 = .ok (.invokevirtual 90, 3) := by decide +kernel
theorem dX8_led_37 : decode cX8_led 37 = .ok (.istore 5, 2) := by decide +kernel
theorem dX8_led_39 : decode cX8_led 39 = .ok (.iload_n 3, 1) := by decide +kernel
theorem dX8_led_40 : decode cX8_led 40 = .ok (.iconst (-1), 1) := by decide +kernel
theorem dX8_led_41 : decode cX8_led 41 = .ok (.if_icmp .eq 18, 3) := by decide +kernel
theorem dX8_led_44 : decode cX8_led 44 = .ok (.iload 5, 2) := by decide +kernel
theorem dX8_led_46 : decode cX8_led 46 = .ok (.aload_n 0, 1) := by decide +kernel
theorem dX8_led_47 : decode cX8_led 47 = .ok (.getfield 10, 3) := by decide +kernel
theorem dX8_led_50 : decode cX8_led 50 = .ok (.iload_n 3, 1) := by decide +kernel
theorem dX8_led_51 : decode cX8_led 51 = .ok (.bipush 7, 2) := by decide +kernel
theorem dX8_led_53 : decode cX8_led 53 = .ok (.invokevirtual 90, 3) := by decide +kernel
theorem dX8_led_56 : decode cX8_led 56 = .ok (.if_icmp .ge 7, 3) := by decide +kernel
theorem dX8_led_59 : decode cX8_led 59 = .ok (.iconst 1, 1) := by decide +kernel
theorem dX8_led_60 : decode cX8_led 60 = .ok (.goto 4, 3) := by decide +kernel
theorem dX8_led_63 : decode cX8_led 63 = .ok (.iconst 0, 1) := by decide +kernel
theorem dX8_led_64 : decode cX8_led 64 = .ok (.istore 6, 2) := by decide +kernel
theorem dX8_led_66 : decode cX8_led 66 = .ok (.iload 6, 2) := by decide +kernel
theorem dX8_led_68 : decode cX8_led 68 = .ok (.ifCond .eq 33, 3) := by decide +kernel
theorem dX8_led_71 : decode cX8_led 71 = .ok (.aload_n 0, 1) := by decide +kernel
theorem dX8_led_72 : decode cX8_led 72 = .ok (.iload 4, 2) := by decide +kernel
theorem dX8_led_74 : decode cX8_led 74 = .ok (.iload_n 1, 1) := by decide +kernel
theorem dX8_led_75 : decode cX8_led 75 = .ok (.iload_n 2, 1) := by decide +kernel
theorem dX8_led_76 : decode cX8_led 76 = .ok (.invokevirtual 195, 3) := by decide +kernel
theorem dX8_led_79 : decode cX8_led 79 = .ok (.ifCond .eq 22, 3) := by decide +kernel
theorem dX8_led_82 : decode cX8_led 82 = .ok (.aload_n 0, 1) := by decide +kernel
theorem dX8_led_83 : decode cX8_led 83 = .ok (.iload_n 1, 1) := by decide +kernel
theorem dX8_led_84 : decode cX8_led 84 = .ok (.iload_n 2, 1) := by decide +kernel
theorem dX8_led_85 : decode cX8_led 85 = .ok (.iload 5, 2) := by decide +kernel
theorem dX8_led_87 : decode cX8_led 87 = .ok (.iload 4, 2) := by decide +kernel
theorem dX8_led_89 : decode cX8_led 89 = .ok (.iconst 1, 1) := by decide +kernel
theorem dX8_led_90 : decode cX8_led 90 = .ok (.iadd, 1) := by decide +kernel
theorem dX8_led_91 : decode cX8_led 91 = .ok (.invokevirtual 188, 3) := by decide +kernel
theorem dX8_led_94 : decode cX8_led 94 = .ok (.iconst 3, 1) := by decide +kernel
theorem dX8_led_95 : decode cX8_led 95 = .ok (.if_icmp .ne 6, 3) := by decide +kernel
theorem dX8_led_98 : decode cX8_led 98 = .ok (.iload 4, 2) := by decide +kernel
theorem dX8_led_100 : decode cX8_led 100 = .ok (.istore_n 3, 1) := by decide +kernel
theorem dX8_led_101 : decode cX8_led 101 = .ok (.iinc 4 1, 3) := by decide +kernel
theorem dX8_led_104 : decode cX8_led 104 = .ok (.goto (-90), 3) := by decide +kernel
theorem dX8_led_107 : decode cX8_led 107 = .ok (.iload_n 3, 1) := by decide +kernel
theorem dX8_led_108 : decode cX8_led 108 = .ok (.ireturn, 1) := by decide +kernel
set_option maxRecDepth 20000 in
theorem ggX8_answer_X8_led : GoodIn wsX8_answer wsX8_led := goodIn_r _ [6, 1, 7, 8, 9, 5, 10, 11, 12, 13, 14, 15, 16, 17, 18, 19, 20, 21, 22, 23, 24, 25, 26, 27, 28, 29, 30, 31, 32, 33, 34, 35, 36, 37, 38, 39, 40, 41, 42, 43, 44, 45, 46, 47, 48, 49, 50, 51, 52, 53, 54, 55, 56, 57, 58, 59, 60, 61, 62, 63, 64, 65, 66, 67, 68, 69, 70, 71, 72, 73, 74, 75, 76, 77, 78, 79, 80, 81, 82, 83, 84, 85, 86, 87, 88, 89, 90, 91, 92, 93, 94, 95, 96, 97, 98, 99, 100, 101, 102, 103, 104, 111, 112, 113, 114, 115, 116, 117, 118, 119, 120, 121, 122, 123, 124, 125, 126, 127, 128, 129, 130, 131, 132, 133, 134, 135, 136, 137, 138, 139, 140, 141] (by decide +kernel) (by decide +kernel)
set_option maxRecDepth 20000 in
theorem gX8_answer_X8_led : GoodIn wsX8_answer (wsV RX8 199 RX8 yX8_led wsX8_led) := goodIn_app (goodIn_of _ (by decide +kernel)) ggX8_answer_X8_led
set_option maxRecDepth 20000 in
theorem ggX8_answer_X4_ofGoose : GoodIn wsX8_answer wsX4_ofGoose := goodIn_r _ [15, 16, 17, 119, 120, 121, 122, 123, 124, 125, 126, 127, 128, 129, 130, 131] (by decide +kernel) (by decide +kernel)
set_option maxRecDepth 20000 in
theorem gX8_answer_X4_ofGoose : GoodIn wsX8_answer (wsV RX8 90 RX4 yX4_ofGoose wsX4_ofGoose) := goodIn_app (goodIn_of _ (by decide +kernel)) ggX8_answer_X4_ofGoose
set_option maxRecDepth 20000 in
theorem ggX8_answer_X4_ofMarket : GoodIn wsX8_answer wsX4_ofMarket := goodIn_r _ [108, 109, 110, 119, 120, 121, 122, 123, 124, 125, 126, 127, 128, 129, 130, 131] (by decide +kernel) (by decide +kernel)
set_option maxRecDepth 20000 in
theorem gX8_answer_X4_ofMarket : GoodIn wsX8_answer (wsV RX8 113 RX4 yX4_ofMarket wsX4_ofMarket) := goodIn_app (goodIn_of _ (by decide +kernel)) ggX8_answer_X4_ofMarket
theorem dX8_answer_0 : decode cX8_answer 0 = .ok (.aload_n 0, 1) := by decide +kernel
theorem dX8_answer_1 : decode cX8_answer 1 = .ok (.iload_n 1, 1) := by decide +kernel
theorem dX8_answer_2 : decode cX8_answer 2 = .ok (.iconst 0, 1) := by decide +kernel
theorem dX8_answer_3 : decode cX8_answer 3 = .ok (.invokevirtual 199, 3) := by decide +kernel
theorem dX8_answer_6 : decode cX8_answer 6 = .ok (.istore_n 2, 1) := by decide +kernel
theorem dX8_answer_7 : decode cX8_answer 7 = .ok (.iload_n 2, 1) := by decide +kernel
theorem dX8_answer_8 : decode cX8_answer 8 = .ok (.iconst (-1), 1) := by decide +kernel
theorem dX8_answer_9 : decode cX8_answer 9 = .ok (.if_icmp .ne 5, 3) := by decide +kernel
theorem dX8_answer_12 : decode cX8_answer 12 = .ok (.iconst (-1), 1) := by decide +kernel
theorem dX8_answer_13 : decode cX8_answer 13 = .ok (.ireturn, 1) := by decide +kernel
theorem dX8_answer_14 : decode cX8_answer 14 = .ok (.aload_n 0, 1) := by decide +kernel
theorem dX8_answer_15 : decode cX8_answer 15 = .ok (.getfield 10, 3) := by decide +kernel
theorem dX8_answer_18 : decode cX8_answer 18 = .ok (.iload_n 2, 1) := by decide +kernel
theorem dX8_answer_19 : decode cX8_answer 19 = .ok (.bipush 7, 2) := by decide +kernel
theorem dX8_answer_21 : decode cX8_answer 21 = .ok (.invokevirtual 90, 3) := by decide +kernel
theorem dX8_answer_24 : decode cX8_answer 24 = .ok (.aload_n 0, 1) := by decide +kernel
theorem dX8_answer_25 : decode cX8_answer 25 = .ok (.getfield 10, 3) := by decide +kernel
theorem dX8_answer_28 : decode cX8_answer 28 = .ok (.aload_n 0, 1) := by decide +kernel
theorem dX8_answer_29 : decode cX8_answer 29 = .ok (.getfield 10, 3) := by decide +kernel
theorem dX8_answer_32 : decode cX8_answer 32 = .ok (.iload_n 2, 1) := by decide +kernel
theorem dX8_answer_33 : decode cX8_answer 33 = .ok (.iconst 5, 1) := by decide +kernel
theorem dX8_answer_34 : decode cX8_answer 34 = .ok (.invokevirtual 90, 3) := by decide +kernel
theorem dX8_answer_37 : decode cX8_answer 37 = .ok (.iconst 0, 1) := by decide +kernel
theorem dX8_answer_38 : decode cX8_answer 38 = .ok (.invokevirtual 113, 3) := by decide +kernel
theorem dX8_answer_41 : decode cX8_answer 41 = .ok (.iadd, 1) := by decide +kernel
theorem dX8_answer_42 : decode cX8_answer 42 = .ok (.ireturn, 1) := by decide +kernel
set_option maxRecDepth 20000 in
theorem ggX8_plucks_X4_ofGoose : GoodIn wsX8_plucks wsX4_ofGoose := goodIn_r _ [7, 8, 9, 93, 94, 95, 96, 97, 98, 99, 100, 101, 102, 103, 104, 105] (by decide +kernel) (by decide +kernel)
set_option maxRecDepth 20000 in
theorem gX8_plucks_X4_ofGoose : GoodIn wsX8_plucks (wsV RX8 90 RX4 yX4_ofGoose wsX4_ofGoose) := goodIn_app (goodIn_of _ (by decide +kernel)) ggX8_plucks_X4_ofGoose
set_option maxRecDepth 20000 in
theorem ggX8_plucks_X1_isTrueWith : GoodIn wsX8_plucks wsX1_isTrueWith := goodIn_r _ [14, 15, 16, 17, 18, 13, 19, 20, 21, 4, 5, 6, 7, 8, 9, 22, 23, 24, 25, 26, 27, 28, 29, 30, 31, 32, 33, 34, 35, 36, 37, 38, 39, 40, 41, 42, 43, 44, 45, 46, 47, 48, 49, 50, 51, 52, 53, 54, 55, 56, 57, 58, 59, 60, 61, 62, 63, 64, 65, 66, 67, 68, 69, 70, 71, 72, 73, 74, 75, 76, 77, 78, 79, 80, 81, 82, 83, 84, 106, 107, 108, 109, 93, 94, 95, 96, 97, 98, 99, 100, 101, 102, 103, 104, 105, 110, 111, 112, 113, 114, 115] (by decide +kernel) (by decide +kernel)
set_option maxRecDepth 20000 in
theorem gX8_plucks_X1_isTrueWith : GoodIn wsX8_plucks (wsV RX8 203 RX1 yX1_isTrueWith wsX1_isTrueWith) := goodIn_app (goodIn_of _ (by decide +kernel)) ggX8_plucks_X1_isTrueWith
theorem dX8_plucks_0 : decode cX8_plucks 0 = .ok (.aload_n 0, 1) := by decide +kernel
theorem dX8_plucks_1 : decode cX8_plucks 1 = .ok (.getfield 10, 3) := by decide +kernel
theorem dX8_plucks_4 : decode cX8_plucks 4 = .ok (.iload_n 1, 1) := by decide +kernel
theorem dX8_plucks_5 : decode cX8_plucks 5 = .ok (.iconst 1, 1) := by decide +kernel
theorem dX8_plucks_6 : decode cX8_plucks 6 = .ok (.invokevirtual 90, 3) := by decide +kernel
theorem dX8_plucks_9 : decode cX8_plucks 9 = .ok (.istore_n 2, 1) := by decide +kernel
theorem dX8_plucks_10 : decode cX8_plucks 10 = .ok (.iconst 0, 1) := by decide +kernel
theorem dX8_plucks_11 : decode cX8_plucks 11 = .ok (.istore_n 3, 1) := by decide +kernel
theorem dX8_plucks_12 : decode cX8_plucks 12 = .ok (.iload_n 3, 1) := by decide +kernel
theorem dX8_plucks_13 : decode cX8_plucks 13 = .ok (.iload_n 2, 1) := by decide +kernel
theorem dX8_plucks_14 : decode cX8_plucks 14 = .ok (.if_icmp .gt 29, 3) := by decide +kernel
theorem dX8_plucks_17 : decode cX8_plucks 17 = .ok (.aload_n 0, 1) := by decide +kernel
theorem dX8_plucks_18 : decode cX8_plucks 18 = .ok (.getfield 43, 3) := by decide +kernel
theorem dX8_plucks_21 : decode cX8_plucks 21 = .ok (.aload_n 0, 1) := by decide +kernel
theorem dX8_plucks_22 : decode cX8_plucks 22 = .ok (.getfield 10, 3) := by decide +kernel
theorem dX8_plucks_25 : decode cX8_plucks 25 = .ok (.iload_n 1, 1) := by decide +kernel
theorem dX8_plucks_26 : decode cX8_plucks 26 = .ok (.iload_n 2, 1) := by decide +kernel
theorem dX8_plucks_27 : decode cX8_plucks 27 = .ok (.iload_n 3, 1) := by decide +kernel
theorem dX8_plucks_28 : decode cX8_plucks 28 = .ok (.isub, 1) := by decide +kernel
theorem dX8_plucks_29 : decode cX8_plucks 29 = .ok (.invokevirtual 203, 3) := by decide +kernel
theorem dX8_plucks_32 : decode cX8_plucks 32 = .ok (.ifCond .eq 5, 3) := by decide +kernel
theorem dX8_plucks_35 : decode cX8_plucks 35 = .ok (.iload_n 3, 1) := by decide +kernel
theorem dX8_plucks_36 : decode cX8_plucks 36 = .ok (.ireturn, 1) := by decide +kernel
theorem dX8_plucks_37 : decode cX8_plucks 37 = .ok (.iinc 3 1, 3) := by decide +kernel
theorem dX8_plucks_40 : decode cX8_plucks 40 = .ok (.goto (-28), 3) := by decide +kernel
theorem dX8_plucks_43 : decode cX8_plucks 43 = .ok (.iconst (-1), 1) := by decide +kernel
theorem dX8_plucks_44 : decode cX8_plucks 44 = .ok (.ireturn, 1) := by decide +kernel
set_option maxRecDepth 20000 in
theorem ggX8_odds_X8_isLetter : GoodIn wsX8_odds wsX8_isLetter := goodIn_r _ [11] (by decide +kernel) (by decide +kernel)
set_option maxRecDepth 20000 in
theorem gX8_odds_X8_isLetter : GoodIn wsX8_odds (va_wsS RX8 185 yX8_isLetter wsX8_isLetter) := goodIn_app (goodIn_of _ (by decide +kernel)) ggX8_odds_X8_isLetter
set_option maxRecDepth 20000 in
theorem ggX8_odds_X8_halvesHad : GoodIn wsX8_odds wsX8_halvesHad := goodIn_r _ [15, 3, 4, 16, 17, 18, 19, 20, 21, 22, 23, 24, 25, 10, 26, 5, 27, 28, 29, 30, 31, 32, 33, 34, 35, 36, 37, 38, 39, 40, 41, 42, 43, 44, 45, 46, 47, 48, 49, 50, 51, 52, 53, 54, 55, 56, 57, 58, 59, 60, 61, 62, 63, 64, 65, 66, 67, 68, 69, 70, 71, 72, 73, 74, 75, 76, 77, 78, 79, 80, 81, 82, 83, 84, 85, 86, 87, 88, 89, 90, 91, 92, 93, 94, 95, 96, 97, 98, 99, 100, 101, 102, 103, 104, 147, 148, 149, 150, 151, 152, 153, 154, 155, 156, 157, 158, 159, 160, 161, 162, 163, 164, 165, 166, 167, 172, 173, 174, 175, 176, 177, 178, 179, 180, 181] (by decide +kernel) (by decide +kernel)
set_option maxRecDepth 20000 in
theorem gX8_odds_X8_halvesHad : GoodIn wsX8_odds (wsV RX8 188 RX8 yX8_halvesHad wsX8_halvesHad) := goodIn_app (goodIn_of _ (by decide +kernel)) ggX8_odds_X8_halvesHad
set_option maxRecDepth 20000 in
theorem ggX8_odds_X0_begin : GoodIn wsX8_odds wsX0_begin := goodIn_r _ [109, 110, 111, 112, 168, 169, 170, 171] (by decide +kernel) (by decide +kernel)
set_option maxRecDepth 20000 in
theorem gX8_odds_X0_begin : GoodIn wsX8_odds (wsV RX8 209 RX0 yX0_begin wsX0_begin) := goodIn_app (goodIn_of _ (by decide +kernel)) ggX8_odds_X0_begin
set_option maxRecDepth 20000 in
theorem ggX8_odds_X4_ofGoose : GoodIn wsX8_odds wsX4_ofGoose := goodIn_r _ [20, 21, 22, 155, 156, 157, 158, 159, 160, 161, 162, 163, 164, 165, 166, 167] (by decide +kernel) (by decide +kernel)
set_option maxRecDepth 20000 in
theorem gX8_odds_X4_ofGoose : GoodIn wsX8_odds (wsV RX8 90 RX4 yX4_ofGoose wsX4_ofGoose) := goodIn_app (goodIn_of _ (by decide +kernel)) ggX8_odds_X4_ofGoose
set_option maxRecDepth 20000 in
theorem ggX8_odds_X0_add : GoodIn wsX8_odds wsX0_add := goodIn_r _ [116, 110, 117, 112, 118, 119, 120, 121, 111, 122, 123, 17, 18, 19, 20, 21, 22, 103, 10, 104, 124, 28, 29, 30, 31, 32, 33, 34, 35, 36, 37, 38, 39, 40, 41, 42, 43, 44, 45, 46, 47, 48, 49, 50, 51, 52, 53, 54, 55, 56, 57, 58, 59, 60, 61, 62, 63, 64, 65, 66, 67, 68, 69, 70, 71, 72, 73, 74, 75, 76, 77, 78, 79, 80, 81, 82, 83, 84, 85, 86, 87, 88, 89, 90, 91, 92, 93, 94, 95, 96, 97, 98, 99, 100, 101, 125, 126, 127, 128, 129, 130, 131, 132, 133, 134, 135, 136, 137, 138, 139, 168, 169, 170, 171, 155, 156, 157, 158, 159, 160, 161, 162, 163, 164, 165, 166, 167, 172, 173, 174, 175, 176, 177, 178, 179, 180, 181] (by decide +kernel) (by decide +kernel)
set_option maxRecDepth 20000 in
theorem gX8_odds_X0_add : GoodIn wsX8_odds (wsV RX8 213 RX0 yX0_add wsX0_add) := goodIn_app (goodIn_of _ (by decide +kernel)) ggX8_odds_X0_add
set_option maxRecDepth 20000 in
theorem ggX8_odds_X0_upper : GoodIn wsX8_odds wsX0_upper := goodIn_r _ [143, 112, 168, 169, 170, 171] (by decide +kernel) (by decide +kernel)
set_option maxRecDepth 20000 in
theorem gX8_odds_X0_upper : GoodIn wsX8_odds (wsV RX8 220 RX0 yX0_upper wsX0_upper) := goodIn_app (goodIn_of _ (by decide +kernel)) ggX8_odds_X0_upper
set_option maxRecDepth 20000 in
theorem ggX8_odds_X8_commonDivisor : GoodIn wsX8_odds wsX8_commonDivisor := goodIn_r _ [146] (by decide +kernel) (by decide +kernel)
set_option maxRecDepth 20000 in
theorem gX8_odds_X8_commonDivisor : GoodIn wsX8_odds (va_wsS RX8 228 yX8_commonDivisor wsX8_commonDivisor) := goodIn_app (goodIn_of _ (by decide +kernel)) ggX8_odds_X8_commonDivisor
theorem dX8_odds_0 : decode cX8_odds 0 = .ok (.iload_n 1, 1) := by decide +kernel
theorem dX8_odds_1 : decode cX8_odds 1 = .ok (.invokestatic 185, 3) := by decide +kernel
theorem dX8_odds_4 : decode cX8_odds 4 = .ok (.ifCond .eq 12, 3) := by decide +kernel
theorem dX8_odds_7 : decode cX8_odds 7 = .ok (.iload_n 2, 1) := by decide +kernel
theorem dX8_odds_8 : decode cX8_odds 8 = .ok (.ifCond .lt 8, 3) := by decide +kernel
theorem dX8_odds_11 : decode cX8_odds 11 = .ok (.iload_n 2, 1) := by decide +kernel
theorem dX8_odds_12 : decode cX8_odds 12 = .ok (.iconst 2, 1) := by decide +kernel
theorem dX8_odds_13 : decode cX8_odds 13 = .ok (.if_icmp .le 7, 3) := by decide +kernel
theorem dX8_odds_16 : decode cX8_odds 16 = .ok (.ldc2_w 207, 3) := by decide +kernel
theorem dX8_odds_19 : decode cX8_odds 19 = .ok (.lreturn, 1) := by decide +kernel
theorem dX8_odds_20 : decode cX8_odds 20 = .ok (.aload_n 0, 1) := by decide +kernel
theorem dX8_odds_21 : decode cX8_odds 21 = .ok (.getfield 50, 3) := by decide +kernel
theorem dX8_odds_24 : decode cX8_odds 24 = .ok (.aload_n 0, 1) := by decide +kernel
theorem dX8_odds_25 : decode cX8_odds 25 = .ok (.iload_n 1, 1) := by decide +kernel
theorem dX8_odds_26 : decode cX8_odds 26 = .ok (.iconst 0, 1) := by decide +kernel
theorem dX8_odds_27 : decode cX8_odds 27 = .ok (.sipush 999, 3) := by decide +kernel
theorem dX8_odds_30 : decode cX8_odds 30 = .ok (.bipush 10, 2) := by decide +kernel
theorem dX8_odds_32 : decode cX8_odds 32 = .ok (.invokevirtual 188, 3) := by decide +kernel
theorem dX8_odds_35 : decode cX8_odds 35 = .ok (.aload_n 0, 1) := by decide +kernel
theorem dX8_odds_36 : decode cX8_odds 36 = .ok (.iload_n 1, 1) := by decide +kernel
theorem dX8_odds_37 : decode cX8_odds 37 = .ok (.iconst 1, 1) := by decide +kernel
theorem dX8_odds_38 : decode cX8_odds 38 = .ok (.sipush 999, 3) := by decide +kernel
theorem dX8_odds_41 : decode cX8_odds 41 = .ok (.bipush 10, 2) := by decide +kernel
theorem dX8_odds_43 : decode cX8_odds 43 = .ok (.invokevirtual 188, 3) := by decide +kernel
theorem dX8_odds_46 : decode cX8_odds 46 = .ok (.invokevirtual 209, 3) := by decide +kernel
theorem dX8_odds_49 : decode cX8_odds 49 = .ok (.iconst 0, 1) := by decide +kernel
theorem dX8_odds_50 : decode cX8_odds 50 = .ok (.istore 4, 2) := by decide +kernel
theorem dX8_odds_52 : decode cX8_odds 52 = .ok (.iload 4, 2) := by decide +kernel
theorem dX8_odds_54 : decode cX8_odds 54 = .ok (.aload_n 0, 1) := by decide +kernel
theorem dX8_odds_55 : decode cX8_odds 55 = .ok (.getfield 10, 3) := by decide +kernel
theorem dX8_odds_58 : decode cX8_odds 58 = .ok (.getfield 192, 3) := by decide +kernel
theorem dX8_odds_61 : decode cX8_odds 61 = .ok (.if_icmp .ge 54, 3) := by decide +kernel
theorem dX8_odds_64 : decode cX8_odds 64 = .ok (.aload_n 0, 1) := by decide +kernel
theorem dX8_odds_65 : decode cX8_odds 65 = .ok (.getfield 10, 3) := by decide +kernel
theorem dX8_odds_68 : decode cX8_odds 68 = .ok (.iload 4, 2) := by decide +kernel
theorem dX8_odds_70 : decode cX8_odds 70 = .ok (.iconst 4, 1) := by decide +kernel
theorem dX8_odds_71 : decode cX8_odds 71 = .ok (.invokevirtual 90, 3) := by decide +kernel
theorem dX8_odds_74 : decode cX8_odds 74 = .ok (.iconst 1, 1) := by decide +kernel
theorem dX8_odds_75 : decode cX8_odds 75 = .ok (.if_icmp .ne 34, 3) := by decide +kernel
theorem dX8_odds_78 : decode cX8_odds 78 = .ok (.aload_n 0, 1) := by decide +kernel
theorem dX8_odds_79 : decode cX8_odds 79 = .ok (.getfield 10, 3) := by decide +kernel
theorem dX8_odds_82 : decode cX8_odds 82 = .ok (.iload 4, 2) := by decide +kernel
theorem dX8_odds_84 : decode cX8_odds 84 = .ok (.iconst 2, 1) := by decide +kernel
theorem dX8_odds_85 : decode cX8_odds 85 = .ok (.invokevirtual 90, 3) := by decide +kernel
theorem dX8_odds_88 : decode cX8_odds 88 = .ok (.iload_n 1, 1) := by decide +kernel
theorem dX8_odds_89 : decode cX8_odds 89 = .ok (.if_icmp .ne 20, 3) := by decide +kernel
theorem dX8_odds_92 : decode cX8_odds 92 = .ok (.aload_n 0, 1) := by decide +kernel
theorem dX8_odds_93 : decode cX8_odds 93 = .ok (.getfield 50, 3) := by decide +kernel
theorem dX8_odds_96 : decode cX8_odds 96 = .ok (.aload_n 0, 1) := by decide +kernel
theorem dX8_odds_97 : decode cX8_odds 97 = .ok (.getfield 10, 3) := by decide +kernel
theorem dX8_odds_100 : decode cX8_odds 100 = .ok (.aload_n 0, 1) := by decide +kernel
theorem dX8_odds_101 : decode cX8_odds 101 = .ok (.getfield 43, 3) := by decide +kernel
theorem dX8_odds_104 : decode cX8_odds 104 = .ok (.iload 4, 2) := by decide +kernel
theorem dX8_odds_106 : decode cX8_odds 106 = .ok (.invokevirtual 213, 3) := by decide +kernel
theorem dX8_odds_109 : decode cX8_odds 109 = .ok (.iinc 4 1, 3) := by decide +kernel
theorem dX8_odds_112 : decode cX8_odds 112 = .ok (.goto (-60), 3) := by decide +kernel
theorem dX8_odds_115 : decode cX8_odds 115 = .ok (.aload_n 0, 1) := by decide +kernel
theorem dX8_odds_116 : decode cX8_odds 116 = .ok (.getfield 50, 3) := by decide +kernel
theorem dX8_odds_119 : decode cX8_odds 119 = .ok (.getfield 217, 3) := by decide +kernel
theorem dX8_odds_122 : decode cX8_odds 122 = .ok (.bipush 8, 2) := by decide +kernel
theorem dX8_odds_124 : decode cX8_odds 124 = .ok (.if_icmp .le 7, 3) := by decide +kernel
theorem dX8_odds_127 : decode cX8_odds 127 = .ok (.ldc2_w 207, 3) := by decide +kernel
theorem dX8_odds_130 : decode cX8_odds 130 = .ok (.lreturn, 1) := by decide +kernel
theorem dX8_odds_131 : decode cX8_odds 131 = .ok (.aload_n 0, 1) := by decide +kernel
theorem dX8_odds_132 : decode cX8_odds 132 = .ok (.getfield 50, 3) := by decide +kernel
theorem dX8_odds_135 : decode cX8_odds 135 = .ok (.iload_n 2, 1) := by decide +kernel
theorem dX8_odds_136 : decode cX8_odds 136 = .ok (.invokevirtual 220, 3) := by decide +kernel
theorem dX8_odds_139 : decode cX8_odds 139 = .ok (.lstore 4, 2) := by decide +kernel
theorem dX8_odds_141 : decode cX8_odds 141 = .ok (.aload_n 0, 1) := by decide +kernel
theorem dX8_odds_142 : decode cX8_odds 142 = .ok (.getfield 50, 3) := by decide +kernel
theorem dX8_odds_145 : decode cX8_odds 145 = .ok (.getfield 224, 3) := by decide +kernel
theorem dX8_odds_148 : decode cX8_odds 148 = .ok (.lload 4, 2) := by decide +kernel
theorem dX8_odds_150 : decode cX8_odds 150 = .ok (.invokestatic 228, 3) := by decide +kernel
theorem dX8_odds_153 : decode cX8_odds 153 = .ok (.lstore 6, 2) := by decide +kernel
theorem dX8_odds_155 : decode cX8_odds 155 = .ok (.iload_n 3, 1) := by decide +kernel
theorem dX8_odds_156 : decode cX8_odds 156 = .ok (.ifCond .eq 13, 3) := by decide +kernel
theorem dX8_odds_159 : decode cX8_odds 159 = .ok (.aload_n 0, 1) := by decide +kernel
theorem dX8_odds_160 : decode cX8_odds 160 = .ok (.getfield 50, 3) := by decide +kernel
theorem dX8_odds_163 : decode cX8_odds 163 = .ok (.getfield 224, 3) := by decide +kernel
theorem dX8_odds_166 : decode cX8_odds 166 = .ok (.goto 5, 3) := by decide +kernel
theorem dX8_odds_169 : decode cX8_odds 169 = .ok (.lload 4, 2) := by decide +kernel
theorem dX8_odds_171 : decode cX8_odds 171 = .ok (.lload 6, 2) := by decide +kernel
theorem dX8_odds_173 : decode cX8_odds 173 = .ok (.ldiv, 1) := by decide +kernel
theorem dX8_odds_174 : decode cX8_odds 174 = .ok (.lreturn, 1) := by decide +kernel
set_option maxRecDepth 20000 in
theorem ggX8_plan_X8_isLetter : GoodIn wsX8_plan wsX8_isLetter := goodIn_r _ [7] (by decide +kernel) (by decide +kernel)
set_option maxRecDepth 20000 in
theorem gX8_plan_X8_isLetter : GoodIn wsX8_plan (va_wsS RX8 185 yX8_isLetter wsX8_isLetter) := goodIn_app (goodIn_of _ (by decide +kernel)) ggX8_plan_X8_isLetter
set_option maxRecDepth 20000 in
theorem ggX8_plan_X4_hasGoose : GoodIn wsX8_plan wsX4_hasGoose := goodIn_r _ [12, 13, 193, 194, 195, 196, 197, 198, 199, 200, 201, 202, 203, 204, 205] (by decide +kernel) (by decide +kernel)
set_option maxRecDepth 20000 in
theorem gX8_plan_X4_hasGoose : GoodIn wsX8_plan (wsV RX8 178 RX4 yX4_hasGoose wsX4_hasGoose) := goodIn_app (goodIn_of _ (by decide +kernel)) ggX8_plan_X4_hasGoose
set_option maxRecDepth 20000 in
theorem ggX8_plan_X3_fewest : GoodIn wsX8_plan wsX3_fewest := goodIn_r _ [18, 19, 20, 21, 22, 23, 24, 25, 26, 27, 28, 29, 30, 31, 32, 33, 11, 34, 35, 36, 37, 38, 39, 40, 41, 42, 13, 43, 44, 45, 46, 47, 17, 48, 49, 50, 51, 52, 53, 54, 55, 56, 57, 58, 59, 60, 61, 62, 63, 64, 65, 66, 67, 68, 69, 70, 71, 72, 73, 74, 75, 76, 77, 78, 79, 80, 81, 82, 83, 84, 85, 86, 87, 88, 89, 90, 91, 92, 93, 94, 95, 96, 97, 98, 99, 100, 101, 102, 103, 104, 105, 106, 107, 108, 109, 110, 111, 112, 113, 114, 115, 116, 117, 118, 119, 120, 121, 122, 123, 124, 125, 126, 127, 128, 129, 130, 131, 132, 133, 134, 135, 136, 137, 138, 139, 140, 141, 142, 143, 144, 145, 146, 147, 148, 149, 150, 151, 152, 153, 154, 155, 156, 157, 158, 159, 160, 161, 162, 163, 164, 165, 166, 167, 168, 169, 170, 171, 172, 173, 174, 175, 176, 177, 178, 179, 180, 206, 207, 208, 209, 210, 211, 212, 213, 214, 215, 216, 217, 218, 219, 220, 221, 193, 194, 195, 196, 197, 198, 199, 200, 201, 202, 203, 204, 205, 222, 223, 224, 225, 226, 227, 228, 229, 230, 231] (by decide +kernel) (by decide +kernel)
set_option maxRecDepth 20000 in
theorem gX8_plan_X3_fewest : GoodIn wsX8_plan (wsV RX8 232 RX3 yX3_fewest wsX3_fewest) := goodIn_app (goodIn_of _ (by decide +kernel)) ggX8_plan_X3_fewest
set_option maxRecDepth 20000 in
theorem ggX8_plan_X3_choiceOf : GoodIn wsX8_plan wsX3_choiceOf := goodIn_r _ [184, 29, 179, 180, 206, 207, 208, 209, 210, 211, 212, 213, 214, 215, 216, 217, 218, 219, 220, 221] (by decide +kernel) (by decide +kernel)
set_option maxRecDepth 20000 in
theorem gX8_plan_X3_choiceOf : GoodIn wsX8_plan (wsV RX8 236 RX3 yX3_choiceOf wsX3_choiceOf) := goodIn_app (goodIn_of _ (by decide +kernel)) ggX8_plan_X3_choiceOf
theorem dX8_plan_0 : decode cX8_plan 0 = .ok (.iload_n 1, 1) := by decide +kernel
theorem dX8_plan_1 : decode cX8_plan 1 = .ok (.invokestatic 185, 3) := by decide +kernel
theorem dX8_plan_4 : decode cX8_plan 4 = .ok (.ifCond .eq 30, 3) := by decide +kernel
theorem dX8_plan_7 : decode cX8_plan 7 = .ok (.iload_n 2, 1) := by decide +kernel
theorem dX8_plan_8 : decode cX8_plan 8 = .ok (.iconst 1, 1) := by decide +kernel
theorem dX8_plan_9 : decode cX8_plan 9 = .ok (.if_icmp .lt 25, 3) := by decide +kernel
theorem dX8_plan_12 : decode cX8_plan 12 = .ok (.iload_n 2, 1) := by decide +kernel
theorem dX8_plan_13 : decode cX8_plan 13 = .ok (.bipush 100, 2) := by decide +kernel
theorem dX8_plan_15 : decode cX8_plan 15 = .ok (.if_icmp .gt 19, 3) := by decide +kernel
theorem dX8_plan_18 : decode cX8_plan 18 = .ok (.iload_n 3, 1) := by decide +kernel
theorem dX8_plan_19 : decode cX8_plan 19 = .ok (.iconst (-1), 1) := by decide +kernel
theorem dX8_plan_20 : decode cX8_plan 20 = .ok (.if_icmp .eq 17, 3) := by decide +kernel
theorem dX8_plan_23 : decode cX8_plan 23 = .ok (.aload_n 0, 1) := by decide +kernel
theorem dX8_plan_24 : decode cX8_plan 24 = .ok (.getfield 10, 3) := by decide +kernel
theorem dX8_plan_27 : decode cX8_plan 27 = .ok (.iload_n 3, 1) := by decide +kernel
theorem dX8_plan_28 : decode cX8_plan 28 = .ok (.invokevirtual 178, 3) := by decide +kernel
theorem dX8_plan_31 : decode cX8_plan 31 = .ok (.ifCond .ne 6, 3) := by decide +kernel
theorem dX8_plan_34 : decode cX8_plan 34 = .ok (.bipush (-2), 2) := by decide +kernel
theorem dX8_plan_36 : decode cX8_plan 36 = .ok (.ireturn, 1) := by decide +kernel
theorem dX8_plan_37 : decode cX8_plan 37 = .ok (.aload_n 0, 1) := by decide +kernel
theorem dX8_plan_38 : decode cX8_plan 38 = .ok (.getfield 57, 3) := by decide +kernel
theorem dX8_plan_41 : decode cX8_plan 41 = .ok (.aload_n 0, 1) := by decide +kernel
theorem dX8_plan_42 : decode cX8_plan 42 = .ok (.getfield 10, 3) := by decide +kernel
theorem dX8_plan_45 : decode cX8_plan 45 = .ok (.aload_n 0, 1) := by decide +kernel
theorem dX8_plan_46 : decode cX8_plan 46 = .ok (.getfield 43, 3) := by decide +kernel
theorem dX8_plan_49 : decode cX8_plan 49 = .ok (.iload_n 1, 1) := by decide +kernel
theorem dX8_plan_50 : decode cX8_plan 50 = .ok (.iload_n 2, 1) := by decide +kernel
theorem dX8_plan_51 : decode cX8_plan 51 = .ok (.invokevirtual 232, 3) := by decide +kernel
theorem dX8_plan_54 : decode cX8_plan 54 = .ok (.istore 4, 2) := by decide +kernel
theorem dX8_plan_56 : decode cX8_plan 56 = .ok (.iload 4, 2) := by decide +kernel
theorem dX8_plan_58 : decode cX8_plan 58 = .ok (.ifCond .ne 6, 3) := by decide +kernel
theorem dX8_plan_61 : decode cX8_plan 61 = .ok (.bipush (-2), 2) := by decide +kernel
theorem dX8_plan_63 : decode cX8_plan 63 = .ok (.ireturn, 1) := by decide +kernel
theorem dX8_plan_64 : decode cX8_plan 64 = .ok (.iload_n 3, 1) := by decide +kernel
theorem dX8_plan_65 : decode cX8_plan 65 = .ok (.iconst (-1), 1) := by decide +kernel
theorem dX8_plan_66 : decode cX8_plan 66 = .ok (.if_icmp .ne 8, 3) := by decide +kernel
theorem dX8_plan_69 : decode cX8_plan 69 = .ok (.iload 4, 2) := by decide +kernel
theorem dX8_plan_71 : decode cX8_plan 71 = .ok (.goto 11, 3) := by decide +kernel
theorem dX8_plan_74 : decode cX8_plan 74 = .ok (.aload_n 0, 1) := by decide +kernel
theorem dX8_plan_75 : decode cX8_plan 75 = .ok (.getfield 57, 3) := by decide +kernel
theorem dX8_plan_78 : decode cX8_plan 78 = .ok (.iload_n 3, 1) := by decide +kernel
theorem dX8_plan_79 : decode cX8_plan 79 = .ok (.invokevirtual 236, 3) := by decide +kernel
theorem dX8_plan_82 : decode cX8_plan 82 = .ok (.ireturn, 1) := by decide +kernel
set_option maxRecDepth 20000 in
theorem ggX8_holds_X4_dailyNeed : GoodIn wsX8_holds wsX4_dailyNeed := goodIn_r _ [11, 12, 13, 14, 15, 10, 16, 17, 18, 19, 20, 21, 22, 31, 32, 33, 34, 35, 36, 37, 38, 39, 40, 41, 42, 43] (by decide +kernel) (by decide +kernel)
set_option maxRecDepth 20000 in
theorem gX8_holds_X4_dailyNeed : GoodIn wsX8_holds (wsV RX8 239 RX4 yX4_dailyNeed wsX4_dailyNeed) := goodIn_app (goodIn_of _ (by decide +kernel)) ggX8_holds_X4_dailyNeed
theorem dX8_holds_0 : decode cX8_holds 0 = .ok (.aload_n 0, 1) := by decide +kernel
theorem dX8_holds_1 : decode cX8_holds 1 = .ok (.getfield 10, 3) := by decide +kernel
theorem dX8_holds_4 : decode cX8_holds 4 = .ok (.invokevirtual 239, 3) := by decide +kernel
theorem dX8_holds_7 : decode cX8_holds 7 = .ok (.istore_n 1, 1) := by decide +kernel
theorem dX8_holds_8 : decode cX8_holds 8 = .ok (.iload_n 1, 1) := by decide +kernel
theorem dX8_holds_9 : decode cX8_holds 9 = .ok (.iconst 1, 1) := by decide +kernel
theorem dX8_holds_10 : decode cX8_holds 10 = .ok (.if_icmp .ge 7, 3) := by decide +kernel
theorem dX8_holds_13 : decode cX8_holds 13 = .ok (.sipush 999, 3) := by decide +kernel
theorem dX8_holds_16 : decode cX8_holds 16 = .ok (.ireturn, 1) := by decide +kernel
theorem dX8_holds_17 : decode cX8_holds 17 = .ok (.sipush 999, 3) := by decide +kernel
theorem dX8_holds_20 : decode cX8_holds 20 = .ok (.aload_n 0, 1) := by decide +kernel
theorem dX8_holds_21 : decode cX8_holds 21 = .ok (.getfield 10, 3) := by decide +kernel
theorem dX8_holds_24 : decode cX8_holds 24 = .ok (.getfield 73, 3) := by decide +kernel
theorem dX8_holds_27 : decode cX8_holds 27 = .ok (.iload_n 1, 1) := by decide +kernel
theorem dX8_holds_28 : decode cX8_holds 28 = .ok (.idiv, 1) := by decide +kernel
theorem dX8_holds_29 : decode cX8_holds 29 = .ok (.invokestatic 243, 3) := by decide +kernel
theorem dX8_holds_32 : decode cX8_holds 32 = .ok (.ireturn, 1) := by decide +kernel
set_option maxRecDepth 20000 in
theorem ggX8_image_X4_copyFrom : GoodIn wsX8_image wsX4_copyFrom := goodIn_r _ [8, 9, 10, 11, 12, 13, 14, 15, 16, 17, 18, 19, 20, 21, 22, 23, 24, 25, 34, 35, 36, 37, 38, 39, 40, 41, 42, 43, 44, 45, 46] (by decide +kernel) (by decide +kernel)
set_option maxRecDepth 20000 in
theorem gX8_image_X4_copyFrom : GoodIn wsX8_image (wsV RX8 248 RX4 yX4_copyFrom wsX4_copyFrom) := goodIn_app (goodIn_of _ (by decide +kernel)) ggX8_image_X4_copyFrom
theorem dX8_image_0 : decode cX8_image 0 = .ok (.aload_n 0, 1) := by decide +kernel
theorem dX8_image_1 : decode cX8_image 1 = .ok (.getfield 16, 3) := by decide +kernel
theorem dX8_image_4 : decode cX8_image 4 = .ok (.aload_n 0, 1) := by decide +kernel
theorem dX8_image_5 : decode cX8_image 5 = .ok (.getfield 10, 3) := by decide +kernel
theorem dX8_image_8 : decode cX8_image 8 = .ok (.invokevirtual 248, 3) := by decide +kernel
theorem dX8_image_11 : decode cX8_image 11 = .ok (.aload_n 0, 1) := by decide +kernel
theorem dX8_image_12 : decode cX8_image 12 = .ok (.getfield 10, 3) := by decide +kernel
theorem dX8_image_15 : decode cX8_image 15 = .ok (.getfield 110, 3) := by decide +kernel
theorem dX8_image_18 : decode cX8_image 18 = .ok (.ireturn, 1) := by decide +kernel
set_option maxRecDepth 20000 in
theorem ggX8_back_X4_copyFrom : GoodIn wsX8_back wsX4_copyFrom := goodIn_r _ [8, 9, 10, 11, 12, 13, 14, 15, 16, 17, 18, 19, 20, 21, 22, 23, 24, 25, 34, 35, 36, 37, 38, 39, 40, 41, 42, 43, 44, 45, 46] (by decide +kernel) (by decide +kernel)
set_option maxRecDepth 20000 in
theorem gX8_back_X4_copyFrom : GoodIn wsX8_back (wsV RX8 248 RX4 yX4_copyFrom wsX4_copyFrom) := goodIn_app (goodIn_of _ (by decide +kernel)) ggX8_back_X4_copyFrom
theorem dX8_back_0 : decode cX8_back 0 = .ok (.aload_n 0, 1) := by decide +kernel
theorem dX8_back_1 : decode cX8_back 1 = .ok (.getfield 10, 3) := by decide +kernel
theorem dX8_back_4 : decode cX8_back 4 = .ok (.aload_n 0, 1) := by decide +kernel
theorem dX8_back_5 : decode cX8_back 5 = .ok (.getfield 16, 3) := by decide +kernel
theorem dX8_back_8 : decode cX8_back 8 = .ok (.invokevirtual 248, 3) := by decide +kernel
theorem dX8_back_11 : decode cX8_back 11 = .ok (.aload_n 0, 1) := by decide +kernel
theorem dX8_back_12 : decode cX8_back 12 = .ok (.getfield 10, 3) := by decide +kernel
theorem dX8_back_15 : decode cX8_back 15 = .ok (.getfield 110, 3) := by decide +kernel
theorem dX8_back_18 : decode cX8_back 18 = .ok (.ireturn, 1) := by decide +kernel
set_option maxRecDepth 20000 in
theorem ggX8_about_X8_aboutMany : GoodIn wsX8_about wsX8_aboutMany := goodIn_r _ [17, 1, 2, 18, 19, 20, 21, 22, 23, 24, 25, 26, 27, 28, 29, 30, 31, 32, 33, 34, 35, 36, 37, 38, 39, 40, 41, 42, 43, 44, 45, 46, 47, 48, 49, 50, 51, 52, 53, 54, 55] (by decide +kernel) (by decide +kernel)
set_option maxRecDepth 20000 in
theorem gX8_about_X8_aboutMany : GoodIn wsX8_about (wsV RX8 255 RX8 yX8_aboutMany wsX8_aboutMany) := goodIn_app (goodIn_of _ (by decide +kernel)) ggX8_about_X8_aboutMany
theorem dX8_about_0 : decode cX8_about 0 = .ok (.iload_n 1, 1) := by decide +kernel
theorem dX8_about_1 : decode cX8_about 1 = .ok (.tableswitch 135 0 9 #[55, 63, 71, 79, 87, 95, 103, 111, 119, 127], 55) := by decide +kernel
theorem dX8_about_56 : decode cX8_about 56 = .ok (.aload_n 0, 1) := by decide +kernel
theorem dX8_about_57 : decode cX8_about 57 = .ok (.getfield 10, 3) := by decide +kernel
theorem dX8_about_60 : decode cX8_about 60 = .ok (.getfield 252, 3) := by decide +kernel
theorem dX8_about_63 : decode cX8_about 63 = .ok (.ireturn, 1) := by decide +kernel
theorem dX8_about_64 : decode cX8_about 64 = .ok (.aload_n 0, 1) := by decide +kernel
theorem dX8_about_65 : decode cX8_about 65 = .ok (.getfield 10, 3) := by decide +kernel
theorem dX8_about_68 : decode cX8_about 68 = .ok (.getfield 192, 3) := by decide +kernel
theorem dX8_about_71 : decode cX8_about 71 = .ok (.ireturn, 1) := by decide +kernel
theorem dX8_about_72 : decode cX8_about 72 = .ok (.aload_n 0, 1) := by decide +kernel
theorem dX8_about_73 : decode cX8_about 73 = .ok (.getfield 10, 3) := by decide +kernel
theorem dX8_about_76 : decode cX8_about 76 = .ok (.getfield 73, 3) := by decide +kernel
theorem dX8_about_79 : decode cX8_about 79 = .ok (.ireturn, 1) := by decide +kernel
theorem dX8_about_80 : decode cX8_about 80 = .ok (.aload_n 0, 1) := by decide +kernel
theorem dX8_about_81 : decode cX8_about 81 = .ok (.getfield 10, 3) := by decide +kernel
theorem dX8_about_84 : decode cX8_about 84 = .ok (.getfield 77, 3) := by decide +kernel
theorem dX8_about_87 : decode cX8_about 87 = .ok (.ireturn, 1) := by decide +kernel
theorem dX8_about_88 : decode cX8_about 88 = .ok (.aload_n 0, 1) := by decide +kernel
theorem dX8_about_89 : decode cX8_about 89 = .ok (.getfield 10, 3) := by decide +kernel
theorem dX8_about_92 : decode cX8_about 92 = .ok (.getfield 110, 3) := by decide +kernel
theorem dX8_about_95 : decode cX8_about 95 = .ok (.ireturn, 1) := by decide +kernel
theorem dX8_about_96 : decode cX8_about 96 = .ok (.aload_n 0, 1) := by decide +kernel
theorem dX8_about_97 : decode cX8_about 97 = .ok (.getfield 10, 3) := by decide +kernel
theorem dX8_about_100 : decode cX8_about 100 = .ok (.getfield 80, 3) := by decide +kernel
theorem dX8_about_103 : decode cX8_about 103 = .ok (.ireturn, 1) := by decide +kernel
theorem dX8_about_104 : decode cX8_about 104 = .ok (.aload_n 0, 1) := by decide +kernel
theorem dX8_about_105 : decode cX8_about 105 = .ok (.getfield 10, 3) := by decide +kernel
theorem dX8_about_108 : decode cX8_about 108 = .ok (.getfield 126, 3) := by decide +kernel
theorem dX8_about_111 : decode cX8_about 111 = .ok (.ireturn, 1) := by decide +kernel
theorem dX8_about_112 : decode cX8_about 112 = .ok (.aload_n 0, 1) := by decide +kernel
theorem dX8_about_113 : decode cX8_about 113 = .ok (.getfield 10, 3) := by decide +kernel
theorem dX8_about_116 : decode cX8_about 116 = .ok (.getfield 147, 3) := by decide +kernel
theorem dX8_about_119 : decode cX8_about 119 = .ok (.ireturn, 1) := by decide +kernel
theorem dX8_about_120 : decode cX8_about 120 = .ok (.aload_n 0, 1) := by decide +kernel
theorem dX8_about_121 : decode cX8_about 121 = .ok (.getfield 10, 3) := by decide +kernel
theorem dX8_about_124 : decode cX8_about 124 = .ok (.getfield 175, 3) := by decide +kernel
theorem dX8_about_127 : decode cX8_about 127 = .ok (.ireturn, 1) := by decide +kernel
theorem dX8_about_128 : decode cX8_about 128 = .ok (.aload_n 0, 1) := by decide +kernel
theorem dX8_about_129 : decode cX8_about 129 = .ok (.getfield 22, 3) := by decide +kernel
theorem dX8_about_132 : decode cX8_about 132 = .ok (.getfield 119, 3) := by decide +kernel
theorem dX8_about_135 : decode cX8_about 135 = .ok (.ireturn, 1) := by decide +kernel
theorem dX8_about_136 : decode cX8_about 136 = .ok (.aload_n 0, 1) := by decide +kernel
theorem dX8_about_137 : decode cX8_about 137 = .ok (.iload_n 1, 1) := by decide +kernel
theorem dX8_about_138 : decode cX8_about 138 = .ok (.invokevirtual 255, 3) := by decide +kernel
theorem dX8_about_141 : decode cX8_about 141 = .ok (.ireturn, 1) := by decide +kernel
set_option maxRecDepth 20000 in
theorem ggX8_aboutMany_X4_countFate : GoodIn wsX8_aboutMany wsX4_countFate := goodIn_r _ [7, 8, 9, 10, 11, 6, 12, 13, 28, 29, 30, 31, 32, 33, 34, 35, 36, 37, 38, 39, 40] (by decide +kernel) (by decide +kernel)
set_option maxRecDepth 20000 in
theorem gX8_aboutMany_X4_countFate : GoodIn wsX8_aboutMany (wsV RX8 258 RX4 yX4_countFate wsX4_countFate) := goodIn_app (goodIn_of _ (by decide +kernel)) ggX8_aboutMany_X4_countFate
set_option maxRecDepth 20000 in
theorem ggX8_aboutMany_X4_ofMarket : GoodIn wsX8_aboutMany wsX4_ofMarket := goodIn_r _ [17, 18, 19, 28, 29, 30, 31, 32, 33, 34, 35, 36, 37, 38, 39, 40] (by decide +kernel) (by decide +kernel)
set_option maxRecDepth 20000 in
theorem gX8_aboutMany_X4_ofMarket : GoodIn wsX8_aboutMany (wsV RX8 113 RX4 yX4_ofMarket wsX4_ofMarket) := goodIn_app (goodIn_of _ (by decide +kernel)) ggX8_aboutMany_X4_ofMarket
theorem dX8_aboutMany_0 : decode cX8_aboutMany 0 = .ok (.iload_n 1, 1) := by decide +kernel
theorem dX8_aboutMany_1 : decode cX8_aboutMany 1 = .ok (.bipush 20, 2) := by decide +kernel
theorem dX8_aboutMany_3 : decode cX8_aboutMany 3 = .ok (.if_icmp .lt 21, 3) := by decide +kernel
theorem dX8_aboutMany_6 : decode cX8_aboutMany 6 = .ok (.iload_n 1, 1) := by decide +kernel
theorem dX8_aboutMany_7 : decode cX8_aboutMany 7 = .ok (.bipush 26, 2) := by decide +kernel
theorem dX8_aboutMany_9 : decode cX8_aboutMany 9 = .ok (.if_icmp .ge 15, 3) := by decide +kernel
theorem dX8_aboutMany_12 : decode cX8_aboutMany 12 = .ok (.aload_n 0, 1) := by decide +kernel
theorem dX8_aboutMany_13 : decode cX8_aboutMany 13 = .ok (.getfield 10, 3) := by decide +kernel
theorem dX8_aboutMany_16 : decode cX8_aboutMany 16 = .ok (.iload_n 1, 1) := by decide +kernel
theorem dX8_aboutMany_17 : decode cX8_aboutMany 17 = .ok (.bipush 20, 2) := by decide +kernel
theorem dX8_aboutMany_19 : decode cX8_aboutMany 19 = .ok (.isub, 1) := by decide +kernel
theorem dX8_aboutMany_20 : decode cX8_aboutMany 20 = .ok (.invokevirtual 258, 3) := by decide +kernel
theorem dX8_aboutMany_23 : decode cX8_aboutMany 23 = .ok (.ireturn, 1) := by decide +kernel
theorem dX8_aboutMany_24 : decode cX8_aboutMany 24 = .ok (.iload_n 1, 1) := by decide +kernel
theorem dX8_aboutMany_25 : decode cX8_aboutMany 25 = .ok (.bipush 10, 2) := by decide +kernel
theorem dX8_aboutMany_27 : decode cX8_aboutMany 27 = .ok (.if_icmp .lt 17, 3) := by decide +kernel
theorem dX8_aboutMany_30 : decode cX8_aboutMany 30 = .ok (.iload_n 1, 1) := by decide +kernel
theorem dX8_aboutMany_31 : decode cX8_aboutMany 31 = .ok (.bipush 10, 2) := by decide +kernel
theorem dX8_aboutMany_33 : decode cX8_aboutMany 33 = .ok (.aload_n 0, 1) := by decide +kernel
theorem dX8_aboutMany_34 : decode cX8_aboutMany 34 = .ok (.getfield 10, 3) := by decide +kernel
theorem dX8_aboutMany_37 : decode cX8_aboutMany 37 = .ok (.getfield 252, 3) := by decide +kernel
theorem dX8_aboutMany_40 : decode cX8_aboutMany 40 = .ok (.iadd, 1) := by decide +kernel
theorem dX8_aboutMany_41 : decode cX8_aboutMany 41 = .ok (.if_icmp .lt 6, 3) := by decide +kernel
theorem dX8_aboutMany_44 : decode cX8_aboutMany 44 = .ok (.bipush (-2), 2) := by decide +kernel
theorem dX8_aboutMany_46 : decode cX8_aboutMany 46 = .ok (.ireturn, 1) := by decide +kernel
theorem dX8_aboutMany_47 : decode cX8_aboutMany 47 = .ok (.iload_n 1, 1) := by decide +kernel
theorem dX8_aboutMany_48 : decode cX8_aboutMany 48 = .ok (.bipush 10, 2) := by decide +kernel
theorem dX8_aboutMany_50 : decode cX8_aboutMany 50 = .ok (.isub, 1) := by decide +kernel
theorem dX8_aboutMany_51 : decode cX8_aboutMany 51 = .ok (.istore_n 2, 1) := by decide +kernel
theorem dX8_aboutMany_52 : decode cX8_aboutMany 52 = .ok (.aload_n 0, 1) := by decide +kernel
theorem dX8_aboutMany_53 : decode cX8_aboutMany 53 = .ok (.getfield 10, 3) := by decide +kernel
theorem dX8_aboutMany_56 : decode cX8_aboutMany 56 = .ok (.iload_n 2, 1) := by decide +kernel
theorem dX8_aboutMany_57 : decode cX8_aboutMany 57 = .ok (.iconst 0, 1) := by decide +kernel
theorem dX8_aboutMany_58 : decode cX8_aboutMany 58 = .ok (.invokevirtual 113, 3) := by decide +kernel
theorem dX8_aboutMany_61 : decode cX8_aboutMany 61 = .ok (.bipush 100, 2) := by decide +kernel
theorem dX8_aboutMany_63 : decode cX8_aboutMany 63 = .ok (.imul, 1) := by decide +kernel
theorem dX8_aboutMany_64 : decode cX8_aboutMany 64 = .ok (.aload_n 0, 1) := by decide +kernel
theorem dX8_aboutMany_65 : decode cX8_aboutMany 65 = .ok (.getfield 10, 3) := by decide +kernel
theorem dX8_aboutMany_68 : decode cX8_aboutMany 68 = .ok (.iload_n 2, 1) := by decide +kernel
theorem dX8_aboutMany_69 : decode cX8_aboutMany 69 = .ok (.iconst 1, 1) := by decide +kernel
theorem dX8_aboutMany_70 : decode cX8_aboutMany 70 = .ok (.invokevirtual 113, 3) := by decide +kernel
theorem dX8_aboutMany_73 : decode cX8_aboutMany 73 = .ok (.bipush 10, 2) := by decide +kernel
theorem dX8_aboutMany_75 : decode cX8_aboutMany 75 = .ok (.imul, 1) := by decide +kernel
theorem dX8_aboutMany_76 : decode cX8_aboutMany 76 = .ok (.iadd, 1) := by decide +kernel
theorem dX8_aboutMany_77 : decode cX8_aboutMany 77 = .ok (.aload_n 0, 1) := by decide +kernel
theorem dX8_aboutMany_78 : decode cX8_aboutMany 78 = .ok (.getfield 10, 3) := by decide +kernel
theorem dX8_aboutMany_81 : decode cX8_aboutMany 81 = .ok (.iload_n 2, 1) := by decide +kernel
theorem dX8_aboutMany_82 : decode cX8_aboutMany 82 = .ok (.iconst 2, 1) := by decide +kernel
theorem dX8_aboutMany_83 : decode cX8_aboutMany 83 = .ok (.invokevirtual 113, 3) := by decide +kernel
theorem dX8_aboutMany_86 : decode cX8_aboutMany 86 = .ok (.iadd, 1) := by decide +kernel
theorem dX8_aboutMany_87 : decode cX8_aboutMany 87 = .ok (.ireturn, 1) := by decide +kernel
theorem dX8_isDigit_0 : decode cX8_isDigit 0 = .ok (.iload_n 0, 1) := by decide +kernel
theorem dX8_isDigit_1 : decode cX8_isDigit 1 = .ok (.ifCond .lt 13, 3) := by decide +kernel
theorem dX8_isDigit_4 : decode cX8_isDigit 4 = .ok (.iload_n 0, 1) := by decide +kernel
theorem dX8_isDigit_5 : decode cX8_isDigit 5 = .ok (.bipush 9, 2) := by decide +kernel
theorem dX8_isDigit_7 : decode cX8_isDigit 7 = .ok (.if_icmp .gt 7, 3) := by decide +kernel
theorem dX8_isDigit_10 : decode cX8_isDigit 10 = .ok (.iconst 1, 1) := by decide +kernel
theorem dX8_isDigit_11 : decode cX8_isDigit 11 = .ok (.goto 4, 3) := by decide +kernel
theorem dX8_isDigit_14 : decode cX8_isDigit 14 = .ok (.iconst 0, 1) := by decide +kernel
theorem dX8_isDigit_15 : decode cX8_isDigit 15 = .ok (.ireturn, 1) := by decide +kernel
theorem dX8_isLetter_0 : decode cX8_isLetter 0 = .ok (.iload_n 0, 1) := by decide +kernel
theorem dX8_isLetter_1 : decode cX8_isLetter 1 = .ok (.ifCond .lt 13, 3) := by decide +kernel
theorem dX8_isLetter_4 : decode cX8_isLetter 4 = .ok (.iload_n 0, 1) := by decide +kernel
theorem dX8_isLetter_5 : decode cX8_isLetter 5 = .ok (.bipush 6, 2) := by decide +kernel
theorem dX8_isLetter_7 : decode cX8_isLetter 7 = .ok (.if_icmp .ge 7, 3) := by decide +kernel
theorem dX8_isLetter_10 : decode cX8_isLetter 10 = .ok (.iconst 1, 1) := by decide +kernel
theorem dX8_isLetter_11 : decode cX8_isLetter 11 = .ok (.goto 4, 3) := by decide +kernel
theorem dX8_isLetter_14 : decode cX8_isLetter 14 = .ok (.iconst 0, 1) := by decide +kernel
theorem dX8_isLetter_15 : decode cX8_isLetter 15 = .ok (.ireturn, 1) := by decide +kernel
set_option maxRecDepth 20000 in
theorem ggX8_isQuill_X8_isLetter : GoodIn wsX8_isQuill wsX8_isLetter := goodIn_r _ [4] (by decide +kernel) (by decide +kernel)
set_option maxRecDepth 20000 in
theorem gX8_isQuill_X8_isLetter : GoodIn wsX8_isQuill (va_wsS RX8 185 yX8_isLetter wsX8_isLetter) := goodIn_app (goodIn_of _ (by decide +kernel)) ggX8_isQuill_X8_isLetter
theorem dX8_isQuill_0 : decode cX8_isQuill 0 = .ok (.iload_n 0, 1) := by decide +kernel
theorem dX8_isQuill_1 : decode cX8_isQuill 1 = .ok (.invokestatic 185, 3) := by decide +kernel
theorem dX8_isQuill_4 : decode cX8_isQuill 4 = .ok (.ifCond .eq 16, 3) := by decide +kernel
theorem dX8_isQuill_7 : decode cX8_isQuill 7 = .ok (.iload_n 1, 1) := by decide +kernel
theorem dX8_isQuill_8 : decode cX8_isQuill 8 = .ok (.ifCond .lt 12, 3) := by decide +kernel
theorem dX8_isQuill_11 : decode cX8_isQuill 11 = .ok (.iload_n 1, 1) := by decide +kernel
theorem dX8_isQuill_12 : decode cX8_isQuill 12 = .ok (.iconst 3, 1) := by decide +kernel
theorem dX8_isQuill_13 : decode cX8_isQuill 13 = .ok (.if_icmp .ge 7, 3) := by decide +kernel
theorem dX8_isQuill_16 : decode cX8_isQuill 16 = .ok (.iconst 1, 1) := by decide +kernel
theorem dX8_isQuill_17 : decode cX8_isQuill 17 = .ok (.goto 4, 3) := by decide +kernel
theorem dX8_isQuill_20 : decode cX8_isQuill 20 = .ok (.iconst 0, 1) := by decide +kernel
theorem dX8_isQuill_21 : decode cX8_isQuill 21 = .ok (.ireturn, 1) := by decide +kernel
theorem dX8_halvesOf_0 : decode cX8_halvesOf 0 = .ok (.iload_n 0, 1) := by decide +kernel
theorem dX8_halvesOf_1 : decode cX8_halvesOf 1 = .ok (.ifCond .ne 5, 3) := by decide +kernel
theorem dX8_halvesOf_4 : decode cX8_halvesOf 4 = .ok (.iconst 3, 1) := by decide +kernel
theorem dX8_halvesOf_5 : decode cX8_halvesOf 5 = .ok (.ireturn, 1) := by decide +kernel
theorem dX8_halvesOf_6 : decode cX8_halvesOf 6 = .ok (.iload_n 0, 1) := by decide +kernel
