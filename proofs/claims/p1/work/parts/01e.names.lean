theorem dX8_halvesOf_7 : decode cX8_halvesOf 7 = .ok (.iconst 1, 1) := by decide +kernel
theorem dX8_halvesOf_8 : decode cX8_halvesOf 8 = .ok (.if_icmp .eq 8, 3) := by decide +kernel
theorem dX8_halvesOf_11 : decode cX8_halvesOf 11 = .ok (.iload_n 0, 1) := by decide +kernel
theorem dX8_halvesOf_12 : decode cX8_halvesOf 12 = .ok (.iconst 2, 1) := by decide +kernel
theorem dX8_halvesOf_13 : decode cX8_halvesOf 13 = .ok (.if_icmp .ne 7, 3) := by decide +kernel
theorem dX8_halvesOf_16 : decode cX8_halvesOf 16 = .ok (.iload_n 0, 1) := by decide +kernel
theorem dX8_halvesOf_17 : decode cX8_halvesOf 17 = .ok (.goto 4, 3) := by decide +kernel
theorem dX8_halvesOf_20 : decode cX8_halvesOf 20 = .ok (.iconst 0, 1) := by decide +kernel
theorem dX8_halvesOf_21 : decode cX8_halvesOf 21 = .ok (.ireturn, 1) := by decide +kernel
theorem dX8_commonDivisor_0 : decode cX8_commonDivisor 0 = .ok (.lload_n 0, 1) := by decide +kernel
theorem dX8_commonDivisor_1 : decode cX8_commonDivisor 1 = .ok (.lstore 4, 2) := by decide +kernel
theorem dX8_commonDivisor_3 : decode cX8_commonDivisor 3 = .ok (.lload_n 2, 1) := by decide +kernel
theorem dX8_commonDivisor_4 : decode cX8_commonDivisor 4 = .ok (.lstore 6, 2) := by decide +kernel
theorem dX8_commonDivisor_6 : decode cX8_commonDivisor 6 = .ok (.iconst 0, 1) := by decide +kernel
theorem dX8_commonDivisor_7 : decode cX8_commonDivisor 7 = .ok (.istore 8, 2) := by decide +kernel
theorem dX8_commonDivisor_9 : decode cX8_commonDivisor 9 = .ok (.iload 8, 2) := by decide +kernel
theorem dX8_commonDivisor_11 : decode cX8_commonDivisor 11 = .ok (.sipush 200, 3) := by decide +kernel
theorem dX8_commonDivisor_14 : decode cX8_commonDivisor 14 = .ok (.if_icmp .ge 31, 3) := by decide +kernel
theorem dX8_commonDivisor_17 : decode cX8_commonDivisor 17 = .ok (.lload 6, 2) := by decide +kernel
theorem dX8_commonDivisor_19 : decode cX8_commonDivisor 19 = .ok (.lconst 0, 1) := by decide +kernel
theorem dX8_commonDivisor_20 : decode cX8_commonDivisor 20 = .ok (.lcmp, 1) := by decide +kernel
theorem dX8_commonDivisor_21 : decode cX8_commonDivisor 21 = .ok (.ifCond .eq 24, 3) := by decide +kernel
theorem dX8_commonDivisor_24 : decode cX8_commonDivisor 24 = .ok (.lload 4, 2) := by decide +kernel
theorem dX8_commonDivisor_26 : decode cX8_commonDivisor 26 = .ok (.lload 6, 2) := by decide +kernel
theorem dX8_commonDivisor_28 : decode cX8_commonDivisor 28 = .ok (.lrem, 1) := by decide +kernel
theorem dX8_commonDivisor_29 : decode cX8_commonDivisor 29 = .ok (.lstore 9, 2) := by decide +kernel
theorem dX8_commonDivisor_31 : decode cX8_commonDivisor 31 = .ok (.lload 6, 2) := by decide +kernel
theorem dX8_commonDivisor_33 : decode cX8_commonDivisor 33 = .ok (.lstore 4, 2) := by decide +kernel
theorem dX8_commonDivisor_35 : decode cX8_commonDivisor 35 = .ok (.lload 9, 2) := by decide +kernel
theorem dX8_commonDivisor_37 : decode cX8_commonDivisor 37 = .ok (.lstore 6, 2) := by decide +kernel
theorem dX8_commonDivisor_39 : decode cX8_commonDivisor 39 = .ok (.iinc 8 1, 3) := by decide +kernel
theorem dX8_commonDivisor_42 : decode cX8_commonDivisor 42 = .ok (.goto (-33), 3) := by decide +kernel
theorem dX8_commonDivisor_45 : decode cX8_commonDivisor 45 = .ok (.lload 4, 2) := by decide +kernel
theorem dX8_commonDivisor_47 : decode cX8_commonDivisor 47 = .ok (.lconst 0, 1) := by decide +kernel
theorem dX8_commonDivisor_48 : decode cX8_commonDivisor 48 = .ok (.lcmp, 1) := by decide +kernel
theorem dX8_commonDivisor_49 : decode cX8_commonDivisor 49 = .ok (.ifCond .le 8, 3) := by decide +kernel
theorem dX8_commonDivisor_52 : decode cX8_commonDivisor 52 = .ok (.lload 4, 2) := by decide +kernel
theorem dX8_commonDivisor_54 : decode cX8_commonDivisor 54 = .ok (.goto 4, 3) := by decide +kernel
theorem dX8_commonDivisor_57 : decode cX8_commonDivisor 57 = .ok (.lconst 1, 1) := by decide +kernel
theorem dX8_commonDivisor_58 : decode cX8_commonDivisor 58 = .ok (.lreturn, 1) := by decide +kernel
set_option maxRecDepth 20000 in
theorem ggX8_passOneDay_X4_ofGoose : GoodIn wsX8_passOneDay wsX4_ofGoose := goodIn_r _ [8, 9, 10, 152, 153, 154, 155, 156, 157, 158, 159, 160, 161, 162, 163, 164] (by decide +kernel) (by decide +kernel)
set_option maxRecDepth 20000 in
theorem gX8_passOneDay_X4_ofGoose : GoodIn wsX8_passOneDay (wsV RX8 90 RX4 yX4_ofGoose wsX4_ofGoose) := goodIn_app (goodIn_of _ (by decide +kernel)) ggX8_passOneDay_X4_ofGoose
set_option maxRecDepth 20000 in
theorem ggX8_passOneDay_X8_fateAtMarket : GoodIn wsX8_passOneDay wsX8_fateAtMarket := goodIn_r _ [15, 16, 1, 17, 18, 19, 20, 21, 22, 23, 24, 25, 26, 27, 28, 5, 6, 7, 8, 9, 10, 29, 30, 31, 32, 33, 34, 35, 36, 37, 38, 39, 40, 41, 42, 43, 44, 45, 46, 47, 48, 49, 50, 51, 52, 53, 54, 55, 56, 57, 58, 59, 60, 61, 62, 63, 64, 65, 66, 67, 68, 69, 70, 71, 72, 73, 74, 75, 76, 77, 78, 79, 80, 81, 82, 83, 84, 85, 86, 87, 88, 89, 90, 91, 92, 93, 94, 95, 96, 97, 98, 99, 100, 101, 102, 103, 104, 105, 106, 4, 144, 145, 146, 147, 148, 149, 150, 151, 165, 166, 167, 168, 152, 153, 154, 155, 156, 157, 158, 159, 160, 161, 162, 163, 164, 169, 170, 171, 172, 173, 174] (by decide +kernel) (by decide +kernel)
set_option maxRecDepth 20000 in
theorem gX8_passOneDay_X8_fateAtMarket : GoodIn wsX8_passOneDay (wsV RX8 261 RX8 yX8_fateAtMarket wsX8_fateAtMarket) := goodIn_app (goodIn_of _ (by decide +kernel)) ggX8_passOneDay_X8_fateAtMarket
set_option maxRecDepth 20000 in
theorem ggX8_passOneDay_X4_settle : GoodIn wsX8_passOneDay wsX4_settle := goodIn_r _ [110, 111, 112, 113, 114, 7, 115, 10, 116, 117, 118, 119, 9, 152, 153, 154, 155, 156, 157, 158, 159, 160, 161, 162, 163, 164] (by decide +kernel) (by decide +kernel)
set_option maxRecDepth 20000 in
theorem gX8_passOneDay_X4_settle : GoodIn wsX8_passOneDay (wsV RX8 264 RX4 yX4_settle wsX4_settle) := goodIn_app (goodIn_of _ (by decide +kernel)) ggX8_passOneDay_X4_settle
set_option maxRecDepth 20000 in
theorem ggX8_passOneDay_X4_eatDaily : GoodIn wsX8_passOneDay wsX4_eatDaily := goodIn_r _ [123, 124, 9, 125, 126, 127, 7, 128, 129, 130, 131, 132, 133, 134, 5, 6, 8, 10, 135, 136, 137, 138, 139, 140, 141, 142, 143, 108, 109, 110, 111, 112, 113, 114, 115, 116, 117, 118, 119, 152, 153, 154, 155, 156, 157, 158, 159, 160, 161, 162, 163, 164] (by decide +kernel) (by decide +kernel)
set_option maxRecDepth 20000 in
theorem gX8_passOneDay_X4_eatDaily : GoodIn wsX8_passOneDay (wsV RX8 267 RX4 yX4_eatDaily wsX4_eatDaily) := goodIn_app (goodIn_of _ (by decide +kernel)) ggX8_passOneDay_X4_eatDaily
theorem dX8_passOneDay_0 : decode cX8_passOneDay 0 = .ok (.aload_n 0, 1) := by decide +kernel
theorem dX8_passOneDay_1 : decode cX8_passOneDay 1 = .ok (.getfield 10, 3) := by decide +kernel
theorem dX8_passOneDay_4 : decode cX8_passOneDay 4 = .ok (.dup, 1) := by decide +kernel
theorem dX8_passOneDay_5 : decode cX8_passOneDay 5 = .ok (.getfield 110, 3) := by decide +kernel
theorem dX8_passOneDay_8 : decode cX8_passOneDay 8 = .ok (.iconst 1, 1) := by decide +kernel
theorem dX8_passOneDay_9 : decode cX8_passOneDay 9 = .ok (.iadd, 1) := by decide +kernel
theorem dX8_passOneDay_10 : decode cX8_passOneDay 10 = .ok (.putfield 110, 3) := by decide +kernel
theorem dX8_passOneDay_13 : decode cX8_passOneDay 13 = .ok (.iconst 0, 1) := by decide +kernel
theorem dX8_passOneDay_14 : decode cX8_passOneDay 14 = .ok (.istore_n 1, 1) := by decide +kernel
theorem dX8_passOneDay_15 : decode cX8_passOneDay 15 = .ok (.iload_n 1, 1) := by decide +kernel
theorem dX8_passOneDay_16 : decode cX8_passOneDay 16 = .ok (.aload_n 0, 1) := by decide +kernel
theorem dX8_passOneDay_17 : decode cX8_passOneDay 17 = .ok (.getfield 10, 3) := by decide +kernel
theorem dX8_passOneDay_20 : decode cX8_passOneDay 20 = .ok (.getfield 192, 3) := by decide +kernel
theorem dX8_passOneDay_23 : decode cX8_passOneDay 23 = .ok (.if_icmp .ge 55, 3) := by decide +kernel
theorem dX8_passOneDay_26 : decode cX8_passOneDay 26 = .ok (.aload_n 0, 1) := by decide +kernel
theorem dX8_passOneDay_27 : decode cX8_passOneDay 27 = .ok (.getfield 10, 3) := by decide +kernel
theorem dX8_passOneDay_30 : decode cX8_passOneDay 30 = .ok (.iload_n 1, 1) := by decide +kernel
theorem dX8_passOneDay_31 : decode cX8_passOneDay 31 = .ok (.iconst 4, 1) := by decide +kernel
theorem dX8_passOneDay_32 : decode cX8_passOneDay 32 = .ok (.invokevirtual 90, 3) := by decide +kernel
theorem dX8_passOneDay_35 : decode cX8_passOneDay 35 = .ok (.iconst 1, 1) := by decide +kernel
theorem dX8_passOneDay_36 : decode cX8_passOneDay 36 = .ok (.if_icmp .ne 36, 3) := by decide +kernel
theorem dX8_passOneDay_39 : decode cX8_passOneDay 39 = .ok (.aload_n 0, 1) := by decide +kernel
theorem dX8_passOneDay_40 : decode cX8_passOneDay 40 = .ok (.getfield 10, 3) := by decide +kernel
theorem dX8_passOneDay_43 : decode cX8_passOneDay 43 = .ok (.iload_n 1, 1) := by decide +kernel
theorem dX8_passOneDay_44 : decode cX8_passOneDay 44 = .ok (.bipush 6, 2) := by decide +kernel
theorem dX8_passOneDay_46 : decode cX8_passOneDay 46 = .ok (.invokevirtual 90, 3) := by decide +kernel
theorem dX8_passOneDay_49 : decode cX8_passOneDay 49 = .ok (.aload_n 0, 1) := by decide +kernel
theorem dX8_passOneDay_50 : decode cX8_passOneDay 50 = .ok (.getfield 10, 3) := by decide +kernel
theorem dX8_passOneDay_53 : decode cX8_passOneDay 53 = .ok (.getfield 110, 3) := by decide +kernel
theorem dX8_passOneDay_56 : decode cX8_passOneDay 56 = .ok (.if_icmp .ne 16, 3) := by decide +kernel
theorem dX8_passOneDay_59 : decode cX8_passOneDay 59 = .ok (.aload_n 0, 1) := by decide +kernel
theorem dX8_passOneDay_60 : decode cX8_passOneDay 60 = .ok (.getfield 10, 3) := by decide +kernel
theorem dX8_passOneDay_63 : decode cX8_passOneDay 63 = .ok (.iload_n 1, 1) := by decide +kernel
theorem dX8_passOneDay_64 : decode cX8_passOneDay 64 = .ok (.aload_n 0, 1) := by decide +kernel
theorem dX8_passOneDay_65 : decode cX8_passOneDay 65 = .ok (.iload_n 1, 1) := by decide +kernel
theorem dX8_passOneDay_66 : decode cX8_passOneDay 66 = .ok (.invokevirtual 261, 3) := by decide +kernel
theorem dX8_passOneDay_69 : decode cX8_passOneDay 69 = .ok (.invokevirtual 264, 3) := by decide +kernel
theorem dX8_passOneDay_72 : decode cX8_passOneDay 72 = .ok (.iinc 1 1, 3) := by decide +kernel
theorem dX8_passOneDay_75 : decode cX8_passOneDay 75 = .ok (.goto (-60), 3) := by decide +kernel
theorem dX8_passOneDay_78 : decode cX8_passOneDay 78 = .ok (.aload_n 0, 1) := by decide +kernel
theorem dX8_passOneDay_79 : decode cX8_passOneDay 79 = .ok (.getfield 10, 3) := by decide +kernel
theorem dX8_passOneDay_82 : decode cX8_passOneDay 82 = .ok (.invokevirtual 267, 3) := by decide +kernel
theorem dX8_passOneDay_85 : decode cX8_passOneDay 85 = .ok (.return_, 1) := by decide +kernel
set_option maxRecDepth 20000 in
theorem ggX8_fateAtMarket_X1_lookAtTraveller : GoodIn wsX8_fateAtMarket wsX1_lookAtTraveller := goodIn_r _ [7, 8, 9, 10, 6, 11, 12, 13, 14, 15, 16, 17, 18, 19, 20, 21, 22, 23, 24, 25, 26, 27, 28, 29, 30, 108, 109, 110, 111, 112, 113, 114, 115, 116, 117, 118, 119, 120, 121, 122, 123, 124] (by decide +kernel) (by decide +kernel)
set_option maxRecDepth 20000 in
theorem gX8_fateAtMarket_X1_lookAtTraveller : GoodIn wsX8_fateAtMarket (wsV RX8 270 RX1 yX1_lookAtTraveller wsX1_lookAtTraveller) := goodIn_app (goodIn_of _ (by decide +kernel)) ggX8_fateAtMarket_X1_lookAtTraveller
set_option maxRecDepth 20000 in
theorem ggX8_fateAtMarket_X4_draw : GoodIn wsX8_fateAtMarket wsX4_draw := goodIn_r _ [34, 35, 112, 113, 114, 115, 116, 117, 118, 119, 120, 121, 122, 123, 124] (by decide +kernel) (by decide +kernel)
set_option maxRecDepth 20000 in
theorem gX8_fateAtMarket_X4_draw : GoodIn wsX8_fateAtMarket (wsV RX8 274 RX4 yX4_draw wsX4_draw) := goodIn_app (goodIn_of _ (by decide +kernel)) ggX8_fateAtMarket_X4_draw
set_option maxRecDepth 20000 in
theorem ggX8_fateAtMarket_X1_rule : GoodIn wsX8_fateAtMarket wsX1_rule := goodIn_r _ [39, 40, 41, 42, 43, 44, 45, 46, 47, 48, 49, 50, 51, 6, 52, 53, 54, 55, 56, 57, 58, 59, 60, 61, 62, 63, 12, 64, 65, 66, 67, 68, 69, 70, 71, 72, 73, 74, 75, 76, 77, 78, 79, 80, 81, 82, 83, 84, 85, 86, 87, 88, 89, 90, 91, 92, 93, 94, 95, 96, 97, 98, 112, 113, 114, 115, 116, 117, 118, 119, 120, 121, 122, 123, 124, 108, 109, 110, 111, 125, 126, 127, 128, 129, 130] (by decide +kernel) (by decide +kernel)
set_option maxRecDepth 20000 in
theorem gX8_fateAtMarket_X1_rule : GoodIn wsX8_fateAtMarket (wsV RX8 277 RX1 yX1_rule wsX1_rule) := goodIn_app (goodIn_of _ (by decide +kernel)) ggX8_fateAtMarket_X1_rule
set_option maxRecDepth 20000 in
theorem ggX8_fateAtMarket_X4_ofGoose : GoodIn wsX8_fateAtMarket wsX4_ofGoose := goodIn_r _ [18, 19, 20, 112, 113, 114, 115, 116, 117, 118, 119, 120, 121, 122, 123, 124] (by decide +kernel) (by decide +kernel)
set_option maxRecDepth 20000 in
theorem gX8_fateAtMarket_X4_ofGoose : GoodIn wsX8_fateAtMarket (wsV RX8 90 RX4 yX4_ofGoose wsX4_ofGoose) := goodIn_app (goodIn_of _ (by decide +kernel)) ggX8_fateAtMarket_X4_ofGoose
theorem dX8_fateAtMarket_0 : decode cX8_fateAtMarket 0 = .ok (.aload_n 0, 1) := by decide +kernel
theorem dX8_fateAtMarket_1 : decode cX8_fateAtMarket 1 = .ok (.getfield 43, 3) := by decide +kernel
theorem dX8_fateAtMarket_4 : decode cX8_fateAtMarket 4 = .ok (.aload_n 0, 1) := by decide +kernel
theorem dX8_fateAtMarket_5 : decode cX8_fateAtMarket 5 = .ok (.getfield 10, 3) := by decide +kernel
theorem dX8_fateAtMarket_8 : decode cX8_fateAtMarket 8 = .ok (.iload_n 1, 1) := by decide +kernel
theorem dX8_fateAtMarket_9 : decode cX8_fateAtMarket 9 = .ok (.invokevirtual 270, 3) := by decide +kernel
theorem dX8_fateAtMarket_12 : decode cX8_fateAtMarket 12 = .ok (.aload_n 0, 1) := by decide +kernel
theorem dX8_fateAtMarket_13 : decode cX8_fateAtMarket 13 = .ok (.getfield 10, 3) := by decide +kernel
theorem dX8_fateAtMarket_16 : decode cX8_fateAtMarket 16 = .ok (.invokevirtual 274, 3) := by decide +kernel
theorem dX8_fateAtMarket_19 : decode cX8_fateAtMarket 19 = .ok (.aload_n 0, 1) := by decide +kernel
theorem dX8_fateAtMarket_20 : decode cX8_fateAtMarket 20 = .ok (.getfield 43, 3) := by decide +kernel
theorem dX8_fateAtMarket_23 : decode cX8_fateAtMarket 23 = .ok (.aload_n 0, 1) := by decide +kernel
theorem dX8_fateAtMarket_24 : decode cX8_fateAtMarket 24 = .ok (.getfield 10, 3) := by decide +kernel
theorem dX8_fateAtMarket_27 : decode cX8_fateAtMarket 27 = .ok (.iconst 0, 1) := by decide +kernel
theorem dX8_fateAtMarket_28 : decode cX8_fateAtMarket 28 = .ok (.invokevirtual 277, 3) := by decide +kernel
theorem dX8_fateAtMarket_31 : decode cX8_fateAtMarket 31 = .ok (.if_icmp .lt 5, 3) := by decide +kernel
theorem dX8_fateAtMarket_34 : decode cX8_fateAtMarket 34 = .ok (.iconst 2, 1) := by decide +kernel
theorem dX8_fateAtMarket_35 : decode cX8_fateAtMarket 35 = .ok (.ireturn, 1) := by decide +kernel
theorem dX8_fateAtMarket_36 : decode cX8_fateAtMarket 36 = .ok (.aload_n 0, 1) := by decide +kernel
theorem dX8_fateAtMarket_37 : decode cX8_fateAtMarket 37 = .ok (.getfield 10, 3) := by decide +kernel
theorem dX8_fateAtMarket_40 : decode cX8_fateAtMarket 40 = .ok (.iload_n 1, 1) := by decide +kernel
theorem dX8_fateAtMarket_41 : decode cX8_fateAtMarket 41 = .ok (.iconst 2, 1) := by decide +kernel
theorem dX8_fateAtMarket_42 : decode cX8_fateAtMarket 42 = .ok (.invokevirtual 90, 3) := by decide +kernel
theorem dX8_fateAtMarket_45 : decode cX8_fateAtMarket 45 = .ok (.iconst (-1), 1) := by decide +kernel
theorem dX8_fateAtMarket_46 : decode cX8_fateAtMarket 46 = .ok (.if_icmp .ne 5, 3) := by decide +kernel
theorem dX8_fateAtMarket_49 : decode cX8_fateAtMarket 49 = .ok (.iconst 3, 1) := by decide +kernel
theorem dX8_fateAtMarket_50 : decode cX8_fateAtMarket 50 = .ok (.ireturn, 1) := by decide +kernel
theorem dX8_fateAtMarket_51 : decode cX8_fateAtMarket 51 = .ok (.aload_n 0, 1) := by decide +kernel
theorem dX8_fateAtMarket_52 : decode cX8_fateAtMarket 52 = .ok (.getfield 10, 3) := by decide +kernel
theorem dX8_fateAtMarket_55 : decode cX8_fateAtMarket 55 = .ok (.invokevirtual 274, 3) := by decide +kernel
theorem dX8_fateAtMarket_58 : decode cX8_fateAtMarket 58 = .ok (.aload_n 0, 1) := by decide +kernel
theorem dX8_fateAtMarket_59 : decode cX8_fateAtMarket 59 = .ok (.getfield 43, 3) := by decide +kernel
theorem dX8_fateAtMarket_62 : decode cX8_fateAtMarket 62 = .ok (.aload_n 0, 1) := by decide +kernel
theorem dX8_fateAtMarket_63 : decode cX8_fateAtMarket 63 = .ok (.getfield 10, 3) := by decide +kernel
theorem dX8_fateAtMarket_66 : decode cX8_fateAtMarket 66 = .ok (.iconst 1, 1) := by decide +kernel
theorem dX8_fateAtMarket_67 : decode cX8_fateAtMarket 67 = .ok (.invokevirtual 277, 3) := by decide +kernel
theorem dX8_fateAtMarket_70 : decode cX8_fateAtMarket 70 = .ok (.if_icmp .ge 7, 3) := by decide +kernel
theorem dX8_fateAtMarket_73 : decode cX8_fateAtMarket 73 = .ok (.iconst 4, 1) := by decide +kernel
theorem dX8_fateAtMarket_74 : decode cX8_fateAtMarket 74 = .ok (.goto 4, 3) := by decide +kernel
theorem dX8_fateAtMarket_77 : decode cX8_fateAtMarket 77 = .ok (.iconst 3, 1) := by decide +kernel
theorem dX8_fateAtMarket_78 : decode cX8_fateAtMarket 78 = .ok (.ireturn, 1) := by decide +kernel
set_option maxRecDepth 20000 in
theorem ggX8_tells_X4_ofGoose : GoodIn wsX8_tells wsX4_ofGoose := goodIn_r _ [7, 8, 9, 93, 94, 95, 96, 97, 98, 99, 100, 101, 102, 103, 104, 105] (by decide +kernel) (by decide +kernel)
set_option maxRecDepth 20000 in
theorem gX8_tells_X4_ofGoose : GoodIn wsX8_tells (wsV RX8 90 RX4 yX4_ofGoose wsX4_ofGoose) := goodIn_app (goodIn_of _ (by decide +kernel)) ggX8_tells_X4_ofGoose
set_option maxRecDepth 20000 in
theorem ggX8_tells_X1_isTrue : GoodIn wsX8_tells wsX1_isTrue := goodIn_r _ [14, 15, 16, 17, 13, 18, 19, 20, 21, 4, 5, 6, 7, 8, 9, 22, 23, 24, 25, 26, 27, 28, 29, 30, 31, 32, 33, 34, 35, 36, 37, 38, 39, 40, 41, 42, 43, 44, 45, 46, 47, 48, 49, 50, 51, 52, 53, 54, 55, 56, 57, 58, 59, 60, 61, 62, 63, 64, 65, 66, 67, 68, 69, 70, 71, 72, 73, 74, 75, 76, 77, 78, 79, 80, 81, 82, 83, 84, 106, 107, 108, 109, 93, 94, 95, 96, 97, 98, 99, 100, 101, 102, 103, 104, 105, 110, 111, 112, 113, 114, 115] (by decide +kernel) (by decide +kernel)
set_option maxRecDepth 20000 in
theorem gX8_tells_X1_isTrue : GoodIn wsX8_tells (wsV RX8 181 RX1 yX1_isTrue wsX1_isTrue) := goodIn_app (goodIn_of _ (by decide +kernel)) ggX8_tells_X1_isTrue
theorem dX8_tells_0 : decode cX8_tells 0 = .ok (.aload_n 0, 1) := by decide +kernel
theorem dX8_tells_1 : decode cX8_tells 1 = .ok (.getfield 10, 3) := by decide +kernel
theorem dX8_tells_4 : decode cX8_tells 4 = .ok (.iload_n 1, 1) := by decide +kernel
theorem dX8_tells_5 : decode cX8_tells 5 = .ok (.iconst 2, 1) := by decide +kernel
theorem dX8_tells_6 : decode cX8_tells 6 = .ok (.invokevirtual 90, 3) := by decide +kernel
theorem dX8_tells_9 : decode cX8_tells 9 = .ok (.iload_n 2, 1) := by decide +kernel
theorem dX8_tells_10 : decode cX8_tells 10 = .ok (.if_icmp .eq 5, 3) := by decide +kernel
theorem dX8_tells_13 : decode cX8_tells 13 = .ok (.iconst 0, 1) := by decide +kernel
theorem dX8_tells_14 : decode cX8_tells 14 = .ok (.ireturn, 1) := by decide +kernel
theorem dX8_tells_15 : decode cX8_tells 15 = .ok (.iload_n 3, 1) := by decide +kernel
theorem dX8_tells_16 : decode cX8_tells 16 = .ok (.ifCond .eq 22, 3) := by decide +kernel
theorem dX8_tells_19 : decode cX8_tells 19 = .ok (.aload_n 0, 1) := by decide +kernel
theorem dX8_tells_20 : decode cX8_tells 20 = .ok (.getfield 10, 3) := by decide +kernel
theorem dX8_tells_23 : decode cX8_tells 23 = .ok (.iload_n 1, 1) := by decide +kernel
theorem dX8_tells_24 : decode cX8_tells 24 = .ok (.iconst 4, 1) := by decide +kernel
theorem dX8_tells_25 : decode cX8_tells 25 = .ok (.invokevirtual 90, 3) := by decide +kernel
theorem dX8_tells_28 : decode cX8_tells 28 = .ok (.iconst 4, 1) := by decide +kernel
theorem dX8_tells_29 : decode cX8_tells 29 = .ok (.if_icmp .ne 7, 3) := by decide +kernel
theorem dX8_tells_32 : decode cX8_tells 32 = .ok (.iconst 1, 1) := by decide +kernel
theorem dX8_tells_33 : decode cX8_tells 33 = .ok (.goto 4, 3) := by decide +kernel
theorem dX8_tells_36 : decode cX8_tells 36 = .ok (.iconst 0, 1) := by decide +kernel
theorem dX8_tells_37 : decode cX8_tells 37 = .ok (.ireturn, 1) := by decide +kernel
theorem dX8_tells_38 : decode cX8_tells 38 = .ok (.aload_n 0, 1) := by decide +kernel
theorem dX8_tells_39 : decode cX8_tells 39 = .ok (.getfield 10, 3) := by decide +kernel
theorem dX8_tells_42 : decode cX8_tells 42 = .ok (.iload_n 1, 1) := by decide +kernel
theorem dX8_tells_43 : decode cX8_tells 43 = .ok (.iconst 4, 1) := by decide +kernel
theorem dX8_tells_44 : decode cX8_tells 44 = .ok (.invokevirtual 90, 3) := by decide +kernel
theorem dX8_tells_47 : decode cX8_tells 47 = .ok (.iconst 2, 1) := by decide +kernel
theorem dX8_tells_48 : decode cX8_tells 48 = .ok (.if_icmp .ne 22, 3) := by decide +kernel
theorem dX8_tells_51 : decode cX8_tells 51 = .ok (.aload_n 0, 1) := by decide +kernel
theorem dX8_tells_52 : decode cX8_tells 52 = .ok (.getfield 43, 3) := by decide +kernel
theorem dX8_tells_55 : decode cX8_tells 55 = .ok (.aload_n 0, 1) := by decide +kernel
theorem dX8_tells_56 : decode cX8_tells 56 = .ok (.getfield 10, 3) := by decide +kernel
theorem dX8_tells_59 : decode cX8_tells 59 = .ok (.iload_n 1, 1) := by decide +kernel
theorem dX8_tells_60 : decode cX8_tells 60 = .ok (.invokevirtual 181, 3) := by decide +kernel
theorem dX8_tells_63 : decode cX8_tells 63 = .ok (.ifCond .eq 7, 3) := by decide +kernel
theorem dX8_tells_66 : decode cX8_tells 66 = .ok (.iconst 1, 1) := by decide +kernel
theorem dX8_tells_67 : decode cX8_tells 67 = .ok (.goto 4, 3) := by decide +kernel
theorem dX8_tells_70 : decode cX8_tells 70 = .ok (.iconst 0, 1) := by decide +kernel
theorem dX8_tells_71 : decode cX8_tells 71 = .ok (.ireturn, 1) := by decide +kernel
set_option maxRecDepth 20000 in
theorem ggX8_halvesHad_X4_ofGoose : GoodIn wsX8_halvesHad wsX4_ofGoose := goodIn_r _ [7, 8, 9, 102, 103, 104, 105, 106, 107, 108, 109, 110, 111, 112, 113, 114] (by decide +kernel) (by decide +kernel)
set_option maxRecDepth 20000 in
theorem gX8_halvesHad_X4_ofGoose : GoodIn wsX8_halvesHad (wsV RX8 90 RX4 yX4_ofGoose wsX4_ofGoose) := goodIn_app (goodIn_of _ (by decide +kernel)) ggX8_halvesHad_X4_ofGoose
set_option maxRecDepth 20000 in
theorem ggX8_halvesHad_X8_tells : GoodIn wsX8_halvesHad wsX8_tells := goodIn_r _ [14, 1, 15, 3, 4, 5, 6, 7, 8, 9, 16, 17, 18, 19, 20, 21, 22, 23, 24, 25, 26, 27, 28, 29, 30, 31, 32, 33, 34, 35, 36, 37, 38, 39, 40, 41, 42, 43, 44, 45, 46, 47, 48, 49, 50, 51, 52, 53, 54, 55, 56, 57, 58, 59, 60, 61, 62, 63, 64, 65, 66, 67, 68, 69, 70, 71, 72, 73, 74, 75, 76, 77, 78, 79, 80, 81, 82, 83, 84, 85, 86, 87, 88, 89, 90, 94, 95, 96, 97, 98, 99, 100, 101, 102, 103, 104, 105, 106, 107, 108, 109, 110, 111, 112, 113, 114, 115, 116, 117, 118, 119, 120, 121, 122, 123, 124] (by decide +kernel) (by decide +kernel)
set_option maxRecDepth 20000 in
theorem gX8_halvesHad_X8_tells : GoodIn wsX8_halvesHad (wsV RX8 195 RX8 yX8_tells wsX8_tells) := goodIn_app (goodIn_of _ (by decide +kernel)) ggX8_halvesHad_X8_tells
set_option maxRecDepth 20000 in
theorem ggX8_halvesHad_X8_halvesOf : GoodIn wsX8_halvesHad wsX8_halvesOf := goodIn_r _ [93] (by decide +kernel) (by decide +kernel)
set_option maxRecDepth 20000 in
theorem gX8_halvesHad_X8_halvesOf : GoodIn wsX8_halvesHad (va_wsS RX8 281 yX8_halvesOf wsX8_halvesOf) := goodIn_app (goodIn_of _ (by decide +kernel)) ggX8_halvesHad_X8_halvesOf
theorem dX8_halvesHad_0 : decode cX8_halvesHad 0 = .ok (.iconst 0, 1) := by decide +kernel
theorem dX8_halvesHad_1 : decode cX8_halvesHad 1 = .ok (.istore 5, 2) := by decide +kernel
theorem dX8_halvesHad_3 : decode cX8_halvesHad 3 = .ok (.iconst 0, 1) := by decide +kernel
theorem dX8_halvesHad_4 : decode cX8_halvesHad 4 = .ok (.istore 6, 2) := by decide +kernel
theorem dX8_halvesHad_6 : decode cX8_halvesHad 6 = .ok (.iload 6, 2) := by decide +kernel
theorem dX8_halvesHad_8 : decode cX8_halvesHad 8 = .ok (.aload_n 0, 1) := by decide +kernel
theorem dX8_halvesHad_9 : decode cX8_halvesHad 9 = .ok (.getfield 10, 3) := by decide +kernel
theorem dX8_halvesHad_12 : decode cX8_halvesHad 12 = .ok (.getfield 192, 3) := by decide +kernel
theorem dX8_halvesHad_15 : decode cX8_halvesHad 15 = .ok (.if_icmp .ge 70, 3) := by decide +kernel
theorem dX8_halvesHad_18 : decode cX8_halvesHad 18 = .ok (.aload_n 0, 1) := by decide +kernel
theorem dX8_halvesHad_19 : decode cX8_halvesHad 19 = .ok (.getfield 10, 3) := by decide +kernel
theorem dX8_halvesHad_22 : decode cX8_halvesHad 22 = .ok (.iload 6, 2) := by decide +kernel
theorem dX8_halvesHad_24 : decode cX8_halvesHad 24 = .ok (.bipush 7, 2) := by decide +kernel
theorem dX8_halvesHad_26 : decode cX8_halvesHad 26 = .ok (.invokevirtual 90, 3) := by decide +kernel
theorem dX8_halvesHad_29 : decode cX8_halvesHad 29 = .ok (.istore 7, 2) := by decide +kernel
theorem dX8_halvesHad_31 : decode cX8_halvesHad 31 = .ok (.iload 7, 2) := by decide +kernel
theorem dX8_halvesHad_33 : decode cX8_halvesHad 33 = .ok (.iload_n 3, 1) := by decide +kernel
theorem dX8_halvesHad_34 : decode cX8_halvesHad 34 = .ok (.if_icmp .lt 16, 3) := by decide +kernel
theorem dX8_halvesHad_37 : decode cX8_halvesHad 37 = .ok (.iload 7, 2) := by decide +kernel
theorem dX8_halvesHad_39 : decode cX8_halvesHad 39 = .ok (.iload_n 3, 1) := by decide +kernel
theorem dX8_halvesHad_40 : decode cX8_halvesHad 40 = .ok (.if_icmp .ne 39, 3) := by decide +kernel
theorem dX8_halvesHad_43 : decode cX8_halvesHad 43 = .ok (.iload 6, 2) := by decide +kernel
theorem dX8_halvesHad_45 : decode cX8_halvesHad 45 = .ok (.iload 4, 2) := by decide +kernel
theorem dX8_halvesHad_47 : decode cX8_halvesHad 47 = .ok (.if_icmp .ge 32, 3) := by decide +kernel
theorem dX8_halvesHad_50 : decode cX8_halvesHad 50 = .ok (.aload_n 0, 1) := by decide +kernel
theorem dX8_halvesHad_51 : decode cX8_halvesHad 51 = .ok (.iload 6, 2) := by decide +kernel
theorem dX8_halvesHad_53 : decode cX8_halvesHad 53 = .ok (.iload_n 1, 1) := by decide +kernel
theorem dX8_halvesHad_54 : decode cX8_halvesHad 54 = .ok (.iload_n 2, 1) := by decide +kernel
theorem dX8_halvesHad_55 : decode cX8_halvesHad 55 = .ok (.invokevirtual 195, 3) := by decide +kernel
theorem dX8_halvesHad_58 : decode cX8_halvesHad 58 = .ok (.ifCond .eq 21, 3) := by decide +kernel
theorem dX8_halvesHad_61 : decode cX8_halvesHad 61 = .ok (.iload 5, 2) := by decide +kernel
theorem dX8_halvesHad_63 : decode cX8_halvesHad 63 = .ok (.aload_n 0, 1) := by decide +kernel
theorem dX8_halvesHad_64 : decode cX8_halvesHad 64 = .ok (.getfield 10, 3) := by decide +kernel
theorem dX8_halvesHad_67 : decode cX8_halvesHad 67 = .ok (.iload 6, 2) := by decide +kernel
theorem dX8_halvesHad_69 : decode cX8_halvesHad 69 = .ok (.iconst 3, 1) := by decide +kernel
theorem dX8_halvesHad_70 : decode cX8_halvesHad 70 = .ok (.invokevirtual 90, 3) := by decide +kernel
theorem dX8_halvesHad_73 : decode cX8_halvesHad 73 = .ok (.invokestatic 281, 3) := by decide +kernel
theorem dX8_halvesHad_76 : decode cX8_halvesHad 76 = .ok (.ior, 1) := by decide +kernel
theorem dX8_halvesHad_77 : decode cX8_halvesHad 77 = .ok (.istore 5, 2) := by decide +kernel
theorem dX8_halvesHad_79 : decode cX8_halvesHad 79 = .ok (.iinc 6 1, 3) := by decide +kernel
theorem dX8_halvesHad_82 : decode cX8_halvesHad 82 = .ok (.goto (-76), 3) := by decide +kernel
theorem dX8_halvesHad_85 : decode cX8_halvesHad 85 = .ok (.iload 5, 2) := by decide +kernel
theorem dX8_halvesHad_87 : decode cX8_halvesHad 87 = .ok (.ireturn, 1) := by decide +kernel
set_option maxRecDepth 20000 in
theorem ggX9_init_X9_copies : GoodIn wsX9_init wsX9_copies := goodIn_r _ [48, 6, 5, 49, 50, 51, 52, 53, 54, 55, 56, 57, 58, 59, 60, 61, 62, 63, 64, 65, 66, 67, 68, 69, 70, 71, 72, 73, 74, 75, 76, 77, 78, 79, 80, 81, 82, 83, 84, 85, 86, 87, 88, 89, 90, 91, 92, 93, 94, 95, 96, 97, 98, 99, 100, 101] (by decide +kernel) (by decide +kernel)
set_option maxRecDepth 20000 in
theorem gX9_init_X9_copies : GoodIn wsX9_init (wsV RX9 122 RX9 yX9_copies wsX9_copies) := goodIn_app (goodIn_of _ (by decide +kernel)) ggX9_init_X9_copies
theorem dX9_init_0 : decode cX9_init 0 = .ok (.aload_n 0, 1) := by decide +kernel
theorem dX9_init_1 : decode cX9_init 1 = .ok (.invokespecial 1, 3) := by decide +kernel
theorem dX9_init_4 : decode cX9_init 4 = .ok (.aload_n 0, 1) := by decide +kernel
theorem dX9_init_5 : decode cX9_init 5 = .ok (.sipush 1990, 3) := by decide +kernel
theorem dX9_init_8 : decode cX9_init 8 = .ok (.newarray .int, 2) := by decide +kernel
theorem dX9_init_10 : decode cX9_init 10 = .ok (.putfield 7, 3) := by decide +kernel
theorem dX9_init_13 : decode cX9_init 13 = .ok (.aload_n 0, 1) := by decide +kernel
theorem dX9_init_14 : decode cX9_init 14 = .ok (.sipush 1990, 3) := by decide +kernel
theorem dX9_init_17 : decode cX9_init 17 = .ok (.newarray .int, 2) := by decide +kernel
theorem dX9_init_19 : decode cX9_init 19 = .ok (.putfield 13, 3) := by decide +kernel
theorem dX9_init_22 : decode cX9_init 22 = .ok (.aload_n 0, 1) := by decide +kernel
theorem dX9_init_23 : decode cX9_init 23 = .ok (.sipush 300, 3) := by decide +kernel
theorem dX9_init_26 : decode cX9_init 26 = .ok (.newarray .byte, 2) := by decide +kernel
theorem dX9_init_28 : decode cX9_init 28 = .ok (.putfield 16, 3) := by decide +kernel
theorem dX9_init_31 : decode cX9_init 31 = .ok (.aload_n 0, 1) := by decide +kernel
theorem dX9_init_32 : decode cX9_init 32 = .ok (.iconst (-1), 1) := by decide +kernel
theorem dX9_init_33 : decode cX9_init 33 = .ok (.putfield 20, 3) := by decide +kernel
theorem dX9_init_36 : decode cX9_init 36 = .ok (.aload_n 0, 1) := by decide +kernel
theorem dX9_init_37 : decode cX9_init 37 = .ok (.iconst (-1), 1) := by decide +kernel
theorem dX9_init_38 : decode cX9_init 38 = .ok (.putfield 24, 3) := by decide +kernel
theorem dX9_init_41 : decode cX9_init 41 = .ok (.aload_n 0, 1) := by decide +kernel
theorem dX9_init_42 : decode cX9_init 42 = .ok (.iconst 4, 1) := by decide +kernel
theorem dX9_init_43 : decode cX9_init 43 = .ok (.newarray .int, 2) := by decide +kernel
theorem dX9_init_45 : decode cX9_init 45 = .ok (.putfield 27, 3) := by decide +kernel
theorem dX9_init_48 : decode cX9_init 48 = .ok (.aload_n 0, 1) := by decide +kernel
theorem dX9_init_49 : decode cX9_init 49 = .ok (.bipush 96, 2) := by decide +kernel
theorem dX9_init_51 : decode cX9_init 51 = .ok (.newarray .int, 2) := by decide +kernel
theorem dX9_init_53 : decode cX9_init 53 = .ok (.putfield 30, 3) := by decide +kernel
theorem dX9_init_56 : decode cX9_init 56 = .ok (.aload_n 0, 1) := by decide +kernel
theorem dX9_init_57 : decode cX9_init 57 = .ok (.bipush 96, 2) := by decide +kernel
theorem dX9_init_59 : decode cX9_init 59 = .ok (.newarray .int, 2) := by decide +kernel
theorem dX9_init_61 : decode cX9_init 61 = .ok (.putfield 33, 3) := by decide +kernel
theorem dX9_init_64 : decode cX9_init 64 = .ok (.aload_n 0, 1) := by decide +kernel
theorem dX9_init_65 : decode cX9_init 65 = .ok (.bipush 96, 2) := by decide +kernel
theorem dX9_init_67 : decode cX9_init 67 = .ok (.newarray .int, 2) := by decide +kernel
theorem dX9_init_69 : decode cX9_init 69 = .ok (.putfield 36, 3) := by decide +kernel
theorem dX9_init_72 : decode cX9_init 72 = .ok (.aload_n 0, 1) := by decide +kernel
theorem dX9_init_73 : decode cX9_init 73 = .ok (.bipush 96, 2) := by decide +kernel
theorem dX9_init_75 : decode cX9_init 75 = .ok (.newarray .int, 2) := by decide +kernel
theorem dX9_init_77 : decode cX9_init 77 = .ok (.putfield 39, 3) := by decide +kernel
theorem dX9_init_80 : decode cX9_init 80 = .ok (.aload_n 0, 1) := by decide +kernel
theorem dX9_init_81 : decode cX9_init 81 = .ok (.bipush 96, 2) := by decide +kernel
theorem dX9_init_83 : decode cX9_init 83 = .ok (.newarray .int, 2) := by decide +kernel
theorem dX9_init_85 : decode cX9_init 85 = .ok (.putfield 42, 3) := by decide +kernel
theorem dX9_init_88 : decode cX9_init 88 = .ok (.aload_n 0, 1) := by decide +kernel
theorem dX9_init_89 : decode cX9_init 89 = .ok (.sipush 1600, 3) := by decide +kernel
theorem dX9_init_92 : decode cX9_init 92 = .ok (.newarray .int, 2) := by decide +kernel
theorem dX9_init_94 : decode cX9_init 94 = .ok (.putfield 45, 3) := by decide +kernel
theorem dX9_init_97 : decode cX9_init 97 = .ok (.aload_n 0, 1) := by decide +kernel
theorem dX9_init_98 : decode cX9_init 98 = .ok (.sipush 1600, 3) := by decide +kernel
theorem dX9_init_101 : decode cX9_init 101 = .ok (.newarray .int, 2) := by decide +kernel
theorem dX9_init_103 : decode cX9_init 103 = .ok (.putfield 48, 3) := by decide +kernel
theorem dX9_init_106 : decode cX9_init 106 = .ok (.aload_n 0, 1) := by decide +kernel
theorem dX9_init_107 : decode cX9_init 107 = .ok (.bipush 40, 2) := by decide +kernel
theorem dX9_init_109 : decode cX9_init 109 = .ok (.newarray .int, 2) := by decide +kernel
theorem dX9_init_111 : decode cX9_init 111 = .ok (.putfield 51, 3) := by decide +kernel
theorem dX9_init_114 : decode cX9_init 114 = .ok (.aload_n 0, 1) := by decide +kernel
theorem dX9_init_115 : decode cX9_init 115 = .ok (.bipush 41, 2) := by decide +kernel
theorem dX9_init_117 : decode cX9_init 117 = .ok (.newarray .int, 2) := by decide +kernel
theorem dX9_init_119 : decode cX9_init 119 = .ok (.putfield 54, 3) := by decide +kernel
theorem dX9_init_122 : decode cX9_init 122 = .ok (.aload_n 0, 1) := by decide +kernel
theorem dX9_init_123 : decode cX9_init 123 = .ok (.bipush 80, 2) := by decide +kernel
theorem dX9_init_125 : decode cX9_init 125 = .ok (.newarray .int, 2) := by decide +kernel
theorem dX9_init_127 : decode cX9_init 127 = .ok (.putfield 57, 3) := by decide +kernel
theorem dX9_init_130 : decode cX9_init 130 = .ok (.aload_n 0, 1) := by decide +kernel
theorem dX9_init_131 : decode cX9_init 131 = .ok (.bipush 80, 2) := by decide +kernel
theorem dX9_init_133 : decode cX9_init 133 = .ok (.newarray .int, 2) := by decide +kernel
theorem dX9_init_135 : decode cX9_init 135 = .ok (.putfield 60, 3) := by decide +kernel
theorem dX9_init_138 : decode cX9_init 138 = .ok (.aload_n 0, 1) := by decide +kernel
theorem dX9_init_139 : decode cX9_init 139 = .ok (.bipush 24, 2) := by decide +kernel
theorem dX9_init_141 : decode cX9_init 141 = .ok (.newarray .int, 2) := by decide +kernel
theorem dX9_init_143 : decode cX9_init 143 = .ok (.putfield 63, 3) := by decide +kernel
theorem dX9_init_146 : decode cX9_init 146 = .ok (.aload_n 0, 1) := by decide +kernel
theorem dX9_init_147 : decode cX9_init 147 = .ok (.bipush 24, 2) := by decide +kernel
theorem dX9_init_149 : decode cX9_init 149 = .ok (.newarray .int, 2) := by decide +kernel
theorem dX9_init_151 : decode cX9_init 151 = .ok (.putfield 66, 3) := by decide +kernel
theorem dX9_init_154 : decode cX9_init 154 = .ok (.aload_n 0, 1) := by decide +kernel
theorem dX9_init_155 : decode cX9_init 155 = .ok (.bipush 24, 2) := by decide +kernel
theorem dX9_init_157 : decode cX9_init 157 = .ok (.newarray .int, 2) := by decide +kernel
theorem dX9_init_159 : decode cX9_init 159 = .ok (.putfield 69, 3) := by decide +kernel
theorem dX9_init_162 : decode cX9_init 162 = .ok (.aload_n 0, 1) := by decide +kernel
theorem dX9_init_163 : decode cX9_init 163 = .ok (.bipush 24, 2) := by decide +kernel
theorem dX9_init_165 : decode cX9_init 165 = .ok (.newarray .int, 2) := by decide +kernel
theorem dX9_init_167 : decode cX9_init 167 = .ok (.putfield 72, 3) := by decide +kernel
theorem dX9_init_170 : decode cX9_init 170 = .ok (.aload_n 0, 1) := by decide +kernel
theorem dX9_init_171 : decode cX9_init 171 = .ok (.bipush 24, 2) := by decide +kernel
theorem dX9_init_173 : decode cX9_init 173 = .ok (.newarray .int, 2) := by decide +kernel
theorem dX9_init_175 : decode cX9_init 175 = .ok (.putfield 75, 3) := by decide +kernel
theorem dX9_init_178 : decode cX9_init 178 = .ok (.aload_n 0, 1) := by decide +kernel
theorem dX9_init_179 : decode cX9_init 179 = .ok (.sipush 400, 3) := by decide +kernel
theorem dX9_init_182 : decode cX9_init 182 = .ok (.newarray .int, 2) := by decide +kernel
theorem dX9_init_184 : decode cX9_init 184 = .ok (.putfield 78, 3) := by decide +kernel
theorem dX9_init_187 : decode cX9_init 187 = .ok (.aload_n 0, 1) := by decide +kernel
theorem dX9_init_188 : decode cX9_init 188 = .ok (.sipush 400, 3) := by decide +kernel
theorem dX9_init_191 : decode cX9_init 191 = .ok (.newarray .int, 2) := by decide +kernel
theorem dX9_init_193 : decode cX9_init 193 = .ok (.putfield 81, 3) := by decide +kernel
theorem dX9_init_196 : decode cX9_init 196 = .ok (.aload_n 0, 1) := by decide +kernel
theorem dX9_init_197 : decode cX9_init 197 = .ok (.bipush 9, 2) := by decide +kernel
theorem dX9_init_199 : decode cX9_init 199 = .ok (.newarray .int, 2) := by decide +kernel
theorem dX9_init_201 : decode cX9_init 201 = .ok (.putfield 84, 3) := by decide +kernel
theorem dX9_init_204 : decode cX9_init 204 = .ok (.aload_n 0, 1) := by decide +kernel
theorem dX9_init_205 : decode cX9_init 205 = .ok (.sipush 200, 3) := by decide +kernel
theorem dX9_init_208 : decode cX9_init 208 = .ok (.newarray .long, 2) := by decide +kernel
theorem dX9_init_210 : decode cX9_init 210 = .ok (.putfield 87, 3) := by decide +kernel
theorem dX9_init_213 : decode cX9_init 213 = .ok (.aload_n 0, 1) := by decide +kernel
theorem dX9_init_214 : decode cX9_init 214 = .ok (.bipush 16, 2) := by decide +kernel
theorem dX9_init_216 : decode cX9_init 216 = .ok (.newarray .long, 2) := by decide +kernel
theorem dX9_init_218 : decode cX9_init 218 = .ok (.putfield 91, 3) := by decide +kernel
theorem dX9_init_221 : decode cX9_init 221 = .ok (.aload_n 0, 1) := by decide +kernel
theorem dX9_init_222 : decode cX9_init 222 = .ok (.bipush 16, 2) := by decide +kernel
theorem dX9_init_224 : decode cX9_init 224 = .ok (.newarray .long, 2) := by decide +kernel
theorem dX9_init_226 : decode cX9_init 226 = .ok (.putfield 94, 3) := by decide +kernel
theorem dX9_init_229 : decode cX9_init 229 = .ok (.aload_n 0, 1) := by decide +kernel
theorem dX9_init_230 : decode cX9_init 230 = .ok (.bipush 120, 2) := by decide +kernel
theorem dX9_init_232 : decode cX9_init 232 = .ok (.newarray .int, 2) := by decide +kernel
theorem dX9_init_234 : decode cX9_init 234 = .ok (.putfield 97, 3) := by decide +kernel
theorem dX9_init_237 : decode cX9_init 237 = .ok (.aload_n 0, 1) := by decide +kernel
theorem dX9_init_238 : decode cX9_init 238 = .ok (.bipush 120, 2) := by decide +kernel
theorem dX9_init_240 : decode cX9_init 240 = .ok (.newarray .int, 2) := by decide +kernel
theorem dX9_init_242 : decode cX9_init 242 = .ok (.putfield 100, 3) := by decide +kernel
theorem dX9_init_245 : decode cX9_init 245 = .ok (.aload_n 0, 1) := by decide +kernel
theorem dX9_init_246 : decode cX9_init 246 = .ok (.bipush 120, 2) := by decide +kernel
theorem dX9_init_248 : decode cX9_init 248 = .ok (.newarray .boolean, 2) := by decide +kernel
theorem dX9_init_250 : decode cX9_init 250 = .ok (.putfield 103, 3) := by decide +kernel
theorem dX9_init_253 : decode cX9_init 253 = .ok (.aload_n 0, 1) := by decide +kernel
theorem dX9_init_254 : decode cX9_init 254 = .ok (.bipush 10, 2) := by decide +kernel
theorem dX9_init_256 : decode cX9_init 256 = .ok (.newarray .int, 2) := by decide +kernel
theorem dX9_init_258 : decode cX9_init 258 = .ok (.putfield 107, 3) := by decide +kernel
theorem dX9_init_261 : decode cX9_init 261 = .ok (.aload_n 0, 1) := by decide +kernel
theorem dX9_init_262 : decode cX9_init 262 = .ok (.iconst 3, 1) := by decide +kernel
theorem dX9_init_263 : decode cX9_init 263 = .ok (.newarray .int, 2) := by decide +kernel
theorem dX9_init_265 : decode cX9_init 265 = .ok (.putfield 110, 3) := by decide +kernel
theorem dX9_init_268 : decode cX9_init 268 = .ok (.aload_n 0, 1) := by decide +kernel
theorem dX9_init_269 : decode cX9_init 269 = .ok (.iconst 3, 1) := by decide +kernel
theorem dX9_init_270 : decode cX9_init 270 = .ok (.newarray .int, 2) := by decide +kernel
theorem dX9_init_272 : decode cX9_init 272 = .ok (.putfield 113, 3) := by decide +kernel
theorem dX9_init_275 : decode cX9_init 275 = .ok (.aload_n 0, 1) := by decide +kernel
theorem dX9_init_276 : decode cX9_init 276 = .ok (.iconst 3, 1) := by decide +kernel
theorem dX9_init_277 : decode cX9_init 277 = .ok (.newarray .int, 2) := by decide +kernel
theorem dX9_init_279 : decode cX9_init 279 = .ok (.putfield 116, 3) := by decide +kernel
theorem dX9_init_282 : decode cX9_init 282 = .ok (.aload_n 0, 1) := by decide +kernel
theorem dX9_init_283 : decode cX9_init 283 = .ok (.iconst 3, 1) := by decide +kernel
theorem dX9_init_284 : decode cX9_init 284 = .ok (.newarray .int, 2) := by decide +kernel
theorem dX9_init_286 : decode cX9_init 286 = .ok (.putfield 119, 3) := by decide +kernel
theorem dX9_init_289 : decode cX9_init 289 = .ok (.aload_n 0, 1) := by decide +kernel
theorem dX9_init_290 : decode cX9_init 290 = .ok (.getfield 7, 3) := by decide +kernel
theorem dX9_init_293 : decode cX9_init 293 = .ok (.iconst 4, 1) := by decide +kernel
theorem dX9_init_294 : decode cX9_init 294 = .ok (.iconst (-1), 1) := by decide +kernel
theorem dX9_init_295 : decode cX9_init 295 = .ok (.iastore, 1) := by decide +kernel
theorem dX9_init_296 : decode cX9_init 296 = .ok (.aload_n 0, 1) := by decide +kernel
theorem dX9_init_297 : decode cX9_init 297 = .ok (.getfield 7, 3) := by decide +kernel
theorem dX9_init_300 : decode cX9_init 300 = .ok (.bipush 122, 2) := by decide +kernel
theorem dX9_init_302 : decode cX9_init 302 = .ok (.bipush 9, 2) := by decide +kernel
theorem dX9_init_304 : decode cX9_init 304 = .ok (.iastore, 1) := by decide +kernel
theorem dX9_init_305 : decode cX9_init 305 = .ok (.aload_n 0, 1) := by decide +kernel
theorem dX9_init_306 : decode cX9_init 306 = .ok (.iconst 1, 1) := by decide +kernel
theorem dX9_init_307 : decode cX9_init 307 = .ok (.invokevirtual 122, 3) := by decide +kernel
theorem dX9_init_310 : decode cX9_init 310 = .ok (.return_, 1) := by decide +kernel
theorem dX9_in_0 : decode cX9_in 0 = .ok (.iload_n 0, 1) := by decide +kernel
theorem dX9_in_1 : decode cX9_in 1 = .ok (.iload_n 1, 1) := by decide +kernel
theorem dX9_in_2 : decode cX9_in 2 = .ok (.if_icmp .lt 12, 3) := by decide +kernel
theorem dX9_in_5 : decode cX9_in 5 = .ok (.iload_n 0, 1) := by decide +kernel
theorem dX9_in_6 : decode cX9_in 6 = .ok (.iload_n 2, 1) := by decide +kernel
theorem dX9_in_7 : decode cX9_in 7 = .ok (.if_icmp .gt 7, 3) := by decide +kernel
theorem dX9_in_10 : decode cX9_in 10 = .ok (.iconst 1, 1) := by decide +kernel
theorem dX9_in_11 : decode cX9_in 11 = .ok (.goto 4, 3) := by decide +kernel
theorem dX9_in_14 : decode cX9_in 14 = .ok (.iconst 0, 1) := by decide +kernel
theorem dX9_in_15 : decode cX9_in 15 = .ok (.ireturn, 1) := by decide +kernel
theorem dX9_copies_0 : decode cX9_copies 0 = .ok (.iconst 0, 1) := by decide +kernel
theorem dX9_copies_1 : decode cX9_copies 1 = .ok (.istore_n 2, 1) := by decide +kernel
theorem dX9_copies_2 : decode cX9_copies 2 = .ok (.iload_n 2, 1) := by decide +kernel
theorem dX9_copies_3 : decode cX9_copies 3 = .ok (.sipush 1990, 3) := by decide +kernel
theorem dX9_copies_6 : decode cX9_copies 6 = .ok (.if_icmp .ge 40, 3) := by decide +kernel
theorem dX9_copies_9 : decode cX9_copies 9 = .ok (.iload_n 1, 1) := by decide +kernel
theorem dX9_copies_10 : decode cX9_copies 10 = .ok (.ifCond .eq 18, 3) := by decide +kernel
theorem dX9_copies_13 : decode cX9_copies 13 = .ok (.aload_n 0, 1) := by decide +kernel
theorem dX9_copies_14 : decode cX9_copies 14 = .ok (.getfield 13, 3) := by decide +kernel
theorem dX9_copies_17 : decode cX9_copies 17 = .ok (.iload_n 2, 1) := by decide +kernel
theorem dX9_copies_18 : decode cX9_copies 18 = .ok (.aload_n 0, 1) := by decide +kernel
theorem dX9_copies_19 : decode cX9_copies 19 = .ok (.getfield 7, 3) := by decide +kernel
theorem dX9_copies_22 : decode cX9_copies 22 = .ok (.iload_n 2, 1) := by decide +kernel
theorem dX9_copies_23 : decode cX9_copies 23 = .ok (.iaload, 1) := by decide +kernel
theorem dX9_copies_24 : decode cX9_copies 24 = .ok (.iastore, 1) := by decide +kernel
theorem dX9_copies_25 : decode cX9_copies 25 = .ok (.goto 15, 3) := by decide +kernel
theorem dX9_copies_28 : decode cX9_copies 28 = .ok (.aload_n 0, 1) := by decide +kernel
theorem dX9_copies_29 : decode cX9_copies 29 = .ok (.getfield 7, 3) := by decide +kernel
theorem dX9_copies_32 : decode cX9_copies 32 = .ok (.iload_n 2, 1) := by decide +kernel
theorem dX9_copies_33 : decode cX9_copies 33 = .ok (.aload_n 0, 1) := by decide +kernel
theorem dX9_copies_34 : decode cX9_copies 34 = .ok (.getfield 13, 3) := by decide +kernel
theorem dX9_copies_37 : decode cX9_copies 37 = .ok (.iload_n 2, 1) := by decide +kernel
theorem dX9_copies_38 : decode cX9_copies 38 = .ok (.iaload, 1) := by decide +kernel
theorem dX9_copies_39 : decode cX9_copies 39 = .ok (.iastore, 1) := by decide +kernel
theorem dX9_copies_40 : decode cX9_copies 40 = .ok (.iinc 2 1, 3) := by decide +kernel
theorem dX9_copies_43 : decode cX9_copies 43 = .ok (.goto (-41), 3) := by decide +kernel
theorem dX9_copies_46 : decode cX9_copies 46 = .ok (.return_, 1) := by decide +kernel
set_option maxRecDepth 20000 in
theorem ggX9_isMarket_X9_in : GoodIn wsX9_isMarket wsX9_in := goodIn_r _ [5] (by decide +kernel) (by decide +kernel)
set_option maxRecDepth 20000 in
theorem gX9_isMarket_X9_in : GoodIn wsX9_isMarket (va_wsS RX9 126 yX9_in wsX9_in) := goodIn_app (goodIn_of _ (by decide +kernel)) ggX9_isMarket_X9_in
theorem dX9_isMarket_0 : decode cX9_isMarket 0 = .ok (.iload_n 1, 1) := by decide +kernel
theorem dX9_isMarket_1 : decode cX9_isMarket 1 = .ok (.iconst 0, 1) := by decide +kernel
theorem dX9_isMarket_2 : decode cX9_isMarket 2 = .ok (.aload_n 0, 1) := by decide +kernel
theorem dX9_isMarket_3 : decode cX9_isMarket 3 = .ok (.getfield 7, 3) := by decide +kernel
theorem dX9_isMarket_6 : decode cX9_isMarket 6 = .ok (.iconst 0, 1) := by decide +kernel
theorem dX9_isMarket_7 : decode cX9_isMarket 7 = .ok (.iaload, 1) := by decide +kernel
theorem dX9_isMarket_8 : decode cX9_isMarket 8 = .ok (.iconst 1, 1) := by decide +kernel
theorem dX9_isMarket_9 : decode cX9_isMarket 9 = .ok (.isub, 1) := by decide +kernel
theorem dX9_isMarket_10 : decode cX9_isMarket 10 = .ok (.invokestatic 126, 3) := by decide +kernel
theorem dX9_isMarket_13 : decode cX9_isMarket 13 = .ok (.ireturn, 1) := by decide +kernel
set_option maxRecDepth 20000 in
theorem ggX9_isGoose_X9_in : GoodIn wsX9_isGoose wsX9_in := goodIn_r _ [5] (by decide +kernel) (by decide +kernel)
set_option maxRecDepth 20000 in
theorem gX9_isGoose_X9_in : GoodIn wsX9_isGoose (va_wsS RX9 126 yX9_in wsX9_in) := goodIn_app (goodIn_of _ (by decide +kernel)) ggX9_isGoose_X9_in
theorem dX9_isGoose_0 : decode cX9_isGoose 0 = .ok (.iload_n 1, 1) := by decide +kernel
theorem dX9_isGoose_1 : decode cX9_isGoose 1 = .ok (.iconst 0, 1) := by decide +kernel
theorem dX9_isGoose_2 : decode cX9_isGoose 2 = .ok (.aload_n 0, 1) := by decide +kernel
theorem dX9_isGoose_3 : decode cX9_isGoose 3 = .ok (.getfield 7, 3) := by decide +kernel
theorem dX9_isGoose_6 : decode cX9_isGoose 6 = .ok (.iconst 1, 1) := by decide +kernel
theorem dX9_isGoose_7 : decode cX9_isGoose 7 = .ok (.iaload, 1) := by decide +kernel
theorem dX9_isGoose_8 : decode cX9_isGoose 8 = .ok (.iconst 1, 1) := by decide +kernel
theorem dX9_isGoose_9 : decode cX9_isGoose 9 = .ok (.isub, 1) := by decide +kernel
theorem dX9_isGoose_10 : decode cX9_isGoose 10 = .ok (.invokestatic 126, 3) := by decide +kernel
theorem dX9_isGoose_13 : decode cX9_isGoose 13 = .ok (.ireturn, 1) := by decide +kernel
theorem dX9_ofGoose_0 : decode cX9_ofGoose 0 = .ok (.aload_n 0, 1) := by decide +kernel
theorem dX9_ofGoose_1 : decode cX9_ofGoose 1 = .ok (.getfield 7, 3) := by decide +kernel
theorem dX9_ofGoose_4 : decode cX9_ofGoose 4 = .ok (.bipush 30, 2) := by decide +kernel
theorem dX9_ofGoose_6 : decode cX9_ofGoose 6 = .ok (.bipush 9, 2) := by decide +kernel
theorem dX9_ofGoose_8 : decode cX9_ofGoose 8 = .ok (.iload_n 1, 1) := by decide +kernel
theorem dX9_ofGoose_9 : decode cX9_ofGoose 9 = .ok (.imul, 1) := by decide +kernel
theorem dX9_ofGoose_10 : decode cX9_ofGoose 10 = .ok (.iadd, 1) := by decide +kernel
theorem dX9_ofGoose_11 : decode cX9_ofGoose 11 = .ok (.iload_n 2, 1) := by decide +kernel
theorem dX9_ofGoose_12 : decode cX9_ofGoose 12 = .ok (.iadd, 1) := by decide +kernel
theorem dX9_ofGoose_13 : decode cX9_ofGoose 13 = .ok (.iaload, 1) := by decide +kernel
theorem dX9_ofGoose_14 : decode cX9_ofGoose 14 = .ok (.ireturn, 1) := by decide +kernel
theorem dX9_puts_0 : decode cX9_puts 0 = .ok (.aload_n 0, 1) := by decide +kernel
theorem dX9_puts_1 : decode cX9_puts 1 = .ok (.getfield 7, 3) := by decide +kernel
theorem dX9_puts_4 : decode cX9_puts 4 = .ok (.bipush 30, 2) := by decide +kernel
theorem dX9_puts_6 : decode cX9_puts 6 = .ok (.bipush 9, 2) := by decide +kernel
theorem dX9_puts_8 : decode cX9_puts 8 = .ok (.iload_n 1, 1) := by decide +kernel
theorem dX9_puts_9 : decode cX9_puts 9 = .ok (.imul, 1) := by decide +kernel
theorem dX9_puts_10 : decode cX9_puts 10 = .ok (.iadd, 1) := by decide +kernel
theorem dX9_puts_11 : decode cX9_puts 11 = .ok (.iload_n 2, 1) := by decide +kernel
theorem dX9_puts_12 : decode cX9_puts 12 = .ok (.iadd, 1) := by decide +kernel
theorem dX9_puts_13 : decode cX9_puts 13 = .ok (.iload_n 3, 1) := by decide +kernel
theorem dX9_puts_14 : decode cX9_puts 14 = .ok (.iastore, 1) := by decide +kernel
theorem dX9_puts_15 : decode cX9_puts 15 = .ok (.return_, 1) := by decide +kernel
set_option maxRecDepth 20000 in
theorem ggX9_market_X9_in : GoodIn wsX9_market wsX9_in := goodIn_r _ [5] (by decide +kernel) (by decide +kernel)
set_option maxRecDepth 20000 in
theorem gX9_market_X9_in : GoodIn wsX9_market (va_wsS RX9 126 yX9_in wsX9_in) := goodIn_app (goodIn_of _ (by decide +kernel)) ggX9_market_X9_in
theorem dX9_market_0 : decode cX9_market 0 = .ok (.iload_n 1, 1) := by decide +kernel
theorem dX9_market_1 : decode cX9_market 1 = .ok (.iconst 1, 1) := by decide +kernel
theorem dX9_market_2 : decode cX9_market 2 = .ok (.bipush 9, 2) := by decide +kernel
theorem dX9_market_4 : decode cX9_market 4 = .ok (.invokestatic 126, 3) := by decide +kernel
theorem dX9_market_7 : decode cX9_market 7 = .ok (.ifCond .eq 33, 3) := by decide +kernel
theorem dX9_market_10 : decode cX9_market 10 = .ok (.iload_n 2, 1) := by decide +kernel
theorem dX9_market_11 : decode cX9_market 11 = .ok (.iconst 0, 1) := by decide +kernel
theorem dX9_market_12 : decode cX9_market 12 = .ok (.bipush 9, 2) := by decide +kernel
theorem dX9_market_14 : decode cX9_market 14 = .ok (.invokestatic 126, 3) := by decide +kernel
theorem dX9_market_17 : decode cX9_market 17 = .ok (.ifCond .eq 23, 3) := by decide +kernel
theorem dX9_market_20 : decode cX9_market 20 = .ok (.iload_n 3, 1) := by decide +kernel
theorem dX9_market_21 : decode cX9_market 21 = .ok (.iconst 0, 1) := by decide +kernel
theorem dX9_market_22 : decode cX9_market 22 = .ok (.bipush 9, 2) := by decide +kernel
theorem dX9_market_24 : decode cX9_market 24 = .ok (.invokestatic 126, 3) := by decide +kernel
theorem dX9_market_27 : decode cX9_market 27 = .ok (.ifCond .eq 13, 3) := by decide +kernel
theorem dX9_market_30 : decode cX9_market 30 = .ok (.aload_n 0, 1) := by decide +kernel
theorem dX9_market_31 : decode cX9_market 31 = .ok (.getfield 7, 3) := by decide +kernel
theorem dX9_market_34 : decode cX9_market 34 = .ok (.iconst 0, 1) := by decide +kernel
theorem dX9_market_35 : decode cX9_market 35 = .ok (.iaload, 1) := by decide +kernel
theorem dX9_market_36 : decode cX9_market 36 = .ok (.iconst 4, 1) := by decide +kernel
theorem dX9_market_37 : decode cX9_market 37 = .ok (.if_icmp .ne 5, 3) := by decide +kernel
theorem dX9_market_40 : decode cX9_market 40 = .ok (.iconst (-1), 1) := by decide +kernel
theorem dX9_market_41 : decode cX9_market 41 = .ok (.ireturn, 1) := by decide +kernel
theorem dX9_market_42 : decode cX9_market 42 = .ok (.bipush 10, 2) := by decide +kernel
theorem dX9_market_44 : decode cX9_market 44 = .ok (.iconst 3, 1) := by decide +kernel
theorem dX9_market_45 : decode cX9_market 45 = .ok (.aload_n 0, 1) := by decide +kernel
theorem dX9_market_46 : decode cX9_market 46 = .ok (.getfield 7, 3) := by decide +kernel
theorem dX9_market_49 : decode cX9_market 49 = .ok (.iconst 0, 1) := by decide +kernel
theorem dX9_market_50 : decode cX9_market 50 = .ok (.iaload, 1) := by decide +kernel
theorem dX9_market_51 : decode cX9_market 51 = .ok (.imul, 1) := by decide +kernel
theorem dX9_market_52 : decode cX9_market 52 = .ok (.iadd, 1) := by decide +kernel
theorem dX9_market_53 : decode cX9_market 53 = .ok (.istore 4, 2) := by decide +kernel
theorem dX9_market_55 : decode cX9_market 55 = .ok (.aload_n 0, 1) := by decide +kernel
theorem dX9_market_56 : decode cX9_market 56 = .ok (.getfield 7, 3) := by decide +kernel
theorem dX9_market_59 : decode cX9_market 59 = .ok (.iload 4, 2) := by decide +kernel
theorem dX9_market_61 : decode cX9_market 61 = .ok (.iload_n 1, 1) := by decide +kernel
theorem dX9_market_62 : decode cX9_market 62 = .ok (.iastore, 1) := by decide +kernel
theorem dX9_market_63 : decode cX9_market 63 = .ok (.aload_n 0, 1) := by decide +kernel
theorem dX9_market_64 : decode cX9_market 64 = .ok (.getfield 7, 3) := by decide +kernel
theorem dX9_market_67 : decode cX9_market 67 = .ok (.iload 4, 2) := by decide +kernel
theorem dX9_market_69 : decode cX9_market 69 = .ok (.iconst 1, 1) := by decide +kernel
theorem dX9_market_70 : decode cX9_market 70 = .ok (.iadd, 1) := by decide +kernel
theorem dX9_market_71 : decode cX9_market 71 = .ok (.iload_n 2, 1) := by decide +kernel
theorem dX9_market_72 : decode cX9_market 72 = .ok (.iastore, 1) := by decide +kernel
theorem dX9_market_73 : decode cX9_market 73 = .ok (.aload_n 0, 1) := by decide +kernel
theorem dX9_market_74 : decode cX9_market 74 = .ok (.getfield 7, 3) := by decide +kernel
theorem dX9_market_77 : decode cX9_market 77 = .ok (.iload 4, 2) := by decide +kernel
theorem dX9_market_79 : decode cX9_market 79 = .ok (.iconst 2, 1) := by decide +kernel
theorem dX9_market_80 : decode cX9_market 80 = .ok (.iadd, 1) := by decide +kernel
theorem dX9_market_81 : decode cX9_market 81 = .ok (.iload_n 3, 1) := by decide +kernel
theorem dX9_market_82 : decode cX9_market 82 = .ok (.iastore, 1) := by decide +kernel
theorem dX9_market_83 : decode cX9_market 83 = .ok (.aload_n 0, 1) := by decide +kernel
theorem dX9_market_84 : decode cX9_market 84 = .ok (.getfield 7, 3) := by decide +kernel
theorem dX9_market_87 : decode cX9_market 87 = .ok (.iconst 0, 1) := by decide +kernel
theorem dX9_market_88 : decode cX9_market 88 = .ok (.dup2, 1) := by decide +kernel
theorem dX9_market_89 : decode cX9_market 89 = .ok (.iaload, 1) := by decide +kernel
theorem dX9_market_90 : decode cX9_market 90 = .ok (.iconst 1, 1) := by decide +kernel
theorem dX9_market_91 : decode cX9_market 91 = .ok (.iadd, 1) := by decide +kernel
theorem dX9_market_92 : decode cX9_market 92 = .ok (.iastore, 1) := by decide +kernel
theorem dX9_market_93 : decode cX9_market 93 = .ok (.aload_n 0, 1) := by decide +kernel
theorem dX9_market_94 : decode cX9_market 94 = .ok (.getfield 7, 3) := by decide +kernel
theorem dX9_market_97 : decode cX9_market 97 = .ok (.iconst 0, 1) := by decide +kernel
theorem dX9_market_98 : decode cX9_market 98 = .ok (.iaload, 1) := by decide +kernel
theorem dX9_market_99 : decode cX9_market 99 = .ok (.iconst 1, 1) := by decide +kernel
theorem dX9_market_100 : decode cX9_market 100 = .ok (.isub, 1) := by decide +kernel
theorem dX9_market_101 : decode cX9_market 101 = .ok (.ireturn, 1) := by decide +kernel
theorem dX9_tellsGoose_0 : decode cX9_tellsGoose 0 = .ok (.iload_n 1, 1) := by decide +kernel
theorem dX9_tellsGoose_1 : decode cX9_tellsGoose 1 = .ok (.bipush 9, 2) := by decide +kernel
theorem dX9_tellsGoose_3 : decode cX9_tellsGoose 3 = .ok (.iload_n 2, 1) := by decide +kernel
theorem dX9_tellsGoose_4 : decode cX9_tellsGoose 4 = .ok (.imul, 1) := by decide +kernel
theorem dX9_tellsGoose_5 : decode cX9_tellsGoose 5 = .ok (.iadd, 1) := by decide +kernel
theorem dX9_tellsGoose_6 : decode cX9_tellsGoose 6 = .ok (.istore 5, 2) := by decide +kernel
theorem dX9_tellsGoose_8 : decode cX9_tellsGoose 8 = .ok (.aload_n 0, 1) := by decide +kernel
theorem dX9_tellsGoose_9 : decode cX9_tellsGoose 9 = .ok (.getfield 7, 3) := by decide +kernel
theorem dX9_tellsGoose_12 : decode cX9_tellsGoose 12 = .ok (.iload 5, 2) := by decide +kernel
theorem dX9_tellsGoose_14 : decode cX9_tellsGoose 14 = .ok (.iconst 0, 1) := by decide +kernel
theorem dX9_tellsGoose_15 : decode cX9_tellsGoose 15 = .ok (.iadd, 1) := by decide +kernel
theorem dX9_tellsGoose_16 : decode cX9_tellsGoose 16 = .ok (.iload_n 3, 1) := by decide +kernel
theorem dX9_tellsGoose_17 : decode cX9_tellsGoose 17 = .ok (.iastore, 1) := by decide +kernel
theorem dX9_tellsGoose_18 : decode cX9_tellsGoose 18 = .ok (.aload_n 0, 1) := by decide +kernel
theorem dX9_tellsGoose_19 : decode cX9_tellsGoose 19 = .ok (.getfield 7, 3) := by decide +kernel
theorem dX9_tellsGoose_22 : decode cX9_tellsGoose 22 = .ok (.iload 5, 2) := by decide +kernel
theorem dX9_tellsGoose_24 : decode cX9_tellsGoose 24 = .ok (.iconst 1, 1) := by decide +kernel
theorem dX9_tellsGoose_25 : decode cX9_tellsGoose 25 = .ok (.iadd, 1) := by decide +kernel
theorem dX9_tellsGoose_26 : decode cX9_tellsGoose 26 = .ok (.iload 4, 2) := by decide +kernel
theorem dX9_tellsGoose_28 : decode cX9_tellsGoose 28 = .ok (.iastore, 1) := by decide +kernel
theorem dX9_tellsGoose_29 : decode cX9_tellsGoose 29 = .ok (.aload_n 0, 1) := by decide +kernel
theorem dX9_tellsGoose_30 : decode cX9_tellsGoose 30 = .ok (.getfield 7, 3) := by decide +kernel
theorem dX9_tellsGoose_33 : decode cX9_tellsGoose 33 = .ok (.iload 5, 2) := by decide +kernel
theorem dX9_tellsGoose_35 : decode cX9_tellsGoose 35 = .ok (.iconst 2, 1) := by decide +kernel
theorem dX9_tellsGoose_36 : decode cX9_tellsGoose 36 = .ok (.iadd, 1) := by decide +kernel
theorem dX9_tellsGoose_37 : decode cX9_tellsGoose 37 = .ok (.iconst (-1), 1) := by decide +kernel
theorem dX9_tellsGoose_38 : decode cX9_tellsGoose 38 = .ok (.iastore, 1) := by decide +kernel
theorem dX9_tellsGoose_39 : decode cX9_tellsGoose 39 = .ok (.aload_n 0, 1) := by decide +kernel
theorem dX9_tellsGoose_40 : decode cX9_tellsGoose 40 = .ok (.getfield 7, 3) := by decide +kernel
theorem dX9_tellsGoose_43 : decode cX9_tellsGoose 43 = .ok (.iload 5, 2) := by decide +kernel
theorem dX9_tellsGoose_45 : decode cX9_tellsGoose 45 = .ok (.iconst 3, 1) := by decide +kernel
theorem dX9_tellsGoose_46 : decode cX9_tellsGoose 46 = .ok (.iadd, 1) := by decide +kernel
theorem dX9_tellsGoose_47 : decode cX9_tellsGoose 47 = .ok (.iconst (-1), 1) := by decide +kernel
theorem dX9_tellsGoose_48 : decode cX9_tellsGoose 48 = .ok (.iastore, 1) := by decide +kernel
theorem dX9_tellsGoose_49 : decode cX9_tellsGoose 49 = .ok (.aload_n 0, 1) := by decide +kernel
theorem dX9_tellsGoose_50 : decode cX9_tellsGoose 50 = .ok (.getfield 7, 3) := by decide +kernel
theorem dX9_tellsGoose_53 : decode cX9_tellsGoose 53 = .ok (.iload 5, 2) := by decide +kernel
theorem dX9_tellsGoose_55 : decode cX9_tellsGoose 55 = .ok (.iconst 4, 1) := by decide +kernel
theorem dX9_tellsGoose_56 : decode cX9_tellsGoose 56 = .ok (.iadd, 1) := by decide +kernel
theorem dX9_tellsGoose_57 : decode cX9_tellsGoose 57 = .ok (.iconst 0, 1) := by decide +kernel
theorem dX9_tellsGoose_58 : decode cX9_tellsGoose 58 = .ok (.iastore, 1) := by decide +kernel
theorem dX9_tellsGoose_59 : decode cX9_tellsGoose 59 = .ok (.aload_n 0, 1) := by decide +kernel
theorem dX9_tellsGoose_60 : decode cX9_tellsGoose 60 = .ok (.getfield 7, 3) := by decide +kernel
theorem dX9_tellsGoose_63 : decode cX9_tellsGoose 63 = .ok (.iload 5, 2) := by decide +kernel
theorem dX9_tellsGoose_65 : decode cX9_tellsGoose 65 = .ok (.iconst 5, 1) := by decide +kernel
theorem dX9_tellsGoose_66 : decode cX9_tellsGoose 66 = .ok (.iadd, 1) := by decide +kernel
theorem dX9_tellsGoose_67 : decode cX9_tellsGoose 67 = .ok (.iconst (-1), 1) := by decide +kernel
theorem dX9_tellsGoose_68 : decode cX9_tellsGoose 68 = .ok (.iastore, 1) := by decide +kernel
theorem dX9_tellsGoose_69 : decode cX9_tellsGoose 69 = .ok (.aload_n 0, 1) := by decide +kernel
theorem dX9_tellsGoose_70 : decode cX9_tellsGoose 70 = .ok (.getfield 7, 3) := by decide +kernel
theorem dX9_tellsGoose_73 : decode cX9_tellsGoose 73 = .ok (.iload 5, 2) := by decide +kernel
theorem dX9_tellsGoose_75 : decode cX9_tellsGoose 75 = .ok (.bipush 6, 2) := by decide +kernel
theorem dX9_tellsGoose_77 : decode cX9_tellsGoose 77 = .ok (.iadd, 1) := by decide +kernel
theorem dX9_tellsGoose_78 : decode cX9_tellsGoose 78 = .ok (.iconst (-1), 1) := by decide +kernel
theorem dX9_tellsGoose_79 : decode cX9_tellsGoose 79 = .ok (.iastore, 1) := by decide +kernel
theorem dX9_tellsGoose_80 : decode cX9_tellsGoose 80 = .ok (.aload_n 0, 1) := by decide +kernel
theorem dX9_tellsGoose_81 : decode cX9_tellsGoose 81 = .ok (.getfield 7, 3) := by decide +kernel
theorem dX9_tellsGoose_84 : decode cX9_tellsGoose 84 = .ok (.iload 5, 2) := by decide +kernel
theorem dX9_tellsGoose_86 : decode cX9_tellsGoose 86 = .ok (.bipush 7, 2) := by decide +kernel
theorem dX9_tellsGoose_88 : decode cX9_tellsGoose 88 = .ok (.iadd, 1) := by decide +kernel
theorem dX9_tellsGoose_89 : decode cX9_tellsGoose 89 = .ok (.iconst (-1), 1) := by decide +kernel
theorem dX9_tellsGoose_90 : decode cX9_tellsGoose 90 = .ok (.iastore, 1) := by decide +kernel
theorem dX9_tellsGoose_91 : decode cX9_tellsGoose 91 = .ok (.aload_n 0, 1) := by decide +kernel
theorem dX9_tellsGoose_92 : decode cX9_tellsGoose 92 = .ok (.getfield 7, 3) := by decide +kernel
theorem dX9_tellsGoose_95 : decode cX9_tellsGoose 95 = .ok (.iload 5, 2) := by decide +kernel
theorem dX9_tellsGoose_97 : decode cX9_tellsGoose 97 = .ok (.bipush 8, 2) := by decide +kernel
theorem dX9_tellsGoose_99 : decode cX9_tellsGoose 99 = .ok (.iadd, 1) := by decide +kernel
theorem dX9_tellsGoose_100 : decode cX9_tellsGoose 100 = .ok (.iconst 0, 1) := by decide +kernel
theorem dX9_tellsGoose_101 : decode cX9_tellsGoose 101 = .ok (.iastore, 1) := by decide +kernel
theorem dX9_tellsGoose_102 : decode cX9_tellsGoose 102 = .ok (.return_, 1) := by decide +kernel
set_option maxRecDepth 20000 in
theorem ggX9_goose_X9_in : GoodIn wsX9_goose wsX9_in := goodIn_r _ [5] (by decide +kernel) (by decide +kernel)
set_option maxRecDepth 20000 in
theorem gX9_goose_X9_in : GoodIn wsX9_goose (va_wsS RX9 126 yX9_in wsX9_in) := goodIn_app (goodIn_of _ (by decide +kernel)) ggX9_goose_X9_in
set_option maxRecDepth 20000 in
theorem ggX9_goose_X9_tellsGoose : GoodIn wsX9_goose wsX9_tellsGoose := goodIn_r _ [9, 1, 10, 11, 12, 13, 14, 15, 16, 17, 18, 19, 20, 21, 22, 23, 24, 25, 26, 27, 28, 29, 30, 31, 32, 33, 34, 35, 36, 37, 38, 39, 40, 41, 42, 43, 44, 45, 46, 47, 48, 49, 50, 51, 52, 53, 54, 55, 56, 57, 58, 59, 60, 61, 62] (by decide +kernel) (by decide +kernel)
set_option maxRecDepth 20000 in
theorem gX9_goose_X9_tellsGoose : GoodIn wsX9_goose (wsV RX9 130 RX9 yX9_tellsGoose wsX9_tellsGoose) := goodIn_app (goodIn_of _ (by decide +kernel)) ggX9_goose_X9_tellsGoose
theorem dX9_goose_0 : decode cX9_goose 0 = .ok (.iload_n 1, 1) := by decide +kernel
theorem dX9_goose_1 : decode cX9_goose 1 = .ok (.iconst 1, 1) := by decide +kernel
theorem dX9_goose_2 : decode cX9_goose 2 = .ok (.bipush 20, 2) := by decide +kernel
theorem dX9_goose_4 : decode cX9_goose 4 = .ok (.invokestatic 126, 3) := by decide +kernel
theorem dX9_goose_7 : decode cX9_goose 7 = .ok (.ifCond .eq 24, 3) := by decide +kernel
theorem dX9_goose_10 : decode cX9_goose 10 = .ok (.iload_n 2, 1) := by decide +kernel
theorem dX9_goose_11 : decode cX9_goose 11 = .ok (.iconst 0, 1) := by decide +kernel
theorem dX9_goose_12 : decode cX9_goose 12 = .ok (.bipush 99, 2) := by decide +kernel
theorem dX9_goose_14 : decode cX9_goose 14 = .ok (.invokestatic 126, 3) := by decide +kernel
theorem dX9_goose_17 : decode cX9_goose 17 = .ok (.ifCond .eq 14, 3) := by decide +kernel
theorem dX9_goose_20 : decode cX9_goose 20 = .ok (.aload_n 0, 1) := by decide +kernel
theorem dX9_goose_21 : decode cX9_goose 21 = .ok (.getfield 7, 3) := by decide +kernel
theorem dX9_goose_24 : decode cX9_goose 24 = .ok (.iconst 1, 1) := by decide +kernel
theorem dX9_goose_25 : decode cX9_goose 25 = .ok (.iaload, 1) := by decide +kernel
theorem dX9_goose_26 : decode cX9_goose 26 = .ok (.bipush 10, 2) := by decide +kernel
theorem dX9_goose_28 : decode cX9_goose 28 = .ok (.if_icmp .ne 5, 3) := by decide +kernel
theorem dX9_goose_31 : decode cX9_goose 31 = .ok (.iconst (-1), 1) := by decide +kernel
theorem dX9_goose_32 : decode cX9_goose 32 = .ok (.ireturn, 1) := by decide +kernel
theorem dX9_goose_33 : decode cX9_goose 33 = .ok (.aload_n 0, 1) := by decide +kernel
theorem dX9_goose_34 : decode cX9_goose 34 = .ok (.bipush 30, 2) := by decide +kernel
theorem dX9_goose_36 : decode cX9_goose 36 = .ok (.aload_n 0, 1) := by decide +kernel
theorem dX9_goose_37 : decode cX9_goose 37 = .ok (.getfield 7, 3) := by decide +kernel
theorem dX9_goose_40 : decode cX9_goose 40 = .ok (.iconst 1, 1) := by decide +kernel
theorem dX9_goose_41 : decode cX9_goose 41 = .ok (.iaload, 1) := by decide +kernel
theorem dX9_goose_42 : decode cX9_goose 42 = .ok (.iload_n 1, 1) := by decide +kernel
theorem dX9_goose_43 : decode cX9_goose 43 = .ok (.iload_n 2, 1) := by decide +kernel
theorem dX9_goose_44 : decode cX9_goose 44 = .ok (.invokevirtual 130, 3) := by decide +kernel
theorem dX9_goose_47 : decode cX9_goose 47 = .ok (.iconst 0, 1) := by decide +kernel
theorem dX9_goose_48 : decode cX9_goose 48 = .ok (.istore_n 3, 1) := by decide +kernel
theorem dX9_goose_49 : decode cX9_goose 49 = .ok (.iload_n 3, 1) := by decide +kernel
theorem dX9_goose_50 : decode cX9_goose 50 = .ok (.aload_n 0, 1) := by decide +kernel
theorem dX9_goose_51 : decode cX9_goose 51 = .ok (.getfield 7, 3) := by decide +kernel
theorem dX9_goose_54 : decode cX9_goose 54 = .ok (.iconst 5, 1) := by decide +kernel
theorem dX9_goose_55 : decode cX9_goose 55 = .ok (.iaload, 1) := by decide +kernel
theorem dX9_goose_56 : decode cX9_goose 56 = .ok (.if_icmp .ge 29, 3) := by decide +kernel
theorem dX9_goose_59 : decode cX9_goose 59 = .ok (.aload_n 0, 1) := by decide +kernel
theorem dX9_goose_60 : decode cX9_goose 60 = .ok (.sipush 130, 3) := by decide +kernel
theorem dX9_goose_63 : decode cX9_goose 63 = .ok (.bipush 93, 2) := by decide +kernel
theorem dX9_goose_65 : decode cX9_goose 65 = .ok (.iload_n 3, 1) := by decide +kernel
theorem dX9_goose_66 : decode cX9_goose 66 = .ok (.imul, 1) := by decide +kernel
theorem dX9_goose_67 : decode cX9_goose 67 = .ok (.iadd, 1) := by decide +kernel
theorem dX9_goose_68 : decode cX9_goose 68 = .ok (.aload_n 0, 1) := by decide +kernel
theorem dX9_goose_69 : decode cX9_goose 69 = .ok (.getfield 7, 3) := by decide +kernel
theorem dX9_goose_72 : decode cX9_goose 72 = .ok (.iconst 1, 1) := by decide +kernel
theorem dX9_goose_73 : decode cX9_goose 73 = .ok (.iaload, 1) := by decide +kernel
theorem dX9_goose_74 : decode cX9_goose 74 = .ok (.iload_n 1, 1) := by decide +kernel
theorem dX9_goose_75 : decode cX9_goose 75 = .ok (.iload_n 2, 1) := by decide +kernel
theorem dX9_goose_76 : decode cX9_goose 76 = .ok (.invokevirtual 130, 3) := by decide +kernel
theorem dX9_goose_79 : decode cX9_goose 79 = .ok (.iinc 3 1, 3) := by decide +kernel
theorem dX9_goose_82 : decode cX9_goose 82 = .ok (.goto (-33), 3) := by decide +kernel
theorem dX9_goose_85 : decode cX9_goose 85 = .ok (.aload_n 0, 1) := by decide +kernel
theorem dX9_goose_86 : decode cX9_goose 86 = .ok (.getfield 7, 3) := by decide +kernel
theorem dX9_goose_89 : decode cX9_goose 89 = .ok (.iconst 1, 1) := by decide +kernel
theorem dX9_goose_90 : decode cX9_goose 90 = .ok (.dup2, 1) := by decide +kernel
theorem dX9_goose_91 : decode cX9_goose 91 = .ok (.iaload, 1) := by decide +kernel
theorem dX9_goose_92 : decode cX9_goose 92 = .ok (.iconst 1, 1) := by decide +kernel
theorem dX9_goose_93 : decode cX9_goose 93 = .ok (.iadd, 1) := by decide +kernel
theorem dX9_goose_94 : decode cX9_goose 94 = .ok (.iastore, 1) := by decide +kernel
theorem dX9_goose_95 : decode cX9_goose 95 = .ok (.aload_n 0, 1) := by decide +kernel
theorem dX9_goose_96 : decode cX9_goose 96 = .ok (.getfield 7, 3) := by decide +kernel
theorem dX9_goose_99 : decode cX9_goose 99 = .ok (.iconst 1, 1) := by decide +kernel
theorem dX9_goose_100 : decode cX9_goose 100 = .ok (.iaload, 1) := by decide +kernel
theorem dX9_goose_101 : decode cX9_goose 101 = .ok (.iconst 1, 1) := by decide +kernel
theorem dX9_goose_102 : decode cX9_goose 102 = .ok (.isub, 1) := by decide +kernel
theorem dX9_goose_103 : decode cX9_goose 103 = .ok (.ireturn, 1) := by decide +kernel
set_option maxRecDepth 20000 in
theorem ggX9_store_X9_in : GoodIn wsX9_store wsX9_in := goodIn_r _ [5] (by decide +kernel) (by decide +kernel)
set_option maxRecDepth 20000 in
theorem gX9_store_X9_in : GoodIn wsX9_store (va_wsS RX9 126 yX9_in wsX9_in) := goodIn_app (goodIn_of _ (by decide +kernel)) ggX9_store_X9_in
theorem dX9_store_0 : decode cX9_store 0 = .ok (.iload_n 1, 1) := by decide +kernel
theorem dX9_store_1 : decode cX9_store 1 = .ok (.iconst 0, 1) := by decide +kernel
theorem dX9_store_2 : decode cX9_store 2 = .ok (.sipush 9999, 3) := by decide +kernel
theorem dX9_store_5 : decode cX9_store 5 = .ok (.invokestatic 126, 3) := by decide +kernel
theorem dX9_store_8 : decode cX9_store 8 = .ok (.ifCond .eq 13, 3) := by decide +kernel
theorem dX9_store_11 : decode cX9_store 11 = .ok (.iload_n 2, 1) := by decide +kernel
theorem dX9_store_12 : decode cX9_store 12 = .ok (.iconst 0, 1) := by decide +kernel
theorem dX9_store_13 : decode cX9_store 13 = .ok (.bipush 99, 2) := by decide +kernel
theorem dX9_store_15 : decode cX9_store 15 = .ok (.invokestatic 126, 3) := by decide +kernel
theorem dX9_store_18 : decode cX9_store 18 = .ok (.ifCond .ne 5, 3) := by decide +kernel
theorem dX9_store_21 : decode cX9_store 21 = .ok (.iconst 0, 1) := by decide +kernel
theorem dX9_store_22 : decode cX9_store 22 = .ok (.ireturn, 1) := by decide +kernel
theorem dX9_store_23 : decode cX9_store 23 = .ok (.aload_n 0, 1) := by decide +kernel
theorem dX9_store_24 : decode cX9_store 24 = .ok (.getfield 7, 3) := by decide +kernel
theorem dX9_store_27 : decode cX9_store 27 = .ok (.bipush 120, 2) := by decide +kernel
theorem dX9_store_29 : decode cX9_store 29 = .ok (.iload_n 1, 1) := by decide +kernel
theorem dX9_store_30 : decode cX9_store 30 = .ok (.iastore, 1) := by decide +kernel
theorem dX9_store_31 : decode cX9_store 31 = .ok (.aload_n 0, 1) := by decide +kernel
theorem dX9_store_32 : decode cX9_store 32 = .ok (.getfield 7, 3) := by decide +kernel
theorem dX9_store_35 : decode cX9_store 35 = .ok (.iconst 2, 1) := by decide +kernel
theorem dX9_store_36 : decode cX9_store 36 = .ok (.iload_n 2, 1) := by decide +kernel
theorem dX9_store_37 : decode cX9_store 37 = .ok (.iastore, 1) := by decide +kernel
theorem dX9_store_38 : decode cX9_store 38 = .ok (.iconst 1, 1) := by decide +kernel
theorem dX9_store_39 : decode cX9_store 39 = .ok (.ireturn, 1) := by decide +kernel
set_option maxRecDepth 20000 in
theorem ggX9_seed_X9_in : GoodIn wsX9_seed wsX9_in := goodIn_r _ [5] (by decide +kernel) (by decide +kernel)
set_option maxRecDepth 20000 in
theorem gX9_seed_X9_in : GoodIn wsX9_seed (va_wsS RX9 126 yX9_in wsX9_in) := goodIn_app (goodIn_of _ (by decide +kernel)) ggX9_seed_X9_in
theorem dX9_seed_0 : decode cX9_seed 0 = .ok (.iload_n 1, 1) := by decide +kernel
theorem dX9_seed_1 : decode cX9_seed 1 = .ok (.iconst 0, 1) := by decide +kernel
theorem dX9_seed_2 : decode cX9_seed 2 = .ok (.sipush 9999, 3) := by decide +kernel
theorem dX9_seed_5 : decode cX9_seed 5 = .ok (.invokestatic 126, 3) := by decide +kernel
theorem dX9_seed_8 : decode cX9_seed 8 = .ok (.ifCond .ne 5, 3) := by decide +kernel
theorem dX9_seed_11 : decode cX9_seed 11 = .ok (.iconst 0, 1) := by decide +kernel
theorem dX9_seed_12 : decode cX9_seed 12 = .ok (.ireturn, 1) := by decide +kernel
theorem dX9_seed_13 : decode cX9_seed 13 = .ok (.aload_n 0, 1) := by decide +kernel
theorem dX9_seed_14 : decode cX9_seed 14 = .ok (.getfield 7, 3) := by decide +kernel
theorem dX9_seed_17 : decode cX9_seed 17 = .ok (.bipush 122, 2) := by decide +kernel
theorem dX9_seed_19 : decode cX9_seed 19 = .ok (.iload_n 1, 1) := by decide +kernel
theorem dX9_seed_20 : decode cX9_seed 20 = .ok (.bipush 11, 2) := by decide +kernel
theorem dX9_seed_22 : decode cX9_seed 22 = .ok (.imul, 1) := by decide +kernel
theorem dX9_seed_23 : decode cX9_seed 23 = .ok (.bipush 9, 2) := by decide +kernel
theorem dX9_seed_25 : decode cX9_seed 25 = .ok (.iadd, 1) := by decide +kernel
theorem dX9_seed_26 : decode cX9_seed 26 = .ok (.iastore, 1) := by decide +kernel
theorem dX9_seed_27 : decode cX9_seed 27 = .ok (.iconst 1, 1) := by decide +kernel
theorem dX9_seed_28 : decode cX9_seed 28 = .ok (.ireturn, 1) := by decide +kernel
theorem dX9_keepsStep_0 : decode cX9_keepsStep 0 = .ok (.aload_n 0, 1) := by decide +kernel
theorem dX9_keepsStep_1 : decode cX9_keepsStep 1 = .ok (.getfield 7, 3) := by decide +kernel
theorem dX9_keepsStep_4 : decode cX9_keepsStep 4 = .ok (.iconst 5, 1) := by decide +kernel
theorem dX9_keepsStep_5 : decode cX9_keepsStep 5 = .ok (.iaload, 1) := by decide +kernel
theorem dX9_keepsStep_6 : decode cX9_keepsStep 6 = .ok (.bipush 20, 2) := by decide +kernel
theorem dX9_keepsStep_8 : decode cX9_keepsStep 8 = .ok (.if_icmp .ne 43, 3) := by decide +kernel
theorem dX9_keepsStep_11 : decode cX9_keepsStep 11 = .ok (.sipush 130, 3) := by decide +kernel
theorem dX9_keepsStep_14 : decode cX9_keepsStep 14 = .ok (.istore_n 1, 1) := by decide +kernel
theorem dX9_keepsStep_15 : decode cX9_keepsStep 15 = .ok (.iload_n 1, 1) := by decide +kernel
theorem dX9_keepsStep_16 : decode cX9_keepsStep 16 = .ok (.sipush 1897, 3) := by decide +kernel
theorem dX9_keepsStep_19 : decode cX9_keepsStep 19 = .ok (.if_icmp .ge 24, 3) := by decide +kernel
theorem dX9_keepsStep_22 : decode cX9_keepsStep 22 = .ok (.aload_n 0, 1) := by decide +kernel
theorem dX9_keepsStep_23 : decode cX9_keepsStep 23 = .ok (.getfield 7, 3) := by decide +kernel
theorem dX9_keepsStep_26 : decode cX9_keepsStep 26 = .ok (.iload_n 1, 1) := by decide +kernel
theorem dX9_keepsStep_27 : decode cX9_keepsStep 27 = .ok (.aload_n 0, 1) := by decide +kernel
theorem dX9_keepsStep_28 : decode cX9_keepsStep 28 = .ok (.getfield 7, 3) := by decide +kernel
theorem dX9_keepsStep_31 : decode cX9_keepsStep 31 = .ok (.iload_n 1, 1) := by decide +kernel
theorem dX9_keepsStep_32 : decode cX9_keepsStep 32 = .ok (.bipush 93, 2) := by decide +kernel
theorem dX9_keepsStep_34 : decode cX9_keepsStep 34 = .ok (.iadd, 1) := by decide +kernel
theorem dX9_keepsStep_35 : decode cX9_keepsStep 35 = .ok (.iaload, 1) := by decide +kernel
theorem dX9_keepsStep_36 : decode cX9_keepsStep 36 = .ok (.iastore, 1) := by decide +kernel
theorem dX9_keepsStep_37 : decode cX9_keepsStep 37 = .ok (.iinc 1 1, 3) := by decide +kernel
theorem dX9_keepsStep_40 : decode cX9_keepsStep 40 = .ok (.goto (-25), 3) := by decide +kernel
theorem dX9_keepsStep_43 : decode cX9_keepsStep 43 = .ok (.aload_n 0, 1) := by decide +kernel
theorem dX9_keepsStep_44 : decode cX9_keepsStep 44 = .ok (.getfield 7, 3) := by decide +kernel
theorem dX9_keepsStep_47 : decode cX9_keepsStep 47 = .ok (.iconst 5, 1) := by decide +kernel
theorem dX9_keepsStep_48 : decode cX9_keepsStep 48 = .ok (.bipush 19, 2) := by decide +kernel
theorem dX9_keepsStep_50 : decode cX9_keepsStep 50 = .ok (.iastore, 1) := by decide +kernel
theorem dX9_keepsStep_51 : decode cX9_keepsStep 51 = .ok (.iconst 0, 1) := by decide +kernel
theorem dX9_keepsStep_52 : decode cX9_keepsStep 52 = .ok (.istore_n 1, 1) := by decide +kernel
theorem dX9_keepsStep_53 : decode cX9_keepsStep 53 = .ok (.iload_n 1, 1) := by decide +kernel
theorem dX9_keepsStep_54 : decode cX9_keepsStep 54 = .ok (.bipush 93, 2) := by decide +kernel
theorem dX9_keepsStep_56 : decode cX9_keepsStep 56 = .ok (.if_icmp .ge 38, 3) := by decide +kernel
theorem dX9_keepsStep_59 : decode cX9_keepsStep 59 = .ok (.aload_n 0, 1) := by decide +kernel
theorem dX9_keepsStep_60 : decode cX9_keepsStep 60 = .ok (.getfield 7, 3) := by decide +kernel
theorem dX9_keepsStep_63 : decode cX9_keepsStep 63 = .ok (.sipush 130, 3) := by decide +kernel
theorem dX9_keepsStep_66 : decode cX9_keepsStep 66 = .ok (.bipush 93, 2) := by decide +kernel
theorem dX9_keepsStep_68 : decode cX9_keepsStep 68 = .ok (.aload_n 0, 1) := by decide +kernel
theorem dX9_keepsStep_69 : decode cX9_keepsStep 69 = .ok (.getfield 7, 3) := by decide +kernel
theorem dX9_keepsStep_72 : decode cX9_keepsStep 72 = .ok (.iconst 5, 1) := by decide +kernel
theorem dX9_keepsStep_73 : decode cX9_keepsStep 73 = .ok (.iaload, 1) := by decide +kernel
theorem dX9_keepsStep_74 : decode cX9_keepsStep 74 = .ok (.imul, 1) := by decide +kernel
theorem dX9_keepsStep_75 : decode cX9_keepsStep 75 = .ok (.iadd, 1) := by decide +kernel
theorem dX9_keepsStep_76 : decode cX9_keepsStep 76 = .ok (.iload_n 1, 1) := by decide +kernel
theorem dX9_keepsStep_77 : decode cX9_keepsStep 77 = .ok (.iadd, 1) := by decide +kernel
theorem dX9_keepsStep_78 : decode cX9_keepsStep 78 = .ok (.aload_n 0, 1) := by decide +kernel
theorem dX9_keepsStep_79 : decode cX9_keepsStep 79 = .ok (.getfield 7, 3) := by decide +kernel
theorem dX9_keepsStep_82 : decode cX9_keepsStep 82 = .ok (.bipush 30, 2) := by decide +kernel
theorem dX9_keepsStep_84 : decode cX9_keepsStep 84 = .ok (.iload_n 1, 1) := by decide +kernel
theorem dX9_keepsStep_85 : decode cX9_keepsStep 85 = .ok (.iadd, 1) := by decide +kernel
theorem dX9_keepsStep_86 : decode cX9_keepsStep 86 = .ok (.iaload, 1) := by decide +kernel
theorem dX9_keepsStep_87 : decode cX9_keepsStep 87 = .ok (.iastore, 1) := by decide +kernel
theorem dX9_keepsStep_88 : decode cX9_keepsStep 88 = .ok (.iinc 1 1, 3) := by decide +kernel
theorem dX9_keepsStep_91 : decode cX9_keepsStep 91 = .ok (.goto (-38), 3) := by decide +kernel
theorem dX9_keepsStep_94 : decode cX9_keepsStep 94 = .ok (.aload_n 0, 1) := by decide +kernel
theorem dX9_keepsStep_95 : decode cX9_keepsStep 95 = .ok (.getfield 7, 3) := by decide +kernel
theorem dX9_keepsStep_98 : decode cX9_keepsStep 98 = .ok (.iconst 5, 1) := by decide +kernel
theorem dX9_keepsStep_99 : decode cX9_keepsStep 99 = .ok (.dup2, 1) := by decide +kernel
theorem dX9_keepsStep_100 : decode cX9_keepsStep 100 = .ok (.iaload, 1) := by decide +kernel
theorem dX9_keepsStep_101 : decode cX9_keepsStep 101 = .ok (.iconst 1, 1) := by decide +kernel
theorem dX9_keepsStep_102 : decode cX9_keepsStep 102 = .ok (.iadd, 1) := by decide +kernel
theorem dX9_keepsStep_103 : decode cX9_keepsStep 103 = .ok (.iastore, 1) := by decide +kernel
theorem dX9_keepsStep_104 : decode cX9_keepsStep 104 = .ok (.return_, 1) := by decide +kernel
theorem dX9_undo_0 : decode cX9_undo 0 = .ok (.aload_n 0, 1) := by decide +kernel
theorem dX9_undo_1 : decode cX9_undo 1 = .ok (.getfield 7, 3) := by decide +kernel
theorem dX9_undo_4 : decode cX9_undo 4 = .ok (.iconst 5, 1) := by decide +kernel
theorem dX9_undo_5 : decode cX9_undo 5 = .ok (.iaload, 1) := by decide +kernel
theorem dX9_undo_6 : decode cX9_undo 6 = .ok (.ifCond .ne 5, 3) := by decide +kernel
theorem dX9_undo_9 : decode cX9_undo 9 = .ok (.iconst (-1), 1) := by decide +kernel
theorem dX9_undo_10 : decode cX9_undo 10 = .ok (.ireturn, 1) := by decide +kernel
theorem dX9_undo_11 : decode cX9_undo 11 = .ok (.aload_n 0, 1) := by decide +kernel
theorem dX9_undo_12 : decode cX9_undo 12 = .ok (.getfield 7, 3) := by decide +kernel
theorem dX9_undo_15 : decode cX9_undo 15 = .ok (.iconst 5, 1) := by decide +kernel
theorem dX9_undo_16 : decode cX9_undo 16 = .ok (.dup2, 1) := by decide +kernel
theorem dX9_undo_17 : decode cX9_undo 17 = .ok (.iaload, 1) := by decide +kernel
theorem dX9_undo_18 : decode cX9_undo 18 = .ok (.iconst 1, 1) := by decide +kernel
theorem dX9_undo_19 : decode cX9_undo 19 = .ok (.isub, 1) := by decide +kernel
theorem dX9_undo_20 : decode cX9_undo 20 = .ok (.iastore, 1) := by decide +kernel
theorem dX9_undo_21 : decode cX9_undo 21 = .ok (.iconst 0, 1) := by decide +kernel
theorem dX9_undo_22 : decode cX9_undo 22 = .ok (.istore_n 1, 1) := by decide +kernel
theorem dX9_undo_23 : decode cX9_undo 23 = .ok (.iload_n 1, 1) := by decide +kernel
theorem dX9_undo_24 : decode cX9_undo 24 = .ok (.bipush 93, 2) := by decide +kernel
theorem dX9_undo_26 : decode cX9_undo 26 = .ok (.if_icmp .ge 38, 3) := by decide +kernel
theorem dX9_undo_29 : decode cX9_undo 29 = .ok (.aload_n 0, 1) := by decide +kernel
theorem dX9_undo_30 : decode cX9_undo 30 = .ok (.getfield 7, 3) := by decide +kernel
theorem dX9_undo_33 : decode cX9_undo 33 = .ok (.bipush 30, 2) := by decide +kernel
theorem dX9_undo_35 : decode cX9_undo 35 = .ok (.iload_n 1, 1) := by decide +kernel
theorem dX9_undo_36 : decode cX9_undo 36 = .ok (.iadd, 1) := by decide +kernel
theorem dX9_undo_37 : decode cX9_undo 37 = .ok (.aload_n 0, 1) := by decide +kernel
theorem dX9_undo_38 : decode cX9_undo 38 = .ok (.getfield 7, 3) := by decide +kernel
theorem dX9_undo_41 : decode cX9_undo 41 = .ok (.sipush 130, 3) := by decide +kernel
theorem dX9_undo_44 : decode cX9_undo 44 = .ok (.bipush 93, 2) := by decide +kernel
theorem dX9_undo_46 : decode cX9_undo 46 = .ok (.aload_n 0, 1) := by decide +kernel
theorem dX9_undo_47 : decode cX9_undo 47 = .ok (.getfield 7, 3) := by decide +kernel
theorem dX9_undo_50 : decode cX9_undo 50 = .ok (.iconst 5, 1) := by decide +kernel
theorem dX9_undo_51 : decode cX9_undo 51 = .ok (.iaload, 1) := by decide +kernel
theorem dX9_undo_52 : decode cX9_undo 52 = .ok (.imul, 1) := by decide +kernel
theorem dX9_undo_53 : decode cX9_undo 53 = .ok (.iadd, 1) := by decide +kernel
theorem dX9_undo_54 : decode cX9_undo 54 = .ok (.iload_n 1, 1) := by decide +kernel
theorem dX9_undo_55 : decode cX9_undo 55 = .ok (.iadd, 1) := by decide +kernel
theorem dX9_undo_56 : decode cX9_undo 56 = .ok (.iaload, 1) := by decide +kernel
theorem dX9_undo_57 : decode cX9_undo 57 = .ok (.iastore, 1) := by decide +kernel
theorem dX9_undo_58 : decode cX9_undo 58 = .ok (.iinc 1 1, 3) := by decide +kernel
theorem dX9_undo_61 : decode cX9_undo 61 = .ok (.goto (-38), 3) := by decide +kernel
theorem dX9_undo_64 : decode cX9_undo 64 = .ok (.aload_n 0, 1) := by decide +kernel
theorem dX9_undo_65 : decode cX9_undo 65 = .ok (.getfield 7, 3) := by decide +kernel
theorem dX9_undo_68 : decode cX9_undo 68 = .ok (.iconst 5, 1) := by decide +kernel
theorem dX9_undo_69 : decode cX9_undo 69 = .ok (.iaload, 1) := by decide +kernel
theorem dX9_undo_70 : decode cX9_undo 70 = .ok (.ireturn, 1) := by decide +kernel
set_option maxRecDepth 20000 in
theorem ggX9_isHome_X9_isGoose : GoodIn wsX9_isHome wsX9_isGoose := goodIn_r _ [5, 6, 7, 8, 4, 9, 14, 15, 16, 17, 18, 19, 20, 21, 22, 23, 24, 25, 26, 27, 28, 29, 30, 31, 32, 33, 34, 35, 36, 37, 38, 39, 40, 41, 42, 43, 44, 45, 46, 47, 48, 49, 50, 51, 52, 53, 54, 55, 56, 57, 58, 59, 60, 61, 62, 63, 64, 65, 66] (by decide +kernel) (by decide +kernel)
set_option maxRecDepth 20000 in
theorem gX9_isHome_X9_isGoose : GoodIn wsX9_isHome (wsV RX9 134 RX9 yX9_isGoose wsX9_isGoose) := goodIn_app (goodIn_of _ (by decide +kernel)) ggX9_isHome_X9_isGoose
set_option maxRecDepth 20000 in
theorem ggX9_isHome_X9_ofGoose : GoodIn wsX9_isHome wsX9_ofGoose := goodIn_r _ [13, 6, 14, 15, 16, 17, 18, 19, 20, 21, 22, 23, 24, 25, 26, 27, 28, 29, 30, 31, 32, 33, 34, 35, 36, 37, 38, 39, 40, 41, 42, 43, 44, 45, 46, 47, 48, 49, 50, 51, 52, 53, 54, 55, 56, 57, 58, 59, 60, 61, 62, 63, 64, 65, 66] (by decide +kernel) (by decide +kernel)
set_option maxRecDepth 20000 in
theorem gX9_isHome_X9_ofGoose : GoodIn wsX9_isHome (wsV RX9 138 RX9 yX9_ofGoose wsX9_ofGoose) := goodIn_app (goodIn_of _ (by decide +kernel)) ggX9_isHome_X9_ofGoose
theorem dX9_isHome_0 : decode cX9_isHome 0 = .ok (.aload_n 0, 1) := by decide +kernel
theorem dX9_isHome_1 : decode cX9_isHome 1 = .ok (.iload_n 1, 1) := by decide +kernel
theorem dX9_isHome_2 : decode cX9_isHome 2 = .ok (.invokevirtual 134, 3) := by decide +kernel
theorem dX9_isHome_5 : decode cX9_isHome 5 = .ok (.ifCond .eq 16, 3) := by decide +kernel
theorem dX9_isHome_8 : decode cX9_isHome 8 = .ok (.aload_n 0, 1) := by decide +kernel
theorem dX9_isHome_9 : decode cX9_isHome 9 = .ok (.iload_n 1, 1) := by decide +kernel
theorem dX9_isHome_10 : decode cX9_isHome 10 = .ok (.iconst 4, 1) := by decide +kernel
theorem dX9_isHome_11 : decode cX9_isHome 11 = .ok (.invokevirtual 138, 3) := by decide +kernel
theorem dX9_isHome_14 : decode cX9_isHome 14 = .ok (.ifCond .ne 7, 3) := by decide +kernel
theorem dX9_isHome_17 : decode cX9_isHome 17 = .ok (.iconst 1, 1) := by decide +kernel
theorem dX9_isHome_18 : decode cX9_isHome 18 = .ok (.goto 4, 3) := by decide +kernel
theorem dX9_isHome_21 : decode cX9_isHome 21 = .ok (.iconst 0, 1) := by decide +kernel
theorem dX9_isHome_22 : decode cX9_isHome 22 = .ok (.ireturn, 1) := by decide +kernel
set_option maxRecDepth 20000 in
theorem ggX9_isQuill_X9_in : GoodIn wsX9_isQuill wsX9_in := goodIn_r _ [4] (by decide +kernel) (by decide +kernel)
set_option maxRecDepth 20000 in
theorem gX9_isQuill_X9_in : GoodIn wsX9_isQuill (va_wsS RX9 126 yX9_in wsX9_in) := goodIn_app (goodIn_of _ (by decide +kernel)) ggX9_isQuill_X9_in
theorem dX9_isQuill_0 : decode cX9_isQuill 0 = .ok (.iload_n 0, 1) := by decide +kernel
theorem dX9_isQuill_1 : decode cX9_isQuill 1 = .ok (.iconst 0, 1) := by decide +kernel
theorem dX9_isQuill_2 : decode cX9_isQuill 2 = .ok (.iconst 5, 1) := by decide +kernel
theorem dX9_isQuill_3 : decode cX9_isQuill 3 = .ok (.invokestatic 126, 3) := by decide +kernel
theorem dX9_isQuill_6 : decode cX9_isQuill 6 = .ok (.ifCond .eq 16, 3) := by decide +kernel
theorem dX9_isQuill_9 : decode cX9_isQuill 9 = .ok (.iload_n 1, 1) := by decide +kernel
theorem dX9_isQuill_10 : decode cX9_isQuill 10 = .ok (.iconst 0, 1) := by decide +kernel
theorem dX9_isQuill_11 : decode cX9_isQuill 11 = .ok (.iconst 2, 1) := by decide +kernel
theorem dX9_isQuill_12 : decode cX9_isQuill 12 = .ok (.invokestatic 126, 3) := by decide +kernel
theorem dX9_isQuill_15 : decode cX9_isQuill 15 = .ok (.ifCond .eq 7, 3) := by decide +kernel
theorem dX9_isQuill_18 : decode cX9_isQuill 18 = .ok (.iconst 1, 1) := by decide +kernel
theorem dX9_isQuill_19 : decode cX9_isQuill 19 = .ok (.goto 4, 3) := by decide +kernel
theorem dX9_isQuill_22 : decode cX9_isQuill 22 = .ok (.iconst 0, 1) := by decide +kernel
theorem dX9_isQuill_23 : decode cX9_isQuill 23 = .ok (.ireturn, 1) := by decide +kernel
set_option maxRecDepth 20000 in
theorem ggX9_fill_X9_isHome : GoodIn wsX9_fill wsX9_isHome := goodIn_r _ [6, 7, 8, 9, 5, 10, 1, 11, 12, 13, 14, 15, 16, 17, 63, 64, 65, 66, 67, 68, 69, 70, 71, 72, 73, 74, 75, 76, 77, 78, 79, 80, 81, 82, 83, 84, 85, 86, 87, 88, 89, 90, 91, 92, 93, 94, 95, 96, 97, 98, 99, 100, 101, 102, 103, 104, 105, 106, 107, 108, 109, 110, 111, 112, 113, 114, 115] (by decide +kernel) (by decide +kernel)
set_option maxRecDepth 20000 in
theorem gX9_fill_X9_isHome : GoodIn wsX9_fill (wsV RX9 142 RX9 yX9_isHome wsX9_isHome) := goodIn_app (goodIn_of _ (by decide +kernel)) ggX9_fill_X9_isHome
set_option maxRecDepth 20000 in
theorem ggX9_fill_X9_ofGoose : GoodIn wsX9_fill wsX9_ofGoose := goodIn_r _ [17, 1, 63, 64, 65, 66, 67, 68, 69, 70, 71, 72, 73, 74, 75, 76, 77, 78, 79, 80, 81, 82, 83, 84, 85, 86, 87, 88, 89, 90, 91, 92, 93, 94, 95, 96, 97, 98, 99, 100, 101, 102, 103, 104, 105, 106, 107, 108, 109, 110, 111, 112, 113, 114, 115] (by decide +kernel) (by decide +kernel)
set_option maxRecDepth 20000 in
theorem gX9_fill_X9_ofGoose : GoodIn wsX9_fill (wsV RX9 138 RX9 yX9_ofGoose wsX9_ofGoose) := goodIn_app (goodIn_of _ (by decide +kernel)) ggX9_fill_X9_ofGoose
set_option maxRecDepth 20000 in
theorem ggX9_fill_X9_isQuill : GoodIn wsX9_fill wsX9_isQuill := goodIn_r _ [20, 11, 12, 5, 13] (by decide +kernel) (by decide +kernel)
set_option maxRecDepth 20000 in
theorem gX9_fill_X9_isQuill : GoodIn wsX9_fill (va_wsS RX9 145 yX9_isQuill wsX9_isQuill) := goodIn_app (goodIn_of _ (by decide +kernel)) ggX9_fill_X9_isQuill
set_option maxRecDepth 20000 in
theorem ggX9_fill_X9_inkOf : GoodIn wsX9_fill wsX9_inkOf := goodIn_r _ [24, 1, 25, 26, 27, 5, 28, 29, 30, 31, 32, 33, 34, 35, 36, 14, 15, 16, 17, 37, 38, 39, 40, 41, 42, 43, 44, 45, 46, 47, 48, 49, 50, 51, 52, 53, 54, 63, 64, 65, 66, 67, 68, 69, 70, 71, 72, 73, 74, 75, 76, 77, 78, 79, 80, 81, 82, 83, 84, 85, 86, 87, 88, 89, 90, 91, 92, 93, 94, 95, 96, 97, 98, 99, 100, 101, 102, 103, 104, 105, 106, 107, 108, 109, 110, 111, 112, 113, 114, 115] (by decide +kernel) (by decide +kernel)
set_option maxRecDepth 20000 in
theorem gX9_fill_X9_inkOf : GoodIn wsX9_fill (wsV RX9 149 RX9 yX9_inkOf wsX9_inkOf) := goodIn_app (goodIn_of _ (by decide +kernel)) ggX9_fill_X9_inkOf
set_option maxRecDepth 20000 in
theorem ggX9_fill_X9_keepsStep : GoodIn wsX9_fill wsX9_keepsStep := goodIn_r _ [58, 1, 63, 64, 65, 66, 67, 68, 69, 70, 71, 72, 73, 74, 75, 76, 77, 78, 79, 80, 81, 82, 83, 84, 85, 86, 87, 88, 89, 90, 91, 92, 93, 94, 95, 96, 97, 98, 99, 100, 101, 102, 103, 104, 105, 106, 107, 108, 109, 110, 111, 112, 113, 114, 115] (by decide +kernel) (by decide +kernel)
set_option maxRecDepth 20000 in
theorem gX9_fill_X9_keepsStep : GoodIn wsX9_fill (wsV RX9 153 RX9 yX9_keepsStep wsX9_keepsStep) := goodIn_app (goodIn_of _ (by decide +kernel)) ggX9_fill_X9_keepsStep
set_option maxRecDepth 20000 in
theorem ggX9_fill_X9_puts : GoodIn wsX9_fill wsX9_puts := goodIn_r _ [62, 1, 63, 64, 65, 66, 67, 68, 69, 70, 71, 72, 73, 74, 75, 76, 77, 78, 79, 80, 81, 82, 83, 84, 85, 86, 87, 88, 89, 90, 91, 92, 93, 94, 95, 96, 97, 98, 99, 100, 101, 102, 103, 104, 105, 106, 107, 108, 109, 110, 111, 112, 113, 114, 115] (by decide +kernel) (by decide +kernel)
set_option maxRecDepth 20000 in
theorem gX9_fill_X9_puts : GoodIn wsX9_fill (wsV RX9 156 RX9 yX9_puts wsX9_puts) := goodIn_app (goodIn_of _ (by decide +kernel)) ggX9_fill_X9_puts
theorem dX9_fill_0 : decode cX9_fill 0 = .ok (.aload_n 0, 1) := by decide +kernel
theorem dX9_fill_1 : decode cX9_fill 1 = .ok (.iload_n 1, 1) := by decide +kernel
theorem dX9_fill_2 : decode cX9_fill 2 = .ok (.invokevirtual 142, 3) := by decide +kernel
theorem dX9_fill_5 : decode cX9_fill 5 = .ok (.ifCond .eq 38, 3) := by decide +kernel
theorem dX9_fill_8 : decode cX9_fill 8 = .ok (.aload_n 0, 1) := by decide +kernel
theorem dX9_fill_9 : decode cX9_fill 9 = .ok (.iload_n 1, 1) := by decide +kernel
theorem dX9_fill_10 : decode cX9_fill 10 = .ok (.iconst 2, 1) := by decide +kernel
theorem dX9_fill_11 : decode cX9_fill 11 = .ok (.invokevirtual 138, 3) := by decide +kernel
theorem dX9_fill_14 : decode cX9_fill 14 = .ok (.iconst (-1), 1) := by decide +kernel
theorem dX9_fill_15 : decode cX9_fill 15 = .ok (.if_icmp .ne 28, 3) := by decide +kernel
theorem dX9_fill_18 : decode cX9_fill 18 = .ok (.iload_n 2, 1) := by decide +kernel
theorem dX9_fill_19 : decode cX9_fill 19 = .ok (.iload_n 3, 1) := by decide +kernel
theorem dX9_fill_20 : decode cX9_fill 20 = .ok (.invokestatic 145, 3) := by decide +kernel
theorem dX9_fill_23 : decode cX9_fill 23 = .ok (.ifCond .eq 20, 3) := by decide +kernel
theorem dX9_fill_26 : decode cX9_fill 26 = .ok (.aload_n 0, 1) := by decide +kernel
theorem dX9_fill_27 : decode cX9_fill 27 = .ok (.iload_n 1, 1) := by decide +kernel
theorem dX9_fill_28 : decode cX9_fill 28 = .ok (.iload_n 2, 1) := by decide +kernel
theorem dX9_fill_29 : decode cX9_fill 29 = .ok (.iload_n 3, 1) := by decide +kernel
theorem dX9_fill_30 : decode cX9_fill 30 = .ok (.invokevirtual 149, 3) := by decide +kernel
theorem dX9_fill_33 : decode cX9_fill 33 = .ok (.aload_n 0, 1) := by decide +kernel
theorem dX9_fill_34 : decode cX9_fill 34 = .ok (.getfield 7, 3) := by decide +kernel
theorem dX9_fill_37 : decode cX9_fill 37 = .ok (.bipush 120, 2) := by decide +kernel
theorem dX9_fill_39 : decode cX9_fill 39 = .ok (.iaload, 1) := by decide +kernel
theorem dX9_fill_40 : decode cX9_fill 40 = .ok (.if_icmp .le 5, 3) := by decide +kernel
theorem dX9_fill_43 : decode cX9_fill 43 = .ok (.iconst (-1), 1) := by decide +kernel
theorem dX9_fill_44 : decode cX9_fill 44 = .ok (.ireturn, 1) := by decide +kernel
theorem dX9_fill_45 : decode cX9_fill 45 = .ok (.aload_n 0, 1) := by decide +kernel
theorem dX9_fill_46 : decode cX9_fill 46 = .ok (.iload_n 1, 1) := by decide +kernel
theorem dX9_fill_47 : decode cX9_fill 47 = .ok (.iload_n 2, 1) := by decide +kernel
theorem dX9_fill_48 : decode cX9_fill 48 = .ok (.iload_n 3, 1) := by decide +kernel
theorem dX9_fill_49 : decode cX9_fill 49 = .ok (.invokevirtual 149, 3) := by decide +kernel
theorem dX9_fill_52 : decode cX9_fill 52 = .ok (.istore 4, 2) := by decide +kernel
theorem dX9_fill_54 : decode cX9_fill 54 = .ok (.aload_n 0, 1) := by decide +kernel
theorem dX9_fill_55 : decode cX9_fill 55 = .ok (.invokevirtual 153, 3) := by decide +kernel
theorem dX9_fill_58 : decode cX9_fill 58 = .ok (.aload_n 0, 1) := by decide +kernel
theorem dX9_fill_59 : decode cX9_fill 59 = .ok (.iload_n 1, 1) := by decide +kernel
theorem dX9_fill_60 : decode cX9_fill 60 = .ok (.iconst 2, 1) := by decide +kernel
theorem dX9_fill_61 : decode cX9_fill 61 = .ok (.iload_n 2, 1) := by decide +kernel
theorem dX9_fill_62 : decode cX9_fill 62 = .ok (.invokevirtual 156, 3) := by decide +kernel
theorem dX9_fill_65 : decode cX9_fill 65 = .ok (.aload_n 0, 1) := by decide +kernel
theorem dX9_fill_66 : decode cX9_fill 66 = .ok (.iload_n 1, 1) := by decide +kernel
theorem dX9_fill_67 : decode cX9_fill 67 = .ok (.iconst 3, 1) := by decide +kernel
theorem dX9_fill_68 : decode cX9_fill 68 = .ok (.iload_n 3, 1) := by decide +kernel
theorem dX9_fill_69 : decode cX9_fill 69 = .ok (.invokevirtual 156, 3) := by decide +kernel
theorem dX9_fill_72 : decode cX9_fill 72 = .ok (.aload_n 0, 1) := by decide +kernel
theorem dX9_fill_73 : decode cX9_fill 73 = .ok (.getfield 7, 3) := by decide +kernel
theorem dX9_fill_76 : decode cX9_fill 76 = .ok (.bipush 120, 2) := by decide +kernel
theorem dX9_fill_78 : decode cX9_fill 78 = .ok (.dup2, 1) := by decide +kernel
theorem dX9_fill_79 : decode cX9_fill 79 = .ok (.iaload, 1) := by decide +kernel
theorem dX9_fill_80 : decode cX9_fill 80 = .ok (.iload 4, 2) := by decide +kernel
theorem dX9_fill_82 : decode cX9_fill 82 = .ok (.isub, 1) := by decide +kernel
theorem dX9_fill_83 : decode cX9_fill 83 = .ok (.iastore, 1) := by decide +kernel
theorem dX9_fill_84 : decode cX9_fill 84 = .ok (.aload_n 0, 1) := by decide +kernel
theorem dX9_fill_85 : decode cX9_fill 85 = .ok (.getfield 7, 3) := by decide +kernel
theorem dX9_fill_88 : decode cX9_fill 88 = .ok (.bipush 120, 2) := by decide +kernel
theorem dX9_fill_90 : decode cX9_fill 90 = .ok (.iaload, 1) := by decide +kernel
theorem dX9_fill_91 : decode cX9_fill 91 = .ok (.ireturn, 1) := by decide +kernel
set_option maxRecDepth 20000 in
theorem ggX9_send_X9_isHome : GoodIn wsX9_send wsX9_isHome := goodIn_r _ [6, 7, 8, 9, 5, 10, 1, 11, 12, 13, 14, 15, 16, 17, 30, 31, 32, 33, 34, 35, 36, 37, 38, 39, 40, 41, 42, 43, 44, 45, 46, 47, 48, 49, 50, 51, 52, 53, 54, 55, 56, 57, 58, 59, 60, 61, 62, 63, 64, 65, 66, 67, 68, 69, 70, 71, 72, 73, 74, 75, 76, 77, 78, 79, 80, 81, 82] (by decide +kernel) (by decide +kernel)
set_option maxRecDepth 20000 in
theorem gX9_send_X9_isHome : GoodIn wsX9_send (wsV RX9 142 RX9 yX9_isHome wsX9_isHome) := goodIn_app (goodIn_of _ (by decide +kernel)) ggX9_send_X9_isHome
set_option maxRecDepth 20000 in
theorem ggX9_send_X9_ofGoose : GoodIn wsX9_send wsX9_ofGoose := goodIn_r _ [17, 1, 30, 31, 32, 33, 34, 35, 36, 37, 38, 39, 40, 41, 42, 43, 44, 45, 46, 47, 48, 49, 50, 51, 52, 53, 54, 55, 56, 57, 58, 59, 60, 61, 62, 63, 64, 65, 66, 67, 68, 69, 70, 71, 72, 73, 74, 75, 76, 77, 78, 79, 80, 81, 82] (by decide +kernel) (by decide +kernel)
set_option maxRecDepth 20000 in
theorem gX9_send_X9_ofGoose : GoodIn wsX9_send (wsV RX9 138 RX9 yX9_ofGoose wsX9_ofGoose) := goodIn_app (goodIn_of _ (by decide +kernel)) ggX9_send_X9_ofGoose
set_option maxRecDepth 20000 in
theorem ggX9_send_X9_isMarket : GoodIn wsX9_send wsX9_isMarket := goodIn_r _ [21, 1, 11, 12, 5, 13, 30, 31, 32, 33, 34, 35, 36, 37, 38, 39, 40, 41, 42, 43, 44, 45, 46, 47, 48, 49, 50, 51, 52, 53, 54, 55, 56, 57, 58, 59, 60, 61, 62, 63, 64, 65, 66, 67, 68, 69, 70, 71, 72, 73, 74, 75, 76, 77, 78, 79, 80, 81, 82] (by decide +kernel) (by decide +kernel)
set_option maxRecDepth 20000 in
theorem gX9_send_X9_isMarket : GoodIn wsX9_send (wsV RX9 160 RX9 yX9_isMarket wsX9_isMarket) := goodIn_app (goodIn_of _ (by decide +kernel)) ggX9_send_X9_isMarket
set_option maxRecDepth 20000 in
theorem ggX9_send_X9_keepsStep : GoodIn wsX9_send wsX9_keepsStep := goodIn_r _ [25, 1, 30, 31, 32, 33, 34, 35, 36, 37, 38, 39, 40, 41, 42, 43, 44, 45, 46, 47, 48, 49, 50, 51, 52, 53, 54, 55, 56, 57, 58, 59, 60, 61, 62, 63, 64, 65, 66, 67, 68, 69, 70, 71, 72, 73, 74, 75, 76, 77, 78, 79, 80, 81, 82] (by decide +kernel) (by decide +kernel)
set_option maxRecDepth 20000 in
theorem gX9_send_X9_keepsStep : GoodIn wsX9_send (wsV RX9 153 RX9 yX9_keepsStep wsX9_keepsStep) := goodIn_app (goodIn_of _ (by decide +kernel)) ggX9_send_X9_keepsStep
set_option maxRecDepth 20000 in
theorem ggX9_send_X9_puts : GoodIn wsX9_send wsX9_puts := goodIn_r _ [29, 1, 30, 31, 32, 33, 34, 35, 36, 37, 38, 39, 40, 41, 42, 43, 44, 45, 46, 47, 48, 49, 50, 51, 52, 53, 54, 55, 56, 57, 58, 59, 60, 61, 62, 63, 64, 65, 66, 67, 68, 69, 70, 71, 72, 73, 74, 75, 76, 77, 78, 79, 80, 81, 82] (by decide +kernel) (by decide +kernel)
set_option maxRecDepth 20000 in
theorem gX9_send_X9_puts : GoodIn wsX9_send (wsV RX9 156 RX9 yX9_puts wsX9_puts) := goodIn_app (goodIn_of _ (by decide +kernel)) ggX9_send_X9_puts
theorem dX9_send_0 : decode cX9_send 0 = .ok (.aload_n 0, 1) := by decide +kernel
theorem dX9_send_1 : decode cX9_send 1 = .ok (.iload_n 1, 1) := by decide +kernel
theorem dX9_send_2 : decode cX9_send 2 = .ok (.invokevirtual 142, 3) := by decide +kernel
theorem dX9_send_5 : decode cX9_send 5 = .ok (.ifCond .eq 22, 3) := by decide +kernel
theorem dX9_send_8 : decode cX9_send 8 = .ok (.aload_n 0, 1) := by decide +kernel
theorem dX9_send_9 : decode cX9_send 9 = .ok (.iload_n 1, 1) := by decide +kernel
theorem dX9_send_10 : decode cX9_send 10 = .ok (.bipush 8, 2) := by decide +kernel
theorem dX9_send_12 : decode cX9_send 12 = .ok (.invokevirtual 138, 3) := by decide +kernel
theorem dX9_send_15 : decode cX9_send 15 = .ok (.iconst 1, 1) := by decide +kernel
theorem dX9_send_16 : decode cX9_send 16 = .ok (.if_icmp .eq 11, 3) := by decide +kernel
theorem dX9_send_19 : decode cX9_send 19 = .ok (.aload_n 0, 1) := by decide +kernel
theorem dX9_send_20 : decode cX9_send 20 = .ok (.iload_n 2, 1) := by decide +kernel
theorem dX9_send_21 : decode cX9_send 21 = .ok (.invokevirtual 160, 3) := by decide +kernel
theorem dX9_send_24 : decode cX9_send 24 = .ok (.ifCond .ne 5, 3) := by decide +kernel
theorem dX9_send_27 : decode cX9_send 27 = .ok (.iconst (-1), 1) := by decide +kernel
theorem dX9_send_28 : decode cX9_send 28 = .ok (.ireturn, 1) := by decide +kernel
theorem dX9_send_29 : decode cX9_send 29 = .ok (.aload_n 0, 1) := by decide +kernel
theorem dX9_send_30 : decode cX9_send 30 = .ok (.invokevirtual 153, 3) := by decide +kernel
theorem dX9_send_33 : decode cX9_send 33 = .ok (.aload_n 0, 1) := by decide +kernel
theorem dX9_send_34 : decode cX9_send 34 = .ok (.iload_n 1, 1) := by decide +kernel
theorem dX9_send_35 : decode cX9_send 35 = .ok (.iconst 4, 1) := by decide +kernel
theorem dX9_send_36 : decode cX9_send 36 = .ok (.iconst 1, 1) := by decide +kernel
theorem dX9_send_37 : decode cX9_send 37 = .ok (.invokevirtual 156, 3) := by decide +kernel
theorem dX9_send_40 : decode cX9_send 40 = .ok (.aload_n 0, 1) := by decide +kernel
theorem dX9_send_41 : decode cX9_send 41 = .ok (.iload_n 1, 1) := by decide +kernel
theorem dX9_send_42 : decode cX9_send 42 = .ok (.iconst 5, 1) := by decide +kernel
theorem dX9_send_43 : decode cX9_send 43 = .ok (.iload_n 2, 1) := by decide +kernel
theorem dX9_send_44 : decode cX9_send 44 = .ok (.invokevirtual 156, 3) := by decide +kernel
theorem dX9_send_47 : decode cX9_send 47 = .ok (.aload_n 0, 1) := by decide +kernel
theorem dX9_send_48 : decode cX9_send 48 = .ok (.iload_n 1, 1) := by decide +kernel
theorem dX9_send_49 : decode cX9_send 49 = .ok (.bipush 6, 2) := by decide +kernel
theorem dX9_send_51 : decode cX9_send 51 = .ok (.aload_n 0, 1) := by decide +kernel
theorem dX9_send_52 : decode cX9_send 52 = .ok (.getfield 7, 3) := by decide +kernel
theorem dX9_send_55 : decode cX9_send 55 = .ok (.bipush 121, 2) := by decide +kernel
theorem dX9_send_57 : decode cX9_send 57 = .ok (.iaload, 1) := by decide +kernel
theorem dX9_send_58 : decode cX9_send 58 = .ok (.aload_n 0, 1) := by decide +kernel
theorem dX9_send_59 : decode cX9_send 59 = .ok (.getfield 7, 3) := by decide +kernel
theorem dX9_send_62 : decode cX9_send 62 = .ok (.bipush 10, 2) := by decide +kernel
theorem dX9_send_64 : decode cX9_send 64 = .ok (.iconst 3, 1) := by decide +kernel
theorem dX9_send_65 : decode cX9_send 65 = .ok (.iload_n 2, 1) := by decide +kernel
theorem dX9_send_66 : decode cX9_send 66 = .ok (.imul, 1) := by decide +kernel
theorem dX9_send_67 : decode cX9_send 67 = .ok (.iadd, 1) := by decide +kernel
theorem dX9_send_68 : decode cX9_send 68 = .ok (.iaload, 1) := by decide +kernel
theorem dX9_send_69 : decode cX9_send 69 = .ok (.iadd, 1) := by decide +kernel
theorem dX9_send_70 : decode cX9_send 70 = .ok (.invokevirtual 156, 3) := by decide +kernel
theorem dX9_send_73 : decode cX9_send 73 = .ok (.aload_n 0, 1) := by decide +kernel
theorem dX9_send_74 : decode cX9_send 74 = .ok (.iload_n 1, 1) := by decide +kernel
theorem dX9_send_75 : decode cX9_send 75 = .ok (.bipush 6, 2) := by decide +kernel
theorem dX9_send_77 : decode cX9_send 77 = .ok (.invokevirtual 138, 3) := by decide +kernel
theorem dX9_send_80 : decode cX9_send 80 = .ok (.ireturn, 1) := by decide +kernel
set_option maxRecDepth 20000 in
theorem ggX9_fatten_X9_isHome : GoodIn wsX9_fatten wsX9_isHome := goodIn_r _ [6, 7, 8, 9, 5, 10, 1, 11, 12, 13, 14, 15, 16, 17, 26, 27, 28, 29, 30, 31, 32, 33, 34, 35, 36, 37, 38, 39, 40, 41, 42, 43, 44, 45, 46, 47, 48, 49, 50, 51, 52, 53, 54, 55, 56, 57, 58, 59, 60, 61, 62, 63, 64, 65, 66, 67, 68, 69, 70, 71, 72, 73, 74, 75, 76, 77, 78] (by decide +kernel) (by decide +kernel)
set_option maxRecDepth 20000 in
theorem gX9_fatten_X9_isHome : GoodIn wsX9_fatten (wsV RX9 142 RX9 yX9_isHome wsX9_isHome) := goodIn_app (goodIn_of _ (by decide +kernel)) ggX9_fatten_X9_isHome
set_option maxRecDepth 20000 in
theorem ggX9_fatten_X9_ofGoose : GoodIn wsX9_fatten wsX9_ofGoose := goodIn_r _ [17, 1, 26, 27, 28, 29, 30, 31, 32, 33, 34, 35, 36, 37, 38, 39, 40, 41, 42, 43, 44, 45, 46, 47, 48, 49, 50, 51, 52, 53, 54, 55, 56, 57, 58, 59, 60, 61, 62, 63, 64, 65, 66, 67, 68, 69, 70, 71, 72, 73, 74, 75, 76, 77, 78] (by decide +kernel) (by decide +kernel)
set_option maxRecDepth 20000 in
theorem gX9_fatten_X9_ofGoose : GoodIn wsX9_fatten (wsV RX9 138 RX9 yX9_ofGoose wsX9_ofGoose) := goodIn_app (goodIn_of _ (by decide +kernel)) ggX9_fatten_X9_ofGoose
set_option maxRecDepth 20000 in
theorem ggX9_fatten_X9_keepsStep : GoodIn wsX9_fatten wsX9_keepsStep := goodIn_r _ [21, 1, 26, 27, 28, 29, 30, 31, 32, 33, 34, 35, 36, 37, 38, 39, 40, 41, 42, 43, 44, 45, 46, 47, 48, 49, 50, 51, 52, 53, 54, 55, 56, 57, 58, 59, 60, 61, 62, 63, 64, 65, 66, 67, 68, 69, 70, 71, 72, 73, 74, 75, 76, 77, 78] (by decide +kernel) (by decide +kernel)
set_option maxRecDepth 20000 in
theorem gX9_fatten_X9_keepsStep : GoodIn wsX9_fatten (wsV RX9 153 RX9 yX9_keepsStep wsX9_keepsStep) := goodIn_app (goodIn_of _ (by decide +kernel)) ggX9_fatten_X9_keepsStep
set_option maxRecDepth 20000 in
theorem ggX9_fatten_X9_puts : GoodIn wsX9_fatten wsX9_puts := goodIn_r _ [25, 1, 26, 27, 28, 29, 30, 31, 32, 33, 34, 35, 36, 37, 38, 39, 40, 41, 42, 43, 44, 45, 46, 47, 48, 49, 50, 51, 52, 53, 54, 55, 56, 57, 58, 59, 60, 61, 62, 63, 64, 65, 66, 67, 68, 69, 70, 71, 72, 73, 74, 75, 76, 77, 78] (by decide +kernel) (by decide +kernel)
set_option maxRecDepth 20000 in
theorem gX9_fatten_X9_puts : GoodIn wsX9_fatten (wsV RX9 156 RX9 yX9_puts wsX9_puts) := goodIn_app (goodIn_of _ (by decide +kernel)) ggX9_fatten_X9_puts
theorem dX9_fatten_0 : decode cX9_fatten 0 = .ok (.aload_n 0, 1) := by decide +kernel
theorem dX9_fatten_1 : decode cX9_fatten 1 = .ok (.iload_n 1, 1) := by decide +kernel
theorem dX9_fatten_2 : decode cX9_fatten 2 = .ok (.invokevirtual 142, 3) := by decide +kernel
theorem dX9_fatten_5 : decode cX9_fatten 5 = .ok (.ifCond .eq 24, 3) := by decide +kernel
theorem dX9_fatten_8 : decode cX9_fatten 8 = .ok (.aload_n 0, 1) := by decide +kernel
theorem dX9_fatten_9 : decode cX9_fatten 9 = .ok (.iload_n 1, 1) := by decide +kernel
theorem dX9_fatten_10 : decode cX9_fatten 10 = .ok (.iconst 0, 1) := by decide +kernel
theorem dX9_fatten_11 : decode cX9_fatten 11 = .ok (.invokevirtual 138, 3) := by decide +kernel
theorem dX9_fatten_14 : decode cX9_fatten 14 = .ok (.bipush 20, 2) := by decide +kernel
theorem dX9_fatten_16 : decode cX9_fatten 16 = .ok (.if_icmp .eq 13, 3) := by decide +kernel
theorem dX9_fatten_19 : decode cX9_fatten 19 = .ok (.aload_n 0, 1) := by decide +kernel
theorem dX9_fatten_20 : decode cX9_fatten 20 = .ok (.getfield 7, 3) := by decide +kernel
theorem dX9_fatten_23 : decode cX9_fatten 23 = .ok (.bipush 120, 2) := by decide +kernel
theorem dX9_fatten_25 : decode cX9_fatten 25 = .ok (.iaload, 1) := by decide +kernel
theorem dX9_fatten_26 : decode cX9_fatten 26 = .ok (.ifCond .ne 5, 3) := by decide +kernel
theorem dX9_fatten_29 : decode cX9_fatten 29 = .ok (.iconst (-1), 1) := by decide +kernel
theorem dX9_fatten_30 : decode cX9_fatten 30 = .ok (.ireturn, 1) := by decide +kernel
theorem dX9_fatten_31 : decode cX9_fatten 31 = .ok (.aload_n 0, 1) := by decide +kernel
theorem dX9_fatten_32 : decode cX9_fatten 32 = .ok (.invokevirtual 153, 3) := by decide +kernel
theorem dX9_fatten_35 : decode cX9_fatten 35 = .ok (.aload_n 0, 1) := by decide +kernel
theorem dX9_fatten_36 : decode cX9_fatten 36 = .ok (.iload_n 1, 1) := by decide +kernel
theorem dX9_fatten_37 : decode cX9_fatten 37 = .ok (.iconst 0, 1) := by decide +kernel
theorem dX9_fatten_38 : decode cX9_fatten 38 = .ok (.aload_n 0, 1) := by decide +kernel
theorem dX9_fatten_39 : decode cX9_fatten 39 = .ok (.iload_n 1, 1) := by decide +kernel
theorem dX9_fatten_40 : decode cX9_fatten 40 = .ok (.iconst 0, 1) := by decide +kernel
theorem dX9_fatten_41 : decode cX9_fatten 41 = .ok (.invokevirtual 138, 3) := by decide +kernel
theorem dX9_fatten_44 : decode cX9_fatten 44 = .ok (.iconst 1, 1) := by decide +kernel
theorem dX9_fatten_45 : decode cX9_fatten 45 = .ok (.iadd, 1) := by decide +kernel
theorem dX9_fatten_46 : decode cX9_fatten 46 = .ok (.invokevirtual 156, 3) := by decide +kernel
theorem dX9_fatten_49 : decode cX9_fatten 49 = .ok (.aload_n 0, 1) := by decide +kernel
theorem dX9_fatten_50 : decode cX9_fatten 50 = .ok (.getfield 7, 3) := by decide +kernel
theorem dX9_fatten_53 : decode cX9_fatten 53 = .ok (.bipush 120, 2) := by decide +kernel
theorem dX9_fatten_55 : decode cX9_fatten 55 = .ok (.dup2, 1) := by decide +kernel
theorem dX9_fatten_56 : decode cX9_fatten 56 = .ok (.iaload, 1) := by decide +kernel
theorem dX9_fatten_57 : decode cX9_fatten 57 = .ok (.iconst 1, 1) := by decide +kernel
theorem dX9_fatten_58 : decode cX9_fatten 58 = .ok (.isub, 1) := by decide +kernel
theorem dX9_fatten_59 : decode cX9_fatten 59 = .ok (.iastore, 1) := by decide +kernel
theorem dX9_fatten_60 : decode cX9_fatten 60 = .ok (.aload_n 0, 1) := by decide +kernel
theorem dX9_fatten_61 : decode cX9_fatten 61 = .ok (.iload_n 1, 1) := by decide +kernel
theorem dX9_fatten_62 : decode cX9_fatten 62 = .ok (.iconst 0, 1) := by decide +kernel
theorem dX9_fatten_63 : decode cX9_fatten 63 = .ok (.invokevirtual 138, 3) := by decide +kernel
theorem dX9_fatten_66 : decode cX9_fatten 66 = .ok (.ireturn, 1) := by decide +kernel
set_option maxRecDepth 20000 in
theorem ggX9_pluck_X9_isHome : GoodIn wsX9_pluck wsX9_isHome := goodIn_r _ [5, 6, 7, 8, 4, 9, 10, 11, 12, 13, 14, 15, 16, 17, 26, 27, 28, 29, 30, 31, 32, 33, 34, 35, 36, 37, 38, 39, 40, 41, 42, 43, 44, 45, 46, 47, 48, 49, 50, 51, 52, 53, 54, 55, 56, 57, 58, 59, 60, 61, 62, 63, 64, 65, 66, 67, 68, 69, 70, 71, 72, 73, 74, 75, 76, 77, 78] (by decide +kernel) (by decide +kernel)
set_option maxRecDepth 20000 in
theorem gX9_pluck_X9_isHome : GoodIn wsX9_pluck (wsV RX9 142 RX9 yX9_isHome wsX9_isHome) := goodIn_app (goodIn_of _ (by decide +kernel)) ggX9_pluck_X9_isHome
set_option maxRecDepth 20000 in
theorem ggX9_pluck_X9_ofGoose : GoodIn wsX9_pluck wsX9_ofGoose := goodIn_r _ [17, 10, 26, 27, 28, 29, 30, 31, 32, 33, 34, 35, 36, 37, 38, 39, 40, 41, 42, 43, 44, 45, 46, 47, 48, 49, 50, 51, 52, 53, 54, 55, 56, 57, 58, 59, 60, 61, 62, 63, 64, 65, 66, 67, 68, 69, 70, 71, 72, 73, 74, 75, 76, 77, 78] (by decide +kernel) (by decide +kernel)
set_option maxRecDepth 20000 in
theorem gX9_pluck_X9_ofGoose : GoodIn wsX9_pluck (wsV RX9 138 RX9 yX9_ofGoose wsX9_ofGoose) := goodIn_app (goodIn_of _ (by decide +kernel)) ggX9_pluck_X9_ofGoose
set_option maxRecDepth 20000 in
theorem ggX9_pluck_X9_keepsStep : GoodIn wsX9_pluck wsX9_keepsStep := goodIn_r _ [21, 10, 26, 27, 28, 29, 30, 31, 32, 33, 34, 35, 36, 37, 38, 39, 40, 41, 42, 43, 44, 45, 46, 47, 48, 49, 50, 51, 52, 53, 54, 55, 56, 57, 58, 59, 60, 61, 62, 63, 64, 65, 66, 67, 68, 69, 70, 71, 72, 73, 74, 75, 76, 77, 78] (by decide +kernel) (by decide +kernel)
set_option maxRecDepth 20000 in
theorem gX9_pluck_X9_keepsStep : GoodIn wsX9_pluck (wsV RX9 153 RX9 yX9_keepsStep wsX9_keepsStep) := goodIn_app (goodIn_of _ (by decide +kernel)) ggX9_pluck_X9_keepsStep
set_option maxRecDepth 20000 in
theorem ggX9_pluck_X9_puts : GoodIn wsX9_pluck wsX9_puts := goodIn_r _ [25, 10, 26, 27, 28, 29, 30, 31, 32, 33, 34, 35, 36, 37, 38, 39, 40, 41, 42, 43, 44, 45, 46, 47, 48, 49, 50, 51, 52, 53, 54, 55, 56, 57, 58, 59, 60, 61, 62, 63, 64, 65, 66, 67, 68, 69, 70, 71, 72, 73, 74, 75, 76, 77, 78] (by decide +kernel) (by decide +kernel)
set_option maxRecDepth 20000 in
theorem gX9_pluck_X9_puts : GoodIn wsX9_pluck (wsV RX9 156 RX9 yX9_puts wsX9_puts) := goodIn_app (goodIn_of _ (by decide +kernel)) ggX9_pluck_X9_puts
theorem dX9_pluck_0 : decode cX9_pluck 0 = .ok (.aload_n 0, 1) := by decide +kernel
theorem dX9_pluck_1 : decode cX9_pluck 1 = .ok (.iload_n 1, 1) := by decide +kernel
theorem dX9_pluck_2 : decode cX9_pluck 2 = .ok (.invokevirtual 142, 3) := by decide +kernel
theorem dX9_pluck_5 : decode cX9_pluck 5 = .ok (.ifCond .eq 12, 3) := by decide +kernel
theorem dX9_pluck_8 : decode cX9_pluck 8 = .ok (.aload_n 0, 1) := by decide +kernel
theorem dX9_pluck_9 : decode cX9_pluck 9 = .ok (.iload_n 1, 1) := by decide +kernel
theorem dX9_pluck_10 : decode cX9_pluck 10 = .ok (.iconst 1, 1) := by decide +kernel
theorem dX9_pluck_11 : decode cX9_pluck 11 = .ok (.invokevirtual 138, 3) := by decide +kernel
theorem dX9_pluck_14 : decode cX9_pluck 14 = .ok (.ifCond .ne 5, 3) := by decide +kernel
theorem dX9_pluck_17 : decode cX9_pluck 17 = .ok (.iconst (-1), 1) := by decide +kernel
theorem dX9_pluck_18 : decode cX9_pluck 18 = .ok (.ireturn, 1) := by decide +kernel
theorem dX9_pluck_19 : decode cX9_pluck 19 = .ok (.aload_n 0, 1) := by decide +kernel
theorem dX9_pluck_20 : decode cX9_pluck 20 = .ok (.invokevirtual 153, 3) := by decide +kernel
theorem dX9_pluck_23 : decode cX9_pluck 23 = .ok (.aload_n 0, 1) := by decide +kernel
theorem dX9_pluck_24 : decode cX9_pluck 24 = .ok (.iload_n 1, 1) := by decide +kernel
theorem dX9_pluck_25 : decode cX9_pluck 25 = .ok (.iconst 1, 1) := by decide +kernel
theorem dX9_pluck_26 : decode cX9_pluck 26 = .ok (.aload_n 0, 1) := by decide +kernel
theorem dX9_pluck_27 : decode cX9_pluck 27 = .ok (.iload_n 1, 1) := by decide +kernel
theorem dX9_pluck_28 : decode cX9_pluck 28 = .ok (.iconst 1, 1) := by decide +kernel
theorem dX9_pluck_29 : decode cX9_pluck 29 = .ok (.invokevirtual 138, 3) := by decide +kernel
theorem dX9_pluck_32 : decode cX9_pluck 32 = .ok (.iconst 1, 1) := by decide +kernel
theorem dX9_pluck_33 : decode cX9_pluck 33 = .ok (.isub, 1) := by decide +kernel
theorem dX9_pluck_34 : decode cX9_pluck 34 = .ok (.invokevirtual 156, 3) := by decide +kernel
theorem dX9_pluck_37 : decode cX9_pluck 37 = .ok (.aload_n 0, 1) := by decide +kernel
theorem dX9_pluck_38 : decode cX9_pluck 38 = .ok (.iload_n 1, 1) := by decide +kernel
theorem dX9_pluck_39 : decode cX9_pluck 39 = .ok (.iconst 1, 1) := by decide +kernel
theorem dX9_pluck_40 : decode cX9_pluck 40 = .ok (.invokevirtual 138, 3) := by decide +kernel
theorem dX9_pluck_43 : decode cX9_pluck 43 = .ok (.ireturn, 1) := by decide +kernel
set_option maxRecDepth 20000 in
theorem ggX9_name_X9_isHome : GoodIn wsX9_name wsX9_isHome := goodIn_r _ [5, 6, 7, 8, 4, 9, 10, 11, 12, 13, 14, 15, 16, 17, 26, 27, 28, 29, 30, 31, 32, 33, 34, 35, 36, 37, 38, 39, 40, 41, 42, 43, 44, 45, 46, 47, 48, 49, 50, 51, 52, 53, 54, 55, 56, 57, 58, 59, 60, 61, 62, 63, 64, 65, 66, 67, 68, 69, 70, 71, 72, 73, 74, 75, 76, 77, 78] (by decide +kernel) (by decide +kernel)
set_option maxRecDepth 20000 in
theorem gX9_name_X9_isHome : GoodIn wsX9_name (wsV RX9 142 RX9 yX9_isHome wsX9_isHome) := goodIn_app (goodIn_of _ (by decide +kernel)) ggX9_name_X9_isHome
set_option maxRecDepth 20000 in
theorem ggX9_name_X9_ofGoose : GoodIn wsX9_name wsX9_ofGoose := goodIn_r _ [17, 10, 26, 27, 28, 29, 30, 31, 32, 33, 34, 35, 36, 37, 38, 39, 40, 41, 42, 43, 44, 45, 46, 47, 48, 49, 50, 51, 52, 53, 54, 55, 56, 57, 58, 59, 60, 61, 62, 63, 64, 65, 66, 67, 68, 69, 70, 71, 72, 73, 74, 75, 76, 77, 78] (by decide +kernel) (by decide +kernel)
set_option maxRecDepth 20000 in
theorem gX9_name_X9_ofGoose : GoodIn wsX9_name (wsV RX9 138 RX9 yX9_ofGoose wsX9_ofGoose) := goodIn_app (goodIn_of _ (by decide +kernel)) ggX9_name_X9_ofGoose
set_option maxRecDepth 20000 in
theorem ggX9_name_X9_keepsStep : GoodIn wsX9_name wsX9_keepsStep := goodIn_r _ [21, 10, 26, 27, 28, 29, 30, 31, 32, 33, 34, 35, 36, 37, 38, 39, 40, 41, 42, 43, 44, 45, 46, 47, 48, 49, 50, 51, 52, 53, 54, 55, 56, 57, 58, 59, 60, 61, 62, 63, 64, 65, 66, 67, 68, 69, 70, 71, 72, 73, 74, 75, 76, 77, 78] (by decide +kernel) (by decide +kernel)
set_option maxRecDepth 20000 in
theorem gX9_name_X9_keepsStep : GoodIn wsX9_name (wsV RX9 153 RX9 yX9_keepsStep wsX9_keepsStep) := goodIn_app (goodIn_of _ (by decide +kernel)) ggX9_name_X9_keepsStep
set_option maxRecDepth 20000 in
theorem ggX9_name_X9_puts : GoodIn wsX9_name wsX9_puts := goodIn_r _ [25, 10, 26, 27, 28, 29, 30, 31, 32, 33, 34, 35, 36, 37, 38, 39, 40, 41, 42, 43, 44, 45, 46, 47, 48, 49, 50, 51, 52, 53, 54, 55, 56, 57, 58, 59, 60, 61, 62, 63, 64, 65, 66, 67, 68, 69, 70, 71, 72, 73, 74, 75, 76, 77, 78] (by decide +kernel) (by decide +kernel)
set_option maxRecDepth 20000 in
theorem gX9_name_X9_puts : GoodIn wsX9_name (wsV RX9 156 RX9 yX9_puts wsX9_puts) := goodIn_app (goodIn_of _ (by decide +kernel)) ggX9_name_X9_puts
theorem dX9_name_0 : decode cX9_name 0 = .ok (.aload_n 0, 1) := by decide +kernel
theorem dX9_name_1 : decode cX9_name 1 = .ok (.iload_n 1, 1) := by decide +kernel
theorem dX9_name_2 : decode cX9_name 2 = .ok (.invokevirtual 142, 3) := by decide +kernel
theorem dX9_name_5 : decode cX9_name 5 = .ok (.ifCond .eq 14, 3) := by decide +kernel
theorem dX9_name_8 : decode cX9_name 8 = .ok (.aload_n 0, 1) := by decide +kernel
theorem dX9_name_9 : decode cX9_name 9 = .ok (.iload_n 1, 1) := by decide +kernel
theorem dX9_name_10 : decode cX9_name 10 = .ok (.bipush 8, 2) := by decide +kernel
theorem dX9_name_12 : decode cX9_name 12 = .ok (.invokevirtual 138, 3) := by decide +kernel
theorem dX9_name_15 : decode cX9_name 15 = .ok (.iconst 1, 1) := by decide +kernel
theorem dX9_name_16 : decode cX9_name 16 = .ok (.if_icmp .ne 5, 3) := by decide +kernel
theorem dX9_name_19 : decode cX9_name 19 = .ok (.iconst 0, 1) := by decide +kernel
theorem dX9_name_20 : decode cX9_name 20 = .ok (.ireturn, 1) := by decide +kernel
theorem dX9_name_21 : decode cX9_name 21 = .ok (.aload_n 0, 1) := by decide +kernel
theorem dX9_name_22 : decode cX9_name 22 = .ok (.invokevirtual 153, 3) := by decide +kernel
theorem dX9_name_25 : decode cX9_name 25 = .ok (.aload_n 0, 1) := by decide +kernel
theorem dX9_name_26 : decode cX9_name 26 = .ok (.iload_n 1, 1) := by decide +kernel
theorem dX9_name_27 : decode cX9_name 27 = .ok (.bipush 8, 2) := by decide +kernel
theorem dX9_name_29 : decode cX9_name 29 = .ok (.iconst 1, 1) := by decide +kernel
theorem dX9_name_30 : decode cX9_name 30 = .ok (.invokevirtual 156, 3) := by decide +kernel
theorem dX9_name_33 : decode cX9_name 33 = .ok (.iconst 1, 1) := by decide +kernel
theorem dX9_name_34 : decode cX9_name 34 = .ok (.ireturn, 1) := by decide +kernel
theorem dX9_put_0 : decode cX9_put 0 = .ok (.bipush 24, 2) := by decide +kernel
theorem dX9_put_2 : decode cX9_put 2 = .ok (.istore_n 2, 1) := by decide +kernel
theorem dX9_put_3 : decode cX9_put 3 = .ok (.iload_n 2, 1) := by decide +kernel
theorem dX9_put_4 : decode cX9_put 4 = .ok (.ifCond .lt 34, 3) := by decide +kernel
theorem dX9_put_7 : decode cX9_put 7 = .ok (.aload_n 0, 1) := by decide +kernel
theorem dX9_put_8 : decode cX9_put 8 = .ok (.getfield 16, 3) := by decide +kernel
theorem dX9_put_11 : decode cX9_put 11 = .ok (.aload_n 0, 1) := by decide +kernel
theorem dX9_put_12 : decode cX9_put 12 = .ok (.getfield 163, 3) := by decide +kernel
theorem dX9_put_15 : decode cX9_put 15 = .ok (.iload_n 1, 1) := by decide +kernel
theorem dX9_put_16 : decode cX9_put 16 = .ok (.iload_n 2, 1) := by decide +kernel
theorem dX9_put_17 : decode cX9_put 17 = .ok (.ishr, 1) := by decide +kernel
theorem dX9_put_18 : decode cX9_put 18 = .ok (.i2b, 1) := by decide +kernel
theorem dX9_put_19 : decode cX9_put 19 = .ok (.bastore, 1) := by decide +kernel
theorem dX9_put_20 : decode cX9_put 20 = .ok (.aload_n 0, 1) := by decide +kernel
theorem dX9_put_21 : decode cX9_put 21 = .ok (.dup, 1) := by decide +kernel
theorem dX9_put_22 : decode cX9_put 22 = .ok (.getfield 163, 3) := by decide +kernel
theorem dX9_put_25 : decode cX9_put 25 = .ok (.iconst 1, 1) := by decide +kernel
theorem dX9_put_26 : decode cX9_put 26 = .ok (.iadd, 1) := by decide +kernel
theorem dX9_put_27 : decode cX9_put 27 = .ok (.putfield 163, 3) := by decide +kernel
theorem dX9_put_30 : decode cX9_put 30 = .ok (.iload_n 2, 1) := by decide +kernel
theorem dX9_put_31 : decode cX9_put 31 = .ok (.bipush 8, 2) := by decide +kernel
theorem dX9_put_33 : decode cX9_put 33 = .ok (.isub, 1) := by decide +kernel
theorem dX9_put_34 : decode cX9_put 34 = .ok (.istore_n 2, 1) := by decide +kernel
theorem dX9_put_35 : decode cX9_put 35 = .ok (.goto (-32), 3) := by decide +kernel
theorem dX9_put_38 : decode cX9_put 38 = .ok (.return_, 1) := by decide +kernel
set_option maxRecDepth 20000 in
theorem ggX9_feed_X9_put : GoodIn wsX9_feed wsX9_put := goodIn_r _ [6, 7, 1, 8, 9, 10, 11, 12, 13, 14, 15, 16, 17, 18, 19, 20, 21, 22, 23, 24, 25, 26, 27, 28, 29, 30, 31, 32, 33, 34, 35, 36, 37, 38, 39, 40, 41, 42, 43, 44, 45, 46, 47, 48, 49, 50, 51, 52, 53, 54, 55, 56, 57, 58, 59, 60] (by decide +kernel) (by decide +kernel)
set_option maxRecDepth 20000 in
theorem gX9_feed_X9_put : GoodIn wsX9_feed (wsV RX9 166 RX9 yX9_put wsX9_put) := goodIn_app (goodIn_of _ (by decide +kernel)) ggX9_feed_X9_put
theorem dX9_feed_0 : decode cX9_feed 0 = .ok (.aload_n 0, 1) := by decide +kernel
theorem dX9_feed_1 : decode cX9_feed 1 = .ok (.getfield 163, 3) := by decide +kernel
theorem dX9_feed_4 : decode cX9_feed 4 = .ok (.bipush 20, 2) := by decide +kernel
theorem dX9_feed_6 : decode cX9_feed 6 = .ok (.iadd, 1) := by decide +kernel
theorem dX9_feed_7 : decode cX9_feed 7 = .ok (.sipush 300, 3) := by decide +kernel
theorem dX9_feed_10 : decode cX9_feed 10 = .ok (.if_icmp .le 5, 3) := by decide +kernel
theorem dX9_feed_13 : decode cX9_feed 13 = .ok (.iconst (-1), 1) := by decide +kernel
theorem dX9_feed_14 : decode cX9_feed 14 = .ok (.ireturn, 1) := by decide +kernel
theorem dX9_feed_15 : decode cX9_feed 15 = .ok (.aload_n 0, 1) := by decide +kernel
theorem dX9_feed_16 : decode cX9_feed 16 = .ok (.iload_n 1, 1) := by decide +kernel
theorem dX9_feed_17 : decode cX9_feed 17 = .ok (.invokevirtual 166, 3) := by decide +kernel
theorem dX9_feed_20 : decode cX9_feed 20 = .ok (.aload_n 0, 1) := by decide +kernel
theorem dX9_feed_21 : decode cX9_feed 21 = .ok (.iload_n 2, 1) := by decide +kernel
theorem dX9_feed_22 : decode cX9_feed 22 = .ok (.invokevirtual 166, 3) := by decide +kernel
theorem dX9_feed_25 : decode cX9_feed 25 = .ok (.aload_n 0, 1) := by decide +kernel
theorem dX9_feed_26 : decode cX9_feed 26 = .ok (.iload_n 3, 1) := by decide +kernel
theorem dX9_feed_27 : decode cX9_feed 27 = .ok (.invokevirtual 166, 3) := by decide +kernel
theorem dX9_feed_30 : decode cX9_feed 30 = .ok (.aload_n 0, 1) := by decide +kernel
theorem dX9_feed_31 : decode cX9_feed 31 = .ok (.iload 4, 2) := by decide +kernel
theorem dX9_feed_33 : decode cX9_feed 33 = .ok (.invokevirtual 166, 3) := by decide +kernel
theorem dX9_feed_36 : decode cX9_feed 36 = .ok (.aload_n 0, 1) := by decide +kernel
theorem dX9_feed_37 : decode cX9_feed 37 = .ok (.iload 5, 2) := by decide +kernel
theorem dX9_feed_39 : decode cX9_feed 39 = .ok (.invokevirtual 166, 3) := by decide +kernel
theorem dX9_feed_42 : decode cX9_feed 42 = .ok (.aload_n 0, 1) := by decide +kernel
theorem dX9_feed_43 : decode cX9_feed 43 = .ok (.getfield 163, 3) := by decide +kernel
theorem dX9_feed_46 : decode cX9_feed 46 = .ok (.ireturn, 1) := by decide +kernel
set_option maxRecDepth 20000 in
theorem ggX9_end_X9_in : GoodIn wsX9_end wsX9_in := goodIn_r _ [5] (by decide +kernel) (by decide +kernel)
set_option maxRecDepth 20000 in
theorem gX9_end_X9_in : GoodIn wsX9_end (va_wsS RX9 126 yX9_in wsX9_in) := goodIn_app (goodIn_of _ (by decide +kernel)) ggX9_end_X9_in
theorem dX9_end_0 : decode cX9_end 0 = .ok (.iload_n 1, 1) := by decide +kernel
theorem dX9_end_1 : decode cX9_end 1 = .ok (.iconst 0, 1) := by decide +kernel
theorem dX9_end_2 : decode cX9_end 2 = .ok (.aload_n 0, 1) := by decide +kernel
theorem dX9_end_3 : decode cX9_end 3 = .ok (.getfield 163, 3) := by decide +kernel
theorem dX9_end_6 : decode cX9_end 6 = .ok (.invokestatic 126, 3) := by decide +kernel
theorem dX9_end_9 : decode cX9_end 9 = .ok (.ifCond .ne 5, 3) := by decide +kernel
theorem dX9_end_12 : decode cX9_end 12 = .ok (.iconst (-1), 1) := by decide +kernel
theorem dX9_end_13 : decode cX9_end 13 = .ok (.ireturn, 1) := by decide +kernel
theorem dX9_end_14 : decode cX9_end 14 = .ok (.aload_n 0, 1) := by decide +kernel
theorem dX9_end_15 : decode cX9_end 15 = .ok (.iload_n 1, 1) := by decide +kernel
theorem dX9_end_16 : decode cX9_end 16 = .ok (.putfield 163, 3) := by decide +kernel
theorem dX9_end_19 : decode cX9_end 19 = .ok (.iload_n 1, 1) := by decide +kernel
theorem dX9_end_20 : decode cX9_end 20 = .ok (.ireturn, 1) := by decide +kernel
set_option maxRecDepth 20000 in
theorem ggX9_isLetter_X9_in : GoodIn wsX9_isLetter wsX9_in := goodIn_r _ [4] (by decide +kernel) (by decide +kernel)
set_option maxRecDepth 20000 in
theorem gX9_isLetter_X9_in : GoodIn wsX9_isLetter (va_wsS RX9 126 yX9_in wsX9_in) := goodIn_app (goodIn_of _ (by decide +kernel)) ggX9_isLetter_X9_in
theorem dX9_isLetter_0 : decode cX9_isLetter 0 = .ok (.iload_n 0, 1) := by decide +kernel
theorem dX9_isLetter_1 : decode cX9_isLetter 1 = .ok (.bipush 97, 2) := by decide +kernel
theorem dX9_isLetter_3 : decode cX9_isLetter 3 = .ok (.bipush 122, 2) := by decide +kernel
theorem dX9_isLetter_5 : decode cX9_isLetter 5 = .ok (.invokestatic 126, 3) := by decide +kernel
theorem dX9_isLetter_8 : decode cX9_isLetter 8 = .ok (.ifCond .ne 14, 3) := by decide +kernel
theorem dX9_isLetter_11 : decode cX9_isLetter 11 = .ok (.iload_n 0, 1) := by decide +kernel
theorem dX9_isLetter_12 : decode cX9_isLetter 12 = .ok (.bipush 65, 2) := by decide +kernel
theorem dX9_isLetter_14 : decode cX9_isLetter 14 = .ok (.bipush 90, 2) := by decide +kernel
theorem dX9_isLetter_16 : decode cX9_isLetter 16 = .ok (.invokestatic 126, 3) := by decide +kernel
theorem dX9_isLetter_19 : decode cX9_isLetter 19 = .ok (.ifCond .eq 7, 3) := by decide +kernel
theorem dX9_isLetter_22 : decode cX9_isLetter 22 = .ok (.iconst 1, 1) := by decide +kernel
theorem dX9_isLetter_23 : decode cX9_isLetter 23 = .ok (.goto 4, 3) := by decide +kernel
theorem dX9_isLetter_26 : decode cX9_isLetter 26 = .ok (.iconst 0, 1) := by decide +kernel
theorem dX9_isLetter_27 : decode cX9_isLetter 27 = .ok (.ireturn, 1) := by decide +kernel
theorem dX9_wordOf_0 : decode cX9_wordOf 0 = .ok (.lload_n 0, 1) := by decide +kernel
theorem dX9_wordOf_1 : decode cX9_wordOf 1 = .ok (.ldc2_w 170, 3) := by decide +kernel
theorem dX9_wordOf_4 : decode cX9_wordOf 4 = .ok (.lcmp, 1) := by decide +kernel
theorem dX9_wordOf_5 : decode cX9_wordOf 5 = .ok (.ifCond .ne 5, 3) := by decide +kernel
theorem dX9_wordOf_8 : decode cX9_wordOf 8 = .ok (.iconst 0, 1) := by decide +kernel
theorem dX9_wordOf_9 : decode cX9_wordOf 9 = .ok (.ireturn, 1) := by decide +kernel
theorem dX9_wordOf_10 : decode cX9_wordOf 10 = .ok (.lload_n 0, 1) := by decide +kernel
theorem dX9_wordOf_11 : decode cX9_wordOf 11 = .ok (.ldc2_w 172, 3) := by decide +kernel
theorem dX9_wordOf_14 : decode cX9_wordOf 14 = .ok (.lcmp, 1) := by decide +kernel
theorem dX9_wordOf_15 : decode cX9_wordOf 15 = .ok (.ifCond .ne 5, 3) := by decide +kernel
theorem dX9_wordOf_18 : decode cX9_wordOf 18 = .ok (.iconst 1, 1) := by decide +kernel
theorem dX9_wordOf_19 : decode cX9_wordOf 19 = .ok (.ireturn, 1) := by decide +kernel
theorem dX9_wordOf_20 : decode cX9_wordOf 20 = .ok (.lload_n 0, 1) := by decide +kernel
theorem dX9_wordOf_21 : decode cX9_wordOf 21 = .ok (.ldc2_w 174, 3) := by decide +kernel
theorem dX9_wordOf_24 : decode cX9_wordOf 24 = .ok (.lcmp, 1) := by decide +kernel
theorem dX9_wordOf_25 : decode cX9_wordOf 25 = .ok (.ifCond .ne 5, 3) := by decide +kernel
theorem dX9_wordOf_28 : decode cX9_wordOf 28 = .ok (.iconst 2, 1) := by decide +kernel
theorem dX9_wordOf_29 : decode cX9_wordOf 29 = .ok (.ireturn, 1) := by decide +kernel
theorem dX9_wordOf_30 : decode cX9_wordOf 30 = .ok (.lload_n 0, 1) := by decide +kernel
theorem dX9_wordOf_31 : decode cX9_wordOf 31 = .ok (.ldc2_w 176, 3) := by decide +kernel
theorem dX9_wordOf_34 : decode cX9_wordOf 34 = .ok (.lcmp, 1) := by decide +kernel
theorem dX9_wordOf_35 : decode cX9_wordOf 35 = .ok (.ifCond .ne 5, 3) := by decide +kernel
theorem dX9_wordOf_38 : decode cX9_wordOf 38 = .ok (.iconst 3, 1) := by decide +kernel
theorem dX9_wordOf_39 : decode cX9_wordOf 39 = .ok (.ireturn, 1) := by decide +kernel
theorem dX9_wordOf_40 : decode cX9_wordOf 40 = .ok (.lload_n 0, 1) := by decide +kernel
theorem dX9_wordOf_41 : decode cX9_wordOf 41 = .ok (.ldc2_w 178, 3) := by decide +kernel
theorem dX9_wordOf_44 : decode cX9_wordOf 44 = .ok (.lcmp, 1) := by decide +kernel
theorem dX9_wordOf_45 : decode cX9_wordOf 45 = .ok (.ifCond .ne 5, 3) := by decide +kernel
theorem dX9_wordOf_48 : decode cX9_wordOf 48 = .ok (.iconst 4, 1) := by decide +kernel
theorem dX9_wordOf_49 : decode cX9_wordOf 49 = .ok (.ireturn, 1) := by decide +kernel
theorem dX9_wordOf_50 : decode cX9_wordOf 50 = .ok (.lload_n 0, 1) := by decide +kernel
theorem dX9_wordOf_51 : decode cX9_wordOf 51 = .ok (.ldc2_w 180, 3) := by decide +kernel
theorem dX9_wordOf_54 : decode cX9_wordOf 54 = .ok (.lcmp, 1) := by decide +kernel
theorem dX9_wordOf_55 : decode cX9_wordOf 55 = .ok (.ifCond .ne 5, 3) := by decide +kernel
theorem dX9_wordOf_58 : decode cX9_wordOf 58 = .ok (.iconst 5, 1) := by decide +kernel
theorem dX9_wordOf_59 : decode cX9_wordOf 59 = .ok (.ireturn, 1) := by decide +kernel
theorem dX9_wordOf_60 : decode cX9_wordOf 60 = .ok (.lload_n 0, 1) := by decide +kernel
theorem dX9_wordOf_61 : decode cX9_wordOf 61 = .ok (.ldc2_w 182, 3) := by decide +kernel
theorem dX9_wordOf_64 : decode cX9_wordOf 64 = .ok (.lcmp, 1) := by decide +kernel
theorem dX9_wordOf_65 : decode cX9_wordOf 65 = .ok (.ifCond .ne 6, 3) := by decide +kernel
theorem dX9_wordOf_68 : decode cX9_wordOf 68 = .ok (.bipush 6, 2) := by decide +kernel
theorem dX9_wordOf_70 : decode cX9_wordOf 70 = .ok (.ireturn, 1) := by decide +kernel
theorem dX9_wordOf_71 : decode cX9_wordOf 71 = .ok (.lload_n 0, 1) := by decide +kernel
theorem dX9_wordOf_72 : decode cX9_wordOf 72 = .ok (.ldc2_w 184, 3) := by decide +kernel
theorem dX9_wordOf_75 : decode cX9_wordOf 75 = .ok (.lcmp, 1) := by decide +kernel
theorem dX9_wordOf_76 : decode cX9_wordOf 76 = .ok (.ifCond .ne 6, 3) := by decide +kernel
theorem dX9_wordOf_79 : decode cX9_wordOf 79 = .ok (.bipush 7, 2) := by decide +kernel
theorem dX9_wordOf_81 : decode cX9_wordOf 81 = .ok (.ireturn, 1) := by decide +kernel
theorem dX9_wordOf_82 : decode cX9_wordOf 82 = .ok (.lload_n 0, 1) := by decide +kernel
theorem dX9_wordOf_83 : decode cX9_wordOf 83 = .ok (.ldc2_w 186, 3) := by decide +kernel
theorem dX9_wordOf_86 : decode cX9_wordOf 86 = .ok (.lcmp, 1) := by decide +kernel
theorem dX9_wordOf_87 : decode cX9_wordOf 87 = .ok (.ifCond .ne 6, 3) := by decide +kernel
theorem dX9_wordOf_90 : decode cX9_wordOf 90 = .ok (.bipush 8, 2) := by decide +kernel
theorem dX9_wordOf_92 : decode cX9_wordOf 92 = .ok (.ireturn, 1) := by decide +kernel
theorem dX9_wordOf_93 : decode cX9_wordOf 93 = .ok (.lload_n 0, 1) := by decide +kernel
theorem dX9_wordOf_94 : decode cX9_wordOf 94 = .ok (.ldc2_w 188, 3) := by decide +kernel
theorem dX9_wordOf_97 : decode cX9_wordOf 97 = .ok (.lcmp, 1) := by decide +kernel
theorem dX9_wordOf_98 : decode cX9_wordOf 98 = .ok (.ifCond .ne 6, 3) := by decide +kernel
theorem dX9_wordOf_101 : decode cX9_wordOf 101 = .ok (.bipush 9, 2) := by decide +kernel
theorem dX9_wordOf_103 : decode cX9_wordOf 103 = .ok (.ireturn, 1) := by decide +kernel
theorem dX9_wordOf_104 : decode cX9_wordOf 104 = .ok (.lload_n 0, 1) := by decide +kernel
theorem dX9_wordOf_105 : decode cX9_wordOf 105 = .ok (.ldc2_w 190, 3) := by decide +kernel
theorem dX9_wordOf_108 : decode cX9_wordOf 108 = .ok (.lcmp, 1) := by decide +kernel
theorem dX9_wordOf_109 : decode cX9_wordOf 109 = .ok (.ifCond .ne 6, 3) := by decide +kernel
theorem dX9_wordOf_112 : decode cX9_wordOf 112 = .ok (.bipush 10, 2) := by decide +kernel
theorem dX9_wordOf_114 : decode cX9_wordOf 114 = .ok (.ireturn, 1) := by decide +kernel
theorem dX9_wordOf_115 : decode cX9_wordOf 115 = .ok (.lload_n 0, 1) := by decide +kernel
theorem dX9_wordOf_116 : decode cX9_wordOf 116 = .ok (.ldc2_w 192, 3) := by decide +kernel
theorem dX9_wordOf_119 : decode cX9_wordOf 119 = .ok (.lcmp, 1) := by decide +kernel
theorem dX9_wordOf_120 : decode cX9_wordOf 120 = .ok (.ifCond .ne 6, 3) := by decide +kernel
theorem dX9_wordOf_123 : decode cX9_wordOf 123 = .ok (.bipush 11, 2) := by decide +kernel
theorem dX9_wordOf_125 : decode cX9_wordOf 125 = .ok (.ireturn, 1) := by decide +kernel
theorem dX9_wordOf_126 : decode cX9_wordOf 126 = .ok (.lload_n 0, 1) := by decide +kernel
theorem dX9_wordOf_127 : decode cX9_wordOf 127 = .ok (.ldc2_w 194, 3) := by decide +kernel
theorem dX9_wordOf_130 : decode cX9_wordOf 130 = .ok (.lcmp, 1) := by decide +kernel
theorem dX9_wordOf_131 : decode cX9_wordOf 131 = .ok (.ifCond .ne 6, 3) := by decide +kernel
theorem dX9_wordOf_134 : decode cX9_wordOf 134 = .ok (.bipush 12, 2) := by decide +kernel
theorem dX9_wordOf_136 : decode cX9_wordOf 136 = .ok (.ireturn, 1) := by decide +kernel
theorem dX9_wordOf_137 : decode cX9_wordOf 137 = .ok (.lload_n 0, 1) := by decide +kernel
theorem dX9_wordOf_138 : decode cX9_wordOf 138 = .ok (.ldc2_w 196, 3) := by decide +kernel
theorem dX9_wordOf_141 : decode cX9_wordOf 141 = .ok (.lcmp, 1) := by decide +kernel
theorem dX9_wordOf_142 : decode cX9_wordOf 142 = .ok (.ifCond .ne 6, 3) := by decide +kernel
theorem dX9_wordOf_145 : decode cX9_wordOf 145 = .ok (.bipush 13, 2) := by decide +kernel
theorem dX9_wordOf_147 : decode cX9_wordOf 147 = .ok (.ireturn, 1) := by decide +kernel
theorem dX9_wordOf_148 : decode cX9_wordOf 148 = .ok (.lload_n 0, 1) := by decide +kernel
theorem dX9_wordOf_149 : decode cX9_wordOf 149 = .ok (.ldc2_w 198, 3) := by decide +kernel
theorem dX9_wordOf_152 : decode cX9_wordOf 152 = .ok (.lcmp, 1) := by decide +kernel
theorem dX9_wordOf_153 : decode cX9_wordOf 153 = .ok (.ifCond .ne 6, 3) := by decide +kernel
theorem dX9_wordOf_156 : decode cX9_wordOf 156 = .ok (.bipush 14, 2) := by decide +kernel
theorem dX9_wordOf_158 : decode cX9_wordOf 158 = .ok (.ireturn, 1) := by decide +kernel
theorem dX9_wordOf_159 : decode cX9_wordOf 159 = .ok (.lload_n 0, 1) := by decide +kernel
theorem dX9_wordOf_160 : decode cX9_wordOf 160 = .ok (.ldc2_w 200, 3) := by decide +kernel
theorem dX9_wordOf_163 : decode cX9_wordOf 163 = .ok (.lcmp, 1) := by decide +kernel
theorem dX9_wordOf_164 : decode cX9_wordOf 164 = .ok (.ifCond .ne 6, 3) := by decide +kernel
theorem dX9_wordOf_167 : decode cX9_wordOf 167 = .ok (.bipush 15, 2) := by decide +kernel
theorem dX9_wordOf_169 : decode cX9_wordOf 169 = .ok (.ireturn, 1) := by decide +kernel
theorem dX9_wordOf_170 : decode cX9_wordOf 170 = .ok (.lload_n 0, 1) := by decide +kernel
theorem dX9_wordOf_171 : decode cX9_wordOf 171 = .ok (.ldc2_w 202, 3) := by decide +kernel
theorem dX9_wordOf_174 : decode cX9_wordOf 174 = .ok (.lcmp, 1) := by decide +kernel
theorem dX9_wordOf_175 : decode cX9_wordOf 175 = .ok (.ifCond .ne 6, 3) := by decide +kernel
theorem dX9_wordOf_178 : decode cX9_wordOf 178 = .ok (.bipush 16, 2) := by decide +kernel
theorem dX9_wordOf_180 : decode cX9_wordOf 180 = .ok (.ireturn, 1) := by decide +kernel
theorem dX9_wordOf_181 : decode cX9_wordOf 181 = .ok (.lload_n 0, 1) := by decide +kernel
theorem dX9_wordOf_182 : decode cX9_wordOf 182 = .ok (.ldc2_w 204, 3) := by decide +kernel
theorem dX9_wordOf_185 : decode cX9_wordOf 185 = .ok (.lcmp, 1) := by decide +kernel
theorem dX9_wordOf_186 : decode cX9_wordOf 186 = .ok (.ifCond .ne 6, 3) := by decide +kernel
theorem dX9_wordOf_189 : decode cX9_wordOf 189 = .ok (.bipush 17, 2) := by decide +kernel
theorem dX9_wordOf_191 : decode cX9_wordOf 191 = .ok (.ireturn, 1) := by decide +kernel
theorem dX9_wordOf_192 : decode cX9_wordOf 192 = .ok (.lload_n 0, 1) := by decide +kernel
theorem dX9_wordOf_193 : decode cX9_wordOf 193 = .ok (.ldc2_w 206, 3) := by decide +kernel
theorem dX9_wordOf_196 : decode cX9_wordOf 196 = .ok (.lcmp, 1) := by decide +kernel
theorem dX9_wordOf_197 : decode cX9_wordOf 197 = .ok (.ifCond .ne 6, 3) := by decide +kernel
theorem dX9_wordOf_200 : decode cX9_wordOf 200 = .ok (.bipush 18, 2) := by decide +kernel
theorem dX9_wordOf_202 : decode cX9_wordOf 202 = .ok (.ireturn, 1) := by decide +kernel
theorem dX9_wordOf_203 : decode cX9_wordOf 203 = .ok (.lload_n 0, 1) := by decide +kernel
theorem dX9_wordOf_204 : decode cX9_wordOf 204 = .ok (.ldc2_w 208, 3) := by decide +kernel
theorem dX9_wordOf_207 : decode cX9_wordOf 207 = .ok (.lcmp, 1) := by decide +kernel
theorem dX9_wordOf_208 : decode cX9_wordOf 208 = .ok (.ifCond .ne 6, 3) := by decide +kernel
theorem dX9_wordOf_211 : decode cX9_wordOf 211 = .ok (.bipush 19, 2) := by decide +kernel
theorem dX9_wordOf_213 : decode cX9_wordOf 213 = .ok (.ireturn, 1) := by decide +kernel
theorem dX9_wordOf_214 : decode cX9_wordOf 214 = .ok (.lload_n 0, 1) := by decide +kernel
theorem dX9_wordOf_215 : decode cX9_wordOf 215 = .ok (.ldc2_w 210, 3) := by decide +kernel
theorem dX9_wordOf_218 : decode cX9_wordOf 218 = .ok (.lcmp, 1) := by decide +kernel
theorem dX9_wordOf_219 : decode cX9_wordOf 219 = .ok (.ifCond .ne 6, 3) := by decide +kernel
theorem dX9_wordOf_222 : decode cX9_wordOf 222 = .ok (.bipush 20, 2) := by decide +kernel
theorem dX9_wordOf_224 : decode cX9_wordOf 224 = .ok (.ireturn, 1) := by decide +kernel
theorem dX9_wordOf_225 : decode cX9_wordOf 225 = .ok (.lload_n 0, 1) := by decide +kernel
theorem dX9_wordOf_226 : decode cX9_wordOf 226 = .ok (.ldc2_w 212, 3) := by decide +kernel
theorem dX9_wordOf_229 : decode cX9_wordOf 229 = .ok (.lcmp, 1) := by decide +kernel
theorem dX9_wordOf_230 : decode cX9_wordOf 230 = .ok (.ifCond .ne 6, 3) := by decide +kernel
theorem dX9_wordOf_233 : decode cX9_wordOf 233 = .ok (.bipush 21, 2) := by decide +kernel
theorem dX9_wordOf_235 : decode cX9_wordOf 235 = .ok (.ireturn, 1) := by decide +kernel
theorem dX9_wordOf_236 : decode cX9_wordOf 236 = .ok (.iconst (-1), 1) := by decide +kernel
theorem dX9_wordOf_237 : decode cX9_wordOf 237 = .ok (.ireturn, 1) := by decide +kernel
set_option maxRecDepth 20000 in
theorem ggX9_next_X9_isLetter : GoodIn wsX9_next wsX9_isLetter := goodIn_r _ [12, 13, 14, 11, 15] (by decide +kernel) (by decide +kernel)
set_option maxRecDepth 20000 in
theorem gX9_next_X9_isLetter : GoodIn wsX9_next (va_wsS RX9 226 yX9_isLetter wsX9_isLetter) := goodIn_app (goodIn_of _ (by decide +kernel)) ggX9_next_X9_isLetter
set_option maxRecDepth 20000 in
theorem ggX9_next_X9_wordOf : GoodIn wsX9_next wsX9_wordOf := goodIn_r _ [18, 19, 20, 21, 22, 23, 24, 25, 26, 27, 28, 29, 30, 31, 32, 33, 34, 35, 36, 37, 38, 39, 40] (by decide +kernel) (by decide +kernel)
set_option maxRecDepth 20000 in
theorem gX9_next_X9_wordOf : GoodIn wsX9_next (va_wsS RX9 231 yX9_wordOf wsX9_wordOf) := goodIn_app (goodIn_of _ (by decide +kernel)) ggX9_next_X9_wordOf
set_option maxRecDepth 20000 in
theorem ggX9_next_X9_in : GoodIn wsX9_next wsX9_in := goodIn_r _ [15] (by decide +kernel) (by decide +kernel)
set_option maxRecDepth 20000 in
theorem gX9_next_X9_in : GoodIn wsX9_next (va_wsS RX9 126 yX9_in wsX9_in) := goodIn_app (goodIn_of _ (by decide +kernel)) ggX9_next_X9_in
theorem dX9_next_0 : decode cX9_next 0 = .ok (.aload_n 0, 1) := by decide +kernel
theorem dX9_next_1 : decode cX9_next 1 = .ok (.getfield 214, 3) := by decide +kernel
theorem dX9_next_4 : decode cX9_next 4 = .ok (.aload_n 0, 1) := by decide +kernel
theorem dX9_next_5 : decode cX9_next 5 = .ok (.getfield 217, 3) := by decide +kernel
theorem dX9_next_8 : decode cX9_next 8 = .ok (.if_icmp .ge 44, 3) := by decide +kernel
theorem dX9_next_11 : decode cX9_next 11 = .ok (.aload_n 0, 1) := by decide +kernel
theorem dX9_next_12 : decode cX9_next 12 = .ok (.getfield 16, 3) := by decide +kernel
theorem dX9_next_15 : decode cX9_next 15 = .ok (.aload_n 0, 1) := by decide +kernel
theorem dX9_next_16 : decode cX9_next 16 = .ok (.getfield 214, 3) := by decide +kernel
theorem dX9_next_19 : decode cX9_next 19 = .ok (.baload, 1) := by decide +kernel
theorem dX9_next_20 : decode cX9_next 20 = .ok (.bipush 32, 2) := by decide +kernel
theorem dX9_next_22 : decode cX9_next 22 = .ok (.if_icmp .eq 17, 3) := by decide +kernel
theorem dX9_next_25 : decode cX9_next 25 = .ok (.aload_n 0, 1) := by decide +kernel
theorem dX9_next_26 : decode cX9_next 26 = .ok (.getfield 16, 3) := by decide +kernel
theorem dX9_next_29 : decode cX9_next 29 = .ok (.aload_n 0, 1) := by decide +kernel
theorem dX9_next_30 : decode cX9_next 30 = .ok (.getfield 214, 3) := by decide +kernel
theorem dX9_next_33 : decode cX9_next 33 = .ok (.baload, 1) := by decide +kernel
theorem dX9_next_34 : decode cX9_next 34 = .ok (.bipush 10, 2) := by decide +kernel
theorem dX9_next_36 : decode cX9_next 36 = .ok (.if_icmp .ne 16, 3) := by decide +kernel
theorem dX9_next_39 : decode cX9_next 39 = .ok (.aload_n 0, 1) := by decide +kernel
theorem dX9_next_40 : decode cX9_next 40 = .ok (.dup, 1) := by decide +kernel
theorem dX9_next_41 : decode cX9_next 41 = .ok (.getfield 214, 3) := by decide +kernel
theorem dX9_next_44 : decode cX9_next 44 = .ok (.iconst 1, 1) := by decide +kernel
theorem dX9_next_45 : decode cX9_next 45 = .ok (.iadd, 1) := by decide +kernel
theorem dX9_next_46 : decode cX9_next 46 = .ok (.putfield 214, 3) := by decide +kernel
theorem dX9_next_49 : decode cX9_next 49 = .ok (.goto (-49), 3) := by decide +kernel
theorem dX9_next_52 : decode cX9_next 52 = .ok (.aload_n 0, 1) := by decide +kernel
theorem dX9_next_53 : decode cX9_next 53 = .ok (.aload_n 0, 1) := by decide +kernel
theorem dX9_next_54 : decode cX9_next 54 = .ok (.getfield 214, 3) := by decide +kernel
theorem dX9_next_57 : decode cX9_next 57 = .ok (.putfield 220, 3) := by decide +kernel
theorem dX9_next_60 : decode cX9_next 60 = .ok (.aload_n 0, 1) := by decide +kernel
theorem dX9_next_61 : decode cX9_next 61 = .ok (.getfield 214, 3) := by decide +kernel
theorem dX9_next_64 : decode cX9_next 64 = .ok (.aload_n 0, 1) := by decide +kernel
theorem dX9_next_65 : decode cX9_next 65 = .ok (.getfield 217, 3) := by decide +kernel
theorem dX9_next_68 : decode cX9_next 68 = .ok (.if_icmp .ne 9, 3) := by decide +kernel
theorem dX9_next_71 : decode cX9_next 71 = .ok (.aload_n 0, 1) := by decide +kernel
theorem dX9_next_72 : decode cX9_next 72 = .ok (.iconst 0, 1) := by decide +kernel
theorem dX9_next_73 : decode cX9_next 73 = .ok (.putfield 223, 3) := by decide +kernel
theorem dX9_next_76 : decode cX9_next 76 = .ok (.return_, 1) := by decide +kernel
theorem dX9_next_77 : decode cX9_next 77 = .ok (.aload_n 0, 1) := by decide +kernel
theorem dX9_next_78 : decode cX9_next 78 = .ok (.getfield 16, 3) := by decide +kernel
theorem dX9_next_81 : decode cX9_next 81 = .ok (.aload_n 0, 1) := by decide +kernel
theorem dX9_next_82 : decode cX9_next 82 = .ok (.getfield 214, 3) := by decide +kernel
theorem dX9_next_85 : decode cX9_next 85 = .ok (.baload, 1) := by decide +kernel
theorem dX9_next_86 : decode cX9_next 86 = .ok (.istore_n 1, 1) := by decide +kernel
theorem dX9_next_87 : decode cX9_next 87 = .ok (.iload_n 1, 1) := by decide +kernel
theorem dX9_next_88 : decode cX9_next 88 = .ok (.invokestatic 226, 3) := by decide +kernel
theorem dX9_next_91 : decode cX9_next 91 = .ok (.ifCond .eq 120, 3) := by decide +kernel
theorem dX9_next_94 : decode cX9_next 94 = .ok (.lconst 0, 1) := by decide +kernel
theorem dX9_next_95 : decode cX9_next 95 = .ok (.lstore_n 2, 1) := by decide +kernel
theorem dX9_next_96 : decode cX9_next 96 = .ok (.iconst 0, 1) := by decide +kernel
theorem dX9_next_97 : decode cX9_next 97 = .ok (.istore 4, 2) := by decide +kernel
theorem dX9_next_99 : decode cX9_next 99 = .ok (.aload_n 0, 1) := by decide +kernel
theorem dX9_next_100 : decode cX9_next 100 = .ok (.getfield 214, 3) := by decide +kernel
theorem dX9_next_103 : decode cX9_next 103 = .ok (.aload_n 0, 1) := by decide +kernel
theorem dX9_next_104 : decode cX9_next 104 = .ok (.getfield 217, 3) := by decide +kernel
theorem dX9_next_107 : decode cX9_next 107 = .ok (.if_icmp .ge 66, 3) := by decide +kernel
theorem dX9_next_110 : decode cX9_next 110 = .ok (.aload_n 0, 1) := by decide +kernel
theorem dX9_next_111 : decode cX9_next 111 = .ok (.getfield 16, 3) := by decide +kernel
theorem dX9_next_114 : decode cX9_next 114 = .ok (.aload_n 0, 1) := by decide +kernel
theorem dX9_next_115 : decode cX9_next 115 = .ok (.getfield 214, 3) := by decide +kernel
theorem dX9_next_118 : decode cX9_next 118 = .ok (.baload, 1) := by decide +kernel
theorem dX9_next_119 : decode cX9_next 119 = .ok (.invokestatic 226, 3) := by decide +kernel
theorem dX9_next_122 : decode cX9_next 122 = .ok (.ifCond .eq 51, 3) := by decide +kernel
theorem dX9_next_125 : decode cX9_next 125 = .ok (.iload 4, 2) := by decide +kernel
theorem dX9_next_127 : decode cX9_next 127 = .ok (.bipush 9, 2) := by decide +kernel
theorem dX9_next_129 : decode cX9_next 129 = .ok (.if_icmp .ge 26, 3) := by decide +kernel
theorem dX9_next_132 : decode cX9_next 132 = .ok (.ldc2_w 229, 3) := by decide +kernel
theorem dX9_next_135 : decode cX9_next 135 = .ok (.lload_n 2, 1) := by decide +kernel
theorem dX9_next_136 : decode cX9_next 136 = .ok (.lmul, 1) := by decide +kernel
theorem dX9_next_137 : decode cX9_next 137 = .ok (.aload_n 0, 1) := by decide +kernel
theorem dX9_next_138 : decode cX9_next 138 = .ok (.getfield 16, 3) := by decide +kernel
theorem dX9_next_141 : decode cX9_next 141 = .ok (.aload_n 0, 1) := by decide +kernel
theorem dX9_next_142 : decode cX9_next 142 = .ok (.getfield 214, 3) := by decide +kernel
theorem dX9_next_145 : decode cX9_next 145 = .ok (.baload, 1) := by decide +kernel
theorem dX9_next_146 : decode cX9_next 146 = .ok (.i2l, 1) := by decide +kernel
theorem dX9_next_147 : decode cX9_next 147 = .ok (.ladd, 1) := by decide +kernel
theorem dX9_next_148 : decode cX9_next 148 = .ok (.ldc2_w 229, 3) := by decide +kernel
theorem dX9_next_151 : decode cX9_next 151 = .ok (.lsub, 1) := by decide +kernel
theorem dX9_next_152 : decode cX9_next 152 = .ok (.goto 4, 3) := by decide +kernel
theorem dX9_next_155 : decode cX9_next 155 = .ok (.lload_n 2, 1) := by decide +kernel
theorem dX9_next_156 : decode cX9_next 156 = .ok (.lstore_n 2, 1) := by decide +kernel
theorem dX9_next_157 : decode cX9_next 157 = .ok (.iinc 4 1, 3) := by decide +kernel
theorem dX9_next_160 : decode cX9_next 160 = .ok (.aload_n 0, 1) := by decide +kernel
theorem dX9_next_161 : decode cX9_next 161 = .ok (.dup, 1) := by decide +kernel
theorem dX9_next_162 : decode cX9_next 162 = .ok (.getfield 214, 3) := by decide +kernel
theorem dX9_next_165 : decode cX9_next 165 = .ok (.iconst 1, 1) := by decide +kernel
theorem dX9_next_166 : decode cX9_next 166 = .ok (.iadd, 1) := by decide +kernel
theorem dX9_next_167 : decode cX9_next 167 = .ok (.putfield 214, 3) := by decide +kernel
theorem dX9_next_170 : decode cX9_next 170 = .ok (.goto (-71), 3) := by decide +kernel
theorem dX9_next_173 : decode cX9_next 173 = .ok (.aload_n 0, 1) := by decide +kernel
theorem dX9_next_174 : decode cX9_next 174 = .ok (.iload 4, 2) := by decide +kernel
theorem dX9_next_176 : decode cX9_next 176 = .ok (.bipush 8, 2) := by decide +kernel
theorem dX9_next_178 : decode cX9_next 178 = .ok (.if_icmp .le 7, 3) := by decide +kernel
theorem dX9_next_181 : decode cX9_next 181 = .ok (.iconst (-1), 1) := by decide +kernel
theorem dX9_next_182 : decode cX9_next 182 = .ok (.goto 7, 3) := by decide +kernel
theorem dX9_next_185 : decode cX9_next 185 = .ok (.lload_n 2, 1) := by decide +kernel
theorem dX9_next_186 : decode cX9_next 186 = .ok (.invokestatic 231, 3) := by decide +kernel
theorem dX9_next_189 : decode cX9_next 189 = .ok (.putfield 235, 3) := by decide +kernel
theorem dX9_next_192 : decode cX9_next 192 = .ok (.aload_n 0, 1) := by decide +kernel
theorem dX9_next_193 : decode cX9_next 193 = .ok (.aload_n 0, 1) := by decide +kernel
theorem dX9_next_194 : decode cX9_next 194 = .ok (.getfield 235, 3) := by decide +kernel
theorem dX9_next_197 : decode cX9_next 197 = .ok (.ifCond .ge 7, 3) := by decide +kernel
theorem dX9_next_200 : decode cX9_next 200 = .ok (.iconst 4, 1) := by decide +kernel
theorem dX9_next_201 : decode cX9_next 201 = .ok (.goto 4, 3) := by decide +kernel
theorem dX9_next_204 : decode cX9_next 204 = .ok (.iconst 1, 1) := by decide +kernel
theorem dX9_next_205 : decode cX9_next 205 = .ok (.putfield 223, 3) := by decide +kernel
theorem dX9_next_208 : decode cX9_next 208 = .ok (.goto 231, 3) := by decide +kernel
theorem dX9_next_211 : decode cX9_next 211 = .ok (.iload_n 1, 1) := by decide +kernel
theorem dX9_next_212 : decode cX9_next 212 = .ok (.bipush 48, 2) := by decide +kernel
theorem dX9_next_214 : decode cX9_next 214 = .ok (.bipush 57, 2) := by decide +kernel
theorem dX9_next_216 : decode cX9_next 216 = .ok (.invokestatic 126, 3) := by decide +kernel
theorem dX9_next_219 : decode cX9_next 219 = .ok (.ifCond .eq 96, 3) := by decide +kernel
theorem dX9_next_222 : decode cX9_next 222 = .ok (.aload_n 0, 1) := by decide +kernel
theorem dX9_next_223 : decode cX9_next 223 = .ok (.iconst 2, 1) := by decide +kernel
theorem dX9_next_224 : decode cX9_next 224 = .ok (.putfield 223, 3) := by decide +kernel
theorem dX9_next_227 : decode cX9_next 227 = .ok (.aload_n 0, 1) := by decide +kernel
theorem dX9_next_228 : decode cX9_next 228 = .ok (.iconst 0, 1) := by decide +kernel
theorem dX9_next_229 : decode cX9_next 229 = .ok (.putfield 235, 3) := by decide +kernel
theorem dX9_next_232 : decode cX9_next 232 = .ok (.aload_n 0, 1) := by decide +kernel
theorem dX9_next_233 : decode cX9_next 233 = .ok (.getfield 214, 3) := by decide +kernel
theorem dX9_next_236 : decode cX9_next 236 = .ok (.aload_n 0, 1) := by decide +kernel
theorem dX9_next_237 : decode cX9_next 237 = .ok (.getfield 217, 3) := by decide +kernel
theorem dX9_next_240 : decode cX9_next 240 = .ok (.if_icmp .ge 199, 3) := by decide +kernel
theorem dX9_next_243 : decode cX9_next 243 = .ok (.aload_n 0, 1) := by decide +kernel
theorem dX9_next_244 : decode cX9_next 244 = .ok (.getfield 16, 3) := by decide +kernel
theorem dX9_next_247 : decode cX9_next 247 = .ok (.aload_n 0, 1) := by decide +kernel
theorem dX9_next_248 : decode cX9_next 248 = .ok (.getfield 214, 3) := by decide +kernel
theorem dX9_next_251 : decode cX9_next 251 = .ok (.baload, 1) := by decide +kernel
theorem dX9_next_252 : decode cX9_next 252 = .ok (.bipush 48, 2) := by decide +kernel
theorem dX9_next_254 : decode cX9_next 254 = .ok (.bipush 57, 2) := by decide +kernel
theorem dX9_next_256 : decode cX9_next 256 = .ok (.invokestatic 126, 3) := by decide +kernel
theorem dX9_next_259 : decode cX9_next 259 = .ok (.ifCond .eq 180, 3) := by decide +kernel
theorem dX9_next_262 : decode cX9_next 262 = .ok (.aload_n 0, 1) := by decide +kernel
theorem dX9_next_263 : decode cX9_next 263 = .ok (.aload_n 0, 1) := by decide +kernel
theorem dX9_next_264 : decode cX9_next 264 = .ok (.getfield 235, 3) := by decide +kernel
theorem dX9_next_267 : decode cX9_next 267 = .ok (.ldc 238, 2) := by decide +kernel
theorem dX9_next_269 : decode cX9_next 269 = .ok (.if_icmp .le 10, 3) := by decide +kernel
theorem dX9_next_272 : decode cX9_next 272 = .ok (.aload_n 0, 1) := by decide +kernel
theorem dX9_next_273 : decode cX9_next 273 = .ok (.getfield 235, 3) := by decide +kernel
theorem dX9_next_276 : decode cX9_next 276 = .ok (.goto 23, 3) := by decide +kernel
theorem dX9_next_279 : decode cX9_next 279 = .ok (.bipush 10, 2) := by decide +kernel
theorem dX9_next_281 : decode cX9_next 281 = .ok (.aload_n 0, 1) := by decide +kernel
theorem dX9_next_282 : decode cX9_next 282 = .ok (.getfield 235, 3) := by decide +kernel
theorem dX9_next_285 : decode cX9_next 285 = .ok (.imul, 1) := by decide +kernel
theorem dX9_next_286 : decode cX9_next 286 = .ok (.aload_n 0, 1) := by decide +kernel
theorem dX9_next_287 : decode cX9_next 287 = .ok (.getfield 16, 3) := by decide +kernel
theorem dX9_next_290 : decode cX9_next 290 = .ok (.aload_n 0, 1) := by decide +kernel
theorem dX9_next_291 : decode cX9_next 291 = .ok (.getfield 214, 3) := by decide +kernel
theorem dX9_next_294 : decode cX9_next 294 = .ok (.baload, 1) := by decide +kernel
theorem dX9_next_295 : decode cX9_next 295 = .ok (.iadd, 1) := by decide +kernel
theorem dX9_next_296 : decode cX9_next 296 = .ok (.bipush 48, 2) := by decide +kernel
theorem dX9_next_298 : decode cX9_next 298 = .ok (.isub, 1) := by decide +kernel
theorem dX9_next_299 : decode cX9_next 299 = .ok (.putfield 235, 3) := by decide +kernel
theorem dX9_next_302 : decode cX9_next 302 = .ok (.aload_n 0, 1) := by decide +kernel
theorem dX9_next_303 : decode cX9_next 303 = .ok (.dup, 1) := by decide +kernel
theorem dX9_next_304 : decode cX9_next 304 = .ok (.getfield 214, 3) := by decide +kernel
theorem dX9_next_307 : decode cX9_next 307 = .ok (.iconst 1, 1) := by decide +kernel
theorem dX9_next_308 : decode cX9_next 308 = .ok (.iadd, 1) := by decide +kernel
theorem dX9_next_309 : decode cX9_next 309 = .ok (.putfield 214, 3) := by decide +kernel
theorem dX9_next_312 : decode cX9_next 312 = .ok (.goto (-80), 3) := by decide +kernel
theorem dX9_next_315 : decode cX9_next 315 = .ok (.aload_n 0, 1) := by decide +kernel
theorem dX9_next_316 : decode cX9_next 316 = .ok (.dup, 1) := by decide +kernel
theorem dX9_next_317 : decode cX9_next 317 = .ok (.getfield 214, 3) := by decide +kernel
theorem dX9_next_320 : decode cX9_next 320 = .ok (.iconst 1, 1) := by decide +kernel
theorem dX9_next_321 : decode cX9_next 321 = .ok (.iadd, 1) := by decide +kernel
theorem dX9_next_322 : decode cX9_next 322 = .ok (.putfield 214, 3) := by decide +kernel
theorem dX9_next_325 : decode cX9_next 325 = .ok (.aload_n 0, 1) := by decide +kernel
theorem dX9_next_326 : decode cX9_next 326 = .ok (.iload_n 1, 1) := by decide +kernel
theorem dX9_next_327 : decode cX9_next 327 = .ok (.putfield 235, 3) := by decide +kernel
theorem dX9_next_330 : decode cX9_next 330 = .ok (.aload_n 0, 1) := by decide +kernel
theorem dX9_next_331 : decode cX9_next 331 = .ok (.iload_n 1, 1) := by decide +kernel
theorem dX9_next_332 : decode cX9_next 332 = .ok (.bipush 59, 2) := by decide +kernel
theorem dX9_next_334 : decode cX9_next 334 = .ok (.bipush 62, 2) := by decide +kernel
theorem dX9_next_336 : decode cX9_next 336 = .ok (.invokestatic 126, 3) := by decide +kernel
theorem dX9_next_339 : decode cX9_next 339 = .ok (.ifCond .ne 26, 3) := by decide +kernel
theorem dX9_next_342 : decode cX9_next 342 = .ok (.iload_n 1, 1) := by decide +kernel
theorem dX9_next_343 : decode cX9_next 343 = .ok (.bipush 40, 2) := by decide +kernel
theorem dX9_next_345 : decode cX9_next 345 = .ok (.bipush 45, 2) := by decide +kernel
theorem dX9_next_347 : decode cX9_next 347 = .ok (.invokestatic 126, 3) := by decide +kernel
theorem dX9_next_350 : decode cX9_next 350 = .ok (.ifCond .ne 15, 3) := by decide +kernel
theorem dX9_next_353 : decode cX9_next 353 = .ok (.iload_n 1, 1) := by decide +kernel
theorem dX9_next_354 : decode cX9_next 354 = .ok (.bipush 47, 2) := by decide +kernel
theorem dX9_next_356 : decode cX9_next 356 = .ok (.if_icmp .eq 9, 3) := by decide +kernel
theorem dX9_next_359 : decode cX9_next 359 = .ok (.iload_n 1, 1) := by decide +kernel
theorem dX9_next_360 : decode cX9_next 360 = .ok (.bipush 35, 2) := by decide +kernel
theorem dX9_next_362 : decode cX9_next 362 = .ok (.if_icmp .ne 7, 3) := by decide +kernel
theorem dX9_next_365 : decode cX9_next 365 = .ok (.iconst 3, 1) := by decide +kernel
theorem dX9_next_366 : decode cX9_next 366 = .ok (.goto 4, 3) := by decide +kernel
theorem dX9_next_369 : decode cX9_next 369 = .ok (.iconst 4, 1) := by decide +kernel
theorem dX9_next_370 : decode cX9_next 370 = .ok (.putfield 223, 3) := by decide +kernel
theorem dX9_next_373 : decode cX9_next 373 = .ok (.iload_n 1, 1) := by decide +kernel
theorem dX9_next_374 : decode cX9_next 374 = .ok (.bipush 60, 2) := by decide +kernel
theorem dX9_next_376 : decode cX9_next 376 = .ok (.if_icmp .eq 9, 3) := by decide +kernel
theorem dX9_next_379 : decode cX9_next 379 = .ok (.iload_n 1, 1) := by decide +kernel
theorem dX9_next_380 : decode cX9_next 380 = .ok (.bipush 62, 2) := by decide +kernel
theorem dX9_next_382 : decode cX9_next 382 = .ok (.if_icmp .ne 57, 3) := by decide +kernel
theorem dX9_next_385 : decode cX9_next 385 = .ok (.aload_n 0, 1) := by decide +kernel
theorem dX9_next_386 : decode cX9_next 386 = .ok (.getfield 214, 3) := by decide +kernel
theorem dX9_next_389 : decode cX9_next 389 = .ok (.aload_n 0, 1) := by decide +kernel
theorem dX9_next_390 : decode cX9_next 390 = .ok (.getfield 217, 3) := by decide +kernel
theorem dX9_next_393 : decode cX9_next 393 = .ok (.if_icmp .ge 46, 3) := by decide +kernel
theorem dX9_next_396 : decode cX9_next 396 = .ok (.aload_n 0, 1) := by decide +kernel
theorem dX9_next_397 : decode cX9_next 397 = .ok (.getfield 16, 3) := by decide +kernel
theorem dX9_next_400 : decode cX9_next 400 = .ok (.aload_n 0, 1) := by decide +kernel
theorem dX9_next_401 : decode cX9_next 401 = .ok (.getfield 214, 3) := by decide +kernel
theorem dX9_next_404 : decode cX9_next 404 = .ok (.baload, 1) := by decide +kernel
theorem dX9_next_405 : decode cX9_next 405 = .ok (.bipush 61, 2) := by decide +kernel
theorem dX9_next_407 : decode cX9_next 407 = .ok (.if_icmp .ne 32, 3) := by decide +kernel
theorem dX9_next_410 : decode cX9_next 410 = .ok (.aload_n 0, 1) := by decide +kernel
theorem dX9_next_411 : decode cX9_next 411 = .ok (.iload_n 1, 1) := by decide +kernel
theorem dX9_next_412 : decode cX9_next 412 = .ok (.bipush 60, 2) := by decide +kernel
theorem dX9_next_414 : decode cX9_next 414 = .ok (.if_icmp .ne 9, 3) := by decide +kernel
theorem dX9_next_417 : decode cX9_next 417 = .ok (.sipush 300, 3) := by decide +kernel
theorem dX9_next_420 : decode cX9_next 420 = .ok (.goto 6, 3) := by decide +kernel
theorem dX9_next_423 : decode cX9_next 423 = .ok (.sipush 301, 3) := by decide +kernel
theorem dX9_next_426 : decode cX9_next 426 = .ok (.putfield 235, 3) := by decide +kernel
theorem dX9_next_429 : decode cX9_next 429 = .ok (.aload_n 0, 1) := by decide +kernel
theorem dX9_next_430 : decode cX9_next 430 = .ok (.dup, 1) := by decide +kernel
theorem dX9_next_431 : decode cX9_next 431 = .ok (.getfield 214, 3) := by decide +kernel
theorem dX9_next_434 : decode cX9_next 434 = .ok (.iconst 1, 1) := by decide +kernel
theorem dX9_next_435 : decode cX9_next 435 = .ok (.iadd, 1) := by decide +kernel
theorem dX9_next_436 : decode cX9_next 436 = .ok (.putfield 214, 3) := by decide +kernel
theorem dX9_next_439 : decode cX9_next 439 = .ok (.return_, 1) := by decide +kernel
theorem dX9_isSign_0 : decode cX9_isSign 0 = .ok (.aload_n 0, 1) := by decide +kernel
theorem dX9_isSign_1 : decode cX9_isSign 1 = .ok (.getfield 223, 3) := by decide +kernel
theorem dX9_isSign_4 : decode cX9_isSign 4 = .ok (.iconst 3, 1) := by decide +kernel
theorem dX9_isSign_5 : decode cX9_isSign 5 = .ok (.if_icmp .ne 15, 3) := by decide +kernel
theorem dX9_isSign_8 : decode cX9_isSign 8 = .ok (.aload_n 0, 1) := by decide +kernel
theorem dX9_isSign_9 : decode cX9_isSign 9 = .ok (.getfield 235, 3) := by decide +kernel
theorem dX9_isSign_12 : decode cX9_isSign 12 = .ok (.iload_n 1, 1) := by decide +kernel
theorem dX9_isSign_13 : decode cX9_isSign 13 = .ok (.if_icmp .ne 7, 3) := by decide +kernel
theorem dX9_isSign_16 : decode cX9_isSign 16 = .ok (.iconst 1, 1) := by decide +kernel
theorem dX9_isSign_17 : decode cX9_isSign 17 = .ok (.goto 4, 3) := by decide +kernel
theorem dX9_isSign_20 : decode cX9_isSign 20 = .ok (.iconst 0, 1) := by decide +kernel
theorem dX9_isSign_21 : decode cX9_isSign 21 = .ok (.ireturn, 1) := by decide +kernel
theorem dX9_isWord_0 : decode cX9_isWord 0 = .ok (.aload_n 0, 1) := by decide +kernel
theorem dX9_isWord_1 : decode cX9_isWord 1 = .ok (.getfield 223, 3) := by decide +kernel
theorem dX9_isWord_4 : decode cX9_isWord 4 = .ok (.iconst 1, 1) := by decide +kernel
theorem dX9_isWord_5 : decode cX9_isWord 5 = .ok (.if_icmp .ne 15, 3) := by decide +kernel
theorem dX9_isWord_8 : decode cX9_isWord 8 = .ok (.aload_n 0, 1) := by decide +kernel
theorem dX9_isWord_9 : decode cX9_isWord 9 = .ok (.getfield 235, 3) := by decide +kernel
theorem dX9_isWord_12 : decode cX9_isWord 12 = .ok (.iload_n 1, 1) := by decide +kernel
theorem dX9_isWord_13 : decode cX9_isWord 13 = .ok (.if_icmp .ne 7, 3) := by decide +kernel
theorem dX9_isWord_16 : decode cX9_isWord 16 = .ok (.iconst 1, 1) := by decide +kernel
theorem dX9_isWord_17 : decode cX9_isWord 17 = .ok (.goto 4, 3) := by decide +kernel
theorem dX9_isWord_20 : decode cX9_isWord 20 = .ok (.iconst 0, 1) := by decide +kernel
theorem dX9_isWord_21 : decode cX9_isWord 21 = .ok (.ireturn, 1) := by decide +kernel
theorem dX9_errs_0 : decode cX9_errs 0 = .ok (.aload_n 0, 1) := by decide +kernel
theorem dX9_errs_1 : decode cX9_errs 1 = .ok (.getfield 239, 3) := by decide +kernel
theorem dX9_errs_4 : decode cX9_errs 4 = .ok (.ifCond .ne 16, 3) := by decide +kernel
theorem dX9_errs_7 : decode cX9_errs 7 = .ok (.aload_n 0, 1) := by decide +kernel
theorem dX9_errs_8 : decode cX9_errs 8 = .ok (.iload_n 1, 1) := by decide +kernel
theorem dX9_errs_9 : decode cX9_errs 9 = .ok (.putfield 239, 3) := by decide +kernel
theorem dX9_errs_12 : decode cX9_errs 12 = .ok (.aload_n 0, 1) := by decide +kernel
theorem dX9_errs_13 : decode cX9_errs 13 = .ok (.aload_n 0, 1) := by decide +kernel
theorem dX9_errs_14 : decode cX9_errs 14 = .ok (.getfield 220, 3) := by decide +kernel
theorem dX9_errs_17 : decode cX9_errs 17 = .ok (.putfield 242, 3) := by decide +kernel
theorem dX9_errs_20 : decode cX9_errs 20 = .ok (.return_, 1) := by decide +kernel
theorem dX9_emits_0 : decode cX9_emits 0 = .ok (.aload_n 0, 1) := by decide +kernel
theorem dX9_emits_1 : decode cX9_emits 1 = .ok (.getfield 78, 3) := by decide +kernel
theorem dX9_emits_4 : decode cX9_emits 4 = .ok (.aload_n 0, 1) := by decide +kernel
theorem dX9_emits_5 : decode cX9_emits 5 = .ok (.getfield 245, 3) := by decide +kernel
theorem dX9_emits_8 : decode cX9_emits 8 = .ok (.iload_n 1, 1) := by decide +kernel
theorem dX9_emits_9 : decode cX9_emits 9 = .ok (.iastore, 1) := by decide +kernel
theorem dX9_emits_10 : decode cX9_emits 10 = .ok (.aload_n 0, 1) := by decide +kernel
theorem dX9_emits_11 : decode cX9_emits 11 = .ok (.getfield 81, 3) := by decide +kernel
theorem dX9_emits_14 : decode cX9_emits 14 = .ok (.aload_n 0, 1) := by decide +kernel
theorem dX9_emits_15 : decode cX9_emits 15 = .ok (.getfield 245, 3) := by decide +kernel
theorem dX9_emits_18 : decode cX9_emits 18 = .ok (.iload_n 2, 1) := by decide +kernel
theorem dX9_emits_19 : decode cX9_emits 19 = .ok (.iastore, 1) := by decide +kernel
theorem dX9_emits_20 : decode cX9_emits 20 = .ok (.aload_n 0, 1) := by decide +kernel
theorem dX9_emits_21 : decode cX9_emits 21 = .ok (.dup, 1) := by decide +kernel
theorem dX9_emits_22 : decode cX9_emits 22 = .ok (.getfield 245, 3) := by decide +kernel
theorem dX9_emits_25 : decode cX9_emits 25 = .ok (.iconst 1, 1) := by decide +kernel
theorem dX9_emits_26 : decode cX9_emits 26 = .ok (.iadd, 1) := by decide +kernel
theorem dX9_emits_27 : decode cX9_emits 27 = .ok (.putfield 245, 3) := by decide +kernel
theorem dX9_emits_30 : decode cX9_emits 30 = .ok (.return_, 1) := by decide +kernel
theorem dX9_opensFrame_0 : decode cX9_opensFrame 0 = .ok (.aload_n 0, 1) := by decide +kernel
theorem dX9_opensFrame_1 : decode cX9_opensFrame 1 = .ok (.getfield 51, 3) := by decide +kernel
theorem dX9_opensFrame_4 : decode cX9_opensFrame 4 = .ok (.aload_n 0, 1) := by decide +kernel
theorem dX9_opensFrame_5 : decode cX9_opensFrame 5 = .ok (.getfield 248, 3) := by decide +kernel
theorem dX9_opensFrame_8 : decode cX9_opensFrame 8 = .ok (.iload_n 1, 1) := by decide +kernel
theorem dX9_opensFrame_9 : decode cX9_opensFrame 9 = .ok (.iastore, 1) := by decide +kernel
theorem dX9_opensFrame_10 : decode cX9_opensFrame 10 = .ok (.aload_n 0, 1) := by decide +kernel
theorem dX9_opensFrame_11 : decode cX9_opensFrame 11 = .ok (.dup, 1) := by decide +kernel
theorem dX9_opensFrame_12 : decode cX9_opensFrame 12 = .ok (.getfield 248, 3) := by decide +kernel
theorem dX9_opensFrame_15 : decode cX9_opensFrame 15 = .ok (.iconst 1, 1) := by decide +kernel
theorem dX9_opensFrame_16 : decode cX9_opensFrame 16 = .ok (.iadd, 1) := by decide +kernel
theorem dX9_opensFrame_17 : decode cX9_opensFrame 17 = .ok (.putfield 248, 3) := by decide +kernel
theorem dX9_opensFrame_20 : decode cX9_opensFrame 20 = .ok (.return_, 1) := by decide +kernel
theorem dX9_top_0 : decode cX9_top 0 = .ok (.aload_n 0, 1) := by decide +kernel
theorem dX9_top_1 : decode cX9_top 1 = .ok (.getfield 51, 3) := by decide +kernel
theorem dX9_top_4 : decode cX9_top 4 = .ok (.aload_n 0, 1) := by decide +kernel
theorem dX9_top_5 : decode cX9_top 5 = .ok (.getfield 248, 3) := by decide +kernel
theorem dX9_top_8 : decode cX9_top 8 = .ok (.iconst 1, 1) := by decide +kernel
theorem dX9_top_9 : decode cX9_top 9 = .ok (.isub, 1) := by decide +kernel
theorem dX9_top_10 : decode cX9_top 10 = .ok (.iaload, 1) := by decide +kernel
theorem dX9_top_11 : decode cX9_top 11 = .ok (.ireturn, 1) := by decide +kernel
set_option maxRecDepth 20000 in
theorem ggX9_opensSign_X9_errs : GoodIn wsX9_opensSign wsX9_errs := goodIn_r _ [6, 7, 8, 9, 58, 59, 60, 61, 62, 63, 64, 65, 66, 67, 68, 69, 70, 71, 72, 73, 74, 75, 76, 77, 78, 79, 80, 81, 82, 83, 84, 85, 86, 87, 88, 89, 90, 91, 92, 93, 94, 95, 96, 97, 98, 99, 100, 101, 102, 103, 104, 105, 106, 107, 108, 109, 110] (by decide +kernel) (by decide +kernel)
set_option maxRecDepth 20000 in
theorem gX9_opensSign_X9_errs : GoodIn wsX9_opensSign (wsV RX9 254 RX9 yX9_errs wsX9_errs) := goodIn_app (goodIn_of _ (by decide +kernel)) ggX9_opensSign_X9_errs
set_option maxRecDepth 20000 in
theorem ggX9_opensSign_X9_opensFrame : GoodIn wsX9_opensSign wsX9_opensFrame := goodIn_r _ [13, 14, 15, 58, 59, 60, 61, 62, 63, 64, 65, 66, 67, 68, 69, 70, 71, 72, 73, 74, 75, 76, 77, 78, 79, 80, 81, 82, 83, 84, 85, 86, 87, 88, 89, 90, 91, 92, 93, 94, 95, 96, 97, 98, 99, 100, 101, 102, 103, 104, 105, 106, 107, 108, 109, 110] (by decide +kernel) (by decide +kernel)
set_option maxRecDepth 20000 in
theorem gX9_opensSign_X9_opensFrame : GoodIn wsX9_opensSign (wsV RX9 257 RX9 yX9_opensFrame wsX9_opensFrame) := goodIn_app (goodIn_of _ (by decide +kernel)) ggX9_opensSign_X9_opensFrame
set_option maxRecDepth 20000 in
theorem ggX9_opensSign_X9_next : GoodIn wsX9_opensSign wsX9_next := goodIn_r _ [19, 20, 21, 22, 8, 23, 24, 25, 26, 27, 28, 5, 29, 30, 31, 32, 33, 34, 35, 36, 37, 38, 39, 40, 41, 42, 43, 44, 45, 46, 47, 48, 49, 50, 51, 52, 53, 54, 55, 56, 57, 58, 59, 60, 61, 62, 63, 64, 65, 66, 67, 68, 69, 70, 71, 72, 73, 74, 75, 76, 77, 78, 79, 80, 81, 82, 83, 84, 85, 86, 87, 88, 89, 90, 91, 92, 93, 94, 95, 96, 97, 98, 99, 100, 101, 102, 103, 104, 105, 106, 107, 108, 109, 110] (by decide +kernel) (by decide +kernel)
set_option maxRecDepth 20000 in
theorem gX9_opensSign_X9_next : GoodIn wsX9_opensSign (wsV RX9 260 RX9 yX9_next wsX9_next) := goodIn_app (goodIn_of _ (by decide +kernel)) ggX9_opensSign_X9_next
theorem dX9_opensSign_0 : decode cX9_opensSign 0 = .ok (.aload_n 0, 1) := by decide +kernel
theorem dX9_opensSign_1 : decode cX9_opensSign 1 = .ok (.getfield 251, 3) := by decide +kernel
theorem dX9_opensSign_4 : decode cX9_opensSign 4 = .ok (.bipush 8, 2) := by decide +kernel
theorem dX9_opensSign_6 : decode cX9_opensSign 6 = .ok (.if_icmp .ne 10, 3) := by decide +kernel
theorem dX9_opensSign_9 : decode cX9_opensSign 9 = .ok (.aload_n 0, 1) := by decide +kernel
theorem dX9_opensSign_10 : decode cX9_opensSign 10 = .ok (.iconst 3, 1) := by decide +kernel
theorem dX9_opensSign_11 : decode cX9_opensSign 11 = .ok (.invokevirtual 254, 3) := by decide +kernel
theorem dX9_opensSign_14 : decode cX9_opensSign 14 = .ok (.iconst 0, 1) := by decide +kernel
theorem dX9_opensSign_15 : decode cX9_opensSign 15 = .ok (.ireturn, 1) := by decide +kernel
theorem dX9_opensSign_16 : decode cX9_opensSign 16 = .ok (.aload_n 0, 1) := by decide +kernel
theorem dX9_opensSign_17 : decode cX9_opensSign 17 = .ok (.dup, 1) := by decide +kernel
theorem dX9_opensSign_18 : decode cX9_opensSign 18 = .ok (.getfield 251, 3) := by decide +kernel
theorem dX9_opensSign_21 : decode cX9_opensSign 21 = .ok (.iconst 1, 1) := by decide +kernel
theorem dX9_opensSign_22 : decode cX9_opensSign 22 = .ok (.iadd, 1) := by decide +kernel
theorem dX9_opensSign_23 : decode cX9_opensSign 23 = .ok (.putfield 251, 3) := by decide +kernel
theorem dX9_opensSign_26 : decode cX9_opensSign 26 = .ok (.aload_n 0, 1) := by decide +kernel
theorem dX9_opensSign_27 : decode cX9_opensSign 27 = .ok (.iload_n 1, 1) := by decide +kernel
theorem dX9_opensSign_28 : decode cX9_opensSign 28 = .ok (.invokevirtual 257, 3) := by decide +kernel
theorem dX9_opensSign_31 : decode cX9_opensSign 31 = .ok (.aload_n 0, 1) := by decide +kernel
theorem dX9_opensSign_32 : decode cX9_opensSign 32 = .ok (.invokevirtual 260, 3) := by decide +kernel
theorem dX9_opensSign_35 : decode cX9_opensSign 35 = .ok (.iconst 1, 1) := by decide +kernel
theorem dX9_opensSign_36 : decode cX9_opensSign 36 = .ok (.ireturn, 1) := by decide +kernel
theorem dX9_rank_0 : decode cX9_rank 0 = .ok (.iload_n 0, 1) := by decide +kernel
theorem dX9_rank_1 : decode cX9_rank 1 = .ok (.sipush 407, 3) := by decide +kernel
theorem dX9_rank_4 : decode cX9_rank 4 = .ok (.if_icmp .ne 7, 3) := by decide +kernel
theorem dX9_rank_7 : decode cX9_rank 7 = .ok (.iconst 1, 1) := by decide +kernel
theorem dX9_rank_8 : decode cX9_rank 8 = .ok (.goto 31, 3) := by decide +kernel
theorem dX9_rank_11 : decode cX9_rank 11 = .ok (.iload_n 0, 1) := by decide +kernel
theorem dX9_rank_12 : decode cX9_rank 12 = .ok (.sipush 406, 3) := by decide +kernel
theorem dX9_rank_15 : decode cX9_rank 15 = .ok (.if_icmp .ne 7, 3) := by decide +kernel
theorem dX9_rank_18 : decode cX9_rank 18 = .ok (.iconst 2, 1) := by decide +kernel
theorem dX9_rank_19 : decode cX9_rank 19 = .ok (.goto 20, 3) := by decide +kernel
theorem dX9_rank_22 : decode cX9_rank 22 = .ok (.iload_n 0, 1) := by decide +kernel
theorem dX9_rank_23 : decode cX9_rank 23 = .ok (.bipush 43, 2) := by decide +kernel
theorem dX9_rank_25 : decode cX9_rank 25 = .ok (.if_icmp .eq 9, 3) := by decide +kernel
theorem dX9_rank_28 : decode cX9_rank 28 = .ok (.iload_n 0, 1) := by decide +kernel
theorem dX9_rank_29 : decode cX9_rank 29 = .ok (.bipush 45, 2) := by decide +kernel
theorem dX9_rank_31 : decode cX9_rank 31 = .ok (.if_icmp .ne 7, 3) := by decide +kernel
theorem dX9_rank_34 : decode cX9_rank 34 = .ok (.iconst 3, 1) := by decide +kernel
theorem dX9_rank_35 : decode cX9_rank 35 = .ok (.goto 4, 3) := by decide +kernel
theorem dX9_rank_38 : decode cX9_rank 38 = .ok (.iconst 4, 1) := by decide +kernel
theorem dX9_rank_39 : decode cX9_rank 39 = .ok (.ireturn, 1) := by decide +kernel
set_option maxRecDepth 20000 in
theorem ggX9_works_X9_rank : GoodIn wsX9_works wsX9_rank := goodIn_r _ [8] (by decide +kernel) (by decide +kernel)
set_option maxRecDepth 20000 in
theorem gX9_works_X9_rank : GoodIn wsX9_works (va_wsS RX9 266 yX9_rank wsX9_rank) := goodIn_app (goodIn_of _ (by decide +kernel)) ggX9_works_X9_rank
set_option maxRecDepth 20000 in
theorem ggX9_works_X9_emits : GoodIn wsX9_works wsX9_emits := goodIn_r _ [12, 13, 14, 15, 16, 17, 18, 19, 20, 21, 22, 23, 24, 25, 26, 27, 28, 29, 30, 31, 32, 33, 34, 35, 36, 37, 38, 39, 40, 41, 42, 43, 44, 45, 46, 47, 48, 49, 50, 51, 52, 53, 54, 55, 56, 57, 58, 59, 60, 61, 62, 63, 64, 65, 66, 67, 68] (by decide +kernel) (by decide +kernel)
set_option maxRecDepth 20000 in
theorem gX9_works_X9_emits : GoodIn wsX9_works (wsV RX9 270 RX9 yX9_emits wsX9_emits) := goodIn_app (goodIn_of _ (by decide +kernel)) ggX9_works_X9_emits
theorem dX9_works_0 : decode cX9_works 0 = .ok (.aload_n 0, 1) := by decide +kernel
theorem dX9_works_1 : decode cX9_works 1 = .ok (.getfield 263, 3) := by decide +kernel
theorem dX9_works_4 : decode cX9_works 4 = .ok (.ifCond .le 66, 3) := by decide +kernel
theorem dX9_works_7 : decode cX9_works 7 = .ok (.aload_n 0, 1) := by decide +kernel
theorem dX9_works_8 : decode cX9_works 8 = .ok (.getfield 60, 3) := by decide +kernel
theorem dX9_works_11 : decode cX9_works 11 = .ok (.aload_n 0, 1) := by decide +kernel
theorem dX9_works_12 : decode cX9_works 12 = .ok (.getfield 263, 3) := by decide +kernel
theorem dX9_works_15 : decode cX9_works 15 = .ok (.iconst 1, 1) := by decide +kernel
theorem dX9_works_16 : decode cX9_works 16 = .ok (.isub, 1) := by decide +kernel
theorem dX9_works_17 : decode cX9_works 17 = .ok (.iaload, 1) := by decide +kernel
theorem dX9_works_18 : decode cX9_works 18 = .ok (.aload_n 0, 1) := by decide +kernel
theorem dX9_works_19 : decode cX9_works 19 = .ok (.getfield 248, 3) := by decide +kernel
theorem dX9_works_22 : decode cX9_works 22 = .ok (.if_icmp .ne 48, 3) := by decide +kernel
theorem dX9_works_25 : decode cX9_works 25 = .ok (.aload_n 0, 1) := by decide +kernel
theorem dX9_works_26 : decode cX9_works 26 = .ok (.getfield 57, 3) := by decide +kernel
theorem dX9_works_29 : decode cX9_works 29 = .ok (.aload_n 0, 1) := by decide +kernel
theorem dX9_works_30 : decode cX9_works 30 = .ok (.getfield 263, 3) := by decide +kernel
theorem dX9_works_33 : decode cX9_works 33 = .ok (.iconst 1, 1) := by decide +kernel
theorem dX9_works_34 : decode cX9_works 34 = .ok (.isub, 1) := by decide +kernel
theorem dX9_works_35 : decode cX9_works 35 = .ok (.iaload, 1) := by decide +kernel
theorem dX9_works_36 : decode cX9_works 36 = .ok (.invokestatic 266, 3) := by decide +kernel
theorem dX9_works_39 : decode cX9_works 39 = .ok (.iload_n 1, 1) := by decide +kernel
theorem dX9_works_40 : decode cX9_works 40 = .ok (.if_icmp .lt 30, 3) := by decide +kernel
theorem dX9_works_43 : decode cX9_works 43 = .ok (.aload_n 0, 1) := by decide +kernel
theorem dX9_works_44 : decode cX9_works 44 = .ok (.dup, 1) := by decide +kernel
theorem dX9_works_45 : decode cX9_works 45 = .ok (.getfield 263, 3) := by decide +kernel
theorem dX9_works_48 : decode cX9_works 48 = .ok (.iconst 1, 1) := by decide +kernel
theorem dX9_works_49 : decode cX9_works 49 = .ok (.isub, 1) := by decide +kernel
theorem dX9_works_50 : decode cX9_works 50 = .ok (.putfield 263, 3) := by decide +kernel
theorem dX9_works_53 : decode cX9_works 53 = .ok (.aload_n 0, 1) := by decide +kernel
theorem dX9_works_54 : decode cX9_works 54 = .ok (.aload_n 0, 1) := by decide +kernel
theorem dX9_works_55 : decode cX9_works 55 = .ok (.getfield 57, 3) := by decide +kernel
theorem dX9_works_58 : decode cX9_works 58 = .ok (.aload_n 0, 1) := by decide +kernel
theorem dX9_works_59 : decode cX9_works 59 = .ok (.getfield 263, 3) := by decide +kernel
theorem dX9_works_62 : decode cX9_works 62 = .ok (.iaload, 1) := by decide +kernel
theorem dX9_works_63 : decode cX9_works 63 = .ok (.iconst 0, 1) := by decide +kernel
theorem dX9_works_64 : decode cX9_works 64 = .ok (.invokevirtual 270, 3) := by decide +kernel
theorem dX9_works_67 : decode cX9_works 67 = .ok (.goto (-67), 3) := by decide +kernel
theorem dX9_works_70 : decode cX9_works 70 = .ok (.return_, 1) := by decide +kernel
set_option maxRecDepth 20000 in
theorem ggX9_waitsFor_X9_rank : GoodIn wsX9_waitsFor wsX9_rank := goodIn_r _ [8] (by decide +kernel) (by decide +kernel)
set_option maxRecDepth 20000 in
theorem gX9_waitsFor_X9_rank : GoodIn wsX9_waitsFor (va_wsS RX9 266 yX9_rank wsX9_rank) := goodIn_app (goodIn_of _ (by decide +kernel)) ggX9_waitsFor_X9_rank
set_option maxRecDepth 20000 in
theorem ggX9_waitsFor_X9_works : GoodIn wsX9_waitsFor wsX9_works := goodIn_r _ [12, 2, 3, 4, 1, 5, 6, 7, 8, 13, 14, 15, 16, 17, 18, 19, 63, 64, 65, 66, 67, 68, 69, 70, 71, 72, 73, 74, 75, 76, 77, 78, 79, 80, 81, 82, 83, 84, 85, 86, 87, 88, 89, 90, 91, 92, 93, 94, 95, 96, 97, 98, 99, 100, 101, 102, 103, 104, 105, 106, 107, 108, 109, 110, 111, 112, 113, 114, 115] (by decide +kernel) (by decide +kernel)
set_option maxRecDepth 20000 in
theorem gX9_waitsFor_X9_works : GoodIn wsX9_waitsFor (wsV RX9 274 RX9 yX9_works wsX9_works) := goodIn_app (goodIn_of _ (by decide +kernel)) ggX9_waitsFor_X9_works
set_option maxRecDepth 20000 in
theorem ggX9_waitsFor_X9_next : GoodIn wsX9_waitsFor wsX9_next := goodIn_r _ [23, 24, 25, 26, 27, 28, 29, 30, 31, 32, 33, 7, 34, 35, 36, 37, 38, 39, 40, 41, 42, 43, 44, 45, 46, 47, 48, 49, 50, 51, 52, 53, 54, 55, 56, 57, 58, 59, 60, 61, 62, 63, 64, 65, 66, 67, 68, 69, 70, 71, 72, 73, 74, 75, 76, 77, 78, 79, 80, 81, 82, 83, 84, 85, 86, 87, 88, 89, 90, 91, 92, 93, 94, 95, 96, 97, 98, 99, 100, 101, 102, 103, 104, 105, 106, 107, 108, 109, 110, 111, 112, 113, 114, 115] (by decide +kernel) (by decide +kernel)
set_option maxRecDepth 20000 in
theorem gX9_waitsFor_X9_next : GoodIn wsX9_waitsFor (wsV RX9 260 RX9 yX9_next wsX9_next) := goodIn_app (goodIn_of _ (by decide +kernel)) ggX9_waitsFor_X9_next
theorem dX9_waitsFor_0 : decode cX9_waitsFor 0 = .ok (.aload_n 0, 1) := by decide +kernel
theorem dX9_waitsFor_1 : decode cX9_waitsFor 1 = .ok (.iload_n 1, 1) := by decide +kernel
theorem dX9_waitsFor_2 : decode cX9_waitsFor 2 = .ok (.invokestatic 266, 3) := by decide +kernel
theorem dX9_waitsFor_5 : decode cX9_waitsFor 5 = .ok (.invokevirtual 274, 3) := by decide +kernel
theorem dX9_waitsFor_8 : decode cX9_waitsFor 8 = .ok (.aload_n 0, 1) := by decide +kernel
theorem dX9_waitsFor_9 : decode cX9_waitsFor 9 = .ok (.getfield 57, 3) := by decide +kernel
theorem dX9_waitsFor_12 : decode cX9_waitsFor 12 = .ok (.aload_n 0, 1) := by decide +kernel
theorem dX9_waitsFor_13 : decode cX9_waitsFor 13 = .ok (.getfield 263, 3) := by decide +kernel
theorem dX9_waitsFor_16 : decode cX9_waitsFor 16 = .ok (.iload_n 1, 1) := by decide +kernel
theorem dX9_waitsFor_17 : decode cX9_waitsFor 17 = .ok (.iastore, 1) := by decide +kernel
theorem dX9_waitsFor_18 : decode cX9_waitsFor 18 = .ok (.aload_n 0, 1) := by decide +kernel
theorem dX9_waitsFor_19 : decode cX9_waitsFor 19 = .ok (.getfield 60, 3) := by decide +kernel
theorem dX9_waitsFor_22 : decode cX9_waitsFor 22 = .ok (.aload_n 0, 1) := by decide +kernel
theorem dX9_waitsFor_23 : decode cX9_waitsFor 23 = .ok (.getfield 263, 3) := by decide +kernel
theorem dX9_waitsFor_26 : decode cX9_waitsFor 26 = .ok (.aload_n 0, 1) := by decide +kernel
theorem dX9_waitsFor_27 : decode cX9_waitsFor 27 = .ok (.getfield 248, 3) := by decide +kernel
theorem dX9_waitsFor_30 : decode cX9_waitsFor 30 = .ok (.iastore, 1) := by decide +kernel
theorem dX9_waitsFor_31 : decode cX9_waitsFor 31 = .ok (.aload_n 0, 1) := by decide +kernel
theorem dX9_waitsFor_32 : decode cX9_waitsFor 32 = .ok (.dup, 1) := by decide +kernel
theorem dX9_waitsFor_33 : decode cX9_waitsFor 33 = .ok (.getfield 263, 3) := by decide +kernel
theorem dX9_waitsFor_36 : decode cX9_waitsFor 36 = .ok (.iconst 1, 1) := by decide +kernel
theorem dX9_waitsFor_37 : decode cX9_waitsFor 37 = .ok (.iadd, 1) := by decide +kernel
theorem dX9_waitsFor_38 : decode cX9_waitsFor 38 = .ok (.putfield 263, 3) := by decide +kernel
theorem dX9_waitsFor_41 : decode cX9_waitsFor 41 = .ok (.aload_n 0, 1) := by decide +kernel
theorem dX9_waitsFor_42 : decode cX9_waitsFor 42 = .ok (.invokevirtual 260, 3) := by decide +kernel
theorem dX9_waitsFor_45 : decode cX9_waitsFor 45 = .ok (.return_, 1) := by decide +kernel
set_option maxRecDepth 20000 in
theorem ggX9_asks_X9_isWord : GoodIn wsX9_asks wsX9_isWord := goodIn_r _ [6, 7, 8, 67, 68, 69, 70, 71, 72, 73, 74, 75, 76, 77, 78, 79, 80, 81, 82, 83, 84, 85, 86, 87, 88, 89, 90, 91, 92, 93, 94, 95, 96, 97, 98, 99, 100, 101, 102, 103, 104, 105, 106, 107, 108, 109, 110, 111, 112, 113, 114, 115, 116, 117, 118, 119] (by decide +kernel) (by decide +kernel)
set_option maxRecDepth 20000 in
theorem gX9_asks_X9_isWord : GoodIn wsX9_asks (wsV RX9 277 RX9 yX9_isWord wsX9_isWord) := goodIn_app (goodIn_of _ (by decide +kernel)) ggX9_asks_X9_isWord
set_option maxRecDepth 20000 in
theorem ggX9_asks_X9_opensSign : GoodIn wsX9_asks wsX9_opensSign := goodIn_r _ [12, 13, 14, 15, 16, 5, 17, 18, 19, 20, 21, 22, 23, 24, 25, 26, 27, 28, 29, 30, 31, 32, 33, 7, 34, 8, 35, 36, 37, 38, 39, 40, 41, 42, 43, 44, 45, 46, 47, 48, 49, 50, 51, 52, 53, 54, 55, 56, 57, 58, 59, 60, 61, 62, 63, 64, 65, 66, 67, 68, 69, 70, 71, 72, 73, 74, 75, 76, 77, 78, 79, 80, 81, 82, 83, 84, 85, 86, 87, 88, 89, 90, 91, 92, 93, 94, 95, 96, 97, 98, 99, 100, 101, 102, 103, 104, 105, 106, 107, 108, 109, 110, 111, 112, 113, 114, 115, 116, 117, 118, 119] (by decide +kernel) (by decide +kernel)
set_option maxRecDepth 20000 in
theorem gX9_asks_X9_opensSign : GoodIn wsX9_asks (wsV RX9 280 RX9 yX9_opensSign wsX9_opensSign) := goodIn_app (goodIn_of _ (by decide +kernel)) ggX9_asks_X9_opensSign
set_option maxRecDepth 20000 in
theorem ggX9_asks_X9_opensFrame : GoodIn wsX9_asks wsX9_opensFrame := goodIn_r _ [24, 25, 26, 67, 68, 69, 70, 71, 72, 73, 74, 75, 76, 77, 78, 79, 80, 81, 82, 83, 84, 85, 86, 87, 88, 89, 90, 91, 92, 93, 94, 95, 96, 97, 98, 99, 100, 101, 102, 103, 104, 105, 106, 107, 108, 109, 110, 111, 112, 113, 114, 115, 116, 117, 118, 119] (by decide +kernel) (by decide +kernel)
set_option maxRecDepth 20000 in
theorem gX9_asks_X9_opensFrame : GoodIn wsX9_asks (wsV RX9 257 RX9 yX9_opensFrame wsX9_opensFrame) := goodIn_app (goodIn_of _ (by decide +kernel)) ggX9_asks_X9_opensFrame
theorem dX9_asks_0 : decode cX9_asks 0 = .ok (.aload_n 0, 1) := by decide +kernel
theorem dX9_asks_1 : decode cX9_asks 1 = .ok (.bipush 12, 2) := by decide +kernel
theorem dX9_asks_3 : decode cX9_asks 3 = .ok (.invokevirtual 277, 3) := by decide +kernel
theorem dX9_asks_6 : decode cX9_asks 6 = .ok (.ifCond .eq 12, 3) := by decide +kernel
theorem dX9_asks_9 : decode cX9_asks 9 = .ok (.aload_n 0, 1) := by decide +kernel
theorem dX9_asks_10 : decode cX9_asks 10 = .ok (.iconst 3, 1) := by decide +kernel
theorem dX9_asks_11 : decode cX9_asks 11 = .ok (.invokevirtual 280, 3) := by decide +kernel
theorem dX9_asks_14 : decode cX9_asks 14 = .ok (.istore_n 1, 1) := by decide +kernel
theorem dX9_asks_15 : decode cX9_asks 15 = .ok (.goto 13, 3) := by decide +kernel
theorem dX9_asks_18 : decode cX9_asks 18 = .ok (.aload_n 0, 1) := by decide +kernel
theorem dX9_asks_19 : decode cX9_asks 19 = .ok (.iconst 4, 1) := by decide +kernel
theorem dX9_asks_20 : decode cX9_asks 20 = .ok (.invokevirtual 257, 3) := by decide +kernel
theorem dX9_asks_23 : decode cX9_asks 23 = .ok (.aload_n 0, 1) := by decide +kernel
theorem dX9_asks_24 : decode cX9_asks 24 = .ok (.iconst 1, 1) := by decide +kernel
theorem dX9_asks_25 : decode cX9_asks 25 = .ok (.putfield 283, 3) := by decide +kernel
theorem dX9_asks_28 : decode cX9_asks 28 = .ok (.return_, 1) := by decide +kernel
set_option maxRecDepth 20000 in
theorem ggX9_begins_X9_errs : GoodIn wsX9_begins wsX9_errs := goodIn_r _ [8, 9, 10, 11, 83, 84, 85, 86, 87, 88, 89, 90, 91, 92, 93, 94, 95, 96, 97, 98, 99, 100, 101, 102, 103, 104, 105, 106, 107, 108, 109, 110, 111, 112, 113, 114, 115, 116, 117, 118, 119, 120, 121, 122, 123, 124, 125, 126, 127, 128, 129, 130, 131, 132, 133, 134, 135] (by decide +kernel) (by decide +kernel)
set_option maxRecDepth 20000 in
theorem gX9_begins_X9_errs : GoodIn wsX9_begins (wsV RX9 254 RX9 yX9_errs wsX9_errs) := goodIn_app (goodIn_of _ (by decide +kernel)) ggX9_begins_X9_errs
set_option maxRecDepth 20000 in
theorem ggX9_begins_X9_emits : GoodIn wsX9_begins wsX9_emits := goodIn_r _ [15, 16, 17, 18, 83, 84, 85, 86, 87, 88, 89, 90, 91, 92, 93, 94, 95, 96, 97, 98, 99, 100, 101, 102, 103, 104, 105, 106, 107, 108, 109, 110, 111, 112, 113, 114, 115, 116, 117, 118, 119, 120, 121, 122, 123, 124, 125, 126, 127, 128, 129, 130, 131, 132, 133, 134, 135] (by decide +kernel) (by decide +kernel)
set_option maxRecDepth 20000 in
theorem gX9_begins_X9_emits : GoodIn wsX9_begins (wsV RX9 270 RX9 yX9_emits wsX9_emits) := goodIn_app (goodIn_of _ (by decide +kernel)) ggX9_begins_X9_emits
set_option maxRecDepth 20000 in
theorem ggX9_begins_X9_next : GoodIn wsX9_begins wsX9_next := goodIn_r _ [22, 23, 24, 25, 10, 1, 26, 2, 27, 28, 29, 7, 30, 31, 32, 33, 34, 35, 36, 37, 38, 39, 40, 41, 42, 43, 44, 45, 46, 47, 48, 49, 50, 51, 52, 53, 54, 55, 56, 57, 58, 83, 84, 85, 86, 87, 88, 89, 90, 91, 92, 93, 94, 95, 96, 97, 98, 99, 100, 101, 102, 103, 104, 105, 106, 107, 108, 109, 110, 111, 112, 113, 114, 115, 116, 117, 118, 119, 120, 121, 122, 123, 124, 125, 126, 127, 128, 129, 130, 131, 132, 133, 134, 135] (by decide +kernel) (by decide +kernel)
set_option maxRecDepth 20000 in
theorem gX9_begins_X9_next : GoodIn wsX9_begins (wsV RX9 260 RX9 yX9_next wsX9_next) := goodIn_app (goodIn_of _ (by decide +kernel)) ggX9_begins_X9_next
set_option maxRecDepth 20000 in
theorem ggX9_begins_X9_oneIsOver : GoodIn wsX9_begins wsX9_oneIsOver := goodIn_r _ [62, 63, 64, 65, 66, 67, 68, 7, 69, 70, 12, 13, 14, 15, 16, 17, 18, 83, 84, 85, 86, 87, 88, 89, 90, 91, 92, 93, 94, 95, 96, 97, 98, 99, 100, 101, 102, 103, 104, 105, 106, 107, 108, 109, 110, 111, 112, 113, 114, 115, 116, 117, 118, 119, 120, 121, 122, 123, 124, 125, 126, 127, 128, 129, 130, 131, 132, 133, 134, 135] (by decide +kernel) (by decide +kernel)
set_option maxRecDepth 20000 in
theorem gX9_begins_X9_oneIsOver : GoodIn wsX9_begins (wsV RX9 286 RX9 yX9_oneIsOver wsX9_oneIsOver) := goodIn_app (goodIn_of _ (by decide +kernel)) ggX9_begins_X9_oneIsOver
set_option maxRecDepth 20000 in
theorem ggX9_begins_X9_isSign : GoodIn wsX9_begins wsX9_isSign := goodIn_r _ [74, 1, 2, 83, 84, 85, 86, 87, 88, 89, 90, 91, 92, 93, 94, 95, 96, 97, 98, 99, 100, 101, 102, 103, 104, 105, 106, 107, 108, 109, 110, 111, 112, 113, 114, 115, 116, 117, 118, 119, 120, 121, 122, 123, 124, 125, 126, 127, 128, 129, 130, 131, 132, 133, 134, 135] (by decide +kernel) (by decide +kernel)
set_option maxRecDepth 20000 in
theorem gX9_begins_X9_isSign : GoodIn wsX9_begins (wsV RX9 292 RX9 yX9_isSign wsX9_isSign) := goodIn_app (goodIn_of _ (by decide +kernel)) ggX9_begins_X9_isSign
set_option maxRecDepth 20000 in
theorem ggX9_begins_X9_opensSign : GoodIn wsX9_begins wsX9_opensSign := goodIn_r _ [78, 64, 4, 5, 6, 7, 8, 9, 10, 11, 79, 80, 81, 82, 70, 63, 19, 20, 21, 22, 23, 24, 25, 1, 26, 2, 27, 28, 29, 30, 31, 32, 33, 34, 35, 36, 37, 38, 39, 40, 41, 42, 43, 44, 45, 46, 47, 48, 49, 50, 51, 52, 53, 54, 55, 56, 57, 58, 83, 84, 85, 86, 87, 88, 89, 90, 91, 92, 93, 94, 95, 96, 97, 98, 99, 100, 101, 102, 103, 104, 105, 106, 107, 108, 109, 110, 111, 112, 113, 114, 115, 116, 117, 118, 119, 120, 121, 122, 123, 124, 125, 126, 127, 128, 129, 130, 131, 132, 133, 134, 135] (by decide +kernel) (by decide +kernel)
set_option maxRecDepth 20000 in
theorem gX9_begins_X9_opensSign : GoodIn wsX9_begins (wsV RX9 280 RX9 yX9_opensSign wsX9_opensSign) := goodIn_app (goodIn_of _ (by decide +kernel)) ggX9_begins_X9_opensSign
theorem dX9_begins_0 : decode cX9_begins 0 = .ok (.aload_n 0, 1) := by decide +kernel
theorem dX9_begins_1 : decode cX9_begins 1 = .ok (.getfield 223, 3) := by decide +kernel
theorem dX9_begins_4 : decode cX9_begins 4 = .ok (.iconst 2, 1) := by decide +kernel
theorem dX9_begins_5 : decode cX9_begins 5 = .ok (.if_icmp .ne 41, 3) := by decide +kernel
theorem dX9_begins_8 : decode cX9_begins 8 = .ok (.aload_n 0, 1) := by decide +kernel
theorem dX9_begins_9 : decode cX9_begins 9 = .ok (.getfield 235, 3) := by decide +kernel
theorem dX9_begins_12 : decode cX9_begins 12 = .ok (.sipush 9999, 3) := by decide +kernel
theorem dX9_begins_15 : decode cX9_begins 15 = .ok (.if_icmp .le 9, 3) := by decide +kernel
theorem dX9_begins_18 : decode cX9_begins 18 = .ok (.aload_n 0, 1) := by decide +kernel
theorem dX9_begins_19 : decode cX9_begins 19 = .ok (.iconst 2, 1) := by decide +kernel
theorem dX9_begins_20 : decode cX9_begins 20 = .ok (.invokevirtual 254, 3) := by decide +kernel
theorem dX9_begins_23 : decode cX9_begins 23 = .ok (.return_, 1) := by decide +kernel
theorem dX9_begins_24 : decode cX9_begins 24 = .ok (.aload_n 0, 1) := by decide +kernel
theorem dX9_begins_25 : decode cX9_begins 25 = .ok (.sipush 400, 3) := by decide +kernel
theorem dX9_begins_28 : decode cX9_begins 28 = .ok (.aload_n 0, 1) := by decide +kernel
theorem dX9_begins_29 : decode cX9_begins 29 = .ok (.getfield 235, 3) := by decide +kernel
theorem dX9_begins_32 : decode cX9_begins 32 = .ok (.invokevirtual 270, 3) := by decide +kernel
theorem dX9_begins_35 : decode cX9_begins 35 = .ok (.aload_n 0, 1) := by decide +kernel
theorem dX9_begins_36 : decode cX9_begins 36 = .ok (.invokevirtual 260, 3) := by decide +kernel
theorem dX9_begins_39 : decode cX9_begins 39 = .ok (.aload_n 0, 1) := by decide +kernel
theorem dX9_begins_40 : decode cX9_begins 40 = .ok (.invokevirtual 286, 3) := by decide +kernel
theorem dX9_begins_43 : decode cX9_begins 43 = .ok (.goto 111, 3) := by decide +kernel
theorem dX9_begins_46 : decode cX9_begins 46 = .ok (.aload_n 0, 1) := by decide +kernel
theorem dX9_begins_47 : decode cX9_begins 47 = .ok (.getfield 223, 3) := by decide +kernel
theorem dX9_begins_50 : decode cX9_begins 50 = .ok (.iconst 1, 1) := by decide +kernel
theorem dX9_begins_51 : decode cX9_begins 51 = .ok (.if_icmp .ne 60, 3) := by decide +kernel
theorem dX9_begins_54 : decode cX9_begins 54 = .ok (.aload_n 0, 1) := by decide +kernel
theorem dX9_begins_55 : decode cX9_begins 55 = .ok (.getfield 235, 3) := by decide +kernel
theorem dX9_begins_58 : decode cX9_begins 58 = .ok (.bipush 12, 2) := by decide +kernel
theorem dX9_begins_60 : decode cX9_begins 60 = .ok (.if_icmp .le 51, 3) := by decide +kernel
theorem dX9_begins_63 : decode cX9_begins 63 = .ok (.aload_n 0, 1) := by decide +kernel
theorem dX9_begins_64 : decode cX9_begins 64 = .ok (.getfield 235, 3) := by decide +kernel
theorem dX9_begins_67 : decode cX9_begins 67 = .ok (.bipush 12, 2) := by decide +kernel
theorem dX9_begins_69 : decode cX9_begins 69 = .ok (.isub, 1) := by decide +kernel
theorem dX9_begins_70 : decode cX9_begins 70 = .ok (.iconst 1, 1) := by decide +kernel
theorem dX9_begins_71 : decode cX9_begins 71 = .ok (.isub, 1) := by decide +kernel
theorem dX9_begins_72 : decode cX9_begins 72 = .ok (.istore_n 1, 1) := by decide +kernel
theorem dX9_begins_73 : decode cX9_begins 73 = .ok (.iload_n 1, 1) := by decide +kernel
theorem dX9_begins_74 : decode cX9_begins 74 = .ok (.iconst 5, 1) := by decide +kernel
theorem dX9_begins_75 : decode cX9_begins 75 = .ok (.if_icmp .le 17, 3) := by decide +kernel
theorem dX9_begins_78 : decode cX9_begins 78 = .ok (.aload_n 0, 1) := by decide +kernel
theorem dX9_begins_79 : decode cX9_begins 79 = .ok (.getfield 289, 3) := by decide +kernel
theorem dX9_begins_82 : decode cX9_begins 82 = .ok (.iconst 1, 1) := by decide +kernel
theorem dX9_begins_83 : decode cX9_begins 83 = .ok (.if_icmp .le 9, 3) := by decide +kernel
theorem dX9_begins_86 : decode cX9_begins 86 = .ok (.aload_n 0, 1) := by decide +kernel
theorem dX9_begins_87 : decode cX9_begins 87 = .ok (.iconst 5, 1) := by decide +kernel
theorem dX9_begins_88 : decode cX9_begins 88 = .ok (.invokevirtual 254, 3) := by decide +kernel
theorem dX9_begins_91 : decode cX9_begins 91 = .ok (.return_, 1) := by decide +kernel
theorem dX9_begins_92 : decode cX9_begins 92 = .ok (.aload_n 0, 1) := by decide +kernel
theorem dX9_begins_93 : decode cX9_begins 93 = .ok (.sipush 401, 3) := by decide +kernel
theorem dX9_begins_96 : decode cX9_begins 96 = .ok (.iload_n 1, 1) := by decide +kernel
theorem dX9_begins_97 : decode cX9_begins 97 = .ok (.invokevirtual 270, 3) := by decide +kernel
theorem dX9_begins_100 : decode cX9_begins 100 = .ok (.aload_n 0, 1) := by decide +kernel
theorem dX9_begins_101 : decode cX9_begins 101 = .ok (.invokevirtual 260, 3) := by decide +kernel
theorem dX9_begins_104 : decode cX9_begins 104 = .ok (.aload_n 0, 1) := by decide +kernel
theorem dX9_begins_105 : decode cX9_begins 105 = .ok (.invokevirtual 286, 3) := by decide +kernel
theorem dX9_begins_108 : decode cX9_begins 108 = .ok (.goto 46, 3) := by decide +kernel
theorem dX9_begins_111 : decode cX9_begins 111 = .ok (.aload_n 0, 1) := by decide +kernel
theorem dX9_begins_112 : decode cX9_begins 112 = .ok (.bipush 40, 2) := by decide +kernel
theorem dX9_begins_114 : decode cX9_begins 114 = .ok (.invokevirtual 292, 3) := by decide +kernel
theorem dX9_begins_117 : decode cX9_begins 117 = .ok (.ifCond .eq 13, 3) := by decide +kernel
theorem dX9_begins_120 : decode cX9_begins 120 = .ok (.aload_n 0, 1) := by decide +kernel
theorem dX9_begins_121 : decode cX9_begins 121 = .ok (.bipush 6, 2) := by decide +kernel
theorem dX9_begins_123 : decode cX9_begins 123 = .ok (.invokevirtual 280, 3) := by decide +kernel
theorem dX9_begins_126 : decode cX9_begins 126 = .ok (.istore_n 1, 1) := by decide +kernel
theorem dX9_begins_127 : decode cX9_begins 127 = .ok (.goto 27, 3) := by decide +kernel
theorem dX9_begins_130 : decode cX9_begins 130 = .ok (.aload_n 0, 1) := by decide +kernel
theorem dX9_begins_131 : decode cX9_begins 131 = .ok (.bipush 45, 2) := by decide +kernel
theorem dX9_begins_133 : decode cX9_begins 133 = .ok (.invokevirtual 292, 3) := by decide +kernel
theorem dX9_begins_136 : decode cX9_begins 136 = .ok (.ifCond .eq 13, 3) := by decide +kernel
theorem dX9_begins_139 : decode cX9_begins 139 = .ok (.aload_n 0, 1) := by decide +kernel
theorem dX9_begins_140 : decode cX9_begins 140 = .ok (.bipush 7, 2) := by decide +kernel
theorem dX9_begins_142 : decode cX9_begins 142 = .ok (.invokevirtual 280, 3) := by decide +kernel
theorem dX9_begins_145 : decode cX9_begins 145 = .ok (.istore_n 1, 1) := by decide +kernel
theorem dX9_begins_146 : decode cX9_begins 146 = .ok (.goto 8, 3) := by decide +kernel
theorem dX9_begins_149 : decode cX9_begins 149 = .ok (.aload_n 0, 1) := by decide +kernel
theorem dX9_begins_150 : decode cX9_begins 150 = .ok (.iconst 1, 1) := by decide +kernel
theorem dX9_begins_151 : decode cX9_begins 151 = .ok (.invokevirtual 254, 3) := by decide +kernel
theorem dX9_begins_154 : decode cX9_begins 154 = .ok (.return_, 1) := by decide +kernel
set_option maxRecDepth 20000 in
theorem ggX9_oneIsOver_X9_top : GoodIn wsX9_oneIsOver wsX9_top := goodIn_r _ [8, 9, 1, 17, 18, 19, 20, 21, 22, 23, 24, 25, 26, 27, 28, 29, 30, 31, 32, 33, 34, 35, 36, 37, 38, 39, 40, 41, 42, 43, 44, 45, 46, 47, 48, 49, 50, 51, 52, 53, 54, 55, 56, 57, 58, 59, 60, 61, 62, 63, 64, 65, 66, 67, 68, 69] (by decide +kernel) (by decide +kernel)
set_option maxRecDepth 20000 in
theorem gX9_oneIsOver_X9_top : GoodIn wsX9_oneIsOver (wsV RX9 295 RX9 yX9_top wsX9_top) := goodIn_app (goodIn_of _ (by decide +kernel)) ggX9_oneIsOver_X9_top
set_option maxRecDepth 20000 in
theorem ggX9_oneIsOver_X9_emits : GoodIn wsX9_oneIsOver wsX9_emits := goodIn_r _ [13, 14, 15, 16, 17, 18, 19, 20, 21, 22, 23, 24, 25, 26, 27, 28, 29, 30, 31, 32, 33, 34, 35, 36, 37, 38, 39, 40, 41, 42, 43, 44, 45, 46, 47, 48, 49, 50, 51, 52, 53, 54, 55, 56, 57, 58, 59, 60, 61, 62, 63, 64, 65, 66, 67, 68, 69] (by decide +kernel) (by decide +kernel)
set_option maxRecDepth 20000 in
theorem gX9_oneIsOver_X9_emits : GoodIn wsX9_oneIsOver (wsV RX9 270 RX9 yX9_emits wsX9_emits) := goodIn_app (goodIn_of _ (by decide +kernel)) ggX9_oneIsOver_X9_emits
theorem dX9_oneIsOver_0 : decode cX9_oneIsOver 0 = .ok (.aload_n 0, 1) := by decide +kernel
theorem dX9_oneIsOver_1 : decode cX9_oneIsOver 1 = .ok (.invokevirtual 295, 3) := by decide +kernel
theorem dX9_oneIsOver_4 : decode cX9_oneIsOver 4 = .ok (.bipush 7, 2) := by decide +kernel
theorem dX9_oneIsOver_6 : decode cX9_oneIsOver 6 = .ok (.if_icmp .ne 34, 3) := by decide +kernel
theorem dX9_oneIsOver_9 : decode cX9_oneIsOver 9 = .ok (.aload_n 0, 1) := by decide +kernel
theorem dX9_oneIsOver_10 : decode cX9_oneIsOver 10 = .ok (.dup, 1) := by decide +kernel
theorem dX9_oneIsOver_11 : decode cX9_oneIsOver 11 = .ok (.getfield 248, 3) := by decide +kernel
theorem dX9_oneIsOver_14 : decode cX9_oneIsOver 14 = .ok (.iconst 1, 1) := by decide +kernel
theorem dX9_oneIsOver_15 : decode cX9_oneIsOver 15 = .ok (.isub, 1) := by decide +kernel
theorem dX9_oneIsOver_16 : decode cX9_oneIsOver 16 = .ok (.putfield 248, 3) := by decide +kernel
theorem dX9_oneIsOver_19 : decode cX9_oneIsOver 19 = .ok (.aload_n 0, 1) := by decide +kernel
theorem dX9_oneIsOver_20 : decode cX9_oneIsOver 20 = .ok (.dup, 1) := by decide +kernel
theorem dX9_oneIsOver_21 : decode cX9_oneIsOver 21 = .ok (.getfield 251, 3) := by decide +kernel
theorem dX9_oneIsOver_24 : decode cX9_oneIsOver 24 = .ok (.iconst 1, 1) := by decide +kernel
theorem dX9_oneIsOver_25 : decode cX9_oneIsOver 25 = .ok (.isub, 1) := by decide +kernel
theorem dX9_oneIsOver_26 : decode cX9_oneIsOver 26 = .ok (.putfield 251, 3) := by decide +kernel
theorem dX9_oneIsOver_29 : decode cX9_oneIsOver 29 = .ok (.aload_n 0, 1) := by decide +kernel
theorem dX9_oneIsOver_30 : decode cX9_oneIsOver 30 = .ok (.sipush 402, 3) := by decide +kernel
theorem dX9_oneIsOver_33 : decode cX9_oneIsOver 33 = .ok (.iconst 0, 1) := by decide +kernel
theorem dX9_oneIsOver_34 : decode cX9_oneIsOver 34 = .ok (.invokevirtual 270, 3) := by decide +kernel
theorem dX9_oneIsOver_37 : decode cX9_oneIsOver 37 = .ok (.goto (-37), 3) := by decide +kernel
theorem dX9_oneIsOver_40 : decode cX9_oneIsOver 40 = .ok (.aload_n 0, 1) := by decide +kernel
theorem dX9_oneIsOver_41 : decode cX9_oneIsOver 41 = .ok (.iconst 2, 1) := by decide +kernel
theorem dX9_oneIsOver_42 : decode cX9_oneIsOver 42 = .ok (.putfield 283, 3) := by decide +kernel
theorem dX9_oneIsOver_45 : decode cX9_oneIsOver 45 = .ok (.return_, 1) := by decide +kernel
set_option maxRecDepth 20000 in
theorem ggX9_askIsOver_X9_top : GoodIn wsX9_askIsOver wsX9_top := goodIn_r _ [8, 9, 1, 17, 18, 19, 20, 21, 22, 23, 24, 25, 26, 27, 28, 29, 30, 31, 32, 33, 34, 35, 36, 37, 38, 39, 40, 41, 42, 43, 44, 45, 46, 47, 48, 49, 50, 51, 52, 53, 54, 55, 56, 57, 58, 59, 60, 61, 62, 63, 64, 65, 66, 67, 68, 69] (by decide +kernel) (by decide +kernel)
set_option maxRecDepth 20000 in
theorem gX9_askIsOver_X9_top : GoodIn wsX9_askIsOver (wsV RX9 295 RX9 yX9_top wsX9_top) := goodIn_app (goodIn_of _ (by decide +kernel)) ggX9_askIsOver_X9_top
set_option maxRecDepth 20000 in
theorem ggX9_askIsOver_X9_emits : GoodIn wsX9_askIsOver wsX9_emits := goodIn_r _ [13, 14, 15, 16, 17, 18, 19, 20, 21, 22, 23, 24, 25, 26, 27, 28, 29, 30, 31, 32, 33, 34, 35, 36, 37, 38, 39, 40, 41, 42, 43, 44, 45, 46, 47, 48, 49, 50, 51, 52, 53, 54, 55, 56, 57, 58, 59, 60, 61, 62, 63, 64, 65, 66, 67, 68, 69] (by decide +kernel) (by decide +kernel)
set_option maxRecDepth 20000 in
theorem gX9_askIsOver_X9_emits : GoodIn wsX9_askIsOver (wsV RX9 270 RX9 yX9_emits wsX9_emits) := goodIn_app (goodIn_of _ (by decide +kernel)) ggX9_askIsOver_X9_emits
theorem dX9_askIsOver_0 : decode cX9_askIsOver 0 = .ok (.aload_n 0, 1) := by decide +kernel
theorem dX9_askIsOver_1 : decode cX9_askIsOver 1 = .ok (.invokevirtual 295, 3) := by decide +kernel
theorem dX9_askIsOver_4 : decode cX9_askIsOver 4 = .ok (.iconst 3, 1) := by decide +kernel
theorem dX9_askIsOver_5 : decode cX9_askIsOver 5 = .ok (.if_icmp .ne 34, 3) := by decide +kernel
theorem dX9_askIsOver_8 : decode cX9_askIsOver 8 = .ok (.aload_n 0, 1) := by decide +kernel
theorem dX9_askIsOver_9 : decode cX9_askIsOver 9 = .ok (.dup, 1) := by decide +kernel
theorem dX9_askIsOver_10 : decode cX9_askIsOver 10 = .ok (.getfield 248, 3) := by decide +kernel
theorem dX9_askIsOver_13 : decode cX9_askIsOver 13 = .ok (.iconst 1, 1) := by decide +kernel
theorem dX9_askIsOver_14 : decode cX9_askIsOver 14 = .ok (.isub, 1) := by decide +kernel
theorem dX9_askIsOver_15 : decode cX9_askIsOver 15 = .ok (.putfield 248, 3) := by decide +kernel
theorem dX9_askIsOver_18 : decode cX9_askIsOver 18 = .ok (.aload_n 0, 1) := by decide +kernel
theorem dX9_askIsOver_19 : decode cX9_askIsOver 19 = .ok (.dup, 1) := by decide +kernel
theorem dX9_askIsOver_20 : decode cX9_askIsOver 20 = .ok (.getfield 251, 3) := by decide +kernel
theorem dX9_askIsOver_23 : decode cX9_askIsOver 23 = .ok (.iconst 1, 1) := by decide +kernel
theorem dX9_askIsOver_24 : decode cX9_askIsOver 24 = .ok (.isub, 1) := by decide +kernel
theorem dX9_askIsOver_25 : decode cX9_askIsOver 25 = .ok (.putfield 251, 3) := by decide +kernel
theorem dX9_askIsOver_28 : decode cX9_askIsOver 28 = .ok (.aload_n 0, 1) := by decide +kernel
theorem dX9_askIsOver_29 : decode cX9_askIsOver 29 = .ok (.sipush 405, 3) := by decide +kernel
theorem dX9_askIsOver_32 : decode cX9_askIsOver 32 = .ok (.iconst 0, 1) := by decide +kernel
theorem dX9_askIsOver_33 : decode cX9_askIsOver 33 = .ok (.invokevirtual 270, 3) := by decide +kernel
theorem dX9_askIsOver_36 : decode cX9_askIsOver 36 = .ok (.goto (-36), 3) := by decide +kernel
theorem dX9_askIsOver_39 : decode cX9_askIsOver 39 = .ok (.aload_n 0, 1) := by decide +kernel
theorem dX9_askIsOver_40 : decode cX9_askIsOver 40 = .ok (.iconst 3, 1) := by decide +kernel
theorem dX9_askIsOver_41 : decode cX9_askIsOver 41 = .ok (.putfield 283, 3) := by decide +kernel
theorem dX9_askIsOver_44 : decode cX9_askIsOver 44 = .ok (.return_, 1) := by decide +kernel
theorem dX9_isAsking_0 : decode cX9_isAsking 0 = .ok (.iload_n 0, 1) := by decide +kernel
theorem dX9_isAsking_1 : decode cX9_isAsking 1 = .ok (.bipush 60, 2) := by decide +kernel
theorem dX9_isAsking_3 : decode cX9_isAsking 3 = .ok (.if_icmp .eq 35, 3) := by decide +kernel
theorem dX9_isAsking_6 : decode cX9_isAsking 6 = .ok (.iload_n 0, 1) := by decide +kernel
theorem dX9_isAsking_7 : decode cX9_isAsking 7 = .ok (.bipush 62, 2) := by decide +kernel
theorem dX9_isAsking_9 : decode cX9_isAsking 9 = .ok (.if_icmp .eq 29, 3) := by decide +kernel
theorem dX9_isAsking_12 : decode cX9_isAsking 12 = .ok (.iload_n 0, 1) := by decide +kernel
theorem dX9_isAsking_13 : decode cX9_isAsking 13 = .ok (.bipush 61, 2) := by decide +kernel
theorem dX9_isAsking_15 : decode cX9_isAsking 15 = .ok (.if_icmp .eq 23, 3) := by decide +kernel
theorem dX9_isAsking_18 : decode cX9_isAsking 18 = .ok (.iload_n 0, 1) := by decide +kernel
theorem dX9_isAsking_19 : decode cX9_isAsking 19 = .ok (.bipush 35, 2) := by decide +kernel
theorem dX9_isAsking_21 : decode cX9_isAsking 21 = .ok (.if_icmp .eq 17, 3) := by decide +kernel
theorem dX9_isAsking_24 : decode cX9_isAsking 24 = .ok (.iload_n 0, 1) := by decide +kernel
theorem dX9_isAsking_25 : decode cX9_isAsking 25 = .ok (.sipush 300, 3) := by decide +kernel
theorem dX9_isAsking_28 : decode cX9_isAsking 28 = .ok (.if_icmp .eq 10, 3) := by decide +kernel
theorem dX9_isAsking_31 : decode cX9_isAsking 31 = .ok (.iload_n 0, 1) := by decide +kernel
theorem dX9_isAsking_32 : decode cX9_isAsking 32 = .ok (.sipush 301, 3) := by decide +kernel
theorem dX9_isAsking_35 : decode cX9_isAsking 35 = .ok (.if_icmp .ne 7, 3) := by decide +kernel
theorem dX9_isAsking_38 : decode cX9_isAsking 38 = .ok (.iconst 1, 1) := by decide +kernel
theorem dX9_isAsking_39 : decode cX9_isAsking 39 = .ok (.goto 4, 3) := by decide +kernel
theorem dX9_isAsking_42 : decode cX9_isAsking 42 = .ok (.iconst 0, 1) := by decide +kernel
theorem dX9_isAsking_43 : decode cX9_isAsking 43 = .ok (.ireturn, 1) := by decide +kernel
set_option maxRecDepth 20000 in
theorem ggX9_goesOn_X9_top : GoodIn wsX9_goesOn wsX9_top := goodIn_r _ [12, 7, 4, 101, 102, 103, 104, 105, 106, 107, 108, 109, 110, 111, 112, 113, 114, 115, 116, 117, 118, 119, 120, 121, 122, 123, 124, 125, 126, 127, 128, 129, 130, 131, 132, 133, 134, 135, 136, 137, 138, 139, 140, 141, 142, 143, 144, 145, 146, 147, 148, 149, 150, 151, 152, 153] (by decide +kernel) (by decide +kernel)
set_option maxRecDepth 20000 in
theorem gX9_goesOn_X9_top : GoodIn wsX9_goesOn (wsV RX9 295 RX9 yX9_top wsX9_top) := goodIn_app (goodIn_of _ (by decide +kernel)) ggX9_goesOn_X9_top
set_option maxRecDepth 20000 in
theorem ggX9_goesOn_X9_waitsFor : GoodIn wsX9_goesOn wsX9_waitsFor := goodIn_r _ [16, 17, 18, 19, 4, 20, 21, 11, 22, 23, 24, 25, 26, 27, 28, 29, 30, 31, 32, 33, 34, 35, 36, 37, 38, 39, 40, 41, 1, 42, 2, 43, 44, 45, 46, 47, 48, 49, 50, 51, 52, 53, 54, 55, 56, 57, 58, 59, 60, 61, 62, 63, 64, 65, 66, 67, 68, 69, 70, 71, 72, 73, 74, 101, 102, 103, 104, 105, 106, 107, 108, 109, 110, 111, 112, 113, 114, 115, 116, 117, 118, 119, 120, 121, 122, 123, 124, 125, 126, 127, 128, 129, 130, 131, 132, 133, 134, 135, 136, 137, 138, 139, 140, 141, 142, 143, 144, 145, 146, 147, 148, 149, 150, 151, 152, 153] (by decide +kernel) (by decide +kernel)
set_option maxRecDepth 20000 in
theorem gX9_goesOn_X9_waitsFor : GoodIn wsX9_goesOn (wsV RX9 299 RX9 yX9_waitsFor wsX9_waitsFor) := goodIn_app (goodIn_of _ (by decide +kernel)) ggX9_goesOn_X9_waitsFor
set_option maxRecDepth 20000 in
theorem ggX9_goesOn_X9_isSign : GoodIn wsX9_goesOn wsX9_isSign := goodIn_r _ [78, 1, 2, 101, 102, 103, 104, 105, 106, 107, 108, 109, 110, 111, 112, 113, 114, 115, 116, 117, 118, 119, 120, 121, 122, 123, 124, 125, 126, 127, 128, 129, 130, 131, 132, 133, 134, 135, 136, 137, 138, 139, 140, 141, 142, 143, 144, 145, 146, 147, 148, 149, 150, 151, 152, 153] (by decide +kernel) (by decide +kernel)
set_option maxRecDepth 20000 in
theorem gX9_goesOn_X9_isSign : GoodIn wsX9_goesOn (wsV RX9 292 RX9 yX9_isSign wsX9_isSign) := goodIn_app (goodIn_of _ (by decide +kernel)) ggX9_goesOn_X9_isSign
set_option maxRecDepth 20000 in
theorem ggX9_goesOn_X9_works : GoodIn wsX9_goesOn wsX9_works := goodIn_r _ [26, 18, 19, 4, 17, 20, 21, 11, 22, 27, 28, 29, 30, 31, 32, 33, 101, 102, 103, 104, 105, 106, 107, 108, 109, 110, 111, 112, 113, 114, 115, 116, 117, 118, 119, 120, 121, 122, 123, 124, 125, 126, 127, 128, 129, 130, 131, 132, 133, 134, 135, 136, 137, 138, 139, 140, 141, 142, 143, 144, 145, 146, 147, 148, 149, 150, 151, 152, 153] (by decide +kernel) (by decide +kernel)
set_option maxRecDepth 20000 in
theorem gX9_goesOn_X9_works : GoodIn wsX9_goesOn (wsV RX9 274 RX9 yX9_works wsX9_works) := goodIn_app (goodIn_of _ (by decide +kernel)) ggX9_goesOn_X9_works
set_option maxRecDepth 20000 in
theorem ggX9_goesOn_X9_next : GoodIn wsX9_goesOn wsX9_next := goodIn_r _ [37, 38, 39, 40, 41, 1, 42, 2, 43, 44, 45, 11, 46, 47, 48, 49, 50, 51, 52, 53, 54, 55, 56, 57, 58, 59, 60, 61, 62, 63, 64, 65, 66, 67, 68, 69, 70, 71, 72, 73, 74, 101, 102, 103, 104, 105, 106, 107, 108, 109, 110, 111, 112, 113, 114, 115, 116, 117, 118, 119, 120, 121, 122, 123, 124, 125, 126, 127, 128, 129, 130, 131, 132, 133, 134, 135, 136, 137, 138, 139, 140, 141, 142, 143, 144, 145, 146, 147, 148, 149, 150, 151, 152, 153] (by decide +kernel) (by decide +kernel)
set_option maxRecDepth 20000 in
theorem gX9_goesOn_X9_next : GoodIn wsX9_goesOn (wsV RX9 260 RX9 yX9_next wsX9_next) := goodIn_app (goodIn_of _ (by decide +kernel)) ggX9_goesOn_X9_next
set_option maxRecDepth 20000 in
theorem ggX9_goesOn_X9_oneIsOver : GoodIn wsX9_goesOn wsX9_oneIsOver := goodIn_r _ [82, 4, 5, 3, 8, 9, 10, 11, 12, 7, 27, 28, 29, 30, 31, 32, 33, 101, 102, 103, 104, 105, 106, 107, 108, 109, 110, 111, 112, 113, 114, 115, 116, 117, 118, 119, 120, 121, 122, 123, 124, 125, 126, 127, 128, 129, 130, 131, 132, 133, 134, 135, 136, 137, 138, 139, 140, 141, 142, 143, 144, 145, 146, 147, 148, 149, 150, 151, 152, 153] (by decide +kernel) (by decide +kernel)
set_option maxRecDepth 20000 in
theorem gX9_goesOn_X9_oneIsOver : GoodIn wsX9_goesOn (wsV RX9 286 RX9 yX9_oneIsOver wsX9_oneIsOver) := goodIn_app (goodIn_of _ (by decide +kernel)) ggX9_goesOn_X9_oneIsOver
set_option maxRecDepth 20000 in
theorem ggX9_goesOn_X9_isAsking : GoodIn wsX9_goesOn wsX9_isAsking := goodIn_r _ [85] (by decide +kernel) (by decide +kernel)
set_option maxRecDepth 20000 in
theorem gX9_goesOn_X9_isAsking : GoodIn wsX9_goesOn (va_wsS RX9 302 yX9_isAsking wsX9_isAsking) := goodIn_app (goodIn_of _ (by decide +kernel)) ggX9_goesOn_X9_isAsking
set_option maxRecDepth 20000 in
theorem ggX9_goesOn_X9_emits : GoodIn wsX9_goesOn wsX9_emits := goodIn_r _ [30, 31, 32, 33, 101, 102, 103, 104, 105, 106, 107, 108, 109, 110, 111, 112, 113, 114, 115, 116, 117, 118, 119, 120, 121, 122, 123, 124, 125, 126, 127, 128, 129, 130, 131, 132, 133, 134, 135, 136, 137, 138, 139, 140, 141, 142, 143, 144, 145, 146, 147, 148, 149, 150, 151, 152, 153] (by decide +kernel) (by decide +kernel)
set_option maxRecDepth 20000 in
theorem gX9_goesOn_X9_emits : GoodIn wsX9_goesOn (wsV RX9 270 RX9 yX9_emits wsX9_emits) := goodIn_app (goodIn_of _ (by decide +kernel)) ggX9_goesOn_X9_emits
set_option maxRecDepth 20000 in
theorem ggX9_goesOn_X9_askIsOver : GoodIn wsX9_goesOn wsX9_askIsOver := goodIn_r _ [89, 4, 5, 3, 8, 9, 10, 11, 12, 7, 27, 28, 29, 30, 31, 32, 33, 101, 102, 103, 104, 105, 106, 107, 108, 109, 110, 111, 112, 113, 114, 115, 116, 117, 118, 119, 120, 121, 122, 123, 124, 125, 126, 127, 128, 129, 130, 131, 132, 133, 134, 135, 136, 137, 138, 139, 140, 141, 142, 143, 144, 145, 146, 147, 148, 149, 150, 151, 152, 153] (by decide +kernel) (by decide +kernel)
set_option maxRecDepth 20000 in
theorem gX9_goesOn_X9_askIsOver : GoodIn wsX9_goesOn (wsV RX9 305 RX9 yX9_askIsOver wsX9_askIsOver) := goodIn_app (goodIn_of _ (by decide +kernel)) ggX9_goesOn_X9_askIsOver
set_option maxRecDepth 20000 in
theorem ggX9_goesOn_X9_clauseIsOver : GoodIn wsX9_goesOn wsX9_clauseIsOver := goodIn_r _ [93, 4, 94, 3, 23, 24, 25, 11, 26, 18, 19, 17, 20, 21, 22, 27, 28, 29, 30, 31, 32, 33, 34, 35, 36, 37, 38, 39, 40, 41, 1, 42, 2, 43, 44, 45, 46, 47, 48, 49, 50, 51, 52, 53, 54, 55, 56, 57, 58, 59, 60, 61, 62, 63, 64, 65, 66, 67, 68, 69, 70, 71, 72, 73, 74, 101, 102, 103, 104, 105, 106, 107, 108, 109, 110, 111, 112, 113, 114, 115, 116, 117, 118, 119, 120, 121, 122, 123, 124, 125, 126, 127, 128, 129, 130, 131, 132, 133, 134, 135, 136, 137, 138, 139, 140, 141, 142, 143, 144, 145, 146, 147, 148, 149, 150, 151, 152, 153] (by decide +kernel) (by decide +kernel)
set_option maxRecDepth 20000 in
theorem gX9_goesOn_X9_clauseIsOver : GoodIn wsX9_goesOn (wsV RX9 308 RX9 yX9_clauseIsOver wsX9_clauseIsOver) := goodIn_app (goodIn_of _ (by decide +kernel)) ggX9_goesOn_X9_clauseIsOver
set_option maxRecDepth 20000 in
theorem ggX9_goesOn_X9_errs : GoodIn wsX9_goesOn wsX9_errs := goodIn_r _ [98, 99, 41, 100, 101, 102, 103, 104, 105, 106, 107, 108, 109, 110, 111, 112, 113, 114, 115, 116, 117, 118, 119, 120, 121, 122, 123, 124, 125, 126, 127, 128, 129, 130, 131, 132, 133, 134, 135, 136, 137, 138, 139, 140, 141, 142, 143, 144, 145, 146, 147, 148, 149, 150, 151, 152, 153] (by decide +kernel) (by decide +kernel)
set_option maxRecDepth 20000 in
theorem gX9_goesOn_X9_errs : GoodIn wsX9_goesOn (wsV RX9 254 RX9 yX9_errs wsX9_errs) := goodIn_app (goodIn_of _ (by decide +kernel)) ggX9_goesOn_X9_errs
theorem dX9_goesOn_0 : decode cX9_goesOn 0 = .ok (.aload_n 0, 1) := by decide +kernel
theorem dX9_goesOn_1 : decode cX9_goesOn 1 = .ok (.invokevirtual 295, 3) := by decide +kernel
theorem dX9_goesOn_4 : decode cX9_goesOn 4 = .ok (.istore_n 1, 1) := by decide +kernel
theorem dX9_goesOn_5 : decode cX9_goesOn 5 = .ok (.aload_n 0, 1) := by decide +kernel
theorem dX9_goesOn_6 : decode cX9_goesOn 6 = .ok (.getfield 223, 3) := by decide +kernel
theorem dX9_goesOn_9 : decode cX9_goesOn 9 = .ok (.iconst 3, 1) := by decide +kernel
theorem dX9_goesOn_10 : decode cX9_goesOn 10 = .ok (.if_icmp .ne 55, 3) := by decide +kernel
theorem dX9_goesOn_13 : decode cX9_goesOn 13 = .ok (.aload_n 0, 1) := by decide +kernel
theorem dX9_goesOn_14 : decode cX9_goesOn 14 = .ok (.getfield 235, 3) := by decide +kernel
theorem dX9_goesOn_17 : decode cX9_goesOn 17 = .ok (.bipush 43, 2) := by decide +kernel
theorem dX9_goesOn_19 : decode cX9_goesOn 19 = .ok (.if_icmp .eq 30, 3) := by decide +kernel
theorem dX9_goesOn_22 : decode cX9_goesOn 22 = .ok (.aload_n 0, 1) := by decide +kernel
theorem dX9_goesOn_23 : decode cX9_goesOn 23 = .ok (.getfield 235, 3) := by decide +kernel
theorem dX9_goesOn_26 : decode cX9_goesOn 26 = .ok (.bipush 45, 2) := by decide +kernel
theorem dX9_goesOn_28 : decode cX9_goesOn 28 = .ok (.if_icmp .eq 21, 3) := by decide +kernel
theorem dX9_goesOn_31 : decode cX9_goesOn 31 = .ok (.aload_n 0, 1) := by decide +kernel
theorem dX9_goesOn_32 : decode cX9_goesOn 32 = .ok (.getfield 235, 3) := by decide +kernel
theorem dX9_goesOn_35 : decode cX9_goesOn 35 = .ok (.bipush 42, 2) := by decide +kernel
theorem dX9_goesOn_37 : decode cX9_goesOn 37 = .ok (.if_icmp .eq 12, 3) := by decide +kernel
theorem dX9_goesOn_40 : decode cX9_goesOn 40 = .ok (.aload_n 0, 1) := by decide +kernel
theorem dX9_goesOn_41 : decode cX9_goesOn 41 = .ok (.getfield 235, 3) := by decide +kernel
theorem dX9_goesOn_44 : decode cX9_goesOn 44 = .ok (.bipush 47, 2) := by decide +kernel
theorem dX9_goesOn_46 : decode cX9_goesOn 46 = .ok (.if_icmp .ne 19, 3) := by decide +kernel
theorem dX9_goesOn_49 : decode cX9_goesOn 49 = .ok (.aload_n 0, 1) := by decide +kernel
theorem dX9_goesOn_50 : decode cX9_goesOn 50 = .ok (.aload_n 0, 1) := by decide +kernel
theorem dX9_goesOn_51 : decode cX9_goesOn 51 = .ok (.getfield 235, 3) := by decide +kernel
theorem dX9_goesOn_54 : decode cX9_goesOn 54 = .ok (.invokevirtual 299, 3) := by decide +kernel
theorem dX9_goesOn_57 : decode cX9_goesOn 57 = .ok (.aload_n 0, 1) := by decide +kernel
theorem dX9_goesOn_58 : decode cX9_goesOn 58 = .ok (.iconst 1, 1) := by decide +kernel
theorem dX9_goesOn_59 : decode cX9_goesOn 59 = .ok (.putfield 283, 3) := by decide +kernel
theorem dX9_goesOn_62 : decode cX9_goesOn 62 = .ok (.goto 188, 3) := by decide +kernel
theorem dX9_goesOn_65 : decode cX9_goesOn 65 = .ok (.iload_n 1, 1) := by decide +kernel
theorem dX9_goesOn_66 : decode cX9_goesOn 66 = .ok (.bipush 6, 2) := by decide +kernel
theorem dX9_goesOn_68 : decode cX9_goesOn 68 = .ok (.if_icmp .ne 48, 3) := by decide +kernel
theorem dX9_goesOn_71 : decode cX9_goesOn 71 = .ok (.aload_n 0, 1) := by decide +kernel
theorem dX9_goesOn_72 : decode cX9_goesOn 72 = .ok (.bipush 41, 2) := by decide +kernel
theorem dX9_goesOn_74 : decode cX9_goesOn 74 = .ok (.invokevirtual 292, 3) := by decide +kernel
theorem dX9_goesOn_77 : decode cX9_goesOn 77 = .ok (.ifCond .eq 39, 3) := by decide +kernel
theorem dX9_goesOn_80 : decode cX9_goesOn 80 = .ok (.aload_n 0, 1) := by decide +kernel
theorem dX9_goesOn_81 : decode cX9_goesOn 81 = .ok (.iconst 3, 1) := by decide +kernel
theorem dX9_goesOn_82 : decode cX9_goesOn 82 = .ok (.invokevirtual 274, 3) := by decide +kernel
theorem dX9_goesOn_85 : decode cX9_goesOn 85 = .ok (.aload_n 0, 1) := by decide +kernel
theorem dX9_goesOn_86 : decode cX9_goesOn 86 = .ok (.dup, 1) := by decide +kernel
theorem dX9_goesOn_87 : decode cX9_goesOn 87 = .ok (.getfield 248, 3) := by decide +kernel
theorem dX9_goesOn_90 : decode cX9_goesOn 90 = .ok (.iconst 1, 1) := by decide +kernel
theorem dX9_goesOn_91 : decode cX9_goesOn 91 = .ok (.isub, 1) := by decide +kernel
theorem dX9_goesOn_92 : decode cX9_goesOn 92 = .ok (.putfield 248, 3) := by decide +kernel
theorem dX9_goesOn_95 : decode cX9_goesOn 95 = .ok (.aload_n 0, 1) := by decide +kernel
theorem dX9_goesOn_96 : decode cX9_goesOn 96 = .ok (.dup, 1) := by decide +kernel
theorem dX9_goesOn_97 : decode cX9_goesOn 97 = .ok (.getfield 251, 3) := by decide +kernel
theorem dX9_goesOn_100 : decode cX9_goesOn 100 = .ok (.iconst 1, 1) := by decide +kernel
theorem dX9_goesOn_101 : decode cX9_goesOn 101 = .ok (.isub, 1) := by decide +kernel
theorem dX9_goesOn_102 : decode cX9_goesOn 102 = .ok (.putfield 251, 3) := by decide +kernel
theorem dX9_goesOn_105 : decode cX9_goesOn 105 = .ok (.aload_n 0, 1) := by decide +kernel
theorem dX9_goesOn_106 : decode cX9_goesOn 106 = .ok (.invokevirtual 260, 3) := by decide +kernel
theorem dX9_goesOn_109 : decode cX9_goesOn 109 = .ok (.aload_n 0, 1) := by decide +kernel
theorem dX9_goesOn_110 : decode cX9_goesOn 110 = .ok (.invokevirtual 286, 3) := by decide +kernel
theorem dX9_goesOn_113 : decode cX9_goesOn 113 = .ok (.goto 137, 3) := by decide +kernel
theorem dX9_goesOn_116 : decode cX9_goesOn 116 = .ok (.iload_n 1, 1) := by decide +kernel
theorem dX9_goesOn_117 : decode cX9_goesOn 117 = .ok (.iconst 4, 1) := by decide +kernel
theorem dX9_goesOn_118 : decode cX9_goesOn 118 = .ok (.if_icmp .ne 63, 3) := by decide +kernel
theorem dX9_goesOn_121 : decode cX9_goesOn 121 = .ok (.aload_n 0, 1) := by decide +kernel
theorem dX9_goesOn_122 : decode cX9_goesOn 122 = .ok (.getfield 223, 3) := by decide +kernel
theorem dX9_goesOn_125 : decode cX9_goesOn 125 = .ok (.iconst 3, 1) := by decide +kernel
theorem dX9_goesOn_126 : decode cX9_goesOn 126 = .ok (.if_icmp .ne 55, 3) := by decide +kernel
theorem dX9_goesOn_129 : decode cX9_goesOn 129 = .ok (.aload_n 0, 1) := by decide +kernel
theorem dX9_goesOn_130 : decode cX9_goesOn 130 = .ok (.getfield 235, 3) := by decide +kernel
theorem dX9_goesOn_133 : decode cX9_goesOn 133 = .ok (.invokestatic 302, 3) := by decide +kernel
theorem dX9_goesOn_136 : decode cX9_goesOn 136 = .ok (.ifCond .eq 45, 3) := by decide +kernel
theorem dX9_goesOn_139 : decode cX9_goesOn 139 = .ok (.aload_n 0, 1) := by decide +kernel
theorem dX9_goesOn_140 : decode cX9_goesOn 140 = .ok (.iconst 3, 1) := by decide +kernel
theorem dX9_goesOn_141 : decode cX9_goesOn 141 = .ok (.invokevirtual 274, 3) := by decide +kernel
theorem dX9_goesOn_144 : decode cX9_goesOn 144 = .ok (.aload_n 0, 1) := by decide +kernel
theorem dX9_goesOn_145 : decode cX9_goesOn 145 = .ok (.getfield 54, 3) := by decide +kernel
theorem dX9_goesOn_148 : decode cX9_goesOn 148 = .ok (.aload_n 0, 1) := by decide +kernel
theorem dX9_goesOn_149 : decode cX9_goesOn 149 = .ok (.getfield 248, 3) := by decide +kernel
theorem dX9_goesOn_152 : decode cX9_goesOn 152 = .ok (.aload_n 0, 1) := by decide +kernel
theorem dX9_goesOn_153 : decode cX9_goesOn 153 = .ok (.getfield 235, 3) := by decide +kernel
theorem dX9_goesOn_156 : decode cX9_goesOn 156 = .ok (.iastore, 1) := by decide +kernel
theorem dX9_goesOn_157 : decode cX9_goesOn 157 = .ok (.aload_n 0, 1) := by decide +kernel
theorem dX9_goesOn_158 : decode cX9_goesOn 158 = .ok (.getfield 51, 3) := by decide +kernel
theorem dX9_goesOn_161 : decode cX9_goesOn 161 = .ok (.aload_n 0, 1) := by decide +kernel
theorem dX9_goesOn_162 : decode cX9_goesOn 162 = .ok (.getfield 248, 3) := by decide +kernel
theorem dX9_goesOn_165 : decode cX9_goesOn 165 = .ok (.iconst 1, 1) := by decide +kernel
theorem dX9_goesOn_166 : decode cX9_goesOn 166 = .ok (.isub, 1) := by decide +kernel
theorem dX9_goesOn_167 : decode cX9_goesOn 167 = .ok (.iconst 5, 1) := by decide +kernel
theorem dX9_goesOn_168 : decode cX9_goesOn 168 = .ok (.iastore, 1) := by decide +kernel
theorem dX9_goesOn_169 : decode cX9_goesOn 169 = .ok (.aload_n 0, 1) := by decide +kernel
theorem dX9_goesOn_170 : decode cX9_goesOn 170 = .ok (.invokevirtual 260, 3) := by decide +kernel
theorem dX9_goesOn_173 : decode cX9_goesOn 173 = .ok (.aload_n 0, 1) := by decide +kernel
theorem dX9_goesOn_174 : decode cX9_goesOn 174 = .ok (.iconst 1, 1) := by decide +kernel
theorem dX9_goesOn_175 : decode cX9_goesOn 175 = .ok (.putfield 283, 3) := by decide +kernel
theorem dX9_goesOn_178 : decode cX9_goesOn 178 = .ok (.goto 72, 3) := by decide +kernel
theorem dX9_goesOn_181 : decode cX9_goesOn 181 = .ok (.iload_n 1, 1) := by decide +kernel
theorem dX9_goesOn_182 : decode cX9_goesOn 182 = .ok (.iconst 5, 1) := by decide +kernel
theorem dX9_goesOn_183 : decode cX9_goesOn 183 = .ok (.if_icmp .ne 41, 3) := by decide +kernel
theorem dX9_goesOn_186 : decode cX9_goesOn 186 = .ok (.aload_n 0, 1) := by decide +kernel
theorem dX9_goesOn_187 : decode cX9_goesOn 187 = .ok (.iconst 3, 1) := by decide +kernel
theorem dX9_goesOn_188 : decode cX9_goesOn 188 = .ok (.invokevirtual 274, 3) := by decide +kernel
theorem dX9_goesOn_191 : decode cX9_goesOn 191 = .ok (.aload_n 0, 1) := by decide +kernel
theorem dX9_goesOn_192 : decode cX9_goesOn 192 = .ok (.getfield 54, 3) := by decide +kernel
theorem dX9_goesOn_195 : decode cX9_goesOn 195 = .ok (.aload_n 0, 1) := by decide +kernel
theorem dX9_goesOn_196 : decode cX9_goesOn 196 = .ok (.getfield 248, 3) := by decide +kernel
theorem dX9_goesOn_199 : decode cX9_goesOn 199 = .ok (.iaload, 1) := by decide +kernel
theorem dX9_goesOn_200 : decode cX9_goesOn 200 = .ok (.istore_n 2, 1) := by decide +kernel
theorem dX9_goesOn_201 : decode cX9_goesOn 201 = .ok (.aload_n 0, 1) := by decide +kernel
theorem dX9_goesOn_202 : decode cX9_goesOn 202 = .ok (.dup, 1) := by decide +kernel
theorem dX9_goesOn_203 : decode cX9_goesOn 203 = .ok (.getfield 248, 3) := by decide +kernel
theorem dX9_goesOn_206 : decode cX9_goesOn 206 = .ok (.iconst 1, 1) := by decide +kernel
theorem dX9_goesOn_207 : decode cX9_goesOn 207 = .ok (.isub, 1) := by decide +kernel
theorem dX9_goesOn_208 : decode cX9_goesOn 208 = .ok (.putfield 248, 3) := by decide +kernel
theorem dX9_goesOn_211 : decode cX9_goesOn 211 = .ok (.aload_n 0, 1) := by decide +kernel
theorem dX9_goesOn_212 : decode cX9_goesOn 212 = .ok (.iload_n 2, 1) := by decide +kernel
theorem dX9_goesOn_213 : decode cX9_goesOn 213 = .ok (.iconst 0, 1) := by decide +kernel
theorem dX9_goesOn_214 : decode cX9_goesOn 214 = .ok (.invokevirtual 270, 3) := by decide +kernel
theorem dX9_goesOn_217 : decode cX9_goesOn 217 = .ok (.aload_n 0, 1) := by decide +kernel
theorem dX9_goesOn_218 : decode cX9_goesOn 218 = .ok (.invokevirtual 305, 3) := by decide +kernel
theorem dX9_goesOn_221 : decode cX9_goesOn 221 = .ok (.goto 29, 3) := by decide +kernel
theorem dX9_goesOn_224 : decode cX9_goesOn 224 = .ok (.iload_n 1, 1) := by decide +kernel
theorem dX9_goesOn_225 : decode cX9_goesOn 225 = .ok (.iconst 1, 1) := by decide +kernel
theorem dX9_goesOn_226 : decode cX9_goesOn 226 = .ok (.if_icmp .ne 19, 3) := by decide +kernel
theorem dX9_goesOn_229 : decode cX9_goesOn 229 = .ok (.aload_n 0, 1) := by decide +kernel
theorem dX9_goesOn_230 : decode cX9_goesOn 230 = .ok (.bipush 59, 2) := by decide +kernel
theorem dX9_goesOn_232 : decode cX9_goesOn 232 = .ok (.invokevirtual 292, 3) := by decide +kernel
theorem dX9_goesOn_235 : decode cX9_goesOn 235 = .ok (.ifCond .eq 10, 3) := by decide +kernel
theorem dX9_goesOn_238 : decode cX9_goesOn 238 = .ok (.aload_n 0, 1) := by decide +kernel
theorem dX9_goesOn_239 : decode cX9_goesOn 239 = .ok (.invokevirtual 308, 3) := by decide +kernel
theorem dX9_goesOn_242 : decode cX9_goesOn 242 = .ok (.goto 8, 3) := by decide +kernel
theorem dX9_goesOn_245 : decode cX9_goesOn 245 = .ok (.aload_n 0, 1) := by decide +kernel
theorem dX9_goesOn_246 : decode cX9_goesOn 246 = .ok (.iconst 1, 1) := by decide +kernel
theorem dX9_goesOn_247 : decode cX9_goesOn 247 = .ok (.invokevirtual 254, 3) := by decide +kernel
theorem dX9_goesOn_250 : decode cX9_goesOn 250 = .ok (.return_, 1) := by decide +kernel
set_option maxRecDepth 20000 in
theorem ggX9_asksOn_X9_isWord : GoodIn wsX9_asksOn wsX9_isWord := goodIn_r _ [6, 7, 8, 92, 93, 94, 95, 96, 97, 98, 99, 100, 101, 102, 103, 104, 105, 106, 107, 108, 109, 110, 111, 112, 113, 114, 115, 116, 117, 118, 119, 120, 121, 122, 123, 124, 125, 126, 127, 128, 129, 130, 131, 132, 133, 134, 135, 136, 137, 138, 139, 140, 141, 142, 143, 144] (by decide +kernel) (by decide +kernel)
set_option maxRecDepth 20000 in
theorem gX9_asksOn_X9_isWord : GoodIn wsX9_asksOn (wsV RX9 277 RX9 yX9_isWord wsX9_isWord) := goodIn_app (goodIn_of _ (by decide +kernel)) ggX9_asksOn_X9_isWord
set_option maxRecDepth 20000 in
theorem ggX9_asksOn_X9_waitsFor : GoodIn wsX9_asksOn wsX9_waitsFor := goodIn_r _ [12, 13, 14, 15, 16, 17, 18, 5, 19, 20, 21, 22, 23, 24, 25, 26, 27, 28, 29, 30, 31, 32, 33, 34, 35, 36, 37, 38, 7, 39, 8, 40, 41, 42, 43, 44, 45, 46, 47, 48, 49, 50, 51, 52, 53, 54, 55, 56, 57, 58, 59, 60, 61, 62, 63, 64, 65, 66, 67, 68, 69, 70, 71, 92, 93, 94, 95, 96, 97, 98, 99, 100, 101, 102, 103, 104, 105, 106, 107, 108, 109, 110, 111, 112, 113, 114, 115, 116, 117, 118, 119, 120, 121, 122, 123, 124, 125, 126, 127, 128, 129, 130, 131, 132, 133, 134, 135, 136, 137, 138, 139, 140, 141, 142, 143, 144] (by decide +kernel) (by decide +kernel)
set_option maxRecDepth 20000 in
theorem gX9_asksOn_X9_waitsFor : GoodIn wsX9_asksOn (wsV RX9 299 RX9 yX9_waitsFor wsX9_waitsFor) := goodIn_app (goodIn_of _ (by decide +kernel)) ggX9_asksOn_X9_waitsFor
set_option maxRecDepth 20000 in
theorem ggX9_asksOn_X9_top : GoodIn wsX9_asksOn wsX9_top := goodIn_r _ [75, 76, 16, 92, 93, 94, 95, 96, 97, 98, 99, 100, 101, 102, 103, 104, 105, 106, 107, 108, 109, 110, 111, 112, 113, 114, 115, 116, 117, 118, 119, 120, 121, 122, 123, 124, 125, 126, 127, 128, 129, 130, 131, 132, 133, 134, 135, 136, 137, 138, 139, 140, 141, 142, 143, 144] (by decide +kernel) (by decide +kernel)
set_option maxRecDepth 20000 in
theorem gX9_asksOn_X9_top : GoodIn wsX9_asksOn (wsV RX9 295 RX9 yX9_top wsX9_top) := goodIn_app (goodIn_of _ (by decide +kernel)) ggX9_asksOn_X9_top
set_option maxRecDepth 20000 in
theorem ggX9_asksOn_X9_isSign : GoodIn wsX9_asksOn wsX9_isSign := goodIn_r _ [80, 7, 8, 92, 93, 94, 95, 96, 97, 98, 99, 100, 101, 102, 103, 104, 105, 106, 107, 108, 109, 110, 111, 112, 113, 114, 115, 116, 117, 118, 119, 120, 121, 122, 123, 124, 125, 126, 127, 128, 129, 130, 131, 132, 133, 134, 135, 136, 137, 138, 139, 140, 141, 142, 143, 144] (by decide +kernel) (by decide +kernel)
set_option maxRecDepth 20000 in
theorem gX9_asksOn_X9_isSign : GoodIn wsX9_asksOn (wsV RX9 292 RX9 yX9_isSign wsX9_isSign) := goodIn_app (goodIn_of _ (by decide +kernel)) ggX9_asksOn_X9_isSign
set_option maxRecDepth 20000 in
theorem ggX9_asksOn_X9_clauseIsOver : GoodIn wsX9_asksOn wsX9_clauseIsOver := goodIn_r _ [84, 16, 85, 1, 20, 21, 22, 5, 23, 14, 15, 13, 17, 18, 19, 24, 25, 26, 27, 28, 29, 30, 31, 32, 33, 34, 35, 36, 37, 38, 7, 39, 8, 40, 41, 42, 43, 44, 45, 46, 47, 48, 49, 50, 51, 52, 53, 54, 55, 56, 57, 58, 59, 60, 61, 62, 63, 64, 65, 66, 67, 68, 69, 70, 71, 92, 93, 94, 95, 96, 97, 98, 99, 100, 101, 102, 103, 104, 105, 106, 107, 108, 109, 110, 111, 112, 113, 114, 115, 116, 117, 118, 119, 120, 121, 122, 123, 124, 125, 126, 127, 128, 129, 130, 131, 132, 133, 134, 135, 136, 137, 138, 139, 140, 141, 142, 143, 144] (by decide +kernel) (by decide +kernel)
set_option maxRecDepth 20000 in
theorem gX9_asksOn_X9_clauseIsOver : GoodIn wsX9_asksOn (wsV RX9 308 RX9 yX9_clauseIsOver wsX9_clauseIsOver) := goodIn_app (goodIn_of _ (by decide +kernel)) ggX9_asksOn_X9_clauseIsOver
set_option maxRecDepth 20000 in
theorem ggX9_asksOn_X9_errs : GoodIn wsX9_asksOn wsX9_errs := goodIn_r _ [89, 90, 38, 91, 92, 93, 94, 95, 96, 97, 98, 99, 100, 101, 102, 103, 104, 105, 106, 107, 108, 109, 110, 111, 112, 113, 114, 115, 116, 117, 118, 119, 120, 121, 122, 123, 124, 125, 126, 127, 128, 129, 130, 131, 132, 133, 134, 135, 136, 137, 138, 139, 140, 141, 142, 143, 144] (by decide +kernel) (by decide +kernel)
set_option maxRecDepth 20000 in
theorem gX9_asksOn_X9_errs : GoodIn wsX9_asksOn (wsV RX9 254 RX9 yX9_errs wsX9_errs) := goodIn_app (goodIn_of _ (by decide +kernel)) ggX9_asksOn_X9_errs
theorem dX9_asksOn_0 : decode cX9_asksOn 0 = .ok (.aload_n 0, 1) := by decide +kernel
theorem dX9_asksOn_1 : decode cX9_asksOn 1 = .ok (.bipush 10, 2) := by decide +kernel
theorem dX9_asksOn_3 : decode cX9_asksOn 3 = .ok (.invokevirtual 277, 3) := by decide +kernel
theorem dX9_asksOn_6 : decode cX9_asksOn 6 = .ok (.ifCond .ne 12, 3) := by decide +kernel
theorem dX9_asksOn_9 : decode cX9_asksOn 9 = .ok (.aload_n 0, 1) := by decide +kernel
theorem dX9_asksOn_10 : decode cX9_asksOn 10 = .ok (.bipush 11, 2) := by decide +kernel
theorem dX9_asksOn_12 : decode cX9_asksOn 12 = .ok (.invokevirtual 277, 3) := by decide +kernel
theorem dX9_asksOn_15 : decode cX9_asksOn 15 = .ok (.ifCond .eq 33, 3) := by decide +kernel
theorem dX9_asksOn_18 : decode cX9_asksOn 18 = .ok (.aload_n 0, 1) := by decide +kernel
theorem dX9_asksOn_19 : decode cX9_asksOn 19 = .ok (.aload_n 0, 1) := by decide +kernel
theorem dX9_asksOn_20 : decode cX9_asksOn 20 = .ok (.bipush 10, 2) := by decide +kernel
theorem dX9_asksOn_22 : decode cX9_asksOn 22 = .ok (.invokevirtual 277, 3) := by decide +kernel
theorem dX9_asksOn_25 : decode cX9_asksOn 25 = .ok (.ifCond .eq 9, 3) := by decide +kernel
theorem dX9_asksOn_28 : decode cX9_asksOn 28 = .ok (.sipush 407, 3) := by decide +kernel
theorem dX9_asksOn_31 : decode cX9_asksOn 31 = .ok (.goto 6, 3) := by decide +kernel
theorem dX9_asksOn_34 : decode cX9_asksOn 34 = .ok (.sipush 406, 3) := by decide +kernel
theorem dX9_asksOn_37 : decode cX9_asksOn 37 = .ok (.invokevirtual 299, 3) := by decide +kernel
theorem dX9_asksOn_40 : decode cX9_asksOn 40 = .ok (.aload_n 0, 1) := by decide +kernel
theorem dX9_asksOn_41 : decode cX9_asksOn 41 = .ok (.iconst 0, 1) := by decide +kernel
theorem dX9_asksOn_42 : decode cX9_asksOn 42 = .ok (.putfield 283, 3) := by decide +kernel
theorem dX9_asksOn_45 : decode cX9_asksOn 45 = .ok (.goto 32, 3) := by decide +kernel
theorem dX9_asksOn_48 : decode cX9_asksOn 48 = .ok (.aload_n 0, 1) := by decide +kernel
theorem dX9_asksOn_49 : decode cX9_asksOn 49 = .ok (.invokevirtual 295, 3) := by decide +kernel
theorem dX9_asksOn_52 : decode cX9_asksOn 52 = .ok (.iconst 2, 1) := by decide +kernel
theorem dX9_asksOn_53 : decode cX9_asksOn 53 = .ok (.if_icmp .ne 19, 3) := by decide +kernel
theorem dX9_asksOn_56 : decode cX9_asksOn 56 = .ok (.aload_n 0, 1) := by decide +kernel
theorem dX9_asksOn_57 : decode cX9_asksOn 57 = .ok (.bipush 59, 2) := by decide +kernel
theorem dX9_asksOn_59 : decode cX9_asksOn 59 = .ok (.invokevirtual 292, 3) := by decide +kernel
theorem dX9_asksOn_62 : decode cX9_asksOn 62 = .ok (.ifCond .eq 10, 3) := by decide +kernel
theorem dX9_asksOn_65 : decode cX9_asksOn 65 = .ok (.aload_n 0, 1) := by decide +kernel
theorem dX9_asksOn_66 : decode cX9_asksOn 66 = .ok (.invokevirtual 308, 3) := by decide +kernel
theorem dX9_asksOn_69 : decode cX9_asksOn 69 = .ok (.goto 8, 3) := by decide +kernel
theorem dX9_asksOn_72 : decode cX9_asksOn 72 = .ok (.aload_n 0, 1) := by decide +kernel
theorem dX9_asksOn_73 : decode cX9_asksOn 73 = .ok (.iconst 1, 1) := by decide +kernel
theorem dX9_asksOn_74 : decode cX9_asksOn 74 = .ok (.invokevirtual 254, 3) := by decide +kernel
theorem dX9_asksOn_77 : decode cX9_asksOn 77 = .ok (.return_, 1) := by decide +kernel
set_option maxRecDepth 20000 in
theorem ggX9_clauseIsOver_X9_works : GoodIn wsX9_clauseIsOver wsX9_works := goodIn_r _ [8, 9, 10, 1, 11, 12, 13, 7, 14, 15, 16, 17, 18, 19, 20, 21, 65, 66, 67, 68, 69, 70, 71, 72, 73, 74, 75, 76, 77, 78, 79, 80, 81, 82, 83, 84, 85, 86, 87, 88, 89, 90, 91, 92, 93, 94, 95, 96, 97, 98, 99, 100, 101, 102, 103, 104, 105, 106, 107, 108, 109, 110, 111, 112, 113, 114, 115, 116, 117] (by decide +kernel) (by decide +kernel)
set_option maxRecDepth 20000 in
theorem gX9_clauseIsOver_X9_works : GoodIn wsX9_clauseIsOver (wsV RX9 274 RX9 yX9_works wsX9_works) := goodIn_app (goodIn_of _ (by decide +kernel)) ggX9_clauseIsOver_X9_works
set_option maxRecDepth 20000 in
theorem ggX9_clauseIsOver_X9_emits : GoodIn wsX9_clauseIsOver wsX9_emits := goodIn_r _ [18, 19, 20, 21, 65, 66, 67, 68, 69, 70, 71, 72, 73, 74, 75, 76, 77, 78, 79, 80, 81, 82, 83, 84, 85, 86, 87, 88, 89, 90, 91, 92, 93, 94, 95, 96, 97, 98, 99, 100, 101, 102, 103, 104, 105, 106, 107, 108, 109, 110, 111, 112, 113, 114, 115, 116, 117] (by decide +kernel) (by decide +kernel)
set_option maxRecDepth 20000 in
theorem gX9_clauseIsOver_X9_emits : GoodIn wsX9_clauseIsOver (wsV RX9 270 RX9 yX9_emits wsX9_emits) := goodIn_app (goodIn_of _ (by decide +kernel)) ggX9_clauseIsOver_X9_emits
set_option maxRecDepth 20000 in
theorem ggX9_clauseIsOver_X9_next : GoodIn wsX9_clauseIsOver wsX9_next := goodIn_r _ [25, 26, 27, 28, 29, 30, 31, 32, 33, 34, 35, 7, 36, 37, 38, 39, 40, 41, 42, 43, 44, 45, 46, 47, 48, 49, 50, 51, 52, 53, 54, 55, 56, 57, 58, 59, 60, 61, 62, 63, 64, 65, 66, 67, 68, 69, 70, 71, 72, 73, 74, 75, 76, 77, 78, 79, 80, 81, 82, 83, 84, 85, 86, 87, 88, 89, 90, 91, 92, 93, 94, 95, 96, 97, 98, 99, 100, 101, 102, 103, 104, 105, 106, 107, 108, 109, 110, 111, 112, 113, 114, 115, 116, 117] (by decide +kernel) (by decide +kernel)
set_option maxRecDepth 20000 in
theorem gX9_clauseIsOver_X9_next : GoodIn wsX9_clauseIsOver (wsV RX9 260 RX9 yX9_next wsX9_next) := goodIn_app (goodIn_of _ (by decide +kernel)) ggX9_clauseIsOver_X9_next
theorem dX9_clauseIsOver_0 : decode cX9_clauseIsOver 0 = .ok (.aload_n 0, 1) := by decide +kernel
theorem dX9_clauseIsOver_1 : decode cX9_clauseIsOver 1 = .ok (.iconst 1, 1) := by decide +kernel
theorem dX9_clauseIsOver_2 : decode cX9_clauseIsOver 2 = .ok (.invokevirtual 274, 3) := by decide +kernel
theorem dX9_clauseIsOver_5 : decode cX9_clauseIsOver 5 = .ok (.aload_n 0, 1) := by decide +kernel
theorem dX9_clauseIsOver_6 : decode cX9_clauseIsOver 6 = .ok (.iconst 0, 1) := by decide +kernel
theorem dX9_clauseIsOver_7 : decode cX9_clauseIsOver 7 = .ok (.putfield 248, 3) := by decide +kernel
theorem dX9_clauseIsOver_10 : decode cX9_clauseIsOver 10 = .ok (.aload_n 0, 1) := by decide +kernel
theorem dX9_clauseIsOver_11 : decode cX9_clauseIsOver 11 = .ok (.sipush 408, 3) := by decide +kernel
theorem dX9_clauseIsOver_14 : decode cX9_clauseIsOver 14 = .ok (.iconst 0, 1) := by decide +kernel
theorem dX9_clauseIsOver_15 : decode cX9_clauseIsOver 15 = .ok (.invokevirtual 270, 3) := by decide +kernel
theorem dX9_clauseIsOver_18 : decode cX9_clauseIsOver 18 = .ok (.aload_n 0, 1) := by decide +kernel
theorem dX9_clauseIsOver_19 : decode cX9_clauseIsOver 19 = .ok (.dup, 1) := by decide +kernel
theorem dX9_clauseIsOver_20 : decode cX9_clauseIsOver 20 = .ok (.getfield 311, 3) := by decide +kernel
theorem dX9_clauseIsOver_23 : decode cX9_clauseIsOver 23 = .ok (.iconst 1, 1) := by decide +kernel
theorem dX9_clauseIsOver_24 : decode cX9_clauseIsOver 24 = .ok (.iadd, 1) := by decide +kernel
theorem dX9_clauseIsOver_25 : decode cX9_clauseIsOver 25 = .ok (.putfield 311, 3) := by decide +kernel
theorem dX9_clauseIsOver_28 : decode cX9_clauseIsOver 28 = .ok (.aload_n 0, 1) := by decide +kernel
theorem dX9_clauseIsOver_29 : decode cX9_clauseIsOver 29 = .ok (.invokevirtual 260, 3) := by decide +kernel
theorem dX9_clauseIsOver_32 : decode cX9_clauseIsOver 32 = .ok (.aload_n 0, 1) := by decide +kernel
theorem dX9_clauseIsOver_33 : decode cX9_clauseIsOver 33 = .ok (.iconst 4, 1) := by decide +kernel
theorem dX9_clauseIsOver_34 : decode cX9_clauseIsOver 34 = .ok (.putfield 283, 3) := by decide +kernel
theorem dX9_clauseIsOver_37 : decode cX9_clauseIsOver 37 = .ok (.return_, 1) := by decide +kernel
set_option maxRecDepth 20000 in
theorem ggX9_number_X9_errs : GoodIn wsX9_number wsX9_errs := goodIn_r _ [8, 1, 9, 10, 51, 52, 53, 54, 55, 56, 57, 58, 59, 60, 61, 62, 63, 64, 65, 66, 67, 68, 69, 70, 71, 72, 73, 74, 75, 76, 77, 78, 79, 80, 81, 82, 83, 84, 85, 86, 87, 88, 89, 90, 91, 92, 93, 94, 95, 96, 97, 98, 99, 100, 101, 102, 103] (by decide +kernel) (by decide +kernel)
set_option maxRecDepth 20000 in
theorem gX9_number_X9_errs : GoodIn wsX9_number (wsV RX9 254 RX9 yX9_errs wsX9_errs) := goodIn_app (goodIn_of _ (by decide +kernel)) ggX9_number_X9_errs
set_option maxRecDepth 20000 in
theorem ggX9_number_X9_in : GoodIn wsX9_number wsX9_in := goodIn_r _ [13] (by decide +kernel) (by decide +kernel)
set_option maxRecDepth 20000 in
theorem gX9_number_X9_in : GoodIn wsX9_number (va_wsS RX9 126 yX9_in wsX9_in) := goodIn_app (goodIn_of _ (by decide +kernel)) ggX9_number_X9_in
set_option maxRecDepth 20000 in
theorem ggX9_number_X9_next : GoodIn wsX9_number wsX9_next := goodIn_r _ [17, 18, 19, 20, 9, 2, 21, 3, 22, 23, 24, 7, 25, 11, 12, 13, 26, 27, 28, 29, 30, 31, 32, 33, 34, 35, 36, 37, 38, 39, 40, 41, 42, 43, 44, 45, 46, 47, 48, 49, 50, 51, 52, 53, 54, 55, 56, 57, 58, 59, 60, 61, 62, 63, 64, 65, 66, 67, 68, 69, 70, 71, 72, 73, 74, 75, 76, 77, 78, 79, 80, 81, 82, 83, 84, 85, 86, 87, 88, 89, 90, 91, 92, 93, 94, 95, 96, 97, 98, 99, 100, 101, 102, 103] (by decide +kernel) (by decide +kernel)
set_option maxRecDepth 20000 in
theorem gX9_number_X9_next : GoodIn wsX9_number (wsV RX9 260 RX9 yX9_next wsX9_next) := goodIn_app (goodIn_of _ (by decide +kernel)) ggX9_number_X9_next
theorem dX9_number_0 : decode cX9_number 0 = .ok (.aload_n 0, 1) := by decide +kernel
theorem dX9_number_1 : decode cX9_number 1 = .ok (.getfield 239, 3) := by decide +kernel
theorem dX9_number_4 : decode cX9_number 4 = .ok (.ifCond .gt 11, 3) := by decide +kernel
theorem dX9_number_7 : decode cX9_number 7 = .ok (.aload_n 0, 1) := by decide +kernel
theorem dX9_number_8 : decode cX9_number 8 = .ok (.getfield 223, 3) := by decide +kernel
theorem dX9_number_11 : decode cX9_number 11 = .ok (.iconst 2, 1) := by decide +kernel
theorem dX9_number_12 : decode cX9_number 12 = .ok (.if_icmp .eq 10, 3) := by decide +kernel
theorem dX9_number_15 : decode cX9_number 15 = .ok (.aload_n 0, 1) := by decide +kernel
theorem dX9_number_16 : decode cX9_number 16 = .ok (.iconst 1, 1) := by decide +kernel
theorem dX9_number_17 : decode cX9_number 17 = .ok (.invokevirtual 254, 3) := by decide +kernel
theorem dX9_number_20 : decode cX9_number 20 = .ok (.iload_n 1, 1) := by decide +kernel
theorem dX9_number_21 : decode cX9_number 21 = .ok (.ireturn, 1) := by decide +kernel
theorem dX9_number_22 : decode cX9_number 22 = .ok (.aload_n 0, 1) := by decide +kernel
theorem dX9_number_23 : decode cX9_number 23 = .ok (.getfield 235, 3) := by decide +kernel
theorem dX9_number_26 : decode cX9_number 26 = .ok (.iload_n 1, 1) := by decide +kernel
theorem dX9_number_27 : decode cX9_number 27 = .ok (.iload_n 2, 1) := by decide +kernel
theorem dX9_number_28 : decode cX9_number 28 = .ok (.invokestatic 126, 3) := by decide +kernel
theorem dX9_number_31 : decode cX9_number 31 = .ok (.ifCond .ne 10, 3) := by decide +kernel
theorem dX9_number_34 : decode cX9_number 34 = .ok (.aload_n 0, 1) := by decide +kernel
theorem dX9_number_35 : decode cX9_number 35 = .ok (.iconst 2, 1) := by decide +kernel
theorem dX9_number_36 : decode cX9_number 36 = .ok (.invokevirtual 254, 3) := by decide +kernel
theorem dX9_number_39 : decode cX9_number 39 = .ok (.iload_n 1, 1) := by decide +kernel
theorem dX9_number_40 : decode cX9_number 40 = .ok (.ireturn, 1) := by decide +kernel
theorem dX9_number_41 : decode cX9_number 41 = .ok (.aload_n 0, 1) := by decide +kernel
theorem dX9_number_42 : decode cX9_number 42 = .ok (.getfield 235, 3) := by decide +kernel
theorem dX9_number_45 : decode cX9_number 45 = .ok (.istore_n 3, 1) := by decide +kernel
theorem dX9_number_46 : decode cX9_number 46 = .ok (.aload_n 0, 1) := by decide +kernel
theorem dX9_number_47 : decode cX9_number 47 = .ok (.invokevirtual 260, 3) := by decide +kernel
theorem dX9_number_50 : decode cX9_number 50 = .ok (.iload_n 3, 1) := by decide +kernel
theorem dX9_number_51 : decode cX9_number 51 = .ok (.ireturn, 1) := by decide +kernel
theorem dX9_wasTold_0 : decode cX9_wasTold 0 = .ok (.iconst 0, 1) := by decide +kernel
theorem dX9_wasTold_1 : decode cX9_wasTold 1 = .ok (.istore_n 2, 1) := by decide +kernel
theorem dX9_wasTold_2 : decode cX9_wasTold 2 = .ok (.iconst 0, 1) := by decide +kernel
theorem dX9_wasTold_3 : decode cX9_wasTold 3 = .ok (.istore_n 3, 1) := by decide +kernel
theorem dX9_wasTold_4 : decode cX9_wasTold 4 = .ok (.iload_n 3, 1) := by decide +kernel
theorem dX9_wasTold_5 : decode cX9_wasTold 5 = .ok (.aload_n 0, 1) := by decide +kernel
theorem dX9_wasTold_6 : decode cX9_wasTold 6 = .ok (.getfield 311, 3) := by decide +kernel
theorem dX9_wasTold_9 : decode cX9_wasTold 9 = .ok (.if_icmp .ge 29, 3) := by decide +kernel
theorem dX9_wasTold_12 : decode cX9_wasTold 12 = .ok (.iload_n 2, 1) := by decide +kernel
theorem dX9_wasTold_13 : decode cX9_wasTold 13 = .ok (.ifCond .ne 13, 3) := by decide +kernel
theorem dX9_wasTold_16 : decode cX9_wasTold 16 = .ok (.aload_n 0, 1) := by decide +kernel
theorem dX9_wasTold_17 : decode cX9_wasTold 17 = .ok (.getfield 63, 3) := by decide +kernel
theorem dX9_wasTold_20 : decode cX9_wasTold 20 = .ok (.iload_n 3, 1) := by decide +kernel
theorem dX9_wasTold_21 : decode cX9_wasTold 21 = .ok (.iaload, 1) := by decide +kernel
theorem dX9_wasTold_22 : decode cX9_wasTold 22 = .ok (.iload_n 1, 1) := by decide +kernel
theorem dX9_wasTold_23 : decode cX9_wasTold 23 = .ok (.if_icmp .ne 7, 3) := by decide +kernel
theorem dX9_wasTold_26 : decode cX9_wasTold 26 = .ok (.iconst 1, 1) := by decide +kernel
theorem dX9_wasTold_27 : decode cX9_wasTold 27 = .ok (.goto 4, 3) := by decide +kernel
theorem dX9_wasTold_30 : decode cX9_wasTold 30 = .ok (.iconst 0, 1) := by decide +kernel
theorem dX9_wasTold_31 : decode cX9_wasTold 31 = .ok (.istore_n 2, 1) := by decide +kernel
theorem dX9_wasTold_32 : decode cX9_wasTold 32 = .ok (.iinc 3 1, 3) := by decide +kernel
theorem dX9_wasTold_35 : decode cX9_wasTold 35 = .ok (.goto (-31), 3) := by decide +kernel
theorem dX9_wasTold_38 : decode cX9_wasTold 38 = .ok (.iload_n 2, 1) := by decide +kernel
theorem dX9_wasTold_39 : decode cX9_wasTold 39 = .ok (.ireturn, 1) := by decide +kernel
set_option maxRecDepth 20000 in
theorem ggX9_wants_X9_isWord : GoodIn wsX9_wants wsX9_isWord := goodIn_r _ [6, 7, 8, 55, 56, 57, 58, 59, 60, 61, 62, 63, 64, 65, 66, 67, 68, 69, 70, 71, 72, 73, 74, 75, 76, 77, 78, 79, 80, 81, 82, 83, 84, 85, 86, 87, 88, 89, 90, 91, 92, 93, 94, 95, 96, 97, 98, 99, 100, 101, 102, 103, 104, 105, 106, 107] (by decide +kernel) (by decide +kernel)
set_option maxRecDepth 20000 in
theorem gX9_wants_X9_isWord : GoodIn wsX9_wants (wsV RX9 277 RX9 yX9_isWord wsX9_isWord) := goodIn_app (goodIn_of _ (by decide +kernel)) ggX9_wants_X9_isWord
set_option maxRecDepth 20000 in
theorem ggX9_wants_X9_errs : GoodIn wsX9_wants wsX9_errs := goodIn_r _ [12, 1, 13, 14, 55, 56, 57, 58, 59, 60, 61, 62, 63, 64, 65, 66, 67, 68, 69, 70, 71, 72, 73, 74, 75, 76, 77, 78, 79, 80, 81, 82, 83, 84, 85, 86, 87, 88, 89, 90, 91, 92, 93, 94, 95, 96, 97, 98, 99, 100, 101, 102, 103, 104, 105, 106, 107] (by decide +kernel) (by decide +kernel)
set_option maxRecDepth 20000 in
theorem gX9_wants_X9_errs : GoodIn wsX9_wants (wsV RX9 254 RX9 yX9_errs wsX9_errs) := goodIn_app (goodIn_of _ (by decide +kernel)) ggX9_wants_X9_errs
set_option maxRecDepth 20000 in
theorem ggX9_wants_X9_next : GoodIn wsX9_wants wsX9_next := goodIn_r _ [18, 19, 20, 21, 13, 7, 22, 8, 23, 24, 25, 5, 26, 27, 28, 29, 30, 31, 32, 33, 34, 35, 36, 37, 38, 39, 40, 41, 42, 43, 44, 45, 46, 47, 48, 49, 50, 51, 52, 53, 54, 55, 56, 57, 58, 59, 60, 61, 62, 63, 64, 65, 66, 67, 68, 69, 70, 71, 72, 73, 74, 75, 76, 77, 78, 79, 80, 81, 82, 83, 84, 85, 86, 87, 88, 89, 90, 91, 92, 93, 94, 95, 96, 97, 98, 99, 100, 101, 102, 103, 104, 105, 106, 107] (by decide +kernel) (by decide +kernel)
set_option maxRecDepth 20000 in
theorem gX9_wants_X9_next : GoodIn wsX9_wants (wsV RX9 260 RX9 yX9_next wsX9_next) := goodIn_app (goodIn_of _ (by decide +kernel)) ggX9_wants_X9_next
theorem dX9_wants_0 : decode cX9_wants 0 = .ok (.aload_n 0, 1) := by decide +kernel
theorem dX9_wants_1 : decode cX9_wants 1 = .ok (.getfield 239, 3) := by decide +kernel
theorem dX9_wants_4 : decode cX9_wants 4 = .ok (.ifCond .ne 16, 3) := by decide +kernel
theorem dX9_wants_7 : decode cX9_wants 7 = .ok (.aload_n 0, 1) := by decide +kernel
theorem dX9_wants_8 : decode cX9_wants 8 = .ok (.iload_n 1, 1) := by decide +kernel
theorem dX9_wants_9 : decode cX9_wants 9 = .ok (.invokevirtual 277, 3) := by decide +kernel
theorem dX9_wants_12 : decode cX9_wants 12 = .ok (.ifCond .ne 8, 3) := by decide +kernel
theorem dX9_wants_15 : decode cX9_wants 15 = .ok (.aload_n 0, 1) := by decide +kernel
theorem dX9_wants_16 : decode cX9_wants 16 = .ok (.iconst 1, 1) := by decide +kernel
theorem dX9_wants_17 : decode cX9_wants 17 = .ok (.invokevirtual 254, 3) := by decide +kernel
theorem dX9_wants_20 : decode cX9_wants 20 = .ok (.aload_n 0, 1) := by decide +kernel
theorem dX9_wants_21 : decode cX9_wants 21 = .ok (.getfield 239, 3) := by decide +kernel
theorem dX9_wants_24 : decode cX9_wants 24 = .ok (.ifCond .ne 7, 3) := by decide +kernel
theorem dX9_wants_27 : decode cX9_wants 27 = .ok (.aload_n 0, 1) := by decide +kernel
theorem dX9_wants_28 : decode cX9_wants 28 = .ok (.invokevirtual 260, 3) := by decide +kernel
theorem dX9_wants_31 : decode cX9_wants 31 = .ok (.return_, 1) := by decide +kernel
set_option maxRecDepth 20000 in
theorem ggX9_clause_X9_errs : GoodIn wsX9_clause wsX9_errs := goodIn_r _ [17, 5, 18, 19, 106, 107, 108, 109, 110, 111, 112, 113, 114, 115, 116, 117, 118, 119, 120, 121, 122, 123, 124, 125, 126, 127, 128, 129, 130, 131, 132, 133, 134, 135, 136, 137, 138, 139, 140, 141, 142, 143, 144, 145, 146, 147, 148, 149, 150, 151, 152, 153, 154, 155, 156, 157, 158] (by decide +kernel) (by decide +kernel)
set_option maxRecDepth 20000 in
theorem gX9_clause_X9_errs : GoodIn wsX9_clause (wsV RX9 254 RX9 yX9_errs wsX9_errs) := goodIn_app (goodIn_of _ (by decide +kernel)) ggX9_clause_X9_errs
set_option maxRecDepth 20000 in
theorem ggX9_clause_X9_wasTold : GoodIn wsX9_clause wsX9_wasTold := goodIn_r _ [23, 4, 6, 106, 107, 108, 109, 110, 111, 112, 113, 114, 115, 116, 117, 118, 119, 120, 121, 122, 123, 124, 125, 126, 127, 128, 129, 130, 131, 132, 133, 134, 135, 136, 137, 138, 139, 140, 141, 142, 143, 144, 145, 146, 147, 148, 149, 150, 151, 152, 153, 154, 155, 156, 157, 158] (by decide +kernel) (by decide +kernel)
set_option maxRecDepth 20000 in
theorem gX9_clause_X9_wasTold : GoodIn wsX9_clause (wsV RX9 314 RX9 yX9_wasTold wsX9_wasTold) := goodIn_app (goodIn_of _ (by decide +kernel)) ggX9_clause_X9_wasTold
set_option maxRecDepth 20000 in
theorem ggX9_clause_X9_next : GoodIn wsX9_clause wsX9_next := goodIn_r _ [27, 28, 29, 30, 18, 1, 31, 2, 32, 33, 34, 16, 35, 36, 37, 38, 39, 40, 41, 42, 43, 44, 45, 46, 47, 48, 49, 50, 51, 52, 53, 54, 55, 56, 57, 58, 59, 60, 61, 62, 63, 106, 107, 108, 109, 110, 111, 112, 113, 114, 115, 116, 117, 118, 119, 120, 121, 122, 123, 124, 125, 126, 127, 128, 129, 130, 131, 132, 133, 134, 135, 136, 137, 138, 139, 140, 141, 142, 143, 144, 145, 146, 147, 148, 149, 150, 151, 152, 153, 154, 155, 156, 157, 158] (by decide +kernel) (by decide +kernel)
set_option maxRecDepth 20000 in
theorem gX9_clause_X9_next : GoodIn wsX9_clause (wsV RX9 260 RX9 yX9_next wsX9_next) := goodIn_app (goodIn_of _ (by decide +kernel)) ggX9_clause_X9_next
set_option maxRecDepth 20000 in
theorem ggX9_clause_X9_opensFrame : GoodIn wsX9_clause wsX9_opensFrame := goodIn_r _ [67, 68, 69, 106, 107, 108, 109, 110, 111, 112, 113, 114, 115, 116, 117, 118, 119, 120, 121, 122, 123, 124, 125, 126, 127, 128, 129, 130, 131, 132, 133, 134, 135, 136, 137, 138, 139, 140, 141, 142, 143, 144, 145, 146, 147, 148, 149, 150, 151, 152, 153, 154, 155, 156, 157, 158] (by decide +kernel) (by decide +kernel)
set_option maxRecDepth 20000 in
theorem gX9_clause_X9_opensFrame : GoodIn wsX9_clause (wsV RX9 257 RX9 yX9_opensFrame wsX9_opensFrame) := goodIn_app (goodIn_of _ (by decide +kernel)) ggX9_clause_X9_opensFrame
set_option maxRecDepth 20000 in
theorem ggX9_clause_X9_number : GoodIn wsX9_clause wsX9_number := goodIn_r _ [73, 5, 1, 2, 13, 14, 15, 16, 17, 18, 19, 36, 37, 38, 24, 25, 26, 27, 28, 29, 30, 31, 32, 33, 34, 35, 39, 40, 41, 42, 43, 44, 45, 46, 47, 48, 49, 50, 51, 52, 53, 54, 55, 56, 57, 58, 59, 60, 61, 62, 63, 106, 107, 108, 109, 110, 111, 112, 113, 114, 115, 116, 117, 118, 119, 120, 121, 122, 123, 124, 125, 126, 127, 128, 129, 130, 131, 132, 133, 134, 135, 136, 137, 138, 139, 140, 141, 142, 143, 144, 145, 146, 147, 148, 149, 150, 151, 152, 153, 154, 155, 156, 157, 158] (by decide +kernel) (by decide +kernel)
set_option maxRecDepth 20000 in
theorem gX9_clause_X9_number : GoodIn wsX9_clause (wsV RX9 317 RX9 yX9_number wsX9_number) := goodIn_app (goodIn_of _ (by decide +kernel)) ggX9_clause_X9_number
set_option maxRecDepth 20000 in
theorem ggX9_clause_X9_wants : GoodIn wsX9_clause wsX9_wants := goodIn_r _ [77, 5, 78, 79, 80, 16, 81, 1, 2, 13, 14, 15, 17, 18, 19, 24, 25, 26, 27, 28, 29, 30, 31, 32, 33, 34, 35, 36, 37, 38, 39, 40, 41, 42, 43, 44, 45, 46, 47, 48, 49, 50, 51, 52, 53, 54, 55, 56, 57, 58, 59, 60, 61, 62, 63, 106, 107, 108, 109, 110, 111, 112, 113, 114, 115, 116, 117, 118, 119, 120, 121, 122, 123, 124, 125, 126, 127, 128, 129, 130, 131, 132, 133, 134, 135, 136, 137, 138, 139, 140, 141, 142, 143, 144, 145, 146, 147, 148, 149, 150, 151, 152, 153, 154, 155, 156, 157, 158] (by decide +kernel) (by decide +kernel)
set_option maxRecDepth 20000 in
theorem gX9_clause_X9_wants : GoodIn wsX9_clause (wsV RX9 320 RX9 yX9_wants wsX9_wants) := goodIn_app (goodIn_of _ (by decide +kernel)) ggX9_clause_X9_wants
set_option maxRecDepth 20000 in
theorem ggX9_clause_X9_isSign : GoodIn wsX9_clause wsX9_isSign := goodIn_r _ [85, 1, 2, 106, 107, 108, 109, 110, 111, 112, 113, 114, 115, 116, 117, 118, 119, 120, 121, 122, 123, 124, 125, 126, 127, 128, 129, 130, 131, 132, 133, 134, 135, 136, 137, 138, 139, 140, 141, 142, 143, 144, 145, 146, 147, 148, 149, 150, 151, 152, 153, 154, 155, 156, 157, 158] (by decide +kernel) (by decide +kernel)
set_option maxRecDepth 20000 in
theorem gX9_clause_X9_isSign : GoodIn wsX9_clause (wsV RX9 292 RX9 yX9_isSign wsX9_isSign) := goodIn_app (goodIn_of _ (by decide +kernel)) ggX9_clause_X9_isSign
set_option maxRecDepth 20000 in
theorem ggX9_clause_X9_clauseIsOver : GoodIn wsX9_clause wsX9_clauseIsOver := goodIn_r _ [89, 69, 4, 12, 90, 91, 92, 16, 93, 94, 95, 96, 97, 98, 99, 100, 101, 102, 103, 104, 8, 105, 24, 25, 26, 27, 28, 29, 30, 18, 1, 31, 2, 32, 33, 34, 35, 36, 37, 38, 39, 40, 41, 42, 43, 44, 45, 46, 47, 48, 49, 50, 51, 52, 53, 54, 55, 56, 57, 58, 59, 60, 61, 62, 63, 106, 107, 108, 109, 110, 111, 112, 113, 114, 115, 116, 117, 118, 119, 120, 121, 122, 123, 124, 125, 126, 127, 128, 129, 130, 131, 132, 133, 134, 135, 136, 137, 138, 139, 140, 141, 142, 143, 144, 145, 146, 147, 148, 149, 150, 151, 152, 153, 154, 155, 156, 157, 158] (by decide +kernel) (by decide +kernel)
set_option maxRecDepth 20000 in
theorem gX9_clause_X9_clauseIsOver : GoodIn wsX9_clause (wsV RX9 308 RX9 yX9_clauseIsOver wsX9_clauseIsOver) := goodIn_app (goodIn_of _ (by decide +kernel)) ggX9_clause_X9_clauseIsOver
theorem dX9_clause_0 : decode cX9_clause 0 = .ok (.aload_n 0, 1) := by decide +kernel
