theorem inlX0 : ∀ w ∈ wsX00, w ∈ wsL_law := fun _ h => List.mem_append_left _ (List.mem_append_left _ (List.mem_append_left _ (List.mem_append_right _ h)))
theorem inX0 : ∀ w ∈ wsX00, w ∈ lw_tbl := fun w h => wsL_law_in w (inlX0 w h)
theorem inlX1 : ∀ w ∈ wsX10, w ∈ wsL_law := fun _ h => List.mem_append_left _ (List.mem_append_left _ (List.mem_append_left _ (List.mem_append_left _ (List.mem_append_right _ h))))
theorem inX1 : ∀ w ∈ wsX10, w ∈ lw_tbl := fun w h => wsL_law_in w (inlX1 w h)
theorem inlX2 : ∀ w ∈ wsX20, w ∈ wsL_law := fun _ h => List.mem_append_left _ (List.mem_append_left _ (List.mem_append_left _ (List.mem_append_left _ (List.mem_append_left _ (List.mem_append_right _ h)))))
theorem inX2 : ∀ w ∈ wsX20, w ∈ lw_tbl := fun w h => wsL_law_in w (inlX2 w h)
theorem inlX3 : ∀ w ∈ wsX30, w ∈ wsL_law := fun _ h => List.mem_append_left _ (List.mem_append_left _ (List.mem_append_right _ h))
theorem inX3 : ∀ w ∈ wsX30, w ∈ lw_tbl := fun w h => wsL_law_in w (inlX3 w h)
theorem inlX4 : ∀ w ∈ wsX40, w ∈ wsL_law := fun _ h => List.mem_append_left _ (List.mem_append_left _ (List.mem_append_left _ (List.mem_append_left _ (List.mem_append_left _ (List.mem_append_left _ (List.mem_append_left _ (List.mem_append_left _ (List.mem_append_right _ h))))))))
theorem inX4 : ∀ w ∈ wsX40, w ∈ lw_tbl := fun w h => wsL_law_in w (inlX4 w h)
theorem inlX5 : ∀ w ∈ wsX50, w ∈ wsL_law := fun _ h => List.mem_append_left _ (List.mem_append_left _ (List.mem_append_left _ (List.mem_append_left _ (List.mem_append_left _ (List.mem_append_left _ (List.mem_append_left _ (List.mem_append_right _ h)))))))
theorem inX5 : ∀ w ∈ wsX50, w ∈ lw_tbl := fun w h => wsL_law_in w (inlX5 w h)
theorem inlX6 : ∀ w ∈ wsX60, w ∈ wsL_law := fun _ h => List.mem_append_left _ (List.mem_append_right _ h)
theorem inX6 : ∀ w ∈ wsX60, w ∈ lw_tbl := fun w h => wsL_law_in w (inlX6 w h)
theorem inlX7 : ∀ w ∈ wsX70, w ∈ wsL_law := fun _ h => List.mem_append_left _ (List.mem_append_left _ (List.mem_append_left _ (List.mem_append_left _ (List.mem_append_left _ (List.mem_append_left _ (List.mem_append_right _ h))))))
theorem inX7 : ∀ w ∈ wsX70, w ∈ lw_tbl := fun w h => wsL_law_in w (inlX7 w h)
theorem inlX8 : ∀ w ∈ wsX80, w ∈ wsL_law := fun _ h => List.mem_append_left _ (List.mem_append_left _ (List.mem_append_left _ (List.mem_append_left _ (List.mem_append_left _ (List.mem_append_left _ (List.mem_append_left _ (List.mem_append_left _ (List.mem_append_left _ (List.mem_append_left _ (List.mem_append_right _ h))))))))))
theorem inX8 : ∀ w ∈ wsX80, w ∈ lw_tbl := fun w h => wsL_law_in w (inlX8 w h)
theorem inlX9 : ∀ w ∈ wsX90, w ∈ wsL_law := fun _ h => List.mem_append_left _ (List.mem_append_left _ (List.mem_append_left _ (List.mem_append_left _ (List.mem_append_left _ (List.mem_append_left _ (List.mem_append_left _ (List.mem_append_left _ (List.mem_append_left _ (List.mem_append_right _ h)))))))))
theorem inX9 : ∀ w ∈ wsX90, w ∈ lw_tbl := fun w h => wsL_law_in w (inlX9 w h)
theorem inJ9 : ∀ w ∈ wsJ90, w ∈ lw_tbl := by decide +kernel
theorem inJ0 : ∀ w ∈ wsJ00, w ∈ lw_tbl := by decide +kernel
theorem inJ1 : ∀ w ∈ wsJ10, w ∈ lw_tbl := by decide +kernel
theorem inJ2 : ∀ w ∈ wsJ20, w ∈ lw_tbl := by decide +kernel
theorem inJ10 : ∀ w ∈ wsJ100, w ∈ lw_tbl := by decide +kernel
theorem inJ3 : ∀ w ∈ wsJ30, w ∈ lw_tbl := by decide +kernel
theorem dX0_init_0 : decode cX0_init 0 = .ok (.aload_n 0, 1) := by decide +kernel
theorem dX0_init_1 : decode cX0_init 1 = .ok (.invokespecial 3, 3) := by decide +kernel
theorem dX0_init_4 : decode cX0_init 4 = .ok (.aload_n 0, 1) := by decide +kernel
theorem dX0_init_5 : decode cX0_init 5 = .ok (.iconst 0, 1) := by decide +kernel
theorem dX0_init_6 : decode cX0_init 6 = .ok (.putfield 9, 3) := by decide +kernel
theorem dX0_init_9 : decode cX0_init 9 = .ok (.aload_n 0, 1) := by decide +kernel
theorem dX0_init_10 : decode cX0_init 10 = .ok (.lconst 1, 1) := by decide +kernel
theorem dX0_init_11 : decode cX0_init 11 = .ok (.putfield 15, 3) := by decide +kernel
theorem dX0_init_14 : decode cX0_init 14 = .ok (.aload_n 0, 1) := by decide +kernel
theorem dX0_init_15 : decode cX0_init 15 = .ok (.bipush 16, 2) := by decide +kernel
theorem dX0_init_17 : decode cX0_init 17 = .ok (.newarray .long, 2) := by decide +kernel
theorem dX0_init_19 : decode cX0_init 19 = .ok (.putfield 19, 3) := by decide +kernel
theorem dX0_init_22 : decode cX0_init 22 = .ok (.aload_n 0, 1) := by decide +kernel
theorem dX0_init_23 : decode cX0_init 23 = .ok (.bipush 16, 2) := by decide +kernel
theorem dX0_init_25 : decode cX0_init 25 = .ok (.newarray .long, 2) := by decide +kernel
theorem dX0_init_27 : decode cX0_init 27 = .ok (.putfield 23, 3) := by decide +kernel
theorem dX0_init_30 : decode cX0_init 30 = .ok (.return_, 1) := by decide +kernel
theorem dX0_begin_0 : decode cX0_begin 0 = .ok (.aload_n 0, 1) := by decide +kernel
theorem dX0_begin_1 : decode cX0_begin 1 = .ok (.iconst 0, 1) := by decide +kernel
theorem dX0_begin_2 : decode cX0_begin 2 = .ok (.putfield 9, 3) := by decide +kernel
theorem dX0_begin_5 : decode cX0_begin 5 = .ok (.aload_n 0, 1) := by decide +kernel
theorem dX0_begin_6 : decode cX0_begin 6 = .ok (.lconst 1, 1) := by decide +kernel
theorem dX0_begin_7 : decode cX0_begin 7 = .ok (.putfield 15, 3) := by decide +kernel
theorem dX0_begin_10 : decode cX0_begin 10 = .ok (.iconst 0, 1) := by decide +kernel
theorem dX0_begin_11 : decode cX0_begin 11 = .ok (.istore_n 3, 1) := by decide +kernel
theorem dX0_begin_12 : decode cX0_begin 12 = .ok (.iload_n 3, 1) := by decide +kernel
theorem dX0_begin_13 : decode cX0_begin 13 = .ok (.aload_n 0, 1) := by decide +kernel
theorem dX0_begin_14 : decode cX0_begin 14 = .ok (.getfield 19, 3) := by decide +kernel
theorem dX0_begin_17 : decode cX0_begin 17 = .ok (.arraylength, 1) := by decide +kernel
theorem dX0_begin_18 : decode cX0_begin 18 = .ok (.if_icmp .ge 29, 3) := by decide +kernel
theorem dX0_begin_21 : decode cX0_begin 21 = .ok (.aload_n 0, 1) := by decide +kernel
theorem dX0_begin_22 : decode cX0_begin 22 = .ok (.getfield 19, 3) := by decide +kernel
theorem dX0_begin_25 : decode cX0_begin 25 = .ok (.iload_n 3, 1) := by decide +kernel
theorem dX0_begin_26 : decode cX0_begin 26 = .ok (.iload_n 3, 1) := by decide +kernel
theorem dX0_begin_27 : decode cX0_begin 27 = .ok (.iload_n 1, 1) := by decide +kernel
theorem dX0_begin_28 : decode cX0_begin 28 = .ok (.iconst 4, 1) := by decide +kernel
theorem dX0_begin_29 : decode cX0_begin 29 = .ok (.imul, 1) := by decide +kernel
theorem dX0_begin_30 : decode cX0_begin 30 = .ok (.iload_n 2, 1) := by decide +kernel
theorem dX0_begin_31 : decode cX0_begin 31 = .ok (.iadd, 1) := by decide +kernel
theorem dX0_begin_32 : decode cX0_begin 32 = .ok (.if_icmp .ne 7, 3) := by decide +kernel
theorem dX0_begin_35 : decode cX0_begin 35 = .ok (.lconst 1, 1) := by decide +kernel
theorem dX0_begin_36 : decode cX0_begin 36 = .ok (.goto 4, 3) := by decide +kernel
theorem dX0_begin_39 : decode cX0_begin 39 = .ok (.lconst 0, 1) := by decide +kernel
theorem dX0_begin_40 : decode cX0_begin 40 = .ok (.lastore, 1) := by decide +kernel
theorem dX0_begin_41 : decode cX0_begin 41 = .ok (.iinc 3 1, 3) := by decide +kernel
theorem dX0_begin_44 : decode cX0_begin 44 = .ok (.goto (-32), 3) := by decide +kernel
theorem dX0_begin_47 : decode cX0_begin 47 = .ok (.return_, 1) := by decide +kernel
set_option maxRecDepth 20000 in
theorem ggX0_add_X4_ofGoose : GoodIn wsX0_add wsX4_ofGoose := goodIn_r _ [14, 15, 16, 114, 115, 116, 117, 118, 119, 120, 121, 122, 123, 124, 125, 126] (by decide +kernel) (by decide +kernel)
set_option maxRecDepth 20000 in
theorem gX0_add_X4_ofGoose : GoodIn wsX0_add (wsV RX0 26 RX4 yX4_ofGoose wsX4_ofGoose) := goodIn_app (goodIn_of _ (by decide +kernel)) ggX0_add_X4_ofGoose
set_option maxRecDepth 20000 in
theorem ggX0_add_X8_halvesOf : GoodIn wsX0_add wsX8_halvesOf := goodIn_r _ [19] (by decide +kernel) (by decide +kernel)
set_option maxRecDepth 20000 in
theorem gX0_add_X8_halvesOf_n32 : GoodIn wsX0_add (wsX8_halvesOf) := ggX0_add_X8_halvesOf
set_option maxRecDepth 20000 in
theorem ggX0_add_X1_isTrue : GoodIn wsX0_add wsX1_isTrue := goodIn_r _ [24, 25, 26, 27, 23, 28, 29, 30, 31, 11, 12, 13, 14, 15, 16, 32, 33, 34, 35, 36, 37, 38, 39, 40, 41, 42, 43, 44, 45, 46, 47, 48, 49, 50, 51, 52, 53, 54, 55, 56, 57, 58, 59, 60, 61, 62, 63, 64, 65, 66, 67, 68, 69, 70, 71, 72, 73, 74, 75, 76, 77, 78, 79, 80, 81, 82, 83, 84, 85, 86, 87, 88, 89, 90, 91, 92, 93, 94, 127, 128, 129, 130, 114, 115, 116, 117, 118, 119, 120, 121, 122, 123, 124, 125, 126, 131, 132, 133, 134, 135, 136] (by decide +kernel) (by decide +kernel)
set_option maxRecDepth 20000 in
theorem gX0_add_X1_isTrue : GoodIn wsX0_add (wsV RX0 36 RX1 yX1_isTrue wsX1_isTrue) := goodIn_app (goodIn_of _ (by decide +kernel)) ggX0_add_X1_isTrue
set_option maxRecDepth 20000 in
theorem ggX0_add_X1_lookAtTraveller : GoodIn wsX0_add wsX1_lookAtTraveller := goodIn_r _ [98, 25, 26, 27, 23, 28, 29, 30, 31, 11, 12, 13, 14, 15, 16, 99, 100, 101, 102, 103, 104, 105, 106, 107, 108, 127, 128, 129, 130, 114, 115, 116, 117, 118, 119, 120, 121, 122, 123, 124, 125, 126] (by decide +kernel) (by decide +kernel)
set_option maxRecDepth 20000 in
theorem gX0_add_X1_lookAtTraveller : GoodIn wsX0_add (wsV RX0 42 RX1 yX1_lookAtTraveller wsX1_lookAtTraveller) := goodIn_app (goodIn_of _ (by decide +kernel)) ggX0_add_X1_lookAtTraveller
set_option maxRecDepth 20000 in
theorem ggX0_add_X1_rule : GoodIn wsX0_add wsX1_rule := goodIn_r _ [35, 36, 37, 38, 39, 40, 41, 42, 43, 44, 45, 46, 47, 23, 48, 49, 50, 51, 52, 53, 54, 55, 56, 57, 58, 59, 29, 60, 61, 62, 63, 64, 65, 66, 67, 68, 69, 70, 71, 72, 73, 74, 75, 76, 77, 78, 79, 80, 81, 82, 83, 84, 85, 86, 87, 88, 89, 90, 91, 92, 93, 94, 114, 115, 116, 117, 118, 119, 120, 121, 122, 123, 124, 125, 126, 127, 128, 129, 130, 131, 132, 133, 134, 135, 136] (by decide +kernel) (by decide +kernel)
set_option maxRecDepth 20000 in
theorem gX0_add_X1_rule : GoodIn wsX0_add (wsV RX0 46 RX1 yX1_rule wsX1_rule) := goodIn_app (goodIn_of _ (by decide +kernel)) ggX0_add_X1_rule
theorem dX0_add_0 : decode cX0_add 0 = .ok (.aload_n 0, 1) := by decide +kernel
theorem dX0_add_1 : decode cX0_add 1 = .ok (.dup, 1) := by decide +kernel
theorem dX0_add_2 : decode cX0_add 2 = .ok (.getfield 9, 3) := by decide +kernel
theorem dX0_add_5 : decode cX0_add 5 = .ok (.iconst 1, 1) := by decide +kernel
theorem dX0_add_6 : decode cX0_add 6 = .ok (.iadd, 1) := by decide +kernel
theorem dX0_add_7 : decode cX0_add 7 = .ok (.putfield 9, 3) := by decide +kernel
theorem dX0_add_10 : decode cX0_add 10 = .ok (.aload_n 0, 1) := by decide +kernel
theorem dX0_add_11 : decode cX0_add 11 = .ok (.getfield 9, 3) := by decide +kernel
theorem dX0_add_14 : decode cX0_add 14 = .ok (.bipush 8, 2) := by decide +kernel
theorem dX0_add_16 : decode cX0_add 16 = .ok (.if_icmp .le 4, 3) := by decide +kernel
theorem dX0_add_19 : decode cX0_add 19 = .ok (.return_, 1) := by decide +kernel
theorem dX0_add_20 : decode cX0_add 20 = .ok (.aload_n 1, 1) := by decide +kernel
theorem dX0_add_21 : decode cX0_add 21 = .ok (.iload_n 3, 1) := by decide +kernel
theorem dX0_add_22 : decode cX0_add 22 = .ok (.iconst 3, 1) := by decide +kernel
theorem dX0_add_23 : decode cX0_add 23 = .ok (.invokevirtual 26, 3) := by decide +kernel
theorem dX0_add_26 : decode cX0_add 26 = .ok (.invokestatic 32, 3) := by decide +kernel
theorem dX0_add_29 : decode cX0_add 29 = .ok (.istore 4, 2) := by decide +kernel
theorem dX0_add_31 : decode cX0_add 31 = .ok (.aload_n 2, 1) := by decide +kernel
theorem dX0_add_32 : decode cX0_add 32 = .ok (.aload_n 1, 1) := by decide +kernel
theorem dX0_add_33 : decode cX0_add 33 = .ok (.iload_n 3, 1) := by decide +kernel
theorem dX0_add_34 : decode cX0_add 34 = .ok (.invokevirtual 36, 3) := by decide +kernel
theorem dX0_add_37 : decode cX0_add 37 = .ok (.ifCond .eq 8, 3) := by decide +kernel
theorem dX0_add_40 : decode cX0_add 40 = .ok (.iload 4, 2) := by decide +kernel
theorem dX0_add_42 : decode cX0_add 42 = .ok (.goto 4, 3) := by decide +kernel
theorem dX0_add_45 : decode cX0_add 45 = .ok (.iconst 0, 1) := by decide +kernel
theorem dX0_add_46 : decode cX0_add 46 = .ok (.istore 5, 2) := by decide +kernel
theorem dX0_add_48 : decode cX0_add 48 = .ok (.aload_n 2, 1) := by decide +kernel
theorem dX0_add_49 : decode cX0_add 49 = .ok (.aload_n 1, 1) := by decide +kernel
theorem dX0_add_50 : decode cX0_add 50 = .ok (.iload_n 3, 1) := by decide +kernel
theorem dX0_add_51 : decode cX0_add 51 = .ok (.invokevirtual 42, 3) := by decide +kernel
theorem dX0_add_54 : decode cX0_add 54 = .ok (.aload_n 2, 1) := by decide +kernel
theorem dX0_add_55 : decode cX0_add 55 = .ok (.aload_n 1, 1) := by decide +kernel
theorem dX0_add_56 : decode cX0_add 56 = .ok (.iconst 0, 1) := by decide +kernel
theorem dX0_add_57 : decode cX0_add 57 = .ok (.invokevirtual 46, 3) := by decide +kernel
theorem dX0_add_60 : decode cX0_add 60 = .ok (.istore 6, 2) := by decide +kernel
theorem dX0_add_62 : decode cX0_add 62 = .ok (.iload 6, 2) := by decide +kernel
theorem dX0_add_64 : decode cX0_add 64 = .ok (.aload_n 2, 1) := by decide +kernel
theorem dX0_add_65 : decode cX0_add 65 = .ok (.aload_n 1, 1) := by decide +kernel
theorem dX0_add_66 : decode cX0_add 66 = .ok (.iconst 1, 1) := by decide +kernel
theorem dX0_add_67 : decode cX0_add 67 = .ok (.invokevirtual 46, 3) := by decide +kernel
theorem dX0_add_70 : decode cX0_add 70 = .ok (.imul, 1) := by decide +kernel
theorem dX0_add_71 : decode cX0_add 71 = .ok (.istore 7, 2) := by decide +kernel
theorem dX0_add_73 : decode cX0_add 73 = .ok (.bipush 10, 2) := by decide +kernel
theorem dX0_add_75 : decode cX0_add 75 = .ok (.iload 6, 2) := by decide +kernel
theorem dX0_add_77 : decode cX0_add 77 = .ok (.isub, 1) := by decide +kernel
theorem dX0_add_78 : decode cX0_add 78 = .ok (.bipush 10, 2) := by decide +kernel
theorem dX0_add_80 : decode cX0_add 80 = .ok (.imul, 1) := by decide +kernel
theorem dX0_add_81 : decode cX0_add 81 = .ok (.istore 8, 2) := by decide +kernel
theorem dX0_add_83 : decode cX0_add 83 = .ok (.iconst 0, 1) := by decide +kernel
theorem dX0_add_84 : decode cX0_add 84 = .ok (.istore 9, 2) := by decide +kernel
theorem dX0_add_86 : decode cX0_add 86 = .ok (.iload 9, 2) := by decide +kernel
theorem dX0_add_88 : decode cX0_add 88 = .ok (.aload_n 0, 1) := by decide +kernel
theorem dX0_add_89 : decode cX0_add 89 = .ok (.getfield 23, 3) := by decide +kernel
theorem dX0_add_92 : decode cX0_add 92 = .ok (.arraylength, 1) := by decide +kernel
theorem dX0_add_93 : decode cX0_add 93 = .ok (.if_icmp .ge 33, 3) := by decide +kernel
theorem dX0_add_96 : decode cX0_add 96 = .ok (.aload_n 0, 1) := by decide +kernel
theorem dX0_add_97 : decode cX0_add 97 = .ok (.getfield 23, 3) := by decide +kernel
theorem dX0_add_100 : decode cX0_add 100 = .ok (.iload 9, 2) := by decide +kernel
theorem dX0_add_102 : decode cX0_add 102 = .ok (.aload_n 0, 1) := by decide +kernel
theorem dX0_add_103 : decode cX0_add 103 = .ok (.getfield 19, 3) := by decide +kernel
theorem dX0_add_106 : decode cX0_add 106 = .ok (.iload 9, 2) := by decide +kernel
theorem dX0_add_108 : decode cX0_add 108 = .ok (.laload, 1) := by decide +kernel
theorem dX0_add_109 : decode cX0_add 109 = .ok (.bipush 100, 2) := by decide +kernel
theorem dX0_add_111 : decode cX0_add 111 = .ok (.iload 8, 2) := by decide +kernel
theorem dX0_add_113 : decode cX0_add 113 = .ok (.isub, 1) := by decide +kernel
theorem dX0_add_114 : decode cX0_add 114 = .ok (.iload 7, 2) := by decide +kernel
theorem dX0_add_116 : decode cX0_add 116 = .ok (.isub, 1) := by decide +kernel
theorem dX0_add_117 : decode cX0_add 117 = .ok (.i2l, 1) := by decide +kernel
theorem dX0_add_118 : decode cX0_add 118 = .ok (.lmul, 1) := by decide +kernel
theorem dX0_add_119 : decode cX0_add 119 = .ok (.lastore, 1) := by decide +kernel
theorem dX0_add_120 : decode cX0_add 120 = .ok (.iinc 9 1, 3) := by decide +kernel
theorem dX0_add_123 : decode cX0_add 123 = .ok (.goto (-37), 3) := by decide +kernel
theorem dX0_add_126 : decode cX0_add 126 = .ok (.iconst 0, 1) := by decide +kernel
theorem dX0_add_127 : decode cX0_add 127 = .ok (.istore 9, 2) := by decide +kernel
theorem dX0_add_129 : decode cX0_add 129 = .ok (.iload 9, 2) := by decide +kernel
theorem dX0_add_131 : decode cX0_add 131 = .ok (.aload_n 0, 1) := by decide +kernel
theorem dX0_add_132 : decode cX0_add 132 = .ok (.getfield 19, 3) := by decide +kernel
theorem dX0_add_135 : decode cX0_add 135 = .ok (.arraylength, 1) := by decide +kernel
theorem dX0_add_136 : decode cX0_add 136 = .ok (.if_icmp .ge 59, 3) := by decide +kernel
theorem dX0_add_139 : decode cX0_add 139 = .ok (.aload_n 0, 1) := by decide +kernel
theorem dX0_add_140 : decode cX0_add 140 = .ok (.getfield 23, 3) := by decide +kernel
theorem dX0_add_143 : decode cX0_add 143 = .ok (.iload 9, 2) := by decide +kernel
theorem dX0_add_145 : decode cX0_add 145 = .ok (.iload 5, 2) := by decide +kernel
theorem dX0_add_147 : decode cX0_add 147 = .ok (.iconst 4, 1) := by decide +kernel
theorem dX0_add_148 : decode cX0_add 148 = .ok (.imul, 1) := by decide +kernel
theorem dX0_add_149 : decode cX0_add 149 = .ok (.ior, 1) := by decide +kernel
theorem dX0_add_150 : decode cX0_add 150 = .ok (.dup2, 1) := by decide +kernel
theorem dX0_add_151 : decode cX0_add 151 = .ok (.laload, 1) := by decide +kernel
theorem dX0_add_152 : decode cX0_add 152 = .ok (.aload_n 0, 1) := by decide +kernel
theorem dX0_add_153 : decode cX0_add 153 = .ok (.getfield 19, 3) := by decide +kernel
theorem dX0_add_156 : decode cX0_add 156 = .ok (.iload 9, 2) := by decide +kernel
theorem dX0_add_158 : decode cX0_add 158 = .ok (.laload, 1) := by decide +kernel
theorem dX0_add_159 : decode cX0_add 159 = .ok (.iload 8, 2) := by decide +kernel
theorem dX0_add_161 : decode cX0_add 161 = .ok (.i2l, 1) := by decide +kernel
theorem dX0_add_162 : decode cX0_add 162 = .ok (.lmul, 1) := by decide +kernel
theorem dX0_add_163 : decode cX0_add 163 = .ok (.ladd, 1) := by decide +kernel
theorem dX0_add_164 : decode cX0_add 164 = .ok (.lastore, 1) := by decide +kernel
theorem dX0_add_165 : decode cX0_add 165 = .ok (.aload_n 0, 1) := by decide +kernel
theorem dX0_add_166 : decode cX0_add 166 = .ok (.getfield 23, 3) := by decide +kernel
theorem dX0_add_169 : decode cX0_add 169 = .ok (.iload 9, 2) := by decide +kernel
theorem dX0_add_171 : decode cX0_add 171 = .ok (.iload 4, 2) := by decide +kernel
theorem dX0_add_173 : decode cX0_add 173 = .ok (.ior, 1) := by decide +kernel
theorem dX0_add_174 : decode cX0_add 174 = .ok (.dup2, 1) := by decide +kernel
theorem dX0_add_175 : decode cX0_add 175 = .ok (.laload, 1) := by decide +kernel
theorem dX0_add_176 : decode cX0_add 176 = .ok (.aload_n 0, 1) := by decide +kernel
theorem dX0_add_177 : decode cX0_add 177 = .ok (.getfield 19, 3) := by decide +kernel
theorem dX0_add_180 : decode cX0_add 180 = .ok (.iload 9, 2) := by decide +kernel
theorem dX0_add_182 : decode cX0_add 182 = .ok (.laload, 1) := by decide +kernel
theorem dX0_add_183 : decode cX0_add 183 = .ok (.iload 7, 2) := by decide +kernel
theorem dX0_add_185 : decode cX0_add 185 = .ok (.i2l, 1) := by decide +kernel
theorem dX0_add_186 : decode cX0_add 186 = .ok (.lmul, 1) := by decide +kernel
theorem dX0_add_187 : decode cX0_add 187 = .ok (.ladd, 1) := by decide +kernel
theorem dX0_add_188 : decode cX0_add 188 = .ok (.lastore, 1) := by decide +kernel
theorem dX0_add_189 : decode cX0_add 189 = .ok (.iinc 9 1, 3) := by decide +kernel
theorem dX0_add_192 : decode cX0_add 192 = .ok (.goto (-63), 3) := by decide +kernel
theorem dX0_add_195 : decode cX0_add 195 = .ok (.aload_n 0, 1) := by decide +kernel
theorem dX0_add_196 : decode cX0_add 196 = .ok (.getfield 23, 3) := by decide +kernel
theorem dX0_add_199 : decode cX0_add 199 = .ok (.iconst 0, 1) := by decide +kernel
theorem dX0_add_200 : decode cX0_add 200 = .ok (.aload_n 0, 1) := by decide +kernel
theorem dX0_add_201 : decode cX0_add 201 = .ok (.getfield 19, 3) := by decide +kernel
theorem dX0_add_204 : decode cX0_add 204 = .ok (.iconst 0, 1) := by decide +kernel
theorem dX0_add_205 : decode cX0_add 205 = .ok (.aload_n 0, 1) := by decide +kernel
theorem dX0_add_206 : decode cX0_add 206 = .ok (.getfield 19, 3) := by decide +kernel
theorem dX0_add_209 : decode cX0_add 209 = .ok (.arraylength, 1) := by decide +kernel
theorem dX0_add_210 : decode cX0_add 210 = .ok (.invokestatic 50, 3) := by decide +kernel
theorem dX0_add_213 : decode cX0_add 213 = .ok (.aload_n 0, 1) := by decide +kernel
theorem dX0_add_214 : decode cX0_add 214 = .ok (.dup, 1) := by decide +kernel
theorem dX0_add_215 : decode cX0_add 215 = .ok (.getfield 15, 3) := by decide +kernel
theorem dX0_add_218 : decode cX0_add 218 = .ok (.ldc2_w 56, 3) := by decide +kernel
theorem dX0_add_221 : decode cX0_add 221 = .ok (.lmul, 1) := by decide +kernel
theorem dX0_add_222 : decode cX0_add 222 = .ok (.putfield 15, 3) := by decide +kernel
theorem dX0_add_225 : decode cX0_add 225 = .ok (.return_, 1) := by decide +kernel
theorem dX0_upper_0 : decode cX0_upper 0 = .ok (.lconst 0, 1) := by decide +kernel
theorem dX0_upper_1 : decode cX0_upper 1 = .ok (.lstore_n 2, 1) := by decide +kernel
theorem dX0_upper_2 : decode cX0_upper 2 = .ok (.iconst 0, 1) := by decide +kernel
theorem dX0_upper_3 : decode cX0_upper 3 = .ok (.istore 4, 2) := by decide +kernel
theorem dX0_upper_5 : decode cX0_upper 5 = .ok (.iload 4, 2) := by decide +kernel
theorem dX0_upper_7 : decode cX0_upper 7 = .ok (.aload_n 0, 1) := by decide +kernel
theorem dX0_upper_8 : decode cX0_upper 8 = .ok (.getfield 19, 3) := by decide +kernel
theorem dX0_upper_11 : decode cX0_upper 11 = .ok (.arraylength, 1) := by decide +kernel
theorem dX0_upper_12 : decode cX0_upper 12 = .ok (.if_icmp .ge 84, 3) := by decide +kernel
theorem dX0_upper_15 : decode cX0_upper 15 = .ok (.iload 4, 2) := by decide +kernel
theorem dX0_upper_17 : decode cX0_upper 17 = .ok (.iconst 4, 1) := by decide +kernel
theorem dX0_upper_18 : decode cX0_upper 18 = .ok (.idiv, 1) := by decide +kernel
theorem dX0_upper_19 : decode cX0_upper 19 = .ok (.iconst 3, 1) := by decide +kernel
theorem dX0_upper_20 : decode cX0_upper 20 = .ok (.if_icmp .ne 7, 3) := by decide +kernel
theorem dX0_upper_23 : decode cX0_upper 23 = .ok (.iconst 1, 1) := by decide +kernel
theorem dX0_upper_24 : decode cX0_upper 24 = .ok (.goto 4, 3) := by decide +kernel
theorem dX0_upper_27 : decode cX0_upper 27 = .ok (.iconst 0, 1) := by decide +kernel
theorem dX0_upper_28 : decode cX0_upper 28 = .ok (.istore 5, 2) := by decide +kernel
theorem dX0_upper_30 : decode cX0_upper 30 = .ok (.iload 4, 2) := by decide +kernel
theorem dX0_upper_32 : decode cX0_upper 32 = .ok (.iconst 4, 1) := by decide +kernel
theorem dX0_upper_33 : decode cX0_upper 33 = .ok (.irem, 1) := by decide +kernel
theorem dX0_upper_34 : decode cX0_upper 34 = .ok (.iconst 3, 1) := by decide +kernel
theorem dX0_upper_35 : decode cX0_upper 35 = .ok (.if_icmp .ne 7, 3) := by decide +kernel
theorem dX0_upper_38 : decode cX0_upper 38 = .ok (.iconst 1, 1) := by decide +kernel
theorem dX0_upper_39 : decode cX0_upper 39 = .ok (.goto 4, 3) := by decide +kernel
theorem dX0_upper_42 : decode cX0_upper 42 = .ok (.iconst 0, 1) := by decide +kernel
theorem dX0_upper_43 : decode cX0_upper 43 = .ok (.istore 6, 2) := by decide +kernel
theorem dX0_upper_45 : decode cX0_upper 45 = .ok (.iload_n 1, 1) := by decide +kernel
theorem dX0_upper_46 : decode cX0_upper 46 = .ok (.ifCond .ne 11, 3) := by decide +kernel
theorem dX0_upper_49 : decode cX0_upper 49 = .ok (.iload 5, 2) := by decide +kernel
theorem dX0_upper_51 : decode cX0_upper 51 = .ok (.ifCond .eq 39, 3) := by decide +kernel
theorem dX0_upper_54 : decode cX0_upper 54 = .ok (.goto 26, 3) := by decide +kernel
theorem dX0_upper_57 : decode cX0_upper 57 = .ok (.iload_n 1, 1) := by decide +kernel
theorem dX0_upper_58 : decode cX0_upper 58 = .ok (.iconst 1, 1) := by decide +kernel
theorem dX0_upper_59 : decode cX0_upper 59 = .ok (.if_icmp .ne 11, 3) := by decide +kernel
theorem dX0_upper_62 : decode cX0_upper 62 = .ok (.iload 6, 2) := by decide +kernel
theorem dX0_upper_64 : decode cX0_upper 64 = .ok (.ifCond .eq 26, 3) := by decide +kernel
theorem dX0_upper_67 : decode cX0_upper 67 = .ok (.goto 13, 3) := by decide +kernel
theorem dX0_upper_70 : decode cX0_upper 70 = .ok (.iload 5, 2) := by decide +kernel
theorem dX0_upper_72 : decode cX0_upper 72 = .ok (.ifCond .eq 18, 3) := by decide +kernel
theorem dX0_upper_75 : decode cX0_upper 75 = .ok (.iload 6, 2) := by decide +kernel
theorem dX0_upper_77 : decode cX0_upper 77 = .ok (.ifCond .ne 13, 3) := by decide +kernel
theorem dX0_upper_80 : decode cX0_upper 80 = .ok (.lload_n 2, 1) := by decide +kernel
theorem dX0_upper_81 : decode cX0_upper 81 = .ok (.aload_n 0, 1) := by decide +kernel
theorem dX0_upper_82 : decode cX0_upper 82 = .ok (.getfield 19, 3) := by decide +kernel
theorem dX0_upper_85 : decode cX0_upper 85 = .ok (.iload 4, 2) := by decide +kernel
theorem dX0_upper_87 : decode cX0_upper 87 = .ok (.laload, 1) := by decide +kernel
theorem dX0_upper_88 : decode cX0_upper 88 = .ok (.ladd, 1) := by decide +kernel
theorem dX0_upper_89 : decode cX0_upper 89 = .ok (.lstore_n 2, 1) := by decide +kernel
theorem dX0_upper_90 : decode cX0_upper 90 = .ok (.iinc 4 1, 3) := by decide +kernel
theorem dX0_upper_93 : decode cX0_upper 93 = .ok (.goto (-88), 3) := by decide +kernel
theorem dX0_upper_96 : decode cX0_upper 96 = .ok (.lload_n 2, 1) := by decide +kernel
theorem dX0_upper_97 : decode cX0_upper 97 = .ok (.lreturn, 1) := by decide +kernel
set_option maxRecDepth 20000 in
theorem ggX1_init_X6_init : GoodIn wsX1_init wsX6_init := goodIn_r _ [13, 14, 2, 3, 6, 15, 16, 17, 18, 19, 20, 25, 26, 27, 28, 29, 30] (by decide +kernel) (by decide +kernel)
set_option maxRecDepth 20000 in
theorem gX1_init_X6_init_n28 : GoodIn wsX1_init (wsX6_init) := ggX1_init_X6_init
theorem dX1_init_0 : decode cX1_init 0 = .ok (.aload_n 0, 1) := by decide +kernel
theorem dX1_init_1 : decode cX1_init 1 = .ok (.invokespecial 3, 3) := by decide +kernel
theorem dX1_init_4 : decode cX1_init 4 = .ok (.aload_n 0, 1) := by decide +kernel
theorem dX1_init_5 : decode cX1_init 5 = .ok (.iconst 4, 1) := by decide +kernel
theorem dX1_init_6 : decode cX1_init 6 = .ok (.anewarray 9, 3) := by decide +kernel
theorem dX1_init_9 : decode cX1_init 9 = .ok (.putfield 11, 3) := by decide +kernel
theorem dX1_init_12 : decode cX1_init 12 = .ok (.aload_n 0, 1) := by decide +kernel
theorem dX1_init_13 : decode cX1_init 13 = .ok (.bipush 9, 2) := by decide +kernel
theorem dX1_init_15 : decode cX1_init 15 = .ok (.newarray .int, 2) := by decide +kernel
theorem dX1_init_17 : decode cX1_init 17 = .ok (.putfield 17, 3) := by decide +kernel
theorem dX1_init_20 : decode cX1_init 20 = .ok (.aload_n 0, 1) := by decide +kernel
theorem dX1_init_21 : decode cX1_init 21 = .ok (.bipush 40, 2) := by decide +kernel
theorem dX1_init_23 : decode cX1_init 23 = .ok (.newarray .int, 2) := by decide +kernel
theorem dX1_init_25 : decode cX1_init 25 = .ok (.putfield 21, 3) := by decide +kernel
theorem dX1_init_28 : decode cX1_init 28 = .ok (.aload_n 0, 1) := by decide +kernel
theorem dX1_init_29 : decode cX1_init 29 = .ok (.iconst 0, 1) := by decide +kernel
theorem dX1_init_30 : decode cX1_init 30 = .ok (.putfield 24, 3) := by decide +kernel
theorem dX1_init_33 : decode cX1_init 33 = .ok (.iconst 0, 1) := by decide +kernel
theorem dX1_init_34 : decode cX1_init 34 = .ok (.istore_n 1, 1) := by decide +kernel
theorem dX1_init_35 : decode cX1_init 35 = .ok (.iload_n 1, 1) := by decide +kernel
theorem dX1_init_36 : decode cX1_init 36 = .ok (.iconst 4, 1) := by decide +kernel
theorem dX1_init_37 : decode cX1_init 37 = .ok (.if_icmp .ge 22, 3) := by decide +kernel
theorem dX1_init_40 : decode cX1_init 40 = .ok (.aload_n 0, 1) := by decide +kernel
theorem dX1_init_41 : decode cX1_init 41 = .ok (.getfield 11, 3) := by decide +kernel
theorem dX1_init_44 : decode cX1_init 44 = .ok (.iload_n 1, 1) := by decide +kernel
theorem dX1_init_45 : decode cX1_init 45 = .ok (.new 9, 3) := by decide +kernel
theorem dX1_init_48 : decode cX1_init 48 = .ok (.dup, 1) := by decide +kernel
theorem dX1_init_49 : decode cX1_init 49 = .ok (.invokespecial 28, 3) := by decide +kernel
theorem dX1_init_52 : decode cX1_init 52 = .ok (.aastore, 1) := by decide +kernel
theorem dX1_init_53 : decode cX1_init 53 = .ok (.iinc 1 1, 3) := by decide +kernel
theorem dX1_init_56 : decode cX1_init 56 = .ok (.goto (-21), 3) := by decide +kernel
theorem dX1_init_59 : decode cX1_init 59 = .ok (.return_, 1) := by decide +kernel
theorem dX1_textOf_0 : decode cX1_textOf 0 = .ok (.iload_n 1, 1) := by decide +kernel
theorem dX1_textOf_1 : decode cX1_textOf 1 = .ok (.ifCond .lt 17, 3) := by decide +kernel
theorem dX1_textOf_4 : decode cX1_textOf 4 = .ok (.iload_n 1, 1) := by decide +kernel
theorem dX1_textOf_5 : decode cX1_textOf 5 = .ok (.iconst 4, 1) := by decide +kernel
theorem dX1_textOf_6 : decode cX1_textOf 6 = .ok (.if_icmp .ge 12, 3) := by decide +kernel
theorem dX1_textOf_9 : decode cX1_textOf 9 = .ok (.aload_n 0, 1) := by decide +kernel
theorem dX1_textOf_10 : decode cX1_textOf 10 = .ok (.getfield 11, 3) := by decide +kernel
theorem dX1_textOf_13 : decode cX1_textOf 13 = .ok (.iload_n 1, 1) := by decide +kernel
theorem dX1_textOf_14 : decode cX1_textOf 14 = .ok (.aaload, 1) := by decide +kernel
theorem dX1_textOf_15 : decode cX1_textOf 15 = .ok (.goto 4, 3) := by decide +kernel
theorem dX1_textOf_18 : decode cX1_textOf 18 = .ok (.aconst_null, 1) := by decide +kernel
theorem dX1_textOf_19 : decode cX1_textOf 19 = .ok (.areturn, 1) := by decide +kernel
set_option maxRecDepth 20000 in
theorem ggX1_lookAt_X4_ofGoose : GoodIn wsX1_lookAt wsX4_ofGoose := goodIn_r _ [7, 8, 9, 14, 15, 16, 17, 18, 19, 20, 21, 22, 23, 24, 25, 26] (by decide +kernel) (by decide +kernel)
set_option maxRecDepth 20000 in
theorem gX1_lookAt_X4_ofGoose : GoodIn wsX1_lookAt (wsV RX1 29 RX4 yX4_ofGoose wsX4_ofGoose) := goodIn_app (goodIn_of _ (by decide +kernel)) ggX1_lookAt_X4_ofGoose
theorem dX1_lookAt_0 : decode cX1_lookAt 0 = .ok (.aload_n 0, 1) := by decide +kernel
theorem dX1_lookAt_1 : decode cX1_lookAt 1 = .ok (.getfield 17, 3) := by decide +kernel
theorem dX1_lookAt_4 : decode cX1_lookAt 4 = .ok (.iconst 0, 1) := by decide +kernel
theorem dX1_lookAt_5 : decode cX1_lookAt 5 = .ok (.iload_n 2, 1) := by decide +kernel
theorem dX1_lookAt_6 : decode cX1_lookAt 6 = .ok (.iastore, 1) := by decide +kernel
theorem dX1_lookAt_7 : decode cX1_lookAt 7 = .ok (.aload_n 0, 1) := by decide +kernel
theorem dX1_lookAt_8 : decode cX1_lookAt 8 = .ok (.getfield 17, 3) := by decide +kernel
theorem dX1_lookAt_11 : decode cX1_lookAt 11 = .ok (.iconst 1, 1) := by decide +kernel
theorem dX1_lookAt_12 : decode cX1_lookAt 12 = .ok (.aload_n 1, 1) := by decide +kernel
theorem dX1_lookAt_13 : decode cX1_lookAt 13 = .ok (.iload_n 2, 1) := by decide +kernel
theorem dX1_lookAt_14 : decode cX1_lookAt 14 = .ok (.iconst 0, 1) := by decide +kernel
theorem dX1_lookAt_15 : decode cX1_lookAt 15 = .ok (.invokevirtual 29, 3) := by decide +kernel
theorem dX1_lookAt_18 : decode cX1_lookAt 18 = .ok (.iastore, 1) := by decide +kernel
theorem dX1_lookAt_19 : decode cX1_lookAt 19 = .ok (.aload_n 0, 1) := by decide +kernel
theorem dX1_lookAt_20 : decode cX1_lookAt 20 = .ok (.getfield 17, 3) := by decide +kernel
theorem dX1_lookAt_23 : decode cX1_lookAt 23 = .ok (.iconst 2, 1) := by decide +kernel
theorem dX1_lookAt_24 : decode cX1_lookAt 24 = .ok (.aload_n 1, 1) := by decide +kernel
theorem dX1_lookAt_25 : decode cX1_lookAt 25 = .ok (.iload_n 2, 1) := by decide +kernel
theorem dX1_lookAt_26 : decode cX1_lookAt 26 = .ok (.iconst 1, 1) := by decide +kernel
theorem dX1_lookAt_27 : decode cX1_lookAt 27 = .ok (.invokevirtual 29, 3) := by decide +kernel
theorem dX1_lookAt_30 : decode cX1_lookAt 30 = .ok (.iastore, 1) := by decide +kernel
theorem dX1_lookAt_31 : decode cX1_lookAt 31 = .ok (.aload_n 0, 1) := by decide +kernel
theorem dX1_lookAt_32 : decode cX1_lookAt 32 = .ok (.getfield 17, 3) := by decide +kernel
theorem dX1_lookAt_35 : decode cX1_lookAt 35 = .ok (.iconst 3, 1) := by decide +kernel
theorem dX1_lookAt_36 : decode cX1_lookAt 36 = .ok (.aload_n 1, 1) := by decide +kernel
theorem dX1_lookAt_37 : decode cX1_lookAt 37 = .ok (.iload_n 2, 1) := by decide +kernel
theorem dX1_lookAt_38 : decode cX1_lookAt 38 = .ok (.iconst 2, 1) := by decide +kernel
theorem dX1_lookAt_39 : decode cX1_lookAt 39 = .ok (.invokevirtual 29, 3) := by decide +kernel
theorem dX1_lookAt_42 : decode cX1_lookAt 42 = .ok (.iastore, 1) := by decide +kernel
theorem dX1_lookAt_43 : decode cX1_lookAt 43 = .ok (.aload_n 0, 1) := by decide +kernel
theorem dX1_lookAt_44 : decode cX1_lookAt 44 = .ok (.getfield 17, 3) := by decide +kernel
theorem dX1_lookAt_47 : decode cX1_lookAt 47 = .ok (.iconst 4, 1) := by decide +kernel
theorem dX1_lookAt_48 : decode cX1_lookAt 48 = .ok (.aload_n 1, 1) := by decide +kernel
theorem dX1_lookAt_49 : decode cX1_lookAt 49 = .ok (.iload_n 2, 1) := by decide +kernel
theorem dX1_lookAt_50 : decode cX1_lookAt 50 = .ok (.iconst 3, 1) := by decide +kernel
theorem dX1_lookAt_51 : decode cX1_lookAt 51 = .ok (.invokevirtual 29, 3) := by decide +kernel
theorem dX1_lookAt_54 : decode cX1_lookAt 54 = .ok (.iastore, 1) := by decide +kernel
theorem dX1_lookAt_55 : decode cX1_lookAt 55 = .ok (.aload_n 0, 1) := by decide +kernel
theorem dX1_lookAt_56 : decode cX1_lookAt 56 = .ok (.getfield 17, 3) := by decide +kernel
theorem dX1_lookAt_59 : decode cX1_lookAt 59 = .ok (.iconst 5, 1) := by decide +kernel
theorem dX1_lookAt_60 : decode cX1_lookAt 60 = .ok (.aload_n 1, 1) := by decide +kernel
theorem dX1_lookAt_61 : decode cX1_lookAt 61 = .ok (.getfield 35, 3) := by decide +kernel
theorem dX1_lookAt_64 : decode cX1_lookAt 64 = .ok (.iastore, 1) := by decide +kernel
theorem dX1_lookAt_65 : decode cX1_lookAt 65 = .ok (.return_, 1) := by decide +kernel
set_option maxRecDepth 20000 in
theorem ggX1_lookAtFilled_X1_lookAt : GoodIn wsX1_lookAtFilled wsX1_lookAt := goodIn_r _ [6, 1, 7, 8, 9, 10, 11, 12, 13, 14, 15, 16, 17, 18, 19, 20, 21, 22, 23, 24, 25, 26, 27, 28, 29, 30, 31] (by decide +kernel) (by decide +kernel)
set_option maxRecDepth 20000 in
theorem gX1_lookAtFilled_X1_lookAt : GoodIn wsX1_lookAtFilled (wsV RX1 38 RX1 yX1_lookAt wsX1_lookAt) := goodIn_app (goodIn_of _ (by decide +kernel)) ggX1_lookAtFilled_X1_lookAt
theorem dX1_lookAtFilled_0 : decode cX1_lookAtFilled 0 = .ok (.aload_n 0, 1) := by decide +kernel
theorem dX1_lookAtFilled_1 : decode cX1_lookAtFilled 1 = .ok (.aload_n 1, 1) := by decide +kernel
theorem dX1_lookAtFilled_2 : decode cX1_lookAtFilled 2 = .ok (.iload_n 2, 1) := by decide +kernel
theorem dX1_lookAtFilled_3 : decode cX1_lookAtFilled 3 = .ok (.invokevirtual 38, 3) := by decide +kernel
theorem dX1_lookAtFilled_6 : decode cX1_lookAtFilled 6 = .ok (.aload_n 0, 1) := by decide +kernel
theorem dX1_lookAtFilled_7 : decode cX1_lookAtFilled 7 = .ok (.getfield 17, 3) := by decide +kernel
theorem dX1_lookAtFilled_10 : decode cX1_lookAtFilled 10 = .ok (.iconst 3, 1) := by decide +kernel
theorem dX1_lookAtFilled_11 : decode cX1_lookAtFilled 11 = .ok (.iload_n 3, 1) := by decide +kernel
theorem dX1_lookAtFilled_12 : decode cX1_lookAtFilled 12 = .ok (.iastore, 1) := by decide +kernel
theorem dX1_lookAtFilled_13 : decode cX1_lookAtFilled 13 = .ok (.aload_n 0, 1) := by decide +kernel
theorem dX1_lookAtFilled_14 : decode cX1_lookAtFilled 14 = .ok (.getfield 17, 3) := by decide +kernel
theorem dX1_lookAtFilled_17 : decode cX1_lookAtFilled 17 = .ok (.iconst 4, 1) := by decide +kernel
theorem dX1_lookAtFilled_18 : decode cX1_lookAtFilled 18 = .ok (.iload 4, 2) := by decide +kernel
theorem dX1_lookAtFilled_20 : decode cX1_lookAtFilled 20 = .ok (.iastore, 1) := by decide +kernel
theorem dX1_lookAtFilled_21 : decode cX1_lookAtFilled 21 = .ok (.return_, 1) := by decide +kernel
set_option maxRecDepth 20000 in
theorem ggX1_lookAtMarket_X4_ofMarket : GoodIn wsX1_lookAtMarket wsX4_ofMarket := goodIn_r _ [6, 7, 8, 13, 14, 15, 16, 17, 18, 19, 20, 21, 22, 23, 24, 25] (by decide +kernel) (by decide +kernel)
set_option maxRecDepth 20000 in
theorem gX1_lookAtMarket_X4_ofMarket : GoodIn wsX1_lookAtMarket (wsV RX1 42 RX4 yX4_ofMarket wsX4_ofMarket) := goodIn_app (goodIn_of _ (by decide +kernel)) ggX1_lookAtMarket_X4_ofMarket
theorem dX1_lookAtMarket_0 : decode cX1_lookAtMarket 0 = .ok (.aload_n 0, 1) := by decide +kernel
theorem dX1_lookAtMarket_1 : decode cX1_lookAtMarket 1 = .ok (.getfield 17, 3) := by decide +kernel
theorem dX1_lookAtMarket_4 : decode cX1_lookAtMarket 4 = .ok (.iconst 5, 1) := by decide +kernel
theorem dX1_lookAtMarket_5 : decode cX1_lookAtMarket 5 = .ok (.iload_n 3, 1) := by decide +kernel
theorem dX1_lookAtMarket_6 : decode cX1_lookAtMarket 6 = .ok (.iastore, 1) := by decide +kernel
theorem dX1_lookAtMarket_7 : decode cX1_lookAtMarket 7 = .ok (.aload_n 0, 1) := by decide +kernel
theorem dX1_lookAtMarket_8 : decode cX1_lookAtMarket 8 = .ok (.getfield 17, 3) := by decide +kernel
theorem dX1_lookAtMarket_11 : decode cX1_lookAtMarket 11 = .ok (.bipush 6, 2) := by decide +kernel
theorem dX1_lookAtMarket_13 : decode cX1_lookAtMarket 13 = .ok (.iload_n 2, 1) := by decide +kernel
theorem dX1_lookAtMarket_14 : decode cX1_lookAtMarket 14 = .ok (.iastore, 1) := by decide +kernel
theorem dX1_lookAtMarket_15 : decode cX1_lookAtMarket 15 = .ok (.aload_n 0, 1) := by decide +kernel
theorem dX1_lookAtMarket_16 : decode cX1_lookAtMarket 16 = .ok (.getfield 17, 3) := by decide +kernel
theorem dX1_lookAtMarket_19 : decode cX1_lookAtMarket 19 = .ok (.bipush 7, 2) := by decide +kernel
theorem dX1_lookAtMarket_21 : decode cX1_lookAtMarket 21 = .ok (.aload_n 1, 1) := by decide +kernel
theorem dX1_lookAtMarket_22 : decode cX1_lookAtMarket 22 = .ok (.iload_n 2, 1) := by decide +kernel
theorem dX1_lookAtMarket_23 : decode cX1_lookAtMarket 23 = .ok (.iconst 1, 1) := by decide +kernel
theorem dX1_lookAtMarket_24 : decode cX1_lookAtMarket 24 = .ok (.invokevirtual 42, 3) := by decide +kernel
theorem dX1_lookAtMarket_27 : decode cX1_lookAtMarket 27 = .ok (.iastore, 1) := by decide +kernel
theorem dX1_lookAtMarket_28 : decode cX1_lookAtMarket 28 = .ok (.aload_n 0, 1) := by decide +kernel
theorem dX1_lookAtMarket_29 : decode cX1_lookAtMarket 29 = .ok (.getfield 17, 3) := by decide +kernel
theorem dX1_lookAtMarket_32 : decode cX1_lookAtMarket 32 = .ok (.bipush 8, 2) := by decide +kernel
theorem dX1_lookAtMarket_34 : decode cX1_lookAtMarket 34 = .ok (.aload_n 1, 1) := by decide +kernel
theorem dX1_lookAtMarket_35 : decode cX1_lookAtMarket 35 = .ok (.iload_n 2, 1) := by decide +kernel
theorem dX1_lookAtMarket_36 : decode cX1_lookAtMarket 36 = .ok (.iconst 2, 1) := by decide +kernel
theorem dX1_lookAtMarket_37 : decode cX1_lookAtMarket 37 = .ok (.invokevirtual 42, 3) := by decide +kernel
theorem dX1_lookAtMarket_40 : decode cX1_lookAtMarket 40 = .ok (.iastore, 1) := by decide +kernel
theorem dX1_lookAtMarket_41 : decode cX1_lookAtMarket 41 = .ok (.return_, 1) := by decide +kernel
set_option maxRecDepth 20000 in
theorem ggX1_lookAtTraveller_X1_lookAt : GoodIn wsX1_lookAtTraveller wsX1_lookAt := goodIn_r _ [5, 6, 7, 8, 9, 10, 11, 12, 13, 14, 25, 26, 27, 28, 29, 30, 31, 32, 33, 34, 35, 36, 37, 38, 39, 40, 41] (by decide +kernel) (by decide +kernel)
set_option maxRecDepth 20000 in
theorem gX1_lookAtTraveller_X1_lookAt : GoodIn wsX1_lookAtTraveller (wsV RX1 38 RX1 yX1_lookAt wsX1_lookAt) := goodIn_app (goodIn_of _ (by decide +kernel)) ggX1_lookAtTraveller_X1_lookAt
set_option maxRecDepth 20000 in
theorem ggX1_lookAtTraveller_X4_ofGoose : GoodIn wsX1_lookAtTraveller wsX4_ofGoose := goodIn_r _ [12, 13, 14, 29, 30, 31, 32, 33, 34, 35, 36, 37, 38, 39, 40, 41] (by decide +kernel) (by decide +kernel)
set_option maxRecDepth 20000 in
theorem gX1_lookAtTraveller_X4_ofGoose : GoodIn wsX1_lookAtTraveller (wsV RX1 29 RX4 yX4_ofGoose wsX4_ofGoose) := goodIn_app (goodIn_of _ (by decide +kernel)) ggX1_lookAtTraveller_X4_ofGoose
set_option maxRecDepth 20000 in
theorem ggX1_lookAtTraveller_X1_lookAtMarket : GoodIn wsX1_lookAtTraveller wsX1_lookAtMarket := goodIn_r _ [18, 6, 19, 20, 21, 11, 22, 23, 24, 25, 26, 27, 28, 29, 30, 31, 32, 33, 34, 35, 36, 37, 38, 39, 40, 41] (by decide +kernel) (by decide +kernel)
set_option maxRecDepth 20000 in
theorem gX1_lookAtTraveller_X1_lookAtMarket : GoodIn wsX1_lookAtTraveller (wsV RX1 45 RX1 yX1_lookAtMarket wsX1_lookAtMarket) := goodIn_app (goodIn_of _ (by decide +kernel)) ggX1_lookAtTraveller_X1_lookAtMarket
theorem dX1_lookAtTraveller_0 : decode cX1_lookAtTraveller 0 = .ok (.aload_n 0, 1) := by decide +kernel
theorem dX1_lookAtTraveller_1 : decode cX1_lookAtTraveller 1 = .ok (.aload_n 1, 1) := by decide +kernel
theorem dX1_lookAtTraveller_2 : decode cX1_lookAtTraveller 2 = .ok (.iload_n 2, 1) := by decide +kernel
theorem dX1_lookAtTraveller_3 : decode cX1_lookAtTraveller 3 = .ok (.invokevirtual 38, 3) := by decide +kernel
theorem dX1_lookAtTraveller_6 : decode cX1_lookAtTraveller 6 = .ok (.aload_n 0, 1) := by decide +kernel
theorem dX1_lookAtTraveller_7 : decode cX1_lookAtTraveller 7 = .ok (.aload_n 1, 1) := by decide +kernel
theorem dX1_lookAtTraveller_8 : decode cX1_lookAtTraveller 8 = .ok (.aload_n 1, 1) := by decide +kernel
theorem dX1_lookAtTraveller_9 : decode cX1_lookAtTraveller 9 = .ok (.iload_n 2, 1) := by decide +kernel
theorem dX1_lookAtTraveller_10 : decode cX1_lookAtTraveller 10 = .ok (.iconst 5, 1) := by decide +kernel
theorem dX1_lookAtTraveller_11 : decode cX1_lookAtTraveller 11 = .ok (.invokevirtual 29, 3) := by decide +kernel
theorem dX1_lookAtTraveller_14 : decode cX1_lookAtTraveller 14 = .ok (.aload_n 1, 1) := by decide +kernel
theorem dX1_lookAtTraveller_15 : decode cX1_lookAtTraveller 15 = .ok (.iload_n 2, 1) := by decide +kernel
theorem dX1_lookAtTraveller_16 : decode cX1_lookAtTraveller 16 = .ok (.bipush 6, 2) := by decide +kernel
theorem dX1_lookAtTraveller_18 : decode cX1_lookAtTraveller 18 = .ok (.invokevirtual 29, 3) := by decide +kernel
theorem dX1_lookAtTraveller_21 : decode cX1_lookAtTraveller 21 = .ok (.invokevirtual 45, 3) := by decide +kernel
theorem dX1_lookAtTraveller_24 : decode cX1_lookAtTraveller 24 = .ok (.return_, 1) := by decide +kernel
set_option maxRecDepth 20000 in
theorem ggX1_inkCost_X1_lookAtFilled : GoodIn wsX1_inkCost wsX1_lookAtFilled := goodIn_r _ [5, 6, 7, 8, 9, 4, 10, 11, 12, 13, 14, 15, 16, 17, 18, 82, 83, 84, 85, 86, 87, 88, 89, 90, 91, 92, 93, 94, 95, 96, 97, 98] (by decide +kernel) (by decide +kernel)
set_option maxRecDepth 20000 in
theorem gX1_inkCost_X1_lookAtFilled : GoodIn wsX1_inkCost (wsV RX1 49 RX1 yX1_lookAtFilled wsX1_lookAtFilled) := goodIn_app (goodIn_of _ (by decide +kernel)) ggX1_inkCost_X1_lookAtFilled
set_option maxRecDepth 20000 in
theorem ggX1_inkCost_X1_rule : GoodIn wsX1_inkCost wsX1_rule := goodIn_r _ [22, 23, 24, 25, 26, 27, 28, 29, 30, 31, 32, 33, 34, 4, 35, 36, 37, 38, 39, 40, 41, 42, 43, 44, 45, 46, 6, 47, 48, 49, 50, 51, 52, 53, 54, 55, 56, 57, 58, 59, 60, 61, 62, 63, 64, 65, 66, 67, 68, 69, 70, 71, 72, 73, 74, 75, 76, 77, 78, 79, 80, 81, 86, 87, 88, 89, 90, 91, 92, 93, 94, 95, 96, 97, 98, 82, 83, 84, 85, 99, 100, 101, 102, 103, 104] (by decide +kernel) (by decide +kernel)
set_option maxRecDepth 20000 in
theorem gX1_inkCost_X1_rule : GoodIn wsX1_inkCost (wsV RX1 53 RX1 yX1_rule wsX1_rule) := goodIn_app (goodIn_of _ (by decide +kernel)) ggX1_inkCost_X1_rule
theorem dX1_inkCost_0 : decode cX1_inkCost 0 = .ok (.aload_n 0, 1) := by decide +kernel
theorem dX1_inkCost_1 : decode cX1_inkCost 1 = .ok (.aload_n 1, 1) := by decide +kernel
theorem dX1_inkCost_2 : decode cX1_inkCost 2 = .ok (.iload_n 2, 1) := by decide +kernel
theorem dX1_inkCost_3 : decode cX1_inkCost 3 = .ok (.iload_n 3, 1) := by decide +kernel
theorem dX1_inkCost_4 : decode cX1_inkCost 4 = .ok (.iload 4, 2) := by decide +kernel
theorem dX1_inkCost_6 : decode cX1_inkCost 6 = .ok (.invokevirtual 49, 3) := by decide +kernel
theorem dX1_inkCost_9 : decode cX1_inkCost 9 = .ok (.aload_n 0, 1) := by decide +kernel
theorem dX1_inkCost_10 : decode cX1_inkCost 10 = .ok (.aload_n 1, 1) := by decide +kernel
theorem dX1_inkCost_11 : decode cX1_inkCost 11 = .ok (.iconst 2, 1) := by decide +kernel
theorem dX1_inkCost_12 : decode cX1_inkCost 12 = .ok (.invokevirtual 53, 3) := by decide +kernel
theorem dX1_inkCost_15 : decode cX1_inkCost 15 = .ok (.ireturn, 1) := by decide +kernel
set_option maxRecDepth 20000 in
theorem ggX1_isTrue_X1_lookAt : GoodIn wsX1_isTrue wsX1_lookAt := goodIn_r _ [5, 6, 7, 8, 9, 10, 11, 12, 13, 14, 78, 79, 80, 81, 82, 83, 84, 85, 86, 87, 88, 89, 90, 91, 92, 93, 94] (by decide +kernel) (by decide +kernel)
set_option maxRecDepth 20000 in
theorem gX1_isTrue_X1_lookAt : GoodIn wsX1_isTrue (wsV RX1 38 RX1 yX1_lookAt wsX1_lookAt) := goodIn_app (goodIn_of _ (by decide +kernel)) ggX1_isTrue_X1_lookAt
set_option maxRecDepth 20000 in
theorem ggX1_isTrue_X1_rule : GoodIn wsX1_isTrue wsX1_rule := goodIn_r _ [18, 19, 20, 21, 22, 23, 24, 25, 26, 27, 28, 29, 30, 4, 31, 32, 33, 34, 35, 36, 37, 38, 39, 40, 41, 42, 6, 43, 44, 45, 46, 47, 48, 49, 50, 51, 52, 53, 54, 55, 56, 57, 58, 59, 60, 61, 62, 63, 64, 65, 66, 67, 68, 69, 70, 71, 72, 73, 74, 75, 76, 77, 82, 83, 84, 85, 86, 87, 88, 89, 90, 91, 92, 93, 94, 78, 79, 80, 81, 95, 96, 97, 98, 99, 100] (by decide +kernel) (by decide +kernel)
set_option maxRecDepth 20000 in
theorem gX1_isTrue_X1_rule : GoodIn wsX1_isTrue (wsV RX1 53 RX1 yX1_rule wsX1_rule) := goodIn_app (goodIn_of _ (by decide +kernel)) ggX1_isTrue_X1_rule
theorem dX1_isTrue_0 : decode cX1_isTrue 0 = .ok (.aload_n 0, 1) := by decide +kernel
theorem dX1_isTrue_1 : decode cX1_isTrue 1 = .ok (.aload_n 1, 1) := by decide +kernel
theorem dX1_isTrue_2 : decode cX1_isTrue 2 = .ok (.iload_n 2, 1) := by decide +kernel
theorem dX1_isTrue_3 : decode cX1_isTrue 3 = .ok (.invokevirtual 38, 3) := by decide +kernel
theorem dX1_isTrue_6 : decode cX1_isTrue 6 = .ok (.aload_n 0, 1) := by decide +kernel
theorem dX1_isTrue_7 : decode cX1_isTrue 7 = .ok (.aload_n 1, 1) := by decide +kernel
theorem dX1_isTrue_8 : decode cX1_isTrue 8 = .ok (.iconst 3, 1) := by decide +kernel
theorem dX1_isTrue_9 : decode cX1_isTrue 9 = .ok (.invokevirtual 53, 3) := by decide +kernel
theorem dX1_isTrue_12 : decode cX1_isTrue 12 = .ok (.ifCond .eq 7, 3) := by decide +kernel
theorem dX1_isTrue_15 : decode cX1_isTrue 15 = .ok (.iconst 1, 1) := by decide +kernel
theorem dX1_isTrue_16 : decode cX1_isTrue 16 = .ok (.goto 4, 3) := by decide +kernel
theorem dX1_isTrue_19 : decode cX1_isTrue 19 = .ok (.iconst 0, 1) := by decide +kernel
theorem dX1_isTrue_20 : decode cX1_isTrue 20 = .ok (.ireturn, 1) := by decide +kernel
set_option maxRecDepth 20000 in
theorem ggX1_isTrueWith_X1_lookAt : GoodIn wsX1_isTrueWith wsX1_lookAt := goodIn_r _ [6, 1, 7, 8, 9, 10, 11, 12, 13, 14, 78, 79, 80, 81, 82, 83, 84, 85, 86, 87, 88, 89, 90, 91, 92, 93, 94] (by decide +kernel) (by decide +kernel)
set_option maxRecDepth 20000 in
theorem gX1_isTrueWith_X1_lookAt : GoodIn wsX1_isTrueWith (wsV RX1 38 RX1 yX1_lookAt wsX1_lookAt) := goodIn_app (goodIn_of _ (by decide +kernel)) ggX1_isTrueWith_X1_lookAt
set_option maxRecDepth 20000 in
theorem ggX1_isTrueWith_X1_rule : GoodIn wsX1_isTrueWith wsX1_rule := goodIn_r _ [18, 19, 20, 21, 22, 23, 24, 25, 26, 27, 28, 29, 30, 5, 31, 32, 33, 34, 35, 36, 37, 38, 39, 40, 41, 42, 1, 43, 44, 45, 46, 47, 48, 49, 50, 51, 52, 53, 54, 55, 56, 57, 58, 59, 60, 61, 62, 63, 64, 65, 66, 67, 68, 69, 70, 71, 72, 73, 74, 75, 76, 77, 82, 83, 84, 85, 86, 87, 88, 89, 90, 91, 92, 93, 94, 78, 79, 80, 81, 95, 96, 97, 98, 99, 100] (by decide +kernel) (by decide +kernel)
set_option maxRecDepth 20000 in
theorem gX1_isTrueWith_X1_rule : GoodIn wsX1_isTrueWith (wsV RX1 53 RX1 yX1_rule wsX1_rule) := goodIn_app (goodIn_of _ (by decide +kernel)) ggX1_isTrueWith_X1_rule
theorem dX1_isTrueWith_0 : decode cX1_isTrueWith 0 = .ok (.aload_n 0, 1) := by decide +kernel
theorem dX1_isTrueWith_1 : decode cX1_isTrueWith 1 = .ok (.aload_n 1, 1) := by decide +kernel
theorem dX1_isTrueWith_2 : decode cX1_isTrueWith 2 = .ok (.iload_n 2, 1) := by decide +kernel
theorem dX1_isTrueWith_3 : decode cX1_isTrueWith 3 = .ok (.invokevirtual 38, 3) := by decide +kernel
theorem dX1_isTrueWith_6 : decode cX1_isTrueWith 6 = .ok (.aload_n 0, 1) := by decide +kernel
theorem dX1_isTrueWith_7 : decode cX1_isTrueWith 7 = .ok (.getfield 17, 3) := by decide +kernel
theorem dX1_isTrueWith_10 : decode cX1_isTrueWith 10 = .ok (.iconst 2, 1) := by decide +kernel
theorem dX1_isTrueWith_11 : decode cX1_isTrueWith 11 = .ok (.iload_n 3, 1) := by decide +kernel
theorem dX1_isTrueWith_12 : decode cX1_isTrueWith 12 = .ok (.iastore, 1) := by decide +kernel
theorem dX1_isTrueWith_13 : decode cX1_isTrueWith 13 = .ok (.aload_n 0, 1) := by decide +kernel
theorem dX1_isTrueWith_14 : decode cX1_isTrueWith 14 = .ok (.aload_n 1, 1) := by decide +kernel
theorem dX1_isTrueWith_15 : decode cX1_isTrueWith 15 = .ok (.iconst 3, 1) := by decide +kernel
theorem dX1_isTrueWith_16 : decode cX1_isTrueWith 16 = .ok (.invokevirtual 53, 3) := by decide +kernel
theorem dX1_isTrueWith_19 : decode cX1_isTrueWith 19 = .ok (.ifCond .eq 7, 3) := by decide +kernel
theorem dX1_isTrueWith_22 : decode cX1_isTrueWith 22 = .ok (.iconst 1, 1) := by decide +kernel
theorem dX1_isTrueWith_23 : decode cX1_isTrueWith 23 = .ok (.goto 4, 3) := by decide +kernel
theorem dX1_isTrueWith_26 : decode cX1_isTrueWith 26 = .ok (.iconst 0, 1) := by decide +kernel
theorem dX1_isTrueWith_27 : decode cX1_isTrueWith 27 = .ok (.ireturn, 1) := by decide +kernel
set_option maxRecDepth 20000 in
theorem ggX1_rule_X1_textOf : GoodIn wsX1_rule wsX1_textOf := goodIn_r _ [14, 15, 75, 76, 77, 78] (by decide +kernel) (by decide +kernel)
set_option maxRecDepth 20000 in
theorem gX1_rule_X1_textOf : GoodIn wsX1_rule (wsV RX1 60 RX1 yX1_textOf wsX1_textOf) := goodIn_app (goodIn_of _ (by decide +kernel)) ggX1_rule_X1_textOf
set_option maxRecDepth 20000 in
theorem ggX1_rule_X6_hasLaw : GoodIn wsX1_rule wsX6_hasLaw := goodIn_r _ [20, 21, 79, 80, 81, 82, 83, 84] (by decide +kernel) (by decide +kernel)
set_option maxRecDepth 20000 in
theorem gX1_rule_X6_hasLaw : GoodIn wsX1_rule (wsV RX1 64 RX6 yX6_hasLaw wsX6_hasLaw) := goodIn_app (goodIn_of _ (by decide +kernel)) ggX1_rule_X6_hasLaw
set_option maxRecDepth 20000 in
theorem ggX1_rule_X1_without : GoodIn wsX1_rule wsX1_without := goodIn_r _ [25, 26, 75, 76, 77, 78] (by decide +kernel) (by decide +kernel)
set_option maxRecDepth 20000 in
theorem gX1_rule_X1_without : GoodIn wsX1_rule (wsV RX1 68 RX1 yX1_without wsX1_without) := goodIn_app (goodIn_of _ (by decide +kernel)) ggX1_rule_X1_without
set_option maxRecDepth 20000 in
theorem ggX1_rule_X6_stepsEnd : GoodIn wsX1_rule wsX6_stepsEnd := goodIn_r _ [30, 31, 79, 80, 81, 82, 83, 84] (by decide +kernel) (by decide +kernel)
set_option maxRecDepth 20000 in
theorem gX1_rule_X6_stepsEnd : GoodIn wsX1_rule (wsV RX1 72 RX6 yX6_stepsEnd wsX6_stepsEnd) := goodIn_app (goodIn_of _ (by decide +kernel)) ggX1_rule_X6_stepsEnd
set_option maxRecDepth 20000 in
theorem ggX1_rule_X6_firstStep : GoodIn wsX1_rule wsX6_firstStep := goodIn_r _ [35, 21, 79, 80, 81, 82, 83, 84] (by decide +kernel) (by decide +kernel)
set_option maxRecDepth 20000 in
theorem gX1_rule_X6_firstStep : GoodIn wsX1_rule (wsV RX1 75 RX6 yX6_firstStep wsX6_firstStep) := goodIn_app (goodIn_of _ (by decide +kernel)) ggX1_rule_X6_firstStep
set_option maxRecDepth 20000 in
theorem ggX1_rule_X6_stepAt : GoodIn wsX1_rule wsX6_stepAt := goodIn_r _ [39, 40, 41, 79, 80, 81, 82, 83, 84] (by decide +kernel) (by decide +kernel)
set_option maxRecDepth 20000 in
theorem gX1_rule_X6_stepAt : GoodIn wsX1_rule (wsV RX1 78 RX6 yX6_stepAt wsX6_stepAt) := goodIn_app (goodIn_of _ (by decide +kernel)) ggX1_rule_X6_stepAt
set_option maxRecDepth 20000 in
theorem ggX1_rule_X1_take : GoodIn wsX1_rule wsX1_take := goodIn_r _ [45, 26, 46, 47, 48, 13, 49, 2, 50, 51, 52, 53, 54, 55, 56, 57, 58, 59, 60, 61, 75, 76, 77, 78] (by decide +kernel) (by decide +kernel)
set_option maxRecDepth 20000 in
theorem gX1_rule_X1_take : GoodIn wsX1_rule (wsV RX1 81 RX1 yX1_take wsX1_take) := goodIn_app (goodIn_of _ (by decide +kernel)) ggX1_rule_X1_take
set_option maxRecDepth 20000 in
theorem ggX1_rule_X1_pop : GoodIn wsX1_rule wsX1_pop := goodIn_r _ [58, 2, 50, 75, 76, 77, 78] (by decide +kernel) (by decide +kernel)
set_option maxRecDepth 20000 in
theorem gX1_rule_X1_pop : GoodIn wsX1_rule (wsV RX1 85 RX1 yX1_pop wsX1_pop) := goodIn_app (goodIn_of _ (by decide +kernel)) ggX1_rule_X1_pop
theorem dX1_rule_0 : decode cX1_rule 0 = .ok (.aload_n 0, 1) := by decide +kernel
theorem dX1_rule_1 : decode cX1_rule 1 = .ok (.aload_n 1, 1) := by decide +kernel
theorem dX1_rule_2 : decode cX1_rule 2 = .ok (.getfield 57, 3) := by decide +kernel
theorem dX1_rule_5 : decode cX1_rule 5 = .ok (.invokevirtual 60, 3) := by decide +kernel
theorem dX1_rule_8 : decode cX1_rule 8 = .ok (.astore_n 3, 1) := by decide +kernel
theorem dX1_rule_9 : decode cX1_rule 9 = .ok (.aload_n 3, 1) := by decide +kernel
theorem dX1_rule_10 : decode cX1_rule 10 = .ok (.ifnull 11, 3) := by decide +kernel
theorem dX1_rule_13 : decode cX1_rule 13 = .ok (.aload_n 3, 1) := by decide +kernel
theorem dX1_rule_14 : decode cX1_rule 14 = .ok (.iload_n 2, 1) := by decide +kernel
theorem dX1_rule_15 : decode cX1_rule 15 = .ok (.invokevirtual 64, 3) := by decide +kernel
theorem dX1_rule_18 : decode cX1_rule 18 = .ok (.ifCond .ne 9, 3) := by decide +kernel
theorem dX1_rule_21 : decode cX1_rule 21 = .ok (.aload_n 0, 1) := by decide +kernel
theorem dX1_rule_22 : decode cX1_rule 22 = .ok (.iload_n 2, 1) := by decide +kernel
theorem dX1_rule_23 : decode cX1_rule 23 = .ok (.invokevirtual 68, 3) := by decide +kernel
theorem dX1_rule_26 : decode cX1_rule 26 = .ok (.ireturn, 1) := by decide +kernel
theorem dX1_rule_27 : decode cX1_rule 27 = .ok (.aload_n 0, 1) := by decide +kernel
theorem dX1_rule_28 : decode cX1_rule 28 = .ok (.iconst 0, 1) := by decide +kernel
theorem dX1_rule_29 : decode cX1_rule 29 = .ok (.putfield 24, 3) := by decide +kernel
theorem dX1_rule_32 : decode cX1_rule 32 = .ok (.aload_n 3, 1) := by decide +kernel
theorem dX1_rule_33 : decode cX1_rule 33 = .ok (.iload_n 2, 1) := by decide +kernel
theorem dX1_rule_34 : decode cX1_rule 34 = .ok (.invokevirtual 72, 3) := by decide +kernel
theorem dX1_rule_37 : decode cX1_rule 37 = .ok (.istore 4, 2) := by decide +kernel
theorem dX1_rule_39 : decode cX1_rule 39 = .ok (.aload_n 3, 1) := by decide +kernel
theorem dX1_rule_40 : decode cX1_rule 40 = .ok (.iload_n 2, 1) := by decide +kernel
theorem dX1_rule_41 : decode cX1_rule 41 = .ok (.invokevirtual 75, 3) := by decide +kernel
theorem dX1_rule_44 : decode cX1_rule 44 = .ok (.istore 5, 2) := by decide +kernel
theorem dX1_rule_46 : decode cX1_rule 46 = .ok (.iload 5, 2) := by decide +kernel
theorem dX1_rule_48 : decode cX1_rule 48 = .ok (.iload 4, 2) := by decide +kernel
theorem dX1_rule_50 : decode cX1_rule 50 = .ok (.if_icmp .ge 19, 3) := by decide +kernel
theorem dX1_rule_53 : decode cX1_rule 53 = .ok (.aload_n 0, 1) := by decide +kernel
theorem dX1_rule_54 : decode cX1_rule 54 = .ok (.aload_n 3, 1) := by decide +kernel
theorem dX1_rule_55 : decode cX1_rule 55 = .ok (.iload 5, 2) := by decide +kernel
theorem dX1_rule_57 : decode cX1_rule 57 = .ok (.invokevirtual 78, 3) := by decide +kernel
theorem dX1_rule_60 : decode cX1_rule 60 = .ok (.invokevirtual 81, 3) := by decide +kernel
theorem dX1_rule_63 : decode cX1_rule 63 = .ok (.iinc 5 1, 3) := by decide +kernel
theorem dX1_rule_66 : decode cX1_rule 66 = .ok (.goto (-20), 3) := by decide +kernel
theorem dX1_rule_69 : decode cX1_rule 69 = .ok (.iconst 0, 1) := by decide +kernel
theorem dX1_rule_70 : decode cX1_rule 70 = .ok (.iload_n 2, 1) := by decide +kernel
theorem dX1_rule_71 : decode cX1_rule 71 = .ok (.iconst 2, 1) := by decide +kernel
theorem dX1_rule_72 : decode cX1_rule 72 = .ok (.if_icmp .ne 8, 3) := by decide +kernel
theorem dX1_rule_75 : decode cX1_rule 75 = .ok (.bipush 99, 2) := by decide +kernel
theorem dX1_rule_77 : decode cX1_rule 77 = .ok (.goto 5, 3) := by decide +kernel
theorem dX1_rule_80 : decode cX1_rule 80 = .ok (.bipush 10, 2) := by decide +kernel
theorem dX1_rule_82 : decode cX1_rule 82 = .ok (.aload_n 0, 1) := by decide +kernel
theorem dX1_rule_83 : decode cX1_rule 83 = .ok (.invokevirtual 85, 3) := by decide +kernel
theorem dX1_rule_86 : decode cX1_rule 86 = .ok (.invokestatic 89, 3) := by decide +kernel
theorem dX1_rule_89 : decode cX1_rule 89 = .ok (.invokestatic 94, 3) := by decide +kernel
theorem dX1_rule_92 : decode cX1_rule 92 = .ok (.ireturn, 1) := by decide +kernel
theorem dX1_without_0 : decode cX1_without 0 = .ok (.iload_n 1, 1) := by decide +kernel
theorem dX1_without_1 : decode cX1_without 1 = .ok (.lookupswitch 43 #[(0, 27), (1, 35)], 27) := by decide +kernel
theorem dX1_without_28 : decode cX1_without 28 = .ok (.aload_n 0, 1) := by decide +kernel
theorem dX1_without_29 : decode cX1_without 29 = .ok (.getfield 17, 3) := by decide +kernel
theorem dX1_without_32 : decode cX1_without 32 = .ok (.bipush 7, 2) := by decide +kernel
theorem dX1_without_34 : decode cX1_without 34 = .ok (.iaload, 1) := by decide +kernel
theorem dX1_without_35 : decode cX1_without 35 = .ok (.ireturn, 1) := by decide +kernel
theorem dX1_without_36 : decode cX1_without 36 = .ok (.aload_n 0, 1) := by decide +kernel
theorem dX1_without_37 : decode cX1_without 37 = .ok (.getfield 17, 3) := by decide +kernel
theorem dX1_without_40 : decode cX1_without 40 = .ok (.bipush 8, 2) := by decide +kernel
theorem dX1_without_42 : decode cX1_without 42 = .ok (.iaload, 1) := by decide +kernel
theorem dX1_without_43 : decode cX1_without 43 = .ok (.ireturn, 1) := by decide +kernel
theorem dX1_without_44 : decode cX1_without 44 = .ok (.iconst 1, 1) := by decide +kernel
theorem dX1_without_45 : decode cX1_without 45 = .ok (.ireturn, 1) := by decide +kernel
set_option maxRecDepth 20000 in
theorem ggX1_take_X1_push : GoodIn wsX1_take wsX1_push := goodIn_r _ [6, 7, 8, 9, 10, 11, 12, 20, 21, 22, 23] (by decide +kernel) (by decide +kernel)
set_option maxRecDepth 20000 in
theorem gX1_take_X1_push : GoodIn wsX1_take (wsV RX1 97 RX1 yX1_push wsX1_push) := goodIn_app (goodIn_of _ (by decide +kernel)) ggX1_take_X1_push
set_option maxRecDepth 20000 in
theorem ggX1_take_X1_pop : GoodIn wsX1_take wsX1_pop := goodIn_r _ [16, 7, 8, 20, 21, 22, 23] (by decide +kernel) (by decide +kernel)
set_option maxRecDepth 20000 in
theorem gX1_take_X1_pop : GoodIn wsX1_take (wsV RX1 85 RX1 yX1_pop wsX1_pop) := goodIn_app (goodIn_of _ (by decide +kernel)) ggX1_take_X1_pop
set_option maxRecDepth 20000 in
theorem ggX1_take_X1_joined : GoodIn wsX1_take wsX1_joined := goodIn_r _ [19] (by decide +kernel) (by decide +kernel)
set_option maxRecDepth 20000 in
theorem gX1_take_X1_joined : GoodIn wsX1_take (va_wsS RX1 101 yX1_joined wsX1_joined) := goodIn_app (goodIn_of _ (by decide +kernel)) ggX1_take_X1_joined
theorem dX1_take_0 : decode cX1_take 0 = .ok (.iload_n 1, 1) := by decide +kernel
theorem dX1_take_1 : decode cX1_take 1 = .ok (.sipush 10000, 3) := by decide +kernel
theorem dX1_take_4 : decode cX1_take 4 = .ok (.if_icmp .ge 12, 3) := by decide +kernel
theorem dX1_take_7 : decode cX1_take 7 = .ok (.aload_n 0, 1) := by decide +kernel
theorem dX1_take_8 : decode cX1_take 8 = .ok (.iload_n 1, 1) := by decide +kernel
theorem dX1_take_9 : decode cX1_take 9 = .ok (.i2l, 1) := by decide +kernel
theorem dX1_take_10 : decode cX1_take 10 = .ok (.invokevirtual 97, 3) := by decide +kernel
theorem dX1_take_13 : decode cX1_take 13 = .ok (.goto 115, 3) := by decide +kernel
theorem dX1_take_16 : decode cX1_take 16 = .ok (.iload_n 1, 1) := by decide +kernel
theorem dX1_take_17 : decode cX1_take 17 = .ok (.sipush 20000, 3) := by decide +kernel
theorem dX1_take_20 : decode cX1_take 20 = .ok (.if_icmp .ge 33, 3) := by decide +kernel
theorem dX1_take_23 : decode cX1_take 23 = .ok (.iload_n 1, 1) := by decide +kernel
theorem dX1_take_24 : decode cX1_take 24 = .ok (.sipush 10000, 3) := by decide +kernel
theorem dX1_take_27 : decode cX1_take 27 = .ok (.isub, 1) := by decide +kernel
theorem dX1_take_28 : decode cX1_take 28 = .ok (.istore_n 2, 1) := by decide +kernel
theorem dX1_take_29 : decode cX1_take 29 = .ok (.aload_n 0, 1) := by decide +kernel
theorem dX1_take_30 : decode cX1_take 30 = .ok (.iload_n 2, 1) := by decide +kernel
theorem dX1_take_31 : decode cX1_take 31 = .ok (.bipush 9, 2) := by decide +kernel
theorem dX1_take_33 : decode cX1_take 33 = .ok (.if_icmp .ge 13, 3) := by decide +kernel
theorem dX1_take_36 : decode cX1_take 36 = .ok (.aload_n 0, 1) := by decide +kernel
theorem dX1_take_37 : decode cX1_take 37 = .ok (.getfield 17, 3) := by decide +kernel
theorem dX1_take_40 : decode cX1_take 40 = .ok (.iload_n 2, 1) := by decide +kernel
theorem dX1_take_41 : decode cX1_take 41 = .ok (.iaload, 1) := by decide +kernel
theorem dX1_take_42 : decode cX1_take 42 = .ok (.i2l, 1) := by decide +kernel
theorem dX1_take_43 : decode cX1_take 43 = .ok (.goto 4, 3) := by decide +kernel
theorem dX1_take_46 : decode cX1_take 46 = .ok (.lconst 0, 1) := by decide +kernel
theorem dX1_take_47 : decode cX1_take 47 = .ok (.invokevirtual 97, 3) := by decide +kernel
theorem dX1_take_50 : decode cX1_take 50 = .ok (.goto 78, 3) := by decide +kernel
theorem dX1_take_53 : decode cX1_take 53 = .ok (.aload_n 0, 1) := by decide +kernel
theorem dX1_take_54 : decode cX1_take 54 = .ok (.invokevirtual 85, 3) := by decide +kernel
theorem dX1_take_57 : decode cX1_take 57 = .ok (.istore_n 2, 1) := by decide +kernel
theorem dX1_take_58 : decode cX1_take 58 = .ok (.iload_n 1, 1) := by decide +kernel
theorem dX1_take_59 : decode cX1_take 59 = .ok (.sipush 20000, 3) := by decide +kernel
theorem dX1_take_62 : decode cX1_take 62 = .ok (.isub, 1) := by decide +kernel
theorem dX1_take_63 : decode cX1_take 63 = .ok (.lookupswitch 46 #[(28, 35), (38, 25)], 25) := by decide +kernel
theorem dX1_take_88 : decode cX1_take 88 = .ok (.aload_n 0, 1) := by decide +kernel
theorem dX1_take_89 : decode cX1_take 89 = .ok (.iload_n 2, 1) := by decide +kernel
theorem dX1_take_90 : decode cX1_take 90 = .ok (.ineg, 1) := by decide +kernel
theorem dX1_take_91 : decode cX1_take 91 = .ok (.i2l, 1) := by decide +kernel
theorem dX1_take_92 : decode cX1_take 92 = .ok (.invokevirtual 97, 3) := by decide +kernel
theorem dX1_take_95 : decode cX1_take 95 = .ok (.goto 33, 3) := by decide +kernel
theorem dX1_take_98 : decode cX1_take 98 = .ok (.aload_n 0, 1) := by decide +kernel
theorem dX1_take_99 : decode cX1_take 99 = .ok (.iconst 1, 1) := by decide +kernel
theorem dX1_take_100 : decode cX1_take 100 = .ok (.iload_n 2, 1) := by decide +kernel
theorem dX1_take_101 : decode cX1_take 101 = .ok (.isub, 1) := by decide +kernel
theorem dX1_take_102 : decode cX1_take 102 = .ok (.i2l, 1) := by decide +kernel
theorem dX1_take_103 : decode cX1_take 103 = .ok (.invokevirtual 97, 3) := by decide +kernel
theorem dX1_take_106 : decode cX1_take 106 = .ok (.goto 22, 3) := by decide +kernel
theorem dX1_take_109 : decode cX1_take 109 = .ok (.aload_n 0, 1) := by decide +kernel
theorem dX1_take_110 : decode cX1_take 110 = .ok (.iload_n 1, 1) := by decide +kernel
theorem dX1_take_111 : decode cX1_take 111 = .ok (.sipush 20000, 3) := by decide +kernel
theorem dX1_take_114 : decode cX1_take 114 = .ok (.isub, 1) := by decide +kernel
theorem dX1_take_115 : decode cX1_take 115 = .ok (.aload_n 0, 1) := by decide +kernel
theorem dX1_take_116 : decode cX1_take 116 = .ok (.invokevirtual 85, 3) := by decide +kernel
theorem dX1_take_119 : decode cX1_take 119 = .ok (.i2l, 1) := by decide +kernel
theorem dX1_take_120 : decode cX1_take 120 = .ok (.iload_n 2, 1) := by decide +kernel
theorem dX1_take_121 : decode cX1_take 121 = .ok (.i2l, 1) := by decide +kernel
theorem dX1_take_122 : decode cX1_take 122 = .ok (.invokestatic 101, 3) := by decide +kernel
theorem dX1_take_125 : decode cX1_take 125 = .ok (.invokevirtual 97, 3) := by decide +kernel
theorem dX1_take_128 : decode cX1_take 128 = .ok (.return_, 1) := by decide +kernel
theorem dX1_push_0 : decode cX1_push 0 = .ok (.aload_n 0, 1) := by decide +kernel
theorem dX1_push_1 : decode cX1_push 1 = .ok (.getfield 24, 3) := by decide +kernel
theorem dX1_push_4 : decode cX1_push 4 = .ok (.ifCond .lt 62, 3) := by decide +kernel
theorem dX1_push_7 : decode cX1_push 7 = .ok (.aload_n 0, 1) := by decide +kernel
theorem dX1_push_8 : decode cX1_push 8 = .ok (.getfield 24, 3) := by decide +kernel
theorem dX1_push_11 : decode cX1_push 11 = .ok (.aload_n 0, 1) := by decide +kernel
theorem dX1_push_12 : decode cX1_push 12 = .ok (.getfield 21, 3) := by decide +kernel
theorem dX1_push_15 : decode cX1_push 15 = .ok (.arraylength, 1) := by decide +kernel
theorem dX1_push_16 : decode cX1_push 16 = .ok (.if_icmp .ge 50, 3) := by decide +kernel
theorem dX1_push_19 : decode cX1_push 19 = .ok (.aload_n 0, 1) := by decide +kernel
theorem dX1_push_20 : decode cX1_push 20 = .ok (.getfield 21, 3) := by decide +kernel
theorem dX1_push_23 : decode cX1_push 23 = .ok (.aload_n 0, 1) := by decide +kernel
theorem dX1_push_24 : decode cX1_push 24 = .ok (.getfield 24, 3) := by decide +kernel
theorem dX1_push_27 : decode cX1_push 27 = .ok (.lload_n 1, 1) := by decide +kernel
theorem dX1_push_28 : decode cX1_push 28 = .ok (.ldc2_w 105, 3) := by decide +kernel
theorem dX1_push_31 : decode cX1_push 31 = .ok (.lcmp, 1) := by decide +kernel
theorem dX1_push_32 : decode cX1_push 32 = .ok (.ifCond .le 8, 3) := by decide +kernel
theorem dX1_push_35 : decode cX1_push 35 = .ok (.ldc 107, 2) := by decide +kernel
theorem dX1_push_37 : decode cX1_push 37 = .ok (.goto 18, 3) := by decide +kernel
theorem dX1_push_40 : decode cX1_push 40 = .ok (.lload_n 1, 1) := by decide +kernel
theorem dX1_push_41 : decode cX1_push 41 = .ok (.ldc2_w 108, 3) := by decide +kernel
theorem dX1_push_44 : decode cX1_push 44 = .ok (.lcmp, 1) := by decide +kernel
theorem dX1_push_45 : decode cX1_push 45 = .ok (.ifCond .ge 8, 3) := by decide +kernel
theorem dX1_push_48 : decode cX1_push 48 = .ok (.ldc 110, 2) := by decide +kernel
theorem dX1_push_50 : decode cX1_push 50 = .ok (.goto 5, 3) := by decide +kernel
theorem dX1_push_53 : decode cX1_push 53 = .ok (.lload_n 1, 1) := by decide +kernel
theorem dX1_push_54 : decode cX1_push 54 = .ok (.l2i, 1) := by decide +kernel
theorem dX1_push_55 : decode cX1_push 55 = .ok (.iastore, 1) := by decide +kernel
theorem dX1_push_56 : decode cX1_push 56 = .ok (.aload_n 0, 1) := by decide +kernel
theorem dX1_push_57 : decode cX1_push 57 = .ok (.dup, 1) := by decide +kernel
theorem dX1_push_58 : decode cX1_push 58 = .ok (.getfield 24, 3) := by decide +kernel
theorem dX1_push_61 : decode cX1_push 61 = .ok (.iconst 1, 1) := by decide +kernel
theorem dX1_push_62 : decode cX1_push 62 = .ok (.iadd, 1) := by decide +kernel
theorem dX1_push_63 : decode cX1_push 63 = .ok (.putfield 24, 3) := by decide +kernel
theorem dX1_push_66 : decode cX1_push 66 = .ok (.return_, 1) := by decide +kernel
theorem dX1_pop_0 : decode cX1_pop 0 = .ok (.aload_n 0, 1) := by decide +kernel
theorem dX1_pop_1 : decode cX1_pop 1 = .ok (.getfield 24, 3) := by decide +kernel
theorem dX1_pop_4 : decode cX1_pop 4 = .ok (.iconst 1, 1) := by decide +kernel
theorem dX1_pop_5 : decode cX1_pop 5 = .ok (.if_icmp .lt 15, 3) := by decide +kernel
theorem dX1_pop_8 : decode cX1_pop 8 = .ok (.aload_n 0, 1) := by decide +kernel
theorem dX1_pop_9 : decode cX1_pop 9 = .ok (.getfield 24, 3) := by decide +kernel
theorem dX1_pop_12 : decode cX1_pop 12 = .ok (.aload_n 0, 1) := by decide +kernel
theorem dX1_pop_13 : decode cX1_pop 13 = .ok (.getfield 21, 3) := by decide +kernel
theorem dX1_pop_16 : decode cX1_pop 16 = .ok (.arraylength, 1) := by decide +kernel
theorem dX1_pop_17 : decode cX1_pop 17 = .ok (.if_icmp .le 5, 3) := by decide +kernel
theorem dX1_pop_20 : decode cX1_pop 20 = .ok (.iconst 0, 1) := by decide +kernel
theorem dX1_pop_21 : decode cX1_pop 21 = .ok (.ireturn, 1) := by decide +kernel
theorem dX1_pop_22 : decode cX1_pop 22 = .ok (.aload_n 0, 1) := by decide +kernel
theorem dX1_pop_23 : decode cX1_pop 23 = .ok (.dup, 1) := by decide +kernel
theorem dX1_pop_24 : decode cX1_pop 24 = .ok (.getfield 24, 3) := by decide +kernel
theorem dX1_pop_27 : decode cX1_pop 27 = .ok (.iconst 1, 1) := by decide +kernel
theorem dX1_pop_28 : decode cX1_pop 28 = .ok (.isub, 1) := by decide +kernel
theorem dX1_pop_29 : decode cX1_pop 29 = .ok (.putfield 24, 3) := by decide +kernel
theorem dX1_pop_32 : decode cX1_pop 32 = .ok (.aload_n 0, 1) := by decide +kernel
theorem dX1_pop_33 : decode cX1_pop 33 = .ok (.getfield 21, 3) := by decide +kernel
theorem dX1_pop_36 : decode cX1_pop 36 = .ok (.aload_n 0, 1) := by decide +kernel
theorem dX1_pop_37 : decode cX1_pop 37 = .ok (.getfield 24, 3) := by decide +kernel
theorem dX1_pop_40 : decode cX1_pop 40 = .ok (.iaload, 1) := by decide +kernel
theorem dX1_pop_41 : decode cX1_pop 41 = .ok (.ireturn, 1) := by decide +kernel
theorem dX1_joined_0 : decode cX1_joined 0 = .ok (.iload_n 0, 1) := by decide +kernel
theorem dX1_joined_1 : decode cX1_joined 1 = .ok (.tableswitch 217 3 27 #[141, 153, 165, 177, 189, 201, 115, 119, 123, 127, 217, 217, 217, 217, 217, 217, 217, 217, 217, 217, 217, 217, 217, 217, 213], 115) := by decide +kernel
theorem dX1_joined_116 : decode cX1_joined 116 = .ok (.lload_n 1, 1) := by decide +kernel
theorem dX1_joined_117 : decode cX1_joined 117 = .ok (.lload_n 3, 1) := by decide +kernel
theorem dX1_joined_118 : decode cX1_joined 118 = .ok (.ladd, 1) := by decide +kernel
theorem dX1_joined_119 : decode cX1_joined 119 = .ok (.lreturn, 1) := by decide +kernel
theorem dX1_joined_120 : decode cX1_joined 120 = .ok (.lload_n 1, 1) := by decide +kernel
theorem dX1_joined_121 : decode cX1_joined 121 = .ok (.lload_n 3, 1) := by decide +kernel
theorem dX1_joined_122 : decode cX1_joined 122 = .ok (.lsub, 1) := by decide +kernel
theorem dX1_joined_123 : decode cX1_joined 123 = .ok (.lreturn, 1) := by decide +kernel
theorem dX1_joined_124 : decode cX1_joined 124 = .ok (.lload_n 1, 1) := by decide +kernel
theorem dX1_joined_125 : decode cX1_joined 125 = .ok (.lload_n 3, 1) := by decide +kernel
theorem dX1_joined_126 : decode cX1_joined 126 = .ok (.lmul, 1) := by decide +kernel
theorem dX1_joined_127 : decode cX1_joined 127 = .ok (.lreturn, 1) := by decide +kernel
theorem dX1_joined_128 : decode cX1_joined 128 = .ok (.lload_n 3, 1) := by decide +kernel
theorem dX1_joined_129 : decode cX1_joined 129 = .ok (.lconst 0, 1) := by decide +kernel
theorem dX1_joined_130 : decode cX1_joined 130 = .ok (.lcmp, 1) := by decide +kernel
theorem dX1_joined_131 : decode cX1_joined 131 = .ok (.ifCond .ne 7, 3) := by decide +kernel
theorem dX1_joined_134 : decode cX1_joined 134 = .ok (.lconst 0, 1) := by decide +kernel
theorem dX1_joined_135 : decode cX1_joined 135 = .ok (.goto 6, 3) := by decide +kernel
theorem dX1_joined_138 : decode cX1_joined 138 = .ok (.lload_n 1, 1) := by decide +kernel
theorem dX1_joined_139 : decode cX1_joined 139 = .ok (.lload_n 3, 1) := by decide +kernel
theorem dX1_joined_140 : decode cX1_joined 140 = .ok (.ldiv, 1) := by decide +kernel
theorem dX1_joined_141 : decode cX1_joined 141 = .ok (.lreturn, 1) := by decide +kernel
theorem dX1_joined_142 : decode cX1_joined 142 = .ok (.lload_n 1, 1) := by decide +kernel
theorem dX1_joined_143 : decode cX1_joined 143 = .ok (.lload_n 3, 1) := by decide +kernel
theorem dX1_joined_144 : decode cX1_joined 144 = .ok (.lcmp, 1) := by decide +kernel
theorem dX1_joined_145 : decode cX1_joined 145 = .ok (.ifCond .ge 7, 3) := by decide +kernel
theorem dX1_joined_148 : decode cX1_joined 148 = .ok (.lconst 1, 1) := by decide +kernel
theorem dX1_joined_149 : decode cX1_joined 149 = .ok (.goto 4, 3) := by decide +kernel
theorem dX1_joined_152 : decode cX1_joined 152 = .ok (.lconst 0, 1) := by decide +kernel
theorem dX1_joined_153 : decode cX1_joined 153 = .ok (.lreturn, 1) := by decide +kernel
theorem dX1_joined_154 : decode cX1_joined 154 = .ok (.lload_n 1, 1) := by decide +kernel
theorem dX1_joined_155 : decode cX1_joined 155 = .ok (.lload_n 3, 1) := by decide +kernel
theorem dX1_joined_156 : decode cX1_joined 156 = .ok (.lcmp, 1) := by decide +kernel
theorem dX1_joined_157 : decode cX1_joined 157 = .ok (.ifCond .gt 7, 3) := by decide +kernel
theorem dX1_joined_160 : decode cX1_joined 160 = .ok (.lconst 1, 1) := by decide +kernel
theorem dX1_joined_161 : decode cX1_joined 161 = .ok (.goto 4, 3) := by decide +kernel
theorem dX1_joined_164 : decode cX1_joined 164 = .ok (.lconst 0, 1) := by decide +kernel
theorem dX1_joined_165 : decode cX1_joined 165 = .ok (.lreturn, 1) := by decide +kernel
theorem dX1_joined_166 : decode cX1_joined 166 = .ok (.lload_n 1, 1) := by decide +kernel
theorem dX1_joined_167 : decode cX1_joined 167 = .ok (.lload_n 3, 1) := by decide +kernel
theorem dX1_joined_168 : decode cX1_joined 168 = .ok (.lcmp, 1) := by decide +kernel
theorem dX1_joined_169 : decode cX1_joined 169 = .ok (.ifCond .le 7, 3) := by decide +kernel
theorem dX1_joined_172 : decode cX1_joined 172 = .ok (.lconst 1, 1) := by decide +kernel
theorem dX1_joined_173 : decode cX1_joined 173 = .ok (.goto 4, 3) := by decide +kernel
theorem dX1_joined_176 : decode cX1_joined 176 = .ok (.lconst 0, 1) := by decide +kernel
theorem dX1_joined_177 : decode cX1_joined 177 = .ok (.lreturn, 1) := by decide +kernel
theorem dX1_joined_178 : decode cX1_joined 178 = .ok (.lload_n 1, 1) := by decide +kernel
theorem dX1_joined_179 : decode cX1_joined 179 = .ok (.lload_n 3, 1) := by decide +kernel
theorem dX1_joined_180 : decode cX1_joined 180 = .ok (.lcmp, 1) := by decide +kernel
theorem dX1_joined_181 : decode cX1_joined 181 = .ok (.ifCond .lt 7, 3) := by decide +kernel
theorem dX1_joined_184 : decode cX1_joined 184 = .ok (.lconst 1, 1) := by decide +kernel
theorem dX1_joined_185 : decode cX1_joined 185 = .ok (.goto 4, 3) := by decide +kernel
theorem dX1_joined_188 : decode cX1_joined 188 = .ok (.lconst 0, 1) := by decide +kernel
theorem dX1_joined_189 : decode cX1_joined 189 = .ok (.lreturn, 1) := by decide +kernel
theorem dX1_joined_190 : decode cX1_joined 190 = .ok (.lload_n 1, 1) := by decide +kernel
theorem dX1_joined_191 : decode cX1_joined 191 = .ok (.lload_n 3, 1) := by decide +kernel
theorem dX1_joined_192 : decode cX1_joined 192 = .ok (.lcmp, 1) := by decide +kernel
theorem dX1_joined_193 : decode cX1_joined 193 = .ok (.ifCond .ne 7, 3) := by decide +kernel
theorem dX1_joined_196 : decode cX1_joined 196 = .ok (.lconst 1, 1) := by decide +kernel
theorem dX1_joined_197 : decode cX1_joined 197 = .ok (.goto 4, 3) := by decide +kernel
theorem dX1_joined_200 : decode cX1_joined 200 = .ok (.lconst 0, 1) := by decide +kernel
theorem dX1_joined_201 : decode cX1_joined 201 = .ok (.lreturn, 1) := by decide +kernel
theorem dX1_joined_202 : decode cX1_joined 202 = .ok (.lload_n 1, 1) := by decide +kernel
theorem dX1_joined_203 : decode cX1_joined 203 = .ok (.lload_n 3, 1) := by decide +kernel
theorem dX1_joined_204 : decode cX1_joined 204 = .ok (.lcmp, 1) := by decide +kernel
theorem dX1_joined_205 : decode cX1_joined 205 = .ok (.ifCond .eq 7, 3) := by decide +kernel
theorem dX1_joined_208 : decode cX1_joined 208 = .ok (.lconst 1, 1) := by decide +kernel
theorem dX1_joined_209 : decode cX1_joined 209 = .ok (.goto 4, 3) := by decide +kernel
theorem dX1_joined_212 : decode cX1_joined 212 = .ok (.lconst 0, 1) := by decide +kernel
theorem dX1_joined_213 : decode cX1_joined 213 = .ok (.lreturn, 1) := by decide +kernel
theorem dX1_joined_214 : decode cX1_joined 214 = .ok (.lload_n 1, 1) := by decide +kernel
theorem dX1_joined_215 : decode cX1_joined 215 = .ok (.lload_n 3, 1) := by decide +kernel
theorem dX1_joined_216 : decode cX1_joined 216 = .ok (.land, 1) := by decide +kernel
theorem dX1_joined_217 : decode cX1_joined 217 = .ok (.lreturn, 1) := by decide +kernel
theorem dX1_joined_218 : decode cX1_joined 218 = .ok (.lload_n 1, 1) := by decide +kernel
theorem dX1_joined_219 : decode cX1_joined 219 = .ok (.lload_n 3, 1) := by decide +kernel
theorem dX1_joined_220 : decode cX1_joined 220 = .ok (.lor, 1) := by decide +kernel
theorem dX1_joined_221 : decode cX1_joined 221 = .ok (.lreturn, 1) := by decide +kernel
theorem dX2_init_0 : decode cX2_init 0 = .ok (.aload_n 0, 1) := by decide +kernel
theorem dX2_init_1 : decode cX2_init 1 = .ok (.invokespecial 3, 3) := by decide +kernel
theorem dX2_init_4 : decode cX2_init 4 = .ok (.aload_n 0, 1) := by decide +kernel
theorem dX2_init_5 : decode cX2_init 5 = .ok (.iconst (-1), 1) := by decide +kernel
theorem dX2_init_6 : decode cX2_init 6 = .ok (.putfield 9, 3) := by decide +kernel
theorem dX2_init_9 : decode cX2_init 9 = .ok (.aload_n 0, 1) := by decide +kernel
theorem dX2_init_10 : decode cX2_init 10 = .ok (.iconst (-1), 1) := by decide +kernel
theorem dX2_init_11 : decode cX2_init 11 = .ok (.putfield 15, 3) := by decide +kernel
theorem dX2_init_14 : decode cX2_init 14 = .ok (.aload_n 0, 1) := by decide +kernel
theorem dX2_init_15 : decode cX2_init 15 = .ok (.iconst (-1), 1) := by decide +kernel
theorem dX2_init_16 : decode cX2_init 16 = .ok (.putfield 18, 3) := by decide +kernel
theorem dX2_init_19 : decode cX2_init 19 = .ok (.return_, 1) := by decide +kernel
set_option maxRecDepth 20000 in
theorem ggX2_parse_X6_clear : GoodIn wsX2_parse wsX6_clear := goodIn_r _ [7, 8, 9, 10, 11, 109, 110, 111, 112, 113, 114] (by decide +kernel) (by decide +kernel)
set_option maxRecDepth 20000 in
theorem gX2_parse_X6_clear : GoodIn wsX2_parse (wsV RX2 21 RX6 yX6_clear wsX6_clear) := goodIn_app (goodIn_of _ (by decide +kernel)) ggX2_parse_X6_clear
set_option maxRecDepth 20000 in
theorem ggX2_parse_X7_kind : GoodIn wsX2_parse wsX7_kind := goodIn_r _ [16, 17, 18, 19, 115, 116, 117, 118, 119] (by decide +kernel) (by decide +kernel)
set_option maxRecDepth 20000 in
theorem gX2_parse_X7_kind : GoodIn wsX2_parse (wsV RX2 26 RX7 yX7_kind wsX7_kind) := goodIn_app (goodIn_of _ (by decide +kernel)) ggX2_parse_X7_kind
set_option maxRecDepth 20000 in
theorem ggX2_parse_X2_readClause : GoodIn wsX2_parse wsX2_readClause := goodIn_r _ [24, 25, 26, 12, 13, 14, 15, 16, 17, 18, 19, 27, 28, 29, 23, 30, 1, 2, 31, 32, 33, 34, 35, 36, 37, 38, 6, 39, 10, 40, 41, 42, 43, 44, 45, 46, 47, 48, 49, 50, 51, 52, 9, 53, 54, 55, 56, 57, 58, 59, 60, 61, 62, 63, 64, 65, 66, 67, 68, 69, 70, 71, 72, 73, 74, 75, 76, 77, 78, 79, 80, 81, 82, 83, 84, 85, 86, 87, 88, 89, 90, 91, 92, 93, 94, 95, 96, 97, 11, 98, 99, 100, 101, 102, 103, 104, 105, 106, 107, 108, 109, 110, 111, 112, 113, 114, 115, 116, 117, 118, 119] (by decide +kernel) (by decide +kernel)
set_option maxRecDepth 20000 in
theorem gX2_parse_X2_readClause : GoodIn wsX2_parse (wsV RX2 32 RX2 yX2_readClause wsX2_readClause) := goodIn_app (goodIn_of _ (by decide +kernel)) ggX2_parse_X2_readClause
theorem dX2_parse_0 : decode cX2_parse 0 = .ok (.aload_n 0, 1) := by decide +kernel
theorem dX2_parse_1 : decode cX2_parse 1 = .ok (.iconst 0, 1) := by decide +kernel
theorem dX2_parse_2 : decode cX2_parse 2 = .ok (.putfield 9, 3) := by decide +kernel
theorem dX2_parse_5 : decode cX2_parse 5 = .ok (.aload_n 0, 1) := by decide +kernel
theorem dX2_parse_6 : decode cX2_parse 6 = .ok (.iconst (-1), 1) := by decide +kernel
theorem dX2_parse_7 : decode cX2_parse 7 = .ok (.putfield 15, 3) := by decide +kernel
theorem dX2_parse_10 : decode cX2_parse 10 = .ok (.aload_n 2, 1) := by decide +kernel
theorem dX2_parse_11 : decode cX2_parse 11 = .ok (.invokevirtual 21, 3) := by decide +kernel
theorem dX2_parse_14 : decode cX2_parse 14 = .ok (.iconst 0, 1) := by decide +kernel
theorem dX2_parse_15 : decode cX2_parse 15 = .ok (.istore_n 3, 1) := by decide +kernel
theorem dX2_parse_16 : decode cX2_parse 16 = .ok (.iload_n 3, 1) := by decide +kernel
theorem dX2_parse_17 : decode cX2_parse 17 = .ok (.bipush 24, 2) := by decide +kernel
theorem dX2_parse_19 : decode cX2_parse 19 = .ok (.if_icmp .gt 29, 3) := by decide +kernel
theorem dX2_parse_22 : decode cX2_parse 22 = .ok (.aload_n 0, 1) := by decide +kernel
theorem dX2_parse_23 : decode cX2_parse 23 = .ok (.getfield 9, 3) := by decide +kernel
theorem dX2_parse_26 : decode cX2_parse 26 = .ok (.ifCond .ne 22, 3) := by decide +kernel
theorem dX2_parse_29 : decode cX2_parse 29 = .ok (.aload_n 1, 1) := by decide +kernel
theorem dX2_parse_30 : decode cX2_parse 30 = .ok (.invokevirtual 26, 3) := by decide +kernel
theorem dX2_parse_33 : decode cX2_parse 33 = .ok (.ifCond .eq 15, 3) := by decide +kernel
theorem dX2_parse_36 : decode cX2_parse 36 = .ok (.aload_n 0, 1) := by decide +kernel
theorem dX2_parse_37 : decode cX2_parse 37 = .ok (.aload_n 1, 1) := by decide +kernel
theorem dX2_parse_38 : decode cX2_parse 38 = .ok (.aload_n 2, 1) := by decide +kernel
theorem dX2_parse_39 : decode cX2_parse 39 = .ok (.invokevirtual 32, 3) := by decide +kernel
theorem dX2_parse_42 : decode cX2_parse 42 = .ok (.iinc 3 1, 3) := by decide +kernel
theorem dX2_parse_45 : decode cX2_parse 45 = .ok (.goto (-29), 3) := by decide +kernel
theorem dX2_parse_48 : decode cX2_parse 48 = .ok (.return_, 1) := by decide +kernel
set_option maxRecDepth 20000 in
theorem ggX2_fail_X7_start : GoodIn wsX2_fail wsX7_start := goodIn_r _ [7, 8, 9, 10, 14, 15, 16, 17, 18] (by decide +kernel) (by decide +kernel)
set_option maxRecDepth 20000 in
theorem gX2_fail_X7_start : GoodIn wsX2_fail (wsV RX2 36 RX7 yX7_start wsX7_start) := goodIn_app (goodIn_of _ (by decide +kernel)) ggX2_fail_X7_start
theorem dX2_fail_0 : decode cX2_fail 0 = .ok (.aload_n 0, 1) := by decide +kernel
theorem dX2_fail_1 : decode cX2_fail 1 = .ok (.getfield 9, 3) := by decide +kernel
theorem dX2_fail_4 : decode cX2_fail 4 = .ok (.ifCond .ne 16, 3) := by decide +kernel
theorem dX2_fail_7 : decode cX2_fail 7 = .ok (.aload_n 0, 1) := by decide +kernel
theorem dX2_fail_8 : decode cX2_fail 8 = .ok (.iload_n 2, 1) := by decide +kernel
theorem dX2_fail_9 : decode cX2_fail 9 = .ok (.putfield 9, 3) := by decide +kernel
theorem dX2_fail_12 : decode cX2_fail 12 = .ok (.aload_n 0, 1) := by decide +kernel
theorem dX2_fail_13 : decode cX2_fail 13 = .ok (.aload_n 1, 1) := by decide +kernel
theorem dX2_fail_14 : decode cX2_fail 14 = .ok (.invokevirtual 36, 3) := by decide +kernel
theorem dX2_fail_17 : decode cX2_fail 17 = .ok (.putfield 15, 3) := by decide +kernel
theorem dX2_fail_20 : decode cX2_fail 20 = .ok (.return_, 1) := by decide +kernel
set_option maxRecDepth 20000 in
theorem ggX2_readClause_X7_kind : GoodIn wsX2_readClause wsX7_kind := goodIn_r _ [7, 8, 9, 10, 106, 107, 108, 109, 110] (by decide +kernel) (by decide +kernel)
set_option maxRecDepth 20000 in
theorem gX2_readClause_X7_kind : GoodIn wsX2_readClause (wsV RX2 26 RX7 yX7_kind wsX7_kind) := goodIn_app (goodIn_of _ (by decide +kernel)) ggX2_readClause_X7_kind
set_option maxRecDepth 20000 in
theorem ggX2_readClause_X2_fail : GoodIn wsX2_readClause wsX2_fail := goodIn_r _ [15, 16, 17, 18, 19, 20, 6, 21, 8, 9, 22, 97, 98, 99, 106, 107, 108, 109, 110] (by decide +kernel) (by decide +kernel)
set_option maxRecDepth 20000 in
theorem gX2_readClause_X2_fail : GoodIn wsX2_readClause (wsV RX2 39 RX2 yX2_fail wsX2_fail) := goodIn_app (goodIn_of _ (by decide +kernel)) ggX2_readClause_X2_fail
set_option maxRecDepth 20000 in
theorem ggX2_readClause_X6_hasLaw : GoodIn wsX2_readClause wsX6_hasLaw := goodIn_r _ [27, 28, 100, 101, 102, 103, 104, 105] (by decide +kernel) (by decide +kernel)
set_option maxRecDepth 20000 in
theorem gX2_readClause_X6_hasLaw : GoodIn wsX2_readClause (wsV RX2 43 RX6 yX6_hasLaw wsX6_hasLaw) := goodIn_app (goodIn_of _ (by decide +kernel)) ggX2_readClause_X6_hasLaw
set_option maxRecDepth 20000 in
theorem ggX2_readClause_X6_setClause : GoodIn wsX2_readClause wsX6_setClause := goodIn_r _ [32, 33, 100, 101, 102, 103, 104, 105] (by decide +kernel) (by decide +kernel)
set_option maxRecDepth 20000 in
theorem gX2_readClause_X6_setClause : GoodIn wsX2_readClause (wsV RX2 50 RX6 yX6_setClause wsX6_setClause) := goodIn_app (goodIn_of _ (by decide +kernel)) ggX2_readClause_X6_setClause
set_option maxRecDepth 20000 in
theorem ggX2_readClause_X7_advance : GoodIn wsX2_readClause wsX7_advance := goodIn_r _ [37, 8, 9, 106, 107, 108, 109, 110] (by decide +kernel) (by decide +kernel)
set_option maxRecDepth 20000 in
theorem gX2_readClause_X7_advance : GoodIn wsX2_readClause (wsV RX2 54 RX7 yX7_advance wsX7_advance) := goodIn_app (goodIn_of _ (by decide +kernel)) ggX2_readClause_X7_advance
set_option maxRecDepth 20000 in
theorem ggX2_readClause_X6_beginLaw : GoodIn wsX2_readClause wsX6_beginLaw := goodIn_r _ [41, 28, 42, 100, 101, 102, 103, 104, 105] (by decide +kernel) (by decide +kernel)
set_option maxRecDepth 20000 in
theorem gX2_readClause_X6_beginLaw : GoodIn wsX2_readClause (wsV RX2 57 RX6 yX6_beginLaw wsX6_beginLaw) := goodIn_app (goodIn_of _ (by decide +kernel)) ggX2_readClause_X6_beginLaw
set_option maxRecDepth 20000 in
theorem ggX2_readClause_X2_readLevel : GoodIn wsX2_readClause wsX2_readLevel := goodIn_r _ [46, 16, 47, 48, 49, 14, 50, 51, 52, 43, 44, 45, 3, 4, 5, 6, 7, 8, 9, 10, 53, 54, 55, 34, 35, 36, 37, 56, 57, 58, 26, 59, 42, 60, 61, 62, 63, 64, 65, 11, 12, 13, 15, 17, 18, 19, 20, 21, 22, 66, 67, 68, 69, 70, 71, 72, 73, 74, 75, 76, 77, 78, 79, 1, 80, 81, 82, 83, 97, 98, 99, 106, 107, 108, 109, 110, 100, 101, 102, 103, 104, 105] (by decide +kernel) (by decide +kernel)
set_option maxRecDepth 20000 in
theorem gX2_readClause_X2_readLevel : GoodIn wsX2_readClause (wsV RX2 61 RX2 yX2_readLevel wsX2_readLevel) := goodIn_app (goodIn_of _ (by decide +kernel)) ggX2_readClause_X2_readLevel
set_option maxRecDepth 20000 in
theorem ggX2_readClause_X6_closeLaw : GoodIn wsX2_readClause wsX6_closeLaw := goodIn_r _ [87, 88, 42, 100, 101, 102, 103, 104, 105] (by decide +kernel) (by decide +kernel)
set_option maxRecDepth 20000 in
theorem gX2_readClause_X6_closeLaw : GoodIn wsX2_readClause (wsV RX2 65 RX6 yX6_closeLaw wsX6_closeLaw) := goodIn_app (goodIn_of _ (by decide +kernel)) ggX2_readClause_X6_closeLaw
set_option maxRecDepth 20000 in
theorem ggX2_readClause_X2_readDeed : GoodIn wsX2_readClause wsX2_readDeed := goodIn_r _ [92, 93, 94, 95, 14, 96, 16, 2, 3, 4, 5, 6, 7, 8, 9, 10, 11, 12, 13, 15, 17, 18, 19, 20, 21, 22, 71, 72, 73, 74, 75, 29, 30, 31, 26, 32, 33, 34, 35, 36, 37, 80, 81, 82, 83, 97, 98, 99, 100, 101, 102, 103, 104, 105, 106, 107, 108, 109, 110] (by decide +kernel) (by decide +kernel)
set_option maxRecDepth 20000 in
theorem gX2_readClause_X2_readDeed : GoodIn wsX2_readClause (wsV RX2 68 RX2 yX2_readDeed wsX2_readDeed) := goodIn_app (goodIn_of _ (by decide +kernel)) ggX2_readClause_X2_readDeed
set_option maxRecDepth 20000 in
theorem ggX2_readClause_X2_expect : GoodIn wsX2_readClause wsX2_expect := goodIn_r _ [83, 16, 3, 4, 5, 6, 7, 8, 9, 10, 34, 35, 36, 37, 11, 12, 13, 14, 15, 17, 18, 19, 20, 21, 22, 97, 98, 99, 106, 107, 108, 109, 110] (by decide +kernel) (by decide +kernel)
set_option maxRecDepth 20000 in
theorem gX2_readClause_X2_expect : GoodIn wsX2_readClause (wsV RX2 72 RX2 yX2_expect wsX2_expect) := goodIn_app (goodIn_of _ (by decide +kernel)) ggX2_readClause_X2_expect
theorem dX2_readClause_0 : decode cX2_readClause 0 = .ok (.aload_n 1, 1) := by decide +kernel
theorem dX2_readClause_1 : decode cX2_readClause 1 = .ok (.invokevirtual 26, 3) := by decide +kernel
theorem dX2_readClause_4 : decode cX2_readClause 4 = .ok (.istore_n 3, 1) := by decide +kernel
theorem dX2_readClause_5 : decode cX2_readClause 5 = .ok (.aload_n 0, 1) := by decide +kernel
theorem dX2_readClause_6 : decode cX2_readClause 6 = .ok (.iload_n 3, 1) := by decide +kernel
theorem dX2_readClause_7 : decode cX2_readClause 7 = .ok (.bipush 16, 2) := by decide +kernel
theorem dX2_readClause_9 : decode cX2_readClause 9 = .ok (.isub, 1) := by decide +kernel
theorem dX2_readClause_10 : decode cX2_readClause 10 = .ok (.putfield 18, 3) := by decide +kernel
theorem dX2_readClause_13 : decode cX2_readClause 13 = .ok (.iload_n 3, 1) := by decide +kernel
theorem dX2_readClause_14 : decode cX2_readClause 14 = .ok (.bipush 16, 2) := by decide +kernel
theorem dX2_readClause_16 : decode cX2_readClause 16 = .ok (.if_icmp .lt 9, 3) := by decide +kernel
theorem dX2_readClause_19 : decode cX2_readClause 19 = .ok (.iload_n 3, 1) := by decide +kernel
theorem dX2_readClause_20 : decode cX2_readClause 20 = .ok (.bipush 23, 2) := by decide +kernel
theorem dX2_readClause_22 : decode cX2_readClause 22 = .ok (.if_icmp .le 12, 3) := by decide +kernel
theorem dX2_readClause_25 : decode cX2_readClause 25 = .ok (.aload_n 0, 1) := by decide +kernel
theorem dX2_readClause_26 : decode cX2_readClause 26 = .ok (.aload_n 1, 1) := by decide +kernel
theorem dX2_readClause_27 : decode cX2_readClause 27 = .ok (.iconst 1, 1) := by decide +kernel
theorem dX2_readClause_28 : decode cX2_readClause 28 = .ok (.invokevirtual 39, 3) := by decide +kernel
theorem dX2_readClause_31 : decode cX2_readClause 31 = .ok (.goto 127, 3) := by decide +kernel
theorem dX2_readClause_34 : decode cX2_readClause 34 = .ok (.aload_n 2, 1) := by decide +kernel
theorem dX2_readClause_35 : decode cX2_readClause 35 = .ok (.aload_n 0, 1) := by decide +kernel
theorem dX2_readClause_36 : decode cX2_readClause 36 = .ok (.getfield 18, 3) := by decide +kernel
theorem dX2_readClause_39 : decode cX2_readClause 39 = .ok (.invokevirtual 43, 3) := by decide +kernel
theorem dX2_readClause_42 : decode cX2_readClause 42 = .ok (.ifCond .eq 12, 3) := by decide +kernel
theorem dX2_readClause_45 : decode cX2_readClause 45 = .ok (.aload_n 0, 1) := by decide +kernel
theorem dX2_readClause_46 : decode cX2_readClause 46 = .ok (.aload_n 1, 1) := by decide +kernel
theorem dX2_readClause_47 : decode cX2_readClause 47 = .ok (.iconst 4, 1) := by decide +kernel
theorem dX2_readClause_48 : decode cX2_readClause 48 = .ok (.invokevirtual 39, 3) := by decide +kernel
theorem dX2_readClause_51 : decode cX2_readClause 51 = .ok (.goto 107, 3) := by decide +kernel
theorem dX2_readClause_54 : decode cX2_readClause 54 = .ok (.aload_n 2, 1) := by decide +kernel
theorem dX2_readClause_55 : decode cX2_readClause 55 = .ok (.getfield 47, 3) := by decide +kernel
theorem dX2_readClause_58 : decode cX2_readClause 58 = .ok (.bipush 24, 2) := by decide +kernel
theorem dX2_readClause_60 : decode cX2_readClause 60 = .ok (.if_icmp .lt 13, 3) := by decide +kernel
theorem dX2_readClause_63 : decode cX2_readClause 63 = .ok (.aload_n 0, 1) := by decide +kernel
theorem dX2_readClause_64 : decode cX2_readClause 64 = .ok (.aload_n 1, 1) := by decide +kernel
theorem dX2_readClause_65 : decode cX2_readClause 65 = .ok (.bipush 6, 2) := by decide +kernel
theorem dX2_readClause_67 : decode cX2_readClause 67 = .ok (.invokevirtual 39, 3) := by decide +kernel
theorem dX2_readClause_70 : decode cX2_readClause 70 = .ok (.goto 88, 3) := by decide +kernel
theorem dX2_readClause_73 : decode cX2_readClause 73 = .ok (.aload_n 2, 1) := by decide +kernel
theorem dX2_readClause_74 : decode cX2_readClause 74 = .ok (.aload_n 2, 1) := by decide +kernel
theorem dX2_readClause_75 : decode cX2_readClause 75 = .ok (.getfield 47, 3) := by decide +kernel
theorem dX2_readClause_78 : decode cX2_readClause 78 = .ok (.iconst 0, 1) := by decide +kernel
theorem dX2_readClause_79 : decode cX2_readClause 79 = .ok (.iload_n 3, 1) := by decide +kernel
theorem dX2_readClause_80 : decode cX2_readClause 80 = .ok (.invokevirtual 50, 3) := by decide +kernel
theorem dX2_readClause_83 : decode cX2_readClause 83 = .ok (.aload_n 1, 1) := by decide +kernel
theorem dX2_readClause_84 : decode cX2_readClause 84 = .ok (.invokevirtual 54, 3) := by decide +kernel
theorem dX2_readClause_87 : decode cX2_readClause 87 = .ok (.aload_n 0, 1) := by decide +kernel
theorem dX2_readClause_88 : decode cX2_readClause 88 = .ok (.getfield 18, 3) := by decide +kernel
theorem dX2_readClause_91 : decode cX2_readClause 91 = .ok (.iconst 4, 1) := by decide +kernel
theorem dX2_readClause_92 : decode cX2_readClause 92 = .ok (.if_icmp .ge 42, 3) := by decide +kernel
theorem dX2_readClause_95 : decode cX2_readClause 95 = .ok (.aload_n 2, 1) := by decide +kernel
theorem dX2_readClause_96 : decode cX2_readClause 96 = .ok (.aload_n 0, 1) := by decide +kernel
theorem dX2_readClause_97 : decode cX2_readClause 97 = .ok (.getfield 18, 3) := by decide +kernel
theorem dX2_readClause_100 : decode cX2_readClause 100 = .ok (.invokevirtual 57, 3) := by decide +kernel
theorem dX2_readClause_103 : decode cX2_readClause 103 = .ok (.aload_n 0, 1) := by decide +kernel
theorem dX2_readClause_104 : decode cX2_readClause 104 = .ok (.aload_n 1, 1) := by decide +kernel
theorem dX2_readClause_105 : decode cX2_readClause 105 = .ok (.aload_n 2, 1) := by decide +kernel
theorem dX2_readClause_106 : decode cX2_readClause 106 = .ok (.aload_n 0, 1) := by decide +kernel
theorem dX2_readClause_107 : decode cX2_readClause 107 = .ok (.getfield 18, 3) := by decide +kernel
theorem dX2_readClause_110 : decode cX2_readClause 110 = .ok (.iconst 3, 1) := by decide +kernel
theorem dX2_readClause_111 : decode cX2_readClause 111 = .ok (.if_icmp .ne 7, 3) := by decide +kernel
theorem dX2_readClause_114 : decode cX2_readClause 114 = .ok (.iconst 0, 1) := by decide +kernel
theorem dX2_readClause_115 : decode cX2_readClause 115 = .ok (.goto 4, 3) := by decide +kernel
theorem dX2_readClause_118 : decode cX2_readClause 118 = .ok (.iconst 3, 1) := by decide +kernel
theorem dX2_readClause_119 : decode cX2_readClause 119 = .ok (.iconst 0, 1) := by decide +kernel
theorem dX2_readClause_120 : decode cX2_readClause 120 = .ok (.invokevirtual 61, 3) := by decide +kernel
theorem dX2_readClause_123 : decode cX2_readClause 123 = .ok (.aload_n 2, 1) := by decide +kernel
theorem dX2_readClause_124 : decode cX2_readClause 124 = .ok (.aload_n 0, 1) := by decide +kernel
theorem dX2_readClause_125 : decode cX2_readClause 125 = .ok (.getfield 18, 3) := by decide +kernel
theorem dX2_readClause_128 : decode cX2_readClause 128 = .ok (.invokevirtual 65, 3) := by decide +kernel
theorem dX2_readClause_131 : decode cX2_readClause 131 = .ok (.goto 10, 3) := by decide +kernel
theorem dX2_readClause_134 : decode cX2_readClause 134 = .ok (.aload_n 0, 1) := by decide +kernel
theorem dX2_readClause_135 : decode cX2_readClause 135 = .ok (.aload_n 1, 1) := by decide +kernel
theorem dX2_readClause_136 : decode cX2_readClause 136 = .ok (.aload_n 2, 1) := by decide +kernel
theorem dX2_readClause_137 : decode cX2_readClause 137 = .ok (.iload_n 3, 1) := by decide +kernel
theorem dX2_readClause_138 : decode cX2_readClause 138 = .ok (.invokevirtual 68, 3) := by decide +kernel
theorem dX2_readClause_141 : decode cX2_readClause 141 = .ok (.aload_n 0, 1) := by decide +kernel
theorem dX2_readClause_142 : decode cX2_readClause 142 = .ok (.aload_n 1, 1) := by decide +kernel
theorem dX2_readClause_143 : decode cX2_readClause 143 = .ok (.bipush 15, 2) := by decide +kernel
theorem dX2_readClause_145 : decode cX2_readClause 145 = .ok (.invokevirtual 72, 3) := by decide +kernel
theorem dX2_readClause_148 : decode cX2_readClause 148 = .ok (.aload_n 2, 1) := by decide +kernel
theorem dX2_readClause_149 : decode cX2_readClause 149 = .ok (.dup, 1) := by decide +kernel
theorem dX2_readClause_150 : decode cX2_readClause 150 = .ok (.getfield 47, 3) := by decide +kernel
theorem dX2_readClause_153 : decode cX2_readClause 153 = .ok (.iconst 1, 1) := by decide +kernel
theorem dX2_readClause_154 : decode cX2_readClause 154 = .ok (.iadd, 1) := by decide +kernel
theorem dX2_readClause_155 : decode cX2_readClause 155 = .ok (.putfield 47, 3) := by decide +kernel
theorem dX2_readClause_158 : decode cX2_readClause 158 = .ok (.return_, 1) := by decide +kernel
set_option maxRecDepth 20000 in
theorem ggX2_readDeed_X2_readNumber : GoodIn wsX2_readDeed wsX2_readNumber := goodIn_r _ [5, 6, 7, 8, 9, 10, 11, 12, 13, 14, 15, 16, 17, 18, 4, 19, 20, 21, 22, 23, 24, 25, 26, 27, 28, 29, 30, 31, 32, 33, 34, 35, 36, 37, 38, 39, 40, 45, 46, 47, 48, 49, 50, 51, 52, 53, 54, 55, 56, 57, 58] (by decide +kernel) (by decide +kernel)
set_option maxRecDepth 20000 in
theorem gX2_readDeed_X2_readNumber : GoodIn wsX2_readDeed (wsV RX2 75 RX2 yX2_readNumber wsX2_readNumber) := goodIn_app (goodIn_of _ (by decide +kernel)) ggX2_readDeed_X2_readNumber
set_option maxRecDepth 20000 in
theorem ggX2_readDeed_X2_expect : GoodIn wsX2_readDeed wsX2_expect := goodIn_r _ [44, 6, 8, 9, 10, 11, 12, 13, 14, 15, 37, 38, 39, 40, 16, 17, 18, 4, 19, 20, 21, 22, 23, 24, 25, 45, 46, 47, 54, 55, 56, 57, 58] (by decide +kernel) (by decide +kernel)
set_option maxRecDepth 20000 in
theorem gX2_readDeed_X2_expect : GoodIn wsX2_readDeed (wsV RX2 72 RX2 yX2_expect wsX2_expect) := goodIn_app (goodIn_of _ (by decide +kernel)) ggX2_readDeed_X2_expect
theorem dX2_readDeed_0 : decode cX2_readDeed 0 = .ok (.iload_n 3, 1) := by decide +kernel
theorem dX2_readDeed_1 : decode cX2_readDeed 1 = .ok (.bipush 23, 2) := by decide +kernel
theorem dX2_readDeed_3 : decode cX2_readDeed 3 = .ok (.if_icmp .ne 14, 3) := by decide +kernel
theorem dX2_readDeed_6 : decode cX2_readDeed 6 = .ok (.aload_n 0, 1) := by decide +kernel
theorem dX2_readDeed_7 : decode cX2_readDeed 7 = .ok (.aload_n 1, 1) := by decide +kernel
theorem dX2_readDeed_8 : decode cX2_readDeed 8 = .ok (.aload_n 2, 1) := by decide +kernel
theorem dX2_readDeed_9 : decode cX2_readDeed 9 = .ok (.iconst 1, 1) := by decide +kernel
theorem dX2_readDeed_10 : decode cX2_readDeed 10 = .ok (.iconst 1, 1) := by decide +kernel
theorem dX2_readDeed_11 : decode cX2_readDeed 11 = .ok (.bipush 99, 2) := by decide +kernel
theorem dX2_readDeed_13 : decode cX2_readDeed 13 = .ok (.invokevirtual 75, 3) := by decide +kernel
theorem dX2_readDeed_16 : decode cX2_readDeed 16 = .ok (.return_, 1) := by decide +kernel
theorem dX2_readDeed_17 : decode cX2_readDeed 17 = .ok (.aload_n 0, 1) := by decide +kernel
theorem dX2_readDeed_18 : decode cX2_readDeed 18 = .ok (.aload_n 1, 1) := by decide +kernel
theorem dX2_readDeed_19 : decode cX2_readDeed 19 = .ok (.aload_n 2, 1) := by decide +kernel
theorem dX2_readDeed_20 : decode cX2_readDeed 20 = .ok (.iconst 1, 1) := by decide +kernel
theorem dX2_readDeed_21 : decode cX2_readDeed 21 = .ok (.iconst 0, 1) := by decide +kernel
theorem dX2_readDeed_22 : decode cX2_readDeed 22 = .ok (.bipush 9, 2) := by decide +kernel
theorem dX2_readDeed_24 : decode cX2_readDeed 24 = .ok (.invokevirtual 75, 3) := by decide +kernel
theorem dX2_readDeed_27 : decode cX2_readDeed 27 = .ok (.iload_n 3, 1) := by decide +kernel
theorem dX2_readDeed_28 : decode cX2_readDeed 28 = .ok (.bipush 20, 2) := by decide +kernel
theorem dX2_readDeed_30 : decode cX2_readDeed 30 = .ok (.if_icmp .ne 38, 3) := by decide +kernel
theorem dX2_readDeed_33 : decode cX2_readDeed 33 = .ok (.aload_n 0, 1) := by decide +kernel
theorem dX2_readDeed_34 : decode cX2_readDeed 34 = .ok (.aload_n 1, 1) := by decide +kernel
theorem dX2_readDeed_35 : decode cX2_readDeed 35 = .ok (.bipush 24, 2) := by decide +kernel
theorem dX2_readDeed_37 : decode cX2_readDeed 37 = .ok (.invokevirtual 72, 3) := by decide +kernel
theorem dX2_readDeed_40 : decode cX2_readDeed 40 = .ok (.aload_n 0, 1) := by decide +kernel
theorem dX2_readDeed_41 : decode cX2_readDeed 41 = .ok (.aload_n 1, 1) := by decide +kernel
theorem dX2_readDeed_42 : decode cX2_readDeed 42 = .ok (.aload_n 2, 1) := by decide +kernel
theorem dX2_readDeed_43 : decode cX2_readDeed 43 = .ok (.iconst 2, 1) := by decide +kernel
theorem dX2_readDeed_44 : decode cX2_readDeed 44 = .ok (.iconst 0, 1) := by decide +kernel
theorem dX2_readDeed_45 : decode cX2_readDeed 45 = .ok (.iconst 5, 1) := by decide +kernel
theorem dX2_readDeed_46 : decode cX2_readDeed 46 = .ok (.invokevirtual 75, 3) := by decide +kernel
theorem dX2_readDeed_49 : decode cX2_readDeed 49 = .ok (.aload_n 0, 1) := by decide +kernel
theorem dX2_readDeed_50 : decode cX2_readDeed 50 = .ok (.aload_n 1, 1) := by decide +kernel
theorem dX2_readDeed_51 : decode cX2_readDeed 51 = .ok (.bipush 33, 2) := by decide +kernel
theorem dX2_readDeed_53 : decode cX2_readDeed 53 = .ok (.invokevirtual 72, 3) := by decide +kernel
theorem dX2_readDeed_56 : decode cX2_readDeed 56 = .ok (.aload_n 0, 1) := by decide +kernel
theorem dX2_readDeed_57 : decode cX2_readDeed 57 = .ok (.aload_n 1, 1) := by decide +kernel
theorem dX2_readDeed_58 : decode cX2_readDeed 58 = .ok (.aload_n 2, 1) := by decide +kernel
theorem dX2_readDeed_59 : decode cX2_readDeed 59 = .ok (.iconst 3, 1) := by decide +kernel
theorem dX2_readDeed_60 : decode cX2_readDeed 60 = .ok (.iconst 0, 1) := by decide +kernel
theorem dX2_readDeed_61 : decode cX2_readDeed 61 = .ok (.iconst 2, 1) := by decide +kernel
theorem dX2_readDeed_62 : decode cX2_readDeed 62 = .ok (.invokevirtual 75, 3) := by decide +kernel
theorem dX2_readDeed_65 : decode cX2_readDeed 65 = .ok (.goto 25, 3) := by decide +kernel
theorem dX2_readDeed_68 : decode cX2_readDeed 68 = .ok (.iload_n 3, 1) := by decide +kernel
theorem dX2_readDeed_69 : decode cX2_readDeed 69 = .ok (.bipush 21, 2) := by decide +kernel
theorem dX2_readDeed_71 : decode cX2_readDeed 71 = .ok (.if_icmp .ne 19, 3) := by decide +kernel
theorem dX2_readDeed_74 : decode cX2_readDeed 74 = .ok (.aload_n 0, 1) := by decide +kernel
theorem dX2_readDeed_75 : decode cX2_readDeed 75 = .ok (.aload_n 1, 1) := by decide +kernel
theorem dX2_readDeed_76 : decode cX2_readDeed 76 = .ok (.bipush 25, 2) := by decide +kernel
theorem dX2_readDeed_78 : decode cX2_readDeed 78 = .ok (.invokevirtual 72, 3) := by decide +kernel
theorem dX2_readDeed_81 : decode cX2_readDeed 81 = .ok (.aload_n 0, 1) := by decide +kernel
theorem dX2_readDeed_82 : decode cX2_readDeed 82 = .ok (.aload_n 1, 1) := by decide +kernel
theorem dX2_readDeed_83 : decode cX2_readDeed 83 = .ok (.aload_n 2, 1) := by decide +kernel
theorem dX2_readDeed_84 : decode cX2_readDeed 84 = .ok (.iconst 2, 1) := by decide +kernel
theorem dX2_readDeed_85 : decode cX2_readDeed 85 = .ok (.iconst 0, 1) := by decide +kernel
theorem dX2_readDeed_86 : decode cX2_readDeed 86 = .ok (.iconst 3, 1) := by decide +kernel
theorem dX2_readDeed_87 : decode cX2_readDeed 87 = .ok (.invokevirtual 75, 3) := by decide +kernel
theorem dX2_readDeed_90 : decode cX2_readDeed 90 = .ok (.return_, 1) := by decide +kernel
set_option maxRecDepth 20000 in
theorem ggX2_expect_X7_kind : GoodIn wsX2_expect wsX7_kind := goodIn_r _ [6, 7, 8, 9, 28, 29, 30, 31, 32] (by decide +kernel) (by decide +kernel)
set_option maxRecDepth 20000 in
theorem gX2_expect_X7_kind : GoodIn wsX2_expect (wsV RX2 26 RX7 yX7_kind wsX7_kind) := goodIn_app (goodIn_of _ (by decide +kernel)) ggX2_expect_X7_kind
set_option maxRecDepth 20000 in
theorem ggX2_expect_X7_advance : GoodIn wsX2_expect wsX7_advance := goodIn_r _ [13, 7, 8, 28, 29, 30, 31, 32] (by decide +kernel) (by decide +kernel)
set_option maxRecDepth 20000 in
theorem gX2_expect_X7_advance : GoodIn wsX2_expect (wsV RX2 54 RX7 yX7_advance wsX7_advance) := goodIn_app (goodIn_of _ (by decide +kernel)) ggX2_expect_X7_advance
set_option maxRecDepth 20000 in
theorem ggX2_expect_X2_fail : GoodIn wsX2_expect wsX2_fail := goodIn_r _ [18, 1, 19, 20, 21, 22, 5, 23, 7, 8, 24, 25, 26, 27, 28, 29, 30, 31, 32] (by decide +kernel) (by decide +kernel)
set_option maxRecDepth 20000 in
theorem gX2_expect_X2_fail : GoodIn wsX2_expect (wsV RX2 39 RX2 yX2_fail wsX2_fail) := goodIn_app (goodIn_of _ (by decide +kernel)) ggX2_expect_X2_fail
theorem dX2_expect_0 : decode cX2_expect 0 = .ok (.aload_n 0, 1) := by decide +kernel
theorem dX2_expect_1 : decode cX2_expect 1 = .ok (.getfield 9, 3) := by decide +kernel
theorem dX2_expect_4 : decode cX2_expect 4 = .ok (.ifCond .eq 4, 3) := by decide +kernel
theorem dX2_expect_7 : decode cX2_expect 7 = .ok (.return_, 1) := by decide +kernel
theorem dX2_expect_8 : decode cX2_expect 8 = .ok (.aload_n 1, 1) := by decide +kernel
theorem dX2_expect_9 : decode cX2_expect 9 = .ok (.invokevirtual 26, 3) := by decide +kernel
theorem dX2_expect_12 : decode cX2_expect 12 = .ok (.iload_n 2, 1) := by decide +kernel
theorem dX2_expect_13 : decode cX2_expect 13 = .ok (.if_icmp .ne 10, 3) := by decide +kernel
theorem dX2_expect_16 : decode cX2_expect 16 = .ok (.aload_n 1, 1) := by decide +kernel
theorem dX2_expect_17 : decode cX2_expect 17 = .ok (.invokevirtual 54, 3) := by decide +kernel
theorem dX2_expect_20 : decode cX2_expect 20 = .ok (.goto 9, 3) := by decide +kernel
theorem dX2_expect_23 : decode cX2_expect 23 = .ok (.aload_n 0, 1) := by decide +kernel
theorem dX2_expect_24 : decode cX2_expect 24 = .ok (.aload_n 1, 1) := by decide +kernel
theorem dX2_expect_25 : decode cX2_expect 25 = .ok (.iconst 1, 1) := by decide +kernel
theorem dX2_expect_26 : decode cX2_expect 26 = .ok (.invokevirtual 39, 3) := by decide +kernel
theorem dX2_expect_29 : decode cX2_expect 29 = .ok (.return_, 1) := by decide +kernel
set_option maxRecDepth 20000 in
theorem ggX2_readNumber_X7_kind : GoodIn wsX2_readNumber wsX7_kind := goodIn_r _ [7, 8, 9, 10, 46, 47, 48, 49, 50] (by decide +kernel) (by decide +kernel)
set_option maxRecDepth 20000 in
theorem gX2_readNumber_X7_kind : GoodIn wsX2_readNumber (wsV RX2 26 RX7 yX7_kind wsX7_kind) := goodIn_app (goodIn_of _ (by decide +kernel)) ggX2_readNumber_X7_kind
set_option maxRecDepth 20000 in
theorem ggX2_readNumber_X2_fail : GoodIn wsX2_readNumber wsX2_fail := goodIn_r _ [15, 1, 16, 17, 18, 19, 6, 20, 8, 9, 21, 37, 38, 39, 46, 47, 48, 49, 50] (by decide +kernel) (by decide +kernel)
set_option maxRecDepth 20000 in
theorem gX2_readNumber_X2_fail : GoodIn wsX2_readNumber (wsV RX2 39 RX2 yX2_fail wsX2_fail) := goodIn_app (goodIn_of _ (by decide +kernel)) ggX2_readNumber_X2_fail
set_option maxRecDepth 20000 in
theorem ggX2_readNumber_X7_value : GoodIn wsX2_readNumber wsX7_value := goodIn_r _ [25, 8, 9, 26, 46, 47, 48, 49, 50] (by decide +kernel) (by decide +kernel)
set_option maxRecDepth 20000 in
theorem gX2_readNumber_X7_value : GoodIn wsX2_readNumber (wsV RX2 79 RX7 yX7_value wsX7_value) := goodIn_app (goodIn_of _ (by decide +kernel)) ggX2_readNumber_X7_value
set_option maxRecDepth 20000 in
theorem ggX2_readNumber_X6_setClause : GoodIn wsX2_readNumber wsX6_setClause := goodIn_r _ [31, 32, 40, 41, 42, 43, 44, 45] (by decide +kernel) (by decide +kernel)
set_option maxRecDepth 20000 in
theorem gX2_readNumber_X6_setClause : GoodIn wsX2_readNumber (wsV RX2 50 RX6 yX6_setClause wsX6_setClause) := goodIn_app (goodIn_of _ (by decide +kernel)) ggX2_readNumber_X6_setClause
set_option maxRecDepth 20000 in
theorem ggX2_readNumber_X7_advance : GoodIn wsX2_readNumber wsX7_advance := goodIn_r _ [36, 8, 9, 46, 47, 48, 49, 50] (by decide +kernel) (by decide +kernel)
set_option maxRecDepth 20000 in
theorem gX2_readNumber_X7_advance : GoodIn wsX2_readNumber (wsV RX2 54 RX7 yX7_advance wsX7_advance) := goodIn_app (goodIn_of _ (by decide +kernel)) ggX2_readNumber_X7_advance
theorem dX2_readNumber_0 : decode cX2_readNumber 0 = .ok (.aload_n 0, 1) := by decide +kernel
theorem dX2_readNumber_1 : decode cX2_readNumber 1 = .ok (.getfield 9, 3) := by decide +kernel
theorem dX2_readNumber_4 : decode cX2_readNumber 4 = .ok (.ifCond .eq 4, 3) := by decide +kernel
theorem dX2_readNumber_7 : decode cX2_readNumber 7 = .ok (.return_, 1) := by decide +kernel
theorem dX2_readNumber_8 : decode cX2_readNumber 8 = .ok (.aload_n 1, 1) := by decide +kernel
theorem dX2_readNumber_9 : decode cX2_readNumber 9 = .ok (.invokevirtual 26, 3) := by decide +kernel
theorem dX2_readNumber_12 : decode cX2_readNumber 12 = .ok (.iconst 2, 1) := by decide +kernel
theorem dX2_readNumber_13 : decode cX2_readNumber 13 = .ok (.if_icmp .eq 12, 3) := by decide +kernel
theorem dX2_readNumber_16 : decode cX2_readNumber 16 = .ok (.aload_n 0, 1) := by decide +kernel
theorem dX2_readNumber_17 : decode cX2_readNumber 17 = .ok (.aload_n 1, 1) := by decide +kernel
theorem dX2_readNumber_18 : decode cX2_readNumber 18 = .ok (.iconst 1, 1) := by decide +kernel
theorem dX2_readNumber_19 : decode cX2_readNumber 19 = .ok (.invokevirtual 39, 3) := by decide +kernel
theorem dX2_readNumber_22 : decode cX2_readNumber 22 = .ok (.goto 47, 3) := by decide +kernel
theorem dX2_readNumber_25 : decode cX2_readNumber 25 = .ok (.aload_n 1, 1) := by decide +kernel
theorem dX2_readNumber_26 : decode cX2_readNumber 26 = .ok (.invokevirtual 79, 3) := by decide +kernel
theorem dX2_readNumber_29 : decode cX2_readNumber 29 = .ok (.iload 4, 2) := by decide +kernel
theorem dX2_readNumber_31 : decode cX2_readNumber 31 = .ok (.if_icmp .lt 12, 3) := by decide +kernel
theorem dX2_readNumber_34 : decode cX2_readNumber 34 = .ok (.aload_n 1, 1) := by decide +kernel
theorem dX2_readNumber_35 : decode cX2_readNumber 35 = .ok (.invokevirtual 79, 3) := by decide +kernel
theorem dX2_readNumber_38 : decode cX2_readNumber 38 = .ok (.iload 5, 2) := by decide +kernel
theorem dX2_readNumber_40 : decode cX2_readNumber 40 = .ok (.if_icmp .le 12, 3) := by decide +kernel
theorem dX2_readNumber_43 : decode cX2_readNumber 43 = .ok (.aload_n 0, 1) := by decide +kernel
theorem dX2_readNumber_44 : decode cX2_readNumber 44 = .ok (.aload_n 1, 1) := by decide +kernel
theorem dX2_readNumber_45 : decode cX2_readNumber 45 = .ok (.iconst 2, 1) := by decide +kernel
theorem dX2_readNumber_46 : decode cX2_readNumber 46 = .ok (.invokevirtual 39, 3) := by decide +kernel
theorem dX2_readNumber_49 : decode cX2_readNumber 49 = .ok (.goto 20, 3) := by decide +kernel
theorem dX2_readNumber_52 : decode cX2_readNumber 52 = .ok (.aload_n 2, 1) := by decide +kernel
theorem dX2_readNumber_53 : decode cX2_readNumber 53 = .ok (.aload_n 2, 1) := by decide +kernel
theorem dX2_readNumber_54 : decode cX2_readNumber 54 = .ok (.getfield 47, 3) := by decide +kernel
theorem dX2_readNumber_57 : decode cX2_readNumber 57 = .ok (.iload_n 3, 1) := by decide +kernel
theorem dX2_readNumber_58 : decode cX2_readNumber 58 = .ok (.aload_n 1, 1) := by decide +kernel
theorem dX2_readNumber_59 : decode cX2_readNumber 59 = .ok (.invokevirtual 79, 3) := by decide +kernel
theorem dX2_readNumber_62 : decode cX2_readNumber 62 = .ok (.invokevirtual 50, 3) := by decide +kernel
theorem dX2_readNumber_65 : decode cX2_readNumber 65 = .ok (.aload_n 1, 1) := by decide +kernel
theorem dX2_readNumber_66 : decode cX2_readNumber 66 = .ok (.invokevirtual 54, 3) := by decide +kernel
theorem dX2_readNumber_69 : decode cX2_readNumber 69 = .ok (.return_, 1) := by decide +kernel
set_option maxRecDepth 20000 in
theorem ggX2_readLevel_X2_readAsk : GoodIn wsX2_readLevel wsX2_readAsk := goodIn_r _ [34, 1, 12, 13, 14, 15, 16, 17, 18, 19, 35, 36, 37, 5, 38, 39, 40, 41, 42, 43, 44, 45, 46, 47, 48, 23, 24, 25, 26, 2, 3, 4, 27, 28, 29, 30, 31, 32, 33, 9, 10, 11, 0, 6, 7, 8, 20, 21, 22, 49, 50, 51, 52, 53, 54, 55, 56, 57, 58, 59, 60, 61, 62, 63, 64, 65, 66, 67, 68, 69, 70, 71, 72, 73, 74, 75, 76, 77, 78, 79, 80, 81] (by decide +kernel) (by decide +kernel)
set_option maxRecDepth 20000 in
theorem gX2_readLevel_X2_readAsk : GoodIn wsX2_readLevel (wsV RX2 82 RX2 yX2_readAsk wsX2_readAsk) := goodIn_app (goodIn_of _ (by decide +kernel)) ggX2_readLevel_X2_readAsk
set_option maxRecDepth 20000 in
theorem ggX2_readLevel_X2_readOne : GoodIn wsX2_readLevel wsX2_readOne := goodIn_r _ [49, 12, 13, 14, 15, 16, 17, 18, 19, 50, 51, 52, 5, 53, 54, 55, 56, 57, 58, 39, 40, 41, 42, 1, 43, 44, 45, 46, 47, 48, 27, 28, 29, 30, 31, 32, 33, 23, 24, 25, 26, 59, 60, 61, 62, 63, 35, 36, 37, 38, 9, 10, 11, 64, 65, 66, 67, 6, 7, 8, 34, 2, 3, 4, 0, 20, 21, 22, 68, 69, 70, 71, 72, 73, 74, 75, 76, 77, 78, 79, 80, 81] (by decide +kernel) (by decide +kernel)
set_option maxRecDepth 20000 in
theorem gX2_readLevel_X2_readOne : GoodIn wsX2_readLevel (wsV RX2 85 RX2 yX2_readOne wsX2_readOne) := goodIn_app (goodIn_of _ (by decide +kernel)) ggX2_readLevel_X2_readOne
set_option maxRecDepth 20000 in
theorem ggX2_readLevel_X2_readLevel : GoodIn wsX2_readLevel wsX2_readLevel := goodIn_r _ [0, 1, 2, 3, 4, 5, 6, 7, 8, 9, 10, 11, 12, 13, 14, 15, 16, 17, 18, 19, 20, 21, 22, 23, 24, 25, 26, 27, 28, 29, 30, 31, 32, 33, 34, 35, 36, 37, 38, 39, 40, 41, 42, 43, 44, 45, 46, 47, 48, 49, 50, 51, 52, 53, 54, 55, 56, 57, 58, 59, 60, 61, 62, 63, 64, 65, 66, 67, 68, 69, 70, 71, 72, 73, 74, 75, 76, 77, 78, 79, 80, 81] (by decide +kernel) (by decide +kernel)
set_option maxRecDepth 20000 in
theorem gX2_readLevel_X2_readLevel : GoodIn wsX2_readLevel (wsV RX2 61 RX2 yX2_readLevel wsX2_readLevel) := goodIn_app (goodIn_of _ (by decide +kernel)) ggX2_readLevel_X2_readLevel
set_option maxRecDepth 20000 in
theorem ggX2_readLevel_X7_kind : GoodIn wsX2_readLevel wsX7_kind := goodIn_r _ [16, 17, 18, 19, 71, 72, 73, 74, 75] (by decide +kernel) (by decide +kernel)
set_option maxRecDepth 20000 in
theorem gX2_readLevel_X7_kind : GoodIn wsX2_readLevel (wsV RX2 26 RX7 yX7_kind wsX7_kind) := goodIn_app (goodIn_of _ (by decide +kernel)) ggX2_readLevel_X7_kind
set_option maxRecDepth 20000 in
theorem ggX2_readLevel_X2_levelOf : GoodIn wsX2_readLevel wsX2_levelOf := goodIn_r _ [22] (by decide +kernel) (by decide +kernel)
set_option maxRecDepth 20000 in
theorem gX2_readLevel_X2_levelOf : GoodIn wsX2_readLevel (va_wsS RX2 88 yX2_levelOf wsX2_levelOf) := goodIn_app (goodIn_of _ (by decide +kernel)) ggX2_readLevel_X2_levelOf
set_option maxRecDepth 20000 in
theorem ggX2_readLevel_X7_advance : GoodIn wsX2_readLevel wsX7_advance := goodIn_r _ [26, 17, 18, 71, 72, 73, 74, 75] (by decide +kernel) (by decide +kernel)
set_option maxRecDepth 20000 in
theorem gX2_readLevel_X7_advance : GoodIn wsX2_readLevel (wsV RX2 54 RX7 yX7_advance wsX7_advance) := goodIn_app (goodIn_of _ (by decide +kernel)) ggX2_readLevel_X7_advance
set_option maxRecDepth 20000 in
theorem ggX2_readLevel_X6_addStep : GoodIn wsX2_readLevel wsX6_addStep := goodIn_r _ [31, 32, 33, 76, 77, 78, 79, 80, 81] (by decide +kernel) (by decide +kernel)
set_option maxRecDepth 20000 in
theorem gX2_readLevel_X6_addStep : GoodIn wsX2_readLevel (wsV RX2 92 RX6 yX6_addStep wsX6_addStep) := goodIn_app (goodIn_of _ (by decide +kernel)) ggX2_readLevel_X6_addStep
theorem dX2_readLevel_0 : decode cX2_readLevel 0 = .ok (.iload_n 3, 1) := by decide +kernel
theorem dX2_readLevel_1 : decode cX2_readLevel 1 = .ok (.iconst 2, 1) := by decide +kernel
theorem dX2_readLevel_2 : decode cX2_readLevel 2 = .ok (.if_icmp .ne 12, 3) := by decide +kernel
theorem dX2_readLevel_5 : decode cX2_readLevel 5 = .ok (.aload_n 0, 1) := by decide +kernel
theorem dX2_readLevel_6 : decode cX2_readLevel 6 = .ok (.aload_n 1, 1) := by decide +kernel
theorem dX2_readLevel_7 : decode cX2_readLevel 7 = .ok (.aload_n 2, 1) := by decide +kernel
theorem dX2_readLevel_8 : decode cX2_readLevel 8 = .ok (.iload 4, 2) := by decide +kernel
theorem dX2_readLevel_10 : decode cX2_readLevel 10 = .ok (.invokevirtual 82, 3) := by decide +kernel
theorem dX2_readLevel_13 : decode cX2_readLevel 13 = .ok (.return_, 1) := by decide +kernel
theorem dX2_readLevel_14 : decode cX2_readLevel 14 = .ok (.iload_n 3, 1) := by decide +kernel
theorem dX2_readLevel_15 : decode cX2_readLevel 15 = .ok (.iconst 5, 1) := by decide +kernel
theorem dX2_readLevel_16 : decode cX2_readLevel 16 = .ok (.if_icmp .ne 12, 3) := by decide +kernel
theorem dX2_readLevel_19 : decode cX2_readLevel 19 = .ok (.aload_n 0, 1) := by decide +kernel
theorem dX2_readLevel_20 : decode cX2_readLevel 20 = .ok (.aload_n 1, 1) := by decide +kernel
theorem dX2_readLevel_21 : decode cX2_readLevel 21 = .ok (.aload_n 2, 1) := by decide +kernel
theorem dX2_readLevel_22 : decode cX2_readLevel 22 = .ok (.iload 4, 2) := by decide +kernel
theorem dX2_readLevel_24 : decode cX2_readLevel 24 = .ok (.invokevirtual 85, 3) := by decide +kernel
theorem dX2_readLevel_27 : decode cX2_readLevel 27 = .ok (.return_, 1) := by decide +kernel
theorem dX2_readLevel_28 : decode cX2_readLevel 28 = .ok (.aload_n 0, 1) := by decide +kernel
theorem dX2_readLevel_29 : decode cX2_readLevel 29 = .ok (.aload_n 1, 1) := by decide +kernel
theorem dX2_readLevel_30 : decode cX2_readLevel 30 = .ok (.aload_n 2, 1) := by decide +kernel
theorem dX2_readLevel_31 : decode cX2_readLevel 31 = .ok (.iload_n 3, 1) := by decide +kernel
theorem dX2_readLevel_32 : decode cX2_readLevel 32 = .ok (.iconst 1, 1) := by decide +kernel
theorem dX2_readLevel_33 : decode cX2_readLevel 33 = .ok (.iadd, 1) := by decide +kernel
theorem dX2_readLevel_34 : decode cX2_readLevel 34 = .ok (.iload 4, 2) := by decide +kernel
theorem dX2_readLevel_36 : decode cX2_readLevel 36 = .ok (.invokevirtual 61, 3) := by decide +kernel
theorem dX2_readLevel_39 : decode cX2_readLevel 39 = .ok (.iconst 0, 1) := by decide +kernel
theorem dX2_readLevel_40 : decode cX2_readLevel 40 = .ok (.istore 5, 2) := by decide +kernel
theorem dX2_readLevel_42 : decode cX2_readLevel 42 = .ok (.iload 5, 2) := by decide +kernel
theorem dX2_readLevel_44 : decode cX2_readLevel 44 = .ok (.sipush 300, 3) := by decide +kernel
theorem dX2_readLevel_47 : decode cX2_readLevel 47 = .ok (.if_icmp .ge 58, 3) := by decide +kernel
theorem dX2_readLevel_50 : decode cX2_readLevel 50 = .ok (.aload_n 0, 1) := by decide +kernel
theorem dX2_readLevel_51 : decode cX2_readLevel 51 = .ok (.getfield 9, 3) := by decide +kernel
theorem dX2_readLevel_54 : decode cX2_readLevel 54 = .ok (.ifCond .ne 51, 3) := by decide +kernel
theorem dX2_readLevel_57 : decode cX2_readLevel 57 = .ok (.aload_n 1, 1) := by decide +kernel
theorem dX2_readLevel_58 : decode cX2_readLevel 58 = .ok (.invokevirtual 26, 3) := by decide +kernel
theorem dX2_readLevel_61 : decode cX2_readLevel 61 = .ok (.invokestatic 88, 3) := by decide +kernel
theorem dX2_readLevel_64 : decode cX2_readLevel 64 = .ok (.iload_n 3, 1) := by decide +kernel
theorem dX2_readLevel_65 : decode cX2_readLevel 65 = .ok (.if_icmp .ne 40, 3) := by decide +kernel
theorem dX2_readLevel_68 : decode cX2_readLevel 68 = .ok (.aload_n 1, 1) := by decide +kernel
theorem dX2_readLevel_69 : decode cX2_readLevel 69 = .ok (.invokevirtual 26, 3) := by decide +kernel
theorem dX2_readLevel_72 : decode cX2_readLevel 72 = .ok (.istore 6, 2) := by decide +kernel
theorem dX2_readLevel_74 : decode cX2_readLevel 74 = .ok (.aload_n 1, 1) := by decide +kernel
theorem dX2_readLevel_75 : decode cX2_readLevel 75 = .ok (.invokevirtual 54, 3) := by decide +kernel
theorem dX2_readLevel_78 : decode cX2_readLevel 78 = .ok (.aload_n 0, 1) := by decide +kernel
theorem dX2_readLevel_79 : decode cX2_readLevel 79 = .ok (.aload_n 1, 1) := by decide +kernel
theorem dX2_readLevel_80 : decode cX2_readLevel 80 = .ok (.aload_n 2, 1) := by decide +kernel
theorem dX2_readLevel_81 : decode cX2_readLevel 81 = .ok (.iload_n 3, 1) := by decide +kernel
theorem dX2_readLevel_82 : decode cX2_readLevel 82 = .ok (.iconst 1, 1) := by decide +kernel
theorem dX2_readLevel_83 : decode cX2_readLevel 83 = .ok (.iadd, 1) := by decide +kernel
theorem dX2_readLevel_84 : decode cX2_readLevel 84 = .ok (.iload 4, 2) := by decide +kernel
theorem dX2_readLevel_86 : decode cX2_readLevel 86 = .ok (.invokevirtual 61, 3) := by decide +kernel
theorem dX2_readLevel_89 : decode cX2_readLevel 89 = .ok (.aload_n 2, 1) := by decide +kernel
theorem dX2_readLevel_90 : decode cX2_readLevel 90 = .ok (.sipush 20000, 3) := by decide +kernel
theorem dX2_readLevel_93 : decode cX2_readLevel 93 = .ok (.iload 6, 2) := by decide +kernel
theorem dX2_readLevel_95 : decode cX2_readLevel 95 = .ok (.iadd, 1) := by decide +kernel
theorem dX2_readLevel_96 : decode cX2_readLevel 96 = .ok (.invokevirtual 92, 3) := by decide +kernel
theorem dX2_readLevel_99 : decode cX2_readLevel 99 = .ok (.iinc 5 1, 3) := by decide +kernel
theorem dX2_readLevel_102 : decode cX2_readLevel 102 = .ok (.goto (-60), 3) := by decide +kernel
theorem dX2_readLevel_105 : decode cX2_readLevel 105 = .ok (.return_, 1) := by decide +kernel
theorem dX2_levelOf_0 : decode cX2_levelOf 0 = .ok (.iload_n 0, 1) := by decide +kernel
theorem dX2_levelOf_1 : decode cX2_levelOf 1 = .ok (.tableswitch 103 9 27 #[95, 97, 99, 101, 103, 103, 103, 103, 103, 103, 103, 103, 103, 103, 103, 103, 103, 91, 93], 91) := by decide +kernel
theorem dX2_levelOf_92 : decode cX2_levelOf 92 = .ok (.iconst 0, 1) := by decide +kernel
theorem dX2_levelOf_93 : decode cX2_levelOf 93 = .ok (.ireturn, 1) := by decide +kernel
theorem dX2_levelOf_94 : decode cX2_levelOf 94 = .ok (.iconst 1, 1) := by decide +kernel
theorem dX2_levelOf_95 : decode cX2_levelOf 95 = .ok (.ireturn, 1) := by decide +kernel
theorem dX2_levelOf_96 : decode cX2_levelOf 96 = .ok (.iconst 3, 1) := by decide +kernel
theorem dX2_levelOf_97 : decode cX2_levelOf 97 = .ok (.ireturn, 1) := by decide +kernel
theorem dX2_levelOf_98 : decode cX2_levelOf 98 = .ok (.iconst 3, 1) := by decide +kernel
theorem dX2_levelOf_99 : decode cX2_levelOf 99 = .ok (.ireturn, 1) := by decide +kernel
theorem dX2_levelOf_100 : decode cX2_levelOf 100 = .ok (.iconst 4, 1) := by decide +kernel
theorem dX2_levelOf_101 : decode cX2_levelOf 101 = .ok (.ireturn, 1) := by decide +kernel
theorem dX2_levelOf_102 : decode cX2_levelOf 102 = .ok (.iconst 4, 1) := by decide +kernel
theorem dX2_levelOf_103 : decode cX2_levelOf 103 = .ok (.ireturn, 1) := by decide +kernel
theorem dX2_levelOf_104 : decode cX2_levelOf 104 = .ok (.iconst (-1), 1) := by decide +kernel
theorem dX2_levelOf_105 : decode cX2_levelOf 105 = .ok (.ireturn, 1) := by decide +kernel
set_option maxRecDepth 20000 in
theorem ggX2_readAsk_X7_kind : GoodIn wsX2_readAsk wsX7_kind := goodIn_r _ [6, 7, 8, 9, 71, 72, 73, 74, 75] (by decide +kernel) (by decide +kernel)
set_option maxRecDepth 20000 in
theorem gX2_readAsk_X7_kind : GoodIn wsX2_readAsk (wsV RX2 26 RX7 yX7_kind wsX7_kind) := goodIn_app (goodIn_of _ (by decide +kernel)) ggX2_readAsk_X7_kind
set_option maxRecDepth 20000 in
theorem ggX2_readAsk_X2_opens : GoodIn wsX2_readAsk wsX2_opens := goodIn_r _ [14, 15, 16, 17, 13, 18, 1, 19, 20, 21, 22, 5, 23, 7, 8, 24, 25, 26, 27, 28, 68, 69, 70, 71, 72, 73, 74, 75] (by decide +kernel) (by decide +kernel)
set_option maxRecDepth 20000 in
theorem gX2_readAsk_X2_opens : GoodIn wsX2_readAsk (wsV RX2 95 RX2 yX2_opens wsX2_opens) := goodIn_app (goodIn_of _ (by decide +kernel)) ggX2_readAsk_X2_opens
set_option maxRecDepth 20000 in
theorem ggX2_readAsk_X2_readAsk : GoodIn wsX2_readAsk wsX2_readAsk := goodIn_r _ [0, 1, 2, 3, 4, 5, 6, 7, 8, 9, 10, 11, 12, 13, 14, 15, 16, 17, 18, 19, 20, 21, 22, 23, 24, 25, 26, 27, 28, 29, 30, 31, 32, 33, 34, 35, 36, 37, 38, 39, 40, 41, 42, 43, 44, 45, 46, 47, 48, 49, 50, 51, 52, 53, 54, 55, 56, 57, 58, 59, 60, 61, 62, 63, 64, 65, 66, 67, 68, 69, 70, 71, 72, 73, 74, 75, 76, 77, 78, 79, 80, 81] (by decide +kernel) (by decide +kernel)
set_option maxRecDepth 20000 in
theorem gX2_readAsk_X2_readAsk : GoodIn wsX2_readAsk (wsV RX2 82 RX2 yX2_readAsk wsX2_readAsk) := goodIn_app (goodIn_of _ (by decide +kernel)) ggX2_readAsk_X2_readAsk
set_option maxRecDepth 20000 in
theorem ggX2_readAsk_X6_addStep : GoodIn wsX2_readAsk wsX6_addStep := goodIn_r _ [36, 37, 38, 76, 77, 78, 79, 80, 81] (by decide +kernel) (by decide +kernel)
set_option maxRecDepth 20000 in
theorem gX2_readAsk_X6_addStep : GoodIn wsX2_readAsk (wsV RX2 92 RX6 yX6_addStep wsX6_addStep) := goodIn_app (goodIn_of _ (by decide +kernel)) ggX2_readAsk_X6_addStep
set_option maxRecDepth 20000 in
theorem ggX2_readAsk_X2_readLevel : GoodIn wsX2_readAsk wsX2_readLevel := goodIn_r _ [42, 1, 29, 30, 31, 13, 43, 44, 45, 39, 40, 41, 2, 3, 4, 5, 6, 7, 8, 9, 46, 47, 48, 25, 26, 27, 28, 32, 33, 34, 35, 36, 37, 38, 0, 10, 11, 12, 14, 15, 16, 17, 18, 19, 20, 21, 22, 23, 24, 49, 50, 51, 52, 53, 54, 55, 56, 57, 58, 59, 60, 61, 62, 63, 64, 65, 66, 67, 68, 69, 70, 71, 72, 73, 74, 75, 76, 77, 78, 79, 80, 81] (by decide +kernel) (by decide +kernel)
set_option maxRecDepth 20000 in
theorem gX2_readAsk_X2_readLevel : GoodIn wsX2_readAsk (wsV RX2 61 RX2 yX2_readLevel wsX2_readLevel) := goodIn_app (goodIn_of _ (by decide +kernel)) ggX2_readAsk_X2_readLevel
set_option maxRecDepth 20000 in
theorem ggX2_readAsk_X2_fail : GoodIn wsX2_readAsk wsX2_fail := goodIn_r _ [18, 1, 19, 20, 21, 22, 5, 23, 7, 8, 24, 68, 69, 70, 71, 72, 73, 74, 75] (by decide +kernel) (by decide +kernel)
set_option maxRecDepth 20000 in
theorem gX2_readAsk_X2_fail : GoodIn wsX2_readAsk (wsV RX2 39 RX2 yX2_fail wsX2_fail) := goodIn_app (goodIn_of _ (by decide +kernel)) ggX2_readAsk_X2_fail
set_option maxRecDepth 20000 in
theorem ggX2_readAsk_X7_advance : GoodIn wsX2_readAsk wsX7_advance := goodIn_r _ [28, 7, 8, 71, 72, 73, 74, 75] (by decide +kernel) (by decide +kernel)
set_option maxRecDepth 20000 in
theorem gX2_readAsk_X7_advance : GoodIn wsX2_readAsk (wsV RX2 54 RX7 yX7_advance wsX7_advance) := goodIn_app (goodIn_of _ (by decide +kernel)) ggX2_readAsk_X7_advance
theorem dX2_readAsk_0 : decode cX2_readAsk 0 = .ok (.aload_n 1, 1) := by decide +kernel
theorem dX2_readAsk_1 : decode cX2_readAsk 1 = .ok (.invokevirtual 26, 3) := by decide +kernel
theorem dX2_readAsk_4 : decode cX2_readAsk 4 = .ok (.bipush 28, 2) := by decide +kernel
theorem dX2_readAsk_6 : decode cX2_readAsk 6 = .ok (.if_icmp .ne 29, 3) := by decide +kernel
theorem dX2_readAsk_9 : decode cX2_readAsk 9 = .ok (.aload_n 0, 1) := by decide +kernel
theorem dX2_readAsk_10 : decode cX2_readAsk 10 = .ok (.aload_n 1, 1) := by decide +kernel
theorem dX2_readAsk_11 : decode cX2_readAsk 11 = .ok (.iload_n 3, 1) := by decide +kernel
theorem dX2_readAsk_12 : decode cX2_readAsk 12 = .ok (.invokevirtual 95, 3) := by decide +kernel
theorem dX2_readAsk_15 : decode cX2_readAsk 15 = .ok (.ifCond .eq 19, 3) := by decide +kernel
theorem dX2_readAsk_18 : decode cX2_readAsk 18 = .ok (.aload_n 0, 1) := by decide +kernel
theorem dX2_readAsk_19 : decode cX2_readAsk 19 = .ok (.aload_n 1, 1) := by decide +kernel
theorem dX2_readAsk_20 : decode cX2_readAsk 20 = .ok (.aload_n 2, 1) := by decide +kernel
theorem dX2_readAsk_21 : decode cX2_readAsk 21 = .ok (.iload_n 3, 1) := by decide +kernel
theorem dX2_readAsk_22 : decode cX2_readAsk 22 = .ok (.iconst 1, 1) := by decide +kernel
theorem dX2_readAsk_23 : decode cX2_readAsk 23 = .ok (.iadd, 1) := by decide +kernel
theorem dX2_readAsk_24 : decode cX2_readAsk 24 = .ok (.invokevirtual 82, 3) := by decide +kernel
theorem dX2_readAsk_27 : decode cX2_readAsk 27 = .ok (.aload_n 2, 1) := by decide +kernel
theorem dX2_readAsk_28 : decode cX2_readAsk 28 = .ok (.sipush 20028, 3) := by decide +kernel
theorem dX2_readAsk_31 : decode cX2_readAsk 31 = .ok (.invokevirtual 92, 3) := by decide +kernel
theorem dX2_readAsk_34 : decode cX2_readAsk 34 = .ok (.return_, 1) := by decide +kernel
theorem dX2_readAsk_35 : decode cX2_readAsk 35 = .ok (.aload_n 0, 1) := by decide +kernel
theorem dX2_readAsk_36 : decode cX2_readAsk 36 = .ok (.aload_n 1, 1) := by decide +kernel
theorem dX2_readAsk_37 : decode cX2_readAsk 37 = .ok (.aload_n 2, 1) := by decide +kernel
theorem dX2_readAsk_38 : decode cX2_readAsk 38 = .ok (.iconst 3, 1) := by decide +kernel
theorem dX2_readAsk_39 : decode cX2_readAsk 39 = .ok (.iload_n 3, 1) := by decide +kernel
theorem dX2_readAsk_40 : decode cX2_readAsk 40 = .ok (.invokevirtual 61, 3) := by decide +kernel
theorem dX2_readAsk_43 : decode cX2_readAsk 43 = .ok (.aload_n 1, 1) := by decide +kernel
theorem dX2_readAsk_44 : decode cX2_readAsk 44 = .ok (.invokevirtual 26, 3) := by decide +kernel
theorem dX2_readAsk_47 : decode cX2_readAsk 47 = .ok (.istore 4, 2) := by decide +kernel
theorem dX2_readAsk_49 : decode cX2_readAsk 49 = .ok (.iload 4, 2) := by decide +kernel
theorem dX2_readAsk_51 : decode cX2_readAsk 51 = .ok (.iconst 3, 1) := by decide +kernel
theorem dX2_readAsk_52 : decode cX2_readAsk 52 = .ok (.if_icmp .lt 10, 3) := by decide +kernel
theorem dX2_readAsk_55 : decode cX2_readAsk 55 = .ok (.iload 4, 2) := by decide +kernel
theorem dX2_readAsk_57 : decode cX2_readAsk 57 = .ok (.bipush 8, 2) := by decide +kernel
theorem dX2_readAsk_59 : decode cX2_readAsk 59 = .ok (.if_icmp .le 9, 3) := by decide +kernel
theorem dX2_readAsk_62 : decode cX2_readAsk 62 = .ok (.aload_n 0, 1) := by decide +kernel
theorem dX2_readAsk_63 : decode cX2_readAsk 63 = .ok (.aload_n 1, 1) := by decide +kernel
theorem dX2_readAsk_64 : decode cX2_readAsk 64 = .ok (.iconst 1, 1) := by decide +kernel
theorem dX2_readAsk_65 : decode cX2_readAsk 65 = .ok (.invokevirtual 39, 3) := by decide +kernel
theorem dX2_readAsk_68 : decode cX2_readAsk 68 = .ok (.aload_n 0, 1) := by decide +kernel
theorem dX2_readAsk_69 : decode cX2_readAsk 69 = .ok (.getfield 9, 3) := by decide +kernel
theorem dX2_readAsk_72 : decode cX2_readAsk 72 = .ok (.ifCond .ne 25, 3) := by decide +kernel
theorem dX2_readAsk_75 : decode cX2_readAsk 75 = .ok (.aload_n 1, 1) := by decide +kernel
theorem dX2_readAsk_76 : decode cX2_readAsk 76 = .ok (.invokevirtual 54, 3) := by decide +kernel
theorem dX2_readAsk_79 : decode cX2_readAsk 79 = .ok (.aload_n 0, 1) := by decide +kernel
theorem dX2_readAsk_80 : decode cX2_readAsk 80 = .ok (.aload_n 1, 1) := by decide +kernel
theorem dX2_readAsk_81 : decode cX2_readAsk 81 = .ok (.aload_n 2, 1) := by decide +kernel
theorem dX2_readAsk_82 : decode cX2_readAsk 82 = .ok (.iconst 3, 1) := by decide +kernel
theorem dX2_readAsk_83 : decode cX2_readAsk 83 = .ok (.iload_n 3, 1) := by decide +kernel
theorem dX2_readAsk_84 : decode cX2_readAsk 84 = .ok (.invokevirtual 61, 3) := by decide +kernel
theorem dX2_readAsk_87 : decode cX2_readAsk 87 = .ok (.aload_n 2, 1) := by decide +kernel
theorem dX2_readAsk_88 : decode cX2_readAsk 88 = .ok (.sipush 20000, 3) := by decide +kernel
theorem dX2_readAsk_91 : decode cX2_readAsk 91 = .ok (.iload 4, 2) := by decide +kernel
theorem dX2_readAsk_93 : decode cX2_readAsk 93 = .ok (.iadd, 1) := by decide +kernel
theorem dX2_readAsk_94 : decode cX2_readAsk 94 = .ok (.invokevirtual 92, 3) := by decide +kernel
theorem dX2_readAsk_97 : decode cX2_readAsk 97 = .ok (.return_, 1) := by decide +kernel
set_option maxRecDepth 20000 in
theorem ggX2_readOne_X7_kind : GoodIn wsX2_readOne wsX7_kind := goodIn_r _ [5, 6, 7, 8, 71, 72, 73, 74, 75] (by decide +kernel) (by decide +kernel)
set_option maxRecDepth 20000 in
theorem gX2_readOne_X7_kind : GoodIn wsX2_readOne (wsV RX2 26 RX7 yX7_kind wsX7_kind) := goodIn_app (goodIn_of _ (by decide +kernel)) ggX2_readOne_X7_kind
set_option maxRecDepth 20000 in
theorem ggX2_readOne_X2_readValue : GoodIn wsX2_readOne wsX2_readValue := goodIn_r _ [13, 14, 15, 16, 4, 17, 6, 7, 18, 19, 20, 21, 12, 22, 23, 24, 25, 26, 27, 28, 29, 30, 31, 32, 33, 34, 35, 36, 37, 38, 39, 40, 71, 72, 73, 74, 75, 68, 69, 70, 76, 77, 78, 79, 80, 81] (by decide +kernel) (by decide +kernel)
set_option maxRecDepth 20000 in
theorem gX2_readOne_X2_readValue : GoodIn wsX2_readOne (wsV RX2 99 RX2 yX2_readValue wsX2_readValue) := goodIn_app (goodIn_of _ (by decide +kernel)) ggX2_readOne_X2_readValue
set_option maxRecDepth 20000 in
theorem ggX2_readOne_X2_readName : GoodIn wsX2_readOne wsX2_readName := goodIn_r _ [44, 45, 1, 2, 3, 4, 5, 6, 7, 8, 19, 20, 21, 12, 22, 23, 24, 25, 26, 27, 28, 29, 30, 31, 32, 33, 34, 35, 36, 37, 38, 39, 40, 68, 69, 70, 71, 72, 73, 74, 75, 76, 77, 78, 79, 80, 81] (by decide +kernel) (by decide +kernel)
set_option maxRecDepth 20000 in
theorem gX2_readOne_X2_readName : GoodIn wsX2_readOne (wsV RX2 102 RX2 yX2_readName wsX2_readName) := goodIn_app (goodIn_of _ (by decide +kernel)) ggX2_readOne_X2_readName
set_option maxRecDepth 20000 in
theorem ggX2_readOne_X2_opens : GoodIn wsX2_readOne wsX2_opens := goodIn_r _ [49, 19, 20, 21, 12, 22, 23, 24, 25, 26, 27, 4, 28, 6, 7, 29, 37, 38, 39, 40, 68, 69, 70, 71, 72, 73, 74, 75] (by decide +kernel) (by decide +kernel)
set_option maxRecDepth 20000 in
theorem gX2_readOne_X2_opens : GoodIn wsX2_readOne (wsV RX2 95 RX2 yX2_opens wsX2_opens) := goodIn_app (goodIn_of _ (by decide +kernel)) ggX2_readOne_X2_opens
set_option maxRecDepth 20000 in
theorem ggX2_readOne_X2_readLevel : GoodIn wsX2_readOne wsX2_readLevel := goodIn_r _ [64, 23, 61, 62, 63, 12, 57, 58, 59, 50, 51, 52, 1, 2, 3, 4, 5, 6, 7, 8, 65, 66, 67, 37, 38, 39, 40, 30, 31, 32, 33, 34, 35, 36, 60, 46, 47, 48, 49, 19, 20, 21, 22, 24, 25, 26, 27, 28, 29, 0, 9, 10, 11, 13, 14, 15, 16, 17, 18, 41, 42, 43, 44, 45, 53, 54, 55, 56, 68, 69, 70, 71, 72, 73, 74, 75, 76, 77, 78, 79, 80, 81] (by decide +kernel) (by decide +kernel)
set_option maxRecDepth 20000 in
theorem gX2_readOne_X2_readLevel : GoodIn wsX2_readOne (wsV RX2 61 RX2 yX2_readLevel wsX2_readLevel) := goodIn_app (goodIn_of _ (by decide +kernel)) ggX2_readOne_X2_readLevel
set_option maxRecDepth 20000 in
theorem ggX2_readOne_X2_expect : GoodIn wsX2_readOne wsX2_expect := goodIn_r _ [56, 23, 1, 2, 3, 4, 5, 6, 7, 8, 37, 38, 39, 40, 19, 20, 21, 12, 22, 24, 25, 26, 27, 28, 29, 68, 69, 70, 71, 72, 73, 74, 75] (by decide +kernel) (by decide +kernel)
set_option maxRecDepth 20000 in
theorem gX2_readOne_X2_expect : GoodIn wsX2_readOne (wsV RX2 72 RX2 yX2_expect wsX2_expect) := goodIn_app (goodIn_of _ (by decide +kernel)) ggX2_readOne_X2_expect
set_option maxRecDepth 20000 in
theorem ggX2_readOne_X2_readOne : GoodIn wsX2_readOne wsX2_readOne := goodIn_r _ [0, 1, 2, 3, 4, 5, 6, 7, 8, 9, 10, 11, 12, 13, 14, 15, 16, 17, 18, 19, 20, 21, 22, 23, 24, 25, 26, 27, 28, 29, 30, 31, 32, 33, 34, 35, 36, 37, 38, 39, 40, 41, 42, 43, 44, 45, 46, 47, 48, 49, 50, 51, 52, 53, 54, 55, 56, 57, 58, 59, 60, 61, 62, 63, 64, 65, 66, 67, 68, 69, 70, 71, 72, 73, 74, 75, 76, 77, 78, 79, 80, 81] (by decide +kernel) (by decide +kernel)
set_option maxRecDepth 20000 in
theorem gX2_readOne_X2_readOne : GoodIn wsX2_readOne (wsV RX2 85 RX2 yX2_readOne wsX2_readOne) := goodIn_app (goodIn_of _ (by decide +kernel)) ggX2_readOne_X2_readOne
set_option maxRecDepth 20000 in
theorem ggX2_readOne_X6_addStep : GoodIn wsX2_readOne wsX6_addStep := goodIn_r _ [34, 35, 36, 76, 77, 78, 79, 80, 81] (by decide +kernel) (by decide +kernel)
set_option maxRecDepth 20000 in
theorem gX2_readOne_X6_addStep : GoodIn wsX2_readOne (wsV RX2 92 RX6 yX6_addStep wsX6_addStep) := goodIn_app (goodIn_of _ (by decide +kernel)) ggX2_readOne_X6_addStep
set_option maxRecDepth 20000 in
theorem ggX2_readOne_X2_fail : GoodIn wsX2_readOne wsX2_fail := goodIn_r _ [22, 23, 24, 25, 26, 27, 4, 28, 6, 7, 29, 68, 69, 70, 71, 72, 73, 74, 75] (by decide +kernel) (by decide +kernel)
set_option maxRecDepth 20000 in
theorem gX2_readOne_X2_fail : GoodIn wsX2_readOne (wsV RX2 39 RX2 yX2_fail wsX2_fail) := goodIn_app (goodIn_of _ (by decide +kernel)) ggX2_readOne_X2_fail
theorem dX2_readOne_0 : decode cX2_readOne 0 = .ok (.aload_n 1, 1) := by decide +kernel
theorem dX2_readOne_1 : decode cX2_readOne 1 = .ok (.invokevirtual 26, 3) := by decide +kernel
theorem dX2_readOne_4 : decode cX2_readOne 4 = .ok (.istore 4, 2) := by decide +kernel
theorem dX2_readOne_6 : decode cX2_readOne 6 = .ok (.iload 4, 2) := by decide +kernel
theorem dX2_readOne_8 : decode cX2_readOne 8 = .ok (.iconst 2, 1) := by decide +kernel
theorem dX2_readOne_9 : decode cX2_readOne 9 = .ok (.if_icmp .ne 12, 3) := by decide +kernel
theorem dX2_readOne_12 : decode cX2_readOne 12 = .ok (.aload_n 0, 1) := by decide +kernel
theorem dX2_readOne_13 : decode cX2_readOne 13 = .ok (.aload_n 1, 1) := by decide +kernel
theorem dX2_readOne_14 : decode cX2_readOne 14 = .ok (.aload_n 2, 1) := by decide +kernel
theorem dX2_readOne_15 : decode cX2_readOne 15 = .ok (.invokevirtual 99, 3) := by decide +kernel
theorem dX2_readOne_18 : decode cX2_readOne 18 = .ok (.goto 103, 3) := by decide +kernel
theorem dX2_readOne_21 : decode cX2_readOne 21 = .ok (.iload 4, 2) := by decide +kernel
theorem dX2_readOne_23 : decode cX2_readOne 23 = .ok (.bipush 29, 2) := by decide +kernel
theorem dX2_readOne_25 : decode cX2_readOne 25 = .ok (.if_icmp .lt 19, 3) := by decide +kernel
theorem dX2_readOne_28 : decode cX2_readOne 28 = .ok (.iload 4, 2) := by decide +kernel
theorem dX2_readOne_30 : decode cX2_readOne 30 = .ok (.bipush 37, 2) := by decide +kernel
theorem dX2_readOne_32 : decode cX2_readOne 32 = .ok (.if_icmp .gt 12, 3) := by decide +kernel
theorem dX2_readOne_35 : decode cX2_readOne 35 = .ok (.aload_n 0, 1) := by decide +kernel
theorem dX2_readOne_36 : decode cX2_readOne 36 = .ok (.aload_n 1, 1) := by decide +kernel
theorem dX2_readOne_37 : decode cX2_readOne 37 = .ok (.aload_n 2, 1) := by decide +kernel
theorem dX2_readOne_38 : decode cX2_readOne 38 = .ok (.invokevirtual 102, 3) := by decide +kernel
theorem dX2_readOne_41 : decode cX2_readOne 41 = .ok (.goto 80, 3) := by decide +kernel
theorem dX2_readOne_44 : decode cX2_readOne 44 = .ok (.iload 4, 2) := by decide +kernel
theorem dX2_readOne_46 : decode cX2_readOne 46 = .ok (.bipush 13, 2) := by decide +kernel
theorem dX2_readOne_48 : decode cX2_readOne 48 = .ok (.if_icmp .ne 32, 3) := by decide +kernel
theorem dX2_readOne_51 : decode cX2_readOne 51 = .ok (.aload_n 0, 1) := by decide +kernel
theorem dX2_readOne_52 : decode cX2_readOne 52 = .ok (.aload_n 1, 1) := by decide +kernel
theorem dX2_readOne_53 : decode cX2_readOne 53 = .ok (.iload_n 3, 1) := by decide +kernel
theorem dX2_readOne_54 : decode cX2_readOne 54 = .ok (.invokevirtual 95, 3) := by decide +kernel
theorem dX2_readOne_57 : decode cX2_readOne 57 = .ok (.ifCond .eq 64, 3) := by decide +kernel
theorem dX2_readOne_60 : decode cX2_readOne 60 = .ok (.aload_n 0, 1) := by decide +kernel
theorem dX2_readOne_61 : decode cX2_readOne 61 = .ok (.aload_n 1, 1) := by decide +kernel
theorem dX2_readOne_62 : decode cX2_readOne 62 = .ok (.aload_n 2, 1) := by decide +kernel
theorem dX2_readOne_63 : decode cX2_readOne 63 = .ok (.iconst 3, 1) := by decide +kernel
theorem dX2_readOne_64 : decode cX2_readOne 64 = .ok (.iload_n 3, 1) := by decide +kernel
theorem dX2_readOne_65 : decode cX2_readOne 65 = .ok (.iconst 1, 1) := by decide +kernel
theorem dX2_readOne_66 : decode cX2_readOne 66 = .ok (.iadd, 1) := by decide +kernel
theorem dX2_readOne_67 : decode cX2_readOne 67 = .ok (.invokevirtual 61, 3) := by decide +kernel
theorem dX2_readOne_70 : decode cX2_readOne 70 = .ok (.aload_n 0, 1) := by decide +kernel
theorem dX2_readOne_71 : decode cX2_readOne 71 = .ok (.aload_n 1, 1) := by decide +kernel
theorem dX2_readOne_72 : decode cX2_readOne 72 = .ok (.bipush 14, 2) := by decide +kernel
theorem dX2_readOne_74 : decode cX2_readOne 74 = .ok (.invokevirtual 72, 3) := by decide +kernel
theorem dX2_readOne_77 : decode cX2_readOne 77 = .ok (.goto 44, 3) := by decide +kernel
theorem dX2_readOne_80 : decode cX2_readOne 80 = .ok (.iload 4, 2) := by decide +kernel
theorem dX2_readOne_82 : decode cX2_readOne 82 = .ok (.bipush 10, 2) := by decide +kernel
theorem dX2_readOne_84 : decode cX2_readOne 84 = .ok (.if_icmp .ne 31, 3) := by decide +kernel
theorem dX2_readOne_87 : decode cX2_readOne 87 = .ok (.aload_n 0, 1) := by decide +kernel
theorem dX2_readOne_88 : decode cX2_readOne 88 = .ok (.aload_n 1, 1) := by decide +kernel
theorem dX2_readOne_89 : decode cX2_readOne 89 = .ok (.iload_n 3, 1) := by decide +kernel
theorem dX2_readOne_90 : decode cX2_readOne 90 = .ok (.invokevirtual 95, 3) := by decide +kernel
theorem dX2_readOne_93 : decode cX2_readOne 93 = .ok (.ifCond .eq 28, 3) := by decide +kernel
theorem dX2_readOne_96 : decode cX2_readOne 96 = .ok (.aload_n 0, 1) := by decide +kernel
theorem dX2_readOne_97 : decode cX2_readOne 97 = .ok (.aload_n 1, 1) := by decide +kernel
theorem dX2_readOne_98 : decode cX2_readOne 98 = .ok (.aload_n 2, 1) := by decide +kernel
theorem dX2_readOne_99 : decode cX2_readOne 99 = .ok (.iload_n 3, 1) := by decide +kernel
theorem dX2_readOne_100 : decode cX2_readOne 100 = .ok (.iconst 1, 1) := by decide +kernel
theorem dX2_readOne_101 : decode cX2_readOne 101 = .ok (.iadd, 1) := by decide +kernel
theorem dX2_readOne_102 : decode cX2_readOne 102 = .ok (.invokevirtual 85, 3) := by decide +kernel
theorem dX2_readOne_105 : decode cX2_readOne 105 = .ok (.aload_n 2, 1) := by decide +kernel
theorem dX2_readOne_106 : decode cX2_readOne 106 = .ok (.sipush 20038, 3) := by decide +kernel
theorem dX2_readOne_109 : decode cX2_readOne 109 = .ok (.invokevirtual 92, 3) := by decide +kernel
theorem dX2_readOne_112 : decode cX2_readOne 112 = .ok (.goto 9, 3) := by decide +kernel
theorem dX2_readOne_115 : decode cX2_readOne 115 = .ok (.aload_n 0, 1) := by decide +kernel
theorem dX2_readOne_116 : decode cX2_readOne 116 = .ok (.aload_n 1, 1) := by decide +kernel
theorem dX2_readOne_117 : decode cX2_readOne 117 = .ok (.iconst 1, 1) := by decide +kernel
theorem dX2_readOne_118 : decode cX2_readOne 118 = .ok (.invokevirtual 39, 3) := by decide +kernel
theorem dX2_readOne_121 : decode cX2_readOne 121 = .ok (.return_, 1) := by decide +kernel
set_option maxRecDepth 20000 in
theorem ggX2_opens_X2_fail : GoodIn wsX2_opens wsX2_fail := goodIn_r _ [5, 6, 7, 8, 9, 10, 11, 12, 13, 14, 15, 20, 21, 22, 23, 24, 25, 26, 27] (by decide +kernel) (by decide +kernel)
set_option maxRecDepth 20000 in
theorem gX2_opens_X2_fail : GoodIn wsX2_opens (wsV RX2 39 RX2 yX2_fail wsX2_fail) := goodIn_app (goodIn_of _ (by decide +kernel)) ggX2_opens_X2_fail
set_option maxRecDepth 20000 in
theorem ggX2_opens_X7_advance : GoodIn wsX2_opens wsX7_advance := goodIn_r _ [19, 13, 14, 23, 24, 25, 26, 27] (by decide +kernel) (by decide +kernel)
set_option maxRecDepth 20000 in
theorem gX2_opens_X7_advance : GoodIn wsX2_opens (wsV RX2 54 RX7 yX7_advance wsX7_advance) := goodIn_app (goodIn_of _ (by decide +kernel)) ggX2_opens_X7_advance
theorem dX2_opens_0 : decode cX2_opens 0 = .ok (.iload_n 2, 1) := by decide +kernel
theorem dX2_opens_1 : decode cX2_opens 1 = .ok (.bipush 8, 2) := by decide +kernel
theorem dX2_opens_3 : decode cX2_opens 3 = .ok (.if_icmp .lt 11, 3) := by decide +kernel
theorem dX2_opens_6 : decode cX2_opens 6 = .ok (.aload_n 0, 1) := by decide +kernel
theorem dX2_opens_7 : decode cX2_opens 7 = .ok (.aload_n 1, 1) := by decide +kernel
theorem dX2_opens_8 : decode cX2_opens 8 = .ok (.iconst 3, 1) := by decide +kernel
theorem dX2_opens_9 : decode cX2_opens 9 = .ok (.invokevirtual 39, 3) := by decide +kernel
theorem dX2_opens_12 : decode cX2_opens 12 = .ok (.iconst 0, 1) := by decide +kernel
theorem dX2_opens_13 : decode cX2_opens 13 = .ok (.ireturn, 1) := by decide +kernel
theorem dX2_opens_14 : decode cX2_opens 14 = .ok (.aload_n 1, 1) := by decide +kernel
theorem dX2_opens_15 : decode cX2_opens 15 = .ok (.invokevirtual 54, 3) := by decide +kernel
theorem dX2_opens_18 : decode cX2_opens 18 = .ok (.iconst 1, 1) := by decide +kernel
theorem dX2_opens_19 : decode cX2_opens 19 = .ok (.ireturn, 1) := by decide +kernel
set_option maxRecDepth 20000 in
theorem ggX2_readValue_X7_value : GoodIn wsX2_readValue wsX7_value := goodIn_r _ [5, 6, 7, 8, 32, 33, 34, 35, 36] (by decide +kernel) (by decide +kernel)
set_option maxRecDepth 20000 in
theorem gX2_readValue_X7_value : GoodIn wsX2_readValue (wsV RX2 79 RX7 yX7_value wsX7_value) := goodIn_app (goodIn_of _ (by decide +kernel)) ggX2_readValue_X7_value
set_option maxRecDepth 20000 in
theorem ggX2_readValue_X2_fail : GoodIn wsX2_readValue wsX2_fail := goodIn_r _ [13, 14, 15, 16, 17, 18, 4, 19, 6, 7, 20, 37, 38, 39, 32, 33, 34, 35, 36] (by decide +kernel) (by decide +kernel)
set_option maxRecDepth 20000 in
theorem gX2_readValue_X2_fail : GoodIn wsX2_readValue (wsV RX2 39 RX2 yX2_fail wsX2_fail) := goodIn_app (goodIn_of _ (by decide +kernel)) ggX2_readValue_X2_fail
set_option maxRecDepth 20000 in
theorem ggX2_readValue_X6_addStep : GoodIn wsX2_readValue wsX6_addStep := goodIn_r _ [25, 26, 27, 40, 41, 42, 43, 44, 45] (by decide +kernel) (by decide +kernel)
set_option maxRecDepth 20000 in
theorem gX2_readValue_X6_addStep : GoodIn wsX2_readValue (wsV RX2 92 RX6 yX6_addStep wsX6_addStep) := goodIn_app (goodIn_of _ (by decide +kernel)) ggX2_readValue_X6_addStep
set_option maxRecDepth 20000 in
theorem ggX2_readValue_X7_advance : GoodIn wsX2_readValue wsX7_advance := goodIn_r _ [31, 6, 7, 32, 33, 34, 35, 36] (by decide +kernel) (by decide +kernel)
set_option maxRecDepth 20000 in
theorem gX2_readValue_X7_advance : GoodIn wsX2_readValue (wsV RX2 54 RX7 yX7_advance wsX7_advance) := goodIn_app (goodIn_of _ (by decide +kernel)) ggX2_readValue_X7_advance
theorem dX2_readValue_0 : decode cX2_readValue 0 = .ok (.aload_n 1, 1) := by decide +kernel
theorem dX2_readValue_1 : decode cX2_readValue 1 = .ok (.invokevirtual 79, 3) := by decide +kernel
theorem dX2_readValue_4 : decode cX2_readValue 4 = .ok (.sipush 9999, 3) := by decide +kernel
theorem dX2_readValue_7 : decode cX2_readValue 7 = .ok (.if_icmp .le 10, 3) := by decide +kernel
theorem dX2_readValue_10 : decode cX2_readValue 10 = .ok (.aload_n 0, 1) := by decide +kernel
theorem dX2_readValue_11 : decode cX2_readValue 11 = .ok (.aload_n 1, 1) := by decide +kernel
theorem dX2_readValue_12 : decode cX2_readValue 12 = .ok (.iconst 2, 1) := by decide +kernel
theorem dX2_readValue_13 : decode cX2_readValue 13 = .ok (.invokevirtual 39, 3) := by decide +kernel
theorem dX2_readValue_16 : decode cX2_readValue 16 = .ok (.return_, 1) := by decide +kernel
theorem dX2_readValue_17 : decode cX2_readValue 17 = .ok (.aload_n 2, 1) := by decide +kernel
theorem dX2_readValue_18 : decode cX2_readValue 18 = .ok (.aload_n 1, 1) := by decide +kernel
theorem dX2_readValue_19 : decode cX2_readValue 19 = .ok (.invokevirtual 79, 3) := by decide +kernel
theorem dX2_readValue_22 : decode cX2_readValue 22 = .ok (.invokevirtual 92, 3) := by decide +kernel
theorem dX2_readValue_25 : decode cX2_readValue 25 = .ok (.aload_n 1, 1) := by decide +kernel
theorem dX2_readValue_26 : decode cX2_readValue 26 = .ok (.invokevirtual 54, 3) := by decide +kernel
theorem dX2_readValue_29 : decode cX2_readValue 29 = .ok (.return_, 1) := by decide +kernel
set_option maxRecDepth 20000 in
theorem ggX2_readName_X7_kind : GoodIn wsX2_readName wsX7_kind := goodIn_r _ [6, 7, 8, 9, 36, 37, 38, 39, 40] (by decide +kernel) (by decide +kernel)
set_option maxRecDepth 20000 in
theorem gX2_readName_X7_kind : GoodIn wsX2_readName (wsV RX2 26 RX7 yX7_kind wsX7_kind) := goodIn_app (goodIn_of _ (by decide +kernel)) ggX2_readName_X7_kind
set_option maxRecDepth 20000 in
theorem ggX2_readName_X2_fail : GoodIn wsX2_readName wsX2_fail := goodIn_r _ [14, 15, 16, 17, 18, 19, 5, 20, 7, 8, 21, 33, 34, 35, 36, 37, 38, 39, 40] (by decide +kernel) (by decide +kernel)
set_option maxRecDepth 20000 in
theorem gX2_readName_X2_fail : GoodIn wsX2_readName (wsV RX2 39 RX2 yX2_fail wsX2_fail) := goodIn_app (goodIn_of _ (by decide +kernel)) ggX2_readName_X2_fail
set_option maxRecDepth 20000 in
theorem ggX2_readName_X6_addStep : GoodIn wsX2_readName wsX6_addStep := goodIn_r _ [26, 27, 28, 41, 42, 43, 44, 45, 46] (by decide +kernel) (by decide +kernel)
set_option maxRecDepth 20000 in
theorem gX2_readName_X6_addStep : GoodIn wsX2_readName (wsV RX2 92 RX6 yX6_addStep wsX6_addStep) := goodIn_app (goodIn_of _ (by decide +kernel)) ggX2_readName_X6_addStep
set_option maxRecDepth 20000 in
theorem ggX2_readName_X7_advance : GoodIn wsX2_readName wsX7_advance := goodIn_r _ [32, 7, 8, 36, 37, 38, 39, 40] (by decide +kernel) (by decide +kernel)
set_option maxRecDepth 20000 in
theorem gX2_readName_X7_advance : GoodIn wsX2_readName (wsV RX2 54 RX7 yX7_advance wsX7_advance) := goodIn_app (goodIn_of _ (by decide +kernel)) ggX2_readName_X7_advance
theorem dX2_readName_0 : decode cX2_readName 0 = .ok (.aload_n 1, 1) := by decide +kernel
theorem dX2_readName_1 : decode cX2_readName 1 = .ok (.invokevirtual 26, 3) := by decide +kernel
theorem dX2_readName_4 : decode cX2_readName 4 = .ok (.bipush 35, 2) := by decide +kernel
theorem dX2_readName_6 : decode cX2_readName 6 = .ok (.if_icmp .lt 25, 3) := by decide +kernel
theorem dX2_readName_9 : decode cX2_readName 9 = .ok (.aload_n 0, 1) := by decide +kernel
theorem dX2_readName_10 : decode cX2_readName 10 = .ok (.getfield 18, 3) := by decide +kernel
theorem dX2_readName_13 : decode cX2_readName 13 = .ok (.ifCond .eq 18, 3) := by decide +kernel
theorem dX2_readName_16 : decode cX2_readName 16 = .ok (.aload_n 0, 1) := by decide +kernel
theorem dX2_readName_17 : decode cX2_readName 17 = .ok (.getfield 18, 3) := by decide +kernel
theorem dX2_readName_20 : decode cX2_readName 20 = .ok (.iconst 1, 1) := by decide +kernel
theorem dX2_readName_21 : decode cX2_readName 21 = .ok (.if_icmp .eq 10, 3) := by decide +kernel
theorem dX2_readName_24 : decode cX2_readName 24 = .ok (.aload_n 0, 1) := by decide +kernel
theorem dX2_readName_25 : decode cX2_readName 25 = .ok (.aload_n 1, 1) := by decide +kernel
theorem dX2_readName_26 : decode cX2_readName 26 = .ok (.iconst 5, 1) := by decide +kernel
theorem dX2_readName_27 : decode cX2_readName 27 = .ok (.invokevirtual 39, 3) := by decide +kernel
theorem dX2_readName_30 : decode cX2_readName 30 = .ok (.return_, 1) := by decide +kernel
theorem dX2_readName_31 : decode cX2_readName 31 = .ok (.aload_n 2, 1) := by decide +kernel
theorem dX2_readName_32 : decode cX2_readName 32 = .ok (.sipush 10000, 3) := by decide +kernel
theorem dX2_readName_35 : decode cX2_readName 35 = .ok (.aload_n 1, 1) := by decide +kernel
theorem dX2_readName_36 : decode cX2_readName 36 = .ok (.invokevirtual 26, 3) := by decide +kernel
theorem dX2_readName_39 : decode cX2_readName 39 = .ok (.iadd, 1) := by decide +kernel
theorem dX2_readName_40 : decode cX2_readName 40 = .ok (.bipush 29, 2) := by decide +kernel
theorem dX2_readName_42 : decode cX2_readName 42 = .ok (.isub, 1) := by decide +kernel
theorem dX2_readName_43 : decode cX2_readName 43 = .ok (.invokevirtual 92, 3) := by decide +kernel
theorem dX2_readName_46 : decode cX2_readName 46 = .ok (.aload_n 1, 1) := by decide +kernel
theorem dX2_readName_47 : decode cX2_readName 47 = .ok (.invokevirtual 54, 3) := by decide +kernel
theorem dX2_readName_50 : decode cX2_readName 50 = .ok (.return_, 1) := by decide +kernel
theorem dX3_init_0 : decode cX3_init 0 = .ok (.aload_n 0, 1) := by decide +kernel
theorem dX3_init_1 : decode cX3_init 1 = .ok (.invokespecial 3, 3) := by decide +kernel
theorem dX3_init_4 : decode cX3_init 4 = .ok (.aload_n 0, 1) := by decide +kernel
theorem dX3_init_5 : decode cX3_init 5 = .ok (.sipush 150, 3) := by decide +kernel
theorem dX3_init_8 : decode cX3_init 8 = .ok (.newarray .int, 2) := by decide +kernel
theorem dX3_init_10 : decode cX3_init 10 = .ok (.putfield 11, 3) := by decide +kernel
theorem dX3_init_13 : decode cX3_init 13 = .ok (.aload_n 0, 1) := by decide +kernel
theorem dX3_init_14 : decode cX3_init 14 = .ok (.sipush 150, 3) := by decide +kernel
theorem dX3_init_17 : decode cX3_init 17 = .ok (.newarray .int, 2) := by decide +kernel
theorem dX3_init_19 : decode cX3_init 19 = .ok (.putfield 15, 3) := by decide +kernel
theorem dX3_init_22 : decode cX3_init 22 = .ok (.aload_n 0, 1) := by decide +kernel
theorem dX3_init_23 : decode cX3_init 23 = .ok (.bipush 10, 2) := by decide +kernel
theorem dX3_init_25 : decode cX3_init 25 = .ok (.newarray .boolean, 2) := by decide +kernel
theorem dX3_init_27 : decode cX3_init 27 = .ok (.putfield 18, 3) := by decide +kernel
theorem dX3_init_30 : decode cX3_init 30 = .ok (.aload_n 0, 1) := by decide +kernel
theorem dX3_init_31 : decode cX3_init 31 = .ok (.iconst 3, 1) := by decide +kernel
theorem dX3_init_32 : decode cX3_init 32 = .ok (.newarray .int, 2) := by decide +kernel
theorem dX3_init_34 : decode cX3_init 34 = .ok (.putfield 22, 3) := by decide +kernel
theorem dX3_init_37 : decode cX3_init 37 = .ok (.aload_n 0, 1) := by decide +kernel
theorem dX3_init_38 : decode cX3_init 38 = .ok (.iconst 3, 1) := by decide +kernel
theorem dX3_init_39 : decode cX3_init 39 = .ok (.newarray .int, 2) := by decide +kernel
theorem dX3_init_41 : decode cX3_init 41 = .ok (.putfield 25, 3) := by decide +kernel
theorem dX3_init_44 : decode cX3_init 44 = .ok (.aload_n 0, 1) := by decide +kernel
theorem dX3_init_45 : decode cX3_init 45 = .ok (.iconst 3, 1) := by decide +kernel
theorem dX3_init_46 : decode cX3_init 46 = .ok (.newarray .int, 2) := by decide +kernel
theorem dX3_init_48 : decode cX3_init 48 = .ok (.putfield 28, 3) := by decide +kernel
theorem dX3_init_51 : decode cX3_init 51 = .ok (.aload_n 0, 1) := by decide +kernel
theorem dX3_init_52 : decode cX3_init 52 = .ok (.iconst 3, 1) := by decide +kernel
theorem dX3_init_53 : decode cX3_init 53 = .ok (.newarray .int, 2) := by decide +kernel
theorem dX3_init_55 : decode cX3_init 55 = .ok (.putfield 31, 3) := by decide +kernel
theorem dX3_init_58 : decode cX3_init 58 = .ok (.aload_n 0, 1) := by decide +kernel
theorem dX3_init_59 : decode cX3_init 59 = .ok (.iconst 3, 1) := by decide +kernel
theorem dX3_init_60 : decode cX3_init 60 = .ok (.newarray .int, 2) := by decide +kernel
theorem dX3_init_62 : decode cX3_init 62 = .ok (.putfield 34, 3) := by decide +kernel
theorem dX3_init_65 : decode cX3_init 65 = .ok (.aload_n 0, 1) := by decide +kernel
theorem dX3_init_66 : decode cX3_init 66 = .ok (.iconst 0, 1) := by decide +kernel
theorem dX3_init_67 : decode cX3_init 67 = .ok (.putfield 37, 3) := by decide +kernel
theorem dX3_init_70 : decode cX3_init 70 = .ok (.aload_n 0, 1) := by decide +kernel
theorem dX3_init_71 : decode cX3_init 71 = .ok (.lconst 1, 1) := by decide +kernel
theorem dX3_init_72 : decode cX3_init 72 = .ok (.putfield 41, 3) := by decide +kernel
theorem dX3_init_75 : decode cX3_init 75 = .ok (.aload_n 0, 1) := by decide +kernel
theorem dX3_init_76 : decode cX3_init 76 = .ok (.iconst 0, 1) := by decide +kernel
theorem dX3_init_77 : decode cX3_init 77 = .ok (.putfield 45, 3) := by decide +kernel
theorem dX3_init_80 : decode cX3_init 80 = .ok (.aload_n 0, 1) := by decide +kernel
theorem dX3_init_81 : decode cX3_init 81 = .ok (.iconst 0, 1) := by decide +kernel
theorem dX3_init_82 : decode cX3_init 82 = .ok (.putfield 48, 3) := by decide +kernel
theorem dX3_init_85 : decode cX3_init 85 = .ok (.aload_n 0, 1) := by decide +kernel
theorem dX3_init_86 : decode cX3_init 86 = .ok (.iconst 0, 1) := by decide +kernel
theorem dX3_init_87 : decode cX3_init 87 = .ok (.putfield 51, 3) := by decide +kernel
theorem dX3_init_90 : decode cX3_init 90 = .ok (.aload_n 0, 1) := by decide +kernel
theorem dX3_init_91 : decode cX3_init 91 = .ok (.iconst 0, 1) := by decide +kernel
theorem dX3_init_92 : decode cX3_init 92 = .ok (.putfield 55, 3) := by decide +kernel
theorem dX3_init_95 : decode cX3_init 95 = .ok (.aload_n 0, 1) := by decide +kernel
theorem dX3_init_96 : decode cX3_init 96 = .ok (.lconst 0, 1) := by decide +kernel
theorem dX3_init_97 : decode cX3_init 97 = .ok (.putfield 58, 3) := by decide +kernel
theorem dX3_init_100 : decode cX3_init 100 = .ok (.aload_n 0, 1) := by decide +kernel
theorem dX3_init_101 : decode cX3_init 101 = .ok (.iconst 0, 1) := by decide +kernel
theorem dX3_init_102 : decode cX3_init 102 = .ok (.putfield 61, 3) := by decide +kernel
theorem dX3_init_105 : decode cX3_init 105 = .ok (.return_, 1) := by decide +kernel
set_option maxRecDepth 20000 in
theorem ggX3_fewest_X4_isFree : GoodIn wsX3_fewest wsX4_isFree := goodIn_r _ [17, 18, 19, 20, 16, 21, 22, 23, 24, 25, 26, 27, 182, 183, 184, 185, 186, 187, 188, 189, 190, 191, 192, 193, 194] (by decide +kernel) (by decide +kernel)
set_option maxRecDepth 20000 in
theorem gX3_fewest_X4_isFree : GoodIn wsX3_fewest (wsV RX3 73 RX4 yX4_isFree wsX4_isFree) := goodIn_app (goodIn_of _ (by decide +kernel)) ggX3_fewest_X4_isFree
set_option maxRecDepth 20000 in
theorem ggX3_fewest_X4_ofGoose : GoodIn wsX3_fewest wsX4_ofGoose := goodIn_r _ [25, 26, 27, 182, 183, 184, 185, 186, 187, 188, 189, 190, 191, 192, 193, 194] (by decide +kernel) (by decide +kernel)
set_option maxRecDepth 20000 in
theorem gX3_fewest_X4_ofGoose : GoodIn wsX3_fewest (wsV RX3 77 RX4 yX4_ofGoose wsX4_ofGoose) := goodIn_app (goodIn_of _ (by decide +kernel)) ggX3_fewest_X4_ofGoose
set_option maxRecDepth 20000 in
theorem ggX3_fewest_X3_weighGoose : GoodIn wsX3_fewest wsX3_weighGoose := goodIn_r _ [33, 34, 35, 9, 36, 37, 38, 7, 39, 5, 6, 8, 40, 41, 42, 43, 44, 45, 46, 47, 48, 49, 50, 51, 23, 24, 16, 25, 26, 27, 52, 53, 54, 55, 56, 57, 58, 59, 60, 61, 62, 63, 64, 65, 66, 67, 68, 69, 70, 71, 72, 73, 74, 75, 76, 77, 78, 79, 80, 81, 82, 83, 84, 85, 86, 87, 88, 89, 90, 91, 92, 93, 94, 95, 96, 97, 98, 99, 100, 101, 102, 103, 104, 105, 106, 107, 108, 109, 110, 111, 32, 112, 113, 114, 115, 116, 117, 118, 119, 120, 121, 122, 123, 166, 167, 168, 169, 170, 171, 172, 173, 174, 175, 176, 177, 178, 179, 180, 181, 182, 183, 184, 185, 186, 187, 188, 189, 190, 191, 192, 193, 194, 195, 196, 197, 198, 199, 200, 201, 202, 203, 204] (by decide +kernel) (by decide +kernel)
set_option maxRecDepth 20000 in
theorem gX3_fewest_X3_weighGoose : GoodIn wsX3_fewest (wsV RX3 80 RX3 yX3_weighGoose wsX3_weighGoose) := goodIn_app (goodIn_of _ (by decide +kernel)) ggX3_fewest_X3_weighGoose
set_option maxRecDepth 20000 in
theorem ggX3_fewest_X3_tryGeese : GoodIn wsX3_fewest wsX3_tryGeese := goodIn_r _ [127, 11, 10, 128, 129, 130, 131, 32, 132, 133, 134, 135, 5, 6, 7, 8, 136, 137, 34, 35, 138, 139, 140, 141, 12, 142, 143, 144, 145, 2, 1, 146, 147, 148, 149, 3, 150, 151, 152, 153, 154, 9, 155, 156, 157, 158, 159, 160, 161, 162, 163, 164, 165, 124, 125, 126, 166, 167, 168, 169, 170, 171, 172, 173, 174, 175, 176, 177, 178, 179, 180, 181] (by decide +kernel) (by decide +kernel)
set_option maxRecDepth 20000 in
theorem gX3_fewest_X3_tryGeese : GoodIn wsX3_fewest (wsV RX3 86 RX3 yX3_tryGeese wsX3_tryGeese) := goodIn_app (goodIn_of _ (by decide +kernel)) ggX3_fewest_X3_tryGeese
theorem dX3_fewest_0 : decode cX3_fewest 0 = .ok (.aload_n 0, 1) := by decide +kernel
theorem dX3_fewest_1 : decode cX3_fewest 1 = .ok (.iload 4, 2) := by decide +kernel
theorem dX3_fewest_3 : decode cX3_fewest 3 = .ok (.putfield 45, 3) := by decide +kernel
theorem dX3_fewest_6 : decode cX3_fewest 6 = .ok (.aload_n 0, 1) := by decide +kernel
theorem dX3_fewest_7 : decode cX3_fewest 7 = .ok (.lconst 1, 1) := by decide +kernel
theorem dX3_fewest_8 : decode cX3_fewest 8 = .ok (.putfield 41, 3) := by decide +kernel
theorem dX3_fewest_11 : decode cX3_fewest 11 = .ok (.aload_n 0, 1) := by decide +kernel
theorem dX3_fewest_12 : decode cX3_fewest 12 = .ok (.iconst 0, 1) := by decide +kernel
theorem dX3_fewest_13 : decode cX3_fewest 13 = .ok (.putfield 51, 3) := by decide +kernel
theorem dX3_fewest_16 : decode cX3_fewest 16 = .ok (.aload_n 0, 1) := by decide +kernel
theorem dX3_fewest_17 : decode cX3_fewest 17 = .ok (.iconst 4, 1) := by decide +kernel
theorem dX3_fewest_18 : decode cX3_fewest 18 = .ok (.aload_n 1, 1) := by decide +kernel
theorem dX3_fewest_19 : decode cX3_fewest 19 = .ok (.getfield 64, 3) := by decide +kernel
theorem dX3_fewest_22 : decode cX3_fewest 22 = .ok (.invokestatic 67, 3) := by decide +kernel
theorem dX3_fewest_25 : decode cX3_fewest 25 = .ok (.putfield 48, 3) := by decide +kernel
theorem dX3_fewest_28 : decode cX3_fewest 28 = .ok (.iconst 0, 1) := by decide +kernel
theorem dX3_fewest_29 : decode cX3_fewest 29 = .ok (.istore 5, 2) := by decide +kernel
theorem dX3_fewest_31 : decode cX3_fewest 31 = .ok (.iload 5, 2) := by decide +kernel
theorem dX3_fewest_33 : decode cX3_fewest 33 = .ok (.bipush 10, 2) := by decide +kernel
theorem dX3_fewest_35 : decode cX3_fewest 35 = .ok (.if_icmp .ge 60, 3) := by decide +kernel
theorem dX3_fewest_38 : decode cX3_fewest 38 = .ok (.aload_n 0, 1) := by decide +kernel
theorem dX3_fewest_39 : decode cX3_fewest 39 = .ok (.getfield 18, 3) := by decide +kernel
theorem dX3_fewest_42 : decode cX3_fewest 42 = .ok (.iload 5, 2) := by decide +kernel
theorem dX3_fewest_44 : decode cX3_fewest 44 = .ok (.aload_n 1, 1) := by decide +kernel
theorem dX3_fewest_45 : decode cX3_fewest 45 = .ok (.iload 5, 2) := by decide +kernel
theorem dX3_fewest_47 : decode cX3_fewest 47 = .ok (.invokevirtual 73, 3) := by decide +kernel
theorem dX3_fewest_50 : decode cX3_fewest 50 = .ok (.ifCond .eq 18, 3) := by decide +kernel
theorem dX3_fewest_53 : decode cX3_fewest 53 = .ok (.aload_n 1, 1) := by decide +kernel
theorem dX3_fewest_54 : decode cX3_fewest 54 = .ok (.iload 5, 2) := by decide +kernel
theorem dX3_fewest_56 : decode cX3_fewest 56 = .ok (.iconst 2, 1) := by decide +kernel
theorem dX3_fewest_57 : decode cX3_fewest 57 = .ok (.invokevirtual 77, 3) := by decide +kernel
theorem dX3_fewest_60 : decode cX3_fewest 60 = .ok (.iconst (-1), 1) := by decide +kernel
theorem dX3_fewest_61 : decode cX3_fewest 61 = .ok (.if_icmp .ne 7, 3) := by decide +kernel
theorem dX3_fewest_64 : decode cX3_fewest 64 = .ok (.iconst 1, 1) := by decide +kernel
theorem dX3_fewest_65 : decode cX3_fewest 65 = .ok (.goto 4, 3) := by decide +kernel
theorem dX3_fewest_68 : decode cX3_fewest 68 = .ok (.iconst 0, 1) := by decide +kernel
theorem dX3_fewest_69 : decode cX3_fewest 69 = .ok (.bastore, 1) := by decide +kernel
theorem dX3_fewest_70 : decode cX3_fewest 70 = .ok (.aload_n 0, 1) := by decide +kernel
theorem dX3_fewest_71 : decode cX3_fewest 71 = .ok (.getfield 18, 3) := by decide +kernel
theorem dX3_fewest_74 : decode cX3_fewest 74 = .ok (.iload 5, 2) := by decide +kernel
theorem dX3_fewest_76 : decode cX3_fewest 76 = .ok (.baload, 1) := by decide +kernel
theorem dX3_fewest_77 : decode cX3_fewest 77 = .ok (.ifCond .eq 12, 3) := by decide +kernel
theorem dX3_fewest_80 : decode cX3_fewest 80 = .ok (.aload_n 0, 1) := by decide +kernel
theorem dX3_fewest_81 : decode cX3_fewest 81 = .ok (.aload_n 1, 1) := by decide +kernel
theorem dX3_fewest_82 : decode cX3_fewest 82 = .ok (.aload_n 2, 1) := by decide +kernel
theorem dX3_fewest_83 : decode cX3_fewest 83 = .ok (.iload 5, 2) := by decide +kernel
theorem dX3_fewest_85 : decode cX3_fewest 85 = .ok (.iload_n 3, 1) := by decide +kernel
theorem dX3_fewest_86 : decode cX3_fewest 86 = .ok (.invokevirtual 80, 3) := by decide +kernel
theorem dX3_fewest_89 : decode cX3_fewest 89 = .ok (.iinc 5 1, 3) := by decide +kernel
theorem dX3_fewest_92 : decode cX3_fewest 92 = .ok (.goto (-61), 3) := by decide +kernel
theorem dX3_fewest_95 : decode cX3_fewest 95 = .ok (.iconst 1, 1) := by decide +kernel
theorem dX3_fewest_96 : decode cX3_fewest 96 = .ok (.istore 5, 2) := by decide +kernel
theorem dX3_fewest_98 : decode cX3_fewest 98 = .ok (.iload 5, 2) := by decide +kernel
theorem dX3_fewest_100 : decode cX3_fewest 100 = .ok (.iconst 3, 1) := by decide +kernel
theorem dX3_fewest_101 : decode cX3_fewest 101 = .ok (.if_icmp .gt 45, 3) := by decide +kernel
theorem dX3_fewest_104 : decode cX3_fewest 104 = .ok (.aload_n 0, 1) := by decide +kernel
theorem dX3_fewest_105 : decode cX3_fewest 105 = .ok (.iload 5, 2) := by decide +kernel
theorem dX3_fewest_107 : decode cX3_fewest 107 = .ok (.putfield 37, 3) := by decide +kernel
theorem dX3_fewest_110 : decode cX3_fewest 110 = .ok (.aload_n 0, 1) := by decide +kernel
theorem dX3_fewest_111 : decode cX3_fewest 111 = .ok (.dup, 1) := by decide +kernel
theorem dX3_fewest_112 : decode cX3_fewest 112 = .ok (.getfield 41, 3) := by decide +kernel
theorem dX3_fewest_115 : decode cX3_fewest 115 = .ok (.ldc2_w 84, 3) := by decide +kernel
theorem dX3_fewest_118 : decode cX3_fewest 118 = .ok (.lmul, 1) := by decide +kernel
theorem dX3_fewest_119 : decode cX3_fewest 119 = .ok (.putfield 41, 3) := by decide +kernel
theorem dX3_fewest_122 : decode cX3_fewest 122 = .ok (.aload_n 0, 1) := by decide +kernel
theorem dX3_fewest_123 : decode cX3_fewest 123 = .ok (.iconst 0, 1) := by decide +kernel
theorem dX3_fewest_124 : decode cX3_fewest 124 = .ok (.iconst 0, 1) := by decide +kernel
theorem dX3_fewest_125 : decode cX3_fewest 125 = .ok (.invokevirtual 86, 3) := by decide +kernel
theorem dX3_fewest_128 : decode cX3_fewest 128 = .ok (.aload_n 0, 1) := by decide +kernel
theorem dX3_fewest_129 : decode cX3_fewest 129 = .ok (.getfield 51, 3) := by decide +kernel
theorem dX3_fewest_132 : decode cX3_fewest 132 = .ok (.ifCond .eq 8, 3) := by decide +kernel
theorem dX3_fewest_135 : decode cX3_fewest 135 = .ok (.aload_n 0, 1) := by decide +kernel
theorem dX3_fewest_136 : decode cX3_fewest 136 = .ok (.getfield 37, 3) := by decide +kernel
theorem dX3_fewest_139 : decode cX3_fewest 139 = .ok (.ireturn, 1) := by decide +kernel
theorem dX3_fewest_140 : decode cX3_fewest 140 = .ok (.iinc 5 1, 3) := by decide +kernel
theorem dX3_fewest_143 : decode cX3_fewest 143 = .ok (.goto (-45), 3) := by decide +kernel
theorem dX3_fewest_146 : decode cX3_fewest 146 = .ok (.iconst 0, 1) := by decide +kernel
theorem dX3_fewest_147 : decode cX3_fewest 147 = .ok (.ireturn, 1) := by decide +kernel
theorem dX3_choiceOf_0 : decode cX3_choiceOf 0 = .ok (.iconst 0, 1) := by decide +kernel
theorem dX3_choiceOf_1 : decode cX3_choiceOf 1 = .ok (.istore_n 2, 1) := by decide +kernel
theorem dX3_choiceOf_2 : decode cX3_choiceOf 2 = .ok (.iload_n 2, 1) := by decide +kernel
theorem dX3_choiceOf_3 : decode cX3_choiceOf 3 = .ok (.aload_n 0, 1) := by decide +kernel
theorem dX3_choiceOf_4 : decode cX3_choiceOf 4 = .ok (.getfield 37, 3) := by decide +kernel
theorem dX3_choiceOf_7 : decode cX3_choiceOf 7 = .ok (.if_icmp .ge 31, 3) := by decide +kernel
theorem dX3_choiceOf_10 : decode cX3_choiceOf 10 = .ok (.iload_n 2, 1) := by decide +kernel
theorem dX3_choiceOf_11 : decode cX3_choiceOf 11 = .ok (.iconst 3, 1) := by decide +kernel
theorem dX3_choiceOf_12 : decode cX3_choiceOf 12 = .ok (.if_icmp .ge 26, 3) := by decide +kernel
theorem dX3_choiceOf_15 : decode cX3_choiceOf 15 = .ok (.aload_n 0, 1) := by decide +kernel
theorem dX3_choiceOf_16 : decode cX3_choiceOf 16 = .ok (.getfield 31, 3) := by decide +kernel
theorem dX3_choiceOf_19 : decode cX3_choiceOf 19 = .ok (.iload_n 2, 1) := by decide +kernel
theorem dX3_choiceOf_20 : decode cX3_choiceOf 20 = .ok (.iaload, 1) := by decide +kernel
theorem dX3_choiceOf_21 : decode cX3_choiceOf 21 = .ok (.iload_n 1, 1) := by decide +kernel
theorem dX3_choiceOf_22 : decode cX3_choiceOf 22 = .ok (.if_icmp .ne 10, 3) := by decide +kernel
theorem dX3_choiceOf_25 : decode cX3_choiceOf 25 = .ok (.aload_n 0, 1) := by decide +kernel
theorem dX3_choiceOf_26 : decode cX3_choiceOf 26 = .ok (.getfield 34, 3) := by decide +kernel
theorem dX3_choiceOf_29 : decode cX3_choiceOf 29 = .ok (.iload_n 2, 1) := by decide +kernel
theorem dX3_choiceOf_30 : decode cX3_choiceOf 30 = .ok (.iaload, 1) := by decide +kernel
theorem dX3_choiceOf_31 : decode cX3_choiceOf 31 = .ok (.ireturn, 1) := by decide +kernel
theorem dX3_choiceOf_32 : decode cX3_choiceOf 32 = .ok (.iinc 2 1, 3) := by decide +kernel
theorem dX3_choiceOf_35 : decode cX3_choiceOf 35 = .ok (.goto (-33), 3) := by decide +kernel
theorem dX3_choiceOf_38 : decode cX3_choiceOf 38 = .ok (.iconst (-1), 1) := by decide +kernel
theorem dX3_choiceOf_39 : decode cX3_choiceOf 39 = .ok (.ireturn, 1) := by decide +kernel
theorem dX3_cell_0 : decode cX3_cell 0 = .ok (.iload_n 0, 1) := by decide +kernel
theorem dX3_cell_1 : decode cX3_cell 1 = .ok (.iconst 3, 1) := by decide +kernel
theorem dX3_cell_2 : decode cX3_cell 2 = .ok (.imul, 1) := by decide +kernel
theorem dX3_cell_3 : decode cX3_cell 3 = .ok (.iload_n 1, 1) := by decide +kernel
theorem dX3_cell_4 : decode cX3_cell 4 = .ok (.iadd, 1) := by decide +kernel
theorem dX3_cell_5 : decode cX3_cell 5 = .ok (.iconst 5, 1) := by decide +kernel
theorem dX3_cell_6 : decode cX3_cell 6 = .ok (.imul, 1) := by decide +kernel
theorem dX3_cell_7 : decode cX3_cell 7 = .ok (.iload_n 2, 1) := by decide +kernel
theorem dX3_cell_8 : decode cX3_cell 8 = .ok (.iadd, 1) := by decide +kernel
theorem dX3_cell_9 : decode cX3_cell 9 = .ok (.ireturn, 1) := by decide +kernel
set_option maxRecDepth 20000 in
theorem ggX3_weighGoose_X1_lookAtFilled : GoodIn wsX3_weighGoose wsX1_lookAtFilled := goodIn_r _ [16, 17, 18, 19, 20, 15, 21, 22, 23, 24, 25, 26, 27, 28, 29, 132, 133, 134, 135, 119, 120, 121, 122, 123, 124, 125, 126, 127, 128, 129, 130, 131] (by decide +kernel) (by decide +kernel)
set_option maxRecDepth 20000 in
theorem gX3_weighGoose_X1_lookAtFilled : GoodIn wsX3_weighGoose (wsV RX3 90 RX1 yX1_lookAtFilled wsX1_lookAtFilled) := goodIn_app (goodIn_of _ (by decide +kernel)) ggX3_weighGoose_X1_lookAtFilled
set_option maxRecDepth 20000 in
theorem ggX3_weighGoose_X1_rule : GoodIn wsX3_weighGoose wsX1_rule := goodIn_r _ [33, 34, 35, 36, 10, 7, 11, 37, 6, 8, 38, 39, 40, 15, 41, 42, 43, 44, 45, 46, 47, 48, 49, 50, 51, 52, 17, 53, 54, 55, 56, 57, 58, 59, 60, 61, 62, 63, 64, 65, 66, 67, 68, 69, 70, 71, 72, 73, 74, 75, 76, 77, 78, 79, 80, 81, 82, 83, 84, 85, 86, 87, 119, 120, 121, 122, 123, 124, 125, 126, 127, 128, 129, 130, 131, 132, 133, 134, 135, 136, 137, 138, 139, 140, 141] (by decide +kernel) (by decide +kernel)
set_option maxRecDepth 20000 in
theorem gX3_weighGoose_X1_rule : GoodIn wsX3_weighGoose (wsV RX3 96 RX1 yX1_rule wsX1_rule) := goodIn_app (goodIn_of _ (by decide +kernel)) ggX3_weighGoose_X1_rule
set_option maxRecDepth 20000 in
theorem ggX3_weighGoose_X3_cell : GoodIn wsX3_weighGoose wsX3_cell := goodIn_r _ [91] (by decide +kernel) (by decide +kernel)
set_option maxRecDepth 20000 in
theorem gX3_weighGoose_X3_cell : GoodIn wsX3_weighGoose (va_wsS RX3 100 yX3_cell wsX3_cell) := goodIn_app (goodIn_of _ (by decide +kernel)) ggX3_weighGoose_X3_cell
set_option maxRecDepth 20000 in
theorem ggX3_weighGoose_X4_ofMarket : GoodIn wsX3_weighGoose wsX4_ofMarket := goodIn_r _ [95, 96, 97, 119, 120, 121, 122, 123, 124, 125, 126, 127, 128, 129, 130, 131] (by decide +kernel) (by decide +kernel)
set_option maxRecDepth 20000 in
theorem gX3_weighGoose_X4_ofMarket : GoodIn wsX3_weighGoose (wsV RX3 107 RX4 yX4_ofMarket wsX4_ofMarket) := goodIn_app (goodIn_of _ (by decide +kernel)) ggX3_weighGoose_X4_ofMarket
set_option maxRecDepth 20000 in
theorem ggX3_weighGoose_X1_lookAtMarket : GoodIn wsX3_weighGoose wsX1_lookAtMarket := goodIn_r _ [101, 17, 102, 93, 94, 26, 95, 96, 97, 132, 133, 134, 135, 119, 120, 121, 122, 123, 124, 125, 126, 127, 128, 129, 130, 131] (by decide +kernel) (by decide +kernel)
set_option maxRecDepth 20000 in
theorem gX3_weighGoose_X1_lookAtMarket : GoodIn wsX3_weighGoose (wsV RX3 110 RX1 yX1_lookAtMarket wsX1_lookAtMarket) := goodIn_app (goodIn_of _ (by decide +kernel)) ggX3_weighGoose_X1_lookAtMarket
theorem dX3_weighGoose_0 : decode cX3_weighGoose 0 = .ok (.iconst 0, 1) := by decide +kernel
theorem dX3_weighGoose_1 : decode cX3_weighGoose 1 = .ok (.istore 5, 2) := by decide +kernel
theorem dX3_weighGoose_3 : decode cX3_weighGoose 3 = .ok (.iload 5, 2) := by decide +kernel
theorem dX3_weighGoose_5 : decode cX3_weighGoose 5 = .ok (.iconst 3, 1) := by decide +kernel
theorem dX3_weighGoose_6 : decode cX3_weighGoose 6 = .ok (.if_icmp .ge 204, 3) := by decide +kernel
theorem dX3_weighGoose_9 : decode cX3_weighGoose 9 = .ok (.aload_n 2, 1) := by decide +kernel
theorem dX3_weighGoose_10 : decode cX3_weighGoose 10 = .ok (.aload_n 1, 1) := by decide +kernel
theorem dX3_weighGoose_11 : decode cX3_weighGoose 11 = .ok (.iload_n 3, 1) := by decide +kernel
theorem dX3_weighGoose_12 : decode cX3_weighGoose 12 = .ok (.iload 4, 2) := by decide +kernel
theorem dX3_weighGoose_14 : decode cX3_weighGoose 14 = .ok (.iload 5, 2) := by decide +kernel
theorem dX3_weighGoose_16 : decode cX3_weighGoose 16 = .ok (.invokevirtual 90, 3) := by decide +kernel
theorem dX3_weighGoose_19 : decode cX3_weighGoose 19 = .ok (.aload_n 2, 1) := by decide +kernel
theorem dX3_weighGoose_20 : decode cX3_weighGoose 20 = .ok (.aload_n 1, 1) := by decide +kernel
theorem dX3_weighGoose_21 : decode cX3_weighGoose 21 = .ok (.iconst 3, 1) := by decide +kernel
theorem dX3_weighGoose_22 : decode cX3_weighGoose 22 = .ok (.invokevirtual 96, 3) := by decide +kernel
theorem dX3_weighGoose_25 : decode cX3_weighGoose 25 = .ok (.ifCond .eq 7, 3) := by decide +kernel
theorem dX3_weighGoose_28 : decode cX3_weighGoose 28 = .ok (.iconst 1, 1) := by decide +kernel
theorem dX3_weighGoose_29 : decode cX3_weighGoose 29 = .ok (.goto 4, 3) := by decide +kernel
theorem dX3_weighGoose_32 : decode cX3_weighGoose 32 = .ok (.iconst 0, 1) := by decide +kernel
theorem dX3_weighGoose_33 : decode cX3_weighGoose 33 = .ok (.istore 6, 2) := by decide +kernel
theorem dX3_weighGoose_35 : decode cX3_weighGoose 35 = .ok (.iload_n 3, 1) := by decide +kernel
theorem dX3_weighGoose_36 : decode cX3_weighGoose 36 = .ok (.iload 5, 2) := by decide +kernel
theorem dX3_weighGoose_38 : decode cX3_weighGoose 38 = .ok (.iconst 4, 1) := by decide +kernel
theorem dX3_weighGoose_39 : decode cX3_weighGoose 39 = .ok (.invokestatic 100, 3) := by decide +kernel
theorem dX3_weighGoose_42 : decode cX3_weighGoose 42 = .ok (.istore 7, 2) := by decide +kernel
theorem dX3_weighGoose_44 : decode cX3_weighGoose 44 = .ok (.aload_n 0, 1) := by decide +kernel
theorem dX3_weighGoose_45 : decode cX3_weighGoose 45 = .ok (.getfield 11, 3) := by decide +kernel
theorem dX3_weighGoose_48 : decode cX3_weighGoose 48 = .ok (.iload 7, 2) := by decide +kernel
theorem dX3_weighGoose_50 : decode cX3_weighGoose 50 = .ok (.iconst 0, 1) := by decide +kernel
theorem dX3_weighGoose_51 : decode cX3_weighGoose 51 = .ok (.iastore, 1) := by decide +kernel
theorem dX3_weighGoose_52 : decode cX3_weighGoose 52 = .ok (.aload_n 0, 1) := by decide +kernel
theorem dX3_weighGoose_53 : decode cX3_weighGoose 53 = .ok (.getfield 15, 3) := by decide +kernel
theorem dX3_weighGoose_56 : decode cX3_weighGoose 56 = .ok (.iload 7, 2) := by decide +kernel
theorem dX3_weighGoose_58 : decode cX3_weighGoose 58 = .ok (.bipush 100, 2) := by decide +kernel
theorem dX3_weighGoose_60 : decode cX3_weighGoose 60 = .ok (.iastore, 1) := by decide +kernel
theorem dX3_weighGoose_61 : decode cX3_weighGoose 61 = .ok (.iconst 0, 1) := by decide +kernel
theorem dX3_weighGoose_62 : decode cX3_weighGoose 62 = .ok (.istore 8, 2) := by decide +kernel
theorem dX3_weighGoose_64 : decode cX3_weighGoose 64 = .ok (.iload 8, 2) := by decide +kernel
theorem dX3_weighGoose_66 : decode cX3_weighGoose 66 = .ok (.aload_n 0, 1) := by decide +kernel
theorem dX3_weighGoose_67 : decode cX3_weighGoose 67 = .ok (.getfield 48, 3) := by decide +kernel
theorem dX3_weighGoose_70 : decode cX3_weighGoose 70 = .ok (.if_icmp .ge 134, 3) := by decide +kernel
theorem dX3_weighGoose_73 : decode cX3_weighGoose 73 = .ok (.aload_n 2, 1) := by decide +kernel
theorem dX3_weighGoose_74 : decode cX3_weighGoose 74 = .ok (.aload_n 1, 1) := by decide +kernel
theorem dX3_weighGoose_75 : decode cX3_weighGoose 75 = .ok (.iload 8, 2) := by decide +kernel
theorem dX3_weighGoose_77 : decode cX3_weighGoose 77 = .ok (.aload_n 1, 1) := by decide +kernel
theorem dX3_weighGoose_78 : decode cX3_weighGoose 78 = .ok (.getfield 104, 3) := by decide +kernel
theorem dX3_weighGoose_81 : decode cX3_weighGoose 81 = .ok (.aload_n 1, 1) := by decide +kernel
theorem dX3_weighGoose_82 : decode cX3_weighGoose 82 = .ok (.iload 8, 2) := by decide +kernel
theorem dX3_weighGoose_84 : decode cX3_weighGoose 84 = .ok (.iconst 0, 1) := by decide +kernel
theorem dX3_weighGoose_85 : decode cX3_weighGoose 85 = .ok (.invokevirtual 107, 3) := by decide +kernel
theorem dX3_weighGoose_88 : decode cX3_weighGoose 88 = .ok (.iadd, 1) := by decide +kernel
theorem dX3_weighGoose_89 : decode cX3_weighGoose 89 = .ok (.invokevirtual 110, 3) := by decide +kernel
theorem dX3_weighGoose_92 : decode cX3_weighGoose 92 = .ok (.aload_n 2, 1) := by decide +kernel
theorem dX3_weighGoose_93 : decode cX3_weighGoose 93 = .ok (.aload_n 1, 1) := by decide +kernel
theorem dX3_weighGoose_94 : decode cX3_weighGoose 94 = .ok (.iconst 0, 1) := by decide +kernel
theorem dX3_weighGoose_95 : decode cX3_weighGoose 95 = .ok (.invokevirtual 96, 3) := by decide +kernel
theorem dX3_weighGoose_98 : decode cX3_weighGoose 98 = .ok (.istore 9, 2) := by decide +kernel
theorem dX3_weighGoose_100 : decode cX3_weighGoose 100 = .ok (.iload_n 3, 1) := by decide +kernel
theorem dX3_weighGoose_101 : decode cX3_weighGoose 101 = .ok (.iload 5, 2) := by decide +kernel
theorem dX3_weighGoose_103 : decode cX3_weighGoose 103 = .ok (.iload 8, 2) := by decide +kernel
theorem dX3_weighGoose_105 : decode cX3_weighGoose 105 = .ok (.invokestatic 100, 3) := by decide +kernel
theorem dX3_weighGoose_108 : decode cX3_weighGoose 108 = .ok (.istore 10, 2) := by decide +kernel
theorem dX3_weighGoose_110 : decode cX3_weighGoose 110 = .ok (.aload_n 0, 1) := by decide +kernel
theorem dX3_weighGoose_111 : decode cX3_weighGoose 111 = .ok (.getfield 11, 3) := by decide +kernel
theorem dX3_weighGoose_114 : decode cX3_weighGoose 114 = .ok (.iload 10, 2) := by decide +kernel
theorem dX3_weighGoose_116 : decode cX3_weighGoose 116 = .ok (.iload 6, 2) := by decide +kernel
theorem dX3_weighGoose_118 : decode cX3_weighGoose 118 = .ok (.ifCond .eq 14, 3) := by decide +kernel
theorem dX3_weighGoose_121 : decode cX3_weighGoose 121 = .ok (.bipush 10, 2) := by decide +kernel
theorem dX3_weighGoose_123 : decode cX3_weighGoose 123 = .ok (.iload 9, 2) := by decide +kernel
theorem dX3_weighGoose_125 : decode cX3_weighGoose 125 = .ok (.isub, 1) := by decide +kernel
theorem dX3_weighGoose_126 : decode cX3_weighGoose 126 = .ok (.bipush 10, 2) := by decide +kernel
theorem dX3_weighGoose_128 : decode cX3_weighGoose 128 = .ok (.imul, 1) := by decide +kernel
theorem dX3_weighGoose_129 : decode cX3_weighGoose 129 = .ok (.goto 4, 3) := by decide +kernel
theorem dX3_weighGoose_132 : decode cX3_weighGoose 132 = .ok (.iconst 0, 1) := by decide +kernel
theorem dX3_weighGoose_133 : decode cX3_weighGoose 133 = .ok (.iastore, 1) := by decide +kernel
theorem dX3_weighGoose_134 : decode cX3_weighGoose 134 = .ok (.aload_n 0, 1) := by decide +kernel
theorem dX3_weighGoose_135 : decode cX3_weighGoose 135 = .ok (.getfield 15, 3) := by decide +kernel
theorem dX3_weighGoose_138 : decode cX3_weighGoose 138 = .ok (.iload 10, 2) := by decide +kernel
theorem dX3_weighGoose_140 : decode cX3_weighGoose 140 = .ok (.iload 9, 2) := by decide +kernel
theorem dX3_weighGoose_142 : decode cX3_weighGoose 142 = .ok (.aload_n 2, 1) := by decide +kernel
theorem dX3_weighGoose_143 : decode cX3_weighGoose 143 = .ok (.aload_n 1, 1) := by decide +kernel
theorem dX3_weighGoose_144 : decode cX3_weighGoose 144 = .ok (.iconst 1, 1) := by decide +kernel
theorem dX3_weighGoose_145 : decode cX3_weighGoose 145 = .ok (.invokevirtual 96, 3) := by decide +kernel
theorem dX3_weighGoose_148 : decode cX3_weighGoose 148 = .ok (.imul, 1) := by decide +kernel
theorem dX3_weighGoose_149 : decode cX3_weighGoose 149 = .ok (.iastore, 1) := by decide +kernel
theorem dX3_weighGoose_150 : decode cX3_weighGoose 150 = .ok (.aload_n 0, 1) := by decide +kernel
theorem dX3_weighGoose_151 : decode cX3_weighGoose 151 = .ok (.getfield 11, 3) := by decide +kernel
theorem dX3_weighGoose_154 : decode cX3_weighGoose 154 = .ok (.iload 7, 2) := by decide +kernel
theorem dX3_weighGoose_156 : decode cX3_weighGoose 156 = .ok (.aload_n 0, 1) := by decide +kernel
theorem dX3_weighGoose_157 : decode cX3_weighGoose 157 = .ok (.getfield 11, 3) := by decide +kernel
theorem dX3_weighGoose_160 : decode cX3_weighGoose 160 = .ok (.iload 7, 2) := by decide +kernel
theorem dX3_weighGoose_162 : decode cX3_weighGoose 162 = .ok (.iaload, 1) := by decide +kernel
theorem dX3_weighGoose_163 : decode cX3_weighGoose 163 = .ok (.aload_n 0, 1) := by decide +kernel
theorem dX3_weighGoose_164 : decode cX3_weighGoose 164 = .ok (.getfield 11, 3) := by decide +kernel
theorem dX3_weighGoose_167 : decode cX3_weighGoose 167 = .ok (.iload 10, 2) := by decide +kernel
theorem dX3_weighGoose_169 : decode cX3_weighGoose 169 = .ok (.iaload, 1) := by decide +kernel
theorem dX3_weighGoose_170 : decode cX3_weighGoose 170 = .ok (.invokestatic 114, 3) := by decide +kernel
theorem dX3_weighGoose_173 : decode cX3_weighGoose 173 = .ok (.iastore, 1) := by decide +kernel
theorem dX3_weighGoose_174 : decode cX3_weighGoose 174 = .ok (.aload_n 0, 1) := by decide +kernel
theorem dX3_weighGoose_175 : decode cX3_weighGoose 175 = .ok (.getfield 15, 3) := by decide +kernel
theorem dX3_weighGoose_178 : decode cX3_weighGoose 178 = .ok (.iload 7, 2) := by decide +kernel
theorem dX3_weighGoose_180 : decode cX3_weighGoose 180 = .ok (.aload_n 0, 1) := by decide +kernel
theorem dX3_weighGoose_181 : decode cX3_weighGoose 181 = .ok (.getfield 15, 3) := by decide +kernel
theorem dX3_weighGoose_184 : decode cX3_weighGoose 184 = .ok (.iload 7, 2) := by decide +kernel
theorem dX3_weighGoose_186 : decode cX3_weighGoose 186 = .ok (.iaload, 1) := by decide +kernel
theorem dX3_weighGoose_187 : decode cX3_weighGoose 187 = .ok (.aload_n 0, 1) := by decide +kernel
theorem dX3_weighGoose_188 : decode cX3_weighGoose 188 = .ok (.getfield 15, 3) := by decide +kernel
theorem dX3_weighGoose_191 : decode cX3_weighGoose 191 = .ok (.iload 10, 2) := by decide +kernel
theorem dX3_weighGoose_193 : decode cX3_weighGoose 193 = .ok (.iaload, 1) := by decide +kernel
theorem dX3_weighGoose_194 : decode cX3_weighGoose 194 = .ok (.invokestatic 67, 3) := by decide +kernel
theorem dX3_weighGoose_197 : decode cX3_weighGoose 197 = .ok (.iastore, 1) := by decide +kernel
theorem dX3_weighGoose_198 : decode cX3_weighGoose 198 = .ok (.iinc 8 1, 3) := by decide +kernel
theorem dX3_weighGoose_201 : decode cX3_weighGoose 201 = .ok (.goto (-137), 3) := by decide +kernel
theorem dX3_weighGoose_204 : decode cX3_weighGoose 204 = .ok (.iinc 5 1, 3) := by decide +kernel
theorem dX3_weighGoose_207 : decode cX3_weighGoose 207 = .ok (.goto (-204), 3) := by decide +kernel
theorem dX3_weighGoose_210 : decode cX3_weighGoose 210 = .ok (.return_, 1) := by decide +kernel
set_option maxRecDepth 20000 in
theorem ggX3_tryGeese_X3_tryPatterns : GoodIn wsX3_tryGeese wsX3_tryPatterns := goodIn_r _ [8, 9, 1, 10, 11, 12, 13, 14, 15, 16, 17, 18, 19, 20, 21, 22, 7, 23, 3, 24, 25, 26, 27, 28, 29, 30, 31, 32, 33, 34, 35, 36, 37, 38, 39, 40, 41, 42, 43, 44, 45, 46, 47, 48, 49, 50, 51, 52, 56, 57, 58, 59, 60, 61, 62, 63, 64, 65, 66, 67, 68, 69, 70, 71] (by decide +kernel) (by decide +kernel)
set_option maxRecDepth 20000 in
theorem gX3_tryGeese_X3_tryPatterns : GoodIn wsX3_tryGeese (wsV RX3 117 RX3 yX3_tryPatterns wsX3_tryPatterns) := goodIn_app (goodIn_of _ (by decide +kernel)) ggX3_tryGeese_X3_tryPatterns
set_option maxRecDepth 20000 in
theorem ggX3_tryGeese_X3_tryGeese : GoodIn wsX3_tryGeese wsX3_tryGeese := goodIn_r _ [0, 1, 2, 3, 4, 5, 6, 7, 8, 9, 10, 11, 12, 13, 14, 15, 16, 17, 18, 19, 20, 21, 22, 23, 24, 25, 26, 27, 28, 29, 30, 31, 32, 33, 34, 35, 36, 37, 38, 39, 40, 41, 42, 43, 44, 45, 46, 47, 48, 49, 50, 51, 52, 53, 54, 55, 56, 57, 58, 59, 60, 61, 62, 63, 64, 65, 66, 67, 68, 69, 70, 71] (by decide +kernel) (by decide +kernel)
set_option maxRecDepth 20000 in
theorem gX3_tryGeese_X3_tryGeese : GoodIn wsX3_tryGeese (wsV RX3 86 RX3 yX3_tryGeese wsX3_tryGeese) := goodIn_app (goodIn_of _ (by decide +kernel)) ggX3_tryGeese_X3_tryGeese
theorem dX3_tryGeese_0 : decode cX3_tryGeese 0 = .ok (.iload_n 1, 1) := by decide +kernel
theorem dX3_tryGeese_1 : decode cX3_tryGeese 1 = .ok (.aload_n 0, 1) := by decide +kernel
theorem dX3_tryGeese_2 : decode cX3_tryGeese 2 = .ok (.getfield 37, 3) := by decide +kernel
theorem dX3_tryGeese_5 : decode cX3_tryGeese 5 = .ok (.if_icmp .ge 8, 3) := by decide +kernel
theorem dX3_tryGeese_8 : decode cX3_tryGeese 8 = .ok (.iload_n 1, 1) := by decide +kernel
theorem dX3_tryGeese_9 : decode cX3_tryGeese 9 = .ok (.iconst 3, 1) := by decide +kernel
theorem dX3_tryGeese_10 : decode cX3_tryGeese 10 = .ok (.if_icmp .lt 8, 3) := by decide +kernel
theorem dX3_tryGeese_13 : decode cX3_tryGeese 13 = .ok (.aload_n 0, 1) := by decide +kernel
theorem dX3_tryGeese_14 : decode cX3_tryGeese 14 = .ok (.invokevirtual 117, 3) := by decide +kernel
theorem dX3_tryGeese_17 : decode cX3_tryGeese 17 = .ok (.return_, 1) := by decide +kernel
theorem dX3_tryGeese_18 : decode cX3_tryGeese 18 = .ok (.iload_n 2, 1) := by decide +kernel
theorem dX3_tryGeese_19 : decode cX3_tryGeese 19 = .ok (.istore_n 3, 1) := by decide +kernel
theorem dX3_tryGeese_20 : decode cX3_tryGeese 20 = .ok (.iload_n 3, 1) := by decide +kernel
theorem dX3_tryGeese_21 : decode cX3_tryGeese 21 = .ok (.bipush 10, 2) := by decide +kernel
theorem dX3_tryGeese_23 : decode cX3_tryGeese 23 = .ok (.if_icmp .ge 35, 3) := by decide +kernel
theorem dX3_tryGeese_26 : decode cX3_tryGeese 26 = .ok (.aload_n 0, 1) := by decide +kernel
theorem dX3_tryGeese_27 : decode cX3_tryGeese 27 = .ok (.getfield 18, 3) := by decide +kernel
theorem dX3_tryGeese_30 : decode cX3_tryGeese 30 = .ok (.iload_n 3, 1) := by decide +kernel
theorem dX3_tryGeese_31 : decode cX3_tryGeese 31 = .ok (.baload, 1) := by decide +kernel
theorem dX3_tryGeese_32 : decode cX3_tryGeese 32 = .ok (.ifCond .eq 20, 3) := by decide +kernel
theorem dX3_tryGeese_35 : decode cX3_tryGeese 35 = .ok (.aload_n 0, 1) := by decide +kernel
theorem dX3_tryGeese_36 : decode cX3_tryGeese 36 = .ok (.getfield 22, 3) := by decide +kernel
theorem dX3_tryGeese_39 : decode cX3_tryGeese 39 = .ok (.iload_n 1, 1) := by decide +kernel
theorem dX3_tryGeese_40 : decode cX3_tryGeese 40 = .ok (.iload_n 3, 1) := by decide +kernel
theorem dX3_tryGeese_41 : decode cX3_tryGeese 41 = .ok (.iastore, 1) := by decide +kernel
theorem dX3_tryGeese_42 : decode cX3_tryGeese 42 = .ok (.aload_n 0, 1) := by decide +kernel
theorem dX3_tryGeese_43 : decode cX3_tryGeese 43 = .ok (.iload_n 1, 1) := by decide +kernel
theorem dX3_tryGeese_44 : decode cX3_tryGeese 44 = .ok (.iconst 1, 1) := by decide +kernel
theorem dX3_tryGeese_45 : decode cX3_tryGeese 45 = .ok (.iadd, 1) := by decide +kernel
theorem dX3_tryGeese_46 : decode cX3_tryGeese 46 = .ok (.iload_n 3, 1) := by decide +kernel
theorem dX3_tryGeese_47 : decode cX3_tryGeese 47 = .ok (.iconst 1, 1) := by decide +kernel
theorem dX3_tryGeese_48 : decode cX3_tryGeese 48 = .ok (.iadd, 1) := by decide +kernel
theorem dX3_tryGeese_49 : decode cX3_tryGeese 49 = .ok (.invokevirtual 86, 3) := by decide +kernel
theorem dX3_tryGeese_52 : decode cX3_tryGeese 52 = .ok (.iinc 3 1, 3) := by decide +kernel
theorem dX3_tryGeese_55 : decode cX3_tryGeese 55 = .ok (.goto (-35), 3) := by decide +kernel
theorem dX3_tryGeese_58 : decode cX3_tryGeese 58 = .ok (.return_, 1) := by decide +kernel
set_option maxRecDepth 20000 in
theorem ggX3_tryPatterns_X3_missOf : GoodIn wsX3_tryPatterns wsX3_missOf := goodIn_r _ [17, 2, 18, 9, 10, 19, 48, 49, 50, 51, 52, 53, 54, 55, 56, 57, 58, 59, 60, 61, 62, 63] (by decide +kernel) (by decide +kernel)
set_option maxRecDepth 20000 in
theorem gX3_tryPatterns_X3_missOf : GoodIn wsX3_tryPatterns (wsV RX3 126 RX3 yX3_missOf wsX3_missOf) := goodIn_app (goodIn_of _ (by decide +kernel)) ggX3_tryPatterns_X3_missOf
set_option maxRecDepth 20000 in
theorem ggX3_tryPatterns_X3_isEnough : GoodIn wsX3_tryPatterns wsX3_isEnough := goodIn_r _ [23, 24, 19, 25, 48, 49, 50, 51, 52, 53, 54, 55, 56, 57, 58, 59, 60, 61, 62, 63] (by decide +kernel) (by decide +kernel)
set_option maxRecDepth 20000 in
theorem gX3_tryPatterns_X3_isEnough : GoodIn wsX3_tryPatterns (wsV RX3 130 RX3 yX3_isEnough wsX3_isEnough) := goodIn_app (goodIn_of _ (by decide +kernel)) ggX3_tryPatterns_X3_isEnough
set_option maxRecDepth 20000 in
theorem ggX3_tryPatterns_X3_isBetter : GoodIn wsX3_tryPatterns wsX3_isBetter := goodIn_r _ [29, 30, 31, 48, 49, 50, 51, 52, 53, 54, 55, 56, 57, 58, 59, 60, 61, 62, 63] (by decide +kernel) (by decide +kernel)
set_option maxRecDepth 20000 in
theorem gX3_tryPatterns_X3_isBetter : GoodIn wsX3_tryPatterns (wsV RX3 134 RX3 yX3_isBetter wsX3_isBetter) := goodIn_app (goodIn_of _ (by decide +kernel)) ggX3_tryPatterns_X3_isBetter
set_option maxRecDepth 20000 in
theorem ggX3_tryPatterns_X3_tryMarkets : GoodIn wsX3_tryPatterns wsX3_tryMarkets := goodIn_r _ [35, 2, 36, 10, 37, 38, 39, 16, 40, 11, 12, 9, 1, 31, 41, 13, 14, 15, 17, 18, 19, 20, 21, 22, 23, 24, 25, 26, 27, 28, 29, 30, 42, 43, 44, 45, 46, 47, 32, 33, 34, 48, 49, 50, 51, 52, 53, 54, 55, 56, 57, 58, 59, 60, 61, 62, 63] (by decide +kernel) (by decide +kernel)
set_option maxRecDepth 20000 in
theorem gX3_tryPatterns_X3_tryMarkets : GoodIn wsX3_tryPatterns (wsV RX3 137 RX3 yX3_tryMarkets wsX3_tryMarkets) := goodIn_app (goodIn_of _ (by decide +kernel)) ggX3_tryPatterns_X3_tryMarkets
theorem dX3_tryPatterns_0 : decode cX3_tryPatterns 0 = .ok (.aload_n 0, 1) := by decide +kernel
theorem dX3_tryPatterns_1 : decode cX3_tryPatterns 1 = .ok (.iconst 0, 1) := by decide +kernel
theorem dX3_tryPatterns_2 : decode cX3_tryPatterns 2 = .ok (.putfield 55, 3) := by decide +kernel
theorem dX3_tryPatterns_5 : decode cX3_tryPatterns 5 = .ok (.aload_n 0, 1) := by decide +kernel
theorem dX3_tryPatterns_6 : decode cX3_tryPatterns 6 = .ok (.getfield 37, 3) := by decide +kernel
theorem dX3_tryPatterns_9 : decode cX3_tryPatterns 9 = .ok (.ifCond .lt 25, 3) := by decide +kernel
theorem dX3_tryPatterns_12 : decode cX3_tryPatterns 12 = .ok (.aload_n 0, 1) := by decide +kernel
theorem dX3_tryPatterns_13 : decode cX3_tryPatterns 13 = .ok (.getfield 37, 3) := by decide +kernel
theorem dX3_tryPatterns_16 : decode cX3_tryPatterns 16 = .ok (.getstatic 120, 3) := by decide +kernel
theorem dX3_tryPatterns_19 : decode cX3_tryPatterns 19 = .ok (.arraylength, 1) := by decide +kernel
theorem dX3_tryPatterns_20 : decode cX3_tryPatterns 20 = .ok (.if_icmp .ge 14, 3) := by decide +kernel
theorem dX3_tryPatterns_23 : decode cX3_tryPatterns 23 = .ok (.getstatic 120, 3) := by decide +kernel
theorem dX3_tryPatterns_26 : decode cX3_tryPatterns 26 = .ok (.aload_n 0, 1) := by decide +kernel
theorem dX3_tryPatterns_27 : decode cX3_tryPatterns 27 = .ok (.getfield 37, 3) := by decide +kernel
theorem dX3_tryPatterns_30 : decode cX3_tryPatterns 30 = .ok (.iaload, 1) := by decide +kernel
theorem dX3_tryPatterns_31 : decode cX3_tryPatterns 31 = .ok (.goto 4, 3) := by decide +kernel
theorem dX3_tryPatterns_34 : decode cX3_tryPatterns 34 = .ok (.iconst 0, 1) := by decide +kernel
theorem dX3_tryPatterns_35 : decode cX3_tryPatterns 35 = .ok (.istore_n 1, 1) := by decide +kernel
theorem dX3_tryPatterns_36 : decode cX3_tryPatterns 36 = .ok (.iconst 0, 1) := by decide +kernel
theorem dX3_tryPatterns_37 : decode cX3_tryPatterns 37 = .ok (.istore_n 2, 1) := by decide +kernel
theorem dX3_tryPatterns_38 : decode cX3_tryPatterns 38 = .ok (.iload_n 2, 1) := by decide +kernel
theorem dX3_tryPatterns_39 : decode cX3_tryPatterns 39 = .ok (.iload_n 1, 1) := by decide +kernel
theorem dX3_tryPatterns_40 : decode cX3_tryPatterns 40 = .ok (.if_icmp .ge 112, 3) := by decide +kernel
theorem dX3_tryPatterns_43 : decode cX3_tryPatterns 43 = .ok (.iload_n 2, 1) := by decide +kernel
theorem dX3_tryPatterns_44 : decode cX3_tryPatterns 44 = .ok (.getstatic 123, 3) := by decide +kernel
theorem dX3_tryPatterns_47 : decode cX3_tryPatterns 47 = .ok (.arraylength, 1) := by decide +kernel
theorem dX3_tryPatterns_48 : decode cX3_tryPatterns 48 = .ok (.if_icmp .ge 104, 3) := by decide +kernel
theorem dX3_tryPatterns_51 : decode cX3_tryPatterns 51 = .ok (.getstatic 123, 3) := by decide +kernel
theorem dX3_tryPatterns_54 : decode cX3_tryPatterns 54 = .ok (.iload_n 2, 1) := by decide +kernel
theorem dX3_tryPatterns_55 : decode cX3_tryPatterns 55 = .ok (.iaload, 1) := by decide +kernel
theorem dX3_tryPatterns_56 : decode cX3_tryPatterns 56 = .ok (.istore_n 3, 1) := by decide +kernel
theorem dX3_tryPatterns_57 : decode cX3_tryPatterns 57 = .ok (.aload_n 0, 1) := by decide +kernel
theorem dX3_tryPatterns_58 : decode cX3_tryPatterns 58 = .ok (.getfield 37, 3) := by decide +kernel
theorem dX3_tryPatterns_61 : decode cX3_tryPatterns 61 = .ok (.iconst 3, 1) := by decide +kernel
theorem dX3_tryPatterns_62 : decode cX3_tryPatterns 62 = .ok (.invokestatic 67, 3) := by decide +kernel
theorem dX3_tryPatterns_65 : decode cX3_tryPatterns 65 = .ok (.iconst 1, 1) := by decide +kernel
theorem dX3_tryPatterns_66 : decode cX3_tryPatterns 66 = .ok (.isub, 1) := by decide +kernel
theorem dX3_tryPatterns_67 : decode cX3_tryPatterns 67 = .ok (.istore 4, 2) := by decide +kernel
theorem dX3_tryPatterns_69 : decode cX3_tryPatterns 69 = .ok (.iload 4, 2) := by decide +kernel
theorem dX3_tryPatterns_71 : decode cX3_tryPatterns 71 = .ok (.ifCond .lt 33, 3) := by decide +kernel
theorem dX3_tryPatterns_74 : decode cX3_tryPatterns 74 = .ok (.aload_n 0, 1) := by decide +kernel
theorem dX3_tryPatterns_75 : decode cX3_tryPatterns 75 = .ok (.getfield 25, 3) := by decide +kernel
theorem dX3_tryPatterns_78 : decode cX3_tryPatterns 78 = .ok (.iload 4, 2) := by decide +kernel
theorem dX3_tryPatterns_80 : decode cX3_tryPatterns 80 = .ok (.iload_n 3, 1) := by decide +kernel
theorem dX3_tryPatterns_81 : decode cX3_tryPatterns 81 = .ok (.bipush 10, 2) := by decide +kernel
theorem dX3_tryPatterns_83 : decode cX3_tryPatterns 83 = .ok (.irem, 1) := by decide +kernel
theorem dX3_tryPatterns_84 : decode cX3_tryPatterns 84 = .ok (.iastore, 1) := by decide +kernel
theorem dX3_tryPatterns_85 : decode cX3_tryPatterns 85 = .ok (.iload_n 3, 1) := by decide +kernel
theorem dX3_tryPatterns_86 : decode cX3_tryPatterns 86 = .ok (.bipush 10, 2) := by decide +kernel
theorem dX3_tryPatterns_88 : decode cX3_tryPatterns 88 = .ok (.idiv, 1) := by decide +kernel
theorem dX3_tryPatterns_89 : decode cX3_tryPatterns 89 = .ok (.istore_n 3, 1) := by decide +kernel
theorem dX3_tryPatterns_90 : decode cX3_tryPatterns 90 = .ok (.aload_n 0, 1) := by decide +kernel
theorem dX3_tryPatterns_91 : decode cX3_tryPatterns 91 = .ok (.getfield 28, 3) := by decide +kernel
theorem dX3_tryPatterns_94 : decode cX3_tryPatterns 94 = .ok (.iload 4, 2) := by decide +kernel
theorem dX3_tryPatterns_96 : decode cX3_tryPatterns 96 = .ok (.iconst 4, 1) := by decide +kernel
theorem dX3_tryPatterns_97 : decode cX3_tryPatterns 97 = .ok (.iastore, 1) := by decide +kernel
theorem dX3_tryPatterns_98 : decode cX3_tryPatterns 98 = .ok (.iinc 4 (-1), 3) := by decide +kernel
theorem dX3_tryPatterns_101 : decode cX3_tryPatterns 101 = .ok (.goto (-32), 3) := by decide +kernel
theorem dX3_tryPatterns_104 : decode cX3_tryPatterns 104 = .ok (.aload_n 0, 1) := by decide +kernel
theorem dX3_tryPatterns_105 : decode cX3_tryPatterns 105 = .ok (.aload_n 0, 1) := by decide +kernel
theorem dX3_tryPatterns_106 : decode cX3_tryPatterns 106 = .ok (.aload_n 0, 1) := by decide +kernel
theorem dX3_tryPatterns_107 : decode cX3_tryPatterns 107 = .ok (.getfield 11, 3) := by decide +kernel
theorem dX3_tryPatterns_110 : decode cX3_tryPatterns 110 = .ok (.invokevirtual 126, 3) := by decide +kernel
theorem dX3_tryPatterns_113 : decode cX3_tryPatterns 113 = .ok (.invokevirtual 130, 3) := by decide +kernel
theorem dX3_tryPatterns_116 : decode cX3_tryPatterns 116 = .ok (.ifCond .eq 30, 3) := by decide +kernel
theorem dX3_tryPatterns_119 : decode cX3_tryPatterns 119 = .ok (.aload_n 0, 1) := by decide +kernel
theorem dX3_tryPatterns_120 : decode cX3_tryPatterns 120 = .ok (.getfield 55, 3) := by decide +kernel
theorem dX3_tryPatterns_123 : decode cX3_tryPatterns 123 = .ok (.ifCond .ne 18, 3) := by decide +kernel
theorem dX3_tryPatterns_126 : decode cX3_tryPatterns 126 = .ok (.aload_n 0, 1) := by decide +kernel
theorem dX3_tryPatterns_127 : decode cX3_tryPatterns 127 = .ok (.aload_n 0, 1) := by decide +kernel
theorem dX3_tryPatterns_128 : decode cX3_tryPatterns 128 = .ok (.aload_n 0, 1) := by decide +kernel
theorem dX3_tryPatterns_129 : decode cX3_tryPatterns 129 = .ok (.getfield 15, 3) := by decide +kernel
theorem dX3_tryPatterns_132 : decode cX3_tryPatterns 132 = .ok (.invokevirtual 126, 3) := by decide +kernel
theorem dX3_tryPatterns_135 : decode cX3_tryPatterns 135 = .ok (.invokevirtual 134, 3) := by decide +kernel
theorem dX3_tryPatterns_138 : decode cX3_tryPatterns 138 = .ok (.ifCond .eq 8, 3) := by decide +kernel
theorem dX3_tryPatterns_141 : decode cX3_tryPatterns 141 = .ok (.aload_n 0, 1) := by decide +kernel
theorem dX3_tryPatterns_142 : decode cX3_tryPatterns 142 = .ok (.iconst 0, 1) := by decide +kernel
theorem dX3_tryPatterns_143 : decode cX3_tryPatterns 143 = .ok (.invokevirtual 137, 3) := by decide +kernel
theorem dX3_tryPatterns_146 : decode cX3_tryPatterns 146 = .ok (.iinc 2 1, 3) := by decide +kernel
theorem dX3_tryPatterns_149 : decode cX3_tryPatterns 149 = .ok (.goto (-111), 3) := by decide +kernel
theorem dX3_tryPatterns_152 : decode cX3_tryPatterns 152 = .ok (.return_, 1) := by decide +kernel
set_option maxRecDepth 20000 in
theorem ggX3_tryMarkets_X3_compare : GoodIn wsX3_tryMarkets wsX3_compare := goodIn_r _ [8, 9, 10, 1, 3, 11, 12, 13, 14, 15, 16, 17, 7, 18, 19, 20, 21, 22, 23, 24, 25, 26, 27, 28, 29, 30, 31, 32, 33, 34, 35, 36, 37, 41, 42, 43, 44, 45, 46, 47, 48, 49, 50, 51, 52, 53, 54, 55, 56] (by decide +kernel) (by decide +kernel)
set_option maxRecDepth 20000 in
theorem gX3_tryMarkets_X3_compare : GoodIn wsX3_tryMarkets (wsV RX3 141 RX3 yX3_compare wsX3_compare) := goodIn_app (goodIn_of _ (by decide +kernel)) ggX3_tryMarkets_X3_compare
set_option maxRecDepth 20000 in
theorem ggX3_tryMarkets_X3_tryMarkets : GoodIn wsX3_tryMarkets wsX3_tryMarkets := goodIn_r _ [0, 1, 2, 3, 4, 5, 6, 7, 8, 9, 10, 11, 12, 13, 14, 15, 16, 17, 18, 19, 20, 21, 22, 23, 24, 25, 26, 27, 28, 29, 30, 31, 32, 33, 34, 35, 36, 37, 38, 39, 40, 41, 42, 43, 44, 45, 46, 47, 48, 49, 50, 51, 52, 53, 54, 55, 56] (by decide +kernel) (by decide +kernel)
set_option maxRecDepth 20000 in
theorem gX3_tryMarkets_X3_tryMarkets : GoodIn wsX3_tryMarkets (wsV RX3 137 RX3 yX3_tryMarkets wsX3_tryMarkets) := goodIn_app (goodIn_of _ (by decide +kernel)) ggX3_tryMarkets_X3_tryMarkets
theorem dX3_tryMarkets_0 : decode cX3_tryMarkets 0 = .ok (.iload_n 1, 1) := by decide +kernel
theorem dX3_tryMarkets_1 : decode cX3_tryMarkets 1 = .ok (.aload_n 0, 1) := by decide +kernel
theorem dX3_tryMarkets_2 : decode cX3_tryMarkets 2 = .ok (.getfield 37, 3) := by decide +kernel
theorem dX3_tryMarkets_5 : decode cX3_tryMarkets 5 = .ok (.if_icmp .ge 8, 3) := by decide +kernel
theorem dX3_tryMarkets_8 : decode cX3_tryMarkets 8 = .ok (.iload_n 1, 1) := by decide +kernel
theorem dX3_tryMarkets_9 : decode cX3_tryMarkets 9 = .ok (.iconst 3, 1) := by decide +kernel
theorem dX3_tryMarkets_10 : decode cX3_tryMarkets 10 = .ok (.if_icmp .lt 8, 3) := by decide +kernel
theorem dX3_tryMarkets_13 : decode cX3_tryMarkets 13 = .ok (.aload_n 0, 1) := by decide +kernel
theorem dX3_tryMarkets_14 : decode cX3_tryMarkets 14 = .ok (.invokevirtual 141, 3) := by decide +kernel
theorem dX3_tryMarkets_17 : decode cX3_tryMarkets 17 = .ok (.return_, 1) := by decide +kernel
theorem dX3_tryMarkets_18 : decode cX3_tryMarkets 18 = .ok (.iconst 0, 1) := by decide +kernel
theorem dX3_tryMarkets_19 : decode cX3_tryMarkets 19 = .ok (.istore_n 2, 1) := by decide +kernel
theorem dX3_tryMarkets_20 : decode cX3_tryMarkets 20 = .ok (.iload_n 2, 1) := by decide +kernel
theorem dX3_tryMarkets_21 : decode cX3_tryMarkets 21 = .ok (.aload_n 0, 1) := by decide +kernel
theorem dX3_tryMarkets_22 : decode cX3_tryMarkets 22 = .ok (.getfield 48, 3) := by decide +kernel
theorem dX3_tryMarkets_25 : decode cX3_tryMarkets 25 = .ok (.if_icmp .ge 23, 3) := by decide +kernel
theorem dX3_tryMarkets_28 : decode cX3_tryMarkets 28 = .ok (.aload_n 0, 1) := by decide +kernel
theorem dX3_tryMarkets_29 : decode cX3_tryMarkets 29 = .ok (.getfield 28, 3) := by decide +kernel
theorem dX3_tryMarkets_32 : decode cX3_tryMarkets 32 = .ok (.iload_n 1, 1) := by decide +kernel
theorem dX3_tryMarkets_33 : decode cX3_tryMarkets 33 = .ok (.iload_n 2, 1) := by decide +kernel
theorem dX3_tryMarkets_34 : decode cX3_tryMarkets 34 = .ok (.iastore, 1) := by decide +kernel
theorem dX3_tryMarkets_35 : decode cX3_tryMarkets 35 = .ok (.aload_n 0, 1) := by decide +kernel
theorem dX3_tryMarkets_36 : decode cX3_tryMarkets 36 = .ok (.iload_n 1, 1) := by decide +kernel
theorem dX3_tryMarkets_37 : decode cX3_tryMarkets 37 = .ok (.iconst 1, 1) := by decide +kernel
theorem dX3_tryMarkets_38 : decode cX3_tryMarkets 38 = .ok (.iadd, 1) := by decide +kernel
theorem dX3_tryMarkets_39 : decode cX3_tryMarkets 39 = .ok (.invokevirtual 137, 3) := by decide +kernel
theorem dX3_tryMarkets_42 : decode cX3_tryMarkets 42 = .ok (.iinc 2 1, 3) := by decide +kernel
theorem dX3_tryMarkets_45 : decode cX3_tryMarkets 45 = .ok (.goto (-25), 3) := by decide +kernel
theorem dX3_tryMarkets_48 : decode cX3_tryMarkets 48 = .ok (.return_, 1) := by decide +kernel
theorem dX3_isEnough_0 : decode cX3_isEnough 0 = .ok (.aload_n 0, 1) := by decide +kernel
theorem dX3_isEnough_1 : decode cX3_isEnough 1 = .ok (.getfield 41, 3) := by decide +kernel
theorem dX3_isEnough_4 : decode cX3_isEnough 4 = .ok (.lload_n 1, 1) := by decide +kernel
theorem dX3_isEnough_5 : decode cX3_isEnough 5 = .ok (.lsub, 1) := by decide +kernel
theorem dX3_isEnough_6 : decode cX3_isEnough 6 = .ok (.ldc2_w 84, 3) := by decide +kernel
theorem dX3_isEnough_9 : decode cX3_isEnough 9 = .ok (.lmul, 1) := by decide +kernel
theorem dX3_isEnough_10 : decode cX3_isEnough 10 = .ok (.aload_n 0, 1) := by decide +kernel
theorem dX3_isEnough_11 : decode cX3_isEnough 11 = .ok (.getfield 45, 3) := by decide +kernel
theorem dX3_isEnough_14 : decode cX3_isEnough 14 = .ok (.i2l, 1) := by decide +kernel
theorem dX3_isEnough_15 : decode cX3_isEnough 15 = .ok (.aload_n 0, 1) := by decide +kernel
theorem dX3_isEnough_16 : decode cX3_isEnough 16 = .ok (.getfield 41, 3) := by decide +kernel
theorem dX3_isEnough_19 : decode cX3_isEnough 19 = .ok (.lmul, 1) := by decide +kernel
theorem dX3_isEnough_20 : decode cX3_isEnough 20 = .ok (.lcmp, 1) := by decide +kernel
theorem dX3_isEnough_21 : decode cX3_isEnough 21 = .ok (.ifCond .lt 7, 3) := by decide +kernel
theorem dX3_isEnough_24 : decode cX3_isEnough 24 = .ok (.iconst 1, 1) := by decide +kernel
theorem dX3_isEnough_25 : decode cX3_isEnough 25 = .ok (.goto 4, 3) := by decide +kernel
theorem dX3_isEnough_28 : decode cX3_isEnough 28 = .ok (.iconst 0, 1) := by decide +kernel
theorem dX3_isEnough_29 : decode cX3_isEnough 29 = .ok (.ireturn, 1) := by decide +kernel
theorem dX3_missOf_0 : decode cX3_missOf 0 = .ok (.lconst 1, 1) := by decide +kernel
theorem dX3_missOf_1 : decode cX3_missOf 1 = .ok (.lstore_n 2, 1) := by decide +kernel
theorem dX3_missOf_2 : decode cX3_missOf 2 = .ok (.lconst 1, 1) := by decide +kernel
theorem dX3_missOf_3 : decode cX3_missOf 3 = .ok (.lstore 4, 2) := by decide +kernel
theorem dX3_missOf_5 : decode cX3_missOf 5 = .ok (.lconst 1, 1) := by decide +kernel
theorem dX3_missOf_6 : decode cX3_missOf 6 = .ok (.lstore 6, 2) := by decide +kernel
theorem dX3_missOf_8 : decode cX3_missOf 8 = .ok (.lconst 1, 1) := by decide +kernel
theorem dX3_missOf_9 : decode cX3_missOf 9 = .ok (.lstore 8, 2) := by decide +kernel
theorem dX3_missOf_11 : decode cX3_missOf 11 = .ok (.lconst 1, 1) := by decide +kernel
theorem dX3_missOf_12 : decode cX3_missOf 12 = .ok (.lstore 10, 2) := by decide +kernel
theorem dX3_missOf_14 : decode cX3_missOf 14 = .ok (.iconst 0, 1) := by decide +kernel
theorem dX3_missOf_15 : decode cX3_missOf 15 = .ok (.istore 12, 2) := by decide +kernel
theorem dX3_missOf_17 : decode cX3_missOf 17 = .ok (.iload 12, 2) := by decide +kernel
theorem dX3_missOf_19 : decode cX3_missOf 19 = .ok (.aload_n 0, 1) := by decide +kernel
theorem dX3_missOf_20 : decode cX3_missOf 20 = .ok (.getfield 37, 3) := by decide +kernel
theorem dX3_missOf_23 : decode cX3_missOf 23 = .ok (.if_icmp .ge 135, 3) := by decide +kernel
theorem dX3_missOf_26 : decode cX3_missOf 26 = .ok (.iload 12, 2) := by decide +kernel
theorem dX3_missOf_28 : decode cX3_missOf 28 = .ok (.iconst 3, 1) := by decide +kernel
theorem dX3_missOf_29 : decode cX3_missOf 29 = .ok (.if_icmp .ge 129, 3) := by decide +kernel
theorem dX3_missOf_32 : decode cX3_missOf 32 = .ok (.aload_n 0, 1) := by decide +kernel
theorem dX3_missOf_33 : decode cX3_missOf 33 = .ok (.getfield 22, 3) := by decide +kernel
theorem dX3_missOf_36 : decode cX3_missOf 36 = .ok (.iload 12, 2) := by decide +kernel
theorem dX3_missOf_38 : decode cX3_missOf 38 = .ok (.iaload, 1) := by decide +kernel
theorem dX3_missOf_39 : decode cX3_missOf 39 = .ok (.iconst 3, 1) := by decide +kernel
theorem dX3_missOf_40 : decode cX3_missOf 40 = .ok (.imul, 1) := by decide +kernel
theorem dX3_missOf_41 : decode cX3_missOf 41 = .ok (.aload_n 0, 1) := by decide +kernel
theorem dX3_missOf_42 : decode cX3_missOf 42 = .ok (.getfield 25, 3) := by decide +kernel
theorem dX3_missOf_45 : decode cX3_missOf 45 = .ok (.iload 12, 2) := by decide +kernel
theorem dX3_missOf_47 : decode cX3_missOf 47 = .ok (.iaload, 1) := by decide +kernel
theorem dX3_missOf_48 : decode cX3_missOf 48 = .ok (.iadd, 1) := by decide +kernel
theorem dX3_missOf_49 : decode cX3_missOf 49 = .ok (.iconst 5, 1) := by decide +kernel
theorem dX3_missOf_50 : decode cX3_missOf 50 = .ok (.imul, 1) := by decide +kernel
theorem dX3_missOf_51 : decode cX3_missOf 51 = .ok (.aload_n 0, 1) := by decide +kernel
theorem dX3_missOf_52 : decode cX3_missOf 52 = .ok (.getfield 28, 3) := by decide +kernel
theorem dX3_missOf_55 : decode cX3_missOf 55 = .ok (.iload 12, 2) := by decide +kernel
theorem dX3_missOf_57 : decode cX3_missOf 57 = .ok (.iaload, 1) := by decide +kernel
theorem dX3_missOf_58 : decode cX3_missOf 58 = .ok (.iadd, 1) := by decide +kernel
theorem dX3_missOf_59 : decode cX3_missOf 59 = .ok (.istore 13, 2) := by decide +kernel
theorem dX3_missOf_61 : decode cX3_missOf 61 = .ok (.iload 13, 2) := by decide +kernel
theorem dX3_missOf_63 : decode cX3_missOf 63 = .ok (.ifCond .lt 20, 3) := by decide +kernel
theorem dX3_missOf_66 : decode cX3_missOf 66 = .ok (.iload 13, 2) := by decide +kernel
theorem dX3_missOf_68 : decode cX3_missOf 68 = .ok (.aload_n 1, 1) := by decide +kernel
theorem dX3_missOf_69 : decode cX3_missOf 69 = .ok (.arraylength, 1) := by decide +kernel
theorem dX3_missOf_70 : decode cX3_missOf 70 = .ok (.if_icmp .ge 13, 3) := by decide +kernel
theorem dX3_missOf_73 : decode cX3_missOf 73 = .ok (.bipush 100, 2) := by decide +kernel
theorem dX3_missOf_75 : decode cX3_missOf 75 = .ok (.aload_n 1, 1) := by decide +kernel
theorem dX3_missOf_76 : decode cX3_missOf 76 = .ok (.iload 13, 2) := by decide +kernel
theorem dX3_missOf_78 : decode cX3_missOf 78 = .ok (.iaload, 1) := by decide +kernel
theorem dX3_missOf_79 : decode cX3_missOf 79 = .ok (.isub, 1) := by decide +kernel
theorem dX3_missOf_80 : decode cX3_missOf 80 = .ok (.goto 5, 3) := by decide +kernel
theorem dX3_missOf_83 : decode cX3_missOf 83 = .ok (.bipush 100, 2) := by decide +kernel
theorem dX3_missOf_85 : decode cX3_missOf 85 = .ok (.istore 14, 2) := by decide +kernel
theorem dX3_missOf_87 : decode cX3_missOf 87 = .ok (.aload_n 0, 1) := by decide +kernel
theorem dX3_missOf_88 : decode cX3_missOf 88 = .ok (.getfield 25, 3) := by decide +kernel
theorem dX3_missOf_91 : decode cX3_missOf 91 = .ok (.iload 12, 2) := by decide +kernel
theorem dX3_missOf_93 : decode cX3_missOf 93 = .ok (.iaload, 1) := by decide +kernel
theorem dX3_missOf_94 : decode cX3_missOf 94 = .ok (.ifCond .ne 12, 3) := by decide +kernel
theorem dX3_missOf_97 : decode cX3_missOf 97 = .ok (.lload_n 2, 1) := by decide +kernel
theorem dX3_missOf_98 : decode cX3_missOf 98 = .ok (.iload 14, 2) := by decide +kernel
theorem dX3_missOf_100 : decode cX3_missOf 100 = .ok (.i2l, 1) := by decide +kernel
theorem dX3_missOf_101 : decode cX3_missOf 101 = .ok (.lmul, 1) := by decide +kernel
theorem dX3_missOf_102 : decode cX3_missOf 102 = .ok (.lstore_n 2, 1) := by decide +kernel
theorem dX3_missOf_103 : decode cX3_missOf 103 = .ok (.goto 49, 3) := by decide +kernel
theorem dX3_missOf_106 : decode cX3_missOf 106 = .ok (.aload_n 0, 1) := by decide +kernel
theorem dX3_missOf_107 : decode cX3_missOf 107 = .ok (.getfield 25, 3) := by decide +kernel
theorem dX3_missOf_110 : decode cX3_missOf 110 = .ok (.iload 12, 2) := by decide +kernel
theorem dX3_missOf_112 : decode cX3_missOf 112 = .ok (.iaload, 1) := by decide +kernel
theorem dX3_missOf_113 : decode cX3_missOf 113 = .ok (.iconst 1, 1) := by decide +kernel
theorem dX3_missOf_114 : decode cX3_missOf 114 = .ok (.if_icmp .ne 22, 3) := by decide +kernel
theorem dX3_missOf_117 : decode cX3_missOf 117 = .ok (.lload 4, 2) := by decide +kernel
theorem dX3_missOf_119 : decode cX3_missOf 119 = .ok (.iload 14, 2) := by decide +kernel
theorem dX3_missOf_121 : decode cX3_missOf 121 = .ok (.i2l, 1) := by decide +kernel
theorem dX3_missOf_122 : decode cX3_missOf 122 = .ok (.lmul, 1) := by decide +kernel
theorem dX3_missOf_123 : decode cX3_missOf 123 = .ok (.lstore 4, 2) := by decide +kernel
theorem dX3_missOf_125 : decode cX3_missOf 125 = .ok (.lload 6, 2) := by decide +kernel
theorem dX3_missOf_127 : decode cX3_missOf 127 = .ok (.ldc2_w 84, 3) := by decide +kernel
theorem dX3_missOf_130 : decode cX3_missOf 130 = .ok (.lmul, 1) := by decide +kernel
theorem dX3_missOf_131 : decode cX3_missOf 131 = .ok (.lstore 6, 2) := by decide +kernel
theorem dX3_missOf_133 : decode cX3_missOf 133 = .ok (.goto 19, 3) := by decide +kernel
theorem dX3_missOf_136 : decode cX3_missOf 136 = .ok (.lload 8, 2) := by decide +kernel
theorem dX3_missOf_138 : decode cX3_missOf 138 = .ok (.iload 14, 2) := by decide +kernel
theorem dX3_missOf_140 : decode cX3_missOf 140 = .ok (.i2l, 1) := by decide +kernel
theorem dX3_missOf_141 : decode cX3_missOf 141 = .ok (.lmul, 1) := by decide +kernel
theorem dX3_missOf_142 : decode cX3_missOf 142 = .ok (.lstore 8, 2) := by decide +kernel
theorem dX3_missOf_144 : decode cX3_missOf 144 = .ok (.lload 10, 2) := by decide +kernel
theorem dX3_missOf_146 : decode cX3_missOf 146 = .ok (.ldc2_w 84, 3) := by decide +kernel
theorem dX3_missOf_149 : decode cX3_missOf 149 = .ok (.lmul, 1) := by decide +kernel
theorem dX3_missOf_150 : decode cX3_missOf 150 = .ok (.lstore 10, 2) := by decide +kernel
theorem dX3_missOf_152 : decode cX3_missOf 152 = .ok (.iinc 12 1, 3) := by decide +kernel
theorem dX3_missOf_155 : decode cX3_missOf 155 = .ok (.goto (-138), 3) := by decide +kernel
theorem dX3_missOf_158 : decode cX3_missOf 158 = .ok (.lload_n 2, 1) := by decide +kernel
theorem dX3_missOf_159 : decode cX3_missOf 159 = .ok (.lload 6, 2) := by decide +kernel
theorem dX3_missOf_161 : decode cX3_missOf 161 = .ok (.lload 10, 2) := by decide +kernel
theorem dX3_missOf_163 : decode cX3_missOf 163 = .ok (.lmul, 1) := by decide +kernel
theorem dX3_missOf_164 : decode cX3_missOf 164 = .ok (.lload 6, 2) := by decide +kernel
theorem dX3_missOf_166 : decode cX3_missOf 166 = .ok (.lload 4, 2) := by decide +kernel
theorem dX3_missOf_168 : decode cX3_missOf 168 = .ok (.lsub, 1) := by decide +kernel
theorem dX3_missOf_169 : decode cX3_missOf 169 = .ok (.lload 10, 2) := by decide +kernel
theorem dX3_missOf_171 : decode cX3_missOf 171 = .ok (.lload 8, 2) := by decide +kernel
theorem dX3_missOf_173 : decode cX3_missOf 173 = .ok (.lsub, 1) := by decide +kernel
theorem dX3_missOf_174 : decode cX3_missOf 174 = .ok (.lmul, 1) := by decide +kernel
theorem dX3_missOf_175 : decode cX3_missOf 175 = .ok (.lsub, 1) := by decide +kernel
theorem dX3_missOf_176 : decode cX3_missOf 176 = .ok (.lmul, 1) := by decide +kernel
theorem dX3_missOf_177 : decode cX3_missOf 177 = .ok (.lreturn, 1) := by decide +kernel
theorem dX3_isBetter_0 : decode cX3_isBetter 0 = .ok (.aload_n 0, 1) := by decide +kernel
theorem dX3_isBetter_1 : decode cX3_isBetter 1 = .ok (.getfield 51, 3) := by decide +kernel
theorem dX3_isBetter_4 : decode cX3_isBetter 4 = .ok (.ifCond .eq 12, 3) := by decide +kernel
theorem dX3_isBetter_7 : decode cX3_isBetter 7 = .ok (.lload_n 1, 1) := by decide +kernel
theorem dX3_isBetter_8 : decode cX3_isBetter 8 = .ok (.aload_n 0, 1) := by decide +kernel
theorem dX3_isBetter_9 : decode cX3_isBetter 9 = .ok (.getfield 58, 3) := by decide +kernel
theorem dX3_isBetter_12 : decode cX3_isBetter 12 = .ok (.lcmp, 1) := by decide +kernel
theorem dX3_isBetter_13 : decode cX3_isBetter 13 = .ok (.ifCond .le 7, 3) := by decide +kernel
theorem dX3_isBetter_16 : decode cX3_isBetter 16 = .ok (.iconst 1, 1) := by decide +kernel
theorem dX3_isBetter_17 : decode cX3_isBetter 17 = .ok (.goto 4, 3) := by decide +kernel
theorem dX3_isBetter_20 : decode cX3_isBetter 20 = .ok (.iconst 0, 1) := by decide +kernel
theorem dX3_isBetter_21 : decode cX3_isBetter 21 = .ok (.ireturn, 1) := by decide +kernel
set_option maxRecDepth 20000 in
theorem ggX3_compare_X3_missOf : GoodIn wsX3_compare wsX3_missOf := goodIn_r _ [13, 3, 14, 5, 4, 15, 33, 34, 35, 36, 37, 38, 39, 40, 41, 42, 43, 44, 45, 46, 47, 48] (by decide +kernel) (by decide +kernel)
set_option maxRecDepth 20000 in
theorem gX3_compare_X3_missOf : GoodIn wsX3_compare (wsV RX3 126 RX3 yX3_missOf wsX3_missOf) := goodIn_app (goodIn_of _ (by decide +kernel)) ggX3_compare_X3_missOf
set_option maxRecDepth 20000 in
theorem ggX3_compare_X3_isEnough : GoodIn wsX3_compare wsX3_isEnough := goodIn_r _ [19, 20, 15, 21, 33, 34, 35, 36, 37, 38, 39, 40, 41, 42, 43, 44, 45, 46, 47, 48] (by decide +kernel) (by decide +kernel)
set_option maxRecDepth 20000 in
theorem gX3_compare_X3_isEnough : GoodIn wsX3_compare (wsV RX3 130 RX3 yX3_isEnough wsX3_isEnough) := goodIn_app (goodIn_of _ (by decide +kernel)) ggX3_compare_X3_isEnough
set_option maxRecDepth 20000 in
theorem ggX3_compare_X3_isBetter : GoodIn wsX3_compare wsX3_isBetter := goodIn_r _ [25, 26, 7, 33, 34, 35, 36, 37, 38, 39, 40, 41, 42, 43, 44, 45, 46, 47, 48] (by decide +kernel) (by decide +kernel)
set_option maxRecDepth 20000 in
theorem gX3_compare_X3_isBetter : GoodIn wsX3_compare (wsV RX3 134 RX3 yX3_isBetter wsX3_isBetter) := goodIn_app (goodIn_of _ (by decide +kernel)) ggX3_compare_X3_isBetter
set_option maxRecDepth 20000 in
theorem ggX3_compare_X3_keep : GoodIn wsX3_compare wsX3_keep := goodIn_r _ [30, 26, 6, 7, 8, 3, 31, 14, 32, 4, 5, 33, 34, 35, 36, 37, 38, 39, 40, 41, 42, 43, 44, 45, 46, 47, 48] (by decide +kernel) (by decide +kernel)
set_option maxRecDepth 20000 in
theorem gX3_compare_X3_keep : GoodIn wsX3_compare (wsV RX3 144 RX3 yX3_keep wsX3_keep) := goodIn_app (goodIn_of _ (by decide +kernel)) ggX3_compare_X3_keep
theorem dX3_compare_0 : decode cX3_compare 0 = .ok (.aload_n 0, 1) := by decide +kernel
theorem dX3_compare_1 : decode cX3_compare 1 = .ok (.aload_n 0, 1) := by decide +kernel
theorem dX3_compare_2 : decode cX3_compare 2 = .ok (.aload_n 0, 1) := by decide +kernel
theorem dX3_compare_3 : decode cX3_compare 3 = .ok (.getfield 11, 3) := by decide +kernel
theorem dX3_compare_6 : decode cX3_compare 6 = .ok (.invokevirtual 126, 3) := by decide +kernel
theorem dX3_compare_9 : decode cX3_compare 9 = .ok (.invokevirtual 130, 3) := by decide +kernel
theorem dX3_compare_12 : decode cX3_compare 12 = .ok (.ifCond .ne 4, 3) := by decide +kernel
theorem dX3_compare_15 : decode cX3_compare 15 = .ok (.return_, 1) := by decide +kernel
theorem dX3_compare_16 : decode cX3_compare 16 = .ok (.aload_n 0, 1) := by decide +kernel
theorem dX3_compare_17 : decode cX3_compare 17 = .ok (.aload_n 0, 1) := by decide +kernel
theorem dX3_compare_18 : decode cX3_compare 18 = .ok (.getfield 15, 3) := by decide +kernel
theorem dX3_compare_21 : decode cX3_compare 21 = .ok (.invokevirtual 126, 3) := by decide +kernel
theorem dX3_compare_24 : decode cX3_compare 24 = .ok (.lstore_n 1, 1) := by decide +kernel
theorem dX3_compare_25 : decode cX3_compare 25 = .ok (.iconst 0, 1) := by decide +kernel
theorem dX3_compare_26 : decode cX3_compare 26 = .ok (.istore_n 3, 1) := by decide +kernel
theorem dX3_compare_27 : decode cX3_compare 27 = .ok (.iconst 0, 1) := by decide +kernel
theorem dX3_compare_28 : decode cX3_compare 28 = .ok (.istore 4, 2) := by decide +kernel
theorem dX3_compare_30 : decode cX3_compare 30 = .ok (.iload 4, 2) := by decide +kernel
theorem dX3_compare_32 : decode cX3_compare 32 = .ok (.aload_n 0, 1) := by decide +kernel
theorem dX3_compare_33 : decode cX3_compare 33 = .ok (.getfield 37, 3) := by decide +kernel
theorem dX3_compare_36 : decode cX3_compare 36 = .ok (.if_icmp .ge 39, 3) := by decide +kernel
theorem dX3_compare_39 : decode cX3_compare 39 = .ok (.iload 4, 2) := by decide +kernel
theorem dX3_compare_41 : decode cX3_compare 41 = .ok (.iconst 3, 1) := by decide +kernel
theorem dX3_compare_42 : decode cX3_compare 42 = .ok (.if_icmp .ge 33, 3) := by decide +kernel
theorem dX3_compare_45 : decode cX3_compare 45 = .ok (.iload_n 3, 1) := by decide +kernel
theorem dX3_compare_46 : decode cX3_compare 46 = .ok (.bipush 100, 2) := by decide +kernel
theorem dX3_compare_48 : decode cX3_compare 48 = .ok (.imul, 1) := by decide +kernel
theorem dX3_compare_49 : decode cX3_compare 49 = .ok (.aload_n 0, 1) := by decide +kernel
theorem dX3_compare_50 : decode cX3_compare 50 = .ok (.getfield 28, 3) := by decide +kernel
theorem dX3_compare_53 : decode cX3_compare 53 = .ok (.iload 4, 2) := by decide +kernel
theorem dX3_compare_55 : decode cX3_compare 55 = .ok (.iaload, 1) := by decide +kernel
theorem dX3_compare_56 : decode cX3_compare 56 = .ok (.bipush 10, 2) := by decide +kernel
theorem dX3_compare_58 : decode cX3_compare 58 = .ok (.imul, 1) := by decide +kernel
theorem dX3_compare_59 : decode cX3_compare 59 = .ok (.iadd, 1) := by decide +kernel
theorem dX3_compare_60 : decode cX3_compare 60 = .ok (.aload_n 0, 1) := by decide +kernel
theorem dX3_compare_61 : decode cX3_compare 61 = .ok (.getfield 25, 3) := by decide +kernel
theorem dX3_compare_64 : decode cX3_compare 64 = .ok (.iload 4, 2) := by decide +kernel
theorem dX3_compare_66 : decode cX3_compare 66 = .ok (.iaload, 1) := by decide +kernel
theorem dX3_compare_67 : decode cX3_compare 67 = .ok (.iadd, 1) := by decide +kernel
theorem dX3_compare_68 : decode cX3_compare 68 = .ok (.istore_n 3, 1) := by decide +kernel
theorem dX3_compare_69 : decode cX3_compare 69 = .ok (.iinc 4 1, 3) := by decide +kernel
theorem dX3_compare_72 : decode cX3_compare 72 = .ok (.goto (-42), 3) := by decide +kernel
theorem dX3_compare_75 : decode cX3_compare 75 = .ok (.aload_n 0, 1) := by decide +kernel
theorem dX3_compare_76 : decode cX3_compare 76 = .ok (.lload_n 1, 1) := by decide +kernel
theorem dX3_compare_77 : decode cX3_compare 77 = .ok (.invokevirtual 134, 3) := by decide +kernel
theorem dX3_compare_80 : decode cX3_compare 80 = .ok (.ifCond .ne 27, 3) := by decide +kernel
theorem dX3_compare_83 : decode cX3_compare 83 = .ok (.aload_n 0, 1) := by decide +kernel
theorem dX3_compare_84 : decode cX3_compare 84 = .ok (.getfield 55, 3) := by decide +kernel
theorem dX3_compare_87 : decode cX3_compare 87 = .ok (.ifCond .eq 26, 3) := by decide +kernel
theorem dX3_compare_90 : decode cX3_compare 90 = .ok (.lload_n 1, 1) := by decide +kernel
theorem dX3_compare_91 : decode cX3_compare 91 = .ok (.aload_n 0, 1) := by decide +kernel
theorem dX3_compare_92 : decode cX3_compare 92 = .ok (.getfield 58, 3) := by decide +kernel
theorem dX3_compare_95 : decode cX3_compare 95 = .ok (.lcmp, 1) := by decide +kernel
theorem dX3_compare_96 : decode cX3_compare 96 = .ok (.ifCond .ne 17, 3) := by decide +kernel
theorem dX3_compare_99 : decode cX3_compare 99 = .ok (.iload_n 3, 1) := by decide +kernel
theorem dX3_compare_100 : decode cX3_compare 100 = .ok (.aload_n 0, 1) := by decide +kernel
theorem dX3_compare_101 : decode cX3_compare 101 = .ok (.getfield 61, 3) := by decide +kernel
theorem dX3_compare_104 : decode cX3_compare 104 = .ok (.if_icmp .ge 9, 3) := by decide +kernel
theorem dX3_compare_107 : decode cX3_compare 107 = .ok (.aload_n 0, 1) := by decide +kernel
theorem dX3_compare_108 : decode cX3_compare 108 = .ok (.lload_n 1, 1) := by decide +kernel
theorem dX3_compare_109 : decode cX3_compare 109 = .ok (.iload_n 3, 1) := by decide +kernel
theorem dX3_compare_110 : decode cX3_compare 110 = .ok (.invokevirtual 144, 3) := by decide +kernel
theorem dX3_compare_113 : decode cX3_compare 113 = .ok (.return_, 1) := by decide +kernel
theorem dX3_keep_0 : decode cX3_keep 0 = .ok (.aload_n 0, 1) := by decide +kernel
theorem dX3_keep_1 : decode cX3_keep 1 = .ok (.iconst 1, 1) := by decide +kernel
theorem dX3_keep_2 : decode cX3_keep 2 = .ok (.putfield 51, 3) := by decide +kernel
theorem dX3_keep_5 : decode cX3_keep 5 = .ok (.aload_n 0, 1) := by decide +kernel
theorem dX3_keep_6 : decode cX3_keep 6 = .ok (.iconst 1, 1) := by decide +kernel
theorem dX3_keep_7 : decode cX3_keep 7 = .ok (.putfield 55, 3) := by decide +kernel
theorem dX3_keep_10 : decode cX3_keep 10 = .ok (.aload_n 0, 1) := by decide +kernel
theorem dX3_keep_11 : decode cX3_keep 11 = .ok (.lload_n 1, 1) := by decide +kernel
theorem dX3_keep_12 : decode cX3_keep 12 = .ok (.putfield 58, 3) := by decide +kernel
theorem dX3_keep_15 : decode cX3_keep 15 = .ok (.aload_n 0, 1) := by decide +kernel
theorem dX3_keep_16 : decode cX3_keep 16 = .ok (.iload_n 3, 1) := by decide +kernel
theorem dX3_keep_17 : decode cX3_keep 17 = .ok (.putfield 61, 3) := by decide +kernel
theorem dX3_keep_20 : decode cX3_keep 20 = .ok (.iconst 0, 1) := by decide +kernel
theorem dX3_keep_21 : decode cX3_keep 21 = .ok (.istore 4, 2) := by decide +kernel
theorem dX3_keep_23 : decode cX3_keep 23 = .ok (.iload 4, 2) := by decide +kernel
theorem dX3_keep_25 : decode cX3_keep 25 = .ok (.aload_n 0, 1) := by decide +kernel
theorem dX3_keep_26 : decode cX3_keep 26 = .ok (.getfield 37, 3) := by decide +kernel
theorem dX3_keep_29 : decode cX3_keep 29 = .ok (.if_icmp .ge 54, 3) := by decide +kernel
theorem dX3_keep_32 : decode cX3_keep 32 = .ok (.iload 4, 2) := by decide +kernel
theorem dX3_keep_34 : decode cX3_keep 34 = .ok (.iconst 3, 1) := by decide +kernel
theorem dX3_keep_35 : decode cX3_keep 35 = .ok (.if_icmp .ge 48, 3) := by decide +kernel
theorem dX3_keep_38 : decode cX3_keep 38 = .ok (.aload_n 0, 1) := by decide +kernel
theorem dX3_keep_39 : decode cX3_keep 39 = .ok (.getfield 31, 3) := by decide +kernel
theorem dX3_keep_42 : decode cX3_keep 42 = .ok (.iload 4, 2) := by decide +kernel
theorem dX3_keep_44 : decode cX3_keep 44 = .ok (.aload_n 0, 1) := by decide +kernel
theorem dX3_keep_45 : decode cX3_keep 45 = .ok (.getfield 22, 3) := by decide +kernel
theorem dX3_keep_48 : decode cX3_keep 48 = .ok (.iload 4, 2) := by decide +kernel
theorem dX3_keep_50 : decode cX3_keep 50 = .ok (.iaload, 1) := by decide +kernel
theorem dX3_keep_51 : decode cX3_keep 51 = .ok (.iastore, 1) := by decide +kernel
theorem dX3_keep_52 : decode cX3_keep 52 = .ok (.aload_n 0, 1) := by decide +kernel
theorem dX3_keep_53 : decode cX3_keep 53 = .ok (.getfield 34, 3) := by decide +kernel
theorem dX3_keep_56 : decode cX3_keep 56 = .ok (.iload 4, 2) := by decide +kernel
theorem dX3_keep_58 : decode cX3_keep 58 = .ok (.aload_n 0, 1) := by decide +kernel
theorem dX3_keep_59 : decode cX3_keep 59 = .ok (.getfield 28, 3) := by decide +kernel
theorem dX3_keep_62 : decode cX3_keep 62 = .ok (.iload 4, 2) := by decide +kernel
theorem dX3_keep_64 : decode cX3_keep 64 = .ok (.iaload, 1) := by decide +kernel
theorem dX3_keep_65 : decode cX3_keep 65 = .ok (.bipush 10, 2) := by decide +kernel
theorem dX3_keep_67 : decode cX3_keep 67 = .ok (.imul, 1) := by decide +kernel
theorem dX3_keep_68 : decode cX3_keep 68 = .ok (.aload_n 0, 1) := by decide +kernel
theorem dX3_keep_69 : decode cX3_keep 69 = .ok (.getfield 25, 3) := by decide +kernel
theorem dX3_keep_72 : decode cX3_keep 72 = .ok (.iload 4, 2) := by decide +kernel
theorem dX3_keep_74 : decode cX3_keep 74 = .ok (.iaload, 1) := by decide +kernel
theorem dX3_keep_75 : decode cX3_keep 75 = .ok (.iadd, 1) := by decide +kernel
theorem dX3_keep_76 : decode cX3_keep 76 = .ok (.iastore, 1) := by decide +kernel
theorem dX3_keep_77 : decode cX3_keep 77 = .ok (.iinc 4 1, 3) := by decide +kernel
theorem dX3_keep_80 : decode cX3_keep 80 = .ok (.goto (-57), 3) := by decide +kernel
theorem dX3_keep_83 : decode cX3_keep 83 = .ok (.return_, 1) := by decide +kernel
theorem dX4_init_0 : decode cX4_init 0 = .ok (.aload_n 0, 1) := by decide +kernel
theorem dX4_init_1 : decode cX4_init 1 = .ok (.invokespecial 5, 3) := by decide +kernel
theorem dX4_init_4 : decode cX4_init 4 = .ok (.aload_n 0, 1) := by decide +kernel
theorem dX4_init_5 : decode cX4_init 5 = .ok (.bipush 90, 2) := by decide +kernel
theorem dX4_init_7 : decode cX4_init 7 = .ok (.newarray .int, 2) := by decide +kernel
theorem dX4_init_9 : decode cX4_init 9 = .ok (.putfield 11, 3) := by decide +kernel
theorem dX4_init_12 : decode cX4_init 12 = .ok (.aload_n 0, 1) := by decide +kernel
theorem dX4_init_13 : decode cX4_init 13 = .ok (.bipush 12, 2) := by decide +kernel
theorem dX4_init_15 : decode cX4_init 15 = .ok (.newarray .int, 2) := by decide +kernel
theorem dX4_init_17 : decode cX4_init 17 = .ok (.putfield 15, 3) := by decide +kernel
theorem dX4_init_20 : decode cX4_init 20 = .ok (.aload_n 0, 1) := by decide +kernel
theorem dX4_init_21 : decode cX4_init 21 = .ok (.sipush 1880, 3) := by decide +kernel
theorem dX4_init_24 : decode cX4_init 24 = .ok (.newarray .int, 2) := by decide +kernel
theorem dX4_init_26 : decode cX4_init 26 = .ok (.putfield 18, 3) := by decide +kernel
theorem dX4_init_29 : decode cX4_init 29 = .ok (.aload_n 0, 1) := by decide +kernel
theorem dX4_init_30 : decode cX4_init 30 = .ok (.iconst 0, 1) := by decide +kernel
theorem dX4_init_31 : decode cX4_init 31 = .ok (.putfield 21, 3) := by decide +kernel
theorem dX4_init_34 : decode cX4_init 34 = .ok (.aload_n 0, 1) := by decide +kernel
theorem dX4_init_35 : decode cX4_init 35 = .ok (.iconst 0, 1) := by decide +kernel
theorem dX4_init_36 : decode cX4_init 36 = .ok (.putfield 25, 3) := by decide +kernel
theorem dX4_init_39 : decode cX4_init 39 = .ok (.aload_n 0, 1) := by decide +kernel
theorem dX4_init_40 : decode cX4_init 40 = .ok (.iconst 0, 1) := by decide +kernel
theorem dX4_init_41 : decode cX4_init 41 = .ok (.putfield 28, 3) := by decide +kernel
theorem dX4_init_44 : decode cX4_init 44 = .ok (.aload_n 0, 1) := by decide +kernel
theorem dX4_init_45 : decode cX4_init 45 = .ok (.iconst 0, 1) := by decide +kernel
theorem dX4_init_46 : decode cX4_init 46 = .ok (.putfield 31, 3) := by decide +kernel
theorem dX4_init_49 : decode cX4_init 49 = .ok (.aload_n 0, 1) := by decide +kernel
theorem dX4_init_50 : decode cX4_init 50 = .ok (.iconst 0, 1) := by decide +kernel
theorem dX4_init_51 : decode cX4_init 51 = .ok (.putfield 34, 3) := by decide +kernel
theorem dX4_init_54 : decode cX4_init 54 = .ok (.aload_n 0, 1) := by decide +kernel
theorem dX4_init_55 : decode cX4_init 55 = .ok (.bipush 9, 2) := by decide +kernel
theorem dX4_init_57 : decode cX4_init 57 = .ok (.putfield 37, 3) := by decide +kernel
theorem dX4_init_60 : decode cX4_init 60 = .ok (.aload_n 0, 1) := by decide +kernel
theorem dX4_init_61 : decode cX4_init 61 = .ok (.iconst 0, 1) := by decide +kernel
theorem dX4_init_62 : decode cX4_init 62 = .ok (.putfield 40, 3) := by decide +kernel
theorem dX4_init_65 : decode cX4_init 65 = .ok (.aload_n 0, 1) := by decide +kernel
theorem dX4_init_66 : decode cX4_init 66 = .ok (.iconst (-1), 1) := by decide +kernel
theorem dX4_init_67 : decode cX4_init 67 = .ok (.putfield 43, 3) := by decide +kernel
theorem dX4_init_70 : decode cX4_init 70 = .ok (.aload_n 0, 1) := by decide +kernel
theorem dX4_init_71 : decode cX4_init 71 = .ok (.iconst 0, 1) := by decide +kernel
theorem dX4_init_72 : decode cX4_init 72 = .ok (.putfield 46, 3) := by decide +kernel
theorem dX4_init_75 : decode cX4_init 75 = .ok (.aload_n 0, 1) := by decide +kernel
theorem dX4_init_76 : decode cX4_init 76 = .ok (.iconst 0, 1) := by decide +kernel
theorem dX4_init_77 : decode cX4_init 77 = .ok (.putfield 49, 3) := by decide +kernel
theorem dX4_init_80 : decode cX4_init 80 = .ok (.return_, 1) := by decide +kernel
theorem dX4_copyFrom_0 : decode cX4_copyFrom 0 = .ok (.aload_n 1, 1) := by decide +kernel
theorem dX4_copyFrom_1 : decode cX4_copyFrom 1 = .ok (.getfield 11, 3) := by decide +kernel
theorem dX4_copyFrom_4 : decode cX4_copyFrom 4 = .ok (.iconst 0, 1) := by decide +kernel
theorem dX4_copyFrom_5 : decode cX4_copyFrom 5 = .ok (.aload_n 0, 1) := by decide +kernel
theorem dX4_copyFrom_6 : decode cX4_copyFrom 6 = .ok (.getfield 11, 3) := by decide +kernel
theorem dX4_copyFrom_9 : decode cX4_copyFrom 9 = .ok (.iconst 0, 1) := by decide +kernel
theorem dX4_copyFrom_10 : decode cX4_copyFrom 10 = .ok (.aload_n 0, 1) := by decide +kernel
theorem dX4_copyFrom_11 : decode cX4_copyFrom 11 = .ok (.getfield 11, 3) := by decide +kernel
theorem dX4_copyFrom_14 : decode cX4_copyFrom 14 = .ok (.arraylength, 1) := by decide +kernel
theorem dX4_copyFrom_15 : decode cX4_copyFrom 15 = .ok (.invokestatic 52, 3) := by decide +kernel
theorem dX4_copyFrom_18 : decode cX4_copyFrom 18 = .ok (.aload_n 1, 1) := by decide +kernel
theorem dX4_copyFrom_19 : decode cX4_copyFrom 19 = .ok (.getfield 15, 3) := by decide +kernel
theorem dX4_copyFrom_22 : decode cX4_copyFrom 22 = .ok (.iconst 0, 1) := by decide +kernel
theorem dX4_copyFrom_23 : decode cX4_copyFrom 23 = .ok (.aload_n 0, 1) := by decide +kernel
theorem dX4_copyFrom_24 : decode cX4_copyFrom 24 = .ok (.getfield 15, 3) := by decide +kernel
theorem dX4_copyFrom_27 : decode cX4_copyFrom 27 = .ok (.iconst 0, 1) := by decide +kernel
theorem dX4_copyFrom_28 : decode cX4_copyFrom 28 = .ok (.aload_n 0, 1) := by decide +kernel
theorem dX4_copyFrom_29 : decode cX4_copyFrom 29 = .ok (.getfield 15, 3) := by decide +kernel
theorem dX4_copyFrom_32 : decode cX4_copyFrom 32 = .ok (.arraylength, 1) := by decide +kernel
theorem dX4_copyFrom_33 : decode cX4_copyFrom 33 = .ok (.invokestatic 52, 3) := by decide +kernel
theorem dX4_copyFrom_36 : decode cX4_copyFrom 36 = .ok (.aload_n 1, 1) := by decide +kernel
theorem dX4_copyFrom_37 : decode cX4_copyFrom 37 = .ok (.getfield 18, 3) := by decide +kernel
theorem dX4_copyFrom_40 : decode cX4_copyFrom 40 = .ok (.iconst 0, 1) := by decide +kernel
theorem dX4_copyFrom_41 : decode cX4_copyFrom 41 = .ok (.aload_n 0, 1) := by decide +kernel
theorem dX4_copyFrom_42 : decode cX4_copyFrom 42 = .ok (.getfield 18, 3) := by decide +kernel
theorem dX4_copyFrom_45 : decode cX4_copyFrom 45 = .ok (.iconst 0, 1) := by decide +kernel
theorem dX4_copyFrom_46 : decode cX4_copyFrom 46 = .ok (.aload_n 0, 1) := by decide +kernel
theorem dX4_copyFrom_47 : decode cX4_copyFrom 47 = .ok (.getfield 18, 3) := by decide +kernel
theorem dX4_copyFrom_50 : decode cX4_copyFrom 50 = .ok (.arraylength, 1) := by decide +kernel
theorem dX4_copyFrom_51 : decode cX4_copyFrom 51 = .ok (.invokestatic 52, 3) := by decide +kernel
theorem dX4_copyFrom_54 : decode cX4_copyFrom 54 = .ok (.aload_n 0, 1) := by decide +kernel
theorem dX4_copyFrom_55 : decode cX4_copyFrom 55 = .ok (.aload_n 1, 1) := by decide +kernel
theorem dX4_copyFrom_56 : decode cX4_copyFrom 56 = .ok (.getfield 21, 3) := by decide +kernel
theorem dX4_copyFrom_59 : decode cX4_copyFrom 59 = .ok (.putfield 21, 3) := by decide +kernel
theorem dX4_copyFrom_62 : decode cX4_copyFrom 62 = .ok (.aload_n 0, 1) := by decide +kernel
theorem dX4_copyFrom_63 : decode cX4_copyFrom 63 = .ok (.aload_n 1, 1) := by decide +kernel
theorem dX4_copyFrom_64 : decode cX4_copyFrom 64 = .ok (.getfield 25, 3) := by decide +kernel
theorem dX4_copyFrom_67 : decode cX4_copyFrom 67 = .ok (.putfield 25, 3) := by decide +kernel
theorem dX4_copyFrom_70 : decode cX4_copyFrom 70 = .ok (.aload_n 0, 1) := by decide +kernel
theorem dX4_copyFrom_71 : decode cX4_copyFrom 71 = .ok (.aload_n 1, 1) := by decide +kernel
theorem dX4_copyFrom_72 : decode cX4_copyFrom 72 = .ok (.getfield 28, 3) := by decide +kernel
theorem dX4_copyFrom_75 : decode cX4_copyFrom 75 = .ok (.putfield 28, 3) := by decide +kernel
theorem dX4_copyFrom_78 : decode cX4_copyFrom 78 = .ok (.aload_n 0, 1) := by decide +kernel
theorem dX4_copyFrom_79 : decode cX4_copyFrom 79 = .ok (.aload_n 1, 1) := by decide +kernel
theorem dX4_copyFrom_80 : decode cX4_copyFrom 80 = .ok (.getfield 31, 3) := by decide +kernel
theorem dX4_copyFrom_83 : decode cX4_copyFrom 83 = .ok (.putfield 31, 3) := by decide +kernel
theorem dX4_copyFrom_86 : decode cX4_copyFrom 86 = .ok (.aload_n 0, 1) := by decide +kernel
theorem dX4_copyFrom_87 : decode cX4_copyFrom 87 = .ok (.aload_n 1, 1) := by decide +kernel
theorem dX4_copyFrom_88 : decode cX4_copyFrom 88 = .ok (.getfield 34, 3) := by decide +kernel
theorem dX4_copyFrom_91 : decode cX4_copyFrom 91 = .ok (.putfield 34, 3) := by decide +kernel
theorem dX4_copyFrom_94 : decode cX4_copyFrom 94 = .ok (.aload_n 0, 1) := by decide +kernel
theorem dX4_copyFrom_95 : decode cX4_copyFrom 95 = .ok (.aload_n 1, 1) := by decide +kernel
theorem dX4_copyFrom_96 : decode cX4_copyFrom 96 = .ok (.getfield 37, 3) := by decide +kernel
theorem dX4_copyFrom_99 : decode cX4_copyFrom 99 = .ok (.putfield 37, 3) := by decide +kernel
theorem dX4_copyFrom_102 : decode cX4_copyFrom 102 = .ok (.aload_n 0, 1) := by decide +kernel
theorem dX4_copyFrom_103 : decode cX4_copyFrom 103 = .ok (.aload_n 1, 1) := by decide +kernel
theorem dX4_copyFrom_104 : decode cX4_copyFrom 104 = .ok (.getfield 40, 3) := by decide +kernel
theorem dX4_copyFrom_107 : decode cX4_copyFrom 107 = .ok (.putfield 40, 3) := by decide +kernel
theorem dX4_copyFrom_110 : decode cX4_copyFrom 110 = .ok (.aload_n 0, 1) := by decide +kernel
theorem dX4_copyFrom_111 : decode cX4_copyFrom 111 = .ok (.aload_n 1, 1) := by decide +kernel
theorem dX4_copyFrom_112 : decode cX4_copyFrom 112 = .ok (.getfield 43, 3) := by decide +kernel
theorem dX4_copyFrom_115 : decode cX4_copyFrom 115 = .ok (.putfield 43, 3) := by decide +kernel
theorem dX4_copyFrom_118 : decode cX4_copyFrom 118 = .ok (.aload_n 0, 1) := by decide +kernel
theorem dX4_copyFrom_119 : decode cX4_copyFrom 119 = .ok (.aload_n 1, 1) := by decide +kernel
theorem dX4_copyFrom_120 : decode cX4_copyFrom 120 = .ok (.getfield 46, 3) := by decide +kernel
theorem dX4_copyFrom_123 : decode cX4_copyFrom 123 = .ok (.putfield 46, 3) := by decide +kernel
theorem dX4_copyFrom_126 : decode cX4_copyFrom 126 = .ok (.aload_n 0, 1) := by decide +kernel
theorem dX4_copyFrom_127 : decode cX4_copyFrom 127 = .ok (.aload_n 1, 1) := by decide +kernel
theorem dX4_copyFrom_128 : decode cX4_copyFrom 128 = .ok (.getfield 49, 3) := by decide +kernel
theorem dX4_copyFrom_131 : decode cX4_copyFrom 131 = .ok (.putfield 49, 3) := by decide +kernel
theorem dX4_copyFrom_134 : decode cX4_copyFrom 134 = .ok (.return_, 1) := by decide +kernel
theorem dX4_hasGoose_0 : decode cX4_hasGoose 0 = .ok (.iload_n 1, 1) := by decide +kernel
theorem dX4_hasGoose_1 : decode cX4_hasGoose 1 = .ok (.ifCond .lt 21, 3) := by decide +kernel
theorem dX4_hasGoose_4 : decode cX4_hasGoose 4 = .ok (.iload_n 1, 1) := by decide +kernel
theorem dX4_hasGoose_5 : decode cX4_hasGoose 5 = .ok (.aload_n 0, 1) := by decide +kernel
theorem dX4_hasGoose_6 : decode cX4_hasGoose 6 = .ok (.getfield 21, 3) := by decide +kernel
theorem dX4_hasGoose_9 : decode cX4_hasGoose 9 = .ok (.if_icmp .ge 13, 3) := by decide +kernel
theorem dX4_hasGoose_12 : decode cX4_hasGoose 12 = .ok (.iload_n 1, 1) := by decide +kernel
theorem dX4_hasGoose_13 : decode cX4_hasGoose 13 = .ok (.bipush 10, 2) := by decide +kernel
theorem dX4_hasGoose_15 : decode cX4_hasGoose 15 = .ok (.if_icmp .ge 7, 3) := by decide +kernel
theorem dX4_hasGoose_18 : decode cX4_hasGoose 18 = .ok (.iconst 1, 1) := by decide +kernel
theorem dX4_hasGoose_19 : decode cX4_hasGoose 19 = .ok (.goto 4, 3) := by decide +kernel
theorem dX4_hasGoose_22 : decode cX4_hasGoose 22 = .ok (.iconst 0, 1) := by decide +kernel
theorem dX4_hasGoose_23 : decode cX4_hasGoose 23 = .ok (.ireturn, 1) := by decide +kernel
theorem dX4_hasMarket_0 : decode cX4_hasMarket 0 = .ok (.iload_n 1, 1) := by decide +kernel
theorem dX4_hasMarket_1 : decode cX4_hasMarket 1 = .ok (.ifCond .lt 20, 3) := by decide +kernel
theorem dX4_hasMarket_4 : decode cX4_hasMarket 4 = .ok (.iload_n 1, 1) := by decide +kernel
theorem dX4_hasMarket_5 : decode cX4_hasMarket 5 = .ok (.aload_n 0, 1) := by decide +kernel
theorem dX4_hasMarket_6 : decode cX4_hasMarket 6 = .ok (.getfield 25, 3) := by decide +kernel
theorem dX4_hasMarket_9 : decode cX4_hasMarket 9 = .ok (.if_icmp .ge 12, 3) := by decide +kernel
theorem dX4_hasMarket_12 : decode cX4_hasMarket 12 = .ok (.iload_n 1, 1) := by decide +kernel
theorem dX4_hasMarket_13 : decode cX4_hasMarket 13 = .ok (.iconst 4, 1) := by decide +kernel
theorem dX4_hasMarket_14 : decode cX4_hasMarket 14 = .ok (.if_icmp .ge 7, 3) := by decide +kernel
theorem dX4_hasMarket_17 : decode cX4_hasMarket 17 = .ok (.iconst 1, 1) := by decide +kernel
theorem dX4_hasMarket_18 : decode cX4_hasMarket 18 = .ok (.goto 4, 3) := by decide +kernel
theorem dX4_hasMarket_21 : decode cX4_hasMarket 21 = .ok (.iconst 0, 1) := by decide +kernel
theorem dX4_hasMarket_22 : decode cX4_hasMarket 22 = .ok (.ireturn, 1) := by decide +kernel
theorem dX4_ofGoose_0 : decode cX4_ofGoose 0 = .ok (.iload_n 1, 1) := by decide +kernel
theorem dX4_ofGoose_1 : decode cX4_ofGoose 1 = .ok (.ifCond .lt 27, 3) := by decide +kernel
theorem dX4_ofGoose_4 : decode cX4_ofGoose 4 = .ok (.iload_n 1, 1) := by decide +kernel
theorem dX4_ofGoose_5 : decode cX4_ofGoose 5 = .ok (.aload_n 0, 1) := by decide +kernel
theorem dX4_ofGoose_6 : decode cX4_ofGoose 6 = .ok (.getfield 21, 3) := by decide +kernel
theorem dX4_ofGoose_9 : decode cX4_ofGoose 9 = .ok (.if_icmp .ge 19, 3) := by decide +kernel
theorem dX4_ofGoose_12 : decode cX4_ofGoose 12 = .ok (.iload_n 1, 1) := by decide +kernel
theorem dX4_ofGoose_13 : decode cX4_ofGoose 13 = .ok (.bipush 10, 2) := by decide +kernel
theorem dX4_ofGoose_15 : decode cX4_ofGoose 15 = .ok (.if_icmp .ge 13, 3) := by decide +kernel
theorem dX4_ofGoose_18 : decode cX4_ofGoose 18 = .ok (.iload_n 2, 1) := by decide +kernel
theorem dX4_ofGoose_19 : decode cX4_ofGoose 19 = .ok (.ifCond .lt 9, 3) := by decide +kernel
theorem dX4_ofGoose_22 : decode cX4_ofGoose 22 = .ok (.iload_n 2, 1) := by decide +kernel
theorem dX4_ofGoose_23 : decode cX4_ofGoose 23 = .ok (.bipush 9, 2) := by decide +kernel
theorem dX4_ofGoose_25 : decode cX4_ofGoose 25 = .ok (.if_icmp .lt 5, 3) := by decide +kernel
theorem dX4_ofGoose_28 : decode cX4_ofGoose 28 = .ok (.iconst (-1), 1) := by decide +kernel
theorem dX4_ofGoose_29 : decode cX4_ofGoose 29 = .ok (.ireturn, 1) := by decide +kernel
theorem dX4_ofGoose_30 : decode cX4_ofGoose 30 = .ok (.aload_n 0, 1) := by decide +kernel
theorem dX4_ofGoose_31 : decode cX4_ofGoose 31 = .ok (.getfield 11, 3) := by decide +kernel
theorem dX4_ofGoose_34 : decode cX4_ofGoose 34 = .ok (.iload_n 1, 1) := by decide +kernel
theorem dX4_ofGoose_35 : decode cX4_ofGoose 35 = .ok (.bipush 9, 2) := by decide +kernel
theorem dX4_ofGoose_37 : decode cX4_ofGoose 37 = .ok (.imul, 1) := by decide +kernel
theorem dX4_ofGoose_38 : decode cX4_ofGoose 38 = .ok (.iload_n 2, 1) := by decide +kernel
theorem dX4_ofGoose_39 : decode cX4_ofGoose 39 = .ok (.iadd, 1) := by decide +kernel
theorem dX4_ofGoose_40 : decode cX4_ofGoose 40 = .ok (.iaload, 1) := by decide +kernel
theorem dX4_ofGoose_41 : decode cX4_ofGoose 41 = .ok (.ireturn, 1) := by decide +kernel
set_option maxRecDepth 20000 in
theorem ggX4_setGoose_X4_hasGoose : GoodIn wsX4_setGoose wsX4_hasGoose := goodIn_r _ [6, 7, 8, 9, 10, 11, 12, 13, 14, 15, 16, 17, 18, 19, 20] (by decide +kernel) (by decide +kernel)
set_option maxRecDepth 20000 in
theorem gX4_setGoose_X4_hasGoose : GoodIn wsX4_setGoose (wsV RX4 58 RX4 yX4_hasGoose wsX4_hasGoose) := goodIn_app (goodIn_of _ (by decide +kernel)) ggX4_setGoose_X4_hasGoose
theorem dX4_setGoose_0 : decode cX4_setGoose 0 = .ok (.aload_n 0, 1) := by decide +kernel
theorem dX4_setGoose_1 : decode cX4_setGoose 1 = .ok (.iload_n 1, 1) := by decide +kernel
theorem dX4_setGoose_2 : decode cX4_setGoose 2 = .ok (.invokevirtual 58, 3) := by decide +kernel
theorem dX4_setGoose_5 : decode cX4_setGoose 5 = .ok (.ifCond .eq 25, 3) := by decide +kernel
theorem dX4_setGoose_8 : decode cX4_setGoose 8 = .ok (.iload_n 2, 1) := by decide +kernel
theorem dX4_setGoose_9 : decode cX4_setGoose 9 = .ok (.ifCond .lt 21, 3) := by decide +kernel
theorem dX4_setGoose_12 : decode cX4_setGoose 12 = .ok (.iload_n 2, 1) := by decide +kernel
theorem dX4_setGoose_13 : decode cX4_setGoose 13 = .ok (.bipush 9, 2) := by decide +kernel
theorem dX4_setGoose_15 : decode cX4_setGoose 15 = .ok (.if_icmp .ge 15, 3) := by decide +kernel
theorem dX4_setGoose_18 : decode cX4_setGoose 18 = .ok (.aload_n 0, 1) := by decide +kernel
theorem dX4_setGoose_19 : decode cX4_setGoose 19 = .ok (.getfield 11, 3) := by decide +kernel
theorem dX4_setGoose_22 : decode cX4_setGoose 22 = .ok (.iload_n 1, 1) := by decide +kernel
theorem dX4_setGoose_23 : decode cX4_setGoose 23 = .ok (.bipush 9, 2) := by decide +kernel
theorem dX4_setGoose_25 : decode cX4_setGoose 25 = .ok (.imul, 1) := by decide +kernel
theorem dX4_setGoose_26 : decode cX4_setGoose 26 = .ok (.iload_n 2, 1) := by decide +kernel
theorem dX4_setGoose_27 : decode cX4_setGoose 27 = .ok (.iadd, 1) := by decide +kernel
theorem dX4_setGoose_28 : decode cX4_setGoose 28 = .ok (.iload_n 3, 1) := by decide +kernel
theorem dX4_setGoose_29 : decode cX4_setGoose 29 = .ok (.iastore, 1) := by decide +kernel
theorem dX4_setGoose_30 : decode cX4_setGoose 30 = .ok (.return_, 1) := by decide +kernel
theorem dX4_ofMarket_0 : decode cX4_ofMarket 0 = .ok (.iload_n 1, 1) := by decide +kernel
theorem dX4_ofMarket_1 : decode cX4_ofMarket 1 = .ok (.ifCond .lt 25, 3) := by decide +kernel
theorem dX4_ofMarket_4 : decode cX4_ofMarket 4 = .ok (.iload_n 1, 1) := by decide +kernel
theorem dX4_ofMarket_5 : decode cX4_ofMarket 5 = .ok (.aload_n 0, 1) := by decide +kernel
theorem dX4_ofMarket_6 : decode cX4_ofMarket 6 = .ok (.getfield 25, 3) := by decide +kernel
theorem dX4_ofMarket_9 : decode cX4_ofMarket 9 = .ok (.if_icmp .ge 17, 3) := by decide +kernel
theorem dX4_ofMarket_12 : decode cX4_ofMarket 12 = .ok (.iload_n 1, 1) := by decide +kernel
theorem dX4_ofMarket_13 : decode cX4_ofMarket 13 = .ok (.iconst 4, 1) := by decide +kernel
theorem dX4_ofMarket_14 : decode cX4_ofMarket 14 = .ok (.if_icmp .ge 12, 3) := by decide +kernel
theorem dX4_ofMarket_17 : decode cX4_ofMarket 17 = .ok (.iload_n 2, 1) := by decide +kernel
theorem dX4_ofMarket_18 : decode cX4_ofMarket 18 = .ok (.ifCond .lt 8, 3) := by decide +kernel
theorem dX4_ofMarket_21 : decode cX4_ofMarket 21 = .ok (.iload_n 2, 1) := by decide +kernel
theorem dX4_ofMarket_22 : decode cX4_ofMarket 22 = .ok (.iconst 3, 1) := by decide +kernel
theorem dX4_ofMarket_23 : decode cX4_ofMarket 23 = .ok (.if_icmp .lt 5, 3) := by decide +kernel
theorem dX4_ofMarket_26 : decode cX4_ofMarket 26 = .ok (.iconst 0, 1) := by decide +kernel
theorem dX4_ofMarket_27 : decode cX4_ofMarket 27 = .ok (.ireturn, 1) := by decide +kernel
theorem dX4_ofMarket_28 : decode cX4_ofMarket 28 = .ok (.aload_n 0, 1) := by decide +kernel
theorem dX4_ofMarket_29 : decode cX4_ofMarket 29 = .ok (.getfield 15, 3) := by decide +kernel
theorem dX4_ofMarket_32 : decode cX4_ofMarket 32 = .ok (.iload_n 1, 1) := by decide +kernel
theorem dX4_ofMarket_33 : decode cX4_ofMarket 33 = .ok (.iconst 3, 1) := by decide +kernel
theorem dX4_ofMarket_34 : decode cX4_ofMarket 34 = .ok (.imul, 1) := by decide +kernel
theorem dX4_ofMarket_35 : decode cX4_ofMarket 35 = .ok (.iload_n 2, 1) := by decide +kernel
theorem dX4_ofMarket_36 : decode cX4_ofMarket 36 = .ok (.iadd, 1) := by decide +kernel
theorem dX4_ofMarket_37 : decode cX4_ofMarket 37 = .ok (.iaload, 1) := by decide +kernel
theorem dX4_ofMarket_38 : decode cX4_ofMarket 38 = .ok (.ireturn, 1) := by decide +kernel
theorem dX4_addMarket_0 : decode cX4_addMarket 0 = .ok (.aload_n 0, 1) := by decide +kernel
theorem dX4_addMarket_1 : decode cX4_addMarket 1 = .ok (.getfield 25, 3) := by decide +kernel
theorem dX4_addMarket_4 : decode cX4_addMarket 4 = .ok (.iconst 4, 1) := by decide +kernel
theorem dX4_addMarket_5 : decode cX4_addMarket 5 = .ok (.if_icmp .lt 5, 3) := by decide +kernel
theorem dX4_addMarket_8 : decode cX4_addMarket 8 = .ok (.iconst (-1), 1) := by decide +kernel
theorem dX4_addMarket_9 : decode cX4_addMarket 9 = .ok (.ireturn, 1) := by decide +kernel
theorem dX4_addMarket_10 : decode cX4_addMarket 10 = .ok (.aload_n 0, 1) := by decide +kernel
theorem dX4_addMarket_11 : decode cX4_addMarket 11 = .ok (.getfield 25, 3) := by decide +kernel
theorem dX4_addMarket_14 : decode cX4_addMarket 14 = .ok (.iconst 3, 1) := by decide +kernel
theorem dX4_addMarket_15 : decode cX4_addMarket 15 = .ok (.imul, 1) := by decide +kernel
theorem dX4_addMarket_16 : decode cX4_addMarket 16 = .ok (.istore 4, 2) := by decide +kernel
theorem dX4_addMarket_18 : decode cX4_addMarket 18 = .ok (.aload_n 0, 1) := by decide +kernel
theorem dX4_addMarket_19 : decode cX4_addMarket 19 = .ok (.getfield 15, 3) := by decide +kernel
theorem dX4_addMarket_22 : decode cX4_addMarket 22 = .ok (.iload 4, 2) := by decide +kernel
theorem dX4_addMarket_24 : decode cX4_addMarket 24 = .ok (.iconst 0, 1) := by decide +kernel
theorem dX4_addMarket_25 : decode cX4_addMarket 25 = .ok (.iadd, 1) := by decide +kernel
theorem dX4_addMarket_26 : decode cX4_addMarket 26 = .ok (.iload_n 1, 1) := by decide +kernel
theorem dX4_addMarket_27 : decode cX4_addMarket 27 = .ok (.iastore, 1) := by decide +kernel
theorem dX4_addMarket_28 : decode cX4_addMarket 28 = .ok (.aload_n 0, 1) := by decide +kernel
theorem dX4_addMarket_29 : decode cX4_addMarket 29 = .ok (.getfield 15, 3) := by decide +kernel
theorem dX4_addMarket_32 : decode cX4_addMarket 32 = .ok (.iload 4, 2) := by decide +kernel
theorem dX4_addMarket_34 : decode cX4_addMarket 34 = .ok (.iconst 1, 1) := by decide +kernel
theorem dX4_addMarket_35 : decode cX4_addMarket 35 = .ok (.iadd, 1) := by decide +kernel
theorem dX4_addMarket_36 : decode cX4_addMarket 36 = .ok (.iload_n 2, 1) := by decide +kernel
theorem dX4_addMarket_37 : decode cX4_addMarket 37 = .ok (.iastore, 1) := by decide +kernel
theorem dX4_addMarket_38 : decode cX4_addMarket 38 = .ok (.aload_n 0, 1) := by decide +kernel
theorem dX4_addMarket_39 : decode cX4_addMarket 39 = .ok (.getfield 15, 3) := by decide +kernel
theorem dX4_addMarket_42 : decode cX4_addMarket 42 = .ok (.iload 4, 2) := by decide +kernel
theorem dX4_addMarket_44 : decode cX4_addMarket 44 = .ok (.iconst 2, 1) := by decide +kernel
theorem dX4_addMarket_45 : decode cX4_addMarket 45 = .ok (.iadd, 1) := by decide +kernel
theorem dX4_addMarket_46 : decode cX4_addMarket 46 = .ok (.iload_n 3, 1) := by decide +kernel
theorem dX4_addMarket_47 : decode cX4_addMarket 47 = .ok (.iastore, 1) := by decide +kernel
theorem dX4_addMarket_48 : decode cX4_addMarket 48 = .ok (.aload_n 0, 1) := by decide +kernel
theorem dX4_addMarket_49 : decode cX4_addMarket 49 = .ok (.dup, 1) := by decide +kernel
theorem dX4_addMarket_50 : decode cX4_addMarket 50 = .ok (.getfield 25, 3) := by decide +kernel
theorem dX4_addMarket_53 : decode cX4_addMarket 53 = .ok (.iconst 1, 1) := by decide +kernel
theorem dX4_addMarket_54 : decode cX4_addMarket 54 = .ok (.iadd, 1) := by decide +kernel
theorem dX4_addMarket_55 : decode cX4_addMarket 55 = .ok (.putfield 25, 3) := by decide +kernel
theorem dX4_addMarket_58 : decode cX4_addMarket 58 = .ok (.aload_n 0, 1) := by decide +kernel
theorem dX4_addMarket_59 : decode cX4_addMarket 59 = .ok (.getfield 25, 3) := by decide +kernel
theorem dX4_addMarket_62 : decode cX4_addMarket 62 = .ok (.iconst 1, 1) := by decide +kernel
theorem dX4_addMarket_63 : decode cX4_addMarket 63 = .ok (.isub, 1) := by decide +kernel
theorem dX4_addMarket_64 : decode cX4_addMarket 64 = .ok (.ireturn, 1) := by decide +kernel
set_option maxRecDepth 20000 in
theorem ggX4_addGoose_X4_setGoose : GoodIn wsX4_addGoose wsX4_setGoose := goodIn_r _ [6, 7, 8, 9, 10, 5, 11, 1, 12, 13, 14, 15, 16, 17, 18, 19, 20, 21, 22, 23, 24] (by decide +kernel) (by decide +kernel)
set_option maxRecDepth 20000 in
theorem gX4_addGoose_X4_setGoose : GoodIn wsX4_addGoose (wsV RX4 62 RX4 yX4_setGoose wsX4_setGoose) := goodIn_app (goodIn_of _ (by decide +kernel)) ggX4_addGoose_X4_setGoose
theorem dX4_addGoose_0 : decode cX4_addGoose 0 = .ok (.aload_n 0, 1) := by decide +kernel
theorem dX4_addGoose_1 : decode cX4_addGoose 1 = .ok (.getfield 21, 3) := by decide +kernel
theorem dX4_addGoose_4 : decode cX4_addGoose 4 = .ok (.bipush 10, 2) := by decide +kernel
theorem dX4_addGoose_6 : decode cX4_addGoose 6 = .ok (.if_icmp .lt 5, 3) := by decide +kernel
theorem dX4_addGoose_9 : decode cX4_addGoose 9 = .ok (.iconst (-1), 1) := by decide +kernel
theorem dX4_addGoose_10 : decode cX4_addGoose 10 = .ok (.ireturn, 1) := by decide +kernel
theorem dX4_addGoose_11 : decode cX4_addGoose 11 = .ok (.aload_n 0, 1) := by decide +kernel
theorem dX4_addGoose_12 : decode cX4_addGoose 12 = .ok (.getfield 21, 3) := by decide +kernel
theorem dX4_addGoose_15 : decode cX4_addGoose 15 = .ok (.istore_n 3, 1) := by decide +kernel
theorem dX4_addGoose_16 : decode cX4_addGoose 16 = .ok (.aload_n 0, 1) := by decide +kernel
theorem dX4_addGoose_17 : decode cX4_addGoose 17 = .ok (.dup, 1) := by decide +kernel
theorem dX4_addGoose_18 : decode cX4_addGoose 18 = .ok (.getfield 21, 3) := by decide +kernel
theorem dX4_addGoose_21 : decode cX4_addGoose 21 = .ok (.iconst 1, 1) := by decide +kernel
theorem dX4_addGoose_22 : decode cX4_addGoose 22 = .ok (.iadd, 1) := by decide +kernel
theorem dX4_addGoose_23 : decode cX4_addGoose 23 = .ok (.putfield 21, 3) := by decide +kernel
theorem dX4_addGoose_26 : decode cX4_addGoose 26 = .ok (.aload_n 0, 1) := by decide +kernel
theorem dX4_addGoose_27 : decode cX4_addGoose 27 = .ok (.iload_n 3, 1) := by decide +kernel
theorem dX4_addGoose_28 : decode cX4_addGoose 28 = .ok (.iconst 0, 1) := by decide +kernel
theorem dX4_addGoose_29 : decode cX4_addGoose 29 = .ok (.iload_n 1, 1) := by decide +kernel
theorem dX4_addGoose_30 : decode cX4_addGoose 30 = .ok (.invokevirtual 62, 3) := by decide +kernel
theorem dX4_addGoose_33 : decode cX4_addGoose 33 = .ok (.aload_n 0, 1) := by decide +kernel
theorem dX4_addGoose_34 : decode cX4_addGoose 34 = .ok (.iload_n 3, 1) := by decide +kernel
theorem dX4_addGoose_35 : decode cX4_addGoose 35 = .ok (.iconst 1, 1) := by decide +kernel
theorem dX4_addGoose_36 : decode cX4_addGoose 36 = .ok (.iload_n 2, 1) := by decide +kernel
