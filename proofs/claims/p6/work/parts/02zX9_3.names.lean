theorem dX9_hungers_1 : decode cX9_hungers 1 = .ok (.getfield 7, 3) := by decide +kernel
theorem dX9_hungers_4 : decode cX9_hungers 4 = .ok (.iconst 2, 1) := by decide +kernel
theorem dX9_hungers_5 : decode cX9_hungers 5 = .ok (.iaload, 1) := by decide +kernel
theorem dX9_hungers_6 : decode cX9_hungers 6 = .ok (.aload_n 0, 1) := by decide +kernel
theorem dX9_hungers_7 : decode cX9_hungers 7 = .ok (.iconst 0, 1) := by decide +kernel
theorem dX9_hungers_8 : decode cX9_hungers 8 = .ok (.invokevirtual 378, 3) := by decide +kernel
theorem dX9_hungers_11 : decode cX9_hungers 11 = .ok (.iadd, 1) := by decide +kernel
theorem dX9_hungers_12 : decode cX9_hungers 12 = .ok (.istore_n 1, 1) := by decide +kernel
theorem dX9_hungers_13 : decode cX9_hungers 13 = .ok (.aload_n 0, 1) := by decide +kernel
theorem dX9_hungers_14 : decode cX9_hungers 14 = .ok (.getfield 7, 3) := by decide +kernel
theorem dX9_hungers_17 : decode cX9_hungers 17 = .ok (.bipush 120, 2) := by decide +kernel
theorem dX9_hungers_19 : decode cX9_hungers 19 = .ok (.iaload, 1) := by decide +kernel
theorem dX9_hungers_20 : decode cX9_hungers 20 = .ok (.iload_n 1, 1) := by decide +kernel
theorem dX9_hungers_21 : decode cX9_hungers 21 = .ok (.if_icmp .lt 15, 3) := by decide +kernel
theorem dX9_hungers_24 : decode cX9_hungers 24 = .ok (.aload_n 0, 1) := by decide +kernel
theorem dX9_hungers_25 : decode cX9_hungers 25 = .ok (.getfield 7, 3) := by decide +kernel
theorem dX9_hungers_28 : decode cX9_hungers 28 = .ok (.bipush 120, 2) := by decide +kernel
theorem dX9_hungers_30 : decode cX9_hungers 30 = .ok (.dup2, 1) := by decide +kernel
theorem dX9_hungers_31 : decode cX9_hungers 31 = .ok (.iaload, 1) := by decide +kernel
theorem dX9_hungers_32 : decode cX9_hungers 32 = .ok (.iload_n 1, 1) := by decide +kernel
theorem dX9_hungers_33 : decode cX9_hungers 33 = .ok (.isub, 1) := by decide +kernel
theorem dX9_hungers_34 : decode cX9_hungers 34 = .ok (.iastore, 1) := by decide +kernel
theorem dX9_hungers_35 : decode cX9_hungers 35 = .ok (.return_, 1) := by decide +kernel
theorem dX9_hungers_36 : decode cX9_hungers 36 = .ok (.iconst 0, 1) := by decide +kernel
theorem dX9_hungers_37 : decode cX9_hungers 37 = .ok (.istore_n 2, 1) := by decide +kernel
theorem dX9_hungers_38 : decode cX9_hungers 38 = .ok (.iload_n 2, 1) := by decide +kernel
theorem dX9_hungers_39 : decode cX9_hungers 39 = .ok (.aload_n 0, 1) := by decide +kernel
theorem dX9_hungers_40 : decode cX9_hungers 40 = .ok (.getfield 7, 3) := by decide +kernel
theorem dX9_hungers_43 : decode cX9_hungers 43 = .ok (.iconst 1, 1) := by decide +kernel
theorem dX9_hungers_44 : decode cX9_hungers 44 = .ok (.iaload, 1) := by decide +kernel
theorem dX9_hungers_45 : decode cX9_hungers 45 = .ok (.if_icmp .ge 29, 3) := by decide +kernel
theorem dX9_hungers_48 : decode cX9_hungers 48 = .ok (.aload_n 0, 1) := by decide +kernel
theorem dX9_hungers_49 : decode cX9_hungers 49 = .ok (.iload_n 2, 1) := by decide +kernel
theorem dX9_hungers_50 : decode cX9_hungers 50 = .ok (.iconst 4, 1) := by decide +kernel
theorem dX9_hungers_51 : decode cX9_hungers 51 = .ok (.invokevirtual 138, 3) := by decide +kernel
theorem dX9_hungers_54 : decode cX9_hungers 54 = .ok (.ifCond .ne 14, 3) := by decide +kernel
theorem dX9_hungers_57 : decode cX9_hungers 57 = .ok (.aload_n 0, 1) := by decide +kernel
theorem dX9_hungers_58 : decode cX9_hungers 58 = .ok (.iload_n 2, 1) := by decide +kernel
theorem dX9_hungers_59 : decode cX9_hungers 59 = .ok (.bipush 8, 2) := by decide +kernel
theorem dX9_hungers_61 : decode cX9_hungers 61 = .ok (.invokevirtual 138, 3) := by decide +kernel
theorem dX9_hungers_64 : decode cX9_hungers 64 = .ok (.iconst 1, 1) := by decide +kernel
theorem dX9_hungers_65 : decode cX9_hungers 65 = .ok (.if_icmp .ne 9, 3) := by decide +kernel
theorem dX9_hungers_68 : decode cX9_hungers 68 = .ok (.iinc 2 1, 3) := by decide +kernel
theorem dX9_hungers_71 : decode cX9_hungers 71 = .ok (.goto (-33), 3) := by decide +kernel
theorem dX9_hungers_74 : decode cX9_hungers 74 = .ok (.aload_n 0, 1) := by decide +kernel
theorem dX9_hungers_75 : decode cX9_hungers 75 = .ok (.getfield 7, 3) := by decide +kernel
theorem dX9_hungers_78 : decode cX9_hungers 78 = .ok (.bipush 120, 2) := by decide +kernel
theorem dX9_hungers_80 : decode cX9_hungers 80 = .ok (.iload_n 2, 1) := by decide +kernel
theorem dX9_hungers_81 : decode cX9_hungers 81 = .ok (.aload_n 0, 1) := by decide +kernel
theorem dX9_hungers_82 : decode cX9_hungers 82 = .ok (.getfield 7, 3) := by decide +kernel
theorem dX9_hungers_85 : decode cX9_hungers 85 = .ok (.iconst 1, 1) := by decide +kernel
theorem dX9_hungers_86 : decode cX9_hungers 86 = .ok (.iaload, 1) := by decide +kernel
theorem dX9_hungers_87 : decode cX9_hungers 87 = .ok (.if_icmp .ge 12, 3) := by decide +kernel
theorem dX9_hungers_90 : decode cX9_hungers 90 = .ok (.aload_n 0, 1) := by decide +kernel
theorem dX9_hungers_91 : decode cX9_hungers 91 = .ok (.iload_n 2, 1) := by decide +kernel
theorem dX9_hungers_92 : decode cX9_hungers 92 = .ok (.iconst 0, 1) := by decide +kernel
theorem dX9_hungers_93 : decode cX9_hungers 93 = .ok (.invokevirtual 138, 3) := by decide +kernel
theorem dX9_hungers_96 : decode cX9_hungers 96 = .ok (.goto 4, 3) := by decide +kernel
theorem dX9_hungers_99 : decode cX9_hungers 99 = .ok (.iconst 0, 1) := by decide +kernel
theorem dX9_hungers_100 : decode cX9_hungers 100 = .ok (.iastore, 1) := by decide +kernel
theorem dX9_hungers_101 : decode cX9_hungers 101 = .ok (.iload_n 2, 1) := by decide +kernel
theorem dX9_hungers_102 : decode cX9_hungers 102 = .ok (.aload_n 0, 1) := by decide +kernel
theorem dX9_hungers_103 : decode cX9_hungers 103 = .ok (.getfield 7, 3) := by decide +kernel
theorem dX9_hungers_106 : decode cX9_hungers 106 = .ok (.iconst 1, 1) := by decide +kernel
theorem dX9_hungers_107 : decode cX9_hungers 107 = .ok (.iaload, 1) := by decide +kernel
theorem dX9_hungers_108 : decode cX9_hungers 108 = .ok (.if_icmp .ge 24, 3) := by decide +kernel
theorem dX9_hungers_111 : decode cX9_hungers 111 = .ok (.aload_n 0, 1) := by decide +kernel
theorem dX9_hungers_112 : decode cX9_hungers 112 = .ok (.iload_n 2, 1) := by decide +kernel
theorem dX9_hungers_113 : decode cX9_hungers 113 = .ok (.iconst 4, 1) := by decide +kernel
theorem dX9_hungers_114 : decode cX9_hungers 114 = .ok (.iconst 5, 1) := by decide +kernel
theorem dX9_hungers_115 : decode cX9_hungers 115 = .ok (.invokevirtual 156, 3) := by decide +kernel
theorem dX9_hungers_118 : decode cX9_hungers 118 = .ok (.aload_n 0, 1) := by decide +kernel
theorem dX9_hungers_119 : decode cX9_hungers 119 = .ok (.iload_n 2, 1) := by decide +kernel
theorem dX9_hungers_120 : decode cX9_hungers 120 = .ok (.bipush 7, 2) := by decide +kernel
theorem dX9_hungers_122 : decode cX9_hungers 122 = .ok (.aload_n 0, 1) := by decide +kernel
theorem dX9_hungers_123 : decode cX9_hungers 123 = .ok (.getfield 7, 3) := by decide +kernel
theorem dX9_hungers_126 : decode cX9_hungers 126 = .ok (.bipush 121, 2) := by decide +kernel
theorem dX9_hungers_128 : decode cX9_hungers 128 = .ok (.iaload, 1) := by decide +kernel
theorem dX9_hungers_129 : decode cX9_hungers 129 = .ok (.invokevirtual 156, 3) := by decide +kernel
theorem dX9_hungers_132 : decode cX9_hungers 132 = .ok (.return_, 1) := by decide +kernel
theorem dX9_pass_0 : decode cX9_pass 0 = .ok (.iload_n 1, 1) := by decide +kernel
theorem dX9_pass_1 : decode cX9_pass 1 = .ok (.iconst 1, 1) := by decide +kernel
theorem dX9_pass_2 : decode cX9_pass 2 = .ok (.bipush 99, 2) := by decide +kernel
theorem dX9_pass_4 : decode cX9_pass 4 = .ok (.invokestatic 126, 3) := by decide +kernel
theorem dX9_pass_7 : decode cX9_pass 7 = .ok (.ifCond .eq 18, 3) := by decide +kernel
theorem dX9_pass_10 : decode cX9_pass 10 = .ok (.aload_n 0, 1) := by decide +kernel
theorem dX9_pass_11 : decode cX9_pass 11 = .ok (.getfield 7, 3) := by decide +kernel
theorem dX9_pass_14 : decode cX9_pass 14 = .ok (.bipush 121, 2) := by decide +kernel
theorem dX9_pass_16 : decode cX9_pass 16 = .ok (.iaload, 1) := by decide +kernel
theorem dX9_pass_17 : decode cX9_pass 17 = .ok (.iload_n 1, 1) := by decide +kernel
theorem dX9_pass_18 : decode cX9_pass 18 = .ok (.iadd, 1) := by decide +kernel
theorem dX9_pass_19 : decode cX9_pass 19 = .ok (.sipush 999, 3) := by decide +kernel
theorem dX9_pass_22 : decode cX9_pass 22 = .ok (.if_icmp .le 5, 3) := by decide +kernel
theorem dX9_pass_25 : decode cX9_pass 25 = .ok (.iconst (-1), 1) := by decide +kernel
theorem dX9_pass_26 : decode cX9_pass 26 = .ok (.ireturn, 1) := by decide +kernel
theorem dX9_pass_27 : decode cX9_pass 27 = .ok (.aload_n 0, 1) := by decide +kernel
theorem dX9_pass_28 : decode cX9_pass 28 = .ok (.invokevirtual 153, 3) := by decide +kernel
theorem dX9_pass_31 : decode cX9_pass 31 = .ok (.iconst 0, 1) := by decide +kernel
theorem dX9_pass_32 : decode cX9_pass 32 = .ok (.istore_n 2, 1) := by decide +kernel
theorem dX9_pass_33 : decode cX9_pass 33 = .ok (.iload_n 2, 1) := by decide +kernel
theorem dX9_pass_34 : decode cX9_pass 34 = .ok (.iload_n 1, 1) := by decide +kernel
theorem dX9_pass_35 : decode cX9_pass 35 = .ok (.if_icmp .ge 74, 3) := by decide +kernel
theorem dX9_pass_38 : decode cX9_pass 38 = .ok (.aload_n 0, 1) := by decide +kernel
theorem dX9_pass_39 : decode cX9_pass 39 = .ok (.getfield 7, 3) := by decide +kernel
theorem dX9_pass_42 : decode cX9_pass 42 = .ok (.bipush 121, 2) := by decide +kernel
theorem dX9_pass_44 : decode cX9_pass 44 = .ok (.dup2, 1) := by decide +kernel
theorem dX9_pass_45 : decode cX9_pass 45 = .ok (.iaload, 1) := by decide +kernel
theorem dX9_pass_46 : decode cX9_pass 46 = .ok (.iconst 1, 1) := by decide +kernel
theorem dX9_pass_47 : decode cX9_pass 47 = .ok (.iadd, 1) := by decide +kernel
theorem dX9_pass_48 : decode cX9_pass 48 = .ok (.iastore, 1) := by decide +kernel
theorem dX9_pass_49 : decode cX9_pass 49 = .ok (.iconst 0, 1) := by decide +kernel
theorem dX9_pass_50 : decode cX9_pass 50 = .ok (.istore_n 3, 1) := by decide +kernel
theorem dX9_pass_51 : decode cX9_pass 51 = .ok (.iload_n 3, 1) := by decide +kernel
theorem dX9_pass_52 : decode cX9_pass 52 = .ok (.aload_n 0, 1) := by decide +kernel
theorem dX9_pass_53 : decode cX9_pass 53 = .ok (.getfield 7, 3) := by decide +kernel
theorem dX9_pass_56 : decode cX9_pass 56 = .ok (.iconst 1, 1) := by decide +kernel
theorem dX9_pass_57 : decode cX9_pass 57 = .ok (.iaload, 1) := by decide +kernel
theorem dX9_pass_58 : decode cX9_pass 58 = .ok (.if_icmp .ge 41, 3) := by decide +kernel
theorem dX9_pass_61 : decode cX9_pass 61 = .ok (.aload_n 0, 1) := by decide +kernel
theorem dX9_pass_62 : decode cX9_pass 62 = .ok (.iload_n 3, 1) := by decide +kernel
theorem dX9_pass_63 : decode cX9_pass 63 = .ok (.iconst 4, 1) := by decide +kernel
theorem dX9_pass_64 : decode cX9_pass 64 = .ok (.invokevirtual 138, 3) := by decide +kernel
theorem dX9_pass_67 : decode cX9_pass 67 = .ok (.iconst 1, 1) := by decide +kernel
theorem dX9_pass_68 : decode cX9_pass 68 = .ok (.if_icmp .ne 25, 3) := by decide +kernel
theorem dX9_pass_71 : decode cX9_pass 71 = .ok (.aload_n 0, 1) := by decide +kernel
theorem dX9_pass_72 : decode cX9_pass 72 = .ok (.iload_n 3, 1) := by decide +kernel
theorem dX9_pass_73 : decode cX9_pass 73 = .ok (.bipush 6, 2) := by decide +kernel
theorem dX9_pass_75 : decode cX9_pass 75 = .ok (.invokevirtual 138, 3) := by decide +kernel
theorem dX9_pass_78 : decode cX9_pass 78 = .ok (.aload_n 0, 1) := by decide +kernel
theorem dX9_pass_79 : decode cX9_pass 79 = .ok (.getfield 7, 3) := by decide +kernel
theorem dX9_pass_82 : decode cX9_pass 82 = .ok (.bipush 121, 2) := by decide +kernel
theorem dX9_pass_84 : decode cX9_pass 84 = .ok (.iaload, 1) := by decide +kernel
theorem dX9_pass_85 : decode cX9_pass 85 = .ok (.if_icmp .ne 8, 3) := by decide +kernel
theorem dX9_pass_88 : decode cX9_pass 88 = .ok (.aload_n 0, 1) := by decide +kernel
theorem dX9_pass_89 : decode cX9_pass 89 = .ok (.iload_n 3, 1) := by decide +kernel
theorem dX9_pass_90 : decode cX9_pass 90 = .ok (.invokevirtual 381, 3) := by decide +kernel
theorem dX9_pass_93 : decode cX9_pass 93 = .ok (.iinc 3 1, 3) := by decide +kernel
theorem dX9_pass_96 : decode cX9_pass 96 = .ok (.goto (-45), 3) := by decide +kernel
theorem dX9_pass_99 : decode cX9_pass 99 = .ok (.aload_n 0, 1) := by decide +kernel
theorem dX9_pass_100 : decode cX9_pass 100 = .ok (.invokevirtual 384, 3) := by decide +kernel
theorem dX9_pass_103 : decode cX9_pass 103 = .ok (.iinc 2 1, 3) := by decide +kernel
theorem dX9_pass_106 : decode cX9_pass 106 = .ok (.goto (-73), 3) := by decide +kernel
theorem dX9_pass_109 : decode cX9_pass 109 = .ok (.aload_n 0, 1) := by decide +kernel
theorem dX9_pass_110 : decode cX9_pass 110 = .ok (.getfield 7, 3) := by decide +kernel
theorem dX9_pass_113 : decode cX9_pass 113 = .ok (.bipush 121, 2) := by decide +kernel
theorem dX9_pass_115 : decode cX9_pass 115 = .ok (.iaload, 1) := by decide +kernel
theorem dX9_pass_116 : decode cX9_pass 116 = .ok (.ireturn, 1) := by decide +kernel
theorem dX9_played_0 : decode cX9_played 0 = .ok (.iload_n 1, 1) := by decide +kernel
theorem dX9_played_1 : decode cX9_played 1 = .ok (.iconst 0, 1) := by decide +kernel
theorem dX9_played_2 : decode cX9_played 2 = .ok (.aload_n 0, 1) := by decide +kernel
theorem dX9_played_3 : decode cX9_played 3 = .ok (.getfield 7, 3) := by decide +kernel
theorem dX9_played_6 : decode cX9_played 6 = .ok (.iconst 3, 1) := by decide +kernel
theorem dX9_played_7 : decode cX9_played 7 = .ok (.iaload, 1) := by decide +kernel
theorem dX9_played_8 : decode cX9_played 8 = .ok (.iconst 1, 1) := by decide +kernel
theorem dX9_played_9 : decode cX9_played 9 = .ok (.isub, 1) := by decide +kernel
theorem dX9_played_10 : decode cX9_played 10 = .ok (.invokestatic 126, 3) := by decide +kernel
theorem dX9_played_13 : decode cX9_played 13 = .ok (.ifCond .ne 6, 3) := by decide +kernel
theorem dX9_played_16 : decode cX9_played 16 = .ok (.bipush (-2), 2) := by decide +kernel
theorem dX9_played_18 : decode cX9_played 18 = .ok (.ireturn, 1) := by decide +kernel
theorem dX9_played_19 : decode cX9_played 19 = .ok (.iconst 0, 1) := by decide +kernel
theorem dX9_played_20 : decode cX9_played 20 = .ok (.istore_n 2, 1) := by decide +kernel
theorem dX9_played_21 : decode cX9_played 21 = .ok (.iload_n 2, 1) := by decide +kernel
theorem dX9_played_22 : decode cX9_played 22 = .ok (.aload_n 0, 1) := by decide +kernel
theorem dX9_played_23 : decode cX9_played 23 = .ok (.getfield 27, 3) := by decide +kernel
theorem dX9_played_26 : decode cX9_played 26 = .ok (.iload_n 1, 1) := by decide +kernel
theorem dX9_played_27 : decode cX9_played 27 = .ok (.iaload, 1) := by decide +kernel
theorem dX9_played_28 : decode cX9_played 28 = .ok (.if_icmp .ge 140, 3) := by decide +kernel
theorem dX9_played_31 : decode cX9_played 31 = .ok (.bipush 24, 2) := by decide +kernel
theorem dX9_played_33 : decode cX9_played 33 = .ok (.iload_n 1, 1) := by decide +kernel
theorem dX9_played_34 : decode cX9_played 34 = .ok (.imul, 1) := by decide +kernel
theorem dX9_played_35 : decode cX9_played 35 = .ok (.iload_n 2, 1) := by decide +kernel
theorem dX9_played_36 : decode cX9_played 36 = .ok (.iadd, 1) := by decide +kernel
theorem dX9_played_37 : decode cX9_played 37 = .ok (.istore_n 3, 1) := by decide +kernel
theorem dX9_played_38 : decode cX9_played 38 = .ok (.iconst 0, 1) := by decide +kernel
theorem dX9_played_39 : decode cX9_played 39 = .ok (.istore 4, 2) := by decide +kernel
theorem dX9_played_41 : decode cX9_played 41 = .ok (.aload_n 0, 1) := by decide +kernel
theorem dX9_played_42 : decode cX9_played 42 = .ok (.getfield 30, 3) := by decide +kernel
theorem dX9_played_45 : decode cX9_played 45 = .ok (.iload_n 3, 1) := by decide +kernel
theorem dX9_played_46 : decode cX9_played 46 = .ok (.iaload, 1) := by decide +kernel
theorem dX9_played_47 : decode cX9_played 47 = .ok (.tableswitch 107 4 7 #[29, 56, 77, 92], 29) := by decide +kernel
theorem dX9_played_76 : decode cX9_played 76 = .ok (.aload_n 0, 1) := by decide +kernel
theorem dX9_played_77 : decode cX9_played 77 = .ok (.aload_n 0, 1) := by decide +kernel
theorem dX9_played_78 : decode cX9_played 78 = .ok (.getfield 36, 3) := by decide +kernel
theorem dX9_played_81 : decode cX9_played 81 = .ok (.iload_n 3, 1) := by decide +kernel
theorem dX9_played_82 : decode cX9_played 82 = .ok (.iaload, 1) := by decide +kernel
theorem dX9_played_83 : decode cX9_played 83 = .ok (.aload_n 0, 1) := by decide +kernel
theorem dX9_played_84 : decode cX9_played 84 = .ok (.getfield 39, 3) := by decide +kernel
theorem dX9_played_87 : decode cX9_played 87 = .ok (.iload_n 3, 1) := by decide +kernel
theorem dX9_played_88 : decode cX9_played 88 = .ok (.iaload, 1) := by decide +kernel
theorem dX9_played_89 : decode cX9_played 89 = .ok (.aload_n 0, 1) := by decide +kernel
theorem dX9_played_90 : decode cX9_played 90 = .ok (.getfield 42, 3) := by decide +kernel
theorem dX9_played_93 : decode cX9_played 93 = .ok (.iload_n 3, 1) := by decide +kernel
theorem dX9_played_94 : decode cX9_played 94 = .ok (.iaload, 1) := by decide +kernel
theorem dX9_played_95 : decode cX9_played 95 = .ok (.invokevirtual 387, 3) := by decide +kernel
theorem dX9_played_98 : decode cX9_played 98 = .ok (.istore 4, 2) := by decide +kernel
theorem dX9_played_100 : decode cX9_played 100 = .ok (.goto 54, 3) := by decide +kernel
theorem dX9_played_103 : decode cX9_played 103 = .ok (.aload_n 0, 1) := by decide +kernel
theorem dX9_played_104 : decode cX9_played 104 = .ok (.aload_n 0, 1) := by decide +kernel
theorem dX9_played_105 : decode cX9_played 105 = .ok (.getfield 36, 3) := by decide +kernel
theorem dX9_played_108 : decode cX9_played 108 = .ok (.iload_n 3, 1) := by decide +kernel
theorem dX9_played_109 : decode cX9_played 109 = .ok (.iaload, 1) := by decide +kernel
theorem dX9_played_110 : decode cX9_played 110 = .ok (.aload_n 0, 1) := by decide +kernel
theorem dX9_played_111 : decode cX9_played 111 = .ok (.getfield 39, 3) := by decide +kernel
theorem dX9_played_114 : decode cX9_played 114 = .ok (.iload_n 3, 1) := by decide +kernel
theorem dX9_played_115 : decode cX9_played 115 = .ok (.iaload, 1) := by decide +kernel
theorem dX9_played_116 : decode cX9_played 116 = .ok (.invokevirtual 390, 3) := by decide +kernel
theorem dX9_played_119 : decode cX9_played 119 = .ok (.istore 4, 2) := by decide +kernel
theorem dX9_played_121 : decode cX9_played 121 = .ok (.goto 33, 3) := by decide +kernel
theorem dX9_played_124 : decode cX9_played 124 = .ok (.aload_n 0, 1) := by decide +kernel
theorem dX9_played_125 : decode cX9_played 125 = .ok (.aload_n 0, 1) := by decide +kernel
theorem dX9_played_126 : decode cX9_played 126 = .ok (.getfield 36, 3) := by decide +kernel
theorem dX9_played_129 : decode cX9_played 129 = .ok (.iload_n 3, 1) := by decide +kernel
theorem dX9_played_130 : decode cX9_played 130 = .ok (.iaload, 1) := by decide +kernel
theorem dX9_played_131 : decode cX9_played 131 = .ok (.invokevirtual 393, 3) := by decide +kernel
theorem dX9_played_134 : decode cX9_played 134 = .ok (.istore 4, 2) := by decide +kernel
theorem dX9_played_136 : decode cX9_played 136 = .ok (.goto 18, 3) := by decide +kernel
theorem dX9_played_139 : decode cX9_played 139 = .ok (.aload_n 0, 1) := by decide +kernel
theorem dX9_played_140 : decode cX9_played 140 = .ok (.aload_n 0, 1) := by decide +kernel
theorem dX9_played_141 : decode cX9_played 141 = .ok (.getfield 36, 3) := by decide +kernel
theorem dX9_played_144 : decode cX9_played 144 = .ok (.iload_n 3, 1) := by decide +kernel
theorem dX9_played_145 : decode cX9_played 145 = .ok (.iaload, 1) := by decide +kernel
theorem dX9_played_146 : decode cX9_played 146 = .ok (.invokevirtual 396, 3) := by decide +kernel
theorem dX9_played_149 : decode cX9_played 149 = .ok (.istore 4, 2) := by decide +kernel
theorem dX9_played_151 : decode cX9_played 151 = .ok (.goto 3, 3) := by decide +kernel
theorem dX9_played_154 : decode cX9_played 154 = .ok (.iload 4, 2) := by decide +kernel
theorem dX9_played_156 : decode cX9_played 156 = .ok (.iconst (-1), 1) := by decide +kernel
theorem dX9_played_157 : decode cX9_played 157 = .ok (.if_icmp .ne 5, 3) := by decide +kernel
theorem dX9_played_160 : decode cX9_played 160 = .ok (.iload_n 2, 1) := by decide +kernel
theorem dX9_played_161 : decode cX9_played 161 = .ok (.ireturn, 1) := by decide +kernel
theorem dX9_played_162 : decode cX9_played 162 = .ok (.iinc 2 1, 3) := by decide +kernel
theorem dX9_played_165 : decode cX9_played 165 = .ok (.goto (-144), 3) := by decide +kernel
theorem dX9_played_168 : decode cX9_played 168 = .ok (.iconst (-1), 1) := by decide +kernel
theorem dX9_played_169 : decode cX9_played 169 = .ok (.ireturn, 1) := by decide +kernel
theorem dX9_of_0 : decode cX9_of 0 = .ok (.aload_n 0, 1) := by decide +kernel
theorem dX9_of_1 : decode cX9_of 1 = .ok (.iload_n 1, 1) := by decide +kernel
theorem dX9_of_2 : decode cX9_of 2 = .ok (.invokevirtual 134, 3) := by decide +kernel
theorem dX9_of_5 : decode cX9_of 5 = .ok (.ifCond .eq 13, 3) := by decide +kernel
theorem dX9_of_8 : decode cX9_of 8 = .ok (.iload_n 2, 1) := by decide +kernel
theorem dX9_of_9 : decode cX9_of 9 = .ok (.iconst 0, 1) := by decide +kernel
theorem dX9_of_10 : decode cX9_of 10 = .ok (.bipush 9, 2) := by decide +kernel
theorem dX9_of_12 : decode cX9_of 12 = .ok (.invokestatic 126, 3) := by decide +kernel
theorem dX9_of_15 : decode cX9_of 15 = .ok (.ifCond .ne 6, 3) := by decide +kernel
theorem dX9_of_18 : decode cX9_of 18 = .ok (.bipush (-2), 2) := by decide +kernel
theorem dX9_of_20 : decode cX9_of 20 = .ok (.ireturn, 1) := by decide +kernel
theorem dX9_of_21 : decode cX9_of 21 = .ok (.iload_n 2, 1) := by decide +kernel
theorem dX9_of_22 : decode cX9_of 22 = .ok (.bipush 9, 2) := by decide +kernel
theorem dX9_of_24 : decode cX9_of 24 = .ok (.if_icmp .ge 10, 3) := by decide +kernel
theorem dX9_of_27 : decode cX9_of 27 = .ok (.aload_n 0, 1) := by decide +kernel
theorem dX9_of_28 : decode cX9_of 28 = .ok (.iload_n 1, 1) := by decide +kernel
theorem dX9_of_29 : decode cX9_of 29 = .ok (.iload_n 2, 1) := by decide +kernel
theorem dX9_of_30 : decode cX9_of 30 = .ok (.invokevirtual 138, 3) := by decide +kernel
theorem dX9_of_33 : decode cX9_of 33 = .ok (.ireturn, 1) := by decide +kernel
theorem dX9_of_34 : decode cX9_of 34 = .ok (.aload_n 0, 1) := by decide +kernel
theorem dX9_of_35 : decode cX9_of 35 = .ok (.iload_n 1, 1) := by decide +kernel
theorem dX9_of_36 : decode cX9_of 36 = .ok (.invokevirtual 399, 3) := by decide +kernel
theorem dX9_of_39 : decode cX9_of 39 = .ok (.ifCond .eq 7, 3) := by decide +kernel
theorem dX9_of_42 : decode cX9_of 42 = .ok (.iconst 1, 1) := by decide +kernel
theorem dX9_of_43 : decode cX9_of 43 = .ok (.goto 4, 3) := by decide +kernel
theorem dX9_of_46 : decode cX9_of 46 = .ok (.iconst 0, 1) := by decide +kernel
theorem dX9_of_47 : decode cX9_of 47 = .ok (.ireturn, 1) := by decide +kernel
theorem dX9_halves_0 : decode cX9_halves 0 = .ok (.iload_n 0, 1) := by decide +kernel
theorem dX9_halves_1 : decode cX9_halves 1 = .ok (.ifCond .ne 7, 3) := by decide +kernel
theorem dX9_halves_4 : decode cX9_halves 4 = .ok (.iconst 3, 1) := by decide +kernel
theorem dX9_halves_5 : decode cX9_halves 5 = .ok (.goto 4, 3) := by decide +kernel
theorem dX9_halves_8 : decode cX9_halves 8 = .ok (.iload_n 0, 1) := by decide +kernel
theorem dX9_halves_9 : decode cX9_halves 9 = .ok (.ireturn, 1) := by decide +kernel
theorem dX9_brought_0 : decode cX9_brought 0 = .ok (.aload_n 0, 1) := by decide +kernel
theorem dX9_brought_1 : decode cX9_brought 1 = .ok (.iload_n 1, 1) := by decide +kernel
theorem dX9_brought_2 : decode cX9_brought 2 = .ok (.iconst 2, 1) := by decide +kernel
theorem dX9_brought_3 : decode cX9_brought 3 = .ok (.invokevirtual 138, 3) := by decide +kernel
theorem dX9_brought_6 : decode cX9_brought 6 = .ok (.iload_n 2, 1) := by decide +kernel
theorem dX9_brought_7 : decode cX9_brought 7 = .ok (.if_icmp .ne 44, 3) := by decide +kernel
theorem dX9_brought_10 : decode cX9_brought 10 = .ok (.aload_n 0, 1) := by decide +kernel
theorem dX9_brought_11 : decode cX9_brought 11 = .ok (.iload_n 1, 1) := by decide +kernel
theorem dX9_brought_12 : decode cX9_brought 12 = .ok (.bipush 7, 2) := by decide +kernel
theorem dX9_brought_14 : decode cX9_brought 14 = .ok (.invokevirtual 138, 3) := by decide +kernel
theorem dX9_brought_17 : decode cX9_brought 17 = .ok (.iconst (-1), 1) := by decide +kernel
theorem dX9_brought_18 : decode cX9_brought 18 = .ok (.if_icmp .eq 33, 3) := by decide +kernel
theorem dX9_brought_21 : decode cX9_brought 21 = .ok (.aload_n 0, 1) := by decide +kernel
theorem dX9_brought_22 : decode cX9_brought 22 = .ok (.iload_n 1, 1) := by decide +kernel
theorem dX9_brought_23 : decode cX9_brought 23 = .ok (.bipush 7, 2) := by decide +kernel
theorem dX9_brought_25 : decode cX9_brought 25 = .ok (.invokevirtual 138, 3) := by decide +kernel
theorem dX9_brought_28 : decode cX9_brought 28 = .ok (.iload_n 3, 1) := by decide +kernel
theorem dX9_brought_29 : decode cX9_brought 29 = .ok (.if_icmp .gt 22, 3) := by decide +kernel
theorem dX9_brought_32 : decode cX9_brought 32 = .ok (.aload_n 0, 1) := by decide +kernel
theorem dX9_brought_33 : decode cX9_brought 33 = .ok (.iload_n 1, 1) := by decide +kernel
theorem dX9_brought_34 : decode cX9_brought 34 = .ok (.iconst 4, 1) := by decide +kernel
theorem dX9_brought_35 : decode cX9_brought 35 = .ok (.invokevirtual 138, 3) := by decide +kernel
theorem dX9_brought_38 : decode cX9_brought 38 = .ok (.iload 4, 2) := by decide +kernel
theorem dX9_brought_40 : decode cX9_brought 40 = .ok (.ifCond .eq 7, 3) := by decide +kernel
theorem dX9_brought_43 : decode cX9_brought 43 = .ok (.iconst 4, 1) := by decide +kernel
theorem dX9_brought_44 : decode cX9_brought 44 = .ok (.goto 4, 3) := by decide +kernel
theorem dX9_brought_47 : decode cX9_brought 47 = .ok (.iconst 2, 1) := by decide +kernel
theorem dX9_brought_48 : decode cX9_brought 48 = .ok (.if_icmp .eq 5, 3) := by decide +kernel
theorem dX9_brought_51 : decode cX9_brought 51 = .ok (.iconst 0, 1) := by decide +kernel
theorem dX9_brought_52 : decode cX9_brought 52 = .ok (.ireturn, 1) := by decide +kernel
theorem dX9_brought_53 : decode cX9_brought 53 = .ok (.iload 4, 2) := by decide +kernel
theorem dX9_brought_55 : decode cX9_brought 55 = .ok (.ifCond .ne 11, 3) := by decide +kernel
theorem dX9_brought_58 : decode cX9_brought 58 = .ok (.aload_n 0, 1) := by decide +kernel
theorem dX9_brought_59 : decode cX9_brought 59 = .ok (.iload_n 1, 1) := by decide +kernel
theorem dX9_brought_60 : decode cX9_brought 60 = .ok (.invokevirtual 399, 3) := by decide +kernel
theorem dX9_brought_63 : decode cX9_brought 63 = .ok (.ifCond .eq 15, 3) := by decide +kernel
theorem dX9_brought_66 : decode cX9_brought 66 = .ok (.aload_n 0, 1) := by decide +kernel
theorem dX9_brought_67 : decode cX9_brought 67 = .ok (.iload_n 1, 1) := by decide +kernel
theorem dX9_brought_68 : decode cX9_brought 68 = .ok (.iconst 3, 1) := by decide +kernel
theorem dX9_brought_69 : decode cX9_brought 69 = .ok (.invokevirtual 138, 3) := by decide +kernel
theorem dX9_brought_72 : decode cX9_brought 72 = .ok (.invokestatic 402, 3) := by decide +kernel
theorem dX9_brought_75 : decode cX9_brought 75 = .ok (.goto 4, 3) := by decide +kernel
theorem dX9_brought_78 : decode cX9_brought 78 = .ok (.iconst 0, 1) := by decide +kernel
theorem dX9_brought_79 : decode cX9_brought 79 = .ok (.ireturn, 1) := by decide +kernel
theorem dX9_knownBy_0 : decode cX9_knownBy 0 = .ok (.iconst 0, 1) := by decide +kernel
theorem dX9_knownBy_1 : decode cX9_knownBy 1 = .ok (.istore 4, 2) := by decide +kernel
theorem dX9_knownBy_3 : decode cX9_knownBy 3 = .ok (.iconst 0, 1) := by decide +kernel
theorem dX9_knownBy_4 : decode cX9_knownBy 4 = .ok (.istore 5, 2) := by decide +kernel
theorem dX9_knownBy_6 : decode cX9_knownBy 6 = .ok (.iload 5, 2) := by decide +kernel
theorem dX9_knownBy_8 : decode cX9_knownBy 8 = .ok (.aload_n 0, 1) := by decide +kernel
theorem dX9_knownBy_9 : decode cX9_knownBy 9 = .ok (.getfield 7, 3) := by decide +kernel
theorem dX9_knownBy_12 : decode cX9_knownBy 12 = .ok (.iconst 1, 1) := by decide +kernel
theorem dX9_knownBy_13 : decode cX9_knownBy 13 = .ok (.iaload, 1) := by decide +kernel
theorem dX9_knownBy_14 : decode cX9_knownBy 14 = .ok (.if_icmp .ge 23, 3) := by decide +kernel
theorem dX9_knownBy_17 : decode cX9_knownBy 17 = .ok (.iload 4, 2) := by decide +kernel
theorem dX9_knownBy_19 : decode cX9_knownBy 19 = .ok (.aload_n 0, 1) := by decide +kernel
theorem dX9_knownBy_20 : decode cX9_knownBy 20 = .ok (.iload 5, 2) := by decide +kernel
theorem dX9_knownBy_22 : decode cX9_knownBy 22 = .ok (.iload_n 1, 1) := by decide +kernel
theorem dX9_knownBy_23 : decode cX9_knownBy 23 = .ok (.iload_n 2, 1) := by decide +kernel
theorem dX9_knownBy_24 : decode cX9_knownBy 24 = .ok (.iload_n 3, 1) := by decide +kernel
theorem dX9_knownBy_25 : decode cX9_knownBy 25 = .ok (.invokevirtual 405, 3) := by decide +kernel
theorem dX9_knownBy_28 : decode cX9_knownBy 28 = .ok (.ior, 1) := by decide +kernel
theorem dX9_knownBy_29 : decode cX9_knownBy 29 = .ok (.istore 4, 2) := by decide +kernel
theorem dX9_knownBy_31 : decode cX9_knownBy 31 = .ok (.iinc 5 1, 3) := by decide +kernel
theorem dX9_knownBy_34 : decode cX9_knownBy 34 = .ok (.goto (-28), 3) := by decide +kernel
theorem dX9_knownBy_37 : decode cX9_knownBy 37 = .ok (.iload 4, 2) := by decide +kernel
theorem dX9_knownBy_39 : decode cX9_knownBy 39 = .ok (.ireturn, 1) := by decide +kernel
theorem dX9_isLetterNumber_0 : decode cX9_isLetterNumber 0 = .ok (.iload_n 0, 1) := by decide +kernel
theorem dX9_isLetterNumber_1 : decode cX9_isLetterNumber 1 = .ok (.iconst 0, 1) := by decide +kernel
theorem dX9_isLetterNumber_2 : decode cX9_isLetterNumber 2 = .ok (.iconst 5, 1) := by decide +kernel
theorem dX9_isLetterNumber_3 : decode cX9_isLetterNumber 3 = .ok (.invokestatic 126, 3) := by decide +kernel
theorem dX9_isLetterNumber_6 : decode cX9_isLetterNumber 6 = .ok (.ireturn, 1) := by decide +kernel
theorem dX9_known_0 : decode cX9_known 0 = .ok (.iload_n 1, 1) := by decide +kernel
theorem dX9_known_1 : decode cX9_known 1 = .ok (.invokestatic 409, 3) := by decide +kernel
theorem dX9_known_4 : decode cX9_known 4 = .ok (.ifCond .eq 14, 3) := by decide +kernel
theorem dX9_known_7 : decode cX9_known 7 = .ok (.iload_n 2, 1) := by decide +kernel
theorem dX9_known_8 : decode cX9_known 8 = .ok (.iconst 0, 1) := by decide +kernel
theorem dX9_known_9 : decode cX9_known 9 = .ok (.sipush 999, 3) := by decide +kernel
theorem dX9_known_12 : decode cX9_known 12 = .ok (.invokestatic 126, 3) := by decide +kernel
theorem dX9_known_15 : decode cX9_known 15 = .ok (.ifCond .ne 5, 3) := by decide +kernel
theorem dX9_known_18 : decode cX9_known 18 = .ok (.iconst (-1), 1) := by decide +kernel
theorem dX9_known_19 : decode cX9_known 19 = .ok (.ireturn, 1) := by decide +kernel
theorem dX9_known_20 : decode cX9_known 20 = .ok (.aload_n 0, 1) := by decide +kernel
theorem dX9_known_21 : decode cX9_known 21 = .ok (.iload_n 1, 1) := by decide +kernel
theorem dX9_known_22 : decode cX9_known 22 = .ok (.iload_n 2, 1) := by decide +kernel
theorem dX9_known_23 : decode cX9_known 23 = .ok (.iconst 0, 1) := by decide +kernel
theorem dX9_known_24 : decode cX9_known 24 = .ok (.invokevirtual 412, 3) := by decide +kernel
theorem dX9_known_27 : decode cX9_known 27 = .ok (.iconst 3, 1) := by decide +kernel
theorem dX9_known_28 : decode cX9_known 28 = .ok (.if_icmp .ne 7, 3) := by decide +kernel
theorem dX9_known_31 : decode cX9_known 31 = .ok (.iconst 1, 1) := by decide +kernel
theorem dX9_known_32 : decode cX9_known 32 = .ok (.goto 4, 3) := by decide +kernel
theorem dX9_known_35 : decode cX9_known 35 = .ok (.iconst 0, 1) := by decide +kernel
theorem dX9_known_36 : decode cX9_known 36 = .ok (.aload_n 0, 1) := by decide +kernel
theorem dX9_known_37 : decode cX9_known 37 = .ok (.iload_n 1, 1) := by decide +kernel
theorem dX9_known_38 : decode cX9_known 38 = .ok (.iload_n 2, 1) := by decide +kernel
theorem dX9_known_39 : decode cX9_known 39 = .ok (.iconst 1, 1) := by decide +kernel
theorem dX9_known_40 : decode cX9_known 40 = .ok (.invokevirtual 412, 3) := by decide +kernel
theorem dX9_known_43 : decode cX9_known 43 = .ok (.iconst 3, 1) := by decide +kernel
theorem dX9_known_44 : decode cX9_known 44 = .ok (.if_icmp .ne 7, 3) := by decide +kernel
theorem dX9_known_47 : decode cX9_known 47 = .ok (.iconst 2, 1) := by decide +kernel
theorem dX9_known_48 : decode cX9_known 48 = .ok (.goto 4, 3) := by decide +kernel
theorem dX9_known_51 : decode cX9_known 51 = .ok (.iconst 0, 1) := by decide +kernel
theorem dX9_known_52 : decode cX9_known 52 = .ok (.iadd, 1) := by decide +kernel
theorem dX9_known_53 : decode cX9_known 53 = .ok (.ireturn, 1) := by decide +kernel
theorem dX9_led_0 : decode cX9_led 0 = .ok (.iload_n 1, 1) := by decide +kernel
theorem dX9_led_1 : decode cX9_led 1 = .ok (.invokestatic 409, 3) := by decide +kernel
theorem dX9_led_4 : decode cX9_led 4 = .ok (.ifCond .ne 5, 3) := by decide +kernel
theorem dX9_led_7 : decode cX9_led 7 = .ok (.iconst (-1), 1) := by decide +kernel
theorem dX9_led_8 : decode cX9_led 8 = .ok (.ireturn, 1) := by decide +kernel
theorem dX9_led_9 : decode cX9_led 9 = .ok (.iconst 0, 1) := by decide +kernel
theorem dX9_led_10 : decode cX9_led 10 = .ok (.istore_n 3, 1) := by decide +kernel
theorem dX9_led_11 : decode cX9_led 11 = .ok (.iconst 0, 1) := by decide +kernel
theorem dX9_led_12 : decode cX9_led 12 = .ok (.istore 4, 2) := by decide +kernel
theorem dX9_led_14 : decode cX9_led 14 = .ok (.iload 4, 2) := by decide +kernel
theorem dX9_led_16 : decode cX9_led 16 = .ok (.sipush 1000, 3) := by decide +kernel
theorem dX9_led_19 : decode cX9_led 19 = .ok (.if_icmp .ge 63, 3) := by decide +kernel
theorem dX9_led_22 : decode cX9_led 22 = .ok (.iconst 0, 1) := by decide +kernel
theorem dX9_led_23 : decode cX9_led 23 = .ok (.istore 5, 2) := by decide +kernel
theorem dX9_led_25 : decode cX9_led 25 = .ok (.iload 5, 2) := by decide +kernel
theorem dX9_led_27 : decode cX9_led 27 = .ok (.aload_n 0, 1) := by decide +kernel
theorem dX9_led_28 : decode cX9_led 28 = .ok (.getfield 7, 3) := by decide +kernel
theorem dX9_led_31 : decode cX9_led 31 = .ok (.iconst 1, 1) := by decide +kernel
theorem dX9_led_32 : decode cX9_led 32 = .ok (.iaload, 1) := by decide +kernel
theorem dX9_led_33 : decode cX9_led 33 = .ok (.if_icmp .ge 43, 3) := by decide +kernel
theorem dX9_led_36 : decode cX9_led 36 = .ok (.aload_n 0, 1) := by decide +kernel
theorem dX9_led_37 : decode cX9_led 37 = .ok (.iload 5, 2) := by decide +kernel
theorem dX9_led_39 : decode cX9_led 39 = .ok (.bipush 7, 2) := by decide +kernel
theorem dX9_led_41 : decode cX9_led 41 = .ok (.invokevirtual 138, 3) := by decide +kernel
theorem dX9_led_44 : decode cX9_led 44 = .ok (.iload 4, 2) := by decide +kernel
theorem dX9_led_46 : decode cX9_led 46 = .ok (.if_icmp .ne 24, 3) := by decide +kernel
theorem dX9_led_49 : decode cX9_led 49 = .ok (.iload_n 3, 1) := by decide +kernel
theorem dX9_led_50 : decode cX9_led 50 = .ok (.aload_n 0, 1) := by decide +kernel
theorem dX9_led_51 : decode cX9_led 51 = .ok (.iload 5, 2) := by decide +kernel
theorem dX9_led_53 : decode cX9_led 53 = .ok (.iload_n 1, 1) := by decide +kernel
theorem dX9_led_54 : decode cX9_led 54 = .ok (.iload 4, 2) := by decide +kernel
theorem dX9_led_56 : decode cX9_led 56 = .ok (.iload_n 2, 1) := by decide +kernel
theorem dX9_led_57 : decode cX9_led 57 = .ok (.invokevirtual 405, 3) := by decide +kernel
theorem dX9_led_60 : decode cX9_led 60 = .ok (.ior, 1) := by decide +kernel
theorem dX9_led_61 : decode cX9_led 61 = .ok (.istore_n 3, 1) := by decide +kernel
theorem dX9_led_62 : decode cX9_led 62 = .ok (.iload_n 3, 1) := by decide +kernel
theorem dX9_led_63 : decode cX9_led 63 = .ok (.iconst 3, 1) := by decide +kernel
theorem dX9_led_64 : decode cX9_led 64 = .ok (.if_icmp .ne 6, 3) := by decide +kernel
theorem dX9_led_67 : decode cX9_led 67 = .ok (.iload 5, 2) := by decide +kernel
theorem dX9_led_69 : decode cX9_led 69 = .ok (.ireturn, 1) := by decide +kernel
theorem dX9_led_70 : decode cX9_led 70 = .ok (.iinc 5 1, 3) := by decide +kernel
theorem dX9_led_73 : decode cX9_led 73 = .ok (.goto (-48), 3) := by decide +kernel
theorem dX9_led_76 : decode cX9_led 76 = .ok (.iinc 4 1, 3) := by decide +kernel
theorem dX9_led_79 : decode cX9_led 79 = .ok (.goto (-65), 3) := by decide +kernel
theorem dX9_led_82 : decode cX9_led 82 = .ok (.iconst (-1), 1) := by decide +kernel
theorem dX9_led_83 : decode cX9_led 83 = .ok (.ireturn, 1) := by decide +kernel
theorem dX9_answer_0 : decode cX9_answer 0 = .ok (.aload_n 0, 1) := by decide +kernel
theorem dX9_answer_1 : decode cX9_answer 1 = .ok (.iload_n 1, 1) := by decide +kernel
theorem dX9_answer_2 : decode cX9_answer 2 = .ok (.iconst 0, 1) := by decide +kernel
theorem dX9_answer_3 : decode cX9_answer 3 = .ok (.invokevirtual 416, 3) := by decide +kernel
theorem dX9_answer_6 : decode cX9_answer 6 = .ok (.istore_n 2, 1) := by decide +kernel
theorem dX9_answer_7 : decode cX9_answer 7 = .ok (.iload_n 2, 1) := by decide +kernel
theorem dX9_answer_8 : decode cX9_answer 8 = .ok (.iconst (-1), 1) := by decide +kernel
theorem dX9_answer_9 : decode cX9_answer 9 = .ok (.if_icmp .ne 7, 3) := by decide +kernel
theorem dX9_answer_12 : decode cX9_answer 12 = .ok (.iconst (-1), 1) := by decide +kernel
theorem dX9_answer_13 : decode cX9_answer 13 = .ok (.goto 27, 3) := by decide +kernel
theorem dX9_answer_16 : decode cX9_answer 16 = .ok (.aload_n 0, 1) := by decide +kernel
theorem dX9_answer_17 : decode cX9_answer 17 = .ok (.iload_n 2, 1) := by decide +kernel
theorem dX9_answer_18 : decode cX9_answer 18 = .ok (.bipush 7, 2) := by decide +kernel
theorem dX9_answer_20 : decode cX9_answer 20 = .ok (.invokevirtual 138, 3) := by decide +kernel
theorem dX9_answer_23 : decode cX9_answer 23 = .ok (.aload_n 0, 1) := by decide +kernel
theorem dX9_answer_24 : decode cX9_answer 24 = .ok (.getfield 7, 3) := by decide +kernel
theorem dX9_answer_27 : decode cX9_answer 27 = .ok (.bipush 10, 2) := by decide +kernel
theorem dX9_answer_29 : decode cX9_answer 29 = .ok (.iconst 3, 1) := by decide +kernel
theorem dX9_answer_30 : decode cX9_answer 30 = .ok (.aload_n 0, 1) := by decide +kernel
theorem dX9_answer_31 : decode cX9_answer 31 = .ok (.iload_n 2, 1) := by decide +kernel
theorem dX9_answer_32 : decode cX9_answer 32 = .ok (.iconst 5, 1) := by decide +kernel
theorem dX9_answer_33 : decode cX9_answer 33 = .ok (.invokevirtual 138, 3) := by decide +kernel
theorem dX9_answer_36 : decode cX9_answer 36 = .ok (.imul, 1) := by decide +kernel
theorem dX9_answer_37 : decode cX9_answer 37 = .ok (.iadd, 1) := by decide +kernel
theorem dX9_answer_38 : decode cX9_answer 38 = .ok (.iaload, 1) := by decide +kernel
theorem dX9_answer_39 : decode cX9_answer 39 = .ok (.iadd, 1) := by decide +kernel
theorem dX9_answer_40 : decode cX9_answer 40 = .ok (.ireturn, 1) := by decide +kernel
theorem dX9_plucks_0 : decode cX9_plucks 0 = .ok (.aload_n 0, 1) := by decide +kernel
theorem dX9_plucks_1 : decode cX9_plucks 1 = .ok (.iload_n 1, 1) := by decide +kernel
theorem dX9_plucks_2 : decode cX9_plucks 2 = .ok (.invokevirtual 134, 3) := by decide +kernel
theorem dX9_plucks_5 : decode cX9_plucks 5 = .ok (.ifCond .ne 5, 3) := by decide +kernel
theorem dX9_plucks_8 : decode cX9_plucks 8 = .ok (.iconst (-1), 1) := by decide +kernel
theorem dX9_plucks_9 : decode cX9_plucks 9 = .ok (.ireturn, 1) := by decide +kernel
theorem dX9_plucks_10 : decode cX9_plucks 10 = .ok (.iconst 0, 1) := by decide +kernel
theorem dX9_plucks_11 : decode cX9_plucks 11 = .ok (.istore_n 2, 1) := by decide +kernel
theorem dX9_plucks_12 : decode cX9_plucks 12 = .ok (.iload_n 2, 1) := by decide +kernel
theorem dX9_plucks_13 : decode cX9_plucks 13 = .ok (.aload_n 0, 1) := by decide +kernel
theorem dX9_plucks_14 : decode cX9_plucks 14 = .ok (.iload_n 1, 1) := by decide +kernel
theorem dX9_plucks_15 : decode cX9_plucks 15 = .ok (.iconst 1, 1) := by decide +kernel
theorem dX9_plucks_16 : decode cX9_plucks 16 = .ok (.invokevirtual 138, 3) := by decide +kernel
theorem dX9_plucks_19 : decode cX9_plucks 19 = .ok (.if_icmp .gt 39, 3) := by decide +kernel
theorem dX9_plucks_22 : decode cX9_plucks 22 = .ok (.aload_n 0, 1) := by decide +kernel
theorem dX9_plucks_23 : decode cX9_plucks 23 = .ok (.iload_n 1, 1) := by decide +kernel
theorem dX9_plucks_24 : decode cX9_plucks 24 = .ok (.aload_n 0, 1) := by decide +kernel
theorem dX9_plucks_25 : decode cX9_plucks 25 = .ok (.iload_n 1, 1) := by decide +kernel
theorem dX9_plucks_26 : decode cX9_plucks 26 = .ok (.iconst 2, 1) := by decide +kernel
theorem dX9_plucks_27 : decode cX9_plucks 27 = .ok (.invokevirtual 138, 3) := by decide +kernel
theorem dX9_plucks_30 : decode cX9_plucks 30 = .ok (.aload_n 0, 1) := by decide +kernel
theorem dX9_plucks_31 : decode cX9_plucks 31 = .ok (.iload_n 1, 1) := by decide +kernel
theorem dX9_plucks_32 : decode cX9_plucks 32 = .ok (.iconst 3, 1) := by decide +kernel
theorem dX9_plucks_33 : decode cX9_plucks 33 = .ok (.invokevirtual 138, 3) := by decide +kernel
theorem dX9_plucks_36 : decode cX9_plucks 36 = .ok (.aload_n 0, 1) := by decide +kernel
theorem dX9_plucks_37 : decode cX9_plucks 37 = .ok (.iload_n 1, 1) := by decide +kernel
theorem dX9_plucks_38 : decode cX9_plucks 38 = .ok (.iconst 1, 1) := by decide +kernel
theorem dX9_plucks_39 : decode cX9_plucks 39 = .ok (.invokevirtual 138, 3) := by decide +kernel
theorem dX9_plucks_42 : decode cX9_plucks 42 = .ok (.iload_n 2, 1) := by decide +kernel
theorem dX9_plucks_43 : decode cX9_plucks 43 = .ok (.isub, 1) := by decide +kernel
theorem dX9_plucks_44 : decode cX9_plucks 44 = .ok (.invokevirtual 368, 3) := by decide +kernel
theorem dX9_plucks_47 : decode cX9_plucks 47 = .ok (.ifCond .eq 5, 3) := by decide +kernel
theorem dX9_plucks_50 : decode cX9_plucks 50 = .ok (.iload_n 2, 1) := by decide +kernel
theorem dX9_plucks_51 : decode cX9_plucks 51 = .ok (.ireturn, 1) := by decide +kernel
theorem dX9_plucks_52 : decode cX9_plucks 52 = .ok (.iinc 2 1, 3) := by decide +kernel
theorem dX9_plucks_55 : decode cX9_plucks 55 = .ok (.goto (-43), 3) := by decide +kernel
theorem dX9_plucks_58 : decode cX9_plucks 58 = .ok (.iconst (-1), 1) := by decide +kernel
theorem dX9_plucks_59 : decode cX9_plucks 59 = .ok (.ireturn, 1) := by decide +kernel
theorem dX9_startsMany_0 : decode cX9_startsMany 0 = .ok (.iconst 0, 1) := by decide +kernel
theorem dX9_startsMany_1 : decode cX9_startsMany 1 = .ok (.istore_n 3, 1) := by decide +kernel
theorem dX9_startsMany_2 : decode cX9_startsMany 2 = .ok (.iload_n 3, 1) := by decide +kernel
theorem dX9_startsMany_3 : decode cX9_startsMany 3 = .ok (.bipush 16, 2) := by decide +kernel
theorem dX9_startsMany_5 : decode cX9_startsMany 5 = .ok (.if_icmp .ge 29, 3) := by decide +kernel
theorem dX9_startsMany_8 : decode cX9_startsMany 8 = .ok (.aload_n 0, 1) := by decide +kernel
theorem dX9_startsMany_9 : decode cX9_startsMany 9 = .ok (.getfield 91, 3) := by decide +kernel
theorem dX9_startsMany_12 : decode cX9_startsMany 12 = .ok (.iload_n 3, 1) := by decide +kernel
theorem dX9_startsMany_13 : decode cX9_startsMany 13 = .ok (.iload_n 3, 1) := by decide +kernel
theorem dX9_startsMany_14 : decode cX9_startsMany 14 = .ok (.iload_n 1, 1) := by decide +kernel
theorem dX9_startsMany_15 : decode cX9_startsMany 15 = .ok (.iconst 4, 1) := by decide +kernel
theorem dX9_startsMany_16 : decode cX9_startsMany 16 = .ok (.iload_n 2, 1) := by decide +kernel
theorem dX9_startsMany_17 : decode cX9_startsMany 17 = .ok (.imul, 1) := by decide +kernel
theorem dX9_startsMany_18 : decode cX9_startsMany 18 = .ok (.iadd, 1) := by decide +kernel
theorem dX9_startsMany_19 : decode cX9_startsMany 19 = .ok (.if_icmp .ne 7, 3) := by decide +kernel
theorem dX9_startsMany_22 : decode cX9_startsMany 22 = .ok (.lconst 1, 1) := by decide +kernel
theorem dX9_startsMany_23 : decode cX9_startsMany 23 = .ok (.goto 4, 3) := by decide +kernel
theorem dX9_startsMany_26 : decode cX9_startsMany 26 = .ok (.lconst 0, 1) := by decide +kernel
theorem dX9_startsMany_27 : decode cX9_startsMany 27 = .ok (.lastore, 1) := by decide +kernel
theorem dX9_startsMany_28 : decode cX9_startsMany 28 = .ok (.iinc 3 1, 3) := by decide +kernel
theorem dX9_startsMany_31 : decode cX9_startsMany 31 = .ok (.goto (-29), 3) := by decide +kernel
theorem dX9_startsMany_34 : decode cX9_startsMany 34 = .ok (.return_, 1) := by decide +kernel
theorem dX9_comesMany_0 : decode cX9_comesMany 0 = .ok (.iconst 0, 1) := by decide +kernel
theorem dX9_comesMany_1 : decode cX9_comesMany 1 = .ok (.istore 5, 2) := by decide +kernel
theorem dX9_comesMany_3 : decode cX9_comesMany 3 = .ok (.iload 5, 2) := by decide +kernel
theorem dX9_comesMany_5 : decode cX9_comesMany 5 = .ok (.bipush 16, 2) := by decide +kernel
theorem dX9_comesMany_7 : decode cX9_comesMany 7 = .ok (.if_icmp .ge 17, 3) := by decide +kernel
theorem dX9_comesMany_10 : decode cX9_comesMany 10 = .ok (.aload_n 0, 1) := by decide +kernel
theorem dX9_comesMany_11 : decode cX9_comesMany 11 = .ok (.getfield 94, 3) := by decide +kernel
theorem dX9_comesMany_14 : decode cX9_comesMany 14 = .ok (.iload 5, 2) := by decide +kernel
theorem dX9_comesMany_16 : decode cX9_comesMany 16 = .ok (.lconst 0, 1) := by decide +kernel
theorem dX9_comesMany_17 : decode cX9_comesMany 17 = .ok (.lastore, 1) := by decide +kernel
theorem dX9_comesMany_18 : decode cX9_comesMany 18 = .ok (.iinc 5 1, 3) := by decide +kernel
theorem dX9_comesMany_21 : decode cX9_comesMany 21 = .ok (.goto (-18), 3) := by decide +kernel
theorem dX9_comesMany_24 : decode cX9_comesMany 24 = .ok (.iconst 0, 1) := by decide +kernel
theorem dX9_comesMany_25 : decode cX9_comesMany 25 = .ok (.istore 5, 2) := by decide +kernel
theorem dX9_comesMany_27 : decode cX9_comesMany 27 = .ok (.iload 5, 2) := by decide +kernel
theorem dX9_comesMany_29 : decode cX9_comesMany 29 = .ok (.bipush 16, 2) := by decide +kernel
theorem dX9_comesMany_31 : decode cX9_comesMany 31 = .ok (.if_icmp .ge 130, 3) := by decide +kernel
theorem dX9_comesMany_34 : decode cX9_comesMany 34 = .ok (.iload 5, 2) := by decide +kernel
theorem dX9_comesMany_36 : decode cX9_comesMany 36 = .ok (.iconst 4, 1) := by decide +kernel
theorem dX9_comesMany_37 : decode cX9_comesMany 37 = .ok (.irem, 1) := by decide +kernel
theorem dX9_comesMany_38 : decode cX9_comesMany 38 = .ok (.iload 4, 2) := by decide +kernel
theorem dX9_comesMany_40 : decode cX9_comesMany 40 = .ok (.ifCond .eq 10, 3) := by decide +kernel
theorem dX9_comesMany_43 : decode cX9_comesMany 43 = .ok (.iload_n 3, 1) := by decide +kernel
theorem dX9_comesMany_44 : decode cX9_comesMany 44 = .ok (.invokestatic 402, 3) := by decide +kernel
theorem dX9_comesMany_47 : decode cX9_comesMany 47 = .ok (.goto 4, 3) := by decide +kernel
theorem dX9_comesMany_50 : decode cX9_comesMany 50 = .ok (.iconst 0, 1) := by decide +kernel
theorem dX9_comesMany_51 : decode cX9_comesMany 51 = .ok (.ior, 1) := by decide +kernel
theorem dX9_comesMany_52 : decode cX9_comesMany 52 = .ok (.istore 6, 2) := by decide +kernel
theorem dX9_comesMany_54 : decode cX9_comesMany 54 = .ok (.iload 5, 2) := by decide +kernel
theorem dX9_comesMany_56 : decode cX9_comesMany 56 = .ok (.iconst 4, 1) := by decide +kernel
theorem dX9_comesMany_57 : decode cX9_comesMany 57 = .ok (.idiv, 1) := by decide +kernel
theorem dX9_comesMany_58 : decode cX9_comesMany 58 = .ok (.iload_n 3, 1) := by decide +kernel
theorem dX9_comesMany_59 : decode cX9_comesMany 59 = .ok (.invokestatic 402, 3) := by decide +kernel
theorem dX9_comesMany_62 : decode cX9_comesMany 62 = .ok (.ior, 1) := by decide +kernel
theorem dX9_comesMany_63 : decode cX9_comesMany 63 = .ok (.istore 7, 2) := by decide +kernel
theorem dX9_comesMany_65 : decode cX9_comesMany 65 = .ok (.aload_n 0, 1) := by decide +kernel
theorem dX9_comesMany_66 : decode cX9_comesMany 66 = .ok (.getfield 94, 3) := by decide +kernel
theorem dX9_comesMany_69 : decode cX9_comesMany 69 = .ok (.iload 5, 2) := by decide +kernel
theorem dX9_comesMany_71 : decode cX9_comesMany 71 = .ok (.iconst 4, 1) := by decide +kernel
theorem dX9_comesMany_72 : decode cX9_comesMany 72 = .ok (.idiv, 1) := by decide +kernel
theorem dX9_comesMany_73 : decode cX9_comesMany 73 = .ok (.iconst 4, 1) := by decide +kernel
theorem dX9_comesMany_74 : decode cX9_comesMany 74 = .ok (.imul, 1) := by decide +kernel
theorem dX9_comesMany_75 : decode cX9_comesMany 75 = .ok (.iload 6, 2) := by decide +kernel
theorem dX9_comesMany_77 : decode cX9_comesMany 77 = .ok (.iadd, 1) := by decide +kernel
theorem dX9_comesMany_78 : decode cX9_comesMany 78 = .ok (.dup2, 1) := by decide +kernel
theorem dX9_comesMany_79 : decode cX9_comesMany 79 = .ok (.laload, 1) := by decide +kernel
theorem dX9_comesMany_80 : decode cX9_comesMany 80 = .ok (.aload_n 0, 1) := by decide +kernel
theorem dX9_comesMany_81 : decode cX9_comesMany 81 = .ok (.getfield 91, 3) := by decide +kernel
theorem dX9_comesMany_84 : decode cX9_comesMany 84 = .ok (.iload 5, 2) := by decide +kernel
theorem dX9_comesMany_86 : decode cX9_comesMany 86 = .ok (.laload, 1) := by decide +kernel
theorem dX9_comesMany_87 : decode cX9_comesMany 87 = .ok (.bipush 10, 2) := by decide +kernel
theorem dX9_comesMany_89 : decode cX9_comesMany 89 = .ok (.iload_n 1, 1) := by decide +kernel
theorem dX9_comesMany_90 : decode cX9_comesMany 90 = .ok (.isub, 1) := by decide +kernel
theorem dX9_comesMany_91 : decode cX9_comesMany 91 = .ok (.i2l, 1) := by decide +kernel
theorem dX9_comesMany_92 : decode cX9_comesMany 92 = .ok (.lmul, 1) := by decide +kernel
theorem dX9_comesMany_93 : decode cX9_comesMany 93 = .ok (.ldc2_w 420, 3) := by decide +kernel
theorem dX9_comesMany_96 : decode cX9_comesMany 96 = .ok (.lmul, 1) := by decide +kernel
theorem dX9_comesMany_97 : decode cX9_comesMany 97 = .ok (.ladd, 1) := by decide +kernel
theorem dX9_comesMany_98 : decode cX9_comesMany 98 = .ok (.lastore, 1) := by decide +kernel
theorem dX9_comesMany_99 : decode cX9_comesMany 99 = .ok (.aload_n 0, 1) := by decide +kernel
theorem dX9_comesMany_100 : decode cX9_comesMany 100 = .ok (.getfield 94, 3) := by decide +kernel
theorem dX9_comesMany_103 : decode cX9_comesMany 103 = .ok (.iload 5, 2) := by decide +kernel
theorem dX9_comesMany_105 : decode cX9_comesMany 105 = .ok (.dup2, 1) := by decide +kernel
theorem dX9_comesMany_106 : decode cX9_comesMany 106 = .ok (.laload, 1) := by decide +kernel
theorem dX9_comesMany_107 : decode cX9_comesMany 107 = .ok (.aload_n 0, 1) := by decide +kernel
theorem dX9_comesMany_108 : decode cX9_comesMany 108 = .ok (.getfield 91, 3) := by decide +kernel
theorem dX9_comesMany_111 : decode cX9_comesMany 111 = .ok (.iload 5, 2) := by decide +kernel
theorem dX9_comesMany_113 : decode cX9_comesMany 113 = .ok (.laload, 1) := by decide +kernel
theorem dX9_comesMany_114 : decode cX9_comesMany 114 = .ok (.iload_n 1, 1) := by decide +kernel
theorem dX9_comesMany_115 : decode cX9_comesMany 115 = .ok (.i2l, 1) := by decide +kernel
theorem dX9_comesMany_116 : decode cX9_comesMany 116 = .ok (.lmul, 1) := by decide +kernel
theorem dX9_comesMany_117 : decode cX9_comesMany 117 = .ok (.bipush 10, 2) := by decide +kernel
theorem dX9_comesMany_119 : decode cX9_comesMany 119 = .ok (.iload_n 2, 1) := by decide +kernel
theorem dX9_comesMany_120 : decode cX9_comesMany 120 = .ok (.isub, 1) := by decide +kernel
theorem dX9_comesMany_121 : decode cX9_comesMany 121 = .ok (.i2l, 1) := by decide +kernel
theorem dX9_comesMany_122 : decode cX9_comesMany 122 = .ok (.lmul, 1) := by decide +kernel
theorem dX9_comesMany_123 : decode cX9_comesMany 123 = .ok (.ladd, 1) := by decide +kernel
theorem dX9_comesMany_124 : decode cX9_comesMany 124 = .ok (.lastore, 1) := by decide +kernel
theorem dX9_comesMany_125 : decode cX9_comesMany 125 = .ok (.aload_n 0, 1) := by decide +kernel
theorem dX9_comesMany_126 : decode cX9_comesMany 126 = .ok (.getfield 94, 3) := by decide +kernel
theorem dX9_comesMany_129 : decode cX9_comesMany 129 = .ok (.iconst 4, 1) := by decide +kernel
theorem dX9_comesMany_130 : decode cX9_comesMany 130 = .ok (.iload 7, 2) := by decide +kernel
theorem dX9_comesMany_132 : decode cX9_comesMany 132 = .ok (.imul, 1) := by decide +kernel
theorem dX9_comesMany_133 : decode cX9_comesMany 133 = .ok (.iload 5, 2) := by decide +kernel
theorem dX9_comesMany_135 : decode cX9_comesMany 135 = .ok (.iconst 4, 1) := by decide +kernel
theorem dX9_comesMany_136 : decode cX9_comesMany 136 = .ok (.irem, 1) := by decide +kernel
theorem dX9_comesMany_137 : decode cX9_comesMany 137 = .ok (.iadd, 1) := by decide +kernel
theorem dX9_comesMany_138 : decode cX9_comesMany 138 = .ok (.dup2, 1) := by decide +kernel
theorem dX9_comesMany_139 : decode cX9_comesMany 139 = .ok (.laload, 1) := by decide +kernel
theorem dX9_comesMany_140 : decode cX9_comesMany 140 = .ok (.aload_n 0, 1) := by decide +kernel
theorem dX9_comesMany_141 : decode cX9_comesMany 141 = .ok (.getfield 91, 3) := by decide +kernel
theorem dX9_comesMany_144 : decode cX9_comesMany 144 = .ok (.iload 5, 2) := by decide +kernel
theorem dX9_comesMany_146 : decode cX9_comesMany 146 = .ok (.laload, 1) := by decide +kernel
theorem dX9_comesMany_147 : decode cX9_comesMany 147 = .ok (.iload_n 1, 1) := by decide +kernel
theorem dX9_comesMany_148 : decode cX9_comesMany 148 = .ok (.i2l, 1) := by decide +kernel
theorem dX9_comesMany_149 : decode cX9_comesMany 149 = .ok (.lmul, 1) := by decide +kernel
theorem dX9_comesMany_150 : decode cX9_comesMany 150 = .ok (.iload_n 2, 1) := by decide +kernel
theorem dX9_comesMany_151 : decode cX9_comesMany 151 = .ok (.i2l, 1) := by decide +kernel
theorem dX9_comesMany_152 : decode cX9_comesMany 152 = .ok (.lmul, 1) := by decide +kernel
theorem dX9_comesMany_153 : decode cX9_comesMany 153 = .ok (.ladd, 1) := by decide +kernel
theorem dX9_comesMany_154 : decode cX9_comesMany 154 = .ok (.lastore, 1) := by decide +kernel
theorem dX9_comesMany_155 : decode cX9_comesMany 155 = .ok (.iinc 5 1, 3) := by decide +kernel
theorem dX9_comesMany_158 : decode cX9_comesMany 158 = .ok (.goto (-131), 3) := by decide +kernel
theorem dX9_comesMany_161 : decode cX9_comesMany 161 = .ok (.iconst 0, 1) := by decide +kernel
theorem dX9_comesMany_162 : decode cX9_comesMany 162 = .ok (.istore 5, 2) := by decide +kernel
theorem dX9_comesMany_164 : decode cX9_comesMany 164 = .ok (.iload 5, 2) := by decide +kernel
theorem dX9_comesMany_166 : decode cX9_comesMany 166 = .ok (.bipush 16, 2) := by decide +kernel
theorem dX9_comesMany_168 : decode cX9_comesMany 168 = .ok (.if_icmp .ge 23, 3) := by decide +kernel
theorem dX9_comesMany_171 : decode cX9_comesMany 171 = .ok (.aload_n 0, 1) := by decide +kernel
theorem dX9_comesMany_172 : decode cX9_comesMany 172 = .ok (.getfield 91, 3) := by decide +kernel
theorem dX9_comesMany_175 : decode cX9_comesMany 175 = .ok (.iload 5, 2) := by decide +kernel
theorem dX9_comesMany_177 : decode cX9_comesMany 177 = .ok (.aload_n 0, 1) := by decide +kernel
theorem dX9_comesMany_178 : decode cX9_comesMany 178 = .ok (.getfield 94, 3) := by decide +kernel
theorem dX9_comesMany_181 : decode cX9_comesMany 181 = .ok (.iload 5, 2) := by decide +kernel
theorem dX9_comesMany_183 : decode cX9_comesMany 183 = .ok (.laload, 1) := by decide +kernel
theorem dX9_comesMany_184 : decode cX9_comesMany 184 = .ok (.lastore, 1) := by decide +kernel
theorem dX9_comesMany_185 : decode cX9_comesMany 185 = .ok (.iinc 5 1, 3) := by decide +kernel
theorem dX9_comesMany_188 : decode cX9_comesMany 188 = .ok (.goto (-24), 3) := by decide +kernel
theorem dX9_comesMany_191 : decode cX9_comesMany 191 = .ok (.return_, 1) := by decide +kernel
theorem dX9_manyOf_0 : decode cX9_manyOf 0 = .ok (.lconst 0, 1) := by decide +kernel
theorem dX9_manyOf_1 : decode cX9_manyOf 1 = .ok (.lstore_n 2, 1) := by decide +kernel
theorem dX9_manyOf_2 : decode cX9_manyOf 2 = .ok (.iconst 0, 1) := by decide +kernel
theorem dX9_manyOf_3 : decode cX9_manyOf 3 = .ok (.istore 4, 2) := by decide +kernel
theorem dX9_manyOf_5 : decode cX9_manyOf 5 = .ok (.iload 4, 2) := by decide +kernel
theorem dX9_manyOf_7 : decode cX9_manyOf 7 = .ok (.bipush 16, 2) := by decide +kernel
theorem dX9_manyOf_9 : decode cX9_manyOf 9 = .ok (.if_icmp .ge 88, 3) := by decide +kernel
theorem dX9_manyOf_12 : decode cX9_manyOf 12 = .ok (.iload 4, 2) := by decide +kernel
theorem dX9_manyOf_14 : decode cX9_manyOf 14 = .ok (.iconst 4, 1) := by decide +kernel
theorem dX9_manyOf_15 : decode cX9_manyOf 15 = .ok (.irem, 1) := by decide +kernel
theorem dX9_manyOf_16 : decode cX9_manyOf 16 = .ok (.iconst 3, 1) := by decide +kernel
theorem dX9_manyOf_17 : decode cX9_manyOf 17 = .ok (.if_icmp .ne 7, 3) := by decide +kernel
theorem dX9_manyOf_20 : decode cX9_manyOf 20 = .ok (.iconst 1, 1) := by decide +kernel
theorem dX9_manyOf_21 : decode cX9_manyOf 21 = .ok (.goto 4, 3) := by decide +kernel
theorem dX9_manyOf_24 : decode cX9_manyOf 24 = .ok (.iconst 0, 1) := by decide +kernel
theorem dX9_manyOf_25 : decode cX9_manyOf 25 = .ok (.istore 5, 2) := by decide +kernel
theorem dX9_manyOf_27 : decode cX9_manyOf 27 = .ok (.iload 4, 2) := by decide +kernel
theorem dX9_manyOf_29 : decode cX9_manyOf 29 = .ok (.iconst 4, 1) := by decide +kernel
theorem dX9_manyOf_30 : decode cX9_manyOf 30 = .ok (.idiv, 1) := by decide +kernel
theorem dX9_manyOf_31 : decode cX9_manyOf 31 = .ok (.iconst 3, 1) := by decide +kernel
theorem dX9_manyOf_32 : decode cX9_manyOf 32 = .ok (.if_icmp .ne 7, 3) := by decide +kernel
theorem dX9_manyOf_35 : decode cX9_manyOf 35 = .ok (.iconst 1, 1) := by decide +kernel
theorem dX9_manyOf_36 : decode cX9_manyOf 36 = .ok (.goto 4, 3) := by decide +kernel
theorem dX9_manyOf_39 : decode cX9_manyOf 39 = .ok (.iconst 0, 1) := by decide +kernel
theorem dX9_manyOf_40 : decode cX9_manyOf 40 = .ok (.istore 6, 2) := by decide +kernel
theorem dX9_manyOf_42 : decode cX9_manyOf 42 = .ok (.lload_n 2, 1) := by decide +kernel
theorem dX9_manyOf_43 : decode cX9_manyOf 43 = .ok (.iload_n 1, 1) := by decide +kernel
theorem dX9_manyOf_44 : decode cX9_manyOf 44 = .ok (.ifCond .ne 11, 3) := by decide +kernel
theorem dX9_manyOf_47 : decode cX9_manyOf 47 = .ok (.iload 5, 2) := by decide +kernel
theorem dX9_manyOf_49 : decode cX9_manyOf 49 = .ok (.ifCond .eq 39, 3) := by decide +kernel
theorem dX9_manyOf_52 : decode cX9_manyOf 52 = .ok (.goto 26, 3) := by decide +kernel
theorem dX9_manyOf_55 : decode cX9_manyOf 55 = .ok (.iload_n 1, 1) := by decide +kernel
theorem dX9_manyOf_56 : decode cX9_manyOf 56 = .ok (.iconst 1, 1) := by decide +kernel
theorem dX9_manyOf_57 : decode cX9_manyOf 57 = .ok (.if_icmp .ne 11, 3) := by decide +kernel
theorem dX9_manyOf_60 : decode cX9_manyOf 60 = .ok (.iload 6, 2) := by decide +kernel
theorem dX9_manyOf_62 : decode cX9_manyOf 62 = .ok (.ifCond .eq 26, 3) := by decide +kernel
theorem dX9_manyOf_65 : decode cX9_manyOf 65 = .ok (.goto 13, 3) := by decide +kernel
theorem dX9_manyOf_68 : decode cX9_manyOf 68 = .ok (.iload 5, 2) := by decide +kernel
theorem dX9_manyOf_70 : decode cX9_manyOf 70 = .ok (.ifCond .eq 18, 3) := by decide +kernel
theorem dX9_manyOf_73 : decode cX9_manyOf 73 = .ok (.iload 6, 2) := by decide +kernel
theorem dX9_manyOf_75 : decode cX9_manyOf 75 = .ok (.ifCond .ne 13, 3) := by decide +kernel
theorem dX9_manyOf_78 : decode cX9_manyOf 78 = .ok (.aload_n 0, 1) := by decide +kernel
theorem dX9_manyOf_79 : decode cX9_manyOf 79 = .ok (.getfield 91, 3) := by decide +kernel
theorem dX9_manyOf_82 : decode cX9_manyOf 82 = .ok (.iload 4, 2) := by decide +kernel
theorem dX9_manyOf_84 : decode cX9_manyOf 84 = .ok (.laload, 1) := by decide +kernel
theorem dX9_manyOf_85 : decode cX9_manyOf 85 = .ok (.goto 4, 3) := by decide +kernel
theorem dX9_manyOf_88 : decode cX9_manyOf 88 = .ok (.lconst 0, 1) := by decide +kernel
theorem dX9_manyOf_89 : decode cX9_manyOf 89 = .ok (.ladd, 1) := by decide +kernel
theorem dX9_manyOf_90 : decode cX9_manyOf 90 = .ok (.lstore_n 2, 1) := by decide +kernel
theorem dX9_manyOf_91 : decode cX9_manyOf 91 = .ok (.iinc 4 1, 3) := by decide +kernel
theorem dX9_manyOf_94 : decode cX9_manyOf 94 = .ok (.goto (-89), 3) := by decide +kernel
theorem dX9_manyOf_97 : decode cX9_manyOf 97 = .ok (.lload_n 2, 1) := by decide +kernel
theorem dX9_manyOf_98 : decode cX9_manyOf 98 = .ok (.lreturn, 1) := by decide +kernel
theorem dX9_odds_0 : decode cX9_odds 0 = .ok (.iload_n 1, 1) := by decide +kernel
theorem dX9_odds_1 : decode cX9_odds 1 = .ok (.invokestatic 409, 3) := by decide +kernel
theorem dX9_odds_4 : decode cX9_odds 4 = .ok (.ifCond .eq 12, 3) := by decide +kernel
theorem dX9_odds_7 : decode cX9_odds 7 = .ok (.iload_n 2, 1) := by decide +kernel
theorem dX9_odds_8 : decode cX9_odds 8 = .ok (.iconst 0, 1) := by decide +kernel
theorem dX9_odds_9 : decode cX9_odds 9 = .ok (.iconst 2, 1) := by decide +kernel
theorem dX9_odds_10 : decode cX9_odds 10 = .ok (.invokestatic 126, 3) := by decide +kernel
theorem dX9_odds_13 : decode cX9_odds 13 = .ok (.ifCond .ne 7, 3) := by decide +kernel
theorem dX9_odds_16 : decode cX9_odds 16 = .ok (.ldc2_w 422, 3) := by decide +kernel
theorem dX9_odds_19 : decode cX9_odds 19 = .ok (.lreturn, 1) := by decide +kernel
theorem dX9_odds_20 : decode cX9_odds 20 = .ok (.aload_n 0, 1) := by decide +kernel
theorem dX9_odds_21 : decode cX9_odds 21 = .ok (.aload_n 0, 1) := by decide +kernel
theorem dX9_odds_22 : decode cX9_odds 22 = .ok (.iload_n 1, 1) := by decide +kernel
theorem dX9_odds_23 : decode cX9_odds 23 = .ok (.sipush 999, 3) := by decide +kernel
theorem dX9_odds_26 : decode cX9_odds 26 = .ok (.iconst 0, 1) := by decide +kernel
theorem dX9_odds_27 : decode cX9_odds 27 = .ok (.invokevirtual 412, 3) := by decide +kernel
theorem dX9_odds_30 : decode cX9_odds 30 = .ok (.aload_n 0, 1) := by decide +kernel
theorem dX9_odds_31 : decode cX9_odds 31 = .ok (.iload_n 1, 1) := by decide +kernel
theorem dX9_odds_32 : decode cX9_odds 32 = .ok (.sipush 999, 3) := by decide +kernel
theorem dX9_odds_35 : decode cX9_odds 35 = .ok (.iconst 1, 1) := by decide +kernel
theorem dX9_odds_36 : decode cX9_odds 36 = .ok (.invokevirtual 412, 3) := by decide +kernel
theorem dX9_odds_39 : decode cX9_odds 39 = .ok (.invokevirtual 424, 3) := by decide +kernel
theorem dX9_odds_42 : decode cX9_odds 42 = .ok (.iconst 0, 1) := by decide +kernel
theorem dX9_odds_43 : decode cX9_odds 43 = .ok (.istore 4, 2) := by decide +kernel
theorem dX9_odds_45 : decode cX9_odds 45 = .ok (.lconst 1, 1) := by decide +kernel
theorem dX9_odds_46 : decode cX9_odds 46 = .ok (.lstore 5, 2) := by decide +kernel
theorem dX9_odds_48 : decode cX9_odds 48 = .ok (.iconst 0, 1) := by decide +kernel
theorem dX9_odds_49 : decode cX9_odds 49 = .ok (.istore 7, 2) := by decide +kernel
theorem dX9_odds_51 : decode cX9_odds 51 = .ok (.iload 7, 2) := by decide +kernel
theorem dX9_odds_53 : decode cX9_odds 53 = .ok (.aload_n 0, 1) := by decide +kernel
theorem dX9_odds_54 : decode cX9_odds 54 = .ok (.getfield 7, 3) := by decide +kernel
theorem dX9_odds_57 : decode cX9_odds 57 = .ok (.iconst 1, 1) := by decide +kernel
theorem dX9_odds_58 : decode cX9_odds 58 = .ok (.iaload, 1) := by decide +kernel
theorem dX9_odds_59 : decode cX9_odds 59 = .ok (.if_icmp .ge 96, 3) := by decide +kernel
theorem dX9_odds_62 : decode cX9_odds 62 = .ok (.aload_n 0, 1) := by decide +kernel
theorem dX9_odds_63 : decode cX9_odds 63 = .ok (.iload 7, 2) := by decide +kernel
theorem dX9_odds_65 : decode cX9_odds 65 = .ok (.iconst 2, 1) := by decide +kernel
theorem dX9_odds_66 : decode cX9_odds 66 = .ok (.invokevirtual 138, 3) := by decide +kernel
theorem dX9_odds_69 : decode cX9_odds 69 = .ok (.iload_n 1, 1) := by decide +kernel
theorem dX9_odds_70 : decode cX9_odds 70 = .ok (.if_icmp .ne 79, 3) := by decide +kernel
theorem dX9_odds_73 : decode cX9_odds 73 = .ok (.aload_n 0, 1) := by decide +kernel
theorem dX9_odds_74 : decode cX9_odds 74 = .ok (.iload 7, 2) := by decide +kernel
theorem dX9_odds_76 : decode cX9_odds 76 = .ok (.iconst 4, 1) := by decide +kernel
theorem dX9_odds_77 : decode cX9_odds 77 = .ok (.invokevirtual 138, 3) := by decide +kernel
theorem dX9_odds_80 : decode cX9_odds 80 = .ok (.iconst 1, 1) := by decide +kernel
theorem dX9_odds_81 : decode cX9_odds 81 = .ok (.if_icmp .ne 68, 3) := by decide +kernel
theorem dX9_odds_84 : decode cX9_odds 84 = .ok (.iinc 4 1, 3) := by decide +kernel
theorem dX9_odds_87 : decode cX9_odds 87 = .ok (.iload 4, 2) := by decide +kernel
theorem dX9_odds_89 : decode cX9_odds 89 = .ok (.bipush 8, 2) := by decide +kernel
theorem dX9_odds_91 : decode cX9_odds 91 = .ok (.if_icmp .le 7, 3) := by decide +kernel
theorem dX9_odds_94 : decode cX9_odds 94 = .ok (.ldc2_w 422, 3) := by decide +kernel
theorem dX9_odds_97 : decode cX9_odds 97 = .ok (.lreturn, 1) := by decide +kernel
theorem dX9_odds_98 : decode cX9_odds 98 = .ok (.aload_n 0, 1) := by decide +kernel
theorem dX9_odds_99 : decode cX9_odds 99 = .ok (.iconst 0, 1) := by decide +kernel
theorem dX9_odds_100 : decode cX9_odds 100 = .ok (.iload 7, 2) := by decide +kernel
theorem dX9_odds_102 : decode cX9_odds 102 = .ok (.invokevirtual 375, 3) := by decide +kernel
theorem dX9_odds_105 : decode cX9_odds 105 = .ok (.istore 8, 2) := by decide +kernel
theorem dX9_odds_107 : decode cX9_odds 107 = .ok (.aload_n 0, 1) := by decide +kernel
theorem dX9_odds_108 : decode cX9_odds 108 = .ok (.iconst 1, 1) := by decide +kernel
theorem dX9_odds_109 : decode cX9_odds 109 = .ok (.iload 7, 2) := by decide +kernel
theorem dX9_odds_111 : decode cX9_odds 111 = .ok (.invokevirtual 375, 3) := by decide +kernel
theorem dX9_odds_114 : decode cX9_odds 114 = .ok (.istore 9, 2) := by decide +kernel
theorem dX9_odds_116 : decode cX9_odds 116 = .ok (.aload_n 0, 1) := by decide +kernel
theorem dX9_odds_117 : decode cX9_odds 117 = .ok (.iload 7, 2) := by decide +kernel
theorem dX9_odds_119 : decode cX9_odds 119 = .ok (.invokevirtual 399, 3) := by decide +kernel
theorem dX9_odds_122 : decode cX9_odds 122 = .ok (.istore 10, 2) := by decide +kernel
theorem dX9_odds_124 : decode cX9_odds 124 = .ok (.aload_n 0, 1) := by decide +kernel
theorem dX9_odds_125 : decode cX9_odds 125 = .ok (.iload 8, 2) := by decide +kernel
theorem dX9_odds_127 : decode cX9_odds 127 = .ok (.iload 9, 2) := by decide +kernel
theorem dX9_odds_129 : decode cX9_odds 129 = .ok (.aload_n 0, 1) := by decide +kernel
theorem dX9_odds_130 : decode cX9_odds 130 = .ok (.iload 7, 2) := by decide +kernel
theorem dX9_odds_132 : decode cX9_odds 132 = .ok (.iconst 3, 1) := by decide +kernel
theorem dX9_odds_133 : decode cX9_odds 133 = .ok (.invokevirtual 138, 3) := by decide +kernel
theorem dX9_odds_136 : decode cX9_odds 136 = .ok (.iload 10, 2) := by decide +kernel
theorem dX9_odds_138 : decode cX9_odds 138 = .ok (.invokevirtual 427, 3) := by decide +kernel
theorem dX9_odds_141 : decode cX9_odds 141 = .ok (.lload 5, 2) := by decide +kernel
theorem dX9_odds_143 : decode cX9_odds 143 = .ok (.ldc2_w 431, 3) := by decide +kernel
theorem dX9_odds_146 : decode cX9_odds 146 = .ok (.lmul, 1) := by decide +kernel
theorem dX9_odds_147 : decode cX9_odds 147 = .ok (.lstore 5, 2) := by decide +kernel
theorem dX9_odds_149 : decode cX9_odds 149 = .ok (.iinc 7 1, 3) := by decide +kernel
theorem dX9_odds_152 : decode cX9_odds 152 = .ok (.goto (-101), 3) := by decide +kernel
theorem dX9_odds_155 : decode cX9_odds 155 = .ok (.aload_n 0, 1) := by decide +kernel
theorem dX9_odds_156 : decode cX9_odds 156 = .ok (.iload_n 2, 1) := by decide +kernel
theorem dX9_odds_157 : decode cX9_odds 157 = .ok (.invokevirtual 433, 3) := by decide +kernel
theorem dX9_odds_160 : decode cX9_odds 160 = .ok (.lstore 7, 2) := by decide +kernel
theorem dX9_odds_162 : decode cX9_odds 162 = .ok (.lload 5, 2) := by decide +kernel
theorem dX9_odds_164 : decode cX9_odds 164 = .ok (.lstore 9, 2) := by decide +kernel
theorem dX9_odds_166 : decode cX9_odds 166 = .ok (.lload 7, 2) := by decide +kernel
theorem dX9_odds_168 : decode cX9_odds 168 = .ok (.lstore 11, 2) := by decide +kernel
theorem dX9_odds_170 : decode cX9_odds 170 = .ok (.lload 11, 2) := by decide +kernel
theorem dX9_odds_172 : decode cX9_odds 172 = .ok (.lconst 0, 1) := by decide +kernel
theorem dX9_odds_173 : decode cX9_odds 173 = .ok (.lcmp, 1) := by decide +kernel
theorem dX9_odds_174 : decode cX9_odds 174 = .ok (.ifCond .eq 21, 3) := by decide +kernel
theorem dX9_odds_177 : decode cX9_odds 177 = .ok (.lload 9, 2) := by decide +kernel
theorem dX9_odds_179 : decode cX9_odds 179 = .ok (.lload 11, 2) := by decide +kernel
theorem dX9_odds_181 : decode cX9_odds 181 = .ok (.lrem, 1) := by decide +kernel
theorem dX9_odds_182 : decode cX9_odds 182 = .ok (.lstore 13, 2) := by decide +kernel
theorem dX9_odds_184 : decode cX9_odds 184 = .ok (.lload 11, 2) := by decide +kernel
theorem dX9_odds_186 : decode cX9_odds 186 = .ok (.lstore 9, 2) := by decide +kernel
theorem dX9_odds_188 : decode cX9_odds 188 = .ok (.lload 13, 2) := by decide +kernel
theorem dX9_odds_190 : decode cX9_odds 190 = .ok (.lstore 11, 2) := by decide +kernel
theorem dX9_odds_192 : decode cX9_odds 192 = .ok (.goto (-22), 3) := by decide +kernel
theorem dX9_odds_195 : decode cX9_odds 195 = .ok (.iload_n 3, 1) := by decide +kernel
theorem dX9_odds_196 : decode cX9_odds 196 = .ok (.ifCond .eq 11, 3) := by decide +kernel
theorem dX9_odds_199 : decode cX9_odds 199 = .ok (.lload 5, 2) := by decide +kernel
theorem dX9_odds_201 : decode cX9_odds 201 = .ok (.lload 9, 2) := by decide +kernel
theorem dX9_odds_203 : decode cX9_odds 203 = .ok (.ldiv, 1) := by decide +kernel
theorem dX9_odds_204 : decode cX9_odds 204 = .ok (.goto 8, 3) := by decide +kernel
theorem dX9_odds_207 : decode cX9_odds 207 = .ok (.lload 7, 2) := by decide +kernel
theorem dX9_odds_209 : decode cX9_odds 209 = .ok (.lload 9, 2) := by decide +kernel
theorem dX9_odds_211 : decode cX9_odds 211 = .ok (.ldiv, 1) := by decide +kernel
theorem dX9_odds_212 : decode cX9_odds 212 = .ok (.lreturn, 1) := by decide +kernel
theorem dX9_laysFlock_0 : decode cX9_laysFlock 0 = .ok (.aload_n 0, 1) := by decide +kernel
theorem dX9_laysFlock_1 : decode cX9_laysFlock 1 = .ok (.iconst 0, 1) := by decide +kernel
theorem dX9_laysFlock_2 : decode cX9_laysFlock 2 = .ok (.putfield 436, 3) := by decide +kernel
theorem dX9_laysFlock_5 : decode cX9_laysFlock 5 = .ok (.iconst 0, 1) := by decide +kernel
theorem dX9_laysFlock_6 : decode cX9_laysFlock 6 = .ok (.istore_n 2, 1) := by decide +kernel
theorem dX9_laysFlock_7 : decode cX9_laysFlock 7 = .ok (.iload_n 2, 1) := by decide +kernel
theorem dX9_laysFlock_8 : decode cX9_laysFlock 8 = .ok (.aload_n 0, 1) := by decide +kernel
theorem dX9_laysFlock_9 : decode cX9_laysFlock 9 = .ok (.getfield 7, 3) := by decide +kernel
theorem dX9_laysFlock_12 : decode cX9_laysFlock 12 = .ok (.iconst 1, 1) := by decide +kernel
theorem dX9_laysFlock_13 : decode cX9_laysFlock 13 = .ok (.iaload, 1) := by decide +kernel
theorem dX9_laysFlock_14 : decode cX9_laysFlock 14 = .ok (.if_icmp .ge 180, 3) := by decide +kernel
theorem dX9_laysFlock_17 : decode cX9_laysFlock 17 = .ok (.aload_n 0, 1) := by decide +kernel
theorem dX9_laysFlock_18 : decode cX9_laysFlock 18 = .ok (.iload_n 2, 1) := by decide +kernel
theorem dX9_laysFlock_19 : decode cX9_laysFlock 19 = .ok (.invokevirtual 142, 3) := by decide +kernel
theorem dX9_laysFlock_22 : decode cX9_laysFlock 22 = .ok (.ifCond .eq 166, 3) := by decide +kernel
theorem dX9_laysFlock_25 : decode cX9_laysFlock 25 = .ok (.aload_n 0, 1) := by decide +kernel
theorem dX9_laysFlock_26 : decode cX9_laysFlock 26 = .ok (.iload_n 2, 1) := by decide +kernel
theorem dX9_laysFlock_27 : decode cX9_laysFlock 27 = .ok (.bipush 8, 2) := by decide +kernel
theorem dX9_laysFlock_29 : decode cX9_laysFlock 29 = .ok (.invokevirtual 138, 3) := by decide +kernel
theorem dX9_laysFlock_32 : decode cX9_laysFlock 32 = .ok (.ifCond .ne 156, 3) := by decide +kernel
theorem dX9_laysFlock_35 : decode cX9_laysFlock 35 = .ok (.aload_n 0, 1) := by decide +kernel
theorem dX9_laysFlock_36 : decode cX9_laysFlock 36 = .ok (.iload_n 2, 1) := by decide +kernel
theorem dX9_laysFlock_37 : decode cX9_laysFlock 37 = .ok (.iconst 2, 1) := by decide +kernel
theorem dX9_laysFlock_38 : decode cX9_laysFlock 38 = .ok (.invokevirtual 138, 3) := by decide +kernel
theorem dX9_laysFlock_41 : decode cX9_laysFlock 41 = .ok (.iconst (-1), 1) := by decide +kernel
theorem dX9_laysFlock_42 : decode cX9_laysFlock 42 = .ok (.if_icmp .ne 146, 3) := by decide +kernel
theorem dX9_laysFlock_45 : decode cX9_laysFlock 45 = .ok (.aload_n 0, 1) := by decide +kernel
theorem dX9_laysFlock_46 : decode cX9_laysFlock 46 = .ok (.getfield 107, 3) := by decide +kernel
theorem dX9_laysFlock_49 : decode cX9_laysFlock 49 = .ok (.aload_n 0, 1) := by decide +kernel
theorem dX9_laysFlock_50 : decode cX9_laysFlock 50 = .ok (.getfield 436, 3) := by decide +kernel
theorem dX9_laysFlock_53 : decode cX9_laysFlock 53 = .ok (.iload_n 2, 1) := by decide +kernel
theorem dX9_laysFlock_54 : decode cX9_laysFlock 54 = .ok (.iastore, 1) := by decide +kernel
theorem dX9_laysFlock_55 : decode cX9_laysFlock 55 = .ok (.aload_n 0, 1) := by decide +kernel
theorem dX9_laysFlock_56 : decode cX9_laysFlock 56 = .ok (.dup, 1) := by decide +kernel
theorem dX9_laysFlock_57 : decode cX9_laysFlock 57 = .ok (.getfield 436, 3) := by decide +kernel
theorem dX9_laysFlock_60 : decode cX9_laysFlock 60 = .ok (.iconst 1, 1) := by decide +kernel
theorem dX9_laysFlock_61 : decode cX9_laysFlock 61 = .ok (.iadd, 1) := by decide +kernel
theorem dX9_laysFlock_62 : decode cX9_laysFlock 62 = .ok (.putfield 436, 3) := by decide +kernel
theorem dX9_laysFlock_65 : decode cX9_laysFlock 65 = .ok (.iconst 0, 1) := by decide +kernel
theorem dX9_laysFlock_66 : decode cX9_laysFlock 66 = .ok (.istore_n 3, 1) := by decide +kernel
theorem dX9_laysFlock_67 : decode cX9_laysFlock 67 = .ok (.iload_n 3, 1) := by decide +kernel
theorem dX9_laysFlock_68 : decode cX9_laysFlock 68 = .ok (.iconst 3, 1) := by decide +kernel
theorem dX9_laysFlock_69 : decode cX9_laysFlock 69 = .ok (.aload_n 0, 1) := by decide +kernel
theorem dX9_laysFlock_70 : decode cX9_laysFlock 70 = .ok (.getfield 7, 3) := by decide +kernel
theorem dX9_laysFlock_73 : decode cX9_laysFlock 73 = .ok (.iconst 0, 1) := by decide +kernel
theorem dX9_laysFlock_74 : decode cX9_laysFlock 74 = .ok (.iaload, 1) := by decide +kernel
theorem dX9_laysFlock_75 : decode cX9_laysFlock 75 = .ok (.imul, 1) := by decide +kernel
theorem dX9_laysFlock_76 : decode cX9_laysFlock 76 = .ok (.if_icmp .ge 112, 3) := by decide +kernel
theorem dX9_laysFlock_79 : decode cX9_laysFlock 79 = .ok (.iload_n 3, 1) := by decide +kernel
theorem dX9_laysFlock_80 : decode cX9_laysFlock 80 = .ok (.iconst 3, 1) := by decide +kernel
theorem dX9_laysFlock_81 : decode cX9_laysFlock 81 = .ok (.idiv, 1) := by decide +kernel
theorem dX9_laysFlock_82 : decode cX9_laysFlock 82 = .ok (.istore 4, 2) := by decide +kernel
theorem dX9_laysFlock_84 : decode cX9_laysFlock 84 = .ok (.aload_n 0, 1) := by decide +kernel
theorem dX9_laysFlock_85 : decode cX9_laysFlock 85 = .ok (.getfield 7, 3) := by decide +kernel
theorem dX9_laysFlock_88 : decode cX9_laysFlock 88 = .ok (.bipush 121, 2) := by decide +kernel
theorem dX9_laysFlock_90 : decode cX9_laysFlock 90 = .ok (.iaload, 1) := by decide +kernel
theorem dX9_laysFlock_91 : decode cX9_laysFlock 91 = .ok (.aload_n 0, 1) := by decide +kernel
theorem dX9_laysFlock_92 : decode cX9_laysFlock 92 = .ok (.getfield 7, 3) := by decide +kernel
theorem dX9_laysFlock_95 : decode cX9_laysFlock 95 = .ok (.bipush 10, 2) := by decide +kernel
theorem dX9_laysFlock_97 : decode cX9_laysFlock 97 = .ok (.iconst 3, 1) := by decide +kernel
theorem dX9_laysFlock_98 : decode cX9_laysFlock 98 = .ok (.iload 4, 2) := by decide +kernel
theorem dX9_laysFlock_100 : decode cX9_laysFlock 100 = .ok (.imul, 1) := by decide +kernel
theorem dX9_laysFlock_101 : decode cX9_laysFlock 101 = .ok (.iadd, 1) := by decide +kernel
theorem dX9_laysFlock_102 : decode cX9_laysFlock 102 = .ok (.iaload, 1) := by decide +kernel
theorem dX9_laysFlock_103 : decode cX9_laysFlock 103 = .ok (.iadd, 1) := by decide +kernel
theorem dX9_laysFlock_104 : decode cX9_laysFlock 104 = .ok (.istore 5, 2) := by decide +kernel
theorem dX9_laysFlock_106 : decode cX9_laysFlock 106 = .ok (.aload_n 0, 1) := by decide +kernel
theorem dX9_laysFlock_107 : decode cX9_laysFlock 107 = .ok (.getfield 97, 3) := by decide +kernel
theorem dX9_laysFlock_110 : decode cX9_laysFlock 110 = .ok (.bipush 12, 2) := by decide +kernel
theorem dX9_laysFlock_112 : decode cX9_laysFlock 112 = .ok (.iload_n 2, 1) := by decide +kernel
theorem dX9_laysFlock_113 : decode cX9_laysFlock 113 = .ok (.imul, 1) := by decide +kernel
theorem dX9_laysFlock_114 : decode cX9_laysFlock 114 = .ok (.iload_n 3, 1) := by decide +kernel
theorem dX9_laysFlock_115 : decode cX9_laysFlock 115 = .ok (.iadd, 1) := by decide +kernel
theorem dX9_laysFlock_116 : decode cX9_laysFlock 116 = .ok (.aload_n 0, 1) := by decide +kernel
theorem dX9_laysFlock_117 : decode cX9_laysFlock 117 = .ok (.iconst 0, 1) := by decide +kernel
theorem dX9_laysFlock_118 : decode cX9_laysFlock 118 = .ok (.iload_n 2, 1) := by decide +kernel
theorem dX9_laysFlock_119 : decode cX9_laysFlock 119 = .ok (.iload_n 1, 1) := by decide +kernel
theorem dX9_laysFlock_120 : decode cX9_laysFlock 120 = .ok (.iload_n 3, 1) := by decide +kernel
theorem dX9_laysFlock_121 : decode cX9_laysFlock 121 = .ok (.iconst 3, 1) := by decide +kernel
theorem dX9_laysFlock_122 : decode cX9_laysFlock 122 = .ok (.irem, 1) := by decide +kernel
theorem dX9_laysFlock_123 : decode cX9_laysFlock 123 = .ok (.iload 4, 2) := by decide +kernel
theorem dX9_laysFlock_125 : decode cX9_laysFlock 125 = .ok (.iload 5, 2) := by decide +kernel
theorem dX9_laysFlock_127 : decode cX9_laysFlock 127 = .ok (.invokevirtual 364, 3) := by decide +kernel
theorem dX9_laysFlock_130 : decode cX9_laysFlock 130 = .ok (.iastore, 1) := by decide +kernel
theorem dX9_laysFlock_131 : decode cX9_laysFlock 131 = .ok (.aload_n 0, 1) := by decide +kernel
theorem dX9_laysFlock_132 : decode cX9_laysFlock 132 = .ok (.getfield 100, 3) := by decide +kernel
theorem dX9_laysFlock_135 : decode cX9_laysFlock 135 = .ok (.bipush 12, 2) := by decide +kernel
theorem dX9_laysFlock_137 : decode cX9_laysFlock 137 = .ok (.iload_n 2, 1) := by decide +kernel
theorem dX9_laysFlock_138 : decode cX9_laysFlock 138 = .ok (.imul, 1) := by decide +kernel
theorem dX9_laysFlock_139 : decode cX9_laysFlock 139 = .ok (.iload_n 3, 1) := by decide +kernel
theorem dX9_laysFlock_140 : decode cX9_laysFlock 140 = .ok (.iadd, 1) := by decide +kernel
theorem dX9_laysFlock_141 : decode cX9_laysFlock 141 = .ok (.aload_n 0, 1) := by decide +kernel
theorem dX9_laysFlock_142 : decode cX9_laysFlock 142 = .ok (.iconst 1, 1) := by decide +kernel
theorem dX9_laysFlock_143 : decode cX9_laysFlock 143 = .ok (.iload_n 2, 1) := by decide +kernel
theorem dX9_laysFlock_144 : decode cX9_laysFlock 144 = .ok (.iload_n 1, 1) := by decide +kernel
theorem dX9_laysFlock_145 : decode cX9_laysFlock 145 = .ok (.iload_n 3, 1) := by decide +kernel
theorem dX9_laysFlock_146 : decode cX9_laysFlock 146 = .ok (.iconst 3, 1) := by decide +kernel
theorem dX9_laysFlock_147 : decode cX9_laysFlock 147 = .ok (.irem, 1) := by decide +kernel
theorem dX9_laysFlock_148 : decode cX9_laysFlock 148 = .ok (.iload 4, 2) := by decide +kernel
theorem dX9_laysFlock_150 : decode cX9_laysFlock 150 = .ok (.iload 5, 2) := by decide +kernel
theorem dX9_laysFlock_152 : decode cX9_laysFlock 152 = .ok (.invokevirtual 364, 3) := by decide +kernel
theorem dX9_laysFlock_155 : decode cX9_laysFlock 155 = .ok (.iastore, 1) := by decide +kernel
theorem dX9_laysFlock_156 : decode cX9_laysFlock 156 = .ok (.aload_n 0, 1) := by decide +kernel
theorem dX9_laysFlock_157 : decode cX9_laysFlock 157 = .ok (.getfield 103, 3) := by decide +kernel
theorem dX9_laysFlock_160 : decode cX9_laysFlock 160 = .ok (.bipush 12, 2) := by decide +kernel
theorem dX9_laysFlock_162 : decode cX9_laysFlock 162 = .ok (.iload_n 2, 1) := by decide +kernel
theorem dX9_laysFlock_163 : decode cX9_laysFlock 163 = .ok (.imul, 1) := by decide +kernel
theorem dX9_laysFlock_164 : decode cX9_laysFlock 164 = .ok (.iload_n 3, 1) := by decide +kernel
theorem dX9_laysFlock_165 : decode cX9_laysFlock 165 = .ok (.iadd, 1) := by decide +kernel
theorem dX9_laysFlock_166 : decode cX9_laysFlock 166 = .ok (.aload_n 0, 1) := by decide +kernel
theorem dX9_laysFlock_167 : decode cX9_laysFlock 167 = .ok (.iload_n 2, 1) := by decide +kernel
theorem dX9_laysFlock_168 : decode cX9_laysFlock 168 = .ok (.iload_n 1, 1) := by decide +kernel
theorem dX9_laysFlock_169 : decode cX9_laysFlock 169 = .ok (.iload_n 3, 1) := by decide +kernel
