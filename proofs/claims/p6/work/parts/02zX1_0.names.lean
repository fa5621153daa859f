theorem dX1_textOf_0 : decode cX1_textOf 0 = .ok (.iload_n 1, 1) := by decide +kernel
theorem dX1_textOf_1 : decode cX1_textOf 1 = .ok (.ifCond .lt 17, 3) := by decide +kernel
theorem dX1_textOf_4 : decode cX1_textOf 4 = .ok (.iload_n 1, 1) := by decide +kernel
theorem dX1_textOf_5 : decode cX1_textOf 5 = .ok (.iconst 4, 1) := by decide +kernel
theorem dX1_textOf_6 : decode cX1_textOf 6 = .ok (.if_icmp .ge 12, 3) := by decide +kernel
theorem dX1_textOf_9 : decode cX1_textOf 9 = .ok (.aload_n 0, 1) := by decide +kernel
theorem dX1_textOf_10 : decode cX1_textOf 10 = .ok (.getfield 11, 3) := by decide +kernel
theorem dX1_textOf_13 : decode cX1_textOf 13 = .ok (.iload_n 1, 1) := by decide +kernel
theorem dX1_textOf_14 : decode cX1_textOf 14 = .ok (.aaload, 1) := by decide +kernel
theorem dX1_textOf_15 : decode cX1_textOf 15 = .ok (.goto 4, 3) := by decide +kernel
theorem dX1_textOf_18 : decode cX1_textOf 18 = .ok (.aconst_null, 1) := by decide +kernel
theorem dX1_textOf_19 : decode cX1_textOf 19 = .ok (.areturn, 1) := by decide +kernel
theorem dX1_lookAt_0 : decode cX1_lookAt 0 = .ok (.aload_n 0, 1) := by decide +kernel
theorem dX1_lookAt_1 : decode cX1_lookAt 1 = .ok (.getfield 17, 3) := by decide +kernel
theorem dX1_lookAt_4 : decode cX1_lookAt 4 = .ok (.iconst 0, 1) := by decide +kernel
theorem dX1_lookAt_5 : decode cX1_lookAt 5 = .ok (.iload_n 2, 1) := by decide +kernel
theorem dX1_lookAt_6 : decode cX1_lookAt 6 = .ok (.iastore, 1) := by decide +kernel
theorem dX1_lookAt_7 : decode cX1_lookAt 7 = .ok (.aload_n 0, 1) := by decide +kernel
theorem dX1_lookAt_8 : decode cX1_lookAt 8 = .ok (.getfield 17, 3) := by decide +kernel
theorem dX1_lookAt_11 : decode cX1_lookAt 11 = .ok (.iconst 1, 1) := by decide +kernel
theorem dX1_lookAt_12 : decode cX1_lookAt 12 = .ok (.aload_n 1, 1) := by decide +kernel
theorem dX1_lookAt_13 : decode cX1_lookAt 13 = .ok (.iload_n 2, 1) := by decide +kernel
theorem dX1_lookAt_14 : decode cX1_lookAt 14 = .ok (.iconst 0, 1) := by decide +kernel
theorem dX1_lookAt_15 : decode cX1_lookAt 15 = .ok (.invokevirtual 29, 3) := by decide +kernel
theorem dX1_lookAt_18 : decode cX1_lookAt 18 = .ok (.iastore, 1) := by decide +kernel
theorem dX1_lookAt_19 : decode cX1_lookAt 19 = .ok (.aload_n 0, 1) := by decide +kernel
theorem dX1_lookAt_20 : decode cX1_lookAt 20 = .ok (.getfield 17, 3) := by decide +kernel
theorem dX1_lookAt_23 : decode cX1_lookAt 23 = .ok (.iconst 2, 1) := by decide +kernel
theorem dX1_lookAt_24 : decode cX1_lookAt 24 = .ok (.aload_n 1, 1) := by decide +kernel
theorem dX1_lookAt_25 : decode cX1_lookAt 25 = .ok (.iload_n 2, 1) := by decide +kernel
theorem dX1_lookAt_26 : decode cX1_lookAt 26 = .ok (.iconst 1, 1) := by decide +kernel
theorem dX1_lookAt_27 : decode cX1_lookAt 27 = .ok (.invokevirtual 29, 3) := by decide +kernel
theorem dX1_lookAt_30 : decode cX1_lookAt 30 = .ok (.iastore, 1) := by decide +kernel
theorem dX1_lookAt_31 : decode cX1_lookAt 31 = .ok (.aload_n 0, 1) := by decide +kernel
theorem dX1_lookAt_32 : decode cX1_lookAt 32 = .ok (.getfield 17, 3) := by decide +kernel
theorem dX1_lookAt_35 : decode cX1_lookAt 35 = .ok (.iconst 3, 1) := by decide +kernel
theorem dX1_lookAt_36 : decode cX1_lookAt 36 = .ok (.aload_n 1, 1) := by decide +kernel
theorem dX1_lookAt_37 : decode cX1_lookAt 37 = .ok (.iload_n 2, 1) := by decide +kernel
theorem dX1_lookAt_38 : decode cX1_lookAt 38 = .ok (.iconst 2, 1) := by decide +kernel
theorem dX1_lookAt_39 : decode cX1_lookAt 39 = .ok (.invokevirtual 29, 3) := by decide +kernel
theorem dX1_lookAt_42 : decode cX1_lookAt 42 = .ok (.iastore, 1) := by decide +kernel
theorem dX1_lookAt_43 : decode cX1_lookAt 43 = .ok (.aload_n 0, 1) := by decide +kernel
theorem dX1_lookAt_44 : decode cX1_lookAt 44 = .ok (.getfield 17, 3) := by decide +kernel
theorem dX1_lookAt_47 : decode cX1_lookAt 47 = .ok (.iconst 4, 1) := by decide +kernel
theorem dX1_lookAt_48 : decode cX1_lookAt 48 = .ok (.aload_n 1, 1) := by decide +kernel
theorem dX1_lookAt_49 : decode cX1_lookAt 49 = .ok (.iload_n 2, 1) := by decide +kernel
theorem dX1_lookAt_50 : decode cX1_lookAt 50 = .ok (.iconst 3, 1) := by decide +kernel
theorem dX1_lookAt_51 : decode cX1_lookAt 51 = .ok (.invokevirtual 29, 3) := by decide +kernel
theorem dX1_lookAt_54 : decode cX1_lookAt 54 = .ok (.iastore, 1) := by decide +kernel
theorem dX1_lookAt_55 : decode cX1_lookAt 55 = .ok (.aload_n 0, 1) := by decide +kernel
theorem dX1_lookAt_56 : decode cX1_lookAt 56 = .ok (.getfield 17, 3) := by decide +kernel
theorem dX1_lookAt_59 : decode cX1_lookAt 59 = .ok (.iconst 5, 1) := by decide +kernel
theorem dX1_lookAt_60 : decode cX1_lookAt 60 = .ok (.aload_n 1, 1) := by decide +kernel
theorem dX1_lookAt_61 : decode cX1_lookAt 61 = .ok (.getfield 35, 3) := by decide +kernel
theorem dX1_lookAt_64 : decode cX1_lookAt 64 = .ok (.iastore, 1) := by decide +kernel
theorem dX1_lookAt_65 : decode cX1_lookAt 65 = .ok (.return_, 1) := by decide +kernel
theorem dX1_lookAtFilled_0 : decode cX1_lookAtFilled 0 = .ok (.aload_n 0, 1) := by decide +kernel
theorem dX1_lookAtFilled_1 : decode cX1_lookAtFilled 1 = .ok (.aload_n 1, 1) := by decide +kernel
theorem dX1_lookAtFilled_2 : decode cX1_lookAtFilled 2 = .ok (.iload_n 2, 1) := by decide +kernel
theorem dX1_lookAtFilled_3 : decode cX1_lookAtFilled 3 = .ok (.invokevirtual 38, 3) := by decide +kernel
theorem dX1_lookAtFilled_6 : decode cX1_lookAtFilled 6 = .ok (.aload_n 0, 1) := by decide +kernel
theorem dX1_lookAtFilled_7 : decode cX1_lookAtFilled 7 = .ok (.getfield 17, 3) := by decide +kernel
theorem dX1_lookAtFilled_10 : decode cX1_lookAtFilled 10 = .ok (.iconst 3, 1) := by decide +kernel
theorem dX1_lookAtFilled_11 : decode cX1_lookAtFilled 11 = .ok (.iload_n 3, 1) := by decide +kernel
theorem dX1_lookAtFilled_12 : decode cX1_lookAtFilled 12 = .ok (.iastore, 1) := by decide +kernel
theorem dX1_lookAtFilled_13 : decode cX1_lookAtFilled 13 = .ok (.aload_n 0, 1) := by decide +kernel
theorem dX1_lookAtFilled_14 : decode cX1_lookAtFilled 14 = .ok (.getfield 17, 3) := by decide +kernel
theorem dX1_lookAtFilled_17 : decode cX1_lookAtFilled 17 = .ok (.iconst 4, 1) := by decide +kernel
theorem dX1_lookAtFilled_18 : decode cX1_lookAtFilled 18 = .ok (.iload 4, 2) := by decide +kernel
theorem dX1_lookAtFilled_20 : decode cX1_lookAtFilled 20 = .ok (.iastore, 1) := by decide +kernel
theorem dX1_lookAtFilled_21 : decode cX1_lookAtFilled 21 = .ok (.return_, 1) := by decide +kernel
theorem dX1_lookAtMarket_0 : decode cX1_lookAtMarket 0 = .ok (.aload_n 0, 1) := by decide +kernel
theorem dX1_lookAtMarket_1 : decode cX1_lookAtMarket 1 = .ok (.getfield 17, 3) := by decide +kernel
theorem dX1_lookAtMarket_4 : decode cX1_lookAtMarket 4 = .ok (.iconst 5, 1) := by decide +kernel
theorem dX1_lookAtMarket_5 : decode cX1_lookAtMarket 5 = .ok (.iload_n 3, 1) := by decide +kernel
theorem dX1_lookAtMarket_6 : decode cX1_lookAtMarket 6 = .ok (.iastore, 1) := by decide +kernel
theorem dX1_lookAtMarket_7 : decode cX1_lookAtMarket 7 = .ok (.aload_n 0, 1) := by decide +kernel
theorem dX1_lookAtMarket_8 : decode cX1_lookAtMarket 8 = .ok (.getfield 17, 3) := by decide +kernel
theorem dX1_lookAtMarket_11 : decode cX1_lookAtMarket 11 = .ok (.bipush 6, 2) := by decide +kernel
theorem dX1_lookAtMarket_13 : decode cX1_lookAtMarket 13 = .ok (.iload_n 2, 1) := by decide +kernel
theorem dX1_lookAtMarket_14 : decode cX1_lookAtMarket 14 = .ok (.iastore, 1) := by decide +kernel
theorem dX1_lookAtMarket_15 : decode cX1_lookAtMarket 15 = .ok (.aload_n 0, 1) := by decide +kernel
theorem dX1_lookAtMarket_16 : decode cX1_lookAtMarket 16 = .ok (.getfield 17, 3) := by decide +kernel
theorem dX1_lookAtMarket_19 : decode cX1_lookAtMarket 19 = .ok (.bipush 7, 2) := by decide +kernel
theorem dX1_lookAtMarket_21 : decode cX1_lookAtMarket 21 = .ok (.aload_n 1, 1) := by decide +kernel
theorem dX1_lookAtMarket_22 : decode cX1_lookAtMarket 22 = .ok (.iload_n 2, 1) := by decide +kernel
theorem dX1_lookAtMarket_23 : decode cX1_lookAtMarket 23 = .ok (.iconst 1, 1) := by decide +kernel
theorem dX1_lookAtMarket_24 : decode cX1_lookAtMarket 24 = .ok (.invokevirtual 42, 3) := by decide +kernel
theorem dX1_lookAtMarket_27 : decode cX1_lookAtMarket 27 = .ok (.iastore, 1) := by decide +kernel
theorem dX1_lookAtMarket_28 : decode cX1_lookAtMarket 28 = .ok (.aload_n 0, 1) := by decide +kernel
theorem dX1_lookAtMarket_29 : decode cX1_lookAtMarket 29 = .ok (.getfield 17, 3) := by decide +kernel
theorem dX1_lookAtMarket_32 : decode cX1_lookAtMarket 32 = .ok (.bipush 8, 2) := by decide +kernel
theorem dX1_lookAtMarket_34 : decode cX1_lookAtMarket 34 = .ok (.aload_n 1, 1) := by decide +kernel
theorem dX1_lookAtMarket_35 : decode cX1_lookAtMarket 35 = .ok (.iload_n 2, 1) := by decide +kernel
theorem dX1_lookAtMarket_36 : decode cX1_lookAtMarket 36 = .ok (.iconst 2, 1) := by decide +kernel
theorem dX1_lookAtMarket_37 : decode cX1_lookAtMarket 37 = .ok (.invokevirtual 42, 3) := by decide +kernel
theorem dX1_lookAtMarket_40 : decode cX1_lookAtMarket 40 = .ok (.iastore, 1) := by decide +kernel
theorem dX1_lookAtMarket_41 : decode cX1_lookAtMarket 41 = .ok (.return_, 1) := by decide +kernel
theorem dX1_lookAtTraveller_0 : decode cX1_lookAtTraveller 0 = .ok (.aload_n 0, 1) := by decide +kernel
theorem dX1_lookAtTraveller_1 : decode cX1_lookAtTraveller 1 = .ok (.aload_n 1, 1) := by decide +kernel
theorem dX1_lookAtTraveller_2 : decode cX1_lookAtTraveller 2 = .ok (.iload_n 2, 1) := by decide +kernel
theorem dX1_lookAtTraveller_3 : decode cX1_lookAtTraveller 3 = .ok (.invokevirtual 38, 3) := by decide +kernel
theorem dX1_lookAtTraveller_6 : decode cX1_lookAtTraveller 6 = .ok (.aload_n 0, 1) := by decide +kernel
theorem dX1_lookAtTraveller_7 : decode cX1_lookAtTraveller 7 = .ok (.aload_n 1, 1) := by decide +kernel
theorem dX1_lookAtTraveller_8 : decode cX1_lookAtTraveller 8 = .ok (.aload_n 1, 1) := by decide +kernel
theorem dX1_lookAtTraveller_9 : decode cX1_lookAtTraveller 9 = .ok (.iload_n 2, 1) := by decide +kernel
theorem dX1_lookAtTraveller_10 : decode cX1_lookAtTraveller 10 = .ok (.iconst 5, 1) := by decide +kernel
theorem dX1_lookAtTraveller_11 : decode cX1_lookAtTraveller 11 = .ok (.invokevirtual 29, 3) := by decide +kernel
theorem dX1_lookAtTraveller_14 : decode cX1_lookAtTraveller 14 = .ok (.aload_n 1, 1) := by decide +kernel
theorem dX1_lookAtTraveller_15 : decode cX1_lookAtTraveller 15 = .ok (.iload_n 2, 1) := by decide +kernel
theorem dX1_lookAtTraveller_16 : decode cX1_lookAtTraveller 16 = .ok (.bipush 6, 2) := by decide +kernel
theorem dX1_lookAtTraveller_18 : decode cX1_lookAtTraveller 18 = .ok (.invokevirtual 29, 3) := by decide +kernel
theorem dX1_lookAtTraveller_21 : decode cX1_lookAtTraveller 21 = .ok (.invokevirtual 45, 3) := by decide +kernel
theorem dX1_lookAtTraveller_24 : decode cX1_lookAtTraveller 24 = .ok (.return_, 1) := by decide +kernel
theorem dX1_inkCost_0 : decode cX1_inkCost 0 = .ok (.aload_n 0, 1) := by decide +kernel
theorem dX1_inkCost_1 : decode cX1_inkCost 1 = .ok (.aload_n 1, 1) := by decide +kernel
theorem dX1_inkCost_2 : decode cX1_inkCost 2 = .ok (.iload_n 2, 1) := by decide +kernel
theorem dX1_inkCost_3 : decode cX1_inkCost 3 = .ok (.iload_n 3, 1) := by decide +kernel
theorem dX1_inkCost_4 : decode cX1_inkCost 4 = .ok (.iload 4, 2) := by decide +kernel
theorem dX1_inkCost_6 : decode cX1_inkCost 6 = .ok (.invokevirtual 49, 3) := by decide +kernel
theorem dX1_inkCost_9 : decode cX1_inkCost 9 = .ok (.aload_n 0, 1) := by decide +kernel
theorem dX1_inkCost_10 : decode cX1_inkCost 10 = .ok (.aload_n 1, 1) := by decide +kernel
theorem dX1_inkCost_11 : decode cX1_inkCost 11 = .ok (.iconst 2, 1) := by decide +kernel
theorem dX1_inkCost_12 : decode cX1_inkCost 12 = .ok (.invokevirtual 53, 3) := by decide +kernel
theorem dX1_inkCost_15 : decode cX1_inkCost 15 = .ok (.ireturn, 1) := by decide +kernel
theorem dX1_isTrue_0 : decode cX1_isTrue 0 = .ok (.aload_n 0, 1) := by decide +kernel
theorem dX1_isTrue_1 : decode cX1_isTrue 1 = .ok (.aload_n 1, 1) := by decide +kernel
theorem dX1_isTrue_2 : decode cX1_isTrue 2 = .ok (.iload_n 2, 1) := by decide +kernel
theorem dX1_isTrue_3 : decode cX1_isTrue 3 = .ok (.invokevirtual 38, 3) := by decide +kernel
theorem dX1_isTrue_6 : decode cX1_isTrue 6 = .ok (.aload_n 0, 1) := by decide +kernel
theorem dX1_isTrue_7 : decode cX1_isTrue 7 = .ok (.aload_n 1, 1) := by decide +kernel
theorem dX1_isTrue_8 : decode cX1_isTrue 8 = .ok (.iconst 3, 1) := by decide +kernel
theorem dX1_isTrue_9 : decode cX1_isTrue 9 = .ok (.invokevirtual 53, 3) := by decide +kernel
theorem dX1_isTrue_12 : decode cX1_isTrue 12 = .ok (.ifCond .eq 7, 3) := by decide +kernel
theorem dX1_isTrue_15 : decode cX1_isTrue 15 = .ok (.iconst 1, 1) := by decide +kernel
theorem dX1_isTrue_16 : decode cX1_isTrue 16 = .ok (.goto 4, 3) := by decide +kernel
theorem dX1_isTrue_19 : decode cX1_isTrue 19 = .ok (.iconst 0, 1) := by decide +kernel
theorem dX1_isTrue_20 : decode cX1_isTrue 20 = .ok (.ireturn, 1) := by decide +kernel
theorem dX1_isTrueWith_0 : decode cX1_isTrueWith 0 = .ok (.aload_n 0, 1) := by decide +kernel
theorem dX1_isTrueWith_1 : decode cX1_isTrueWith 1 = .ok (.aload_n 1, 1) := by decide +kernel
theorem dX1_isTrueWith_2 : decode cX1_isTrueWith 2 = .ok (.iload_n 2, 1) := by decide +kernel
theorem dX1_isTrueWith_3 : decode cX1_isTrueWith 3 = .ok (.invokevirtual 38, 3) := by decide +kernel
theorem dX1_isTrueWith_6 : decode cX1_isTrueWith 6 = .ok (.aload_n 0, 1) := by decide +kernel
theorem dX1_isTrueWith_7 : decode cX1_isTrueWith 7 = .ok (.getfield 17, 3) := by decide +kernel
theorem dX1_isTrueWith_10 : decode cX1_isTrueWith 10 = .ok (.iconst 2, 1) := by decide +kernel
theorem dX1_isTrueWith_11 : decode cX1_isTrueWith 11 = .ok (.iload_n 3, 1) := by decide +kernel
theorem dX1_isTrueWith_12 : decode cX1_isTrueWith 12 = .ok (.iastore, 1) := by decide +kernel
theorem dX1_isTrueWith_13 : decode cX1_isTrueWith 13 = .ok (.aload_n 0, 1) := by decide +kernel
theorem dX1_isTrueWith_14 : decode cX1_isTrueWith 14 = .ok (.aload_n 1, 1) := by decide +kernel
theorem dX1_isTrueWith_15 : decode cX1_isTrueWith 15 = .ok (.iconst 3, 1) := by decide +kernel
theorem dX1_isTrueWith_16 : decode cX1_isTrueWith 16 = .ok (.invokevirtual 53, 3) := by decide +kernel
theorem dX1_isTrueWith_19 : decode cX1_isTrueWith 19 = .ok (.ifCond .eq 7, 3) := by decide +kernel
theorem dX1_isTrueWith_22 : decode cX1_isTrueWith 22 = .ok (.iconst 1, 1) := by decide +kernel
theorem dX1_isTrueWith_23 : decode cX1_isTrueWith 23 = .ok (.goto 4, 3) := by decide +kernel
theorem dX1_isTrueWith_26 : decode cX1_isTrueWith 26 = .ok (.iconst 0, 1) := by decide +kernel
theorem dX1_isTrueWith_27 : decode cX1_isTrueWith 27 = .ok (.ireturn, 1) := by decide +kernel
theorem dX1_rule_0 : decode cX1_rule 0 = .ok (.aload_n 0, 1) := by decide +kernel
theorem dX1_rule_1 : decode cX1_rule 1 = .ok (.aload_n 1, 1) := by decide +kernel
theorem dX1_rule_2 : decode cX1_rule 2 = .ok (.getfield 57, 3) := by decide +kernel
theorem dX1_rule_5 : decode cX1_rule 5 = .ok (.invokevirtual 60, 3) := by decide +kernel
theorem dX1_rule_8 : decode cX1_rule 8 = .ok (.astore_n 3, 1) := by decide +kernel
theorem dX1_rule_9 : decode cX1_rule 9 = .ok (.aload_n 3, 1) := by decide +kernel
theorem dX1_rule_10 : decode cX1_rule 10 = .ok (.ifnull 11, 3) := by decide +kernel
theorem dX1_rule_13 : decode cX1_rule 13 = .ok (.aload_n 3, 1) := by decide +kernel
theorem dX1_rule_14 : decode cX1_rule 14 = .ok (.iload_n 2, 1) := by decide +kernel
theorem dX1_rule_15 : decode cX1_rule 15 = .ok (.invokevirtual 64, 3) := by decide +kernel
theorem dX1_rule_18 : decode cX1_rule 18 = .ok (.ifCond .ne 9, 3) := by decide +kernel
theorem dX1_rule_21 : decode cX1_rule 21 = .ok (.aload_n 0, 1) := by decide +kernel
theorem dX1_rule_22 : decode cX1_rule 22 = .ok (.iload_n 2, 1) := by decide +kernel
theorem dX1_rule_23 : decode cX1_rule 23 = .ok (.invokevirtual 68, 3) := by decide +kernel
theorem dX1_rule_26 : decode cX1_rule 26 = .ok (.ireturn, 1) := by decide +kernel
theorem dX1_rule_27 : decode cX1_rule 27 = .ok (.aload_n 0, 1) := by decide +kernel
theorem dX1_rule_28 : decode cX1_rule 28 = .ok (.iconst 0, 1) := by decide +kernel
theorem dX1_rule_29 : decode cX1_rule 29 = .ok (.putfield 24, 3) := by decide +kernel
theorem dX1_rule_32 : decode cX1_rule 32 = .ok (.aload_n 3, 1) := by decide +kernel
theorem dX1_rule_33 : decode cX1_rule 33 = .ok (.iload_n 2, 1) := by decide +kernel
theorem dX1_rule_34 : decode cX1_rule 34 = .ok (.invokevirtual 72, 3) := by decide +kernel
theorem dX1_rule_37 : decode cX1_rule 37 = .ok (.istore 4, 2) := by decide +kernel
theorem dX1_rule_39 : decode cX1_rule 39 = .ok (.aload_n 3, 1) := by decide +kernel
theorem dX1_rule_40 : decode cX1_rule 40 = .ok (.iload_n 2, 1) := by decide +kernel
theorem dX1_rule_41 : decode cX1_rule 41 = .ok (.invokevirtual 75, 3) := by decide +kernel
theorem dX1_rule_44 : decode cX1_rule 44 = .ok (.istore 5, 2) := by decide +kernel
theorem dX1_rule_46 : decode cX1_rule 46 = .ok (.iload 5, 2) := by decide +kernel
theorem dX1_rule_48 : decode cX1_rule 48 = .ok (.iload 4, 2) := by decide +kernel
theorem dX1_rule_50 : decode cX1_rule 50 = .ok (.if_icmp .ge 19, 3) := by decide +kernel
theorem dX1_rule_53 : decode cX1_rule 53 = .ok (.aload_n 0, 1) := by decide +kernel
theorem dX1_rule_54 : decode cX1_rule 54 = .ok (.aload_n 3, 1) := by decide +kernel
theorem dX1_rule_55 : decode cX1_rule 55 = .ok (.iload 5, 2) := by decide +kernel
theorem dX1_rule_57 : decode cX1_rule 57 = .ok (.invokevirtual 78, 3) := by decide +kernel
theorem dX1_rule_60 : decode cX1_rule 60 = .ok (.invokevirtual 81, 3) := by decide +kernel
theorem dX1_rule_63 : decode cX1_rule 63 = .ok (.iinc 5 1, 3) := by decide +kernel
theorem dX1_rule_66 : decode cX1_rule 66 = .ok (.goto (-20), 3) := by decide +kernel
theorem dX1_rule_69 : decode cX1_rule 69 = .ok (.iconst 0, 1) := by decide +kernel
theorem dX1_rule_70 : decode cX1_rule 70 = .ok (.iload_n 2, 1) := by decide +kernel
theorem dX1_rule_71 : decode cX1_rule 71 = .ok (.iconst 2, 1) := by decide +kernel
theorem dX1_rule_72 : decode cX1_rule 72 = .ok (.if_icmp .ne 8, 3) := by decide +kernel
theorem dX1_rule_75 : decode cX1_rule 75 = .ok (.bipush 99, 2) := by decide +kernel
theorem dX1_rule_77 : decode cX1_rule 77 = .ok (.goto 5, 3) := by decide +kernel
theorem dX1_rule_80 : decode cX1_rule 80 = .ok (.bipush 10, 2) := by decide +kernel
theorem dX1_rule_82 : decode cX1_rule 82 = .ok (.aload_n 0, 1) := by decide +kernel
theorem dX1_rule_83 : decode cX1_rule 83 = .ok (.invokevirtual 85, 3) := by decide +kernel
theorem dX1_rule_86 : decode cX1_rule 86 = .ok (.invokestatic 89, 3) := by decide +kernel
theorem dX1_rule_89 : decode cX1_rule 89 = .ok (.invokestatic 94, 3) := by decide +kernel
theorem dX1_rule_92 : decode cX1_rule 92 = .ok (.ireturn, 1) := by decide +kernel
theorem dX1_without_0 : decode cX1_without 0 = .ok (.iload_n 1, 1) := by decide +kernel
theorem dX1_without_1 : decode cX1_without 1 = .ok (.lookupswitch 43 #[(0, 27), (1, 35)], 27) := by decide +kernel
theorem dX1_without_28 : decode cX1_without 28 = .ok (.aload_n 0, 1) := by decide +kernel
theorem dX1_without_29 : decode cX1_without 29 = .ok (.getfield 17, 3) := by decide +kernel
theorem dX1_without_32 : decode cX1_without 32 = .ok (.bipush 7, 2) := by decide +kernel
theorem dX1_without_34 : decode cX1_without 34 = .ok (.iaload, 1) := by decide +kernel
theorem dX1_without_35 : decode cX1_without 35 = .ok (.ireturn, 1) := by decide +kernel
theorem dX1_without_36 : decode cX1_without 36 = .ok (.aload_n 0, 1) := by decide +kernel
theorem dX1_without_37 : decode cX1_without 37 = .ok (.getfield 17, 3) := by decide +kernel
theorem dX1_without_40 : decode cX1_without 40 = .ok (.bipush 8, 2) := by decide +kernel
theorem dX1_without_42 : decode cX1_without 42 = .ok (.iaload, 1) := by decide +kernel
theorem dX1_without_43 : decode cX1_without 43 = .ok (.ireturn, 1) := by decide +kernel
theorem dX1_without_44 : decode cX1_without 44 = .ok (.iconst 1, 1) := by decide +kernel
theorem dX1_without_45 : decode cX1_without 45 = .ok (.ireturn, 1) := by decide +kernel
theorem dX1_take_0 : decode cX1_take 0 = .ok (.iload_n 1, 1) := by decide +kernel
theorem dX1_take_1 : decode cX1_take 1 = .ok (.sipush 10000, 3) := by decide +kernel
theorem dX1_take_4 : decode cX1_take 4 = .ok (.if_icmp .ge 12, 3) := by decide +kernel
theorem dX1_take_7 : decode cX1_take 7 = .ok (.aload_n 0, 1) := by decide +kernel
theorem dX1_take_8 : decode cX1_take 8 = .ok (.iload_n 1, 1) := by decide +kernel
theorem dX1_take_9 : decode cX1_take 9 = .ok (.i2l, 1) := by decide +kernel
theorem dX1_take_10 : decode cX1_take 10 = .ok (.invokevirtual 97, 3) := by decide +kernel
theorem dX1_take_13 : decode cX1_take 13 = .ok (.goto 115, 3) := by decide +kernel
theorem dX1_take_16 : decode cX1_take 16 = .ok (.iload_n 1, 1) := by decide +kernel
theorem dX1_take_17 : decode cX1_take 17 = .ok (.sipush 20000, 3) := by decide +kernel
theorem dX1_take_20 : decode cX1_take 20 = .ok (.if_icmp .ge 33, 3) := by decide +kernel
theorem dX1_take_23 : decode cX1_take 23 = .ok (.iload_n 1, 1) := by decide +kernel
theorem dX1_take_24 : decode cX1_take 24 = .ok (.sipush 10000, 3) := by decide +kernel
theorem dX1_take_27 : decode cX1_take 27 = .ok (.isub, 1) := by decide +kernel
theorem dX1_take_28 : decode cX1_take 28 = .ok (.istore_n 2, 1) := by decide +kernel
theorem dX1_take_29 : decode cX1_take 29 = .ok (.aload_n 0, 1) := by decide +kernel
theorem dX1_take_30 : decode cX1_take 30 = .ok (.iload_n 2, 1) := by decide +kernel
theorem dX1_take_31 : decode cX1_take 31 = .ok (.bipush 9, 2) := by decide +kernel
theorem dX1_take_33 : decode cX1_take 33 = .ok (.if_icmp .ge 13, 3) := by decide +kernel
theorem dX1_take_36 : decode cX1_take 36 = .ok (.aload_n 0, 1) := by decide +kernel
theorem dX1_take_37 : decode cX1_take 37 = .ok (.getfield 17, 3) := by decide +kernel
theorem dX1_take_40 : decode cX1_take 40 = .ok (.iload_n 2, 1) := by decide +kernel
theorem dX1_take_41 : decode cX1_take 41 = .ok (.iaload, 1) := by decide +kernel
theorem dX1_take_42 : decode cX1_take 42 = .ok (.i2l, 1) := by decide +kernel
theorem dX1_take_43 : decode cX1_take 43 = .ok (.goto 4, 3) := by decide +kernel
theorem dX1_take_46 : decode cX1_take 46 = .ok (.lconst 0, 1) := by decide +kernel
theorem dX1_take_47 : decode cX1_take 47 = .ok (.invokevirtual 97, 3) := by decide +kernel
theorem dX1_take_50 : decode cX1_take 50 = .ok (.goto 78, 3) := by decide +kernel
theorem dX1_take_53 : decode cX1_take 53 = .ok (.aload_n 0, 1) := by decide +kernel
theorem dX1_take_54 : decode cX1_take 54 = .ok (.invokevirtual 85, 3) := by decide +kernel
theorem dX1_take_57 : decode cX1_take 57 = .ok (.istore_n 2, 1) := by decide +kernel
theorem dX1_take_58 : decode cX1_take 58 = .ok (.iload_n 1, 1) := by decide +kernel
theorem dX1_take_59 : decode cX1_take 59 = .ok (.sipush 20000, 3) := by decide +kernel
theorem dX1_take_62 : decode cX1_take 62 = .ok (.isub, 1) := by decide +kernel
theorem dX1_take_63 : decode cX1_take 63 = .ok (.lookupswitch 46 #[(28, 35), (38, 25)], 25) := by decide +kernel
theorem dX1_take_88 : decode cX1_take 88 = .ok (.aload_n 0, 1) := by decide +kernel
theorem dX1_take_89 : decode cX1_take 89 = .ok (.iload_n 2, 1) := by decide +kernel
theorem dX1_take_90 : decode cX1_take 90 = .ok (.ineg, 1) := by decide +kernel
theorem dX1_take_91 : decode cX1_take 91 = .ok (.i2l, 1) := by decide +kernel
theorem dX1_take_92 : decode cX1_take 92 = .ok (.invokevirtual 97, 3) := by decide +kernel
theorem dX1_take_95 : decode cX1_take 95 = .ok (.goto 33, 3) := by decide +kernel
theorem dX1_take_98 : decode cX1_take 98 = .ok (.aload_n 0, 1) := by decide +kernel
theorem dX1_take_99 : decode cX1_take 99 = .ok (.iconst 1, 1) := by decide +kernel
theorem dX1_take_100 : decode cX1_take 100 = .ok (.iload_n 2, 1) := by decide +kernel
theorem dX1_take_101 : decode cX1_take 101 = .ok (.isub, 1) := by decide +kernel
theorem dX1_take_102 : decode cX1_take 102 = .ok (.i2l, 1) := by decide +kernel
theorem dX1_take_103 : decode cX1_take 103 = .ok (.invokevirtual 97, 3) := by decide +kernel
theorem dX1_take_106 : decode cX1_take 106 = .ok (.goto 22, 3) := by decide +kernel
theorem dX1_take_109 : decode cX1_take 109 = .ok (.aload_n 0, 1) := by decide +kernel
theorem dX1_take_110 : decode cX1_take 110 = .ok (.iload_n 1, 1) := by decide +kernel
theorem dX1_take_111 : decode cX1_take 111 = .ok (.sipush 20000, 3) := by decide +kernel
theorem dX1_take_114 : decode cX1_take 114 = .ok (.isub, 1) := by decide +kernel
theorem dX1_take_115 : decode cX1_take 115 = .ok (.aload_n 0, 1) := by decide +kernel
theorem dX1_take_116 : decode cX1_take 116 = .ok (.invokevirtual 85, 3) := by decide +kernel
theorem dX1_take_119 : decode cX1_take 119 = .ok (.i2l, 1) := by decide +kernel
theorem dX1_take_120 : decode cX1_take 120 = .ok (.iload_n 2, 1) := by decide +kernel
theorem dX1_take_121 : decode cX1_take 121 = .ok (.i2l, 1) := by decide +kernel
theorem dX1_take_122 : decode cX1_take 122 = .ok (.invokestatic 101, 3) := by decide +kernel
theorem dX1_take_125 : decode cX1_take 125 = .ok (.invokevirtual 97, 3) := by decide +kernel
theorem dX1_take_128 : decode cX1_take 128 = .ok (.return_, 1) := by decide +kernel
theorem dX1_push_0 : decode cX1_push 0 = .ok (.aload_n 0, 1) := by decide +kernel
theorem dX1_push_1 : decode cX1_push 1 = .ok (.getfield 24, 3) := by decide +kernel
theorem dX1_push_4 : decode cX1_push 4 = .ok (.ifCond .lt 62, 3) := by decide +kernel
theorem dX1_push_7 : decode cX1_push 7 = .ok (.aload_n 0, 1) := by decide +kernel
theorem dX1_push_8 : decode cX1_push 8 = .ok (.getfield 24, 3) := by decide +kernel
theorem dX1_push_11 : decode cX1_push 11 = .ok (.aload_n 0, 1) := by decide +kernel
theorem dX1_push_12 : decode cX1_push 12 = .ok (.getfield 21, 3) := by decide +kernel
theorem dX1_push_15 : decode cX1_push 15 = .ok (.arraylength, 1) := by decide +kernel
theorem dX1_push_16 : decode cX1_push 16 = .ok (.if_icmp .ge 50, 3) := by decide +kernel
theorem dX1_push_19 : decode cX1_push 19 = .ok (.aload_n 0, 1) := by decide +kernel
theorem dX1_push_20 : decode cX1_push 20 = .ok (.getfield 21, 3) := by decide +kernel
theorem dX1_push_23 : decode cX1_push 23 = .ok (.aload_n 0, 1) := by decide +kernel
theorem dX1_push_24 : decode cX1_push 24 = .ok (.getfield 24, 3) := by decide +kernel
theorem dX1_push_27 : decode cX1_push 27 = .ok (.lload_n 1, 1) := by decide +kernel
theorem dX1_push_28 : decode cX1_push 28 = .ok (.ldc2_w 105, 3) := by decide +kernel
theorem dX1_push_31 : decode cX1_push 31 = .ok (.lcmp, 1) := by decide +kernel
theorem dX1_push_32 : decode cX1_push 32 = .ok (.ifCond .le 8, 3) := by decide +kernel
theorem dX1_push_35 : decode cX1_push 35 = .ok (.ldc 107, 2) := by decide +kernel
theorem dX1_push_37 : decode cX1_push 37 = .ok (.goto 18, 3) := by decide +kernel
theorem dX1_push_40 : decode cX1_push 40 = .ok (.lload_n 1, 1) := by decide +kernel
theorem dX1_push_41 : decode cX1_push 41 = .ok (.ldc2_w 108, 3) := by decide +kernel
theorem dX1_push_44 : decode cX1_push 44 = .ok (.lcmp, 1) := by decide +kernel
theorem dX1_push_45 : decode cX1_push 45 = .ok (.ifCond .ge 8, 3) := by decide +kernel
theorem dX1_push_48 : decode cX1_push 48 = .ok (.ldc 110, 2) := by decide +kernel
theorem dX1_push_50 : decode cX1_push 50 = .ok (.goto 5, 3) := by decide +kernel
theorem dX1_push_53 : decode cX1_push 53 = .ok (.lload_n 1, 1) := by decide +kernel
theorem dX1_push_54 : decode cX1_push 54 = .ok (.l2i, 1) := by decide +kernel
theorem dX1_push_55 : decode cX1_push 55 = .ok (.iastore, 1) := by decide +kernel
theorem dX1_push_56 : decode cX1_push 56 = .ok (.aload_n 0, 1) := by decide +kernel
theorem dX1_push_57 : decode cX1_push 57 = .ok (.dup, 1) := by decide +kernel
theorem dX1_push_58 : decode cX1_push 58 = .ok (.getfield 24, 3) := by decide +kernel
theorem dX1_push_61 : decode cX1_push 61 = .ok (.iconst 1, 1) := by decide +kernel
theorem dX1_push_62 : decode cX1_push 62 = .ok (.iadd, 1) := by decide +kernel
theorem dX1_push_63 : decode cX1_push 63 = .ok (.putfield 24, 3) := by decide +kernel
theorem dX1_push_66 : decode cX1_push 66 = .ok (.return_, 1) := by decide +kernel
theorem dX1_pop_0 : decode cX1_pop 0 = .ok (.aload_n 0, 1) := by decide +kernel
theorem dX1_pop_1 : decode cX1_pop 1 = .ok (.getfield 24, 3) := by decide +kernel
theorem dX1_pop_4 : decode cX1_pop 4 = .ok (.iconst 1, 1) := by decide +kernel
theorem dX1_pop_5 : decode cX1_pop 5 = .ok (.if_icmp .lt 15, 3) := by decide +kernel
theorem dX1_pop_8 : decode cX1_pop 8 = .ok (.aload_n 0, 1) := by decide +kernel
theorem dX1_pop_9 : decode cX1_pop 9 = .ok (.getfield 24, 3) := by decide +kernel
theorem dX1_pop_12 : decode cX1_pop 12 = .ok (.aload_n 0, 1) := by decide +kernel
theorem dX1_pop_13 : decode cX1_pop 13 = .ok (.getfield 21, 3) := by decide +kernel
theorem dX1_pop_16 : decode cX1_pop 16 = .ok (.arraylength, 1) := by decide +kernel
theorem dX1_pop_17 : decode cX1_pop 17 = .ok (.if_icmp .le 5, 3) := by decide +kernel
theorem dX1_pop_20 : decode cX1_pop 20 = .ok (.iconst 0, 1) := by decide +kernel
theorem dX1_pop_21 : decode cX1_pop 21 = .ok (.ireturn, 1) := by decide +kernel
theorem dX1_pop_22 : decode cX1_pop 22 = .ok (.aload_n 0, 1) := by decide +kernel
theorem dX1_pop_23 : decode cX1_pop 23 = .ok (.dup, 1) := by decide +kernel
theorem dX1_pop_24 : decode cX1_pop 24 = .ok (.getfield 24, 3) := by decide +kernel
theorem dX1_pop_27 : decode cX1_pop 27 = .ok (.iconst 1, 1) := by decide +kernel
theorem dX1_pop_28 : decode cX1_pop 28 = .ok (.isub, 1) := by decide +kernel
theorem dX1_pop_29 : decode cX1_pop 29 = .ok (.putfield 24, 3) := by decide +kernel
theorem dX1_pop_32 : decode cX1_pop 32 = .ok (.aload_n 0, 1) := by decide +kernel
theorem dX1_pop_33 : decode cX1_pop 33 = .ok (.getfield 21, 3) := by decide +kernel
theorem dX1_pop_36 : decode cX1_pop 36 = .ok (.aload_n 0, 1) := by decide +kernel
theorem dX1_pop_37 : decode cX1_pop 37 = .ok (.getfield 24, 3) := by decide +kernel
theorem dX1_pop_40 : decode cX1_pop 40 = .ok (.iaload, 1) := by decide +kernel
theorem dX1_pop_41 : decode cX1_pop 41 = .ok (.ireturn, 1) := by decide +kernel
theorem dX1_joined_0 : decode cX1_joined 0 = .ok (.iload_n 0, 1) := by decide +kernel
theorem dX1_joined_1 : decode cX1_joined 1 = .ok (.tableswitch 217 3 27 #[141, 153, 165, 177, 189, 201, 115, 119, 123, 127, 217, 217, 217, 217, 217, 217, 217, 217, 217, 217, 217, 217, 217, 217, 213], 115) := by decide +kernel
theorem dX1_joined_116 : decode cX1_joined 116 = .ok (.lload_n 1, 1) := by decide +kernel
theorem dX1_joined_117 : decode cX1_joined 117 = .ok (.lload_n 3, 1) := by decide +kernel
theorem dX1_joined_118 : decode cX1_joined 118 = .ok (.ladd, 1) := by decide +kernel
theorem dX1_joined_119 : decode cX1_joined 119 = .ok (.lreturn, 1) := by decide +kernel
theorem dX1_joined_120 : decode cX1_joined 120 = .ok (.lload_n 1, 1) := by decide +kernel
theorem dX1_joined_121 : decode cX1_joined 121 = .ok (.lload_n 3, 1) := by decide +kernel
theorem dX1_joined_122 : decode cX1_joined 122 = .ok (.lsub, 1) := by decide +kernel
theorem dX1_joined_123 : decode cX1_joined 123 = .ok (.lreturn, 1) := by decide +kernel
theorem dX1_joined_124 : decode cX1_joined 124 = .ok (.lload_n 1, 1) := by decide +kernel
theorem dX1_joined_125 : decode cX1_joined 125 = .ok (.lload_n 3, 1) := by decide +kernel
theorem dX1_joined_126 : decode cX1_joined 126 = .ok (.lmul, 1) := by decide +kernel
theorem dX1_joined_127 : decode cX1_joined 127 = .ok (.lreturn, 1) := by decide +kernel
theorem dX1_joined_128 : decode cX1_joined 128 = .ok (.lload_n 3, 1) := by decide +kernel
theorem dX1_joined_129 : decode cX1_joined 129 = .ok (.lconst 0, 1) := by decide +kernel
theorem dX1_joined_130 : decode cX1_joined 130 = .ok (.lcmp, 1) := by decide +kernel
theorem dX1_joined_131 : decode cX1_joined 131 = .ok (.ifCond .ne 7, 3) := by decide +kernel
theorem dX1_joined_134 : decode cX1_joined 134 = .ok (.lconst 0, 1) := by decide +kernel
theorem dX1_joined_135 : decode cX1_joined 135 = .ok (.goto 6, 3) := by decide +kernel
theorem dX1_joined_138 : decode cX1_joined 138 = .ok (.lload_n 1, 1) := by decide +kernel
theorem dX1_joined_139 : decode cX1_joined 139 = .ok (.lload_n 3, 1) := by decide +kernel
theorem dX1_joined_140 : decode cX1_joined 140 = .ok (.ldiv, 1) := by decide +kernel
theorem dX1_joined_141 : decode cX1_joined 141 = .ok (.lreturn, 1) := by decide +kernel
theorem dX1_joined_142 : decode cX1_joined 142 = .ok (.lload_n 1, 1) := by decide +kernel
theorem dX1_joined_143 : decode cX1_joined 143 = .ok (.lload_n 3, 1) := by decide +kernel
theorem dX1_joined_144 : decode cX1_joined 144 = .ok (.lcmp, 1) := by decide +kernel
theorem dX1_joined_145 : decode cX1_joined 145 = .ok (.ifCond .ge 7, 3) := by decide +kernel
theorem dX1_joined_148 : decode cX1_joined 148 = .ok (.lconst 1, 1) := by decide +kernel
theorem dX1_joined_149 : decode cX1_joined 149 = .ok (.goto 4, 3) := by decide +kernel
theorem dX1_joined_152 : decode cX1_joined 152 = .ok (.lconst 0, 1) := by decide +kernel
theorem dX1_joined_153 : decode cX1_joined 153 = .ok (.lreturn, 1) := by decide +kernel
theorem dX1_joined_154 : decode cX1_joined 154 = .ok (.lload_n 1, 1) := by decide +kernel
theorem dX1_joined_155 : decode cX1_joined 155 = .ok (.lload_n 3, 1) := by decide +kernel
theorem dX1_joined_156 : decode cX1_joined 156 = .ok (.lcmp, 1) := by decide +kernel
theorem dX1_joined_157 : decode cX1_joined 157 = .ok (.ifCond .gt 7, 3) := by decide +kernel
theorem dX1_joined_160 : decode cX1_joined 160 = .ok (.lconst 1, 1) := by decide +kernel
theorem dX1_joined_161 : decode cX1_joined 161 = .ok (.goto 4, 3) := by decide +kernel
theorem dX1_joined_164 : decode cX1_joined 164 = .ok (.lconst 0, 1) := by decide +kernel
theorem dX1_joined_165 : decode cX1_joined 165 = .ok (.lreturn, 1) := by decide +kernel
theorem dX1_joined_166 : decode cX1_joined 166 = .ok (.lload_n 1, 1) := by decide +kernel
theorem dX1_joined_167 : decode cX1_joined 167 = .ok (.lload_n 3, 1) := by decide +kernel
theorem dX1_joined_168 : decode cX1_joined 168 = .ok (.lcmp, 1) := by decide +kernel
theorem dX1_joined_169 : decode cX1_joined 169 = .ok (.ifCond .le 7, 3) := by decide +kernel
theorem dX1_joined_172 : decode cX1_joined 172 = .ok (.lconst 1, 1) := by decide +kernel
theorem dX1_joined_173 : decode cX1_joined 173 = .ok (.goto 4, 3) := by decide +kernel
theorem dX1_joined_176 : decode cX1_joined 176 = .ok (.lconst 0, 1) := by decide +kernel
theorem dX1_joined_177 : decode cX1_joined 177 = .ok (.lreturn, 1) := by decide +kernel
theorem dX1_joined_178 : decode cX1_joined 178 = .ok (.lload_n 1, 1) := by decide +kernel
theorem dX1_joined_179 : decode cX1_joined 179 = .ok (.lload_n 3, 1) := by decide +kernel
theorem dX1_joined_180 : decode cX1_joined 180 = .ok (.lcmp, 1) := by decide +kernel
theorem dX1_joined_181 : decode cX1_joined 181 = .ok (.ifCond .lt 7, 3) := by decide +kernel
theorem dX1_joined_184 : decode cX1_joined 184 = .ok (.lconst 1, 1) := by decide +kernel
theorem dX1_joined_185 : decode cX1_joined 185 = .ok (.goto 4, 3) := by decide +kernel
theorem dX1_joined_188 : decode cX1_joined 188 = .ok (.lconst 0, 1) := by decide +kernel
theorem dX1_joined_189 : decode cX1_joined 189 = .ok (.lreturn, 1) := by decide +kernel
theorem dX1_joined_190 : decode cX1_joined 190 = .ok (.lload_n 1, 1) := by decide +kernel
theorem dX1_joined_191 : decode cX1_joined 191 = .ok (.lload_n 3, 1) := by decide +kernel
theorem dX1_joined_192 : decode cX1_joined 192 = .ok (.lcmp, 1) := by decide +kernel
theorem dX1_joined_193 : decode cX1_joined 193 = .ok (.ifCond .ne 7, 3) := by decide +kernel
theorem dX1_joined_196 : decode cX1_joined 196 = .ok (.lconst 1, 1) := by decide +kernel
theorem dX1_joined_197 : decode cX1_joined 197 = .ok (.goto 4, 3) := by decide +kernel
theorem dX1_joined_200 : decode cX1_joined 200 = .ok (.lconst 0, 1) := by decide +kernel
theorem dX1_joined_201 : decode cX1_joined 201 = .ok (.lreturn, 1) := by decide +kernel
theorem dX1_joined_202 : decode cX1_joined 202 = .ok (.lload_n 1, 1) := by decide +kernel
theorem dX1_joined_203 : decode cX1_joined 203 = .ok (.lload_n 3, 1) := by decide +kernel
theorem dX1_joined_204 : decode cX1_joined 204 = .ok (.lcmp, 1) := by decide +kernel
theorem dX1_joined_205 : decode cX1_joined 205 = .ok (.ifCond .eq 7, 3) := by decide +kernel
theorem dX1_joined_208 : decode cX1_joined 208 = .ok (.lconst 1, 1) := by decide +kernel
theorem dX1_joined_209 : decode cX1_joined 209 = .ok (.goto 4, 3) := by decide +kernel
theorem dX1_joined_212 : decode cX1_joined 212 = .ok (.lconst 0, 1) := by decide +kernel
theorem dX1_joined_213 : decode cX1_joined 213 = .ok (.lreturn, 1) := by decide +kernel
theorem dX1_joined_214 : decode cX1_joined 214 = .ok (.lload_n 1, 1) := by decide +kernel
theorem dX1_joined_215 : decode cX1_joined 215 = .ok (.lload_n 3, 1) := by decide +kernel
theorem dX1_joined_216 : decode cX1_joined 216 = .ok (.land, 1) := by decide +kernel
theorem dX1_joined_217 : decode cX1_joined 217 = .ok (.lreturn, 1) := by decide +kernel
theorem dX1_joined_218 : decode cX1_joined 218 = .ok (.lload_n 1, 1) := by decide +kernel
theorem dX1_joined_219 : decode cX1_joined 219 = .ok (.lload_n 3, 1) := by decide +kernel
theorem dX1_joined_220 : decode cX1_joined 220 = .ok (.lor, 1) := by decide +kernel
theorem dX1_joined_221 : decode cX1_joined 221 = .ok (.lreturn, 1) := by decide +kernel
