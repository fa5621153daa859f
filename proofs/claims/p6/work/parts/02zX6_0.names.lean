theorem dX6_clear_0 : decode cX6_clear 0 = .ok (.aload_n 0, 1) := by decide +kernel
theorem dX6_clear_1 : decode cX6_clear 1 = .ok (.iconst 0, 1) := by decide +kernel
theorem dX6_clear_2 : decode cX6_clear 2 = .ok (.putfield 15, 3) := by decide +kernel
theorem dX6_clear_5 : decode cX6_clear 5 = .ok (.aload_n 0, 1) := by decide +kernel
theorem dX6_clear_6 : decode cX6_clear 6 = .ok (.iconst 0, 1) := by decide +kernel
theorem dX6_clear_7 : decode cX6_clear 7 = .ok (.putfield 28, 3) := by decide +kernel
theorem dX6_clear_10 : decode cX6_clear 10 = .ok (.iconst 0, 1) := by decide +kernel
theorem dX6_clear_11 : decode cX6_clear 11 = .ok (.istore_n 1, 1) := by decide +kernel
theorem dX6_clear_12 : decode cX6_clear 12 = .ok (.iload_n 1, 1) := by decide +kernel
theorem dX6_clear_13 : decode cX6_clear 13 = .ok (.iconst 4, 1) := by decide +kernel
theorem dX6_clear_14 : decode cX6_clear 14 = .ok (.if_icmp .ge 23, 3) := by decide +kernel
theorem dX6_clear_17 : decode cX6_clear 17 = .ok (.aload_n 0, 1) := by decide +kernel
theorem dX6_clear_18 : decode cX6_clear 18 = .ok (.getfield 22, 3) := by decide +kernel
theorem dX6_clear_21 : decode cX6_clear 21 = .ok (.iload_n 1, 1) := by decide +kernel
theorem dX6_clear_22 : decode cX6_clear 22 = .ok (.iconst (-1), 1) := by decide +kernel
theorem dX6_clear_23 : decode cX6_clear 23 = .ok (.iastore, 1) := by decide +kernel
theorem dX6_clear_24 : decode cX6_clear 24 = .ok (.aload_n 0, 1) := by decide +kernel
theorem dX6_clear_25 : decode cX6_clear 25 = .ok (.getfield 25, 3) := by decide +kernel
theorem dX6_clear_28 : decode cX6_clear 28 = .ok (.iload_n 1, 1) := by decide +kernel
theorem dX6_clear_29 : decode cX6_clear 29 = .ok (.iconst (-1), 1) := by decide +kernel
theorem dX6_clear_30 : decode cX6_clear 30 = .ok (.iastore, 1) := by decide +kernel
theorem dX6_clear_31 : decode cX6_clear 31 = .ok (.iinc 1 1, 3) := by decide +kernel
theorem dX6_clear_34 : decode cX6_clear 34 = .ok (.goto (-22), 3) := by decide +kernel
theorem dX6_clear_37 : decode cX6_clear 37 = .ok (.return_, 1) := by decide +kernel
theorem dX6_hasLaw_0 : decode cX6_hasLaw 0 = .ok (.iload_n 1, 1) := by decide +kernel
theorem dX6_hasLaw_1 : decode cX6_hasLaw 1 = .ok (.ifCond .lt 22, 3) := by decide +kernel
theorem dX6_hasLaw_4 : decode cX6_hasLaw 4 = .ok (.iload_n 1, 1) := by decide +kernel
theorem dX6_hasLaw_5 : decode cX6_hasLaw 5 = .ok (.iconst 4, 1) := by decide +kernel
theorem dX6_hasLaw_6 : decode cX6_hasLaw 6 = .ok (.if_icmp .ge 17, 3) := by decide +kernel
theorem dX6_hasLaw_9 : decode cX6_hasLaw 9 = .ok (.aload_n 0, 1) := by decide +kernel
theorem dX6_hasLaw_10 : decode cX6_hasLaw 10 = .ok (.getfield 22, 3) := by decide +kernel
theorem dX6_hasLaw_13 : decode cX6_hasLaw 13 = .ok (.iload_n 1, 1) := by decide +kernel
theorem dX6_hasLaw_14 : decode cX6_hasLaw 14 = .ok (.iaload, 1) := by decide +kernel
theorem dX6_hasLaw_15 : decode cX6_hasLaw 15 = .ok (.iconst (-1), 1) := by decide +kernel
theorem dX6_hasLaw_16 : decode cX6_hasLaw 16 = .ok (.if_icmp .eq 7, 3) := by decide +kernel
theorem dX6_hasLaw_19 : decode cX6_hasLaw 19 = .ok (.iconst 1, 1) := by decide +kernel
theorem dX6_hasLaw_20 : decode cX6_hasLaw 20 = .ok (.goto 4, 3) := by decide +kernel
theorem dX6_hasLaw_23 : decode cX6_hasLaw 23 = .ok (.iconst 0, 1) := by decide +kernel
theorem dX6_hasLaw_24 : decode cX6_hasLaw 24 = .ok (.ireturn, 1) := by decide +kernel
theorem dX6_beginLaw_0 : decode cX6_beginLaw 0 = .ok (.iload_n 1, 1) := by decide +kernel
theorem dX6_beginLaw_1 : decode cX6_beginLaw 1 = .ok (.ifCond .lt 18, 3) := by decide +kernel
theorem dX6_beginLaw_4 : decode cX6_beginLaw 4 = .ok (.iload_n 1, 1) := by decide +kernel
theorem dX6_beginLaw_5 : decode cX6_beginLaw 5 = .ok (.iconst 4, 1) := by decide +kernel
theorem dX6_beginLaw_6 : decode cX6_beginLaw 6 = .ok (.if_icmp .ge 13, 3) := by decide +kernel
theorem dX6_beginLaw_9 : decode cX6_beginLaw 9 = .ok (.aload_n 0, 1) := by decide +kernel
theorem dX6_beginLaw_10 : decode cX6_beginLaw 10 = .ok (.getfield 22, 3) := by decide +kernel
theorem dX6_beginLaw_13 : decode cX6_beginLaw 13 = .ok (.iload_n 1, 1) := by decide +kernel
theorem dX6_beginLaw_14 : decode cX6_beginLaw 14 = .ok (.aload_n 0, 1) := by decide +kernel
theorem dX6_beginLaw_15 : decode cX6_beginLaw 15 = .ok (.getfield 28, 3) := by decide +kernel
theorem dX6_beginLaw_18 : decode cX6_beginLaw 18 = .ok (.iastore, 1) := by decide +kernel
theorem dX6_beginLaw_19 : decode cX6_beginLaw 19 = .ok (.return_, 1) := by decide +kernel
theorem dX6_closeLaw_0 : decode cX6_closeLaw 0 = .ok (.iload_n 1, 1) := by decide +kernel
theorem dX6_closeLaw_1 : decode cX6_closeLaw 1 = .ok (.ifCond .lt 18, 3) := by decide +kernel
theorem dX6_closeLaw_4 : decode cX6_closeLaw 4 = .ok (.iload_n 1, 1) := by decide +kernel
theorem dX6_closeLaw_5 : decode cX6_closeLaw 5 = .ok (.iconst 4, 1) := by decide +kernel
theorem dX6_closeLaw_6 : decode cX6_closeLaw 6 = .ok (.if_icmp .ge 13, 3) := by decide +kernel
theorem dX6_closeLaw_9 : decode cX6_closeLaw 9 = .ok (.aload_n 0, 1) := by decide +kernel
theorem dX6_closeLaw_10 : decode cX6_closeLaw 10 = .ok (.getfield 25, 3) := by decide +kernel
theorem dX6_closeLaw_13 : decode cX6_closeLaw 13 = .ok (.iload_n 1, 1) := by decide +kernel
theorem dX6_closeLaw_14 : decode cX6_closeLaw 14 = .ok (.aload_n 0, 1) := by decide +kernel
theorem dX6_closeLaw_15 : decode cX6_closeLaw 15 = .ok (.getfield 28, 3) := by decide +kernel
theorem dX6_closeLaw_18 : decode cX6_closeLaw 18 = .ok (.iastore, 1) := by decide +kernel
theorem dX6_closeLaw_19 : decode cX6_closeLaw 19 = .ok (.return_, 1) := by decide +kernel
theorem dX6_firstStep_0 : decode cX6_firstStep 0 = .ok (.iload_n 1, 1) := by decide +kernel
theorem dX6_firstStep_1 : decode cX6_firstStep 1 = .ok (.ifCond .lt 17, 3) := by decide +kernel
theorem dX6_firstStep_4 : decode cX6_firstStep 4 = .ok (.iload_n 1, 1) := by decide +kernel
theorem dX6_firstStep_5 : decode cX6_firstStep 5 = .ok (.iconst 4, 1) := by decide +kernel
theorem dX6_firstStep_6 : decode cX6_firstStep 6 = .ok (.if_icmp .ge 12, 3) := by decide +kernel
theorem dX6_firstStep_9 : decode cX6_firstStep 9 = .ok (.aload_n 0, 1) := by decide +kernel
theorem dX6_firstStep_10 : decode cX6_firstStep 10 = .ok (.getfield 22, 3) := by decide +kernel
theorem dX6_firstStep_13 : decode cX6_firstStep 13 = .ok (.iload_n 1, 1) := by decide +kernel
theorem dX6_firstStep_14 : decode cX6_firstStep 14 = .ok (.iaload, 1) := by decide +kernel
theorem dX6_firstStep_15 : decode cX6_firstStep 15 = .ok (.goto 4, 3) := by decide +kernel
theorem dX6_firstStep_18 : decode cX6_firstStep 18 = .ok (.iconst 0, 1) := by decide +kernel
theorem dX6_firstStep_19 : decode cX6_firstStep 19 = .ok (.ireturn, 1) := by decide +kernel
theorem dX6_stepsEnd_0 : decode cX6_stepsEnd 0 = .ok (.iload_n 1, 1) := by decide +kernel
theorem dX6_stepsEnd_1 : decode cX6_stepsEnd 1 = .ok (.ifCond .lt 17, 3) := by decide +kernel
theorem dX6_stepsEnd_4 : decode cX6_stepsEnd 4 = .ok (.iload_n 1, 1) := by decide +kernel
theorem dX6_stepsEnd_5 : decode cX6_stepsEnd 5 = .ok (.iconst 4, 1) := by decide +kernel
theorem dX6_stepsEnd_6 : decode cX6_stepsEnd 6 = .ok (.if_icmp .ge 12, 3) := by decide +kernel
theorem dX6_stepsEnd_9 : decode cX6_stepsEnd 9 = .ok (.aload_n 0, 1) := by decide +kernel
theorem dX6_stepsEnd_10 : decode cX6_stepsEnd 10 = .ok (.getfield 25, 3) := by decide +kernel
theorem dX6_stepsEnd_13 : decode cX6_stepsEnd 13 = .ok (.iload_n 1, 1) := by decide +kernel
theorem dX6_stepsEnd_14 : decode cX6_stepsEnd 14 = .ok (.iaload, 1) := by decide +kernel
theorem dX6_stepsEnd_15 : decode cX6_stepsEnd 15 = .ok (.goto 4, 3) := by decide +kernel
theorem dX6_stepsEnd_18 : decode cX6_stepsEnd 18 = .ok (.iconst 0, 1) := by decide +kernel
theorem dX6_stepsEnd_19 : decode cX6_stepsEnd 19 = .ok (.ireturn, 1) := by decide +kernel
theorem dX6_addStep_0 : decode cX6_addStep 0 = .ok (.aload_n 0, 1) := by decide +kernel
theorem dX6_addStep_1 : decode cX6_addStep 1 = .ok (.getfield 28, 3) := by decide +kernel
theorem dX6_addStep_4 : decode cX6_addStep 4 = .ok (.aload_n 0, 1) := by decide +kernel
theorem dX6_addStep_5 : decode cX6_addStep 5 = .ok (.getfield 19, 3) := by decide +kernel
theorem dX6_addStep_8 : decode cX6_addStep 8 = .ok (.arraylength, 1) := by decide +kernel
theorem dX6_addStep_9 : decode cX6_addStep 9 = .ok (.if_icmp .ge 23, 3) := by decide +kernel
theorem dX6_addStep_12 : decode cX6_addStep 12 = .ok (.aload_n 0, 1) := by decide +kernel
theorem dX6_addStep_13 : decode cX6_addStep 13 = .ok (.getfield 19, 3) := by decide +kernel
theorem dX6_addStep_16 : decode cX6_addStep 16 = .ok (.aload_n 0, 1) := by decide +kernel
theorem dX6_addStep_17 : decode cX6_addStep 17 = .ok (.getfield 28, 3) := by decide +kernel
theorem dX6_addStep_20 : decode cX6_addStep 20 = .ok (.iload_n 1, 1) := by decide +kernel
theorem dX6_addStep_21 : decode cX6_addStep 21 = .ok (.iastore, 1) := by decide +kernel
theorem dX6_addStep_22 : decode cX6_addStep 22 = .ok (.aload_n 0, 1) := by decide +kernel
theorem dX6_addStep_23 : decode cX6_addStep 23 = .ok (.dup, 1) := by decide +kernel
theorem dX6_addStep_24 : decode cX6_addStep 24 = .ok (.getfield 28, 3) := by decide +kernel
theorem dX6_addStep_27 : decode cX6_addStep 27 = .ok (.iconst 1, 1) := by decide +kernel
theorem dX6_addStep_28 : decode cX6_addStep 28 = .ok (.iadd, 1) := by decide +kernel
theorem dX6_addStep_29 : decode cX6_addStep 29 = .ok (.putfield 28, 3) := by decide +kernel
theorem dX6_addStep_32 : decode cX6_addStep 32 = .ok (.return_, 1) := by decide +kernel
theorem dX6_stepAt_0 : decode cX6_stepAt 0 = .ok (.iload_n 1, 1) := by decide +kernel
theorem dX6_stepAt_1 : decode cX6_stepAt 1 = .ok (.ifCond .lt 29, 3) := by decide +kernel
theorem dX6_stepAt_4 : decode cX6_stepAt 4 = .ok (.iload_n 1, 1) := by decide +kernel
theorem dX6_stepAt_5 : decode cX6_stepAt 5 = .ok (.aload_n 0, 1) := by decide +kernel
theorem dX6_stepAt_6 : decode cX6_stepAt 6 = .ok (.getfield 28, 3) := by decide +kernel
theorem dX6_stepAt_9 : decode cX6_stepAt 9 = .ok (.if_icmp .ge 21, 3) := by decide +kernel
theorem dX6_stepAt_12 : decode cX6_stepAt 12 = .ok (.iload_n 1, 1) := by decide +kernel
theorem dX6_stepAt_13 : decode cX6_stepAt 13 = .ok (.aload_n 0, 1) := by decide +kernel
theorem dX6_stepAt_14 : decode cX6_stepAt 14 = .ok (.getfield 19, 3) := by decide +kernel
theorem dX6_stepAt_17 : decode cX6_stepAt 17 = .ok (.arraylength, 1) := by decide +kernel
theorem dX6_stepAt_18 : decode cX6_stepAt 18 = .ok (.if_icmp .ge 12, 3) := by decide +kernel
theorem dX6_stepAt_21 : decode cX6_stepAt 21 = .ok (.aload_n 0, 1) := by decide +kernel
theorem dX6_stepAt_22 : decode cX6_stepAt 22 = .ok (.getfield 19, 3) := by decide +kernel
theorem dX6_stepAt_25 : decode cX6_stepAt 25 = .ok (.iload_n 1, 1) := by decide +kernel
theorem dX6_stepAt_26 : decode cX6_stepAt 26 = .ok (.iaload, 1) := by decide +kernel
theorem dX6_stepAt_27 : decode cX6_stepAt 27 = .ok (.goto 4, 3) := by decide +kernel
theorem dX6_stepAt_30 : decode cX6_stepAt 30 = .ok (.iconst 0, 1) := by decide +kernel
theorem dX6_stepAt_31 : decode cX6_stepAt 31 = .ok (.ireturn, 1) := by decide +kernel
theorem dX6_clauseField_0 : decode cX6_clauseField 0 = .ok (.iload_n 1, 1) := by decide +kernel
theorem dX6_clauseField_1 : decode cX6_clauseField 1 = .ok (.ifCond .lt 18, 3) := by decide +kernel
theorem dX6_clauseField_4 : decode cX6_clauseField 4 = .ok (.iload_n 1, 1) := by decide +kernel
theorem dX6_clauseField_5 : decode cX6_clauseField 5 = .ok (.bipush 24, 2) := by decide +kernel
theorem dX6_clauseField_7 : decode cX6_clauseField 7 = .ok (.if_icmp .ge 12, 3) := by decide +kernel
theorem dX6_clauseField_10 : decode cX6_clauseField 10 = .ok (.iload_n 2, 1) := by decide +kernel
theorem dX6_clauseField_11 : decode cX6_clauseField 11 = .ok (.ifCond .lt 8, 3) := by decide +kernel
theorem dX6_clauseField_14 : decode cX6_clauseField 14 = .ok (.iload_n 2, 1) := by decide +kernel
theorem dX6_clauseField_15 : decode cX6_clauseField 15 = .ok (.iconst 4, 1) := by decide +kernel
theorem dX6_clauseField_16 : decode cX6_clauseField 16 = .ok (.if_icmp .lt 5, 3) := by decide +kernel
theorem dX6_clauseField_19 : decode cX6_clauseField 19 = .ok (.iconst (-1), 1) := by decide +kernel
theorem dX6_clauseField_20 : decode cX6_clauseField 20 = .ok (.ireturn, 1) := by decide +kernel
theorem dX6_clauseField_21 : decode cX6_clauseField 21 = .ok (.aload_n 0, 1) := by decide +kernel
theorem dX6_clauseField_22 : decode cX6_clauseField 22 = .ok (.getfield 9, 3) := by decide +kernel
theorem dX6_clauseField_25 : decode cX6_clauseField 25 = .ok (.iload_n 1, 1) := by decide +kernel
theorem dX6_clauseField_26 : decode cX6_clauseField 26 = .ok (.iconst 4, 1) := by decide +kernel
theorem dX6_clauseField_27 : decode cX6_clauseField 27 = .ok (.imul, 1) := by decide +kernel
theorem dX6_clauseField_28 : decode cX6_clauseField 28 = .ok (.iload_n 2, 1) := by decide +kernel
theorem dX6_clauseField_29 : decode cX6_clauseField 29 = .ok (.iadd, 1) := by decide +kernel
theorem dX6_clauseField_30 : decode cX6_clauseField 30 = .ok (.iaload, 1) := by decide +kernel
theorem dX6_clauseField_31 : decode cX6_clauseField 31 = .ok (.ireturn, 1) := by decide +kernel
theorem dX6_setClause_0 : decode cX6_setClause 0 = .ok (.iload_n 1, 1) := by decide +kernel
theorem dX6_setClause_1 : decode cX6_setClause 1 = .ok (.ifCond .lt 29, 3) := by decide +kernel
theorem dX6_setClause_4 : decode cX6_setClause 4 = .ok (.iload_n 1, 1) := by decide +kernel
theorem dX6_setClause_5 : decode cX6_setClause 5 = .ok (.bipush 24, 2) := by decide +kernel
theorem dX6_setClause_7 : decode cX6_setClause 7 = .ok (.if_icmp .ge 23, 3) := by decide +kernel
theorem dX6_setClause_10 : decode cX6_setClause 10 = .ok (.iload_n 2, 1) := by decide +kernel
theorem dX6_setClause_11 : decode cX6_setClause 11 = .ok (.ifCond .lt 19, 3) := by decide +kernel
theorem dX6_setClause_14 : decode cX6_setClause 14 = .ok (.iload_n 2, 1) := by decide +kernel
theorem dX6_setClause_15 : decode cX6_setClause 15 = .ok (.iconst 4, 1) := by decide +kernel
theorem dX6_setClause_16 : decode cX6_setClause 16 = .ok (.if_icmp .ge 14, 3) := by decide +kernel
theorem dX6_setClause_19 : decode cX6_setClause 19 = .ok (.aload_n 0, 1) := by decide +kernel
theorem dX6_setClause_20 : decode cX6_setClause 20 = .ok (.getfield 9, 3) := by decide +kernel
theorem dX6_setClause_23 : decode cX6_setClause 23 = .ok (.iload_n 1, 1) := by decide +kernel
theorem dX6_setClause_24 : decode cX6_setClause 24 = .ok (.iconst 4, 1) := by decide +kernel
theorem dX6_setClause_25 : decode cX6_setClause 25 = .ok (.imul, 1) := by decide +kernel
theorem dX6_setClause_26 : decode cX6_setClause 26 = .ok (.iload_n 2, 1) := by decide +kernel
theorem dX6_setClause_27 : decode cX6_setClause 27 = .ok (.iadd, 1) := by decide +kernel
theorem dX6_setClause_28 : decode cX6_setClause 28 = .ok (.iload_n 3, 1) := by decide +kernel
theorem dX6_setClause_29 : decode cX6_setClause 29 = .ok (.iastore, 1) := by decide +kernel
theorem dX6_setClause_30 : decode cX6_setClause 30 = .ok (.return_, 1) := by decide +kernel
