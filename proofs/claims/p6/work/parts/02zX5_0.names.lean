theorem dX5_addFour_0 : decode cX5_addFour 0 = .ok (.bipush 24, 2) := by decide +kernel
theorem dX5_addFour_2 : decode cX5_addFour 2 = .ok (.istore_n 2, 1) := by decide +kernel
theorem dX5_addFour_3 : decode cX5_addFour 3 = .ok (.iload_n 2, 1) := by decide +kernel
theorem dX5_addFour_4 : decode cX5_addFour 4 = .ok (.ifCond .lt 47, 3) := by decide +kernel
theorem dX5_addFour_7 : decode cX5_addFour 7 = .ok (.aload_n 0, 1) := by decide +kernel
theorem dX5_addFour_8 : decode cX5_addFour 8 = .ok (.getfield 15, 3) := by decide +kernel
theorem dX5_addFour_11 : decode cX5_addFour 11 = .ok (.aload_n 0, 1) := by decide +kernel
theorem dX5_addFour_12 : decode cX5_addFour 12 = .ok (.getfield 9, 3) := by decide +kernel
theorem dX5_addFour_15 : decode cX5_addFour 15 = .ok (.arraylength, 1) := by decide +kernel
theorem dX5_addFour_16 : decode cX5_addFour 16 = .ok (.if_icmp .ge 29, 3) := by decide +kernel
theorem dX5_addFour_19 : decode cX5_addFour 19 = .ok (.aload_n 0, 1) := by decide +kernel
theorem dX5_addFour_20 : decode cX5_addFour 20 = .ok (.getfield 9, 3) := by decide +kernel
theorem dX5_addFour_23 : decode cX5_addFour 23 = .ok (.aload_n 0, 1) := by decide +kernel
theorem dX5_addFour_24 : decode cX5_addFour 24 = .ok (.getfield 15, 3) := by decide +kernel
theorem dX5_addFour_27 : decode cX5_addFour 27 = .ok (.iload_n 1, 1) := by decide +kernel
theorem dX5_addFour_28 : decode cX5_addFour 28 = .ok (.iload_n 2, 1) := by decide +kernel
theorem dX5_addFour_29 : decode cX5_addFour 29 = .ok (.ishr, 1) := by decide +kernel
theorem dX5_addFour_30 : decode cX5_addFour 30 = .ok (.sipush 255, 3) := by decide +kernel
theorem dX5_addFour_33 : decode cX5_addFour 33 = .ok (.iand, 1) := by decide +kernel
theorem dX5_addFour_34 : decode cX5_addFour 34 = .ok (.iastore, 1) := by decide +kernel
theorem dX5_addFour_35 : decode cX5_addFour 35 = .ok (.aload_n 0, 1) := by decide +kernel
theorem dX5_addFour_36 : decode cX5_addFour 36 = .ok (.dup, 1) := by decide +kernel
theorem dX5_addFour_37 : decode cX5_addFour 37 = .ok (.getfield 15, 3) := by decide +kernel
theorem dX5_addFour_40 : decode cX5_addFour 40 = .ok (.iconst 1, 1) := by decide +kernel
theorem dX5_addFour_41 : decode cX5_addFour 41 = .ok (.iadd, 1) := by decide +kernel
theorem dX5_addFour_42 : decode cX5_addFour 42 = .ok (.putfield 15, 3) := by decide +kernel
theorem dX5_addFour_45 : decode cX5_addFour 45 = .ok (.iinc 2 (-8), 3) := by decide +kernel
theorem dX5_addFour_48 : decode cX5_addFour 48 = .ok (.goto (-45), 3) := by decide +kernel
theorem dX5_addFour_51 : decode cX5_addFour 51 = .ok (.return_, 1) := by decide +kernel
theorem dX5_byteAt_0 : decode cX5_byteAt 0 = .ok (.iload_n 1, 1) := by decide +kernel
theorem dX5_byteAt_1 : decode cX5_byteAt 1 = .ok (.ifCond .lt 29, 3) := by decide +kernel
theorem dX5_byteAt_4 : decode cX5_byteAt 4 = .ok (.iload_n 1, 1) := by decide +kernel
theorem dX5_byteAt_5 : decode cX5_byteAt 5 = .ok (.aload_n 0, 1) := by decide +kernel
theorem dX5_byteAt_6 : decode cX5_byteAt 6 = .ok (.getfield 15, 3) := by decide +kernel
theorem dX5_byteAt_9 : decode cX5_byteAt 9 = .ok (.if_icmp .ge 21, 3) := by decide +kernel
theorem dX5_byteAt_12 : decode cX5_byteAt 12 = .ok (.iload_n 1, 1) := by decide +kernel
theorem dX5_byteAt_13 : decode cX5_byteAt 13 = .ok (.aload_n 0, 1) := by decide +kernel
theorem dX5_byteAt_14 : decode cX5_byteAt 14 = .ok (.getfield 9, 3) := by decide +kernel
theorem dX5_byteAt_17 : decode cX5_byteAt 17 = .ok (.arraylength, 1) := by decide +kernel
theorem dX5_byteAt_18 : decode cX5_byteAt 18 = .ok (.if_icmp .ge 12, 3) := by decide +kernel
theorem dX5_byteAt_21 : decode cX5_byteAt 21 = .ok (.aload_n 0, 1) := by decide +kernel
theorem dX5_byteAt_22 : decode cX5_byteAt 22 = .ok (.getfield 9, 3) := by decide +kernel
theorem dX5_byteAt_25 : decode cX5_byteAt 25 = .ok (.iload_n 1, 1) := by decide +kernel
theorem dX5_byteAt_26 : decode cX5_byteAt 26 = .ok (.iaload, 1) := by decide +kernel
theorem dX5_byteAt_27 : decode cX5_byteAt 27 = .ok (.goto 4, 3) := by decide +kernel
theorem dX5_byteAt_30 : decode cX5_byteAt 30 = .ok (.iconst 0, 1) := by decide +kernel
theorem dX5_byteAt_31 : decode cX5_byteAt 31 = .ok (.ireturn, 1) := by decide +kernel
