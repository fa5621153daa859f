theorem dX8_isDigit_0 : decode cX8_isDigit 0 = .ok (.iload_n 0, 1) := by decide +kernel
theorem dX8_isDigit_1 : decode cX8_isDigit 1 = .ok (.ifCond .lt 13, 3) := by decide +kernel
theorem dX8_isDigit_4 : decode cX8_isDigit 4 = .ok (.iload_n 0, 1) := by decide +kernel
theorem dX8_isDigit_5 : decode cX8_isDigit 5 = .ok (.bipush 9, 2) := by decide +kernel
theorem dX8_isDigit_7 : decode cX8_isDigit 7 = .ok (.if_icmp .gt 7, 3) := by decide +kernel
theorem dX8_isDigit_10 : decode cX8_isDigit 10 = .ok (.iconst 1, 1) := by decide +kernel
theorem dX8_isDigit_11 : decode cX8_isDigit 11 = .ok (.goto 4, 3) := by decide +kernel
theorem dX8_isDigit_14 : decode cX8_isDigit 14 = .ok (.iconst 0, 1) := by decide +kernel
theorem dX8_isDigit_15 : decode cX8_isDigit 15 = .ok (.ireturn, 1) := by decide +kernel
theorem dX8_isLetter_0 : decode cX8_isLetter 0 = .ok (.iload_n 0, 1) := by decide +kernel
theorem dX8_isLetter_1 : decode cX8_isLetter 1 = .ok (.ifCond .lt 13, 3) := by decide +kernel
theorem dX8_isLetter_4 : decode cX8_isLetter 4 = .ok (.iload_n 0, 1) := by decide +kernel
theorem dX8_isLetter_5 : decode cX8_isLetter 5 = .ok (.bipush 6, 2) := by decide +kernel
theorem dX8_isLetter_7 : decode cX8_isLetter 7 = .ok (.if_icmp .ge 7, 3) := by decide +kernel
theorem dX8_isLetter_10 : decode cX8_isLetter 10 = .ok (.iconst 1, 1) := by decide +kernel
theorem dX8_isLetter_11 : decode cX8_isLetter 11 = .ok (.goto 4, 3) := by decide +kernel
theorem dX8_isLetter_14 : decode cX8_isLetter 14 = .ok (.iconst 0, 1) := by decide +kernel
theorem dX8_isLetter_15 : decode cX8_isLetter 15 = .ok (.ireturn, 1) := by decide +kernel
theorem dX8_isQuill_0 : decode cX8_isQuill 0 = .ok (.iload_n 0, 1) := by decide +kernel
theorem dX8_isQuill_1 : decode cX8_isQuill 1 = .ok (.invokestatic 185, 3) := by decide +kernel
theorem dX8_isQuill_4 : decode cX8_isQuill 4 = .ok (.ifCond .eq 16, 3) := by decide +kernel
theorem dX8_isQuill_7 : decode cX8_isQuill 7 = .ok (.iload_n 1, 1) := by decide +kernel
theorem dX8_isQuill_8 : decode cX8_isQuill 8 = .ok (.ifCond .lt 12, 3) := by decide +kernel
theorem dX8_isQuill_11 : decode cX8_isQuill 11 = .ok (.iload_n 1, 1) := by decide +kernel
theorem dX8_isQuill_12 : decode cX8_isQuill 12 = .ok (.iconst 3, 1) := by decide +kernel
theorem dX8_isQuill_13 : decode cX8_isQuill 13 = .ok (.if_icmp .ge 7, 3) := by decide +kernel
theorem dX8_isQuill_16 : decode cX8_isQuill 16 = .ok (.iconst 1, 1) := by decide +kernel
theorem dX8_isQuill_17 : decode cX8_isQuill 17 = .ok (.goto 4, 3) := by decide +kernel
theorem dX8_isQuill_20 : decode cX8_isQuill 20 = .ok (.iconst 0, 1) := by decide +kernel
theorem dX8_isQuill_21 : decode cX8_isQuill 21 = .ok (.ireturn, 1) := by decide +kernel
theorem dX8_halvesOf_0 : decode cX8_halvesOf 0 = .ok (.iload_n 0, 1) := by decide +kernel
theorem dX8_halvesOf_1 : decode cX8_halvesOf 1 = .ok (.ifCond .ne 5, 3) := by decide +kernel
theorem dX8_halvesOf_4 : decode cX8_halvesOf 4 = .ok (.iconst 3, 1) := by decide +kernel
theorem dX8_halvesOf_5 : decode cX8_halvesOf 5 = .ok (.ireturn, 1) := by decide +kernel
theorem dX8_halvesOf_6 : decode cX8_halvesOf 6 = .ok (.iload_n 0, 1) := by decide +kernel
theorem dX8_halvesOf_7 : decode cX8_halvesOf 7 = .ok (.iconst 1, 1) := by decide +kernel
theorem dX8_halvesOf_8 : decode cX8_halvesOf 8 = .ok (.if_icmp .eq 8, 3) := by decide +kernel
theorem dX8_halvesOf_11 : decode cX8_halvesOf 11 = .ok (.iload_n 0, 1) := by decide +kernel
theorem dX8_halvesOf_12 : decode cX8_halvesOf 12 = .ok (.iconst 2, 1) := by decide +kernel
theorem dX8_halvesOf_13 : decode cX8_halvesOf 13 = .ok (.if_icmp .ne 7, 3) := by decide +kernel
theorem dX8_halvesOf_16 : decode cX8_halvesOf 16 = .ok (.iload_n 0, 1) := by decide +kernel
theorem dX8_halvesOf_17 : decode cX8_halvesOf 17 = .ok (.goto 4, 3) := by decide +kernel
theorem dX8_halvesOf_20 : decode cX8_halvesOf 20 = .ok (.iconst 0, 1) := by decide +kernel
theorem dX8_halvesOf_21 : decode cX8_halvesOf 21 = .ok (.ireturn, 1) := by decide +kernel
theorem dX8_commonDivisor_0 : decode cX8_commonDivisor 0 = .ok (.lload_n 0, 1) := by decide +kernel
theorem dX8_commonDivisor_1 : decode cX8_commonDivisor 1 = .ok (.lstore 4, 2) := by decide +kernel
theorem dX8_commonDivisor_3 : decode cX8_commonDivisor 3 = .ok (.lload_n 2, 1) := by decide +kernel
theorem dX8_commonDivisor_4 : decode cX8_commonDivisor 4 = .ok (.lstore 6, 2) := by decide +kernel
theorem dX8_commonDivisor_6 : decode cX8_commonDivisor 6 = .ok (.iconst 0, 1) := by decide +kernel
theorem dX8_commonDivisor_7 : decode cX8_commonDivisor 7 = .ok (.istore 8, 2) := by decide +kernel
theorem dX8_commonDivisor_9 : decode cX8_commonDivisor 9 = .ok (.iload 8, 2) := by decide +kernel
theorem dX8_commonDivisor_11 : decode cX8_commonDivisor 11 = .ok (.sipush 200, 3) := by decide +kernel
theorem dX8_commonDivisor_14 : decode cX8_commonDivisor 14 = .ok (.if_icmp .ge 31, 3) := by decide +kernel
theorem dX8_commonDivisor_17 : decode cX8_commonDivisor 17 = .ok (.lload 6, 2) := by decide +kernel
theorem dX8_commonDivisor_19 : decode cX8_commonDivisor 19 = .ok (.lconst 0, 1) := by decide +kernel
theorem dX8_commonDivisor_20 : decode cX8_commonDivisor 20 = .ok (.lcmp, 1) := by decide +kernel
theorem dX8_commonDivisor_21 : decode cX8_commonDivisor 21 = .ok (.ifCond .eq 24, 3) := by decide +kernel
theorem dX8_commonDivisor_24 : decode cX8_commonDivisor 24 = .ok (.lload 4, 2) := by decide +kernel
theorem dX8_commonDivisor_26 : decode cX8_commonDivisor 26 = .ok (.lload 6, 2) := by decide +kernel
theorem dX8_commonDivisor_28 : decode cX8_commonDivisor 28 = .ok (.lrem, 1) := by decide +kernel
theorem dX8_commonDivisor_29 : decode cX8_commonDivisor 29 = .ok (.lstore 9, 2) := by decide +kernel
theorem dX8_commonDivisor_31 : decode cX8_commonDivisor 31 = .ok (.lload 6, 2) := by decide +kernel
theorem dX8_commonDivisor_33 : decode cX8_commonDivisor 33 = .ok (.lstore 4, 2) := by decide +kernel
theorem dX8_commonDivisor_35 : decode cX8_commonDivisor 35 = .ok (.lload 9, 2) := by decide +kernel
theorem dX8_commonDivisor_37 : decode cX8_commonDivisor 37 = .ok (.lstore 6, 2) := by decide +kernel
theorem dX8_commonDivisor_39 : decode cX8_commonDivisor 39 = .ok (.iinc 8 1, 3) := by decide +kernel
theorem dX8_commonDivisor_42 : decode cX8_commonDivisor 42 = .ok (.goto (-33), 3) := by decide +kernel
theorem dX8_commonDivisor_45 : decode cX8_commonDivisor 45 = .ok (.lload 4, 2) := by decide +kernel
theorem dX8_commonDivisor_47 : decode cX8_commonDivisor 47 = .ok (.lconst 0, 1) := by decide +kernel
theorem dX8_commonDivisor_48 : decode cX8_commonDivisor 48 = .ok (.lcmp, 1) := by decide +kernel
theorem dX8_commonDivisor_49 : decode cX8_commonDivisor 49 = .ok (.ifCond .le 8, 3) := by decide +kernel
theorem dX8_commonDivisor_52 : decode cX8_commonDivisor 52 = .ok (.lload 4, 2) := by decide +kernel
theorem dX8_commonDivisor_54 : decode cX8_commonDivisor 54 = .ok (.goto 4, 3) := by decide +kernel
theorem dX8_commonDivisor_57 : decode cX8_commonDivisor 57 = .ok (.lconst 1, 1) := by decide +kernel
theorem dX8_commonDivisor_58 : decode cX8_commonDivisor 58 = .ok (.lreturn, 1) := by decide +kernel
