theorem dX9_leastMove_96 : decode cX9_leastMove 96 = .ok (.iinc 4 1, 3) := by decide +kernel
theorem dX9_leastMove_99 : decode cX9_leastMove 99 = .ok (.goto (-96), 3) := by decide +kernel
theorem dX9_leastMove_102 : decode cX9_leastMove 102 = .ok (.iconst 0, 1) := by decide +kernel
theorem dX9_leastMove_103 : decode cX9_leastMove 103 = .ok (.ireturn, 1) := by decide +kernel
theorem dX9_empty_0 : decode cX9_empty 0 = .ok (.iconst 0, 1) := by decide +kernel
theorem dX9_empty_1 : decode cX9_empty 1 = .ok (.istore_n 2, 1) := by decide +kernel
theorem dX9_empty_2 : decode cX9_empty 2 = .ok (.iload_n 2, 1) := by decide +kernel
theorem dX9_empty_3 : decode cX9_empty 3 = .ok (.iconst 4, 1) := by decide +kernel
theorem dX9_empty_4 : decode cX9_empty 4 = .ok (.if_icmp .ge 20, 3) := by decide +kernel
theorem dX9_empty_7 : decode cX9_empty 7 = .ok (.aload_n 0, 1) := by decide +kernel
theorem dX9_empty_8 : decode cX9_empty 8 = .ok (.getfield 9, 3) := by decide +kernel
theorem dX9_empty_11 : decode cX9_empty 11 = .ok (.iconst 4, 1) := by decide +kernel
theorem dX9_empty_12 : decode cX9_empty 12 = .ok (.iload_n 1, 1) := by decide +kernel
theorem dX9_empty_13 : decode cX9_empty 13 = .ok (.imul, 1) := by decide +kernel
theorem dX9_empty_14 : decode cX9_empty 14 = .ok (.iload_n 2, 1) := by decide +kernel
theorem dX9_empty_15 : decode cX9_empty 15 = .ok (.iadd, 1) := by decide +kernel
theorem dX9_empty_16 : decode cX9_empty 16 = .ok (.lconst 0, 1) := by decide +kernel
theorem dX9_empty_17 : decode cX9_empty 17 = .ok (.lastore, 1) := by decide +kernel
theorem dX9_empty_18 : decode cX9_empty 18 = .ok (.iinc 2 1, 3) := by decide +kernel
theorem dX9_empty_21 : decode cX9_empty 21 = .ok (.goto (-19), 3) := by decide +kernel
theorem dX9_empty_24 : decode cX9_empty 24 = .ok (.return_, 1) := by decide +kernel
theorem dX9_add_0 : decode cX9_add 0 = .ok (.aload_n 0, 1) := by decide +kernel
theorem dX9_add_1 : decode cX9_add 1 = .ok (.getfield 9, 3) := by decide +kernel
theorem dX9_add_4 : decode cX9_add 4 = .ok (.iload_n 1, 1) := by decide +kernel
theorem dX9_add_5 : decode cX9_add 5 = .ok (.iload_n 2, 1) := by decide +kernel
theorem dX9_add_6 : decode cX9_add 6 = .ok (.bipush 6, 2) := by decide +kernel
theorem dX9_add_8 : decode cX9_add 8 = .ok (.ishr, 1) := by decide +kernel
theorem dX9_add_9 : decode cX9_add 9 = .ok (.iadd, 1) := by decide +kernel
theorem dX9_add_10 : decode cX9_add 10 = .ok (.dup2, 1) := by decide +kernel
theorem dX9_add_11 : decode cX9_add 11 = .ok (.laload, 1) := by decide +kernel
theorem dX9_add_12 : decode cX9_add 12 = .ok (.lconst 1, 1) := by decide +kernel
theorem dX9_add_13 : decode cX9_add 13 = .ok (.iload_n 2, 1) := by decide +kernel
theorem dX9_add_14 : decode cX9_add 14 = .ok (.lshl, 1) := by decide +kernel
theorem dX9_add_15 : decode cX9_add 15 = .ok (.lor, 1) := by decide +kernel
theorem dX9_add_16 : decode cX9_add 16 = .ok (.lastore, 1) := by decide +kernel
theorem dX9_add_17 : decode cX9_add 17 = .ok (.return_, 1) := by decide +kernel
theorem dX9_holds_0 : decode cX9_holds 0 = .ok (.aload_n 0, 1) := by decide +kernel
theorem dX9_holds_1 : decode cX9_holds 1 = .ok (.getfield 9, 3) := by decide +kernel
theorem dX9_holds_4 : decode cX9_holds 4 = .ok (.iload_n 1, 1) := by decide +kernel
theorem dX9_holds_5 : decode cX9_holds 5 = .ok (.iload_n 2, 1) := by decide +kernel
theorem dX9_holds_6 : decode cX9_holds 6 = .ok (.bipush 6, 2) := by decide +kernel
theorem dX9_holds_8 : decode cX9_holds 8 = .ok (.ishr, 1) := by decide +kernel
theorem dX9_holds_9 : decode cX9_holds 9 = .ok (.iadd, 1) := by decide +kernel
theorem dX9_holds_10 : decode cX9_holds 10 = .ok (.laload, 1) := by decide +kernel
theorem dX9_holds_11 : decode cX9_holds 11 = .ok (.iload_n 2, 1) := by decide +kernel
theorem dX9_holds_12 : decode cX9_holds 12 = .ok (.lushr, 1) := by decide +kernel
theorem dX9_holds_13 : decode cX9_holds 13 = .ok (.lconst 1, 1) := by decide +kernel
theorem dX9_holds_14 : decode cX9_holds 14 = .ok (.land, 1) := by decide +kernel
theorem dX9_holds_15 : decode cX9_holds 15 = .ok (.lconst 0, 1) := by decide +kernel
theorem dX9_holds_16 : decode cX9_holds 16 = .ok (.lcmp, 1) := by decide +kernel
theorem dX9_holds_17 : decode cX9_holds 17 = .ok (.ifCond .eq 7, 3) := by decide +kernel
theorem dX9_holds_20 : decode cX9_holds 20 = .ok (.iconst 1, 1) := by decide +kernel
theorem dX9_holds_21 : decode cX9_holds 21 = .ok (.goto 4, 3) := by decide +kernel
theorem dX9_holds_24 : decode cX9_holds 24 = .ok (.iconst 0, 1) := by decide +kernel
theorem dX9_holds_25 : decode cX9_holds 25 = .ok (.ireturn, 1) := by decide +kernel
theorem dX9_shiftedLow_0 : decode cX9_shiftedLow 0 = .ok (.iload 4, 2) := by decide +kernel
theorem dX9_shiftedLow_2 : decode cX9_shiftedLow 2 = .ok (.ifCond .le 10, 3) := by decide +kernel
theorem dX9_shiftedLow_5 : decode cX9_shiftedLow 5 = .ok (.lload_n 0, 1) := by decide +kernel
theorem dX9_shiftedLow_6 : decode cX9_shiftedLow 6 = .ok (.iload 4, 2) := by decide +kernel
theorem dX9_shiftedLow_8 : decode cX9_shiftedLow 8 = .ok (.lshl, 1) := by decide +kernel
theorem dX9_shiftedLow_9 : decode cX9_shiftedLow 9 = .ok (.goto 16, 3) := by decide +kernel
theorem dX9_shiftedLow_12 : decode cX9_shiftedLow 12 = .ok (.lload_n 0, 1) := by decide +kernel
theorem dX9_shiftedLow_13 : decode cX9_shiftedLow 13 = .ok (.iload 4, 2) := by decide +kernel
theorem dX9_shiftedLow_15 : decode cX9_shiftedLow 15 = .ok (.ineg, 1) := by decide +kernel
theorem dX9_shiftedLow_16 : decode cX9_shiftedLow 16 = .ok (.lushr, 1) := by decide +kernel
theorem dX9_shiftedLow_17 : decode cX9_shiftedLow 17 = .ok (.lload_n 2, 1) := by decide +kernel
theorem dX9_shiftedLow_18 : decode cX9_shiftedLow 18 = .ok (.bipush 64, 2) := by decide +kernel
theorem dX9_shiftedLow_20 : decode cX9_shiftedLow 20 = .ok (.iload 4, 2) := by decide +kernel
theorem dX9_shiftedLow_22 : decode cX9_shiftedLow 22 = .ok (.iadd, 1) := by decide +kernel
theorem dX9_shiftedLow_23 : decode cX9_shiftedLow 23 = .ok (.lshl, 1) := by decide +kernel
theorem dX9_shiftedLow_24 : decode cX9_shiftedLow 24 = .ok (.lor, 1) := by decide +kernel
theorem dX9_shiftedLow_25 : decode cX9_shiftedLow 25 = .ok (.lreturn, 1) := by decide +kernel
theorem dX9_shiftedHigh_0 : decode cX9_shiftedHigh 0 = .ok (.iload 4, 2) := by decide +kernel
theorem dX9_shiftedHigh_2 : decode cX9_shiftedHigh 2 = .ok (.ifCond .le 18, 3) := by decide +kernel
theorem dX9_shiftedHigh_5 : decode cX9_shiftedHigh 5 = .ok (.lload_n 2, 1) := by decide +kernel
theorem dX9_shiftedHigh_6 : decode cX9_shiftedHigh 6 = .ok (.iload 4, 2) := by decide +kernel
theorem dX9_shiftedHigh_8 : decode cX9_shiftedHigh 8 = .ok (.lshl, 1) := by decide +kernel
theorem dX9_shiftedHigh_9 : decode cX9_shiftedHigh 9 = .ok (.lload_n 0, 1) := by decide +kernel
theorem dX9_shiftedHigh_10 : decode cX9_shiftedHigh 10 = .ok (.bipush 64, 2) := by decide +kernel
theorem dX9_shiftedHigh_12 : decode cX9_shiftedHigh 12 = .ok (.iload 4, 2) := by decide +kernel
theorem dX9_shiftedHigh_14 : decode cX9_shiftedHigh 14 = .ok (.isub, 1) := by decide +kernel
theorem dX9_shiftedHigh_15 : decode cX9_shiftedHigh 15 = .ok (.lushr, 1) := by decide +kernel
theorem dX9_shiftedHigh_16 : decode cX9_shiftedHigh 16 = .ok (.lor, 1) := by decide +kernel
theorem dX9_shiftedHigh_17 : decode cX9_shiftedHigh 17 = .ok (.goto 8, 3) := by decide +kernel
theorem dX9_shiftedHigh_20 : decode cX9_shiftedHigh 20 = .ok (.lload_n 2, 1) := by decide +kernel
theorem dX9_shiftedHigh_21 : decode cX9_shiftedHigh 21 = .ok (.iload 4, 2) := by decide +kernel
theorem dX9_shiftedHigh_23 : decode cX9_shiftedHigh 23 = .ok (.ineg, 1) := by decide +kernel
theorem dX9_shiftedHigh_24 : decode cX9_shiftedHigh 24 = .ok (.lushr, 1) := by decide +kernel
theorem dX9_shiftedHigh_25 : decode cX9_shiftedHigh 25 = .ok (.lreturn, 1) := by decide +kernel
