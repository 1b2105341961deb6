theorem dX8_init_0 : decode cX8_init 0 = .ok (.aload_n 0, 1) := by decide +kernel
theorem dX8_init_1 : decode cX8_init 1 = .ok (.invokespecial 3, 3) := by decide +kernel
theorem dX8_init_4 : decode cX8_init 4 = .ok (.aload_n 0, 1) := by decide +kernel
theorem dX8_init_5 : decode cX8_init 5 = .ok (.sipush 5001, 3) := by decide +kernel
theorem dX8_init_8 : decode cX8_init 8 = .ok (.newarray .long, 2) := by decide +kernel
theorem dX8_init_10 : decode cX8_init 10 = .ok (.putfield 9, 3) := by decide +kernel
theorem dX8_init_13 : decode cX8_init 13 = .ok (.aload_n 0, 1) := by decide +kernel
theorem dX8_init_14 : decode cX8_init 14 = .ok (.bipush 6, 2) := by decide +kernel
theorem dX8_init_16 : decode cX8_init 16 = .ok (.newarray .int, 2) := by decide +kernel
theorem dX8_init_18 : decode cX8_init 18 = .ok (.putfield 15, 3) := by decide +kernel
theorem dX8_init_21 : decode cX8_init 21 = .ok (.aload_n 0, 1) := by decide +kernel
theorem dX8_init_22 : decode cX8_init 22 = .ok (.bipush 6, 2) := by decide +kernel
theorem dX8_init_24 : decode cX8_init 24 = .ok (.newarray .int, 2) := by decide +kernel
theorem dX8_init_26 : decode cX8_init 26 = .ok (.putfield 19, 3) := by decide +kernel
theorem dX8_init_29 : decode cX8_init 29 = .ok (.aload_n 0, 1) := by decide +kernel
theorem dX8_init_30 : decode cX8_init 30 = .ok (.bipush 80, 2) := by decide +kernel
theorem dX8_init_32 : decode cX8_init 32 = .ok (.newarray .int, 2) := by decide +kernel
theorem dX8_init_34 : decode cX8_init 34 = .ok (.putfield 22, 3) := by decide +kernel
theorem dX8_init_37 : decode cX8_init 37 = .ok (.return_, 1) := by decide +kernel
theorem dX8_robots_0 : decode cX8_robots 0 = .ok (.aload_n 0, 1) := by decide +kernel
theorem dX8_robots_1 : decode cX8_robots 1 = .ok (.getfield 25, 3) := by decide +kernel
theorem dX8_robots_4 : decode cX8_robots 4 = .ok (.ireturn, 1) := by decide +kernel
theorem dX8_endOf_0 : decode cX8_endOf 0 = .ok (.aload_n 0, 1) := by decide +kernel
theorem dX8_endOf_1 : decode cX8_endOf 1 = .ok (.getfield 15, 3) := by decide +kernel
theorem dX8_endOf_4 : decode cX8_endOf 4 = .ok (.iload_n 1, 1) := by decide +kernel
theorem dX8_endOf_5 : decode cX8_endOf 5 = .ok (.iaload, 1) := by decide +kernel
theorem dX8_endOf_6 : decode cX8_endOf 6 = .ok (.ireturn, 1) := by decide +kernel
theorem dX8_endTimeOf_0 : decode cX8_endTimeOf 0 = .ok (.aload_n 0, 1) := by decide +kernel
theorem dX8_endTimeOf_1 : decode cX8_endTimeOf 1 = .ok (.getfield 19, 3) := by decide +kernel
theorem dX8_endTimeOf_4 : decode cX8_endTimeOf 4 = .ok (.iload_n 1, 1) := by decide +kernel
theorem dX8_endTimeOf_5 : decode cX8_endTimeOf 5 = .ok (.iaload, 1) := by decide +kernel
theorem dX8_endTimeOf_6 : decode cX8_endTimeOf 6 = .ok (.ireturn, 1) := by decide +kernel
theorem dX8_ownerOf_0 : decode cX8_ownerOf 0 = .ok (.aload_n 0, 1) := by decide +kernel
theorem dX8_ownerOf_1 : decode cX8_ownerOf 1 = .ok (.getfield 22, 3) := by decide +kernel
theorem dX8_ownerOf_4 : decode cX8_ownerOf 4 = .ok (.iload_n 1, 1) := by decide +kernel
theorem dX8_ownerOf_5 : decode cX8_ownerOf 5 = .ok (.iaload, 1) := by decide +kernel
theorem dX8_ownerOf_6 : decode cX8_ownerOf 6 = .ok (.ireturn, 1) := by decide +kernel
theorem dX8_isEndOfOther_0 : decode cX8_isEndOfOther 0 = .ok (.aload_n 0, 1) := by decide +kernel
theorem dX8_isEndOfOther_1 : decode cX8_isEndOfOther 1 = .ok (.getfield 22, 3) := by decide +kernel
theorem dX8_isEndOfOther_4 : decode cX8_isEndOfOther 4 = .ok (.iload_n 1, 1) := by decide +kernel
theorem dX8_isEndOfOther_5 : decode cX8_isEndOfOther 5 = .ok (.iaload, 1) := by decide +kernel
theorem dX8_isEndOfOther_6 : decode cX8_isEndOfOther 6 = .ok (.iconst (-1), 1) := by decide +kernel
theorem dX8_isEndOfOther_7 : decode cX8_isEndOfOther 7 = .ok (.if_icmp .eq 17, 3) := by decide +kernel
theorem dX8_isEndOfOther_10 : decode cX8_isEndOfOther 10 = .ok (.aload_n 0, 1) := by decide +kernel
theorem dX8_isEndOfOther_11 : decode cX8_isEndOfOther 11 = .ok (.getfield 22, 3) := by decide +kernel
theorem dX8_isEndOfOther_14 : decode cX8_isEndOfOther 14 = .ok (.iload_n 1, 1) := by decide +kernel
theorem dX8_isEndOfOther_15 : decode cX8_isEndOfOther 15 = .ok (.iaload, 1) := by decide +kernel
theorem dX8_isEndOfOther_16 : decode cX8_isEndOfOther 16 = .ok (.iload_n 2, 1) := by decide +kernel
theorem dX8_isEndOfOther_17 : decode cX8_isEndOfOther 17 = .ok (.if_icmp .eq 7, 3) := by decide +kernel
theorem dX8_isEndOfOther_20 : decode cX8_isEndOfOther 20 = .ok (.iconst 1, 1) := by decide +kernel
theorem dX8_isEndOfOther_21 : decode cX8_isEndOfOther 21 = .ok (.goto 4, 3) := by decide +kernel
theorem dX8_isEndOfOther_24 : decode cX8_isEndOfOther 24 = .ok (.iconst 0, 1) := by decide +kernel
theorem dX8_isEndOfOther_25 : decode cX8_isEndOfOther 25 = .ok (.ireturn, 1) := by decide +kernel
theorem dX8_clear_0 : decode cX8_clear 0 = .ok (.aload_n 0, 1) := by decide +kernel
theorem dX8_clear_1 : decode cX8_clear 1 = .ok (.getfield 22, 3) := by decide +kernel
theorem dX8_clear_4 : decode cX8_clear 4 = .ok (.iconst (-1), 1) := by decide +kernel
theorem dX8_clear_5 : decode cX8_clear 5 = .ok (.invokestatic 29, 3) := by decide +kernel
theorem dX8_clear_8 : decode cX8_clear 8 = .ok (.aload_n 0, 1) := by decide +kernel
theorem dX8_clear_9 : decode cX8_clear 9 = .ok (.iconst 0, 1) := by decide +kernel
theorem dX8_clear_10 : decode cX8_clear 10 = .ok (.putfield 25, 3) := by decide +kernel
theorem dX8_clear_13 : decode cX8_clear 13 = .ok (.return_, 1) := by decide +kernel
theorem dX8_add_0 : decode cX8_add 0 = .ok (.aload_n 0, 1) := by decide +kernel
theorem dX8_add_1 : decode cX8_add 1 = .ok (.getfield 15, 3) := by decide +kernel
theorem dX8_add_4 : decode cX8_add 4 = .ok (.aload_n 0, 1) := by decide +kernel
theorem dX8_add_5 : decode cX8_add 5 = .ok (.getfield 25, 3) := by decide +kernel
theorem dX8_add_8 : decode cX8_add 8 = .ok (.iload_n 1, 1) := by decide +kernel
theorem dX8_add_9 : decode cX8_add 9 = .ok (.iastore, 1) := by decide +kernel
theorem dX8_add_10 : decode cX8_add 10 = .ok (.aload_n 0, 1) := by decide +kernel
theorem dX8_add_11 : decode cX8_add 11 = .ok (.getfield 19, 3) := by decide +kernel
theorem dX8_add_14 : decode cX8_add 14 = .ok (.aload_n 0, 1) := by decide +kernel
theorem dX8_add_15 : decode cX8_add 15 = .ok (.getfield 25, 3) := by decide +kernel
theorem dX8_add_18 : decode cX8_add 18 = .ok (.iconst 0, 1) := by decide +kernel
theorem dX8_add_19 : decode cX8_add 19 = .ok (.iastore, 1) := by decide +kernel
theorem dX8_add_20 : decode cX8_add 20 = .ok (.aload_n 0, 1) := by decide +kernel
theorem dX8_add_21 : decode cX8_add 21 = .ok (.getfield 22, 3) := by decide +kernel
theorem dX8_add_24 : decode cX8_add 24 = .ok (.iload_n 1, 1) := by decide +kernel
theorem dX8_add_25 : decode cX8_add 25 = .ok (.aload_n 0, 1) := by decide +kernel
theorem dX8_add_26 : decode cX8_add 26 = .ok (.getfield 25, 3) := by decide +kernel
theorem dX8_add_29 : decode cX8_add 29 = .ok (.iastore, 1) := by decide +kernel
theorem dX8_add_30 : decode cX8_add 30 = .ok (.aload_n 0, 1) := by decide +kernel
theorem dX8_add_31 : decode cX8_add 31 = .ok (.aload_n 0, 1) := by decide +kernel
theorem dX8_add_32 : decode cX8_add 32 = .ok (.getfield 25, 3) := by decide +kernel
theorem dX8_add_35 : decode cX8_add 35 = .ok (.iconst 0, 1) := by decide +kernel
theorem dX8_add_36 : decode cX8_add 36 = .ok (.iload_n 1, 1) := by decide +kernel
theorem dX8_add_37 : decode cX8_add 37 = .ok (.invokevirtual 35, 3) := by decide +kernel
theorem dX8_add_40 : decode cX8_add 40 = .ok (.aload_n 0, 1) := by decide +kernel
theorem dX8_add_41 : decode cX8_add 41 = .ok (.dup, 1) := by decide +kernel
theorem dX8_add_42 : decode cX8_add 42 = .ok (.getfield 25, 3) := by decide +kernel
theorem dX8_add_45 : decode cX8_add 45 = .ok (.iconst 1, 1) := by decide +kernel
theorem dX8_add_46 : decode cX8_add 46 = .ok (.iadd, 1) := by decide +kernel
theorem dX8_add_47 : decode cX8_add 47 = .ok (.putfield 25, 3) := by decide +kernel
theorem dX8_add_50 : decode cX8_add 50 = .ok (.return_, 1) := by decide +kernel
theorem dX8_cellAt_0 : decode cX8_cellAt 0 = .ok (.iload_n 2, 1) := by decide +kernel
theorem dX8_cellAt_1 : decode cX8_cellAt 1 = .ok (.aload_n 0, 1) := by decide +kernel
theorem dX8_cellAt_2 : decode cX8_cellAt 2 = .ok (.getfield 19, 3) := by decide +kernel
theorem dX8_cellAt_5 : decode cX8_cellAt 5 = .ok (.iload_n 1, 1) := by decide +kernel
theorem dX8_cellAt_6 : decode cX8_cellAt 6 = .ok (.iaload, 1) := by decide +kernel
theorem dX8_cellAt_7 : decode cX8_cellAt 7 = .ok (.if_icmp .lt 12, 3) := by decide +kernel
theorem dX8_cellAt_10 : decode cX8_cellAt 10 = .ok (.aload_n 0, 1) := by decide +kernel
theorem dX8_cellAt_11 : decode cX8_cellAt 11 = .ok (.getfield 15, 3) := by decide +kernel
theorem dX8_cellAt_14 : decode cX8_cellAt 14 = .ok (.iload_n 1, 1) := by decide +kernel
theorem dX8_cellAt_15 : decode cX8_cellAt 15 = .ok (.iaload, 1) := by decide +kernel
theorem dX8_cellAt_16 : decode cX8_cellAt 16 = .ok (.goto 19, 3) := by decide +kernel
theorem dX8_cellAt_19 : decode cX8_cellAt 19 = .ok (.aload_n 0, 1) := by decide +kernel
theorem dX8_cellAt_20 : decode cX8_cellAt 20 = .ok (.getfield 9, 3) := by decide +kernel
theorem dX8_cellAt_23 : decode cX8_cellAt 23 = .ok (.iload_n 2, 1) := by decide +kernel
theorem dX8_cellAt_24 : decode cX8_cellAt 24 = .ok (.laload, 1) := by decide +kernel
theorem dX8_cellAt_25 : decode cX8_cellAt 25 = .ok (.bipush 8, 2) := by decide +kernel
theorem dX8_cellAt_27 : decode cX8_cellAt 27 = .ok (.iload_n 1, 1) := by decide +kernel
theorem dX8_cellAt_28 : decode cX8_cellAt 28 = .ok (.imul, 1) := by decide +kernel
theorem dX8_cellAt_29 : decode cX8_cellAt 29 = .ok (.lushr, 1) := by decide +kernel
theorem dX8_cellAt_30 : decode cX8_cellAt 30 = .ok (.l2i, 1) := by decide +kernel
theorem dX8_cellAt_31 : decode cX8_cellAt 31 = .ok (.sipush 255, 3) := by decide +kernel
theorem dX8_cellAt_34 : decode cX8_cellAt 34 = .ok (.iand, 1) := by decide +kernel
theorem dX8_cellAt_35 : decode cX8_cellAt 35 = .ok (.ireturn, 1) := by decide +kernel
theorem dX8_write_0 : decode cX8_write 0 = .ok (.bipush 8, 2) := by decide +kernel
theorem dX8_write_2 : decode cX8_write 2 = .ok (.iload_n 1, 1) := by decide +kernel
theorem dX8_write_3 : decode cX8_write 3 = .ok (.imul, 1) := by decide +kernel
theorem dX8_write_4 : decode cX8_write 4 = .ok (.istore 4, 2) := by decide +kernel
theorem dX8_write_6 : decode cX8_write 6 = .ok (.aload_n 0, 1) := by decide +kernel
theorem dX8_write_7 : decode cX8_write 7 = .ok (.getfield 9, 3) := by decide +kernel
theorem dX8_write_10 : decode cX8_write 10 = .ok (.iload_n 2, 1) := by decide +kernel
theorem dX8_write_11 : decode cX8_write 11 = .ok (.aload_n 0, 1) := by decide +kernel
theorem dX8_write_12 : decode cX8_write 12 = .ok (.getfield 9, 3) := by decide +kernel
theorem dX8_write_15 : decode cX8_write 15 = .ok (.iload_n 2, 1) := by decide +kernel
theorem dX8_write_16 : decode cX8_write 16 = .ok (.laload, 1) := by decide +kernel
theorem dX8_write_17 : decode cX8_write 17 = .ok (.ldc2_w 39, 3) := by decide +kernel
theorem dX8_write_20 : decode cX8_write 20 = .ok (.iload 4, 2) := by decide +kernel
theorem dX8_write_22 : decode cX8_write 22 = .ok (.lshl, 1) := by decide +kernel
theorem dX8_write_23 : decode cX8_write 23 = .ok (.ldc2_w 41, 3) := by decide +kernel
theorem dX8_write_26 : decode cX8_write 26 = .ok (.lxor, 1) := by decide +kernel
theorem dX8_write_27 : decode cX8_write 27 = .ok (.land, 1) := by decide +kernel
theorem dX8_write_28 : decode cX8_write 28 = .ok (.iload_n 3, 1) := by decide +kernel
theorem dX8_write_29 : decode cX8_write 29 = .ok (.i2l, 1) := by decide +kernel
theorem dX8_write_30 : decode cX8_write 30 = .ok (.iload 4, 2) := by decide +kernel
theorem dX8_write_32 : decode cX8_write 32 = .ok (.lshl, 1) := by decide +kernel
theorem dX8_write_33 : decode cX8_write 33 = .ok (.lor, 1) := by decide +kernel
theorem dX8_write_34 : decode cX8_write 34 = .ok (.lastore, 1) := by decide +kernel
theorem dX8_write_35 : decode cX8_write 35 = .ok (.return_, 1) := by decide +kernel
theorem dX8_setEnd_0 : decode cX8_setEnd 0 = .ok (.aload_n 0, 1) := by decide +kernel
theorem dX8_setEnd_1 : decode cX8_setEnd 1 = .ok (.getfield 22, 3) := by decide +kernel
theorem dX8_setEnd_4 : decode cX8_setEnd 4 = .ok (.aload_n 0, 1) := by decide +kernel
theorem dX8_setEnd_5 : decode cX8_setEnd 5 = .ok (.getfield 15, 3) := by decide +kernel
theorem dX8_setEnd_8 : decode cX8_setEnd 8 = .ok (.iload_n 1, 1) := by decide +kernel
theorem dX8_setEnd_9 : decode cX8_setEnd 9 = .ok (.iaload, 1) := by decide +kernel
theorem dX8_setEnd_10 : decode cX8_setEnd 10 = .ok (.iconst (-1), 1) := by decide +kernel
theorem dX8_setEnd_11 : decode cX8_setEnd 11 = .ok (.iastore, 1) := by decide +kernel
theorem dX8_setEnd_12 : decode cX8_setEnd 12 = .ok (.aload_n 0, 1) := by decide +kernel
theorem dX8_setEnd_13 : decode cX8_setEnd 13 = .ok (.getfield 22, 3) := by decide +kernel
theorem dX8_setEnd_16 : decode cX8_setEnd 16 = .ok (.iload_n 3, 1) := by decide +kernel
theorem dX8_setEnd_17 : decode cX8_setEnd 17 = .ok (.iload_n 1, 1) := by decide +kernel
theorem dX8_setEnd_18 : decode cX8_setEnd 18 = .ok (.iastore, 1) := by decide +kernel
theorem dX8_setEnd_19 : decode cX8_setEnd 19 = .ok (.aload_n 0, 1) := by decide +kernel
theorem dX8_setEnd_20 : decode cX8_setEnd 20 = .ok (.getfield 15, 3) := by decide +kernel
theorem dX8_setEnd_23 : decode cX8_setEnd 23 = .ok (.iload_n 1, 1) := by decide +kernel
theorem dX8_setEnd_24 : decode cX8_setEnd 24 = .ok (.iload_n 3, 1) := by decide +kernel
theorem dX8_setEnd_25 : decode cX8_setEnd 25 = .ok (.iastore, 1) := by decide +kernel
theorem dX8_setEnd_26 : decode cX8_setEnd 26 = .ok (.aload_n 0, 1) := by decide +kernel
theorem dX8_setEnd_27 : decode cX8_setEnd 27 = .ok (.getfield 19, 3) := by decide +kernel
theorem dX8_setEnd_30 : decode cX8_setEnd 30 = .ok (.iload_n 1, 1) := by decide +kernel
theorem dX8_setEnd_31 : decode cX8_setEnd 31 = .ok (.iload_n 2, 1) := by decide +kernel
theorem dX8_setEnd_32 : decode cX8_setEnd 32 = .ok (.iastore, 1) := by decide +kernel
theorem dX8_setEnd_33 : decode cX8_setEnd 33 = .ok (.return_, 1) := by decide +kernel
theorem dX8_keep_0 : decode cX8_keep 0 = .ok (.aload_n 0, 1) := by decide +kernel
theorem dX8_keep_1 : decode cX8_keep 1 = .ok (.iload_n 1, 1) := by decide +kernel
theorem dX8_keep_2 : decode cX8_keep 2 = .ok (.iload_n 2, 1) := by decide +kernel
theorem dX8_keep_3 : decode cX8_keep 3 = .ok (.aload_n 0, 1) := by decide +kernel
theorem dX8_keep_4 : decode cX8_keep 4 = .ok (.iload_n 1, 1) := by decide +kernel
theorem dX8_keep_5 : decode cX8_keep 5 = .ok (.iload_n 2, 1) := by decide +kernel
theorem dX8_keep_6 : decode cX8_keep 6 = .ok (.invokevirtual 43, 3) := by decide +kernel
theorem dX8_keep_9 : decode cX8_keep 9 = .ok (.invokevirtual 35, 3) := by decide +kernel
theorem dX8_keep_12 : decode cX8_keep 12 = .ok (.return_, 1) := by decide +kernel
