theorem dX2_init_0 : decode cX2_init 0 = .ok (.aload_n 0, 1) := by decide +kernel
theorem dX2_init_1 : decode cX2_init 1 = .ok (.invokespecial 3, 3) := by decide +kernel
theorem dX2_init_4 : decode cX2_init 4 = .ok (.aload_n 0, 1) := by decide +kernel
theorem dX2_init_5 : decode cX2_init 5 = .ok (.bipush 90, 2) := by decide +kernel
theorem dX2_init_7 : decode cX2_init 7 = .ok (.newarray .int, 2) := by decide +kernel
theorem dX2_init_9 : decode cX2_init 9 = .ok (.putfield 9, 3) := by decide +kernel
theorem dX2_init_12 : decode cX2_init 12 = .ok (.return_, 1) := by decide +kernel
theorem dX2_length_0 : decode cX2_length 0 = .ok (.aload_n 0, 1) := by decide +kernel
theorem dX2_length_1 : decode cX2_length 1 = .ok (.getfield 15, 3) := by decide +kernel
theorem dX2_length_4 : decode cX2_length 4 = .ok (.ireturn, 1) := by decide +kernel
theorem dX2_width_0 : decode cX2_width 0 = .ok (.aload_n 0, 1) := by decide +kernel
theorem dX2_width_1 : decode cX2_width 1 = .ok (.getfield 19, 3) := by decide +kernel
theorem dX2_width_4 : decode cX2_width 4 = .ok (.ireturn, 1) := by decide +kernel
theorem dX2_faultPlace_0 : decode cX2_faultPlace 0 = .ok (.aload_n 0, 1) := by decide +kernel
theorem dX2_faultPlace_1 : decode cX2_faultPlace 1 = .ok (.getfield 22, 3) := by decide +kernel
theorem dX2_faultPlace_4 : decode cX2_faultPlace 4 = .ok (.ireturn, 1) := by decide +kernel
theorem dX2_append_0 : decode cX2_append 0 = .ok (.iconst 0, 1) := by decide +kernel
theorem dX2_append_1 : decode cX2_append 1 = .ok (.istore_n 3, 1) := by decide +kernel
theorem dX2_append_2 : decode cX2_append 2 = .ok (.iload_n 3, 1) := by decide +kernel
theorem dX2_append_3 : decode cX2_append 3 = .ok (.bipush 8, 2) := by decide +kernel
theorem dX2_append_5 : decode cX2_append 5 = .ok (.if_icmp .ge 17, 3) := by decide +kernel
theorem dX2_append_8 : decode cX2_append 8 = .ok (.lload_n 1, 1) := by decide +kernel
theorem dX2_append_9 : decode cX2_append 9 = .ok (.iload_n 3, 1) := by decide +kernel
theorem dX2_append_10 : decode cX2_append 10 = .ok (.invokestatic 25, 3) := by decide +kernel
theorem dX2_append_13 : decode cX2_append 13 = .ok (.ifCond .eq 9, 3) := by decide +kernel
theorem dX2_append_16 : decode cX2_append 16 = .ok (.iinc 3 1, 3) := by decide +kernel
theorem dX2_append_19 : decode cX2_append 19 = .ok (.goto (-17), 3) := by decide +kernel
theorem dX2_append_22 : decode cX2_append 22 = .ok (.aload_n 0, 1) := by decide +kernel
theorem dX2_append_23 : decode cX2_append 23 = .ok (.getfield 15, 3) := by decide +kernel
theorem dX2_append_26 : decode cX2_append 26 = .ok (.iload_n 3, 1) := by decide +kernel
theorem dX2_append_27 : decode cX2_append 27 = .ok (.iadd, 1) := by decide +kernel
theorem dX2_append_28 : decode cX2_append 28 = .ok (.bipush 90, 2) := by decide +kernel
theorem dX2_append_30 : decode cX2_append 30 = .ok (.if_icmp .le 6, 3) := by decide +kernel
theorem dX2_append_33 : decode cX2_append 33 = .ok (.bipush (-3), 2) := by decide +kernel
theorem dX2_append_35 : decode cX2_append 35 = .ok (.ireturn, 1) := by decide +kernel
theorem dX2_append_36 : decode cX2_append 36 = .ok (.iconst 0, 1) := by decide +kernel
theorem dX2_append_37 : decode cX2_append 37 = .ok (.istore 4, 2) := by decide +kernel
theorem dX2_append_39 : decode cX2_append 39 = .ok (.iload 4, 2) := by decide +kernel
theorem dX2_append_41 : decode cX2_append 41 = .ok (.iload_n 3, 1) := by decide +kernel
theorem dX2_append_42 : decode cX2_append 42 = .ok (.if_icmp .ge 27, 3) := by decide +kernel
theorem dX2_append_45 : decode cX2_append 45 = .ok (.aload_n 0, 1) := by decide +kernel
theorem dX2_append_46 : decode cX2_append 46 = .ok (.getfield 9, 3) := by decide +kernel
theorem dX2_append_49 : decode cX2_append 49 = .ok (.aload_n 0, 1) := by decide +kernel
theorem dX2_append_50 : decode cX2_append 50 = .ok (.getfield 15, 3) := by decide +kernel
theorem dX2_append_53 : decode cX2_append 53 = .ok (.iload 4, 2) := by decide +kernel
theorem dX2_append_55 : decode cX2_append 55 = .ok (.iadd, 1) := by decide +kernel
theorem dX2_append_56 : decode cX2_append 56 = .ok (.lload_n 1, 1) := by decide +kernel
theorem dX2_append_57 : decode cX2_append 57 = .ok (.iload 4, 2) := by decide +kernel
theorem dX2_append_59 : decode cX2_append 59 = .ok (.invokestatic 25, 3) := by decide +kernel
theorem dX2_append_62 : decode cX2_append 62 = .ok (.iastore, 1) := by decide +kernel
theorem dX2_append_63 : decode cX2_append 63 = .ok (.iinc 4 1, 3) := by decide +kernel
theorem dX2_append_66 : decode cX2_append 66 = .ok (.goto (-27), 3) := by decide +kernel
theorem dX2_append_69 : decode cX2_append 69 = .ok (.aload_n 0, 1) := by decide +kernel
theorem dX2_append_70 : decode cX2_append 70 = .ok (.dup, 1) := by decide +kernel
theorem dX2_append_71 : decode cX2_append 71 = .ok (.getfield 15, 3) := by decide +kernel
theorem dX2_append_74 : decode cX2_append 74 = .ok (.iload_n 3, 1) := by decide +kernel
theorem dX2_append_75 : decode cX2_append 75 = .ok (.iadd, 1) := by decide +kernel
theorem dX2_append_76 : decode cX2_append 76 = .ok (.putfield 15, 3) := by decide +kernel
theorem dX2_append_79 : decode cX2_append 79 = .ok (.aload_n 0, 1) := by decide +kernel
theorem dX2_append_80 : decode cX2_append 80 = .ok (.getfield 15, 3) := by decide +kernel
theorem dX2_append_83 : decode cX2_append 83 = .ok (.ireturn, 1) := by decide +kernel
theorem dX2_wipe_0 : decode cX2_wipe 0 = .ok (.aload_n 0, 1) := by decide +kernel
theorem dX2_wipe_1 : decode cX2_wipe 1 = .ok (.getfield 15, 3) := by decide +kernel
theorem dX2_wipe_4 : decode cX2_wipe 4 = .ok (.istore_n 1, 1) := by decide +kernel
theorem dX2_wipe_5 : decode cX2_wipe 5 = .ok (.aload_n 0, 1) := by decide +kernel
theorem dX2_wipe_6 : decode cX2_wipe 6 = .ok (.iconst 0, 1) := by decide +kernel
theorem dX2_wipe_7 : decode cX2_wipe 7 = .ok (.putfield 15, 3) := by decide +kernel
theorem dX2_wipe_10 : decode cX2_wipe 10 = .ok (.iload_n 1, 1) := by decide +kernel
theorem dX2_wipe_11 : decode cX2_wipe 11 = .ok (.ireturn, 1) := by decide +kernel
theorem dX2_kindOf_0 : decode cX2_kindOf 0 = .ok (.aload_n 0, 1) := by decide +kernel
theorem dX2_kindOf_1 : decode cX2_kindOf 1 = .ok (.getfield 9, 3) := by decide +kernel
theorem dX2_kindOf_4 : decode cX2_kindOf 4 = .ok (.iload_n 1, 1) := by decide +kernel
theorem dX2_kindOf_5 : decode cX2_kindOf 5 = .ok (.iaload, 1) := by decide +kernel
theorem dX2_kindOf_6 : decode cX2_kindOf 6 = .ok (.lookupswitch 70 #[(35, 58), (46, 60), (47, 68), (112, 66), (115, 62), (116, 64)], 58) := by decide +kernel
theorem dX2_kindOf_64 : decode cX2_kindOf 64 = .ok (.iconst 0, 1) := by decide +kernel
theorem dX2_kindOf_65 : decode cX2_kindOf 65 = .ok (.ireturn, 1) := by decide +kernel
theorem dX2_kindOf_66 : decode cX2_kindOf 66 = .ok (.iconst 1, 1) := by decide +kernel
theorem dX2_kindOf_67 : decode cX2_kindOf 67 = .ok (.ireturn, 1) := by decide +kernel
theorem dX2_kindOf_68 : decode cX2_kindOf 68 = .ok (.iconst 2, 1) := by decide +kernel
theorem dX2_kindOf_69 : decode cX2_kindOf 69 = .ok (.ireturn, 1) := by decide +kernel
theorem dX2_kindOf_70 : decode cX2_kindOf 70 = .ok (.iconst 3, 1) := by decide +kernel
theorem dX2_kindOf_71 : decode cX2_kindOf 71 = .ok (.ireturn, 1) := by decide +kernel
theorem dX2_kindOf_72 : decode cX2_kindOf 72 = .ok (.iconst 4, 1) := by decide +kernel
theorem dX2_kindOf_73 : decode cX2_kindOf 73 = .ok (.ireturn, 1) := by decide +kernel
theorem dX2_kindOf_74 : decode cX2_kindOf 74 = .ok (.iconst 5, 1) := by decide +kernel
theorem dX2_kindOf_75 : decode cX2_kindOf 75 = .ok (.ireturn, 1) := by decide +kernel
theorem dX2_kindOf_76 : decode cX2_kindOf 76 = .ok (.iconst (-1), 1) := by decide +kernel
theorem dX2_kindOf_77 : decode cX2_kindOf 77 = .ok (.ireturn, 1) := by decide +kernel
theorem dX2_findFault_0 : decode cX2_findFault 0 = .ok (.aload_n 0, 1) := by decide +kernel
theorem dX2_findFault_1 : decode cX2_findFault 1 = .ok (.iconst 0, 1) := by decide +kernel
theorem dX2_findFault_2 : decode cX2_findFault 2 = .ok (.putfield 29, 3) := by decide +kernel
theorem dX2_findFault_5 : decode cX2_findFault 5 = .ok (.aload_n 0, 1) := by decide +kernel
theorem dX2_findFault_6 : decode cX2_findFault 6 = .ok (.iconst 0, 1) := by decide +kernel
theorem dX2_findFault_7 : decode cX2_findFault 7 = .ok (.putfield 32, 3) := by decide +kernel
theorem dX2_findFault_10 : decode cX2_findFault 10 = .ok (.iconst 0, 1) := by decide +kernel
theorem dX2_findFault_11 : decode cX2_findFault 11 = .ok (.istore_n 1, 1) := by decide +kernel
theorem dX2_findFault_12 : decode cX2_findFault 12 = .ok (.iload_n 1, 1) := by decide +kernel
theorem dX2_findFault_13 : decode cX2_findFault 13 = .ok (.aload_n 0, 1) := by decide +kernel
theorem dX2_findFault_14 : decode cX2_findFault 14 = .ok (.getfield 15, 3) := by decide +kernel
theorem dX2_findFault_17 : decode cX2_findFault 17 = .ok (.if_icmp .ge 74, 3) := by decide +kernel
theorem dX2_findFault_20 : decode cX2_findFault 20 = .ok (.aload_n 0, 1) := by decide +kernel
theorem dX2_findFault_21 : decode cX2_findFault 21 = .ok (.iload_n 1, 1) := by decide +kernel
theorem dX2_findFault_22 : decode cX2_findFault 22 = .ok (.invokevirtual 35, 3) := by decide +kernel
theorem dX2_findFault_25 : decode cX2_findFault 25 = .ok (.istore_n 2, 1) := by decide +kernel
theorem dX2_findFault_26 : decode cX2_findFault 26 = .ok (.iload_n 2, 1) := by decide +kernel
theorem dX2_findFault_27 : decode cX2_findFault 27 = .ok (.iconst (-1), 1) := by decide +kernel
theorem dX2_findFault_28 : decode cX2_findFault 28 = .ok (.if_icmp .ne 11, 3) := by decide +kernel
theorem dX2_findFault_31 : decode cX2_findFault 31 = .ok (.aload_n 0, 1) := by decide +kernel
theorem dX2_findFault_32 : decode cX2_findFault 32 = .ok (.iload_n 1, 1) := by decide +kernel
theorem dX2_findFault_33 : decode cX2_findFault 33 = .ok (.putfield 22, 3) := by decide +kernel
theorem dX2_findFault_36 : decode cX2_findFault 36 = .ok (.bipush (-11), 2) := by decide +kernel
theorem dX2_findFault_38 : decode cX2_findFault 38 = .ok (.ireturn, 1) := by decide +kernel
theorem dX2_findFault_39 : decode cX2_findFault 39 = .ok (.iload_n 2, 1) := by decide +kernel
theorem dX2_findFault_40 : decode cX2_findFault 40 = .ok (.iconst 5, 1) := by decide +kernel
theorem dX2_findFault_41 : decode cX2_findFault 41 = .ok (.if_icmp .ne 27, 3) := by decide +kernel
theorem dX2_findFault_44 : decode cX2_findFault 44 = .ok (.aload_n 0, 1) := by decide +kernel
theorem dX2_findFault_45 : decode cX2_findFault 45 = .ok (.invokevirtual 39, 3) := by decide +kernel
theorem dX2_findFault_48 : decode cX2_findFault 48 = .ok (.ifCond .eq 16, 3) := by decide +kernel
theorem dX2_findFault_51 : decode cX2_findFault 51 = .ok (.aload_n 0, 1) := by decide +kernel
theorem dX2_findFault_52 : decode cX2_findFault 52 = .ok (.getfield 29, 3) := by decide +kernel
theorem dX2_findFault_55 : decode cX2_findFault 55 = .ok (.bipush 8, 2) := by decide +kernel
theorem dX2_findFault_57 : decode cX2_findFault 57 = .ok (.if_icmp .ge 7, 3) := by decide +kernel
theorem dX2_findFault_60 : decode cX2_findFault 60 = .ok (.iconst 1, 1) := by decide +kernel
theorem dX2_findFault_61 : decode cX2_findFault 61 = .ok (.goto 11, 3) := by decide +kernel
theorem dX2_findFault_64 : decode cX2_findFault 64 = .ok (.iconst 0, 1) := by decide +kernel
theorem dX2_findFault_65 : decode cX2_findFault 65 = .ok (.goto 7, 3) := by decide +kernel
theorem dX2_findFault_68 : decode cX2_findFault 68 = .ok (.aload_n 0, 1) := by decide +kernel
theorem dX2_findFault_69 : decode cX2_findFault 69 = .ok (.invokevirtual 43, 3) := by decide +kernel
theorem dX2_findFault_72 : decode cX2_findFault 72 = .ok (.istore_n 3, 1) := by decide +kernel
theorem dX2_findFault_73 : decode cX2_findFault 73 = .ok (.iload_n 3, 1) := by decide +kernel
theorem dX2_findFault_74 : decode cX2_findFault 74 = .ok (.ifCond .ne 11, 3) := by decide +kernel
theorem dX2_findFault_77 : decode cX2_findFault 77 = .ok (.aload_n 0, 1) := by decide +kernel
theorem dX2_findFault_78 : decode cX2_findFault 78 = .ok (.iload_n 1, 1) := by decide +kernel
theorem dX2_findFault_79 : decode cX2_findFault 79 = .ok (.putfield 22, 3) := by decide +kernel
theorem dX2_findFault_82 : decode cX2_findFault 82 = .ok (.bipush (-12), 2) := by decide +kernel
theorem dX2_findFault_84 : decode cX2_findFault 84 = .ok (.ireturn, 1) := by decide +kernel
theorem dX2_findFault_85 : decode cX2_findFault 85 = .ok (.iinc 1 1, 3) := by decide +kernel
theorem dX2_findFault_88 : decode cX2_findFault 88 = .ok (.goto (-76), 3) := by decide +kernel
theorem dX2_findFault_91 : decode cX2_findFault 91 = .ok (.aload_n 0, 1) := by decide +kernel
theorem dX2_findFault_92 : decode cX2_findFault 92 = .ok (.aload_n 0, 1) := by decide +kernel
theorem dX2_findFault_93 : decode cX2_findFault 93 = .ok (.getfield 15, 3) := by decide +kernel
theorem dX2_findFault_96 : decode cX2_findFault 96 = .ok (.putfield 22, 3) := by decide +kernel
theorem dX2_findFault_99 : decode cX2_findFault 99 = .ok (.aload_n 0, 1) := by decide +kernel
theorem dX2_findFault_100 : decode cX2_findFault 100 = .ok (.invokevirtual 39, 3) := by decide +kernel
theorem dX2_findFault_103 : decode cX2_findFault 103 = .ok (.ifCond .eq 7, 3) := by decide +kernel
theorem dX2_findFault_106 : decode cX2_findFault 106 = .ok (.iconst 0, 1) := by decide +kernel
theorem dX2_findFault_107 : decode cX2_findFault 107 = .ok (.goto 5, 3) := by decide +kernel
theorem dX2_findFault_110 : decode cX2_findFault 110 = .ok (.bipush (-12), 2) := by decide +kernel
theorem dX2_findFault_112 : decode cX2_findFault 112 = .ok (.ireturn, 1) := by decide +kernel
theorem dX2_widenLine_0 : decode cX2_widenLine 0 = .ok (.aload_n 0, 1) := by decide +kernel
theorem dX2_widenLine_1 : decode cX2_widenLine 1 = .ok (.dup, 1) := by decide +kernel
theorem dX2_widenLine_2 : decode cX2_widenLine 2 = .ok (.getfield 32, 3) := by decide +kernel
theorem dX2_widenLine_5 : decode cX2_widenLine 5 = .ok (.iconst 1, 1) := by decide +kernel
theorem dX2_widenLine_6 : decode cX2_widenLine 6 = .ok (.iadd, 1) := by decide +kernel
theorem dX2_widenLine_7 : decode cX2_widenLine 7 = .ok (.putfield 32, 3) := by decide +kernel
theorem dX2_widenLine_10 : decode cX2_widenLine 10 = .ok (.aload_n 0, 1) := by decide +kernel
theorem dX2_widenLine_11 : decode cX2_widenLine 11 = .ok (.getfield 32, 3) := by decide +kernel
theorem dX2_widenLine_14 : decode cX2_widenLine 14 = .ok (.aload_n 0, 1) := by decide +kernel
theorem dX2_widenLine_15 : decode cX2_widenLine 15 = .ok (.getfield 29, 3) := by decide +kernel
theorem dX2_widenLine_18 : decode cX2_widenLine 18 = .ok (.ifCond .ne 8, 3) := by decide +kernel
theorem dX2_widenLine_21 : decode cX2_widenLine 21 = .ok (.bipush 10, 2) := by decide +kernel
theorem dX2_widenLine_23 : decode cX2_widenLine 23 = .ok (.goto 7, 3) := by decide +kernel
theorem dX2_widenLine_26 : decode cX2_widenLine 26 = .ok (.aload_n 0, 1) := by decide +kernel
theorem dX2_widenLine_27 : decode cX2_widenLine 27 = .ok (.getfield 19, 3) := by decide +kernel
theorem dX2_widenLine_30 : decode cX2_widenLine 30 = .ok (.if_icmp .gt 7, 3) := by decide +kernel
theorem dX2_widenLine_33 : decode cX2_widenLine 33 = .ok (.iconst 1, 1) := by decide +kernel
theorem dX2_widenLine_34 : decode cX2_widenLine 34 = .ok (.goto 4, 3) := by decide +kernel
theorem dX2_widenLine_37 : decode cX2_widenLine 37 = .ok (.iconst 0, 1) := by decide +kernel
theorem dX2_widenLine_38 : decode cX2_widenLine 38 = .ok (.ireturn, 1) := by decide +kernel
theorem dX2_endLine_0 : decode cX2_endLine 0 = .ok (.aload_n 0, 1) := by decide +kernel
theorem dX2_endLine_1 : decode cX2_endLine 1 = .ok (.getfield 32, 3) := by decide +kernel
theorem dX2_endLine_4 : decode cX2_endLine 4 = .ok (.ifCond .eq 21, 3) := by decide +kernel
theorem dX2_endLine_7 : decode cX2_endLine 7 = .ok (.aload_n 0, 1) := by decide +kernel
theorem dX2_endLine_8 : decode cX2_endLine 8 = .ok (.getfield 29, 3) := by decide +kernel
theorem dX2_endLine_11 : decode cX2_endLine 11 = .ok (.ifCond .le 16, 3) := by decide +kernel
theorem dX2_endLine_14 : decode cX2_endLine 14 = .ok (.aload_n 0, 1) := by decide +kernel
theorem dX2_endLine_15 : decode cX2_endLine 15 = .ok (.getfield 32, 3) := by decide +kernel
theorem dX2_endLine_18 : decode cX2_endLine 18 = .ok (.aload_n 0, 1) := by decide +kernel
theorem dX2_endLine_19 : decode cX2_endLine 19 = .ok (.getfield 19, 3) := by decide +kernel
theorem dX2_endLine_22 : decode cX2_endLine 22 = .ok (.if_icmp .ge 5, 3) := by decide +kernel
theorem dX2_endLine_25 : decode cX2_endLine 25 = .ok (.iconst 0, 1) := by decide +kernel
theorem dX2_endLine_26 : decode cX2_endLine 26 = .ok (.ireturn, 1) := by decide +kernel
theorem dX2_endLine_27 : decode cX2_endLine 27 = .ok (.aload_n 0, 1) := by decide +kernel
theorem dX2_endLine_28 : decode cX2_endLine 28 = .ok (.aload_n 0, 1) := by decide +kernel
theorem dX2_endLine_29 : decode cX2_endLine 29 = .ok (.getfield 32, 3) := by decide +kernel
theorem dX2_endLine_32 : decode cX2_endLine 32 = .ok (.putfield 19, 3) := by decide +kernel
theorem dX2_endLine_35 : decode cX2_endLine 35 = .ok (.aload_n 0, 1) := by decide +kernel
theorem dX2_endLine_36 : decode cX2_endLine 36 = .ok (.iconst 0, 1) := by decide +kernel
theorem dX2_endLine_37 : decode cX2_endLine 37 = .ok (.putfield 32, 3) := by decide +kernel
theorem dX2_endLine_40 : decode cX2_endLine 40 = .ok (.aload_n 0, 1) := by decide +kernel
theorem dX2_endLine_41 : decode cX2_endLine 41 = .ok (.dup, 1) := by decide +kernel
theorem dX2_endLine_42 : decode cX2_endLine 42 = .ok (.getfield 29, 3) := by decide +kernel
theorem dX2_endLine_45 : decode cX2_endLine 45 = .ok (.iconst 1, 1) := by decide +kernel
theorem dX2_endLine_46 : decode cX2_endLine 46 = .ok (.iadd, 1) := by decide +kernel
theorem dX2_endLine_47 : decode cX2_endLine 47 = .ok (.putfield 29, 3) := by decide +kernel
theorem dX2_endLine_50 : decode cX2_endLine 50 = .ok (.iconst 1, 1) := by decide +kernel
theorem dX2_endLine_51 : decode cX2_endLine 51 = .ok (.ireturn, 1) := by decide +kernel
theorem dX2_byteOf_0 : decode cX2_byteOf 0 = .ok (.lload_n 0, 1) := by decide +kernel
theorem dX2_byteOf_1 : decode cX2_byteOf 1 = .ok (.bipush 8, 2) := by decide +kernel
theorem dX2_byteOf_3 : decode cX2_byteOf 3 = .ok (.iload_n 2, 1) := by decide +kernel
theorem dX2_byteOf_4 : decode cX2_byteOf 4 = .ok (.imul, 1) := by decide +kernel
theorem dX2_byteOf_5 : decode cX2_byteOf 5 = .ok (.lushr, 1) := by decide +kernel
theorem dX2_byteOf_6 : decode cX2_byteOf 6 = .ok (.l2i, 1) := by decide +kernel
theorem dX2_byteOf_7 : decode cX2_byteOf 7 = .ok (.sipush 255, 3) := by decide +kernel
theorem dX2_byteOf_10 : decode cX2_byteOf 10 = .ok (.iand, 1) := by decide +kernel
theorem dX2_byteOf_11 : decode cX2_byteOf 11 = .ok (.ireturn, 1) := by decide +kernel
