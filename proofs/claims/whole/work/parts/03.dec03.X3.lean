theorem dX3_init_0 : decode cX3_init 0 = .ok (.aload_n 0, 1) := by decide +kernel
theorem dX3_init_1 : decode cX3_init 1 = .ok (.invokespecial 3, 3) := by decide +kernel
theorem dX3_init_4 : decode cX3_init 4 = .ok (.return_, 1) := by decide +kernel
theorem dX3_alarms_0 : decode cX3_alarms 0 = .ok (.aload_n 0, 1) := by decide +kernel
theorem dX3_alarms_1 : decode cX3_alarms 1 = .ok (.getfield 9, 3) := by decide +kernel
theorem dX3_alarms_4 : decode cX3_alarms 4 = .ok (.ireturn, 1) := by decide +kernel
theorem dX3_clear_0 : decode cX3_clear 0 = .ok (.aload_n 0, 1) := by decide +kernel
theorem dX3_clear_1 : decode cX3_clear 1 = .ok (.iconst 0, 1) := by decide +kernel
theorem dX3_clear_2 : decode cX3_clear 2 = .ok (.putfield 9, 3) := by decide +kernel
theorem dX3_clear_5 : decode cX3_clear 5 = .ok (.return_, 1) := by decide +kernel
theorem dX3_look_0 : decode cX3_look 0 = .ok (.iconst 0, 1) := by decide +kernel
theorem dX3_look_1 : decode cX3_look 1 = .ok (.istore 4, 2) := by decide +kernel
theorem dX3_look_3 : decode cX3_look 3 = .ok (.iload 4, 2) := by decide +kernel
theorem dX3_look_5 : decode cX3_look 5 = .ok (.aload_n 2, 1) := by decide +kernel
theorem dX3_look_6 : decode cX3_look 6 = .ok (.invokevirtual 15, 3) := by decide +kernel
theorem dX3_look_9 : decode cX3_look 9 = .ok (.if_icmp .ge 109, 3) := by decide +kernel
theorem dX3_look_12 : decode cX3_look 12 = .ok (.aload_n 2, 1) := by decide +kernel
theorem dX3_look_13 : decode cX3_look 13 = .ok (.iload 4, 2) := by decide +kernel
theorem dX3_look_15 : decode cX3_look 15 = .ok (.iload_n 3, 1) := by decide +kernel
theorem dX3_look_16 : decode cX3_look 16 = .ok (.iconst 1, 1) := by decide +kernel
theorem dX3_look_17 : decode cX3_look 17 = .ok (.isub, 1) := by decide +kernel
theorem dX3_look_18 : decode cX3_look 18 = .ok (.invokevirtual 21, 3) := by decide +kernel
theorem dX3_look_21 : decode cX3_look 21 = .ok (.istore 5, 2) := by decide +kernel
theorem dX3_look_23 : decode cX3_look 23 = .ok (.aload_n 2, 1) := by decide +kernel
theorem dX3_look_24 : decode cX3_look 24 = .ok (.iload 4, 2) := by decide +kernel
theorem dX3_look_26 : decode cX3_look 26 = .ok (.iload_n 3, 1) := by decide +kernel
theorem dX3_look_27 : decode cX3_look 27 = .ok (.invokevirtual 21, 3) := by decide +kernel
theorem dX3_look_30 : decode cX3_look 30 = .ok (.istore 6, 2) := by decide +kernel
theorem dX3_look_32 : decode cX3_look 32 = .ok (.aload_n 1, 1) := by decide +kernel
theorem dX3_look_33 : decode cX3_look 33 = .ok (.iload 6, 2) := by decide +kernel
theorem dX3_look_35 : decode cX3_look 35 = .ok (.invokevirtual 25, 3) := by decide +kernel
theorem dX3_look_38 : decode cX3_look 38 = .ok (.ifCond .ne 13, 3) := by decide +kernel
theorem dX3_look_41 : decode cX3_look 41 = .ok (.aload_n 0, 1) := by decide +kernel
theorem dX3_look_42 : decode cX3_look 42 = .ok (.dup, 1) := by decide +kernel
theorem dX3_look_43 : decode cX3_look 43 = .ok (.getfield 9, 3) := by decide +kernel
theorem dX3_look_46 : decode cX3_look 46 = .ok (.iconst 1, 1) := by decide +kernel
theorem dX3_look_47 : decode cX3_look 47 = .ok (.iadd, 1) := by decide +kernel
theorem dX3_look_48 : decode cX3_look 48 = .ok (.putfield 9, 3) := by decide +kernel
theorem dX3_look_51 : decode cX3_look 51 = .ok (.aload_n 1, 1) := by decide +kernel
theorem dX3_look_52 : decode cX3_look 52 = .ok (.iload 5, 2) := by decide +kernel
theorem dX3_look_54 : decode cX3_look 54 = .ok (.iload 6, 2) := by decide +kernel
theorem dX3_look_56 : decode cX3_look 56 = .ok (.invokevirtual 31, 3) := by decide +kernel
theorem dX3_look_59 : decode cX3_look 59 = .ok (.ifCond .ne 13, 3) := by decide +kernel
theorem dX3_look_62 : decode cX3_look 62 = .ok (.aload_n 0, 1) := by decide +kernel
theorem dX3_look_63 : decode cX3_look 63 = .ok (.dup, 1) := by decide +kernel
theorem dX3_look_64 : decode cX3_look 64 = .ok (.getfield 9, 3) := by decide +kernel
theorem dX3_look_67 : decode cX3_look 67 = .ok (.iconst 1, 1) := by decide +kernel
theorem dX3_look_68 : decode cX3_look 68 = .ok (.iadd, 1) := by decide +kernel
theorem dX3_look_69 : decode cX3_look 69 = .ok (.putfield 9, 3) := by decide +kernel
theorem dX3_look_72 : decode cX3_look 72 = .ok (.iconst 0, 1) := by decide +kernel
theorem dX3_look_73 : decode cX3_look 73 = .ok (.istore 7, 2) := by decide +kernel
theorem dX3_look_75 : decode cX3_look 75 = .ok (.iload 7, 2) := by decide +kernel
theorem dX3_look_77 : decode cX3_look 77 = .ok (.iload 4, 2) := by decide +kernel
theorem dX3_look_79 : decode cX3_look 79 = .ok (.if_icmp .ge 33, 3) := by decide +kernel
theorem dX3_look_82 : decode cX3_look 82 = .ok (.aload_n 0, 1) := by decide +kernel
theorem dX3_look_83 : decode cX3_look 83 = .ok (.iload 5, 2) := by decide +kernel
theorem dX3_look_85 : decode cX3_look 85 = .ok (.iload 6, 2) := by decide +kernel
theorem dX3_look_87 : decode cX3_look 87 = .ok (.aload_n 2, 1) := by decide +kernel
theorem dX3_look_88 : decode cX3_look 88 = .ok (.iload 7, 2) := by decide +kernel
theorem dX3_look_90 : decode cX3_look 90 = .ok (.iload_n 3, 1) := by decide +kernel
theorem dX3_look_91 : decode cX3_look 91 = .ok (.iconst 1, 1) := by decide +kernel
theorem dX3_look_92 : decode cX3_look 92 = .ok (.isub, 1) := by decide +kernel
theorem dX3_look_93 : decode cX3_look 93 = .ok (.invokevirtual 21, 3) := by decide +kernel
theorem dX3_look_96 : decode cX3_look 96 = .ok (.aload_n 2, 1) := by decide +kernel
theorem dX3_look_97 : decode cX3_look 97 = .ok (.iload 7, 2) := by decide +kernel
theorem dX3_look_99 : decode cX3_look 99 = .ok (.iload_n 3, 1) := by decide +kernel
theorem dX3_look_100 : decode cX3_look 100 = .ok (.invokevirtual 21, 3) := by decide +kernel
theorem dX3_look_103 : decode cX3_look 103 = .ok (.invokevirtual 35, 3) := by decide +kernel
theorem dX3_look_106 : decode cX3_look 106 = .ok (.iinc 7 1, 3) := by decide +kernel
theorem dX3_look_109 : decode cX3_look 109 = .ok (.goto (-34), 3) := by decide +kernel
theorem dX3_look_112 : decode cX3_look 112 = .ok (.iinc 4 1, 3) := by decide +kernel
theorem dX3_look_115 : decode cX3_look 115 = .ok (.goto (-112), 3) := by decide +kernel
theorem dX3_look_118 : decode cX3_look 118 = .ok (.return_, 1) := by decide +kernel
theorem dX3_lookAtTwo_0 : decode cX3_lookAtTwo 0 = .ok (.iload_n 2, 1) := by decide +kernel
theorem dX3_lookAtTwo_1 : decode cX3_lookAtTwo 1 = .ok (.iload 4, 2) := by decide +kernel
theorem dX3_lookAtTwo_3 : decode cX3_lookAtTwo 3 = .ok (.if_icmp .ne 13, 3) := by decide +kernel
theorem dX3_lookAtTwo_6 : decode cX3_lookAtTwo 6 = .ok (.aload_n 0, 1) := by decide +kernel
theorem dX3_lookAtTwo_7 : decode cX3_lookAtTwo 7 = .ok (.dup, 1) := by decide +kernel
theorem dX3_lookAtTwo_8 : decode cX3_lookAtTwo 8 = .ok (.getfield 9, 3) := by decide +kernel
theorem dX3_lookAtTwo_11 : decode cX3_lookAtTwo 11 = .ok (.iconst 1, 1) := by decide +kernel
theorem dX3_lookAtTwo_12 : decode cX3_lookAtTwo 12 = .ok (.iadd, 1) := by decide +kernel
theorem dX3_lookAtTwo_13 : decode cX3_lookAtTwo 13 = .ok (.putfield 9, 3) := by decide +kernel
theorem dX3_lookAtTwo_16 : decode cX3_lookAtTwo 16 = .ok (.iload_n 2, 1) := by decide +kernel
theorem dX3_lookAtTwo_17 : decode cX3_lookAtTwo 17 = .ok (.iload_n 1, 1) := by decide +kernel
theorem dX3_lookAtTwo_18 : decode cX3_lookAtTwo 18 = .ok (.if_icmp .eq 24, 3) := by decide +kernel
theorem dX3_lookAtTwo_21 : decode cX3_lookAtTwo 21 = .ok (.iload_n 2, 1) := by decide +kernel
theorem dX3_lookAtTwo_22 : decode cX3_lookAtTwo 22 = .ok (.iload_n 3, 1) := by decide +kernel
theorem dX3_lookAtTwo_23 : decode cX3_lookAtTwo 23 = .ok (.if_icmp .ne 19, 3) := by decide +kernel
theorem dX3_lookAtTwo_26 : decode cX3_lookAtTwo 26 = .ok (.iload_n 1, 1) := by decide +kernel
theorem dX3_lookAtTwo_27 : decode cX3_lookAtTwo 27 = .ok (.iload 4, 2) := by decide +kernel
theorem dX3_lookAtTwo_29 : decode cX3_lookAtTwo 29 = .ok (.if_icmp .ne 13, 3) := by decide +kernel
theorem dX3_lookAtTwo_32 : decode cX3_lookAtTwo 32 = .ok (.aload_n 0, 1) := by decide +kernel
theorem dX3_lookAtTwo_33 : decode cX3_lookAtTwo 33 = .ok (.dup, 1) := by decide +kernel
theorem dX3_lookAtTwo_34 : decode cX3_lookAtTwo 34 = .ok (.getfield 9, 3) := by decide +kernel
theorem dX3_lookAtTwo_37 : decode cX3_lookAtTwo 37 = .ok (.iconst 1, 1) := by decide +kernel
theorem dX3_lookAtTwo_38 : decode cX3_lookAtTwo 38 = .ok (.iadd, 1) := by decide +kernel
theorem dX3_lookAtTwo_39 : decode cX3_lookAtTwo 39 = .ok (.putfield 9, 3) := by decide +kernel
theorem dX3_lookAtTwo_42 : decode cX3_lookAtTwo 42 = .ok (.return_, 1) := by decide +kernel
